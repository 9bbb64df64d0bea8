
abbrev q_s_ofNeedD (D : va_G) (ks : KS) (ad : Nat → Nat) (kk : Nat → ClassId) (V : Vf) (L : Lf) (p0 : Int32) (p1 : Int32) (p2 : Int32) (p3 : Int32) (p4 : Int32) (gB : Bk) (grk : Nat → Nat) (gr : List Fr) (ga : Int32) (gs : Int) (gt : Int) (gu : Int) (glv : Int) (go : Int) (gc : Int) (gsc : Int) (gat : Nat) (gnd : Int) (gtg : Int) (gv : Int32) (gpz : List Int32) (A : Nat → Prop) : Array Value → State → Outcome → State → Prop := va_Qi (fun (r : Int32) (u : Vf × Lf) => rgd bM u.1 ∧ agr [(0, 60), (0, 65), (0, 68), (0, 69), (0, 73), (0, 76), (0, 90), (0, 91), (0, 92), (0, 93), (0, 95), (0, 96), (0, 98)] [59, 61, 62, 63, 64, 66, 67, 74, 75, 77, 78, 79, 80, 94, 97] V u.1 ∧ u.2 = L ∧ (0 ≤ r.toInt ∧ r.toInt ≤ 2) ∧ ((u.1 0 93).toInt = (V 0 93).toInt) ∧ ((u.1 0 98).toInt = (V 0 98).toInt) ∧ ((V 0 60).toInt ≤ (u.1 0 60).toInt) ∧ ((V 0 65).toInt ≤ (u.1 0 65).toInt) ∧ ((u.1 0 65).toInt - (V 0 65).toInt ≤ (u.1 0 60).toInt - (V 0 60).toInt) ∧ ((u.1 0 73).toInt + (u.1 0 95).toInt - (u.1 0 65).toInt ≤ (V 0 73).toInt + (V 0 95).toInt - (V 0 65).toInt) ∧ ((V 0 73).toInt ≤ (u.1 0 73).toInt) ∧ ((V 0 69).toInt ≤ (u.1 0 69).toInt) ∧ ((u.1 0 95).toInt = (V 0 95).toInt) ∧ ((u.1 0 76).toInt - (u.1 0 69).toInt - (u.1 0 73).toInt ≤ (V 0 76).toInt - (V 0 69).toInt - (V 0 73).toInt) ∧ (RT u.1) ∧ (FRM V u.1 (-1)) ∧ (RJm u.1 gB) ∧ (PLK V u.1 (V 0 98).toInt.toNat) ∧ (DPo gB (mV V gs gt gu, ga, Fask glv go gc gsc (gat : Int) gnd gtg gv p4 gpz :: gr) u.1 (Fwork glv go gc gsc 0 0 (gat : Int) gv ((u.1 0 96) :: gpz) :: gr) gr r.toInt (24 * (10 - (V 0 93).toInt)))) (fun u t => gq D A (mw ad kk ks.1 u.1 u.2) (mty kk) t) A
def K_s_ofNeedD (l : Launch) (D : va_G) (ks : KS) (d1 d2 : Nat) : Prop := ∀ (sz : Nat) (ad : Nat → Nat) (kk : Nat → ClassId) (V : Vf) (L : Lf) (p0 : Int32) (p1 : Int32) (p2 : Int32) (p3 : Int32) (p4 : Int32) (gB : Bk) (grk : Nat → Nat) (gr : List Fr) (ga : Int32) (gs : Int) (gt : Int) (gu : Int) (glv : Int) (go : Int) (gc : Int) (gsc : Int) (gat : Nat) (gnd : Int) (gtg : Int) (gv : Int32) (gpz : List Int32) (hMV : rgd bM V) (rg_p0 : 0 ≤ p0.toInt ∧ p0.toInt ≤ 299) (rg_p1 : 0 ≤ p1.toInt ∧ p1.toInt ≤ 7) (rg_p2 : 0 ≤ p2.toInt ∧ p2.toInt ≤ 19) (rg_p3 : 0 ≤ p3.toInt ∧ p3.toInt ≤ 39) (rt : RT V) (n1 : (V 0 65).toInt ≤ (V 0 60).toInt) (n2 : (V 0 95).toInt ≤ (V 0 65).toInt) (n3 : (V 0 73).toInt + (V 0 95).toInt - (V 0 65).toInt ≤ 999000) (n4 : (V 0 76).toInt - (V 0 69).toInt - (V 0 73).toInt ≤ 1000000000) (n5 : 300 - (V 0 60).toInt ≤ (d1 : Int)) (n6 : 10 - (V 0 93).toInt ≤ (d2 : Int)) (bk : BKm V gB) (br : BKr gB grk) (rj : RJm V gB) (hl9 : ((gr.length : Nat) : Int) ≤ 28 * (V 0 93).toInt + 26) (hp9 : ((totP gr : Nat) : Int) ≤ 84 * (V 0 93).toInt + 56) (hg9 : ((gpz.length : Nat) : Int) ≤ 27) (sg0 : gs = 0 ∨ gs = 1) (oq1 : p0.toInt < (V 0 60).toInt) (n7 : (V 0 98).toInt + 400 * (d2 : Int) ≤ 19000) (nq : p1.toInt < (V 27 (24 * nwh V + Int32.toNatClampNeg (V 61 (Int32.toNatClampNeg p0)))).toInt) (zl9 : (V 0 93).toInt = glv) (zo9 : p0.toInt = go) (zc9 : (V 61 (Int32.toNatClampNeg p0)).toInt = gc) (zn9 : p1.toInt = gnd) (zt9 : p2.toInt = gtg) (zs9 : p3.toInt = gsc) (cm9 : CMPo V gB (Int32.toNatClampNeg p0)) , Met l yX12_ofNeed (Cond.code yX12_ofNeed cX12_ofNeed 10 (some .int) :: GW) (rK2 (4 * d1 + 40 * d2 + 10) (100 * d1 + 1000 * d2 + 380)) (va_Pc [.ref (ad 0), .int p0, .int p1, .int p2, .int p3, .int p4] (gp D ks (mw ad kk ks.1 V L) (mty kk) sz)) (q_s_ofNeedD D ks ad kk V L p0 p1 p2 p3 p4 gB grk gr ga gs gt gu glv go gc gsc gat gnd gtg gv gpz (va_A (mw ad kk ks.1 V L) sz)) 0 0 (va_A (mw ad kk ks.1 V L) sz)
abbrev q_s_wA0D (D : va_G) (ks : KS) (ad : Nat → Nat) (kk : Nat → ClassId) (V : Vf) (L : Lf) (p0 : Int32) (p1 : Int32) (p2 : Int32) (p3 : Int32) (p4 : Int32) (p5 : Int32) (gB : Bk) (grk : Nat → Nat) (gr : List Fr) (ga : Int32) (gs : Int) (gt : Int) (gu : Int) (glv : Int) (go : Int) (gc : Int) (gsc : Int) (gme : Int) (nd : Int) (lo : Nat) (hi : Nat) (gat : Nat) (A : Nat → Prop) : Array Value → State → Outcome → State → Prop := va_Qi (fun (r : Int32) (u : Vf × Lf) => rgd bM u.1 ∧ agr [(0, 60), (0, 65), (0, 68), (0, 69), (0, 73), (0, 76), (0, 90), (0, 91), (0, 92), (0, 93), (0, 95), (0, 96), (0, 98)] [59, 61, 62, 63, 64, 66, 67, 74, 75, 77, 78, 79, 80, 94, 97] V u.1 ∧ u.2 = L ∧ (0 ≤ r.toInt ∧ r.toInt ≤ 2) ∧ ((u.1 0 93).toInt = (V 0 93).toInt) ∧ ((u.1 0 98).toInt = (V 0 98).toInt) ∧ ((V 0 60).toInt ≤ (u.1 0 60).toInt) ∧ ((V 0 65).toInt ≤ (u.1 0 65).toInt) ∧ ((u.1 0 65).toInt - (V 0 65).toInt ≤ (u.1 0 60).toInt - (V 0 60).toInt) ∧ ((u.1 0 73).toInt + (u.1 0 95).toInt - (u.1 0 65).toInt ≤ (V 0 73).toInt + (V 0 95).toInt - (V 0 65).toInt) ∧ ((V 0 73).toInt ≤ (u.1 0 73).toInt) ∧ ((V 0 69).toInt ≤ (u.1 0 69).toInt) ∧ ((u.1 0 95).toInt = (V 0 95).toInt) ∧ ((u.1 0 76).toInt - (u.1 0 69).toInt - (u.1 0 73).toInt ≤ (V 0 76).toInt - (V 0 69).toInt - (V 0 73).toInt) ∧ (Imp (r.toInt ≠ 2) ((u.1 0 76).toInt - (u.1 0 69).toInt - (u.1 0 73).toInt + 1 ≤ (V 0 76).toInt - (V 0 69).toInt - (V 0 73).toInt)) ∧ (RT u.1) ∧ (FRM V u.1 (-1)) ∧ (RJm u.1 gB) ∧ (PLK V u.1 (V 0 98).toInt.toNat) ∧ (DPc gB (mV V 0 gt gu, ga, Fwork glv go gc gsc gme 0 ((gat : Nat) : Int) p4 [] :: gr) u.1 gr r.toInt (u.1 0 96) (24 * (10 - (V 0 93).toInt)))) (fun u t => gq D A (mw ad kk ks.1 u.1 u.2) (mty kk) t) A
def K_s_wA0D (l : Launch) (D : va_G) (ks : KS) (d1 d2 : Nat) : Prop := ∀ (sz : Nat) (ad : Nat → Nat) (kk : Nat → ClassId) (V : Vf) (L : Lf) (p0 : Int32) (p1 : Int32) (p2 : Int32) (p3 : Int32) (p4 : Int32) (p5 : Int32) (gB : Bk) (grk : Nat → Nat) (gr : List Fr) (ga : Int32) (gs : Int) (gt : Int) (gu : Int) (glv : Int) (go : Int) (gc : Int) (gsc : Int) (gme : Int) (nd : Int) (lo : Nat) (hi : Nat) (gat : Nat) (hMV : rgd bM V) (rg_p0 : 0 ≤ p0.toInt ∧ p0.toInt ≤ 19999) (rg_p1 : 0 ≤ p1.toInt ∧ p1.toInt ≤ 299) (rg_p3 : 0 ≤ p3.toInt ∧ p3.toInt ≤ 39) (rt : RT V) (n1 : (V 0 65).toInt ≤ (V 0 60).toInt) (n2 : (V 0 95).toInt ≤ (V 0 65).toInt) (n3 : (V 0 73).toInt + (V 0 95).toInt - (V 0 65).toInt ≤ 999000) (n4 : (V 0 76).toInt - (V 0 69).toInt - (V 0 73).toInt ≤ 1000000001) (n5 : 300 - (V 0 60).toInt ≤ (d1 : Int)) (n6 : 10 - (V 0 93).toInt ≤ (d2 : Int)) (bk : BKm V gB) (br : BKr gB grk) (rj : RJm V gB) (hs9 : gs = 2 → 0 ≤ gt ∧ gt ≤ 10000) (hl9 : ((gr.length : Nat) : Int) ≤ 28 * (V 0 93).toInt + 26) (hp9 : ((totP gr : Nat) : Int) ≤ 84 * (V 0 93).toInt + 56) (oq1 : p1.toInt < (V 0 60).toInt) (n7 : (V 0 98).toInt + 400 * (d2 : Int) + 30 ≤ 19000) (ce : CE nd false V lo hi (Int32.toNatClampNeg p0)) (hq : (hi : Int) ≤ 20000) (ndq : nd ≤ (V 27 (24 * nwh V + Int32.toNatClampNeg (V 61 (Int32.toNatClampNeg p1)))).toInt) (lo9 : (lo : Int) = 10000 * ((nwh V : Nat) : Int)) (zp9 : p0.toInt = ((10000 * nwh V + gat : Nat) : Int)) (oq9 : ∃ q9, OQ gB (ndW gB gc 0) (decide ((0 : Int) < 0)) gat 0 q9) (zl9 : (V 0 93).toInt = glv) (zo9 : p1.toInt = go) (zc9 : (V 61 (Int32.toNatClampNeg p1)).toInt = gc) (zs9 : p3.toInt = gsc) (cm9 : CMPo V gB (Int32.toNatClampNeg p1)) , Met l yX12_worksAround (Cond.code yX12_worksAround cX12_worksAround 13 (some .int) :: GW) (rK2 (4 * d1 + 40 * d2 + 11) (100 * d1 + 1000 * d2 + 410)) (va_Pc [.ref (ad 0), .int p0, .int p1, .int p2, .int p3, .int p4, .int p5] (gp D ks (mw ad kk ks.1 V L) (mty kk) sz)) (q_s_wA0D D ks ad kk V L p0 p1 p2 p3 p4 p5 gB grk gr ga gs gt gu glv go gc gsc gme nd lo hi gat (va_A (mw ad kk ks.1 V L) sz)) 0 0 (va_A (mw ad kk ks.1 V L) sz)
set_option maxHeartbeats 4000000 in
set_option maxRecDepth 100000 in
theorem s_wA0D {l : Launch} {D : va_G} {ks : KS} {d1 d2 : Nat} (hk_s_ofNeedD : K_s_ofNeedD l D ks d1 d2) : K_s_wA0D l D ks d1 d2 := by
  intro sz ad kk V L p0 p1 p2 p3 p4 p5 gB grk gr ga gs gt gu glv go gc gsc gme nd lo hi gat hMV rg_p0 rg_p1 rg_p3 rt n1 n2 n3 n4 n5 n6 bk br rj hs9 hl9 hp9 oq1 n7 ce hq ndq lo9 zp9 oq9 zl9 zo9 zc9 zs9 cm9
  refine g_met (q_s_wA0D D ks ad kk V L p0 p1 p2 p3 p4 p5 gB grk gr ga gs gt gu glv go gc gsc gme nd lo hi gat) (by decide) (Nat.le_of_ble_eq_true rfl) ?_
  intro p e s m below meth c A ls H locs hx hb hr hml hown hg hlocks hin hnw hgk hP hK hD hS hA hl
  have hown : s.vm.findClass RX12 = some m.cls := hown
  have hl : lv_has ls 13 [(0, .ref (ad 0)), (1, .int p0), (2, .int p1), (3, .int p2), (4, .int p3), (5, .int p4), (6, .int p5)] := hl
  have hP : va_P D vwCl (mw ad kk ks.1 V L) H := hP
  have hD : va_D A (mw ad kk ks.1 V L) := hD
  have hK : va_K D vwCl (mty kk) s := hK
  have agV : agr [(0, 60), (0, 65), (0, 68), (0, 69), (0, 73), (0, 76), (0, 90), (0, 91), (0, 92), (0, 93), (0, 95), (0, 96), (0, 98)] [59, 61, 62, 63, 64, 66, 67, 74, 75, 77, 78, 79, 80, 94, 97] V V := agr.rf
  have r1 : 0 ≤ ((V 0 65)).toInt ∧ ((V 0 65)).toInt ≤ 1000000 := hMV 0 65
  have r2 : 0 ≤ ((V 0 60)).toInt ∧ ((V 0 60)).toInt ≤ 300 := hMV 0 60
  have r3 : 0 ≤ ((V 0 95)).toInt ∧ ((V 0 95)).toInt ≤ 300 := hMV 0 95
  have r4 : 0 ≤ ((V 0 73)).toInt ∧ ((V 0 73)).toInt ≤ 1000000 := hMV 0 73
  have r5 : 0 ≤ ((V 0 76)).toInt ∧ ((V 0 76)).toInt ≤ 2000000000 := hMV 0 76
  have r6 : 0 ≤ ((V 0 69)).toInt ∧ ((V 0 69)).toInt ≤ 3000 := hMV 0 69
  have r7 : 0 ≤ ((V 0 93)).toInt ∧ ((V 0 93)).toInt ≤ 10 := hMV 0 93
  have r8 : 0 ≤ ((V 0 98)).toInt ∧ ((V 0 98)).toInt ≤ 20000 := hMV 0 98
  have r9 : 0 ≤ ((V 61 (Int32.toNatClampNeg p1))).toInt ∧ ((V 61 (Int32.toNatClampNeg p1))).toInt ≤ 23 := hMV 61 (Int32.toNatClampNeg p1)
  obtain ⟨hoc, ⟨f0, hf0⟩, hcw⟩ := ce
  have hoc2 : (V 45 (Int32.toNatClampNeg p0)).toInt = 1 := hoc
  have ln0 : ([] : List Int32).length = 0 := rfl
  refine lv_aload_n hx hb dX12_worksAround_0 rfl (lv_at hl 0 rfl) ?_
  refine va_get (D := D) (ci := 12) (v := .int (V 0 98)) (C := RX12) (T := TX12) (N := 100) hx hb hg inX12 hown hK hP 0 rfl rfl 98 (by decide) (hg _ w1804) (fun _ h9 => h9) rfl dX12_worksAround_1 ?_
  refine lv_istore (lv' := [(7, .int (V 0 98)), (0, .ref (ad 0)), (1, .int p0), (2, .int p1), (3, .int p2), (4, .int p3), (5, .int p4), (6, .int p5)]) hx hb dX12_worksAround_4 hl (by decide) rfl (fun ls hl => ?_)
  refine lv_iload_n hx hb dX12_worksAround_6 rfl (lv_at hl 2 rfl) ?_
  refine lv_istore (lv' := [(8, .int p0), (7, .int (V 0 98)), (0, .ref (ad 0)), (1, .int p0), (2, .int p1), (3, .int p2), (4, .int p3), (5, .int p4), (6, .int p5)]) hx hb dX12_worksAround_7 hl (by decide) rfl (fun ls hl => ?_)
  refine lv_iconst (v := 0) hx hb dX12_worksAround_9 (by decide) ?_
  refine lv_istore (lv' := [(9, .int 0), (8, .int p0), (7, .int (V 0 98)), (0, .ref (ad 0)), (1, .int p0), (2, .int p1), (3, .int p2), (4, .int p3), (5, .int p4), (6, .int p5)]) hx hb dX12_worksAround_10 hl (by decide) rfl (fun ls hl => ?_)
  have lp13 : ∀ (fulp13 : Nat) (gf : Nat) (gk : Nat) (gi : Nat) (gp : List Int32) (gm9 : Int) (y10 : Int32) (y11 : Int32) (V12 : Vf) (H : Heap) (locs : List Loc) (ls : Array Slot), 0 ≤ y10.toInt ∧ y10.toInt ≤ 2 → 0 ≤ y11.toInt → Imp (y10.toInt = 0) ((V12 0 98).toInt = (V 0 98).toInt + ((gk : Nat) : Int)) → Imp (y10.toInt ≠ 2) ((V12 0 76).toInt - (V12 0 69).toInt - (V12 0 73).toInt + 1 ≤ (V 0 76).toInt - (V 0 69).toInt - (V 0 73).toInt ∨ (y11.toInt = p0.toInt ∧ (V12 0 76).toInt - (V12 0 69).toInt - (V12 0 73).toInt ≤ (V 0 76).toInt - (V 0 69).toInt - (V 0 73).toInt ∧ y10.toInt = 0)) → (V12 0 93).toInt = (V 0 93).toInt → (V 0 60).toInt ≤ (V12 0 60).toInt → (V 0 65).toInt ≤ (V12 0 65).toInt → (V12 0 65).toInt - (V 0 65).toInt ≤ (V12 0 60).toInt - (V 0 60).toInt → (V12 0 73).toInt + (V12 0 95).toInt - (V12 0 65).toInt ≤ (V 0 73).toInt + (V 0 95).toInt - (V 0 65).toInt → (V 0 73).toInt ≤ (V12 0 73).toInt → (V 0 69).toInt ≤ (V12 0 69).toInt → (V12 0 95).toInt = (V 0 95).toInt → (V12 0 76).toInt - (V12 0 69).toInt - (V12 0 73).toInt ≤ (V 0 76).toInt - (V 0 69).toInt - (V 0 73).toInt → 0 ≤ y10.toInt ∧ y10.toInt ≤ 2 → RT V12 → FRM V V12 (-1) → Imp (y10.toInt = 0) (OKc nd false V 28 lo hi gf (Int32.toNatClampNeg y11) gk) → Imp (y10.toInt = 0) (WLo gB (mV V 0 gt gu, ga, Fwork glv go gc gsc gme 0 ((gat : Nat) : Int) p4 [] :: gr) V12 gr glv go gc gsc gm9 0 p4 gi gp) → Imp (y10.toInt = 0) (∃ q9, OQ gB (ndW gB gc 0) (decide ((0 : Int) < 0)) gi gp.length q9) → Imp (y10.toInt = 0) (plR V12 (V12 0 98).toInt.toNat gp) → Imp (y10.toInt = 0) (((gp.length : Nat) : Int) = ((gk : Nat) : Int) ∧ y11.toInt = ((10000 * nwh V + gi : Nat) : Int)) → Imp (y10.toInt ≠ 0) (DPc gB (mV V 0 gt gu, ga, Fwork glv go gc gsc gme 0 ((gat : Nat) : Int) p4 [] :: gr) V12 gr y10.toInt 0 (24 * (10 - (V 0 93).toInt))) → PLK V V12 (V 0 98).toInt.toNat → RJm V12 gB → ((gf : Nat) : Int) < (fulp13 : Int) → agr [(0, 60), (0, 65), (0, 68), (0, 69), (0, 73), (0, 76), (0, 90), (0, 91), (0, 92), (0, 93), (0, 95), (0, 96), (0, 98)] [59, 61, 62, 63, 64, 66, 67, 74, 75, 77, 78, 79, 80, 94, 97] V V12 → rgd bM V12 → va_P D vwCl (mw ad kk ks.1 V12 L) H → va_D A (mw ad kk ks.1 V12 L) → va_S A s.heap H locs → lv_has ls 13 [(9, .int y10), (8, .int y11), (7, .int (V 0 98)), (0, .ref (ad 0)), (1, .int p0), (2, .int p1), (3, .int p2), (4, .int p3), (5, .int p4), (6, .int p5)] → W p l e (rK2 (4 * d1 + 40 * d2 + 11) (100 * d1 + 1000 * d2 + 410)) s m ([.ref (ad 0), .int p0, .int p1, .int p2, .int p3, .int p4, .int p5] : List Value).toArray below meth c H locs 0 0 (MQ below (q_s_wA0D D ks ad kk V L p0 p1 p2 p3 p4 p5 gB grk gr ga gs gt gu glv go gc gsc gme nd lo hi gat A) ([.ref (ad 0), .int p0, .int p1, .int p2, .int p3, .int p4, .int p5] : List Value).toArray s 0 0 A) (F0 m 12 ls []) := by
    intro fulp13
    induction fulp13 with
    | zero =>
      intro gf gk gi gp gm9 y10 y11 V12 H locs ls klp13_0 xlp13_0 xlp13_1 xlp13_2 xlp13_3 xlp13_4 xlp13_5 xlp13_6 xlp13_7 xlp13_8 xlp13_9 xlp13_10 xlp13_11 xlp13_12 xlp13_13 xlp13_14 xlp13_15 xlp13_16 xlp13_17 xlp13_18 xlp13_19 xlp13_20 xlp13_21 xlp13_22 hn ajV12 hMV12 hP hD hS hl
      exfalso; (first | exact om_f221f60ae7cc hn | omega)
    | succ fulp13 ihlp13 =>
      intro gf gk gi gp gm9 y10 y11 V12 H locs ls klp13_0 xlp13_0 xlp13_1 xlp13_2 xlp13_3 xlp13_4 xlp13_5 xlp13_6 xlp13_7 xlp13_8 xlp13_9 xlp13_10 xlp13_11 xlp13_12 xlp13_13 xlp13_14 xlp13_15 xlp13_16 xlp13_17 xlp13_18 xlp13_19 xlp13_20 xlp13_21 xlp13_22 hn ajV12 hMV12 hP hD hS hl
      have agV12 : agr [(0, 60), (0, 65), (0, 68), (0, 69), (0, 73), (0, 76), (0, 90), (0, 91), (0, 92), (0, 93), (0, 95), (0, 96), (0, 98)] [59, 61, 62, 63, 64, 66, 67, 74, 75, 77, 78, 79, 80, 94, 97] V V12 := agV.tr ajV12 (by decide) (by decide)
      have r14 : 0 ≤ ((V12 0 98)).toInt ∧ ((V12 0 98)).toInt ≤ 20000 := hMV12 0 98
      have r15 : 0 ≤ ((V12 0 73)).toInt ∧ ((V12 0 73)).toInt ≤ 1000000 := hMV12 0 73
      have r16 : 0 ≤ ((V12 0 76)).toInt ∧ ((V12 0 76)).toInt ≤ 2000000000 := hMV12 0 76
      have r17 : 0 ≤ ((V12 0 69)).toInt ∧ ((V12 0 69)).toInt ≤ 3000 := hMV12 0 69
      have r18 : 0 ≤ ((V12 0 93)).toInt ∧ ((V12 0 93)).toInt ≤ 10 := hMV12 0 93
      have r19 : 0 ≤ ((V12 0 60)).toInt ∧ ((V12 0 60)).toInt ≤ 300 := hMV12 0 60
      have r20 : 0 ≤ ((V12 0 65)).toInt ∧ ((V12 0 65)).toInt ≤ 1000000 := hMV12 0 65
      have r21 : 0 ≤ ((V12 0 95)).toInt ∧ ((V12 0 95)).toInt ≤ 300 := hMV12 0 95
      refine lv_iload hx hb dX12_worksAround_12 (lv_at hl 0 rfl) ?_
      refine lv_if_ne (tgt := 194) hx hb dX12_worksAround_14 (by decide) (fun c22 => ?_) (fun c22 => ?_)
      · skip
        have f23 : y10.toInt ≠ 0 := b_neq rfl (by decide) c22
        refine lv_iload hx hb dX12_worksAround_194 (lv_at hl 0 rfl) ?_
        refine lv_if_ne (tgt := 207) hx hb dX12_worksAround_196 (by decide) (fun c24 => ?_) (fun c24 => ?_)
        · skip
          have f25 : y10.toInt ≠ 0 := b_neq rfl (by decide) c24
          refine lv_aload_n hx hb dX12_worksAround_207 rfl (lv_at hl 3 rfl) ?_
          refine lv_iload hx hb dX12_worksAround_208 (lv_at hl 2 rfl) ?_
          refine va_put (D := D) (ci := 12) (v := .int (V 0 98)) (ty := tyX12 98) (C := RX12) (T := TX12) (N := 100) hx hb hg inX12 tyX12 tyX12_ok nmX12 hown hK hP hD hS 0 rfl rfl 98 (by decide) (hg _ w1804) (fun _ h9 => h9) rfl (tyX12_ok 98 (by decide)) rfl rfl (Nat.le_of_ble_eq_true rfl) dX12_worksAround_210 (fun H locs hP hD hS => ?_)
          obtain ⟨V26, hV26⟩ : ∃ z, z = up2 V12 0 98 (V 0 98) := ⟨_, rfl⟩
          have hP : va_P D vwCl (mw ad kk ks.1 V26 L) H := by rw [hV26]; exact hP
          have hD : va_D A (mw ad kk ks.1 V26 L) := by rw [hV26]; exact hD
          have hMV26 : rgd bM V26 := hMV12.put hV26 (show 0 ≤ ((V 0 98)).toInt ∧ ((V 0 98)).toInt ≤ 20000 from by first | exact om_f2d2798bcead n6 n7 r8.1 xlp13_3 r18.2 | first | omega | ((try (have i_xlp13_19 := Imp.go xlp13_19 (by omega))); (try (have i_xlp13_2 := Imp.go xlp13_2 (by omega))); (try (have i_xlp13_1 := Imp.go xlp13_1 (by omega))); (try (have i_xlp13_1 := Imp.go xlp13_1 (by omega))); (try (have i_xlp13_2 := Imp.go xlp13_2 (by omega))); (try (have i_xlp13_19 := Imp.go xlp13_19 (by omega))); omega))
          have agV26 : agr [(0, 60), (0, 65), (0, 68), (0, 69), (0, 73), (0, 76), (0, 90), (0, 91), (0, 92), (0, 93), (0, 95), (0, 96), (0, 98)] [59, 61, 62, 63, 64, 66, 67, 74, 75, 77, 78, 79, 80, 94, 97] V V26 := agV12.up hV26 rfl
          refine lv_iload hx hb dX12_worksAround_213 (lv_at hl 0 rfl) ?_
          have pq27 : (V26 0 93).toInt = ((V12 0 93)).toInt := congrArg Int32.toInt (up2_k hV26 (by decide))
          have pq28 : (V26 0 98).toInt = ((V 0 98)).toInt := congrArg Int32.toInt (up2_s hV26)
          have pq29 : (V26 0 60).toInt = ((V12 0 60)).toInt := congrArg Int32.toInt (up2_k hV26 (by decide))
          have pq30 : (V26 0 65).toInt = ((V12 0 65)).toInt := congrArg Int32.toInt (up2_k hV26 (by decide))
          have pq31 : (V26 0 73).toInt = ((V12 0 73)).toInt := congrArg Int32.toInt (up2_k hV26 (by decide))
          have pq32 : (V26 0 95).toInt = ((V12 0 95)).toInt := congrArg Int32.toInt (up2_k hV26 (by decide))
          have pq33 : (V26 0 69).toInt = ((V12 0 69)).toInt := congrArg Int32.toInt (up2_k hV26 (by decide))
          have pq34 : (V26 0 76).toInt = ((V12 0 76)).toInt := congrArg Int32.toInt (up2_k hV26 (by decide))
          have rt35 : RT V26 := RT.ag xlp13_13 hMV12 (show agr [(0, 98)] [] V12 V26 from (agr.up agr.rf hV26 rfl)) ⟨⟨rfl, fun _ => rfl, fun _ => rfl, fun _ => rfl, fun _ => rfl, fun _ => rfl, fun _ => rfl⟩, by decide, by decide, rfl, rfl, fun _ => rfl, fun _ => rfl, fun _ => rfl, fun _ => rfl, fun _ => rfl, fun _ => rfl⟩ (c0k.ag (show agr [(0, 98)] [] V12 V26 from (agr.up agr.rf hV26 rfl)) rfl)
          have fm36 : FRM V V26 (-1) := (FRM.tr xlp13_14 (FRM.ag (show agr [(0, 98)] [] V12 V26 from (agr.up agr.rf hV26 rfl)) ⟨⟨rfl, fun _ => rfl, fun _ => rfl, fun _ => rfl, fun _ => rfl, fun _ => rfl, fun _ => rfl⟩, by decide, by decide, rfl, rfl, fun _ => rfl, fun _ => rfl, fun _ => rfl, fun _ => rfl, fun _ => rfl, fun _ => rfl⟩) agV12 ⟨rfl, fun _ => rfl, fun _ => rfl, fun _ => rfl, fun _ => rfl, fun _ => rfl, fun _ => rfl⟩ (by (first | exact om_abdc88b0c8fc xlp13_10 | omega)))
          have rj37 : RJm V26 gB := RJm.ag xlp13_22 (show agr [(0, 98)] [] V12 V26 from (agr.up agr.rf hV26 rfl)) (by decide)
          have pk38 : PLK V V26 (V 0 98).toInt.toNat := (PLK.tr xlp13_21 (PLK.ag (t := (V 0 98).toInt.toNat) (show agr [(0, 98)] [] V12 V26 from (agr.up agr.rf hV26 rfl)) (fun _ => rfl)) (Nat.le_refl _))
          have rp39 : DPc gB (mV V 0 gt gu, ga, Fwork glv go gc gsc gme 0 ((gat : Nat) : Int) p4 [] :: gr) V26 gr (y10.toInt) (V26 0 96) (24 * (10 - (V 0 93).toInt)) := DPc.mv (Imp.go xlp13_20 (by (first | exact om_dc4480632432 klp13_0.1 f23 | omega))) (by (first | exact om_dc4480632432 klp13_0.1 f23 | omega)) (fun _ _ _ => mV_ag (show agr [(0, 98)] [] V12 V26 from (agr.up agr.rf hV26 rfl)) (by decide)) (up2_k hV26 (by decide)) (up2_k hV26 (by decide))
          exact W.iret (v := y10) hx hb hr (fun t ht hW => ⟨⟨y10, (V26, L), rfl, ⟨hMV26, agV26, rfl, (show 0 ≤ y10.toInt ∧ y10.toInt ≤ 2 from by first | exact om_7a8fa918533d klp13_0.1 klp13_0.2 f23 | first | omega | ((try (have i_xlp13_19 := Imp.go xlp13_19 (by omega))); (try (have i_xlp13_2 := Imp.go xlp13_2 (by omega))); (try (have i_xlp13_1 := Imp.go xlp13_1 (by omega))); (try (have i_xlp13_1 := Imp.go xlp13_1 (by omega))); (try (have i_xlp13_2 := Imp.go xlp13_2 (by omega))); (try (have i_xlp13_19 := Imp.go xlp13_19 (by omega))); omega)), (show (V26 0 93).toInt = (V 0 93).toInt from by first | exact om_cd7d0a6a31bc xlp13_3 pq27 | first | omega | ((try (have i_xlp13_19 := Imp.go xlp13_19 (by omega))); (try (have i_xlp13_2 := Imp.go xlp13_2 (by omega))); (try (have i_xlp13_1 := Imp.go xlp13_1 (by omega))); (try (have i_xlp13_1 := Imp.go xlp13_1 (by omega))); (try (have i_xlp13_2 := Imp.go xlp13_2 (by omega))); (try (have i_xlp13_19 := Imp.go xlp13_19 (by omega))); omega)), (show (V26 0 98).toInt = (V 0 98).toInt from by first | exact om_570b691c1130 pq28 | first | omega | ((try (have i_xlp13_19 := Imp.go xlp13_19 (by omega))); (try (have i_xlp13_2 := Imp.go xlp13_2 (by omega))); (try (have i_xlp13_1 := Imp.go xlp13_1 (by omega))); (try (have i_xlp13_1 := Imp.go xlp13_1 (by omega))); (try (have i_xlp13_2 := Imp.go xlp13_2 (by omega))); (try (have i_xlp13_19 := Imp.go xlp13_19 (by omega))); omega)), (show (V 0 60).toInt ≤ (V26 0 60).toInt from by first | exact om_a40cdd94799e xlp13_4 pq29 | first | omega | ((try (have i_xlp13_19 := Imp.go xlp13_19 (by omega))); (try (have i_xlp13_2 := Imp.go xlp13_2 (by omega))); (try (have i_xlp13_1 := Imp.go xlp13_1 (by omega))); (try (have i_xlp13_1 := Imp.go xlp13_1 (by omega))); (try (have i_xlp13_2 := Imp.go xlp13_2 (by omega))); (try (have i_xlp13_19 := Imp.go xlp13_19 (by omega))); omega)), (show (V 0 65).toInt ≤ (V26 0 65).toInt from by first | exact om_a40cdd94799e xlp13_5 pq30 | first | omega | ((try (have i_xlp13_19 := Imp.go xlp13_19 (by omega))); (try (have i_xlp13_2 := Imp.go xlp13_2 (by omega))); (try (have i_xlp13_1 := Imp.go xlp13_1 (by omega))); (try (have i_xlp13_1 := Imp.go xlp13_1 (by omega))); (try (have i_xlp13_2 := Imp.go xlp13_2 (by omega))); (try (have i_xlp13_19 := Imp.go xlp13_19 (by omega))); omega)), (show (V26 0 65).toInt - (V 0 65).toInt ≤ (V26 0 60).toInt - (V 0 60).toInt from by first | exact om_953d7b5213d2 xlp13_6 pq29 pq30 | first | omega | ((try (have i_xlp13_19 := Imp.go xlp13_19 (by omega))); (try (have i_xlp13_2 := Imp.go xlp13_2 (by omega))); (try (have i_xlp13_1 := Imp.go xlp13_1 (by omega))); (try (have i_xlp13_1 := Imp.go xlp13_1 (by omega))); (try (have i_xlp13_2 := Imp.go xlp13_2 (by omega))); (try (have i_xlp13_19 := Imp.go xlp13_19 (by omega))); omega)), (show (V26 0 73).toInt + (V26 0 95).toInt - (V26 0 65).toInt ≤ (V 0 73).toInt + (V 0 95).toInt - (V 0 65).toInt from by first | exact om_6ca81d59f1e2 xlp13_7 pq30 pq31 pq32 | first | omega | ((try (have i_xlp13_19 := Imp.go xlp13_19 (by omega))); (try (have i_xlp13_2 := Imp.go xlp13_2 (by omega))); (try (have i_xlp13_1 := Imp.go xlp13_1 (by omega))); (try (have i_xlp13_1 := Imp.go xlp13_1 (by omega))); (try (have i_xlp13_2 := Imp.go xlp13_2 (by omega))); (try (have i_xlp13_19 := Imp.go xlp13_19 (by omega))); omega)), (show (V 0 73).toInt ≤ (V26 0 73).toInt from by first | exact om_a40cdd94799e xlp13_8 pq31 | first | omega | ((try (have i_xlp13_19 := Imp.go xlp13_19 (by omega))); (try (have i_xlp13_2 := Imp.go xlp13_2 (by omega))); (try (have i_xlp13_1 := Imp.go xlp13_1 (by omega))); (try (have i_xlp13_1 := Imp.go xlp13_1 (by omega))); (try (have i_xlp13_2 := Imp.go xlp13_2 (by omega))); (try (have i_xlp13_19 := Imp.go xlp13_19 (by omega))); omega)), (show (V 0 69).toInt ≤ (V26 0 69).toInt from by first | exact om_a40cdd94799e xlp13_9 pq33 | first | omega | ((try (have i_xlp13_19 := Imp.go xlp13_19 (by omega))); (try (have i_xlp13_2 := Imp.go xlp13_2 (by omega))); (try (have i_xlp13_1 := Imp.go xlp13_1 (by omega))); (try (have i_xlp13_1 := Imp.go xlp13_1 (by omega))); (try (have i_xlp13_2 := Imp.go xlp13_2 (by omega))); (try (have i_xlp13_19 := Imp.go xlp13_19 (by omega))); omega)), (show (V26 0 95).toInt = (V 0 95).toInt from by first | exact om_cd7d0a6a31bc xlp13_10 pq32 | first | omega | ((try (have i_xlp13_19 := Imp.go xlp13_19 (by omega))); (try (have i_xlp13_2 := Imp.go xlp13_2 (by omega))); (try (have i_xlp13_1 := Imp.go xlp13_1 (by omega))); (try (have i_xlp13_1 := Imp.go xlp13_1 (by omega))); (try (have i_xlp13_2 := Imp.go xlp13_2 (by omega))); (try (have i_xlp13_19 := Imp.go xlp13_19 (by omega))); omega)), (show (V26 0 76).toInt - (V26 0 69).toInt - (V26 0 73).toInt ≤ (V 0 76).toInt - (V 0 69).toInt - (V 0 73).toInt from by first | exact om_1c624bf9a5f6 xlp13_11 pq31 pq33 pq34 | first | omega | ((try (have i_xlp13_19 := Imp.go xlp13_19 (by omega))); (try (have i_xlp13_2 := Imp.go xlp13_2 (by omega))); (try (have i_xlp13_1 := Imp.go xlp13_1 (by omega))); (try (have i_xlp13_1 := Imp.go xlp13_1 (by omega))); (try (have i_xlp13_2 := Imp.go xlp13_2 (by omega))); (try (have i_xlp13_19 := Imp.go xlp13_19 (by omega))); omega)), (Imp.mk (fun hp => have hp : y10.toInt ≠ 2 := hp; (show (V26 0 76).toInt - (V26 0 69).toInt - (V26 0 73).toInt + 1 ≤ (V 0 76).toInt - (V 0 69).toInt - (V 0 73).toInt from by first | exact om_1774989f5501 f25 pq31 pq33 pq34 ((Imp.go xlp13_2 (hp))) | first | omega | ((try (have i_xlp13_19 := Imp.go xlp13_19 (by omega))); (try (have i_xlp13_2 := Imp.go xlp13_2 (by omega))); (try (have i_xlp13_1 := Imp.go xlp13_1 (by omega))); (try (have i_xlp13_1 := Imp.go xlp13_1 (by omega))); (try (have i_xlp13_2 := Imp.go xlp13_2 (by omega))); (try (have i_xlp13_19 := Imp.go xlp13_19 (by omega))); omega)))), rt35, fm36, rj37, pk38, rp39⟩, by rw [ht]; exact hP, va_K.moved hW.alike hK, hD⟩, hS.F ht⟩) hS.2.2 dX12_worksAround_215
        · skip
          have f40 : y10.toInt = 0 := b_eq rfl (by decide) c24
          exfalso; first | exact om_0abcda13baee klp13_0.1 f23 f40 | first | omega | ((try (have i_xlp13_19 := Imp.go xlp13_19 (by omega))); (try (have i_xlp13_2 := Imp.go xlp13_2 (by omega))); (try (have i_xlp13_1 := Imp.go xlp13_1 (by omega))); (try (have i_xlp13_1 := Imp.go xlp13_1 (by omega))); (try (have i_xlp13_2 := Imp.go xlp13_2 (by omega))); (try (have i_xlp13_19 := Imp.go xlp13_19 (by omega))); omega)
      · skip
        have f41 : y10.toInt = 0 := b_eq rfl (by decide) c22
        obtain ⟨f, rfl⟩ : ∃ f, gf = f + 1 := by cases gf with | zero => exact (Imp.go xlp13_15 (by (first | exact om_b1799fcf2d63 klp13_0.1 f41 | omega))).elim | succ f => exact ⟨f, rfl⟩
        obtain ⟨b1, b2, b3, hc⟩ := Imp.go xlp13_15 (by (first | exact om_b1799fcf2d63 klp13_0.1 f41 | omega))
        have kpc := i_clamp (x := y11) rfl (by (first | exact om_eafa9039069c xlp13_0 | omega))
        obtain ⟨sg9, t9, k9, a9, sq9, ht9⟩ := Imp.go xlp13_16 (by (first | exact om_b1799fcf2d63 klp13_0.1 f41 | omega))
        have og9 := Imp.go xlp13_17 (by (first | exact om_b1799fcf2d63 klp13_0.1 f41 | omega))
        have pl9 := Imp.go xlp13_18 (by (first | exact om_b1799fcf2d63 klp13_0.1 f41 | omega))
        have nm9 := Imp.go xlp13_19 (by (first | exact om_b1799fcf2d63 klp13_0.1 f41 | omega))
        have im42 := Imp.go xlp13_1 (by (first | exact om_b1799fcf2d63 klp13_0.1 f41 | omega))
        have im43 := Imp.go xlp13_2 (by (first | exact om_391add0f30a2 f41 | omega))
        obtain ⟨og8, og7⟩ := og9
        have gl9 := OQ.k28 og7
        have gi9 := OQ.lt og7
        have kg9 : 10000 * nwh V + gi = Int32.toNatClampNeg y11 := by (first | exact om_4e8e8c7b209a kpc nm9.2 | omega)
        have cd9 := bk.1 gi gi9
        have cd8 := cd9
        unfold CDmr at cd9
        rw [kg9] at cd9
        have tq9 : (V12 0 98).toInt.toNat = Int32.toNatClampNeg (V12 0 98) := rfl
        rcases hc with ⟨hc, hk⟩ | ⟨hc, hw⟩ | ⟨hc | hc | ⟨hc, hx1, hx2⟩, hh, hw⟩ | hc | ⟨hc | ⟨hc, hx1, hx2, hx3, hx4⟩ | ⟨hc, har⟩, hh, hw⟩ | ⟨hc, hc2, j, ek, hw⟩ | ⟨hc, j, t, ek, et, hw, hw2⟩ | ⟨hc, t, et, hw⟩
        · skip
          have hop : (V 45 (Int32.toNatClampNeg y11)).toInt = 0 := hc
          have oi9 : opf gB.1 gi = 0 := by have h9 : _ = ((opf gB.1 gi : Nat) : Int) := cd9.1; omega
          have hne : y11.toInt ≠ p0.toInt := fun h9 => by have e9 : y11 = p0 := Int32.toInt_inj.mp h9; rw [e9] at hop; omega
          refine lv_aload_n hx hb dX12_worksAround_17 rfl (lv_at hl 3 rfl) ?_
          refine va_get (D := D) (ci := 12) (v := .ref (ad 45)) (C := RX12) (T := TX12) (N := 100) hx hb hg inX12 hown hK hP 0 rfl rfl 45 (by decide) (hg _ w1751) (fun _ h9 => h9) rfl dX12_worksAround_18 ?_
          refine lv_iload hx hb dX12_worksAround_21 (lv_at hl 1 rfl) ?_
          refine va_iald (D := D) (i := y11) hx hb hK hP 38 37 rfl rfl (i_in (a := y11.toInt) rfl (by (first | exact om_943ab426fd09 hq b2 kpc | omega))) dX12_worksAround_23 ?_
          refine g_top (v := (V 45 (Int32.toNatClampNeg y11))) (ajV12 45 (Int32.toNatClampNeg y11) rfl) ?_
          refine lv_if_eq (tgt := 194) hx hb dX12_worksAround_24 (by decide) (fun c44 => ?_) (fun c44 => ?_)
          · skip
            have f45 : ((V 45 (Int32.toNatClampNeg y11))).toInt = 0 := b_eq rfl (by decide) c44
            refine lv_iload hx hb dX12_worksAround_194 (lv_at hl 0 rfl) ?_
            refine lv_if_ne (tgt := 207) hx hb dX12_worksAround_196 (by decide) (fun c46 => ?_) (fun c46 => ?_)
            · skip
              have f47 : y10.toInt ≠ 0 := b_neq rfl (by decide) c46
              exfalso; (first | exact om_fb320d7600b7 klp13_0.1 f41 f47 | omega)
            · skip
              have f48 : y10.toInt = 0 := b_eq rfl (by decide) c46
              refine lv_aload_n hx hb dX12_worksAround_199 rfl (lv_at hl 3 rfl) ?_
              refine lv_aload_n hx hb dX12_worksAround_200 rfl (lv_at hl 3 rfl) ?_
              refine gA_int (gA_runV (As := []) (rest := [.ref (ad 0)]) (ci := 12) (q0 := 0) hx hb hml hown hg hP hD hK hS hA hnw hgk (s_pop3 l D ks H.size ad kk V12 L  hMV12 (show 1 ≤ (V12 0 98).toInt from by (first | exact om_6f3e6829ddaa r8.1 im42 hk | omega))) w2276 w2278 w138 w172 w2279 rfl rfl hdV_yX12_pop ⟨(by show (0) + 1 ≤ (4 * d1 + 40 * d2 + 11); (first | exact om_212987aed262 n5 n6 r2.2 xlp13_3 r18.2 | omega)), (by show 8 + (1 + 11) + (0) ≤ (100 * d1 + 1000 * d2 + 410); (first | exact om_a20e3a1c21f1 n5 n6 r2.2 xlp13_3 r18.2 | omega))⟩ rfl hl.1 rfl (Nat.le_of_ble_eq_true rfl) dX12_worksAround_201 ⟨Nat.le_of_ble_eq_true rfl, Nat.le_of_ble_eq_true rfl⟩) hP hD hK hS hA (fun z49 u50 H locs w51 hP hD hK hS => ?_)
              obtain ⟨V54, L55⟩ := u50
              obtain ⟨hMV54, ajV54, axL55, t52, t53⟩ := w51
              have axL55 : L = L55 := Eq.symm axL55
              subst axL55
              have hP : va_P D vwCl (mw ad kk ks.1 V54 L) H := hP
              have hD : va_D A (mw ad kk ks.1 V54 L) := hD
              have hMV54 : rgd bM V54 := hMV54
              have ajV54 : agr [(0, 98)] [] V12 V54 := ajV54
              have agV54 : agr [(0, 60), (0, 65), (0, 68), (0, 69), (0, 73), (0, 76), (0, 90), (0, 91), (0, 92), (0, 93), (0, 95), (0, 96), (0, 98)] [59, 61, 62, 63, 64, 66, 67, 74, 75, 77, 78, 79, 80, 94, 97] V V54 := agV12.tr ajV54 (by decide) (by decide)
              have t52 : (V54 0 98).toInt = (V12 0 98).toInt - 1 := t52
              have t53 : z49 = V12 97 (Int32.toNatClampNeg (V54 0 98)) := t53
              have r56 : 0 ≤ ((V54 0 98)).toInt ∧ ((V54 0 98)).toInt ≤ 20000 := hMV54 0 98
              have k01 := OQ.i0 og7 oi9
              obtain ⟨t4, ht4⟩ : ∃ t4 : Nat, (V12 0 98).toInt = (t4 : Int) + 1 := ⟨(V12 0 98).toInt.toNat - 1, by omega⟩
              have hd4 := plR.hd (t := t4) (by rw [show t4 + 1 = (V12 0 98).toInt.toNat from by omega]; exact pl9) (by omega)
              have tl4 := tl1 (p := gp) (by omega)
              have pz9 : z49 = pop1 gp := by have h9 := t53; rw [show Int32.toNatClampNeg (V54 0 98) = t4 from by have h8 := i_clamp (x := V54 0 98) rfl (by (first | exact om_eafa9039069c r56.1 | omega)); omega] at h9; exact h9.trans hd4.1
              refine va_put (D := D) (ci := 12) (v := .int z49) (ty := tyX12 96) (C := RX12) (T := TX12) (N := 100) hx hb hg inX12 tyX12 tyX12_ok nmX12 hown hK hP hD hS 0 rfl rfl 96 (by decide) (hg _ w1802) (fun _ h9 => h9) rfl (tyX12_ok 96 (by decide)) rfl rfl (Nat.le_of_ble_eq_true rfl) dX12_worksAround_204 (fun H locs hP hD hS => ?_)
              obtain ⟨V57, hV57⟩ : ∃ z, z = up2 V54 0 96 z49 := ⟨_, rfl⟩
              have hP : va_P D vwCl (mw ad kk ks.1 V57 L) H := by rw [hV57]; exact hP
              have hD : va_D A (mw ad kk ks.1 V57 L) := by rw [hV57]; exact hD
              have hMV57 : rgd bM V57 := hMV54.put hV57 (i_full _)
              have agV57 : agr [(0, 60), (0, 65), (0, 68), (0, 69), (0, 73), (0, 76), (0, 90), (0, 91), (0, 92), (0, 93), (0, 95), (0, 96), (0, 98)] [59, 61, 62, 63, 64, 66, 67, 74, 75, 77, 78, 79, 80, 94, 97] V V57 := agV54.up hV57 rfl
              refine lv_aload_n hx hb dX12_worksAround_207 rfl (lv_at hl 3 rfl) ?_
              refine lv_iload hx hb dX12_worksAround_208 (lv_at hl 2 rfl) ?_
              refine va_put (D := D) (ci := 12) (v := .int (V 0 98)) (ty := tyX12 98) (C := RX12) (T := TX12) (N := 100) hx hb hg inX12 tyX12 tyX12_ok nmX12 hown hK hP hD hS 0 rfl rfl 98 (by decide) (hg _ w1804) (fun _ h9 => h9) rfl (tyX12_ok 98 (by decide)) rfl rfl (Nat.le_of_ble_eq_true rfl) dX12_worksAround_210 (fun H locs hP hD hS => ?_)
              obtain ⟨V58, hV58⟩ : ∃ z, z = up2 V57 0 98 (V 0 98) := ⟨_, rfl⟩
              have hP : va_P D vwCl (mw ad kk ks.1 V58 L) H := by rw [hV58]; exact hP
              have hD : va_D A (mw ad kk ks.1 V58 L) := by rw [hV58]; exact hD
              have hMV58 : rgd bM V58 := hMV57.put hV58 (show 0 ≤ ((V 0 98)).toInt ∧ ((V 0 98)).toInt ≤ 20000 from by (first | exact om_f2d2798bcead n6 n7 r8.1 xlp13_3 r18.2 | omega))
              have agV58 : agr [(0, 60), (0, 65), (0, 68), (0, 69), (0, 73), (0, 76), (0, 90), (0, 91), (0, 92), (0, 93), (0, 95), (0, 96), (0, 98)] [59, 61, 62, 63, 64, 66, 67, 74, 75, 77, 78, 79, 80, 94, 97] V V58 := agV57.up hV58 rfl
              refine lv_iload hx hb dX12_worksAround_213 (lv_at hl 0 rfl) ?_
              have pq59 : (V58 0 93).toInt = ((V12 0 93)).toInt := congrArg Int32.toInt ((up2_k hV58 (by decide)).trans ((up2_k hV57 (by decide)).trans (ajV54 0 93 rfl)))
              have pq60 : (V58 0 98).toInt = ((V 0 98)).toInt := congrArg Int32.toInt (up2_s hV58)
              have pq61 : (V58 0 60).toInt = ((V12 0 60)).toInt := congrArg Int32.toInt ((up2_k hV58 (by decide)).trans ((up2_k hV57 (by decide)).trans (ajV54 0 60 rfl)))
              have pq62 : (V58 0 65).toInt = ((V12 0 65)).toInt := congrArg Int32.toInt ((up2_k hV58 (by decide)).trans ((up2_k hV57 (by decide)).trans (ajV54 0 65 rfl)))
              have pq63 : (V58 0 73).toInt = ((V12 0 73)).toInt := congrArg Int32.toInt ((up2_k hV58 (by decide)).trans ((up2_k hV57 (by decide)).trans (ajV54 0 73 rfl)))
              have pq64 : (V58 0 95).toInt = ((V12 0 95)).toInt := congrArg Int32.toInt ((up2_k hV58 (by decide)).trans ((up2_k hV57 (by decide)).trans (ajV54 0 95 rfl)))
              have pq65 : (V58 0 69).toInt = ((V12 0 69)).toInt := congrArg Int32.toInt ((up2_k hV58 (by decide)).trans ((up2_k hV57 (by decide)).trans (ajV54 0 69 rfl)))
              have pq66 : (V58 0 76).toInt = ((V12 0 76)).toInt := congrArg Int32.toInt ((up2_k hV58 (by decide)).trans ((up2_k hV57 (by decide)).trans (ajV54 0 76 rfl)))
              have rt67 : RT V58 := RT.ag xlp13_13 hMV12 (show agr [(0, 96), (0, 98)] [] V12 V58 from (agr.up (agr.up (agr.tr agr.rf ajV54 (by decide) (by decide)) hV57 rfl) hV58 rfl)) ⟨⟨rfl, fun _ => rfl, fun _ => rfl, fun _ => rfl, fun _ => rfl, fun _ => rfl, fun _ => rfl⟩, by decide, by decide, rfl, rfl, fun _ => rfl, fun _ => rfl, fun _ => rfl, fun _ => rfl, fun _ => rfl, fun _ => rfl⟩ (c0k.ag (show agr [(0, 96), (0, 98)] [] V12 V58 from (agr.up (agr.up (agr.tr agr.rf ajV54 (by decide) (by decide)) hV57 rfl) hV58 rfl)) rfl)
              have fm68 : FRM V V58 (-1) := (FRM.tr xlp13_14 (FRM.ag (show agr [(0, 96), (0, 98)] [] V12 V58 from (agr.up (agr.up (agr.tr agr.rf ajV54 (by decide) (by decide)) hV57 rfl) hV58 rfl)) ⟨⟨rfl, fun _ => rfl, fun _ => rfl, fun _ => rfl, fun _ => rfl, fun _ => rfl, fun _ => rfl⟩, by decide, by decide, rfl, rfl, fun _ => rfl, fun _ => rfl, fun _ => rfl, fun _ => rfl, fun _ => rfl, fun _ => rfl⟩) agV12 ⟨rfl, fun _ => rfl, fun _ => rfl, fun _ => rfl, fun _ => rfl, fun _ => rfl, fun _ => rfl⟩ (by (first | exact om_abdc88b0c8fc xlp13_10 | omega)))
              have rj69 : RJm V58 gB := RJm.ag xlp13_22 (show agr [(0, 96), (0, 98)] [] V12 V58 from (agr.up (agr.up (agr.tr agr.rf ajV54 (by decide) (by decide)) hV57 rfl) hV58 rfl)) (by decide)
              have pk70 : PLK V V58 (V 0 98).toInt.toNat := (PLK.tr xlp13_21 (PLK.ag (t := (V 0 98).toInt.toNat) (show agr [(0, 96), (0, 98)] [] V12 V58 from (agr.up (agr.up (agr.tr agr.rf ajV54 (by decide) (by decide)) hV57 rfl) hV58 rfl)) (fun _ => rfl)) (Nat.le_refl _))
              have r71 : 0 ≤ (V12 0 65).toInt := (hMV12 0 65).1
              have r72 : (V12 0 60).toInt ≤ 300 := (hMV12 0 60).2
              have r73 : 0 ≤ (V12 0 93).toInt ∧ (V12 0 93).toInt ≤ 10 := hMV12 0 93
              have ht74 : TRs gB (mV V 0 gt gu, ga, Fwork glv go gc gsc gme 0 ((gat : Nat) : Int) p4 [] :: gr) (mV V12 1 t9 k9, (pop1 gp), gr) := TRs.st ht9 (SF.mk (show gr.length ≤ 394 from by (first | exact om_87fa92eb9f41 hl9 xlp13_3 r18.2 | omega)) (show gp.length + (totP gr) ≤ 2000 from by (first | exact om_f6611920313d hp9 r7.2 k01 | omega)) (show 0 ≤ (V12 0 65).toInt ∧ (V12 0 65).toInt ≤ 300 from by (first | exact om_65732a9e84ef n1 xlp13_6 r19.2 r20.1 | omega)) (fun h9 => by have h8 : sg9 = 2 := h9; omega) (show ∃ q9, OQ gB _ _ _ _ q9 from ⟨_, og7⟩)) ((st_12.trans (or_0 oi9)).trans mV_ans)
              have ht75 : TRs gB (mV V 0 gt gu, ga, Fwork glv go gc gsc gme 0 ((gat : Nat) : Int) p4 [] :: gr) (mV V58 1 t9 k9, (pop1 gp), gr) := by rw [mV_ag (show agr [(0, 96), (0, 98)] [] V12 V58 from (agr.up (agr.up (agr.tr agr.rf ajV54 (by decide) (by decide)) hV57 rfl) hV58 rfl)) (by decide)]; exact ht74
              have vv9 : V58 0 96 = pop1 gp := (((up2_k hV58 (by decide)).trans (up2_s hV57))).trans pz9
              have rp76 : DPc gB (mV V 0 gt gu, ga, Fwork glv go gc gsc gme 0 ((gat : Nat) : Int) p4 [] :: gr) V58 gr (y10.toInt) (V58 0 96) (24 * (10 - (V 0 93).toInt)) := DPc.m0 (t := t9) (k := k9) (by rw [vv9]; exact ht75) (by omega)
              exact W.iret (v := y10) hx hb hr (fun t ht hW => ⟨⟨y10, (V58, L), rfl, ⟨hMV58, agV58, rfl, (show 0 ≤ y10.toInt ∧ y10.toInt ≤ 2 from by (first | exact om_1b1318762dc0 klp13_0.1 f41 | omega)), (show (V58 0 93).toInt = (V 0 93).toInt from by (first | exact om_cd7d0a6a31bc xlp13_3 pq59 | omega)), (show (V58 0 98).toInt = (V 0 98).toInt from by (first | exact om_570b691c1130 pq60 | omega)), (show (V 0 60).toInt ≤ (V58 0 60).toInt from by (first | exact om_a40cdd94799e xlp13_4 pq61 | omega)), (show (V 0 65).toInt ≤ (V58 0 65).toInt from by (first | exact om_a40cdd94799e xlp13_5 pq62 | omega)), (show (V58 0 65).toInt - (V 0 65).toInt ≤ (V58 0 60).toInt - (V 0 60).toInt from by (first | exact om_953d7b5213d2 xlp13_6 pq61 pq62 | omega)), (show (V58 0 73).toInt + (V58 0 95).toInt - (V58 0 65).toInt ≤ (V 0 73).toInt + (V 0 95).toInt - (V 0 65).toInt from by (first | exact om_6ca81d59f1e2 xlp13_7 pq62 pq63 pq64 | omega)), (show (V 0 73).toInt ≤ (V58 0 73).toInt from by (first | exact om_a40cdd94799e xlp13_8 pq63 | omega)), (show (V 0 69).toInt ≤ (V58 0 69).toInt from by (first | exact om_a40cdd94799e xlp13_9 pq65 | omega)), (show (V58 0 95).toInt = (V 0 95).toInt from by (first | exact om_cd7d0a6a31bc xlp13_10 pq64 | omega)), (show (V58 0 76).toInt - (V58 0 69).toInt - (V58 0 73).toInt ≤ (V 0 76).toInt - (V 0 69).toInt - (V 0 73).toInt from by (first | exact om_1c624bf9a5f6 xlp13_11 pq63 pq65 pq66 | omega)), (Imp.mk (fun hp => have hp : y10.toInt ≠ 2 := hp; (show (V58 0 76).toInt - (V58 0 69).toInt - (V58 0 73).toInt + 1 ≤ (V 0 76).toInt - (V 0 69).toInt - (V 0 73).toInt from by (first | exact om_00167c4bd914 im43 hne pq63 pq65 pq66 | omega)))), rt67, fm68, rj69, pk70, rp76⟩, by rw [ht]; exact hP, va_K.moved hW.alike hK, hD⟩, hS.F ht⟩) hS.2.2 dX12_worksAround_215
          · skip
            have f77 : ((V 45 (Int32.toNatClampNeg y11))).toInt ≠ 0 := b_neq rfl (by decide) c44
            exfalso; (first | exact om_0b51723c7ef6 hop f77 | omega)
        · skip
          have hop : (V 45 (Int32.toNatClampNeg y11)).toInt = 1 := hc
          have oi9 : opf gB.1 gi = 1 := by have h9 : _ = ((opf gB.1 gi : Nat) : Int) := cd9.1; omega
          refine lv_aload_n hx hb dX12_worksAround_17 rfl (lv_at hl 3 rfl) ?_
          refine va_get (D := D) (ci := 12) (v := .ref (ad 45)) (C := RX12) (T := TX12) (N := 100) hx hb hg inX12 hown hK hP 0 rfl rfl 45 (by decide) (hg _ w1751) (fun _ h9 => h9) rfl dX12_worksAround_18 ?_
          refine lv_iload hx hb dX12_worksAround_21 (lv_at hl 1 rfl) ?_
          refine va_iald (D := D) (i := y11) hx hb hK hP 38 37 rfl rfl (i_in (a := y11.toInt) rfl (by (first | exact om_943ab426fd09 hq b2 kpc | omega))) dX12_worksAround_23 ?_
          refine g_top (v := (V 45 (Int32.toNatClampNeg y11))) (ajV12 45 (Int32.toNatClampNeg y11) rfl) ?_
          refine lv_if_eq (tgt := 194) hx hb dX12_worksAround_24 (by decide) (fun c78 => ?_) (fun c78 => ?_)
          · skip
            have f79 : ((V 45 (Int32.toNatClampNeg y11))).toInt = 0 := b_eq rfl (by decide) c78
            exfalso; (first | exact om_495ee03a60ae hop f79 | omega)
          · skip
            have f80 : ((V 45 (Int32.toNatClampNeg y11))).toInt ≠ 0 := b_neq rfl (by decide) c78
            refine lv_aload_n hx hb dX12_worksAround_27 rfl (lv_at hl 3 rfl) ?_
            refine va_get (D := D) (ci := 12) (v := .ref (ad 45)) (C := RX12) (T := TX12) (N := 100) hx hb hg inX12 hown hK hP 0 rfl rfl 45 (by decide) (hg _ w1751) (fun _ h9 => h9) rfl dX12_worksAround_28 ?_
            refine lv_iload hx hb dX12_worksAround_31 (lv_at hl 1 rfl) ?_
            refine va_iald (D := D) (i := y11) hx hb hK hP 38 37 rfl rfl (i_in (a := y11.toInt) rfl (by (first | exact om_943ab426fd09 hq b2 kpc | omega))) dX12_worksAround_33 ?_
            refine g_top (v := (V 45 (Int32.toNatClampNeg y11))) (ajV12 45 (Int32.toNatClampNeg y11) rfl) ?_
            refine lv_istore (lv' := [(10, .int (V 45 (Int32.toNatClampNeg y11))), (9, .int y10), (8, .int y11), (7, .int (V 0 98)), (0, .ref (ad 0)), (1, .int p0), (2, .int p1), (3, .int p2), (4, .int p3), (5, .int p4), (6, .int p5)]) hx hb dX12_worksAround_34 hl (by decide) rfl (fun ls hl => ?_)
            refine lv_aload_n hx hb dX12_worksAround_36 rfl (lv_at hl 4 rfl) ?_
            refine va_get (D := D) (ci := 12) (v := .ref (ad 46)) (C := RX12) (T := TX12) (N := 100) hx hb hg inX12 hown hK hP 0 rfl rfl 46 (by decide) (hg _ w1752) (fun _ h9 => h9) rfl dX12_worksAround_37 ?_
            refine lv_iload hx hb dX12_worksAround_40 (lv_at hl 2 rfl) ?_
            refine va_iald (D := D) (i := y11) hx hb hK hP 39 38 rfl rfl (i_in (a := y11.toInt) rfl (by (first | exact om_943ab426fd09 hq b2 kpc | omega))) dX12_worksAround_42 ?_
            refine g_top (v := (V 46 (Int32.toNatClampNeg y11))) (ajV12 46 (Int32.toNatClampNeg y11) rfl) ?_
            refine lv_istore (lv' := [(11, .int (V 46 (Int32.toNatClampNeg y11))), (10, .int (V 45 (Int32.toNatClampNeg y11))), (9, .int y10), (8, .int y11), (7, .int (V 0 98)), (0, .ref (ad 0)), (1, .int p0), (2, .int p1), (3, .int p2), (4, .int p3), (5, .int p4), (6, .int p5)]) hx hb dX12_worksAround_43 hl (by decide) rfl (fun ls hl => ?_)
            refine lv_aload_n hx hb dX12_worksAround_45 rfl (lv_at hl 5 rfl) ?_
            refine va_get (D := D) (ci := 12) (v := .ref (ad 47)) (C := RX12) (T := TX12) (N := 100) hx hb hg inX12 hown hK hP 0 rfl rfl 47 (by decide) (hg _ w1753) (fun _ h9 => h9) rfl dX12_worksAround_46 ?_
            refine lv_iload hx hb dX12_worksAround_49 (lv_at hl 3 rfl) ?_
            refine va_iald (D := D) (i := y11) hx hb hK hP 40 39 rfl rfl (i_in (a := y11.toInt) rfl (by (first | exact om_943ab426fd09 hq b2 kpc | omega))) dX12_worksAround_51 ?_
            refine g_top (v := (V 47 (Int32.toNatClampNeg y11))) (ajV12 47 (Int32.toNatClampNeg y11) rfl) ?_
            refine lv_istore (lv' := [(12, .int (V 47 (Int32.toNatClampNeg y11))), (11, .int (V 46 (Int32.toNatClampNeg y11))), (10, .int (V 45 (Int32.toNatClampNeg y11))), (9, .int y10), (8, .int y11), (7, .int (V 0 98)), (0, .ref (ad 0)), (1, .int p0), (2, .int p1), (3, .int p2), (4, .int p3), (5, .int p4), (6, .int p5)]) hx hb dX12_worksAround_52 hl (by decide) rfl (fun ls hl => ?_)
            obtain ⟨z81, ez81⟩ : ∃ y : Int32, y = y11 + 1 := ⟨_, rfl⟩
            have hz81 : z81.toInt = y11.toInt + 1 := i_add ez81 rfl (by decide) (by (first | exact om_084b5c89eefe hq b2 kpc | omega))
            refine lv_iinc (v := z81) (lv' := [(8, .int z81), (12, .int (V 47 (Int32.toNatClampNeg y11))), (11, .int (V 46 (Int32.toNatClampNeg y11))), (10, .int (V 45 (Int32.toNatClampNeg y11))), (9, .int y10), (7, .int (V 0 98)), (0, .ref (ad 0)), (1, .int p0), (2, .int p1), (3, .int p2), (4, .int p3), (5, .int p4), (6, .int p5)]) hx hb dX12_worksAround_54 hl (k := 4) rfl (by rw [ez81]; rfl) (by decide) rfl (fun ls hl => ?_)
            refine lv_iload hx hb dX12_worksAround_57 (lv_at hl 3 rfl) ?_
            refine lv_bipush (v := 13) hx hb dX12_worksAround_59 (by decide) ?_
            refine lv_icmp_ne (tgt := 71) hx hb dX12_worksAround_61 (by decide) (fun c82 => ?_) (fun c82 => ?_)
            · skip
              have f83 : ((V 45 (Int32.toNatClampNeg y11))).toInt ≠ 13 := b_neq rfl (by decide) c82
              refine lv_iload hx hb dX12_worksAround_71 (lv_at hl 3 rfl) ?_
              refine lv_bipush (v := 12) hx hb dX12_worksAround_73 (by decide) ?_
              refine lv_icmp_ne (tgt := 97) hx hb dX12_worksAround_75 (by decide) (fun c84 => ?_) (fun c84 => ?_)
              · skip
                have f85 : ((V 45 (Int32.toNatClampNeg y11))).toInt ≠ 12 := b_neq rfl (by decide) c84
                refine lv_iload hx hb dX12_worksAround_97 (lv_at hl 3 rfl) ?_
                refine lv_bipush (v := 15) hx hb dX12_worksAround_99 (by decide) ?_
                refine lv_icmp_ne (tgt := 131) hx hb dX12_worksAround_101 (by decide) (fun c86 => ?_) (fun c86 => ?_)
                · skip
                  have f87 : ((V 45 (Int32.toNatClampNeg y11))).toInt ≠ 15 := b_neq rfl (by decide) c86
                  refine lv_iload hx hb dX12_worksAround_131 (lv_at hl 3 rfl) ?_
                  refine lv_bipush (v := 14) hx hb dX12_worksAround_133 (by decide) ?_
                  refine lv_icmp_ne (tgt := 166) hx hb dX12_worksAround_135 (by decide) (fun c88 => ?_) (fun c88 => ?_)
                  · skip
                    have f89 : ((V 45 (Int32.toNatClampNeg y11))).toInt ≠ 14 := b_neq rfl (by decide) c88
                    refine lv_iload hx hb dX12_worksAround_166 (lv_at hl 3 rfl) ?_
                    refine lv_iconst (v := 3) hx hb dX12_worksAround_168 (by decide) ?_
                    refine lv_icmp_ne (tgt := 181) hx hb dX12_worksAround_169 (by decide) (fun c90 => ?_) (fun c90 => ?_)
                    · skip
                      have f91 : ((V 45 (Int32.toNatClampNeg y11))).toInt ≠ 3 := b_neq rfl (by decide) c90
                      refine lv_aload_n hx hb dX12_worksAround_181 rfl (lv_at hl 6 rfl) ?_
                      refine lv_iload hx hb dX12_worksAround_182 (lv_at hl 3 rfl) ?_
                      refine lv_iload hx hb dX12_worksAround_184 (lv_at hl 2 rfl) ?_
                      refine gA_int (gA_runV (As := [.int (V 45 (Int32.toNatClampNeg y11)), .int (V 46 (Int32.toNatClampNeg y11))]) (rest := []) (ci := 12) (q0 := 0) hx hb hml hown hg hP hD hK hS hA hnw hgk (s_reckons3 l D ks H.size ad kk V12 L (V 45 (Int32.toNatClampNeg y11)) (V 46 (Int32.toNatClampNeg y11)) hMV12 (by (first | exact om_e7c3ec6df7cc hop | omega)) (Imp.mk (fun hp => have hp : ((V 45 (Int32.toNatClampNeg y11))).toInt = 11 := hp; (show 0 ≤ ((V 46 (Int32.toNatClampNeg y11))).toInt ∧ ((V 46 (Int32.toNatClampNeg y11))).toInt ≤ 11 from by omega))) (Imp.mk (fun hp => have hp : ((V 45 (Int32.toNatClampNeg y11))).toInt = 2 ∨ ((V 45 (Int32.toNatClampNeg y11))).toInt = 11 := hp; (show (V12 0 98).toInt ≤ 19999 from by (first | exact om_53b561447de2 n6 n7 r7.2 b3 im42 | omega)))) (Imp.mk (fun hp => have hp : ((V 45 (Int32.toNatClampNeg y11))).toInt = 4 := hp; (show 1 ≤ (V12 0 98).toInt from by omega))) (Imp.mk (fun hp => have hp : 5 ≤ ((V 45 (Int32.toNatClampNeg y11))).toInt ∧ ((V 45 (Int32.toNatClampNeg y11))).toInt ≤ 9 := hp; (show 2 ≤ (V12 0 98).toInt from by omega))) (show ((V 45 (Int32.toNatClampNeg y11))).toInt ≠ 3 from by (first | exact om_258573d31b9c hop | omega))) w2324 w2326 w150 w172 w2327 rfl rfl hdV_yX12_reckons ⟨(by show (1) + 1 ≤ (4 * d1 + 40 * d2 + 11); (first | exact om_1d3ee3ce7f7a n5 n6 r2.2 xlp13_3 r18.2 | omega)), (by show 8 + (5 + 11) + (21) ≤ (100 * d1 + 1000 * d2 + 410); (first | exact om_d7d7af4cd1f0 n5 n6 r2.2 xlp13_3 r18.2 | omega))⟩ rfl hl.1 rfl (Nat.le_of_ble_eq_true rfl) dX12_worksAround_186 ⟨Nat.le_of_ble_eq_true rfl, Nat.le_of_ble_eq_true rfl⟩) hP hD hK hS hA (fun z92 u93 H locs w94 hP hD hK hS => ?_)
                      obtain ⟨V111, L112⟩ := u93
                      obtain ⟨hMV111, ajV111, axL112, rgz92, t95, t96, t97, t98, t99, t100, t101, t102, t103, t104, t105, t106, t107, t108, t109, t110⟩ := w94
                      have axL112 : L = L112 := Eq.symm axL112
                      subst axL112
                      have hP : va_P D vwCl (mw ad kk ks.1 V111 L) H := hP
                      have hD : va_D A (mw ad kk ks.1 V111 L) := hD
                      have hMV111 : rgd bM V111 := hMV111
                      have ajV111 : agr [(0, 68), (0, 69), (0, 90), (0, 91), (0, 98)] [97] V12 V111 := ajV111
                      have agV111 : agr [(0, 60), (0, 65), (0, 68), (0, 69), (0, 73), (0, 76), (0, 90), (0, 91), (0, 92), (0, 93), (0, 95), (0, 96), (0, 98)] [59, 61, 62, 63, 64, 66, 67, 74, 75, 77, 78, 79, 80, 94, 97] V V111 := agV12.tr ajV111 (by decide) (by decide)
                      have rgz92 : 0 ≤ z92.toInt ∧ z92.toInt ≤ 2 := rgz92
                      have t95 : Imp (((V 45 (Int32.toNatClampNeg y11))).toInt = 1) ((V111 0 98).toInt = (V12 0 98).toInt ∧ ((z92.toInt = 0 ∧ (V111 0 69).toInt = (V12 0 69).toInt + 1 ∧ (V111 0 68).toInt = (V12 0 68).toInt + 1 ∧ (V12 0 69).toInt < 3000 ∧ (V12 0 68).toInt < 60000) ∨ (z92.toInt = 2 ∧ (V111 0 69).toInt = (V12 0 69).toInt ∧ (V111 0 68).toInt = (V12 0 68).toInt ∧ ((V12 0 69).toInt = 3000 ∨ (V12 0 68).toInt = 60000)))) := t95
                      have t96 : Imp (((V 45 (Int32.toNatClampNeg y11))).toInt = 10) (z92.toInt = 1 ∧ (V111 0 98).toInt = (V12 0 98).toInt ∧ (V111 0 90).toInt = 0 ∧ (V111 0 91).toInt = ((V 46 (Int32.toNatClampNeg y11))).toInt) := t96
                      have t97 : Imp (((V 45 (Int32.toNatClampNeg y11))).toInt = 2 ∨ ((V 45 (Int32.toNatClampNeg y11))).toInt = 11) (z92.toInt = 0 ∧ (V111 0 98).toInt = (V12 0 98).toInt + 1) := t97
                      have t98 : Imp (((V 45 (Int32.toNatClampNeg y11))).toInt = 4) (z92.toInt = 0 ∧ (V111 0 98).toInt = (V12 0 98).toInt) := t98
                      have t99 : Imp (5 ≤ ((V 45 (Int32.toNatClampNeg y11))).toInt ∧ ((V 45 (Int32.toNatClampNeg y11))).toInt ≤ 9) (z92.toInt = 0 ∧ (V111 0 98).toInt = (V12 0 98).toInt - 1) := t99
                      have t100 : Imp (((V 45 (Int32.toNatClampNeg y11))).toInt ≠ 1) ((V111 0 69).toInt = (V12 0 69).toInt ∧ (V111 0 68).toInt = (V12 0 68).toInt) := t100
                      have t101 : Imp (((V 45 (Int32.toNatClampNeg y11))).toInt ≠ 10) ((V111 0 90).toInt = (V12 0 90).toInt ∧ (V111 0 91).toInt = (V12 0 91).toInt) := t101
                      have t102 : Imp (((V 45 (Int32.toNatClampNeg y11))).toInt = 2) (V111 97 (Int32.toNatClampNeg (V12 0 98)) = (V 46 (Int32.toNatClampNeg y11)) ∧ ∀ j9, j9 ≠ Int32.toNatClampNeg (V12 0 98) → V111 97 j9 = V12 97 j9) := t102
                      have t103 : Imp (((V 45 (Int32.toNatClampNeg y11))).toInt = 11) (V111 97 (Int32.toNatClampNeg (V12 0 98)) = V12 18 (12 * nwh V12 + Int32.toNatClampNeg (V 46 (Int32.toNatClampNeg y11))) ∧ ∀ j9, j9 ≠ Int32.toNatClampNeg (V12 0 98) → V111 97 j9 = V12 97 j9) := t103
                      have t104 : Imp (((V 45 (Int32.toNatClampNeg y11))).toInt = 4) (∀ t9 : Nat, (V12 0 98).toInt = (t9 : Int) + 1 → V111 97 t9 = -(V12 97 t9) ∧ ∀ j9, j9 < t9 → V111 97 j9 = V12 97 j9) := t104
                      have t105 : Imp (((V 45 (Int32.toNatClampNeg y11))).toInt = 5) (∀ t9 : Nat, (V12 0 98).toInt = (t9 : Int) + 2 → V111 97 t9 = V12 97 t9 * V12 97 (t9 + 1) ∧ ∀ j9, j9 < t9 → V111 97 j9 = V12 97 j9) := t105
                      have t106 : Imp (((V 45 (Int32.toNatClampNeg y11))).toInt = 6) (∀ t9 : Nat, (V12 0 98).toInt = (t9 : Int) + 2 → V111 97 t9 = V12 97 t9 + V12 97 (t9 + 1) ∧ ∀ j9, j9 < t9 → V111 97 j9 = V12 97 j9) := t106
                      have t107 : Imp (((V 45 (Int32.toNatClampNeg y11))).toInt = 7) (∀ t9 : Nat, (V12 0 98).toInt = (t9 : Int) + 2 → V111 97 t9 = V12 97 t9 - V12 97 (t9 + 1) ∧ ∀ j9, j9 < t9 → V111 97 j9 = V12 97 j9) := t107
                      have t108 : Imp (((V 45 (Int32.toNatClampNeg y11))).toInt = 8) (∀ t9 : Nat, (V12 0 98).toInt = (t9 : Int) + 2 → V111 97 t9 = (if (V12 97 t9).toInt < (V12 97 (t9 + 1)).toInt then 1 else 0) ∧ ∀ j9, j9 < t9 → V111 97 j9 = V12 97 j9) := t108
                      have t109 : Imp (((V 45 (Int32.toNatClampNeg y11))).toInt = 9) (∀ t9 : Nat, (V12 0 98).toInt = (t9 : Int) + 2 → V111 97 t9 = (if V12 97 t9 = V12 97 (t9 + 1) then 1 else 0) ∧ ∀ j9, j9 < t9 → V111 97 j9 = V12 97 j9) := t109
                      have t110 : Imp (((V 45 (Int32.toNatClampNeg y11))).toInt = 1 ∨ ((V 45 (Int32.toNatClampNeg y11))).toInt = 10) (∀ j9, V111 97 j9 = V12 97 j9) := t110
                      have r113 : 0 ≤ ((V12 0 68)).toInt ∧ ((V12 0 68)).toInt ≤ 60000 := hMV12 0 68
                      have r114 : 0 ≤ ((V111 0 69)).toInt ∧ ((V111 0 69)).toInt ≤ 3000 := hMV111 0 69
                      have r115 : 0 ≤ ((V111 0 68)).toInt ∧ ((V111 0 68)).toInt ≤ 60000 := hMV111 0 68
                      have r116 : 0 ≤ ((V111 0 98)).toInt ∧ ((V111 0 98)).toInt ≤ 20000 := hMV111 0 98
                      have rk97 : ∀ j9, V111 97 j9 = V12 97 j9 := Imp.go t110 (by (first | exact om_1a2dff4f1b3b hc | omega))
                      refine lv_istore (lv' := [(9, .int z92), (8, .int z81), (12, .int (V 47 (Int32.toNatClampNeg y11))), (11, .int (V 46 (Int32.toNatClampNeg y11))), (10, .int (V 45 (Int32.toNatClampNeg y11))), (7, .int (V 0 98)), (0, .ref (ad 0)), (1, .int p0), (2, .int p1), (3, .int p2), (4, .int p3), (5, .int p4), (6, .int p5)]) hx hb dX12_worksAround_189 hl (by decide) rfl (fun ls hl => ?_)
                      have im117 := Imp.go t101 (by (first | exact om_df68464672bd hop | omega))
                      have rk118 := Imp.go t95 (by (first | exact om_710535a98d88 hop | omega))
                      obtain ⟨rk118a, rk118b⟩ := rk118
                      rcases rk118b with ⟨rk118r, rk118c, rk118d, rk118e, rk118f⟩ | ⟨rk118r, rk118c, rk118d, rk118e⟩
                      · skip
                        have r119 : 0 ≤ (V12 0 65).toInt := (hMV12 0 65).1
                        have r120 : (V12 0 60).toInt ≤ 300 := (hMV12 0 60).2
                        have r121 : 0 ≤ (V12 0 93).toInt ∧ (V12 0 93).toInt ≤ 10 := hMV12 0 93
                        have ht122 : TRs gB (mV V 0 gt gu, ga, Fwork glv go gc gsc gme 0 ((gat : Nat) : Int) p4 [] :: gr) (mV V111 sg9 t9 k9, a9, Fwork glv go gc gsc gm9 0 (((gi + 1) : Nat) : Int) p4 gp :: gr) := TRs.st ht9 (SF.mk (show gr.length ≤ 394 from by (first | exact om_87fa92eb9f41 hl9 xlp13_3 r18.2 | omega)) (show gp.length + (totP gr) ≤ 2000 from by (first | exact om_6542cae4e4ce hp9 r7.2 b3 nm9.1 | omega)) (show 0 ≤ (V12 0 65).toInt ∧ (V12 0 65).toInt ≤ 300 from by (first | exact om_65732a9e84ef n1 xlp13_6 r19.2 r20.1 | omega)) (fun h9 => by have h8 : sg9 = 2 := h9; omega) (show ∃ q9, OQ gB _ _ _ _ q9 from ⟨_, og7⟩)) ((st_12.trans (or_1y oi9 (show mCan (mV V12 sg9 t9 k9) from ⟨by show (V12 0 69).toInt < 3000; (first | exact om_2e1357b4b006 rk118e | omega), by show (V12 0 68).toInt < 60000; (first | exact om_e17714f9439b rk118f | omega)⟩))).trans (by rw [mV_st ajV111 (by decide) (by omega) (by omega)] <;> rfl))
                        have on123 := OQ.i1 og7 oi9
                        have pl124 : plR V111 (V111 0 98).toInt.toNat gp := by rw [show (V111 0 98).toInt.toNat = (V12 0 98).toInt.toNat from by omega]; exact plR.mv pl9 (fun j9 _ => rk97 j9)
                        refine lv_goto (tgt := 12) hx hb dX12_worksAround_191 (by decide) ?_
                        have pq125 : (V111 0 73).toInt = ((V12 0 73)).toInt := congrArg Int32.toInt (ajV111 0 73 rfl)
                        have pq126 : (V111 0 76).toInt = ((V12 0 76)).toInt := congrArg Int32.toInt (ajV111 0 76 rfl)
                        have pq127 : (V111 0 93).toInt = ((V12 0 93)).toInt := congrArg Int32.toInt (ajV111 0 93 rfl)
                        have pq128 : (V111 0 60).toInt = ((V12 0 60)).toInt := congrArg Int32.toInt (ajV111 0 60 rfl)
                        have pq129 : (V111 0 65).toInt = ((V12 0 65)).toInt := congrArg Int32.toInt (ajV111 0 65 rfl)
                        have pq130 : (V111 0 95).toInt = ((V12 0 95)).toInt := congrArg Int32.toInt (ajV111 0 95 rfl)
                        have rt131 : RT V111 := RT.ag xlp13_13 hMV12 (show agr [(0, 68), (0, 69), (0, 90), (0, 91), (0, 98)] [97] V12 V111 from (agr.tr agr.rf ajV111 (by decide) (by decide))) ⟨⟨rfl, fun _ => rfl, fun _ => rfl, fun _ => rfl, fun _ => rfl, fun _ => rfl, fun _ => rfl⟩, by decide, by decide, rfl, rfl, fun _ => rfl, fun _ => rfl, fun _ => rfl, fun _ => rfl, fun _ => rfl, fun _ => rfl⟩ (c0k.ag (show agr [(0, 68), (0, 69), (0, 90), (0, 91), (0, 98)] [97] V12 V111 from (agr.tr agr.rf ajV111 (by decide) (by decide))) rfl)
                        have fm132 : FRM V V111 (-1) := (FRM.tr xlp13_14 (FRM.ag (show agr [(0, 68), (0, 69), (0, 90), (0, 91), (0, 98)] [97] V12 V111 from (agr.tr agr.rf ajV111 (by decide) (by decide))) ⟨⟨rfl, fun _ => rfl, fun _ => rfl, fun _ => rfl, fun _ => rfl, fun _ => rfl, fun _ => rfl⟩, by decide, by decide, rfl, rfl, fun _ => rfl, fun _ => rfl, fun _ => rfl, fun _ => rfl, fun _ => rfl, fun _ => rfl⟩) agV12 ⟨rfl, fun _ => rfl, fun _ => rfl, fun _ => rfl, fun _ => rfl, fun _ => rfl, fun _ => rfl⟩ (by (first | exact om_abdc88b0c8fc xlp13_10 | omega)))
                        have kt134 := i_clamp (x := V12 0 98) rfl (by (first | exact om_eafa9039069c r14.1 | omega))
                        have pk133 : PLK V V111 (V 0 98).toInt.toNat := PLK.tr xlp13_21 (t2 := (V 0 98).toInt.toNat) (fun j9 _ => Imp.go t110 (by (first | exact om_1a2dff4f1b3b hc | omega)) j9) (Nat.le_refl _)
                        have rj135 : RJm V111 gB := RJm.ag xlp13_22 (show agr [(0, 68), (0, 69), (0, 90), (0, 91), (0, 98)] [97] V12 V111 from (agr.tr agr.rf ajV111 (by decide) (by decide))) (by decide)
                        exact ihlp13 (f) (gk) ((gi + 1)) (gp) (gm9) z92 z81 V111 H locs ls (by (first | exact om_8c285ac91b81 rgz92.1 rgz92.2 | omega)) (show 0 ≤ z81.toInt from by (first | exact om_d256ebc631d1 kpc kg9 hz81 | omega)) (Imp.mk (fun hp => have hp : z92.toInt = 0 := hp; (show (V111 0 98).toInt = (V 0 98).toInt + ((gk : Nat) : Int) from by (first | exact om_44a1f954dd54 ((Imp.go xlp13_1 (f41))) ((Imp.go t95 (hop)).1) | omega)))) (Imp.mk (fun hp => have hp : z92.toInt ≠ 2 := hp; (show (V111 0 76).toInt - (V111 0 69).toInt - (V111 0 73).toInt + 1 ≤ (V 0 76).toInt - (V 0 69).toInt - (V 0 73).toInt ∨ (z81.toInt = p0.toInt ∧ (V111 0 76).toInt - (V111 0 69).toInt - (V111 0 73).toInt ≤ (V 0 76).toInt - (V 0 69).toInt - (V 0 73).toInt ∧ z92.toInt = 0) from by (first | exact om_33ef39bfe52b xlp13_11 rk118c pq125 pq126 | omega)))) (show (V111 0 93).toInt = (V 0 93).toInt from by (first | exact om_cd7d0a6a31bc xlp13_3 pq127 | omega)) (show (V 0 60).toInt ≤ (V111 0 60).toInt from by (first | exact om_a40cdd94799e xlp13_4 pq128 | omega)) (show (V 0 65).toInt ≤ (V111 0 65).toInt from by (first | exact om_a40cdd94799e xlp13_5 pq129 | omega)) (show (V111 0 65).toInt - (V 0 65).toInt ≤ (V111 0 60).toInt - (V 0 60).toInt from by (first | exact om_953d7b5213d2 xlp13_6 pq128 pq129 | omega)) (show (V111 0 73).toInt + (V111 0 95).toInt - (V111 0 65).toInt ≤ (V 0 73).toInt + (V 0 95).toInt - (V 0 65).toInt from by (first | exact om_5b806241d648 xlp13_7 pq125 pq129 pq130 | omega)) (show (V 0 73).toInt ≤ (V111 0 73).toInt from by (first | exact om_a40cdd94799e xlp13_8 pq125 | omega)) (show (V 0 69).toInt ≤ (V111 0 69).toInt from by (first | exact om_f75a30b4c815 xlp13_9 rk118c | omega)) (show (V111 0 95).toInt = (V 0 95).toInt from by (first | exact om_cd7d0a6a31bc xlp13_10 pq130 | omega)) (show (V111 0 76).toInt - (V111 0 69).toInt - (V111 0 73).toInt ≤ (V 0 76).toInt - (V 0 69).toInt - (V 0 73).toInt from by (first | exact om_83a3cdfa9abf xlp13_11 rk118c pq125 pq126 | omega)) (show 0 ≤ z92.toInt ∧ z92.toInt ≤ 2 from by (first | exact om_8c285ac91b81 rgz92.1 rgz92.2 | omega)) rt131 fm132 (Imp.mk (fun _ => by have e8 : Int32.toNatClampNeg z81 = Int32.toNatClampNeg y11 + 1 := (by have h9 := i_clamp (x := z81) rfl (by (first | exact om_d256ebc631d1 kpc kg9 hz81 | omega)); omega); rw [e8]; exact hw)) (Imp.mk (fun _ => ⟨sg9, t9, k9, a9, sq9, ht122⟩)) (Imp.mk (fun _ => on123)) (Imp.mk (fun _ => pl124)) (Imp.mk (fun hp => have hp : z92.toInt = 0 := hp; (show ((gp.length : Nat) : Int) = ((gk : Nat) : Int) ∧ z81.toInt = ((10000 * nwh V + (gi + 1) : Nat) : Int) from by (first | exact om_fdcbe5ad3467 kpc kg9 hz81 ((Imp.go xlp13_19 (f41)).1) | omega)))) (Imp.mk (fun hp => by exfalso; (first | exact om_fb320d7600b7 rgz92.1 rk118r hp | omega))) pk133 rj135 (by (first | exact om_bd2466411592 hn | omega)) (agr.tr (agr.tr agr.rf ajV12 (by decide) (by decide)) ajV111 (by decide) (by decide)) hMV111 hP hD hS (lv_sub hl [0, 1, 5, 6, 7, 8, 9, 10, 11, 12] rfl)
                      · skip
                        have r136 : 0 ≤ (V12 0 65).toInt := (hMV12 0 65).1
                        have r137 : (V12 0 60).toInt ≤ 300 := (hMV12 0 60).2
                        have r138 : 0 ≤ (V12 0 93).toInt ∧ (V12 0 93).toInt ≤ 10 := hMV12 0 93
                        have ht139 : TRs gB (mV V 0 gt gu, ga, Fwork glv go gc gsc gme 0 ((gat : Nat) : Int) p4 [] :: gr) (mV V111 3 t9 k9, a9, gr) := TRs.st ht9 (SF.mk (show gr.length ≤ 394 from by (first | exact om_87fa92eb9f41 hl9 xlp13_3 r18.2 | omega)) (show gp.length + (totP gr) ≤ 2000 from by (first | exact om_6542cae4e4ce hp9 r7.2 b3 nm9.1 | omega)) (show 0 ≤ (V12 0 65).toInt ∧ (V12 0 65).toInt ≤ 300 from by (first | exact om_65732a9e84ef n1 xlp13_6 r19.2 r20.1 | omega)) (fun h9 => by have h8 : sg9 = 2 := h9; omega) (show ∃ q9, OQ gB _ _ _ _ q9 from ⟨_, og7⟩)) ((st_12.trans (or_1n oi9 (fun h9 => by have h1 : (V12 0 69).toInt < 3000 := h9.1; have h2 : (V12 0 68).toInt < 60000 := h9.2; omega))).trans (mV_spent.trans (by rw [mV_st0 ajV111 (by decide) (by omega) (by omega)])))
                        refine lv_goto (tgt := 12) hx hb dX12_worksAround_191 (by decide) ?_
                        have pq140 : (V111 0 73).toInt = ((V12 0 73)).toInt := congrArg Int32.toInt (ajV111 0 73 rfl)
                        have pq141 : (V111 0 76).toInt = ((V12 0 76)).toInt := congrArg Int32.toInt (ajV111 0 76 rfl)
                        have pq142 : (V111 0 93).toInt = ((V12 0 93)).toInt := congrArg Int32.toInt (ajV111 0 93 rfl)
                        have pq143 : (V111 0 60).toInt = ((V12 0 60)).toInt := congrArg Int32.toInt (ajV111 0 60 rfl)
                        have pq144 : (V111 0 65).toInt = ((V12 0 65)).toInt := congrArg Int32.toInt (ajV111 0 65 rfl)
                        have pq145 : (V111 0 95).toInt = ((V12 0 95)).toInt := congrArg Int32.toInt (ajV111 0 95 rfl)
                        have rt146 : RT V111 := RT.ag xlp13_13 hMV12 (show agr [(0, 68), (0, 69), (0, 90), (0, 91), (0, 98)] [97] V12 V111 from (agr.tr agr.rf ajV111 (by decide) (by decide))) ⟨⟨rfl, fun _ => rfl, fun _ => rfl, fun _ => rfl, fun _ => rfl, fun _ => rfl, fun _ => rfl⟩, by decide, by decide, rfl, rfl, fun _ => rfl, fun _ => rfl, fun _ => rfl, fun _ => rfl, fun _ => rfl, fun _ => rfl⟩ (c0k.ag (show agr [(0, 68), (0, 69), (0, 90), (0, 91), (0, 98)] [97] V12 V111 from (agr.tr agr.rf ajV111 (by decide) (by decide))) rfl)
                        have fm147 : FRM V V111 (-1) := (FRM.tr xlp13_14 (FRM.ag (show agr [(0, 68), (0, 69), (0, 90), (0, 91), (0, 98)] [97] V12 V111 from (agr.tr agr.rf ajV111 (by decide) (by decide))) ⟨⟨rfl, fun _ => rfl, fun _ => rfl, fun _ => rfl, fun _ => rfl, fun _ => rfl, fun _ => rfl⟩, by decide, by decide, rfl, rfl, fun _ => rfl, fun _ => rfl, fun _ => rfl, fun _ => rfl, fun _ => rfl, fun _ => rfl⟩) agV12 ⟨rfl, fun _ => rfl, fun _ => rfl, fun _ => rfl, fun _ => rfl, fun _ => rfl, fun _ => rfl⟩ (by (first | exact om_abdc88b0c8fc xlp13_10 | omega)))
                        have kt149 := i_clamp (x := V12 0 98) rfl (by (first | exact om_eafa9039069c r14.1 | omega))
                        have pk148 : PLK V V111 (V 0 98).toInt.toNat := PLK.tr xlp13_21 (t2 := (V 0 98).toInt.toNat) (fun j9 _ => Imp.go t110 (by (first | exact om_1a2dff4f1b3b hc | omega)) j9) (Nat.le_refl _)
                        have rj150 : RJm V111 gB := RJm.ag xlp13_22 (show agr [(0, 68), (0, 69), (0, 90), (0, 91), (0, 98)] [97] V12 V111 from (agr.tr agr.rf ajV111 (by decide) (by decide))) (by decide)
                        exact ihlp13 (f) (gk) (gi) (gp) (gm9) z92 z81 V111 H locs ls (by (first | exact om_8c285ac91b81 rgz92.1 rgz92.2 | omega)) (show 0 ≤ z81.toInt from by (first | exact om_d256ebc631d1 kpc kg9 hz81 | omega)) (Imp.mk (fun hp => have hp : z92.toInt = 0 := hp; (show (V111 0 98).toInt = (V 0 98).toInt + ((gk : Nat) : Int) from by (first | exact om_44a1f954dd54 ((Imp.go xlp13_1 (f41))) ((Imp.go t95 (hop)).1) | omega)))) (Imp.mk (fun hp => have hp : z92.toInt ≠ 2 := hp; (show (V111 0 76).toInt - (V111 0 69).toInt - (V111 0 73).toInt + 1 ≤ (V 0 76).toInt - (V 0 69).toInt - (V 0 73).toInt ∨ (z81.toInt = p0.toInt ∧ (V111 0 76).toInt - (V111 0 69).toInt - (V111 0 73).toInt ≤ (V 0 76).toInt - (V 0 69).toInt - (V 0 73).toInt ∧ z92.toInt = 0) from by omega))) (show (V111 0 93).toInt = (V 0 93).toInt from by (first | exact om_cd7d0a6a31bc xlp13_3 pq142 | omega)) (show (V 0 60).toInt ≤ (V111 0 60).toInt from by (first | exact om_a40cdd94799e xlp13_4 pq143 | omega)) (show (V 0 65).toInt ≤ (V111 0 65).toInt from by (first | exact om_a40cdd94799e xlp13_5 pq144 | omega)) (show (V111 0 65).toInt - (V 0 65).toInt ≤ (V111 0 60).toInt - (V 0 60).toInt from by (first | exact om_953d7b5213d2 xlp13_6 pq143 pq144 | omega)) (show (V111 0 73).toInt + (V111 0 95).toInt - (V111 0 65).toInt ≤ (V 0 73).toInt + (V 0 95).toInt - (V 0 65).toInt from by (first | exact om_5b806241d648 xlp13_7 pq140 pq144 pq145 | omega)) (show (V 0 73).toInt ≤ (V111 0 73).toInt from by (first | exact om_a40cdd94799e xlp13_8 pq140 | omega)) (show (V 0 69).toInt ≤ (V111 0 69).toInt from by (first | exact om_a40cdd94799e xlp13_9 rk118c | omega)) (show (V111 0 95).toInt = (V 0 95).toInt from by (first | exact om_cd7d0a6a31bc xlp13_10 pq145 | omega)) (show (V111 0 76).toInt - (V111 0 69).toInt - (V111 0 73).toInt ≤ (V 0 76).toInt - (V 0 69).toInt - (V 0 73).toInt from by (first | exact om_b2f0e61cd607 xlp13_11 rk118c pq140 pq141 | omega)) (show 0 ≤ z92.toInt ∧ z92.toInt ≤ 2 from by (first | exact om_8c285ac91b81 rgz92.1 rgz92.2 | omega)) rt146 fm147 (Imp.mk (fun _ => by have e8 : Int32.toNatClampNeg z81 = Int32.toNatClampNeg y11 + 1 := (by have h9 := i_clamp (x := z81) rfl (by (first | exact om_d256ebc631d1 kpc kg9 hz81 | omega)); omega); rw [e8]; exact hw)) (Imp.mk (fun hp => by exfalso; (first | exact om_caed67118137 rk118r hp | omega))) (Imp.mk (fun hp => by exfalso; (first | exact om_caed67118137 rk118r hp | omega))) (Imp.mk (fun hp => by exfalso; (first | exact om_caed67118137 rk118r hp | omega))) (Imp.mk (fun hp => have hp : z92.toInt = 0 := hp; (show ((gp.length : Nat) : Int) = ((gk : Nat) : Int) ∧ z81.toInt = ((10000 * nwh V + gi : Nat) : Int) from by omega))) (Imp.mk (fun _ => (DPc.m2 ht139 (by omega) : DPc gB (mV V 0 gt gu, ga, Fwork glv go gc gsc gme 0 ((gat : Nat) : Int) p4 [] :: gr) V111 gr (z92.toInt) 0 (24 * (10 - (V 0 93).toInt))))) pk148 rj150 (by (first | exact om_bd2466411592 hn | omega)) (agr.tr (agr.tr agr.rf ajV12 (by decide) (by decide)) ajV111 (by decide) (by decide)) hMV111 hP hD hS (lv_sub hl [0, 1, 5, 6, 7, 8, 9, 10, 11, 12] rfl)
                    · skip
                      have f151 : ((V 45 (Int32.toNatClampNeg y11))).toInt = 3 := b_eq rfl (by decide) c90
                      exfalso; (first | exact om_6c923bc86801 hop f151 | omega)
                  · skip
                    have f152 : ((V 45 (Int32.toNatClampNeg y11))).toInt = 14 := b_eq rfl (by decide) c88
                    exfalso; (first | exact om_3297cc680973 hop f152 | omega)
                · skip
                  have f153 : ((V 45 (Int32.toNatClampNeg y11))).toInt = 15 := b_eq rfl (by decide) c86
                  exfalso; (first | exact om_fe783a30f02e hop f153 | omega)
              · skip
                have f154 : ((V 45 (Int32.toNatClampNeg y11))).toInt = 12 := b_eq rfl (by decide) c84
                exfalso; (first | exact om_08cf71117b87 hop f154 | omega)
            · skip
              have f155 : ((V 45 (Int32.toNatClampNeg y11))).toInt = 13 := b_eq rfl (by decide) c82
              exfalso; (first | exact om_824ad23a25cf hop f155 | omega)
        · skip
          have hop : (V 45 (Int32.toNatClampNeg y11)).toInt = 2 := hc
          have oi9 : opf gB.1 gi = 2 := by have h9 : _ = ((opf gB.1 gi : Nat) : Int) := cd9.1; omega
          have hne : y11.toInt ≠ p0.toInt := fun h9 => by have e9 : y11 = p0 := Int32.toInt_inj.mp h9; rw [e9] at hop; omega
          refine lv_aload_n hx hb dX12_worksAround_17 rfl (lv_at hl 3 rfl) ?_
          refine va_get (D := D) (ci := 12) (v := .ref (ad 45)) (C := RX12) (T := TX12) (N := 100) hx hb hg inX12 hown hK hP 0 rfl rfl 45 (by decide) (hg _ w1751) (fun _ h9 => h9) rfl dX12_worksAround_18 ?_
          refine lv_iload hx hb dX12_worksAround_21 (lv_at hl 1 rfl) ?_
          refine va_iald (D := D) (i := y11) hx hb hK hP 38 37 rfl rfl (i_in (a := y11.toInt) rfl (by (first | exact om_943ab426fd09 hq b2 kpc | omega))) dX12_worksAround_23 ?_
          refine g_top (v := (V 45 (Int32.toNatClampNeg y11))) (ajV12 45 (Int32.toNatClampNeg y11) rfl) ?_
          refine lv_if_eq (tgt := 194) hx hb dX12_worksAround_24 (by decide) (fun c156 => ?_) (fun c156 => ?_)
          · skip
            have f157 : ((V 45 (Int32.toNatClampNeg y11))).toInt = 0 := b_eq rfl (by decide) c156
            exfalso; (first | exact om_caed67118137 hop f157 | omega)
          · skip
            have f158 : ((V 45 (Int32.toNatClampNeg y11))).toInt ≠ 0 := b_neq rfl (by decide) c156
            refine lv_aload_n hx hb dX12_worksAround_27 rfl (lv_at hl 3 rfl) ?_
            refine va_get (D := D) (ci := 12) (v := .ref (ad 45)) (C := RX12) (T := TX12) (N := 100) hx hb hg inX12 hown hK hP 0 rfl rfl 45 (by decide) (hg _ w1751) (fun _ h9 => h9) rfl dX12_worksAround_28 ?_
            refine lv_iload hx hb dX12_worksAround_31 (lv_at hl 1 rfl) ?_
            refine va_iald (D := D) (i := y11) hx hb hK hP 38 37 rfl rfl (i_in (a := y11.toInt) rfl (by (first | exact om_943ab426fd09 hq b2 kpc | omega))) dX12_worksAround_33 ?_
            refine g_top (v := (V 45 (Int32.toNatClampNeg y11))) (ajV12 45 (Int32.toNatClampNeg y11) rfl) ?_
            refine lv_istore (lv' := [(10, .int (V 45 (Int32.toNatClampNeg y11))), (9, .int y10), (8, .int y11), (7, .int (V 0 98)), (0, .ref (ad 0)), (1, .int p0), (2, .int p1), (3, .int p2), (4, .int p3), (5, .int p4), (6, .int p5)]) hx hb dX12_worksAround_34 hl (by decide) rfl (fun ls hl => ?_)
            refine lv_aload_n hx hb dX12_worksAround_36 rfl (lv_at hl 4 rfl) ?_
            refine va_get (D := D) (ci := 12) (v := .ref (ad 46)) (C := RX12) (T := TX12) (N := 100) hx hb hg inX12 hown hK hP 0 rfl rfl 46 (by decide) (hg _ w1752) (fun _ h9 => h9) rfl dX12_worksAround_37 ?_
            refine lv_iload hx hb dX12_worksAround_40 (lv_at hl 2 rfl) ?_
            refine va_iald (D := D) (i := y11) hx hb hK hP 39 38 rfl rfl (i_in (a := y11.toInt) rfl (by (first | exact om_943ab426fd09 hq b2 kpc | omega))) dX12_worksAround_42 ?_
            refine g_top (v := (V 46 (Int32.toNatClampNeg y11))) (ajV12 46 (Int32.toNatClampNeg y11) rfl) ?_
            refine lv_istore (lv' := [(11, .int (V 46 (Int32.toNatClampNeg y11))), (10, .int (V 45 (Int32.toNatClampNeg y11))), (9, .int y10), (8, .int y11), (7, .int (V 0 98)), (0, .ref (ad 0)), (1, .int p0), (2, .int p1), (3, .int p2), (4, .int p3), (5, .int p4), (6, .int p5)]) hx hb dX12_worksAround_43 hl (by decide) rfl (fun ls hl => ?_)
            refine lv_aload_n hx hb dX12_worksAround_45 rfl (lv_at hl 5 rfl) ?_
            refine va_get (D := D) (ci := 12) (v := .ref (ad 47)) (C := RX12) (T := TX12) (N := 100) hx hb hg inX12 hown hK hP 0 rfl rfl 47 (by decide) (hg _ w1753) (fun _ h9 => h9) rfl dX12_worksAround_46 ?_
            refine lv_iload hx hb dX12_worksAround_49 (lv_at hl 3 rfl) ?_
            refine va_iald (D := D) (i := y11) hx hb hK hP 40 39 rfl rfl (i_in (a := y11.toInt) rfl (by (first | exact om_943ab426fd09 hq b2 kpc | omega))) dX12_worksAround_51 ?_
            refine g_top (v := (V 47 (Int32.toNatClampNeg y11))) (ajV12 47 (Int32.toNatClampNeg y11) rfl) ?_
            refine lv_istore (lv' := [(12, .int (V 47 (Int32.toNatClampNeg y11))), (11, .int (V 46 (Int32.toNatClampNeg y11))), (10, .int (V 45 (Int32.toNatClampNeg y11))), (9, .int y10), (8, .int y11), (7, .int (V 0 98)), (0, .ref (ad 0)), (1, .int p0), (2, .int p1), (3, .int p2), (4, .int p3), (5, .int p4), (6, .int p5)]) hx hb dX12_worksAround_52 hl (by decide) rfl (fun ls hl => ?_)
            obtain ⟨z159, ez159⟩ : ∃ y : Int32, y = y11 + 1 := ⟨_, rfl⟩
            have hz159 : z159.toInt = y11.toInt + 1 := i_add ez159 rfl (by decide) (by (first | exact om_084b5c89eefe hq b2 kpc | omega))
            refine lv_iinc (v := z159) (lv' := [(8, .int z159), (12, .int (V 47 (Int32.toNatClampNeg y11))), (11, .int (V 46 (Int32.toNatClampNeg y11))), (10, .int (V 45 (Int32.toNatClampNeg y11))), (9, .int y10), (7, .int (V 0 98)), (0, .ref (ad 0)), (1, .int p0), (2, .int p1), (3, .int p2), (4, .int p3), (5, .int p4), (6, .int p5)]) hx hb dX12_worksAround_54 hl (k := 4) rfl (by rw [ez159]; rfl) (by decide) rfl (fun ls hl => ?_)
            refine lv_iload hx hb dX12_worksAround_57 (lv_at hl 3 rfl) ?_
            refine lv_bipush (v := 13) hx hb dX12_worksAround_59 (by decide) ?_
            refine lv_icmp_ne (tgt := 71) hx hb dX12_worksAround_61 (by decide) (fun c160 => ?_) (fun c160 => ?_)
            · skip
              have f161 : ((V 45 (Int32.toNatClampNeg y11))).toInt ≠ 13 := b_neq rfl (by decide) c160
              refine lv_iload hx hb dX12_worksAround_71 (lv_at hl 3 rfl) ?_
              refine lv_bipush (v := 12) hx hb dX12_worksAround_73 (by decide) ?_
              refine lv_icmp_ne (tgt := 97) hx hb dX12_worksAround_75 (by decide) (fun c162 => ?_) (fun c162 => ?_)
              · skip
                have f163 : ((V 45 (Int32.toNatClampNeg y11))).toInt ≠ 12 := b_neq rfl (by decide) c162
                refine lv_iload hx hb dX12_worksAround_97 (lv_at hl 3 rfl) ?_
                refine lv_bipush (v := 15) hx hb dX12_worksAround_99 (by decide) ?_
                refine lv_icmp_ne (tgt := 131) hx hb dX12_worksAround_101 (by decide) (fun c164 => ?_) (fun c164 => ?_)
                · skip
                  have f165 : ((V 45 (Int32.toNatClampNeg y11))).toInt ≠ 15 := b_neq rfl (by decide) c164
                  refine lv_iload hx hb dX12_worksAround_131 (lv_at hl 3 rfl) ?_
                  refine lv_bipush (v := 14) hx hb dX12_worksAround_133 (by decide) ?_
                  refine lv_icmp_ne (tgt := 166) hx hb dX12_worksAround_135 (by decide) (fun c166 => ?_) (fun c166 => ?_)
                  · skip
                    have f167 : ((V 45 (Int32.toNatClampNeg y11))).toInt ≠ 14 := b_neq rfl (by decide) c166
                    refine lv_iload hx hb dX12_worksAround_166 (lv_at hl 3 rfl) ?_
                    refine lv_iconst (v := 3) hx hb dX12_worksAround_168 (by decide) ?_
                    refine lv_icmp_ne (tgt := 181) hx hb dX12_worksAround_169 (by decide) (fun c168 => ?_) (fun c168 => ?_)
                    · skip
                      have f169 : ((V 45 (Int32.toNatClampNeg y11))).toInt ≠ 3 := b_neq rfl (by decide) c168
                      refine lv_aload_n hx hb dX12_worksAround_181 rfl (lv_at hl 6 rfl) ?_
                      refine lv_iload hx hb dX12_worksAround_182 (lv_at hl 3 rfl) ?_
                      refine lv_iload hx hb dX12_worksAround_184 (lv_at hl 2 rfl) ?_
                      refine gA_int (gA_runV (As := [.int (V 45 (Int32.toNatClampNeg y11)), .int (V 46 (Int32.toNatClampNeg y11))]) (rest := []) (ci := 12) (q0 := 0) hx hb hml hown hg hP hD hK hS hA hnw hgk (s_reckons3 l D ks H.size ad kk V12 L (V 45 (Int32.toNatClampNeg y11)) (V 46 (Int32.toNatClampNeg y11)) hMV12 (by (first | exact om_73291ea159ab hop | omega)) (Imp.mk (fun hp => have hp : ((V 45 (Int32.toNatClampNeg y11))).toInt = 11 := hp; (show 0 ≤ ((V 46 (Int32.toNatClampNeg y11))).toInt ∧ ((V 46 (Int32.toNatClampNeg y11))).toInt ≤ 11 from by omega))) (Imp.mk (fun hp => have hp : ((V 45 (Int32.toNatClampNeg y11))).toInt = 2 ∨ ((V 45 (Int32.toNatClampNeg y11))).toInt = 11 := hp; (show (V12 0 98).toInt ≤ 19999 from by (first | exact om_4f96cfc68dd3 n6 n7 r7.2 im42 hh | omega)))) (Imp.mk (fun hp => have hp : ((V 45 (Int32.toNatClampNeg y11))).toInt = 4 := hp; (show 1 ≤ (V12 0 98).toInt from by omega))) (Imp.mk (fun hp => have hp : 5 ≤ ((V 45 (Int32.toNatClampNeg y11))).toInt ∧ ((V 45 (Int32.toNatClampNeg y11))).toInt ≤ 9 := hp; (show 2 ≤ (V12 0 98).toInt from by omega))) (show ((V 45 (Int32.toNatClampNeg y11))).toInt ≠ 3 from by (first | exact om_dd0ce49d2fa7 hop | omega))) w2324 w2326 w150 w172 w2327 rfl rfl hdV_yX12_reckons ⟨(by show (1) + 1 ≤ (4 * d1 + 40 * d2 + 11); (first | exact om_1d3ee3ce7f7a n5 n6 r2.2 xlp13_3 r18.2 | omega)), (by show 8 + (5 + 11) + (21) ≤ (100 * d1 + 1000 * d2 + 410); (first | exact om_d7d7af4cd1f0 n5 n6 r2.2 xlp13_3 r18.2 | omega))⟩ rfl hl.1 rfl (Nat.le_of_ble_eq_true rfl) dX12_worksAround_186 ⟨Nat.le_of_ble_eq_true rfl, Nat.le_of_ble_eq_true rfl⟩) hP hD hK hS hA (fun z170 u171 H locs w172 hP hD hK hS => ?_)
                      obtain ⟨V189, L190⟩ := u171
                      obtain ⟨hMV189, ajV189, axL190, rgz170, t173, t174, t175, t176, t177, t178, t179, t180, t181, t182, t183, t184, t185, t186, t187, t188⟩ := w172
                      have axL190 : L = L190 := Eq.symm axL190
                      subst axL190
                      have hP : va_P D vwCl (mw ad kk ks.1 V189 L) H := hP
                      have hD : va_D A (mw ad kk ks.1 V189 L) := hD
                      have hMV189 : rgd bM V189 := hMV189
                      have ajV189 : agr [(0, 68), (0, 69), (0, 90), (0, 91), (0, 98)] [97] V12 V189 := ajV189
                      have agV189 : agr [(0, 60), (0, 65), (0, 68), (0, 69), (0, 73), (0, 76), (0, 90), (0, 91), (0, 92), (0, 93), (0, 95), (0, 96), (0, 98)] [59, 61, 62, 63, 64, 66, 67, 74, 75, 77, 78, 79, 80, 94, 97] V V189 := agV12.tr ajV189 (by decide) (by decide)
                      have rgz170 : 0 ≤ z170.toInt ∧ z170.toInt ≤ 2 := rgz170
                      have t173 : Imp (((V 45 (Int32.toNatClampNeg y11))).toInt = 1) ((V189 0 98).toInt = (V12 0 98).toInt ∧ ((z170.toInt = 0 ∧ (V189 0 69).toInt = (V12 0 69).toInt + 1 ∧ (V189 0 68).toInt = (V12 0 68).toInt + 1 ∧ (V12 0 69).toInt < 3000 ∧ (V12 0 68).toInt < 60000) ∨ (z170.toInt = 2 ∧ (V189 0 69).toInt = (V12 0 69).toInt ∧ (V189 0 68).toInt = (V12 0 68).toInt ∧ ((V12 0 69).toInt = 3000 ∨ (V12 0 68).toInt = 60000)))) := t173
                      have t174 : Imp (((V 45 (Int32.toNatClampNeg y11))).toInt = 10) (z170.toInt = 1 ∧ (V189 0 98).toInt = (V12 0 98).toInt ∧ (V189 0 90).toInt = 0 ∧ (V189 0 91).toInt = ((V 46 (Int32.toNatClampNeg y11))).toInt) := t174
                      have t175 : Imp (((V 45 (Int32.toNatClampNeg y11))).toInt = 2 ∨ ((V 45 (Int32.toNatClampNeg y11))).toInt = 11) (z170.toInt = 0 ∧ (V189 0 98).toInt = (V12 0 98).toInt + 1) := t175
                      have t176 : Imp (((V 45 (Int32.toNatClampNeg y11))).toInt = 4) (z170.toInt = 0 ∧ (V189 0 98).toInt = (V12 0 98).toInt) := t176
                      have t177 : Imp (5 ≤ ((V 45 (Int32.toNatClampNeg y11))).toInt ∧ ((V 45 (Int32.toNatClampNeg y11))).toInt ≤ 9) (z170.toInt = 0 ∧ (V189 0 98).toInt = (V12 0 98).toInt - 1) := t177
                      have t178 : Imp (((V 45 (Int32.toNatClampNeg y11))).toInt ≠ 1) ((V189 0 69).toInt = (V12 0 69).toInt ∧ (V189 0 68).toInt = (V12 0 68).toInt) := t178
                      have t179 : Imp (((V 45 (Int32.toNatClampNeg y11))).toInt ≠ 10) ((V189 0 90).toInt = (V12 0 90).toInt ∧ (V189 0 91).toInt = (V12 0 91).toInt) := t179
                      have t180 : Imp (((V 45 (Int32.toNatClampNeg y11))).toInt = 2) (V189 97 (Int32.toNatClampNeg (V12 0 98)) = (V 46 (Int32.toNatClampNeg y11)) ∧ ∀ j9, j9 ≠ Int32.toNatClampNeg (V12 0 98) → V189 97 j9 = V12 97 j9) := t180
                      have t181 : Imp (((V 45 (Int32.toNatClampNeg y11))).toInt = 11) (V189 97 (Int32.toNatClampNeg (V12 0 98)) = V12 18 (12 * nwh V12 + Int32.toNatClampNeg (V 46 (Int32.toNatClampNeg y11))) ∧ ∀ j9, j9 ≠ Int32.toNatClampNeg (V12 0 98) → V189 97 j9 = V12 97 j9) := t181
                      have t182 : Imp (((V 45 (Int32.toNatClampNeg y11))).toInt = 4) (∀ t9 : Nat, (V12 0 98).toInt = (t9 : Int) + 1 → V189 97 t9 = -(V12 97 t9) ∧ ∀ j9, j9 < t9 → V189 97 j9 = V12 97 j9) := t182
                      have t183 : Imp (((V 45 (Int32.toNatClampNeg y11))).toInt = 5) (∀ t9 : Nat, (V12 0 98).toInt = (t9 : Int) + 2 → V189 97 t9 = V12 97 t9 * V12 97 (t9 + 1) ∧ ∀ j9, j9 < t9 → V189 97 j9 = V12 97 j9) := t183
                      have t184 : Imp (((V 45 (Int32.toNatClampNeg y11))).toInt = 6) (∀ t9 : Nat, (V12 0 98).toInt = (t9 : Int) + 2 → V189 97 t9 = V12 97 t9 + V12 97 (t9 + 1) ∧ ∀ j9, j9 < t9 → V189 97 j9 = V12 97 j9) := t184
                      have t185 : Imp (((V 45 (Int32.toNatClampNeg y11))).toInt = 7) (∀ t9 : Nat, (V12 0 98).toInt = (t9 : Int) + 2 → V189 97 t9 = V12 97 t9 - V12 97 (t9 + 1) ∧ ∀ j9, j9 < t9 → V189 97 j9 = V12 97 j9) := t185
                      have t186 : Imp (((V 45 (Int32.toNatClampNeg y11))).toInt = 8) (∀ t9 : Nat, (V12 0 98).toInt = (t9 : Int) + 2 → V189 97 t9 = (if (V12 97 t9).toInt < (V12 97 (t9 + 1)).toInt then 1 else 0) ∧ ∀ j9, j9 < t9 → V189 97 j9 = V12 97 j9) := t186
                      have t187 : Imp (((V 45 (Int32.toNatClampNeg y11))).toInt = 9) (∀ t9 : Nat, (V12 0 98).toInt = (t9 : Int) + 2 → V189 97 t9 = (if V12 97 t9 = V12 97 (t9 + 1) then 1 else 0) ∧ ∀ j9, j9 < t9 → V189 97 j9 = V12 97 j9) := t187
                      have t188 : Imp (((V 45 (Int32.toNatClampNeg y11))).toInt = 1 ∨ ((V 45 (Int32.toNatClampNeg y11))).toInt = 10) (∀ j9, V189 97 j9 = V12 97 j9) := t188
                      have r191 : 0 ≤ ((V12 0 68)).toInt ∧ ((V12 0 68)).toInt ≤ 60000 := hMV12 0 68
                      have r192 : 0 ≤ ((V189 0 69)).toInt ∧ ((V189 0 69)).toInt ≤ 3000 := hMV189 0 69
                      have r193 : 0 ≤ ((V189 0 68)).toInt ∧ ((V189 0 68)).toInt ≤ 60000 := hMV189 0 68
                      have r194 : 0 ≤ ((V189 0 98)).toInt ∧ ((V189 0 98)).toInt ≤ 20000 := hMV189 0 98
                      refine lv_istore (lv' := [(9, .int z170), (8, .int z159), (12, .int (V 47 (Int32.toNatClampNeg y11))), (11, .int (V 46 (Int32.toNatClampNeg y11))), (10, .int (V 45 (Int32.toNatClampNeg y11))), (7, .int (V 0 98)), (0, .ref (ad 0)), (1, .int p0), (2, .int p1), (3, .int p2), (4, .int p3), (5, .int p4), (6, .int p5)]) hx hb dX12_worksAround_189 hl (by decide) rfl (fun ls hl => ?_)
                      have im195 := Imp.go t178 (by (first | exact om_29432ba3926b hop | omega))
                      have im196 := Imp.go t179 (by (first | exact om_6e02740c0f6e hop | omega))
                      have rk197 := Imp.go t180 (by (first | exact om_6aa5e6f8c558 hop | omega))
                      have rk197t := Imp.go t175 (by (first | exact om_856a8051ea83 hop | omega))
                      have r198 : 0 ≤ (V12 0 65).toInt := (hMV12 0 65).1
                      have r199 : (V12 0 60).toInt ≤ 300 := (hMV12 0 60).2
                      have r200 : 0 ≤ (V12 0 93).toInt ∧ (V12 0 93).toInt ≤ 10 := hMV12 0 93
                      have ht201 : TRs gB (mV V 0 gt gu, ga, Fwork glv go gc gsc gme 0 ((gat : Nat) : Int) p4 [] :: gr) (mV V12 sg9 t9 k9, a9, Fwork glv go gc gsc gm9 0 (((gi + 1) : Nat) : Int) p4 (((gB.1.2.1 (2001 + 3 * gi)).headD 0).toInt32 :: gp) :: gr) := TRs.st ht9 (SF.mk (show gr.length ≤ 394 from by (first | exact om_87fa92eb9f41 hl9 xlp13_3 r18.2 | omega)) (show gp.length + (totP gr) ≤ 2000 from by (first | exact om_5a0e9c5572b0 hp9 r7.2 nm9.1 hh | omega)) (show 0 ≤ (V12 0 65).toInt ∧ (V12 0 65).toInt ≤ 300 from by (first | exact om_65732a9e84ef n1 xlp13_6 r19.2 r20.1 | omega)) (fun h9 => by have h8 : sg9 = 2 := h9; omega) (show ∃ q9, OQ gB _ _ _ _ q9 from ⟨_, og7⟩)) (st_12.trans (or_2 oi9))
                      have on202 := OQ.i2 og7 (by (first | exact om_6a246cf2be73 oi9 | omega))
                      have pl203 : plR V189 (V189 0 98).toInt.toNat ((((gB.1.2.1 (2001 + 3 * gi)).headD 0).toInt32 :: gp)) := by rw [show (V189 0 98).toInt.toNat = (V12 0 98).toInt.toNat + 1 from by omega]; exact plR.pu pl9 (rk197.1.trans (cd9.2.1.1 oi9)) (fun j9 hj9 => rk197.2 j9 (by omega))
                      have ln204 : ((((gB.1.2.1 (2001 + 3 * gi)).headD 0).toInt32 :: gp)).length = gp.length + 1 := rfl
                      refine lv_goto (tgt := 12) hx hb dX12_worksAround_191 (by decide) ?_
                      have pq205 : (V189 0 73).toInt = ((V12 0 73)).toInt := congrArg Int32.toInt (ajV189 0 73 rfl)
                      have pq206 : (V189 0 76).toInt = ((V12 0 76)).toInt := congrArg Int32.toInt (ajV189 0 76 rfl)
                      have pq207 : (V189 0 93).toInt = ((V12 0 93)).toInt := congrArg Int32.toInt (ajV189 0 93 rfl)
                      have pq208 : (V189 0 60).toInt = ((V12 0 60)).toInt := congrArg Int32.toInt (ajV189 0 60 rfl)
                      have pq209 : (V189 0 65).toInt = ((V12 0 65)).toInt := congrArg Int32.toInt (ajV189 0 65 rfl)
                      have pq210 : (V189 0 95).toInt = ((V12 0 95)).toInt := congrArg Int32.toInt (ajV189 0 95 rfl)
                      have rt211 : RT V189 := RT.ag xlp13_13 hMV12 (show agr [(0, 68), (0, 69), (0, 90), (0, 91), (0, 98)] [97] V12 V189 from (agr.tr agr.rf ajV189 (by decide) (by decide))) ⟨⟨rfl, fun _ => rfl, fun _ => rfl, fun _ => rfl, fun _ => rfl, fun _ => rfl, fun _ => rfl⟩, by decide, by decide, rfl, rfl, fun _ => rfl, fun _ => rfl, fun _ => rfl, fun _ => rfl, fun _ => rfl, fun _ => rfl⟩ (c0k.ag (show agr [(0, 68), (0, 69), (0, 90), (0, 91), (0, 98)] [97] V12 V189 from (agr.tr agr.rf ajV189 (by decide) (by decide))) rfl)
                      have fm212 : FRM V V189 (-1) := (FRM.tr xlp13_14 (FRM.ag (show agr [(0, 68), (0, 69), (0, 90), (0, 91), (0, 98)] [97] V12 V189 from (agr.tr agr.rf ajV189 (by decide) (by decide))) ⟨⟨rfl, fun _ => rfl, fun _ => rfl, fun _ => rfl, fun _ => rfl, fun _ => rfl, fun _ => rfl⟩, by decide, by decide, rfl, rfl, fun _ => rfl, fun _ => rfl, fun _ => rfl, fun _ => rfl, fun _ => rfl, fun _ => rfl⟩) agV12 ⟨rfl, fun _ => rfl, fun _ => rfl, fun _ => rfl, fun _ => rfl, fun _ => rfl, fun _ => rfl⟩ (by (first | exact om_abdc88b0c8fc xlp13_10 | omega)))
                      have ht213 : TRs gB (mV V 0 gt gu, ga, Fwork glv go gc gsc gme 0 ((gat : Nat) : Int) p4 [] :: gr) (mV V189 sg9 t9 k9, a9, Fwork glv go gc gsc gm9 0 (((gi + 1) : Nat) : Int) p4 (((gB.1.2.1 (2001 + 3 * gi)).headD 0).toInt32 :: gp) :: gr) := by rw [mV_st0 (show agr [(0, 68), (0, 69), (0, 90), (0, 91), (0, 98)] [97] V12 V189 from (agr.tr agr.rf ajV189 (by decide) (by decide))) (by decide) (by omega) (by omega)]; exact ht201
                      have kt215 := i_clamp (x := V12 0 98) rfl (by (first | exact om_eafa9039069c r14.1 | omega))
                      have pk214 : PLK V V189 (V 0 98).toInt.toNat := PLK.tr xlp13_21 (t2 := (V 0 98).toInt.toNat) (fun j9 hj9 => (Imp.go t180 (by (first | exact om_6aa5e6f8c558 hop | omega))).2 j9 (by omega)) (Nat.le_refl _)
                      have rj216 : RJm V189 gB := RJm.ag xlp13_22 (show agr [(0, 68), (0, 69), (0, 90), (0, 91), (0, 98)] [97] V12 V189 from (agr.tr agr.rf ajV189 (by decide) (by decide))) (by decide)
                      exact ihlp13 (f) (gk + 1) ((gi + 1)) ((((gB.1.2.1 (2001 + 3 * gi)).headD 0).toInt32 :: gp)) (gm9) z170 z159 V189 H locs ls (by (first | exact om_8c285ac91b81 rgz170.1 rgz170.2 | omega)) (show 0 ≤ z159.toInt from by (first | exact om_d256ebc631d1 kpc kg9 hz159 | omega)) (Imp.mk (fun hp => have hp : z170.toInt = 0 := hp; (show (V189 0 98).toInt = (V 0 98).toInt + ((gk + 1 : Nat) : Int) from by (first | exact om_d1b9d768de7b im42 rk197t.2 | omega)))) (Imp.mk (fun hp => have hp : z170.toInt ≠ 2 := hp; (show (V189 0 76).toInt - (V189 0 69).toInt - (V189 0 73).toInt + 1 ≤ (V 0 76).toInt - (V 0 69).toInt - (V 0 73).toInt ∨ (z159.toInt = p0.toInt ∧ (V189 0 76).toInt - (V189 0 69).toInt - (V189 0 73).toInt ≤ (V 0 76).toInt - (V 0 69).toInt - (V 0 73).toInt ∧ z170.toInt = 0) from by (first | exact om_f1197ef27677 im43 hne im195.1 pq205 pq206 | omega)))) (show (V189 0 93).toInt = (V 0 93).toInt from by (first | exact om_cd7d0a6a31bc xlp13_3 pq207 | omega)) (show (V 0 60).toInt ≤ (V189 0 60).toInt from by (first | exact om_a40cdd94799e xlp13_4 pq208 | omega)) (show (V 0 65).toInt ≤ (V189 0 65).toInt from by (first | exact om_a40cdd94799e xlp13_5 pq209 | omega)) (show (V189 0 65).toInt - (V 0 65).toInt ≤ (V189 0 60).toInt - (V 0 60).toInt from by (first | exact om_953d7b5213d2 xlp13_6 pq208 pq209 | omega)) (show (V189 0 73).toInt + (V189 0 95).toInt - (V189 0 65).toInt ≤ (V 0 73).toInt + (V 0 95).toInt - (V 0 65).toInt from by (first | exact om_5b806241d648 xlp13_7 pq205 pq209 pq210 | omega)) (show (V 0 73).toInt ≤ (V189 0 73).toInt from by (first | exact om_a40cdd94799e xlp13_8 pq205 | omega)) (show (V 0 69).toInt ≤ (V189 0 69).toInt from by (first | exact om_a40cdd94799e xlp13_9 im195.1 | omega)) (show (V189 0 95).toInt = (V 0 95).toInt from by (first | exact om_cd7d0a6a31bc xlp13_10 pq210 | omega)) (show (V189 0 76).toInt - (V189 0 69).toInt - (V189 0 73).toInt ≤ (V 0 76).toInt - (V 0 69).toInt - (V 0 73).toInt from by (first | exact om_b2f0e61cd607 xlp13_11 im195.1 pq205 pq206 | omega)) (show 0 ≤ z170.toInt ∧ z170.toInt ≤ 2 from by (first | exact om_8c285ac91b81 rgz170.1 rgz170.2 | omega)) rt211 fm212 (Imp.mk (fun _ => by have e8 : Int32.toNatClampNeg z159 = Int32.toNatClampNeg y11 + 1 := (by have h9 := i_clamp (x := z159) rfl (by (first | exact om_d256ebc631d1 kpc kg9 hz159 | omega)); omega); rw [e8]; exact hw)) (Imp.mk (fun _ => ⟨sg9, t9, k9, a9, sq9, ht213⟩)) (Imp.mk (fun _ => on202)) (Imp.mk (fun _ => pl203)) (Imp.mk (fun hp => have hp : z170.toInt = 0 := hp; (show (((((gB.1.2.1 (2001 + 3 * gi)).headD 0).toInt32 :: gp).length : Nat) : Int) = ((gk + 1 : Nat) : Int) ∧ z159.toInt = ((10000 * nwh V + (gi + 1) : Nat) : Int) from by (first | exact om_689688249c8a kpc kg9 hz159 ln204 ((Imp.go xlp13_19 (f41)).1) | omega)))) (Imp.mk (fun hp => by exfalso; (first | exact om_fb320d7600b7 rgz170.1 rk197t.1 hp | omega))) pk214 rj216 (by (first | exact om_bd2466411592 hn | omega)) (agr.tr (agr.tr agr.rf ajV12 (by decide) (by decide)) ajV189 (by decide) (by decide)) hMV189 hP hD hS (lv_sub hl [0, 1, 5, 6, 7, 8, 9, 10, 11, 12] rfl)
                    · skip
                      have f217 : ((V 45 (Int32.toNatClampNeg y11))).toInt = 3 := b_eq rfl (by decide) c168
                      exfalso; (first | exact om_8a91362a6d8c hop f217 | omega)
                  · skip
                    have f218 : ((V 45 (Int32.toNatClampNeg y11))).toInt = 14 := b_eq rfl (by decide) c166
                    exfalso; (first | exact om_caa4cc42f4d7 hop f218 | omega)
                · skip
                  have f219 : ((V 45 (Int32.toNatClampNeg y11))).toInt = 15 := b_eq rfl (by decide) c164
                  exfalso; (first | exact om_a36ae8171877 hop f219 | omega)
              · skip
                have f220 : ((V 45 (Int32.toNatClampNeg y11))).toInt = 12 := b_eq rfl (by decide) c162
                exfalso; (first | exact om_c71b06041e8c hop f220 | omega)
            · skip
              have f221 : ((V 45 (Int32.toNatClampNeg y11))).toInt = 13 := b_eq rfl (by decide) c160
              exfalso; (first | exact om_77e56efe40a2 hop f221 | omega)
        · skip
          have hop : (V 45 (Int32.toNatClampNeg y11)).toInt = 3 := hc
          have oi9 : opf gB.1 gi = 3 := by have h9 : _ = ((opf gB.1 gi : Nat) : Int) := cd9.1; omega
          have hne : y11.toInt ≠ p0.toInt := fun h9 => by have e9 : y11 = p0 := Int32.toInt_inj.mp h9; rw [e9] at hop; omega
          refine lv_aload_n hx hb dX12_worksAround_17 rfl (lv_at hl 3 rfl) ?_
          refine va_get (D := D) (ci := 12) (v := .ref (ad 45)) (C := RX12) (T := TX12) (N := 100) hx hb hg inX12 hown hK hP 0 rfl rfl 45 (by decide) (hg _ w1751) (fun _ h9 => h9) rfl dX12_worksAround_18 ?_
          refine lv_iload hx hb dX12_worksAround_21 (lv_at hl 1 rfl) ?_
          refine va_iald (D := D) (i := y11) hx hb hK hP 38 37 rfl rfl (i_in (a := y11.toInt) rfl (by omega)) dX12_worksAround_23 ?_
          refine g_top (v := (V 45 (Int32.toNatClampNeg y11))) (ajV12 45 (Int32.toNatClampNeg y11) rfl) ?_
          refine lv_if_eq (tgt := 194) hx hb dX12_worksAround_24 (by decide) (fun c222 => ?_) (fun c222 => ?_)
          · skip
            have f223 : ((V 45 (Int32.toNatClampNeg y11))).toInt = 0 := b_eq rfl (by decide) c222
            exfalso; (first | exact om_99e0fc3fbc43 hop f223 | omega)
          · skip
            have f224 : ((V 45 (Int32.toNatClampNeg y11))).toInt ≠ 0 := b_neq rfl (by decide) c222
            refine lv_aload_n hx hb dX12_worksAround_27 rfl (lv_at hl 3 rfl) ?_
            refine va_get (D := D) (ci := 12) (v := .ref (ad 45)) (C := RX12) (T := TX12) (N := 100) hx hb hg inX12 hown hK hP 0 rfl rfl 45 (by decide) (hg _ w1751) (fun _ h9 => h9) rfl dX12_worksAround_28 ?_
            refine lv_iload hx hb dX12_worksAround_31 (lv_at hl 1 rfl) ?_
            refine va_iald (D := D) (i := y11) hx hb hK hP 38 37 rfl rfl (i_in (a := y11.toInt) rfl (by omega)) dX12_worksAround_33 ?_
            refine g_top (v := (V 45 (Int32.toNatClampNeg y11))) (ajV12 45 (Int32.toNatClampNeg y11) rfl) ?_
            refine lv_istore (lv' := [(10, .int (V 45 (Int32.toNatClampNeg y11))), (9, .int y10), (8, .int y11), (7, .int (V 0 98)), (0, .ref (ad 0)), (1, .int p0), (2, .int p1), (3, .int p2), (4, .int p3), (5, .int p4), (6, .int p5)]) hx hb dX12_worksAround_34 hl (by decide) rfl (fun ls hl => ?_)
            refine lv_aload_n hx hb dX12_worksAround_36 rfl (lv_at hl 4 rfl) ?_
            refine va_get (D := D) (ci := 12) (v := .ref (ad 46)) (C := RX12) (T := TX12) (N := 100) hx hb hg inX12 hown hK hP 0 rfl rfl 46 (by decide) (hg _ w1752) (fun _ h9 => h9) rfl dX12_worksAround_37 ?_
            refine lv_iload hx hb dX12_worksAround_40 (lv_at hl 2 rfl) ?_
            refine va_iald (D := D) (i := y11) hx hb hK hP 39 38 rfl rfl (i_in (a := y11.toInt) rfl (by omega)) dX12_worksAround_42 ?_
            refine g_top (v := (V 46 (Int32.toNatClampNeg y11))) (ajV12 46 (Int32.toNatClampNeg y11) rfl) ?_
            refine lv_istore (lv' := [(11, .int (V 46 (Int32.toNatClampNeg y11))), (10, .int (V 45 (Int32.toNatClampNeg y11))), (9, .int y10), (8, .int y11), (7, .int (V 0 98)), (0, .ref (ad 0)), (1, .int p0), (2, .int p1), (3, .int p2), (4, .int p3), (5, .int p4), (6, .int p5)]) hx hb dX12_worksAround_43 hl (by decide) rfl (fun ls hl => ?_)
            refine lv_aload_n hx hb dX12_worksAround_45 rfl (lv_at hl 5 rfl) ?_
            refine va_get (D := D) (ci := 12) (v := .ref (ad 47)) (C := RX12) (T := TX12) (N := 100) hx hb hg inX12 hown hK hP 0 rfl rfl 47 (by decide) (hg _ w1753) (fun _ h9 => h9) rfl dX12_worksAround_46 ?_
            refine lv_iload hx hb dX12_worksAround_49 (lv_at hl 3 rfl) ?_
            refine va_iald (D := D) (i := y11) hx hb hK hP 40 39 rfl rfl (i_in (a := y11.toInt) rfl (by omega)) dX12_worksAround_51 ?_
            refine g_top (v := (V 47 (Int32.toNatClampNeg y11))) (ajV12 47 (Int32.toNatClampNeg y11) rfl) ?_
            refine lv_istore (lv' := [(12, .int (V 47 (Int32.toNatClampNeg y11))), (11, .int (V 46 (Int32.toNatClampNeg y11))), (10, .int (V 45 (Int32.toNatClampNeg y11))), (9, .int y10), (8, .int y11), (7, .int (V 0 98)), (0, .ref (ad 0)), (1, .int p0), (2, .int p1), (3, .int p2), (4, .int p3), (5, .int p4), (6, .int p5)]) hx hb dX12_worksAround_52 hl (by decide) rfl (fun ls hl => ?_)
            obtain ⟨z225, ez225⟩ : ∃ y : Int32, y = y11 + 1 := ⟨_, rfl⟩
            have hz225 : z225.toInt = y11.toInt + 1 := i_add ez225 rfl (by decide) (by omega)
            refine lv_iinc (v := z225) (lv' := [(8, .int z225), (12, .int (V 47 (Int32.toNatClampNeg y11))), (11, .int (V 46 (Int32.toNatClampNeg y11))), (10, .int (V 45 (Int32.toNatClampNeg y11))), (9, .int y10), (7, .int (V 0 98)), (0, .ref (ad 0)), (1, .int p0), (2, .int p1), (3, .int p2), (4, .int p3), (5, .int p4), (6, .int p5)]) hx hb dX12_worksAround_54 hl (k := 4) rfl (by rw [ez225]; rfl) (by decide) rfl (fun ls hl => ?_)
            refine lv_iload hx hb dX12_worksAround_57 (lv_at hl 3 rfl) ?_
            refine lv_bipush (v := 13) hx hb dX12_worksAround_59 (by decide) ?_
            refine lv_icmp_ne (tgt := 71) hx hb dX12_worksAround_61 (by decide) (fun c226 => ?_) (fun c226 => ?_)
            · skip
              have f227 : ((V 45 (Int32.toNatClampNeg y11))).toInt ≠ 13 := b_neq rfl (by decide) c226
              refine lv_iload hx hb dX12_worksAround_71 (lv_at hl 3 rfl) ?_
              refine lv_bipush (v := 12) hx hb dX12_worksAround_73 (by decide) ?_
              refine lv_icmp_ne (tgt := 97) hx hb dX12_worksAround_75 (by decide) (fun c228 => ?_) (fun c228 => ?_)
              · skip
                have f229 : ((V 45 (Int32.toNatClampNeg y11))).toInt ≠ 12 := b_neq rfl (by decide) c228
                refine lv_iload hx hb dX12_worksAround_97 (lv_at hl 3 rfl) ?_
                refine lv_bipush (v := 15) hx hb dX12_worksAround_99 (by decide) ?_
                refine lv_icmp_ne (tgt := 131) hx hb dX12_worksAround_101 (by decide) (fun c230 => ?_) (fun c230 => ?_)
                · skip
                  have f231 : ((V 45 (Int32.toNatClampNeg y11))).toInt ≠ 15 := b_neq rfl (by decide) c230
                  refine lv_iload hx hb dX12_worksAround_131 (lv_at hl 3 rfl) ?_
                  refine lv_bipush (v := 14) hx hb dX12_worksAround_133 (by decide) ?_
                  refine lv_icmp_ne (tgt := 166) hx hb dX12_worksAround_135 (by decide) (fun c232 => ?_) (fun c232 => ?_)
                  · skip
                    have f233 : ((V 45 (Int32.toNatClampNeg y11))).toInt ≠ 14 := b_neq rfl (by decide) c232
                    refine lv_iload hx hb dX12_worksAround_166 (lv_at hl 3 rfl) ?_
                    refine lv_iconst (v := 3) hx hb dX12_worksAround_168 (by decide) ?_
                    refine lv_icmp_ne (tgt := 181) hx hb dX12_worksAround_169 (by decide) (fun c234 => ?_) (fun c234 => ?_)
                    · skip
                      have f235 : ((V 45 (Int32.toNatClampNeg y11))).toInt ≠ 3 := b_neq rfl (by decide) c234
                      exfalso; (first | exact om_bc2df6e8a311 hop f235 | omega)
                    · skip
                      have f236 : ((V 45 (Int32.toNatClampNeg y11))).toInt = 3 := b_eq rfl (by decide) c234
                      refine lv_aload_n hx hb dX12_worksAround_172 rfl (lv_at hl 6 rfl) ?_
                      refine lv_iload hx hb dX12_worksAround_173 (lv_at hl 11 rfl) ?_
                      refine gA_void (gA_runV (As := [.int p4]) (rest := []) (ci := 12) (q0 := 0) hx hb hml hown hg hP hD hK hS hA hnw hgk (s_push3 l D ks H.size ad kk V12 L p4 hMV12 (show (V12 0 98).toInt ≤ 19999 from by omega)) w2304 w2306 w145 w172 w2307 rfl rfl hdV_yX12_push ⟨(by show (0) + 1 ≤ (4 * d1 + 40 * d2 + 11); (first | exact om_212987aed262 n5 n6 r2.2 xlp13_3 r18.2 | omega)), (by show 8 + (2 + 11) + (0) ≤ (100 * d1 + 1000 * d2 + 410); (first | exact om_bfad6eb971f3 n5 n6 r2.2 xlp13_3 r18.2 | omega))⟩ rfl hl.1 rfl (Nat.le_of_ble_eq_true rfl) dX12_worksAround_175 ⟨Nat.le_of_ble_eq_true rfl, Nat.le_of_ble_eq_true rfl⟩) hP hD hK hS hA (fun u238 H locs w239 hP hD hK hS => ?_)
                      obtain ⟨V242, L243⟩ := u238
                      obtain ⟨hMV242, ajV242, axL243, t240, t241⟩ := w239
                      have axL243 : L = L243 := Eq.symm axL243
                      subst axL243
                      have hP : va_P D vwCl (mw ad kk ks.1 V242 L) H := hP
                      have hD : va_D A (mw ad kk ks.1 V242 L) := hD
                      have hMV242 : rgd bM V242 := hMV242
                      have ajV242 : agr [(0, 98)] [97] V12 V242 := ajV242
                      have agV242 : agr [(0, 60), (0, 65), (0, 68), (0, 69), (0, 73), (0, 76), (0, 90), (0, 91), (0, 92), (0, 93), (0, 95), (0, 96), (0, 98)] [59, 61, 62, 63, 64, 66, 67, 74, 75, 77, 78, 79, 80, 94, 97] V V242 := agV12.tr ajV242 (by decide) (by decide)
                      have t240 : (V242 0 98).toInt = (V12 0 98).toInt + 1 := t240
                      have t241 : V242 97 (Int32.toNatClampNeg (V12 0 98)) = p4 ∧ ∀ j9, j9 ≠ Int32.toNatClampNeg (V12 0 98) → V242 97 j9 = V12 97 j9 := t241
                      have r244 : 0 ≤ ((V242 0 98)).toInt ∧ ((V242 0 98)).toInt ≤ 20000 := hMV242 0 98
                      refine lv_goto (tgt := 191) hx hb dX12_worksAround_178 (by decide) ?_
                      have r245 : 0 ≤ (V12 0 65).toInt := (hMV12 0 65).1
                      have r246 : (V12 0 60).toInt ≤ 300 := (hMV12 0 60).2
                      have r247 : 0 ≤ (V12 0 93).toInt ∧ (V12 0 93).toInt ≤ 10 := hMV12 0 93
                      have ht248 : TRs gB (mV V 0 gt gu, ga, Fwork glv go gc gsc gme 0 ((gat : Nat) : Int) p4 [] :: gr) (mV V12 sg9 t9 k9, a9, Fwork glv go gc gsc gm9 0 (((gi + 1) : Nat) : Int) p4 (p4 :: gp) :: gr) := TRs.st ht9 (SF.mk (show gr.length ≤ 394 from by (first | exact om_87fa92eb9f41 hl9 xlp13_3 r18.2 | omega)) (show gp.length + (totP gr) ≤ 2000 from by omega) (show 0 ≤ (V12 0 65).toInt ∧ (V12 0 65).toInt ≤ 300 from by (first | exact om_65732a9e84ef n1 xlp13_6 r19.2 r20.1 | omega)) (fun h9 => by have h8 : sg9 = 2 := h9; omega) (show ∃ q9, OQ gB _ _ _ _ q9 from ⟨_, og7⟩)) (st_12.trans (or_3 oi9))
                      have on249 := OQ.i2 og7 (by omega)
                      have pl250 : plR V242 (V242 0 98).toInt.toNat ((p4 :: gp)) := by rw [show (V242 0 98).toInt.toNat = (V12 0 98).toInt.toNat + 1 from by omega]; exact plR.pu pl9 t241.1 (fun j9 hj9 => t241.2 j9 (by omega))
                      have ln251 : ((p4 :: gp)).length = gp.length + 1 := rfl
                      refine lv_goto (tgt := 12) hx hb dX12_worksAround_191 (by decide) ?_
                      have pq252 : (V242 0 73).toInt = ((V12 0 73)).toInt := congrArg Int32.toInt (ajV242 0 73 rfl)
                      have pq253 : (V242 0 76).toInt = ((V12 0 76)).toInt := congrArg Int32.toInt (ajV242 0 76 rfl)
                      have pq254 : (V242 0 69).toInt = ((V12 0 69)).toInt := congrArg Int32.toInt (ajV242 0 69 rfl)
                      have pq255 : (V242 0 93).toInt = ((V12 0 93)).toInt := congrArg Int32.toInt (ajV242 0 93 rfl)
                      have pq256 : (V242 0 60).toInt = ((V12 0 60)).toInt := congrArg Int32.toInt (ajV242 0 60 rfl)
                      have pq257 : (V242 0 65).toInt = ((V12 0 65)).toInt := congrArg Int32.toInt (ajV242 0 65 rfl)
                      have pq258 : (V242 0 95).toInt = ((V12 0 95)).toInt := congrArg Int32.toInt (ajV242 0 95 rfl)
                      have rt259 : RT V242 := RT.ag xlp13_13 hMV12 (show agr [(0, 98)] [97] V12 V242 from (agr.tr agr.rf ajV242 (by decide) (by decide))) ⟨⟨rfl, fun _ => rfl, fun _ => rfl, fun _ => rfl, fun _ => rfl, fun _ => rfl, fun _ => rfl⟩, by decide, by decide, rfl, rfl, fun _ => rfl, fun _ => rfl, fun _ => rfl, fun _ => rfl, fun _ => rfl, fun _ => rfl⟩ (c0k.ag (show agr [(0, 98)] [97] V12 V242 from (agr.tr agr.rf ajV242 (by decide) (by decide))) rfl)
                      have fm260 : FRM V V242 (-1) := (FRM.tr xlp13_14 (FRM.ag (show agr [(0, 98)] [97] V12 V242 from (agr.tr agr.rf ajV242 (by decide) (by decide))) ⟨⟨rfl, fun _ => rfl, fun _ => rfl, fun _ => rfl, fun _ => rfl, fun _ => rfl, fun _ => rfl⟩, by decide, by decide, rfl, rfl, fun _ => rfl, fun _ => rfl, fun _ => rfl, fun _ => rfl, fun _ => rfl, fun _ => rfl⟩) agV12 ⟨rfl, fun _ => rfl, fun _ => rfl, fun _ => rfl, fun _ => rfl, fun _ => rfl, fun _ => rfl⟩ (by (first | exact om_abdc88b0c8fc xlp13_10 | omega)))
                      have ht261 : TRs gB (mV V 0 gt gu, ga, Fwork glv go gc gsc gme 0 ((gat : Nat) : Int) p4 [] :: gr) (mV V242 sg9 t9 k9, a9, Fwork glv go gc gsc gm9 0 (((gi + 1) : Nat) : Int) p4 (p4 :: gp) :: gr) := by rw [mV_ag (show agr [(0, 98)] [97] V12 V242 from (agr.tr agr.rf ajV242 (by decide) (by decide))) (by decide)]; exact ht248
                      have kt263 := i_clamp (x := V12 0 98) rfl (by (first | exact om_eafa9039069c r14.1 | omega))
                      have pk262 : PLK V V242 (V 0 98).toInt.toNat := PLK.tr xlp13_21 (t2 := (V 0 98).toInt.toNat) (fun j9 hj9 => t241.2 j9 (by omega)) (Nat.le_refl _)
                      have rj264 : RJm V242 gB := RJm.ag xlp13_22 (show agr [(0, 98)] [97] V12 V242 from (agr.tr agr.rf ajV242 (by decide) (by decide))) (by decide)
                      exact ihlp13 (f) (gk + 1) ((gi + 1)) ((p4 :: gp)) (gm9) y10 z225 V242 H locs ls (by (first | exact om_1b1318762dc0 klp13_0.1 f41 | omega)) (show 0 ≤ z225.toInt from by (first | exact om_d256ebc631d1 kpc kg9 hz225 | omega)) (Imp.mk (fun hp => have hp : y10.toInt = 0 := hp; (show (V242 0 98).toInt = (V 0 98).toInt + ((gk + 1 : Nat) : Int) from by (first | exact om_1d6050cb466e t240 ((Imp.go xlp13_1 (hp))) | omega)))) (Imp.mk (fun hp => have hp : y10.toInt ≠ 2 := hp; (show (V242 0 76).toInt - (V242 0 69).toInt - (V242 0 73).toInt + 1 ≤ (V 0 76).toInt - (V 0 69).toInt - (V 0 73).toInt ∨ (z225.toInt = p0.toInt ∧ (V242 0 76).toInt - (V242 0 69).toInt - (V242 0 73).toInt ≤ (V 0 76).toInt - (V 0 69).toInt - (V 0 73).toInt ∧ y10.toInt = 0) from by omega))) (show (V242 0 93).toInt = (V 0 93).toInt from by (first | exact om_cd7d0a6a31bc xlp13_3 pq255 | omega)) (show (V 0 60).toInt ≤ (V242 0 60).toInt from by (first | exact om_a40cdd94799e xlp13_4 pq256 | omega)) (show (V 0 65).toInt ≤ (V242 0 65).toInt from by (first | exact om_a40cdd94799e xlp13_5 pq257 | omega)) (show (V242 0 65).toInt - (V 0 65).toInt ≤ (V242 0 60).toInt - (V 0 60).toInt from by (first | exact om_953d7b5213d2 xlp13_6 pq256 pq257 | omega)) (show (V242 0 73).toInt + (V242 0 95).toInt - (V242 0 65).toInt ≤ (V 0 73).toInt + (V 0 95).toInt - (V 0 65).toInt from by (first | exact om_5b806241d648 xlp13_7 pq252 pq257 pq258 | omega)) (show (V 0 73).toInt ≤ (V242 0 73).toInt from by (first | exact om_a40cdd94799e xlp13_8 pq252 | omega)) (show (V 0 69).toInt ≤ (V242 0 69).toInt from by (first | exact om_a40cdd94799e xlp13_9 pq254 | omega)) (show (V242 0 95).toInt = (V 0 95).toInt from by (first | exact om_cd7d0a6a31bc xlp13_10 pq258 | omega)) (show (V242 0 76).toInt - (V242 0 69).toInt - (V242 0 73).toInt ≤ (V 0 76).toInt - (V 0 69).toInt - (V 0 73).toInt from by (first | exact om_5f68dd7d7033 xlp13_11 pq252 pq253 pq254 | omega)) (show 0 ≤ y10.toInt ∧ y10.toInt ≤ 2 from by (first | exact om_1b1318762dc0 klp13_0.1 f41 | omega)) rt259 fm260 (Imp.mk (fun _ => by have e8 : Int32.toNatClampNeg z225 = Int32.toNatClampNeg y11 + 1 := (by have h9 := i_clamp (x := z225) rfl (by (first | exact om_d256ebc631d1 kpc kg9 hz225 | omega)); omega); rw [e8]; exact hw)) (Imp.mk (fun _ => ⟨sg9, t9, k9, a9, sq9, ht261⟩)) (Imp.mk (fun _ => on249)) (Imp.mk (fun _ => pl250)) (Imp.mk (fun hp => have hp : y10.toInt = 0 := hp; (show (((p4 :: gp).length : Nat) : Int) = ((gk + 1 : Nat) : Int) ∧ z225.toInt = ((10000 * nwh V + (gi + 1) : Nat) : Int) from by (first | exact om_689688249c8a kpc kg9 hz225 ln251 ((Imp.go xlp13_19 (hp)).1) | omega)))) (Imp.mk (fun hp => by exfalso; (first | exact om_fb320d7600b7 klp13_0.1 f41 hp | omega))) pk262 rj264 (by omega) (agr.tr (agr.tr agr.rf ajV12 (by decide) (by decide)) ajV242 (by decide) (by decide)) hMV242 hP hD hS (lv_sub hl [4, 0, 5, 6, 7, 8, 9, 10, 11, 12] rfl)
                  · skip
                    have f265 : ((V 45 (Int32.toNatClampNeg y11))).toInt = 14 := b_eq rfl (by decide) c232
                    exfalso; (first | exact om_ae4ef619a249 hop f265 | omega)
                · skip
                  have f266 : ((V 45 (Int32.toNatClampNeg y11))).toInt = 15 := b_eq rfl (by decide) c230
                  exfalso; (first | exact om_757b597c0315 hop f266 | omega)
              · skip
                have f267 : ((V 45 (Int32.toNatClampNeg y11))).toInt = 12 := b_eq rfl (by decide) c228
                exfalso; (first | exact om_13a3c19efcb1 hop f267 | omega)
            · skip
              have f268 : ((V 45 (Int32.toNatClampNeg y11))).toInt = 13 := b_eq rfl (by decide) c226
              exfalso; (first | exact om_04636d07b61a hop f268 | omega)
        · skip
          have hop : (V 45 (Int32.toNatClampNeg y11)).toInt = 11 := hc
          have oi9 : opf gB.1 gi = 11 := by have h9 : _ = ((opf gB.1 gi : Nat) : Int) := cd9.1; omega
          have hne : y11.toInt ≠ p0.toInt := fun h9 => by have e9 : y11 = p0 := Int32.toInt_inj.mp h9; rw [e9] at hop; omega
          have hy1 : 0 ≤ (V 46 (Int32.toNatClampNeg y11)).toInt ∧ (V 46 (Int32.toNatClampNeg y11)).toInt ≤ 11 := ⟨hx1, hx2⟩
          refine lv_aload_n hx hb dX12_worksAround_17 rfl (lv_at hl 3 rfl) ?_
          refine va_get (D := D) (ci := 12) (v := .ref (ad 45)) (C := RX12) (T := TX12) (N := 100) hx hb hg inX12 hown hK hP 0 rfl rfl 45 (by decide) (hg _ w1751) (fun _ h9 => h9) rfl dX12_worksAround_18 ?_
          refine lv_iload hx hb dX12_worksAround_21 (lv_at hl 1 rfl) ?_
          refine va_iald (D := D) (i := y11) hx hb hK hP 38 37 rfl rfl (i_in (a := y11.toInt) rfl (by (first | exact om_943ab426fd09 hq b2 kpc | omega))) dX12_worksAround_23 ?_
          refine g_top (v := (V 45 (Int32.toNatClampNeg y11))) (ajV12 45 (Int32.toNatClampNeg y11) rfl) ?_
          refine lv_if_eq (tgt := 194) hx hb dX12_worksAround_24 (by decide) (fun c269 => ?_) (fun c269 => ?_)
          · skip
            have f270 : ((V 45 (Int32.toNatClampNeg y11))).toInt = 0 := b_eq rfl (by decide) c269
            exfalso; (first | exact om_a3264a8e9b1e hop f270 | omega)
          · skip
            have f271 : ((V 45 (Int32.toNatClampNeg y11))).toInt ≠ 0 := b_neq rfl (by decide) c269
            refine lv_aload_n hx hb dX12_worksAround_27 rfl (lv_at hl 3 rfl) ?_
            refine va_get (D := D) (ci := 12) (v := .ref (ad 45)) (C := RX12) (T := TX12) (N := 100) hx hb hg inX12 hown hK hP 0 rfl rfl 45 (by decide) (hg _ w1751) (fun _ h9 => h9) rfl dX12_worksAround_28 ?_
            refine lv_iload hx hb dX12_worksAround_31 (lv_at hl 1 rfl) ?_
            refine va_iald (D := D) (i := y11) hx hb hK hP 38 37 rfl rfl (i_in (a := y11.toInt) rfl (by (first | exact om_943ab426fd09 hq b2 kpc | omega))) dX12_worksAround_33 ?_
            refine g_top (v := (V 45 (Int32.toNatClampNeg y11))) (ajV12 45 (Int32.toNatClampNeg y11) rfl) ?_
            refine lv_istore (lv' := [(10, .int (V 45 (Int32.toNatClampNeg y11))), (9, .int y10), (8, .int y11), (7, .int (V 0 98)), (0, .ref (ad 0)), (1, .int p0), (2, .int p1), (3, .int p2), (4, .int p3), (5, .int p4), (6, .int p5)]) hx hb dX12_worksAround_34 hl (by decide) rfl (fun ls hl => ?_)
            refine lv_aload_n hx hb dX12_worksAround_36 rfl (lv_at hl 4 rfl) ?_
            refine va_get (D := D) (ci := 12) (v := .ref (ad 46)) (C := RX12) (T := TX12) (N := 100) hx hb hg inX12 hown hK hP 0 rfl rfl 46 (by decide) (hg _ w1752) (fun _ h9 => h9) rfl dX12_worksAround_37 ?_
            refine lv_iload hx hb dX12_worksAround_40 (lv_at hl 2 rfl) ?_
            refine va_iald (D := D) (i := y11) hx hb hK hP 39 38 rfl rfl (i_in (a := y11.toInt) rfl (by (first | exact om_943ab426fd09 hq b2 kpc | omega))) dX12_worksAround_42 ?_
            refine g_top (v := (V 46 (Int32.toNatClampNeg y11))) (ajV12 46 (Int32.toNatClampNeg y11) rfl) ?_
            refine lv_istore (lv' := [(11, .int (V 46 (Int32.toNatClampNeg y11))), (10, .int (V 45 (Int32.toNatClampNeg y11))), (9, .int y10), (8, .int y11), (7, .int (V 0 98)), (0, .ref (ad 0)), (1, .int p0), (2, .int p1), (3, .int p2), (4, .int p3), (5, .int p4), (6, .int p5)]) hx hb dX12_worksAround_43 hl (by decide) rfl (fun ls hl => ?_)
            refine lv_aload_n hx hb dX12_worksAround_45 rfl (lv_at hl 5 rfl) ?_
            refine va_get (D := D) (ci := 12) (v := .ref (ad 47)) (C := RX12) (T := TX12) (N := 100) hx hb hg inX12 hown hK hP 0 rfl rfl 47 (by decide) (hg _ w1753) (fun _ h9 => h9) rfl dX12_worksAround_46 ?_
            refine lv_iload hx hb dX12_worksAround_49 (lv_at hl 3 rfl) ?_
            refine va_iald (D := D) (i := y11) hx hb hK hP 40 39 rfl rfl (i_in (a := y11.toInt) rfl (by (first | exact om_943ab426fd09 hq b2 kpc | omega))) dX12_worksAround_51 ?_
            refine g_top (v := (V 47 (Int32.toNatClampNeg y11))) (ajV12 47 (Int32.toNatClampNeg y11) rfl) ?_
            refine lv_istore (lv' := [(12, .int (V 47 (Int32.toNatClampNeg y11))), (11, .int (V 46 (Int32.toNatClampNeg y11))), (10, .int (V 45 (Int32.toNatClampNeg y11))), (9, .int y10), (8, .int y11), (7, .int (V 0 98)), (0, .ref (ad 0)), (1, .int p0), (2, .int p1), (3, .int p2), (4, .int p3), (5, .int p4), (6, .int p5)]) hx hb dX12_worksAround_52 hl (by decide) rfl (fun ls hl => ?_)
            obtain ⟨z272, ez272⟩ : ∃ y : Int32, y = y11 + 1 := ⟨_, rfl⟩
            have hz272 : z272.toInt = y11.toInt + 1 := i_add ez272 rfl (by decide) (by (first | exact om_084b5c89eefe hq b2 kpc | omega))
            refine lv_iinc (v := z272) (lv' := [(8, .int z272), (12, .int (V 47 (Int32.toNatClampNeg y11))), (11, .int (V 46 (Int32.toNatClampNeg y11))), (10, .int (V 45 (Int32.toNatClampNeg y11))), (9, .int y10), (7, .int (V 0 98)), (0, .ref (ad 0)), (1, .int p0), (2, .int p1), (3, .int p2), (4, .int p3), (5, .int p4), (6, .int p5)]) hx hb dX12_worksAround_54 hl (k := 4) rfl (by rw [ez272]; rfl) (by decide) rfl (fun ls hl => ?_)
            refine lv_iload hx hb dX12_worksAround_57 (lv_at hl 3 rfl) ?_
            refine lv_bipush (v := 13) hx hb dX12_worksAround_59 (by decide) ?_
            refine lv_icmp_ne (tgt := 71) hx hb dX12_worksAround_61 (by decide) (fun c273 => ?_) (fun c273 => ?_)
            · skip
              have f274 : ((V 45 (Int32.toNatClampNeg y11))).toInt ≠ 13 := b_neq rfl (by decide) c273
              refine lv_iload hx hb dX12_worksAround_71 (lv_at hl 3 rfl) ?_
              refine lv_bipush (v := 12) hx hb dX12_worksAround_73 (by decide) ?_
              refine lv_icmp_ne (tgt := 97) hx hb dX12_worksAround_75 (by decide) (fun c275 => ?_) (fun c275 => ?_)
              · skip
                have f276 : ((V 45 (Int32.toNatClampNeg y11))).toInt ≠ 12 := b_neq rfl (by decide) c275
                refine lv_iload hx hb dX12_worksAround_97 (lv_at hl 3 rfl) ?_
                refine lv_bipush (v := 15) hx hb dX12_worksAround_99 (by decide) ?_
                refine lv_icmp_ne (tgt := 131) hx hb dX12_worksAround_101 (by decide) (fun c277 => ?_) (fun c277 => ?_)
                · skip
                  have f278 : ((V 45 (Int32.toNatClampNeg y11))).toInt ≠ 15 := b_neq rfl (by decide) c277
                  refine lv_iload hx hb dX12_worksAround_131 (lv_at hl 3 rfl) ?_
                  refine lv_bipush (v := 14) hx hb dX12_worksAround_133 (by decide) ?_
                  refine lv_icmp_ne (tgt := 166) hx hb dX12_worksAround_135 (by decide) (fun c279 => ?_) (fun c279 => ?_)
                  · skip
                    have f280 : ((V 45 (Int32.toNatClampNeg y11))).toInt ≠ 14 := b_neq rfl (by decide) c279
                    refine lv_iload hx hb dX12_worksAround_166 (lv_at hl 3 rfl) ?_
                    refine lv_iconst (v := 3) hx hb dX12_worksAround_168 (by decide) ?_
                    refine lv_icmp_ne (tgt := 181) hx hb dX12_worksAround_169 (by decide) (fun c281 => ?_) (fun c281 => ?_)
                    · skip
                      have f282 : ((V 45 (Int32.toNatClampNeg y11))).toInt ≠ 3 := b_neq rfl (by decide) c281
                      refine lv_aload_n hx hb dX12_worksAround_181 rfl (lv_at hl 6 rfl) ?_
                      refine lv_iload hx hb dX12_worksAround_182 (lv_at hl 3 rfl) ?_
                      refine lv_iload hx hb dX12_worksAround_184 (lv_at hl 2 rfl) ?_
                      refine gA_int (gA_runV (As := [.int (V 45 (Int32.toNatClampNeg y11)), .int (V 46 (Int32.toNatClampNeg y11))]) (rest := []) (ci := 12) (q0 := 0) hx hb hml hown hg hP hD hK hS hA hnw hgk (s_reckons3 l D ks H.size ad kk V12 L (V 45 (Int32.toNatClampNeg y11)) (V 46 (Int32.toNatClampNeg y11)) hMV12 (by (first | exact om_20080544fbb2 hop | omega)) (Imp.mk (fun hp => have hp : ((V 45 (Int32.toNatClampNeg y11))).toInt = 11 := hp; (show 0 ≤ ((V 46 (Int32.toNatClampNeg y11))).toInt ∧ ((V 46 (Int32.toNatClampNeg y11))).toInt ≤ 11 from by (first | exact om_ac1a58a2b44e hy1.1 hy1.2 | omega)))) (Imp.mk (fun hp => have hp : ((V 45 (Int32.toNatClampNeg y11))).toInt = 2 ∨ ((V 45 (Int32.toNatClampNeg y11))).toInt = 11 := hp; (show (V12 0 98).toInt ≤ 19999 from by (first | exact om_53b561447de2 n6 n7 r7.2 b3 im42 | omega)))) (Imp.mk (fun hp => have hp : ((V 45 (Int32.toNatClampNeg y11))).toInt = 4 := hp; (show 1 ≤ (V12 0 98).toInt from by omega))) (Imp.mk (fun hp => have hp : 5 ≤ ((V 45 (Int32.toNatClampNeg y11))).toInt ∧ ((V 45 (Int32.toNatClampNeg y11))).toInt ≤ 9 := hp; (show 2 ≤ (V12 0 98).toInt from by omega))) (show ((V 45 (Int32.toNatClampNeg y11))).toInt ≠ 3 from by (first | exact om_7411daa793f9 hop | omega))) w2324 w2326 w150 w172 w2327 rfl rfl hdV_yX12_reckons ⟨(by show (1) + 1 ≤ (4 * d1 + 40 * d2 + 11); (first | exact om_1d3ee3ce7f7a n5 n6 r2.2 xlp13_3 r18.2 | omega)), (by show 8 + (5 + 11) + (21) ≤ (100 * d1 + 1000 * d2 + 410); (first | exact om_d7d7af4cd1f0 n5 n6 r2.2 xlp13_3 r18.2 | omega))⟩ rfl hl.1 rfl (Nat.le_of_ble_eq_true rfl) dX12_worksAround_186 ⟨Nat.le_of_ble_eq_true rfl, Nat.le_of_ble_eq_true rfl⟩) hP hD hK hS hA (fun z283 u284 H locs w285 hP hD hK hS => ?_)
                      obtain ⟨V302, L303⟩ := u284
                      obtain ⟨hMV302, ajV302, axL303, rgz283, t286, t287, t288, t289, t290, t291, t292, t293, t294, t295, t296, t297, t298, t299, t300, t301⟩ := w285
                      have axL303 : L = L303 := Eq.symm axL303
                      subst axL303
                      have hP : va_P D vwCl (mw ad kk ks.1 V302 L) H := hP
                      have hD : va_D A (mw ad kk ks.1 V302 L) := hD
                      have hMV302 : rgd bM V302 := hMV302
                      have ajV302 : agr [(0, 68), (0, 69), (0, 90), (0, 91), (0, 98)] [97] V12 V302 := ajV302
                      have agV302 : agr [(0, 60), (0, 65), (0, 68), (0, 69), (0, 73), (0, 76), (0, 90), (0, 91), (0, 92), (0, 93), (0, 95), (0, 96), (0, 98)] [59, 61, 62, 63, 64, 66, 67, 74, 75, 77, 78, 79, 80, 94, 97] V V302 := agV12.tr ajV302 (by decide) (by decide)
                      have rgz283 : 0 ≤ z283.toInt ∧ z283.toInt ≤ 2 := rgz283
                      have t286 : Imp (((V 45 (Int32.toNatClampNeg y11))).toInt = 1) ((V302 0 98).toInt = (V12 0 98).toInt ∧ ((z283.toInt = 0 ∧ (V302 0 69).toInt = (V12 0 69).toInt + 1 ∧ (V302 0 68).toInt = (V12 0 68).toInt + 1 ∧ (V12 0 69).toInt < 3000 ∧ (V12 0 68).toInt < 60000) ∨ (z283.toInt = 2 ∧ (V302 0 69).toInt = (V12 0 69).toInt ∧ (V302 0 68).toInt = (V12 0 68).toInt ∧ ((V12 0 69).toInt = 3000 ∨ (V12 0 68).toInt = 60000)))) := t286
                      have t287 : Imp (((V 45 (Int32.toNatClampNeg y11))).toInt = 10) (z283.toInt = 1 ∧ (V302 0 98).toInt = (V12 0 98).toInt ∧ (V302 0 90).toInt = 0 ∧ (V302 0 91).toInt = ((V 46 (Int32.toNatClampNeg y11))).toInt) := t287
                      have t288 : Imp (((V 45 (Int32.toNatClampNeg y11))).toInt = 2 ∨ ((V 45 (Int32.toNatClampNeg y11))).toInt = 11) (z283.toInt = 0 ∧ (V302 0 98).toInt = (V12 0 98).toInt + 1) := t288
                      have t289 : Imp (((V 45 (Int32.toNatClampNeg y11))).toInt = 4) (z283.toInt = 0 ∧ (V302 0 98).toInt = (V12 0 98).toInt) := t289
                      have t290 : Imp (5 ≤ ((V 45 (Int32.toNatClampNeg y11))).toInt ∧ ((V 45 (Int32.toNatClampNeg y11))).toInt ≤ 9) (z283.toInt = 0 ∧ (V302 0 98).toInt = (V12 0 98).toInt - 1) := t290
                      have t291 : Imp (((V 45 (Int32.toNatClampNeg y11))).toInt ≠ 1) ((V302 0 69).toInt = (V12 0 69).toInt ∧ (V302 0 68).toInt = (V12 0 68).toInt) := t291
                      have t292 : Imp (((V 45 (Int32.toNatClampNeg y11))).toInt ≠ 10) ((V302 0 90).toInt = (V12 0 90).toInt ∧ (V302 0 91).toInt = (V12 0 91).toInt) := t292
                      have t293 : Imp (((V 45 (Int32.toNatClampNeg y11))).toInt = 2) (V302 97 (Int32.toNatClampNeg (V12 0 98)) = (V 46 (Int32.toNatClampNeg y11)) ∧ ∀ j9, j9 ≠ Int32.toNatClampNeg (V12 0 98) → V302 97 j9 = V12 97 j9) := t293
                      have t294 : Imp (((V 45 (Int32.toNatClampNeg y11))).toInt = 11) (V302 97 (Int32.toNatClampNeg (V12 0 98)) = V12 18 (12 * nwh V12 + Int32.toNatClampNeg (V 46 (Int32.toNatClampNeg y11))) ∧ ∀ j9, j9 ≠ Int32.toNatClampNeg (V12 0 98) → V302 97 j9 = V12 97 j9) := t294
                      have t295 : Imp (((V 45 (Int32.toNatClampNeg y11))).toInt = 4) (∀ t9 : Nat, (V12 0 98).toInt = (t9 : Int) + 1 → V302 97 t9 = -(V12 97 t9) ∧ ∀ j9, j9 < t9 → V302 97 j9 = V12 97 j9) := t295
                      have t296 : Imp (((V 45 (Int32.toNatClampNeg y11))).toInt = 5) (∀ t9 : Nat, (V12 0 98).toInt = (t9 : Int) + 2 → V302 97 t9 = V12 97 t9 * V12 97 (t9 + 1) ∧ ∀ j9, j9 < t9 → V302 97 j9 = V12 97 j9) := t296
                      have t297 : Imp (((V 45 (Int32.toNatClampNeg y11))).toInt = 6) (∀ t9 : Nat, (V12 0 98).toInt = (t9 : Int) + 2 → V302 97 t9 = V12 97 t9 + V12 97 (t9 + 1) ∧ ∀ j9, j9 < t9 → V302 97 j9 = V12 97 j9) := t297
                      have t298 : Imp (((V 45 (Int32.toNatClampNeg y11))).toInt = 7) (∀ t9 : Nat, (V12 0 98).toInt = (t9 : Int) + 2 → V302 97 t9 = V12 97 t9 - V12 97 (t9 + 1) ∧ ∀ j9, j9 < t9 → V302 97 j9 = V12 97 j9) := t298
                      have t299 : Imp (((V 45 (Int32.toNatClampNeg y11))).toInt = 8) (∀ t9 : Nat, (V12 0 98).toInt = (t9 : Int) + 2 → V302 97 t9 = (if (V12 97 t9).toInt < (V12 97 (t9 + 1)).toInt then 1 else 0) ∧ ∀ j9, j9 < t9 → V302 97 j9 = V12 97 j9) := t299
                      have t300 : Imp (((V 45 (Int32.toNatClampNeg y11))).toInt = 9) (∀ t9 : Nat, (V12 0 98).toInt = (t9 : Int) + 2 → V302 97 t9 = (if V12 97 t9 = V12 97 (t9 + 1) then 1 else 0) ∧ ∀ j9, j9 < t9 → V302 97 j9 = V12 97 j9) := t300
                      have t301 : Imp (((V 45 (Int32.toNatClampNeg y11))).toInt = 1 ∨ ((V 45 (Int32.toNatClampNeg y11))).toInt = 10) (∀ j9, V302 97 j9 = V12 97 j9) := t301
                      have r304 : 0 ≤ ((V12 0 68)).toInt ∧ ((V12 0 68)).toInt ≤ 60000 := hMV12 0 68
                      have r305 : 0 ≤ ((V302 0 69)).toInt ∧ ((V302 0 69)).toInt ≤ 3000 := hMV302 0 69
                      have r306 : 0 ≤ ((V302 0 68)).toInt ∧ ((V302 0 68)).toInt ≤ 60000 := hMV302 0 68
                      have r307 : 0 ≤ ((V302 0 98)).toInt ∧ ((V302 0 98)).toInt ≤ 20000 := hMV302 0 98
                      refine lv_istore (lv' := [(9, .int z283), (8, .int z272), (12, .int (V 47 (Int32.toNatClampNeg y11))), (11, .int (V 46 (Int32.toNatClampNeg y11))), (10, .int (V 45 (Int32.toNatClampNeg y11))), (7, .int (V 0 98)), (0, .ref (ad 0)), (1, .int p0), (2, .int p1), (3, .int p2), (4, .int p3), (5, .int p4), (6, .int p5)]) hx hb dX12_worksAround_189 hl (by decide) rfl (fun ls hl => ?_)
                      have im308 := Imp.go t291 (by (first | exact om_c14b7be4919a hop | omega))
                      have im309 := Imp.go t292 (by (first | exact om_3d243e19f9d1 hop | omega))
                      have rk310 := Imp.go t294 (by (first | exact om_cc3c18181b6f hop | omega))
                      have rk310t := Imp.go t288 (by (first | exact om_7c8a1d57bd21 hop | omega))
                      have x11 := cd9.2.1.2.2 (show opf gB.1 gi ≠ 2 by omega) (show ¬ (opf gB.1 gi = 12 ∨ opf gB.1 gi = 13) by omega)
                      have c11 : Int32.toNatClampNeg (V 46 (Int32.toNatClampNeg y11)) = nL gB.1 (2001 + 3 * gi) := by have h9 := i_clamp (x := V 46 (Int32.toNatClampNeg y11)) rfl (by (first | exact om_eafa9039069c hy1.1 | omega)); omega
                      have r311 : 0 ≤ (V12 0 65).toInt := (hMV12 0 65).1
                      have r312 : (V12 0 60).toInt ≤ 300 := (hMV12 0 60).2
                      have r313 : 0 ≤ (V12 0 93).toInt ∧ (V12 0 93).toInt ≤ 10 := hMV12 0 93
                      have ht314 : TRs gB (mV V 0 gt gu, ga, Fwork glv go gc gsc gme 0 ((gat : Nat) : Int) p4 [] :: gr) (mV V12 sg9 t9 k9, a9, Fwork glv go gc gsc gm9 0 (((gi + 1) : Nat) : Int) p4 (gB.2 (nL gB.1 (2001 + 3 * gi)) :: gp) :: gr) := TRs.st ht9 (SF.mk (show gr.length ≤ 394 from by (first | exact om_87fa92eb9f41 hl9 xlp13_3 r18.2 | omega)) (show gp.length + (totP gr) ≤ 2000 from by (first | exact om_6542cae4e4ce hp9 r7.2 b3 nm9.1 | omega)) (show 0 ≤ (V12 0 65).toInt ∧ (V12 0 65).toInt ≤ 300 from by (first | exact om_65732a9e84ef n1 xlp13_6 r19.2 r20.1 | omega)) (fun h9 => by have h8 : sg9 = 2 := h9; omega) (show ∃ q9, OQ gB _ _ _ _ q9 from ⟨_, og7⟩)) (st_12.trans (or_11 oi9))
                      have on315 := OQ.i2 og7 (by (first | exact om_1087a78e4b3e oi9 | omega))
                      have pl316 : plR V302 (V302 0 98).toInt.toNat ((gB.2 (nL gB.1 (2001 + 3 * gi)) :: gp)) := by rw [show (V302 0 98).toInt.toNat = (V12 0 98).toInt.toNat + 1 from by omega]; exact plR.pu pl9 (rk310.1.trans (by rw [c11, (show agr [(0, 60), (0, 65), (0, 68), (0, 69), (0, 73), (0, 76), (0, 90), (0, 91), (0, 92), (0, 93), (0, 95), (0, 96), (0, 98)] [59, 61, 62, 63, 64, 66, 67, 74, 75, 77, 78, 79, 80, 94, 97] V V12 from (agr.tr agr.rf ajV12 (by decide) (by decide))) 18 _ rfl, (nwh_ag (show agr [(0, 60), (0, 65), (0, 68), (0, 69), (0, 73), (0, 76), (0, 90), (0, 91), (0, 92), (0, 93), (0, 95), (0, 96), (0, 98)] [59, 61, 62, 63, 64, 66, 67, 74, 75, 77, 78, 79, 80, 94, 97] V V12 from (agr.tr agr.rf ajV12 (by decide) (by decide))) ⟨rfl, fun _ => rfl, fun _ => rfl, fun _ => rfl, fun _ => rfl, fun _ => rfl, fun _ => rfl⟩).1]; exact bk.2.2.2.2 _ (br.2.2.2.2.2.2.1.2 gi gi9 oi9))) (fun j9 hj9 => rk310.2 j9 (by omega))
                      have ln317 : ((gB.2 (nL gB.1 (2001 + 3 * gi)) :: gp)).length = gp.length + 1 := rfl
                      refine lv_goto (tgt := 12) hx hb dX12_worksAround_191 (by decide) ?_
                      have pq318 : (V302 0 73).toInt = ((V12 0 73)).toInt := congrArg Int32.toInt (ajV302 0 73 rfl)
                      have pq319 : (V302 0 76).toInt = ((V12 0 76)).toInt := congrArg Int32.toInt (ajV302 0 76 rfl)
                      have pq320 : (V302 0 93).toInt = ((V12 0 93)).toInt := congrArg Int32.toInt (ajV302 0 93 rfl)
                      have pq321 : (V302 0 60).toInt = ((V12 0 60)).toInt := congrArg Int32.toInt (ajV302 0 60 rfl)
                      have pq322 : (V302 0 65).toInt = ((V12 0 65)).toInt := congrArg Int32.toInt (ajV302 0 65 rfl)
                      have pq323 : (V302 0 95).toInt = ((V12 0 95)).toInt := congrArg Int32.toInt (ajV302 0 95 rfl)
                      have rt324 : RT V302 := RT.ag xlp13_13 hMV12 (show agr [(0, 68), (0, 69), (0, 90), (0, 91), (0, 98)] [97] V12 V302 from (agr.tr agr.rf ajV302 (by decide) (by decide))) ⟨⟨rfl, fun _ => rfl, fun _ => rfl, fun _ => rfl, fun _ => rfl, fun _ => rfl, fun _ => rfl⟩, by decide, by decide, rfl, rfl, fun _ => rfl, fun _ => rfl, fun _ => rfl, fun _ => rfl, fun _ => rfl, fun _ => rfl⟩ (c0k.ag (show agr [(0, 68), (0, 69), (0, 90), (0, 91), (0, 98)] [97] V12 V302 from (agr.tr agr.rf ajV302 (by decide) (by decide))) rfl)
                      have fm325 : FRM V V302 (-1) := (FRM.tr xlp13_14 (FRM.ag (show agr [(0, 68), (0, 69), (0, 90), (0, 91), (0, 98)] [97] V12 V302 from (agr.tr agr.rf ajV302 (by decide) (by decide))) ⟨⟨rfl, fun _ => rfl, fun _ => rfl, fun _ => rfl, fun _ => rfl, fun _ => rfl, fun _ => rfl⟩, by decide, by decide, rfl, rfl, fun _ => rfl, fun _ => rfl, fun _ => rfl, fun _ => rfl, fun _ => rfl, fun _ => rfl⟩) agV12 ⟨rfl, fun _ => rfl, fun _ => rfl, fun _ => rfl, fun _ => rfl, fun _ => rfl, fun _ => rfl⟩ (by (first | exact om_abdc88b0c8fc xlp13_10 | omega)))
                      have ht326 : TRs gB (mV V 0 gt gu, ga, Fwork glv go gc gsc gme 0 ((gat : Nat) : Int) p4 [] :: gr) (mV V302 sg9 t9 k9, a9, Fwork glv go gc gsc gm9 0 (((gi + 1) : Nat) : Int) p4 (gB.2 (nL gB.1 (2001 + 3 * gi)) :: gp) :: gr) := by rw [mV_st0 (show agr [(0, 68), (0, 69), (0, 90), (0, 91), (0, 98)] [97] V12 V302 from (agr.tr agr.rf ajV302 (by decide) (by decide))) (by decide) (by omega) (by omega)]; exact ht314
                      have kt328 := i_clamp (x := V12 0 98) rfl (by (first | exact om_eafa9039069c r14.1 | omega))
                      have pk327 : PLK V V302 (V 0 98).toInt.toNat := PLK.tr xlp13_21 (t2 := (V 0 98).toInt.toNat) (fun j9 hj9 => (Imp.go t294 (by (first | exact om_cc3c18181b6f hop | omega))).2 j9 (by omega)) (Nat.le_refl _)
                      have rj329 : RJm V302 gB := RJm.ag xlp13_22 (show agr [(0, 68), (0, 69), (0, 90), (0, 91), (0, 98)] [97] V12 V302 from (agr.tr agr.rf ajV302 (by decide) (by decide))) (by decide)
                      exact ihlp13 (f) (gk + 1) ((gi + 1)) ((gB.2 (nL gB.1 (2001 + 3 * gi)) :: gp)) (gm9) z283 z272 V302 H locs ls (by (first | exact om_8c285ac91b81 rgz283.1 rgz283.2 | omega)) (show 0 ≤ z272.toInt from by (first | exact om_d256ebc631d1 kpc kg9 hz272 | omega)) (Imp.mk (fun hp => have hp : z283.toInt = 0 := hp; (show (V302 0 98).toInt = (V 0 98).toInt + ((gk + 1 : Nat) : Int) from by (first | exact om_d1b9d768de7b im42 rk310t.2 | omega)))) (Imp.mk (fun hp => have hp : z283.toInt ≠ 2 := hp; (show (V302 0 76).toInt - (V302 0 69).toInt - (V302 0 73).toInt + 1 ≤ (V 0 76).toInt - (V 0 69).toInt - (V 0 73).toInt ∨ (z272.toInt = p0.toInt ∧ (V302 0 76).toInt - (V302 0 69).toInt - (V302 0 73).toInt ≤ (V 0 76).toInt - (V 0 69).toInt - (V 0 73).toInt ∧ z283.toInt = 0) from by (first | exact om_f1197ef27677 im43 hne im308.1 pq318 pq319 | omega)))) (show (V302 0 93).toInt = (V 0 93).toInt from by (first | exact om_cd7d0a6a31bc xlp13_3 pq320 | omega)) (show (V 0 60).toInt ≤ (V302 0 60).toInt from by (first | exact om_a40cdd94799e xlp13_4 pq321 | omega)) (show (V 0 65).toInt ≤ (V302 0 65).toInt from by (first | exact om_a40cdd94799e xlp13_5 pq322 | omega)) (show (V302 0 65).toInt - (V 0 65).toInt ≤ (V302 0 60).toInt - (V 0 60).toInt from by (first | exact om_953d7b5213d2 xlp13_6 pq321 pq322 | omega)) (show (V302 0 73).toInt + (V302 0 95).toInt - (V302 0 65).toInt ≤ (V 0 73).toInt + (V 0 95).toInt - (V 0 65).toInt from by (first | exact om_5b806241d648 xlp13_7 pq318 pq322 pq323 | omega)) (show (V 0 73).toInt ≤ (V302 0 73).toInt from by (first | exact om_a40cdd94799e xlp13_8 pq318 | omega)) (show (V 0 69).toInt ≤ (V302 0 69).toInt from by (first | exact om_a40cdd94799e xlp13_9 im308.1 | omega)) (show (V302 0 95).toInt = (V 0 95).toInt from by (first | exact om_cd7d0a6a31bc xlp13_10 pq323 | omega)) (show (V302 0 76).toInt - (V302 0 69).toInt - (V302 0 73).toInt ≤ (V 0 76).toInt - (V 0 69).toInt - (V 0 73).toInt from by (first | exact om_b2f0e61cd607 xlp13_11 im308.1 pq318 pq319 | omega)) (show 0 ≤ z283.toInt ∧ z283.toInt ≤ 2 from by (first | exact om_8c285ac91b81 rgz283.1 rgz283.2 | omega)) rt324 fm325 (Imp.mk (fun _ => by have e8 : Int32.toNatClampNeg z272 = Int32.toNatClampNeg y11 + 1 := (by have h9 := i_clamp (x := z272) rfl (by (first | exact om_d256ebc631d1 kpc kg9 hz272 | omega)); omega); rw [e8]; exact hw)) (Imp.mk (fun _ => ⟨sg9, t9, k9, a9, sq9, ht326⟩)) (Imp.mk (fun _ => on315)) (Imp.mk (fun _ => pl316)) (Imp.mk (fun hp => have hp : z283.toInt = 0 := hp; (show (((gB.2 (nL gB.1 (2001 + 3 * gi)) :: gp).length : Nat) : Int) = ((gk + 1 : Nat) : Int) ∧ z272.toInt = ((10000 * nwh V + (gi + 1) : Nat) : Int) from by (first | exact om_689688249c8a kpc kg9 hz272 ln317 ((Imp.go xlp13_19 (f41)).1) | omega)))) (Imp.mk (fun hp => by exfalso; (first | exact om_fb320d7600b7 rgz283.1 rk310t.1 hp | omega))) pk327 rj329 (by (first | exact om_bd2466411592 hn | omega)) (agr.tr (agr.tr agr.rf ajV12 (by decide) (by decide)) ajV302 (by decide) (by decide)) hMV302 hP hD hS (lv_sub hl [0, 1, 5, 6, 7, 8, 9, 10, 11, 12] rfl)
                    · skip
                      have f330 : ((V 45 (Int32.toNatClampNeg y11))).toInt = 3 := b_eq rfl (by decide) c281
                      exfalso; (first | exact om_2031c41504d4 hop f330 | omega)
                  · skip
                    have f331 : ((V 45 (Int32.toNatClampNeg y11))).toInt = 14 := b_eq rfl (by decide) c279
                    exfalso; (first | exact om_ab4652fc1591 hop f331 | omega)
                · skip
                  have f332 : ((V 45 (Int32.toNatClampNeg y11))).toInt = 15 := b_eq rfl (by decide) c277
                  exfalso; (first | exact om_8bbe8fa9f5bb hop f332 | omega)
              · skip
                have f333 : ((V 45 (Int32.toNatClampNeg y11))).toInt = 12 := b_eq rfl (by decide) c275
                exfalso; (first | exact om_335852ad0e4e hop f333 | omega)
            · skip
              have f334 : ((V 45 (Int32.toNatClampNeg y11))).toInt = 13 := b_eq rfl (by decide) c273
              exfalso; (first | exact om_33b45fde6d20 hop f334 | omega)
        · skip
          have hop : (V 45 (Int32.toNatClampNeg y11)).toInt = 10 := hc
          have oi9 : opf gB.1 gi = 10 := by have h9 : _ = ((opf gB.1 gi : Nat) : Int) := cd9.1; omega
          have hne : y11.toInt ≠ p0.toInt := fun h9 => by have e9 : y11 = p0 := Int32.toInt_inj.mp h9; rw [e9] at hop; omega
          refine lv_aload_n hx hb dX12_worksAround_17 rfl (lv_at hl 3 rfl) ?_
          refine va_get (D := D) (ci := 12) (v := .ref (ad 45)) (C := RX12) (T := TX12) (N := 100) hx hb hg inX12 hown hK hP 0 rfl rfl 45 (by decide) (hg _ w1751) (fun _ h9 => h9) rfl dX12_worksAround_18 ?_
          refine lv_iload hx hb dX12_worksAround_21 (lv_at hl 1 rfl) ?_
          refine va_iald (D := D) (i := y11) hx hb hK hP 38 37 rfl rfl (i_in (a := y11.toInt) rfl (by (first | exact om_943ab426fd09 hq b2 kpc | omega))) dX12_worksAround_23 ?_
          refine g_top (v := (V 45 (Int32.toNatClampNeg y11))) (ajV12 45 (Int32.toNatClampNeg y11) rfl) ?_
          refine lv_if_eq (tgt := 194) hx hb dX12_worksAround_24 (by decide) (fun c335 => ?_) (fun c335 => ?_)
          · skip
            have f336 : ((V 45 (Int32.toNatClampNeg y11))).toInt = 0 := b_eq rfl (by decide) c335
            exfalso; (first | exact om_87c918ea739a hop f336 | omega)
          · skip
            have f337 : ((V 45 (Int32.toNatClampNeg y11))).toInt ≠ 0 := b_neq rfl (by decide) c335
            refine lv_aload_n hx hb dX12_worksAround_27 rfl (lv_at hl 3 rfl) ?_
            refine va_get (D := D) (ci := 12) (v := .ref (ad 45)) (C := RX12) (T := TX12) (N := 100) hx hb hg inX12 hown hK hP 0 rfl rfl 45 (by decide) (hg _ w1751) (fun _ h9 => h9) rfl dX12_worksAround_28 ?_
            refine lv_iload hx hb dX12_worksAround_31 (lv_at hl 1 rfl) ?_
            refine va_iald (D := D) (i := y11) hx hb hK hP 38 37 rfl rfl (i_in (a := y11.toInt) rfl (by (first | exact om_943ab426fd09 hq b2 kpc | omega))) dX12_worksAround_33 ?_
            refine g_top (v := (V 45 (Int32.toNatClampNeg y11))) (ajV12 45 (Int32.toNatClampNeg y11) rfl) ?_
            refine lv_istore (lv' := [(10, .int (V 45 (Int32.toNatClampNeg y11))), (9, .int y10), (8, .int y11), (7, .int (V 0 98)), (0, .ref (ad 0)), (1, .int p0), (2, .int p1), (3, .int p2), (4, .int p3), (5, .int p4), (6, .int p5)]) hx hb dX12_worksAround_34 hl (by decide) rfl (fun ls hl => ?_)
            refine lv_aload_n hx hb dX12_worksAround_36 rfl (lv_at hl 4 rfl) ?_
            refine va_get (D := D) (ci := 12) (v := .ref (ad 46)) (C := RX12) (T := TX12) (N := 100) hx hb hg inX12 hown hK hP 0 rfl rfl 46 (by decide) (hg _ w1752) (fun _ h9 => h9) rfl dX12_worksAround_37 ?_
            refine lv_iload hx hb dX12_worksAround_40 (lv_at hl 2 rfl) ?_
            refine va_iald (D := D) (i := y11) hx hb hK hP 39 38 rfl rfl (i_in (a := y11.toInt) rfl (by (first | exact om_943ab426fd09 hq b2 kpc | omega))) dX12_worksAround_42 ?_
            refine g_top (v := (V 46 (Int32.toNatClampNeg y11))) (ajV12 46 (Int32.toNatClampNeg y11) rfl) ?_
            refine lv_istore (lv' := [(11, .int (V 46 (Int32.toNatClampNeg y11))), (10, .int (V 45 (Int32.toNatClampNeg y11))), (9, .int y10), (8, .int y11), (7, .int (V 0 98)), (0, .ref (ad 0)), (1, .int p0), (2, .int p1), (3, .int p2), (4, .int p3), (5, .int p4), (6, .int p5)]) hx hb dX12_worksAround_43 hl (by decide) rfl (fun ls hl => ?_)
            refine lv_aload_n hx hb dX12_worksAround_45 rfl (lv_at hl 5 rfl) ?_
            refine va_get (D := D) (ci := 12) (v := .ref (ad 47)) (C := RX12) (T := TX12) (N := 100) hx hb hg inX12 hown hK hP 0 rfl rfl 47 (by decide) (hg _ w1753) (fun _ h9 => h9) rfl dX12_worksAround_46 ?_
            refine lv_iload hx hb dX12_worksAround_49 (lv_at hl 3 rfl) ?_
            refine va_iald (D := D) (i := y11) hx hb hK hP 40 39 rfl rfl (i_in (a := y11.toInt) rfl (by (first | exact om_943ab426fd09 hq b2 kpc | omega))) dX12_worksAround_51 ?_
            refine g_top (v := (V 47 (Int32.toNatClampNeg y11))) (ajV12 47 (Int32.toNatClampNeg y11) rfl) ?_
            refine lv_istore (lv' := [(12, .int (V 47 (Int32.toNatClampNeg y11))), (11, .int (V 46 (Int32.toNatClampNeg y11))), (10, .int (V 45 (Int32.toNatClampNeg y11))), (9, .int y10), (8, .int y11), (7, .int (V 0 98)), (0, .ref (ad 0)), (1, .int p0), (2, .int p1), (3, .int p2), (4, .int p3), (5, .int p4), (6, .int p5)]) hx hb dX12_worksAround_52 hl (by decide) rfl (fun ls hl => ?_)
            obtain ⟨z338, ez338⟩ : ∃ y : Int32, y = y11 + 1 := ⟨_, rfl⟩
            have hz338 : z338.toInt = y11.toInt + 1 := i_add ez338 rfl (by decide) (by (first | exact om_084b5c89eefe hq b2 kpc | omega))
            refine lv_iinc (v := z338) (lv' := [(8, .int z338), (12, .int (V 47 (Int32.toNatClampNeg y11))), (11, .int (V 46 (Int32.toNatClampNeg y11))), (10, .int (V 45 (Int32.toNatClampNeg y11))), (9, .int y10), (7, .int (V 0 98)), (0, .ref (ad 0)), (1, .int p0), (2, .int p1), (3, .int p2), (4, .int p3), (5, .int p4), (6, .int p5)]) hx hb dX12_worksAround_54 hl (k := 4) rfl (by rw [ez338]; rfl) (by decide) rfl (fun ls hl => ?_)
            refine lv_iload hx hb dX12_worksAround_57 (lv_at hl 3 rfl) ?_
            refine lv_bipush (v := 13) hx hb dX12_worksAround_59 (by decide) ?_
            refine lv_icmp_ne (tgt := 71) hx hb dX12_worksAround_61 (by decide) (fun c339 => ?_) (fun c339 => ?_)
            · skip
              have f340 : ((V 45 (Int32.toNatClampNeg y11))).toInt ≠ 13 := b_neq rfl (by decide) c339
              refine lv_iload hx hb dX12_worksAround_71 (lv_at hl 3 rfl) ?_
              refine lv_bipush (v := 12) hx hb dX12_worksAround_73 (by decide) ?_
              refine lv_icmp_ne (tgt := 97) hx hb dX12_worksAround_75 (by decide) (fun c341 => ?_) (fun c341 => ?_)
              · skip
                have f342 : ((V 45 (Int32.toNatClampNeg y11))).toInt ≠ 12 := b_neq rfl (by decide) c341
                refine lv_iload hx hb dX12_worksAround_97 (lv_at hl 3 rfl) ?_
                refine lv_bipush (v := 15) hx hb dX12_worksAround_99 (by decide) ?_
                refine lv_icmp_ne (tgt := 131) hx hb dX12_worksAround_101 (by decide) (fun c343 => ?_) (fun c343 => ?_)
                · skip
                  have f344 : ((V 45 (Int32.toNatClampNeg y11))).toInt ≠ 15 := b_neq rfl (by decide) c343
                  refine lv_iload hx hb dX12_worksAround_131 (lv_at hl 3 rfl) ?_
                  refine lv_bipush (v := 14) hx hb dX12_worksAround_133 (by decide) ?_
                  refine lv_icmp_ne (tgt := 166) hx hb dX12_worksAround_135 (by decide) (fun c345 => ?_) (fun c345 => ?_)
                  · skip
                    have f346 : ((V 45 (Int32.toNatClampNeg y11))).toInt ≠ 14 := b_neq rfl (by decide) c345
                    refine lv_iload hx hb dX12_worksAround_166 (lv_at hl 3 rfl) ?_
                    refine lv_iconst (v := 3) hx hb dX12_worksAround_168 (by decide) ?_
                    refine lv_icmp_ne (tgt := 181) hx hb dX12_worksAround_169 (by decide) (fun c347 => ?_) (fun c347 => ?_)
                    · skip
                      have f348 : ((V 45 (Int32.toNatClampNeg y11))).toInt ≠ 3 := b_neq rfl (by decide) c347
                      refine lv_aload_n hx hb dX12_worksAround_181 rfl (lv_at hl 6 rfl) ?_
                      refine lv_iload hx hb dX12_worksAround_182 (lv_at hl 3 rfl) ?_
                      refine lv_iload hx hb dX12_worksAround_184 (lv_at hl 2 rfl) ?_
                      refine gA_int (gA_runV (As := [.int (V 45 (Int32.toNatClampNeg y11)), .int (V 46 (Int32.toNatClampNeg y11))]) (rest := []) (ci := 12) (q0 := 0) hx hb hml hown hg hP hD hK hS hA hnw hgk (s_reckons3 l D ks H.size ad kk V12 L (V 45 (Int32.toNatClampNeg y11)) (V 46 (Int32.toNatClampNeg y11)) hMV12 (by (first | exact om_b827b22ef640 hop | omega)) (Imp.mk (fun hp => have hp : ((V 45 (Int32.toNatClampNeg y11))).toInt = 11 := hp; (show 0 ≤ ((V 46 (Int32.toNatClampNeg y11))).toInt ∧ ((V 46 (Int32.toNatClampNeg y11))).toInt ≤ 11 from by omega))) (Imp.mk (fun hp => have hp : ((V 45 (Int32.toNatClampNeg y11))).toInt = 2 ∨ ((V 45 (Int32.toNatClampNeg y11))).toInt = 11 := hp; (show (V12 0 98).toInt ≤ 19999 from by (first | exact om_53b561447de2 n6 n7 r7.2 b3 im42 | omega)))) (Imp.mk (fun hp => have hp : ((V 45 (Int32.toNatClampNeg y11))).toInt = 4 := hp; (show 1 ≤ (V12 0 98).toInt from by omega))) (Imp.mk (fun hp => have hp : 5 ≤ ((V 45 (Int32.toNatClampNeg y11))).toInt ∧ ((V 45 (Int32.toNatClampNeg y11))).toInt ≤ 9 := hp; (show 2 ≤ (V12 0 98).toInt from by omega))) (show ((V 45 (Int32.toNatClampNeg y11))).toInt ≠ 3 from by (first | exact om_87949503a0dc hop | omega))) w2324 w2326 w150 w172 w2327 rfl rfl hdV_yX12_reckons ⟨(by show (1) + 1 ≤ (4 * d1 + 40 * d2 + 11); (first | exact om_1d3ee3ce7f7a n5 n6 r2.2 xlp13_3 r18.2 | omega)), (by show 8 + (5 + 11) + (21) ≤ (100 * d1 + 1000 * d2 + 410); (first | exact om_d7d7af4cd1f0 n5 n6 r2.2 xlp13_3 r18.2 | omega))⟩ rfl hl.1 rfl (Nat.le_of_ble_eq_true rfl) dX12_worksAround_186 ⟨Nat.le_of_ble_eq_true rfl, Nat.le_of_ble_eq_true rfl⟩) hP hD hK hS hA (fun z349 u350 H locs w351 hP hD hK hS => ?_)
                      obtain ⟨V368, L369⟩ := u350
                      obtain ⟨hMV368, ajV368, axL369, rgz349, t352, t353, t354, t355, t356, t357, t358, t359, t360, t361, t362, t363, t364, t365, t366, t367⟩ := w351
                      have axL369 : L = L369 := Eq.symm axL369
                      subst axL369
                      have hP : va_P D vwCl (mw ad kk ks.1 V368 L) H := hP
                      have hD : va_D A (mw ad kk ks.1 V368 L) := hD
                      have hMV368 : rgd bM V368 := hMV368
                      have ajV368 : agr [(0, 68), (0, 69), (0, 90), (0, 91), (0, 98)] [97] V12 V368 := ajV368
                      have agV368 : agr [(0, 60), (0, 65), (0, 68), (0, 69), (0, 73), (0, 76), (0, 90), (0, 91), (0, 92), (0, 93), (0, 95), (0, 96), (0, 98)] [59, 61, 62, 63, 64, 66, 67, 74, 75, 77, 78, 79, 80, 94, 97] V V368 := agV12.tr ajV368 (by decide) (by decide)
                      have rgz349 : 0 ≤ z349.toInt ∧ z349.toInt ≤ 2 := rgz349
                      have t352 : Imp (((V 45 (Int32.toNatClampNeg y11))).toInt = 1) ((V368 0 98).toInt = (V12 0 98).toInt ∧ ((z349.toInt = 0 ∧ (V368 0 69).toInt = (V12 0 69).toInt + 1 ∧ (V368 0 68).toInt = (V12 0 68).toInt + 1 ∧ (V12 0 69).toInt < 3000 ∧ (V12 0 68).toInt < 60000) ∨ (z349.toInt = 2 ∧ (V368 0 69).toInt = (V12 0 69).toInt ∧ (V368 0 68).toInt = (V12 0 68).toInt ∧ ((V12 0 69).toInt = 3000 ∨ (V12 0 68).toInt = 60000)))) := t352
                      have t353 : Imp (((V 45 (Int32.toNatClampNeg y11))).toInt = 10) (z349.toInt = 1 ∧ (V368 0 98).toInt = (V12 0 98).toInt ∧ (V368 0 90).toInt = 0 ∧ (V368 0 91).toInt = ((V 46 (Int32.toNatClampNeg y11))).toInt) := t353
                      have t354 : Imp (((V 45 (Int32.toNatClampNeg y11))).toInt = 2 ∨ ((V 45 (Int32.toNatClampNeg y11))).toInt = 11) (z349.toInt = 0 ∧ (V368 0 98).toInt = (V12 0 98).toInt + 1) := t354
                      have t355 : Imp (((V 45 (Int32.toNatClampNeg y11))).toInt = 4) (z349.toInt = 0 ∧ (V368 0 98).toInt = (V12 0 98).toInt) := t355
                      have t356 : Imp (5 ≤ ((V 45 (Int32.toNatClampNeg y11))).toInt ∧ ((V 45 (Int32.toNatClampNeg y11))).toInt ≤ 9) (z349.toInt = 0 ∧ (V368 0 98).toInt = (V12 0 98).toInt - 1) := t356
                      have t357 : Imp (((V 45 (Int32.toNatClampNeg y11))).toInt ≠ 1) ((V368 0 69).toInt = (V12 0 69).toInt ∧ (V368 0 68).toInt = (V12 0 68).toInt) := t357
                      have t358 : Imp (((V 45 (Int32.toNatClampNeg y11))).toInt ≠ 10) ((V368 0 90).toInt = (V12 0 90).toInt ∧ (V368 0 91).toInt = (V12 0 91).toInt) := t358
                      have t359 : Imp (((V 45 (Int32.toNatClampNeg y11))).toInt = 2) (V368 97 (Int32.toNatClampNeg (V12 0 98)) = (V 46 (Int32.toNatClampNeg y11)) ∧ ∀ j9, j9 ≠ Int32.toNatClampNeg (V12 0 98) → V368 97 j9 = V12 97 j9) := t359
                      have t360 : Imp (((V 45 (Int32.toNatClampNeg y11))).toInt = 11) (V368 97 (Int32.toNatClampNeg (V12 0 98)) = V12 18 (12 * nwh V12 + Int32.toNatClampNeg (V 46 (Int32.toNatClampNeg y11))) ∧ ∀ j9, j9 ≠ Int32.toNatClampNeg (V12 0 98) → V368 97 j9 = V12 97 j9) := t360
                      have t361 : Imp (((V 45 (Int32.toNatClampNeg y11))).toInt = 4) (∀ t9 : Nat, (V12 0 98).toInt = (t9 : Int) + 1 → V368 97 t9 = -(V12 97 t9) ∧ ∀ j9, j9 < t9 → V368 97 j9 = V12 97 j9) := t361
                      have t362 : Imp (((V 45 (Int32.toNatClampNeg y11))).toInt = 5) (∀ t9 : Nat, (V12 0 98).toInt = (t9 : Int) + 2 → V368 97 t9 = V12 97 t9 * V12 97 (t9 + 1) ∧ ∀ j9, j9 < t9 → V368 97 j9 = V12 97 j9) := t362
                      have t363 : Imp (((V 45 (Int32.toNatClampNeg y11))).toInt = 6) (∀ t9 : Nat, (V12 0 98).toInt = (t9 : Int) + 2 → V368 97 t9 = V12 97 t9 + V12 97 (t9 + 1) ∧ ∀ j9, j9 < t9 → V368 97 j9 = V12 97 j9) := t363
                      have t364 : Imp (((V 45 (Int32.toNatClampNeg y11))).toInt = 7) (∀ t9 : Nat, (V12 0 98).toInt = (t9 : Int) + 2 → V368 97 t9 = V12 97 t9 - V12 97 (t9 + 1) ∧ ∀ j9, j9 < t9 → V368 97 j9 = V12 97 j9) := t364
                      have t365 : Imp (((V 45 (Int32.toNatClampNeg y11))).toInt = 8) (∀ t9 : Nat, (V12 0 98).toInt = (t9 : Int) + 2 → V368 97 t9 = (if (V12 97 t9).toInt < (V12 97 (t9 + 1)).toInt then 1 else 0) ∧ ∀ j9, j9 < t9 → V368 97 j9 = V12 97 j9) := t365
                      have t366 : Imp (((V 45 (Int32.toNatClampNeg y11))).toInt = 9) (∀ t9 : Nat, (V12 0 98).toInt = (t9 : Int) + 2 → V368 97 t9 = (if V12 97 t9 = V12 97 (t9 + 1) then 1 else 0) ∧ ∀ j9, j9 < t9 → V368 97 j9 = V12 97 j9) := t366
                      have t367 : Imp (((V 45 (Int32.toNatClampNeg y11))).toInt = 1 ∨ ((V 45 (Int32.toNatClampNeg y11))).toInt = 10) (∀ j9, V368 97 j9 = V12 97 j9) := t367
                      have r370 : 0 ≤ ((V12 0 68)).toInt ∧ ((V12 0 68)).toInt ≤ 60000 := hMV12 0 68
                      have r371 : 0 ≤ ((V368 0 69)).toInt ∧ ((V368 0 69)).toInt ≤ 3000 := hMV368 0 69
                      have r372 : 0 ≤ ((V368 0 68)).toInt ∧ ((V368 0 68)).toInt ≤ 60000 := hMV368 0 68
                      have r373 : 0 ≤ ((V368 0 98)).toInt ∧ ((V368 0 98)).toInt ≤ 20000 := hMV368 0 98
                      refine lv_istore (lv' := [(9, .int z349), (8, .int z338), (12, .int (V 47 (Int32.toNatClampNeg y11))), (11, .int (V 46 (Int32.toNatClampNeg y11))), (10, .int (V 45 (Int32.toNatClampNeg y11))), (7, .int (V 0 98)), (0, .ref (ad 0)), (1, .int p0), (2, .int p1), (3, .int p2), (4, .int p3), (5, .int p4), (6, .int p5)]) hx hb dX12_worksAround_189 hl (by decide) rfl (fun ls hl => ?_)
                      have im374 := Imp.go t357 (by (first | exact om_a1fbeb1900ae hop | omega))
                      have rk375 := Imp.go t353 (by (first | exact om_364af141ba0c hop | omega))
                      have x10 := cd9.2.1.2.2 (show opf gB.1 gi ≠ 2 by omega) (show ¬ (opf gB.1 gi = 12 ∨ opf gB.1 gi = 13) by omega)
                      have r376 : 0 ≤ (V12 0 65).toInt := (hMV12 0 65).1
                      have r377 : (V12 0 60).toInt ≤ 300 := (hMV12 0 60).2
                      have r378 : 0 ≤ (V12 0 93).toInt ∧ (V12 0 93).toInt ≤ 10 := hMV12 0 93
                      have ht379 : TRs gB (mV V 0 gt gu, ga, Fwork glv go gc gsc gme 0 ((gat : Nat) : Int) p4 [] :: gr) (mV V12 2 0 ((nL gB.1 (2001 + 3 * gi) : Nat) : Int), a9, gr) := TRs.st ht9 (SF.mk (show gr.length ≤ 394 from by (first | exact om_87fa92eb9f41 hl9 xlp13_3 r18.2 | omega)) (show gp.length + (totP gr) ≤ 2000 from by (first | exact om_6542cae4e4ce hp9 r7.2 b3 nm9.1 | omega)) (show 0 ≤ (V12 0 65).toInt ∧ (V12 0 65).toInt ≤ 300 from by (first | exact om_65732a9e84ef n1 xlp13_6 r19.2 r20.1 | omega)) (fun h9 => by have h8 : sg9 = 2 := h9; omega) (show ∃ q9, OQ gB _ _ _ _ q9 from ⟨_, og7⟩)) ((st_12.trans (or_10 oi9)).trans mV_fail)
                      refine lv_goto (tgt := 12) hx hb dX12_worksAround_191 (by decide) ?_
                      have pq380 : (V368 0 73).toInt = ((V12 0 73)).toInt := congrArg Int32.toInt (ajV368 0 73 rfl)
                      have pq381 : (V368 0 76).toInt = ((V12 0 76)).toInt := congrArg Int32.toInt (ajV368 0 76 rfl)
                      have pq382 : (V368 0 93).toInt = ((V12 0 93)).toInt := congrArg Int32.toInt (ajV368 0 93 rfl)
                      have pq383 : (V368 0 60).toInt = ((V12 0 60)).toInt := congrArg Int32.toInt (ajV368 0 60 rfl)
                      have pq384 : (V368 0 65).toInt = ((V12 0 65)).toInt := congrArg Int32.toInt (ajV368 0 65 rfl)
                      have pq385 : (V368 0 95).toInt = ((V12 0 95)).toInt := congrArg Int32.toInt (ajV368 0 95 rfl)
                      have rt386 : RT V368 := RT.ag xlp13_13 hMV12 (show agr [(0, 68), (0, 69), (0, 90), (0, 91), (0, 98)] [97] V12 V368 from (agr.tr agr.rf ajV368 (by decide) (by decide))) ⟨⟨rfl, fun _ => rfl, fun _ => rfl, fun _ => rfl, fun _ => rfl, fun _ => rfl, fun _ => rfl⟩, by decide, by decide, rfl, rfl, fun _ => rfl, fun _ => rfl, fun _ => rfl, fun _ => rfl, fun _ => rfl, fun _ => rfl⟩ (c0k.ag (show agr [(0, 68), (0, 69), (0, 90), (0, 91), (0, 98)] [97] V12 V368 from (agr.tr agr.rf ajV368 (by decide) (by decide))) rfl)
                      have fm387 : FRM V V368 (-1) := (FRM.tr xlp13_14 (FRM.ag (show agr [(0, 68), (0, 69), (0, 90), (0, 91), (0, 98)] [97] V12 V368 from (agr.tr agr.rf ajV368 (by decide) (by decide))) ⟨⟨rfl, fun _ => rfl, fun _ => rfl, fun _ => rfl, fun _ => rfl, fun _ => rfl, fun _ => rfl⟩, by decide, by decide, rfl, rfl, fun _ => rfl, fun _ => rfl, fun _ => rfl, fun _ => rfl, fun _ => rfl, fun _ => rfl⟩) agV12 ⟨rfl, fun _ => rfl, fun _ => rfl, fun _ => rfl, fun _ => rfl, fun _ => rfl, fun _ => rfl⟩ (by (first | exact om_abdc88b0c8fc xlp13_10 | omega)))
                      have ht388 : TRs gB (mV V 0 gt gu, ga, Fwork glv go gc gsc gme 0 ((gat : Nat) : Int) p4 [] :: gr) (mV V368 2 0 ((nL gB.1 (2001 + 3 * gi) : Nat) : Int), a9, gr) := by rw [mV_st0 (show agr [(0, 68), (0, 69), (0, 90), (0, 91), (0, 98)] [97] V12 V368 from (agr.tr agr.rf ajV368 (by decide) (by decide))) (by decide) (by omega) (by omega)]; exact ht379
                      have kt390 := i_clamp (x := V12 0 98) rfl (by (first | exact om_eafa9039069c r14.1 | omega))
                      have pk389 : PLK V V368 (V 0 98).toInt.toNat := PLK.tr xlp13_21 (t2 := (V 0 98).toInt.toNat) (fun j9 _ => Imp.go t367 (by (first | exact om_f8c193c71896 hop | omega)) j9) (Nat.le_refl _)
                      have rj391 : RJm V368 gB := RJm.ag xlp13_22 (show agr [(0, 68), (0, 69), (0, 90), (0, 91), (0, 98)] [97] V12 V368 from (agr.tr agr.rf ajV368 (by decide) (by decide))) (by decide)
                      exact ihlp13 (f) (gk) (gi) (gp) (gm9) z349 z338 V368 H locs ls (by (first | exact om_8c285ac91b81 rgz349.1 rgz349.2 | omega)) (show 0 ≤ z338.toInt from by (first | exact om_d256ebc631d1 kpc kg9 hz338 | omega)) (Imp.mk (fun hp => have hp : z349.toInt = 0 := hp; (show (V368 0 98).toInt = (V 0 98).toInt + ((gk : Nat) : Int) from by omega))) (Imp.mk (fun hp => have hp : z349.toInt ≠ 2 := hp; (show (V368 0 76).toInt - (V368 0 69).toInt - (V368 0 73).toInt + 1 ≤ (V 0 76).toInt - (V 0 69).toInt - (V 0 73).toInt ∨ (z338.toInt = p0.toInt ∧ (V368 0 76).toInt - (V368 0 69).toInt - (V368 0 73).toInt ≤ (V 0 76).toInt - (V 0 69).toInt - (V 0 73).toInt ∧ z349.toInt = 0) from by (first | exact om_f1197ef27677 im43 hne im374.1 pq380 pq381 | omega)))) (show (V368 0 93).toInt = (V 0 93).toInt from by (first | exact om_cd7d0a6a31bc xlp13_3 pq382 | omega)) (show (V 0 60).toInt ≤ (V368 0 60).toInt from by (first | exact om_a40cdd94799e xlp13_4 pq383 | omega)) (show (V 0 65).toInt ≤ (V368 0 65).toInt from by (first | exact om_a40cdd94799e xlp13_5 pq384 | omega)) (show (V368 0 65).toInt - (V 0 65).toInt ≤ (V368 0 60).toInt - (V 0 60).toInt from by (first | exact om_953d7b5213d2 xlp13_6 pq383 pq384 | omega)) (show (V368 0 73).toInt + (V368 0 95).toInt - (V368 0 65).toInt ≤ (V 0 73).toInt + (V 0 95).toInt - (V 0 65).toInt from by (first | exact om_5b806241d648 xlp13_7 pq380 pq384 pq385 | omega)) (show (V 0 73).toInt ≤ (V368 0 73).toInt from by (first | exact om_a40cdd94799e xlp13_8 pq380 | omega)) (show (V 0 69).toInt ≤ (V368 0 69).toInt from by (first | exact om_a40cdd94799e xlp13_9 im374.1 | omega)) (show (V368 0 95).toInt = (V 0 95).toInt from by (first | exact om_cd7d0a6a31bc xlp13_10 pq385 | omega)) (show (V368 0 76).toInt - (V368 0 69).toInt - (V368 0 73).toInt ≤ (V 0 76).toInt - (V 0 69).toInt - (V 0 73).toInt from by (first | exact om_b2f0e61cd607 xlp13_11 im374.1 pq380 pq381 | omega)) (show 0 ≤ z349.toInt ∧ z349.toInt ≤ 2 from by (first | exact om_8c285ac91b81 rgz349.1 rgz349.2 | omega)) rt386 fm387 (Imp.mk (fun hp => by exfalso; (first | exact om_4c701f2d8c50 hp ((Imp.go t353 (hop)).1) | omega))) (Imp.mk (fun hp => by exfalso; (first | exact om_4c701f2d8c50 hp ((Imp.go t353 (hop)).1) | omega))) (Imp.mk (fun hp => by exfalso; (first | exact om_4c701f2d8c50 hp ((Imp.go t353 (hop)).1) | omega))) (Imp.mk (fun hp => by exfalso; (first | exact om_4c701f2d8c50 hp ((Imp.go t353 (hop)).1) | omega))) (Imp.mk (fun hp => have hp : z349.toInt = 0 := hp; (show ((gp.length : Nat) : Int) = ((gk : Nat) : Int) ∧ z338.toInt = ((10000 * nwh V + gi : Nat) : Int) from by omega))) (Imp.mk (fun _ => (DPc.m1 ht388 (by omega) (by (first | exact om_e43208099ff7 rk375.2.2.1 | omega)) (by omega) (by omega) (by omega) : DPc gB (mV V 0 gt gu, ga, Fwork glv go gc gsc gme 0 ((gat : Nat) : Int) p4 [] :: gr) V368 gr (z349.toInt) 0 (24 * (10 - (V 0 93).toInt))))) pk389 rj391 (by (first | exact om_bd2466411592 hn | omega)) (agr.tr (agr.tr agr.rf ajV12 (by decide) (by decide)) ajV368 (by decide) (by decide)) hMV368 hP hD hS (lv_sub hl [0, 1, 5, 6, 7, 8, 9, 10, 11, 12] rfl)
                    · skip
                      have f392 : ((V 45 (Int32.toNatClampNeg y11))).toInt = 3 := b_eq rfl (by decide) c347
                      exfalso; (first | exact om_c861051d8bdf hop f392 | omega)
                  · skip
                    have f393 : ((V 45 (Int32.toNatClampNeg y11))).toInt = 14 := b_eq rfl (by decide) c345
                    exfalso; (first | exact om_fa27125521dc hop f393 | omega)
                · skip
                  have f394 : ((V 45 (Int32.toNatClampNeg y11))).toInt = 15 := b_eq rfl (by decide) c343
                  exfalso; (first | exact om_bf3233e0524e hop f394 | omega)
              · skip
                have f395 : ((V 45 (Int32.toNatClampNeg y11))).toInt = 12 := b_eq rfl (by decide) c341
                exfalso; (first | exact om_e3b399699543 hop f395 | omega)
            · skip
              have f396 : ((V 45 (Int32.toNatClampNeg y11))).toInt = 13 := b_eq rfl (by decide) c339
              exfalso; (first | exact om_037a61b3d8e8 hop f396 | omega)
        · skip
          have hop : (V 45 (Int32.toNatClampNeg y11)).toInt = 4 := hc
          have oi9 : opf gB.1 gi = 4 := by have h9 : _ = ((opf gB.1 gi : Nat) : Int) := cd9.1; omega
          have hne : y11.toInt ≠ p0.toInt := fun h9 => by have e9 : y11 = p0 := Int32.toInt_inj.mp h9; rw [e9] at hop; omega
          refine lv_aload_n hx hb dX12_worksAround_17 rfl (lv_at hl 3 rfl) ?_
          refine va_get (D := D) (ci := 12) (v := .ref (ad 45)) (C := RX12) (T := TX12) (N := 100) hx hb hg inX12 hown hK hP 0 rfl rfl 45 (by decide) (hg _ w1751) (fun _ h9 => h9) rfl dX12_worksAround_18 ?_
          refine lv_iload hx hb dX12_worksAround_21 (lv_at hl 1 rfl) ?_
          refine va_iald (D := D) (i := y11) hx hb hK hP 38 37 rfl rfl (i_in (a := y11.toInt) rfl (by (first | exact om_943ab426fd09 hq b2 kpc | omega))) dX12_worksAround_23 ?_
          refine g_top (v := (V 45 (Int32.toNatClampNeg y11))) (ajV12 45 (Int32.toNatClampNeg y11) rfl) ?_
          refine lv_if_eq (tgt := 194) hx hb dX12_worksAround_24 (by decide) (fun c397 => ?_) (fun c397 => ?_)
          · skip
            have f398 : ((V 45 (Int32.toNatClampNeg y11))).toInt = 0 := b_eq rfl (by decide) c397
            exfalso; (first | exact om_284393523387 hop f398 | omega)
          · skip
            have f399 : ((V 45 (Int32.toNatClampNeg y11))).toInt ≠ 0 := b_neq rfl (by decide) c397
            refine lv_aload_n hx hb dX12_worksAround_27 rfl (lv_at hl 3 rfl) ?_
            refine va_get (D := D) (ci := 12) (v := .ref (ad 45)) (C := RX12) (T := TX12) (N := 100) hx hb hg inX12 hown hK hP 0 rfl rfl 45 (by decide) (hg _ w1751) (fun _ h9 => h9) rfl dX12_worksAround_28 ?_
            refine lv_iload hx hb dX12_worksAround_31 (lv_at hl 1 rfl) ?_
            refine va_iald (D := D) (i := y11) hx hb hK hP 38 37 rfl rfl (i_in (a := y11.toInt) rfl (by (first | exact om_943ab426fd09 hq b2 kpc | omega))) dX12_worksAround_33 ?_
            refine g_top (v := (V 45 (Int32.toNatClampNeg y11))) (ajV12 45 (Int32.toNatClampNeg y11) rfl) ?_
            refine lv_istore (lv' := [(10, .int (V 45 (Int32.toNatClampNeg y11))), (9, .int y10), (8, .int y11), (7, .int (V 0 98)), (0, .ref (ad 0)), (1, .int p0), (2, .int p1), (3, .int p2), (4, .int p3), (5, .int p4), (6, .int p5)]) hx hb dX12_worksAround_34 hl (by decide) rfl (fun ls hl => ?_)
            refine lv_aload_n hx hb dX12_worksAround_36 rfl (lv_at hl 4 rfl) ?_
            refine va_get (D := D) (ci := 12) (v := .ref (ad 46)) (C := RX12) (T := TX12) (N := 100) hx hb hg inX12 hown hK hP 0 rfl rfl 46 (by decide) (hg _ w1752) (fun _ h9 => h9) rfl dX12_worksAround_37 ?_
            refine lv_iload hx hb dX12_worksAround_40 (lv_at hl 2 rfl) ?_
            refine va_iald (D := D) (i := y11) hx hb hK hP 39 38 rfl rfl (i_in (a := y11.toInt) rfl (by (first | exact om_943ab426fd09 hq b2 kpc | omega))) dX12_worksAround_42 ?_
            refine g_top (v := (V 46 (Int32.toNatClampNeg y11))) (ajV12 46 (Int32.toNatClampNeg y11) rfl) ?_
            refine lv_istore (lv' := [(11, .int (V 46 (Int32.toNatClampNeg y11))), (10, .int (V 45 (Int32.toNatClampNeg y11))), (9, .int y10), (8, .int y11), (7, .int (V 0 98)), (0, .ref (ad 0)), (1, .int p0), (2, .int p1), (3, .int p2), (4, .int p3), (5, .int p4), (6, .int p5)]) hx hb dX12_worksAround_43 hl (by decide) rfl (fun ls hl => ?_)
            refine lv_aload_n hx hb dX12_worksAround_45 rfl (lv_at hl 5 rfl) ?_
            refine va_get (D := D) (ci := 12) (v := .ref (ad 47)) (C := RX12) (T := TX12) (N := 100) hx hb hg inX12 hown hK hP 0 rfl rfl 47 (by decide) (hg _ w1753) (fun _ h9 => h9) rfl dX12_worksAround_46 ?_
            refine lv_iload hx hb dX12_worksAround_49 (lv_at hl 3 rfl) ?_
            refine va_iald (D := D) (i := y11) hx hb hK hP 40 39 rfl rfl (i_in (a := y11.toInt) rfl (by (first | exact om_943ab426fd09 hq b2 kpc | omega))) dX12_worksAround_51 ?_
            refine g_top (v := (V 47 (Int32.toNatClampNeg y11))) (ajV12 47 (Int32.toNatClampNeg y11) rfl) ?_
            refine lv_istore (lv' := [(12, .int (V 47 (Int32.toNatClampNeg y11))), (11, .int (V 46 (Int32.toNatClampNeg y11))), (10, .int (V 45 (Int32.toNatClampNeg y11))), (9, .int y10), (8, .int y11), (7, .int (V 0 98)), (0, .ref (ad 0)), (1, .int p0), (2, .int p1), (3, .int p2), (4, .int p3), (5, .int p4), (6, .int p5)]) hx hb dX12_worksAround_52 hl (by decide) rfl (fun ls hl => ?_)
            obtain ⟨z400, ez400⟩ : ∃ y : Int32, y = y11 + 1 := ⟨_, rfl⟩
            have hz400 : z400.toInt = y11.toInt + 1 := i_add ez400 rfl (by decide) (by (first | exact om_084b5c89eefe hq b2 kpc | omega))
            refine lv_iinc (v := z400) (lv' := [(8, .int z400), (12, .int (V 47 (Int32.toNatClampNeg y11))), (11, .int (V 46 (Int32.toNatClampNeg y11))), (10, .int (V 45 (Int32.toNatClampNeg y11))), (9, .int y10), (7, .int (V 0 98)), (0, .ref (ad 0)), (1, .int p0), (2, .int p1), (3, .int p2), (4, .int p3), (5, .int p4), (6, .int p5)]) hx hb dX12_worksAround_54 hl (k := 4) rfl (by rw [ez400]; rfl) (by decide) rfl (fun ls hl => ?_)
            refine lv_iload hx hb dX12_worksAround_57 (lv_at hl 3 rfl) ?_
            refine lv_bipush (v := 13) hx hb dX12_worksAround_59 (by decide) ?_
            refine lv_icmp_ne (tgt := 71) hx hb dX12_worksAround_61 (by decide) (fun c401 => ?_) (fun c401 => ?_)
            · skip
              have f402 : ((V 45 (Int32.toNatClampNeg y11))).toInt ≠ 13 := b_neq rfl (by decide) c401
              refine lv_iload hx hb dX12_worksAround_71 (lv_at hl 3 rfl) ?_
              refine lv_bipush (v := 12) hx hb dX12_worksAround_73 (by decide) ?_
              refine lv_icmp_ne (tgt := 97) hx hb dX12_worksAround_75 (by decide) (fun c403 => ?_) (fun c403 => ?_)
              · skip
                have f404 : ((V 45 (Int32.toNatClampNeg y11))).toInt ≠ 12 := b_neq rfl (by decide) c403
                refine lv_iload hx hb dX12_worksAround_97 (lv_at hl 3 rfl) ?_
                refine lv_bipush (v := 15) hx hb dX12_worksAround_99 (by decide) ?_
                refine lv_icmp_ne (tgt := 131) hx hb dX12_worksAround_101 (by decide) (fun c405 => ?_) (fun c405 => ?_)
                · skip
                  have f406 : ((V 45 (Int32.toNatClampNeg y11))).toInt ≠ 15 := b_neq rfl (by decide) c405
                  refine lv_iload hx hb dX12_worksAround_131 (lv_at hl 3 rfl) ?_
                  refine lv_bipush (v := 14) hx hb dX12_worksAround_133 (by decide) ?_
                  refine lv_icmp_ne (tgt := 166) hx hb dX12_worksAround_135 (by decide) (fun c407 => ?_) (fun c407 => ?_)
                  · skip
                    have f408 : ((V 45 (Int32.toNatClampNeg y11))).toInt ≠ 14 := b_neq rfl (by decide) c407
                    refine lv_iload hx hb dX12_worksAround_166 (lv_at hl 3 rfl) ?_
                    refine lv_iconst (v := 3) hx hb dX12_worksAround_168 (by decide) ?_
                    refine lv_icmp_ne (tgt := 181) hx hb dX12_worksAround_169 (by decide) (fun c409 => ?_) (fun c409 => ?_)
                    · skip
                      have f410 : ((V 45 (Int32.toNatClampNeg y11))).toInt ≠ 3 := b_neq rfl (by decide) c409
                      refine lv_aload_n hx hb dX12_worksAround_181 rfl (lv_at hl 6 rfl) ?_
                      refine lv_iload hx hb dX12_worksAround_182 (lv_at hl 3 rfl) ?_
                      refine lv_iload hx hb dX12_worksAround_184 (lv_at hl 2 rfl) ?_
                      refine gA_int (gA_runV (As := [.int (V 45 (Int32.toNatClampNeg y11)), .int (V 46 (Int32.toNatClampNeg y11))]) (rest := []) (ci := 12) (q0 := 0) hx hb hml hown hg hP hD hK hS hA hnw hgk (s_reckons3 l D ks H.size ad kk V12 L (V 45 (Int32.toNatClampNeg y11)) (V 46 (Int32.toNatClampNeg y11)) hMV12 (by (first | exact om_0922b674e298 hop | omega)) (Imp.mk (fun hp => have hp : ((V 45 (Int32.toNatClampNeg y11))).toInt = 11 := hp; (show 0 ≤ ((V 46 (Int32.toNatClampNeg y11))).toInt ∧ ((V 46 (Int32.toNatClampNeg y11))).toInt ≤ 11 from by omega))) (Imp.mk (fun hp => have hp : ((V 45 (Int32.toNatClampNeg y11))).toInt = 2 ∨ ((V 45 (Int32.toNatClampNeg y11))).toInt = 11 := hp; (show (V12 0 98).toInt ≤ 19999 from by (first | exact om_53b561447de2 n6 n7 r7.2 b3 im42 | omega)))) (Imp.mk (fun hp => have hp : ((V 45 (Int32.toNatClampNeg y11))).toInt = 4 := hp; (show 1 ≤ (V12 0 98).toInt from by omega))) (Imp.mk (fun hp => have hp : 5 ≤ ((V 45 (Int32.toNatClampNeg y11))).toInt ∧ ((V 45 (Int32.toNatClampNeg y11))).toInt ≤ 9 := hp; (show 2 ≤ (V12 0 98).toInt from by omega))) (show ((V 45 (Int32.toNatClampNeg y11))).toInt ≠ 3 from by (first | exact om_9cd8fd313d53 hop | omega))) w2324 w2326 w150 w172 w2327 rfl rfl hdV_yX12_reckons ⟨(by show (1) + 1 ≤ (4 * d1 + 40 * d2 + 11); (first | exact om_1d3ee3ce7f7a n5 n6 r2.2 xlp13_3 r18.2 | omega)), (by show 8 + (5 + 11) + (21) ≤ (100 * d1 + 1000 * d2 + 410); (first | exact om_d7d7af4cd1f0 n5 n6 r2.2 xlp13_3 r18.2 | omega))⟩ rfl hl.1 rfl (Nat.le_of_ble_eq_true rfl) dX12_worksAround_186 ⟨Nat.le_of_ble_eq_true rfl, Nat.le_of_ble_eq_true rfl⟩) hP hD hK hS hA (fun z411 u412 H locs w413 hP hD hK hS => ?_)
                      obtain ⟨V430, L431⟩ := u412
                      obtain ⟨hMV430, ajV430, axL431, rgz411, t414, t415, t416, t417, t418, t419, t420, t421, t422, t423, t424, t425, t426, t427, t428, t429⟩ := w413
                      have axL431 : L = L431 := Eq.symm axL431
                      subst axL431
                      have hP : va_P D vwCl (mw ad kk ks.1 V430 L) H := hP
                      have hD : va_D A (mw ad kk ks.1 V430 L) := hD
                      have hMV430 : rgd bM V430 := hMV430
                      have ajV430 : agr [(0, 68), (0, 69), (0, 90), (0, 91), (0, 98)] [97] V12 V430 := ajV430
                      have agV430 : agr [(0, 60), (0, 65), (0, 68), (0, 69), (0, 73), (0, 76), (0, 90), (0, 91), (0, 92), (0, 93), (0, 95), (0, 96), (0, 98)] [59, 61, 62, 63, 64, 66, 67, 74, 75, 77, 78, 79, 80, 94, 97] V V430 := agV12.tr ajV430 (by decide) (by decide)
                      have rgz411 : 0 ≤ z411.toInt ∧ z411.toInt ≤ 2 := rgz411
                      have t414 : Imp (((V 45 (Int32.toNatClampNeg y11))).toInt = 1) ((V430 0 98).toInt = (V12 0 98).toInt ∧ ((z411.toInt = 0 ∧ (V430 0 69).toInt = (V12 0 69).toInt + 1 ∧ (V430 0 68).toInt = (V12 0 68).toInt + 1 ∧ (V12 0 69).toInt < 3000 ∧ (V12 0 68).toInt < 60000) ∨ (z411.toInt = 2 ∧ (V430 0 69).toInt = (V12 0 69).toInt ∧ (V430 0 68).toInt = (V12 0 68).toInt ∧ ((V12 0 69).toInt = 3000 ∨ (V12 0 68).toInt = 60000)))) := t414
                      have t415 : Imp (((V 45 (Int32.toNatClampNeg y11))).toInt = 10) (z411.toInt = 1 ∧ (V430 0 98).toInt = (V12 0 98).toInt ∧ (V430 0 90).toInt = 0 ∧ (V430 0 91).toInt = ((V 46 (Int32.toNatClampNeg y11))).toInt) := t415
                      have t416 : Imp (((V 45 (Int32.toNatClampNeg y11))).toInt = 2 ∨ ((V 45 (Int32.toNatClampNeg y11))).toInt = 11) (z411.toInt = 0 ∧ (V430 0 98).toInt = (V12 0 98).toInt + 1) := t416
                      have t417 : Imp (((V 45 (Int32.toNatClampNeg y11))).toInt = 4) (z411.toInt = 0 ∧ (V430 0 98).toInt = (V12 0 98).toInt) := t417
                      have t418 : Imp (5 ≤ ((V 45 (Int32.toNatClampNeg y11))).toInt ∧ ((V 45 (Int32.toNatClampNeg y11))).toInt ≤ 9) (z411.toInt = 0 ∧ (V430 0 98).toInt = (V12 0 98).toInt - 1) := t418
                      have t419 : Imp (((V 45 (Int32.toNatClampNeg y11))).toInt ≠ 1) ((V430 0 69).toInt = (V12 0 69).toInt ∧ (V430 0 68).toInt = (V12 0 68).toInt) := t419
                      have t420 : Imp (((V 45 (Int32.toNatClampNeg y11))).toInt ≠ 10) ((V430 0 90).toInt = (V12 0 90).toInt ∧ (V430 0 91).toInt = (V12 0 91).toInt) := t420
                      have t421 : Imp (((V 45 (Int32.toNatClampNeg y11))).toInt = 2) (V430 97 (Int32.toNatClampNeg (V12 0 98)) = (V 46 (Int32.toNatClampNeg y11)) ∧ ∀ j9, j9 ≠ Int32.toNatClampNeg (V12 0 98) → V430 97 j9 = V12 97 j9) := t421
                      have t422 : Imp (((V 45 (Int32.toNatClampNeg y11))).toInt = 11) (V430 97 (Int32.toNatClampNeg (V12 0 98)) = V12 18 (12 * nwh V12 + Int32.toNatClampNeg (V 46 (Int32.toNatClampNeg y11))) ∧ ∀ j9, j9 ≠ Int32.toNatClampNeg (V12 0 98) → V430 97 j9 = V12 97 j9) := t422
                      have t423 : Imp (((V 45 (Int32.toNatClampNeg y11))).toInt = 4) (∀ t9 : Nat, (V12 0 98).toInt = (t9 : Int) + 1 → V430 97 t9 = -(V12 97 t9) ∧ ∀ j9, j9 < t9 → V430 97 j9 = V12 97 j9) := t423
                      have t424 : Imp (((V 45 (Int32.toNatClampNeg y11))).toInt = 5) (∀ t9 : Nat, (V12 0 98).toInt = (t9 : Int) + 2 → V430 97 t9 = V12 97 t9 * V12 97 (t9 + 1) ∧ ∀ j9, j9 < t9 → V430 97 j9 = V12 97 j9) := t424
                      have t425 : Imp (((V 45 (Int32.toNatClampNeg y11))).toInt = 6) (∀ t9 : Nat, (V12 0 98).toInt = (t9 : Int) + 2 → V430 97 t9 = V12 97 t9 + V12 97 (t9 + 1) ∧ ∀ j9, j9 < t9 → V430 97 j9 = V12 97 j9) := t425
                      have t426 : Imp (((V 45 (Int32.toNatClampNeg y11))).toInt = 7) (∀ t9 : Nat, (V12 0 98).toInt = (t9 : Int) + 2 → V430 97 t9 = V12 97 t9 - V12 97 (t9 + 1) ∧ ∀ j9, j9 < t9 → V430 97 j9 = V12 97 j9) := t426
                      have t427 : Imp (((V 45 (Int32.toNatClampNeg y11))).toInt = 8) (∀ t9 : Nat, (V12 0 98).toInt = (t9 : Int) + 2 → V430 97 t9 = (if (V12 97 t9).toInt < (V12 97 (t9 + 1)).toInt then 1 else 0) ∧ ∀ j9, j9 < t9 → V430 97 j9 = V12 97 j9) := t427
                      have t428 : Imp (((V 45 (Int32.toNatClampNeg y11))).toInt = 9) (∀ t9 : Nat, (V12 0 98).toInt = (t9 : Int) + 2 → V430 97 t9 = (if V12 97 t9 = V12 97 (t9 + 1) then 1 else 0) ∧ ∀ j9, j9 < t9 → V430 97 j9 = V12 97 j9) := t428
                      have t429 : Imp (((V 45 (Int32.toNatClampNeg y11))).toInt = 1 ∨ ((V 45 (Int32.toNatClampNeg y11))).toInt = 10) (∀ j9, V430 97 j9 = V12 97 j9) := t429
                      have r432 : 0 ≤ ((V12 0 68)).toInt ∧ ((V12 0 68)).toInt ≤ 60000 := hMV12 0 68
                      have r433 : 0 ≤ ((V430 0 69)).toInt ∧ ((V430 0 69)).toInt ≤ 3000 := hMV430 0 69
                      have r434 : 0 ≤ ((V430 0 68)).toInt ∧ ((V430 0 68)).toInt ≤ 60000 := hMV430 0 68
                      have r435 : 0 ≤ ((V430 0 98)).toInt ∧ ((V430 0 98)).toInt ≤ 20000 := hMV430 0 98
                      refine lv_istore (lv' := [(9, .int z411), (8, .int z400), (12, .int (V 47 (Int32.toNatClampNeg y11))), (11, .int (V 46 (Int32.toNatClampNeg y11))), (10, .int (V 45 (Int32.toNatClampNeg y11))), (7, .int (V 0 98)), (0, .ref (ad 0)), (1, .int p0), (2, .int p1), (3, .int p2), (4, .int p3), (5, .int p4), (6, .int p5)]) hx hb dX12_worksAround_189 hl (by decide) rfl (fun ls hl => ?_)
                      have im436 := Imp.go t419 (by (first | exact om_d1c11830012b hop | omega))
                      have im437 := Imp.go t420 (by (first | exact om_f1631371002d hop | omega))
                      obtain ⟨h41, h4q⟩ := OQ.i4 og7 oi9
                      obtain ⟨t4, ht4⟩ : ∃ t4 : Nat, (V12 0 98).toInt = (t4 : Int) + 1 := ⟨(V12 0 98).toInt.toNat - 1, by omega⟩
                      have rk438 := Imp.go t423 (by (first | exact om_c88e7ce0b8a2 hop | omega)) t4 ht4
                      have rk438t := Imp.go t417 (by (first | exact om_c88e7ce0b8a2 hop | omega))
                      have hd4 := plR.hd (t := t4) (by rw [show t4 + 1 = (V12 0 98).toInt.toNat from by omega]; exact pl9) h41
                      have tl4 := tl1 h41
                      have r439 : 0 ≤ (V12 0 65).toInt := (hMV12 0 65).1
                      have r440 : (V12 0 60).toInt ≤ 300 := (hMV12 0 60).2
                      have r441 : 0 ≤ (V12 0 93).toInt ∧ (V12 0 93).toInt ≤ 10 := hMV12 0 93
                      have ht442 : TRs gB (mV V 0 gt gu, ga, Fwork glv go gc gsc gme 0 ((gat : Nat) : Int) p4 [] :: gr) (mV V12 sg9 t9 k9, a9, Fwork glv go gc gsc gm9 0 (((gi + 1) : Nat) : Int) p4 (-(pop1 gp) :: gp.tail) :: gr) := TRs.st ht9 (SF.mk (show gr.length ≤ 394 from by (first | exact om_87fa92eb9f41 hl9 xlp13_3 r18.2 | omega)) (show gp.length + (totP gr) ≤ 2000 from by (first | exact om_6542cae4e4ce hp9 r7.2 b3 nm9.1 | omega)) (show 0 ≤ (V12 0 65).toInt ∧ (V12 0 65).toInt ≤ 300 from by (first | exact om_65732a9e84ef n1 xlp13_6 r19.2 r20.1 | omega)) (fun h9 => by have h8 : sg9 = 2 := h9; omega) (show ∃ q9, OQ gB _ _ _ _ q9 from ⟨_, og7⟩)) (st_12.trans (or_4 oi9))
                      have on443 := (show ∃ q9, OQ gB (ndW gB gc 0) (decide ((0 : Int) < 0)) (gi + 1) (-(pop1 gp) :: gp.tail).length q9 from by rw [show (-(pop1 gp) :: gp.tail).length = gp.length from tl4]; exact h4q)
                      have pl444 : plR V430 (V430 0 98).toInt.toNat ((-(pop1 gp) :: gp.tail)) := by rw [show (V430 0 98).toInt.toNat = t4 + 1 from by omega]; exact plR.pu hd4.2 (rk438.1.trans (by rw [hd4.1])) rk438.2
                      have ln445 : ((-(pop1 gp) :: gp.tail)).length = gp.length := tl4
                      refine lv_goto (tgt := 12) hx hb dX12_worksAround_191 (by decide) ?_
                      have pq446 : (V430 0 73).toInt = ((V12 0 73)).toInt := congrArg Int32.toInt (ajV430 0 73 rfl)
                      have pq447 : (V430 0 76).toInt = ((V12 0 76)).toInt := congrArg Int32.toInt (ajV430 0 76 rfl)
                      have pq448 : (V430 0 93).toInt = ((V12 0 93)).toInt := congrArg Int32.toInt (ajV430 0 93 rfl)
                      have pq449 : (V430 0 60).toInt = ((V12 0 60)).toInt := congrArg Int32.toInt (ajV430 0 60 rfl)
                      have pq450 : (V430 0 65).toInt = ((V12 0 65)).toInt := congrArg Int32.toInt (ajV430 0 65 rfl)
                      have pq451 : (V430 0 95).toInt = ((V12 0 95)).toInt := congrArg Int32.toInt (ajV430 0 95 rfl)
                      have rt452 : RT V430 := RT.ag xlp13_13 hMV12 (show agr [(0, 68), (0, 69), (0, 90), (0, 91), (0, 98)] [97] V12 V430 from (agr.tr agr.rf ajV430 (by decide) (by decide))) ⟨⟨rfl, fun _ => rfl, fun _ => rfl, fun _ => rfl, fun _ => rfl, fun _ => rfl, fun _ => rfl⟩, by decide, by decide, rfl, rfl, fun _ => rfl, fun _ => rfl, fun _ => rfl, fun _ => rfl, fun _ => rfl, fun _ => rfl⟩ (c0k.ag (show agr [(0, 68), (0, 69), (0, 90), (0, 91), (0, 98)] [97] V12 V430 from (agr.tr agr.rf ajV430 (by decide) (by decide))) rfl)
                      have fm453 : FRM V V430 (-1) := (FRM.tr xlp13_14 (FRM.ag (show agr [(0, 68), (0, 69), (0, 90), (0, 91), (0, 98)] [97] V12 V430 from (agr.tr agr.rf ajV430 (by decide) (by decide))) ⟨⟨rfl, fun _ => rfl, fun _ => rfl, fun _ => rfl, fun _ => rfl, fun _ => rfl, fun _ => rfl⟩, by decide, by decide, rfl, rfl, fun _ => rfl, fun _ => rfl, fun _ => rfl, fun _ => rfl, fun _ => rfl, fun _ => rfl⟩) agV12 ⟨rfl, fun _ => rfl, fun _ => rfl, fun _ => rfl, fun _ => rfl, fun _ => rfl, fun _ => rfl⟩ (by (first | exact om_abdc88b0c8fc xlp13_10 | omega)))
                      have ht454 : TRs gB (mV V 0 gt gu, ga, Fwork glv go gc gsc gme 0 ((gat : Nat) : Int) p4 [] :: gr) (mV V430 sg9 t9 k9, a9, Fwork glv go gc gsc gm9 0 (((gi + 1) : Nat) : Int) p4 (-(pop1 gp) :: gp.tail) :: gr) := by rw [mV_st0 (show agr [(0, 68), (0, 69), (0, 90), (0, 91), (0, 98)] [97] V12 V430 from (agr.tr agr.rf ajV430 (by decide) (by decide))) (by decide) (by omega) (by omega)]; exact ht442
                      have kt456 := i_clamp (x := V12 0 98) rfl (by (first | exact om_eafa9039069c r14.1 | omega))
                      have pw457 := Imp.go t423 (by (first | exact om_c88e7ce0b8a2 hop | omega)) ((V12 0 98).toInt.toNat - 1) (by omega)
                      have pk455 : PLK V V430 (V 0 98).toInt.toNat := PLK.tr xlp13_21 (t2 := (V 0 98).toInt.toNat) (fun j9 hj9 => pw457.2 j9 (by omega)) (Nat.le_refl _)
                      have rj458 : RJm V430 gB := RJm.ag xlp13_22 (show agr [(0, 68), (0, 69), (0, 90), (0, 91), (0, 98)] [97] V12 V430 from (agr.tr agr.rf ajV430 (by decide) (by decide))) (by decide)
                      exact ihlp13 (f) (gk) ((gi + 1)) ((-(pop1 gp) :: gp.tail)) (gm9) z411 z400 V430 H locs ls (by (first | exact om_8c285ac91b81 rgz411.1 rgz411.2 | omega)) (show 0 ≤ z400.toInt from by (first | exact om_d256ebc631d1 kpc kg9 hz400 | omega)) (Imp.mk (fun hp => have hp : z411.toInt = 0 := hp; (show (V430 0 98).toInt = (V 0 98).toInt + ((gk : Nat) : Int) from by (first | exact om_44a1f954dd54 ((Imp.go xlp13_1 (f41))) ((Imp.go t417 (hop)).2) | omega)))) (Imp.mk (fun hp => have hp : z411.toInt ≠ 2 := hp; (show (V430 0 76).toInt - (V430 0 69).toInt - (V430 0 73).toInt + 1 ≤ (V 0 76).toInt - (V 0 69).toInt - (V 0 73).toInt ∨ (z400.toInt = p0.toInt ∧ (V430 0 76).toInt - (V430 0 69).toInt - (V430 0 73).toInt ≤ (V 0 76).toInt - (V 0 69).toInt - (V 0 73).toInt ∧ z411.toInt = 0) from by (first | exact om_f1197ef27677 im43 hne im436.1 pq446 pq447 | omega)))) (show (V430 0 93).toInt = (V 0 93).toInt from by (first | exact om_cd7d0a6a31bc xlp13_3 pq448 | omega)) (show (V 0 60).toInt ≤ (V430 0 60).toInt from by (first | exact om_a40cdd94799e xlp13_4 pq449 | omega)) (show (V 0 65).toInt ≤ (V430 0 65).toInt from by (first | exact om_a40cdd94799e xlp13_5 pq450 | omega)) (show (V430 0 65).toInt - (V 0 65).toInt ≤ (V430 0 60).toInt - (V 0 60).toInt from by (first | exact om_953d7b5213d2 xlp13_6 pq449 pq450 | omega)) (show (V430 0 73).toInt + (V430 0 95).toInt - (V430 0 65).toInt ≤ (V 0 73).toInt + (V 0 95).toInt - (V 0 65).toInt from by (first | exact om_5b806241d648 xlp13_7 pq446 pq450 pq451 | omega)) (show (V 0 73).toInt ≤ (V430 0 73).toInt from by (first | exact om_a40cdd94799e xlp13_8 pq446 | omega)) (show (V 0 69).toInt ≤ (V430 0 69).toInt from by (first | exact om_a40cdd94799e xlp13_9 im436.1 | omega)) (show (V430 0 95).toInt = (V 0 95).toInt from by (first | exact om_cd7d0a6a31bc xlp13_10 pq451 | omega)) (show (V430 0 76).toInt - (V430 0 69).toInt - (V430 0 73).toInt ≤ (V 0 76).toInt - (V 0 69).toInt - (V 0 73).toInt from by (first | exact om_b2f0e61cd607 xlp13_11 im436.1 pq446 pq447 | omega)) (show 0 ≤ z411.toInt ∧ z411.toInt ≤ 2 from by (first | exact om_8c285ac91b81 rgz411.1 rgz411.2 | omega)) rt452 fm453 (Imp.mk (fun _ => by have e8 : Int32.toNatClampNeg z400 = Int32.toNatClampNeg y11 + 1 := (by have h9 := i_clamp (x := z400) rfl (by (first | exact om_d256ebc631d1 kpc kg9 hz400 | omega)); omega); rw [e8]; exact hw)) (Imp.mk (fun _ => ⟨sg9, t9, k9, a9, sq9, ht454⟩)) (Imp.mk (fun _ => on443)) (Imp.mk (fun _ => pl444)) (Imp.mk (fun hp => have hp : z411.toInt = 0 := hp; (show (((-(pop1 gp) :: gp.tail).length : Nat) : Int) = ((gk : Nat) : Int) ∧ z400.toInt = ((10000 * nwh V + (gi + 1) : Nat) : Int) from by (first | exact om_ffd1a4208a61 kpc kg9 hz400 ln445 ((Imp.go xlp13_19 (f41)).1) | omega)))) (Imp.mk (fun hp => by exfalso; (first | exact om_0abcda13baee rgz411.1 hp ((Imp.go t417 (hop)).1) | omega))) pk455 rj458 (by (first | exact om_bd2466411592 hn | omega)) (agr.tr (agr.tr agr.rf ajV12 (by decide) (by decide)) ajV430 (by decide) (by decide)) hMV430 hP hD hS (lv_sub hl [0, 1, 5, 6, 7, 8, 9, 10, 11, 12] rfl)
                    · skip
                      have f459 : ((V 45 (Int32.toNatClampNeg y11))).toInt = 3 := b_eq rfl (by decide) c409
                      exfalso; (first | exact om_b3ee4c08ff11 hop f459 | omega)
                  · skip
                    have f460 : ((V 45 (Int32.toNatClampNeg y11))).toInt = 14 := b_eq rfl (by decide) c407
                    exfalso; (first | exact om_be092901ff5d hop f460 | omega)
                · skip
                  have f461 : ((V 45 (Int32.toNatClampNeg y11))).toInt = 15 := b_eq rfl (by decide) c405
                  exfalso; (first | exact om_0e8c92b17c6f hop f461 | omega)
              · skip
                have f462 : ((V 45 (Int32.toNatClampNeg y11))).toInt = 12 := b_eq rfl (by decide) c403
                exfalso; (first | exact om_6d4311c163d0 hop f462 | omega)
            · skip
              have f463 : ((V 45 (Int32.toNatClampNeg y11))).toInt = 13 := b_eq rfl (by decide) c401
              exfalso; (first | exact om_0f1fccd66da8 hop f463 | omega)
        · skip
          have hop : (V 45 (Int32.toNatClampNeg y11)).toInt = 14 := hc
          have oi9 : opf gB.1 gi = 14 := by have h9 : _ = ((opf gB.1 gi : Nat) : Int) := cd9.1; omega
          have hne : y11.toInt ≠ p0.toInt := fun h9 => by have e9 : y11 = p0 := Int32.toInt_inj.mp h9; rw [e9] at hop; omega
          have hy1 : 0 ≤ (V 46 (Int32.toNatClampNeg y11)).toInt ∧ (V 46 (Int32.toNatClampNeg y11)).toInt < nd := ⟨hx1, hx2⟩
          have r27 : (V 27 (24 * nwh V + Int32.toNatClampNeg (V 61 (Int32.toNatClampNeg p1)))).toInt ≤ 8 := (hMV 27 _).2
          have hy2 : 0 ≤ (V 47 (Int32.toNatClampNeg y11)).toInt ∧ (V 47 (Int32.toNatClampNeg y11)).toInt ≤ 19 := ⟨hx3, hx4⟩
          have o14 := OQ.i14 og7 oi9
          refine lv_aload_n hx hb dX12_worksAround_17 rfl (lv_at hl 3 rfl) ?_
          refine va_get (D := D) (ci := 12) (v := .ref (ad 45)) (C := RX12) (T := TX12) (N := 100) hx hb hg inX12 hown hK hP 0 rfl rfl 45 (by decide) (hg _ w1751) (fun _ h9 => h9) rfl dX12_worksAround_18 ?_
          refine lv_iload hx hb dX12_worksAround_21 (lv_at hl 1 rfl) ?_
          refine va_iald (D := D) (i := y11) hx hb hK hP 38 37 rfl rfl (i_in (a := y11.toInt) rfl (by (first | exact om_943ab426fd09 hq b2 kpc | omega))) dX12_worksAround_23 ?_
          refine g_top (v := (V 45 (Int32.toNatClampNeg y11))) (ajV12 45 (Int32.toNatClampNeg y11) rfl) ?_
          refine lv_if_eq (tgt := 194) hx hb dX12_worksAround_24 (by decide) (fun c464 => ?_) (fun c464 => ?_)
          · skip
            have f465 : ((V 45 (Int32.toNatClampNeg y11))).toInt = 0 := b_eq rfl (by decide) c464
            exfalso; (first | exact om_63622a147cef hop f465 | omega)
          · skip
            have f466 : ((V 45 (Int32.toNatClampNeg y11))).toInt ≠ 0 := b_neq rfl (by decide) c464
            refine lv_aload_n hx hb dX12_worksAround_27 rfl (lv_at hl 3 rfl) ?_
            refine va_get (D := D) (ci := 12) (v := .ref (ad 45)) (C := RX12) (T := TX12) (N := 100) hx hb hg inX12 hown hK hP 0 rfl rfl 45 (by decide) (hg _ w1751) (fun _ h9 => h9) rfl dX12_worksAround_28 ?_
            refine lv_iload hx hb dX12_worksAround_31 (lv_at hl 1 rfl) ?_
            refine va_iald (D := D) (i := y11) hx hb hK hP 38 37 rfl rfl (i_in (a := y11.toInt) rfl (by (first | exact om_943ab426fd09 hq b2 kpc | omega))) dX12_worksAround_33 ?_
            refine g_top (v := (V 45 (Int32.toNatClampNeg y11))) (ajV12 45 (Int32.toNatClampNeg y11) rfl) ?_
            refine lv_istore (lv' := [(10, .int (V 45 (Int32.toNatClampNeg y11))), (9, .int y10), (8, .int y11), (7, .int (V 0 98)), (0, .ref (ad 0)), (1, .int p0), (2, .int p1), (3, .int p2), (4, .int p3), (5, .int p4), (6, .int p5)]) hx hb dX12_worksAround_34 hl (by decide) rfl (fun ls hl => ?_)
            refine lv_aload_n hx hb dX12_worksAround_36 rfl (lv_at hl 4 rfl) ?_
            refine va_get (D := D) (ci := 12) (v := .ref (ad 46)) (C := RX12) (T := TX12) (N := 100) hx hb hg inX12 hown hK hP 0 rfl rfl 46 (by decide) (hg _ w1752) (fun _ h9 => h9) rfl dX12_worksAround_37 ?_
            refine lv_iload hx hb dX12_worksAround_40 (lv_at hl 2 rfl) ?_
            refine va_iald (D := D) (i := y11) hx hb hK hP 39 38 rfl rfl (i_in (a := y11.toInt) rfl (by (first | exact om_943ab426fd09 hq b2 kpc | omega))) dX12_worksAround_42 ?_
            refine g_top (v := (V 46 (Int32.toNatClampNeg y11))) (ajV12 46 (Int32.toNatClampNeg y11) rfl) ?_
            refine lv_istore (lv' := [(11, .int (V 46 (Int32.toNatClampNeg y11))), (10, .int (V 45 (Int32.toNatClampNeg y11))), (9, .int y10), (8, .int y11), (7, .int (V 0 98)), (0, .ref (ad 0)), (1, .int p0), (2, .int p1), (3, .int p2), (4, .int p3), (5, .int p4), (6, .int p5)]) hx hb dX12_worksAround_43 hl (by decide) rfl (fun ls hl => ?_)
            refine lv_aload_n hx hb dX12_worksAround_45 rfl (lv_at hl 5 rfl) ?_
            refine va_get (D := D) (ci := 12) (v := .ref (ad 47)) (C := RX12) (T := TX12) (N := 100) hx hb hg inX12 hown hK hP 0 rfl rfl 47 (by decide) (hg _ w1753) (fun _ h9 => h9) rfl dX12_worksAround_46 ?_
            refine lv_iload hx hb dX12_worksAround_49 (lv_at hl 3 rfl) ?_
            refine va_iald (D := D) (i := y11) hx hb hK hP 40 39 rfl rfl (i_in (a := y11.toInt) rfl (by (first | exact om_943ab426fd09 hq b2 kpc | omega))) dX12_worksAround_51 ?_
            refine g_top (v := (V 47 (Int32.toNatClampNeg y11))) (ajV12 47 (Int32.toNatClampNeg y11) rfl) ?_
            refine lv_istore (lv' := [(12, .int (V 47 (Int32.toNatClampNeg y11))), (11, .int (V 46 (Int32.toNatClampNeg y11))), (10, .int (V 45 (Int32.toNatClampNeg y11))), (9, .int y10), (8, .int y11), (7, .int (V 0 98)), (0, .ref (ad 0)), (1, .int p0), (2, .int p1), (3, .int p2), (4, .int p3), (5, .int p4), (6, .int p5)]) hx hb dX12_worksAround_52 hl (by decide) rfl (fun ls hl => ?_)
            obtain ⟨z467, ez467⟩ : ∃ y : Int32, y = y11 + 1 := ⟨_, rfl⟩
            have hz467 : z467.toInt = y11.toInt + 1 := i_add ez467 rfl (by decide) (by (first | exact om_084b5c89eefe hq b2 kpc | omega))
            refine lv_iinc (v := z467) (lv' := [(8, .int z467), (12, .int (V 47 (Int32.toNatClampNeg y11))), (11, .int (V 46 (Int32.toNatClampNeg y11))), (10, .int (V 45 (Int32.toNatClampNeg y11))), (9, .int y10), (7, .int (V 0 98)), (0, .ref (ad 0)), (1, .int p0), (2, .int p1), (3, .int p2), (4, .int p3), (5, .int p4), (6, .int p5)]) hx hb dX12_worksAround_54 hl (k := 4) rfl (by rw [ez467]; rfl) (by decide) rfl (fun ls hl => ?_)
            refine lv_iload hx hb dX12_worksAround_57 (lv_at hl 3 rfl) ?_
            refine lv_bipush (v := 13) hx hb dX12_worksAround_59 (by decide) ?_
            refine lv_icmp_ne (tgt := 71) hx hb dX12_worksAround_61 (by decide) (fun c468 => ?_) (fun c468 => ?_)
            · skip
              have f469 : ((V 45 (Int32.toNatClampNeg y11))).toInt ≠ 13 := b_neq rfl (by decide) c468
              refine lv_iload hx hb dX12_worksAround_71 (lv_at hl 3 rfl) ?_
              refine lv_bipush (v := 12) hx hb dX12_worksAround_73 (by decide) ?_
              refine lv_icmp_ne (tgt := 97) hx hb dX12_worksAround_75 (by decide) (fun c470 => ?_) (fun c470 => ?_)
              · skip
                have f471 : ((V 45 (Int32.toNatClampNeg y11))).toInt ≠ 12 := b_neq rfl (by decide) c470
                refine lv_iload hx hb dX12_worksAround_97 (lv_at hl 3 rfl) ?_
                refine lv_bipush (v := 15) hx hb dX12_worksAround_99 (by decide) ?_
                refine lv_icmp_ne (tgt := 131) hx hb dX12_worksAround_101 (by decide) (fun c472 => ?_) (fun c472 => ?_)
                · skip
                  have f473 : ((V 45 (Int32.toNatClampNeg y11))).toInt ≠ 15 := b_neq rfl (by decide) c472
                  refine lv_iload hx hb dX12_worksAround_131 (lv_at hl 3 rfl) ?_
                  refine lv_bipush (v := 14) hx hb dX12_worksAround_133 (by decide) ?_
                  refine lv_icmp_ne (tgt := 166) hx hb dX12_worksAround_135 (by decide) (fun c474 => ?_) (fun c474 => ?_)
                  · skip
                    have f475 : ((V 45 (Int32.toNatClampNeg y11))).toInt ≠ 14 := b_neq rfl (by decide) c474
                    exfalso; (first | exact om_76cc5f5a03ba hop f475 | omega)
                  · skip
                    have f476 : ((V 45 (Int32.toNatClampNeg y11))).toInt = 14 := b_eq rfl (by decide) c474
                    refine lv_aload_n hx hb dX12_worksAround_138 rfl (lv_at hl 6 rfl) ?_
                    refine lv_iload_n hx hb dX12_worksAround_139 rfl (lv_at hl 8 rfl) ?_
                    refine lv_iload hx hb dX12_worksAround_140 (lv_at hl 2 rfl) ?_
                    refine lv_iload hx hb dX12_worksAround_142 (lv_at hl 1 rfl) ?_
                    refine lv_iload hx hb dX12_worksAround_144 (lv_at hl 10 rfl) ?_
                    refine lv_aload_n hx hb dX12_worksAround_146 rfl (lv_at hl 6 rfl) ?_
                    refine gA_int (gA_runV (As := []) (rest := [.int p3, .int (V 47 (Int32.toNatClampNeg y11)), .int (V 46 (Int32.toNatClampNeg y11)), .int p1, .ref (ad 0)]) (ci := 12) (q0 := 0) hx hb hml hown hg hP hD hK hS hA hnw hgk (s_pop3 l D ks H.size ad kk V12 L  hMV12 (show 1 ≤ (V12 0 98).toInt from by omega)) w2276 w2278 w138 w172 w2279 rfl rfl hdV_yX12_pop ⟨(by show (0) + 1 ≤ (4 * d1 + 40 * d2 + 11); (first | exact om_212987aed262 n5 n6 r2.2 xlp13_3 r18.2 | omega)), (by show 8 + (1 + 11) + (0) ≤ (100 * d1 + 1000 * d2 + 410); (first | exact om_a20e3a1c21f1 n5 n6 r2.2 xlp13_3 r18.2 | omega))⟩ rfl hl.1 rfl (Nat.le_of_ble_eq_true rfl) dX12_worksAround_147 ⟨Nat.le_of_ble_eq_true rfl, Nat.le_of_ble_eq_true rfl⟩) hP hD hK hS hA (fun z477 u478 H locs w479 hP hD hK hS => ?_)
                    obtain ⟨V482, L483⟩ := u478
                    obtain ⟨hMV482, ajV482, axL483, t480, t481⟩ := w479
                    have axL483 : L = L483 := Eq.symm axL483
                    subst axL483
                    have hP : va_P D vwCl (mw ad kk ks.1 V482 L) H := hP
                    have hD : va_D A (mw ad kk ks.1 V482 L) := hD
                    have hMV482 : rgd bM V482 := hMV482
                    have ajV482 : agr [(0, 98)] [] V12 V482 := ajV482
                    have agV482 : agr [(0, 60), (0, 65), (0, 68), (0, 69), (0, 73), (0, 76), (0, 90), (0, 91), (0, 92), (0, 93), (0, 95), (0, 96), (0, 98)] [59, 61, 62, 63, 64, 66, 67, 74, 75, 77, 78, 79, 80, 94, 97] V V482 := agV12.tr ajV482 (by decide) (by decide)
                    have t480 : (V482 0 98).toInt = (V12 0 98).toInt - 1 := t480
                    have t481 : z477 = V12 97 (Int32.toNatClampNeg (V482 0 98)) := t481
                    have r484 : 0 ≤ ((V482 0 98)).toInt ∧ ((V482 0 98)).toInt ≤ 20000 := hMV482 0 98
                    obtain ⟨t5, ek5, h5q⟩ := o14.2
                    obtain ⟨t4, ht4⟩ : ∃ t4 : Nat, (V12 0 98).toInt = (t4 : Int) + 1 := ⟨(V12 0 98).toInt.toNat - 1, by omega⟩
                    have hd4 := plR.hd (t := t4) (by rw [show t4 + 1 = (V12 0 98).toInt.toNat from by omega]; exact pl9) (by omega)
                    have tl4 := tl1 (p := gp) (by omega)
                    have pz9 : z477 = pop1 gp := by have h9 := t481; rw [show Int32.toNatClampNeg (V482 0 98) = t4 from by have h8 := i_clamp (x := V482 0 98) rfl (by (first | exact om_eafa9039069c r484.1 | omega)); omega] at h9; exact h9.trans hd4.1
                    have x14 := cd9.2.1.2.2 (show opf gB.1 gi ≠ 2 by omega) (show ¬ (opf gB.1 gi = 12 ∨ opf gB.1 gi = 13) by omega)
                    have y14 := cd9.2.2
                    have r485 : 0 ≤ (V12 0 65).toInt := (hMV12 0 65).1
                    have r486 : (V12 0 60).toInt ≤ 300 := (hMV12 0 60).2
                    have r487 : 0 ≤ (V12 0 93).toInt ∧ (V12 0 93).toInt ≤ 10 := hMV12 0 93
                    have ht488 : TRs gB (mV V 0 gt gu, ga, Fwork glv go gc gsc gme 0 ((gat : Nat) : Int) p4 [] :: gr) (mV V12 sg9 t9 k9, a9, Fask glv go gc gsc ((gi + 1 : Nat) : Int) ((nL gB.1 (2001 + 3 * gi) : Nat) : Int) ((nL gB.1 (2002 + 3 * gi) : Nat) : Int) p4 z477 gp.tail :: gr) := TRs.st ht9 (SF.mk (show gr.length ≤ 394 from by (first | exact om_87fa92eb9f41 hl9 xlp13_3 r18.2 | omega)) (show gp.length + (totP gr) ≤ 2000 from by (first | exact om_6542cae4e4ce hp9 r7.2 b3 nm9.1 | omega)) (show 0 ≤ (V12 0 65).toInt ∧ (V12 0 65).toInt ≤ 300 from by (first | exact om_65732a9e84ef n1 xlp13_6 r19.2 r20.1 | omega)) (fun h9 => by have h8 : sg9 = 2 := h9; omega) (show ∃ q9, OQ gB _ _ _ _ q9 from ⟨_, og7⟩)) ((st_12.trans (or_14 oi9)).trans (by rw [← pz9] <;> rfl))
                    have sg14 : sg9 = 0 ∨ sg9 = 1 := sq9
                    have ht489 : TRs gB (mV V 0 gt gu, ga, Fwork glv go gc gsc gme 0 ((gat : Nat) : Int) p4 [] :: gr) (mV V482 sg9 t9 k9, a9, Fask glv go gc gsc ((gi + 1 : Nat) : Int) ((nL gB.1 (2001 + 3 * gi) : Nat) : Int) ((nL gB.1 (2002 + 3 * gi) : Nat) : Int) p4 z477 gp.tail :: gr) := by rw [mV_ag (show agr [(0, 98)] [] V12 V482 from (agr.tr agr.rf ajV482 (by decide) (by decide))) (by decide)]; exact ht488
                    have fm491 : FRM V V482 (-1) := (FRM.tr xlp13_14 (FRM.ag (show agr [(0, 98)] [] V12 V482 from (agr.tr agr.rf ajV482 (by decide) (by decide))) ⟨⟨rfl, fun _ => rfl, fun _ => rfl, fun _ => rfl, fun _ => rfl, fun _ => rfl, fun _ => rfl⟩, by decide, by decide, rfl, rfl, fun _ => rfl, fun _ => rfl, fun _ => rfl, fun _ => rfl, fun _ => rfl, fun _ => rfl⟩) agV12 ⟨rfl, fun _ => rfl, fun _ => rfl, fun _ => rfl, fun _ => rfl, fun _ => rfl, fun _ => rfl⟩ (by (first | exact om_abdc88b0c8fc xlp13_10 | omega)))
                    have eo490 : (V482 61 (Int32.toNatClampNeg p1)).toInt = (V 61 (Int32.toNatClampNeg p1)).toInt := congrArg Int32.toInt ((fm491).2.1 (Int32.toNatClampNeg p1) (by have h9 := i_clamp (x := p1) rfl (by (first | exact om_eafa9039069c rg_p1.1 | omega)); omega)).1
                    have pq492 : (V482 0 65).toInt = ((V12 0 65)).toInt := congrArg Int32.toInt (ajV482 0 65 rfl)
                    have pq493 : (V482 0 60).toInt = ((V12 0 60)).toInt := congrArg Int32.toInt (ajV482 0 60 rfl)
                    have pq494 : (V482 0 95).toInt = ((V12 0 95)).toInt := congrArg Int32.toInt (ajV482 0 95 rfl)
                    have pq495 : (V482 0 73).toInt = ((V12 0 73)).toInt := congrArg Int32.toInt (ajV482 0 73 rfl)
                    have pq496 : (V482 0 76).toInt = ((V12 0 76)).toInt := congrArg Int32.toInt (ajV482 0 76 rfl)
                    have pq497 : (V482 0 69).toInt = ((V12 0 69)).toInt := congrArg Int32.toInt (ajV482 0 69 rfl)
                    have pq498 : (V482 0 93).toInt = ((V12 0 93)).toInt := congrArg Int32.toInt (ajV482 0 93 rfl)
                    have pq499 : (V482 61 (Int32.toNatClampNeg p1)).toInt = ((V12 61 (Int32.toNatClampNeg p1))).toInt := congrArg Int32.toInt (ajV482 61 (Int32.toNatClampNeg p1) rfl)
                    have r500 : 0 ≤ ((V12 61 (Int32.toNatClampNeg p1))).toInt ∧ ((V12 61 (Int32.toNatClampNeg p1))).toInt ≤ 23 := hMV12 61 (Int32.toNatClampNeg p1)
                    have rt501 : RT V482 := RT.ag xlp13_13 hMV12 (show agr [(0, 98)] [] V12 V482 from (agr.tr agr.rf ajV482 (by decide) (by decide))) ⟨⟨rfl, fun _ => rfl, fun _ => rfl, fun _ => rfl, fun _ => rfl, fun _ => rfl, fun _ => rfl⟩, by decide, by decide, rfl, rfl, fun _ => rfl, fun _ => rfl, fun _ => rfl, fun _ => rfl, fun _ => rfl, fun _ => rfl⟩ (c0k.ag (show agr [(0, 98)] [] V12 V482 from (agr.tr agr.rf ajV482 (by decide) (by decide))) rfl)
                    have rj502 : RJm V482 gB := RJm.ag xlp13_22 (show agr [(0, 98)] [] V12 V482 from (agr.tr agr.rf ajV482 (by decide) (by decide))) (by decide)
                    have fm503 : FRM V V482 (-1) := (FRM.tr xlp13_14 (FRM.ag (show agr [(0, 98)] [] V12 V482 from (agr.tr agr.rf ajV482 (by decide) (by decide))) ⟨⟨rfl, fun _ => rfl, fun _ => rfl, fun _ => rfl, fun _ => rfl, fun _ => rfl, fun _ => rfl⟩, by decide, by decide, rfl, rfl, fun _ => rfl, fun _ => rfl, fun _ => rfl, fun _ => rfl, fun _ => rfl, fun _ => rfl⟩) agV12 ⟨rfl, fun _ => rfl, fun _ => rfl, fun _ => rfl, fun _ => rfl, fun _ => rfl, fun _ => rfl⟩ (by (first | exact om_abdc88b0c8fc xlp13_10 | omega)))
                    have ko := i_clamp (x := p1) rfl (by (first | exact om_eafa9039069c rg_p1.1 | omega))
                    have fm504 : FRM V V482 (-1) := (FRM.tr xlp13_14 (FRM.ag (show agr [(0, 98)] [] V12 V482 from (agr.tr agr.rf ajV482 (by decide) (by decide))) ⟨⟨rfl, fun _ => rfl, fun _ => rfl, fun _ => rfl, fun _ => rfl, fun _ => rfl, fun _ => rfl⟩, by decide, by decide, rfl, rfl, fun _ => rfl, fun _ => rfl, fun _ => rfl, fun _ => rfl, fun _ => rfl, fun _ => rfl⟩) agV12 ⟨rfl, fun _ => rfl, fun _ => rfl, fun _ => rfl, fun _ => rfl, fun _ => rfl, fun _ => rfl⟩ (by (first | exact om_abdc88b0c8fc xlp13_10 | omega)))
                    have cm505 : CMPo V482 gB (Int32.toNatClampNeg p1) := CMPo.fr cm9 bk fm504 (by have h9 := i_clamp (x := p1) rfl (by (first | exact om_eafa9039069c rg_p1.1 | omega)); (first | exact om_6c25244c01f7 oq1 ko | omega)) (RTn rt bk (by have h9 := i_clamp (x := p1) rfl (by (first | exact om_eafa9039069c rg_p1.1 | omega)); omega))
                    refine gA_int (gA_runV (As := [.int p1, .int (V 46 (Int32.toNatClampNeg y11)), .int (V 47 (Int32.toNatClampNeg y11)), .int p3, .int z477]) (rest := []) (ci := 12) (q0 := 0) hx hb hml hown hg hP hD hK hS hA hnw hgk (hk_s_ofNeedD H.size ad kk V482 L p1 (V 46 (Int32.toNatClampNeg y11)) (V 47 (Int32.toNatClampNeg y11)) p3 z477 (gB) (grk) (gr) (a9) (sg9) (t9) (k9) (glv) (go) (gc) (gsc) ((gi + 1)) (((nL gB.1 (2001 + 3 * gi) : Nat) : Int)) (((nL gB.1 (2002 + 3 * gi) : Nat) : Int)) (p4) (gp.tail) hMV482 (by (first | exact om_1e2c46ce8ef5 rg_p1.1 oq1 r2.2 | omega)) (by (first | exact om_15c988ad5bcd ndq hy1.1 hy1.2 r27 | omega)) (by (first | exact om_0916ac166aa8 hy2.1 hy2.2 | omega)) (by (first | exact om_13ba01c174fe rg_p3.1 rg_p3.2 | omega)) rt501 (show (V482 0 65).toInt ≤ (V482 0 60).toInt from by (first | exact om_cebe9a256b98 n1 xlp13_6 pq492 pq493 | omega)) (show (V482 0 95).toInt ≤ (V482 0 65).toInt from by (first | exact om_193d16bbc0e3 n2 xlp13_5 xlp13_10 pq492 pq494 | omega)) (show (V482 0 73).toInt + (V482 0 95).toInt - (V482 0 65).toInt ≤ 999000 from by (first | exact om_ec3a52bb0c7c n3 xlp13_7 pq492 pq494 pq495 | omega)) (show (V482 0 76).toInt - (V482 0 69).toInt - (V482 0 73).toInt ≤ 1000000000 from by (first | exact om_58d388636243 n4 im43 hne pq495 pq496 pq497 | omega)) (show 300 - (V482 0 60).toInt ≤ ((d1 : Nat) : Int) from by (first | exact om_3013ce33764f n5 xlp13_4 pq493 | omega)) (show 10 - (V482 0 93).toInt ≤ ((d2 : Nat) : Int) from by (first | exact om_1ce157d38d46 n6 xlp13_3 pq498 | omega)) (BKm.ag bk (show agr [(0, 60), (0, 65), (0, 68), (0, 69), (0, 73), (0, 76), (0, 90), (0, 91), (0, 92), (0, 93), (0, 95), (0, 96), (0, 98)] [59, 61, 62, 63, 64, 66, 67, 74, 75, 77, 78, 79, 80, 94, 97] V V482 from (agr.tr (agr.tr agr.rf ajV12 (by decide) (by decide)) ajV482 (by decide) (by decide))) (by decide)) br rj502 (show (((gr).length : Nat) : Int) ≤ 28 * (V482 0 93).toInt + 26 from by (first | exact om_89f40265ce09 hl9 xlp13_3 pq498 | omega)) (show ((totP (gr) : Nat) : Int) ≤ 84 * (V482 0 93).toInt + 56 from by (first | exact om_9a79d30d956d hp9 xlp13_3 pq498 | omega)) (show (((gp.tail).length : Nat) : Int) ≤ 27 from by omega) (show (sg9) = 0 ∨ (sg9) = 1 from by omega) (show p1.toInt < (V482 0 60).toInt from by (first | exact om_abb00e6ed28d oq1 xlp13_4 pq493 | omega)) (show (V482 0 98).toInt + 400 * ((d2 : Nat) : Int) ≤ 19000 from by (first | exact om_7ef7400922aa n7 b3 im42 t480 | omega)) (by rw [(nwh_ag agV482 ⟨rfl, fun _ => rfl, fun _ => rfl, fun _ => rfl, fun _ => rfl, fun _ => rfl, fun _ => rfl⟩).1, (fm503.2.1 (Int32.toNatClampNeg p1) (by omega)).1, agV482 27 _ rfl]; omega) (show (V482 0 93).toInt = (glv) from by (first | exact om_a0c405496c73 zl9 xlp13_3 pq498 | omega)) (show p1.toInt = (go) from by (first | exact om_570b691c1130 zo9 | omega)) (show (V482 61 (Int32.toNatClampNeg p1)).toInt = (gc) from by (first | exact om_cd7d0a6a31bc zc9 eo490 | omega)) (show ((V 46 (Int32.toNatClampNeg y11))).toInt = (((nL gB.1 (2001 + 3 * gi) : Nat) : Int)) from by omega) (show ((V 47 (Int32.toNatClampNeg y11))).toInt = (((nL gB.1 (2002 + 3 * gi) : Nat) : Int)) from by omega) (show p3.toInt = (gsc) from by (first | exact om_570b691c1130 zs9 | omega)) cm505) w2308 w2310 w146 w172 w2311 rfl rfl hdV_yX12_ofNeed ⟨(by show (4 * (d1) + 40 * (d2) + 10) + 1 ≤ (4 * d1 + 40 * d2 + 11); (first | exact om_12576e152d6f | omega)), (by show 8 + (10 + 11) + (100 * (d1) + 1000 * (d2) + 380) ≤ (100 * d1 + 1000 * d2 + 410); (first | exact om_53de461519bc | omega))⟩ rfl hl.1 rfl (Nat.le_of_ble_eq_true rfl) dX12_worksAround_150 ⟨Nat.le_of_ble_eq_true rfl, Nat.le_of_ble_eq_true rfl⟩) hP hD hK hS hA (fun z506 u507 H locs w508 hP hD hK hS => ?_)
                    obtain ⟨V524, L525⟩ := u507
                    obtain ⟨hMV524, ajV524, axL525, rgz506, t509, t510, t511, t512, t513, t514, t515, t516, t517, t518, t519, t520, t521, t522, t523⟩ := w508
                    have axL525 : L = L525 := Eq.symm axL525
                    subst axL525
                    have hP : va_P D vwCl (mw ad kk ks.1 V524 L) H := hP
                    have hD : va_D A (mw ad kk ks.1 V524 L) := hD
                    have hMV524 : rgd bM V524 := hMV524
                    have ajV524 : agr [(0, 60), (0, 65), (0, 68), (0, 69), (0, 73), (0, 76), (0, 90), (0, 91), (0, 92), (0, 93), (0, 95), (0, 96), (0, 98)] [59, 61, 62, 63, 64, 66, 67, 74, 75, 77, 78, 79, 80, 94, 97] V482 V524 := ajV524
                    have agV524 : agr [(0, 60), (0, 65), (0, 68), (0, 69), (0, 73), (0, 76), (0, 90), (0, 91), (0, 92), (0, 93), (0, 95), (0, 96), (0, 98)] [59, 61, 62, 63, 64, 66, 67, 74, 75, 77, 78, 79, 80, 94, 97] V V524 := agV482.tr ajV524 (by decide) (by decide)
                    have rgz506 : 0 ≤ z506.toInt ∧ z506.toInt ≤ 2 := rgz506
                    have t509 : (V524 0 93).toInt = (V482 0 93).toInt := t509
                    have t510 : (V524 0 98).toInt = (V482 0 98).toInt := t510
                    have t511 : (V482 0 60).toInt ≤ (V524 0 60).toInt := t511
                    have t512 : (V482 0 65).toInt ≤ (V524 0 65).toInt := t512
                    have t513 : (V524 0 65).toInt - (V482 0 65).toInt ≤ (V524 0 60).toInt - (V482 0 60).toInt := t513
                    have t514 : (V524 0 73).toInt + (V524 0 95).toInt - (V524 0 65).toInt ≤ (V482 0 73).toInt + (V482 0 95).toInt - (V482 0 65).toInt := t514
                    have t515 : (V482 0 73).toInt ≤ (V524 0 73).toInt := t515
                    have t516 : (V482 0 69).toInt ≤ (V524 0 69).toInt := t516
                    have t517 : (V524 0 95).toInt = (V482 0 95).toInt := t517
                    have t518 : (V524 0 76).toInt - (V524 0 69).toInt - (V524 0 73).toInt ≤ (V482 0 76).toInt - (V482 0 69).toInt - (V482 0 73).toInt := t518
                    have t519 : RT V524 := t519
                    have t520 : FRM V482 V524 (-1) := t520
                    have t521 : RJm V524 (gB) := t521
                    have t522 : PLK V482 V524 (V482 0 98).toInt.toNat := t522
                    have t523 : DPo (gB) (mV V482 (sg9) (t9) (k9), (a9), Fask (glv) (go) (gc) (gsc) (((gi + 1)) : Int) (((nL gB.1 (2001 + 3 * gi) : Nat) : Int)) (((nL gB.1 (2002 + 3 * gi) : Nat) : Int)) (p4) z477 (gp.tail) :: (gr)) V524 (Fwork (glv) (go) (gc) (gsc) 0 0 (((gi + 1)) : Int) (p4) ((V524 0 96) :: (gp.tail)) :: (gr)) (gr) z506.toInt (24 * (10 - (V482 0 93).toInt)) := t523
                    have r526 : 0 ≤ ((V524 0 93)).toInt ∧ ((V524 0 93)).toInt ≤ 10 := hMV524 0 93
                    have r527 : 0 ≤ ((V524 0 98)).toInt ∧ ((V524 0 98)).toInt ≤ 20000 := hMV524 0 98
                    have r528 : 0 ≤ ((V524 0 60)).toInt ∧ ((V524 0 60)).toInt ≤ 300 := hMV524 0 60
                    have r529 : 0 ≤ ((V524 0 65)).toInt ∧ ((V524 0 65)).toInt ≤ 1000000 := hMV524 0 65
                    have r530 : 0 ≤ ((V524 0 73)).toInt ∧ ((V524 0 73)).toInt ≤ 1000000 := hMV524 0 73
                    have r531 : 0 ≤ ((V524 0 95)).toInt ∧ ((V524 0 95)).toInt ≤ 300 := hMV524 0 95
                    have r532 : 0 ≤ ((V524 0 69)).toInt ∧ ((V524 0 69)).toInt ≤ 3000 := hMV524 0 69
                    have r533 : 0 ≤ ((V524 0 76)).toInt ∧ ((V524 0 76)).toInt ≤ 2000000000 := hMV524 0 76
                    refine lv_istore (lv' := [(9, .int z506), (8, .int z467), (12, .int (V 47 (Int32.toNatClampNeg y11))), (11, .int (V 46 (Int32.toNatClampNeg y11))), (10, .int (V 45 (Int32.toNatClampNeg y11))), (7, .int (V 0 98)), (0, .ref (ad 0)), (1, .int p0), (2, .int p1), (3, .int p2), (4, .int p3), (5, .int p4), (6, .int p5)]) hx hb dX12_worksAround_153 hl (by decide) rfl (fun ls hl => ?_)
                    have dp534 := t523
                    rcases (show z506.toInt = 0 ∨ z506.toInt = 1 ∨ z506.toInt = 2 from by (first | exact om_e837ad917e1d rgz506.1 rgz506.2 | omega)) with q535 | q535 | q535
                    · skip
                      obtain ⟨ma537, mt538, mk539, ht536⟩ := dp534.e0 q535
                      have ht540 : TRs gB (mV V 0 gt gu, ga, Fwork glv go gc gsc gme 0 ((gat : Nat) : Int) p4 [] :: gr) (mV V524 1 mt538 mk539, ma537, Fwork glv go gc gsc 0 0 ((gi + 1 : Nat) : Int) p4 ((V524 0 96) :: gp.tail) :: gr) := TRs.tr ht489 ht536
                      have on541 : ∃ q9, OQ gB (ndW gB gc 0) (decide ((0 : Int) < 0)) (gi + 1) ((V524 0 96) :: gp.tail).length q9 := by rw [show ((V524 0 96) :: gp.tail).length = t5 + 1 from by have h9 : ((V524 0 96) :: gp.tail).length = gp.tail.length + 1 := rfl; omega]; exact h5q
                      have ln542 : ((V524 0 96) :: gp.tail).length = gp.tail.length + 1 := rfl
                      refine lv_aload_n hx hb dX12_worksAround_155 rfl (lv_at hl 6 rfl) ?_
                      refine lv_aload_n hx hb dX12_worksAround_156 rfl (lv_at hl 6 rfl) ?_
                      refine va_get (D := D) (ci := 12) (v := .int (V524 0 96)) (C := RX12) (T := TX12) (N := 100) hx hb hg inX12 hown hK hP 0 rfl rfl 96 (by decide) (hg _ w1802) (fun _ h9 => h9) rfl dX12_worksAround_157 ?_
                      refine gA_void (gA_runV (As := [.int (V524 0 96)]) (rest := []) (ci := 12) (q0 := 0) hx hb hml hown hg hP hD hK hS hA hnw hgk (s_push3 l D ks H.size ad kk V524 L (V524 0 96) hMV524 (show (V524 0 98).toInt ≤ 19999 from by (first | exact om_293598158784 r14.2 t480 t510 | omega))) w2304 w2306 w145 w172 w2307 rfl rfl hdV_yX12_push ⟨(by show (0) + 1 ≤ (4 * d1 + 40 * d2 + 11); (first | exact om_212987aed262 n5 n6 r2.2 xlp13_3 r18.2 | omega)), (by show 8 + (2 + 11) + (0) ≤ (100 * d1 + 1000 * d2 + 410); (first | exact om_bfad6eb971f3 n5 n6 r2.2 xlp13_3 r18.2 | omega))⟩ rfl hl.1 rfl (Nat.le_of_ble_eq_true rfl) dX12_worksAround_160 ⟨Nat.le_of_ble_eq_true rfl, Nat.le_of_ble_eq_true rfl⟩) hP hD hK hS hA (fun u544 H locs w545 hP hD hK hS => ?_)
                      obtain ⟨V548, L549⟩ := u544
                      obtain ⟨hMV548, ajV548, axL549, t546, t547⟩ := w545
                      have axL549 : L = L549 := Eq.symm axL549
                      subst axL549
                      have hP : va_P D vwCl (mw ad kk ks.1 V548 L) H := hP
                      have hD : va_D A (mw ad kk ks.1 V548 L) := hD
                      have hMV548 : rgd bM V548 := hMV548
                      have ajV548 : agr [(0, 98)] [97] V524 V548 := ajV548
                      have agV548 : agr [(0, 60), (0, 65), (0, 68), (0, 69), (0, 73), (0, 76), (0, 90), (0, 91), (0, 92), (0, 93), (0, 95), (0, 96), (0, 98)] [59, 61, 62, 63, 64, 66, 67, 74, 75, 77, 78, 79, 80, 94, 97] V V548 := agV524.tr ajV548 (by decide) (by decide)
                      have t546 : (V548 0 98).toInt = (V524 0 98).toInt + 1 := t546
                      have t547 : V548 97 (Int32.toNatClampNeg (V524 0 98)) = (V524 0 96) ∧ ∀ j9, j9 ≠ Int32.toNatClampNeg (V524 0 98) → V548 97 j9 = V524 97 j9 := t547
                      have r550 : 0 ≤ ((V548 0 98)).toInt ∧ ((V548 0 98)).toInt ≤ 20000 := hMV548 0 98
                      refine lv_goto (tgt := 191) hx hb dX12_worksAround_163 (by decide) ?_
                      have lw9 : (((V524 0 96) :: gp.tail)).length = gp.length := tl4
                      have pl552 : plR V548 (V548 0 98).toInt.toNat (((V524 0 96) :: gp.tail)) := by rw [show (V548 0 98).toInt.toNat = t4 + 1 from by omega]; exact plR.pu hd4.2 (by rw [show t4 = Int32.toNatClampNeg (V524 0 98) from by have h8 := i_clamp (x := V524 0 98) rfl (by (first | exact om_ac0b685ca4ca r484.1 t510 | omega)); omega]; exact t547.1) (fun j9 hj9 => (t547.2 j9 (by have h8 := i_clamp (x := V524 0 98) rfl (by (first | exact om_ac0b685ca4ca r484.1 t510 | omega)); omega)).trans ((t522 j9 (by omega)).trans ((show agr [(0, 98)] [] V12 V482 from (agr.tr agr.rf ajV482 (by decide) (by decide))) 97 j9 rfl)))
                      refine lv_goto (tgt := 12) hx hb dX12_worksAround_191 (by decide) ?_
                      have pq553 : (V548 0 73).toInt = ((V524 0 73)).toInt := congrArg Int32.toInt (ajV548 0 73 rfl)
                      have pq554 : (V548 0 76).toInt = ((V524 0 76)).toInt := congrArg Int32.toInt (ajV548 0 76 rfl)
                      have pq555 : (V548 0 69).toInt = ((V524 0 69)).toInt := congrArg Int32.toInt (ajV548 0 69 rfl)
                      have pq556 : (V548 0 93).toInt = ((V524 0 93)).toInt := congrArg Int32.toInt (ajV548 0 93 rfl)
                      have pq557 : (V548 0 60).toInt = ((V524 0 60)).toInt := congrArg Int32.toInt (ajV548 0 60 rfl)
                      have pq558 : (V548 0 65).toInt = ((V524 0 65)).toInt := congrArg Int32.toInt (ajV548 0 65 rfl)
                      have pq559 : (V548 0 95).toInt = ((V524 0 95)).toInt := congrArg Int32.toInt (ajV548 0 95 rfl)
                      have rt560 : RT V548 := RT.ag t519 hMV524 (show agr [(0, 98)] [97] V524 V548 from (agr.tr agr.rf ajV548 (by decide) (by decide))) ⟨⟨rfl, fun _ => rfl, fun _ => rfl, fun _ => rfl, fun _ => rfl, fun _ => rfl, fun _ => rfl⟩, by decide, by decide, rfl, rfl, fun _ => rfl, fun _ => rfl, fun _ => rfl, fun _ => rfl, fun _ => rfl, fun _ => rfl⟩ (c0k.ag (show agr [(0, 98)] [97] V524 V548 from (agr.tr agr.rf ajV548 (by decide) (by decide))) rfl)
                      have fm561 : FRM V V482 (-1) := (FRM.tr xlp13_14 (FRM.ag (show agr [(0, 98)] [] V12 V482 from (agr.tr agr.rf ajV482 (by decide) (by decide))) ⟨⟨rfl, fun _ => rfl, fun _ => rfl, fun _ => rfl, fun _ => rfl, fun _ => rfl, fun _ => rfl⟩, by decide, by decide, rfl, rfl, fun _ => rfl, fun _ => rfl, fun _ => rfl, fun _ => rfl, fun _ => rfl, fun _ => rfl⟩) agV12 ⟨rfl, fun _ => rfl, fun _ => rfl, fun _ => rfl, fun _ => rfl, fun _ => rfl, fun _ => rfl⟩ (by (first | exact om_abdc88b0c8fc xlp13_10 | omega)))
                      have fm562 : FRM V V524 (-1) := (FRM.tr fm561 t520 agV482 ⟨rfl, fun _ => rfl, fun _ => rfl, fun _ => rfl, fun _ => rfl, fun _ => rfl, fun _ => rfl⟩ (by (first | exact om_4052a1005a1f xlp13_10 pq494 | omega)))
                      have fm563 : FRM V V548 (-1) := (FRM.tr fm562 (FRM.ag (show agr [(0, 98)] [97] V524 V548 from (agr.tr agr.rf ajV548 (by decide) (by decide))) ⟨⟨rfl, fun _ => rfl, fun _ => rfl, fun _ => rfl, fun _ => rfl, fun _ => rfl, fun _ => rfl⟩, by decide, by decide, rfl, rfl, fun _ => rfl, fun _ => rfl, fun _ => rfl, fun _ => rfl, fun _ => rfl, fun _ => rfl⟩) agV524 ⟨rfl, fun _ => rfl, fun _ => rfl, fun _ => rfl, fun _ => rfl, fun _ => rfl, fun _ => rfl⟩ (by (first | exact om_461d7471bbe5 xlp13_10 pq494 t517 | omega)))
                      have ht564 : TRs gB (mV V 0 gt gu, ga, Fwork glv go gc gsc gme 0 ((gat : Nat) : Int) p4 [] :: gr) (mV V548 1 mt538 mk539, ma537, Fwork glv go gc gsc 0 0 ((gi + 1 : Nat) : Int) p4 ((V524 0 96) :: gp.tail) :: gr) := by rw [mV_ag (show agr [(0, 98)] [97] V524 V548 from (agr.tr agr.rf ajV548 (by decide) (by decide))) (by decide)]; exact ht540
                      have pk565 : PLK V V482 (V 0 98).toInt.toNat := (PLK.tr xlp13_21 (PLK.ag (t := (V 0 98).toInt.toNat) (show agr [(0, 98)] [] V12 V482 from (agr.tr agr.rf ajV482 (by decide) (by decide))) (fun _ => rfl)) (Nat.le_refl _))
                      have pk566 : PLK V V524 (V 0 98).toInt.toNat := (PLK.tr pk565 t522 (by (first | exact om_c2440d147f71 r8.1 nm9.1 im42 t480 ln542 lw9 | omega)))
                      have kt568 := i_clamp (x := V524 0 98) rfl (by (first | exact om_ac0b685ca4ca r484.1 t510 | omega))
                      have pk567 : PLK V V548 (V 0 98).toInt.toNat := PLK.tr pk566 (t2 := (V 0 98).toInt.toNat) (fun j9 hj9 => t547.2 j9 (by omega)) (Nat.le_refl _)
                      have rj569 : RJm V548 gB := RJm.ag t521 (show agr [(0, 98)] [97] V524 V548 from (agr.tr agr.rf ajV548 (by decide) (by decide))) (by decide)
                      exact ihlp13 (f) (gk) ((gi + 1)) (((V524 0 96) :: gp.tail)) (0) z506 z467 V548 H locs ls (by (first | exact om_8c285ac91b81 rgz506.1 rgz506.2 | omega)) (show 0 ≤ z467.toInt from by (first | exact om_d256ebc631d1 kpc kg9 hz467 | omega)) (Imp.mk (fun hp => have hp : z506.toInt = 0 := hp; (show (V548 0 98).toInt = (V 0 98).toInt + ((gk : Nat) : Int) from by (first | exact om_99cf4b14b592 t480 t510 t546 ((Imp.go xlp13_1 (f41))) | omega)))) (Imp.mk (fun hp => have hp : z506.toInt ≠ 2 := hp; (show (V548 0 76).toInt - (V548 0 69).toInt - (V548 0 73).toInt + 1 ≤ (V 0 76).toInt - (V 0 69).toInt - (V 0 73).toInt ∨ (z467.toInt = p0.toInt ∧ (V548 0 76).toInt - (V548 0 69).toInt - (V548 0 73).toInt ≤ (V 0 76).toInt - (V 0 69).toInt - (V 0 73).toInt ∧ z506.toInt = 0) from by (first | exact om_026db3ef5215 im43 hne pq495 pq496 pq497 t518 pq553 pq554 pq555 | omega)))) (show (V548 0 93).toInt = (V 0 93).toInt from by (first | exact om_354a89fdc05f xlp13_3 pq498 t509 pq556 | omega)) (show (V 0 60).toInt ≤ (V548 0 60).toInt from by (first | exact om_52ef46a1518b xlp13_4 pq493 t511 pq557 | omega)) (show (V 0 65).toInt ≤ (V548 0 65).toInt from by (first | exact om_52ef46a1518b xlp13_5 pq492 t512 pq558 | omega)) (show (V548 0 65).toInt - (V 0 65).toInt ≤ (V548 0 60).toInt - (V 0 60).toInt from by (first | exact om_444d8ab82b70 xlp13_6 pq492 pq493 t513 pq557 pq558 | omega)) (show (V548 0 73).toInt + (V548 0 95).toInt - (V548 0 65).toInt ≤ (V 0 73).toInt + (V 0 95).toInt - (V 0 65).toInt from by (first | exact om_f23a71d1bd94 xlp13_7 pq492 pq494 pq495 t514 pq553 pq558 pq559 | omega)) (show (V 0 73).toInt ≤ (V548 0 73).toInt from by (first | exact om_52ef46a1518b xlp13_8 pq495 t515 pq553 | omega)) (show (V 0 69).toInt ≤ (V548 0 69).toInt from by (first | exact om_52ef46a1518b xlp13_9 pq497 t516 pq555 | omega)) (show (V548 0 95).toInt = (V 0 95).toInt from by (first | exact om_354a89fdc05f xlp13_10 pq494 t517 pq559 | omega)) (show (V548 0 76).toInt - (V548 0 69).toInt - (V548 0 73).toInt ≤ (V 0 76).toInt - (V 0 69).toInt - (V 0 73).toInt from by (first | exact om_c2f102b001fa xlp13_11 pq495 pq496 pq497 t518 pq553 pq554 pq555 | omega)) (show 0 ≤ z506.toInt ∧ z506.toInt ≤ 2 from by (first | exact om_8c285ac91b81 rgz506.1 rgz506.2 | omega)) rt560 fm563 (Imp.mk (fun _ => by have e8 : Int32.toNatClampNeg z467 = Int32.toNatClampNeg y11 + 1 := (by have h9 := i_clamp (x := z467) rfl (by (first | exact om_d256ebc631d1 kpc kg9 hz467 | omega)); omega); rw [e8]; exact hw)) (Imp.mk (fun _ => ⟨1, mt538, mk539, ma537, Or.inr rfl, ht564⟩)) (Imp.mk (fun _ => on541)) (Imp.mk (fun _ => pl552)) (Imp.mk (fun hp => have hp : z506.toInt = 0 := hp; (show ((((V524 0 96) :: gp.tail).length : Nat) : Int) = ((gk : Nat) : Int) ∧ z467.toInt = ((10000 * nwh V + (gi + 1) : Nat) : Int) from by (first | exact om_afbadf09b73c hz467 lw9 ((Imp.go xlp13_19 (f41)).1) ((Imp.go xlp13_19 (f41)).2) | omega)))) (Imp.mk (fun hp => by exfalso; (first | exact om_fb320d7600b7 rgz506.1 q535 hp | omega))) pk567 rj569 (by (first | exact om_bd2466411592 hn | omega)) (agr.tr (agr.tr (agr.tr (agr.tr agr.rf ajV12 (by decide) (by decide)) ajV482 (by decide) (by decide)) ajV524 (by decide) (by decide)) ajV548 (by decide) (by decide)) hMV548 hP hD hS (lv_sub hl [0, 1, 5, 6, 7, 8, 9, 10, 11, 12] rfl)
                    · skip
                      obtain ⟨bd574, ma571, ht570⟩ := dp534.e1 q535
                      have ht575 : TRs gB (mV V 0 gt gu, ga, Fwork glv go gc gsc gme 0 ((gat : Nat) : Int) p4 [] :: gr) (mV V524 2 (V524 0 90).toInt (V524 0 91).toInt, ma571, gr) := TRs.tr ht489 ht570
                      refine lv_aload_n hx hb dX12_worksAround_155 rfl (lv_at hl 6 rfl) ?_
                      refine lv_aload_n hx hb dX12_worksAround_156 rfl (lv_at hl 6 rfl) ?_
                      refine va_get (D := D) (ci := 12) (v := .int (V524 0 96)) (C := RX12) (T := TX12) (N := 100) hx hb hg inX12 hown hK hP 0 rfl rfl 96 (by decide) (hg _ w1802) (fun _ h9 => h9) rfl dX12_worksAround_157 ?_
                      refine gA_void (gA_runV (As := [.int (V524 0 96)]) (rest := []) (ci := 12) (q0 := 0) hx hb hml hown hg hP hD hK hS hA hnw hgk (s_push3 l D ks H.size ad kk V524 L (V524 0 96) hMV524 (show (V524 0 98).toInt ≤ 19999 from by (first | exact om_293598158784 r14.2 t480 t510 | omega))) w2304 w2306 w145 w172 w2307 rfl rfl hdV_yX12_push ⟨(by show (0) + 1 ≤ (4 * d1 + 40 * d2 + 11); (first | exact om_212987aed262 n5 n6 r2.2 xlp13_3 r18.2 | omega)), (by show 8 + (2 + 11) + (0) ≤ (100 * d1 + 1000 * d2 + 410); (first | exact om_bfad6eb971f3 n5 n6 r2.2 xlp13_3 r18.2 | omega))⟩ rfl hl.1 rfl (Nat.le_of_ble_eq_true rfl) dX12_worksAround_160 ⟨Nat.le_of_ble_eq_true rfl, Nat.le_of_ble_eq_true rfl⟩) hP hD hK hS hA (fun u577 H locs w578 hP hD hK hS => ?_)
                      obtain ⟨V581, L582⟩ := u577
                      obtain ⟨hMV581, ajV581, axL582, t579, t580⟩ := w578
                      have axL582 : L = L582 := Eq.symm axL582
                      subst axL582
                      have hP : va_P D vwCl (mw ad kk ks.1 V581 L) H := hP
                      have hD : va_D A (mw ad kk ks.1 V581 L) := hD
                      have hMV581 : rgd bM V581 := hMV581
                      have ajV581 : agr [(0, 98)] [97] V524 V581 := ajV581
                      have agV581 : agr [(0, 60), (0, 65), (0, 68), (0, 69), (0, 73), (0, 76), (0, 90), (0, 91), (0, 92), (0, 93), (0, 95), (0, 96), (0, 98)] [59, 61, 62, 63, 64, 66, 67, 74, 75, 77, 78, 79, 80, 94, 97] V V581 := agV524.tr ajV581 (by decide) (by decide)
                      have t579 : (V581 0 98).toInt = (V524 0 98).toInt + 1 := t579
                      have t580 : V581 97 (Int32.toNatClampNeg (V524 0 98)) = (V524 0 96) ∧ ∀ j9, j9 ≠ Int32.toNatClampNeg (V524 0 98) → V581 97 j9 = V524 97 j9 := t580
                      have r583 : 0 ≤ ((V581 0 98)).toInt ∧ ((V581 0 98)).toInt ≤ 20000 := hMV581 0 98
                      refine lv_goto (tgt := 191) hx hb dX12_worksAround_163 (by decide) ?_
                      refine lv_goto (tgt := 12) hx hb dX12_worksAround_191 (by decide) ?_
                      have pq584 : (V581 0 73).toInt = ((V524 0 73)).toInt := congrArg Int32.toInt (ajV581 0 73 rfl)
                      have pq585 : (V581 0 76).toInt = ((V524 0 76)).toInt := congrArg Int32.toInt (ajV581 0 76 rfl)
                      have pq586 : (V581 0 69).toInt = ((V524 0 69)).toInt := congrArg Int32.toInt (ajV581 0 69 rfl)
                      have pq587 : (V581 0 93).toInt = ((V524 0 93)).toInt := congrArg Int32.toInt (ajV581 0 93 rfl)
                      have pq588 : (V581 0 60).toInt = ((V524 0 60)).toInt := congrArg Int32.toInt (ajV581 0 60 rfl)
                      have pq589 : (V581 0 65).toInt = ((V524 0 65)).toInt := congrArg Int32.toInt (ajV581 0 65 rfl)
                      have pq590 : (V581 0 95).toInt = ((V524 0 95)).toInt := congrArg Int32.toInt (ajV581 0 95 rfl)
                      have rt591 : RT V581 := RT.ag t519 hMV524 (show agr [(0, 98)] [97] V524 V581 from (agr.tr agr.rf ajV581 (by decide) (by decide))) ⟨⟨rfl, fun _ => rfl, fun _ => rfl, fun _ => rfl, fun _ => rfl, fun _ => rfl, fun _ => rfl⟩, by decide, by decide, rfl, rfl, fun _ => rfl, fun _ => rfl, fun _ => rfl, fun _ => rfl, fun _ => rfl, fun _ => rfl⟩ (c0k.ag (show agr [(0, 98)] [97] V524 V581 from (agr.tr agr.rf ajV581 (by decide) (by decide))) rfl)
                      have fm592 : FRM V V482 (-1) := (FRM.tr xlp13_14 (FRM.ag (show agr [(0, 98)] [] V12 V482 from (agr.tr agr.rf ajV482 (by decide) (by decide))) ⟨⟨rfl, fun _ => rfl, fun _ => rfl, fun _ => rfl, fun _ => rfl, fun _ => rfl, fun _ => rfl⟩, by decide, by decide, rfl, rfl, fun _ => rfl, fun _ => rfl, fun _ => rfl, fun _ => rfl, fun _ => rfl, fun _ => rfl⟩) agV12 ⟨rfl, fun _ => rfl, fun _ => rfl, fun _ => rfl, fun _ => rfl, fun _ => rfl, fun _ => rfl⟩ (by (first | exact om_abdc88b0c8fc xlp13_10 | omega)))
                      have fm593 : FRM V V524 (-1) := (FRM.tr fm592 t520 agV482 ⟨rfl, fun _ => rfl, fun _ => rfl, fun _ => rfl, fun _ => rfl, fun _ => rfl, fun _ => rfl⟩ (by (first | exact om_4052a1005a1f xlp13_10 pq494 | omega)))
                      have fm594 : FRM V V581 (-1) := (FRM.tr fm593 (FRM.ag (show agr [(0, 98)] [97] V524 V581 from (agr.tr agr.rf ajV581 (by decide) (by decide))) ⟨⟨rfl, fun _ => rfl, fun _ => rfl, fun _ => rfl, fun _ => rfl, fun _ => rfl, fun _ => rfl⟩, by decide, by decide, rfl, rfl, fun _ => rfl, fun _ => rfl, fun _ => rfl, fun _ => rfl, fun _ => rfl, fun _ => rfl⟩) agV524 ⟨rfl, fun _ => rfl, fun _ => rfl, fun _ => rfl, fun _ => rfl, fun _ => rfl, fun _ => rfl⟩ (by (first | exact om_461d7471bbe5 xlp13_10 pq494 t517 | omega)))
                      have ht595 : TRs gB (mV V 0 gt gu, ga, Fwork glv go gc gsc gme 0 ((gat : Nat) : Int) p4 [] :: gr) (mV V581 2 (V524 0 90).toInt (V524 0 91).toInt, ma571, gr) := by rw [mV_ag (show agr [(0, 98)] [97] V524 V581 from (agr.tr agr.rf ajV581 (by decide) (by decide))) (by decide)]; exact ht575
                      have pq596 : (V581 0 90).toInt = ((V524 0 90)).toInt := congrArg Int32.toInt (ajV581 0 90 rfl)
                      have pq597 : (V581 0 91).toInt = ((V524 0 91)).toInt := congrArg Int32.toInt (ajV581 0 91 rfl)
                      have pk598 : PLK V V482 (V 0 98).toInt.toNat := (PLK.tr xlp13_21 (PLK.ag (t := (V 0 98).toInt.toNat) (show agr [(0, 98)] [] V12 V482 from (agr.tr agr.rf ajV482 (by decide) (by decide))) (fun _ => rfl)) (Nat.le_refl _))
                      have pk599 : PLK V V524 (V 0 98).toInt.toNat := (PLK.tr pk598 t522 (by (first | exact om_5857f307f9f4 r8.1 nm9.1 im42 t480 tl4 | omega)))
                      have kt601 := i_clamp (x := V524 0 98) rfl (by (first | exact om_eafa9039069c r527.1 | omega))
                      have pk600 : PLK V V581 (V 0 98).toInt.toNat := PLK.tr pk599 (t2 := (V 0 98).toInt.toNat) (fun j9 hj9 => t580.2 j9 (by omega)) (Nat.le_refl _)
                      have rj602 : RJm V581 gB := RJm.ag t521 (show agr [(0, 98)] [97] V524 V581 from (agr.tr agr.rf ajV581 (by decide) (by decide))) (by decide)
                      exact ihlp13 (f) (gk) (gi) (gp) (gm9) z506 z467 V581 H locs ls (by (first | exact om_8c285ac91b81 rgz506.1 rgz506.2 | omega)) (show 0 ≤ z467.toInt from by (first | exact om_d256ebc631d1 kpc kg9 hz467 | omega)) (Imp.mk (fun hp => have hp : z506.toInt = 0 := hp; (show (V581 0 98).toInt = (V 0 98).toInt + ((gk : Nat) : Int) from by (first | exact om_99cf4b14b592 t480 t510 t579 ((Imp.go xlp13_1 (f41))) | omega)))) (Imp.mk (fun hp => have hp : z506.toInt ≠ 2 := hp; (show (V581 0 76).toInt - (V581 0 69).toInt - (V581 0 73).toInt + 1 ≤ (V 0 76).toInt - (V 0 69).toInt - (V 0 73).toInt ∨ (z467.toInt = p0.toInt ∧ (V581 0 76).toInt - (V581 0 69).toInt - (V581 0 73).toInt ≤ (V 0 76).toInt - (V 0 69).toInt - (V 0 73).toInt ∧ z506.toInt = 0) from by (first | exact om_026db3ef5215 im43 hne pq495 pq496 pq497 t518 pq584 pq585 pq586 | omega)))) (show (V581 0 93).toInt = (V 0 93).toInt from by (first | exact om_354a89fdc05f xlp13_3 pq498 t509 pq587 | omega)) (show (V 0 60).toInt ≤ (V581 0 60).toInt from by (first | exact om_52ef46a1518b xlp13_4 pq493 t511 pq588 | omega)) (show (V 0 65).toInt ≤ (V581 0 65).toInt from by (first | exact om_52ef46a1518b xlp13_5 pq492 t512 pq589 | omega)) (show (V581 0 65).toInt - (V 0 65).toInt ≤ (V581 0 60).toInt - (V 0 60).toInt from by (first | exact om_444d8ab82b70 xlp13_6 pq492 pq493 t513 pq588 pq589 | omega)) (show (V581 0 73).toInt + (V581 0 95).toInt - (V581 0 65).toInt ≤ (V 0 73).toInt + (V 0 95).toInt - (V 0 65).toInt from by (first | exact om_f23a71d1bd94 xlp13_7 pq492 pq494 pq495 t514 pq584 pq589 pq590 | omega)) (show (V 0 73).toInt ≤ (V581 0 73).toInt from by (first | exact om_52ef46a1518b xlp13_8 pq495 t515 pq584 | omega)) (show (V 0 69).toInt ≤ (V581 0 69).toInt from by (first | exact om_52ef46a1518b xlp13_9 pq497 t516 pq586 | omega)) (show (V581 0 95).toInt = (V 0 95).toInt from by (first | exact om_354a89fdc05f xlp13_10 pq494 t517 pq590 | omega)) (show (V581 0 76).toInt - (V581 0 69).toInt - (V581 0 73).toInt ≤ (V 0 76).toInt - (V 0 69).toInt - (V 0 73).toInt from by (first | exact om_c2f102b001fa xlp13_11 pq495 pq496 pq497 t518 pq584 pq585 pq586 | omega)) (show 0 ≤ z506.toInt ∧ z506.toInt ≤ 2 from by (first | exact om_8c285ac91b81 rgz506.1 rgz506.2 | omega)) rt591 fm594 (Imp.mk (fun _ => by have e8 : Int32.toNatClampNeg z467 = Int32.toNatClampNeg y11 + 1 := (by have h9 := i_clamp (x := z467) rfl (by (first | exact om_d256ebc631d1 kpc kg9 hz467 | omega)); omega); rw [e8]; exact hw)) (Imp.mk (fun hp => by exfalso; (first | exact om_495ee03a60ae q535 hp | omega))) (Imp.mk (fun hp => by exfalso; (first | exact om_495ee03a60ae q535 hp | omega))) (Imp.mk (fun hp => by exfalso; (first | exact om_495ee03a60ae q535 hp | omega))) (Imp.mk (fun hp => have hp : z506.toInt = 0 := hp; (show ((gp.length : Nat) : Int) = ((gk : Nat) : Int) ∧ z467.toInt = ((10000 * nwh V + gi : Nat) : Int) from by omega))) (Imp.mk (fun _ => (DPc.m1 ht595 (by omega) (by (first | exact om_9f5cc07a6e35 pq596 | omega)) (by (first | exact om_9f5cc07a6e35 pq597 | omega)) (by omega) (by omega) : DPc gB (mV V 0 gt gu, ga, Fwork glv go gc gsc gme 0 ((gat : Nat) : Int) p4 [] :: gr) V581 gr (z506.toInt) 0 (24 * (10 - (V 0 93).toInt))))) pk600 rj602 (by (first | exact om_bd2466411592 hn | omega)) (agr.tr (agr.tr (agr.tr (agr.tr agr.rf ajV12 (by decide) (by decide)) ajV482 (by decide) (by decide)) ajV524 (by decide) (by decide)) ajV581 (by decide) (by decide)) hMV581 hP hD hS (lv_sub hl [0, 1, 5, 6, 7, 8, 9, 10, 11, 12] rfl)
                    · skip
                      obtain ⟨ma604, mt605, mk606, ht603⟩ := dp534.e2 q535
                      have ht607 : TRs gB (mV V 0 gt gu, ga, Fwork glv go gc gsc gme 0 ((gat : Nat) : Int) p4 [] :: gr) (mV V524 3 mt605 mk606, ma604, gr) := TRs.tr ht489 ht603
                      refine lv_aload_n hx hb dX12_worksAround_155 rfl (lv_at hl 6 rfl) ?_
                      refine lv_aload_n hx hb dX12_worksAround_156 rfl (lv_at hl 6 rfl) ?_
                      refine va_get (D := D) (ci := 12) (v := .int (V524 0 96)) (C := RX12) (T := TX12) (N := 100) hx hb hg inX12 hown hK hP 0 rfl rfl 96 (by decide) (hg _ w1802) (fun _ h9 => h9) rfl dX12_worksAround_157 ?_
                      refine gA_void (gA_runV (As := [.int (V524 0 96)]) (rest := []) (ci := 12) (q0 := 0) hx hb hml hown hg hP hD hK hS hA hnw hgk (s_push3 l D ks H.size ad kk V524 L (V524 0 96) hMV524 (show (V524 0 98).toInt ≤ 19999 from by (first | exact om_293598158784 r14.2 t480 t510 | omega))) w2304 w2306 w145 w172 w2307 rfl rfl hdV_yX12_push ⟨(by show (0) + 1 ≤ (4 * d1 + 40 * d2 + 11); (first | exact om_212987aed262 n5 n6 r2.2 xlp13_3 r18.2 | omega)), (by show 8 + (2 + 11) + (0) ≤ (100 * d1 + 1000 * d2 + 410); (first | exact om_bfad6eb971f3 n5 n6 r2.2 xlp13_3 r18.2 | omega))⟩ rfl hl.1 rfl (Nat.le_of_ble_eq_true rfl) dX12_worksAround_160 ⟨Nat.le_of_ble_eq_true rfl, Nat.le_of_ble_eq_true rfl⟩) hP hD hK hS hA (fun u609 H locs w610 hP hD hK hS => ?_)
                      obtain ⟨V613, L614⟩ := u609
                      obtain ⟨hMV613, ajV613, axL614, t611, t612⟩ := w610
                      have axL614 : L = L614 := Eq.symm axL614
                      subst axL614
                      have hP : va_P D vwCl (mw ad kk ks.1 V613 L) H := hP
                      have hD : va_D A (mw ad kk ks.1 V613 L) := hD
                      have hMV613 : rgd bM V613 := hMV613
                      have ajV613 : agr [(0, 98)] [97] V524 V613 := ajV613
                      have agV613 : agr [(0, 60), (0, 65), (0, 68), (0, 69), (0, 73), (0, 76), (0, 90), (0, 91), (0, 92), (0, 93), (0, 95), (0, 96), (0, 98)] [59, 61, 62, 63, 64, 66, 67, 74, 75, 77, 78, 79, 80, 94, 97] V V613 := agV524.tr ajV613 (by decide) (by decide)
                      have t611 : (V613 0 98).toInt = (V524 0 98).toInt + 1 := t611
                      have t612 : V613 97 (Int32.toNatClampNeg (V524 0 98)) = (V524 0 96) ∧ ∀ j9, j9 ≠ Int32.toNatClampNeg (V524 0 98) → V613 97 j9 = V524 97 j9 := t612
                      have r615 : 0 ≤ ((V613 0 98)).toInt ∧ ((V613 0 98)).toInt ≤ 20000 := hMV613 0 98
                      refine lv_goto (tgt := 191) hx hb dX12_worksAround_163 (by decide) ?_
                      refine lv_goto (tgt := 12) hx hb dX12_worksAround_191 (by decide) ?_
                      have pq616 : (V613 0 73).toInt = ((V524 0 73)).toInt := congrArg Int32.toInt (ajV613 0 73 rfl)
                      have pq617 : (V613 0 76).toInt = ((V524 0 76)).toInt := congrArg Int32.toInt (ajV613 0 76 rfl)
                      have pq618 : (V613 0 69).toInt = ((V524 0 69)).toInt := congrArg Int32.toInt (ajV613 0 69 rfl)
                      have pq619 : (V613 0 93).toInt = ((V524 0 93)).toInt := congrArg Int32.toInt (ajV613 0 93 rfl)
                      have pq620 : (V613 0 60).toInt = ((V524 0 60)).toInt := congrArg Int32.toInt (ajV613 0 60 rfl)
                      have pq621 : (V613 0 65).toInt = ((V524 0 65)).toInt := congrArg Int32.toInt (ajV613 0 65 rfl)
                      have pq622 : (V613 0 95).toInt = ((V524 0 95)).toInt := congrArg Int32.toInt (ajV613 0 95 rfl)
                      have rt623 : RT V613 := RT.ag t519 hMV524 (show agr [(0, 98)] [97] V524 V613 from (agr.tr agr.rf ajV613 (by decide) (by decide))) ⟨⟨rfl, fun _ => rfl, fun _ => rfl, fun _ => rfl, fun _ => rfl, fun _ => rfl, fun _ => rfl⟩, by decide, by decide, rfl, rfl, fun _ => rfl, fun _ => rfl, fun _ => rfl, fun _ => rfl, fun _ => rfl, fun _ => rfl⟩ (c0k.ag (show agr [(0, 98)] [97] V524 V613 from (agr.tr agr.rf ajV613 (by decide) (by decide))) rfl)
                      have fm624 : FRM V V482 (-1) := (FRM.tr xlp13_14 (FRM.ag (show agr [(0, 98)] [] V12 V482 from (agr.tr agr.rf ajV482 (by decide) (by decide))) ⟨⟨rfl, fun _ => rfl, fun _ => rfl, fun _ => rfl, fun _ => rfl, fun _ => rfl, fun _ => rfl⟩, by decide, by decide, rfl, rfl, fun _ => rfl, fun _ => rfl, fun _ => rfl, fun _ => rfl, fun _ => rfl, fun _ => rfl⟩) agV12 ⟨rfl, fun _ => rfl, fun _ => rfl, fun _ => rfl, fun _ => rfl, fun _ => rfl, fun _ => rfl⟩ (by (first | exact om_abdc88b0c8fc xlp13_10 | omega)))
                      have fm625 : FRM V V524 (-1) := (FRM.tr fm624 t520 agV482 ⟨rfl, fun _ => rfl, fun _ => rfl, fun _ => rfl, fun _ => rfl, fun _ => rfl, fun _ => rfl⟩ (by (first | exact om_4052a1005a1f xlp13_10 pq494 | omega)))
                      have fm626 : FRM V V613 (-1) := (FRM.tr fm625 (FRM.ag (show agr [(0, 98)] [97] V524 V613 from (agr.tr agr.rf ajV613 (by decide) (by decide))) ⟨⟨rfl, fun _ => rfl, fun _ => rfl, fun _ => rfl, fun _ => rfl, fun _ => rfl, fun _ => rfl⟩, by decide, by decide, rfl, rfl, fun _ => rfl, fun _ => rfl, fun _ => rfl, fun _ => rfl, fun _ => rfl, fun _ => rfl⟩) agV524 ⟨rfl, fun _ => rfl, fun _ => rfl, fun _ => rfl, fun _ => rfl, fun _ => rfl, fun _ => rfl⟩ (by (first | exact om_461d7471bbe5 xlp13_10 pq494 t517 | omega)))
                      have ht627 : TRs gB (mV V 0 gt gu, ga, Fwork glv go gc gsc gme 0 ((gat : Nat) : Int) p4 [] :: gr) (mV V613 3 mt605 mk606, ma604, gr) := by rw [mV_ag (show agr [(0, 98)] [97] V524 V613 from (agr.tr agr.rf ajV613 (by decide) (by decide))) (by decide)]; exact ht607
                      have pk628 : PLK V V482 (V 0 98).toInt.toNat := (PLK.tr xlp13_21 (PLK.ag (t := (V 0 98).toInt.toNat) (show agr [(0, 98)] [] V12 V482 from (agr.tr agr.rf ajV482 (by decide) (by decide))) (fun _ => rfl)) (Nat.le_refl _))
                      have pk629 : PLK V V524 (V 0 98).toInt.toNat := (PLK.tr pk628 t522 (by (first | exact om_5857f307f9f4 r8.1 nm9.1 im42 t480 tl4 | omega)))
                      have kt631 := i_clamp (x := V524 0 98) rfl (by (first | exact om_eafa9039069c r527.1 | omega))
                      have pk630 : PLK V V613 (V 0 98).toInt.toNat := PLK.tr pk629 (t2 := (V 0 98).toInt.toNat) (fun j9 hj9 => t612.2 j9 (by omega)) (Nat.le_refl _)
                      have rj632 : RJm V613 gB := RJm.ag t521 (show agr [(0, 98)] [97] V524 V613 from (agr.tr agr.rf ajV613 (by decide) (by decide))) (by decide)
                      exact ihlp13 (f) (gk) (gi) (gp) (gm9) z506 z467 V613 H locs ls (by (first | exact om_8c285ac91b81 rgz506.1 rgz506.2 | omega)) (show 0 ≤ z467.toInt from by (first | exact om_d256ebc631d1 kpc kg9 hz467 | omega)) (Imp.mk (fun hp => have hp : z506.toInt = 0 := hp; (show (V613 0 98).toInt = (V 0 98).toInt + ((gk : Nat) : Int) from by (first | exact om_99cf4b14b592 t480 t510 t611 ((Imp.go xlp13_1 (f41))) | omega)))) (Imp.mk (fun hp => have hp : z506.toInt ≠ 2 := hp; (show (V613 0 76).toInt - (V613 0 69).toInt - (V613 0 73).toInt + 1 ≤ (V 0 76).toInt - (V 0 69).toInt - (V 0 73).toInt ∨ (z467.toInt = p0.toInt ∧ (V613 0 76).toInt - (V613 0 69).toInt - (V613 0 73).toInt ≤ (V 0 76).toInt - (V 0 69).toInt - (V 0 73).toInt ∧ z506.toInt = 0) from by omega))) (show (V613 0 93).toInt = (V 0 93).toInt from by (first | exact om_354a89fdc05f xlp13_3 pq498 t509 pq619 | omega)) (show (V 0 60).toInt ≤ (V613 0 60).toInt from by (first | exact om_52ef46a1518b xlp13_4 pq493 t511 pq620 | omega)) (show (V 0 65).toInt ≤ (V613 0 65).toInt from by (first | exact om_52ef46a1518b xlp13_5 pq492 t512 pq621 | omega)) (show (V613 0 65).toInt - (V 0 65).toInt ≤ (V613 0 60).toInt - (V 0 60).toInt from by (first | exact om_444d8ab82b70 xlp13_6 pq492 pq493 t513 pq620 pq621 | omega)) (show (V613 0 73).toInt + (V613 0 95).toInt - (V613 0 65).toInt ≤ (V 0 73).toInt + (V 0 95).toInt - (V 0 65).toInt from by (first | exact om_f23a71d1bd94 xlp13_7 pq492 pq494 pq495 t514 pq616 pq621 pq622 | omega)) (show (V 0 73).toInt ≤ (V613 0 73).toInt from by (first | exact om_52ef46a1518b xlp13_8 pq495 t515 pq616 | omega)) (show (V 0 69).toInt ≤ (V613 0 69).toInt from by (first | exact om_52ef46a1518b xlp13_9 pq497 t516 pq618 | omega)) (show (V613 0 95).toInt = (V 0 95).toInt from by (first | exact om_354a89fdc05f xlp13_10 pq494 t517 pq622 | omega)) (show (V613 0 76).toInt - (V613 0 69).toInt - (V613 0 73).toInt ≤ (V 0 76).toInt - (V 0 69).toInt - (V 0 73).toInt from by (first | exact om_c2f102b001fa xlp13_11 pq495 pq496 pq497 t518 pq616 pq617 pq618 | omega)) (show 0 ≤ z506.toInt ∧ z506.toInt ≤ 2 from by (first | exact om_8c285ac91b81 rgz506.1 rgz506.2 | omega)) rt623 fm626 (Imp.mk (fun _ => by have e8 : Int32.toNatClampNeg z467 = Int32.toNatClampNeg y11 + 1 := (by have h9 := i_clamp (x := z467) rfl (by (first | exact om_d256ebc631d1 kpc kg9 hz467 | omega)); omega); rw [e8]; exact hw)) (Imp.mk (fun hp => by exfalso; (first | exact om_caed67118137 q535 hp | omega))) (Imp.mk (fun hp => by exfalso; (first | exact om_caed67118137 q535 hp | omega))) (Imp.mk (fun hp => by exfalso; (first | exact om_caed67118137 q535 hp | omega))) (Imp.mk (fun hp => have hp : z506.toInt = 0 := hp; (show ((gp.length : Nat) : Int) = ((gk : Nat) : Int) ∧ z467.toInt = ((10000 * nwh V + gi : Nat) : Int) from by omega))) (Imp.mk (fun _ => (DPc.m2 ht627 (by omega) : DPc gB (mV V 0 gt gu, ga, Fwork glv go gc gsc gme 0 ((gat : Nat) : Int) p4 [] :: gr) V613 gr (z506.toInt) 0 (24 * (10 - (V 0 93).toInt))))) pk630 rj632 (by (first | exact om_bd2466411592 hn | omega)) (agr.tr (agr.tr (agr.tr (agr.tr agr.rf ajV12 (by decide) (by decide)) ajV482 (by decide) (by decide)) ajV524 (by decide) (by decide)) ajV613 (by decide) (by decide)) hMV613 hP hD hS (lv_sub hl [0, 1, 5, 6, 7, 8, 9, 10, 11, 12] rfl)
                · skip
                  have f633 : ((V 45 (Int32.toNatClampNeg y11))).toInt = 15 := b_eq rfl (by decide) c472
                  exfalso; (first | exact om_a6fe9f57b89b hop f633 | omega)
              · skip
                have f634 : ((V 45 (Int32.toNatClampNeg y11))).toInt = 12 := b_eq rfl (by decide) c470
                exfalso; (first | exact om_26e2a40fb046 hop f634 | omega)
            · skip
              have f635 : ((V 45 (Int32.toNatClampNeg y11))).toInt = 13 := b_eq rfl (by decide) c468
              exfalso; (first | exact om_16510be3f873 hop f635 | omega)
        · skip
          exact absurd har (by decide)
        · skip
          rcases (show (V 45 (Int32.toNatClampNeg y11)).toInt = 5 ∨ (V 45 (Int32.toNatClampNeg y11)).toInt = 6 ∨ (V 45 (Int32.toNatClampNeg y11)).toInt = 7 ∨ (V 45 (Int32.toNatClampNeg y11)).toInt = 8 ∨ (V 45 (Int32.toNatClampNeg y11)).toInt = 9 from by have h1 : 5 ≤ (V 45 (Int32.toNatClampNeg y11)).toInt := hc; have h2 : (V 45 (Int32.toNatClampNeg y11)).toInt ≤ 9 := hc2; (first | exact om_7725a423848a h1 h2 | omega)) with hf5 | hf6 | hf7 | hf8 | hf9
          · skip
            have hop : (V 45 (Int32.toNatClampNeg y11)).toInt = 5 := hf5
            have oi9 : opf gB.1 gi = 5 := by have h9 : _ = ((opf gB.1 gi : Nat) : Int) := cd9.1; omega
            have hne : y11.toInt ≠ p0.toInt := fun h9 => by have e9 : y11 = p0 := Int32.toInt_inj.mp h9; rw [e9] at hop; omega
            refine lv_aload_n hx hb dX12_worksAround_17 rfl (lv_at hl 3 rfl) ?_
            refine va_get (D := D) (ci := 12) (v := .ref (ad 45)) (C := RX12) (T := TX12) (N := 100) hx hb hg inX12 hown hK hP 0 rfl rfl 45 (by decide) (hg _ w1751) (fun _ h9 => h9) rfl dX12_worksAround_18 ?_
            refine lv_iload hx hb dX12_worksAround_21 (lv_at hl 1 rfl) ?_
            refine va_iald (D := D) (i := y11) hx hb hK hP 38 37 rfl rfl (i_in (a := y11.toInt) rfl (by (first | exact om_943ab426fd09 hq b2 kpc | omega))) dX12_worksAround_23 ?_
            refine g_top (v := (V 45 (Int32.toNatClampNeg y11))) (ajV12 45 (Int32.toNatClampNeg y11) rfl) ?_
            refine lv_if_eq (tgt := 194) hx hb dX12_worksAround_24 (by decide) (fun c636 => ?_) (fun c636 => ?_)
            · skip
              have f637 : ((V 45 (Int32.toNatClampNeg y11))).toInt = 0 := b_eq rfl (by decide) c636
              exfalso; (first | exact om_c204c3821207 hop f637 | omega)
            · skip
              have f638 : ((V 45 (Int32.toNatClampNeg y11))).toInt ≠ 0 := b_neq rfl (by decide) c636
              refine lv_aload_n hx hb dX12_worksAround_27 rfl (lv_at hl 3 rfl) ?_
              refine va_get (D := D) (ci := 12) (v := .ref (ad 45)) (C := RX12) (T := TX12) (N := 100) hx hb hg inX12 hown hK hP 0 rfl rfl 45 (by decide) (hg _ w1751) (fun _ h9 => h9) rfl dX12_worksAround_28 ?_
              refine lv_iload hx hb dX12_worksAround_31 (lv_at hl 1 rfl) ?_
              refine va_iald (D := D) (i := y11) hx hb hK hP 38 37 rfl rfl (i_in (a := y11.toInt) rfl (by (first | exact om_943ab426fd09 hq b2 kpc | omega))) dX12_worksAround_33 ?_
              refine g_top (v := (V 45 (Int32.toNatClampNeg y11))) (ajV12 45 (Int32.toNatClampNeg y11) rfl) ?_
              refine lv_istore (lv' := [(10, .int (V 45 (Int32.toNatClampNeg y11))), (9, .int y10), (8, .int y11), (7, .int (V 0 98)), (0, .ref (ad 0)), (1, .int p0), (2, .int p1), (3, .int p2), (4, .int p3), (5, .int p4), (6, .int p5)]) hx hb dX12_worksAround_34 hl (by decide) rfl (fun ls hl => ?_)
              refine lv_aload_n hx hb dX12_worksAround_36 rfl (lv_at hl 4 rfl) ?_
              refine va_get (D := D) (ci := 12) (v := .ref (ad 46)) (C := RX12) (T := TX12) (N := 100) hx hb hg inX12 hown hK hP 0 rfl rfl 46 (by decide) (hg _ w1752) (fun _ h9 => h9) rfl dX12_worksAround_37 ?_
              refine lv_iload hx hb dX12_worksAround_40 (lv_at hl 2 rfl) ?_
              refine va_iald (D := D) (i := y11) hx hb hK hP 39 38 rfl rfl (i_in (a := y11.toInt) rfl (by (first | exact om_943ab426fd09 hq b2 kpc | omega))) dX12_worksAround_42 ?_
              refine g_top (v := (V 46 (Int32.toNatClampNeg y11))) (ajV12 46 (Int32.toNatClampNeg y11) rfl) ?_
              refine lv_istore (lv' := [(11, .int (V 46 (Int32.toNatClampNeg y11))), (10, .int (V 45 (Int32.toNatClampNeg y11))), (9, .int y10), (8, .int y11), (7, .int (V 0 98)), (0, .ref (ad 0)), (1, .int p0), (2, .int p1), (3, .int p2), (4, .int p3), (5, .int p4), (6, .int p5)]) hx hb dX12_worksAround_43 hl (by decide) rfl (fun ls hl => ?_)
              refine lv_aload_n hx hb dX12_worksAround_45 rfl (lv_at hl 5 rfl) ?_
              refine va_get (D := D) (ci := 12) (v := .ref (ad 47)) (C := RX12) (T := TX12) (N := 100) hx hb hg inX12 hown hK hP 0 rfl rfl 47 (by decide) (hg _ w1753) (fun _ h9 => h9) rfl dX12_worksAround_46 ?_
              refine lv_iload hx hb dX12_worksAround_49 (lv_at hl 3 rfl) ?_
              refine va_iald (D := D) (i := y11) hx hb hK hP 40 39 rfl rfl (i_in (a := y11.toInt) rfl (by (first | exact om_943ab426fd09 hq b2 kpc | omega))) dX12_worksAround_51 ?_
              refine g_top (v := (V 47 (Int32.toNatClampNeg y11))) (ajV12 47 (Int32.toNatClampNeg y11) rfl) ?_
              refine lv_istore (lv' := [(12, .int (V 47 (Int32.toNatClampNeg y11))), (11, .int (V 46 (Int32.toNatClampNeg y11))), (10, .int (V 45 (Int32.toNatClampNeg y11))), (9, .int y10), (8, .int y11), (7, .int (V 0 98)), (0, .ref (ad 0)), (1, .int p0), (2, .int p1), (3, .int p2), (4, .int p3), (5, .int p4), (6, .int p5)]) hx hb dX12_worksAround_52 hl (by decide) rfl (fun ls hl => ?_)
              obtain ⟨z639, ez639⟩ : ∃ y : Int32, y = y11 + 1 := ⟨_, rfl⟩
              have hz639 : z639.toInt = y11.toInt + 1 := i_add ez639 rfl (by decide) (by (first | exact om_084b5c89eefe hq b2 kpc | omega))
              refine lv_iinc (v := z639) (lv' := [(8, .int z639), (12, .int (V 47 (Int32.toNatClampNeg y11))), (11, .int (V 46 (Int32.toNatClampNeg y11))), (10, .int (V 45 (Int32.toNatClampNeg y11))), (9, .int y10), (7, .int (V 0 98)), (0, .ref (ad 0)), (1, .int p0), (2, .int p1), (3, .int p2), (4, .int p3), (5, .int p4), (6, .int p5)]) hx hb dX12_worksAround_54 hl (k := 4) rfl (by rw [ez639]; rfl) (by decide) rfl (fun ls hl => ?_)
              refine lv_iload hx hb dX12_worksAround_57 (lv_at hl 3 rfl) ?_
              refine lv_bipush (v := 13) hx hb dX12_worksAround_59 (by decide) ?_
              refine lv_icmp_ne (tgt := 71) hx hb dX12_worksAround_61 (by decide) (fun c640 => ?_) (fun c640 => ?_)
              · skip
                have f641 : ((V 45 (Int32.toNatClampNeg y11))).toInt ≠ 13 := b_neq rfl (by decide) c640
                refine lv_iload hx hb dX12_worksAround_71 (lv_at hl 3 rfl) ?_
                refine lv_bipush (v := 12) hx hb dX12_worksAround_73 (by decide) ?_
                refine lv_icmp_ne (tgt := 97) hx hb dX12_worksAround_75 (by decide) (fun c642 => ?_) (fun c642 => ?_)
                · skip
                  have f643 : ((V 45 (Int32.toNatClampNeg y11))).toInt ≠ 12 := b_neq rfl (by decide) c642
                  refine lv_iload hx hb dX12_worksAround_97 (lv_at hl 3 rfl) ?_
                  refine lv_bipush (v := 15) hx hb dX12_worksAround_99 (by decide) ?_
                  refine lv_icmp_ne (tgt := 131) hx hb dX12_worksAround_101 (by decide) (fun c644 => ?_) (fun c644 => ?_)
                  · skip
                    have f645 : ((V 45 (Int32.toNatClampNeg y11))).toInt ≠ 15 := b_neq rfl (by decide) c644
                    refine lv_iload hx hb dX12_worksAround_131 (lv_at hl 3 rfl) ?_
                    refine lv_bipush (v := 14) hx hb dX12_worksAround_133 (by decide) ?_
                    refine lv_icmp_ne (tgt := 166) hx hb dX12_worksAround_135 (by decide) (fun c646 => ?_) (fun c646 => ?_)
                    · skip
                      have f647 : ((V 45 (Int32.toNatClampNeg y11))).toInt ≠ 14 := b_neq rfl (by decide) c646
                      refine lv_iload hx hb dX12_worksAround_166 (lv_at hl 3 rfl) ?_
                      refine lv_iconst (v := 3) hx hb dX12_worksAround_168 (by decide) ?_
                      refine lv_icmp_ne (tgt := 181) hx hb dX12_worksAround_169 (by decide) (fun c648 => ?_) (fun c648 => ?_)
                      · skip
                        have f649 : ((V 45 (Int32.toNatClampNeg y11))).toInt ≠ 3 := b_neq rfl (by decide) c648
                        refine lv_aload_n hx hb dX12_worksAround_181 rfl (lv_at hl 6 rfl) ?_
                        refine lv_iload hx hb dX12_worksAround_182 (lv_at hl 3 rfl) ?_
                        refine lv_iload hx hb dX12_worksAround_184 (lv_at hl 2 rfl) ?_
                        refine gA_int (gA_runV (As := [.int (V 45 (Int32.toNatClampNeg y11)), .int (V 46 (Int32.toNatClampNeg y11))]) (rest := []) (ci := 12) (q0 := 0) hx hb hml hown hg hP hD hK hS hA hnw hgk (s_reckons3 l D ks H.size ad kk V12 L (V 45 (Int32.toNatClampNeg y11)) (V 46 (Int32.toNatClampNeg y11)) hMV12 (by (first | exact om_56d61a127ecf hop | omega)) (Imp.mk (fun hp => have hp : ((V 45 (Int32.toNatClampNeg y11))).toInt = 11 := hp; (show 0 ≤ ((V 46 (Int32.toNatClampNeg y11))).toInt ∧ ((V 46 (Int32.toNatClampNeg y11))).toInt ≤ 11 from by omega))) (Imp.mk (fun hp => have hp : ((V 45 (Int32.toNatClampNeg y11))).toInt = 2 ∨ ((V 45 (Int32.toNatClampNeg y11))).toInt = 11 := hp; (show (V12 0 98).toInt ≤ 19999 from by (first | exact om_53b561447de2 n6 n7 r7.2 b3 im42 | omega)))) (Imp.mk (fun hp => have hp : ((V 45 (Int32.toNatClampNeg y11))).toInt = 4 := hp; (show 1 ≤ (V12 0 98).toInt from by omega))) (Imp.mk (fun hp => have hp : 5 ≤ ((V 45 (Int32.toNatClampNeg y11))).toInt ∧ ((V 45 (Int32.toNatClampNeg y11))).toInt ≤ 9 := hp; (show 2 ≤ (V12 0 98).toInt from by omega))) (show ((V 45 (Int32.toNatClampNeg y11))).toInt ≠ 3 from by (first | exact om_8605842351a6 hop | omega))) w2324 w2326 w150 w172 w2327 rfl rfl hdV_yX12_reckons ⟨(by show (1) + 1 ≤ (4 * d1 + 40 * d2 + 11); (first | exact om_1d3ee3ce7f7a n5 n6 r2.2 xlp13_3 r18.2 | omega)), (by show 8 + (5 + 11) + (21) ≤ (100 * d1 + 1000 * d2 + 410); (first | exact om_d7d7af4cd1f0 n5 n6 r2.2 xlp13_3 r18.2 | omega))⟩ rfl hl.1 rfl (Nat.le_of_ble_eq_true rfl) dX12_worksAround_186 ⟨Nat.le_of_ble_eq_true rfl, Nat.le_of_ble_eq_true rfl⟩) hP hD hK hS hA (fun z650 u651 H locs w652 hP hD hK hS => ?_)
                        obtain ⟨V669, L670⟩ := u651
                        obtain ⟨hMV669, ajV669, axL670, rgz650, t653, t654, t655, t656, t657, t658, t659, t660, t661, t662, t663, t664, t665, t666, t667, t668⟩ := w652
                        have axL670 : L = L670 := Eq.symm axL670
                        subst axL670
                        have hP : va_P D vwCl (mw ad kk ks.1 V669 L) H := hP
                        have hD : va_D A (mw ad kk ks.1 V669 L) := hD
                        have hMV669 : rgd bM V669 := hMV669
                        have ajV669 : agr [(0, 68), (0, 69), (0, 90), (0, 91), (0, 98)] [97] V12 V669 := ajV669
                        have agV669 : agr [(0, 60), (0, 65), (0, 68), (0, 69), (0, 73), (0, 76), (0, 90), (0, 91), (0, 92), (0, 93), (0, 95), (0, 96), (0, 98)] [59, 61, 62, 63, 64, 66, 67, 74, 75, 77, 78, 79, 80, 94, 97] V V669 := agV12.tr ajV669 (by decide) (by decide)
                        have rgz650 : 0 ≤ z650.toInt ∧ z650.toInt ≤ 2 := rgz650
                        have t653 : Imp (((V 45 (Int32.toNatClampNeg y11))).toInt = 1) ((V669 0 98).toInt = (V12 0 98).toInt ∧ ((z650.toInt = 0 ∧ (V669 0 69).toInt = (V12 0 69).toInt + 1 ∧ (V669 0 68).toInt = (V12 0 68).toInt + 1 ∧ (V12 0 69).toInt < 3000 ∧ (V12 0 68).toInt < 60000) ∨ (z650.toInt = 2 ∧ (V669 0 69).toInt = (V12 0 69).toInt ∧ (V669 0 68).toInt = (V12 0 68).toInt ∧ ((V12 0 69).toInt = 3000 ∨ (V12 0 68).toInt = 60000)))) := t653
                        have t654 : Imp (((V 45 (Int32.toNatClampNeg y11))).toInt = 10) (z650.toInt = 1 ∧ (V669 0 98).toInt = (V12 0 98).toInt ∧ (V669 0 90).toInt = 0 ∧ (V669 0 91).toInt = ((V 46 (Int32.toNatClampNeg y11))).toInt) := t654
                        have t655 : Imp (((V 45 (Int32.toNatClampNeg y11))).toInt = 2 ∨ ((V 45 (Int32.toNatClampNeg y11))).toInt = 11) (z650.toInt = 0 ∧ (V669 0 98).toInt = (V12 0 98).toInt + 1) := t655
                        have t656 : Imp (((V 45 (Int32.toNatClampNeg y11))).toInt = 4) (z650.toInt = 0 ∧ (V669 0 98).toInt = (V12 0 98).toInt) := t656
                        have t657 : Imp (5 ≤ ((V 45 (Int32.toNatClampNeg y11))).toInt ∧ ((V 45 (Int32.toNatClampNeg y11))).toInt ≤ 9) (z650.toInt = 0 ∧ (V669 0 98).toInt = (V12 0 98).toInt - 1) := t657
                        have t658 : Imp (((V 45 (Int32.toNatClampNeg y11))).toInt ≠ 1) ((V669 0 69).toInt = (V12 0 69).toInt ∧ (V669 0 68).toInt = (V12 0 68).toInt) := t658
                        have t659 : Imp (((V 45 (Int32.toNatClampNeg y11))).toInt ≠ 10) ((V669 0 90).toInt = (V12 0 90).toInt ∧ (V669 0 91).toInt = (V12 0 91).toInt) := t659
                        have t660 : Imp (((V 45 (Int32.toNatClampNeg y11))).toInt = 2) (V669 97 (Int32.toNatClampNeg (V12 0 98)) = (V 46 (Int32.toNatClampNeg y11)) ∧ ∀ j9, j9 ≠ Int32.toNatClampNeg (V12 0 98) → V669 97 j9 = V12 97 j9) := t660
                        have t661 : Imp (((V 45 (Int32.toNatClampNeg y11))).toInt = 11) (V669 97 (Int32.toNatClampNeg (V12 0 98)) = V12 18 (12 * nwh V12 + Int32.toNatClampNeg (V 46 (Int32.toNatClampNeg y11))) ∧ ∀ j9, j9 ≠ Int32.toNatClampNeg (V12 0 98) → V669 97 j9 = V12 97 j9) := t661
                        have t662 : Imp (((V 45 (Int32.toNatClampNeg y11))).toInt = 4) (∀ t9 : Nat, (V12 0 98).toInt = (t9 : Int) + 1 → V669 97 t9 = -(V12 97 t9) ∧ ∀ j9, j9 < t9 → V669 97 j9 = V12 97 j9) := t662
                        have t663 : Imp (((V 45 (Int32.toNatClampNeg y11))).toInt = 5) (∀ t9 : Nat, (V12 0 98).toInt = (t9 : Int) + 2 → V669 97 t9 = V12 97 t9 * V12 97 (t9 + 1) ∧ ∀ j9, j9 < t9 → V669 97 j9 = V12 97 j9) := t663
                        have t664 : Imp (((V 45 (Int32.toNatClampNeg y11))).toInt = 6) (∀ t9 : Nat, (V12 0 98).toInt = (t9 : Int) + 2 → V669 97 t9 = V12 97 t9 + V12 97 (t9 + 1) ∧ ∀ j9, j9 < t9 → V669 97 j9 = V12 97 j9) := t664
                        have t665 : Imp (((V 45 (Int32.toNatClampNeg y11))).toInt = 7) (∀ t9 : Nat, (V12 0 98).toInt = (t9 : Int) + 2 → V669 97 t9 = V12 97 t9 - V12 97 (t9 + 1) ∧ ∀ j9, j9 < t9 → V669 97 j9 = V12 97 j9) := t665
                        have t666 : Imp (((V 45 (Int32.toNatClampNeg y11))).toInt = 8) (∀ t9 : Nat, (V12 0 98).toInt = (t9 : Int) + 2 → V669 97 t9 = (if (V12 97 t9).toInt < (V12 97 (t9 + 1)).toInt then 1 else 0) ∧ ∀ j9, j9 < t9 → V669 97 j9 = V12 97 j9) := t666
                        have t667 : Imp (((V 45 (Int32.toNatClampNeg y11))).toInt = 9) (∀ t9 : Nat, (V12 0 98).toInt = (t9 : Int) + 2 → V669 97 t9 = (if V12 97 t9 = V12 97 (t9 + 1) then 1 else 0) ∧ ∀ j9, j9 < t9 → V669 97 j9 = V12 97 j9) := t667
                        have t668 : Imp (((V 45 (Int32.toNatClampNeg y11))).toInt = 1 ∨ ((V 45 (Int32.toNatClampNeg y11))).toInt = 10) (∀ j9, V669 97 j9 = V12 97 j9) := t668
                        have r671 : 0 ≤ ((V12 0 68)).toInt ∧ ((V12 0 68)).toInt ≤ 60000 := hMV12 0 68
                        have r672 : 0 ≤ ((V669 0 69)).toInt ∧ ((V669 0 69)).toInt ≤ 3000 := hMV669 0 69
                        have r673 : 0 ≤ ((V669 0 68)).toInt ∧ ((V669 0 68)).toInt ≤ 60000 := hMV669 0 68
                        have r674 : 0 ≤ ((V669 0 98)).toInt ∧ ((V669 0 98)).toInt ≤ 20000 := hMV669 0 98
                        refine lv_istore (lv' := [(9, .int z650), (8, .int z639), (12, .int (V 47 (Int32.toNatClampNeg y11))), (11, .int (V 46 (Int32.toNatClampNeg y11))), (10, .int (V 45 (Int32.toNatClampNeg y11))), (7, .int (V 0 98)), (0, .ref (ad 0)), (1, .int p0), (2, .int p1), (3, .int p2), (4, .int p3), (5, .int p4), (6, .int p5)]) hx hb dX12_worksAround_189 hl (by decide) rfl (fun ls hl => ?_)
                        have im675 := Imp.go t658 (by (first | exact om_63075622969b hop | omega))
                        have im676 := Imp.go t659 (by (first | exact om_7ef132e8579b hop | omega))
                        obtain ⟨t5, ek5, h5q⟩ := OQ.i5 og7 (by (first | exact om_d9a9a4183f42 oi9 | omega))
                        obtain ⟨t4, ht4⟩ : ∃ t4 : Nat, (V12 0 98).toInt = (t4 : Int) + 2 := ⟨(V12 0 98).toInt.toNat - 2, by omega⟩
                        have rk677 := Imp.go t663 (by (first | exact om_9dcb221679a8 hop | omega)) t4 ht4
                        have rk677t := Imp.go t657 (by (first | exact om_f47c93d3bf8b hop | omega))
                        have hd4 := plR.hd (t := t4 + 1) (by rw [show t4 + 1 + 1 = (V12 0 98).toInt.toNat from by omega]; exact pl9) (by omega)
                        have tl4 := tl1 (p := gp) (by omega)
                        have hd5 := plR.hd (t := t4) hd4.2 (by omega)
                        have tl5 := tl2 ek5
                        have r678 : 0 ≤ (V12 0 65).toInt := (hMV12 0 65).1
                        have r679 : (V12 0 60).toInt ≤ 300 := (hMV12 0 60).2
                        have r680 : 0 ≤ (V12 0 93).toInt ∧ (V12 0 93).toInt ≤ 10 := hMV12 0 93
                        have ht681 : TRs gB (mV V 0 gt gu, ga, Fwork glv go gc gsc gme 0 ((gat : Nat) : Int) p4 [] :: gr) (mV V12 sg9 t9 k9, a9, Fwork glv go gc gsc gm9 0 (((gi + 1) : Nat) : Int) p4 ((pop1 gp.tail * pop1 gp) :: gp.tail.tail) :: gr) := TRs.st ht9 (SF.mk (show gr.length ≤ 394 from by (first | exact om_87fa92eb9f41 hl9 xlp13_3 r18.2 | omega)) (show gp.length + (totP gr) ≤ 2000 from by (first | exact om_6542cae4e4ce hp9 r7.2 b3 nm9.1 | omega)) (show 0 ≤ (V12 0 65).toInt ∧ (V12 0 65).toInt ≤ 300 from by (first | exact om_65732a9e84ef n1 xlp13_6 r19.2 r20.1 | omega)) (fun h9 => by have h8 : sg9 = 2 := h9; omega) (show ∃ q9, OQ gB _ _ _ _ q9 from ⟨_, og7⟩)) (st_12.trans (or_5 oi9))
                        have on682 := (show ∃ q9, OQ gB (ndW gB gc 0) (decide ((0 : Int) < 0)) (gi + 1) ((pop1 gp.tail * pop1 gp) :: gp.tail.tail).length q9 from by rw [show ((pop1 gp.tail * pop1 gp) :: gp.tail.tail).length = t5 + 1 from congrArg Nat.succ tl5]; exact h5q)
                        have pl683 : plR V669 (V669 0 98).toInt.toNat (((pop1 gp.tail * pop1 gp) :: gp.tail.tail)) := by rw [show (V669 0 98).toInt.toNat = t4 + 1 from by omega]; exact plR.pu hd5.2 (rk677.1.trans (by rw [hd4.1, hd5.1])) rk677.2
                        have ln684 : (((pop1 gp.tail * pop1 gp) :: gp.tail.tail)).length = t5 + 1 := congrArg Nat.succ tl5
                        refine lv_goto (tgt := 12) hx hb dX12_worksAround_191 (by decide) ?_
                        have pq685 : (V669 0 73).toInt = ((V12 0 73)).toInt := congrArg Int32.toInt (ajV669 0 73 rfl)
                        have pq686 : (V669 0 76).toInt = ((V12 0 76)).toInt := congrArg Int32.toInt (ajV669 0 76 rfl)
                        have pq687 : (V669 0 93).toInt = ((V12 0 93)).toInt := congrArg Int32.toInt (ajV669 0 93 rfl)
                        have pq688 : (V669 0 60).toInt = ((V12 0 60)).toInt := congrArg Int32.toInt (ajV669 0 60 rfl)
                        have pq689 : (V669 0 65).toInt = ((V12 0 65)).toInt := congrArg Int32.toInt (ajV669 0 65 rfl)
                        have pq690 : (V669 0 95).toInt = ((V12 0 95)).toInt := congrArg Int32.toInt (ajV669 0 95 rfl)
                        have rt691 : RT V669 := RT.ag xlp13_13 hMV12 (show agr [(0, 68), (0, 69), (0, 90), (0, 91), (0, 98)] [97] V12 V669 from (agr.tr agr.rf ajV669 (by decide) (by decide))) ⟨⟨rfl, fun _ => rfl, fun _ => rfl, fun _ => rfl, fun _ => rfl, fun _ => rfl, fun _ => rfl⟩, by decide, by decide, rfl, rfl, fun _ => rfl, fun _ => rfl, fun _ => rfl, fun _ => rfl, fun _ => rfl, fun _ => rfl⟩ (c0k.ag (show agr [(0, 68), (0, 69), (0, 90), (0, 91), (0, 98)] [97] V12 V669 from (agr.tr agr.rf ajV669 (by decide) (by decide))) rfl)
                        have fm692 : FRM V V669 (-1) := (FRM.tr xlp13_14 (FRM.ag (show agr [(0, 68), (0, 69), (0, 90), (0, 91), (0, 98)] [97] V12 V669 from (agr.tr agr.rf ajV669 (by decide) (by decide))) ⟨⟨rfl, fun _ => rfl, fun _ => rfl, fun _ => rfl, fun _ => rfl, fun _ => rfl, fun _ => rfl⟩, by decide, by decide, rfl, rfl, fun _ => rfl, fun _ => rfl, fun _ => rfl, fun _ => rfl, fun _ => rfl, fun _ => rfl⟩) agV12 ⟨rfl, fun _ => rfl, fun _ => rfl, fun _ => rfl, fun _ => rfl, fun _ => rfl, fun _ => rfl⟩ (by (first | exact om_abdc88b0c8fc xlp13_10 | omega)))
                        have ht693 : TRs gB (mV V 0 gt gu, ga, Fwork glv go gc gsc gme 0 ((gat : Nat) : Int) p4 [] :: gr) (mV V669 sg9 t9 k9, a9, Fwork glv go gc gsc gm9 0 (((gi + 1) : Nat) : Int) p4 ((pop1 gp.tail * pop1 gp) :: gp.tail.tail) :: gr) := by rw [mV_st0 (show agr [(0, 68), (0, 69), (0, 90), (0, 91), (0, 98)] [97] V12 V669 from (agr.tr agr.rf ajV669 (by decide) (by decide))) (by decide) (by omega) (by omega)]; exact ht681
                        have kt695 := i_clamp (x := V12 0 98) rfl (by (first | exact om_eafa9039069c r14.1 | omega))
                        have pw696 := Imp.go t663 (by (first | exact om_9dcb221679a8 hop | omega)) ((V12 0 98).toInt.toNat - 2) (by omega)
                        have pk694 : PLK V V669 (V 0 98).toInt.toNat := PLK.tr xlp13_21 (t2 := (V 0 98).toInt.toNat) (fun j9 hj9 => pw696.2 j9 (by omega)) (Nat.le_refl _)
                        have rj697 : RJm V669 gB := RJm.ag xlp13_22 (show agr [(0, 68), (0, 69), (0, 90), (0, 91), (0, 98)] [97] V12 V669 from (agr.tr agr.rf ajV669 (by decide) (by decide))) (by decide)
                        exact ihlp13 (f) (j + 1) ((gi + 1)) (((pop1 gp.tail * pop1 gp) :: gp.tail.tail)) (gm9) z650 z639 V669 H locs ls (by (first | exact om_8c285ac91b81 rgz650.1 rgz650.2 | omega)) (show 0 ≤ z639.toInt from by (first | exact om_d256ebc631d1 kpc kg9 hz639 | omega)) (Imp.mk (fun hp => have hp : z650.toInt = 0 := hp; (show (V669 0 98).toInt = (V 0 98).toInt + ((j + 1 : Nat) : Int) from by omega))) (Imp.mk (fun hp => have hp : z650.toInt ≠ 2 := hp; (show (V669 0 76).toInt - (V669 0 69).toInt - (V669 0 73).toInt + 1 ≤ (V 0 76).toInt - (V 0 69).toInt - (V 0 73).toInt ∨ (z639.toInt = p0.toInt ∧ (V669 0 76).toInt - (V669 0 69).toInt - (V669 0 73).toInt ≤ (V 0 76).toInt - (V 0 69).toInt - (V 0 73).toInt ∧ z650.toInt = 0) from by (first | exact om_f1197ef27677 im43 hne im675.1 pq685 pq686 | omega)))) (show (V669 0 93).toInt = (V 0 93).toInt from by (first | exact om_cd7d0a6a31bc xlp13_3 pq687 | omega)) (show (V 0 60).toInt ≤ (V669 0 60).toInt from by (first | exact om_a40cdd94799e xlp13_4 pq688 | omega)) (show (V 0 65).toInt ≤ (V669 0 65).toInt from by (first | exact om_a40cdd94799e xlp13_5 pq689 | omega)) (show (V669 0 65).toInt - (V 0 65).toInt ≤ (V669 0 60).toInt - (V 0 60).toInt from by (first | exact om_953d7b5213d2 xlp13_6 pq688 pq689 | omega)) (show (V669 0 73).toInt + (V669 0 95).toInt - (V669 0 65).toInt ≤ (V 0 73).toInt + (V 0 95).toInt - (V 0 65).toInt from by (first | exact om_5b806241d648 xlp13_7 pq685 pq689 pq690 | omega)) (show (V 0 73).toInt ≤ (V669 0 73).toInt from by (first | exact om_a40cdd94799e xlp13_8 pq685 | omega)) (show (V 0 69).toInt ≤ (V669 0 69).toInt from by (first | exact om_a40cdd94799e xlp13_9 im675.1 | omega)) (show (V669 0 95).toInt = (V 0 95).toInt from by (first | exact om_cd7d0a6a31bc xlp13_10 pq690 | omega)) (show (V669 0 76).toInt - (V669 0 69).toInt - (V669 0 73).toInt ≤ (V 0 76).toInt - (V 0 69).toInt - (V 0 73).toInt from by (first | exact om_b2f0e61cd607 xlp13_11 im675.1 pq685 pq686 | omega)) (show 0 ≤ z650.toInt ∧ z650.toInt ≤ 2 from by (first | exact om_8c285ac91b81 rgz650.1 rgz650.2 | omega)) rt691 fm692 (Imp.mk (fun _ => by have e8 : Int32.toNatClampNeg z639 = Int32.toNatClampNeg y11 + 1 := (by have h9 := i_clamp (x := z639) rfl (by (first | exact om_d256ebc631d1 kpc kg9 hz639 | omega)); omega); rw [e8]; exact hw)) (Imp.mk (fun _ => ⟨sg9, t9, k9, a9, sq9, ht693⟩)) (Imp.mk (fun _ => on682)) (Imp.mk (fun _ => pl683)) (Imp.mk (fun hp => have hp : z650.toInt = 0 := hp; (show ((((pop1 gp.tail * pop1 gp) :: gp.tail.tail).length : Nat) : Int) = ((j + 1 : Nat) : Int) ∧ z639.toInt = ((10000 * nwh V + (gi + 1) : Nat) : Int) from by omega))) (Imp.mk (fun hp => by exfalso; (first | exact om_fb320d7600b7 rgz650.1 rk677t.1 hp | omega))) pk694 rj697 (by (first | exact om_bd2466411592 hn | omega)) (agr.tr (agr.tr agr.rf ajV12 (by decide) (by decide)) ajV669 (by decide) (by decide)) hMV669 hP hD hS (lv_sub hl [0, 1, 5, 6, 7, 8, 9, 10, 11, 12] rfl)
                      · skip
                        have f698 : ((V 45 (Int32.toNatClampNeg y11))).toInt = 3 := b_eq rfl (by decide) c648
                        exfalso; (first | exact om_f5ac24a99763 hop f698 | omega)
                    · skip
                      have f699 : ((V 45 (Int32.toNatClampNeg y11))).toInt = 14 := b_eq rfl (by decide) c646
                      exfalso; (first | exact om_a57a38650ea7 hop f699 | omega)
                  · skip
                    have f700 : ((V 45 (Int32.toNatClampNeg y11))).toInt = 15 := b_eq rfl (by decide) c644
                    exfalso; (first | exact om_a8ad093d1962 hop f700 | omega)
                · skip
                  have f701 : ((V 45 (Int32.toNatClampNeg y11))).toInt = 12 := b_eq rfl (by decide) c642
                  exfalso; (first | exact om_ed3f18bbabcf hop f701 | omega)
              · skip
                have f702 : ((V 45 (Int32.toNatClampNeg y11))).toInt = 13 := b_eq rfl (by decide) c640
                exfalso; (first | exact om_eda58bff964e hop f702 | omega)
          · skip
            have hop : (V 45 (Int32.toNatClampNeg y11)).toInt = 6 := hf6
            have oi9 : opf gB.1 gi = 6 := by have h9 : _ = ((opf gB.1 gi : Nat) : Int) := cd9.1; omega
            have hne : y11.toInt ≠ p0.toInt := fun h9 => by have e9 : y11 = p0 := Int32.toInt_inj.mp h9; rw [e9] at hop; omega
            refine lv_aload_n hx hb dX12_worksAround_17 rfl (lv_at hl 3 rfl) ?_
            refine va_get (D := D) (ci := 12) (v := .ref (ad 45)) (C := RX12) (T := TX12) (N := 100) hx hb hg inX12 hown hK hP 0 rfl rfl 45 (by decide) (hg _ w1751) (fun _ h9 => h9) rfl dX12_worksAround_18 ?_
            refine lv_iload hx hb dX12_worksAround_21 (lv_at hl 1 rfl) ?_
            refine va_iald (D := D) (i := y11) hx hb hK hP 38 37 rfl rfl (i_in (a := y11.toInt) rfl (by (first | exact om_943ab426fd09 hq b2 kpc | omega))) dX12_worksAround_23 ?_
            refine g_top (v := (V 45 (Int32.toNatClampNeg y11))) (ajV12 45 (Int32.toNatClampNeg y11) rfl) ?_
            refine lv_if_eq (tgt := 194) hx hb dX12_worksAround_24 (by decide) (fun c703 => ?_) (fun c703 => ?_)
            · skip
              have f704 : ((V 45 (Int32.toNatClampNeg y11))).toInt = 0 := b_eq rfl (by decide) c703
              exfalso; (first | exact om_a917cdb148aa hop f704 | omega)
            · skip
              have f705 : ((V 45 (Int32.toNatClampNeg y11))).toInt ≠ 0 := b_neq rfl (by decide) c703
              refine lv_aload_n hx hb dX12_worksAround_27 rfl (lv_at hl 3 rfl) ?_
              refine va_get (D := D) (ci := 12) (v := .ref (ad 45)) (C := RX12) (T := TX12) (N := 100) hx hb hg inX12 hown hK hP 0 rfl rfl 45 (by decide) (hg _ w1751) (fun _ h9 => h9) rfl dX12_worksAround_28 ?_
              refine lv_iload hx hb dX12_worksAround_31 (lv_at hl 1 rfl) ?_
              refine va_iald (D := D) (i := y11) hx hb hK hP 38 37 rfl rfl (i_in (a := y11.toInt) rfl (by (first | exact om_943ab426fd09 hq b2 kpc | omega))) dX12_worksAround_33 ?_
              refine g_top (v := (V 45 (Int32.toNatClampNeg y11))) (ajV12 45 (Int32.toNatClampNeg y11) rfl) ?_
              refine lv_istore (lv' := [(10, .int (V 45 (Int32.toNatClampNeg y11))), (9, .int y10), (8, .int y11), (7, .int (V 0 98)), (0, .ref (ad 0)), (1, .int p0), (2, .int p1), (3, .int p2), (4, .int p3), (5, .int p4), (6, .int p5)]) hx hb dX12_worksAround_34 hl (by decide) rfl (fun ls hl => ?_)
              refine lv_aload_n hx hb dX12_worksAround_36 rfl (lv_at hl 4 rfl) ?_
              refine va_get (D := D) (ci := 12) (v := .ref (ad 46)) (C := RX12) (T := TX12) (N := 100) hx hb hg inX12 hown hK hP 0 rfl rfl 46 (by decide) (hg _ w1752) (fun _ h9 => h9) rfl dX12_worksAround_37 ?_
              refine lv_iload hx hb dX12_worksAround_40 (lv_at hl 2 rfl) ?_
              refine va_iald (D := D) (i := y11) hx hb hK hP 39 38 rfl rfl (i_in (a := y11.toInt) rfl (by (first | exact om_943ab426fd09 hq b2 kpc | omega))) dX12_worksAround_42 ?_
              refine g_top (v := (V 46 (Int32.toNatClampNeg y11))) (ajV12 46 (Int32.toNatClampNeg y11) rfl) ?_
              refine lv_istore (lv' := [(11, .int (V 46 (Int32.toNatClampNeg y11))), (10, .int (V 45 (Int32.toNatClampNeg y11))), (9, .int y10), (8, .int y11), (7, .int (V 0 98)), (0, .ref (ad 0)), (1, .int p0), (2, .int p1), (3, .int p2), (4, .int p3), (5, .int p4), (6, .int p5)]) hx hb dX12_worksAround_43 hl (by decide) rfl (fun ls hl => ?_)
              refine lv_aload_n hx hb dX12_worksAround_45 rfl (lv_at hl 5 rfl) ?_
              refine va_get (D := D) (ci := 12) (v := .ref (ad 47)) (C := RX12) (T := TX12) (N := 100) hx hb hg inX12 hown hK hP 0 rfl rfl 47 (by decide) (hg _ w1753) (fun _ h9 => h9) rfl dX12_worksAround_46 ?_
              refine lv_iload hx hb dX12_worksAround_49 (lv_at hl 3 rfl) ?_
              refine va_iald (D := D) (i := y11) hx hb hK hP 40 39 rfl rfl (i_in (a := y11.toInt) rfl (by (first | exact om_943ab426fd09 hq b2 kpc | omega))) dX12_worksAround_51 ?_
              refine g_top (v := (V 47 (Int32.toNatClampNeg y11))) (ajV12 47 (Int32.toNatClampNeg y11) rfl) ?_
              refine lv_istore (lv' := [(12, .int (V 47 (Int32.toNatClampNeg y11))), (11, .int (V 46 (Int32.toNatClampNeg y11))), (10, .int (V 45 (Int32.toNatClampNeg y11))), (9, .int y10), (8, .int y11), (7, .int (V 0 98)), (0, .ref (ad 0)), (1, .int p0), (2, .int p1), (3, .int p2), (4, .int p3), (5, .int p4), (6, .int p5)]) hx hb dX12_worksAround_52 hl (by decide) rfl (fun ls hl => ?_)
              obtain ⟨z706, ez706⟩ : ∃ y : Int32, y = y11 + 1 := ⟨_, rfl⟩
              have hz706 : z706.toInt = y11.toInt + 1 := i_add ez706 rfl (by decide) (by (first | exact om_084b5c89eefe hq b2 kpc | omega))
              refine lv_iinc (v := z706) (lv' := [(8, .int z706), (12, .int (V 47 (Int32.toNatClampNeg y11))), (11, .int (V 46 (Int32.toNatClampNeg y11))), (10, .int (V 45 (Int32.toNatClampNeg y11))), (9, .int y10), (7, .int (V 0 98)), (0, .ref (ad 0)), (1, .int p0), (2, .int p1), (3, .int p2), (4, .int p3), (5, .int p4), (6, .int p5)]) hx hb dX12_worksAround_54 hl (k := 4) rfl (by rw [ez706]; rfl) (by decide) rfl (fun ls hl => ?_)
              refine lv_iload hx hb dX12_worksAround_57 (lv_at hl 3 rfl) ?_
              refine lv_bipush (v := 13) hx hb dX12_worksAround_59 (by decide) ?_
              refine lv_icmp_ne (tgt := 71) hx hb dX12_worksAround_61 (by decide) (fun c707 => ?_) (fun c707 => ?_)
              · skip
                have f708 : ((V 45 (Int32.toNatClampNeg y11))).toInt ≠ 13 := b_neq rfl (by decide) c707
                refine lv_iload hx hb dX12_worksAround_71 (lv_at hl 3 rfl) ?_
                refine lv_bipush (v := 12) hx hb dX12_worksAround_73 (by decide) ?_
                refine lv_icmp_ne (tgt := 97) hx hb dX12_worksAround_75 (by decide) (fun c709 => ?_) (fun c709 => ?_)
                · skip
                  have f710 : ((V 45 (Int32.toNatClampNeg y11))).toInt ≠ 12 := b_neq rfl (by decide) c709
                  refine lv_iload hx hb dX12_worksAround_97 (lv_at hl 3 rfl) ?_
                  refine lv_bipush (v := 15) hx hb dX12_worksAround_99 (by decide) ?_
                  refine lv_icmp_ne (tgt := 131) hx hb dX12_worksAround_101 (by decide) (fun c711 => ?_) (fun c711 => ?_)
                  · skip
                    have f712 : ((V 45 (Int32.toNatClampNeg y11))).toInt ≠ 15 := b_neq rfl (by decide) c711
                    refine lv_iload hx hb dX12_worksAround_131 (lv_at hl 3 rfl) ?_
                    refine lv_bipush (v := 14) hx hb dX12_worksAround_133 (by decide) ?_
                    refine lv_icmp_ne (tgt := 166) hx hb dX12_worksAround_135 (by decide) (fun c713 => ?_) (fun c713 => ?_)
                    · skip
                      have f714 : ((V 45 (Int32.toNatClampNeg y11))).toInt ≠ 14 := b_neq rfl (by decide) c713
                      refine lv_iload hx hb dX12_worksAround_166 (lv_at hl 3 rfl) ?_
                      refine lv_iconst (v := 3) hx hb dX12_worksAround_168 (by decide) ?_
                      refine lv_icmp_ne (tgt := 181) hx hb dX12_worksAround_169 (by decide) (fun c715 => ?_) (fun c715 => ?_)
                      · skip
                        have f716 : ((V 45 (Int32.toNatClampNeg y11))).toInt ≠ 3 := b_neq rfl (by decide) c715
                        refine lv_aload_n hx hb dX12_worksAround_181 rfl (lv_at hl 6 rfl) ?_
                        refine lv_iload hx hb dX12_worksAround_182 (lv_at hl 3 rfl) ?_
                        refine lv_iload hx hb dX12_worksAround_184 (lv_at hl 2 rfl) ?_
                        refine gA_int (gA_runV (As := [.int (V 45 (Int32.toNatClampNeg y11)), .int (V 46 (Int32.toNatClampNeg y11))]) (rest := []) (ci := 12) (q0 := 0) hx hb hml hown hg hP hD hK hS hA hnw hgk (s_reckons3 l D ks H.size ad kk V12 L (V 45 (Int32.toNatClampNeg y11)) (V 46 (Int32.toNatClampNeg y11)) hMV12 (by (first | exact om_4e3c60c30f90 hop | omega)) (Imp.mk (fun hp => have hp : ((V 45 (Int32.toNatClampNeg y11))).toInt = 11 := hp; (show 0 ≤ ((V 46 (Int32.toNatClampNeg y11))).toInt ∧ ((V 46 (Int32.toNatClampNeg y11))).toInt ≤ 11 from by omega))) (Imp.mk (fun hp => have hp : ((V 45 (Int32.toNatClampNeg y11))).toInt = 2 ∨ ((V 45 (Int32.toNatClampNeg y11))).toInt = 11 := hp; (show (V12 0 98).toInt ≤ 19999 from by (first | exact om_53b561447de2 n6 n7 r7.2 b3 im42 | omega)))) (Imp.mk (fun hp => have hp : ((V 45 (Int32.toNatClampNeg y11))).toInt = 4 := hp; (show 1 ≤ (V12 0 98).toInt from by omega))) (Imp.mk (fun hp => have hp : 5 ≤ ((V 45 (Int32.toNatClampNeg y11))).toInt ∧ ((V 45 (Int32.toNatClampNeg y11))).toInt ≤ 9 := hp; (show 2 ≤ (V12 0 98).toInt from by omega))) (show ((V 45 (Int32.toNatClampNeg y11))).toInt ≠ 3 from by (first | exact om_905e9af22b02 hop | omega))) w2324 w2326 w150 w172 w2327 rfl rfl hdV_yX12_reckons ⟨(by show (1) + 1 ≤ (4 * d1 + 40 * d2 + 11); (first | exact om_1d3ee3ce7f7a n5 n6 r2.2 xlp13_3 r18.2 | omega)), (by show 8 + (5 + 11) + (21) ≤ (100 * d1 + 1000 * d2 + 410); (first | exact om_d7d7af4cd1f0 n5 n6 r2.2 xlp13_3 r18.2 | omega))⟩ rfl hl.1 rfl (Nat.le_of_ble_eq_true rfl) dX12_worksAround_186 ⟨Nat.le_of_ble_eq_true rfl, Nat.le_of_ble_eq_true rfl⟩) hP hD hK hS hA (fun z717 u718 H locs w719 hP hD hK hS => ?_)
                        obtain ⟨V736, L737⟩ := u718
                        obtain ⟨hMV736, ajV736, axL737, rgz717, t720, t721, t722, t723, t724, t725, t726, t727, t728, t729, t730, t731, t732, t733, t734, t735⟩ := w719
                        have axL737 : L = L737 := Eq.symm axL737
                        subst axL737
                        have hP : va_P D vwCl (mw ad kk ks.1 V736 L) H := hP
                        have hD : va_D A (mw ad kk ks.1 V736 L) := hD
                        have hMV736 : rgd bM V736 := hMV736
                        have ajV736 : agr [(0, 68), (0, 69), (0, 90), (0, 91), (0, 98)] [97] V12 V736 := ajV736
                        have agV736 : agr [(0, 60), (0, 65), (0, 68), (0, 69), (0, 73), (0, 76), (0, 90), (0, 91), (0, 92), (0, 93), (0, 95), (0, 96), (0, 98)] [59, 61, 62, 63, 64, 66, 67, 74, 75, 77, 78, 79, 80, 94, 97] V V736 := agV12.tr ajV736 (by decide) (by decide)
                        have rgz717 : 0 ≤ z717.toInt ∧ z717.toInt ≤ 2 := rgz717
                        have t720 : Imp (((V 45 (Int32.toNatClampNeg y11))).toInt = 1) ((V736 0 98).toInt = (V12 0 98).toInt ∧ ((z717.toInt = 0 ∧ (V736 0 69).toInt = (V12 0 69).toInt + 1 ∧ (V736 0 68).toInt = (V12 0 68).toInt + 1 ∧ (V12 0 69).toInt < 3000 ∧ (V12 0 68).toInt < 60000) ∨ (z717.toInt = 2 ∧ (V736 0 69).toInt = (V12 0 69).toInt ∧ (V736 0 68).toInt = (V12 0 68).toInt ∧ ((V12 0 69).toInt = 3000 ∨ (V12 0 68).toInt = 60000)))) := t720
                        have t721 : Imp (((V 45 (Int32.toNatClampNeg y11))).toInt = 10) (z717.toInt = 1 ∧ (V736 0 98).toInt = (V12 0 98).toInt ∧ (V736 0 90).toInt = 0 ∧ (V736 0 91).toInt = ((V 46 (Int32.toNatClampNeg y11))).toInt) := t721
                        have t722 : Imp (((V 45 (Int32.toNatClampNeg y11))).toInt = 2 ∨ ((V 45 (Int32.toNatClampNeg y11))).toInt = 11) (z717.toInt = 0 ∧ (V736 0 98).toInt = (V12 0 98).toInt + 1) := t722
                        have t723 : Imp (((V 45 (Int32.toNatClampNeg y11))).toInt = 4) (z717.toInt = 0 ∧ (V736 0 98).toInt = (V12 0 98).toInt) := t723
                        have t724 : Imp (5 ≤ ((V 45 (Int32.toNatClampNeg y11))).toInt ∧ ((V 45 (Int32.toNatClampNeg y11))).toInt ≤ 9) (z717.toInt = 0 ∧ (V736 0 98).toInt = (V12 0 98).toInt - 1) := t724
                        have t725 : Imp (((V 45 (Int32.toNatClampNeg y11))).toInt ≠ 1) ((V736 0 69).toInt = (V12 0 69).toInt ∧ (V736 0 68).toInt = (V12 0 68).toInt) := t725
                        have t726 : Imp (((V 45 (Int32.toNatClampNeg y11))).toInt ≠ 10) ((V736 0 90).toInt = (V12 0 90).toInt ∧ (V736 0 91).toInt = (V12 0 91).toInt) := t726
                        have t727 : Imp (((V 45 (Int32.toNatClampNeg y11))).toInt = 2) (V736 97 (Int32.toNatClampNeg (V12 0 98)) = (V 46 (Int32.toNatClampNeg y11)) ∧ ∀ j9, j9 ≠ Int32.toNatClampNeg (V12 0 98) → V736 97 j9 = V12 97 j9) := t727
                        have t728 : Imp (((V 45 (Int32.toNatClampNeg y11))).toInt = 11) (V736 97 (Int32.toNatClampNeg (V12 0 98)) = V12 18 (12 * nwh V12 + Int32.toNatClampNeg (V 46 (Int32.toNatClampNeg y11))) ∧ ∀ j9, j9 ≠ Int32.toNatClampNeg (V12 0 98) → V736 97 j9 = V12 97 j9) := t728
                        have t729 : Imp (((V 45 (Int32.toNatClampNeg y11))).toInt = 4) (∀ t9 : Nat, (V12 0 98).toInt = (t9 : Int) + 1 → V736 97 t9 = -(V12 97 t9) ∧ ∀ j9, j9 < t9 → V736 97 j9 = V12 97 j9) := t729
                        have t730 : Imp (((V 45 (Int32.toNatClampNeg y11))).toInt = 5) (∀ t9 : Nat, (V12 0 98).toInt = (t9 : Int) + 2 → V736 97 t9 = V12 97 t9 * V12 97 (t9 + 1) ∧ ∀ j9, j9 < t9 → V736 97 j9 = V12 97 j9) := t730
                        have t731 : Imp (((V 45 (Int32.toNatClampNeg y11))).toInt = 6) (∀ t9 : Nat, (V12 0 98).toInt = (t9 : Int) + 2 → V736 97 t9 = V12 97 t9 + V12 97 (t9 + 1) ∧ ∀ j9, j9 < t9 → V736 97 j9 = V12 97 j9) := t731
                        have t732 : Imp (((V 45 (Int32.toNatClampNeg y11))).toInt = 7) (∀ t9 : Nat, (V12 0 98).toInt = (t9 : Int) + 2 → V736 97 t9 = V12 97 t9 - V12 97 (t9 + 1) ∧ ∀ j9, j9 < t9 → V736 97 j9 = V12 97 j9) := t732
                        have t733 : Imp (((V 45 (Int32.toNatClampNeg y11))).toInt = 8) (∀ t9 : Nat, (V12 0 98).toInt = (t9 : Int) + 2 → V736 97 t9 = (if (V12 97 t9).toInt < (V12 97 (t9 + 1)).toInt then 1 else 0) ∧ ∀ j9, j9 < t9 → V736 97 j9 = V12 97 j9) := t733
                        have t734 : Imp (((V 45 (Int32.toNatClampNeg y11))).toInt = 9) (∀ t9 : Nat, (V12 0 98).toInt = (t9 : Int) + 2 → V736 97 t9 = (if V12 97 t9 = V12 97 (t9 + 1) then 1 else 0) ∧ ∀ j9, j9 < t9 → V736 97 j9 = V12 97 j9) := t734
                        have t735 : Imp (((V 45 (Int32.toNatClampNeg y11))).toInt = 1 ∨ ((V 45 (Int32.toNatClampNeg y11))).toInt = 10) (∀ j9, V736 97 j9 = V12 97 j9) := t735
                        have r738 : 0 ≤ ((V12 0 68)).toInt ∧ ((V12 0 68)).toInt ≤ 60000 := hMV12 0 68
                        have r739 : 0 ≤ ((V736 0 69)).toInt ∧ ((V736 0 69)).toInt ≤ 3000 := hMV736 0 69
                        have r740 : 0 ≤ ((V736 0 68)).toInt ∧ ((V736 0 68)).toInt ≤ 60000 := hMV736 0 68
                        have r741 : 0 ≤ ((V736 0 98)).toInt ∧ ((V736 0 98)).toInt ≤ 20000 := hMV736 0 98
                        refine lv_istore (lv' := [(9, .int z717), (8, .int z706), (12, .int (V 47 (Int32.toNatClampNeg y11))), (11, .int (V 46 (Int32.toNatClampNeg y11))), (10, .int (V 45 (Int32.toNatClampNeg y11))), (7, .int (V 0 98)), (0, .ref (ad 0)), (1, .int p0), (2, .int p1), (3, .int p2), (4, .int p3), (5, .int p4), (6, .int p5)]) hx hb dX12_worksAround_189 hl (by decide) rfl (fun ls hl => ?_)
                        have im742 := Imp.go t725 (by (first | exact om_7857f0e60d84 hop | omega))
                        have im743 := Imp.go t726 (by (first | exact om_6b766c3769d8 hop | omega))
                        obtain ⟨t5, ek5, h5q⟩ := OQ.i5 og7 (by (first | exact om_0eba2f91d4d3 oi9 | omega))
                        obtain ⟨t4, ht4⟩ : ∃ t4 : Nat, (V12 0 98).toInt = (t4 : Int) + 2 := ⟨(V12 0 98).toInt.toNat - 2, by omega⟩
                        have rk744 := Imp.go t731 (by (first | exact om_4b6cdf2bfd6b hop | omega)) t4 ht4
                        have rk744t := Imp.go t724 (by (first | exact om_5f58aa193e98 hop | omega))
                        have hd4 := plR.hd (t := t4 + 1) (by rw [show t4 + 1 + 1 = (V12 0 98).toInt.toNat from by omega]; exact pl9) (by omega)
                        have tl4 := tl1 (p := gp) (by omega)
                        have hd5 := plR.hd (t := t4) hd4.2 (by omega)
                        have tl5 := tl2 ek5
                        have r745 : 0 ≤ (V12 0 65).toInt := (hMV12 0 65).1
                        have r746 : (V12 0 60).toInt ≤ 300 := (hMV12 0 60).2
                        have r747 : 0 ≤ (V12 0 93).toInt ∧ (V12 0 93).toInt ≤ 10 := hMV12 0 93
                        have ht748 : TRs gB (mV V 0 gt gu, ga, Fwork glv go gc gsc gme 0 ((gat : Nat) : Int) p4 [] :: gr) (mV V12 sg9 t9 k9, a9, Fwork glv go gc gsc gm9 0 (((gi + 1) : Nat) : Int) p4 ((pop1 gp.tail + pop1 gp) :: gp.tail.tail) :: gr) := TRs.st ht9 (SF.mk (show gr.length ≤ 394 from by (first | exact om_87fa92eb9f41 hl9 xlp13_3 r18.2 | omega)) (show gp.length + (totP gr) ≤ 2000 from by (first | exact om_6542cae4e4ce hp9 r7.2 b3 nm9.1 | omega)) (show 0 ≤ (V12 0 65).toInt ∧ (V12 0 65).toInt ≤ 300 from by (first | exact om_65732a9e84ef n1 xlp13_6 r19.2 r20.1 | omega)) (fun h9 => by have h8 : sg9 = 2 := h9; omega) (show ∃ q9, OQ gB _ _ _ _ q9 from ⟨_, og7⟩)) (st_12.trans (or_6 oi9))
                        have on749 := (show ∃ q9, OQ gB (ndW gB gc 0) (decide ((0 : Int) < 0)) (gi + 1) ((pop1 gp.tail + pop1 gp) :: gp.tail.tail).length q9 from by rw [show ((pop1 gp.tail + pop1 gp) :: gp.tail.tail).length = t5 + 1 from congrArg Nat.succ tl5]; exact h5q)
                        have pl750 : plR V736 (V736 0 98).toInt.toNat (((pop1 gp.tail + pop1 gp) :: gp.tail.tail)) := by rw [show (V736 0 98).toInt.toNat = t4 + 1 from by omega]; exact plR.pu hd5.2 (rk744.1.trans (by rw [hd4.1, hd5.1])) rk744.2
                        have ln751 : (((pop1 gp.tail + pop1 gp) :: gp.tail.tail)).length = t5 + 1 := congrArg Nat.succ tl5
                        refine lv_goto (tgt := 12) hx hb dX12_worksAround_191 (by decide) ?_
                        have pq752 : (V736 0 73).toInt = ((V12 0 73)).toInt := congrArg Int32.toInt (ajV736 0 73 rfl)
                        have pq753 : (V736 0 76).toInt = ((V12 0 76)).toInt := congrArg Int32.toInt (ajV736 0 76 rfl)
                        have pq754 : (V736 0 93).toInt = ((V12 0 93)).toInt := congrArg Int32.toInt (ajV736 0 93 rfl)
                        have pq755 : (V736 0 60).toInt = ((V12 0 60)).toInt := congrArg Int32.toInt (ajV736 0 60 rfl)
                        have pq756 : (V736 0 65).toInt = ((V12 0 65)).toInt := congrArg Int32.toInt (ajV736 0 65 rfl)
                        have pq757 : (V736 0 95).toInt = ((V12 0 95)).toInt := congrArg Int32.toInt (ajV736 0 95 rfl)
                        have rt758 : RT V736 := RT.ag xlp13_13 hMV12 (show agr [(0, 68), (0, 69), (0, 90), (0, 91), (0, 98)] [97] V12 V736 from (agr.tr agr.rf ajV736 (by decide) (by decide))) ⟨⟨rfl, fun _ => rfl, fun _ => rfl, fun _ => rfl, fun _ => rfl, fun _ => rfl, fun _ => rfl⟩, by decide, by decide, rfl, rfl, fun _ => rfl, fun _ => rfl, fun _ => rfl, fun _ => rfl, fun _ => rfl, fun _ => rfl⟩ (c0k.ag (show agr [(0, 68), (0, 69), (0, 90), (0, 91), (0, 98)] [97] V12 V736 from (agr.tr agr.rf ajV736 (by decide) (by decide))) rfl)
                        have fm759 : FRM V V736 (-1) := (FRM.tr xlp13_14 (FRM.ag (show agr [(0, 68), (0, 69), (0, 90), (0, 91), (0, 98)] [97] V12 V736 from (agr.tr agr.rf ajV736 (by decide) (by decide))) ⟨⟨rfl, fun _ => rfl, fun _ => rfl, fun _ => rfl, fun _ => rfl, fun _ => rfl, fun _ => rfl⟩, by decide, by decide, rfl, rfl, fun _ => rfl, fun _ => rfl, fun _ => rfl, fun _ => rfl, fun _ => rfl, fun _ => rfl⟩) agV12 ⟨rfl, fun _ => rfl, fun _ => rfl, fun _ => rfl, fun _ => rfl, fun _ => rfl, fun _ => rfl⟩ (by (first | exact om_abdc88b0c8fc xlp13_10 | omega)))
                        have ht760 : TRs gB (mV V 0 gt gu, ga, Fwork glv go gc gsc gme 0 ((gat : Nat) : Int) p4 [] :: gr) (mV V736 sg9 t9 k9, a9, Fwork glv go gc gsc gm9 0 (((gi + 1) : Nat) : Int) p4 ((pop1 gp.tail + pop1 gp) :: gp.tail.tail) :: gr) := by rw [mV_st0 (show agr [(0, 68), (0, 69), (0, 90), (0, 91), (0, 98)] [97] V12 V736 from (agr.tr agr.rf ajV736 (by decide) (by decide))) (by decide) (by omega) (by omega)]; exact ht748
                        have kt762 := i_clamp (x := V12 0 98) rfl (by (first | exact om_eafa9039069c r14.1 | omega))
                        have pw763 := Imp.go t731 (by (first | exact om_4b6cdf2bfd6b hop | omega)) ((V12 0 98).toInt.toNat - 2) (by omega)
                        have pk761 : PLK V V736 (V 0 98).toInt.toNat := PLK.tr xlp13_21 (t2 := (V 0 98).toInt.toNat) (fun j9 hj9 => pw763.2 j9 (by omega)) (Nat.le_refl _)
                        have rj764 : RJm V736 gB := RJm.ag xlp13_22 (show agr [(0, 68), (0, 69), (0, 90), (0, 91), (0, 98)] [97] V12 V736 from (agr.tr agr.rf ajV736 (by decide) (by decide))) (by decide)
                        exact ihlp13 (f) (j + 1) ((gi + 1)) (((pop1 gp.tail + pop1 gp) :: gp.tail.tail)) (gm9) z717 z706 V736 H locs ls (by (first | exact om_8c285ac91b81 rgz717.1 rgz717.2 | omega)) (show 0 ≤ z706.toInt from by (first | exact om_d256ebc631d1 kpc kg9 hz706 | omega)) (Imp.mk (fun hp => have hp : z717.toInt = 0 := hp; (show (V736 0 98).toInt = (V 0 98).toInt + ((j + 1 : Nat) : Int) from by omega))) (Imp.mk (fun hp => have hp : z717.toInt ≠ 2 := hp; (show (V736 0 76).toInt - (V736 0 69).toInt - (V736 0 73).toInt + 1 ≤ (V 0 76).toInt - (V 0 69).toInt - (V 0 73).toInt ∨ (z706.toInt = p0.toInt ∧ (V736 0 76).toInt - (V736 0 69).toInt - (V736 0 73).toInt ≤ (V 0 76).toInt - (V 0 69).toInt - (V 0 73).toInt ∧ z717.toInt = 0) from by (first | exact om_f1197ef27677 im43 hne im742.1 pq752 pq753 | omega)))) (show (V736 0 93).toInt = (V 0 93).toInt from by (first | exact om_cd7d0a6a31bc xlp13_3 pq754 | omega)) (show (V 0 60).toInt ≤ (V736 0 60).toInt from by (first | exact om_a40cdd94799e xlp13_4 pq755 | omega)) (show (V 0 65).toInt ≤ (V736 0 65).toInt from by (first | exact om_a40cdd94799e xlp13_5 pq756 | omega)) (show (V736 0 65).toInt - (V 0 65).toInt ≤ (V736 0 60).toInt - (V 0 60).toInt from by (first | exact om_953d7b5213d2 xlp13_6 pq755 pq756 | omega)) (show (V736 0 73).toInt + (V736 0 95).toInt - (V736 0 65).toInt ≤ (V 0 73).toInt + (V 0 95).toInt - (V 0 65).toInt from by (first | exact om_5b806241d648 xlp13_7 pq752 pq756 pq757 | omega)) (show (V 0 73).toInt ≤ (V736 0 73).toInt from by (first | exact om_a40cdd94799e xlp13_8 pq752 | omega)) (show (V 0 69).toInt ≤ (V736 0 69).toInt from by (first | exact om_a40cdd94799e xlp13_9 im742.1 | omega)) (show (V736 0 95).toInt = (V 0 95).toInt from by (first | exact om_cd7d0a6a31bc xlp13_10 pq757 | omega)) (show (V736 0 76).toInt - (V736 0 69).toInt - (V736 0 73).toInt ≤ (V 0 76).toInt - (V 0 69).toInt - (V 0 73).toInt from by (first | exact om_b2f0e61cd607 xlp13_11 im742.1 pq752 pq753 | omega)) (show 0 ≤ z717.toInt ∧ z717.toInt ≤ 2 from by (first | exact om_8c285ac91b81 rgz717.1 rgz717.2 | omega)) rt758 fm759 (Imp.mk (fun _ => by have e8 : Int32.toNatClampNeg z706 = Int32.toNatClampNeg y11 + 1 := (by have h9 := i_clamp (x := z706) rfl (by (first | exact om_d256ebc631d1 kpc kg9 hz706 | omega)); omega); rw [e8]; exact hw)) (Imp.mk (fun _ => ⟨sg9, t9, k9, a9, sq9, ht760⟩)) (Imp.mk (fun _ => on749)) (Imp.mk (fun _ => pl750)) (Imp.mk (fun hp => have hp : z717.toInt = 0 := hp; (show ((((pop1 gp.tail + pop1 gp) :: gp.tail.tail).length : Nat) : Int) = ((j + 1 : Nat) : Int) ∧ z706.toInt = ((10000 * nwh V + (gi + 1) : Nat) : Int) from by omega))) (Imp.mk (fun hp => by exfalso; (first | exact om_fb320d7600b7 rgz717.1 rk744t.1 hp | omega))) pk761 rj764 (by (first | exact om_bd2466411592 hn | omega)) (agr.tr (agr.tr agr.rf ajV12 (by decide) (by decide)) ajV736 (by decide) (by decide)) hMV736 hP hD hS (lv_sub hl [0, 1, 5, 6, 7, 8, 9, 10, 11, 12] rfl)
                      · skip
                        have f765 : ((V 45 (Int32.toNatClampNeg y11))).toInt = 3 := b_eq rfl (by decide) c715
                        exfalso; (first | exact om_b38287ca5029 hop f765 | omega)
                    · skip
                      have f766 : ((V 45 (Int32.toNatClampNeg y11))).toInt = 14 := b_eq rfl (by decide) c713
                      exfalso; (first | exact om_a04e8917cec1 hop f766 | omega)
                  · skip
                    have f767 : ((V 45 (Int32.toNatClampNeg y11))).toInt = 15 := b_eq rfl (by decide) c711
                    exfalso; (first | exact om_269ac9255ace hop f767 | omega)
                · skip
                  have f768 : ((V 45 (Int32.toNatClampNeg y11))).toInt = 12 := b_eq rfl (by decide) c709
                  exfalso; (first | exact om_f309d6385888 hop f768 | omega)
              · skip
                have f769 : ((V 45 (Int32.toNatClampNeg y11))).toInt = 13 := b_eq rfl (by decide) c707
                exfalso; (first | exact om_26d00c385213 hop f769 | omega)
          · skip
            have hop : (V 45 (Int32.toNatClampNeg y11)).toInt = 7 := hf7
            have oi9 : opf gB.1 gi = 7 := by have h9 : _ = ((opf gB.1 gi : Nat) : Int) := cd9.1; omega
            have hne : y11.toInt ≠ p0.toInt := fun h9 => by have e9 : y11 = p0 := Int32.toInt_inj.mp h9; rw [e9] at hop; omega
            refine lv_aload_n hx hb dX12_worksAround_17 rfl (lv_at hl 3 rfl) ?_
            refine va_get (D := D) (ci := 12) (v := .ref (ad 45)) (C := RX12) (T := TX12) (N := 100) hx hb hg inX12 hown hK hP 0 rfl rfl 45 (by decide) (hg _ w1751) (fun _ h9 => h9) rfl dX12_worksAround_18 ?_
            refine lv_iload hx hb dX12_worksAround_21 (lv_at hl 1 rfl) ?_
            refine va_iald (D := D) (i := y11) hx hb hK hP 38 37 rfl rfl (i_in (a := y11.toInt) rfl (by (first | exact om_943ab426fd09 hq b2 kpc | omega))) dX12_worksAround_23 ?_
            refine g_top (v := (V 45 (Int32.toNatClampNeg y11))) (ajV12 45 (Int32.toNatClampNeg y11) rfl) ?_
            refine lv_if_eq (tgt := 194) hx hb dX12_worksAround_24 (by decide) (fun c770 => ?_) (fun c770 => ?_)
            · skip
              have f771 : ((V 45 (Int32.toNatClampNeg y11))).toInt = 0 := b_eq rfl (by decide) c770
              exfalso; (first | exact om_81ddc7f3d9eb hop f771 | omega)
            · skip
              have f772 : ((V 45 (Int32.toNatClampNeg y11))).toInt ≠ 0 := b_neq rfl (by decide) c770
              refine lv_aload_n hx hb dX12_worksAround_27 rfl (lv_at hl 3 rfl) ?_
              refine va_get (D := D) (ci := 12) (v := .ref (ad 45)) (C := RX12) (T := TX12) (N := 100) hx hb hg inX12 hown hK hP 0 rfl rfl 45 (by decide) (hg _ w1751) (fun _ h9 => h9) rfl dX12_worksAround_28 ?_
              refine lv_iload hx hb dX12_worksAround_31 (lv_at hl 1 rfl) ?_
              refine va_iald (D := D) (i := y11) hx hb hK hP 38 37 rfl rfl (i_in (a := y11.toInt) rfl (by (first | exact om_943ab426fd09 hq b2 kpc | omega))) dX12_worksAround_33 ?_
              refine g_top (v := (V 45 (Int32.toNatClampNeg y11))) (ajV12 45 (Int32.toNatClampNeg y11) rfl) ?_
              refine lv_istore (lv' := [(10, .int (V 45 (Int32.toNatClampNeg y11))), (9, .int y10), (8, .int y11), (7, .int (V 0 98)), (0, .ref (ad 0)), (1, .int p0), (2, .int p1), (3, .int p2), (4, .int p3), (5, .int p4), (6, .int p5)]) hx hb dX12_worksAround_34 hl (by decide) rfl (fun ls hl => ?_)
              refine lv_aload_n hx hb dX12_worksAround_36 rfl (lv_at hl 4 rfl) ?_
              refine va_get (D := D) (ci := 12) (v := .ref (ad 46)) (C := RX12) (T := TX12) (N := 100) hx hb hg inX12 hown hK hP 0 rfl rfl 46 (by decide) (hg _ w1752) (fun _ h9 => h9) rfl dX12_worksAround_37 ?_
              refine lv_iload hx hb dX12_worksAround_40 (lv_at hl 2 rfl) ?_
              refine va_iald (D := D) (i := y11) hx hb hK hP 39 38 rfl rfl (i_in (a := y11.toInt) rfl (by (first | exact om_943ab426fd09 hq b2 kpc | omega))) dX12_worksAround_42 ?_
              refine g_top (v := (V 46 (Int32.toNatClampNeg y11))) (ajV12 46 (Int32.toNatClampNeg y11) rfl) ?_
              refine lv_istore (lv' := [(11, .int (V 46 (Int32.toNatClampNeg y11))), (10, .int (V 45 (Int32.toNatClampNeg y11))), (9, .int y10), (8, .int y11), (7, .int (V 0 98)), (0, .ref (ad 0)), (1, .int p0), (2, .int p1), (3, .int p2), (4, .int p3), (5, .int p4), (6, .int p5)]) hx hb dX12_worksAround_43 hl (by decide) rfl (fun ls hl => ?_)
              refine lv_aload_n hx hb dX12_worksAround_45 rfl (lv_at hl 5 rfl) ?_
              refine va_get (D := D) (ci := 12) (v := .ref (ad 47)) (C := RX12) (T := TX12) (N := 100) hx hb hg inX12 hown hK hP 0 rfl rfl 47 (by decide) (hg _ w1753) (fun _ h9 => h9) rfl dX12_worksAround_46 ?_
              refine lv_iload hx hb dX12_worksAround_49 (lv_at hl 3 rfl) ?_
              refine va_iald (D := D) (i := y11) hx hb hK hP 40 39 rfl rfl (i_in (a := y11.toInt) rfl (by (first | exact om_943ab426fd09 hq b2 kpc | omega))) dX12_worksAround_51 ?_
              refine g_top (v := (V 47 (Int32.toNatClampNeg y11))) (ajV12 47 (Int32.toNatClampNeg y11) rfl) ?_
              refine lv_istore (lv' := [(12, .int (V 47 (Int32.toNatClampNeg y11))), (11, .int (V 46 (Int32.toNatClampNeg y11))), (10, .int (V 45 (Int32.toNatClampNeg y11))), (9, .int y10), (8, .int y11), (7, .int (V 0 98)), (0, .ref (ad 0)), (1, .int p0), (2, .int p1), (3, .int p2), (4, .int p3), (5, .int p4), (6, .int p5)]) hx hb dX12_worksAround_52 hl (by decide) rfl (fun ls hl => ?_)
              obtain ⟨z773, ez773⟩ : ∃ y : Int32, y = y11 + 1 := ⟨_, rfl⟩
              have hz773 : z773.toInt = y11.toInt + 1 := i_add ez773 rfl (by decide) (by (first | exact om_084b5c89eefe hq b2 kpc | omega))
              refine lv_iinc (v := z773) (lv' := [(8, .int z773), (12, .int (V 47 (Int32.toNatClampNeg y11))), (11, .int (V 46 (Int32.toNatClampNeg y11))), (10, .int (V 45 (Int32.toNatClampNeg y11))), (9, .int y10), (7, .int (V 0 98)), (0, .ref (ad 0)), (1, .int p0), (2, .int p1), (3, .int p2), (4, .int p3), (5, .int p4), (6, .int p5)]) hx hb dX12_worksAround_54 hl (k := 4) rfl (by rw [ez773]; rfl) (by decide) rfl (fun ls hl => ?_)
              refine lv_iload hx hb dX12_worksAround_57 (lv_at hl 3 rfl) ?_
              refine lv_bipush (v := 13) hx hb dX12_worksAround_59 (by decide) ?_
              refine lv_icmp_ne (tgt := 71) hx hb dX12_worksAround_61 (by decide) (fun c774 => ?_) (fun c774 => ?_)
              · skip
                have f775 : ((V 45 (Int32.toNatClampNeg y11))).toInt ≠ 13 := b_neq rfl (by decide) c774
                refine lv_iload hx hb dX12_worksAround_71 (lv_at hl 3 rfl) ?_
                refine lv_bipush (v := 12) hx hb dX12_worksAround_73 (by decide) ?_
                refine lv_icmp_ne (tgt := 97) hx hb dX12_worksAround_75 (by decide) (fun c776 => ?_) (fun c776 => ?_)
                · skip
                  have f777 : ((V 45 (Int32.toNatClampNeg y11))).toInt ≠ 12 := b_neq rfl (by decide) c776
                  refine lv_iload hx hb dX12_worksAround_97 (lv_at hl 3 rfl) ?_
                  refine lv_bipush (v := 15) hx hb dX12_worksAround_99 (by decide) ?_
                  refine lv_icmp_ne (tgt := 131) hx hb dX12_worksAround_101 (by decide) (fun c778 => ?_) (fun c778 => ?_)
                  · skip
                    have f779 : ((V 45 (Int32.toNatClampNeg y11))).toInt ≠ 15 := b_neq rfl (by decide) c778
                    refine lv_iload hx hb dX12_worksAround_131 (lv_at hl 3 rfl) ?_
                    refine lv_bipush (v := 14) hx hb dX12_worksAround_133 (by decide) ?_
                    refine lv_icmp_ne (tgt := 166) hx hb dX12_worksAround_135 (by decide) (fun c780 => ?_) (fun c780 => ?_)
                    · skip
                      have f781 : ((V 45 (Int32.toNatClampNeg y11))).toInt ≠ 14 := b_neq rfl (by decide) c780
                      refine lv_iload hx hb dX12_worksAround_166 (lv_at hl 3 rfl) ?_
                      refine lv_iconst (v := 3) hx hb dX12_worksAround_168 (by decide) ?_
                      refine lv_icmp_ne (tgt := 181) hx hb dX12_worksAround_169 (by decide) (fun c782 => ?_) (fun c782 => ?_)
                      · skip
                        have f783 : ((V 45 (Int32.toNatClampNeg y11))).toInt ≠ 3 := b_neq rfl (by decide) c782
                        refine lv_aload_n hx hb dX12_worksAround_181 rfl (lv_at hl 6 rfl) ?_
                        refine lv_iload hx hb dX12_worksAround_182 (lv_at hl 3 rfl) ?_
                        refine lv_iload hx hb dX12_worksAround_184 (lv_at hl 2 rfl) ?_
                        refine gA_int (gA_runV (As := [.int (V 45 (Int32.toNatClampNeg y11)), .int (V 46 (Int32.toNatClampNeg y11))]) (rest := []) (ci := 12) (q0 := 0) hx hb hml hown hg hP hD hK hS hA hnw hgk (s_reckons3 l D ks H.size ad kk V12 L (V 45 (Int32.toNatClampNeg y11)) (V 46 (Int32.toNatClampNeg y11)) hMV12 (by (first | exact om_d626c53883f1 hop | omega)) (Imp.mk (fun hp => have hp : ((V 45 (Int32.toNatClampNeg y11))).toInt = 11 := hp; (show 0 ≤ ((V 46 (Int32.toNatClampNeg y11))).toInt ∧ ((V 46 (Int32.toNatClampNeg y11))).toInt ≤ 11 from by omega))) (Imp.mk (fun hp => have hp : ((V 45 (Int32.toNatClampNeg y11))).toInt = 2 ∨ ((V 45 (Int32.toNatClampNeg y11))).toInt = 11 := hp; (show (V12 0 98).toInt ≤ 19999 from by (first | exact om_53b561447de2 n6 n7 r7.2 b3 im42 | omega)))) (Imp.mk (fun hp => have hp : ((V 45 (Int32.toNatClampNeg y11))).toInt = 4 := hp; (show 1 ≤ (V12 0 98).toInt from by omega))) (Imp.mk (fun hp => have hp : 5 ≤ ((V 45 (Int32.toNatClampNeg y11))).toInt ∧ ((V 45 (Int32.toNatClampNeg y11))).toInt ≤ 9 := hp; (show 2 ≤ (V12 0 98).toInt from by omega))) (show ((V 45 (Int32.toNatClampNeg y11))).toInt ≠ 3 from by (first | exact om_37ccd7b5116d hop | omega))) w2324 w2326 w150 w172 w2327 rfl rfl hdV_yX12_reckons ⟨(by show (1) + 1 ≤ (4 * d1 + 40 * d2 + 11); (first | exact om_1d3ee3ce7f7a n5 n6 r2.2 xlp13_3 r18.2 | omega)), (by show 8 + (5 + 11) + (21) ≤ (100 * d1 + 1000 * d2 + 410); (first | exact om_d7d7af4cd1f0 n5 n6 r2.2 xlp13_3 r18.2 | omega))⟩ rfl hl.1 rfl (Nat.le_of_ble_eq_true rfl) dX12_worksAround_186 ⟨Nat.le_of_ble_eq_true rfl, Nat.le_of_ble_eq_true rfl⟩) hP hD hK hS hA (fun z784 u785 H locs w786 hP hD hK hS => ?_)
                        obtain ⟨V803, L804⟩ := u785
                        obtain ⟨hMV803, ajV803, axL804, rgz784, t787, t788, t789, t790, t791, t792, t793, t794, t795, t796, t797, t798, t799, t800, t801, t802⟩ := w786
                        have axL804 : L = L804 := Eq.symm axL804
                        subst axL804
                        have hP : va_P D vwCl (mw ad kk ks.1 V803 L) H := hP
                        have hD : va_D A (mw ad kk ks.1 V803 L) := hD
                        have hMV803 : rgd bM V803 := hMV803
                        have ajV803 : agr [(0, 68), (0, 69), (0, 90), (0, 91), (0, 98)] [97] V12 V803 := ajV803
                        have agV803 : agr [(0, 60), (0, 65), (0, 68), (0, 69), (0, 73), (0, 76), (0, 90), (0, 91), (0, 92), (0, 93), (0, 95), (0, 96), (0, 98)] [59, 61, 62, 63, 64, 66, 67, 74, 75, 77, 78, 79, 80, 94, 97] V V803 := agV12.tr ajV803 (by decide) (by decide)
                        have rgz784 : 0 ≤ z784.toInt ∧ z784.toInt ≤ 2 := rgz784
                        have t787 : Imp (((V 45 (Int32.toNatClampNeg y11))).toInt = 1) ((V803 0 98).toInt = (V12 0 98).toInt ∧ ((z784.toInt = 0 ∧ (V803 0 69).toInt = (V12 0 69).toInt + 1 ∧ (V803 0 68).toInt = (V12 0 68).toInt + 1 ∧ (V12 0 69).toInt < 3000 ∧ (V12 0 68).toInt < 60000) ∨ (z784.toInt = 2 ∧ (V803 0 69).toInt = (V12 0 69).toInt ∧ (V803 0 68).toInt = (V12 0 68).toInt ∧ ((V12 0 69).toInt = 3000 ∨ (V12 0 68).toInt = 60000)))) := t787
                        have t788 : Imp (((V 45 (Int32.toNatClampNeg y11))).toInt = 10) (z784.toInt = 1 ∧ (V803 0 98).toInt = (V12 0 98).toInt ∧ (V803 0 90).toInt = 0 ∧ (V803 0 91).toInt = ((V 46 (Int32.toNatClampNeg y11))).toInt) := t788
                        have t789 : Imp (((V 45 (Int32.toNatClampNeg y11))).toInt = 2 ∨ ((V 45 (Int32.toNatClampNeg y11))).toInt = 11) (z784.toInt = 0 ∧ (V803 0 98).toInt = (V12 0 98).toInt + 1) := t789
                        have t790 : Imp (((V 45 (Int32.toNatClampNeg y11))).toInt = 4) (z784.toInt = 0 ∧ (V803 0 98).toInt = (V12 0 98).toInt) := t790
                        have t791 : Imp (5 ≤ ((V 45 (Int32.toNatClampNeg y11))).toInt ∧ ((V 45 (Int32.toNatClampNeg y11))).toInt ≤ 9) (z784.toInt = 0 ∧ (V803 0 98).toInt = (V12 0 98).toInt - 1) := t791
                        have t792 : Imp (((V 45 (Int32.toNatClampNeg y11))).toInt ≠ 1) ((V803 0 69).toInt = (V12 0 69).toInt ∧ (V803 0 68).toInt = (V12 0 68).toInt) := t792
                        have t793 : Imp (((V 45 (Int32.toNatClampNeg y11))).toInt ≠ 10) ((V803 0 90).toInt = (V12 0 90).toInt ∧ (V803 0 91).toInt = (V12 0 91).toInt) := t793
                        have t794 : Imp (((V 45 (Int32.toNatClampNeg y11))).toInt = 2) (V803 97 (Int32.toNatClampNeg (V12 0 98)) = (V 46 (Int32.toNatClampNeg y11)) ∧ ∀ j9, j9 ≠ Int32.toNatClampNeg (V12 0 98) → V803 97 j9 = V12 97 j9) := t794
                        have t795 : Imp (((V 45 (Int32.toNatClampNeg y11))).toInt = 11) (V803 97 (Int32.toNatClampNeg (V12 0 98)) = V12 18 (12 * nwh V12 + Int32.toNatClampNeg (V 46 (Int32.toNatClampNeg y11))) ∧ ∀ j9, j9 ≠ Int32.toNatClampNeg (V12 0 98) → V803 97 j9 = V12 97 j9) := t795
                        have t796 : Imp (((V 45 (Int32.toNatClampNeg y11))).toInt = 4) (∀ t9 : Nat, (V12 0 98).toInt = (t9 : Int) + 1 → V803 97 t9 = -(V12 97 t9) ∧ ∀ j9, j9 < t9 → V803 97 j9 = V12 97 j9) := t796
                        have t797 : Imp (((V 45 (Int32.toNatClampNeg y11))).toInt = 5) (∀ t9 : Nat, (V12 0 98).toInt = (t9 : Int) + 2 → V803 97 t9 = V12 97 t9 * V12 97 (t9 + 1) ∧ ∀ j9, j9 < t9 → V803 97 j9 = V12 97 j9) := t797
                        have t798 : Imp (((V 45 (Int32.toNatClampNeg y11))).toInt = 6) (∀ t9 : Nat, (V12 0 98).toInt = (t9 : Int) + 2 → V803 97 t9 = V12 97 t9 + V12 97 (t9 + 1) ∧ ∀ j9, j9 < t9 → V803 97 j9 = V12 97 j9) := t798
                        have t799 : Imp (((V 45 (Int32.toNatClampNeg y11))).toInt = 7) (∀ t9 : Nat, (V12 0 98).toInt = (t9 : Int) + 2 → V803 97 t9 = V12 97 t9 - V12 97 (t9 + 1) ∧ ∀ j9, j9 < t9 → V803 97 j9 = V12 97 j9) := t799
                        have t800 : Imp (((V 45 (Int32.toNatClampNeg y11))).toInt = 8) (∀ t9 : Nat, (V12 0 98).toInt = (t9 : Int) + 2 → V803 97 t9 = (if (V12 97 t9).toInt < (V12 97 (t9 + 1)).toInt then 1 else 0) ∧ ∀ j9, j9 < t9 → V803 97 j9 = V12 97 j9) := t800
                        have t801 : Imp (((V 45 (Int32.toNatClampNeg y11))).toInt = 9) (∀ t9 : Nat, (V12 0 98).toInt = (t9 : Int) + 2 → V803 97 t9 = (if V12 97 t9 = V12 97 (t9 + 1) then 1 else 0) ∧ ∀ j9, j9 < t9 → V803 97 j9 = V12 97 j9) := t801
                        have t802 : Imp (((V 45 (Int32.toNatClampNeg y11))).toInt = 1 ∨ ((V 45 (Int32.toNatClampNeg y11))).toInt = 10) (∀ j9, V803 97 j9 = V12 97 j9) := t802
                        have r805 : 0 ≤ ((V12 0 68)).toInt ∧ ((V12 0 68)).toInt ≤ 60000 := hMV12 0 68
                        have r806 : 0 ≤ ((V803 0 69)).toInt ∧ ((V803 0 69)).toInt ≤ 3000 := hMV803 0 69
                        have r807 : 0 ≤ ((V803 0 68)).toInt ∧ ((V803 0 68)).toInt ≤ 60000 := hMV803 0 68
                        have r808 : 0 ≤ ((V803 0 98)).toInt ∧ ((V803 0 98)).toInt ≤ 20000 := hMV803 0 98
                        refine lv_istore (lv' := [(9, .int z784), (8, .int z773), (12, .int (V 47 (Int32.toNatClampNeg y11))), (11, .int (V 46 (Int32.toNatClampNeg y11))), (10, .int (V 45 (Int32.toNatClampNeg y11))), (7, .int (V 0 98)), (0, .ref (ad 0)), (1, .int p0), (2, .int p1), (3, .int p2), (4, .int p3), (5, .int p4), (6, .int p5)]) hx hb dX12_worksAround_189 hl (by decide) rfl (fun ls hl => ?_)
                        have im809 := Imp.go t792 (by (first | exact om_44ec4d156a09 hop | omega))
                        have im810 := Imp.go t793 (by (first | exact om_efbaa4eebb47 hop | omega))
                        obtain ⟨t5, ek5, h5q⟩ := OQ.i5 og7 (by (first | exact om_4a0f76a3a829 oi9 | omega))
                        obtain ⟨t4, ht4⟩ : ∃ t4 : Nat, (V12 0 98).toInt = (t4 : Int) + 2 := ⟨(V12 0 98).toInt.toNat - 2, by omega⟩
                        have rk811 := Imp.go t799 (by (first | exact om_ba873a6da76b hop | omega)) t4 ht4
                        have rk811t := Imp.go t791 (by (first | exact om_ffe63225619c hop | omega))
                        have hd4 := plR.hd (t := t4 + 1) (by rw [show t4 + 1 + 1 = (V12 0 98).toInt.toNat from by omega]; exact pl9) (by omega)
                        have tl4 := tl1 (p := gp) (by omega)
                        have hd5 := plR.hd (t := t4) hd4.2 (by omega)
                        have tl5 := tl2 ek5
                        have r812 : 0 ≤ (V12 0 65).toInt := (hMV12 0 65).1
                        have r813 : (V12 0 60).toInt ≤ 300 := (hMV12 0 60).2
                        have r814 : 0 ≤ (V12 0 93).toInt ∧ (V12 0 93).toInt ≤ 10 := hMV12 0 93
                        have ht815 : TRs gB (mV V 0 gt gu, ga, Fwork glv go gc gsc gme 0 ((gat : Nat) : Int) p4 [] :: gr) (mV V12 sg9 t9 k9, a9, Fwork glv go gc gsc gm9 0 (((gi + 1) : Nat) : Int) p4 ((pop1 gp.tail - pop1 gp) :: gp.tail.tail) :: gr) := TRs.st ht9 (SF.mk (show gr.length ≤ 394 from by (first | exact om_87fa92eb9f41 hl9 xlp13_3 r18.2 | omega)) (show gp.length + (totP gr) ≤ 2000 from by (first | exact om_6542cae4e4ce hp9 r7.2 b3 nm9.1 | omega)) (show 0 ≤ (V12 0 65).toInt ∧ (V12 0 65).toInt ≤ 300 from by (first | exact om_65732a9e84ef n1 xlp13_6 r19.2 r20.1 | omega)) (fun h9 => by have h8 : sg9 = 2 := h9; omega) (show ∃ q9, OQ gB _ _ _ _ q9 from ⟨_, og7⟩)) (st_12.trans (or_7 oi9))
                        have on816 := (show ∃ q9, OQ gB (ndW gB gc 0) (decide ((0 : Int) < 0)) (gi + 1) ((pop1 gp.tail - pop1 gp) :: gp.tail.tail).length q9 from by rw [show ((pop1 gp.tail - pop1 gp) :: gp.tail.tail).length = t5 + 1 from congrArg Nat.succ tl5]; exact h5q)
                        have pl817 : plR V803 (V803 0 98).toInt.toNat (((pop1 gp.tail - pop1 gp) :: gp.tail.tail)) := by rw [show (V803 0 98).toInt.toNat = t4 + 1 from by omega]; exact plR.pu hd5.2 (rk811.1.trans (by rw [hd4.1, hd5.1])) rk811.2
                        have ln818 : (((pop1 gp.tail - pop1 gp) :: gp.tail.tail)).length = t5 + 1 := congrArg Nat.succ tl5
                        refine lv_goto (tgt := 12) hx hb dX12_worksAround_191 (by decide) ?_
                        have pq819 : (V803 0 73).toInt = ((V12 0 73)).toInt := congrArg Int32.toInt (ajV803 0 73 rfl)
                        have pq820 : (V803 0 76).toInt = ((V12 0 76)).toInt := congrArg Int32.toInt (ajV803 0 76 rfl)
                        have pq821 : (V803 0 93).toInt = ((V12 0 93)).toInt := congrArg Int32.toInt (ajV803 0 93 rfl)
                        have pq822 : (V803 0 60).toInt = ((V12 0 60)).toInt := congrArg Int32.toInt (ajV803 0 60 rfl)
                        have pq823 : (V803 0 65).toInt = ((V12 0 65)).toInt := congrArg Int32.toInt (ajV803 0 65 rfl)
                        have pq824 : (V803 0 95).toInt = ((V12 0 95)).toInt := congrArg Int32.toInt (ajV803 0 95 rfl)
                        have rt825 : RT V803 := RT.ag xlp13_13 hMV12 (show agr [(0, 68), (0, 69), (0, 90), (0, 91), (0, 98)] [97] V12 V803 from (agr.tr agr.rf ajV803 (by decide) (by decide))) ⟨⟨rfl, fun _ => rfl, fun _ => rfl, fun _ => rfl, fun _ => rfl, fun _ => rfl, fun _ => rfl⟩, by decide, by decide, rfl, rfl, fun _ => rfl, fun _ => rfl, fun _ => rfl, fun _ => rfl, fun _ => rfl, fun _ => rfl⟩ (c0k.ag (show agr [(0, 68), (0, 69), (0, 90), (0, 91), (0, 98)] [97] V12 V803 from (agr.tr agr.rf ajV803 (by decide) (by decide))) rfl)
                        have fm826 : FRM V V803 (-1) := (FRM.tr xlp13_14 (FRM.ag (show agr [(0, 68), (0, 69), (0, 90), (0, 91), (0, 98)] [97] V12 V803 from (agr.tr agr.rf ajV803 (by decide) (by decide))) ⟨⟨rfl, fun _ => rfl, fun _ => rfl, fun _ => rfl, fun _ => rfl, fun _ => rfl, fun _ => rfl⟩, by decide, by decide, rfl, rfl, fun _ => rfl, fun _ => rfl, fun _ => rfl, fun _ => rfl, fun _ => rfl, fun _ => rfl⟩) agV12 ⟨rfl, fun _ => rfl, fun _ => rfl, fun _ => rfl, fun _ => rfl, fun _ => rfl, fun _ => rfl⟩ (by (first | exact om_abdc88b0c8fc xlp13_10 | omega)))
                        have ht827 : TRs gB (mV V 0 gt gu, ga, Fwork glv go gc gsc gme 0 ((gat : Nat) : Int) p4 [] :: gr) (mV V803 sg9 t9 k9, a9, Fwork glv go gc gsc gm9 0 (((gi + 1) : Nat) : Int) p4 ((pop1 gp.tail - pop1 gp) :: gp.tail.tail) :: gr) := by rw [mV_st0 (show agr [(0, 68), (0, 69), (0, 90), (0, 91), (0, 98)] [97] V12 V803 from (agr.tr agr.rf ajV803 (by decide) (by decide))) (by decide) (by omega) (by omega)]; exact ht815
                        have kt829 := i_clamp (x := V12 0 98) rfl (by (first | exact om_eafa9039069c r14.1 | omega))
                        have pw830 := Imp.go t799 (by (first | exact om_ba873a6da76b hop | omega)) ((V12 0 98).toInt.toNat - 2) (by omega)
                        have pk828 : PLK V V803 (V 0 98).toInt.toNat := PLK.tr xlp13_21 (t2 := (V 0 98).toInt.toNat) (fun j9 hj9 => pw830.2 j9 (by omega)) (Nat.le_refl _)
                        have rj831 : RJm V803 gB := RJm.ag xlp13_22 (show agr [(0, 68), (0, 69), (0, 90), (0, 91), (0, 98)] [97] V12 V803 from (agr.tr agr.rf ajV803 (by decide) (by decide))) (by decide)
                        exact ihlp13 (f) (j + 1) ((gi + 1)) (((pop1 gp.tail - pop1 gp) :: gp.tail.tail)) (gm9) z784 z773 V803 H locs ls (by (first | exact om_8c285ac91b81 rgz784.1 rgz784.2 | omega)) (show 0 ≤ z773.toInt from by (first | exact om_d256ebc631d1 kpc kg9 hz773 | omega)) (Imp.mk (fun hp => have hp : z784.toInt = 0 := hp; (show (V803 0 98).toInt = (V 0 98).toInt + ((j + 1 : Nat) : Int) from by omega))) (Imp.mk (fun hp => have hp : z784.toInt ≠ 2 := hp; (show (V803 0 76).toInt - (V803 0 69).toInt - (V803 0 73).toInt + 1 ≤ (V 0 76).toInt - (V 0 69).toInt - (V 0 73).toInt ∨ (z773.toInt = p0.toInt ∧ (V803 0 76).toInt - (V803 0 69).toInt - (V803 0 73).toInt ≤ (V 0 76).toInt - (V 0 69).toInt - (V 0 73).toInt ∧ z784.toInt = 0) from by (first | exact om_f1197ef27677 im43 hne im809.1 pq819 pq820 | omega)))) (show (V803 0 93).toInt = (V 0 93).toInt from by (first | exact om_cd7d0a6a31bc xlp13_3 pq821 | omega)) (show (V 0 60).toInt ≤ (V803 0 60).toInt from by (first | exact om_a40cdd94799e xlp13_4 pq822 | omega)) (show (V 0 65).toInt ≤ (V803 0 65).toInt from by (first | exact om_a40cdd94799e xlp13_5 pq823 | omega)) (show (V803 0 65).toInt - (V 0 65).toInt ≤ (V803 0 60).toInt - (V 0 60).toInt from by (first | exact om_953d7b5213d2 xlp13_6 pq822 pq823 | omega)) (show (V803 0 73).toInt + (V803 0 95).toInt - (V803 0 65).toInt ≤ (V 0 73).toInt + (V 0 95).toInt - (V 0 65).toInt from by (first | exact om_5b806241d648 xlp13_7 pq819 pq823 pq824 | omega)) (show (V 0 73).toInt ≤ (V803 0 73).toInt from by (first | exact om_a40cdd94799e xlp13_8 pq819 | omega)) (show (V 0 69).toInt ≤ (V803 0 69).toInt from by (first | exact om_a40cdd94799e xlp13_9 im809.1 | omega)) (show (V803 0 95).toInt = (V 0 95).toInt from by (first | exact om_cd7d0a6a31bc xlp13_10 pq824 | omega)) (show (V803 0 76).toInt - (V803 0 69).toInt - (V803 0 73).toInt ≤ (V 0 76).toInt - (V 0 69).toInt - (V 0 73).toInt from by (first | exact om_b2f0e61cd607 xlp13_11 im809.1 pq819 pq820 | omega)) (show 0 ≤ z784.toInt ∧ z784.toInt ≤ 2 from by (first | exact om_8c285ac91b81 rgz784.1 rgz784.2 | omega)) rt825 fm826 (Imp.mk (fun _ => by have e8 : Int32.toNatClampNeg z773 = Int32.toNatClampNeg y11 + 1 := (by have h9 := i_clamp (x := z773) rfl (by (first | exact om_d256ebc631d1 kpc kg9 hz773 | omega)); omega); rw [e8]; exact hw)) (Imp.mk (fun _ => ⟨sg9, t9, k9, a9, sq9, ht827⟩)) (Imp.mk (fun _ => on816)) (Imp.mk (fun _ => pl817)) (Imp.mk (fun hp => have hp : z784.toInt = 0 := hp; (show ((((pop1 gp.tail - pop1 gp) :: gp.tail.tail).length : Nat) : Int) = ((j + 1 : Nat) : Int) ∧ z773.toInt = ((10000 * nwh V + (gi + 1) : Nat) : Int) from by omega))) (Imp.mk (fun hp => by exfalso; (first | exact om_fb320d7600b7 rgz784.1 rk811t.1 hp | omega))) pk828 rj831 (by (first | exact om_bd2466411592 hn | omega)) (agr.tr (agr.tr agr.rf ajV12 (by decide) (by decide)) ajV803 (by decide) (by decide)) hMV803 hP hD hS (lv_sub hl [0, 1, 5, 6, 7, 8, 9, 10, 11, 12] rfl)
                      · skip
                        have f832 : ((V 45 (Int32.toNatClampNeg y11))).toInt = 3 := b_eq rfl (by decide) c782
                        exfalso; (first | exact om_3d536421c2f2 hop f832 | omega)
                    · skip
                      have f833 : ((V 45 (Int32.toNatClampNeg y11))).toInt = 14 := b_eq rfl (by decide) c780
                      exfalso; (first | exact om_27d3ee26b7aa hop f833 | omega)
                  · skip
                    have f834 : ((V 45 (Int32.toNatClampNeg y11))).toInt = 15 := b_eq rfl (by decide) c778
                    exfalso; (first | exact om_1f232cf6ece1 hop f834 | omega)
                · skip
                  have f835 : ((V 45 (Int32.toNatClampNeg y11))).toInt = 12 := b_eq rfl (by decide) c776
                  exfalso; (first | exact om_6798246221ef hop f835 | omega)
              · skip
                have f836 : ((V 45 (Int32.toNatClampNeg y11))).toInt = 13 := b_eq rfl (by decide) c774
                exfalso; (first | exact om_5e297478323c hop f836 | omega)
          · skip
            have hop : (V 45 (Int32.toNatClampNeg y11)).toInt = 8 := hf8
            have oi9 : opf gB.1 gi = 8 := by have h9 : _ = ((opf gB.1 gi : Nat) : Int) := cd9.1; omega
            have hne : y11.toInt ≠ p0.toInt := fun h9 => by have e9 : y11 = p0 := Int32.toInt_inj.mp h9; rw [e9] at hop; omega
            refine lv_aload_n hx hb dX12_worksAround_17 rfl (lv_at hl 3 rfl) ?_
            refine va_get (D := D) (ci := 12) (v := .ref (ad 45)) (C := RX12) (T := TX12) (N := 100) hx hb hg inX12 hown hK hP 0 rfl rfl 45 (by decide) (hg _ w1751) (fun _ h9 => h9) rfl dX12_worksAround_18 ?_
            refine lv_iload hx hb dX12_worksAround_21 (lv_at hl 1 rfl) ?_
            refine va_iald (D := D) (i := y11) hx hb hK hP 38 37 rfl rfl (i_in (a := y11.toInt) rfl (by (first | exact om_943ab426fd09 hq b2 kpc | omega))) dX12_worksAround_23 ?_
            refine g_top (v := (V 45 (Int32.toNatClampNeg y11))) (ajV12 45 (Int32.toNatClampNeg y11) rfl) ?_
            refine lv_if_eq (tgt := 194) hx hb dX12_worksAround_24 (by decide) (fun c837 => ?_) (fun c837 => ?_)
            · skip
              have f838 : ((V 45 (Int32.toNatClampNeg y11))).toInt = 0 := b_eq rfl (by decide) c837
              exfalso; (first | exact om_32d002c9850f hop f838 | omega)
            · skip
              have f839 : ((V 45 (Int32.toNatClampNeg y11))).toInt ≠ 0 := b_neq rfl (by decide) c837
              refine lv_aload_n hx hb dX12_worksAround_27 rfl (lv_at hl 3 rfl) ?_
              refine va_get (D := D) (ci := 12) (v := .ref (ad 45)) (C := RX12) (T := TX12) (N := 100) hx hb hg inX12 hown hK hP 0 rfl rfl 45 (by decide) (hg _ w1751) (fun _ h9 => h9) rfl dX12_worksAround_28 ?_
              refine lv_iload hx hb dX12_worksAround_31 (lv_at hl 1 rfl) ?_
              refine va_iald (D := D) (i := y11) hx hb hK hP 38 37 rfl rfl (i_in (a := y11.toInt) rfl (by (first | exact om_943ab426fd09 hq b2 kpc | omega))) dX12_worksAround_33 ?_
              refine g_top (v := (V 45 (Int32.toNatClampNeg y11))) (ajV12 45 (Int32.toNatClampNeg y11) rfl) ?_
              refine lv_istore (lv' := [(10, .int (V 45 (Int32.toNatClampNeg y11))), (9, .int y10), (8, .int y11), (7, .int (V 0 98)), (0, .ref (ad 0)), (1, .int p0), (2, .int p1), (3, .int p2), (4, .int p3), (5, .int p4), (6, .int p5)]) hx hb dX12_worksAround_34 hl (by decide) rfl (fun ls hl => ?_)
              refine lv_aload_n hx hb dX12_worksAround_36 rfl (lv_at hl 4 rfl) ?_
              refine va_get (D := D) (ci := 12) (v := .ref (ad 46)) (C := RX12) (T := TX12) (N := 100) hx hb hg inX12 hown hK hP 0 rfl rfl 46 (by decide) (hg _ w1752) (fun _ h9 => h9) rfl dX12_worksAround_37 ?_
              refine lv_iload hx hb dX12_worksAround_40 (lv_at hl 2 rfl) ?_
              refine va_iald (D := D) (i := y11) hx hb hK hP 39 38 rfl rfl (i_in (a := y11.toInt) rfl (by (first | exact om_943ab426fd09 hq b2 kpc | omega))) dX12_worksAround_42 ?_
              refine g_top (v := (V 46 (Int32.toNatClampNeg y11))) (ajV12 46 (Int32.toNatClampNeg y11) rfl) ?_
              refine lv_istore (lv' := [(11, .int (V 46 (Int32.toNatClampNeg y11))), (10, .int (V 45 (Int32.toNatClampNeg y11))), (9, .int y10), (8, .int y11), (7, .int (V 0 98)), (0, .ref (ad 0)), (1, .int p0), (2, .int p1), (3, .int p2), (4, .int p3), (5, .int p4), (6, .int p5)]) hx hb dX12_worksAround_43 hl (by decide) rfl (fun ls hl => ?_)
              refine lv_aload_n hx hb dX12_worksAround_45 rfl (lv_at hl 5 rfl) ?_
              refine va_get (D := D) (ci := 12) (v := .ref (ad 47)) (C := RX12) (T := TX12) (N := 100) hx hb hg inX12 hown hK hP 0 rfl rfl 47 (by decide) (hg _ w1753) (fun _ h9 => h9) rfl dX12_worksAround_46 ?_
              refine lv_iload hx hb dX12_worksAround_49 (lv_at hl 3 rfl) ?_
              refine va_iald (D := D) (i := y11) hx hb hK hP 40 39 rfl rfl (i_in (a := y11.toInt) rfl (by (first | exact om_943ab426fd09 hq b2 kpc | omega))) dX12_worksAround_51 ?_
              refine g_top (v := (V 47 (Int32.toNatClampNeg y11))) (ajV12 47 (Int32.toNatClampNeg y11) rfl) ?_
              refine lv_istore (lv' := [(12, .int (V 47 (Int32.toNatClampNeg y11))), (11, .int (V 46 (Int32.toNatClampNeg y11))), (10, .int (V 45 (Int32.toNatClampNeg y11))), (9, .int y10), (8, .int y11), (7, .int (V 0 98)), (0, .ref (ad 0)), (1, .int p0), (2, .int p1), (3, .int p2), (4, .int p3), (5, .int p4), (6, .int p5)]) hx hb dX12_worksAround_52 hl (by decide) rfl (fun ls hl => ?_)
              obtain ⟨z840, ez840⟩ : ∃ y : Int32, y = y11 + 1 := ⟨_, rfl⟩
              have hz840 : z840.toInt = y11.toInt + 1 := i_add ez840 rfl (by decide) (by (first | exact om_084b5c89eefe hq b2 kpc | omega))
              refine lv_iinc (v := z840) (lv' := [(8, .int z840), (12, .int (V 47 (Int32.toNatClampNeg y11))), (11, .int (V 46 (Int32.toNatClampNeg y11))), (10, .int (V 45 (Int32.toNatClampNeg y11))), (9, .int y10), (7, .int (V 0 98)), (0, .ref (ad 0)), (1, .int p0), (2, .int p1), (3, .int p2), (4, .int p3), (5, .int p4), (6, .int p5)]) hx hb dX12_worksAround_54 hl (k := 4) rfl (by rw [ez840]; rfl) (by decide) rfl (fun ls hl => ?_)
              refine lv_iload hx hb dX12_worksAround_57 (lv_at hl 3 rfl) ?_
              refine lv_bipush (v := 13) hx hb dX12_worksAround_59 (by decide) ?_
              refine lv_icmp_ne (tgt := 71) hx hb dX12_worksAround_61 (by decide) (fun c841 => ?_) (fun c841 => ?_)
              · skip
                have f842 : ((V 45 (Int32.toNatClampNeg y11))).toInt ≠ 13 := b_neq rfl (by decide) c841
                refine lv_iload hx hb dX12_worksAround_71 (lv_at hl 3 rfl) ?_
                refine lv_bipush (v := 12) hx hb dX12_worksAround_73 (by decide) ?_
                refine lv_icmp_ne (tgt := 97) hx hb dX12_worksAround_75 (by decide) (fun c843 => ?_) (fun c843 => ?_)
                · skip
                  have f844 : ((V 45 (Int32.toNatClampNeg y11))).toInt ≠ 12 := b_neq rfl (by decide) c843
                  refine lv_iload hx hb dX12_worksAround_97 (lv_at hl 3 rfl) ?_
                  refine lv_bipush (v := 15) hx hb dX12_worksAround_99 (by decide) ?_
                  refine lv_icmp_ne (tgt := 131) hx hb dX12_worksAround_101 (by decide) (fun c845 => ?_) (fun c845 => ?_)
                  · skip
                    have f846 : ((V 45 (Int32.toNatClampNeg y11))).toInt ≠ 15 := b_neq rfl (by decide) c845
                    refine lv_iload hx hb dX12_worksAround_131 (lv_at hl 3 rfl) ?_
                    refine lv_bipush (v := 14) hx hb dX12_worksAround_133 (by decide) ?_
                    refine lv_icmp_ne (tgt := 166) hx hb dX12_worksAround_135 (by decide) (fun c847 => ?_) (fun c847 => ?_)
                    · skip
                      have f848 : ((V 45 (Int32.toNatClampNeg y11))).toInt ≠ 14 := b_neq rfl (by decide) c847
                      refine lv_iload hx hb dX12_worksAround_166 (lv_at hl 3 rfl) ?_
                      refine lv_iconst (v := 3) hx hb dX12_worksAround_168 (by decide) ?_
                      refine lv_icmp_ne (tgt := 181) hx hb dX12_worksAround_169 (by decide) (fun c849 => ?_) (fun c849 => ?_)
                      · skip
                        have f850 : ((V 45 (Int32.toNatClampNeg y11))).toInt ≠ 3 := b_neq rfl (by decide) c849
                        refine lv_aload_n hx hb dX12_worksAround_181 rfl (lv_at hl 6 rfl) ?_
                        refine lv_iload hx hb dX12_worksAround_182 (lv_at hl 3 rfl) ?_
                        refine lv_iload hx hb dX12_worksAround_184 (lv_at hl 2 rfl) ?_
                        refine gA_int (gA_runV (As := [.int (V 45 (Int32.toNatClampNeg y11)), .int (V 46 (Int32.toNatClampNeg y11))]) (rest := []) (ci := 12) (q0 := 0) hx hb hml hown hg hP hD hK hS hA hnw hgk (s_reckons3 l D ks H.size ad kk V12 L (V 45 (Int32.toNatClampNeg y11)) (V 46 (Int32.toNatClampNeg y11)) hMV12 (by (first | exact om_7087eba4904d hop | omega)) (Imp.mk (fun hp => have hp : ((V 45 (Int32.toNatClampNeg y11))).toInt = 11 := hp; (show 0 ≤ ((V 46 (Int32.toNatClampNeg y11))).toInt ∧ ((V 46 (Int32.toNatClampNeg y11))).toInt ≤ 11 from by omega))) (Imp.mk (fun hp => have hp : ((V 45 (Int32.toNatClampNeg y11))).toInt = 2 ∨ ((V 45 (Int32.toNatClampNeg y11))).toInt = 11 := hp; (show (V12 0 98).toInt ≤ 19999 from by (first | exact om_53b561447de2 n6 n7 r7.2 b3 im42 | omega)))) (Imp.mk (fun hp => have hp : ((V 45 (Int32.toNatClampNeg y11))).toInt = 4 := hp; (show 1 ≤ (V12 0 98).toInt from by omega))) (Imp.mk (fun hp => have hp : 5 ≤ ((V 45 (Int32.toNatClampNeg y11))).toInt ∧ ((V 45 (Int32.toNatClampNeg y11))).toInt ≤ 9 := hp; (show 2 ≤ (V12 0 98).toInt from by omega))) (show ((V 45 (Int32.toNatClampNeg y11))).toInt ≠ 3 from by (first | exact om_7b3d75711927 hop | omega))) w2324 w2326 w150 w172 w2327 rfl rfl hdV_yX12_reckons ⟨(by show (1) + 1 ≤ (4 * d1 + 40 * d2 + 11); (first | exact om_1d3ee3ce7f7a n5 n6 r2.2 xlp13_3 r18.2 | omega)), (by show 8 + (5 + 11) + (21) ≤ (100 * d1 + 1000 * d2 + 410); (first | exact om_d7d7af4cd1f0 n5 n6 r2.2 xlp13_3 r18.2 | omega))⟩ rfl hl.1 rfl (Nat.le_of_ble_eq_true rfl) dX12_worksAround_186 ⟨Nat.le_of_ble_eq_true rfl, Nat.le_of_ble_eq_true rfl⟩) hP hD hK hS hA (fun z851 u852 H locs w853 hP hD hK hS => ?_)
                        obtain ⟨V870, L871⟩ := u852
                        obtain ⟨hMV870, ajV870, axL871, rgz851, t854, t855, t856, t857, t858, t859, t860, t861, t862, t863, t864, t865, t866, t867, t868, t869⟩ := w853
                        have axL871 : L = L871 := Eq.symm axL871
                        subst axL871
                        have hP : va_P D vwCl (mw ad kk ks.1 V870 L) H := hP
                        have hD : va_D A (mw ad kk ks.1 V870 L) := hD
                        have hMV870 : rgd bM V870 := hMV870
                        have ajV870 : agr [(0, 68), (0, 69), (0, 90), (0, 91), (0, 98)] [97] V12 V870 := ajV870
                        have agV870 : agr [(0, 60), (0, 65), (0, 68), (0, 69), (0, 73), (0, 76), (0, 90), (0, 91), (0, 92), (0, 93), (0, 95), (0, 96), (0, 98)] [59, 61, 62, 63, 64, 66, 67, 74, 75, 77, 78, 79, 80, 94, 97] V V870 := agV12.tr ajV870 (by decide) (by decide)
                        have rgz851 : 0 ≤ z851.toInt ∧ z851.toInt ≤ 2 := rgz851
                        have t854 : Imp (((V 45 (Int32.toNatClampNeg y11))).toInt = 1) ((V870 0 98).toInt = (V12 0 98).toInt ∧ ((z851.toInt = 0 ∧ (V870 0 69).toInt = (V12 0 69).toInt + 1 ∧ (V870 0 68).toInt = (V12 0 68).toInt + 1 ∧ (V12 0 69).toInt < 3000 ∧ (V12 0 68).toInt < 60000) ∨ (z851.toInt = 2 ∧ (V870 0 69).toInt = (V12 0 69).toInt ∧ (V870 0 68).toInt = (V12 0 68).toInt ∧ ((V12 0 69).toInt = 3000 ∨ (V12 0 68).toInt = 60000)))) := t854
                        have t855 : Imp (((V 45 (Int32.toNatClampNeg y11))).toInt = 10) (z851.toInt = 1 ∧ (V870 0 98).toInt = (V12 0 98).toInt ∧ (V870 0 90).toInt = 0 ∧ (V870 0 91).toInt = ((V 46 (Int32.toNatClampNeg y11))).toInt) := t855
                        have t856 : Imp (((V 45 (Int32.toNatClampNeg y11))).toInt = 2 ∨ ((V 45 (Int32.toNatClampNeg y11))).toInt = 11) (z851.toInt = 0 ∧ (V870 0 98).toInt = (V12 0 98).toInt + 1) := t856
                        have t857 : Imp (((V 45 (Int32.toNatClampNeg y11))).toInt = 4) (z851.toInt = 0 ∧ (V870 0 98).toInt = (V12 0 98).toInt) := t857
                        have t858 : Imp (5 ≤ ((V 45 (Int32.toNatClampNeg y11))).toInt ∧ ((V 45 (Int32.toNatClampNeg y11))).toInt ≤ 9) (z851.toInt = 0 ∧ (V870 0 98).toInt = (V12 0 98).toInt - 1) := t858
                        have t859 : Imp (((V 45 (Int32.toNatClampNeg y11))).toInt ≠ 1) ((V870 0 69).toInt = (V12 0 69).toInt ∧ (V870 0 68).toInt = (V12 0 68).toInt) := t859
                        have t860 : Imp (((V 45 (Int32.toNatClampNeg y11))).toInt ≠ 10) ((V870 0 90).toInt = (V12 0 90).toInt ∧ (V870 0 91).toInt = (V12 0 91).toInt) := t860
                        have t861 : Imp (((V 45 (Int32.toNatClampNeg y11))).toInt = 2) (V870 97 (Int32.toNatClampNeg (V12 0 98)) = (V 46 (Int32.toNatClampNeg y11)) ∧ ∀ j9, j9 ≠ Int32.toNatClampNeg (V12 0 98) → V870 97 j9 = V12 97 j9) := t861
                        have t862 : Imp (((V 45 (Int32.toNatClampNeg y11))).toInt = 11) (V870 97 (Int32.toNatClampNeg (V12 0 98)) = V12 18 (12 * nwh V12 + Int32.toNatClampNeg (V 46 (Int32.toNatClampNeg y11))) ∧ ∀ j9, j9 ≠ Int32.toNatClampNeg (V12 0 98) → V870 97 j9 = V12 97 j9) := t862
                        have t863 : Imp (((V 45 (Int32.toNatClampNeg y11))).toInt = 4) (∀ t9 : Nat, (V12 0 98).toInt = (t9 : Int) + 1 → V870 97 t9 = -(V12 97 t9) ∧ ∀ j9, j9 < t9 → V870 97 j9 = V12 97 j9) := t863
                        have t864 : Imp (((V 45 (Int32.toNatClampNeg y11))).toInt = 5) (∀ t9 : Nat, (V12 0 98).toInt = (t9 : Int) + 2 → V870 97 t9 = V12 97 t9 * V12 97 (t9 + 1) ∧ ∀ j9, j9 < t9 → V870 97 j9 = V12 97 j9) := t864
                        have t865 : Imp (((V 45 (Int32.toNatClampNeg y11))).toInt = 6) (∀ t9 : Nat, (V12 0 98).toInt = (t9 : Int) + 2 → V870 97 t9 = V12 97 t9 + V12 97 (t9 + 1) ∧ ∀ j9, j9 < t9 → V870 97 j9 = V12 97 j9) := t865
                        have t866 : Imp (((V 45 (Int32.toNatClampNeg y11))).toInt = 7) (∀ t9 : Nat, (V12 0 98).toInt = (t9 : Int) + 2 → V870 97 t9 = V12 97 t9 - V12 97 (t9 + 1) ∧ ∀ j9, j9 < t9 → V870 97 j9 = V12 97 j9) := t866
                        have t867 : Imp (((V 45 (Int32.toNatClampNeg y11))).toInt = 8) (∀ t9 : Nat, (V12 0 98).toInt = (t9 : Int) + 2 → V870 97 t9 = (if (V12 97 t9).toInt < (V12 97 (t9 + 1)).toInt then 1 else 0) ∧ ∀ j9, j9 < t9 → V870 97 j9 = V12 97 j9) := t867
                        have t868 : Imp (((V 45 (Int32.toNatClampNeg y11))).toInt = 9) (∀ t9 : Nat, (V12 0 98).toInt = (t9 : Int) + 2 → V870 97 t9 = (if V12 97 t9 = V12 97 (t9 + 1) then 1 else 0) ∧ ∀ j9, j9 < t9 → V870 97 j9 = V12 97 j9) := t868
                        have t869 : Imp (((V 45 (Int32.toNatClampNeg y11))).toInt = 1 ∨ ((V 45 (Int32.toNatClampNeg y11))).toInt = 10) (∀ j9, V870 97 j9 = V12 97 j9) := t869
                        have r872 : 0 ≤ ((V12 0 68)).toInt ∧ ((V12 0 68)).toInt ≤ 60000 := hMV12 0 68
                        have r873 : 0 ≤ ((V870 0 69)).toInt ∧ ((V870 0 69)).toInt ≤ 3000 := hMV870 0 69
                        have r874 : 0 ≤ ((V870 0 68)).toInt ∧ ((V870 0 68)).toInt ≤ 60000 := hMV870 0 68
                        have r875 : 0 ≤ ((V870 0 98)).toInt ∧ ((V870 0 98)).toInt ≤ 20000 := hMV870 0 98
                        refine lv_istore (lv' := [(9, .int z851), (8, .int z840), (12, .int (V 47 (Int32.toNatClampNeg y11))), (11, .int (V 46 (Int32.toNatClampNeg y11))), (10, .int (V 45 (Int32.toNatClampNeg y11))), (7, .int (V 0 98)), (0, .ref (ad 0)), (1, .int p0), (2, .int p1), (3, .int p2), (4, .int p3), (5, .int p4), (6, .int p5)]) hx hb dX12_worksAround_189 hl (by decide) rfl (fun ls hl => ?_)
                        have im876 := Imp.go t859 (by (first | exact om_e9e963312a93 hop | omega))
                        have im877 := Imp.go t860 (by (first | exact om_77f206cde628 hop | omega))
                        obtain ⟨t5, ek5, h5q⟩ := OQ.i5 og7 (by (first | exact om_934d0e902716 oi9 | omega))
                        obtain ⟨t4, ht4⟩ : ∃ t4 : Nat, (V12 0 98).toInt = (t4 : Int) + 2 := ⟨(V12 0 98).toInt.toNat - 2, by omega⟩
                        have rk878 := Imp.go t867 (by (first | exact om_f5055dce6508 hop | omega)) t4 ht4
                        have rk878t := Imp.go t858 (by (first | exact om_a8327d0a6bdb hop | omega))
                        have hd4 := plR.hd (t := t4 + 1) (by rw [show t4 + 1 + 1 = (V12 0 98).toInt.toNat from by omega]; exact pl9) (by omega)
                        have tl4 := tl1 (p := gp) (by omega)
                        have hd5 := plR.hd (t := t4) hd4.2 (by omega)
                        have tl5 := tl2 ek5
                        have r879 : 0 ≤ (V12 0 65).toInt := (hMV12 0 65).1
                        have r880 : (V12 0 60).toInt ≤ 300 := (hMV12 0 60).2
                        have r881 : 0 ≤ (V12 0 93).toInt ∧ (V12 0 93).toInt ≤ 10 := hMV12 0 93
                        have ht882 : TRs gB (mV V 0 gt gu, ga, Fwork glv go gc gsc gme 0 ((gat : Nat) : Int) p4 [] :: gr) (mV V12 sg9 t9 k9, a9, Fwork glv go gc gsc gm9 0 (((gi + 1) : Nat) : Int) p4 ((if (pop1 gp.tail).toInt < (pop1 gp).toInt then 1 else 0) :: gp.tail.tail) :: gr) := TRs.st ht9 (SF.mk (show gr.length ≤ 394 from by (first | exact om_87fa92eb9f41 hl9 xlp13_3 r18.2 | omega)) (show gp.length + (totP gr) ≤ 2000 from by (first | exact om_6542cae4e4ce hp9 r7.2 b3 nm9.1 | omega)) (show 0 ≤ (V12 0 65).toInt ∧ (V12 0 65).toInt ≤ 300 from by (first | exact om_65732a9e84ef n1 xlp13_6 r19.2 r20.1 | omega)) (fun h9 => by have h8 : sg9 = 2 := h9; omega) (show ∃ q9, OQ gB _ _ _ _ q9 from ⟨_, og7⟩)) (st_12.trans (or_8 oi9))
                        have on883 := (show ∃ q9, OQ gB (ndW gB gc 0) (decide ((0 : Int) < 0)) (gi + 1) ((if (pop1 gp.tail).toInt < (pop1 gp).toInt then 1 else 0) :: gp.tail.tail).length q9 from by rw [show ((if (pop1 gp.tail).toInt < (pop1 gp).toInt then 1 else 0) :: gp.tail.tail).length = t5 + 1 from congrArg Nat.succ tl5]; exact h5q)
                        have pl884 : plR V870 (V870 0 98).toInt.toNat (((if (pop1 gp.tail).toInt < (pop1 gp).toInt then 1 else 0) :: gp.tail.tail)) := by rw [show (V870 0 98).toInt.toNat = t4 + 1 from by omega]; exact plR.pu hd5.2 (rk878.1.trans (by rw [hd4.1, hd5.1])) rk878.2
                        have ln885 : (((if (pop1 gp.tail).toInt < (pop1 gp).toInt then 1 else 0) :: gp.tail.tail)).length = t5 + 1 := congrArg Nat.succ tl5
                        refine lv_goto (tgt := 12) hx hb dX12_worksAround_191 (by decide) ?_
                        have pq886 : (V870 0 73).toInt = ((V12 0 73)).toInt := congrArg Int32.toInt (ajV870 0 73 rfl)
                        have pq887 : (V870 0 76).toInt = ((V12 0 76)).toInt := congrArg Int32.toInt (ajV870 0 76 rfl)
                        have pq888 : (V870 0 93).toInt = ((V12 0 93)).toInt := congrArg Int32.toInt (ajV870 0 93 rfl)
                        have pq889 : (V870 0 60).toInt = ((V12 0 60)).toInt := congrArg Int32.toInt (ajV870 0 60 rfl)
                        have pq890 : (V870 0 65).toInt = ((V12 0 65)).toInt := congrArg Int32.toInt (ajV870 0 65 rfl)
                        have pq891 : (V870 0 95).toInt = ((V12 0 95)).toInt := congrArg Int32.toInt (ajV870 0 95 rfl)
                        have rt892 : RT V870 := RT.ag xlp13_13 hMV12 (show agr [(0, 68), (0, 69), (0, 90), (0, 91), (0, 98)] [97] V12 V870 from (agr.tr agr.rf ajV870 (by decide) (by decide))) ⟨⟨rfl, fun _ => rfl, fun _ => rfl, fun _ => rfl, fun _ => rfl, fun _ => rfl, fun _ => rfl⟩, by decide, by decide, rfl, rfl, fun _ => rfl, fun _ => rfl, fun _ => rfl, fun _ => rfl, fun _ => rfl, fun _ => rfl⟩ (c0k.ag (show agr [(0, 68), (0, 69), (0, 90), (0, 91), (0, 98)] [97] V12 V870 from (agr.tr agr.rf ajV870 (by decide) (by decide))) rfl)
                        have fm893 : FRM V V870 (-1) := (FRM.tr xlp13_14 (FRM.ag (show agr [(0, 68), (0, 69), (0, 90), (0, 91), (0, 98)] [97] V12 V870 from (agr.tr agr.rf ajV870 (by decide) (by decide))) ⟨⟨rfl, fun _ => rfl, fun _ => rfl, fun _ => rfl, fun _ => rfl, fun _ => rfl, fun _ => rfl⟩, by decide, by decide, rfl, rfl, fun _ => rfl, fun _ => rfl, fun _ => rfl, fun _ => rfl, fun _ => rfl, fun _ => rfl⟩) agV12 ⟨rfl, fun _ => rfl, fun _ => rfl, fun _ => rfl, fun _ => rfl, fun _ => rfl, fun _ => rfl⟩ (by (first | exact om_abdc88b0c8fc xlp13_10 | omega)))
                        have ht894 : TRs gB (mV V 0 gt gu, ga, Fwork glv go gc gsc gme 0 ((gat : Nat) : Int) p4 [] :: gr) (mV V870 sg9 t9 k9, a9, Fwork glv go gc gsc gm9 0 (((gi + 1) : Nat) : Int) p4 ((if (pop1 gp.tail).toInt < (pop1 gp).toInt then 1 else 0) :: gp.tail.tail) :: gr) := by rw [mV_st0 (show agr [(0, 68), (0, 69), (0, 90), (0, 91), (0, 98)] [97] V12 V870 from (agr.tr agr.rf ajV870 (by decide) (by decide))) (by decide) (by omega) (by omega)]; exact ht882
                        have kt896 := i_clamp (x := V12 0 98) rfl (by (first | exact om_eafa9039069c r14.1 | omega))
                        have pw897 := Imp.go t867 (by (first | exact om_f5055dce6508 hop | omega)) ((V12 0 98).toInt.toNat - 2) (by omega)
                        have pk895 : PLK V V870 (V 0 98).toInt.toNat := PLK.tr xlp13_21 (t2 := (V 0 98).toInt.toNat) (fun j9 hj9 => pw897.2 j9 (by omega)) (Nat.le_refl _)
                        have rj898 : RJm V870 gB := RJm.ag xlp13_22 (show agr [(0, 68), (0, 69), (0, 90), (0, 91), (0, 98)] [97] V12 V870 from (agr.tr agr.rf ajV870 (by decide) (by decide))) (by decide)
                        exact ihlp13 (f) (j + 1) ((gi + 1)) (((if (pop1 gp.tail).toInt < (pop1 gp).toInt then 1 else 0) :: gp.tail.tail)) (gm9) z851 z840 V870 H locs ls (by (first | exact om_8c285ac91b81 rgz851.1 rgz851.2 | omega)) (show 0 ≤ z840.toInt from by (first | exact om_d256ebc631d1 kpc kg9 hz840 | omega)) (Imp.mk (fun hp => have hp : z851.toInt = 0 := hp; (show (V870 0 98).toInt = (V 0 98).toInt + ((j + 1 : Nat) : Int) from by omega))) (Imp.mk (fun hp => have hp : z851.toInt ≠ 2 := hp; (show (V870 0 76).toInt - (V870 0 69).toInt - (V870 0 73).toInt + 1 ≤ (V 0 76).toInt - (V 0 69).toInt - (V 0 73).toInt ∨ (z840.toInt = p0.toInt ∧ (V870 0 76).toInt - (V870 0 69).toInt - (V870 0 73).toInt ≤ (V 0 76).toInt - (V 0 69).toInt - (V 0 73).toInt ∧ z851.toInt = 0) from by (first | exact om_f1197ef27677 im43 hne im876.1 pq886 pq887 | omega)))) (show (V870 0 93).toInt = (V 0 93).toInt from by (first | exact om_cd7d0a6a31bc xlp13_3 pq888 | omega)) (show (V 0 60).toInt ≤ (V870 0 60).toInt from by (first | exact om_a40cdd94799e xlp13_4 pq889 | omega)) (show (V 0 65).toInt ≤ (V870 0 65).toInt from by (first | exact om_a40cdd94799e xlp13_5 pq890 | omega)) (show (V870 0 65).toInt - (V 0 65).toInt ≤ (V870 0 60).toInt - (V 0 60).toInt from by (first | exact om_953d7b5213d2 xlp13_6 pq889 pq890 | omega)) (show (V870 0 73).toInt + (V870 0 95).toInt - (V870 0 65).toInt ≤ (V 0 73).toInt + (V 0 95).toInt - (V 0 65).toInt from by (first | exact om_5b806241d648 xlp13_7 pq886 pq890 pq891 | omega)) (show (V 0 73).toInt ≤ (V870 0 73).toInt from by (first | exact om_a40cdd94799e xlp13_8 pq886 | omega)) (show (V 0 69).toInt ≤ (V870 0 69).toInt from by (first | exact om_a40cdd94799e xlp13_9 im876.1 | omega)) (show (V870 0 95).toInt = (V 0 95).toInt from by (first | exact om_cd7d0a6a31bc xlp13_10 pq891 | omega)) (show (V870 0 76).toInt - (V870 0 69).toInt - (V870 0 73).toInt ≤ (V 0 76).toInt - (V 0 69).toInt - (V 0 73).toInt from by (first | exact om_b2f0e61cd607 xlp13_11 im876.1 pq886 pq887 | omega)) (show 0 ≤ z851.toInt ∧ z851.toInt ≤ 2 from by (first | exact om_8c285ac91b81 rgz851.1 rgz851.2 | omega)) rt892 fm893 (Imp.mk (fun _ => by have e8 : Int32.toNatClampNeg z840 = Int32.toNatClampNeg y11 + 1 := (by have h9 := i_clamp (x := z840) rfl (by (first | exact om_d256ebc631d1 kpc kg9 hz840 | omega)); omega); rw [e8]; exact hw)) (Imp.mk (fun _ => ⟨sg9, t9, k9, a9, sq9, ht894⟩)) (Imp.mk (fun _ => on883)) (Imp.mk (fun _ => pl884)) (Imp.mk (fun hp => have hp : z851.toInt = 0 := hp; (show ((((if (pop1 gp.tail).toInt < (pop1 gp).toInt then 1 else 0) :: gp.tail.tail).length : Nat) : Int) = ((j + 1 : Nat) : Int) ∧ z840.toInt = ((10000 * nwh V + (gi + 1) : Nat) : Int) from by omega))) (Imp.mk (fun hp => by exfalso; (first | exact om_fb320d7600b7 rgz851.1 rk878t.1 hp | omega))) pk895 rj898 (by (first | exact om_bd2466411592 hn | omega)) (agr.tr (agr.tr agr.rf ajV12 (by decide) (by decide)) ajV870 (by decide) (by decide)) hMV870 hP hD hS (lv_sub hl [0, 1, 5, 6, 7, 8, 9, 10, 11, 12] rfl)
                      · skip
                        have f899 : ((V 45 (Int32.toNatClampNeg y11))).toInt = 3 := b_eq rfl (by decide) c849
                        exfalso; (first | exact om_9559e577c106 hop f899 | omega)
                    · skip
                      have f900 : ((V 45 (Int32.toNatClampNeg y11))).toInt = 14 := b_eq rfl (by decide) c847
                      exfalso; (first | exact om_fd05ba55400f hop f900 | omega)
                  · skip
                    have f901 : ((V 45 (Int32.toNatClampNeg y11))).toInt = 15 := b_eq rfl (by decide) c845
                    exfalso; (first | exact om_d4d2245d59a7 hop f901 | omega)
                · skip
                  have f902 : ((V 45 (Int32.toNatClampNeg y11))).toInt = 12 := b_eq rfl (by decide) c843
                  exfalso; (first | exact om_db24ecd6b341 hop f902 | omega)
              · skip
                have f903 : ((V 45 (Int32.toNatClampNeg y11))).toInt = 13 := b_eq rfl (by decide) c841
                exfalso; (first | exact om_fffcc5fb54c4 hop f903 | omega)
          · skip
            have hop : (V 45 (Int32.toNatClampNeg y11)).toInt = 9 := hf9
            have oi9 : opf gB.1 gi = 9 := by have h9 : _ = ((opf gB.1 gi : Nat) : Int) := cd9.1; omega
            have hne : y11.toInt ≠ p0.toInt := fun h9 => by have e9 : y11 = p0 := Int32.toInt_inj.mp h9; rw [e9] at hop; omega
            refine lv_aload_n hx hb dX12_worksAround_17 rfl (lv_at hl 3 rfl) ?_
            refine va_get (D := D) (ci := 12) (v := .ref (ad 45)) (C := RX12) (T := TX12) (N := 100) hx hb hg inX12 hown hK hP 0 rfl rfl 45 (by decide) (hg _ w1751) (fun _ h9 => h9) rfl dX12_worksAround_18 ?_
            refine lv_iload hx hb dX12_worksAround_21 (lv_at hl 1 rfl) ?_
            refine va_iald (D := D) (i := y11) hx hb hK hP 38 37 rfl rfl (i_in (a := y11.toInt) rfl (by (first | exact om_943ab426fd09 hq b2 kpc | omega))) dX12_worksAround_23 ?_
            refine g_top (v := (V 45 (Int32.toNatClampNeg y11))) (ajV12 45 (Int32.toNatClampNeg y11) rfl) ?_
            refine lv_if_eq (tgt := 194) hx hb dX12_worksAround_24 (by decide) (fun c904 => ?_) (fun c904 => ?_)
            · skip
              have f905 : ((V 45 (Int32.toNatClampNeg y11))).toInt = 0 := b_eq rfl (by decide) c904
              exfalso; (first | exact om_ee1af4ef8bc3 hop f905 | omega)
            · skip
              have f906 : ((V 45 (Int32.toNatClampNeg y11))).toInt ≠ 0 := b_neq rfl (by decide) c904
              refine lv_aload_n hx hb dX12_worksAround_27 rfl (lv_at hl 3 rfl) ?_
              refine va_get (D := D) (ci := 12) (v := .ref (ad 45)) (C := RX12) (T := TX12) (N := 100) hx hb hg inX12 hown hK hP 0 rfl rfl 45 (by decide) (hg _ w1751) (fun _ h9 => h9) rfl dX12_worksAround_28 ?_
              refine lv_iload hx hb dX12_worksAround_31 (lv_at hl 1 rfl) ?_
              refine va_iald (D := D) (i := y11) hx hb hK hP 38 37 rfl rfl (i_in (a := y11.toInt) rfl (by (first | exact om_943ab426fd09 hq b2 kpc | omega))) dX12_worksAround_33 ?_
              refine g_top (v := (V 45 (Int32.toNatClampNeg y11))) (ajV12 45 (Int32.toNatClampNeg y11) rfl) ?_
              refine lv_istore (lv' := [(10, .int (V 45 (Int32.toNatClampNeg y11))), (9, .int y10), (8, .int y11), (7, .int (V 0 98)), (0, .ref (ad 0)), (1, .int p0), (2, .int p1), (3, .int p2), (4, .int p3), (5, .int p4), (6, .int p5)]) hx hb dX12_worksAround_34 hl (by decide) rfl (fun ls hl => ?_)
              refine lv_aload_n hx hb dX12_worksAround_36 rfl (lv_at hl 4 rfl) ?_
              refine va_get (D := D) (ci := 12) (v := .ref (ad 46)) (C := RX12) (T := TX12) (N := 100) hx hb hg inX12 hown hK hP 0 rfl rfl 46 (by decide) (hg _ w1752) (fun _ h9 => h9) rfl dX12_worksAround_37 ?_
              refine lv_iload hx hb dX12_worksAround_40 (lv_at hl 2 rfl) ?_
              refine va_iald (D := D) (i := y11) hx hb hK hP 39 38 rfl rfl (i_in (a := y11.toInt) rfl (by (first | exact om_943ab426fd09 hq b2 kpc | omega))) dX12_worksAround_42 ?_
              refine g_top (v := (V 46 (Int32.toNatClampNeg y11))) (ajV12 46 (Int32.toNatClampNeg y11) rfl) ?_
              refine lv_istore (lv' := [(11, .int (V 46 (Int32.toNatClampNeg y11))), (10, .int (V 45 (Int32.toNatClampNeg y11))), (9, .int y10), (8, .int y11), (7, .int (V 0 98)), (0, .ref (ad 0)), (1, .int p0), (2, .int p1), (3, .int p2), (4, .int p3), (5, .int p4), (6, .int p5)]) hx hb dX12_worksAround_43 hl (by decide) rfl (fun ls hl => ?_)
              refine lv_aload_n hx hb dX12_worksAround_45 rfl (lv_at hl 5 rfl) ?_
              refine va_get (D := D) (ci := 12) (v := .ref (ad 47)) (C := RX12) (T := TX12) (N := 100) hx hb hg inX12 hown hK hP 0 rfl rfl 47 (by decide) (hg _ w1753) (fun _ h9 => h9) rfl dX12_worksAround_46 ?_
              refine lv_iload hx hb dX12_worksAround_49 (lv_at hl 3 rfl) ?_
              refine va_iald (D := D) (i := y11) hx hb hK hP 40 39 rfl rfl (i_in (a := y11.toInt) rfl (by (first | exact om_943ab426fd09 hq b2 kpc | omega))) dX12_worksAround_51 ?_
              refine g_top (v := (V 47 (Int32.toNatClampNeg y11))) (ajV12 47 (Int32.toNatClampNeg y11) rfl) ?_
              refine lv_istore (lv' := [(12, .int (V 47 (Int32.toNatClampNeg y11))), (11, .int (V 46 (Int32.toNatClampNeg y11))), (10, .int (V 45 (Int32.toNatClampNeg y11))), (9, .int y10), (8, .int y11), (7, .int (V 0 98)), (0, .ref (ad 0)), (1, .int p0), (2, .int p1), (3, .int p2), (4, .int p3), (5, .int p4), (6, .int p5)]) hx hb dX12_worksAround_52 hl (by decide) rfl (fun ls hl => ?_)
              obtain ⟨z907, ez907⟩ : ∃ y : Int32, y = y11 + 1 := ⟨_, rfl⟩
              have hz907 : z907.toInt = y11.toInt + 1 := i_add ez907 rfl (by decide) (by (first | exact om_084b5c89eefe hq b2 kpc | omega))
              refine lv_iinc (v := z907) (lv' := [(8, .int z907), (12, .int (V 47 (Int32.toNatClampNeg y11))), (11, .int (V 46 (Int32.toNatClampNeg y11))), (10, .int (V 45 (Int32.toNatClampNeg y11))), (9, .int y10), (7, .int (V 0 98)), (0, .ref (ad 0)), (1, .int p0), (2, .int p1), (3, .int p2), (4, .int p3), (5, .int p4), (6, .int p5)]) hx hb dX12_worksAround_54 hl (k := 4) rfl (by rw [ez907]; rfl) (by decide) rfl (fun ls hl => ?_)
              refine lv_iload hx hb dX12_worksAround_57 (lv_at hl 3 rfl) ?_
              refine lv_bipush (v := 13) hx hb dX12_worksAround_59 (by decide) ?_
              refine lv_icmp_ne (tgt := 71) hx hb dX12_worksAround_61 (by decide) (fun c908 => ?_) (fun c908 => ?_)
              · skip
                have f909 : ((V 45 (Int32.toNatClampNeg y11))).toInt ≠ 13 := b_neq rfl (by decide) c908
                refine lv_iload hx hb dX12_worksAround_71 (lv_at hl 3 rfl) ?_
                refine lv_bipush (v := 12) hx hb dX12_worksAround_73 (by decide) ?_
                refine lv_icmp_ne (tgt := 97) hx hb dX12_worksAround_75 (by decide) (fun c910 => ?_) (fun c910 => ?_)
                · skip
                  have f911 : ((V 45 (Int32.toNatClampNeg y11))).toInt ≠ 12 := b_neq rfl (by decide) c910
                  refine lv_iload hx hb dX12_worksAround_97 (lv_at hl 3 rfl) ?_
                  refine lv_bipush (v := 15) hx hb dX12_worksAround_99 (by decide) ?_
                  refine lv_icmp_ne (tgt := 131) hx hb dX12_worksAround_101 (by decide) (fun c912 => ?_) (fun c912 => ?_)
                  · skip
                    have f913 : ((V 45 (Int32.toNatClampNeg y11))).toInt ≠ 15 := b_neq rfl (by decide) c912
                    refine lv_iload hx hb dX12_worksAround_131 (lv_at hl 3 rfl) ?_
                    refine lv_bipush (v := 14) hx hb dX12_worksAround_133 (by decide) ?_
                    refine lv_icmp_ne (tgt := 166) hx hb dX12_worksAround_135 (by decide) (fun c914 => ?_) (fun c914 => ?_)
                    · skip
                      have f915 : ((V 45 (Int32.toNatClampNeg y11))).toInt ≠ 14 := b_neq rfl (by decide) c914
                      refine lv_iload hx hb dX12_worksAround_166 (lv_at hl 3 rfl) ?_
                      refine lv_iconst (v := 3) hx hb dX12_worksAround_168 (by decide) ?_
                      refine lv_icmp_ne (tgt := 181) hx hb dX12_worksAround_169 (by decide) (fun c916 => ?_) (fun c916 => ?_)
                      · skip
                        have f917 : ((V 45 (Int32.toNatClampNeg y11))).toInt ≠ 3 := b_neq rfl (by decide) c916
                        refine lv_aload_n hx hb dX12_worksAround_181 rfl (lv_at hl 6 rfl) ?_
                        refine lv_iload hx hb dX12_worksAround_182 (lv_at hl 3 rfl) ?_
                        refine lv_iload hx hb dX12_worksAround_184 (lv_at hl 2 rfl) ?_
                        refine gA_int (gA_runV (As := [.int (V 45 (Int32.toNatClampNeg y11)), .int (V 46 (Int32.toNatClampNeg y11))]) (rest := []) (ci := 12) (q0 := 0) hx hb hml hown hg hP hD hK hS hA hnw hgk (s_reckons3 l D ks H.size ad kk V12 L (V 45 (Int32.toNatClampNeg y11)) (V 46 (Int32.toNatClampNeg y11)) hMV12 (by (first | exact om_76533fabe319 hop | omega)) (Imp.mk (fun hp => have hp : ((V 45 (Int32.toNatClampNeg y11))).toInt = 11 := hp; (show 0 ≤ ((V 46 (Int32.toNatClampNeg y11))).toInt ∧ ((V 46 (Int32.toNatClampNeg y11))).toInt ≤ 11 from by omega))) (Imp.mk (fun hp => have hp : ((V 45 (Int32.toNatClampNeg y11))).toInt = 2 ∨ ((V 45 (Int32.toNatClampNeg y11))).toInt = 11 := hp; (show (V12 0 98).toInt ≤ 19999 from by (first | exact om_53b561447de2 n6 n7 r7.2 b3 im42 | omega)))) (Imp.mk (fun hp => have hp : ((V 45 (Int32.toNatClampNeg y11))).toInt = 4 := hp; (show 1 ≤ (V12 0 98).toInt from by omega))) (Imp.mk (fun hp => have hp : 5 ≤ ((V 45 (Int32.toNatClampNeg y11))).toInt ∧ ((V 45 (Int32.toNatClampNeg y11))).toInt ≤ 9 := hp; (show 2 ≤ (V12 0 98).toInt from by omega))) (show ((V 45 (Int32.toNatClampNeg y11))).toInt ≠ 3 from by (first | exact om_1c238820b81d hop | omega))) w2324 w2326 w150 w172 w2327 rfl rfl hdV_yX12_reckons ⟨(by show (1) + 1 ≤ (4 * d1 + 40 * d2 + 11); (first | exact om_1d3ee3ce7f7a n5 n6 r2.2 xlp13_3 r18.2 | omega)), (by show 8 + (5 + 11) + (21) ≤ (100 * d1 + 1000 * d2 + 410); (first | exact om_d7d7af4cd1f0 n5 n6 r2.2 xlp13_3 r18.2 | omega))⟩ rfl hl.1 rfl (Nat.le_of_ble_eq_true rfl) dX12_worksAround_186 ⟨Nat.le_of_ble_eq_true rfl, Nat.le_of_ble_eq_true rfl⟩) hP hD hK hS hA (fun z918 u919 H locs w920 hP hD hK hS => ?_)
                        obtain ⟨V937, L938⟩ := u919
                        obtain ⟨hMV937, ajV937, axL938, rgz918, t921, t922, t923, t924, t925, t926, t927, t928, t929, t930, t931, t932, t933, t934, t935, t936⟩ := w920
                        have axL938 : L = L938 := Eq.symm axL938
                        subst axL938
                        have hP : va_P D vwCl (mw ad kk ks.1 V937 L) H := hP
                        have hD : va_D A (mw ad kk ks.1 V937 L) := hD
                        have hMV937 : rgd bM V937 := hMV937
                        have ajV937 : agr [(0, 68), (0, 69), (0, 90), (0, 91), (0, 98)] [97] V12 V937 := ajV937
                        have agV937 : agr [(0, 60), (0, 65), (0, 68), (0, 69), (0, 73), (0, 76), (0, 90), (0, 91), (0, 92), (0, 93), (0, 95), (0, 96), (0, 98)] [59, 61, 62, 63, 64, 66, 67, 74, 75, 77, 78, 79, 80, 94, 97] V V937 := agV12.tr ajV937 (by decide) (by decide)
                        have rgz918 : 0 ≤ z918.toInt ∧ z918.toInt ≤ 2 := rgz918
                        have t921 : Imp (((V 45 (Int32.toNatClampNeg y11))).toInt = 1) ((V937 0 98).toInt = (V12 0 98).toInt ∧ ((z918.toInt = 0 ∧ (V937 0 69).toInt = (V12 0 69).toInt + 1 ∧ (V937 0 68).toInt = (V12 0 68).toInt + 1 ∧ (V12 0 69).toInt < 3000 ∧ (V12 0 68).toInt < 60000) ∨ (z918.toInt = 2 ∧ (V937 0 69).toInt = (V12 0 69).toInt ∧ (V937 0 68).toInt = (V12 0 68).toInt ∧ ((V12 0 69).toInt = 3000 ∨ (V12 0 68).toInt = 60000)))) := t921
                        have t922 : Imp (((V 45 (Int32.toNatClampNeg y11))).toInt = 10) (z918.toInt = 1 ∧ (V937 0 98).toInt = (V12 0 98).toInt ∧ (V937 0 90).toInt = 0 ∧ (V937 0 91).toInt = ((V 46 (Int32.toNatClampNeg y11))).toInt) := t922
                        have t923 : Imp (((V 45 (Int32.toNatClampNeg y11))).toInt = 2 ∨ ((V 45 (Int32.toNatClampNeg y11))).toInt = 11) (z918.toInt = 0 ∧ (V937 0 98).toInt = (V12 0 98).toInt + 1) := t923
                        have t924 : Imp (((V 45 (Int32.toNatClampNeg y11))).toInt = 4) (z918.toInt = 0 ∧ (V937 0 98).toInt = (V12 0 98).toInt) := t924
                        have t925 : Imp (5 ≤ ((V 45 (Int32.toNatClampNeg y11))).toInt ∧ ((V 45 (Int32.toNatClampNeg y11))).toInt ≤ 9) (z918.toInt = 0 ∧ (V937 0 98).toInt = (V12 0 98).toInt - 1) := t925
                        have t926 : Imp (((V 45 (Int32.toNatClampNeg y11))).toInt ≠ 1) ((V937 0 69).toInt = (V12 0 69).toInt ∧ (V937 0 68).toInt = (V12 0 68).toInt) := t926
                        have t927 : Imp (((V 45 (Int32.toNatClampNeg y11))).toInt ≠ 10) ((V937 0 90).toInt = (V12 0 90).toInt ∧ (V937 0 91).toInt = (V12 0 91).toInt) := t927
                        have t928 : Imp (((V 45 (Int32.toNatClampNeg y11))).toInt = 2) (V937 97 (Int32.toNatClampNeg (V12 0 98)) = (V 46 (Int32.toNatClampNeg y11)) ∧ ∀ j9, j9 ≠ Int32.toNatClampNeg (V12 0 98) → V937 97 j9 = V12 97 j9) := t928
                        have t929 : Imp (((V 45 (Int32.toNatClampNeg y11))).toInt = 11) (V937 97 (Int32.toNatClampNeg (V12 0 98)) = V12 18 (12 * nwh V12 + Int32.toNatClampNeg (V 46 (Int32.toNatClampNeg y11))) ∧ ∀ j9, j9 ≠ Int32.toNatClampNeg (V12 0 98) → V937 97 j9 = V12 97 j9) := t929
                        have t930 : Imp (((V 45 (Int32.toNatClampNeg y11))).toInt = 4) (∀ t9 : Nat, (V12 0 98).toInt = (t9 : Int) + 1 → V937 97 t9 = -(V12 97 t9) ∧ ∀ j9, j9 < t9 → V937 97 j9 = V12 97 j9) := t930
                        have t931 : Imp (((V 45 (Int32.toNatClampNeg y11))).toInt = 5) (∀ t9 : Nat, (V12 0 98).toInt = (t9 : Int) + 2 → V937 97 t9 = V12 97 t9 * V12 97 (t9 + 1) ∧ ∀ j9, j9 < t9 → V937 97 j9 = V12 97 j9) := t931
                        have t932 : Imp (((V 45 (Int32.toNatClampNeg y11))).toInt = 6) (∀ t9 : Nat, (V12 0 98).toInt = (t9 : Int) + 2 → V937 97 t9 = V12 97 t9 + V12 97 (t9 + 1) ∧ ∀ j9, j9 < t9 → V937 97 j9 = V12 97 j9) := t932
                        have t933 : Imp (((V 45 (Int32.toNatClampNeg y11))).toInt = 7) (∀ t9 : Nat, (V12 0 98).toInt = (t9 : Int) + 2 → V937 97 t9 = V12 97 t9 - V12 97 (t9 + 1) ∧ ∀ j9, j9 < t9 → V937 97 j9 = V12 97 j9) := t933
                        have t934 : Imp (((V 45 (Int32.toNatClampNeg y11))).toInt = 8) (∀ t9 : Nat, (V12 0 98).toInt = (t9 : Int) + 2 → V937 97 t9 = (if (V12 97 t9).toInt < (V12 97 (t9 + 1)).toInt then 1 else 0) ∧ ∀ j9, j9 < t9 → V937 97 j9 = V12 97 j9) := t934
                        have t935 : Imp (((V 45 (Int32.toNatClampNeg y11))).toInt = 9) (∀ t9 : Nat, (V12 0 98).toInt = (t9 : Int) + 2 → V937 97 t9 = (if V12 97 t9 = V12 97 (t9 + 1) then 1 else 0) ∧ ∀ j9, j9 < t9 → V937 97 j9 = V12 97 j9) := t935
                        have t936 : Imp (((V 45 (Int32.toNatClampNeg y11))).toInt = 1 ∨ ((V 45 (Int32.toNatClampNeg y11))).toInt = 10) (∀ j9, V937 97 j9 = V12 97 j9) := t936
                        have r939 : 0 ≤ ((V12 0 68)).toInt ∧ ((V12 0 68)).toInt ≤ 60000 := hMV12 0 68
                        have r940 : 0 ≤ ((V937 0 69)).toInt ∧ ((V937 0 69)).toInt ≤ 3000 := hMV937 0 69
                        have r941 : 0 ≤ ((V937 0 68)).toInt ∧ ((V937 0 68)).toInt ≤ 60000 := hMV937 0 68
                        have r942 : 0 ≤ ((V937 0 98)).toInt ∧ ((V937 0 98)).toInt ≤ 20000 := hMV937 0 98
                        refine lv_istore (lv' := [(9, .int z918), (8, .int z907), (12, .int (V 47 (Int32.toNatClampNeg y11))), (11, .int (V 46 (Int32.toNatClampNeg y11))), (10, .int (V 45 (Int32.toNatClampNeg y11))), (7, .int (V 0 98)), (0, .ref (ad 0)), (1, .int p0), (2, .int p1), (3, .int p2), (4, .int p3), (5, .int p4), (6, .int p5)]) hx hb dX12_worksAround_189 hl (by decide) rfl (fun ls hl => ?_)
                        have im943 := Imp.go t926 (by (first | exact om_1c4c22b14622 hop | omega))
                        have im944 := Imp.go t927 (by (first | exact om_baf56f307ee1 hop | omega))
                        obtain ⟨t5, ek5, h5q⟩ := OQ.i5 og7 (by (first | exact om_fa6c6d7140f4 oi9 | omega))
                        obtain ⟨t4, ht4⟩ : ∃ t4 : Nat, (V12 0 98).toInt = (t4 : Int) + 2 := ⟨(V12 0 98).toInt.toNat - 2, by omega⟩
                        have rk945 := Imp.go t935 (by (first | exact om_972fae222a5e hop | omega)) t4 ht4
                        have rk945t := Imp.go t925 (by (first | exact om_408a787f8f0f hop | omega))
                        have hd4 := plR.hd (t := t4 + 1) (by rw [show t4 + 1 + 1 = (V12 0 98).toInt.toNat from by omega]; exact pl9) (by omega)
                        have tl4 := tl1 (p := gp) (by omega)
                        have hd5 := plR.hd (t := t4) hd4.2 (by omega)
                        have tl5 := tl2 ek5
                        have r946 : 0 ≤ (V12 0 65).toInt := (hMV12 0 65).1
                        have r947 : (V12 0 60).toInt ≤ 300 := (hMV12 0 60).2
                        have r948 : 0 ≤ (V12 0 93).toInt ∧ (V12 0 93).toInt ≤ 10 := hMV12 0 93
                        have ht949 : TRs gB (mV V 0 gt gu, ga, Fwork glv go gc gsc gme 0 ((gat : Nat) : Int) p4 [] :: gr) (mV V12 sg9 t9 k9, a9, Fwork glv go gc gsc gm9 0 (((gi + 1) : Nat) : Int) p4 ((if pop1 gp.tail = pop1 gp then 1 else 0) :: gp.tail.tail) :: gr) := TRs.st ht9 (SF.mk (show gr.length ≤ 394 from by (first | exact om_87fa92eb9f41 hl9 xlp13_3 r18.2 | omega)) (show gp.length + (totP gr) ≤ 2000 from by (first | exact om_6542cae4e4ce hp9 r7.2 b3 nm9.1 | omega)) (show 0 ≤ (V12 0 65).toInt ∧ (V12 0 65).toInt ≤ 300 from by (first | exact om_65732a9e84ef n1 xlp13_6 r19.2 r20.1 | omega)) (fun h9 => by have h8 : sg9 = 2 := h9; omega) (show ∃ q9, OQ gB _ _ _ _ q9 from ⟨_, og7⟩)) (st_12.trans (or_9 oi9))
                        have on950 := (show ∃ q9, OQ gB (ndW gB gc 0) (decide ((0 : Int) < 0)) (gi + 1) ((if pop1 gp.tail = pop1 gp then 1 else 0) :: gp.tail.tail).length q9 from by rw [show ((if pop1 gp.tail = pop1 gp then 1 else 0) :: gp.tail.tail).length = t5 + 1 from congrArg Nat.succ tl5]; exact h5q)
                        have pl951 : plR V937 (V937 0 98).toInt.toNat (((if pop1 gp.tail = pop1 gp then 1 else 0) :: gp.tail.tail)) := by rw [show (V937 0 98).toInt.toNat = t4 + 1 from by omega]; exact plR.pu hd5.2 (rk945.1.trans (by rw [hd4.1, hd5.1])) rk945.2
                        have ln952 : (((if pop1 gp.tail = pop1 gp then 1 else 0) :: gp.tail.tail)).length = t5 + 1 := congrArg Nat.succ tl5
                        refine lv_goto (tgt := 12) hx hb dX12_worksAround_191 (by decide) ?_
                        have pq953 : (V937 0 73).toInt = ((V12 0 73)).toInt := congrArg Int32.toInt (ajV937 0 73 rfl)
                        have pq954 : (V937 0 76).toInt = ((V12 0 76)).toInt := congrArg Int32.toInt (ajV937 0 76 rfl)
                        have pq955 : (V937 0 93).toInt = ((V12 0 93)).toInt := congrArg Int32.toInt (ajV937 0 93 rfl)
                        have pq956 : (V937 0 60).toInt = ((V12 0 60)).toInt := congrArg Int32.toInt (ajV937 0 60 rfl)
                        have pq957 : (V937 0 65).toInt = ((V12 0 65)).toInt := congrArg Int32.toInt (ajV937 0 65 rfl)
                        have pq958 : (V937 0 95).toInt = ((V12 0 95)).toInt := congrArg Int32.toInt (ajV937 0 95 rfl)
                        have rt959 : RT V937 := RT.ag xlp13_13 hMV12 (show agr [(0, 68), (0, 69), (0, 90), (0, 91), (0, 98)] [97] V12 V937 from (agr.tr agr.rf ajV937 (by decide) (by decide))) ⟨⟨rfl, fun _ => rfl, fun _ => rfl, fun _ => rfl, fun _ => rfl, fun _ => rfl, fun _ => rfl⟩, by decide, by decide, rfl, rfl, fun _ => rfl, fun _ => rfl, fun _ => rfl, fun _ => rfl, fun _ => rfl, fun _ => rfl⟩ (c0k.ag (show agr [(0, 68), (0, 69), (0, 90), (0, 91), (0, 98)] [97] V12 V937 from (agr.tr agr.rf ajV937 (by decide) (by decide))) rfl)
                        have fm960 : FRM V V937 (-1) := (FRM.tr xlp13_14 (FRM.ag (show agr [(0, 68), (0, 69), (0, 90), (0, 91), (0, 98)] [97] V12 V937 from (agr.tr agr.rf ajV937 (by decide) (by decide))) ⟨⟨rfl, fun _ => rfl, fun _ => rfl, fun _ => rfl, fun _ => rfl, fun _ => rfl, fun _ => rfl⟩, by decide, by decide, rfl, rfl, fun _ => rfl, fun _ => rfl, fun _ => rfl, fun _ => rfl, fun _ => rfl, fun _ => rfl⟩) agV12 ⟨rfl, fun _ => rfl, fun _ => rfl, fun _ => rfl, fun _ => rfl, fun _ => rfl, fun _ => rfl⟩ (by (first | exact om_abdc88b0c8fc xlp13_10 | omega)))
                        have ht961 : TRs gB (mV V 0 gt gu, ga, Fwork glv go gc gsc gme 0 ((gat : Nat) : Int) p4 [] :: gr) (mV V937 sg9 t9 k9, a9, Fwork glv go gc gsc gm9 0 (((gi + 1) : Nat) : Int) p4 ((if pop1 gp.tail = pop1 gp then 1 else 0) :: gp.tail.tail) :: gr) := by rw [mV_st0 (show agr [(0, 68), (0, 69), (0, 90), (0, 91), (0, 98)] [97] V12 V937 from (agr.tr agr.rf ajV937 (by decide) (by decide))) (by decide) (by omega) (by omega)]; exact ht949
                        have kt963 := i_clamp (x := V12 0 98) rfl (by (first | exact om_eafa9039069c r14.1 | omega))
                        have pw964 := Imp.go t935 (by (first | exact om_972fae222a5e hop | omega)) ((V12 0 98).toInt.toNat - 2) (by omega)
                        have pk962 : PLK V V937 (V 0 98).toInt.toNat := PLK.tr xlp13_21 (t2 := (V 0 98).toInt.toNat) (fun j9 hj9 => pw964.2 j9 (by omega)) (Nat.le_refl _)
                        have rj965 : RJm V937 gB := RJm.ag xlp13_22 (show agr [(0, 68), (0, 69), (0, 90), (0, 91), (0, 98)] [97] V12 V937 from (agr.tr agr.rf ajV937 (by decide) (by decide))) (by decide)
                        exact ihlp13 (f) (j + 1) ((gi + 1)) (((if pop1 gp.tail = pop1 gp then 1 else 0) :: gp.tail.tail)) (gm9) z918 z907 V937 H locs ls (by (first | exact om_8c285ac91b81 rgz918.1 rgz918.2 | omega)) (show 0 ≤ z907.toInt from by (first | exact om_d256ebc631d1 kpc kg9 hz907 | omega)) (Imp.mk (fun hp => have hp : z918.toInt = 0 := hp; (show (V937 0 98).toInt = (V 0 98).toInt + ((j + 1 : Nat) : Int) from by omega))) (Imp.mk (fun hp => have hp : z918.toInt ≠ 2 := hp; (show (V937 0 76).toInt - (V937 0 69).toInt - (V937 0 73).toInt + 1 ≤ (V 0 76).toInt - (V 0 69).toInt - (V 0 73).toInt ∨ (z907.toInt = p0.toInt ∧ (V937 0 76).toInt - (V937 0 69).toInt - (V937 0 73).toInt ≤ (V 0 76).toInt - (V 0 69).toInt - (V 0 73).toInt ∧ z918.toInt = 0) from by (first | exact om_f1197ef27677 im43 hne im943.1 pq953 pq954 | omega)))) (show (V937 0 93).toInt = (V 0 93).toInt from by (first | exact om_cd7d0a6a31bc xlp13_3 pq955 | omega)) (show (V 0 60).toInt ≤ (V937 0 60).toInt from by (first | exact om_a40cdd94799e xlp13_4 pq956 | omega)) (show (V 0 65).toInt ≤ (V937 0 65).toInt from by (first | exact om_a40cdd94799e xlp13_5 pq957 | omega)) (show (V937 0 65).toInt - (V 0 65).toInt ≤ (V937 0 60).toInt - (V 0 60).toInt from by (first | exact om_953d7b5213d2 xlp13_6 pq956 pq957 | omega)) (show (V937 0 73).toInt + (V937 0 95).toInt - (V937 0 65).toInt ≤ (V 0 73).toInt + (V 0 95).toInt - (V 0 65).toInt from by (first | exact om_5b806241d648 xlp13_7 pq953 pq957 pq958 | omega)) (show (V 0 73).toInt ≤ (V937 0 73).toInt from by (first | exact om_a40cdd94799e xlp13_8 pq953 | omega)) (show (V 0 69).toInt ≤ (V937 0 69).toInt from by (first | exact om_a40cdd94799e xlp13_9 im943.1 | omega)) (show (V937 0 95).toInt = (V 0 95).toInt from by (first | exact om_cd7d0a6a31bc xlp13_10 pq958 | omega)) (show (V937 0 76).toInt - (V937 0 69).toInt - (V937 0 73).toInt ≤ (V 0 76).toInt - (V 0 69).toInt - (V 0 73).toInt from by (first | exact om_b2f0e61cd607 xlp13_11 im943.1 pq953 pq954 | omega)) (show 0 ≤ z918.toInt ∧ z918.toInt ≤ 2 from by (first | exact om_8c285ac91b81 rgz918.1 rgz918.2 | omega)) rt959 fm960 (Imp.mk (fun _ => by have e8 : Int32.toNatClampNeg z907 = Int32.toNatClampNeg y11 + 1 := (by have h9 := i_clamp (x := z907) rfl (by (first | exact om_d256ebc631d1 kpc kg9 hz907 | omega)); omega); rw [e8]; exact hw)) (Imp.mk (fun _ => ⟨sg9, t9, k9, a9, sq9, ht961⟩)) (Imp.mk (fun _ => on950)) (Imp.mk (fun _ => pl951)) (Imp.mk (fun hp => have hp : z918.toInt = 0 := hp; (show ((((if pop1 gp.tail = pop1 gp then 1 else 0) :: gp.tail.tail).length : Nat) : Int) = ((j + 1 : Nat) : Int) ∧ z907.toInt = ((10000 * nwh V + (gi + 1) : Nat) : Int) from by omega))) (Imp.mk (fun hp => by exfalso; (first | exact om_fb320d7600b7 rgz918.1 rk945t.1 hp | omega))) pk962 rj965 (by (first | exact om_bd2466411592 hn | omega)) (agr.tr (agr.tr agr.rf ajV12 (by decide) (by decide)) ajV937 (by decide) (by decide)) hMV937 hP hD hS (lv_sub hl [0, 1, 5, 6, 7, 8, 9, 10, 11, 12] rfl)
                      · skip
                        have f966 : ((V 45 (Int32.toNatClampNeg y11))).toInt = 3 := b_eq rfl (by decide) c916
                        exfalso; (first | exact om_47a8ef3df96a hop f966 | omega)
                    · skip
                      have f967 : ((V 45 (Int32.toNatClampNeg y11))).toInt = 14 := b_eq rfl (by decide) c914
                      exfalso; (first | exact om_f480339aad33 hop f967 | omega)
                  · skip
                    have f968 : ((V 45 (Int32.toNatClampNeg y11))).toInt = 15 := b_eq rfl (by decide) c912
                    exfalso; (first | exact om_b56d6683f547 hop f968 | omega)
                · skip
                  have f969 : ((V 45 (Int32.toNatClampNeg y11))).toInt = 12 := b_eq rfl (by decide) c910
                  exfalso; (first | exact om_b55e6c572286 hop f969 | omega)
              · skip
                have f970 : ((V 45 (Int32.toNatClampNeg y11))).toInt = 13 := b_eq rfl (by decide) c908
                exfalso; (first | exact om_4ac19d2b922c hop f970 | omega)
        · skip
          have hop : (V 45 (Int32.toNatClampNeg y11)).toInt = 12 := hc
          have oi9 : opf gB.1 gi = 12 := by have h9 : _ = ((opf gB.1 gi : Nat) : Int) := cd9.1; omega
          have hne : y11.toInt ≠ p0.toInt := fun h9 => by have e9 : y11 = p0 := Int32.toInt_inj.mp h9; rw [e9] at hop; omega
          have et2 : (V 46 (Int32.toNatClampNeg y11)).toInt = (t : Int) := et
          refine lv_aload_n hx hb dX12_worksAround_17 rfl (lv_at hl 3 rfl) ?_
          refine va_get (D := D) (ci := 12) (v := .ref (ad 45)) (C := RX12) (T := TX12) (N := 100) hx hb hg inX12 hown hK hP 0 rfl rfl 45 (by decide) (hg _ w1751) (fun _ h9 => h9) rfl dX12_worksAround_18 ?_
          refine lv_iload hx hb dX12_worksAround_21 (lv_at hl 1 rfl) ?_
          refine va_iald (D := D) (i := y11) hx hb hK hP 38 37 rfl rfl (i_in (a := y11.toInt) rfl (by (first | exact om_943ab426fd09 hq b2 kpc | omega))) dX12_worksAround_23 ?_
          refine g_top (v := (V 45 (Int32.toNatClampNeg y11))) (ajV12 45 (Int32.toNatClampNeg y11) rfl) ?_
          refine lv_if_eq (tgt := 194) hx hb dX12_worksAround_24 (by decide) (fun c971 => ?_) (fun c971 => ?_)
          · skip
            have f972 : ((V 45 (Int32.toNatClampNeg y11))).toInt = 0 := b_eq rfl (by decide) c971
            exfalso; (first | exact om_8481c093d86b hop f972 | omega)
          · skip
            have f973 : ((V 45 (Int32.toNatClampNeg y11))).toInt ≠ 0 := b_neq rfl (by decide) c971
            refine lv_aload_n hx hb dX12_worksAround_27 rfl (lv_at hl 3 rfl) ?_
            refine va_get (D := D) (ci := 12) (v := .ref (ad 45)) (C := RX12) (T := TX12) (N := 100) hx hb hg inX12 hown hK hP 0 rfl rfl 45 (by decide) (hg _ w1751) (fun _ h9 => h9) rfl dX12_worksAround_28 ?_
            refine lv_iload hx hb dX12_worksAround_31 (lv_at hl 1 rfl) ?_
            refine va_iald (D := D) (i := y11) hx hb hK hP 38 37 rfl rfl (i_in (a := y11.toInt) rfl (by (first | exact om_943ab426fd09 hq b2 kpc | omega))) dX12_worksAround_33 ?_
            refine g_top (v := (V 45 (Int32.toNatClampNeg y11))) (ajV12 45 (Int32.toNatClampNeg y11) rfl) ?_
            refine lv_istore (lv' := [(10, .int (V 45 (Int32.toNatClampNeg y11))), (9, .int y10), (8, .int y11), (7, .int (V 0 98)), (0, .ref (ad 0)), (1, .int p0), (2, .int p1), (3, .int p2), (4, .int p3), (5, .int p4), (6, .int p5)]) hx hb dX12_worksAround_34 hl (by decide) rfl (fun ls hl => ?_)
            refine lv_aload_n hx hb dX12_worksAround_36 rfl (lv_at hl 4 rfl) ?_
            refine va_get (D := D) (ci := 12) (v := .ref (ad 46)) (C := RX12) (T := TX12) (N := 100) hx hb hg inX12 hown hK hP 0 rfl rfl 46 (by decide) (hg _ w1752) (fun _ h9 => h9) rfl dX12_worksAround_37 ?_
            refine lv_iload hx hb dX12_worksAround_40 (lv_at hl 2 rfl) ?_
            refine va_iald (D := D) (i := y11) hx hb hK hP 39 38 rfl rfl (i_in (a := y11.toInt) rfl (by (first | exact om_943ab426fd09 hq b2 kpc | omega))) dX12_worksAround_42 ?_
            refine g_top (v := (V 46 (Int32.toNatClampNeg y11))) (ajV12 46 (Int32.toNatClampNeg y11) rfl) ?_
            refine lv_istore (lv' := [(11, .int (V 46 (Int32.toNatClampNeg y11))), (10, .int (V 45 (Int32.toNatClampNeg y11))), (9, .int y10), (8, .int y11), (7, .int (V 0 98)), (0, .ref (ad 0)), (1, .int p0), (2, .int p1), (3, .int p2), (4, .int p3), (5, .int p4), (6, .int p5)]) hx hb dX12_worksAround_43 hl (by decide) rfl (fun ls hl => ?_)
            refine lv_aload_n hx hb dX12_worksAround_45 rfl (lv_at hl 5 rfl) ?_
            refine va_get (D := D) (ci := 12) (v := .ref (ad 47)) (C := RX12) (T := TX12) (N := 100) hx hb hg inX12 hown hK hP 0 rfl rfl 47 (by decide) (hg _ w1753) (fun _ h9 => h9) rfl dX12_worksAround_46 ?_
            refine lv_iload hx hb dX12_worksAround_49 (lv_at hl 3 rfl) ?_
            refine va_iald (D := D) (i := y11) hx hb hK hP 40 39 rfl rfl (i_in (a := y11.toInt) rfl (by (first | exact om_943ab426fd09 hq b2 kpc | omega))) dX12_worksAround_51 ?_
            refine g_top (v := (V 47 (Int32.toNatClampNeg y11))) (ajV12 47 (Int32.toNatClampNeg y11) rfl) ?_
            refine lv_istore (lv' := [(12, .int (V 47 (Int32.toNatClampNeg y11))), (11, .int (V 46 (Int32.toNatClampNeg y11))), (10, .int (V 45 (Int32.toNatClampNeg y11))), (9, .int y10), (8, .int y11), (7, .int (V 0 98)), (0, .ref (ad 0)), (1, .int p0), (2, .int p1), (3, .int p2), (4, .int p3), (5, .int p4), (6, .int p5)]) hx hb dX12_worksAround_52 hl (by decide) rfl (fun ls hl => ?_)
            obtain ⟨z974, ez974⟩ : ∃ y : Int32, y = y11 + 1 := ⟨_, rfl⟩
            have hz974 : z974.toInt = y11.toInt + 1 := i_add ez974 rfl (by decide) (by (first | exact om_084b5c89eefe hq b2 kpc | omega))
            refine lv_iinc (v := z974) (lv' := [(8, .int z974), (12, .int (V 47 (Int32.toNatClampNeg y11))), (11, .int (V 46 (Int32.toNatClampNeg y11))), (10, .int (V 45 (Int32.toNatClampNeg y11))), (9, .int y10), (7, .int (V 0 98)), (0, .ref (ad 0)), (1, .int p0), (2, .int p1), (3, .int p2), (4, .int p3), (5, .int p4), (6, .int p5)]) hx hb dX12_worksAround_54 hl (k := 4) rfl (by rw [ez974]; rfl) (by decide) rfl (fun ls hl => ?_)
            refine lv_iload hx hb dX12_worksAround_57 (lv_at hl 3 rfl) ?_
            refine lv_bipush (v := 13) hx hb dX12_worksAround_59 (by decide) ?_
            refine lv_icmp_ne (tgt := 71) hx hb dX12_worksAround_61 (by decide) (fun c975 => ?_) (fun c975 => ?_)
            · skip
              have f976 : ((V 45 (Int32.toNatClampNeg y11))).toInt ≠ 13 := b_neq rfl (by decide) c975
              refine lv_iload hx hb dX12_worksAround_71 (lv_at hl 3 rfl) ?_
              refine lv_bipush (v := 12) hx hb dX12_worksAround_73 (by decide) ?_
              refine lv_icmp_ne (tgt := 97) hx hb dX12_worksAround_75 (by decide) (fun c977 => ?_) (fun c977 => ?_)
              · skip
                have f978 : ((V 45 (Int32.toNatClampNeg y11))).toInt ≠ 12 := b_neq rfl (by decide) c977
                exfalso; (first | exact om_7ce47a8bf66a hop f978 | omega)
              · skip
                have f979 : ((V 45 (Int32.toNatClampNeg y11))).toInt = 12 := b_eq rfl (by decide) c977
                refine lv_aload_n hx hb dX12_worksAround_78 rfl (lv_at hl 6 rfl) ?_
                refine gA_int (gA_runV (As := []) (rest := []) (ci := 12) (q0 := 0) hx hb hml hown hg hP hD hK hS hA hnw hgk (s_pop3 l D ks H.size ad kk V12 L  hMV12 (show 1 ≤ (V12 0 98).toInt from by omega)) w2276 w2278 w138 w172 w2279 rfl rfl hdV_yX12_pop ⟨(by show (0) + 1 ≤ (4 * d1 + 40 * d2 + 11); (first | exact om_212987aed262 n5 n6 r2.2 xlp13_3 r18.2 | omega)), (by show 8 + (1 + 11) + (0) ≤ (100 * d1 + 1000 * d2 + 410); (first | exact om_a20e3a1c21f1 n5 n6 r2.2 xlp13_3 r18.2 | omega))⟩ rfl hl.1 rfl (Nat.le_of_ble_eq_true rfl) dX12_worksAround_79 ⟨Nat.le_of_ble_eq_true rfl, Nat.le_of_ble_eq_true rfl⟩) hP hD hK hS hA (fun z980 u981 H locs w982 hP hD hK hS => ?_)
                obtain ⟨V985, L986⟩ := u981
                obtain ⟨hMV985, ajV985, axL986, t983, t984⟩ := w982
                have axL986 : L = L986 := Eq.symm axL986
                subst axL986
                have hP : va_P D vwCl (mw ad kk ks.1 V985 L) H := hP
                have hD : va_D A (mw ad kk ks.1 V985 L) := hD
                have hMV985 : rgd bM V985 := hMV985
                have ajV985 : agr [(0, 98)] [] V12 V985 := ajV985
                have agV985 : agr [(0, 60), (0, 65), (0, 68), (0, 69), (0, 73), (0, 76), (0, 90), (0, 91), (0, 92), (0, 93), (0, 95), (0, 96), (0, 98)] [59, 61, 62, 63, 64, 66, 67, 74, 75, 77, 78, 79, 80, 94, 97] V V985 := agV12.tr ajV985 (by decide) (by decide)
                have t983 : (V985 0 98).toInt = (V12 0 98).toInt - 1 := t983
                have t984 : z980 = V12 97 (Int32.toNatClampNeg (V985 0 98)) := t984
                have r987 : 0 ≤ ((V985 0 98)).toInt ∧ ((V985 0 98)).toInt ≤ 20000 := hMV985 0 98
                refine lv_if_ne (tgt := 90) hx hb dX12_worksAround_82 (by decide) (fun c988 => ?_) (fun c988 => ?_)
                · skip
                  have f989 : z980.toInt ≠ 0 := b_neq rfl (by decide) c988
                  refine lv_iload hx hb dX12_worksAround_90 (lv_at hl 0 rfl) ?_
                  refine lv_istore (lv' := [(8, .int z974), (12, .int (V 47 (Int32.toNatClampNeg y11))), (11, .int (V 46 (Int32.toNatClampNeg y11))), (10, .int (V 45 (Int32.toNatClampNeg y11))), (9, .int y10), (7, .int (V 0 98)), (0, .ref (ad 0)), (1, .int p0), (2, .int p1), (3, .int p2), (4, .int p3), (5, .int p4), (6, .int p5)]) hx hb dX12_worksAround_92 hl (by decide) rfl (fun ls hl => ?_)
                  refine lv_goto (tgt := 191) hx hb dX12_worksAround_94 (by decide) ?_
                  obtain ⟨t5, ek5, h5q, h5r⟩ := OQ.i12 og7 oi9
                  obtain ⟨t4, ht4⟩ : ∃ t4 : Nat, (V12 0 98).toInt = (t4 : Int) + 1 := ⟨(V12 0 98).toInt.toNat - 1, by omega⟩
                  have hd4 := plR.hd (t := t4) (by rw [show t4 + 1 = (V12 0 98).toInt.toNat from by omega]; exact pl9) (by omega)
                  have tl4 := tl1 (p := gp) (by omega)
                  have pz9 : z980 = pop1 gp := by have h9 := t984; rw [show Int32.toNatClampNeg (V985 0 98) = t4 from by have h8 := i_clamp (x := V985 0 98) rfl (by (first | exact om_eafa9039069c r987.1 | omega)); omega] at h9; exact h9.trans hd4.1
                  have tg9 := CDmr.tg cd8 (Or.inl oi9) (by rw [kg9]; exact et2) (by have h9 := lo9; have h8 : lo ≤ t := (by cases f with | zero => exact hw2.elim | succ f => exact hw2.1); omega)
                  have r990 : 0 ≤ (V12 0 65).toInt := (hMV12 0 65).1
                  have r991 : (V12 0 60).toInt ≤ 300 := (hMV12 0 60).2
                  have r992 : 0 ≤ (V12 0 93).toInt ∧ (V12 0 93).toInt ≤ 10 := hMV12 0 93
                  have ht993 : TRs gB (mV V 0 gt gu, ga, Fwork glv go gc gsc gme 0 ((gat : Nat) : Int) p4 [] :: gr) (mV V12 sg9 t9 k9, a9, Fwork glv go gc gsc gm9 0 (((gi + 1) : Nat) : Int) p4 gp.tail :: gr) := TRs.st ht9 (SF.mk (show gr.length ≤ 394 from by (first | exact om_87fa92eb9f41 hl9 xlp13_3 r18.2 | omega)) (show gp.length + (totP gr) ≤ 2000 from by (first | exact om_6542cae4e4ce hp9 r7.2 b3 nm9.1 | omega)) (show 0 ≤ (V12 0 65).toInt ∧ (V12 0 65).toInt ≤ 300 from by (first | exact om_65732a9e84ef n1 xlp13_6 r19.2 r20.1 | omega)) (fun h9 => by have h8 : sg9 = 2 := h9; omega) (show ∃ q9, OQ gB _ _ _ _ q9 from ⟨_, og7⟩)) ((st_12.trans (or_12 oi9)).trans (by rw [if_neg (show ¬ pop1 gp = 0 from fun h9 => by rw [← pz9] at h9; have h8 := congrArg Int32.toInt h9; have z0 : Int32.toInt 0 = 0 := (by decide); omega)] <;> rfl))
                  have on994 := (show ∃ q9, OQ gB (ndW gB gc 0) (decide ((0 : Int) < 0)) (gi + 1) gp.tail.length q9 from by rw [show gp.tail.length = t5 from by omega]; exact h5q)
                  have pl995 : plR V985 (V985 0 98).toInt.toNat gp.tail := by rw [show (V985 0 98).toInt.toNat = t4 from by omega]; exact plR.mv hd4.2 (fun j9 _ => (show agr [(0, 98)] [] V12 V985 from (agr.tr agr.rf ajV985 (by decide) (by decide))) 97 j9 rfl)
                  refine lv_goto (tgt := 12) hx hb dX12_worksAround_191 (by decide) ?_
                  have pq996 : (V985 0 73).toInt = ((V12 0 73)).toInt := congrArg Int32.toInt (ajV985 0 73 rfl)
                  have pq997 : (V985 0 76).toInt = ((V12 0 76)).toInt := congrArg Int32.toInt (ajV985 0 76 rfl)
                  have pq998 : (V985 0 69).toInt = ((V12 0 69)).toInt := congrArg Int32.toInt (ajV985 0 69 rfl)
                  have pq999 : (V985 0 93).toInt = ((V12 0 93)).toInt := congrArg Int32.toInt (ajV985 0 93 rfl)
                  have pq1000 : (V985 0 60).toInt = ((V12 0 60)).toInt := congrArg Int32.toInt (ajV985 0 60 rfl)
                  have pq1001 : (V985 0 65).toInt = ((V12 0 65)).toInt := congrArg Int32.toInt (ajV985 0 65 rfl)
                  have pq1002 : (V985 0 95).toInt = ((V12 0 95)).toInt := congrArg Int32.toInt (ajV985 0 95 rfl)
                  have rt1003 : RT V985 := RT.ag xlp13_13 hMV12 (show agr [(0, 98)] [] V12 V985 from (agr.tr agr.rf ajV985 (by decide) (by decide))) ⟨⟨rfl, fun _ => rfl, fun _ => rfl, fun _ => rfl, fun _ => rfl, fun _ => rfl, fun _ => rfl⟩, by decide, by decide, rfl, rfl, fun _ => rfl, fun _ => rfl, fun _ => rfl, fun _ => rfl, fun _ => rfl, fun _ => rfl⟩ (c0k.ag (show agr [(0, 98)] [] V12 V985 from (agr.tr agr.rf ajV985 (by decide) (by decide))) rfl)
                  have fm1004 : FRM V V985 (-1) := (FRM.tr xlp13_14 (FRM.ag (show agr [(0, 98)] [] V12 V985 from (agr.tr agr.rf ajV985 (by decide) (by decide))) ⟨⟨rfl, fun _ => rfl, fun _ => rfl, fun _ => rfl, fun _ => rfl, fun _ => rfl, fun _ => rfl⟩, by decide, by decide, rfl, rfl, fun _ => rfl, fun _ => rfl, fun _ => rfl, fun _ => rfl, fun _ => rfl, fun _ => rfl⟩) agV12 ⟨rfl, fun _ => rfl, fun _ => rfl, fun _ => rfl, fun _ => rfl, fun _ => rfl, fun _ => rfl⟩ (by (first | exact om_abdc88b0c8fc xlp13_10 | omega)))
                  have ht1005 : TRs gB (mV V 0 gt gu, ga, Fwork glv go gc gsc gme 0 ((gat : Nat) : Int) p4 [] :: gr) (mV V985 sg9 t9 k9, a9, Fwork glv go gc gsc gm9 0 (((gi + 1) : Nat) : Int) p4 gp.tail :: gr) := by rw [mV_ag (show agr [(0, 98)] [] V12 V985 from (agr.tr agr.rf ajV985 (by decide) (by decide))) (by decide)]; exact ht993
                  have pk1006 : PLK V V985 (V 0 98).toInt.toNat := (PLK.tr xlp13_21 (PLK.ag (t := (V 0 98).toInt.toNat) (show agr [(0, 98)] [] V12 V985 from (agr.tr agr.rf ajV985 (by decide) (by decide))) (fun _ => rfl)) (Nat.le_refl _))
                  have rj1007 : RJm V985 gB := RJm.ag xlp13_22 (show agr [(0, 98)] [] V12 V985 from (agr.tr agr.rf ajV985 (by decide) (by decide))) (by decide)
                  exact ihlp13 (f) (j) ((gi + 1)) (gp.tail) (gm9) y10 z974 V985 H locs ls (by (first | exact om_1b1318762dc0 klp13_0.1 f41 | omega)) (show 0 ≤ z974.toInt from by (first | exact om_d256ebc631d1 kpc kg9 hz974 | omega)) (Imp.mk (fun hp => have hp : y10.toInt = 0 := hp; (show (V985 0 98).toInt = (V 0 98).toInt + ((j : Nat) : Int) from by omega))) (Imp.mk (fun hp => have hp : y10.toInt ≠ 2 := hp; (show (V985 0 76).toInt - (V985 0 69).toInt - (V985 0 73).toInt + 1 ≤ (V 0 76).toInt - (V 0 69).toInt - (V 0 73).toInt ∨ (z974.toInt = p0.toInt ∧ (V985 0 76).toInt - (V985 0 69).toInt - (V985 0 73).toInt ≤ (V 0 76).toInt - (V 0 69).toInt - (V 0 73).toInt ∧ y10.toInt = 0) from by (first | exact om_be0fa1a74876 im43 hne pq996 pq997 pq998 | omega)))) (show (V985 0 93).toInt = (V 0 93).toInt from by (first | exact om_cd7d0a6a31bc xlp13_3 pq999 | omega)) (show (V 0 60).toInt ≤ (V985 0 60).toInt from by (first | exact om_a40cdd94799e xlp13_4 pq1000 | omega)) (show (V 0 65).toInt ≤ (V985 0 65).toInt from by (first | exact om_a40cdd94799e xlp13_5 pq1001 | omega)) (show (V985 0 65).toInt - (V 0 65).toInt ≤ (V985 0 60).toInt - (V 0 60).toInt from by (first | exact om_953d7b5213d2 xlp13_6 pq1000 pq1001 | omega)) (show (V985 0 73).toInt + (V985 0 95).toInt - (V985 0 65).toInt ≤ (V 0 73).toInt + (V 0 95).toInt - (V 0 65).toInt from by (first | exact om_5b806241d648 xlp13_7 pq996 pq1001 pq1002 | omega)) (show (V 0 73).toInt ≤ (V985 0 73).toInt from by (first | exact om_a40cdd94799e xlp13_8 pq996 | omega)) (show (V 0 69).toInt ≤ (V985 0 69).toInt from by (first | exact om_a40cdd94799e xlp13_9 pq998 | omega)) (show (V985 0 95).toInt = (V 0 95).toInt from by (first | exact om_cd7d0a6a31bc xlp13_10 pq1002 | omega)) (show (V985 0 76).toInt - (V985 0 69).toInt - (V985 0 73).toInt ≤ (V 0 76).toInt - (V 0 69).toInt - (V 0 73).toInt from by (first | exact om_5f68dd7d7033 xlp13_11 pq996 pq997 pq998 | omega)) (show 0 ≤ y10.toInt ∧ y10.toInt ≤ 2 from by (first | exact om_1b1318762dc0 klp13_0.1 f41 | omega)) rt1003 fm1004 (Imp.mk (fun _ => by have e8 : Int32.toNatClampNeg z974 = Int32.toNatClampNeg y11 + 1 := (by have h9 := i_clamp (x := z974) rfl (by (first | exact om_d256ebc631d1 kpc kg9 hz974 | omega)); omega); rw [e8]; exact hw)) (Imp.mk (fun _ => ⟨sg9, t9, k9, a9, sq9, ht1005⟩)) (Imp.mk (fun _ => on994)) (Imp.mk (fun _ => pl995)) (Imp.mk (fun hp => have hp : y10.toInt = 0 := hp; (show ((gp.tail.length : Nat) : Int) = ((j : Nat) : Int) ∧ z974.toInt = ((10000 * nwh V + (gi + 1) : Nat) : Int) from by omega))) (Imp.mk (fun hp => by exfalso; (first | exact om_fb320d7600b7 klp13_0.1 f41 hp | omega))) pk1006 rj1007 (by (first | exact om_bd2466411592 hn | omega)) (agr.tr (agr.tr agr.rf ajV12 (by decide) (by decide)) ajV985 (by decide) (by decide)) hMV985 hP hD hS (lv_sub hl [4, 0, 5, 6, 7, 8, 9, 10, 11, 12] rfl)
                · skip
                  have f1008 : z980.toInt = 0 := b_eq rfl (by decide) c988
                  refine lv_iload hx hb dX12_worksAround_85 (lv_at hl 2 rfl) ?_
                  refine lv_goto (tgt := 92) hx hb dX12_worksAround_87 (by decide) ?_
                  refine lv_istore (lv' := [(8, .int (V 46 (Int32.toNatClampNeg y11))), (12, .int (V 47 (Int32.toNatClampNeg y11))), (11, .int (V 46 (Int32.toNatClampNeg y11))), (10, .int (V 45 (Int32.toNatClampNeg y11))), (9, .int y10), (7, .int (V 0 98)), (0, .ref (ad 0)), (1, .int p0), (2, .int p1), (3, .int p2), (4, .int p3), (5, .int p4), (6, .int p5)]) hx hb dX12_worksAround_92 hl (by decide) rfl (fun ls hl => ?_)
                  refine lv_goto (tgt := 191) hx hb dX12_worksAround_94 (by decide) ?_
                  obtain ⟨t5, ek5, h5q, h5r⟩ := OQ.i12 og7 oi9
                  obtain ⟨t4, ht4⟩ : ∃ t4 : Nat, (V12 0 98).toInt = (t4 : Int) + 1 := ⟨(V12 0 98).toInt.toNat - 1, by omega⟩
                  have hd4 := plR.hd (t := t4) (by rw [show t4 + 1 = (V12 0 98).toInt.toNat from by omega]; exact pl9) (by omega)
                  have tl4 := tl1 (p := gp) (by omega)
                  have pz9 : z980 = pop1 gp := by have h9 := t984; rw [show Int32.toNatClampNeg (V985 0 98) = t4 from by have h8 := i_clamp (x := V985 0 98) rfl (by (first | exact om_eafa9039069c r987.1 | omega)); omega] at h9; exact h9.trans hd4.1
                  have tg9 := CDmr.tg cd8 (Or.inl oi9) (by rw [kg9]; exact et2) (by have h9 := lo9; have h8 : lo ≤ t := (by cases f with | zero => exact hw2.elim | succ f => exact hw2.1); omega)
                  have r1009 : 0 ≤ (V12 0 65).toInt := (hMV12 0 65).1
                  have r1010 : (V12 0 60).toInt ≤ 300 := (hMV12 0 60).2
                  have r1011 : 0 ≤ (V12 0 93).toInt ∧ (V12 0 93).toInt ≤ 10 := hMV12 0 93
                  have ht1012 : TRs gB (mV V 0 gt gu, ga, Fwork glv go gc gsc gme 0 ((gat : Nat) : Int) p4 [] :: gr) (mV V12 sg9 t9 k9, a9, Fwork glv go gc gsc gm9 0 (((nL gB.1 (2001 + 3 * gi)) : Nat) : Int) p4 gp.tail :: gr) := TRs.st ht9 (SF.mk (show gr.length ≤ 394 from by (first | exact om_87fa92eb9f41 hl9 xlp13_3 r18.2 | omega)) (show gp.length + (totP gr) ≤ 2000 from by (first | exact om_6542cae4e4ce hp9 r7.2 b3 nm9.1 | omega)) (show 0 ≤ (V12 0 65).toInt ∧ (V12 0 65).toInt ≤ 300 from by (first | exact om_65732a9e84ef n1 xlp13_6 r19.2 r20.1 | omega)) (fun h9 => by have h8 : sg9 = 2 := h9; omega) (show ∃ q9, OQ gB _ _ _ _ q9 from ⟨_, og7⟩)) ((st_12.trans (or_12 oi9)).trans (by rw [if_pos (show pop1 gp = 0 from by rw [← pz9]; exact Int32.toInt_inj.mp (by have z0 : Int32.toInt 0 = 0 := (by decide); omega))] <;> rfl))
                  have on1013 := (show ∃ q9, OQ gB (ndW gB gc 0) (decide ((0 : Int) < 0)) (nL gB.1 (2001 + 3 * gi)) gp.tail.length q9 from by rw [show gp.tail.length = t5 from by omega]; exact h5r)
                  have pl1014 : plR V985 (V985 0 98).toInt.toNat gp.tail := by rw [show (V985 0 98).toInt.toNat = t4 from by omega]; exact plR.mv hd4.2 (fun j9 _ => (show agr [(0, 98)] [] V12 V985 from (agr.tr agr.rf ajV985 (by decide) (by decide))) 97 j9 rfl)
                  refine lv_goto (tgt := 12) hx hb dX12_worksAround_191 (by decide) ?_
                  have pq1015 : (V985 0 73).toInt = ((V12 0 73)).toInt := congrArg Int32.toInt (ajV985 0 73 rfl)
                  have pq1016 : (V985 0 76).toInt = ((V12 0 76)).toInt := congrArg Int32.toInt (ajV985 0 76 rfl)
                  have pq1017 : (V985 0 69).toInt = ((V12 0 69)).toInt := congrArg Int32.toInt (ajV985 0 69 rfl)
                  have pq1018 : (V985 0 93).toInt = ((V12 0 93)).toInt := congrArg Int32.toInt (ajV985 0 93 rfl)
                  have pq1019 : (V985 0 60).toInt = ((V12 0 60)).toInt := congrArg Int32.toInt (ajV985 0 60 rfl)
                  have pq1020 : (V985 0 65).toInt = ((V12 0 65)).toInt := congrArg Int32.toInt (ajV985 0 65 rfl)
                  have pq1021 : (V985 0 95).toInt = ((V12 0 95)).toInt := congrArg Int32.toInt (ajV985 0 95 rfl)
                  have rt1022 : RT V985 := RT.ag xlp13_13 hMV12 (show agr [(0, 98)] [] V12 V985 from (agr.tr agr.rf ajV985 (by decide) (by decide))) ⟨⟨rfl, fun _ => rfl, fun _ => rfl, fun _ => rfl, fun _ => rfl, fun _ => rfl, fun _ => rfl⟩, by decide, by decide, rfl, rfl, fun _ => rfl, fun _ => rfl, fun _ => rfl, fun _ => rfl, fun _ => rfl, fun _ => rfl⟩ (c0k.ag (show agr [(0, 98)] [] V12 V985 from (agr.tr agr.rf ajV985 (by decide) (by decide))) rfl)
                  have fm1023 : FRM V V985 (-1) := (FRM.tr xlp13_14 (FRM.ag (show agr [(0, 98)] [] V12 V985 from (agr.tr agr.rf ajV985 (by decide) (by decide))) ⟨⟨rfl, fun _ => rfl, fun _ => rfl, fun _ => rfl, fun _ => rfl, fun _ => rfl, fun _ => rfl⟩, by decide, by decide, rfl, rfl, fun _ => rfl, fun _ => rfl, fun _ => rfl, fun _ => rfl, fun _ => rfl, fun _ => rfl⟩) agV12 ⟨rfl, fun _ => rfl, fun _ => rfl, fun _ => rfl, fun _ => rfl, fun _ => rfl, fun _ => rfl⟩ (by (first | exact om_abdc88b0c8fc xlp13_10 | omega)))
                  have ht1024 : TRs gB (mV V 0 gt gu, ga, Fwork glv go gc gsc gme 0 ((gat : Nat) : Int) p4 [] :: gr) (mV V985 sg9 t9 k9, a9, Fwork glv go gc gsc gm9 0 (((nL gB.1 (2001 + 3 * gi)) : Nat) : Int) p4 gp.tail :: gr) := by rw [mV_ag (show agr [(0, 98)] [] V12 V985 from (agr.tr agr.rf ajV985 (by decide) (by decide))) (by decide)]; exact ht1012
                  have pk1025 : PLK V V985 (V 0 98).toInt.toNat := (PLK.tr xlp13_21 (PLK.ag (t := (V 0 98).toInt.toNat) (show agr [(0, 98)] [] V12 V985 from (agr.tr agr.rf ajV985 (by decide) (by decide))) (fun _ => rfl)) (Nat.le_refl _))
                  have rj1026 : RJm V985 gB := RJm.ag xlp13_22 (show agr [(0, 98)] [] V12 V985 from (agr.tr agr.rf ajV985 (by decide) (by decide))) (by decide)
                  exact ihlp13 (f) (j) ((nL gB.1 (2001 + 3 * gi))) (gp.tail) (gm9) y10 (V 46 (Int32.toNatClampNeg y11)) V985 H locs ls (by (first | exact om_1b1318762dc0 klp13_0.1 f41 | omega)) (show 0 ≤ ((V 46 (Int32.toNatClampNeg y11))).toInt from by omega) (Imp.mk (fun hp => have hp : y10.toInt = 0 := hp; (show (V985 0 98).toInt = (V 0 98).toInt + ((j : Nat) : Int) from by omega))) (Imp.mk (fun hp => have hp : y10.toInt ≠ 2 := hp; (show (V985 0 76).toInt - (V985 0 69).toInt - (V985 0 73).toInt + 1 ≤ (V 0 76).toInt - (V 0 69).toInt - (V 0 73).toInt ∨ (((V 46 (Int32.toNatClampNeg y11))).toInt = p0.toInt ∧ (V985 0 76).toInt - (V985 0 69).toInt - (V985 0 73).toInt ≤ (V 0 76).toInt - (V 0 69).toInt - (V 0 73).toInt ∧ y10.toInt = 0) from by (first | exact om_be0fa1a74876 im43 hne pq1015 pq1016 pq1017 | omega)))) (show (V985 0 93).toInt = (V 0 93).toInt from by (first | exact om_cd7d0a6a31bc xlp13_3 pq1018 | omega)) (show (V 0 60).toInt ≤ (V985 0 60).toInt from by (first | exact om_a40cdd94799e xlp13_4 pq1019 | omega)) (show (V 0 65).toInt ≤ (V985 0 65).toInt from by (first | exact om_a40cdd94799e xlp13_5 pq1020 | omega)) (show (V985 0 65).toInt - (V 0 65).toInt ≤ (V985 0 60).toInt - (V 0 60).toInt from by (first | exact om_953d7b5213d2 xlp13_6 pq1019 pq1020 | omega)) (show (V985 0 73).toInt + (V985 0 95).toInt - (V985 0 65).toInt ≤ (V 0 73).toInt + (V 0 95).toInt - (V 0 65).toInt from by (first | exact om_5b806241d648 xlp13_7 pq1015 pq1020 pq1021 | omega)) (show (V 0 73).toInt ≤ (V985 0 73).toInt from by (first | exact om_a40cdd94799e xlp13_8 pq1015 | omega)) (show (V 0 69).toInt ≤ (V985 0 69).toInt from by (first | exact om_a40cdd94799e xlp13_9 pq1017 | omega)) (show (V985 0 95).toInt = (V 0 95).toInt from by (first | exact om_cd7d0a6a31bc xlp13_10 pq1021 | omega)) (show (V985 0 76).toInt - (V985 0 69).toInt - (V985 0 73).toInt ≤ (V 0 76).toInt - (V 0 69).toInt - (V 0 73).toInt from by (first | exact om_5f68dd7d7033 xlp13_11 pq1015 pq1016 pq1017 | omega)) (show 0 ≤ y10.toInt ∧ y10.toInt ≤ 2 from by (first | exact om_1b1318762dc0 klp13_0.1 f41 | omega)) rt1022 fm1023 (Imp.mk (fun _ => by have e8 : Int32.toNatClampNeg (V 46 (Int32.toNatClampNeg y11)) = t := (by have h9 := i_clamp (x := (V 46 (Int32.toNatClampNeg y11))) rfl (by omega); omega); rw [e8]; exact hw2)) (Imp.mk (fun _ => ⟨sg9, t9, k9, a9, sq9, ht1024⟩)) (Imp.mk (fun _ => on1013)) (Imp.mk (fun _ => pl1014)) (Imp.mk (fun hp => have hp : y10.toInt = 0 := hp; (show ((gp.tail.length : Nat) : Int) = ((j : Nat) : Int) ∧ ((V 46 (Int32.toNatClampNeg y11))).toInt = ((10000 * nwh V + (nL gB.1 (2001 + 3 * gi)) : Nat) : Int) from by omega))) (Imp.mk (fun hp => by exfalso; (first | exact om_fb320d7600b7 klp13_0.1 f41 hp | omega))) pk1025 rj1026 (by (first | exact om_bd2466411592 hn | omega)) (agr.tr (agr.tr agr.rf ajV12 (by decide) (by decide)) ajV985 (by decide) (by decide)) hMV985 hP hD hS (lv_sub hl [4, 0, 5, 6, 7, 8, 9, 10, 11, 12] rfl)
            · skip
              have f1027 : ((V 45 (Int32.toNatClampNeg y11))).toInt = 13 := b_eq rfl (by decide) c975
              exfalso; (first | exact om_5ed682c70fcb hop f1027 | omega)
        · skip
          have hop : (V 45 (Int32.toNatClampNeg y11)).toInt = 13 := hc
          have oi9 : opf gB.1 gi = 13 := by have h9 : _ = ((opf gB.1 gi : Nat) : Int) := cd9.1; omega
          have hne : y11.toInt ≠ p0.toInt := fun h9 => by have e9 : y11 = p0 := Int32.toInt_inj.mp h9; rw [e9] at hop; omega
          have et2 : (V 46 (Int32.toNatClampNeg y11)).toInt = (t : Int) := et
          refine lv_aload_n hx hb dX12_worksAround_17 rfl (lv_at hl 3 rfl) ?_
          refine va_get (D := D) (ci := 12) (v := .ref (ad 45)) (C := RX12) (T := TX12) (N := 100) hx hb hg inX12 hown hK hP 0 rfl rfl 45 (by decide) (hg _ w1751) (fun _ h9 => h9) rfl dX12_worksAround_18 ?_
          refine lv_iload hx hb dX12_worksAround_21 (lv_at hl 1 rfl) ?_
          refine va_iald (D := D) (i := y11) hx hb hK hP 38 37 rfl rfl (i_in (a := y11.toInt) rfl (by (first | exact om_943ab426fd09 hq b2 kpc | omega))) dX12_worksAround_23 ?_
          refine g_top (v := (V 45 (Int32.toNatClampNeg y11))) (ajV12 45 (Int32.toNatClampNeg y11) rfl) ?_
          refine lv_if_eq (tgt := 194) hx hb dX12_worksAround_24 (by decide) (fun c1028 => ?_) (fun c1028 => ?_)
          · skip
            have f1029 : ((V 45 (Int32.toNatClampNeg y11))).toInt = 0 := b_eq rfl (by decide) c1028
            exfalso; (first | exact om_f2c651501407 hop f1029 | omega)
          · skip
            have f1030 : ((V 45 (Int32.toNatClampNeg y11))).toInt ≠ 0 := b_neq rfl (by decide) c1028
            refine lv_aload_n hx hb dX12_worksAround_27 rfl (lv_at hl 3 rfl) ?_
            refine va_get (D := D) (ci := 12) (v := .ref (ad 45)) (C := RX12) (T := TX12) (N := 100) hx hb hg inX12 hown hK hP 0 rfl rfl 45 (by decide) (hg _ w1751) (fun _ h9 => h9) rfl dX12_worksAround_28 ?_
            refine lv_iload hx hb dX12_worksAround_31 (lv_at hl 1 rfl) ?_
            refine va_iald (D := D) (i := y11) hx hb hK hP 38 37 rfl rfl (i_in (a := y11.toInt) rfl (by (first | exact om_943ab426fd09 hq b2 kpc | omega))) dX12_worksAround_33 ?_
            refine g_top (v := (V 45 (Int32.toNatClampNeg y11))) (ajV12 45 (Int32.toNatClampNeg y11) rfl) ?_
            refine lv_istore (lv' := [(10, .int (V 45 (Int32.toNatClampNeg y11))), (9, .int y10), (8, .int y11), (7, .int (V 0 98)), (0, .ref (ad 0)), (1, .int p0), (2, .int p1), (3, .int p2), (4, .int p3), (5, .int p4), (6, .int p5)]) hx hb dX12_worksAround_34 hl (by decide) rfl (fun ls hl => ?_)
            refine lv_aload_n hx hb dX12_worksAround_36 rfl (lv_at hl 4 rfl) ?_
            refine va_get (D := D) (ci := 12) (v := .ref (ad 46)) (C := RX12) (T := TX12) (N := 100) hx hb hg inX12 hown hK hP 0 rfl rfl 46 (by decide) (hg _ w1752) (fun _ h9 => h9) rfl dX12_worksAround_37 ?_
            refine lv_iload hx hb dX12_worksAround_40 (lv_at hl 2 rfl) ?_
            refine va_iald (D := D) (i := y11) hx hb hK hP 39 38 rfl rfl (i_in (a := y11.toInt) rfl (by (first | exact om_943ab426fd09 hq b2 kpc | omega))) dX12_worksAround_42 ?_
            refine g_top (v := (V 46 (Int32.toNatClampNeg y11))) (ajV12 46 (Int32.toNatClampNeg y11) rfl) ?_
            refine lv_istore (lv' := [(11, .int (V 46 (Int32.toNatClampNeg y11))), (10, .int (V 45 (Int32.toNatClampNeg y11))), (9, .int y10), (8, .int y11), (7, .int (V 0 98)), (0, .ref (ad 0)), (1, .int p0), (2, .int p1), (3, .int p2), (4, .int p3), (5, .int p4), (6, .int p5)]) hx hb dX12_worksAround_43 hl (by decide) rfl (fun ls hl => ?_)
            refine lv_aload_n hx hb dX12_worksAround_45 rfl (lv_at hl 5 rfl) ?_
            refine va_get (D := D) (ci := 12) (v := .ref (ad 47)) (C := RX12) (T := TX12) (N := 100) hx hb hg inX12 hown hK hP 0 rfl rfl 47 (by decide) (hg _ w1753) (fun _ h9 => h9) rfl dX12_worksAround_46 ?_
            refine lv_iload hx hb dX12_worksAround_49 (lv_at hl 3 rfl) ?_
            refine va_iald (D := D) (i := y11) hx hb hK hP 40 39 rfl rfl (i_in (a := y11.toInt) rfl (by (first | exact om_943ab426fd09 hq b2 kpc | omega))) dX12_worksAround_51 ?_
            refine g_top (v := (V 47 (Int32.toNatClampNeg y11))) (ajV12 47 (Int32.toNatClampNeg y11) rfl) ?_
            refine lv_istore (lv' := [(12, .int (V 47 (Int32.toNatClampNeg y11))), (11, .int (V 46 (Int32.toNatClampNeg y11))), (10, .int (V 45 (Int32.toNatClampNeg y11))), (9, .int y10), (8, .int y11), (7, .int (V 0 98)), (0, .ref (ad 0)), (1, .int p0), (2, .int p1), (3, .int p2), (4, .int p3), (5, .int p4), (6, .int p5)]) hx hb dX12_worksAround_52 hl (by decide) rfl (fun ls hl => ?_)
            obtain ⟨z1031, ez1031⟩ : ∃ y : Int32, y = y11 + 1 := ⟨_, rfl⟩
            have hz1031 : z1031.toInt = y11.toInt + 1 := i_add ez1031 rfl (by decide) (by (first | exact om_084b5c89eefe hq b2 kpc | omega))
            refine lv_iinc (v := z1031) (lv' := [(8, .int z1031), (12, .int (V 47 (Int32.toNatClampNeg y11))), (11, .int (V 46 (Int32.toNatClampNeg y11))), (10, .int (V 45 (Int32.toNatClampNeg y11))), (9, .int y10), (7, .int (V 0 98)), (0, .ref (ad 0)), (1, .int p0), (2, .int p1), (3, .int p2), (4, .int p3), (5, .int p4), (6, .int p5)]) hx hb dX12_worksAround_54 hl (k := 4) rfl (by rw [ez1031]; rfl) (by decide) rfl (fun ls hl => ?_)
            refine lv_iload hx hb dX12_worksAround_57 (lv_at hl 3 rfl) ?_
            refine lv_bipush (v := 13) hx hb dX12_worksAround_59 (by decide) ?_
            refine lv_icmp_ne (tgt := 71) hx hb dX12_worksAround_61 (by decide) (fun c1032 => ?_) (fun c1032 => ?_)
            · skip
              have f1033 : ((V 45 (Int32.toNatClampNeg y11))).toInt ≠ 13 := b_neq rfl (by decide) c1032
              exfalso; (first | exact om_ea9524dc3dd1 hop f1033 | omega)
            · skip
              have f1034 : ((V 45 (Int32.toNatClampNeg y11))).toInt = 13 := b_eq rfl (by decide) c1032
              refine lv_iload hx hb dX12_worksAround_64 (lv_at hl 2 rfl) ?_
              refine lv_istore (lv' := [(8, .int (V 46 (Int32.toNatClampNeg y11))), (12, .int (V 47 (Int32.toNatClampNeg y11))), (11, .int (V 46 (Int32.toNatClampNeg y11))), (10, .int (V 45 (Int32.toNatClampNeg y11))), (9, .int y10), (7, .int (V 0 98)), (0, .ref (ad 0)), (1, .int p0), (2, .int p1), (3, .int p2), (4, .int p3), (5, .int p4), (6, .int p5)]) hx hb dX12_worksAround_66 hl (by decide) rfl (fun ls hl => ?_)
              refine lv_goto (tgt := 191) hx hb dX12_worksAround_68 (by decide) ?_
              have tg9 := CDmr.tg cd8 (Or.inr oi9) (by rw [kg9]; exact et2) (by have h9 := lo9; have h8 : lo ≤ t := (by cases f with | zero => exact hw.elim | succ f => exact hw.1); omega)
              have r1035 : 0 ≤ (V12 0 65).toInt := (hMV12 0 65).1
              have r1036 : (V12 0 60).toInt ≤ 300 := (hMV12 0 60).2
              have r1037 : 0 ≤ (V12 0 93).toInt ∧ (V12 0 93).toInt ≤ 10 := hMV12 0 93
              have ht1038 : TRs gB (mV V 0 gt gu, ga, Fwork glv go gc gsc gme 0 ((gat : Nat) : Int) p4 [] :: gr) (mV V12 sg9 t9 k9, a9, Fwork glv go gc gsc gm9 0 (((nL gB.1 (2001 + 3 * gi)) : Nat) : Int) p4 gp :: gr) := TRs.st ht9 (SF.mk (show gr.length ≤ 394 from by (first | exact om_87fa92eb9f41 hl9 xlp13_3 r18.2 | omega)) (show gp.length + (totP gr) ≤ 2000 from by (first | exact om_6542cae4e4ce hp9 r7.2 b3 nm9.1 | omega)) (show 0 ≤ (V12 0 65).toInt ∧ (V12 0 65).toInt ≤ 300 from by (first | exact om_65732a9e84ef n1 xlp13_6 r19.2 r20.1 | omega)) (fun h9 => by have h8 : sg9 = 2 := h9; omega) (show ∃ q9, OQ gB _ _ _ _ q9 from ⟨_, og7⟩)) (st_12.trans (or_13 oi9))
              have on1039 := OQ.i13 og7 oi9
              refine lv_goto (tgt := 12) hx hb dX12_worksAround_191 (by decide) ?_
              exact ihlp13 (f) (gk) ((nL gB.1 (2001 + 3 * gi))) (gp) (gm9) y10 (V 46 (Int32.toNatClampNeg y11)) V12 H locs ls (by (first | exact om_1b1318762dc0 klp13_0.1 f41 | omega)) (show 0 ≤ ((V 46 (Int32.toNatClampNeg y11))).toInt from by omega) (Imp.mk (fun hp => have hp : y10.toInt = 0 := hp; (show (V12 0 98).toInt = (V 0 98).toInt + ((gk : Nat) : Int) from by (first | exact om_7fa97002a128 ((Imp.go xlp13_1 (hp))) | omega)))) (Imp.mk (fun hp => have hp : y10.toInt ≠ 2 := hp; (show (V12 0 76).toInt - (V12 0 69).toInt - (V12 0 73).toInt + 1 ≤ (V 0 76).toInt - (V 0 69).toInt - (V 0 73).toInt ∨ (((V 46 (Int32.toNatClampNeg y11))).toInt = p0.toInt ∧ (V12 0 76).toInt - (V12 0 69).toInt - (V12 0 73).toInt ≤ (V 0 76).toInt - (V 0 69).toInt - (V 0 73).toInt ∧ y10.toInt = 0) from by (first | exact om_054eba47d177 im43 hne | omega)))) (show (V12 0 93).toInt = (V 0 93).toInt from by (first | exact om_570b691c1130 xlp13_3 | omega)) (show (V 0 60).toInt ≤ (V12 0 60).toInt from by (first | exact om_f4906d00fa52 xlp13_4 | omega)) (show (V 0 65).toInt ≤ (V12 0 65).toInt from by (first | exact om_f4906d00fa52 xlp13_5 | omega)) (show (V12 0 65).toInt - (V 0 65).toInt ≤ (V12 0 60).toInt - (V 0 60).toInt from by (first | exact om_b36b2a007ba2 xlp13_6 | omega)) (show (V12 0 73).toInt + (V12 0 95).toInt - (V12 0 65).toInt ≤ (V 0 73).toInt + (V 0 95).toInt - (V 0 65).toInt from by (first | exact om_f04cba5a5a1f xlp13_7 | omega)) (show (V 0 73).toInt ≤ (V12 0 73).toInt from by (first | exact om_f4906d00fa52 xlp13_8 | omega)) (show (V 0 69).toInt ≤ (V12 0 69).toInt from by (first | exact om_f4906d00fa52 xlp13_9 | omega)) (show (V12 0 95).toInt = (V 0 95).toInt from by (first | exact om_570b691c1130 xlp13_10 | omega)) (show (V12 0 76).toInt - (V12 0 69).toInt - (V12 0 73).toInt ≤ (V 0 76).toInt - (V 0 69).toInt - (V 0 73).toInt from by (first | exact om_f1910009b5d0 xlp13_11 | omega)) (show 0 ≤ y10.toInt ∧ y10.toInt ≤ 2 from by (first | exact om_1b1318762dc0 klp13_0.1 f41 | omega)) xlp13_13 xlp13_14 (Imp.mk (fun _ => by have e8 : Int32.toNatClampNeg (V 46 (Int32.toNatClampNeg y11)) = t := (by have h9 := i_clamp (x := (V 46 (Int32.toNatClampNeg y11))) rfl (by omega); omega); rw [e8]; exact hw)) (Imp.mk (fun _ => ⟨sg9, t9, k9, a9, sq9, ht1038⟩)) (Imp.mk (fun _ => on1039)) (Imp.mk (fun _ => pl9)) (Imp.mk (fun hp => have hp : y10.toInt = 0 := hp; (show ((gp.length : Nat) : Int) = ((gk : Nat) : Int) ∧ ((V 46 (Int32.toNatClampNeg y11))).toInt = ((10000 * nwh V + (nL gB.1 (2001 + 3 * gi)) : Nat) : Int) from by omega))) (Imp.mk (fun hp => by exfalso; (first | exact om_fb320d7600b7 klp13_0.1 f41 hp | omega))) xlp13_21 xlp13_22 (by (first | exact om_bd2466411592 hn | omega)) (agr.tr agr.rf ajV12 (by decide) (by decide)) hMV12 hP hD hS (lv_sub hl [4, 0, 5, 6, 7, 8, 9, 10, 11, 12] rfl)
  have r1040 : Int32.toInt 0 = 0 := by decide
  exact lp13 ((((f0 : Nat) : Int) + 1 : Int).toNat) (f0) (0) (gat) (([] : List Int32)) (gme) 0 p0 V H locs ls (by decide) (show 0 ≤ p0.toInt from by (first | exact om_41e84b34b306 zp9 | omega)) (Imp.mk (fun _ => (show (V 0 98).toInt = (V 0 98).toInt + ((0 : Nat) : Int) from by (first | exact om_1c5824fd9b6e | omega)))) (Imp.mk (fun _ => (show (V 0 76).toInt - (V 0 69).toInt - (V 0 73).toInt + 1 ≤ (V 0 76).toInt - (V 0 69).toInt - (V 0 73).toInt ∨ (p0.toInt = p0.toInt ∧ (V 0 76).toInt - (V 0 69).toInt - (V 0 73).toInt ≤ (V 0 76).toInt - (V 0 69).toInt - (V 0 73).toInt ∧ (Int32.toInt 0) = 0) from by (first | exact om_c60059f20de3 r1040 | omega)))) (show (V 0 93).toInt = (V 0 93).toInt from by (first | exact om_4c2c879c4424 | omega)) (show (V 0 60).toInt ≤ (V 0 60).toInt from by (first | exact om_5977f3d8a10f | omega)) (show (V 0 65).toInt ≤ (V 0 65).toInt from by (first | exact om_5977f3d8a10f | omega)) (show (V 0 65).toInt - (V 0 65).toInt ≤ (V 0 60).toInt - (V 0 60).toInt from by (first | exact om_eecccc46626e | omega)) (show (V 0 73).toInt + (V 0 95).toInt - (V 0 65).toInt ≤ (V 0 73).toInt + (V 0 95).toInt - (V 0 65).toInt from by (first | exact om_5d7de24a65e5 | omega)) (show (V 0 73).toInt ≤ (V 0 73).toInt from by (first | exact om_5977f3d8a10f | omega)) (show (V 0 69).toInt ≤ (V 0 69).toInt from by (first | exact om_5977f3d8a10f | omega)) (show (V 0 95).toInt = (V 0 95).toInt from by (first | exact om_4c2c879c4424 | omega)) (show (V 0 76).toInt - (V 0 69).toInt - (V 0 73).toInt ≤ (V 0 76).toInt - (V 0 69).toInt - (V 0 73).toInt from by (first | exact om_ea19430a4cf3 | omega)) (show 0 ≤ (Int32.toInt 0) ∧ (Int32.toInt 0) ≤ 2 from by (first | exact om_57cd5b847e40 r1040 | omega)) rt (FRM.rf : FRM V V (-1)) (Imp.mk (fun _ => hf0)) (Imp.mk (fun _ => ⟨0, gt, gu, ga, Or.inl rfl, TRs.rf⟩)) (Imp.mk (fun _ => oq9)) (Imp.mk (fun _ => trivial)) (Imp.mk (fun _ => (show ((([] : List Int32).length : Nat) : Int) = ((0 : Nat) : Int) ∧ p0.toInt = ((10000 * nwh V + gat : Nat) : Int) from by (first | exact om_dd107d807251 zp9 ln0 | omega)))) (Imp.mk (fun hp => absurd (show Int32.toInt 0 = 0 from by decide) hp)) (PLK.rf : PLK V V (V 0 98).toInt.toNat) rj (by (first | exact om_8ef3b060d12d | omega)) agr.rf hMV hP hD hS (lv_sub hl [0, 1, 2, 3, 4, 5, 6, 7, 8, 9] rfl)
