theorem nI_ofz {k : Int} {x : Int32} (h : x.toInt = k) (h0 : 0 ≤ k) : nI k.toNat = x := Int32.toInt_inj.mp (by rw [nI_toInt (by have := x.toInt_lt; omega)]; omega)


abbrev q_s_worksD (D : va_G) (ks : KS) (ad : Nat → Nat) (kk : Nat → ClassId) (V : Vf) (L : Lf) (p0 : Int32) (p1 : Int32) (p2 : Int32) (p3 : Int32) (p4 : Int32) (gB : Bk) (grk : Nat → Nat) (gr : List Fr) (ga : Int32) (gs : Int) (gt : Int) (gu : Int) (glv : Int) (go : Int) (gc : Int) (gsc : Int) (gme : Int) (nd : Int) (lo : Nat) (hi : Nat) (gat : Nat) (A : Nat → Prop) : Array Value → State → Outcome → State → Prop := va_Qi (fun (r : Int32) (u : Vf × Lf) => rgd bM u.1 ∧ agr [(0, 60), (0, 65), (0, 68), (0, 69), (0, 73), (0, 76), (0, 90), (0, 91), (0, 92), (0, 93), (0, 95), (0, 96), (0, 98)] [59, 61, 62, 63, 64, 66, 67, 74, 75, 77, 78, 79, 80, 94, 97] V u.1 ∧ u.2 = L ∧ (0 ≤ r.toInt ∧ r.toInt ≤ 2) ∧ ((u.1 0 93).toInt = (V 0 93).toInt) ∧ ((u.1 0 98).toInt = (V 0 98).toInt) ∧ ((V 0 60).toInt ≤ (u.1 0 60).toInt) ∧ ((V 0 65).toInt ≤ (u.1 0 65).toInt) ∧ ((u.1 0 65).toInt - (V 0 65).toInt ≤ (u.1 0 60).toInt - (V 0 60).toInt) ∧ ((u.1 0 73).toInt + (u.1 0 95).toInt - (u.1 0 65).toInt ≤ (V 0 73).toInt + (V 0 95).toInt - (V 0 65).toInt) ∧ ((V 0 73).toInt ≤ (u.1 0 73).toInt) ∧ ((V 0 69).toInt ≤ (u.1 0 69).toInt) ∧ ((u.1 0 95).toInt = (V 0 95).toInt) ∧ ((u.1 0 76).toInt - (u.1 0 69).toInt - (u.1 0 73).toInt ≤ (V 0 76).toInt - (V 0 69).toInt - (V 0 73).toInt) ∧ (Imp (r.toInt ≠ 2) ((u.1 0 76).toInt - (u.1 0 69).toInt - (u.1 0 73).toInt + 1 ≤ (V 0 76).toInt - (V 0 69).toInt - (V 0 73).toInt)) ∧ (RT u.1) ∧ (FRM V u.1 (-1)) ∧ (RJm u.1 gB) ∧ (PLK V u.1 (V 0 98).toInt.toNat) ∧ (DPc gB (mV V 0 gt gu, ga, Fwork glv go gc gsc gme 0 ((gat : Nat) : Int) p3 [] :: gr) u.1 gr r.toInt (u.1 0 96) (24 * (10 - (V 0 93).toInt)))) (fun u t => gq D A (mw ad kk ks.1 u.1 u.2) (mty kk) t) A
def K_s_worksD (l : Launch) (D : va_G) (ks : KS) (d1 d2 : Nat) : Prop := ∀ (sz : Nat) (ad : Nat → Nat) (kk : Nat → ClassId) (V : Vf) (L : Lf) (p0 : Int32) (p1 : Int32) (p2 : Int32) (p3 : Int32) (p4 : Int32) (gB : Bk) (grk : Nat → Nat) (gr : List Fr) (ga : Int32) (gs : Int) (gt : Int) (gu : Int) (glv : Int) (go : Int) (gc : Int) (gsc : Int) (gme : Int) (nd : Int) (lo : Nat) (hi : Nat) (gat : Nat) (hMV : rgd bM V) (rg_p0 : 0 ≤ p0.toInt ∧ p0.toInt ≤ 19999) (rg_p1 : 0 ≤ p1.toInt ∧ p1.toInt ≤ 299) (rg_p2 : 0 ≤ p2.toInt ∧ p2.toInt ≤ 39) (rt : RT V) (n1 : (V 0 65).toInt ≤ (V 0 60).toInt) (n2 : (V 0 95).toInt ≤ (V 0 65).toInt) (n3 : (V 0 73).toInt + (V 0 95).toInt - (V 0 65).toInt ≤ 999000) (n4 : (V 0 76).toInt - (V 0 69).toInt - (V 0 73).toInt ≤ 1000000001) (n5 : 300 - (V 0 60).toInt ≤ (d1 : Int)) (n6 : 10 - (V 0 93).toInt ≤ (d2 : Int)) (bk : BKm V gB) (br : BKr gB grk) (rj : RJm V gB) (hs9 : gs = 2 → 0 ≤ gt ∧ gt ≤ 10000) (hl9 : ((gr.length : Nat) : Int) ≤ 28 * (V 0 93).toInt + 26) (hp9 : ((totP gr : Nat) : Int) ≤ 84 * (V 0 93).toInt + 56) (oq1 : p1.toInt < (V 0 60).toInt) (n7 : (V 0 98).toInt + 400 * (d2 : Int) + 30 ≤ 19000) (ce : CE nd false V lo hi (Int32.toNatClampNeg p0)) (hq : (hi : Int) ≤ 20000) (ndq : nd ≤ (V 27 (24 * nwh V + Int32.toNatClampNeg (V 61 (Int32.toNatClampNeg p1)))).toInt) (lo9 : (lo : Int) = 10000 * ((nwh V : Nat) : Int)) (zp9 : p0.toInt = ((10000 * nwh V + gat : Nat) : Int)) (oq9 : ∃ q9, OQ gB (ndW gB gc 0) (decide ((0 : Int) < 0)) gat 0 q9) (zl9 : (V 0 93).toInt = glv) (zo9 : p1.toInt = go) (zc9 : (V 61 (Int32.toNatClampNeg p1)).toInt = gc) (zs9 : p2.toInt = gsc) (cm9 : CMPo V gB (Int32.toNatClampNeg p1)) , Met l yX12_works (Cond.code yX12_works cX12_works 6 (some .int) :: GW) (rK2 (4 * d1 + 40 * d2 + 12) (100 * d1 + 1000 * d2 + 460)) (va_Pc [.ref (ad 0), .int p0, .int p1, .int p2, .int p3, .int p4] (gp D ks (mw ad kk ks.1 V L) (mty kk) sz)) (q_s_worksD D ks ad kk V L p0 p1 p2 p3 p4 gB grk gr ga gs gt gu glv go gc gsc gme nd lo hi gat (va_A (mw ad kk ks.1 V L) sz)) 0 0 (va_A (mw ad kk ks.1 V L) sz)
set_option maxHeartbeats 4000000 in
set_option maxRecDepth 100000 in
theorem s_worksD {l : Launch} {D : va_G} {ks : KS} {d1 d2 : Nat} (hk_s_wA0D : K_s_wA0D l D ks d1 d2) : K_s_worksD l D ks d1 d2 := by
  intro sz ad kk V L p0 p1 p2 p3 p4 gB grk gr ga gs gt gu glv go gc gsc gme nd lo hi gat hMV rg_p0 rg_p1 rg_p2 rt n1 n2 n3 n4 n5 n6 bk br rj hs9 hl9 hp9 oq1 n7 ce hq ndq lo9 zp9 oq9 zl9 zo9 zc9 zs9 cm9
  refine g_met (q_s_worksD D ks ad kk V L p0 p1 p2 p3 p4 gB grk gr ga gs gt gu glv go gc gsc gme nd lo hi gat) (by decide) (Nat.le_of_ble_eq_true rfl) ?_
  intro p e s m below meth c A ls H locs hx hb hr hml hown hg hlocks hin hnw hgk hP hK hD hS hA hl
  have hown : s.vm.findClass RX12 = some m.cls := hown
  have hl : lv_has ls 6 [(0, .ref (ad 0)), (1, .int p0), (2, .int p1), (3, .int p2), (4, .int p3), (5, .int p4)] := hl
  have hP : va_P D vwCl (mw ad kk ks.1 V L) H := hP
  have hD : va_D A (mw ad kk ks.1 V L) := hD
  have hK : va_K D vwCl (mty kk) s := hK
  have agV : agr [(0, 60), (0, 65), (0, 68), (0, 69), (0, 73), (0, 76), (0, 90), (0, 91), (0, 92), (0, 93), (0, 95), (0, 96), (0, 98)] [59, 61, 62, 63, 64, 66, 67, 74, 75, 77, 78, 79, 80, 94, 97] V V := agr.rf
  have r1 : 0 ≤ ((V 0 65)).toInt ∧ ((V 0 65)).toInt ≤ 1000000 := hMV 0 65
  have r2 : 0 ≤ ((V 0 60)).toInt ∧ ((V 0 60)).toInt ≤ 300 := hMV 0 60
  have r3 : 0 ≤ ((V 0 95)).toInt ∧ ((V 0 95)).toInt ≤ 300 := hMV 0 95
  have r4 : 0 ≤ ((V 0 73)).toInt ∧ ((V 0 73)).toInt ≤ 1000000 := hMV 0 73
  have r5 : 0 ≤ ((V 0 76)).toInt ∧ ((V 0 76)).toInt ≤ 2000000000 := hMV 0 76
  have r6 : 0 ≤ ((V 0 69)).toInt ∧ ((V 0 69)).toInt ≤ 3000 := hMV 0 69
  have r7 : 0 ≤ ((V 0 93)).toInt ∧ ((V 0 93)).toInt ≤ 10 := hMV 0 93
  have r8 : 0 ≤ ((V 0 98)).toInt ∧ ((V 0 98)).toInt ≤ 20000 := hMV 0 98
  have r9 : 0 ≤ ((V 61 (Int32.toNatClampNeg p1))).toInt ∧ ((V 61 (Int32.toNatClampNeg p1))).toInt ≤ 23 := hMV 61 (Int32.toNatClampNeg p1)
  have ht10 : TRs gB (mV V 0 gt gu, ga, Fwork glv go gc gsc gme 0 ((gat : Nat) : Int) p3 [] :: gr) (mV V 0 gt gu, ga, Fwork glv go gc gsc gme 0 ((gat : Nat) : Int) p3 [] :: gr) := TRs.rf
  refine lv_aload_n hx hb dX12_works_0 rfl (lv_at hl 0 rfl) ?_
  refine lv_iload_n hx hb dX12_works_1 rfl (lv_at hl 1 rfl) ?_
  refine lv_iload_n hx hb dX12_works_2 rfl (lv_at hl 2 rfl) ?_
  refine lv_iconst (v := (-1)) hx hb dX12_works_3 (by decide) ?_
  refine lv_iload_n hx hb dX12_works_4 rfl (lv_at hl 3 rfl) ?_
  refine lv_iload hx hb dX12_works_5 (lv_at hl 4 rfl) ?_
  refine lv_iconst (v := 0) hx hb dX12_works_7 (by decide) ?_
  have r11 : Int32.toInt (-1) = (-1) := by decide
  have r12 : Int32.toInt 0 = 0 := by decide
  refine gA_int (gA_runV (As := [.int p0, .int p1, .int (-1), .int p2, .int p3, .int 0]) (rest := []) (ci := 12) (q0 := 0) hx hb hml hown hg hP hD hK hS hA hnw hgk (hk_s_wA0D H.size ad kk V L p0 p1 (-1) p2 p3 0 (gB) (grk) (gr) (ga) (0) (gt) (gu) (glv) (go) (gc) (gsc) (gme) (nd) (lo) (hi) (gat) hMV (by (first | exact om_d14a9f1d8f0a rg_p0.2 zp9 | omega)) (by (first | exact om_cb67e99158ac rg_p1.1 rg_p1.2 | omega)) (by (first | exact om_13ba01c174fe rg_p2.1 rg_p2.2 | omega)) rt (show (V 0 65).toInt ≤ (V 0 60).toInt from by (first | exact om_f4906d00fa52 n1 | omega)) (show (V 0 95).toInt ≤ (V 0 65).toInt from by (first | exact om_f4906d00fa52 n2 | omega)) (show (V 0 73).toInt + (V 0 95).toInt - (V 0 65).toInt ≤ 999000 from by (first | exact om_947a8f2a0e3a n3 | omega)) (show (V 0 76).toInt - (V 0 69).toInt - (V 0 73).toInt ≤ 1000000001 from by (first | exact om_41782cfbfae1 n4 | omega)) (show 300 - (V 0 60).toInt ≤ ((d1 : Nat) : Int) from by (first | exact om_a00d5de16f2e n5 | omega)) (show 10 - (V 0 93).toInt ≤ ((d2 : Nat) : Int) from by (first | exact om_e2c7f9016405 n6 | omega)) bk br rj (fun h9 => absurd h9 (by decide)) (show (((gr).length : Nat) : Int) ≤ 28 * (V 0 93).toInt + 26 from by (first | exact om_a7012b42e326 hl9 | omega)) (show ((totP (gr) : Nat) : Int) ≤ 84 * (V 0 93).toInt + 56 from by (first | exact om_f107e1d757fa hp9 | omega)) (show p1.toInt < (V 0 60).toInt from by (first | exact om_0e9116797efb oq1 | omega)) (show (V 0 98).toInt + 400 * ((d2 : Nat) : Int) + 30 ≤ 19000 from by (first | exact om_dbdb2869bf85 n7 | omega)) ce (show ((hi) : Int) ≤ 20000 from by (first | exact om_42ceca764954 hq | omega)) ndq (show ((lo) : Int) = 10000 * ((nwh V : Nat) : Int) from by (first | exact om_08d03cbe88fe lo9 | omega)) (show p0.toInt = ((10000 * nwh V + (gat) : Nat) : Int) from by (first | exact om_c295b38757cd zp9 | omega)) oq9 (show (V 0 93).toInt = (glv) from by (first | exact om_570b691c1130 zl9 | omega)) (show p1.toInt = (go) from by (first | exact om_570b691c1130 zo9 | omega)) (show (V 61 (Int32.toNatClampNeg p1)).toInt = (gc) from by (first | exact om_570b691c1130 zc9 | omega)) (show p2.toInt = (gsc) from by (first | exact om_570b691c1130 zs9 | omega)) cm9) w2272 w2274 w137 w172 w2275 rfl rfl hdV_yX12_worksAround ⟨(by show (4 * (d1) + 40 * (d2) + 11) + 1 ≤ (4 * d1 + 40 * d2 + 12); (first | exact om_ef4d1bc62deb | omega)), (by show 8 + (13 + 11) + (100 * (d1) + 1000 * (d2) + 410) ≤ (100 * d1 + 1000 * d2 + 460); (first | exact om_92cf5e489066 | omega))⟩ rfl hl.1 rfl (Nat.le_of_ble_eq_true rfl) dX12_works_8 ⟨Nat.le_of_ble_eq_true rfl, Nat.le_of_ble_eq_true rfl⟩) hP hD hK hS hA (fun z13 u14 H locs w15 hP hD hK hS => ?_)
  obtain ⟨V32, L33⟩ := u14
  obtain ⟨hMV32, ajV32, axL33, rgz13, t16, t17, t18, t19, t20, t21, t22, t23, t24, t25, t26, t27, t28, t29, t30, t31⟩ := w15
  have axL33 : L = L33 := Eq.symm axL33
  subst axL33
  have hP : va_P D vwCl (mw ad kk ks.1 V32 L) H := hP
  have hD : va_D A (mw ad kk ks.1 V32 L) := hD
  have hMV32 : rgd bM V32 := hMV32
  have ajV32 : agr [(0, 60), (0, 65), (0, 68), (0, 69), (0, 73), (0, 76), (0, 90), (0, 91), (0, 92), (0, 93), (0, 95), (0, 96), (0, 98)] [59, 61, 62, 63, 64, 66, 67, 74, 75, 77, 78, 79, 80, 94, 97] V V32 := ajV32
  have agV32 : agr [(0, 60), (0, 65), (0, 68), (0, 69), (0, 73), (0, 76), (0, 90), (0, 91), (0, 92), (0, 93), (0, 95), (0, 96), (0, 98)] [59, 61, 62, 63, 64, 66, 67, 74, 75, 77, 78, 79, 80, 94, 97] V V32 := agV.tr ajV32 (by decide) (by decide)
  have rgz13 : 0 ≤ z13.toInt ∧ z13.toInt ≤ 2 := rgz13
  have t16 : (V32 0 93).toInt = (V 0 93).toInt := t16
  have t17 : (V32 0 98).toInt = (V 0 98).toInt := t17
  have t18 : (V 0 60).toInt ≤ (V32 0 60).toInt := t18
  have t19 : (V 0 65).toInt ≤ (V32 0 65).toInt := t19
  have t20 : (V32 0 65).toInt - (V 0 65).toInt ≤ (V32 0 60).toInt - (V 0 60).toInt := t20
  have t21 : (V32 0 73).toInt + (V32 0 95).toInt - (V32 0 65).toInt ≤ (V 0 73).toInt + (V 0 95).toInt - (V 0 65).toInt := t21
  have t22 : (V 0 73).toInt ≤ (V32 0 73).toInt := t22
  have t23 : (V 0 69).toInt ≤ (V32 0 69).toInt := t23
  have t24 : (V32 0 95).toInt = (V 0 95).toInt := t24
  have t25 : (V32 0 76).toInt - (V32 0 69).toInt - (V32 0 73).toInt ≤ (V 0 76).toInt - (V 0 69).toInt - (V 0 73).toInt := t25
  have t26 : Imp (z13.toInt ≠ 2) ((V32 0 76).toInt - (V32 0 69).toInt - (V32 0 73).toInt + 1 ≤ (V 0 76).toInt - (V 0 69).toInt - (V 0 73).toInt) := t26
  have t27 : RT V32 := t27
  have t28 : FRM V V32 (-1) := t28
  have t29 : RJm V32 (gB) := t29
  have t30 : PLK V V32 (V 0 98).toInt.toNat := t30
  have t31 : DPc (gB) (mV V 0 (gt) (gu), (ga), Fwork (glv) (go) (gc) (gsc) (gme) 0 (((gat) : Nat) : Int) p3 [] :: (gr)) V32 (gr) z13.toInt (V32 0 96) (24 * (10 - (V 0 93).toInt)) := t31
  have r34 : 0 ≤ ((V32 0 93)).toInt ∧ ((V32 0 93)).toInt ≤ 10 := hMV32 0 93
  have r35 : 0 ≤ ((V32 0 98)).toInt ∧ ((V32 0 98)).toInt ≤ 20000 := hMV32 0 98
  have r36 : 0 ≤ ((V32 0 60)).toInt ∧ ((V32 0 60)).toInt ≤ 300 := hMV32 0 60
  have r37 : 0 ≤ ((V32 0 65)).toInt ∧ ((V32 0 65)).toInt ≤ 1000000 := hMV32 0 65
  have r38 : 0 ≤ ((V32 0 73)).toInt ∧ ((V32 0 73)).toInt ≤ 1000000 := hMV32 0 73
  have r39 : 0 ≤ ((V32 0 95)).toInt ∧ ((V32 0 95)).toInt ≤ 300 := hMV32 0 95
  have r40 : 0 ≤ ((V32 0 69)).toInt ∧ ((V32 0 69)).toInt ≤ 3000 := hMV32 0 69
  have r41 : 0 ≤ ((V32 0 76)).toInt ∧ ((V32 0 76)).toInt ≤ 2000000000 := hMV32 0 76
  have fm42 : FRM V V32 (-1) := (t28 : FRM V V32 (-1))
  have pk43 : PLK V V32 (V 0 98).toInt.toNat := (PLK.tr (PLK.rf : PLK V V (V 0 98).toInt.toNat) t30 (by (first | exact om_2b97926ac273 | omega)))
  exact W.iret (v := z13) hx hb hr (fun t ht hW => ⟨⟨z13, (V32, L), rfl, ⟨hMV32, agV32, rfl, (show 0 ≤ z13.toInt ∧ z13.toInt ≤ 2 from by first | exact om_8c285ac91b81 rgz13.1 rgz13.2 | first | omega | ((try (have i_t26 := Imp.go t26 (by omega))); omega)), (show (V32 0 93).toInt = (V 0 93).toInt from by first | exact om_570b691c1130 t16 | first | omega | ((try (have i_t26 := Imp.go t26 (by omega))); omega)), (show (V32 0 98).toInt = (V 0 98).toInt from by first | exact om_570b691c1130 t17 | first | omega | ((try (have i_t26 := Imp.go t26 (by omega))); omega)), (show (V 0 60).toInt ≤ (V32 0 60).toInt from by first | exact om_f4906d00fa52 t18 | first | omega | ((try (have i_t26 := Imp.go t26 (by omega))); omega)), (show (V 0 65).toInt ≤ (V32 0 65).toInt from by first | exact om_f4906d00fa52 t19 | first | omega | ((try (have i_t26 := Imp.go t26 (by omega))); omega)), (show (V32 0 65).toInt - (V 0 65).toInt ≤ (V32 0 60).toInt - (V 0 60).toInt from by first | exact om_b36b2a007ba2 t20 | first | omega | ((try (have i_t26 := Imp.go t26 (by omega))); omega)), (show (V32 0 73).toInt + (V32 0 95).toInt - (V32 0 65).toInt ≤ (V 0 73).toInt + (V 0 95).toInt - (V 0 65).toInt from by first | exact om_f04cba5a5a1f t21 | first | omega | ((try (have i_t26 := Imp.go t26 (by omega))); omega)), (show (V 0 73).toInt ≤ (V32 0 73).toInt from by first | exact om_f4906d00fa52 t22 | first | omega | ((try (have i_t26 := Imp.go t26 (by omega))); omega)), (show (V 0 69).toInt ≤ (V32 0 69).toInt from by first | exact om_f4906d00fa52 t23 | first | omega | ((try (have i_t26 := Imp.go t26 (by omega))); omega)), (show (V32 0 95).toInt = (V 0 95).toInt from by first | exact om_570b691c1130 t24 | first | omega | ((try (have i_t26 := Imp.go t26 (by omega))); omega)), (show (V32 0 76).toInt - (V32 0 69).toInt - (V32 0 73).toInt ≤ (V 0 76).toInt - (V 0 69).toInt - (V 0 73).toInt from by first | exact om_f1910009b5d0 t25 | first | omega | ((try (have i_t26 := Imp.go t26 (by omega))); omega)), (Imp.mk (fun hp => have hp : z13.toInt ≠ 2 := hp; (show (V32 0 76).toInt - (V32 0 69).toInt - (V32 0 73).toInt + 1 ≤ (V 0 76).toInt - (V 0 69).toInt - (V 0 73).toInt from by first | exact om_3f1679de8734 ((Imp.go t26 (hp))) | first | omega | ((try (have i_t26 := Imp.go t26 (by omega))); omega)))), t27, fm42, t29, pk43, t31⟩, by rw [ht]; exact hP, va_K.moved hW.alike hK, hD⟩, hS.F ht⟩) hS.2.2 dX12_works_11
abbrev q_s_insideD (D : va_G) (ks : KS) (ad : Nat → Nat) (kk : Nat → ClassId) (V : Vf) (L : Lf) (p0 : Int32) (p1 : Int32) (p2 : Int32) (p3 : Int32) (gB : Bk) (grk : Nat → Nat) (gr : List Fr) (ga : Int32) (gs : Int) (gt : Int) (gu : Int) (glv : Int) (go : Int) (gc : Int) (gsc : Int) (gme : Int) (A : Nat → Prop) : Array Value → State → Outcome → State → Prop := va_Qi (fun (r : Int32) (u : Vf × Lf) => rgd bM u.1 ∧ agr [(0, 60), (0, 65), (0, 68), (0, 69), (0, 73), (0, 76), (0, 90), (0, 91), (0, 92), (0, 93), (0, 95), (0, 96), (0, 98)] [59, 61, 62, 63, 64, 66, 67, 74, 75, 77, 78, 79, 80, 94, 97] V u.1 ∧ u.2 = L ∧ (0 ≤ r.toInt ∧ r.toInt ≤ 2) ∧ ((u.1 0 93).toInt = (V 0 93).toInt) ∧ ((u.1 0 98).toInt = (V 0 98).toInt) ∧ ((V 0 60).toInt ≤ (u.1 0 60).toInt) ∧ ((V 0 65).toInt ≤ (u.1 0 65).toInt) ∧ ((u.1 0 65).toInt - (V 0 65).toInt ≤ (u.1 0 60).toInt - (V 0 60).toInt) ∧ ((u.1 0 73).toInt + (u.1 0 95).toInt - (u.1 0 65).toInt ≤ (V 0 73).toInt + (V 0 95).toInt - (V 0 65).toInt) ∧ ((V 0 73).toInt ≤ (u.1 0 73).toInt) ∧ ((V 0 69).toInt ≤ (u.1 0 69).toInt) ∧ ((u.1 0 95).toInt = (V 0 95).toInt) ∧ ((u.1 0 76).toInt - (u.1 0 69).toInt - (u.1 0 73).toInt ≤ (V 0 76).toInt - (V 0 69).toInt - (V 0 73).toInt + 1) ∧ (Imp (r.toInt ≠ 2) ((u.1 0 76).toInt - (u.1 0 69).toInt - (u.1 0 73).toInt ≤ (V 0 76).toInt - (V 0 69).toInt - (V 0 73).toInt)) ∧ (RT u.1) ∧ (FRM V u.1 (-1)) ∧ (RJm u.1 gB) ∧ (PLK V u.1 (V 0 98).toInt.toNat) ∧ (DPc gB (mV V 1 gt gu, p3, Fin4 glv go gc gsc gme 0 :: gr) u.1 gr r.toInt (u.1 0 96) (24 * (10 - (V 0 93).toInt)))) (fun u t => gq D A (mw ad kk ks.1 u.1 u.2) (mty kk) t) A
def K_s_insideD (l : Launch) (D : va_G) (ks : KS) (d1 d2 : Nat) : Prop := ∀ (sz : Nat) (ad : Nat → Nat) (kk : Nat → ClassId) (V : Vf) (L : Lf) (p0 : Int32) (p1 : Int32) (p2 : Int32) (p3 : Int32) (gB : Bk) (grk : Nat → Nat) (gr : List Fr) (ga : Int32) (gs : Int) (gt : Int) (gu : Int) (glv : Int) (go : Int) (gc : Int) (gsc : Int) (gme : Int) (hMV : rgd bM V) (rg_p0 : 0 ≤ p0.toInt ∧ p0.toInt ≤ 299) (rg_p1 : 0 ≤ p1.toInt ∧ p1.toInt ≤ 19) (rg_p2 : 0 ≤ p2.toInt ∧ p2.toInt ≤ 39) (rt : RT V) (n1 : (V 0 65).toInt ≤ (V 0 60).toInt) (n2 : (V 0 95).toInt ≤ (V 0 65).toInt) (n3 : (V 0 73).toInt + (V 0 95).toInt - (V 0 65).toInt ≤ 999000) (n4 : (V 0 76).toInt - (V 0 69).toInt - (V 0 73).toInt ≤ 1000000000) (n5 : 300 - (V 0 60).toInt ≤ (d1 : Int)) (n6 : 10 - (V 0 93).toInt ≤ (d2 : Int)) (bk : BKm V gB) (br : BKr gB grk) (rj : RJm V gB) (hs9 : gs = 2 → 0 ≤ gt ∧ gt ≤ 10000) (hl9 : ((gr.length : Nat) : Int) ≤ 28 * (V 0 93).toInt + 25) (hp9 : ((totP gr : Nat) : Int) ≤ 84 * (V 0 93).toInt + 56) (oq1 : p0.toInt < (V 0 60).toInt) (n7 : (V 0 98).toInt + 400 * (d2 : Int) + 30 ≤ 19000) (zl9 : (V 0 93).toInt = glv) (zo9 : p0.toInt = go) (zc9 : (V 61 (Int32.toNatClampNeg p0)).toInt = gc) (zs9 : p2.toInt = gsc) (zm9 : p1.toInt = gme) (cm9 : CMPo V gB (Int32.toNatClampNeg p0)) , Met l yX12_inside (Cond.code yX12_inside cX12_inside 11 (some .int) :: GW) (rK2 (4 * d1 + 40 * d2 + 13) (100 * d1 + 1000 * d2 + 500)) (va_Pc [.ref (ad 0), .int p0, .int p1, .int p2, .int p3] (gp D ks (mw ad kk ks.1 V L) (mty kk) sz)) (q_s_insideD D ks ad kk V L p0 p1 p2 p3 gB grk gr ga gs gt gu glv go gc gsc gme (va_A (mw ad kk ks.1 V L) sz)) 0 0 (va_A (mw ad kk ks.1 V L) sz)
set_option maxHeartbeats 4000000 in
set_option maxRecDepth 100000 in
theorem s_aroundsD {l : Launch} {D : va_G} {ks : KS} {d1 d2 d3 : Nat} (hk_s_insideD : K_s_insideD l D ks d1 d2) (hk_s_wA1D : ∀ d8, d3 = d8 + 1 → K_s_wA1D l D ks d1 d2 d8) : K_s_aroundsD l D ks d1 d2 d3 := by
  intro sz ad kk V L p0 p1 p2 p3 p4 gB grk gr ga gs gt gu glv go gc gsc gme gps hMV rg_p0 rg_p1 rg_p2 rg_p3 rt n1 n2 n3 n4 n5 n6 bk br rj hs9 hl9 hp9 oq1 n7 n8 zl9 zo9 zc9 zs9 zm9 cn9 cm9
  refine g_met (q_s_aroundsD D ks ad kk V L p0 p1 p2 p3 p4 gB grk gr ga gs gt gu glv go gc gsc gme gps) (by decide) (Nat.le_of_ble_eq_true rfl) ?_
  intro p e s m below meth c A ls H locs hx hb hr hml hown hg hlocks hin hnw hgk hP hK hD hS hA hl
  have hown : s.vm.findClass RX12 = some m.cls := hown
  have hl : lv_has ls 7 [(0, .ref (ad 0)), (1, .int p0), (2, .int p1), (3, .int p2), (4, .int p3), (5, .int p4)] := hl
  have hP : va_P D vwCl (mw ad kk ks.1 V L) H := hP
  have hD : va_D A (mw ad kk ks.1 V L) := hD
  have hK : va_K D vwCl (mty kk) s := hK
  have agV : agr [(0, 60), (0, 65), (0, 68), (0, 69), (0, 73), (0, 76), (0, 90), (0, 91), (0, 92), (0, 93), (0, 95), (0, 96), (0, 98)] [59, 61, 62, 63, 64, 66, 67, 74, 75, 77, 78, 79, 80, 94, 97] V V := agr.rf
  have r1 : 0 ≤ ((V 0 65)).toInt ∧ ((V 0 65)).toInt ≤ 1000000 := hMV 0 65
  have r2 : 0 ≤ ((V 0 60)).toInt ∧ ((V 0 60)).toInt ≤ 300 := hMV 0 60
  have r3 : 0 ≤ ((V 0 95)).toInt ∧ ((V 0 95)).toInt ≤ 300 := hMV 0 95
  have r4 : 0 ≤ ((V 0 73)).toInt ∧ ((V 0 73)).toInt ≤ 1000000 := hMV 0 73
  have r5 : 0 ≤ ((V 0 76)).toInt ∧ ((V 0 76)).toInt ≤ 2000000000 := hMV 0 76
  have r6 : 0 ≤ ((V 0 69)).toInt ∧ ((V 0 69)).toInt ≤ 3000 := hMV 0 69
  have r7 : 0 ≤ ((V 0 93)).toInt ∧ ((V 0 93)).toInt ≤ 10 := hMV 0 93
  have r8 : 0 ≤ ((V 0 98)).toInt ∧ ((V 0 98)).toInt ≤ 20000 := hMV 0 98
  have r9 : 0 ≤ ((V 61 (Int32.toNatClampNeg p1))).toInt ∧ ((V 61 (Int32.toNatClampNeg p1))).toInt ≤ 23 := hMV 61 (Int32.toNatClampNeg p1)
  have ht10 : TRs gB (mV V gs gt gu, ga, Fin0 glv go gc gsc gme (gps : Int) p4 :: gr) (mV V gs gt gu, ga, Fin0 glv go gc gsc gme (gps : Int) p4 :: gr) := TRs.rf
  have ko9 := i_clamp (x := p1) rfl (by (first | exact om_eafa9039069c rg_p1.1 | omega))
  have km9 := i_clamp (x := p2) rfl (by (first | exact om_eafa9039069c rg_p2.1 | omega))
  have gc9 : gc.toNat = Int32.toNatClampNeg (V 61 (Int32.toNatClampNeg p1)) := by rw [← zc9]; rfl
  have gm8 : gme.toNat = Int32.toNatClampNeg p2 := by rw [← zm9]; rfl
  have cn8 := RTn rt bk (o := Int32.toNatClampNeg p1) (by omega)
  have ln9 := BKr.len br
  have wn9 := BKm.wn bk
  have wn8 : wN gB ≤ 12 := Nat.min_le_left _ _
  have ca2 := br.2.2.2.2.1 gc.toNat gme.toNat gps
  have ca3 := cn9.1
  have ca4 := i_clamp (x := p0) rfl (by (first | exact om_eafa9039069c rg_p0.1 | omega))
  refine lv_aload_n hx hb dX12_arounds_0 rfl (lv_at hl 0 rfl) ?_
  refine lv_iload_n hx hb dX12_arounds_1 rfl (lv_at hl 1 rfl) ?_
  refine lv_iload_n hx hb dX12_arounds_2 rfl (lv_at hl 2 rfl) ?_
  refine lv_iload_n hx hb dX12_arounds_3 rfl (lv_at hl 3 rfl) ?_
  refine lv_iconst (v := 1) hx hb dX12_arounds_4 (by decide) ?_
  have r11 : Int32.toInt 1 = 1 := by decide
  refine gA_int (gA_runV (As := [.int p0, .int p1, .int p2, .int 1]) (rest := []) (ci := 12) (q0 := 0) hx hb hml hown hg hP hD hK hS hA hnw hgk (s_wrapAt3 l D ks H.size ad kk V L p0 p1 p2 1 (gB) hMV (by (first | exact om_f5a2411b9512 rg_p0.1 rg_p0.2 | omega)) (by (first | exact om_cb67e99158ac rg_p1.1 rg_p1.2 | omega)) (rt).1 bk) w2284 w2286 w140 w172 w2287 rfl rfl hdV_yX12_wrapAt ⟨(by show (1) + 1 ≤ (4 * d1 + 40 * d2 + 14 + 2 * d3); (first | exact om_039e589ff962 rg_p0.2 n8 | omega)), (by show 8 + (8 + 11) + (25) ≤ (100 * d1 + 1000 * d2 + 560 + 60 * d3); (first | exact om_5897453a0246 rg_p0.2 n8 | omega))⟩ rfl hl.1 rfl (Nat.le_of_ble_eq_true rfl) dX12_arounds_5 ⟨Nat.le_of_ble_eq_true rfl, Nat.le_of_ble_eq_true rfl⟩) hP hD hK hS hA (fun z12 u13 H locs w14 hP hD hK hS => ?_)
  obtain ⟨rgz12, t15, t16⟩ := w14
  have rgz12 : (-1) ≤ z12.toInt ∧ z12.toInt ≤ 11 := rgz12
  have t15 : Imp (0 ≤ z12.toInt) (∃ i9, KPo (bW (gB)) (isWb V p1 p2 1) (Int32.toNatClampNeg p0) i9 ∧ (bW (gB)).getD i9 0 = Int32.toNatClampNeg z12 ∧ z12.toInt < ((wN (gB) : Nat) : Int)) := t15
  have t16 : Imp (z12.toInt = -1) (((cnP (isWb V p1 p2 1) (bW (gB)) : Nat) : Int) ≤ p0.toInt) := t16
  refine lv_istore (lv' := [(6, .int z12), (0, .ref (ad 0)), (1, .int p0), (2, .int p1), (3, .int p2), (4, .int p3), (5, .int p4)]) hx hb dX12_arounds_8 hl (by decide) rfl (fun ls hl => ?_)
  refine lv_iload hx hb dX12_arounds_10 (lv_at hl 0 rfl) ?_
  refine lv_if_ge (tgt := 26) hx hb dX12_arounds_12 (by decide) (fun c17 => ?_) (fun c17 => ?_)
  · skip
    have f18 : 0 ≤ z12.toInt := b_le (by decide) rfl c17
    obtain ⟨i9, kp9, gd9, rw9⟩ := Imp.go t15 (by (first | exact om_eafa9039069c f18 | omega))
    have hw1 : isWb V p1 p2 1 (Int32.toNatClampNeg z12) = true := by rw [← gd9]; exact kp9.2.1
    have cl9 := cnP_len (P := isWb V p1 p2 1) (l := (bW gB).take i9)
    have il9 := kp9.1
    have ik9 := kp9.2.2
    rw [List.length_take] at cl9
    have kp0 := i_clamp (x := p0) rfl (by (first | exact om_eafa9039069c rg_p0.1 | omega))
    have p11 : p0.toInt ≤ 11 := by omega
    have kw := i_clamp (x := z12) rfl (by (first | exact om_eafa9039069c f18 | omega))
    have kn : (nwh V : Int) = (V 0 11).toInt := i_clamp (x := V 0 11) rfl (by have h9 : 0 ≤ (V 0 11).toInt ∧ (V 0 11).toInt ≤ 1 := hMV 0 11; omega)
    have nb : 0 ≤ (V 0 11).toInt ∧ (V 0 11).toInt ≤ 1 := hMV 0 11
    have wE := TB.wrapE (ar := true) (w := Int32.toNatClampNeg z12) rt.1 (by omega) hw1 (by decide)
    have wE1 := wE.1
    have wE2 := wE.2.lt
    obtain ⟨d8, hd8⟩ : ∃ d8, d3 = d8 + 1 := ⟨d3 - 1, by omega⟩
    have pf9 : ∀ x, x ∈ bW gB → isWb V p1 p2 1 x = isF gB 1 gc.toNat gme.toNat x := fun x hx => by rw [gc9, gm8]; exact isWb_F hMV bk (bW_mem hx) cn8 rfl (by omega) (by decide)
    have kf9 := KPo.cg kp9 pf9
    have cn1 := cn9.1
    have fe9 := fF_k kf9 ln9.2 (p := gps) (by omega)
    have fb9 := fF_b fe9
    have wa9 : wAt gB i9 = nL gB.1 (904 + 8 * Int32.toNatClampNeg z12) := by unfold wAt; rw [gd9]
    have r19 : 0 ≤ (V 0 65).toInt := (hMV 0 65).1
    have r20 : (V 0 60).toInt ≤ 300 := (hMV 0 60).2
    have r21 : 0 ≤ (V 0 93).toInt ∧ (V 0 93).toInt ≤ 10 := hMV 0 93
    have ht22 : TRs gB (mV V gs gt gu, ga, Fin0 glv go gc gsc gme (gps : Int) p4 :: gr) (mV V 0 gt gu, ga, Fwork glv go gc gsc gme ((i9 + 1 : Nat) : Int) ((wAt gB i9 : Nat) : Int) p4 [] :: Fin1 glv go gc gsc gme :: gr) := TRs.st ht10 (SF.mk (show gr.length ≤ 394 from by (first | exact om_f6c611e966ad hl9 cn9.2 r7.2 | omega)) (show 0 + (totP gr) ≤ 2000 from by (first | exact om_edaef2badf50 hp9 r7.2 p11 | omega)) (show 0 ≤ (V 0 65).toInt ∧ (V 0 65).toInt ≤ 300 from by (first | exact om_16d1a7c24be6 n1 r1.1 r2.2 | omega)) hs9 trivial) ((st_8y fe9).trans mV_go)
    have wst9 := BKm.wst bk (w := Int32.toNatClampNeg z12) (by omega)
    have ks9 := KPo.s kf9
    have ar2 := br.2.2.2.2.1 gc.toNat gme.toNat (i9 + 1)
    refine lv_aload_n hx hb dX12_arounds_26 rfl (lv_at hl 1 rfl) ?_
    refine lv_iconst (v := 1) hx hb dX12_arounds_27 (by decide) ?_
    refine lv_iload hx hb dX12_arounds_28 (lv_at hl 0 rfl) ?_
    refine lv_iload hx hb dX12_arounds_30 (lv_at hl 6 rfl) ?_
    refine gA_void (gA_runV (As := [.int 1, .int z12, .int p4]) (rest := []) (ci := 12) (q0 := 0) hx hb hml hown hg hP hD hK hS hA hnw hgk (s_notes2 l D ks H.size ad kk V L 1 z12 p4 hMV (show (V 0 76).toInt ≤ 1999999999 from by (first | exact om_b444819c4f50 n1 n3 n4 r2.2 r3.1 r6.2 | omega))) w2300 w2302 w144 w172 w2303 rfl rfl hdV_yX12_notes ⟨(by show (0) + 1 ≤ (4 * d1 + 40 * d2 + 14 + 2 * d3); (first | exact om_dcba32ad97ce n8 p11 | omega)), (by show 8 + (4 + 11) + (0) ≤ (100 * d1 + 1000 * d2 + 560 + 60 * d3); (first | exact om_49db9c85ed89 n8 p11 | omega))⟩ rfl hl.1 rfl (Nat.le_of_ble_eq_true rfl) dX12_arounds_32 ⟨Nat.le_of_ble_eq_true rfl, Nat.le_of_ble_eq_true rfl⟩) hP hD hK hS hA (fun u24 H locs w25 hP hD hK hS => ?_)
    obtain ⟨V27, L28⟩ := u24
    obtain ⟨hMV27, ajV27, axL28, t26⟩ := w25
    have axL28 : L = L28 := Eq.symm axL28
    subst axL28
    have hP : va_P D vwCl (mw ad kk ks.1 V27 L) H := hP
    have hD : va_D A (mw ad kk ks.1 V27 L) := hD
    have hMV27 : rgd bM V27 := hMV27
    have ajV27 : agr [(0, 76)] [77, 78, 79] V V27 := ajV27
    have agV27 : agr [(0, 60), (0, 65), (0, 68), (0, 69), (0, 73), (0, 76), (0, 90), (0, 91), (0, 92), (0, 93), (0, 95), (0, 96), (0, 98)] [59, 61, 62, 63, 64, 66, 67, 74, 75, 77, 78, 79, 80, 94, 97] V V27 := agV.tr ajV27 (by decide) (by decide)
    have t26 : (V27 0 76).toInt = (V 0 76).toInt + 1 := t26
    have r29 : 0 ≤ ((V27 0 76)).toInt ∧ ((V27 0 76)).toInt ≤ 2000000000 := hMV27 0 76
    refine lv_aload_n hx hb dX12_arounds_35 rfl (lv_at hl 1 rfl) ?_
    refine lv_aload_n hx hb dX12_arounds_36 rfl (lv_at hl 1 rfl) ?_
    refine va_get (D := D) (ci := 12) (v := .ref (ad 44)) (C := RX12) (T := TX12) (N := 100) hx hb hg inX12 hown hK hP 0 rfl rfl 44 (by decide) (hg _ w1750) (fun _ h9 => h9) rfl dX12_arounds_37 ?_
    refine lv_bipush (v := 12) hx hb dX12_arounds_40 (by decide) ?_
    refine lv_aload_n hx hb dX12_arounds_42 rfl (lv_at hl 1 rfl) ?_
    refine va_get (D := D) (ci := 12) (v := .int (V27 0 11)) (C := RX12) (T := TX12) (N := 100) hx hb hg inX12 hown hK hP 0 rfl rfl 11 (by decide) (hg _ w1717) (fun _ h9 => h9) rfl dX12_arounds_43 ?_
    refine g_top (v := (V 0 11)) (ajV27 0 11 rfl) ?_
    have r30 : 0 ≤ ((V 0 11)).toInt ∧ ((V 0 11)).toInt ≤ 1 := hMV 0 11
    refine lv_imul hx hb dX12_arounds_46 ?_
    refine lv_topi (fun z31 ez31 => ?_)
    have hz31 : z31.toInt = 12 * ((V 0 11)).toInt := i_mul ez31 (by decide) rfl (by (first | exact om_630bd6ee60c3 nb.1 nb.2 | omega))
    refine lv_iload hx hb dX12_arounds_47 (lv_at hl 0 rfl) ?_
    refine lv_iadd hx hb dX12_arounds_49 ?_
    refine lv_topi (fun z32 ez32 => ?_)
    have hz32 : z32.toInt = z31.toInt + z12.toInt := i_add ez32 rfl rfl (by (first | exact om_2e570e10cfc7 rgz12.2 f18 nb.1 nb.2 hz31 | omega))
    have kz : Int32.toNatClampNeg z32 = 12 * nwh V + Int32.toNatClampNeg z12 := by have h9 := i_clamp (x := z32) rfl (by (first | exact om_7ea21d029263 f18 nb.1 hz31 hz32 | omega)); (first | exact om_46fca4eb238f kw kn hz31 hz32 h9 | omega)
    have q44 : V 44 (12 * nwh V + Int32.toNatClampNeg z12) = V 44 (Int32.toNatClampNeg z32) := by rw [kz]
    have q44i := congrArg Int32.toInt q44
    refine va_iald (D := D) (i := z32) hx hb hK hP 37 36 rfl rfl (i_in (a := z32.toInt) rfl (by (first | exact om_5a28bbe8109b rgz12.2 f18 nb.1 nb.2 hz31 hz32 | omega))) dX12_arounds_50 ?_
    refine g_top (v := (V 44 (Int32.toNatClampNeg z32))) (ajV27 44 (Int32.toNatClampNeg z32) rfl) ?_
    refine lv_iload_n hx hb dX12_arounds_51 rfl (lv_at hl 3 rfl) ?_
    refine lv_iload_n hx hb dX12_arounds_52 rfl (lv_at hl 4 rfl) ?_
    refine lv_iload hx hb dX12_arounds_53 (lv_at hl 5 rfl) ?_
    refine lv_iload hx hb dX12_arounds_55 (lv_at hl 6 rfl) ?_
    refine lv_iload_n hx hb dX12_arounds_57 rfl (lv_at hl 2 rfl) ?_
    refine lv_iconst (v := 1) hx hb dX12_arounds_58 (by decide) ?_
    refine lv_iadd hx hb dX12_arounds_59 ?_
    refine lv_topi (fun z33 ez33 => ?_)
    have hz33 : z33.toInt = p0.toInt + 1 := i_add ez33 rfl (by decide) (by (first | exact om_2a9d11eea56d rg_p0.1 p11 | omega))
    have ht34 : TRs gB (mV V gs gt gu, ga, Fin0 glv go gc gsc gme (gps : Int) p4 :: gr) (mV V27 0 gt gu, ga, Fwork glv go gc gsc gme ((i9 + 1 : Nat) : Int) ((wAt gB i9 : Nat) : Int) p4 [] :: Fin1 glv go gc gsc gme :: gr) := by rw [mV_ag (show agr [(0, 76)] [77, 78, 79] V V27 from (agr.tr agr.rf ajV27 (by decide) (by decide))) (by decide)]; exact ht22
    have fm36 : FRM V V27 (-1) := ((FRM.ag (show agr [(0, 76)] [77, 78, 79] V V27 from (agr.tr agr.rf ajV27 (by decide) (by decide))) ⟨⟨rfl, fun _ => rfl, fun _ => rfl, fun _ => rfl, fun _ => rfl, fun _ => rfl, fun _ => rfl⟩, by decide, by decide, rfl, rfl, fun _ => rfl, fun _ => rfl, fun _ => rfl, fun _ => rfl, fun _ => rfl, fun _ => rfl⟩) : FRM V V27 (-1))
    have eo35 : (V27 61 (Int32.toNatClampNeg p1)).toInt = (V 61 (Int32.toNatClampNeg p1)).toInt := congrArg Int32.toInt ((fm36).2.1 (Int32.toNatClampNeg p1) (by have h9 := i_clamp (x := p1) rfl (by (first | exact om_eafa9039069c rg_p1.1 | omega)); omega)).1
    have lg37 : (Fin1 glv go gc gsc gme :: gr).length = gr.length + 1 := rfl
    have lg38 : totP (Fin1 glv go gc gsc gme :: gr) = 0 + (totP gr) := rfl
    have nw9 : nwh V27 = nwh V := (nwh_ag agV27 ⟨rfl, fun _ => rfl, fun _ => rfl, fun _ => rfl, fun _ => rfl, fun _ => rfl, fun _ => rfl⟩).1
    have oq8 : ∃ q9, OQ gB (ndW gB gc ((i9 + 1 : Nat) : Int)) (decide ((0 : Int) < ((i9 + 1 : Nat) : Int))) (wAt gB i9) 0 q9 := ⟨0, wfW1 br.1 fb9.2.2.2 fb9.2.2.1⟩
    have pq39 : (V27 0 65).toInt = ((V 0 65)).toInt := congrArg Int32.toInt (ajV27 0 65 rfl)
    have pq40 : (V27 0 60).toInt = ((V 0 60)).toInt := congrArg Int32.toInt (ajV27 0 60 rfl)
    have pq41 : (V27 0 95).toInt = ((V 0 95)).toInt := congrArg Int32.toInt (ajV27 0 95 rfl)
    have pq42 : (V27 0 73).toInt = ((V 0 73)).toInt := congrArg Int32.toInt (ajV27 0 73 rfl)
    have pq43 : (V27 0 69).toInt = ((V 0 69)).toInt := congrArg Int32.toInt (ajV27 0 69 rfl)
    have pq44 : (V27 0 93).toInt = ((V 0 93)).toInt := congrArg Int32.toInt (ajV27 0 93 rfl)
    have pq45 : (V27 0 98).toInt = ((V 0 98)).toInt := congrArg Int32.toInt (ajV27 0 98 rfl)
    have pq46 : (V27 61 (Int32.toNatClampNeg p1)).toInt = ((V 61 (Int32.toNatClampNeg p1))).toInt := congrArg Int32.toInt (ajV27 61 (Int32.toNatClampNeg p1) rfl)
    have rt47 : RT V27 := RT.ag rt hMV (show agr [(0, 76)] [77, 78, 79] V V27 from (agr.tr agr.rf ajV27 (by decide) (by decide))) ⟨⟨rfl, fun _ => rfl, fun _ => rfl, fun _ => rfl, fun _ => rfl, fun _ => rfl, fun _ => rfl⟩, by decide, by decide, rfl, rfl, fun _ => rfl, fun _ => rfl, fun _ => rfl, fun _ => rfl, fun _ => rfl, fun _ => rfl⟩ (c0k.ag (show agr [(0, 76)] [77, 78, 79] V V27 from (agr.tr agr.rf ajV27 (by decide) (by decide))) rfl)
    have rj48 : RJm V27 gB := RJm.ag rj (show agr [(0, 76)] [77, 78, 79] V V27 from (agr.tr agr.rf ajV27 (by decide) (by decide))) (by decide)
    have fm49 : FRM V V27 (-1) := ((FRM.ag (show agr [(0, 76)] [77, 78, 79] V V27 from (agr.tr agr.rf ajV27 (by decide) (by decide))) ⟨⟨rfl, fun _ => rfl, fun _ => rfl, fun _ => rfl, fun _ => rfl, fun _ => rfl, fun _ => rfl⟩, by decide, by decide, rfl, rfl, fun _ => rfl, fun _ => rfl, fun _ => rfl, fun _ => rfl, fun _ => rfl, fun _ => rfl⟩) : FRM V V27 (-1))
    have cm50 : CMPo V27 gB (Int32.toNatClampNeg p1) := CMPo.fr cm9 bk fm49 (by have h9 := i_clamp (x := p1) rfl (by (first | exact om_eafa9039069c rg_p1.1 | omega)); (first | exact om_6c25244c01f7 oq1 ko9 | omega)) (RTn rt bk (by have h9 := i_clamp (x := p1) rfl (by (first | exact om_eafa9039069c rg_p1.1 | omega)); omega))
    refine gA_int (gA_runV (As := [.int (V 44 (Int32.toNatClampNeg z32)), .int p1, .int p2, .int p3, .int p4, .int z33]) (rest := []) (ci := 12) (q0 := 0) hx hb hml hown hg hP hD hK hS hA hnw hgk ((hk_s_wA1D d8 hd8) H.size ad kk V27 L (V 44 (Int32.toNatClampNeg z32)) p1 p2 p3 p4 z33 (gB) (grk) (Fin1 glv go gc gsc gme :: gr) (ga) (0) (gt) (gu) (glv) (go) (gc) (gsc) (gme) (0) (10000 * nwh V) (10000 * nwh V + 10000) ((wAt gB i9)) ((i9 + 1)) hMV27 (by omega) (by omega) (by omega) (by omega) (by omega) rt47 (show (V27 0 65).toInt ≤ (V27 0 60).toInt from by (first | exact om_842ee80c0797 n1 pq39 pq40 | omega)) (show (V27 0 95).toInt ≤ (V27 0 65).toInt from by (first | exact om_3d4f17b65b82 n2 pq39 pq41 | omega)) (show (V27 0 73).toInt + (V27 0 95).toInt - (V27 0 65).toInt ≤ 999000 from by (first | exact om_76b0493e0dd2 n3 pq39 pq41 pq42 | omega)) (show (V27 0 76).toInt - (V27 0 69).toInt - (V27 0 73).toInt ≤ 1000000001 from by (first | exact om_037c97ee2b51 n4 t26 pq42 pq43 | omega)) (show 300 - (V27 0 60).toInt ≤ ((d1 : Nat) : Int) from by (first | exact om_c759f2b33fec n5 pq40 | omega)) (show 10 - (V27 0 93).toInt ≤ ((d2 : Nat) : Int) from by (first | exact om_62e1a727c0e4 n6 pq44 | omega)) (BKm.ag bk (show agr [(0, 76)] [77, 78, 79] V V27 from (agr.tr agr.rf ajV27 (by decide) (by decide))) (by decide)) br rj48 (fun h9 => absurd h9 (by decide)) (show (((Fin1 glv go gc gsc gme :: gr).length : Nat) : Int) ≤ 28 * (V27 0 93).toInt + 2 * (((i9 + 1)) : Int) from by omega) (show ((totP (Fin1 glv go gc gsc gme :: gr) : Nat) : Int) ≤ 84 * (V27 0 93).toInt + 28 * (z33.toInt - 1) from by (first | exact om_1aef622ca9ac hp9 hz33 lg38 pq44 | omega)) (show p1.toInt < (V27 0 60).toInt from by (first | exact om_ad53b8b0928c oq1 pq40 | omega)) (show (V27 0 98).toInt + 400 * ((d2 : Nat) : Int) + 30 * (14 - z33.toInt) ≤ 19000 from by (first | exact om_6171dfc018bd n7 hz33 pq45 | omega)) (CE.same (show CE 0 true V (10000 * nwh V) (10000 * nwh V + 10000) (V 44 (Int32.toNatClampNeg z32)).toInt.toNat from q44 ▸ wE.2) (Int.le_refl _) (Nat.le_refl _) (fun i _ _ => ⟨agV27 45 _ rfl, agV27 46 _ rfl, agV27 47 _ rfl⟩)) (show ((10000 * nwh V + 10000) : Int) ≤ 20000 from by (first | exact om_04dbafc35f9b kn nb.2 | omega)) (hMV27 27 _).1 (show 12 - z33.toInt ≤ ((d8 : Nat) : Int) from by omega) (show p2.toInt = (gme) from by (first | exact om_570b691c1130 zm9 | omega)) ⟨by rw [ks9, show Int32.toNatClampNeg (z33) = Int32.toNatClampNeg p0 + 1 from by have h9 := i_clamp (x := z33) rfl (by (first | exact om_5ed16a07bd2d rg_p0.1 hz33 | omega)); omega], by omega⟩ (show 1 ≤ (((i9 + 1)) : Int) from by omega) (show ((10000 * nwh V) : Int) = 10000 * ((nwh V27 : Nat) : Int) from by (first | exact om_e39273519f2d nw9 | omega)) (show ((V 44 (Int32.toNatClampNeg z32))).toInt = ((10000 * nwh V27 + ((wAt gB i9)) : Nat) : Int) from by omega) oq8 (show (V27 0 93).toInt = (glv) from by (first | exact om_cd7d0a6a31bc zl9 pq44 | omega)) (show p1.toInt = (go) from by (first | exact om_570b691c1130 zo9 | omega)) (show (V27 61 (Int32.toNatClampNeg p1)).toInt = (gc) from by (first | exact om_cd7d0a6a31bc zc9 pq46 | omega)) (show p3.toInt = (gsc) from by (first | exact om_570b691c1130 zs9 | omega)) cm50) w2272 w2274 w137 w172 w2275 rfl rfl hdV_yX12_worksAround ⟨(by show (4 * (d1) + 40 * (d2) + 15 + 2 * (d8)) + 1 ≤ (4 * d1 + 40 * d2 + 14 + 2 * d3); omega), (by show 8 + (13 + 11) + (100 * (d1) + 1000 * (d2) + 588 + 60 * (d8)) ≤ (100 * d1 + 1000 * d2 + 560 + 60 * d3); omega)⟩ rfl hl.1 rfl (Nat.le_of_ble_eq_true rfl) dX12_arounds_60 ⟨Nat.le_of_ble_eq_true rfl, Nat.le_of_ble_eq_true rfl⟩) hP hD hK hS hA (fun z51 u52 H locs w53 hP hD hK hS => ?_)
    obtain ⟨V70, L71⟩ := u52
    obtain ⟨hMV70, ajV70, axL71, rgz51, t54, t55, t56, t57, t58, t59, t60, t61, t62, t63, t64, t65, t66, t67, t68, t69⟩ := w53
    have axL71 : L = L71 := Eq.symm axL71
    subst axL71
    have hP : va_P D vwCl (mw ad kk ks.1 V70 L) H := hP
    have hD : va_D A (mw ad kk ks.1 V70 L) := hD
    have hMV70 : rgd bM V70 := hMV70
    have ajV70 : agr [(0, 60), (0, 65), (0, 68), (0, 69), (0, 73), (0, 76), (0, 90), (0, 91), (0, 92), (0, 93), (0, 95), (0, 96), (0, 98)] [59, 61, 62, 63, 64, 66, 67, 74, 75, 77, 78, 79, 80, 94, 97] V27 V70 := ajV70
    have agV70 : agr [(0, 60), (0, 65), (0, 68), (0, 69), (0, 73), (0, 76), (0, 90), (0, 91), (0, 92), (0, 93), (0, 95), (0, 96), (0, 98)] [59, 61, 62, 63, 64, 66, 67, 74, 75, 77, 78, 79, 80, 94, 97] V V70 := agV27.tr ajV70 (by decide) (by decide)
    have rgz51 : 0 ≤ z51.toInt ∧ z51.toInt ≤ 2 := rgz51
    have t54 : (V70 0 93).toInt = (V27 0 93).toInt := t54
    have t55 : (V70 0 98).toInt = (V27 0 98).toInt := t55
    have t56 : (V27 0 60).toInt ≤ (V70 0 60).toInt := t56
    have t57 : (V27 0 65).toInt ≤ (V70 0 65).toInt := t57
    have t58 : (V70 0 65).toInt - (V27 0 65).toInt ≤ (V70 0 60).toInt - (V27 0 60).toInt := t58
    have t59 : (V70 0 73).toInt + (V70 0 95).toInt - (V70 0 65).toInt ≤ (V27 0 73).toInt + (V27 0 95).toInt - (V27 0 65).toInt := t59
    have t60 : (V27 0 73).toInt ≤ (V70 0 73).toInt := t60
    have t61 : (V27 0 69).toInt ≤ (V70 0 69).toInt := t61
    have t62 : (V70 0 95).toInt = (V27 0 95).toInt := t62
    have t63 : (V70 0 76).toInt - (V70 0 69).toInt - (V70 0 73).toInt ≤ (V27 0 76).toInt - (V27 0 69).toInt - (V27 0 73).toInt := t63
    have t64 : Imp (z51.toInt ≠ 2) ((V70 0 76).toInt - (V70 0 69).toInt - (V70 0 73).toInt + 1 ≤ (V27 0 76).toInt - (V27 0 69).toInt - (V27 0 73).toInt) := t64
    have t65 : RT V70 := t65
    have t66 : FRM V27 V70 (-1) := t66
    have t67 : RJm V70 (gB) := t67
    have t68 : PLK V27 V70 (V27 0 98).toInt.toNat := t68
    have t69 : DPc (gB) (mV V27 0 (gt) (gu), (ga), Fwork (glv) (go) (gc) (gsc) (gme) (((i9 + 1)) : Int) ((((wAt gB i9)) : Nat) : Int) p4 [] :: (Fin1 glv go gc gsc gme :: gr)) V70 (Fin1 glv go gc gsc gme :: gr) z51.toInt (V70 0 96) (24 * (10 - (V27 0 93).toInt)) := t69
    have r72 : 0 ≤ ((V70 0 93)).toInt ∧ ((V70 0 93)).toInt ≤ 10 := hMV70 0 93
    have r73 : 0 ≤ ((V70 0 98)).toInt ∧ ((V70 0 98)).toInt ≤ 20000 := hMV70 0 98
    have r74 : 0 ≤ ((V70 0 60)).toInt ∧ ((V70 0 60)).toInt ≤ 300 := hMV70 0 60
    have r75 : 0 ≤ ((V70 0 65)).toInt ∧ ((V70 0 65)).toInt ≤ 1000000 := hMV70 0 65
    have r76 : 0 ≤ ((V70 0 73)).toInt ∧ ((V70 0 73)).toInt ≤ 1000000 := hMV70 0 73
    have r77 : 0 ≤ ((V70 0 95)).toInt ∧ ((V70 0 95)).toInt ≤ 300 := hMV70 0 95
    have r78 : 0 ≤ ((V70 0 69)).toInt ∧ ((V70 0 69)).toInt ≤ 3000 := hMV70 0 69
    have r79 : 0 ≤ ((V70 0 76)).toInt ∧ ((V70 0 76)).toInt ≤ 2000000000 := hMV70 0 76
    have fm80 : FRM V V27 (-1) := ((FRM.ag (show agr [(0, 76)] [77, 78, 79] V V27 from (agr.tr agr.rf ajV27 (by decide) (by decide))) ⟨⟨rfl, fun _ => rfl, fun _ => rfl, fun _ => rfl, fun _ => rfl, fun _ => rfl, fun _ => rfl⟩, by decide, by decide, rfl, rfl, fun _ => rfl, fun _ => rfl, fun _ => rfl, fun _ => rfl, fun _ => rfl, fun _ => rfl⟩) : FRM V V27 (-1))
    have fm81 : FRM V V70 (-1) := (FRM.tr fm80 t66 agV27 ⟨rfl, fun _ => rfl, fun _ => rfl, fun _ => rfl, fun _ => rfl, fun _ => rfl, fun _ => rfl⟩ (by (first | exact om_abdc88b0c8fc pq41 | omega)))
    have pk82 : PLK V V27 (V 0 98).toInt.toNat := (PLK.tr (PLK.rf : PLK V V (V 0 98).toInt.toNat) (PLK.ag (t := (V 0 98).toInt.toNat) (show agr [(0, 76)] [77, 78, 79] V V27 from (agr.tr agr.rf ajV27 (by decide) (by decide))) (fun _ => rfl)) (Nat.le_refl _))
    have pk83 : PLK V V70 (V 0 98).toInt.toNat := (PLK.tr pk82 t68 (by (first | exact om_f4e8f7aef971 r8.1 pq45 | omega)))
    have r84 : 0 ≤ (V70 0 65).toInt := (hMV70 0 65).1
    have r85 : (V70 0 60).toInt ≤ 300 := (hMV70 0 60).2
    have rp86 : DPc gB (mV V gs gt gu, ga, Fin0 glv go gc gsc gme (gps : Int) p4 :: gr) V70 gr (z51.toInt) (V70 0 96) (24 * (10 - (V 0 93).toInt)) := DPc.pop (f := Fin1 glv go gc gsc gme) (DPc.tr ht34 (by have h9 := t69; rw [show (V27 0 93).toInt = (V 0 93).toInt from by omega] at h9; exact h9)) (by omega) (show 0 + totP gr ≤ 2000 from by (first | exact om_edaef2badf50 hp9 r7.2 p11 | omega)) (by omega) (by omega) (fun _ _ => trivial) (fun _ _ => rfl)
    exact W.iret (v := z51) hx hb hr (fun t ht hW => ⟨⟨z51, (V70, L), rfl, ⟨hMV70, agV70, rfl, (show 0 ≤ z51.toInt ∧ z51.toInt ≤ 2 from by first | exact om_8c285ac91b81 rgz51.1 rgz51.2 | first | omega | ((try (have i_t64 := Imp.go t64 (by omega))); omega)), (show (V70 0 93).toInt = (V 0 93).toInt from by first | exact om_cd7d0a6a31bc pq44 t54 | first | omega | ((try (have i_t64 := Imp.go t64 (by omega))); omega)), (show (V70 0 98).toInt = (V 0 98).toInt from by first | exact om_cd7d0a6a31bc pq45 t55 | first | omega | ((try (have i_t64 := Imp.go t64 (by omega))); omega)), (show (V 0 60).toInt ≤ (V70 0 60).toInt from by first | exact om_9ed0bc330a9d pq40 t56 | first | omega | ((try (have i_t64 := Imp.go t64 (by omega))); omega)), (show (V 0 65).toInt ≤ (V70 0 65).toInt from by first | exact om_9ed0bc330a9d pq39 t57 | first | omega | ((try (have i_t64 := Imp.go t64 (by omega))); omega)), (show (V70 0 65).toInt - (V 0 65).toInt ≤ (V70 0 60).toInt - (V 0 60).toInt from by first | exact om_2195e15a955d pq39 pq40 t58 | first | omega | ((try (have i_t64 := Imp.go t64 (by omega))); omega)), (show (V70 0 73).toInt + (V70 0 95).toInt - (V70 0 65).toInt ≤ (V 0 73).toInt + (V 0 95).toInt - (V 0 65).toInt from by first | exact om_72a8a4bae0db pq39 pq41 pq42 t59 | first | omega | ((try (have i_t64 := Imp.go t64 (by omega))); omega)), (show (V 0 73).toInt ≤ (V70 0 73).toInt from by first | exact om_9ed0bc330a9d pq42 t60 | first | omega | ((try (have i_t64 := Imp.go t64 (by omega))); omega)), (show (V 0 69).toInt ≤ (V70 0 69).toInt from by first | exact om_9ed0bc330a9d pq43 t61 | first | omega | ((try (have i_t64 := Imp.go t64 (by omega))); omega)), (show (V70 0 95).toInt = (V 0 95).toInt from by first | exact om_cd7d0a6a31bc pq41 t62 | first | omega | ((try (have i_t64 := Imp.go t64 (by omega))); omega)), (show (V70 0 76).toInt - (V70 0 69).toInt - (V70 0 73).toInt ≤ (V 0 76).toInt - (V 0 69).toInt - (V 0 73).toInt + 1 from by first | exact om_c712b5043f67 t26 pq42 pq43 t63 | first | omega | ((try (have i_t64 := Imp.go t64 (by omega))); omega)), (Imp.mk (fun hp => have hp : z51.toInt ≠ 2 := hp; (show (V70 0 76).toInt - (V70 0 69).toInt - (V70 0 73).toInt ≤ (V 0 76).toInt - (V 0 69).toInt - (V 0 73).toInt from by first | exact om_d55ab881ae13 t26 pq42 pq43 ((Imp.go t64 (hp))) | first | omega | ((try (have i_t64 := Imp.go t64 (by omega))); omega)))), t65, fm81, t67, pk83, rp86⟩, by rw [ht]; exact hP, va_K.moved hW.alike hK, hD⟩, hS.F ht⟩) hS.2.2 dX12_arounds_63
  · skip
    have f87 : z12.toInt < 0 := b_nle (by decide) rfl c17
    have hz9 := Imp.go t16 (by (first | exact om_9af74326e8db rgz12.1 f87 | omega))
    have pf9 : ∀ x, x ∈ bW gB → isWb V p1 p2 1 x = isF gB 1 gc.toNat gme.toNat x := fun x hx => by rw [gc9, gm8]; exact isWb_F hMV bk (bW_mem hx) cn8 rfl (by omega) (by decide)
    rw [cnP_cg pf9] at hz9
    have lk9 := cnP_le (P := isF gB 1 gc.toNat gme.toNat) (l := bW gB) (p := gps) (q := max gps (bW gB).length) (Nat.le_max_left _ _)
    rw [List.take_of_length_le (Nat.le_max_right _ _)] at lk9
    have cn1 := cn9.1
    have r88 : 0 ≤ (V 0 65).toInt := (hMV 0 65).1
    have r89 : (V 0 60).toInt ≤ 300 := (hMV 0 60).2
    have r90 : 0 ≤ (V 0 93).toInt ∧ (V 0 93).toInt ≤ 10 := hMV 0 93
    have ht91 : TRs gB (mV V gs gt gu, ga, Fin0 glv go gc gsc gme (gps : Int) p4 :: gr) (mV V 1 gt gu, p4, Fin4 glv go gc gsc gme 0 :: gr) := TRs.st ht10 (SF.mk (show gr.length ≤ 394 from by (first | exact om_f6c611e966ad hl9 cn9.2 r7.2 | omega)) (show 0 + (totP gr) ≤ 2000 from by (first | exact om_acf52f67f249 rg_p0.2 hp9 r7.2 | omega)) (show 0 ≤ (V 0 65).toInt ∧ (V 0 65).toInt ≤ 300 from by (first | exact om_16d1a7c24be6 n1 r1.1 r2.2 | omega)) hs9 trivial) ((st_8n (fF_n ln9.2 (show cnP (isF gB 1 gc.toNat gme.toNat) ((bW gB).take gps) = cnP (isF gB 1 gc.toNat gme.toNat) (bW gB) from by have h9 := cn9.1; omega))).trans mV_ans)
    refine lv_aload_n hx hb dX12_arounds_15 rfl (lv_at hl 1 rfl) ?_
    refine lv_iload_n hx hb dX12_arounds_16 rfl (lv_at hl 3 rfl) ?_
    refine lv_iload_n hx hb dX12_arounds_17 rfl (lv_at hl 4 rfl) ?_
    refine lv_iload hx hb dX12_arounds_18 (lv_at hl 5 rfl) ?_
    refine lv_iload hx hb dX12_arounds_20 (lv_at hl 6 rfl) ?_
    have ar2 := br.2.2.2.2.1 gc.toNat gme.toNat gps
    have cn2 := cn9.1
    have cn3 := cn9.2
    refine gA_int (gA_runV (As := [.int p1, .int p2, .int p3, .int p4]) (rest := []) (ci := 12) (q0 := 0) hx hb hml hown hg hP hD hK hS hA hnw hgk (hk_s_insideD H.size ad kk V L p1 p2 p3 p4 (gB) (grk) (gr) (p4) (1) (gt) (gu) (glv) (go) (gc) (gsc) (gme) hMV (by (first | exact om_cb67e99158ac rg_p1.1 rg_p1.2 | omega)) (by (first | exact om_0916ac166aa8 rg_p2.1 rg_p2.2 | omega)) (by (first | exact om_13ba01c174fe rg_p3.1 rg_p3.2 | omega)) rt (show (V 0 65).toInt ≤ (V 0 60).toInt from by (first | exact om_f4906d00fa52 n1 | omega)) (show (V 0 95).toInt ≤ (V 0 65).toInt from by (first | exact om_f4906d00fa52 n2 | omega)) (show (V 0 73).toInt + (V 0 95).toInt - (V 0 65).toInt ≤ 999000 from by (first | exact om_947a8f2a0e3a n3 | omega)) (show (V 0 76).toInt - (V 0 69).toInt - (V 0 73).toInt ≤ 1000000000 from by (first | exact om_be9b7bdfab02 n4 | omega)) (show 300 - (V 0 60).toInt ≤ ((d1 : Nat) : Int) from by (first | exact om_a00d5de16f2e n5 | omega)) (show 10 - (V 0 93).toInt ≤ ((d2 : Nat) : Int) from by (first | exact om_e2c7f9016405 n6 | omega)) bk br rj (fun h9 => absurd h9 (by decide)) (show (((gr).length : Nat) : Int) ≤ 28 * (V 0 93).toInt + 25 from by (first | exact om_3f99e9309a7d hl9 cn9.2 | omega)) (show ((totP (gr) : Nat) : Int) ≤ 84 * (V 0 93).toInt + 56 from by omega) (show p1.toInt < (V 0 60).toInt from by (first | exact om_0e9116797efb oq1 | omega)) (show (V 0 98).toInt + 400 * ((d2 : Nat) : Int) + 30 ≤ 19000 from by (first | exact om_2e86d7b0ed9b rg_p0.2 n7 | omega)) (show (V 0 93).toInt = (glv) from by (first | exact om_570b691c1130 zl9 | omega)) (show p1.toInt = (go) from by (first | exact om_570b691c1130 zo9 | omega)) (show (V 61 (Int32.toNatClampNeg p1)).toInt = (gc) from by (first | exact om_570b691c1130 zc9 | omega)) (show p3.toInt = (gsc) from by (first | exact om_570b691c1130 zs9 | omega)) (show p2.toInt = (gme) from by (first | exact om_570b691c1130 zm9 | omega)) cm9) w2292 w2294 w142 w172 w2295 rfl rfl hdV_yX12_inside ⟨(by show (4 * (d1) + 40 * (d2) + 13) + 1 ≤ (4 * d1 + 40 * d2 + 14 + 2 * d3); (first | exact om_29df2e9a5bf6 rg_p0.2 n8 | omega)), (by show 8 + (11 + 11) + (100 * (d1) + 1000 * (d2) + 500) ≤ (100 * d1 + 1000 * d2 + 560 + 60 * d3); (first | exact om_33cb93b2b1dc rg_p0.2 n8 | omega))⟩ rfl hl.1 rfl (Nat.le_of_ble_eq_true rfl) dX12_arounds_22 ⟨Nat.le_of_ble_eq_true rfl, Nat.le_of_ble_eq_true rfl⟩) hP hD hK hS hA (fun z92 u93 H locs w94 hP hD hK hS => ?_)
    obtain ⟨V111, L112⟩ := u93
    obtain ⟨hMV111, ajV111, axL112, rgz92, t95, t96, t97, t98, t99, t100, t101, t102, t103, t104, t105, t106, t107, t108, t109, t110⟩ := w94
    have axL112 : L = L112 := Eq.symm axL112
    subst axL112
    have hP : va_P D vwCl (mw ad kk ks.1 V111 L) H := hP
    have hD : va_D A (mw ad kk ks.1 V111 L) := hD
    have hMV111 : rgd bM V111 := hMV111
    have ajV111 : agr [(0, 60), (0, 65), (0, 68), (0, 69), (0, 73), (0, 76), (0, 90), (0, 91), (0, 92), (0, 93), (0, 95), (0, 96), (0, 98)] [59, 61, 62, 63, 64, 66, 67, 74, 75, 77, 78, 79, 80, 94, 97] V V111 := ajV111
    have agV111 : agr [(0, 60), (0, 65), (0, 68), (0, 69), (0, 73), (0, 76), (0, 90), (0, 91), (0, 92), (0, 93), (0, 95), (0, 96), (0, 98)] [59, 61, 62, 63, 64, 66, 67, 74, 75, 77, 78, 79, 80, 94, 97] V V111 := agV.tr ajV111 (by decide) (by decide)
    have rgz92 : 0 ≤ z92.toInt ∧ z92.toInt ≤ 2 := rgz92
    have t95 : (V111 0 93).toInt = (V 0 93).toInt := t95
    have t96 : (V111 0 98).toInt = (V 0 98).toInt := t96
    have t97 : (V 0 60).toInt ≤ (V111 0 60).toInt := t97
    have t98 : (V 0 65).toInt ≤ (V111 0 65).toInt := t98
    have t99 : (V111 0 65).toInt - (V 0 65).toInt ≤ (V111 0 60).toInt - (V 0 60).toInt := t99
    have t100 : (V111 0 73).toInt + (V111 0 95).toInt - (V111 0 65).toInt ≤ (V 0 73).toInt + (V 0 95).toInt - (V 0 65).toInt := t100
    have t101 : (V 0 73).toInt ≤ (V111 0 73).toInt := t101
    have t102 : (V 0 69).toInt ≤ (V111 0 69).toInt := t102
    have t103 : (V111 0 95).toInt = (V 0 95).toInt := t103
    have t104 : (V111 0 76).toInt - (V111 0 69).toInt - (V111 0 73).toInt ≤ (V 0 76).toInt - (V 0 69).toInt - (V 0 73).toInt + 1 := t104
    have t105 : Imp (z92.toInt ≠ 2) ((V111 0 76).toInt - (V111 0 69).toInt - (V111 0 73).toInt ≤ (V 0 76).toInt - (V 0 69).toInt - (V 0 73).toInt) := t105
    have t106 : RT V111 := t106
    have t107 : FRM V V111 (-1) := t107
    have t108 : RJm V111 (gB) := t108
    have t109 : PLK V V111 (V 0 98).toInt.toNat := t109
    have t110 : DPc (gB) (mV V 1 (gt) (gu), p4, Fin4 (glv) (go) (gc) (gsc) (gme) 0 :: (gr)) V111 (gr) z92.toInt (V111 0 96) (24 * (10 - (V 0 93).toInt)) := t110
    have r113 : 0 ≤ ((V111 0 93)).toInt ∧ ((V111 0 93)).toInt ≤ 10 := hMV111 0 93
    have r114 : 0 ≤ ((V111 0 98)).toInt ∧ ((V111 0 98)).toInt ≤ 20000 := hMV111 0 98
    have r115 : 0 ≤ ((V111 0 60)).toInt ∧ ((V111 0 60)).toInt ≤ 300 := hMV111 0 60
    have r116 : 0 ≤ ((V111 0 65)).toInt ∧ ((V111 0 65)).toInt ≤ 1000000 := hMV111 0 65
    have r117 : 0 ≤ ((V111 0 73)).toInt ∧ ((V111 0 73)).toInt ≤ 1000000 := hMV111 0 73
    have r118 : 0 ≤ ((V111 0 95)).toInt ∧ ((V111 0 95)).toInt ≤ 300 := hMV111 0 95
    have r119 : 0 ≤ ((V111 0 69)).toInt ∧ ((V111 0 69)).toInt ≤ 3000 := hMV111 0 69
    have r120 : 0 ≤ ((V111 0 76)).toInt ∧ ((V111 0 76)).toInt ≤ 2000000000 := hMV111 0 76
    have fm121 : FRM V V111 (-1) := (t107 : FRM V V111 (-1))
    have pk122 : PLK V V111 (V 0 98).toInt.toNat := (PLK.tr (PLK.rf : PLK V V (V 0 98).toInt.toNat) t109 (by (first | exact om_2b97926ac273 | omega)))
    have r123 : 0 ≤ (V111 0 65).toInt := (hMV111 0 65).1
    have r124 : (V111 0 60).toInt ≤ 300 := (hMV111 0 60).2
    have rp125 : DPc gB (mV V gs gt gu, ga, Fin0 glv go gc gsc gme (gps : Int) p4 :: gr) V111 gr (z92.toInt) (V111 0 96) (24 * (10 - (V 0 93).toInt)) := DPc.tr ht91 t110
    exact W.iret (v := z92) hx hb hr (fun t ht hW => ⟨⟨z92, (V111, L), rfl, ⟨hMV111, agV111, rfl, (show 0 ≤ z92.toInt ∧ z92.toInt ≤ 2 from by first | exact om_8c285ac91b81 rgz92.1 rgz92.2 | first | omega | ((try (have i_t105 := Imp.go t105 (by omega))); omega)), (show (V111 0 93).toInt = (V 0 93).toInt from by first | exact om_570b691c1130 t95 | first | omega | ((try (have i_t105 := Imp.go t105 (by omega))); omega)), (show (V111 0 98).toInt = (V 0 98).toInt from by first | exact om_570b691c1130 t96 | first | omega | ((try (have i_t105 := Imp.go t105 (by omega))); omega)), (show (V 0 60).toInt ≤ (V111 0 60).toInt from by first | exact om_f4906d00fa52 t97 | first | omega | ((try (have i_t105 := Imp.go t105 (by omega))); omega)), (show (V 0 65).toInt ≤ (V111 0 65).toInt from by first | exact om_f4906d00fa52 t98 | first | omega | ((try (have i_t105 := Imp.go t105 (by omega))); omega)), (show (V111 0 65).toInt - (V 0 65).toInt ≤ (V111 0 60).toInt - (V 0 60).toInt from by first | exact om_b36b2a007ba2 t99 | first | omega | ((try (have i_t105 := Imp.go t105 (by omega))); omega)), (show (V111 0 73).toInt + (V111 0 95).toInt - (V111 0 65).toInt ≤ (V 0 73).toInt + (V 0 95).toInt - (V 0 65).toInt from by first | exact om_f04cba5a5a1f t100 | first | omega | ((try (have i_t105 := Imp.go t105 (by omega))); omega)), (show (V 0 73).toInt ≤ (V111 0 73).toInt from by first | exact om_f4906d00fa52 t101 | first | omega | ((try (have i_t105 := Imp.go t105 (by omega))); omega)), (show (V 0 69).toInt ≤ (V111 0 69).toInt from by first | exact om_f4906d00fa52 t102 | first | omega | ((try (have i_t105 := Imp.go t105 (by omega))); omega)), (show (V111 0 95).toInt = (V 0 95).toInt from by first | exact om_570b691c1130 t103 | first | omega | ((try (have i_t105 := Imp.go t105 (by omega))); omega)), (show (V111 0 76).toInt - (V111 0 69).toInt - (V111 0 73).toInt ≤ (V 0 76).toInt - (V 0 69).toInt - (V 0 73).toInt + 1 from by first | exact om_55143c0ac645 t104 | first | omega | ((try (have i_t105 := Imp.go t105 (by omega))); omega)), (Imp.mk (fun hp => have hp : z92.toInt ≠ 2 := hp; (show (V111 0 76).toInt - (V111 0 69).toInt - (V111 0 73).toInt ≤ (V 0 76).toInt - (V 0 69).toInt - (V 0 73).toInt from by first | exact om_f1910009b5d0 ((Imp.go t105 (hp))) | first | omega | ((try (have i_t105 := Imp.go t105 (by omega))); omega)))), t106, fm121, t108, pk122, rp125⟩, by rw [ht]; exact hP, va_K.moved hW.alike hK, hD⟩, hS.F ht⟩) hS.2.2 dX12_arounds_25
set_option maxHeartbeats 4000000 in
set_option maxRecDepth 100000 in
theorem s_failingsD {l : Launch} {D : va_G} {ks : KS} {d1 d2 : Nat} (hk_s_worksD : K_s_worksD l D ks d1 d2) : K_s_failingsD l D ks d1 d2 := by
  intro sz ad kk V L p0 p1 p2 gB grk gr ga gs gt gu glv go gc gsc gme hMV rg_p0 rg_p1 rg_p2 rt n1 n2 n3 n4 n5 n6 bk br rj hs9 hl9 hp9 oq1 n7 zt9 zb9 zl9 zo9 zc9 zs9 zm9 cm9
  refine g_met (q_s_failingsD D ks ad kk V L p0 p1 p2 gB grk gr ga gs gt gu glv go gc gsc gme) (by decide) (Nat.le_of_ble_eq_true rfl) ?_
  intro p e s m below meth c A ls H locs hx hb hr hml hown hg hlocks hin hnw hgk hP hK hD hS hA hl
  have hown : s.vm.findClass RX12 = some m.cls := hown
  have hl : lv_has ls 11 [(0, .ref (ad 0)), (1, .int p0), (2, .int p1), (3, .int p2)] := hl
  have hP : va_P D vwCl (mw ad kk ks.1 V L) H := hP
  have hD : va_D A (mw ad kk ks.1 V L) := hD
  have hK : va_K D vwCl (mty kk) s := hK
  have agV : agr [(0, 60), (0, 65), (0, 68), (0, 69), (0, 73), (0, 76), (0, 90), (0, 91), (0, 92), (0, 93), (0, 95), (0, 96), (0, 98)] [59, 61, 62, 63, 64, 66, 67, 74, 75, 77, 78, 79, 80, 94, 97] V V := agr.rf
  have r1 : 0 ≤ ((V 0 65)).toInt ∧ ((V 0 65)).toInt ≤ 1000000 := hMV 0 65
  have r2 : 0 ≤ ((V 0 60)).toInt ∧ ((V 0 60)).toInt ≤ 300 := hMV 0 60
  have r3 : 0 ≤ ((V 0 95)).toInt ∧ ((V 0 95)).toInt ≤ 300 := hMV 0 95
  have r4 : 0 ≤ ((V 0 73)).toInt ∧ ((V 0 73)).toInt ≤ 1000000 := hMV 0 73
  have r5 : 0 ≤ ((V 0 76)).toInt ∧ ((V 0 76)).toInt ≤ 2000000000 := hMV 0 76
  have r6 : 0 ≤ ((V 0 69)).toInt ∧ ((V 0 69)).toInt ≤ 3000 := hMV 0 69
  have r7 : 0 ≤ ((V 0 93)).toInt ∧ ((V 0 93)).toInt ≤ 10 := hMV 0 93
  have r8 : 0 ≤ ((V 0 98)).toInt ∧ ((V 0 98)).toInt ≤ 20000 := hMV 0 98
  have r9 : 0 ≤ ((V 61 (Int32.toNatClampNeg p0))).toInt ∧ ((V 61 (Int32.toNatClampNeg p0))).toInt ≤ 23 := hMV 61 (Int32.toNatClampNeg p0)
  have ht10 : TRs gB (mV V 2 gt gu, ga, Fcall1 glv go gc gsc gme :: gr) (mV V 2 gt gu, ga, Fcall1 glv go gc gsc gme :: gr) := TRs.rf
  have ko9 := i_clamp (x := p0) rfl (by (first | exact om_eafa9039069c rg_p0.1 | omega))
  have km9 := i_clamp (x := p1) rfl (by (first | exact om_eafa9039069c rg_p1.1 | omega))
  have gc9 : gc.toNat = Int32.toNatClampNeg (V 61 (Int32.toNatClampNeg p0)) := by rw [← zc9]; rfl
  have gm8 : gme.toNat = Int32.toNatClampNeg p1 := by rw [← zm9]; rfl
  have cn8 := RTn rt bk (o := Int32.toNatClampNeg p0) (by omega)
  have ln9 := BKr.len br
  have wn9 := BKm.wn bk
  have wn8 : wN gB ≤ 12 := Nat.min_le_left _ _
  refine lv_aload_n hx hb dX12_failings_0 rfl (lv_at hl 0 rfl) ?_
  refine va_get (D := D) (ci := 12) (v := .int (V 0 90)) (C := RX12) (T := TX12) (N := 100) hx hb hg inX12 hown hK hP 0 rfl rfl 90 (by decide) (hg _ w1796) (fun _ h9 => h9) rfl dX12_failings_1 ?_
  refine lv_istore (lv' := [(4, .int (V 0 90)), (0, .ref (ad 0)), (1, .int p0), (2, .int p1), (3, .int p2)]) hx hb dX12_failings_4 hl (by decide) rfl (fun ls hl => ?_)
  refine lv_aload_n hx hb dX12_failings_6 rfl (lv_at hl 1 rfl) ?_
  refine va_get (D := D) (ci := 12) (v := .int (V 0 91)) (C := RX12) (T := TX12) (N := 100) hx hb hg inX12 hown hK hP 0 rfl rfl 91 (by decide) (hg _ w1797) (fun _ h9 => h9) rfl dX12_failings_7 ?_
  refine lv_istore (lv' := [(5, .int (V 0 91)), (4, .int (V 0 90)), (0, .ref (ad 0)), (1, .int p0), (2, .int p1), (3, .int p2)]) hx hb dX12_failings_10 hl (by decide) rfl (fun ls hl => ?_)
  refine lv_aload_n hx hb dX12_failings_12 rfl (lv_at hl 2 rfl) ?_
  refine lv_iload_n hx hb dX12_failings_13 rfl (lv_at hl 3 rfl) ?_
  refine lv_iload_n hx hb dX12_failings_14 rfl (lv_at hl 4 rfl) ?_
  refine lv_iconst (v := 3) hx hb dX12_failings_15 (by decide) ?_
  have r11 : Int32.toInt 3 = 3 := by decide
  refine gA_int (gA_runV (As := [.int p0, .int p1, .int 3]) (rest := []) (ci := 12) (q0 := 0) hx hb hml hown hg hP hD hK hS hA hnw hgk (s_wrapsOf2 l D ks H.size ad kk V L p0 p1 3 hMV (by (first | exact om_cb67e99158ac rg_p0.1 rg_p0.2 | omega)) (rt).1) w2296 w2298 w143 w172 w2299 rfl rfl hdV_yX12_wrapsOf ⟨(by show (1) + 1 ≤ (4 * d1 + 40 * d2 + 13); (first | exact om_8b407315c948 n6 r7.2 | omega)), (by show 8 + (6 + 11) + (25) ≤ (100 * d1 + 1000 * d2 + 500); (first | exact om_40e3b3767533 n6 r7.2 | omega))⟩ rfl hl.1 rfl (Nat.le_of_ble_eq_true rfl) dX12_failings_16 ⟨Nat.le_of_ble_eq_true rfl, Nat.le_of_ble_eq_true rfl⟩) hP hD hK hS hA (fun z12 u13 H locs w14 hP hD hK hS => ?_)
  obtain ⟨rgz12, t15⟩ := w14
  have rgz12 : 0 ≤ z12.toInt ∧ z12.toInt ≤ 12 := rgz12
  have t15 : z12.toInt = ((wcn (isWb V p0 p1 3) (wmany V) : Nat) : Int) := t15
  have wq3 : ∀ x, x ∈ bW gB → isWb V p0 p1 3 x = isF gB 3 gc.toNat gme.toNat x := fun x hx => by rw [gc9, gm8]; exact isWb_F hMV bk (bW_mem hx) cn8 rfl (by omega) (by decide)
  have wc3 : wcn (isWb V p0 p1 3) (wmany V) = cnP (isF gB 3 gc.toNat gme.toNat) (bW gB) := by rw [← cnP_cg wq3, cnP_bW br.2.1, wcn_f, show wmany V = wN gB from by have h9 := BKm.wn bk; unfold wmany; omega]
  have wv3 := t15
  rw [wc3] at wv3
  refine lv_istore (lv' := [(6, .int z12), (5, .int (V 0 91)), (4, .int (V 0 90)), (0, .ref (ad 0)), (1, .int p0), (2, .int p1), (3, .int p2)]) hx hb dX12_failings_19 hl (by decide) rfl (fun ls hl => ?_)
  refine lv_iload hx hb dX12_failings_21 (lv_at hl 0 rfl) ?_
  refine lv_iconst (v := 1) hx hb dX12_failings_23 (by decide) ?_
  refine lv_isub hx hb dX12_failings_24 ?_
  refine lv_topi (fun z16 ez16 => ?_)
  have hz16 : z16.toInt = z12.toInt - 1 := i_sub ez16 rfl (by decide) (by (first | exact om_450cba72217c rgz12.1 rgz12.2 | omega))
  refine lv_istore (lv' := [(7, .int z16), (6, .int z12), (5, .int (V 0 91)), (4, .int (V 0 90)), (0, .ref (ad 0)), (1, .int p0), (2, .int p1), (3, .int p2)]) hx hb dX12_failings_25 hl (by decide) rfl (fun ls hl => ?_)
  have lp19 : ∀ (fulp19 : Nat) (y17 : Int32) (V18 : Vf) (H : Heap) (locs : List Loc) (ls : Array Slot), (-1) ≤ y17.toInt ∧ y17.toInt ≤ 11 → (V18 0 98).toInt = (V 0 98).toInt → (V18 0 93).toInt = (V 0 93).toInt → (V 0 60).toInt ≤ (V18 0 60).toInt → (V 0 65).toInt ≤ (V18 0 65).toInt → (V18 0 65).toInt - (V 0 65).toInt ≤ (V18 0 60).toInt - (V 0 60).toInt → (V18 0 73).toInt + (V18 0 95).toInt - (V18 0 65).toInt ≤ (V 0 73).toInt + (V 0 95).toInt - (V 0 65).toInt → (V 0 73).toInt ≤ (V18 0 73).toInt → (V 0 69).toInt ≤ (V18 0 69).toInt → (V18 0 95).toInt = (V 0 95).toInt → (V18 0 76).toInt - (V18 0 69).toInt - (V18 0 73).toInt ≤ (V 0 76).toInt - (V 0 69).toInt - (V 0 73).toInt → y17.toInt ≤ z12.toInt - 1 → RT V18 → FRM V V18 (-1) → RJm V18 gB → PLK V V18 (V 0 98).toInt.toNat → ((y17.toInt = (((cnP (isF gB 3 gc.toNat gme.toNat) (bW gB) : Nat) : Int) - 1) ∧ TRs gB (mV V 2 gt gu, ga, Fcall1 glv go gc gsc gme :: gr) (mV V18 2 gt gu, ga, Fcall1 glv go gc gsc gme :: gr)) ∨ (∃ i8 t8 k8 a8, ((cnP (isF gB 3 gc.toNat gme.toNat) ((bW gB).take i8) : Nat) : Int) = y17.toInt + 1 ∧ i8 ≤ (bW gB).length ∧ (0 ≤ t8 ∧ t8 ≤ 10000) ∧ TRs gB (mV V 2 gt gu, ga, Fcall1 glv go gc gsc gme :: gr) (mV V18 2 t8 k8, a8, Fcall3 glv go gc gsc gme (i8 : Int) gt gu :: gr))) → y17.toInt + 1 < (fulp19 : Int) → agr [(0, 60), (0, 65), (0, 68), (0, 69), (0, 73), (0, 76), (0, 90), (0, 91), (0, 92), (0, 93), (0, 95), (0, 96), (0, 98)] [59, 61, 62, 63, 64, 66, 67, 74, 75, 77, 78, 79, 80, 94, 97] V V18 → rgd bM V18 → va_P D vwCl (mw ad kk ks.1 V18 L) H → va_D A (mw ad kk ks.1 V18 L) → va_S A s.heap H locs → lv_has ls 11 [(7, .int y17), (6, .int z12), (5, .int (V 0 91)), (4, .int (V 0 90)), (0, .ref (ad 0)), (1, .int p0), (2, .int p1), (3, .int p2)] → W p l e (rK2 (4 * d1 + 40 * d2 + 13) (100 * d1 + 1000 * d2 + 500)) s m ([.ref (ad 0), .int p0, .int p1, .int p2] : List Value).toArray below meth c H locs 0 0 (MQ below (q_s_failingsD D ks ad kk V L p0 p1 p2 gB grk gr ga gs gt gu glv go gc gsc gme A) ([.ref (ad 0), .int p0, .int p1, .int p2] : List Value).toArray s 0 0 A) (F0 m 27 ls []) := by
    intro fulp19
    induction fulp19 with
    | zero =>
      intro y17 V18 H locs ls klp19_0 xlp19_0 xlp19_1 xlp19_2 xlp19_3 xlp19_4 xlp19_5 xlp19_6 xlp19_7 xlp19_8 xlp19_9 xlp19_10 xlp19_11 xlp19_12 xlp19_13 xlp19_14 xlp19_15 hn ajV18 hMV18 hP hD hS hl
      exfalso; (first | exact om_f8ddf9becbdf klp19_0.1 hn | omega)
    | succ fulp19 ihlp19 =>
      intro y17 V18 H locs ls klp19_0 xlp19_0 xlp19_1 xlp19_2 xlp19_3 xlp19_4 xlp19_5 xlp19_6 xlp19_7 xlp19_8 xlp19_9 xlp19_10 xlp19_11 xlp19_12 xlp19_13 xlp19_14 xlp19_15 hn ajV18 hMV18 hP hD hS hl
      have agV18 : agr [(0, 60), (0, 65), (0, 68), (0, 69), (0, 73), (0, 76), (0, 90), (0, 91), (0, 92), (0, 93), (0, 95), (0, 96), (0, 98)] [59, 61, 62, 63, 64, 66, 67, 74, 75, 77, 78, 79, 80, 94, 97] V V18 := agV.tr ajV18 (by decide) (by decide)
      have r20 : 0 ≤ ((V18 0 98)).toInt ∧ ((V18 0 98)).toInt ≤ 20000 := hMV18 0 98
      have r21 : 0 ≤ ((V18 0 93)).toInt ∧ ((V18 0 93)).toInt ≤ 10 := hMV18 0 93
      have r22 : 0 ≤ ((V18 0 60)).toInt ∧ ((V18 0 60)).toInt ≤ 300 := hMV18 0 60
      have r23 : 0 ≤ ((V18 0 65)).toInt ∧ ((V18 0 65)).toInt ≤ 1000000 := hMV18 0 65
      have r24 : 0 ≤ ((V18 0 73)).toInt ∧ ((V18 0 73)).toInt ≤ 1000000 := hMV18 0 73
      have r25 : 0 ≤ ((V18 0 95)).toInt ∧ ((V18 0 95)).toInt ≤ 300 := hMV18 0 95
      have r26 : 0 ≤ ((V18 0 69)).toInt ∧ ((V18 0 69)).toInt ≤ 3000 := hMV18 0 69
      have r27 : 0 ≤ ((V18 0 76)).toInt ∧ ((V18 0 76)).toInt ≤ 2000000000 := hMV18 0 76
      refine lv_iload hx hb dX12_failings_27 (lv_at hl 0 rfl) ?_
      refine lv_if_lt (tgt := 107) hx hb dX12_failings_29 (by decide) (fun c28 => ?_) (fun c28 => ?_)
      · skip
        have f29 : y17.toInt < 0 := b_lt rfl (by decide) c28
        rcases xlp19_15 with ⟨fe1, fh1⟩ | ⟨i8, t8, k8, a8, fe1, fe2, fe3, fh1⟩
        · skip
          have fn9 : fB (bW gB) (isF gB 3 gc.toNat gme.toNat) (wN gB) = none := fB_n ln9.2 (by (first | exact om_da89aa6607f0 ln9.1 | omega)) (by rw [← ln9.1, List.take_length]; omega)
          have r30 : 0 ≤ (V18 0 65).toInt := (hMV18 0 65).1
          have r31 : (V18 0 60).toInt ≤ 300 := (hMV18 0 60).2
          have r32 : 0 ≤ (V18 0 93).toInt ∧ (V18 0 93).toInt ≤ 10 := hMV18 0 93
          have ht33 : TRs gB (mV V 2 gt gu, ga, Fcall1 glv go gc gsc gme :: gr) (mV V18 2 gt gu, ga, gr) := TRs.st fh1 (SF.mk (show gr.length ≤ 394 from by (first | exact om_bd76c262a33d hl9 r7.2 | omega)) (show 0 + (totP gr) ≤ 2000 from by (first | exact om_e04f24ca9d07 hp9 r7.2 | omega)) (show 0 ≤ (V18 0 65).toInt ∧ (V18 0 65).toInt ≤ 300 from by (first | exact om_65732a9e84ef n1 xlp19_4 r22.2 r23.1 | omega)) (fun _ => ⟨by show 0 ≤ gt; (first | exact om_eafa9039069c zb9.1 | omega), by show gt ≤ 10000; (first | exact om_dc1804636fbd zb9.2 r7.1 | omega)⟩) trivial) ((st_6y rfl).trans ((rs_n fn9).trans mV_fail))
          refine lv_aload_n hx hb dX12_failings_107 rfl (lv_at hl 4 rfl) ?_
          refine lv_iload hx hb dX12_failings_108 (lv_at hl 3 rfl) ?_
          refine va_put (D := D) (ci := 12) (v := .int (V 0 90)) (ty := tyX12 90) (C := RX12) (T := TX12) (N := 100) hx hb hg inX12 tyX12 tyX12_ok nmX12 hown hK hP hD hS 0 rfl rfl 90 (by decide) (hg _ w1796) (fun _ h9 => h9) rfl (tyX12_ok 90 (by decide)) rfl rfl (Nat.le_of_ble_eq_true rfl) dX12_failings_110 (fun H locs hP hD hS => ?_)
          obtain ⟨V34, hV34⟩ : ∃ z, z = up2 V18 0 90 (V 0 90) := ⟨_, rfl⟩
          have hP : va_P D vwCl (mw ad kk ks.1 V34 L) H := by rw [hV34]; exact hP
          have hD : va_D A (mw ad kk ks.1 V34 L) := by rw [hV34]; exact hD
          have hMV34 : rgd bM V34 := hMV18.put hV34 (i_full _)
          have agV34 : agr [(0, 60), (0, 65), (0, 68), (0, 69), (0, 73), (0, 76), (0, 90), (0, 91), (0, 92), (0, 93), (0, 95), (0, 96), (0, 98)] [59, 61, 62, 63, 64, 66, 67, 74, 75, 77, 78, 79, 80, 94, 97] V V34 := agV18.up hV34 rfl
          refine lv_aload_n hx hb dX12_failings_113 rfl (lv_at hl 4 rfl) ?_
          refine lv_iload hx hb dX12_failings_114 (lv_at hl 2 rfl) ?_
          refine va_put (D := D) (ci := 12) (v := .int (V 0 91)) (ty := tyX12 91) (C := RX12) (T := TX12) (N := 100) hx hb hg inX12 tyX12 tyX12_ok nmX12 hown hK hP hD hS 0 rfl rfl 91 (by decide) (hg _ w1797) (fun _ h9 => h9) rfl (tyX12_ok 91 (by decide)) rfl rfl (Nat.le_of_ble_eq_true rfl) dX12_failings_116 (fun H locs hP hD hS => ?_)
          obtain ⟨V35, hV35⟩ : ∃ z, z = up2 V34 0 91 (V 0 91) := ⟨_, rfl⟩
          have hP : va_P D vwCl (mw ad kk ks.1 V35 L) H := by rw [hV35]; exact hP
          have hD : va_D A (mw ad kk ks.1 V35 L) := by rw [hV35]; exact hD
          have hMV35 : rgd bM V35 := hMV34.put hV35 (i_full _)
          have agV35 : agr [(0, 60), (0, 65), (0, 68), (0, 69), (0, 73), (0, 76), (0, 90), (0, 91), (0, 92), (0, 93), (0, 95), (0, 96), (0, 98)] [59, 61, 62, 63, 64, 66, 67, 74, 75, 77, 78, 79, 80, 94, 97] V V35 := agV34.up hV35 rfl
          refine lv_iconst (v := 1) hx hb dX12_failings_119 (by decide) ?_
          have pq36 : (V35 0 93).toInt = ((V18 0 93)).toInt := congrArg Int32.toInt ((up2_k hV35 (by decide)).trans (up2_k hV34 (by decide)))
          have pq37 : (V35 0 98).toInt = ((V18 0 98)).toInt := congrArg Int32.toInt ((up2_k hV35 (by decide)).trans (up2_k hV34 (by decide)))
          have pq38 : (V35 0 60).toInt = ((V18 0 60)).toInt := congrArg Int32.toInt ((up2_k hV35 (by decide)).trans (up2_k hV34 (by decide)))
          have pq39 : (V35 0 65).toInt = ((V18 0 65)).toInt := congrArg Int32.toInt ((up2_k hV35 (by decide)).trans (up2_k hV34 (by decide)))
          have pq40 : (V35 0 73).toInt = ((V18 0 73)).toInt := congrArg Int32.toInt ((up2_k hV35 (by decide)).trans (up2_k hV34 (by decide)))
          have pq41 : (V35 0 95).toInt = ((V18 0 95)).toInt := congrArg Int32.toInt ((up2_k hV35 (by decide)).trans (up2_k hV34 (by decide)))
          have pq42 : (V35 0 69).toInt = ((V18 0 69)).toInt := congrArg Int32.toInt ((up2_k hV35 (by decide)).trans (up2_k hV34 (by decide)))
          have pq43 : (V35 0 76).toInt = ((V18 0 76)).toInt := congrArg Int32.toInt ((up2_k hV35 (by decide)).trans (up2_k hV34 (by decide)))
          have rt44 : RT V35 := RT.ag xlp19_11 hMV18 (show agr [(0, 90), (0, 91)] [] V18 V35 from (agr.up (agr.up agr.rf hV34 rfl) hV35 rfl)) ⟨⟨rfl, fun _ => rfl, fun _ => rfl, fun _ => rfl, fun _ => rfl, fun _ => rfl, fun _ => rfl⟩, by decide, by decide, rfl, rfl, fun _ => rfl, fun _ => rfl, fun _ => rfl, fun _ => rfl, fun _ => rfl, fun _ => rfl⟩ (c0k.ag (show agr [(0, 90), (0, 91)] [] V18 V35 from (agr.up (agr.up agr.rf hV34 rfl) hV35 rfl)) rfl)
          have fm45 : FRM V V35 (-1) := (FRM.tr xlp19_12 (FRM.ag (show agr [(0, 90), (0, 91)] [] V18 V35 from (agr.up (agr.up agr.rf hV34 rfl) hV35 rfl)) ⟨⟨rfl, fun _ => rfl, fun _ => rfl, fun _ => rfl, fun _ => rfl, fun _ => rfl, fun _ => rfl⟩, by decide, by decide, rfl, rfl, fun _ => rfl, fun _ => rfl, fun _ => rfl, fun _ => rfl, fun _ => rfl, fun _ => rfl⟩) agV18 ⟨rfl, fun _ => rfl, fun _ => rfl, fun _ => rfl, fun _ => rfl, fun _ => rfl, fun _ => rfl⟩ (by (first | exact om_abdc88b0c8fc xlp19_8 | omega)))
          have rj46 : RJm V35 gB := RJm.ag xlp19_13 (show agr [(0, 90), (0, 91)] [] V18 V35 from (agr.up (agr.up agr.rf hV34 rfl) hV35 rfl)) (by decide)
          have pk47 : PLK V V35 (V 0 98).toInt.toNat := (PLK.tr xlp19_14 (PLK.ag (t := (V 0 98).toInt.toNat) (show agr [(0, 90), (0, 91)] [] V18 V35 from (agr.up (agr.up agr.rf hV34 rfl) hV35 rfl)) (fun _ => rfl)) (Nat.le_refl _))
          have ht48 : TRs gB (mV V 2 gt gu, ga, Fcall1 glv go gc gsc gme :: gr) (mV V35 2 gt gu, ga, gr) := by rw [mV_ag (show agr [(0, 90), (0, 91)] [] V18 V35 from (agr.up (agr.up agr.rf hV34 rfl) hV35 rfl)) (by decide)]; exact ht33
          have pq49 : (V35 0 90).toInt = ((V 0 90)).toInt := congrArg Int32.toInt ((up2_k hV35 (by decide)).trans (up2_s hV34))
          have pq50 : (V35 0 91).toInt = ((V 0 91)).toInt := congrArg Int32.toInt (up2_s hV35)
          have rp51 : DPc gB (mV V 2 gt gu, ga, Fcall1 glv go gc gsc gme :: gr) V35 gr (1) (V35 0 96) (24 * (10 - (V 0 93).toInt)) := DPc.m1 ht48 (by decide) (by (first | exact om_c7f420d57734 zt9.1 pq49 | omega)) (by (first | exact om_c7f420d57734 zt9.2 pq50 | omega)) (by (first | exact om_eafa9039069c zb9.1 | omega)) (by (first | exact om_10d209ffc00f zb9.2 | omega))
          exact W.iret (v := 1) hx hb hr (fun t ht hW => ⟨⟨1, (V35, L), rfl, ⟨hMV35, agV35, rfl, (by decide), (show (V35 0 93).toInt = (V 0 93).toInt from by (first | exact om_cd7d0a6a31bc xlp19_1 pq36 | omega)), (show (V35 0 98).toInt = (V 0 98).toInt from by (first | exact om_cd7d0a6a31bc xlp19_0 pq37 | omega)), (show (V 0 60).toInt ≤ (V35 0 60).toInt from by (first | exact om_a40cdd94799e xlp19_2 pq38 | omega)), (show (V 0 65).toInt ≤ (V35 0 65).toInt from by (first | exact om_a40cdd94799e xlp19_3 pq39 | omega)), (show (V35 0 65).toInt - (V 0 65).toInt ≤ (V35 0 60).toInt - (V 0 60).toInt from by (first | exact om_953d7b5213d2 xlp19_4 pq38 pq39 | omega)), (show (V35 0 73).toInt + (V35 0 95).toInt - (V35 0 65).toInt ≤ (V 0 73).toInt + (V 0 95).toInt - (V 0 65).toInt from by (first | exact om_6ca81d59f1e2 xlp19_5 pq39 pq40 pq41 | omega)), (show (V 0 73).toInt ≤ (V35 0 73).toInt from by (first | exact om_a40cdd94799e xlp19_6 pq40 | omega)), (show (V 0 69).toInt ≤ (V35 0 69).toInt from by (first | exact om_a40cdd94799e xlp19_7 pq42 | omega)), (show (V35 0 95).toInt = (V 0 95).toInt from by (first | exact om_cd7d0a6a31bc xlp19_8 pq41 | omega)), (show (V35 0 76).toInt - (V35 0 69).toInt - (V35 0 73).toInt ≤ (V 0 76).toInt - (V 0 69).toInt - (V 0 73).toInt + 1 from by (first | exact om_dfb90ddd44a9 xlp19_9 pq40 pq42 pq43 | omega)), (Imp.mk (fun _ => (show (V35 0 76).toInt - (V35 0 69).toInt - (V35 0 73).toInt ≤ (V 0 76).toInt - (V 0 69).toInt - (V 0 73).toInt from by (first | exact om_1c624bf9a5f6 xlp19_9 pq40 pq42 pq43 | omega)))), rt44, fm45, rj46, pk47, rp51⟩, by rw [ht]; exact hP, va_K.moved hW.alike hK, hD⟩, hS.F ht⟩) hS.2.2 dX12_failings_120
        · skip
          have fn9 : fB (bW gB) (isF gB 3 gc.toNat gme.toNat) i8 = none := fB_n ln9.2 fe2 (by omega)
          have r52 : 0 ≤ (V18 0 65).toInt := (hMV18 0 65).1
          have r53 : (V18 0 60).toInt ≤ 300 := (hMV18 0 60).2
          have r54 : 0 ≤ (V18 0 93).toInt ∧ (V18 0 93).toInt ≤ 10 := hMV18 0 93
          have ht55 : TRs gB (mV V 2 gt gu, ga, Fcall1 glv go gc gsc gme :: gr) (mV V18 2 gt gu, a8, gr) := TRs.st fh1 (SF.mk (show gr.length ≤ 394 from by (first | exact om_bd76c262a33d hl9 r7.2 | omega)) (show 0 + (totP gr) ≤ 2000 from by (first | exact om_e04f24ca9d07 hp9 r7.2 | omega)) (show 0 ≤ (V18 0 65).toInt ∧ (V18 0 65).toInt ≤ 300 from by (first | exact om_65732a9e84ef n1 xlp19_4 r22.2 r23.1 | omega)) (fun _ => ⟨by show 0 ≤ t8; omega, by show t8 ≤ 10000; omega⟩) trivial) ((st_7y rfl).trans ((rs_n fn9).trans mV_fail))
          refine lv_aload_n hx hb dX12_failings_107 rfl (lv_at hl 4 rfl) ?_
          refine lv_iload hx hb dX12_failings_108 (lv_at hl 3 rfl) ?_
          refine va_put (D := D) (ci := 12) (v := .int (V 0 90)) (ty := tyX12 90) (C := RX12) (T := TX12) (N := 100) hx hb hg inX12 tyX12 tyX12_ok nmX12 hown hK hP hD hS 0 rfl rfl 90 (by decide) (hg _ w1796) (fun _ h9 => h9) rfl (tyX12_ok 90 (by decide)) rfl rfl (Nat.le_of_ble_eq_true rfl) dX12_failings_110 (fun H locs hP hD hS => ?_)
          obtain ⟨V56, hV56⟩ : ∃ z, z = up2 V18 0 90 (V 0 90) := ⟨_, rfl⟩
          have hP : va_P D vwCl (mw ad kk ks.1 V56 L) H := by rw [hV56]; exact hP
          have hD : va_D A (mw ad kk ks.1 V56 L) := by rw [hV56]; exact hD
          have hMV56 : rgd bM V56 := hMV18.put hV56 (i_full _)
          have agV56 : agr [(0, 60), (0, 65), (0, 68), (0, 69), (0, 73), (0, 76), (0, 90), (0, 91), (0, 92), (0, 93), (0, 95), (0, 96), (0, 98)] [59, 61, 62, 63, 64, 66, 67, 74, 75, 77, 78, 79, 80, 94, 97] V V56 := agV18.up hV56 rfl
          refine lv_aload_n hx hb dX12_failings_113 rfl (lv_at hl 4 rfl) ?_
          refine lv_iload hx hb dX12_failings_114 (lv_at hl 2 rfl) ?_
          refine va_put (D := D) (ci := 12) (v := .int (V 0 91)) (ty := tyX12 91) (C := RX12) (T := TX12) (N := 100) hx hb hg inX12 tyX12 tyX12_ok nmX12 hown hK hP hD hS 0 rfl rfl 91 (by decide) (hg _ w1797) (fun _ h9 => h9) rfl (tyX12_ok 91 (by decide)) rfl rfl (Nat.le_of_ble_eq_true rfl) dX12_failings_116 (fun H locs hP hD hS => ?_)
          obtain ⟨V57, hV57⟩ : ∃ z, z = up2 V56 0 91 (V 0 91) := ⟨_, rfl⟩
          have hP : va_P D vwCl (mw ad kk ks.1 V57 L) H := by rw [hV57]; exact hP
          have hD : va_D A (mw ad kk ks.1 V57 L) := by rw [hV57]; exact hD
          have hMV57 : rgd bM V57 := hMV56.put hV57 (i_full _)
          have agV57 : agr [(0, 60), (0, 65), (0, 68), (0, 69), (0, 73), (0, 76), (0, 90), (0, 91), (0, 92), (0, 93), (0, 95), (0, 96), (0, 98)] [59, 61, 62, 63, 64, 66, 67, 74, 75, 77, 78, 79, 80, 94, 97] V V57 := agV56.up hV57 rfl
          refine lv_iconst (v := 1) hx hb dX12_failings_119 (by decide) ?_
          have pq58 : (V57 0 93).toInt = ((V18 0 93)).toInt := congrArg Int32.toInt ((up2_k hV57 (by decide)).trans (up2_k hV56 (by decide)))
          have pq59 : (V57 0 98).toInt = ((V18 0 98)).toInt := congrArg Int32.toInt ((up2_k hV57 (by decide)).trans (up2_k hV56 (by decide)))
          have pq60 : (V57 0 60).toInt = ((V18 0 60)).toInt := congrArg Int32.toInt ((up2_k hV57 (by decide)).trans (up2_k hV56 (by decide)))
          have pq61 : (V57 0 65).toInt = ((V18 0 65)).toInt := congrArg Int32.toInt ((up2_k hV57 (by decide)).trans (up2_k hV56 (by decide)))
          have pq62 : (V57 0 73).toInt = ((V18 0 73)).toInt := congrArg Int32.toInt ((up2_k hV57 (by decide)).trans (up2_k hV56 (by decide)))
          have pq63 : (V57 0 95).toInt = ((V18 0 95)).toInt := congrArg Int32.toInt ((up2_k hV57 (by decide)).trans (up2_k hV56 (by decide)))
          have pq64 : (V57 0 69).toInt = ((V18 0 69)).toInt := congrArg Int32.toInt ((up2_k hV57 (by decide)).trans (up2_k hV56 (by decide)))
          have pq65 : (V57 0 76).toInt = ((V18 0 76)).toInt := congrArg Int32.toInt ((up2_k hV57 (by decide)).trans (up2_k hV56 (by decide)))
          have rt66 : RT V57 := RT.ag xlp19_11 hMV18 (show agr [(0, 90), (0, 91)] [] V18 V57 from (agr.up (agr.up agr.rf hV56 rfl) hV57 rfl)) ⟨⟨rfl, fun _ => rfl, fun _ => rfl, fun _ => rfl, fun _ => rfl, fun _ => rfl, fun _ => rfl⟩, by decide, by decide, rfl, rfl, fun _ => rfl, fun _ => rfl, fun _ => rfl, fun _ => rfl, fun _ => rfl, fun _ => rfl⟩ (c0k.ag (show agr [(0, 90), (0, 91)] [] V18 V57 from (agr.up (agr.up agr.rf hV56 rfl) hV57 rfl)) rfl)
          have fm67 : FRM V V57 (-1) := (FRM.tr xlp19_12 (FRM.ag (show agr [(0, 90), (0, 91)] [] V18 V57 from (agr.up (agr.up agr.rf hV56 rfl) hV57 rfl)) ⟨⟨rfl, fun _ => rfl, fun _ => rfl, fun _ => rfl, fun _ => rfl, fun _ => rfl, fun _ => rfl⟩, by decide, by decide, rfl, rfl, fun _ => rfl, fun _ => rfl, fun _ => rfl, fun _ => rfl, fun _ => rfl, fun _ => rfl⟩) agV18 ⟨rfl, fun _ => rfl, fun _ => rfl, fun _ => rfl, fun _ => rfl, fun _ => rfl, fun _ => rfl⟩ (by (first | exact om_abdc88b0c8fc xlp19_8 | omega)))
          have rj68 : RJm V57 gB := RJm.ag xlp19_13 (show agr [(0, 90), (0, 91)] [] V18 V57 from (agr.up (agr.up agr.rf hV56 rfl) hV57 rfl)) (by decide)
          have pk69 : PLK V V57 (V 0 98).toInt.toNat := (PLK.tr xlp19_14 (PLK.ag (t := (V 0 98).toInt.toNat) (show agr [(0, 90), (0, 91)] [] V18 V57 from (agr.up (agr.up agr.rf hV56 rfl) hV57 rfl)) (fun _ => rfl)) (Nat.le_refl _))
          have ht70 : TRs gB (mV V 2 gt gu, ga, Fcall1 glv go gc gsc gme :: gr) (mV V57 2 gt gu, a8, gr) := by rw [mV_ag (show agr [(0, 90), (0, 91)] [] V18 V57 from (agr.up (agr.up agr.rf hV56 rfl) hV57 rfl)) (by decide)]; exact ht55
          have pq71 : (V57 0 90).toInt = ((V 0 90)).toInt := congrArg Int32.toInt ((up2_k hV57 (by decide)).trans (up2_s hV56))
          have pq72 : (V57 0 91).toInt = ((V 0 91)).toInt := congrArg Int32.toInt (up2_s hV57)
          have rp73 : DPc gB (mV V 2 gt gu, ga, Fcall1 glv go gc gsc gme :: gr) V57 gr (1) (V57 0 96) (24 * (10 - (V 0 93).toInt)) := DPc.m1 ht70 (by decide) (by (first | exact om_c7f420d57734 zt9.1 pq71 | omega)) (by (first | exact om_c7f420d57734 zt9.2 pq72 | omega)) (by (first | exact om_eafa9039069c zb9.1 | omega)) (by (first | exact om_10d209ffc00f zb9.2 | omega))
          exact W.iret (v := 1) hx hb hr (fun t ht hW => ⟨⟨1, (V57, L), rfl, ⟨hMV57, agV57, rfl, (by decide), (show (V57 0 93).toInt = (V 0 93).toInt from by (first | exact om_cd7d0a6a31bc xlp19_1 pq58 | omega)), (show (V57 0 98).toInt = (V 0 98).toInt from by (first | exact om_cd7d0a6a31bc xlp19_0 pq59 | omega)), (show (V 0 60).toInt ≤ (V57 0 60).toInt from by (first | exact om_a40cdd94799e xlp19_2 pq60 | omega)), (show (V 0 65).toInt ≤ (V57 0 65).toInt from by (first | exact om_a40cdd94799e xlp19_3 pq61 | omega)), (show (V57 0 65).toInt - (V 0 65).toInt ≤ (V57 0 60).toInt - (V 0 60).toInt from by (first | exact om_953d7b5213d2 xlp19_4 pq60 pq61 | omega)), (show (V57 0 73).toInt + (V57 0 95).toInt - (V57 0 65).toInt ≤ (V 0 73).toInt + (V 0 95).toInt - (V 0 65).toInt from by (first | exact om_6ca81d59f1e2 xlp19_5 pq61 pq62 pq63 | omega)), (show (V 0 73).toInt ≤ (V57 0 73).toInt from by (first | exact om_a40cdd94799e xlp19_6 pq62 | omega)), (show (V 0 69).toInt ≤ (V57 0 69).toInt from by (first | exact om_a40cdd94799e xlp19_7 pq64 | omega)), (show (V57 0 95).toInt = (V 0 95).toInt from by (first | exact om_cd7d0a6a31bc xlp19_8 pq63 | omega)), (show (V57 0 76).toInt - (V57 0 69).toInt - (V57 0 73).toInt ≤ (V 0 76).toInt - (V 0 69).toInt - (V 0 73).toInt + 1 from by (first | exact om_dfb90ddd44a9 xlp19_9 pq62 pq64 pq65 | omega)), (Imp.mk (fun _ => (show (V57 0 76).toInt - (V57 0 69).toInt - (V57 0 73).toInt ≤ (V 0 76).toInt - (V 0 69).toInt - (V 0 73).toInt from by (first | exact om_1c624bf9a5f6 xlp19_9 pq62 pq64 pq65 | omega)))), rt66, fm67, rj68, pk69, rp73⟩, by rw [ht]; exact hP, va_K.moved hW.alike hK, hD⟩, hS.F ht⟩) hS.2.2 dX12_failings_120
      · skip
        have f74 : 0 ≤ y17.toInt := b_nlt rfl (by decide) c28
        rcases xlp19_15 with ⟨fe1, fh1⟩ | ⟨i8, t8, k8, a8, fe1, fe2, fe3, fh1⟩
        · skip
          refine lv_aload_n hx hb dX12_failings_32 rfl (lv_at hl 4 rfl) ?_
          refine lv_iload hx hb dX12_failings_33 (lv_at hl 0 rfl) ?_
          refine lv_iload_n hx hb dX12_failings_35 rfl (lv_at hl 5 rfl) ?_
          refine lv_iload_n hx hb dX12_failings_36 rfl (lv_at hl 6 rfl) ?_
          refine lv_iconst (v := 3) hx hb dX12_failings_37 (by decide) ?_
          refine gA_int (gA_runV (As := [.int y17, .int p0, .int p1, .int 3]) (rest := []) (ci := 12) (q0 := 0) hx hb hml hown hg hP hD hK hS hA hnw hgk (s_wrapAt3 l D ks H.size ad kk V18 L y17 p0 p1 3 (gB) hMV18 (by (first | exact om_636409b958c5 rgz12.2 xlp19_10 f74 | omega)) (by (first | exact om_1e2c46ce8ef5 rg_p0.1 oq1 r2.2 | omega)) (xlp19_11).1 (BKm.ag bk (show agr [(0, 60), (0, 65), (0, 68), (0, 69), (0, 73), (0, 76), (0, 90), (0, 91), (0, 92), (0, 93), (0, 95), (0, 96), (0, 98)] [59, 61, 62, 63, 64, 66, 67, 74, 75, 77, 78, 79, 80, 94, 97] V V18 from (agr.tr agr.rf ajV18 (by decide) (by decide))) (by decide))) w2284 w2286 w140 w172 w2287 rfl rfl hdV_yX12_wrapAt ⟨(by show (1) + 1 ≤ (4 * d1 + 40 * d2 + 13); (first | exact om_adfb42eaa151 n5 r2.2 | omega)), (by show 8 + (8 + 11) + (25) ≤ (100 * d1 + 1000 * d2 + 500); (first | exact om_1ad9b6cfa593 n5 r2.2 | omega))⟩ rfl hl.1 rfl (Nat.le_of_ble_eq_true rfl) dX12_failings_38 ⟨Nat.le_of_ble_eq_true rfl, Nat.le_of_ble_eq_true rfl⟩) hP hD hK hS hA (fun z75 u76 H locs w77 hP hD hK hS => ?_)
          obtain ⟨rgz75, t78, t79⟩ := w77
          have rgz75 : (-1) ≤ z75.toInt ∧ z75.toInt ≤ 11 := rgz75
          have t78 : Imp (0 ≤ z75.toInt) (∃ i9, KPo (bW (gB)) (isWb V18 p0 p1 3) (Int32.toNatClampNeg y17) i9 ∧ (bW (gB)).getD i9 0 = Int32.toNatClampNeg z75 ∧ z75.toInt < ((wN (gB) : Nat) : Int)) := t78
          have t79 : Imp (z75.toInt = -1) (((cnP (isWb V18 p0 p1 3) (bW (gB)) : Nat) : Int) ≤ y17.toInt) := t79
          refine lv_istore (lv' := [(8, .int z75), (7, .int y17), (6, .int z12), (5, .int (V 0 91)), (4, .int (V 0 90)), (0, .ref (ad 0)), (1, .int p0), (2, .int p1), (3, .int p2)]) hx hb dX12_failings_41 hl (by decide) rfl (fun ls hl => ?_)
          have pf80 : ∀ x, x ∈ bW gB → isWb V18 p0 p1 3 x = isF gB 3 gc.toNat gme.toNat x := fun x hx => by rw [gc9, gm8]; exact isWb_F hMV18 (BKm.ag bk (show agr [(0, 60), (0, 65), (0, 68), (0, 69), (0, 73), (0, 76), (0, 90), (0, 91), (0, 92), (0, 93), (0, 95), (0, 96), (0, 98)] [59, 61, 62, 63, 64, 66, 67, 74, 75, 77, 78, 79, 80, 94, 97] V V18 from (agr.tr agr.rf ajV18 (by decide) (by decide))) (by decide)) (bW_mem hx) cn8 (by rw [(xlp19_12.2.1 (Int32.toNatClampNeg p0) (by omega)).1]) (by omega) (by decide)
          have wn : 0 ≤ z75.toInt := by
            refine Int.not_lt.mp (fun hq => ?_)
            have h9 := Imp.go t79 (by omega)
            rw [cnP_cg pf80] at h9
            omega
          obtain ⟨i9, kp9, gd9, rw9⟩ := Imp.go t78 wn
          have hw1 : isWb V18 p0 p1 3 (Int32.toNatClampNeg z75) = true := by rw [← gd9]; exact kp9.2.1
          have kw := i_clamp (x := z75) rfl wn
          have nb : 0 ≤ (V18 0 11).toInt ∧ (V18 0 11).toInt ≤ 1 := hMV18 0 11
          have kn : (nwh V18 : Int) = (V18 0 11).toInt := i_clamp (x := V18 0 11) rfl nb.1
          have wnv := BKm.wn (BKm.ag bk (show agr [(0, 60), (0, 65), (0, 68), (0, 69), (0, 73), (0, 76), (0, 90), (0, 91), (0, 92), (0, 93), (0, 95), (0, 96), (0, 98)] [59, 61, 62, 63, 64, 66, 67, 74, 75, 77, 78, 79, 80, 94, 97] V V18 from (agr.tr agr.rf ajV18 (by decide) (by decide))) (by decide))
          have wE := TB.wrapE (ar := false) (w := Int32.toNatClampNeg z75) xlp19_11.1 (by omega) hw1 (by decide)
          have wE1 := wE.1
          have wE2 := wE.2.lt
          have kf9 := KPo.cg kp9 pf80
          have kk9 := i_clamp (x := y17) rfl (by (first | exact om_eafa9039069c f74 | omega))
          have wa9 : wAt gB i9 = nL gB.1 (904 + 8 * Int32.toNatClampNeg z75) := by unfold wAt; rw [gd9]
          have wst9 := BKm.wst (BKm.ag bk (show agr [(0, 60), (0, 65), (0, 68), (0, 69), (0, 73), (0, 76), (0, 90), (0, 91), (0, 92), (0, 93), (0, 95), (0, 96), (0, 98)] [59, 61, 62, 63, 64, 66, 67, 74, 75, 77, 78, 79, 80, 94, 97] V V18 from (agr.tr agr.rf ajV18 (by decide) (by decide))) (by decide)) (w := Int32.toNatClampNeg z75) (by omega)
          have il9 := kp9.1
          have fb9 : fB (bW gB) (isF gB 3 gc.toNat gme.toNat) (wN gB) = some i9 := fB_k kf9 ln9.2 (by (first | exact om_da89aa6607f0 ln9.1 | omega)) (by rw [← ln9.1, List.take_length]; omega)
          have fc9 := fB_b fb9
          have kc9 := kf9.2.2
          have r81 : 0 ≤ (V18 0 65).toInt := (hMV18 0 65).1
          have r82 : (V18 0 60).toInt ≤ 300 := (hMV18 0 60).2
          have r83 : 0 ≤ (V18 0 93).toInt ∧ (V18 0 93).toInt ≤ 10 := hMV18 0 93
          have ht84 : TRs gB (mV V 2 gt gu, ga, Fcall1 glv go gc gsc gme :: gr) (mV V18 0 gt gu, ga, Fwork glv go gc gsc gme 0 ((wAt gB i9 : Nat) : Int) (Int32.ofInt (fst1 gt gu)) [] :: Fcall3 glv go gc gsc gme (i9 : Int) gt gu :: gr) := TRs.st fh1 (SF.mk (show gr.length ≤ 394 from by (first | exact om_bd76c262a33d hl9 r7.2 | omega)) (show 0 + (totP gr) ≤ 2000 from by (first | exact om_e04f24ca9d07 hp9 r7.2 | omega)) (show 0 ≤ (V18 0 65).toInt ∧ (V18 0 65).toInt ≤ 300 from by (first | exact om_65732a9e84ef n1 xlp19_4 r22.2 r23.1 | omega)) (fun _ => ⟨by show 0 ≤ gt; (first | exact om_eafa9039069c zb9.1 | omega), by show gt ≤ 10000; (first | exact om_dc1804636fbd zb9.2 r7.1 | omega)⟩) trivial) ((st_6y rfl).trans ((rs_y fb9).trans mV_go))
          refine lv_iload hx hb dX12_failings_43 (lv_at hl 4 rfl) ?_
          refine lv_if_le (tgt := 53) hx hb dX12_failings_45 (by decide) (fun c85 => ?_) (fun c85 => ?_)
          · skip
            have f86 : ((V 0 90)).toInt ≤ 0 := b_le rfl (by decide) c85
            refine lv_iload hx hb dX12_failings_53 (lv_at hl 3 rfl) ?_
            refine lv_istore (lv' := [(9, .int (V 0 91)), (8, .int z75), (7, .int y17), (6, .int z12), (5, .int (V 0 91)), (4, .int (V 0 90)), (0, .ref (ad 0)), (1, .int p0), (2, .int p1), (3, .int p2)]) hx hb dX12_failings_55 hl (by decide) rfl (fun ls hl => ?_)
            have na9 : Int32.ofInt (fst1 gt gu) = (V 0 91) := by unfold fst1; rw [if_neg (by omega)]; rw [show gu = (V 0 91).toInt from by omega]; exact Int32.ofInt_toInt _
            have ht87 : TRs gB (mV V 2 gt gu, ga, Fcall1 glv go gc gsc gme :: gr) (mV V18 0 gt gu, ga, Fwork glv go gc gsc gme 0 ((wAt gB i9 : Nat) : Int) (V 0 91) [] :: Fcall3 glv go gc gsc gme (i9 : Int) gt gu :: gr) := by rw [← na9]; exact ht84
            refine lv_aload_n hx hb dX12_failings_57 rfl (lv_at hl 6 rfl) ?_
            refine lv_iconst (v := 3) hx hb dX12_failings_58 (by decide) ?_
            refine lv_iload hx hb dX12_failings_59 (lv_at hl 1 rfl) ?_
            refine lv_iload hx hb dX12_failings_61 (lv_at hl 0 rfl) ?_
            refine gA_void (gA_runV (As := [.int 3, .int z75, .int (V 0 91)]) (rest := []) (ci := 12) (q0 := 0) hx hb hml hown hg hP hD hK hS hA hnw hgk (s_notes2 l D ks H.size ad kk V18 L 3 z75 (V 0 91) hMV18 (show (V18 0 76).toInt ≤ 1999999999 from by (first | exact om_bfbc4fe22ecf n1 n3 n4 r3.1 xlp19_4 xlp19_5 xlp19_8 xlp19_9 r22.2 r26.2 | omega))) w2300 w2302 w144 w172 w2303 rfl rfl hdV_yX12_notes ⟨(by show (0) + 1 ≤ (4 * d1 + 40 * d2 + 13); (first | exact om_b8f62b70be9c n5 r2.2 | omega)), (by show 8 + (4 + 11) + (0) ≤ (100 * d1 + 1000 * d2 + 500); (first | exact om_223a71cbc709 n5 r2.2 | omega))⟩ rfl hl.1 rfl (Nat.le_of_ble_eq_true rfl) dX12_failings_63 ⟨Nat.le_of_ble_eq_true rfl, Nat.le_of_ble_eq_true rfl⟩) hP hD hK hS hA (fun u89 H locs w90 hP hD hK hS => ?_)
            obtain ⟨V92, L93⟩ := u89
            obtain ⟨hMV92, ajV92, axL93, t91⟩ := w90
            have axL93 : L = L93 := Eq.symm axL93
            subst axL93
            have hP : va_P D vwCl (mw ad kk ks.1 V92 L) H := hP
            have hD : va_D A (mw ad kk ks.1 V92 L) := hD
            have hMV92 : rgd bM V92 := hMV92
            have ajV92 : agr [(0, 76)] [77, 78, 79] V18 V92 := ajV92
            have agV92 : agr [(0, 60), (0, 65), (0, 68), (0, 69), (0, 73), (0, 76), (0, 90), (0, 91), (0, 92), (0, 93), (0, 95), (0, 96), (0, 98)] [59, 61, 62, 63, 64, 66, 67, 74, 75, 77, 78, 79, 80, 94, 97] V V92 := agV18.tr ajV92 (by decide) (by decide)
            have t91 : (V92 0 76).toInt = (V18 0 76).toInt + 1 := t91
            have r94 : 0 ≤ ((V92 0 76)).toInt ∧ ((V92 0 76)).toInt ≤ 2000000000 := hMV92 0 76
            refine lv_aload_n hx hb dX12_failings_66 rfl (lv_at hl 6 rfl) ?_
            refine lv_aload_n hx hb dX12_failings_67 rfl (lv_at hl 6 rfl) ?_
            refine va_get (D := D) (ci := 12) (v := .ref (ad 44)) (C := RX12) (T := TX12) (N := 100) hx hb hg inX12 hown hK hP 0 rfl rfl 44 (by decide) (hg _ w1750) (fun _ h9 => h9) rfl dX12_failings_68 ?_
            refine lv_bipush (v := 12) hx hb dX12_failings_71 (by decide) ?_
            refine lv_aload_n hx hb dX12_failings_73 rfl (lv_at hl 6 rfl) ?_
            refine va_get (D := D) (ci := 12) (v := .int (V92 0 11)) (C := RX12) (T := TX12) (N := 100) hx hb hg inX12 hown hK hP 0 rfl rfl 11 (by decide) (hg _ w1717) (fun _ h9 => h9) rfl dX12_failings_74 ?_
            refine g_top (v := (V 0 11)) ((ajV92 0 11 rfl).trans (ajV18 0 11 rfl)) ?_
            have r95 : 0 ≤ ((V 0 11)).toInt ∧ ((V 0 11)).toInt ≤ 1 := hMV 0 11
            refine lv_imul hx hb dX12_failings_77 ?_
            refine lv_topi (fun z96 ez96 => ?_)
            have hz96 : z96.toInt = 12 * ((V 0 11)).toInt := i_mul ez96 (by decide) rfl (by (first | exact om_630bd6ee60c3 r95.1 r95.2 | omega))
            refine lv_iload hx hb dX12_failings_78 (lv_at hl 1 rfl) ?_
            refine lv_iadd hx hb dX12_failings_80 ?_
            refine lv_topi (fun z97 ez97 => ?_)
            have hz97 : z97.toInt = z96.toInt + z75.toInt := i_add ez97 rfl rfl (by (first | exact om_2e570e10cfc7 rgz75.2 wn r95.1 r95.2 hz96 | omega))
            have pq98 : (V92 0 11).toInt = ((V 0 11)).toInt := congrArg Int32.toInt ((ajV92 0 11 rfl).trans (ajV18 0 11 rfl))
            have pq99 : (V18 0 11).toInt = ((V 0 11)).toInt := congrArg Int32.toInt (ajV18 0 11 rfl)
            have kz : Int32.toNatClampNeg z97 = 12 * nwh V18 + Int32.toNatClampNeg z75 := by have h9 := i_clamp (x := z97) rfl (by (first | exact om_7ea21d029263 wn r95.1 hz96 hz97 | omega)); omega
            have e44 : V92 44 (Int32.toNatClampNeg z97) = V18 44 (Int32.toNatClampNeg z97) := (show agr [(0, 76)] [77, 78, 79] V18 V92 from (agr.tr agr.rf ajV92 (by decide) (by decide))) 44 _ rfl
            have q44 : V18 44 (12 * nwh V18 + Int32.toNatClampNeg z75) = V18 44 (Int32.toNatClampNeg z97) := by rw [kz]
            have q44i := congrArg Int32.toInt q44
            have e44i := congrArg Int32.toInt e44
            have pq100 : (V18 44 (Int32.toNatClampNeg z97)).toInt = ((V 44 (Int32.toNatClampNeg z97))).toInt := congrArg Int32.toInt (ajV18 44 (Int32.toNatClampNeg z97) rfl)
            have pq101 : (V92 44 (Int32.toNatClampNeg z97)).toInt = ((V 44 (Int32.toNatClampNeg z97))).toInt := congrArg Int32.toInt ((ajV92 44 (Int32.toNatClampNeg z97) rfl).trans (ajV18 44 (Int32.toNatClampNeg z97) rfl))
            have q44b : V18 44 (12 * nwh V18 + Int32.toNatClampNeg z75) = V 44 (Int32.toNatClampNeg z97) := q44.trans ((show agr [(0, 60), (0, 65), (0, 68), (0, 69), (0, 73), (0, 76), (0, 90), (0, 91), (0, 92), (0, 93), (0, 95), (0, 96), (0, 98)] [59, 61, 62, 63, 64, 66, 67, 74, 75, 77, 78, 79, 80, 94, 97] V V18 from (agr.tr agr.rf ajV18 (by decide) (by decide))) 44 _ rfl)
            have nw9 : nwh V92 = nwh V18 := (nwh_ag (show agr [(0, 76)] [77, 78, 79] V18 V92 from (agr.tr agr.rf ajV92 (by decide) (by decide))) ⟨rfl, fun _ => rfl, fun _ => rfl, fun _ => rfl, fun _ => rfl, fun _ => rfl, fun _ => rfl⟩).1
            refine va_iald (D := D) (i := z97) hx hb hK hP 37 36 rfl rfl (i_in (a := z97.toInt) rfl (by (first | exact om_5a28bbe8109b rgz75.2 wn r95.1 r95.2 hz96 hz97 | omega))) dX12_failings_81 ?_
            refine g_top (v := (V 44 (Int32.toNatClampNeg z97))) ((ajV92 44 (Int32.toNatClampNeg z97) rfl).trans (ajV18 44 (Int32.toNatClampNeg z97) rfl)) ?_
            refine lv_iload_n hx hb dX12_failings_82 rfl (lv_at hl 7 rfl) ?_
            refine lv_iload_n hx hb dX12_failings_83 rfl (lv_at hl 9 rfl) ?_
            refine lv_iload hx hb dX12_failings_84 (lv_at hl 0 rfl) ?_
            refine lv_iconst (v := (-1)) hx hb dX12_failings_86 (by decide) ?_
            have ht102 : TRs gB (mV V 2 gt gu, ga, Fcall1 glv go gc gsc gme :: gr) (mV V92 0 gt gu, ga, Fwork glv go gc gsc gme 0 ((wAt gB i9 : Nat) : Int) (V 0 91) [] :: Fcall3 glv go gc gsc gme (i9 : Int) gt gu :: gr) := by rw [mV_ag (show agr [(0, 76)] [77, 78, 79] V18 V92 from (agr.tr agr.rf ajV92 (by decide) (by decide))) (by decide)]; exact ht87
            have fm104 : FRM V V92 (-1) := (FRM.tr xlp19_12 (FRM.ag (show agr [(0, 76)] [77, 78, 79] V18 V92 from (agr.tr agr.rf ajV92 (by decide) (by decide))) ⟨⟨rfl, fun _ => rfl, fun _ => rfl, fun _ => rfl, fun _ => rfl, fun _ => rfl, fun _ => rfl⟩, by decide, by decide, rfl, rfl, fun _ => rfl, fun _ => rfl, fun _ => rfl, fun _ => rfl, fun _ => rfl, fun _ => rfl⟩) agV18 ⟨rfl, fun _ => rfl, fun _ => rfl, fun _ => rfl, fun _ => rfl, fun _ => rfl, fun _ => rfl⟩ (by (first | exact om_abdc88b0c8fc xlp19_8 | omega)))
            have eo103 : (V92 61 (Int32.toNatClampNeg p0)).toInt = (V 61 (Int32.toNatClampNeg p0)).toInt := congrArg Int32.toInt ((fm104).2.1 (Int32.toNatClampNeg p0) (by have h9 := i_clamp (x := p0) rfl (by (first | exact om_eafa9039069c rg_p0.1 | omega)); omega)).1
            have lg105 : (Fcall3 glv go gc gsc gme (i9 : Int) gt gu :: gr).length = gr.length + 1 := rfl
            have lg106 : totP (Fcall3 glv go gc gsc gme (i9 : Int) gt gu :: gr) = 0 + (totP gr) := rfl
            have oq8 : ∃ q9, OQ gB (ndW gB gc 0) (decide ((0 : Int) < 0)) (wAt gB i9) 0 q9 := ⟨0, wfW0 br.1 fc9.2.2.2 fc9.2.2.1 (by decide)⟩
            have r107 : Int32.toInt (-1) = (-1) := by decide
            have pq108 : (V92 0 65).toInt = ((V18 0 65)).toInt := congrArg Int32.toInt (ajV92 0 65 rfl)
            have pq109 : (V92 0 60).toInt = ((V18 0 60)).toInt := congrArg Int32.toInt (ajV92 0 60 rfl)
            have pq110 : (V92 0 95).toInt = ((V18 0 95)).toInt := congrArg Int32.toInt (ajV92 0 95 rfl)
            have pq111 : (V92 0 73).toInt = ((V18 0 73)).toInt := congrArg Int32.toInt (ajV92 0 73 rfl)
            have pq112 : (V92 0 69).toInt = ((V18 0 69)).toInt := congrArg Int32.toInt (ajV92 0 69 rfl)
            have pq113 : (V92 0 93).toInt = ((V18 0 93)).toInt := congrArg Int32.toInt (ajV92 0 93 rfl)
            have pq114 : (V92 0 98).toInt = ((V18 0 98)).toInt := congrArg Int32.toInt (ajV92 0 98 rfl)
            have pq115 : (V92 61 (Int32.toNatClampNeg p0)).toInt = ((V18 61 (Int32.toNatClampNeg p0))).toInt := congrArg Int32.toInt (ajV92 61 (Int32.toNatClampNeg p0) rfl)
            have r116 : 0 ≤ ((V18 61 (Int32.toNatClampNeg p0))).toInt ∧ ((V18 61 (Int32.toNatClampNeg p0))).toInt ≤ 23 := hMV18 61 (Int32.toNatClampNeg p0)
            have rt117 : RT V92 := RT.ag xlp19_11 hMV18 (show agr [(0, 76)] [77, 78, 79] V18 V92 from (agr.tr agr.rf ajV92 (by decide) (by decide))) ⟨⟨rfl, fun _ => rfl, fun _ => rfl, fun _ => rfl, fun _ => rfl, fun _ => rfl, fun _ => rfl⟩, by decide, by decide, rfl, rfl, fun _ => rfl, fun _ => rfl, fun _ => rfl, fun _ => rfl, fun _ => rfl, fun _ => rfl⟩ (c0k.ag (show agr [(0, 76)] [77, 78, 79] V18 V92 from (agr.tr agr.rf ajV92 (by decide) (by decide))) rfl)
            have rj118 : RJm V92 gB := RJm.ag xlp19_13 (show agr [(0, 76)] [77, 78, 79] V18 V92 from (agr.tr agr.rf ajV92 (by decide) (by decide))) (by decide)
            have fm119 : FRM V V92 (-1) := (FRM.tr xlp19_12 (FRM.ag (show agr [(0, 76)] [77, 78, 79] V18 V92 from (agr.tr agr.rf ajV92 (by decide) (by decide))) ⟨⟨rfl, fun _ => rfl, fun _ => rfl, fun _ => rfl, fun _ => rfl, fun _ => rfl, fun _ => rfl⟩, by decide, by decide, rfl, rfl, fun _ => rfl, fun _ => rfl, fun _ => rfl, fun _ => rfl, fun _ => rfl, fun _ => rfl⟩) agV18 ⟨rfl, fun _ => rfl, fun _ => rfl, fun _ => rfl, fun _ => rfl, fun _ => rfl, fun _ => rfl⟩ (by (first | exact om_abdc88b0c8fc xlp19_8 | omega)))
            have cm120 : CMPo V92 gB (Int32.toNatClampNeg p0) := CMPo.fr cm9 bk fm119 (by have h9 := i_clamp (x := p0) rfl (by (first | exact om_eafa9039069c rg_p0.1 | omega)); (first | exact om_6c25244c01f7 oq1 ko9 | omega)) (RTn rt bk (by have h9 := i_clamp (x := p0) rfl (by (first | exact om_eafa9039069c rg_p0.1 | omega)); omega))
            refine gA_int (gA_runV (As := [.int (V 44 (Int32.toNatClampNeg z97)), .int p0, .int p2, .int (V 0 91), .int (-1)]) (rest := []) (ci := 12) (q0 := 0) hx hb hml hown hg hP hD hK hS hA hnw hgk (hk_s_worksD H.size ad kk V92 L (V 44 (Int32.toNatClampNeg z97)) p0 p2 (V 0 91) (-1) (gB) (grk) (Fcall3 glv go gc gsc gme (i9 : Int) gt gu :: gr) (ga) (0) (gt) (gu) (glv) (go) (gc) (gsc) (gme) (0) (10000 * nwh V18) (10000 * nwh V18 + 10000) ((wAt gB i9)) hMV92 (by omega) (by (first | exact om_1e2c46ce8ef5 rg_p0.1 oq1 r2.2 | omega)) (by (first | exact om_13ba01c174fe rg_p2.1 rg_p2.2 | omega)) rt117 (show (V92 0 65).toInt ≤ (V92 0 60).toInt from by (first | exact om_cebe9a256b98 n1 xlp19_4 pq108 pq109 | omega)) (show (V92 0 95).toInt ≤ (V92 0 65).toInt from by (first | exact om_193d16bbc0e3 n2 xlp19_3 xlp19_8 pq108 pq110 | omega)) (show (V92 0 73).toInt + (V92 0 95).toInt - (V92 0 65).toInt ≤ 999000 from by (first | exact om_ec3a52bb0c7c n3 xlp19_5 pq108 pq110 pq111 | omega)) (show (V92 0 76).toInt - (V92 0 69).toInt - (V92 0 73).toInt ≤ 1000000001 from by (first | exact om_0e318805f41c n4 xlp19_9 t91 pq111 pq112 | omega)) (show 300 - (V92 0 60).toInt ≤ ((d1 : Nat) : Int) from by (first | exact om_3013ce33764f n5 xlp19_2 pq109 | omega)) (show 10 - (V92 0 93).toInt ≤ ((d2 : Nat) : Int) from by (first | exact om_1ce157d38d46 n6 xlp19_1 pq113 | omega)) (BKm.ag bk (show agr [(0, 60), (0, 65), (0, 68), (0, 69), (0, 73), (0, 76), (0, 90), (0, 91), (0, 92), (0, 93), (0, 95), (0, 96), (0, 98)] [59, 61, 62, 63, 64, 66, 67, 74, 75, 77, 78, 79, 80, 94, 97] V V92 from (agr.tr (agr.tr agr.rf ajV18 (by decide) (by decide)) ajV92 (by decide) (by decide))) (by decide)) br rj118 (fun h9 => absurd h9 (by decide)) (show (((Fcall3 glv go gc gsc gme (i9 : Int) gt gu :: gr).length : Nat) : Int) ≤ 28 * (V92 0 93).toInt + 26 from by (first | exact om_b3def4d72315 hl9 xlp19_1 lg105 pq113 | omega)) (show ((totP (Fcall3 glv go gc gsc gme (i9 : Int) gt gu :: gr) : Nat) : Int) ≤ 84 * (V92 0 93).toInt + 56 from by (first | exact om_756680afaca1 hp9 xlp19_1 lg106 pq113 | omega)) (show p0.toInt < (V92 0 60).toInt from by (first | exact om_abb00e6ed28d oq1 xlp19_2 pq109 | omega)) (show (V92 0 98).toInt + 400 * ((d2 : Nat) : Int) + 30 ≤ 19000 from by (first | exact om_2740c7d8a110 n7 xlp19_0 pq114 | omega)) (CE.same (show CE 0 false V18 (10000 * nwh V18) (10000 * nwh V18 + 10000) (V 44 (Int32.toNatClampNeg z97)).toInt.toNat from q44b ▸ wE.2) (Int.le_refl _) (Nat.le_refl _) (fun i _ _ => ⟨(show agr [(0, 76)] [77, 78, 79] V18 V92 from (agr.tr agr.rf ajV92 (by decide) (by decide))) 45 _ rfl, (show agr [(0, 76)] [77, 78, 79] V18 V92 from (agr.tr agr.rf ajV92 (by decide) (by decide))) 46 _ rfl, (show agr [(0, 76)] [77, 78, 79] V18 V92 from (agr.tr agr.rf ajV92 (by decide) (by decide))) 47 _ rfl⟩)) (show ((10000 * nwh V18 + 10000) : Int) ≤ 20000 from by (first | exact om_7dcbc42c1fac nb.2 kn | omega)) (hMV92 27 _).1 (show ((10000 * nwh V18) : Int) = 10000 * ((nwh V92 : Nat) : Int) from by (first | exact om_e39273519f2d nw9 | omega)) (show ((V 44 (Int32.toNatClampNeg z97))).toInt = ((10000 * nwh V92 + ((wAt gB i9)) : Nat) : Int) from by omega) oq8 (show (V92 0 93).toInt = (glv) from by (first | exact om_a0c405496c73 zl9 xlp19_1 pq113 | omega)) (show p0.toInt = (go) from by (first | exact om_570b691c1130 zo9 | omega)) (show (V92 61 (Int32.toNatClampNeg p0)).toInt = (gc) from by (first | exact om_cd7d0a6a31bc zc9 eo103 | omega)) (show p2.toInt = (gsc) from by (first | exact om_570b691c1130 zs9 | omega)) cm120) w2268 w2270 w136 w172 w2271 rfl rfl hdV_yX12_works ⟨(by show (4 * (d1) + 40 * (d2) + 12) + 1 ≤ (4 * d1 + 40 * d2 + 13); (first | exact om_2f192a0d189d | omega)), (by show 8 + (6 + 11) + (100 * (d1) + 1000 * (d2) + 460) ≤ (100 * d1 + 1000 * d2 + 500); (first | exact om_65a772b3cf36 | omega))⟩ rfl hl.1 rfl (Nat.le_of_ble_eq_true rfl) dX12_failings_87 ⟨Nat.le_of_ble_eq_true rfl, Nat.le_of_ble_eq_true rfl⟩) hP hD hK hS hA (fun z121 u122 H locs w123 hP hD hK hS => ?_)
            obtain ⟨V140, L141⟩ := u122
            obtain ⟨hMV140, ajV140, axL141, rgz121, t124, t125, t126, t127, t128, t129, t130, t131, t132, t133, t134, t135, t136, t137, t138, t139⟩ := w123
            have axL141 : L = L141 := Eq.symm axL141
            subst axL141
            have hP : va_P D vwCl (mw ad kk ks.1 V140 L) H := hP
            have hD : va_D A (mw ad kk ks.1 V140 L) := hD
            have hMV140 : rgd bM V140 := hMV140
            have ajV140 : agr [(0, 60), (0, 65), (0, 68), (0, 69), (0, 73), (0, 76), (0, 90), (0, 91), (0, 92), (0, 93), (0, 95), (0, 96), (0, 98)] [59, 61, 62, 63, 64, 66, 67, 74, 75, 77, 78, 79, 80, 94, 97] V92 V140 := ajV140
            have agV140 : agr [(0, 60), (0, 65), (0, 68), (0, 69), (0, 73), (0, 76), (0, 90), (0, 91), (0, 92), (0, 93), (0, 95), (0, 96), (0, 98)] [59, 61, 62, 63, 64, 66, 67, 74, 75, 77, 78, 79, 80, 94, 97] V V140 := agV92.tr ajV140 (by decide) (by decide)
            have rgz121 : 0 ≤ z121.toInt ∧ z121.toInt ≤ 2 := rgz121
            have t124 : (V140 0 93).toInt = (V92 0 93).toInt := t124
            have t125 : (V140 0 98).toInt = (V92 0 98).toInt := t125
            have t126 : (V92 0 60).toInt ≤ (V140 0 60).toInt := t126
            have t127 : (V92 0 65).toInt ≤ (V140 0 65).toInt := t127
            have t128 : (V140 0 65).toInt - (V92 0 65).toInt ≤ (V140 0 60).toInt - (V92 0 60).toInt := t128
            have t129 : (V140 0 73).toInt + (V140 0 95).toInt - (V140 0 65).toInt ≤ (V92 0 73).toInt + (V92 0 95).toInt - (V92 0 65).toInt := t129
            have t130 : (V92 0 73).toInt ≤ (V140 0 73).toInt := t130
            have t131 : (V92 0 69).toInt ≤ (V140 0 69).toInt := t131
            have t132 : (V140 0 95).toInt = (V92 0 95).toInt := t132
            have t133 : (V140 0 76).toInt - (V140 0 69).toInt - (V140 0 73).toInt ≤ (V92 0 76).toInt - (V92 0 69).toInt - (V92 0 73).toInt := t133
            have t134 : Imp (z121.toInt ≠ 2) ((V140 0 76).toInt - (V140 0 69).toInt - (V140 0 73).toInt + 1 ≤ (V92 0 76).toInt - (V92 0 69).toInt - (V92 0 73).toInt) := t134
            have t135 : RT V140 := t135
            have t136 : FRM V92 V140 (-1) := t136
            have t137 : RJm V140 (gB) := t137
            have t138 : PLK V92 V140 (V92 0 98).toInt.toNat := t138
            have t139 : DPc (gB) (mV V92 0 (gt) (gu), (ga), Fwork (glv) (go) (gc) (gsc) (gme) 0 ((((wAt gB i9)) : Nat) : Int) (V 0 91) [] :: (Fcall3 glv go gc gsc gme (i9 : Int) gt gu :: gr)) V140 (Fcall3 glv go gc gsc gme (i9 : Int) gt gu :: gr) z121.toInt (V140 0 96) (24 * (10 - (V92 0 93).toInt)) := t139
            have r142 : 0 ≤ ((V140 0 93)).toInt ∧ ((V140 0 93)).toInt ≤ 10 := hMV140 0 93
            have r143 : 0 ≤ ((V140 0 98)).toInt ∧ ((V140 0 98)).toInt ≤ 20000 := hMV140 0 98
            have r144 : 0 ≤ ((V140 0 60)).toInt ∧ ((V140 0 60)).toInt ≤ 300 := hMV140 0 60
            have r145 : 0 ≤ ((V140 0 65)).toInt ∧ ((V140 0 65)).toInt ≤ 1000000 := hMV140 0 65
            have r146 : 0 ≤ ((V140 0 73)).toInt ∧ ((V140 0 73)).toInt ≤ 1000000 := hMV140 0 73
            have r147 : 0 ≤ ((V140 0 95)).toInt ∧ ((V140 0 95)).toInt ≤ 300 := hMV140 0 95
            have r148 : 0 ≤ ((V140 0 69)).toInt ∧ ((V140 0 69)).toInt ≤ 3000 := hMV140 0 69
            have r149 : 0 ≤ ((V140 0 76)).toInt ∧ ((V140 0 76)).toInt ≤ 2000000000 := hMV140 0 76
            refine lv_istore (lv' := [(10, .int z121), (9, .int (V 0 91)), (8, .int z75), (7, .int y17), (6, .int z12), (5, .int (V 0 91)), (4, .int (V 0 90)), (0, .ref (ad 0)), (1, .int p0), (2, .int p1), (3, .int p2)]) hx hb dX12_failings_90 hl (by decide) rfl (fun ls hl => ?_)
            have dp150 := t139
            rcases (show z121.toInt = 0 ∨ z121.toInt = 1 ∨ z121.toInt = 2 from by (first | exact om_e837ad917e1d rgz121.1 rgz121.2 | omega)) with q151 | q151 | q151
            · skip
              obtain ⟨mt154, mk155, ht152⟩ := dp150.e0 q151
              have ht156 : TRs gB (mV V 2 gt gu, ga, Fcall1 glv go gc gsc gme :: gr) (mV V140 1 mt154 mk155, ((V140 0 96)), Fcall3 glv go gc gsc gme (i9 : Int) gt gu :: gr) := TRs.tr ht102 ht152
              have r157 : 0 ≤ (V140 0 65).toInt := (hMV140 0 65).1
              have r158 : (V140 0 60).toInt ≤ 300 := (hMV140 0 60).2
              have r159 : 0 ≤ (V140 0 93).toInt ∧ (V140 0 93).toInt ≤ 10 := hMV140 0 93
              have ht160 : TRs gB (mV V 2 gt gu, ga, Fcall1 glv go gc gsc gme :: gr) (mV V140 1 mt154 mk155, ((V140 0 96)), gr) := TRs.st ht156 (SF.mk (show gr.length ≤ 394 from by (first | exact om_bd76c262a33d hl9 r7.2 | omega)) (show 0 + (totP gr) ≤ 2000 from by (first | exact om_e04f24ca9d07 hp9 r7.2 | omega)) (show 0 ≤ (V140 0 65).toInt ∧ (V140 0 65).toInt ≤ 300 from by (first | exact om_810da67e2db8 n1 xlp19_4 pq108 pq109 t128 r144.2 r145.1 | omega)) (fun h9 => absurd (show (1 : Int) = 2 from h9) (by decide)) trivial) (st_7n (show ¬ (1 : Int) = 2 by decide))
              refine lv_iload hx hb dX12_failings_92 (lv_at hl 0 rfl) ?_
              refine lv_iconst (v := 1) hx hb dX12_failings_94 (by decide) ?_
              refine lv_icmp_eq (tgt := 101) hx hb dX12_failings_95 (by decide) (fun c161 => ?_) (fun c161 => ?_)
              · skip
                have f162 : z121.toInt = 1 := b_eq rfl (by decide) c161
                exfalso; first | exact om_4c701f2d8c50 q151 f162 | first | omega | ((try (have i_t134 := Imp.go t134 (by omega))); omega)
              · skip
                have f163 : z121.toInt ≠ 1 := b_neq rfl (by decide) c161
                refine lv_iload hx hb dX12_failings_98 (lv_at hl 0 rfl) ?_
                have fm164 : FRM V V92 (-1) := (FRM.tr xlp19_12 (FRM.ag (show agr [(0, 76)] [77, 78, 79] V18 V92 from (agr.tr agr.rf ajV92 (by decide) (by decide))) ⟨⟨rfl, fun _ => rfl, fun _ => rfl, fun _ => rfl, fun _ => rfl, fun _ => rfl, fun _ => rfl⟩, by decide, by decide, rfl, rfl, fun _ => rfl, fun _ => rfl, fun _ => rfl, fun _ => rfl, fun _ => rfl, fun _ => rfl⟩) agV18 ⟨rfl, fun _ => rfl, fun _ => rfl, fun _ => rfl, fun _ => rfl, fun _ => rfl, fun _ => rfl⟩ (by (first | exact om_abdc88b0c8fc xlp19_8 | omega)))
                have fm165 : FRM V V140 (-1) := (FRM.tr fm164 t136 agV92 ⟨rfl, fun _ => rfl, fun _ => rfl, fun _ => rfl, fun _ => rfl, fun _ => rfl, fun _ => rfl⟩ (by (first | exact om_4052a1005a1f xlp19_8 pq110 | omega)))
                have pk166 : PLK V V92 (V 0 98).toInt.toNat := (PLK.tr xlp19_14 (PLK.ag (t := (V 0 98).toInt.toNat) (show agr [(0, 76)] [77, 78, 79] V18 V92 from (agr.tr agr.rf ajV92 (by decide) (by decide))) (fun _ => rfl)) (Nat.le_refl _))
                have pk167 : PLK V V140 (V 0 98).toInt.toNat := (PLK.tr pk166 t138 (by (first | exact om_c8124caa8f7e r8.1 xlp19_0 pq114 | omega)))
                have rp168 : DPc gB (mV V 2 gt gu, ga, Fcall1 glv go gc gsc gme :: gr) V140 gr (z121.toInt) (V140 0 96) (24 * (10 - (V 0 93).toInt)) := DPc.m0 ht160 (by (first | exact om_b1799fcf2d63 rgz121.1 q151 | omega))
                exact W.iret (v := z121) hx hb hr (fun t ht hW => ⟨⟨z121, (V140, L), rfl, ⟨hMV140, agV140, rfl, (show 0 ≤ z121.toInt ∧ z121.toInt ≤ 2 from by first | exact om_8c285ac91b81 rgz121.1 rgz121.2 | first | omega | ((try (have i_t134 := Imp.go t134 (by omega))); omega)), (show (V140 0 93).toInt = (V 0 93).toInt from by first | exact om_a0c405496c73 xlp19_1 pq113 t124 | first | omega | ((try (have i_t134 := Imp.go t134 (by omega))); omega)), (show (V140 0 98).toInt = (V 0 98).toInt from by first | exact om_a0c405496c73 xlp19_0 pq114 t125 | first | omega | ((try (have i_t134 := Imp.go t134 (by omega))); omega)), (show (V 0 60).toInt ≤ (V140 0 60).toInt from by first | exact om_860317e29598 xlp19_2 pq109 t126 | first | omega | ((try (have i_t134 := Imp.go t134 (by omega))); omega)), (show (V 0 65).toInt ≤ (V140 0 65).toInt from by first | exact om_860317e29598 xlp19_3 pq108 t127 | first | omega | ((try (have i_t134 := Imp.go t134 (by omega))); omega)), (show (V140 0 65).toInt - (V 0 65).toInt ≤ (V140 0 60).toInt - (V 0 60).toInt from by first | exact om_7a7d927724fb xlp19_4 pq108 pq109 t128 | first | omega | ((try (have i_t134 := Imp.go t134 (by omega))); omega)), (show (V140 0 73).toInt + (V140 0 95).toInt - (V140 0 65).toInt ≤ (V 0 73).toInt + (V 0 95).toInt - (V 0 65).toInt from by first | exact om_a90075b28fa2 xlp19_5 pq108 pq110 pq111 t129 | first | omega | ((try (have i_t134 := Imp.go t134 (by omega))); omega)), (show (V 0 73).toInt ≤ (V140 0 73).toInt from by first | exact om_860317e29598 xlp19_6 pq111 t130 | first | omega | ((try (have i_t134 := Imp.go t134 (by omega))); omega)), (show (V 0 69).toInt ≤ (V140 0 69).toInt from by first | exact om_860317e29598 xlp19_7 pq112 t131 | first | omega | ((try (have i_t134 := Imp.go t134 (by omega))); omega)), (show (V140 0 95).toInt = (V 0 95).toInt from by first | exact om_a0c405496c73 xlp19_8 pq110 t132 | first | omega | ((try (have i_t134 := Imp.go t134 (by omega))); omega)), (show (V140 0 76).toInt - (V140 0 69).toInt - (V140 0 73).toInt ≤ (V 0 76).toInt - (V 0 69).toInt - (V 0 73).toInt + 1 from by first | exact om_872d4b6e7e86 xlp19_9 t91 pq111 pq112 t133 | first | omega | ((try (have i_t134 := Imp.go t134 (by omega))); omega)), (Imp.mk (fun hp => have hp : z121.toInt ≠ 2 := hp; (show (V140 0 76).toInt - (V140 0 69).toInt - (V140 0 73).toInt ≤ (V 0 76).toInt - (V 0 69).toInt - (V 0 73).toInt from by first | exact om_c8ebd92074a9 xlp19_9 t91 pq111 pq112 ((Imp.go t134 (hp))) | first | omega | ((try (have i_t134 := Imp.go t134 (by omega))); omega)))), t135, fm165, t137, pk167, rp168⟩, by rw [ht]; exact hP, va_K.moved hW.alike hK, hD⟩, hS.F ht⟩) hS.2.2 dX12_failings_100
            · skip
              obtain ⟨bd173, ma170, ht169⟩ := dp150.e1 q151
              have ht174 : TRs gB (mV V 2 gt gu, ga, Fcall1 glv go gc gsc gme :: gr) (mV V140 2 (V140 0 90).toInt (V140 0 91).toInt, ma170, Fcall3 glv go gc gsc gme (i9 : Int) gt gu :: gr) := TRs.tr ht102 ht169
              refine lv_iload hx hb dX12_failings_92 (lv_at hl 0 rfl) ?_
              refine lv_iconst (v := 1) hx hb dX12_failings_94 (by decide) ?_
              refine lv_icmp_eq (tgt := 101) hx hb dX12_failings_95 (by decide) (fun c175 => ?_) (fun c175 => ?_)
              · skip
                have f176 : z121.toInt = 1 := b_eq rfl (by decide) c175
                obtain ⟨z177, ez177⟩ : ∃ y : Int32, y = y17 + (-1) := ⟨_, rfl⟩
                have hz177 : z177.toInt = y17.toInt + (-1) := i_add ez177 rfl (by decide) (by (first | exact om_8644478ce7aa rgz12.2 xlp19_10 f74 | omega))
                refine lv_iinc (v := z177) (lv' := [(7, .int z177), (10, .int z121), (9, .int (V 0 91)), (8, .int z75), (6, .int z12), (5, .int (V 0 91)), (4, .int (V 0 90)), (0, .ref (ad 0)), (1, .int p0), (2, .int p1), (3, .int p2)]) hx hb dX12_failings_101 hl (k := 3) rfl (by rw [ez177]; rfl) (by decide) rfl (fun ls hl => ?_)
                refine lv_goto (tgt := 27) hx hb dX12_failings_104 (by decide) ?_
                have fm178 : FRM V V92 (-1) := (FRM.tr xlp19_12 (FRM.ag (show agr [(0, 76)] [77, 78, 79] V18 V92 from (agr.tr agr.rf ajV92 (by decide) (by decide))) ⟨⟨rfl, fun _ => rfl, fun _ => rfl, fun _ => rfl, fun _ => rfl, fun _ => rfl, fun _ => rfl⟩, by decide, by decide, rfl, rfl, fun _ => rfl, fun _ => rfl, fun _ => rfl, fun _ => rfl, fun _ => rfl, fun _ => rfl⟩) agV18 ⟨rfl, fun _ => rfl, fun _ => rfl, fun _ => rfl, fun _ => rfl, fun _ => rfl, fun _ => rfl⟩ (by (first | exact om_abdc88b0c8fc xlp19_8 | omega)))
                have fm179 : FRM V V140 (-1) := (FRM.tr fm178 t136 agV92 ⟨rfl, fun _ => rfl, fun _ => rfl, fun _ => rfl, fun _ => rfl, fun _ => rfl, fun _ => rfl⟩ (by (first | exact om_4052a1005a1f xlp19_8 pq110 | omega)))
                have pk180 : PLK V V92 (V 0 98).toInt.toNat := (PLK.tr xlp19_14 (PLK.ag (t := (V 0 98).toInt.toNat) (show agr [(0, 76)] [77, 78, 79] V18 V92 from (agr.tr agr.rf ajV92 (by decide) (by decide))) (fun _ => rfl)) (Nat.le_refl _))
                have pk181 : PLK V V140 (V 0 98).toInt.toNat := (PLK.tr pk180 t138 (by (first | exact om_c8124caa8f7e r8.1 xlp19_0 pq114 | omega)))
                exact ihlp19 z177 V140 H locs ls (by first | exact om_12f829fe3ab5 rgz12.2 xlp19_10 f74 hz177 | first | omega | ((try (have i_t134 := Imp.go t134 (by omega))); omega)) (show (V140 0 98).toInt = (V 0 98).toInt from by first | exact om_a0c405496c73 xlp19_0 pq114 t125 | first | omega | ((try (have i_t134 := Imp.go t134 (by omega))); omega)) (show (V140 0 93).toInt = (V 0 93).toInt from by first | exact om_a0c405496c73 xlp19_1 pq113 t124 | first | omega | ((try (have i_t134 := Imp.go t134 (by omega))); omega)) (show (V 0 60).toInt ≤ (V140 0 60).toInt from by first | exact om_860317e29598 xlp19_2 pq109 t126 | first | omega | ((try (have i_t134 := Imp.go t134 (by omega))); omega)) (show (V 0 65).toInt ≤ (V140 0 65).toInt from by first | exact om_860317e29598 xlp19_3 pq108 t127 | first | omega | ((try (have i_t134 := Imp.go t134 (by omega))); omega)) (show (V140 0 65).toInt - (V 0 65).toInt ≤ (V140 0 60).toInt - (V 0 60).toInt from by first | exact om_7a7d927724fb xlp19_4 pq108 pq109 t128 | first | omega | ((try (have i_t134 := Imp.go t134 (by omega))); omega)) (show (V140 0 73).toInt + (V140 0 95).toInt - (V140 0 65).toInt ≤ (V 0 73).toInt + (V 0 95).toInt - (V 0 65).toInt from by first | exact om_a90075b28fa2 xlp19_5 pq108 pq110 pq111 t129 | first | omega | ((try (have i_t134 := Imp.go t134 (by omega))); omega)) (show (V 0 73).toInt ≤ (V140 0 73).toInt from by first | exact om_860317e29598 xlp19_6 pq111 t130 | first | omega | ((try (have i_t134 := Imp.go t134 (by omega))); omega)) (show (V 0 69).toInt ≤ (V140 0 69).toInt from by first | exact om_860317e29598 xlp19_7 pq112 t131 | first | omega | ((try (have i_t134 := Imp.go t134 (by omega))); omega)) (show (V140 0 95).toInt = (V 0 95).toInt from by first | exact om_a0c405496c73 xlp19_8 pq110 t132 | first | omega | ((try (have i_t134 := Imp.go t134 (by omega))); omega)) (show (V140 0 76).toInt - (V140 0 69).toInt - (V140 0 73).toInt ≤ (V 0 76).toInt - (V 0 69).toInt - (V 0 73).toInt from by first | exact om_c8ebd92074a9 xlp19_9 t91 pq111 pq112 ((Imp.go t134 (om_6bba7cc50278 q151))) | first | omega | ((try (have i_t134 := Imp.go t134 (by omega))); omega)) (show z177.toInt ≤ z12.toInt - 1 from by first | exact om_892008aa65e1 xlp19_10 hz177 | first | omega | ((try (have i_t134 := Imp.go t134 (by omega))); omega)) t135 fm179 t137 pk181 (Or.inr ⟨i9, (V140 0 90).toInt, (V140 0 91).toInt, ma170, by omega, by omega, by omega, ht174⟩) (by first | exact om_2e0ce331b730 hn hz177 | first | omega | ((try (have i_t134 := Imp.go t134 (by omega))); omega)) (agr.tr (agr.tr (agr.tr agr.rf ajV18 (by decide) (by decide)) ajV92 (by decide) (by decide)) ajV140 (by decide) (by decide)) hMV140 hP hD hS (lv_sub hl [0, 4, 5, 6, 7, 8, 9, 10] rfl)
              · skip
                have f182 : z121.toInt ≠ 1 := b_neq rfl (by decide) c175
                exfalso; first | exact om_b36fcf15d462 q151 f182 | first | omega | ((try (have i_t134 := Imp.go t134 (by omega))); omega)
            · skip
              obtain ⟨ma184, mt185, mk186, ht183⟩ := dp150.e2 q151
              have ht187 : TRs gB (mV V 2 gt gu, ga, Fcall1 glv go gc gsc gme :: gr) (mV V140 3 mt185 mk186, ma184, Fcall3 glv go gc gsc gme (i9 : Int) gt gu :: gr) := TRs.tr ht102 ht183
              have r188 : 0 ≤ (V140 0 65).toInt := (hMV140 0 65).1
              have r189 : (V140 0 60).toInt ≤ 300 := (hMV140 0 60).2
              have r190 : 0 ≤ (V140 0 93).toInt ∧ (V140 0 93).toInt ≤ 10 := hMV140 0 93
              have ht191 : TRs gB (mV V 2 gt gu, ga, Fcall1 glv go gc gsc gme :: gr) (mV V140 3 mt185 mk186, ma184, gr) := TRs.st ht187 (SF.mk (show gr.length ≤ 394 from by (first | exact om_bd76c262a33d hl9 r7.2 | omega)) (show 0 + (totP gr) ≤ 2000 from by (first | exact om_e04f24ca9d07 hp9 r7.2 | omega)) (show 0 ≤ (V140 0 65).toInt ∧ (V140 0 65).toInt ≤ 300 from by (first | exact om_810da67e2db8 n1 xlp19_4 pq108 pq109 t128 r144.2 r145.1 | omega)) (fun h9 => absurd (show (3 : Int) = 2 from h9) (by decide)) trivial) (st_7n (show ¬ (3 : Int) = 2 by decide))
              refine lv_iload hx hb dX12_failings_92 (lv_at hl 0 rfl) ?_
              refine lv_iconst (v := 1) hx hb dX12_failings_94 (by decide) ?_
              refine lv_icmp_eq (tgt := 101) hx hb dX12_failings_95 (by decide) (fun c192 => ?_) (fun c192 => ?_)
              · skip
                have f193 : z121.toInt = 1 := b_eq rfl (by decide) c192
                exfalso; first | exact om_36fb4cdadc8e q151 f193 | first | omega | ((try (have i_t134 := Imp.go t134 (by omega))); omega)
              · skip
                have f194 : z121.toInt ≠ 1 := b_neq rfl (by decide) c192
                refine lv_iload hx hb dX12_failings_98 (lv_at hl 0 rfl) ?_
                have fm195 : FRM V V92 (-1) := (FRM.tr xlp19_12 (FRM.ag (show agr [(0, 76)] [77, 78, 79] V18 V92 from (agr.tr agr.rf ajV92 (by decide) (by decide))) ⟨⟨rfl, fun _ => rfl, fun _ => rfl, fun _ => rfl, fun _ => rfl, fun _ => rfl, fun _ => rfl⟩, by decide, by decide, rfl, rfl, fun _ => rfl, fun _ => rfl, fun _ => rfl, fun _ => rfl, fun _ => rfl, fun _ => rfl⟩) agV18 ⟨rfl, fun _ => rfl, fun _ => rfl, fun _ => rfl, fun _ => rfl, fun _ => rfl, fun _ => rfl⟩ (by (first | exact om_abdc88b0c8fc xlp19_8 | omega)))
                have fm196 : FRM V V140 (-1) := (FRM.tr fm195 t136 agV92 ⟨rfl, fun _ => rfl, fun _ => rfl, fun _ => rfl, fun _ => rfl, fun _ => rfl, fun _ => rfl⟩ (by (first | exact om_4052a1005a1f xlp19_8 pq110 | omega)))
                have pk197 : PLK V V92 (V 0 98).toInt.toNat := (PLK.tr xlp19_14 (PLK.ag (t := (V 0 98).toInt.toNat) (show agr [(0, 76)] [77, 78, 79] V18 V92 from (agr.tr agr.rf ajV92 (by decide) (by decide))) (fun _ => rfl)) (Nat.le_refl _))
                have pk198 : PLK V V140 (V 0 98).toInt.toNat := (PLK.tr pk197 t138 (by (first | exact om_c8124caa8f7e r8.1 xlp19_0 pq114 | omega)))
                have rp199 : DPc gB (mV V 2 gt gu, ga, Fcall1 glv go gc gsc gme :: gr) V140 gr (z121.toInt) (V140 0 96) (24 * (10 - (V 0 93).toInt)) := DPc.m2 ht191 (by (first | exact om_c6421a8055df rgz121.2 q151 | omega))
                exact W.iret (v := z121) hx hb hr (fun t ht hW => ⟨⟨z121, (V140, L), rfl, ⟨hMV140, agV140, rfl, (show 0 ≤ z121.toInt ∧ z121.toInt ≤ 2 from by first | exact om_8c285ac91b81 rgz121.1 rgz121.2 | first | omega | ((try (have i_t134 := Imp.go t134 (by omega))); omega)), (show (V140 0 93).toInt = (V 0 93).toInt from by first | exact om_a0c405496c73 xlp19_1 pq113 t124 | first | omega | ((try (have i_t134 := Imp.go t134 (by omega))); omega)), (show (V140 0 98).toInt = (V 0 98).toInt from by first | exact om_a0c405496c73 xlp19_0 pq114 t125 | first | omega | ((try (have i_t134 := Imp.go t134 (by omega))); omega)), (show (V 0 60).toInt ≤ (V140 0 60).toInt from by first | exact om_860317e29598 xlp19_2 pq109 t126 | first | omega | ((try (have i_t134 := Imp.go t134 (by omega))); omega)), (show (V 0 65).toInt ≤ (V140 0 65).toInt from by first | exact om_860317e29598 xlp19_3 pq108 t127 | first | omega | ((try (have i_t134 := Imp.go t134 (by omega))); omega)), (show (V140 0 65).toInt - (V 0 65).toInt ≤ (V140 0 60).toInt - (V 0 60).toInt from by first | exact om_7a7d927724fb xlp19_4 pq108 pq109 t128 | first | omega | ((try (have i_t134 := Imp.go t134 (by omega))); omega)), (show (V140 0 73).toInt + (V140 0 95).toInt - (V140 0 65).toInt ≤ (V 0 73).toInt + (V 0 95).toInt - (V 0 65).toInt from by first | exact om_a90075b28fa2 xlp19_5 pq108 pq110 pq111 t129 | first | omega | ((try (have i_t134 := Imp.go t134 (by omega))); omega)), (show (V 0 73).toInt ≤ (V140 0 73).toInt from by first | exact om_860317e29598 xlp19_6 pq111 t130 | first | omega | ((try (have i_t134 := Imp.go t134 (by omega))); omega)), (show (V 0 69).toInt ≤ (V140 0 69).toInt from by first | exact om_860317e29598 xlp19_7 pq112 t131 | first | omega | ((try (have i_t134 := Imp.go t134 (by omega))); omega)), (show (V140 0 95).toInt = (V 0 95).toInt from by first | exact om_a0c405496c73 xlp19_8 pq110 t132 | first | omega | ((try (have i_t134 := Imp.go t134 (by omega))); omega)), (show (V140 0 76).toInt - (V140 0 69).toInt - (V140 0 73).toInt ≤ (V 0 76).toInt - (V 0 69).toInt - (V 0 73).toInt + 1 from by first | exact om_872d4b6e7e86 xlp19_9 t91 pq111 pq112 t133 | first | omega | ((try (have i_t134 := Imp.go t134 (by omega))); omega)), (Imp.mk (fun hp => have hp : z121.toInt ≠ 2 := hp; (show (V140 0 76).toInt - (V140 0 69).toInt - (V140 0 73).toInt ≤ (V 0 76).toInt - (V 0 69).toInt - (V 0 73).toInt from by first | exact om_c8ebd92074a9 xlp19_9 t91 pq111 pq112 ((Imp.go t134 (hp))) | first | omega | ((try (have i_t134 := Imp.go t134 (by omega))); omega)))), t135, fm196, t137, pk198, rp199⟩, by rw [ht]; exact hP, va_K.moved hW.alike hK, hD⟩, hS.F ht⟩) hS.2.2 dX12_failings_100
          · skip
            have f200 : 0 < ((V 0 90)).toInt := b_nle rfl (by decide) c85
            refine lv_bipush (v := 20) hx hb dX12_failings_48 (by decide) ?_
            refine lv_goto (tgt := 55) hx hb dX12_failings_50 (by decide) ?_
            refine lv_istore (lv' := [(9, .int 20), (8, .int z75), (7, .int y17), (6, .int z12), (5, .int (V 0 91)), (4, .int (V 0 90)), (0, .ref (ad 0)), (1, .int p0), (2, .int p1), (3, .int p2)]) hx hb dX12_failings_55 hl (by decide) rfl (fun ls hl => ?_)
            have na9 : Int32.ofInt (fst1 gt gu) = 20 := by unfold fst1; rw [if_pos (by omega)]; decide
            have ht201 : TRs gB (mV V 2 gt gu, ga, Fcall1 glv go gc gsc gme :: gr) (mV V18 0 gt gu, ga, Fwork glv go gc gsc gme 0 ((wAt gB i9 : Nat) : Int) 20 [] :: Fcall3 glv go gc gsc gme (i9 : Int) gt gu :: gr) := by rw [← na9]; exact ht84
            refine lv_aload_n hx hb dX12_failings_57 rfl (lv_at hl 6 rfl) ?_
            refine lv_iconst (v := 3) hx hb dX12_failings_58 (by decide) ?_
            refine lv_iload hx hb dX12_failings_59 (lv_at hl 1 rfl) ?_
            refine lv_iload hx hb dX12_failings_61 (lv_at hl 0 rfl) ?_
            have r202 : Int32.toInt 20 = 20 := by decide
            refine gA_void (gA_runV (As := [.int 3, .int z75, .int 20]) (rest := []) (ci := 12) (q0 := 0) hx hb hml hown hg hP hD hK hS hA hnw hgk (s_notes2 l D ks H.size ad kk V18 L 3 z75 20 hMV18 (show (V18 0 76).toInt ≤ 1999999999 from by (first | exact om_bfbc4fe22ecf n1 n3 n4 r3.1 xlp19_4 xlp19_5 xlp19_8 xlp19_9 r22.2 r26.2 | omega))) w2300 w2302 w144 w172 w2303 rfl rfl hdV_yX12_notes ⟨(by show (0) + 1 ≤ (4 * d1 + 40 * d2 + 13); (first | exact om_90d315f74ba4 n5 n6 zt9.1 zb9.2 r2.2 f200 | omega)), (by show 8 + (4 + 11) + (0) ≤ (100 * d1 + 1000 * d2 + 500); (first | exact om_ee8e8d49520d n5 n6 zt9.1 zb9.2 r2.2 f200 | omega))⟩ rfl hl.1 rfl (Nat.le_of_ble_eq_true rfl) dX12_failings_63 ⟨Nat.le_of_ble_eq_true rfl, Nat.le_of_ble_eq_true rfl⟩) hP hD hK hS hA (fun u204 H locs w205 hP hD hK hS => ?_)
            obtain ⟨V207, L208⟩ := u204
            obtain ⟨hMV207, ajV207, axL208, t206⟩ := w205
            have axL208 : L = L208 := Eq.symm axL208
            subst axL208
            have hP : va_P D vwCl (mw ad kk ks.1 V207 L) H := hP
            have hD : va_D A (mw ad kk ks.1 V207 L) := hD
            have hMV207 : rgd bM V207 := hMV207
            have ajV207 : agr [(0, 76)] [77, 78, 79] V18 V207 := ajV207
            have agV207 : agr [(0, 60), (0, 65), (0, 68), (0, 69), (0, 73), (0, 76), (0, 90), (0, 91), (0, 92), (0, 93), (0, 95), (0, 96), (0, 98)] [59, 61, 62, 63, 64, 66, 67, 74, 75, 77, 78, 79, 80, 94, 97] V V207 := agV18.tr ajV207 (by decide) (by decide)
            have t206 : (V207 0 76).toInt = (V18 0 76).toInt + 1 := t206
            have r209 : 0 ≤ ((V207 0 76)).toInt ∧ ((V207 0 76)).toInt ≤ 2000000000 := hMV207 0 76
            refine lv_aload_n hx hb dX12_failings_66 rfl (lv_at hl 6 rfl) ?_
            refine lv_aload_n hx hb dX12_failings_67 rfl (lv_at hl 6 rfl) ?_
            refine va_get (D := D) (ci := 12) (v := .ref (ad 44)) (C := RX12) (T := TX12) (N := 100) hx hb hg inX12 hown hK hP 0 rfl rfl 44 (by decide) (hg _ w1750) (fun _ h9 => h9) rfl dX12_failings_68 ?_
            refine lv_bipush (v := 12) hx hb dX12_failings_71 (by decide) ?_
            refine lv_aload_n hx hb dX12_failings_73 rfl (lv_at hl 6 rfl) ?_
            refine va_get (D := D) (ci := 12) (v := .int (V207 0 11)) (C := RX12) (T := TX12) (N := 100) hx hb hg inX12 hown hK hP 0 rfl rfl 11 (by decide) (hg _ w1717) (fun _ h9 => h9) rfl dX12_failings_74 ?_
            refine g_top (v := (V 0 11)) ((ajV207 0 11 rfl).trans (ajV18 0 11 rfl)) ?_
            have r210 : 0 ≤ ((V 0 11)).toInt ∧ ((V 0 11)).toInt ≤ 1 := hMV 0 11
            refine lv_imul hx hb dX12_failings_77 ?_
            refine lv_topi (fun z211 ez211 => ?_)
            have hz211 : z211.toInt = 12 * ((V 0 11)).toInt := i_mul ez211 (by decide) rfl (by (first | exact om_630bd6ee60c3 r210.1 r210.2 | omega))
            refine lv_iload hx hb dX12_failings_78 (lv_at hl 1 rfl) ?_
            refine lv_iadd hx hb dX12_failings_80 ?_
            refine lv_topi (fun z212 ez212 => ?_)
            have hz212 : z212.toInt = z211.toInt + z75.toInt := i_add ez212 rfl rfl (by (first | exact om_2e570e10cfc7 rgz75.2 wn r210.1 r210.2 hz211 | omega))
            have pq213 : (V207 0 11).toInt = ((V 0 11)).toInt := congrArg Int32.toInt ((ajV207 0 11 rfl).trans (ajV18 0 11 rfl))
            have pq214 : (V18 0 11).toInt = ((V 0 11)).toInt := congrArg Int32.toInt (ajV18 0 11 rfl)
            have kz : Int32.toNatClampNeg z212 = 12 * nwh V18 + Int32.toNatClampNeg z75 := by have h9 := i_clamp (x := z212) rfl (by (first | exact om_7ea21d029263 wn r210.1 hz211 hz212 | omega)); omega
            have e44 : V207 44 (Int32.toNatClampNeg z212) = V18 44 (Int32.toNatClampNeg z212) := (show agr [(0, 76)] [77, 78, 79] V18 V207 from (agr.tr agr.rf ajV207 (by decide) (by decide))) 44 _ rfl
            have q44 : V18 44 (12 * nwh V18 + Int32.toNatClampNeg z75) = V18 44 (Int32.toNatClampNeg z212) := by rw [kz]
            have q44i := congrArg Int32.toInt q44
            have e44i := congrArg Int32.toInt e44
            have pq215 : (V18 44 (Int32.toNatClampNeg z212)).toInt = ((V 44 (Int32.toNatClampNeg z212))).toInt := congrArg Int32.toInt (ajV18 44 (Int32.toNatClampNeg z212) rfl)
            have pq216 : (V207 44 (Int32.toNatClampNeg z212)).toInt = ((V 44 (Int32.toNatClampNeg z212))).toInt := congrArg Int32.toInt ((ajV207 44 (Int32.toNatClampNeg z212) rfl).trans (ajV18 44 (Int32.toNatClampNeg z212) rfl))
            have q44b : V18 44 (12 * nwh V18 + Int32.toNatClampNeg z75) = V 44 (Int32.toNatClampNeg z212) := q44.trans ((show agr [(0, 60), (0, 65), (0, 68), (0, 69), (0, 73), (0, 76), (0, 90), (0, 91), (0, 92), (0, 93), (0, 95), (0, 96), (0, 98)] [59, 61, 62, 63, 64, 66, 67, 74, 75, 77, 78, 79, 80, 94, 97] V V18 from (agr.tr agr.rf ajV18 (by decide) (by decide))) 44 _ rfl)
            have nw9 : nwh V207 = nwh V18 := (nwh_ag (show agr [(0, 76)] [77, 78, 79] V18 V207 from (agr.tr agr.rf ajV207 (by decide) (by decide))) ⟨rfl, fun _ => rfl, fun _ => rfl, fun _ => rfl, fun _ => rfl, fun _ => rfl, fun _ => rfl⟩).1
            refine va_iald (D := D) (i := z212) hx hb hK hP 37 36 rfl rfl (i_in (a := z212.toInt) rfl (by (first | exact om_5a28bbe8109b rgz75.2 wn r210.1 r210.2 hz211 hz212 | omega))) dX12_failings_81 ?_
            refine g_top (v := (V 44 (Int32.toNatClampNeg z212))) ((ajV207 44 (Int32.toNatClampNeg z212) rfl).trans (ajV18 44 (Int32.toNatClampNeg z212) rfl)) ?_
            refine lv_iload_n hx hb dX12_failings_82 rfl (lv_at hl 7 rfl) ?_
            refine lv_iload_n hx hb dX12_failings_83 rfl (lv_at hl 9 rfl) ?_
            refine lv_iload hx hb dX12_failings_84 (lv_at hl 0 rfl) ?_
            refine lv_iconst (v := (-1)) hx hb dX12_failings_86 (by decide) ?_
            have ht217 : TRs gB (mV V 2 gt gu, ga, Fcall1 glv go gc gsc gme :: gr) (mV V207 0 gt gu, ga, Fwork glv go gc gsc gme 0 ((wAt gB i9 : Nat) : Int) 20 [] :: Fcall3 glv go gc gsc gme (i9 : Int) gt gu :: gr) := by rw [mV_ag (show agr [(0, 76)] [77, 78, 79] V18 V207 from (agr.tr agr.rf ajV207 (by decide) (by decide))) (by decide)]; exact ht201
            have fm219 : FRM V V207 (-1) := (FRM.tr xlp19_12 (FRM.ag (show agr [(0, 76)] [77, 78, 79] V18 V207 from (agr.tr agr.rf ajV207 (by decide) (by decide))) ⟨⟨rfl, fun _ => rfl, fun _ => rfl, fun _ => rfl, fun _ => rfl, fun _ => rfl, fun _ => rfl⟩, by decide, by decide, rfl, rfl, fun _ => rfl, fun _ => rfl, fun _ => rfl, fun _ => rfl, fun _ => rfl, fun _ => rfl⟩) agV18 ⟨rfl, fun _ => rfl, fun _ => rfl, fun _ => rfl, fun _ => rfl, fun _ => rfl, fun _ => rfl⟩ (by (first | exact om_abdc88b0c8fc xlp19_8 | omega)))
            have eo218 : (V207 61 (Int32.toNatClampNeg p0)).toInt = (V 61 (Int32.toNatClampNeg p0)).toInt := congrArg Int32.toInt ((fm219).2.1 (Int32.toNatClampNeg p0) (by have h9 := i_clamp (x := p0) rfl (by (first | exact om_eafa9039069c rg_p0.1 | omega)); omega)).1
            have lg220 : (Fcall3 glv go gc gsc gme (i9 : Int) gt gu :: gr).length = gr.length + 1 := rfl
            have lg221 : totP (Fcall3 glv go gc gsc gme (i9 : Int) gt gu :: gr) = 0 + (totP gr) := rfl
            have oq8 : ∃ q9, OQ gB (ndW gB gc 0) (decide ((0 : Int) < 0)) (wAt gB i9) 0 q9 := ⟨0, wfW0 br.1 fc9.2.2.2 fc9.2.2.1 (by decide)⟩
            have r222 : Int32.toInt (-1) = (-1) := by decide
            have pq223 : (V207 0 65).toInt = ((V18 0 65)).toInt := congrArg Int32.toInt (ajV207 0 65 rfl)
            have pq224 : (V207 0 60).toInt = ((V18 0 60)).toInt := congrArg Int32.toInt (ajV207 0 60 rfl)
            have pq225 : (V207 0 95).toInt = ((V18 0 95)).toInt := congrArg Int32.toInt (ajV207 0 95 rfl)
            have pq226 : (V207 0 73).toInt = ((V18 0 73)).toInt := congrArg Int32.toInt (ajV207 0 73 rfl)
            have pq227 : (V207 0 69).toInt = ((V18 0 69)).toInt := congrArg Int32.toInt (ajV207 0 69 rfl)
            have pq228 : (V207 0 93).toInt = ((V18 0 93)).toInt := congrArg Int32.toInt (ajV207 0 93 rfl)
            have pq229 : (V207 0 98).toInt = ((V18 0 98)).toInt := congrArg Int32.toInt (ajV207 0 98 rfl)
            have pq230 : (V207 61 (Int32.toNatClampNeg p0)).toInt = ((V18 61 (Int32.toNatClampNeg p0))).toInt := congrArg Int32.toInt (ajV207 61 (Int32.toNatClampNeg p0) rfl)
            have r231 : 0 ≤ ((V18 61 (Int32.toNatClampNeg p0))).toInt ∧ ((V18 61 (Int32.toNatClampNeg p0))).toInt ≤ 23 := hMV18 61 (Int32.toNatClampNeg p0)
            have rt232 : RT V207 := RT.ag xlp19_11 hMV18 (show agr [(0, 76)] [77, 78, 79] V18 V207 from (agr.tr agr.rf ajV207 (by decide) (by decide))) ⟨⟨rfl, fun _ => rfl, fun _ => rfl, fun _ => rfl, fun _ => rfl, fun _ => rfl, fun _ => rfl⟩, by decide, by decide, rfl, rfl, fun _ => rfl, fun _ => rfl, fun _ => rfl, fun _ => rfl, fun _ => rfl, fun _ => rfl⟩ (c0k.ag (show agr [(0, 76)] [77, 78, 79] V18 V207 from (agr.tr agr.rf ajV207 (by decide) (by decide))) rfl)
            have rj233 : RJm V207 gB := RJm.ag xlp19_13 (show agr [(0, 76)] [77, 78, 79] V18 V207 from (agr.tr agr.rf ajV207 (by decide) (by decide))) (by decide)
            have fm234 : FRM V V207 (-1) := (FRM.tr xlp19_12 (FRM.ag (show agr [(0, 76)] [77, 78, 79] V18 V207 from (agr.tr agr.rf ajV207 (by decide) (by decide))) ⟨⟨rfl, fun _ => rfl, fun _ => rfl, fun _ => rfl, fun _ => rfl, fun _ => rfl, fun _ => rfl⟩, by decide, by decide, rfl, rfl, fun _ => rfl, fun _ => rfl, fun _ => rfl, fun _ => rfl, fun _ => rfl, fun _ => rfl⟩) agV18 ⟨rfl, fun _ => rfl, fun _ => rfl, fun _ => rfl, fun _ => rfl, fun _ => rfl, fun _ => rfl⟩ (by (first | exact om_abdc88b0c8fc xlp19_8 | omega)))
            have cm235 : CMPo V207 gB (Int32.toNatClampNeg p0) := CMPo.fr cm9 bk fm234 (by have h9 := i_clamp (x := p0) rfl (by (first | exact om_eafa9039069c rg_p0.1 | omega)); (first | exact om_6c25244c01f7 oq1 ko9 | omega)) (RTn rt bk (by have h9 := i_clamp (x := p0) rfl (by (first | exact om_eafa9039069c rg_p0.1 | omega)); omega))
            refine gA_int (gA_runV (As := [.int (V 44 (Int32.toNatClampNeg z212)), .int p0, .int p2, .int 20, .int (-1)]) (rest := []) (ci := 12) (q0 := 0) hx hb hml hown hg hP hD hK hS hA hnw hgk (hk_s_worksD H.size ad kk V207 L (V 44 (Int32.toNatClampNeg z212)) p0 p2 20 (-1) (gB) (grk) (Fcall3 glv go gc gsc gme (i9 : Int) gt gu :: gr) (ga) (0) (gt) (gu) (glv) (go) (gc) (gsc) (gme) (0) (10000 * nwh V18) (10000 * nwh V18 + 10000) ((wAt gB i9)) hMV207 (by omega) (by (first | exact om_1e2c46ce8ef5 rg_p0.1 oq1 r2.2 | omega)) (by (first | exact om_13ba01c174fe rg_p2.1 rg_p2.2 | omega)) rt232 (show (V207 0 65).toInt ≤ (V207 0 60).toInt from by (first | exact om_cebe9a256b98 n1 xlp19_4 pq223 pq224 | omega)) (show (V207 0 95).toInt ≤ (V207 0 65).toInt from by (first | exact om_193d16bbc0e3 n2 xlp19_3 xlp19_8 pq223 pq225 | omega)) (show (V207 0 73).toInt + (V207 0 95).toInt - (V207 0 65).toInt ≤ 999000 from by (first | exact om_ec3a52bb0c7c n3 xlp19_5 pq223 pq225 pq226 | omega)) (show (V207 0 76).toInt - (V207 0 69).toInt - (V207 0 73).toInt ≤ 1000000001 from by (first | exact om_0e318805f41c n4 xlp19_9 t206 pq226 pq227 | omega)) (show 300 - (V207 0 60).toInt ≤ ((d1 : Nat) : Int) from by (first | exact om_3013ce33764f n5 xlp19_2 pq224 | omega)) (show 10 - (V207 0 93).toInt ≤ ((d2 : Nat) : Int) from by (first | exact om_1ce157d38d46 n6 xlp19_1 pq228 | omega)) (BKm.ag bk (show agr [(0, 60), (0, 65), (0, 68), (0, 69), (0, 73), (0, 76), (0, 90), (0, 91), (0, 92), (0, 93), (0, 95), (0, 96), (0, 98)] [59, 61, 62, 63, 64, 66, 67, 74, 75, 77, 78, 79, 80, 94, 97] V V207 from (agr.tr (agr.tr agr.rf ajV18 (by decide) (by decide)) ajV207 (by decide) (by decide))) (by decide)) br rj233 (fun h9 => absurd h9 (by decide)) (show (((Fcall3 glv go gc gsc gme (i9 : Int) gt gu :: gr).length : Nat) : Int) ≤ 28 * (V207 0 93).toInt + 26 from by (first | exact om_b3def4d72315 hl9 xlp19_1 lg220 pq228 | omega)) (show ((totP (Fcall3 glv go gc gsc gme (i9 : Int) gt gu :: gr) : Nat) : Int) ≤ 84 * (V207 0 93).toInt + 56 from by (first | exact om_756680afaca1 hp9 xlp19_1 lg221 pq228 | omega)) (show p0.toInt < (V207 0 60).toInt from by (first | exact om_abb00e6ed28d oq1 xlp19_2 pq224 | omega)) (show (V207 0 98).toInt + 400 * ((d2 : Nat) : Int) + 30 ≤ 19000 from by (first | exact om_2740c7d8a110 n7 xlp19_0 pq229 | omega)) (CE.same (show CE 0 false V18 (10000 * nwh V18) (10000 * nwh V18 + 10000) (V 44 (Int32.toNatClampNeg z212)).toInt.toNat from q44b ▸ wE.2) (Int.le_refl _) (Nat.le_refl _) (fun i _ _ => ⟨(show agr [(0, 76)] [77, 78, 79] V18 V207 from (agr.tr agr.rf ajV207 (by decide) (by decide))) 45 _ rfl, (show agr [(0, 76)] [77, 78, 79] V18 V207 from (agr.tr agr.rf ajV207 (by decide) (by decide))) 46 _ rfl, (show agr [(0, 76)] [77, 78, 79] V18 V207 from (agr.tr agr.rf ajV207 (by decide) (by decide))) 47 _ rfl⟩)) (show ((10000 * nwh V18 + 10000) : Int) ≤ 20000 from by (first | exact om_7dcbc42c1fac nb.2 kn | omega)) (hMV207 27 _).1 (show ((10000 * nwh V18) : Int) = 10000 * ((nwh V207 : Nat) : Int) from by (first | exact om_e39273519f2d nw9 | omega)) (show ((V 44 (Int32.toNatClampNeg z212))).toInt = ((10000 * nwh V207 + ((wAt gB i9)) : Nat) : Int) from by omega) oq8 (show (V207 0 93).toInt = (glv) from by (first | exact om_a0c405496c73 zl9 xlp19_1 pq228 | omega)) (show p0.toInt = (go) from by (first | exact om_570b691c1130 zo9 | omega)) (show (V207 61 (Int32.toNatClampNeg p0)).toInt = (gc) from by (first | exact om_cd7d0a6a31bc zc9 eo218 | omega)) (show p2.toInt = (gsc) from by (first | exact om_570b691c1130 zs9 | omega)) cm235) w2268 w2270 w136 w172 w2271 rfl rfl hdV_yX12_works ⟨(by show (4 * (d1) + 40 * (d2) + 12) + 1 ≤ (4 * d1 + 40 * d2 + 13); (first | exact om_2f192a0d189d | omega)), (by show 8 + (6 + 11) + (100 * (d1) + 1000 * (d2) + 460) ≤ (100 * d1 + 1000 * d2 + 500); (first | exact om_65a772b3cf36 | omega))⟩ rfl hl.1 rfl (Nat.le_of_ble_eq_true rfl) dX12_failings_87 ⟨Nat.le_of_ble_eq_true rfl, Nat.le_of_ble_eq_true rfl⟩) hP hD hK hS hA (fun z236 u237 H locs w238 hP hD hK hS => ?_)
            obtain ⟨V255, L256⟩ := u237
            obtain ⟨hMV255, ajV255, axL256, rgz236, t239, t240, t241, t242, t243, t244, t245, t246, t247, t248, t249, t250, t251, t252, t253, t254⟩ := w238
            have axL256 : L = L256 := Eq.symm axL256
            subst axL256
            have hP : va_P D vwCl (mw ad kk ks.1 V255 L) H := hP
            have hD : va_D A (mw ad kk ks.1 V255 L) := hD
            have hMV255 : rgd bM V255 := hMV255
            have ajV255 : agr [(0, 60), (0, 65), (0, 68), (0, 69), (0, 73), (0, 76), (0, 90), (0, 91), (0, 92), (0, 93), (0, 95), (0, 96), (0, 98)] [59, 61, 62, 63, 64, 66, 67, 74, 75, 77, 78, 79, 80, 94, 97] V207 V255 := ajV255
            have agV255 : agr [(0, 60), (0, 65), (0, 68), (0, 69), (0, 73), (0, 76), (0, 90), (0, 91), (0, 92), (0, 93), (0, 95), (0, 96), (0, 98)] [59, 61, 62, 63, 64, 66, 67, 74, 75, 77, 78, 79, 80, 94, 97] V V255 := agV207.tr ajV255 (by decide) (by decide)
            have rgz236 : 0 ≤ z236.toInt ∧ z236.toInt ≤ 2 := rgz236
            have t239 : (V255 0 93).toInt = (V207 0 93).toInt := t239
            have t240 : (V255 0 98).toInt = (V207 0 98).toInt := t240
            have t241 : (V207 0 60).toInt ≤ (V255 0 60).toInt := t241
            have t242 : (V207 0 65).toInt ≤ (V255 0 65).toInt := t242
            have t243 : (V255 0 65).toInt - (V207 0 65).toInt ≤ (V255 0 60).toInt - (V207 0 60).toInt := t243
            have t244 : (V255 0 73).toInt + (V255 0 95).toInt - (V255 0 65).toInt ≤ (V207 0 73).toInt + (V207 0 95).toInt - (V207 0 65).toInt := t244
            have t245 : (V207 0 73).toInt ≤ (V255 0 73).toInt := t245
            have t246 : (V207 0 69).toInt ≤ (V255 0 69).toInt := t246
            have t247 : (V255 0 95).toInt = (V207 0 95).toInt := t247
            have t248 : (V255 0 76).toInt - (V255 0 69).toInt - (V255 0 73).toInt ≤ (V207 0 76).toInt - (V207 0 69).toInt - (V207 0 73).toInt := t248
            have t249 : Imp (z236.toInt ≠ 2) ((V255 0 76).toInt - (V255 0 69).toInt - (V255 0 73).toInt + 1 ≤ (V207 0 76).toInt - (V207 0 69).toInt - (V207 0 73).toInt) := t249
            have t250 : RT V255 := t250
            have t251 : FRM V207 V255 (-1) := t251
            have t252 : RJm V255 (gB) := t252
            have t253 : PLK V207 V255 (V207 0 98).toInt.toNat := t253
            have t254 : DPc (gB) (mV V207 0 (gt) (gu), (ga), Fwork (glv) (go) (gc) (gsc) (gme) 0 ((((wAt gB i9)) : Nat) : Int) 20 [] :: (Fcall3 glv go gc gsc gme (i9 : Int) gt gu :: gr)) V255 (Fcall3 glv go gc gsc gme (i9 : Int) gt gu :: gr) z236.toInt (V255 0 96) (24 * (10 - (V207 0 93).toInt)) := t254
            have r257 : 0 ≤ ((V255 0 93)).toInt ∧ ((V255 0 93)).toInt ≤ 10 := hMV255 0 93
            have r258 : 0 ≤ ((V255 0 98)).toInt ∧ ((V255 0 98)).toInt ≤ 20000 := hMV255 0 98
            have r259 : 0 ≤ ((V255 0 60)).toInt ∧ ((V255 0 60)).toInt ≤ 300 := hMV255 0 60
            have r260 : 0 ≤ ((V255 0 65)).toInt ∧ ((V255 0 65)).toInt ≤ 1000000 := hMV255 0 65
            have r261 : 0 ≤ ((V255 0 73)).toInt ∧ ((V255 0 73)).toInt ≤ 1000000 := hMV255 0 73
            have r262 : 0 ≤ ((V255 0 95)).toInt ∧ ((V255 0 95)).toInt ≤ 300 := hMV255 0 95
            have r263 : 0 ≤ ((V255 0 69)).toInt ∧ ((V255 0 69)).toInt ≤ 3000 := hMV255 0 69
            have r264 : 0 ≤ ((V255 0 76)).toInt ∧ ((V255 0 76)).toInt ≤ 2000000000 := hMV255 0 76
            refine lv_istore (lv' := [(10, .int z236), (9, .int 20), (8, .int z75), (7, .int y17), (6, .int z12), (5, .int (V 0 91)), (4, .int (V 0 90)), (0, .ref (ad 0)), (1, .int p0), (2, .int p1), (3, .int p2)]) hx hb dX12_failings_90 hl (by decide) rfl (fun ls hl => ?_)
            have dp265 := t254
            rcases (show z236.toInt = 0 ∨ z236.toInt = 1 ∨ z236.toInt = 2 from by (first | exact om_e837ad917e1d rgz236.1 rgz236.2 | omega)) with q266 | q266 | q266
            · skip
              obtain ⟨mt269, mk270, ht267⟩ := dp265.e0 q266
              have ht271 : TRs gB (mV V 2 gt gu, ga, Fcall1 glv go gc gsc gme :: gr) (mV V255 1 mt269 mk270, ((V255 0 96)), Fcall3 glv go gc gsc gme (i9 : Int) gt gu :: gr) := TRs.tr ht217 ht267
              have r272 : 0 ≤ (V255 0 65).toInt := (hMV255 0 65).1
              have r273 : (V255 0 60).toInt ≤ 300 := (hMV255 0 60).2
              have r274 : 0 ≤ (V255 0 93).toInt ∧ (V255 0 93).toInt ≤ 10 := hMV255 0 93
              have ht275 : TRs gB (mV V 2 gt gu, ga, Fcall1 glv go gc gsc gme :: gr) (mV V255 1 mt269 mk270, ((V255 0 96)), gr) := TRs.st ht271 (SF.mk (show gr.length ≤ 394 from by (first | exact om_1b2fb2a71a22 hl9 zt9.1 zb9.2 f200 | omega)) (show 0 + (totP gr) ≤ 2000 from by (first | exact om_5255b714ed60 hp9 zt9.1 zb9.2 f200 | omega)) (show 0 ≤ (V255 0 65).toInt ∧ (V255 0 65).toInt ≤ 300 from by (first | exact om_810da67e2db8 n1 xlp19_4 pq223 pq224 t243 r259.2 r260.1 | omega)) (fun h9 => absurd (show (1 : Int) = 2 from h9) (by decide)) trivial) (st_7n (show ¬ (1 : Int) = 2 by decide))
              refine lv_iload hx hb dX12_failings_92 (lv_at hl 0 rfl) ?_
              refine lv_iconst (v := 1) hx hb dX12_failings_94 (by decide) ?_
              refine lv_icmp_eq (tgt := 101) hx hb dX12_failings_95 (by decide) (fun c276 => ?_) (fun c276 => ?_)
              · skip
                have f277 : z236.toInt = 1 := b_eq rfl (by decide) c276
                exfalso; first | exact om_4c701f2d8c50 q266 f277 | first | omega | ((try (have i_t249 := Imp.go t249 (by omega))); omega)
              · skip
                have f278 : z236.toInt ≠ 1 := b_neq rfl (by decide) c276
                refine lv_iload hx hb dX12_failings_98 (lv_at hl 0 rfl) ?_
                have fm279 : FRM V V207 (-1) := (FRM.tr xlp19_12 (FRM.ag (show agr [(0, 76)] [77, 78, 79] V18 V207 from (agr.tr agr.rf ajV207 (by decide) (by decide))) ⟨⟨rfl, fun _ => rfl, fun _ => rfl, fun _ => rfl, fun _ => rfl, fun _ => rfl, fun _ => rfl⟩, by decide, by decide, rfl, rfl, fun _ => rfl, fun _ => rfl, fun _ => rfl, fun _ => rfl, fun _ => rfl, fun _ => rfl⟩) agV18 ⟨rfl, fun _ => rfl, fun _ => rfl, fun _ => rfl, fun _ => rfl, fun _ => rfl, fun _ => rfl⟩ (by (first | exact om_abdc88b0c8fc xlp19_8 | omega)))
                have fm280 : FRM V V255 (-1) := (FRM.tr fm279 t251 agV207 ⟨rfl, fun _ => rfl, fun _ => rfl, fun _ => rfl, fun _ => rfl, fun _ => rfl, fun _ => rfl⟩ (by (first | exact om_4052a1005a1f xlp19_8 pq225 | omega)))
                have pk281 : PLK V V207 (V 0 98).toInt.toNat := (PLK.tr xlp19_14 (PLK.ag (t := (V 0 98).toInt.toNat) (show agr [(0, 76)] [77, 78, 79] V18 V207 from (agr.tr agr.rf ajV207 (by decide) (by decide))) (fun _ => rfl)) (Nat.le_refl _))
                have pk282 : PLK V V255 (V 0 98).toInt.toNat := (PLK.tr pk281 t253 (by (first | exact om_c8124caa8f7e r8.1 xlp19_0 pq229 | omega)))
                have rp283 : DPc gB (mV V 2 gt gu, ga, Fcall1 glv go gc gsc gme :: gr) V255 gr (z236.toInt) (V255 0 96) (24 * (10 - (V 0 93).toInt)) := DPc.m0 ht275 (by (first | exact om_b1799fcf2d63 rgz236.1 q266 | omega))
                exact W.iret (v := z236) hx hb hr (fun t ht hW => ⟨⟨z236, (V255, L), rfl, ⟨hMV255, agV255, rfl, (show 0 ≤ z236.toInt ∧ z236.toInt ≤ 2 from by first | exact om_8c285ac91b81 rgz236.1 rgz236.2 | first | omega | ((try (have i_t249 := Imp.go t249 (by omega))); omega)), (show (V255 0 93).toInt = (V 0 93).toInt from by first | exact om_a0c405496c73 xlp19_1 pq228 t239 | first | omega | ((try (have i_t249 := Imp.go t249 (by omega))); omega)), (show (V255 0 98).toInt = (V 0 98).toInt from by first | exact om_a0c405496c73 xlp19_0 pq229 t240 | first | omega | ((try (have i_t249 := Imp.go t249 (by omega))); omega)), (show (V 0 60).toInt ≤ (V255 0 60).toInt from by first | exact om_860317e29598 xlp19_2 pq224 t241 | first | omega | ((try (have i_t249 := Imp.go t249 (by omega))); omega)), (show (V 0 65).toInt ≤ (V255 0 65).toInt from by first | exact om_860317e29598 xlp19_3 pq223 t242 | first | omega | ((try (have i_t249 := Imp.go t249 (by omega))); omega)), (show (V255 0 65).toInt - (V 0 65).toInt ≤ (V255 0 60).toInt - (V 0 60).toInt from by first | exact om_7a7d927724fb xlp19_4 pq223 pq224 t243 | first | omega | ((try (have i_t249 := Imp.go t249 (by omega))); omega)), (show (V255 0 73).toInt + (V255 0 95).toInt - (V255 0 65).toInt ≤ (V 0 73).toInt + (V 0 95).toInt - (V 0 65).toInt from by first | exact om_a90075b28fa2 xlp19_5 pq223 pq225 pq226 t244 | first | omega | ((try (have i_t249 := Imp.go t249 (by omega))); omega)), (show (V 0 73).toInt ≤ (V255 0 73).toInt from by first | exact om_860317e29598 xlp19_6 pq226 t245 | first | omega | ((try (have i_t249 := Imp.go t249 (by omega))); omega)), (show (V 0 69).toInt ≤ (V255 0 69).toInt from by first | exact om_860317e29598 xlp19_7 pq227 t246 | first | omega | ((try (have i_t249 := Imp.go t249 (by omega))); omega)), (show (V255 0 95).toInt = (V 0 95).toInt from by first | exact om_a0c405496c73 xlp19_8 pq225 t247 | first | omega | ((try (have i_t249 := Imp.go t249 (by omega))); omega)), (show (V255 0 76).toInt - (V255 0 69).toInt - (V255 0 73).toInt ≤ (V 0 76).toInt - (V 0 69).toInt - (V 0 73).toInt + 1 from by first | exact om_872d4b6e7e86 xlp19_9 t206 pq226 pq227 t248 | first | omega | ((try (have i_t249 := Imp.go t249 (by omega))); omega)), (Imp.mk (fun hp => have hp : z236.toInt ≠ 2 := hp; (show (V255 0 76).toInt - (V255 0 69).toInt - (V255 0 73).toInt ≤ (V 0 76).toInt - (V 0 69).toInt - (V 0 73).toInt from by first | exact om_c8ebd92074a9 xlp19_9 t206 pq226 pq227 ((Imp.go t249 (hp))) | first | omega | ((try (have i_t249 := Imp.go t249 (by omega))); omega)))), t250, fm280, t252, pk282, rp283⟩, by rw [ht]; exact hP, va_K.moved hW.alike hK, hD⟩, hS.F ht⟩) hS.2.2 dX12_failings_100
            · skip
              obtain ⟨bd288, ma285, ht284⟩ := dp265.e1 q266
              have ht289 : TRs gB (mV V 2 gt gu, ga, Fcall1 glv go gc gsc gme :: gr) (mV V255 2 (V255 0 90).toInt (V255 0 91).toInt, ma285, Fcall3 glv go gc gsc gme (i9 : Int) gt gu :: gr) := TRs.tr ht217 ht284
              refine lv_iload hx hb dX12_failings_92 (lv_at hl 0 rfl) ?_
              refine lv_iconst (v := 1) hx hb dX12_failings_94 (by decide) ?_
              refine lv_icmp_eq (tgt := 101) hx hb dX12_failings_95 (by decide) (fun c290 => ?_) (fun c290 => ?_)
              · skip
                have f291 : z236.toInt = 1 := b_eq rfl (by decide) c290
                obtain ⟨z292, ez292⟩ : ∃ y : Int32, y = y17 + (-1) := ⟨_, rfl⟩
                have hz292 : z292.toInt = y17.toInt + (-1) := i_add ez292 rfl (by decide) (by (first | exact om_8644478ce7aa rgz12.2 xlp19_10 f74 | omega))
                refine lv_iinc (v := z292) (lv' := [(7, .int z292), (10, .int z236), (9, .int 20), (8, .int z75), (6, .int z12), (5, .int (V 0 91)), (4, .int (V 0 90)), (0, .ref (ad 0)), (1, .int p0), (2, .int p1), (3, .int p2)]) hx hb dX12_failings_101 hl (k := 3) rfl (by rw [ez292]; rfl) (by decide) rfl (fun ls hl => ?_)
                refine lv_goto (tgt := 27) hx hb dX12_failings_104 (by decide) ?_
                have fm293 : FRM V V207 (-1) := (FRM.tr xlp19_12 (FRM.ag (show agr [(0, 76)] [77, 78, 79] V18 V207 from (agr.tr agr.rf ajV207 (by decide) (by decide))) ⟨⟨rfl, fun _ => rfl, fun _ => rfl, fun _ => rfl, fun _ => rfl, fun _ => rfl, fun _ => rfl⟩, by decide, by decide, rfl, rfl, fun _ => rfl, fun _ => rfl, fun _ => rfl, fun _ => rfl, fun _ => rfl, fun _ => rfl⟩) agV18 ⟨rfl, fun _ => rfl, fun _ => rfl, fun _ => rfl, fun _ => rfl, fun _ => rfl, fun _ => rfl⟩ (by (first | exact om_abdc88b0c8fc xlp19_8 | omega)))
                have fm294 : FRM V V255 (-1) := (FRM.tr fm293 t251 agV207 ⟨rfl, fun _ => rfl, fun _ => rfl, fun _ => rfl, fun _ => rfl, fun _ => rfl, fun _ => rfl⟩ (by (first | exact om_4052a1005a1f xlp19_8 pq225 | omega)))
                have pk295 : PLK V V207 (V 0 98).toInt.toNat := (PLK.tr xlp19_14 (PLK.ag (t := (V 0 98).toInt.toNat) (show agr [(0, 76)] [77, 78, 79] V18 V207 from (agr.tr agr.rf ajV207 (by decide) (by decide))) (fun _ => rfl)) (Nat.le_refl _))
                have pk296 : PLK V V255 (V 0 98).toInt.toNat := (PLK.tr pk295 t253 (by (first | exact om_c8124caa8f7e r8.1 xlp19_0 pq229 | omega)))
                exact ihlp19 z292 V255 H locs ls (by first | exact om_12f829fe3ab5 rgz12.2 xlp19_10 f74 hz292 | first | omega | ((try (have i_t249 := Imp.go t249 (by omega))); omega)) (show (V255 0 98).toInt = (V 0 98).toInt from by first | exact om_a0c405496c73 xlp19_0 pq229 t240 | first | omega | ((try (have i_t249 := Imp.go t249 (by omega))); omega)) (show (V255 0 93).toInt = (V 0 93).toInt from by first | exact om_a0c405496c73 xlp19_1 pq228 t239 | first | omega | ((try (have i_t249 := Imp.go t249 (by omega))); omega)) (show (V 0 60).toInt ≤ (V255 0 60).toInt from by first | exact om_860317e29598 xlp19_2 pq224 t241 | first | omega | ((try (have i_t249 := Imp.go t249 (by omega))); omega)) (show (V 0 65).toInt ≤ (V255 0 65).toInt from by first | exact om_860317e29598 xlp19_3 pq223 t242 | first | omega | ((try (have i_t249 := Imp.go t249 (by omega))); omega)) (show (V255 0 65).toInt - (V 0 65).toInt ≤ (V255 0 60).toInt - (V 0 60).toInt from by first | exact om_7a7d927724fb xlp19_4 pq223 pq224 t243 | first | omega | ((try (have i_t249 := Imp.go t249 (by omega))); omega)) (show (V255 0 73).toInt + (V255 0 95).toInt - (V255 0 65).toInt ≤ (V 0 73).toInt + (V 0 95).toInt - (V 0 65).toInt from by first | exact om_a90075b28fa2 xlp19_5 pq223 pq225 pq226 t244 | first | omega | ((try (have i_t249 := Imp.go t249 (by omega))); omega)) (show (V 0 73).toInt ≤ (V255 0 73).toInt from by first | exact om_860317e29598 xlp19_6 pq226 t245 | first | omega | ((try (have i_t249 := Imp.go t249 (by omega))); omega)) (show (V 0 69).toInt ≤ (V255 0 69).toInt from by first | exact om_860317e29598 xlp19_7 pq227 t246 | first | omega | ((try (have i_t249 := Imp.go t249 (by omega))); omega)) (show (V255 0 95).toInt = (V 0 95).toInt from by first | exact om_a0c405496c73 xlp19_8 pq225 t247 | first | omega | ((try (have i_t249 := Imp.go t249 (by omega))); omega)) (show (V255 0 76).toInt - (V255 0 69).toInt - (V255 0 73).toInt ≤ (V 0 76).toInt - (V 0 69).toInt - (V 0 73).toInt from by first | exact om_c8ebd92074a9 xlp19_9 t206 pq226 pq227 ((Imp.go t249 (om_6bba7cc50278 q266))) | first | omega | ((try (have i_t249 := Imp.go t249 (by omega))); omega)) (show z292.toInt ≤ z12.toInt - 1 from by first | exact om_892008aa65e1 xlp19_10 hz292 | first | omega | ((try (have i_t249 := Imp.go t249 (by omega))); omega)) t250 fm294 t252 pk296 (Or.inr ⟨i9, (V255 0 90).toInt, (V255 0 91).toInt, ma285, by omega, by omega, by omega, ht289⟩) (by first | exact om_2e0ce331b730 hn hz292 | first | omega | ((try (have i_t249 := Imp.go t249 (by omega))); omega)) (agr.tr (agr.tr (agr.tr agr.rf ajV18 (by decide) (by decide)) ajV207 (by decide) (by decide)) ajV255 (by decide) (by decide)) hMV255 hP hD hS (lv_sub hl [0, 4, 5, 6, 7, 8, 9, 10] rfl)
              · skip
                have f297 : z236.toInt ≠ 1 := b_neq rfl (by decide) c290
                exfalso; first | exact om_b36fcf15d462 q266 f297 | first | omega | ((try (have i_t249 := Imp.go t249 (by omega))); omega)
            · skip
              obtain ⟨ma299, mt300, mk301, ht298⟩ := dp265.e2 q266
              have ht302 : TRs gB (mV V 2 gt gu, ga, Fcall1 glv go gc gsc gme :: gr) (mV V255 3 mt300 mk301, ma299, Fcall3 glv go gc gsc gme (i9 : Int) gt gu :: gr) := TRs.tr ht217 ht298
              have r303 : 0 ≤ (V255 0 65).toInt := (hMV255 0 65).1
              have r304 : (V255 0 60).toInt ≤ 300 := (hMV255 0 60).2
              have r305 : 0 ≤ (V255 0 93).toInt ∧ (V255 0 93).toInt ≤ 10 := hMV255 0 93
              have ht306 : TRs gB (mV V 2 gt gu, ga, Fcall1 glv go gc gsc gme :: gr) (mV V255 3 mt300 mk301, ma299, gr) := TRs.st ht302 (SF.mk (show gr.length ≤ 394 from by (first | exact om_1b2fb2a71a22 hl9 zt9.1 zb9.2 f200 | omega)) (show 0 + (totP gr) ≤ 2000 from by (first | exact om_5255b714ed60 hp9 zt9.1 zb9.2 f200 | omega)) (show 0 ≤ (V255 0 65).toInt ∧ (V255 0 65).toInt ≤ 300 from by (first | exact om_810da67e2db8 n1 xlp19_4 pq223 pq224 t243 r259.2 r260.1 | omega)) (fun h9 => absurd (show (3 : Int) = 2 from h9) (by decide)) trivial) (st_7n (show ¬ (3 : Int) = 2 by decide))
              refine lv_iload hx hb dX12_failings_92 (lv_at hl 0 rfl) ?_
              refine lv_iconst (v := 1) hx hb dX12_failings_94 (by decide) ?_
              refine lv_icmp_eq (tgt := 101) hx hb dX12_failings_95 (by decide) (fun c307 => ?_) (fun c307 => ?_)
              · skip
                have f308 : z236.toInt = 1 := b_eq rfl (by decide) c307
                exfalso; first | exact om_36fb4cdadc8e q266 f308 | first | omega | ((try (have i_t249 := Imp.go t249 (by omega))); omega)
              · skip
                have f309 : z236.toInt ≠ 1 := b_neq rfl (by decide) c307
                refine lv_iload hx hb dX12_failings_98 (lv_at hl 0 rfl) ?_
                have fm310 : FRM V V207 (-1) := (FRM.tr xlp19_12 (FRM.ag (show agr [(0, 76)] [77, 78, 79] V18 V207 from (agr.tr agr.rf ajV207 (by decide) (by decide))) ⟨⟨rfl, fun _ => rfl, fun _ => rfl, fun _ => rfl, fun _ => rfl, fun _ => rfl, fun _ => rfl⟩, by decide, by decide, rfl, rfl, fun _ => rfl, fun _ => rfl, fun _ => rfl, fun _ => rfl, fun _ => rfl, fun _ => rfl⟩) agV18 ⟨rfl, fun _ => rfl, fun _ => rfl, fun _ => rfl, fun _ => rfl, fun _ => rfl, fun _ => rfl⟩ (by (first | exact om_abdc88b0c8fc xlp19_8 | omega)))
                have fm311 : FRM V V255 (-1) := (FRM.tr fm310 t251 agV207 ⟨rfl, fun _ => rfl, fun _ => rfl, fun _ => rfl, fun _ => rfl, fun _ => rfl, fun _ => rfl⟩ (by (first | exact om_4052a1005a1f xlp19_8 pq225 | omega)))
                have pk312 : PLK V V207 (V 0 98).toInt.toNat := (PLK.tr xlp19_14 (PLK.ag (t := (V 0 98).toInt.toNat) (show agr [(0, 76)] [77, 78, 79] V18 V207 from (agr.tr agr.rf ajV207 (by decide) (by decide))) (fun _ => rfl)) (Nat.le_refl _))
                have pk313 : PLK V V255 (V 0 98).toInt.toNat := (PLK.tr pk312 t253 (by (first | exact om_c8124caa8f7e r8.1 xlp19_0 pq229 | omega)))
                have rp314 : DPc gB (mV V 2 gt gu, ga, Fcall1 glv go gc gsc gme :: gr) V255 gr (z236.toInt) (V255 0 96) (24 * (10 - (V 0 93).toInt)) := DPc.m2 ht306 (by (first | exact om_c6421a8055df rgz236.2 q266 | omega))
                exact W.iret (v := z236) hx hb hr (fun t ht hW => ⟨⟨z236, (V255, L), rfl, ⟨hMV255, agV255, rfl, (show 0 ≤ z236.toInt ∧ z236.toInt ≤ 2 from by first | exact om_8c285ac91b81 rgz236.1 rgz236.2 | first | omega | ((try (have i_t249 := Imp.go t249 (by omega))); omega)), (show (V255 0 93).toInt = (V 0 93).toInt from by first | exact om_a0c405496c73 xlp19_1 pq228 t239 | first | omega | ((try (have i_t249 := Imp.go t249 (by omega))); omega)), (show (V255 0 98).toInt = (V 0 98).toInt from by first | exact om_a0c405496c73 xlp19_0 pq229 t240 | first | omega | ((try (have i_t249 := Imp.go t249 (by omega))); omega)), (show (V 0 60).toInt ≤ (V255 0 60).toInt from by first | exact om_860317e29598 xlp19_2 pq224 t241 | first | omega | ((try (have i_t249 := Imp.go t249 (by omega))); omega)), (show (V 0 65).toInt ≤ (V255 0 65).toInt from by first | exact om_860317e29598 xlp19_3 pq223 t242 | first | omega | ((try (have i_t249 := Imp.go t249 (by omega))); omega)), (show (V255 0 65).toInt - (V 0 65).toInt ≤ (V255 0 60).toInt - (V 0 60).toInt from by first | exact om_7a7d927724fb xlp19_4 pq223 pq224 t243 | first | omega | ((try (have i_t249 := Imp.go t249 (by omega))); omega)), (show (V255 0 73).toInt + (V255 0 95).toInt - (V255 0 65).toInt ≤ (V 0 73).toInt + (V 0 95).toInt - (V 0 65).toInt from by first | exact om_a90075b28fa2 xlp19_5 pq223 pq225 pq226 t244 | first | omega | ((try (have i_t249 := Imp.go t249 (by omega))); omega)), (show (V 0 73).toInt ≤ (V255 0 73).toInt from by first | exact om_860317e29598 xlp19_6 pq226 t245 | first | omega | ((try (have i_t249 := Imp.go t249 (by omega))); omega)), (show (V 0 69).toInt ≤ (V255 0 69).toInt from by first | exact om_860317e29598 xlp19_7 pq227 t246 | first | omega | ((try (have i_t249 := Imp.go t249 (by omega))); omega)), (show (V255 0 95).toInt = (V 0 95).toInt from by first | exact om_a0c405496c73 xlp19_8 pq225 t247 | first | omega | ((try (have i_t249 := Imp.go t249 (by omega))); omega)), (show (V255 0 76).toInt - (V255 0 69).toInt - (V255 0 73).toInt ≤ (V 0 76).toInt - (V 0 69).toInt - (V 0 73).toInt + 1 from by first | exact om_872d4b6e7e86 xlp19_9 t206 pq226 pq227 t248 | first | omega | ((try (have i_t249 := Imp.go t249 (by omega))); omega)), (Imp.mk (fun hp => have hp : z236.toInt ≠ 2 := hp; (show (V255 0 76).toInt - (V255 0 69).toInt - (V255 0 73).toInt ≤ (V 0 76).toInt - (V 0 69).toInt - (V 0 73).toInt from by first | exact om_c8ebd92074a9 xlp19_9 t206 pq226 pq227 ((Imp.go t249 (hp))) | first | omega | ((try (have i_t249 := Imp.go t249 (by omega))); omega)))), t250, fm311, t252, pk313, rp314⟩, by rw [ht]; exact hP, va_K.moved hW.alike hK, hD⟩, hS.F ht⟩) hS.2.2 dX12_failings_100
        · skip
          refine lv_aload_n hx hb dX12_failings_32 rfl (lv_at hl 4 rfl) ?_
          refine lv_iload hx hb dX12_failings_33 (lv_at hl 0 rfl) ?_
          refine lv_iload_n hx hb dX12_failings_35 rfl (lv_at hl 5 rfl) ?_
          refine lv_iload_n hx hb dX12_failings_36 rfl (lv_at hl 6 rfl) ?_
          refine lv_iconst (v := 3) hx hb dX12_failings_37 (by decide) ?_
          refine gA_int (gA_runV (As := [.int y17, .int p0, .int p1, .int 3]) (rest := []) (ci := 12) (q0 := 0) hx hb hml hown hg hP hD hK hS hA hnw hgk (s_wrapAt3 l D ks H.size ad kk V18 L y17 p0 p1 3 (gB) hMV18 (by (first | exact om_636409b958c5 rgz12.2 xlp19_10 f74 | omega)) (by (first | exact om_1e2c46ce8ef5 rg_p0.1 oq1 r2.2 | omega)) (xlp19_11).1 (BKm.ag bk (show agr [(0, 60), (0, 65), (0, 68), (0, 69), (0, 73), (0, 76), (0, 90), (0, 91), (0, 92), (0, 93), (0, 95), (0, 96), (0, 98)] [59, 61, 62, 63, 64, 66, 67, 74, 75, 77, 78, 79, 80, 94, 97] V V18 from (agr.tr agr.rf ajV18 (by decide) (by decide))) (by decide))) w2284 w2286 w140 w172 w2287 rfl rfl hdV_yX12_wrapAt ⟨(by show (1) + 1 ≤ (4 * d1 + 40 * d2 + 13); (first | exact om_adfb42eaa151 n5 r2.2 | omega)), (by show 8 + (8 + 11) + (25) ≤ (100 * d1 + 1000 * d2 + 500); (first | exact om_1ad9b6cfa593 n5 r2.2 | omega))⟩ rfl hl.1 rfl (Nat.le_of_ble_eq_true rfl) dX12_failings_38 ⟨Nat.le_of_ble_eq_true rfl, Nat.le_of_ble_eq_true rfl⟩) hP hD hK hS hA (fun z315 u316 H locs w317 hP hD hK hS => ?_)
          obtain ⟨rgz315, t318, t319⟩ := w317
          have rgz315 : (-1) ≤ z315.toInt ∧ z315.toInt ≤ 11 := rgz315
          have t318 : Imp (0 ≤ z315.toInt) (∃ i9, KPo (bW (gB)) (isWb V18 p0 p1 3) (Int32.toNatClampNeg y17) i9 ∧ (bW (gB)).getD i9 0 = Int32.toNatClampNeg z315 ∧ z315.toInt < ((wN (gB) : Nat) : Int)) := t318
          have t319 : Imp (z315.toInt = -1) (((cnP (isWb V18 p0 p1 3) (bW (gB)) : Nat) : Int) ≤ y17.toInt) := t319
          refine lv_istore (lv' := [(8, .int z315), (7, .int y17), (6, .int z12), (5, .int (V 0 91)), (4, .int (V 0 90)), (0, .ref (ad 0)), (1, .int p0), (2, .int p1), (3, .int p2)]) hx hb dX12_failings_41 hl (by decide) rfl (fun ls hl => ?_)
          have pf320 : ∀ x, x ∈ bW gB → isWb V18 p0 p1 3 x = isF gB 3 gc.toNat gme.toNat x := fun x hx => by rw [gc9, gm8]; exact isWb_F hMV18 (BKm.ag bk (show agr [(0, 60), (0, 65), (0, 68), (0, 69), (0, 73), (0, 76), (0, 90), (0, 91), (0, 92), (0, 93), (0, 95), (0, 96), (0, 98)] [59, 61, 62, 63, 64, 66, 67, 74, 75, 77, 78, 79, 80, 94, 97] V V18 from (agr.tr agr.rf ajV18 (by decide) (by decide))) (by decide)) (bW_mem hx) cn8 (by rw [(xlp19_12.2.1 (Int32.toNatClampNeg p0) (by omega)).1]) (by omega) (by decide)
          have wn : 0 ≤ z315.toInt := by
            refine Int.not_lt.mp (fun hq => ?_)
            have h9 := Imp.go t319 (by omega)
            rw [cnP_cg pf320] at h9
            omega
          obtain ⟨i9, kp9, gd9, rw9⟩ := Imp.go t318 wn
          have hw1 : isWb V18 p0 p1 3 (Int32.toNatClampNeg z315) = true := by rw [← gd9]; exact kp9.2.1
          have kw := i_clamp (x := z315) rfl wn
          have nb : 0 ≤ (V18 0 11).toInt ∧ (V18 0 11).toInt ≤ 1 := hMV18 0 11
          have kn : (nwh V18 : Int) = (V18 0 11).toInt := i_clamp (x := V18 0 11) rfl nb.1
          have wnv := BKm.wn (BKm.ag bk (show agr [(0, 60), (0, 65), (0, 68), (0, 69), (0, 73), (0, 76), (0, 90), (0, 91), (0, 92), (0, 93), (0, 95), (0, 96), (0, 98)] [59, 61, 62, 63, 64, 66, 67, 74, 75, 77, 78, 79, 80, 94, 97] V V18 from (agr.tr agr.rf ajV18 (by decide) (by decide))) (by decide))
          have wE := TB.wrapE (ar := false) (w := Int32.toNatClampNeg z315) xlp19_11.1 (by omega) hw1 (by decide)
          have wE1 := wE.1
          have wE2 := wE.2.lt
          have kf9 := KPo.cg kp9 pf320
          have kk9 := i_clamp (x := y17) rfl (by (first | exact om_eafa9039069c f74 | omega))
          have wa9 : wAt gB i9 = nL gB.1 (904 + 8 * Int32.toNatClampNeg z315) := by unfold wAt; rw [gd9]
          have wst9 := BKm.wst (BKm.ag bk (show agr [(0, 60), (0, 65), (0, 68), (0, 69), (0, 73), (0, 76), (0, 90), (0, 91), (0, 92), (0, 93), (0, 95), (0, 96), (0, 98)] [59, 61, 62, 63, 64, 66, 67, 74, 75, 77, 78, 79, 80, 94, 97] V V18 from (agr.tr agr.rf ajV18 (by decide) (by decide))) (by decide)) (w := Int32.toNatClampNeg z315) (by omega)
          have il9 := kp9.1
          have fb9 : fB (bW gB) (isF gB 3 gc.toNat gme.toNat) i8 = some i9 := fB_k kf9 ln9.2 fe2 (by omega)
          have fc9 := fB_b fb9
          have kc9 := kf9.2.2
          have r321 : 0 ≤ (V18 0 65).toInt := (hMV18 0 65).1
          have r322 : (V18 0 60).toInt ≤ 300 := (hMV18 0 60).2
          have r323 : 0 ≤ (V18 0 93).toInt ∧ (V18 0 93).toInt ≤ 10 := hMV18 0 93
          have ht324 : TRs gB (mV V 2 gt gu, ga, Fcall1 glv go gc gsc gme :: gr) (mV V18 0 t8 k8, a8, Fwork glv go gc gsc gme 0 ((wAt gB i9 : Nat) : Int) (Int32.ofInt (fst1 gt gu)) [] :: Fcall3 glv go gc gsc gme (i9 : Int) gt gu :: gr) := TRs.st fh1 (SF.mk (show gr.length ≤ 394 from by (first | exact om_bd76c262a33d hl9 r7.2 | omega)) (show 0 + (totP gr) ≤ 2000 from by (first | exact om_e04f24ca9d07 hp9 r7.2 | omega)) (show 0 ≤ (V18 0 65).toInt ∧ (V18 0 65).toInt ≤ 300 from by (first | exact om_65732a9e84ef n1 xlp19_4 r22.2 r23.1 | omega)) (fun _ => ⟨by show 0 ≤ t8; omega, by show t8 ≤ 10000; omega⟩) trivial) ((st_7y rfl).trans ((rs_y fb9).trans mV_go))
          refine lv_iload hx hb dX12_failings_43 (lv_at hl 4 rfl) ?_
          refine lv_if_le (tgt := 53) hx hb dX12_failings_45 (by decide) (fun c325 => ?_) (fun c325 => ?_)
          · skip
            have f326 : ((V 0 90)).toInt ≤ 0 := b_le rfl (by decide) c325
            refine lv_iload hx hb dX12_failings_53 (lv_at hl 3 rfl) ?_
            refine lv_istore (lv' := [(9, .int (V 0 91)), (8, .int z315), (7, .int y17), (6, .int z12), (5, .int (V 0 91)), (4, .int (V 0 90)), (0, .ref (ad 0)), (1, .int p0), (2, .int p1), (3, .int p2)]) hx hb dX12_failings_55 hl (by decide) rfl (fun ls hl => ?_)
            have na9 : Int32.ofInt (fst1 gt gu) = (V 0 91) := by unfold fst1; rw [if_neg (by omega)]; rw [show gu = (V 0 91).toInt from by omega]; exact Int32.ofInt_toInt _
            have ht327 : TRs gB (mV V 2 gt gu, ga, Fcall1 glv go gc gsc gme :: gr) (mV V18 0 t8 k8, a8, Fwork glv go gc gsc gme 0 ((wAt gB i9 : Nat) : Int) (V 0 91) [] :: Fcall3 glv go gc gsc gme (i9 : Int) gt gu :: gr) := by rw [← na9]; exact ht324
            refine lv_aload_n hx hb dX12_failings_57 rfl (lv_at hl 6 rfl) ?_
            refine lv_iconst (v := 3) hx hb dX12_failings_58 (by decide) ?_
            refine lv_iload hx hb dX12_failings_59 (lv_at hl 1 rfl) ?_
            refine lv_iload hx hb dX12_failings_61 (lv_at hl 0 rfl) ?_
            refine gA_void (gA_runV (As := [.int 3, .int z315, .int (V 0 91)]) (rest := []) (ci := 12) (q0 := 0) hx hb hml hown hg hP hD hK hS hA hnw hgk (s_notes2 l D ks H.size ad kk V18 L 3 z315 (V 0 91) hMV18 (show (V18 0 76).toInt ≤ 1999999999 from by (first | exact om_bfbc4fe22ecf n1 n3 n4 r3.1 xlp19_4 xlp19_5 xlp19_8 xlp19_9 r22.2 r26.2 | omega))) w2300 w2302 w144 w172 w2303 rfl rfl hdV_yX12_notes ⟨(by show (0) + 1 ≤ (4 * d1 + 40 * d2 + 13); (first | exact om_b8f62b70be9c n5 r2.2 | omega)), (by show 8 + (4 + 11) + (0) ≤ (100 * d1 + 1000 * d2 + 500); (first | exact om_223a71cbc709 n5 r2.2 | omega))⟩ rfl hl.1 rfl (Nat.le_of_ble_eq_true rfl) dX12_failings_63 ⟨Nat.le_of_ble_eq_true rfl, Nat.le_of_ble_eq_true rfl⟩) hP hD hK hS hA (fun u329 H locs w330 hP hD hK hS => ?_)
            obtain ⟨V332, L333⟩ := u329
            obtain ⟨hMV332, ajV332, axL333, t331⟩ := w330
            have axL333 : L = L333 := Eq.symm axL333
            subst axL333
            have hP : va_P D vwCl (mw ad kk ks.1 V332 L) H := hP
            have hD : va_D A (mw ad kk ks.1 V332 L) := hD
            have hMV332 : rgd bM V332 := hMV332
            have ajV332 : agr [(0, 76)] [77, 78, 79] V18 V332 := ajV332
            have agV332 : agr [(0, 60), (0, 65), (0, 68), (0, 69), (0, 73), (0, 76), (0, 90), (0, 91), (0, 92), (0, 93), (0, 95), (0, 96), (0, 98)] [59, 61, 62, 63, 64, 66, 67, 74, 75, 77, 78, 79, 80, 94, 97] V V332 := agV18.tr ajV332 (by decide) (by decide)
            have t331 : (V332 0 76).toInt = (V18 0 76).toInt + 1 := t331
            have r334 : 0 ≤ ((V332 0 76)).toInt ∧ ((V332 0 76)).toInt ≤ 2000000000 := hMV332 0 76
            refine lv_aload_n hx hb dX12_failings_66 rfl (lv_at hl 6 rfl) ?_
            refine lv_aload_n hx hb dX12_failings_67 rfl (lv_at hl 6 rfl) ?_
            refine va_get (D := D) (ci := 12) (v := .ref (ad 44)) (C := RX12) (T := TX12) (N := 100) hx hb hg inX12 hown hK hP 0 rfl rfl 44 (by decide) (hg _ w1750) (fun _ h9 => h9) rfl dX12_failings_68 ?_
            refine lv_bipush (v := 12) hx hb dX12_failings_71 (by decide) ?_
            refine lv_aload_n hx hb dX12_failings_73 rfl (lv_at hl 6 rfl) ?_
            refine va_get (D := D) (ci := 12) (v := .int (V332 0 11)) (C := RX12) (T := TX12) (N := 100) hx hb hg inX12 hown hK hP 0 rfl rfl 11 (by decide) (hg _ w1717) (fun _ h9 => h9) rfl dX12_failings_74 ?_
            refine g_top (v := (V 0 11)) ((ajV332 0 11 rfl).trans (ajV18 0 11 rfl)) ?_
            have r335 : 0 ≤ ((V 0 11)).toInt ∧ ((V 0 11)).toInt ≤ 1 := hMV 0 11
            refine lv_imul hx hb dX12_failings_77 ?_
            refine lv_topi (fun z336 ez336 => ?_)
            have hz336 : z336.toInt = 12 * ((V 0 11)).toInt := i_mul ez336 (by decide) rfl (by (first | exact om_630bd6ee60c3 r335.1 r335.2 | omega))
            refine lv_iload hx hb dX12_failings_78 (lv_at hl 1 rfl) ?_
            refine lv_iadd hx hb dX12_failings_80 ?_
            refine lv_topi (fun z337 ez337 => ?_)
            have hz337 : z337.toInt = z336.toInt + z315.toInt := i_add ez337 rfl rfl (by (first | exact om_2e570e10cfc7 rgz315.2 wn r335.1 r335.2 hz336 | omega))
            have pq338 : (V332 0 11).toInt = ((V 0 11)).toInt := congrArg Int32.toInt ((ajV332 0 11 rfl).trans (ajV18 0 11 rfl))
            have pq339 : (V18 0 11).toInt = ((V 0 11)).toInt := congrArg Int32.toInt (ajV18 0 11 rfl)
            have kz : Int32.toNatClampNeg z337 = 12 * nwh V18 + Int32.toNatClampNeg z315 := by have h9 := i_clamp (x := z337) rfl (by (first | exact om_7ea21d029263 wn r335.1 hz336 hz337 | omega)); omega
            have e44 : V332 44 (Int32.toNatClampNeg z337) = V18 44 (Int32.toNatClampNeg z337) := (show agr [(0, 76)] [77, 78, 79] V18 V332 from (agr.tr agr.rf ajV332 (by decide) (by decide))) 44 _ rfl
            have q44 : V18 44 (12 * nwh V18 + Int32.toNatClampNeg z315) = V18 44 (Int32.toNatClampNeg z337) := by rw [kz]
            have q44i := congrArg Int32.toInt q44
            have e44i := congrArg Int32.toInt e44
            have pq340 : (V18 44 (Int32.toNatClampNeg z337)).toInt = ((V 44 (Int32.toNatClampNeg z337))).toInt := congrArg Int32.toInt (ajV18 44 (Int32.toNatClampNeg z337) rfl)
            have pq341 : (V332 44 (Int32.toNatClampNeg z337)).toInt = ((V 44 (Int32.toNatClampNeg z337))).toInt := congrArg Int32.toInt ((ajV332 44 (Int32.toNatClampNeg z337) rfl).trans (ajV18 44 (Int32.toNatClampNeg z337) rfl))
            have q44b : V18 44 (12 * nwh V18 + Int32.toNatClampNeg z315) = V 44 (Int32.toNatClampNeg z337) := q44.trans ((show agr [(0, 60), (0, 65), (0, 68), (0, 69), (0, 73), (0, 76), (0, 90), (0, 91), (0, 92), (0, 93), (0, 95), (0, 96), (0, 98)] [59, 61, 62, 63, 64, 66, 67, 74, 75, 77, 78, 79, 80, 94, 97] V V18 from (agr.tr agr.rf ajV18 (by decide) (by decide))) 44 _ rfl)
            have nw9 : nwh V332 = nwh V18 := (nwh_ag (show agr [(0, 76)] [77, 78, 79] V18 V332 from (agr.tr agr.rf ajV332 (by decide) (by decide))) ⟨rfl, fun _ => rfl, fun _ => rfl, fun _ => rfl, fun _ => rfl, fun _ => rfl, fun _ => rfl⟩).1
            refine va_iald (D := D) (i := z337) hx hb hK hP 37 36 rfl rfl (i_in (a := z337.toInt) rfl (by (first | exact om_5a28bbe8109b rgz315.2 wn r335.1 r335.2 hz336 hz337 | omega))) dX12_failings_81 ?_
            refine g_top (v := (V 44 (Int32.toNatClampNeg z337))) ((ajV332 44 (Int32.toNatClampNeg z337) rfl).trans (ajV18 44 (Int32.toNatClampNeg z337) rfl)) ?_
            refine lv_iload_n hx hb dX12_failings_82 rfl (lv_at hl 7 rfl) ?_
            refine lv_iload_n hx hb dX12_failings_83 rfl (lv_at hl 9 rfl) ?_
            refine lv_iload hx hb dX12_failings_84 (lv_at hl 0 rfl) ?_
            refine lv_iconst (v := (-1)) hx hb dX12_failings_86 (by decide) ?_
            have ht342 : TRs gB (mV V 2 gt gu, ga, Fcall1 glv go gc gsc gme :: gr) (mV V332 0 t8 k8, a8, Fwork glv go gc gsc gme 0 ((wAt gB i9 : Nat) : Int) (V 0 91) [] :: Fcall3 glv go gc gsc gme (i9 : Int) gt gu :: gr) := by rw [mV_ag (show agr [(0, 76)] [77, 78, 79] V18 V332 from (agr.tr agr.rf ajV332 (by decide) (by decide))) (by decide)]; exact ht327
            have fm344 : FRM V V332 (-1) := (FRM.tr xlp19_12 (FRM.ag (show agr [(0, 76)] [77, 78, 79] V18 V332 from (agr.tr agr.rf ajV332 (by decide) (by decide))) ⟨⟨rfl, fun _ => rfl, fun _ => rfl, fun _ => rfl, fun _ => rfl, fun _ => rfl, fun _ => rfl⟩, by decide, by decide, rfl, rfl, fun _ => rfl, fun _ => rfl, fun _ => rfl, fun _ => rfl, fun _ => rfl, fun _ => rfl⟩) agV18 ⟨rfl, fun _ => rfl, fun _ => rfl, fun _ => rfl, fun _ => rfl, fun _ => rfl, fun _ => rfl⟩ (by (first | exact om_abdc88b0c8fc xlp19_8 | omega)))
            have eo343 : (V332 61 (Int32.toNatClampNeg p0)).toInt = (V 61 (Int32.toNatClampNeg p0)).toInt := congrArg Int32.toInt ((fm344).2.1 (Int32.toNatClampNeg p0) (by have h9 := i_clamp (x := p0) rfl (by (first | exact om_eafa9039069c rg_p0.1 | omega)); omega)).1
            have lg345 : (Fcall3 glv go gc gsc gme (i9 : Int) gt gu :: gr).length = gr.length + 1 := rfl
            have lg346 : totP (Fcall3 glv go gc gsc gme (i9 : Int) gt gu :: gr) = 0 + (totP gr) := rfl
            have oq8 : ∃ q9, OQ gB (ndW gB gc 0) (decide ((0 : Int) < 0)) (wAt gB i9) 0 q9 := ⟨0, wfW0 br.1 fc9.2.2.2 fc9.2.2.1 (by decide)⟩
            have r347 : Int32.toInt (-1) = (-1) := by decide
            have pq348 : (V332 0 65).toInt = ((V18 0 65)).toInt := congrArg Int32.toInt (ajV332 0 65 rfl)
            have pq349 : (V332 0 60).toInt = ((V18 0 60)).toInt := congrArg Int32.toInt (ajV332 0 60 rfl)
            have pq350 : (V332 0 95).toInt = ((V18 0 95)).toInt := congrArg Int32.toInt (ajV332 0 95 rfl)
            have pq351 : (V332 0 73).toInt = ((V18 0 73)).toInt := congrArg Int32.toInt (ajV332 0 73 rfl)
            have pq352 : (V332 0 69).toInt = ((V18 0 69)).toInt := congrArg Int32.toInt (ajV332 0 69 rfl)
            have pq353 : (V332 0 93).toInt = ((V18 0 93)).toInt := congrArg Int32.toInt (ajV332 0 93 rfl)
            have pq354 : (V332 0 98).toInt = ((V18 0 98)).toInt := congrArg Int32.toInt (ajV332 0 98 rfl)
            have pq355 : (V332 61 (Int32.toNatClampNeg p0)).toInt = ((V18 61 (Int32.toNatClampNeg p0))).toInt := congrArg Int32.toInt (ajV332 61 (Int32.toNatClampNeg p0) rfl)
            have r356 : 0 ≤ ((V18 61 (Int32.toNatClampNeg p0))).toInt ∧ ((V18 61 (Int32.toNatClampNeg p0))).toInt ≤ 23 := hMV18 61 (Int32.toNatClampNeg p0)
            have rt357 : RT V332 := RT.ag xlp19_11 hMV18 (show agr [(0, 76)] [77, 78, 79] V18 V332 from (agr.tr agr.rf ajV332 (by decide) (by decide))) ⟨⟨rfl, fun _ => rfl, fun _ => rfl, fun _ => rfl, fun _ => rfl, fun _ => rfl, fun _ => rfl⟩, by decide, by decide, rfl, rfl, fun _ => rfl, fun _ => rfl, fun _ => rfl, fun _ => rfl, fun _ => rfl, fun _ => rfl⟩ (c0k.ag (show agr [(0, 76)] [77, 78, 79] V18 V332 from (agr.tr agr.rf ajV332 (by decide) (by decide))) rfl)
            have rj358 : RJm V332 gB := RJm.ag xlp19_13 (show agr [(0, 76)] [77, 78, 79] V18 V332 from (agr.tr agr.rf ajV332 (by decide) (by decide))) (by decide)
            have fm359 : FRM V V332 (-1) := (FRM.tr xlp19_12 (FRM.ag (show agr [(0, 76)] [77, 78, 79] V18 V332 from (agr.tr agr.rf ajV332 (by decide) (by decide))) ⟨⟨rfl, fun _ => rfl, fun _ => rfl, fun _ => rfl, fun _ => rfl, fun _ => rfl, fun _ => rfl⟩, by decide, by decide, rfl, rfl, fun _ => rfl, fun _ => rfl, fun _ => rfl, fun _ => rfl, fun _ => rfl, fun _ => rfl⟩) agV18 ⟨rfl, fun _ => rfl, fun _ => rfl, fun _ => rfl, fun _ => rfl, fun _ => rfl, fun _ => rfl⟩ (by (first | exact om_abdc88b0c8fc xlp19_8 | omega)))
            have cm360 : CMPo V332 gB (Int32.toNatClampNeg p0) := CMPo.fr cm9 bk fm359 (by have h9 := i_clamp (x := p0) rfl (by (first | exact om_eafa9039069c rg_p0.1 | omega)); (first | exact om_6c25244c01f7 oq1 ko9 | omega)) (RTn rt bk (by have h9 := i_clamp (x := p0) rfl (by (first | exact om_eafa9039069c rg_p0.1 | omega)); omega))
            refine gA_int (gA_runV (As := [.int (V 44 (Int32.toNatClampNeg z337)), .int p0, .int p2, .int (V 0 91), .int (-1)]) (rest := []) (ci := 12) (q0 := 0) hx hb hml hown hg hP hD hK hS hA hnw hgk (hk_s_worksD H.size ad kk V332 L (V 44 (Int32.toNatClampNeg z337)) p0 p2 (V 0 91) (-1) (gB) (grk) (Fcall3 glv go gc gsc gme (i9 : Int) gt gu :: gr) (a8) (0) (t8) (k8) (glv) (go) (gc) (gsc) (gme) (0) (10000 * nwh V18) (10000 * nwh V18 + 10000) ((wAt gB i9)) hMV332 (by omega) (by (first | exact om_1e2c46ce8ef5 rg_p0.1 oq1 r2.2 | omega)) (by (first | exact om_13ba01c174fe rg_p2.1 rg_p2.2 | omega)) rt357 (show (V332 0 65).toInt ≤ (V332 0 60).toInt from by (first | exact om_cebe9a256b98 n1 xlp19_4 pq348 pq349 | omega)) (show (V332 0 95).toInt ≤ (V332 0 65).toInt from by (first | exact om_193d16bbc0e3 n2 xlp19_3 xlp19_8 pq348 pq350 | omega)) (show (V332 0 73).toInt + (V332 0 95).toInt - (V332 0 65).toInt ≤ 999000 from by (first | exact om_ec3a52bb0c7c n3 xlp19_5 pq348 pq350 pq351 | omega)) (show (V332 0 76).toInt - (V332 0 69).toInt - (V332 0 73).toInt ≤ 1000000001 from by (first | exact om_0e318805f41c n4 xlp19_9 t331 pq351 pq352 | omega)) (show 300 - (V332 0 60).toInt ≤ ((d1 : Nat) : Int) from by (first | exact om_3013ce33764f n5 xlp19_2 pq349 | omega)) (show 10 - (V332 0 93).toInt ≤ ((d2 : Nat) : Int) from by (first | exact om_1ce157d38d46 n6 xlp19_1 pq353 | omega)) (BKm.ag bk (show agr [(0, 60), (0, 65), (0, 68), (0, 69), (0, 73), (0, 76), (0, 90), (0, 91), (0, 92), (0, 93), (0, 95), (0, 96), (0, 98)] [59, 61, 62, 63, 64, 66, 67, 74, 75, 77, 78, 79, 80, 94, 97] V V332 from (agr.tr (agr.tr agr.rf ajV18 (by decide) (by decide)) ajV332 (by decide) (by decide))) (by decide)) br rj358 (fun h9 => absurd h9 (by decide)) (show (((Fcall3 glv go gc gsc gme (i9 : Int) gt gu :: gr).length : Nat) : Int) ≤ 28 * (V332 0 93).toInt + 26 from by (first | exact om_b3def4d72315 hl9 xlp19_1 lg345 pq353 | omega)) (show ((totP (Fcall3 glv go gc gsc gme (i9 : Int) gt gu :: gr) : Nat) : Int) ≤ 84 * (V332 0 93).toInt + 56 from by (first | exact om_756680afaca1 hp9 xlp19_1 lg346 pq353 | omega)) (show p0.toInt < (V332 0 60).toInt from by (first | exact om_abb00e6ed28d oq1 xlp19_2 pq349 | omega)) (show (V332 0 98).toInt + 400 * ((d2 : Nat) : Int) + 30 ≤ 19000 from by (first | exact om_2740c7d8a110 n7 xlp19_0 pq354 | omega)) (CE.same (show CE 0 false V18 (10000 * nwh V18) (10000 * nwh V18 + 10000) (V 44 (Int32.toNatClampNeg z337)).toInt.toNat from q44b ▸ wE.2) (Int.le_refl _) (Nat.le_refl _) (fun i _ _ => ⟨(show agr [(0, 76)] [77, 78, 79] V18 V332 from (agr.tr agr.rf ajV332 (by decide) (by decide))) 45 _ rfl, (show agr [(0, 76)] [77, 78, 79] V18 V332 from (agr.tr agr.rf ajV332 (by decide) (by decide))) 46 _ rfl, (show agr [(0, 76)] [77, 78, 79] V18 V332 from (agr.tr agr.rf ajV332 (by decide) (by decide))) 47 _ rfl⟩)) (show ((10000 * nwh V18 + 10000) : Int) ≤ 20000 from by (first | exact om_7dcbc42c1fac nb.2 kn | omega)) (hMV332 27 _).1 (show ((10000 * nwh V18) : Int) = 10000 * ((nwh V332 : Nat) : Int) from by (first | exact om_e39273519f2d nw9 | omega)) (show ((V 44 (Int32.toNatClampNeg z337))).toInt = ((10000 * nwh V332 + ((wAt gB i9)) : Nat) : Int) from by omega) oq8 (show (V332 0 93).toInt = (glv) from by (first | exact om_a0c405496c73 zl9 xlp19_1 pq353 | omega)) (show p0.toInt = (go) from by (first | exact om_570b691c1130 zo9 | omega)) (show (V332 61 (Int32.toNatClampNeg p0)).toInt = (gc) from by (first | exact om_cd7d0a6a31bc zc9 eo343 | omega)) (show p2.toInt = (gsc) from by (first | exact om_570b691c1130 zs9 | omega)) cm360) w2268 w2270 w136 w172 w2271 rfl rfl hdV_yX12_works ⟨(by show (4 * (d1) + 40 * (d2) + 12) + 1 ≤ (4 * d1 + 40 * d2 + 13); (first | exact om_2f192a0d189d | omega)), (by show 8 + (6 + 11) + (100 * (d1) + 1000 * (d2) + 460) ≤ (100 * d1 + 1000 * d2 + 500); (first | exact om_65a772b3cf36 | omega))⟩ rfl hl.1 rfl (Nat.le_of_ble_eq_true rfl) dX12_failings_87 ⟨Nat.le_of_ble_eq_true rfl, Nat.le_of_ble_eq_true rfl⟩) hP hD hK hS hA (fun z361 u362 H locs w363 hP hD hK hS => ?_)
            obtain ⟨V380, L381⟩ := u362
            obtain ⟨hMV380, ajV380, axL381, rgz361, t364, t365, t366, t367, t368, t369, t370, t371, t372, t373, t374, t375, t376, t377, t378, t379⟩ := w363
            have axL381 : L = L381 := Eq.symm axL381
            subst axL381
            have hP : va_P D vwCl (mw ad kk ks.1 V380 L) H := hP
            have hD : va_D A (mw ad kk ks.1 V380 L) := hD
            have hMV380 : rgd bM V380 := hMV380
            have ajV380 : agr [(0, 60), (0, 65), (0, 68), (0, 69), (0, 73), (0, 76), (0, 90), (0, 91), (0, 92), (0, 93), (0, 95), (0, 96), (0, 98)] [59, 61, 62, 63, 64, 66, 67, 74, 75, 77, 78, 79, 80, 94, 97] V332 V380 := ajV380
            have agV380 : agr [(0, 60), (0, 65), (0, 68), (0, 69), (0, 73), (0, 76), (0, 90), (0, 91), (0, 92), (0, 93), (0, 95), (0, 96), (0, 98)] [59, 61, 62, 63, 64, 66, 67, 74, 75, 77, 78, 79, 80, 94, 97] V V380 := agV332.tr ajV380 (by decide) (by decide)
            have rgz361 : 0 ≤ z361.toInt ∧ z361.toInt ≤ 2 := rgz361
            have t364 : (V380 0 93).toInt = (V332 0 93).toInt := t364
            have t365 : (V380 0 98).toInt = (V332 0 98).toInt := t365
            have t366 : (V332 0 60).toInt ≤ (V380 0 60).toInt := t366
            have t367 : (V332 0 65).toInt ≤ (V380 0 65).toInt := t367
            have t368 : (V380 0 65).toInt - (V332 0 65).toInt ≤ (V380 0 60).toInt - (V332 0 60).toInt := t368
            have t369 : (V380 0 73).toInt + (V380 0 95).toInt - (V380 0 65).toInt ≤ (V332 0 73).toInt + (V332 0 95).toInt - (V332 0 65).toInt := t369
            have t370 : (V332 0 73).toInt ≤ (V380 0 73).toInt := t370
            have t371 : (V332 0 69).toInt ≤ (V380 0 69).toInt := t371
            have t372 : (V380 0 95).toInt = (V332 0 95).toInt := t372
            have t373 : (V380 0 76).toInt - (V380 0 69).toInt - (V380 0 73).toInt ≤ (V332 0 76).toInt - (V332 0 69).toInt - (V332 0 73).toInt := t373
            have t374 : Imp (z361.toInt ≠ 2) ((V380 0 76).toInt - (V380 0 69).toInt - (V380 0 73).toInt + 1 ≤ (V332 0 76).toInt - (V332 0 69).toInt - (V332 0 73).toInt) := t374
            have t375 : RT V380 := t375
            have t376 : FRM V332 V380 (-1) := t376
            have t377 : RJm V380 (gB) := t377
            have t378 : PLK V332 V380 (V332 0 98).toInt.toNat := t378
            have t379 : DPc (gB) (mV V332 0 (t8) (k8), (a8), Fwork (glv) (go) (gc) (gsc) (gme) 0 ((((wAt gB i9)) : Nat) : Int) (V 0 91) [] :: (Fcall3 glv go gc gsc gme (i9 : Int) gt gu :: gr)) V380 (Fcall3 glv go gc gsc gme (i9 : Int) gt gu :: gr) z361.toInt (V380 0 96) (24 * (10 - (V332 0 93).toInt)) := t379
            have r382 : 0 ≤ ((V380 0 93)).toInt ∧ ((V380 0 93)).toInt ≤ 10 := hMV380 0 93
            have r383 : 0 ≤ ((V380 0 98)).toInt ∧ ((V380 0 98)).toInt ≤ 20000 := hMV380 0 98
            have r384 : 0 ≤ ((V380 0 60)).toInt ∧ ((V380 0 60)).toInt ≤ 300 := hMV380 0 60
            have r385 : 0 ≤ ((V380 0 65)).toInt ∧ ((V380 0 65)).toInt ≤ 1000000 := hMV380 0 65
            have r386 : 0 ≤ ((V380 0 73)).toInt ∧ ((V380 0 73)).toInt ≤ 1000000 := hMV380 0 73
            have r387 : 0 ≤ ((V380 0 95)).toInt ∧ ((V380 0 95)).toInt ≤ 300 := hMV380 0 95
            have r388 : 0 ≤ ((V380 0 69)).toInt ∧ ((V380 0 69)).toInt ≤ 3000 := hMV380 0 69
            have r389 : 0 ≤ ((V380 0 76)).toInt ∧ ((V380 0 76)).toInt ≤ 2000000000 := hMV380 0 76
            refine lv_istore (lv' := [(10, .int z361), (9, .int (V 0 91)), (8, .int z315), (7, .int y17), (6, .int z12), (5, .int (V 0 91)), (4, .int (V 0 90)), (0, .ref (ad 0)), (1, .int p0), (2, .int p1), (3, .int p2)]) hx hb dX12_failings_90 hl (by decide) rfl (fun ls hl => ?_)
            have dp390 := t379
            rcases (show z361.toInt = 0 ∨ z361.toInt = 1 ∨ z361.toInt = 2 from by (first | exact om_e837ad917e1d rgz361.1 rgz361.2 | omega)) with q391 | q391 | q391
            · skip
              obtain ⟨mt394, mk395, ht392⟩ := dp390.e0 q391
              have ht396 : TRs gB (mV V 2 gt gu, ga, Fcall1 glv go gc gsc gme :: gr) (mV V380 1 mt394 mk395, ((V380 0 96)), Fcall3 glv go gc gsc gme (i9 : Int) gt gu :: gr) := TRs.tr ht342 ht392
              have r397 : 0 ≤ (V380 0 65).toInt := (hMV380 0 65).1
              have r398 : (V380 0 60).toInt ≤ 300 := (hMV380 0 60).2
              have r399 : 0 ≤ (V380 0 93).toInt ∧ (V380 0 93).toInt ≤ 10 := hMV380 0 93
              have ht400 : TRs gB (mV V 2 gt gu, ga, Fcall1 glv go gc gsc gme :: gr) (mV V380 1 mt394 mk395, ((V380 0 96)), gr) := TRs.st ht396 (SF.mk (show gr.length ≤ 394 from by (first | exact om_bd76c262a33d hl9 r7.2 | omega)) (show 0 + (totP gr) ≤ 2000 from by (first | exact om_e04f24ca9d07 hp9 r7.2 | omega)) (show 0 ≤ (V380 0 65).toInt ∧ (V380 0 65).toInt ≤ 300 from by (first | exact om_810da67e2db8 n1 xlp19_4 pq348 pq349 t368 r384.2 r385.1 | omega)) (fun h9 => absurd (show (1 : Int) = 2 from h9) (by decide)) trivial) (st_7n (show ¬ (1 : Int) = 2 by decide))
              refine lv_iload hx hb dX12_failings_92 (lv_at hl 0 rfl) ?_
              refine lv_iconst (v := 1) hx hb dX12_failings_94 (by decide) ?_
              refine lv_icmp_eq (tgt := 101) hx hb dX12_failings_95 (by decide) (fun c401 => ?_) (fun c401 => ?_)
              · skip
                have f402 : z361.toInt = 1 := b_eq rfl (by decide) c401
                exfalso; first | exact om_4c701f2d8c50 q391 f402 | first | omega | ((try (have i_t374 := Imp.go t374 (by omega))); omega)
              · skip
                have f403 : z361.toInt ≠ 1 := b_neq rfl (by decide) c401
                refine lv_iload hx hb dX12_failings_98 (lv_at hl 0 rfl) ?_
                have fm404 : FRM V V332 (-1) := (FRM.tr xlp19_12 (FRM.ag (show agr [(0, 76)] [77, 78, 79] V18 V332 from (agr.tr agr.rf ajV332 (by decide) (by decide))) ⟨⟨rfl, fun _ => rfl, fun _ => rfl, fun _ => rfl, fun _ => rfl, fun _ => rfl, fun _ => rfl⟩, by decide, by decide, rfl, rfl, fun _ => rfl, fun _ => rfl, fun _ => rfl, fun _ => rfl, fun _ => rfl, fun _ => rfl⟩) agV18 ⟨rfl, fun _ => rfl, fun _ => rfl, fun _ => rfl, fun _ => rfl, fun _ => rfl, fun _ => rfl⟩ (by (first | exact om_abdc88b0c8fc xlp19_8 | omega)))
                have fm405 : FRM V V380 (-1) := (FRM.tr fm404 t376 agV332 ⟨rfl, fun _ => rfl, fun _ => rfl, fun _ => rfl, fun _ => rfl, fun _ => rfl, fun _ => rfl⟩ (by (first | exact om_4052a1005a1f xlp19_8 pq350 | omega)))
                have pk406 : PLK V V332 (V 0 98).toInt.toNat := (PLK.tr xlp19_14 (PLK.ag (t := (V 0 98).toInt.toNat) (show agr [(0, 76)] [77, 78, 79] V18 V332 from (agr.tr agr.rf ajV332 (by decide) (by decide))) (fun _ => rfl)) (Nat.le_refl _))
                have pk407 : PLK V V380 (V 0 98).toInt.toNat := (PLK.tr pk406 t378 (by (first | exact om_c8124caa8f7e r8.1 xlp19_0 pq354 | omega)))
                have rp408 : DPc gB (mV V 2 gt gu, ga, Fcall1 glv go gc gsc gme :: gr) V380 gr (z361.toInt) (V380 0 96) (24 * (10 - (V 0 93).toInt)) := DPc.m0 ht400 (by (first | exact om_b1799fcf2d63 rgz361.1 q391 | omega))
                exact W.iret (v := z361) hx hb hr (fun t ht hW => ⟨⟨z361, (V380, L), rfl, ⟨hMV380, agV380, rfl, (show 0 ≤ z361.toInt ∧ z361.toInt ≤ 2 from by first | exact om_8c285ac91b81 rgz361.1 rgz361.2 | first | omega | ((try (have i_t374 := Imp.go t374 (by omega))); omega)), (show (V380 0 93).toInt = (V 0 93).toInt from by first | exact om_a0c405496c73 xlp19_1 pq353 t364 | first | omega | ((try (have i_t374 := Imp.go t374 (by omega))); omega)), (show (V380 0 98).toInt = (V 0 98).toInt from by first | exact om_a0c405496c73 xlp19_0 pq354 t365 | first | omega | ((try (have i_t374 := Imp.go t374 (by omega))); omega)), (show (V 0 60).toInt ≤ (V380 0 60).toInt from by first | exact om_860317e29598 xlp19_2 pq349 t366 | first | omega | ((try (have i_t374 := Imp.go t374 (by omega))); omega)), (show (V 0 65).toInt ≤ (V380 0 65).toInt from by first | exact om_860317e29598 xlp19_3 pq348 t367 | first | omega | ((try (have i_t374 := Imp.go t374 (by omega))); omega)), (show (V380 0 65).toInt - (V 0 65).toInt ≤ (V380 0 60).toInt - (V 0 60).toInt from by first | exact om_7a7d927724fb xlp19_4 pq348 pq349 t368 | first | omega | ((try (have i_t374 := Imp.go t374 (by omega))); omega)), (show (V380 0 73).toInt + (V380 0 95).toInt - (V380 0 65).toInt ≤ (V 0 73).toInt + (V 0 95).toInt - (V 0 65).toInt from by first | exact om_a90075b28fa2 xlp19_5 pq348 pq350 pq351 t369 | first | omega | ((try (have i_t374 := Imp.go t374 (by omega))); omega)), (show (V 0 73).toInt ≤ (V380 0 73).toInt from by first | exact om_860317e29598 xlp19_6 pq351 t370 | first | omega | ((try (have i_t374 := Imp.go t374 (by omega))); omega)), (show (V 0 69).toInt ≤ (V380 0 69).toInt from by first | exact om_860317e29598 xlp19_7 pq352 t371 | first | omega | ((try (have i_t374 := Imp.go t374 (by omega))); omega)), (show (V380 0 95).toInt = (V 0 95).toInt from by first | exact om_a0c405496c73 xlp19_8 pq350 t372 | first | omega | ((try (have i_t374 := Imp.go t374 (by omega))); omega)), (show (V380 0 76).toInt - (V380 0 69).toInt - (V380 0 73).toInt ≤ (V 0 76).toInt - (V 0 69).toInt - (V 0 73).toInt + 1 from by first | exact om_872d4b6e7e86 xlp19_9 t331 pq351 pq352 t373 | first | omega | ((try (have i_t374 := Imp.go t374 (by omega))); omega)), (Imp.mk (fun hp => have hp : z361.toInt ≠ 2 := hp; (show (V380 0 76).toInt - (V380 0 69).toInt - (V380 0 73).toInt ≤ (V 0 76).toInt - (V 0 69).toInt - (V 0 73).toInt from by first | exact om_c8ebd92074a9 xlp19_9 t331 pq351 pq352 ((Imp.go t374 (hp))) | first | omega | ((try (have i_t374 := Imp.go t374 (by omega))); omega)))), t375, fm405, t377, pk407, rp408⟩, by rw [ht]; exact hP, va_K.moved hW.alike hK, hD⟩, hS.F ht⟩) hS.2.2 dX12_failings_100
            · skip
              obtain ⟨bd413, ma410, ht409⟩ := dp390.e1 q391
              have ht414 : TRs gB (mV V 2 gt gu, ga, Fcall1 glv go gc gsc gme :: gr) (mV V380 2 (V380 0 90).toInt (V380 0 91).toInt, ma410, Fcall3 glv go gc gsc gme (i9 : Int) gt gu :: gr) := TRs.tr ht342 ht409
              refine lv_iload hx hb dX12_failings_92 (lv_at hl 0 rfl) ?_
              refine lv_iconst (v := 1) hx hb dX12_failings_94 (by decide) ?_
              refine lv_icmp_eq (tgt := 101) hx hb dX12_failings_95 (by decide) (fun c415 => ?_) (fun c415 => ?_)
              · skip
                have f416 : z361.toInt = 1 := b_eq rfl (by decide) c415
                obtain ⟨z417, ez417⟩ : ∃ y : Int32, y = y17 + (-1) := ⟨_, rfl⟩
                have hz417 : z417.toInt = y17.toInt + (-1) := i_add ez417 rfl (by decide) (by (first | exact om_8644478ce7aa rgz12.2 xlp19_10 f74 | omega))
                refine lv_iinc (v := z417) (lv' := [(7, .int z417), (10, .int z361), (9, .int (V 0 91)), (8, .int z315), (6, .int z12), (5, .int (V 0 91)), (4, .int (V 0 90)), (0, .ref (ad 0)), (1, .int p0), (2, .int p1), (3, .int p2)]) hx hb dX12_failings_101 hl (k := 3) rfl (by rw [ez417]; rfl) (by decide) rfl (fun ls hl => ?_)
                refine lv_goto (tgt := 27) hx hb dX12_failings_104 (by decide) ?_
                have fm418 : FRM V V332 (-1) := (FRM.tr xlp19_12 (FRM.ag (show agr [(0, 76)] [77, 78, 79] V18 V332 from (agr.tr agr.rf ajV332 (by decide) (by decide))) ⟨⟨rfl, fun _ => rfl, fun _ => rfl, fun _ => rfl, fun _ => rfl, fun _ => rfl, fun _ => rfl⟩, by decide, by decide, rfl, rfl, fun _ => rfl, fun _ => rfl, fun _ => rfl, fun _ => rfl, fun _ => rfl, fun _ => rfl⟩) agV18 ⟨rfl, fun _ => rfl, fun _ => rfl, fun _ => rfl, fun _ => rfl, fun _ => rfl, fun _ => rfl⟩ (by (first | exact om_abdc88b0c8fc xlp19_8 | omega)))
                have fm419 : FRM V V380 (-1) := (FRM.tr fm418 t376 agV332 ⟨rfl, fun _ => rfl, fun _ => rfl, fun _ => rfl, fun _ => rfl, fun _ => rfl, fun _ => rfl⟩ (by (first | exact om_4052a1005a1f xlp19_8 pq350 | omega)))
                have pk420 : PLK V V332 (V 0 98).toInt.toNat := (PLK.tr xlp19_14 (PLK.ag (t := (V 0 98).toInt.toNat) (show agr [(0, 76)] [77, 78, 79] V18 V332 from (agr.tr agr.rf ajV332 (by decide) (by decide))) (fun _ => rfl)) (Nat.le_refl _))
                have pk421 : PLK V V380 (V 0 98).toInt.toNat := (PLK.tr pk420 t378 (by (first | exact om_c8124caa8f7e r8.1 xlp19_0 pq354 | omega)))
                exact ihlp19 z417 V380 H locs ls (by first | exact om_12f829fe3ab5 rgz12.2 xlp19_10 f74 hz417 | first | omega | ((try (have i_t374 := Imp.go t374 (by omega))); omega)) (show (V380 0 98).toInt = (V 0 98).toInt from by first | exact om_a0c405496c73 xlp19_0 pq354 t365 | first | omega | ((try (have i_t374 := Imp.go t374 (by omega))); omega)) (show (V380 0 93).toInt = (V 0 93).toInt from by first | exact om_a0c405496c73 xlp19_1 pq353 t364 | first | omega | ((try (have i_t374 := Imp.go t374 (by omega))); omega)) (show (V 0 60).toInt ≤ (V380 0 60).toInt from by first | exact om_860317e29598 xlp19_2 pq349 t366 | first | omega | ((try (have i_t374 := Imp.go t374 (by omega))); omega)) (show (V 0 65).toInt ≤ (V380 0 65).toInt from by first | exact om_860317e29598 xlp19_3 pq348 t367 | first | omega | ((try (have i_t374 := Imp.go t374 (by omega))); omega)) (show (V380 0 65).toInt - (V 0 65).toInt ≤ (V380 0 60).toInt - (V 0 60).toInt from by first | exact om_7a7d927724fb xlp19_4 pq348 pq349 t368 | first | omega | ((try (have i_t374 := Imp.go t374 (by omega))); omega)) (show (V380 0 73).toInt + (V380 0 95).toInt - (V380 0 65).toInt ≤ (V 0 73).toInt + (V 0 95).toInt - (V 0 65).toInt from by first | exact om_a90075b28fa2 xlp19_5 pq348 pq350 pq351 t369 | first | omega | ((try (have i_t374 := Imp.go t374 (by omega))); omega)) (show (V 0 73).toInt ≤ (V380 0 73).toInt from by first | exact om_860317e29598 xlp19_6 pq351 t370 | first | omega | ((try (have i_t374 := Imp.go t374 (by omega))); omega)) (show (V 0 69).toInt ≤ (V380 0 69).toInt from by first | exact om_860317e29598 xlp19_7 pq352 t371 | first | omega | ((try (have i_t374 := Imp.go t374 (by omega))); omega)) (show (V380 0 95).toInt = (V 0 95).toInt from by first | exact om_a0c405496c73 xlp19_8 pq350 t372 | first | omega | ((try (have i_t374 := Imp.go t374 (by omega))); omega)) (show (V380 0 76).toInt - (V380 0 69).toInt - (V380 0 73).toInt ≤ (V 0 76).toInt - (V 0 69).toInt - (V 0 73).toInt from by first | exact om_c8ebd92074a9 xlp19_9 t331 pq351 pq352 ((Imp.go t374 (om_6bba7cc50278 q391))) | first | omega | ((try (have i_t374 := Imp.go t374 (by omega))); omega)) (show z417.toInt ≤ z12.toInt - 1 from by first | exact om_892008aa65e1 xlp19_10 hz417 | first | omega | ((try (have i_t374 := Imp.go t374 (by omega))); omega)) t375 fm419 t377 pk421 (Or.inr ⟨i9, (V380 0 90).toInt, (V380 0 91).toInt, ma410, by omega, by omega, by omega, ht414⟩) (by first | exact om_2e0ce331b730 hn hz417 | first | omega | ((try (have i_t374 := Imp.go t374 (by omega))); omega)) (agr.tr (agr.tr (agr.tr agr.rf ajV18 (by decide) (by decide)) ajV332 (by decide) (by decide)) ajV380 (by decide) (by decide)) hMV380 hP hD hS (lv_sub hl [0, 4, 5, 6, 7, 8, 9, 10] rfl)
              · skip
                have f422 : z361.toInt ≠ 1 := b_neq rfl (by decide) c415
                exfalso; first | exact om_b36fcf15d462 q391 f422 | first | omega | ((try (have i_t374 := Imp.go t374 (by omega))); omega)
            · skip
              obtain ⟨ma424, mt425, mk426, ht423⟩ := dp390.e2 q391
              have ht427 : TRs gB (mV V 2 gt gu, ga, Fcall1 glv go gc gsc gme :: gr) (mV V380 3 mt425 mk426, ma424, Fcall3 glv go gc gsc gme (i9 : Int) gt gu :: gr) := TRs.tr ht342 ht423
              have r428 : 0 ≤ (V380 0 65).toInt := (hMV380 0 65).1
              have r429 : (V380 0 60).toInt ≤ 300 := (hMV380 0 60).2
              have r430 : 0 ≤ (V380 0 93).toInt ∧ (V380 0 93).toInt ≤ 10 := hMV380 0 93
              have ht431 : TRs gB (mV V 2 gt gu, ga, Fcall1 glv go gc gsc gme :: gr) (mV V380 3 mt425 mk426, ma424, gr) := TRs.st ht427 (SF.mk (show gr.length ≤ 394 from by (first | exact om_bd76c262a33d hl9 r7.2 | omega)) (show 0 + (totP gr) ≤ 2000 from by (first | exact om_e04f24ca9d07 hp9 r7.2 | omega)) (show 0 ≤ (V380 0 65).toInt ∧ (V380 0 65).toInt ≤ 300 from by (first | exact om_810da67e2db8 n1 xlp19_4 pq348 pq349 t368 r384.2 r385.1 | omega)) (fun h9 => absurd (show (3 : Int) = 2 from h9) (by decide)) trivial) (st_7n (show ¬ (3 : Int) = 2 by decide))
              refine lv_iload hx hb dX12_failings_92 (lv_at hl 0 rfl) ?_
              refine lv_iconst (v := 1) hx hb dX12_failings_94 (by decide) ?_
              refine lv_icmp_eq (tgt := 101) hx hb dX12_failings_95 (by decide) (fun c432 => ?_) (fun c432 => ?_)
              · skip
                have f433 : z361.toInt = 1 := b_eq rfl (by decide) c432
                exfalso; first | exact om_36fb4cdadc8e q391 f433 | first | omega | ((try (have i_t374 := Imp.go t374 (by omega))); omega)
              · skip
                have f434 : z361.toInt ≠ 1 := b_neq rfl (by decide) c432
                refine lv_iload hx hb dX12_failings_98 (lv_at hl 0 rfl) ?_
                have fm435 : FRM V V332 (-1) := (FRM.tr xlp19_12 (FRM.ag (show agr [(0, 76)] [77, 78, 79] V18 V332 from (agr.tr agr.rf ajV332 (by decide) (by decide))) ⟨⟨rfl, fun _ => rfl, fun _ => rfl, fun _ => rfl, fun _ => rfl, fun _ => rfl, fun _ => rfl⟩, by decide, by decide, rfl, rfl, fun _ => rfl, fun _ => rfl, fun _ => rfl, fun _ => rfl, fun _ => rfl, fun _ => rfl⟩) agV18 ⟨rfl, fun _ => rfl, fun _ => rfl, fun _ => rfl, fun _ => rfl, fun _ => rfl, fun _ => rfl⟩ (by (first | exact om_abdc88b0c8fc xlp19_8 | omega)))
                have fm436 : FRM V V380 (-1) := (FRM.tr fm435 t376 agV332 ⟨rfl, fun _ => rfl, fun _ => rfl, fun _ => rfl, fun _ => rfl, fun _ => rfl, fun _ => rfl⟩ (by (first | exact om_4052a1005a1f xlp19_8 pq350 | omega)))
                have pk437 : PLK V V332 (V 0 98).toInt.toNat := (PLK.tr xlp19_14 (PLK.ag (t := (V 0 98).toInt.toNat) (show agr [(0, 76)] [77, 78, 79] V18 V332 from (agr.tr agr.rf ajV332 (by decide) (by decide))) (fun _ => rfl)) (Nat.le_refl _))
                have pk438 : PLK V V380 (V 0 98).toInt.toNat := (PLK.tr pk437 t378 (by (first | exact om_c8124caa8f7e r8.1 xlp19_0 pq354 | omega)))
                have rp439 : DPc gB (mV V 2 gt gu, ga, Fcall1 glv go gc gsc gme :: gr) V380 gr (z361.toInt) (V380 0 96) (24 * (10 - (V 0 93).toInt)) := DPc.m2 ht431 (by (first | exact om_c6421a8055df rgz361.2 q391 | omega))
                exact W.iret (v := z361) hx hb hr (fun t ht hW => ⟨⟨z361, (V380, L), rfl, ⟨hMV380, agV380, rfl, (show 0 ≤ z361.toInt ∧ z361.toInt ≤ 2 from by first | exact om_8c285ac91b81 rgz361.1 rgz361.2 | first | omega | ((try (have i_t374 := Imp.go t374 (by omega))); omega)), (show (V380 0 93).toInt = (V 0 93).toInt from by first | exact om_a0c405496c73 xlp19_1 pq353 t364 | first | omega | ((try (have i_t374 := Imp.go t374 (by omega))); omega)), (show (V380 0 98).toInt = (V 0 98).toInt from by first | exact om_a0c405496c73 xlp19_0 pq354 t365 | first | omega | ((try (have i_t374 := Imp.go t374 (by omega))); omega)), (show (V 0 60).toInt ≤ (V380 0 60).toInt from by first | exact om_860317e29598 xlp19_2 pq349 t366 | first | omega | ((try (have i_t374 := Imp.go t374 (by omega))); omega)), (show (V 0 65).toInt ≤ (V380 0 65).toInt from by first | exact om_860317e29598 xlp19_3 pq348 t367 | first | omega | ((try (have i_t374 := Imp.go t374 (by omega))); omega)), (show (V380 0 65).toInt - (V 0 65).toInt ≤ (V380 0 60).toInt - (V 0 60).toInt from by first | exact om_7a7d927724fb xlp19_4 pq348 pq349 t368 | first | omega | ((try (have i_t374 := Imp.go t374 (by omega))); omega)), (show (V380 0 73).toInt + (V380 0 95).toInt - (V380 0 65).toInt ≤ (V 0 73).toInt + (V 0 95).toInt - (V 0 65).toInt from by first | exact om_a90075b28fa2 xlp19_5 pq348 pq350 pq351 t369 | first | omega | ((try (have i_t374 := Imp.go t374 (by omega))); omega)), (show (V 0 73).toInt ≤ (V380 0 73).toInt from by first | exact om_860317e29598 xlp19_6 pq351 t370 | first | omega | ((try (have i_t374 := Imp.go t374 (by omega))); omega)), (show (V 0 69).toInt ≤ (V380 0 69).toInt from by first | exact om_860317e29598 xlp19_7 pq352 t371 | first | omega | ((try (have i_t374 := Imp.go t374 (by omega))); omega)), (show (V380 0 95).toInt = (V 0 95).toInt from by first | exact om_a0c405496c73 xlp19_8 pq350 t372 | first | omega | ((try (have i_t374 := Imp.go t374 (by omega))); omega)), (show (V380 0 76).toInt - (V380 0 69).toInt - (V380 0 73).toInt ≤ (V 0 76).toInt - (V 0 69).toInt - (V 0 73).toInt + 1 from by first | exact om_872d4b6e7e86 xlp19_9 t331 pq351 pq352 t373 | first | omega | ((try (have i_t374 := Imp.go t374 (by omega))); omega)), (Imp.mk (fun hp => have hp : z361.toInt ≠ 2 := hp; (show (V380 0 76).toInt - (V380 0 69).toInt - (V380 0 73).toInt ≤ (V 0 76).toInt - (V 0 69).toInt - (V 0 73).toInt from by first | exact om_c8ebd92074a9 xlp19_9 t331 pq351 pq352 ((Imp.go t374 (hp))) | first | omega | ((try (have i_t374 := Imp.go t374 (by omega))); omega)))), t375, fm436, t377, pk438, rp439⟩, by rw [ht]; exact hP, va_K.moved hW.alike hK, hD⟩, hS.F ht⟩) hS.2.2 dX12_failings_100
          · skip
            have f440 : 0 < ((V 0 90)).toInt := b_nle rfl (by decide) c325
            refine lv_bipush (v := 20) hx hb dX12_failings_48 (by decide) ?_
            refine lv_goto (tgt := 55) hx hb dX12_failings_50 (by decide) ?_
            refine lv_istore (lv' := [(9, .int 20), (8, .int z315), (7, .int y17), (6, .int z12), (5, .int (V 0 91)), (4, .int (V 0 90)), (0, .ref (ad 0)), (1, .int p0), (2, .int p1), (3, .int p2)]) hx hb dX12_failings_55 hl (by decide) rfl (fun ls hl => ?_)
            have na9 : Int32.ofInt (fst1 gt gu) = 20 := by unfold fst1; rw [if_pos (by omega)]; decide
            have ht441 : TRs gB (mV V 2 gt gu, ga, Fcall1 glv go gc gsc gme :: gr) (mV V18 0 t8 k8, a8, Fwork glv go gc gsc gme 0 ((wAt gB i9 : Nat) : Int) 20 [] :: Fcall3 glv go gc gsc gme (i9 : Int) gt gu :: gr) := by rw [← na9]; exact ht324
            refine lv_aload_n hx hb dX12_failings_57 rfl (lv_at hl 6 rfl) ?_
            refine lv_iconst (v := 3) hx hb dX12_failings_58 (by decide) ?_
            refine lv_iload hx hb dX12_failings_59 (lv_at hl 1 rfl) ?_
            refine lv_iload hx hb dX12_failings_61 (lv_at hl 0 rfl) ?_
            have r442 : Int32.toInt 20 = 20 := by decide
            refine gA_void (gA_runV (As := [.int 3, .int z315, .int 20]) (rest := []) (ci := 12) (q0 := 0) hx hb hml hown hg hP hD hK hS hA hnw hgk (s_notes2 l D ks H.size ad kk V18 L 3 z315 20 hMV18 (show (V18 0 76).toInt ≤ 1999999999 from by (first | exact om_bfbc4fe22ecf n1 n3 n4 r3.1 xlp19_4 xlp19_5 xlp19_8 xlp19_9 r22.2 r26.2 | omega))) w2300 w2302 w144 w172 w2303 rfl rfl hdV_yX12_notes ⟨(by show (0) + 1 ≤ (4 * d1 + 40 * d2 + 13); (first | exact om_90d315f74ba4 n5 n6 zt9.1 zb9.2 r2.2 f440 | omega)), (by show 8 + (4 + 11) + (0) ≤ (100 * d1 + 1000 * d2 + 500); (first | exact om_ee8e8d49520d n5 n6 zt9.1 zb9.2 r2.2 f440 | omega))⟩ rfl hl.1 rfl (Nat.le_of_ble_eq_true rfl) dX12_failings_63 ⟨Nat.le_of_ble_eq_true rfl, Nat.le_of_ble_eq_true rfl⟩) hP hD hK hS hA (fun u444 H locs w445 hP hD hK hS => ?_)
            obtain ⟨V447, L448⟩ := u444
            obtain ⟨hMV447, ajV447, axL448, t446⟩ := w445
            have axL448 : L = L448 := Eq.symm axL448
            subst axL448
            have hP : va_P D vwCl (mw ad kk ks.1 V447 L) H := hP
            have hD : va_D A (mw ad kk ks.1 V447 L) := hD
            have hMV447 : rgd bM V447 := hMV447
            have ajV447 : agr [(0, 76)] [77, 78, 79] V18 V447 := ajV447
            have agV447 : agr [(0, 60), (0, 65), (0, 68), (0, 69), (0, 73), (0, 76), (0, 90), (0, 91), (0, 92), (0, 93), (0, 95), (0, 96), (0, 98)] [59, 61, 62, 63, 64, 66, 67, 74, 75, 77, 78, 79, 80, 94, 97] V V447 := agV18.tr ajV447 (by decide) (by decide)
            have t446 : (V447 0 76).toInt = (V18 0 76).toInt + 1 := t446
            have r449 : 0 ≤ ((V447 0 76)).toInt ∧ ((V447 0 76)).toInt ≤ 2000000000 := hMV447 0 76
            refine lv_aload_n hx hb dX12_failings_66 rfl (lv_at hl 6 rfl) ?_
            refine lv_aload_n hx hb dX12_failings_67 rfl (lv_at hl 6 rfl) ?_
            refine va_get (D := D) (ci := 12) (v := .ref (ad 44)) (C := RX12) (T := TX12) (N := 100) hx hb hg inX12 hown hK hP 0 rfl rfl 44 (by decide) (hg _ w1750) (fun _ h9 => h9) rfl dX12_failings_68 ?_
            refine lv_bipush (v := 12) hx hb dX12_failings_71 (by decide) ?_
            refine lv_aload_n hx hb dX12_failings_73 rfl (lv_at hl 6 rfl) ?_
            refine va_get (D := D) (ci := 12) (v := .int (V447 0 11)) (C := RX12) (T := TX12) (N := 100) hx hb hg inX12 hown hK hP 0 rfl rfl 11 (by decide) (hg _ w1717) (fun _ h9 => h9) rfl dX12_failings_74 ?_
            refine g_top (v := (V 0 11)) ((ajV447 0 11 rfl).trans (ajV18 0 11 rfl)) ?_
            have r450 : 0 ≤ ((V 0 11)).toInt ∧ ((V 0 11)).toInt ≤ 1 := hMV 0 11
            refine lv_imul hx hb dX12_failings_77 ?_
            refine lv_topi (fun z451 ez451 => ?_)
            have hz451 : z451.toInt = 12 * ((V 0 11)).toInt := i_mul ez451 (by decide) rfl (by (first | exact om_630bd6ee60c3 r450.1 r450.2 | omega))
            refine lv_iload hx hb dX12_failings_78 (lv_at hl 1 rfl) ?_
            refine lv_iadd hx hb dX12_failings_80 ?_
            refine lv_topi (fun z452 ez452 => ?_)
            have hz452 : z452.toInt = z451.toInt + z315.toInt := i_add ez452 rfl rfl (by (first | exact om_2e570e10cfc7 rgz315.2 wn r450.1 r450.2 hz451 | omega))
            have pq453 : (V447 0 11).toInt = ((V 0 11)).toInt := congrArg Int32.toInt ((ajV447 0 11 rfl).trans (ajV18 0 11 rfl))
            have pq454 : (V18 0 11).toInt = ((V 0 11)).toInt := congrArg Int32.toInt (ajV18 0 11 rfl)
            have kz : Int32.toNatClampNeg z452 = 12 * nwh V18 + Int32.toNatClampNeg z315 := by have h9 := i_clamp (x := z452) rfl (by (first | exact om_7ea21d029263 wn r450.1 hz451 hz452 | omega)); omega
            have e44 : V447 44 (Int32.toNatClampNeg z452) = V18 44 (Int32.toNatClampNeg z452) := (show agr [(0, 76)] [77, 78, 79] V18 V447 from (agr.tr agr.rf ajV447 (by decide) (by decide))) 44 _ rfl
            have q44 : V18 44 (12 * nwh V18 + Int32.toNatClampNeg z315) = V18 44 (Int32.toNatClampNeg z452) := by rw [kz]
            have q44i := congrArg Int32.toInt q44
            have e44i := congrArg Int32.toInt e44
            have pq455 : (V18 44 (Int32.toNatClampNeg z452)).toInt = ((V 44 (Int32.toNatClampNeg z452))).toInt := congrArg Int32.toInt (ajV18 44 (Int32.toNatClampNeg z452) rfl)
            have pq456 : (V447 44 (Int32.toNatClampNeg z452)).toInt = ((V 44 (Int32.toNatClampNeg z452))).toInt := congrArg Int32.toInt ((ajV447 44 (Int32.toNatClampNeg z452) rfl).trans (ajV18 44 (Int32.toNatClampNeg z452) rfl))
            have q44b : V18 44 (12 * nwh V18 + Int32.toNatClampNeg z315) = V 44 (Int32.toNatClampNeg z452) := q44.trans ((show agr [(0, 60), (0, 65), (0, 68), (0, 69), (0, 73), (0, 76), (0, 90), (0, 91), (0, 92), (0, 93), (0, 95), (0, 96), (0, 98)] [59, 61, 62, 63, 64, 66, 67, 74, 75, 77, 78, 79, 80, 94, 97] V V18 from (agr.tr agr.rf ajV18 (by decide) (by decide))) 44 _ rfl)
            have nw9 : nwh V447 = nwh V18 := (nwh_ag (show agr [(0, 76)] [77, 78, 79] V18 V447 from (agr.tr agr.rf ajV447 (by decide) (by decide))) ⟨rfl, fun _ => rfl, fun _ => rfl, fun _ => rfl, fun _ => rfl, fun _ => rfl, fun _ => rfl⟩).1
            refine va_iald (D := D) (i := z452) hx hb hK hP 37 36 rfl rfl (i_in (a := z452.toInt) rfl (by (first | exact om_5a28bbe8109b rgz315.2 wn r450.1 r450.2 hz451 hz452 | omega))) dX12_failings_81 ?_
            refine g_top (v := (V 44 (Int32.toNatClampNeg z452))) ((ajV447 44 (Int32.toNatClampNeg z452) rfl).trans (ajV18 44 (Int32.toNatClampNeg z452) rfl)) ?_
            refine lv_iload_n hx hb dX12_failings_82 rfl (lv_at hl 7 rfl) ?_
            refine lv_iload_n hx hb dX12_failings_83 rfl (lv_at hl 9 rfl) ?_
            refine lv_iload hx hb dX12_failings_84 (lv_at hl 0 rfl) ?_
            refine lv_iconst (v := (-1)) hx hb dX12_failings_86 (by decide) ?_
            have ht457 : TRs gB (mV V 2 gt gu, ga, Fcall1 glv go gc gsc gme :: gr) (mV V447 0 t8 k8, a8, Fwork glv go gc gsc gme 0 ((wAt gB i9 : Nat) : Int) 20 [] :: Fcall3 glv go gc gsc gme (i9 : Int) gt gu :: gr) := by rw [mV_ag (show agr [(0, 76)] [77, 78, 79] V18 V447 from (agr.tr agr.rf ajV447 (by decide) (by decide))) (by decide)]; exact ht441
            have fm459 : FRM V V447 (-1) := (FRM.tr xlp19_12 (FRM.ag (show agr [(0, 76)] [77, 78, 79] V18 V447 from (agr.tr agr.rf ajV447 (by decide) (by decide))) ⟨⟨rfl, fun _ => rfl, fun _ => rfl, fun _ => rfl, fun _ => rfl, fun _ => rfl, fun _ => rfl⟩, by decide, by decide, rfl, rfl, fun _ => rfl, fun _ => rfl, fun _ => rfl, fun _ => rfl, fun _ => rfl, fun _ => rfl⟩) agV18 ⟨rfl, fun _ => rfl, fun _ => rfl, fun _ => rfl, fun _ => rfl, fun _ => rfl, fun _ => rfl⟩ (by (first | exact om_abdc88b0c8fc xlp19_8 | omega)))
            have eo458 : (V447 61 (Int32.toNatClampNeg p0)).toInt = (V 61 (Int32.toNatClampNeg p0)).toInt := congrArg Int32.toInt ((fm459).2.1 (Int32.toNatClampNeg p0) (by have h9 := i_clamp (x := p0) rfl (by (first | exact om_eafa9039069c rg_p0.1 | omega)); omega)).1
            have lg460 : (Fcall3 glv go gc gsc gme (i9 : Int) gt gu :: gr).length = gr.length + 1 := rfl
            have lg461 : totP (Fcall3 glv go gc gsc gme (i9 : Int) gt gu :: gr) = 0 + (totP gr) := rfl
            have oq8 : ∃ q9, OQ gB (ndW gB gc 0) (decide ((0 : Int) < 0)) (wAt gB i9) 0 q9 := ⟨0, wfW0 br.1 fc9.2.2.2 fc9.2.2.1 (by decide)⟩
            have r462 : Int32.toInt (-1) = (-1) := by decide
            have pq463 : (V447 0 65).toInt = ((V18 0 65)).toInt := congrArg Int32.toInt (ajV447 0 65 rfl)
            have pq464 : (V447 0 60).toInt = ((V18 0 60)).toInt := congrArg Int32.toInt (ajV447 0 60 rfl)
            have pq465 : (V447 0 95).toInt = ((V18 0 95)).toInt := congrArg Int32.toInt (ajV447 0 95 rfl)
            have pq466 : (V447 0 73).toInt = ((V18 0 73)).toInt := congrArg Int32.toInt (ajV447 0 73 rfl)
            have pq467 : (V447 0 69).toInt = ((V18 0 69)).toInt := congrArg Int32.toInt (ajV447 0 69 rfl)
            have pq468 : (V447 0 93).toInt = ((V18 0 93)).toInt := congrArg Int32.toInt (ajV447 0 93 rfl)
            have pq469 : (V447 0 98).toInt = ((V18 0 98)).toInt := congrArg Int32.toInt (ajV447 0 98 rfl)
            have pq470 : (V447 61 (Int32.toNatClampNeg p0)).toInt = ((V18 61 (Int32.toNatClampNeg p0))).toInt := congrArg Int32.toInt (ajV447 61 (Int32.toNatClampNeg p0) rfl)
            have r471 : 0 ≤ ((V18 61 (Int32.toNatClampNeg p0))).toInt ∧ ((V18 61 (Int32.toNatClampNeg p0))).toInt ≤ 23 := hMV18 61 (Int32.toNatClampNeg p0)
            have rt472 : RT V447 := RT.ag xlp19_11 hMV18 (show agr [(0, 76)] [77, 78, 79] V18 V447 from (agr.tr agr.rf ajV447 (by decide) (by decide))) ⟨⟨rfl, fun _ => rfl, fun _ => rfl, fun _ => rfl, fun _ => rfl, fun _ => rfl, fun _ => rfl⟩, by decide, by decide, rfl, rfl, fun _ => rfl, fun _ => rfl, fun _ => rfl, fun _ => rfl, fun _ => rfl, fun _ => rfl⟩ (c0k.ag (show agr [(0, 76)] [77, 78, 79] V18 V447 from (agr.tr agr.rf ajV447 (by decide) (by decide))) rfl)
            have rj473 : RJm V447 gB := RJm.ag xlp19_13 (show agr [(0, 76)] [77, 78, 79] V18 V447 from (agr.tr agr.rf ajV447 (by decide) (by decide))) (by decide)
            have fm474 : FRM V V447 (-1) := (FRM.tr xlp19_12 (FRM.ag (show agr [(0, 76)] [77, 78, 79] V18 V447 from (agr.tr agr.rf ajV447 (by decide) (by decide))) ⟨⟨rfl, fun _ => rfl, fun _ => rfl, fun _ => rfl, fun _ => rfl, fun _ => rfl, fun _ => rfl⟩, by decide, by decide, rfl, rfl, fun _ => rfl, fun _ => rfl, fun _ => rfl, fun _ => rfl, fun _ => rfl, fun _ => rfl⟩) agV18 ⟨rfl, fun _ => rfl, fun _ => rfl, fun _ => rfl, fun _ => rfl, fun _ => rfl, fun _ => rfl⟩ (by (first | exact om_abdc88b0c8fc xlp19_8 | omega)))
            have cm475 : CMPo V447 gB (Int32.toNatClampNeg p0) := CMPo.fr cm9 bk fm474 (by have h9 := i_clamp (x := p0) rfl (by (first | exact om_eafa9039069c rg_p0.1 | omega)); (first | exact om_6c25244c01f7 oq1 ko9 | omega)) (RTn rt bk (by have h9 := i_clamp (x := p0) rfl (by (first | exact om_eafa9039069c rg_p0.1 | omega)); omega))
            refine gA_int (gA_runV (As := [.int (V 44 (Int32.toNatClampNeg z452)), .int p0, .int p2, .int 20, .int (-1)]) (rest := []) (ci := 12) (q0 := 0) hx hb hml hown hg hP hD hK hS hA hnw hgk (hk_s_worksD H.size ad kk V447 L (V 44 (Int32.toNatClampNeg z452)) p0 p2 20 (-1) (gB) (grk) (Fcall3 glv go gc gsc gme (i9 : Int) gt gu :: gr) (a8) (0) (t8) (k8) (glv) (go) (gc) (gsc) (gme) (0) (10000 * nwh V18) (10000 * nwh V18 + 10000) ((wAt gB i9)) hMV447 (by omega) (by (first | exact om_1e2c46ce8ef5 rg_p0.1 oq1 r2.2 | omega)) (by (first | exact om_13ba01c174fe rg_p2.1 rg_p2.2 | omega)) rt472 (show (V447 0 65).toInt ≤ (V447 0 60).toInt from by (first | exact om_cebe9a256b98 n1 xlp19_4 pq463 pq464 | omega)) (show (V447 0 95).toInt ≤ (V447 0 65).toInt from by (first | exact om_193d16bbc0e3 n2 xlp19_3 xlp19_8 pq463 pq465 | omega)) (show (V447 0 73).toInt + (V447 0 95).toInt - (V447 0 65).toInt ≤ 999000 from by (first | exact om_ec3a52bb0c7c n3 xlp19_5 pq463 pq465 pq466 | omega)) (show (V447 0 76).toInt - (V447 0 69).toInt - (V447 0 73).toInt ≤ 1000000001 from by (first | exact om_0e318805f41c n4 xlp19_9 t446 pq466 pq467 | omega)) (show 300 - (V447 0 60).toInt ≤ ((d1 : Nat) : Int) from by (first | exact om_3013ce33764f n5 xlp19_2 pq464 | omega)) (show 10 - (V447 0 93).toInt ≤ ((d2 : Nat) : Int) from by (first | exact om_1ce157d38d46 n6 xlp19_1 pq468 | omega)) (BKm.ag bk (show agr [(0, 60), (0, 65), (0, 68), (0, 69), (0, 73), (0, 76), (0, 90), (0, 91), (0, 92), (0, 93), (0, 95), (0, 96), (0, 98)] [59, 61, 62, 63, 64, 66, 67, 74, 75, 77, 78, 79, 80, 94, 97] V V447 from (agr.tr (agr.tr agr.rf ajV18 (by decide) (by decide)) ajV447 (by decide) (by decide))) (by decide)) br rj473 (fun h9 => absurd h9 (by decide)) (show (((Fcall3 glv go gc gsc gme (i9 : Int) gt gu :: gr).length : Nat) : Int) ≤ 28 * (V447 0 93).toInt + 26 from by (first | exact om_b3def4d72315 hl9 xlp19_1 lg460 pq468 | omega)) (show ((totP (Fcall3 glv go gc gsc gme (i9 : Int) gt gu :: gr) : Nat) : Int) ≤ 84 * (V447 0 93).toInt + 56 from by (first | exact om_756680afaca1 hp9 xlp19_1 lg461 pq468 | omega)) (show p0.toInt < (V447 0 60).toInt from by (first | exact om_abb00e6ed28d oq1 xlp19_2 pq464 | omega)) (show (V447 0 98).toInt + 400 * ((d2 : Nat) : Int) + 30 ≤ 19000 from by (first | exact om_2740c7d8a110 n7 xlp19_0 pq469 | omega)) (CE.same (show CE 0 false V18 (10000 * nwh V18) (10000 * nwh V18 + 10000) (V 44 (Int32.toNatClampNeg z452)).toInt.toNat from q44b ▸ wE.2) (Int.le_refl _) (Nat.le_refl _) (fun i _ _ => ⟨(show agr [(0, 76)] [77, 78, 79] V18 V447 from (agr.tr agr.rf ajV447 (by decide) (by decide))) 45 _ rfl, (show agr [(0, 76)] [77, 78, 79] V18 V447 from (agr.tr agr.rf ajV447 (by decide) (by decide))) 46 _ rfl, (show agr [(0, 76)] [77, 78, 79] V18 V447 from (agr.tr agr.rf ajV447 (by decide) (by decide))) 47 _ rfl⟩)) (show ((10000 * nwh V18 + 10000) : Int) ≤ 20000 from by (first | exact om_7dcbc42c1fac nb.2 kn | omega)) (hMV447 27 _).1 (show ((10000 * nwh V18) : Int) = 10000 * ((nwh V447 : Nat) : Int) from by (first | exact om_e39273519f2d nw9 | omega)) (show ((V 44 (Int32.toNatClampNeg z452))).toInt = ((10000 * nwh V447 + ((wAt gB i9)) : Nat) : Int) from by omega) oq8 (show (V447 0 93).toInt = (glv) from by (first | exact om_a0c405496c73 zl9 xlp19_1 pq468 | omega)) (show p0.toInt = (go) from by (first | exact om_570b691c1130 zo9 | omega)) (show (V447 61 (Int32.toNatClampNeg p0)).toInt = (gc) from by (first | exact om_cd7d0a6a31bc zc9 eo458 | omega)) (show p2.toInt = (gsc) from by (first | exact om_570b691c1130 zs9 | omega)) cm475) w2268 w2270 w136 w172 w2271 rfl rfl hdV_yX12_works ⟨(by show (4 * (d1) + 40 * (d2) + 12) + 1 ≤ (4 * d1 + 40 * d2 + 13); (first | exact om_2f192a0d189d | omega)), (by show 8 + (6 + 11) + (100 * (d1) + 1000 * (d2) + 460) ≤ (100 * d1 + 1000 * d2 + 500); (first | exact om_65a772b3cf36 | omega))⟩ rfl hl.1 rfl (Nat.le_of_ble_eq_true rfl) dX12_failings_87 ⟨Nat.le_of_ble_eq_true rfl, Nat.le_of_ble_eq_true rfl⟩) hP hD hK hS hA (fun z476 u477 H locs w478 hP hD hK hS => ?_)
            obtain ⟨V495, L496⟩ := u477
            obtain ⟨hMV495, ajV495, axL496, rgz476, t479, t480, t481, t482, t483, t484, t485, t486, t487, t488, t489, t490, t491, t492, t493, t494⟩ := w478
            have axL496 : L = L496 := Eq.symm axL496
            subst axL496
            have hP : va_P D vwCl (mw ad kk ks.1 V495 L) H := hP
            have hD : va_D A (mw ad kk ks.1 V495 L) := hD
            have hMV495 : rgd bM V495 := hMV495
            have ajV495 : agr [(0, 60), (0, 65), (0, 68), (0, 69), (0, 73), (0, 76), (0, 90), (0, 91), (0, 92), (0, 93), (0, 95), (0, 96), (0, 98)] [59, 61, 62, 63, 64, 66, 67, 74, 75, 77, 78, 79, 80, 94, 97] V447 V495 := ajV495
            have agV495 : agr [(0, 60), (0, 65), (0, 68), (0, 69), (0, 73), (0, 76), (0, 90), (0, 91), (0, 92), (0, 93), (0, 95), (0, 96), (0, 98)] [59, 61, 62, 63, 64, 66, 67, 74, 75, 77, 78, 79, 80, 94, 97] V V495 := agV447.tr ajV495 (by decide) (by decide)
            have rgz476 : 0 ≤ z476.toInt ∧ z476.toInt ≤ 2 := rgz476
            have t479 : (V495 0 93).toInt = (V447 0 93).toInt := t479
            have t480 : (V495 0 98).toInt = (V447 0 98).toInt := t480
            have t481 : (V447 0 60).toInt ≤ (V495 0 60).toInt := t481
            have t482 : (V447 0 65).toInt ≤ (V495 0 65).toInt := t482
            have t483 : (V495 0 65).toInt - (V447 0 65).toInt ≤ (V495 0 60).toInt - (V447 0 60).toInt := t483
            have t484 : (V495 0 73).toInt + (V495 0 95).toInt - (V495 0 65).toInt ≤ (V447 0 73).toInt + (V447 0 95).toInt - (V447 0 65).toInt := t484
            have t485 : (V447 0 73).toInt ≤ (V495 0 73).toInt := t485
            have t486 : (V447 0 69).toInt ≤ (V495 0 69).toInt := t486
            have t487 : (V495 0 95).toInt = (V447 0 95).toInt := t487
            have t488 : (V495 0 76).toInt - (V495 0 69).toInt - (V495 0 73).toInt ≤ (V447 0 76).toInt - (V447 0 69).toInt - (V447 0 73).toInt := t488
            have t489 : Imp (z476.toInt ≠ 2) ((V495 0 76).toInt - (V495 0 69).toInt - (V495 0 73).toInt + 1 ≤ (V447 0 76).toInt - (V447 0 69).toInt - (V447 0 73).toInt) := t489
            have t490 : RT V495 := t490
            have t491 : FRM V447 V495 (-1) := t491
            have t492 : RJm V495 (gB) := t492
            have t493 : PLK V447 V495 (V447 0 98).toInt.toNat := t493
            have t494 : DPc (gB) (mV V447 0 (t8) (k8), (a8), Fwork (glv) (go) (gc) (gsc) (gme) 0 ((((wAt gB i9)) : Nat) : Int) 20 [] :: (Fcall3 glv go gc gsc gme (i9 : Int) gt gu :: gr)) V495 (Fcall3 glv go gc gsc gme (i9 : Int) gt gu :: gr) z476.toInt (V495 0 96) (24 * (10 - (V447 0 93).toInt)) := t494
            have r497 : 0 ≤ ((V495 0 93)).toInt ∧ ((V495 0 93)).toInt ≤ 10 := hMV495 0 93
            have r498 : 0 ≤ ((V495 0 98)).toInt ∧ ((V495 0 98)).toInt ≤ 20000 := hMV495 0 98
            have r499 : 0 ≤ ((V495 0 60)).toInt ∧ ((V495 0 60)).toInt ≤ 300 := hMV495 0 60
            have r500 : 0 ≤ ((V495 0 65)).toInt ∧ ((V495 0 65)).toInt ≤ 1000000 := hMV495 0 65
            have r501 : 0 ≤ ((V495 0 73)).toInt ∧ ((V495 0 73)).toInt ≤ 1000000 := hMV495 0 73
            have r502 : 0 ≤ ((V495 0 95)).toInt ∧ ((V495 0 95)).toInt ≤ 300 := hMV495 0 95
            have r503 : 0 ≤ ((V495 0 69)).toInt ∧ ((V495 0 69)).toInt ≤ 3000 := hMV495 0 69
            have r504 : 0 ≤ ((V495 0 76)).toInt ∧ ((V495 0 76)).toInt ≤ 2000000000 := hMV495 0 76
            refine lv_istore (lv' := [(10, .int z476), (9, .int 20), (8, .int z315), (7, .int y17), (6, .int z12), (5, .int (V 0 91)), (4, .int (V 0 90)), (0, .ref (ad 0)), (1, .int p0), (2, .int p1), (3, .int p2)]) hx hb dX12_failings_90 hl (by decide) rfl (fun ls hl => ?_)
            have dp505 := t494
            rcases (show z476.toInt = 0 ∨ z476.toInt = 1 ∨ z476.toInt = 2 from by (first | exact om_e837ad917e1d rgz476.1 rgz476.2 | omega)) with q506 | q506 | q506
            · skip
              obtain ⟨mt509, mk510, ht507⟩ := dp505.e0 q506
              have ht511 : TRs gB (mV V 2 gt gu, ga, Fcall1 glv go gc gsc gme :: gr) (mV V495 1 mt509 mk510, ((V495 0 96)), Fcall3 glv go gc gsc gme (i9 : Int) gt gu :: gr) := TRs.tr ht457 ht507
              have r512 : 0 ≤ (V495 0 65).toInt := (hMV495 0 65).1
              have r513 : (V495 0 60).toInt ≤ 300 := (hMV495 0 60).2
              have r514 : 0 ≤ (V495 0 93).toInt ∧ (V495 0 93).toInt ≤ 10 := hMV495 0 93
              have ht515 : TRs gB (mV V 2 gt gu, ga, Fcall1 glv go gc gsc gme :: gr) (mV V495 1 mt509 mk510, ((V495 0 96)), gr) := TRs.st ht511 (SF.mk (show gr.length ≤ 394 from by (first | exact om_1b2fb2a71a22 hl9 zt9.1 zb9.2 f440 | omega)) (show 0 + (totP gr) ≤ 2000 from by (first | exact om_5255b714ed60 hp9 zt9.1 zb9.2 f440 | omega)) (show 0 ≤ (V495 0 65).toInt ∧ (V495 0 65).toInt ≤ 300 from by (first | exact om_810da67e2db8 n1 xlp19_4 pq463 pq464 t483 r499.2 r500.1 | omega)) (fun h9 => absurd (show (1 : Int) = 2 from h9) (by decide)) trivial) (st_7n (show ¬ (1 : Int) = 2 by decide))
              refine lv_iload hx hb dX12_failings_92 (lv_at hl 0 rfl) ?_
              refine lv_iconst (v := 1) hx hb dX12_failings_94 (by decide) ?_
              refine lv_icmp_eq (tgt := 101) hx hb dX12_failings_95 (by decide) (fun c516 => ?_) (fun c516 => ?_)
              · skip
                have f517 : z476.toInt = 1 := b_eq rfl (by decide) c516
                exfalso; first | exact om_4c701f2d8c50 q506 f517 | first | omega | ((try (have i_t489 := Imp.go t489 (by omega))); omega)
              · skip
                have f518 : z476.toInt ≠ 1 := b_neq rfl (by decide) c516
                refine lv_iload hx hb dX12_failings_98 (lv_at hl 0 rfl) ?_
                have fm519 : FRM V V447 (-1) := (FRM.tr xlp19_12 (FRM.ag (show agr [(0, 76)] [77, 78, 79] V18 V447 from (agr.tr agr.rf ajV447 (by decide) (by decide))) ⟨⟨rfl, fun _ => rfl, fun _ => rfl, fun _ => rfl, fun _ => rfl, fun _ => rfl, fun _ => rfl⟩, by decide, by decide, rfl, rfl, fun _ => rfl, fun _ => rfl, fun _ => rfl, fun _ => rfl, fun _ => rfl, fun _ => rfl⟩) agV18 ⟨rfl, fun _ => rfl, fun _ => rfl, fun _ => rfl, fun _ => rfl, fun _ => rfl, fun _ => rfl⟩ (by (first | exact om_abdc88b0c8fc xlp19_8 | omega)))
                have fm520 : FRM V V495 (-1) := (FRM.tr fm519 t491 agV447 ⟨rfl, fun _ => rfl, fun _ => rfl, fun _ => rfl, fun _ => rfl, fun _ => rfl, fun _ => rfl⟩ (by (first | exact om_4052a1005a1f xlp19_8 pq465 | omega)))
                have pk521 : PLK V V447 (V 0 98).toInt.toNat := (PLK.tr xlp19_14 (PLK.ag (t := (V 0 98).toInt.toNat) (show agr [(0, 76)] [77, 78, 79] V18 V447 from (agr.tr agr.rf ajV447 (by decide) (by decide))) (fun _ => rfl)) (Nat.le_refl _))
                have pk522 : PLK V V495 (V 0 98).toInt.toNat := (PLK.tr pk521 t493 (by (first | exact om_c8124caa8f7e r8.1 xlp19_0 pq469 | omega)))
                have rp523 : DPc gB (mV V 2 gt gu, ga, Fcall1 glv go gc gsc gme :: gr) V495 gr (z476.toInt) (V495 0 96) (24 * (10 - (V 0 93).toInt)) := DPc.m0 ht515 (by (first | exact om_b1799fcf2d63 rgz476.1 q506 | omega))
                exact W.iret (v := z476) hx hb hr (fun t ht hW => ⟨⟨z476, (V495, L), rfl, ⟨hMV495, agV495, rfl, (show 0 ≤ z476.toInt ∧ z476.toInt ≤ 2 from by first | exact om_8c285ac91b81 rgz476.1 rgz476.2 | first | omega | ((try (have i_t489 := Imp.go t489 (by omega))); omega)), (show (V495 0 93).toInt = (V 0 93).toInt from by first | exact om_a0c405496c73 xlp19_1 pq468 t479 | first | omega | ((try (have i_t489 := Imp.go t489 (by omega))); omega)), (show (V495 0 98).toInt = (V 0 98).toInt from by first | exact om_a0c405496c73 xlp19_0 pq469 t480 | first | omega | ((try (have i_t489 := Imp.go t489 (by omega))); omega)), (show (V 0 60).toInt ≤ (V495 0 60).toInt from by first | exact om_860317e29598 xlp19_2 pq464 t481 | first | omega | ((try (have i_t489 := Imp.go t489 (by omega))); omega)), (show (V 0 65).toInt ≤ (V495 0 65).toInt from by first | exact om_860317e29598 xlp19_3 pq463 t482 | first | omega | ((try (have i_t489 := Imp.go t489 (by omega))); omega)), (show (V495 0 65).toInt - (V 0 65).toInt ≤ (V495 0 60).toInt - (V 0 60).toInt from by first | exact om_7a7d927724fb xlp19_4 pq463 pq464 t483 | first | omega | ((try (have i_t489 := Imp.go t489 (by omega))); omega)), (show (V495 0 73).toInt + (V495 0 95).toInt - (V495 0 65).toInt ≤ (V 0 73).toInt + (V 0 95).toInt - (V 0 65).toInt from by first | exact om_a90075b28fa2 xlp19_5 pq463 pq465 pq466 t484 | first | omega | ((try (have i_t489 := Imp.go t489 (by omega))); omega)), (show (V 0 73).toInt ≤ (V495 0 73).toInt from by first | exact om_860317e29598 xlp19_6 pq466 t485 | first | omega | ((try (have i_t489 := Imp.go t489 (by omega))); omega)), (show (V 0 69).toInt ≤ (V495 0 69).toInt from by first | exact om_860317e29598 xlp19_7 pq467 t486 | first | omega | ((try (have i_t489 := Imp.go t489 (by omega))); omega)), (show (V495 0 95).toInt = (V 0 95).toInt from by first | exact om_a0c405496c73 xlp19_8 pq465 t487 | first | omega | ((try (have i_t489 := Imp.go t489 (by omega))); omega)), (show (V495 0 76).toInt - (V495 0 69).toInt - (V495 0 73).toInt ≤ (V 0 76).toInt - (V 0 69).toInt - (V 0 73).toInt + 1 from by first | exact om_872d4b6e7e86 xlp19_9 t446 pq466 pq467 t488 | first | omega | ((try (have i_t489 := Imp.go t489 (by omega))); omega)), (Imp.mk (fun hp => have hp : z476.toInt ≠ 2 := hp; (show (V495 0 76).toInt - (V495 0 69).toInt - (V495 0 73).toInt ≤ (V 0 76).toInt - (V 0 69).toInt - (V 0 73).toInt from by first | exact om_c8ebd92074a9 xlp19_9 t446 pq466 pq467 ((Imp.go t489 (hp))) | first | omega | ((try (have i_t489 := Imp.go t489 (by omega))); omega)))), t490, fm520, t492, pk522, rp523⟩, by rw [ht]; exact hP, va_K.moved hW.alike hK, hD⟩, hS.F ht⟩) hS.2.2 dX12_failings_100
            · skip
              obtain ⟨bd528, ma525, ht524⟩ := dp505.e1 q506
              have ht529 : TRs gB (mV V 2 gt gu, ga, Fcall1 glv go gc gsc gme :: gr) (mV V495 2 (V495 0 90).toInt (V495 0 91).toInt, ma525, Fcall3 glv go gc gsc gme (i9 : Int) gt gu :: gr) := TRs.tr ht457 ht524
              refine lv_iload hx hb dX12_failings_92 (lv_at hl 0 rfl) ?_
              refine lv_iconst (v := 1) hx hb dX12_failings_94 (by decide) ?_
              refine lv_icmp_eq (tgt := 101) hx hb dX12_failings_95 (by decide) (fun c530 => ?_) (fun c530 => ?_)
              · skip
                have f531 : z476.toInt = 1 := b_eq rfl (by decide) c530
                obtain ⟨z532, ez532⟩ : ∃ y : Int32, y = y17 + (-1) := ⟨_, rfl⟩
                have hz532 : z532.toInt = y17.toInt + (-1) := i_add ez532 rfl (by decide) (by (first | exact om_8644478ce7aa rgz12.2 xlp19_10 f74 | omega))
                refine lv_iinc (v := z532) (lv' := [(7, .int z532), (10, .int z476), (9, .int 20), (8, .int z315), (6, .int z12), (5, .int (V 0 91)), (4, .int (V 0 90)), (0, .ref (ad 0)), (1, .int p0), (2, .int p1), (3, .int p2)]) hx hb dX12_failings_101 hl (k := 3) rfl (by rw [ez532]; rfl) (by decide) rfl (fun ls hl => ?_)
                refine lv_goto (tgt := 27) hx hb dX12_failings_104 (by decide) ?_
                have fm533 : FRM V V447 (-1) := (FRM.tr xlp19_12 (FRM.ag (show agr [(0, 76)] [77, 78, 79] V18 V447 from (agr.tr agr.rf ajV447 (by decide) (by decide))) ⟨⟨rfl, fun _ => rfl, fun _ => rfl, fun _ => rfl, fun _ => rfl, fun _ => rfl, fun _ => rfl⟩, by decide, by decide, rfl, rfl, fun _ => rfl, fun _ => rfl, fun _ => rfl, fun _ => rfl, fun _ => rfl, fun _ => rfl⟩) agV18 ⟨rfl, fun _ => rfl, fun _ => rfl, fun _ => rfl, fun _ => rfl, fun _ => rfl, fun _ => rfl⟩ (by (first | exact om_abdc88b0c8fc xlp19_8 | omega)))
                have fm534 : FRM V V495 (-1) := (FRM.tr fm533 t491 agV447 ⟨rfl, fun _ => rfl, fun _ => rfl, fun _ => rfl, fun _ => rfl, fun _ => rfl, fun _ => rfl⟩ (by (first | exact om_4052a1005a1f xlp19_8 pq465 | omega)))
                have pk535 : PLK V V447 (V 0 98).toInt.toNat := (PLK.tr xlp19_14 (PLK.ag (t := (V 0 98).toInt.toNat) (show agr [(0, 76)] [77, 78, 79] V18 V447 from (agr.tr agr.rf ajV447 (by decide) (by decide))) (fun _ => rfl)) (Nat.le_refl _))
                have pk536 : PLK V V495 (V 0 98).toInt.toNat := (PLK.tr pk535 t493 (by (first | exact om_c8124caa8f7e r8.1 xlp19_0 pq469 | omega)))
                exact ihlp19 z532 V495 H locs ls (by first | exact om_12f829fe3ab5 rgz12.2 xlp19_10 f74 hz532 | first | omega | ((try (have i_t489 := Imp.go t489 (by omega))); omega)) (show (V495 0 98).toInt = (V 0 98).toInt from by first | exact om_a0c405496c73 xlp19_0 pq469 t480 | first | omega | ((try (have i_t489 := Imp.go t489 (by omega))); omega)) (show (V495 0 93).toInt = (V 0 93).toInt from by first | exact om_a0c405496c73 xlp19_1 pq468 t479 | first | omega | ((try (have i_t489 := Imp.go t489 (by omega))); omega)) (show (V 0 60).toInt ≤ (V495 0 60).toInt from by first | exact om_860317e29598 xlp19_2 pq464 t481 | first | omega | ((try (have i_t489 := Imp.go t489 (by omega))); omega)) (show (V 0 65).toInt ≤ (V495 0 65).toInt from by first | exact om_860317e29598 xlp19_3 pq463 t482 | first | omega | ((try (have i_t489 := Imp.go t489 (by omega))); omega)) (show (V495 0 65).toInt - (V 0 65).toInt ≤ (V495 0 60).toInt - (V 0 60).toInt from by first | exact om_7a7d927724fb xlp19_4 pq463 pq464 t483 | first | omega | ((try (have i_t489 := Imp.go t489 (by omega))); omega)) (show (V495 0 73).toInt + (V495 0 95).toInt - (V495 0 65).toInt ≤ (V 0 73).toInt + (V 0 95).toInt - (V 0 65).toInt from by first | exact om_a90075b28fa2 xlp19_5 pq463 pq465 pq466 t484 | first | omega | ((try (have i_t489 := Imp.go t489 (by omega))); omega)) (show (V 0 73).toInt ≤ (V495 0 73).toInt from by first | exact om_860317e29598 xlp19_6 pq466 t485 | first | omega | ((try (have i_t489 := Imp.go t489 (by omega))); omega)) (show (V 0 69).toInt ≤ (V495 0 69).toInt from by first | exact om_860317e29598 xlp19_7 pq467 t486 | first | omega | ((try (have i_t489 := Imp.go t489 (by omega))); omega)) (show (V495 0 95).toInt = (V 0 95).toInt from by first | exact om_a0c405496c73 xlp19_8 pq465 t487 | first | omega | ((try (have i_t489 := Imp.go t489 (by omega))); omega)) (show (V495 0 76).toInt - (V495 0 69).toInt - (V495 0 73).toInt ≤ (V 0 76).toInt - (V 0 69).toInt - (V 0 73).toInt from by first | exact om_c8ebd92074a9 xlp19_9 t446 pq466 pq467 ((Imp.go t489 (om_6bba7cc50278 q506))) | first | omega | ((try (have i_t489 := Imp.go t489 (by omega))); omega)) (show z532.toInt ≤ z12.toInt - 1 from by first | exact om_892008aa65e1 xlp19_10 hz532 | first | omega | ((try (have i_t489 := Imp.go t489 (by omega))); omega)) t490 fm534 t492 pk536 (Or.inr ⟨i9, (V495 0 90).toInt, (V495 0 91).toInt, ma525, by omega, by omega, by omega, ht529⟩) (by first | exact om_2e0ce331b730 hn hz532 | first | omega | ((try (have i_t489 := Imp.go t489 (by omega))); omega)) (agr.tr (agr.tr (agr.tr agr.rf ajV18 (by decide) (by decide)) ajV447 (by decide) (by decide)) ajV495 (by decide) (by decide)) hMV495 hP hD hS (lv_sub hl [0, 4, 5, 6, 7, 8, 9, 10] rfl)
              · skip
                have f537 : z476.toInt ≠ 1 := b_neq rfl (by decide) c530
                exfalso; first | exact om_b36fcf15d462 q506 f537 | first | omega | ((try (have i_t489 := Imp.go t489 (by omega))); omega)
            · skip
              obtain ⟨ma539, mt540, mk541, ht538⟩ := dp505.e2 q506
              have ht542 : TRs gB (mV V 2 gt gu, ga, Fcall1 glv go gc gsc gme :: gr) (mV V495 3 mt540 mk541, ma539, Fcall3 glv go gc gsc gme (i9 : Int) gt gu :: gr) := TRs.tr ht457 ht538
              have r543 : 0 ≤ (V495 0 65).toInt := (hMV495 0 65).1
              have r544 : (V495 0 60).toInt ≤ 300 := (hMV495 0 60).2
              have r545 : 0 ≤ (V495 0 93).toInt ∧ (V495 0 93).toInt ≤ 10 := hMV495 0 93
              have ht546 : TRs gB (mV V 2 gt gu, ga, Fcall1 glv go gc gsc gme :: gr) (mV V495 3 mt540 mk541, ma539, gr) := TRs.st ht542 (SF.mk (show gr.length ≤ 394 from by (first | exact om_1b2fb2a71a22 hl9 zt9.1 zb9.2 f440 | omega)) (show 0 + (totP gr) ≤ 2000 from by (first | exact om_5255b714ed60 hp9 zt9.1 zb9.2 f440 | omega)) (show 0 ≤ (V495 0 65).toInt ∧ (V495 0 65).toInt ≤ 300 from by (first | exact om_810da67e2db8 n1 xlp19_4 pq463 pq464 t483 r499.2 r500.1 | omega)) (fun h9 => absurd (show (3 : Int) = 2 from h9) (by decide)) trivial) (st_7n (show ¬ (3 : Int) = 2 by decide))
              refine lv_iload hx hb dX12_failings_92 (lv_at hl 0 rfl) ?_
              refine lv_iconst (v := 1) hx hb dX12_failings_94 (by decide) ?_
              refine lv_icmp_eq (tgt := 101) hx hb dX12_failings_95 (by decide) (fun c547 => ?_) (fun c547 => ?_)
              · skip
                have f548 : z476.toInt = 1 := b_eq rfl (by decide) c547
                exfalso; first | exact om_36fb4cdadc8e q506 f548 | first | omega | ((try (have i_t489 := Imp.go t489 (by omega))); omega)
              · skip
                have f549 : z476.toInt ≠ 1 := b_neq rfl (by decide) c547
                refine lv_iload hx hb dX12_failings_98 (lv_at hl 0 rfl) ?_
                have fm550 : FRM V V447 (-1) := (FRM.tr xlp19_12 (FRM.ag (show agr [(0, 76)] [77, 78, 79] V18 V447 from (agr.tr agr.rf ajV447 (by decide) (by decide))) ⟨⟨rfl, fun _ => rfl, fun _ => rfl, fun _ => rfl, fun _ => rfl, fun _ => rfl, fun _ => rfl⟩, by decide, by decide, rfl, rfl, fun _ => rfl, fun _ => rfl, fun _ => rfl, fun _ => rfl, fun _ => rfl, fun _ => rfl⟩) agV18 ⟨rfl, fun _ => rfl, fun _ => rfl, fun _ => rfl, fun _ => rfl, fun _ => rfl, fun _ => rfl⟩ (by (first | exact om_abdc88b0c8fc xlp19_8 | omega)))
                have fm551 : FRM V V495 (-1) := (FRM.tr fm550 t491 agV447 ⟨rfl, fun _ => rfl, fun _ => rfl, fun _ => rfl, fun _ => rfl, fun _ => rfl, fun _ => rfl⟩ (by (first | exact om_4052a1005a1f xlp19_8 pq465 | omega)))
                have pk552 : PLK V V447 (V 0 98).toInt.toNat := (PLK.tr xlp19_14 (PLK.ag (t := (V 0 98).toInt.toNat) (show agr [(0, 76)] [77, 78, 79] V18 V447 from (agr.tr agr.rf ajV447 (by decide) (by decide))) (fun _ => rfl)) (Nat.le_refl _))
                have pk553 : PLK V V495 (V 0 98).toInt.toNat := (PLK.tr pk552 t493 (by (first | exact om_c8124caa8f7e r8.1 xlp19_0 pq469 | omega)))
                have rp554 : DPc gB (mV V 2 gt gu, ga, Fcall1 glv go gc gsc gme :: gr) V495 gr (z476.toInt) (V495 0 96) (24 * (10 - (V 0 93).toInt)) := DPc.m2 ht546 (by (first | exact om_c6421a8055df rgz476.2 q506 | omega))
                exact W.iret (v := z476) hx hb hr (fun t ht hW => ⟨⟨z476, (V495, L), rfl, ⟨hMV495, agV495, rfl, (show 0 ≤ z476.toInt ∧ z476.toInt ≤ 2 from by first | exact om_8c285ac91b81 rgz476.1 rgz476.2 | first | omega | ((try (have i_t489 := Imp.go t489 (by omega))); omega)), (show (V495 0 93).toInt = (V 0 93).toInt from by first | exact om_a0c405496c73 xlp19_1 pq468 t479 | first | omega | ((try (have i_t489 := Imp.go t489 (by omega))); omega)), (show (V495 0 98).toInt = (V 0 98).toInt from by first | exact om_a0c405496c73 xlp19_0 pq469 t480 | first | omega | ((try (have i_t489 := Imp.go t489 (by omega))); omega)), (show (V 0 60).toInt ≤ (V495 0 60).toInt from by first | exact om_860317e29598 xlp19_2 pq464 t481 | first | omega | ((try (have i_t489 := Imp.go t489 (by omega))); omega)), (show (V 0 65).toInt ≤ (V495 0 65).toInt from by first | exact om_860317e29598 xlp19_3 pq463 t482 | first | omega | ((try (have i_t489 := Imp.go t489 (by omega))); omega)), (show (V495 0 65).toInt - (V 0 65).toInt ≤ (V495 0 60).toInt - (V 0 60).toInt from by first | exact om_7a7d927724fb xlp19_4 pq463 pq464 t483 | first | omega | ((try (have i_t489 := Imp.go t489 (by omega))); omega)), (show (V495 0 73).toInt + (V495 0 95).toInt - (V495 0 65).toInt ≤ (V 0 73).toInt + (V 0 95).toInt - (V 0 65).toInt from by first | exact om_a90075b28fa2 xlp19_5 pq463 pq465 pq466 t484 | first | omega | ((try (have i_t489 := Imp.go t489 (by omega))); omega)), (show (V 0 73).toInt ≤ (V495 0 73).toInt from by first | exact om_860317e29598 xlp19_6 pq466 t485 | first | omega | ((try (have i_t489 := Imp.go t489 (by omega))); omega)), (show (V 0 69).toInt ≤ (V495 0 69).toInt from by first | exact om_860317e29598 xlp19_7 pq467 t486 | first | omega | ((try (have i_t489 := Imp.go t489 (by omega))); omega)), (show (V495 0 95).toInt = (V 0 95).toInt from by first | exact om_a0c405496c73 xlp19_8 pq465 t487 | first | omega | ((try (have i_t489 := Imp.go t489 (by omega))); omega)), (show (V495 0 76).toInt - (V495 0 69).toInt - (V495 0 73).toInt ≤ (V 0 76).toInt - (V 0 69).toInt - (V 0 73).toInt + 1 from by first | exact om_872d4b6e7e86 xlp19_9 t446 pq466 pq467 t488 | first | omega | ((try (have i_t489 := Imp.go t489 (by omega))); omega)), (Imp.mk (fun hp => have hp : z476.toInt ≠ 2 := hp; (show (V495 0 76).toInt - (V495 0 69).toInt - (V495 0 73).toInt ≤ (V 0 76).toInt - (V 0 69).toInt - (V 0 73).toInt from by first | exact om_c8ebd92074a9 xlp19_9 t446 pq466 pq467 ((Imp.go t489 (hp))) | first | omega | ((try (have i_t489 := Imp.go t489 (by omega))); omega)))), t490, fm551, t492, pk553, rp554⟩, by rw [ht]; exact hP, va_K.moved hW.alike hK, hD⟩, hS.F ht⟩) hS.2.2 dX12_failings_100
  exact lp19 ((z16.toInt + 1 + 1 : Int).toNat) z16 V H locs ls (by (first | exact om_94ad3bbe076e rgz12.1 rgz12.2 hz16 | omega)) (show (V 0 98).toInt = (V 0 98).toInt from by (first | exact om_4c2c879c4424 | omega)) (show (V 0 93).toInt = (V 0 93).toInt from by (first | exact om_4c2c879c4424 | omega)) (show (V 0 60).toInt ≤ (V 0 60).toInt from by (first | exact om_5977f3d8a10f | omega)) (show (V 0 65).toInt ≤ (V 0 65).toInt from by (first | exact om_5977f3d8a10f | omega)) (show (V 0 65).toInt - (V 0 65).toInt ≤ (V 0 60).toInt - (V 0 60).toInt from by (first | exact om_eecccc46626e | omega)) (show (V 0 73).toInt + (V 0 95).toInt - (V 0 65).toInt ≤ (V 0 73).toInt + (V 0 95).toInt - (V 0 65).toInt from by (first | exact om_5d7de24a65e5 | omega)) (show (V 0 73).toInt ≤ (V 0 73).toInt from by (first | exact om_5977f3d8a10f | omega)) (show (V 0 69).toInt ≤ (V 0 69).toInt from by (first | exact om_5977f3d8a10f | omega)) (show (V 0 95).toInt = (V 0 95).toInt from by (first | exact om_4c2c879c4424 | omega)) (show (V 0 76).toInt - (V 0 69).toInt - (V 0 73).toInt ≤ (V 0 76).toInt - (V 0 69).toInt - (V 0 73).toInt from by (first | exact om_ea19430a4cf3 | omega)) (show z16.toInt ≤ z12.toInt - 1 from by (first | exact om_ba6387949cf8 hz16 | omega)) rt (FRM.rf : FRM V V (-1)) rj (PLK.rf : PLK V V (V 0 98).toInt.toNat) (Or.inl ⟨by omega, ht10⟩) (by (first | exact om_3b297d515ebe | omega)) agr.rf hMV hP hD hS (lv_sub hl [0, 1, 2, 3, 4, 5, 6, 7] rfl)
