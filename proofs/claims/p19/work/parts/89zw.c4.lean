
abbrev r_x_workWrap9 (Z : XZ) : Room := { frames := 4, cells := zcc Z, slots := zss Z, locals := 90 }
abbrev q_x_workWrap9 (D : va_G) (ks : KS) (ad : Nat → Nat) (kk : Nat → ClassId) (V : Vf) (L : Lf) (Z : XZ) (p1 : Int32) (p2 : Int32) (b : Nat) (gf : Nat) (A : Nat → Prop) : Array Value → State → Outcome → State → Prop := qZr D (fun (u : Vf × Lf × XZ × Nat) => rgd bX u.1 ∧ agr [(4, 5), (5, 6), (5, 9)] [33, 34, 35, 67, 68, 69, 70, 71, 72, 73, 74, 75, 76, 77, 78, 79, 80, 81, 82, 83, 84, 85] V u.1 ∧ u.2.1 = L ∧ ZL Z u.2.2.1 ∧ (u.2.2.2 < u.2.2.1.nf) ∧ (MJ u.1 u.2.2.1 b) ∧ ((u.2.2.2 : Int) + 1 = (u.1 5 6).toInt) ∧ ((u.1 67 u.2.2.2).toInt = 4 ∧ (u.1 68 u.2.2.2).toInt = 0) ∧ ((u.1 5 9).toInt = 0) ∧ (Imp ((V 5 6).toInt < 400 ∧ (gf : Int) < (V 5 6).toInt) (PWk V u.1 gf ((V 5 6).toInt.toNat) (V 66 (12 * b + Int32.toNatClampNeg (V 47 (12 * b + Int32.toNatClampNeg p1)))) p2))) (fun u => u.2.2.1.fa u.2.2.2) (fun u => xw ad kk u.1 u.2.1 u.2.2.1) (fun u => xty kk u.2.2.1) (fun u => zcc Z - zcc u.2.2.1) (fun u => zss Z - zss u.2.2.1) A
set_option maxHeartbeats 4000000 in
set_option maxRecDepth 100000 in
theorem x_workWrap9 (l : Launch) (D : va_G) (ks : KS) (sz : Nat) (ad : Nat → Nat) (kk : Nat → ClassId) (V : Vf) (L : Lf) (Z : XZ) (p1 : Int32) (p2 : Int32) (b : Nat) (gf : Nat) (hMV : rgd bX V) (rg_p1 : 0 ≤ p1.toInt ∧ p1.toInt ≤ 11) (hb2 : b < 2) (hgf : gf < Z.nf) (mt : MT V Z b) (hcm : 0 ≤ (V 71 gf).toInt ∧ (V 71 gf).toInt < (V 43 (5 * b + 2)).toInt) (hob : 0 ≤ (V 70 gf).toInt ∧ (V 70 gf).toInt < (V 3 13).toInt) (hat : p1.toInt < (V 41 b).toInt)  : Met l yX5_workWrap (Cond.code yX5_workWrap cX5_workWrap 6 (some (.object "WiringHouse$Frame")) :: GW) (r_x_workWrap9 Z) (va_Pc [.ref (ad 5), .ref (Z.fa gf), .int p1, .int p2] (gp D ks (xw ad kk V L Z) (xty kk Z) sz)) (q_x_workWrap9 D ks ad kk V L Z p1 p2 b gf (va_A (xw ad kk V L Z) sz)) (zcc Z) (zss Z) (va_A (xw ad kk V L Z) sz) := by
  refine g_met (q_x_workWrap9 D ks ad kk V L Z p1 p2 b gf) (by decide) (Nat.le_of_ble_eq_true rfl) ?_
  intro p e s m below meth c A ls H locs hx hb hr hml hown hg hlocks hin hnw hgk hP hK hD hS hA hl
  replace hown : s.vm.findClass RX5 = some m.cls := hown
  replace hl : lv_has ls 6 [(0, .ref (ad 5)), (1, .ref (Z.fa gf)), (2, .int p1), (3, .int p2)] := hl
  replace hP : va_P D vwCl (xw ad kk V L Z) H := hP
  replace hD : va_D A (xw ad kk V L Z) := hD
  replace hK : va_K D vwCl (xty kk Z) s := hK
  have agV : agr [(4, 5), (5, 6), (5, 9)] [33, 34, 35, 67, 68, 69, 70, 71, 72, 73, 74, 75, 76, 77, 78, 79, 80, 81, 82, 83, 84, 85] V V := agr.rf
  have zoZ : ZL Z Z := ZL.rf
  refine W.know (fun ka kb => ?_)
  refine W.tight (k := zcc Z - zcc Z) (n := zss Z - zss Z) (by (first | exact om_7244b830ee02 ka | omega)) (by (first | exact om_7244b830ee02 kb | omega)) ?_
  have r1 : (-1) ≤ ((V 71 gf)).toInt ∧ ((V 71 gf)).toInt ≤ 23 := hMV 71 gf
  have r2 : 0 ≤ ((V 43 (5 * b + 2))).toInt ∧ ((V 43 (5 * b + 2))).toInt ≤ ((xcap (5 * b + 2) : Nat) : Int) := hMV 43 (5 * b + 2)
  have r3 : xcap (5 * b + 2) = 24 := xcap_2
  have r4 : 0 ≤ ((V 3 13)).toInt ∧ ((V 3 13)).toInt ≤ 300 := hMV 3 13
  have r5 : 0 ≤ ((V 41 b)).toInt ∧ ((V 41 b)).toInt ≤ 12 := hMV 41 b
  have r6 : 0 ≤ ((V 5 6)).toInt ∧ ((V 5 6)).toInt ≤ 400 := hMV 5 6
  have kdp := i_clamp (x := V 5 6) rfl (by (first | exact om_5ed7cec8fb5c r6 | omega))
  have hdn := MT.dn mt (by (first | exact om_e1d79c7e4271 r6 kdp | omega))
  have mup := MT.up mt
  have msz := mup.1
  have mbk := mup.2.2.2.1
  refine lv_aload_n hx hb dX5_workWrap_0 rfl (lv_at hl 0 rfl) ?_
  refine va_get (D := D) (ci := 5) (v := .ref (ad (38 + Int32.toNatClampNeg (V 5 5)))) (fs := (xfMachine ad V L Z)) (C := RX5) (T := TX5) (N := 15) hx hb hg inX5 hown hK hP 5 xgMachine rfl 5 (by decide) (hg _ w672) (fun _ h9 => h9) rfl dX5_workWrap_1 ?_
  have r7 : 0 ≤ ((V 5 5)).toInt ∧ ((V 5 5)).toInt ≤ 1 := hMV 5 5
  refine g_topv (v := .ref (ad (38 + b))) (rfP (by (first | exact om_c62f5505ba8e mup | omega))) ?_
  refine va_getN (D := D) (ci := 0) (v := .ref (ad (68 + b))) (fs := (xfBook ad V b)) (C := RX0) (T := TX0) (N := 13) hx hb hg inX0 hown hK hP (38 + b) (xgBook hb2) rfl 9 (by decide) (hnw.use 622 n622 rfl) (fun _ h9 => h9) rfl dX5_workWrap_4 ?_
  refine lv_iload_n hx hb dX5_workWrap_7 rfl (lv_at hl 2 rfl) ?_
  have il8 : b < 2 := by (first | exact om_289974d36c9f hb2 mup | omega)
  refine va_iald (D := D) (i := p1) hx hb hK hP (68 + b) (61 + b) (xgwrapOrder il8) (xtwrapOrder il8) (i_in (a := p1.toInt) rfl (by (first | exact om_efe63d00ede6 rg_p1 | omega))) dX5_workWrap_8 ?_
  have kc9 := i_clamp (x := p1) rfl (by (first | exact om_5b7c77b152f9 rg_p1 | omega))
  refine g_top (v := V 47 (12 * b + (Int32.toNatClampNeg p1))) (if_pos (by (first | exact om_90e5c36d8c2a rg_p1 kc9 | omega))) ?_
  have r10 : 0 ≤ ((V 47 (12 * b + (Int32.toNatClampNeg p1)))).toInt ∧ ((V 47 (12 * b + (Int32.toNatClampNeg p1)))).toInt ≤ 11 := hMV 47 (12 * b + (Int32.toNatClampNeg p1))
  refine lv_istore (lv' := [(4, .int (V 47 (12 * b + (Int32.toNatClampNeg p1)))), (0, .ref (ad 5)), (1, .ref (Z.fa gf)), (2, .int p1), (3, .int p2)]) hx hb dX5_workWrap_9 hl (by decide) rfl (fun ls hl => ?_)
  have kcp := i_clamp (x := p1) rfl (by (first | exact om_ad1ae1dcac7c rg_p1 kc9 | omega))
  have htx := mup.2.1.2.2 (Int32.toNatClampNeg p1) (by (first | exact om_8e804528d4db hat kc9 | omega))
  have kcw := i_clamp (x := (V 47 (12 * b + (Int32.toNatClampNeg p1)))) rfl (by (first | exact om_5b7c77b152f9 r10 | omega))
  have hgs := mup.2.1.2.1 (Int32.toNatClampNeg (V 47 (12 * b + (Int32.toNatClampNeg p1)))) (by (first | exact om_8e804528d4db htx kcw | omega))
  refine lv_aload_n hx hb dX5_workWrap_11 rfl (lv_at hl 1 rfl) ?_
  refine va_get (D := D) (ci := 5) (v := .ref (ad (38 + Int32.toNatClampNeg (V 5 5)))) (fs := (xfMachine ad V L Z)) (C := RX5) (T := TX5) (N := 15) hx hb hg inX5 hown hK hP 5 xgMachine rfl 5 (by decide) (hg _ w672) (fun _ h9 => h9) rfl dX5_workWrap_12 ?_
  refine g_topv (v := .ref (ad (38 + b))) (rfP (by (first | exact om_c62f5505ba8e mup | omega))) ?_
  refine va_getN (D := D) (ci := 0) (v := .ref (ad (66 + b))) (fs := (xfBook ad V b)) (C := RX0) (T := TX0) (N := 13) hx hb hg inX0 hown hK hP (38 + b) (xgBook hb2) rfl 8 (by decide) (hnw.use 620 n620 rfl) (fun _ h9 => h9) rfl dX5_workWrap_15 ?_
  refine lv_iload hx hb dX5_workWrap_18 (lv_at hl 0 rfl) ?_
  have il11 : b < 2 := by (first | exact om_289974d36c9f hb2 mup | omega)
  refine va_aldq (D := D) (i := (V 47 (12 * b + (Int32.toNatClampNeg p1)))) hx hb hK hP (66 + b) (59 + b) (xgwrapsA il11) (xtwrapsA il11) (i_in (a := ((V 47 (12 * b + (Int32.toNatClampNeg p1)))).toInt) rfl (by (first | exact om_abc4fbf11031 r10 kcw | omega))) dX5_workWrap_20 ?_
  have kc12 := i_clamp (x := (V 47 (12 * b + (Int32.toNatClampNeg p1)))) rfl (by (first | exact om_ad1ae1dcac7c r10 kcw | omega))
  refine g_topv (v := .ref (ad (312 + (12 * b + (Int32.toNatClampNeg (V 47 (12 * b + (Int32.toNatClampNeg p1)))))))) (congrArg va_rf (if_pos (by (first | exact om_90e5c36d8c2a r10 kcw | omega)))) ?_
  have il13 : (12 * b + (Int32.toNatClampNeg (V 47 (12 * b + (Int32.toNatClampNeg p1))))) < 24 := by (first | exact om_2123a129ca0b hb2 mup r10 kcw | omega)
  refine lv_astore (lv' := [(5, .ref (ad (312 + (12 * b + (Int32.toNatClampNeg (V 47 (12 * b + (Int32.toNatClampNeg p1)))))))), (4, .int (V 47 (12 * b + (Int32.toNatClampNeg p1)))), (0, .ref (ad 5)), (1, .ref (Z.fa gf)), (2, .int p1), (3, .int p2)]) hx hb dX5_workWrap_21 hl (by decide) rfl (fun ls hl => ?_)
  refine lv_aload_n hx hb dX5_workWrap_23 rfl (lv_at hl 2 rfl) ?_
  refine va_get (D := D) (ci := 5) (v := .ref (ad 4)) (fs := (xfMachine ad V L Z)) (C := RX5) (T := TX5) (N := 15) hx hb hg inX5 hown hK hP 5 xgMachine rfl 1 (by decide) (hg _ w668) (fun _ h9 => h9) rfl dX5_workWrap_24 ?_
  refine lv_aload hx hb dX5_workWrap_27 (lv_at hl 0 rfl) ?_
  refine va_getN (D := D) (ci := 10) (v := .int (V 65 (12 * b + (Int32.toNatClampNeg (V 47 (12 * b + (Int32.toNatClampNeg p1))))))) (fs := (xfWrap V (12 * b + (Int32.toNatClampNeg (V 47 (12 * b + (Int32.toNatClampNeg p1))))))) (C := RX10) (T := TX10) (N := 5) hx hb hg inX10 hown hK hP (312 + (12 * b + (Int32.toNatClampNeg (V 47 (12 * b + (Int32.toNatClampNeg p1)))))) (xgWrap il13) rfl 3 (by decide) (hnw.use 579 n579 rfl) (fun _ h9 => h9) rfl dX5_workWrap_29 ?_
  refine lv_iload hx hb dX5_workWrap_32 (lv_at hl 1 rfl) ?_
  refine lv_iload_n hx hb dX5_workWrap_34 rfl (lv_at hl 5 rfl) ?_
  refine gA_void (gA_runV (As := [.int (V 65 (12 * b + (Int32.toNatClampNeg (V 47 (12 * b + (Int32.toNatClampNeg p1)))))), .int (V 47 (12 * b + (Int32.toNatClampNeg p1))), .int p2]) (rest := []) (ci := 7) (q0 := 4) hx hb hml hown hg hP hD hK hS hA hnw hgk (x_NnoteThing l D ks H.size ad kk V L Z (V 65 (12 * b + (Int32.toNatClampNeg (V 47 (12 * b + (Int32.toNatClampNeg p1)))))) (V 47 (12 * b + (Int32.toNatClampNeg p1))) p2 hMV ) w1407 w1408 w1409 w166 w1410 rfl xgNotes hdV_yX7_noteThing ⟨Nat.le_of_ble_eq_true rfl, Nat.le_of_ble_eq_true rfl⟩ rfl hl.1 rfl (Nat.le_of_ble_eq_true rfl) dX5_workWrap_35 ⟨z0, z0⟩) hP hD hK hS hA (fun u15 H locs w16 hP hD hK hS => ?_)
  obtain ⟨V17, L18⟩ := u15
  obtain ⟨hMV17, ajV17, axL18⟩ := w16
  have axL18 : L = L18 := Eq.symm axL18
  subst axL18
  replace hP : va_P D vwCl (xw ad kk V17 L Z) H := hP
  replace hD : va_D A (xw ad kk V17 L Z) := hD
  replace hMV17 : rgd bX V17 := hMV17
  replace ajV17 : agr [(4, 5)] [33, 34, 35] V V17 := ajV17
  have agV17 : agr [(4, 5), (5, 6), (5, 9)] [33, 34, 35, 67, 68, 69, 70, 71, 72, 73, 74, 75, 76, 77, 78, 79, 80, 81, 82, 83, 84, 85] V V17 := agV.tr ajV17 (by decide) (by decide)
  refine lv_aload_n hx hb dX5_workWrap_38 rfl (lv_at hl 2 rfl) ?_
  refine lv_aload_n hx hb dX5_workWrap_39 rfl (lv_at hl 3 rfl) ?_
  refine lv_aload hx hb dX5_workWrap_40 (lv_at hl 0 rfl) ?_
  refine va_getN (D := D) (ci := 10) (v := .int (V17 66 (12 * b + (Int32.toNatClampNeg (V 47 (12 * b + (Int32.toNatClampNeg p1))))))) (fs := (xfWrap V17 (12 * b + (Int32.toNatClampNeg (V 47 (12 * b + (Int32.toNatClampNeg p1))))))) (C := RX10) (T := TX10) (N := 5) hx hb hg inX10 hown hK hP (312 + (12 * b + (Int32.toNatClampNeg (V 47 (12 * b + (Int32.toNatClampNeg p1)))))) (xgWrap il13) rfl 4 (by decide) (hnw.use 581 n581 rfl) (fun _ h9 => h9) rfl dX5_workWrap_42 ?_
  refine g_top (v := (V 66 (12 * b + (Int32.toNatClampNeg (V 47 (12 * b + (Int32.toNatClampNeg p1))))))) (ajV17 66 (12 * b + (Int32.toNatClampNeg (V 47 (12 * b + (Int32.toNatClampNeg p1))))) rfl) ?_
  have r19 : 0 ≤ ((V 66 (12 * b + (Int32.toNatClampNeg (V 47 (12 * b + (Int32.toNatClampNeg p1))))))).toInt ∧ ((V 66 (12 * b + (Int32.toNatClampNeg (V 47 (12 * b + (Int32.toNatClampNeg p1))))))).toInt ≤ 8200 := hMV 66 (12 * b + (Int32.toNatClampNeg (V 47 (12 * b + (Int32.toNatClampNeg p1)))))
  refine lv_iload_n hx hb dX5_workWrap_45 rfl (lv_at hl 5 rfl) ?_
  have pq20 : (V17 71 gf).toInt = ((V 71 gf)).toInt := congrArg Int32.toInt (ajV17 71 gf rfl)
  have pq21 : (V17 43 (5 * b + 2)).toInt = ((V 43 (5 * b + 2))).toInt := congrArg Int32.toInt (ajV17 43 (5 * b + 2) rfl)
  have pq22 : (V17 3 13).toInt = ((V 3 13)).toInt := congrArg Int32.toInt (ajV17 3 13 rfl)
  have pq23 : (V17 70 gf).toInt = ((V 70 gf)).toInt := congrArg Int32.toInt (ajV17 70 gf rfl)
  have me24 : ME V V17 400 := (ME.tr ME.rf (ME.ag ajV17 (by decide)))
  have mt25 : MT V17 Z b := MT.me mt me24 (ajV17 5 6 rfl)
  have me26 : ME V V17 0 := (ME.tr ME.rf (ME.ag ajV17 (by decide)))
  have ha27 : (V17 42 b).toInt ≤ ((V 66 (12 * b + (Int32.toNatClampNeg (V 47 (12 * b + (Int32.toNatClampNeg p1))))))).toInt ∨ (bdp V17 b (((V 66 (12 * b + (Int32.toNatClampNeg (V 47 (12 * b + (Int32.toNatClampNeg p1))))))).toInt).toNat).1 = true := by rw [me26.1.bd, me26.1 42 b (by decide) (by decide)]; exact gs.fk hgs (hMV 42 b).2
  refine W.know (fun k29 k30 => ?_)
  obtain ⟨Hk28, hHk28⟩ : ∃ z, z = H := ⟨_, rfl⟩
  have k29 : Hk28.size ≤ s.heap.size + (zcc Z - zcc Z) := by rw [hHk28]; exact k29
  have k30 : tot Hk28 ≤ tot s.heap + (zss Z - zss Z) := by rw [hHk28]; exact k30
  refine gZ_ref (gA_runV (As := [.ref (Z.fa gf), .int (V 66 (12 * b + (Int32.toNatClampNeg (V 47 (12 * b + (Int32.toNatClampNeg p1)))))), .int p2]) (rest := []) (ci := 5) (q0 := 5) hx hb hml hown hg hP hD hK hS hA hnw hgk (x_pushWork9 l D ks H.size ad kk V17 L Z (V 66 (12 * b + (Int32.toNatClampNeg (V 47 (12 * b + (Int32.toNatClampNeg p1)))))) p2 (b) (gf) hMV17 (by (first | exact om_07239c06069a r19 | omega)) (show b < 2 from by (first | exact om_289974d36c9f hb2 mup | omega)) (show gf < Z.nf from by (first | exact om_0e9116797efb hgf | omega)) mt25 (show 0 ≤ (V17 71 gf).toInt ∧ (V17 71 gf).toInt < (V17 43 (5 * b + 2)).toInt from by (first | exact om_ec5ae8197159 hcm r1 pq20 pq21 | omega)) (show 0 ≤ (V17 70 gf).toInt ∧ (V17 70 gf).toInt < (V17 3 13).toInt from by (first | exact om_e00aa797821d hob pq22 pq23 | omega)) ha27) w1376 w1378 w57 w171 w1379 rfl xgMachine hdV_yX5_pushWork ⟨Nat.le_of_ble_eq_true rfl, Nat.le_of_ble_eq_true rfl⟩ rfl hl.1 rfl (Nat.le_of_ble_eq_true rfl) dX5_workWrap_46 ⟨z1 zoZ.1, z1 zoZ.2.1⟩) hD hS hA (fun u32 H locs w33 hP hD hK hS y34 y35 => ?_)
  obtain ⟨V36, L37, Z38, f39⟩ := u32
  obtain ⟨hMV36, ajV36, axL37, zlZ38, ilf39, t40, t41, t42, t43, t44⟩ := w33
  have axL37 : L = L37 := Eq.symm axL37
  subst axL37
  replace hP : va_P D vwCl (xw ad kk V36 L Z38) H := hP
  replace hD : va_D A (xw ad kk V36 L Z38) := hD
  replace hK : va_K D vwCl (xty kk Z38) s := hK
  replace hMV36 : rgd bX V36 := hMV36
  replace ajV36 : agr [(5, 6), (5, 9)] [67, 68, 69, 70, 71, 72, 73, 74, 75, 76, 77, 78, 79, 80, 81, 82, 83, 84, 85] V17 V36 := ajV36
  have agV36 : agr [(4, 5), (5, 6), (5, 9)] [33, 34, 35, 67, 68, 69, 70, 71, 72, 73, 74, 75, 76, 77, 78, 79, 80, 81, 82, 83, 84, 85] V V36 := agV17.tr ajV36 (by decide) (by decide)
  replace zlZ38 : ZL Z Z38 := zlZ38
  have zoZ38 : ZL Z Z38 := ZL.tr zoZ zlZ38
  have ziZ38 := zlZ38.1
  have zjZ38 := zlZ38.2.1
  have zkZ38 := zlZ38.2.2.1
  have zmZ38 := zoZ38.1
  have znZ38 := zoZ38.2.1
  have zpZ_Z38 := zoZ.1
  have zqZ_Z38 := zoZ.2.1
  have y34 : H.size ≤ Hk28.size + (zcc Z - zcc Z38) := by rw [hHk28]; exact y34
  have y35 : tot H ≤ tot Hk28 + (zss Z - zss Z38) := by rw [hHk28]; exact y35
  refine W.tight (k := zcc Z - zcc Z38) (n := zss Z - zss Z38) (by first | exact tg9 y34 k29 zlZ38.1 zoZ.1 | omega) (by first | exact tg9 y35 k30 zlZ38.2.1 zoZ.2.1 | omega) ?_
  have hl : lv_has ls 6 [(5, .ref (ad (312 + (12 * b + (Int32.toNatClampNeg (V 47 (12 * b + (Int32.toNatClampNeg p1)))))))), (4, .int (V 47 (12 * b + (Int32.toNatClampNeg p1)))), (0, .ref (ad 5)), (1, .ref (Z38.fa gf)), (2, .int p1), (3, .int p2)] := by rw [zlZ38.2.2.2.2 gf hgf]; exact hl
  replace ilf39 : f39 < Z38.nf := ilf39
  replace t40 : MJ V36 Z38 b := t40
  replace t41 : (f39 : Int) + 1 = (V36 5 6).toInt := t41
  replace t42 : (V36 67 f39).toInt = 4 ∧ (V36 68 f39).toInt = 0 := t42
  replace t43 : (V36 5 9).toInt = 0 := t43
  replace t44 : Imp ((V17 5 6).toInt < 400 ∧ (gf : Int) < (V17 5 6).toInt) (PWk V17 V36 gf ((V17 5 6).toInt.toNat) (V 66 (12 * b + (Int32.toNatClampNeg (V 47 (12 * b + (Int32.toNatClampNeg p1)))))) p2) := t44
  have r45 : 0 ≤ ((V36 5 6)).toInt ∧ ((V36 5 6)).toInt ≤ 400 := hMV36 5 6
  have r46 : 0 ≤ ((V36 5 9)).toInt ∧ ((V36 5 9)).toInt ≤ 3 := hMV36 5 9
  have pq48 : (V17 5 6).toInt = ((V 5 6)).toInt := congrArg Int32.toInt (ajV17 5 6 rfl)
  have ip47 : Imp ((V 5 6).toInt < 400 ∧ (gf : Int) < (V 5 6).toInt) (PWk V V36 gf ((V 5 6).toInt.toNat) (V 66 (12 * b + Int32.toNatClampNeg (V 47 (12 * b + Int32.toNatClampNeg p1)))) p2) := Imp.mk (fun hp => by
    have me49 : ME V V17 ((V 5 6).toInt.toNat) := (ME.tr ME.rf (ME.ag ajV17 (by decide)))
    have h9 := Imp.go t44 (by rw [(ajV17 5 6 rfl)]; exact hp)
    rw [show V17 5 6 = V 5 6 from (ajV17 5 6 rfl)] at h9
    exact PWk.mv h9 (by have h8 := hp.2; (first | exact om_06a3c736f2e8 r6 kdp pq48 hp | omega)) (ajV17 5 6 rfl) (ajV17 5 7 rfl) (fun j9 hj9 c9 h1 h2 => me49.2.1 c9 j9 h1 h2 hj9))
  refine W.know (fun kr1 kr2 => ?_)
  refine W.widen (k := zcc Z) (n := zss Z) (Nat.sub_le _ _) (Nat.sub_le _ _) ?_
  exact W.aret (v := .ref (Z38.fa f39)) hx hb hr (Or.inl ⟨_, rfl⟩) (Or.inr ⟨_, rfl⟩) (fun t ht hW => ⟨⟨(V36, L, Z38, f39), rfl, ⟨hMV36, agV36, rfl, zoZ38, ilf39, t40, (show (f39 : Int) + 1 = (V36 5 6).toInt from by (first | exact om_d5747674bc98 t41 | omega)), t42, (show (V36 5 9).toInt = 0 from by (first | exact om_b66ba74381d5 t43 | omega)), ip47⟩, ⟨by rw [ht]; exact hP, va_K.moved hW.alike hK, hD⟩, by rw [ht]; exact kr1, by rw [ht]; exact kr2⟩, hS.F ht⟩) hS.2.2 dX5_workWrap_49
abbrev r_x_beginCalling9 (Z : XZ) : Room := { frames := 4, cells := zcc Z, slots := zss Z, locals := 90 }
abbrev q_x_beginCalling9 (D : va_G) (ks : KS) (ad : Nat → Nat) (kk : Nat → ClassId) (V : Vf) (L : Lf) (Z : XZ) (b : Nat) (gf : Nat) (gB : Bk) (gm : Mm) (ga : Int32) (gfr : Fr) (gr : List Fr) (A : Nat → Prop) : Array Value → State → Outcome → State → Prop := qZv D (fun (u : Vf × Lf × XZ) => rgd bX u.1 ∧ agr [(5, 6), (5, 9), (5, 11), (5, 12), (5, 13), (5, 14)] [67, 68, 69, 70, 71, 72, 73, 74, 75, 76, 77, 78, 79, 80, 81, 82, 83, 84, 85] V u.1 ∧ u.2.1 = L ∧ ZL Z u.2.2 ∧ (MJ u.1 u.2.2 b) ∧ (RW u.1 gB (stM gB (gm, ga, gfr :: gr)))) (fun u => xw ad kk u.1 u.2.1 u.2.2) (fun u => xty kk u.2.2) (fun u => zcc Z - zcc u.2.2) (fun u => zss Z - zss u.2.2) A
set_option maxHeartbeats 4000000 in
set_option maxRecDepth 100000 in
theorem x_beginCalling9 (l : Launch) (D : va_G) (ks : KS) (sz : Nat) (ad : Nat → Nat) (kk : Nat → ClassId) (V : Vf) (L : Lf) (Z : XZ) (b : Nat) (gf : Nat) (gB : Bk) (gm : Mm) (ga : Int32) (gfr : Fr) (gr : List Fr) (hMV : rgd bX V) (hb2 : b < 2) (hgf : gf < Z.nf) (mo : MO V Z b gf True (QN V b) (QN V b)) (gd : (gf : Int) + 1 = (V 5 6).toInt) (gk : (V 67 gf).toInt = 2) (rwq : RW V gB (gm, ga, gfr :: gr)) (bc : BKc V b gB) (sf : SF gB (gm, ga, gfr :: gr)) (ph0 : (V 68 gf).toInt = 0)  : Met l yX5_beginCalling (Cond.code yX5_beginCalling cX5_beginCalling 2 none :: GW) (r_x_beginCalling9 Z) (va_Pc [.ref (ad 5), .ref (Z.fa gf)] (gp D ks (xw ad kk V L Z) (xty kk Z) sz)) (q_x_beginCalling9 D ks ad kk V L Z  b gf gB gm ga gfr gr (va_A (xw ad kk V L Z) sz)) (zcc Z) (zss Z) (va_A (xw ad kk V L Z) sz) := by
  refine g_met (q_x_beginCalling9 D ks ad kk V L Z  b gf gB gm ga gfr gr) (by decide) (Nat.le_of_ble_eq_true rfl) ?_
  intro p e s m below meth c A ls H locs hx hb hr hml hown hg hlocks hin hnw hgk hP hK hD hS hA hl
  replace hown : s.vm.findClass RX5 = some m.cls := hown
  replace hl : lv_has ls 2 [(0, .ref (ad 5)), (1, .ref (Z.fa gf))] := hl
  replace hP : va_P D vwCl (xw ad kk V L Z) H := hP
  replace hD : va_D A (xw ad kk V L Z) := hD
  replace hK : va_K D vwCl (xty kk Z) s := hK
  have agV : agr [(5, 6), (5, 9), (5, 11), (5, 12), (5, 13), (5, 14)] [67, 68, 69, 70, 71, 72, 73, 74, 75, 76, 77, 78, 79, 80, 81, 82, 83, 84, 85] V V := agr.rf
  have zoZ : ZL Z Z := ZL.rf
  refine W.know (fun ka kb => ?_)
  refine W.tight (k := zcc Z - zcc Z) (n := zss Z - zss Z) (by (first | exact om_7244b830ee02 ka | omega)) (by (first | exact om_7244b830ee02 kb | omega)) ?_
  have r1 : 0 ≤ ((V 5 6)).toInt ∧ ((V 5 6)).toInt ≤ 400 := hMV 5 6
  have kdp := i_clamp (x := V 5 6) rfl (by (first | exact om_e301311e2a25 gd r1 | omega))
  have hdn : (gf : Int) + 1 ≤ (Z.nf : Int) := by (first | exact om_bb8713a56da6 hgf gd kdp | omega)
  have mup := MO.up mo
  have msz := mup.1
  have mbk := mup.2.2.2.1
  obtain ⟨xk, fk⟩ := MO.fk mo
  have r2 : (-1) ≤ ((V 71 gf)).toInt ∧ ((V 71 gf)).toInt ≤ 23 := hMV 71 gf
  have r3 : 0 ≤ ((V 75 gf)).toInt ∧ ((V 75 gf)).toInt ≤ 12 := hMV 75 gf
  have r4 : 0 ≤ ((V 80 gf)).toInt ∧ ((V 80 gf)).toInt ≤ 300 := hMV 80 gf
  have r5 : 0 ≤ ((V 84 gf)).toInt ∧ ((V 84 gf)).toInt ≤ 2147483647 := hMV 84 gf
  have r6 : 0 ≤ ((V 5 8)).toInt ∧ ((V 5 8)).toInt ≤ 300 := hMV 5 8
  have r7 : 0 ≤ ((V 5 9)).toInt ∧ ((V 5 9)).toInt ≤ 3 := hMV 5 9
  have r8 : 0 ≤ ((V 3 13)).toInt ∧ ((V 3 13)).toInt ≤ 300 := hMV 3 13
  have r9 : 0 ≤ ((V 43 (5 * b + 2))).toInt ∧ ((V 43 (5 * b + 2))).toInt ≤ ((xcap (5 * b + 2) : Nat) : Int) := hMV 43 (5 * b + 2)
  have r10 : xcap (5 * b + 2) = 24 := xcap_2
  have r11 : 0 ≤ ((V 41 b)).toInt ∧ ((V 41 b)).toInt ≤ 12 := hMV 41 b
  have r12 : 0 ≤ ((V 42 b)).toInt ∧ ((V 42 b)).toInt ≤ 8200 := hMV 42 b
  have fc := fk.1 (by (first | exact om_7ff4e10da701 gk | omega))
  have fo : Imp ((V 68 gf).toInt ≠ 0) (0 ≤ (V 70 gf).toInt ∧ (V 70 gf).toInt < (V 3 13).toInt) := Imp.mk (fun h => fk.2.1 (by (first | exact om_7ff4e10da701 gk | omega)) (by (first | exact om_f051135c123a ph0 h | omega)))
  have fp := fk.2.2.2.2.2.2.2.1 (by (first | exact om_6aa5e6f8c558 gk | omega))
  have m1 : Int32.toInt (-1) = -1 := by decide
  have rw0 := rwq
  obtain ⟨⟨ow, rn⟩, rh, rd, tw9, rt9, rl⟩ := rw0
  replace rn : RWn V ow gB gm := rn
  replace rh : RWh V gm ga := rh
  have rd2 : (V 5 6).toInt = ((gr.length + 1 : Nat) : Int) := rd
  have gl9 : gr.length = gf := by (first | exact om_737fc00ff7e4 gd kdp rd rd2 | omega)
  have sl9 : gr.length ≤ 394 := by have h9 : gr.length + 1 ≤ 395 := sf.1; (first | exact om_5c206326bd12 gd r1 kdp rd rd2 h9 | omega)
  have rh1 : (V 5 9).toInt = gm 0 6 := rh.1
  have ra2 : (V 3 13).toInt = gm 0 2 := rn.1.1.2.2.1
  have rl0 := rl
  obtain ⟨t0, tl9, hf0, hbs9, hpl9, hlr⟩ := rl0
  rw [gl9] at hf0 hbs9
  rcases FRc.k2 hf0 gk with ⟨lv, o, c, sc, me, v, hfe⟩ | ⟨lv, o, c, sc, me, hfe⟩ | ⟨lv, o, c, sc, me, ps, nd, fl, hfe⟩
  · skip
    have hf : FRc V gB gf (Fcall0 lv o c sc me v) := by rw [← hfe]; exact hf0
    have tl8 : tw9 = t0 + (Fcall0 lv o c sc me v : Fr).2.2.2.length := by rw [← hfe]; exact tl9
    obtain ⟨⟨k67, k68⟩, q69, q70, qo, ⟨c2, c3⟩, ⟨q72, s0, s1⟩, ⟨q73, m0, m9⟩, q74⟩ := hf
    have tz9 : tw9 = t0 := tl8
    refine lv_aload_n hx hb dX5_beginCalling_0 rfl (lv_at hl 0 rfl) ?_
    refine gA_int (gA_runV (As := []) (rest := []) (ci := 5) (q0 := 5) hx hb hml hown hg hP hD hK hS hA hnw hgk (x_takesStep9 l D ks H.size ad kk V L Z  hMV ) w1281 w1283 w48 w171 w1284 rfl xgMachine hdV_yX5_takesStep ⟨Nat.le_of_ble_eq_true rfl, Nat.le_of_ble_eq_true rfl⟩ rfl hl.1 rfl (Nat.le_of_ble_eq_true rfl) dX5_beginCalling_1 ⟨z0, z0⟩) hP hD hK hS hA (fun z13 u14 H locs w15 hP hD hK hS => ?_)
    obtain ⟨V19, L20⟩ := u14
    obtain ⟨hMV19, ajV19, axL20, rgz13, t16, t17, t18⟩ := w15
    have axL20 : L = L20 := Eq.symm axL20
    subst axL20
    replace hP : va_P D vwCl (xw ad kk V19 L Z) H := hP
    replace hD : va_D A (xw ad kk V19 L Z) := hD
    replace hMV19 : rgd bX V19 := hMV19
    replace ajV19 : agr [(5, 9), (5, 13), (5, 14)] [] V V19 := ajV19
    have agV19 : agr [(5, 6), (5, 9), (5, 11), (5, 12), (5, 13), (5, 14)] [67, 68, 69, 70, 71, 72, 73, 74, 75, 76, 77, 78, 79, 80, 81, 82, 83, 84, 85] V V19 := agV.tr ajV19 (by decide) (by decide)
    replace rgz13 : 0 ≤ z13.toInt ∧ z13.toInt ≤ 1 := rgz13
    replace t16 : Imp (z13.toInt = 0) ((V19 5 9).toInt = 3) := t16
    replace t17 : Imp (z13.toInt = 1) ((V19 5 9).toInt = (V 5 9).toInt) := t17
    replace t18 : ((z13.toInt = 1 ∧ (V 5 13).toInt < 3000 ∧ (V 5 14).toInt < 60000) ∧ V19 = (up2 (up2 V 5 13 (V 5 13 + 1)) 5 14 (V 5 14 + 1))) ∨ ((z13.toInt = 0 ∧ (3000 ≤ (V 5 13).toInt ∨ 60000 ≤ (V 5 14).toInt)) ∧ V19 = (up2 V 5 9 3)) := t18
    have r21 : 0 ≤ ((V19 5 9)).toInt ∧ ((V19 5 9)).toInt ≤ 3 := hMV19 5 9
    rcases t18 with ⟨hc22, hw23⟩ | ⟨hc24, hw25⟩
    · skip
      have r27 : 0 ≤ ((V 5 13)).toInt ∧ ((V 5 13)).toInt ≤ 3000 := hMV 5 13
      obtain ⟨z26, ez26⟩ : ∃ y : Int32, y = V 5 13 + 1 := ⟨_, rfl⟩
      have hz26 : z26.toInt = (V 5 13).toInt + 1 := i_add ez26 rfl (by decide) (by first | exact om_85cadc5978b9 hc22 r27 | first | omega | ((try (have i_t17 := Imp.go t17 (by omega))); (try (have i_t16 := Imp.go t16 (by omega))); (try (have i_fo := Imp.go fo (by omega))); (try (have i_fo := Imp.go fo (by omega))); (try (have i_t16 := Imp.go t16 (by omega))); (try (have i_t17 := Imp.go t17 (by omega))); omega))
      obtain ⟨V28, hV28⟩ : ∃ z, z = up2 V 5 13 z26 := ⟨_, rfl⟩
      have r30 : 0 ≤ ((V 5 14)).toInt ∧ ((V 5 14)).toInt ≤ 60000 := hMV 5 14
      obtain ⟨z29, ez29⟩ : ∃ y : Int32, y = V 5 14 + 1 := ⟨_, rfl⟩
      have hz29 : z29.toInt = (V 5 14).toInt + 1 := i_add ez29 rfl (by decide) (by first | exact om_024f86a0353e hc22 r30 | first | omega | ((try (have i_t17 := Imp.go t17 (by omega))); (try (have i_t16 := Imp.go t16 (by omega))); (try (have i_fo := Imp.go fo (by omega))); (try (have i_fo := Imp.go fo (by omega))); (try (have i_t16 := Imp.go t16 (by omega))); (try (have i_t17 := Imp.go t17 (by omega))); omega))
      have hV19 : V19 = up2 V28 5 14 z29 := by rw [hw23, hV28, ez26, ez29]
      refine lv_if_ne (tgt := 14) hx hb dX5_beginCalling_4 (by decide) (fun c31 => ?_) (fun c31 => ?_)
      · skip
        have f32 : z13.toInt ≠ 0 := b_neq rfl (by decide) c31
        have rw33 : RW V19 gB (mSt gm, ga, gfr :: gr) := RW.stp rwq (by rw [up2_s hV19]; exact hz29) (by rw [(up2_k hV19 (by decide)).trans (up2_s hV28)]; exact hz26) (fun c9 k9 h9 => ((show V19 c9 k9 = V28 c9 k9 from by rw [hV19]; exact up2_pl (by (first | exact om_3c8b5c231eb1 h9 | omega))).trans (show V28 c9 k9 = V c9 k9 from by rw [hV28]; exact up2_pl (by (first | exact om_efa07d15d02f h9 | omega)))))
        have can9 : mCan gm := by have h1 := rn.1.1.1; have h2 := rn.1.1.2.1; exact ⟨by (first | exact om_3bc8c5b4f1e7 hc22 r27 hz26 h2 | omega), by (first | exact om_aba245bc7bc5 hc22 r30 hz29 h1 | omega)⟩
        refine lv_aload_n hx hb dX5_beginCalling_14 rfl (lv_at hl 1 rfl) ?_
        refine va_getN (D := D) (ci := 4) (v := .int (V19 69 gf)) (fs := (xfFrame V19 gf)) (C := RX4) (T := TX4) (N := 19) hx hb hg inX4 hown hK hP (336 + gf) (xgFrame hgf) rfl 2 (by decide) (hnw.use 1191 n1191 rfl) (fun _ h9 => h9) rfl dX5_beginCalling_15 ?_
        refine g_top (v := (V 69 gf)) ((up2_o hV19 (by decide)).trans (up2_o hV28 (by decide))) ?_
        refine lv_bipush (v := 10) hx hb dX5_beginCalling_18 (by decide) ?_
        refine lv_icmp_le (tgt := 37) hx hb dX5_beginCalling_20 (by decide) (fun c34 => ?_) (fun c34 => ?_)
        · skip
          have f35 : ((V 69 gf)).toInt ≤ 10 := b_le rfl (by decide) c34
          refine lv_aload_n hx hb dX5_beginCalling_37 rfl (lv_at hl 0 rfl) ?_
          refine va_get (D := D) (ci := 5) (v := .ref (ad 3)) (fs := (xfMachine ad V19 L Z)) (C := RX5) (T := TX5) (N := 15) hx hb hg inX5 hown hK hP 5 xgMachine rfl 0 (by decide) (hg _ w667) (fun _ h9 => h9) rfl dX5_beginCalling_38 ?_
          refine lv_aload_n hx hb dX5_beginCalling_41 rfl (lv_at hl 1 rfl) ?_
          refine va_getN (D := D) (ci := 4) (v := .int (V19 70 gf)) (fs := (xfFrame V19 gf)) (C := RX4) (T := TX4) (N := 19) hx hb hg inX4 hown hK hP (336 + gf) (xgFrame hgf) rfl 3 (by decide) (hnw.use 1192 n1192 rfl) (fun _ h9 => h9) rfl dX5_beginCalling_42 ?_
          refine g_top (v := (V 70 gf)) ((up2_o hV19 (by decide)).trans (up2_o hV28 (by decide))) ?_
          refine gA_int (gA_runV (As := [.int (V 70 gf)]) (rest := []) (ci := 8) (q0 := 3) hx hb hml hown hg hP hD hK hS hA hnw hgk (x_isMade9 l D ks H.size ad kk V19 L Z (V 70 gf) hMV19 ) w1296 w1297 w1298 w164 w1299 rfl xgStock hdV_yX8_isMade ⟨Nat.le_of_ble_eq_true rfl, Nat.le_of_ble_eq_true rfl⟩ rfl hl.1 rfl (Nat.le_of_ble_eq_true rfl) dX5_beginCalling_45 ⟨z0, z0⟩) hP hD hK hS hA (fun z36 u37 H locs w38 hP hD hK hS => ?_)
          obtain ⟨rgz36, t39, t40⟩ := w38
          replace rgz36 : 0 ≤ z36.toInt ∧ z36.toInt ≤ 1 := rgz36
          replace t39 : Imp (z36.toInt = 1) (0 ≤ ((V 70 gf)).toInt ∧ ((V 70 gf)).toInt < (V19 3 13).toInt) := t39
          replace t40 : (z36.toInt = 1 ∧ 0 ≤ ((V 70 gf)).toInt ∧ ((V 70 gf)).toInt < (V19 3 13).toInt ∧ (V19 28 (Int32.toNatClampNeg (V 70 gf))).toInt = 1) ∨ (z36.toInt = 0 ∧ (((V 70 gf)).toInt < 0 ∨ (V19 3 13).toInt ≤ ((V 70 gf)).toInt ∨ (V19 28 (Int32.toNatClampNeg (V 70 gf))).toInt ≠ 1)) := t40
          have pq41 : (V19 3 13).toInt = ((V 3 13)).toInt := congrArg Int32.toInt ((up2_o hV19 (by decide)).trans (up2_o hV28 (by decide)))
          refine lv_if_ne (tgt := 65) hx hb dX5_beginCalling_48 (by decide) (fun c42 => ?_) (fun c42 => ?_)
          · skip
            have f43 : z36.toInt ≠ 0 := b_neq rfl (by decide) c42
            refine lv_aload_n hx hb dX5_beginCalling_65 rfl (lv_at hl 1 rfl) ?_
            refine lv_iconst (v := 1) hx hb dX5_beginCalling_66 (by decide) ?_
            refine va_putN (D := D) (ci := 4) (v := .int 1) (ty := tyX4 1) (fs := (xfFrame V19 gf)) (C := RX4) (T := TX4) (N := 19) hx hb hg inX4 tyX4 tyX4_ok nmX4 hown hK hP hD hS (336 + gf) (xgFrame hgf) rfl 1 (by decide) (hnw.use 1190 n1190 rfl) (fun _ h9 => h9) rfl (tyX4_ok 1 (by decide)) rfl rfl (Nat.le_of_ble_eq_true rfl) dX5_beginCalling_67 (fun H locs hP hD hS => ?_)
            obtain ⟨V44, hV44⟩ : ∃ z, z = up2 V19 68 gf 1 := ⟨_, rfl⟩
            have ew45 : (xw ad kk V19 L Z).set (336 + gf) ((Z.fa gf), .inr (4, (xfFrame V19 gf).set 1 (.int 1))) = xw ad kk V44 L Z := by rw [hV44]; exact xpFrame_phase hgf
            have hP : va_P D vwCl (xw ad kk V44 L Z) H := by rw [← ew45]; exact hP
            have hD : va_D A (xw ad kk V44 L Z) := by rw [← ew45]; exact hD
            have hMV44 : rgd bX V44 := hMV19.put hV44 (i_full _)
            have agV44 : agr [(5, 6), (5, 9), (5, 11), (5, 12), (5, 13), (5, 14)] [67, 68, 69, 70, 71, 72, 73, 74, 75, 76, 77, 78, 79, 80, 81, 82, 83, 84, 85] V V44 := agV19.up hV44 rfl
            refine lv_aload_n hx hb dX5_beginCalling_70 rfl (lv_at hl 0 rfl) ?_
            refine lv_aload_n hx hb dX5_beginCalling_71 rfl (lv_at hl 1 rfl) ?_
            refine lv_iconst (v := 0) hx hb dX5_beginCalling_72 (by decide) ?_
            refine lv_aload_n hx hb dX5_beginCalling_73 rfl (lv_at hl 1 rfl) ?_
            refine va_getN (D := D) (ci := 4) (v := .int (V44 74 gf)) (fs := (xfFrame V44 gf)) (C := RX4) (T := TX4) (N := 19) hx hb hg inX4 hown hK hP (336 + gf) (xgFrame hgf) rfl 7 (by decide) (hnw.use 1196 n1196 rfl) (fun _ h9 => h9) rfl dX5_beginCalling_74 ?_
            refine g_top (v := (V 74 gf)) ((up2_o hV44 (by decide)).trans ((up2_o hV19 (by decide)).trans (up2_o hV28 (by decide)))) ?_
            have r46 : Int32.toInt 0 = 0 := by decide
            have pq47 : (V44 71 gf).toInt = ((V 71 gf)).toInt := congrArg Int32.toInt ((up2_o hV44 (by decide)).trans ((up2_o hV19 (by decide)).trans (up2_o hV28 (by decide))))
            have pq48 : (V44 43 (5 * b + 2)).toInt = ((V 43 (5 * b + 2))).toInt := congrArg Int32.toInt ((up2_o hV44 (by decide)).trans ((up2_o hV19 (by decide)).trans (up2_o hV28 (by decide))))
            have pq49 : (V44 3 13).toInt = ((V 3 13)).toInt := congrArg Int32.toInt ((up2_o hV44 (by decide)).trans ((up2_o hV19 (by decide)).trans (up2_o hV28 (by decide))))
            have pq50 : (V44 70 gf).toInt = ((V 70 gf)).toInt := congrArg Int32.toInt ((up2_o hV44 (by decide)).trans ((up2_o hV19 (by decide)).trans (up2_o hV28 (by decide))))
            have me51 : ME V V44 gf := (ME.up (ME.up (ME.up ME.rf hV28 (Or.inr (by (first | exact om_98aee353de00  | omega)))) hV19 (Or.inr (by (first | exact om_4b1deb63f5fb  | omega)))) hV44 (Or.inl ⟨by decide, by decide, Nat.le_refl _⟩))
            have pq52 : (V44 67 gf).toInt = ((V 67 gf)).toInt := congrArg Int32.toInt ((up2_o hV44 (by decide)).trans ((up2_o hV19 (by decide)).trans (up2_o hV28 (by decide))))
            have pq53 : (V44 68 gf).toInt = 1 := (congrArg Int32.toInt (up2_s hV44)).trans (by decide)
            have pq54 : (V44 75 gf).toInt = ((V 75 gf)).toInt := congrArg Int32.toInt ((up2_o hV44 (by decide)).trans ((up2_o hV19 (by decide)).trans (up2_o hV28 (by decide))))
            have pq55 : (V44 76 gf).toInt = ((V 76 gf)).toInt := congrArg Int32.toInt ((up2_o hV44 (by decide)).trans ((up2_o hV19 (by decide)).trans (up2_o hV28 (by decide))))
            have pq56 : (V44 80 gf).toInt = ((V 80 gf)).toInt := congrArg Int32.toInt ((up2_o hV44 (by decide)).trans ((up2_o hV19 (by decide)).trans (up2_o hV28 (by decide))))
            have pq57 : (V44 84 gf).toInt = ((V 84 gf)).toInt := congrArg Int32.toInt ((up2_o hV44 (by decide)).trans ((up2_o hV19 (by decide)).trans (up2_o hV28 (by decide))))
            have pq58 : (V44 5 6).toInt = ((V 5 6)).toInt := congrArg Int32.toInt ((up2_o hV44 (by decide)).trans ((up2_k hV19 (by decide)).trans (up2_k hV28 (by decide))))
            have pq59 : (V44 5 8).toInt = ((V 5 8)).toInt := congrArg Int32.toInt ((up2_o hV44 (by decide)).trans ((up2_k hV19 (by decide)).trans (up2_k hV28 (by decide))))
            have pq60 : (V44 5 9).toInt = ((V 5 9)).toInt := congrArg Int32.toInt ((up2_o hV44 (by decide)).trans ((up2_k hV19 (by decide)).trans (up2_k hV28 (by decide))))
            have pq61 : (V44 42 b).toInt = ((V 42 b)).toInt := congrArg Int32.toInt ((up2_o hV44 (by decide)).trans ((up2_o hV19 (by decide)).trans (up2_o hV28 (by decide))))
            have pq62 : (V44 41 b).toInt = ((V 41 b)).toInt := congrArg Int32.toInt ((up2_o hV44 (by decide)).trans ((up2_o hV19 (by decide)).trans (up2_o hV28 (by decide))))
            have mo63 : MO V44 Z b gf True True True := MO.ch mo me51 ((up2_o hV44 (by decide)).trans ((up2_o hV19 (by decide)).trans (up2_o hV28 (by decide)))) ((up2_o hV44 (by decide)).trans ((up2_o hV19 (by decide)).trans (up2_o hV28 (by decide)))) (fun _ => Or.inl (by (first | exact om_7ff4e10da701 gk | omega))) (fun x h => FK.k2 (by first | exact om_cb23ae8fe0b3 gk pq52 | first | omega | ((try (have i_t39 := Imp.go t39 (imp_a (rgz36.1) (rgz36.2) (f43)))); (try (have i_t17 := Imp.go t17 (imp_a (rgz13.1) (rgz13.2) (f32)))); omega) | ((try (have i_t39 := Imp.go t39 (by omega))); (try (have i_t17 := Imp.go t17 (by omega))); (try (have i_t16 := Imp.go t16 (by omega))); (try (have i_fo := Imp.go fo (by omega))); first | omega | ((try (have i_fo := Imp.go fo (by omega))); (try (have i_t16 := Imp.go t16 (by omega))); (try (have i_t17 := Imp.go t17 (by omega))); (try (have i_t39 := Imp.go t39 (by omega))); omega))) (by first | exact om_a5010b6221df r2 fc pq47 pq48 | first | omega | ((try (have i_t39 := Imp.go t39 (imp_a (rgz36.1) (rgz36.2) (f43)))); (try (have i_t17 := Imp.go t17 (imp_a (rgz13.1) (rgz13.2) (f32)))); omega) | ((try (have i_t39 := Imp.go t39 (by omega))); (try (have i_t17 := Imp.go t17 (by omega))); (try (have i_t16 := Imp.go t16 (by omega))); (try (have i_fo := Imp.go fo (by omega))); first | omega | ((try (have i_fo := Imp.go fo (by omega))); (try (have i_t16 := Imp.go t16 (by omega))); (try (have i_t17 := Imp.go t17 (by omega))); (try (have i_t39 := Imp.go t39 (by omega))); omega))) (by first | exact om_2316a9207d45 ra2 q70 rgz36 t40 pq41 f43 pq49 pq50 pq53 | first | omega | ((try (have i_t39 := Imp.go t39 (imp_a (rgz36.1) (rgz36.2) (f43)))); (try (have i_t17 := Imp.go t17 (imp_a (rgz13.1) (rgz13.2) (f32)))); omega) | ((try (have i_t39 := Imp.go t39 (by omega))); (try (have i_t17 := Imp.go t17 (by omega))); (try (have i_t16 := Imp.go t16 (by omega))); (try (have i_fo := Imp.go fo (by omega))); first | omega | ((try (have i_fo := Imp.go fo (by omega))); (try (have i_t16 := Imp.go t16 (by omega))); (try (have i_t17 := Imp.go t17 (by omega))); (try (have i_t39 := Imp.go t39 (by omega))); omega))) (by first | exact om_091e8c765298 pq53 | first | omega | ((try (have i_t39 := Imp.go t39 (imp_a (rgz36.1) (rgz36.2) (f43)))); (try (have i_t17 := Imp.go t17 (imp_a (rgz13.1) (rgz13.2) (f32)))); omega) | ((try (have i_t39 := Imp.go t39 (by omega))); (try (have i_t17 := Imp.go t17 (by omega))); (try (have i_t16 := Imp.go t16 (by omega))); (try (have i_fo := Imp.go fo (by omega))); first | omega | ((try (have i_fo := Imp.go fo (by omega))); (try (have i_t16 := Imp.go t16 (by omega))); (try (have i_t17 := Imp.go t17 (by omega))); (try (have i_t39 := Imp.go t39 (by omega))); omega))))
            have mt64 : MT V44 Z b := MO.mt mo63 (by (first | exact om_6f738fa1827e hgf gd kdp rd rd2 pq58 | omega)) (by (first | exact om_78ea3e5e24cc gd kdp rd rd2 pq58 | omega))
            refine W.know (fun k66 k67 => ?_)
            obtain ⟨Hk65, hHk65⟩ : ∃ z, z = H := ⟨_, rfl⟩
            have k66 : Hk65.size ≤ s.heap.size + (zcc Z - zcc Z) := by rw [hHk65]; exact k66
            have k67 : tot Hk65 ≤ tot s.heap + (zss Z - zss Z) := by rw [hHk65]; exact k67
            refine gZ_void (gA_runV (As := [.ref (Z.fa gf), .int 0, .int (V 74 gf)]) (rest := []) (ci := 5) (q0 := 5) hx hb hml hown hg hP hD hK hS hA hnw hgk (x_pushInside9 l D ks H.size ad kk V44 L Z 0 (V 74 gf) (b) (gf) hMV44 (by decide) (show b < 2 from by first | exact om_289974d36c9f hb2 mup | first | omega | ((try (have i_t39 := Imp.go t39 (imp_a (rgz36.1) (rgz36.2) (f43)))); (try (have i_t17 := Imp.go t17 (imp_a (rgz13.1) (rgz13.2) (f32)))); omega) | ((try (have i_t39 := Imp.go t39 (by omega))); (try (have i_t17 := Imp.go t17 (by omega))); (try (have i_t16 := Imp.go t16 (by omega))); (try (have i_fo := Imp.go fo (by omega))); first | omega | ((try (have i_fo := Imp.go fo (by omega))); (try (have i_t16 := Imp.go t16 (by omega))); (try (have i_t17 := Imp.go t17 (by omega))); (try (have i_t39 := Imp.go t39 (by omega))); omega))) (show gf < Z.nf from by first | exact om_d9a628b8387a hgf gd kdp rd rd2 pq58 | first | omega | ((try (have i_t39 := Imp.go t39 (imp_a (rgz36.1) (rgz36.2) (f43)))); (try (have i_t17 := Imp.go t17 (imp_a (rgz13.1) (rgz13.2) (f32)))); omega) | ((try (have i_t39 := Imp.go t39 (by omega))); (try (have i_t17 := Imp.go t17 (by omega))); (try (have i_t16 := Imp.go t16 (by omega))); (try (have i_fo := Imp.go fo (by omega))); first | omega | ((try (have i_fo := Imp.go fo (by omega))); (try (have i_t16 := Imp.go t16 (by omega))); (try (have i_t17 := Imp.go t17 (by omega))); (try (have i_t39 := Imp.go t39 (by omega))); omega))) mt64 (show 0 ≤ (V44 71 gf).toInt ∧ (V44 71 gf).toInt < (V44 43 (5 * b + 2)).toInt from by first | exact om_a5010b6221df r2 fc pq47 pq48 | first | omega | ((try (have i_t39 := Imp.go t39 (imp_a (rgz36.1) (rgz36.2) (f43)))); (try (have i_t17 := Imp.go t17 (imp_a (rgz13.1) (rgz13.2) (f32)))); omega) | ((try (have i_t39 := Imp.go t39 (by omega))); (try (have i_t17 := Imp.go t17 (by omega))); (try (have i_t16 := Imp.go t16 (by omega))); (try (have i_fo := Imp.go fo (by omega))); first | omega | ((try (have i_fo := Imp.go fo (by omega))); (try (have i_t16 := Imp.go t16 (by omega))); (try (have i_t17 := Imp.go t17 (by omega))); (try (have i_t39 := Imp.go t39 (by omega))); omega))) (show 0 ≤ (V44 70 gf).toInt ∧ (V44 70 gf).toInt < (V44 3 13).toInt from by first | exact om_85503853aed9 ra2 q70 rgz36 t40 pq41 f43 pq49 pq50 | first | omega | ((try (have i_t39 := Imp.go t39 (imp_a (rgz36.1) (rgz36.2) (f43)))); (try (have i_t17 := Imp.go t17 (imp_a (rgz13.1) (rgz13.2) (f32)))); omega) | ((try (have i_t39 := Imp.go t39 (by omega))); (try (have i_t17 := Imp.go t17 (by omega))); (try (have i_t16 := Imp.go t16 (by omega))); (try (have i_fo := Imp.go fo (by omega))); first | omega | ((try (have i_fo := Imp.go fo (by omega))); (try (have i_t16 := Imp.go t16 (by omega))); (try (have i_t17 := Imp.go t17 (by omega))); (try (have i_t39 := Imp.go t39 (by omega))); omega)))) w1388 w1390 w60 w171 w1391 rfl xgMachine hdV_yX5_pushInside ⟨Nat.le_of_ble_eq_true rfl, Nat.le_of_ble_eq_true rfl⟩ rfl hl.1 rfl (Nat.le_of_ble_eq_true rfl) dX5_beginCalling_77 ⟨z1 zoZ.1, z1 zoZ.2.1⟩) hD hS hA (fun u69 H locs w70 hP hD hK hS y71 y72 => ?_)
            obtain ⟨V73, L74, Z75⟩ := u69
            obtain ⟨hMV73, ajV73, axL74, zlZ75, t77, t78⟩ := w70
            have axL74 : L = L74 := Eq.symm axL74
            subst axL74
            replace hP : va_P D vwCl (xw ad kk V73 L Z75) H := hP
            replace hD : va_D A (xw ad kk V73 L Z75) := hD
            replace hK : va_K D vwCl (xty kk Z75) s := hK
            replace hMV73 : rgd bX V73 := hMV73
            replace ajV73 : agr [(5, 6), (5, 9)] [67, 68, 69, 70, 71, 72, 73, 74, 75, 76, 77, 78, 79, 80, 81, 82, 83, 84, 85] V44 V73 := ajV73
            have agV73 : agr [(5, 6), (5, 9), (5, 11), (5, 12), (5, 13), (5, 14)] [67, 68, 69, 70, 71, 72, 73, 74, 75, 76, 77, 78, 79, 80, 81, 82, 83, 84, 85] V V73 := agV44.tr ajV73 (by decide) (by decide)
            replace zlZ75 : ZL Z Z75 := zlZ75
            have zoZ75 : ZL Z Z75 := ZL.tr zoZ zlZ75
            have ziZ75 := zlZ75.1
            have zjZ75 := zlZ75.2.1
            have zkZ75 := zlZ75.2.2.1
            have zmZ75 := zoZ75.1
            have znZ75 := zoZ75.2.1
            have zpZ_Z75 := zoZ.1
            have zqZ_Z75 := zoZ.2.1
            have y71 : H.size ≤ Hk65.size + (zcc Z - zcc Z75) := by rw [hHk65]; exact y71
            have y72 : tot H ≤ tot Hk65 + (zss Z - zss Z75) := by rw [hHk65]; exact y72
            refine W.tight (k := zcc Z - zcc Z75) (n := zss Z - zss Z75) (by first | exact tg9 y71 k66 zlZ75.1 zoZ.1 | omega) (by first | exact tg9 y72 k67 zlZ75.2.1 zoZ.2.1 | omega) ?_
            have hl : lv_has ls 2 [(0, .ref (ad 5)), (1, .ref (Z75.fa gf))] := by rw [zlZ75.2.2.2.2 gf hgf]; exact hl
            replace t77 : MJ V73 Z75 b := t77
            replace t78 : Imp ((V44 5 6).toInt < 400 ∧ (gf : Int) < (V44 5 6).toInt) (PIn V44 V73 gf ((V44 5 6).toInt.toNat) 0 (V 74 gf)) := t78
            have qo2 := qo (by (first | exact om_2133c2dfa6ab q70 rgz36 t40 f43 pq50 ziZ75 zjZ75 | omega))
            have pw := Imp.go t78 ⟨by (first | exact om_8c4987203dea gd r1 kdp rd rd2 sl9 pq58 | omega), by (first | exact om_ad89da6ade58 gd kdp rd rd2 pq58 | omega)⟩
            have pi9 : (V44 5 6).toInt.toNat = gr.length + 1 := by (first | exact om_c7704909093d gd r1 kdp rd rd2 sl9 pq58 | omega)
            rw [pi9] at pw
            obtain ⟨⟨pd1, pd2, pke⟩, ⟨pk1, pk2⟩, ⟨p69, p70, p71, p72, p73⟩, pag, pps⟩ := pw
            have wr79 : (V73 3 13).toInt = (V 3 13).toInt := congrArg Int32.toInt ((ajV73 3 13 rfl).trans ((up2_o hV44 (by decide)).trans ((up2_o hV19 (by decide)).trans (up2_o hV28 (by decide)))))
            have wr80 : (V73 3 12).toInt = (V 3 12).toInt := congrArg Int32.toInt ((ajV73 3 12 rfl).trans ((up2_o hV44 (by decide)).trans ((up2_o hV19 (by decide)).trans (up2_o hV28 (by decide)))))
            have wr81 : (V73 67 gf).toInt = ((V 67 gf)).toInt := (congrArg Int32.toInt ((pke gf (by (first | exact om_c9f168eff5a6 gd kdp rd rd2 | omega)) 67 (by decide) (by decide)).trans ((up2_o hV44 (by decide)).trans ((up2_o hV19 (by decide)).trans (up2_o hV28 (by decide))))))
            have wr82 : (V73 68 gf).toInt = 1 := (congrArg Int32.toInt ((pke gf (by (first | exact om_c9f168eff5a6 gd kdp rd rd2 | omega)) 68 (by decide) (by decide)).trans (up2_s hV44))).trans (by decide)
            have wr83 : (V73 69 gf).toInt = ((V 69 gf)).toInt := (congrArg Int32.toInt ((pke gf (by (first | exact om_c9f168eff5a6 gd kdp rd rd2 | omega)) 69 (by decide) (by decide)).trans ((up2_o hV44 (by decide)).trans ((up2_o hV19 (by decide)).trans (up2_o hV28 (by decide))))))
            have wr84 : (V73 70 gf).toInt = ((V 70 gf)).toInt := (congrArg Int32.toInt ((pke gf (by (first | exact om_c9f168eff5a6 gd kdp rd rd2 | omega)) 70 (by decide) (by decide)).trans ((up2_o hV44 (by decide)).trans ((up2_o hV19 (by decide)).trans (up2_o hV28 (by decide))))))
            have wr85 : (V73 71 gf).toInt = ((V 71 gf)).toInt := (congrArg Int32.toInt ((pke gf (by (first | exact om_c9f168eff5a6 gd kdp rd rd2 | omega)) 71 (by decide) (by decide)).trans ((up2_o hV44 (by decide)).trans ((up2_o hV19 (by decide)).trans (up2_o hV28 (by decide))))))
            have wr86 : (V73 72 gf).toInt = ((V 72 gf)).toInt := (congrArg Int32.toInt ((pke gf (by (first | exact om_c9f168eff5a6 gd kdp rd rd2 | omega)) 72 (by decide) (by decide)).trans ((up2_o hV44 (by decide)).trans ((up2_o hV19 (by decide)).trans (up2_o hV28 (by decide))))))
            have wr87 : (V73 73 gf).toInt = ((V 73 gf)).toInt := (congrArg Int32.toInt ((pke gf (by (first | exact om_c9f168eff5a6 gd kdp rd rd2 | omega)) 73 (by decide) (by decide)).trans ((up2_o hV44 (by decide)).trans ((up2_o hV19 (by decide)).trans (up2_o hV28 (by decide))))))
            have wr88 : (V73 69 (gr.length + 1)).toInt = ((V 69 gf)).toInt := (congrArg Int32.toInt (p69.trans ((up2_o hV44 (by decide)).trans ((up2_o hV19 (by decide)).trans (up2_o hV28 (by decide))))))
            have wr89 : (V73 70 (gr.length + 1)).toInt = ((V 70 gf)).toInt := (congrArg Int32.toInt (p70.trans ((up2_o hV44 (by decide)).trans ((up2_o hV19 (by decide)).trans (up2_o hV28 (by decide))))))
            have wr90 : (V73 71 (gr.length + 1)).toInt = ((V 71 gf)).toInt := (congrArg Int32.toInt (p71.trans ((up2_o hV44 (by decide)).trans ((up2_o hV19 (by decide)).trans (up2_o hV28 (by decide))))))
            have wr91 : (V73 72 (gr.length + 1)).toInt = ((V 72 gf)).toInt := (congrArg Int32.toInt (p72.trans ((up2_o hV44 (by decide)).trans ((up2_o hV19 (by decide)).trans (up2_o hV28 (by decide))))))
            have wr92 : (V73 73 (gr.length + 1)).toInt = ((V 73 gf)).toInt := (congrArg Int32.toInt (p73.trans ((up2_o hV44 (by decide)).trans ((up2_o hV19 (by decide)).trans (up2_o hV28 (by decide))))))
            have me93 : ME V V44 gf := (ME.up (ME.up (ME.up ME.rf hV28 (Or.inr (by (first | exact om_98aee353de00  | omega)))) hV19 (Or.inr (by (first | exact om_4b1deb63f5fb  | omega)))) hV44 (Or.inl ⟨by decide, by decide, Nat.le_refl _⟩))
            have rl94 : RWl V73 gB gr t0 := RWl.mv hlr (fun i9 hi9 c9 h1 h2 => ((pke i9 (by (first | exact om_f283c5eb8ec7 kdp rd rd2 pq58 pi9 pd1 hi9 | omega)) c9 h1 h2)).trans (me93.2.1 c9 i9 h1 h2 (by (first | exact om_adcc4b3b148a gd kdp rd rd2 pq58 pi9 pd1 hi9 | omega)))) (fun j9 hj9 => ((ajV73 39 j9 rfl).trans ((up2_o hV44 (by decide)).trans ((up2_o hV19 (by decide)).trans (up2_o hV28 (by decide)))))) (by rw [((ajV73 3 13 rfl).trans ((up2_o hV44 (by decide)).trans ((up2_o hV19 (by decide)).trans (up2_o hV28 (by decide)))))]; exact Int.le_refl _) ((ajV73 3 12 rfl).trans ((up2_o hV44 (by decide)).trans ((up2_o hV19 (by decide)).trans (up2_o hV28 (by decide)))))
            have fb9 : FRc V73 gB gr.length (Fcall1 lv o c sc me) := by rw [gl9]; exact ⟨⟨by (first | exact om_cb23ae8fe0b3 gk wr81 | omega), by (first | exact om_710535a98d88 wr82 | omega)⟩, ⟨by (first | exact om_cd7d0a6a31bc q69 wr83 | omega), ⟨by (first | exact om_25a0d8f2ad9d q70 pq50 wr84 | omega), by (first | exact om_a35794d8bfc8 gd r1 kdp rd rd2 sl9 q70 rgz36 t40 f43 pq50 pq58 ziZ75 zjZ75 pi9 pd1 wr84 wr89 | omega), by (first | exact om_9f3f1d2b0006 ra2 q70 pq41 pq49 pq50 qo2 wr79 wr84 wr89 | omega)⟩, ⟨by (first | exact om_89d76fea64ea pq47 qo2 wr85 | omega), by (first | exact om_e662d79b3851 r2 fc pq47 qo2 wr85 wr90 | omega), by (first | exact om_78785e55246c c3 pq47 qo2 wr85 wr90 | omega)⟩, ⟨by (first | exact om_cd7d0a6a31bc q72 wr86 | omega), by omega, by omega⟩⟩, ⟨by (first | exact om_cd7d0a6a31bc q73 wr87 | omega), by (first | exact om_3b6eeda82e53 q73 m0 m9 wr87 wr92 | omega), by (first | exact om_7ca5daae6e6d q73 m0 m9 wr87 wr92 | omega)⟩⟩
            have pp9 : (V73 75 (gr.length + 1)).toInt = 0 := by rw [pps]; decide
            have ft9 : FRc V73 gB (gr.length + 1) (Fin0 lv o c sc me 0 v) := ⟨⟨pk1, pk2⟩, ⟨by (first | exact om_25a0d8f2ad9d q69 wr83 wr88 | omega), ⟨by (first | exact om_6ba44aa2159d q70 pq50 wr84 wr89 | omega), by (first | exact om_a35794d8bfc8 gd r1 kdp rd rd2 sl9 q70 rgz36 t40 f43 pq50 pq58 ziZ75 zjZ75 pi9 pd1 wr84 wr89 | omega), by (first | exact om_9f3f1d2b0006 ra2 q70 pq41 pq49 pq50 qo2 wr79 wr84 wr89 | omega)⟩, ⟨by (first | exact om_b4fca78ddb74 pq47 qo2 wr85 wr90 | omega), by (first | exact om_e662d79b3851 r2 fc pq47 qo2 wr85 wr90 | omega), by (first | exact om_78785e55246c c3 pq47 qo2 wr85 wr90 | omega)⟩, ⟨by (first | exact om_25a0d8f2ad9d q72 wr86 wr91 | omega), by omega, by omega⟩⟩, ⟨by (first | exact om_25a0d8f2ad9d q73 wr87 wr92 | omega), by (first | exact om_3b6eeda82e53 q73 m0 m9 wr87 wr92 | omega), by (first | exact om_7ca5daae6e6d q73 m0 m9 wr87 wr92 | omega)⟩, pp9, pag.trans q74⟩
            have pq95 : (V19 28 (Int32.toNatClampNeg (V 70 gf))).toInt = ((V 28 (Int32.toNatClampNeg (V 70 gf)))).toInt := congrArg Int32.toInt ((up2_o hV19 (by decide)).trans (up2_o hV28 (by decide)))
            have rz9 : RW V73 gB (mU (mSt gm) 0 6 0, ga, Fin0 lv o c sc me 0 v :: Fcall1 lv o c sc me :: gr) := RW.sgn rw33 (ESw.ag (show agr [(5, 6), (5, 9)] [67, 68, 69, 70, 71, 72, 73, 74, 75, 76, 77, 78, 79, 80, 81, 82, 83, 84, 85] V19 V73 from (agr.tr (agr.up agr.rf hV44 rfl) ajV73 (by decide) (by decide))) (by decide)) pd2 (fun h9 => absurd h9 (by decide)) (fun h9 => absurd h9 (by decide)) (show (V73 5 6).toInt = ((gr.length + 1 + 1 : Nat) : Int) from by (first | exact om_ea487894bae3 kdp rd rd2 pq58 pi9 pd1 | omega)) (show (V73 5 7).toInt = ((t0 : Nat) : Int) from by rw [(show agr [(5, 6), (5, 9), (5, 13), (5, 14)] [67, 68, 69, 70, 71, 72, 73, 74, 75, 76, 77, 78, 79, 80, 81, 82, 83, 84, 85] V V73 from (agr.tr (agr.up (agr.up (agr.up agr.rf hV28 rfl) hV19 rfl) hV44 rfl) ajV73 (by decide) (by decide))) 5 7 rfl, rt9, tz9]) (RWl.push (RWl.push rl94 fb9 rfl (np9 rfl)) ft9 rfl (np9 rfl))
            have rx96 : RW V73 gB (stM gB (gm, ga, gfr :: gr)) := by rw [hfe, st_5g can9 (by (first | exact om_216590c3c125 q69 f35 wr83 wr88 | omega)) ⟨by (first | exact om_a35794d8bfc8 gd r1 kdp rd rd2 sl9 q70 rgz36 t40 f43 pq50 pq58 ziZ75 zjZ75 pi9 pd1 wr84 wr89 | omega), by (first | exact om_9fd4e096323c ra2 q70 pq41 pq49 pq50 qo2 wr79 wr84 wr89 | omega), (show gm 3 o.toNat = 1 from by have h9 := (rn.2.1 o.toNat (by (first | exact om_2e5947bfcbf9 gd r1 kdp rd rd2 sl9 ra2 q70 rgz36 t40 pq41 f43 pq49 pq50 pq58 ziZ75 zjZ75 qo2 pi9 pd1 wr79 wr84 wr89 | omega))).1.2.2; have h8 := i_clamp (x := V 70 gf) rfl (by (first | exact om_796c7dd26bb0 gd r1 kdp rd rd2 sl9 q70 rgz36 t40 f43 pq50 pq58 ziZ75 zjZ75 pi9 pd1 wr84 wr89 | omega)); rw [show o.toNat = Int32.toNatClampNeg (V 70 gf) from by (first | exact om_73fbf3f43780 q70 pq50 wr84 wr89 h8 | omega)] at h9 ⊢; omega)⟩]; exact rz9
            refine W.know (fun kr1 kr2 => ?_)
            refine W.widen (k := zcc Z) (n := zss Z) (Nat.sub_le _ _) (Nat.sub_le _ _) ?_
            exact W.vret hx hb hr (fun t ht hW => ⟨⟨(V73, L, Z75), rfl, ⟨hMV73, agV73, rfl, zoZ75, t77, rx96⟩, ⟨by rw [ht]; exact hP, va_K.moved hW.alike hK, hD⟩, by rw [ht]; exact kr1, by rw [ht]; exact kr2⟩, hS.F ht⟩) hS.2.2 dX5_beginCalling_80
          · skip
            have f97 : z36.toInt = 0 := b_eq rfl (by decide) c42
            refine lv_aload_n hx hb dX5_beginCalling_51 rfl (lv_at hl 0 rfl) ?_
            refine lv_iconst (v := 0) hx hb dX5_beginCalling_52 (by decide) ?_
            refine lv_bipush (v := 17) hx hb dX5_beginCalling_53 (by decide) ?_
            have r98 : Int32.toInt 0 = 0 := by decide
            have r99 : Int32.toInt 17 = 17 := by decide
            refine gA_void (gA_runV (As := [.int 0, .int 17]) (rest := []) (ci := 5) (q0 := 5) hx hb hml hown hg hP hD hK hS hA hnw hgk (x_failWith9 l D ks H.size ad kk V19 L Z 0 17 hMV19 ) w1261 w1263 w46 w171 w1264 rfl xgMachine hdV_yX5_failWith ⟨Nat.le_of_ble_eq_true rfl, Nat.le_of_ble_eq_true rfl⟩ rfl hl.1 rfl (Nat.le_of_ble_eq_true rfl) dX5_beginCalling_55 ⟨z0, z0⟩) hP hD hK hS hA (fun u101 H locs w102 hP hD hK hS => ?_)
            obtain ⟨V105, L106⟩ := u101
            obtain ⟨hMV105, ajV105, axL106, t103, t104⟩ := w102
            have axL106 : L = L106 := Eq.symm axL106
            subst axL106
            replace hP : va_P D vwCl (xw ad kk V105 L Z) H := hP
            replace hD : va_D A (xw ad kk V105 L Z) := hD
            replace hMV105 : rgd bX V105 := hMV105
            replace ajV105 : agr [(5, 9), (5, 11), (5, 12)] [] V19 V105 := ajV105
            have agV105 : agr [(5, 6), (5, 9), (5, 11), (5, 12), (5, 13), (5, 14)] [67, 68, 69, 70, 71, 72, 73, 74, 75, 76, 77, 78, 79, 80, 81, 82, 83, 84, 85] V V105 := agV19.tr ajV105 (by decide) (by decide)
            replace t103 : (V105 5 9).toInt = 2 := t103
            replace t104 : ((True) ∧ V105 = (up2 (up2 (up2 V19 5 9 2) 5 11 0) 5 12 17)) := t104
            have r107 : 0 ≤ ((V105 5 9)).toInt ∧ ((V105 5 9)).toInt ≤ 3 := hMV105 5 9
            have hw108 := t104.2
            obtain ⟨V109, hV109⟩ : ∃ z, z = up2 V19 5 9 2 := ⟨_, rfl⟩
            obtain ⟨V110, hV110⟩ : ∃ z, z = up2 V109 5 11 0 := ⟨_, rfl⟩
            have hV105 : V105 = up2 V110 5 12 17 := by rw [hw108, hV110, hV109]
            refine lv_aload_n hx hb dX5_beginCalling_58 rfl (lv_at hl 0 rfl) ?_
            have pq111 : (V105 5 6).toInt = ((V 5 6)).toInt := congrArg Int32.toInt ((up2_k hV105 (by decide)).trans ((up2_k hV110 (by decide)).trans ((up2_k hV109 (by decide)).trans ((up2_k hV19 (by decide)).trans (up2_k hV28 (by decide))))))
            refine gA_void (gA_runV (As := []) (rest := []) (ci := 5) (q0 := 5) hx hb hml hown hg hP hD hK hS hA hnw hgk (x_leave9 l D ks H.size ad kk V105 L Z  hMV105 (show 1 ≤ (V105 5 6).toInt from by first | exact om_1c7ca45de7b6 gd r1 kdp rd rd2 sl9 pq111 | first | omega | ((try (have i_t17 := Imp.go t17 (imp_a (rgz13.1) (rgz13.2) (f32)))); omega) | ((try (have i_t39 := Imp.go t39 (by omega))); (try (have i_t17 := Imp.go t17 (by omega))); (try (have i_t16 := Imp.go t16 (by omega))); (try (have i_fo := Imp.go fo (by omega))); first | omega | ((try (have i_fo := Imp.go fo (by omega))); (try (have i_t16 := Imp.go t16 (by omega))); (try (have i_t17 := Imp.go t17 (by omega))); (try (have i_t39 := Imp.go t39 (by omega))); omega)))) w1308 w1310 w50 w171 w1311 rfl xgMachine hdV_yX5_leave ⟨Nat.le_of_ble_eq_true rfl, Nat.le_of_ble_eq_true rfl⟩ rfl hl.1 rfl (Nat.le_of_ble_eq_true rfl) dX5_beginCalling_59 ⟨z0, z0⟩) hP hD hK hS hA (fun u113 H locs w114 hP hD hK hS => ?_)
            obtain ⟨V117, L118⟩ := u113
            obtain ⟨hMV117, ajV117, axL118, t115, t116⟩ := w114
            have axL118 : L = L118 := Eq.symm axL118
            subst axL118
            replace hP : va_P D vwCl (xw ad kk V117 L Z) H := hP
            replace hD : va_D A (xw ad kk V117 L Z) := hD
            replace hMV117 : rgd bX V117 := hMV117
            replace ajV117 : agr [(5, 6)] [] V105 V117 := ajV117
            have agV117 : agr [(5, 6), (5, 9), (5, 11), (5, 12), (5, 13), (5, 14)] [67, 68, 69, 70, 71, 72, 73, 74, 75, 76, 77, 78, 79, 80, 81, 82, 83, 84, 85] V V117 := agV105.tr ajV117 (by decide) (by decide)
            replace t115 : (V117 5 6).toInt = (V105 5 6).toInt - 1 := t115
            replace t116 : ((True) ∧ V117 = (up2 V105 5 6 (V105 5 6 - 1))) := t116
            have r119 : 0 ≤ ((V117 5 6)).toInt ∧ ((V117 5 6)).toInt ≤ 400 := hMV117 5 6
            have hw120 := t116.2
            obtain ⟨z121, ez121⟩ : ∃ y : Int32, y = V105 5 6 - 1 := ⟨_, rfl⟩
            have hz121 : z121.toInt = (V105 5 6).toInt - 1 := i_sub ez121 rfl (by decide) (by first | exact om_b7c63862419e gd r1 kdp rd rd2 sl9 pq111 t115 | first | omega | ((try (have i_t17 := Imp.go t17 (imp_a (rgz13.1) (rgz13.2) (f32)))); omega) | ((try (have i_t39 := Imp.go t39 (by omega))); (try (have i_t17 := Imp.go t17 (by omega))); (try (have i_t16 := Imp.go t16 (by omega))); (try (have i_fo := Imp.go fo (by omega))); first | omega | ((try (have i_fo := Imp.go fo (by omega))); (try (have i_t16 := Imp.go t16 (by omega))); (try (have i_t17 := Imp.go t17 (by omega))); (try (have i_t39 := Imp.go t39 (by omega))); omega)))
            have hV117 : V117 = up2 V105 5 6 z121 := by rw [hw120, ez121]
            refine lv_goto (tgt := 80) hx hb dX5_beginCalling_62 (by decide) ?_
            have me122 : ME V V117 gf := (ME.up (ME.up (ME.up (ME.up (ME.up (ME.up ME.rf hV28 (Or.inr (by (first | exact om_98aee353de00  | omega)))) hV19 (Or.inr (by (first | exact om_4b1deb63f5fb  | omega)))) hV109 (Or.inr (by (first | exact om_620f5006bfaa  | omega)))) hV110 (Or.inr (by (first | exact om_ded18bf8e7e5  | omega)))) hV105 (Or.inr (by (first | exact om_82aabbaa6769  | omega)))) hV117 (Or.inr (by (first | exact om_f481bd0f1cda  | omega))))
            have pq123 : (V117 67 gf).toInt = ((V 67 gf)).toInt := congrArg Int32.toInt ((up2_o hV117 (by decide)).trans ((up2_o hV105 (by decide)).trans ((up2_o hV110 (by decide)).trans ((up2_o hV109 (by decide)).trans ((up2_o hV19 (by decide)).trans (up2_o hV28 (by decide)))))))
            have pq124 : (V117 68 gf).toInt = ((V 68 gf)).toInt := congrArg Int32.toInt ((up2_o hV117 (by decide)).trans ((up2_o hV105 (by decide)).trans ((up2_o hV110 (by decide)).trans ((up2_o hV109 (by decide)).trans ((up2_o hV19 (by decide)).trans (up2_o hV28 (by decide)))))))
            have pq125 : (V117 70 gf).toInt = ((V 70 gf)).toInt := congrArg Int32.toInt ((up2_o hV117 (by decide)).trans ((up2_o hV105 (by decide)).trans ((up2_o hV110 (by decide)).trans ((up2_o hV109 (by decide)).trans ((up2_o hV19 (by decide)).trans (up2_o hV28 (by decide)))))))
            have pq126 : (V117 71 gf).toInt = ((V 71 gf)).toInt := congrArg Int32.toInt ((up2_o hV117 (by decide)).trans ((up2_o hV105 (by decide)).trans ((up2_o hV110 (by decide)).trans ((up2_o hV109 (by decide)).trans ((up2_o hV19 (by decide)).trans (up2_o hV28 (by decide)))))))
            have pq127 : (V117 75 gf).toInt = ((V 75 gf)).toInt := congrArg Int32.toInt ((up2_o hV117 (by decide)).trans ((up2_o hV105 (by decide)).trans ((up2_o hV110 (by decide)).trans ((up2_o hV109 (by decide)).trans ((up2_o hV19 (by decide)).trans (up2_o hV28 (by decide)))))))
            have pq128 : (V117 76 gf).toInt = ((V 76 gf)).toInt := congrArg Int32.toInt ((up2_o hV117 (by decide)).trans ((up2_o hV105 (by decide)).trans ((up2_o hV110 (by decide)).trans ((up2_o hV109 (by decide)).trans ((up2_o hV19 (by decide)).trans (up2_o hV28 (by decide)))))))
            have pq129 : (V117 80 gf).toInt = ((V 80 gf)).toInt := congrArg Int32.toInt ((up2_o hV117 (by decide)).trans ((up2_o hV105 (by decide)).trans ((up2_o hV110 (by decide)).trans ((up2_o hV109 (by decide)).trans ((up2_o hV19 (by decide)).trans (up2_o hV28 (by decide)))))))
            have pq130 : (V117 84 gf).toInt = ((V 84 gf)).toInt := congrArg Int32.toInt ((up2_o hV117 (by decide)).trans ((up2_o hV105 (by decide)).trans ((up2_o hV110 (by decide)).trans ((up2_o hV109 (by decide)).trans ((up2_o hV19 (by decide)).trans (up2_o hV28 (by decide)))))))
            have pq131 : (V117 5 6).toInt = z121.toInt := congrArg Int32.toInt (up2_s hV117)
            have pq132 : (V117 5 8).toInt = ((V 5 8)).toInt := congrArg Int32.toInt ((up2_k hV117 (by decide)).trans ((up2_k hV105 (by decide)).trans ((up2_k hV110 (by decide)).trans ((up2_k hV109 (by decide)).trans ((up2_k hV19 (by decide)).trans (up2_k hV28 (by decide)))))))
            have pq133 : (V117 5 9).toInt = 2 := (congrArg Int32.toInt ((up2_k hV117 (by decide)).trans ((up2_k hV105 (by decide)).trans ((up2_k hV110 (by decide)).trans (up2_s hV109))))).trans (by decide)
            have pq134 : (V117 3 13).toInt = ((V 3 13)).toInt := congrArg Int32.toInt ((up2_o hV117 (by decide)).trans ((up2_o hV105 (by decide)).trans ((up2_o hV110 (by decide)).trans ((up2_o hV109 (by decide)).trans ((up2_o hV19 (by decide)).trans (up2_o hV28 (by decide)))))))
            have pq135 : (V117 43 (5 * b + 2)).toInt = ((V 43 (5 * b + 2))).toInt := congrArg Int32.toInt ((up2_o hV117 (by decide)).trans ((up2_o hV105 (by decide)).trans ((up2_o hV110 (by decide)).trans ((up2_o hV109 (by decide)).trans ((up2_o hV19 (by decide)).trans (up2_o hV28 (by decide)))))))
            have pq136 : (V117 42 b).toInt = ((V 42 b)).toInt := congrArg Int32.toInt ((up2_o hV117 (by decide)).trans ((up2_o hV105 (by decide)).trans ((up2_o hV110 (by decide)).trans ((up2_o hV109 (by decide)).trans ((up2_o hV19 (by decide)).trans (up2_o hV28 (by decide)))))))
            have pq137 : (V117 41 b).toInt = ((V 41 b)).toInt := congrArg Int32.toInt ((up2_o hV117 (by decide)).trans ((up2_o hV105 (by decide)).trans ((up2_o hV110 (by decide)).trans ((up2_o hV109 (by decide)).trans ((up2_o hV19 (by decide)).trans (up2_o hV28 (by decide)))))))
            have rp138 : MJ V117 Z b := MP.lv (MO.mp mo) me122 (by (first | exact om_0e41a66fda65 gd kdp rd rd2 pq111 t115 | omega)) (fun _ => Or.inl (by (first | exact om_7ff4e10da701 gk | omega)))
            have pq139 : (V117 5 11).toInt = 0 := (congrArg Int32.toInt ((up2_k hV117 (by decide)).trans ((up2_k hV105 (by decide)).trans (up2_s hV110)))).trans (by decide)
            have pq140 : (V117 5 12).toInt = 17 := (congrArg Int32.toInt ((up2_k hV117 (by decide)).trans (up2_s hV105))).trans (by decide)
            have pq141 : (V19 28 (Int32.toNatClampNeg (V 70 gf))).toInt = ((V 28 (Int32.toNatClampNeg (V 70 gf)))).toInt := congrArg Int32.toInt ((up2_o hV19 (by decide)).trans (up2_o hV28 (by decide)))
            have me142 : ME V V117 gf := (ME.up (ME.up (ME.up (ME.up (ME.up (ME.up ME.rf hV28 (Or.inr (by (first | exact om_98aee353de00  | omega)))) hV19 (Or.inr (by (first | exact om_4b1deb63f5fb  | omega)))) hV109 (Or.inr (by (first | exact om_620f5006bfaa  | omega)))) hV110 (Or.inr (by (first | exact om_ded18bf8e7e5  | omega)))) hV105 (Or.inr (by (first | exact om_82aabbaa6769  | omega)))) hV117 (Or.inr (by (first | exact om_f481bd0f1cda  | omega))))
            have rl143 : RWl V117 gB gr t0 := RWl.mv hlr (fun i9 hi9 c9 h1 h2 => me142.2.1 c9 i9 h1 h2 (by (first | exact om_102b9d22baee gd kdp rd rd2 pq111 t115 hz121 hi9 | omega))) (fun j9 hj9 => ((up2_o hV117 (by decide)).trans ((up2_o hV105 (by decide)).trans ((up2_o hV110 (by decide)).trans ((up2_o hV109 (by decide)).trans ((up2_o hV19 (by decide)).trans (up2_o hV28 (by decide)))))))) (by rw [((up2_o hV117 (by decide)).trans ((up2_o hV105 (by decide)).trans ((up2_o hV110 (by decide)).trans ((up2_o hV109 (by decide)).trans ((up2_o hV19 (by decide)).trans (up2_o hV28 (by decide)))))))]; exact Int.le_refl _) ((up2_o hV117 (by decide)).trans ((up2_o hV105 (by decide)).trans ((up2_o hV110 (by decide)).trans ((up2_o hV109 (by decide)).trans ((up2_o hV19 (by decide)).trans (up2_o hV28 (by decide)))))))
            have pq144 : (V117 5 7).toInt = ((V 5 7)).toInt := congrArg Int32.toInt ((up2_k hV117 (by decide)).trans ((up2_k hV105 (by decide)).trans ((up2_k hV110 (by decide)).trans ((up2_k hV109 (by decide)).trans ((up2_k hV19 (by decide)).trans (up2_k hV28 (by decide)))))))
            have r145 : 0 ≤ ((V 5 7)).toInt ∧ ((V 5 7)).toInt ≤ 2048 := hMV 5 7
            have rz9 : RW V117 gB (mU (mU (mU (mSt gm) 0 6 2) 0 8 0) 0 9 17, ga, gr) := RW.fl rw33 (ESw.ag (show agr [(5, 6), (5, 9), (5, 11), (5, 12)] [] V19 V117 from (agr.up (agr.up (agr.up (agr.up agr.rf hV109 rfl) hV110 rfl) hV105 rfl) hV117 rfl)) (by decide)) (by (first | exact om_6aa5e6f8c558 pq133 | omega)) (by (first | exact om_b66ba74381d5 pq139 | omega)) (by (first | exact om_849520e6a08c pq140 | omega)) (show (V117 5 6).toInt = ((gr.length : Nat) : Int) from by (first | exact om_0893762427d8 kdp rd rd2 pq111 t115 | omega)) (show (V117 5 7).toInt = ((t0 : Nat) : Int) from by rw [((up2_k hV117 (by decide)).trans ((up2_k hV105 (by decide)).trans ((up2_k hV110 (by decide)).trans ((up2_k hV109 (by decide)).trans ((up2_k hV19 (by decide)).trans (up2_k hV28 (by decide))))))), rt9, tz9]) rl143
            have rx146 : RW V117 gB (stM gB (gm, ga, gfr :: gr)) := by rw [hfe, st_5w can9 (by (first | exact om_da85f3d89848 q69 f35 | omega)) (fun h9 => by have h8 := (rn.2.1 o.toNat (by have h7 := h9.2.1; (first | exact om_33e0abc195ba r8 ra2 q70 pq41 pq125 pq134 h9 | omega))).1.2.2; have h7 := h9.2.2; have h6 := h9.1; have h5 := h9.2.1; have h4 := i_clamp (x := V 70 gf) rfl (by (first | exact om_033402522296 q70 pq125 h9 | omega)); rw [show o.toNat = Int32.toNatClampNeg (V 70 gf) from by (first | exact om_97245ca115c7 q70 pq125 h9 h4 | omega)] at h7 h8; omega)]; exact rz9
            refine W.know (fun kr1 kr2 => ?_)
            refine W.widen (k := zcc Z) (n := zss Z) (Nat.sub_le _ _) (Nat.sub_le _ _) ?_
            exact W.vret hx hb hr (fun t ht hW => ⟨⟨(V117, L, Z), rfl, ⟨hMV117, agV117, rfl, zoZ, rp138, rx146⟩, ⟨by rw [ht]; exact hP, va_K.moved hW.alike hK, hD⟩, by rw [ht]; exact kr1, by rw [ht]; exact kr2⟩, hS.F ht⟩) hS.2.2 dX5_beginCalling_80
        · skip
          have f147 : 10 < ((V 69 gf)).toInt := b_nle rfl (by decide) c34
          refine lv_aload_n hx hb dX5_beginCalling_23 rfl (lv_at hl 0 rfl) ?_
          refine lv_iconst (v := 0) hx hb dX5_beginCalling_24 (by decide) ?_
          refine lv_bipush (v := 13) hx hb dX5_beginCalling_25 (by decide) ?_
          have r148 : Int32.toInt 0 = 0 := by decide
          have r149 : Int32.toInt 13 = 13 := by decide
          refine gA_void (gA_runV (As := [.int 0, .int 13]) (rest := []) (ci := 5) (q0 := 5) hx hb hml hown hg hP hD hK hS hA hnw hgk (x_failWith9 l D ks H.size ad kk V19 L Z 0 13 hMV19 ) w1261 w1263 w46 w171 w1264 rfl xgMachine hdV_yX5_failWith ⟨Nat.le_of_ble_eq_true rfl, Nat.le_of_ble_eq_true rfl⟩ rfl hl.1 rfl (Nat.le_of_ble_eq_true rfl) dX5_beginCalling_27 ⟨z0, z0⟩) hP hD hK hS hA (fun u151 H locs w152 hP hD hK hS => ?_)
          obtain ⟨V155, L156⟩ := u151
          obtain ⟨hMV155, ajV155, axL156, t153, t154⟩ := w152
          have axL156 : L = L156 := Eq.symm axL156
          subst axL156
          replace hP : va_P D vwCl (xw ad kk V155 L Z) H := hP
          replace hD : va_D A (xw ad kk V155 L Z) := hD
          replace hMV155 : rgd bX V155 := hMV155
          replace ajV155 : agr [(5, 9), (5, 11), (5, 12)] [] V19 V155 := ajV155
          have agV155 : agr [(5, 6), (5, 9), (5, 11), (5, 12), (5, 13), (5, 14)] [67, 68, 69, 70, 71, 72, 73, 74, 75, 76, 77, 78, 79, 80, 81, 82, 83, 84, 85] V V155 := agV19.tr ajV155 (by decide) (by decide)
          replace t153 : (V155 5 9).toInt = 2 := t153
          replace t154 : ((True) ∧ V155 = (up2 (up2 (up2 V19 5 9 2) 5 11 0) 5 12 13)) := t154
          have r157 : 0 ≤ ((V155 5 9)).toInt ∧ ((V155 5 9)).toInt ≤ 3 := hMV155 5 9
          have hw158 := t154.2
          obtain ⟨V159, hV159⟩ : ∃ z, z = up2 V19 5 9 2 := ⟨_, rfl⟩
          obtain ⟨V160, hV160⟩ : ∃ z, z = up2 V159 5 11 0 := ⟨_, rfl⟩
          have hV155 : V155 = up2 V160 5 12 13 := by rw [hw158, hV160, hV159]
          refine lv_aload_n hx hb dX5_beginCalling_30 rfl (lv_at hl 0 rfl) ?_
          have pq161 : (V155 5 6).toInt = ((V 5 6)).toInt := congrArg Int32.toInt ((up2_k hV155 (by decide)).trans ((up2_k hV160 (by decide)).trans ((up2_k hV159 (by decide)).trans ((up2_k hV19 (by decide)).trans (up2_k hV28 (by decide))))))
          refine gA_void (gA_runV (As := []) (rest := []) (ci := 5) (q0 := 5) hx hb hml hown hg hP hD hK hS hA hnw hgk (x_leave9 l D ks H.size ad kk V155 L Z  hMV155 (show 1 ≤ (V155 5 6).toInt from by first | exact om_1c7ca45de7b6 gd r1 kdp rd rd2 sl9 pq161 | first | omega | ((try (have i_t17 := Imp.go t17 (by omega))); (try (have i_t16 := Imp.go t16 (by omega))); (try (have i_fo := Imp.go fo (by omega))); (try (have i_fo := Imp.go fo (by omega))); (try (have i_t16 := Imp.go t16 (by omega))); (try (have i_t17 := Imp.go t17 (by omega))); omega))) w1308 w1310 w50 w171 w1311 rfl xgMachine hdV_yX5_leave ⟨Nat.le_of_ble_eq_true rfl, Nat.le_of_ble_eq_true rfl⟩ rfl hl.1 rfl (Nat.le_of_ble_eq_true rfl) dX5_beginCalling_31 ⟨z0, z0⟩) hP hD hK hS hA (fun u163 H locs w164 hP hD hK hS => ?_)
          obtain ⟨V167, L168⟩ := u163
          obtain ⟨hMV167, ajV167, axL168, t165, t166⟩ := w164
          have axL168 : L = L168 := Eq.symm axL168
          subst axL168
          replace hP : va_P D vwCl (xw ad kk V167 L Z) H := hP
          replace hD : va_D A (xw ad kk V167 L Z) := hD
          replace hMV167 : rgd bX V167 := hMV167
          replace ajV167 : agr [(5, 6)] [] V155 V167 := ajV167
          have agV167 : agr [(5, 6), (5, 9), (5, 11), (5, 12), (5, 13), (5, 14)] [67, 68, 69, 70, 71, 72, 73, 74, 75, 76, 77, 78, 79, 80, 81, 82, 83, 84, 85] V V167 := agV155.tr ajV167 (by decide) (by decide)
          replace t165 : (V167 5 6).toInt = (V155 5 6).toInt - 1 := t165
          replace t166 : ((True) ∧ V167 = (up2 V155 5 6 (V155 5 6 - 1))) := t166
          have r169 : 0 ≤ ((V167 5 6)).toInt ∧ ((V167 5 6)).toInt ≤ 400 := hMV167 5 6
          have hw170 := t166.2
          obtain ⟨z171, ez171⟩ : ∃ y : Int32, y = V155 5 6 - 1 := ⟨_, rfl⟩
          have hz171 : z171.toInt = (V155 5 6).toInt - 1 := i_sub ez171 rfl (by decide) (by first | exact om_b7c63862419e gd r1 kdp rd rd2 sl9 pq161 t165 | first | omega | ((try (have i_t17 := Imp.go t17 (by omega))); (try (have i_t16 := Imp.go t16 (by omega))); (try (have i_fo := Imp.go fo (by omega))); (try (have i_fo := Imp.go fo (by omega))); (try (have i_t16 := Imp.go t16 (by omega))); (try (have i_t17 := Imp.go t17 (by omega))); omega))
          have hV167 : V167 = up2 V155 5 6 z171 := by rw [hw170, ez171]
          refine lv_goto (tgt := 80) hx hb dX5_beginCalling_34 (by decide) ?_
          have me172 : ME V V167 gf := (ME.up (ME.up (ME.up (ME.up (ME.up (ME.up ME.rf hV28 (Or.inr (by (first | exact om_98aee353de00  | omega)))) hV19 (Or.inr (by (first | exact om_4b1deb63f5fb  | omega)))) hV159 (Or.inr (by (first | exact om_620f5006bfaa  | omega)))) hV160 (Or.inr (by (first | exact om_ded18bf8e7e5  | omega)))) hV155 (Or.inr (by (first | exact om_82aabbaa6769  | omega)))) hV167 (Or.inr (by (first | exact om_f481bd0f1cda  | omega))))
          have pq173 : (V167 67 gf).toInt = ((V 67 gf)).toInt := congrArg Int32.toInt ((up2_o hV167 (by decide)).trans ((up2_o hV155 (by decide)).trans ((up2_o hV160 (by decide)).trans ((up2_o hV159 (by decide)).trans ((up2_o hV19 (by decide)).trans (up2_o hV28 (by decide)))))))
          have pq174 : (V167 68 gf).toInt = ((V 68 gf)).toInt := congrArg Int32.toInt ((up2_o hV167 (by decide)).trans ((up2_o hV155 (by decide)).trans ((up2_o hV160 (by decide)).trans ((up2_o hV159 (by decide)).trans ((up2_o hV19 (by decide)).trans (up2_o hV28 (by decide)))))))
          have pq175 : (V167 70 gf).toInt = ((V 70 gf)).toInt := congrArg Int32.toInt ((up2_o hV167 (by decide)).trans ((up2_o hV155 (by decide)).trans ((up2_o hV160 (by decide)).trans ((up2_o hV159 (by decide)).trans ((up2_o hV19 (by decide)).trans (up2_o hV28 (by decide)))))))
          have pq176 : (V167 71 gf).toInt = ((V 71 gf)).toInt := congrArg Int32.toInt ((up2_o hV167 (by decide)).trans ((up2_o hV155 (by decide)).trans ((up2_o hV160 (by decide)).trans ((up2_o hV159 (by decide)).trans ((up2_o hV19 (by decide)).trans (up2_o hV28 (by decide)))))))
          have pq177 : (V167 75 gf).toInt = ((V 75 gf)).toInt := congrArg Int32.toInt ((up2_o hV167 (by decide)).trans ((up2_o hV155 (by decide)).trans ((up2_o hV160 (by decide)).trans ((up2_o hV159 (by decide)).trans ((up2_o hV19 (by decide)).trans (up2_o hV28 (by decide)))))))
          have pq178 : (V167 76 gf).toInt = ((V 76 gf)).toInt := congrArg Int32.toInt ((up2_o hV167 (by decide)).trans ((up2_o hV155 (by decide)).trans ((up2_o hV160 (by decide)).trans ((up2_o hV159 (by decide)).trans ((up2_o hV19 (by decide)).trans (up2_o hV28 (by decide)))))))
          have pq179 : (V167 80 gf).toInt = ((V 80 gf)).toInt := congrArg Int32.toInt ((up2_o hV167 (by decide)).trans ((up2_o hV155 (by decide)).trans ((up2_o hV160 (by decide)).trans ((up2_o hV159 (by decide)).trans ((up2_o hV19 (by decide)).trans (up2_o hV28 (by decide)))))))
          have pq180 : (V167 84 gf).toInt = ((V 84 gf)).toInt := congrArg Int32.toInt ((up2_o hV167 (by decide)).trans ((up2_o hV155 (by decide)).trans ((up2_o hV160 (by decide)).trans ((up2_o hV159 (by decide)).trans ((up2_o hV19 (by decide)).trans (up2_o hV28 (by decide)))))))
          have pq181 : (V167 5 6).toInt = z171.toInt := congrArg Int32.toInt (up2_s hV167)
          have pq182 : (V167 5 8).toInt = ((V 5 8)).toInt := congrArg Int32.toInt ((up2_k hV167 (by decide)).trans ((up2_k hV155 (by decide)).trans ((up2_k hV160 (by decide)).trans ((up2_k hV159 (by decide)).trans ((up2_k hV19 (by decide)).trans (up2_k hV28 (by decide)))))))
          have pq183 : (V167 5 9).toInt = 2 := (congrArg Int32.toInt ((up2_k hV167 (by decide)).trans ((up2_k hV155 (by decide)).trans ((up2_k hV160 (by decide)).trans (up2_s hV159))))).trans (by decide)
          have pq184 : (V167 3 13).toInt = ((V 3 13)).toInt := congrArg Int32.toInt ((up2_o hV167 (by decide)).trans ((up2_o hV155 (by decide)).trans ((up2_o hV160 (by decide)).trans ((up2_o hV159 (by decide)).trans ((up2_o hV19 (by decide)).trans (up2_o hV28 (by decide)))))))
          have pq185 : (V167 43 (5 * b + 2)).toInt = ((V 43 (5 * b + 2))).toInt := congrArg Int32.toInt ((up2_o hV167 (by decide)).trans ((up2_o hV155 (by decide)).trans ((up2_o hV160 (by decide)).trans ((up2_o hV159 (by decide)).trans ((up2_o hV19 (by decide)).trans (up2_o hV28 (by decide)))))))
          have pq186 : (V167 42 b).toInt = ((V 42 b)).toInt := congrArg Int32.toInt ((up2_o hV167 (by decide)).trans ((up2_o hV155 (by decide)).trans ((up2_o hV160 (by decide)).trans ((up2_o hV159 (by decide)).trans ((up2_o hV19 (by decide)).trans (up2_o hV28 (by decide)))))))
          have pq187 : (V167 41 b).toInt = ((V 41 b)).toInt := congrArg Int32.toInt ((up2_o hV167 (by decide)).trans ((up2_o hV155 (by decide)).trans ((up2_o hV160 (by decide)).trans ((up2_o hV159 (by decide)).trans ((up2_o hV19 (by decide)).trans (up2_o hV28 (by decide)))))))
          have rp188 : MJ V167 Z b := MP.lv (MO.mp mo) me172 (by (first | exact om_0e41a66fda65 gd kdp rd rd2 pq161 t165 | omega)) (fun _ => Or.inl (by (first | exact om_7ff4e10da701 gk | omega)))
          have pq189 : (V167 5 11).toInt = 0 := (congrArg Int32.toInt ((up2_k hV167 (by decide)).trans ((up2_k hV155 (by decide)).trans (up2_s hV160)))).trans (by decide)
          have pq190 : (V167 5 12).toInt = 13 := (congrArg Int32.toInt ((up2_k hV167 (by decide)).trans (up2_s hV155))).trans (by decide)
          have me191 : ME V V167 gf := (ME.up (ME.up (ME.up (ME.up (ME.up (ME.up ME.rf hV28 (Or.inr (by (first | exact om_98aee353de00  | omega)))) hV19 (Or.inr (by (first | exact om_4b1deb63f5fb  | omega)))) hV159 (Or.inr (by (first | exact om_620f5006bfaa  | omega)))) hV160 (Or.inr (by (first | exact om_ded18bf8e7e5  | omega)))) hV155 (Or.inr (by (first | exact om_82aabbaa6769  | omega)))) hV167 (Or.inr (by (first | exact om_f481bd0f1cda  | omega))))
          have rl192 : RWl V167 gB gr t0 := RWl.mv hlr (fun i9 hi9 c9 h1 h2 => me191.2.1 c9 i9 h1 h2 (by (first | exact om_102b9d22baee gd kdp rd rd2 pq161 t165 hz171 hi9 | omega))) (fun j9 hj9 => ((up2_o hV167 (by decide)).trans ((up2_o hV155 (by decide)).trans ((up2_o hV160 (by decide)).trans ((up2_o hV159 (by decide)).trans ((up2_o hV19 (by decide)).trans (up2_o hV28 (by decide)))))))) (by rw [((up2_o hV167 (by decide)).trans ((up2_o hV155 (by decide)).trans ((up2_o hV160 (by decide)).trans ((up2_o hV159 (by decide)).trans ((up2_o hV19 (by decide)).trans (up2_o hV28 (by decide)))))))]; exact Int.le_refl _) ((up2_o hV167 (by decide)).trans ((up2_o hV155 (by decide)).trans ((up2_o hV160 (by decide)).trans ((up2_o hV159 (by decide)).trans ((up2_o hV19 (by decide)).trans (up2_o hV28 (by decide)))))))
          have pq193 : (V167 5 7).toInt = ((V 5 7)).toInt := congrArg Int32.toInt ((up2_k hV167 (by decide)).trans ((up2_k hV155 (by decide)).trans ((up2_k hV160 (by decide)).trans ((up2_k hV159 (by decide)).trans ((up2_k hV19 (by decide)).trans (up2_k hV28 (by decide)))))))
          have r194 : 0 ≤ ((V 5 7)).toInt ∧ ((V 5 7)).toInt ≤ 2048 := hMV 5 7
          have rz9 : RW V167 gB (mU (mU (mU (mSt gm) 0 6 2) 0 8 0) 0 9 13, ga, gr) := RW.fl rw33 (ESw.ag (show agr [(5, 6), (5, 9), (5, 11), (5, 12)] [] V19 V167 from (agr.up (agr.up (agr.up (agr.up agr.rf hV159 rfl) hV160 rfl) hV155 rfl) hV167 rfl)) (by decide)) (by (first | exact om_6aa5e6f8c558 pq183 | omega)) (by (first | exact om_b66ba74381d5 pq189 | omega)) (by (first | exact om_20b14d939230 pq190 | omega)) (show (V167 5 6).toInt = ((gr.length : Nat) : Int) from by (first | exact om_0893762427d8 kdp rd rd2 pq161 t165 | omega)) (show (V167 5 7).toInt = ((t0 : Nat) : Int) from by rw [((up2_k hV167 (by decide)).trans ((up2_k hV155 (by decide)).trans ((up2_k hV160 (by decide)).trans ((up2_k hV159 (by decide)).trans ((up2_k hV19 (by decide)).trans (up2_k hV28 (by decide))))))), rt9, tz9]) rl192
          have rx195 : RW V167 gB (stM gB (gm, ga, gfr :: gr)) := by rw [hfe, st_5d can9 (by (first | exact om_d069e79c4f8f q69 f147 | omega))]; exact rz9
          refine W.know (fun kr1 kr2 => ?_)
          refine W.widen (k := zcc Z) (n := zss Z) (Nat.sub_le _ _) (Nat.sub_le _ _) ?_
          exact W.vret hx hb hr (fun t ht hW => ⟨⟨(V167, L, Z), rfl, ⟨hMV167, agV167, rfl, zoZ, rp188, rx195⟩, ⟨by rw [ht]; exact hP, va_K.moved hW.alike hK, hD⟩, by rw [ht]; exact kr1, by rw [ht]; exact kr2⟩, hS.F ht⟩) hS.2.2 dX5_beginCalling_80
      · skip
        have f196 : z13.toInt = 0 := b_eq rfl (by decide) c31
        exfalso; first | exact om_442f6acc4638 hc22 f196 | first | omega | ((try (have i_t17 := Imp.go t17 (by omega))); (try (have i_t16 := Imp.go t16 (by omega))); (try (have i_fo := Imp.go fo (by omega))); (try (have i_fo := Imp.go fo (by omega))); (try (have i_t16 := Imp.go t16 (by omega))); (try (have i_t17 := Imp.go t17 (by omega))); omega)
    · skip
      have hV19 : V19 = up2 V 5 9 3 := by rw [hw25]
      refine lv_if_ne (tgt := 14) hx hb dX5_beginCalling_4 (by decide) (fun c197 => ?_) (fun c197 => ?_)
      · skip
        have f198 : z13.toInt ≠ 0 := b_neq rfl (by decide) c197
        exfalso; first | exact om_6c28a3e4706f hc24 f198 | first | omega | ((try (have i_t17 := Imp.go t17 (by omega))); (try (have i_t16 := Imp.go t16 (by omega))); (try (have i_fo := Imp.go fo (by omega))); (try (have i_fo := Imp.go fo (by omega))); (try (have i_t16 := Imp.go t16 (by omega))); (try (have i_t17 := Imp.go t17 (by omega))); omega)
      · skip
        have f199 : z13.toInt = 0 := b_eq rfl (by decide) c197
        refine lv_aload_n hx hb dX5_beginCalling_7 rfl (lv_at hl 0 rfl) ?_
        have pq200 : (V19 5 6).toInt = ((V 5 6)).toInt := congrArg Int32.toInt (up2_k hV19 (by decide))
        refine gA_void (gA_runV (As := []) (rest := []) (ci := 5) (q0 := 5) hx hb hml hown hg hP hD hK hS hA hnw hgk (x_leave9 l D ks H.size ad kk V19 L Z  hMV19 (show 1 ≤ (V19 5 6).toInt from by first | exact om_1c7ca45de7b6 gd r1 kdp rd rd2 sl9 pq200 | first | omega | ((try (have i_t17 := Imp.go t17 (by omega))); (try (have i_t16 := Imp.go t16 (by omega))); (try (have i_fo := Imp.go fo (by omega))); (try (have i_fo := Imp.go fo (by omega))); (try (have i_t16 := Imp.go t16 (by omega))); (try (have i_t17 := Imp.go t17 (by omega))); omega))) w1308 w1310 w50 w171 w1311 rfl xgMachine hdV_yX5_leave ⟨Nat.le_of_ble_eq_true rfl, Nat.le_of_ble_eq_true rfl⟩ rfl hl.1 rfl (Nat.le_of_ble_eq_true rfl) dX5_beginCalling_8 ⟨z0, z0⟩) hP hD hK hS hA (fun u202 H locs w203 hP hD hK hS => ?_)
        obtain ⟨V206, L207⟩ := u202
        obtain ⟨hMV206, ajV206, axL207, t204, t205⟩ := w203
        have axL207 : L = L207 := Eq.symm axL207
        subst axL207
        replace hP : va_P D vwCl (xw ad kk V206 L Z) H := hP
        replace hD : va_D A (xw ad kk V206 L Z) := hD
        replace hMV206 : rgd bX V206 := hMV206
        replace ajV206 : agr [(5, 6)] [] V19 V206 := ajV206
        have agV206 : agr [(5, 6), (5, 9), (5, 11), (5, 12), (5, 13), (5, 14)] [67, 68, 69, 70, 71, 72, 73, 74, 75, 76, 77, 78, 79, 80, 81, 82, 83, 84, 85] V V206 := agV19.tr ajV206 (by decide) (by decide)
        replace t204 : (V206 5 6).toInt = (V19 5 6).toInt - 1 := t204
        replace t205 : ((True) ∧ V206 = (up2 V19 5 6 (V19 5 6 - 1))) := t205
        have r208 : 0 ≤ ((V206 5 6)).toInt ∧ ((V206 5 6)).toInt ≤ 400 := hMV206 5 6
        have hw209 := t205.2
        obtain ⟨z210, ez210⟩ : ∃ y : Int32, y = V19 5 6 - 1 := ⟨_, rfl⟩
        have hz210 : z210.toInt = (V19 5 6).toInt - 1 := i_sub ez210 rfl (by decide) (by first | exact om_b7c63862419e gd r1 kdp rd rd2 sl9 pq200 t204 | first | omega | ((try (have i_t17 := Imp.go t17 (by omega))); (try (have i_t16 := Imp.go t16 (by omega))); (try (have i_fo := Imp.go fo (by omega))); (try (have i_fo := Imp.go fo (by omega))); (try (have i_t16 := Imp.go t16 (by omega))); (try (have i_t17 := Imp.go t17 (by omega))); omega))
        have hV206 : V206 = up2 V19 5 6 z210 := by rw [hw209, ez210]
        refine lv_goto (tgt := 80) hx hb dX5_beginCalling_11 (by decide) ?_
        have me211 : ME V V206 gf := (ME.up (ME.up ME.rf hV19 (Or.inr (by (first | exact om_620f5006bfaa  | omega)))) hV206 (Or.inr (by (first | exact om_f481bd0f1cda  | omega))))
        have pq212 : (V206 67 gf).toInt = ((V 67 gf)).toInt := congrArg Int32.toInt ((up2_o hV206 (by decide)).trans (up2_o hV19 (by decide)))
        have pq213 : (V206 68 gf).toInt = ((V 68 gf)).toInt := congrArg Int32.toInt ((up2_o hV206 (by decide)).trans (up2_o hV19 (by decide)))
        have pq214 : (V206 70 gf).toInt = ((V 70 gf)).toInt := congrArg Int32.toInt ((up2_o hV206 (by decide)).trans (up2_o hV19 (by decide)))
        have pq215 : (V206 71 gf).toInt = ((V 71 gf)).toInt := congrArg Int32.toInt ((up2_o hV206 (by decide)).trans (up2_o hV19 (by decide)))
        have pq216 : (V206 75 gf).toInt = ((V 75 gf)).toInt := congrArg Int32.toInt ((up2_o hV206 (by decide)).trans (up2_o hV19 (by decide)))
        have pq217 : (V206 76 gf).toInt = ((V 76 gf)).toInt := congrArg Int32.toInt ((up2_o hV206 (by decide)).trans (up2_o hV19 (by decide)))
        have pq218 : (V206 80 gf).toInt = ((V 80 gf)).toInt := congrArg Int32.toInt ((up2_o hV206 (by decide)).trans (up2_o hV19 (by decide)))
        have pq219 : (V206 84 gf).toInt = ((V 84 gf)).toInt := congrArg Int32.toInt ((up2_o hV206 (by decide)).trans (up2_o hV19 (by decide)))
        have pq220 : (V206 5 6).toInt = z210.toInt := congrArg Int32.toInt (up2_s hV206)
        have pq221 : (V206 5 8).toInt = ((V 5 8)).toInt := congrArg Int32.toInt ((up2_k hV206 (by decide)).trans (up2_k hV19 (by decide)))
        have pq222 : (V206 5 9).toInt = 3 := (congrArg Int32.toInt ((up2_k hV206 (by decide)).trans (up2_s hV19))).trans (by decide)
        have pq223 : (V206 3 13).toInt = ((V 3 13)).toInt := congrArg Int32.toInt ((up2_o hV206 (by decide)).trans (up2_o hV19 (by decide)))
        have pq224 : (V206 43 (5 * b + 2)).toInt = ((V 43 (5 * b + 2))).toInt := congrArg Int32.toInt ((up2_o hV206 (by decide)).trans (up2_o hV19 (by decide)))
        have pq225 : (V206 42 b).toInt = ((V 42 b)).toInt := congrArg Int32.toInt ((up2_o hV206 (by decide)).trans (up2_o hV19 (by decide)))
        have pq226 : (V206 41 b).toInt = ((V 41 b)).toInt := congrArg Int32.toInt ((up2_o hV206 (by decide)).trans (up2_o hV19 (by decide)))
        have rp227 : MJ V206 Z b := MP.lv (MO.mp mo) me211 (by (first | exact om_0e41a66fda65 gd kdp rd rd2 pq200 t204 | omega)) (fun _ => Or.inl (by (first | exact om_7ff4e10da701 gk | omega)))
        have me228 : ME V V206 gf := (ME.up (ME.up ME.rf hV19 (Or.inr (by (first | exact om_620f5006bfaa  | omega)))) hV206 (Or.inr (by (first | exact om_f481bd0f1cda  | omega))))
        have rl229 : RWl V206 gB gr t0 := RWl.mv hlr (fun i9 hi9 c9 h1 h2 => me228.2.1 c9 i9 h1 h2 (by (first | exact om_102b9d22baee gd kdp rd rd2 pq200 t204 hz210 hi9 | omega))) (fun j9 hj9 => ((up2_o hV206 (by decide)).trans (up2_o hV19 (by decide)))) (by rw [((up2_o hV206 (by decide)).trans (up2_o hV19 (by decide)))]; exact Int.le_refl _) ((up2_o hV206 (by decide)).trans (up2_o hV19 (by decide)))
        have pq230 : (V206 5 7).toInt = ((V 5 7)).toInt := congrArg Int32.toInt ((up2_k hV206 (by decide)).trans (up2_k hV19 (by decide)))
        have r231 : 0 ≤ ((V 5 7)).toInt ∧ ((V 5 7)).toInt ≤ 2048 := hMV 5 7
        have pq232 : (V206 5 11).toInt = ((V 5 11)).toInt := congrArg Int32.toInt ((up2_k hV206 (by decide)).trans (up2_k hV19 (by decide)))
        have pq233 : (V206 5 12).toInt = ((V 5 12)).toInt := congrArg Int32.toInt ((up2_k hV206 (by decide)).trans (up2_k hV19 (by decide)))
        have rz9 : RW V206 gB (mU gm 0 6 3, ga, gr) := RW.sgn rwq (ESw.ag (show agr [(5, 6), (5, 9)] [] V V206 from (agr.up (agr.up agr.rf hV19 rfl) hV206 rfl)) (by decide)) (by (first | exact om_395e3da5ee0d pq222 | omega)) (fun h9 => absurd h9 (by decide)) (fun h9 => absurd h9 (by decide)) (show (V206 5 6).toInt = ((gr.length : Nat) : Int) from by (first | exact om_0893762427d8 kdp rd rd2 pq200 t204 | omega)) (show (V206 5 7).toInt = ((t0 : Nat) : Int) from by rw [((up2_k hV206 (by decide)).trans (up2_k hV19 (by decide))), rt9, tz9]) rl229
        have rx234 : RW V206 gB (stM gB (gm, ga, gfr :: gr)) := by rw [hfe, st_5p (fun h9 => by have h1 := rn.1.1.1; have h2 := rn.1.1.2.1; have h3 := h9.1; have h4 := h9.2; omega)]; exact rz9
        refine W.know (fun kr1 kr2 => ?_)
        refine W.widen (k := zcc Z) (n := zss Z) (Nat.sub_le _ _) (Nat.sub_le _ _) ?_
        exact W.vret hx hb hr (fun t ht hW => ⟨⟨(V206, L, Z), rfl, ⟨hMV206, agV206, rfl, zoZ, rp227, rx234⟩, ⟨by rw [ht]; exact hP, va_K.moved hW.alike hK, hD⟩, by rw [ht]; exact kr1, by rw [ht]; exact kr2⟩, hS.F ht⟩) hS.2.2 dX5_beginCalling_80
  · skip
    have hf : FRc V gB gf (Fcall1 lv o c sc me) := by rw [← hfe]; exact hf0
    have tl8 : tw9 = t0 + (Fcall1 lv o c sc me : Fr).2.2.2.length := by rw [← hfe]; exact tl9
    obtain ⟨⟨k67, k68⟩, hoc, ⟨q73, m0, m9⟩⟩ := hf
    obtain ⟨q69, ⟨q70, o0, o1⟩, ⟨q71, c0, c1⟩, ⟨q72, s0, s1⟩⟩ := hoc
    have cn9 : c.toNat < nC gB := by (first | exact om_6c2f0f05a756 ph0 k68 | omega)
    have kc9 : Int32.toNatClampNeg (V 71 gf) = c.toNat := by have h9 := i_clamp (x := V 71 gf) rfl (by (first | exact om_ef9c9cc17dc9 ph0 k68 | omega)); (first | exact om_b2276f935478 ph0 k68 | omega)
    have tz9 : tw9 = t0 := tl8
    exfalso; (first | exact om_4c701f2d8c50 ph0 k68 | omega)
  · skip
    have hf : FRc V gB gf (Fcall3 lv o c sc me ps nd fl) := by rw [← hfe]; exact hf0
    have tl8 : tw9 = t0 + (Fcall3 lv o c sc me ps nd fl : Fr).2.2.2.length := by rw [← hfe]; exact tl9
    obtain ⟨⟨k67, k68⟩, hoc, ⟨q73, m0, m9⟩, q75, q81, q82⟩ := hf
    obtain ⟨q69, ⟨q70, o0, o1⟩, ⟨q71, c0, c1⟩, ⟨q72, s0, s1⟩⟩ := hoc
    have cn9 : c.toNat < nC gB := by (first | exact om_1cb3c01f912e ph0 k68 | omega)
    have kc9 : Int32.toNatClampNeg (V 71 gf) = c.toNat := by have h9 := i_clamp (x := V 71 gf) rfl (by (first | exact om_e205e64d7ea7 ph0 k68 | omega)); (first | exact om_ce44af62410d ph0 k68 | omega)
    have tz9 : tw9 = t0 := tl8
    exfalso; (first | exact om_6a7c47d6099f ph0 k68 | omega)
abbrev r_x_goOnCalling9 (Z : XZ) : Room := { frames := 5, cells := zcc Z, slots := zss Z, locals := 115 }
abbrev q_x_goOnCalling9 (D : va_G) (ks : KS) (ad : Nat → Nat) (kk : Nat → ClassId) (V : Vf) (L : Lf) (Z : XZ) (b : Nat) (gf : Nat) (gB : Bk) (gm : Mm) (ga : Int32) (gfr : Fr) (gr : List Fr) (A : Nat → Prop) : Array Value → State → Outcome → State → Prop := qZv D (fun (u : Vf × Lf × XZ) => rgd bX u.1 ∧ agr [(4, 5), (5, 6), (5, 9), (5, 11), (5, 12), (5, 13), (5, 14)] [33, 34, 35, 67, 68, 69, 70, 71, 72, 73, 74, 75, 76, 77, 78, 79, 80, 81, 82, 83, 84, 85] V u.1 ∧ u.2.1 = L ∧ ZL Z u.2.2 ∧ (MJ u.1 u.2.2 b) ∧ (RW u.1 gB (stM gB (gm, ga, gfr :: gr)))) (fun u => xw ad kk u.1 u.2.1 u.2.2) (fun u => xty kk u.2.2) (fun u => zcc Z - zcc u.2.2) (fun u => zss Z - zss u.2.2) A
set_option maxHeartbeats 4000000 in
set_option maxRecDepth 100000 in
theorem x_goOnCalling9 (l : Launch) (D : va_G) (ks : KS) (sz : Nat) (ad : Nat → Nat) (kk : Nat → ClassId) (V : Vf) (L : Lf) (Z : XZ) (b : Nat) (gf : Nat) (gB : Bk) (gm : Mm) (ga : Int32) (gfr : Fr) (gr : List Fr) (hMV : rgd bX V) (hb2 : b < 2) (hgf : gf < Z.nf) (mo : MO V Z b gf True (QN V b) (QN V b)) (gd : (gf : Int) + 1 = (V 5 6).toInt) (gk : (V 67 gf).toInt = 2) (rwq : RW V gB (gm, ga, gfr :: gr)) (bc : BKc V b gB) (sf : SF gB (gm, ga, gfr :: gr))  : Met l yX5_goOnCalling (Cond.code yX5_goOnCalling cX5_goOnCalling 3 none :: GW) (r_x_goOnCalling9 Z) (va_Pc [.ref (ad 5), .ref (Z.fa gf)] (gp D ks (xw ad kk V L Z) (xty kk Z) sz)) (q_x_goOnCalling9 D ks ad kk V L Z  b gf gB gm ga gfr gr (va_A (xw ad kk V L Z) sz)) (zcc Z) (zss Z) (va_A (xw ad kk V L Z) sz) := by
  refine g_met (q_x_goOnCalling9 D ks ad kk V L Z  b gf gB gm ga gfr gr) (by decide) (Nat.le_of_ble_eq_true rfl) ?_
  intro p e s m below meth c A ls H locs hx hb hr hml hown hg hlocks hin hnw hgk hP hK hD hS hA hl
  replace hown : s.vm.findClass RX5 = some m.cls := hown
  replace hl : lv_has ls 3 [(0, .ref (ad 5)), (1, .ref (Z.fa gf))] := hl
  replace hP : va_P D vwCl (xw ad kk V L Z) H := hP
  replace hD : va_D A (xw ad kk V L Z) := hD
  replace hK : va_K D vwCl (xty kk Z) s := hK
  have agV : agr [(4, 5), (5, 6), (5, 9), (5, 11), (5, 12), (5, 13), (5, 14)] [33, 34, 35, 67, 68, 69, 70, 71, 72, 73, 74, 75, 76, 77, 78, 79, 80, 81, 82, 83, 84, 85] V V := agr.rf
  have zoZ : ZL Z Z := ZL.rf
  refine W.know (fun ka kb => ?_)
  refine W.tight (k := zcc Z - zcc Z) (n := zss Z - zss Z) (by (first | exact om_7244b830ee02 ka | omega)) (by (first | exact om_7244b830ee02 kb | omega)) ?_
  have r1 : 0 ≤ ((V 5 6)).toInt ∧ ((V 5 6)).toInt ≤ 400 := hMV 5 6
  have kdp := i_clamp (x := V 5 6) rfl (by (first | exact om_e301311e2a25 gd r1 | omega))
  have hdn : (gf : Int) + 1 ≤ (Z.nf : Int) := by (first | exact om_bb8713a56da6 hgf gd kdp | omega)
  have mup := MO.up mo
  have msz := mup.1
  have mbk := mup.2.2.2.1
  obtain ⟨xk, fk⟩ := MO.fk mo
  have r2 : (-1) ≤ ((V 71 gf)).toInt ∧ ((V 71 gf)).toInt ≤ 23 := hMV 71 gf
  have r3 : 0 ≤ ((V 75 gf)).toInt ∧ ((V 75 gf)).toInt ≤ 12 := hMV 75 gf
  have r4 : 0 ≤ ((V 80 gf)).toInt ∧ ((V 80 gf)).toInt ≤ 300 := hMV 80 gf
  have r5 : 0 ≤ ((V 84 gf)).toInt ∧ ((V 84 gf)).toInt ≤ 2147483647 := hMV 84 gf
  have r6 : 0 ≤ ((V 5 8)).toInt ∧ ((V 5 8)).toInt ≤ 300 := hMV 5 8
  have r7 : 0 ≤ ((V 5 9)).toInt ∧ ((V 5 9)).toInt ≤ 3 := hMV 5 9
  have r8 : 0 ≤ ((V 3 13)).toInt ∧ ((V 3 13)).toInt ≤ 300 := hMV 3 13
  have r9 : 0 ≤ ((V 43 (5 * b + 2))).toInt ∧ ((V 43 (5 * b + 2))).toInt ≤ ((xcap (5 * b + 2) : Nat) : Int) := hMV 43 (5 * b + 2)
  have r10 : xcap (5 * b + 2) = 24 := xcap_2
  have r11 : 0 ≤ ((V 41 b)).toInt ∧ ((V 41 b)).toInt ≤ 12 := hMV 41 b
  have r12 : 0 ≤ ((V 42 b)).toInt ∧ ((V 42 b)).toInt ≤ 8200 := hMV 42 b
  have fc := fk.1 (by (first | exact om_7ff4e10da701 gk | omega))
  have fo : Imp ((V 68 gf).toInt ≠ 0) (0 ≤ (V 70 gf).toInt ∧ (V 70 gf).toInt < (V 3 13).toInt) := Imp.mk (fun h => fk.2.1 (by (first | exact om_7ff4e10da701 gk | omega)) (by (first | exact om_76a58f1d71c2 h | omega)))
  have fp := fk.2.2.2.2.2.2.2.1 (by (first | exact om_6aa5e6f8c558 gk | omega))
  have m1 : Int32.toInt (-1) = -1 := by decide
  have rw0 := rwq
  obtain ⟨⟨ow, rn⟩, rh, rd, tw9, rt9, rl⟩ := rw0
  replace rn : RWn V ow gB gm := rn
  replace rh : RWh V gm ga := rh
  have rd2 : (V 5 6).toInt = ((gr.length + 1 : Nat) : Int) := rd
  have gl9 : gr.length = gf := by (first | exact om_737fc00ff7e4 gd kdp rd rd2 | omega)
  have sl9 : gr.length ≤ 394 := by have h9 : gr.length + 1 ≤ 395 := sf.1; (first | exact om_5c206326bd12 gd r1 kdp rd rd2 h9 | omega)
  have rh1 : (V 5 9).toInt = gm 0 6 := rh.1
  have ra2 : (V 3 13).toInt = gm 0 2 := rn.1.1.2.2.1
  have rl0 := rl
  obtain ⟨t0, tl9, hf0, hbs9, hpl9, hlr⟩ := rl0
  rw [gl9] at hf0 hbs9
  rcases FRc.k2 hf0 gk with ⟨lv, o, c, sc, me, v, hfe⟩ | ⟨lv, o, c, sc, me, hfe⟩ | ⟨lv, o, c, sc, me, ps, nd, fl, hfe⟩
  · skip
    have hf : FRc V gB gf (Fcall0 lv o c sc me v) := by rw [← hfe]; exact hf0
    have tl8 : tw9 = t0 + (Fcall0 lv o c sc me v : Fr).2.2.2.length := by rw [← hfe]; exact tl9
    obtain ⟨⟨k67, k68⟩, q69, q70, qo, ⟨c2, c3⟩, ⟨q72, s0, s1⟩, ⟨q73, m0, m9⟩, q74⟩ := hf
    have tz9 : tw9 = t0 := tl8
    refine lv_aload_n hx hb dX5_goOnCalling_0 rfl (lv_at hl 1 rfl) ?_
    refine va_getN (D := D) (ci := 4) (v := .int (V 68 gf)) (fs := (xfFrame V gf)) (C := RX4) (T := TX4) (N := 19) hx hb hg inX4 hown hK hP (336 + gf) (xgFrame hgf) rfl 1 (by decide) (hnw.use 1190 n1190 rfl) (fun _ h9 => h9) rfl dX5_goOnCalling_1 ?_
    refine lv_if_ne (tgt := 13) hx hb dX5_goOnCalling_4 (by decide) (fun c13 => ?_) (fun c13 => ?_)
    · skip
      have f14 : ((V 68 gf)).toInt ≠ 0 := b_neq rfl (by decide) c13
      exfalso; first | exact om_0b51723c7ef6 k68 f14 | first | omega | ((try (have i_fo := Imp.go fo (by omega))); omega)
    · skip
      have f15 : ((V 68 gf)).toInt = 0 := b_eq rfl (by decide) c13
      refine lv_aload_n hx hb dX5_goOnCalling_7 rfl (lv_at hl 0 rfl) ?_
      refine lv_aload_n hx hb dX5_goOnCalling_8 rfl (lv_at hl 1 rfl) ?_
      refine W.know (fun k17 k18 => ?_)
      obtain ⟨Hk16, hHk16⟩ : ∃ z, z = H := ⟨_, rfl⟩
      have k17 : Hk16.size ≤ s.heap.size + (zcc Z - zcc Z) := by rw [hHk16]; exact k17
      have k18 : tot Hk16 ≤ tot s.heap + (zss Z - zss Z) := by rw [hHk16]; exact k18
      refine gZ_void (gA_runV (As := [.ref (Z.fa gf)]) (rest := []) (ci := 5) (q0 := 5) hx hb hml hown hg hP hD hK hS hA hnw hgk (x_beginCalling9 l D ks H.size ad kk V L Z (b) (gf) (gB) (gm) (ga) (gfr) (gr) hMV (show b < 2 from by first | exact om_289974d36c9f hb2 mup | first | omega | ((try (have i_fo := Imp.go fo (by omega))); omega)) (show gf < Z.nf from by first | exact om_725d0642dd96 hgf gd kdp rd rd2 | first | omega | ((try (have i_fo := Imp.go fo (by omega))); omega)) mo (show (gf : Int) + 1 = (V 5 6).toInt from by first | exact om_d5747674bc98 gd | first | omega | ((try (have i_fo := Imp.go fo (by omega))); omega)) (show (V 67 gf).toInt = 2 from by first | exact om_6aa5e6f8c558 gk | first | omega | ((try (have i_fo := Imp.go fo (by omega))); omega)) rwq bc sf (show (V 68 gf).toInt = 0 from by first | exact om_b66ba74381d5 k68 | first | omega | ((try (have i_fo := Imp.go fo (by omega))); omega))) w1384 w1386 w59 w171 w1387 rfl xgMachine hdV_yX5_beginCalling ⟨Nat.le_of_ble_eq_true rfl, Nat.le_of_ble_eq_true rfl⟩ rfl hl.1 rfl (Nat.le_of_ble_eq_true rfl) dX5_goOnCalling_9 ⟨z1 zoZ.1, z1 zoZ.2.1⟩) hD hS hA (fun u20 H locs w21 hP hD hK hS y22 y23 => ?_)
      obtain ⟨V24, L25, Z26⟩ := u20
      obtain ⟨hMV24, ajV24, axL25, zlZ26, t28, t29⟩ := w21
      have axL25 : L = L25 := Eq.symm axL25
      subst axL25
      replace hP : va_P D vwCl (xw ad kk V24 L Z26) H := hP
      replace hD : va_D A (xw ad kk V24 L Z26) := hD
      replace hK : va_K D vwCl (xty kk Z26) s := hK
      replace hMV24 : rgd bX V24 := hMV24
      replace ajV24 : agr [(5, 6), (5, 9), (5, 11), (5, 12), (5, 13), (5, 14)] [67, 68, 69, 70, 71, 72, 73, 74, 75, 76, 77, 78, 79, 80, 81, 82, 83, 84, 85] V V24 := ajV24
      have agV24 : agr [(4, 5), (5, 6), (5, 9), (5, 11), (5, 12), (5, 13), (5, 14)] [33, 34, 35, 67, 68, 69, 70, 71, 72, 73, 74, 75, 76, 77, 78, 79, 80, 81, 82, 83, 84, 85] V V24 := agV.tr ajV24 (by decide) (by decide)
      replace zlZ26 : ZL Z Z26 := zlZ26
      have zoZ26 : ZL Z Z26 := ZL.tr zoZ zlZ26
      have ziZ26 := zlZ26.1
      have zjZ26 := zlZ26.2.1
      have zkZ26 := zlZ26.2.2.1
      have zmZ26 := zoZ26.1
      have znZ26 := zoZ26.2.1
      have zpZ_Z26 := zoZ.1
      have zqZ_Z26 := zoZ.2.1
      have y22 : H.size ≤ Hk16.size + (zcc Z - zcc Z26) := by rw [hHk16]; exact y22
      have y23 : tot H ≤ tot Hk16 + (zss Z - zss Z26) := by rw [hHk16]; exact y23
      refine W.tight (k := zcc Z - zcc Z26) (n := zss Z - zss Z26) (by first | exact tg9 y22 k17 zlZ26.1 zoZ.1 | omega) (by first | exact tg9 y23 k18 zlZ26.2.1 zoZ.2.1 | omega) ?_
      have hl : lv_has ls 3 [(0, .ref (ad 5)), (1, .ref (Z26.fa gf))] := by rw [zlZ26.2.2.2.2 gf hgf]; exact hl
      replace t28 : MJ V24 Z26 b := t28
      replace t29 : RW V24 gB (stM gB (gm, ga, gfr :: gr)) := t29
      refine W.know (fun kr1 kr2 => ?_)
      refine W.widen (k := zcc Z) (n := zss Z) (Nat.sub_le _ _) (Nat.sub_le _ _) ?_
      exact W.vret hx hb hr (fun t ht hW => ⟨⟨(V24, L, Z26), rfl, ⟨hMV24, agV24, rfl, zoZ26, t28, t29⟩, ⟨by rw [ht]; exact hP, va_K.moved hW.alike hK, hD⟩, by rw [ht]; exact kr1, by rw [ht]; exact kr2⟩, hS.F ht⟩) hS.2.2 dX5_goOnCalling_12
  · skip
    have hf : FRc V gB gf (Fcall1 lv o c sc me) := by rw [← hfe]; exact hf0
    have tl8 : tw9 = t0 + (Fcall1 lv o c sc me : Fr).2.2.2.length := by rw [← hfe]; exact tl9
    obtain ⟨⟨k67, k68⟩, hoc, ⟨q73, m0, m9⟩⟩ := hf
    obtain ⟨q69, ⟨q70, o0, o1⟩, ⟨q71, c0, c1⟩, ⟨q72, s0, s1⟩⟩ := hoc
    have cn9 : c.toNat < nC gB := by (first | exact om_51a08a25bfb6 r2 fc q71 c1 | omega)
    have kc9 : Int32.toNatClampNeg (V 71 gf) = c.toNat := by have h9 := i_clamp (x := V 71 gf) rfl (by (first | exact om_762d7ad45f4b r2 fc q71 | omega)); (first | exact om_57d2b76748c0 r2 fc q71 h9 | omega)
    have tz9 : tw9 = t0 := tl8
    refine lv_aload_n hx hb dX5_goOnCalling_0 rfl (lv_at hl 1 rfl) ?_
    refine va_getN (D := D) (ci := 4) (v := .int (V 68 gf)) (fs := (xfFrame V gf)) (C := RX4) (T := TX4) (N := 19) hx hb hg inX4 hown hK hP (336 + gf) (xgFrame hgf) rfl 1 (by decide) (hnw.use 1190 n1190 rfl) (fun _ h9 => h9) rfl dX5_goOnCalling_1 ?_
    refine lv_if_ne (tgt := 13) hx hb dX5_goOnCalling_4 (by decide) (fun c30 => ?_) (fun c30 => ?_)
    · skip
      have f31 : ((V 68 gf)).toInt ≠ 0 := b_neq rfl (by decide) c30
      refine lv_aload_n hx hb dX5_goOnCalling_13 rfl (lv_at hl 0 rfl) ?_
      refine va_get (D := D) (ci := 5) (v := .int (V 5 9)) (fs := (xfMachine ad V L Z)) (C := RX5) (T := TX5) (N := 15) hx hb hg inX5 hown hK hP 5 xgMachine rfl 9 (by decide) (hg _ w676) (fun _ h9 => h9) rfl dX5_goOnCalling_14 ?_
      refine lv_iconst (v := 2) hx hb dX5_goOnCalling_17 (by decide) ?_
      refine lv_icmp_eq (tgt := 26) hx hb dX5_goOnCalling_18 (by decide) (fun c32 => ?_) (fun c32 => ?_)
      · skip
        have f33 : ((V 5 9)).toInt = 2 := b_eq rfl (by decide) c32
        refine lv_aload_n hx hb dX5_goOnCalling_26 rfl (lv_at hl 1 rfl) ?_
        refine va_getN (D := D) (ci := 4) (v := .int (V 68 gf)) (fs := (xfFrame V gf)) (C := RX4) (T := TX4) (N := 19) hx hb hg inX4 hown hK hP (336 + gf) (xgFrame hgf) rfl 1 (by decide) (hnw.use 1190 n1190 rfl) (fun _ h9 => h9) rfl dX5_goOnCalling_27 ?_
        refine lv_iconst (v := 1) hx hb dX5_goOnCalling_30 (by decide) ?_
        refine lv_icmp_ne (tgt := 55) hx hb dX5_goOnCalling_31 (by decide) (fun c34 => ?_) (fun c34 => ?_)
        · skip
          have f35 : ((V 68 gf)).toInt ≠ 1 := b_neq rfl (by decide) c34
          exfalso; first | exact om_b36fcf15d462 k68 f35 | first | omega | ((try (have i_fo := Imp.go fo (by omega))); omega)
        · skip
          have f36 : ((V 68 gf)).toInt = 1 := b_eq rfl (by decide) c34
          refine lv_aload_n hx hb dX5_goOnCalling_34 rfl (lv_at hl 0 rfl) ?_
          refine lv_aload_n hx hb dX5_goOnCalling_35 rfl (lv_at hl 1 rfl) ?_
          refine gA_void (gA_runV (As := [.ref (Z.fa gf)]) (rest := []) (ci := 5) (q0 := 5) hx hb hml hown hg hP hD hK hS hA hnw hgk (x_holdFailure9 l D ks H.size ad kk V L Z (gf) hMV (show gf < Z.nf from by first | exact om_725d0642dd96 hgf gd kdp rd rd2 | first | omega | ((try (have i_fo := Imp.go fo (by omega))); omega))) w1312 w1314 w51 w171 w1315 rfl xgMachine hdV_yX5_holdFailure ⟨Nat.le_of_ble_eq_true rfl, Nat.le_of_ble_eq_true rfl⟩ rfl hl.1 rfl (Nat.le_of_ble_eq_true rfl) dX5_goOnCalling_36 ⟨z0, z0⟩) hP hD hK hS hA (fun u38 H locs w39 hP hD hK hS => ?_)
          obtain ⟨V41, L42⟩ := u38
          obtain ⟨hMV41, ajV41, axL42, t40⟩ := w39
          have axL42 : L = L42 := Eq.symm axL42
          subst axL42
          replace hP : va_P D vwCl (xw ad kk V41 L Z) H := hP
          replace hD : va_D A (xw ad kk V41 L Z) := hD
          replace hMV41 : rgd bX V41 := hMV41
          replace ajV41 : agr [] [81, 82] V V41 := ajV41
          have agV41 : agr [(4, 5), (5, 6), (5, 9), (5, 11), (5, 12), (5, 13), (5, 14)] [33, 34, 35, 67, 68, 69, 70, 71, 72, 73, 74, 75, 76, 77, 78, 79, 80, 81, 82, 83, 84, 85] V V41 := agV.tr ajV41 (by decide) (by decide)
          replace t40 : ((True) ∧ V41 = (up2 (up2 V 81 gf (V 5 11)) 82 gf (V 5 12))) := t40
          have hw43 := t40.2
          obtain ⟨V44, hV44⟩ : ∃ z, z = up2 V 81 gf (V 5 11) := ⟨_, rfl⟩
          have hV41 : V41 = up2 V44 82 gf (V 5 12) := by rw [hw43, hV44]
          refine lv_aload_n hx hb dX5_goOnCalling_39 rfl (lv_at hl 1 rfl) ?_
          refine lv_iconst (v := 3) hx hb dX5_goOnCalling_40 (by decide) ?_
          refine va_putN (D := D) (ci := 4) (v := .int 3) (ty := tyX4 1) (fs := (xfFrame V41 gf)) (C := RX4) (T := TX4) (N := 19) hx hb hg inX4 tyX4 tyX4_ok nmX4 hown hK hP hD hS (336 + gf) (xgFrame hgf) rfl 1 (by decide) (hnw.use 1190 n1190 rfl) (fun _ h9 => h9) rfl (tyX4_ok 1 (by decide)) rfl rfl (Nat.le_of_ble_eq_true rfl) dX5_goOnCalling_41 (fun H locs hP hD hS => ?_)
          obtain ⟨V45, hV45⟩ : ∃ z, z = up2 V41 68 gf 3 := ⟨_, rfl⟩
          have ew46 : (xw ad kk V41 L Z).set (336 + gf) ((Z.fa gf), .inr (4, (xfFrame V41 gf).set 1 (.int 3))) = xw ad kk V45 L Z := by rw [hV45]; exact xpFrame_phase hgf
          have hP : va_P D vwCl (xw ad kk V45 L Z) H := by rw [← ew46]; exact hP
          have hD : va_D A (xw ad kk V45 L Z) := by rw [← ew46]; exact hD
          have hMV45 : rgd bX V45 := hMV41.put hV45 (i_full _)
          have agV45 : agr [(4, 5), (5, 6), (5, 9), (5, 11), (5, 12), (5, 13), (5, 14)] [33, 34, 35, 67, 68, 69, 70, 71, 72, 73, 74, 75, 76, 77, 78, 79, 80, 81, 82, 83, 84, 85] V V45 := agV41.up hV45 rfl
          refine lv_aload_n hx hb dX5_goOnCalling_44 rfl (lv_at hl 1 rfl) ?_
          refine lv_aload_n hx hb dX5_goOnCalling_45 rfl (lv_at hl 0 rfl) ?_
          refine va_get (D := D) (ci := 5) (v := .ref (ad (38 + Int32.toNatClampNeg (V45 5 5)))) (fs := (xfMachine ad V45 L Z)) (C := RX5) (T := TX5) (N := 15) hx hb hg inX5 hown hK hP 5 xgMachine rfl 5 (by decide) (hg _ w672) (fun _ h9 => h9) rfl dX5_goOnCalling_46 ?_
          have pq47 : (V45 5 5).toInt = ((V 5 5)).toInt := congrArg Int32.toInt ((up2_o hV45 (by decide)).trans ((up2_o hV41 (by decide)).trans (up2_o hV44 (by decide))))
          have r48 : 0 ≤ ((V 5 5)).toInt ∧ ((V 5 5)).toInt ≤ 1 := hMV 5 5
          refine g_topv (v := .ref (ad (38 + b))) (rfP (by first | exact om_42a69a20c92a mup pq47 | first | omega | ((try (have i_fo := Imp.go fo (by omega))); omega))) ?_
          refine va_getN (D := D) (ci := 0) (v := .int (V45 41 b)) (fs := (xfBook ad V45 b)) (C := RX0) (T := TX0) (N := 13) hx hb hg inX0 hown hK hP (38 + b) (xgBook hb2) rfl 11 (by decide) (hnw.use 628 n628 rfl) (fun _ h9 => h9) rfl dX5_goOnCalling_49 ?_
          refine g_top (v := (V 41 b)) ((up2_o hV45 (by decide)).trans ((up2_o hV41 (by decide)).trans (up2_o hV44 (by decide)))) ?_
          refine va_putN (D := D) (ci := 4) (v := .int (V 41 b)) (ty := tyX4 8) (fs := (xfFrame V45 gf)) (C := RX4) (T := TX4) (N := 19) hx hb hg inX4 tyX4 tyX4_ok nmX4 hown hK hP hD hS (336 + gf) (xgFrame hgf) rfl 8 (by decide) (hnw.use 1197 n1197 rfl) (fun _ h9 => h9) rfl (tyX4_ok 8 (by decide)) rfl rfl (Nat.le_of_ble_eq_true rfl) dX5_goOnCalling_52 (fun H locs hP hD hS => ?_)
          obtain ⟨V49, hV49⟩ : ∃ z, z = up2 V45 75 gf (V 41 b) := ⟨_, rfl⟩
          have ew50 : (xw ad kk V45 L Z).set (336 + gf) ((Z.fa gf), .inr (4, (xfFrame V45 gf).set 8 (.int (V 41 b)))) = xw ad kk V49 L Z := by rw [hV49]; exact xpFrame_position hgf
          have hP : va_P D vwCl (xw ad kk V49 L Z) H := by rw [← ew50]; exact hP
          have hD : va_D A (xw ad kk V49 L Z) := by rw [← ew50]; exact hD
          have hMV49 : rgd bX V49 := hMV45.put hV49 (show 0 ≤ ((V 41 b)).toInt ∧ ((V 41 b)).toInt ≤ 12 from by first | exact om_6627f65ff26f r11 | first | omega | ((try (have i_fo := Imp.go fo (by omega))); omega))
          have agV49 : agr [(4, 5), (5, 6), (5, 9), (5, 11), (5, 12), (5, 13), (5, 14)] [33, 34, 35, 67, 68, 69, 70, 71, 72, 73, 74, 75, 76, 77, 78, 79, 80, 81, 82, 83, 84, 85] V V49 := agV45.up hV49 rfl
          refine lv_aload_n hx hb dX5_goOnCalling_55 rfl (lv_at hl 0 rfl) ?_
          refine va_get (D := D) (ci := 5) (v := .ref (ad (38 + Int32.toNatClampNeg (V49 5 5)))) (fs := (xfMachine ad V49 L Z)) (C := RX5) (T := TX5) (N := 15) hx hb hg inX5 hown hK hP 5 xgMachine rfl 5 (by decide) (hg _ w672) (fun _ h9 => h9) rfl dX5_goOnCalling_56 ?_
          have pq51 : (V49 5 5).toInt = ((V 5 5)).toInt := congrArg Int32.toInt ((up2_o hV49 (by decide)).trans ((up2_o hV45 (by decide)).trans ((up2_o hV41 (by decide)).trans (up2_o hV44 (by decide)))))
          refine g_topv (v := .ref (ad (38 + b))) (rfP (by first | exact om_9b0d53f73d64 mup pq47 pq51 | first | omega | ((try (have i_fo := Imp.go fo (by omega))); omega))) ?_
          refine lv_aload_n hx hb dX5_goOnCalling_59 rfl (lv_at hl 1 rfl) ?_
          refine va_getN (D := D) (ci := 4) (v := .int (V49 75 gf)) (fs := (xfFrame V49 gf)) (C := RX4) (T := TX4) (N := 19) hx hb hg inX4 hown hK hP (336 + gf) (xgFrame hgf) rfl 8 (by decide) (hnw.use 1197 n1197 rfl) (fun _ h9 => h9) rfl dX5_goOnCalling_60 ?_
          refine g_top (v := (V 41 b)) (up2_s hV49) ?_
          refine lv_iconst (v := 1) hx hb dX5_goOnCalling_63 (by decide) ?_
          refine lv_isub hx hb dX5_goOnCalling_64 ?_
          refine lv_topi (fun z52 ez52 => ?_)
          have hz52 : z52.toInt = ((V 41 b)).toInt - 1 := i_sub ez52 rfl (by decide) (by (first | exact om_66d652217f22 r11 | omega))
          refine lv_iconst (v := 3) hx hb dX5_goOnCalling_65 (by decide) ?_
          refine lv_aload_n hx hb dX5_goOnCalling_66 rfl (lv_at hl 1 rfl) ?_
          refine va_getN (D := D) (ci := 4) (v := .int (V49 71 gf)) (fs := (xfFrame V49 gf)) (C := RX4) (T := TX4) (N := 19) hx hb hg inX4 hown hK hP (336 + gf) (xgFrame hgf) rfl 4 (by decide) (hnw.use 1193 n1193 rfl) (fun _ h9 => h9) rfl dX5_goOnCalling_67 ?_
          refine g_top (v := (V 71 gf)) ((up2_o hV49 (by decide)).trans ((up2_o hV45 (by decide)).trans ((up2_o hV41 (by decide)).trans (up2_o hV44 (by decide))))) ?_
          refine lv_aload_n hx hb dX5_goOnCalling_70 rfl (lv_at hl 1 rfl) ?_
          refine va_getN (D := D) (ci := 4) (v := .int (V49 73 gf)) (fs := (xfFrame V49 gf)) (C := RX4) (T := TX4) (N := 19) hx hb hg inX4 hown hK hP (336 + gf) (xgFrame hgf) rfl 6 (by decide) (hnw.use 1195 n1195 rfl) (fun _ h9 => h9) rfl dX5_goOnCalling_71 ?_
          refine g_top (v := (V 73 gf)) ((up2_o hV49 (by decide)).trans ((up2_o hV45 (by decide)).trans ((up2_o hV41 (by decide)).trans (up2_o hV44 (by decide))))) ?_
          have r53 : 0 ≤ ((V 73 gf)).toInt ∧ ((V 73 gf)).toInt ≤ 19 := hMV 73 gf
          have r54 : Int32.toInt 3 = 3 := by decide
          have pq55 : (V49 41 b).toInt = ((V 41 b)).toInt := congrArg Int32.toInt ((up2_o hV49 (by decide)).trans ((up2_o hV45 (by decide)).trans ((up2_o hV41 (by decide)).trans (up2_o hV44 (by decide)))))
          have me56 : ME V V49 0 := (ME.up (ME.up (ME.up (ME.up ME.rf hV44 (Or.inl ⟨by decide, by decide, by first | exact om_fb584d2b6641 gd r1 kdp rd rd2 sl9 | first | omega | ((try (have i_fo := Imp.go fo (by omega))); omega)⟩)) hV41 (Or.inl ⟨by decide, by decide, by first | exact om_fb584d2b6641 gd r1 kdp rd rd2 sl9 | first | omega | ((try (have i_fo := Imp.go fo (by omega))); omega)⟩)) hV45 (Or.inl ⟨by decide, by decide, by first | exact om_fb584d2b6641 gd r1 kdp rd rd2 sl9 | first | omega | ((try (have i_fo := Imp.go fo (by omega))); omega)⟩)) hV49 (Or.inl ⟨by decide, by decide, by first | exact om_fb584d2b6641 gd r1 kdp rd rd2 sl9 | first | omega | ((try (have i_fo := Imp.go fo (by omega))); omega)⟩))
          have bc57 : BKc V49 b gB := BKc.be bc me56.1
          refine gA_int (gA_runV (As := [.int z52, .int 3, .int (V 71 gf), .int (V 73 gf)]) (rest := []) (ci := 0) (q0 := (38 + b)) hx hb hml hown hg hP hD hK hS hA hnw hgk (x_wrapBackFrom9 l D ks H.size ad kk V49 L Z z52 3 (V 71 gf) (V 73 gf) (b) hMV49 (by first | exact om_32a0e62379f9 r11 hz52 pq55 | first | omega | ((try (have i_fo := Imp.go fo (by omega))); omega)) (by first | exact om_7ee2e48c2283 r2 fc q71 | first | omega | ((try (have i_fo := Imp.go fo (by omega))); omega)) (show b < 2 from by first | exact om_26ac85b53044 hb2 mup pq47 pq51 | first | omega | ((try (have i_fo := Imp.go fo (by omega))); omega)) (show z52.toInt < (V49 41 b).toInt from by first | exact om_a0b16e45aa2a hz52 pq55 | first | omega | ((try (have i_fo := Imp.go fo (by omega))); omega)) (fun i9 hi9 => by have w9 := BKc.wi bc57 (i := i9) (by have := (BKc.wl bc57).2.2.2; omega); rw [w9.1]; have w8 := w9.2.2.1.1; have w7 := w9.2.2.2.2; exact ⟨by (first | exact om_c9a0220d2423 w9 w8 | omega), by (first | exact om_e31d9712f333 w9 w8 | omega)⟩)) w1392 w1393 w1394 w167 w1395 rfl (xgBook hb2) hdV_yX0_wrapBackFrom ⟨Nat.le_of_ble_eq_true rfl, Nat.le_of_ble_eq_true rfl⟩ rfl hl.1 rfl (Nat.le_of_ble_eq_true rfl) dX5_goOnCalling_74 ⟨z0, z0⟩) hP hD hK hS hA (fun z58 u59 H locs w60 hP hD hK hS => ?_)
          obtain ⟨rgz58, t61, t62⟩ := w60
          replace rgz58 : (-1) ≤ z58.toInt ∧ z58.toInt ≤ 11 := rgz58
          replace t61 : Imp (0 ≤ z58.toInt) (z58.toInt < (V49 41 b).toInt) := t61
          replace t62 : ((z58.toInt = -1 ∧ z52.toInt < (V49 41 b).toInt) ∧ ∀ i : Nat, (i : Int) ≤ z52.toInt → ¬ FWo V49 b i (Int32.toInt 3) (Int32.toNatClampNeg (V 71 gf)) ((V 73 gf)).toInt) ∨ ((0 ≤ z58.toInt ∧ z58.toInt ≤ z52.toInt ∧ z52.toInt < (V49 41 b).toInt) ∧ FWo V49 b z58.toInt.toNat (Int32.toInt 3) (Int32.toNatClampNeg (V 71 gf)) ((V 73 gf)).toInt ∧ ∀ i : Nat, z58.toInt < (i : Int) → (i : Int) ≤ z52.toInt → ¬ FWo V49 b i (Int32.toInt 3) (Int32.toNatClampNeg (V 71 gf)) ((V 73 gf)).toInt) := t62
          refine lv_istore_n (lv' := [(2, .int z58), (0, .ref (ad 5)), (1, .ref (Z.fa gf))]) hx hb dX5_goOnCalling_77 rfl hl (by decide) rfl (fun ls hl => ?_)
          refine lv_iload_n hx hb dX5_goOnCalling_78 rfl (lv_at hl 0 rfl) ?_
          refine lv_iconst (v := (-1)) hx hb dX5_goOnCalling_79 (by decide) ?_
          refine lv_icmp_ne (tgt := 100) hx hb dX5_goOnCalling_80 (by decide) (fun c63 => ?_) (fun c63 => ?_)
          · skip
            have f64 : z58.toInt ≠ (-1) := b_neq rfl (by decide) c63
            refine lv_aload_n hx hb dX5_goOnCalling_100 rfl (lv_at hl 2 rfl) ?_
            refine lv_iload_n hx hb dX5_goOnCalling_101 rfl (lv_at hl 0 rfl) ?_
            refine va_putN (D := D) (ci := 4) (v := .int z58) (ty := tyX4 8) (fs := (xfFrame V49 gf)) (C := RX4) (T := TX4) (N := 19) hx hb hg inX4 tyX4 tyX4_ok nmX4 hown hK hP hD hS (336 + gf) (xgFrame hgf) rfl 8 (by decide) (hnw.use 1197 n1197 rfl) (fun _ h9 => h9) rfl (tyX4_ok 8 (by decide)) rfl rfl (Nat.le_of_ble_eq_true rfl) dX5_goOnCalling_102 (fun H locs hP hD hS => ?_)
            obtain ⟨V65, hV65⟩ : ∃ z, z = up2 V49 75 gf z58 := ⟨_, rfl⟩
            have ew66 : (xw ad kk V49 L Z).set (336 + gf) ((Z.fa gf), .inr (4, (xfFrame V49 gf).set 8 (.int z58))) = xw ad kk V65 L Z := by rw [hV65]; exact xpFrame_position hgf
            have hP : va_P D vwCl (xw ad kk V65 L Z) H := by rw [← ew66]; exact hP
            have hD : va_D A (xw ad kk V65 L Z) := by rw [← ew66]; exact hD
            have hMV65 : rgd bX V65 := hMV49.put hV65 (show 0 ≤ z58.toInt ∧ z58.toInt ≤ 12 from by first | exact om_4bf42d7c603a rgz58 f64 | first | omega | ((try (have i_t61 := Imp.go t61 (by omega))); (try (have i_fo := Imp.go fo (by omega))); (try (have i_fo := Imp.go fo (by omega))); (try (have i_t61 := Imp.go t61 (by omega))); omega))
            have agV65 : agr [(4, 5), (5, 6), (5, 9), (5, 11), (5, 12), (5, 13), (5, 14)] [33, 34, 35, 67, 68, 69, 70, 71, 72, 73, 74, 75, 76, 77, 78, 79, 80, 81, 82, 83, 84, 85] V V65 := agV49.up hV65 rfl
            refine lv_aload_n hx hb dX5_goOnCalling_105 rfl (lv_at hl 1 rfl) ?_
            refine lv_aload_n hx hb dX5_goOnCalling_106 rfl (lv_at hl 2 rfl) ?_
            refine lv_iload_n hx hb dX5_goOnCalling_107 rfl (lv_at hl 0 rfl) ?_
            refine lv_aload_n hx hb dX5_goOnCalling_108 rfl (lv_at hl 2 rfl) ?_
            refine va_getN (D := D) (ci := 4) (v := .int (V65 81 gf)) (fs := (xfFrame V65 gf)) (C := RX4) (T := TX4) (N := 19) hx hb hg inX4 hown hK hP (336 + gf) (xgFrame hgf) rfl 14 (by decide) (hnw.use 1203 n1203 rfl) (fun _ h9 => h9) rfl dX5_goOnCalling_109 ?_
            refine g_top (v := (V 5 11)) ((up2_o hV65 (by decide)).trans ((up2_o hV49 (by decide)).trans ((up2_o hV45 (by decide)).trans ((up2_o hV41 (by decide)).trans (up2_s hV44))))) ?_
            refine lv_aload_n hx hb dX5_goOnCalling_112 rfl (lv_at hl 2 rfl) ?_
            refine va_getN (D := D) (ci := 4) (v := .int (V65 82 gf)) (fs := (xfFrame V65 gf)) (C := RX4) (T := TX4) (N := 19) hx hb hg inX4 hown hK hP (336 + gf) (xgFrame hgf) rfl 15 (by decide) (hnw.use 1204 n1204 rfl) (fun _ h9 => h9) rfl dX5_goOnCalling_113 ?_
            refine g_top (v := (V 5 12)) ((up2_o hV65 (by decide)).trans ((up2_o hV49 (by decide)).trans ((up2_o hV45 (by decide)).trans (up2_s hV41)))) ?_
            refine gE_int (g_runS (As := [.int (V 5 11), .int (V 5 12)]) (rest := [.int z58, .ref (Z.fa gf), .ref (ad 5)]) (wc := []) (tc := []) hx hb hml hown hg gw_self hP hD hK hS hA hnw hgk [] [] (by decide) rfl rfl (x_firstKind9 l D ks H.size (V 5 11) (V 5 12) ) w1400 w1401 w171 w1402 hdS_yX5_firstKind ⟨Nat.le_of_ble_eq_true rfl, Nat.le_of_ble_eq_true rfl⟩ rfl hl.1 rfl (Nat.le_of_ble_eq_true rfl) dX5_goOnCalling_116 ⟨z0, z0⟩) hP hD hK hS hA (fun z67 u68 H locs w69 hP hD hK hS => ?_)
            have t70 := w69
            replace t70 : (0 < ((V 5 11)).toInt ∧ z67.toInt = 20) ∨ (((V 5 11)).toInt ≤ 0 ∧ z67.toInt = ((V 5 12)).toInt) := t70
            have pq71 : (V65 71 gf).toInt = ((V 71 gf)).toInt := congrArg Int32.toInt ((up2_o hV65 (by decide)).trans ((up2_o hV49 (by decide)).trans ((up2_o hV45 (by decide)).trans ((up2_o hV41 (by decide)).trans (up2_o hV44 (by decide))))))
            have pq72 : (V65 43 (5 * b + 2)).toInt = ((V 43 (5 * b + 2))).toInt := congrArg Int32.toInt ((up2_o hV65 (by decide)).trans ((up2_o hV49 (by decide)).trans ((up2_o hV45 (by decide)).trans ((up2_o hV41 (by decide)).trans (up2_o hV44 (by decide))))))
            have pq73 : (V65 3 13).toInt = ((V 3 13)).toInt := congrArg Int32.toInt ((up2_o hV65 (by decide)).trans ((up2_o hV49 (by decide)).trans ((up2_o hV45 (by decide)).trans ((up2_o hV41 (by decide)).trans (up2_o hV44 (by decide))))))
            have pq74 : (V65 70 gf).toInt = ((V 70 gf)).toInt := congrArg Int32.toInt ((up2_o hV65 (by decide)).trans ((up2_o hV49 (by decide)).trans ((up2_o hV45 (by decide)).trans ((up2_o hV41 (by decide)).trans (up2_o hV44 (by decide))))))
            have pq75 : (V65 41 b).toInt = ((V 41 b)).toInt := congrArg Int32.toInt ((up2_o hV65 (by decide)).trans ((up2_o hV49 (by decide)).trans ((up2_o hV45 (by decide)).trans ((up2_o hV41 (by decide)).trans (up2_o hV44 (by decide))))))
            have me76 : ME V V65 gf := (ME.up (ME.up (ME.up (ME.up (ME.up ME.rf hV44 (Or.inl ⟨by decide, by decide, Nat.le_refl _⟩)) hV41 (Or.inl ⟨by decide, by decide, Nat.le_refl _⟩)) hV45 (Or.inl ⟨by decide, by decide, Nat.le_refl _⟩)) hV49 (Or.inl ⟨by decide, by decide, Nat.le_refl _⟩)) hV65 (Or.inl ⟨by decide, by decide, Nat.le_refl _⟩))
            have pq77 : (V65 67 gf).toInt = ((V 67 gf)).toInt := congrArg Int32.toInt ((up2_o hV65 (by decide)).trans ((up2_o hV49 (by decide)).trans ((up2_o hV45 (by decide)).trans ((up2_o hV41 (by decide)).trans (up2_o hV44 (by decide))))))
            have pq78 : (V65 68 gf).toInt = 3 := (congrArg Int32.toInt ((up2_o hV65 (by decide)).trans ((up2_o hV49 (by decide)).trans (up2_s hV45)))).trans (by decide)
            have pq79 : (V65 75 gf).toInt = z58.toInt := congrArg Int32.toInt (up2_s hV65)
            have pq80 : (V65 76 gf).toInt = ((V 76 gf)).toInt := congrArg Int32.toInt ((up2_o hV65 (by decide)).trans ((up2_o hV49 (by decide)).trans ((up2_o hV45 (by decide)).trans ((up2_o hV41 (by decide)).trans (up2_o hV44 (by decide))))))
            have pq81 : (V65 80 gf).toInt = ((V 80 gf)).toInt := congrArg Int32.toInt ((up2_o hV65 (by decide)).trans ((up2_o hV49 (by decide)).trans ((up2_o hV45 (by decide)).trans ((up2_o hV41 (by decide)).trans (up2_o hV44 (by decide))))))
            have pq82 : (V65 84 gf).toInt = ((V 84 gf)).toInt := congrArg Int32.toInt ((up2_o hV65 (by decide)).trans ((up2_o hV49 (by decide)).trans ((up2_o hV45 (by decide)).trans ((up2_o hV41 (by decide)).trans (up2_o hV44 (by decide))))))
            have pq83 : (V65 5 6).toInt = ((V 5 6)).toInt := congrArg Int32.toInt ((up2_o hV65 (by decide)).trans ((up2_o hV49 (by decide)).trans ((up2_o hV45 (by decide)).trans ((up2_o hV41 (by decide)).trans (up2_o hV44 (by decide))))))
            have pq84 : (V65 5 8).toInt = ((V 5 8)).toInt := congrArg Int32.toInt ((up2_o hV65 (by decide)).trans ((up2_o hV49 (by decide)).trans ((up2_o hV45 (by decide)).trans ((up2_o hV41 (by decide)).trans (up2_o hV44 (by decide))))))
            have pq85 : (V65 5 9).toInt = ((V 5 9)).toInt := congrArg Int32.toInt ((up2_o hV65 (by decide)).trans ((up2_o hV49 (by decide)).trans ((up2_o hV45 (by decide)).trans ((up2_o hV41 (by decide)).trans (up2_o hV44 (by decide))))))
            have pq86 : (V65 42 b).toInt = ((V 42 b)).toInt := congrArg Int32.toInt ((up2_o hV65 (by decide)).trans ((up2_o hV49 (by decide)).trans ((up2_o hV45 (by decide)).trans ((up2_o hV41 (by decide)).trans (up2_o hV44 (by decide))))))
            have mo87 : MO V65 Z b gf True True True := MO.ch mo me76 ((up2_o hV65 (by decide)).trans ((up2_o hV49 (by decide)).trans ((up2_o hV45 (by decide)).trans ((up2_o hV41 (by decide)).trans (up2_o hV44 (by decide)))))) ((up2_o hV65 (by decide)).trans ((up2_o hV49 (by decide)).trans ((up2_o hV45 (by decide)).trans ((up2_o hV41 (by decide)).trans (up2_o hV44 (by decide)))))) (fun _ => Or.inl (by (first | exact om_7ff4e10da701 gk | omega))) (fun x h => FK.k2 (by first | exact om_cb23ae8fe0b3 gk pq77 | first | omega | ((try (have i_t61 := Imp.go t61 (by omega))); (try (have i_fo := Imp.go fo (by omega))); (try (have i_fo := Imp.go fo (by omega))); (try (have i_t61 := Imp.go t61 (by omega))); omega)) (by first | exact om_fe4c0070b215 r2 fc q71 pq71 pq72 | first | omega | ((try (have i_t61 := Imp.go t61 (by omega))); (try (have i_fo := Imp.go fo (by omega))); (try (have i_fo := Imp.go fo (by omega))); (try (have i_t61 := Imp.go t61 (by omega))); omega)) (by first | exact om_f8892d8d71be ra2 q70 o0 o1 pq73 pq74 | first | omega | ((try (have i_t61 := Imp.go t61 (by omega))); (try (have i_fo := Imp.go fo (by omega))); (try (have i_fo := Imp.go fo (by omega))); (try (have i_t61 := Imp.go t61 (by omega))); omega)) (by first | exact om_100a03b3a460 hz52 pq55 rgz58 t62 f64 w69 t70 pq75 pq78 pq79 | first | omega | ((try (have i_t61 := Imp.go t61 (by omega))); (try (have i_fo := Imp.go fo (by omega))); (try (have i_fo := Imp.go fo (by omega))); (try (have i_t61 := Imp.go t61 (by omega))); omega)))
            have mt88 : MT V65 Z b := MO.mt mo87 (by (first | exact om_6f738fa1827e hgf gd kdp rd rd2 pq83 | omega)) (by (first | exact om_78ea3e5e24cc gd kdp rd rd2 pq83 | omega))
            refine W.know (fun k90 k91 => ?_)
            obtain ⟨Hk89, hHk89⟩ : ∃ z, z = H := ⟨_, rfl⟩
            have k90 : Hk89.size ≤ s.heap.size + (zcc Z - zcc Z) := by rw [hHk89]; exact k90
            have k91 : tot Hk89 ≤ tot s.heap + (zss Z - zss Z) := by rw [hHk89]; exact k91
            refine gZ_ref (gA_runV (As := [.ref (Z.fa gf), .int z58, .int z67]) (rest := []) (ci := 5) (q0 := 5) hx hb hml hown hg hP hD hK hS hA hnw hgk (x_workWrap9 l D ks H.size ad kk V65 L Z z58 z67 (b) (gf) hMV65 (by first | exact om_1d70f03facb1 rgz58 f64 w69 t70 pq79 | first | omega | ((try (have i_t61 := Imp.go t61 (by omega))); (try (have i_fo := Imp.go fo (by omega))); (try (have i_fo := Imp.go fo (by omega))); (try (have i_t61 := Imp.go t61 (by omega))); omega)) (show b < 2 from by first | exact om_26ac85b53044 hb2 mup pq47 pq51 | first | omega | ((try (have i_t61 := Imp.go t61 (by omega))); (try (have i_fo := Imp.go fo (by omega))); (try (have i_fo := Imp.go fo (by omega))); (try (have i_t61 := Imp.go t61 (by omega))); omega)) (show gf < Z.nf from by first | exact om_d9a628b8387a hgf gd kdp rd rd2 pq83 | first | omega | ((try (have i_t61 := Imp.go t61 (by omega))); (try (have i_fo := Imp.go fo (by omega))); (try (have i_fo := Imp.go fo (by omega))); (try (have i_t61 := Imp.go t61 (by omega))); omega)) mt88 (show 0 ≤ (V65 71 gf).toInt ∧ (V65 71 gf).toInt < (V65 43 (5 * b + 2)).toInt from by first | exact om_fe4c0070b215 r2 fc q71 pq71 pq72 | first | omega | ((try (have i_t61 := Imp.go t61 (by omega))); (try (have i_fo := Imp.go fo (by omega))); (try (have i_fo := Imp.go fo (by omega))); (try (have i_t61 := Imp.go t61 (by omega))); omega)) (show 0 ≤ (V65 70 gf).toInt ∧ (V65 70 gf).toInt < (V65 3 13).toInt from by first | exact om_5f9ea3a708f4 ra2 q70 o0 o1 pq73 pq74 | first | omega | ((try (have i_t61 := Imp.go t61 (by omega))); (try (have i_fo := Imp.go fo (by omega))); (try (have i_fo := Imp.go fo (by omega))); (try (have i_t61 := Imp.go t61 (by omega))); omega)) (show z58.toInt < (V65 41 b).toInt from by first | exact om_68953c893e8e hz52 pq55 rgz58 t62 f64 w69 t70 pq75 pq79 | first | omega | ((try (have i_t61 := Imp.go t61 (by omega))); (try (have i_fo := Imp.go fo (by omega))); (try (have i_fo := Imp.go fo (by omega))); (try (have i_t61 := Imp.go t61 (by omega))); omega))) w1403 w1405 w62 w171 w1406 rfl xgMachine hdV_yX5_workWrap ⟨Nat.le_of_ble_eq_true rfl, Nat.le_of_ble_eq_true rfl⟩ rfl hl.1 rfl (Nat.le_of_ble_eq_true rfl) dX5_goOnCalling_119 ⟨z1 zoZ.1, z1 zoZ.2.1⟩) hD hS hA (fun u93 H locs w94 hP hD hK hS y95 y96 => ?_)
            obtain ⟨V97, L98, Z99, f100⟩ := u93
            obtain ⟨hMV97, ajV97, axL98, zlZ99, ilf100, t101, t102, t103, t104, t105⟩ := w94
            have axL98 : L = L98 := Eq.symm axL98
            subst axL98
            replace hP : va_P D vwCl (xw ad kk V97 L Z99) H := hP
            replace hD : va_D A (xw ad kk V97 L Z99) := hD
            replace hK : va_K D vwCl (xty kk Z99) s := hK
            replace hMV97 : rgd bX V97 := hMV97
            replace ajV97 : agr [(4, 5), (5, 6), (5, 9)] [33, 34, 35, 67, 68, 69, 70, 71, 72, 73, 74, 75, 76, 77, 78, 79, 80, 81, 82, 83, 84, 85] V65 V97 := ajV97
            have agV97 : agr [(4, 5), (5, 6), (5, 9), (5, 11), (5, 12), (5, 13), (5, 14)] [33, 34, 35, 67, 68, 69, 70, 71, 72, 73, 74, 75, 76, 77, 78, 79, 80, 81, 82, 83, 84, 85] V V97 := agV65.tr ajV97 (by decide) (by decide)
            replace zlZ99 : ZL Z Z99 := zlZ99
            have zoZ99 : ZL Z Z99 := ZL.tr zoZ zlZ99
            have ziZ99 := zlZ99.1
            have zjZ99 := zlZ99.2.1
            have zkZ99 := zlZ99.2.2.1
            have zmZ99 := zoZ99.1
            have znZ99 := zoZ99.2.1
            have zpZ_Z99 := zoZ.1
            have zqZ_Z99 := zoZ.2.1
            have y95 : H.size ≤ Hk89.size + (zcc Z - zcc Z99) := by rw [hHk89]; exact y95
            have y96 : tot H ≤ tot Hk89 + (zss Z - zss Z99) := by rw [hHk89]; exact y96
            refine W.tight (k := zcc Z - zcc Z99) (n := zss Z - zss Z99) (by first | exact tg9 y95 k90 zlZ99.1 zoZ.1 | omega) (by first | exact tg9 y96 k91 zlZ99.2.1 zoZ.2.1 | omega) ?_
            have hl : lv_has ls 3 [(2, .int z58), (0, .ref (ad 5)), (1, .ref (Z99.fa gf))] := by rw [zlZ99.2.2.2.2 gf hgf]; exact hl
            replace ilf100 : f100 < Z99.nf := ilf100
            replace t101 : MJ V97 Z99 b := t101
            replace t102 : (f100 : Int) + 1 = (V97 5 6).toInt := t102
            replace t103 : (V97 67 f100).toInt = 4 ∧ (V97 68 f100).toInt = 0 := t103
            replace t104 : (V97 5 9).toInt = 0 := t104
            replace t105 : Imp ((V65 5 6).toInt < 400 ∧ (gf : Int) < (V65 5 6).toInt) (PWk V65 V97 gf ((V65 5 6).toInt.toNat) (V65 66 (12 * b + Int32.toNatClampNeg (V65 47 (12 * b + Int32.toNatClampNeg z58)))) z67) := t105
            have r106 : 0 ≤ ((V97 5 6)).toInt ∧ ((V97 5 6)).toInt ≤ 400 := hMV97 5 6
            have r107 : 0 ≤ ((V97 5 9)).toInt ∧ ((V97 5 9)).toInt ≤ 3 := hMV97 5 9
            refine lv_pop hx hb dX5_goOnCalling_122 rfl ?_
            have rh2 : (V 5 11).toInt = gm 0 8 ∧ (V 5 12).toInt = gm 0 9 := rh.2.2.1 (show gm 0 6 = 2 from by (first | exact om_147a8ac6eacb rh1 f33 | omega))
            have me108 : ME V V49 0 := (ME.up (ME.up (ME.up (ME.up ME.rf hV44 (Or.inl ⟨by decide, by decide, by first | exact om_c9a7d7f72290 gd r1 kdp rd rd2 sl9 pq83 | first | omega | ((try (have i_t61 := Imp.go t61 (by omega))); (try (have i_fo := Imp.go fo (by omega))); (try (have i_fo := Imp.go fo (by omega))); (try (have i_t61 := Imp.go t61 (by omega))); omega)⟩)) hV41 (Or.inl ⟨by decide, by decide, by first | exact om_c9a7d7f72290 gd r1 kdp rd rd2 sl9 pq83 | first | omega | ((try (have i_t61 := Imp.go t61 (by omega))); (try (have i_fo := Imp.go fo (by omega))); (try (have i_fo := Imp.go fo (by omega))); (try (have i_t61 := Imp.go t61 (by omega))); omega)⟩)) hV45 (Or.inl ⟨by decide, by decide, by first | exact om_c9a7d7f72290 gd r1 kdp rd rd2 sl9 pq83 | first | omega | ((try (have i_t61 := Imp.go t61 (by omega))); (try (have i_fo := Imp.go fo (by omega))); (try (have i_fo := Imp.go fo (by omega))); (try (have i_t61 := Imp.go t61 (by omega))); omega)⟩)) hV49 (Or.inl ⟨by decide, by decide, by first | exact om_c9a7d7f72290 gd r1 kdp rd rd2 sl9 pq83 | first | omega | ((try (have i_t61 := Imp.go t61 (by omega))); (try (have i_fo := Imp.go fo (by omega))); (try (have i_fo := Imp.go fo (by omega))); (try (have i_t61 := Imp.go t61 (by omega))); omega)⟩))
            have bc109 : BKc V49 b gB := BKc.be bc me108.1
            have pq9 : Int32.toNatClampNeg (V 71 gf) = c.toNat := by have h9 := i_clamp (x := (V 71 gf)) rfl (by (first | exact om_c486a88bcb1e r2 fc q71 pq71 | omega)); (first | exact om_043ed8ee8a8a kc9 | omega)
            have wl9 := (BKc.wl bc109).2.2
            have fe9 : ∀ j : Nat, FWo V49 b j (Int32.toInt 3) (Int32.toNatClampNeg (V 71 gf)) ((V 73 gf)).toInt = FWo V49 b j ((3 : Nat) : Int) c.toNat ((me.toNat : Nat) : Int) := fun j => by rw [pq9, show Int32.toInt 3 = ((3 : Nat) : Int) from by decide, show ((V 73 gf)).toInt = ((me.toNat : Nat) : Int) from by (first | exact om_10771063345f q73 m0 m9 | omega)]
            have fz9 := t62.resolve_left (fun h8 => by have h7 := h8.1.1; (first | exact om_17cedc65083f f64 w69 t70 pq79 ziZ99 zjZ99 rh2 h8 | omega))
            have fb9 : fB (bW gB) (isF gB 3 c.toNat me.toNat) (wN gB) = some z58.toInt.toNat := BKc.fBy bc109 cn9 (by have h9 := fz9.1; (first | exact om_7819a386f9d5 r11 hz52 pq55 rgz58 pq75 pq79 wl9 fz9 | omega)) (by have h9 := fz9.1; (first | exact om_36cf446a3c95  | omega)) (by rw [← fe9]; exact fz9.2.1) (fun j9 h1 h2 => by rw [← fe9]; exact fz9.2.2 j9 (by (first | exact om_c511c7b6e22e rgz58 pq79 fz9 h1 | omega)) (by (first | exact om_ec350f10ce0e hz52 pq55 pq75 wl9 h2 | omega)))
            have na9 : Int32.ofInt (fst1 (gm 0 8) (gm 0 9)) = z67 := by rw [show fst1 (gm 0 8) (gm 0 9) = z67.toInt from by unfold fst1; rcases t70 with ⟨h1, h2⟩ | ⟨h1, h2⟩; (rw [if_pos (by (first | exact om_bddd29407a79 rh2 h1 | omega))]; (first | exact om_a85e0127ef2a h2 | omega)); (rw [if_neg (by (first | exact om_c0ae1b8eb7c0 rh2 h1 | omega))]; (first | exact om_1fbcbcda7b32 rh2 h2 | omega))]; exact Int32.ofInt_toInt _
            have pw := Imp.go t105 ⟨by (first | exact om_8c4987203dea gd r1 kdp rd rd2 sl9 pq83 | omega), by (first | exact om_ad89da6ade58 gd kdp rd rd2 pq83 | omega)⟩
            have pi9 : (V65 5 6).toInt.toNat = gr.length + 1 := by (first | exact om_c7704909093d gd r1 kdp rd rd2 sl9 pq83 | omega)
            rw [pi9] at pw
            obtain ⟨⟨pd1, pd2, pke⟩, ⟨pk1, pk2⟩, ⟨p69, p70, p71, p72, p73⟩, pag, pat, pba, pps⟩ := pw
            have wr110 : (V97 3 13).toInt = (V 3 13).toInt := congrArg Int32.toInt ((ajV97 3 13 rfl).trans ((up2_o hV65 (by decide)).trans ((up2_o hV49 (by decide)).trans ((up2_o hV45 (by decide)).trans ((up2_o hV41 (by decide)).trans (up2_o hV44 (by decide)))))))
            have wr111 : (V97 3 12).toInt = (V 3 12).toInt := congrArg Int32.toInt ((ajV97 3 12 rfl).trans ((up2_o hV65 (by decide)).trans ((up2_o hV49 (by decide)).trans ((up2_o hV45 (by decide)).trans ((up2_o hV41 (by decide)).trans (up2_o hV44 (by decide)))))))
            have wr112 : (V97 67 gf).toInt = ((V 67 gf)).toInt := (congrArg Int32.toInt ((pke gf (by (first | exact om_c9f168eff5a6 gd kdp rd rd2 | omega)) 67 (by decide) (by decide)).trans ((up2_o hV65 (by decide)).trans ((up2_o hV49 (by decide)).trans ((up2_o hV45 (by decide)).trans ((up2_o hV41 (by decide)).trans (up2_o hV44 (by decide))))))))
            have wr113 : (V97 68 gf).toInt = 3 := (congrArg Int32.toInt ((pke gf (by (first | exact om_c9f168eff5a6 gd kdp rd rd2 | omega)) 68 (by decide) (by decide)).trans ((up2_o hV65 (by decide)).trans ((up2_o hV49 (by decide)).trans (up2_s hV45))))).trans (by decide)
            have wr114 : (V97 69 gf).toInt = ((V 69 gf)).toInt := (congrArg Int32.toInt ((pke gf (by (first | exact om_c9f168eff5a6 gd kdp rd rd2 | omega)) 69 (by decide) (by decide)).trans ((up2_o hV65 (by decide)).trans ((up2_o hV49 (by decide)).trans ((up2_o hV45 (by decide)).trans ((up2_o hV41 (by decide)).trans (up2_o hV44 (by decide))))))))
            have wr115 : (V97 70 gf).toInt = ((V 70 gf)).toInt := (congrArg Int32.toInt ((pke gf (by (first | exact om_c9f168eff5a6 gd kdp rd rd2 | omega)) 70 (by decide) (by decide)).trans ((up2_o hV65 (by decide)).trans ((up2_o hV49 (by decide)).trans ((up2_o hV45 (by decide)).trans ((up2_o hV41 (by decide)).trans (up2_o hV44 (by decide))))))))
            have wr116 : (V97 71 gf).toInt = ((V 71 gf)).toInt := (congrArg Int32.toInt ((pke gf (by (first | exact om_c9f168eff5a6 gd kdp rd rd2 | omega)) 71 (by decide) (by decide)).trans ((up2_o hV65 (by decide)).trans ((up2_o hV49 (by decide)).trans ((up2_o hV45 (by decide)).trans ((up2_o hV41 (by decide)).trans (up2_o hV44 (by decide))))))))
            have wr117 : (V97 72 gf).toInt = ((V 72 gf)).toInt := (congrArg Int32.toInt ((pke gf (by (first | exact om_c9f168eff5a6 gd kdp rd rd2 | omega)) 72 (by decide) (by decide)).trans ((up2_o hV65 (by decide)).trans ((up2_o hV49 (by decide)).trans ((up2_o hV45 (by decide)).trans ((up2_o hV41 (by decide)).trans (up2_o hV44 (by decide))))))))
            have wr118 : (V97 73 gf).toInt = ((V 73 gf)).toInt := (congrArg Int32.toInt ((pke gf (by (first | exact om_c9f168eff5a6 gd kdp rd rd2 | omega)) 73 (by decide) (by decide)).trans ((up2_o hV65 (by decide)).trans ((up2_o hV49 (by decide)).trans ((up2_o hV45 (by decide)).trans ((up2_o hV41 (by decide)).trans (up2_o hV44 (by decide))))))))
            have wr119 : (V97 75 gf).toInt = z58.toInt := (congrArg Int32.toInt ((pke gf (by (first | exact om_c9f168eff5a6 gd kdp rd rd2 | omega)) 75 (by decide) (by decide)).trans (up2_s hV65)))
            have wr120 : (V97 81 gf).toInt = ((V 5 11)).toInt := (congrArg Int32.toInt ((pke gf (by (first | exact om_c9f168eff5a6 gd kdp rd rd2 | omega)) 81 (by decide) (by decide)).trans ((up2_o hV65 (by decide)).trans ((up2_o hV49 (by decide)).trans ((up2_o hV45 (by decide)).trans ((up2_o hV41 (by decide)).trans (up2_s hV44)))))))
            have wr121 : (V97 82 gf).toInt = ((V 5 12)).toInt := (congrArg Int32.toInt ((pke gf (by (first | exact om_c9f168eff5a6 gd kdp rd rd2 | omega)) 82 (by decide) (by decide)).trans ((up2_o hV65 (by decide)).trans ((up2_o hV49 (by decide)).trans ((up2_o hV45 (by decide)).trans (up2_s hV41))))))
            have wr122 : (V97 69 (gr.length + 1)).toInt = ((V 69 gf)).toInt := (congrArg Int32.toInt (p69.trans ((up2_o hV65 (by decide)).trans ((up2_o hV49 (by decide)).trans ((up2_o hV45 (by decide)).trans ((up2_o hV41 (by decide)).trans (up2_o hV44 (by decide))))))))
            have wr123 : (V97 70 (gr.length + 1)).toInt = ((V 70 gf)).toInt := (congrArg Int32.toInt (p70.trans ((up2_o hV65 (by decide)).trans ((up2_o hV49 (by decide)).trans ((up2_o hV45 (by decide)).trans ((up2_o hV41 (by decide)).trans (up2_o hV44 (by decide))))))))
            have wr124 : (V97 71 (gr.length + 1)).toInt = ((V 71 gf)).toInt := (congrArg Int32.toInt (p71.trans ((up2_o hV65 (by decide)).trans ((up2_o hV49 (by decide)).trans ((up2_o hV45 (by decide)).trans ((up2_o hV41 (by decide)).trans (up2_o hV44 (by decide))))))))
            have wr125 : (V97 72 (gr.length + 1)).toInt = ((V 72 gf)).toInt := (congrArg Int32.toInt (p72.trans ((up2_o hV65 (by decide)).trans ((up2_o hV49 (by decide)).trans ((up2_o hV45 (by decide)).trans ((up2_o hV41 (by decide)).trans (up2_o hV44 (by decide))))))))
            have wr126 : (V97 73 (gr.length + 1)).toInt = ((V 73 gf)).toInt := (congrArg Int32.toInt (p73.trans ((up2_o hV65 (by decide)).trans ((up2_o hV49 (by decide)).trans ((up2_o hV45 (by decide)).trans ((up2_o hV41 (by decide)).trans (up2_o hV44 (by decide))))))))
            have me127 : ME V V65 gf := (ME.up (ME.up (ME.up (ME.up (ME.up ME.rf hV44 (Or.inl ⟨by decide, by decide, Nat.le_refl _⟩)) hV41 (Or.inl ⟨by decide, by decide, Nat.le_refl _⟩)) hV45 (Or.inl ⟨by decide, by decide, Nat.le_refl _⟩)) hV49 (Or.inl ⟨by decide, by decide, Nat.le_refl _⟩)) hV65 (Or.inl ⟨by decide, by decide, Nat.le_refl _⟩))
            have rl128 : RWl V97 gB gr t0 := RWl.mv hlr (fun i9 hi9 c9 h1 h2 => ((pke i9 (by (first | exact om_7f53476936c1 kdp rd rd2 pq83 pi9 hi9 | omega)) c9 h1 h2)).trans (me127.2.1 c9 i9 h1 h2 (by (first | exact om_a8f73b8e7cf4 gd kdp rd rd2 pq83 pi9 hi9 | omega)))) (fun j9 hj9 => ((ajV97 39 j9 rfl).trans ((up2_o hV65 (by decide)).trans ((up2_o hV49 (by decide)).trans ((up2_o hV45 (by decide)).trans ((up2_o hV41 (by decide)).trans (up2_o hV44 (by decide)))))))) (by rw [((ajV97 3 13 rfl).trans ((up2_o hV65 (by decide)).trans ((up2_o hV49 (by decide)).trans ((up2_o hV45 (by decide)).trans ((up2_o hV41 (by decide)).trans (up2_o hV44 (by decide)))))))]; exact Int.le_refl _) ((ajV97 3 12 rfl).trans ((up2_o hV65 (by decide)).trans ((up2_o hV49 (by decide)).trans ((up2_o hV45 (by decide)).trans ((up2_o hV41 (by decide)).trans (up2_o hV44 (by decide)))))))
            have me129 : ME V V65 0 := (ME.up (ME.up (ME.up (ME.up (ME.up ME.rf hV44 (Or.inl ⟨by decide, by decide, by first | exact om_9a68da5e96c3 gd r1 kdp rd rd2 sl9 pq83 pi9 | first | omega | ((try (have i_t61 := Imp.go t61 (by omega))); (try (have i_fo := Imp.go fo (by omega))); (try (have i_fo := Imp.go fo (by omega))); (try (have i_t61 := Imp.go t61 (by omega))); omega)⟩)) hV41 (Or.inl ⟨by decide, by decide, by first | exact om_9a68da5e96c3 gd r1 kdp rd rd2 sl9 pq83 pi9 | first | omega | ((try (have i_t61 := Imp.go t61 (by omega))); (try (have i_fo := Imp.go fo (by omega))); (try (have i_fo := Imp.go fo (by omega))); (try (have i_t61 := Imp.go t61 (by omega))); omega)⟩)) hV45 (Or.inl ⟨by decide, by decide, by first | exact om_9a68da5e96c3 gd r1 kdp rd rd2 sl9 pq83 pi9 | first | omega | ((try (have i_t61 := Imp.go t61 (by omega))); (try (have i_fo := Imp.go fo (by omega))); (try (have i_fo := Imp.go fo (by omega))); (try (have i_t61 := Imp.go t61 (by omega))); omega)⟩)) hV49 (Or.inl ⟨by decide, by decide, by first | exact om_9a68da5e96c3 gd r1 kdp rd rd2 sl9 pq83 pi9 | first | omega | ((try (have i_t61 := Imp.go t61 (by omega))); (try (have i_fo := Imp.go fo (by omega))); (try (have i_fo := Imp.go fo (by omega))); (try (have i_t61 := Imp.go t61 (by omega))); omega)⟩)) hV65 (Or.inl ⟨by decide, by decide, by first | exact om_9a68da5e96c3 gd r1 kdp rd rd2 sl9 pq83 pi9 | first | omega | ((try (have i_t61 := Imp.go t61 (by omega))); (try (have i_fo := Imp.go fo (by omega))); (try (have i_fo := Imp.go fo (by omega))); (try (have i_t61 := Imp.go t61 (by omega))); omega)⟩))
            have bc130 : BKc V65 b gB := BKc.be bc me129.1
            have wi9 := BKc.wi bc130 (i := z58.toInt.toNat) (by have h9 := fz9.1; (first | exact om_42890675b795 hz52 pq55 rgz58 pq75 pq79 wl9 fz9 wr119 | omega))
            have at9 : (V97 84 (gr.length + 1)).toInt = ((psz (opf gB.1) (wAt gB z58.toInt.toNat) : Nat) : Int) := by rw [pat, show Int32.toNatClampNeg z58 = z58.toInt.toNat from rfl, wi9.1]; exact wi9.2.2.1.2.2.2.2.1
            have fb8 : FRc V97 gB gr.length (Fcall3 lv o c sc me ((z58.toInt.toNat : Nat) : Int) (gm 0 8) (gm 0 9)) := by rw [gl9]; exact ⟨⟨by (first | exact om_cb23ae8fe0b3 gk wr112 | omega), by (first | exact om_395e3da5ee0d wr113 | omega)⟩, ⟨by (first | exact om_cd7d0a6a31bc q69 wr114 | omega), ⟨by (first | exact om_25a0d8f2ad9d q70 pq74 wr115 | omega), by (first | exact om_1a43c7039ba9 q70 o0 pq74 wr115 wr123 | omega), by (first | exact om_07e8d8fc0ecf ra2 q70 o1 pq73 pq74 wr110 wr115 wr123 | omega)⟩, ⟨by (first | exact om_25a0d8f2ad9d q71 pq71 wr116 | omega), by (first | exact om_ef3327caed94 r2 fc q71 pq71 wr116 wr124 | omega), by (first | exact om_c5674933d51c q71 c1 pq71 wr116 wr124 | omega)⟩, ⟨by (first | exact om_cd7d0a6a31bc q72 wr117 | omega), by omega, by omega⟩⟩, ⟨by (first | exact om_cd7d0a6a31bc q73 wr118 | omega), by (first | exact om_3b6eeda82e53 q73 m0 m9 wr118 wr126 | omega), by (first | exact om_7ca5daae6e6d q73 m0 m9 wr118 wr126 | omega)⟩, by (first | exact om_483a81d5e169 rgz58 pq79 fz9 wr119 | omega), by (first | exact om_dda5088ca2d5 rh2 wr120 | omega), by (first | exact om_c30f8b808ce3 rh2 wr121 | omega)⟩
            have ft9 : FRc V97 gB (gr.length + 1) (Fwork lv o c sc me 0 ((wAt gB z58.toInt.toNat : Nat) : Int) (Int32.ofInt (fst1 (gm 0 8) (gm 0 9))) []) := ⟨⟨pk1, pk2⟩, ⟨by (first | exact om_25a0d8f2ad9d q69 wr114 wr122 | omega), ⟨by (first | exact om_6ba44aa2159d q70 pq74 wr115 wr123 | omega), by (first | exact om_1a43c7039ba9 q70 o0 pq74 wr115 wr123 | omega), by (first | exact om_07e8d8fc0ecf ra2 q70 o1 pq73 pq74 wr110 wr115 wr123 | omega)⟩, ⟨by (first | exact om_6ba44aa2159d q71 pq71 wr116 wr124 | omega), by (first | exact om_ef3327caed94 r2 fc q71 pq71 wr116 wr124 | omega), by (first | exact om_c5674933d51c q71 c1 pq71 wr116 wr124 | omega)⟩, ⟨by (first | exact om_25a0d8f2ad9d q72 wr117 wr125 | omega), by omega, by omega⟩⟩, (fun h9 => absurd h9 (by decide)), ⟨Int.natCast_nonneg _, at9⟩, pag.trans na9.symm⟩
            have rz9 : RW V97 gB (mU gm 0 6 0, ga, Fwork lv o c sc me 0 ((wAt gB z58.toInt.toNat : Nat) : Int) (Int32.ofInt (fst1 (gm 0 8) (gm 0 9))) [] :: Fcall3 lv o c sc me ((z58.toInt.toNat : Nat) : Int) (gm 0 8) (gm 0 9) :: gr) := RW.sgn rwq (ESw.ag (show agr [(4, 5), (5, 6), (5, 9)] [33, 34, 35, 67, 68, 69, 70, 71, 72, 73, 74, 75, 76, 77, 78, 79, 80, 81, 82, 83, 84, 85] V V97 from (agr.tr (agr.up (agr.up (agr.up (agr.up (agr.up agr.rf hV44 rfl) hV41 rfl) hV45 rfl) hV49 rfl) hV65 rfl) ajV97 (by decide) (by decide))) (by decide)) pd2 (fun h9 => absurd h9 (by decide)) (fun h9 => absurd h9 (by decide)) (show (V97 5 6).toInt = ((gr.length + 1 + 1 : Nat) : Int) from by (first | exact om_ea487894bae3 kdp rd rd2 pq83 pi9 pd1 | omega)) (show (V97 5 7).toInt = ((t0 : Nat) : Int) from by rw [(show agr [(4, 5), (5, 6), (5, 9)] [33, 34, 35, 67, 68, 69, 70, 71, 72, 73, 74, 75, 76, 77, 78, 79, 80, 81, 82, 83, 84, 85] V V97 from (agr.tr (agr.up (agr.up (agr.up (agr.up (agr.up agr.rf hV44 rfl) hV41 rfl) hV45 rfl) hV49 rfl) hV65 rfl) ajV97 (by decide) (by decide))) 5 7 rfl, rt9, tz9]) (RWl.push (RWl.push rl128 fb8 rfl (np9 rfl)) ft9 rfl (fun _ _ => (show (V97 85 (gr.length + 1)).toInt = ((t0 : Nat) : Int) from by rw [pba, ((up2_o hV65 (by decide)).trans ((up2_o hV49 (by decide)).trans ((up2_o hV45 (by decide)).trans ((up2_o hV41 (by decide)).trans (up2_o hV44 (by decide)))))), rt9, tz9])))
            have rx131 : RW V97 gB (stM gB (gm, ga, gfr :: gr)) := by rw [hfe, (st_6y (show gm 0 6 = 2 from by (first | exact om_147a8ac6eacb rh1 f33 | omega))).trans (rs_y fb9)]; exact rz9
            refine W.know (fun kr1 kr2 => ?_)
            refine W.widen (k := zcc Z) (n := zss Z) (Nat.sub_le _ _) (Nat.sub_le _ _) ?_
            exact W.vret hx hb hr (fun t ht hW => ⟨⟨(V97, L, Z99), rfl, ⟨hMV97, agV97, rfl, zoZ99, t101, rx131⟩, ⟨by rw [ht]; exact hP, va_K.moved hW.alike hK, hD⟩, by rw [ht]; exact kr1, by rw [ht]; exact kr2⟩, hS.F ht⟩) hS.2.2 dX5_goOnCalling_123
          · skip
            have f132 : z58.toInt = (-1) := b_eq rfl (by decide) c63
            refine lv_aload_n hx hb dX5_goOnCalling_83 rfl (lv_at hl 1 rfl) ?_
            refine lv_aload_n hx hb dX5_goOnCalling_84 rfl (lv_at hl 2 rfl) ?_
            refine va_getN (D := D) (ci := 4) (v := .int (V49 81 gf)) (fs := (xfFrame V49 gf)) (C := RX4) (T := TX4) (N := 19) hx hb hg inX4 hown hK hP (336 + gf) (xgFrame hgf) rfl 14 (by decide) (hnw.use 1203 n1203 rfl) (fun _ h9 => h9) rfl dX5_goOnCalling_85 ?_
            refine g_top (v := (V 5 11)) ((up2_o hV49 (by decide)).trans ((up2_o hV45 (by decide)).trans ((up2_o hV41 (by decide)).trans (up2_s hV44)))) ?_
            refine lv_aload_n hx hb dX5_goOnCalling_88 rfl (lv_at hl 2 rfl) ?_
            refine va_getN (D := D) (ci := 4) (v := .int (V49 82 gf)) (fs := (xfFrame V49 gf)) (C := RX4) (T := TX4) (N := 19) hx hb hg inX4 hown hK hP (336 + gf) (xgFrame hgf) rfl 15 (by decide) (hnw.use 1204 n1204 rfl) (fun _ h9 => h9) rfl dX5_goOnCalling_89 ?_
            refine g_top (v := (V 5 12)) ((up2_o hV49 (by decide)).trans ((up2_o hV45 (by decide)).trans (up2_s hV41))) ?_
            refine gA_void (gA_runV (As := [.int (V 5 11), .int (V 5 12)]) (rest := []) (ci := 5) (q0 := 5) hx hb hml hown hg hP hD hK hS hA hnw hgk (x_failWith9 l D ks H.size ad kk V49 L Z (V 5 11) (V 5 12) hMV49 ) w1261 w1263 w46 w171 w1264 rfl xgMachine hdV_yX5_failWith ⟨Nat.le_of_ble_eq_true rfl, Nat.le_of_ble_eq_true rfl⟩ rfl hl.1 rfl (Nat.le_of_ble_eq_true rfl) dX5_goOnCalling_92 ⟨z0, z0⟩) hP hD hK hS hA (fun u134 H locs w135 hP hD hK hS => ?_)
            obtain ⟨V138, L139⟩ := u134
            obtain ⟨hMV138, ajV138, axL139, t136, t137⟩ := w135
            have axL139 : L = L139 := Eq.symm axL139
            subst axL139
            replace hP : va_P D vwCl (xw ad kk V138 L Z) H := hP
            replace hD : va_D A (xw ad kk V138 L Z) := hD
            replace hMV138 : rgd bX V138 := hMV138
            replace ajV138 : agr [(5, 9), (5, 11), (5, 12)] [] V49 V138 := ajV138
            have agV138 : agr [(4, 5), (5, 6), (5, 9), (5, 11), (5, 12), (5, 13), (5, 14)] [33, 34, 35, 67, 68, 69, 70, 71, 72, 73, 74, 75, 76, 77, 78, 79, 80, 81, 82, 83, 84, 85] V V138 := agV49.tr ajV138 (by decide) (by decide)
            replace t136 : (V138 5 9).toInt = 2 := t136
            replace t137 : ((True) ∧ V138 = (up2 (up2 (up2 V49 5 9 2) 5 11 (V 5 11)) 5 12 (V 5 12))) := t137
            have r140 : 0 ≤ ((V138 5 9)).toInt ∧ ((V138 5 9)).toInt ≤ 3 := hMV138 5 9
            have hw141 := t137.2
            obtain ⟨V142, hV142⟩ : ∃ z, z = up2 V49 5 9 2 := ⟨_, rfl⟩
            obtain ⟨V143, hV143⟩ : ∃ z, z = up2 V142 5 11 (V 5 11) := ⟨_, rfl⟩
            have hV138 : V138 = up2 V143 5 12 (V 5 12) := by rw [hw141, hV143, hV142]
            refine lv_aload_n hx hb dX5_goOnCalling_95 rfl (lv_at hl 1 rfl) ?_
            have pq144 : (V138 5 6).toInt = ((V 5 6)).toInt := congrArg Int32.toInt ((up2_k hV138 (by decide)).trans ((up2_k hV143 (by decide)).trans ((up2_k hV142 (by decide)).trans ((up2_o hV49 (by decide)).trans ((up2_o hV45 (by decide)).trans ((up2_o hV41 (by decide)).trans (up2_o hV44 (by decide))))))))
            refine gA_void (gA_runV (As := []) (rest := []) (ci := 5) (q0 := 5) hx hb hml hown hg hP hD hK hS hA hnw hgk (x_leave9 l D ks H.size ad kk V138 L Z  hMV138 (show 1 ≤ (V138 5 6).toInt from by first | exact om_1c7ca45de7b6 gd r1 kdp rd rd2 sl9 pq144 | first | omega | ((try (have i_t61 := Imp.go t61 (by omega))); (try (have i_fo := Imp.go fo (by omega))); (try (have i_fo := Imp.go fo (by omega))); (try (have i_t61 := Imp.go t61 (by omega))); omega))) w1308 w1310 w50 w171 w1311 rfl xgMachine hdV_yX5_leave ⟨Nat.le_of_ble_eq_true rfl, Nat.le_of_ble_eq_true rfl⟩ rfl hl.1 rfl (Nat.le_of_ble_eq_true rfl) dX5_goOnCalling_96 ⟨z0, z0⟩) hP hD hK hS hA (fun u146 H locs w147 hP hD hK hS => ?_)
            obtain ⟨V150, L151⟩ := u146
            obtain ⟨hMV150, ajV150, axL151, t148, t149⟩ := w147
            have axL151 : L = L151 := Eq.symm axL151
            subst axL151
            replace hP : va_P D vwCl (xw ad kk V150 L Z) H := hP
            replace hD : va_D A (xw ad kk V150 L Z) := hD
            replace hMV150 : rgd bX V150 := hMV150
            replace ajV150 : agr [(5, 6)] [] V138 V150 := ajV150
            have agV150 : agr [(4, 5), (5, 6), (5, 9), (5, 11), (5, 12), (5, 13), (5, 14)] [33, 34, 35, 67, 68, 69, 70, 71, 72, 73, 74, 75, 76, 77, 78, 79, 80, 81, 82, 83, 84, 85] V V150 := agV138.tr ajV150 (by decide) (by decide)
            replace t148 : (V150 5 6).toInt = (V138 5 6).toInt - 1 := t148
            replace t149 : ((True) ∧ V150 = (up2 V138 5 6 (V138 5 6 - 1))) := t149
            have r152 : 0 ≤ ((V150 5 6)).toInt ∧ ((V150 5 6)).toInt ≤ 400 := hMV150 5 6
            have hw153 := t149.2
            obtain ⟨z154, ez154⟩ : ∃ y : Int32, y = V138 5 6 - 1 := ⟨_, rfl⟩
            have hz154 : z154.toInt = (V138 5 6).toInt - 1 := i_sub ez154 rfl (by decide) (by first | exact om_b7c63862419e gd r1 kdp rd rd2 sl9 pq144 t148 | first | omega | ((try (have i_t61 := Imp.go t61 (by omega))); (try (have i_fo := Imp.go fo (by omega))); (try (have i_fo := Imp.go fo (by omega))); (try (have i_t61 := Imp.go t61 (by omega))); omega))
            have hV150 : V150 = up2 V138 5 6 z154 := by rw [hw153, ez154]
            have me155 : ME V V150 gf := (ME.up (ME.up (ME.up (ME.up (ME.up (ME.up (ME.up (ME.up ME.rf hV44 (Or.inl ⟨by decide, by decide, Nat.le_refl _⟩)) hV41 (Or.inl ⟨by decide, by decide, Nat.le_refl _⟩)) hV45 (Or.inl ⟨by decide, by decide, Nat.le_refl _⟩)) hV49 (Or.inl ⟨by decide, by decide, Nat.le_refl _⟩)) hV142 (Or.inr (by (first | exact om_620f5006bfaa  | omega)))) hV143 (Or.inr (by (first | exact om_ded18bf8e7e5  | omega)))) hV138 (Or.inr (by (first | exact om_82aabbaa6769  | omega)))) hV150 (Or.inr (by (first | exact om_f481bd0f1cda  | omega))))
            have pq156 : (V150 67 gf).toInt = ((V 67 gf)).toInt := congrArg Int32.toInt ((up2_o hV150 (by decide)).trans ((up2_o hV138 (by decide)).trans ((up2_o hV143 (by decide)).trans ((up2_o hV142 (by decide)).trans ((up2_o hV49 (by decide)).trans ((up2_o hV45 (by decide)).trans ((up2_o hV41 (by decide)).trans (up2_o hV44 (by decide)))))))))
            have pq157 : (V150 68 gf).toInt = 3 := (congrArg Int32.toInt ((up2_o hV150 (by decide)).trans ((up2_o hV138 (by decide)).trans ((up2_o hV143 (by decide)).trans ((up2_o hV142 (by decide)).trans ((up2_o hV49 (by decide)).trans (up2_s hV45))))))).trans (by decide)
            have pq158 : (V150 70 gf).toInt = ((V 70 gf)).toInt := congrArg Int32.toInt ((up2_o hV150 (by decide)).trans ((up2_o hV138 (by decide)).trans ((up2_o hV143 (by decide)).trans ((up2_o hV142 (by decide)).trans ((up2_o hV49 (by decide)).trans ((up2_o hV45 (by decide)).trans ((up2_o hV41 (by decide)).trans (up2_o hV44 (by decide)))))))))
            have pq159 : (V150 71 gf).toInt = ((V 71 gf)).toInt := congrArg Int32.toInt ((up2_o hV150 (by decide)).trans ((up2_o hV138 (by decide)).trans ((up2_o hV143 (by decide)).trans ((up2_o hV142 (by decide)).trans ((up2_o hV49 (by decide)).trans ((up2_o hV45 (by decide)).trans ((up2_o hV41 (by decide)).trans (up2_o hV44 (by decide)))))))))
            have pq160 : (V150 75 gf).toInt = ((V 41 b)).toInt := congrArg Int32.toInt ((up2_o hV150 (by decide)).trans ((up2_o hV138 (by decide)).trans ((up2_o hV143 (by decide)).trans ((up2_o hV142 (by decide)).trans (up2_s hV49)))))
            have pq161 : (V150 76 gf).toInt = ((V 76 gf)).toInt := congrArg Int32.toInt ((up2_o hV150 (by decide)).trans ((up2_o hV138 (by decide)).trans ((up2_o hV143 (by decide)).trans ((up2_o hV142 (by decide)).trans ((up2_o hV49 (by decide)).trans ((up2_o hV45 (by decide)).trans ((up2_o hV41 (by decide)).trans (up2_o hV44 (by decide)))))))))
            have pq162 : (V150 80 gf).toInt = ((V 80 gf)).toInt := congrArg Int32.toInt ((up2_o hV150 (by decide)).trans ((up2_o hV138 (by decide)).trans ((up2_o hV143 (by decide)).trans ((up2_o hV142 (by decide)).trans ((up2_o hV49 (by decide)).trans ((up2_o hV45 (by decide)).trans ((up2_o hV41 (by decide)).trans (up2_o hV44 (by decide)))))))))
            have pq163 : (V150 84 gf).toInt = ((V 84 gf)).toInt := congrArg Int32.toInt ((up2_o hV150 (by decide)).trans ((up2_o hV138 (by decide)).trans ((up2_o hV143 (by decide)).trans ((up2_o hV142 (by decide)).trans ((up2_o hV49 (by decide)).trans ((up2_o hV45 (by decide)).trans ((up2_o hV41 (by decide)).trans (up2_o hV44 (by decide)))))))))
            have pq164 : (V150 5 6).toInt = z154.toInt := congrArg Int32.toInt (up2_s hV150)
            have pq165 : (V150 5 8).toInt = ((V 5 8)).toInt := congrArg Int32.toInt ((up2_k hV150 (by decide)).trans ((up2_k hV138 (by decide)).trans ((up2_k hV143 (by decide)).trans ((up2_k hV142 (by decide)).trans ((up2_o hV49 (by decide)).trans ((up2_o hV45 (by decide)).trans ((up2_o hV41 (by decide)).trans (up2_o hV44 (by decide)))))))))
            have pq166 : (V150 5 9).toInt = 2 := (congrArg Int32.toInt ((up2_k hV150 (by decide)).trans ((up2_k hV138 (by decide)).trans ((up2_k hV143 (by decide)).trans (up2_s hV142))))).trans (by decide)
            have pq167 : (V150 3 13).toInt = ((V 3 13)).toInt := congrArg Int32.toInt ((up2_o hV150 (by decide)).trans ((up2_o hV138 (by decide)).trans ((up2_o hV143 (by decide)).trans ((up2_o hV142 (by decide)).trans ((up2_o hV49 (by decide)).trans ((up2_o hV45 (by decide)).trans ((up2_o hV41 (by decide)).trans (up2_o hV44 (by decide)))))))))
            have pq168 : (V150 43 (5 * b + 2)).toInt = ((V 43 (5 * b + 2))).toInt := congrArg Int32.toInt ((up2_o hV150 (by decide)).trans ((up2_o hV138 (by decide)).trans ((up2_o hV143 (by decide)).trans ((up2_o hV142 (by decide)).trans ((up2_o hV49 (by decide)).trans ((up2_o hV45 (by decide)).trans ((up2_o hV41 (by decide)).trans (up2_o hV44 (by decide)))))))))
            have pq169 : (V150 42 b).toInt = ((V 42 b)).toInt := congrArg Int32.toInt ((up2_o hV150 (by decide)).trans ((up2_o hV138 (by decide)).trans ((up2_o hV143 (by decide)).trans ((up2_o hV142 (by decide)).trans ((up2_o hV49 (by decide)).trans ((up2_o hV45 (by decide)).trans ((up2_o hV41 (by decide)).trans (up2_o hV44 (by decide)))))))))
            have pq170 : (V150 41 b).toInt = ((V 41 b)).toInt := congrArg Int32.toInt ((up2_o hV150 (by decide)).trans ((up2_o hV138 (by decide)).trans ((up2_o hV143 (by decide)).trans ((up2_o hV142 (by decide)).trans ((up2_o hV49 (by decide)).trans ((up2_o hV45 (by decide)).trans ((up2_o hV41 (by decide)).trans (up2_o hV44 (by decide)))))))))
            have rp171 : MJ V150 Z b := MP.lv (MO.mp mo) me155 (by (first | exact om_0e41a66fda65 gd kdp rd rd2 pq144 t148 | omega)) (fun _ => Or.inl (by (first | exact om_7ff4e10da701 gk | omega)))
            have rh2 : (V 5 11).toInt = gm 0 8 ∧ (V 5 12).toInt = gm 0 9 := rh.2.2.1 (show gm 0 6 = 2 from by (first | exact om_147a8ac6eacb rh1 f33 | omega))
            have me172 : ME V V49 0 := (ME.up (ME.up (ME.up (ME.up ME.rf hV44 (Or.inl ⟨by decide, by decide, by first | exact om_6a0a06d34f0c gd r1 kdp rd rd2 sl9 pq144 t148 hz154 | first | omega | ((try (have i_t61 := Imp.go t61 (by omega))); (try (have i_fo := Imp.go fo (by omega))); (try (have i_fo := Imp.go fo (by omega))); (try (have i_t61 := Imp.go t61 (by omega))); omega)⟩)) hV41 (Or.inl ⟨by decide, by decide, by first | exact om_6a0a06d34f0c gd r1 kdp rd rd2 sl9 pq144 t148 hz154 | first | omega | ((try (have i_t61 := Imp.go t61 (by omega))); (try (have i_fo := Imp.go fo (by omega))); (try (have i_fo := Imp.go fo (by omega))); (try (have i_t61 := Imp.go t61 (by omega))); omega)⟩)) hV45 (Or.inl ⟨by decide, by decide, by first | exact om_6a0a06d34f0c gd r1 kdp rd rd2 sl9 pq144 t148 hz154 | first | omega | ((try (have i_t61 := Imp.go t61 (by omega))); (try (have i_fo := Imp.go fo (by omega))); (try (have i_fo := Imp.go fo (by omega))); (try (have i_t61 := Imp.go t61 (by omega))); omega)⟩)) hV49 (Or.inl ⟨by decide, by decide, by first | exact om_6a0a06d34f0c gd r1 kdp rd rd2 sl9 pq144 t148 hz154 | first | omega | ((try (have i_t61 := Imp.go t61 (by omega))); (try (have i_fo := Imp.go fo (by omega))); (try (have i_fo := Imp.go fo (by omega))); (try (have i_t61 := Imp.go t61 (by omega))); omega)⟩))
            have bc173 : BKc V49 b gB := BKc.be bc me172.1
            have pq9 : Int32.toNatClampNeg (V 71 gf) = c.toNat := by have h9 := i_clamp (x := (V 71 gf)) rfl (by (first | exact om_c486a88bcb1e r2 fc q71 pq159 | omega)); (first | exact om_043ed8ee8a8a kc9 | omega)
            have wl9 := (BKc.wl bc173).2.2
            have fe9 : ∀ j : Nat, FWo V49 b j (Int32.toInt 3) (Int32.toNatClampNeg (V 71 gf)) ((V 73 gf)).toInt = FWo V49 b j ((3 : Nat) : Int) c.toNat ((me.toNat : Nat) : Int) := fun j => by rw [pq9, show Int32.toInt 3 = ((3 : Nat) : Int) from by decide, show ((V 73 gf)).toInt = ((me.toNat : Nat) : Int) from by (first | exact om_10771063345f q73 m0 m9 | omega)]
            have fz9 := t62.resolve_right (fun h8 => by have h7 := h8.1.1; (first | exact om_8bc3fb5ac8e9 f132 h8 | omega))
            have fb9 : fB (bW gB) (isF gB 3 c.toNat me.toNat) (wN gB) = none := BKc.fBn bc173 cn9 (by have h9 := fz9.1; (first | exact om_36cf446a3c95  | omega)) (fun j9 h1 => by rw [← fe9]; exact fz9.2 j9 (by (first | exact om_945eb7cb8b35 hz52 pq55 pq160 pq170 wl9 h1 | omega)))
            have pq174 : (V150 5 11).toInt = ((V 5 11)).toInt := congrArg Int32.toInt ((up2_k hV150 (by decide)).trans ((up2_k hV138 (by decide)).trans (up2_s hV143)))
            have pq175 : (V150 5 12).toInt = ((V 5 12)).toInt := congrArg Int32.toInt ((up2_k hV150 (by decide)).trans (up2_s hV138))
            have me176 : ME V V150 gf := (ME.up (ME.up (ME.up (ME.up (ME.up (ME.up (ME.up (ME.up ME.rf hV44 (Or.inl ⟨by decide, by decide, Nat.le_refl _⟩)) hV41 (Or.inl ⟨by decide, by decide, Nat.le_refl _⟩)) hV45 (Or.inl ⟨by decide, by decide, Nat.le_refl _⟩)) hV49 (Or.inl ⟨by decide, by decide, Nat.le_refl _⟩)) hV142 (Or.inr (by (first | exact om_620f5006bfaa  | omega)))) hV143 (Or.inr (by (first | exact om_ded18bf8e7e5  | omega)))) hV138 (Or.inr (by (first | exact om_82aabbaa6769  | omega)))) hV150 (Or.inr (by (first | exact om_f481bd0f1cda  | omega))))
            have rl177 : RWl V150 gB gr t0 := RWl.mv hlr (fun i9 hi9 c9 h1 h2 => me176.2.1 c9 i9 h1 h2 (by (first | exact om_102b9d22baee gd kdp rd rd2 pq144 t148 hz154 hi9 | omega))) (fun j9 hj9 => ((up2_o hV150 (by decide)).trans ((up2_o hV138 (by decide)).trans ((up2_o hV143 (by decide)).trans ((up2_o hV142 (by decide)).trans ((up2_o hV49 (by decide)).trans ((up2_o hV45 (by decide)).trans ((up2_o hV41 (by decide)).trans (up2_o hV44 (by decide)))))))))) (by rw [((up2_o hV150 (by decide)).trans ((up2_o hV138 (by decide)).trans ((up2_o hV143 (by decide)).trans ((up2_o hV142 (by decide)).trans ((up2_o hV49 (by decide)).trans ((up2_o hV45 (by decide)).trans ((up2_o hV41 (by decide)).trans (up2_o hV44 (by decide)))))))))]; exact Int.le_refl _) ((up2_o hV150 (by decide)).trans ((up2_o hV138 (by decide)).trans ((up2_o hV143 (by decide)).trans ((up2_o hV142 (by decide)).trans ((up2_o hV49 (by decide)).trans ((up2_o hV45 (by decide)).trans ((up2_o hV41 (by decide)).trans (up2_o hV44 (by decide)))))))))
            have pq178 : (V150 5 7).toInt = ((V 5 7)).toInt := congrArg Int32.toInt ((up2_k hV150 (by decide)).trans ((up2_k hV138 (by decide)).trans ((up2_k hV143 (by decide)).trans ((up2_k hV142 (by decide)).trans ((up2_o hV49 (by decide)).trans ((up2_o hV45 (by decide)).trans ((up2_o hV41 (by decide)).trans (up2_o hV44 (by decide)))))))))
            have r179 : 0 ≤ ((V 5 7)).toInt ∧ ((V 5 7)).toInt ≤ 2048 := hMV 5 7
            have rz9 : RW V150 gB (mU (mU (mU gm 0 6 2) 0 8 (gm 0 8)) 0 9 (gm 0 9), ga, gr) := RW.fl rwq (ESw.ag (show agr [(5, 6), (5, 9), (5, 11), (5, 12)] [68, 75, 81, 82] V V150 from (agr.up (agr.up (agr.up (agr.up (agr.up (agr.up (agr.up (agr.up agr.rf hV44 rfl) hV41 rfl) hV45 rfl) hV49 rfl) hV142 rfl) hV143 rfl) hV138 rfl) hV150 rfl)) (by decide)) (by (first | exact om_6aa5e6f8c558 pq166 | omega)) (by (first | exact om_dda5088ca2d5 rh2 pq174 | omega)) (by (first | exact om_c30f8b808ce3 rh2 pq175 | omega)) (show (V150 5 6).toInt = ((gr.length : Nat) : Int) from by (first | exact om_0893762427d8 kdp rd rd2 pq144 t148 | omega)) (show (V150 5 7).toInt = ((t0 : Nat) : Int) from by rw [((up2_k hV150 (by decide)).trans ((up2_k hV138 (by decide)).trans ((up2_k hV143 (by decide)).trans ((up2_k hV142 (by decide)).trans ((up2_o hV49 (by decide)).trans ((up2_o hV45 (by decide)).trans ((up2_o hV41 (by decide)).trans (up2_o hV44 (by decide))))))))), rt9, tz9]) rl177
            have rx180 : RW V150 gB (stM gB (gm, ga, gfr :: gr)) := by rw [hfe, (st_6y (show gm 0 6 = 2 from by (first | exact om_147a8ac6eacb rh1 f33 | omega))).trans (rs_n fb9)]; exact rz9
            refine W.know (fun kr1 kr2 => ?_)
            refine W.widen (k := zcc Z) (n := zss Z) (Nat.sub_le _ _) (Nat.sub_le _ _) ?_
            exact W.vret hx hb hr (fun t ht hW => ⟨⟨(V150, L, Z), rfl, ⟨hMV150, agV150, rfl, zoZ, rp171, rx180⟩, ⟨by rw [ht]; exact hP, va_K.moved hW.alike hK, hD⟩, by rw [ht]; exact kr1, by rw [ht]; exact kr2⟩, hS.F ht⟩) hS.2.2 dX5_goOnCalling_99
      · skip
        have f181 : ((V 5 9)).toInt ≠ 2 := b_neq rfl (by decide) c32
        refine lv_aload_n hx hb dX5_goOnCalling_21 rfl (lv_at hl 0 rfl) ?_
        refine gA_void (gA_runV (As := []) (rest := []) (ci := 5) (q0 := 5) hx hb hml hown hg hP hD hK hS hA hnw hgk (x_leave9 l D ks H.size ad kk V L Z  hMV (show 1 ≤ (V 5 6).toInt from by first | exact om_fbce9464733e gd r1 kdp rd rd2 sl9 | first | omega | ((try (have i_fo := Imp.go fo (by omega))); omega))) w1308 w1310 w50 w171 w1311 rfl xgMachine hdV_yX5_leave ⟨Nat.le_of_ble_eq_true rfl, Nat.le_of_ble_eq_true rfl⟩ rfl hl.1 rfl (Nat.le_of_ble_eq_true rfl) dX5_goOnCalling_22 ⟨z0, z0⟩) hP hD hK hS hA (fun u183 H locs w184 hP hD hK hS => ?_)
        obtain ⟨V187, L188⟩ := u183
        obtain ⟨hMV187, ajV187, axL188, t185, t186⟩ := w184
        have axL188 : L = L188 := Eq.symm axL188
        subst axL188
        replace hP : va_P D vwCl (xw ad kk V187 L Z) H := hP
        replace hD : va_D A (xw ad kk V187 L Z) := hD
        replace hMV187 : rgd bX V187 := hMV187
        replace ajV187 : agr [(5, 6)] [] V V187 := ajV187
        have agV187 : agr [(4, 5), (5, 6), (5, 9), (5, 11), (5, 12), (5, 13), (5, 14)] [33, 34, 35, 67, 68, 69, 70, 71, 72, 73, 74, 75, 76, 77, 78, 79, 80, 81, 82, 83, 84, 85] V V187 := agV.tr ajV187 (by decide) (by decide)
        replace t185 : (V187 5 6).toInt = (V 5 6).toInt - 1 := t185
        replace t186 : ((True) ∧ V187 = (up2 V 5 6 (V 5 6 - 1))) := t186
        have r189 : 0 ≤ ((V187 5 6)).toInt ∧ ((V187 5 6)).toInt ≤ 400 := hMV187 5 6
        have hw190 := t186.2
        obtain ⟨z191, ez191⟩ : ∃ y : Int32, y = V 5 6 - 1 := ⟨_, rfl⟩
        have hz191 : z191.toInt = (V 5 6).toInt - 1 := i_sub ez191 rfl (by decide) (by first | exact om_569d6dea5446 gd r1 kdp rd rd2 sl9 t185 | first | omega | ((try (have i_fo := Imp.go fo (by omega))); omega))
        have hV187 : V187 = up2 V 5 6 z191 := by rw [hw190, ez191]
        have me192 : ME V V187 gf := (ME.up ME.rf hV187 (Or.inr (by (first | exact om_f481bd0f1cda  | omega))))
        have pq193 : (V187 67 gf).toInt = ((V 67 gf)).toInt := congrArg Int32.toInt (up2_o hV187 (by decide))
        have pq194 : (V187 68 gf).toInt = ((V 68 gf)).toInt := congrArg Int32.toInt (up2_o hV187 (by decide))
        have pq195 : (V187 70 gf).toInt = ((V 70 gf)).toInt := congrArg Int32.toInt (up2_o hV187 (by decide))
        have pq196 : (V187 71 gf).toInt = ((V 71 gf)).toInt := congrArg Int32.toInt (up2_o hV187 (by decide))
        have pq197 : (V187 75 gf).toInt = ((V 75 gf)).toInt := congrArg Int32.toInt (up2_o hV187 (by decide))
        have pq198 : (V187 76 gf).toInt = ((V 76 gf)).toInt := congrArg Int32.toInt (up2_o hV187 (by decide))
        have pq199 : (V187 80 gf).toInt = ((V 80 gf)).toInt := congrArg Int32.toInt (up2_o hV187 (by decide))
        have pq200 : (V187 84 gf).toInt = ((V 84 gf)).toInt := congrArg Int32.toInt (up2_o hV187 (by decide))
        have pq201 : (V187 5 6).toInt = z191.toInt := congrArg Int32.toInt (up2_s hV187)
        have pq202 : (V187 5 8).toInt = ((V 5 8)).toInt := congrArg Int32.toInt (up2_k hV187 (by decide))
        have pq203 : (V187 5 9).toInt = ((V 5 9)).toInt := congrArg Int32.toInt (up2_k hV187 (by decide))
        have pq204 : (V187 3 13).toInt = ((V 3 13)).toInt := congrArg Int32.toInt (up2_o hV187 (by decide))
        have pq205 : (V187 43 (5 * b + 2)).toInt = ((V 43 (5 * b + 2))).toInt := congrArg Int32.toInt (up2_o hV187 (by decide))
        have pq206 : (V187 42 b).toInt = ((V 42 b)).toInt := congrArg Int32.toInt (up2_o hV187 (by decide))
        have pq207 : (V187 41 b).toInt = ((V 41 b)).toInt := congrArg Int32.toInt (up2_o hV187 (by decide))
        have rp208 : MJ V187 Z b := MP.lv (MO.mp mo) me192 (by (first | exact om_f05d20b261b8 gd kdp rd rd2 t185 | omega)) (fun _ => Or.inl (by (first | exact om_7ff4e10da701 gk | omega)))
        have me209 : ME V V187 gf := (ME.up ME.rf hV187 (Or.inr (by (first | exact om_f481bd0f1cda  | omega))))
        have rl210 : RWl V187 gB gr t0 := RWl.mv hlr (fun i9 hi9 c9 h1 h2 => me209.2.1 c9 i9 h1 h2 (by (first | exact om_7c66f1035df4 gd kdp rd rd2 t185 hz191 hi9 | omega))) (fun j9 hj9 => (up2_o hV187 (by decide))) (by rw [(up2_o hV187 (by decide))]; exact Int.le_refl _) (up2_o hV187 (by decide))
        have pq211 : (V187 5 7).toInt = ((V 5 7)).toInt := congrArg Int32.toInt (up2_k hV187 (by decide))
        have r212 : 0 ≤ ((V 5 7)).toInt ∧ ((V 5 7)).toInt ≤ 2048 := hMV 5 7
        have pq213 : (V187 5 11).toInt = ((V 5 11)).toInt := congrArg Int32.toInt (up2_k hV187 (by decide))
        have pq214 : (V187 5 12).toInt = ((V 5 12)).toInt := congrArg Int32.toInt (up2_k hV187 (by decide))
        have rz9 : RW V187 gB (gm, ga, gr) := RW.id rwq (ESw.ag (show agr [(5, 6)] [] V V187 from (agr.up agr.rf hV187 rfl)) (by decide)) (up2_k hV187 (by decide)) (up2_k hV187 (by decide)) (up2_k hV187 (by decide)) (up2_k hV187 (by decide)) (show (V187 5 6).toInt = ((gr.length : Nat) : Int) from by (first | exact om_39a5f16dc1cc kdp rd rd2 t185 | omega)) (show (V187 5 7).toInt = ((t0 : Nat) : Int) from by rw [(up2_k hV187 (by decide)), rt9, tz9]) rl210
        have rx215 : RW V187 gB (stM gB (gm, ga, gfr :: gr)) := by rw [hfe, st_6n (by rw [← rh1]; (first | exact om_d0a5802f4b36 rh1 f181 pq203 | omega))]; exact rz9
        refine W.know (fun kr1 kr2 => ?_)
        refine W.widen (k := zcc Z) (n := zss Z) (Nat.sub_le _ _) (Nat.sub_le _ _) ?_
        exact W.vret hx hb hr (fun t ht hW => ⟨⟨(V187, L, Z), rfl, ⟨hMV187, agV187, rfl, zoZ, rp208, rx215⟩, ⟨by rw [ht]; exact hP, va_K.moved hW.alike hK, hD⟩, by rw [ht]; exact kr1, by rw [ht]; exact kr2⟩, hS.F ht⟩) hS.2.2 dX5_goOnCalling_25
    · skip
      have f216 : ((V 68 gf)).toInt = 0 := b_eq rfl (by decide) c30
      exfalso; first | exact om_495ee03a60ae k68 f216 | first | omega | ((try (have i_fo := Imp.go fo (by omega))); omega)
  · skip
    have hf : FRc V gB gf (Fcall3 lv o c sc me ps nd fl) := by rw [← hfe]; exact hf0
    have tl8 : tw9 = t0 + (Fcall3 lv o c sc me ps nd fl : Fr).2.2.2.length := by rw [← hfe]; exact tl9
    obtain ⟨⟨k67, k68⟩, hoc, ⟨q73, m0, m9⟩, q75, q81, q82⟩ := hf
    obtain ⟨q69, ⟨q70, o0, o1⟩, ⟨q71, c0, c1⟩, ⟨q72, s0, s1⟩⟩ := hoc
    have cn9 : c.toNat < nC gB := by (first | exact om_51a08a25bfb6 r2 fc q71 c1 | omega)
    have kc9 : Int32.toNatClampNeg (V 71 gf) = c.toNat := by have h9 := i_clamp (x := V 71 gf) rfl (by (first | exact om_762d7ad45f4b r2 fc q71 | omega)); (first | exact om_57d2b76748c0 r2 fc q71 h9 | omega)
    have tz9 : tw9 = t0 := tl8
    refine lv_aload_n hx hb dX5_goOnCalling_0 rfl (lv_at hl 1 rfl) ?_
    refine va_getN (D := D) (ci := 4) (v := .int (V 68 gf)) (fs := (xfFrame V gf)) (C := RX4) (T := TX4) (N := 19) hx hb hg inX4 hown hK hP (336 + gf) (xgFrame hgf) rfl 1 (by decide) (hnw.use 1190 n1190 rfl) (fun _ h9 => h9) rfl dX5_goOnCalling_1 ?_
    refine lv_if_ne (tgt := 13) hx hb dX5_goOnCalling_4 (by decide) (fun c217 => ?_) (fun c217 => ?_)
    · skip
      have f218 : ((V 68 gf)).toInt ≠ 0 := b_neq rfl (by decide) c217
      refine lv_aload_n hx hb dX5_goOnCalling_13 rfl (lv_at hl 0 rfl) ?_
      refine va_get (D := D) (ci := 5) (v := .int (V 5 9)) (fs := (xfMachine ad V L Z)) (C := RX5) (T := TX5) (N := 15) hx hb hg inX5 hown hK hP 5 xgMachine rfl 9 (by decide) (hg _ w676) (fun _ h9 => h9) rfl dX5_goOnCalling_14 ?_
      refine lv_iconst (v := 2) hx hb dX5_goOnCalling_17 (by decide) ?_
      refine lv_icmp_eq (tgt := 26) hx hb dX5_goOnCalling_18 (by decide) (fun c219 => ?_) (fun c219 => ?_)
      · skip
        have f220 : ((V 5 9)).toInt = 2 := b_eq rfl (by decide) c219
        refine lv_aload_n hx hb dX5_goOnCalling_26 rfl (lv_at hl 1 rfl) ?_
        refine va_getN (D := D) (ci := 4) (v := .int (V 68 gf)) (fs := (xfFrame V gf)) (C := RX4) (T := TX4) (N := 19) hx hb hg inX4 hown hK hP (336 + gf) (xgFrame hgf) rfl 1 (by decide) (hnw.use 1190 n1190 rfl) (fun _ h9 => h9) rfl dX5_goOnCalling_27 ?_
        refine lv_iconst (v := 1) hx hb dX5_goOnCalling_30 (by decide) ?_
        refine lv_icmp_ne (tgt := 55) hx hb dX5_goOnCalling_31 (by decide) (fun c221 => ?_) (fun c221 => ?_)
        · skip
          have f222 : ((V 68 gf)).toInt ≠ 1 := b_neq rfl (by decide) c221
          refine lv_aload_n hx hb dX5_goOnCalling_55 rfl (lv_at hl 0 rfl) ?_
          refine va_get (D := D) (ci := 5) (v := .ref (ad (38 + Int32.toNatClampNeg (V 5 5)))) (fs := (xfMachine ad V L Z)) (C := RX5) (T := TX5) (N := 15) hx hb hg inX5 hown hK hP 5 xgMachine rfl 5 (by decide) (hg _ w672) (fun _ h9 => h9) rfl dX5_goOnCalling_56 ?_
          have r223 : 0 ≤ ((V 5 5)).toInt ∧ ((V 5 5)).toInt ≤ 1 := hMV 5 5
          refine g_topv (v := .ref (ad (38 + b))) (rfP (by first | exact om_c62f5505ba8e mup | first | omega | ((try (have i_fo := Imp.go fo (by omega))); omega))) ?_
          refine lv_aload_n hx hb dX5_goOnCalling_59 rfl (lv_at hl 1 rfl) ?_
          refine va_getN (D := D) (ci := 4) (v := .int (V 75 gf)) (fs := (xfFrame V gf)) (C := RX4) (T := TX4) (N := 19) hx hb hg inX4 hown hK hP (336 + gf) (xgFrame hgf) rfl 8 (by decide) (hnw.use 1197 n1197 rfl) (fun _ h9 => h9) rfl dX5_goOnCalling_60 ?_
          refine lv_iconst (v := 1) hx hb dX5_goOnCalling_63 (by decide) ?_
          refine lv_isub hx hb dX5_goOnCalling_64 ?_
          refine lv_topi (fun z224 ez224 => ?_)
          have hz224 : z224.toInt = ((V 75 gf)).toInt - 1 := i_sub ez224 rfl (by decide) (by (first | exact om_5c9022d646bb r3 q75 | omega))
          refine lv_iconst (v := 3) hx hb dX5_goOnCalling_65 (by decide) ?_
          refine lv_aload_n hx hb dX5_goOnCalling_66 rfl (lv_at hl 1 rfl) ?_
          refine va_getN (D := D) (ci := 4) (v := .int (V 71 gf)) (fs := (xfFrame V gf)) (C := RX4) (T := TX4) (N := 19) hx hb hg inX4 hown hK hP (336 + gf) (xgFrame hgf) rfl 4 (by decide) (hnw.use 1193 n1193 rfl) (fun _ h9 => h9) rfl dX5_goOnCalling_67 ?_
          refine lv_aload_n hx hb dX5_goOnCalling_70 rfl (lv_at hl 1 rfl) ?_
          refine va_getN (D := D) (ci := 4) (v := .int (V 73 gf)) (fs := (xfFrame V gf)) (C := RX4) (T := TX4) (N := 19) hx hb hg inX4 hown hK hP (336 + gf) (xgFrame hgf) rfl 6 (by decide) (hnw.use 1195 n1195 rfl) (fun _ h9 => h9) rfl dX5_goOnCalling_71 ?_
          have r225 : 0 ≤ ((V 73 gf)).toInt ∧ ((V 73 gf)).toInt ≤ 19 := hMV 73 gf
          have r226 : Int32.toInt 3 = 3 := by decide
          refine gA_int (gA_runV (As := [.int z224, .int 3, .int (V 71 gf), .int (V 73 gf)]) (rest := []) (ci := 0) (q0 := (38 + b)) hx hb hml hown hg hP hD hK hS hA hnw hgk (x_wrapBackFrom9 l D ks H.size ad kk V L Z z224 3 (V 71 gf) (V 73 gf) (b) hMV (by first | exact om_16b4ed23d7c5 r3 q75 hz224 | first | omega | ((try (have i_fo := Imp.go fo (by omega))); omega)) (by first | exact om_7ee2e48c2283 r2 fc q71 | first | omega | ((try (have i_fo := Imp.go fo (by omega))); omega)) (show b < 2 from by first | exact om_289974d36c9f hb2 mup | first | omega | ((try (have i_fo := Imp.go fo (by omega))); omega)) (show z224.toInt < (V 41 b).toInt from by first | exact om_e23f200c2ed0 fp hbs9 k68 q75 f218 f222 hz224 | first | omega | ((try (have i_fo := Imp.go fo (by omega))); omega)) (fun i9 hi9 => by have w9 := BKc.wi bc (i := i9) (by have := (BKc.wl bc).2.2.2; omega); rw [w9.1]; have w8 := w9.2.2.1.1; have w7 := w9.2.2.2.2; exact ⟨by (first | exact om_c9a0220d2423 w9 w8 | omega), by (first | exact om_e31d9712f333 w9 w8 | omega)⟩)) w1392 w1393 w1394 w167 w1395 rfl (xgBook hb2) hdV_yX0_wrapBackFrom ⟨Nat.le_of_ble_eq_true rfl, Nat.le_of_ble_eq_true rfl⟩ rfl hl.1 rfl (Nat.le_of_ble_eq_true rfl) dX5_goOnCalling_74 ⟨z0, z0⟩) hP hD hK hS hA (fun z227 u228 H locs w229 hP hD hK hS => ?_)
          obtain ⟨rgz227, t230, t231⟩ := w229
          replace rgz227 : (-1) ≤ z227.toInt ∧ z227.toInt ≤ 11 := rgz227
          replace t230 : Imp (0 ≤ z227.toInt) (z227.toInt < (V 41 b).toInt) := t230
          replace t231 : ((z227.toInt = -1 ∧ z224.toInt < (V 41 b).toInt) ∧ ∀ i : Nat, (i : Int) ≤ z224.toInt → ¬ FWo V b i (Int32.toInt 3) (Int32.toNatClampNeg (V 71 gf)) ((V 73 gf)).toInt) ∨ ((0 ≤ z227.toInt ∧ z227.toInt ≤ z224.toInt ∧ z224.toInt < (V 41 b).toInt) ∧ FWo V b z227.toInt.toNat (Int32.toInt 3) (Int32.toNatClampNeg (V 71 gf)) ((V 73 gf)).toInt ∧ ∀ i : Nat, z227.toInt < (i : Int) → (i : Int) ≤ z224.toInt → ¬ FWo V b i (Int32.toInt 3) (Int32.toNatClampNeg (V 71 gf)) ((V 73 gf)).toInt) := t231
          refine lv_istore_n (lv' := [(2, .int z227), (0, .ref (ad 5)), (1, .ref (Z.fa gf))]) hx hb dX5_goOnCalling_77 rfl hl (by decide) rfl (fun ls hl => ?_)
          refine lv_iload_n hx hb dX5_goOnCalling_78 rfl (lv_at hl 0 rfl) ?_
          refine lv_iconst (v := (-1)) hx hb dX5_goOnCalling_79 (by decide) ?_
          refine lv_icmp_ne (tgt := 100) hx hb dX5_goOnCalling_80 (by decide) (fun c232 => ?_) (fun c232 => ?_)
          · skip
            have f233 : z227.toInt ≠ (-1) := b_neq rfl (by decide) c232
            refine lv_aload_n hx hb dX5_goOnCalling_100 rfl (lv_at hl 2 rfl) ?_
            refine lv_iload_n hx hb dX5_goOnCalling_101 rfl (lv_at hl 0 rfl) ?_
            refine va_putN (D := D) (ci := 4) (v := .int z227) (ty := tyX4 8) (fs := (xfFrame V gf)) (C := RX4) (T := TX4) (N := 19) hx hb hg inX4 tyX4 tyX4_ok nmX4 hown hK hP hD hS (336 + gf) (xgFrame hgf) rfl 8 (by decide) (hnw.use 1197 n1197 rfl) (fun _ h9 => h9) rfl (tyX4_ok 8 (by decide)) rfl rfl (Nat.le_of_ble_eq_true rfl) dX5_goOnCalling_102 (fun H locs hP hD hS => ?_)
            obtain ⟨V234, hV234⟩ : ∃ z, z = up2 V 75 gf z227 := ⟨_, rfl⟩
            have ew235 : (xw ad kk V L Z).set (336 + gf) ((Z.fa gf), .inr (4, (xfFrame V gf).set 8 (.int z227))) = xw ad kk V234 L Z := by rw [hV234]; exact xpFrame_position hgf
            have hP : va_P D vwCl (xw ad kk V234 L Z) H := by rw [← ew235]; exact hP
            have hD : va_D A (xw ad kk V234 L Z) := by rw [← ew235]; exact hD
            have hMV234 : rgd bX V234 := hMV.put hV234 (show 0 ≤ z227.toInt ∧ z227.toInt ≤ 12 from by first | exact om_4bf42d7c603a rgz227 f233 | first | omega | ((try (have i_t230 := Imp.go t230 (by omega))); (try (have i_fo := Imp.go fo (by omega))); (try (have i_fo := Imp.go fo (by omega))); (try (have i_t230 := Imp.go t230 (by omega))); omega))
            have agV234 : agr [(4, 5), (5, 6), (5, 9), (5, 11), (5, 12), (5, 13), (5, 14)] [33, 34, 35, 67, 68, 69, 70, 71, 72, 73, 74, 75, 76, 77, 78, 79, 80, 81, 82, 83, 84, 85] V V234 := agV.up hV234 rfl
            refine lv_aload_n hx hb dX5_goOnCalling_105 rfl (lv_at hl 1 rfl) ?_
            refine lv_aload_n hx hb dX5_goOnCalling_106 rfl (lv_at hl 2 rfl) ?_
            refine lv_iload_n hx hb dX5_goOnCalling_107 rfl (lv_at hl 0 rfl) ?_
            refine lv_aload_n hx hb dX5_goOnCalling_108 rfl (lv_at hl 2 rfl) ?_
            refine va_getN (D := D) (ci := 4) (v := .int (V234 81 gf)) (fs := (xfFrame V234 gf)) (C := RX4) (T := TX4) (N := 19) hx hb hg inX4 hown hK hP (336 + gf) (xgFrame hgf) rfl 14 (by decide) (hnw.use 1203 n1203 rfl) (fun _ h9 => h9) rfl dX5_goOnCalling_109 ?_
            refine g_top (v := (V 81 gf)) (up2_o hV234 (by decide)) ?_
            refine lv_aload_n hx hb dX5_goOnCalling_112 rfl (lv_at hl 2 rfl) ?_
            refine va_getN (D := D) (ci := 4) (v := .int (V234 82 gf)) (fs := (xfFrame V234 gf)) (C := RX4) (T := TX4) (N := 19) hx hb hg inX4 hown hK hP (336 + gf) (xgFrame hgf) rfl 15 (by decide) (hnw.use 1204 n1204 rfl) (fun _ h9 => h9) rfl dX5_goOnCalling_113 ?_
            refine g_top (v := (V 82 gf)) (up2_o hV234 (by decide)) ?_
            refine gE_int (g_runS (As := [.int (V 81 gf), .int (V 82 gf)]) (rest := [.int z227, .ref (Z.fa gf), .ref (ad 5)]) (wc := []) (tc := []) hx hb hml hown hg gw_self hP hD hK hS hA hnw hgk [] [] (by decide) rfl rfl (x_firstKind9 l D ks H.size (V 81 gf) (V 82 gf) ) w1400 w1401 w171 w1402 hdS_yX5_firstKind ⟨Nat.le_of_ble_eq_true rfl, Nat.le_of_ble_eq_true rfl⟩ rfl hl.1 rfl (Nat.le_of_ble_eq_true rfl) dX5_goOnCalling_116 ⟨z0, z0⟩) hP hD hK hS hA (fun z236 u237 H locs w238 hP hD hK hS => ?_)
            have t239 := w238
            replace t239 : (0 < ((V 81 gf)).toInt ∧ z236.toInt = 20) ∨ (((V 81 gf)).toInt ≤ 0 ∧ z236.toInt = ((V 82 gf)).toInt) := t239
            have pq240 : (V234 71 gf).toInt = ((V 71 gf)).toInt := congrArg Int32.toInt (up2_o hV234 (by decide))
            have pq241 : (V234 43 (5 * b + 2)).toInt = ((V 43 (5 * b + 2))).toInt := congrArg Int32.toInt (up2_o hV234 (by decide))
            have pq242 : (V234 3 13).toInt = ((V 3 13)).toInt := congrArg Int32.toInt (up2_o hV234 (by decide))
            have pq243 : (V234 70 gf).toInt = ((V 70 gf)).toInt := congrArg Int32.toInt (up2_o hV234 (by decide))
            have pq244 : (V234 41 b).toInt = ((V 41 b)).toInt := congrArg Int32.toInt (up2_o hV234 (by decide))
            have me245 : ME V V234 gf := (ME.up ME.rf hV234 (Or.inl ⟨by decide, by decide, Nat.le_refl _⟩))
            have pq246 : (V234 67 gf).toInt = ((V 67 gf)).toInt := congrArg Int32.toInt (up2_o hV234 (by decide))
            have pq247 : (V234 68 gf).toInt = ((V 68 gf)).toInt := congrArg Int32.toInt (up2_o hV234 (by decide))
            have pq248 : (V234 75 gf).toInt = z227.toInt := congrArg Int32.toInt (up2_s hV234)
            have pq249 : (V234 76 gf).toInt = ((V 76 gf)).toInt := congrArg Int32.toInt (up2_o hV234 (by decide))
            have pq250 : (V234 80 gf).toInt = ((V 80 gf)).toInt := congrArg Int32.toInt (up2_o hV234 (by decide))
            have pq251 : (V234 84 gf).toInt = ((V 84 gf)).toInt := congrArg Int32.toInt (up2_o hV234 (by decide))
            have pq252 : (V234 5 6).toInt = ((V 5 6)).toInt := congrArg Int32.toInt (up2_o hV234 (by decide))
            have pq253 : (V234 5 8).toInt = ((V 5 8)).toInt := congrArg Int32.toInt (up2_o hV234 (by decide))
            have pq254 : (V234 5 9).toInt = ((V 5 9)).toInt := congrArg Int32.toInt (up2_o hV234 (by decide))
            have pq255 : (V234 42 b).toInt = ((V 42 b)).toInt := congrArg Int32.toInt (up2_o hV234 (by decide))
            have mo256 : MO V234 Z b gf True True True := MO.ch mo me245 (up2_o hV234 (by decide)) (up2_o hV234 (by decide)) (fun _ => Or.inl (by (first | exact om_7ff4e10da701 gk | omega))) (fun x h => FK.k2 (by first | exact om_cb23ae8fe0b3 gk pq246 | first | omega | ((try (have i_t230 := Imp.go t230 (by omega))); (try (have i_fo := Imp.go fo (by omega))); (try (have i_fo := Imp.go fo (by omega))); (try (have i_t230 := Imp.go t230 (by omega))); omega)) (by first | exact om_fe4c0070b215 r2 fc q71 pq240 pq241 | first | omega | ((try (have i_t230 := Imp.go t230 (by omega))); (try (have i_fo := Imp.go fo (by omega))); (try (have i_fo := Imp.go fo (by omega))); (try (have i_t230 := Imp.go t230 (by omega))); omega)) (by first | exact om_f8892d8d71be ra2 q70 o0 o1 pq242 pq243 | first | omega | ((try (have i_t230 := Imp.go t230 (by omega))); (try (have i_fo := Imp.go fo (by omega))); (try (have i_fo := Imp.go fo (by omega))); (try (have i_t230 := Imp.go t230 (by omega))); omega)) (by first | exact om_bc5c9e3bab41 k68 q81 rgz227 t231 f233 w238 t239 pq244 pq247 pq248 | first | omega | ((try (have i_t230 := Imp.go t230 (by omega))); (try (have i_fo := Imp.go fo (by omega))); (try (have i_fo := Imp.go fo (by omega))); (try (have i_t230 := Imp.go t230 (by omega))); omega)))
            have mt257 : MT V234 Z b := MO.mt mo256 (by (first | exact om_6f738fa1827e hgf gd kdp rd rd2 pq252 | omega)) (by (first | exact om_78ea3e5e24cc gd kdp rd rd2 pq252 | omega))
            refine W.know (fun k259 k260 => ?_)
            obtain ⟨Hk258, hHk258⟩ : ∃ z, z = H := ⟨_, rfl⟩
            have k259 : Hk258.size ≤ s.heap.size + (zcc Z - zcc Z) := by rw [hHk258]; exact k259
            have k260 : tot Hk258 ≤ tot s.heap + (zss Z - zss Z) := by rw [hHk258]; exact k260
            refine gZ_ref (gA_runV (As := [.ref (Z.fa gf), .int z227, .int z236]) (rest := []) (ci := 5) (q0 := 5) hx hb hml hown hg hP hD hK hS hA hnw hgk (x_workWrap9 l D ks H.size ad kk V234 L Z z227 z236 (b) (gf) hMV234 (by first | exact om_b677d9ad2546 q81 rgz227 f233 w238 t239 pq248 | first | omega | ((try (have i_t230 := Imp.go t230 (by omega))); (try (have i_fo := Imp.go fo (by omega))); (try (have i_fo := Imp.go fo (by omega))); (try (have i_t230 := Imp.go t230 (by omega))); omega)) (show b < 2 from by first | exact om_289974d36c9f hb2 mup | first | omega | ((try (have i_t230 := Imp.go t230 (by omega))); (try (have i_fo := Imp.go fo (by omega))); (try (have i_fo := Imp.go fo (by omega))); (try (have i_t230 := Imp.go t230 (by omega))); omega)) (show gf < Z.nf from by first | exact om_d9a628b8387a hgf gd kdp rd rd2 pq252 | first | omega | ((try (have i_t230 := Imp.go t230 (by omega))); (try (have i_fo := Imp.go fo (by omega))); (try (have i_fo := Imp.go fo (by omega))); (try (have i_t230 := Imp.go t230 (by omega))); omega)) mt257 (show 0 ≤ (V234 71 gf).toInt ∧ (V234 71 gf).toInt < (V234 43 (5 * b + 2)).toInt from by first | exact om_fe4c0070b215 r2 fc q71 pq240 pq241 | first | omega | ((try (have i_t230 := Imp.go t230 (by omega))); (try (have i_fo := Imp.go fo (by omega))); (try (have i_fo := Imp.go fo (by omega))); (try (have i_t230 := Imp.go t230 (by omega))); omega)) (show 0 ≤ (V234 70 gf).toInt ∧ (V234 70 gf).toInt < (V234 3 13).toInt from by first | exact om_5f9ea3a708f4 ra2 q70 o0 o1 pq242 pq243 | first | omega | ((try (have i_t230 := Imp.go t230 (by omega))); (try (have i_fo := Imp.go fo (by omega))); (try (have i_fo := Imp.go fo (by omega))); (try (have i_t230 := Imp.go t230 (by omega))); omega)) (show z227.toInt < (V234 41 b).toInt from by first | exact om_55ea6c152111 q81 rgz227 t231 f233 w238 t239 pq244 pq248 | first | omega | ((try (have i_t230 := Imp.go t230 (by omega))); (try (have i_fo := Imp.go fo (by omega))); (try (have i_fo := Imp.go fo (by omega))); (try (have i_t230 := Imp.go t230 (by omega))); omega))) w1403 w1405 w62 w171 w1406 rfl xgMachine hdV_yX5_workWrap ⟨Nat.le_of_ble_eq_true rfl, Nat.le_of_ble_eq_true rfl⟩ rfl hl.1 rfl (Nat.le_of_ble_eq_true rfl) dX5_goOnCalling_119 ⟨z1 zoZ.1, z1 zoZ.2.1⟩) hD hS hA (fun u262 H locs w263 hP hD hK hS y264 y265 => ?_)
            obtain ⟨V266, L267, Z268, f269⟩ := u262
            obtain ⟨hMV266, ajV266, axL267, zlZ268, ilf269, t270, t271, t272, t273, t274⟩ := w263
            have axL267 : L = L267 := Eq.symm axL267
            subst axL267
            replace hP : va_P D vwCl (xw ad kk V266 L Z268) H := hP
            replace hD : va_D A (xw ad kk V266 L Z268) := hD
            replace hK : va_K D vwCl (xty kk Z268) s := hK
            replace hMV266 : rgd bX V266 := hMV266
            replace ajV266 : agr [(4, 5), (5, 6), (5, 9)] [33, 34, 35, 67, 68, 69, 70, 71, 72, 73, 74, 75, 76, 77, 78, 79, 80, 81, 82, 83, 84, 85] V234 V266 := ajV266
            have agV266 : agr [(4, 5), (5, 6), (5, 9), (5, 11), (5, 12), (5, 13), (5, 14)] [33, 34, 35, 67, 68, 69, 70, 71, 72, 73, 74, 75, 76, 77, 78, 79, 80, 81, 82, 83, 84, 85] V V266 := agV234.tr ajV266 (by decide) (by decide)
            replace zlZ268 : ZL Z Z268 := zlZ268
            have zoZ268 : ZL Z Z268 := ZL.tr zoZ zlZ268
            have ziZ268 := zlZ268.1
            have zjZ268 := zlZ268.2.1
            have zkZ268 := zlZ268.2.2.1
            have zmZ268 := zoZ268.1
            have znZ268 := zoZ268.2.1
            have zpZ_Z268 := zoZ.1
            have zqZ_Z268 := zoZ.2.1
            have y264 : H.size ≤ Hk258.size + (zcc Z - zcc Z268) := by rw [hHk258]; exact y264
            have y265 : tot H ≤ tot Hk258 + (zss Z - zss Z268) := by rw [hHk258]; exact y265
            refine W.tight (k := zcc Z - zcc Z268) (n := zss Z - zss Z268) (by first | exact tg9 y264 k259 zlZ268.1 zoZ.1 | omega) (by first | exact tg9 y265 k260 zlZ268.2.1 zoZ.2.1 | omega) ?_
            have hl : lv_has ls 3 [(2, .int z227), (0, .ref (ad 5)), (1, .ref (Z268.fa gf))] := by rw [zlZ268.2.2.2.2 gf hgf]; exact hl
            replace ilf269 : f269 < Z268.nf := ilf269
            replace t270 : MJ V266 Z268 b := t270
            replace t271 : (f269 : Int) + 1 = (V266 5 6).toInt := t271
            replace t272 : (V266 67 f269).toInt = 4 ∧ (V266 68 f269).toInt = 0 := t272
            replace t273 : (V266 5 9).toInt = 0 := t273
            replace t274 : Imp ((V234 5 6).toInt < 400 ∧ (gf : Int) < (V234 5 6).toInt) (PWk V234 V266 gf ((V234 5 6).toInt.toNat) (V234 66 (12 * b + Int32.toNatClampNeg (V234 47 (12 * b + Int32.toNatClampNeg z227)))) z236) := t274
            have r275 : 0 ≤ ((V266 5 6)).toInt ∧ ((V266 5 6)).toInt ≤ 400 := hMV266 5 6
            have r276 : 0 ≤ ((V266 5 9)).toInt ∧ ((V266 5 9)).toInt ≤ 3 := hMV266 5 9
            refine lv_pop hx hb dX5_goOnCalling_122 rfl ?_
            have rh2 : (V 5 11).toInt = gm 0 8 ∧ (V 5 12).toInt = gm 0 9 := rh.2.2.1 (show gm 0 6 = 2 from by (first | exact om_147a8ac6eacb rh1 f220 | omega))
            have pq9 : Int32.toNatClampNeg (V 71 gf) = c.toNat := by have h9 := i_clamp (x := (V 71 gf)) rfl (by (first | exact om_c486a88bcb1e r2 fc q71 pq240 | omega)); (first | exact om_043ed8ee8a8a kc9 | omega)
            have wl9 := (BKc.wl bc).2.2
            have fe9 : ∀ j : Nat, FWo V b j (Int32.toInt 3) (Int32.toNatClampNeg (V 71 gf)) ((V 73 gf)).toInt = FWo V b j ((3 : Nat) : Int) c.toNat ((me.toNat : Nat) : Int) := fun j => by rw [pq9, show Int32.toInt 3 = ((3 : Nat) : Int) from by decide, show ((V 73 gf)).toInt = ((me.toNat : Nat) : Int) from by (first | exact om_10771063345f q73 m0 m9 | omega)]
            have fz9 := t231.resolve_left (fun h8 => by have h7 := h8.1.1; (first | exact om_2cfd8ad98d25 q81 f233 w238 t239 pq248 ziZ268 zjZ268 h8 | omega))
            have fb9 : fB (bW gB) (isF gB 3 c.toNat me.toNat) ps.toNat = some z227.toInt.toNat := BKc.fBy bc cn9 (by have h9 := fz9.1; (first | exact om_3b178a48fc02 r3 q75 hz224 rgz227 pq248 fz9 | omega)) (by have h9 := fz9.1; (first | exact om_78c7732752e1 r3 q75 hz224 rgz227 pq244 pq248 wl9 fz9 | omega)) (by rw [← fe9]; exact fz9.2.1) (fun j9 h1 h2 => by rw [← fe9]; exact fz9.2.2 j9 (by (first | exact om_5fef1ea8ff58 r3 q75 hz224 rgz227 pq248 fz9 h1 | omega)) (by (first | exact om_8924e6809fe1 r3 q75 hz224 rgz227 pq248 fz9 h2 | omega)))
            have na9 : Int32.ofInt (fst1 nd fl) = z236 := by rw [show fst1 nd fl = z236.toInt from by unfold fst1; rcases t239 with ⟨h1, h2⟩ | ⟨h1, h2⟩; (rw [if_pos (by (first | exact om_3de7e85eaf4e q81 h1 | omega))]; (first | exact om_a85e0127ef2a h2 | omega)); (rw [if_neg (by (first | exact om_d67696be9909 q81 h1 | omega))]; (first | exact om_c7f420d57734 q82 h2 | omega))]; exact Int32.ofInt_toInt _
            have pw := Imp.go t274 ⟨by (first | exact om_8c4987203dea gd r1 kdp rd rd2 sl9 pq252 | omega), by (first | exact om_ad89da6ade58 gd kdp rd rd2 pq252 | omega)⟩
            have pi9 : (V234 5 6).toInt.toNat = gr.length + 1 := by (first | exact om_c7704909093d gd r1 kdp rd rd2 sl9 pq252 | omega)
            rw [pi9] at pw
            obtain ⟨⟨pd1, pd2, pke⟩, ⟨pk1, pk2⟩, ⟨p69, p70, p71, p72, p73⟩, pag, pat, pba, pps⟩ := pw
            have wr277 : (V266 3 13).toInt = (V 3 13).toInt := congrArg Int32.toInt ((ajV266 3 13 rfl).trans (up2_o hV234 (by decide)))
            have wr278 : (V266 3 12).toInt = (V 3 12).toInt := congrArg Int32.toInt ((ajV266 3 12 rfl).trans (up2_o hV234 (by decide)))
            have wr279 : (V266 67 gf).toInt = ((V 67 gf)).toInt := (congrArg Int32.toInt ((pke gf (by (first | exact om_c9f168eff5a6 gd kdp rd rd2 | omega)) 67 (by decide) (by decide)).trans (up2_o hV234 (by decide))))
            have wr280 : (V266 68 gf).toInt = ((V 68 gf)).toInt := (congrArg Int32.toInt ((pke gf (by (first | exact om_c9f168eff5a6 gd kdp rd rd2 | omega)) 68 (by decide) (by decide)).trans (up2_o hV234 (by decide))))
            have wr281 : (V266 69 gf).toInt = ((V 69 gf)).toInt := (congrArg Int32.toInt ((pke gf (by (first | exact om_c9f168eff5a6 gd kdp rd rd2 | omega)) 69 (by decide) (by decide)).trans (up2_o hV234 (by decide))))
            have wr282 : (V266 70 gf).toInt = ((V 70 gf)).toInt := (congrArg Int32.toInt ((pke gf (by (first | exact om_c9f168eff5a6 gd kdp rd rd2 | omega)) 70 (by decide) (by decide)).trans (up2_o hV234 (by decide))))
            have wr283 : (V266 71 gf).toInt = ((V 71 gf)).toInt := (congrArg Int32.toInt ((pke gf (by (first | exact om_c9f168eff5a6 gd kdp rd rd2 | omega)) 71 (by decide) (by decide)).trans (up2_o hV234 (by decide))))
            have wr284 : (V266 72 gf).toInt = ((V 72 gf)).toInt := (congrArg Int32.toInt ((pke gf (by (first | exact om_c9f168eff5a6 gd kdp rd rd2 | omega)) 72 (by decide) (by decide)).trans (up2_o hV234 (by decide))))
            have wr285 : (V266 73 gf).toInt = ((V 73 gf)).toInt := (congrArg Int32.toInt ((pke gf (by (first | exact om_c9f168eff5a6 gd kdp rd rd2 | omega)) 73 (by decide) (by decide)).trans (up2_o hV234 (by decide))))
            have wr286 : (V266 75 gf).toInt = z227.toInt := (congrArg Int32.toInt ((pke gf (by (first | exact om_c9f168eff5a6 gd kdp rd rd2 | omega)) 75 (by decide) (by decide)).trans (up2_s hV234)))
            have wr287 : (V266 81 gf).toInt = ((V 81 gf)).toInt := (congrArg Int32.toInt ((pke gf (by (first | exact om_c9f168eff5a6 gd kdp rd rd2 | omega)) 81 (by decide) (by decide)).trans (up2_o hV234 (by decide))))
            have wr288 : (V266 82 gf).toInt = ((V 82 gf)).toInt := (congrArg Int32.toInt ((pke gf (by (first | exact om_c9f168eff5a6 gd kdp rd rd2 | omega)) 82 (by decide) (by decide)).trans (up2_o hV234 (by decide))))
            have wr289 : (V266 69 (gr.length + 1)).toInt = ((V 69 gf)).toInt := (congrArg Int32.toInt (p69.trans (up2_o hV234 (by decide))))
            have wr290 : (V266 70 (gr.length + 1)).toInt = ((V 70 gf)).toInt := (congrArg Int32.toInt (p70.trans (up2_o hV234 (by decide))))
            have wr291 : (V266 71 (gr.length + 1)).toInt = ((V 71 gf)).toInt := (congrArg Int32.toInt (p71.trans (up2_o hV234 (by decide))))
            have wr292 : (V266 72 (gr.length + 1)).toInt = ((V 72 gf)).toInt := (congrArg Int32.toInt (p72.trans (up2_o hV234 (by decide))))
            have wr293 : (V266 73 (gr.length + 1)).toInt = ((V 73 gf)).toInt := (congrArg Int32.toInt (p73.trans (up2_o hV234 (by decide))))
            have me294 : ME V V234 gf := (ME.up ME.rf hV234 (Or.inl ⟨by decide, by decide, Nat.le_refl _⟩))
            have rl295 : RWl V266 gB gr t0 := RWl.mv hlr (fun i9 hi9 c9 h1 h2 => ((pke i9 (by (first | exact om_7f53476936c1 kdp rd rd2 pq252 pi9 hi9 | omega)) c9 h1 h2)).trans (me294.2.1 c9 i9 h1 h2 (by (first | exact om_a8f73b8e7cf4 gd kdp rd rd2 pq252 pi9 hi9 | omega)))) (fun j9 hj9 => ((ajV266 39 j9 rfl).trans (up2_o hV234 (by decide)))) (by rw [((ajV266 3 13 rfl).trans (up2_o hV234 (by decide)))]; exact Int.le_refl _) ((ajV266 3 12 rfl).trans (up2_o hV234 (by decide)))
            have me296 : ME V V234 0 := (ME.up ME.rf hV234 (Or.inl ⟨by decide, by decide, by first | exact om_9a68da5e96c3 gd r1 kdp rd rd2 sl9 pq252 pi9 | first | omega | ((try (have i_t230 := Imp.go t230 (by omega))); (try (have i_fo := Imp.go fo (by omega))); (try (have i_fo := Imp.go fo (by omega))); (try (have i_t230 := Imp.go t230 (by omega))); omega)⟩))
            have bc297 : BKc V234 b gB := BKc.be bc me296.1
            have wi9 := BKc.wi bc297 (i := z227.toInt.toNat) (by have h9 := fz9.1; (first | exact om_295b105df6ff rgz227 pq244 pq248 wl9 fz9 wr286 | omega))
            have at9 : (V266 84 (gr.length + 1)).toInt = ((psz (opf gB.1) (wAt gB z227.toInt.toNat) : Nat) : Int) := by rw [pat, show Int32.toNatClampNeg z227 = z227.toInt.toNat from rfl, wi9.1]; exact wi9.2.2.1.2.2.2.2.1
            have fb8 : FRc V266 gB gr.length (Fcall3 lv o c sc me ((z227.toInt.toNat : Nat) : Int) nd fl) := by rw [gl9]; exact ⟨⟨by (first | exact om_cb23ae8fe0b3 gk wr279 | omega), by (first | exact om_1a346c87806a k68 wr280 | omega)⟩, ⟨by (first | exact om_cd7d0a6a31bc q69 wr281 | omega), ⟨by (first | exact om_25a0d8f2ad9d q70 pq243 wr282 | omega), by (first | exact om_1a43c7039ba9 q70 o0 pq243 wr282 wr290 | omega), by (first | exact om_07e8d8fc0ecf ra2 q70 o1 pq242 pq243 wr277 wr282 wr290 | omega)⟩, ⟨by (first | exact om_25a0d8f2ad9d q71 pq240 wr283 | omega), by (first | exact om_ef3327caed94 r2 fc q71 pq240 wr283 wr291 | omega), by (first | exact om_c5674933d51c q71 c1 pq240 wr283 wr291 | omega)⟩, ⟨by (first | exact om_cd7d0a6a31bc q72 wr284 | omega), by omega, by omega⟩⟩, ⟨by (first | exact om_cd7d0a6a31bc q73 wr285 | omega), by (first | exact om_3b6eeda82e53 q73 m0 m9 wr285 wr293 | omega), by (first | exact om_7ca5daae6e6d q73 m0 m9 wr285 wr293 | omega)⟩, by (first | exact om_483a81d5e169 rgz227 pq248 fz9 wr286 | omega), by (first | exact om_cd7d0a6a31bc q81 wr287 | omega), by (first | exact om_cd7d0a6a31bc q82 wr288 | omega)⟩
            have ft9 : FRc V266 gB (gr.length + 1) (Fwork lv o c sc me 0 ((wAt gB z227.toInt.toNat : Nat) : Int) (Int32.ofInt (fst1 nd fl)) []) := ⟨⟨pk1, pk2⟩, ⟨by (first | exact om_25a0d8f2ad9d q69 wr281 wr289 | omega), ⟨by (first | exact om_6ba44aa2159d q70 pq243 wr282 wr290 | omega), by (first | exact om_1a43c7039ba9 q70 o0 pq243 wr282 wr290 | omega), by (first | exact om_07e8d8fc0ecf ra2 q70 o1 pq242 pq243 wr277 wr282 wr290 | omega)⟩, ⟨by (first | exact om_6ba44aa2159d q71 pq240 wr283 wr291 | omega), by (first | exact om_ef3327caed94 r2 fc q71 pq240 wr283 wr291 | omega), by (first | exact om_c5674933d51c q71 c1 pq240 wr283 wr291 | omega)⟩, ⟨by (first | exact om_25a0d8f2ad9d q72 wr284 wr292 | omega), by omega, by omega⟩⟩, (fun h9 => absurd h9 (by decide)), ⟨Int.natCast_nonneg _, at9⟩, pag.trans na9.symm⟩
            have rz9 : RW V266 gB (mU gm 0 6 0, ga, Fwork lv o c sc me 0 ((wAt gB z227.toInt.toNat : Nat) : Int) (Int32.ofInt (fst1 nd fl)) [] :: Fcall3 lv o c sc me ((z227.toInt.toNat : Nat) : Int) nd fl :: gr) := RW.sgn rwq (ESw.ag (show agr [(4, 5), (5, 6), (5, 9)] [33, 34, 35, 67, 68, 69, 70, 71, 72, 73, 74, 75, 76, 77, 78, 79, 80, 81, 82, 83, 84, 85] V V266 from (agr.tr (agr.up agr.rf hV234 rfl) ajV266 (by decide) (by decide))) (by decide)) pd2 (fun h9 => absurd h9 (by decide)) (fun h9 => absurd h9 (by decide)) (show (V266 5 6).toInt = ((gr.length + 1 + 1 : Nat) : Int) from by (first | exact om_ea487894bae3 kdp rd rd2 pq252 pi9 pd1 | omega)) (show (V266 5 7).toInt = ((t0 : Nat) : Int) from by rw [(show agr [(4, 5), (5, 6), (5, 9)] [33, 34, 35, 67, 68, 69, 70, 71, 72, 73, 74, 75, 76, 77, 78, 79, 80, 81, 82, 83, 84, 85] V V266 from (agr.tr (agr.up agr.rf hV234 rfl) ajV266 (by decide) (by decide))) 5 7 rfl, rt9, tz9]) (RWl.push (RWl.push rl295 fb8 rfl (np9 rfl)) ft9 rfl (fun _ _ => (show (V266 85 (gr.length + 1)).toInt = ((t0 : Nat) : Int) from by rw [pba, (up2_o hV234 (by decide)), rt9, tz9])))
            have rx298 : RW V266 gB (stM gB (gm, ga, gfr :: gr)) := by rw [hfe, (st_7y (show gm 0 6 = 2 from by (first | exact om_147a8ac6eacb rh1 f220 | omega))).trans (rs_y fb9)]; exact rz9
            refine W.know (fun kr1 kr2 => ?_)
            refine W.widen (k := zcc Z) (n := zss Z) (Nat.sub_le _ _) (Nat.sub_le _ _) ?_
            exact W.vret hx hb hr (fun t ht hW => ⟨⟨(V266, L, Z268), rfl, ⟨hMV266, agV266, rfl, zoZ268, t270, rx298⟩, ⟨by rw [ht]; exact hP, va_K.moved hW.alike hK, hD⟩, by rw [ht]; exact kr1, by rw [ht]; exact kr2⟩, hS.F ht⟩) hS.2.2 dX5_goOnCalling_123
          · skip
            have f299 : z227.toInt = (-1) := b_eq rfl (by decide) c232
            refine lv_aload_n hx hb dX5_goOnCalling_83 rfl (lv_at hl 1 rfl) ?_
            refine lv_aload_n hx hb dX5_goOnCalling_84 rfl (lv_at hl 2 rfl) ?_
            refine va_getN (D := D) (ci := 4) (v := .int (V 81 gf)) (fs := (xfFrame V gf)) (C := RX4) (T := TX4) (N := 19) hx hb hg inX4 hown hK hP (336 + gf) (xgFrame hgf) rfl 14 (by decide) (hnw.use 1203 n1203 rfl) (fun _ h9 => h9) rfl dX5_goOnCalling_85 ?_
            refine lv_aload_n hx hb dX5_goOnCalling_88 rfl (lv_at hl 2 rfl) ?_
            refine va_getN (D := D) (ci := 4) (v := .int (V 82 gf)) (fs := (xfFrame V gf)) (C := RX4) (T := TX4) (N := 19) hx hb hg inX4 hown hK hP (336 + gf) (xgFrame hgf) rfl 15 (by decide) (hnw.use 1204 n1204 rfl) (fun _ h9 => h9) rfl dX5_goOnCalling_89 ?_
            refine gA_void (gA_runV (As := [.int (V 81 gf), .int (V 82 gf)]) (rest := []) (ci := 5) (q0 := 5) hx hb hml hown hg hP hD hK hS hA hnw hgk (x_failWith9 l D ks H.size ad kk V L Z (V 81 gf) (V 82 gf) hMV ) w1261 w1263 w46 w171 w1264 rfl xgMachine hdV_yX5_failWith ⟨Nat.le_of_ble_eq_true rfl, Nat.le_of_ble_eq_true rfl⟩ rfl hl.1 rfl (Nat.le_of_ble_eq_true rfl) dX5_goOnCalling_92 ⟨z0, z0⟩) hP hD hK hS hA (fun u301 H locs w302 hP hD hK hS => ?_)
            obtain ⟨V305, L306⟩ := u301
            obtain ⟨hMV305, ajV305, axL306, t303, t304⟩ := w302
            have axL306 : L = L306 := Eq.symm axL306
            subst axL306
            replace hP : va_P D vwCl (xw ad kk V305 L Z) H := hP
            replace hD : va_D A (xw ad kk V305 L Z) := hD
            replace hMV305 : rgd bX V305 := hMV305
            replace ajV305 : agr [(5, 9), (5, 11), (5, 12)] [] V V305 := ajV305
            have agV305 : agr [(4, 5), (5, 6), (5, 9), (5, 11), (5, 12), (5, 13), (5, 14)] [33, 34, 35, 67, 68, 69, 70, 71, 72, 73, 74, 75, 76, 77, 78, 79, 80, 81, 82, 83, 84, 85] V V305 := agV.tr ajV305 (by decide) (by decide)
            replace t303 : (V305 5 9).toInt = 2 := t303
            replace t304 : ((True) ∧ V305 = (up2 (up2 (up2 V 5 9 2) 5 11 (V 81 gf)) 5 12 (V 82 gf))) := t304
            have r307 : 0 ≤ ((V305 5 9)).toInt ∧ ((V305 5 9)).toInt ≤ 3 := hMV305 5 9
            have hw308 := t304.2
            obtain ⟨V309, hV309⟩ : ∃ z, z = up2 V 5 9 2 := ⟨_, rfl⟩
            obtain ⟨V310, hV310⟩ : ∃ z, z = up2 V309 5 11 (V 81 gf) := ⟨_, rfl⟩
            have hV305 : V305 = up2 V310 5 12 (V 82 gf) := by rw [hw308, hV310, hV309]
            refine lv_aload_n hx hb dX5_goOnCalling_95 rfl (lv_at hl 1 rfl) ?_
            have pq311 : (V305 5 6).toInt = ((V 5 6)).toInt := congrArg Int32.toInt ((up2_k hV305 (by decide)).trans ((up2_k hV310 (by decide)).trans (up2_k hV309 (by decide))))
            refine gA_void (gA_runV (As := []) (rest := []) (ci := 5) (q0 := 5) hx hb hml hown hg hP hD hK hS hA hnw hgk (x_leave9 l D ks H.size ad kk V305 L Z  hMV305 (show 1 ≤ (V305 5 6).toInt from by first | exact om_1c7ca45de7b6 gd r1 kdp rd rd2 sl9 pq311 | first | omega | ((try (have i_t230 := Imp.go t230 (by omega))); (try (have i_fo := Imp.go fo (by omega))); (try (have i_fo := Imp.go fo (by omega))); (try (have i_t230 := Imp.go t230 (by omega))); omega))) w1308 w1310 w50 w171 w1311 rfl xgMachine hdV_yX5_leave ⟨Nat.le_of_ble_eq_true rfl, Nat.le_of_ble_eq_true rfl⟩ rfl hl.1 rfl (Nat.le_of_ble_eq_true rfl) dX5_goOnCalling_96 ⟨z0, z0⟩) hP hD hK hS hA (fun u313 H locs w314 hP hD hK hS => ?_)
            obtain ⟨V317, L318⟩ := u313
            obtain ⟨hMV317, ajV317, axL318, t315, t316⟩ := w314
            have axL318 : L = L318 := Eq.symm axL318
            subst axL318
            replace hP : va_P D vwCl (xw ad kk V317 L Z) H := hP
            replace hD : va_D A (xw ad kk V317 L Z) := hD
            replace hMV317 : rgd bX V317 := hMV317
            replace ajV317 : agr [(5, 6)] [] V305 V317 := ajV317
            have agV317 : agr [(4, 5), (5, 6), (5, 9), (5, 11), (5, 12), (5, 13), (5, 14)] [33, 34, 35, 67, 68, 69, 70, 71, 72, 73, 74, 75, 76, 77, 78, 79, 80, 81, 82, 83, 84, 85] V V317 := agV305.tr ajV317 (by decide) (by decide)
            replace t315 : (V317 5 6).toInt = (V305 5 6).toInt - 1 := t315
            replace t316 : ((True) ∧ V317 = (up2 V305 5 6 (V305 5 6 - 1))) := t316
            have r319 : 0 ≤ ((V317 5 6)).toInt ∧ ((V317 5 6)).toInt ≤ 400 := hMV317 5 6
            have hw320 := t316.2
            obtain ⟨z321, ez321⟩ : ∃ y : Int32, y = V305 5 6 - 1 := ⟨_, rfl⟩
            have hz321 : z321.toInt = (V305 5 6).toInt - 1 := i_sub ez321 rfl (by decide) (by first | exact om_b7c63862419e gd r1 kdp rd rd2 sl9 pq311 t315 | first | omega | ((try (have i_t230 := Imp.go t230 (by omega))); (try (have i_fo := Imp.go fo (by omega))); (try (have i_fo := Imp.go fo (by omega))); (try (have i_t230 := Imp.go t230 (by omega))); omega))
            have hV317 : V317 = up2 V305 5 6 z321 := by rw [hw320, ez321]
            have me322 : ME V V317 gf := (ME.up (ME.up (ME.up (ME.up ME.rf hV309 (Or.inr (by (first | exact om_620f5006bfaa  | omega)))) hV310 (Or.inr (by (first | exact om_ded18bf8e7e5  | omega)))) hV305 (Or.inr (by (first | exact om_82aabbaa6769  | omega)))) hV317 (Or.inr (by (first | exact om_f481bd0f1cda  | omega))))
            have pq323 : (V317 67 gf).toInt = ((V 67 gf)).toInt := congrArg Int32.toInt ((up2_o hV317 (by decide)).trans ((up2_o hV305 (by decide)).trans ((up2_o hV310 (by decide)).trans (up2_o hV309 (by decide)))))
            have pq324 : (V317 68 gf).toInt = ((V 68 gf)).toInt := congrArg Int32.toInt ((up2_o hV317 (by decide)).trans ((up2_o hV305 (by decide)).trans ((up2_o hV310 (by decide)).trans (up2_o hV309 (by decide)))))
            have pq325 : (V317 70 gf).toInt = ((V 70 gf)).toInt := congrArg Int32.toInt ((up2_o hV317 (by decide)).trans ((up2_o hV305 (by decide)).trans ((up2_o hV310 (by decide)).trans (up2_o hV309 (by decide)))))
            have pq326 : (V317 71 gf).toInt = ((V 71 gf)).toInt := congrArg Int32.toInt ((up2_o hV317 (by decide)).trans ((up2_o hV305 (by decide)).trans ((up2_o hV310 (by decide)).trans (up2_o hV309 (by decide)))))
            have pq327 : (V317 75 gf).toInt = ((V 75 gf)).toInt := congrArg Int32.toInt ((up2_o hV317 (by decide)).trans ((up2_o hV305 (by decide)).trans ((up2_o hV310 (by decide)).trans (up2_o hV309 (by decide)))))
            have pq328 : (V317 76 gf).toInt = ((V 76 gf)).toInt := congrArg Int32.toInt ((up2_o hV317 (by decide)).trans ((up2_o hV305 (by decide)).trans ((up2_o hV310 (by decide)).trans (up2_o hV309 (by decide)))))
            have pq329 : (V317 80 gf).toInt = ((V 80 gf)).toInt := congrArg Int32.toInt ((up2_o hV317 (by decide)).trans ((up2_o hV305 (by decide)).trans ((up2_o hV310 (by decide)).trans (up2_o hV309 (by decide)))))
            have pq330 : (V317 84 gf).toInt = ((V 84 gf)).toInt := congrArg Int32.toInt ((up2_o hV317 (by decide)).trans ((up2_o hV305 (by decide)).trans ((up2_o hV310 (by decide)).trans (up2_o hV309 (by decide)))))
            have pq331 : (V317 5 6).toInt = z321.toInt := congrArg Int32.toInt (up2_s hV317)
            have pq332 : (V317 5 8).toInt = ((V 5 8)).toInt := congrArg Int32.toInt ((up2_k hV317 (by decide)).trans ((up2_k hV305 (by decide)).trans ((up2_k hV310 (by decide)).trans (up2_k hV309 (by decide)))))
            have pq333 : (V317 5 9).toInt = 2 := (congrArg Int32.toInt ((up2_k hV317 (by decide)).trans ((up2_k hV305 (by decide)).trans ((up2_k hV310 (by decide)).trans (up2_s hV309))))).trans (by decide)
            have pq334 : (V317 3 13).toInt = ((V 3 13)).toInt := congrArg Int32.toInt ((up2_o hV317 (by decide)).trans ((up2_o hV305 (by decide)).trans ((up2_o hV310 (by decide)).trans (up2_o hV309 (by decide)))))
            have pq335 : (V317 43 (5 * b + 2)).toInt = ((V 43 (5 * b + 2))).toInt := congrArg Int32.toInt ((up2_o hV317 (by decide)).trans ((up2_o hV305 (by decide)).trans ((up2_o hV310 (by decide)).trans (up2_o hV309 (by decide)))))
            have pq336 : (V317 42 b).toInt = ((V 42 b)).toInt := congrArg Int32.toInt ((up2_o hV317 (by decide)).trans ((up2_o hV305 (by decide)).trans ((up2_o hV310 (by decide)).trans (up2_o hV309 (by decide)))))
            have pq337 : (V317 41 b).toInt = ((V 41 b)).toInt := congrArg Int32.toInt ((up2_o hV317 (by decide)).trans ((up2_o hV305 (by decide)).trans ((up2_o hV310 (by decide)).trans (up2_o hV309 (by decide)))))
            have rp338 : MJ V317 Z b := MP.lv (MO.mp mo) me322 (by (first | exact om_0e41a66fda65 gd kdp rd rd2 pq311 t315 | omega)) (fun _ => Or.inl (by (first | exact om_7ff4e10da701 gk | omega)))
            have rh2 : (V 5 11).toInt = gm 0 8 ∧ (V 5 12).toInt = gm 0 9 := rh.2.2.1 (show gm 0 6 = 2 from by (first | exact om_147a8ac6eacb rh1 f220 | omega))
            have pq9 : Int32.toNatClampNeg (V 71 gf) = c.toNat := by have h9 := i_clamp (x := (V 71 gf)) rfl (by (first | exact om_c486a88bcb1e r2 fc q71 pq326 | omega)); (first | exact om_043ed8ee8a8a kc9 | omega)
            have wl9 := (BKc.wl bc).2.2
            have fe9 : ∀ j : Nat, FWo V b j (Int32.toInt 3) (Int32.toNatClampNeg (V 71 gf)) ((V 73 gf)).toInt = FWo V b j ((3 : Nat) : Int) c.toNat ((me.toNat : Nat) : Int) := fun j => by rw [pq9, show Int32.toInt 3 = ((3 : Nat) : Int) from by decide, show ((V 73 gf)).toInt = ((me.toNat : Nat) : Int) from by (first | exact om_10771063345f q73 m0 m9 | omega)]
            have fz9 := t231.resolve_right (fun h8 => by have h7 := h8.1.1; (first | exact om_8bc3fb5ac8e9 f299 h8 | omega))
            have fb9 : fB (bW gB) (isF gB 3 c.toNat me.toNat) ps.toNat = none := BKc.fBn bc cn9 (by have h9 := fz9.1; (first | exact om_a910071a5d48 r11 q75 hz224 pq327 pq337 wl9 fz9 | omega)) (fun j9 h1 => by rw [← fe9]; exact fz9.2 j9 (by (first | exact om_b2a8ce2845e1 q75 hz224 pq327 h1 | omega)))
            have pq339 : (V317 5 11).toInt = ((V 81 gf)).toInt := congrArg Int32.toInt ((up2_k hV317 (by decide)).trans ((up2_k hV305 (by decide)).trans (up2_s hV310)))
            have pq340 : (V317 5 12).toInt = ((V 82 gf)).toInt := congrArg Int32.toInt ((up2_k hV317 (by decide)).trans (up2_s hV305))
            have me341 : ME V V317 gf := (ME.up (ME.up (ME.up (ME.up ME.rf hV309 (Or.inr (by (first | exact om_620f5006bfaa  | omega)))) hV310 (Or.inr (by (first | exact om_ded18bf8e7e5  | omega)))) hV305 (Or.inr (by (first | exact om_82aabbaa6769  | omega)))) hV317 (Or.inr (by (first | exact om_f481bd0f1cda  | omega))))
            have rl342 : RWl V317 gB gr t0 := RWl.mv hlr (fun i9 hi9 c9 h1 h2 => me341.2.1 c9 i9 h1 h2 (by (first | exact om_102b9d22baee gd kdp rd rd2 pq311 t315 hz321 hi9 | omega))) (fun j9 hj9 => ((up2_o hV317 (by decide)).trans ((up2_o hV305 (by decide)).trans ((up2_o hV310 (by decide)).trans (up2_o hV309 (by decide)))))) (by rw [((up2_o hV317 (by decide)).trans ((up2_o hV305 (by decide)).trans ((up2_o hV310 (by decide)).trans (up2_o hV309 (by decide)))))]; exact Int.le_refl _) ((up2_o hV317 (by decide)).trans ((up2_o hV305 (by decide)).trans ((up2_o hV310 (by decide)).trans (up2_o hV309 (by decide)))))
            have pq343 : (V317 5 7).toInt = ((V 5 7)).toInt := congrArg Int32.toInt ((up2_k hV317 (by decide)).trans ((up2_k hV305 (by decide)).trans ((up2_k hV310 (by decide)).trans (up2_k hV309 (by decide)))))
            have r344 : 0 ≤ ((V 5 7)).toInt ∧ ((V 5 7)).toInt ≤ 2048 := hMV 5 7
            have rz9 : RW V317 gB (mU (mU (mU gm 0 6 2) 0 8 nd) 0 9 fl, ga, gr) := RW.fl rwq (ESw.ag (show agr [(5, 6), (5, 9), (5, 11), (5, 12)] [] V V317 from (agr.up (agr.up (agr.up (agr.up agr.rf hV309 rfl) hV310 rfl) hV305 rfl) hV317 rfl)) (by decide)) (by (first | exact om_6aa5e6f8c558 pq333 | omega)) (by (first | exact om_cd7d0a6a31bc q81 pq339 | omega)) (by (first | exact om_cd7d0a6a31bc q82 pq340 | omega)) (show (V317 5 6).toInt = ((gr.length : Nat) : Int) from by (first | exact om_0893762427d8 kdp rd rd2 pq311 t315 | omega)) (show (V317 5 7).toInt = ((t0 : Nat) : Int) from by rw [((up2_k hV317 (by decide)).trans ((up2_k hV305 (by decide)).trans ((up2_k hV310 (by decide)).trans (up2_k hV309 (by decide))))), rt9, tz9]) rl342
            have rx345 : RW V317 gB (stM gB (gm, ga, gfr :: gr)) := by rw [hfe, (st_7y (show gm 0 6 = 2 from by (first | exact om_147a8ac6eacb rh1 f220 | omega))).trans (rs_n fb9)]; exact rz9
            refine W.know (fun kr1 kr2 => ?_)
            refine W.widen (k := zcc Z) (n := zss Z) (Nat.sub_le _ _) (Nat.sub_le _ _) ?_
            exact W.vret hx hb hr (fun t ht hW => ⟨⟨(V317, L, Z), rfl, ⟨hMV317, agV317, rfl, zoZ, rp338, rx345⟩, ⟨by rw [ht]; exact hP, va_K.moved hW.alike hK, hD⟩, by rw [ht]; exact kr1, by rw [ht]; exact kr2⟩, hS.F ht⟩) hS.2.2 dX5_goOnCalling_99
        · skip
          have f346 : ((V 68 gf)).toInt = 1 := b_eq rfl (by decide) c221
          exfalso; first | exact om_ef1546cca73d k68 f346 | first | omega | ((try (have i_fo := Imp.go fo (by omega))); omega)
      · skip
        have f347 : ((V 5 9)).toInt ≠ 2 := b_neq rfl (by decide) c219
        refine lv_aload_n hx hb dX5_goOnCalling_21 rfl (lv_at hl 0 rfl) ?_
        refine gA_void (gA_runV (As := []) (rest := []) (ci := 5) (q0 := 5) hx hb hml hown hg hP hD hK hS hA hnw hgk (x_leave9 l D ks H.size ad kk V L Z  hMV (show 1 ≤ (V 5 6).toInt from by first | exact om_fbce9464733e gd r1 kdp rd rd2 sl9 | first | omega | ((try (have i_fo := Imp.go fo (by omega))); omega))) w1308 w1310 w50 w171 w1311 rfl xgMachine hdV_yX5_leave ⟨Nat.le_of_ble_eq_true rfl, Nat.le_of_ble_eq_true rfl⟩ rfl hl.1 rfl (Nat.le_of_ble_eq_true rfl) dX5_goOnCalling_22 ⟨z0, z0⟩) hP hD hK hS hA (fun u349 H locs w350 hP hD hK hS => ?_)
        obtain ⟨V353, L354⟩ := u349
        obtain ⟨hMV353, ajV353, axL354, t351, t352⟩ := w350
        have axL354 : L = L354 := Eq.symm axL354
        subst axL354
        replace hP : va_P D vwCl (xw ad kk V353 L Z) H := hP
        replace hD : va_D A (xw ad kk V353 L Z) := hD
        replace hMV353 : rgd bX V353 := hMV353
        replace ajV353 : agr [(5, 6)] [] V V353 := ajV353
        have agV353 : agr [(4, 5), (5, 6), (5, 9), (5, 11), (5, 12), (5, 13), (5, 14)] [33, 34, 35, 67, 68, 69, 70, 71, 72, 73, 74, 75, 76, 77, 78, 79, 80, 81, 82, 83, 84, 85] V V353 := agV.tr ajV353 (by decide) (by decide)
        replace t351 : (V353 5 6).toInt = (V 5 6).toInt - 1 := t351
        replace t352 : ((True) ∧ V353 = (up2 V 5 6 (V 5 6 - 1))) := t352
        have r355 : 0 ≤ ((V353 5 6)).toInt ∧ ((V353 5 6)).toInt ≤ 400 := hMV353 5 6
        have hw356 := t352.2
        obtain ⟨z357, ez357⟩ : ∃ y : Int32, y = V 5 6 - 1 := ⟨_, rfl⟩
        have hz357 : z357.toInt = (V 5 6).toInt - 1 := i_sub ez357 rfl (by decide) (by first | exact om_569d6dea5446 gd r1 kdp rd rd2 sl9 t351 | first | omega | ((try (have i_fo := Imp.go fo (by omega))); omega))
        have hV353 : V353 = up2 V 5 6 z357 := by rw [hw356, ez357]
        have me358 : ME V V353 gf := (ME.up ME.rf hV353 (Or.inr (by (first | exact om_f481bd0f1cda  | omega))))
        have pq359 : (V353 67 gf).toInt = ((V 67 gf)).toInt := congrArg Int32.toInt (up2_o hV353 (by decide))
        have pq360 : (V353 68 gf).toInt = ((V 68 gf)).toInt := congrArg Int32.toInt (up2_o hV353 (by decide))
        have pq361 : (V353 70 gf).toInt = ((V 70 gf)).toInt := congrArg Int32.toInt (up2_o hV353 (by decide))
        have pq362 : (V353 71 gf).toInt = ((V 71 gf)).toInt := congrArg Int32.toInt (up2_o hV353 (by decide))
        have pq363 : (V353 75 gf).toInt = ((V 75 gf)).toInt := congrArg Int32.toInt (up2_o hV353 (by decide))
        have pq364 : (V353 76 gf).toInt = ((V 76 gf)).toInt := congrArg Int32.toInt (up2_o hV353 (by decide))
        have pq365 : (V353 80 gf).toInt = ((V 80 gf)).toInt := congrArg Int32.toInt (up2_o hV353 (by decide))
        have pq366 : (V353 84 gf).toInt = ((V 84 gf)).toInt := congrArg Int32.toInt (up2_o hV353 (by decide))
        have pq367 : (V353 5 6).toInt = z357.toInt := congrArg Int32.toInt (up2_s hV353)
        have pq368 : (V353 5 8).toInt = ((V 5 8)).toInt := congrArg Int32.toInt (up2_k hV353 (by decide))
        have pq369 : (V353 5 9).toInt = ((V 5 9)).toInt := congrArg Int32.toInt (up2_k hV353 (by decide))
        have pq370 : (V353 3 13).toInt = ((V 3 13)).toInt := congrArg Int32.toInt (up2_o hV353 (by decide))
        have pq371 : (V353 43 (5 * b + 2)).toInt = ((V 43 (5 * b + 2))).toInt := congrArg Int32.toInt (up2_o hV353 (by decide))
        have pq372 : (V353 42 b).toInt = ((V 42 b)).toInt := congrArg Int32.toInt (up2_o hV353 (by decide))
        have pq373 : (V353 41 b).toInt = ((V 41 b)).toInt := congrArg Int32.toInt (up2_o hV353 (by decide))
        have rp374 : MJ V353 Z b := MP.lv (MO.mp mo) me358 (by (first | exact om_f05d20b261b8 gd kdp rd rd2 t351 | omega)) (fun _ => Or.inl (by (first | exact om_7ff4e10da701 gk | omega)))
        have me375 : ME V V353 gf := (ME.up ME.rf hV353 (Or.inr (by (first | exact om_f481bd0f1cda  | omega))))
        have rl376 : RWl V353 gB gr t0 := RWl.mv hlr (fun i9 hi9 c9 h1 h2 => me375.2.1 c9 i9 h1 h2 (by (first | exact om_7c66f1035df4 gd kdp rd rd2 t351 hz357 hi9 | omega))) (fun j9 hj9 => (up2_o hV353 (by decide))) (by rw [(up2_o hV353 (by decide))]; exact Int.le_refl _) (up2_o hV353 (by decide))
        have pq377 : (V353 5 7).toInt = ((V 5 7)).toInt := congrArg Int32.toInt (up2_k hV353 (by decide))
        have r378 : 0 ≤ ((V 5 7)).toInt ∧ ((V 5 7)).toInt ≤ 2048 := hMV 5 7
        have pq379 : (V353 5 11).toInt = ((V 5 11)).toInt := congrArg Int32.toInt (up2_k hV353 (by decide))
        have pq380 : (V353 5 12).toInt = ((V 5 12)).toInt := congrArg Int32.toInt (up2_k hV353 (by decide))
        have rz9 : RW V353 gB (gm, ga, gr) := RW.id rwq (ESw.ag (show agr [(5, 6)] [] V V353 from (agr.up agr.rf hV353 rfl)) (by decide)) (up2_k hV353 (by decide)) (up2_k hV353 (by decide)) (up2_k hV353 (by decide)) (up2_k hV353 (by decide)) (show (V353 5 6).toInt = ((gr.length : Nat) : Int) from by (first | exact om_39a5f16dc1cc kdp rd rd2 t351 | omega)) (show (V353 5 7).toInt = ((t0 : Nat) : Int) from by rw [(up2_k hV353 (by decide)), rt9, tz9]) rl376
        have rx381 : RW V353 gB (stM gB (gm, ga, gfr :: gr)) := by rw [hfe, st_7n (by rw [← rh1]; (first | exact om_d0a5802f4b36 rh1 f347 pq369 | omega))]; exact rz9
        refine W.know (fun kr1 kr2 => ?_)
        refine W.widen (k := zcc Z) (n := zss Z) (Nat.sub_le _ _) (Nat.sub_le _ _) ?_
        exact W.vret hx hb hr (fun t ht hW => ⟨⟨(V353, L, Z), rfl, ⟨hMV353, agV353, rfl, zoZ, rp374, rx381⟩, ⟨by rw [ht]; exact hP, va_K.moved hW.alike hK, hD⟩, by rw [ht]; exact kr1, by rw [ht]; exact kr2⟩, hS.F ht⟩) hS.2.2 dX5_goOnCalling_25
    · skip
      have f382 : ((V 68 gf)).toInt = 0 := b_eq rfl (by decide) c217
      exfalso; first | exact om_99e0fc3fbc43 k68 f382 | first | omega | ((try (have i_fo := Imp.go fo (by omega))); omega)
abbrev r_x_beginInside9 (Z : XZ) : Room := { frames := 5, cells := zcc Z, slots := zss Z, locals := 115 }
abbrev q_x_beginInside9 (D : va_G) (ks : KS) (ad : Nat → Nat) (kk : Nat → ClassId) (V : Vf) (L : Lf) (Z : XZ) (b : Nat) (gf : Nat) (gB : Bk) (gm : Mm) (ga : Int32) (gfr : Fr) (gr : List Fr) (A : Nat → Prop) : Array Value → State → Outcome → State → Prop := qZv D (fun (u : Vf × Lf × XZ) => rgd bX u.1 ∧ agr [(4, 5), (5, 6), (5, 9), (5, 10)] [33, 34, 35, 67, 68, 69, 70, 71, 72, 73, 74, 75, 76, 77, 78, 79, 80, 81, 82, 83, 84, 85] V u.1 ∧ u.2.1 = L ∧ ZL Z u.2.2 ∧ (MJ u.1 u.2.2 b) ∧ (RW u.1 gB (stM gB (gm, ga, gfr :: gr)))) (fun u => xw ad kk u.1 u.2.1 u.2.2) (fun u => xty kk u.2.2) (fun u => zcc Z - zcc u.2.2) (fun u => zss Z - zss u.2.2) A
set_option maxHeartbeats 4000000 in
set_option maxRecDepth 100000 in
theorem x_beginInside9 (l : Launch) (D : va_G) (ks : KS) (sz : Nat) (ad : Nat → Nat) (kk : Nat → ClassId) (V : Vf) (L : Lf) (Z : XZ) (b : Nat) (gf : Nat) (gB : Bk) (gm : Mm) (ga : Int32) (gfr : Fr) (gr : List Fr) (hMV : rgd bX V) (hb2 : b < 2) (hgf : gf < Z.nf) (mo : MO V Z b gf True (QN V b) (QN V b)) (gd : (gf : Int) + 1 = (V 5 6).toInt) (gk : (V 67 gf).toInt = 3) (rwq : RW V gB (gm, ga, gfr :: gr)) (bc : BKc V b gB) (sf : SF gB (gm, ga, gfr :: gr)) (ph0 : (V 68 gf).toInt = 0)  : Met l yX5_beginInside (Cond.code yX5_beginInside cX5_beginInside 3 none :: GW) (r_x_beginInside9 Z) (va_Pc [.ref (ad 5), .ref (Z.fa gf)] (gp D ks (xw ad kk V L Z) (xty kk Z) sz)) (q_x_beginInside9 D ks ad kk V L Z  b gf gB gm ga gfr gr (va_A (xw ad kk V L Z) sz)) (zcc Z) (zss Z) (va_A (xw ad kk V L Z) sz) := by
  refine g_met (q_x_beginInside9 D ks ad kk V L Z  b gf gB gm ga gfr gr) (by decide) (Nat.le_of_ble_eq_true rfl) ?_
  intro p e s m below meth c A ls H locs hx hb hr hml hown hg hlocks hin hnw hgk hP hK hD hS hA hl
  replace hown : s.vm.findClass RX5 = some m.cls := hown
  replace hl : lv_has ls 3 [(0, .ref (ad 5)), (1, .ref (Z.fa gf))] := hl
  replace hP : va_P D vwCl (xw ad kk V L Z) H := hP
  replace hD : va_D A (xw ad kk V L Z) := hD
  replace hK : va_K D vwCl (xty kk Z) s := hK
  have agV : agr [(4, 5), (5, 6), (5, 9), (5, 10)] [33, 34, 35, 67, 68, 69, 70, 71, 72, 73, 74, 75, 76, 77, 78, 79, 80, 81, 82, 83, 84, 85] V V := agr.rf
  have zoZ : ZL Z Z := ZL.rf
  refine W.know (fun ka kb => ?_)
  refine W.tight (k := zcc Z - zcc Z) (n := zss Z - zss Z) (by (first | exact om_7244b830ee02 ka | omega)) (by (first | exact om_7244b830ee02 kb | omega)) ?_
  have r1 : 0 ≤ ((V 5 6)).toInt ∧ ((V 5 6)).toInt ≤ 400 := hMV 5 6
  have kdp := i_clamp (x := V 5 6) rfl (by (first | exact om_e301311e2a25 gd r1 | omega))
  have hdn : (gf : Int) + 1 ≤ (Z.nf : Int) := by (first | exact om_bb8713a56da6 hgf gd kdp | omega)
  have mup := MO.up mo
  have msz := mup.1
  have mbk := mup.2.2.2.1
  obtain ⟨xk, fk⟩ := MO.fk mo
  have r2 : (-1) ≤ ((V 71 gf)).toInt ∧ ((V 71 gf)).toInt ≤ 23 := hMV 71 gf
  have r3 : 0 ≤ ((V 75 gf)).toInt ∧ ((V 75 gf)).toInt ≤ 12 := hMV 75 gf
  have r4 : 0 ≤ ((V 80 gf)).toInt ∧ ((V 80 gf)).toInt ≤ 300 := hMV 80 gf
  have r5 : 0 ≤ ((V 84 gf)).toInt ∧ ((V 84 gf)).toInt ≤ 2147483647 := hMV 84 gf
  have r6 : 0 ≤ ((V 5 8)).toInt ∧ ((V 5 8)).toInt ≤ 300 := hMV 5 8
  have r7 : 0 ≤ ((V 5 9)).toInt ∧ ((V 5 9)).toInt ≤ 3 := hMV 5 9
  have r8 : 0 ≤ ((V 3 13)).toInt ∧ ((V 3 13)).toInt ≤ 300 := hMV 3 13
  have r9 : 0 ≤ ((V 43 (5 * b + 2))).toInt ∧ ((V 43 (5 * b + 2))).toInt ≤ ((xcap (5 * b + 2) : Nat) : Int) := hMV 43 (5 * b + 2)
  have r10 : xcap (5 * b + 2) = 24 := xcap_2
  have r11 : 0 ≤ ((V 41 b)).toInt ∧ ((V 41 b)).toInt ≤ 12 := hMV 41 b
  have r12 : 0 ≤ ((V 42 b)).toInt ∧ ((V 42 b)).toInt ≤ 8200 := hMV 42 b
  have fc := fk.1 (by (first | exact om_19a2929b0700 gk | omega))
  have fo := fk.2.1 (by (first | exact om_19a2929b0700 gk | omega)) (by (first | exact om_2ac8fade1515 gk | omega))
  have fp := fk.2.2.2.2.2.2.2.2.1 (by (first | exact om_395e3da5ee0d gk | omega))
  have m1 : Int32.toInt (-1) = -1 := by decide
  have rw0 := rwq
  obtain ⟨⟨ow, rn⟩, rh, rd, tw9, rt9, rl⟩ := rw0
  replace rn : RWn V ow gB gm := rn
  replace rh : RWh V gm ga := rh
  have rd2 : (V 5 6).toInt = ((gr.length + 1 : Nat) : Int) := rd
  have gl9 : gr.length = gf := by (first | exact om_737fc00ff7e4 gd kdp rd rd2 | omega)
  have sl9 : gr.length ≤ 394 := by have h9 : gr.length + 1 ≤ 395 := sf.1; (first | exact om_5c206326bd12 gd r1 kdp rd rd2 h9 | omega)
  have rh1 : (V 5 9).toInt = gm 0 6 := rh.1
  have ra2 : (V 3 13).toInt = gm 0 2 := rn.1.1.2.2.1
  have rl0 := rl
  obtain ⟨t0, tl9, hf0, hbs9, hpl9, hlr⟩ := rl0
  rw [gl9] at hf0 hbs9
  rcases FRc.k3 hf0 gk with ⟨lv, o, c, sc, me, ps, v, hfe⟩ | ⟨lv, o, c, sc, me, hfe⟩ | ⟨lv, o, c, sc, me, ps, hfe⟩ | ⟨lv, o, c, sc, me, ps, hfe⟩
  · skip
    have hf : FRc V gB gf (Fin0 lv o c sc me ps v) := by rw [← hfe]; exact hf0
    have tl8 : tw9 = t0 + (Fin0 lv o c sc me ps v : Fr).2.2.2.length := by rw [← hfe]; exact tl9
    obtain ⟨⟨k67, k68⟩, hoc, ⟨q73, m0, m9⟩, q75, q74⟩ := hf
    obtain ⟨q69, ⟨q70, o0, o1⟩, ⟨q71, c0, c1⟩, ⟨q72, s0, s1⟩⟩ := hoc
    have cn9 : c.toNat < nC gB := by (first | exact om_51a08a25bfb6 r2 fc q71 c1 | omega)
    have kc9 : Int32.toNatClampNeg (V 71 gf) = c.toNat := by have h9 := i_clamp (x := V 71 gf) rfl (by (first | exact om_762d7ad45f4b r2 fc q71 | omega)); (first | exact om_57d2b76748c0 r2 fc q71 h9 | omega)
    have tz9 : tw9 = t0 := tl8
    refine lv_aload_n hx hb dX5_beginInside_0 rfl (lv_at hl 0 rfl) ?_
    refine va_get (D := D) (ci := 5) (v := .ref (ad (38 + Int32.toNatClampNeg (V 5 5)))) (fs := (xfMachine ad V L Z)) (C := RX5) (T := TX5) (N := 15) hx hb hg inX5 hown hK hP 5 xgMachine rfl 5 (by decide) (hg _ w672) (fun _ h9 => h9) rfl dX5_beginInside_1 ?_
    have r13 : 0 ≤ ((V 5 5)).toInt ∧ ((V 5 5)).toInt ≤ 1 := hMV 5 5
    refine g_topv (v := .ref (ad (38 + b))) (rfP (by (first | exact om_c62f5505ba8e mup | omega))) ?_
    refine lv_aload_n hx hb dX5_beginInside_4 rfl (lv_at hl 1 rfl) ?_
    refine va_getN (D := D) (ci := 4) (v := .int (V 75 gf)) (fs := (xfFrame V gf)) (C := RX4) (T := TX4) (N := 19) hx hb hg inX4 hown hK hP (336 + gf) (xgFrame hgf) rfl 8 (by decide) (hnw.use 1197 n1197 rfl) (fun _ h9 => h9) rfl dX5_beginInside_5 ?_
    refine lv_iconst (v := 1) hx hb dX5_beginInside_8 (by decide) ?_
    refine lv_aload_n hx hb dX5_beginInside_9 rfl (lv_at hl 1 rfl) ?_
    refine va_getN (D := D) (ci := 4) (v := .int (V 71 gf)) (fs := (xfFrame V gf)) (C := RX4) (T := TX4) (N := 19) hx hb hg inX4 hown hK hP (336 + gf) (xgFrame hgf) rfl 4 (by decide) (hnw.use 1193 n1193 rfl) (fun _ h9 => h9) rfl dX5_beginInside_10 ?_
    refine lv_aload_n hx hb dX5_beginInside_13 rfl (lv_at hl 1 rfl) ?_
    refine va_getN (D := D) (ci := 4) (v := .int (V 73 gf)) (fs := (xfFrame V gf)) (C := RX4) (T := TX4) (N := 19) hx hb hg inX4 hown hK hP (336 + gf) (xgFrame hgf) rfl 6 (by decide) (hnw.use 1195 n1195 rfl) (fun _ h9 => h9) rfl dX5_beginInside_14 ?_
    have r14 : 0 ≤ ((V 73 gf)).toInt ∧ ((V 73 gf)).toInt ≤ 19 := hMV 73 gf
    have r15 : Int32.toInt 1 = 1 := by decide
    refine gA_int (gA_runV (As := [.int (V 75 gf), .int 1, .int (V 71 gf), .int (V 73 gf)]) (rest := []) (ci := 0) (q0 := (38 + b)) hx hb hml hown hg hP hD hK hS hA hnw hgk (x_wrapFrom9 l D ks H.size ad kk V L Z (V 75 gf) 1 (V 71 gf) (V 73 gf) (b) hMV (by (first | exact om_23823880ae03 r3 q75 | omega)) (by (first | exact om_7ee2e48c2283 r2 fc q71 | omega)) (show b < 2 from by (first | exact om_289974d36c9f hb2 mup | omega)) (fun i9 hi9 => by have w9 := BKc.wi bc (i := i9) (by have := (BKc.wl bc).2.2.2; omega); rw [w9.1]; have w8 := w9.2.2.1.1; have w7 := w9.2.2.2.2; exact ⟨by (first | exact om_c9a0220d2423 w9 w8 | omega), by (first | exact om_e31d9712f333 w9 w8 | omega)⟩)) w1419 w1420 w1421 w167 w1422 rfl (xgBook hb2) hdV_yX0_wrapFrom ⟨Nat.le_of_ble_eq_true rfl, Nat.le_of_ble_eq_true rfl⟩ rfl hl.1 rfl (Nat.le_of_ble_eq_true rfl) dX5_beginInside_17 ⟨z0, z0⟩) hP hD hK hS hA (fun z16 u17 H locs w18 hP hD hK hS => ?_)
    obtain ⟨rgz16, t19, t20⟩ := w18
    replace rgz16 : (-1) ≤ z16.toInt ∧ z16.toInt ≤ 11 := rgz16
    replace t19 : Imp (0 ≤ z16.toInt) (z16.toInt < (V 41 b).toInt) := t19
    replace t20 : (z16.toInt = -1 ∧ ∀ i : Nat, ((V 75 gf)).toInt.toNat ≤ i → (i : Int) < (V 41 b).toInt → ¬ FWo V b i (Int32.toInt 1) (Int32.toNatClampNeg (V 71 gf)) ((V 73 gf)).toInt) ∨ ((((V 75 gf)).toInt ≤ z16.toInt ∧ z16.toInt < (V 41 b).toInt) ∧ FWo V b z16.toInt.toNat (Int32.toInt 1) (Int32.toNatClampNeg (V 71 gf)) ((V 73 gf)).toInt ∧ ∀ i : Nat, ((V 75 gf)).toInt.toNat ≤ i → i < z16.toInt.toNat → ¬ FWo V b i (Int32.toInt 1) (Int32.toNatClampNeg (V 71 gf)) ((V 73 gf)).toInt) := t20
    refine lv_istore_n (lv' := [(2, .int z16), (0, .ref (ad 5)), (1, .ref (Z.fa gf))]) hx hb dX5_beginInside_20 rfl hl (by decide) rfl (fun ls hl => ?_)
    refine lv_iload_n hx hb dX5_beginInside_21 rfl (lv_at hl 0 rfl) ?_
    refine lv_iconst (v := (-1)) hx hb dX5_beginInside_22 (by decide) ?_
    refine lv_icmp_eq (tgt := 48) hx hb dX5_beginInside_23 (by decide) (fun c21 => ?_) (fun c21 => ?_)
    · skip
      have f22 : z16.toInt = (-1) := b_eq rfl (by decide) c21
      refine lv_aload_n hx hb dX5_beginInside_48 rfl (lv_at hl 2 rfl) ?_
      refine lv_iconst (v := 4) hx hb dX5_beginInside_49 (by decide) ?_
      refine va_putN (D := D) (ci := 4) (v := .int 4) (ty := tyX4 1) (fs := (xfFrame V gf)) (C := RX4) (T := TX4) (N := 19) hx hb hg inX4 tyX4 tyX4_ok nmX4 hown hK hP hD hS (336 + gf) (xgFrame hgf) rfl 1 (by decide) (hnw.use 1190 n1190 rfl) (fun _ h9 => h9) rfl (tyX4_ok 1 (by decide)) rfl rfl (Nat.le_of_ble_eq_true rfl) dX5_beginInside_50 (fun H locs hP hD hS => ?_)
      obtain ⟨V23, hV23⟩ : ∃ z, z = up2 V 68 gf 4 := ⟨_, rfl⟩
      have ew24 : (xw ad kk V L Z).set (336 + gf) ((Z.fa gf), .inr (4, (xfFrame V gf).set 1 (.int 4))) = xw ad kk V23 L Z := by rw [hV23]; exact xpFrame_phase hgf
      have hP : va_P D vwCl (xw ad kk V23 L Z) H := by rw [← ew24]; exact hP
      have hD : va_D A (xw ad kk V23 L Z) := by rw [← ew24]; exact hD
      have hMV23 : rgd bX V23 := hMV.put hV23 (i_full _)
      have agV23 : agr [(4, 5), (5, 6), (5, 9), (5, 10)] [33, 34, 35, 67, 68, 69, 70, 71, 72, 73, 74, 75, 76, 77, 78, 79, 80, 81, 82, 83, 84, 85] V V23 := agV.up hV23 rfl
      refine lv_aload_n hx hb dX5_beginInside_53 rfl (lv_at hl 2 rfl) ?_
      refine lv_iconst (v := 0) hx hb dX5_beginInside_54 (by decide) ?_
      refine va_putN (D := D) (ci := 4) (v := .int 0) (ty := tyX4 8) (fs := (xfFrame V23 gf)) (C := RX4) (T := TX4) (N := 19) hx hb hg inX4 tyX4 tyX4_ok nmX4 hown hK hP hD hS (336 + gf) (xgFrame hgf) rfl 8 (by decide) (hnw.use 1197 n1197 rfl) (fun _ h9 => h9) rfl (tyX4_ok 8 (by decide)) rfl rfl (Nat.le_of_ble_eq_true rfl) dX5_beginInside_55 (fun H locs hP hD hS => ?_)
      obtain ⟨V25, hV25⟩ : ∃ z, z = up2 V23 75 gf 0 := ⟨_, rfl⟩
      have ew26 : (xw ad kk V23 L Z).set (336 + gf) ((Z.fa gf), .inr (4, (xfFrame V23 gf).set 8 (.int 0))) = xw ad kk V25 L Z := by rw [hV25]; exact xpFrame_position hgf
      have hP : va_P D vwCl (xw ad kk V25 L Z) H := by rw [← ew26]; exact hP
      have hD : va_D A (xw ad kk V25 L Z) := by rw [← ew26]; exact hD
      have hMV25 : rgd bX V25 := hMV23.put hV25 (show 0 ≤ Int32.toInt 0 ∧ Int32.toInt 0 ≤ 12 from by decide)
      have agV25 : agr [(4, 5), (5, 6), (5, 9), (5, 10)] [33, 34, 35, 67, 68, 69, 70, 71, 72, 73, 74, 75, 76, 77, 78, 79, 80, 81, 82, 83, 84, 85] V V25 := agV23.up hV25 rfl
      refine lv_aload_n hx hb dX5_beginInside_58 rfl (lv_at hl 1 rfl) ?_
      refine lv_aload_n hx hb dX5_beginInside_59 rfl (lv_at hl 2 rfl) ?_
      refine va_getN (D := D) (ci := 4) (v := .int (V25 74 gf)) (fs := (xfFrame V25 gf)) (C := RX4) (T := TX4) (N := 19) hx hb hg inX4 hown hK hP (336 + gf) (xgFrame hgf) rfl 7 (by decide) (hnw.use 1196 n1196 rfl) (fun _ h9 => h9) rfl dX5_beginInside_60 ?_
      refine g_top (v := (V 74 gf)) ((up2_o hV25 (by decide)).trans (up2_o hV23 (by decide))) ?_
      refine gA_void (gA_runV (As := [.int (V 74 gf)]) (rest := []) (ci := 5) (q0 := 5) hx hb hml hown hg hP hD hK hS hA hnw hgk (x_answerWith9 l D ks H.size ad kk V25 L Z (V 74 gf) hMV25 ) w1304 w1306 w49 w171 w1307 rfl xgMachine hdV_yX5_answerWith ⟨Nat.le_of_ble_eq_true rfl, Nat.le_of_ble_eq_true rfl⟩ rfl hl.1 rfl (Nat.le_of_ble_eq_true rfl) dX5_beginInside_63 ⟨z0, z0⟩) hP hD hK hS hA (fun u28 H locs w29 hP hD hK hS => ?_)
      obtain ⟨V33, L34⟩ := u28
      obtain ⟨hMV33, ajV33, axL34, t30, t31, t32⟩ := w29
      have axL34 : L = L34 := Eq.symm axL34
      subst axL34
      replace hP : va_P D vwCl (xw ad kk V33 L Z) H := hP
      replace hD : va_D A (xw ad kk V33 L Z) := hD
      replace hMV33 : rgd bX V33 := hMV33
      replace ajV33 : agr [(5, 9), (5, 10)] [] V25 V33 := ajV33
      have agV33 : agr [(4, 5), (5, 6), (5, 9), (5, 10)] [33, 34, 35, 67, 68, 69, 70, 71, 72, 73, 74, 75, 76, 77, 78, 79, 80, 81, 82, 83, 84, 85] V V33 := agV25.tr ajV33 (by decide) (by decide)
      replace t30 : (V33 5 9).toInt = 1 := t30
      replace t31 : (V33 5 10).toInt = ((V 74 gf)).toInt := t31
      replace t32 : ((True) ∧ V33 = (up2 (up2 V25 5 9 1) 5 10 (V 74 gf))) := t32
      have r35 : 0 ≤ ((V33 5 9)).toInt ∧ ((V33 5 9)).toInt ≤ 3 := hMV33 5 9
      have hw36 := t32.2
      obtain ⟨V37, hV37⟩ : ∃ z, z = up2 V25 5 9 1 := ⟨_, rfl⟩
      have hV33 : V33 = up2 V37 5 10 (V 74 gf) := by rw [hw36, hV37]
      have me38 : ME V V33 gf := (ME.up (ME.up (ME.up (ME.up ME.rf hV23 (Or.inl ⟨by decide, by decide, Nat.le_refl _⟩)) hV25 (Or.inl ⟨by decide, by decide, Nat.le_refl _⟩)) hV37 (Or.inr (by (first | exact om_620f5006bfaa  | omega)))) hV33 (Or.inr (by (first | exact om_f41a5f4a8afd  | omega))))
      have pq39 : (V33 67 gf).toInt = ((V 67 gf)).toInt := congrArg Int32.toInt ((up2_o hV33 (by decide)).trans ((up2_o hV37 (by decide)).trans ((up2_o hV25 (by decide)).trans (up2_o hV23 (by decide)))))
      have pq40 : (V33 68 gf).toInt = 4 := (congrArg Int32.toInt ((up2_o hV33 (by decide)).trans ((up2_o hV37 (by decide)).trans ((up2_o hV25 (by decide)).trans (up2_s hV23))))).trans (by decide)
      have pq41 : (V33 70 gf).toInt = ((V 70 gf)).toInt := congrArg Int32.toInt ((up2_o hV33 (by decide)).trans ((up2_o hV37 (by decide)).trans ((up2_o hV25 (by decide)).trans (up2_o hV23 (by decide)))))
      have pq42 : (V33 71 gf).toInt = ((V 71 gf)).toInt := congrArg Int32.toInt ((up2_o hV33 (by decide)).trans ((up2_o hV37 (by decide)).trans ((up2_o hV25 (by decide)).trans (up2_o hV23 (by decide)))))
      have pq43 : (V33 75 gf).toInt = 0 := (congrArg Int32.toInt ((up2_o hV33 (by decide)).trans ((up2_o hV37 (by decide)).trans (up2_s hV25)))).trans (by decide)
      have pq44 : (V33 76 gf).toInt = ((V 76 gf)).toInt := congrArg Int32.toInt ((up2_o hV33 (by decide)).trans ((up2_o hV37 (by decide)).trans ((up2_o hV25 (by decide)).trans (up2_o hV23 (by decide)))))
      have pq45 : (V33 80 gf).toInt = ((V 80 gf)).toInt := congrArg Int32.toInt ((up2_o hV33 (by decide)).trans ((up2_o hV37 (by decide)).trans ((up2_o hV25 (by decide)).trans (up2_o hV23 (by decide)))))
      have pq46 : (V33 84 gf).toInt = ((V 84 gf)).toInt := congrArg Int32.toInt ((up2_o hV33 (by decide)).trans ((up2_o hV37 (by decide)).trans ((up2_o hV25 (by decide)).trans (up2_o hV23 (by decide)))))
      have pq47 : (V33 5 6).toInt = ((V 5 6)).toInt := congrArg Int32.toInt ((up2_k hV33 (by decide)).trans ((up2_k hV37 (by decide)).trans ((up2_o hV25 (by decide)).trans (up2_o hV23 (by decide)))))
      have pq48 : (V33 5 8).toInt = ((V 5 8)).toInt := congrArg Int32.toInt ((up2_k hV33 (by decide)).trans ((up2_k hV37 (by decide)).trans ((up2_o hV25 (by decide)).trans (up2_o hV23 (by decide)))))
      have pq49 : (V33 5 9).toInt = 1 := (congrArg Int32.toInt ((up2_k hV33 (by decide)).trans (up2_s hV37))).trans (by decide)
      have pq50 : (V33 3 13).toInt = ((V 3 13)).toInt := congrArg Int32.toInt ((up2_o hV33 (by decide)).trans ((up2_o hV37 (by decide)).trans ((up2_o hV25 (by decide)).trans (up2_o hV23 (by decide)))))
      have pq51 : (V33 43 (5 * b + 2)).toInt = ((V 43 (5 * b + 2))).toInt := congrArg Int32.toInt ((up2_o hV33 (by decide)).trans ((up2_o hV37 (by decide)).trans ((up2_o hV25 (by decide)).trans (up2_o hV23 (by decide)))))
      have pq52 : (V33 42 b).toInt = ((V 42 b)).toInt := congrArg Int32.toInt ((up2_o hV33 (by decide)).trans ((up2_o hV37 (by decide)).trans ((up2_o hV25 (by decide)).trans (up2_o hV23 (by decide)))))
      have pq53 : (V33 41 b).toInt = ((V 41 b)).toInt := congrArg Int32.toInt ((up2_o hV33 (by decide)).trans ((up2_o hV37 (by decide)).trans ((up2_o hV25 (by decide)).trans (up2_o hV23 (by decide)))))
      have mo54 : MO V33 Z b gf True (QN V33 b) (QN V33 b) := MO.ch mo me38 ((up2_o hV33 (by decide)).trans ((up2_o hV37 (by decide)).trans ((up2_o hV25 (by decide)).trans (up2_o hV23 (by decide))))) ((up2_o hV33 (by decide)).trans ((up2_o hV37 (by decide)).trans ((up2_o hV25 (by decide)).trans (up2_o hV23 (by decide))))) (fun _ => Or.inl (by (first | exact om_19a2929b0700 gk | omega))) (fun x h => FK.k3 (by first | exact om_1a346c87806a gk pq39 | first | omega | ((try (have i_t19 := Imp.go t19 (by omega))); omega)) (by first | exact om_fe4c0070b215 r2 fc q71 pq42 pq51 | first | omega | ((try (have i_t19 := Imp.go t19 (by omega))); omega)) (by first | exact om_2528d582d5a0 fo ra2 q70 pq41 pq50 | first | omega | ((try (have i_t19 := Imp.go t19 (by omega))); omega)) (by first | exact om_fd58d3f7dd91 r11 pq43 pq53 | first | omega | ((try (have i_t19 := Imp.go t19 (by omega))); omega)))
      have rp55 : MJ V33 Z b := MO.mj mo54 (by (first | exact om_6f738fa1827e hgf gd kdp rd rd2 pq47 | omega)) (by (first | exact om_78ea3e5e24cc gd kdp rd rd2 pq47 | omega)) id id Or.inr
      have pq9 : Int32.toNatClampNeg (V 71 gf) = c.toNat := by have h9 := i_clamp (x := (V 71 gf)) rfl (by (first | exact om_c486a88bcb1e r2 fc q71 pq42 | omega)); (first | exact om_043ed8ee8a8a kc9 | omega)
      have wl9 := (BKc.wl bc).2.2
      have fe9 : ∀ j : Nat, FWo V b j (Int32.toInt 1) (Int32.toNatClampNeg (V 71 gf)) ((V 73 gf)).toInt = FWo V b j ((1 : Nat) : Int) c.toNat ((me.toNat : Nat) : Int) := fun j => by rw [pq9, show Int32.toInt 1 = ((1 : Nat) : Int) from by decide, show ((V 73 gf)).toInt = ((me.toNat : Nat) : Int) from by (first | exact om_10771063345f q73 m0 m9 | omega)]
      have fz9 := t20.resolve_right (fun h8 => by have h7 := h8.1.1; (first | exact om_8fc35ed1de07 r3 q75 f22 h8 | omega))
      have fb9 : fF (bW gB) (isF gB 1 c.toNat me.toNat) ps.toNat = none := BKc.fFn bc cn9 (fun j9 h1 h2 => by rw [← fe9]; exact fz9.2 j9 (by (first | exact om_cbc8fab53698 r3 r11 q75 pq53 wl9 h1 h2 | omega)) (by (first | exact om_6f053eba5ed1 pq53 wl9 h2 | omega)))
      have wr56 : (V33 3 13).toInt = (V 3 13).toInt := congrArg Int32.toInt ((up2_o hV33 (by decide)).trans ((up2_o hV37 (by decide)).trans ((up2_o hV25 (by decide)).trans (up2_o hV23 (by decide)))))
      have wr57 : (V33 3 12).toInt = (V 3 12).toInt := congrArg Int32.toInt ((up2_o hV33 (by decide)).trans ((up2_o hV37 (by decide)).trans ((up2_o hV25 (by decide)).trans (up2_o hV23 (by decide)))))
      have wr58 : (V33 67 gf).toInt = ((V 67 gf)).toInt := (congrArg Int32.toInt ((up2_o hV33 (by decide)).trans ((up2_o hV37 (by decide)).trans ((up2_o hV25 (by decide)).trans (up2_o hV23 (by decide))))))
      have wr59 : (V33 68 gf).toInt = 4 := (congrArg Int32.toInt ((up2_o hV33 (by decide)).trans ((up2_o hV37 (by decide)).trans ((up2_o hV25 (by decide)).trans (up2_s hV23))))).trans (by decide)
      have wr60 : (V33 69 gf).toInt = ((V 69 gf)).toInt := (congrArg Int32.toInt ((up2_o hV33 (by decide)).trans ((up2_o hV37 (by decide)).trans ((up2_o hV25 (by decide)).trans (up2_o hV23 (by decide))))))
      have wr61 : (V33 70 gf).toInt = ((V 70 gf)).toInt := (congrArg Int32.toInt ((up2_o hV33 (by decide)).trans ((up2_o hV37 (by decide)).trans ((up2_o hV25 (by decide)).trans (up2_o hV23 (by decide))))))
      have wr62 : (V33 71 gf).toInt = ((V 71 gf)).toInt := (congrArg Int32.toInt ((up2_o hV33 (by decide)).trans ((up2_o hV37 (by decide)).trans ((up2_o hV25 (by decide)).trans (up2_o hV23 (by decide))))))
      have wr63 : (V33 72 gf).toInt = ((V 72 gf)).toInt := (congrArg Int32.toInt ((up2_o hV33 (by decide)).trans ((up2_o hV37 (by decide)).trans ((up2_o hV25 (by decide)).trans (up2_o hV23 (by decide))))))
      have wr64 : (V33 73 gf).toInt = ((V 73 gf)).toInt := (congrArg Int32.toInt ((up2_o hV33 (by decide)).trans ((up2_o hV37 (by decide)).trans ((up2_o hV25 (by decide)).trans (up2_o hV23 (by decide))))))
      have wr65 : (V33 75 gf).toInt = 0 := (congrArg Int32.toInt ((up2_o hV33 (by decide)).trans ((up2_o hV37 (by decide)).trans (up2_s hV25)))).trans (by decide)
      have me66 : ME V V33 gf := (ME.up (ME.up (ME.up (ME.up ME.rf hV23 (Or.inl ⟨by decide, by decide, Nat.le_refl _⟩)) hV25 (Or.inl ⟨by decide, by decide, Nat.le_refl _⟩)) hV37 (Or.inr (by (first | exact om_620f5006bfaa  | omega)))) hV33 (Or.inr (by (first | exact om_f41a5f4a8afd  | omega))))
      have rl67 : RWl V33 gB gr t0 := RWl.mv hlr (fun i9 hi9 c9 h1 h2 => me66.2.1 c9 i9 h1 h2 (by (first | exact om_d533758b7085 gd kdp rd rd2 pq47 hi9 | omega))) (fun j9 hj9 => ((up2_o hV33 (by decide)).trans ((up2_o hV37 (by decide)).trans ((up2_o hV25 (by decide)).trans (up2_o hV23 (by decide)))))) (by rw [((up2_o hV33 (by decide)).trans ((up2_o hV37 (by decide)).trans ((up2_o hV25 (by decide)).trans (up2_o hV23 (by decide)))))]; exact Int.le_refl _) ((up2_o hV33 (by decide)).trans ((up2_o hV37 (by decide)).trans ((up2_o hV25 (by decide)).trans (up2_o hV23 (by decide)))))
      have pq68 : (V33 5 7).toInt = ((V 5 7)).toInt := congrArg Int32.toInt ((up2_k hV33 (by decide)).trans ((up2_k hV37 (by decide)).trans ((up2_o hV25 (by decide)).trans (up2_o hV23 (by decide)))))
      have r69 : 0 ≤ ((V 5 7)).toInt ∧ ((V 5 7)).toInt ≤ 2048 := hMV 5 7
      have pq70 : (V33 5 11).toInt = ((V 5 11)).toInt := congrArg Int32.toInt ((up2_k hV33 (by decide)).trans ((up2_k hV37 (by decide)).trans ((up2_o hV25 (by decide)).trans (up2_o hV23 (by decide)))))
      have pq71 : (V33 5 12).toInt = ((V 5 12)).toInt := congrArg Int32.toInt ((up2_k hV33 (by decide)).trans ((up2_k hV37 (by decide)).trans ((up2_o hV25 (by decide)).trans (up2_o hV23 (by decide)))))
      have fo8 : FRc V33 gB gr.length (Fin4 lv o c sc me 0) := by rw [gl9]; exact ⟨⟨by (first | exact om_1a346c87806a gk pq39 | omega), by (first | exact om_c88e7ce0b8a2 pq40 | omega)⟩, ⟨by (first | exact om_cd7d0a6a31bc q69 wr60 | omega), ⟨by (first | exact om_cd7d0a6a31bc q70 pq41 | omega), by (first | exact om_72c355b130f5 fo q70 pq41 | omega), by (first | exact om_f57ef38931b8 fo ra2 q70 pq41 pq50 | omega)⟩, ⟨by (first | exact om_cd7d0a6a31bc q71 pq42 | omega), by (first | exact om_50e3d3ad91f5 r2 fc q71 pq42 | omega), by (first | exact om_e52dd4456e8b q71 c1 pq42 | omega)⟩, ⟨by (first | exact om_cd7d0a6a31bc q72 wr63 | omega), by omega, by omega⟩⟩, ⟨by (first | exact om_cd7d0a6a31bc q73 wr64 | omega), by (first | exact om_d140e5b90c17 q73 m0 m9 wr64 | omega), by (first | exact om_e1e057f4ae99 q73 m0 m9 wr64 | omega)⟩, by (first | exact om_b66ba74381d5 pq43 | omega)⟩
      have rz9 : RW V33 gB (mU gm 0 6 1, v, Fin4 lv o c sc me 0 :: gr) := RW.sgn rwq (ESw.ag (show agr [(5, 9), (5, 10)] [68, 75] V V33 from (agr.up (agr.up (agr.up (agr.up agr.rf hV23 rfl) hV25 rfl) hV37 rfl) hV33 rfl)) (by decide)) (by (first | exact om_710535a98d88 t30 | omega)) (fun _ => (up2_s hV33).trans q74) (fun h9 => absurd h9 (by decide)) (show (V33 5 6).toInt = ((gr.length + 1 : Nat) : Int) from by (first | exact om_66365ac95418 kdp rd rd2 pq47 | omega)) (show (V33 5 7).toInt = ((t0 : Nat) : Int) from by rw [((up2_k hV33 (by decide)).trans ((up2_k hV37 (by decide)).trans ((up2_o hV25 (by decide)).trans (up2_o hV23 (by decide))))), rt9, tz9]) (RWl.push rl67 fo8 rfl (np9 rfl))
      have rx72 : RW V33 gB (stM gB (gm, ga, gfr :: gr)) := by rw [hfe, st_8n fb9]; exact rz9
      refine W.know (fun kr1 kr2 => ?_)
      refine W.widen (k := zcc Z) (n := zss Z) (Nat.sub_le _ _) (Nat.sub_le _ _) ?_
      exact W.vret hx hb hr (fun t ht hW => ⟨⟨(V33, L, Z), rfl, ⟨hMV33, agV33, rfl, zoZ, rp55, rx72⟩, ⟨by rw [ht]; exact hP, va_K.moved hW.alike hK, hD⟩, by rw [ht]; exact kr1, by rw [ht]; exact kr2⟩, hS.F ht⟩) hS.2.2 dX5_beginInside_66
    · skip
      have f73 : z16.toInt ≠ (-1) := b_neq rfl (by decide) c21
      refine lv_aload_n hx hb dX5_beginInside_26 rfl (lv_at hl 2 rfl) ?_
      refine lv_iconst (v := 1) hx hb dX5_beginInside_27 (by decide) ?_
      refine va_putN (D := D) (ci := 4) (v := .int 1) (ty := tyX4 1) (fs := (xfFrame V gf)) (C := RX4) (T := TX4) (N := 19) hx hb hg inX4 tyX4 tyX4_ok nmX4 hown hK hP hD hS (336 + gf) (xgFrame hgf) rfl 1 (by decide) (hnw.use 1190 n1190 rfl) (fun _ h9 => h9) rfl (tyX4_ok 1 (by decide)) rfl rfl (Nat.le_of_ble_eq_true rfl) dX5_beginInside_28 (fun H locs hP hD hS => ?_)
      obtain ⟨V74, hV74⟩ : ∃ z, z = up2 V 68 gf 1 := ⟨_, rfl⟩
      have ew75 : (xw ad kk V L Z).set (336 + gf) ((Z.fa gf), .inr (4, (xfFrame V gf).set 1 (.int 1))) = xw ad kk V74 L Z := by rw [hV74]; exact xpFrame_phase hgf
      have hP : va_P D vwCl (xw ad kk V74 L Z) H := by rw [← ew75]; exact hP
      have hD : va_D A (xw ad kk V74 L Z) := by rw [← ew75]; exact hD
      have hMV74 : rgd bX V74 := hMV.put hV74 (i_full _)
      have agV74 : agr [(4, 5), (5, 6), (5, 9), (5, 10)] [33, 34, 35, 67, 68, 69, 70, 71, 72, 73, 74, 75, 76, 77, 78, 79, 80, 81, 82, 83, 84, 85] V V74 := agV.up hV74 rfl
      refine lv_aload_n hx hb dX5_beginInside_31 rfl (lv_at hl 1 rfl) ?_
      refine lv_aload_n hx hb dX5_beginInside_32 rfl (lv_at hl 2 rfl) ?_
      refine lv_iload_n hx hb dX5_beginInside_33 rfl (lv_at hl 0 rfl) ?_
      refine lv_aload_n hx hb dX5_beginInside_34 rfl (lv_at hl 2 rfl) ?_
      refine va_getN (D := D) (ci := 4) (v := .int (V74 74 gf)) (fs := (xfFrame V74 gf)) (C := RX4) (T := TX4) (N := 19) hx hb hg inX4 hown hK hP (336 + gf) (xgFrame hgf) rfl 7 (by decide) (hnw.use 1196 n1196 rfl) (fun _ h9 => h9) rfl dX5_beginInside_35 ?_
      refine g_top (v := (V 74 gf)) (up2_o hV74 (by decide)) ?_
      have pq76 : (V74 71 gf).toInt = ((V 71 gf)).toInt := congrArg Int32.toInt (up2_o hV74 (by decide))
      have pq77 : (V74 43 (5 * b + 2)).toInt = ((V 43 (5 * b + 2))).toInt := congrArg Int32.toInt (up2_o hV74 (by decide))
      have pq78 : (V74 3 13).toInt = ((V 3 13)).toInt := congrArg Int32.toInt (up2_o hV74 (by decide))
      have pq79 : (V74 70 gf).toInt = ((V 70 gf)).toInt := congrArg Int32.toInt (up2_o hV74 (by decide))
      have pq80 : (V74 41 b).toInt = ((V 41 b)).toInt := congrArg Int32.toInt (up2_o hV74 (by decide))
      have me81 : ME V V74 gf := (ME.up ME.rf hV74 (Or.inl ⟨by decide, by decide, Nat.le_refl _⟩))
      have pq82 : (V74 67 gf).toInt = ((V 67 gf)).toInt := congrArg Int32.toInt (up2_o hV74 (by decide))
      have pq83 : (V74 68 gf).toInt = 1 := (congrArg Int32.toInt (up2_s hV74)).trans (by decide)
      have pq84 : (V74 75 gf).toInt = ((V 75 gf)).toInt := congrArg Int32.toInt (up2_o hV74 (by decide))
      have pq85 : (V74 76 gf).toInt = ((V 76 gf)).toInt := congrArg Int32.toInt (up2_o hV74 (by decide))
      have pq86 : (V74 80 gf).toInt = ((V 80 gf)).toInt := congrArg Int32.toInt (up2_o hV74 (by decide))
      have pq87 : (V74 84 gf).toInt = ((V 84 gf)).toInt := congrArg Int32.toInt (up2_o hV74 (by decide))
      have pq88 : (V74 5 6).toInt = ((V 5 6)).toInt := congrArg Int32.toInt (up2_o hV74 (by decide))
      have pq89 : (V74 5 8).toInt = ((V 5 8)).toInt := congrArg Int32.toInt (up2_o hV74 (by decide))
      have pq90 : (V74 5 9).toInt = ((V 5 9)).toInt := congrArg Int32.toInt (up2_o hV74 (by decide))
      have pq91 : (V74 42 b).toInt = ((V 42 b)).toInt := congrArg Int32.toInt (up2_o hV74 (by decide))
      have mo92 : MO V74 Z b gf True True True := MO.ch mo me81 (up2_o hV74 (by decide)) (up2_o hV74 (by decide)) (fun _ => Or.inl (by (first | exact om_19a2929b0700 gk | omega))) (fun x h => FK.k3 (by first | exact om_1a346c87806a gk pq82 | first | omega | ((try (have i_t19 := Imp.go t19 (by omega))); omega)) (by first | exact om_fe4c0070b215 r2 fc q71 pq76 pq77 | first | omega | ((try (have i_t19 := Imp.go t19 (by omega))); omega)) (by first | exact om_48c11495e94c fo ra2 q70 pq78 pq79 | first | omega | ((try (have i_t19 := Imp.go t19 (by omega))); omega)) (by first | exact om_e435348e22e2 pq83 | first | omega | ((try (have i_t19 := Imp.go t19 (by omega))); omega)))
      have mt93 : MT V74 Z b := MO.mt mo92 (by (first | exact om_6f738fa1827e hgf gd kdp rd rd2 pq88 | omega)) (by (first | exact om_78ea3e5e24cc gd kdp rd rd2 pq88 | omega))
      refine W.know (fun k95 k96 => ?_)
      obtain ⟨Hk94, hHk94⟩ : ∃ z, z = H := ⟨_, rfl⟩
      have k95 : Hk94.size ≤ s.heap.size + (zcc Z - zcc Z) := by rw [hHk94]; exact k95
      have k96 : tot Hk94 ≤ tot s.heap + (zss Z - zss Z) := by rw [hHk94]; exact k96
      refine gZ_ref (gA_runV (As := [.ref (Z.fa gf), .int z16, .int (V 74 gf)]) (rest := []) (ci := 5) (q0 := 5) hx hb hml hown hg hP hD hK hS hA hnw hgk (x_workWrap9 l D ks H.size ad kk V74 L Z z16 (V 74 gf) (b) (gf) hMV74 (by first | exact om_009071f39707 rgz16 f73 | first | omega | ((try (have i_t19 := Imp.go t19 (by omega))); omega)) (show b < 2 from by first | exact om_289974d36c9f hb2 mup | first | omega | ((try (have i_t19 := Imp.go t19 (by omega))); omega)) (show gf < Z.nf from by first | exact om_d9a628b8387a hgf gd kdp rd rd2 pq88 | first | omega | ((try (have i_t19 := Imp.go t19 (by omega))); omega)) mt93 (show 0 ≤ (V74 71 gf).toInt ∧ (V74 71 gf).toInt < (V74 43 (5 * b + 2)).toInt from by first | exact om_fe4c0070b215 r2 fc q71 pq76 pq77 | first | omega | ((try (have i_t19 := Imp.go t19 (by omega))); omega)) (show 0 ≤ (V74 70 gf).toInt ∧ (V74 70 gf).toInt < (V74 3 13).toInt from by first | exact om_48c11495e94c fo ra2 q70 pq78 pq79 | first | omega | ((try (have i_t19 := Imp.go t19 (by omega))); omega)) (show z16.toInt < (V74 41 b).toInt from by first | exact om_b0d83b284294 rgz16 t20 f73 pq80 | first | omega | ((try (have i_t19 := Imp.go t19 (by omega))); omega))) w1403 w1405 w62 w171 w1406 rfl xgMachine hdV_yX5_workWrap ⟨Nat.le_of_ble_eq_true rfl, Nat.le_of_ble_eq_true rfl⟩ rfl hl.1 rfl (Nat.le_of_ble_eq_true rfl) dX5_beginInside_38 ⟨z1 zoZ.1, z1 zoZ.2.1⟩) hD hS hA (fun u98 H locs w99 hP hD hK hS y100 y101 => ?_)
      obtain ⟨V102, L103, Z104, f105⟩ := u98
      obtain ⟨hMV102, ajV102, axL103, zlZ104, ilf105, t106, t107, t108, t109, t110⟩ := w99
      have axL103 : L = L103 := Eq.symm axL103
      subst axL103
      replace hP : va_P D vwCl (xw ad kk V102 L Z104) H := hP
      replace hD : va_D A (xw ad kk V102 L Z104) := hD
      replace hK : va_K D vwCl (xty kk Z104) s := hK
      replace hMV102 : rgd bX V102 := hMV102
      replace ajV102 : agr [(4, 5), (5, 6), (5, 9)] [33, 34, 35, 67, 68, 69, 70, 71, 72, 73, 74, 75, 76, 77, 78, 79, 80, 81, 82, 83, 84, 85] V74 V102 := ajV102
      have agV102 : agr [(4, 5), (5, 6), (5, 9), (5, 10)] [33, 34, 35, 67, 68, 69, 70, 71, 72, 73, 74, 75, 76, 77, 78, 79, 80, 81, 82, 83, 84, 85] V V102 := agV74.tr ajV102 (by decide) (by decide)
      replace zlZ104 : ZL Z Z104 := zlZ104
      have zoZ104 : ZL Z Z104 := ZL.tr zoZ zlZ104
      have ziZ104 := zlZ104.1
      have zjZ104 := zlZ104.2.1
      have zkZ104 := zlZ104.2.2.1
      have zmZ104 := zoZ104.1
      have znZ104 := zoZ104.2.1
      have zpZ_Z104 := zoZ.1
      have zqZ_Z104 := zoZ.2.1
      have y100 : H.size ≤ Hk94.size + (zcc Z - zcc Z104) := by rw [hHk94]; exact y100
      have y101 : tot H ≤ tot Hk94 + (zss Z - zss Z104) := by rw [hHk94]; exact y101
      refine W.tight (k := zcc Z - zcc Z104) (n := zss Z - zss Z104) (by first | exact tg9 y100 k95 zlZ104.1 zoZ.1 | omega) (by first | exact tg9 y101 k96 zlZ104.2.1 zoZ.2.1 | omega) ?_
      have hl : lv_has ls 3 [(2, .int z16), (0, .ref (ad 5)), (1, .ref (Z104.fa gf))] := by rw [zlZ104.2.2.2.2 gf hgf]; exact hl
      replace ilf105 : f105 < Z104.nf := ilf105
      replace t106 : MJ V102 Z104 b := t106
      replace t107 : (f105 : Int) + 1 = (V102 5 6).toInt := t107
      replace t108 : (V102 67 f105).toInt = 4 ∧ (V102 68 f105).toInt = 0 := t108
      replace t109 : (V102 5 9).toInt = 0 := t109
      replace t110 : Imp ((V74 5 6).toInt < 400 ∧ (gf : Int) < (V74 5 6).toInt) (PWk V74 V102 gf ((V74 5 6).toInt.toNat) (V74 66 (12 * b + Int32.toNatClampNeg (V74 47 (12 * b + Int32.toNatClampNeg z16)))) (V 74 gf)) := t110
      have r111 : 0 ≤ ((V102 5 6)).toInt ∧ ((V102 5 6)).toInt ≤ 400 := hMV102 5 6
      have r112 : 0 ≤ ((V102 5 9)).toInt ∧ ((V102 5 9)).toInt ≤ 3 := hMV102 5 9
      refine lv_iload_n hx hb dX5_beginInside_41 rfl (lv_at hl 0 rfl) ?_
      refine lv_iconst (v := 1) hx hb dX5_beginInside_42 (by decide) ?_
      refine lv_iadd hx hb dX5_beginInside_43 ?_
      refine lv_topi (fun z113 ez113 => ?_)
      have hz113 : z113.toInt = z16.toInt + 1 := i_add ez113 rfl (by decide) (by (first | exact om_18ba364c8781 rgz16 | omega))
      refine va_putN (D := D) (ci := 4) (v := .int z113) (ty := tyX4 8) (fs := (xfFrame V102 f105)) (C := RX4) (T := TX4) (N := 19) hx hb hg inX4 tyX4 tyX4_ok nmX4 hown hK hP hD hS (336 + f105) (xgFrame ilf105) rfl 8 (by decide) (hnw.use 1197 n1197 rfl) (fun _ h9 => h9) rfl (tyX4_ok 8 (by decide)) rfl rfl (Nat.le_of_ble_eq_true rfl) dX5_beginInside_44 (fun H locs hP hD hS => ?_)
      obtain ⟨V114, hV114⟩ : ∃ z, z = up2 V102 75 f105 z113 := ⟨_, rfl⟩
      have ew115 : (xw ad kk V102 L Z104).set (336 + f105) ((Z104.fa f105), .inr (4, (xfFrame V102 f105).set 8 (.int z113))) = xw ad kk V114 L Z104 := by rw [hV114]; exact xpFrame_position ilf105
      have hP : va_P D vwCl (xw ad kk V114 L Z104) H := by rw [← ew115]; exact hP
      have hD : va_D A (xw ad kk V114 L Z104) := by rw [← ew115]; exact hD
      have hMV114 : rgd bX V114 := hMV102.put hV114 (show 0 ≤ z113.toInt ∧ z113.toInt ≤ 12 from by first | exact om_d751351becc6 rgz16 hz113 | first | omega | ((try (have i_t19 := Imp.go t19 (by omega))); omega))
      have agV114 : agr [(4, 5), (5, 6), (5, 9), (5, 10)] [33, 34, 35, 67, 68, 69, 70, 71, 72, 73, 74, 75, 76, 77, 78, 79, 80, 81, 82, 83, 84, 85] V V114 := agV102.up hV114 rfl
      have rp116 : MJ V114 Z104 b := MJ.pos t106 t107 (by (first | exact om_7d090918b763 ilf105 t107 | omega)) t108.1 t108.2 hV114
      have pq9 : Int32.toNatClampNeg (V 71 gf) = c.toNat := by have h9 := i_clamp (x := (V 71 gf)) rfl (by (first | exact om_c486a88bcb1e r2 fc q71 pq76 | omega)); (first | exact om_043ed8ee8a8a kc9 | omega)
      have wl9 := (BKc.wl bc).2.2
      have fe9 : ∀ j : Nat, FWo V b j (Int32.toInt 1) (Int32.toNatClampNeg (V 71 gf)) ((V 73 gf)).toInt = FWo V b j ((1 : Nat) : Int) c.toNat ((me.toNat : Nat) : Int) := fun j => by rw [pq9, show Int32.toInt 1 = ((1 : Nat) : Int) from by decide, show ((V 73 gf)).toInt = ((me.toNat : Nat) : Int) from by (first | exact om_10771063345f q73 m0 m9 | omega)]
      have fz9 := t20.resolve_left (fun h8 => by have h7 := h8.1; (first | exact om_364eb62e0693 f73 ziZ104 zjZ104 hz113 h8 | omega))
      have fb9 : fF (bW gB) (isF gB 1 c.toNat me.toNat) ps.toNat = some z16.toInt.toNat := BKc.fFy bc cn9 (by have h9 := fz9.1; (first | exact om_15052459f04c r3 r11 q75 rgz16 pq80 pq84 hz113 wl9 fz9 | omega)) (by have h9 := fz9.1; (first | exact om_259c96df187d r3 q75 rgz16 pq84 hz113 fz9 | omega)) (by rw [← fe9]; exact fz9.2.1) (fun j9 h1 h2 => by rw [← fe9]; exact fz9.2.2 j9 (by (first | exact om_f98d36ec61f4 r3 q75 pq84 h1 h2 | omega)) (by (first | exact om_c5a38812c908 h2 | omega)))
      have pw := Imp.go t110 ⟨by (first | exact om_8c4987203dea gd r1 kdp rd rd2 sl9 pq88 | omega), by (first | exact om_ad89da6ade58 gd kdp rd rd2 pq88 | omega)⟩
      have pi9 : (V74 5 6).toInt.toNat = gr.length + 1 := by (first | exact om_c7704909093d gd r1 kdp rd rd2 sl9 pq88 | omega)
      rw [pi9] at pw
      obtain ⟨⟨pd1, pd2, pke⟩, ⟨pk1, pk2⟩, ⟨p69, p70, p71, p72, p73⟩, pag, pat, pba, pps⟩ := pw
      have wr117 : (V114 3 13).toInt = (V 3 13).toInt := congrArg Int32.toInt ((up2_o hV114 (by decide)).trans ((ajV102 3 13 rfl).trans (up2_o hV74 (by decide))))
      have wr118 : (V114 3 12).toInt = (V 3 12).toInt := congrArg Int32.toInt ((up2_o hV114 (by decide)).trans ((ajV102 3 12 rfl).trans (up2_o hV74 (by decide))))
      have fx9 : f105 = gr.length + 1 := by (first | exact om_12eccad4bcdc kdp rd rd2 pq88 t107 pi9 pd1 | omega)
      rw [fx9] at hV114
      have pk1 : (V114 67 (gr.length + 1)).toInt = 4 := by rw [up2_o hV114 (by decide)]; exact pk1
      have pk2 : (V114 68 (gr.length + 1)).toInt = 0 := by rw [up2_o hV114 (by decide)]; exact pk2
      have pd2 : (V114 5 9).toInt = 0 := by rw [up2_o hV114 (by decide)]; exact pd2
      have pd1 : (V114 5 6).toInt = (V74 5 6).toInt + 1 := by rw [up2_o hV114 (by decide)]; exact pd1
      have p69 := (up2_o hV114 (by decide : (69 : Nat) ≠ 75)).trans p69
      have p70 := (up2_o hV114 (by decide : (70 : Nat) ≠ 75)).trans p70
      have p71 := (up2_o hV114 (by decide : (71 : Nat) ≠ 75)).trans p71
      have p72 := (up2_o hV114 (by decide : (72 : Nat) ≠ 75)).trans p72
      have p73 := (up2_o hV114 (by decide : (73 : Nat) ≠ 75)).trans p73
      have pag := (up2_o hV114 (by decide : (74 : Nat) ≠ 75)).trans pag
      have pat := (up2_o hV114 (by decide : (84 : Nat) ≠ 75)).trans pat
      have pba := (up2_o hV114 (by decide : (85 : Nat) ≠ 75)).trans pba
      have pke : ∀ j, j < gr.length + 1 → ∀ c, 67 ≤ c → c ≤ 85 → V114 c j = V74 c j := fun j hj c h1 h2 => (show V114 c j = V102 c j from by rw [hV114]; exact up2_pl (by (first | exact om_cc62dce72194 kdp rd rd2 pq88 pi9 pd1 hj | omega))).trans (pke j hj c h1 h2)
      have w75 : (V114 75 (gr.length + 1)).toInt = z113.toInt := by rw [up2_s hV114]
      have wr119 : (V114 67 gf).toInt = ((V 67 gf)).toInt := (congrArg Int32.toInt ((pke gf (by (first | exact om_c9f168eff5a6 gd kdp rd rd2 | omega)) 67 (by decide) (by decide)).trans (up2_o hV74 (by decide))))
      have wr120 : (V114 68 gf).toInt = 1 := (congrArg Int32.toInt ((pke gf (by (first | exact om_c9f168eff5a6 gd kdp rd rd2 | omega)) 68 (by decide) (by decide)).trans (up2_s hV74))).trans (by decide)
      have wr121 : (V114 69 gf).toInt = ((V 69 gf)).toInt := (congrArg Int32.toInt ((pke gf (by (first | exact om_c9f168eff5a6 gd kdp rd rd2 | omega)) 69 (by decide) (by decide)).trans (up2_o hV74 (by decide))))
      have wr122 : (V114 70 gf).toInt = ((V 70 gf)).toInt := (congrArg Int32.toInt ((pke gf (by (first | exact om_c9f168eff5a6 gd kdp rd rd2 | omega)) 70 (by decide) (by decide)).trans (up2_o hV74 (by decide))))
      have wr123 : (V114 71 gf).toInt = ((V 71 gf)).toInt := (congrArg Int32.toInt ((pke gf (by (first | exact om_c9f168eff5a6 gd kdp rd rd2 | omega)) 71 (by decide) (by decide)).trans (up2_o hV74 (by decide))))
      have wr124 : (V114 72 gf).toInt = ((V 72 gf)).toInt := (congrArg Int32.toInt ((pke gf (by (first | exact om_c9f168eff5a6 gd kdp rd rd2 | omega)) 72 (by decide) (by decide)).trans (up2_o hV74 (by decide))))
      have wr125 : (V114 73 gf).toInt = ((V 73 gf)).toInt := (congrArg Int32.toInt ((pke gf (by (first | exact om_c9f168eff5a6 gd kdp rd rd2 | omega)) 73 (by decide) (by decide)).trans (up2_o hV74 (by decide))))
      have wr126 : (V114 69 (gr.length + 1)).toInt = ((V 69 gf)).toInt := (congrArg Int32.toInt (p69.trans (up2_o hV74 (by decide))))
      have wr127 : (V114 70 (gr.length + 1)).toInt = ((V 70 gf)).toInt := (congrArg Int32.toInt (p70.trans (up2_o hV74 (by decide))))
      have wr128 : (V114 71 (gr.length + 1)).toInt = ((V 71 gf)).toInt := (congrArg Int32.toInt (p71.trans (up2_o hV74 (by decide))))
      have wr129 : (V114 72 (gr.length + 1)).toInt = ((V 72 gf)).toInt := (congrArg Int32.toInt (p72.trans (up2_o hV74 (by decide))))
      have wr130 : (V114 73 (gr.length + 1)).toInt = ((V 73 gf)).toInt := (congrArg Int32.toInt (p73.trans (up2_o hV74 (by decide))))
      have me131 : ME V102 V114 gf := (ME.up ME.rf hV114 (Or.inl ⟨by decide, by decide, by first | exact om_baa485bad1fd gd kdp rd rd2 | first | omega | ((try (have i_t19 := Imp.go t19 (by omega))); omega)⟩))
      have me132 : ME V V74 gf := (ME.up ME.rf hV74 (Or.inl ⟨by decide, by decide, Nat.le_refl _⟩))
      have rl133 : RWl V114 gB gr t0 := RWl.mv hlr (fun i9 hi9 c9 h1 h2 => by first | exact ((me131.2.1 c9 i9 h1 h2 (by omega)).trans (pke i9 (by omega) c9 h1 h2)).trans (me132.2.1 c9 i9 h1 h2 (by omega)) | exact ((pke i9 (by (first | exact om_f283c5eb8ec7 kdp rd rd2 pq88 pi9 pd1 hi9 | omega)) c9 h1 h2)).trans (me132.2.1 c9 i9 h1 h2 (by (first | exact om_adcc4b3b148a gd kdp rd rd2 pq88 pi9 pd1 hi9 | omega)))) (fun j9 hj9 => ((up2_o hV114 (by decide)).trans ((ajV102 39 j9 rfl).trans (up2_o hV74 (by decide))))) (by rw [((up2_o hV114 (by decide)).trans ((ajV102 3 13 rfl).trans (up2_o hV74 (by decide))))]; exact Int.le_refl _) ((up2_o hV114 (by decide)).trans ((ajV102 3 12 rfl).trans (up2_o hV74 (by decide))))
      have me134 : ME V V74 0 := (ME.up ME.rf hV74 (Or.inl ⟨by decide, by decide, by first | exact om_3018c5fabf51 gd r1 kdp rd rd2 sl9 pq88 pi9 pd1 | first | omega | ((try (have i_t19 := Imp.go t19 (by omega))); omega)⟩))
      have bc135 : BKc V74 b gB := BKc.be bc me134.1
      have wi9 := BKc.wi bc135 (i := z16.toInt.toNat) (by have h9 := fz9.1; (first | exact om_4a3401ff444d r3 q75 rgz16 pq80 pq84 hz113 wl9 fz9 w75 | omega))
      have at9 : (V114 84 (gr.length + 1)).toInt = ((psz (opf gB.1) (wAt gB z16.toInt.toNat) : Nat) : Int) := by rw [pat, show Int32.toNatClampNeg z16 = z16.toInt.toNat from rfl, wi9.1]; exact wi9.2.2.1.2.2.2.2.1
      have fb8 : FRc V114 gB gr.length (Fin1 lv o c sc me) := by rw [gl9]; exact ⟨⟨by (first | exact om_1a346c87806a gk wr119 | omega), by (first | exact om_710535a98d88 wr120 | omega)⟩, ⟨by (first | exact om_cd7d0a6a31bc q69 wr121 | omega), ⟨by (first | exact om_25a0d8f2ad9d q70 pq79 wr122 | omega), by (first | exact om_cde1043e41d2 fo q70 pq79 wr122 wr127 | omega), by (first | exact om_08fccd1b2dd4 fo ra2 q70 pq78 pq79 wr117 wr122 wr127 | omega)⟩, ⟨by (first | exact om_25a0d8f2ad9d q71 pq76 wr123 | omega), by (first | exact om_ef3327caed94 r2 fc q71 pq76 wr123 wr128 | omega), by (first | exact om_c5674933d51c q71 c1 pq76 wr123 wr128 | omega)⟩, ⟨by (first | exact om_cd7d0a6a31bc q72 wr124 | omega), by omega, by omega⟩⟩, ⟨by (first | exact om_cd7d0a6a31bc q73 wr125 | omega), by (first | exact om_3b6eeda82e53 q73 m0 m9 wr125 wr130 | omega), by (first | exact om_7ca5daae6e6d q73 m0 m9 wr125 wr130 | omega)⟩⟩
      have ft9 : FRc V114 gB (gr.length + 1) (Fwork lv o c sc me ((z16.toInt.toNat + 1 : Nat) : Int) ((wAt gB z16.toInt.toNat : Nat) : Int) v []) := ⟨⟨pk1, pk2⟩, ⟨by (first | exact om_25a0d8f2ad9d q69 wr121 wr126 | omega), ⟨by (first | exact om_6ba44aa2159d q70 pq79 wr122 wr127 | omega), by (first | exact om_cde1043e41d2 fo q70 pq79 wr122 wr127 | omega), by (first | exact om_08fccd1b2dd4 fo ra2 q70 pq78 pq79 wr117 wr122 wr127 | omega)⟩, ⟨by (first | exact om_6ba44aa2159d q71 pq76 wr123 wr128 | omega), by (first | exact om_ef3327caed94 r2 fc q71 pq76 wr123 wr128 | omega), by (first | exact om_c5674933d51c q71 c1 pq76 wr123 wr128 | omega)⟩, ⟨by (first | exact om_25a0d8f2ad9d q72 wr124 wr129 | omega), by omega, by omega⟩⟩, (fun _ => ⟨by (first | exact om_25a0d8f2ad9d q73 wr125 wr130 | omega), by (first | exact om_3b6eeda82e53 q73 m0 m9 wr125 wr130 | omega), by (first | exact om_7ca5daae6e6d q73 m0 m9 wr125 wr130 | omega), by (first | exact om_4ad7875a6333 r3 q75 rgz16 pq84 hz113 fz9 w75 | omega)⟩), ⟨Int.natCast_nonneg _, at9⟩, pag.trans q74⟩
      have rz9 : RW V114 gB (mU gm 0 6 0, ga, Fwork lv o c sc me ((z16.toInt.toNat + 1 : Nat) : Int) ((wAt gB z16.toInt.toNat : Nat) : Int) v [] :: Fin1 lv o c sc me :: gr) := RW.sgn rwq (ESw.ag (show agr [(4, 5), (5, 6), (5, 9)] [33, 34, 35, 67, 68, 69, 70, 71, 72, 73, 74, 75, 76, 77, 78, 79, 80, 81, 82, 83, 84, 85] V V114 from (agr.up (agr.tr (agr.up agr.rf hV74 rfl) ajV102 (by decide) (by decide)) hV114 rfl)) (by decide)) pd2 (fun h9 => absurd h9 (by decide)) (fun h9 => absurd h9 (by decide)) (show (V114 5 6).toInt = ((gr.length + 1 + 1 : Nat) : Int) from by (first | exact om_ea487894bae3 kdp rd rd2 pq88 pi9 pd1 | omega)) (show (V114 5 7).toInt = ((t0 : Nat) : Int) from by rw [(show agr [(4, 5), (5, 6), (5, 9)] [33, 34, 35, 67, 68, 69, 70, 71, 72, 73, 74, 75, 76, 77, 78, 79, 80, 81, 82, 83, 84, 85] V V114 from (agr.up (agr.tr (agr.up agr.rf hV74 rfl) ajV102 (by decide) (by decide)) hV114 rfl)) 5 7 rfl, rt9, tz9]) (RWl.push (RWl.push rl133 fb8 rfl (np9 rfl)) ft9 rfl (fun _ _ => (show (V114 85 (gr.length + 1)).toInt = ((t0 : Nat) : Int) from by rw [pba, (up2_o hV74 (by decide)), rt9, tz9])))
      have rx136 : RW V114 gB (stM gB (gm, ga, gfr :: gr)) := by rw [hfe, st_8y fb9]; exact rz9
      refine W.know (fun kr1 kr2 => ?_)
      refine W.widen (k := zcc Z) (n := zss Z) (Nat.sub_le _ _) (Nat.sub_le _ _) ?_
      exact W.vret hx hb hr (fun t ht hW => ⟨⟨(V114, L, Z104), rfl, ⟨hMV114, agV114, rfl, zoZ104, rp116, rx136⟩, ⟨by rw [ht]; exact hP, va_K.moved hW.alike hK, hD⟩, by rw [ht]; exact kr1, by rw [ht]; exact kr2⟩, hS.F ht⟩) hS.2.2 dX5_beginInside_47
  · skip
    have hf : FRc V gB gf (Fin1 lv o c sc me) := by rw [← hfe]; exact hf0
    have tl8 : tw9 = t0 + (Fin1 lv o c sc me : Fr).2.2.2.length := by rw [← hfe]; exact tl9
    obtain ⟨⟨k67, k68⟩, hoc, ⟨q73, m0, m9⟩⟩ := hf
    obtain ⟨q69, ⟨q70, o0, o1⟩, ⟨q71, c0, c1⟩, ⟨q72, s0, s1⟩⟩ := hoc
    have cn9 : c.toNat < nC gB := by (first | exact om_6c2f0f05a756 ph0 k68 | omega)
    have kc9 : Int32.toNatClampNeg (V 71 gf) = c.toNat := by have h9 := i_clamp (x := V 71 gf) rfl (by (first | exact om_ef9c9cc17dc9 ph0 k68 | omega)); (first | exact om_b2276f935478 ph0 k68 | omega)
    have tz9 : tw9 = t0 := tl8
    exfalso; (first | exact om_4c701f2d8c50 ph0 k68 | omega)
  · skip
    have hf : FRc V gB gf (Fin4 lv o c sc me ps) := by rw [← hfe]; exact hf0
    have tl8 : tw9 = t0 + (Fin4 lv o c sc me ps : Fr).2.2.2.length := by rw [← hfe]; exact tl9
    obtain ⟨⟨k67, k68⟩, hoc, ⟨q73, m0, m9⟩, q75⟩ := hf
    obtain ⟨q69, ⟨q70, o0, o1⟩, ⟨q71, c0, c1⟩, ⟨q72, s0, s1⟩⟩ := hoc
    have cn9 : c.toNat < nC gB := by (first | exact om_c7b53b85fbda ph0 k68 | omega)
    have kc9 : Int32.toNatClampNeg (V 71 gf) = c.toNat := by have h9 := i_clamp (x := V 71 gf) rfl (by (first | exact om_14046077ecd0 ph0 k68 | omega)); (first | exact om_247a125f2af1 ph0 k68 | omega)
    have tz9 : tw9 = t0 := tl8
    exfalso; (first | exact om_f99e5fb39dfa ph0 k68 | omega)
  · skip
    have hf : FRc V gB gf (Fin5 lv o c sc me ps) := by rw [← hfe]; exact hf0
    have tl8 : tw9 = t0 + (Fin5 lv o c sc me ps : Fr).2.2.2.length := by rw [← hfe]; exact tl9
    obtain ⟨⟨k67, k68⟩, hoc, ⟨q73, m0, m9⟩, q75⟩ := hf
    obtain ⟨q69, ⟨q70, o0, o1⟩, ⟨q71, c0, c1⟩, ⟨q72, s0, s1⟩⟩ := hoc
    have cn9 : c.toNat < nC gB := by (first | exact om_607645d47e94 ph0 k68 | omega)
    have kc9 : Int32.toNatClampNeg (V 71 gf) = c.toNat := by have h9 := i_clamp (x := V 71 gf) rfl (by (first | exact om_332312e722d9 ph0 k68 | omega)); (first | exact om_97caea04281c ph0 k68 | omega)
    have tz9 : tw9 = t0 := tl8
    exfalso; (first | exact om_64e1a571bc6e ph0 k68 | omega)
abbrev r_x_nextBefore9 (Z : XZ) : Room := { frames := 5, cells := zcc Z, slots := zss Z, locals := 115 }
abbrev q_x_nextBefore9 (D : va_G) (ks : KS) (ad : Nat → Nat) (kk : Nat → ClassId) (V : Vf) (L : Lf) (Z : XZ) (b : Nat) (gf : Nat) (gB : Bk) (gm : Mm) (ga : Int32) (gfr : Fr) (gr : List Fr) (A : Nat → Prop) : Array Value → State → Outcome → State → Prop := qZv D (fun (u : Vf × Lf × XZ) => rgd bX u.1 ∧ agr [(4, 5), (5, 6), (5, 9), (5, 11), (5, 12)] [33, 34, 35, 67, 68, 69, 70, 71, 72, 73, 74, 75, 76, 77, 78, 79, 80, 81, 82, 83, 84, 85] V u.1 ∧ u.2.1 = L ∧ ZL Z u.2.2 ∧ (MJ u.1 u.2.2 b) ∧ (RW u.1 gB (stM gB (gm, ga, gfr :: gr)))) (fun u => xw ad kk u.1 u.2.1 u.2.2) (fun u => xty kk u.2.2) (fun u => zcc Z - zcc u.2.2) (fun u => zss Z - zss u.2.2) A
set_option maxHeartbeats 4000000 in
set_option maxRecDepth 100000 in
theorem x_nextBefore9 (l : Launch) (D : va_G) (ks : KS) (sz : Nat) (ad : Nat → Nat) (kk : Nat → ClassId) (V : Vf) (L : Lf) (Z : XZ) (b : Nat) (gf : Nat) (gB : Bk) (gm : Mm) (ga : Int32) (gfr : Fr) (gr : List Fr) (hMV : rgd bX V) (hb2 : b < 2) (hgf : gf < Z.nf) (mo : MO V Z b gf True (QN V b) (QN V b)) (gd : (gf : Int) + 1 = (V 5 6).toInt) (gk : (V 67 gf).toInt = 3) (hph : (V 68 gf).toInt = 4) (rwq : RW V gB (gm, ga, gfr :: gr)) (bc : BKc V b gB) (sf : SF gB (gm, ga, gfr :: gr)) (ph0 : (V 68 gf).toInt = 4) (a74 : V 74 gf = ga) (sg1 : (V 5 9).toInt = 1)  : Met l yX5_nextBefore (Cond.code yX5_nextBefore cX5_nextBefore 4 none :: GW) (r_x_nextBefore9 Z) (va_Pc [.ref (ad 5), .ref (Z.fa gf)] (gp D ks (xw ad kk V L Z) (xty kk Z) sz)) (q_x_nextBefore9 D ks ad kk V L Z  b gf gB gm ga gfr gr (va_A (xw ad kk V L Z) sz)) (zcc Z) (zss Z) (va_A (xw ad kk V L Z) sz) := by
  refine g_met (q_x_nextBefore9 D ks ad kk V L Z  b gf gB gm ga gfr gr) (by decide) (Nat.le_of_ble_eq_true rfl) ?_
  intro p e s m below meth c A ls H locs hx hb hr hml hown hg hlocks hin hnw hgk hP hK hD hS hA hl
  replace hown : s.vm.findClass RX5 = some m.cls := hown
  replace hl : lv_has ls 4 [(0, .ref (ad 5)), (1, .ref (Z.fa gf))] := hl
  replace hP : va_P D vwCl (xw ad kk V L Z) H := hP
  replace hD : va_D A (xw ad kk V L Z) := hD
  replace hK : va_K D vwCl (xty kk Z) s := hK
  have agV : agr [(4, 5), (5, 6), (5, 9), (5, 11), (5, 12)] [33, 34, 35, 67, 68, 69, 70, 71, 72, 73, 74, 75, 76, 77, 78, 79, 80, 81, 82, 83, 84, 85] V V := agr.rf
  have zoZ : ZL Z Z := ZL.rf
  refine W.know (fun ka kb => ?_)
  refine W.tight (k := zcc Z - zcc Z) (n := zss Z - zss Z) (by (first | exact om_7244b830ee02 ka | omega)) (by (first | exact om_7244b830ee02 kb | omega)) ?_
  have r1 : 0 ≤ ((V 5 6)).toInt ∧ ((V 5 6)).toInt ≤ 400 := hMV 5 6
  have r2 : 0 ≤ ((V 5 9)).toInt ∧ ((V 5 9)).toInt ≤ 3 := hMV 5 9
  have kdp := i_clamp (x := V 5 6) rfl (by (first | exact om_e301311e2a25 gd r1 | omega))
  have hdn : (gf : Int) + 1 ≤ (Z.nf : Int) := by (first | exact om_bb8713a56da6 hgf gd kdp | omega)
  have mup := MO.up mo
  have msz := mup.1
  have mbk := mup.2.2.2.1
  obtain ⟨xk, fk⟩ := MO.fk mo
  have r3 : (-1) ≤ ((V 71 gf)).toInt ∧ ((V 71 gf)).toInt ≤ 23 := hMV 71 gf
  have r4 : 0 ≤ ((V 75 gf)).toInt ∧ ((V 75 gf)).toInt ≤ 12 := hMV 75 gf
  have r5 : 0 ≤ ((V 80 gf)).toInt ∧ ((V 80 gf)).toInt ≤ 300 := hMV 80 gf
  have r6 : 0 ≤ ((V 84 gf)).toInt ∧ ((V 84 gf)).toInt ≤ 2147483647 := hMV 84 gf
  have r7 : 0 ≤ ((V 5 8)).toInt ∧ ((V 5 8)).toInt ≤ 300 := hMV 5 8
  have r8 : 0 ≤ ((V 3 13)).toInt ∧ ((V 3 13)).toInt ≤ 300 := hMV 3 13
  have r9 : 0 ≤ ((V 43 (5 * b + 2))).toInt ∧ ((V 43 (5 * b + 2))).toInt ≤ ((xcap (5 * b + 2) : Nat) : Int) := hMV 43 (5 * b + 2)
  have r10 : xcap (5 * b + 2) = 24 := xcap_2
  have r11 : 0 ≤ ((V 41 b)).toInt ∧ ((V 41 b)).toInt ≤ 12 := hMV 41 b
  have r12 : 0 ≤ ((V 42 b)).toInt ∧ ((V 42 b)).toInt ≤ 8200 := hMV 42 b
  have fc := fk.1 (by (first | exact om_19a2929b0700 gk | omega))
  have fo := fk.2.1 (by (first | exact om_19a2929b0700 gk | omega)) (by (first | exact om_2ac8fade1515 gk | omega))
  have fp := fk.2.2.2.2.2.2.2.2.1 (by (first | exact om_395e3da5ee0d gk | omega))
  have m1 : Int32.toInt (-1) = -1 := by decide
  have rw0 := rwq
  obtain ⟨⟨ow, rn⟩, rh, rd, tw9, rt9, rl⟩ := rw0
  replace rn : RWn V ow gB gm := rn
  replace rh : RWh V gm ga := rh
  have rd2 : (V 5 6).toInt = ((gr.length + 1 : Nat) : Int) := rd
  have gl9 : gr.length = gf := by (first | exact om_737fc00ff7e4 gd kdp rd rd2 | omega)
  have sl9 : gr.length ≤ 394 := by have h9 : gr.length + 1 ≤ 395 := sf.1; (first | exact om_5c206326bd12 gd r1 kdp rd rd2 h9 | omega)
  have rh1 : (V 5 9).toInt = gm 0 6 := rh.1
  have ra2 : (V 3 13).toInt = gm 0 2 := rn.1.1.2.2.1
  have rl0 := rl
  obtain ⟨t0, tl9, hf0, hbs9, hpl9, hlr⟩ := rl0
  rw [gl9] at hf0 hbs9
  rcases FRc.k3 hf0 gk with ⟨lv, o, c, sc, me, ps, v, hfe⟩ | ⟨lv, o, c, sc, me, hfe⟩ | ⟨lv, o, c, sc, me, ps, hfe⟩ | ⟨lv, o, c, sc, me, ps, hfe⟩
  · skip
    have hf : FRc V gB gf (Fin0 lv o c sc me ps v) := by rw [← hfe]; exact hf0
    have tl8 : tw9 = t0 + (Fin0 lv o c sc me ps v : Fr).2.2.2.length := by rw [← hfe]; exact tl9
    obtain ⟨⟨k67, k68⟩, hoc, ⟨q73, m0, m9⟩, q75, q74⟩ := hf
    obtain ⟨q69, ⟨q70, o0, o1⟩, ⟨q71, c0, c1⟩, ⟨q72, s0, s1⟩⟩ := hoc
    have cn9 : c.toNat < nC gB := by (first | exact om_653212b39e38 hph k68 | omega)
    have kc9 : Int32.toNatClampNeg (V 71 gf) = c.toNat := by have h9 := i_clamp (x := V 71 gf) rfl (by (first | exact om_8923222ad364 hph k68 | omega)); (first | exact om_ba6d23b43295 hph k68 | omega)
    have tz9 : tw9 = t0 := tl8
    exfalso; (first | exact om_284393523387 hph k68 | omega)
  · skip
    have hf : FRc V gB gf (Fin1 lv o c sc me) := by rw [← hfe]; exact hf0
    have tl8 : tw9 = t0 + (Fin1 lv o c sc me : Fr).2.2.2.length := by rw [← hfe]; exact tl9
    obtain ⟨⟨k67, k68⟩, hoc, ⟨q73, m0, m9⟩⟩ := hf
    obtain ⟨q69, ⟨q70, o0, o1⟩, ⟨q71, c0, c1⟩, ⟨q72, s0, s1⟩⟩ := hoc
    have cn9 : c.toNat < nC gB := by (first | exact om_3d5c1fd542f7 hph k68 | omega)
    have kc9 : Int32.toNatClampNeg (V 71 gf) = c.toNat := by have h9 := i_clamp (x := V 71 gf) rfl (by (first | exact om_14b01bfbc126 hph k68 | omega)); (first | exact om_5ad423db35be hph k68 | omega)
    have tz9 : tw9 = t0 := tl8
    exfalso; (first | exact om_bc61cb1a4a69 hph k68 | omega)
  · skip
    have hf : FRc V gB gf (Fin4 lv o c sc me ps) := by rw [← hfe]; exact hf0
    have tl8 : tw9 = t0 + (Fin4 lv o c sc me ps : Fr).2.2.2.length := by rw [← hfe]; exact tl9
    obtain ⟨⟨k67, k68⟩, hoc, ⟨q73, m0, m9⟩, q75⟩ := hf
    obtain ⟨q69, ⟨q70, o0, o1⟩, ⟨q71, c0, c1⟩, ⟨q72, s0, s1⟩⟩ := hoc
    have cn9 : c.toNat < nC gB := by (first | exact om_51a08a25bfb6 r3 fc q71 c1 | omega)
    have kc9 : Int32.toNatClampNeg (V 71 gf) = c.toNat := by have h9 := i_clamp (x := V 71 gf) rfl (by (first | exact om_762d7ad45f4b r3 fc q71 | omega)); (first | exact om_57d2b76748c0 r3 fc q71 h9 | omega)
    have tz9 : tw9 = t0 := tl8
    refine lv_aload_n hx hb dX5_nextBefore_0 rfl (lv_at hl 0 rfl) ?_
    refine va_get (D := D) (ci := 5) (v := .ref (ad (38 + Int32.toNatClampNeg (V 5 5)))) (fs := (xfMachine ad V L Z)) (C := RX5) (T := TX5) (N := 15) hx hb hg inX5 hown hK hP 5 xgMachine rfl 5 (by decide) (hg _ w672) (fun _ h9 => h9) rfl dX5_nextBefore_1 ?_
    have r13 : 0 ≤ ((V 5 5)).toInt ∧ ((V 5 5)).toInt ≤ 1 := hMV 5 5
    refine g_topv (v := .ref (ad (38 + b))) (rfP (by (first | exact om_c62f5505ba8e mup | omega))) ?_
    refine lv_aload_n hx hb dX5_nextBefore_4 rfl (lv_at hl 1 rfl) ?_
    refine va_getN (D := D) (ci := 4) (v := .int (V 75 gf)) (fs := (xfFrame V gf)) (C := RX4) (T := TX4) (N := 19) hx hb hg inX4 hown hK hP (336 + gf) (xgFrame hgf) rfl 8 (by decide) (hnw.use 1197 n1197 rfl) (fun _ h9 => h9) rfl dX5_nextBefore_5 ?_
    refine lv_iconst (v := 0) hx hb dX5_nextBefore_8 (by decide) ?_
    refine lv_aload_n hx hb dX5_nextBefore_9 rfl (lv_at hl 1 rfl) ?_
    refine va_getN (D := D) (ci := 4) (v := .int (V 71 gf)) (fs := (xfFrame V gf)) (C := RX4) (T := TX4) (N := 19) hx hb hg inX4 hown hK hP (336 + gf) (xgFrame hgf) rfl 4 (by decide) (hnw.use 1193 n1193 rfl) (fun _ h9 => h9) rfl dX5_nextBefore_10 ?_
    refine lv_aload_n hx hb dX5_nextBefore_13 rfl (lv_at hl 1 rfl) ?_
    refine va_getN (D := D) (ci := 4) (v := .int (V 73 gf)) (fs := (xfFrame V gf)) (C := RX4) (T := TX4) (N := 19) hx hb hg inX4 hown hK hP (336 + gf) (xgFrame hgf) rfl 6 (by decide) (hnw.use 1195 n1195 rfl) (fun _ h9 => h9) rfl dX5_nextBefore_14 ?_
    have r14 : 0 ≤ ((V 73 gf)).toInt ∧ ((V 73 gf)).toInt ≤ 19 := hMV 73 gf
    have r15 : Int32.toInt 0 = 0 := by decide
    refine gA_int (gA_runV (As := [.int (V 75 gf), .int 0, .int (V 71 gf), .int (V 73 gf)]) (rest := []) (ci := 0) (q0 := (38 + b)) hx hb hml hown hg hP hD hK hS hA hnw hgk (x_wrapFrom9 l D ks H.size ad kk V L Z (V 75 gf) 0 (V 71 gf) (V 73 gf) (b) hMV (by (first | exact om_23823880ae03 r4 q75 | omega)) (by (first | exact om_7ee2e48c2283 r3 fc q71 | omega)) (show b < 2 from by (first | exact om_289974d36c9f hb2 mup | omega)) (fun i9 hi9 => by have w9 := BKc.wi bc (i := i9) (by have := (BKc.wl bc).2.2.2; omega); rw [w9.1]; have w8 := w9.2.2.1.1; have w7 := w9.2.2.2.2; exact ⟨by (first | exact om_c9a0220d2423 w9 w8 | omega), by (first | exact om_e31d9712f333 w9 w8 | omega)⟩)) w1419 w1420 w1421 w167 w1422 rfl (xgBook hb2) hdV_yX0_wrapFrom ⟨Nat.le_of_ble_eq_true rfl, Nat.le_of_ble_eq_true rfl⟩ rfl hl.1 rfl (Nat.le_of_ble_eq_true rfl) dX5_nextBefore_17 ⟨z0, z0⟩) hP hD hK hS hA (fun z16 u17 H locs w18 hP hD hK hS => ?_)
    obtain ⟨rgz16, t19, t20⟩ := w18
    replace rgz16 : (-1) ≤ z16.toInt ∧ z16.toInt ≤ 11 := rgz16
    replace t19 : Imp (0 ≤ z16.toInt) (z16.toInt < (V 41 b).toInt) := t19
    replace t20 : (z16.toInt = -1 ∧ ∀ i : Nat, ((V 75 gf)).toInt.toNat ≤ i → (i : Int) < (V 41 b).toInt → ¬ FWo V b i (Int32.toInt 0) (Int32.toNatClampNeg (V 71 gf)) ((V 73 gf)).toInt) ∨ ((((V 75 gf)).toInt ≤ z16.toInt ∧ z16.toInt < (V 41 b).toInt) ∧ FWo V b z16.toInt.toNat (Int32.toInt 0) (Int32.toNatClampNeg (V 71 gf)) ((V 73 gf)).toInt ∧ ∀ i : Nat, ((V 75 gf)).toInt.toNat ≤ i → i < z16.toInt.toNat → ¬ FWo V b i (Int32.toInt 0) (Int32.toNatClampNeg (V 71 gf)) ((V 73 gf)).toInt) := t20
    refine lv_istore_n (lv' := [(2, .int z16), (0, .ref (ad 5)), (1, .ref (Z.fa gf))]) hx hb dX5_nextBefore_20 rfl hl (by decide) rfl (fun ls hl => ?_)
    refine lv_iload_n hx hb dX5_nextBefore_21 rfl (lv_at hl 0 rfl) ?_
    refine lv_iconst (v := (-1)) hx hb dX5_nextBefore_22 (by decide) ?_
    refine lv_icmp_eq (tgt := 45) hx hb dX5_nextBefore_23 (by decide) (fun c21 => ?_) (fun c21 => ?_)
    · skip
      have f22 : z16.toInt = (-1) := b_eq rfl (by decide) c21
      refine lv_aload_n hx hb dX5_nextBefore_45 rfl (lv_at hl 1 rfl) ?_
      refine va_get (D := D) (ci := 5) (v := .ref (ad (38 + Int32.toNatClampNeg (V 5 5)))) (fs := (xfMachine ad V L Z)) (C := RX5) (T := TX5) (N := 15) hx hb hg inX5 hown hK hP 5 xgMachine rfl 5 (by decide) (hg _ w672) (fun _ h9 => h9) rfl dX5_nextBefore_46 ?_
      refine g_topv (v := .ref (ad (38 + b))) (rfP (by first | exact om_c62f5505ba8e mup | first | omega | ((try (have i_t19 := Imp.go t19 (by omega))); omega))) ?_
      refine va_getN (D := D) (ci := 0) (v := .ref (ad (64 + b))) (fs := (xfBook ad V b)) (C := RX0) (T := TX0) (N := 13) hx hb hg inX0 hown hK hP (38 + b) (xgBook hb2) rfl 7 (by decide) (hnw.use 618 n618 rfl) (fun _ h9 => h9) rfl dX5_nextBefore_49 ?_
      refine lv_aload_n hx hb dX5_nextBefore_52 rfl (lv_at hl 2 rfl) ?_
      refine va_getN (D := D) (ci := 4) (v := .int (V 71 gf)) (fs := (xfFrame V gf)) (C := RX4) (T := TX4) (N := 19) hx hb hg inX4 hown hK hP (336 + gf) (xgFrame hgf) rfl 4 (by decide) (hnw.use 1193 n1193 rfl) (fun _ h9 => h9) rfl dX5_nextBefore_53 ?_
      have il23 : b < 2 := by first | exact om_289974d36c9f hb2 mup | first | omega | ((try (have i_t19 := Imp.go t19 (by omega))); omega)
      refine va_aldq (D := D) (i := (V 71 gf)) hx hb hK hP (64 + b) (57 + b) (xgcomps il23) (xtcomps il23) (i_in (a := ((V 71 gf)).toInt) rfl (by first | exact om_fc4cbdd683ed r3 fc q71 | first | omega | ((try (have i_t19 := Imp.go t19 (by omega))); omega))) dX5_nextBefore_56 ?_
      have kc24 := i_clamp (x := (V 71 gf)) rfl (by first | exact om_762d7ad45f4b r3 fc q71 | first | omega | ((try (have i_t19 := Imp.go t19 (by omega))); omega))
      refine g_topv (v := .ref (ad (72 + (24 * b + (Int32.toNatClampNeg (V 71 gf)))))) (congrArg va_rf (if_pos (by first | exact om_05bceae62c6b r3 fc q71 kc24 | first | omega | ((try (have i_t19 := Imp.go t19 (by omega))); omega)))) ?_
      have il25 : (24 * b + (Int32.toNatClampNeg (V 71 gf))) < 48 := by first | exact om_9a0be1f65dba hb2 mup r3 fc q71 kc24 | first | omega | ((try (have i_t19 := Imp.go t19 (by omega))); omega)
      refine va_getN (D := D) (ci := 3) (v := .ref (ad (264 + (24 * b + (Int32.toNatClampNeg (V 71 gf)))))) (fs := (xfComp ad V (24 * b + (Int32.toNatClampNeg (V 71 gf))))) (C := RX3) (T := TX3) (N := 13) hx hb hg inX3 hown hK hP (72 + (24 * b + (Int32.toNatClampNeg (V 71 gf)))) (xgComp il25) rfl 3 (by decide) (hnw.use 509 n509 rfl) (fun _ h9 => h9) rfl dX5_nextBefore_57 ?_
      refine lv_aload_n hx hb dX5_nextBefore_60 rfl (lv_at hl 2 rfl) ?_
      refine va_getN (D := D) (ci := 4) (v := .int (V 73 gf)) (fs := (xfFrame V gf)) (C := RX4) (T := TX4) (N := 19) hx hb hg inX4 hown hK hP (336 + gf) (xgFrame hgf) rfl 6 (by decide) (hnw.use 1195 n1195 rfl) (fun _ h9 => h9) rfl dX5_nextBefore_61 ?_
      have il26 : (24 * b + (Int32.toNatClampNeg (V 71 gf))) < 48 := by first | exact om_f515d48acf9c mup il25 | first | omega | ((try (have i_t19 := Imp.go t19 (by omega))); omega)
      refine va_iald (D := D) (i := (V 73 gf)) hx hb hK hP (264 + (24 * b + (Int32.toNatClampNeg (V 71 gf)))) (257 + (24 * b + (Int32.toNatClampNeg (V 71 gf)))) (xgmethodStarts il26) (xtmethodStarts il26) (i_in (a := ((V 73 gf)).toInt) rfl (by first | exact om_c43f62af49cb q73 m0 m9 | first | omega | ((try (have i_t19 := Imp.go t19 (by omega))); omega))) dX5_nextBefore_64 ?_
      have kc27 := i_clamp (x := (V 73 gf)) rfl (by first | exact om_e5e7073a7ed7 q73 m0 m9 | first | omega | ((try (have i_t19 := Imp.go t19 (by omega))); omega))
      refine g_top (v := V 61 (20 * (24 * b + (Int32.toNatClampNeg (V 71 gf))) + (Int32.toNatClampNeg (V 73 gf)))) (if_pos (by first | exact om_71766367ed40 q73 m0 m9 kc27 | first | omega | ((try (have i_t19 := Imp.go t19 (by omega))); omega))) ?_
      have r28 : (-1) ≤ ((V 61 (20 * (24 * b + (Int32.toNatClampNeg (V 71 gf))) + (Int32.toNatClampNeg (V 73 gf))))).toInt ∧ ((V 61 (20 * (24 * b + (Int32.toNatClampNeg (V 71 gf))) + (Int32.toNatClampNeg (V 73 gf))))).toInt ≤ 8200 := hMV 61 (20 * (24 * b + (Int32.toNatClampNeg (V 71 gf))) + (Int32.toNatClampNeg (V 73 gf)))
      refine lv_istore_n (lv' := [(3, .int (V 61 (20 * (24 * b + (Int32.toNatClampNeg (V 71 gf))) + (Int32.toNatClampNeg (V 73 gf))))), (2, .int z16), (0, .ref (ad 5)), (1, .ref (Z.fa gf))]) hx hb dX5_nextBefore_65 rfl hl (by decide) rfl (fun ls hl => ?_)
      refine lv_iload_n hx hb dX5_nextBefore_66 rfl (lv_at hl 0 rfl) ?_
      refine lv_iconst (v := (-1)) hx hb dX5_nextBefore_67 (by decide) ?_
      refine lv_icmp_ne (tgt := 83) hx hb dX5_nextBefore_68 (by decide) (fun c29 => ?_) (fun c29 => ?_)
      · skip
        have f30 : ((V 61 (20 * (24 * b + (Int32.toNatClampNeg (V 71 gf))) + (Int32.toNatClampNeg (V 73 gf))))).toInt ≠ (-1) := b_neq rfl (by decide) c29
        have kcc := i_clamp (x := V 71 gf) rfl (by (first | exact om_a47b15e8dff7 r3 fc q71 kc24 | omega))
        have kcq := i_clamp (x := V 73 gf) rfl (by (first | exact om_0c049ad31201 q73 m0 m9 kc27 | omega))
        have htx := (mup.2.1.1 (Int32.toNatClampNeg (V 71 gf)) (by (first | exact om_467610b9b17e fc q71 kc24 | omega))).2.2 (Int32.toNatClampNeg (V 73 gf)) (by (first | exact om_71766367ed40 q73 m0 m9 kc27 | omega))
        have hgs := htx.resolve_left (by (first | exact om_76f763d5695a f30 | omega))
        refine lv_aload_n hx hb dX5_nextBefore_83 rfl (lv_at hl 3 rfl) ?_
        refine lv_iconst (v := 5) hx hb dX5_nextBefore_84 (by decide) ?_
        refine va_putN (D := D) (ci := 4) (v := .int 5) (ty := tyX4 1) (fs := (xfFrame V gf)) (C := RX4) (T := TX4) (N := 19) hx hb hg inX4 tyX4 tyX4_ok nmX4 hown hK hP hD hS (336 + gf) (xgFrame hgf) rfl 1 (by decide) (hnw.use 1190 n1190 rfl) (fun _ h9 => h9) rfl (tyX4_ok 1 (by decide)) rfl rfl (Nat.le_of_ble_eq_true rfl) dX5_nextBefore_85 (fun H locs hP hD hS => ?_)
        obtain ⟨V31, hV31⟩ : ∃ z, z = up2 V 68 gf 5 := ⟨_, rfl⟩
        have ew32 : (xw ad kk V L Z).set (336 + gf) ((Z.fa gf), .inr (4, (xfFrame V gf).set 1 (.int 5))) = xw ad kk V31 L Z := by rw [hV31]; exact xpFrame_phase hgf
        have hP : va_P D vwCl (xw ad kk V31 L Z) H := by rw [← ew32]; exact hP
        have hD : va_D A (xw ad kk V31 L Z) := by rw [← ew32]; exact hD
        have hMV31 : rgd bX V31 := hMV.put hV31 (i_full _)
        have agV31 : agr [(4, 5), (5, 6), (5, 9), (5, 11), (5, 12)] [33, 34, 35, 67, 68, 69, 70, 71, 72, 73, 74, 75, 76, 77, 78, 79, 80, 81, 82, 83, 84, 85] V V31 := agV.up hV31 rfl
        refine lv_aload_n hx hb dX5_nextBefore_88 rfl (lv_at hl 3 rfl) ?_
        refine lv_aload_n hx hb dX5_nextBefore_89 rfl (lv_at hl 2 rfl) ?_
        refine va_get (D := D) (ci := 5) (v := .ref (ad (38 + Int32.toNatClampNeg (V31 5 5)))) (fs := (xfMachine ad V31 L Z)) (C := RX5) (T := TX5) (N := 15) hx hb hg inX5 hown hK hP 5 xgMachine rfl 5 (by decide) (hg _ w672) (fun _ h9 => h9) rfl dX5_nextBefore_90 ?_
        have pq33 : (V31 5 5).toInt = ((V 5 5)).toInt := congrArg Int32.toInt (up2_o hV31 (by decide))
        refine g_topv (v := .ref (ad (38 + b))) (rfP (by first | exact om_42a69a20c92a mup pq33 | first | omega | ((try (have i_t19 := Imp.go t19 (by omega))); omega))) ?_
        refine va_getN (D := D) (ci := 0) (v := .int (V31 41 b)) (fs := (xfBook ad V31 b)) (C := RX0) (T := TX0) (N := 13) hx hb hg inX0 hown hK hP (38 + b) (xgBook hb2) rfl 11 (by decide) (hnw.use 628 n628 rfl) (fun _ h9 => h9) rfl dX5_nextBefore_93 ?_
        refine g_top (v := (V 41 b)) (up2_o hV31 (by decide)) ?_
        refine va_putN (D := D) (ci := 4) (v := .int (V 41 b)) (ty := tyX4 8) (fs := (xfFrame V31 gf)) (C := RX4) (T := TX4) (N := 19) hx hb hg inX4 tyX4 tyX4_ok nmX4 hown hK hP hD hS (336 + gf) (xgFrame hgf) rfl 8 (by decide) (hnw.use 1197 n1197 rfl) (fun _ h9 => h9) rfl (tyX4_ok 8 (by decide)) rfl rfl (Nat.le_of_ble_eq_true rfl) dX5_nextBefore_96 (fun H locs hP hD hS => ?_)
        obtain ⟨V34, hV34⟩ : ∃ z, z = up2 V31 75 gf (V 41 b) := ⟨_, rfl⟩
        have ew35 : (xw ad kk V31 L Z).set (336 + gf) ((Z.fa gf), .inr (4, (xfFrame V31 gf).set 8 (.int (V 41 b)))) = xw ad kk V34 L Z := by rw [hV34]; exact xpFrame_position hgf
        have hP : va_P D vwCl (xw ad kk V34 L Z) H := by rw [← ew35]; exact hP
        have hD : va_D A (xw ad kk V34 L Z) := by rw [← ew35]; exact hD
        have hMV34 : rgd bX V34 := hMV31.put hV34 (show 0 ≤ ((V 41 b)).toInt ∧ ((V 41 b)).toInt ≤ 12 from by first | exact om_6627f65ff26f r11 | first | omega | ((try (have i_t19 := Imp.go t19 (by omega))); omega))
        have agV34 : agr [(4, 5), (5, 6), (5, 9), (5, 11), (5, 12)] [33, 34, 35, 67, 68, 69, 70, 71, 72, 73, 74, 75, 76, 77, 78, 79, 80, 81, 82, 83, 84, 85] V V34 := agV31.up hV34 rfl
        refine lv_aload_n hx hb dX5_nextBefore_99 rfl (lv_at hl 2 rfl) ?_
        refine va_get (D := D) (ci := 5) (v := .ref (ad 4)) (fs := (xfMachine ad V34 L Z)) (C := RX5) (T := TX5) (N := 15) hx hb hg inX5 hown hK hP 5 xgMachine rfl 1 (by decide) (hg _ w668) (fun _ h9 => h9) rfl dX5_nextBefore_100 ?_
        refine lv_iconst (v := 4) hx hb dX5_nextBefore_103 (by decide) ?_
        refine lv_aload_n hx hb dX5_nextBefore_104 rfl (lv_at hl 3 rfl) ?_
        refine va_getN (D := D) (ci := 4) (v := .int (V34 70 gf)) (fs := (xfFrame V34 gf)) (C := RX4) (T := TX4) (N := 19) hx hb hg inX4 hown hK hP (336 + gf) (xgFrame hgf) rfl 3 (by decide) (hnw.use 1192 n1192 rfl) (fun _ h9 => h9) rfl dX5_nextBefore_105 ?_
        refine g_top (v := (V 70 gf)) ((up2_o hV34 (by decide)).trans (up2_o hV31 (by decide))) ?_
        refine lv_aload_n hx hb dX5_nextBefore_108 rfl (lv_at hl 3 rfl) ?_
        refine va_getN (D := D) (ci := 4) (v := .int (V34 74 gf)) (fs := (xfFrame V34 gf)) (C := RX4) (T := TX4) (N := 19) hx hb hg inX4 hown hK hP (336 + gf) (xgFrame hgf) rfl 7 (by decide) (hnw.use 1196 n1196 rfl) (fun _ h9 => h9) rfl dX5_nextBefore_109 ?_
        refine g_top (v := (V 74 gf)) ((up2_o hV34 (by decide)).trans (up2_o hV31 (by decide))) ?_
        have r36 : Int32.toInt 4 = 4 := by decide
        refine gA_void (gA_runV (As := [.int 4, .int (V 70 gf), .int (V 74 gf)]) (rest := []) (ci := 7) (q0 := 4) hx hb hml hown hg hP hD hK hS hA hnw hgk (x_NnoteThing l D ks H.size ad kk V34 L Z 4 (V 70 gf) (V 74 gf) hMV34 ) w1407 w1408 w1409 w166 w1410 rfl xgNotes hdV_yX7_noteThing ⟨Nat.le_of_ble_eq_true rfl, Nat.le_of_ble_eq_true rfl⟩ rfl hl.1 rfl (Nat.le_of_ble_eq_true rfl) dX5_nextBefore_112 ⟨z0, z0⟩) hP hD hK hS hA (fun u38 H locs w39 hP hD hK hS => ?_)
        obtain ⟨V40, L41⟩ := u38
        obtain ⟨hMV40, ajV40, axL41⟩ := w39
        have axL41 : L = L41 := Eq.symm axL41
        subst axL41
        replace hP : va_P D vwCl (xw ad kk V40 L Z) H := hP
        replace hD : va_D A (xw ad kk V40 L Z) := hD
        replace hMV40 : rgd bX V40 := hMV40
        replace ajV40 : agr [(4, 5)] [33, 34, 35] V34 V40 := ajV40
        have agV40 : agr [(4, 5), (5, 6), (5, 9), (5, 11), (5, 12)] [33, 34, 35, 67, 68, 69, 70, 71, 72, 73, 74, 75, 76, 77, 78, 79, 80, 81, 82, 83, 84, 85] V V40 := agV34.tr ajV40 (by decide) (by decide)
        refine lv_aload_n hx hb dX5_nextBefore_115 rfl (lv_at hl 2 rfl) ?_
        refine lv_aload_n hx hb dX5_nextBefore_116 rfl (lv_at hl 3 rfl) ?_
        refine lv_iload_n hx hb dX5_nextBefore_117 rfl (lv_at hl 0 rfl) ?_
        refine lv_aload_n hx hb dX5_nextBefore_118 rfl (lv_at hl 3 rfl) ?_
        refine va_getN (D := D) (ci := 4) (v := .int (V40 74 gf)) (fs := (xfFrame V40 gf)) (C := RX4) (T := TX4) (N := 19) hx hb hg inX4 hown hK hP (336 + gf) (xgFrame hgf) rfl 7 (by decide) (hnw.use 1196 n1196 rfl) (fun _ h9 => h9) rfl dX5_nextBefore_119 ?_
        refine g_top (v := (V 74 gf)) ((ajV40 74 gf rfl).trans ((up2_o hV34 (by decide)).trans (up2_o hV31 (by decide)))) ?_
        have pq42 : (V40 71 gf).toInt = ((V 71 gf)).toInt := congrArg Int32.toInt ((ajV40 71 gf rfl).trans ((up2_o hV34 (by decide)).trans (up2_o hV31 (by decide))))
        have pq43 : (V40 43 (5 * b + 2)).toInt = ((V 43 (5 * b + 2))).toInt := congrArg Int32.toInt ((ajV40 43 (5 * b + 2) rfl).trans ((up2_o hV34 (by decide)).trans (up2_o hV31 (by decide))))
        have pq44 : (V40 3 13).toInt = ((V 3 13)).toInt := congrArg Int32.toInt ((ajV40 3 13 rfl).trans ((up2_o hV34 (by decide)).trans (up2_o hV31 (by decide))))
        have pq45 : (V40 70 gf).toInt = ((V 70 gf)).toInt := congrArg Int32.toInt ((ajV40 70 gf rfl).trans ((up2_o hV34 (by decide)).trans (up2_o hV31 (by decide))))
        have me46 : ME V V40 gf := (ME.tr (ME.up (ME.up ME.rf hV31 (Or.inl ⟨by decide, by decide, Nat.le_refl _⟩)) hV34 (Or.inl ⟨by decide, by decide, Nat.le_refl _⟩)) (ME.ag ajV40 (by decide)))
        have pq47 : (V40 67 gf).toInt = ((V 67 gf)).toInt := congrArg Int32.toInt ((ajV40 67 gf rfl).trans ((up2_o hV34 (by decide)).trans (up2_o hV31 (by decide))))
        have pq48 : (V40 68 gf).toInt = 5 := (congrArg Int32.toInt ((ajV40 68 gf rfl).trans ((up2_o hV34 (by decide)).trans (up2_s hV31)))).trans (by decide)
        have pq49 : (V40 75 gf).toInt = ((V 41 b)).toInt := congrArg Int32.toInt ((ajV40 75 gf rfl).trans (up2_s hV34))
        have pq50 : (V40 76 gf).toInt = ((V 76 gf)).toInt := congrArg Int32.toInt ((ajV40 76 gf rfl).trans ((up2_o hV34 (by decide)).trans (up2_o hV31 (by decide))))
        have pq51 : (V40 80 gf).toInt = ((V 80 gf)).toInt := congrArg Int32.toInt ((ajV40 80 gf rfl).trans ((up2_o hV34 (by decide)).trans (up2_o hV31 (by decide))))
        have pq52 : (V40 84 gf).toInt = ((V 84 gf)).toInt := congrArg Int32.toInt ((ajV40 84 gf rfl).trans ((up2_o hV34 (by decide)).trans (up2_o hV31 (by decide))))
        have pq53 : (V40 5 6).toInt = ((V 5 6)).toInt := congrArg Int32.toInt ((ajV40 5 6 rfl).trans ((up2_o hV34 (by decide)).trans (up2_o hV31 (by decide))))
        have pq54 : (V40 5 8).toInt = ((V 5 8)).toInt := congrArg Int32.toInt ((ajV40 5 8 rfl).trans ((up2_o hV34 (by decide)).trans (up2_o hV31 (by decide))))
        have pq55 : (V40 5 9).toInt = ((V 5 9)).toInt := congrArg Int32.toInt ((ajV40 5 9 rfl).trans ((up2_o hV34 (by decide)).trans (up2_o hV31 (by decide))))
        have pq56 : (V40 42 b).toInt = ((V 42 b)).toInt := congrArg Int32.toInt ((ajV40 42 b rfl).trans ((up2_o hV34 (by decide)).trans (up2_o hV31 (by decide))))
        have pq57 : (V40 41 b).toInt = ((V 41 b)).toInt := congrArg Int32.toInt ((ajV40 41 b rfl).trans ((up2_o hV34 (by decide)).trans (up2_o hV31 (by decide))))
        have mo58 : MO V40 Z b gf True True True := MO.ch mo me46 ((ajV40 67 gf rfl).trans ((up2_o hV34 (by decide)).trans (up2_o hV31 (by decide)))) ((ajV40 80 gf rfl).trans ((up2_o hV34 (by decide)).trans (up2_o hV31 (by decide)))) (fun _ => Or.inl (by (first | exact om_19a2929b0700 gk | omega))) (fun x h => FK.k3 (by first | exact om_1a346c87806a gk pq47 | first | omega | ((try (have i_t19 := Imp.go t19 (by omega))); omega)) (by first | exact om_465e31d30807 r3 fc q71 kc24 pq42 pq43 | first | omega | ((try (have i_t19 := Imp.go t19 (by omega))); omega)) (by first | exact om_48c11495e94c fo ra2 q70 pq44 pq45 | first | omega | ((try (have i_t19 := Imp.go t19 (by omega))); omega)) (by first | exact om_52cdf6c0aa0d pq49 pq57 | first | omega | ((try (have i_t19 := Imp.go t19 (by omega))); omega)))
        have mt59 : MT V40 Z b := MO.mt mo58 (by (first | exact om_6f738fa1827e hgf gd kdp rd rd2 pq53 | omega)) (by (first | exact om_78ea3e5e24cc gd kdp rd rd2 pq53 | omega))
        have me60 : ME V V40 0 := (ME.tr (ME.up (ME.up ME.rf hV31 (Or.inl ⟨by decide, by decide, by first | exact om_c9a7d7f72290 gd r1 kdp rd rd2 sl9 pq53 | first | omega | ((try (have i_t19 := Imp.go t19 (by omega))); omega)⟩)) hV34 (Or.inl ⟨by decide, by decide, by first | exact om_c9a7d7f72290 gd r1 kdp rd rd2 sl9 pq53 | first | omega | ((try (have i_t19 := Imp.go t19 (by omega))); omega)⟩)) (ME.ag ajV40 (by decide)))
        have ha61 : (V40 42 b).toInt ≤ ((V 61 (20 * (24 * b + (Int32.toNatClampNeg (V 71 gf))) + (Int32.toNatClampNeg (V 73 gf))))).toInt ∨ (bdp V40 b (((V 61 (20 * (24 * b + (Int32.toNatClampNeg (V 71 gf))) + (Int32.toNatClampNeg (V 73 gf))))).toInt).toNat).1 = true := by rw [me60.1.bd, me60.1 42 b (by decide) (by decide)]; exact gs.fk hgs (hMV 42 b).2
        refine W.know (fun k63 k64 => ?_)
        obtain ⟨Hk62, hHk62⟩ : ∃ z, z = H := ⟨_, rfl⟩
        have k63 : Hk62.size ≤ s.heap.size + (zcc Z - zcc Z) := by rw [hHk62]; exact k63
        have k64 : tot Hk62 ≤ tot s.heap + (zss Z - zss Z) := by rw [hHk62]; exact k64
        refine gZ_ref (gA_runV (As := [.ref (Z.fa gf), .int (V 61 (20 * (24 * b + (Int32.toNatClampNeg (V 71 gf))) + (Int32.toNatClampNeg (V 73 gf)))), .int (V 74 gf)]) (rest := []) (ci := 5) (q0 := 5) hx hb hml hown hg hP hD hK hS hA hnw hgk (x_pushWork9 l D ks H.size ad kk V40 L Z (V 61 (20 * (24 * b + (Int32.toNatClampNeg (V 71 gf))) + (Int32.toNatClampNeg (V 73 gf)))) (V 74 gf) (b) (gf) hMV40 (by first | exact om_8649ca3939b9 r12 r28 f30 pq56 ha61 | first | omega | ((try (have i_t19 := Imp.go t19 (by omega))); omega)) (show b < 2 from by first | exact om_78a9fe3e646f hb2 mup pq33 | first | omega | ((try (have i_t19 := Imp.go t19 (by omega))); omega)) (show gf < Z.nf from by first | exact om_d9a628b8387a hgf gd kdp rd rd2 pq53 | first | omega | ((try (have i_t19 := Imp.go t19 (by omega))); omega)) mt59 (show 0 ≤ (V40 71 gf).toInt ∧ (V40 71 gf).toInt < (V40 43 (5 * b + 2)).toInt from by first | exact om_465e31d30807 r3 fc q71 kc24 pq42 pq43 | first | omega | ((try (have i_t19 := Imp.go t19 (by omega))); omega)) (show 0 ≤ (V40 70 gf).toInt ∧ (V40 70 gf).toInt < (V40 3 13).toInt from by first | exact om_48c11495e94c fo ra2 q70 pq44 pq45 | first | omega | ((try (have i_t19 := Imp.go t19 (by omega))); omega)) ha61) w1376 w1378 w57 w171 w1379 rfl xgMachine hdV_yX5_pushWork ⟨Nat.le_of_ble_eq_true rfl, Nat.le_of_ble_eq_true rfl⟩ rfl hl.1 rfl (Nat.le_of_ble_eq_true rfl) dX5_nextBefore_122 ⟨z1 zoZ.1, z1 zoZ.2.1⟩) hD hS hA (fun u66 H locs w67 hP hD hK hS y68 y69 => ?_)
        obtain ⟨V70, L71, Z72, f73⟩ := u66
        obtain ⟨hMV70, ajV70, axL71, zlZ72, ilf73, t74, t75, t76, t77, t78⟩ := w67
        have axL71 : L = L71 := Eq.symm axL71
        subst axL71
        replace hP : va_P D vwCl (xw ad kk V70 L Z72) H := hP
        replace hD : va_D A (xw ad kk V70 L Z72) := hD
        replace hK : va_K D vwCl (xty kk Z72) s := hK
        replace hMV70 : rgd bX V70 := hMV70
        replace ajV70 : agr [(5, 6), (5, 9)] [67, 68, 69, 70, 71, 72, 73, 74, 75, 76, 77, 78, 79, 80, 81, 82, 83, 84, 85] V40 V70 := ajV70
        have agV70 : agr [(4, 5), (5, 6), (5, 9), (5, 11), (5, 12)] [33, 34, 35, 67, 68, 69, 70, 71, 72, 73, 74, 75, 76, 77, 78, 79, 80, 81, 82, 83, 84, 85] V V70 := agV40.tr ajV70 (by decide) (by decide)
        replace zlZ72 : ZL Z Z72 := zlZ72
        have zoZ72 : ZL Z Z72 := ZL.tr zoZ zlZ72
        have ziZ72 := zlZ72.1
        have zjZ72 := zlZ72.2.1
        have zkZ72 := zlZ72.2.2.1
        have zmZ72 := zoZ72.1
        have znZ72 := zoZ72.2.1
        have zpZ_Z72 := zoZ.1
        have zqZ_Z72 := zoZ.2.1
        have y68 : H.size ≤ Hk62.size + (zcc Z - zcc Z72) := by rw [hHk62]; exact y68
        have y69 : tot H ≤ tot Hk62 + (zss Z - zss Z72) := by rw [hHk62]; exact y69
        refine W.tight (k := zcc Z - zcc Z72) (n := zss Z - zss Z72) (by first | exact tg9 y68 k63 zlZ72.1 zoZ.1 | omega) (by first | exact tg9 y69 k64 zlZ72.2.1 zoZ.2.1 | omega) ?_
        have hl : lv_has ls 4 [(3, .int (V 61 (20 * (24 * b + (Int32.toNatClampNeg (V 71 gf))) + (Int32.toNatClampNeg (V 73 gf))))), (2, .int z16), (0, .ref (ad 5)), (1, .ref (Z72.fa gf))] := by rw [zlZ72.2.2.2.2 gf hgf]; exact hl
        replace ilf73 : f73 < Z72.nf := ilf73
        replace t74 : MJ V70 Z72 b := t74
        replace t75 : (f73 : Int) + 1 = (V70 5 6).toInt := t75
        replace t76 : (V70 67 f73).toInt = 4 ∧ (V70 68 f73).toInt = 0 := t76
        replace t77 : (V70 5 9).toInt = 0 := t77
        replace t78 : Imp ((V40 5 6).toInt < 400 ∧ (gf : Int) < (V40 5 6).toInt) (PWk V40 V70 gf ((V40 5 6).toInt.toNat) (V 61 (20 * (24 * b + (Int32.toNatClampNeg (V 71 gf))) + (Int32.toNatClampNeg (V 73 gf)))) (V 74 gf)) := t78
        have r79 : 0 ≤ ((V70 5 6)).toInt ∧ ((V70 5 6)).toInt ≤ 400 := hMV70 5 6
        have r80 : 0 ≤ ((V70 5 9)).toInt ∧ ((V70 5 9)).toInt ≤ 3 := hMV70 5 9
        refine lv_pop hx hb dX5_nextBefore_125 rfl ?_
        have pq9 : Int32.toNatClampNeg (V 71 gf) = c.toNat := by have h9 := i_clamp (x := (V 71 gf)) rfl (by (first | exact om_d792ad813f87 r3 fc q71 kc24 pq42 | omega)); (first | exact om_043ed8ee8a8a kc9 | omega)
        have wl9 := (BKc.wl bc).2.2
        have fe9 : ∀ j : Nat, FWo V b j (Int32.toInt 0) (Int32.toNatClampNeg (V 71 gf)) ((V 73 gf)).toInt = FWo V b j ((0 : Nat) : Int) c.toNat ((me.toNat : Nat) : Int) := fun j => by rw [pq9, show Int32.toInt 0 = ((0 : Nat) : Int) from by decide, show ((V 73 gf)).toInt = ((me.toNat : Nat) : Int) from by (first | exact om_1a0a4ba40eef q73 m0 m9 kc27 | omega)]
        have fz9 := t20.resolve_right (fun h8 => by have h7 := h8.1.1; (first | exact om_8fc35ed1de07 r4 q75 f22 h8 | omega))
        have fb9 : fF (bW gB) (isF gB 0 c.toNat me.toNat) ps.toNat = none := BKc.fFn bc cn9 (fun j9 h1 h2 => by rw [← fe9]; exact fz9.2 j9 (by (first | exact om_752021fd7f37 r4 r11 q75 pq49 pq57 wl9 h1 h2 | omega)) (by (first | exact om_a73da46d8f3f pq49 pq57 wl9 h2 | omega)))
        have km9 : Int32.toNatClampNeg (V 73 gf) = me.toNat := by have h9 := i_clamp (x := V 73 gf) rfl (by (first | exact om_0c049ad31201 q73 m0 m9 kc27 | omega)); (first | exact om_f2c34aeddcda q73 m0 m9 kc27 | omega)
        have be9 := BKc.me bc cn9 (show me.toNat < 20 from by (first | exact om_05fbbb6d496b q73 m0 m9 kc27 km9 | omega))
        rw [← kc9, ← km9] at be9
        have pw := Imp.go t78 ⟨by (first | exact om_8c4987203dea gd r1 kdp rd rd2 sl9 pq53 | omega), by (first | exact om_ad89da6ade58 gd kdp rd rd2 pq53 | omega)⟩
        have pi9 : (V40 5 6).toInt.toNat = gr.length + 1 := by (first | exact om_c7704909093d gd r1 kdp rd rd2 sl9 pq53 | omega)
        rw [pi9] at pw
        obtain ⟨⟨pd1, pd2, pke⟩, ⟨pk1, pk2⟩, ⟨p69, p70, p71, p72, p73⟩, pag, pat, pba, pps⟩ := pw
        have wr81 : (V70 3 13).toInt = (V 3 13).toInt := congrArg Int32.toInt ((ajV70 3 13 rfl).trans ((ajV40 3 13 rfl).trans ((up2_o hV34 (by decide)).trans (up2_o hV31 (by decide)))))
        have wr82 : (V70 3 12).toInt = (V 3 12).toInt := congrArg Int32.toInt ((ajV70 3 12 rfl).trans ((ajV40 3 12 rfl).trans ((up2_o hV34 (by decide)).trans (up2_o hV31 (by decide)))))
        have wr83 : (V70 67 gf).toInt = ((V 67 gf)).toInt := (congrArg Int32.toInt ((pke gf (by (first | exact om_c9f168eff5a6 gd kdp rd rd2 | omega)) 67 (by decide) (by decide)).trans ((ajV40 67 gf rfl).trans ((up2_o hV34 (by decide)).trans (up2_o hV31 (by decide))))))
        have wr84 : (V70 68 gf).toInt = 5 := (congrArg Int32.toInt ((pke gf (by (first | exact om_c9f168eff5a6 gd kdp rd rd2 | omega)) 68 (by decide) (by decide)).trans ((ajV40 68 gf rfl).trans ((up2_o hV34 (by decide)).trans (up2_s hV31))))).trans (by decide)
        have wr85 : (V70 69 gf).toInt = ((V 69 gf)).toInt := (congrArg Int32.toInt ((pke gf (by (first | exact om_c9f168eff5a6 gd kdp rd rd2 | omega)) 69 (by decide) (by decide)).trans ((ajV40 69 gf rfl).trans ((up2_o hV34 (by decide)).trans (up2_o hV31 (by decide))))))
        have wr86 : (V70 70 gf).toInt = ((V 70 gf)).toInt := (congrArg Int32.toInt ((pke gf (by (first | exact om_c9f168eff5a6 gd kdp rd rd2 | omega)) 70 (by decide) (by decide)).trans ((ajV40 70 gf rfl).trans ((up2_o hV34 (by decide)).trans (up2_o hV31 (by decide))))))
        have wr87 : (V70 71 gf).toInt = ((V 71 gf)).toInt := (congrArg Int32.toInt ((pke gf (by (first | exact om_c9f168eff5a6 gd kdp rd rd2 | omega)) 71 (by decide) (by decide)).trans ((ajV40 71 gf rfl).trans ((up2_o hV34 (by decide)).trans (up2_o hV31 (by decide))))))
        have wr88 : (V70 72 gf).toInt = ((V 72 gf)).toInt := (congrArg Int32.toInt ((pke gf (by (first | exact om_c9f168eff5a6 gd kdp rd rd2 | omega)) 72 (by decide) (by decide)).trans ((ajV40 72 gf rfl).trans ((up2_o hV34 (by decide)).trans (up2_o hV31 (by decide))))))
        have wr89 : (V70 73 gf).toInt = ((V 73 gf)).toInt := (congrArg Int32.toInt ((pke gf (by (first | exact om_c9f168eff5a6 gd kdp rd rd2 | omega)) 73 (by decide) (by decide)).trans ((ajV40 73 gf rfl).trans ((up2_o hV34 (by decide)).trans (up2_o hV31 (by decide))))))
        have wr90 : (V70 75 gf).toInt = ((V 41 b)).toInt := (congrArg Int32.toInt ((pke gf (by (first | exact om_c9f168eff5a6 gd kdp rd rd2 | omega)) 75 (by decide) (by decide)).trans ((ajV40 75 gf rfl).trans (up2_s hV34))))
        have wr91 : (V70 69 (gr.length + 1)).toInt = ((V 69 gf)).toInt := (congrArg Int32.toInt (p69.trans ((ajV40 69 gf rfl).trans ((up2_o hV34 (by decide)).trans (up2_o hV31 (by decide))))))
        have wr92 : (V70 70 (gr.length + 1)).toInt = ((V 70 gf)).toInt := (congrArg Int32.toInt (p70.trans ((ajV40 70 gf rfl).trans ((up2_o hV34 (by decide)).trans (up2_o hV31 (by decide))))))
        have wr93 : (V70 71 (gr.length + 1)).toInt = ((V 71 gf)).toInt := (congrArg Int32.toInt (p71.trans ((ajV40 71 gf rfl).trans ((up2_o hV34 (by decide)).trans (up2_o hV31 (by decide))))))
        have wr94 : (V70 72 (gr.length + 1)).toInt = ((V 72 gf)).toInt := (congrArg Int32.toInt (p72.trans ((ajV40 72 gf rfl).trans ((up2_o hV34 (by decide)).trans (up2_o hV31 (by decide))))))
        have me95 : ME V V40 gf := (ME.tr (ME.up (ME.up ME.rf hV31 (Or.inl ⟨by decide, by decide, Nat.le_refl _⟩)) hV34 (Or.inl ⟨by decide, by decide, Nat.le_refl _⟩)) (ME.ag ajV40 (by decide)))
        have rl96 : RWl V70 gB gr t0 := RWl.mv hlr (fun i9 hi9 c9 h1 h2 => ((pke i9 (by (first | exact om_7f53476936c1 kdp rd rd2 pq53 pi9 hi9 | omega)) c9 h1 h2)).trans (me95.2.1 c9 i9 h1 h2 (by (first | exact om_a8f73b8e7cf4 gd kdp rd rd2 pq53 pi9 hi9 | omega)))) (fun j9 hj9 => ((ajV70 39 j9 rfl).trans ((ajV40 39 j9 rfl).trans ((up2_o hV34 (by decide)).trans (up2_o hV31 (by decide)))))) (by rw [((ajV70 3 13 rfl).trans ((ajV40 3 13 rfl).trans ((up2_o hV34 (by decide)).trans (up2_o hV31 (by decide)))))]; exact Int.le_refl _) ((ajV70 3 12 rfl).trans ((ajV40 3 12 rfl).trans ((up2_o hV34 (by decide)).trans (up2_o hV31 (by decide)))))
        have be8 := be9.resolve_left (fun h9 => by have h8 := h9.1; (first | exact om_3925c05d6c78 gd r1 kdp r12 rd rd2 sl9 f30 pq53 pq56 ha61 ziZ72 zjZ72 be9 pi9 h9 | omega))
        rw [kc9, km9] at be8
        have wl8 := (BKc.wl bc).2.2
        have fb8 : FRc V70 gB gr.length (Fin5 lv o c sc me ((wN gB : Nat) : Int)) := by rw [gl9]; exact ⟨⟨by (first | exact om_1a346c87806a gk wr83 | omega), by (first | exact om_9dcb221679a8 wr84 | omega)⟩, ⟨by (first | exact om_cd7d0a6a31bc q69 wr85 | omega), ⟨by (first | exact om_25a0d8f2ad9d q70 pq45 wr86 | omega), by (first | exact om_cde1043e41d2 fo q70 pq45 wr86 wr92 | omega), by (first | exact om_08fccd1b2dd4 fo ra2 q70 pq44 pq45 wr81 wr86 wr92 | omega)⟩, ⟨by (first | exact om_24e60037d59c q71 kc24 pq42 wr87 | omega), by (first | exact om_7c5e8039fbf6 r3 fc q71 kc24 pq42 wr87 wr93 | omega), by (first | exact om_7384add8b240 q71 c1 kc24 pq42 wr87 wr93 | omega)⟩, ⟨by (first | exact om_cd7d0a6a31bc q72 wr88 | omega), by omega, by omega⟩⟩, ⟨by (first | exact om_3fe2cfc85efe q73 kc27 km9 wr89 | omega), by (first | exact om_4a31d3d6c16d q73 m0 m9 kc27 km9 wr89 | omega), by (first | exact om_39af58dc3e32 q73 m0 m9 kc27 km9 wr89 | omega)⟩, by (first | exact om_ddbf33ad44d1 pq49 pq57 wl9 wr90 | omega)⟩
        have ft9 : FRc V70 gB (gr.length + 1) (Fwork lv o c sc me 0 ((bE gB c.toNat me.toNat - 1 : Nat) : Int) ga []) := ⟨⟨pk1, pk2⟩, ⟨by (first | exact om_25a0d8f2ad9d q69 wr85 wr91 | omega), ⟨by (first | exact om_6ba44aa2159d q70 pq45 wr86 wr92 | omega), by (first | exact om_cde1043e41d2 fo q70 pq45 wr86 wr92 | omega), by (first | exact om_08fccd1b2dd4 fo ra2 q70 pq44 pq45 wr81 wr86 wr92 | omega)⟩, ⟨by (first | exact om_e4527fc52457 q71 kc24 pq42 wr87 wr93 | omega), by (first | exact om_7c5e8039fbf6 r3 fc q71 kc24 pq42 wr87 wr93 | omega), by (first | exact om_7384add8b240 q71 c1 kc24 pq42 wr87 wr93 | omega)⟩, ⟨by (first | exact om_25a0d8f2ad9d q72 wr88 wr94 | omega), by omega, by omega⟩⟩, (fun h9 => absurd h9 (by decide)), ⟨Int.natCast_nonneg _, (show (V70 84 (gr.length + 1)).toInt = ((psz (opf gB.1) (bE gB c.toNat me.toNat - 1) : Nat) : Int) from by rw [pat]; have h9 := be8.2; rw [← kc9, ← km9] at h9 ⊢; (first | exact om_256580d80fac h9 | omega))⟩, pag.trans a74⟩
        have rz9 : RW V70 gB (mU gm 0 6 0, ga, Fwork lv o c sc me 0 ((bE gB c.toNat me.toNat - 1 : Nat) : Int) ga [] :: Fin5 lv o c sc me ((wN gB : Nat) : Int) :: gr) := RW.sgn rwq (ESw.ag (show agr [(4, 5), (5, 6), (5, 9)] [33, 34, 35, 67, 68, 69, 70, 71, 72, 73, 74, 75, 76, 77, 78, 79, 80, 81, 82, 83, 84, 85] V V70 from (agr.tr (agr.tr (agr.up (agr.up agr.rf hV31 rfl) hV34 rfl) ajV40 (by decide) (by decide)) ajV70 (by decide) (by decide))) (by decide)) pd2 (fun h9 => absurd h9 (by decide)) (fun h9 => absurd h9 (by decide)) (show (V70 5 6).toInt = ((gr.length + 1 + 1 : Nat) : Int) from by (first | exact om_ea487894bae3 kdp rd rd2 pq53 pi9 pd1 | omega)) (show (V70 5 7).toInt = ((t0 : Nat) : Int) from by rw [(show agr [(4, 5), (5, 6), (5, 9)] [33, 34, 35, 67, 68, 69, 70, 71, 72, 73, 74, 75, 76, 77, 78, 79, 80, 81, 82, 83, 84, 85] V V70 from (agr.tr (agr.tr (agr.up (agr.up agr.rf hV31 rfl) hV34 rfl) ajV40 (by decide) (by decide)) ajV70 (by decide) (by decide))) 5 7 rfl, rt9, tz9]) (RWl.push (RWl.push rl96 fb8 rfl (np9 rfl)) ft9 rfl (fun _ _ => (show (V70 85 (gr.length + 1)).toInt = ((t0 : Nat) : Int) from by rw [pba, ((ajV40 5 7 rfl).trans ((up2_o hV34 (by decide)).trans (up2_o hV31 (by decide)))), rt9, tz9])))
        have rx97 : RW V70 gB (stM gB (gm, ga, gfr :: gr)) := by rw [hfe, st_10w (show gm 0 6 = 1 from by (first | exact om_e9389ed92ad9 sg1 rh1 | omega)) fb9 be8.1]; exact rz9
        refine W.know (fun kr1 kr2 => ?_)
        refine W.widen (k := zcc Z) (n := zss Z) (Nat.sub_le _ _) (Nat.sub_le _ _) ?_
        exact W.vret hx hb hr (fun t ht hW => ⟨⟨(V70, L, Z72), rfl, ⟨hMV70, agV70, rfl, zoZ72, t74, rx97⟩, ⟨by rw [ht]; exact hP, va_K.moved hW.alike hK, hD⟩, by rw [ht]; exact kr1, by rw [ht]; exact kr2⟩, hS.F ht⟩) hS.2.2 dX5_nextBefore_126
      · skip
        have f98 : ((V 61 (20 * (24 * b + (Int32.toNatClampNeg (V 71 gf))) + (Int32.toNatClampNeg (V 73 gf))))).toInt = (-1) := b_eq rfl (by decide) c29
        refine lv_aload_n hx hb dX5_nextBefore_71 rfl (lv_at hl 2 rfl) ?_
        refine lv_iconst (v := 0) hx hb dX5_nextBefore_72 (by decide) ?_
        refine lv_bipush (v := 11) hx hb dX5_nextBefore_73 (by decide) ?_
        have r99 : Int32.toInt 11 = 11 := by decide
        refine gA_void (gA_runV (As := [.int 0, .int 11]) (rest := []) (ci := 5) (q0 := 5) hx hb hml hown hg hP hD hK hS hA hnw hgk (x_failWith9 l D ks H.size ad kk V L Z 0 11 hMV ) w1261 w1263 w46 w171 w1264 rfl xgMachine hdV_yX5_failWith ⟨Nat.le_of_ble_eq_true rfl, Nat.le_of_ble_eq_true rfl⟩ rfl hl.1 rfl (Nat.le_of_ble_eq_true rfl) dX5_nextBefore_75 ⟨z0, z0⟩) hP hD hK hS hA (fun u101 H locs w102 hP hD hK hS => ?_)
        obtain ⟨V105, L106⟩ := u101
        obtain ⟨hMV105, ajV105, axL106, t103, t104⟩ := w102
        have axL106 : L = L106 := Eq.symm axL106
        subst axL106
        replace hP : va_P D vwCl (xw ad kk V105 L Z) H := hP
        replace hD : va_D A (xw ad kk V105 L Z) := hD
        replace hMV105 : rgd bX V105 := hMV105
        replace ajV105 : agr [(5, 9), (5, 11), (5, 12)] [] V V105 := ajV105
        have agV105 : agr [(4, 5), (5, 6), (5, 9), (5, 11), (5, 12)] [33, 34, 35, 67, 68, 69, 70, 71, 72, 73, 74, 75, 76, 77, 78, 79, 80, 81, 82, 83, 84, 85] V V105 := agV.tr ajV105 (by decide) (by decide)
        replace t103 : (V105 5 9).toInt = 2 := t103
        replace t104 : ((True) ∧ V105 = (up2 (up2 (up2 V 5 9 2) 5 11 0) 5 12 11)) := t104
        have r107 : 0 ≤ ((V105 5 9)).toInt ∧ ((V105 5 9)).toInt ≤ 3 := hMV105 5 9
        have hw108 := t104.2
        obtain ⟨V109, hV109⟩ : ∃ z, z = up2 V 5 9 2 := ⟨_, rfl⟩
        obtain ⟨V110, hV110⟩ : ∃ z, z = up2 V109 5 11 0 := ⟨_, rfl⟩
        have hV105 : V105 = up2 V110 5 12 11 := by rw [hw108, hV110, hV109]
        refine lv_aload_n hx hb dX5_nextBefore_78 rfl (lv_at hl 2 rfl) ?_
        have pq111 : (V105 5 6).toInt = ((V 5 6)).toInt := congrArg Int32.toInt ((up2_k hV105 (by decide)).trans ((up2_k hV110 (by decide)).trans (up2_k hV109 (by decide))))
        refine gA_void (gA_runV (As := []) (rest := []) (ci := 5) (q0 := 5) hx hb hml hown hg hP hD hK hS hA hnw hgk (x_leave9 l D ks H.size ad kk V105 L Z  hMV105 (show 1 ≤ (V105 5 6).toInt from by first | exact om_1c7ca45de7b6 gd r1 kdp rd rd2 sl9 pq111 | first | omega | ((try (have i_t19 := Imp.go t19 (by omega))); omega))) w1308 w1310 w50 w171 w1311 rfl xgMachine hdV_yX5_leave ⟨Nat.le_of_ble_eq_true rfl, Nat.le_of_ble_eq_true rfl⟩ rfl hl.1 rfl (Nat.le_of_ble_eq_true rfl) dX5_nextBefore_79 ⟨z0, z0⟩) hP hD hK hS hA (fun u113 H locs w114 hP hD hK hS => ?_)
        obtain ⟨V117, L118⟩ := u113
        obtain ⟨hMV117, ajV117, axL118, t115, t116⟩ := w114
        have axL118 : L = L118 := Eq.symm axL118
        subst axL118
        replace hP : va_P D vwCl (xw ad kk V117 L Z) H := hP
        replace hD : va_D A (xw ad kk V117 L Z) := hD
        replace hMV117 : rgd bX V117 := hMV117
        replace ajV117 : agr [(5, 6)] [] V105 V117 := ajV117
        have agV117 : agr [(4, 5), (5, 6), (5, 9), (5, 11), (5, 12)] [33, 34, 35, 67, 68, 69, 70, 71, 72, 73, 74, 75, 76, 77, 78, 79, 80, 81, 82, 83, 84, 85] V V117 := agV105.tr ajV117 (by decide) (by decide)
        replace t115 : (V117 5 6).toInt = (V105 5 6).toInt - 1 := t115
        replace t116 : ((True) ∧ V117 = (up2 V105 5 6 (V105 5 6 - 1))) := t116
        have r119 : 0 ≤ ((V117 5 6)).toInt ∧ ((V117 5 6)).toInt ≤ 400 := hMV117 5 6
        have hw120 := t116.2
        obtain ⟨z121, ez121⟩ : ∃ y : Int32, y = V105 5 6 - 1 := ⟨_, rfl⟩
        have hz121 : z121.toInt = (V105 5 6).toInt - 1 := i_sub ez121 rfl (by decide) (by first | exact om_b7c63862419e gd r1 kdp rd rd2 sl9 pq111 t115 | first | omega | ((try (have i_t19 := Imp.go t19 (by omega))); omega))
        have hV117 : V117 = up2 V105 5 6 z121 := by rw [hw120, ez121]
        have me122 : ME V V117 gf := (ME.up (ME.up (ME.up (ME.up ME.rf hV109 (Or.inr (by (first | exact om_620f5006bfaa  | omega)))) hV110 (Or.inr (by (first | exact om_ded18bf8e7e5  | omega)))) hV105 (Or.inr (by (first | exact om_82aabbaa6769  | omega)))) hV117 (Or.inr (by (first | exact om_f481bd0f1cda  | omega))))
        have pq123 : (V117 67 gf).toInt = ((V 67 gf)).toInt := congrArg Int32.toInt ((up2_o hV117 (by decide)).trans ((up2_o hV105 (by decide)).trans ((up2_o hV110 (by decide)).trans (up2_o hV109 (by decide)))))
        have pq124 : (V117 68 gf).toInt = ((V 68 gf)).toInt := congrArg Int32.toInt ((up2_o hV117 (by decide)).trans ((up2_o hV105 (by decide)).trans ((up2_o hV110 (by decide)).trans (up2_o hV109 (by decide)))))
        have pq125 : (V117 70 gf).toInt = ((V 70 gf)).toInt := congrArg Int32.toInt ((up2_o hV117 (by decide)).trans ((up2_o hV105 (by decide)).trans ((up2_o hV110 (by decide)).trans (up2_o hV109 (by decide)))))
        have pq126 : (V117 71 gf).toInt = ((V 71 gf)).toInt := congrArg Int32.toInt ((up2_o hV117 (by decide)).trans ((up2_o hV105 (by decide)).trans ((up2_o hV110 (by decide)).trans (up2_o hV109 (by decide)))))
        have pq127 : (V117 75 gf).toInt = ((V 75 gf)).toInt := congrArg Int32.toInt ((up2_o hV117 (by decide)).trans ((up2_o hV105 (by decide)).trans ((up2_o hV110 (by decide)).trans (up2_o hV109 (by decide)))))
        have pq128 : (V117 76 gf).toInt = ((V 76 gf)).toInt := congrArg Int32.toInt ((up2_o hV117 (by decide)).trans ((up2_o hV105 (by decide)).trans ((up2_o hV110 (by decide)).trans (up2_o hV109 (by decide)))))
        have pq129 : (V117 80 gf).toInt = ((V 80 gf)).toInt := congrArg Int32.toInt ((up2_o hV117 (by decide)).trans ((up2_o hV105 (by decide)).trans ((up2_o hV110 (by decide)).trans (up2_o hV109 (by decide)))))
        have pq130 : (V117 84 gf).toInt = ((V 84 gf)).toInt := congrArg Int32.toInt ((up2_o hV117 (by decide)).trans ((up2_o hV105 (by decide)).trans ((up2_o hV110 (by decide)).trans (up2_o hV109 (by decide)))))
        have pq131 : (V117 5 6).toInt = z121.toInt := congrArg Int32.toInt (up2_s hV117)
        have pq132 : (V117 5 8).toInt = ((V 5 8)).toInt := congrArg Int32.toInt ((up2_k hV117 (by decide)).trans ((up2_k hV105 (by decide)).trans ((up2_k hV110 (by decide)).trans (up2_k hV109 (by decide)))))
        have pq133 : (V117 5 9).toInt = 2 := (congrArg Int32.toInt ((up2_k hV117 (by decide)).trans ((up2_k hV105 (by decide)).trans ((up2_k hV110 (by decide)).trans (up2_s hV109))))).trans (by decide)
        have pq134 : (V117 3 13).toInt = ((V 3 13)).toInt := congrArg Int32.toInt ((up2_o hV117 (by decide)).trans ((up2_o hV105 (by decide)).trans ((up2_o hV110 (by decide)).trans (up2_o hV109 (by decide)))))
        have pq135 : (V117 43 (5 * b + 2)).toInt = ((V 43 (5 * b + 2))).toInt := congrArg Int32.toInt ((up2_o hV117 (by decide)).trans ((up2_o hV105 (by decide)).trans ((up2_o hV110 (by decide)).trans (up2_o hV109 (by decide)))))
        have pq136 : (V117 42 b).toInt = ((V 42 b)).toInt := congrArg Int32.toInt ((up2_o hV117 (by decide)).trans ((up2_o hV105 (by decide)).trans ((up2_o hV110 (by decide)).trans (up2_o hV109 (by decide)))))
        have pq137 : (V117 41 b).toInt = ((V 41 b)).toInt := congrArg Int32.toInt ((up2_o hV117 (by decide)).trans ((up2_o hV105 (by decide)).trans ((up2_o hV110 (by decide)).trans (up2_o hV109 (by decide)))))
        have rp138 : MJ V117 Z b := MP.lv (MO.mp mo) me122 (by (first | exact om_0e41a66fda65 gd kdp rd rd2 pq111 t115 | omega)) (fun _ => Or.inl (by (first | exact om_19a2929b0700 gk | omega)))
        have pq9 : Int32.toNatClampNeg (V 71 gf) = c.toNat := by have h9 := i_clamp (x := (V 71 gf)) rfl (by (first | exact om_d792ad813f87 r3 fc q71 kc24 pq126 | omega)); (first | exact om_043ed8ee8a8a kc9 | omega)
        have wl9 := (BKc.wl bc).2.2
        have fe9 : ∀ j : Nat, FWo V b j (Int32.toInt 0) (Int32.toNatClampNeg (V 71 gf)) ((V 73 gf)).toInt = FWo V b j ((0 : Nat) : Int) c.toNat ((me.toNat : Nat) : Int) := fun j => by rw [pq9, show Int32.toInt 0 = ((0 : Nat) : Int) from by decide, show ((V 73 gf)).toInt = ((me.toNat : Nat) : Int) from by (first | exact om_1a0a4ba40eef q73 m0 m9 kc27 | omega)]
        have fz9 := t20.resolve_right (fun h8 => by have h7 := h8.1.1; (first | exact om_d9d232bcf923 r4 q75 f22 pq127 h8 | omega))
        have fb9 : fF (bW gB) (isF gB 0 c.toNat me.toNat) ps.toNat = none := BKc.fFn bc cn9 (fun j9 h1 h2 => by rw [← fe9]; exact fz9.2 j9 (by (first | exact om_fd001f32e2f7 r4 r11 q75 pq127 pq137 wl9 h1 h2 | omega)) (by (first | exact om_6f053eba5ed1 pq137 wl9 h2 | omega)))
        have km9 : Int32.toNatClampNeg (V 73 gf) = me.toNat := by have h9 := i_clamp (x := V 73 gf) rfl (by (first | exact om_0c049ad31201 q73 m0 m9 kc27 | omega)); (first | exact om_f2c34aeddcda q73 m0 m9 kc27 | omega)
        have be9 := BKc.me bc cn9 (show me.toNat < 20 from by (first | exact om_05fbbb6d496b q73 m0 m9 kc27 km9 | omega))
        rw [← kc9, ← km9] at be9
        have pq139 : (V117 5 11).toInt = 0 := (congrArg Int32.toInt ((up2_k hV117 (by decide)).trans ((up2_k hV105 (by decide)).trans (up2_s hV110)))).trans (by decide)
        have pq140 : (V117 5 12).toInt = 11 := (congrArg Int32.toInt ((up2_k hV117 (by decide)).trans (up2_s hV105))).trans (by decide)
        have be8 : bE gB c.toNat me.toNat = 0 := by rcases be9 with h9 | h9; (rw [kc9, km9] at h9; exact h9.2); (exfalso; (first | exact om_230a843bd84f f98 h9 | omega))
        have me141 : ME V V117 gf := (ME.up (ME.up (ME.up (ME.up ME.rf hV109 (Or.inr (by (first | exact om_620f5006bfaa  | omega)))) hV110 (Or.inr (by (first | exact om_ded18bf8e7e5  | omega)))) hV105 (Or.inr (by (first | exact om_82aabbaa6769  | omega)))) hV117 (Or.inr (by (first | exact om_f481bd0f1cda  | omega))))
        have rl142 : RWl V117 gB gr t0 := RWl.mv hlr (fun i9 hi9 c9 h1 h2 => me141.2.1 c9 i9 h1 h2 (by (first | exact om_102b9d22baee gd kdp rd rd2 pq111 t115 hz121 hi9 | omega))) (fun j9 hj9 => ((up2_o hV117 (by decide)).trans ((up2_o hV105 (by decide)).trans ((up2_o hV110 (by decide)).trans (up2_o hV109 (by decide)))))) (by rw [((up2_o hV117 (by decide)).trans ((up2_o hV105 (by decide)).trans ((up2_o hV110 (by decide)).trans (up2_o hV109 (by decide)))))]; exact Int.le_refl _) ((up2_o hV117 (by decide)).trans ((up2_o hV105 (by decide)).trans ((up2_o hV110 (by decide)).trans (up2_o hV109 (by decide)))))
        have pq143 : (V117 5 7).toInt = ((V 5 7)).toInt := congrArg Int32.toInt ((up2_k hV117 (by decide)).trans ((up2_k hV105 (by decide)).trans ((up2_k hV110 (by decide)).trans (up2_k hV109 (by decide)))))
        have r144 : 0 ≤ ((V 5 7)).toInt ∧ ((V 5 7)).toInt ≤ 2048 := hMV 5 7
        have rz9 : RW V117 gB (mU (mU (mU gm 0 6 2) 0 8 0) 0 9 11, ga, gr) := RW.fl rwq (ESw.ag (show agr [(5, 6), (5, 9), (5, 11), (5, 12)] [] V V117 from (agr.up (agr.up (agr.up (agr.up agr.rf hV109 rfl) hV110 rfl) hV105 rfl) hV117 rfl)) (by decide)) (by (first | exact om_6aa5e6f8c558 pq133 | omega)) (by (first | exact om_b66ba74381d5 pq139 | omega)) (by (first | exact om_cc3c18181b6f pq140 | omega)) (show (V117 5 6).toInt = ((gr.length : Nat) : Int) from by (first | exact om_0893762427d8 kdp rd rd2 pq111 t115 | omega)) (show (V117 5 7).toInt = ((t0 : Nat) : Int) from by rw [((up2_k hV117 (by decide)).trans ((up2_k hV105 (by decide)).trans ((up2_k hV110 (by decide)).trans (up2_k hV109 (by decide))))), rt9, tz9]) rl142
        have rx145 : RW V117 gB (stM gB (gm, ga, gfr :: gr)) := by rw [hfe, st_10f (show gm 0 6 = 1 from by (first | exact om_e9389ed92ad9 sg1 rh1 | omega)) fb9 be8]; exact rz9
        refine W.know (fun kr1 kr2 => ?_)
        refine W.widen (k := zcc Z) (n := zss Z) (Nat.sub_le _ _) (Nat.sub_le _ _) ?_
        exact W.vret hx hb hr (fun t ht hW => ⟨⟨(V117, L, Z), rfl, ⟨hMV117, agV117, rfl, zoZ, rp138, rx145⟩, ⟨by rw [ht]; exact hP, va_K.moved hW.alike hK, hD⟩, by rw [ht]; exact kr1, by rw [ht]; exact kr2⟩, hS.F ht⟩) hS.2.2 dX5_nextBefore_82
    · skip
      have f146 : z16.toInt ≠ (-1) := b_neq rfl (by decide) c21
      refine lv_aload_n hx hb dX5_nextBefore_26 rfl (lv_at hl 2 rfl) ?_
      refine lv_iload_n hx hb dX5_nextBefore_27 rfl (lv_at hl 0 rfl) ?_
      refine lv_iconst (v := 1) hx hb dX5_nextBefore_28 (by decide) ?_
      refine lv_iadd hx hb dX5_nextBefore_29 ?_
      refine lv_topi (fun z147 ez147 => ?_)
      have hz147 : z147.toInt = z16.toInt + 1 := i_add ez147 rfl (by decide) (by (first | exact om_18ba364c8781 rgz16 | omega))
      refine va_putN (D := D) (ci := 4) (v := .int z147) (ty := tyX4 8) (fs := (xfFrame V gf)) (C := RX4) (T := TX4) (N := 19) hx hb hg inX4 tyX4 tyX4_ok nmX4 hown hK hP hD hS (336 + gf) (xgFrame hgf) rfl 8 (by decide) (hnw.use 1197 n1197 rfl) (fun _ h9 => h9) rfl (tyX4_ok 8 (by decide)) rfl rfl (Nat.le_of_ble_eq_true rfl) dX5_nextBefore_30 (fun H locs hP hD hS => ?_)
      obtain ⟨V148, hV148⟩ : ∃ z, z = up2 V 75 gf z147 := ⟨_, rfl⟩
      have ew149 : (xw ad kk V L Z).set (336 + gf) ((Z.fa gf), .inr (4, (xfFrame V gf).set 8 (.int z147))) = xw ad kk V148 L Z := by rw [hV148]; exact xpFrame_position hgf
      have hP : va_P D vwCl (xw ad kk V148 L Z) H := by rw [← ew149]; exact hP
      have hD : va_D A (xw ad kk V148 L Z) := by rw [← ew149]; exact hD
      have hMV148 : rgd bX V148 := hMV.put hV148 (show 0 ≤ z147.toInt ∧ z147.toInt ≤ 12 from by first | exact om_d751351becc6 rgz16 hz147 | first | omega | ((try (have i_t19 := Imp.go t19 (by omega))); omega))
      have agV148 : agr [(4, 5), (5, 6), (5, 9), (5, 11), (5, 12)] [33, 34, 35, 67, 68, 69, 70, 71, 72, 73, 74, 75, 76, 77, 78, 79, 80, 81, 82, 83, 84, 85] V V148 := agV.up hV148 rfl
      refine lv_aload_n hx hb dX5_nextBefore_33 rfl (lv_at hl 1 rfl) ?_
      refine lv_aload_n hx hb dX5_nextBefore_34 rfl (lv_at hl 2 rfl) ?_
      refine lv_iload_n hx hb dX5_nextBefore_35 rfl (lv_at hl 0 rfl) ?_
      refine lv_aload_n hx hb dX5_nextBefore_36 rfl (lv_at hl 2 rfl) ?_
      refine va_getN (D := D) (ci := 4) (v := .int (V148 74 gf)) (fs := (xfFrame V148 gf)) (C := RX4) (T := TX4) (N := 19) hx hb hg inX4 hown hK hP (336 + gf) (xgFrame hgf) rfl 7 (by decide) (hnw.use 1196 n1196 rfl) (fun _ h9 => h9) rfl dX5_nextBefore_37 ?_
      refine g_top (v := (V 74 gf)) (up2_o hV148 (by decide)) ?_
      have pq150 : (V148 71 gf).toInt = ((V 71 gf)).toInt := congrArg Int32.toInt (up2_o hV148 (by decide))
      have pq151 : (V148 43 (5 * b + 2)).toInt = ((V 43 (5 * b + 2))).toInt := congrArg Int32.toInt (up2_o hV148 (by decide))
      have pq152 : (V148 3 13).toInt = ((V 3 13)).toInt := congrArg Int32.toInt (up2_o hV148 (by decide))
      have pq153 : (V148 70 gf).toInt = ((V 70 gf)).toInt := congrArg Int32.toInt (up2_o hV148 (by decide))
      have pq154 : (V148 41 b).toInt = ((V 41 b)).toInt := congrArg Int32.toInt (up2_o hV148 (by decide))
      have me155 : ME V V148 gf := (ME.up ME.rf hV148 (Or.inl ⟨by decide, by decide, Nat.le_refl _⟩))
      have pq156 : (V148 67 gf).toInt = ((V 67 gf)).toInt := congrArg Int32.toInt (up2_o hV148 (by decide))
      have pq157 : (V148 68 gf).toInt = ((V 68 gf)).toInt := congrArg Int32.toInt (up2_o hV148 (by decide))
      have pq158 : (V148 75 gf).toInt = z147.toInt := congrArg Int32.toInt (up2_s hV148)
      have pq159 : (V148 76 gf).toInt = ((V 76 gf)).toInt := congrArg Int32.toInt (up2_o hV148 (by decide))
      have pq160 : (V148 80 gf).toInt = ((V 80 gf)).toInt := congrArg Int32.toInt (up2_o hV148 (by decide))
      have pq161 : (V148 84 gf).toInt = ((V 84 gf)).toInt := congrArg Int32.toInt (up2_o hV148 (by decide))
      have pq162 : (V148 5 6).toInt = ((V 5 6)).toInt := congrArg Int32.toInt (up2_o hV148 (by decide))
      have pq163 : (V148 5 8).toInt = ((V 5 8)).toInt := congrArg Int32.toInt (up2_o hV148 (by decide))
      have pq164 : (V148 5 9).toInt = ((V 5 9)).toInt := congrArg Int32.toInt (up2_o hV148 (by decide))
      have pq165 : (V148 42 b).toInt = ((V 42 b)).toInt := congrArg Int32.toInt (up2_o hV148 (by decide))
      have mo166 : MO V148 Z b gf True True True := MO.ch mo me155 (up2_o hV148 (by decide)) (up2_o hV148 (by decide)) (fun _ => Or.inl (by (first | exact om_19a2929b0700 gk | omega))) (fun x h => FK.k3 (by first | exact om_1a346c87806a gk pq156 | first | omega | ((try (have i_t19 := Imp.go t19 (by omega))); omega)) (by first | exact om_fe4c0070b215 r3 fc q71 pq150 pq151 | first | omega | ((try (have i_t19 := Imp.go t19 (by omega))); omega)) (by first | exact om_48c11495e94c fo ra2 q70 pq152 pq153 | first | omega | ((try (have i_t19 := Imp.go t19 (by omega))); omega)) (by first | exact om_9f18da4ccf80 hph pq157 | first | omega | ((try (have i_t19 := Imp.go t19 (by omega))); omega)))
      have mt167 : MT V148 Z b := MO.mt mo166 (by (first | exact om_6f738fa1827e hgf gd kdp rd rd2 pq162 | omega)) (by (first | exact om_78ea3e5e24cc gd kdp rd rd2 pq162 | omega))
      refine W.know (fun k169 k170 => ?_)
      obtain ⟨Hk168, hHk168⟩ : ∃ z, z = H := ⟨_, rfl⟩
      have k169 : Hk168.size ≤ s.heap.size + (zcc Z - zcc Z) := by rw [hHk168]; exact k169
      have k170 : tot Hk168 ≤ tot s.heap + (zss Z - zss Z) := by rw [hHk168]; exact k170
      refine gZ_ref (gA_runV (As := [.ref (Z.fa gf), .int z16, .int (V 74 gf)]) (rest := []) (ci := 5) (q0 := 5) hx hb hml hown hg hP hD hK hS hA hnw hgk (x_workWrap9 l D ks H.size ad kk V148 L Z z16 (V 74 gf) (b) (gf) hMV148 (by first | exact om_4cc9ceae240c rgz16 f146 hz147 pq158 | first | omega | ((try (have i_t19 := Imp.go t19 (by omega))); omega)) (show b < 2 from by first | exact om_289974d36c9f hb2 mup | first | omega | ((try (have i_t19 := Imp.go t19 (by omega))); omega)) (show gf < Z.nf from by first | exact om_d9a628b8387a hgf gd kdp rd rd2 pq162 | first | omega | ((try (have i_t19 := Imp.go t19 (by omega))); omega)) mt167 (show 0 ≤ (V148 71 gf).toInt ∧ (V148 71 gf).toInt < (V148 43 (5 * b + 2)).toInt from by first | exact om_fe4c0070b215 r3 fc q71 pq150 pq151 | first | omega | ((try (have i_t19 := Imp.go t19 (by omega))); omega)) (show 0 ≤ (V148 70 gf).toInt ∧ (V148 70 gf).toInt < (V148 3 13).toInt from by first | exact om_48c11495e94c fo ra2 q70 pq152 pq153 | first | omega | ((try (have i_t19 := Imp.go t19 (by omega))); omega)) (show z16.toInt < (V148 41 b).toInt from by first | exact om_b546089ddf65 rgz16 t20 f146 hz147 pq154 pq158 | first | omega | ((try (have i_t19 := Imp.go t19 (by omega))); omega))) w1403 w1405 w62 w171 w1406 rfl xgMachine hdV_yX5_workWrap ⟨Nat.le_of_ble_eq_true rfl, Nat.le_of_ble_eq_true rfl⟩ rfl hl.1 rfl (Nat.le_of_ble_eq_true rfl) dX5_nextBefore_40 ⟨z1 zoZ.1, z1 zoZ.2.1⟩) hD hS hA (fun u172 H locs w173 hP hD hK hS y174 y175 => ?_)
      obtain ⟨V176, L177, Z178, f179⟩ := u172
      obtain ⟨hMV176, ajV176, axL177, zlZ178, ilf179, t180, t181, t182, t183, t184⟩ := w173
      have axL177 : L = L177 := Eq.symm axL177
      subst axL177
      replace hP : va_P D vwCl (xw ad kk V176 L Z178) H := hP
      replace hD : va_D A (xw ad kk V176 L Z178) := hD
      replace hK : va_K D vwCl (xty kk Z178) s := hK
      replace hMV176 : rgd bX V176 := hMV176
      replace ajV176 : agr [(4, 5), (5, 6), (5, 9)] [33, 34, 35, 67, 68, 69, 70, 71, 72, 73, 74, 75, 76, 77, 78, 79, 80, 81, 82, 83, 84, 85] V148 V176 := ajV176
      have agV176 : agr [(4, 5), (5, 6), (5, 9), (5, 11), (5, 12)] [33, 34, 35, 67, 68, 69, 70, 71, 72, 73, 74, 75, 76, 77, 78, 79, 80, 81, 82, 83, 84, 85] V V176 := agV148.tr ajV176 (by decide) (by decide)
      replace zlZ178 : ZL Z Z178 := zlZ178
      have zoZ178 : ZL Z Z178 := ZL.tr zoZ zlZ178
      have ziZ178 := zlZ178.1
      have zjZ178 := zlZ178.2.1
      have zkZ178 := zlZ178.2.2.1
      have zmZ178 := zoZ178.1
      have znZ178 := zoZ178.2.1
      have zpZ_Z178 := zoZ.1
      have zqZ_Z178 := zoZ.2.1
      have y174 : H.size ≤ Hk168.size + (zcc Z - zcc Z178) := by rw [hHk168]; exact y174
      have y175 : tot H ≤ tot Hk168 + (zss Z - zss Z178) := by rw [hHk168]; exact y175
      refine W.tight (k := zcc Z - zcc Z178) (n := zss Z - zss Z178) (by first | exact tg9 y174 k169 zlZ178.1 zoZ.1 | omega) (by first | exact tg9 y175 k170 zlZ178.2.1 zoZ.2.1 | omega) ?_
      have hl : lv_has ls 4 [(2, .int z16), (0, .ref (ad 5)), (1, .ref (Z178.fa gf))] := by rw [zlZ178.2.2.2.2 gf hgf]; exact hl
      replace ilf179 : f179 < Z178.nf := ilf179
      replace t180 : MJ V176 Z178 b := t180
      replace t181 : (f179 : Int) + 1 = (V176 5 6).toInt := t181
      replace t182 : (V176 67 f179).toInt = 4 ∧ (V176 68 f179).toInt = 0 := t182
      replace t183 : (V176 5 9).toInt = 0 := t183
      replace t184 : Imp ((V148 5 6).toInt < 400 ∧ (gf : Int) < (V148 5 6).toInt) (PWk V148 V176 gf ((V148 5 6).toInt.toNat) (V148 66 (12 * b + Int32.toNatClampNeg (V148 47 (12 * b + Int32.toNatClampNeg z16)))) (V 74 gf)) := t184
      have r185 : 0 ≤ ((V176 5 6)).toInt ∧ ((V176 5 6)).toInt ≤ 400 := hMV176 5 6
      have r186 : 0 ≤ ((V176 5 9)).toInt ∧ ((V176 5 9)).toInt ≤ 3 := hMV176 5 9
      refine lv_pop hx hb dX5_nextBefore_43 rfl ?_
      have pq9 : Int32.toNatClampNeg (V 71 gf) = c.toNat := by have h9 := i_clamp (x := (V 71 gf)) rfl (by (first | exact om_c486a88bcb1e r3 fc q71 pq150 | omega)); (first | exact om_043ed8ee8a8a kc9 | omega)
      have wl9 := (BKc.wl bc).2.2
      have fe9 : ∀ j : Nat, FWo V b j (Int32.toInt 0) (Int32.toNatClampNeg (V 71 gf)) ((V 73 gf)).toInt = FWo V b j ((0 : Nat) : Int) c.toNat ((me.toNat : Nat) : Int) := fun j => by rw [pq9, show Int32.toInt 0 = ((0 : Nat) : Int) from by decide, show ((V 73 gf)).toInt = ((me.toNat : Nat) : Int) from by (first | exact om_10771063345f q73 m0 m9 | omega)]
      have fz9 := t20.resolve_left (fun h8 => by have h7 := h8.1; (first | exact om_b066ed3d2486 f146 hz147 pq158 ziZ178 zjZ178 h8 | omega))
      have fb9 : fF (bW gB) (isF gB 0 c.toNat me.toNat) ps.toNat = some z16.toInt.toNat := BKc.fFy bc cn9 (by have h9 := fz9.1; (first | exact om_5edc4589826b r4 r11 q75 rgz16 hz147 pq154 pq158 wl9 fz9 | omega)) (by have h9 := fz9.1; (first | exact om_06e1c77c727e r4 q75 rgz16 hz147 pq158 fz9 | omega)) (by rw [← fe9]; exact fz9.2.1) (fun j9 h1 h2 => by rw [← fe9]; exact fz9.2.2 j9 (by (first | exact om_6ba2d54cbd6a r4 q75 h1 h2 | omega)) (by (first | exact om_c5a38812c908 h2 | omega)))
      have pw := Imp.go t184 ⟨by (first | exact om_8c4987203dea gd r1 kdp rd rd2 sl9 pq162 | omega), by (first | exact om_ad89da6ade58 gd kdp rd rd2 pq162 | omega)⟩
      have pi9 : (V148 5 6).toInt.toNat = gr.length + 1 := by (first | exact om_c7704909093d gd r1 kdp rd rd2 sl9 pq162 | omega)
      rw [pi9] at pw
      obtain ⟨⟨pd1, pd2, pke⟩, ⟨pk1, pk2⟩, ⟨p69, p70, p71, p72, p73⟩, pag, pat, pba, pps⟩ := pw
      have wr187 : (V176 3 13).toInt = (V 3 13).toInt := congrArg Int32.toInt ((ajV176 3 13 rfl).trans (up2_o hV148 (by decide)))
      have wr188 : (V176 3 12).toInt = (V 3 12).toInt := congrArg Int32.toInt ((ajV176 3 12 rfl).trans (up2_o hV148 (by decide)))
      have wr189 : (V176 67 gf).toInt = ((V 67 gf)).toInt := (congrArg Int32.toInt ((pke gf (by (first | exact om_c9f168eff5a6 gd kdp rd rd2 | omega)) 67 (by decide) (by decide)).trans (up2_o hV148 (by decide))))
      have wr190 : (V176 68 gf).toInt = ((V 68 gf)).toInt := (congrArg Int32.toInt ((pke gf (by (first | exact om_c9f168eff5a6 gd kdp rd rd2 | omega)) 68 (by decide) (by decide)).trans (up2_o hV148 (by decide))))
      have wr191 : (V176 69 gf).toInt = ((V 69 gf)).toInt := (congrArg Int32.toInt ((pke gf (by (first | exact om_c9f168eff5a6 gd kdp rd rd2 | omega)) 69 (by decide) (by decide)).trans (up2_o hV148 (by decide))))
      have wr192 : (V176 70 gf).toInt = ((V 70 gf)).toInt := (congrArg Int32.toInt ((pke gf (by (first | exact om_c9f168eff5a6 gd kdp rd rd2 | omega)) 70 (by decide) (by decide)).trans (up2_o hV148 (by decide))))
      have wr193 : (V176 71 gf).toInt = ((V 71 gf)).toInt := (congrArg Int32.toInt ((pke gf (by (first | exact om_c9f168eff5a6 gd kdp rd rd2 | omega)) 71 (by decide) (by decide)).trans (up2_o hV148 (by decide))))
      have wr194 : (V176 72 gf).toInt = ((V 72 gf)).toInt := (congrArg Int32.toInt ((pke gf (by (first | exact om_c9f168eff5a6 gd kdp rd rd2 | omega)) 72 (by decide) (by decide)).trans (up2_o hV148 (by decide))))
      have wr195 : (V176 73 gf).toInt = ((V 73 gf)).toInt := (congrArg Int32.toInt ((pke gf (by (first | exact om_c9f168eff5a6 gd kdp rd rd2 | omega)) 73 (by decide) (by decide)).trans (up2_o hV148 (by decide))))
      have wr196 : (V176 75 gf).toInt = z147.toInt := (congrArg Int32.toInt ((pke gf (by (first | exact om_c9f168eff5a6 gd kdp rd rd2 | omega)) 75 (by decide) (by decide)).trans (up2_s hV148)))
      have wr197 : (V176 69 (gr.length + 1)).toInt = ((V 69 gf)).toInt := (congrArg Int32.toInt (p69.trans (up2_o hV148 (by decide))))
      have wr198 : (V176 70 (gr.length + 1)).toInt = ((V 70 gf)).toInt := (congrArg Int32.toInt (p70.trans (up2_o hV148 (by decide))))
      have wr199 : (V176 71 (gr.length + 1)).toInt = ((V 71 gf)).toInt := (congrArg Int32.toInt (p71.trans (up2_o hV148 (by decide))))
      have wr200 : (V176 72 (gr.length + 1)).toInt = ((V 72 gf)).toInt := (congrArg Int32.toInt (p72.trans (up2_o hV148 (by decide))))
      have wr201 : (V176 73 (gr.length + 1)).toInt = ((V 73 gf)).toInt := (congrArg Int32.toInt (p73.trans (up2_o hV148 (by decide))))
      have me202 : ME V V148 gf := (ME.up ME.rf hV148 (Or.inl ⟨by decide, by decide, Nat.le_refl _⟩))
      have rl203 : RWl V176 gB gr t0 := RWl.mv hlr (fun i9 hi9 c9 h1 h2 => ((pke i9 (by (first | exact om_7f53476936c1 kdp rd rd2 pq162 pi9 hi9 | omega)) c9 h1 h2)).trans (me202.2.1 c9 i9 h1 h2 (by (first | exact om_a8f73b8e7cf4 gd kdp rd rd2 pq162 pi9 hi9 | omega)))) (fun j9 hj9 => ((ajV176 39 j9 rfl).trans (up2_o hV148 (by decide)))) (by rw [((ajV176 3 13 rfl).trans (up2_o hV148 (by decide)))]; exact Int.le_refl _) ((ajV176 3 12 rfl).trans (up2_o hV148 (by decide)))
      have me204 : ME V V148 0 := (ME.up ME.rf hV148 (Or.inl ⟨by decide, by decide, by first | exact om_9a68da5e96c3 gd r1 kdp rd rd2 sl9 pq162 pi9 | first | omega | ((try (have i_t19 := Imp.go t19 (by omega))); omega)⟩))
      have bc205 : BKc V148 b gB := BKc.be bc me204.1
      have wi9 := BKc.wi bc205 (i := z16.toInt.toNat) (by have h9 := fz9.1; (first | exact om_6c5ae300a36d r4 q75 rgz16 hz147 pq154 pq158 wl9 fz9 wr196 | omega))
      have at9 : (V176 84 (gr.length + 1)).toInt = ((psz (opf gB.1) (wAt gB z16.toInt.toNat) : Nat) : Int) := by rw [pat, show Int32.toNatClampNeg z16 = z16.toInt.toNat from rfl, wi9.1]; exact wi9.2.2.1.2.2.2.2.1
      have fb8 : FRc V176 gB gr.length (Fin4 lv o c sc me ((z16.toInt.toNat + 1 : Nat) : Int)) := by rw [gl9]; exact ⟨⟨by (first | exact om_1a346c87806a gk wr189 | omega), by (first | exact om_ac6651f4ff0c hph wr190 | omega)⟩, ⟨by (first | exact om_cd7d0a6a31bc q69 wr191 | omega), ⟨by (first | exact om_25a0d8f2ad9d q70 pq153 wr192 | omega), by (first | exact om_cde1043e41d2 fo q70 pq153 wr192 wr198 | omega), by (first | exact om_08fccd1b2dd4 fo ra2 q70 pq152 pq153 wr187 wr192 wr198 | omega)⟩, ⟨by (first | exact om_25a0d8f2ad9d q71 pq150 wr193 | omega), by (first | exact om_ef3327caed94 r3 fc q71 pq150 wr193 wr199 | omega), by (first | exact om_c5674933d51c q71 c1 pq150 wr193 wr199 | omega)⟩, ⟨by (first | exact om_cd7d0a6a31bc q72 wr194 | omega), by omega, by omega⟩⟩, ⟨by (first | exact om_cd7d0a6a31bc q73 wr195 | omega), by (first | exact om_3b6eeda82e53 q73 m0 m9 wr195 wr201 | omega), by (first | exact om_7ca5daae6e6d q73 m0 m9 wr195 wr201 | omega)⟩, by (first | exact om_182af9bc8511 r4 q75 rgz16 hz147 pq158 fz9 wr196 | omega)⟩
      have ft9 : FRc V176 gB (gr.length + 1) (Fwork lv o c sc me 0 ((wAt gB z16.toInt.toNat : Nat) : Int) ga []) := ⟨⟨pk1, pk2⟩, ⟨by (first | exact om_25a0d8f2ad9d q69 wr191 wr197 | omega), ⟨by (first | exact om_6ba44aa2159d q70 pq153 wr192 wr198 | omega), by (first | exact om_cde1043e41d2 fo q70 pq153 wr192 wr198 | omega), by (first | exact om_08fccd1b2dd4 fo ra2 q70 pq152 pq153 wr187 wr192 wr198 | omega)⟩, ⟨by (first | exact om_6ba44aa2159d q71 pq150 wr193 wr199 | omega), by (first | exact om_ef3327caed94 r3 fc q71 pq150 wr193 wr199 | omega), by (first | exact om_c5674933d51c q71 c1 pq150 wr193 wr199 | omega)⟩, ⟨by (first | exact om_25a0d8f2ad9d q72 wr194 wr200 | omega), by omega, by omega⟩⟩, (fun h9 => absurd h9 (by decide)), ⟨Int.natCast_nonneg _, at9⟩, pag.trans a74⟩
      have rz9 : RW V176 gB (mU gm 0 6 0, ga, Fwork lv o c sc me 0 ((wAt gB z16.toInt.toNat : Nat) : Int) ga [] :: Fin4 lv o c sc me ((z16.toInt.toNat + 1 : Nat) : Int) :: gr) := RW.sgn rwq (ESw.ag (show agr [(4, 5), (5, 6), (5, 9)] [33, 34, 35, 67, 68, 69, 70, 71, 72, 73, 74, 75, 76, 77, 78, 79, 80, 81, 82, 83, 84, 85] V V176 from (agr.tr (agr.up agr.rf hV148 rfl) ajV176 (by decide) (by decide))) (by decide)) pd2 (fun h9 => absurd h9 (by decide)) (fun h9 => absurd h9 (by decide)) (show (V176 5 6).toInt = ((gr.length + 1 + 1 : Nat) : Int) from by (first | exact om_ea487894bae3 kdp rd rd2 pq162 pi9 pd1 | omega)) (show (V176 5 7).toInt = ((t0 : Nat) : Int) from by rw [(show agr [(4, 5), (5, 6), (5, 9)] [33, 34, 35, 67, 68, 69, 70, 71, 72, 73, 74, 75, 76, 77, 78, 79, 80, 81, 82, 83, 84, 85] V V176 from (agr.tr (agr.up agr.rf hV148 rfl) ajV176 (by decide) (by decide))) 5 7 rfl, rt9, tz9]) (RWl.push (RWl.push rl203 fb8 rfl (np9 rfl)) ft9 rfl (fun _ _ => (show (V176 85 (gr.length + 1)).toInt = ((t0 : Nat) : Int) from by rw [pba, (up2_o hV148 (by decide)), rt9, tz9])))
      have rx206 : RW V176 gB (stM gB (gm, ga, gfr :: gr)) := by rw [hfe, st_10y (show gm 0 6 = 1 from by (first | exact om_e9389ed92ad9 sg1 rh1 | omega)) fb9]; exact rz9
      refine W.know (fun kr1 kr2 => ?_)
      refine W.widen (k := zcc Z) (n := zss Z) (Nat.sub_le _ _) (Nat.sub_le _ _) ?_
      exact W.vret hx hb hr (fun t ht hW => ⟨⟨(V176, L, Z178), rfl, ⟨hMV176, agV176, rfl, zoZ178, t180, rx206⟩, ⟨by rw [ht]; exact hP, va_K.moved hW.alike hK, hD⟩, by rw [ht]; exact kr1, by rw [ht]; exact kr2⟩, hS.F ht⟩) hS.2.2 dX5_nextBefore_44
  · skip
    have hf : FRc V gB gf (Fin5 lv o c sc me ps) := by rw [← hfe]; exact hf0
    have tl8 : tw9 = t0 + (Fin5 lv o c sc me ps : Fr).2.2.2.length := by rw [← hfe]; exact tl9
    obtain ⟨⟨k67, k68⟩, hoc, ⟨q73, m0, m9⟩, q75⟩ := hf
    obtain ⟨q69, ⟨q70, o0, o1⟩, ⟨q71, c0, c1⟩, ⟨q72, s0, s1⟩⟩ := hoc
    have cn9 : c.toNat < nC gB := by (first | exact om_69c083af0030 hph k68 | omega)
    have kc9 : Int32.toNatClampNeg (V 71 gf) = c.toNat := by have h9 := i_clamp (x := V 71 gf) rfl (by (first | exact om_2f1c8437eb41 hph k68 | omega)); (first | exact om_97af7b696989 hph k68 | omega)
    have tz9 : tw9 = t0 := tl8
    exfalso; (first | exact om_00b39ddba990 hph k68 | omega)
abbrev r_x_nextAfter9 (Z : XZ) : Room := { frames := 5, cells := zcc Z, slots := zss Z, locals := 115 }
abbrev q_x_nextAfter9 (D : va_G) (ks : KS) (ad : Nat → Nat) (kk : Nat → ClassId) (V : Vf) (L : Lf) (Z : XZ) (b : Nat) (gf : Nat) (gB : Bk) (gm : Mm) (ga : Int32) (gfr : Fr) (gr : List Fr) (A : Nat → Prop) : Array Value → State → Outcome → State → Prop := qZv D (fun (u : Vf × Lf × XZ) => rgd bX u.1 ∧ agr [(4, 5), (5, 6), (5, 9), (5, 10)] [33, 34, 35, 67, 68, 69, 70, 71, 72, 73, 74, 75, 76, 77, 78, 79, 80, 81, 82, 83, 84, 85] V u.1 ∧ u.2.1 = L ∧ ZL Z u.2.2 ∧ (MJ u.1 u.2.2 b) ∧ (RW u.1 gB (stM gB (gm, ga, gfr :: gr)))) (fun u => xw ad kk u.1 u.2.1 u.2.2) (fun u => xty kk u.2.2) (fun u => zcc Z - zcc u.2.2) (fun u => zss Z - zss u.2.2) A
set_option maxHeartbeats 4000000 in
set_option maxRecDepth 100000 in
theorem x_nextAfter9 (l : Launch) (D : va_G) (ks : KS) (sz : Nat) (ad : Nat → Nat) (kk : Nat → ClassId) (V : Vf) (L : Lf) (Z : XZ) (b : Nat) (gf : Nat) (gB : Bk) (gm : Mm) (ga : Int32) (gfr : Fr) (gr : List Fr) (hMV : rgd bX V) (hb2 : b < 2) (hgf : gf < Z.nf) (mo : MO V Z b gf True (QN V b) (QN V b)) (gd : (gf : Int) + 1 = (V 5 6).toInt) (gk : (V 67 gf).toInt = 3) (hps : (V 75 gf).toInt ≤ (V 41 b).toInt) (hph : (V 68 gf).toInt ≠ 0 ∧ (V 68 gf).toInt ≠ 1) (rwq : RW V gB (gm, ga, gfr :: gr)) (bc : BKc V b gB) (sf : SF gB (gm, ga, gfr :: gr)) (ph0 : (V 68 gf).toInt = 5) (a74 : V 74 gf = ga) (sg1 : (V 5 9).toInt = 1)  : Met l yX5_nextAfter (Cond.code yX5_nextAfter cX5_nextAfter 3 none :: GW) (r_x_nextAfter9 Z) (va_Pc [.ref (ad 5), .ref (Z.fa gf)] (gp D ks (xw ad kk V L Z) (xty kk Z) sz)) (q_x_nextAfter9 D ks ad kk V L Z  b gf gB gm ga gfr gr (va_A (xw ad kk V L Z) sz)) (zcc Z) (zss Z) (va_A (xw ad kk V L Z) sz) := by
  refine g_met (q_x_nextAfter9 D ks ad kk V L Z  b gf gB gm ga gfr gr) (by decide) (Nat.le_of_ble_eq_true rfl) ?_
  intro p e s m below meth c A ls H locs hx hb hr hml hown hg hlocks hin hnw hgk hP hK hD hS hA hl
  replace hown : s.vm.findClass RX5 = some m.cls := hown
  replace hl : lv_has ls 3 [(0, .ref (ad 5)), (1, .ref (Z.fa gf))] := hl
  replace hP : va_P D vwCl (xw ad kk V L Z) H := hP
  replace hD : va_D A (xw ad kk V L Z) := hD
  replace hK : va_K D vwCl (xty kk Z) s := hK
  have agV : agr [(4, 5), (5, 6), (5, 9), (5, 10)] [33, 34, 35, 67, 68, 69, 70, 71, 72, 73, 74, 75, 76, 77, 78, 79, 80, 81, 82, 83, 84, 85] V V := agr.rf
  have zoZ : ZL Z Z := ZL.rf
  refine W.know (fun ka kb => ?_)
  refine W.tight (k := zcc Z - zcc Z) (n := zss Z - zss Z) (by (first | exact om_7244b830ee02 ka | omega)) (by (first | exact om_7244b830ee02 kb | omega)) ?_
  have r1 : 0 ≤ ((V 5 6)).toInt ∧ ((V 5 6)).toInt ≤ 400 := hMV 5 6
  have r2 : 0 ≤ ((V 75 gf)).toInt ∧ ((V 75 gf)).toInt ≤ 12 := hMV 75 gf
  have r3 : 0 ≤ ((V 41 b)).toInt ∧ ((V 41 b)).toInt ≤ 12 := hMV 41 b
  have r4 : 0 ≤ ((V 5 9)).toInt ∧ ((V 5 9)).toInt ≤ 3 := hMV 5 9
  have kdp := i_clamp (x := V 5 6) rfl (by (first | exact om_e301311e2a25 gd r1 | omega))
  have hdn : (gf : Int) + 1 ≤ (Z.nf : Int) := by (first | exact om_bb8713a56da6 hgf gd kdp | omega)
  have mup := MO.up mo
  have msz := mup.1
  have mbk := mup.2.2.2.1
  obtain ⟨xk, fk⟩ := MO.fk mo
  have r5 : (-1) ≤ ((V 71 gf)).toInt ∧ ((V 71 gf)).toInt ≤ 23 := hMV 71 gf
  have r6 : 0 ≤ ((V 80 gf)).toInt ∧ ((V 80 gf)).toInt ≤ 300 := hMV 80 gf
  have r7 : 0 ≤ ((V 84 gf)).toInt ∧ ((V 84 gf)).toInt ≤ 2147483647 := hMV 84 gf
  have r8 : 0 ≤ ((V 5 8)).toInt ∧ ((V 5 8)).toInt ≤ 300 := hMV 5 8
  have r9 : 0 ≤ ((V 3 13)).toInt ∧ ((V 3 13)).toInt ≤ 300 := hMV 3 13
  have r10 : 0 ≤ ((V 43 (5 * b + 2))).toInt ∧ ((V 43 (5 * b + 2))).toInt ≤ ((xcap (5 * b + 2) : Nat) : Int) := hMV 43 (5 * b + 2)
  have r11 : xcap (5 * b + 2) = 24 := xcap_2
  have r12 : 0 ≤ ((V 42 b)).toInt ∧ ((V 42 b)).toInt ≤ 8200 := hMV 42 b
  have fc := fk.1 (by (first | exact om_19a2929b0700 gk | omega))
  have fo := fk.2.1 (by (first | exact om_19a2929b0700 gk | omega)) (by (first | exact om_2ac8fade1515 gk | omega))
  have fp := fk.2.2.2.2.2.2.2.2.1 (by (first | exact om_395e3da5ee0d gk | omega))
  have m1 : Int32.toInt (-1) = -1 := by decide
  have rw0 := rwq
  obtain ⟨⟨ow, rn⟩, rh, rd, tw9, rt9, rl⟩ := rw0
  replace rn : RWn V ow gB gm := rn
  replace rh : RWh V gm ga := rh
  have rd2 : (V 5 6).toInt = ((gr.length + 1 : Nat) : Int) := rd
  have gl9 : gr.length = gf := by (first | exact om_737fc00ff7e4 gd kdp rd rd2 | omega)
  have sl9 : gr.length ≤ 394 := by have h9 : gr.length + 1 ≤ 395 := sf.1; (first | exact om_5c206326bd12 gd r1 kdp rd rd2 h9 | omega)
  have rh1 : (V 5 9).toInt = gm 0 6 := rh.1
  have ra2 : (V 3 13).toInt = gm 0 2 := rn.1.1.2.2.1
  have rl0 := rl
  obtain ⟨t0, tl9, hf0, hbs9, hpl9, hlr⟩ := rl0
  rw [gl9] at hf0 hbs9
  rcases FRc.k3 hf0 gk with ⟨lv, o, c, sc, me, ps, v, hfe⟩ | ⟨lv, o, c, sc, me, hfe⟩ | ⟨lv, o, c, sc, me, ps, hfe⟩ | ⟨lv, o, c, sc, me, ps, hfe⟩
  · skip
    have hf : FRc V gB gf (Fin0 lv o c sc me ps v) := by rw [← hfe]; exact hf0
    have tl8 : tw9 = t0 + (Fin0 lv o c sc me ps v : Fr).2.2.2.length := by rw [← hfe]; exact tl9
    obtain ⟨⟨k67, k68⟩, hoc, ⟨q73, m0, m9⟩, q75, q74⟩ := hf
    obtain ⟨q69, ⟨q70, o0, o1⟩, ⟨q71, c0, c1⟩, ⟨q72, s0, s1⟩⟩ := hoc
    have cn9 : c.toNat < nC gB := by (first | exact om_af89afcd90e9 ph0 k68 | omega)
    have kc9 : Int32.toNatClampNeg (V 71 gf) = c.toNat := by have h9 := i_clamp (x := V 71 gf) rfl (by (first | exact om_35623ce591f0 ph0 k68 | omega)); (first | exact om_274b70db5a04 ph0 k68 | omega)
    have tz9 : tw9 = t0 := tl8
    exfalso; (first | exact om_c204c3821207 ph0 k68 | omega)
  · skip
    have hf : FRc V gB gf (Fin1 lv o c sc me) := by rw [← hfe]; exact hf0
    have tl8 : tw9 = t0 + (Fin1 lv o c sc me : Fr).2.2.2.length := by rw [← hfe]; exact tl9
    obtain ⟨⟨k67, k68⟩, hoc, ⟨q73, m0, m9⟩⟩ := hf
    obtain ⟨q69, ⟨q70, o0, o1⟩, ⟨q71, c0, c1⟩, ⟨q72, s0, s1⟩⟩ := hoc
    have cn9 : c.toNat < nC gB := by (first | exact om_3e9bac96c777 ph0 k68 | omega)
    have kc9 : Int32.toNatClampNeg (V 71 gf) = c.toNat := by have h9 := i_clamp (x := V 71 gf) rfl (by (first | exact om_0ceda653d013 ph0 k68 | omega)); (first | exact om_b0bed612f649 ph0 k68 | omega)
    have tz9 : tw9 = t0 := tl8
    exfalso; (first | exact om_4178dede369b ph0 k68 | omega)
  · skip
    have hf : FRc V gB gf (Fin4 lv o c sc me ps) := by rw [← hfe]; exact hf0
    have tl8 : tw9 = t0 + (Fin4 lv o c sc me ps : Fr).2.2.2.length := by rw [← hfe]; exact tl9
    obtain ⟨⟨k67, k68⟩, hoc, ⟨q73, m0, m9⟩, q75⟩ := hf
    obtain ⟨q69, ⟨q70, o0, o1⟩, ⟨q71, c0, c1⟩, ⟨q72, s0, s1⟩⟩ := hoc
    have cn9 : c.toNat < nC gB := by (first | exact om_33039d9d3820 ph0 k68 | omega)
    have kc9 : Int32.toNatClampNeg (V 71 gf) = c.toNat := by have h9 := i_clamp (x := V 71 gf) rfl (by (first | exact om_ecbf8292825a ph0 k68 | omega)); (first | exact om_3729ab58f389 ph0 k68 | omega)
    have tz9 : tw9 = t0 := tl8
    exfalso; (first | exact om_77e149f5a598 ph0 k68 | omega)
  · skip
    have hf : FRc V gB gf (Fin5 lv o c sc me ps) := by rw [← hfe]; exact hf0
    have tl8 : tw9 = t0 + (Fin5 lv o c sc me ps : Fr).2.2.2.length := by rw [← hfe]; exact tl9
    obtain ⟨⟨k67, k68⟩, hoc, ⟨q73, m0, m9⟩, q75⟩ := hf
    obtain ⟨q69, ⟨q70, o0, o1⟩, ⟨q71, c0, c1⟩, ⟨q72, s0, s1⟩⟩ := hoc
    have cn9 : c.toNat < nC gB := by (first | exact om_51a08a25bfb6 r5 fc q71 c1 | omega)
    have kc9 : Int32.toNatClampNeg (V 71 gf) = c.toNat := by have h9 := i_clamp (x := V 71 gf) rfl (by (first | exact om_762d7ad45f4b r5 fc q71 | omega)); (first | exact om_57d2b76748c0 r5 fc q71 h9 | omega)
    have tz9 : tw9 = t0 := tl8
    refine lv_aload_n hx hb dX5_nextAfter_0 rfl (lv_at hl 0 rfl) ?_
    refine va_get (D := D) (ci := 5) (v := .ref (ad (38 + Int32.toNatClampNeg (V 5 5)))) (fs := (xfMachine ad V L Z)) (C := RX5) (T := TX5) (N := 15) hx hb hg inX5 hown hK hP 5 xgMachine rfl 5 (by decide) (hg _ w672) (fun _ h9 => h9) rfl dX5_nextAfter_1 ?_
    have r13 : 0 ≤ ((V 5 5)).toInt ∧ ((V 5 5)).toInt ≤ 1 := hMV 5 5
    refine g_topv (v := .ref (ad (38 + b))) (rfP (by (first | exact om_c62f5505ba8e mup | omega))) ?_
    refine lv_aload_n hx hb dX5_nextAfter_4 rfl (lv_at hl 1 rfl) ?_
    refine va_getN (D := D) (ci := 4) (v := .int (V 75 gf)) (fs := (xfFrame V gf)) (C := RX4) (T := TX4) (N := 19) hx hb hg inX4 hown hK hP (336 + gf) (xgFrame hgf) rfl 8 (by decide) (hnw.use 1197 n1197 rfl) (fun _ h9 => h9) rfl dX5_nextAfter_5 ?_
    refine lv_iconst (v := 1) hx hb dX5_nextAfter_8 (by decide) ?_
    refine lv_isub hx hb dX5_nextAfter_9 ?_
    refine lv_topi (fun z14 ez14 => ?_)
    have hz14 : z14.toInt = ((V 75 gf)).toInt - 1 := i_sub ez14 rfl (by decide) (by (first | exact om_5c9022d646bb r2 q75 | omega))
    refine lv_iconst (v := 2) hx hb dX5_nextAfter_10 (by decide) ?_
    refine lv_aload_n hx hb dX5_nextAfter_11 rfl (lv_at hl 1 rfl) ?_
    refine va_getN (D := D) (ci := 4) (v := .int (V 71 gf)) (fs := (xfFrame V gf)) (C := RX4) (T := TX4) (N := 19) hx hb hg inX4 hown hK hP (336 + gf) (xgFrame hgf) rfl 4 (by decide) (hnw.use 1193 n1193 rfl) (fun _ h9 => h9) rfl dX5_nextAfter_12 ?_
    refine lv_aload_n hx hb dX5_nextAfter_15 rfl (lv_at hl 1 rfl) ?_
    refine va_getN (D := D) (ci := 4) (v := .int (V 73 gf)) (fs := (xfFrame V gf)) (C := RX4) (T := TX4) (N := 19) hx hb hg inX4 hown hK hP (336 + gf) (xgFrame hgf) rfl 6 (by decide) (hnw.use 1195 n1195 rfl) (fun _ h9 => h9) rfl dX5_nextAfter_16 ?_
    have r15 : 0 ≤ ((V 73 gf)).toInt ∧ ((V 73 gf)).toInt ≤ 19 := hMV 73 gf
    have r16 : Int32.toInt 2 = 2 := by decide
    refine gA_int (gA_runV (As := [.int z14, .int 2, .int (V 71 gf), .int (V 73 gf)]) (rest := []) (ci := 0) (q0 := (38 + b)) hx hb hml hown hg hP hD hK hS hA hnw hgk (x_wrapBackFrom9 l D ks H.size ad kk V L Z z14 2 (V 71 gf) (V 73 gf) (b) hMV (by (first | exact om_16b4ed23d7c5 r2 q75 hz14 | omega)) (by (first | exact om_7ee2e48c2283 r5 fc q71 | omega)) (show b < 2 from by (first | exact om_289974d36c9f hb2 mup | omega)) (show z14.toInt < (V 41 b).toInt from by (first | exact om_8c5fc398364c hps q75 hz14 | omega)) (fun i9 hi9 => by have w9 := BKc.wi bc (i := i9) (by have := (BKc.wl bc).2.2.2; omega); rw [w9.1]; have w8 := w9.2.2.1.1; have w7 := w9.2.2.2.2; exact ⟨by (first | exact om_c9a0220d2423 w9 w8 | omega), by (first | exact om_e31d9712f333 w9 w8 | omega)⟩)) w1392 w1393 w1394 w167 w1395 rfl (xgBook hb2) hdV_yX0_wrapBackFrom ⟨Nat.le_of_ble_eq_true rfl, Nat.le_of_ble_eq_true rfl⟩ rfl hl.1 rfl (Nat.le_of_ble_eq_true rfl) dX5_nextAfter_19 ⟨z0, z0⟩) hP hD hK hS hA (fun z17 u18 H locs w19 hP hD hK hS => ?_)
    obtain ⟨rgz17, t20, t21⟩ := w19
    replace rgz17 : (-1) ≤ z17.toInt ∧ z17.toInt ≤ 11 := rgz17
    replace t20 : Imp (0 ≤ z17.toInt) (z17.toInt < (V 41 b).toInt) := t20
    replace t21 : ((z17.toInt = -1 ∧ z14.toInt < (V 41 b).toInt) ∧ ∀ i : Nat, (i : Int) ≤ z14.toInt → ¬ FWo V b i (Int32.toInt 2) (Int32.toNatClampNeg (V 71 gf)) ((V 73 gf)).toInt) ∨ ((0 ≤ z17.toInt ∧ z17.toInt ≤ z14.toInt ∧ z14.toInt < (V 41 b).toInt) ∧ FWo V b z17.toInt.toNat (Int32.toInt 2) (Int32.toNatClampNeg (V 71 gf)) ((V 73 gf)).toInt ∧ ∀ i : Nat, z17.toInt < (i : Int) → (i : Int) ≤ z14.toInt → ¬ FWo V b i (Int32.toInt 2) (Int32.toNatClampNeg (V 71 gf)) ((V 73 gf)).toInt) := t21
    refine lv_istore_n (lv' := [(2, .int z17), (0, .ref (ad 5)), (1, .ref (Z.fa gf))]) hx hb dX5_nextAfter_22 rfl hl (by decide) rfl (fun ls hl => ?_)
    refine lv_iload_n hx hb dX5_nextAfter_23 rfl (lv_at hl 0 rfl) ?_
    refine lv_iconst (v := (-1)) hx hb dX5_nextAfter_24 (by decide) ?_
    refine lv_icmp_ne (tgt := 41) hx hb dX5_nextAfter_25 (by decide) (fun c22 => ?_) (fun c22 => ?_)
    · skip
      have f23 : z17.toInt ≠ (-1) := b_neq rfl (by decide) c22
      refine lv_aload_n hx hb dX5_nextAfter_41 rfl (lv_at hl 2 rfl) ?_
      refine lv_iload_n hx hb dX5_nextAfter_42 rfl (lv_at hl 0 rfl) ?_
      refine va_putN (D := D) (ci := 4) (v := .int z17) (ty := tyX4 8) (fs := (xfFrame V gf)) (C := RX4) (T := TX4) (N := 19) hx hb hg inX4 tyX4 tyX4_ok nmX4 hown hK hP hD hS (336 + gf) (xgFrame hgf) rfl 8 (by decide) (hnw.use 1197 n1197 rfl) (fun _ h9 => h9) rfl (tyX4_ok 8 (by decide)) rfl rfl (Nat.le_of_ble_eq_true rfl) dX5_nextAfter_43 (fun H locs hP hD hS => ?_)
      obtain ⟨V24, hV24⟩ : ∃ z, z = up2 V 75 gf z17 := ⟨_, rfl⟩
      have ew25 : (xw ad kk V L Z).set (336 + gf) ((Z.fa gf), .inr (4, (xfFrame V gf).set 8 (.int z17))) = xw ad kk V24 L Z := by rw [hV24]; exact xpFrame_position hgf
      have hP : va_P D vwCl (xw ad kk V24 L Z) H := by rw [← ew25]; exact hP
      have hD : va_D A (xw ad kk V24 L Z) := by rw [← ew25]; exact hD
      have hMV24 : rgd bX V24 := hMV.put hV24 (show 0 ≤ z17.toInt ∧ z17.toInt ≤ 12 from by first | exact om_4bf42d7c603a rgz17 f23 | first | omega | ((try (have i_t20 := Imp.go t20 (by omega))); omega))
      have agV24 : agr [(4, 5), (5, 6), (5, 9), (5, 10)] [33, 34, 35, 67, 68, 69, 70, 71, 72, 73, 74, 75, 76, 77, 78, 79, 80, 81, 82, 83, 84, 85] V V24 := agV.up hV24 rfl
      refine lv_aload_n hx hb dX5_nextAfter_46 rfl (lv_at hl 1 rfl) ?_
      refine lv_aload_n hx hb dX5_nextAfter_47 rfl (lv_at hl 2 rfl) ?_
      refine lv_iload_n hx hb dX5_nextAfter_48 rfl (lv_at hl 0 rfl) ?_
      refine lv_aload_n hx hb dX5_nextAfter_49 rfl (lv_at hl 2 rfl) ?_
      refine va_getN (D := D) (ci := 4) (v := .int (V24 74 gf)) (fs := (xfFrame V24 gf)) (C := RX4) (T := TX4) (N := 19) hx hb hg inX4 hown hK hP (336 + gf) (xgFrame hgf) rfl 7 (by decide) (hnw.use 1196 n1196 rfl) (fun _ h9 => h9) rfl dX5_nextAfter_50 ?_
      refine g_top (v := (V 74 gf)) (up2_o hV24 (by decide)) ?_
      have pq26 : (V24 71 gf).toInt = ((V 71 gf)).toInt := congrArg Int32.toInt (up2_o hV24 (by decide))
      have pq27 : (V24 43 (5 * b + 2)).toInt = ((V 43 (5 * b + 2))).toInt := congrArg Int32.toInt (up2_o hV24 (by decide))
      have pq28 : (V24 3 13).toInt = ((V 3 13)).toInt := congrArg Int32.toInt (up2_o hV24 (by decide))
      have pq29 : (V24 70 gf).toInt = ((V 70 gf)).toInt := congrArg Int32.toInt (up2_o hV24 (by decide))
      have pq30 : (V24 41 b).toInt = ((V 41 b)).toInt := congrArg Int32.toInt (up2_o hV24 (by decide))
      have me31 : ME V V24 gf := (ME.up ME.rf hV24 (Or.inl ⟨by decide, by decide, Nat.le_refl _⟩))
      have pq32 : (V24 67 gf).toInt = ((V 67 gf)).toInt := congrArg Int32.toInt (up2_o hV24 (by decide))
      have pq33 : (V24 68 gf).toInt = ((V 68 gf)).toInt := congrArg Int32.toInt (up2_o hV24 (by decide))
      have pq34 : (V24 75 gf).toInt = z17.toInt := congrArg Int32.toInt (up2_s hV24)
      have pq35 : (V24 76 gf).toInt = ((V 76 gf)).toInt := congrArg Int32.toInt (up2_o hV24 (by decide))
      have pq36 : (V24 80 gf).toInt = ((V 80 gf)).toInt := congrArg Int32.toInt (up2_o hV24 (by decide))
      have pq37 : (V24 84 gf).toInt = ((V 84 gf)).toInt := congrArg Int32.toInt (up2_o hV24 (by decide))
      have pq38 : (V24 5 6).toInt = ((V 5 6)).toInt := congrArg Int32.toInt (up2_o hV24 (by decide))
      have pq39 : (V24 5 8).toInt = ((V 5 8)).toInt := congrArg Int32.toInt (up2_o hV24 (by decide))
      have pq40 : (V24 5 9).toInt = ((V 5 9)).toInt := congrArg Int32.toInt (up2_o hV24 (by decide))
      have pq41 : (V24 42 b).toInt = ((V 42 b)).toInt := congrArg Int32.toInt (up2_o hV24 (by decide))
      have mo42 : MO V24 Z b gf True True True := MO.ch mo me31 (up2_o hV24 (by decide)) (up2_o hV24 (by decide)) (fun _ => Or.inl (by (first | exact om_19a2929b0700 gk | omega))) (fun x h => FK.k3 (by first | exact om_1a346c87806a gk pq32 | first | omega | ((try (have i_t20 := Imp.go t20 (by omega))); omega)) (by first | exact om_fe4c0070b215 r5 fc q71 pq26 pq27 | first | omega | ((try (have i_t20 := Imp.go t20 (by omega))); omega)) (by first | exact om_48c11495e94c fo ra2 q70 pq28 pq29 | first | omega | ((try (have i_t20 := Imp.go t20 (by omega))); omega)) (by first | exact om_fbc7869fc571 hps ph0 q75 hz14 rgz17 t21 f23 pq30 pq33 pq34 | first | omega | ((try (have i_t20 := Imp.go t20 (by omega))); omega)))
      have mt43 : MT V24 Z b := MO.mt mo42 (by (first | exact om_6f738fa1827e hgf gd kdp rd rd2 pq38 | omega)) (by (first | exact om_78ea3e5e24cc gd kdp rd rd2 pq38 | omega))
      refine W.know (fun k45 k46 => ?_)
      obtain ⟨Hk44, hHk44⟩ : ∃ z, z = H := ⟨_, rfl⟩
      have k45 : Hk44.size ≤ s.heap.size + (zcc Z - zcc Z) := by rw [hHk44]; exact k45
      have k46 : tot Hk44 ≤ tot s.heap + (zss Z - zss Z) := by rw [hHk44]; exact k46
      refine gZ_ref (gA_runV (As := [.ref (Z.fa gf), .int z17, .int (V 74 gf)]) (rest := []) (ci := 5) (q0 := 5) hx hb hml hown hg hP hD hK hS hA hnw hgk (x_workWrap9 l D ks H.size ad kk V24 L Z z17 (V 74 gf) (b) (gf) hMV24 (by first | exact om_5e488842e9eb rgz17 f23 pq34 | first | omega | ((try (have i_t20 := Imp.go t20 (by omega))); omega)) (show b < 2 from by first | exact om_289974d36c9f hb2 mup | first | omega | ((try (have i_t20 := Imp.go t20 (by omega))); omega)) (show gf < Z.nf from by first | exact om_d9a628b8387a hgf gd kdp rd rd2 pq38 | first | omega | ((try (have i_t20 := Imp.go t20 (by omega))); omega)) mt43 (show 0 ≤ (V24 71 gf).toInt ∧ (V24 71 gf).toInt < (V24 43 (5 * b + 2)).toInt from by first | exact om_fe4c0070b215 r5 fc q71 pq26 pq27 | first | omega | ((try (have i_t20 := Imp.go t20 (by omega))); omega)) (show 0 ≤ (V24 70 gf).toInt ∧ (V24 70 gf).toInt < (V24 3 13).toInt from by first | exact om_48c11495e94c fo ra2 q70 pq28 pq29 | first | omega | ((try (have i_t20 := Imp.go t20 (by omega))); omega)) (show z17.toInt < (V24 41 b).toInt from by first | exact om_4f8217f2d644 hps q75 hz14 rgz17 t21 f23 pq30 pq34 | first | omega | ((try (have i_t20 := Imp.go t20 (by omega))); omega))) w1403 w1405 w62 w171 w1406 rfl xgMachine hdV_yX5_workWrap ⟨Nat.le_of_ble_eq_true rfl, Nat.le_of_ble_eq_true rfl⟩ rfl hl.1 rfl (Nat.le_of_ble_eq_true rfl) dX5_nextAfter_53 ⟨z1 zoZ.1, z1 zoZ.2.1⟩) hD hS hA (fun u48 H locs w49 hP hD hK hS y50 y51 => ?_)
      obtain ⟨V52, L53, Z54, f55⟩ := u48
      obtain ⟨hMV52, ajV52, axL53, zlZ54, ilf55, t56, t57, t58, t59, t60⟩ := w49
      have axL53 : L = L53 := Eq.symm axL53
      subst axL53
      replace hP : va_P D vwCl (xw ad kk V52 L Z54) H := hP
      replace hD : va_D A (xw ad kk V52 L Z54) := hD
      replace hK : va_K D vwCl (xty kk Z54) s := hK
      replace hMV52 : rgd bX V52 := hMV52
      replace ajV52 : agr [(4, 5), (5, 6), (5, 9)] [33, 34, 35, 67, 68, 69, 70, 71, 72, 73, 74, 75, 76, 77, 78, 79, 80, 81, 82, 83, 84, 85] V24 V52 := ajV52
      have agV52 : agr [(4, 5), (5, 6), (5, 9), (5, 10)] [33, 34, 35, 67, 68, 69, 70, 71, 72, 73, 74, 75, 76, 77, 78, 79, 80, 81, 82, 83, 84, 85] V V52 := agV24.tr ajV52 (by decide) (by decide)
      replace zlZ54 : ZL Z Z54 := zlZ54
      have zoZ54 : ZL Z Z54 := ZL.tr zoZ zlZ54
      have ziZ54 := zlZ54.1
      have zjZ54 := zlZ54.2.1
      have zkZ54 := zlZ54.2.2.1
      have zmZ54 := zoZ54.1
      have znZ54 := zoZ54.2.1
      have zpZ_Z54 := zoZ.1
      have zqZ_Z54 := zoZ.2.1
      have y50 : H.size ≤ Hk44.size + (zcc Z - zcc Z54) := by rw [hHk44]; exact y50
      have y51 : tot H ≤ tot Hk44 + (zss Z - zss Z54) := by rw [hHk44]; exact y51
      refine W.tight (k := zcc Z - zcc Z54) (n := zss Z - zss Z54) (by first | exact tg9 y50 k45 zlZ54.1 zoZ.1 | omega) (by first | exact tg9 y51 k46 zlZ54.2.1 zoZ.2.1 | omega) ?_
      have hl : lv_has ls 3 [(2, .int z17), (0, .ref (ad 5)), (1, .ref (Z54.fa gf))] := by rw [zlZ54.2.2.2.2 gf hgf]; exact hl
      replace ilf55 : f55 < Z54.nf := ilf55
      replace t56 : MJ V52 Z54 b := t56
      replace t57 : (f55 : Int) + 1 = (V52 5 6).toInt := t57
      replace t58 : (V52 67 f55).toInt = 4 ∧ (V52 68 f55).toInt = 0 := t58
      replace t59 : (V52 5 9).toInt = 0 := t59
      replace t60 : Imp ((V24 5 6).toInt < 400 ∧ (gf : Int) < (V24 5 6).toInt) (PWk V24 V52 gf ((V24 5 6).toInt.toNat) (V24 66 (12 * b + Int32.toNatClampNeg (V24 47 (12 * b + Int32.toNatClampNeg z17)))) (V 74 gf)) := t60
      have r61 : 0 ≤ ((V52 5 6)).toInt ∧ ((V52 5 6)).toInt ≤ 400 := hMV52 5 6
      have r62 : 0 ≤ ((V52 5 9)).toInt ∧ ((V52 5 9)).toInt ≤ 3 := hMV52 5 9
      refine lv_pop hx hb dX5_nextAfter_56 rfl ?_
      have pq9 : Int32.toNatClampNeg (V 71 gf) = c.toNat := by have h9 := i_clamp (x := (V 71 gf)) rfl (by (first | exact om_c486a88bcb1e r5 fc q71 pq26 | omega)); (first | exact om_043ed8ee8a8a kc9 | omega)
      have wl9 := (BKc.wl bc).2.2
      have fe9 : ∀ j : Nat, FWo V b j (Int32.toInt 2) (Int32.toNatClampNeg (V 71 gf)) ((V 73 gf)).toInt = FWo V b j ((2 : Nat) : Int) c.toNat ((me.toNat : Nat) : Int) := fun j => by rw [pq9, show Int32.toInt 2 = ((2 : Nat) : Int) from by decide, show ((V 73 gf)).toInt = ((me.toNat : Nat) : Int) from by (first | exact om_10771063345f q73 m0 m9 | omega)]
      have fz9 := t21.resolve_left (fun h8 => by have h7 := h8.1.1; (first | exact om_20f67ab0a8cd f23 pq34 ziZ54 zjZ54 h8 | omega))
      have fb9 : fB (bW gB) (isF gB 2 c.toNat me.toNat) ps.toNat = some z17.toInt.toNat := BKc.fBy bc cn9 (by have h9 := fz9.1; (first | exact om_3b178a48fc02 r2 q75 hz14 rgz17 pq34 fz9 | omega)) (by have h9 := fz9.1; (first | exact om_1a3a46814ee0 hps r2 q75 hz14 rgz17 pq30 pq34 wl9 fz9 | omega)) (by rw [← fe9]; exact fz9.2.1) (fun j9 h1 h2 => by rw [← fe9]; exact fz9.2.2 j9 (by (first | exact om_5fef1ea8ff58 r2 q75 hz14 rgz17 pq34 fz9 h1 | omega)) (by (first | exact om_8924e6809fe1 r2 q75 hz14 rgz17 pq34 fz9 h2 | omega)))
      have pw := Imp.go t60 ⟨by (first | exact om_8c4987203dea gd r1 kdp rd rd2 sl9 pq38 | omega), by (first | exact om_ad89da6ade58 gd kdp rd rd2 pq38 | omega)⟩
      have pi9 : (V24 5 6).toInt.toNat = gr.length + 1 := by (first | exact om_c7704909093d gd r1 kdp rd rd2 sl9 pq38 | omega)
      rw [pi9] at pw
      obtain ⟨⟨pd1, pd2, pke⟩, ⟨pk1, pk2⟩, ⟨p69, p70, p71, p72, p73⟩, pag, pat, pba, pps⟩ := pw
      have wr63 : (V52 3 13).toInt = (V 3 13).toInt := congrArg Int32.toInt ((ajV52 3 13 rfl).trans (up2_o hV24 (by decide)))
      have wr64 : (V52 3 12).toInt = (V 3 12).toInt := congrArg Int32.toInt ((ajV52 3 12 rfl).trans (up2_o hV24 (by decide)))
      have wr65 : (V52 67 gf).toInt = ((V 67 gf)).toInt := (congrArg Int32.toInt ((pke gf (by (first | exact om_c9f168eff5a6 gd kdp rd rd2 | omega)) 67 (by decide) (by decide)).trans (up2_o hV24 (by decide))))
      have wr66 : (V52 68 gf).toInt = ((V 68 gf)).toInt := (congrArg Int32.toInt ((pke gf (by (first | exact om_c9f168eff5a6 gd kdp rd rd2 | omega)) 68 (by decide) (by decide)).trans (up2_o hV24 (by decide))))
      have wr67 : (V52 69 gf).toInt = ((V 69 gf)).toInt := (congrArg Int32.toInt ((pke gf (by (first | exact om_c9f168eff5a6 gd kdp rd rd2 | omega)) 69 (by decide) (by decide)).trans (up2_o hV24 (by decide))))
      have wr68 : (V52 70 gf).toInt = ((V 70 gf)).toInt := (congrArg Int32.toInt ((pke gf (by (first | exact om_c9f168eff5a6 gd kdp rd rd2 | omega)) 70 (by decide) (by decide)).trans (up2_o hV24 (by decide))))
      have wr69 : (V52 71 gf).toInt = ((V 71 gf)).toInt := (congrArg Int32.toInt ((pke gf (by (first | exact om_c9f168eff5a6 gd kdp rd rd2 | omega)) 71 (by decide) (by decide)).trans (up2_o hV24 (by decide))))
      have wr70 : (V52 72 gf).toInt = ((V 72 gf)).toInt := (congrArg Int32.toInt ((pke gf (by (first | exact om_c9f168eff5a6 gd kdp rd rd2 | omega)) 72 (by decide) (by decide)).trans (up2_o hV24 (by decide))))
      have wr71 : (V52 73 gf).toInt = ((V 73 gf)).toInt := (congrArg Int32.toInt ((pke gf (by (first | exact om_c9f168eff5a6 gd kdp rd rd2 | omega)) 73 (by decide) (by decide)).trans (up2_o hV24 (by decide))))
      have wr72 : (V52 75 gf).toInt = z17.toInt := (congrArg Int32.toInt ((pke gf (by (first | exact om_c9f168eff5a6 gd kdp rd rd2 | omega)) 75 (by decide) (by decide)).trans (up2_s hV24)))
      have wr73 : (V52 69 (gr.length + 1)).toInt = ((V 69 gf)).toInt := (congrArg Int32.toInt (p69.trans (up2_o hV24 (by decide))))
      have wr74 : (V52 70 (gr.length + 1)).toInt = ((V 70 gf)).toInt := (congrArg Int32.toInt (p70.trans (up2_o hV24 (by decide))))
      have wr75 : (V52 71 (gr.length + 1)).toInt = ((V 71 gf)).toInt := (congrArg Int32.toInt (p71.trans (up2_o hV24 (by decide))))
      have wr76 : (V52 72 (gr.length + 1)).toInt = ((V 72 gf)).toInt := (congrArg Int32.toInt (p72.trans (up2_o hV24 (by decide))))
      have wr77 : (V52 73 (gr.length + 1)).toInt = ((V 73 gf)).toInt := (congrArg Int32.toInt (p73.trans (up2_o hV24 (by decide))))
      have me78 : ME V V24 gf := (ME.up ME.rf hV24 (Or.inl ⟨by decide, by decide, Nat.le_refl _⟩))
      have rl79 : RWl V52 gB gr t0 := RWl.mv hlr (fun i9 hi9 c9 h1 h2 => ((pke i9 (by (first | exact om_7f53476936c1 kdp rd rd2 pq38 pi9 hi9 | omega)) c9 h1 h2)).trans (me78.2.1 c9 i9 h1 h2 (by (first | exact om_a8f73b8e7cf4 gd kdp rd rd2 pq38 pi9 hi9 | omega)))) (fun j9 hj9 => ((ajV52 39 j9 rfl).trans (up2_o hV24 (by decide)))) (by rw [((ajV52 3 13 rfl).trans (up2_o hV24 (by decide)))]; exact Int.le_refl _) ((ajV52 3 12 rfl).trans (up2_o hV24 (by decide)))
      have me80 : ME V V24 0 := (ME.up ME.rf hV24 (Or.inl ⟨by decide, by decide, by first | exact om_9a68da5e96c3 gd r1 kdp rd rd2 sl9 pq38 pi9 | first | omega | ((try (have i_t20 := Imp.go t20 (by omega))); omega)⟩))
      have bc81 : BKc V24 b gB := BKc.be bc me80.1
      have wi9 := BKc.wi bc81 (i := z17.toInt.toNat) (by have h9 := fz9.1; (first | exact om_14f35a82e25b hps q75 hz14 rgz17 pq30 pq34 wl9 fz9 wr72 | omega))
      have at9 : (V52 84 (gr.length + 1)).toInt = ((psz (opf gB.1) (wAt gB z17.toInt.toNat) : Nat) : Int) := by rw [pat, show Int32.toNatClampNeg z17 = z17.toInt.toNat from rfl, wi9.1]; exact wi9.2.2.1.2.2.2.2.1
      have fb8 : FRc V52 gB gr.length (Fin5 lv o c sc me ((z17.toInt.toNat : Nat) : Int)) := by rw [gl9]; exact ⟨⟨by (first | exact om_1a346c87806a gk wr65 | omega), by (first | exact om_4366ab523688 ph0 wr66 | omega)⟩, ⟨by (first | exact om_cd7d0a6a31bc q69 wr67 | omega), ⟨by (first | exact om_25a0d8f2ad9d q70 pq29 wr68 | omega), by (first | exact om_cde1043e41d2 fo q70 pq29 wr68 wr74 | omega), by (first | exact om_08fccd1b2dd4 fo ra2 q70 pq28 pq29 wr63 wr68 wr74 | omega)⟩, ⟨by (first | exact om_25a0d8f2ad9d q71 pq26 wr69 | omega), by (first | exact om_ef3327caed94 r5 fc q71 pq26 wr69 wr75 | omega), by (first | exact om_c5674933d51c q71 c1 pq26 wr69 wr75 | omega)⟩, ⟨by (first | exact om_cd7d0a6a31bc q72 wr70 | omega), by omega, by omega⟩⟩, ⟨by (first | exact om_cd7d0a6a31bc q73 wr71 | omega), by (first | exact om_3b6eeda82e53 q73 m0 m9 wr71 wr77 | omega), by (first | exact om_7ca5daae6e6d q73 m0 m9 wr71 wr77 | omega)⟩, by (first | exact om_483a81d5e169 rgz17 pq34 fz9 wr72 | omega)⟩
      have ft9 : FRc V52 gB (gr.length + 1) (Fwork lv o c sc me 0 ((wAt gB z17.toInt.toNat : Nat) : Int) ga []) := ⟨⟨pk1, pk2⟩, ⟨by (first | exact om_25a0d8f2ad9d q69 wr67 wr73 | omega), ⟨by (first | exact om_6ba44aa2159d q70 pq29 wr68 wr74 | omega), by (first | exact om_cde1043e41d2 fo q70 pq29 wr68 wr74 | omega), by (first | exact om_08fccd1b2dd4 fo ra2 q70 pq28 pq29 wr63 wr68 wr74 | omega)⟩, ⟨by (first | exact om_6ba44aa2159d q71 pq26 wr69 wr75 | omega), by (first | exact om_ef3327caed94 r5 fc q71 pq26 wr69 wr75 | omega), by (first | exact om_c5674933d51c q71 c1 pq26 wr69 wr75 | omega)⟩, ⟨by (first | exact om_25a0d8f2ad9d q72 wr70 wr76 | omega), by omega, by omega⟩⟩, (fun h9 => absurd h9 (by decide)), ⟨Int.natCast_nonneg _, at9⟩, pag.trans a74⟩
      have rz9 : RW V52 gB (mU gm 0 6 0, ga, Fwork lv o c sc me 0 ((wAt gB z17.toInt.toNat : Nat) : Int) ga [] :: Fin5 lv o c sc me ((z17.toInt.toNat : Nat) : Int) :: gr) := RW.sgn rwq (ESw.ag (show agr [(4, 5), (5, 6), (5, 9)] [33, 34, 35, 67, 68, 69, 70, 71, 72, 73, 74, 75, 76, 77, 78, 79, 80, 81, 82, 83, 84, 85] V V52 from (agr.tr (agr.up agr.rf hV24 rfl) ajV52 (by decide) (by decide))) (by decide)) pd2 (fun h9 => absurd h9 (by decide)) (fun h9 => absurd h9 (by decide)) (show (V52 5 6).toInt = ((gr.length + 1 + 1 : Nat) : Int) from by (first | exact om_ea487894bae3 kdp rd rd2 pq38 pi9 pd1 | omega)) (show (V52 5 7).toInt = ((t0 : Nat) : Int) from by rw [(show agr [(4, 5), (5, 6), (5, 9)] [33, 34, 35, 67, 68, 69, 70, 71, 72, 73, 74, 75, 76, 77, 78, 79, 80, 81, 82, 83, 84, 85] V V52 from (agr.tr (agr.up agr.rf hV24 rfl) ajV52 (by decide) (by decide))) 5 7 rfl, rt9, tz9]) (RWl.push (RWl.push rl79 fb8 rfl (np9 rfl)) ft9 rfl (fun _ _ => (show (V52 85 (gr.length + 1)).toInt = ((t0 : Nat) : Int) from by rw [pba, (up2_o hV24 (by decide)), rt9, tz9])))
      have rx82 : RW V52 gB (stM gB (gm, ga, gfr :: gr)) := by rw [hfe, st_11y (show gm 0 6 = 1 from by (first | exact om_e9389ed92ad9 sg1 rh1 | omega)) fb9]; exact rz9
      refine W.know (fun kr1 kr2 => ?_)
      refine W.widen (k := zcc Z) (n := zss Z) (Nat.sub_le _ _) (Nat.sub_le _ _) ?_
      exact W.vret hx hb hr (fun t ht hW => ⟨⟨(V52, L, Z54), rfl, ⟨hMV52, agV52, rfl, zoZ54, t56, rx82⟩, ⟨by rw [ht]; exact hP, va_K.moved hW.alike hK, hD⟩, by rw [ht]; exact kr1, by rw [ht]; exact kr2⟩, hS.F ht⟩) hS.2.2 dX5_nextAfter_57
    · skip
      have f83 : z17.toInt = (-1) := b_eq rfl (by decide) c22
      refine lv_aload_n hx hb dX5_nextAfter_28 rfl (lv_at hl 1 rfl) ?_
      refine lv_aload_n hx hb dX5_nextAfter_29 rfl (lv_at hl 2 rfl) ?_
      refine va_getN (D := D) (ci := 4) (v := .int (V 74 gf)) (fs := (xfFrame V gf)) (C := RX4) (T := TX4) (N := 19) hx hb hg inX4 hown hK hP (336 + gf) (xgFrame hgf) rfl 7 (by decide) (hnw.use 1196 n1196 rfl) (fun _ h9 => h9) rfl dX5_nextAfter_30 ?_
      refine gA_void (gA_runV (As := [.int (V 74 gf)]) (rest := []) (ci := 5) (q0 := 5) hx hb hml hown hg hP hD hK hS hA hnw hgk (x_answerWith9 l D ks H.size ad kk V L Z (V 74 gf) hMV ) w1304 w1306 w49 w171 w1307 rfl xgMachine hdV_yX5_answerWith ⟨Nat.le_of_ble_eq_true rfl, Nat.le_of_ble_eq_true rfl⟩ rfl hl.1 rfl (Nat.le_of_ble_eq_true rfl) dX5_nextAfter_33 ⟨z0, z0⟩) hP hD hK hS hA (fun u85 H locs w86 hP hD hK hS => ?_)
      obtain ⟨V90, L91⟩ := u85
      obtain ⟨hMV90, ajV90, axL91, t87, t88, t89⟩ := w86
      have axL91 : L = L91 := Eq.symm axL91
      subst axL91
      replace hP : va_P D vwCl (xw ad kk V90 L Z) H := hP
      replace hD : va_D A (xw ad kk V90 L Z) := hD
      replace hMV90 : rgd bX V90 := hMV90
      replace ajV90 : agr [(5, 9), (5, 10)] [] V V90 := ajV90
      have agV90 : agr [(4, 5), (5, 6), (5, 9), (5, 10)] [33, 34, 35, 67, 68, 69, 70, 71, 72, 73, 74, 75, 76, 77, 78, 79, 80, 81, 82, 83, 84, 85] V V90 := agV.tr ajV90 (by decide) (by decide)
      replace t87 : (V90 5 9).toInt = 1 := t87
      replace t88 : (V90 5 10).toInt = ((V 74 gf)).toInt := t88
      replace t89 : ((True) ∧ V90 = (up2 (up2 V 5 9 1) 5 10 (V 74 gf))) := t89
      have r92 : 0 ≤ ((V90 5 9)).toInt ∧ ((V90 5 9)).toInt ≤ 3 := hMV90 5 9
      have hw93 := t89.2
      obtain ⟨V94, hV94⟩ : ∃ z, z = up2 V 5 9 1 := ⟨_, rfl⟩
      have hV90 : V90 = up2 V94 5 10 (V 74 gf) := by rw [hw93, hV94]
      refine lv_aload_n hx hb dX5_nextAfter_36 rfl (lv_at hl 1 rfl) ?_
      have pq95 : (V90 5 6).toInt = ((V 5 6)).toInt := congrArg Int32.toInt ((up2_k hV90 (by decide)).trans (up2_k hV94 (by decide)))
      refine gA_void (gA_runV (As := []) (rest := []) (ci := 5) (q0 := 5) hx hb hml hown hg hP hD hK hS hA hnw hgk (x_leave9 l D ks H.size ad kk V90 L Z  hMV90 (show 1 ≤ (V90 5 6).toInt from by first | exact om_1c7ca45de7b6 gd r1 kdp rd rd2 sl9 pq95 | first | omega | ((try (have i_t20 := Imp.go t20 (by omega))); omega))) w1308 w1310 w50 w171 w1311 rfl xgMachine hdV_yX5_leave ⟨Nat.le_of_ble_eq_true rfl, Nat.le_of_ble_eq_true rfl⟩ rfl hl.1 rfl (Nat.le_of_ble_eq_true rfl) dX5_nextAfter_37 ⟨z0, z0⟩) hP hD hK hS hA (fun u97 H locs w98 hP hD hK hS => ?_)
      obtain ⟨V101, L102⟩ := u97
      obtain ⟨hMV101, ajV101, axL102, t99, t100⟩ := w98
      have axL102 : L = L102 := Eq.symm axL102
      subst axL102
      replace hP : va_P D vwCl (xw ad kk V101 L Z) H := hP
      replace hD : va_D A (xw ad kk V101 L Z) := hD
      replace hMV101 : rgd bX V101 := hMV101
      replace ajV101 : agr [(5, 6)] [] V90 V101 := ajV101
      have agV101 : agr [(4, 5), (5, 6), (5, 9), (5, 10)] [33, 34, 35, 67, 68, 69, 70, 71, 72, 73, 74, 75, 76, 77, 78, 79, 80, 81, 82, 83, 84, 85] V V101 := agV90.tr ajV101 (by decide) (by decide)
      replace t99 : (V101 5 6).toInt = (V90 5 6).toInt - 1 := t99
      replace t100 : ((True) ∧ V101 = (up2 V90 5 6 (V90 5 6 - 1))) := t100
      have r103 : 0 ≤ ((V101 5 6)).toInt ∧ ((V101 5 6)).toInt ≤ 400 := hMV101 5 6
      have hw104 := t100.2
      obtain ⟨z105, ez105⟩ : ∃ y : Int32, y = V90 5 6 - 1 := ⟨_, rfl⟩
      have hz105 : z105.toInt = (V90 5 6).toInt - 1 := i_sub ez105 rfl (by decide) (by first | exact om_b7c63862419e gd r1 kdp rd rd2 sl9 pq95 t99 | first | omega | ((try (have i_t20 := Imp.go t20 (by omega))); omega))
      have hV101 : V101 = up2 V90 5 6 z105 := by rw [hw104, ez105]
      have me106 : ME V V101 gf := (ME.up (ME.up (ME.up ME.rf hV94 (Or.inr (by (first | exact om_620f5006bfaa  | omega)))) hV90 (Or.inr (by (first | exact om_f41a5f4a8afd  | omega)))) hV101 (Or.inr (by (first | exact om_f481bd0f1cda  | omega))))
      have pq107 : (V101 67 gf).toInt = ((V 67 gf)).toInt := congrArg Int32.toInt ((up2_o hV101 (by decide)).trans ((up2_o hV90 (by decide)).trans (up2_o hV94 (by decide))))
      have pq108 : (V101 68 gf).toInt = ((V 68 gf)).toInt := congrArg Int32.toInt ((up2_o hV101 (by decide)).trans ((up2_o hV90 (by decide)).trans (up2_o hV94 (by decide))))
      have pq109 : (V101 70 gf).toInt = ((V 70 gf)).toInt := congrArg Int32.toInt ((up2_o hV101 (by decide)).trans ((up2_o hV90 (by decide)).trans (up2_o hV94 (by decide))))
      have pq110 : (V101 71 gf).toInt = ((V 71 gf)).toInt := congrArg Int32.toInt ((up2_o hV101 (by decide)).trans ((up2_o hV90 (by decide)).trans (up2_o hV94 (by decide))))
      have pq111 : (V101 75 gf).toInt = ((V 75 gf)).toInt := congrArg Int32.toInt ((up2_o hV101 (by decide)).trans ((up2_o hV90 (by decide)).trans (up2_o hV94 (by decide))))
      have pq112 : (V101 76 gf).toInt = ((V 76 gf)).toInt := congrArg Int32.toInt ((up2_o hV101 (by decide)).trans ((up2_o hV90 (by decide)).trans (up2_o hV94 (by decide))))
      have pq113 : (V101 80 gf).toInt = ((V 80 gf)).toInt := congrArg Int32.toInt ((up2_o hV101 (by decide)).trans ((up2_o hV90 (by decide)).trans (up2_o hV94 (by decide))))
      have pq114 : (V101 84 gf).toInt = ((V 84 gf)).toInt := congrArg Int32.toInt ((up2_o hV101 (by decide)).trans ((up2_o hV90 (by decide)).trans (up2_o hV94 (by decide))))
      have pq115 : (V101 5 6).toInt = z105.toInt := congrArg Int32.toInt (up2_s hV101)
      have pq116 : (V101 5 8).toInt = ((V 5 8)).toInt := congrArg Int32.toInt ((up2_k hV101 (by decide)).trans ((up2_k hV90 (by decide)).trans (up2_k hV94 (by decide))))
      have pq117 : (V101 5 9).toInt = 1 := (congrArg Int32.toInt ((up2_k hV101 (by decide)).trans ((up2_k hV90 (by decide)).trans (up2_s hV94)))).trans (by decide)
      have pq118 : (V101 3 13).toInt = ((V 3 13)).toInt := congrArg Int32.toInt ((up2_o hV101 (by decide)).trans ((up2_o hV90 (by decide)).trans (up2_o hV94 (by decide))))
      have pq119 : (V101 43 (5 * b + 2)).toInt = ((V 43 (5 * b + 2))).toInt := congrArg Int32.toInt ((up2_o hV101 (by decide)).trans ((up2_o hV90 (by decide)).trans (up2_o hV94 (by decide))))
      have pq120 : (V101 42 b).toInt = ((V 42 b)).toInt := congrArg Int32.toInt ((up2_o hV101 (by decide)).trans ((up2_o hV90 (by decide)).trans (up2_o hV94 (by decide))))
      have pq121 : (V101 41 b).toInt = ((V 41 b)).toInt := congrArg Int32.toInt ((up2_o hV101 (by decide)).trans ((up2_o hV90 (by decide)).trans (up2_o hV94 (by decide))))
      have rp122 : MJ V101 Z b := MP.lv (MO.mp mo) me106 (by (first | exact om_0e41a66fda65 gd kdp rd rd2 pq95 t99 | omega)) (fun _ => Or.inl (by (first | exact om_19a2929b0700 gk | omega)))
      have pq9 : Int32.toNatClampNeg (V 71 gf) = c.toNat := by have h9 := i_clamp (x := (V 71 gf)) rfl (by (first | exact om_c486a88bcb1e r5 fc q71 pq110 | omega)); (first | exact om_043ed8ee8a8a kc9 | omega)
      have wl9 := (BKc.wl bc).2.2
      have fe9 : ∀ j : Nat, FWo V b j (Int32.toInt 2) (Int32.toNatClampNeg (V 71 gf)) ((V 73 gf)).toInt = FWo V b j ((2 : Nat) : Int) c.toNat ((me.toNat : Nat) : Int) := fun j => by rw [pq9, show Int32.toInt 2 = ((2 : Nat) : Int) from by decide, show ((V 73 gf)).toInt = ((me.toNat : Nat) : Int) from by (first | exact om_10771063345f q73 m0 m9 | omega)]
      have fz9 := t21.resolve_right (fun h8 => by have h7 := h8.1.1; (first | exact om_8bc3fb5ac8e9 f83 h8 | omega))
      have fb9 : fB (bW gB) (isF gB 2 c.toNat me.toNat) ps.toNat = none := BKc.fBn bc cn9 (by have h9 := fz9.1; (first | exact om_a0a3dbf210a3 hps r3 q75 hz14 pq111 pq121 wl9 | omega)) (fun j9 h1 => by rw [← fe9]; exact fz9.2 j9 (by (first | exact om_b2a8ce2845e1 q75 hz14 pq111 h1 | omega)))
      have me123 : ME V V101 gf := (ME.up (ME.up (ME.up ME.rf hV94 (Or.inr (by (first | exact om_620f5006bfaa  | omega)))) hV90 (Or.inr (by (first | exact om_f41a5f4a8afd  | omega)))) hV101 (Or.inr (by (first | exact om_f481bd0f1cda  | omega))))
      have rl124 : RWl V101 gB gr t0 := RWl.mv hlr (fun i9 hi9 c9 h1 h2 => me123.2.1 c9 i9 h1 h2 (by (first | exact om_102b9d22baee gd kdp rd rd2 pq95 t99 hz105 hi9 | omega))) (fun j9 hj9 => ((up2_o hV101 (by decide)).trans ((up2_o hV90 (by decide)).trans (up2_o hV94 (by decide))))) (by rw [((up2_o hV101 (by decide)).trans ((up2_o hV90 (by decide)).trans (up2_o hV94 (by decide))))]; exact Int.le_refl _) ((up2_o hV101 (by decide)).trans ((up2_o hV90 (by decide)).trans (up2_o hV94 (by decide))))
      have pq125 : (V101 5 7).toInt = ((V 5 7)).toInt := congrArg Int32.toInt ((up2_k hV101 (by decide)).trans ((up2_k hV90 (by decide)).trans (up2_k hV94 (by decide))))
      have r126 : 0 ≤ ((V 5 7)).toInt ∧ ((V 5 7)).toInt ≤ 2048 := hMV 5 7
      have pq127 : (V101 5 11).toInt = ((V 5 11)).toInt := congrArg Int32.toInt ((up2_k hV101 (by decide)).trans ((up2_k hV90 (by decide)).trans (up2_k hV94 (by decide))))
      have pq128 : (V101 5 12).toInt = ((V 5 12)).toInt := congrArg Int32.toInt ((up2_k hV101 (by decide)).trans ((up2_k hV90 (by decide)).trans (up2_k hV94 (by decide))))
      have rz9 : RW V101 gB (mU gm 0 6 1, ga, gr) := RW.sgn rwq (ESw.ag (show agr [(5, 6), (5, 9), (5, 10)] [] V V101 from (agr.up (agr.up (agr.up agr.rf hV94 rfl) hV90 rfl) hV101 rfl)) (by decide)) (by (first | exact om_710535a98d88 pq117 | omega)) (fun _ => ((up2_k hV101 (by decide)).trans (up2_s hV90)).trans a74) (fun h9 => absurd h9 (by decide)) (show (V101 5 6).toInt = ((gr.length : Nat) : Int) from by (first | exact om_0893762427d8 kdp rd rd2 pq95 t99 | omega)) (show (V101 5 7).toInt = ((t0 : Nat) : Int) from by rw [((up2_k hV101 (by decide)).trans ((up2_k hV90 (by decide)).trans (up2_k hV94 (by decide)))), rt9, tz9]) rl124
      have rx129 : RW V101 gB (stM gB (gm, ga, gfr :: gr)) := by rw [hfe, st_11e (show gm 0 6 = 1 from by (first | exact om_e9389ed92ad9 sg1 rh1 | omega)) fb9]; exact rz9
      refine W.know (fun kr1 kr2 => ?_)
      refine W.widen (k := zcc Z) (n := zss Z) (Nat.sub_le _ _) (Nat.sub_le _ _) ?_
      exact W.vret hx hb hr (fun t ht hW => ⟨⟨(V101, L, Z), rfl, ⟨hMV101, agV101, rfl, zoZ, rp122, rx129⟩, ⟨by rw [ht]; exact hP, va_K.moved hW.alike hK, hD⟩, by rw [ht]; exact kr1, by rw [ht]; exact kr2⟩, hS.F ht⟩) hS.2.2 dX5_nextAfter_40
abbrev r_x_goOnInside9 (Z : XZ) : Room := { frames := 6, cells := zcc Z, slots := zss Z, locals := 138 }
abbrev q_x_goOnInside9 (D : va_G) (ks : KS) (ad : Nat → Nat) (kk : Nat → ClassId) (V : Vf) (L : Lf) (Z : XZ) (b : Nat) (gf : Nat) (gB : Bk) (gm : Mm) (ga : Int32) (gfr : Fr) (gr : List Fr) (A : Nat → Prop) : Array Value → State → Outcome → State → Prop := qZv D (fun (u : Vf × Lf × XZ) => rgd bX u.1 ∧ agr [(4, 5), (5, 6), (5, 9), (5, 10), (5, 11), (5, 12)] [33, 34, 35, 67, 68, 69, 70, 71, 72, 73, 74, 75, 76, 77, 78, 79, 80, 81, 82, 83, 84, 85] V u.1 ∧ u.2.1 = L ∧ ZL Z u.2.2 ∧ (MJ u.1 u.2.2 b) ∧ (RW u.1 gB (stM gB (gm, ga, gfr :: gr)))) (fun u => xw ad kk u.1 u.2.1 u.2.2) (fun u => xty kk u.2.2) (fun u => zcc Z - zcc u.2.2) (fun u => zss Z - zss u.2.2) A
set_option maxHeartbeats 4000000 in
set_option maxRecDepth 100000 in
theorem x_goOnInside9 (l : Launch) (D : va_G) (ks : KS) (sz : Nat) (ad : Nat → Nat) (kk : Nat → ClassId) (V : Vf) (L : Lf) (Z : XZ) (b : Nat) (gf : Nat) (gB : Bk) (gm : Mm) (ga : Int32) (gfr : Fr) (gr : List Fr) (hMV : rgd bX V) (hb2 : b < 2) (hgf : gf < Z.nf) (mo : MO V Z b gf True (QN V b) (QN V b)) (gd : (gf : Int) + 1 = (V 5 6).toInt) (gk : (V 67 gf).toInt = 3) (rwq : RW V gB (gm, ga, gfr :: gr)) (bc : BKc V b gB) (sf : SF gB (gm, ga, gfr :: gr))  : Met l yX5_goOnInside (Cond.code yX5_goOnInside cX5_goOnInside 2 none :: GW) (r_x_goOnInside9 Z) (va_Pc [.ref (ad 5), .ref (Z.fa gf)] (gp D ks (xw ad kk V L Z) (xty kk Z) sz)) (q_x_goOnInside9 D ks ad kk V L Z  b gf gB gm ga gfr gr (va_A (xw ad kk V L Z) sz)) (zcc Z) (zss Z) (va_A (xw ad kk V L Z) sz) := by
  refine g_met (q_x_goOnInside9 D ks ad kk V L Z  b gf gB gm ga gfr gr) (by decide) (Nat.le_of_ble_eq_true rfl) ?_
  intro p e s m below meth c A ls H locs hx hb hr hml hown hg hlocks hin hnw hgk hP hK hD hS hA hl
  replace hown : s.vm.findClass RX5 = some m.cls := hown
  replace hl : lv_has ls 2 [(0, .ref (ad 5)), (1, .ref (Z.fa gf))] := hl
  replace hP : va_P D vwCl (xw ad kk V L Z) H := hP
  replace hD : va_D A (xw ad kk V L Z) := hD
  replace hK : va_K D vwCl (xty kk Z) s := hK
  have agV : agr [(4, 5), (5, 6), (5, 9), (5, 10), (5, 11), (5, 12)] [33, 34, 35, 67, 68, 69, 70, 71, 72, 73, 74, 75, 76, 77, 78, 79, 80, 81, 82, 83, 84, 85] V V := agr.rf
  have zoZ : ZL Z Z := ZL.rf
  refine W.know (fun ka kb => ?_)
  refine W.tight (k := zcc Z - zcc Z) (n := zss Z - zss Z) (by (first | exact om_7244b830ee02 ka | omega)) (by (first | exact om_7244b830ee02 kb | omega)) ?_
  have r1 : 0 ≤ ((V 5 6)).toInt ∧ ((V 5 6)).toInt ≤ 400 := hMV 5 6
  have kdp := i_clamp (x := V 5 6) rfl (by (first | exact om_e301311e2a25 gd r1 | omega))
  have hdn : (gf : Int) + 1 ≤ (Z.nf : Int) := by (first | exact om_bb8713a56da6 hgf gd kdp | omega)
  have mup := MO.up mo
  have msz := mup.1
  have mbk := mup.2.2.2.1
  obtain ⟨xk, fk⟩ := MO.fk mo
  have r2 : (-1) ≤ ((V 71 gf)).toInt ∧ ((V 71 gf)).toInt ≤ 23 := hMV 71 gf
  have r3 : 0 ≤ ((V 75 gf)).toInt ∧ ((V 75 gf)).toInt ≤ 12 := hMV 75 gf
  have r4 : 0 ≤ ((V 80 gf)).toInt ∧ ((V 80 gf)).toInt ≤ 300 := hMV 80 gf
  have r5 : 0 ≤ ((V 84 gf)).toInt ∧ ((V 84 gf)).toInt ≤ 2147483647 := hMV 84 gf
  have r6 : 0 ≤ ((V 5 8)).toInt ∧ ((V 5 8)).toInt ≤ 300 := hMV 5 8
  have r7 : 0 ≤ ((V 5 9)).toInt ∧ ((V 5 9)).toInt ≤ 3 := hMV 5 9
  have r8 : 0 ≤ ((V 3 13)).toInt ∧ ((V 3 13)).toInt ≤ 300 := hMV 3 13
  have r9 : 0 ≤ ((V 43 (5 * b + 2))).toInt ∧ ((V 43 (5 * b + 2))).toInt ≤ ((xcap (5 * b + 2) : Nat) : Int) := hMV 43 (5 * b + 2)
  have r10 : xcap (5 * b + 2) = 24 := xcap_2
  have r11 : 0 ≤ ((V 41 b)).toInt ∧ ((V 41 b)).toInt ≤ 12 := hMV 41 b
  have r12 : 0 ≤ ((V 42 b)).toInt ∧ ((V 42 b)).toInt ≤ 8200 := hMV 42 b
  have fc := fk.1 (by (first | exact om_19a2929b0700 gk | omega))
  have fo := fk.2.1 (by (first | exact om_19a2929b0700 gk | omega)) (by (first | exact om_2ac8fade1515 gk | omega))
  have fp := fk.2.2.2.2.2.2.2.2.1 (by (first | exact om_395e3da5ee0d gk | omega))
  have m1 : Int32.toInt (-1) = -1 := by decide
  have rw0 := rwq
  obtain ⟨⟨ow, rn⟩, rh, rd, tw9, rt9, rl⟩ := rw0
  replace rn : RWn V ow gB gm := rn
  replace rh : RWh V gm ga := rh
  have rd2 : (V 5 6).toInt = ((gr.length + 1 : Nat) : Int) := rd
  have gl9 : gr.length = gf := by (first | exact om_737fc00ff7e4 gd kdp rd rd2 | omega)
  have sl9 : gr.length ≤ 394 := by have h9 : gr.length + 1 ≤ 395 := sf.1; (first | exact om_5c206326bd12 gd r1 kdp rd rd2 h9 | omega)
  have rh1 : (V 5 9).toInt = gm 0 6 := rh.1
  have ra2 : (V 3 13).toInt = gm 0 2 := rn.1.1.2.2.1
  have rl0 := rl
  obtain ⟨t0, tl9, hf0, hbs9, hpl9, hlr⟩ := rl0
  rw [gl9] at hf0 hbs9
  rcases FRc.k3 hf0 gk with ⟨lv, o, c, sc, me, ps, v, hfe⟩ | ⟨lv, o, c, sc, me, hfe⟩ | ⟨lv, o, c, sc, me, ps, hfe⟩ | ⟨lv, o, c, sc, me, ps, hfe⟩
  · skip
    have hf : FRc V gB gf (Fin0 lv o c sc me ps v) := by rw [← hfe]; exact hf0
    have tl8 : tw9 = t0 + (Fin0 lv o c sc me ps v : Fr).2.2.2.length := by rw [← hfe]; exact tl9
    obtain ⟨⟨k67, k68⟩, hoc, ⟨q73, m0, m9⟩, q75, q74⟩ := hf
    obtain ⟨q69, ⟨q70, o0, o1⟩, ⟨q71, c0, c1⟩, ⟨q72, s0, s1⟩⟩ := hoc
    have cn9 : c.toNat < nC gB := by (first | exact om_51a08a25bfb6 r2 fc q71 c1 | omega)
    have kc9 : Int32.toNatClampNeg (V 71 gf) = c.toNat := by have h9 := i_clamp (x := V 71 gf) rfl (by (first | exact om_762d7ad45f4b r2 fc q71 | omega)); (first | exact om_57d2b76748c0 r2 fc q71 h9 | omega)
    have tz9 : tw9 = t0 := tl8
    refine lv_aload_n hx hb dX5_goOnInside_0 rfl (lv_at hl 1 rfl) ?_
    refine va_getN (D := D) (ci := 4) (v := .int (V 68 gf)) (fs := (xfFrame V gf)) (C := RX4) (T := TX4) (N := 19) hx hb hg inX4 hown hK hP (336 + gf) (xgFrame hgf) rfl 1 (by decide) (hnw.use 1190 n1190 rfl) (fun _ h9 => h9) rfl dX5_goOnInside_1 ?_
    refine lv_if_ne (tgt := 13) hx hb dX5_goOnInside_4 (by decide) (fun c13 => ?_) (fun c13 => ?_)
    · skip
      have f14 : ((V 68 gf)).toInt ≠ 0 := b_neq rfl (by decide) c13
      exfalso; (first | exact om_0b51723c7ef6 k68 f14 | omega)
    · skip
      have f15 : ((V 68 gf)).toInt = 0 := b_eq rfl (by decide) c13
      refine lv_aload_n hx hb dX5_goOnInside_7 rfl (lv_at hl 0 rfl) ?_
      refine lv_aload_n hx hb dX5_goOnInside_8 rfl (lv_at hl 1 rfl) ?_
      refine W.know (fun k17 k18 => ?_)
      obtain ⟨Hk16, hHk16⟩ : ∃ z, z = H := ⟨_, rfl⟩
      have k17 : Hk16.size ≤ s.heap.size + (zcc Z - zcc Z) := by rw [hHk16]; exact k17
      have k18 : tot Hk16 ≤ tot s.heap + (zss Z - zss Z) := by rw [hHk16]; exact k18
      refine gZ_void (gA_runV (As := [.ref (Z.fa gf)]) (rest := []) (ci := 5) (q0 := 5) hx hb hml hown hg hP hD hK hS hA hnw hgk (x_beginInside9 l D ks H.size ad kk V L Z (b) (gf) (gB) (gm) (ga) (gfr) (gr) hMV (show b < 2 from by (first | exact om_289974d36c9f hb2 mup | omega)) (show gf < Z.nf from by (first | exact om_725d0642dd96 hgf gd kdp rd rd2 | omega)) mo (show (gf : Int) + 1 = (V 5 6).toInt from by (first | exact om_d5747674bc98 gd | omega)) (show (V 67 gf).toInt = 3 from by (first | exact om_395e3da5ee0d gk | omega)) rwq bc sf (show (V 68 gf).toInt = 0 from by (first | exact om_b66ba74381d5 k68 | omega))) w1415 w1417 w64 w171 w1418 rfl xgMachine hdV_yX5_beginInside ⟨Nat.le_of_ble_eq_true rfl, Nat.le_of_ble_eq_true rfl⟩ rfl hl.1 rfl (Nat.le_of_ble_eq_true rfl) dX5_goOnInside_9 ⟨z1 zoZ.1, z1 zoZ.2.1⟩) hD hS hA (fun u20 H locs w21 hP hD hK hS y22 y23 => ?_)
      obtain ⟨V24, L25, Z26⟩ := u20
      obtain ⟨hMV24, ajV24, axL25, zlZ26, t28, t29⟩ := w21
      have axL25 : L = L25 := Eq.symm axL25
      subst axL25
      replace hP : va_P D vwCl (xw ad kk V24 L Z26) H := hP
      replace hD : va_D A (xw ad kk V24 L Z26) := hD
      replace hK : va_K D vwCl (xty kk Z26) s := hK
      replace hMV24 : rgd bX V24 := hMV24
      replace ajV24 : agr [(4, 5), (5, 6), (5, 9), (5, 10)] [33, 34, 35, 67, 68, 69, 70, 71, 72, 73, 74, 75, 76, 77, 78, 79, 80, 81, 82, 83, 84, 85] V V24 := ajV24
      have agV24 : agr [(4, 5), (5, 6), (5, 9), (5, 10), (5, 11), (5, 12)] [33, 34, 35, 67, 68, 69, 70, 71, 72, 73, 74, 75, 76, 77, 78, 79, 80, 81, 82, 83, 84, 85] V V24 := agV.tr ajV24 (by decide) (by decide)
      replace zlZ26 : ZL Z Z26 := zlZ26
      have zoZ26 : ZL Z Z26 := ZL.tr zoZ zlZ26
      have ziZ26 := zlZ26.1
      have zjZ26 := zlZ26.2.1
      have zkZ26 := zlZ26.2.2.1
      have zmZ26 := zoZ26.1
      have znZ26 := zoZ26.2.1
      have zpZ_Z26 := zoZ.1
      have zqZ_Z26 := zoZ.2.1
      have y22 : H.size ≤ Hk16.size + (zcc Z - zcc Z26) := by rw [hHk16]; exact y22
      have y23 : tot H ≤ tot Hk16 + (zss Z - zss Z26) := by rw [hHk16]; exact y23
      refine W.tight (k := zcc Z - zcc Z26) (n := zss Z - zss Z26) (by first | exact tg9 y22 k17 zlZ26.1 zoZ.1 | omega) (by first | exact tg9 y23 k18 zlZ26.2.1 zoZ.2.1 | omega) ?_
      have hl : lv_has ls 2 [(0, .ref (ad 5)), (1, .ref (Z26.fa gf))] := by rw [zlZ26.2.2.2.2 gf hgf]; exact hl
      replace t28 : MJ V24 Z26 b := t28
      replace t29 : RW V24 gB (stM gB (gm, ga, gfr :: gr)) := t29
      refine W.know (fun kr1 kr2 => ?_)
      refine W.widen (k := zcc Z) (n := zss Z) (Nat.sub_le _ _) (Nat.sub_le _ _) ?_
      exact W.vret hx hb hr (fun t ht hW => ⟨⟨(V24, L, Z26), rfl, ⟨hMV24, agV24, rfl, zoZ26, t28, t29⟩, ⟨by rw [ht]; exact hP, va_K.moved hW.alike hK, hD⟩, by rw [ht]; exact kr1, by rw [ht]; exact kr2⟩, hS.F ht⟩) hS.2.2 dX5_goOnInside_12
  · skip
    have hf : FRc V gB gf (Fin1 lv o c sc me) := by rw [← hfe]; exact hf0
    have tl8 : tw9 = t0 + (Fin1 lv o c sc me : Fr).2.2.2.length := by rw [← hfe]; exact tl9
    obtain ⟨⟨k67, k68⟩, hoc, ⟨q73, m0, m9⟩⟩ := hf
    obtain ⟨q69, ⟨q70, o0, o1⟩, ⟨q71, c0, c1⟩, ⟨q72, s0, s1⟩⟩ := hoc
    have cn9 : c.toNat < nC gB := by (first | exact om_51a08a25bfb6 r2 fc q71 c1 | omega)
    have kc9 : Int32.toNatClampNeg (V 71 gf) = c.toNat := by have h9 := i_clamp (x := V 71 gf) rfl (by (first | exact om_762d7ad45f4b r2 fc q71 | omega)); (first | exact om_57d2b76748c0 r2 fc q71 h9 | omega)
    have tz9 : tw9 = t0 := tl8
    refine lv_aload_n hx hb dX5_goOnInside_0 rfl (lv_at hl 1 rfl) ?_
    refine va_getN (D := D) (ci := 4) (v := .int (V 68 gf)) (fs := (xfFrame V gf)) (C := RX4) (T := TX4) (N := 19) hx hb hg inX4 hown hK hP (336 + gf) (xgFrame hgf) rfl 1 (by decide) (hnw.use 1190 n1190 rfl) (fun _ h9 => h9) rfl dX5_goOnInside_1 ?_
    refine lv_if_ne (tgt := 13) hx hb dX5_goOnInside_4 (by decide) (fun c30 => ?_) (fun c30 => ?_)
    · skip
      have f31 : ((V 68 gf)).toInt ≠ 0 := b_neq rfl (by decide) c30
      refine lv_aload_n hx hb dX5_goOnInside_13 rfl (lv_at hl 0 rfl) ?_
      refine va_get (D := D) (ci := 5) (v := .int (V 5 9)) (fs := (xfMachine ad V L Z)) (C := RX5) (T := TX5) (N := 15) hx hb hg inX5 hown hK hP 5 xgMachine rfl 9 (by decide) (hg _ w676) (fun _ h9 => h9) rfl dX5_goOnInside_14 ?_
      refine lv_iconst (v := 1) hx hb dX5_goOnInside_17 (by decide) ?_
      refine lv_icmp_ne (tgt := 29) hx hb dX5_goOnInside_18 (by decide) (fun c32 => ?_) (fun c32 => ?_)
      · skip
        have f33 : ((V 5 9)).toInt ≠ 1 := b_neq rfl (by decide) c32
        refine lv_aload_n hx hb dX5_goOnInside_29 rfl (lv_at hl 0 rfl) ?_
        refine gA_void (gA_runV (As := []) (rest := []) (ci := 5) (q0 := 5) hx hb hml hown hg hP hD hK hS hA hnw hgk (x_leave9 l D ks H.size ad kk V L Z  hMV (show 1 ≤ (V 5 6).toInt from by (first | exact om_fbce9464733e gd r1 kdp rd rd2 sl9 | omega))) w1308 w1310 w50 w171 w1311 rfl xgMachine hdV_yX5_leave ⟨Nat.le_of_ble_eq_true rfl, Nat.le_of_ble_eq_true rfl⟩ rfl hl.1 rfl (Nat.le_of_ble_eq_true rfl) dX5_goOnInside_30 ⟨z0, z0⟩) hP hD hK hS hA (fun u35 H locs w36 hP hD hK hS => ?_)
        obtain ⟨V39, L40⟩ := u35
        obtain ⟨hMV39, ajV39, axL40, t37, t38⟩ := w36
        have axL40 : L = L40 := Eq.symm axL40
        subst axL40
        replace hP : va_P D vwCl (xw ad kk V39 L Z) H := hP
        replace hD : va_D A (xw ad kk V39 L Z) := hD
        replace hMV39 : rgd bX V39 := hMV39
        replace ajV39 : agr [(5, 6)] [] V V39 := ajV39
        have agV39 : agr [(4, 5), (5, 6), (5, 9), (5, 10), (5, 11), (5, 12)] [33, 34, 35, 67, 68, 69, 70, 71, 72, 73, 74, 75, 76, 77, 78, 79, 80, 81, 82, 83, 84, 85] V V39 := agV.tr ajV39 (by decide) (by decide)
        replace t37 : (V39 5 6).toInt = (V 5 6).toInt - 1 := t37
        replace t38 : ((True) ∧ V39 = (up2 V 5 6 (V 5 6 - 1))) := t38
        have r41 : 0 ≤ ((V39 5 6)).toInt ∧ ((V39 5 6)).toInt ≤ 400 := hMV39 5 6
        have hw42 := t38.2
        obtain ⟨z43, ez43⟩ : ∃ y : Int32, y = V 5 6 - 1 := ⟨_, rfl⟩
        have hz43 : z43.toInt = (V 5 6).toInt - 1 := i_sub ez43 rfl (by decide) (by (first | exact om_569d6dea5446 gd r1 kdp rd rd2 sl9 t37 | omega))
        have hV39 : V39 = up2 V 5 6 z43 := by rw [hw42, ez43]
        have me44 : ME V V39 gf := (ME.up ME.rf hV39 (Or.inr (by (first | exact om_f481bd0f1cda  | omega))))
        have pq45 : (V39 67 gf).toInt = ((V 67 gf)).toInt := congrArg Int32.toInt (up2_o hV39 (by decide))
        have pq46 : (V39 68 gf).toInt = ((V 68 gf)).toInt := congrArg Int32.toInt (up2_o hV39 (by decide))
        have pq47 : (V39 70 gf).toInt = ((V 70 gf)).toInt := congrArg Int32.toInt (up2_o hV39 (by decide))
        have pq48 : (V39 71 gf).toInt = ((V 71 gf)).toInt := congrArg Int32.toInt (up2_o hV39 (by decide))
        have pq49 : (V39 75 gf).toInt = ((V 75 gf)).toInt := congrArg Int32.toInt (up2_o hV39 (by decide))
        have pq50 : (V39 76 gf).toInt = ((V 76 gf)).toInt := congrArg Int32.toInt (up2_o hV39 (by decide))
        have pq51 : (V39 80 gf).toInt = ((V 80 gf)).toInt := congrArg Int32.toInt (up2_o hV39 (by decide))
        have pq52 : (V39 84 gf).toInt = ((V 84 gf)).toInt := congrArg Int32.toInt (up2_o hV39 (by decide))
        have pq53 : (V39 5 6).toInt = z43.toInt := congrArg Int32.toInt (up2_s hV39)
        have pq54 : (V39 5 8).toInt = ((V 5 8)).toInt := congrArg Int32.toInt (up2_k hV39 (by decide))
        have pq55 : (V39 5 9).toInt = ((V 5 9)).toInt := congrArg Int32.toInt (up2_k hV39 (by decide))
        have pq56 : (V39 3 13).toInt = ((V 3 13)).toInt := congrArg Int32.toInt (up2_o hV39 (by decide))
        have pq57 : (V39 43 (5 * b + 2)).toInt = ((V 43 (5 * b + 2))).toInt := congrArg Int32.toInt (up2_o hV39 (by decide))
        have pq58 : (V39 42 b).toInt = ((V 42 b)).toInt := congrArg Int32.toInt (up2_o hV39 (by decide))
        have pq59 : (V39 41 b).toInt = ((V 41 b)).toInt := congrArg Int32.toInt (up2_o hV39 (by decide))
        have rp60 : MJ V39 Z b := MP.lv (MO.mp mo) me44 (by (first | exact om_f05d20b261b8 gd kdp rd rd2 t37 | omega)) (fun _ => Or.inl (by (first | exact om_19a2929b0700 gk | omega)))
        have me61 : ME V V39 gf := (ME.up ME.rf hV39 (Or.inr (by (first | exact om_f481bd0f1cda  | omega))))
        have rl62 : RWl V39 gB gr t0 := RWl.mv hlr (fun i9 hi9 c9 h1 h2 => me61.2.1 c9 i9 h1 h2 (by (first | exact om_7c66f1035df4 gd kdp rd rd2 t37 hz43 hi9 | omega))) (fun j9 hj9 => (up2_o hV39 (by decide))) (by rw [(up2_o hV39 (by decide))]; exact Int.le_refl _) (up2_o hV39 (by decide))
        have pq63 : (V39 5 7).toInt = ((V 5 7)).toInt := congrArg Int32.toInt (up2_k hV39 (by decide))
        have r64 : 0 ≤ ((V 5 7)).toInt ∧ ((V 5 7)).toInt ≤ 2048 := hMV 5 7
        have pq65 : (V39 5 11).toInt = ((V 5 11)).toInt := congrArg Int32.toInt (up2_k hV39 (by decide))
        have pq66 : (V39 5 12).toInt = ((V 5 12)).toInt := congrArg Int32.toInt (up2_k hV39 (by decide))
        have rz9 : RW V39 gB (gm, ga, gr) := RW.id rwq (ESw.ag (show agr [(5, 6)] [] V V39 from (agr.up agr.rf hV39 rfl)) (by decide)) (up2_k hV39 (by decide)) (up2_k hV39 (by decide)) (up2_k hV39 (by decide)) (up2_k hV39 (by decide)) (show (V39 5 6).toInt = ((gr.length : Nat) : Int) from by (first | exact om_39a5f16dc1cc kdp rd rd2 t37 | omega)) (show (V39 5 7).toInt = ((t0 : Nat) : Int) from by rw [(up2_k hV39 (by decide)), rt9, tz9]) rl62
        have rx67 : RW V39 gB (stM gB (gm, ga, gfr :: gr)) := by rw [hfe, st_9]; exact rz9
        refine W.know (fun kr1 kr2 => ?_)
        refine W.widen (k := zcc Z) (n := zss Z) (Nat.sub_le _ _) (Nat.sub_le _ _) ?_
        exact W.vret hx hb hr (fun t ht hW => ⟨⟨(V39, L, Z), rfl, ⟨hMV39, agV39, rfl, zoZ, rp60, rx67⟩, ⟨by rw [ht]; exact hP, va_K.moved hW.alike hK, hD⟩, by rw [ht]; exact kr1, by rw [ht]; exact kr2⟩, hS.F ht⟩) hS.2.2 dX5_goOnInside_33
      · skip
        have f68 : ((V 5 9)).toInt = 1 := b_eq rfl (by decide) c32
        refine lv_aload_n hx hb dX5_goOnInside_21 rfl (lv_at hl 1 rfl) ?_
        refine va_getN (D := D) (ci := 4) (v := .int (V 68 gf)) (fs := (xfFrame V gf)) (C := RX4) (T := TX4) (N := 19) hx hb hg inX4 hown hK hP (336 + gf) (xgFrame hgf) rfl 1 (by decide) (hnw.use 1190 n1190 rfl) (fun _ h9 => h9) rfl dX5_goOnInside_22 ?_
        refine lv_iconst (v := 1) hx hb dX5_goOnInside_25 (by decide) ?_
        refine lv_icmp_ne (tgt := 34) hx hb dX5_goOnInside_26 (by decide) (fun c69 => ?_) (fun c69 => ?_)
        · skip
          have f70 : ((V 68 gf)).toInt ≠ 1 := b_neq rfl (by decide) c69
          exfalso; (first | exact om_b36fcf15d462 k68 f70 | omega)
        · skip
          have f71 : ((V 68 gf)).toInt = 1 := b_eq rfl (by decide) c69
          refine lv_aload_n hx hb dX5_goOnInside_29 rfl (lv_at hl 0 rfl) ?_
          refine gA_void (gA_runV (As := []) (rest := []) (ci := 5) (q0 := 5) hx hb hml hown hg hP hD hK hS hA hnw hgk (x_leave9 l D ks H.size ad kk V L Z  hMV (show 1 ≤ (V 5 6).toInt from by (first | exact om_fbce9464733e gd r1 kdp rd rd2 sl9 | omega))) w1308 w1310 w50 w171 w1311 rfl xgMachine hdV_yX5_leave ⟨Nat.le_of_ble_eq_true rfl, Nat.le_of_ble_eq_true rfl⟩ rfl hl.1 rfl (Nat.le_of_ble_eq_true rfl) dX5_goOnInside_30 ⟨z0, z0⟩) hP hD hK hS hA (fun u73 H locs w74 hP hD hK hS => ?_)
          obtain ⟨V77, L78⟩ := u73
          obtain ⟨hMV77, ajV77, axL78, t75, t76⟩ := w74
          have axL78 : L = L78 := Eq.symm axL78
          subst axL78
          replace hP : va_P D vwCl (xw ad kk V77 L Z) H := hP
          replace hD : va_D A (xw ad kk V77 L Z) := hD
          replace hMV77 : rgd bX V77 := hMV77
          replace ajV77 : agr [(5, 6)] [] V V77 := ajV77
          have agV77 : agr [(4, 5), (5, 6), (5, 9), (5, 10), (5, 11), (5, 12)] [33, 34, 35, 67, 68, 69, 70, 71, 72, 73, 74, 75, 76, 77, 78, 79, 80, 81, 82, 83, 84, 85] V V77 := agV.tr ajV77 (by decide) (by decide)
          replace t75 : (V77 5 6).toInt = (V 5 6).toInt - 1 := t75
          replace t76 : ((True) ∧ V77 = (up2 V 5 6 (V 5 6 - 1))) := t76
          have r79 : 0 ≤ ((V77 5 6)).toInt ∧ ((V77 5 6)).toInt ≤ 400 := hMV77 5 6
          have hw80 := t76.2
          obtain ⟨z81, ez81⟩ : ∃ y : Int32, y = V 5 6 - 1 := ⟨_, rfl⟩
          have hz81 : z81.toInt = (V 5 6).toInt - 1 := i_sub ez81 rfl (by decide) (by (first | exact om_569d6dea5446 gd r1 kdp rd rd2 sl9 t75 | omega))
          have hV77 : V77 = up2 V 5 6 z81 := by rw [hw80, ez81]
          have me82 : ME V V77 gf := (ME.up ME.rf hV77 (Or.inr (by (first | exact om_f481bd0f1cda  | omega))))
          have pq83 : (V77 67 gf).toInt = ((V 67 gf)).toInt := congrArg Int32.toInt (up2_o hV77 (by decide))
          have pq84 : (V77 68 gf).toInt = ((V 68 gf)).toInt := congrArg Int32.toInt (up2_o hV77 (by decide))
          have pq85 : (V77 70 gf).toInt = ((V 70 gf)).toInt := congrArg Int32.toInt (up2_o hV77 (by decide))
          have pq86 : (V77 71 gf).toInt = ((V 71 gf)).toInt := congrArg Int32.toInt (up2_o hV77 (by decide))
          have pq87 : (V77 75 gf).toInt = ((V 75 gf)).toInt := congrArg Int32.toInt (up2_o hV77 (by decide))
          have pq88 : (V77 76 gf).toInt = ((V 76 gf)).toInt := congrArg Int32.toInt (up2_o hV77 (by decide))
          have pq89 : (V77 80 gf).toInt = ((V 80 gf)).toInt := congrArg Int32.toInt (up2_o hV77 (by decide))
          have pq90 : (V77 84 gf).toInt = ((V 84 gf)).toInt := congrArg Int32.toInt (up2_o hV77 (by decide))
          have pq91 : (V77 5 6).toInt = z81.toInt := congrArg Int32.toInt (up2_s hV77)
          have pq92 : (V77 5 8).toInt = ((V 5 8)).toInt := congrArg Int32.toInt (up2_k hV77 (by decide))
          have pq93 : (V77 5 9).toInt = ((V 5 9)).toInt := congrArg Int32.toInt (up2_k hV77 (by decide))
          have pq94 : (V77 3 13).toInt = ((V 3 13)).toInt := congrArg Int32.toInt (up2_o hV77 (by decide))
          have pq95 : (V77 43 (5 * b + 2)).toInt = ((V 43 (5 * b + 2))).toInt := congrArg Int32.toInt (up2_o hV77 (by decide))
          have pq96 : (V77 42 b).toInt = ((V 42 b)).toInt := congrArg Int32.toInt (up2_o hV77 (by decide))
          have pq97 : (V77 41 b).toInt = ((V 41 b)).toInt := congrArg Int32.toInt (up2_o hV77 (by decide))
          have rp98 : MJ V77 Z b := MP.lv (MO.mp mo) me82 (by (first | exact om_f05d20b261b8 gd kdp rd rd2 t75 | omega)) (fun _ => Or.inl (by (first | exact om_19a2929b0700 gk | omega)))
          have me99 : ME V V77 gf := (ME.up ME.rf hV77 (Or.inr (by (first | exact om_f481bd0f1cda  | omega))))
          have rl100 : RWl V77 gB gr t0 := RWl.mv hlr (fun i9 hi9 c9 h1 h2 => me99.2.1 c9 i9 h1 h2 (by (first | exact om_7c66f1035df4 gd kdp rd rd2 t75 hz81 hi9 | omega))) (fun j9 hj9 => (up2_o hV77 (by decide))) (by rw [(up2_o hV77 (by decide))]; exact Int.le_refl _) (up2_o hV77 (by decide))
          have pq101 : (V77 5 7).toInt = ((V 5 7)).toInt := congrArg Int32.toInt (up2_k hV77 (by decide))
          have r102 : 0 ≤ ((V 5 7)).toInt ∧ ((V 5 7)).toInt ≤ 2048 := hMV 5 7
          have pq103 : (V77 5 11).toInt = ((V 5 11)).toInt := congrArg Int32.toInt (up2_k hV77 (by decide))
          have pq104 : (V77 5 12).toInt = ((V 5 12)).toInt := congrArg Int32.toInt (up2_k hV77 (by decide))
          have rz9 : RW V77 gB (gm, ga, gr) := RW.id rwq (ESw.ag (show agr [(5, 6)] [] V V77 from (agr.up agr.rf hV77 rfl)) (by decide)) (up2_k hV77 (by decide)) (up2_k hV77 (by decide)) (up2_k hV77 (by decide)) (up2_k hV77 (by decide)) (show (V77 5 6).toInt = ((gr.length : Nat) : Int) from by (first | exact om_39a5f16dc1cc kdp rd rd2 t75 | omega)) (show (V77 5 7).toInt = ((t0 : Nat) : Int) from by rw [(up2_k hV77 (by decide)), rt9, tz9]) rl100
          have rx105 : RW V77 gB (stM gB (gm, ga, gfr :: gr)) := by rw [hfe, st_9]; exact rz9
          refine W.know (fun kr1 kr2 => ?_)
          refine W.widen (k := zcc Z) (n := zss Z) (Nat.sub_le _ _) (Nat.sub_le _ _) ?_
          exact W.vret hx hb hr (fun t ht hW => ⟨⟨(V77, L, Z), rfl, ⟨hMV77, agV77, rfl, zoZ, rp98, rx105⟩, ⟨by rw [ht]; exact hP, va_K.moved hW.alike hK, hD⟩, by rw [ht]; exact kr1, by rw [ht]; exact kr2⟩, hS.F ht⟩) hS.2.2 dX5_goOnInside_33
    · skip
      have f106 : ((V 68 gf)).toInt = 0 := b_eq rfl (by decide) c30
      exfalso; (first | exact om_495ee03a60ae k68 f106 | omega)
  · skip
    have hf : FRc V gB gf (Fin4 lv o c sc me ps) := by rw [← hfe]; exact hf0
    have tl8 : tw9 = t0 + (Fin4 lv o c sc me ps : Fr).2.2.2.length := by rw [← hfe]; exact tl9
    obtain ⟨⟨k67, k68⟩, hoc, ⟨q73, m0, m9⟩, q75⟩ := hf
    obtain ⟨q69, ⟨q70, o0, o1⟩, ⟨q71, c0, c1⟩, ⟨q72, s0, s1⟩⟩ := hoc
    have cn9 : c.toNat < nC gB := by (first | exact om_51a08a25bfb6 r2 fc q71 c1 | omega)
    have kc9 : Int32.toNatClampNeg (V 71 gf) = c.toNat := by have h9 := i_clamp (x := V 71 gf) rfl (by (first | exact om_762d7ad45f4b r2 fc q71 | omega)); (first | exact om_57d2b76748c0 r2 fc q71 h9 | omega)
    have tz9 : tw9 = t0 := tl8
    refine lv_aload_n hx hb dX5_goOnInside_0 rfl (lv_at hl 1 rfl) ?_
    refine va_getN (D := D) (ci := 4) (v := .int (V 68 gf)) (fs := (xfFrame V gf)) (C := RX4) (T := TX4) (N := 19) hx hb hg inX4 hown hK hP (336 + gf) (xgFrame hgf) rfl 1 (by decide) (hnw.use 1190 n1190 rfl) (fun _ h9 => h9) rfl dX5_goOnInside_1 ?_
    refine lv_if_ne (tgt := 13) hx hb dX5_goOnInside_4 (by decide) (fun c107 => ?_) (fun c107 => ?_)
    · skip
      have f108 : ((V 68 gf)).toInt ≠ 0 := b_neq rfl (by decide) c107
      refine lv_aload_n hx hb dX5_goOnInside_13 rfl (lv_at hl 0 rfl) ?_
      refine va_get (D := D) (ci := 5) (v := .int (V 5 9)) (fs := (xfMachine ad V L Z)) (C := RX5) (T := TX5) (N := 15) hx hb hg inX5 hown hK hP 5 xgMachine rfl 9 (by decide) (hg _ w676) (fun _ h9 => h9) rfl dX5_goOnInside_14 ?_
      refine lv_iconst (v := 1) hx hb dX5_goOnInside_17 (by decide) ?_
      refine lv_icmp_ne (tgt := 29) hx hb dX5_goOnInside_18 (by decide) (fun c109 => ?_) (fun c109 => ?_)
      · skip
        have f110 : ((V 5 9)).toInt ≠ 1 := b_neq rfl (by decide) c109
        refine lv_aload_n hx hb dX5_goOnInside_29 rfl (lv_at hl 0 rfl) ?_
        refine gA_void (gA_runV (As := []) (rest := []) (ci := 5) (q0 := 5) hx hb hml hown hg hP hD hK hS hA hnw hgk (x_leave9 l D ks H.size ad kk V L Z  hMV (show 1 ≤ (V 5 6).toInt from by (first | exact om_fbce9464733e gd r1 kdp rd rd2 sl9 | omega))) w1308 w1310 w50 w171 w1311 rfl xgMachine hdV_yX5_leave ⟨Nat.le_of_ble_eq_true rfl, Nat.le_of_ble_eq_true rfl⟩ rfl hl.1 rfl (Nat.le_of_ble_eq_true rfl) dX5_goOnInside_30 ⟨z0, z0⟩) hP hD hK hS hA (fun u112 H locs w113 hP hD hK hS => ?_)
        obtain ⟨V116, L117⟩ := u112
        obtain ⟨hMV116, ajV116, axL117, t114, t115⟩ := w113
        have axL117 : L = L117 := Eq.symm axL117
        subst axL117
        replace hP : va_P D vwCl (xw ad kk V116 L Z) H := hP
        replace hD : va_D A (xw ad kk V116 L Z) := hD
        replace hMV116 : rgd bX V116 := hMV116
        replace ajV116 : agr [(5, 6)] [] V V116 := ajV116
        have agV116 : agr [(4, 5), (5, 6), (5, 9), (5, 10), (5, 11), (5, 12)] [33, 34, 35, 67, 68, 69, 70, 71, 72, 73, 74, 75, 76, 77, 78, 79, 80, 81, 82, 83, 84, 85] V V116 := agV.tr ajV116 (by decide) (by decide)
        replace t114 : (V116 5 6).toInt = (V 5 6).toInt - 1 := t114
        replace t115 : ((True) ∧ V116 = (up2 V 5 6 (V 5 6 - 1))) := t115
        have r118 : 0 ≤ ((V116 5 6)).toInt ∧ ((V116 5 6)).toInt ≤ 400 := hMV116 5 6
        have hw119 := t115.2
        obtain ⟨z120, ez120⟩ : ∃ y : Int32, y = V 5 6 - 1 := ⟨_, rfl⟩
        have hz120 : z120.toInt = (V 5 6).toInt - 1 := i_sub ez120 rfl (by decide) (by (first | exact om_569d6dea5446 gd r1 kdp rd rd2 sl9 t114 | omega))
        have hV116 : V116 = up2 V 5 6 z120 := by rw [hw119, ez120]
        have me121 : ME V V116 gf := (ME.up ME.rf hV116 (Or.inr (by (first | exact om_f481bd0f1cda  | omega))))
        have pq122 : (V116 67 gf).toInt = ((V 67 gf)).toInt := congrArg Int32.toInt (up2_o hV116 (by decide))
        have pq123 : (V116 68 gf).toInt = ((V 68 gf)).toInt := congrArg Int32.toInt (up2_o hV116 (by decide))
        have pq124 : (V116 70 gf).toInt = ((V 70 gf)).toInt := congrArg Int32.toInt (up2_o hV116 (by decide))
        have pq125 : (V116 71 gf).toInt = ((V 71 gf)).toInt := congrArg Int32.toInt (up2_o hV116 (by decide))
        have pq126 : (V116 75 gf).toInt = ((V 75 gf)).toInt := congrArg Int32.toInt (up2_o hV116 (by decide))
        have pq127 : (V116 76 gf).toInt = ((V 76 gf)).toInt := congrArg Int32.toInt (up2_o hV116 (by decide))
        have pq128 : (V116 80 gf).toInt = ((V 80 gf)).toInt := congrArg Int32.toInt (up2_o hV116 (by decide))
        have pq129 : (V116 84 gf).toInt = ((V 84 gf)).toInt := congrArg Int32.toInt (up2_o hV116 (by decide))
        have pq130 : (V116 5 6).toInt = z120.toInt := congrArg Int32.toInt (up2_s hV116)
        have pq131 : (V116 5 8).toInt = ((V 5 8)).toInt := congrArg Int32.toInt (up2_k hV116 (by decide))
        have pq132 : (V116 5 9).toInt = ((V 5 9)).toInt := congrArg Int32.toInt (up2_k hV116 (by decide))
        have pq133 : (V116 3 13).toInt = ((V 3 13)).toInt := congrArg Int32.toInt (up2_o hV116 (by decide))
        have pq134 : (V116 43 (5 * b + 2)).toInt = ((V 43 (5 * b + 2))).toInt := congrArg Int32.toInt (up2_o hV116 (by decide))
        have pq135 : (V116 42 b).toInt = ((V 42 b)).toInt := congrArg Int32.toInt (up2_o hV116 (by decide))
        have pq136 : (V116 41 b).toInt = ((V 41 b)).toInt := congrArg Int32.toInt (up2_o hV116 (by decide))
        have rp137 : MJ V116 Z b := MP.lv (MO.mp mo) me121 (by (first | exact om_f05d20b261b8 gd kdp rd rd2 t114 | omega)) (fun _ => Or.inl (by (first | exact om_19a2929b0700 gk | omega)))
        have me138 : ME V V116 gf := (ME.up ME.rf hV116 (Or.inr (by (first | exact om_f481bd0f1cda  | omega))))
        have rl139 : RWl V116 gB gr t0 := RWl.mv hlr (fun i9 hi9 c9 h1 h2 => me138.2.1 c9 i9 h1 h2 (by (first | exact om_7c66f1035df4 gd kdp rd rd2 t114 hz120 hi9 | omega))) (fun j9 hj9 => (up2_o hV116 (by decide))) (by rw [(up2_o hV116 (by decide))]; exact Int.le_refl _) (up2_o hV116 (by decide))
        have pq140 : (V116 5 7).toInt = ((V 5 7)).toInt := congrArg Int32.toInt (up2_k hV116 (by decide))
        have r141 : 0 ≤ ((V 5 7)).toInt ∧ ((V 5 7)).toInt ≤ 2048 := hMV 5 7
        have pq142 : (V116 5 11).toInt = ((V 5 11)).toInt := congrArg Int32.toInt (up2_k hV116 (by decide))
        have pq143 : (V116 5 12).toInt = ((V 5 12)).toInt := congrArg Int32.toInt (up2_k hV116 (by decide))
        have rz9 : RW V116 gB (gm, ga, gr) := RW.id rwq (ESw.ag (show agr [(5, 6)] [] V V116 from (agr.up agr.rf hV116 rfl)) (by decide)) (up2_k hV116 (by decide)) (up2_k hV116 (by decide)) (up2_k hV116 (by decide)) (up2_k hV116 (by decide)) (show (V116 5 6).toInt = ((gr.length : Nat) : Int) from by (first | exact om_39a5f16dc1cc kdp rd rd2 t114 | omega)) (show (V116 5 7).toInt = ((t0 : Nat) : Int) from by rw [(up2_k hV116 (by decide)), rt9, tz9]) rl139
        have rx144 : RW V116 gB (stM gB (gm, ga, gfr :: gr)) := by rw [hfe, st_10n (by rw [← rh1]; (first | exact om_45a71e6c5d4e rh1 f110 pq132 | omega))]; exact rz9
        refine W.know (fun kr1 kr2 => ?_)
        refine W.widen (k := zcc Z) (n := zss Z) (Nat.sub_le _ _) (Nat.sub_le _ _) ?_
        exact W.vret hx hb hr (fun t ht hW => ⟨⟨(V116, L, Z), rfl, ⟨hMV116, agV116, rfl, zoZ, rp137, rx144⟩, ⟨by rw [ht]; exact hP, va_K.moved hW.alike hK, hD⟩, by rw [ht]; exact kr1, by rw [ht]; exact kr2⟩, hS.F ht⟩) hS.2.2 dX5_goOnInside_33
      · skip
        have f145 : ((V 5 9)).toInt = 1 := b_eq rfl (by decide) c109
        refine lv_aload_n hx hb dX5_goOnInside_21 rfl (lv_at hl 1 rfl) ?_
        refine va_getN (D := D) (ci := 4) (v := .int (V 68 gf)) (fs := (xfFrame V gf)) (C := RX4) (T := TX4) (N := 19) hx hb hg inX4 hown hK hP (336 + gf) (xgFrame hgf) rfl 1 (by decide) (hnw.use 1190 n1190 rfl) (fun _ h9 => h9) rfl dX5_goOnInside_22 ?_
        refine lv_iconst (v := 1) hx hb dX5_goOnInside_25 (by decide) ?_
        refine lv_icmp_ne (tgt := 34) hx hb dX5_goOnInside_26 (by decide) (fun c146 => ?_) (fun c146 => ?_)
        · skip
          have f147 : ((V 68 gf)).toInt ≠ 1 := b_neq rfl (by decide) c146
          refine lv_aload_n hx hb dX5_goOnInside_34 rfl (lv_at hl 1 rfl) ?_
          refine lv_aload_n hx hb dX5_goOnInside_35 rfl (lv_at hl 0 rfl) ?_
          refine va_get (D := D) (ci := 5) (v := .int (V 5 10)) (fs := (xfMachine ad V L Z)) (C := RX5) (T := TX5) (N := 15) hx hb hg inX5 hown hK hP 5 xgMachine rfl 10 (by decide) (hg _ w677) (fun _ h9 => h9) rfl dX5_goOnInside_36 ?_
          refine va_putN (D := D) (ci := 4) (v := .int (V 5 10)) (ty := tyX4 7) (fs := (xfFrame V gf)) (C := RX4) (T := TX4) (N := 19) hx hb hg inX4 tyX4 tyX4_ok nmX4 hown hK hP hD hS (336 + gf) (xgFrame hgf) rfl 7 (by decide) (hnw.use 1196 n1196 rfl) (fun _ h9 => h9) rfl (tyX4_ok 7 (by decide)) rfl rfl (Nat.le_of_ble_eq_true rfl) dX5_goOnInside_39 (fun H locs hP hD hS => ?_)
          obtain ⟨V148, hV148⟩ : ∃ z, z = up2 V 74 gf (V 5 10) := ⟨_, rfl⟩
          have ew149 : (xw ad kk V L Z).set (336 + gf) ((Z.fa gf), .inr (4, (xfFrame V gf).set 7 (.int (V 5 10)))) = xw ad kk V148 L Z := by rw [hV148]; exact xpFrame_arg hgf
          have hP : va_P D vwCl (xw ad kk V148 L Z) H := by rw [← ew149]; exact hP
          have hD : va_D A (xw ad kk V148 L Z) := by rw [← ew149]; exact hD
          have hMV148 : rgd bX V148 := hMV.put hV148 (i_full _)
          have agV148 : agr [(4, 5), (5, 6), (5, 9), (5, 10), (5, 11), (5, 12)] [33, 34, 35, 67, 68, 69, 70, 71, 72, 73, 74, 75, 76, 77, 78, 79, 80, 81, 82, 83, 84, 85] V V148 := agV.up hV148 rfl
          have wr150 : (V148 3 13).toInt = (V 3 13).toInt := congrArg Int32.toInt (up2_o hV148 (by decide))
          have wr151 : (V148 3 12).toInt = (V 3 12).toInt := congrArg Int32.toInt (up2_o hV148 (by decide))
          have wr152 : (V148 67 gf).toInt = ((V 67 gf)).toInt := (congrArg Int32.toInt (up2_o hV148 (by decide)))
          have wr153 : (V148 68 gf).toInt = ((V 68 gf)).toInt := (congrArg Int32.toInt (up2_o hV148 (by decide)))
          have wr154 : (V148 69 gf).toInt = ((V 69 gf)).toInt := (congrArg Int32.toInt (up2_o hV148 (by decide)))
          have wr155 : (V148 70 gf).toInt = ((V 70 gf)).toInt := (congrArg Int32.toInt (up2_o hV148 (by decide)))
          have wr156 : (V148 71 gf).toInt = ((V 71 gf)).toInt := (congrArg Int32.toInt (up2_o hV148 (by decide)))
          have wr157 : (V148 72 gf).toInt = ((V 72 gf)).toInt := (congrArg Int32.toInt (up2_o hV148 (by decide)))
          have wr158 : (V148 73 gf).toInt = ((V 73 gf)).toInt := (congrArg Int32.toInt (up2_o hV148 (by decide)))
          have wr159 : (V148 75 gf).toInt = ((V 75 gf)).toInt := (congrArg Int32.toInt (up2_o hV148 (by decide)))
          have me160 : ME V V148 gf := (ME.up ME.rf hV148 (Or.inl ⟨by decide, by decide, Nat.le_refl _⟩))
          have rl161 : RWl V148 gB gr t0 := RWl.mv hlr (fun i9 hi9 c9 h1 h2 => me160.2.1 c9 i9 h1 h2 (by (first | exact om_59a77ef8aaca gd kdp rd rd2 hi9 | omega))) (fun j9 hj9 => (up2_o hV148 (by decide))) (by rw [(up2_o hV148 (by decide))]; exact Int.le_refl _) (up2_o hV148 (by decide))
          have pq162 : (V148 5 6).toInt = ((V 5 6)).toInt := congrArg Int32.toInt (up2_o hV148 (by decide))
          have fo8 : FRc V148 gB gr.length (Fin4 lv o c sc me ps) := by rw [gl9]; exact ⟨⟨by (first | exact om_1a346c87806a gk wr152 | omega), by (first | exact om_ac6651f4ff0c k68 wr153 | omega)⟩, ⟨by (first | exact om_cd7d0a6a31bc q69 wr154 | omega), ⟨by (first | exact om_cd7d0a6a31bc q70 wr155 | omega), by (first | exact om_72c355b130f5 fo q70 wr155 | omega), by (first | exact om_be0131eba9cf fo ra2 q70 wr150 wr155 | omega)⟩, ⟨by (first | exact om_cd7d0a6a31bc q71 wr156 | omega), by (first | exact om_50e3d3ad91f5 r2 fc q71 wr156 | omega), by (first | exact om_e52dd4456e8b q71 c1 wr156 | omega)⟩, ⟨by (first | exact om_cd7d0a6a31bc q72 wr157 | omega), by omega, by omega⟩⟩, ⟨by (first | exact om_cd7d0a6a31bc q73 wr158 | omega), by (first | exact om_d140e5b90c17 q73 m0 m9 wr158 | omega), by (first | exact om_e1e057f4ae99 q73 m0 m9 wr158 | omega)⟩, by (first | exact om_cd7d0a6a31bc q75 wr159 | omega)⟩
          have rwx9 : RW V148 gB (gm, ga, gfr :: gr) := by rw [hfe]; exact RW.id rwq (ESw.ag (show agr [] [74] V V148 from (agr.up agr.rf hV148 rfl)) (by decide)) (up2_o hV148 (by decide)) (up2_o hV148 (by decide)) (up2_o hV148 (by decide)) (up2_o hV148 (by decide)) (show (V148 5 6).toInt = ((gr.length + 1 : Nat) : Int) from by (first | exact om_66365ac95418 kdp rd rd2 pq162 | omega)) (show (V148 5 7).toInt = ((t0 : Nat) : Int) from by rw [(up2_o hV148 (by decide)), rt9, tz9]) (RWl.push rl161 fo8 rfl (np9 rfl))
          have a74 : V148 74 gf = ga := (up2_s hV148).trans (rh.2.1 (show gm 0 6 = 1 from by (first | exact om_78818edf1d02 rh1 f145 | omega)))
          refine lv_aload_n hx hb dX5_goOnInside_42 rfl (lv_at hl 1 rfl) ?_
          refine va_getN (D := D) (ci := 4) (v := .int (V148 68 gf)) (fs := (xfFrame V148 gf)) (C := RX4) (T := TX4) (N := 19) hx hb hg inX4 hown hK hP (336 + gf) (xgFrame hgf) rfl 1 (by decide) (hnw.use 1190 n1190 rfl) (fun _ h9 => h9) rfl dX5_goOnInside_43 ?_
          refine g_top (v := (V 68 gf)) (up2_o hV148 (by decide)) ?_
          refine lv_iconst (v := 4) hx hb dX5_goOnInside_46 (by decide) ?_
          refine lv_icmp_ne (tgt := 58) hx hb dX5_goOnInside_47 (by decide) (fun c163 => ?_) (fun c163 => ?_)
          · skip
            have f164 : ((V 68 gf)).toInt ≠ 4 := b_neq rfl (by decide) c163
            exfalso; (first | exact om_eb2d6a77ff83 k68 f164 | omega)
          · skip
            have f165 : ((V 68 gf)).toInt = 4 := b_eq rfl (by decide) c163
            refine lv_aload_n hx hb dX5_goOnInside_50 rfl (lv_at hl 0 rfl) ?_
            refine lv_aload_n hx hb dX5_goOnInside_51 rfl (lv_at hl 1 rfl) ?_
            have pq166 : (V148 67 gf).toInt = ((V 67 gf)).toInt := congrArg Int32.toInt (up2_o hV148 (by decide))
            have pq167 : (V148 68 gf).toInt = ((V 68 gf)).toInt := congrArg Int32.toInt (up2_o hV148 (by decide))
            have pq168 : (V148 5 9).toInt = ((V 5 9)).toInt := congrArg Int32.toInt (up2_o hV148 (by decide))
            have me169 : ME V V148 gf := (ME.up ME.rf hV148 (Or.inl ⟨by decide, by decide, Nat.le_refl _⟩))
            have pq170 : (V148 70 gf).toInt = ((V 70 gf)).toInt := congrArg Int32.toInt (up2_o hV148 (by decide))
            have pq171 : (V148 71 gf).toInt = ((V 71 gf)).toInt := congrArg Int32.toInt (up2_o hV148 (by decide))
            have pq172 : (V148 75 gf).toInt = ((V 75 gf)).toInt := congrArg Int32.toInt (up2_o hV148 (by decide))
            have pq173 : (V148 76 gf).toInt = ((V 76 gf)).toInt := congrArg Int32.toInt (up2_o hV148 (by decide))
            have pq174 : (V148 80 gf).toInt = ((V 80 gf)).toInt := congrArg Int32.toInt (up2_o hV148 (by decide))
            have pq175 : (V148 84 gf).toInt = ((V 84 gf)).toInt := congrArg Int32.toInt (up2_o hV148 (by decide))
            have pq176 : (V148 5 8).toInt = ((V 5 8)).toInt := congrArg Int32.toInt (up2_o hV148 (by decide))
            have pq177 : (V148 3 13).toInt = ((V 3 13)).toInt := congrArg Int32.toInt (up2_o hV148 (by decide))
            have pq178 : (V148 43 (5 * b + 2)).toInt = ((V 43 (5 * b + 2))).toInt := congrArg Int32.toInt (up2_o hV148 (by decide))
            have pq179 : (V148 42 b).toInt = ((V 42 b)).toInt := congrArg Int32.toInt (up2_o hV148 (by decide))
            have pq180 : (V148 41 b).toInt = ((V 41 b)).toInt := congrArg Int32.toInt (up2_o hV148 (by decide))
            have mo181 : MO V148 Z b gf True (QN V148 b) (QN V148 b) := MO.ch mo me169 (up2_o hV148 (by decide)) (up2_o hV148 (by decide)) (fun _ => Or.inl (by (first | exact om_19a2929b0700 gk | omega))) (fun x h => FK.k3 (by (first | exact om_1a346c87806a gk wr152 | omega)) (by (first | exact om_fe4c0070b215 r2 fc q71 wr156 pq178 | omega)) (by (first | exact om_48c11495e94c fo ra2 q70 wr150 wr155 | omega)) (by (first | exact om_9f18da4ccf80 k68 wr153 | omega)))
            have me182 : ME V V148 0 := (ME.up ME.rf hV148 (Or.inl ⟨by decide, by decide, by (first | exact om_c9a7d7f72290 gd r1 kdp rd rd2 sl9 pq162 | omega)⟩))
            have bc183 : BKc V148 b gB := BKc.be bc me182.1
            refine W.know (fun k185 k186 => ?_)
            obtain ⟨Hk184, hHk184⟩ : ∃ z, z = H := ⟨_, rfl⟩
            have k185 : Hk184.size ≤ s.heap.size + (zcc Z - zcc Z) := by rw [hHk184]; exact k185
            have k186 : tot Hk184 ≤ tot s.heap + (zss Z - zss Z) := by rw [hHk184]; exact k186
            refine gZ_void (gA_runV (As := [.ref (Z.fa gf)]) (rest := []) (ci := 5) (q0 := 5) hx hb hml hown hg hP hD hK hS hA hnw hgk (x_nextBefore9 l D ks H.size ad kk V148 L Z (b) (gf) (gB) (gm) (ga) (gfr) (gr) hMV148 (show b < 2 from by (first | exact om_289974d36c9f hb2 mup | omega)) (show gf < Z.nf from by (first | exact om_d9a628b8387a hgf gd kdp rd rd2 pq162 | omega)) mo181 (show (gf : Int) + 1 = (V148 5 6).toInt from by (first | exact om_23ab2a0d3264 gd kdp rd rd2 pq162 | omega)) (show (V148 67 gf).toInt = 3 from by (first | exact om_1a346c87806a gk wr152 | omega)) (show (V148 68 gf).toInt = 4 from by (first | exact om_ac6651f4ff0c k68 wr153 | omega)) rwx9 bc183 sf (show (V148 68 gf).toInt = 4 from by (first | exact om_ac6651f4ff0c k68 wr153 | omega)) a74 (show (V148 5 9).toInt = 1 from by (first | exact om_d0936c7cb916 rh1 f145 pq168 | omega))) w1423 w1425 w65 w171 w1426 rfl xgMachine hdV_yX5_nextBefore ⟨Nat.le_of_ble_eq_true rfl, Nat.le_of_ble_eq_true rfl⟩ rfl hl.1 rfl (Nat.le_of_ble_eq_true rfl) dX5_goOnInside_52 ⟨z1 zoZ.1, z1 zoZ.2.1⟩) hD hS hA (fun u188 H locs w189 hP hD hK hS y190 y191 => ?_)
            obtain ⟨V192, L193, Z194⟩ := u188
            obtain ⟨hMV192, ajV192, axL193, zlZ194, t196, t197⟩ := w189
            have axL193 : L = L193 := Eq.symm axL193
            subst axL193
            replace hP : va_P D vwCl (xw ad kk V192 L Z194) H := hP
            replace hD : va_D A (xw ad kk V192 L Z194) := hD
            replace hK : va_K D vwCl (xty kk Z194) s := hK
            replace hMV192 : rgd bX V192 := hMV192
            replace ajV192 : agr [(4, 5), (5, 6), (5, 9), (5, 11), (5, 12)] [33, 34, 35, 67, 68, 69, 70, 71, 72, 73, 74, 75, 76, 77, 78, 79, 80, 81, 82, 83, 84, 85] V148 V192 := ajV192
            have agV192 : agr [(4, 5), (5, 6), (5, 9), (5, 10), (5, 11), (5, 12)] [33, 34, 35, 67, 68, 69, 70, 71, 72, 73, 74, 75, 76, 77, 78, 79, 80, 81, 82, 83, 84, 85] V V192 := agV148.tr ajV192 (by decide) (by decide)
            replace zlZ194 : ZL Z Z194 := zlZ194
            have zoZ194 : ZL Z Z194 := ZL.tr zoZ zlZ194
            have ziZ194 := zlZ194.1
            have zjZ194 := zlZ194.2.1
            have zkZ194 := zlZ194.2.2.1
            have zmZ194 := zoZ194.1
            have znZ194 := zoZ194.2.1
            have zpZ_Z194 := zoZ.1
            have zqZ_Z194 := zoZ.2.1
            have y190 : H.size ≤ Hk184.size + (zcc Z - zcc Z194) := by rw [hHk184]; exact y190
            have y191 : tot H ≤ tot Hk184 + (zss Z - zss Z194) := by rw [hHk184]; exact y191
            refine W.tight (k := zcc Z - zcc Z194) (n := zss Z - zss Z194) (by first | exact tg9 y190 k185 zlZ194.1 zoZ.1 | omega) (by first | exact tg9 y191 k186 zlZ194.2.1 zoZ.2.1 | omega) ?_
            have hl : lv_has ls 2 [(0, .ref (ad 5)), (1, .ref (Z194.fa gf))] := by rw [zlZ194.2.2.2.2 gf hgf]; exact hl
            replace t196 : MJ V192 Z194 b := t196
            replace t197 : RW V192 gB (stM gB (gm, ga, gfr :: gr)) := t197
            refine lv_goto (tgt := 63) hx hb dX5_goOnInside_55 (by decide) ?_
            refine W.know (fun kr1 kr2 => ?_)
            refine W.widen (k := zcc Z) (n := zss Z) (Nat.sub_le _ _) (Nat.sub_le _ _) ?_
            exact W.vret hx hb hr (fun t ht hW => ⟨⟨(V192, L, Z194), rfl, ⟨hMV192, agV192, rfl, zoZ194, t196, t197⟩, ⟨by rw [ht]; exact hP, va_K.moved hW.alike hK, hD⟩, by rw [ht]; exact kr1, by rw [ht]; exact kr2⟩, hS.F ht⟩) hS.2.2 dX5_goOnInside_63
        · skip
          have f198 : ((V 68 gf)).toInt = 1 := b_eq rfl (by decide) c146
          exfalso; (first | exact om_bc61cb1a4a69 k68 f198 | omega)
    · skip
      have f199 : ((V 68 gf)).toInt = 0 := b_eq rfl (by decide) c107
      exfalso; (first | exact om_284393523387 k68 f199 | omega)
  · skip
    have hf : FRc V gB gf (Fin5 lv o c sc me ps) := by rw [← hfe]; exact hf0
    have tl8 : tw9 = t0 + (Fin5 lv o c sc me ps : Fr).2.2.2.length := by rw [← hfe]; exact tl9
    obtain ⟨⟨k67, k68⟩, hoc, ⟨q73, m0, m9⟩, q75⟩ := hf
    obtain ⟨q69, ⟨q70, o0, o1⟩, ⟨q71, c0, c1⟩, ⟨q72, s0, s1⟩⟩ := hoc
    have cn9 : c.toNat < nC gB := by (first | exact om_51a08a25bfb6 r2 fc q71 c1 | omega)
    have kc9 : Int32.toNatClampNeg (V 71 gf) = c.toNat := by have h9 := i_clamp (x := V 71 gf) rfl (by (first | exact om_762d7ad45f4b r2 fc q71 | omega)); (first | exact om_57d2b76748c0 r2 fc q71 h9 | omega)
    have tz9 : tw9 = t0 := tl8
    refine lv_aload_n hx hb dX5_goOnInside_0 rfl (lv_at hl 1 rfl) ?_
    refine va_getN (D := D) (ci := 4) (v := .int (V 68 gf)) (fs := (xfFrame V gf)) (C := RX4) (T := TX4) (N := 19) hx hb hg inX4 hown hK hP (336 + gf) (xgFrame hgf) rfl 1 (by decide) (hnw.use 1190 n1190 rfl) (fun _ h9 => h9) rfl dX5_goOnInside_1 ?_
    refine lv_if_ne (tgt := 13) hx hb dX5_goOnInside_4 (by decide) (fun c200 => ?_) (fun c200 => ?_)
    · skip
      have f201 : ((V 68 gf)).toInt ≠ 0 := b_neq rfl (by decide) c200
      refine lv_aload_n hx hb dX5_goOnInside_13 rfl (lv_at hl 0 rfl) ?_
      refine va_get (D := D) (ci := 5) (v := .int (V 5 9)) (fs := (xfMachine ad V L Z)) (C := RX5) (T := TX5) (N := 15) hx hb hg inX5 hown hK hP 5 xgMachine rfl 9 (by decide) (hg _ w676) (fun _ h9 => h9) rfl dX5_goOnInside_14 ?_
      refine lv_iconst (v := 1) hx hb dX5_goOnInside_17 (by decide) ?_
      refine lv_icmp_ne (tgt := 29) hx hb dX5_goOnInside_18 (by decide) (fun c202 => ?_) (fun c202 => ?_)
      · skip
        have f203 : ((V 5 9)).toInt ≠ 1 := b_neq rfl (by decide) c202
        refine lv_aload_n hx hb dX5_goOnInside_29 rfl (lv_at hl 0 rfl) ?_
        refine gA_void (gA_runV (As := []) (rest := []) (ci := 5) (q0 := 5) hx hb hml hown hg hP hD hK hS hA hnw hgk (x_leave9 l D ks H.size ad kk V L Z  hMV (show 1 ≤ (V 5 6).toInt from by (first | exact om_fbce9464733e gd r1 kdp rd rd2 sl9 | omega))) w1308 w1310 w50 w171 w1311 rfl xgMachine hdV_yX5_leave ⟨Nat.le_of_ble_eq_true rfl, Nat.le_of_ble_eq_true rfl⟩ rfl hl.1 rfl (Nat.le_of_ble_eq_true rfl) dX5_goOnInside_30 ⟨z0, z0⟩) hP hD hK hS hA (fun u205 H locs w206 hP hD hK hS => ?_)
        obtain ⟨V209, L210⟩ := u205
        obtain ⟨hMV209, ajV209, axL210, t207, t208⟩ := w206
        have axL210 : L = L210 := Eq.symm axL210
        subst axL210
        replace hP : va_P D vwCl (xw ad kk V209 L Z) H := hP
        replace hD : va_D A (xw ad kk V209 L Z) := hD
        replace hMV209 : rgd bX V209 := hMV209
        replace ajV209 : agr [(5, 6)] [] V V209 := ajV209
        have agV209 : agr [(4, 5), (5, 6), (5, 9), (5, 10), (5, 11), (5, 12)] [33, 34, 35, 67, 68, 69, 70, 71, 72, 73, 74, 75, 76, 77, 78, 79, 80, 81, 82, 83, 84, 85] V V209 := agV.tr ajV209 (by decide) (by decide)
        replace t207 : (V209 5 6).toInt = (V 5 6).toInt - 1 := t207
        replace t208 : ((True) ∧ V209 = (up2 V 5 6 (V 5 6 - 1))) := t208
        have r211 : 0 ≤ ((V209 5 6)).toInt ∧ ((V209 5 6)).toInt ≤ 400 := hMV209 5 6
        have hw212 := t208.2
        obtain ⟨z213, ez213⟩ : ∃ y : Int32, y = V 5 6 - 1 := ⟨_, rfl⟩
        have hz213 : z213.toInt = (V 5 6).toInt - 1 := i_sub ez213 rfl (by decide) (by (first | exact om_569d6dea5446 gd r1 kdp rd rd2 sl9 t207 | omega))
        have hV209 : V209 = up2 V 5 6 z213 := by rw [hw212, ez213]
        have me214 : ME V V209 gf := (ME.up ME.rf hV209 (Or.inr (by (first | exact om_f481bd0f1cda  | omega))))
        have pq215 : (V209 67 gf).toInt = ((V 67 gf)).toInt := congrArg Int32.toInt (up2_o hV209 (by decide))
        have pq216 : (V209 68 gf).toInt = ((V 68 gf)).toInt := congrArg Int32.toInt (up2_o hV209 (by decide))
        have pq217 : (V209 70 gf).toInt = ((V 70 gf)).toInt := congrArg Int32.toInt (up2_o hV209 (by decide))
        have pq218 : (V209 71 gf).toInt = ((V 71 gf)).toInt := congrArg Int32.toInt (up2_o hV209 (by decide))
        have pq219 : (V209 75 gf).toInt = ((V 75 gf)).toInt := congrArg Int32.toInt (up2_o hV209 (by decide))
        have pq220 : (V209 76 gf).toInt = ((V 76 gf)).toInt := congrArg Int32.toInt (up2_o hV209 (by decide))
        have pq221 : (V209 80 gf).toInt = ((V 80 gf)).toInt := congrArg Int32.toInt (up2_o hV209 (by decide))
        have pq222 : (V209 84 gf).toInt = ((V 84 gf)).toInt := congrArg Int32.toInt (up2_o hV209 (by decide))
        have pq223 : (V209 5 6).toInt = z213.toInt := congrArg Int32.toInt (up2_s hV209)
        have pq224 : (V209 5 8).toInt = ((V 5 8)).toInt := congrArg Int32.toInt (up2_k hV209 (by decide))
        have pq225 : (V209 5 9).toInt = ((V 5 9)).toInt := congrArg Int32.toInt (up2_k hV209 (by decide))
        have pq226 : (V209 3 13).toInt = ((V 3 13)).toInt := congrArg Int32.toInt (up2_o hV209 (by decide))
        have pq227 : (V209 43 (5 * b + 2)).toInt = ((V 43 (5 * b + 2))).toInt := congrArg Int32.toInt (up2_o hV209 (by decide))
        have pq228 : (V209 42 b).toInt = ((V 42 b)).toInt := congrArg Int32.toInt (up2_o hV209 (by decide))
        have pq229 : (V209 41 b).toInt = ((V 41 b)).toInt := congrArg Int32.toInt (up2_o hV209 (by decide))
        have rp230 : MJ V209 Z b := MP.lv (MO.mp mo) me214 (by (first | exact om_f05d20b261b8 gd kdp rd rd2 t207 | omega)) (fun _ => Or.inl (by (first | exact om_19a2929b0700 gk | omega)))
        have me231 : ME V V209 gf := (ME.up ME.rf hV209 (Or.inr (by (first | exact om_f481bd0f1cda  | omega))))
        have rl232 : RWl V209 gB gr t0 := RWl.mv hlr (fun i9 hi9 c9 h1 h2 => me231.2.1 c9 i9 h1 h2 (by (first | exact om_7c66f1035df4 gd kdp rd rd2 t207 hz213 hi9 | omega))) (fun j9 hj9 => (up2_o hV209 (by decide))) (by rw [(up2_o hV209 (by decide))]; exact Int.le_refl _) (up2_o hV209 (by decide))
        have pq233 : (V209 5 7).toInt = ((V 5 7)).toInt := congrArg Int32.toInt (up2_k hV209 (by decide))
        have r234 : 0 ≤ ((V 5 7)).toInt ∧ ((V 5 7)).toInt ≤ 2048 := hMV 5 7
        have pq235 : (V209 5 11).toInt = ((V 5 11)).toInt := congrArg Int32.toInt (up2_k hV209 (by decide))
        have pq236 : (V209 5 12).toInt = ((V 5 12)).toInt := congrArg Int32.toInt (up2_k hV209 (by decide))
        have rz9 : RW V209 gB (gm, ga, gr) := RW.id rwq (ESw.ag (show agr [(5, 6)] [] V V209 from (agr.up agr.rf hV209 rfl)) (by decide)) (up2_k hV209 (by decide)) (up2_k hV209 (by decide)) (up2_k hV209 (by decide)) (up2_k hV209 (by decide)) (show (V209 5 6).toInt = ((gr.length : Nat) : Int) from by (first | exact om_39a5f16dc1cc kdp rd rd2 t207 | omega)) (show (V209 5 7).toInt = ((t0 : Nat) : Int) from by rw [(up2_k hV209 (by decide)), rt9, tz9]) rl232
        have rx237 : RW V209 gB (stM gB (gm, ga, gfr :: gr)) := by rw [hfe, st_11n (by rw [← rh1]; (first | exact om_45a71e6c5d4e rh1 f203 pq225 | omega))]; exact rz9
        refine W.know (fun kr1 kr2 => ?_)
        refine W.widen (k := zcc Z) (n := zss Z) (Nat.sub_le _ _) (Nat.sub_le _ _) ?_
        exact W.vret hx hb hr (fun t ht hW => ⟨⟨(V209, L, Z), rfl, ⟨hMV209, agV209, rfl, zoZ, rp230, rx237⟩, ⟨by rw [ht]; exact hP, va_K.moved hW.alike hK, hD⟩, by rw [ht]; exact kr1, by rw [ht]; exact kr2⟩, hS.F ht⟩) hS.2.2 dX5_goOnInside_33
      · skip
        have f238 : ((V 5 9)).toInt = 1 := b_eq rfl (by decide) c202
        refine lv_aload_n hx hb dX5_goOnInside_21 rfl (lv_at hl 1 rfl) ?_
        refine va_getN (D := D) (ci := 4) (v := .int (V 68 gf)) (fs := (xfFrame V gf)) (C := RX4) (T := TX4) (N := 19) hx hb hg inX4 hown hK hP (336 + gf) (xgFrame hgf) rfl 1 (by decide) (hnw.use 1190 n1190 rfl) (fun _ h9 => h9) rfl dX5_goOnInside_22 ?_
        refine lv_iconst (v := 1) hx hb dX5_goOnInside_25 (by decide) ?_
        refine lv_icmp_ne (tgt := 34) hx hb dX5_goOnInside_26 (by decide) (fun c239 => ?_) (fun c239 => ?_)
        · skip
          have f240 : ((V 68 gf)).toInt ≠ 1 := b_neq rfl (by decide) c239
          refine lv_aload_n hx hb dX5_goOnInside_34 rfl (lv_at hl 1 rfl) ?_
          refine lv_aload_n hx hb dX5_goOnInside_35 rfl (lv_at hl 0 rfl) ?_
          refine va_get (D := D) (ci := 5) (v := .int (V 5 10)) (fs := (xfMachine ad V L Z)) (C := RX5) (T := TX5) (N := 15) hx hb hg inX5 hown hK hP 5 xgMachine rfl 10 (by decide) (hg _ w677) (fun _ h9 => h9) rfl dX5_goOnInside_36 ?_
          refine va_putN (D := D) (ci := 4) (v := .int (V 5 10)) (ty := tyX4 7) (fs := (xfFrame V gf)) (C := RX4) (T := TX4) (N := 19) hx hb hg inX4 tyX4 tyX4_ok nmX4 hown hK hP hD hS (336 + gf) (xgFrame hgf) rfl 7 (by decide) (hnw.use 1196 n1196 rfl) (fun _ h9 => h9) rfl (tyX4_ok 7 (by decide)) rfl rfl (Nat.le_of_ble_eq_true rfl) dX5_goOnInside_39 (fun H locs hP hD hS => ?_)
          obtain ⟨V241, hV241⟩ : ∃ z, z = up2 V 74 gf (V 5 10) := ⟨_, rfl⟩
          have ew242 : (xw ad kk V L Z).set (336 + gf) ((Z.fa gf), .inr (4, (xfFrame V gf).set 7 (.int (V 5 10)))) = xw ad kk V241 L Z := by rw [hV241]; exact xpFrame_arg hgf
          have hP : va_P D vwCl (xw ad kk V241 L Z) H := by rw [← ew242]; exact hP
          have hD : va_D A (xw ad kk V241 L Z) := by rw [← ew242]; exact hD
          have hMV241 : rgd bX V241 := hMV.put hV241 (i_full _)
          have agV241 : agr [(4, 5), (5, 6), (5, 9), (5, 10), (5, 11), (5, 12)] [33, 34, 35, 67, 68, 69, 70, 71, 72, 73, 74, 75, 76, 77, 78, 79, 80, 81, 82, 83, 84, 85] V V241 := agV.up hV241 rfl
          have wr243 : (V241 3 13).toInt = (V 3 13).toInt := congrArg Int32.toInt (up2_o hV241 (by decide))
          have wr244 : (V241 3 12).toInt = (V 3 12).toInt := congrArg Int32.toInt (up2_o hV241 (by decide))
          have wr245 : (V241 67 gf).toInt = ((V 67 gf)).toInt := (congrArg Int32.toInt (up2_o hV241 (by decide)))
          have wr246 : (V241 68 gf).toInt = ((V 68 gf)).toInt := (congrArg Int32.toInt (up2_o hV241 (by decide)))
          have wr247 : (V241 69 gf).toInt = ((V 69 gf)).toInt := (congrArg Int32.toInt (up2_o hV241 (by decide)))
          have wr248 : (V241 70 gf).toInt = ((V 70 gf)).toInt := (congrArg Int32.toInt (up2_o hV241 (by decide)))
          have wr249 : (V241 71 gf).toInt = ((V 71 gf)).toInt := (congrArg Int32.toInt (up2_o hV241 (by decide)))
          have wr250 : (V241 72 gf).toInt = ((V 72 gf)).toInt := (congrArg Int32.toInt (up2_o hV241 (by decide)))
          have wr251 : (V241 73 gf).toInt = ((V 73 gf)).toInt := (congrArg Int32.toInt (up2_o hV241 (by decide)))
          have wr252 : (V241 75 gf).toInt = ((V 75 gf)).toInt := (congrArg Int32.toInt (up2_o hV241 (by decide)))
          have me253 : ME V V241 gf := (ME.up ME.rf hV241 (Or.inl ⟨by decide, by decide, Nat.le_refl _⟩))
          have rl254 : RWl V241 gB gr t0 := RWl.mv hlr (fun i9 hi9 c9 h1 h2 => me253.2.1 c9 i9 h1 h2 (by (first | exact om_59a77ef8aaca gd kdp rd rd2 hi9 | omega))) (fun j9 hj9 => (up2_o hV241 (by decide))) (by rw [(up2_o hV241 (by decide))]; exact Int.le_refl _) (up2_o hV241 (by decide))
          have pq255 : (V241 5 6).toInt = ((V 5 6)).toInt := congrArg Int32.toInt (up2_o hV241 (by decide))
          have fo8 : FRc V241 gB gr.length (Fin5 lv o c sc me ps) := by rw [gl9]; exact ⟨⟨by (first | exact om_1a346c87806a gk wr245 | omega), by (first | exact om_4366ab523688 k68 wr246 | omega)⟩, ⟨by (first | exact om_cd7d0a6a31bc q69 wr247 | omega), ⟨by (first | exact om_cd7d0a6a31bc q70 wr248 | omega), by (first | exact om_72c355b130f5 fo q70 wr248 | omega), by (first | exact om_be0131eba9cf fo ra2 q70 wr243 wr248 | omega)⟩, ⟨by (first | exact om_cd7d0a6a31bc q71 wr249 | omega), by (first | exact om_50e3d3ad91f5 r2 fc q71 wr249 | omega), by (first | exact om_e52dd4456e8b q71 c1 wr249 | omega)⟩, ⟨by (first | exact om_cd7d0a6a31bc q72 wr250 | omega), by omega, by omega⟩⟩, ⟨by (first | exact om_cd7d0a6a31bc q73 wr251 | omega), by (first | exact om_d140e5b90c17 q73 m0 m9 wr251 | omega), by (first | exact om_e1e057f4ae99 q73 m0 m9 wr251 | omega)⟩, by (first | exact om_cd7d0a6a31bc q75 wr252 | omega)⟩
          have rwx9 : RW V241 gB (gm, ga, gfr :: gr) := by rw [hfe]; exact RW.id rwq (ESw.ag (show agr [] [74] V V241 from (agr.up agr.rf hV241 rfl)) (by decide)) (up2_o hV241 (by decide)) (up2_o hV241 (by decide)) (up2_o hV241 (by decide)) (up2_o hV241 (by decide)) (show (V241 5 6).toInt = ((gr.length + 1 : Nat) : Int) from by (first | exact om_66365ac95418 kdp rd rd2 pq255 | omega)) (show (V241 5 7).toInt = ((t0 : Nat) : Int) from by rw [(up2_o hV241 (by decide)), rt9, tz9]) (RWl.push rl254 fo8 rfl (np9 rfl))
          have a74 : V241 74 gf = ga := (up2_s hV241).trans (rh.2.1 (show gm 0 6 = 1 from by (first | exact om_78818edf1d02 rh1 f238 | omega)))
          refine lv_aload_n hx hb dX5_goOnInside_42 rfl (lv_at hl 1 rfl) ?_
          refine va_getN (D := D) (ci := 4) (v := .int (V241 68 gf)) (fs := (xfFrame V241 gf)) (C := RX4) (T := TX4) (N := 19) hx hb hg inX4 hown hK hP (336 + gf) (xgFrame hgf) rfl 1 (by decide) (hnw.use 1190 n1190 rfl) (fun _ h9 => h9) rfl dX5_goOnInside_43 ?_
          refine g_top (v := (V 68 gf)) (up2_o hV241 (by decide)) ?_
          refine lv_iconst (v := 4) hx hb dX5_goOnInside_46 (by decide) ?_
          refine lv_icmp_ne (tgt := 58) hx hb dX5_goOnInside_47 (by decide) (fun c256 => ?_) (fun c256 => ?_)
          · skip
            have f257 : ((V 68 gf)).toInt ≠ 4 := b_neq rfl (by decide) c256
            refine lv_aload_n hx hb dX5_goOnInside_58 rfl (lv_at hl 0 rfl) ?_
            refine lv_aload_n hx hb dX5_goOnInside_59 rfl (lv_at hl 1 rfl) ?_
            have pq258 : (V241 67 gf).toInt = ((V 67 gf)).toInt := congrArg Int32.toInt (up2_o hV241 (by decide))
            have pq259 : (V241 75 gf).toInt = ((V 75 gf)).toInt := congrArg Int32.toInt (up2_o hV241 (by decide))
            have pq260 : (V241 41 b).toInt = ((V 41 b)).toInt := congrArg Int32.toInt (up2_o hV241 (by decide))
            have pq261 : (V241 68 gf).toInt = ((V 68 gf)).toInt := congrArg Int32.toInt (up2_o hV241 (by decide))
            have pq262 : (V241 5 9).toInt = ((V 5 9)).toInt := congrArg Int32.toInt (up2_o hV241 (by decide))
            have me263 : ME V V241 gf := (ME.up ME.rf hV241 (Or.inl ⟨by decide, by decide, Nat.le_refl _⟩))
            have pq264 : (V241 70 gf).toInt = ((V 70 gf)).toInt := congrArg Int32.toInt (up2_o hV241 (by decide))
            have pq265 : (V241 71 gf).toInt = ((V 71 gf)).toInt := congrArg Int32.toInt (up2_o hV241 (by decide))
            have pq266 : (V241 76 gf).toInt = ((V 76 gf)).toInt := congrArg Int32.toInt (up2_o hV241 (by decide))
            have pq267 : (V241 80 gf).toInt = ((V 80 gf)).toInt := congrArg Int32.toInt (up2_o hV241 (by decide))
            have pq268 : (V241 84 gf).toInt = ((V 84 gf)).toInt := congrArg Int32.toInt (up2_o hV241 (by decide))
            have pq269 : (V241 5 8).toInt = ((V 5 8)).toInt := congrArg Int32.toInt (up2_o hV241 (by decide))
            have pq270 : (V241 3 13).toInt = ((V 3 13)).toInt := congrArg Int32.toInt (up2_o hV241 (by decide))
            have pq271 : (V241 43 (5 * b + 2)).toInt = ((V 43 (5 * b + 2))).toInt := congrArg Int32.toInt (up2_o hV241 (by decide))
            have pq272 : (V241 42 b).toInt = ((V 42 b)).toInt := congrArg Int32.toInt (up2_o hV241 (by decide))
            have mo273 : MO V241 Z b gf True (QN V241 b) (QN V241 b) := MO.ch mo me263 (up2_o hV241 (by decide)) (up2_o hV241 (by decide)) (fun _ => Or.inl (by (first | exact om_19a2929b0700 gk | omega))) (fun x h => FK.k3 (by (first | exact om_1a346c87806a gk wr245 | omega)) (by (first | exact om_fe4c0070b215 r2 fc q71 wr249 pq271 | omega)) (by (first | exact om_48c11495e94c fo ra2 q70 wr243 wr248 | omega)) (by (first | exact om_fe3f0f63dba6 fp hbs9 k68 q75 f201 f240 wr246 wr252 f257 pq260 | omega)))
            have me274 : ME V V241 0 := (ME.up ME.rf hV241 (Or.inl ⟨by decide, by decide, by (first | exact om_c9a7d7f72290 gd r1 kdp rd rd2 sl9 pq255 | omega)⟩))
            have bc275 : BKc V241 b gB := BKc.be bc me274.1
            refine W.know (fun k277 k278 => ?_)
            obtain ⟨Hk276, hHk276⟩ : ∃ z, z = H := ⟨_, rfl⟩
            have k277 : Hk276.size ≤ s.heap.size + (zcc Z - zcc Z) := by rw [hHk276]; exact k277
            have k278 : tot Hk276 ≤ tot s.heap + (zss Z - zss Z) := by rw [hHk276]; exact k278
            refine gZ_void (gA_runV (As := [.ref (Z.fa gf)]) (rest := []) (ci := 5) (q0 := 5) hx hb hml hown hg hP hD hK hS hA hnw hgk (x_nextAfter9 l D ks H.size ad kk V241 L Z (b) (gf) (gB) (gm) (ga) (gfr) (gr) hMV241 (show b < 2 from by (first | exact om_289974d36c9f hb2 mup | omega)) (show gf < Z.nf from by (first | exact om_d9a628b8387a hgf gd kdp rd rd2 pq255 | omega)) mo273 (show (gf : Int) + 1 = (V241 5 6).toInt from by (first | exact om_23ab2a0d3264 gd kdp rd rd2 pq255 | omega)) (show (V241 67 gf).toInt = 3 from by (first | exact om_1a346c87806a gk wr245 | omega)) (show (V241 75 gf).toInt ≤ (V241 41 b).toInt from by (first | exact om_a663693c0d83 fp hbs9 k68 q75 f201 f240 wr252 f257 pq260 | omega)) (show (V241 68 gf).toInt ≠ 0 ∧ (V241 68 gf).toInt ≠ 1 from by (first | exact om_4d68ac1dd6c6 k68 wr246 | omega)) rwx9 bc275 sf (show (V241 68 gf).toInt = 5 from by (first | exact om_4366ab523688 k68 wr246 | omega)) a74 (show (V241 5 9).toInt = 1 from by (first | exact om_d0936c7cb916 rh1 f238 pq262 | omega))) w1427 w1429 w66 w171 w1430 rfl xgMachine hdV_yX5_nextAfter ⟨Nat.le_of_ble_eq_true rfl, Nat.le_of_ble_eq_true rfl⟩ rfl hl.1 rfl (Nat.le_of_ble_eq_true rfl) dX5_goOnInside_60 ⟨z1 zoZ.1, z1 zoZ.2.1⟩) hD hS hA (fun u280 H locs w281 hP hD hK hS y282 y283 => ?_)
            obtain ⟨V284, L285, Z286⟩ := u280
            obtain ⟨hMV284, ajV284, axL285, zlZ286, t288, t289⟩ := w281
            have axL285 : L = L285 := Eq.symm axL285
            subst axL285
            replace hP : va_P D vwCl (xw ad kk V284 L Z286) H := hP
            replace hD : va_D A (xw ad kk V284 L Z286) := hD
            replace hK : va_K D vwCl (xty kk Z286) s := hK
            replace hMV284 : rgd bX V284 := hMV284
            replace ajV284 : agr [(4, 5), (5, 6), (5, 9), (5, 10)] [33, 34, 35, 67, 68, 69, 70, 71, 72, 73, 74, 75, 76, 77, 78, 79, 80, 81, 82, 83, 84, 85] V241 V284 := ajV284
            have agV284 : agr [(4, 5), (5, 6), (5, 9), (5, 10), (5, 11), (5, 12)] [33, 34, 35, 67, 68, 69, 70, 71, 72, 73, 74, 75, 76, 77, 78, 79, 80, 81, 82, 83, 84, 85] V V284 := agV241.tr ajV284 (by decide) (by decide)
            replace zlZ286 : ZL Z Z286 := zlZ286
            have zoZ286 : ZL Z Z286 := ZL.tr zoZ zlZ286
            have ziZ286 := zlZ286.1
            have zjZ286 := zlZ286.2.1
            have zkZ286 := zlZ286.2.2.1
            have zmZ286 := zoZ286.1
            have znZ286 := zoZ286.2.1
            have zpZ_Z286 := zoZ.1
            have zqZ_Z286 := zoZ.2.1
            have y282 : H.size ≤ Hk276.size + (zcc Z - zcc Z286) := by rw [hHk276]; exact y282
            have y283 : tot H ≤ tot Hk276 + (zss Z - zss Z286) := by rw [hHk276]; exact y283
            refine W.tight (k := zcc Z - zcc Z286) (n := zss Z - zss Z286) (by first | exact tg9 y282 k277 zlZ286.1 zoZ.1 | omega) (by first | exact tg9 y283 k278 zlZ286.2.1 zoZ.2.1 | omega) ?_
            have hl : lv_has ls 2 [(0, .ref (ad 5)), (1, .ref (Z286.fa gf))] := by rw [zlZ286.2.2.2.2 gf hgf]; exact hl
            replace t288 : MJ V284 Z286 b := t288
            replace t289 : RW V284 gB (stM gB (gm, ga, gfr :: gr)) := t289
            refine W.know (fun kr1 kr2 => ?_)
            refine W.widen (k := zcc Z) (n := zss Z) (Nat.sub_le _ _) (Nat.sub_le _ _) ?_
            exact W.vret hx hb hr (fun t ht hW => ⟨⟨(V284, L, Z286), rfl, ⟨hMV284, agV284, rfl, zoZ286, t288, t289⟩, ⟨by rw [ht]; exact hP, va_K.moved hW.alike hK, hD⟩, by rw [ht]; exact kr1, by rw [ht]; exact kr2⟩, hS.F ht⟩) hS.2.2 dX5_goOnInside_63
          · skip
            have f290 : ((V 68 gf)).toInt = 4 := b_eq rfl (by decide) c256
            exfalso; (first | exact om_77e149f5a598 k68 f290 | omega)
        · skip
          have f291 : ((V 68 gf)).toInt = 1 := b_eq rfl (by decide) c239
          exfalso; (first | exact om_4178dede369b k68 f291 | omega)
    · skip
      have f292 : ((V 68 gf)).toInt = 0 := b_eq rfl (by decide) c200
      exfalso; (first | exact om_c204c3821207 k68 f292 | omega)
