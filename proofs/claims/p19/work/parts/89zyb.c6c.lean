section

abbrev r_x_nextCandidate9 : Room := { frames := 2, cells := 0, slots := 0, locals := 53 }
abbrev q_x_nextCandidate9 (D : va_G) (ks : KS) (ad : Nat → Nat) (kk : Nat → ClassId) (V : Vf) (L : Lf) (Z : XZ) (b : Nat) (gf : Nat) (gB : Bk) (A : Nat → Prop) : Array Value → State → Outcome → State → Prop := va_Qi (fun (r : Int32) (u : Vf × Lf) => rgd bX u.1 ∧ agr [] [75, 76] V u.1 ∧ u.2 = L ∧ ((-1) ≤ r.toInt ∧ r.toInt ≤ 23) ∧ (Imp (0 ≤ r.toInt) (MO u.1 Z b gf True True True)) ∧ (MO u.1 Z b gf False False False) ∧ ((r.toInt = -1 ∧ nxC gB (V 71 gf).toInt.toNat 9 (V 75 gf).toInt.toNat (V 76 gf).toInt.toNat = none) ∨ (0 ≤ r.toInt ∧ nxC gB (V 71 gf).toInt.toNat 9 (V 75 gf).toInt.toNat (V 76 gf).toInt.toNat = some ((u.1 75 gf).toInt.toNat, r.toInt.toNat) ∧ (u.1 76 gf).toInt = r.toInt + 1)) ∧ (ME V u.1 gf)) (fun u t => gq D A (xw ad kk u.1 u.2 Z) (xty kk Z) t) A
set_option maxHeartbeats 4000000 in
set_option maxRecDepth 100000 in
theorem x_nextCandidate9 (l : Launch) (D : va_G) (ks : KS) (sz : Nat) (ad : Nat → Nat) (kk : Nat → ClassId) (V : Vf) (L : Lf) (Z : XZ) (b : Nat) (gf : Nat) (gB : Bk) (hMV : rgd bX V) (hb2 : b < 2) (hgf : gf < Z.nf) (mo : MO V Z b gf False False False) (gd : (gf : Int) + 1 = (V 5 6).toInt) (gk : (V 67 gf).toInt = 1) (gph : (V 68 gf).toInt ≠ 1) (bc : BKc V b gB) (nc0 : 0 ≤ (V 71 gf).toInt) (nc1 : (V 71 gf).toInt < ((nC gB : Nat) : Int))  : Met l yX5_nextCandidate (Cond.code yX5_nextCandidate cX5_nextCandidate 7 (some .int) :: GW) r_x_nextCandidate9 (va_Pc [.ref (ad 5), .ref (Z.fa gf)] (gp D ks (xw ad kk V L Z) (xty kk Z) sz)) (q_x_nextCandidate9 D ks ad kk V L Z  b gf gB (va_A (xw ad kk V L Z) sz)) 0 0 (va_A (xw ad kk V L Z) sz) := by
  refine g_met (q_x_nextCandidate9 D ks ad kk V L Z  b gf gB) (by decide) (Nat.le_of_ble_eq_true rfl) ?_
  intro p e s m below meth c A ls H locs hx hb hr hml hown hg hlocks hin hnw hgk hP hK hD hS hA hl
  replace hown : s.vm.findClass RX5 = some m.cls := hown
  replace hl : lv_has ls 7 [(0, .ref (ad 5)), (1, .ref (Z.fa gf))] := hl
  replace hP : va_P D vwCl (xw ad kk V L Z) H := hP
  replace hD : va_D A (xw ad kk V L Z) := hD
  replace hK : va_K D vwCl (xty kk Z) s := hK
  have agV : agr [] [75, 76] V V := agr.rf
  have r1 : 0 ≤ ((V 5 6)).toInt ∧ ((V 5 6)).toInt ≤ 400 := hMV 5 6
  have kdp := i_clamp (x := V 5 6) rfl (by (first | exact om_c66f1b494bd9 gd | omega))
  have hdn : (gf : Int) + 1 ≤ (Z.nf : Int) := by (first | exact om_29efded833ec hgf | omega)
  have mup := MO.up mo
  have msz := mup.1
  have mbk := mup.2.2.2.1
  obtain ⟨xk, fk⟩ := MO.fk mo
  have r2 : (-1) ≤ ((V 71 gf)).toInt ∧ ((V 71 gf)).toInt ≤ 23 := hMV 71 gf
  have r3 : 0 ≤ ((V 75 gf)).toInt ∧ ((V 75 gf)).toInt ≤ 12 := hMV 75 gf
  have r4 : 0 ≤ ((V 80 gf)).toInt ∧ ((V 80 gf)).toInt ≤ 300 := hMV 80 gf
  have r5 : 0 ≤ ((V 84 gf)).toInt ∧ ((V 84 gf)).toInt ≤ 2147483647 := hMV 84 gf
  have r6 : 0 ≤ ((V 5 8)).toInt ∧ ((V 5 8)).toInt ≤ 300 := hMV 5 8
  have r7 : 0 ≤ ((V 5 9)).toInt ∧ ((V 5 9)).toInt ≤ 3 := hMV 5 9
  have r8 : 0 ≤ ((V 3 13)).toInt ∧ ((V 3 13)).toInt ≤ 300 := hMV 3 13
  have r9 : 0 ≤ ((V 43 (5 * b + 2))).toInt ∧ ((V 43 (5 * b + 2))).toInt ≤ ((xcap (5 * b + 2) : Nat) : Int) := hMV 43 (5 * b + 2)
  have r10 : xcap (5 * b + 2) = 24 := xcap_2
  have r11 : 0 ≤ ((V 41 b)).toInt ∧ ((V 41 b)).toInt ≤ 12 := hMV 41 b
  have r12 : 0 ≤ ((V 42 b)).toInt ∧ ((V 42 b)).toInt ≤ 8200 := hMV 42 b
  have fc := fk.1 (by omega)
  have fo := fk.2.1 (by omega) (by omega)
  have fi := fk.2.2.2.2.1 (by omega)
  refine lv_aload_n hx hb dX5_nextCandidate_0 rfl (lv_at hl 0 rfl) ?_
  refine va_get (D := D) (ci := 5) (v := .ref (ad (38 + Int32.toNatClampNeg (V 5 5)))) (fs := (xfMachine ad V L Z)) (C := RX5) (T := TX5) (N := 15) hx hb hg inX5 hown hK hP 5 xgMachine rfl 5 (by decide) (hg _ w672) (fun _ h9 => h9) rfl dX5_nextCandidate_1 ?_
  have r13 : 0 ≤ ((V 5 5)).toInt ∧ ((V 5 5)).toInt ≤ 1 := hMV 5 5
  refine g_topv (v := .ref (ad (38 + b))) (rfP (by first | omega | ((try (have i_bc := Imp.go bc (by omega))); (try (have i_mo := Imp.go mo (by omega))); (try (have i_mo := Imp.go mo (by omega))); (try (have i_bc := Imp.go bc (by omega))); omega))) ?_
  refine va_getN (D := D) (ci := 0) (v := .ref (ad (64 + b))) (fs := (xfBook ad V b)) (C := RX0) (T := TX0) (N := 13) hx hb hg inX0 hown hK hP (38 + b) (xgBook hb2) rfl 7 (by decide) (hnw.use 618 n618 rfl) (fun _ h9 => h9) rfl dX5_nextCandidate_4 ?_
  refine lv_aload_n hx hb dX5_nextCandidate_7 rfl (lv_at hl 1 rfl) ?_
  refine va_getN (D := D) (ci := 4) (v := .int (V 71 gf)) (fs := (xfFrame V gf)) (C := RX4) (T := TX4) (N := 19) hx hb hg inX4 hown hK hP (336 + gf) (xgFrame hgf) rfl 4 (by decide) (hnw.use 1193 n1193 rfl) (fun _ h9 => h9) rfl dX5_nextCandidate_8 ?_
  have il14 : b < 2 := by first | exact om_f940a4667dd6 hb2 | first | omega | ((try (have i_bc := Imp.go bc (by omega))); (try (have i_mo := Imp.go mo (by omega))); (try (have i_mo := Imp.go mo (by omega))); (try (have i_bc := Imp.go bc (by omega))); omega)
  refine va_aldq (D := D) (i := (V 71 gf)) hx hb hK hP (64 + b) (57 + b) (xgcomps il14) (xtcomps il14) (i_in (a := ((V 71 gf)).toInt) rfl (by first | exact om_dbb25e99819b nc0 r2.2 | first | omega | ((try (have i_bc := Imp.go bc (by omega))); (try (have i_mo := Imp.go mo (by omega))); (try (have i_mo := Imp.go mo (by omega))); (try (have i_bc := Imp.go bc (by omega))); omega))) dX5_nextCandidate_11 ?_
  have kc15 := i_clamp (x := (V 71 gf)) rfl (by first | exact om_eafa9039069c nc0 | first | omega | ((try (have i_bc := Imp.go bc (by omega))); (try (have i_mo := Imp.go mo (by omega))); (try (have i_mo := Imp.go mo (by omega))); (try (have i_bc := Imp.go bc (by omega))); omega))
  refine g_topv (v := .ref (ad (72 + (24 * b + (Int32.toNatClampNeg (V 71 gf)))))) (congrArg va_rf (if_pos (by first | omega | ((try (have i_bc := Imp.go bc (by omega))); (try (have i_mo := Imp.go mo (by omega))); (try (have i_mo := Imp.go mo (by omega))); (try (have i_bc := Imp.go bc (by omega))); omega)))) ?_
  have il16 : (24 * b + (Int32.toNatClampNeg (V 71 gf))) < 48 := by first | exact om_31a61188bc78 hb2 r2.2 kc15 | first | omega | ((try (have i_bc := Imp.go bc (by omega))); (try (have i_mo := Imp.go mo (by omega))); (try (have i_mo := Imp.go mo (by omega))); (try (have i_bc := Imp.go bc (by omega))); omega)
  refine lv_astore_n (lv' := [(2, .ref (ad (72 + (24 * b + (Int32.toNatClampNeg (V 71 gf)))))), (0, .ref (ad 5)), (1, .ref (Z.fa gf))]) hx hb dX5_nextCandidate_12 rfl hl (by decide) rfl (fun ls hl => ?_)
  have lp18 : ∀ (fulp18 : Nat) (V17 : Vf) (H : Heap) (locs : List Loc) (ls : Array Slot), ME V V17 gf → (V 75 gf).toInt ≤ (V17 75 gf).toInt ∧ (V17 75 gf).toInt ≤ 8 → 0 ≤ (V17 76 gf).toInt ∧ (V17 76 gf).toInt ≤ 25 → 25 * (8 - (V17 75 gf).toInt) - (V17 76 gf).toInt ≤ 25 * (8 - (V 75 gf).toInt) - (V 76 gf).toInt → (nxC gB (V 71 gf).toInt.toNat 9 (V 75 gf).toInt.toNat (V 76 gf).toInt.toNat = nxC gB (V 71 gf).toInt.toNat 9 (V17 75 gf).toInt.toNat (V17 76 gf).toInt.toNat) → 8 - (V17 75 gf).toInt < (fulp18 : Int) → agr [] [75, 76] V V17 → rgd bX V17 → va_P D vwCl (xw ad kk V17 L Z) H → va_D A (xw ad kk V17 L Z) → va_S A s.heap H locs → lv_has ls 7 [(2, .ref (ad (72 + (24 * b + (Int32.toNatClampNeg (V 71 gf)))))), (0, .ref (ad 5)), (1, .ref (Z.fa gf))] → W p l e r_x_nextCandidate9 s m ([.ref (ad 5), .ref (Z.fa gf)] : List Value).toArray below meth c H locs 0 0 (MQ below (q_x_nextCandidate9 D ks ad kk V L Z  b gf gB A) ([.ref (ad 5), .ref (Z.fa gf)] : List Value).toArray s 0 0 A) (F0 m 13 ls []) := by
    intro fulp18
    induction fulp18 with
    | zero =>
      intro V17 H locs ls xlp18_0 xlp18_1 xlp18_2 xlp18_3 xlp18_4 hn ajV17 hMV17 hP hD hS hl
      exfalso; (first | exact om_e2d570575604 xlp18_1.2 hn | omega)
    | succ fulp18 ihlp18 =>
      intro V17 H locs ls xlp18_0 xlp18_1 xlp18_2 xlp18_3 xlp18_4 hn ajV17 hMV17 hP hD hS hl
      have agV17 : agr [] [75, 76] V V17 := agV.tr ajV17 (by decide) (by decide)
      have r19 : 0 ≤ ((V17 75 gf)).toInt ∧ ((V17 75 gf)).toInt ≤ 12 := hMV17 75 gf
      refine lv_aload_n hx hb dX5_nextCandidate_13 rfl (lv_at hl 2 rfl) ?_
      refine va_getN (D := D) (ci := 4) (v := .int (V17 75 gf)) (fs := (xfFrame V17 gf)) (C := RX4) (T := TX4) (N := 19) hx hb hg inX4 hown hK hP (336 + gf) (xgFrame hgf) rfl 8 (by decide) (hnw.use 1197 n1197 rfl) (fun _ h9 => h9) rfl dX5_nextCandidate_14 ?_
      refine lv_aload_n hx hb dX5_nextCandidate_17 rfl (lv_at hl 0 rfl) ?_
      refine va_getN (D := D) (ci := 3) (v := .int (V17 49 (24 * b + (Int32.toNatClampNeg (V 71 gf))))) (fs := (xfComp ad V17 (24 * b + (Int32.toNatClampNeg (V 71 gf))))) (C := RX3) (T := TX3) (N := 13) hx hb hg inX3 hown hK hP (72 + (24 * b + (Int32.toNatClampNeg (V 71 gf)))) (xgComp il16) rfl 4 (by decide) (hnw.use 514 n514 rfl) (fun _ h9 => h9) rfl dX5_nextCandidate_18 ?_
      refine g_top (v := (V 49 (24 * b + (Int32.toNatClampNeg (V 71 gf))))) (ajV17 49 (24 * b + (Int32.toNatClampNeg (V 71 gf))) rfl) ?_
      have r20 : 0 ≤ ((V 49 (24 * b + (Int32.toNatClampNeg (V 71 gf))))).toInt ∧ ((V 49 (24 * b + (Int32.toNatClampNeg (V 71 gf))))).toInt ≤ 8 := hMV 49 (24 * b + (Int32.toNatClampNeg (V 71 gf)))
      refine lv_icmp_ge (tgt := 123) hx hb dX5_nextCandidate_21 (by decide) (fun c21 => ?_) (fun c21 => ?_)
      · skip
        have f22 : ((V 49 (24 * b + (Int32.toNatClampNeg (V 71 gf))))).toInt ≤ ((V17 75 gf)).toInt := b_le rfl rfl c21
        refine lv_iconst (v := (-1)) hx hb dX5_nextCandidate_123 (by decide) ?_
        have me23 : ME V V17 gf := (ME.tr ME.rf xlp18_0)
        have pq24 : (V17 67 gf).toInt = ((V 67 gf)).toInt := congrArg Int32.toInt (ajV17 67 gf rfl)
        have pq25 : (V17 68 gf).toInt = ((V 68 gf)).toInt := congrArg Int32.toInt (ajV17 68 gf rfl)
        have pq26 : (V17 70 gf).toInt = ((V 70 gf)).toInt := congrArg Int32.toInt (ajV17 70 gf rfl)
        have pq27 : (V17 71 gf).toInt = ((V 71 gf)).toInt := congrArg Int32.toInt (ajV17 71 gf rfl)
        have pq28 : (V17 80 gf).toInt = ((V 80 gf)).toInt := congrArg Int32.toInt (ajV17 80 gf rfl)
        have pq29 : (V17 84 gf).toInt = ((V 84 gf)).toInt := congrArg Int32.toInt (ajV17 84 gf rfl)
        have pq30 : (V17 5 6).toInt = ((V 5 6)).toInt := congrArg Int32.toInt (ajV17 5 6 rfl)
        have pq31 : (V17 5 8).toInt = ((V 5 8)).toInt := congrArg Int32.toInt (ajV17 5 8 rfl)
        have pq32 : (V17 5 9).toInt = ((V 5 9)).toInt := congrArg Int32.toInt (ajV17 5 9 rfl)
        have pq33 : (V17 3 13).toInt = ((V 3 13)).toInt := congrArg Int32.toInt (ajV17 3 13 rfl)
        have pq34 : (V17 43 (5 * b + 2)).toInt = ((V 43 (5 * b + 2))).toInt := congrArg Int32.toInt (ajV17 43 (5 * b + 2) rfl)
        have pq35 : (V17 42 b).toInt = ((V 42 b)).toInt := congrArg Int32.toInt (ajV17 42 b rfl)
        have pq36 : (V17 41 b).toInt = ((V 41 b)).toInt := congrArg Int32.toInt (ajV17 41 b rfl)
        have mo37 : MO V17 Z b gf False False False := MO.ch mo me23 (ajV17 67 gf rfl) (ajV17 80 gf rfl) (fun _ => Or.inl (by omega)) (fun x h => FK.nx h (by omega) (by omega) (by omega) (by omega) (by omega) (by omega) (by omega) (by omega) (fun z => z.elim))
        have co8 : (V 49 (24 * b + Int32.toNatClampNeg (V 71 gf))).toInt = ((gB.1.1 (66 + 8 * Int32.toNatClampNeg (V 71 gf)) : Nat) : Int) := (bc.2.2.2.1.2.2 (Int32.toNatClampNeg (V 71 gf)) (by have h8 : (V 43 (5 * b + 2)).toInt = (((gB.1.2.1 2).length : Nat) : Int) := bc.2.2.2.1.1; have h9 := i_clamp (x := V 71 gf) rfl (by (first | exact om_eafa9039069c nc0 | omega)); omega)).2.1
        have me38 : ME V V17 gf := (ME.tr ME.rf xlp18_0)
        exact W.iret (v := (-1)) hx hb hr (fun t ht hW => ⟨⟨(-1), (V17, L), rfl, ⟨hMV17, agV17, rfl, (by decide), (Imp.mk (fun hp => absurd hp (by decide))), mo37, (Or.inl ⟨rfl, xlp18_4.trans (nxC_e (show gB.1.1 (66 + 8 * Int32.toNatClampNeg (V 71 gf)) ≤ (V17 75 gf).toInt.toNat from by omega))⟩), me38⟩, by rw [ht]; exact hP, va_K.moved hW.alike hK, hD⟩, hS.F ht⟩) hS.2.2 dX5_nextCandidate_124
      · skip
        have f39 : ((V17 75 gf)).toInt < ((V 49 (24 * b + (Int32.toNatClampNeg (V 71 gf))))).toInt := b_nle rfl rfl c21
        have pq40 : (V17 43 (5 * b + 2)).toInt = ((V 43 (5 * b + 2))).toInt := congrArg Int32.toInt (ajV17 43 (5 * b + 2) rfl)
        have ln9 : (V 43 (5 * b + 2)).toInt = (((gB.1.2.1 2).length : Nat) : Int) := bc.2.2.2.1.1
        have n24 : (gB.1.2.1 2).length ≤ 24 := bc.2.2.2.1.2.1
        have wh := bc.2.2.2.2.2.2.1.1
        have ky9 := i_clamp (x := V 71 gf) rfl (by (first | exact om_eafa9039069c nc0 | omega))
        have kj9 := i_clamp (x := (V17 75 gf)) rfl (by (first | exact om_eafa9039069c r19.1 | omega))
        have gk9 : (Int32.toNatClampNeg (V 71 gf)) < (gB.1.2.1 2).length := by omega
        have co9 := bc.2.2.2.1.2.2 (Int32.toNatClampNeg (V 71 gf)) gk9
        have h49 : (V 49 (24 * b + (Int32.toNatClampNeg (V 71 gf)))).toInt = ((gB.1.1 (66 + 8 * (Int32.toNatClampNeg (V 71 gf))) : Nat) : Int) := co9.2.1
        have h48 := co9.2.2.1
        have gj9 : (Int32.toNatClampNeg (V17 75 gf)) < gB.1.1 (66 + 8 * (Int32.toNatClampNeg (V 71 gf))) := by omega
        have ne9 := co9.2.2.2 (Int32.toNatClampNeg (V17 75 gf)) gj9
        have n60 : (V 60 (8 * (24 * b + (Int32.toNatClampNeg (V 71 gf))) + (Int32.toNatClampNeg (V17 75 gf)))).toInt = ((bK gB (Int32.toNatClampNeg (V 71 gf)) (Int32.toNatClampNeg (V17 75 gf)) : Nat) : Int) := ne9.2.1
        have bn9 : (V17 75 gf).toInt.toNat < bN gB (V 71 gf).toInt.toNat := gj9
        refine lv_aload_n hx hb dX5_nextCandidate_24 rfl (lv_at hl 0 rfl) ?_
        refine va_getN (D := D) (ci := 3) (v := .ref (ad (216 + (24 * b + (Int32.toNatClampNeg (V 71 gf)))))) (fs := (xfComp ad V17 (24 * b + (Int32.toNatClampNeg (V 71 gf))))) (C := RX3) (T := TX3) (N := 13) hx hb hg inX3 hown hK hP (72 + (24 * b + (Int32.toNatClampNeg (V 71 gf)))) (xgComp il16) rfl 2 (by decide) (hnw.use 506 n506 rfl) (fun _ h9 => h9) rfl dX5_nextCandidate_25 ?_
        refine lv_aload_n hx hb dX5_nextCandidate_28 rfl (lv_at hl 2 rfl) ?_
        refine va_getN (D := D) (ci := 4) (v := .int (V17 75 gf)) (fs := (xfFrame V17 gf)) (C := RX4) (T := TX4) (N := 19) hx hb hg inX4 hown hK hP (336 + gf) (xgFrame hgf) rfl 8 (by decide) (hnw.use 1197 n1197 rfl) (fun _ h9 => h9) rfl dX5_nextCandidate_29 ?_
        have il41 : (24 * b + (Int32.toNatClampNeg (V 71 gf))) < 48 := by first | exact om_31a61188bc78 hb2 r2.2 kc15 | first | omega | ((try (have i_bc := Imp.go bc (by omega))); (try (have i_mo := Imp.go mo (by omega))); (try (have i_mo := Imp.go mo (by omega))); (try (have i_bc := Imp.go bc (by omega))); omega)
        refine va_iald (D := D) (i := (V17 75 gf)) hx hb hK hP (216 + (24 * b + (Int32.toNatClampNeg (V 71 gf)))) (209 + (24 * b + (Int32.toNatClampNeg (V 71 gf)))) (xgneedKinds il41) (xtneedKinds il41) (i_in (a := ((V17 75 gf)).toInt) rfl (by first | omega | ((try (have i_bc := Imp.go bc (by omega))); (try (have i_mo := Imp.go mo (by omega))); (try (have i_mo := Imp.go mo (by omega))); (try (have i_bc := Imp.go bc (by omega))); omega))) dX5_nextCandidate_32 ?_
        have kc42 := i_clamp (x := (V17 75 gf)) rfl (by first | exact om_eafa9039069c r19.1 | first | omega | ((try (have i_bc := Imp.go bc (by omega))); (try (have i_mo := Imp.go mo (by omega))); (try (have i_mo := Imp.go mo (by omega))); (try (have i_bc := Imp.go bc (by omega))); omega))
        refine g_top (v := V17 60 (8 * (24 * b + (Int32.toNatClampNeg (V 71 gf))) + (Int32.toNatClampNeg (V17 75 gf)))) (if_pos (by first | omega | ((try (have i_bc := Imp.go bc (by omega))); (try (have i_mo := Imp.go mo (by omega))); (try (have i_mo := Imp.go mo (by omega))); (try (have i_bc := Imp.go bc (by omega))); omega))) ?_
        refine g_top (v := (V 60 (8 * (24 * b + (Int32.toNatClampNeg (V 71 gf))) + (Int32.toNatClampNeg (V17 75 gf))))) (ajV17 60 (8 * (24 * b + (Int32.toNatClampNeg (V 71 gf))) + (Int32.toNatClampNeg (V17 75 gf))) rfl) ?_
        refine lv_iconst (v := 1) hx hb dX5_nextCandidate_33 (by decide) ?_
        refine lv_icmp_ne (tgt := 41) hx hb dX5_nextCandidate_34 (by decide) (fun c43 => ?_) (fun c43 => ?_)
        · skip
          have f44 : ((V 60 (8 * (24 * b + (Int32.toNatClampNeg (V 71 gf))) + (Int32.toNatClampNeg (V17 75 gf))))).toInt ≠ 1 := b_neq rfl (by decide) c43
          refine lv_iconst (v := 0) hx hb dX5_nextCandidate_41 (by decide) ?_
          refine lv_istore_n (lv' := [(3, .int 0), (2, .ref (ad (72 + (24 * b + (Int32.toNatClampNeg (V 71 gf)))))), (0, .ref (ad 5)), (1, .ref (Z.fa gf))]) hx hb dX5_nextCandidate_42 rfl hl (by decide) rfl (fun ls hl => ?_)
          refine lv_iload_n hx hb dX5_nextCandidate_43 rfl (lv_at hl 0 rfl) ?_
          refine lv_if_eq (tgt := 51) hx hb dX5_nextCandidate_44 (by decide) (fun _ => ?_) (fun q => absurd (by decide) q)
          refine lv_aload_n hx hb dX5_nextCandidate_51 rfl (lv_at hl 2 rfl) ?_
          refine va_get (D := D) (ci := 5) (v := .ref (ad (38 + Int32.toNatClampNeg (V17 5 5)))) (fs := (xfMachine ad V17 L Z)) (C := RX5) (T := TX5) (N := 15) hx hb hg inX5 hown hK hP 5 xgMachine rfl 5 (by decide) (hg _ w672) (fun _ h9 => h9) rfl dX5_nextCandidate_52 ?_
          have pq45 : (V17 5 5).toInt = ((V 5 5)).toInt := congrArg Int32.toInt (ajV17 5 5 rfl)
          refine g_topv (v := .ref (ad (38 + b))) (rfP (by first | omega | ((try (have i_bc := Imp.go bc (by omega))); (try (have i_mo := Imp.go mo (by omega))); (try (have i_mo := Imp.go mo (by omega))); (try (have i_bc := Imp.go bc (by omega))); omega))) ?_
          refine lv_aload_n hx hb dX5_nextCandidate_55 rfl (lv_at hl 3 rfl) ?_
          refine va_getN (D := D) (ci := 4) (v := .int (V17 71 gf)) (fs := (xfFrame V17 gf)) (C := RX4) (T := TX4) (N := 19) hx hb hg inX4 hown hK hP (336 + gf) (xgFrame hgf) rfl 4 (by decide) (hnw.use 1193 n1193 rfl) (fun _ h9 => h9) rfl dX5_nextCandidate_56 ?_
          refine g_top (v := (V 71 gf)) (ajV17 71 gf rfl) ?_
          refine lv_aload_n hx hb dX5_nextCandidate_59 rfl (lv_at hl 3 rfl) ?_
          refine va_getN (D := D) (ci := 4) (v := .int (V17 75 gf)) (fs := (xfFrame V17 gf)) (C := RX4) (T := TX4) (N := 19) hx hb hg inX4 hown hK hP (336 + gf) (xgFrame hgf) rfl 8 (by decide) (hnw.use 1197 n1197 rfl) (fun _ h9 => h9) rfl dX5_nextCandidate_60 ?_
          have me46 : ME V V17 gf := (ME.tr ME.rf xlp18_0)
          have bc47 : BKc V17 b gB := BKc.be bc me46.1
          refine gA_int (gA_runV (As := [.int (V 71 gf), .int (V17 75 gf)]) (rest := []) (ci := 0) (q0 := (38 + b)) hx hb hml hown hg hP hD hK hS hA hnw hgk (x_candidates5 l D ks H.size ad kk V17 L Z (V 71 gf) (V17 75 gf) (b) (gB.1) ((Int32.toNatClampNeg (V 71 gf))) ((Int32.toNatClampNeg (V17 75 gf))) hMV17 (by first | exact om_d3435e1acec6 nc0 r2.2 | first | omega | ((try (have i_bc := Imp.go bc (by omega))); (try (have i_mo := Imp.go mo (by omega))); (try (have i_mo := Imp.go mo (by omega))); (try (have i_bc := Imp.go bc (by omega))); omega)) (by first | exact om_45aa31722d3e r19.1 r20.2 f39 | first | omega | ((try (have i_bc := Imp.go bc (by omega))); (try (have i_mo := Imp.go mo (by omega))); (try (have i_mo := Imp.go mo (by omega))); (try (have i_bc := Imp.go bc (by omega))); omega)) (show b < 2 from by first | exact om_f940a4667dd6 hb2 | first | omega | ((try (have i_bc := Imp.go bc (by omega))); (try (have i_mo := Imp.go mo (by omega))); (try (have i_mo := Imp.go mo (by omega))); (try (have i_bc := Imp.go bc (by omega))); omega)) (show ((V 71 gf)).toInt = ((Int32.toNatClampNeg (V 71 gf)) : Int) from by first | exact om_dadc9969542e kc15 | first | omega | ((try (have i_bc := Imp.go bc (by omega))); (try (have i_mo := Imp.go mo (by omega))); (try (have i_mo := Imp.go mo (by omega))); (try (have i_bc := Imp.go bc (by omega))); omega)) (show ((V17 75 gf)).toInt = ((Int32.toNatClampNeg (V17 75 gf)) : Int) from by first | exact om_dadc9969542e kc42 | first | omega | ((try (have i_bc := Imp.go bc (by omega))); (try (have i_mo := Imp.go mo (by omega))); (try (have i_mo := Imp.go mo (by omega))); (try (have i_bc := Imp.go bc (by omega))); omega)) (bc47).2.2.2.1.2.2 wh gk9 gj9 (show (V17 43 (5 * b + 2)).toInt = ((((gB.1).2.1 2).length : Nat) : Int) from by first | omega | ((try (have i_bc := Imp.go bc (by omega))); (try (have i_mo := Imp.go mo (by omega))); (try (have i_mo := Imp.go mo (by omega))); (try (have i_bc := Imp.go bc (by omega))); omega))) w1374 w1082 w1083 w167 w1084 rfl (xgBook hb2) hdV_yX0_candidates ⟨Nat.le_of_ble_eq_true rfl, Nat.le_of_ble_eq_true rfl⟩ rfl hl.1 rfl (Nat.le_of_ble_eq_true rfl) dX5_nextCandidate_63 ⟨Nat.le_of_ble_eq_true rfl, Nat.le_of_ble_eq_true rfl⟩) hP hD hK hS hA (fun z48 u49 H locs w50 hP hD hK hS => ?_)
          obtain ⟨rgz48, t51⟩ := w50
          replace rgz48 : 0 ≤ z48.toInt ∧ z48.toInt ≤ 16777215 := rgz48
          replace t51 : FND z48 (gB.1).1 (svc V17 b ((gB.1).2.1 1).length) ((gB.1).1 (301 + 32 * (Int32.toNatClampNeg (V 71 gf)) + 4 * (Int32.toNatClampNeg (V17 75 gf)))) ((gB.1).1 (300 + 32 * (Int32.toNatClampNeg (V 71 gf)) + 4 * (Int32.toNatClampNeg (V17 75 gf)))) ((gB.1).1 (302 + 32 * (Int32.toNatClampNeg (V 71 gf)) + 4 * (Int32.toNatClampNeg (V17 75 gf)))) ((gB.1).2.1 2).length := t51
          refine lv_istore (lv' := [(4, .int z48), (3, .int 0), (2, .ref (ad (72 + (24 * b + (Int32.toNatClampNeg (V 71 gf)))))), (0, .ref (ad 5)), (1, .ref (Z.fa gf))]) hx hb dX5_nextCandidate_66 hl (by decide) rfl (fun ls hl => ?_)
          have kk8 : bK gB (V 71 gf).toInt.toNat (V17 75 gf).toInt.toNat = bK gB (Int32.toNatClampNeg (V 71 gf)) (Int32.toNatClampNeg (V17 75 gf)) := rfl
          have me52 : ME V V17 gf := (ME.tr ME.rf xlp18_0)
          have bc53 : BKc V17 b gB := BKc.be bc me52.1
          have sb9 : SBL z48 (if bK gB (V 71 gf).toInt.toNat (V17 75 gf).toInt.toNat = 1 then [] else bC gB (V 71 gf).toInt.toNat (V17 75 gf).toInt.toNat) := by rw [if_neg (by rw [kk8]; omega)]; exact SBL.of (by have h9 := t51; rw [BKc.sv bc53] at h9; exact h9) (by omega) n24
          refine lv_iload hx hb dX5_nextCandidate_68 (lv_at hl 0 rfl) ?_
          refine lv_aload_n hx hb dX5_nextCandidate_70 rfl (lv_at hl 4 rfl) ?_
          refine va_getN (D := D) (ci := 4) (v := .int (V17 76 gf)) (fs := (xfFrame V17 gf)) (C := RX4) (T := TX4) (N := 19) hx hb hg inX4 hown hK hP (336 + gf) (xgFrame hgf) rfl 9 (by decide) (hnw.use 1198 n1198 rfl) (fun _ h9 => h9) rfl dX5_nextCandidate_71 ?_
          refine lv_iushr hx hb dX5_nextCandidate_74 rfl ?_
          refine lv_topi (fun z54 ez54 => ?_)
          have hu24 : (V17 76 gf).toInt < 24 → 0 ≤ z54.toInt ∧ z54.toInt < ((2 ^ (24 - (V17 76 gf).toInt.toNat) : Nat) : Int) := fun h => ushr_24 ez54 (show 0 ≤ z48.toInt ∧ z48.toInt < 16777216 from by (first | exact om_3142f42e06e3 rgz48.1 rgz48.2 | omega)) ⟨by omega, h⟩
          have hu0 : 24 ≤ (V17 76 gf).toInt → z54.toInt = 0 := fun h => ushr_0 ez54 (show 0 ≤ z48.toInt ∧ z48.toInt < 16777216 from by (first | exact om_3142f42e06e3 rgz48.1 rgz48.2 | omega)) ⟨h, by omega⟩
          refine lv_istore (lv' := [(5, .int z54), (4, .int z48), (3, .int 0), (2, .ref (ad (72 + (24 * b + (Int32.toNatClampNeg (V 71 gf)))))), (0, .ref (ad 5)), (1, .ref (Z.fa gf))]) hx hb dX5_nextCandidate_75 hl (by decide) rfl (fun ls hl => ?_)
          have us9 := ushr_s ez54 (show 0 ≤ z48.toInt from by (first | exact om_eafa9039069c rgz48.1 | omega)) (k := (V17 76 gf).toInt.toNat) (show (V17 76 gf).toInt = (((V17 76 gf).toInt.toNat : Nat) : Int) from by (first | exact om_bb68b85f87a5 xlp18_2.1 | omega)) (by omega)
          have sh9 : SHx (if bK gB (V 71 gf).toInt.toNat (V17 75 gf).toInt.toNat = 1 then [] else bC gB (V 71 gf).toInt.toNat (V17 75 gf).toInt.toNat) (V17 76 gf).toInt.toNat z54 := SBL.shx sb9 us9.1 us9.2.1
          have ul9 := us9.2.2
          have uz9 := us9.2.1
          have ub9 := sb9.1
          clear us9
          refine lv_iload hx hb dX5_nextCandidate_77 (lv_at hl 0 rfl) ?_
          refine lv_if_eq (tgt := 105) hx hb dX5_nextCandidate_79 (by decide) (fun c55 => ?_) (fun c55 => ?_)
          · skip
            have f56 : z54.toInt = 0 := b_eq rfl (by decide) c55
            refine lv_aload_n hx hb dX5_nextCandidate_105 rfl (lv_at hl 5 rfl) ?_
            refine lv_dup hx hb dX5_nextCandidate_106 rfl ?_
            refine va_getN (D := D) (ci := 4) (v := .int (V17 75 gf)) (fs := (xfFrame V17 gf)) (C := RX4) (T := TX4) (N := 19) hx hb hg inX4 hown hK hP (336 + gf) (xgFrame hgf) rfl 8 (by decide) (hnw.use 1197 n1197 rfl) (fun _ h9 => h9) rfl dX5_nextCandidate_107 ?_
            refine lv_iconst (v := 1) hx hb dX5_nextCandidate_110 (by decide) ?_
            refine lv_iadd hx hb dX5_nextCandidate_111 ?_
            refine lv_topi (fun z57 ez57 => ?_)
            have hz57 : z57.toInt = ((V17 75 gf)).toInt + 1 := i_add ez57 rfl (by decide) (by (first | exact om_56ff1e099a1d r19.1 r20.2 f39 | omega))
            refine va_putN (D := D) (ci := 4) (v := .int z57) (ty := tyX4 8) (fs := (xfFrame V17 gf)) (C := RX4) (T := TX4) (N := 19) hx hb hg inX4 tyX4 tyX4_ok nmX4 hown hK hP hD hS (336 + gf) (xgFrame hgf) rfl 8 (by decide) (hnw.use 1197 n1197 rfl) (fun _ h9 => h9) rfl (tyX4_ok 8 (by decide)) rfl rfl (Nat.le_of_ble_eq_true rfl) dX5_nextCandidate_112 (fun H locs hP hD hS => ?_)
            obtain ⟨V58, hV58⟩ : ∃ z, z = up2 V17 75 gf z57 := ⟨_, rfl⟩
            have ew59 : (xw ad kk V17 L Z).set (336 + gf) ((Z.fa gf), .inr (4, (xfFrame V17 gf).set 8 (.int z57))) = xw ad kk V58 L Z := by rw [hV58]; exact xpFrame_position hgf
            have hP : va_P D vwCl (xw ad kk V58 L Z) H := by rw [← ew59]; exact hP
            have hD : va_D A (xw ad kk V58 L Z) := by rw [← ew59]; exact hD
            have hMV58 : rgd bX V58 := hMV17.put hV58 (show 0 ≤ z57.toInt ∧ z57.toInt ≤ 12 from by first | exact om_a43fe9ef6d7f r19.1 r20.2 f39 hz57 | first | omega | ((try (have i_bc := Imp.go bc (by omega))); (try (have i_mo := Imp.go mo (by omega))); (try (have i_mo := Imp.go mo (by omega))); (try (have i_bc := Imp.go bc (by omega))); omega))
            have agV58 : agr [] [75, 76] V V58 := agV17.up hV58 rfl
            refine lv_aload_n hx hb dX5_nextCandidate_115 rfl (lv_at hl 5 rfl) ?_
            refine lv_iconst (v := 0) hx hb dX5_nextCandidate_116 (by decide) ?_
            refine va_putN (D := D) (ci := 4) (v := .int 0) (ty := tyX4 9) (fs := (xfFrame V58 gf)) (C := RX4) (T := TX4) (N := 19) hx hb hg inX4 tyX4 tyX4_ok nmX4 hown hK hP hD hS (336 + gf) (xgFrame hgf) rfl 9 (by decide) (hnw.use 1198 n1198 rfl) (fun _ h9 => h9) rfl (tyX4_ok 9 (by decide)) rfl rfl (Nat.le_of_ble_eq_true rfl) dX5_nextCandidate_117 (fun H locs hP hD hS => ?_)
            obtain ⟨V60, hV60⟩ : ∃ z, z = up2 V58 76 gf 0 := ⟨_, rfl⟩
            have ew61 : (xw ad kk V58 L Z).set (336 + gf) ((Z.fa gf), .inr (4, (xfFrame V58 gf).set 9 (.int 0))) = xw ad kk V60 L Z := by rw [hV60]; exact xpFrame_item hgf
            have hP : va_P D vwCl (xw ad kk V60 L Z) H := by rw [← ew61]; exact hP
            have hD : va_D A (xw ad kk V60 L Z) := by rw [← ew61]; exact hD
            have hMV60 : rgd bX V60 := hMV58.put hV60 (i_full _)
            have agV60 : agr [] [75, 76] V V60 := agV58.up hV60 rfl
            refine lv_goto (tgt := 13) hx hb dX5_nextCandidate_120 (by decide) ?_
            have r62 : Int32.toInt 0 = 0 := by decide
            have pq63 : (V60 75 gf).toInt = z57.toInt := congrArg Int32.toInt ((up2_o hV60 (by decide)).trans (up2_s hV58))
            have pq64 : (V60 76 gf).toInt = 0 := (congrArg Int32.toInt (up2_s hV60)).trans (by decide)
            have me65 : ME V V60 gf := (ME.up (ME.up (ME.tr ME.rf xlp18_0) hV58 (Or.inl ⟨by decide, by decide, Nat.le_refl _⟩)) hV60 (Or.inl ⟨by decide, by decide, Nat.le_refl _⟩))
            exact ihlp18 V60 H locs ls me65 (show (V 75 gf).toInt ≤ (V60 75 gf).toInt ∧ (V60 75 gf).toInt ≤ 8 from by first | exact om_157c73f4d754 xlp18_1.1 r20.2 f39 hz57 pq63 | first | omega | ((try (have i_bc := Imp.go bc (by omega))); (try (have i_mo := Imp.go mo (by omega))); (try (have i_mo := Imp.go mo (by omega))); (try (have i_bc := Imp.go bc (by omega))); omega)) (show 0 ≤ (V60 76 gf).toInt ∧ (V60 76 gf).toInt ≤ 25 from by first | exact om_f0ec0da15ce4 pq64 | first | omega | ((try (have i_bc := Imp.go bc (by omega))); (try (have i_mo := Imp.go mo (by omega))); (try (have i_mo := Imp.go mo (by omega))); (try (have i_bc := Imp.go bc (by omega))); omega)) (show 25 * (8 - (V60 75 gf).toInt) - (V60 76 gf).toInt ≤ 25 * (8 - (V 75 gf).toInt) - (V 76 gf).toInt from by first | exact om_f4ecaeba4d96 xlp18_2.2 xlp18_3 hz57 pq63 pq64 | first | omega | ((try (have i_bc := Imp.go bc (by omega))); (try (have i_mo := Imp.go mo (by omega))); (try (have i_mo := Imp.go mo (by omega))); (try (have i_bc := Imp.go bc (by omega))); omega)) (by rw [show (V60 75 gf).toInt.toNat = (V17 75 gf).toInt.toNat + 1 from by omega, show (V60 76 gf).toInt.toNat = 0 from by rw [(up2_s hV60)]; decide]; exact xlp18_4.trans (nxC_n bn9 (by (first | exact om_7e4bf5516ec4 r19.1 r20.2 f39 | omega)) (SHx.n sh9 (by (first | exact om_b66ba74381d5 f56 | omega))))) (by first | exact om_1e21532676d6 hn hz57 pq63 | first | omega | ((try (have i_bc := Imp.go bc (by omega))); (try (have i_mo := Imp.go mo (by omega))); (try (have i_mo := Imp.go mo (by omega))); (try (have i_bc := Imp.go bc (by omega))); omega)) (agr.up (agr.up (agr.tr agr.rf ajV17 (by decide) (by decide)) hV58 rfl) hV60 rfl) hMV60 hP hD hS (lv_sub hl [3, 4, 5] rfl)
          · skip
            have f66 : z54.toInt ≠ 0 := b_neq rfl (by decide) c55
            have hit : (V17 76 gf).toInt < 24 := by rcases Int.lt_or_le (V17 76 gf).toInt 24 with h | h; exact h; have q := hu0 h; omega
            have hz24 := hu24 hit
            obtain ⟨d9, fd9, dl9, lob9⟩ := SHx.y sh9 (by omega)
            refine lv_aload_n hx hb dX5_nextCandidate_82 rfl (lv_at hl 5 rfl) ?_
            refine va_getN (D := D) (ci := 4) (v := .int (V17 76 gf)) (fs := (xfFrame V17 gf)) (C := RX4) (T := TX4) (N := 19) hx hb hg inX4 hown hK hP (336 + gf) (xgFrame hgf) rfl 9 (by decide) (hnw.use 1198 n1198 rfl) (fun _ h9 => h9) rfl dX5_nextCandidate_83 ?_
            refine lv_iload hx hb dX5_nextCandidate_86 (lv_at hl 0 rfl) ?_
            refine gE_int (g_runS (As := [.int z54]) (rest := [.int (V17 76 gf)]) (wc := []) (tc := []) hx hb hml hown hg gw_self hP hD hK hS hA hnw hgk [] [] (by decide) rfl rfl (x_nTZ10 l D ks H.size z54 ((d9 - (V17 76 gf).toInt.toNat)) (by first | omega | ((try (have i_bc := Imp.go bc (by omega))); (try (have i_mo := Imp.go mo (by omega))); (try (have i_mo := Imp.go mo (by omega))); (try (have i_bc := Imp.go bc (by omega))); omega)) lob9) w1375 w1143 w175 w1144 hdS_yJ6_numberOfTrailingZeros_0f7a4 ⟨Nat.le_of_ble_eq_true rfl, Nat.le_of_ble_eq_true rfl⟩ rfl hl.1 rfl (Nat.le_of_ble_eq_true rfl) dX5_nextCandidate_88 ⟨Nat.le_of_ble_eq_true rfl, Nat.le_of_ble_eq_true rfl⟩) hP hD hK hS hA (fun z67 u68 H locs w69 hP hD hK hS => ?_)
            obtain ⟨rgz67, t70⟩ := w69
            replace rgz67 : 0 ≤ z67.toInt ∧ z67.toInt ≤ 32 := rgz67
            replace t70 : z67.toInt = (((d9 - (V17 76 gf).toInt.toNat) : Nat) : Int) := t70
            refine lv_iadd hx hb dX5_nextCandidate_91 ?_
            refine lv_topi (fun z71 ez71 => ?_)
            have hz71 : z71.toInt = ((V17 76 gf)).toInt + z67.toInt := i_add ez71 rfl rfl (by (first | exact om_7820ea5c7df8 xlp18_2.1 hit rgz67.1 rgz67.2 | omega))
            refine lv_istore (lv' := [(6, .int z71), (5, .int z54), (4, .int z48), (3, .int 0), (2, .ref (ad (72 + (24 * b + (Int32.toNatClampNeg (V 71 gf)))))), (0, .ref (ad 5)), (1, .ref (Z.fa gf))]) hx hb dX5_nextCandidate_92 hl (by decide) rfl (fun ls hl => ?_)
            refine lv_aload_n hx hb dX5_nextCandidate_94 rfl (lv_at hl 6 rfl) ?_
            refine lv_iload hx hb dX5_nextCandidate_95 (lv_at hl 0 rfl) ?_
            refine lv_iconst (v := 1) hx hb dX5_nextCandidate_97 (by decide) ?_
            refine lv_iadd hx hb dX5_nextCandidate_98 ?_
            refine lv_topi (fun z72 ez72 => ?_)
            have hz72 : z72.toInt = z71.toInt + 1 := i_add ez72 rfl (by decide) (by (first | exact om_2780df997877 xlp18_2.1 hit rgz67.1 rgz67.2 hz71 | omega))
            refine va_putN (D := D) (ci := 4) (v := .int z72) (ty := tyX4 9) (fs := (xfFrame V17 gf)) (C := RX4) (T := TX4) (N := 19) hx hb hg inX4 tyX4 tyX4_ok nmX4 hown hK hP hD hS (336 + gf) (xgFrame hgf) rfl 9 (by decide) (hnw.use 1198 n1198 rfl) (fun _ h9 => h9) rfl (tyX4_ok 9 (by decide)) rfl rfl (Nat.le_of_ble_eq_true rfl) dX5_nextCandidate_99 (fun H locs hP hD hS => ?_)
            obtain ⟨V73, hV73⟩ : ∃ z, z = up2 V17 76 gf z72 := ⟨_, rfl⟩
            have ew74 : (xw ad kk V17 L Z).set (336 + gf) ((Z.fa gf), .inr (4, (xfFrame V17 gf).set 9 (.int z72))) = xw ad kk V73 L Z := by rw [hV73]; exact xpFrame_item hgf
            have hP : va_P D vwCl (xw ad kk V73 L Z) H := by rw [← ew74]; exact hP
            have hD : va_D A (xw ad kk V73 L Z) := by rw [← ew74]; exact hD
            have hMV73 : rgd bX V73 := hMV17.put hV73 (i_full _)
            have agV73 : agr [] [75, 76] V V73 := agV17.up hV73 rfl
            refine lv_iload hx hb dX5_nextCandidate_102 (lv_at hl 0 rfl) ?_
            have me75 : ME V V73 gf := (ME.up (ME.tr ME.rf xlp18_0) hV73 (Or.inl ⟨by decide, by decide, Nat.le_refl _⟩))
            have pq76 : (V73 67 gf).toInt = ((V 67 gf)).toInt := congrArg Int32.toInt ((up2_o hV73 (by decide)).trans (ajV17 67 gf rfl))
            have pq77 : (V73 68 gf).toInt = ((V 68 gf)).toInt := congrArg Int32.toInt ((up2_o hV73 (by decide)).trans (ajV17 68 gf rfl))
            have pq78 : (V73 70 gf).toInt = ((V 70 gf)).toInt := congrArg Int32.toInt ((up2_o hV73 (by decide)).trans (ajV17 70 gf rfl))
            have pq79 : (V73 71 gf).toInt = ((V 71 gf)).toInt := congrArg Int32.toInt ((up2_o hV73 (by decide)).trans (ajV17 71 gf rfl))
            have pq80 : (V73 75 gf).toInt = ((V17 75 gf)).toInt := congrArg Int32.toInt (up2_o hV73 (by decide))
            have pq81 : (V73 76 gf).toInt = z72.toInt := congrArg Int32.toInt (up2_s hV73)
            have pq82 : (V73 80 gf).toInt = ((V 80 gf)).toInt := congrArg Int32.toInt ((up2_o hV73 (by decide)).trans (ajV17 80 gf rfl))
            have pq83 : (V73 84 gf).toInt = ((V 84 gf)).toInt := congrArg Int32.toInt ((up2_o hV73 (by decide)).trans (ajV17 84 gf rfl))
            have pq84 : (V73 5 6).toInt = ((V 5 6)).toInt := congrArg Int32.toInt ((up2_o hV73 (by decide)).trans (ajV17 5 6 rfl))
            have pq85 : (V73 5 8).toInt = ((V 5 8)).toInt := congrArg Int32.toInt ((up2_o hV73 (by decide)).trans (ajV17 5 8 rfl))
            have pq86 : (V73 5 9).toInt = ((V 5 9)).toInt := congrArg Int32.toInt ((up2_o hV73 (by decide)).trans (ajV17 5 9 rfl))
            have pq87 : (V73 3 13).toInt = ((V 3 13)).toInt := congrArg Int32.toInt ((up2_o hV73 (by decide)).trans (ajV17 3 13 rfl))
            have pq88 : (V73 43 (5 * b + 2)).toInt = ((V 43 (5 * b + 2))).toInt := congrArg Int32.toInt ((up2_o hV73 (by decide)).trans (ajV17 43 (5 * b + 2) rfl))
            have pq89 : (V73 42 b).toInt = ((V 42 b)).toInt := congrArg Int32.toInt ((up2_o hV73 (by decide)).trans (ajV17 42 b rfl))
            have pq90 : (V73 41 b).toInt = ((V 41 b)).toInt := congrArg Int32.toInt ((up2_o hV73 (by decide)).trans (ajV17 41 b rfl))
            have mo91 : MO V73 Z b gf True True True := MO.ch mo me75 ((up2_o hV73 (by decide)).trans (ajV17 67 gf rfl)) ((up2_o hV73 (by decide)).trans (ajV17 80 gf rfl)) (fun _ => Or.inl (by omega)) (fun x h => FK.nx h (by omega) (by omega) (by omega) (by omega) (by omega) (by omega) (by omega) (by omega) (fun _ => ⟨by omega, by omega⟩))
            have me92 : ME V V73 gf := (ME.up (ME.tr ME.rf xlp18_0) hV73 (Or.inl ⟨by decide, by decide, Nat.le_refl _⟩))
            have mo93 : MO V73 Z b gf False False False := MO.ch mo me92 ((up2_o hV73 (by decide)).trans (ajV17 67 gf rfl)) ((up2_o hV73 (by decide)).trans (ajV17 80 gf rfl)) (fun _ => Or.inl (by omega)) (fun x h => FK.nx h (by omega) (by omega) (by omega) (by omega) (by omega) (by omega) (by omega) (by omega) (fun z => z.elim))
            have me94 : ME V V73 gf := (ME.up (ME.tr ME.rf xlp18_0) hV73 (Or.inl ⟨by decide, by decide, Nat.le_refl _⟩))
            exact W.iret (v := z71) hx hb hr (fun t ht hW => ⟨⟨z71, (V73, L), rfl, ⟨hMV73, agV73, rfl, (show (-1) ≤ z71.toInt ∧ z71.toInt ≤ 23 from by first | omega | ((try (have i_bc := Imp.go bc (by omega))); (try (have i_mo := Imp.go mo (by omega))); (try (have i_mo := Imp.go mo (by omega))); (try (have i_bc := Imp.go bc (by omega))); omega)), (Imp.mk (fun _ => mo91)), mo93, (Or.inr ⟨by omega, (by rw [show (V73 75 gf).toInt.toNat = (V17 75 gf).toInt.toNat from by omega, show z71.toInt.toNat = d9 from by omega]; exact xlp18_4.trans (nxC_c bn9 (by (first | exact om_7e4bf5516ec4 r19.1 r20.2 f39 | omega)) fd9)), (show (V73 76 gf).toInt = z71.toInt + 1 from by (first | exact om_689eeacb6d53 hz72 pq81 | omega))⟩), me94⟩, by rw [ht]; exact hP, va_K.moved hW.alike hK, hD⟩, hS.F ht⟩) hS.2.2 dX5_nextCandidate_104
        · skip
          have f95 : ((V 60 (8 * (24 * b + (Int32.toNatClampNeg (V 71 gf))) + (Int32.toNatClampNeg (V17 75 gf))))).toInt = 1 := b_eq rfl (by decide) c43
          refine lv_iconst (v := 1) hx hb dX5_nextCandidate_37 (by decide) ?_
          refine lv_goto (tgt := 42) hx hb dX5_nextCandidate_38 (by decide) ?_
          refine lv_istore_n (lv' := [(3, .int 1), (2, .ref (ad (72 + (24 * b + (Int32.toNatClampNeg (V 71 gf)))))), (0, .ref (ad 5)), (1, .ref (Z.fa gf))]) hx hb dX5_nextCandidate_42 rfl hl (by decide) rfl (fun ls hl => ?_)
          refine lv_iload_n hx hb dX5_nextCandidate_43 rfl (lv_at hl 0 rfl) ?_
          refine lv_if_eq (tgt := 51) hx hb dX5_nextCandidate_44 (by decide) (fun q => absurd q (by decide)) (fun _ => ?_)
          refine lv_iconst (v := 0) hx hb dX5_nextCandidate_47 (by decide) ?_
          refine lv_goto (tgt := 66) hx hb dX5_nextCandidate_48 (by decide) ?_
          refine lv_istore (lv' := [(4, .int 0), (3, .int 1), (2, .ref (ad (72 + (24 * b + (Int32.toNatClampNeg (V 71 gf)))))), (0, .ref (ad 5)), (1, .ref (Z.fa gf))]) hx hb dX5_nextCandidate_66 hl (by decide) rfl (fun ls hl => ?_)
          have kk8 : bK gB (V 71 gf).toInt.toNat (V17 75 gf).toInt.toNat = bK gB (Int32.toNatClampNeg (V 71 gf)) (Int32.toNatClampNeg (V17 75 gf)) := rfl
          have sb9 : SBL 0 (if bK gB (V 71 gf).toInt.toNat (V17 75 gf).toInt.toNat = 1 then [] else bC gB (V 71 gf).toInt.toNat (V17 75 gf).toInt.toNat) := by rw [if_pos (by rw [kk8]; omega)]; exact SBL.z
          refine lv_iload hx hb dX5_nextCandidate_68 (lv_at hl 0 rfl) ?_
          refine lv_aload_n hx hb dX5_nextCandidate_70 rfl (lv_at hl 4 rfl) ?_
          refine va_getN (D := D) (ci := 4) (v := .int (V17 76 gf)) (fs := (xfFrame V17 gf)) (C := RX4) (T := TX4) (N := 19) hx hb hg inX4 hown hK hP (336 + gf) (xgFrame hgf) rfl 9 (by decide) (hnw.use 1198 n1198 rfl) (fun _ h9 => h9) rfl dX5_nextCandidate_71 ?_
          refine lv_iushr hx hb dX5_nextCandidate_74 rfl ?_
          refine lv_topi (fun z96 ez96 => ?_)
          have hu24 : (V17 76 gf).toInt < 24 → 0 ≤ z96.toInt ∧ z96.toInt < ((2 ^ (24 - (V17 76 gf).toInt.toNat) : Nat) : Int) := fun h => ushr_24 ez96 (show 0 ≤ Int32.toInt 0 ∧ Int32.toInt 0 < 16777216 from by decide) ⟨by omega, h⟩
          have hu0 : 24 ≤ (V17 76 gf).toInt → z96.toInt = 0 := fun h => ushr_0 ez96 (show 0 ≤ Int32.toInt 0 ∧ Int32.toInt 0 < 16777216 from by decide) ⟨h, by omega⟩
          refine lv_istore (lv' := [(5, .int z96), (4, .int 0), (3, .int 1), (2, .ref (ad (72 + (24 * b + (Int32.toNatClampNeg (V 71 gf)))))), (0, .ref (ad 5)), (1, .ref (Z.fa gf))]) hx hb dX5_nextCandidate_75 hl (by decide) rfl (fun ls hl => ?_)
          have us9 := ushr_s ez96 (show 0 ≤ Int32.toInt 0 from by decide) (k := (V17 76 gf).toInt.toNat) (show (V17 76 gf).toInt = (((V17 76 gf).toInt.toNat : Nat) : Int) from by (first | exact om_bb68b85f87a5 xlp18_2.1 | omega)) (by omega)
          have sh9 : SHx (if bK gB (V 71 gf).toInt.toNat (V17 75 gf).toInt.toNat = 1 then [] else bC gB (V 71 gf).toInt.toNat (V17 75 gf).toInt.toNat) (V17 76 gf).toInt.toNat z96 := SBL.shx sb9 us9.1 us9.2.1
          have ul9 := us9.2.2
          have uz9 := us9.2.1
          have ub9 := sb9.1
          clear us9
          refine lv_iload hx hb dX5_nextCandidate_77 (lv_at hl 0 rfl) ?_
          refine lv_if_eq (tgt := 105) hx hb dX5_nextCandidate_79 (by decide) (fun c97 => ?_) (fun c97 => ?_)
          · skip
            have f98 : z96.toInt = 0 := b_eq rfl (by decide) c97
            refine lv_aload_n hx hb dX5_nextCandidate_105 rfl (lv_at hl 5 rfl) ?_
            refine lv_dup hx hb dX5_nextCandidate_106 rfl ?_
            refine va_getN (D := D) (ci := 4) (v := .int (V17 75 gf)) (fs := (xfFrame V17 gf)) (C := RX4) (T := TX4) (N := 19) hx hb hg inX4 hown hK hP (336 + gf) (xgFrame hgf) rfl 8 (by decide) (hnw.use 1197 n1197 rfl) (fun _ h9 => h9) rfl dX5_nextCandidate_107 ?_
            refine lv_iconst (v := 1) hx hb dX5_nextCandidate_110 (by decide) ?_
            refine lv_iadd hx hb dX5_nextCandidate_111 ?_
            refine lv_topi (fun z99 ez99 => ?_)
            have hz99 : z99.toInt = ((V17 75 gf)).toInt + 1 := i_add ez99 rfl (by decide) (by (first | exact om_56ff1e099a1d r19.1 r20.2 f39 | omega))
            refine va_putN (D := D) (ci := 4) (v := .int z99) (ty := tyX4 8) (fs := (xfFrame V17 gf)) (C := RX4) (T := TX4) (N := 19) hx hb hg inX4 tyX4 tyX4_ok nmX4 hown hK hP hD hS (336 + gf) (xgFrame hgf) rfl 8 (by decide) (hnw.use 1197 n1197 rfl) (fun _ h9 => h9) rfl (tyX4_ok 8 (by decide)) rfl rfl (Nat.le_of_ble_eq_true rfl) dX5_nextCandidate_112 (fun H locs hP hD hS => ?_)
            obtain ⟨V100, hV100⟩ : ∃ z, z = up2 V17 75 gf z99 := ⟨_, rfl⟩
            have ew101 : (xw ad kk V17 L Z).set (336 + gf) ((Z.fa gf), .inr (4, (xfFrame V17 gf).set 8 (.int z99))) = xw ad kk V100 L Z := by rw [hV100]; exact xpFrame_position hgf
            have hP : va_P D vwCl (xw ad kk V100 L Z) H := by rw [← ew101]; exact hP
            have hD : va_D A (xw ad kk V100 L Z) := by rw [← ew101]; exact hD
            have hMV100 : rgd bX V100 := hMV17.put hV100 (show 0 ≤ z99.toInt ∧ z99.toInt ≤ 12 from by first | exact om_a43fe9ef6d7f r19.1 r20.2 f39 hz99 | first | omega | ((try (have i_bc := Imp.go bc (by omega))); (try (have i_mo := Imp.go mo (by omega))); (try (have i_mo := Imp.go mo (by omega))); (try (have i_bc := Imp.go bc (by omega))); omega))
            have agV100 : agr [] [75, 76] V V100 := agV17.up hV100 rfl
            refine lv_aload_n hx hb dX5_nextCandidate_115 rfl (lv_at hl 5 rfl) ?_
            refine lv_iconst (v := 0) hx hb dX5_nextCandidate_116 (by decide) ?_
            refine va_putN (D := D) (ci := 4) (v := .int 0) (ty := tyX4 9) (fs := (xfFrame V100 gf)) (C := RX4) (T := TX4) (N := 19) hx hb hg inX4 tyX4 tyX4_ok nmX4 hown hK hP hD hS (336 + gf) (xgFrame hgf) rfl 9 (by decide) (hnw.use 1198 n1198 rfl) (fun _ h9 => h9) rfl (tyX4_ok 9 (by decide)) rfl rfl (Nat.le_of_ble_eq_true rfl) dX5_nextCandidate_117 (fun H locs hP hD hS => ?_)
            obtain ⟨V102, hV102⟩ : ∃ z, z = up2 V100 76 gf 0 := ⟨_, rfl⟩
            have ew103 : (xw ad kk V100 L Z).set (336 + gf) ((Z.fa gf), .inr (4, (xfFrame V100 gf).set 9 (.int 0))) = xw ad kk V102 L Z := by rw [hV102]; exact xpFrame_item hgf
            have hP : va_P D vwCl (xw ad kk V102 L Z) H := by rw [← ew103]; exact hP
            have hD : va_D A (xw ad kk V102 L Z) := by rw [← ew103]; exact hD
            have hMV102 : rgd bX V102 := hMV100.put hV102 (i_full _)
            have agV102 : agr [] [75, 76] V V102 := agV100.up hV102 rfl
            refine lv_goto (tgt := 13) hx hb dX5_nextCandidate_120 (by decide) ?_
            have r104 : Int32.toInt 0 = 0 := by decide
            have r105 : Int32.toInt 1 = 1 := by decide
            have pq106 : (V102 75 gf).toInt = z99.toInt := congrArg Int32.toInt ((up2_o hV102 (by decide)).trans (up2_s hV100))
            have pq107 : (V102 76 gf).toInt = 0 := (congrArg Int32.toInt (up2_s hV102)).trans (by decide)
            have me108 : ME V V102 gf := (ME.up (ME.up (ME.tr ME.rf xlp18_0) hV100 (Or.inl ⟨by decide, by decide, Nat.le_refl _⟩)) hV102 (Or.inl ⟨by decide, by decide, Nat.le_refl _⟩))
            exact ihlp18 V102 H locs ls me108 (show (V 75 gf).toInt ≤ (V102 75 gf).toInt ∧ (V102 75 gf).toInt ≤ 8 from by first | exact om_157c73f4d754 xlp18_1.1 r20.2 f39 hz99 pq106 | first | omega | ((try (have i_bc := Imp.go bc (by omega))); (try (have i_mo := Imp.go mo (by omega))); (try (have i_mo := Imp.go mo (by omega))); (try (have i_bc := Imp.go bc (by omega))); omega)) (show 0 ≤ (V102 76 gf).toInt ∧ (V102 76 gf).toInt ≤ 25 from by first | exact om_f0ec0da15ce4 pq107 | first | omega | ((try (have i_bc := Imp.go bc (by omega))); (try (have i_mo := Imp.go mo (by omega))); (try (have i_mo := Imp.go mo (by omega))); (try (have i_bc := Imp.go bc (by omega))); omega)) (show 25 * (8 - (V102 75 gf).toInt) - (V102 76 gf).toInt ≤ 25 * (8 - (V 75 gf).toInt) - (V 76 gf).toInt from by first | exact om_f4ecaeba4d96 xlp18_2.2 xlp18_3 hz99 pq106 pq107 | first | omega | ((try (have i_bc := Imp.go bc (by omega))); (try (have i_mo := Imp.go mo (by omega))); (try (have i_mo := Imp.go mo (by omega))); (try (have i_bc := Imp.go bc (by omega))); omega)) (by rw [show (V102 75 gf).toInt.toNat = (V17 75 gf).toInt.toNat + 1 from by omega, show (V102 76 gf).toInt.toNat = 0 from by rw [(up2_s hV102)]; decide]; exact xlp18_4.trans (nxC_n bn9 (by (first | exact om_7e4bf5516ec4 r19.1 r20.2 f39 | omega)) (SHx.n sh9 (by (first | exact om_b66ba74381d5 f98 | omega))))) (by first | exact om_1e21532676d6 hn hz99 pq106 | first | omega | ((try (have i_bc := Imp.go bc (by omega))); (try (have i_mo := Imp.go mo (by omega))); (try (have i_mo := Imp.go mo (by omega))); (try (have i_bc := Imp.go bc (by omega))); omega)) (agr.up (agr.up (agr.tr agr.rf ajV17 (by decide) (by decide)) hV100 rfl) hV102 rfl) hMV102 hP hD hS (lv_sub hl [3, 4, 5] rfl)
          · skip
            have f109 : z96.toInt ≠ 0 := b_neq rfl (by decide) c97
            have hit : (V17 76 gf).toInt < 24 := by rcases Int.lt_or_le (V17 76 gf).toInt 24 with h | h; exact h; have q := hu0 h; omega
            have hz24 := hu24 hit
            obtain ⟨d9, fd9, dl9, lob9⟩ := SHx.y sh9 (by omega)
            refine lv_aload_n hx hb dX5_nextCandidate_82 rfl (lv_at hl 5 rfl) ?_
            refine va_getN (D := D) (ci := 4) (v := .int (V17 76 gf)) (fs := (xfFrame V17 gf)) (C := RX4) (T := TX4) (N := 19) hx hb hg inX4 hown hK hP (336 + gf) (xgFrame hgf) rfl 9 (by decide) (hnw.use 1198 n1198 rfl) (fun _ h9 => h9) rfl dX5_nextCandidate_83 ?_
            refine lv_iload hx hb dX5_nextCandidate_86 (lv_at hl 0 rfl) ?_
            refine gE_int (g_runS (As := [.int z96]) (rest := [.int (V17 76 gf)]) (wc := []) (tc := []) hx hb hml hown hg gw_self hP hD hK hS hA hnw hgk [] [] (by decide) rfl rfl (x_nTZ10 l D ks H.size z96 ((d9 - (V17 76 gf).toInt.toNat)) (by first | omega | ((try (have i_bc := Imp.go bc (by omega))); (try (have i_mo := Imp.go mo (by omega))); (try (have i_mo := Imp.go mo (by omega))); (try (have i_bc := Imp.go bc (by omega))); omega)) lob9) w1375 w1143 w175 w1144 hdS_yJ6_numberOfTrailingZeros_0f7a4 ⟨Nat.le_of_ble_eq_true rfl, Nat.le_of_ble_eq_true rfl⟩ rfl hl.1 rfl (Nat.le_of_ble_eq_true rfl) dX5_nextCandidate_88 ⟨Nat.le_of_ble_eq_true rfl, Nat.le_of_ble_eq_true rfl⟩) hP hD hK hS hA (fun z110 u111 H locs w112 hP hD hK hS => ?_)
            obtain ⟨rgz110, t113⟩ := w112
            replace rgz110 : 0 ≤ z110.toInt ∧ z110.toInt ≤ 32 := rgz110
            replace t113 : z110.toInt = (((d9 - (V17 76 gf).toInt.toNat) : Nat) : Int) := t113
            refine lv_iadd hx hb dX5_nextCandidate_91 ?_
            refine lv_topi (fun z114 ez114 => ?_)
            have hz114 : z114.toInt = ((V17 76 gf)).toInt + z110.toInt := i_add ez114 rfl rfl (by (first | exact om_7820ea5c7df8 xlp18_2.1 hit rgz110.1 rgz110.2 | omega))
            refine lv_istore (lv' := [(6, .int z114), (5, .int z96), (4, .int 0), (3, .int 1), (2, .ref (ad (72 + (24 * b + (Int32.toNatClampNeg (V 71 gf)))))), (0, .ref (ad 5)), (1, .ref (Z.fa gf))]) hx hb dX5_nextCandidate_92 hl (by decide) rfl (fun ls hl => ?_)
            refine lv_aload_n hx hb dX5_nextCandidate_94 rfl (lv_at hl 6 rfl) ?_
            refine lv_iload hx hb dX5_nextCandidate_95 (lv_at hl 0 rfl) ?_
            refine lv_iconst (v := 1) hx hb dX5_nextCandidate_97 (by decide) ?_
            refine lv_iadd hx hb dX5_nextCandidate_98 ?_
            refine lv_topi (fun z115 ez115 => ?_)
            have hz115 : z115.toInt = z114.toInt + 1 := i_add ez115 rfl (by decide) (by (first | exact om_2780df997877 xlp18_2.1 hit rgz110.1 rgz110.2 hz114 | omega))
            refine va_putN (D := D) (ci := 4) (v := .int z115) (ty := tyX4 9) (fs := (xfFrame V17 gf)) (C := RX4) (T := TX4) (N := 19) hx hb hg inX4 tyX4 tyX4_ok nmX4 hown hK hP hD hS (336 + gf) (xgFrame hgf) rfl 9 (by decide) (hnw.use 1198 n1198 rfl) (fun _ h9 => h9) rfl (tyX4_ok 9 (by decide)) rfl rfl (Nat.le_of_ble_eq_true rfl) dX5_nextCandidate_99 (fun H locs hP hD hS => ?_)
            obtain ⟨V116, hV116⟩ : ∃ z, z = up2 V17 76 gf z115 := ⟨_, rfl⟩
            have ew117 : (xw ad kk V17 L Z).set (336 + gf) ((Z.fa gf), .inr (4, (xfFrame V17 gf).set 9 (.int z115))) = xw ad kk V116 L Z := by rw [hV116]; exact xpFrame_item hgf
            have hP : va_P D vwCl (xw ad kk V116 L Z) H := by rw [← ew117]; exact hP
            have hD : va_D A (xw ad kk V116 L Z) := by rw [← ew117]; exact hD
            have hMV116 : rgd bX V116 := hMV17.put hV116 (i_full _)
            have agV116 : agr [] [75, 76] V V116 := agV17.up hV116 rfl
            refine lv_iload hx hb dX5_nextCandidate_102 (lv_at hl 0 rfl) ?_
            have me118 : ME V V116 gf := (ME.up (ME.tr ME.rf xlp18_0) hV116 (Or.inl ⟨by decide, by decide, Nat.le_refl _⟩))
            have pq119 : (V116 67 gf).toInt = ((V 67 gf)).toInt := congrArg Int32.toInt ((up2_o hV116 (by decide)).trans (ajV17 67 gf rfl))
            have pq120 : (V116 68 gf).toInt = ((V 68 gf)).toInt := congrArg Int32.toInt ((up2_o hV116 (by decide)).trans (ajV17 68 gf rfl))
            have pq121 : (V116 70 gf).toInt = ((V 70 gf)).toInt := congrArg Int32.toInt ((up2_o hV116 (by decide)).trans (ajV17 70 gf rfl))
            have pq122 : (V116 71 gf).toInt = ((V 71 gf)).toInt := congrArg Int32.toInt ((up2_o hV116 (by decide)).trans (ajV17 71 gf rfl))
            have pq123 : (V116 75 gf).toInt = ((V17 75 gf)).toInt := congrArg Int32.toInt (up2_o hV116 (by decide))
            have pq124 : (V116 76 gf).toInt = z115.toInt := congrArg Int32.toInt (up2_s hV116)
            have pq125 : (V116 80 gf).toInt = ((V 80 gf)).toInt := congrArg Int32.toInt ((up2_o hV116 (by decide)).trans (ajV17 80 gf rfl))
            have pq126 : (V116 84 gf).toInt = ((V 84 gf)).toInt := congrArg Int32.toInt ((up2_o hV116 (by decide)).trans (ajV17 84 gf rfl))
            have pq127 : (V116 5 6).toInt = ((V 5 6)).toInt := congrArg Int32.toInt ((up2_o hV116 (by decide)).trans (ajV17 5 6 rfl))
            have pq128 : (V116 5 8).toInt = ((V 5 8)).toInt := congrArg Int32.toInt ((up2_o hV116 (by decide)).trans (ajV17 5 8 rfl))
            have pq129 : (V116 5 9).toInt = ((V 5 9)).toInt := congrArg Int32.toInt ((up2_o hV116 (by decide)).trans (ajV17 5 9 rfl))
            have pq130 : (V116 3 13).toInt = ((V 3 13)).toInt := congrArg Int32.toInt ((up2_o hV116 (by decide)).trans (ajV17 3 13 rfl))
            have pq131 : (V116 43 (5 * b + 2)).toInt = ((V 43 (5 * b + 2))).toInt := congrArg Int32.toInt ((up2_o hV116 (by decide)).trans (ajV17 43 (5 * b + 2) rfl))
            have pq132 : (V116 42 b).toInt = ((V 42 b)).toInt := congrArg Int32.toInt ((up2_o hV116 (by decide)).trans (ajV17 42 b rfl))
            have pq133 : (V116 41 b).toInt = ((V 41 b)).toInt := congrArg Int32.toInt ((up2_o hV116 (by decide)).trans (ajV17 41 b rfl))
            have mo134 : MO V116 Z b gf True True True := MO.ch mo me118 ((up2_o hV116 (by decide)).trans (ajV17 67 gf rfl)) ((up2_o hV116 (by decide)).trans (ajV17 80 gf rfl)) (fun _ => Or.inl (by omega)) (fun x h => FK.nx h (by omega) (by omega) (by omega) (by omega) (by omega) (by omega) (by omega) (by omega) (fun _ => ⟨by omega, by omega⟩))
            have me135 : ME V V116 gf := (ME.up (ME.tr ME.rf xlp18_0) hV116 (Or.inl ⟨by decide, by decide, Nat.le_refl _⟩))
            have mo136 : MO V116 Z b gf False False False := MO.ch mo me135 ((up2_o hV116 (by decide)).trans (ajV17 67 gf rfl)) ((up2_o hV116 (by decide)).trans (ajV17 80 gf rfl)) (fun _ => Or.inl (by omega)) (fun x h => FK.nx h (by omega) (by omega) (by omega) (by omega) (by omega) (by omega) (by omega) (by omega) (fun z => z.elim))
            have me137 : ME V V116 gf := (ME.up (ME.tr ME.rf xlp18_0) hV116 (Or.inl ⟨by decide, by decide, Nat.le_refl _⟩))
            exact W.iret (v := z114) hx hb hr (fun t ht hW => ⟨⟨z114, (V116, L), rfl, ⟨hMV116, agV116, rfl, (show (-1) ≤ z114.toInt ∧ z114.toInt ≤ 23 from by first | omega | ((try (have i_bc := Imp.go bc (by omega))); (try (have i_mo := Imp.go mo (by omega))); (try (have i_mo := Imp.go mo (by omega))); (try (have i_bc := Imp.go bc (by omega))); omega)), (Imp.mk (fun _ => mo134)), mo136, (Or.inr ⟨by omega, (by rw [show (V116 75 gf).toInt.toNat = (V17 75 gf).toInt.toNat from by omega, show z114.toInt.toNat = d9 from by omega]; exact xlp18_4.trans (nxC_c bn9 (by (first | exact om_7e4bf5516ec4 r19.1 r20.2 f39 | omega)) fd9)), (show (V116 76 gf).toInt = z114.toInt + 1 from by (first | exact om_689eeacb6d53 hz115 pq124 | omega))⟩), me137⟩, by rw [ht]; exact hP, va_K.moved hW.alike hK, hD⟩, hS.F ht⟩) hS.2.2 dX5_nextCandidate_104
  have me138 : ME V V gf := ME.rf
  exact lp18 ((8 - (V 75 gf).toInt + 1 : Int).toNat) V H locs ls me138 (show (V 75 gf).toInt ≤ (V 75 gf).toInt ∧ (V 75 gf).toInt ≤ 8 from by first | omega | ((try (have i_bc := Imp.go bc (by omega))); (try (have i_mo := Imp.go mo (by omega))); (try (have i_mo := Imp.go mo (by omega))); (try (have i_bc := Imp.go bc (by omega))); omega)) (show 0 ≤ (V 76 gf).toInt ∧ (V 76 gf).toInt ≤ 25 from by first | omega | ((try (have i_bc := Imp.go bc (by omega))); (try (have i_mo := Imp.go mo (by omega))); (try (have i_mo := Imp.go mo (by omega))); (try (have i_bc := Imp.go bc (by omega))); omega)) (show 25 * (8 - (V 75 gf).toInt) - (V 76 gf).toInt ≤ 25 * (8 - (V 75 gf).toInt) - (V 76 gf).toInt from by first | exact om_1d32fe7c388b | first | omega | ((try (have i_bc := Imp.go bc (by omega))); (try (have i_mo := Imp.go mo (by omega))); (try (have i_mo := Imp.go mo (by omega))); (try (have i_bc := Imp.go bc (by omega))); omega)) rfl (by first | exact om_a4cbf953e09c | first | omega | ((try (have i_bc := Imp.go bc (by omega))); (try (have i_mo := Imp.go mo (by omega))); (try (have i_mo := Imp.go mo (by omega))); (try (have i_bc := Imp.go bc (by omega))); omega)) agr.rf hMV hP hD hS (lv_sub hl [0, 1, 2] rfl)
abbrev r_x_join9 (Z : XZ) : Room := { frames := 2, cells := zcc Z, slots := zss Z, locals := 62 }
abbrev q_x_join9 (D : va_G) (ks : KS) (ad : Nat → Nat) (kk : Nat → ClassId) (V : Vf) (L : Lf) (Z : XZ) (p0 : Int32) (p1 : Int32) (p2 : Int32) (gow : Nat → Nat) (gl : List Int) (A : Nat → Prop) : Array Value → State → Outcome → State → Prop := qZv D (fun (u : Vf × Lf × XZ) => rgd bX u.1 ∧ agr [(3, 15)] [30, 31, 32] V u.1 ∧ u.2.1 = L ∧ ZL Z u.2.2 ∧ (JN V u.1 Z u.2.2 (8 * Int32.toNatClampNeg p0 + Int32.toNatClampNeg p1)) ∧ (JN9 V u.1 (8 * Int32.toNatClampNeg p0 + Int32.toNatClampNeg p1) (Int32.toNatClampNeg (V 3 15)) p2.toInt gl)) (fun u => xw ad kk u.1 u.2.1 u.2.2) (fun u => xty kk u.2.2) (fun u => zcc Z - zcc u.2.2) (fun u => zss Z - zss u.2.2) A
set_option maxHeartbeats 4000000 in
set_option maxRecDepth 100000 in
theorem x_join9 (l : Launch) (D : va_G) (ks : KS) (sz : Nat) (ad : Nat → Nat) (kk : Nat → ClassId) (V : Vf) (L : Lf) (Z : XZ) (p0 : Int32) (p1 : Int32) (p2 : Int32) (gow : Nat → Nat) (gl : List Int) (hMV : rgd bX V) (rg_p0 : 0 ≤ p0.toInt ∧ p0.toInt ≤ 299) (rg_p1 : 0 ≤ p1.toInt ∧ p1.toInt ≤ 7) (sl : SL V Z) (lnq : LN Z.ln) (hlc : (V 3 15).toInt ≤ 250000) (hob : p0.toInt < (V 3 13).toInt) (chn : CHN V gow (8 * Int32.toNatClampNeg p0 + Int32.toNatClampNeg p1) gl (V 30 (8 * Int32.toNatClampNeg p0 + Int32.toNatClampNeg p1)).toInt) (gll : ((gl.length : Nat) : Int) ≤ 23)  : Met l yX8_join (Cond.code yX8_join cX8_join 6 none :: GW) (r_x_join9 Z) (va_Pc [.ref (ad 3), .int p0, .int p1, .int p2] (gp D ks (xw ad kk V L Z) (xty kk Z) sz)) (q_x_join9 D ks ad kk V L Z p0 p1 p2 gow gl (va_A (xw ad kk V L Z) sz)) (zcc Z) (zss Z) (va_A (xw ad kk V L Z) sz) := by
  refine g_met (q_x_join9 D ks ad kk V L Z p0 p1 p2 gow gl) (by decide) (Nat.le_of_ble_eq_true rfl) ?_
  intro p e s m below meth c A ls H locs hx hb hr hml hown hg hlocks hin hnw hgk hP hK hD hS hA hl
  replace hown : s.vm.findClass RX8 = some m.cls := hown
  replace hl : lv_has ls 6 [(0, .ref (ad 3)), (1, .int p0), (2, .int p1), (3, .int p2)] := hl
  replace hP : va_P D vwCl (xw ad kk V L Z) H := hP
  replace hD : va_D A (xw ad kk V L Z) := hD
  replace hK : va_K D vwCl (xty kk Z) s := hK
  have agV : agr [(3, 15)] [30, 31, 32] V V := agr.rf
  have zoZ : ZL Z Z := ZL.rf
  refine W.know (fun ka kb => ?_)
  refine W.tight (k := zcc Z - zcc Z) (n := zss Z - zss Z) (by omega) (by omega) ?_
  have r1 : 0 ≤ ((V 3 15)).toInt ∧ ((V 3 15)).toInt ≤ 262144 := hMV 3 15
  have r2 : 0 ≤ ((V 3 13)).toInt ∧ ((V 3 13)).toInt ≤ 300 := hMV 3 13
  have hll := sl.2.1
  refine lv_aload_n hx hb dX8_join_0 rfl (lv_at hl 0 rfl) ?_
  refine va_get (D := D) (ci := 8) (v := .int (V 3 15)) (fs := (xfStock ad V L Z)) (C := RX8) (T := TX8) (N := 16) hx hb hg inX8 hown hK hP 3 xgStock rfl 15 (by decide) (hg _ w394) (fun _ h9 => h9) rfl dX8_join_1 ?_
  refine lv_aload_n hx hb dX8_join_4 rfl (lv_at hl 0 rfl) ?_
  refine va_get (D := D) (ci := 8) (v := .ref Z.l1) (fs := (xfStock ad V L Z)) (C := RX8) (T := TX8) (N := 16) hx hb hg inX8 hown hK hP 3 xgStock rfl 10 (by decide) (hg _ w388) (fun _ h9 => h9) rfl dX8_join_5 ?_
  refine va_alen (D := D) (v := nI (Z.ln)) hx hb hK hP 28 21 rfl rfl rfl dX8_join_8 ?_
  refine lv_topi (fun z4 ez4 => ?_)
  have r5 : z4.toInt = ((Z.ln : Nat) : Int) := by rw [ez4]; exact nI_toInt (by omega)
  refine lv_icmp_lt (tgt := 46) hx hb dX8_join_9 (by decide) (fun c6 => ?_) (fun c6 => ?_)
  · skip
    have f7 : ((V 3 15)).toInt < z4.toInt := b_lt rfl rfl c6
    have slx := sl
    have lnx := lnq
    have hltz : (V 3 15).toInt < (Z.ln : Int) := by (first | exact om_74393bacf057 r5 f7 | omega)
    have kl := i_clamp (x := V 3 15) rfl (by (first | exact om_eafa9039069c r1.1 | omega))
    have kp0 := i_clamp (x := p0) rfl (by (first | exact om_eafa9039069c rg_p0.1 | omega))
    have kp1 := i_clamp (x := p1) rfl (by (first | exact om_eafa9039069c rg_p1.1 | omega))
    have hch := slx.2.2.1 (Int32.toNatClampNeg p0) (Int32.toNatClampNeg p1) (by omega) (by omega)
    have gg9 := rf_g (V := V) (n := (Int32.toNatClampNeg (V 3 15)))
    have kn9 := i_clamp (x := V 3 15) rfl (by (first | exact om_eafa9039069c r1.1 | omega))
    refine lv_aload_n hx hb dX8_join_46 rfl (lv_at hl 0 rfl) ?_
    refine va_get (D := D) (ci := 8) (v := .ref Z.l1) (fs := (xfStock ad V L Z)) (C := RX8) (T := TX8) (N := 16) hx hb hg inX8 hown hK hP 3 xgStock rfl 10 (by decide) (hg _ w388) (fun _ h9 => h9) rfl dX8_join_47 ?_
    refine lv_aload_n hx hb dX8_join_50 rfl (lv_at hl 0 rfl) ?_
    refine va_get (D := D) (ci := 8) (v := .int (V 3 15)) (fs := (xfStock ad V L Z)) (C := RX8) (T := TX8) (N := 16) hx hb hg inX8 hown hK hP 3 xgStock rfl 15 (by decide) (hg _ w394) (fun _ h9 => h9) rfl dX8_join_51 ?_
    refine lv_iload_n hx hb dX8_join_54 rfl (lv_at hl 3 rfl) ?_
    refine va_iast (D := D) (i := (V 3 15)) (x := p2) hx hb hK hP hD hS 28 21 rfl rfl (i_in (a := ((V 3 15)).toInt) rfl (by omega)) dX8_join_55 (fun H locs hP hD hS => ?_)
    obtain ⟨V8, hV8⟩ : ∃ z, z = up2 V 31 (Int32.toNatClampNeg (V 3 15)) p2 := ⟨_, rfl⟩
    have ew9 : (xw ad kk V L Z).set 28 (Z.l1, .inl (Z.k1, Z.ln, .inl (upd (V 31) (Int32.toNatClampNeg (V 3 15)) p2))) = xw ad kk V8 L Z := by rw [hV8]; exact xw_ss (by decide) rfl (xb_si (by decide))
    have hP : va_P D vwCl (xw ad kk V8 L Z) H := by rw [← ew9]; exact hP
    have hD : va_D A (xw ad kk V8 L Z) := by rw [← ew9]; exact hD
    have hMV8 : rgd bX V8 := hMV.put hV8 (i_full _)
    have agV8 : agr [(3, 15)] [30, 31, 32] V V8 := agV.up hV8 rfl
    refine lv_aload_n hx hb dX8_join_56 rfl (lv_at hl 0 rfl) ?_
    refine va_get (D := D) (ci := 8) (v := .ref Z.l2) (fs := (xfStock ad V8 L Z)) (C := RX8) (T := TX8) (N := 16) hx hb hg inX8 hown hK hP 3 xgStock rfl 11 (by decide) (hg _ w389) (fun _ h9 => h9) rfl dX8_join_57 ?_
    refine lv_aload_n hx hb dX8_join_60 rfl (lv_at hl 0 rfl) ?_
    refine va_get (D := D) (ci := 8) (v := .int (V8 3 15)) (fs := (xfStock ad V8 L Z)) (C := RX8) (T := TX8) (N := 16) hx hb hg inX8 hown hK hP 3 xgStock rfl 15 (by decide) (hg _ w394) (fun _ h9 => h9) rfl dX8_join_61 ?_
    refine g_top (v := (V 3 15)) (up2_o hV8 (by decide)) ?_
    refine lv_iconst (v := (-1)) hx hb dX8_join_64 (by decide) ?_
    refine va_iast (D := D) (i := (V 3 15)) (x := (-1)) hx hb hK hP hD hS 29 22 rfl rfl (i_in (a := ((V 3 15)).toInt) rfl (by omega)) dX8_join_65 (fun H locs hP hD hS => ?_)
    obtain ⟨V10, hV10⟩ : ∃ z, z = up2 V8 32 (Int32.toNatClampNeg (V 3 15)) (-1) := ⟨_, rfl⟩
    have ew11 : (xw ad kk V8 L Z).set 29 (Z.l2, .inl (Z.k2, Z.ln, .inl (upd (V8 32) (Int32.toNatClampNeg (V 3 15)) (-1)))) = xw ad kk V10 L Z := by rw [hV10]; exact xw_ss (by decide) rfl (xb_si (by decide))
    have hP : va_P D vwCl (xw ad kk V10 L Z) H := by rw [← ew11]; exact hP
    have hD : va_D A (xw ad kk V10 L Z) := by rw [← ew11]; exact hD
    have hMV10 : rgd bX V10 := hMV8.put hV10 (show (-1) ≤ Int32.toInt (-1) ∧ Int32.toInt (-1) ≤ 262143 from by decide)
    have agV10 : agr [(3, 15)] [30, 31, 32] V V10 := agV8.up hV10 rfl
    refine lv_aload_n hx hb dX8_join_66 rfl (lv_at hl 0 rfl) ?_
    refine va_get (D := D) (ci := 8) (v := .ref (ad 27)) (fs := (xfStock ad V10 L Z)) (C := RX8) (T := TX8) (N := 16) hx hb hg inX8 hown hK hP 3 xgStock rfl 9 (by decide) (hg _ w387) (fun _ h9 => h9) rfl dX8_join_67 ?_
    refine lv_iload_n hx hb dX8_join_70 rfl (lv_at hl 1 rfl) ?_
    refine lv_bipush (v := 8) hx hb dX8_join_71 (by decide) ?_
    refine lv_imul hx hb dX8_join_73 ?_
    refine lv_topi (fun z12 ez12 => ?_)
    have hz12 : z12.toInt = p0.toInt * 8 := i_mul ez12 rfl (by decide) (by (first | exact om_d8eca449dd89 rg_p0.1 rg_p0.2 | omega))
    refine lv_iload_n hx hb dX8_join_74 rfl (lv_at hl 2 rfl) ?_
    refine lv_iadd hx hb dX8_join_75 ?_
    refine lv_topi (fun z13 ez13 => ?_)
    have hz13 : z13.toInt = z12.toInt + p1.toInt := i_add ez13 rfl rfl (by (first | exact om_582758b7b1c9 rg_p0.1 rg_p0.2 rg_p1.1 rg_p1.2 hz12 | omega))
    refine va_iald (D := D) (i := z13) hx hb hK hP 27 20 rfl rfl (i_in (a := z13.toInt) rfl (by (first | exact om_1416c74478ee rg_p0.1 rg_p0.2 rg_p1.1 rg_p1.2 hz12 hz13 | omega))) dX8_join_76 ?_
    refine g_top (v := (V 30 (Int32.toNatClampNeg z13))) ((up2_o hV10 (by decide)).trans (up2_o hV8 (by decide))) ?_
    have r14 : (-1) ≤ ((V 30 (Int32.toNatClampNeg z13))).toInt ∧ ((V 30 (Int32.toNatClampNeg z13))).toInt ≤ 262143 := hMV 30 (Int32.toNatClampNeg z13)
    refine lv_istore (lv' := [(4, .int (V 30 (Int32.toNatClampNeg z13))), (0, .ref (ad 3)), (1, .int p0), (2, .int p1), (3, .int p2)]) hx hb dX8_join_77 hl (by decide) rfl (fun ls hl => ?_)
    have kzz := i_clamp (x := z13) rfl (by (first | exact om_75abbf7b0b1b rg_p0.1 rg_p1.1 hz12 hz13 | omega))
    have hpl : Int32.toNatClampNeg z13 = 8 * Int32.toNatClampNeg p0 + Int32.toNatClampNeg p1 := by (first | exact om_19f77980e03c kp0 kp1 hz12 hz13 kzz | omega)
    have hch2 := hch
    rw [← hpl] at hch2
    refine lv_iload hx hb dX8_join_79 (lv_at hl 0 rfl) ?_
    refine lv_iconst (v := (-1)) hx hb dX8_join_81 (by decide) ?_
    refine lv_icmp_ne (tgt := 103) hx hb dX8_join_82 (by decide) (fun c15 => ?_) (fun c15 => ?_)
    · skip
      have f16 : ((V 30 (Int32.toNatClampNeg z13))).toInt ≠ (-1) := b_neq rfl (by decide) c15
      refine lv_iconst (v := 0) hx hb dX8_join_103 (by decide) ?_
      refine lv_istore (lv' := [(5, .int 0), (4, .int (V 30 (Int32.toNatClampNeg z13))), (0, .ref (ad 3)), (1, .int p0), (2, .int p1), (3, .int p2)]) hx hb dX8_join_104 hl (by decide) rfl (fun ls hl => ?_)
      have lp19 : ∀ (fulp19 : Nat) (y17 : Int32) (y18 : Int32) (H : Heap) (locs : List Loc) (ls : Array Slot), 0 ≤ y17.toInt ∧ y17.toInt ≤ 24 → 0 ≤ y18.toInt ∧ y18.toInt ≤ 262143 → y18.toInt < (V 3 15).toInt → (∃ l2 : List Int, l2 ≠ [] ∧ CHN V gow (8 * Int32.toNatClampNeg p0 + Int32.toNatClampNeg p1) l2 y18.toInt ∧ lstK V gl (V 30 (8 * Int32.toNatClampNeg p0 + Int32.toNatClampNeg p1)).toInt = lstK V l2 y18.toInt ∧ ((l2.length : Nat) : Int) + y17.toInt ≤ 23) → 24 - y17.toInt < (fulp19 : Int) → va_P D vwCl (xw ad kk V10 L Z) H → va_D A (xw ad kk V10 L Z) → va_S A s.heap H locs → lv_has ls 6 [(5, .int y17), (4, .int y18), (0, .ref (ad 3)), (1, .int p0), (2, .int p1), (3, .int p2)] → W p l e (r_x_join9 Z) s m ([.ref (ad 3), .int p0, .int p1, .int p2] : List Value).toArray below meth c H locs (zcc Z - zcc Z) (zss Z - zss Z) (MQ below (q_x_join9 D ks ad kk V L Z p0 p1 p2 gow gl A) ([.ref (ad 3), .int p0, .int p1, .int p2] : List Value).toArray s (zcc Z) (zss Z) A) (F0 m 106 ls []) := by
        intro fulp19
        induction fulp19 with
        | zero =>
          intro y17 y18 H locs ls klp19_0 klp19_1 xlp19_0 xlp19_1 hn  hP hD hS hl
          exfalso; (first | exact om_60d665989fb6 xlp19_1.2.2.2 hn | omega)
        | succ fulp19 ihlp19 =>
          intro y17 y18 H locs ls klp19_0 klp19_1 xlp19_0 xlp19_1 hn  hP hD hS hl
          refine lv_iload hx hb dX8_join_106 (lv_at hl 0 rfl) ?_
          refine lv_bipush (v := 24) hx hb dX8_join_108 (by decide) ?_
          refine lv_icmp_ge (tgt := 139) hx hb dX8_join_110 (by decide) (fun c20 => ?_) (fun c20 => ?_)
          · skip
            have f21 : 24 ≤ y17.toInt := b_le (by decide) rfl c20
            refine lv_aload_n hx hb dX8_join_139 rfl (lv_at hl 2 rfl) ?_
            refine va_get (D := D) (ci := 8) (v := .ref Z.l2) (fs := (xfStock ad V10 L Z)) (C := RX8) (T := TX8) (N := 16) hx hb hg inX8 hown hK hP 3 xgStock rfl 11 (by decide) (hg _ w389) (fun _ h9 => h9) rfl dX8_join_140 ?_
            refine lv_iload hx hb dX8_join_143 (lv_at hl 1 rfl) ?_
            refine lv_aload_n hx hb dX8_join_145 rfl (lv_at hl 2 rfl) ?_
            refine va_get (D := D) (ci := 8) (v := .int (V10 3 15)) (fs := (xfStock ad V10 L Z)) (C := RX8) (T := TX8) (N := 16) hx hb hg inX8 hown hK hP 3 xgStock rfl 15 (by decide) (hg _ w394) (fun _ h9 => h9) rfl dX8_join_146 ?_
            refine g_top (v := (V 3 15)) ((up2_o hV10 (by decide)).trans (up2_o hV8 (by decide))) ?_
            refine va_iast (D := D) (i := y18) (x := (V 3 15)) hx hb hK hP hD hS 29 22 rfl rfl (i_in (a := y18.toInt) rfl (by omega)) dX8_join_149 (fun H locs hP hD hS => ?_)
            obtain ⟨V22, hV22⟩ : ∃ z, z = up2 V10 32 (Int32.toNatClampNeg y18) (V 3 15) := ⟨_, rfl⟩
            have ew23 : (xw ad kk V10 L Z).set 29 (Z.l2, .inl (Z.k2, Z.ln, .inl (upd (V10 32) (Int32.toNatClampNeg y18) (V 3 15)))) = xw ad kk V22 L Z := by rw [hV22]; exact xw_ss (by decide) rfl (xb_si (by decide))
            have hP : va_P D vwCl (xw ad kk V22 L Z) H := by rw [← ew23]; exact hP
            have hD : va_D A (xw ad kk V22 L Z) := by rw [← ew23]; exact hD
            have hMV22 : rgd bX V22 := hMV10.put hV22 (show (-1) ≤ ((V 3 15)).toInt ∧ ((V 3 15)).toInt ≤ 262143 from by omega)
            have agV22 : agr [(3, 15)] [30, 31, 32] V V22 := agV10.up hV22 rfl
            refine lv_aload_n hx hb dX8_join_150 rfl (lv_at hl 2 rfl) ?_
            refine lv_dup hx hb dX8_join_151 rfl ?_
            refine va_get (D := D) (ci := 8) (v := .int (V22 3 15)) (fs := (xfStock ad V22 L Z)) (C := RX8) (T := TX8) (N := 16) hx hb hg inX8 hown hK hP 3 xgStock rfl 15 (by decide) (hg _ w394) (fun _ h9 => h9) rfl dX8_join_152 ?_
            refine g_top (v := (V 3 15)) ((up2_o hV22 (by decide)).trans ((up2_o hV10 (by decide)).trans (up2_o hV8 (by decide)))) ?_
            refine lv_iconst (v := 1) hx hb dX8_join_155 (by decide) ?_
            refine lv_iadd hx hb dX8_join_156 ?_
            refine lv_topi (fun z24 ez24 => ?_)
            have hz24 : z24.toInt = ((V 3 15)).toInt + 1 := i_add ez24 rfl (by decide) (by omega)
            refine va_put (D := D) (ci := 8) (v := .int z24) (ty := tyX8 15) (fs := (xfStock ad V22 L Z)) (C := RX8) (T := TX8) (N := 16) hx hb hg inX8 tyX8 tyX8_ok nmX8 hown hK hP hD hS 3 xgStock rfl 15 (by decide) (hg _ w394) (fun _ h9 => h9) rfl (tyX8_ok 15 (by decide)) rfl rfl (Nat.le_of_ble_eq_true rfl) dX8_join_157 (fun H locs hP hD hS => ?_)
            obtain ⟨V25, hV25⟩ : ∃ z, z = up2 V22 3 15 z24 := ⟨_, rfl⟩
            have ew26 : (xw ad kk V22 L Z).set 3 ((ad 3), .inr (8, (xfStock ad V22 L Z).set 15 (.int z24))) = xw ad kk V25 L Z := by rw [hV25]; exact xw_ss (by decide) rfl (xb_si (by decide))
            have hP : va_P D vwCl (xw ad kk V25 L Z) H := by rw [← ew26]; exact hP
            have hD : va_D A (xw ad kk V25 L Z) := by rw [← ew26]; exact hD
            have hMV25 : rgd bX V25 := hMV22.put hV25 (show 0 ≤ z24.toInt ∧ z24.toInt ≤ 262144 from by omega)
            have agV25 : agr [(3, 15)] [30, 31, 32] V V25 := agV22.up hV25 rfl
            have pq27 : (V25 3 15).toInt = z24.toInt := congrArg Int32.toInt (up2_s hV25)
            have kq28 := i_clamp (x := y18) rfl (by omega)
            have jn29 : JN V V25 Z Z (8 * Int32.toNatClampNeg p0 + Int32.toNatClampNeg p1) := JN.mk (l := Int32.toNatClampNeg (V 3 15)) slx lnx (by omega) (by omega) hV8 hV10 hV22 (by omega) hV25 (by omega) (Or.inr ⟨rfl, by omega, by rw [← hpl]; omega⟩)
            have el9 : lstK V gl (V 30 (8 * Int32.toNatClampNeg p0 + Int32.toNatClampNeg p1)).toInt = ((Int32.toNatClampNeg y18 : Nat) : Int) := by obtain ⟨l2, h1, h2, h3, h4⟩ := xlp19_1; exfalso; have h5 : l2.length ≠ 0 := fun h9 => h1 (List.length_eq_zero_iff.mp h9); omega
            refine W.know (fun kr1 kr2 => ?_)
            refine W.widen (k := zcc Z) (n := zss Z) (Nat.sub_le _ _) (Nat.sub_le _ _) ?_
            exact W.vret hx hb hr (fun t ht hW => ⟨⟨(V25, L, Z), rfl, ⟨hMV25, agV25, rfl, zoZ, jn29, (by have h9 := JN9.old (q := (8 * Int32.toNatClampNeg p0 + Int32.toNatClampNeg p1)) (l := gl) (v := p2.toInt) gg9.1 gg9.2 hV8 hV10 hV22 hV25 rfl (by omega) (by omega) (by rw [← hpl]; omega) el9 (by omega); exact h9)⟩, ⟨by rw [ht]; exact hP, va_K.moved hW.alike hK, hD⟩, by rw [ht]; exact kr1, by rw [ht]; exact kr2⟩, hS.F ht⟩) hS.2.2 dX8_join_160
          · skip
            have f30 : y17.toInt < 24 := b_nle (by decide) rfl c20
            have ky9 := i_clamp (x := y18) rfl (by (first | exact om_eafa9039069c klp19_1.1 | omega))
            have nx31 : V10 32 (Int32.toNatClampNeg y18) = V 32 y18.toInt.toNat := (up2_k hV10 (by omega)).trans ((up2_o hV8 (by decide)).trans (gg9.1 _ (by omega)).2)
            refine lv_aload_n hx hb dX8_join_113 rfl (lv_at hl 2 rfl) ?_
            refine va_get (D := D) (ci := 8) (v := .ref Z.l2) (fs := (xfStock ad V10 L Z)) (C := RX8) (T := TX8) (N := 16) hx hb hg inX8 hown hK hP 3 xgStock rfl 11 (by decide) (hg _ w389) (fun _ h9 => h9) rfl dX8_join_114 ?_
            refine lv_iload hx hb dX8_join_117 (lv_at hl 1 rfl) ?_
            refine va_iald (D := D) (i := y18) hx hb hK hP 29 22 rfl rfl (i_in (a := y18.toInt) rfl (by omega)) dX8_join_119 ?_
            have r32 : (-1) ≤ ((V10 32 (Int32.toNatClampNeg y18))).toInt ∧ ((V10 32 (Int32.toNatClampNeg y18))).toInt ≤ 262143 := hMV10 32 (Int32.toNatClampNeg y18)
            have kq33 := i_clamp (x := y18) rfl (by (first | exact om_eafa9039069c klp19_1.1 | omega))
            have hq34 : (V10 32 (Int32.toNatClampNeg y18)).toInt < (V 3 15).toInt := by have q := slx.2.2.2 (Int32.toNatClampNeg y18) (by omega); rw [up2_k hV10 (by omega), up2_o hV8 (by decide)]; omega
            refine lv_iconst (v := (-1)) hx hb dX8_join_120 (by decide) ?_
            refine lv_icmp_eq (tgt := 139) hx hb dX8_join_121 (by decide) (fun c35 => ?_) (fun c35 => ?_)
            · skip
              have f36 : ((V10 32 (Int32.toNatClampNeg y18))).toInt = (-1) := b_eq rfl (by decide) c35
              refine lv_aload_n hx hb dX8_join_139 rfl (lv_at hl 2 rfl) ?_
              refine va_get (D := D) (ci := 8) (v := .ref Z.l2) (fs := (xfStock ad V10 L Z)) (C := RX8) (T := TX8) (N := 16) hx hb hg inX8 hown hK hP 3 xgStock rfl 11 (by decide) (hg _ w389) (fun _ h9 => h9) rfl dX8_join_140 ?_
              refine lv_iload hx hb dX8_join_143 (lv_at hl 1 rfl) ?_
              refine lv_aload_n hx hb dX8_join_145 rfl (lv_at hl 2 rfl) ?_
              refine va_get (D := D) (ci := 8) (v := .int (V10 3 15)) (fs := (xfStock ad V10 L Z)) (C := RX8) (T := TX8) (N := 16) hx hb hg inX8 hown hK hP 3 xgStock rfl 15 (by decide) (hg _ w394) (fun _ h9 => h9) rfl dX8_join_146 ?_
              refine g_top (v := (V 3 15)) ((up2_o hV10 (by decide)).trans (up2_o hV8 (by decide))) ?_
              refine va_iast (D := D) (i := y18) (x := (V 3 15)) hx hb hK hP hD hS 29 22 rfl rfl (i_in (a := y18.toInt) rfl (by omega)) dX8_join_149 (fun H locs hP hD hS => ?_)
              obtain ⟨V37, hV37⟩ : ∃ z, z = up2 V10 32 (Int32.toNatClampNeg y18) (V 3 15) := ⟨_, rfl⟩
              have ew38 : (xw ad kk V10 L Z).set 29 (Z.l2, .inl (Z.k2, Z.ln, .inl (upd (V10 32) (Int32.toNatClampNeg y18) (V 3 15)))) = xw ad kk V37 L Z := by rw [hV37]; exact xw_ss (by decide) rfl (xb_si (by decide))
              have hP : va_P D vwCl (xw ad kk V37 L Z) H := by rw [← ew38]; exact hP
              have hD : va_D A (xw ad kk V37 L Z) := by rw [← ew38]; exact hD
              have hMV37 : rgd bX V37 := hMV10.put hV37 (show (-1) ≤ ((V 3 15)).toInt ∧ ((V 3 15)).toInt ≤ 262143 from by (first | exact om_ca8123c7c681 hlc klp19_1.1 xlp19_0 | omega))
              have agV37 : agr [(3, 15)] [30, 31, 32] V V37 := agV10.up hV37 rfl
              refine lv_aload_n hx hb dX8_join_150 rfl (lv_at hl 2 rfl) ?_
              refine lv_dup hx hb dX8_join_151 rfl ?_
              refine va_get (D := D) (ci := 8) (v := .int (V37 3 15)) (fs := (xfStock ad V37 L Z)) (C := RX8) (T := TX8) (N := 16) hx hb hg inX8 hown hK hP 3 xgStock rfl 15 (by decide) (hg _ w394) (fun _ h9 => h9) rfl dX8_join_152 ?_
              refine g_top (v := (V 3 15)) ((up2_o hV37 (by decide)).trans ((up2_o hV10 (by decide)).trans (up2_o hV8 (by decide)))) ?_
              refine lv_iconst (v := 1) hx hb dX8_join_155 (by decide) ?_
              refine lv_iadd hx hb dX8_join_156 ?_
              refine lv_topi (fun z39 ez39 => ?_)
              have hz39 : z39.toInt = ((V 3 15)).toInt + 1 := i_add ez39 rfl (by decide) (by (first | exact om_f92aeb5a09ea hlc klp19_1.1 xlp19_0 | omega))
              refine va_put (D := D) (ci := 8) (v := .int z39) (ty := tyX8 15) (fs := (xfStock ad V37 L Z)) (C := RX8) (T := TX8) (N := 16) hx hb hg inX8 tyX8 tyX8_ok nmX8 hown hK hP hD hS 3 xgStock rfl 15 (by decide) (hg _ w394) (fun _ h9 => h9) rfl (tyX8_ok 15 (by decide)) rfl rfl (Nat.le_of_ble_eq_true rfl) dX8_join_157 (fun H locs hP hD hS => ?_)
              obtain ⟨V40, hV40⟩ : ∃ z, z = up2 V37 3 15 z39 := ⟨_, rfl⟩
              have ew41 : (xw ad kk V37 L Z).set 3 ((ad 3), .inr (8, (xfStock ad V37 L Z).set 15 (.int z39))) = xw ad kk V40 L Z := by rw [hV40]; exact xw_ss (by decide) rfl (xb_si (by decide))
              have hP : va_P D vwCl (xw ad kk V40 L Z) H := by rw [← ew41]; exact hP
              have hD : va_D A (xw ad kk V40 L Z) := by rw [← ew41]; exact hD
              have hMV40 : rgd bX V40 := hMV37.put hV40 (show 0 ≤ z39.toInt ∧ z39.toInt ≤ 262144 from by (first | exact om_58c2777555e7 hlc klp19_1.1 xlp19_0 hz39 | omega))
              have agV40 : agr [(3, 15)] [30, 31, 32] V V40 := agV37.up hV40 rfl
              have pq42 : (V40 3 15).toInt = z39.toInt := congrArg Int32.toInt (up2_s hV40)
              have kq43 := i_clamp (x := y18) rfl (by (first | exact om_eafa9039069c klp19_1.1 | omega))
              have jn44 : JN V V40 Z Z (8 * Int32.toNatClampNeg p0 + Int32.toNatClampNeg p1) := JN.mk (l := Int32.toNatClampNeg (V 3 15)) slx lnx (by omega) (by omega) hV8 hV10 hV37 (by omega) hV40 (by omega) (Or.inr ⟨rfl, by omega, by rw [← hpl]; omega⟩)
              have el9 : lstK V gl (V 30 (8 * Int32.toNatClampNeg p0 + Int32.toNatClampNeg p1)).toInt = ((Int32.toNatClampNeg y18 : Nat) : Int) := by obtain ⟨l2, h1, h2, h3, h4⟩ := xlp19_1; rw [h3, CHN.ed h1 h2 (by rw [← nx31]; omega)]; omega
              refine W.know (fun kr1 kr2 => ?_)
              refine W.widen (k := zcc Z) (n := zss Z) (Nat.sub_le _ _) (Nat.sub_le _ _) ?_
              exact W.vret hx hb hr (fun t ht hW => ⟨⟨(V40, L, Z), rfl, ⟨hMV40, agV40, rfl, zoZ, jn44, (by have h9 := JN9.old (q := (8 * Int32.toNatClampNeg p0 + Int32.toNatClampNeg p1)) (l := gl) (v := p2.toInt) gg9.1 gg9.2 hV8 hV10 hV37 hV40 rfl (by omega) (by omega) (by rw [← hpl]; omega) el9 (by omega); exact h9)⟩, ⟨by rw [ht]; exact hP, va_K.moved hW.alike hK, hD⟩, by rw [ht]; exact kr1, by rw [ht]; exact kr2⟩, hS.F ht⟩) hS.2.2 dX8_join_160
            · skip
              have f45 : ((V10 32 (Int32.toNatClampNeg y18))).toInt ≠ (-1) := b_neq rfl (by decide) c35
              refine lv_aload_n hx hb dX8_join_124 rfl (lv_at hl 2 rfl) ?_
              refine va_get (D := D) (ci := 8) (v := .ref Z.l2) (fs := (xfStock ad V10 L Z)) (C := RX8) (T := TX8) (N := 16) hx hb hg inX8 hown hK hP 3 xgStock rfl 11 (by decide) (hg _ w389) (fun _ h9 => h9) rfl dX8_join_125 ?_
              refine lv_iload hx hb dX8_join_128 (lv_at hl 1 rfl) ?_
              refine va_iald (D := D) (i := y18) hx hb hK hP 29 22 rfl rfl (i_in (a := y18.toInt) rfl (by omega)) dX8_join_130 ?_
              have kq46 := i_clamp (x := y18) rfl (by (first | exact om_eafa9039069c klp19_1.1 | omega))
              have hq47 : (V10 32 (Int32.toNatClampNeg y18)).toInt < (V 3 15).toInt := by have q := slx.2.2.2 (Int32.toNatClampNeg y18) (by omega); rw [up2_k hV10 (by omega), up2_o hV8 (by decide)]; omega
              refine lv_istore (lv' := [(4, .int (V10 32 (Int32.toNatClampNeg y18))), (5, .int y17), (0, .ref (ad 3)), (1, .int p0), (2, .int p1), (3, .int p2)]) hx hb dX8_join_131 hl (by decide) rfl (fun ls hl => ?_)
              obtain ⟨z48, ez48⟩ : ∃ y : Int32, y = y17 + 1 := ⟨_, rfl⟩
              have hz48 : z48.toInt = y17.toInt + 1 := i_add ez48 rfl (by decide) (by (first | exact om_bc9106cf44c9 klp19_0.1 f30 | omega))
              refine lv_iinc (v := z48) (lv' := [(5, .int z48), (4, .int (V10 32 (Int32.toNatClampNeg y18))), (0, .ref (ad 3)), (1, .int p0), (2, .int p1), (3, .int p2)]) hx hb dX8_join_133 hl (k := 1) rfl (by rw [ez48]; rfl) (by decide) rfl (fun ls hl => ?_)
              refine lv_goto (tgt := 106) hx hb dX8_join_136 (by decide) ?_
              exact ihlp19 z48 (V10 32 (Int32.toNatClampNeg y18)) H locs ls (by (first | exact om_a5349b170263 klp19_0.1 f30 hz48 | omega)) (by (first | exact om_68f131c046bb hlc r32.1 hq34 f45 | omega)) (show ((V10 32 (Int32.toNatClampNeg y18))).toInt < (V 3 15).toInt from by (first | exact om_0e9116797efb hq34 | omega)) (by obtain ⟨l2, h1, h2, h3, h4⟩ := xlp19_1; obtain ⟨l3, g1, g2, g3, g4⟩ := CHN.nx h1 h2 (by rw [← nx31]; omega); exact ⟨l3, g1, (by rw [nx31]; exact g2), (by rw [nx31]; exact h3.trans g3), (by omega)⟩) (by (first | exact om_9592d9319ffa hn hz48 | omega)) hP hD hS (lv_sub hl [0, 1, 2, 3, 4, 5] rfl)
      have r49 : Int32.toInt 0 = 0 := by decide
      exact lp19 ((24 - (Int32.toInt 0) + 1 : Int).toNat) 0 (V 30 (Int32.toNatClampNeg z13)) H locs ls (by decide) (by (first | exact om_393feb9d3e2e r14.1 r14.2 f16 | omega)) (show ((V 30 (Int32.toNatClampNeg z13))).toInt < (V 3 15).toInt from by omega) ⟨gl, (fun h9 => by rw [h9] at chn; have h8 : (V 30 (8 * Int32.toNatClampNeg p0 + Int32.toNatClampNeg p1)).toInt = -1 := chn; rw [← hpl] at h8; omega), (by rw [hpl]; exact chn), (by rw [hpl]), (by have h8 : Int32.toInt 0 = 0 := (by decide); omega)⟩ (by (first | exact om_817980d3aa47 | omega)) hP hD hS (lv_sub hl [0, 1, 2, 3, 4, 5] rfl)
    · skip
      have f50 : ((V 30 (Int32.toNatClampNeg z13))).toInt = (-1) := b_eq rfl (by decide) c15
      refine lv_aload_n hx hb dX8_join_85 rfl (lv_at hl 1 rfl) ?_
      refine va_get (D := D) (ci := 8) (v := .ref (ad 27)) (fs := (xfStock ad V10 L Z)) (C := RX8) (T := TX8) (N := 16) hx hb hg inX8 hown hK hP 3 xgStock rfl 9 (by decide) (hg _ w387) (fun _ h9 => h9) rfl dX8_join_86 ?_
      refine lv_iload_n hx hb dX8_join_89 rfl (lv_at hl 2 rfl) ?_
      refine lv_bipush (v := 8) hx hb dX8_join_90 (by decide) ?_
      refine lv_imul hx hb dX8_join_92 ?_
      refine lv_topi (fun z51 ez51 => ?_)
      have hz51 : z51.toInt = p0.toInt * 8 := i_mul ez51 rfl (by decide) (by (first | exact om_d8eca449dd89 rg_p0.1 rg_p0.2 | omega))
      refine lv_iload_n hx hb dX8_join_93 rfl (lv_at hl 3 rfl) ?_
      refine lv_iadd hx hb dX8_join_94 ?_
      refine lv_topi (fun z52 ez52 => ?_)
      have hz52 : z52.toInt = z51.toInt + p1.toInt := i_add ez52 rfl rfl (by (first | exact om_582758b7b1c9 rg_p0.1 rg_p0.2 rg_p1.1 rg_p1.2 hz51 | omega))
      refine lv_aload_n hx hb dX8_join_95 rfl (lv_at hl 1 rfl) ?_
      refine va_get (D := D) (ci := 8) (v := .int (V10 3 15)) (fs := (xfStock ad V10 L Z)) (C := RX8) (T := TX8) (N := 16) hx hb hg inX8 hown hK hP 3 xgStock rfl 15 (by decide) (hg _ w394) (fun _ h9 => h9) rfl dX8_join_96 ?_
      refine g_top (v := (V 3 15)) ((up2_o hV10 (by decide)).trans (up2_o hV8 (by decide))) ?_
      refine va_iast (D := D) (i := z52) (x := (V 3 15)) hx hb hK hP hD hS 27 20 rfl rfl (i_in (a := z52.toInt) rfl (by (first | exact om_1416c74478ee rg_p0.1 rg_p0.2 rg_p1.1 rg_p1.2 hz51 hz52 | omega))) dX8_join_99 (fun H locs hP hD hS => ?_)
      obtain ⟨V53, hV53⟩ : ∃ z, z = up2 V10 30 (Int32.toNatClampNeg z52) (V 3 15) := ⟨_, rfl⟩
      have ew54 : (xw ad kk V10 L Z).set 27 ((ad 27), .inl ((kk 27), 2400, .inl (upd (V10 30) (Int32.toNatClampNeg z52) (V 3 15)))) = xw ad kk V53 L Z := by rw [hV53]; exact xw_ss (by decide) rfl (xb_si (by decide))
      have hP : va_P D vwCl (xw ad kk V53 L Z) H := by rw [← ew54]; exact hP
      have hD : va_D A (xw ad kk V53 L Z) := by rw [← ew54]; exact hD
      have hMV53 : rgd bX V53 := hMV10.put hV53 (show (-1) ≤ ((V 3 15)).toInt ∧ ((V 3 15)).toInt ≤ 262143 from by (first | exact om_d572aa9568fd hlc r1.1 | omega))
      have agV53 : agr [(3, 15)] [30, 31, 32] V V53 := agV10.up hV53 rfl
      refine lv_goto (tgt := 150) hx hb dX8_join_100 (by decide) ?_
      refine lv_aload_n hx hb dX8_join_150 rfl (lv_at hl 1 rfl) ?_
      refine lv_dup hx hb dX8_join_151 rfl ?_
      refine va_get (D := D) (ci := 8) (v := .int (V53 3 15)) (fs := (xfStock ad V53 L Z)) (C := RX8) (T := TX8) (N := 16) hx hb hg inX8 hown hK hP 3 xgStock rfl 15 (by decide) (hg _ w394) (fun _ h9 => h9) rfl dX8_join_152 ?_
      refine g_top (v := (V 3 15)) ((up2_o hV53 (by decide)).trans ((up2_o hV10 (by decide)).trans (up2_o hV8 (by decide)))) ?_
      refine lv_iconst (v := 1) hx hb dX8_join_155 (by decide) ?_
      refine lv_iadd hx hb dX8_join_156 ?_
      refine lv_topi (fun z55 ez55 => ?_)
      have hz55 : z55.toInt = ((V 3 15)).toInt + 1 := i_add ez55 rfl (by decide) (by (first | exact om_63516cd27ca0 hlc r1.1 | omega))
      refine va_put (D := D) (ci := 8) (v := .int z55) (ty := tyX8 15) (fs := (xfStock ad V53 L Z)) (C := RX8) (T := TX8) (N := 16) hx hb hg inX8 tyX8 tyX8_ok nmX8 hown hK hP hD hS 3 xgStock rfl 15 (by decide) (hg _ w394) (fun _ h9 => h9) rfl (tyX8_ok 15 (by decide)) rfl rfl (Nat.le_of_ble_eq_true rfl) dX8_join_157 (fun H locs hP hD hS => ?_)
      obtain ⟨V56, hV56⟩ : ∃ z, z = up2 V53 3 15 z55 := ⟨_, rfl⟩
      have ew57 : (xw ad kk V53 L Z).set 3 ((ad 3), .inr (8, (xfStock ad V53 L Z).set 15 (.int z55))) = xw ad kk V56 L Z := by rw [hV56]; exact xw_ss (by decide) rfl (xb_si (by decide))
      have hP : va_P D vwCl (xw ad kk V56 L Z) H := by rw [← ew57]; exact hP
      have hD : va_D A (xw ad kk V56 L Z) := by rw [← ew57]; exact hD
      have hMV56 : rgd bX V56 := hMV53.put hV56 (show 0 ≤ z55.toInt ∧ z55.toInt ≤ 262144 from by (first | exact om_cb7b7fc8349b hlc r1.1 hz55 | omega))
      have agV56 : agr [(3, 15)] [30, 31, 32] V V56 := agV53.up hV56 rfl
      have pq58 : (V56 3 15).toInt = z55.toInt := congrArg Int32.toInt (up2_s hV56)
      have kq59 := i_clamp (x := z52) rfl (by (first | exact om_75abbf7b0b1b rg_p0.1 rg_p1.1 hz51 hz52 | omega))
      have jn60 : JN V V56 Z Z (8 * Int32.toNatClampNeg p0 + Int32.toNatClampNeg p1) := JN.mk (l := Int32.toNatClampNeg (V 3 15)) slx lnx (by omega) (by omega) hV8 hV10 hV53 (by omega) hV56 (by omega) (Or.inl ⟨rfl, by omega⟩)
      have hp8 : (Int32.toNatClampNeg z52) = (8 * Int32.toNatClampNeg p0 + Int32.toNatClampNeg p1) := by have h9 := i_clamp (x := z52) rfl (by (first | exact om_75abbf7b0b1b rg_p0.1 rg_p1.1 hz51 hz52 | omega)); (first | exact om_50a84ca3fa82 hz12 hz13 kzz hpl hz51 hz52 kq59 | omega)
      refine W.know (fun kr1 kr2 => ?_)
      refine W.widen (k := zcc Z) (n := zss Z) (Nat.sub_le _ _) (Nat.sub_le _ _) ?_
      exact W.vret hx hb hr (fun t ht hW => ⟨⟨(V56, L, Z), rfl, ⟨hMV56, agV56, rfl, zoZ, jn60, (by have h9 := JN9.new (q := (8 * Int32.toNatClampNeg p0 + Int32.toNatClampNeg p1)) (l := gl) (v := p2.toInt) gg9.1 gg9.2 hV8 hV10 (by rw [← hp8]; exact hV53) hV56 rfl (by omega) (by omega) (by rw [← hpl]; omega); exact h9)⟩, ⟨by rw [ht]; exact hP, va_K.moved hW.alike hK, hD⟩, by rw [ht]; exact kr1, by rw [ht]; exact kr2⟩, hS.F ht⟩) hS.2.2 dX8_join_160
  · skip
    have f61 : z4.toInt ≤ ((V 3 15)).toInt := b_nlt rfl rfl c6
    refine lv_aload_n hx hb dX8_join_12 rfl (lv_at hl 0 rfl) ?_
    refine lv_aload_n hx hb dX8_join_13 rfl (lv_at hl 0 rfl) ?_
    refine va_get (D := D) (ci := 8) (v := .ref Z.l1) (fs := (xfStock ad V L Z)) (C := RX8) (T := TX8) (N := 16) hx hb hg inX8 hown hK hP 3 xgStock rfl 10 (by decide) (hg _ w388) (fun _ h9 => h9) rfl dX8_join_14 ?_
    refine lv_aload_n hx hb dX8_join_17 rfl (lv_at hl 0 rfl) ?_
    refine va_get (D := D) (ci := 8) (v := .int (V 3 15)) (fs := (xfStock ad V L Z)) (C := RX8) (T := TX8) (N := 16) hx hb hg inX8 hown hK hP 3 xgStock rfl 15 (by decide) (hg _ w394) (fun _ h9 => h9) rfl dX8_join_18 ?_
    refine lv_iconst (v := 2) hx hb dX8_join_21 (by decide) ?_
    refine lv_imul hx hb dX8_join_22 ?_
    refine lv_topi (fun z62 ez62 => ?_)
    have hz62 : z62.toInt = ((V 3 15)).toInt * 2 := i_mul ez62 rfl (by decide) (by (first | exact om_58a7a3048726 hlc r1.1 | omega))
    have hlnl : (V 3 15).toInt = (Z.ln : Int) := by have := sl.1; omega
    have hg0 := zc_grow (Z := Z) (q1 := 0) (q2 := 0) (c1 := Z.k1) (c2 := Z.k2) lnq (by omega)
    refine gZ_ref (gA_runS (As := [.ref Z.l1, .int z62]) (rest := [.ref (ad 3)]) hx hb hml hown hg hP hD hK hS hA hnw hgk (c_copyOf l D ks H.size (xw ad kk V L Z) (xty kk Z) 28 21 Z.l1 Z.k1 Z.ln (2 * Z.ln) (V 31) z62 rfl rfl (by (first | exact om_7ceae82653b4 hz62 hlnl | omega)) (by (first | exact om_74037c5033f3 hg0.2.2.2.1 | omega)) (by (first | exact om_5b649b25cd44 hg0.2.2.2.2 | omega))) w1356 w1357 w165 w1358 hdS_yJ7_copyOf_59c91 ⟨Nat.le_of_ble_eq_true rfl, Nat.le_of_ble_eq_true rfl⟩ rfl hl.1 rfl (Nat.le_of_ble_eq_true rfl) dX8_join_23 ⟨(by show zcc Z - zcc Z + 1 ≤ zcc Z; omega), (by show zss Z - zss Z + 2 * Z.ln ≤ zss Z; omega)⟩) hD hS hA (fun u1 H locs _ hP hD hK hS _ _ => ?_)
    obtain ⟨q1, c1⟩ := u1
    replace hP : va_P D vwCl (xw ad kk V L Z ++ [((q1, .inl (c1, 2 * Z.ln, .inl (va_cpy (V 31) (fun _ => 0) 0 0 Z.ln))) : Nat × va_E)]) H := hP
    replace hD : va_D A (xw ad kk V L Z ++ [((q1, .inl (c1, 2 * Z.ln, .inl (va_cpy (V 31) (fun _ => 0) 0 0 Z.ln))) : Nat × va_E)]) := hD
    replace hK : va_K D vwCl (xty kk Z ++ [(c1, .int)]) s := hK
    refine va_put (D := D) (ci := 8) (v := .ref q1) (ty := tyX8 10) (fs := (xfStock ad V L Z)) (C := RX8) (T := TX8) (N := 16) hx hb hg inX8 tyX8 tyX8_ok nmX8 hown hK hP hD hS 3 rfl rfl 10 (by decide) (hg _ w388) (fun _ h9 => h9) rfl (tyX8_ok 10 (by decide)) rfl rfl (Nat.le_of_ble_eq_true rfl) dX8_join_26 (fun H locs hP hD hS => ?_)
    replace hP : va_P D vwCl ((xw ad kk V L Z ++ [((q1, .inl (c1, 2 * Z.ln, .inl (va_cpy (V 31) (fun _ => 0) 0 0 Z.ln))) : Nat × va_E)]).set 3 ((ad 3, .inr (8, (xfStock ad V L Z).set 10 (.ref q1))) : Nat × va_E)) H := hP
    replace hD : va_D A ((xw ad kk V L Z ++ [((q1, .inl (c1, 2 * Z.ln, .inl (va_cpy (V 31) (fun _ => 0) 0 0 Z.ln))) : Nat × va_E)]).set 3 ((ad 3, .inr (8, (xfStock ad V L Z).set 10 (.ref q1))) : Nat × va_E)) := hD
    refine lv_aload_n hx hb dX8_join_29 rfl (lv_at hl 0 rfl) ?_
    refine lv_aload_n hx hb dX8_join_30 rfl (lv_at hl 0 rfl) ?_
    refine va_get (D := D) (ci := 8) (v := .ref Z.l2) (fs := ((xfStock ad V L Z).set 10 (.ref q1))) (C := RX8) (T := TX8) (N := 16) hx hb hg inX8 hown hK hP 3 rfl rfl 11 (by decide) (hg _ w389) (fun _ h9 => h9) rfl dX8_join_31 ?_
    refine lv_aload_n hx hb dX8_join_34 rfl (lv_at hl 0 rfl) ?_
    refine va_get (D := D) (ci := 8) (v := .int (V 3 15)) (fs := ((xfStock ad V L Z).set 10 (.ref q1))) (C := RX8) (T := TX8) (N := 16) hx hb hg inX8 hown hK hP 3 rfl rfl 15 (by decide) (hg _ w394) (fun _ h9 => h9) rfl dX8_join_35 ?_
    refine lv_iconst (v := 2) hx hb dX8_join_38 (by decide) ?_
    refine lv_imul hx hb dX8_join_39 ?_
    refine lv_topi (fun zj ezj => ?_)
    have hzj : zj.toInt = (V 3 15).toInt * 2 := i_mul ezj rfl (by decide) (by (first | exact om_58a7a3048726 hlc r1.1 | omega))
    refine gZ_ref (gA_runS (As := [.ref Z.l2, .int zj]) (rest := [.ref (ad 3)]) hx hb hml hown hg hP hD hK hS hA hnw hgk (c_copyOf l D ks H.size ((xw ad kk V L Z ++ [((q1, .inl (c1, 2 * Z.ln, .inl (va_cpy (V 31) (fun _ => 0) 0 0 Z.ln))) : Nat × va_E)]).set 3 ((ad 3, .inr (8, (xfStock ad V L Z).set 10 (.ref q1))) : Nat × va_E)) (xty kk Z ++ [(c1, .int)]) 29 22 Z.l2 Z.k2 Z.ln (2 * Z.ln) (V 32) zj rfl rfl (by (first | exact om_58b2497b5a91 hlnl hzj | omega)) (by (first | exact om_74037c5033f3 hg0.2.2.2.1 | omega)) (by (first | exact om_5b649b25cd44 hg0.2.2.2.2 | omega))) w1356 w1357 w165 w1358 hdS_yJ7_copyOf_59c91 ⟨Nat.le_of_ble_eq_true rfl, Nat.le_of_ble_eq_true rfl⟩ rfl hl.1 rfl (Nat.le_of_ble_eq_true rfl) dX8_join_40 ⟨(by show zcc Z - zcc Z + 1 + 1 ≤ zcc Z; omega), (by show zss Z - zss Z + 2 * Z.ln + 2 * Z.ln ≤ zss Z; omega)⟩) hD hS hA (fun u2 H locs _ hP hD hK hS _ _ => ?_)
    obtain ⟨q2, c2⟩ := u2
    replace hP : va_P D vwCl ((xw ad kk V L Z ++ [((q1, .inl (c1, 2 * Z.ln, .inl (va_cpy (V 31) (fun _ => 0) 0 0 Z.ln))) : Nat × va_E)]).set 3 ((ad 3, .inr (8, (xfStock ad V L Z).set 10 (.ref q1))) : Nat × va_E) ++ [((q2, .inl (c2, 2 * Z.ln, .inl (va_cpy (V 32) (fun _ => 0) 0 0 Z.ln))) : Nat × va_E)]) H := hP
    replace hD : va_D A ((xw ad kk V L Z ++ [((q1, .inl (c1, 2 * Z.ln, .inl (va_cpy (V 31) (fun _ => 0) 0 0 Z.ln))) : Nat × va_E)]).set 3 ((ad 3, .inr (8, (xfStock ad V L Z).set 10 (.ref q1))) : Nat × va_E) ++ [((q2, .inl (c2, 2 * Z.ln, .inl (va_cpy (V 32) (fun _ => 0) 0 0 Z.ln))) : Nat × va_E)]) := hD
    replace hK : va_K D vwCl ((xty kk Z ++ [(c1, .int)]) ++ [(c2, .int)]) s := hK
    refine va_put (D := D) (ci := 8) (v := .ref q2) (ty := tyX8 11) (fs := ((xfStock ad V L Z).set 10 (.ref q1))) (C := RX8) (T := TX8) (N := 16) hx hb hg inX8 tyX8 tyX8_ok nmX8 hown hK hP hD hS 3 rfl rfl 11 (by decide) (hg _ w389) (fun _ h9 => h9) rfl (tyX8_ok 11 (by decide)) rfl rfl (Nat.le_of_ble_eq_true rfl) dX8_join_43 (fun H locs hP hD hS => ?_)
    replace hP : va_P D vwCl (((xw ad kk V L Z ++ [((q1, .inl (c1, 2 * Z.ln, .inl (va_cpy (V 31) (fun _ => 0) 0 0 Z.ln))) : Nat × va_E)]).set 3 ((ad 3, .inr (8, (xfStock ad V L Z).set 10 (.ref q1))) : Nat × va_E) ++ [((q2, .inl (c2, 2 * Z.ln, .inl (va_cpy (V 32) (fun _ => 0) 0 0 Z.ln))) : Nat × va_E)]).set 3 ((ad 3, .inr (8, ((xfStock ad V L Z).set 10 (.ref q1)).set 11 (.ref q2))) : Nat × va_E)) H := hP
    replace hD : va_D A (((xw ad kk V L Z ++ [((q1, .inl (c1, 2 * Z.ln, .inl (va_cpy (V 31) (fun _ => 0) 0 0 Z.ln))) : Nat × va_E)]).set 3 ((ad 3, .inr (8, (xfStock ad V L Z).set 10 (.ref q1))) : Nat × va_E) ++ [((q2, .inl (c2, 2 * Z.ln, .inl (va_cpy (V 32) (fun _ => 0) 0 0 Z.ln))) : Nat × va_E)]).set 3 ((ad 3, .inr (8, ((xfStock ad V L Z).set 10 (.ref q1)).set 11 (.ref q2))) : Nat × va_E)) := hD
    obtain ⟨Z64, hZ64⟩ : ∃ z, z = Z.grow q1 q2 c1 c2 := ⟨_, rfl⟩
    obtain ⟨V63, hV63⟩ : ∃ z, z = lnz V Z.ln := ⟨_, rfl⟩
    have hP : va_P D vwCl (xw ad kk V63 L Z64) H := by rw [hZ64, hV63, xw_lnz]; exact grow_P (by rw [xw_len]; omega) hP
    have hD : va_D A (xw ad kk V63 L Z64) := by rw [hZ64, hV63, xw_lnz]; exact grow_D (by rw [xw_len]; omega) hD
    have hK : va_K D vwCl (xty kk Z64) s := by rw [hZ64, xt_lnz]; exact grow_K (by rw [xt_len]; decide) hK
    have hMV63 : rgd bX V63 := by rw [hV63]; exact rgd_lnz hMV
    have ajV63 : agr [] [31, 32] V V63 := by rw [hV63]; exact lnz_ag
    have agV63 : agr [(3, 15)] [30, 31, 32] V V63 := agV.tr ajV63 (by decide) (by decide)
    have zgr := zc_grow (Z := Z) (q1 := q1) (q2 := q2) (c1 := c1) (c2 := c2) lnq (by omega)
    have zcZ64 : zcc Z64 + 2 ≤ zcc Z := by rw [hZ64]; exact zgr.1
    have zsZ64 : zss Z64 + 4 * Z.ln = zss Z := by rw [hZ64]; exact zgr.2.1
    have zoZ64 : ZL Z Z64 := by rw [hZ64]; exact ZL.grow lnq (by omega)
    have zkZ64 : Z64.nf = Z.nf := by rw [hZ64]; rfl
    have zgZ64 : Z64.ln = 2 * Z.ln := by rw [hZ64]; rfl
    have slx : SL V63 Z64 := by rw [hV63, hZ64]; exact sl.grow (by omega)
    have lnx : LN Z64.ln := by rw [zgZ64]; exact zgr.2.2.1
    refine W.know (fun kx1 kx2 => ?_)
    replace kx1 : H.size ≤ s.heap.size + (zcc Z - zcc Z + 1 + 1) := kx1
    replace kx2 : tot H ≤ tot s.heap + (zss Z - zss Z + 2 * Z.ln + 2 * Z.ln) := kx2
    refine W.tight (k := zcc Z - zcc Z64) (n := zss Z - zss Z64) (by omega) (by omega) ?_
    have pq65 : (V63 3 15).toInt = ((V 3 15)).toInt := congrArg Int32.toInt (ajV63 3 15 rfl)
    have pq66 : (V63 3 13).toInt = ((V 3 13)).toInt := congrArg Int32.toInt (ajV63 3 13 rfl)
    have hltz : (V 3 15).toInt < (Z64.ln : Int) := by (first | exact om_b744e8be1b05 hlnl hg0.2.2.2.1 zgZ64 | omega)
    have kl := i_clamp (x := V 3 15) rfl (by (first | exact om_3de61939a92f r5 f61 zgZ64 hltz | omega))
    have kp0 := i_clamp (x := p0) rfl (by (first | exact om_eafa9039069c rg_p0.1 | omega))
    have kp1 := i_clamp (x := p1) rfl (by (first | exact om_eafa9039069c rg_p1.1 | omega))
    have hch := slx.2.2.1 (Int32.toNatClampNeg p0) (Int32.toNatClampNeg p1) (by omega) (by omega)
    have gg9 := lnz_g (n := (Int32.toNatClampNeg (V 3 15))) hV63 (by omega)
    have kn9 := i_clamp (x := V 3 15) rfl (by (first | exact om_3de61939a92f r5 f61 zgZ64 hltz | omega))
    refine lv_aload_n hx hb dX8_join_46 rfl (lv_at hl 0 rfl) ?_
    refine va_get (D := D) (ci := 8) (v := .ref Z64.l1) (fs := (xfStock ad V63 L Z64)) (C := RX8) (T := TX8) (N := 16) hx hb hg inX8 hown hK hP 3 xgStock rfl 10 (by decide) (hg _ w388) (fun _ h9 => h9) rfl dX8_join_47 ?_
    refine lv_aload_n hx hb dX8_join_50 rfl (lv_at hl 0 rfl) ?_
    refine va_get (D := D) (ci := 8) (v := .int (V63 3 15)) (fs := (xfStock ad V63 L Z64)) (C := RX8) (T := TX8) (N := 16) hx hb hg inX8 hown hK hP 3 xgStock rfl 15 (by decide) (hg _ w394) (fun _ h9 => h9) rfl dX8_join_51 ?_
    refine g_top (v := (V 3 15)) (ajV63 3 15 rfl) ?_
    refine lv_iload_n hx hb dX8_join_54 rfl (lv_at hl 3 rfl) ?_
    refine va_iast (D := D) (i := (V 3 15)) (x := p2) hx hb hK hP hD hS 28 21 rfl rfl (i_in (a := ((V 3 15)).toInt) rfl (by omega)) dX8_join_55 (fun H locs hP hD hS => ?_)
    obtain ⟨V67, hV67⟩ : ∃ z, z = up2 V63 31 (Int32.toNatClampNeg (V 3 15)) p2 := ⟨_, rfl⟩
    have ew68 : (xw ad kk V63 L Z64).set 28 (Z64.l1, .inl (Z64.k1, Z64.ln, .inl (upd (V63 31) (Int32.toNatClampNeg (V 3 15)) p2))) = xw ad kk V67 L Z64 := by rw [hV67]; exact xw_ss (by decide) rfl (xb_si (by decide))
    have hP : va_P D vwCl (xw ad kk V67 L Z64) H := by rw [← ew68]; exact hP
    have hD : va_D A (xw ad kk V67 L Z64) := by rw [← ew68]; exact hD
    have hMV67 : rgd bX V67 := hMV63.put hV67 (i_full _)
    have agV67 : agr [(3, 15)] [30, 31, 32] V V67 := agV63.up hV67 rfl
    refine lv_aload_n hx hb dX8_join_56 rfl (lv_at hl 0 rfl) ?_
    refine va_get (D := D) (ci := 8) (v := .ref Z64.l2) (fs := (xfStock ad V67 L Z64)) (C := RX8) (T := TX8) (N := 16) hx hb hg inX8 hown hK hP 3 xgStock rfl 11 (by decide) (hg _ w389) (fun _ h9 => h9) rfl dX8_join_57 ?_
    refine lv_aload_n hx hb dX8_join_60 rfl (lv_at hl 0 rfl) ?_
    refine va_get (D := D) (ci := 8) (v := .int (V67 3 15)) (fs := (xfStock ad V67 L Z64)) (C := RX8) (T := TX8) (N := 16) hx hb hg inX8 hown hK hP 3 xgStock rfl 15 (by decide) (hg _ w394) (fun _ h9 => h9) rfl dX8_join_61 ?_
    refine g_top (v := (V 3 15)) ((up2_o hV67 (by decide)).trans (ajV63 3 15 rfl)) ?_
    refine lv_iconst (v := (-1)) hx hb dX8_join_64 (by decide) ?_
    refine va_iast (D := D) (i := (V 3 15)) (x := (-1)) hx hb hK hP hD hS 29 22 rfl rfl (i_in (a := ((V 3 15)).toInt) rfl (by omega)) dX8_join_65 (fun H locs hP hD hS => ?_)
    obtain ⟨V69, hV69⟩ : ∃ z, z = up2 V67 32 (Int32.toNatClampNeg (V 3 15)) (-1) := ⟨_, rfl⟩
    have ew70 : (xw ad kk V67 L Z64).set 29 (Z64.l2, .inl (Z64.k2, Z64.ln, .inl (upd (V67 32) (Int32.toNatClampNeg (V 3 15)) (-1)))) = xw ad kk V69 L Z64 := by rw [hV69]; exact xw_ss (by decide) rfl (xb_si (by decide))
    have hP : va_P D vwCl (xw ad kk V69 L Z64) H := by rw [← ew70]; exact hP
    have hD : va_D A (xw ad kk V69 L Z64) := by rw [← ew70]; exact hD
    have hMV69 : rgd bX V69 := hMV67.put hV69 (show (-1) ≤ Int32.toInt (-1) ∧ Int32.toInt (-1) ≤ 262143 from by decide)
    have agV69 : agr [(3, 15)] [30, 31, 32] V V69 := agV67.up hV69 rfl
    refine lv_aload_n hx hb dX8_join_66 rfl (lv_at hl 0 rfl) ?_
    refine va_get (D := D) (ci := 8) (v := .ref (ad 27)) (fs := (xfStock ad V69 L Z64)) (C := RX8) (T := TX8) (N := 16) hx hb hg inX8 hown hK hP 3 xgStock rfl 9 (by decide) (hg _ w387) (fun _ h9 => h9) rfl dX8_join_67 ?_
    refine lv_iload_n hx hb dX8_join_70 rfl (lv_at hl 1 rfl) ?_
    refine lv_bipush (v := 8) hx hb dX8_join_71 (by decide) ?_
    refine lv_imul hx hb dX8_join_73 ?_
    refine lv_topi (fun z71 ez71 => ?_)
    have hz71 : z71.toInt = p0.toInt * 8 := i_mul ez71 rfl (by decide) (by (first | exact om_d8eca449dd89 rg_p0.1 rg_p0.2 | omega))
    refine lv_iload_n hx hb dX8_join_74 rfl (lv_at hl 2 rfl) ?_
    refine lv_iadd hx hb dX8_join_75 ?_
    refine lv_topi (fun z72 ez72 => ?_)
    have hz72 : z72.toInt = z71.toInt + p1.toInt := i_add ez72 rfl rfl (by (first | exact om_582758b7b1c9 rg_p0.1 rg_p0.2 rg_p1.1 rg_p1.2 hz71 | omega))
    refine va_iald (D := D) (i := z72) hx hb hK hP 27 20 rfl rfl (i_in (a := z72.toInt) rfl (by (first | exact om_1416c74478ee rg_p0.1 rg_p0.2 rg_p1.1 rg_p1.2 hz71 hz72 | omega))) dX8_join_76 ?_
    refine g_top (v := (V 30 (Int32.toNatClampNeg z72))) ((up2_o hV69 (by decide)).trans ((up2_o hV67 (by decide)).trans (ajV63 30 (Int32.toNatClampNeg z72) rfl))) ?_
    have r73 : (-1) ≤ ((V 30 (Int32.toNatClampNeg z72))).toInt ∧ ((V 30 (Int32.toNatClampNeg z72))).toInt ≤ 262143 := hMV 30 (Int32.toNatClampNeg z72)
    refine lv_istore (lv' := [(4, .int (V 30 (Int32.toNatClampNeg z72))), (0, .ref (ad 3)), (1, .int p0), (2, .int p1), (3, .int p2)]) hx hb dX8_join_77 hl (by decide) rfl (fun ls hl => ?_)
    have kzz := i_clamp (x := z72) rfl (by (first | exact om_75abbf7b0b1b rg_p0.1 rg_p1.1 hz71 hz72 | omega))
    have hpl : Int32.toNatClampNeg z72 = 8 * Int32.toNatClampNeg p0 + Int32.toNatClampNeg p1 := by (first | exact om_19f77980e03c kp0 kp1 hz71 hz72 kzz | omega)
    have hch2 := hch
    rw [← hpl] at hch2
    have pq74 : (V63 30 (Int32.toNatClampNeg z72)).toInt = ((V 30 (Int32.toNatClampNeg z72))).toInt := congrArg Int32.toInt (ajV63 30 (Int32.toNatClampNeg z72) rfl)
    refine lv_iload hx hb dX8_join_79 (lv_at hl 0 rfl) ?_
    refine lv_iconst (v := (-1)) hx hb dX8_join_81 (by decide) ?_
    refine lv_icmp_ne (tgt := 103) hx hb dX8_join_82 (by decide) (fun c75 => ?_) (fun c75 => ?_)
    · skip
      have f76 : ((V 30 (Int32.toNatClampNeg z72))).toInt ≠ (-1) := b_neq rfl (by decide) c75
      refine lv_iconst (v := 0) hx hb dX8_join_103 (by decide) ?_
      refine lv_istore (lv' := [(5, .int 0), (4, .int (V 30 (Int32.toNatClampNeg z72))), (0, .ref (ad 3)), (1, .int p0), (2, .int p1), (3, .int p2)]) hx hb dX8_join_104 hl (by decide) rfl (fun ls hl => ?_)
      have lp79 : ∀ (fulp79 : Nat) (y77 : Int32) (y78 : Int32) (H : Heap) (locs : List Loc) (ls : Array Slot), 0 ≤ y77.toInt ∧ y77.toInt ≤ 24 → 0 ≤ y78.toInt ∧ y78.toInt ≤ 262143 → y78.toInt < (V 3 15).toInt → (∃ l2 : List Int, l2 ≠ [] ∧ CHN V gow (8 * Int32.toNatClampNeg p0 + Int32.toNatClampNeg p1) l2 y78.toInt ∧ lstK V gl (V 30 (8 * Int32.toNatClampNeg p0 + Int32.toNatClampNeg p1)).toInt = lstK V l2 y78.toInt ∧ ((l2.length : Nat) : Int) + y77.toInt ≤ 23) → 24 - y77.toInt < (fulp79 : Int) → va_P D vwCl (xw ad kk V69 L Z64) H → va_D A (xw ad kk V69 L Z64) → va_S A s.heap H locs → lv_has ls 6 [(5, .int y77), (4, .int y78), (0, .ref (ad 3)), (1, .int p0), (2, .int p1), (3, .int p2)] → W p l e (r_x_join9 Z) s m ([.ref (ad 3), .int p0, .int p1, .int p2] : List Value).toArray below meth c H locs (zcc Z - zcc Z64) (zss Z - zss Z64) (MQ below (q_x_join9 D ks ad kk V L Z p0 p1 p2 gow gl A) ([.ref (ad 3), .int p0, .int p1, .int p2] : List Value).toArray s (zcc Z) (zss Z) A) (F0 m 106 ls []) := by
        intro fulp79
        induction fulp79 with
        | zero =>
          intro y77 y78 H locs ls klp79_0 klp79_1 xlp79_0 xlp79_1 hn  hP hD hS hl
          exfalso; (first | exact om_60d665989fb6 xlp79_1.2.2.2 hn | omega)
        | succ fulp79 ihlp79 =>
          intro y77 y78 H locs ls klp79_0 klp79_1 xlp79_0 xlp79_1 hn  hP hD hS hl
          refine lv_iload hx hb dX8_join_106 (lv_at hl 0 rfl) ?_
          refine lv_bipush (v := 24) hx hb dX8_join_108 (by decide) ?_
          refine lv_icmp_ge (tgt := 139) hx hb dX8_join_110 (by decide) (fun c80 => ?_) (fun c80 => ?_)
          · skip
            have f81 : 24 ≤ y77.toInt := b_le (by decide) rfl c80
            refine lv_aload_n hx hb dX8_join_139 rfl (lv_at hl 2 rfl) ?_
            refine va_get (D := D) (ci := 8) (v := .ref Z64.l2) (fs := (xfStock ad V69 L Z64)) (C := RX8) (T := TX8) (N := 16) hx hb hg inX8 hown hK hP 3 xgStock rfl 11 (by decide) (hg _ w389) (fun _ h9 => h9) rfl dX8_join_140 ?_
            refine lv_iload hx hb dX8_join_143 (lv_at hl 1 rfl) ?_
            refine lv_aload_n hx hb dX8_join_145 rfl (lv_at hl 2 rfl) ?_
            refine va_get (D := D) (ci := 8) (v := .int (V69 3 15)) (fs := (xfStock ad V69 L Z64)) (C := RX8) (T := TX8) (N := 16) hx hb hg inX8 hown hK hP 3 xgStock rfl 15 (by decide) (hg _ w394) (fun _ h9 => h9) rfl dX8_join_146 ?_
            refine g_top (v := (V 3 15)) ((up2_o hV69 (by decide)).trans ((up2_o hV67 (by decide)).trans (ajV63 3 15 rfl))) ?_
            refine va_iast (D := D) (i := y78) (x := (V 3 15)) hx hb hK hP hD hS 29 22 rfl rfl (i_in (a := y78.toInt) rfl (by omega)) dX8_join_149 (fun H locs hP hD hS => ?_)
            obtain ⟨V82, hV82⟩ : ∃ z, z = up2 V69 32 (Int32.toNatClampNeg y78) (V 3 15) := ⟨_, rfl⟩
            have ew83 : (xw ad kk V69 L Z64).set 29 (Z64.l2, .inl (Z64.k2, Z64.ln, .inl (upd (V69 32) (Int32.toNatClampNeg y78) (V 3 15)))) = xw ad kk V82 L Z64 := by rw [hV82]; exact xw_ss (by decide) rfl (xb_si (by decide))
            have hP : va_P D vwCl (xw ad kk V82 L Z64) H := by rw [← ew83]; exact hP
            have hD : va_D A (xw ad kk V82 L Z64) := by rw [← ew83]; exact hD
            have hMV82 : rgd bX V82 := hMV69.put hV82 (show (-1) ≤ ((V 3 15)).toInt ∧ ((V 3 15)).toInt ≤ 262143 from by omega)
            have agV82 : agr [(3, 15)] [30, 31, 32] V V82 := agV69.up hV82 rfl
            refine lv_aload_n hx hb dX8_join_150 rfl (lv_at hl 2 rfl) ?_
            refine lv_dup hx hb dX8_join_151 rfl ?_
            refine va_get (D := D) (ci := 8) (v := .int (V82 3 15)) (fs := (xfStock ad V82 L Z64)) (C := RX8) (T := TX8) (N := 16) hx hb hg inX8 hown hK hP 3 xgStock rfl 15 (by decide) (hg _ w394) (fun _ h9 => h9) rfl dX8_join_152 ?_
            refine g_top (v := (V 3 15)) ((up2_o hV82 (by decide)).trans ((up2_o hV69 (by decide)).trans ((up2_o hV67 (by decide)).trans (ajV63 3 15 rfl)))) ?_
            refine lv_iconst (v := 1) hx hb dX8_join_155 (by decide) ?_
            refine lv_iadd hx hb dX8_join_156 ?_
            refine lv_topi (fun z84 ez84 => ?_)
            have hz84 : z84.toInt = ((V 3 15)).toInt + 1 := i_add ez84 rfl (by decide) (by omega)
            refine va_put (D := D) (ci := 8) (v := .int z84) (ty := tyX8 15) (fs := (xfStock ad V82 L Z64)) (C := RX8) (T := TX8) (N := 16) hx hb hg inX8 tyX8 tyX8_ok nmX8 hown hK hP hD hS 3 xgStock rfl 15 (by decide) (hg _ w394) (fun _ h9 => h9) rfl (tyX8_ok 15 (by decide)) rfl rfl (Nat.le_of_ble_eq_true rfl) dX8_join_157 (fun H locs hP hD hS => ?_)
            obtain ⟨V85, hV85⟩ : ∃ z, z = up2 V82 3 15 z84 := ⟨_, rfl⟩
            have ew86 : (xw ad kk V82 L Z64).set 3 ((ad 3), .inr (8, (xfStock ad V82 L Z64).set 15 (.int z84))) = xw ad kk V85 L Z64 := by rw [hV85]; exact xw_ss (by decide) rfl (xb_si (by decide))
            have hP : va_P D vwCl (xw ad kk V85 L Z64) H := by rw [← ew86]; exact hP
            have hD : va_D A (xw ad kk V85 L Z64) := by rw [← ew86]; exact hD
            have hMV85 : rgd bX V85 := hMV82.put hV85 (show 0 ≤ z84.toInt ∧ z84.toInt ≤ 262144 from by omega)
            have agV85 : agr [(3, 15)] [30, 31, 32] V V85 := agV82.up hV85 rfl
            have pq87 : (V85 3 15).toInt = z84.toInt := congrArg Int32.toInt (up2_s hV85)
            have kq88 := i_clamp (x := y78) rfl (by omega)
            have jn89 : JN V63 V85 Z64 Z64 (8 * Int32.toNatClampNeg p0 + Int32.toNatClampNeg p1) := JN.mk (l := Int32.toNatClampNeg (V 3 15)) slx lnx (by omega) (by omega) hV67 hV69 hV82 (by omega) hV85 (by omega) (Or.inr ⟨rfl, by omega, by rw [← hpl]; omega⟩)
            have jn90 : JN V V85 Z Z64 (8 * Int32.toNatClampNeg p0 + Int32.toNatClampNeg p1) := by rw [hV63, hZ64] at jn89; rw [hZ64]; exact JN.gr jn89
            have el9 : lstK V gl (V 30 (8 * Int32.toNatClampNeg p0 + Int32.toNatClampNeg p1)).toInt = ((Int32.toNatClampNeg y78 : Nat) : Int) := by obtain ⟨l2, h1, h2, h3, h4⟩ := xlp79_1; exfalso; have h5 : l2.length ≠ 0 := fun h9 => h1 (List.length_eq_zero_iff.mp h9); omega
            refine W.know (fun kr1 kr2 => ?_)
            refine W.widen (k := zcc Z) (n := zss Z) (Nat.sub_le _ _) (Nat.sub_le _ _) ?_
            exact W.vret hx hb hr (fun t ht hW => ⟨⟨(V85, L, Z64), rfl, ⟨hMV85, agV85, rfl, zoZ64, jn90, (by have h9 := JN9.old (q := (8 * Int32.toNatClampNeg p0 + Int32.toNatClampNeg p1)) (l := gl) (v := p2.toInt) gg9.1 gg9.2 hV67 hV69 hV82 hV85 rfl (by omega) (by omega) (by rw [← hpl]; omega) el9 (by omega); exact h9)⟩, ⟨by rw [ht]; exact hP, va_K.moved hW.alike hK, hD⟩, by rw [ht]; exact kr1, by rw [ht]; exact kr2⟩, hS.F ht⟩) hS.2.2 dX8_join_160
          · skip
            have f91 : y77.toInt < 24 := b_nle (by decide) rfl c80
            have ky9 := i_clamp (x := y78) rfl (by (first | exact om_eafa9039069c klp79_1.1 | omega))
            have nx92 : V69 32 (Int32.toNatClampNeg y78) = V 32 y78.toInt.toNat := (up2_k hV69 (by omega)).trans ((up2_o hV67 (by decide)).trans (gg9.1 _ (by omega)).2)
            refine lv_aload_n hx hb dX8_join_113 rfl (lv_at hl 2 rfl) ?_
            refine va_get (D := D) (ci := 8) (v := .ref Z64.l2) (fs := (xfStock ad V69 L Z64)) (C := RX8) (T := TX8) (N := 16) hx hb hg inX8 hown hK hP 3 xgStock rfl 11 (by decide) (hg _ w389) (fun _ h9 => h9) rfl dX8_join_114 ?_
            refine lv_iload hx hb dX8_join_117 (lv_at hl 1 rfl) ?_
            refine va_iald (D := D) (i := y78) hx hb hK hP 29 22 rfl rfl (i_in (a := y78.toInt) rfl (by omega)) dX8_join_119 ?_
            have r93 : (-1) ≤ ((V69 32 (Int32.toNatClampNeg y78))).toInt ∧ ((V69 32 (Int32.toNatClampNeg y78))).toInt ≤ 262143 := hMV69 32 (Int32.toNatClampNeg y78)
            have kq94 := i_clamp (x := y78) rfl (by (first | exact om_eafa9039069c klp79_1.1 | omega))
            have hq95 : (V69 32 (Int32.toNatClampNeg y78)).toInt < (V 3 15).toInt := by have q := slx.2.2.2 (Int32.toNatClampNeg y78) (by omega); rw [up2_k hV69 (by omega), up2_o hV67 (by decide)]; omega
            refine lv_iconst (v := (-1)) hx hb dX8_join_120 (by decide) ?_
            refine lv_icmp_eq (tgt := 139) hx hb dX8_join_121 (by decide) (fun c96 => ?_) (fun c96 => ?_)
            · skip
              have f97 : ((V69 32 (Int32.toNatClampNeg y78))).toInt = (-1) := b_eq rfl (by decide) c96
              refine lv_aload_n hx hb dX8_join_139 rfl (lv_at hl 2 rfl) ?_
              refine va_get (D := D) (ci := 8) (v := .ref Z64.l2) (fs := (xfStock ad V69 L Z64)) (C := RX8) (T := TX8) (N := 16) hx hb hg inX8 hown hK hP 3 xgStock rfl 11 (by decide) (hg _ w389) (fun _ h9 => h9) rfl dX8_join_140 ?_
              refine lv_iload hx hb dX8_join_143 (lv_at hl 1 rfl) ?_
              refine lv_aload_n hx hb dX8_join_145 rfl (lv_at hl 2 rfl) ?_
              refine va_get (D := D) (ci := 8) (v := .int (V69 3 15)) (fs := (xfStock ad V69 L Z64)) (C := RX8) (T := TX8) (N := 16) hx hb hg inX8 hown hK hP 3 xgStock rfl 15 (by decide) (hg _ w394) (fun _ h9 => h9) rfl dX8_join_146 ?_
              refine g_top (v := (V 3 15)) ((up2_o hV69 (by decide)).trans ((up2_o hV67 (by decide)).trans (ajV63 3 15 rfl))) ?_
              refine va_iast (D := D) (i := y78) (x := (V 3 15)) hx hb hK hP hD hS 29 22 rfl rfl (i_in (a := y78.toInt) rfl (by omega)) dX8_join_149 (fun H locs hP hD hS => ?_)
              obtain ⟨V98, hV98⟩ : ∃ z, z = up2 V69 32 (Int32.toNatClampNeg y78) (V 3 15) := ⟨_, rfl⟩
              have ew99 : (xw ad kk V69 L Z64).set 29 (Z64.l2, .inl (Z64.k2, Z64.ln, .inl (upd (V69 32) (Int32.toNatClampNeg y78) (V 3 15)))) = xw ad kk V98 L Z64 := by rw [hV98]; exact xw_ss (by decide) rfl (xb_si (by decide))
              have hP : va_P D vwCl (xw ad kk V98 L Z64) H := by rw [← ew99]; exact hP
              have hD : va_D A (xw ad kk V98 L Z64) := by rw [← ew99]; exact hD
              have hMV98 : rgd bX V98 := hMV69.put hV98 (show (-1) ≤ ((V 3 15)).toInt ∧ ((V 3 15)).toInt ≤ 262143 from by (first | exact om_ca44e42f4839 hlc r5 f61 zgZ64 hltz | omega))
              have agV98 : agr [(3, 15)] [30, 31, 32] V V98 := agV69.up hV98 rfl
              refine lv_aload_n hx hb dX8_join_150 rfl (lv_at hl 2 rfl) ?_
              refine lv_dup hx hb dX8_join_151 rfl ?_
              refine va_get (D := D) (ci := 8) (v := .int (V98 3 15)) (fs := (xfStock ad V98 L Z64)) (C := RX8) (T := TX8) (N := 16) hx hb hg inX8 hown hK hP 3 xgStock rfl 15 (by decide) (hg _ w394) (fun _ h9 => h9) rfl dX8_join_152 ?_
              refine g_top (v := (V 3 15)) ((up2_o hV98 (by decide)).trans ((up2_o hV69 (by decide)).trans ((up2_o hV67 (by decide)).trans (ajV63 3 15 rfl)))) ?_
              refine lv_iconst (v := 1) hx hb dX8_join_155 (by decide) ?_
              refine lv_iadd hx hb dX8_join_156 ?_
              refine lv_topi (fun z100 ez100 => ?_)
              have hz100 : z100.toInt = ((V 3 15)).toInt + 1 := i_add ez100 rfl (by decide) (by (first | exact om_0fa10e9e3498 hlc r5 f61 zgZ64 hltz | omega))
              refine va_put (D := D) (ci := 8) (v := .int z100) (ty := tyX8 15) (fs := (xfStock ad V98 L Z64)) (C := RX8) (T := TX8) (N := 16) hx hb hg inX8 tyX8 tyX8_ok nmX8 hown hK hP hD hS 3 xgStock rfl 15 (by decide) (hg _ w394) (fun _ h9 => h9) rfl (tyX8_ok 15 (by decide)) rfl rfl (Nat.le_of_ble_eq_true rfl) dX8_join_157 (fun H locs hP hD hS => ?_)
              obtain ⟨V101, hV101⟩ : ∃ z, z = up2 V98 3 15 z100 := ⟨_, rfl⟩
              have ew102 : (xw ad kk V98 L Z64).set 3 ((ad 3), .inr (8, (xfStock ad V98 L Z64).set 15 (.int z100))) = xw ad kk V101 L Z64 := by rw [hV101]; exact xw_ss (by decide) rfl (xb_si (by decide))
              have hP : va_P D vwCl (xw ad kk V101 L Z64) H := by rw [← ew102]; exact hP
              have hD : va_D A (xw ad kk V101 L Z64) := by rw [← ew102]; exact hD
              have hMV101 : rgd bX V101 := hMV98.put hV101 (show 0 ≤ z100.toInt ∧ z100.toInt ≤ 262144 from by (first | exact om_03c6ea50aeb8 hlc r5 f61 zgZ64 hltz hz100 | omega))
              have agV101 : agr [(3, 15)] [30, 31, 32] V V101 := agV98.up hV101 rfl
              have pq103 : (V101 3 15).toInt = z100.toInt := congrArg Int32.toInt (up2_s hV101)
              have kq104 := i_clamp (x := y78) rfl (by (first | exact om_eafa9039069c klp79_1.1 | omega))
              have jn105 : JN V63 V101 Z64 Z64 (8 * Int32.toNatClampNeg p0 + Int32.toNatClampNeg p1) := JN.mk (l := Int32.toNatClampNeg (V 3 15)) slx lnx (by omega) (by omega) hV67 hV69 hV98 (by omega) hV101 (by omega) (Or.inr ⟨rfl, by omega, by rw [← hpl]; omega⟩)
              have jn106 : JN V V101 Z Z64 (8 * Int32.toNatClampNeg p0 + Int32.toNatClampNeg p1) := by rw [hV63, hZ64] at jn105; rw [hZ64]; exact JN.gr jn105
              have el9 : lstK V gl (V 30 (8 * Int32.toNatClampNeg p0 + Int32.toNatClampNeg p1)).toInt = ((Int32.toNatClampNeg y78 : Nat) : Int) := by obtain ⟨l2, h1, h2, h3, h4⟩ := xlp79_1; rw [h3, CHN.ed h1 h2 (by rw [← nx92]; omega)]; omega
              refine W.know (fun kr1 kr2 => ?_)
              refine W.widen (k := zcc Z) (n := zss Z) (Nat.sub_le _ _) (Nat.sub_le _ _) ?_
              exact W.vret hx hb hr (fun t ht hW => ⟨⟨(V101, L, Z64), rfl, ⟨hMV101, agV101, rfl, zoZ64, jn106, (by have h9 := JN9.old (q := (8 * Int32.toNatClampNeg p0 + Int32.toNatClampNeg p1)) (l := gl) (v := p2.toInt) gg9.1 gg9.2 hV67 hV69 hV98 hV101 rfl (by omega) (by omega) (by rw [← hpl]; omega) el9 (by omega); exact h9)⟩, ⟨by rw [ht]; exact hP, va_K.moved hW.alike hK, hD⟩, by rw [ht]; exact kr1, by rw [ht]; exact kr2⟩, hS.F ht⟩) hS.2.2 dX8_join_160
            · skip
              have f107 : ((V69 32 (Int32.toNatClampNeg y78))).toInt ≠ (-1) := b_neq rfl (by decide) c96
              refine lv_aload_n hx hb dX8_join_124 rfl (lv_at hl 2 rfl) ?_
              refine va_get (D := D) (ci := 8) (v := .ref Z64.l2) (fs := (xfStock ad V69 L Z64)) (C := RX8) (T := TX8) (N := 16) hx hb hg inX8 hown hK hP 3 xgStock rfl 11 (by decide) (hg _ w389) (fun _ h9 => h9) rfl dX8_join_125 ?_
              refine lv_iload hx hb dX8_join_128 (lv_at hl 1 rfl) ?_
              refine va_iald (D := D) (i := y78) hx hb hK hP 29 22 rfl rfl (i_in (a := y78.toInt) rfl (by omega)) dX8_join_130 ?_
              have kq108 := i_clamp (x := y78) rfl (by (first | exact om_eafa9039069c klp79_1.1 | omega))
              have hq109 : (V69 32 (Int32.toNatClampNeg y78)).toInt < (V 3 15).toInt := by have q := slx.2.2.2 (Int32.toNatClampNeg y78) (by omega); rw [up2_k hV69 (by omega), up2_o hV67 (by decide)]; omega
              refine lv_istore (lv' := [(4, .int (V69 32 (Int32.toNatClampNeg y78))), (5, .int y77), (0, .ref (ad 3)), (1, .int p0), (2, .int p1), (3, .int p2)]) hx hb dX8_join_131 hl (by decide) rfl (fun ls hl => ?_)
              obtain ⟨z110, ez110⟩ : ∃ y : Int32, y = y77 + 1 := ⟨_, rfl⟩
              have hz110 : z110.toInt = y77.toInt + 1 := i_add ez110 rfl (by decide) (by (first | exact om_bc9106cf44c9 klp79_0.1 f91 | omega))
              refine lv_iinc (v := z110) (lv' := [(5, .int z110), (4, .int (V69 32 (Int32.toNatClampNeg y78))), (0, .ref (ad 3)), (1, .int p0), (2, .int p1), (3, .int p2)]) hx hb dX8_join_133 hl (k := 1) rfl (by rw [ez110]; rfl) (by decide) rfl (fun ls hl => ?_)
              refine lv_goto (tgt := 106) hx hb dX8_join_136 (by decide) ?_
              exact ihlp79 z110 (V69 32 (Int32.toNatClampNeg y78)) H locs ls (by (first | exact om_a5349b170263 klp79_0.1 f91 hz110 | omega)) (by (first | exact om_68f131c046bb hlc r93.1 hq95 f107 | omega)) (show ((V69 32 (Int32.toNatClampNeg y78))).toInt < (V 3 15).toInt from by (first | exact om_0e9116797efb hq95 | omega)) (by obtain ⟨l2, h1, h2, h3, h4⟩ := xlp79_1; obtain ⟨l3, g1, g2, g3, g4⟩ := CHN.nx h1 h2 (by rw [← nx92]; omega); exact ⟨l3, g1, (by rw [nx92]; exact g2), (by rw [nx92]; exact h3.trans g3), (by omega)⟩) (by (first | exact om_9592d9319ffa hn hz110 | omega)) hP hD hS (lv_sub hl [0, 1, 2, 3, 4, 5] rfl)
      have r111 : Int32.toInt 0 = 0 := by decide
      exact lp79 ((24 - (Int32.toInt 0) + 1 : Int).toNat) 0 (V 30 (Int32.toNatClampNeg z72)) H locs ls (by decide) (by (first | exact om_393feb9d3e2e r73.1 r73.2 f76 | omega)) (show ((V 30 (Int32.toNatClampNeg z72))).toInt < (V 3 15).toInt from by omega) ⟨gl, (fun h9 => by rw [h9] at chn; have h8 : (V 30 (8 * Int32.toNatClampNeg p0 + Int32.toNatClampNeg p1)).toInt = -1 := chn; rw [← hpl] at h8; omega), (by rw [hpl]; exact chn), (by rw [hpl]), (by have h8 : Int32.toInt 0 = 0 := (by decide); omega)⟩ (by (first | exact om_817980d3aa47 | omega)) hP hD hS (lv_sub hl [0, 1, 2, 3, 4, 5] rfl)
    · skip
      have f112 : ((V 30 (Int32.toNatClampNeg z72))).toInt = (-1) := b_eq rfl (by decide) c75
      refine lv_aload_n hx hb dX8_join_85 rfl (lv_at hl 1 rfl) ?_
      refine va_get (D := D) (ci := 8) (v := .ref (ad 27)) (fs := (xfStock ad V69 L Z64)) (C := RX8) (T := TX8) (N := 16) hx hb hg inX8 hown hK hP 3 xgStock rfl 9 (by decide) (hg _ w387) (fun _ h9 => h9) rfl dX8_join_86 ?_
      refine lv_iload_n hx hb dX8_join_89 rfl (lv_at hl 2 rfl) ?_
      refine lv_bipush (v := 8) hx hb dX8_join_90 (by decide) ?_
      refine lv_imul hx hb dX8_join_92 ?_
      refine lv_topi (fun z113 ez113 => ?_)
      have hz113 : z113.toInt = p0.toInt * 8 := i_mul ez113 rfl (by decide) (by (first | exact om_d8eca449dd89 rg_p0.1 rg_p0.2 | omega))
      refine lv_iload_n hx hb dX8_join_93 rfl (lv_at hl 3 rfl) ?_
      refine lv_iadd hx hb dX8_join_94 ?_
      refine lv_topi (fun z114 ez114 => ?_)
      have hz114 : z114.toInt = z113.toInt + p1.toInt := i_add ez114 rfl rfl (by (first | exact om_582758b7b1c9 rg_p0.1 rg_p0.2 rg_p1.1 rg_p1.2 hz113 | omega))
      refine lv_aload_n hx hb dX8_join_95 rfl (lv_at hl 1 rfl) ?_
      refine va_get (D := D) (ci := 8) (v := .int (V69 3 15)) (fs := (xfStock ad V69 L Z64)) (C := RX8) (T := TX8) (N := 16) hx hb hg inX8 hown hK hP 3 xgStock rfl 15 (by decide) (hg _ w394) (fun _ h9 => h9) rfl dX8_join_96 ?_
      refine g_top (v := (V 3 15)) ((up2_o hV69 (by decide)).trans ((up2_o hV67 (by decide)).trans (ajV63 3 15 rfl))) ?_
      refine va_iast (D := D) (i := z114) (x := (V 3 15)) hx hb hK hP hD hS 27 20 rfl rfl (i_in (a := z114.toInt) rfl (by (first | exact om_1416c74478ee rg_p0.1 rg_p0.2 rg_p1.1 rg_p1.2 hz113 hz114 | omega))) dX8_join_99 (fun H locs hP hD hS => ?_)
      obtain ⟨V115, hV115⟩ : ∃ z, z = up2 V69 30 (Int32.toNatClampNeg z114) (V 3 15) := ⟨_, rfl⟩
      have ew116 : (xw ad kk V69 L Z64).set 27 ((ad 27), .inl ((kk 27), 2400, .inl (upd (V69 30) (Int32.toNatClampNeg z114) (V 3 15)))) = xw ad kk V115 L Z64 := by rw [hV115]; exact xw_ss (by decide) rfl (xb_si (by decide))
      have hP : va_P D vwCl (xw ad kk V115 L Z64) H := by rw [← ew116]; exact hP
      have hD : va_D A (xw ad kk V115 L Z64) := by rw [← ew116]; exact hD
      have hMV115 : rgd bX V115 := hMV69.put hV115 (show (-1) ≤ ((V 3 15)).toInt ∧ ((V 3 15)).toInt ≤ 262143 from by (first | exact om_ca44e42f4839 hlc r5 f61 zgZ64 hltz | omega))
      have agV115 : agr [(3, 15)] [30, 31, 32] V V115 := agV69.up hV115 rfl
      refine lv_goto (tgt := 150) hx hb dX8_join_100 (by decide) ?_
      refine lv_aload_n hx hb dX8_join_150 rfl (lv_at hl 1 rfl) ?_
      refine lv_dup hx hb dX8_join_151 rfl ?_
      refine va_get (D := D) (ci := 8) (v := .int (V115 3 15)) (fs := (xfStock ad V115 L Z64)) (C := RX8) (T := TX8) (N := 16) hx hb hg inX8 hown hK hP 3 xgStock rfl 15 (by decide) (hg _ w394) (fun _ h9 => h9) rfl dX8_join_152 ?_
      refine g_top (v := (V 3 15)) ((up2_o hV115 (by decide)).trans ((up2_o hV69 (by decide)).trans ((up2_o hV67 (by decide)).trans (ajV63 3 15 rfl)))) ?_
      refine lv_iconst (v := 1) hx hb dX8_join_155 (by decide) ?_
      refine lv_iadd hx hb dX8_join_156 ?_
      refine lv_topi (fun z117 ez117 => ?_)
      have hz117 : z117.toInt = ((V 3 15)).toInt + 1 := i_add ez117 rfl (by decide) (by (first | exact om_0fa10e9e3498 hlc r5 f61 zgZ64 hltz | omega))
      refine va_put (D := D) (ci := 8) (v := .int z117) (ty := tyX8 15) (fs := (xfStock ad V115 L Z64)) (C := RX8) (T := TX8) (N := 16) hx hb hg inX8 tyX8 tyX8_ok nmX8 hown hK hP hD hS 3 xgStock rfl 15 (by decide) (hg _ w394) (fun _ h9 => h9) rfl (tyX8_ok 15 (by decide)) rfl rfl (Nat.le_of_ble_eq_true rfl) dX8_join_157 (fun H locs hP hD hS => ?_)
      obtain ⟨V118, hV118⟩ : ∃ z, z = up2 V115 3 15 z117 := ⟨_, rfl⟩
      have ew119 : (xw ad kk V115 L Z64).set 3 ((ad 3), .inr (8, (xfStock ad V115 L Z64).set 15 (.int z117))) = xw ad kk V118 L Z64 := by rw [hV118]; exact xw_ss (by decide) rfl (xb_si (by decide))
      have hP : va_P D vwCl (xw ad kk V118 L Z64) H := by rw [← ew119]; exact hP
      have hD : va_D A (xw ad kk V118 L Z64) := by rw [← ew119]; exact hD
      have hMV118 : rgd bX V118 := hMV115.put hV118 (show 0 ≤ z117.toInt ∧ z117.toInt ≤ 262144 from by (first | exact om_03c6ea50aeb8 hlc r5 f61 zgZ64 hltz hz117 | omega))
      have agV118 : agr [(3, 15)] [30, 31, 32] V V118 := agV115.up hV118 rfl
      have pq120 : (V118 3 15).toInt = z117.toInt := congrArg Int32.toInt (up2_s hV118)
      have kq121 := i_clamp (x := z114) rfl (by (first | exact om_75abbf7b0b1b rg_p0.1 rg_p1.1 hz113 hz114 | omega))
      have jn122 : JN V63 V118 Z64 Z64 (8 * Int32.toNatClampNeg p0 + Int32.toNatClampNeg p1) := JN.mk (l := Int32.toNatClampNeg (V 3 15)) slx lnx (by omega) (by omega) hV67 hV69 hV115 (by omega) hV118 (by omega) (Or.inl ⟨rfl, by omega⟩)
      have jn123 : JN V V118 Z Z64 (8 * Int32.toNatClampNeg p0 + Int32.toNatClampNeg p1) := by rw [hV63, hZ64] at jn122; rw [hZ64]; exact JN.gr jn122
      have hp8 : (Int32.toNatClampNeg z114) = (8 * Int32.toNatClampNeg p0 + Int32.toNatClampNeg p1) := by have h9 := i_clamp (x := z114) rfl (by (first | exact om_75abbf7b0b1b rg_p0.1 rg_p1.1 hz113 hz114 | omega)); (first | exact om_50a84ca3fa82 hz71 hz72 kzz hpl hz113 hz114 kq121 | omega)
      refine W.know (fun kr1 kr2 => ?_)
      refine W.widen (k := zcc Z) (n := zss Z) (Nat.sub_le _ _) (Nat.sub_le _ _) ?_
      exact W.vret hx hb hr (fun t ht hW => ⟨⟨(V118, L, Z64), rfl, ⟨hMV118, agV118, rfl, zoZ64, jn123, (by have h9 := JN9.new (q := (8 * Int32.toNatClampNeg p0 + Int32.toNatClampNeg p1)) (l := gl) (v := p2.toInt) gg9.1 gg9.2 hV67 hV69 (by rw [← hp8]; exact hV115) hV118 rfl (by omega) (by omega) (by rw [← hpl]; omega); exact h9)⟩, ⟨by rw [ht]; exact hP, va_K.moved hW.alike hK, hD⟩, by rw [ht]; exact kr1, by rw [ht]; exact kr2⟩, hS.F ht⟩) hS.2.2 dX8_join_160
end
section
/-- a BOOK's cells (44 holds no number of it) -/
theorem BKc.b4 {V W : Vf} {b : Nat} {B : Bk} (h : BKc V b B) (e : ∀ c k, 41 ≤ c → c ≤ 66 → c ≠ 44 → W c k = V c k) : BKc W b B := by
  obtain ⟨h1, h2, ⟨h3, h4, h5⟩, ⟨h6, h7, h8⟩, h9, h10, h11, h12⟩ := h
  refine ⟨⟨by rw [e 42 _ (by decide) (by decide) (by decide)]; exact h1.1, fun i hi => ?_⟩, ⟨h2.1, fun c hc k hk => ?_, h2.2.2⟩, ⟨⟨h3.1, fun w hw => ?_⟩, by rw [e 41 _ (by decide) (by decide) (by decide)]; exact h4, fun i hi => by rw [e 47 _ (by decide) (by decide) (by decide)]; exact h5 i hi⟩, ⟨by rw [e 43 _ (by decide) (by decide) (by decide)]; exact h6, h7, fun c hc => ?_⟩, fun i hi => by rw [e 46 _ (by decide) (by decide) (by decide)]; exact h9 i hi, h10, h11, h12⟩
  · have z := h1.2 i hi
    unfold CDr at z ⊢
    rw [e 48 _ (by decide) (by decide) (by decide), e 48 _ (by decide) (by decide) (by decide)]
    exact z
  · rw [← h2.2.1 c hc k hk]
    exact cR_e (fun _ => e 61 _ (by decide) (by decide) (by decide)) (e 56 _ (by decide) (by decide) (by decide)) (e 57 _ (by decide) (by decide) (by decide))
  · have z := h3.2 w hw
    unfold WWr at z ⊢
    rw [e 62 _ (by decide) (by decide) (by decide), e 63 _ (by decide) (by decide) (by decide), e 64 _ (by decide) (by decide) (by decide), e 65 _ (by decide) (by decide) (by decide), e 66 _ (by decide) (by decide) (by decide)]
    exact z
  · have z := h8 c hc
    unfold COr HDr at z ⊢
    rw [e 50 _ (by decide) (by decide) (by decide), e 51 _ (by decide) (by decide) (by decide), e 52 _ (by decide) (by decide) (by decide), e 53 _ (by decide) (by decide) (by decide), e 54 _ (by decide) (by decide) (by decide), e 55 _ (by decide) (by decide) (by decide), e 49 _ (by decide) (by decide) (by decide)]
    refine ⟨z.1, z.2.1, z.2.2.1, fun j hj => ?_⟩
    have y := z.2.2.2 j hj
    unfold NEr at y ⊢
    rw [e 58 _ (by decide) (by decide) (by decide), e 59 _ (by decide) (by decide) (by decide), e 60 _ (by decide) (by decide) (by decide)]
    exact y
def b4Q (fs : List (Nat × Nat)) (cs : List Nat) : Bool := fs.all (fun y => decide (y.1 < 41 ∨ 66 < y.1 ∨ y.1 = 44)) && cs.all (fun c => decide (c < 41 ∨ 66 < c ∨ c = 44))
theorem agr.b4 {fs : List (Nat × Nat)} {cs : List Nat} {V W : Vf} (a : agr fs cs V W) (q : b4Q fs cs = true) (c k : Nat) (h1 : 41 ≤ c) (h2 : c ≤ 66) (h3 : c ≠ 44) : W c k = V c k := by
  refine a c k ?_
  unfold b4Q at q
  rw [Bool.and_eq_true, List.all_eq_true, List.all_eq_true] at q
  unfold wrL
  rw [Bool.or_eq_false_iff]
  refine ⟨?_, ?_⟩
  · rw [← Bool.not_eq_true]
    intro z
    have y := of_decide_eq_true (q.1 _ (List.contains_iff_mem.mp z))
    have y : c < 41 ∨ 66 < c ∨ c = 44 := y
    omega
  · rw [← Bool.not_eq_true]
    intro z
    have y := of_decide_eq_true (q.2 _ (List.contains_iff_mem.mp z))
    omega


abbrev r_x_goOnMaking9 (Z : XZ) : Room := { frames := 5, cells := zcc Z, slots := zss Z, locals := 121 }
abbrev q_x_goOnMaking9 (D : va_G) (ks : KS) (ad : Nat → Nat) (kk : Nat → ClassId) (V : Vf) (L : Lf) (Z : XZ) (b : Nat) (gf : Nat) (gB : Bk) (gm : Mm) (ga : Int32) (gfr : Fr) (gr : List Fr) (A : Nat → Prop) : Array Value → State → Outcome → State → Prop := qZv D (fun (u : Vf × Lf × XZ) => rgd bX u.1 ∧ agr [(3, 13), (3, 14), (3, 15), (5, 6), (5, 8), (5, 9), (5, 10), (5, 11), (5, 12), (5, 13), (5, 14)] [24, 25, 26, 27, 28, 29, 30, 31, 32, 40, 67, 68, 69, 70, 71, 72, 73, 74, 75, 76, 77, 78, 79, 80, 81, 82, 83, 84, 85] V u.1 ∧ u.2.1 = L ∧ ZL Z u.2.2 ∧ (MJ u.1 u.2.2 b) ∧ (RW u.1 gB (stM gB (gm, ga, gfr :: gr)))) (fun u => xw ad kk u.1 u.2.1 u.2.2) (fun u => xty kk u.2.2) (fun u => zcc Z - zcc u.2.2) (fun u => zss Z - zss u.2.2) A
set_option maxHeartbeats 4000000 in
set_option maxRecDepth 100000 in
theorem x_goOnMaking9 (l : Launch) (D : va_G) (ks : KS) (sz : Nat) (ad : Nat → Nat) (kk : Nat → ClassId) (V : Vf) (L : Lf) (Z : XZ) (b : Nat) (gf : Nat) (gB : Bk) (gm : Mm) (ga : Int32) (gfr : Fr) (gr : List Fr) (hMV : rgd bX V) (hb2 : b < 2) (hgf : gf < Z.nf) (mo : MO V Z b gf True (QN V b) (QN V b)) (gd : (gf : Int) + 1 = (V 5 6).toInt) (gk : (V 67 gf).toInt = 1) (rwq : RW V gB (gm, ga, gfr :: gr)) (bc : BKc V b gB) (sf : SF gB (gm, ga, gfr :: gr))  : Met l yX5_goOnMaking (Cond.code yX5_goOnMaking cX5_goOnMaking 5 none :: GW) (r_x_goOnMaking9 Z) (va_Pc [.ref (ad 5), .ref (Z.fa gf)] (gp D ks (xw ad kk V L Z) (xty kk Z) sz)) (q_x_goOnMaking9 D ks ad kk V L Z  b gf gB gm ga gfr gr (va_A (xw ad kk V L Z) sz)) (zcc Z) (zss Z) (va_A (xw ad kk V L Z) sz) := by
  refine g_met (q_x_goOnMaking9 D ks ad kk V L Z  b gf gB gm ga gfr gr) (by decide) (Nat.le_of_ble_eq_true rfl) ?_
  intro p e s m below meth c A ls H locs hx hb hr hml hown hg hlocks hin hnw hgk hP hK hD hS hA hl
  have hown : s.vm.findClass RX5 = some m.cls := hown
  have hl : lv_has ls 5 [(0, .ref (ad 5)), (1, .ref (Z.fa gf))] := hl
  have hP : va_P D vwCl (xw ad kk V L Z) H := hP
  have hD : va_D A (xw ad kk V L Z) := hD
  have hK : va_K D vwCl (xty kk Z) s := hK
  have agV : agr [(3, 13), (3, 14), (3, 15), (5, 6), (5, 8), (5, 9), (5, 10), (5, 11), (5, 12), (5, 13), (5, 14)] [24, 25, 26, 27, 28, 29, 30, 31, 32, 40, 67, 68, 69, 70, 71, 72, 73, 74, 75, 76, 77, 78, 79, 80, 81, 82, 83, 84, 85] V V := agr.rf
  have zoZ : ZL Z Z := ZL.rf
  refine W.know (fun ka kb => ?_)
  refine W.tight (k := zcc Z - zcc Z) (n := zss Z - zss Z) (by (first | exact om_7244b830ee02 ka | omega)) (by (first | exact om_7244b830ee02 kb | omega)) ?_
  have r1 : 0 ≤ ((V 5 6)).toInt ∧ ((V 5 6)).toInt ≤ 400 := hMV 5 6
  have kdp := i_clamp (x := V 5 6) rfl (by (first | exact om_e301311e2a25 gd r1 | omega))
  have hdn : (gf : Int) + 1 ≤ (Z.nf : Int) := by (first | exact om_bb8713a56da6 hgf gd kdp | omega)
  have mup := MO.up mo
  have msz := mup.1
  have mbk := mup.2.2.2.1
  obtain ⟨xk, fk⟩ := MO.fk mo
  have r2 : (-1) ≤ ((V 71 gf)).toInt ∧ ((V 71 gf)).toInt ≤ 23 := hMV 71 gf
  have r3 : 0 ≤ ((V 75 gf)).toInt ∧ ((V 75 gf)).toInt ≤ 12 := hMV 75 gf
  have r4 : 0 ≤ ((V 80 gf)).toInt ∧ ((V 80 gf)).toInt ≤ 300 := hMV 80 gf
  have r5 : 0 ≤ ((V 84 gf)).toInt ∧ ((V 84 gf)).toInt ≤ 2147483647 := hMV 84 gf
  have r6 : 0 ≤ ((V 5 8)).toInt ∧ ((V 5 8)).toInt ≤ 300 := hMV 5 8
  have r7 : 0 ≤ ((V 5 9)).toInt ∧ ((V 5 9)).toInt ≤ 3 := hMV 5 9
  have r8 : 0 ≤ ((V 3 13)).toInt ∧ ((V 3 13)).toInt ≤ 300 := hMV 3 13
  have r9 : 0 ≤ ((V 43 (5 * b + 2))).toInt ∧ ((V 43 (5 * b + 2))).toInt ≤ ((xcap (5 * b + 2) : Nat) : Int) := hMV 43 (5 * b + 2)
  have r10 : xcap (5 * b + 2) = 24 := xcap_2
  have r11 : 0 ≤ ((V 41 b)).toInt ∧ ((V 41 b)).toInt ≤ 12 := hMV 41 b
  have r12 : 0 ≤ ((V 42 b)).toInt ∧ ((V 42 b)).toInt ≤ 8200 := hMV 42 b
  have fc := fk.1 (by (first | exact om_627b950e4377 gk | omega))
  have fo := fk.2.1 (by (first | exact om_627b950e4377 gk | omega)) (by (first | exact om_e567d739f369 gk | omega))
  have fi := fk.2.2.2.2.1 (by (first | exact om_710535a98d88 gk | omega))
  have mup0 := mup
  have fc0 := fc
  have m1 : Int32.toInt (-1) = -1 := by decide
  have rw0 := rwq
  obtain ⟨⟨ow, rn⟩, rh, rd, tw9, rt9, rl⟩ := rw0
  have rn : RWn V ow gB gm := rn
  have rh : RWh V gm ga := rh
  have rd2 : (V 5 6).toInt = ((gr.length + 1 : Nat) : Int) := rd
  have gl9 : gr.length = gf := by (first | exact om_737fc00ff7e4 gd kdp rd rd2 | omega)
  have sl9 : gr.length ≤ 394 := by have h9 : gr.length + 1 ≤ 395 := sf.1; (first | exact om_5c206326bd12 gd r1 kdp rd rd2 h9 | omega)
  have rh1 : (V 5 9).toInt = gm 0 6 := rh.1
  have ra2 : (V 3 13).toInt = gm 0 2 := rn.1.1.2.2.1
  have rl0 := rl
  obtain ⟨t0, tl9, hf0, hbs9, hpl9, hlr⟩ := rl0
  rw [gl9] at hf0 hbs9
  rcases FRc.k1 hf0 gk with ⟨lv, o, c, pl, ps, it, hfe⟩ | ⟨lv, o, c, pl, hfe⟩
  · skip
    have hf : FRc V gB gf (Fmake lv o c pl ps it) := by rw [← hfe]; exact hf0
    have tl8 : tw9 = t0 + (Fmake lv o c pl ps it : Fr).2.2.2.length := by rw [← hfe]; exact tl9
    obtain ⟨⟨k67, k68⟩, hoc, q75, q76⟩ := hf
    obtain ⟨q69, ⟨q70, o0, o1⟩, ⟨q71, c0, c1⟩, ⟨q72, s0, s1⟩⟩ := hoc
    have cn9 : c.toNat < nC gB := by (first | exact om_51a08a25bfb6 r2 fc q71 c1 | omega)
    have kc9 : Int32.toNatClampNeg (V 71 gf) = c.toNat := by have h9 := i_clamp (x := V 71 gf) rfl (by (first | exact om_762d7ad45f4b r2 fc q71 | omega)); (first | exact om_57d2b76748c0 r2 fc q71 h9 | omega)
    have ko9 : Int32.toNatClampNeg (V 70 gf) = o.toNat := by have h9 := i_clamp (x := V 70 gf) rfl (by (first | exact om_982736d7659e fo q70 | omega)); (first | exact om_20e87943cd78 fo q70 h9 | omega)
    have kp9 : Int32.toNatClampNeg (V 72 gf) = pl.toNat := by have h9 := i_clamp (x := V 72 gf) rfl (by omega); (first | exact om_f7254f2bac5c q72 h9 | omega)
    have tz9 : tw9 = t0 := tl8
    have rh8 : (V 5 8).toInt = gm 0 4 := rh.2.2.2.1
    have sft : SFt gB gm ga (Fmake lv o c pl ps it) := by rw [← hfe]; exact sf.2.2.2.2 gfr gr rfl
    obtain ⟨sf1, sf2, sf3⟩ := sft
    have en9 : (V 3 14).toInt = gm 0 3 := rn.1.1.2.2.2
    have en8 : 0 ≤ gm 0 3 ∧ gm 0 3 ≤ 300 := sf.2.2.1
    have kp7 : (V 70 gf).toInt.toNat = o.toNat := by first | exact congrArg Int.toNat q70 | omega
    refine lv_aload_n hx hb dX5_goOnMaking_0 rfl (lv_at hl 1 rfl) ?_
    refine va_getN (D := D) (ci := 4) (v := .int (V 68 gf)) (fs := (xfFrame V gf)) (C := RX4) (T := TX4) (N := 19) hx hb hg inX4 hown hK hP (336 + gf) (xgFrame hgf) rfl 1 (by decide) (hnw.use 1190 n1190 rfl) (fun _ h9 => h9) rfl dX5_goOnMaking_1 ?_
    refine lv_iconst (v := 1) hx hb dX5_goOnMaking_4 (by decide) ?_
    refine lv_icmp_ne (tgt := 12) hx hb dX5_goOnMaking_5 (by decide) (fun c13 => ?_) (fun c13 => ?_)
    · skip
      have f14 : ((V 68 gf)).toInt ≠ 1 := b_neq rfl (by decide) c13
      refine lv_iconst (v := 0) hx hb dX5_goOnMaking_12 (by decide) ?_
      refine lv_istore_n (lv' := [(2, .int 0), (0, .ref (ad 5)), (1, .ref (Z.fa gf))]) hx hb dX5_goOnMaking_13 rfl hl (by decide) rfl (fun ls hl => ?_)
      refine lv_aload_n hx hb dX5_goOnMaking_14 rfl (lv_at hl 1 rfl) ?_
      refine va_get (D := D) (ci := 5) (v := .int (V 5 9)) (fs := (xfMachine ad V L Z)) (C := RX5) (T := TX5) (N := 15) hx hb hg inX5 hown hK hP 5 xgMachine rfl 9 (by decide) (hg _ w676) (fun _ h9 => h9) rfl dX5_goOnMaking_15 ?_
      refine lv_iconst (v := 2) hx hb dX5_goOnMaking_18 (by decide) ?_
      refine lv_icmp_eq (tgt := 30) hx hb dX5_goOnMaking_19 (by decide) (fun c15 => ?_) (fun c15 => ?_)
      · skip
        have f16 : ((V 5 9)).toInt = 2 := b_eq rfl (by decide) c15
        refine lv_aload_n hx hb dX5_goOnMaking_30 rfl (lv_at hl 1 rfl) ?_
        refine lv_dup hx hb dX5_goOnMaking_31 rfl ?_
        refine va_get (D := D) (ci := 5) (v := .int (V 5 11)) (fs := (xfMachine ad V L Z)) (C := RX5) (T := TX5) (N := 15) hx hb hg inX5 hown hK hP 5 xgMachine rfl 11 (by decide) (hg _ w678) (fun _ h9 => h9) rfl dX5_goOnMaking_32 ?_
        refine lv_iload_n hx hb dX5_goOnMaking_35 rfl (lv_at hl 0 rfl) ?_
        refine lv_if_eq (tgt := 43) hx hb dX5_goOnMaking_36 (by decide) (fun _ => ?_) (fun q => absurd (by decide) q)
        refine lv_iconst (v := 1) hx hb dX5_goOnMaking_43 (by decide) ?_
        refine lv_iadd hx hb dX5_goOnMaking_44 ?_
        have r17 := i_full (V 5 11)
        refine lv_topi (fun z18 ez18 => ?_)
        have hz18 : Imp (-2147483648 ≤ ((V 5 11)).toInt + 1 ∧ ((V 5 11)).toInt + 1 ≤ 2147483647) (z18.toInt = ((V 5 11)).toInt + 1) := Imp.mk (fun hp => i_add ez18 rfl (by decide) hp)
        refine va_put (D := D) (ci := 5) (v := .int z18) (ty := tyX5 11) (fs := (xfMachine ad V L Z)) (C := RX5) (T := TX5) (N := 15) hx hb hg inX5 tyX5 tyX5_ok nmX5 hown hK hP hD hS 5 xgMachine rfl 11 (by decide) (hg _ w678) (fun _ h9 => h9) rfl (tyX5_ok 11 (by decide)) rfl rfl (Nat.le_of_ble_eq_true rfl) dX5_goOnMaking_45 (fun H locs hP hD hS => ?_)
        obtain ⟨V19, hV19⟩ : ∃ z, z = up2 V 5 11 z18 := ⟨_, rfl⟩
        have ew20 : (xw ad kk V L Z).set 5 ((ad 5), .inr (5, (xfMachine ad V L Z).set 11 (.int z18))) = xw ad kk V19 L Z := by rw [hV19]; exact xw_ss (by decide) rfl (xb_si (by decide))
        have hP : va_P D vwCl (xw ad kk V19 L Z) H := by rw [← ew20]; exact hP
        have hD : va_D A (xw ad kk V19 L Z) := by rw [← ew20]; exact hD
        have hMV19 : rgd bX V19 := hMV.put hV19 (i_full _)
        have agV19 : agr [(3, 13), (3, 14), (3, 15), (5, 6), (5, 8), (5, 9), (5, 10), (5, 11), (5, 12), (5, 13), (5, 14)] [24, 25, 26, 27, 28, 29, 30, 31, 32, 40, 67, 68, 69, 70, 71, 72, 73, 74, 75, 76, 77, 78, 79, 80, 81, 82, 83, 84, 85] V V19 := agV.up hV19 rfl
        have wr21 : (V19 3 13).toInt = (V 3 13).toInt := congrArg Int32.toInt (up2_o hV19 (by decide))
        have wr22 : (V19 3 12).toInt = (V 3 12).toInt := congrArg Int32.toInt (up2_o hV19 (by decide))
        have wr23 : (V19 67 gf).toInt = ((V 67 gf)).toInt := (congrArg Int32.toInt (up2_o hV19 (by decide)))
        have wr24 : (V19 68 gf).toInt = ((V 68 gf)).toInt := (congrArg Int32.toInt (up2_o hV19 (by decide)))
        have wr25 : (V19 69 gf).toInt = ((V 69 gf)).toInt := (congrArg Int32.toInt (up2_o hV19 (by decide)))
        have wr26 : (V19 70 gf).toInt = ((V 70 gf)).toInt := (congrArg Int32.toInt (up2_o hV19 (by decide)))
        have wr27 : (V19 71 gf).toInt = ((V 71 gf)).toInt := (congrArg Int32.toInt (up2_o hV19 (by decide)))
        have wr28 : (V19 72 gf).toInt = ((V 72 gf)).toInt := (congrArg Int32.toInt (up2_o hV19 (by decide)))
        have wr29 : (V19 75 gf).toInt = ((V 75 gf)).toInt := (congrArg Int32.toInt (up2_o hV19 (by decide)))
        have wr30 : (V19 76 gf).toInt = ((V 76 gf)).toInt := (congrArg Int32.toInt (up2_o hV19 (by decide)))
        have me31 : ME V V19 gf := (ME.up ME.rf hV19 (Or.inr (by (first | exact om_ded18bf8e7e5  | omega))))
        have rl32 : RWl V19 gB gr t0 := RWl.mv hlr (fun i9 hi9 c9 h1 h2 => me31.2.1 c9 i9 h1 h2 (by (first | exact om_59a77ef8aaca gd kdp rd rd2 hi9 | omega))) (fun j9 hj9 => (up2_o hV19 (by decide))) (by rw [(up2_o hV19 (by decide))]; exact Int.le_refl _) (up2_o hV19 (by decide))
        have pq33 : (V19 5 6).toInt = ((V 5 6)).toInt := congrArg Int32.toInt (up2_k hV19 (by decide))
        have pq34 : (V19 5 9).toInt = ((V 5 9)).toInt := congrArg Int32.toInt (up2_k hV19 (by decide))
        have pq35 : (V19 5 12).toInt = ((V 5 12)).toInt := congrArg Int32.toInt (up2_k hV19 (by decide))
        have fo8 : FRc V19 gB gr.length (Fmake lv o c pl ps it) := by rw [gl9]; exact ⟨⟨by (first | exact om_ed616bc53b7b gk wr23 | omega), by (first | exact om_36161e850215 k68 wr24 | omega)⟩, ⟨by (first | exact om_cd7d0a6a31bc q69 wr25 | omega), ⟨by (first | exact om_cd7d0a6a31bc q70 wr26 | omega), by (first | exact om_72c355b130f5 fo q70 wr26 | omega), by (first | exact om_be0131eba9cf fo ra2 q70 wr21 wr26 | omega)⟩, ⟨by (first | exact om_cd7d0a6a31bc q71 wr27 | omega), by (first | exact om_50e3d3ad91f5 r2 fc q71 wr27 | omega), by (first | exact om_e52dd4456e8b q71 c1 wr27 | omega)⟩, ⟨by (first | exact om_cd7d0a6a31bc q72 wr28 | omega), by omega, by omega⟩⟩, by (first | exact om_cd7d0a6a31bc q75 wr29 | omega), by (first | exact om_cd7d0a6a31bc q76 wr30 | omega)⟩
        have sf4 := sf.2.2.2.1
        have rh2 : gm 0 6 = 2 → (V 5 11).toInt = gm 0 8 ∧ (V 5 12).toInt = gm 0 9 := rh.2.2.1
        have nz9 : gm 0 6 = 2 → z18.toInt = gm 0 8 + 1 := fun h9 => by have h8 : 0 ≤ gm 0 8 ∧ gm 0 8 ≤ 10000 := sf4 h9; have h7 := rh2 h9; have h6 : z18.toInt = (V 5 11).toInt + 1 := i_add ez18 rfl (by decide) (by (first | exact om_fbeaa6835435 h8 h7 | omega)); (first | exact om_622589d201a6 h7 h6 | omega)
        have rn8 : RWn V19 ow gB (mU gm 0 8 (gm 0 8 + 1)) := RWn.mv rn (fun j9 hj9 => mU_o _ _ (by (first | exact om_04f96242676c hj9 | omega))) (fun x9 j9 hx9 _ => mU_o _ _ (by omega)) (fun k9 => (up2_o hV19 (by decide))) (up2_o hV19 (by decide)) (up2_k hV19 (by decide)) (up2_k hV19 (by decide)) (fun c9 k9 h1 h2 h3 => (show V19 c9 k9 = V c9 k9 from by rw [hV19]; exact up2_pl (by (first | exact om_6d4550d9bb9e h1 h2 | omega))))
        have m06 : (mU gm 0 8 (gm 0 8 + 1)) 0 6 = gm 0 6 := mU_o _ _ (by (first | exact om_50b854601a02  | omega))
        have m08 : gm 0 6 = 2 → z18.toInt = (mU gm 0 8 (gm 0 8 + 1)) 0 8 := fun h9 => by rw [mU_s]; exact nz9 h9
        have m09 : (mU gm 0 8 (gm 0 8 + 1)) 0 9 = gm 0 9 := mU_o _ _ (by (first | exact om_2a2523ed32fa  | omega))
        have rwx9 : RW V19 gB ((mU gm 0 8 (gm 0 8 + 1)), ga, gfr :: gr) := by rw [hfe]; exact RW.fin rwq rn8 (mU_o _ _ (by (first | exact om_a6480dcc7cd0  | omega))) (fun i9 => mU_o _ _ (by (first | exact om_b07bdf6620fe  | omega))) (up2_k hV19 (by decide)) (fun i9 => (up2_o hV19 (by decide))) (by rw [m06, (up2_k hV19 (by decide))]; exact rh1) (fun h9 => by rw [m06] at h9; rw [(up2_k hV19 (by decide))]; exact rh.2.1 h9) (fun h9 => by rw [m06] at h9; rw [m09, (up2_s hV19)]; exact ⟨m08 h9, by rw [(up2_k hV19 (by decide))]; exact (rh2 h9).2⟩) (show (V19 5 6).toInt = ((gr.length + 1 : Nat) : Int) from by (first | exact om_66365ac95418 kdp rd rd2 pq33 | omega)) (show (V19 5 7).toInt = ((t0 : Nat) : Int) from by rw [(up2_k hV19 (by decide)), rt9, tz9]) (RWl.push rl32 fo8 rfl (np9 rfl))
        have q70b : (V19 70 gf).toInt = o := by (first | exact om_cd7d0a6a31bc q70 wr26 | omega)
        have q71b : (V19 71 gf).toInt = c := by (first | exact om_cd7d0a6a31bc q71 wr27 | omega)
        have q72b : (V19 72 gf).toInt = pl := by (first | exact om_cd7d0a6a31bc q72 wr28 | omega)
        refine lv_aload_n hx hb dX5_goOnMaking_48 rfl (lv_at hl 1 rfl) ?_
        refine lv_aload_n hx hb dX5_goOnMaking_49 rfl (lv_at hl 2 rfl) ?_
        have pq36 : (V19 67 gf).toInt = ((V 67 gf)).toInt := congrArg Int32.toInt (up2_o hV19 (by decide))
        have me37 : ME V V19 gf := (ME.up ME.rf hV19 (Or.inr (by (first | exact om_ded18bf8e7e5  | omega))))
        have pq38 : (V19 68 gf).toInt = ((V 68 gf)).toInt := congrArg Int32.toInt (up2_o hV19 (by decide))
        have pq39 : (V19 70 gf).toInt = ((V 70 gf)).toInt := congrArg Int32.toInt (up2_o hV19 (by decide))
        have pq40 : (V19 71 gf).toInt = ((V 71 gf)).toInt := congrArg Int32.toInt (up2_o hV19 (by decide))
        have pq41 : (V19 75 gf).toInt = ((V 75 gf)).toInt := congrArg Int32.toInt (up2_o hV19 (by decide))
        have pq42 : (V19 76 gf).toInt = ((V 76 gf)).toInt := congrArg Int32.toInt (up2_o hV19 (by decide))
        have pq43 : (V19 80 gf).toInt = ((V 80 gf)).toInt := congrArg Int32.toInt (up2_o hV19 (by decide))
        have pq44 : (V19 84 gf).toInt = ((V 84 gf)).toInt := congrArg Int32.toInt (up2_o hV19 (by decide))
        have pq45 : (V19 5 8).toInt = ((V 5 8)).toInt := congrArg Int32.toInt (up2_k hV19 (by decide))
        have pq46 : (V19 3 13).toInt = ((V 3 13)).toInt := congrArg Int32.toInt (up2_o hV19 (by decide))
        have pq47 : (V19 43 (5 * b + 2)).toInt = ((V 43 (5 * b + 2))).toInt := congrArg Int32.toInt (up2_o hV19 (by decide))
        have pq48 : (V19 42 b).toInt = ((V 42 b)).toInt := congrArg Int32.toInt (up2_o hV19 (by decide))
        have pq49 : (V19 41 b).toInt = ((V 41 b)).toInt := congrArg Int32.toInt (up2_o hV19 (by decide))
        have mo50 : MO V19 Z b gf False False False := MO.ch mo me37 (up2_o hV19 (by decide)) (up2_o hV19 (by decide)) (fun _ => Or.inl (by omega)) (fun x h => FK.s1 h (by (first | exact om_710535a98d88 gk | omega)) (by (first | exact om_f487bbba8676 gk k68 q70 wr23 wr24 wr26 | omega)) (by (first | exact om_a305bbc40630 q71 wr27 | omega)) (by (first | exact om_65533ac605c6 q75 q76 wr29 wr30 | omega)) (by (first | exact om_4e1f6625f8a5 ra2 wr21 pq47 | omega)) (fun z => z.elim))
        have bc51 : BKc V19 b gB := BKc.b4 bc (agr.b4 (show agr [(5, 11)] [] V V19 from (agr.up agr.rf hV19 rfl)) (by decide))
        refine gA_void (gA_runV (As := [.ref (Z.fa gf)]) (rest := []) (ci := 5) (q0 := 5) hx hb hml hown hg hP hD hK hS hA hnw hgk (x_abandon9 l D ks H.size ad kk V19 L Z (b) (gf) (gB) ((mU gm 0 8 (gm 0 8 + 1))) (ga) (gfr) (gr) hMV19 (show b < 2 from by first | exact om_289974d36c9f hb2 mup | first | omega | ((try (have i_hz18 := Imp.go hz18 (by omega))); omega)) (show gf < Z.nf from by first | exact om_d9a628b8387a hgf gd kdp rd rd2 pq33 | first | omega | ((try (have i_hz18 := Imp.go hz18 (by omega))); omega)) mo50 (show (gf : Int) + 1 = (V19 5 6).toInt from by first | exact om_23ab2a0d3264 gd kdp rd rd2 pq33 | first | omega | ((try (have i_hz18 := Imp.go hz18 (by omega))); omega)) (show (V19 67 gf).toInt = 1 from by first | exact om_ed616bc53b7b gk wr23 | first | omega | ((try (have i_hz18 := Imp.go hz18 (by omega))); omega)) rwx9 bc51 (show (V19 5 6).toInt ≤ 395 from by first | exact om_1150cee5daf6 gd r1 kdp rd rd2 sl9 pq33 | first | omega | ((try (have i_hz18 := Imp.go hz18 (by omega))); omega)) (show (V19 5 9).toInt = 2 ∨ (V19 5 9).toInt = 3 from by first | exact om_5eb78abebfd0 rh1 f16 pq34 | first | omega | ((try (have i_hz18 := Imp.go hz18 (by omega))); omega))) w1332 w1334 w54 w171 w1335 rfl xgMachine hdV_yX5_abandon ⟨Nat.le_of_ble_eq_true rfl, Nat.le_of_ble_eq_true rfl⟩ rfl hl.1 rfl (Nat.le_of_ble_eq_true rfl) dX5_goOnMaking_50 ⟨z0, z0⟩) hP hD hK hS hA (fun u53 H locs w54 hP hD hK hS => ?_)
        obtain ⟨V57, L58⟩ := u53
        obtain ⟨hMV57, ajV57, axL58, t55, t56⟩ := w54
        have axL58 : L = L58 := Eq.symm axL58
        subst axL58
        have hP : va_P D vwCl (xw ad kk V57 L Z) H := hP
        have hD : va_D A (xw ad kk V57 L Z) := hD
        have hMV57 : rgd bX V57 := hMV57
        have ajV57 : agr [(5, 6)] [24, 25, 28] V19 V57 := ajV57
        have agV57 : agr [(3, 13), (3, 14), (3, 15), (5, 6), (5, 8), (5, 9), (5, 10), (5, 11), (5, 12), (5, 13), (5, 14)] [24, 25, 26, 27, 28, 29, 30, 31, 32, 40, 67, 68, 69, 70, 71, 72, 73, 74, 75, 76, 77, 78, 79, 80, 81, 82, 83, 84, 85] V V57 := agV19.tr ajV57 (by decide) (by decide)
        have t55 : MJ V57 Z b := t55
        have t56 : RW V57 gB (mAb gB (mU gm 0 8 (gm 0 8 + 1)) (V19 70 gf).toInt (V19 71 gf).toInt (V19 72 gf).toInt, ga, gr) := t56
        have rx59 : RW V57 gB (stM gB (gm, ga, gfr :: gr)) := by have h9 := t56; rw [q70b, q71b, q72b] at h9; rw [hfe, st_3f (by (first | exact om_6b655dca67f4 rh1 f16 | omega))]; exact h9
        refine W.know (fun kr1 kr2 => ?_)
        refine W.widen (k := zcc Z) (n := zss Z) (Nat.sub_le _ _) (Nat.sub_le _ _) ?_
        exact W.vret hx hb hr (fun t ht hW => ⟨⟨(V57, L, Z), rfl, ⟨hMV57, agV57, rfl, zoZ, t55, rx59⟩, ⟨by rw [ht]; exact hP, va_K.moved hW.alike hK, hD⟩, by rw [ht]; exact kr1, by rw [ht]; exact kr2⟩, hS.F ht⟩) hS.2.2 dX5_goOnMaking_53
      · skip
        have f60 : ((V 5 9)).toInt ≠ 2 := b_neq rfl (by decide) c15
        refine lv_aload_n hx hb dX5_goOnMaking_22 rfl (lv_at hl 1 rfl) ?_
        refine va_get (D := D) (ci := 5) (v := .int (V 5 9)) (fs := (xfMachine ad V L Z)) (C := RX5) (T := TX5) (N := 15) hx hb hg inX5 hown hK hP 5 xgMachine rfl 9 (by decide) (hg _ w676) (fun _ h9 => h9) rfl dX5_goOnMaking_23 ?_
        refine lv_iconst (v := 3) hx hb dX5_goOnMaking_26 (by decide) ?_
        refine lv_icmp_ne (tgt := 54) hx hb dX5_goOnMaking_27 (by decide) (fun c61 => ?_) (fun c61 => ?_)
        · skip
          have f62 : ((V 5 9)).toInt ≠ 3 := b_neq rfl (by decide) c61
          refine lv_iload_n hx hb dX5_goOnMaking_54 rfl (lv_at hl 0 rfl) ?_
          refine lv_if_eq (tgt := 64) hx hb dX5_goOnMaking_55 (by decide) (fun _ => ?_) (fun q => absurd (by decide) q)
          refine lv_aload_n hx hb dX5_goOnMaking_64 rfl (lv_at hl 1 rfl) ?_
          refine va_get (D := D) (ci := 5) (v := .int (V 5 9)) (fs := (xfMachine ad V L Z)) (C := RX5) (T := TX5) (N := 15) hx hb hg inX5 hown hK hP 5 xgMachine rfl 9 (by decide) (hg _ w676) (fun _ h9 => h9) rfl dX5_goOnMaking_65 ?_
          refine lv_iconst (v := 1) hx hb dX5_goOnMaking_68 (by decide) ?_
          refine lv_icmp_ne (tgt := 91) hx hb dX5_goOnMaking_69 (by decide) (fun c63 => ?_) (fun c63 => ?_)
          · skip
            have f64 : ((V 5 9)).toInt ≠ 1 := b_neq rfl (by decide) c63
            have me65 : ME V V gf := ME.rf
            have mo66 : MO V Z b gf False False False := MO.ch mo me65 rfl rfl (fun _ => Or.inl (by omega)) (fun x h => FK.s1 h (by (first | exact om_710535a98d88 gk | omega)) (by (first | exact om_5adeccadcb9e  | omega)) (by (first | exact om_4c2c879c4424  | omega)) (by (first | exact om_792fc26656f2  | omega)) (by (first | exact om_792fc26656f2  | omega)) (fun z => z.elim))
            have mup := MO.up mo66
            have msz := mup.1
            have mbk := mup.2.2.2.1
            obtain ⟨xk, fk⟩ := MO.fk mo66
            have fc := fk.1 (by (first | exact om_627b950e4377 gk | omega))
            have fo := fk.2.1 (by (first | exact om_627b950e4377 gk | omega)) (by (first | exact om_e567d739f369 gk | omega))
            have fi := fk.2.2.2.2.1 (by (first | exact om_710535a98d88 gk | omega))
            refine lv_aload_n hx hb dX5_goOnMaking_91 rfl (lv_at hl 1 rfl) ?_
            refine lv_aload_n hx hb dX5_goOnMaking_92 rfl (lv_at hl 2 rfl) ?_
            refine gA_int (gA_runV (As := [.ref (Z.fa gf)]) (rest := []) (ci := 5) (q0 := 5) hx hb hml hown hg hP hD hK hS hA hnw hgk (x_nextCandidate9 l D ks H.size ad kk V L Z (b) (gf) (gB) hMV (show b < 2 from by (first | exact om_289974d36c9f hb2 mup | omega)) (show gf < Z.nf from by (first | exact om_725d0642dd96 hgf gd kdp rd rd2 | omega)) mo66 (show (gf : Int) + 1 = (V 5 6).toInt from by (first | exact om_d5747674bc98 gd | omega)) (show (V 67 gf).toInt = 1 from by (first | exact om_710535a98d88 gk | omega)) (show (V 68 gf).toInt ≠ 1 from by (first | exact om_bb4847c888e4 k68 | omega)) bc (show 0 ≤ (V 71 gf).toInt from by (first | exact om_762d7ad45f4b r2 fc q71 | omega)) (show (V 71 gf).toInt < ((nC gB : Nat) : Int) from by (first | exact om_8948734dd6fe q71 c1 | omega))) w1370 w1372 w56 w171 w1373 rfl xgMachine hdV_yX5_nextCandidate ⟨Nat.le_of_ble_eq_true rfl, Nat.le_of_ble_eq_true rfl⟩ rfl hl.1 rfl (Nat.le_of_ble_eq_true rfl) dX5_goOnMaking_93 ⟨z0, z0⟩) hP hD hK hS hA (fun z67 u68 H locs w69 hP hD hK hS => ?_)
            obtain ⟨V74, L75⟩ := u68
            obtain ⟨hMV74, ajV74, axL75, rgz67, t70, t71, t72, t73⟩ := w69
            have axL75 : L = L75 := Eq.symm axL75
            subst axL75
            have hP : va_P D vwCl (xw ad kk V74 L Z) H := hP
            have hD : va_D A (xw ad kk V74 L Z) := hD
            have hMV74 : rgd bX V74 := hMV74
            have ajV74 : agr [] [75, 76] V V74 := ajV74
            have agV74 : agr [(3, 13), (3, 14), (3, 15), (5, 6), (5, 8), (5, 9), (5, 10), (5, 11), (5, 12), (5, 13), (5, 14)] [24, 25, 26, 27, 28, 29, 30, 31, 32, 40, 67, 68, 69, 70, 71, 72, 73, 74, 75, 76, 77, 78, 79, 80, 81, 82, 83, 84, 85] V V74 := agV.tr ajV74 (by decide) (by decide)
            have rgz67 : (-1) ≤ z67.toInt ∧ z67.toInt ≤ 23 := rgz67
            have t70 : Imp (0 ≤ z67.toInt) (MO V74 Z b gf True True True) := t70
            have t71 : MO V74 Z b gf False False False := t71
            have t72 : (z67.toInt = -1 ∧ nxC gB (V 71 gf).toInt.toNat 9 (V 75 gf).toInt.toNat (V 76 gf).toInt.toNat = none) ∨ (0 ≤ z67.toInt ∧ nxC gB (V 71 gf).toInt.toNat 9 (V 75 gf).toInt.toNat (V 76 gf).toInt.toNat = some ((V74 75 gf).toInt.toNat, z67.toInt.toNat) ∧ (V74 76 gf).toInt = z67.toInt + 1) := t72
            have t73 : ME V V74 gf := t73
            refine lv_istore_n (lv' := [(3, .int z67), (2, .int 0), (0, .ref (ad 5)), (1, .ref (Z.fa gf))]) hx hb dX5_goOnMaking_96 rfl hl (by decide) rfl (fun ls hl => ?_)
            have mup := MO.up t71
            have msz := mup.1
            have mbk := mup.2.2.2.1
            obtain ⟨xk, fk⟩ := MO.fk t71
            have pq76 : (V74 67 gf).toInt = ((V 67 gf)).toInt := congrArg Int32.toInt (ajV74 67 gf rfl)
            have pq77 : (V74 68 gf).toInt = ((V 68 gf)).toInt := congrArg Int32.toInt (ajV74 68 gf rfl)
            have pq78 : (V74 70 gf).toInt = ((V 70 gf)).toInt := congrArg Int32.toInt (ajV74 70 gf rfl)
            have pq79 : (V74 71 gf).toInt = ((V 71 gf)).toInt := congrArg Int32.toInt (ajV74 71 gf rfl)
            have r80 : 0 ≤ ((V74 75 gf)).toInt ∧ ((V74 75 gf)).toInt ≤ 12 := hMV74 75 gf
            have pq81 : (V74 80 gf).toInt = ((V 80 gf)).toInt := congrArg Int32.toInt (ajV74 80 gf rfl)
            have pq82 : (V74 84 gf).toInt = ((V 84 gf)).toInt := congrArg Int32.toInt (ajV74 84 gf rfl)
            have pq83 : (V74 5 6).toInt = ((V 5 6)).toInt := congrArg Int32.toInt (ajV74 5 6 rfl)
            have pq84 : (V74 5 8).toInt = ((V 5 8)).toInt := congrArg Int32.toInt (ajV74 5 8 rfl)
            have pq85 : (V74 5 9).toInt = ((V 5 9)).toInt := congrArg Int32.toInt (ajV74 5 9 rfl)
            have pq86 : (V74 3 13).toInt = ((V 3 13)).toInt := congrArg Int32.toInt (ajV74 3 13 rfl)
            have pq87 : (V74 43 (5 * b + 2)).toInt = ((V 43 (5 * b + 2))).toInt := congrArg Int32.toInt (ajV74 43 (5 * b + 2) rfl)
            have pq88 : (V74 41 b).toInt = ((V 41 b)).toInt := congrArg Int32.toInt (ajV74 41 b rfl)
            have pq89 : (V74 42 b).toInt = ((V 42 b)).toInt := congrArg Int32.toInt (ajV74 42 b rfl)
            have fc := fk.1 (by (first | exact om_25c06e2ab456 gk pq76 | omega))
            have fo := fk.2.1 (by (first | exact om_25c06e2ab456 gk pq76 | omega)) (by (first | exact om_287ea743a7de gk pq76 | omega))
            have fi := fk.2.2.2.2.1 (by (first | exact om_ed616bc53b7b gk pq76 | omega))
            have nc9 := t72
            have v719 : (V 71 gf).toInt = (V 71 gf).toInt := congrArg Int32.toInt (Eq.refl (V 71 gf))
            have v759 : (V 75 gf).toInt = (V 75 gf).toInt := congrArg Int32.toInt (Eq.refl (V 75 gf))
            have v769 : (V 76 gf).toInt = (V 76 gf).toInt := congrArg Int32.toInt (Eq.refl (V 76 gf))
            rw [v719, v759, v769, q71, q75, q76] at nc9
            refine lv_aload_n hx hb dX5_goOnMaking_97 rfl (lv_at hl 2 rfl) ?_
            refine va_get (D := D) (ci := 5) (v := .ref (ad (38 + Int32.toNatClampNeg (V74 5 5)))) (fs := (xfMachine ad V74 L Z)) (C := RX5) (T := TX5) (N := 15) hx hb hg inX5 hown hK hP 5 xgMachine rfl 5 (by decide) (hg _ w672) (fun _ h9 => h9) rfl dX5_goOnMaking_98 ?_
            have pq90 : (V74 5 5).toInt = ((V 5 5)).toInt := congrArg Int32.toInt (ajV74 5 5 rfl)
            have r91 : 0 ≤ ((V 5 5)).toInt ∧ ((V 5 5)).toInt ≤ 1 := hMV 5 5
            refine g_topv (v := .ref (ad (38 + b))) (rfP (by (first | exact om_c62f5505ba8e mup | omega))) ?_
            refine va_getN (D := D) (ci := 0) (v := .ref (ad (64 + b))) (fs := (xfBook ad V74 b)) (C := RX0) (T := TX0) (N := 13) hx hb hg inX0 hown hK hP (38 + b) (xgBook hb2) rfl 7 (by decide) (hnw.use 618 n618 rfl) (fun _ h9 => h9) rfl dX5_goOnMaking_101 ?_
            refine lv_aload_n hx hb dX5_goOnMaking_104 rfl (lv_at hl 3 rfl) ?_
            refine va_getN (D := D) (ci := 4) (v := .int (V74 71 gf)) (fs := (xfFrame V74 gf)) (C := RX4) (T := TX4) (N := 19) hx hb hg inX4 hown hK hP (336 + gf) (xgFrame hgf) rfl 4 (by decide) (hnw.use 1193 n1193 rfl) (fun _ h9 => h9) rfl dX5_goOnMaking_105 ?_
            refine g_top (v := (V 71 gf)) (ajV74 71 gf rfl) ?_
            have il92 : b < 2 := by (first | exact om_289974d36c9f hb2 mup | omega)
            refine va_aldq (D := D) (i := (V 71 gf)) hx hb hK hP (64 + b) (57 + b) (xgcomps il92) (xtcomps il92) (i_in (a := ((V 71 gf)).toInt) rfl (by (first | exact om_8d1181c29b4e r2 fc q71 pq79 | omega))) dX5_goOnMaking_108 ?_
            have kc93 := i_clamp (x := (V 71 gf)) rfl (by (first | exact om_44ccd27e0c58 r2 fc q71 pq79 | omega))
            refine g_topv (v := .ref (ad (72 + (24 * b + (Int32.toNatClampNeg (V 71 gf)))))) (congrArg va_rf (if_pos (by (first | exact om_7daa30cef4bd r2 fc q71 pq79 kc93 | omega)))) ?_
            have il94 : (24 * b + (Int32.toNatClampNeg (V 71 gf))) < 48 := by (first | exact om_92f31dd97a37 hb2 mup r2 fc q71 pq79 kc93 | omega)
            refine va_getN (D := D) (ci := 3) (v := .int (V74 56 (24 * b + (Int32.toNatClampNeg (V 71 gf))))) (fs := (xfComp ad V74 (24 * b + (Int32.toNatClampNeg (V 71 gf))))) (C := RX3) (T := TX3) (N := 13) hx hb hg inX3 hown hK hP (72 + (24 * b + (Int32.toNatClampNeg (V 71 gf)))) (xgComp il94) rfl 11 (by decide) (hnw.use 539 n539 rfl) (fun _ h9 => h9) rfl dX5_goOnMaking_109 ?_
            refine g_top (v := (V 56 (24 * b + (Int32.toNatClampNeg (V 71 gf))))) (ajV74 56 (24 * b + (Int32.toNatClampNeg (V 71 gf))) rfl) ?_
            have r95 : (-1) ≤ ((V 56 (24 * b + (Int32.toNatClampNeg (V 71 gf))))).toInt ∧ ((V 56 (24 * b + (Int32.toNatClampNeg (V 71 gf))))).toInt ≤ 8200 := hMV 56 (24 * b + (Int32.toNatClampNeg (V 71 gf)))
            refine lv_istore (lv' := [(4, .int (V 56 (24 * b + (Int32.toNatClampNeg (V 71 gf))))), (3, .int z67), (2, .int 0), (0, .ref (ad 5)), (1, .ref (Z.fa gf))]) hx hb dX5_goOnMaking_112 hl (by decide) rfl (fun ls hl => ?_)
            refine lv_iload_n hx hb dX5_goOnMaking_114 rfl (lv_at hl 1 rfl) ?_
            refine lv_iconst (v := (-1)) hx hb dX5_goOnMaking_115 (by decide) ?_
            refine lv_icmp_eq (tgt := 135) hx hb dX5_goOnMaking_116 (by decide) (fun c96 => ?_) (fun c96 => ?_)
            · skip
              have f97 : z67.toInt = (-1) := b_eq rfl (by decide) c96
              refine lv_iload hx hb dX5_goOnMaking_135 (lv_at hl 0 rfl) ?_
              refine lv_iconst (v := (-1)) hx hb dX5_goOnMaking_137 (by decide) ?_
              refine lv_icmp_eq (tgt := 158) hx hb dX5_goOnMaking_138 (by decide) (fun c98 => ?_) (fun c98 => ?_)
              · skip
                have f99 : ((V 56 (24 * b + (Int32.toNatClampNeg (V 71 gf))))).toInt = (-1) := b_eq rfl (by decide) c98
                have wr101 : (V74 3 13).toInt = (V 3 13).toInt := congrArg Int32.toInt (ajV74 3 13 rfl)
                have wr102 : (V74 3 12).toInt = (V 3 12).toInt := congrArg Int32.toInt (ajV74 3 12 rfl)
                have wr103 : (V74 67 gf).toInt = ((V 67 gf)).toInt := (congrArg Int32.toInt (ajV74 67 gf rfl))
                have wr104 : (V74 68 gf).toInt = ((V 68 gf)).toInt := (congrArg Int32.toInt (ajV74 68 gf rfl))
                have wr105 : (V74 69 gf).toInt = ((V 69 gf)).toInt := (congrArg Int32.toInt (ajV74 69 gf rfl))
                have wr106 : (V74 70 gf).toInt = ((V 70 gf)).toInt := (congrArg Int32.toInt (ajV74 70 gf rfl))
                have wr107 : (V74 71 gf).toInt = ((V 71 gf)).toInt := (congrArg Int32.toInt (ajV74 71 gf rfl))
                have wr108 : (V74 72 gf).toInt = ((V 72 gf)).toInt := (congrArg Int32.toInt (ajV74 72 gf rfl))
                have me109 : ME V V74 gf := (ME.tr ME.rf t73)
                have rl110 : RWl V74 gB gr t0 := RWl.mv hlr (fun i9 hi9 c9 h1 h2 => me109.2.1 c9 i9 h1 h2 (by (first | exact om_d533758b7085 gd kdp rd rd2 pq83 hi9 | omega))) (fun j9 hj9 => (ajV74 39 j9 rfl)) (by rw [(ajV74 3 13 rfl)]; exact Int.le_refl _) (ajV74 3 12 rfl)
                have fo8 : FRc V74 gB gr.length (Fmake lv o c pl (V74 75 gf).toInt (V74 76 gf).toInt) := by rw [gl9]; exact ⟨⟨by (first | exact om_ed616bc53b7b gk pq76 | omega), by (first | exact om_36161e850215 k68 pq77 | omega)⟩, ⟨by (first | exact om_cd7d0a6a31bc q69 wr105 | omega), ⟨by (first | exact om_cd7d0a6a31bc q70 pq78 | omega), by (first | exact om_0d76aca5f351 fo q70 pq78 | omega), by (first | exact om_1d2caeb0d97e fo ra2 q70 pq78 pq86 | omega)⟩, ⟨by (first | exact om_cd7d0a6a31bc q71 pq79 | omega), by (first | exact om_93e0589d4dae r2 fc q71 pq79 | omega), by (first | exact om_e52dd4456e8b q71 c1 pq79 | omega)⟩, ⟨by (first | exact om_cd7d0a6a31bc q72 wr108 | omega), by omega, by omega⟩⟩, rfl, rfl⟩
                have rwx100 : RW V74 gB (gm, ga, Fmake lv o c pl (V74 75 gf).toInt (V74 76 gf).toInt :: gr) := RW.id rwq (ESw.ag (show agr [] [75, 76] V V74 from (agr.tr agr.rf ajV74 (by decide) (by decide))) (by decide)) (ajV74 5 9 rfl) (ajV74 5 10 rfl) (ajV74 5 11 rfl) (ajV74 5 12 rfl) (show (V74 5 6).toInt = ((gr.length + 1 : Nat) : Int) from by (first | exact om_66365ac95418 kdp rd rd2 pq83 | omega)) (show (V74 5 7).toInt = ((t0 : Nat) : Int) from by rw [(ajV74 5 7 rfl), rt9, tz9]) (RWl.push rl110 fo8 rfl (np9 rfl))
                have q70c : (V74 70 gf).toInt.toNat = o.toNat := by (first | exact om_448f72891531 r7 fo rh1 k68 q70 ko9 kp7 f14 f60 f62 f64 t72 pq78 pq85 nc9 f97 | omega)
                have h30b : gm 3 (V74 70 gf).toInt.toNat = 0 := by rw [q70c]; exact sf3
                have pq111 : (V74 3 14).toInt = ((V 3 14)).toInt := congrArg Int32.toInt (ajV74 3 14 rfl)
                refine lv_aload_n hx hb dX5_goOnMaking_158 rfl (lv_at hl 3 rfl) ?_
                refine lv_aload_n hx hb dX5_goOnMaking_159 rfl (lv_at hl 4 rfl) ?_
                have bc112 : BKc V74 b gB := BKc.b4 bc (agr.b4 (show agr [] [75, 76] V V74 from (agr.tr agr.rf ajV74 (by decide) (by decide))) (by decide))
                refine gA_void (gA_runV (As := [.ref (Z.fa gf)]) (rest := []) (ci := 5) (q0 := 5) hx hb hml hown hg hP hD hK hS hA hnw hgk (x_finish9 l D ks H.size ad kk V74 L Z (b) (gf) (gB) (gm) (ga) ((Fmake lv o c pl (V74 75 gf).toInt (V74 76 gf).toInt)) (gr) hMV74 (show b < 2 from by (first | exact om_289974d36c9f hb2 mup | omega)) (show gf < Z.nf from by (first | exact om_d9a628b8387a hgf gd kdp rd rd2 pq83 | omega)) t71 (show (gf : Int) + 1 = (V74 5 6).toInt from by (first | exact om_23ab2a0d3264 gd kdp rd rd2 pq83 | omega)) (show (V74 67 gf).toInt = 1 from by (first | exact om_ed616bc53b7b gk pq76 | omega)) rwx100 bc112 (show (V74 5 6).toInt ≤ 395 from by (first | exact om_1150cee5daf6 gd r1 kdp rd rd2 sl9 pq83 | omega)) h30b (show (V74 5 8).toInt ≤ 299 from by (first | exact om_1658fba1d09c r6 rh8 sf1 pq84 | omega)) (show 0 ≤ (V74 3 14).toInt from by (first | exact om_1b4ad3a85057 en9 en8 pq111 | omega)) (show (V74 3 14).toInt ≤ 300 from by (first | exact om_480f9ad3bdf4 en9 en8 pq111 | omega))) w1344 w1346 w55 w171 w1347 rfl xgMachine hdV_yX5_finish ⟨Nat.le_of_ble_eq_true rfl, Nat.le_of_ble_eq_true rfl⟩ rfl hl.1 rfl (Nat.le_of_ble_eq_true rfl) dX5_goOnMaking_160 ⟨z0, z0⟩) hP hD hK hS hA (fun u114 H locs w115 hP hD hK hS => ?_)
                obtain ⟨V118, L119⟩ := u114
                obtain ⟨hMV118, ajV118, axL119, t116, t117⟩ := w115
                have axL119 : L = L119 := Eq.symm axL119
                subst axL119
                have hP : va_P D vwCl (xw ad kk V118 L Z) H := hP
                have hD : va_D A (xw ad kk V118 L Z) := hD
                have hMV118 : rgd bX V118 := hMV118
                have ajV118 : agr [(3, 14), (5, 6), (5, 8), (5, 9), (5, 10)] [28, 29, 40] V74 V118 := ajV118
                have agV118 : agr [(3, 13), (3, 14), (3, 15), (5, 6), (5, 8), (5, 9), (5, 10), (5, 11), (5, 12), (5, 13), (5, 14)] [24, 25, 26, 27, 28, 29, 30, 31, 32, 40, 67, 68, 69, 70, 71, 72, 73, 74, 75, 76, 77, 78, 79, 80, 81, 82, 83, 84, 85] V V118 := agV74.tr ajV118 (by decide) (by decide)
                have t116 : MJ V118 Z b := t116
                have t117 : RW V118 gB (mAns (mDone gm (V74 70 gf).toInt.toNat) (nI (V74 70 gf).toInt.toNat) gr) := t117
                have nn9 := (nc9.resolve_right (fun h9 => by have h8 := h9.1; (first | exact om_2dea9bdd6084 f97 h9 | omega))).2
                have op9 := BKc.op bc cn9
                rw [← kc9] at op9
                have op8 : bE gB c.toNat 30 = 0 := by rcases op9 with h9 | h9; (rw [kc9] at h9; exact h9.2); (exfalso; (first | exact om_230a843bd84f f99 h9 | omega))
                have rx120 : RW V118 gB (stM gB (gm, ga, gfr :: gr)) := by have h9 := t117; rw [q70c] at h9; rw [hfe, st_3d (fun h9 => by (first | exact om_86167166a288 rh1 f60 f62 f64 t72 pq85 nc9 f97 f99 op9 h9 | omega)) nn9 op8, if_neg (show ¬ gm 0 6 = 1 from by (first | exact om_5df11a44681e rh1 f64 t72 pq85 nc9 f97 f99 op9 | omega))]; exact h9
                refine W.know (fun kr1 kr2 => ?_)
                refine W.widen (k := zcc Z) (n := zss Z) (Nat.sub_le _ _) (Nat.sub_le _ _) ?_
                exact W.vret hx hb hr (fun t ht hW => ⟨⟨(V118, L, Z), rfl, ⟨hMV118, agV118, rfl, zoZ, t116, rx120⟩, ⟨by rw [ht]; exact hP, va_K.moved hW.alike hK, hD⟩, by rw [ht]; exact kr1, by rw [ht]; exact kr2⟩, hS.F ht⟩) hS.2.2 dX5_goOnMaking_163
              · skip
                have f121 : ((V 56 (24 * b + (Int32.toNatClampNeg (V 71 gf))))).toInt ≠ (-1) := b_neq rfl (by decide) c98
                have kcc := i_clamp (x := V 71 gf) rfl (by (first | exact om_44ccd27e0c58 r2 fc q71 pq79 | omega))
                have htx := (mup.2.1.1 (Int32.toNatClampNeg (V 71 gf)) (by (first | exact om_0eab07fdf899 fc q71 pq79 pq87 kc93 | omega))).1
                rw [(ajV74 56 (24 * b + Int32.toNatClampNeg (V 71 gf)) rfl)] at htx
                have hgs := htx.resolve_left (by (first | exact om_76f763d5695a f121 | omega))
                refine lv_aload_n hx hb dX5_goOnMaking_141 rfl (lv_at hl 4 rfl) ?_
                refine lv_iconst (v := 1) hx hb dX5_goOnMaking_142 (by decide) ?_
                refine va_putN (D := D) (ci := 4) (v := .int 1) (ty := tyX4 1) (fs := (xfFrame V74 gf)) (C := RX4) (T := TX4) (N := 19) hx hb hg inX4 tyX4 tyX4_ok nmX4 hown hK hP hD hS (336 + gf) (xgFrame hgf) rfl 1 (by decide) (hnw.use 1190 n1190 rfl) (fun _ h9 => h9) rfl (tyX4_ok 1 (by decide)) rfl rfl (Nat.le_of_ble_eq_true rfl) dX5_goOnMaking_143 (fun H locs hP hD hS => ?_)
                obtain ⟨V122, hV122⟩ : ∃ z, z = up2 V74 68 gf 1 := ⟨_, rfl⟩
                have ew123 : (xw ad kk V74 L Z).set (336 + gf) ((Z.fa gf), .inr (4, (xfFrame V74 gf).set 1 (.int 1))) = xw ad kk V122 L Z := by rw [hV122]; exact xpFrame_phase hgf
                have hP : va_P D vwCl (xw ad kk V122 L Z) H := by rw [← ew123]; exact hP
                have hD : va_D A (xw ad kk V122 L Z) := by rw [← ew123]; exact hD
                have hMV122 : rgd bX V122 := hMV74.put hV122 (i_full _)
                have agV122 : agr [(3, 13), (3, 14), (3, 15), (5, 6), (5, 8), (5, 9), (5, 10), (5, 11), (5, 12), (5, 13), (5, 14)] [24, 25, 26, 27, 28, 29, 30, 31, 32, 40, 67, 68, 69, 70, 71, 72, 73, 74, 75, 76, 77, 78, 79, 80, 81, 82, 83, 84, 85] V V122 := agV74.up hV122 rfl
                refine lv_aload_n hx hb dX5_goOnMaking_146 rfl (lv_at hl 3 rfl) ?_
                refine lv_aload_n hx hb dX5_goOnMaking_147 rfl (lv_at hl 4 rfl) ?_
                refine lv_iload hx hb dX5_goOnMaking_148 (lv_at hl 0 rfl) ?_
                refine lv_iconst (v := 0) hx hb dX5_goOnMaking_150 (by decide) ?_
                have r124 : Int32.toInt 0 = 0 := by decide
                have pq125 : (V122 71 gf).toInt = ((V 71 gf)).toInt := congrArg Int32.toInt ((up2_o hV122 (by decide)).trans (ajV74 71 gf rfl))
                have pq126 : (V122 43 (5 * b + 2)).toInt = ((V 43 (5 * b + 2))).toInt := congrArg Int32.toInt ((up2_o hV122 (by decide)).trans (ajV74 43 (5 * b + 2) rfl))
                have pq127 : (V122 3 13).toInt = ((V 3 13)).toInt := congrArg Int32.toInt ((up2_o hV122 (by decide)).trans (ajV74 3 13 rfl))
                have pq128 : (V122 70 gf).toInt = ((V 70 gf)).toInt := congrArg Int32.toInt ((up2_o hV122 (by decide)).trans (ajV74 70 gf rfl))
                have me129 : ME V74 V122 gf := (ME.up ME.rf hV122 (Or.inl ⟨by decide, by decide, Nat.le_refl _⟩))
                have pq130 : (V122 67 gf).toInt = ((V 67 gf)).toInt := congrArg Int32.toInt ((up2_o hV122 (by decide)).trans (ajV74 67 gf rfl))
                have pq131 : (V122 68 gf).toInt = 1 := (congrArg Int32.toInt (up2_s hV122)).trans (by decide)
                have pq132 : (V122 75 gf).toInt = ((V74 75 gf)).toInt := congrArg Int32.toInt (up2_o hV122 (by decide))
                have pq133 : (V122 76 gf).toInt = ((V74 76 gf)).toInt := congrArg Int32.toInt (up2_o hV122 (by decide))
                have pq134 : (V122 80 gf).toInt = ((V 80 gf)).toInt := congrArg Int32.toInt ((up2_o hV122 (by decide)).trans (ajV74 80 gf rfl))
                have pq135 : (V122 84 gf).toInt = ((V 84 gf)).toInt := congrArg Int32.toInt ((up2_o hV122 (by decide)).trans (ajV74 84 gf rfl))
                have pq136 : (V122 5 6).toInt = ((V 5 6)).toInt := congrArg Int32.toInt ((up2_o hV122 (by decide)).trans (ajV74 5 6 rfl))
                have pq137 : (V122 5 8).toInt = ((V 5 8)).toInt := congrArg Int32.toInt ((up2_o hV122 (by decide)).trans (ajV74 5 8 rfl))
                have pq138 : (V122 5 9).toInt = ((V 5 9)).toInt := congrArg Int32.toInt ((up2_o hV122 (by decide)).trans (ajV74 5 9 rfl))
                have pq139 : (V122 42 b).toInt = ((V 42 b)).toInt := congrArg Int32.toInt ((up2_o hV122 (by decide)).trans (ajV74 42 b rfl))
                have pq140 : (V122 41 b).toInt = ((V 41 b)).toInt := congrArg Int32.toInt ((up2_o hV122 (by decide)).trans (ajV74 41 b rfl))
                have mo141 : MO V122 Z b gf True True True := MO.ch t71 me129 (up2_o hV122 (by decide)) (up2_o hV122 (by decide)) (fun _ => Or.inl (by (first | exact om_25c06e2ab456 gk pq76 | omega))) (fun x h => FK.k1 (by (first | exact om_ed616bc53b7b gk pq130 | omega)) (by (first | exact om_781b7f015ee8 r2 fc q71 pq79 pq87 pq125 pq126 | omega)) (by (first | exact om_cf16e50d2df1 fo ra2 q70 pq78 pq86 pq127 pq128 | omega)) (by (first | exact om_38fed3293511 r80 fi pq132 pq133 | omega)) (h.2.2.2.2.2.1 (by (first | exact om_ed616bc53b7b gk pq76 | omega))).1 (fun hph => absurd hph (by (first | exact om_c7e952e81180 pq131 | omega))))
                have mt142 : MT V122 Z b := MO.mt mo141 (by (first | exact om_2434fae35798 hgf gd kdp rd rd2 pq83 pq136 | omega)) (by (first | exact om_168b5391e5e5 gd kdp rd rd2 pq83 pq136 | omega))
                have me143 : ME V74 V122 0 := (ME.up ME.rf hV122 (Or.inl ⟨by decide, by decide, by (first | exact om_462b5fbff02f gd r1 kdp rd rd2 sl9 pq83 pq136 | omega)⟩))
                have ha144 : (V122 42 b).toInt ≤ ((V 56 (24 * b + (Int32.toNatClampNeg (V 71 gf))))).toInt ∨ (bdp V122 b (((V 56 (24 * b + (Int32.toNatClampNeg (V 71 gf))))).toInt).toNat).1 = true := by rw [me143.1.bd, me143.1 42 b (by decide) (by decide)]; exact gs.fk hgs (hMV74 42 b).2
                refine W.know (fun k146 k147 => ?_)
                obtain ⟨Hk145, hHk145⟩ : ∃ z, z = H := ⟨_, rfl⟩
                have k146 : Hk145.size ≤ s.heap.size + (zcc Z - zcc Z) := by rw [hHk145]; exact k146
                have k147 : tot Hk145 ≤ tot s.heap + (zss Z - zss Z) := by rw [hHk145]; exact k147
                refine gZ_ref (gA_runV (As := [.ref (Z.fa gf), .int (V 56 (24 * b + (Int32.toNatClampNeg (V 71 gf)))), .int 0]) (rest := []) (ci := 5) (q0 := 5) hx hb hml hown hg hP hD hK hS hA hnw hgk (x_pushWork9 l D ks H.size ad kk V122 L Z (V 56 (24 * b + (Int32.toNatClampNeg (V 71 gf)))) 0 (b) (gf) hMV122 (by (first | exact om_6cfc8102aa19 r12 pq89 r95 f121 pq139 ha144 | omega)) (show b < 2 from by (first | exact om_289974d36c9f hb2 mup | omega)) (show gf < Z.nf from by (first | exact om_da2bb0b6ad5d hgf gd kdp rd rd2 pq83 pq136 | omega)) mt142 (show 0 ≤ (V122 71 gf).toInt ∧ (V122 71 gf).toInt < (V122 43 (5 * b + 2)).toInt from by (first | exact om_781b7f015ee8 r2 fc q71 pq79 pq87 pq125 pq126 | omega)) (show 0 ≤ (V122 70 gf).toInt ∧ (V122 70 gf).toInt < (V122 3 13).toInt from by (first | exact om_cf16e50d2df1 fo ra2 q70 pq78 pq86 pq127 pq128 | omega)) ha144) w1376 w1378 w57 w171 w1379 rfl xgMachine hdV_yX5_pushWork ⟨Nat.le_of_ble_eq_true rfl, Nat.le_of_ble_eq_true rfl⟩ rfl hl.1 rfl (Nat.le_of_ble_eq_true rfl) dX5_goOnMaking_151 ⟨z1 zoZ.1, z1 zoZ.2.1⟩) hD hS hA (fun u149 H locs w150 hP hD hK hS y151 y152 => ?_)
                obtain ⟨V153, L154, Z155, f156⟩ := u149
                obtain ⟨hMV153, ajV153, axL154, zlZ155, ilf156, t157, t158, t159, t160, t161⟩ := w150
                have axL154 : L = L154 := Eq.symm axL154
                subst axL154
                have hP : va_P D vwCl (xw ad kk V153 L Z155) H := hP
                have hD : va_D A (xw ad kk V153 L Z155) := hD
                have hK : va_K D vwCl (xty kk Z155) s := hK
                have hMV153 : rgd bX V153 := hMV153
                have ajV153 : agr [(5, 6), (5, 9)] [67, 68, 69, 70, 71, 72, 73, 74, 75, 76, 77, 78, 79, 80, 81, 82, 83, 84, 85] V122 V153 := ajV153
                have agV153 : agr [(3, 13), (3, 14), (3, 15), (5, 6), (5, 8), (5, 9), (5, 10), (5, 11), (5, 12), (5, 13), (5, 14)] [24, 25, 26, 27, 28, 29, 30, 31, 32, 40, 67, 68, 69, 70, 71, 72, 73, 74, 75, 76, 77, 78, 79, 80, 81, 82, 83, 84, 85] V V153 := agV122.tr ajV153 (by decide) (by decide)
                have zlZ155 : ZL Z Z155 := zlZ155
                have zoZ155 : ZL Z Z155 := ZL.tr zoZ zlZ155
                have ziZ155 := zlZ155.1
                have zjZ155 := zlZ155.2.1
                have zkZ155 := zlZ155.2.2.1
                have zmZ155 := zoZ155.1
                have znZ155 := zoZ155.2.1
                have zpZ_Z155 := zoZ.1
                have zqZ_Z155 := zoZ.2.1
                have y151 : H.size ≤ Hk145.size + (zcc Z - zcc Z155) := by rw [hHk145]; exact y151
                have y152 : tot H ≤ tot Hk145 + (zss Z - zss Z155) := by rw [hHk145]; exact y152
                refine W.tight (k := zcc Z - zcc Z155) (n := zss Z - zss Z155) (by first | exact tg9 y151 k146 zlZ155.1 zoZ.1 | omega) (by first | exact tg9 y152 k147 zlZ155.2.1 zoZ.2.1 | omega) ?_
                have hl : lv_has ls 5 [(4, .int (V 56 (24 * b + (Int32.toNatClampNeg (V 71 gf))))), (3, .int z67), (2, .int 0), (0, .ref (ad 5)), (1, .ref (Z155.fa gf))] := by rw [zlZ155.2.2.2.2 gf hgf]; exact hl
                have ilf156 : f156 < Z155.nf := ilf156
                have t157 : MJ V153 Z155 b := t157
                have t158 : (f156 : Int) + 1 = (V153 5 6).toInt := t158
                have t159 : (V153 67 f156).toInt = 4 ∧ (V153 68 f156).toInt = 0 := t159
                have t160 : (V153 5 9).toInt = 0 := t160
                have t161 : Imp ((V122 5 6).toInt < 400 ∧ (gf : Int) < (V122 5 6).toInt) (PWk V122 V153 gf ((V122 5 6).toInt.toNat) (V 56 (24 * b + (Int32.toNatClampNeg (V 71 gf)))) 0) := t161
                have r162 : 0 ≤ ((V153 5 6)).toInt ∧ ((V153 5 6)).toInt ≤ 400 := hMV153 5 6
                have r163 : 0 ≤ ((V153 5 9)).toInt ∧ ((V153 5 9)).toInt ≤ 3 := hMV153 5 9
                refine lv_pop hx hb dX5_goOnMaking_154 rfl ?_
                refine lv_goto (tgt := 163) hx hb dX5_goOnMaking_155 (by decide) ?_
                have nn9 := (nc9.resolve_right (fun h9 => by have h8 := h9.1; (first | exact om_2dea9bdd6084 f97 h9 | omega))).2
                have op9 := BKc.op bc cn9
                rw [← kc9] at op9
                have pw := Imp.go t161 ⟨by (first | exact om_c3daef7b59b7 gd r1 kdp rd rd2 sl9 pq83 pq136 | omega), by (first | exact om_d1f279542b09 gd kdp rd rd2 pq83 pq136 | omega)⟩
                have pi9 : (V122 5 6).toInt.toNat = gr.length + 1 := by (first | exact om_772f68fbd794 gd r1 kdp rd rd2 sl9 pq83 pq136 | omega)
                rw [pi9] at pw
                obtain ⟨⟨pd1, pd2, pke⟩, ⟨pk1, pk2⟩, ⟨p69, p70, p71, p72, p73⟩, pag, pat, pba, pps⟩ := pw
                have wr165 : (V153 3 13).toInt = (V 3 13).toInt := congrArg Int32.toInt ((ajV153 3 13 rfl).trans ((up2_o hV122 (by decide)).trans (ajV74 3 13 rfl)))
                have wr166 : (V153 3 12).toInt = (V 3 12).toInt := congrArg Int32.toInt ((ajV153 3 12 rfl).trans ((up2_o hV122 (by decide)).trans (ajV74 3 12 rfl)))
                have wr167 : (V153 67 gf).toInt = ((V 67 gf)).toInt := (congrArg Int32.toInt ((pke gf (by (first | exact om_c9f168eff5a6 gd kdp rd rd2 | omega)) 67 (by decide) (by decide)).trans ((up2_o hV122 (by decide)).trans (ajV74 67 gf rfl))))
                have wr168 : (V153 68 gf).toInt = 1 := (congrArg Int32.toInt ((pke gf (by (first | exact om_c9f168eff5a6 gd kdp rd rd2 | omega)) 68 (by decide) (by decide)).trans (up2_s hV122))).trans (by decide)
                have wr169 : (V153 69 gf).toInt = ((V 69 gf)).toInt := (congrArg Int32.toInt ((pke gf (by (first | exact om_c9f168eff5a6 gd kdp rd rd2 | omega)) 69 (by decide) (by decide)).trans ((up2_o hV122 (by decide)).trans (ajV74 69 gf rfl))))
                have wr170 : (V153 70 gf).toInt = ((V 70 gf)).toInt := (congrArg Int32.toInt ((pke gf (by (first | exact om_c9f168eff5a6 gd kdp rd rd2 | omega)) 70 (by decide) (by decide)).trans ((up2_o hV122 (by decide)).trans (ajV74 70 gf rfl))))
                have wr171 : (V153 71 gf).toInt = ((V 71 gf)).toInt := (congrArg Int32.toInt ((pke gf (by (first | exact om_c9f168eff5a6 gd kdp rd rd2 | omega)) 71 (by decide) (by decide)).trans ((up2_o hV122 (by decide)).trans (ajV74 71 gf rfl))))
                have wr172 : (V153 72 gf).toInt = ((V 72 gf)).toInt := (congrArg Int32.toInt ((pke gf (by (first | exact om_c9f168eff5a6 gd kdp rd rd2 | omega)) 72 (by decide) (by decide)).trans ((up2_o hV122 (by decide)).trans (ajV74 72 gf rfl))))
                have wr173 : (V153 69 (gr.length + 1)).toInt = ((V 69 gf)).toInt := (congrArg Int32.toInt (p69.trans ((up2_o hV122 (by decide)).trans (ajV74 69 gf rfl))))
                have wr174 : (V153 70 (gr.length + 1)).toInt = ((V 70 gf)).toInt := (congrArg Int32.toInt (p70.trans ((up2_o hV122 (by decide)).trans (ajV74 70 gf rfl))))
                have wr175 : (V153 71 (gr.length + 1)).toInt = ((V 71 gf)).toInt := (congrArg Int32.toInt (p71.trans ((up2_o hV122 (by decide)).trans (ajV74 71 gf rfl))))
                have wr176 : (V153 72 (gr.length + 1)).toInt = ((V 72 gf)).toInt := (congrArg Int32.toInt (p72.trans ((up2_o hV122 (by decide)).trans (ajV74 72 gf rfl))))
                have me177 : ME V V122 gf := (ME.up (ME.tr ME.rf t73) hV122 (Or.inl ⟨by decide, by decide, Nat.le_refl _⟩))
                have rl178 : RWl V153 gB gr t0 := RWl.mv hlr (fun i9 hi9 c9 h1 h2 => ((pke i9 (by (first | exact om_ece061ed2414 kdp rd rd2 pq83 pq136 pi9 hi9 | omega)) c9 h1 h2)).trans (me177.2.1 c9 i9 h1 h2 (by (first | exact om_71cd2a47015e gd kdp rd rd2 pq83 pq136 pi9 hi9 | omega)))) (fun j9 hj9 => ((ajV153 39 j9 rfl).trans ((up2_o hV122 (by decide)).trans (ajV74 39 j9 rfl)))) (by rw [((ajV153 3 13 rfl).trans ((up2_o hV122 (by decide)).trans (ajV74 3 13 rfl)))]; exact Int.le_refl _) ((ajV153 3 12 rfl).trans ((up2_o hV122 (by decide)).trans (ajV74 3 12 rfl)))
                have op8 := op9.resolve_left (fun h9 => by have h8 := h9.1; (first | exact om_45eab5ad7e0d gd r1 kdp r12 rd rd2 sl9 pq83 pq89 f121 pq136 pq139 ha144 ziZ155 zjZ155 op9 pi9 h9 | omega))
                rw [kc9] at op8
                have fb8 : FRc V153 gB gr.length (Fopen lv o c pl) := by rw [gl9]; exact ⟨⟨by (first | exact om_ed616bc53b7b gk wr167 | omega), by (first | exact om_710535a98d88 wr168 | omega)⟩, ⟨by (first | exact om_cd7d0a6a31bc q69 wr169 | omega), ⟨by (first | exact om_6ba44aa2159d q70 pq78 pq128 wr170 | omega), by (first | exact om_e3a7c8118e40 fo q70 pq78 pq128 wr170 wr174 | omega), by (first | exact om_bd8f4eb2e3bb fo ra2 q70 pq78 pq86 pq127 pq128 wr165 wr170 wr174 | omega)⟩, ⟨by (first | exact om_6ba44aa2159d q71 pq79 pq125 wr171 | omega), by (first | exact om_db89caf965cd r2 fc q71 pq79 pq125 wr171 wr175 | omega), by (first | exact om_f31cbc3d332b q71 c1 pq79 pq125 wr171 wr175 | omega)⟩, ⟨by (first | exact om_cd7d0a6a31bc q72 wr172 | omega), by omega, by omega⟩⟩⟩
                have ft9 : FRc V153 gB (gr.length + 1) (Fwork lv o c pl 0 0 ((bE gB c.toNat 30 - 1 : Nat) : Int) 0 []) := ⟨⟨pk1, pk2⟩, ⟨by (first | exact om_25a0d8f2ad9d q69 wr169 wr173 | omega), ⟨by (first | exact om_6f38a89edb0f q70 pq78 pq128 wr170 wr174 | omega), by (first | exact om_e3a7c8118e40 fo q70 pq78 pq128 wr170 wr174 | omega), by (first | exact om_bd8f4eb2e3bb fo ra2 q70 pq78 pq86 pq127 pq128 wr165 wr170 wr174 | omega)⟩, ⟨by (first | exact om_6f38a89edb0f q71 pq79 pq125 wr171 wr175 | omega), by (first | exact om_db89caf965cd r2 fc q71 pq79 pq125 wr171 wr175 | omega), by (first | exact om_f31cbc3d332b q71 c1 pq79 pq125 wr171 wr175 | omega)⟩, ⟨by (first | exact om_25a0d8f2ad9d q72 wr172 wr176 | omega), by omega, by omega⟩⟩, (fun h9 => absurd h9 (by decide)), ⟨Int.natCast_nonneg _, (show (V153 84 (gr.length + 1)).toInt = ((psz (opf gB.1) (bE gB c.toNat 30 - 1) : Nat) : Int) from by rw [pat]; have h9 := op8.2; rw [← kc9] at h9 ⊢; (first | exact om_256580d80fac h9 | omega))⟩, pag⟩
                have rz9 : RW V153 gB (mU gm 0 6 0, ga, Fwork lv o c pl 0 0 ((bE gB c.toNat 30 - 1 : Nat) : Int) 0 [] :: Fopen lv o c pl :: gr) := RW.sgn rwq (ESw.ag (show agr [(5, 6), (5, 9)] [67, 68, 69, 70, 71, 72, 73, 74, 75, 76, 77, 78, 79, 80, 81, 82, 83, 84, 85] V V153 from (agr.tr (agr.up (agr.tr agr.rf ajV74 (by decide) (by decide)) hV122 rfl) ajV153 (by decide) (by decide))) (by decide)) pd2 (fun h9 => absurd h9 (by decide)) (fun h9 => absurd h9 (by decide)) (show (V153 5 6).toInt = ((gr.length + 1 + 1 : Nat) : Int) from by (first | exact om_ae94b8bdbde5 kdp rd rd2 pq83 pq136 pi9 pd1 | omega)) (show (V153 5 7).toInt = ((t0 : Nat) : Int) from by rw [(show agr [(5, 6), (5, 9)] [67, 68, 69, 70, 71, 72, 73, 74, 75, 76, 77, 78, 79, 80, 81, 82, 83, 84, 85] V V153 from (agr.tr (agr.up (agr.tr agr.rf ajV74 (by decide) (by decide)) hV122 rfl) ajV153 (by decide) (by decide))) 5 7 rfl, rt9, tz9]) (RWl.push (RWl.push rl178 fb8 rfl (np9 rfl)) ft9 rfl (fun _ _ => (show (V153 85 (gr.length + 1)).toInt = ((t0 : Nat) : Int) from by rw [pba, ((up2_o hV122 (by decide)).trans (ajV74 5 7 rfl)), rt9, tz9])))
                have rx179 : RW V153 gB (stM gB (gm, ga, gfr :: gr)) := by rw [hfe, st_3w (fun h9 => by (first | exact om_993a3740c885 gd r1 kdp r12 rd rd2 sl9 rh1 f60 f62 f64 t72 pq83 pq85 pq89 nc9 r95 f97 f121 pq136 pq138 pq139 ha144 ziZ155 zjZ155 op9 pi9 op8 h9 | omega)) nn9 op8.1, if_neg (show ¬ gm 0 6 = 1 from by (first | exact om_fb107d70087f gd r1 kdp r12 rd rd2 sl9 rh1 f64 t72 pq83 pq85 pq89 nc9 r95 f97 f121 pq136 pq138 pq139 ha144 ziZ155 zjZ155 op9 pi9 op8 | omega))]; exact rz9
                refine W.know (fun kr1 kr2 => ?_)
                refine W.widen (k := zcc Z) (n := zss Z) (Nat.sub_le _ _) (Nat.sub_le _ _) ?_
                exact W.vret hx hb hr (fun t ht hW => ⟨⟨(V153, L, Z155), rfl, ⟨hMV153, agV153, rfl, zoZ155, t157, rx179⟩, ⟨by rw [ht]; exact hP, va_K.moved hW.alike hK, hD⟩, by rw [ht]; exact kr1, by rw [ht]; exact kr2⟩, hS.F ht⟩) hS.2.2 dX5_goOnMaking_163
            · skip
              have f180 : z67.toInt ≠ (-1) := b_neq rfl (by decide) c96
              have mow181 : MO V74 Z b gf True True False := MO.w (Imp.go t70 (by (first | exact om_f1651ded9b83 rgz67 f180 | omega))) id id False.elim
              have nd9 := nc9.resolve_left (fun h9 => by have h8 := h9.1; (first | exact om_e21108494fba f180 h9 | omega))
              have nl9 := nxC_lt _ _ _ nd9.2.1
              have bn8 := bc.2.2.2.1.2.1
              have r75 : 0 ≤ (V74 75 gf).toInt ∧ (V74 75 gf).toInt ≤ 12 := hMV74 75 gf
              have nd76 := nd9.2.2
              have wr183 : (V74 3 13).toInt = (V 3 13).toInt := congrArg Int32.toInt (ajV74 3 13 rfl)
              have wr184 : (V74 3 12).toInt = (V 3 12).toInt := congrArg Int32.toInt (ajV74 3 12 rfl)
              have wr185 : (V74 67 gf).toInt = ((V 67 gf)).toInt := (congrArg Int32.toInt (ajV74 67 gf rfl))
              have wr186 : (V74 68 gf).toInt = ((V 68 gf)).toInt := (congrArg Int32.toInt (ajV74 68 gf rfl))
              have wr187 : (V74 69 gf).toInt = ((V 69 gf)).toInt := (congrArg Int32.toInt (ajV74 69 gf rfl))
              have wr188 : (V74 70 gf).toInt = ((V 70 gf)).toInt := (congrArg Int32.toInt (ajV74 70 gf rfl))
              have wr189 : (V74 71 gf).toInt = ((V 71 gf)).toInt := (congrArg Int32.toInt (ajV74 71 gf rfl))
              have wr190 : (V74 72 gf).toInt = ((V 72 gf)).toInt := (congrArg Int32.toInt (ajV74 72 gf rfl))
              have me191 : ME V V74 gf := (ME.tr ME.rf t73)
              have rl192 : RWl V74 gB gr t0 := RWl.mv hlr (fun i9 hi9 c9 h1 h2 => me191.2.1 c9 i9 h1 h2 (by (first | exact om_d533758b7085 gd kdp rd rd2 pq83 hi9 | omega))) (fun j9 hj9 => (ajV74 39 j9 rfl)) (by rw [(ajV74 3 13 rfl)]; exact Int.le_refl _) (ajV74 3 12 rfl)
              have fo8 : FRc V74 gB gr.length (Fmake lv o c pl (((V74 75 gf).toInt.toNat : Nat) : Int) ((z67.toInt.toNat + 1 : Nat) : Int)) := by rw [gl9]; exact ⟨⟨by (first | exact om_ed616bc53b7b gk pq76 | omega), by (first | exact om_36161e850215 k68 pq77 | omega)⟩, ⟨by (first | exact om_cd7d0a6a31bc q69 wr187 | omega), ⟨by (first | exact om_cd7d0a6a31bc q70 pq78 | omega), by (first | exact om_0d76aca5f351 fo q70 pq78 | omega), by (first | exact om_1d2caeb0d97e fo ra2 q70 pq78 pq86 | omega)⟩, ⟨by (first | exact om_cd7d0a6a31bc q71 pq79 | omega), by (first | exact om_93e0589d4dae r2 fc q71 pq79 | omega), by (first | exact om_e52dd4456e8b q71 c1 pq79 | omega)⟩, ⟨by (first | exact om_cd7d0a6a31bc q72 wr190 | omega), by omega, by omega⟩⟩, by (first | exact om_71c4dacf25bf r80 fi | omega), by (first | exact om_9849c7463938 rgz67 nd9 | omega)⟩
              have rwx182 : RW V74 gB (gm, ga, Fmake lv o c pl (((V74 75 gf).toInt.toNat : Nat) : Int) ((z67.toInt.toNat + 1 : Nat) : Int) :: gr) := RW.id rwq (ESw.ag (show agr [] [75, 76] V V74 from (agr.tr agr.rf ajV74 (by decide) (by decide))) (by decide)) (ajV74 5 9 rfl) (ajV74 5 10 rfl) (ajV74 5 11 rfl) (ajV74 5 12 rfl) (show (V74 5 6).toInt = ((gr.length + 1 : Nat) : Int) from by (first | exact om_66365ac95418 kdp rd rd2 pq83 | omega)) (show (V74 5 7).toInt = ((t0 : Nat) : Int) from by rw [(ajV74 5 7 rfl), rt9, tz9]) (RWl.push rl192 fo8 rfl (np9 rfl))
              refine lv_aload_n hx hb dX5_goOnMaking_119 rfl (lv_at hl 3 rfl) ?_
              refine lv_iload_n hx hb dX5_goOnMaking_120 rfl (lv_at hl 1 rfl) ?_
              refine lv_aload_n hx hb dX5_goOnMaking_121 rfl (lv_at hl 4 rfl) ?_
              refine va_getN (D := D) (ci := 4) (v := .int (V74 72 gf)) (fs := (xfFrame V74 gf)) (C := RX4) (T := TX4) (N := 19) hx hb hg inX4 hown hK hP (336 + gf) (xgFrame hgf) rfl 5 (by decide) (hnw.use 1194 n1194 rfl) (fun _ h9 => h9) rfl dX5_goOnMaking_122 ?_
              refine g_top (v := (V 72 gf)) (ajV74 72 gf rfl) ?_
              have r193 : 0 ≤ ((V 72 gf)).toInt ∧ ((V 72 gf)).toInt ≤ 39 := hMV 72 gf
              refine lv_aload_n hx hb dX5_goOnMaking_125 rfl (lv_at hl 4 rfl) ?_
              refine va_getN (D := D) (ci := 4) (v := .int (V74 69 gf)) (fs := (xfFrame V74 gf)) (C := RX4) (T := TX4) (N := 19) hx hb hg inX4 hown hK hP (336 + gf) (xgFrame hgf) rfl 2 (by decide) (hnw.use 1191 n1191 rfl) (fun _ h9 => h9) rfl dX5_goOnMaking_126 ?_
              refine g_top (v := (V 69 gf)) (ajV74 69 gf rfl) ?_
              have mt194 : MTw V74 Z b := MO.mtw mow181 (by (first | exact om_6f738fa1827e hgf gd kdp rd rd2 pq83 | omega)) (by (first | exact om_78ea3e5e24cc gd kdp rd rd2 pq83 | omega))
              have bc195 : BKc V74 b gB := BKc.b4 bc (agr.b4 (show agr [] [75, 76] V V74 from (agr.tr agr.rf ajV74 (by decide) (by decide))) (by decide))
              refine W.know (fun k197 k198 => ?_)
              obtain ⟨Hk196, hHk196⟩ : ∃ z, z = H := ⟨_, rfl⟩
              have k197 : Hk196.size ≤ s.heap.size + (zcc Z - zcc Z) := by rw [hHk196]; exact k197
              have k198 : tot Hk196 ≤ tot s.heap + (zss Z - zss Z) := by rw [hHk196]; exact k198
              refine gZ_void (gA_runV (As := [.int z67, .int (V 72 gf), .int (V 69 gf)]) (rest := []) (ci := 5) (q0 := 5) hx hb hml hown hg hP hD hK hS hA hnw hgk (x_seek9 l D ks H.size ad kk V74 L Z z67 (V 72 gf) (V 69 gf) (b) (gB) (gm) (ga) ((Fmake lv o c pl (((V74 75 gf).toInt.toNat : Nat) : Int) ((z67.toInt.toNat + 1 : Nat) : Int) :: gr)) hMV74 (by (first | exact om_79580dcfea05 rgz67 nd9 | omega)) (by (first | exact om_05bb2217b4c1 q72 wr190 r193 | omega)) (show b < 2 from by (first | exact om_289974d36c9f hb2 mup | omega)) mt194 rwx182 bc195 (show (V74 5 6).toInt ≤ 395 from by (first | exact om_1150cee5daf6 gd r1 kdp rd rd2 sl9 pq83 | omega)) (show 0 ≤ z67.toInt from by (first | exact om_f61abf7c73fb rgz67 nd9 | omega)) (show z67.toInt < ((nC gB : Nat) : Int) from by (first | exact om_da9db5f0a958 r2 fc q71 c1 rgz67 pq79 nd9 nl9 | omega)) (show 0 ≤ ((V 72 gf)).toInt from by (first | exact om_af309afc0cea q72 wr190 r193 | omega)) (show ((V 72 gf)).toInt < (V74 3 12).toInt from by omega)) w1256 w1258 w45 w171 w1259 rfl xgMachine hdV_yX5_seek ⟨Nat.le_of_ble_eq_true rfl, Nat.le_of_ble_eq_true rfl⟩ rfl hl.1 rfl (Nat.le_of_ble_eq_true rfl) dX5_goOnMaking_129 ⟨z1 zoZ.1, z1 zoZ.2.1⟩) hD hS hA (fun u200 H locs w201 hP hD hK hS y202 y203 => ?_)
              obtain ⟨V204, L205, Z206⟩ := u200
              obtain ⟨hMV204, ajV204, axL205, zlZ206, t208, t209⟩ := w201
              have axL205 : L = L205 := Eq.symm axL205
              subst axL205
              have hP : va_P D vwCl (xw ad kk V204 L Z206) H := hP
              have hD : va_D A (xw ad kk V204 L Z206) := hD
              have hK : va_K D vwCl (xty kk Z206) s := hK
              have hMV204 : rgd bX V204 := hMV204
              have ajV204 : agr [(3, 13), (5, 6), (5, 9), (5, 10), (5, 11), (5, 12), (5, 13), (5, 14)] [25, 26, 27, 28, 30, 67, 68, 69, 70, 71, 72, 73, 74, 75, 76, 77, 78, 79, 80, 81, 82, 83, 84, 85] V74 V204 := ajV204
              have agV204 : agr [(3, 13), (3, 14), (3, 15), (5, 6), (5, 8), (5, 9), (5, 10), (5, 11), (5, 12), (5, 13), (5, 14)] [24, 25, 26, 27, 28, 29, 30, 31, 32, 40, 67, 68, 69, 70, 71, 72, 73, 74, 75, 76, 77, 78, 79, 80, 81, 82, 83, 84, 85] V V204 := agV74.tr ajV204 (by decide) (by decide)
              have zlZ206 : ZL Z Z206 := zlZ206
              have zoZ206 : ZL Z Z206 := ZL.tr zoZ zlZ206
              have ziZ206 := zlZ206.1
              have zjZ206 := zlZ206.2.1
              have zkZ206 := zlZ206.2.2.1
              have zmZ206 := zoZ206.1
              have znZ206 := zoZ206.2.1
              have zpZ_Z206 := zoZ.1
              have zqZ_Z206 := zoZ.2.1
              have y202 : H.size ≤ Hk196.size + (zcc Z - zcc Z206) := by rw [hHk196]; exact y202
              have y203 : tot H ≤ tot Hk196 + (zss Z - zss Z206) := by rw [hHk196]; exact y203
              refine W.tight (k := zcc Z - zcc Z206) (n := zss Z - zss Z206) (by first | exact tg9 y202 k197 zlZ206.1 zoZ.1 | omega) (by first | exact tg9 y203 k198 zlZ206.2.1 zoZ.2.1 | omega) ?_
              have hl : lv_has ls 5 [(4, .int (V 56 (24 * b + (Int32.toNatClampNeg (V 71 gf))))), (3, .int z67), (2, .int 0), (0, .ref (ad 5)), (1, .ref (Z206.fa gf))] := by rw [zlZ206.2.2.2.2 gf hgf]; exact hl
              have t208 : MJ V204 Z206 b := t208
              have t209 : RW V204 gB (seekM gB gm ga (Fmake lv o c pl (((V74 75 gf).toInt.toNat : Nat) : Int) ((z67.toInt.toNat + 1 : Nat) : Int) :: gr) z67.toInt ((V 72 gf)).toInt ((V 69 gf)).toInt) := t209
              refine lv_goto (tgt := 163) hx hb dX5_goOnMaking_132 (by decide) ?_
              have rx210 : RW V204 gB (stM gB (gm, ga, gfr :: gr)) := by have h9 := t209; rw [q72, q69] at h9; rw [hfe, st_3s (fun h9 => by (first | exact om_4ad5b560b378 rh1 f60 f62 f64 rgz67 t72 pq85 nc9 f180 nd9 ziZ206 zjZ206 h9 | omega)) nd9.2.1, if_neg (show ¬ gm 0 6 = 1 from by (first | exact om_d454297d0f2c rh1 f64 rgz67 t72 pq85 nc9 f180 nd9 ziZ206 zjZ206 | omega))]; show RW V204 gB (seekM gB gm ga (Fmake lv o c pl (((V74 75 gf).toInt.toNat : Nat) : Int) ((z67.toInt.toNat + 1 : Nat) : Int) :: gr) ((z67.toInt.toNat : Nat) : Int) pl lv); rw [show ((z67.toInt.toNat : Nat) : Int) = z67.toInt from by (first | exact om_0685abdd592c rgz67 nd9 ziZ206 zjZ206 | omega)]; exact h9
              refine W.know (fun kr1 kr2 => ?_)
              refine W.widen (k := zcc Z) (n := zss Z) (Nat.sub_le _ _) (Nat.sub_le _ _) ?_
              exact W.vret hx hb hr (fun t ht hW => ⟨⟨(V204, L, Z206), rfl, ⟨hMV204, agV204, rfl, zoZ206, t208, rx210⟩, ⟨by rw [ht]; exact hP, va_K.moved hW.alike hK, hD⟩, by rw [ht]; exact kr1, by rw [ht]; exact kr2⟩, hS.F ht⟩) hS.2.2 dX5_goOnMaking_163
          · skip
            have f211 : ((V 5 9)).toInt = 1 := b_eq rfl (by decide) c63
            have f7 := ((fk.2.2.2.2.2.1 (by (first | exact om_710535a98d88 gk | omega))).2 (by (first | exact om_bb4847c888e4 k68 | omega))).2 trivial
            have f79 := (sf2 (show gm 0 6 = 1 from by (first | exact om_78818edf1d02 rh1 f211 | omega))).1
            have f69 := (sf2 (show gm 0 6 = 1 from by (first | exact om_78818edf1d02 rh1 f211 | omega))).2
            have kq9 : Int32.toNatClampNeg (V 75 gf) = ps.toNat := by have h9 := i_clamp (x := V 75 gf) rfl (by (first | exact om_11c9444de054 r3 fi q75 f7 | omega)); (first | exact om_4dae82e1d950 r3 fi q75 f7 h9 | omega)
            have jl9 := jl_len (m := gm) (q := 8 * o.toNat + ps.toNat)
            refine lv_aload_n hx hb dX5_goOnMaking_72 rfl (lv_at hl 1 rfl) ?_
            refine va_get (D := D) (ci := 5) (v := .ref (ad 3)) (fs := (xfMachine ad V L Z)) (C := RX5) (T := TX5) (N := 15) hx hb hg inX5 hown hK hP 5 xgMachine rfl 0 (by decide) (hg _ w667) (fun _ h9 => h9) rfl dX5_goOnMaking_73 ?_
            refine lv_aload_n hx hb dX5_goOnMaking_76 rfl (lv_at hl 2 rfl) ?_
            refine va_getN (D := D) (ci := 4) (v := .int (V 70 gf)) (fs := (xfFrame V gf)) (C := RX4) (T := TX4) (N := 19) hx hb hg inX4 hown hK hP (336 + gf) (xgFrame hgf) rfl 3 (by decide) (hnw.use 1192 n1192 rfl) (fun _ h9 => h9) rfl dX5_goOnMaking_77 ?_
            refine lv_aload_n hx hb dX5_goOnMaking_80 rfl (lv_at hl 2 rfl) ?_
            refine va_getN (D := D) (ci := 4) (v := .int (V 75 gf)) (fs := (xfFrame V gf)) (C := RX4) (T := TX4) (N := 19) hx hb hg inX4 hown hK hP (336 + gf) (xgFrame hgf) rfl 8 (by decide) (hnw.use 1197 n1197 rfl) (fun _ h9 => h9) rfl dX5_goOnMaking_81 ?_
            refine lv_aload_n hx hb dX5_goOnMaking_84 rfl (lv_at hl 1 rfl) ?_
            refine va_get (D := D) (ci := 5) (v := .int (V 5 10)) (fs := (xfMachine ad V L Z)) (C := RX5) (T := TX5) (N := 15) hx hb hg inX5 hown hK hP 5 xgMachine rfl 10 (by decide) (hg _ w677) (fun _ h9 => h9) rfl dX5_goOnMaking_85 ?_
            have r212 : 0 ≤ ((V 3 15)).toInt ∧ ((V 3 15)).toInt ≤ 262144 := hMV 3 15
            refine W.know (fun k214 k215 => ?_)
            obtain ⟨Hk213, hHk213⟩ : ∃ z, z = H := ⟨_, rfl⟩
            have k214 : Hk213.size ≤ s.heap.size + (zcc Z - zcc Z) := by rw [hHk213]; exact k214
            have k215 : tot Hk213 ≤ tot s.heap + (zss Z - zss Z) := by rw [hHk213]; exact k215
            refine gZ_void (gA_runV (As := [.int (V 70 gf), .int (V 75 gf), .int (V 5 10)]) (rest := []) (ci := 8) (q0 := 3) hx hb hml hown hg hP hD hK hS hA hnw hgk (x_join9 l D ks H.size ad kk V L Z (V 70 gf) (V 75 gf) (V 5 10) (ow) ((jl gm (8 * o.toNat + ps.toNat))) hMV (by (first | exact om_d0c9b7046452 r8 fo ra2 q70 | omega)) (by (first | exact om_969cb7133eca r3 fi q75 f7 | omega)) mup.2.2.2.2.1 mup.2.2.2.2.2.2.2.2.2 (show (V 3 15).toInt ≤ 250000 from by (first | exact om_65172ac1a65e mup r212 | omega)) (show ((V 70 gf)).toInt < (V 3 13).toInt from by (first | exact om_c79f61cedb45 fo ra2 q70 | omega)) (by rw [ko9, kq9]; exact (rn.2.2.1 o.toNat ps.toNat (by (first | exact om_9d3bc628300e fo rh1 ra2 k68 q70 kp7 f14 f60 f62 f211 | omega)) (by (first | exact om_9e4ab8387cb0 r3 fi q75 f7 | omega))).1) (show (((jl gm (8 * o.toNat + ps.toNat)).length : Nat) : Int) ≤ 23 from by (first | exact om_0b025c0564ab f69 jl9 | omega))) w1352 w1353 w1354 w164 w1355 rfl xgStock hdV_yX8_join ⟨Nat.le_of_ble_eq_true rfl, Nat.le_of_ble_eq_true rfl⟩ rfl hl.1 rfl (Nat.le_of_ble_eq_true rfl) dX5_goOnMaking_88 ⟨z1 zoZ.1, z1 zoZ.2.1⟩) hD hS hA (fun u217 H locs w218 hP hD hK hS y219 y220 => ?_)
            obtain ⟨V221, L222, Z223⟩ := u217
            obtain ⟨hMV221, ajV221, axL222, zlZ223, t225, t226⟩ := w218
            have axL222 : L = L222 := Eq.symm axL222
            subst axL222
            have hP : va_P D vwCl (xw ad kk V221 L Z223) H := hP
            have hD : va_D A (xw ad kk V221 L Z223) := hD
            have hK : va_K D vwCl (xty kk Z223) s := hK
            have hMV221 : rgd bX V221 := hMV221
            have ajV221 : agr [(3, 15)] [30, 31, 32] V V221 := ajV221
            have agV221 : agr [(3, 13), (3, 14), (3, 15), (5, 6), (5, 8), (5, 9), (5, 10), (5, 11), (5, 12), (5, 13), (5, 14)] [24, 25, 26, 27, 28, 29, 30, 31, 32, 40, 67, 68, 69, 70, 71, 72, 73, 74, 75, 76, 77, 78, 79, 80, 81, 82, 83, 84, 85] V V221 := agV.tr ajV221 (by decide) (by decide)
            have zlZ223 : ZL Z Z223 := zlZ223
            have zoZ223 : ZL Z Z223 := ZL.tr zoZ zlZ223
            have ziZ223 := zlZ223.1
            have zjZ223 := zlZ223.2.1
            have zkZ223 := zlZ223.2.2.1
            have zmZ223 := zoZ223.1
            have znZ223 := zoZ223.2.1
            have zpZ_Z223 := zoZ.1
            have zqZ_Z223 := zoZ.2.1
            have y219 : H.size ≤ Hk213.size + (zcc Z - zcc Z223) := by rw [hHk213]; exact y219
            have y220 : tot H ≤ tot Hk213 + (zss Z - zss Z223) := by rw [hHk213]; exact y220
            refine W.tight (k := zcc Z - zcc Z223) (n := zss Z - zss Z223) (by first | exact tg9 y219 k214 zlZ223.1 zoZ.1 | omega) (by first | exact tg9 y220 k215 zlZ223.2.1 zoZ.2.1 | omega) ?_
            have hl : lv_has ls 5 [(2, .int 0), (0, .ref (ad 5)), (1, .ref (Z223.fa gf))] := by rw [zlZ223.2.2.2.2 gf hgf]; exact hl
            have t225 : JN V V221 Z Z223 (8 * Int32.toNatClampNeg (V 70 gf) + Int32.toNatClampNeg (V 75 gf)) := t225
            have t226 : JN9 V V221 (8 * Int32.toNatClampNeg (V 70 gf) + Int32.toNatClampNeg (V 75 gf)) (Int32.toNatClampNeg (V 3 15)) ((V 5 10)).toInt (jl gm (8 * o.toNat + ps.toNat)) := t226
            have moj227 : MO V221 Z223 b gf False False False := MO.jn mo trivial (by (first | exact om_710535a98d88 gk | omega)) (by (first | exact om_bb4847c888e4 k68 | omega)) t225
            have mup := MO.up moj227
            have msz := mup.1
            have mbk := mup.2.2.2.1
            obtain ⟨xk, fk⟩ := MO.fk moj227
            have pq228 : (V221 67 gf).toInt = ((V 67 gf)).toInt := congrArg Int32.toInt (ajV221 67 gf rfl)
            have pq229 : (V221 68 gf).toInt = ((V 68 gf)).toInt := congrArg Int32.toInt (ajV221 68 gf rfl)
            have pq230 : (V221 70 gf).toInt = ((V 70 gf)).toInt := congrArg Int32.toInt (ajV221 70 gf rfl)
            have pq231 : (V221 71 gf).toInt = ((V 71 gf)).toInt := congrArg Int32.toInt (ajV221 71 gf rfl)
            have pq232 : (V221 75 gf).toInt = ((V 75 gf)).toInt := congrArg Int32.toInt (ajV221 75 gf rfl)
            have pq233 : (V221 76 gf).toInt = ((V 76 gf)).toInt := congrArg Int32.toInt (ajV221 76 gf rfl)
            have pq234 : (V221 80 gf).toInt = ((V 80 gf)).toInt := congrArg Int32.toInt (ajV221 80 gf rfl)
            have pq235 : (V221 84 gf).toInt = ((V 84 gf)).toInt := congrArg Int32.toInt (ajV221 84 gf rfl)
            have pq236 : (V221 5 6).toInt = ((V 5 6)).toInt := congrArg Int32.toInt (ajV221 5 6 rfl)
            have pq237 : (V221 5 8).toInt = ((V 5 8)).toInt := congrArg Int32.toInt (ajV221 5 8 rfl)
            have pq238 : (V221 5 9).toInt = ((V 5 9)).toInt := congrArg Int32.toInt (ajV221 5 9 rfl)
            have pq239 : (V221 3 13).toInt = ((V 3 13)).toInt := congrArg Int32.toInt (ajV221 3 13 rfl)
            have pq240 : (V221 43 (5 * b + 2)).toInt = ((V 43 (5 * b + 2))).toInt := congrArg Int32.toInt (ajV221 43 (5 * b + 2) rfl)
            have pq241 : (V221 41 b).toInt = ((V 41 b)).toInt := congrArg Int32.toInt (ajV221 41 b rfl)
            have pq242 : (V221 42 b).toInt = ((V 42 b)).toInt := congrArg Int32.toInt (ajV221 42 b rfl)
            have fc := fk.1 (by (first | exact om_25c06e2ab456 gk pq228 | omega))
            have fo := fk.2.1 (by (first | exact om_25c06e2ab456 gk pq228 | omega)) (by (first | exact om_287ea743a7de gk pq228 | omega))
            have fi := fk.2.2.2.2.1 (by (first | exact om_ed616bc53b7b gk pq228 | omega))
            have a10 : V 5 10 = ga := rh.2.1 (show gm 0 6 = 1 from by (first | exact om_78818edf1d02 rh1 f211 | omega))
            have jn8 := t226
            rw [ko9, kq9, a10] at jn8
            obtain ⟨j1, j2, j3, j4, j5, j6, j7⟩ := jn8
            have kl9 := i_clamp (x := V 3 15) rfl (by (first | exact om_46807ceb1f04 mup r212 | omega))
            obtain ⟨ow2, rnj⟩ := RWn.join (n := Int32.toNatClampNeg (V 3 15)) (v := ga.toInt) rn (show ((o.toNat : Nat) : Int) < gm 0 2 from by (first | exact om_a6124ff41d96 r8 fo rh1 ra2 k68 q70 kp7 f14 f60 f62 f211 ziZ223 zjZ223 pq230 pq239 j5 | omega)) (show ps.toNat < 8 from by (first | exact om_6f31d3f37688 r3 fi q75 f7 ziZ223 zjZ223 pq232 j5 | omega)) (by (first | exact om_d3c98c8c292f f69 | omega)) (by (first | exact om_ba0da957824a kl9 | omega)) j1 j2 j3 j4 j5 j6 (fun c9 k9 h1 h2 h3 h4 h5 => j7 c9 k9 h2 h3 h4 h5)
            have f13 : (V221 3 13).toInt = (V 3 13).toInt := congrArg Int32.toInt (j7 3 13 (by decide) (by decide) (by decide) (by (first | exact om_e469b72b094d  | omega)))
            have f12 : (V221 3 12).toInt = (V 3 12).toInt := congrArg Int32.toInt (j7 3 12 (by decide) (by decide) (by decide) (by (first | exact om_49c9cbb46dba  | omega)))
            have rlj : RWl V221 gB (gfr :: gr) tw9 := RWl.mv rl (fun i9 hi9 c9 h1 h2 => j7 c9 i9 (by (first | exact om_3bd3c4f60082 h1 h2 | omega)) (by (first | exact om_da88d986d058 h1 h2 | omega)) (by (first | exact om_0c3d46a7fb6b h1 h2 | omega)) (by (first | exact om_37412ca74b18 h1 h2 | omega))) (fun j9 hj9 => (j7 39 j9 (by decide) (by decide) (by decide) (by (first | exact om_8fe8cc38fa8c  | omega)))) (by (first | exact om_de2de57e8acd ra2 pq239 | omega)) (j7 3 12 (by decide) (by decide) (by decide) (by (first | exact om_49c9cbb46dba  | omega)))
            have rwj9 : RW V221 gB ((mJoin gm o.toNat ps.toNat ga.toInt), ga, gfr :: gr) := ⟨⟨ow2, rnj⟩, ⟨(by rw [(j7 5 9 (by decide) (by decide) (by decide) (by (first | exact om_7c6424943d36  | omega)))]; show _ = (mJoin gm o.toNat ps.toNat ga.toInt) 0 6; rw [mJn_o (by decide) (by decide)]; exact rh.1), (fun h9 => by rw [(j7 5 10 (by decide) (by decide) (by decide) (by (first | exact om_9e1483079d1e  | omega)))]; exact a10), (fun h9 => by have h8 : (mJoin gm o.toNat ps.toNat ga.toInt) 0 6 = 2 := h9; rw [mJn_o (by decide) (by decide)] at h8; exfalso; (first | exact om_7f59e3a41f36 rh1 f211 h8 | omega)), (by rw [(j7 5 8 (by decide) (by decide) (by decide) (by (first | exact om_427d540abeaf  | omega)))]; show _ = (mJoin gm o.toNat ps.toNat ga.toInt) 0 4; rw [mJn_o (by decide) (by decide)]; exact rh.2.2.2.1), fun i9 hi9 => by have h8 : (i9 : Int) < (mJoin gm o.toNat ps.toNat ga.toInt) 0 4 := hi9; rw [mJn_o (by decide) (by decide)] at h8; show _ = (mJoin gm o.toNat ps.toNat ga.toInt) 5 i9; rw [mJn_o (by decide) (by decide), (j7 40 i9 (by decide) (by decide) (by decide) (by (first | exact om_8918389c52ee  | omega)))]; exact rh.2.2.2.2 i9 h8⟩, (by rw [(j7 5 6 (by decide) (by decide) (by decide) (by (first | exact om_18f7b0505e2a  | omega)))]; exact rd), tw9, (by rw [(j7 5 7 (by decide) (by decide) (by decide) (by (first | exact om_43bec5541cc7  | omega)))]; exact rt9), rlj⟩
            clear j5
            obtain ⟨tu8, ti7, _, _, _, hlj⟩ := id rlj
            have et8 : tu8 = t0 := by (first | exact om_6dd06536a59e tl9 ti7 | omega)
            rw [et8] at hlj
            refine lv_aload_n hx hb dX5_goOnMaking_91 rfl (lv_at hl 1 rfl) ?_
            refine lv_aload_n hx hb dX5_goOnMaking_92 rfl (lv_at hl 2 rfl) ?_
            have bc243 : BKc V221 b gB := BKc.b4 bc (agr.b4 (show agr [(3, 15)] [30, 31, 32] V V221 from (agr.tr agr.rf ajV221 (by decide) (by decide))) (by decide))
            refine gA_int (gA_runV (As := [.ref (Z223.fa gf)]) (rest := []) (ci := 5) (q0 := 5) hx hb hml hown hg hP hD hK hS hA hnw hgk (x_nextCandidate9 l D ks H.size ad kk V221 L Z223 (b) (gf) (gB) hMV221 (show b < 2 from by (first | exact om_289974d36c9f hb2 mup | omega)) (show gf < Z223.nf from by (first | exact om_816a907f515e hgf gd kdp rd rd2 zkZ223 pq236 | omega)) moj227 (show (gf : Int) + 1 = (V221 5 6).toInt from by (first | exact om_23ab2a0d3264 gd kdp rd rd2 pq236 | omega)) (show (V221 67 gf).toInt = 1 from by (first | exact om_ed616bc53b7b gk pq228 | omega)) (show (V221 68 gf).toInt ≠ 1 from by (first | exact om_bef5e7c8759b k68 pq229 | omega)) bc243 (show 0 ≤ (V221 71 gf).toInt from by (first | exact om_4b10d22bdced r2 fc q71 pq231 | omega)) (show (V221 71 gf).toInt < ((nC gB : Nat) : Int) from by (first | exact om_5135b95402f4 q71 c1 pq231 | omega))) w1370 w1372 w56 w171 w1373 rfl xgMachine hdV_yX5_nextCandidate ⟨Nat.le_of_ble_eq_true rfl, Nat.le_of_ble_eq_true rfl⟩ rfl hl.1 rfl (Nat.le_of_ble_eq_true rfl) dX5_goOnMaking_93 ⟨z0, z0⟩) hP hD hK hS hA (fun z244 u245 H locs w246 hP hD hK hS => ?_)
            obtain ⟨V251, L252⟩ := u245
            obtain ⟨hMV251, ajV251, axL252, rgz244, t247, t248, t249, t250⟩ := w246
            have axL252 : L = L252 := Eq.symm axL252
            subst axL252
            have hP : va_P D vwCl (xw ad kk V251 L Z223) H := hP
            have hD : va_D A (xw ad kk V251 L Z223) := hD
            have hMV251 : rgd bX V251 := hMV251
            have ajV251 : agr [] [75, 76] V221 V251 := ajV251
            have agV251 : agr [(3, 13), (3, 14), (3, 15), (5, 6), (5, 8), (5, 9), (5, 10), (5, 11), (5, 12), (5, 13), (5, 14)] [24, 25, 26, 27, 28, 29, 30, 31, 32, 40, 67, 68, 69, 70, 71, 72, 73, 74, 75, 76, 77, 78, 79, 80, 81, 82, 83, 84, 85] V V251 := agV221.tr ajV251 (by decide) (by decide)
            have rgz244 : (-1) ≤ z244.toInt ∧ z244.toInt ≤ 23 := rgz244
            have t247 : Imp (0 ≤ z244.toInt) (MO V251 Z223 b gf True True True) := t247
            have t248 : MO V251 Z223 b gf False False False := t248
            have t249 : (z244.toInt = -1 ∧ nxC gB (V221 71 gf).toInt.toNat 9 (V221 75 gf).toInt.toNat (V221 76 gf).toInt.toNat = none) ∨ (0 ≤ z244.toInt ∧ nxC gB (V221 71 gf).toInt.toNat 9 (V221 75 gf).toInt.toNat (V221 76 gf).toInt.toNat = some ((V251 75 gf).toInt.toNat, z244.toInt.toNat) ∧ (V251 76 gf).toInt = z244.toInt + 1) := t249
            have t250 : ME V221 V251 gf := t250
            refine lv_istore_n (lv' := [(3, .int z244), (2, .int 0), (0, .ref (ad 5)), (1, .ref (Z223.fa gf))]) hx hb dX5_goOnMaking_96 rfl hl (by decide) rfl (fun ls hl => ?_)
            have mup := MO.up t248
            have msz := mup.1
            have mbk := mup.2.2.2.1
            obtain ⟨xk, fk⟩ := MO.fk t248
            have pq253 : (V251 67 gf).toInt = ((V 67 gf)).toInt := congrArg Int32.toInt ((ajV251 67 gf rfl).trans (ajV221 67 gf rfl))
            have pq254 : (V251 68 gf).toInt = ((V 68 gf)).toInt := congrArg Int32.toInt ((ajV251 68 gf rfl).trans (ajV221 68 gf rfl))
            have pq255 : (V251 70 gf).toInt = ((V 70 gf)).toInt := congrArg Int32.toInt ((ajV251 70 gf rfl).trans (ajV221 70 gf rfl))
            have pq256 : (V251 71 gf).toInt = ((V 71 gf)).toInt := congrArg Int32.toInt ((ajV251 71 gf rfl).trans (ajV221 71 gf rfl))
            have r257 : 0 ≤ ((V251 75 gf)).toInt ∧ ((V251 75 gf)).toInt ≤ 12 := hMV251 75 gf
            have pq258 : (V251 80 gf).toInt = ((V 80 gf)).toInt := congrArg Int32.toInt ((ajV251 80 gf rfl).trans (ajV221 80 gf rfl))
            have pq259 : (V251 84 gf).toInt = ((V 84 gf)).toInt := congrArg Int32.toInt ((ajV251 84 gf rfl).trans (ajV221 84 gf rfl))
            have pq260 : (V251 5 6).toInt = ((V 5 6)).toInt := congrArg Int32.toInt ((ajV251 5 6 rfl).trans (ajV221 5 6 rfl))
            have pq261 : (V251 5 8).toInt = ((V 5 8)).toInt := congrArg Int32.toInt ((ajV251 5 8 rfl).trans (ajV221 5 8 rfl))
            have pq262 : (V251 5 9).toInt = ((V 5 9)).toInt := congrArg Int32.toInt ((ajV251 5 9 rfl).trans (ajV221 5 9 rfl))
            have pq263 : (V251 3 13).toInt = ((V 3 13)).toInt := congrArg Int32.toInt ((ajV251 3 13 rfl).trans (ajV221 3 13 rfl))
            have pq264 : (V251 43 (5 * b + 2)).toInt = ((V 43 (5 * b + 2))).toInt := congrArg Int32.toInt ((ajV251 43 (5 * b + 2) rfl).trans (ajV221 43 (5 * b + 2) rfl))
            have pq265 : (V251 41 b).toInt = ((V 41 b)).toInt := congrArg Int32.toInt ((ajV251 41 b rfl).trans (ajV221 41 b rfl))
            have pq266 : (V251 42 b).toInt = ((V 42 b)).toInt := congrArg Int32.toInt ((ajV251 42 b rfl).trans (ajV221 42 b rfl))
            have fc := fk.1 (by (first | exact om_25c06e2ab456 gk pq253 | omega))
            have fo := fk.2.1 (by (first | exact om_25c06e2ab456 gk pq253 | omega)) (by (first | exact om_287ea743a7de gk pq253 | omega))
            have fi := fk.2.2.2.2.1 (by (first | exact om_ed616bc53b7b gk pq253 | omega))
            have nc9 := t249
            have v719 : (V221 71 gf).toInt = (V 71 gf).toInt := congrArg Int32.toInt (j7 71 gf (by decide) (by decide) (by decide) (by (first | exact om_e2ac671f55dc  | omega)))
            have v759 : (V221 75 gf).toInt = (V 75 gf).toInt := congrArg Int32.toInt (j7 75 gf (by decide) (by decide) (by decide) (by (first | exact om_5fb697a4661f  | omega)))
            have v769 : (V221 76 gf).toInt = (V 76 gf).toInt := congrArg Int32.toInt (j7 76 gf (by decide) (by decide) (by decide) (by (first | exact om_3e1b73f31a15  | omega)))
            rw [v719, v759, v769, q71, q75, q76] at nc9
            refine lv_aload_n hx hb dX5_goOnMaking_97 rfl (lv_at hl 2 rfl) ?_
            refine va_get (D := D) (ci := 5) (v := .ref (ad (38 + Int32.toNatClampNeg (V251 5 5)))) (fs := (xfMachine ad V251 L Z223)) (C := RX5) (T := TX5) (N := 15) hx hb hg inX5 hown hK hP 5 xgMachine rfl 5 (by decide) (hg _ w672) (fun _ h9 => h9) rfl dX5_goOnMaking_98 ?_
            have pq267 : (V251 5 5).toInt = ((V 5 5)).toInt := congrArg Int32.toInt ((ajV251 5 5 rfl).trans (ajV221 5 5 rfl))
            have r268 : 0 ≤ ((V 5 5)).toInt ∧ ((V 5 5)).toInt ≤ 1 := hMV 5 5
            refine g_topv (v := .ref (ad (38 + b))) (rfP (by (first | exact om_c62f5505ba8e mup | omega))) ?_
            refine va_getN (D := D) (ci := 0) (v := .ref (ad (64 + b))) (fs := (xfBook ad V251 b)) (C := RX0) (T := TX0) (N := 13) hx hb hg inX0 hown hK hP (38 + b) (xgBook hb2) rfl 7 (by decide) (hnw.use 618 n618 rfl) (fun _ h9 => h9) rfl dX5_goOnMaking_101 ?_
            refine lv_aload_n hx hb dX5_goOnMaking_104 rfl (lv_at hl 3 rfl) ?_
            have il269 : gf < Z223.nf := by (first | exact om_f2baef3676e3 hgf gd kdp rd rd2 zkZ223 pq236 pq260 | omega)
            refine va_getN (D := D) (ci := 4) (v := .int (V251 71 gf)) (fs := (xfFrame V251 gf)) (C := RX4) (T := TX4) (N := 19) hx hb hg inX4 hown hK hP (336 + gf) (xgFrame il269) rfl 4 (by decide) (hnw.use 1193 n1193 rfl) (fun _ h9 => h9) rfl dX5_goOnMaking_105 ?_
            refine g_top (v := (V 71 gf)) ((ajV251 71 gf rfl).trans (ajV221 71 gf rfl)) ?_
            have il270 : b < 2 := by (first | exact om_289974d36c9f hb2 mup | omega)
            refine va_aldq (D := D) (i := (V 71 gf)) hx hb hK hP (64 + b) (57 + b) (xgcomps il270) (xtcomps il270) (i_in (a := ((V 71 gf)).toInt) rfl (by (first | exact om_d854f23df425 r2 fc q71 pq231 pq256 | omega))) dX5_goOnMaking_108 ?_
            have kc271 := i_clamp (x := (V 71 gf)) rfl (by (first | exact om_6eefce82cc07 r2 fc q71 pq231 pq256 | omega))
            refine g_topv (v := .ref (ad (72 + (24 * b + (Int32.toNatClampNeg (V 71 gf)))))) (congrArg va_rf (if_pos (by (first | exact om_384a7fbe230e r2 fc q71 pq231 pq256 kc271 | omega)))) ?_
            have il272 : (24 * b + (Int32.toNatClampNeg (V 71 gf))) < 48 := by (first | exact om_f50ea96d2351 hb2 mup r2 fc q71 pq231 pq256 kc271 | omega)
            refine va_getN (D := D) (ci := 3) (v := .int (V251 56 (24 * b + (Int32.toNatClampNeg (V 71 gf))))) (fs := (xfComp ad V251 (24 * b + (Int32.toNatClampNeg (V 71 gf))))) (C := RX3) (T := TX3) (N := 13) hx hb hg inX3 hown hK hP (72 + (24 * b + (Int32.toNatClampNeg (V 71 gf)))) (xgComp il272) rfl 11 (by decide) (hnw.use 539 n539 rfl) (fun _ h9 => h9) rfl dX5_goOnMaking_109 ?_
            refine g_top (v := (V 56 (24 * b + (Int32.toNatClampNeg (V 71 gf))))) ((ajV251 56 (24 * b + (Int32.toNatClampNeg (V 71 gf))) rfl).trans (ajV221 56 (24 * b + (Int32.toNatClampNeg (V 71 gf))) rfl)) ?_
            have r273 : (-1) ≤ ((V 56 (24 * b + (Int32.toNatClampNeg (V 71 gf))))).toInt ∧ ((V 56 (24 * b + (Int32.toNatClampNeg (V 71 gf))))).toInt ≤ 8200 := hMV 56 (24 * b + (Int32.toNatClampNeg (V 71 gf)))
            refine lv_istore (lv' := [(4, .int (V 56 (24 * b + (Int32.toNatClampNeg (V 71 gf))))), (3, .int z244), (2, .int 0), (0, .ref (ad 5)), (1, .ref (Z223.fa gf))]) hx hb dX5_goOnMaking_112 hl (by decide) rfl (fun ls hl => ?_)
            refine lv_iload_n hx hb dX5_goOnMaking_114 rfl (lv_at hl 1 rfl) ?_
            refine lv_iconst (v := (-1)) hx hb dX5_goOnMaking_115 (by decide) ?_
            refine lv_icmp_eq (tgt := 135) hx hb dX5_goOnMaking_116 (by decide) (fun c274 => ?_) (fun c274 => ?_)
            · skip
              have f275 : z244.toInt = (-1) := b_eq rfl (by decide) c274
              refine lv_iload hx hb dX5_goOnMaking_135 (lv_at hl 0 rfl) ?_
              refine lv_iconst (v := (-1)) hx hb dX5_goOnMaking_137 (by decide) ?_
              refine lv_icmp_eq (tgt := 158) hx hb dX5_goOnMaking_138 (by decide) (fun c276 => ?_) (fun c276 => ?_)
              · skip
                have f277 : ((V 56 (24 * b + (Int32.toNatClampNeg (V 71 gf))))).toInt = (-1) := b_eq rfl (by decide) c276
                have wr279 : (V251 3 13).toInt = (V 3 13).toInt := congrArg Int32.toInt ((ajV251 3 13 rfl).trans (ajV221 3 13 rfl))
                have wr280 : (V251 3 12).toInt = (V 3 12).toInt := congrArg Int32.toInt ((ajV251 3 12 rfl).trans (ajV221 3 12 rfl))
                have wr281 : (V251 67 gf).toInt = ((V 67 gf)).toInt := (congrArg Int32.toInt ((ajV251 67 gf rfl).trans (ajV221 67 gf rfl)))
                have wr282 : (V251 68 gf).toInt = ((V 68 gf)).toInt := (congrArg Int32.toInt ((ajV251 68 gf rfl).trans (ajV221 68 gf rfl)))
                have wr283 : (V251 69 gf).toInt = ((V 69 gf)).toInt := (congrArg Int32.toInt ((ajV251 69 gf rfl).trans (ajV221 69 gf rfl)))
                have wr284 : (V251 70 gf).toInt = ((V 70 gf)).toInt := (congrArg Int32.toInt ((ajV251 70 gf rfl).trans (ajV221 70 gf rfl)))
                have wr285 : (V251 71 gf).toInt = ((V 71 gf)).toInt := (congrArg Int32.toInt ((ajV251 71 gf rfl).trans (ajV221 71 gf rfl)))
                have wr286 : (V251 72 gf).toInt = ((V 72 gf)).toInt := (congrArg Int32.toInt ((ajV251 72 gf rfl).trans (ajV221 72 gf rfl)))
                have me287 : ME V221 V251 gf := (ME.tr ME.rf t250)
                have rl288 : RWl V251 gB gr t0 := RWl.mv hlj (fun i9 hi9 c9 h1 h2 => me287.2.1 c9 i9 h1 h2 (by (first | exact om_c425d158fbda gd kdp rd rd2 pq236 pq260 hi9 | omega))) (fun j9 hj9 => (ajV251 39 j9 rfl)) (by rw [(ajV251 3 13 rfl)]; exact Int.le_refl _) (ajV251 3 12 rfl)
                have fo8 : FRc V251 gB gr.length (Fmake lv o c pl (V251 75 gf).toInt (V251 76 gf).toInt) := by rw [gl9]; exact ⟨⟨by (first | exact om_ed616bc53b7b gk pq253 | omega), by (first | exact om_36161e850215 k68 pq254 | omega)⟩, ⟨by (first | exact om_cd7d0a6a31bc q69 wr283 | omega), ⟨by (first | exact om_25a0d8f2ad9d q70 pq230 pq255 | omega), by (first | exact om_00fb0f9fc663 fo q70 pq230 pq255 | omega), by (first | exact om_3f002a22628c fo ra2 q70 pq230 pq239 pq255 pq263 | omega)⟩, ⟨by (first | exact om_25a0d8f2ad9d q71 pq231 pq256 | omega), by (first | exact om_5baa07660f58 r2 fc q71 pq231 pq256 | omega), by (first | exact om_7de2badfbbd3 q71 c1 pq231 pq256 | omega)⟩, ⟨by (first | exact om_cd7d0a6a31bc q72 wr286 | omega), by omega, by omega⟩⟩, rfl, rfl⟩
                have rwx278 : RW V251 gB ((mJoin gm o.toNat ps.toNat ga.toInt), ga, Fmake lv o c pl (V251 75 gf).toInt (V251 76 gf).toInt :: gr) := RW.id rwj9 (ESw.ag (show agr [] [75, 76] V221 V251 from (agr.tr agr.rf ajV251 (by decide) (by decide))) (by decide)) (ajV251 5 9 rfl) (ajV251 5 10 rfl) (ajV251 5 11 rfl) (ajV251 5 12 rfl) (show (V251 5 6).toInt = ((gr.length + 1 : Nat) : Int) from by (first | exact om_ac3f1eac950e kdp rd rd2 pq236 pq260 | omega)) (show (V251 5 7).toInt = ((t0 : Nat) : Int) from by rw [((ajV251 5 7 rfl).trans (ajV221 5 7 rfl)), rt9, tz9]) (RWl.push rl288 fo8 rfl (np9 rfl))
                have q70c : (V251 70 gf).toInt.toNat = o.toNat := by omega
                have h30b : (mJoin gm o.toNat ps.toNat ga.toInt) 3 (V251 70 gf).toInt.toNat = 0 := by rw [q70c, mJn_o (by decide) (by decide)]; exact sf3
                have pq289 : (V251 3 14).toInt = ((V 3 14)).toInt := congrArg Int32.toInt ((ajV251 3 14 rfl).trans (ajV221 3 14 rfl))
                refine lv_aload_n hx hb dX5_goOnMaking_158 rfl (lv_at hl 3 rfl) ?_
                refine lv_aload_n hx hb dX5_goOnMaking_159 rfl (lv_at hl 4 rfl) ?_
                have bc290 : BKc V251 b gB := BKc.b4 bc (agr.b4 (show agr [(3, 15)] [30, 31, 32, 75, 76] V V251 from (agr.tr (agr.tr agr.rf ajV221 (by decide) (by decide)) ajV251 (by decide) (by decide))) (by decide))
                refine gA_void (gA_runV (As := [.ref (Z223.fa gf)]) (rest := []) (ci := 5) (q0 := 5) hx hb hml hown hg hP hD hK hS hA hnw hgk (x_finish9 l D ks H.size ad kk V251 L Z223 (b) (gf) (gB) ((mJoin gm o.toNat ps.toNat ga.toInt)) (ga) ((Fmake lv o c pl (V251 75 gf).toInt (V251 76 gf).toInt)) (gr) hMV251 (show b < 2 from by (first | exact om_289974d36c9f hb2 mup | omega)) (show gf < Z223.nf from by (first | exact om_fa2318341eda gd kdp rd rd2 pq236 pq260 il269 | omega)) t248 (show (gf : Int) + 1 = (V251 5 6).toInt from by (first | exact om_81de907fad64 gd kdp rd rd2 pq236 pq260 | omega)) (show (V251 67 gf).toInt = 1 from by (first | exact om_ed616bc53b7b gk pq253 | omega)) rwx278 bc290 (show (V251 5 6).toInt ≤ 395 from by (first | exact om_bd930e74fb32 gd r1 kdp rd rd2 sl9 pq236 pq260 | omega)) h30b (show (V251 5 8).toInt ≤ 299 from by (first | exact om_31065b7ce70c r6 rh8 sf1 pq237 pq261 | omega)) (show 0 ≤ (V251 3 14).toInt from by (first | exact om_1b4ad3a85057 en9 en8 pq289 | omega)) (show (V251 3 14).toInt ≤ 300 from by (first | exact om_480f9ad3bdf4 en9 en8 pq289 | omega))) w1344 w1346 w55 w171 w1347 rfl xgMachine hdV_yX5_finish ⟨Nat.le_of_ble_eq_true rfl, Nat.le_of_ble_eq_true rfl⟩ rfl hl.1 rfl (Nat.le_of_ble_eq_true rfl) dX5_goOnMaking_160 ⟨z0, z0⟩) hP hD hK hS hA (fun u292 H locs w293 hP hD hK hS => ?_)
                obtain ⟨V296, L297⟩ := u292
                obtain ⟨hMV296, ajV296, axL297, t294, t295⟩ := w293
                have axL297 : L = L297 := Eq.symm axL297
                subst axL297
                have hP : va_P D vwCl (xw ad kk V296 L Z223) H := hP
                have hD : va_D A (xw ad kk V296 L Z223) := hD
                have hMV296 : rgd bX V296 := hMV296
                have ajV296 : agr [(3, 14), (5, 6), (5, 8), (5, 9), (5, 10)] [28, 29, 40] V251 V296 := ajV296
                have agV296 : agr [(3, 13), (3, 14), (3, 15), (5, 6), (5, 8), (5, 9), (5, 10), (5, 11), (5, 12), (5, 13), (5, 14)] [24, 25, 26, 27, 28, 29, 30, 31, 32, 40, 67, 68, 69, 70, 71, 72, 73, 74, 75, 76, 77, 78, 79, 80, 81, 82, 83, 84, 85] V V296 := agV251.tr ajV296 (by decide) (by decide)
                have t294 : MJ V296 Z223 b := t294
                have t295 : RW V296 gB (mAns (mDone (mJoin gm o.toNat ps.toNat ga.toInt) (V251 70 gf).toInt.toNat) (nI (V251 70 gf).toInt.toNat) gr) := t295
                have nn9 := (nc9.resolve_right (fun h9 => by have h8 := h9.1; (first | exact om_2dea9bdd6084 f275 h9 | omega))).2
                have op9 := BKc.op bc cn9
                rw [← kc9] at op9
                have op8 : bE gB c.toNat 30 = 0 := by rcases op9 with h9 | h9; (rw [kc9] at h9; exact h9.2); (exfalso; (first | exact om_230a843bd84f f277 h9 | omega))
                have rx298 : RW V296 gB (stM gB (gm, ga, gfr :: gr)) := by have h9 := t295; rw [q70c] at h9; rw [hfe, st_3d (fun h9 => by (first | exact om_6a9401fed63b rh1 f211 h9 | omega)) nn9 op8, if_pos (show gm 0 6 = 1 from by (first | exact om_78818edf1d02 rh1 f211 | omega))]; exact h9
                refine W.know (fun kr1 kr2 => ?_)
                refine W.widen (k := zcc Z) (n := zss Z) (Nat.sub_le _ _) (Nat.sub_le _ _) ?_
                exact W.vret hx hb hr (fun t ht hW => ⟨⟨(V296, L, Z223), rfl, ⟨hMV296, agV296, rfl, zoZ223, t294, rx298⟩, ⟨by rw [ht]; exact hP, va_K.moved hW.alike hK, hD⟩, by rw [ht]; exact kr1, by rw [ht]; exact kr2⟩, hS.F ht⟩) hS.2.2 dX5_goOnMaking_163
              · skip
                have f299 : ((V 56 (24 * b + (Int32.toNatClampNeg (V 71 gf))))).toInt ≠ (-1) := b_neq rfl (by decide) c276
                have kcc := i_clamp (x := V 71 gf) rfl (by (first | exact om_6eefce82cc07 r2 fc q71 pq231 pq256 | omega))
                have htx := (mup.2.1.1 (Int32.toNatClampNeg (V 71 gf)) (by (first | exact om_95b33a8948e0 fc q71 pq231 pq240 pq256 pq264 kc271 | omega))).1
                rw [((ajV251 56 (24 * b + Int32.toNatClampNeg (V 71 gf)) rfl).trans (ajV221 56 (24 * b + Int32.toNatClampNeg (V 71 gf)) rfl))] at htx
                have hgs := htx.resolve_left (by (first | exact om_76f763d5695a f299 | omega))
                refine lv_aload_n hx hb dX5_goOnMaking_141 rfl (lv_at hl 4 rfl) ?_
                refine lv_iconst (v := 1) hx hb dX5_goOnMaking_142 (by decide) ?_
                refine va_putN (D := D) (ci := 4) (v := .int 1) (ty := tyX4 1) (fs := (xfFrame V251 gf)) (C := RX4) (T := TX4) (N := 19) hx hb hg inX4 tyX4 tyX4_ok nmX4 hown hK hP hD hS (336 + gf) (xgFrame il269) rfl 1 (by decide) (hnw.use 1190 n1190 rfl) (fun _ h9 => h9) rfl (tyX4_ok 1 (by decide)) rfl rfl (Nat.le_of_ble_eq_true rfl) dX5_goOnMaking_143 (fun H locs hP hD hS => ?_)
                obtain ⟨V300, hV300⟩ : ∃ z, z = up2 V251 68 gf 1 := ⟨_, rfl⟩
                have ew301 : (xw ad kk V251 L Z223).set (336 + gf) ((Z223.fa gf), .inr (4, (xfFrame V251 gf).set 1 (.int 1))) = xw ad kk V300 L Z223 := by rw [hV300]; exact xpFrame_phase il269
                have hP : va_P D vwCl (xw ad kk V300 L Z223) H := by rw [← ew301]; exact hP
                have hD : va_D A (xw ad kk V300 L Z223) := by rw [← ew301]; exact hD
                have hMV300 : rgd bX V300 := hMV251.put hV300 (i_full _)
                have agV300 : agr [(3, 13), (3, 14), (3, 15), (5, 6), (5, 8), (5, 9), (5, 10), (5, 11), (5, 12), (5, 13), (5, 14)] [24, 25, 26, 27, 28, 29, 30, 31, 32, 40, 67, 68, 69, 70, 71, 72, 73, 74, 75, 76, 77, 78, 79, 80, 81, 82, 83, 84, 85] V V300 := agV251.up hV300 rfl
                refine lv_aload_n hx hb dX5_goOnMaking_146 rfl (lv_at hl 3 rfl) ?_
                refine lv_aload_n hx hb dX5_goOnMaking_147 rfl (lv_at hl 4 rfl) ?_
                refine lv_iload hx hb dX5_goOnMaking_148 (lv_at hl 0 rfl) ?_
                refine lv_iconst (v := 0) hx hb dX5_goOnMaking_150 (by decide) ?_
                have r302 : Int32.toInt 0 = 0 := by decide
                have pq303 : (V300 71 gf).toInt = ((V 71 gf)).toInt := congrArg Int32.toInt ((up2_o hV300 (by decide)).trans ((ajV251 71 gf rfl).trans (ajV221 71 gf rfl)))
                have pq304 : (V300 43 (5 * b + 2)).toInt = ((V 43 (5 * b + 2))).toInt := congrArg Int32.toInt ((up2_o hV300 (by decide)).trans ((ajV251 43 (5 * b + 2) rfl).trans (ajV221 43 (5 * b + 2) rfl)))
                have pq305 : (V300 3 13).toInt = ((V 3 13)).toInt := congrArg Int32.toInt ((up2_o hV300 (by decide)).trans ((ajV251 3 13 rfl).trans (ajV221 3 13 rfl)))
                have pq306 : (V300 70 gf).toInt = ((V 70 gf)).toInt := congrArg Int32.toInt ((up2_o hV300 (by decide)).trans ((ajV251 70 gf rfl).trans (ajV221 70 gf rfl)))
                have me307 : ME V251 V300 gf := (ME.up ME.rf hV300 (Or.inl ⟨by decide, by decide, Nat.le_refl _⟩))
                have pq308 : (V300 67 gf).toInt = ((V 67 gf)).toInt := congrArg Int32.toInt ((up2_o hV300 (by decide)).trans ((ajV251 67 gf rfl).trans (ajV221 67 gf rfl)))
                have pq309 : (V300 68 gf).toInt = 1 := (congrArg Int32.toInt (up2_s hV300)).trans (by decide)
                have pq310 : (V300 75 gf).toInt = ((V251 75 gf)).toInt := congrArg Int32.toInt (up2_o hV300 (by decide))
                have pq311 : (V300 76 gf).toInt = ((V251 76 gf)).toInt := congrArg Int32.toInt (up2_o hV300 (by decide))
                have pq312 : (V300 80 gf).toInt = ((V 80 gf)).toInt := congrArg Int32.toInt ((up2_o hV300 (by decide)).trans ((ajV251 80 gf rfl).trans (ajV221 80 gf rfl)))
                have pq313 : (V300 84 gf).toInt = ((V 84 gf)).toInt := congrArg Int32.toInt ((up2_o hV300 (by decide)).trans ((ajV251 84 gf rfl).trans (ajV221 84 gf rfl)))
                have pq314 : (V300 5 6).toInt = ((V 5 6)).toInt := congrArg Int32.toInt ((up2_o hV300 (by decide)).trans ((ajV251 5 6 rfl).trans (ajV221 5 6 rfl)))
                have pq315 : (V300 5 8).toInt = ((V 5 8)).toInt := congrArg Int32.toInt ((up2_o hV300 (by decide)).trans ((ajV251 5 8 rfl).trans (ajV221 5 8 rfl)))
                have pq316 : (V300 5 9).toInt = ((V 5 9)).toInt := congrArg Int32.toInt ((up2_o hV300 (by decide)).trans ((ajV251 5 9 rfl).trans (ajV221 5 9 rfl)))
                have pq317 : (V300 42 b).toInt = ((V 42 b)).toInt := congrArg Int32.toInt ((up2_o hV300 (by decide)).trans ((ajV251 42 b rfl).trans (ajV221 42 b rfl)))
                have pq318 : (V300 41 b).toInt = ((V 41 b)).toInt := congrArg Int32.toInt ((up2_o hV300 (by decide)).trans ((ajV251 41 b rfl).trans (ajV221 41 b rfl)))
                have mo319 : MO V300 Z223 b gf True True True := MO.ch t248 me307 (up2_o hV300 (by decide)) (up2_o hV300 (by decide)) (fun _ => Or.inl (by (first | exact om_25c06e2ab456 gk pq253 | omega))) (fun x h => FK.k1 (by (first | exact om_ed616bc53b7b gk pq308 | omega)) (by (first | exact om_18612944fee2 r2 fc q71 pq231 pq240 pq256 pq264 pq303 pq304 | omega)) (by (first | exact om_65dd364c1978 fo ra2 q70 pq230 pq239 pq255 pq263 pq305 pq306 | omega)) (by (first | exact om_38fed3293511 r257 fi pq310 pq311 | omega)) (h.2.2.2.2.2.1 (by (first | exact om_ed616bc53b7b gk pq253 | omega))).1 (fun hph => absurd hph (by (first | exact om_c7e952e81180 pq309 | omega))))
                have mt320 : MT V300 Z223 b := MO.mt mo319 (by (first | exact om_de8d2bf2aef1 gd kdp rd rd2 pq236 pq260 il269 pq314 | omega)) (by (first | exact om_d5859e1c9ffe gd kdp rd rd2 pq236 pq260 pq314 | omega))
                have me321 : ME V251 V300 0 := (ME.up ME.rf hV300 (Or.inl ⟨by decide, by decide, by (first | exact om_a3dfbdfe0363 gd r1 kdp rd rd2 sl9 pq236 pq260 pq314 | omega)⟩))
                have ha322 : (V300 42 b).toInt ≤ ((V 56 (24 * b + (Int32.toNatClampNeg (V 71 gf))))).toInt ∨ (bdp V300 b (((V 56 (24 * b + (Int32.toNatClampNeg (V 71 gf))))).toInt).toNat).1 = true := by rw [me321.1.bd, me321.1 42 b (by decide) (by decide)]; exact gs.fk hgs (hMV251 42 b).2
                refine W.know (fun k324 k325 => ?_)
                obtain ⟨Hk323, hHk323⟩ : ∃ z, z = H := ⟨_, rfl⟩
                have k324 : Hk323.size ≤ s.heap.size + (zcc Z - zcc Z223) := by rw [hHk323]; exact k324
                have k325 : tot Hk323 ≤ tot s.heap + (zss Z - zss Z223) := by rw [hHk323]; exact k325
                refine gZ_ref (gA_runV (As := [.ref (Z223.fa gf), .int (V 56 (24 * b + (Int32.toNatClampNeg (V 71 gf)))), .int 0]) (rest := []) (ci := 5) (q0 := 5) hx hb hml hown hg hP hD hK hS hA hnw hgk (x_pushWork9 l D ks H.size ad kk V300 L Z223 (V 56 (24 * b + (Int32.toNatClampNeg (V 71 gf)))) 0 (b) (gf) hMV300 (by (first | exact om_9f2e9be691b5 r12 pq242 pq266 r273 f299 pq317 ha322 | omega)) (show b < 2 from by (first | exact om_289974d36c9f hb2 mup | omega)) (show gf < Z223.nf from by (first | exact om_4a9b1f6fd714 gd kdp rd rd2 pq236 pq260 il269 pq314 | omega)) mt320 (show 0 ≤ (V300 71 gf).toInt ∧ (V300 71 gf).toInt < (V300 43 (5 * b + 2)).toInt from by (first | exact om_18612944fee2 r2 fc q71 pq231 pq240 pq256 pq264 pq303 pq304 | omega)) (show 0 ≤ (V300 70 gf).toInt ∧ (V300 70 gf).toInt < (V300 3 13).toInt from by (first | exact om_65dd364c1978 fo ra2 q70 pq230 pq239 pq255 pq263 pq305 pq306 | omega)) ha322) w1376 w1378 w57 w171 w1379 rfl xgMachine hdV_yX5_pushWork ⟨Nat.le_of_ble_eq_true rfl, Nat.le_of_ble_eq_true rfl⟩ rfl hl.1 rfl (Nat.le_of_ble_eq_true rfl) dX5_goOnMaking_151 ⟨z1 zoZ223.1, z1 zoZ223.2.1⟩) hD hS hA (fun u327 H locs w328 hP hD hK hS y329 y330 => ?_)
                obtain ⟨V331, L332, Z333, f334⟩ := u327
                obtain ⟨hMV331, ajV331, axL332, zlZ333, ilf334, t335, t336, t337, t338, t339⟩ := w328
                have axL332 : L = L332 := Eq.symm axL332
                subst axL332
                have hP : va_P D vwCl (xw ad kk V331 L Z333) H := hP
                have hD : va_D A (xw ad kk V331 L Z333) := hD
                have hK : va_K D vwCl (xty kk Z333) s := hK
                have hMV331 : rgd bX V331 := hMV331
                have ajV331 : agr [(5, 6), (5, 9)] [67, 68, 69, 70, 71, 72, 73, 74, 75, 76, 77, 78, 79, 80, 81, 82, 83, 84, 85] V300 V331 := ajV331
                have agV331 : agr [(3, 13), (3, 14), (3, 15), (5, 6), (5, 8), (5, 9), (5, 10), (5, 11), (5, 12), (5, 13), (5, 14)] [24, 25, 26, 27, 28, 29, 30, 31, 32, 40, 67, 68, 69, 70, 71, 72, 73, 74, 75, 76, 77, 78, 79, 80, 81, 82, 83, 84, 85] V V331 := agV300.tr ajV331 (by decide) (by decide)
                have zlZ333 : ZL Z223 Z333 := zlZ333
                have zoZ333 : ZL Z Z333 := ZL.tr zoZ223 zlZ333
                have ziZ333 := zlZ333.1
                have zjZ333 := zlZ333.2.1
                have zkZ333 := zlZ333.2.2.1
                have zmZ333 := zoZ333.1
                have znZ333 := zoZ333.2.1
                have zpZ223_Z333 := zoZ223.1
                have zqZ223_Z333 := zoZ223.2.1
                have y329 : H.size ≤ Hk323.size + (zcc Z223 - zcc Z333) := by rw [hHk323]; exact y329
                have y330 : tot H ≤ tot Hk323 + (zss Z223 - zss Z333) := by rw [hHk323]; exact y330
                refine W.tight (k := zcc Z - zcc Z333) (n := zss Z - zss Z333) (by first | exact tg9 y329 k324 zlZ333.1 zoZ223.1 | omega) (by first | exact tg9 y330 k325 zlZ333.2.1 zoZ223.2.1 | omega) ?_
                have hl : lv_has ls 5 [(4, .int (V 56 (24 * b + (Int32.toNatClampNeg (V 71 gf))))), (3, .int z244), (2, .int 0), (0, .ref (ad 5)), (1, .ref (Z333.fa gf))] := by rw [zlZ333.2.2.2.2 gf il269]; exact hl
                have ilf334 : f334 < Z333.nf := ilf334
                have t335 : MJ V331 Z333 b := t335
                have t336 : (f334 : Int) + 1 = (V331 5 6).toInt := t336
                have t337 : (V331 67 f334).toInt = 4 ∧ (V331 68 f334).toInt = 0 := t337
                have t338 : (V331 5 9).toInt = 0 := t338
                have t339 : Imp ((V300 5 6).toInt < 400 ∧ (gf : Int) < (V300 5 6).toInt) (PWk V300 V331 gf ((V300 5 6).toInt.toNat) (V 56 (24 * b + (Int32.toNatClampNeg (V 71 gf)))) 0) := t339
                have r340 : 0 ≤ ((V331 5 6)).toInt ∧ ((V331 5 6)).toInt ≤ 400 := hMV331 5 6
                have r341 : 0 ≤ ((V331 5 9)).toInt ∧ ((V331 5 9)).toInt ≤ 3 := hMV331 5 9
                refine lv_pop hx hb dX5_goOnMaking_154 rfl ?_
                refine lv_goto (tgt := 163) hx hb dX5_goOnMaking_155 (by decide) ?_
                have nn9 := (nc9.resolve_right (fun h9 => by have h8 := h9.1; (first | exact om_2dea9bdd6084 f275 h9 | omega))).2
                have op9 := BKc.op bc cn9
                rw [← kc9] at op9
                have pw := Imp.go t339 ⟨by (first | exact om_de69837a81b3 gd r1 kdp rd rd2 sl9 pq236 pq260 pq314 | omega), by (first | exact om_576f624b28da gd kdp rd rd2 pq236 pq260 pq314 | omega)⟩
                have pi9 : (V300 5 6).toInt.toNat = gr.length + 1 := by (first | exact om_bfde453b26f4 gd r1 kdp rd rd2 sl9 pq236 pq260 pq314 | omega)
                rw [pi9] at pw
                obtain ⟨⟨pd1, pd2, pke⟩, ⟨pk1, pk2⟩, ⟨p69, p70, p71, p72, p73⟩, pag, pat, pba, pps⟩ := pw
                have wr343 : (V331 3 13).toInt = (V 3 13).toInt := congrArg Int32.toInt ((ajV331 3 13 rfl).trans ((up2_o hV300 (by decide)).trans ((ajV251 3 13 rfl).trans (ajV221 3 13 rfl))))
                have wr344 : (V331 3 12).toInt = (V 3 12).toInt := congrArg Int32.toInt ((ajV331 3 12 rfl).trans ((up2_o hV300 (by decide)).trans ((ajV251 3 12 rfl).trans (ajV221 3 12 rfl))))
                have wr345 : (V331 67 gf).toInt = ((V 67 gf)).toInt := (congrArg Int32.toInt ((pke gf (by (first | exact om_c9f168eff5a6 gd kdp rd rd2 | omega)) 67 (by decide) (by decide)).trans ((up2_o hV300 (by decide)).trans ((ajV251 67 gf rfl).trans (ajV221 67 gf rfl)))))
                have wr346 : (V331 68 gf).toInt = 1 := (congrArg Int32.toInt ((pke gf (by (first | exact om_c9f168eff5a6 gd kdp rd rd2 | omega)) 68 (by decide) (by decide)).trans (up2_s hV300))).trans (by decide)
                have wr347 : (V331 69 gf).toInt = ((V 69 gf)).toInt := (congrArg Int32.toInt ((pke gf (by (first | exact om_c9f168eff5a6 gd kdp rd rd2 | omega)) 69 (by decide) (by decide)).trans ((up2_o hV300 (by decide)).trans ((ajV251 69 gf rfl).trans (ajV221 69 gf rfl)))))
                have wr348 : (V331 70 gf).toInt = ((V 70 gf)).toInt := (congrArg Int32.toInt ((pke gf (by (first | exact om_c9f168eff5a6 gd kdp rd rd2 | omega)) 70 (by decide) (by decide)).trans ((up2_o hV300 (by decide)).trans ((ajV251 70 gf rfl).trans (ajV221 70 gf rfl)))))
                have wr349 : (V331 71 gf).toInt = ((V 71 gf)).toInt := (congrArg Int32.toInt ((pke gf (by (first | exact om_c9f168eff5a6 gd kdp rd rd2 | omega)) 71 (by decide) (by decide)).trans ((up2_o hV300 (by decide)).trans ((ajV251 71 gf rfl).trans (ajV221 71 gf rfl)))))
                have wr350 : (V331 72 gf).toInt = ((V 72 gf)).toInt := (congrArg Int32.toInt ((pke gf (by (first | exact om_c9f168eff5a6 gd kdp rd rd2 | omega)) 72 (by decide) (by decide)).trans ((up2_o hV300 (by decide)).trans ((ajV251 72 gf rfl).trans (ajV221 72 gf rfl)))))
                have wr351 : (V331 69 (gr.length + 1)).toInt = ((V 69 gf)).toInt := (congrArg Int32.toInt (p69.trans ((up2_o hV300 (by decide)).trans ((ajV251 69 gf rfl).trans (ajV221 69 gf rfl)))))
                have wr352 : (V331 70 (gr.length + 1)).toInt = ((V 70 gf)).toInt := (congrArg Int32.toInt (p70.trans ((up2_o hV300 (by decide)).trans ((ajV251 70 gf rfl).trans (ajV221 70 gf rfl)))))
                have wr353 : (V331 71 (gr.length + 1)).toInt = ((V 71 gf)).toInt := (congrArg Int32.toInt (p71.trans ((up2_o hV300 (by decide)).trans ((ajV251 71 gf rfl).trans (ajV221 71 gf rfl)))))
                have wr354 : (V331 72 (gr.length + 1)).toInt = ((V 72 gf)).toInt := (congrArg Int32.toInt (p72.trans ((up2_o hV300 (by decide)).trans ((ajV251 72 gf rfl).trans (ajV221 72 gf rfl)))))
                have me355 : ME V221 V300 gf := (ME.up (ME.tr ME.rf t250) hV300 (Or.inl ⟨by decide, by decide, Nat.le_refl _⟩))
                have rl356 : RWl V331 gB gr t0 := RWl.mv hlj (fun i9 hi9 c9 h1 h2 => ((pke i9 (by (first | exact om_02edcc952b9d kdp rd rd2 pq236 pq260 pq314 pi9 hi9 | omega)) c9 h1 h2)).trans (me355.2.1 c9 i9 h1 h2 (by (first | exact om_6ec21bbd1e04 gd kdp rd rd2 pq236 pq260 pq314 pi9 hi9 | omega)))) (fun j9 hj9 => ((ajV331 39 j9 rfl).trans ((up2_o hV300 (by decide)).trans (ajV251 39 j9 rfl)))) (by rw [((ajV331 3 13 rfl).trans ((up2_o hV300 (by decide)).trans (ajV251 3 13 rfl)))]; exact Int.le_refl _) ((ajV331 3 12 rfl).trans ((up2_o hV300 (by decide)).trans (ajV251 3 12 rfl)))
                have op8 := op9.resolve_left (fun h9 => by have h8 := h9.1; (first | exact om_e8378aeec827 gd r1 kdp r12 rd rd2 sl9 pq236 pq242 pq260 pq266 f299 pq314 pq317 ha322 ziZ333 zjZ333 op9 pi9 h9 | omega))
                rw [kc9] at op8
                have fb8 : FRc V331 gB gr.length (Fopen lv o c pl) := by rw [gl9]; exact ⟨⟨by (first | exact om_ed616bc53b7b gk wr345 | omega), by (first | exact om_710535a98d88 wr346 | omega)⟩, ⟨by (first | exact om_cd7d0a6a31bc q69 wr347 | omega), ⟨by (first | exact om_6f38a89edb0f q70 pq230 pq255 pq306 wr348 | omega), by (first | exact om_e7f774622431 fo q70 pq230 pq255 pq306 wr348 wr352 | omega), by (first | exact om_fcdafe8f6fd9 fo ra2 q70 pq230 pq239 pq255 pq263 pq305 pq306 wr343 wr348 wr352 | omega)⟩, ⟨by (first | exact om_6f38a89edb0f q71 pq231 pq256 pq303 wr349 | omega), by (first | exact om_1d1e0302a85c r2 fc q71 pq231 pq256 pq303 wr349 wr353 | omega), by (first | exact om_c4a1011e142c q71 c1 pq231 pq256 pq303 wr349 wr353 | omega)⟩, ⟨by (first | exact om_cd7d0a6a31bc q72 wr350 | omega), by omega, by omega⟩⟩⟩
                have ft9 : FRc V331 gB (gr.length + 1) (Fwork lv o c pl 0 0 ((bE gB c.toNat 30 - 1 : Nat) : Int) 0 []) := ⟨⟨pk1, pk2⟩, ⟨by (first | exact om_25a0d8f2ad9d q69 wr347 wr351 | omega), ⟨by (first | exact om_856c424b935d q70 pq230 pq255 pq306 wr348 wr352 | omega), by (first | exact om_e7f774622431 fo q70 pq230 pq255 pq306 wr348 wr352 | omega), by (first | exact om_fcdafe8f6fd9 fo ra2 q70 pq230 pq239 pq255 pq263 pq305 pq306 wr343 wr348 wr352 | omega)⟩, ⟨by (first | exact om_856c424b935d q71 pq231 pq256 pq303 wr349 wr353 | omega), by (first | exact om_1d1e0302a85c r2 fc q71 pq231 pq256 pq303 wr349 wr353 | omega), by (first | exact om_c4a1011e142c q71 c1 pq231 pq256 pq303 wr349 wr353 | omega)⟩, ⟨by (first | exact om_25a0d8f2ad9d q72 wr350 wr354 | omega), by omega, by omega⟩⟩, (fun h9 => absurd h9 (by decide)), ⟨Int.natCast_nonneg _, (show (V331 84 (gr.length + 1)).toInt = ((psz (opf gB.1) (bE gB c.toNat 30 - 1) : Nat) : Int) from by rw [pat]; have h9 := op8.2; rw [← kc9] at h9 ⊢; (first | exact om_256580d80fac h9 | omega))⟩, pag⟩
                have rz9 : RW V331 gB (mU (mJoin gm o.toNat ps.toNat ga.toInt) 0 6 0, ga, Fwork lv o c pl 0 0 ((bE gB c.toNat 30 - 1 : Nat) : Int) 0 [] :: Fopen lv o c pl :: gr) := RW.sgn rwj9 (ESw.ag (show agr [(5, 6), (5, 9)] [67, 68, 69, 70, 71, 72, 73, 74, 75, 76, 77, 78, 79, 80, 81, 82, 83, 84, 85] V221 V331 from (agr.tr (agr.up (agr.tr agr.rf ajV251 (by decide) (by decide)) hV300 rfl) ajV331 (by decide) (by decide))) (by decide)) pd2 (fun h9 => absurd h9 (by decide)) (fun h9 => absurd h9 (by decide)) (show (V331 5 6).toInt = ((gr.length + 1 + 1 : Nat) : Int) from by (first | exact om_e60c07aa9fb9 kdp rd rd2 pq236 pq260 pq314 pi9 pd1 | omega)) (show (V331 5 7).toInt = ((t0 : Nat) : Int) from by rw [(show agr [(3, 15), (5, 6), (5, 9)] [30, 31, 32, 67, 68, 69, 70, 71, 72, 73, 74, 75, 76, 77, 78, 79, 80, 81, 82, 83, 84, 85] V V331 from (agr.tr (agr.up (agr.tr (agr.tr agr.rf ajV221 (by decide) (by decide)) ajV251 (by decide) (by decide)) hV300 rfl) ajV331 (by decide) (by decide))) 5 7 rfl, rt9, tz9]) (RWl.push (RWl.push rl356 fb8 rfl (np9 rfl)) ft9 rfl (fun _ _ => (show (V331 85 (gr.length + 1)).toInt = ((t0 : Nat) : Int) from by rw [pba, ((up2_o hV300 (by decide)).trans ((ajV251 5 7 rfl).trans (ajV221 5 7 rfl))), rt9, tz9])))
                have rx357 : RW V331 gB (stM gB (gm, ga, gfr :: gr)) := by rw [hfe, st_3w (fun h9 => by (first | exact om_6a9401fed63b rh1 f211 h9 | omega)) nn9 op8.1, if_pos (show gm 0 6 = 1 from by (first | exact om_78818edf1d02 rh1 f211 | omega))]; exact rz9
                refine W.know (fun kr1 kr2 => ?_)
                refine W.widen (k := zcc Z) (n := zss Z) (Nat.sub_le _ _) (Nat.sub_le _ _) ?_
                exact W.vret hx hb hr (fun t ht hW => ⟨⟨(V331, L, Z333), rfl, ⟨hMV331, agV331, rfl, zoZ333, t335, rx357⟩, ⟨by rw [ht]; exact hP, va_K.moved hW.alike hK, hD⟩, by rw [ht]; exact kr1, by rw [ht]; exact kr2⟩, hS.F ht⟩) hS.2.2 dX5_goOnMaking_163
            · skip
              have f358 : z244.toInt ≠ (-1) := b_neq rfl (by decide) c274
              have mow359 : MO V251 Z223 b gf True True False := MO.w (Imp.go t247 (by (first | exact om_f1651ded9b83 rgz244 f358 | omega))) id id False.elim
              have nd9 := nc9.resolve_left (fun h9 => by have h8 := h9.1; (first | exact om_e21108494fba f358 h9 | omega))
              have nl9 := nxC_lt _ _ _ nd9.2.1
              have bn8 := bc.2.2.2.1.2.1
              have r75 : 0 ≤ (V251 75 gf).toInt ∧ (V251 75 gf).toInt ≤ 12 := hMV251 75 gf
              have nd76 := nd9.2.2
              have wr361 : (V251 3 13).toInt = (V 3 13).toInt := congrArg Int32.toInt ((ajV251 3 13 rfl).trans (ajV221 3 13 rfl))
              have wr362 : (V251 3 12).toInt = (V 3 12).toInt := congrArg Int32.toInt ((ajV251 3 12 rfl).trans (ajV221 3 12 rfl))
              have wr363 : (V251 67 gf).toInt = ((V 67 gf)).toInt := (congrArg Int32.toInt ((ajV251 67 gf rfl).trans (ajV221 67 gf rfl)))
              have wr364 : (V251 68 gf).toInt = ((V 68 gf)).toInt := (congrArg Int32.toInt ((ajV251 68 gf rfl).trans (ajV221 68 gf rfl)))
              have wr365 : (V251 69 gf).toInt = ((V 69 gf)).toInt := (congrArg Int32.toInt ((ajV251 69 gf rfl).trans (ajV221 69 gf rfl)))
              have wr366 : (V251 70 gf).toInt = ((V 70 gf)).toInt := (congrArg Int32.toInt ((ajV251 70 gf rfl).trans (ajV221 70 gf rfl)))
              have wr367 : (V251 71 gf).toInt = ((V 71 gf)).toInt := (congrArg Int32.toInt ((ajV251 71 gf rfl).trans (ajV221 71 gf rfl)))
              have wr368 : (V251 72 gf).toInt = ((V 72 gf)).toInt := (congrArg Int32.toInt ((ajV251 72 gf rfl).trans (ajV221 72 gf rfl)))
              have me369 : ME V221 V251 gf := (ME.tr ME.rf t250)
              have rl370 : RWl V251 gB gr t0 := RWl.mv hlj (fun i9 hi9 c9 h1 h2 => me369.2.1 c9 i9 h1 h2 (by (first | exact om_c425d158fbda gd kdp rd rd2 pq236 pq260 hi9 | omega))) (fun j9 hj9 => (ajV251 39 j9 rfl)) (by rw [(ajV251 3 13 rfl)]; exact Int.le_refl _) (ajV251 3 12 rfl)
              have fo8 : FRc V251 gB gr.length (Fmake lv o c pl (((V251 75 gf).toInt.toNat : Nat) : Int) ((z244.toInt.toNat + 1 : Nat) : Int)) := by rw [gl9]; exact ⟨⟨by (first | exact om_ed616bc53b7b gk pq253 | omega), by (first | exact om_36161e850215 k68 pq254 | omega)⟩, ⟨by (first | exact om_cd7d0a6a31bc q69 wr365 | omega), ⟨by (first | exact om_25a0d8f2ad9d q70 pq230 pq255 | omega), by (first | exact om_00fb0f9fc663 fo q70 pq230 pq255 | omega), by (first | exact om_3f002a22628c fo ra2 q70 pq230 pq239 pq255 pq263 | omega)⟩, ⟨by (first | exact om_25a0d8f2ad9d q71 pq231 pq256 | omega), by (first | exact om_5baa07660f58 r2 fc q71 pq231 pq256 | omega), by (first | exact om_7de2badfbbd3 q71 c1 pq231 pq256 | omega)⟩, ⟨by (first | exact om_cd7d0a6a31bc q72 wr368 | omega), by omega, by omega⟩⟩, by (first | exact om_71c4dacf25bf r257 fi | omega), by (first | exact om_9849c7463938 rgz244 nd9 | omega)⟩
              have rwx360 : RW V251 gB ((mJoin gm o.toNat ps.toNat ga.toInt), ga, Fmake lv o c pl (((V251 75 gf).toInt.toNat : Nat) : Int) ((z244.toInt.toNat + 1 : Nat) : Int) :: gr) := RW.id rwj9 (ESw.ag (show agr [] [75, 76] V221 V251 from (agr.tr agr.rf ajV251 (by decide) (by decide))) (by decide)) (ajV251 5 9 rfl) (ajV251 5 10 rfl) (ajV251 5 11 rfl) (ajV251 5 12 rfl) (show (V251 5 6).toInt = ((gr.length + 1 : Nat) : Int) from by (first | exact om_ac3f1eac950e kdp rd rd2 pq236 pq260 | omega)) (show (V251 5 7).toInt = ((t0 : Nat) : Int) from by rw [((ajV251 5 7 rfl).trans (ajV221 5 7 rfl)), rt9, tz9]) (RWl.push rl370 fo8 rfl (np9 rfl))
              refine lv_aload_n hx hb dX5_goOnMaking_119 rfl (lv_at hl 3 rfl) ?_
              refine lv_iload_n hx hb dX5_goOnMaking_120 rfl (lv_at hl 1 rfl) ?_
              refine lv_aload_n hx hb dX5_goOnMaking_121 rfl (lv_at hl 4 rfl) ?_
              refine va_getN (D := D) (ci := 4) (v := .int (V251 72 gf)) (fs := (xfFrame V251 gf)) (C := RX4) (T := TX4) (N := 19) hx hb hg inX4 hown hK hP (336 + gf) (xgFrame il269) rfl 5 (by decide) (hnw.use 1194 n1194 rfl) (fun _ h9 => h9) rfl dX5_goOnMaking_122 ?_
              refine g_top (v := (V 72 gf)) ((ajV251 72 gf rfl).trans (ajV221 72 gf rfl)) ?_
              have r371 : 0 ≤ ((V 72 gf)).toInt ∧ ((V 72 gf)).toInt ≤ 39 := hMV 72 gf
              refine lv_aload_n hx hb dX5_goOnMaking_125 rfl (lv_at hl 4 rfl) ?_
              refine va_getN (D := D) (ci := 4) (v := .int (V251 69 gf)) (fs := (xfFrame V251 gf)) (C := RX4) (T := TX4) (N := 19) hx hb hg inX4 hown hK hP (336 + gf) (xgFrame il269) rfl 2 (by decide) (hnw.use 1191 n1191 rfl) (fun _ h9 => h9) rfl dX5_goOnMaking_126 ?_
              refine g_top (v := (V 69 gf)) ((ajV251 69 gf rfl).trans (ajV221 69 gf rfl)) ?_
              have mt372 : MTw V251 Z223 b := MO.mtw mow359 (by (first | exact om_e163595c47f7 gd kdp rd rd2 pq236 pq260 il269 | omega)) (by (first | exact om_168b5391e5e5 gd kdp rd rd2 pq236 pq260 | omega))
              have bc373 : BKc V251 b gB := BKc.b4 bc (agr.b4 (show agr [(3, 15)] [30, 31, 32, 75, 76] V V251 from (agr.tr (agr.tr agr.rf ajV221 (by decide) (by decide)) ajV251 (by decide) (by decide))) (by decide))
              refine W.know (fun k375 k376 => ?_)
              obtain ⟨Hk374, hHk374⟩ : ∃ z, z = H := ⟨_, rfl⟩
              have k375 : Hk374.size ≤ s.heap.size + (zcc Z - zcc Z223) := by rw [hHk374]; exact k375
              have k376 : tot Hk374 ≤ tot s.heap + (zss Z - zss Z223) := by rw [hHk374]; exact k376
              refine gZ_void (gA_runV (As := [.int z244, .int (V 72 gf), .int (V 69 gf)]) (rest := []) (ci := 5) (q0 := 5) hx hb hml hown hg hP hD hK hS hA hnw hgk (x_seek9 l D ks H.size ad kk V251 L Z223 z244 (V 72 gf) (V 69 gf) (b) (gB) ((mJoin gm o.toNat ps.toNat ga.toInt)) (ga) ((Fmake lv o c pl (((V251 75 gf).toInt.toNat : Nat) : Int) ((z244.toInt.toNat + 1 : Nat) : Int) :: gr)) hMV251 (by (first | exact om_79580dcfea05 rgz244 nd9 | omega)) (by (first | exact om_05bb2217b4c1 q72 wr368 r371 | omega)) (show b < 2 from by (first | exact om_289974d36c9f hb2 mup | omega)) mt372 rwx360 bc373 (show (V251 5 6).toInt ≤ 395 from by (first | exact om_bd930e74fb32 gd r1 kdp rd rd2 sl9 pq236 pq260 | omega)) (show 0 ≤ z244.toInt from by (first | exact om_f61abf7c73fb rgz244 nd9 | omega)) (show z244.toInt < ((nC gB : Nat) : Int) from by (first | exact om_f2a323489b6c rgz244 nd9 nl9 | omega)) (show 0 ≤ ((V 72 gf)).toInt from by (first | exact om_af309afc0cea q72 wr368 r371 | omega)) (show ((V 72 gf)).toInt < (V251 3 12).toInt from by omega)) w1256 w1258 w45 w171 w1259 rfl xgMachine hdV_yX5_seek ⟨Nat.le_of_ble_eq_true rfl, Nat.le_of_ble_eq_true rfl⟩ rfl hl.1 rfl (Nat.le_of_ble_eq_true rfl) dX5_goOnMaking_129 ⟨z1 zoZ223.1, z1 zoZ223.2.1⟩) hD hS hA (fun u378 H locs w379 hP hD hK hS y380 y381 => ?_)
              obtain ⟨V382, L383, Z384⟩ := u378
              obtain ⟨hMV382, ajV382, axL383, zlZ384, t386, t387⟩ := w379
              have axL383 : L = L383 := Eq.symm axL383
              subst axL383
              have hP : va_P D vwCl (xw ad kk V382 L Z384) H := hP
              have hD : va_D A (xw ad kk V382 L Z384) := hD
              have hK : va_K D vwCl (xty kk Z384) s := hK
              have hMV382 : rgd bX V382 := hMV382
              have ajV382 : agr [(3, 13), (5, 6), (5, 9), (5, 10), (5, 11), (5, 12), (5, 13), (5, 14)] [25, 26, 27, 28, 30, 67, 68, 69, 70, 71, 72, 73, 74, 75, 76, 77, 78, 79, 80, 81, 82, 83, 84, 85] V251 V382 := ajV382
              have agV382 : agr [(3, 13), (3, 14), (3, 15), (5, 6), (5, 8), (5, 9), (5, 10), (5, 11), (5, 12), (5, 13), (5, 14)] [24, 25, 26, 27, 28, 29, 30, 31, 32, 40, 67, 68, 69, 70, 71, 72, 73, 74, 75, 76, 77, 78, 79, 80, 81, 82, 83, 84, 85] V V382 := agV251.tr ajV382 (by decide) (by decide)
              have zlZ384 : ZL Z223 Z384 := zlZ384
              have zoZ384 : ZL Z Z384 := ZL.tr zoZ223 zlZ384
              have ziZ384 := zlZ384.1
              have zjZ384 := zlZ384.2.1
              have zkZ384 := zlZ384.2.2.1
              have zmZ384 := zoZ384.1
              have znZ384 := zoZ384.2.1
              have zpZ223_Z384 := zoZ223.1
              have zqZ223_Z384 := zoZ223.2.1
              have y380 : H.size ≤ Hk374.size + (zcc Z223 - zcc Z384) := by rw [hHk374]; exact y380
              have y381 : tot H ≤ tot Hk374 + (zss Z223 - zss Z384) := by rw [hHk374]; exact y381
              refine W.tight (k := zcc Z - zcc Z384) (n := zss Z - zss Z384) (by first | exact tg9 y380 k375 zlZ384.1 zoZ223.1 | omega) (by first | exact tg9 y381 k376 zlZ384.2.1 zoZ223.2.1 | omega) ?_
              have hl : lv_has ls 5 [(4, .int (V 56 (24 * b + (Int32.toNatClampNeg (V 71 gf))))), (3, .int z244), (2, .int 0), (0, .ref (ad 5)), (1, .ref (Z384.fa gf))] := by rw [zlZ384.2.2.2.2 gf il269]; exact hl
              have t386 : MJ V382 Z384 b := t386
              have t387 : RW V382 gB (seekM gB (mJoin gm o.toNat ps.toNat ga.toInt) ga (Fmake lv o c pl (((V251 75 gf).toInt.toNat : Nat) : Int) ((z244.toInt.toNat + 1 : Nat) : Int) :: gr) z244.toInt ((V 72 gf)).toInt ((V 69 gf)).toInt) := t387
              refine lv_goto (tgt := 163) hx hb dX5_goOnMaking_132 (by decide) ?_
              have rx388 : RW V382 gB (stM gB (gm, ga, gfr :: gr)) := by have h9 := t387; rw [q72, q69] at h9; rw [hfe, st_3s (fun h9 => by (first | exact om_6a9401fed63b rh1 f211 h9 | omega)) nd9.2.1, if_pos (show gm 0 6 = 1 from by (first | exact om_78818edf1d02 rh1 f211 | omega))]; show RW V382 gB (seekM gB (mJoin gm o.toNat ps.toNat ga.toInt) ga (Fmake lv o c pl (((V251 75 gf).toInt.toNat : Nat) : Int) ((z244.toInt.toNat + 1 : Nat) : Int) :: gr) ((z244.toInt.toNat : Nat) : Int) pl lv); rw [show ((z244.toInt.toNat : Nat) : Int) = z244.toInt from by (first | exact om_0685abdd592c rgz244 nd9 ziZ384 zjZ384 | omega)]; exact h9
              refine W.know (fun kr1 kr2 => ?_)
              refine W.widen (k := zcc Z) (n := zss Z) (Nat.sub_le _ _) (Nat.sub_le _ _) ?_
              exact W.vret hx hb hr (fun t ht hW => ⟨⟨(V382, L, Z384), rfl, ⟨hMV382, agV382, rfl, zoZ384, t386, rx388⟩, ⟨by rw [ht]; exact hP, va_K.moved hW.alike hK, hD⟩, by rw [ht]; exact kr1, by rw [ht]; exact kr2⟩, hS.F ht⟩) hS.2.2 dX5_goOnMaking_163
        · skip
          have f389 : ((V 5 9)).toInt = 3 := b_eq rfl (by decide) c61
          refine lv_aload_n hx hb dX5_goOnMaking_30 rfl (lv_at hl 1 rfl) ?_
          refine lv_dup hx hb dX5_goOnMaking_31 rfl ?_
          refine va_get (D := D) (ci := 5) (v := .int (V 5 11)) (fs := (xfMachine ad V L Z)) (C := RX5) (T := TX5) (N := 15) hx hb hg inX5 hown hK hP 5 xgMachine rfl 11 (by decide) (hg _ w678) (fun _ h9 => h9) rfl dX5_goOnMaking_32 ?_
          refine lv_iload_n hx hb dX5_goOnMaking_35 rfl (lv_at hl 0 rfl) ?_
          refine lv_if_eq (tgt := 43) hx hb dX5_goOnMaking_36 (by decide) (fun _ => ?_) (fun q => absurd (by decide) q)
          refine lv_iconst (v := 1) hx hb dX5_goOnMaking_43 (by decide) ?_
          refine lv_iadd hx hb dX5_goOnMaking_44 ?_
          have r390 := i_full (V 5 11)
          refine lv_topi (fun z391 ez391 => ?_)
          have hz391 : Imp (-2147483648 ≤ ((V 5 11)).toInt + 1 ∧ ((V 5 11)).toInt + 1 ≤ 2147483647) (z391.toInt = ((V 5 11)).toInt + 1) := Imp.mk (fun hp => i_add ez391 rfl (by decide) hp)
          refine va_put (D := D) (ci := 5) (v := .int z391) (ty := tyX5 11) (fs := (xfMachine ad V L Z)) (C := RX5) (T := TX5) (N := 15) hx hb hg inX5 tyX5 tyX5_ok nmX5 hown hK hP hD hS 5 xgMachine rfl 11 (by decide) (hg _ w678) (fun _ h9 => h9) rfl (tyX5_ok 11 (by decide)) rfl rfl (Nat.le_of_ble_eq_true rfl) dX5_goOnMaking_45 (fun H locs hP hD hS => ?_)
          obtain ⟨V392, hV392⟩ : ∃ z, z = up2 V 5 11 z391 := ⟨_, rfl⟩
          have ew393 : (xw ad kk V L Z).set 5 ((ad 5), .inr (5, (xfMachine ad V L Z).set 11 (.int z391))) = xw ad kk V392 L Z := by rw [hV392]; exact xw_ss (by decide) rfl (xb_si (by decide))
          have hP : va_P D vwCl (xw ad kk V392 L Z) H := by rw [← ew393]; exact hP
          have hD : va_D A (xw ad kk V392 L Z) := by rw [← ew393]; exact hD
          have hMV392 : rgd bX V392 := hMV.put hV392 (i_full _)
          have agV392 : agr [(3, 13), (3, 14), (3, 15), (5, 6), (5, 8), (5, 9), (5, 10), (5, 11), (5, 12), (5, 13), (5, 14)] [24, 25, 26, 27, 28, 29, 30, 31, 32, 40, 67, 68, 69, 70, 71, 72, 73, 74, 75, 76, 77, 78, 79, 80, 81, 82, 83, 84, 85] V V392 := agV.up hV392 rfl
          have wr394 : (V392 3 13).toInt = (V 3 13).toInt := congrArg Int32.toInt (up2_o hV392 (by decide))
          have wr395 : (V392 3 12).toInt = (V 3 12).toInt := congrArg Int32.toInt (up2_o hV392 (by decide))
          have wr396 : (V392 67 gf).toInt = ((V 67 gf)).toInt := (congrArg Int32.toInt (up2_o hV392 (by decide)))
          have wr397 : (V392 68 gf).toInt = ((V 68 gf)).toInt := (congrArg Int32.toInt (up2_o hV392 (by decide)))
          have wr398 : (V392 69 gf).toInt = ((V 69 gf)).toInt := (congrArg Int32.toInt (up2_o hV392 (by decide)))
          have wr399 : (V392 70 gf).toInt = ((V 70 gf)).toInt := (congrArg Int32.toInt (up2_o hV392 (by decide)))
          have wr400 : (V392 71 gf).toInt = ((V 71 gf)).toInt := (congrArg Int32.toInt (up2_o hV392 (by decide)))
          have wr401 : (V392 72 gf).toInt = ((V 72 gf)).toInt := (congrArg Int32.toInt (up2_o hV392 (by decide)))
          have wr402 : (V392 75 gf).toInt = ((V 75 gf)).toInt := (congrArg Int32.toInt (up2_o hV392 (by decide)))
          have wr403 : (V392 76 gf).toInt = ((V 76 gf)).toInt := (congrArg Int32.toInt (up2_o hV392 (by decide)))
          have me404 : ME V V392 gf := (ME.up ME.rf hV392 (Or.inr (by (first | exact om_ded18bf8e7e5  | omega))))
          have rl405 : RWl V392 gB gr t0 := RWl.mv hlr (fun i9 hi9 c9 h1 h2 => me404.2.1 c9 i9 h1 h2 (by (first | exact om_59a77ef8aaca gd kdp rd rd2 hi9 | omega))) (fun j9 hj9 => (up2_o hV392 (by decide))) (by rw [(up2_o hV392 (by decide))]; exact Int.le_refl _) (up2_o hV392 (by decide))
          have pq406 : (V392 5 6).toInt = ((V 5 6)).toInt := congrArg Int32.toInt (up2_k hV392 (by decide))
          have pq407 : (V392 5 9).toInt = ((V 5 9)).toInt := congrArg Int32.toInt (up2_k hV392 (by decide))
          have pq408 : (V392 5 12).toInt = ((V 5 12)).toInt := congrArg Int32.toInt (up2_k hV392 (by decide))
          have fo8 : FRc V392 gB gr.length (Fmake lv o c pl ps it) := by rw [gl9]; exact ⟨⟨by (first | exact om_ed616bc53b7b gk wr396 | omega), by (first | exact om_36161e850215 k68 wr397 | omega)⟩, ⟨by (first | exact om_cd7d0a6a31bc q69 wr398 | omega), ⟨by (first | exact om_cd7d0a6a31bc q70 wr399 | omega), by (first | exact om_72c355b130f5 fo q70 wr399 | omega), by (first | exact om_be0131eba9cf fo ra2 q70 wr394 wr399 | omega)⟩, ⟨by (first | exact om_cd7d0a6a31bc q71 wr400 | omega), by (first | exact om_50e3d3ad91f5 r2 fc q71 wr400 | omega), by (first | exact om_e52dd4456e8b q71 c1 wr400 | omega)⟩, ⟨by (first | exact om_cd7d0a6a31bc q72 wr401 | omega), by omega, by omega⟩⟩, by (first | exact om_cd7d0a6a31bc q75 wr402 | omega), by (first | exact om_cd7d0a6a31bc q76 wr403 | omega)⟩
          have sf4 := sf.2.2.2.1
          have rh2 : gm 0 6 = 2 → (V 5 11).toInt = gm 0 8 ∧ (V 5 12).toInt = gm 0 9 := rh.2.2.1
          have nz9 : gm 0 6 = 2 → z391.toInt = gm 0 8 + 1 := fun h9 => by have h8 : 0 ≤ gm 0 8 ∧ gm 0 8 ≤ 10000 := sf4 h9; have h7 := rh2 h9; have h6 : z391.toInt = (V 5 11).toInt + 1 := i_add ez391 rfl (by decide) (by (first | exact om_37510c3271fd rh1 f389 h9 | omega)); (first | exact om_56623c4b7071 rh1 f389 h9 | omega)
          have rn8 : RWn V392 ow gB (mU gm 0 8 (gm 0 8 + 1)) := RWn.mv rn (fun j9 hj9 => mU_o _ _ (by (first | exact om_04f96242676c hj9 | omega))) (fun x9 j9 hx9 _ => mU_o _ _ (by omega)) (fun k9 => (up2_o hV392 (by decide))) (up2_o hV392 (by decide)) (up2_k hV392 (by decide)) (up2_k hV392 (by decide)) (fun c9 k9 h1 h2 h3 => (show V392 c9 k9 = V c9 k9 from by rw [hV392]; exact up2_pl (by (first | exact om_6d4550d9bb9e h1 h2 | omega))))
          have m06 : (mU gm 0 8 (gm 0 8 + 1)) 0 6 = gm 0 6 := mU_o _ _ (by (first | exact om_50b854601a02  | omega))
          have m08 : gm 0 6 = 2 → z391.toInt = (mU gm 0 8 (gm 0 8 + 1)) 0 8 := fun h9 => by rw [mU_s]; exact nz9 h9
          have m09 : (mU gm 0 8 (gm 0 8 + 1)) 0 9 = gm 0 9 := mU_o _ _ (by (first | exact om_2a2523ed32fa  | omega))
          have rwx9 : RW V392 gB ((mU gm 0 8 (gm 0 8 + 1)), ga, gfr :: gr) := by rw [hfe]; exact RW.fin rwq rn8 (mU_o _ _ (by (first | exact om_a6480dcc7cd0  | omega))) (fun i9 => mU_o _ _ (by (first | exact om_b07bdf6620fe  | omega))) (up2_k hV392 (by decide)) (fun i9 => (up2_o hV392 (by decide))) (by rw [m06, (up2_k hV392 (by decide))]; exact rh1) (fun h9 => by rw [m06] at h9; rw [(up2_k hV392 (by decide))]; exact rh.2.1 h9) (fun h9 => by rw [m06] at h9; rw [m09, (up2_s hV392)]; exact ⟨m08 h9, by rw [(up2_k hV392 (by decide))]; exact (rh2 h9).2⟩) (show (V392 5 6).toInt = ((gr.length + 1 : Nat) : Int) from by (first | exact om_66365ac95418 kdp rd rd2 pq406 | omega)) (show (V392 5 7).toInt = ((t0 : Nat) : Int) from by rw [(up2_k hV392 (by decide)), rt9, tz9]) (RWl.push rl405 fo8 rfl (np9 rfl))
          have q70b : (V392 70 gf).toInt = o := by (first | exact om_cd7d0a6a31bc q70 wr399 | omega)
          have q71b : (V392 71 gf).toInt = c := by (first | exact om_cd7d0a6a31bc q71 wr400 | omega)
          have q72b : (V392 72 gf).toInt = pl := by (first | exact om_cd7d0a6a31bc q72 wr401 | omega)
          refine lv_aload_n hx hb dX5_goOnMaking_48 rfl (lv_at hl 1 rfl) ?_
          refine lv_aload_n hx hb dX5_goOnMaking_49 rfl (lv_at hl 2 rfl) ?_
          have pq409 : (V392 67 gf).toInt = ((V 67 gf)).toInt := congrArg Int32.toInt (up2_o hV392 (by decide))
          have me410 : ME V V392 gf := (ME.up ME.rf hV392 (Or.inr (by (first | exact om_ded18bf8e7e5  | omega))))
          have pq411 : (V392 68 gf).toInt = ((V 68 gf)).toInt := congrArg Int32.toInt (up2_o hV392 (by decide))
          have pq412 : (V392 70 gf).toInt = ((V 70 gf)).toInt := congrArg Int32.toInt (up2_o hV392 (by decide))
          have pq413 : (V392 71 gf).toInt = ((V 71 gf)).toInt := congrArg Int32.toInt (up2_o hV392 (by decide))
          have pq414 : (V392 75 gf).toInt = ((V 75 gf)).toInt := congrArg Int32.toInt (up2_o hV392 (by decide))
          have pq415 : (V392 76 gf).toInt = ((V 76 gf)).toInt := congrArg Int32.toInt (up2_o hV392 (by decide))
          have pq416 : (V392 80 gf).toInt = ((V 80 gf)).toInt := congrArg Int32.toInt (up2_o hV392 (by decide))
          have pq417 : (V392 84 gf).toInt = ((V 84 gf)).toInt := congrArg Int32.toInt (up2_o hV392 (by decide))
          have pq418 : (V392 5 8).toInt = ((V 5 8)).toInt := congrArg Int32.toInt (up2_k hV392 (by decide))
          have pq419 : (V392 3 13).toInt = ((V 3 13)).toInt := congrArg Int32.toInt (up2_o hV392 (by decide))
          have pq420 : (V392 43 (5 * b + 2)).toInt = ((V 43 (5 * b + 2))).toInt := congrArg Int32.toInt (up2_o hV392 (by decide))
          have pq421 : (V392 42 b).toInt = ((V 42 b)).toInt := congrArg Int32.toInt (up2_o hV392 (by decide))
          have pq422 : (V392 41 b).toInt = ((V 41 b)).toInt := congrArg Int32.toInt (up2_o hV392 (by decide))
          have mo423 : MO V392 Z b gf False False False := MO.ch mo me410 (up2_o hV392 (by decide)) (up2_o hV392 (by decide)) (fun _ => Or.inl (by omega)) (fun x h => FK.s1 h (by (first | exact om_710535a98d88 gk | omega)) (by (first | exact om_f487bbba8676 gk k68 q70 wr396 wr397 wr399 | omega)) (by (first | exact om_a305bbc40630 q71 wr400 | omega)) (by (first | exact om_65533ac605c6 q75 q76 wr402 wr403 | omega)) (by (first | exact om_4e1f6625f8a5 ra2 wr394 pq420 | omega)) (fun z => z.elim))
          have bc424 : BKc V392 b gB := BKc.b4 bc (agr.b4 (show agr [(5, 11)] [] V V392 from (agr.up agr.rf hV392 rfl)) (by decide))
          refine gA_void (gA_runV (As := [.ref (Z.fa gf)]) (rest := []) (ci := 5) (q0 := 5) hx hb hml hown hg hP hD hK hS hA hnw hgk (x_abandon9 l D ks H.size ad kk V392 L Z (b) (gf) (gB) ((mU gm 0 8 (gm 0 8 + 1))) (ga) (gfr) (gr) hMV392 (show b < 2 from by first | exact om_289974d36c9f hb2 mup | first | omega | ((try (have i_hz391 := Imp.go hz391 (by omega))); omega)) (show gf < Z.nf from by first | exact om_d9a628b8387a hgf gd kdp rd rd2 pq406 | first | omega | ((try (have i_hz391 := Imp.go hz391 (by omega))); omega)) mo423 (show (gf : Int) + 1 = (V392 5 6).toInt from by first | exact om_23ab2a0d3264 gd kdp rd rd2 pq406 | first | omega | ((try (have i_hz391 := Imp.go hz391 (by omega))); omega)) (show (V392 67 gf).toInt = 1 from by first | exact om_ed616bc53b7b gk wr396 | first | omega | ((try (have i_hz391 := Imp.go hz391 (by omega))); omega)) rwx9 bc424 (show (V392 5 6).toInt ≤ 395 from by first | exact om_1150cee5daf6 gd r1 kdp rd rd2 sl9 pq406 | first | omega | ((try (have i_hz391 := Imp.go hz391 (by omega))); omega)) (show (V392 5 9).toInt = 2 ∨ (V392 5 9).toInt = 3 from by first | exact om_b13feecbafbe rh1 f389 pq407 | first | omega | ((try (have i_hz391 := Imp.go hz391 (by omega))); omega))) w1332 w1334 w54 w171 w1335 rfl xgMachine hdV_yX5_abandon ⟨Nat.le_of_ble_eq_true rfl, Nat.le_of_ble_eq_true rfl⟩ rfl hl.1 rfl (Nat.le_of_ble_eq_true rfl) dX5_goOnMaking_50 ⟨z0, z0⟩) hP hD hK hS hA (fun u426 H locs w427 hP hD hK hS => ?_)
          obtain ⟨V430, L431⟩ := u426
          obtain ⟨hMV430, ajV430, axL431, t428, t429⟩ := w427
          have axL431 : L = L431 := Eq.symm axL431
          subst axL431
          have hP : va_P D vwCl (xw ad kk V430 L Z) H := hP
          have hD : va_D A (xw ad kk V430 L Z) := hD
          have hMV430 : rgd bX V430 := hMV430
          have ajV430 : agr [(5, 6)] [24, 25, 28] V392 V430 := ajV430
          have agV430 : agr [(3, 13), (3, 14), (3, 15), (5, 6), (5, 8), (5, 9), (5, 10), (5, 11), (5, 12), (5, 13), (5, 14)] [24, 25, 26, 27, 28, 29, 30, 31, 32, 40, 67, 68, 69, 70, 71, 72, 73, 74, 75, 76, 77, 78, 79, 80, 81, 82, 83, 84, 85] V V430 := agV392.tr ajV430 (by decide) (by decide)
          have t428 : MJ V430 Z b := t428
          have t429 : RW V430 gB (mAb gB (mU gm 0 8 (gm 0 8 + 1)) (V392 70 gf).toInt (V392 71 gf).toInt (V392 72 gf).toInt, ga, gr) := t429
          have rx432 : RW V430 gB (stM gB (gm, ga, gfr :: gr)) := by have h9 := t429; rw [q70b, q71b, q72b] at h9; rw [hfe, st_3f (by (first | exact om_2ed3b7cc3750 rh1 f389 | omega))]; exact h9
          refine W.know (fun kr1 kr2 => ?_)
          refine W.widen (k := zcc Z) (n := zss Z) (Nat.sub_le _ _) (Nat.sub_le _ _) ?_
          exact W.vret hx hb hr (fun t ht hW => ⟨⟨(V430, L, Z), rfl, ⟨hMV430, agV430, rfl, zoZ, t428, rx432⟩, ⟨by rw [ht]; exact hP, va_K.moved hW.alike hK, hD⟩, by rw [ht]; exact kr1, by rw [ht]; exact kr2⟩, hS.F ht⟩) hS.2.2 dX5_goOnMaking_53
    · skip
      have f433 : ((V 68 gf)).toInt = 1 := b_eq rfl (by decide) c13
      exfalso; (first | exact om_4c701f2d8c50 k68 f433 | omega)
  · skip
    have hf : FRc V gB gf (Fopen lv o c pl) := by rw [← hfe]; exact hf0
    have tl8 : tw9 = t0 + (Fopen lv o c pl : Fr).2.2.2.length := by rw [← hfe]; exact tl9
    obtain ⟨⟨k67, k68⟩, hoc⟩ := hf
    obtain ⟨q69, ⟨q70, o0, o1⟩, ⟨q71, c0, c1⟩, ⟨q72, s0, s1⟩⟩ := hoc
    have cn9 : c.toNat < nC gB := by (first | exact om_51a08a25bfb6 r2 fc q71 c1 | omega)
    have kc9 : Int32.toNatClampNeg (V 71 gf) = c.toNat := by have h9 := i_clamp (x := V 71 gf) rfl (by (first | exact om_762d7ad45f4b r2 fc q71 | omega)); (first | exact om_57d2b76748c0 r2 fc q71 h9 | omega)
    have ko9 : Int32.toNatClampNeg (V 70 gf) = o.toNat := by have h9 := i_clamp (x := V 70 gf) rfl (by (first | exact om_982736d7659e fo q70 | omega)); (first | exact om_20e87943cd78 fo q70 h9 | omega)
    have kp9 : Int32.toNatClampNeg (V 72 gf) = pl.toNat := by have h9 := i_clamp (x := V 72 gf) rfl (by omega); (first | exact om_f7254f2bac5c q72 h9 | omega)
    have tz9 : tw9 = t0 := tl8
    have rh8 : (V 5 8).toInt = gm 0 4 := rh.2.2.2.1
    have sft : SFt gB gm ga (Fopen lv o c pl) := by rw [← hfe]; exact sf.2.2.2.2 gfr gr rfl
    obtain ⟨sf1, sf3⟩ := sft
    have en9 : (V 3 14).toInt = gm 0 3 := rn.1.1.2.2.2
    have en8 : 0 ≤ gm 0 3 ∧ gm 0 3 ≤ 300 := sf.2.2.1
    have kp7 : (V 70 gf).toInt.toNat = o.toNat := by first | exact congrArg Int.toNat q70 | omega
    refine lv_aload_n hx hb dX5_goOnMaking_0 rfl (lv_at hl 1 rfl) ?_
    refine va_getN (D := D) (ci := 4) (v := .int (V 68 gf)) (fs := (xfFrame V gf)) (C := RX4) (T := TX4) (N := 19) hx hb hg inX4 hown hK hP (336 + gf) (xgFrame hgf) rfl 1 (by decide) (hnw.use 1190 n1190 rfl) (fun _ h9 => h9) rfl dX5_goOnMaking_1 ?_
    refine lv_iconst (v := 1) hx hb dX5_goOnMaking_4 (by decide) ?_
    refine lv_icmp_ne (tgt := 12) hx hb dX5_goOnMaking_5 (by decide) (fun c434 => ?_) (fun c434 => ?_)
    · skip
      have f435 : ((V 68 gf)).toInt ≠ 1 := b_neq rfl (by decide) c434
      exfalso; (first | exact om_b36fcf15d462 k68 f435 | omega)
    · skip
      have f436 : ((V 68 gf)).toInt = 1 := b_eq rfl (by decide) c434
      refine lv_iconst (v := 1) hx hb dX5_goOnMaking_8 (by decide) ?_
      refine lv_goto (tgt := 13) hx hb dX5_goOnMaking_9 (by decide) ?_
      refine lv_istore_n (lv' := [(2, .int 1), (0, .ref (ad 5)), (1, .ref (Z.fa gf))]) hx hb dX5_goOnMaking_13 rfl hl (by decide) rfl (fun ls hl => ?_)
      refine lv_aload_n hx hb dX5_goOnMaking_14 rfl (lv_at hl 1 rfl) ?_
      refine va_get (D := D) (ci := 5) (v := .int (V 5 9)) (fs := (xfMachine ad V L Z)) (C := RX5) (T := TX5) (N := 15) hx hb hg inX5 hown hK hP 5 xgMachine rfl 9 (by decide) (hg _ w676) (fun _ h9 => h9) rfl dX5_goOnMaking_15 ?_
      refine lv_iconst (v := 2) hx hb dX5_goOnMaking_18 (by decide) ?_
      refine lv_icmp_eq (tgt := 30) hx hb dX5_goOnMaking_19 (by decide) (fun c437 => ?_) (fun c437 => ?_)
      · skip
        have f438 : ((V 5 9)).toInt = 2 := b_eq rfl (by decide) c437
        refine lv_aload_n hx hb dX5_goOnMaking_30 rfl (lv_at hl 1 rfl) ?_
        refine lv_dup hx hb dX5_goOnMaking_31 rfl ?_
        refine va_get (D := D) (ci := 5) (v := .int (V 5 11)) (fs := (xfMachine ad V L Z)) (C := RX5) (T := TX5) (N := 15) hx hb hg inX5 hown hK hP 5 xgMachine rfl 11 (by decide) (hg _ w678) (fun _ h9 => h9) rfl dX5_goOnMaking_32 ?_
        refine lv_iload_n hx hb dX5_goOnMaking_35 rfl (lv_at hl 0 rfl) ?_
        refine lv_if_eq (tgt := 43) hx hb dX5_goOnMaking_36 (by decide) (fun q => absurd q (by decide)) (fun _ => ?_)
        refine lv_iconst (v := 0) hx hb dX5_goOnMaking_39 (by decide) ?_
        refine lv_goto (tgt := 44) hx hb dX5_goOnMaking_40 (by decide) ?_
        refine lv_iadd hx hb dX5_goOnMaking_44 ?_
        have r439 := i_full (V 5 11)
        refine lv_topi (fun z440 ez440 => ?_)
        have hz440 : z440.toInt = ((V 5 11)).toInt + 0 := i_add ez440 rfl (by decide) (by (first | exact om_95417e80824d r439 | omega))
        refine va_put (D := D) (ci := 5) (v := .int z440) (ty := tyX5 11) (fs := (xfMachine ad V L Z)) (C := RX5) (T := TX5) (N := 15) hx hb hg inX5 tyX5 tyX5_ok nmX5 hown hK hP hD hS 5 xgMachine rfl 11 (by decide) (hg _ w678) (fun _ h9 => h9) rfl (tyX5_ok 11 (by decide)) rfl rfl (Nat.le_of_ble_eq_true rfl) dX5_goOnMaking_45 (fun H locs hP hD hS => ?_)
        obtain ⟨V441, hV441⟩ : ∃ z, z = up2 V 5 11 z440 := ⟨_, rfl⟩
        have ew442 : (xw ad kk V L Z).set 5 ((ad 5), .inr (5, (xfMachine ad V L Z).set 11 (.int z440))) = xw ad kk V441 L Z := by rw [hV441]; exact xw_ss (by decide) rfl (xb_si (by decide))
        have hP : va_P D vwCl (xw ad kk V441 L Z) H := by rw [← ew442]; exact hP
        have hD : va_D A (xw ad kk V441 L Z) := by rw [← ew442]; exact hD
        have hMV441 : rgd bX V441 := hMV.put hV441 (i_full _)
        have agV441 : agr [(3, 13), (3, 14), (3, 15), (5, 6), (5, 8), (5, 9), (5, 10), (5, 11), (5, 12), (5, 13), (5, 14)] [24, 25, 26, 27, 28, 29, 30, 31, 32, 40, 67, 68, 69, 70, 71, 72, 73, 74, 75, 76, 77, 78, 79, 80, 81, 82, 83, 84, 85] V V441 := agV.up hV441 rfl
        have wr443 : (V441 3 13).toInt = (V 3 13).toInt := congrArg Int32.toInt (up2_o hV441 (by decide))
        have wr444 : (V441 3 12).toInt = (V 3 12).toInt := congrArg Int32.toInt (up2_o hV441 (by decide))
        have wr445 : (V441 67 gf).toInt = ((V 67 gf)).toInt := (congrArg Int32.toInt (up2_o hV441 (by decide)))
        have wr446 : (V441 68 gf).toInt = ((V 68 gf)).toInt := (congrArg Int32.toInt (up2_o hV441 (by decide)))
        have wr447 : (V441 69 gf).toInt = ((V 69 gf)).toInt := (congrArg Int32.toInt (up2_o hV441 (by decide)))
        have wr448 : (V441 70 gf).toInt = ((V 70 gf)).toInt := (congrArg Int32.toInt (up2_o hV441 (by decide)))
        have wr449 : (V441 71 gf).toInt = ((V 71 gf)).toInt := (congrArg Int32.toInt (up2_o hV441 (by decide)))
        have wr450 : (V441 72 gf).toInt = ((V 72 gf)).toInt := (congrArg Int32.toInt (up2_o hV441 (by decide)))
        have wr451 : (V441 75 gf).toInt = ((V 75 gf)).toInt := (congrArg Int32.toInt (up2_o hV441 (by decide)))
        have wr452 : (V441 76 gf).toInt = ((V 76 gf)).toInt := (congrArg Int32.toInt (up2_o hV441 (by decide)))
        have me453 : ME V V441 gf := (ME.up ME.rf hV441 (Or.inr (by (first | exact om_ded18bf8e7e5  | omega))))
        have rl454 : RWl V441 gB gr t0 := RWl.mv hlr (fun i9 hi9 c9 h1 h2 => me453.2.1 c9 i9 h1 h2 (by (first | exact om_59a77ef8aaca gd kdp rd rd2 hi9 | omega))) (fun j9 hj9 => (up2_o hV441 (by decide))) (by rw [(up2_o hV441 (by decide))]; exact Int.le_refl _) (up2_o hV441 (by decide))
        have pq455 : (V441 5 6).toInt = ((V 5 6)).toInt := congrArg Int32.toInt (up2_k hV441 (by decide))
        have pq456 : (V441 5 9).toInt = ((V 5 9)).toInt := congrArg Int32.toInt (up2_k hV441 (by decide))
        have pq457 : (V441 5 12).toInt = ((V 5 12)).toInt := congrArg Int32.toInt (up2_k hV441 (by decide))
        have fo8 : FRc V441 gB gr.length (Fopen lv o c pl) := by rw [gl9]; exact ⟨⟨by (first | exact om_ed616bc53b7b gk wr445 | omega), by (first | exact om_ed616bc53b7b k68 wr446 | omega)⟩, ⟨by (first | exact om_cd7d0a6a31bc q69 wr447 | omega), ⟨by (first | exact om_cd7d0a6a31bc q70 wr448 | omega), by (first | exact om_72c355b130f5 fo q70 wr448 | omega), by (first | exact om_be0131eba9cf fo ra2 q70 wr443 wr448 | omega)⟩, ⟨by (first | exact om_cd7d0a6a31bc q71 wr449 | omega), by (first | exact om_50e3d3ad91f5 r2 fc q71 wr449 | omega), by (first | exact om_e52dd4456e8b q71 c1 wr449 | omega)⟩, ⟨by (first | exact om_cd7d0a6a31bc q72 wr450 | omega), by omega, by omega⟩⟩⟩
        have sf4 := sf.2.2.2.1
        have rh2 : gm 0 6 = 2 → (V 5 11).toInt = gm 0 8 ∧ (V 5 12).toInt = gm 0 9 := rh.2.2.1
        have nz9 : gm 0 6 = 2 → z440.toInt = gm 0 8 := fun h9 => by have h8 : 0 ≤ gm 0 8 ∧ gm 0 8 ≤ 10000 := sf4 h9; have h7 := rh2 h9; have h6 : z440.toInt = (V 5 11).toInt + 0 := i_add ez440 rfl (by decide) (by (first | exact om_097b9a702dc6 hz440 h8 h7 | omega)); (first | exact om_c360c54ea6f9 hz440 h7 | omega)
        have rn8 : RWn V441 ow gB gm := RWn.mv rn (fun j9 hj9 => rfl) (fun x9 j9 hx9 _ => rfl) (fun k9 => (up2_o hV441 (by decide))) (up2_o hV441 (by decide)) (up2_k hV441 (by decide)) (up2_k hV441 (by decide)) (fun c9 k9 h1 h2 h3 => (show V441 c9 k9 = V c9 k9 from by rw [hV441]; exact up2_pl (by (first | exact om_6d4550d9bb9e h1 h2 | omega))))
        have m06 : gm 0 6 = gm 0 6 := rfl
        have m08 : gm 0 6 = 2 → z440.toInt = gm 0 8 := fun h9 => by exact nz9 h9
        have m09 : gm 0 9 = gm 0 9 := rfl
        have rwx9 : RW V441 gB (gm, ga, gfr :: gr) := by rw [hfe]; exact RW.fin rwq rn8 (rfl) (fun i9 => rfl) (up2_k hV441 (by decide)) (fun i9 => (up2_o hV441 (by decide))) (by rw [m06, (up2_k hV441 (by decide))]; exact rh1) (fun h9 => by rw [m06] at h9; rw [(up2_k hV441 (by decide))]; exact rh.2.1 h9) (fun h9 => by rw [m06] at h9; rw [m09, (up2_s hV441)]; exact ⟨m08 h9, by rw [(up2_k hV441 (by decide))]; exact (rh2 h9).2⟩) (show (V441 5 6).toInt = ((gr.length + 1 : Nat) : Int) from by (first | exact om_66365ac95418 kdp rd rd2 pq455 | omega)) (show (V441 5 7).toInt = ((t0 : Nat) : Int) from by rw [(up2_k hV441 (by decide)), rt9, tz9]) (RWl.push rl454 fo8 rfl (np9 rfl))
        have q70b : (V441 70 gf).toInt = o := by (first | exact om_cd7d0a6a31bc q70 wr448 | omega)
        have q71b : (V441 71 gf).toInt = c := by (first | exact om_cd7d0a6a31bc q71 wr449 | omega)
        have q72b : (V441 72 gf).toInt = pl := by (first | exact om_cd7d0a6a31bc q72 wr450 | omega)
        refine lv_aload_n hx hb dX5_goOnMaking_48 rfl (lv_at hl 1 rfl) ?_
        refine lv_aload_n hx hb dX5_goOnMaking_49 rfl (lv_at hl 2 rfl) ?_
        have pq458 : (V441 67 gf).toInt = ((V 67 gf)).toInt := congrArg Int32.toInt (up2_o hV441 (by decide))
        have me459 : ME V V441 gf := (ME.up ME.rf hV441 (Or.inr (by (first | exact om_ded18bf8e7e5  | omega))))
        have pq460 : (V441 68 gf).toInt = ((V 68 gf)).toInt := congrArg Int32.toInt (up2_o hV441 (by decide))
        have pq461 : (V441 70 gf).toInt = ((V 70 gf)).toInt := congrArg Int32.toInt (up2_o hV441 (by decide))
        have pq462 : (V441 71 gf).toInt = ((V 71 gf)).toInt := congrArg Int32.toInt (up2_o hV441 (by decide))
        have pq463 : (V441 75 gf).toInt = ((V 75 gf)).toInt := congrArg Int32.toInt (up2_o hV441 (by decide))
        have pq464 : (V441 76 gf).toInt = ((V 76 gf)).toInt := congrArg Int32.toInt (up2_o hV441 (by decide))
        have pq465 : (V441 80 gf).toInt = ((V 80 gf)).toInt := congrArg Int32.toInt (up2_o hV441 (by decide))
        have pq466 : (V441 84 gf).toInt = ((V 84 gf)).toInt := congrArg Int32.toInt (up2_o hV441 (by decide))
        have pq467 : (V441 5 8).toInt = ((V 5 8)).toInt := congrArg Int32.toInt (up2_k hV441 (by decide))
        have pq468 : (V441 3 13).toInt = ((V 3 13)).toInt := congrArg Int32.toInt (up2_o hV441 (by decide))
        have pq469 : (V441 43 (5 * b + 2)).toInt = ((V 43 (5 * b + 2))).toInt := congrArg Int32.toInt (up2_o hV441 (by decide))
        have pq470 : (V441 42 b).toInt = ((V 42 b)).toInt := congrArg Int32.toInt (up2_o hV441 (by decide))
        have pq471 : (V441 41 b).toInt = ((V 41 b)).toInt := congrArg Int32.toInt (up2_o hV441 (by decide))
        have mo472 : MO V441 Z b gf False False False := MO.ch mo me459 (up2_o hV441 (by decide)) (up2_o hV441 (by decide)) (fun _ => Or.inl (by omega)) (fun x h => FK.s1 h (by (first | exact om_710535a98d88 gk | omega)) (by (first | exact om_e43554bd018e gk k68 q70 wr445 wr446 wr448 | omega)) (by (first | exact om_a305bbc40630 q71 wr449 | omega)) (by (first | exact om_67673d8f6684 wr451 wr452 | omega)) (by (first | exact om_4e1f6625f8a5 ra2 wr443 pq469 | omega)) (fun z => z.elim))
        have bc473 : BKc V441 b gB := BKc.b4 bc (agr.b4 (show agr [(5, 11)] [] V V441 from (agr.up agr.rf hV441 rfl)) (by decide))
        refine gA_void (gA_runV (As := [.ref (Z.fa gf)]) (rest := []) (ci := 5) (q0 := 5) hx hb hml hown hg hP hD hK hS hA hnw hgk (x_abandon9 l D ks H.size ad kk V441 L Z (b) (gf) (gB) (gm) (ga) (gfr) (gr) hMV441 (show b < 2 from by (first | exact om_289974d36c9f hb2 mup | omega)) (show gf < Z.nf from by (first | exact om_d9a628b8387a hgf gd kdp rd rd2 pq455 | omega)) mo472 (show (gf : Int) + 1 = (V441 5 6).toInt from by (first | exact om_23ab2a0d3264 gd kdp rd rd2 pq455 | omega)) (show (V441 67 gf).toInt = 1 from by (first | exact om_ed616bc53b7b gk wr445 | omega)) rwx9 bc473 (show (V441 5 6).toInt ≤ 395 from by (first | exact om_1150cee5daf6 gd r1 kdp rd rd2 sl9 pq455 | omega)) (show (V441 5 9).toInt = 2 ∨ (V441 5 9).toInt = 3 from by (first | exact om_5eb78abebfd0 rh1 f438 pq456 | omega))) w1332 w1334 w54 w171 w1335 rfl xgMachine hdV_yX5_abandon ⟨Nat.le_of_ble_eq_true rfl, Nat.le_of_ble_eq_true rfl⟩ rfl hl.1 rfl (Nat.le_of_ble_eq_true rfl) dX5_goOnMaking_50 ⟨z0, z0⟩) hP hD hK hS hA (fun u475 H locs w476 hP hD hK hS => ?_)
        obtain ⟨V479, L480⟩ := u475
        obtain ⟨hMV479, ajV479, axL480, t477, t478⟩ := w476
        have axL480 : L = L480 := Eq.symm axL480
        subst axL480
        have hP : va_P D vwCl (xw ad kk V479 L Z) H := hP
        have hD : va_D A (xw ad kk V479 L Z) := hD
        have hMV479 : rgd bX V479 := hMV479
        have ajV479 : agr [(5, 6)] [24, 25, 28] V441 V479 := ajV479
        have agV479 : agr [(3, 13), (3, 14), (3, 15), (5, 6), (5, 8), (5, 9), (5, 10), (5, 11), (5, 12), (5, 13), (5, 14)] [24, 25, 26, 27, 28, 29, 30, 31, 32, 40, 67, 68, 69, 70, 71, 72, 73, 74, 75, 76, 77, 78, 79, 80, 81, 82, 83, 84, 85] V V479 := agV441.tr ajV479 (by decide) (by decide)
        have t477 : MJ V479 Z b := t477
        have t478 : RW V479 gB (mAb gB gm (V441 70 gf).toInt (V441 71 gf).toInt (V441 72 gf).toInt, ga, gr) := t478
        have rx481 : RW V479 gB (stM gB (gm, ga, gfr :: gr)) := by have h9 := t478; rw [q70b, q71b, q72b] at h9; rw [hfe, st_4f (by (first | exact om_6b655dca67f4 rh1 f438 | omega))]; exact h9
        refine W.know (fun kr1 kr2 => ?_)
        refine W.widen (k := zcc Z) (n := zss Z) (Nat.sub_le _ _) (Nat.sub_le _ _) ?_
        exact W.vret hx hb hr (fun t ht hW => ⟨⟨(V479, L, Z), rfl, ⟨hMV479, agV479, rfl, zoZ, t477, rx481⟩, ⟨by rw [ht]; exact hP, va_K.moved hW.alike hK, hD⟩, by rw [ht]; exact kr1, by rw [ht]; exact kr2⟩, hS.F ht⟩) hS.2.2 dX5_goOnMaking_53
      · skip
        have f482 : ((V 5 9)).toInt ≠ 2 := b_neq rfl (by decide) c437
        refine lv_aload_n hx hb dX5_goOnMaking_22 rfl (lv_at hl 1 rfl) ?_
        refine va_get (D := D) (ci := 5) (v := .int (V 5 9)) (fs := (xfMachine ad V L Z)) (C := RX5) (T := TX5) (N := 15) hx hb hg inX5 hown hK hP 5 xgMachine rfl 9 (by decide) (hg _ w676) (fun _ h9 => h9) rfl dX5_goOnMaking_23 ?_
        refine lv_iconst (v := 3) hx hb dX5_goOnMaking_26 (by decide) ?_
        refine lv_icmp_ne (tgt := 54) hx hb dX5_goOnMaking_27 (by decide) (fun c483 => ?_) (fun c483 => ?_)
        · skip
          have f484 : ((V 5 9)).toInt ≠ 3 := b_neq rfl (by decide) c483
          refine lv_iload_n hx hb dX5_goOnMaking_54 rfl (lv_at hl 0 rfl) ?_
          refine lv_if_eq (tgt := 64) hx hb dX5_goOnMaking_55 (by decide) (fun q => absurd q (by decide)) (fun _ => ?_)
          refine lv_aload_n hx hb dX5_goOnMaking_58 rfl (lv_at hl 1 rfl) ?_
          refine lv_aload_n hx hb dX5_goOnMaking_59 rfl (lv_at hl 2 rfl) ?_
          have me485 : ME V V gf := ME.rf
          have mo486 : MO V Z b gf False False False := MO.ch mo me485 rfl rfl (fun _ => Or.inl (by omega)) (fun x h => FK.s1 h (by (first | exact om_710535a98d88 gk | omega)) (by (first | exact om_5adeccadcb9e  | omega)) (by (first | exact om_4c2c879c4424  | omega)) (by (first | exact om_792fc26656f2  | omega)) (by (first | exact om_792fc26656f2  | omega)) (fun z => z.elim))
          refine gA_void (gA_runV (As := [.ref (Z.fa gf)]) (rest := []) (ci := 5) (q0 := 5) hx hb hml hown hg hP hD hK hS hA hnw hgk (x_finish9 l D ks H.size ad kk V L Z (b) (gf) (gB) (gm) (ga) (gfr) (gr) hMV (show b < 2 from by (first | exact om_289974d36c9f hb2 mup | omega)) (show gf < Z.nf from by (first | exact om_725d0642dd96 hgf gd kdp rd rd2 | omega)) mo486 (show (gf : Int) + 1 = (V 5 6).toInt from by (first | exact om_d5747674bc98 gd | omega)) (show (V 67 gf).toInt = 1 from by (first | exact om_710535a98d88 gk | omega)) rwq bc (show (V 5 6).toInt ≤ 395 from by (first | exact om_1c37055e4d93 gd r1 kdp rd rd2 sl9 | omega)) (by rw [kp7]; exact sf3) (show (V 5 8).toInt ≤ 299 from by (first | exact om_d079092c607a r6 rh8 sf1 | omega)) (show 0 ≤ (V 3 14).toInt from by (first | exact om_6af29b9022bd en9 en8 | omega)) (show (V 3 14).toInt ≤ 300 from by (first | exact om_a62c7cb717ce en9 en8 | omega))) w1344 w1346 w55 w171 w1347 rfl xgMachine hdV_yX5_finish ⟨Nat.le_of_ble_eq_true rfl, Nat.le_of_ble_eq_true rfl⟩ rfl hl.1 rfl (Nat.le_of_ble_eq_true rfl) dX5_goOnMaking_60 ⟨z0, z0⟩) hP hD hK hS hA (fun u488 H locs w489 hP hD hK hS => ?_)
          obtain ⟨V492, L493⟩ := u488
          obtain ⟨hMV492, ajV492, axL493, t490, t491⟩ := w489
          have axL493 : L = L493 := Eq.symm axL493
          subst axL493
          have hP : va_P D vwCl (xw ad kk V492 L Z) H := hP
          have hD : va_D A (xw ad kk V492 L Z) := hD
          have hMV492 : rgd bX V492 := hMV492
          have ajV492 : agr [(3, 14), (5, 6), (5, 8), (5, 9), (5, 10)] [28, 29, 40] V V492 := ajV492
          have agV492 : agr [(3, 13), (3, 14), (3, 15), (5, 6), (5, 8), (5, 9), (5, 10), (5, 11), (5, 12), (5, 13), (5, 14)] [24, 25, 26, 27, 28, 29, 30, 31, 32, 40, 67, 68, 69, 70, 71, 72, 73, 74, 75, 76, 77, 78, 79, 80, 81, 82, 83, 84, 85] V V492 := agV.tr ajV492 (by decide) (by decide)
          have t490 : MJ V492 Z b := t490
          have t491 : RW V492 gB (mAns (mDone gm (V 70 gf).toInt.toNat) (nI (V 70 gf).toInt.toNat) gr) := t491
          have rx494 : RW V492 gB (stM gB (gm, ga, gfr :: gr)) := by have h9 := t491; rw [kp7] at h9; rw [hfe, st_4d (fun h9 => by (first | exact om_ced833dd089a rh1 f482 f484 h9 | omega))]; exact h9
          refine W.know (fun kr1 kr2 => ?_)
          refine W.widen (k := zcc Z) (n := zss Z) (Nat.sub_le _ _) (Nat.sub_le _ _) ?_
          exact W.vret hx hb hr (fun t ht hW => ⟨⟨(V492, L, Z), rfl, ⟨hMV492, agV492, rfl, zoZ, t490, rx494⟩, ⟨by rw [ht]; exact hP, va_K.moved hW.alike hK, hD⟩, by rw [ht]; exact kr1, by rw [ht]; exact kr2⟩, hS.F ht⟩) hS.2.2 dX5_goOnMaking_63
        · skip
          have f495 : ((V 5 9)).toInt = 3 := b_eq rfl (by decide) c483
          refine lv_aload_n hx hb dX5_goOnMaking_30 rfl (lv_at hl 1 rfl) ?_
          refine lv_dup hx hb dX5_goOnMaking_31 rfl ?_
          refine va_get (D := D) (ci := 5) (v := .int (V 5 11)) (fs := (xfMachine ad V L Z)) (C := RX5) (T := TX5) (N := 15) hx hb hg inX5 hown hK hP 5 xgMachine rfl 11 (by decide) (hg _ w678) (fun _ h9 => h9) rfl dX5_goOnMaking_32 ?_
          refine lv_iload_n hx hb dX5_goOnMaking_35 rfl (lv_at hl 0 rfl) ?_
          refine lv_if_eq (tgt := 43) hx hb dX5_goOnMaking_36 (by decide) (fun q => absurd q (by decide)) (fun _ => ?_)
          refine lv_iconst (v := 0) hx hb dX5_goOnMaking_39 (by decide) ?_
          refine lv_goto (tgt := 44) hx hb dX5_goOnMaking_40 (by decide) ?_
          refine lv_iadd hx hb dX5_goOnMaking_44 ?_
          have r496 := i_full (V 5 11)
          refine lv_topi (fun z497 ez497 => ?_)
          have hz497 : z497.toInt = ((V 5 11)).toInt + 0 := i_add ez497 rfl (by decide) (by (first | exact om_95417e80824d r496 | omega))
          refine va_put (D := D) (ci := 5) (v := .int z497) (ty := tyX5 11) (fs := (xfMachine ad V L Z)) (C := RX5) (T := TX5) (N := 15) hx hb hg inX5 tyX5 tyX5_ok nmX5 hown hK hP hD hS 5 xgMachine rfl 11 (by decide) (hg _ w678) (fun _ h9 => h9) rfl (tyX5_ok 11 (by decide)) rfl rfl (Nat.le_of_ble_eq_true rfl) dX5_goOnMaking_45 (fun H locs hP hD hS => ?_)
          obtain ⟨V498, hV498⟩ : ∃ z, z = up2 V 5 11 z497 := ⟨_, rfl⟩
          have ew499 : (xw ad kk V L Z).set 5 ((ad 5), .inr (5, (xfMachine ad V L Z).set 11 (.int z497))) = xw ad kk V498 L Z := by rw [hV498]; exact xw_ss (by decide) rfl (xb_si (by decide))
          have hP : va_P D vwCl (xw ad kk V498 L Z) H := by rw [← ew499]; exact hP
          have hD : va_D A (xw ad kk V498 L Z) := by rw [← ew499]; exact hD
          have hMV498 : rgd bX V498 := hMV.put hV498 (i_full _)
          have agV498 : agr [(3, 13), (3, 14), (3, 15), (5, 6), (5, 8), (5, 9), (5, 10), (5, 11), (5, 12), (5, 13), (5, 14)] [24, 25, 26, 27, 28, 29, 30, 31, 32, 40, 67, 68, 69, 70, 71, 72, 73, 74, 75, 76, 77, 78, 79, 80, 81, 82, 83, 84, 85] V V498 := agV.up hV498 rfl
          have wr500 : (V498 3 13).toInt = (V 3 13).toInt := congrArg Int32.toInt (up2_o hV498 (by decide))
          have wr501 : (V498 3 12).toInt = (V 3 12).toInt := congrArg Int32.toInt (up2_o hV498 (by decide))
          have wr502 : (V498 67 gf).toInt = ((V 67 gf)).toInt := (congrArg Int32.toInt (up2_o hV498 (by decide)))
          have wr503 : (V498 68 gf).toInt = ((V 68 gf)).toInt := (congrArg Int32.toInt (up2_o hV498 (by decide)))
          have wr504 : (V498 69 gf).toInt = ((V 69 gf)).toInt := (congrArg Int32.toInt (up2_o hV498 (by decide)))
          have wr505 : (V498 70 gf).toInt = ((V 70 gf)).toInt := (congrArg Int32.toInt (up2_o hV498 (by decide)))
          have wr506 : (V498 71 gf).toInt = ((V 71 gf)).toInt := (congrArg Int32.toInt (up2_o hV498 (by decide)))
          have wr507 : (V498 72 gf).toInt = ((V 72 gf)).toInt := (congrArg Int32.toInt (up2_o hV498 (by decide)))
          have wr508 : (V498 75 gf).toInt = ((V 75 gf)).toInt := (congrArg Int32.toInt (up2_o hV498 (by decide)))
          have wr509 : (V498 76 gf).toInt = ((V 76 gf)).toInt := (congrArg Int32.toInt (up2_o hV498 (by decide)))
          have me510 : ME V V498 gf := (ME.up ME.rf hV498 (Or.inr (by (first | exact om_ded18bf8e7e5  | omega))))
          have rl511 : RWl V498 gB gr t0 := RWl.mv hlr (fun i9 hi9 c9 h1 h2 => me510.2.1 c9 i9 h1 h2 (by (first | exact om_59a77ef8aaca gd kdp rd rd2 hi9 | omega))) (fun j9 hj9 => (up2_o hV498 (by decide))) (by rw [(up2_o hV498 (by decide))]; exact Int.le_refl _) (up2_o hV498 (by decide))
          have pq512 : (V498 5 6).toInt = ((V 5 6)).toInt := congrArg Int32.toInt (up2_k hV498 (by decide))
          have pq513 : (V498 5 9).toInt = ((V 5 9)).toInt := congrArg Int32.toInt (up2_k hV498 (by decide))
          have pq514 : (V498 5 12).toInt = ((V 5 12)).toInt := congrArg Int32.toInt (up2_k hV498 (by decide))
          have fo8 : FRc V498 gB gr.length (Fopen lv o c pl) := by rw [gl9]; exact ⟨⟨by (first | exact om_ed616bc53b7b gk wr502 | omega), by (first | exact om_ed616bc53b7b k68 wr503 | omega)⟩, ⟨by (first | exact om_cd7d0a6a31bc q69 wr504 | omega), ⟨by (first | exact om_cd7d0a6a31bc q70 wr505 | omega), by (first | exact om_72c355b130f5 fo q70 wr505 | omega), by (first | exact om_be0131eba9cf fo ra2 q70 wr500 wr505 | omega)⟩, ⟨by (first | exact om_cd7d0a6a31bc q71 wr506 | omega), by (first | exact om_50e3d3ad91f5 r2 fc q71 wr506 | omega), by (first | exact om_e52dd4456e8b q71 c1 wr506 | omega)⟩, ⟨by (first | exact om_cd7d0a6a31bc q72 wr507 | omega), by omega, by omega⟩⟩⟩
          have sf4 := sf.2.2.2.1
          have rh2 : gm 0 6 = 2 → (V 5 11).toInt = gm 0 8 ∧ (V 5 12).toInt = gm 0 9 := rh.2.2.1
          have nz9 : gm 0 6 = 2 → z497.toInt = gm 0 8 := fun h9 => by have h8 : 0 ≤ gm 0 8 ∧ gm 0 8 ≤ 10000 := sf4 h9; have h7 := rh2 h9; have h6 : z497.toInt = (V 5 11).toInt + 0 := i_add ez497 rfl (by decide) (by (first | exact om_63fb1e81b0cc rh1 f495 h9 | omega)); (first | exact om_9084674f31f4 rh1 f495 h9 | omega)
          have rn8 : RWn V498 ow gB gm := RWn.mv rn (fun j9 hj9 => rfl) (fun x9 j9 hx9 _ => rfl) (fun k9 => (up2_o hV498 (by decide))) (up2_o hV498 (by decide)) (up2_k hV498 (by decide)) (up2_k hV498 (by decide)) (fun c9 k9 h1 h2 h3 => (show V498 c9 k9 = V c9 k9 from by rw [hV498]; exact up2_pl (by (first | exact om_6d4550d9bb9e h1 h2 | omega))))
          have m06 : gm 0 6 = gm 0 6 := rfl
          have m08 : gm 0 6 = 2 → z497.toInt = gm 0 8 := fun h9 => by exact nz9 h9
          have m09 : gm 0 9 = gm 0 9 := rfl
          have rwx9 : RW V498 gB (gm, ga, gfr :: gr) := by rw [hfe]; exact RW.fin rwq rn8 (rfl) (fun i9 => rfl) (up2_k hV498 (by decide)) (fun i9 => (up2_o hV498 (by decide))) (by rw [m06, (up2_k hV498 (by decide))]; exact rh1) (fun h9 => by rw [m06] at h9; rw [(up2_k hV498 (by decide))]; exact rh.2.1 h9) (fun h9 => by rw [m06] at h9; rw [m09, (up2_s hV498)]; exact ⟨m08 h9, by rw [(up2_k hV498 (by decide))]; exact (rh2 h9).2⟩) (show (V498 5 6).toInt = ((gr.length + 1 : Nat) : Int) from by (first | exact om_66365ac95418 kdp rd rd2 pq512 | omega)) (show (V498 5 7).toInt = ((t0 : Nat) : Int) from by rw [(up2_k hV498 (by decide)), rt9, tz9]) (RWl.push rl511 fo8 rfl (np9 rfl))
          have q70b : (V498 70 gf).toInt = o := by (first | exact om_cd7d0a6a31bc q70 wr505 | omega)
          have q71b : (V498 71 gf).toInt = c := by (first | exact om_cd7d0a6a31bc q71 wr506 | omega)
          have q72b : (V498 72 gf).toInt = pl := by (first | exact om_cd7d0a6a31bc q72 wr507 | omega)
          refine lv_aload_n hx hb dX5_goOnMaking_48 rfl (lv_at hl 1 rfl) ?_
          refine lv_aload_n hx hb dX5_goOnMaking_49 rfl (lv_at hl 2 rfl) ?_
          have pq515 : (V498 67 gf).toInt = ((V 67 gf)).toInt := congrArg Int32.toInt (up2_o hV498 (by decide))
          have me516 : ME V V498 gf := (ME.up ME.rf hV498 (Or.inr (by (first | exact om_ded18bf8e7e5  | omega))))
          have pq517 : (V498 68 gf).toInt = ((V 68 gf)).toInt := congrArg Int32.toInt (up2_o hV498 (by decide))
          have pq518 : (V498 70 gf).toInt = ((V 70 gf)).toInt := congrArg Int32.toInt (up2_o hV498 (by decide))
          have pq519 : (V498 71 gf).toInt = ((V 71 gf)).toInt := congrArg Int32.toInt (up2_o hV498 (by decide))
          have pq520 : (V498 75 gf).toInt = ((V 75 gf)).toInt := congrArg Int32.toInt (up2_o hV498 (by decide))
          have pq521 : (V498 76 gf).toInt = ((V 76 gf)).toInt := congrArg Int32.toInt (up2_o hV498 (by decide))
          have pq522 : (V498 80 gf).toInt = ((V 80 gf)).toInt := congrArg Int32.toInt (up2_o hV498 (by decide))
          have pq523 : (V498 84 gf).toInt = ((V 84 gf)).toInt := congrArg Int32.toInt (up2_o hV498 (by decide))
          have pq524 : (V498 5 8).toInt = ((V 5 8)).toInt := congrArg Int32.toInt (up2_k hV498 (by decide))
          have pq525 : (V498 3 13).toInt = ((V 3 13)).toInt := congrArg Int32.toInt (up2_o hV498 (by decide))
          have pq526 : (V498 43 (5 * b + 2)).toInt = ((V 43 (5 * b + 2))).toInt := congrArg Int32.toInt (up2_o hV498 (by decide))
          have pq527 : (V498 42 b).toInt = ((V 42 b)).toInt := congrArg Int32.toInt (up2_o hV498 (by decide))
          have pq528 : (V498 41 b).toInt = ((V 41 b)).toInt := congrArg Int32.toInt (up2_o hV498 (by decide))
          have mo529 : MO V498 Z b gf False False False := MO.ch mo me516 (up2_o hV498 (by decide)) (up2_o hV498 (by decide)) (fun _ => Or.inl (by omega)) (fun x h => FK.s1 h (by (first | exact om_710535a98d88 gk | omega)) (by (first | exact om_e43554bd018e gk k68 q70 wr502 wr503 wr505 | omega)) (by (first | exact om_a305bbc40630 q71 wr506 | omega)) (by (first | exact om_67673d8f6684 wr508 wr509 | omega)) (by (first | exact om_4e1f6625f8a5 ra2 wr500 pq526 | omega)) (fun z => z.elim))
          have bc530 : BKc V498 b gB := BKc.b4 bc (agr.b4 (show agr [(5, 11)] [] V V498 from (agr.up agr.rf hV498 rfl)) (by decide))
          refine gA_void (gA_runV (As := [.ref (Z.fa gf)]) (rest := []) (ci := 5) (q0 := 5) hx hb hml hown hg hP hD hK hS hA hnw hgk (x_abandon9 l D ks H.size ad kk V498 L Z (b) (gf) (gB) (gm) (ga) (gfr) (gr) hMV498 (show b < 2 from by (first | exact om_289974d36c9f hb2 mup | omega)) (show gf < Z.nf from by (first | exact om_d9a628b8387a hgf gd kdp rd rd2 pq512 | omega)) mo529 (show (gf : Int) + 1 = (V498 5 6).toInt from by (first | exact om_23ab2a0d3264 gd kdp rd rd2 pq512 | omega)) (show (V498 67 gf).toInt = 1 from by (first | exact om_ed616bc53b7b gk wr502 | omega)) rwx9 bc530 (show (V498 5 6).toInt ≤ 395 from by (first | exact om_1150cee5daf6 gd r1 kdp rd rd2 sl9 pq512 | omega)) (show (V498 5 9).toInt = 2 ∨ (V498 5 9).toInt = 3 from by (first | exact om_b13feecbafbe rh1 f495 pq513 | omega))) w1332 w1334 w54 w171 w1335 rfl xgMachine hdV_yX5_abandon ⟨Nat.le_of_ble_eq_true rfl, Nat.le_of_ble_eq_true rfl⟩ rfl hl.1 rfl (Nat.le_of_ble_eq_true rfl) dX5_goOnMaking_50 ⟨z0, z0⟩) hP hD hK hS hA (fun u532 H locs w533 hP hD hK hS => ?_)
          obtain ⟨V536, L537⟩ := u532
          obtain ⟨hMV536, ajV536, axL537, t534, t535⟩ := w533
          have axL537 : L = L537 := Eq.symm axL537
          subst axL537
          have hP : va_P D vwCl (xw ad kk V536 L Z) H := hP
          have hD : va_D A (xw ad kk V536 L Z) := hD
          have hMV536 : rgd bX V536 := hMV536
          have ajV536 : agr [(5, 6)] [24, 25, 28] V498 V536 := ajV536
          have agV536 : agr [(3, 13), (3, 14), (3, 15), (5, 6), (5, 8), (5, 9), (5, 10), (5, 11), (5, 12), (5, 13), (5, 14)] [24, 25, 26, 27, 28, 29, 30, 31, 32, 40, 67, 68, 69, 70, 71, 72, 73, 74, 75, 76, 77, 78, 79, 80, 81, 82, 83, 84, 85] V V536 := agV498.tr ajV536 (by decide) (by decide)
          have t534 : MJ V536 Z b := t534
          have t535 : RW V536 gB (mAb gB gm (V498 70 gf).toInt (V498 71 gf).toInt (V498 72 gf).toInt, ga, gr) := t535
          have rx538 : RW V536 gB (stM gB (gm, ga, gfr :: gr)) := by have h9 := t535; rw [q70b, q71b, q72b] at h9; rw [hfe, st_4f (by (first | exact om_2ed3b7cc3750 rh1 f495 | omega))]; exact h9
          refine W.know (fun kr1 kr2 => ?_)
          refine W.widen (k := zcc Z) (n := zss Z) (Nat.sub_le _ _) (Nat.sub_le _ _) ?_
          exact W.vret hx hb hr (fun t ht hW => ⟨⟨(V536, L, Z), rfl, ⟨hMV536, agV536, rfl, zoZ, t534, rx538⟩, ⟨by rw [ht]; exact hP, va_K.moved hW.alike hK, hD⟩, by rw [ht]; exact kr1, by rw [ht]; exact kr2⟩, hS.F ht⟩) hS.2.2 dX5_goOnMaking_53
end
