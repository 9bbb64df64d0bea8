
abbrev r_x_nextCandidate9 : Room := { frames := 2, cells := 0, slots := 0, locals := 53 }
abbrev q_x_nextCandidate9 (D : va_G) (ks : KS) (ad : Nat → Nat) (kk : Nat → ClassId) (V : Vf) (L : Lf) (Z : XZ) (b : Nat) (gf : Nat) (gB : Bk) (A : Nat → Prop) : Array Value → State → Outcome → State → Prop := va_Qi (fun (r : Int32) (u : Vf × Lf) => rgd bX u.1 ∧ agr [] [75, 76] V u.1 ∧ u.2 = L ∧ ((-1) ≤ r.toInt ∧ r.toInt ≤ 23) ∧ (Imp (0 ≤ r.toInt) (MO u.1 Z b gf True True True)) ∧ (MO u.1 Z b gf False False False) ∧ ((r.toInt = -1 ∧ nxC gB (V 71 gf).toInt.toNat 9 (V 75 gf).toInt.toNat (V 76 gf).toInt.toNat = none) ∨ (0 ≤ r.toInt ∧ nxC gB (V 71 gf).toInt.toNat 9 (V 75 gf).toInt.toNat (V 76 gf).toInt.toNat = some ((u.1 75 gf).toInt.toNat, r.toInt.toNat) ∧ (u.1 76 gf).toInt = r.toInt + 1)) ∧ (ME V u.1 gf)) (fun u t => gq D A (xw ad kk u.1 u.2 Z) (xty kk Z) t) A
set_option maxHeartbeats 4000000 in
set_option maxRecDepth 100000 in
theorem x_nextCandidate9 (l : Launch) (D : va_G) (ks : KS) (sz : Nat) (ad : Nat → Nat) (kk : Nat → ClassId) (V : Vf) (L : Lf) (Z : XZ) (b : Nat) (gf : Nat) (gB : Bk) (hMV : rgd bX V) (hb2 : b < 2) (hgf : gf < Z.nf) (mo : MO V Z b gf False False False) (gd : (gf : Int) + 1 = (V 5 6).toInt) (gk : (V 67 gf).toInt = 1) (gph : (V 68 gf).toInt ≠ 1) (bc : BKc V b gB) (nc0 : 0 ≤ (V 71 gf).toInt) (nc1 : (V 71 gf).toInt < ((nC gB : Nat) : Int))  : Met l yX5_nextCandidate (Cond.code yX5_nextCandidate cX5_nextCandidate 7 (some .int) :: GW) r_x_nextCandidate9 (va_Pc [.ref (ad 5), .ref (Z.fa gf)] (gp D ks (xw ad kk V L Z) (xty kk Z) sz)) (q_x_nextCandidate9 D ks ad kk V L Z  b gf gB (va_A (xw ad kk V L Z) sz)) 0 0 (va_A (xw ad kk V L Z) sz) := by
  refine g_met (q_x_nextCandidate9 D ks ad kk V L Z  b gf gB) (by decide) (Nat.le_of_ble_eq_true rfl) ?_
  intro p e s m below meth c A ls H locs hx hb hr hml hown hg hlocks hin hnw hgk hP hK hD hS hA hl
  replace hown : s.vm.findClass RX5 = some m.cls := hown
  replace hl : lv_has ls 7 [(0, .ref (ad 5)), (1, .ref (Z.fa gf))] := hl
  replace hP : va_P D vwCl (xw ad kk V L Z) H := hP
  replace hD : va_D A (xw ad kk V L Z) := hD
  replace hK : va_K D vwCl (xty kk Z) s := hK
  have agV : agr [] [75, 76] V V := agr.rf
  have r1 : 0 ≤ ((V 5 6)).toInt ∧ ((V 5 6)).toInt ≤ 400 := hMV 5 6
  have kdp := i_clamp (x := V 5 6) rfl (by (first | exact om_c66f1b494bd9 gd | omega))
  have hdn : (gf : Int) + 1 ≤ (Z.nf : Int) := by (first | exact om_29efded833ec hgf | omega)
  have mup := MO.up mo
  have msz := mup.1
  have mbk := mup.2.2.2.1
  obtain ⟨xk, fk⟩ := MO.fk mo
  have r2 : (-1) ≤ ((V 71 gf)).toInt ∧ ((V 71 gf)).toInt ≤ 23 := hMV 71 gf
  have r3 : 0 ≤ ((V 75 gf)).toInt ∧ ((V 75 gf)).toInt ≤ 12 := hMV 75 gf
  have r4 : 0 ≤ ((V 80 gf)).toInt ∧ ((V 80 gf)).toInt ≤ 300 := hMV 80 gf
  have r5 : 0 ≤ ((V 84 gf)).toInt ∧ ((V 84 gf)).toInt ≤ 2147483647 := hMV 84 gf
  have r6 : 0 ≤ ((V 5 8)).toInt ∧ ((V 5 8)).toInt ≤ 300 := hMV 5 8
  have r7 : 0 ≤ ((V 5 9)).toInt ∧ ((V 5 9)).toInt ≤ 3 := hMV 5 9
  have r8 : 0 ≤ ((V 3 13)).toInt ∧ ((V 3 13)).toInt ≤ 300 := hMV 3 13
  have r9 : 0 ≤ ((V 43 (5 * b + 2))).toInt ∧ ((V 43 (5 * b + 2))).toInt ≤ ((xcap (5 * b + 2) : Nat) : Int) := hMV 43 (5 * b + 2)
  have r10 : xcap (5 * b + 2) = 24 := xcap_2
  have r11 : 0 ≤ ((V 41 b)).toInt ∧ ((V 41 b)).toInt ≤ 12 := hMV 41 b
  have r12 : 0 ≤ ((V 42 b)).toInt ∧ ((V 42 b)).toInt ≤ 8200 := hMV 42 b
  have fc := fk.1 (by omega)
  have fo := fk.2.1 (by omega) (by omega)
  have fi := fk.2.2.2.2.1 (by omega)
  refine lv_aload_n hx hb dX5_nextCandidate_0 rfl (lv_at hl 0 rfl) ?_
  refine va_get (D := D) (ci := 5) (v := .ref (ad (38 + Int32.toNatClampNeg (V 5 5)))) (fs := (xfMachine ad V L Z)) (C := RX5) (T := TX5) (N := 15) hx hb hg inX5 hown hK hP 5 xgMachine rfl 5 (by decide) (hg _ w672) (fun _ h9 => h9) rfl dX5_nextCandidate_1 ?_
  have r13 : 0 ≤ ((V 5 5)).toInt ∧ ((V 5 5)).toInt ≤ 1 := hMV 5 5
  refine g_topv (v := .ref (ad (38 + b))) (rfP (by first | omega | ((try (have i_bc := Imp.go bc (by omega))); (try (have i_mo := Imp.go mo (by omega))); (try (have i_mo := Imp.go mo (by omega))); (try (have i_bc := Imp.go bc (by omega))); omega))) ?_
  refine va_getN (D := D) (ci := 0) (v := .ref (ad (64 + b))) (fs := (xfBook ad V b)) (C := RX0) (T := TX0) (N := 13) hx hb hg inX0 hown hK hP (38 + b) (xgBook hb2) rfl 7 (by decide) (hnw.use 618 n618 rfl) (fun _ h9 => h9) rfl dX5_nextCandidate_4 ?_
  refine lv_aload_n hx hb dX5_nextCandidate_7 rfl (lv_at hl 1 rfl) ?_
  refine va_getN (D := D) (ci := 4) (v := .int (V 71 gf)) (fs := (xfFrame V gf)) (C := RX4) (T := TX4) (N := 19) hx hb hg inX4 hown hK hP (336 + gf) (xgFrame hgf) rfl 4 (by decide) (hnw.use 1193 n1193 rfl) (fun _ h9 => h9) rfl dX5_nextCandidate_8 ?_
  have il14 : b < 2 := by first | exact om_f940a4667dd6 hb2 | first | omega | ((try (have i_bc := Imp.go bc (by omega))); (try (have i_mo := Imp.go mo (by omega))); (try (have i_mo := Imp.go mo (by omega))); (try (have i_bc := Imp.go bc (by omega))); omega)
  refine va_aldq (D := D) (i := (V 71 gf)) hx hb hK hP (64 + b) (57 + b) (xgcomps il14) (xtcomps il14) (i_in (a := ((V 71 gf)).toInt) rfl (by first | exact om_dbb25e99819b nc0 r2.2 | first | omega | ((try (have i_bc := Imp.go bc (by omega))); (try (have i_mo := Imp.go mo (by omega))); (try (have i_mo := Imp.go mo (by omega))); (try (have i_bc := Imp.go bc (by omega))); omega))) dX5_nextCandidate_11 ?_
  have kc15 := i_clamp (x := (V 71 gf)) rfl (by first | exact om_eafa9039069c nc0 | first | omega | ((try (have i_bc := Imp.go bc (by omega))); (try (have i_mo := Imp.go mo (by omega))); (try (have i_mo := Imp.go mo (by omega))); (try (have i_bc := Imp.go bc (by omega))); omega))
  refine g_topv (v := .ref (ad (72 + (24 * b + (Int32.toNatClampNeg (V 71 gf)))))) (congrArg va_rf (if_pos (by first | omega | ((try (have i_bc := Imp.go bc (by omega))); (try (have i_mo := Imp.go mo (by omega))); (try (have i_mo := Imp.go mo (by omega))); (try (have i_bc := Imp.go bc (by omega))); omega)))) ?_
  have il16 : (24 * b + (Int32.toNatClampNeg (V 71 gf))) < 48 := by first | exact om_31a61188bc78 hb2 r2.2 kc15 | first | omega | ((try (have i_bc := Imp.go bc (by omega))); (try (have i_mo := Imp.go mo (by omega))); (try (have i_mo := Imp.go mo (by omega))); (try (have i_bc := Imp.go bc (by omega))); omega)
  refine lv_astore_n (lv' := [(2, .ref (ad (72 + (24 * b + (Int32.toNatClampNeg (V 71 gf)))))), (0, .ref (ad 5)), (1, .ref (Z.fa gf))]) hx hb dX5_nextCandidate_12 rfl hl (by decide) rfl (fun ls hl => ?_)
  have lp18 : ∀ (fulp18 : Nat) (V17 : Vf) (H : Heap) (locs : List Loc) (ls : Array Slot), ME V V17 gf → (V 75 gf).toInt ≤ (V17 75 gf).toInt ∧ (V17 75 gf).toInt ≤ 8 → 0 ≤ (V17 76 gf).toInt ∧ (V17 76 gf).toInt ≤ 25 → 25 * (8 - (V17 75 gf).toInt) - (V17 76 gf).toInt ≤ 25 * (8 - (V 75 gf).toInt) - (V 76 gf).toInt → (nxC gB (V 71 gf).toInt.toNat 9 (V 75 gf).toInt.toNat (V 76 gf).toInt.toNat = nxC gB (V 71 gf).toInt.toNat 9 (V17 75 gf).toInt.toNat (V17 76 gf).toInt.toNat) → 8 - (V17 75 gf).toInt < (fulp18 : Int) → agr [] [75, 76] V V17 → rgd bX V17 → va_P D vwCl (xw ad kk V17 L Z) H → va_D A (xw ad kk V17 L Z) → va_S A s.heap H locs → lv_has ls 7 [(2, .ref (ad (72 + (24 * b + (Int32.toNatClampNeg (V 71 gf)))))), (0, .ref (ad 5)), (1, .ref (Z.fa gf))] → W p l e r_x_nextCandidate9 s m ([.ref (ad 5), .ref (Z.fa gf)] : List Value).toArray below meth c H locs 0 0 (MQ below (q_x_nextCandidate9 D ks ad kk V L Z  b gf gB A) ([.ref (ad 5), .ref (Z.fa gf)] : List Value).toArray s 0 0 A) (F0 m 13 ls []) := by
    intro fulp18
    induction fulp18 with
    | zero =>
      intro V17 H locs ls xlp18_0 xlp18_1 xlp18_2 xlp18_3 xlp18_4 hn ajV17 hMV17 hP hD hS hl
      exfalso; (first | exact om_e2d570575604 xlp18_1.2 hn | omega)
    | succ fulp18 ihlp18 =>
      intro V17 H locs ls xlp18_0 xlp18_1 xlp18_2 xlp18_3 xlp18_4 hn ajV17 hMV17 hP hD hS hl
      have agV17 : agr [] [75, 76] V V17 := agV.tr ajV17 (by decide) (by decide)
      have r19 : 0 ≤ ((V17 75 gf)).toInt ∧ ((V17 75 gf)).toInt ≤ 12 := hMV17 75 gf
      refine lv_aload_n hx hb dX5_nextCandidate_13 rfl (lv_at hl 2 rfl) ?_
      refine va_getN (D := D) (ci := 4) (v := .int (V17 75 gf)) (fs := (xfFrame V17 gf)) (C := RX4) (T := TX4) (N := 19) hx hb hg inX4 hown hK hP (336 + gf) (xgFrame hgf) rfl 8 (by decide) (hnw.use 1197 n1197 rfl) (fun _ h9 => h9) rfl dX5_nextCandidate_14 ?_
      refine lv_aload_n hx hb dX5_nextCandidate_17 rfl (lv_at hl 0 rfl) ?_
      refine va_getN (D := D) (ci := 3) (v := .int (V17 49 (24 * b + (Int32.toNatClampNeg (V 71 gf))))) (fs := (xfComp ad V17 (24 * b + (Int32.toNatClampNeg (V 71 gf))))) (C := RX3) (T := TX3) (N := 13) hx hb hg inX3 hown hK hP (72 + (24 * b + (Int32.toNatClampNeg (V 71 gf)))) (xgComp il16) rfl 4 (by decide) (hnw.use 514 n514 rfl) (fun _ h9 => h9) rfl dX5_nextCandidate_18 ?_
      refine g_top (v := (V 49 (24 * b + (Int32.toNatClampNeg (V 71 gf))))) (ajV17 49 (24 * b + (Int32.toNatClampNeg (V 71 gf))) rfl) ?_
      have r20 : 0 ≤ ((V 49 (24 * b + (Int32.toNatClampNeg (V 71 gf))))).toInt ∧ ((V 49 (24 * b + (Int32.toNatClampNeg (V 71 gf))))).toInt ≤ 8 := hMV 49 (24 * b + (Int32.toNatClampNeg (V 71 gf)))
      refine lv_icmp_ge (tgt := 123) hx hb dX5_nextCandidate_21 (by decide) (fun c21 => ?_) (fun c21 => ?_)
      · skip
        have f22 : ((V 49 (24 * b + (Int32.toNatClampNeg (V 71 gf))))).toInt ≤ ((V17 75 gf)).toInt := b_le rfl rfl c21
        refine lv_iconst (v := (-1)) hx hb dX5_nextCandidate_123 (by decide) ?_
        have me23 : ME V V17 gf := (ME.tr ME.rf xlp18_0)
        have pq24 : (V17 67 gf).toInt = ((V 67 gf)).toInt := congrArg Int32.toInt (ajV17 67 gf rfl)
        have pq25 : (V17 68 gf).toInt = ((V 68 gf)).toInt := congrArg Int32.toInt (ajV17 68 gf rfl)
        have pq26 : (V17 70 gf).toInt = ((V 70 gf)).toInt := congrArg Int32.toInt (ajV17 70 gf rfl)
        have pq27 : (V17 71 gf).toInt = ((V 71 gf)).toInt := congrArg Int32.toInt (ajV17 71 gf rfl)
        have pq28 : (V17 80 gf).toInt = ((V 80 gf)).toInt := congrArg Int32.toInt (ajV17 80 gf rfl)
        have pq29 : (V17 84 gf).toInt = ((V 84 gf)).toInt := congrArg Int32.toInt (ajV17 84 gf rfl)
        have pq30 : (V17 5 6).toInt = ((V 5 6)).toInt := congrArg Int32.toInt (ajV17 5 6 rfl)
        have pq31 : (V17 5 8).toInt = ((V 5 8)).toInt := congrArg Int32.toInt (ajV17 5 8 rfl)
        have pq32 : (V17 5 9).toInt = ((V 5 9)).toInt := congrArg Int32.toInt (ajV17 5 9 rfl)
        have pq33 : (V17 3 13).toInt = ((V 3 13)).toInt := congrArg Int32.toInt (ajV17 3 13 rfl)
        have pq34 : (V17 43 (5 * b + 2)).toInt = ((V 43 (5 * b + 2))).toInt := congrArg Int32.toInt (ajV17 43 (5 * b + 2) rfl)
        have pq35 : (V17 42 b).toInt = ((V 42 b)).toInt := congrArg Int32.toInt (ajV17 42 b rfl)
        have pq36 : (V17 41 b).toInt = ((V 41 b)).toInt := congrArg Int32.toInt (ajV17 41 b rfl)
        have mo37 : MO V17 Z b gf False False False := MO.ch mo me23 (ajV17 67 gf rfl) (ajV17 80 gf rfl) (fun _ => Or.inl (by omega)) (fun x h => FK.nx h (by omega) (by omega) (by omega) (by omega) (by omega) (by omega) (by omega) (by omega) (fun z => z.elim))
        have co8 : (V 49 (24 * b + Int32.toNatClampNeg (V 71 gf))).toInt = ((gB.1.1 (66 + 8 * Int32.toNatClampNeg (V 71 gf)) : Nat) : Int) := (bc.2.2.2.1.2.2 (Int32.toNatClampNeg (V 71 gf)) (by have h8 : (V 43 (5 * b + 2)).toInt = (((gB.1.2.1 2).length : Nat) : Int) := bc.2.2.2.1.1; have h9 := i_clamp (x := V 71 gf) rfl (by (first | exact om_eafa9039069c nc0 | omega)); omega)).2.1
        have me38 : ME V V17 gf := (ME.tr ME.rf xlp18_0)
        exact W.iret (v := (-1)) hx hb hr (fun t ht hW => ⟨⟨(-1), (V17, L), rfl, ⟨hMV17, agV17, rfl, (by decide), (Imp.mk (fun hp => absurd hp (by decide))), mo37, (Or.inl ⟨rfl, xlp18_4.trans (nxC_e (show gB.1.1 (66 + 8 * Int32.toNatClampNeg (V 71 gf)) ≤ (V17 75 gf).toInt.toNat from by omega))⟩), me38⟩, by rw [ht]; exact hP, va_K.moved hW.alike hK, hD⟩, hS.F ht⟩) hS.2.2 dX5_nextCandidate_124
      · skip
        have f39 : ((V17 75 gf)).toInt < ((V 49 (24 * b + (Int32.toNatClampNeg (V 71 gf))))).toInt := b_nle rfl rfl c21
        have pq40 : (V17 43 (5 * b + 2)).toInt = ((V 43 (5 * b + 2))).toInt := congrArg Int32.toInt (ajV17 43 (5 * b + 2) rfl)
        have ln9 : (V 43 (5 * b + 2)).toInt = (((gB.1.2.1 2).length : Nat) : Int) := bc.2.2.2.1.1
        have n24 : (gB.1.2.1 2).length ≤ 24 := bc.2.2.2.1.2.1
        have wh := bc.2.2.2.2.2.2.1.1
        have ky9 := i_clamp (x := V 71 gf) rfl (by (first | exact om_eafa9039069c nc0 | omega))
        have kj9 := i_clamp (x := (V17 75 gf)) rfl (by (first | exact om_eafa9039069c r19.1 | omega))
        have gk9 : (Int32.toNatClampNeg (V 71 gf)) < (gB.1.2.1 2).length := by omega
        have co9 := bc.2.2.2.1.2.2 (Int32.toNatClampNeg (V 71 gf)) gk9
        have h49 : (V 49 (24 * b + (Int32.toNatClampNeg (V 71 gf)))).toInt = ((gB.1.1 (66 + 8 * (Int32.toNatClampNeg (V 71 gf))) : Nat) : Int) := co9.2.1
        have h48 := co9.2.2.1
        have gj9 : (Int32.toNatClampNeg (V17 75 gf)) < gB.1.1 (66 + 8 * (Int32.toNatClampNeg (V 71 gf))) := by omega
        have ne9 := co9.2.2.2 (Int32.toNatClampNeg (V17 75 gf)) gj9
        have n60 : (V 60 (8 * (24 * b + (Int32.toNatClampNeg (V 71 gf))) + (Int32.toNatClampNeg (V17 75 gf)))).toInt = ((bK gB (Int32.toNatClampNeg (V 71 gf)) (Int32.toNatClampNeg (V17 75 gf)) : Nat) : Int) := ne9.2.1
        have bn9 : (V17 75 gf).toInt.toNat < bN gB (V 71 gf).toInt.toNat := gj9
        refine lv_aload_n hx hb dX5_nextCandidate_24 rfl (lv_at hl 0 rfl) ?_
        refine va_getN (D := D) (ci := 3) (v := .ref (ad (216 + (24 * b + (Int32.toNatClampNeg (V 71 gf)))))) (fs := (xfComp ad V17 (24 * b + (Int32.toNatClampNeg (V 71 gf))))) (C := RX3) (T := TX3) (N := 13) hx hb hg inX3 hown hK hP (72 + (24 * b + (Int32.toNatClampNeg (V 71 gf)))) (xgComp il16) rfl 2 (by decide) (hnw.use 506 n506 rfl) (fun _ h9 => h9) rfl dX5_nextCandidate_25 ?_
        refine lv_aload_n hx hb dX5_nextCandidate_28 rfl (lv_at hl 2 rfl) ?_
        refine va_getN (D := D) (ci := 4) (v := .int (V17 75 gf)) (fs := (xfFrame V17 gf)) (C := RX4) (T := TX4) (N := 19) hx hb hg inX4 hown hK hP (336 + gf) (xgFrame hgf) rfl 8 (by decide) (hnw.use 1197 n1197 rfl) (fun _ h9 => h9) rfl dX5_nextCandidate_29 ?_
        have il41 : (24 * b + (Int32.toNatClampNeg (V 71 gf))) < 48 := by first | exact om_31a61188bc78 hb2 r2.2 kc15 | first | omega | ((try (have i_bc := Imp.go bc (by omega))); (try (have i_mo := Imp.go mo (by omega))); (try (have i_mo := Imp.go mo (by omega))); (try (have i_bc := Imp.go bc (by omega))); omega)
        refine va_iald (D := D) (i := (V17 75 gf)) hx hb hK hP (216 + (24 * b + (Int32.toNatClampNeg (V 71 gf)))) (209 + (24 * b + (Int32.toNatClampNeg (V 71 gf)))) (xgneedKinds il41) (xtneedKinds il41) (i_in (a := ((V17 75 gf)).toInt) rfl (by first | omega | ((try (have i_bc := Imp.go bc (by omega))); (try (have i_mo := Imp.go mo (by omega))); (try (have i_mo := Imp.go mo (by omega))); (try (have i_bc := Imp.go bc (by omega))); omega))) dX5_nextCandidate_32 ?_
        have kc42 := i_clamp (x := (V17 75 gf)) rfl (by first | exact om_eafa9039069c r19.1 | first | omega | ((try (have i_bc := Imp.go bc (by omega))); (try (have i_mo := Imp.go mo (by omega))); (try (have i_mo := Imp.go mo (by omega))); (try (have i_bc := Imp.go bc (by omega))); omega))
        refine g_top (v := V17 60 (8 * (24 * b + (Int32.toNatClampNeg (V 71 gf))) + (Int32.toNatClampNeg (V17 75 gf)))) (if_pos (by first | omega | ((try (have i_bc := Imp.go bc (by omega))); (try (have i_mo := Imp.go mo (by omega))); (try (have i_mo := Imp.go mo (by omega))); (try (have i_bc := Imp.go bc (by omega))); omega))) ?_
        refine g_top (v := (V 60 (8 * (24 * b + (Int32.toNatClampNeg (V 71 gf))) + (Int32.toNatClampNeg (V17 75 gf))))) (ajV17 60 (8 * (24 * b + (Int32.toNatClampNeg (V 71 gf))) + (Int32.toNatClampNeg (V17 75 gf))) rfl) ?_
        refine lv_iconst (v := 1) hx hb dX5_nextCandidate_33 (by decide) ?_
        refine lv_icmp_ne (tgt := 41) hx hb dX5_nextCandidate_34 (by decide) (fun c43 => ?_) (fun c43 => ?_)
        · skip
          have f44 : ((V 60 (8 * (24 * b + (Int32.toNatClampNeg (V 71 gf))) + (Int32.toNatClampNeg (V17 75 gf))))).toInt ≠ 1 := b_neq rfl (by decide) c43
          refine lv_iconst (v := 0) hx hb dX5_nextCandidate_41 (by decide) ?_
          refine lv_istore_n (lv' := [(3, .int 0), (2, .ref (ad (72 + (24 * b + (Int32.toNatClampNeg (V 71 gf)))))), (0, .ref (ad 5)), (1, .ref (Z.fa gf))]) hx hb dX5_nextCandidate_42 rfl hl (by decide) rfl (fun ls hl => ?_)
          refine lv_iload_n hx hb dX5_nextCandidate_43 rfl (lv_at hl 0 rfl) ?_
          refine lv_if_eq (tgt := 51) hx hb dX5_nextCandidate_44 (by decide) (fun _ => ?_) (fun q => absurd (by decide) q)
          refine lv_aload_n hx hb dX5_nextCandidate_51 rfl (lv_at hl 2 rfl) ?_
          refine va_get (D := D) (ci := 5) (v := .ref (ad (38 + Int32.toNatClampNeg (V17 5 5)))) (fs := (xfMachine ad V17 L Z)) (C := RX5) (T := TX5) (N := 15) hx hb hg inX5 hown hK hP 5 xgMachine rfl 5 (by decide) (hg _ w672) (fun _ h9 => h9) rfl dX5_nextCandidate_52 ?_
          have pq45 : (V17 5 5).toInt = ((V 5 5)).toInt := congrArg Int32.toInt (ajV17 5 5 rfl)
          refine g_topv (v := .ref (ad (38 + b))) (rfP (by first | omega | ((try (have i_bc := Imp.go bc (by omega))); (try (have i_mo := Imp.go mo (by omega))); (try (have i_mo := Imp.go mo (by omega))); (try (have i_bc := Imp.go bc (by omega))); omega))) ?_
          refine lv_aload_n hx hb dX5_nextCandidate_55 rfl (lv_at hl 3 rfl) ?_
          refine va_getN (D := D) (ci := 4) (v := .int (V17 71 gf)) (fs := (xfFrame V17 gf)) (C := RX4) (T := TX4) (N := 19) hx hb hg inX4 hown hK hP (336 + gf) (xgFrame hgf) rfl 4 (by decide) (hnw.use 1193 n1193 rfl) (fun _ h9 => h9) rfl dX5_nextCandidate_56 ?_
          refine g_top (v := (V 71 gf)) (ajV17 71 gf rfl) ?_
          refine lv_aload_n hx hb dX5_nextCandidate_59 rfl (lv_at hl 3 rfl) ?_
          refine va_getN (D := D) (ci := 4) (v := .int (V17 75 gf)) (fs := (xfFrame V17 gf)) (C := RX4) (T := TX4) (N := 19) hx hb hg inX4 hown hK hP (336 + gf) (xgFrame hgf) rfl 8 (by decide) (hnw.use 1197 n1197 rfl) (fun _ h9 => h9) rfl dX5_nextCandidate_60 ?_
          have me46 : ME V V17 gf := (ME.tr ME.rf xlp18_0)
          have bc47 : BKc V17 b gB := BKc.be bc me46.1
          refine gA_int (gA_runV (As := [.int (V 71 gf), .int (V17 75 gf)]) (rest := []) (ci := 0) (q0 := (38 + b)) hx hb hml hown hg hP hD hK hS hA hnw hgk (x_candidates5 l D ks H.size ad kk V17 L Z (V 71 gf) (V17 75 gf) (b) (gB.1) ((Int32.toNatClampNeg (V 71 gf))) ((Int32.toNatClampNeg (V17 75 gf))) hMV17 (by first | exact om_d3435e1acec6 nc0 r2.2 | first | omega | ((try (have i_bc := Imp.go bc (by omega))); (try (have i_mo := Imp.go mo (by omega))); (try (have i_mo := Imp.go mo (by omega))); (try (have i_bc := Imp.go bc (by omega))); omega)) (by first | exact om_45aa31722d3e r19.1 r20.2 f39 | first | omega | ((try (have i_bc := Imp.go bc (by omega))); (try (have i_mo := Imp.go mo (by omega))); (try (have i_mo := Imp.go mo (by omega))); (try (have i_bc := Imp.go bc (by omega))); omega)) (show b < 2 from by first | exact om_f940a4667dd6 hb2 | first | omega | ((try (have i_bc := Imp.go bc (by omega))); (try (have i_mo := Imp.go mo (by omega))); (try (have i_mo := Imp.go mo (by omega))); (try (have i_bc := Imp.go bc (by omega))); omega)) (show ((V 71 gf)).toInt = ((Int32.toNatClampNeg (V 71 gf)) : Int) from by first | exact om_dadc9969542e kc15 | first | omega | ((try (have i_bc := Imp.go bc (by omega))); (try (have i_mo := Imp.go mo (by omega))); (try (have i_mo := Imp.go mo (by omega))); (try (have i_bc := Imp.go bc (by omega))); omega)) (show ((V17 75 gf)).toInt = ((Int32.toNatClampNeg (V17 75 gf)) : Int) from by first | exact om_dadc9969542e kc42 | first | omega | ((try (have i_bc := Imp.go bc (by omega))); (try (have i_mo := Imp.go mo (by omega))); (try (have i_mo := Imp.go mo (by omega))); (try (have i_bc := Imp.go bc (by omega))); omega)) (bc47).2.2.2.1.2.2 wh gk9 gj9 (show (V17 43 (5 * b + 2)).toInt = ((((gB.1).2.1 2).length : Nat) : Int) from by first | omega | ((try (have i_bc := Imp.go bc (by omega))); (try (have i_mo := Imp.go mo (by omega))); (try (have i_mo := Imp.go mo (by omega))); (try (have i_bc := Imp.go bc (by omega))); omega))) w1374 w1082 w1083 w167 w1084 rfl (xgBook hb2) hdV_yX0_candidates ⟨Nat.le_of_ble_eq_true rfl, Nat.le_of_ble_eq_true rfl⟩ rfl hl.1 rfl (Nat.le_of_ble_eq_true rfl) dX5_nextCandidate_63 ⟨Nat.le_of_ble_eq_true rfl, Nat.le_of_ble_eq_true rfl⟩) hP hD hK hS hA (fun z48 u49 H locs w50 hP hD hK hS => ?_)
          obtain ⟨rgz48, t51⟩ := w50
          replace rgz48 : 0 ≤ z48.toInt ∧ z48.toInt ≤ 16777215 := rgz48
          replace t51 : FND z48 (gB.1).1 (svc V17 b ((gB.1).2.1 1).length) ((gB.1).1 (301 + 32 * (Int32.toNatClampNeg (V 71 gf)) + 4 * (Int32.toNatClampNeg (V17 75 gf)))) ((gB.1).1 (300 + 32 * (Int32.toNatClampNeg (V 71 gf)) + 4 * (Int32.toNatClampNeg (V17 75 gf)))) ((gB.1).1 (302 + 32 * (Int32.toNatClampNeg (V 71 gf)) + 4 * (Int32.toNatClampNeg (V17 75 gf)))) ((gB.1).2.1 2).length := t51
          refine lv_istore (lv' := [(4, .int z48), (3, .int 0), (2, .ref (ad (72 + (24 * b + (Int32.toNatClampNeg (V 71 gf)))))), (0, .ref (ad 5)), (1, .ref (Z.fa gf))]) hx hb dX5_nextCandidate_66 hl (by decide) rfl (fun ls hl => ?_)
          have kk8 : bK gB (V 71 gf).toInt.toNat (V17 75 gf).toInt.toNat = bK gB (Int32.toNatClampNeg (V 71 gf)) (Int32.toNatClampNeg (V17 75 gf)) := rfl
          have me52 : ME V V17 gf := (ME.tr ME.rf xlp18_0)
          have bc53 : BKc V17 b gB := BKc.be bc me52.1
          have sb9 : SBL z48 (if bK gB (V 71 gf).toInt.toNat (V17 75 gf).toInt.toNat = 1 then [] else bC gB (V 71 gf).toInt.toNat (V17 75 gf).toInt.toNat) := by rw [if_neg (by rw [kk8]; omega)]; exact SBL.of (by have h9 := t51; rw [BKc.sv bc53] at h9; exact h9) (by omega) n24
          refine lv_iload hx hb dX5_nextCandidate_68 (lv_at hl 0 rfl) ?_
          refine lv_aload_n hx hb dX5_nextCandidate_70 rfl (lv_at hl 4 rfl) ?_
          refine va_getN (D := D) (ci := 4) (v := .int (V17 76 gf)) (fs := (xfFrame V17 gf)) (C := RX4) (T := TX4) (N := 19) hx hb hg inX4 hown hK hP (336 + gf) (xgFrame hgf) rfl 9 (by decide) (hnw.use 1198 n1198 rfl) (fun _ h9 => h9) rfl dX5_nextCandidate_71 ?_
          refine lv_iushr hx hb dX5_nextCandidate_74 rfl ?_
          refine lv_topi (fun z54 ez54 => ?_)
          have hu24 : (V17 76 gf).toInt < 24 → 0 ≤ z54.toInt ∧ z54.toInt < ((2 ^ (24 - (V17 76 gf).toInt.toNat) : Nat) : Int) := fun h => ushr_24 ez54 (show 0 ≤ z48.toInt ∧ z48.toInt < 16777216 from by (first | exact om_3142f42e06e3 rgz48.1 rgz48.2 | omega)) ⟨by omega, h⟩
          have hu0 : 24 ≤ (V17 76 gf).toInt → z54.toInt = 0 := fun h => ushr_0 ez54 (show 0 ≤ z48.toInt ∧ z48.toInt < 16777216 from by (first | exact om_3142f42e06e3 rgz48.1 rgz48.2 | omega)) ⟨h, by omega⟩
          refine lv_istore (lv' := [(5, .int z54), (4, .int z48), (3, .int 0), (2, .ref (ad (72 + (24 * b + (Int32.toNatClampNeg (V 71 gf)))))), (0, .ref (ad 5)), (1, .ref (Z.fa gf))]) hx hb dX5_nextCandidate_75 hl (by decide) rfl (fun ls hl => ?_)
          have us9 := ushr_s ez54 (show 0 ≤ z48.toInt from by (first | exact om_eafa9039069c rgz48.1 | omega)) (k := (V17 76 gf).toInt.toNat) (show (V17 76 gf).toInt = (((V17 76 gf).toInt.toNat : Nat) : Int) from by (first | exact om_bb68b85f87a5 xlp18_2.1 | omega)) (by omega)
          have sh9 : SHx (if bK gB (V 71 gf).toInt.toNat (V17 75 gf).toInt.toNat = 1 then [] else bC gB (V 71 gf).toInt.toNat (V17 75 gf).toInt.toNat) (V17 76 gf).toInt.toNat z54 := SBL.shx sb9 us9.1 us9.2.1
          have ul9 := us9.2.2
          have uz9 := us9.2.1
          have ub9 := sb9.1
          clear us9
          refine lv_iload hx hb dX5_nextCandidate_77 (lv_at hl 0 rfl) ?_
          refine lv_if_eq (tgt := 105) hx hb dX5_nextCandidate_79 (by decide) (fun c55 => ?_) (fun c55 => ?_)
          · skip
            have f56 : z54.toInt = 0 := b_eq rfl (by decide) c55
            refine lv_aload_n hx hb dX5_nextCandidate_105 rfl (lv_at hl 5 rfl) ?_
            refine lv_dup hx hb dX5_nextCandidate_106 rfl ?_
            refine va_getN (D := D) (ci := 4) (v := .int (V17 75 gf)) (fs := (xfFrame V17 gf)) (C := RX4) (T := TX4) (N := 19) hx hb hg inX4 hown hK hP (336 + gf) (xgFrame hgf) rfl 8 (by decide) (hnw.use 1197 n1197 rfl) (fun _ h9 => h9) rfl dX5_nextCandidate_107 ?_
            refine lv_iconst (v := 1) hx hb dX5_nextCandidate_110 (by decide) ?_
            refine lv_iadd hx hb dX5_nextCandidate_111 ?_
            refine lv_topi (fun z57 ez57 => ?_)
            have hz57 : z57.toInt = ((V17 75 gf)).toInt + 1 := i_add ez57 rfl (by decide) (by (first | exact om_56ff1e099a1d r19.1 r20.2 f39 | omega))
            refine va_putN (D := D) (ci := 4) (v := .int z57) (ty := tyX4 8) (fs := (xfFrame V17 gf)) (C := RX4) (T := TX4) (N := 19) hx hb hg inX4 tyX4 tyX4_ok nmX4 hown hK hP hD hS (336 + gf) (xgFrame hgf) rfl 8 (by decide) (hnw.use 1197 n1197 rfl) (fun _ h9 => h9) rfl (tyX4_ok 8 (by decide)) rfl rfl (Nat.le_of_ble_eq_true rfl) dX5_nextCandidate_112 (fun H locs hP hD hS => ?_)
            obtain ⟨V58, hV58⟩ : ∃ z, z = up2 V17 75 gf z57 := ⟨_, rfl⟩
            have ew59 : (xw ad kk V17 L Z).set (336 + gf) ((Z.fa gf), .inr (4, (xfFrame V17 gf).set 8 (.int z57))) = xw ad kk V58 L Z := by rw [hV58]; exact xpFrame_position hgf
            have hP : va_P D vwCl (xw ad kk V58 L Z) H := by rw [← ew59]; exact hP
            have hD : va_D A (xw ad kk V58 L Z) := by rw [← ew59]; exact hD
            have hMV58 : rgd bX V58 := hMV17.put hV58 (show 0 ≤ z57.toInt ∧ z57.toInt ≤ 12 from by first | exact om_a43fe9ef6d7f r19.1 r20.2 f39 hz57 | first | omega | ((try (have i_bc := Imp.go bc (by omega))); (try (have i_mo := Imp.go mo (by omega))); (try (have i_mo := Imp.go mo (by omega))); (try (have i_bc := Imp.go bc (by omega))); omega))
            have agV58 : agr [] [75, 76] V V58 := agV17.up hV58 rfl
            refine lv_aload_n hx hb dX5_nextCandidate_115 rfl (lv_at hl 5 rfl) ?_
            refine lv_iconst (v := 0) hx hb dX5_nextCandidate_116 (by decide) ?_
            refine va_putN (D := D) (ci := 4) (v := .int 0) (ty := tyX4 9) (fs := (xfFrame V58 gf)) (C := RX4) (T := TX4) (N := 19) hx hb hg inX4 tyX4 tyX4_ok nmX4 hown hK hP hD hS (336 + gf) (xgFrame hgf) rfl 9 (by decide) (hnw.use 1198 n1198 rfl) (fun _ h9 => h9) rfl (tyX4_ok 9 (by decide)) rfl rfl (Nat.le_of_ble_eq_true rfl) dX5_nextCandidate_117 (fun H locs hP hD hS => ?_)
            obtain ⟨V60, hV60⟩ : ∃ z, z = up2 V58 76 gf 0 := ⟨_, rfl⟩
            have ew61 : (xw ad kk V58 L Z).set (336 + gf) ((Z.fa gf), .inr (4, (xfFrame V58 gf).set 9 (.int 0))) = xw ad kk V60 L Z := by rw [hV60]; exact xpFrame_item hgf
            have hP : va_P D vwCl (xw ad kk V60 L Z) H := by rw [← ew61]; exact hP
            have hD : va_D A (xw ad kk V60 L Z) := by rw [← ew61]; exact hD
            have hMV60 : rgd bX V60 := hMV58.put hV60 (i_full _)
            have agV60 : agr [] [75, 76] V V60 := agV58.up hV60 rfl
            refine lv_goto (tgt := 13) hx hb dX5_nextCandidate_120 (by decide) ?_
            have r62 : Int32.toInt 0 = 0 := by decide
            have pq63 : (V60 75 gf).toInt = z57.toInt := congrArg Int32.toInt ((up2_o hV60 (by decide)).trans (up2_s hV58))
            have pq64 : (V60 76 gf).toInt = 0 := (congrArg Int32.toInt (up2_s hV60)).trans (by decide)
            have me65 : ME V V60 gf := (ME.up (ME.up (ME.tr ME.rf xlp18_0) hV58 (Or.inl ⟨by decide, by decide, Nat.le_refl _⟩)) hV60 (Or.inl ⟨by decide, by decide, Nat.le_refl _⟩))
            exact ihlp18 V60 H locs ls me65 (show (V 75 gf).toInt ≤ (V60 75 gf).toInt ∧ (V60 75 gf).toInt ≤ 8 from by first | exact om_157c73f4d754 xlp18_1.1 r20.2 f39 hz57 pq63 | first | omega | ((try (have i_bc := Imp.go bc (by omega))); (try (have i_mo := Imp.go mo (by omega))); (try (have i_mo := Imp.go mo (by omega))); (try (have i_bc := Imp.go bc (by omega))); omega)) (show 0 ≤ (V60 76 gf).toInt ∧ (V60 76 gf).toInt ≤ 25 from by first | exact om_f0ec0da15ce4 pq64 | first | omega | ((try (have i_bc := Imp.go bc (by omega))); (try (have i_mo := Imp.go mo (by omega))); (try (have i_mo := Imp.go mo (by omega))); (try (have i_bc := Imp.go bc (by omega))); omega)) (show 25 * (8 - (V60 75 gf).toInt) - (V60 76 gf).toInt ≤ 25 * (8 - (V 75 gf).toInt) - (V 76 gf).toInt from by first | exact om_f4ecaeba4d96 xlp18_2.2 xlp18_3 hz57 pq63 pq64 | first | omega | ((try (have i_bc := Imp.go bc (by omega))); (try (have i_mo := Imp.go mo (by omega))); (try (have i_mo := Imp.go mo (by omega))); (try (have i_bc := Imp.go bc (by omega))); omega)) (by rw [show (V60 75 gf).toInt.toNat = (V17 75 gf).toInt.toNat + 1 from by omega, show (V60 76 gf).toInt.toNat = 0 from by rw [(up2_s hV60)]; decide]; exact xlp18_4.trans (nxC_n bn9 (by (first | exact om_7e4bf5516ec4 r19.1 r20.2 f39 | omega)) (SHx.n sh9 (by (first | exact om_b66ba74381d5 f56 | omega))))) (by first | exact om_1e21532676d6 hn hz57 pq63 | first | omega | ((try (have i_bc := Imp.go bc (by omega))); (try (have i_mo := Imp.go mo (by omega))); (try (have i_mo := Imp.go mo (by omega))); (try (have i_bc := Imp.go bc (by omega))); omega)) (agr.up (agr.up (agr.tr agr.rf ajV17 (by decide) (by decide)) hV58 rfl) hV60 rfl) hMV60 hP hD hS (lv_sub hl [3, 4, 5] rfl)
          · skip
            have f66 : z54.toInt ≠ 0 := b_neq rfl (by decide) c55
            have hit : (V17 76 gf).toInt < 24 := by rcases Int.lt_or_le (V17 76 gf).toInt 24 with h | h; exact h; have q := hu0 h; omega
            have hz24 := hu24 hit
            obtain ⟨d9, fd9, dl9, lob9⟩ := SHx.y sh9 (by omega)
            refine lv_aload_n hx hb dX5_nextCandidate_82 rfl (lv_at hl 5 rfl) ?_
            refine va_getN (D := D) (ci := 4) (v := .int (V17 76 gf)) (fs := (xfFrame V17 gf)) (C := RX4) (T := TX4) (N := 19) hx hb hg inX4 hown hK hP (336 + gf) (xgFrame hgf) rfl 9 (by decide) (hnw.use 1198 n1198 rfl) (fun _ h9 => h9) rfl dX5_nextCandidate_83 ?_
            refine lv_iload hx hb dX5_nextCandidate_86 (lv_at hl 0 rfl) ?_
            refine gE_int (g_runS (As := [.int z54]) (rest := [.int (V17 76 gf)]) (wc := []) (tc := []) hx hb hml hown hg gw_self hP hD hK hS hA hnw hgk [] [] (by decide) rfl rfl (x_nTZ10 l D ks H.size z54 ((d9 - (V17 76 gf).toInt.toNat)) (by first | omega | ((try (have i_bc := Imp.go bc (by omega))); (try (have i_mo := Imp.go mo (by omega))); (try (have i_mo := Imp.go mo (by omega))); (try (have i_bc := Imp.go bc (by omega))); omega)) lob9) w1375 w1143 w175 w1144 hdS_yJ6_numberOfTrailingZeros_0f7a4 ⟨Nat.le_of_ble_eq_true rfl, Nat.le_of_ble_eq_true rfl⟩ rfl hl.1 rfl (Nat.le_of_ble_eq_true rfl) dX5_nextCandidate_88 ⟨Nat.le_of_ble_eq_true rfl, Nat.le_of_ble_eq_true rfl⟩) hP hD hK hS hA (fun z67 u68 H locs w69 hP hD hK hS => ?_)
            obtain ⟨rgz67, t70⟩ := w69
            replace rgz67 : 0 ≤ z67.toInt ∧ z67.toInt ≤ 32 := rgz67
            replace t70 : z67.toInt = (((d9 - (V17 76 gf).toInt.toNat) : Nat) : Int) := t70
            refine lv_iadd hx hb dX5_nextCandidate_91 ?_
            refine lv_topi (fun z71 ez71 => ?_)
            have hz71 : z71.toInt = ((V17 76 gf)).toInt + z67.toInt := i_add ez71 rfl rfl (by (first | exact om_7820ea5c7df8 xlp18_2.1 hit rgz67.1 rgz67.2 | omega))
            refine lv_istore (lv' := [(6, .int z71), (5, .int z54), (4, .int z48), (3, .int 0), (2, .ref (ad (72 + (24 * b + (Int32.toNatClampNeg (V 71 gf)))))), (0, .ref (ad 5)), (1, .ref (Z.fa gf))]) hx hb dX5_nextCandidate_92 hl (by decide) rfl (fun ls hl => ?_)
            refine lv_aload_n hx hb dX5_nextCandidate_94 rfl (lv_at hl 6 rfl) ?_
            refine lv_iload hx hb dX5_nextCandidate_95 (lv_at hl 0 rfl) ?_
            refine lv_iconst (v := 1) hx hb dX5_nextCandidate_97 (by decide) ?_
            refine lv_iadd hx hb dX5_nextCandidate_98 ?_
            refine lv_topi (fun z72 ez72 => ?_)
            have hz72 : z72.toInt = z71.toInt + 1 := i_add ez72 rfl (by decide) (by (first | exact om_2780df997877 xlp18_2.1 hit rgz67.1 rgz67.2 hz71 | omega))
            refine va_putN (D := D) (ci := 4) (v := .int z72) (ty := tyX4 9) (fs := (xfFrame V17 gf)) (C := RX4) (T := TX4) (N := 19) hx hb hg inX4 tyX4 tyX4_ok nmX4 hown hK hP hD hS (336 + gf) (xgFrame hgf) rfl 9 (by decide) (hnw.use 1198 n1198 rfl) (fun _ h9 => h9) rfl (tyX4_ok 9 (by decide)) rfl rfl (Nat.le_of_ble_eq_true rfl) dX5_nextCandidate_99 (fun H locs hP hD hS => ?_)
            obtain ⟨V73, hV73⟩ : ∃ z, z = up2 V17 76 gf z72 := ⟨_, rfl⟩
            have ew74 : (xw ad kk V17 L Z).set (336 + gf) ((Z.fa gf), .inr (4, (xfFrame V17 gf).set 9 (.int z72))) = xw ad kk V73 L Z := by rw [hV73]; exact xpFrame_item hgf
            have hP : va_P D vwCl (xw ad kk V73 L Z) H := by rw [← ew74]; exact hP
            have hD : va_D A (xw ad kk V73 L Z) := by rw [← ew74]; exact hD
            have hMV73 : rgd bX V73 := hMV17.put hV73 (i_full _)
            have agV73 : agr [] [75, 76] V V73 := agV17.up hV73 rfl
            refine lv_iload hx hb dX5_nextCandidate_102 (lv_at hl 0 rfl) ?_
            have me75 : ME V V73 gf := (ME.up (ME.tr ME.rf xlp18_0) hV73 (Or.inl ⟨by decide, by decide, Nat.le_refl _⟩))
            have pq76 : (V73 67 gf).toInt = ((V 67 gf)).toInt := congrArg Int32.toInt ((up2_o hV73 (by decide)).trans (ajV17 67 gf rfl))
            have pq77 : (V73 68 gf).toInt = ((V 68 gf)).toInt := congrArg Int32.toInt ((up2_o hV73 (by decide)).trans (ajV17 68 gf rfl))
            have pq78 : (V73 70 gf).toInt = ((V 70 gf)).toInt := congrArg Int32.toInt ((up2_o hV73 (by decide)).trans (ajV17 70 gf rfl))
            have pq79 : (V73 71 gf).toInt = ((V 71 gf)).toInt := congrArg Int32.toInt ((up2_o hV73 (by decide)).trans (ajV17 71 gf rfl))
            have pq80 : (V73 75 gf).toInt = ((V17 75 gf)).toInt := congrArg Int32.toInt (up2_o hV73 (by decide))
            have pq81 : (V73 76 gf).toInt = z72.toInt := congrArg Int32.toInt (up2_s hV73)
            have pq82 : (V73 80 gf).toInt = ((V 80 gf)).toInt := congrArg Int32.toInt ((up2_o hV73 (by decide)).trans (ajV17 80 gf rfl))
            have pq83 : (V73 84 gf).toInt = ((V 84 gf)).toInt := congrArg Int32.toInt ((up2_o hV73 (by decide)).trans (ajV17 84 gf rfl))
            have pq84 : (V73 5 6).toInt = ((V 5 6)).toInt := congrArg Int32.toInt ((up2_o hV73 (by decide)).trans (ajV17 5 6 rfl))
            have pq85 : (V73 5 8).toInt = ((V 5 8)).toInt := congrArg Int32.toInt ((up2_o hV73 (by decide)).trans (ajV17 5 8 rfl))
            have pq86 : (V73 5 9).toInt = ((V 5 9)).toInt := congrArg Int32.toInt ((up2_o hV73 (by decide)).trans (ajV17 5 9 rfl))
            have pq87 : (V73 3 13).toInt = ((V 3 13)).toInt := congrArg Int32.toInt ((up2_o hV73 (by decide)).trans (ajV17 3 13 rfl))
            have pq88 : (V73 43 (5 * b + 2)).toInt = ((V 43 (5 * b + 2))).toInt := congrArg Int32.toInt ((up2_o hV73 (by decide)).trans (ajV17 43 (5 * b + 2) rfl))
            have pq89 : (V73 42 b).toInt = ((V 42 b)).toInt := congrArg Int32.toInt ((up2_o hV73 (by decide)).trans (ajV17 42 b rfl))
            have pq90 : (V73 41 b).toInt = ((V 41 b)).toInt := congrArg Int32.toInt ((up2_o hV73 (by decide)).trans (ajV17 41 b rfl))
            have mo91 : MO V73 Z b gf True True True := MO.ch mo me75 ((up2_o hV73 (by decide)).trans (ajV17 67 gf rfl)) ((up2_o hV73 (by decide)).trans (ajV17 80 gf rfl)) (fun _ => Or.inl (by omega)) (fun x h => FK.nx h (by omega) (by omega) (by omega) (by omega) (by omega) (by omega) (by omega) (by omega) (fun _ => ⟨by omega, by omega⟩))
            have me92 : ME V V73 gf := (ME.up (ME.tr ME.rf xlp18_0) hV73 (Or.inl ⟨by decide, by decide, Nat.le_refl _⟩))
            have mo93 : MO V73 Z b gf False False False := MO.ch mo me92 ((up2_o hV73 (by decide)).trans (ajV17 67 gf rfl)) ((up2_o hV73 (by decide)).trans (ajV17 80 gf rfl)) (fun _ => Or.inl (by omega)) (fun x h => FK.nx h (by omega) (by omega) (by omega) (by omega) (by omega) (by omega) (by omega) (by omega) (fun z => z.elim))
            have me94 : ME V V73 gf := (ME.up (ME.tr ME.rf xlp18_0) hV73 (Or.inl ⟨by decide, by decide, Nat.le_refl _⟩))
            exact W.iret (v := z71) hx hb hr (fun t ht hW => ⟨⟨z71, (V73, L), rfl, ⟨hMV73, agV73, rfl, (show (-1) ≤ z71.toInt ∧ z71.toInt ≤ 23 from by first | omega | ((try (have i_bc := Imp.go bc (by omega))); (try (have i_mo := Imp.go mo (by omega))); (try (have i_mo := Imp.go mo (by omega))); (try (have i_bc := Imp.go bc (by omega))); omega)), (Imp.mk (fun _ => mo91)), mo93, (Or.inr ⟨by omega, (by rw [show (V73 75 gf).toInt.toNat = (V17 75 gf).toInt.toNat from by omega, show z71.toInt.toNat = d9 from by omega]; exact xlp18_4.trans (nxC_c bn9 (by (first | exact om_7e4bf5516ec4 r19.1 r20.2 f39 | omega)) fd9)), (show (V73 76 gf).toInt = z71.toInt + 1 from by (first | exact om_689eeacb6d53 hz72 pq81 | omega))⟩), me94⟩, by rw [ht]; exact hP, va_K.moved hW.alike hK, hD⟩, hS.F ht⟩) hS.2.2 dX5_nextCandidate_104
        · skip
          have f95 : ((V 60 (8 * (24 * b + (Int32.toNatClampNeg (V 71 gf))) + (Int32.toNatClampNeg (V17 75 gf))))).toInt = 1 := b_eq rfl (by decide) c43
          refine lv_iconst (v := 1) hx hb dX5_nextCandidate_37 (by decide) ?_
          refine lv_goto (tgt := 42) hx hb dX5_nextCandidate_38 (by decide) ?_
          refine lv_istore_n (lv' := [(3, .int 1), (2, .ref (ad (72 + (24 * b + (Int32.toNatClampNeg (V 71 gf)))))), (0, .ref (ad 5)), (1, .ref (Z.fa gf))]) hx hb dX5_nextCandidate_42 rfl hl (by decide) rfl (fun ls hl => ?_)
          refine lv_iload_n hx hb dX5_nextCandidate_43 rfl (lv_at hl 0 rfl) ?_
          refine lv_if_eq (tgt := 51) hx hb dX5_nextCandidate_44 (by decide) (fun q => absurd q (by decide)) (fun _ => ?_)
          refine lv_iconst (v := 0) hx hb dX5_nextCandidate_47 (by decide) ?_
          refine lv_goto (tgt := 66) hx hb dX5_nextCandidate_48 (by decide) ?_
          refine lv_istore (lv' := [(4, .int 0), (3, .int 1), (2, .ref (ad (72 + (24 * b + (Int32.toNatClampNeg (V 71 gf)))))), (0, .ref (ad 5)), (1, .ref (Z.fa gf))]) hx hb dX5_nextCandidate_66 hl (by decide) rfl (fun ls hl => ?_)
          have kk8 : bK gB (V 71 gf).toInt.toNat (V17 75 gf).toInt.toNat = bK gB (Int32.toNatClampNeg (V 71 gf)) (Int32.toNatClampNeg (V17 75 gf)) := rfl
          have sb9 : SBL 0 (if bK gB (V 71 gf).toInt.toNat (V17 75 gf).toInt.toNat = 1 then [] else bC gB (V 71 gf).toInt.toNat (V17 75 gf).toInt.toNat) := by rw [if_pos (by rw [kk8]; omega)]; exact SBL.z
          refine lv_iload hx hb dX5_nextCandidate_68 (lv_at hl 0 rfl) ?_
          refine lv_aload_n hx hb dX5_nextCandidate_70 rfl (lv_at hl 4 rfl) ?_
          refine va_getN (D := D) (ci := 4) (v := .int (V17 76 gf)) (fs := (xfFrame V17 gf)) (C := RX4) (T := TX4) (N := 19) hx hb hg inX4 hown hK hP (336 + gf) (xgFrame hgf) rfl 9 (by decide) (hnw.use 1198 n1198 rfl) (fun _ h9 => h9) rfl dX5_nextCandidate_71 ?_
          refine lv_iushr hx hb dX5_nextCandidate_74 rfl ?_
          refine lv_topi (fun z96 ez96 => ?_)
          have hu24 : (V17 76 gf).toInt < 24 → 0 ≤ z96.toInt ∧ z96.toInt < ((2 ^ (24 - (V17 76 gf).toInt.toNat) : Nat) : Int) := fun h => ushr_24 ez96 (show 0 ≤ Int32.toInt 0 ∧ Int32.toInt 0 < 16777216 from by decide) ⟨by omega, h⟩
          have hu0 : 24 ≤ (V17 76 gf).toInt → z96.toInt = 0 := fun h => ushr_0 ez96 (show 0 ≤ Int32.toInt 0 ∧ Int32.toInt 0 < 16777216 from by decide) ⟨h, by omega⟩
          refine lv_istore (lv' := [(5, .int z96), (4, .int 0), (3, .int 1), (2, .ref (ad (72 + (24 * b + (Int32.toNatClampNeg (V 71 gf)))))), (0, .ref (ad 5)), (1, .ref (Z.fa gf))]) hx hb dX5_nextCandidate_75 hl (by decide) rfl (fun ls hl => ?_)
          have us9 := ushr_s ez96 (show 0 ≤ Int32.toInt 0 from by decide) (k := (V17 76 gf).toInt.toNat) (show (V17 76 gf).toInt = (((V17 76 gf).toInt.toNat : Nat) : Int) from by (first | exact om_bb68b85f87a5 xlp18_2.1 | omega)) (by omega)
          have sh9 : SHx (if bK gB (V 71 gf).toInt.toNat (V17 75 gf).toInt.toNat = 1 then [] else bC gB (V 71 gf).toInt.toNat (V17 75 gf).toInt.toNat) (V17 76 gf).toInt.toNat z96 := SBL.shx sb9 us9.1 us9.2.1
          have ul9 := us9.2.2
          have uz9 := us9.2.1
          have ub9 := sb9.1
          clear us9
          refine lv_iload hx hb dX5_nextCandidate_77 (lv_at hl 0 rfl) ?_
          refine lv_if_eq (tgt := 105) hx hb dX5_nextCandidate_79 (by decide) (fun c97 => ?_) (fun c97 => ?_)
          · skip
            have f98 : z96.toInt = 0 := b_eq rfl (by decide) c97
            refine lv_aload_n hx hb dX5_nextCandidate_105 rfl (lv_at hl 5 rfl) ?_
            refine lv_dup hx hb dX5_nextCandidate_106 rfl ?_
            refine va_getN (D := D) (ci := 4) (v := .int (V17 75 gf)) (fs := (xfFrame V17 gf)) (C := RX4) (T := TX4) (N := 19) hx hb hg inX4 hown hK hP (336 + gf) (xgFrame hgf) rfl 8 (by decide) (hnw.use 1197 n1197 rfl) (fun _ h9 => h9) rfl dX5_nextCandidate_107 ?_
            refine lv_iconst (v := 1) hx hb dX5_nextCandidate_110 (by decide) ?_
            refine lv_iadd hx hb dX5_nextCandidate_111 ?_
            refine lv_topi (fun z99 ez99 => ?_)
            have hz99 : z99.toInt = ((V17 75 gf)).toInt + 1 := i_add ez99 rfl (by decide) (by (first | exact om_56ff1e099a1d r19.1 r20.2 f39 | omega))
            refine va_putN (D := D) (ci := 4) (v := .int z99) (ty := tyX4 8) (fs := (xfFrame V17 gf)) (C := RX4) (T := TX4) (N := 19) hx hb hg inX4 tyX4 tyX4_ok nmX4 hown hK hP hD hS (336 + gf) (xgFrame hgf) rfl 8 (by decide) (hnw.use 1197 n1197 rfl) (fun _ h9 => h9) rfl (tyX4_ok 8 (by decide)) rfl rfl (Nat.le_of_ble_eq_true rfl) dX5_nextCandidate_112 (fun H locs hP hD hS => ?_)
            obtain ⟨V100, hV100⟩ : ∃ z, z = up2 V17 75 gf z99 := ⟨_, rfl⟩
            have ew101 : (xw ad kk V17 L Z).set (336 + gf) ((Z.fa gf), .inr (4, (xfFrame V17 gf).set 8 (.int z99))) = xw ad kk V100 L Z := by rw [hV100]; exact xpFrame_position hgf
            have hP : va_P D vwCl (xw ad kk V100 L Z) H := by rw [← ew101]; exact hP
            have hD : va_D A (xw ad kk V100 L Z) := by rw [← ew101]; exact hD
            have hMV100 : rgd bX V100 := hMV17.put hV100 (show 0 ≤ z99.toInt ∧ z99.toInt ≤ 12 from by first | exact om_a43fe9ef6d7f r19.1 r20.2 f39 hz99 | first | omega | ((try (have i_bc := Imp.go bc (by omega))); (try (have i_mo := Imp.go mo (by omega))); (try (have i_mo := Imp.go mo (by omega))); (try (have i_bc := Imp.go bc (by omega))); omega))
            have agV100 : agr [] [75, 76] V V100 := agV17.up hV100 rfl
            refine lv_aload_n hx hb dX5_nextCandidate_115 rfl (lv_at hl 5 rfl) ?_
            refine lv_iconst (v := 0) hx hb dX5_nextCandidate_116 (by decide) ?_
            refine va_putN (D := D) (ci := 4) (v := .int 0) (ty := tyX4 9) (fs := (xfFrame V100 gf)) (C := RX4) (T := TX4) (N := 19) hx hb hg inX4 tyX4 tyX4_ok nmX4 hown hK hP hD hS (336 + gf) (xgFrame hgf) rfl 9 (by decide) (hnw.use 1198 n1198 rfl) (fun _ h9 => h9) rfl (tyX4_ok 9 (by decide)) rfl rfl (Nat.le_of_ble_eq_true rfl) dX5_nextCandidate_117 (fun H locs hP hD hS => ?_)
            obtain ⟨V102, hV102⟩ : ∃ z, z = up2 V100 76 gf 0 := ⟨_, rfl⟩
            have ew103 : (xw ad kk V100 L Z).set (336 + gf) ((Z.fa gf), .inr (4, (xfFrame V100 gf).set 9 (.int 0))) = xw ad kk V102 L Z := by rw [hV102]; exact xpFrame_item hgf
            have hP : va_P D vwCl (xw ad kk V102 L Z) H := by rw [← ew103]; exact hP
            have hD : va_D A (xw ad kk V102 L Z) := by rw [← ew103]; exact hD
            have hMV102 : rgd bX V102 := hMV100.put hV102 (i_full _)
            have agV102 : agr [] [75, 76] V V102 := agV100.up hV102 rfl
            refine lv_goto (tgt := 13) hx hb dX5_nextCandidate_120 (by decide) ?_
            have r104 : Int32.toInt 0 = 0 := by decide
            have r105 : Int32.toInt 1 = 1 := by decide
            have pq106 : (V102 75 gf).toInt = z99.toInt := congrArg Int32.toInt ((up2_o hV102 (by decide)).trans (up2_s hV100))
            have pq107 : (V102 76 gf).toInt = 0 := (congrArg Int32.toInt (up2_s hV102)).trans (by decide)
            have me108 : ME V V102 gf := (ME.up (ME.up (ME.tr ME.rf xlp18_0) hV100 (Or.inl ⟨by decide, by decide, Nat.le_refl _⟩)) hV102 (Or.inl ⟨by decide, by decide, Nat.le_refl _⟩))
            exact ihlp18 V102 H locs ls me108 (show (V 75 gf).toInt ≤ (V102 75 gf).toInt ∧ (V102 75 gf).toInt ≤ 8 from by first | exact om_157c73f4d754 xlp18_1.1 r20.2 f39 hz99 pq106 | first | omega | ((try (have i_bc := Imp.go bc (by omega))); (try (have i_mo := Imp.go mo (by omega))); (try (have i_mo := Imp.go mo (by omega))); (try (have i_bc := Imp.go bc (by omega))); omega)) (show 0 ≤ (V102 76 gf).toInt ∧ (V102 76 gf).toInt ≤ 25 from by first | exact om_f0ec0da15ce4 pq107 | first | omega | ((try (have i_bc := Imp.go bc (by omega))); (try (have i_mo := Imp.go mo (by omega))); (try (have i_mo := Imp.go mo (by omega))); (try (have i_bc := Imp.go bc (by omega))); omega)) (show 25 * (8 - (V102 75 gf).toInt) - (V102 76 gf).toInt ≤ 25 * (8 - (V 75 gf).toInt) - (V 76 gf).toInt from by first | exact om_f4ecaeba4d96 xlp18_2.2 xlp18_3 hz99 pq106 pq107 | first | omega | ((try (have i_bc := Imp.go bc (by omega))); (try (have i_mo := Imp.go mo (by omega))); (try (have i_mo := Imp.go mo (by omega))); (try (have i_bc := Imp.go bc (by omega))); omega)) (by rw [show (V102 75 gf).toInt.toNat = (V17 75 gf).toInt.toNat + 1 from by omega, show (V102 76 gf).toInt.toNat = 0 from by rw [(up2_s hV102)]; decide]; exact xlp18_4.trans (nxC_n bn9 (by (first | exact om_7e4bf5516ec4 r19.1 r20.2 f39 | omega)) (SHx.n sh9 (by (first | exact om_b66ba74381d5 f98 | omega))))) (by first | exact om_1e21532676d6 hn hz99 pq106 | first | omega | ((try (have i_bc := Imp.go bc (by omega))); (try (have i_mo := Imp.go mo (by omega))); (try (have i_mo := Imp.go mo (by omega))); (try (have i_bc := Imp.go bc (by omega))); omega)) (agr.up (agr.up (agr.tr agr.rf ajV17 (by decide) (by decide)) hV100 rfl) hV102 rfl) hMV102 hP hD hS (lv_sub hl [3, 4, 5] rfl)
          · skip
            have f109 : z96.toInt ≠ 0 := b_neq rfl (by decide) c97
            have hit : (V17 76 gf).toInt < 24 := by rcases Int.lt_or_le (V17 76 gf).toInt 24 with h | h; exact h; have q := hu0 h; omega
            have hz24 := hu24 hit
            obtain ⟨d9, fd9, dl9, lob9⟩ := SHx.y sh9 (by omega)
            refine lv_aload_n hx hb dX5_nextCandidate_82 rfl (lv_at hl 5 rfl) ?_
            refine va_getN (D := D) (ci := 4) (v := .int (V17 76 gf)) (fs := (xfFrame V17 gf)) (C := RX4) (T := TX4) (N := 19) hx hb hg inX4 hown hK hP (336 + gf) (xgFrame hgf) rfl 9 (by decide) (hnw.use 1198 n1198 rfl) (fun _ h9 => h9) rfl dX5_nextCandidate_83 ?_
            refine lv_iload hx hb dX5_nextCandidate_86 (lv_at hl 0 rfl) ?_
            refine gE_int (g_runS (As := [.int z96]) (rest := [.int (V17 76 gf)]) (wc := []) (tc := []) hx hb hml hown hg gw_self hP hD hK hS hA hnw hgk [] [] (by decide) rfl rfl (x_nTZ10 l D ks H.size z96 ((d9 - (V17 76 gf).toInt.toNat)) (by first | omega | ((try (have i_bc := Imp.go bc (by omega))); (try (have i_mo := Imp.go mo (by omega))); (try (have i_mo := Imp.go mo (by omega))); (try (have i_bc := Imp.go bc (by omega))); omega)) lob9) w1375 w1143 w175 w1144 hdS_yJ6_numberOfTrailingZeros_0f7a4 ⟨Nat.le_of_ble_eq_true rfl, Nat.le_of_ble_eq_true rfl⟩ rfl hl.1 rfl (Nat.le_of_ble_eq_true rfl) dX5_nextCandidate_88 ⟨Nat.le_of_ble_eq_true rfl, Nat.le_of_ble_eq_true rfl⟩) hP hD hK hS hA (fun z110 u111 H locs w112 hP hD hK hS => ?_)
            obtain ⟨rgz110, t113⟩ := w112
            replace rgz110 : 0 ≤ z110.toInt ∧ z110.toInt ≤ 32 := rgz110
            replace t113 : z110.toInt = (((d9 - (V17 76 gf).toInt.toNat) : Nat) : Int) := t113
            refine lv_iadd hx hb dX5_nextCandidate_91 ?_
            refine lv_topi (fun z114 ez114 => ?_)
            have hz114 : z114.toInt = ((V17 76 gf)).toInt + z110.toInt := i_add ez114 rfl rfl (by (first | exact om_7820ea5c7df8 xlp18_2.1 hit rgz110.1 rgz110.2 | omega))
            refine lv_istore (lv' := [(6, .int z114), (5, .int z96), (4, .int 0), (3, .int 1), (2, .ref (ad (72 + (24 * b + (Int32.toNatClampNeg (V 71 gf)))))), (0, .ref (ad 5)), (1, .ref (Z.fa gf))]) hx hb dX5_nextCandidate_92 hl (by decide) rfl (fun ls hl => ?_)
            refine lv_aload_n hx hb dX5_nextCandidate_94 rfl (lv_at hl 6 rfl) ?_
            refine lv_iload hx hb dX5_nextCandidate_95 (lv_at hl 0 rfl) ?_
            refine lv_iconst (v := 1) hx hb dX5_nextCandidate_97 (by decide) ?_
            refine lv_iadd hx hb dX5_nextCandidate_98 ?_
            refine lv_topi (fun z115 ez115 => ?_)
            have hz115 : z115.toInt = z114.toInt + 1 := i_add ez115 rfl (by decide) (by (first | exact om_2780df997877 xlp18_2.1 hit rgz110.1 rgz110.2 hz114 | omega))
            refine va_putN (D := D) (ci := 4) (v := .int z115) (ty := tyX4 9) (fs := (xfFrame V17 gf)) (C := RX4) (T := TX4) (N := 19) hx hb hg inX4 tyX4 tyX4_ok nmX4 hown hK hP hD hS (336 + gf) (xgFrame hgf) rfl 9 (by decide) (hnw.use 1198 n1198 rfl) (fun _ h9 => h9) rfl (tyX4_ok 9 (by decide)) rfl rfl (Nat.le_of_ble_eq_true rfl) dX5_nextCandidate_99 (fun H locs hP hD hS => ?_)
            obtain ⟨V116, hV116⟩ : ∃ z, z = up2 V17 76 gf z115 := ⟨_, rfl⟩
            have ew117 : (xw ad kk V17 L Z).set (336 + gf) ((Z.fa gf), .inr (4, (xfFrame V17 gf).set 9 (.int z115))) = xw ad kk V116 L Z := by rw [hV116]; exact xpFrame_item hgf
            have hP : va_P D vwCl (xw ad kk V116 L Z) H := by rw [← ew117]; exact hP
            have hD : va_D A (xw ad kk V116 L Z) := by rw [← ew117]; exact hD
            have hMV116 : rgd bX V116 := hMV17.put hV116 (i_full _)
            have agV116 : agr [] [75, 76] V V116 := agV17.up hV116 rfl
            refine lv_iload hx hb dX5_nextCandidate_102 (lv_at hl 0 rfl) ?_
            have me118 : ME V V116 gf := (ME.up (ME.tr ME.rf xlp18_0) hV116 (Or.inl ⟨by decide, by decide, Nat.le_refl _⟩))
            have pq119 : (V116 67 gf).toInt = ((V 67 gf)).toInt := congrArg Int32.toInt ((up2_o hV116 (by decide)).trans (ajV17 67 gf rfl))
            have pq120 : (V116 68 gf).toInt = ((V 68 gf)).toInt := congrArg Int32.toInt ((up2_o hV116 (by decide)).trans (ajV17 68 gf rfl))
            have pq121 : (V116 70 gf).toInt = ((V 70 gf)).toInt := congrArg Int32.toInt ((up2_o hV116 (by decide)).trans (ajV17 70 gf rfl))
            have pq122 : (V116 71 gf).toInt = ((V 71 gf)).toInt := congrArg Int32.toInt ((up2_o hV116 (by decide)).trans (ajV17 71 gf rfl))
            have pq123 : (V116 75 gf).toInt = ((V17 75 gf)).toInt := congrArg Int32.toInt (up2_o hV116 (by decide))
            have pq124 : (V116 76 gf).toInt = z115.toInt := congrArg Int32.toInt (up2_s hV116)
            have pq125 : (V116 80 gf).toInt = ((V 80 gf)).toInt := congrArg Int32.toInt ((up2_o hV116 (by decide)).trans (ajV17 80 gf rfl))
            have pq126 : (V116 84 gf).toInt = ((V 84 gf)).toInt := congrArg Int32.toInt ((up2_o hV116 (by decide)).trans (ajV17 84 gf rfl))
            have pq127 : (V116 5 6).toInt = ((V 5 6)).toInt := congrArg Int32.toInt ((up2_o hV116 (by decide)).trans (ajV17 5 6 rfl))
            have pq128 : (V116 5 8).toInt = ((V 5 8)).toInt := congrArg Int32.toInt ((up2_o hV116 (by decide)).trans (ajV17 5 8 rfl))
            have pq129 : (V116 5 9).toInt = ((V 5 9)).toInt := congrArg Int32.toInt ((up2_o hV116 (by decide)).trans (ajV17 5 9 rfl))
            have pq130 : (V116 3 13).toInt = ((V 3 13)).toInt := congrArg Int32.toInt ((up2_o hV116 (by decide)).trans (ajV17 3 13 rfl))
            have pq131 : (V116 43 (5 * b + 2)).toInt = ((V 43 (5 * b + 2))).toInt := congrArg Int32.toInt ((up2_o hV116 (by decide)).trans (ajV17 43 (5 * b + 2) rfl))
            have pq132 : (V116 42 b).toInt = ((V 42 b)).toInt := congrArg Int32.toInt ((up2_o hV116 (by decide)).trans (ajV17 42 b rfl))
            have pq133 : (V116 41 b).toInt = ((V 41 b)).toInt := congrArg Int32.toInt ((up2_o hV116 (by decide)).trans (ajV17 41 b rfl))
            have mo134 : MO V116 Z b gf True True True := MO.ch mo me118 ((up2_o hV116 (by decide)).trans (ajV17 67 gf rfl)) ((up2_o hV116 (by decide)).trans (ajV17 80 gf rfl)) (fun _ => Or.inl (by omega)) (fun x h => FK.nx h (by omega) (by omega) (by omega) (by omega) (by omega) (by omega) (by omega) (by omega) (fun _ => ⟨by omega, by omega⟩))
            have me135 : ME V V116 gf := (ME.up (ME.tr ME.rf xlp18_0) hV116 (Or.inl ⟨by decide, by decide, Nat.le_refl _⟩))
            have mo136 : MO V116 Z b gf False False False := MO.ch mo me135 ((up2_o hV116 (by decide)).trans (ajV17 67 gf rfl)) ((up2_o hV116 (by decide)).trans (ajV17 80 gf rfl)) (fun _ => Or.inl (by omega)) (fun x h => FK.nx h (by omega) (by omega) (by omega) (by omega) (by omega) (by omega) (by omega) (by omega) (fun z => z.elim))
            have me137 : ME V V116 gf := (ME.up (ME.tr ME.rf xlp18_0) hV116 (Or.inl ⟨by decide, by decide, Nat.le_refl _⟩))
            exact W.iret (v := z114) hx hb hr (fun t ht hW => ⟨⟨z114, (V116, L), rfl, ⟨hMV116, agV116, rfl, (show (-1) ≤ z114.toInt ∧ z114.toInt ≤ 23 from by first | omega | ((try (have i_bc := Imp.go bc (by omega))); (try (have i_mo := Imp.go mo (by omega))); (try (have i_mo := Imp.go mo (by omega))); (try (have i_bc := Imp.go bc (by omega))); omega)), (Imp.mk (fun _ => mo134)), mo136, (Or.inr ⟨by omega, (by rw [show (V116 75 gf).toInt.toNat = (V17 75 gf).toInt.toNat from by omega, show z114.toInt.toNat = d9 from by omega]; exact xlp18_4.trans (nxC_c bn9 (by (first | exact om_7e4bf5516ec4 r19.1 r20.2 f39 | omega)) fd9)), (show (V116 76 gf).toInt = z114.toInt + 1 from by (first | exact om_689eeacb6d53 hz115 pq124 | omega))⟩), me137⟩, by rw [ht]; exact hP, va_K.moved hW.alike hK, hD⟩, hS.F ht⟩) hS.2.2 dX5_nextCandidate_104
  have me138 : ME V V gf := ME.rf
  exact lp18 ((8 - (V 75 gf).toInt + 1 : Int).toNat) V H locs ls me138 (show (V 75 gf).toInt ≤ (V 75 gf).toInt ∧ (V 75 gf).toInt ≤ 8 from by first | omega | ((try (have i_bc := Imp.go bc (by omega))); (try (have i_mo := Imp.go mo (by omega))); (try (have i_mo := Imp.go mo (by omega))); (try (have i_bc := Imp.go bc (by omega))); omega)) (show 0 ≤ (V 76 gf).toInt ∧ (V 76 gf).toInt ≤ 25 from by first | omega | ((try (have i_bc := Imp.go bc (by omega))); (try (have i_mo := Imp.go mo (by omega))); (try (have i_mo := Imp.go mo (by omega))); (try (have i_bc := Imp.go bc (by omega))); omega)) (show 25 * (8 - (V 75 gf).toInt) - (V 76 gf).toInt ≤ 25 * (8 - (V 75 gf).toInt) - (V 76 gf).toInt from by first | exact om_1d32fe7c388b | first | omega | ((try (have i_bc := Imp.go bc (by omega))); (try (have i_mo := Imp.go mo (by omega))); (try (have i_mo := Imp.go mo (by omega))); (try (have i_bc := Imp.go bc (by omega))); omega)) rfl (by first | exact om_a4cbf953e09c | first | omega | ((try (have i_bc := Imp.go bc (by omega))); (try (have i_mo := Imp.go mo (by omega))); (try (have i_mo := Imp.go mo (by omega))); (try (have i_bc := Imp.go bc (by omega))); omega)) agr.rf hMV hP hD hS (lv_sub hl [0, 1, 2] rfl)
abbrev r_x_join9 (Z : XZ) : Room := { frames := 2, cells := zcc Z, slots := zss Z, locals := 62 }
abbrev q_x_join9 (D : va_G) (ks : KS) (ad : Nat → Nat) (kk : Nat → ClassId) (V : Vf) (L : Lf) (Z : XZ) (p0 : Int32) (p1 : Int32) (p2 : Int32) (gow : Nat → Nat) (gl : List Int) (A : Nat → Prop) : Array Value → State → Outcome → State → Prop := qZv D (fun (u : Vf × Lf × XZ) => rgd bX u.1 ∧ agr [(3, 15)] [30, 31, 32] V u.1 ∧ u.2.1 = L ∧ ZL Z u.2.2 ∧ (JN V u.1 Z u.2.2 (8 * Int32.toNatClampNeg p0 + Int32.toNatClampNeg p1)) ∧ (JN9 V u.1 (8 * Int32.toNatClampNeg p0 + Int32.toNatClampNeg p1) (Int32.toNatClampNeg (V 3 15)) p2.toInt gl)) (fun u => xw ad kk u.1 u.2.1 u.2.2) (fun u => xty kk u.2.2) (fun u => zcc Z - zcc u.2.2) (fun u => zss Z - zss u.2.2) A
set_option maxHeartbeats 4000000 in
set_option maxRecDepth 100000 in
theorem x_join9 (l : Launch) (D : va_G) (ks : KS) (sz : Nat) (ad : Nat → Nat) (kk : Nat → ClassId) (V : Vf) (L : Lf) (Z : XZ) (p0 : Int32) (p1 : Int32) (p2 : Int32) (gow : Nat → Nat) (gl : List Int) (hMV : rgd bX V) (rg_p0 : 0 ≤ p0.toInt ∧ p0.toInt ≤ 299) (rg_p1 : 0 ≤ p1.toInt ∧ p1.toInt ≤ 7) (sl : SL V Z) (lnq : LN Z.ln) (hlc : (V 3 15).toInt ≤ 250000) (hob : p0.toInt < (V 3 13).toInt) (chn : CHN V gow (8 * Int32.toNatClampNeg p0 + Int32.toNatClampNeg p1) gl (V 30 (8 * Int32.toNatClampNeg p0 + Int32.toNatClampNeg p1)).toInt) (gll : ((gl.length : Nat) : Int) ≤ 23)  : Met l yX8_join (Cond.code yX8_join cX8_join 6 none :: GW) (r_x_join9 Z) (va_Pc [.ref (ad 3), .int p0, .int p1, .int p2] (gp D ks (xw ad kk V L Z) (xty kk Z) sz)) (q_x_join9 D ks ad kk V L Z p0 p1 p2 gow gl (va_A (xw ad kk V L Z) sz)) (zcc Z) (zss Z) (va_A (xw ad kk V L Z) sz) := by
  refine g_met (q_x_join9 D ks ad kk V L Z p0 p1 p2 gow gl) (by decide) (Nat.le_of_ble_eq_true rfl) ?_
  intro p e s m below meth c A ls H locs hx hb hr hml hown hg hlocks hin hnw hgk hP hK hD hS hA hl
  replace hown : s.vm.findClass RX8 = some m.cls := hown
  replace hl : lv_has ls 6 [(0, .ref (ad 3)), (1, .int p0), (2, .int p1), (3, .int p2)] := hl
  replace hP : va_P D vwCl (xw ad kk V L Z) H := hP
  replace hD : va_D A (xw ad kk V L Z) := hD
  replace hK : va_K D vwCl (xty kk Z) s := hK
  have agV : agr [(3, 15)] [30, 31, 32] V V := agr.rf
  have zoZ : ZL Z Z := ZL.rf
  refine W.know (fun ka kb => ?_)
  refine W.tight (k := zcc Z - zcc Z) (n := zss Z - zss Z) (by omega) (by omega) ?_
  have r1 : 0 ≤ ((V 3 15)).toInt ∧ ((V 3 15)).toInt ≤ 262144 := hMV 3 15
  have r2 : 0 ≤ ((V 3 13)).toInt ∧ ((V 3 13)).toInt ≤ 300 := hMV 3 13
  have hll := sl.2.1
  refine lv_aload_n hx hb dX8_join_0 rfl (lv_at hl 0 rfl) ?_
  refine va_get (D := D) (ci := 8) (v := .int (V 3 15)) (fs := (xfStock ad V L Z)) (C := RX8) (T := TX8) (N := 16) hx hb hg inX8 hown hK hP 3 xgStock rfl 15 (by decide) (hg _ w394) (fun _ h9 => h9) rfl dX8_join_1 ?_
  refine lv_aload_n hx hb dX8_join_4 rfl (lv_at hl 0 rfl) ?_
  refine va_get (D := D) (ci := 8) (v := .ref Z.l1) (fs := (xfStock ad V L Z)) (C := RX8) (T := TX8) (N := 16) hx hb hg inX8 hown hK hP 3 xgStock rfl 10 (by decide) (hg _ w388) (fun _ h9 => h9) rfl dX8_join_5 ?_
  refine va_alen (D := D) (v := nI (Z.ln)) hx hb hK hP 28 21 rfl rfl rfl dX8_join_8 ?_
  refine lv_topi (fun z4 ez4 => ?_)
  have r5 : z4.toInt = ((Z.ln : Nat) : Int) := by rw [ez4]; exact nI_toInt (by omega)
  refine lv_icmp_lt (tgt := 46) hx hb dX8_join_9 (by decide) (fun c6 => ?_) (fun c6 => ?_)
  · skip
    have f7 : ((V 3 15)).toInt < z4.toInt := b_lt rfl rfl c6
    have slx := sl
    have lnx := lnq
    have hltz : (V 3 15).toInt < (Z.ln : Int) := by (first | exact om_74393bacf057 r5 f7 | omega)
    have kl := i_clamp (x := V 3 15) rfl (by (first | exact om_eafa9039069c r1.1 | omega))
    have kp0 := i_clamp (x := p0) rfl (by (first | exact om_eafa9039069c rg_p0.1 | omega))
    have kp1 := i_clamp (x := p1) rfl (by (first | exact om_eafa9039069c rg_p1.1 | omega))
    have hch := slx.2.2.1 (Int32.toNatClampNeg p0) (Int32.toNatClampNeg p1) (by omega) (by omega)
    have gg9 := rf_g (V := V) (n := (Int32.toNatClampNeg (V 3 15)))
    have kn9 := i_clamp (x := V 3 15) rfl (by (first | exact om_eafa9039069c r1.1 | omega))
    refine lv_aload_n hx hb dX8_join_46 rfl (lv_at hl 0 rfl) ?_
    refine va_get (D := D) (ci := 8) (v := .ref Z.l1) (fs := (xfStock ad V L Z)) (C := RX8) (T := TX8) (N := 16) hx hb hg inX8 hown hK hP 3 xgStock rfl 10 (by decide) (hg _ w388) (fun _ h9 => h9) rfl dX8_join_47 ?_
    refine lv_aload_n hx hb dX8_join_50 rfl (lv_at hl 0 rfl) ?_
    refine va_get (D := D) (ci := 8) (v := .int (V 3 15)) (fs := (xfStock ad V L Z)) (C := RX8) (T := TX8) (N := 16) hx hb hg inX8 hown hK hP 3 xgStock rfl 15 (by decide) (hg _ w394) (fun _ h9 => h9) rfl dX8_join_51 ?_
    refine lv_iload_n hx hb dX8_join_54 rfl (lv_at hl 3 rfl) ?_
    refine va_iast (D := D) (i := (V 3 15)) (x := p2) hx hb hK hP hD hS 28 21 rfl rfl (i_in (a := ((V 3 15)).toInt) rfl (by omega)) dX8_join_55 (fun H locs hP hD hS => ?_)
    obtain ⟨V8, hV8⟩ : ∃ z, z = up2 V 31 (Int32.toNatClampNeg (V 3 15)) p2 := ⟨_, rfl⟩
    have ew9 : (xw ad kk V L Z).set 28 (Z.l1, .inl (Z.k1, Z.ln, .inl (upd (V 31) (Int32.toNatClampNeg (V 3 15)) p2))) = xw ad kk V8 L Z := by rw [hV8]; exact xw_ss (by decide) rfl (xb_si (by decide))
    have hP : va_P D vwCl (xw ad kk V8 L Z) H := by rw [← ew9]; exact hP
    have hD : va_D A (xw ad kk V8 L Z) := by rw [← ew9]; exact hD
    have hMV8 : rgd bX V8 := hMV.put hV8 (i_full _)
    have agV8 : agr [(3, 15)] [30, 31, 32] V V8 := agV.up hV8 rfl
    refine lv_aload_n hx hb dX8_join_56 rfl (lv_at hl 0 rfl) ?_
    refine va_get (D := D) (ci := 8) (v := .ref Z.l2) (fs := (xfStock ad V8 L Z)) (C := RX8) (T := TX8) (N := 16) hx hb hg inX8 hown hK hP 3 xgStock rfl 11 (by decide) (hg _ w389) (fun _ h9 => h9) rfl dX8_join_57 ?_
    refine lv_aload_n hx hb dX8_join_60 rfl (lv_at hl 0 rfl) ?_
    refine va_get (D := D) (ci := 8) (v := .int (V8 3 15)) (fs := (xfStock ad V8 L Z)) (C := RX8) (T := TX8) (N := 16) hx hb hg inX8 hown hK hP 3 xgStock rfl 15 (by decide) (hg _ w394) (fun _ h9 => h9) rfl dX8_join_61 ?_
    refine g_top (v := (V 3 15)) (up2_o hV8 (by decide)) ?_
    refine lv_iconst (v := (-1)) hx hb dX8_join_64 (by decide) ?_
    refine va_iast (D := D) (i := (V 3 15)) (x := (-1)) hx hb hK hP hD hS 29 22 rfl rfl (i_in (a := ((V 3 15)).toInt) rfl (by omega)) dX8_join_65 (fun H locs hP hD hS => ?_)
    obtain ⟨V10, hV10⟩ : ∃ z, z = up2 V8 32 (Int32.toNatClampNeg (V 3 15)) (-1) := ⟨_, rfl⟩
    have ew11 : (xw ad kk V8 L Z).set 29 (Z.l2, .inl (Z.k2, Z.ln, .inl (upd (V8 32) (Int32.toNatClampNeg (V 3 15)) (-1)))) = xw ad kk V10 L Z := by rw [hV10]; exact xw_ss (by decide) rfl (xb_si (by decide))
    have hP : va_P D vwCl (xw ad kk V10 L Z) H := by rw [← ew11]; exact hP
    have hD : va_D A (xw ad kk V10 L Z) := by rw [← ew11]; exact hD
    have hMV10 : rgd bX V10 := hMV8.put hV10 (show (-1) ≤ Int32.toInt (-1) ∧ Int32.toInt (-1) ≤ 262143 from by decide)
    have agV10 : agr [(3, 15)] [30, 31, 32] V V10 := agV8.up hV10 rfl
    refine lv_aload_n hx hb dX8_join_66 rfl (lv_at hl 0 rfl) ?_
    refine va_get (D := D) (ci := 8) (v := .ref (ad 27)) (fs := (xfStock ad V10 L Z)) (C := RX8) (T := TX8) (N := 16) hx hb hg inX8 hown hK hP 3 xgStock rfl 9 (by decide) (hg _ w387) (fun _ h9 => h9) rfl dX8_join_67 ?_
    refine lv_iload_n hx hb dX8_join_70 rfl (lv_at hl 1 rfl) ?_
    refine lv_bipush (v := 8) hx hb dX8_join_71 (by decide) ?_
    refine lv_imul hx hb dX8_join_73 ?_
    refine lv_topi (fun z12 ez12 => ?_)
    have hz12 : z12.toInt = p0.toInt * 8 := i_mul ez12 rfl (by decide) (by (first | exact om_d8eca449dd89 rg_p0.1 rg_p0.2 | omega))
    refine lv_iload_n hx hb dX8_join_74 rfl (lv_at hl 2 rfl) ?_
    refine lv_iadd hx hb dX8_join_75 ?_
    refine lv_topi (fun z13 ez13 => ?_)
    have hz13 : z13.toInt = z12.toInt + p1.toInt := i_add ez13 rfl rfl (by (first | exact om_582758b7b1c9 rg_p0.1 rg_p0.2 rg_p1.1 rg_p1.2 hz12 | omega))
    refine va_iald (D := D) (i := z13) hx hb hK hP 27 20 rfl rfl (i_in (a := z13.toInt) rfl (by (first | exact om_1416c74478ee rg_p0.1 rg_p0.2 rg_p1.1 rg_p1.2 hz12 hz13 | omega))) dX8_join_76 ?_
    refine g_top (v := (V 30 (Int32.toNatClampNeg z13))) ((up2_o hV10 (by decide)).trans (up2_o hV8 (by decide))) ?_
    have r14 : (-1) ≤ ((V 30 (Int32.toNatClampNeg z13))).toInt ∧ ((V 30 (Int32.toNatClampNeg z13))).toInt ≤ 262143 := hMV 30 (Int32.toNatClampNeg z13)
    refine lv_istore (lv' := [(4, .int (V 30 (Int32.toNatClampNeg z13))), (0, .ref (ad 3)), (1, .int p0), (2, .int p1), (3, .int p2)]) hx hb dX8_join_77 hl (by decide) rfl (fun ls hl => ?_)
    have kzz := i_clamp (x := z13) rfl (by (first | exact om_75abbf7b0b1b rg_p0.1 rg_p1.1 hz12 hz13 | omega))
    have hpl : Int32.toNatClampNeg z13 = 8 * Int32.toNatClampNeg p0 + Int32.toNatClampNeg p1 := by (first | exact om_19f77980e03c kp0 kp1 hz12 hz13 kzz | omega)
    have hch2 := hch
    rw [← hpl] at hch2
    refine lv_iload hx hb dX8_join_79 (lv_at hl 0 rfl) ?_
    refine lv_iconst (v := (-1)) hx hb dX8_join_81 (by decide) ?_
    refine lv_icmp_ne (tgt := 103) hx hb dX8_join_82 (by decide) (fun c15 => ?_) (fun c15 => ?_)
    · skip
      have f16 : ((V 30 (Int32.toNatClampNeg z13))).toInt ≠ (-1) := b_neq rfl (by decide) c15
      refine lv_iconst (v := 0) hx hb dX8_join_103 (by decide) ?_
      refine lv_istore (lv' := [(5, .int 0), (4, .int (V 30 (Int32.toNatClampNeg z13))), (0, .ref (ad 3)), (1, .int p0), (2, .int p1), (3, .int p2)]) hx hb dX8_join_104 hl (by decide) rfl (fun ls hl => ?_)
      have lp19 : ∀ (fulp19 : Nat) (y17 : Int32) (y18 : Int32) (H : Heap) (locs : List Loc) (ls : Array Slot), 0 ≤ y17.toInt ∧ y17.toInt ≤ 24 → 0 ≤ y18.toInt ∧ y18.toInt ≤ 262143 → y18.toInt < (V 3 15).toInt → (∃ l2 : List Int, l2 ≠ [] ∧ CHN V gow (8 * Int32.toNatClampNeg p0 + Int32.toNatClampNeg p1) l2 y18.toInt ∧ lstK V gl (V 30 (8 * Int32.toNatClampNeg p0 + Int32.toNatClampNeg p1)).toInt = lstK V l2 y18.toInt ∧ ((l2.length : Nat) : Int) + y17.toInt ≤ 23) → 24 - y17.toInt < (fulp19 : Int) → va_P D vwCl (xw ad kk V10 L Z) H → va_D A (xw ad kk V10 L Z) → va_S A s.heap H locs → lv_has ls 6 [(5, .int y17), (4, .int y18), (0, .ref (ad 3)), (1, .int p0), (2, .int p1), (3, .int p2)] → W p l e (r_x_join9 Z) s m ([.ref (ad 3), .int p0, .int p1, .int p2] : List Value).toArray below meth c H locs (zcc Z - zcc Z) (zss Z - zss Z) (MQ below (q_x_join9 D ks ad kk V L Z p0 p1 p2 gow gl A) ([.ref (ad 3), .int p0, .int p1, .int p2] : List Value).toArray s (zcc Z) (zss Z) A) (F0 m 106 ls []) := by
        intro fulp19
        induction fulp19 with
        | zero =>
          intro y17 y18 H locs ls klp19_0 klp19_1 xlp19_0 xlp19_1 hn  hP hD hS hl
          exfalso; (first | exact om_60d665989fb6 xlp19_1.2.2.2 hn | omega)
        | succ fulp19 ihlp19 =>
          intro y17 y18 H locs ls klp19_0 klp19_1 xlp19_0 xlp19_1 hn  hP hD hS hl
          refine lv_iload hx hb dX8_join_106 (lv_at hl 0 rfl) ?_
          refine lv_bipush (v := 24) hx hb dX8_join_108 (by decide) ?_
          refine lv_icmp_ge (tgt := 139) hx hb dX8_join_110 (by decide) (fun c20 => ?_) (fun c20 => ?_)
          · skip
            have f21 : 24 ≤ y17.toInt := b_le (by decide) rfl c20
            refine lv_aload_n hx hb dX8_join_139 rfl (lv_at hl 2 rfl) ?_
            refine va_get (D := D) (ci := 8) (v := .ref Z.l2) (fs := (xfStock ad V10 L Z)) (C := RX8) (T := TX8) (N := 16) hx hb hg inX8 hown hK hP 3 xgStock rfl 11 (by decide) (hg _ w389) (fun _ h9 => h9) rfl dX8_join_140 ?_
            refine lv_iload hx hb dX8_join_143 (lv_at hl 1 rfl) ?_
            refine lv_aload_n hx hb dX8_join_145 rfl (lv_at hl 2 rfl) ?_
            refine va_get (D := D) (ci := 8) (v := .int (V10 3 15)) (fs := (xfStock ad V10 L Z)) (C := RX8) (T := TX8) (N := 16) hx hb hg inX8 hown hK hP 3 xgStock rfl 15 (by decide) (hg _ w394) (fun _ h9 => h9) rfl dX8_join_146 ?_
            refine g_top (v := (V 3 15)) ((up2_o hV10 (by decide)).trans (up2_o hV8 (by decide))) ?_
            refine va_iast (D := D) (i := y18) (x := (V 3 15)) hx hb hK hP hD hS 29 22 rfl rfl (i_in (a := y18.toInt) rfl (by omega)) dX8_join_149 (fun H locs hP hD hS => ?_)
            obtain ⟨V22, hV22⟩ : ∃ z, z = up2 V10 32 (Int32.toNatClampNeg y18) (V 3 15) := ⟨_, rfl⟩
            have ew23 : (xw ad kk V10 L Z).set 29 (Z.l2, .inl (Z.k2, Z.ln, .inl (upd (V10 32) (Int32.toNatClampNeg y18) (V 3 15)))) = xw ad kk V22 L Z := by rw [hV22]; exact xw_ss (by decide) rfl (xb_si (by decide))
            have hP : va_P D vwCl (xw ad kk V22 L Z) H := by rw [← ew23]; exact hP
            have hD : va_D A (xw ad kk V22 L Z) := by rw [← ew23]; exact hD
            have hMV22 : rgd bX V22 := hMV10.put hV22 (show (-1) ≤ ((V 3 15)).toInt ∧ ((V 3 15)).toInt ≤ 262143 from by omega)
            have agV22 : agr [(3, 15)] [30, 31, 32] V V22 := agV10.up hV22 rfl
            refine lv_aload_n hx hb dX8_join_150 rfl (lv_at hl 2 rfl) ?_
            refine lv_dup hx hb dX8_join_151 rfl ?_
            refine va_get (D := D) (ci := 8) (v := .int (V22 3 15)) (fs := (xfStock ad V22 L Z)) (C := RX8) (T := TX8) (N := 16) hx hb hg inX8 hown hK hP 3 xgStock rfl 15 (by decide) (hg _ w394) (fun _ h9 => h9) rfl dX8_join_152 ?_
            refine g_top (v := (V 3 15)) ((up2_o hV22 (by decide)).trans ((up2_o hV10 (by decide)).trans (up2_o hV8 (by decide)))) ?_
            refine lv_iconst (v := 1) hx hb dX8_join_155 (by decide) ?_
            refine lv_iadd hx hb dX8_join_156 ?_
            refine lv_topi (fun z24 ez24 => ?_)
            have hz24 : z24.toInt = ((V 3 15)).toInt + 1 := i_add ez24 rfl (by decide) (by omega)
            refine va_put (D := D) (ci := 8) (v := .int z24) (ty := tyX8 15) (fs := (xfStock ad V22 L Z)) (C := RX8) (T := TX8) (N := 16) hx hb hg inX8 tyX8 tyX8_ok nmX8 hown hK hP hD hS 3 xgStock rfl 15 (by decide) (hg _ w394) (fun _ h9 => h9) rfl (tyX8_ok 15 (by decide)) rfl rfl (Nat.le_of_ble_eq_true rfl) dX8_join_157 (fun H locs hP hD hS => ?_)
            obtain ⟨V25, hV25⟩ : ∃ z, z = up2 V22 3 15 z24 := ⟨_, rfl⟩
            have ew26 : (xw ad kk V22 L Z).set 3 ((ad 3), .inr (8, (xfStock ad V22 L Z).set 15 (.int z24))) = xw ad kk V25 L Z := by rw [hV25]; exact xw_ss (by decide) rfl (xb_si (by decide))
            have hP : va_P D vwCl (xw ad kk V25 L Z) H := by rw [← ew26]; exact hP
            have hD : va_D A (xw ad kk V25 L Z) := by rw [← ew26]; exact hD
            have hMV25 : rgd bX V25 := hMV22.put hV25 (show 0 ≤ z24.toInt ∧ z24.toInt ≤ 262144 from by omega)
            have agV25 : agr [(3, 15)] [30, 31, 32] V V25 := agV22.up hV25 rfl
            have pq27 : (V25 3 15).toInt = z24.toInt := congrArg Int32.toInt (up2_s hV25)
            have kq28 := i_clamp (x := y18) rfl (by omega)
            have jn29 : JN V V25 Z Z (8 * Int32.toNatClampNeg p0 + Int32.toNatClampNeg p1) := JN.mk (l := Int32.toNatClampNeg (V 3 15)) slx lnx (by omega) (by omega) hV8 hV10 hV22 (by omega) hV25 (by omega) (Or.inr ⟨rfl, by omega, by rw [← hpl]; omega⟩)
            have el9 : lstK V gl (V 30 (8 * Int32.toNatClampNeg p0 + Int32.toNatClampNeg p1)).toInt = ((Int32.toNatClampNeg y18 : Nat) : Int) := by obtain ⟨l2, h1, h2, h3, h4⟩ := xlp19_1; exfalso; have h5 : l2.length ≠ 0 := fun h9 => h1 (List.length_eq_zero_iff.mp h9); omega
            refine W.know (fun kr1 kr2 => ?_)
            refine W.widen (k := zcc Z) (n := zss Z) (Nat.sub_le _ _) (Nat.sub_le _ _) ?_
            exact W.vret hx hb hr (fun t ht hW => ⟨⟨(V25, L, Z), rfl, ⟨hMV25, agV25, rfl, zoZ, jn29, (by have h9 := JN9.old (q := (8 * Int32.toNatClampNeg p0 + Int32.toNatClampNeg p1)) (l := gl) (v := p2.toInt) gg9.1 gg9.2 hV8 hV10 hV22 hV25 rfl (by omega) (by omega) (by rw [← hpl]; omega) el9 (by omega); exact h9)⟩, ⟨by rw [ht]; exact hP, va_K.moved hW.alike hK, hD⟩, by rw [ht]; exact kr1, by rw [ht]; exact kr2⟩, hS.F ht⟩) hS.2.2 dX8_join_160
          · skip
            have f30 : y17.toInt < 24 := b_nle (by decide) rfl c20
            have ky9 := i_clamp (x := y18) rfl (by (first | exact om_eafa9039069c klp19_1.1 | omega))
            have nx31 : V10 32 (Int32.toNatClampNeg y18) = V 32 y18.toInt.toNat := (up2_k hV10 (by omega)).trans ((up2_o hV8 (by decide)).trans (gg9.1 _ (by omega)).2)
            refine lv_aload_n hx hb dX8_join_113 rfl (lv_at hl 2 rfl) ?_
            refine va_get (D := D) (ci := 8) (v := .ref Z.l2) (fs := (xfStock ad V10 L Z)) (C := RX8) (T := TX8) (N := 16) hx hb hg inX8 hown hK hP 3 xgStock rfl 11 (by decide) (hg _ w389) (fun _ h9 => h9) rfl dX8_join_114 ?_
            refine lv_iload hx hb dX8_join_117 (lv_at hl 1 rfl) ?_
            refine va_iald (D := D) (i := y18) hx hb hK hP 29 22 rfl rfl (i_in (a := y18.toInt) rfl (by omega)) dX8_join_119 ?_
            have r32 : (-1) ≤ ((V10 32 (Int32.toNatClampNeg y18))).toInt ∧ ((V10 32 (Int32.toNatClampNeg y18))).toInt ≤ 262143 := hMV10 32 (Int32.toNatClampNeg y18)
            have kq33 := i_clamp (x := y18) rfl (by (first | exact om_eafa9039069c klp19_1.1 | omega))
            have hq34 : (V10 32 (Int32.toNatClampNeg y18)).toInt < (V 3 15).toInt := by have q := slx.2.2.2 (Int32.toNatClampNeg y18) (by omega); rw [up2_k hV10 (by omega), up2_o hV8 (by decide)]; omega
            refine lv_iconst (v := (-1)) hx hb dX8_join_120 (by decide) ?_
            refine lv_icmp_eq (tgt := 139) hx hb dX8_join_121 (by decide) (fun c35 => ?_) (fun c35 => ?_)
            · skip
              have f36 : ((V10 32 (Int32.toNatClampNeg y18))).toInt = (-1) := b_eq rfl (by decide) c35
              refine lv_aload_n hx hb dX8_join_139 rfl (lv_at hl 2 rfl) ?_
              refine va_get (D := D) (ci := 8) (v := .ref Z.l2) (fs := (xfStock ad V10 L Z)) (C := RX8) (T := TX8) (N := 16) hx hb hg inX8 hown hK hP 3 xgStock rfl 11 (by decide) (hg _ w389) (fun _ h9 => h9) rfl dX8_join_140 ?_
              refine lv_iload hx hb dX8_join_143 (lv_at hl 1 rfl) ?_
              refine lv_aload_n hx hb dX8_join_145 rfl (lv_at hl 2 rfl) ?_
              refine va_get (D := D) (ci := 8) (v := .int (V10 3 15)) (fs := (xfStock ad V10 L Z)) (C := RX8) (T := TX8) (N := 16) hx hb hg inX8 hown hK hP 3 xgStock rfl 15 (by decide) (hg _ w394) (fun _ h9 => h9) rfl dX8_join_146 ?_
              refine g_top (v := (V 3 15)) ((up2_o hV10 (by decide)).trans (up2_o hV8 (by decide))) ?_
              refine va_iast (D := D) (i := y18) (x := (V 3 15)) hx hb hK hP hD hS 29 22 rfl rfl (i_in (a := y18.toInt) rfl (by omega)) dX8_join_149 (fun H locs hP hD hS => ?_)
              obtain ⟨V37, hV37⟩ : ∃ z, z = up2 V10 32 (Int32.toNatClampNeg y18) (V 3 15) := ⟨_, rfl⟩
              have ew38 : (xw ad kk V10 L Z).set 29 (Z.l2, .inl (Z.k2, Z.ln, .inl (upd (V10 32) (Int32.toNatClampNeg y18) (V 3 15)))) = xw ad kk V37 L Z := by rw [hV37]; exact xw_ss (by decide) rfl (xb_si (by decide))
              have hP : va_P D vwCl (xw ad kk V37 L Z) H := by rw [← ew38]; exact hP
              have hD : va_D A (xw ad kk V37 L Z) := by rw [← ew38]; exact hD
              have hMV37 : rgd bX V37 := hMV10.put hV37 (show (-1) ≤ ((V 3 15)).toInt ∧ ((V 3 15)).toInt ≤ 262143 from by (first | exact om_ca8123c7c681 hlc klp19_1.1 xlp19_0 | omega))
              have agV37 : agr [(3, 15)] [30, 31, 32] V V37 := agV10.up hV37 rfl
              refine lv_aload_n hx hb dX8_join_150 rfl (lv_at hl 2 rfl) ?_
              refine lv_dup hx hb dX8_join_151 rfl ?_
              refine va_get (D := D) (ci := 8) (v := .int (V37 3 15)) (fs := (xfStock ad V37 L Z)) (C := RX8) (T := TX8) (N := 16) hx hb hg inX8 hown hK hP 3 xgStock rfl 15 (by decide) (hg _ w394) (fun _ h9 => h9) rfl dX8_join_152 ?_
              refine g_top (v := (V 3 15)) ((up2_o hV37 (by decide)).trans ((up2_o hV10 (by decide)).trans (up2_o hV8 (by decide)))) ?_
              refine lv_iconst (v := 1) hx hb dX8_join_155 (by decide) ?_
              refine lv_iadd hx hb dX8_join_156 ?_
              refine lv_topi (fun z39 ez39 => ?_)
              have hz39 : z39.toInt = ((V 3 15)).toInt + 1 := i_add ez39 rfl (by decide) (by (first | exact om_f92aeb5a09ea hlc klp19_1.1 xlp19_0 | omega))
              refine va_put (D := D) (ci := 8) (v := .int z39) (ty := tyX8 15) (fs := (xfStock ad V37 L Z)) (C := RX8) (T := TX8) (N := 16) hx hb hg inX8 tyX8 tyX8_ok nmX8 hown hK hP hD hS 3 xgStock rfl 15 (by decide) (hg _ w394) (fun _ h9 => h9) rfl (tyX8_ok 15 (by decide)) rfl rfl (Nat.le_of_ble_eq_true rfl) dX8_join_157 (fun H locs hP hD hS => ?_)
              obtain ⟨V40, hV40⟩ : ∃ z, z = up2 V37 3 15 z39 := ⟨_, rfl⟩
              have ew41 : (xw ad kk V37 L Z).set 3 ((ad 3), .inr (8, (xfStock ad V37 L Z).set 15 (.int z39))) = xw ad kk V40 L Z := by rw [hV40]; exact xw_ss (by decide) rfl (xb_si (by decide))
              have hP : va_P D vwCl (xw ad kk V40 L Z) H := by rw [← ew41]; exact hP
              have hD : va_D A (xw ad kk V40 L Z) := by rw [← ew41]; exact hD
              have hMV40 : rgd bX V40 := hMV37.put hV40 (show 0 ≤ z39.toInt ∧ z39.toInt ≤ 262144 from by (first | exact om_58c2777555e7 hlc klp19_1.1 xlp19_0 hz39 | omega))
              have agV40 : agr [(3, 15)] [30, 31, 32] V V40 := agV37.up hV40 rfl
              have pq42 : (V40 3 15).toInt = z39.toInt := congrArg Int32.toInt (up2_s hV40)
              have kq43 := i_clamp (x := y18) rfl (by (first | exact om_eafa9039069c klp19_1.1 | omega))
              have jn44 : JN V V40 Z Z (8 * Int32.toNatClampNeg p0 + Int32.toNatClampNeg p1) := JN.mk (l := Int32.toNatClampNeg (V 3 15)) slx lnx (by omega) (by omega) hV8 hV10 hV37 (by omega) hV40 (by omega) (Or.inr ⟨rfl, by omega, by rw [← hpl]; omega⟩)
              have el9 : lstK V gl (V 30 (8 * Int32.toNatClampNeg p0 + Int32.toNatClampNeg p1)).toInt = ((Int32.toNatClampNeg y18 : Nat) : Int) := by obtain ⟨l2, h1, h2, h3, h4⟩ := xlp19_1; rw [h3, CHN.ed h1 h2 (by rw [← nx31]; omega)]; omega
              refine W.know (fun kr1 kr2 => ?_)
              refine W.widen (k := zcc Z) (n := zss Z) (Nat.sub_le _ _) (Nat.sub_le _ _) ?_
              exact W.vret hx hb hr (fun t ht hW => ⟨⟨(V40, L, Z), rfl, ⟨hMV40, agV40, rfl, zoZ, jn44, (by have h9 := JN9.old (q := (8 * Int32.toNatClampNeg p0 + Int32.toNatClampNeg p1)) (l := gl) (v := p2.toInt) gg9.1 gg9.2 hV8 hV10 hV37 hV40 rfl (by omega) (by omega) (by rw [← hpl]; omega) el9 (by omega); exact h9)⟩, ⟨by rw [ht]; exact hP, va_K.moved hW.alike hK, hD⟩, by rw [ht]; exact kr1, by rw [ht]; exact kr2⟩, hS.F ht⟩) hS.2.2 dX8_join_160
            · skip
              have f45 : ((V10 32 (Int32.toNatClampNeg y18))).toInt ≠ (-1) := b_neq rfl (by decide) c35
              refine lv_aload_n hx hb dX8_join_124 rfl (lv_at hl 2 rfl) ?_
              refine va_get (D := D) (ci := 8) (v := .ref Z.l2) (fs := (xfStock ad V10 L Z)) (C := RX8) (T := TX8) (N := 16) hx hb hg inX8 hown hK hP 3 xgStock rfl 11 (by decide) (hg _ w389) (fun _ h9 => h9) rfl dX8_join_125 ?_
              refine lv_iload hx hb dX8_join_128 (lv_at hl 1 rfl) ?_
              refine va_iald (D := D) (i := y18) hx hb hK hP 29 22 rfl rfl (i_in (a := y18.toInt) rfl (by omega)) dX8_join_130 ?_
              have kq46 := i_clamp (x := y18) rfl (by (first | exact om_eafa9039069c klp19_1.1 | omega))
              have hq47 : (V10 32 (Int32.toNatClampNeg y18)).toInt < (V 3 15).toInt := by have q := slx.2.2.2 (Int32.toNatClampNeg y18) (by omega); rw [up2_k hV10 (by omega), up2_o hV8 (by decide)]; omega
              refine lv_istore (lv' := [(4, .int (V10 32 (Int32.toNatClampNeg y18))), (5, .int y17), (0, .ref (ad 3)), (1, .int p0), (2, .int p1), (3, .int p2)]) hx hb dX8_join_131 hl (by decide) rfl (fun ls hl => ?_)
              obtain ⟨z48, ez48⟩ : ∃ y : Int32, y = y17 + 1 := ⟨_, rfl⟩
              have hz48 : z48.toInt = y17.toInt + 1 := i_add ez48 rfl (by decide) (by (first | exact om_bc9106cf44c9 klp19_0.1 f30 | omega))
              refine lv_iinc (v := z48) (lv' := [(5, .int z48), (4, .int (V10 32 (Int32.toNatClampNeg y18))), (0, .ref (ad 3)), (1, .int p0), (2, .int p1), (3, .int p2)]) hx hb dX8_join_133 hl (k := 1) rfl (by rw [ez48]; rfl) (by decide) rfl (fun ls hl => ?_)
              refine lv_goto (tgt := 106) hx hb dX8_join_136 (by decide) ?_
              exact ihlp19 z48 (V10 32 (Int32.toNatClampNeg y18)) H locs ls (by (first | exact om_a5349b170263 klp19_0.1 f30 hz48 | omega)) (by (first | exact om_68f131c046bb hlc r32.1 hq34 f45 | omega)) (show ((V10 32 (Int32.toNatClampNeg y18))).toInt < (V 3 15).toInt from by (first | exact om_0e9116797efb hq34 | omega)) (by obtain ⟨l2, h1, h2, h3, h4⟩ := xlp19_1; obtain ⟨l3, g1, g2, g3, g4⟩ := CHN.nx h1 h2 (by rw [← nx31]; omega); exact ⟨l3, g1, (by rw [nx31]; exact g2), (by rw [nx31]; exact h3.trans g3), (by omega)⟩) (by (first | exact om_9592d9319ffa hn hz48 | omega)) hP hD hS (lv_sub hl [0, 1, 2, 3, 4, 5] rfl)
      have r49 : Int32.toInt 0 = 0 := by decide
      exact lp19 ((24 - (Int32.toInt 0) + 1 : Int).toNat) 0 (V 30 (Int32.toNatClampNeg z13)) H locs ls (by decide) (by (first | exact om_393feb9d3e2e r14.1 r14.2 f16 | omega)) (show ((V 30 (Int32.toNatClampNeg z13))).toInt < (V 3 15).toInt from by omega) ⟨gl, (fun h9 => by rw [h9] at chn; have h8 : (V 30 (8 * Int32.toNatClampNeg p0 + Int32.toNatClampNeg p1)).toInt = -1 := chn; rw [← hpl] at h8; omega), (by rw [hpl]; exact chn), (by rw [hpl]), (by have h8 : Int32.toInt 0 = 0 := (by decide); omega)⟩ (by (first | exact om_817980d3aa47 | omega)) hP hD hS (lv_sub hl [0, 1, 2, 3, 4, 5] rfl)
    · skip
      have f50 : ((V 30 (Int32.toNatClampNeg z13))).toInt = (-1) := b_eq rfl (by decide) c15
      refine lv_aload_n hx hb dX8_join_85 rfl (lv_at hl 1 rfl) ?_
      refine va_get (D := D) (ci := 8) (v := .ref (ad 27)) (fs := (xfStock ad V10 L Z)) (C := RX8) (T := TX8) (N := 16) hx hb hg inX8 hown hK hP 3 xgStock rfl 9 (by decide) (hg _ w387) (fun _ h9 => h9) rfl dX8_join_86 ?_
      refine lv_iload_n hx hb dX8_join_89 rfl (lv_at hl 2 rfl) ?_
      refine lv_bipush (v := 8) hx hb dX8_join_90 (by decide) ?_
      refine lv_imul hx hb dX8_join_92 ?_
      refine lv_topi (fun z51 ez51 => ?_)
      have hz51 : z51.toInt = p0.toInt * 8 := i_mul ez51 rfl (by decide) (by (first | exact om_d8eca449dd89 rg_p0.1 rg_p0.2 | omega))
      refine lv_iload_n hx hb dX8_join_93 rfl (lv_at hl 3 rfl) ?_
      refine lv_iadd hx hb dX8_join_94 ?_
      refine lv_topi (fun z52 ez52 => ?_)
      have hz52 : z52.toInt = z51.toInt + p1.toInt := i_add ez52 rfl rfl (by (first | exact om_582758b7b1c9 rg_p0.1 rg_p0.2 rg_p1.1 rg_p1.2 hz51 | omega))
      refine lv_aload_n hx hb dX8_join_95 rfl (lv_at hl 1 rfl) ?_
      refine va_get (D := D) (ci := 8) (v := .int (V10 3 15)) (fs := (xfStock ad V10 L Z)) (C := RX8) (T := TX8) (N := 16) hx hb hg inX8 hown hK hP 3 xgStock rfl 15 (by decide) (hg _ w394) (fun _ h9 => h9) rfl dX8_join_96 ?_
      refine g_top (v := (V 3 15)) ((up2_o hV10 (by decide)).trans (up2_o hV8 (by decide))) ?_
      refine va_iast (D := D) (i := z52) (x := (V 3 15)) hx hb hK hP hD hS 27 20 rfl rfl (i_in (a := z52.toInt) rfl (by (first | exact om_1416c74478ee rg_p0.1 rg_p0.2 rg_p1.1 rg_p1.2 hz51 hz52 | omega))) dX8_join_99 (fun H locs hP hD hS => ?_)
      obtain ⟨V53, hV53⟩ : ∃ z, z = up2 V10 30 (Int32.toNatClampNeg z52) (V 3 15) := ⟨_, rfl⟩
      have ew54 : (xw ad kk V10 L Z).set 27 ((ad 27), .inl ((kk 27), 2400, .inl (upd (V10 30) (Int32.toNatClampNeg z52) (V 3 15)))) = xw ad kk V53 L Z := by rw [hV53]; exact xw_ss (by decide) rfl (xb_si (by decide))
      have hP : va_P D vwCl (xw ad kk V53 L Z) H := by rw [← ew54]; exact hP
      have hD : va_D A (xw ad kk V53 L Z) := by rw [← ew54]; exact hD
      have hMV53 : rgd bX V53 := hMV10.put hV53 (show (-1) ≤ ((V 3 15)).toInt ∧ ((V 3 15)).toInt ≤ 262143 from by (first | exact om_d572aa9568fd hlc r1.1 | omega))
      have agV53 : agr [(3, 15)] [30, 31, 32] V V53 := agV10.up hV53 rfl
      refine lv_goto (tgt := 150) hx hb dX8_join_100 (by decide) ?_
      refine lv_aload_n hx hb dX8_join_150 rfl (lv_at hl 1 rfl) ?_
      refine lv_dup hx hb dX8_join_151 rfl ?_
      refine va_get (D := D) (ci := 8) (v := .int (V53 3 15)) (fs := (xfStock ad V53 L Z)) (C := RX8) (T := TX8) (N := 16) hx hb hg inX8 hown hK hP 3 xgStock rfl 15 (by decide) (hg _ w394) (fun _ h9 => h9) rfl dX8_join_152 ?_
      refine g_top (v := (V 3 15)) ((up2_o hV53 (by decide)).trans ((up2_o hV10 (by decide)).trans (up2_o hV8 (by decide)))) ?_
      refine lv_iconst (v := 1) hx hb dX8_join_155 (by decide) ?_
      refine lv_iadd hx hb dX8_join_156 ?_
      refine lv_topi (fun z55 ez55 => ?_)
      have hz55 : z55.toInt = ((V 3 15)).toInt + 1 := i_add ez55 rfl (by decide) (by (first | exact om_63516cd27ca0 hlc r1.1 | omega))
      refine va_put (D := D) (ci := 8) (v := .int z55) (ty := tyX8 15) (fs := (xfStock ad V53 L Z)) (C := RX8) (T := TX8) (N := 16) hx hb hg inX8 tyX8 tyX8_ok nmX8 hown hK hP hD hS 3 xgStock rfl 15 (by decide) (hg _ w394) (fun _ h9 => h9) rfl (tyX8_ok 15 (by decide)) rfl rfl (Nat.le_of_ble_eq_true rfl) dX8_join_157 (fun H locs hP hD hS => ?_)
      obtain ⟨V56, hV56⟩ : ∃ z, z = up2 V53 3 15 z55 := ⟨_, rfl⟩
      have ew57 : (xw ad kk V53 L Z).set 3 ((ad 3), .inr (8, (xfStock ad V53 L Z).set 15 (.int z55))) = xw ad kk V56 L Z := by rw [hV56]; exact xw_ss (by decide) rfl (xb_si (by decide))
      have hP : va_P D vwCl (xw ad kk V56 L Z) H := by rw [← ew57]; exact hP
      have hD : va_D A (xw ad kk V56 L Z) := by rw [← ew57]; exact hD
      have hMV56 : rgd bX V56 := hMV53.put hV56 (show 0 ≤ z55.toInt ∧ z55.toInt ≤ 262144 from by (first | exact om_cb7b7fc8349b hlc r1.1 hz55 | omega))
      have agV56 : agr [(3, 15)] [30, 31, 32] V V56 := agV53.up hV56 rfl
      have pq58 : (V56 3 15).toInt = z55.toInt := congrArg Int32.toInt (up2_s hV56)
      have kq59 := i_clamp (x := z52) rfl (by (first | exact om_75abbf7b0b1b rg_p0.1 rg_p1.1 hz51 hz52 | omega))
      have jn60 : JN V V56 Z Z (8 * Int32.toNatClampNeg p0 + Int32.toNatClampNeg p1) := JN.mk (l := Int32.toNatClampNeg (V 3 15)) slx lnx (by omega) (by omega) hV8 hV10 hV53 (by omega) hV56 (by omega) (Or.inl ⟨rfl, by omega⟩)
      have hp8 : (Int32.toNatClampNeg z52) = (8 * Int32.toNatClampNeg p0 + Int32.toNatClampNeg p1) := by have h9 := i_clamp (x := z52) rfl (by (first | exact om_75abbf7b0b1b rg_p0.1 rg_p1.1 hz51 hz52 | omega)); (first | exact om_50a84ca3fa82 hz12 hz13 kzz hpl hz51 hz52 kq59 | omega)
      refine W.know (fun kr1 kr2 => ?_)
      refine W.widen (k := zcc Z) (n := zss Z) (Nat.sub_le _ _) (Nat.sub_le _ _) ?_
      exact W.vret hx hb hr (fun t ht hW => ⟨⟨(V56, L, Z), rfl, ⟨hMV56, agV56, rfl, zoZ, jn60, (by have h9 := JN9.new (q := (8 * Int32.toNatClampNeg p0 + Int32.toNatClampNeg p1)) (l := gl) (v := p2.toInt) gg9.1 gg9.2 hV8 hV10 (by rw [← hp8]; exact hV53) hV56 rfl (by omega) (by omega) (by rw [← hpl]; omega); exact h9)⟩, ⟨by rw [ht]; exact hP, va_K.moved hW.alike hK, hD⟩, by rw [ht]; exact kr1, by rw [ht]; exact kr2⟩, hS.F ht⟩) hS.2.2 dX8_join_160
  · skip
    have f61 : z4.toInt ≤ ((V 3 15)).toInt := b_nlt rfl rfl c6
    refine lv_aload_n hx hb dX8_join_12 rfl (lv_at hl 0 rfl) ?_
    refine lv_aload_n hx hb dX8_join_13 rfl (lv_at hl 0 rfl) ?_
    refine va_get (D := D) (ci := 8) (v := .ref Z.l1) (fs := (xfStock ad V L Z)) (C := RX8) (T := TX8) (N := 16) hx hb hg inX8 hown hK hP 3 xgStock rfl 10 (by decide) (hg _ w388) (fun _ h9 => h9) rfl dX8_join_14 ?_
    refine lv_aload_n hx hb dX8_join_17 rfl (lv_at hl 0 rfl) ?_
    refine va_get (D := D) (ci := 8) (v := .int (V 3 15)) (fs := (xfStock ad V L Z)) (C := RX8) (T := TX8) (N := 16) hx hb hg inX8 hown hK hP 3 xgStock rfl 15 (by decide) (hg _ w394) (fun _ h9 => h9) rfl dX8_join_18 ?_
    refine lv_iconst (v := 2) hx hb dX8_join_21 (by decide) ?_
    refine lv_imul hx hb dX8_join_22 ?_
    refine lv_topi (fun z62 ez62 => ?_)
    have hz62 : z62.toInt = ((V 3 15)).toInt * 2 := i_mul ez62 rfl (by decide) (by (first | exact om_58a7a3048726 hlc r1.1 | omega))
    have hlnl : (V 3 15).toInt = (Z.ln : Int) := by have := sl.1; omega
    have hg0 := zc_grow (Z := Z) (q1 := 0) (q2 := 0) (c1 := Z.k1) (c2 := Z.k2) lnq (by omega)
    refine gZ_ref (gA_runS (As := [.ref Z.l1, .int z62]) (rest := [.ref (ad 3)]) hx hb hml hown hg hP hD hK hS hA hnw hgk (c_copyOf l D ks H.size (xw ad kk V L Z) (xty kk Z) 28 21 Z.l1 Z.k1 Z.ln (2 * Z.ln) (V 31) z62 rfl rfl (by (first | exact om_7ceae82653b4 hz62 hlnl | omega)) (by (first | exact om_74037c5033f3 hg0.2.2.2.1 | omega)) (by (first | exact om_5b649b25cd44 hg0.2.2.2.2 | omega))) w1356 w1357 w165 w1358 hdS_yJ7_copyOf_59c91 ⟨Nat.le_of_ble_eq_true rfl, Nat.le_of_ble_eq_true rfl⟩ rfl hl.1 rfl (Nat.le_of_ble_eq_true rfl) dX8_join_23 ⟨(by show zcc Z - zcc Z + 1 ≤ zcc Z; omega), (by show zss Z - zss Z + 2 * Z.ln ≤ zss Z; omega)⟩) hD hS hA (fun u1 H locs _ hP hD hK hS _ _ => ?_)
    obtain ⟨q1, c1⟩ := u1
    replace hP : va_P D vwCl (xw ad kk V L Z ++ [((q1, .inl (c1, 2 * Z.ln, .inl (va_cpy (V 31) (fun _ => 0) 0 0 Z.ln))) : Nat × va_E)]) H := hP
    replace hD : va_D A (xw ad kk V L Z ++ [((q1, .inl (c1, 2 * Z.ln, .inl (va_cpy (V 31) (fun _ => 0) 0 0 Z.ln))) : Nat × va_E)]) := hD
    replace hK : va_K D vwCl (xty kk Z ++ [(c1, .int)]) s := hK
    refine va_put (D := D) (ci := 8) (v := .ref q1) (ty := tyX8 10) (fs := (xfStock ad V L Z)) (C := RX8) (T := TX8) (N := 16) hx hb hg inX8 tyX8 tyX8_ok nmX8 hown hK hP hD hS 3 rfl rfl 10 (by decide) (hg _ w388) (fun _ h9 => h9) rfl (tyX8_ok 10 (by decide)) rfl rfl (Nat.le_of_ble_eq_true rfl) dX8_join_26 (fun H locs hP hD hS => ?_)
    replace hP : va_P D vwCl ((xw ad kk V L Z ++ [((q1, .inl (c1, 2 * Z.ln, .inl (va_cpy (V 31) (fun _ => 0) 0 0 Z.ln))) : Nat × va_E)]).set 3 ((ad 3, .inr (8, (xfStock ad V L Z).set 10 (.ref q1))) : Nat × va_E)) H := hP
    replace hD : va_D A ((xw ad kk V L Z ++ [((q1, .inl (c1, 2 * Z.ln, .inl (va_cpy (V 31) (fun _ => 0) 0 0 Z.ln))) : Nat × va_E)]).set 3 ((ad 3, .inr (8, (xfStock ad V L Z).set 10 (.ref q1))) : Nat × va_E)) := hD
    refine lv_aload_n hx hb dX8_join_29 rfl (lv_at hl 0 rfl) ?_
    refine lv_aload_n hx hb dX8_join_30 rfl (lv_at hl 0 rfl) ?_
    refine va_get (D := D) (ci := 8) (v := .ref Z.l2) (fs := ((xfStock ad V L Z).set 10 (.ref q1))) (C := RX8) (T := TX8) (N := 16) hx hb hg inX8 hown hK hP 3 rfl rfl 11 (by decide) (hg _ w389) (fun _ h9 => h9) rfl dX8_join_31 ?_
    refine lv_aload_n hx hb dX8_join_34 rfl (lv_at hl 0 rfl) ?_
    refine va_get (D := D) (ci := 8) (v := .int (V 3 15)) (fs := ((xfStock ad V L Z).set 10 (.ref q1))) (C := RX8) (T := TX8) (N := 16) hx hb hg inX8 hown hK hP 3 rfl rfl 15 (by decide) (hg _ w394) (fun _ h9 => h9) rfl dX8_join_35 ?_
    refine lv_iconst (v := 2) hx hb dX8_join_38 (by decide) ?_
    refine lv_imul hx hb dX8_join_39 ?_
    refine lv_topi (fun zj ezj => ?_)
    have hzj : zj.toInt = (V 3 15).toInt * 2 := i_mul ezj rfl (by decide) (by (first | exact om_58a7a3048726 hlc r1.1 | omega))
    refine gZ_ref (gA_runS (As := [.ref Z.l2, .int zj]) (rest := [.ref (ad 3)]) hx hb hml hown hg hP hD hK hS hA hnw hgk (c_copyOf l D ks H.size ((xw ad kk V L Z ++ [((q1, .inl (c1, 2 * Z.ln, .inl (va_cpy (V 31) (fun _ => 0) 0 0 Z.ln))) : Nat × va_E)]).set 3 ((ad 3, .inr (8, (xfStock ad V L Z).set 10 (.ref q1))) : Nat × va_E)) (xty kk Z ++ [(c1, .int)]) 29 22 Z.l2 Z.k2 Z.ln (2 * Z.ln) (V 32) zj rfl rfl (by (first | exact om_58b2497b5a91 hlnl hzj | omega)) (by (first | exact om_74037c5033f3 hg0.2.2.2.1 | omega)) (by (first | exact om_5b649b25cd44 hg0.2.2.2.2 | omega))) w1356 w1357 w165 w1358 hdS_yJ7_copyOf_59c91 ⟨Nat.le_of_ble_eq_true rfl, Nat.le_of_ble_eq_true rfl⟩ rfl hl.1 rfl (Nat.le_of_ble_eq_true rfl) dX8_join_40 ⟨(by show zcc Z - zcc Z + 1 + 1 ≤ zcc Z; omega), (by show zss Z - zss Z + 2 * Z.ln + 2 * Z.ln ≤ zss Z; omega)⟩) hD hS hA (fun u2 H locs _ hP hD hK hS _ _ => ?_)
    obtain ⟨q2, c2⟩ := u2
    replace hP : va_P D vwCl ((xw ad kk V L Z ++ [((q1, .inl (c1, 2 * Z.ln, .inl (va_cpy (V 31) (fun _ => 0) 0 0 Z.ln))) : Nat × va_E)]).set 3 ((ad 3, .inr (8, (xfStock ad V L Z).set 10 (.ref q1))) : Nat × va_E) ++ [((q2, .inl (c2, 2 * Z.ln, .inl (va_cpy (V 32) (fun _ => 0) 0 0 Z.ln))) : Nat × va_E)]) H := hP
    replace hD : va_D A ((xw ad kk V L Z ++ [((q1, .inl (c1, 2 * Z.ln, .inl (va_cpy (V 31) (fun _ => 0) 0 0 Z.ln))) : Nat × va_E)]).set 3 ((ad 3, .inr (8, (xfStock ad V L Z).set 10 (.ref q1))) : Nat × va_E) ++ [((q2, .inl (c2, 2 * Z.ln, .inl (va_cpy (V 32) (fun _ => 0) 0 0 Z.ln))) : Nat × va_E)]) := hD
    replace hK : va_K D vwCl ((xty kk Z ++ [(c1, .int)]) ++ [(c2, .int)]) s := hK
    refine va_put (D := D) (ci := 8) (v := .ref q2) (ty := tyX8 11) (fs := ((xfStock ad V L Z).set 10 (.ref q1))) (C := RX8) (T := TX8) (N := 16) hx hb hg inX8 tyX8 tyX8_ok nmX8 hown hK hP hD hS 3 rfl rfl 11 (by decide) (hg _ w389) (fun _ h9 => h9) rfl (tyX8_ok 11 (by decide)) rfl rfl (Nat.le_of_ble_eq_true rfl) dX8_join_43 (fun H locs hP hD hS => ?_)
    replace hP : va_P D vwCl (((xw ad kk V L Z ++ [((q1, .inl (c1, 2 * Z.ln, .inl (va_cpy (V 31) (fun _ => 0) 0 0 Z.ln))) : Nat × va_E)]).set 3 ((ad 3, .inr (8, (xfStock ad V L Z).set 10 (.ref q1))) : Nat × va_E) ++ [((q2, .inl (c2, 2 * Z.ln, .inl (va_cpy (V 32) (fun _ => 0) 0 0 Z.ln))) : Nat × va_E)]).set 3 ((ad 3, .inr (8, ((xfStock ad V L Z).set 10 (.ref q1)).set 11 (.ref q2))) : Nat × va_E)) H := hP
    replace hD : va_D A (((xw ad kk V L Z ++ [((q1, .inl (c1, 2 * Z.ln, .inl (va_cpy (V 31) (fun _ => 0) 0 0 Z.ln))) : Nat × va_E)]).set 3 ((ad 3, .inr (8, (xfStock ad V L Z).set 10 (.ref q1))) : Nat × va_E) ++ [((q2, .inl (c2, 2 * Z.ln, .inl (va_cpy (V 32) (fun _ => 0) 0 0 Z.ln))) : Nat × va_E)]).set 3 ((ad 3, .inr (8, ((xfStock ad V L Z).set 10 (.ref q1)).set 11 (.ref q2))) : Nat × va_E)) := hD
    obtain ⟨Z64, hZ64⟩ : ∃ z, z = Z.grow q1 q2 c1 c2 := ⟨_, rfl⟩
    obtain ⟨V63, hV63⟩ : ∃ z, z = lnz V Z.ln := ⟨_, rfl⟩
    have hP : va_P D vwCl (xw ad kk V63 L Z64) H := by rw [hZ64, hV63, xw_lnz]; exact grow_P (by rw [xw_len]; omega) hP
    have hD : va_D A (xw ad kk V63 L Z64) := by rw [hZ64, hV63, xw_lnz]; exact grow_D (by rw [xw_len]; omega) hD
    have hK : va_K D vwCl (xty kk Z64) s := by rw [hZ64, xt_lnz]; exact grow_K (by rw [xt_len]; decide) hK
    have hMV63 : rgd bX V63 := by rw [hV63]; exact rgd_lnz hMV
    have ajV63 : agr [] [31, 32] V V63 := by rw [hV63]; exact lnz_ag
    have agV63 : agr [(3, 15)] [30, 31, 32] V V63 := agV.tr ajV63 (by decide) (by decide)
    have zgr := zc_grow (Z := Z) (q1 := q1) (q2 := q2) (c1 := c1) (c2 := c2) lnq (by omega)
    have zcZ64 : zcc Z64 + 2 ≤ zcc Z := by rw [hZ64]; exact zgr.1
    have zsZ64 : zss Z64 + 4 * Z.ln = zss Z := by rw [hZ64]; exact zgr.2.1
    have zoZ64 : ZL Z Z64 := by rw [hZ64]; exact ZL.grow lnq (by omega)
    have zkZ64 : Z64.nf = Z.nf := by rw [hZ64]; rfl
    have zgZ64 : Z64.ln = 2 * Z.ln := by rw [hZ64]; rfl
    have slx : SL V63 Z64 := by rw [hV63, hZ64]; exact sl.grow (by omega)
    have lnx : LN Z64.ln := by rw [zgZ64]; exact zgr.2.2.1
    refine W.know (fun kx1 kx2 => ?_)
    replace kx1 : H.size ≤ s.heap.size + (zcc Z - zcc Z + 1 + 1) := kx1
    replace kx2 : tot H ≤ tot s.heap + (zss Z - zss Z + 2 * Z.ln + 2 * Z.ln) := kx2
    refine W.tight (k := zcc Z - zcc Z64) (n := zss Z - zss Z64) (by omega) (by omega) ?_
    have pq65 : (V63 3 15).toInt = ((V 3 15)).toInt := congrArg Int32.toInt (ajV63 3 15 rfl)
    have pq66 : (V63 3 13).toInt = ((V 3 13)).toInt := congrArg Int32.toInt (ajV63 3 13 rfl)
    have hltz : (V 3 15).toInt < (Z64.ln : Int) := by (first | exact om_b744e8be1b05 hlnl hg0.2.2.2.1 zgZ64 | omega)
    have kl := i_clamp (x := V 3 15) rfl (by (first | exact om_3de61939a92f r5 f61 zgZ64 hltz | omega))
    have kp0 := i_clamp (x := p0) rfl (by (first | exact om_eafa9039069c rg_p0.1 | omega))
    have kp1 := i_clamp (x := p1) rfl (by (first | exact om_eafa9039069c rg_p1.1 | omega))
    have hch := slx.2.2.1 (Int32.toNatClampNeg p0) (Int32.toNatClampNeg p1) (by omega) (by omega)
    have gg9 := lnz_g (n := (Int32.toNatClampNeg (V 3 15))) hV63 (by omega)
    have kn9 := i_clamp (x := V 3 15) rfl (by (first | exact om_3de61939a92f r5 f61 zgZ64 hltz | omega))
    refine lv_aload_n hx hb dX8_join_46 rfl (lv_at hl 0 rfl) ?_
    refine va_get (D := D) (ci := 8) (v := .ref Z64.l1) (fs := (xfStock ad V63 L Z64)) (C := RX8) (T := TX8) (N := 16) hx hb hg inX8 hown hK hP 3 xgStock rfl 10 (by decide) (hg _ w388) (fun _ h9 => h9) rfl dX8_join_47 ?_
    refine lv_aload_n hx hb dX8_join_50 rfl (lv_at hl 0 rfl) ?_
    refine va_get (D := D) (ci := 8) (v := .int (V63 3 15)) (fs := (xfStock ad V63 L Z64)) (C := RX8) (T := TX8) (N := 16) hx hb hg inX8 hown hK hP 3 xgStock rfl 15 (by decide) (hg _ w394) (fun _ h9 => h9) rfl dX8_join_51 ?_
    refine g_top (v := (V 3 15)) (ajV63 3 15 rfl) ?_
    refine lv_iload_n hx hb dX8_join_54 rfl (lv_at hl 3 rfl) ?_
    refine va_iast (D := D) (i := (V 3 15)) (x := p2) hx hb hK hP hD hS 28 21 rfl rfl (i_in (a := ((V 3 15)).toInt) rfl (by omega)) dX8_join_55 (fun H locs hP hD hS => ?_)
    obtain ⟨V67, hV67⟩ : ∃ z, z = up2 V63 31 (Int32.toNatClampNeg (V 3 15)) p2 := ⟨_, rfl⟩
    have ew68 : (xw ad kk V63 L Z64).set 28 (Z64.l1, .inl (Z64.k1, Z64.ln, .inl (upd (V63 31) (Int32.toNatClampNeg (V 3 15)) p2))) = xw ad kk V67 L Z64 := by rw [hV67]; exact xw_ss (by decide) rfl (xb_si (by decide))
    have hP : va_P D vwCl (xw ad kk V67 L Z64) H := by rw [← ew68]; exact hP
    have hD : va_D A (xw ad kk V67 L Z64) := by rw [← ew68]; exact hD
    have hMV67 : rgd bX V67 := hMV63.put hV67 (i_full _)
    have agV67 : agr [(3, 15)] [30, 31, 32] V V67 := agV63.up hV67 rfl
    refine lv_aload_n hx hb dX8_join_56 rfl (lv_at hl 0 rfl) ?_
    refine va_get (D := D) (ci := 8) (v := .ref Z64.l2) (fs := (xfStock ad V67 L Z64)) (C := RX8) (T := TX8) (N := 16) hx hb hg inX8 hown hK hP 3 xgStock rfl 11 (by decide) (hg _ w389) (fun _ h9 => h9) rfl dX8_join_57 ?_
    refine lv_aload_n hx hb dX8_join_60 rfl (lv_at hl 0 rfl) ?_
    refine va_get (D := D) (ci := 8) (v := .int (V67 3 15)) (fs := (xfStock ad V67 L Z64)) (C := RX8) (T := TX8) (N := 16) hx hb hg inX8 hown hK hP 3 xgStock rfl 15 (by decide) (hg _ w394) (fun _ h9 => h9) rfl dX8_join_61 ?_
    refine g_top (v := (V 3 15)) ((up2_o hV67 (by decide)).trans (ajV63 3 15 rfl)) ?_
    refine lv_iconst (v := (-1)) hx hb dX8_join_64 (by decide) ?_
    refine va_iast (D := D) (i := (V 3 15)) (x := (-1)) hx hb hK hP hD hS 29 22 rfl rfl (i_in (a := ((V 3 15)).toInt) rfl (by omega)) dX8_join_65 (fun H locs hP hD hS => ?_)
    obtain ⟨V69, hV69⟩ : ∃ z, z = up2 V67 32 (Int32.toNatClampNeg (V 3 15)) (-1) := ⟨_, rfl⟩
    have ew70 : (xw ad kk V67 L Z64).set 29 (Z64.l2, .inl (Z64.k2, Z64.ln, .inl (upd (V67 32) (Int32.toNatClampNeg (V 3 15)) (-1)))) = xw ad kk V69 L Z64 := by rw [hV69]; exact xw_ss (by decide) rfl (xb_si (by decide))
    have hP : va_P D vwCl (xw ad kk V69 L Z64) H := by rw [← ew70]; exact hP
    have hD : va_D A (xw ad kk V69 L Z64) := by rw [← ew70]; exact hD
    have hMV69 : rgd bX V69 := hMV67.put hV69 (show (-1) ≤ Int32.toInt (-1) ∧ Int32.toInt (-1) ≤ 262143 from by decide)
    have agV69 : agr [(3, 15)] [30, 31, 32] V V69 := agV67.up hV69 rfl
    refine lv_aload_n hx hb dX8_join_66 rfl (lv_at hl 0 rfl) ?_
    refine va_get (D := D) (ci := 8) (v := .ref (ad 27)) (fs := (xfStock ad V69 L Z64)) (C := RX8) (T := TX8) (N := 16) hx hb hg inX8 hown hK hP 3 xgStock rfl 9 (by decide) (hg _ w387) (fun _ h9 => h9) rfl dX8_join_67 ?_
    refine lv_iload_n hx hb dX8_join_70 rfl (lv_at hl 1 rfl) ?_
    refine lv_bipush (v := 8) hx hb dX8_join_71 (by decide) ?_
    refine lv_imul hx hb dX8_join_73 ?_
    refine lv_topi (fun z71 ez71 => ?_)
    have hz71 : z71.toInt = p0.toInt * 8 := i_mul ez71 rfl (by decide) (by (first | exact om_d8eca449dd89 rg_p0.1 rg_p0.2 | omega))
    refine lv_iload_n hx hb dX8_join_74 rfl (lv_at hl 2 rfl) ?_
    refine lv_iadd hx hb dX8_join_75 ?_
    refine lv_topi (fun z72 ez72 => ?_)
    have hz72 : z72.toInt = z71.toInt + p1.toInt := i_add ez72 rfl rfl (by (first | exact om_582758b7b1c9 rg_p0.1 rg_p0.2 rg_p1.1 rg_p1.2 hz71 | omega))
    refine va_iald (D := D) (i := z72) hx hb hK hP 27 20 rfl rfl (i_in (a := z72.toInt) rfl (by (first | exact om_1416c74478ee rg_p0.1 rg_p0.2 rg_p1.1 rg_p1.2 hz71 hz72 | omega))) dX8_join_76 ?_
    refine g_top (v := (V 30 (Int32.toNatClampNeg z72))) ((up2_o hV69 (by decide)).trans ((up2_o hV67 (by decide)).trans (ajV63 30 (Int32.toNatClampNeg z72) rfl))) ?_
    have r73 : (-1) ≤ ((V 30 (Int32.toNatClampNeg z72))).toInt ∧ ((V 30 (Int32.toNatClampNeg z72))).toInt ≤ 262143 := hMV 30 (Int32.toNatClampNeg z72)
    refine lv_istore (lv' := [(4, .int (V 30 (Int32.toNatClampNeg z72))), (0, .ref (ad 3)), (1, .int p0), (2, .int p1), (3, .int p2)]) hx hb dX8_join_77 hl (by decide) rfl (fun ls hl => ?_)
    have kzz := i_clamp (x := z72) rfl (by (first | exact om_75abbf7b0b1b rg_p0.1 rg_p1.1 hz71 hz72 | omega))
    have hpl : Int32.toNatClampNeg z72 = 8 * Int32.toNatClampNeg p0 + Int32.toNatClampNeg p1 := by (first | exact om_19f77980e03c kp0 kp1 hz71 hz72 kzz | omega)
    have hch2 := hch
    rw [← hpl] at hch2
    have pq74 : (V63 30 (Int32.toNatClampNeg z72)).toInt = ((V 30 (Int32.toNatClampNeg z72))).toInt := congrArg Int32.toInt (ajV63 30 (Int32.toNatClampNeg z72) rfl)
    refine lv_iload hx hb dX8_join_79 (lv_at hl 0 rfl) ?_
    refine lv_iconst (v := (-1)) hx hb dX8_join_81 (by decide) ?_
    refine lv_icmp_ne (tgt := 103) hx hb dX8_join_82 (by decide) (fun c75 => ?_) (fun c75 => ?_)
    · skip
      have f76 : ((V 30 (Int32.toNatClampNeg z72))).toInt ≠ (-1) := b_neq rfl (by decide) c75
      refine lv_iconst (v := 0) hx hb dX8_join_103 (by decide) ?_
      refine lv_istore (lv' := [(5, .int 0), (4, .int (V 30 (Int32.toNatClampNeg z72))), (0, .ref (ad 3)), (1, .int p0), (2, .int p1), (3, .int p2)]) hx hb dX8_join_104 hl (by decide) rfl (fun ls hl => ?_)
      have lp79 : ∀ (fulp79 : Nat) (y77 : Int32) (y78 : Int32) (H : Heap) (locs : List Loc) (ls : Array Slot), 0 ≤ y77.toInt ∧ y77.toInt ≤ 24 → 0 ≤ y78.toInt ∧ y78.toInt ≤ 262143 → y78.toInt < (V 3 15).toInt → (∃ l2 : List Int, l2 ≠ [] ∧ CHN V gow (8 * Int32.toNatClampNeg p0 + Int32.toNatClampNeg p1) l2 y78.toInt ∧ lstK V gl (V 30 (8 * Int32.toNatClampNeg p0 + Int32.toNatClampNeg p1)).toInt = lstK V l2 y78.toInt ∧ ((l2.length : Nat) : Int) + y77.toInt ≤ 23) → 24 - y77.toInt < (fulp79 : Int) → va_P D vwCl (xw ad kk V69 L Z64) H → va_D A (xw ad kk V69 L Z64) → va_S A s.heap H locs → lv_has ls 6 [(5, .int y77), (4, .int y78), (0, .ref (ad 3)), (1, .int p0), (2, .int p1), (3, .int p2)] → W p l e (r_x_join9 Z) s m ([.ref (ad 3), .int p0, .int p1, .int p2] : List Value).toArray below meth c H locs (zcc Z - zcc Z64) (zss Z - zss Z64) (MQ below (q_x_join9 D ks ad kk V L Z p0 p1 p2 gow gl A) ([.ref (ad 3), .int p0, .int p1, .int p2] : List Value).toArray s (zcc Z) (zss Z) A) (F0 m 106 ls []) := by
        intro fulp79
        induction fulp79 with
        | zero =>
          intro y77 y78 H locs ls klp79_0 klp79_1 xlp79_0 xlp79_1 hn  hP hD hS hl
          exfalso; (first | exact om_60d665989fb6 xlp79_1.2.2.2 hn | omega)
        | succ fulp79 ihlp79 =>
          intro y77 y78 H locs ls klp79_0 klp79_1 xlp79_0 xlp79_1 hn  hP hD hS hl
          refine lv_iload hx hb dX8_join_106 (lv_at hl 0 rfl) ?_
          refine lv_bipush (v := 24) hx hb dX8_join_108 (by decide) ?_
          refine lv_icmp_ge (tgt := 139) hx hb dX8_join_110 (by decide) (fun c80 => ?_) (fun c80 => ?_)
          · skip
            have f81 : 24 ≤ y77.toInt := b_le (by decide) rfl c80
            refine lv_aload_n hx hb dX8_join_139 rfl (lv_at hl 2 rfl) ?_
            refine va_get (D := D) (ci := 8) (v := .ref Z64.l2) (fs := (xfStock ad V69 L Z64)) (C := RX8) (T := TX8) (N := 16) hx hb hg inX8 hown hK hP 3 xgStock rfl 11 (by decide) (hg _ w389) (fun _ h9 => h9) rfl dX8_join_140 ?_
            refine lv_iload hx hb dX8_join_143 (lv_at hl 1 rfl) ?_
            refine lv_aload_n hx hb dX8_join_145 rfl (lv_at hl 2 rfl) ?_
            refine va_get (D := D) (ci := 8) (v := .int (V69 3 15)) (fs := (xfStock ad V69 L Z64)) (C := RX8) (T := TX8) (N := 16) hx hb hg inX8 hown hK hP 3 xgStock rfl 15 (by decide) (hg _ w394) (fun _ h9 => h9) rfl dX8_join_146 ?_
            refine g_top (v := (V 3 15)) ((up2_o hV69 (by decide)).trans ((up2_o hV67 (by decide)).trans (ajV63 3 15 rfl))) ?_
            refine va_iast (D := D) (i := y78) (x := (V 3 15)) hx hb hK hP hD hS 29 22 rfl rfl (i_in (a := y78.toInt) rfl (by omega)) dX8_join_149 (fun H locs hP hD hS => ?_)
            obtain ⟨V82, hV82⟩ : ∃ z, z = up2 V69 32 (Int32.toNatClampNeg y78) (V 3 15) := ⟨_, rfl⟩
            have ew83 : (xw ad kk V69 L Z64).set 29 (Z64.l2, .inl (Z64.k2, Z64.ln, .inl (upd (V69 32) (Int32.toNatClampNeg y78) (V 3 15)))) = xw ad kk V82 L Z64 := by rw [hV82]; exact xw_ss (by decide) rfl (xb_si (by decide))
            have hP : va_P D vwCl (xw ad kk V82 L Z64) H := by rw [← ew83]; exact hP
            have hD : va_D A (xw ad kk V82 L Z64) := by rw [← ew83]; exact hD
            have hMV82 : rgd bX V82 := hMV69.put hV82 (show (-1) ≤ ((V 3 15)).toInt ∧ ((V 3 15)).toInt ≤ 262143 from by omega)
            have agV82 : agr [(3, 15)] [30, 31, 32] V V82 := agV69.up hV82 rfl
            refine lv_aload_n hx hb dX8_join_150 rfl (lv_at hl 2 rfl) ?_
            refine lv_dup hx hb dX8_join_151 rfl ?_
            refine va_get (D := D) (ci := 8) (v := .int (V82 3 15)) (fs := (xfStock ad V82 L Z64)) (C := RX8) (T := TX8) (N := 16) hx hb hg inX8 hown hK hP 3 xgStock rfl 15 (by decide) (hg _ w394) (fun _ h9 => h9) rfl dX8_join_152 ?_
            refine g_top (v := (V 3 15)) ((up2_o hV82 (by decide)).trans ((up2_o hV69 (by decide)).trans ((up2_o hV67 (by decide)).trans (ajV63 3 15 rfl)))) ?_
            refine lv_iconst (v := 1) hx hb dX8_join_155 (by decide) ?_
            refine lv_iadd hx hb dX8_join_156 ?_
            refine lv_topi (fun z84 ez84 => ?_)
            have hz84 : z84.toInt = ((V 3 15)).toInt + 1 := i_add ez84 rfl (by decide) (by omega)
            refine va_put (D := D) (ci := 8) (v := .int z84) (ty := tyX8 15) (fs := (xfStock ad V82 L Z64)) (C := RX8) (T := TX8) (N := 16) hx hb hg inX8 tyX8 tyX8_ok nmX8 hown hK hP hD hS 3 xgStock rfl 15 (by decide) (hg _ w394) (fun _ h9 => h9) rfl (tyX8_ok 15 (by decide)) rfl rfl (Nat.le_of_ble_eq_true rfl) dX8_join_157 (fun H locs hP hD hS => ?_)
            obtain ⟨V85, hV85⟩ : ∃ z, z = up2 V82 3 15 z84 := ⟨_, rfl⟩
            have ew86 : (xw ad kk V82 L Z64).set 3 ((ad 3), .inr (8, (xfStock ad V82 L Z64).set 15 (.int z84))) = xw ad kk V85 L Z64 := by rw [hV85]; exact xw_ss (by decide) rfl (xb_si (by decide))
            have hP : va_P D vwCl (xw ad kk V85 L Z64) H := by rw [← ew86]; exact hP
            have hD : va_D A (xw ad kk V85 L Z64) := by rw [← ew86]; exact hD
            have hMV85 : rgd bX V85 := hMV82.put hV85 (show 0 ≤ z84.toInt ∧ z84.toInt ≤ 262144 from by omega)
            have agV85 : agr [(3, 15)] [30, 31, 32] V V85 := agV82.up hV85 rfl
            have pq87 : (V85 3 15).toInt = z84.toInt := congrArg Int32.toInt (up2_s hV85)
            have kq88 := i_clamp (x := y78) rfl (by omega)
            have jn89 : JN V63 V85 Z64 Z64 (8 * Int32.toNatClampNeg p0 + Int32.toNatClampNeg p1) := JN.mk (l := Int32.toNatClampNeg (V 3 15)) slx lnx (by omega) (by omega) hV67 hV69 hV82 (by omega) hV85 (by omega) (Or.inr ⟨rfl, by omega, by rw [← hpl]; omega⟩)
            have jn90 : JN V V85 Z Z64 (8 * Int32.toNatClampNeg p0 + Int32.toNatClampNeg p1) := by rw [hV63, hZ64] at jn89; rw [hZ64]; exact JN.gr jn89
            have el9 : lstK V gl (V 30 (8 * Int32.toNatClampNeg p0 + Int32.toNatClampNeg p1)).toInt = ((Int32.toNatClampNeg y78 : Nat) : Int) := by obtain ⟨l2, h1, h2, h3, h4⟩ := xlp79_1; exfalso; have h5 : l2.length ≠ 0 := fun h9 => h1 (List.length_eq_zero_iff.mp h9); omega
            refine W.know (fun kr1 kr2 => ?_)
            refine W.widen (k := zcc Z) (n := zss Z) (Nat.sub_le _ _) (Nat.sub_le _ _) ?_
            exact W.vret hx hb hr (fun t ht hW => ⟨⟨(V85, L, Z64), rfl, ⟨hMV85, agV85, rfl, zoZ64, jn90, (by have h9 := JN9.old (q := (8 * Int32.toNatClampNeg p0 + Int32.toNatClampNeg p1)) (l := gl) (v := p2.toInt) gg9.1 gg9.2 hV67 hV69 hV82 hV85 rfl (by omega) (by omega) (by rw [← hpl]; omega) el9 (by omega); exact h9)⟩, ⟨by rw [ht]; exact hP, va_K.moved hW.alike hK, hD⟩, by rw [ht]; exact kr1, by rw [ht]; exact kr2⟩, hS.F ht⟩) hS.2.2 dX8_join_160
          · skip
            have f91 : y77.toInt < 24 := b_nle (by decide) rfl c80
            have ky9 := i_clamp (x := y78) rfl (by (first | exact om_eafa9039069c klp79_1.1 | omega))
            have nx92 : V69 32 (Int32.toNatClampNeg y78) = V 32 y78.toInt.toNat := (up2_k hV69 (by omega)).trans ((up2_o hV67 (by decide)).trans (gg9.1 _ (by omega)).2)
            refine lv_aload_n hx hb dX8_join_113 rfl (lv_at hl 2 rfl) ?_
            refine va_get (D := D) (ci := 8) (v := .ref Z64.l2) (fs := (xfStock ad V69 L Z64)) (C := RX8) (T := TX8) (N := 16) hx hb hg inX8 hown hK hP 3 xgStock rfl 11 (by decide) (hg _ w389) (fun _ h9 => h9) rfl dX8_join_114 ?_
            refine lv_iload hx hb dX8_join_117 (lv_at hl 1 rfl) ?_
            refine va_iald (D := D) (i := y78) hx hb hK hP 29 22 rfl rfl (i_in (a := y78.toInt) rfl (by omega)) dX8_join_119 ?_
            have r93 : (-1) ≤ ((V69 32 (Int32.toNatClampNeg y78))).toInt ∧ ((V69 32 (Int32.toNatClampNeg y78))).toInt ≤ 262143 := hMV69 32 (Int32.toNatClampNeg y78)
            have kq94 := i_clamp (x := y78) rfl (by (first | exact om_eafa9039069c klp79_1.1 | omega))
            have hq95 : (V69 32 (Int32.toNatClampNeg y78)).toInt < (V 3 15).toInt := by have q := slx.2.2.2 (Int32.toNatClampNeg y78) (by omega); rw [up2_k hV69 (by omega), up2_o hV67 (by decide)]; omega
            refine lv_iconst (v := (-1)) hx hb dX8_join_120 (by decide) ?_
            refine lv_icmp_eq (tgt := 139) hx hb dX8_join_121 (by decide) (fun c96 => ?_) (fun c96 => ?_)
            · skip
              have f97 : ((V69 32 (Int32.toNatClampNeg y78))).toInt = (-1) := b_eq rfl (by decide) c96
              refine lv_aload_n hx hb dX8_join_139 rfl (lv_at hl 2 rfl) ?_
              refine va_get (D := D) (ci := 8) (v := .ref Z64.l2) (fs := (xfStock ad V69 L Z64)) (C := RX8) (T := TX8) (N := 16) hx hb hg inX8 hown hK hP 3 xgStock rfl 11 (by decide) (hg _ w389) (fun _ h9 => h9) rfl dX8_join_140 ?_
              refine lv_iload hx hb dX8_join_143 (lv_at hl 1 rfl) ?_
              refine lv_aload_n hx hb dX8_join_145 rfl (lv_at hl 2 rfl) ?_
              refine va_get (D := D) (ci := 8) (v := .int (V69 3 15)) (fs := (xfStock ad V69 L Z64)) (C := RX8) (T := TX8) (N := 16) hx hb hg inX8 hown hK hP 3 xgStock rfl 15 (by decide) (hg _ w394) (fun _ h9 => h9) rfl dX8_join_146 ?_
              refine g_top (v := (V 3 15)) ((up2_o hV69 (by decide)).trans ((up2_o hV67 (by decide)).trans (ajV63 3 15 rfl))) ?_
              refine va_iast (D := D) (i := y78) (x := (V 3 15)) hx hb hK hP hD hS 29 22 rfl rfl (i_in (a := y78.toInt) rfl (by omega)) dX8_join_149 (fun H locs hP hD hS => ?_)
              obtain ⟨V98, hV98⟩ : ∃ z, z = up2 V69 32 (Int32.toNatClampNeg y78) (V 3 15) := ⟨_, rfl⟩
              have ew99 : (xw ad kk V69 L Z64).set 29 (Z64.l2, .inl (Z64.k2, Z64.ln, .inl (upd (V69 32) (Int32.toNatClampNeg y78) (V 3 15)))) = xw ad kk V98 L Z64 := by rw [hV98]; exact xw_ss (by decide) rfl (xb_si (by decide))
              have hP : va_P D vwCl (xw ad kk V98 L Z64) H := by rw [← ew99]; exact hP
              have hD : va_D A (xw ad kk V98 L Z64) := by rw [← ew99]; exact hD
              have hMV98 : rgd bX V98 := hMV69.put hV98 (show (-1) ≤ ((V 3 15)).toInt ∧ ((V 3 15)).toInt ≤ 262143 from by (first | exact om_ca44e42f4839 hlc r5 f61 zgZ64 hltz | omega))
              have agV98 : agr [(3, 15)] [30, 31, 32] V V98 := agV69.up hV98 rfl
              refine lv_aload_n hx hb dX8_join_150 rfl (lv_at hl 2 rfl) ?_
              refine lv_dup hx hb dX8_join_151 rfl ?_
              refine va_get (D := D) (ci := 8) (v := .int (V98 3 15)) (fs := (xfStock ad V98 L Z64)) (C := RX8) (T := TX8) (N := 16) hx hb hg inX8 hown hK hP 3 xgStock rfl 15 (by decide) (hg _ w394) (fun _ h9 => h9) rfl dX8_join_152 ?_
              refine g_top (v := (V 3 15)) ((up2_o hV98 (by decide)).trans ((up2_o hV69 (by decide)).trans ((up2_o hV67 (by decide)).trans (ajV63 3 15 rfl)))) ?_
              refine lv_iconst (v := 1) hx hb dX8_join_155 (by decide) ?_
              refine lv_iadd hx hb dX8_join_156 ?_
              refine lv_topi (fun z100 ez100 => ?_)
              have hz100 : z100.toInt = ((V 3 15)).toInt + 1 := i_add ez100 rfl (by decide) (by (first | exact om_0fa10e9e3498 hlc r5 f61 zgZ64 hltz | omega))
              refine va_put (D := D) (ci := 8) (v := .int z100) (ty := tyX8 15) (fs := (xfStock ad V98 L Z64)) (C := RX8) (T := TX8) (N := 16) hx hb hg inX8 tyX8 tyX8_ok nmX8 hown hK hP hD hS 3 xgStock rfl 15 (by decide) (hg _ w394) (fun _ h9 => h9) rfl (tyX8_ok 15 (by decide)) rfl rfl (Nat.le_of_ble_eq_true rfl) dX8_join_157 (fun H locs hP hD hS => ?_)
              obtain ⟨V101, hV101⟩ : ∃ z, z = up2 V98 3 15 z100 := ⟨_, rfl⟩
              have ew102 : (xw ad kk V98 L Z64).set 3 ((ad 3), .inr (8, (xfStock ad V98 L Z64).set 15 (.int z100))) = xw ad kk V101 L Z64 := by rw [hV101]; exact xw_ss (by decide) rfl (xb_si (by decide))
              have hP : va_P D vwCl (xw ad kk V101 L Z64) H := by rw [← ew102]; exact hP
              have hD : va_D A (xw ad kk V101 L Z64) := by rw [← ew102]; exact hD
              have hMV101 : rgd bX V101 := hMV98.put hV101 (show 0 ≤ z100.toInt ∧ z100.toInt ≤ 262144 from by (first | exact om_03c6ea50aeb8 hlc r5 f61 zgZ64 hltz hz100 | omega))
              have agV101 : agr [(3, 15)] [30, 31, 32] V V101 := agV98.up hV101 rfl
              have pq103 : (V101 3 15).toInt = z100.toInt := congrArg Int32.toInt (up2_s hV101)
              have kq104 := i_clamp (x := y78) rfl (by (first | exact om_eafa9039069c klp79_1.1 | omega))
              have jn105 : JN V63 V101 Z64 Z64 (8 * Int32.toNatClampNeg p0 + Int32.toNatClampNeg p1) := JN.mk (l := Int32.toNatClampNeg (V 3 15)) slx lnx (by omega) (by omega) hV67 hV69 hV98 (by omega) hV101 (by omega) (Or.inr ⟨rfl, by omega, by rw [← hpl]; omega⟩)
              have jn106 : JN V V101 Z Z64 (8 * Int32.toNatClampNeg p0 + Int32.toNatClampNeg p1) := by rw [hV63, hZ64] at jn105; rw [hZ64]; exact JN.gr jn105
              have el9 : lstK V gl (V 30 (8 * Int32.toNatClampNeg p0 + Int32.toNatClampNeg p1)).toInt = ((Int32.toNatClampNeg y78 : Nat) : Int) := by obtain ⟨l2, h1, h2, h3, h4⟩ := xlp79_1; rw [h3, CHN.ed h1 h2 (by rw [← nx92]; omega)]; omega
              refine W.know (fun kr1 kr2 => ?_)
              refine W.widen (k := zcc Z) (n := zss Z) (Nat.sub_le _ _) (Nat.sub_le _ _) ?_
              exact W.vret hx hb hr (fun t ht hW => ⟨⟨(V101, L, Z64), rfl, ⟨hMV101, agV101, rfl, zoZ64, jn106, (by have h9 := JN9.old (q := (8 * Int32.toNatClampNeg p0 + Int32.toNatClampNeg p1)) (l := gl) (v := p2.toInt) gg9.1 gg9.2 hV67 hV69 hV98 hV101 rfl (by omega) (by omega) (by rw [← hpl]; omega) el9 (by omega); exact h9)⟩, ⟨by rw [ht]; exact hP, va_K.moved hW.alike hK, hD⟩, by rw [ht]; exact kr1, by rw [ht]; exact kr2⟩, hS.F ht⟩) hS.2.2 dX8_join_160
            · skip
              have f107 : ((V69 32 (Int32.toNatClampNeg y78))).toInt ≠ (-1) := b_neq rfl (by decide) c96
              refine lv_aload_n hx hb dX8_join_124 rfl (lv_at hl 2 rfl) ?_
              refine va_get (D := D) (ci := 8) (v := .ref Z64.l2) (fs := (xfStock ad V69 L Z64)) (C := RX8) (T := TX8) (N := 16) hx hb hg inX8 hown hK hP 3 xgStock rfl 11 (by decide) (hg _ w389) (fun _ h9 => h9) rfl dX8_join_125 ?_
              refine lv_iload hx hb dX8_join_128 (lv_at hl 1 rfl) ?_
              refine va_iald (D := D) (i := y78) hx hb hK hP 29 22 rfl rfl (i_in (a := y78.toInt) rfl (by omega)) dX8_join_130 ?_
              have kq108 := i_clamp (x := y78) rfl (by (first | exact om_eafa9039069c klp79_1.1 | omega))
              have hq109 : (V69 32 (Int32.toNatClampNeg y78)).toInt < (V 3 15).toInt := by have q := slx.2.2.2 (Int32.toNatClampNeg y78) (by omega); rw [up2_k hV69 (by omega), up2_o hV67 (by decide)]; omega
              refine lv_istore (lv' := [(4, .int (V69 32 (Int32.toNatClampNeg y78))), (5, .int y77), (0, .ref (ad 3)), (1, .int p0), (2, .int p1), (3, .int p2)]) hx hb dX8_join_131 hl (by decide) rfl (fun ls hl => ?_)
              obtain ⟨z110, ez110⟩ : ∃ y : Int32, y = y77 + 1 := ⟨_, rfl⟩
              have hz110 : z110.toInt = y77.toInt + 1 := i_add ez110 rfl (by decide) (by (first | exact om_bc9106cf44c9 klp79_0.1 f91 | omega))
              refine lv_iinc (v := z110) (lv' := [(5, .int z110), (4, .int (V69 32 (Int32.toNatClampNeg y78))), (0, .ref (ad 3)), (1, .int p0), (2, .int p1), (3, .int p2)]) hx hb dX8_join_133 hl (k := 1) rfl (by rw [ez110]; rfl) (by decide) rfl (fun ls hl => ?_)
              refine lv_goto (tgt := 106) hx hb dX8_join_136 (by decide) ?_
              exact ihlp79 z110 (V69 32 (Int32.toNatClampNeg y78)) H locs ls (by (first | exact om_a5349b170263 klp79_0.1 f91 hz110 | omega)) (by (first | exact om_68f131c046bb hlc r93.1 hq95 f107 | omega)) (show ((V69 32 (Int32.toNatClampNeg y78))).toInt < (V 3 15).toInt from by (first | exact om_0e9116797efb hq95 | omega)) (by obtain ⟨l2, h1, h2, h3, h4⟩ := xlp79_1; obtain ⟨l3, g1, g2, g3, g4⟩ := CHN.nx h1 h2 (by rw [← nx92]; omega); exact ⟨l3, g1, (by rw [nx92]; exact g2), (by rw [nx92]; exact h3.trans g3), (by omega)⟩) (by (first | exact om_9592d9319ffa hn hz110 | omega)) hP hD hS (lv_sub hl [0, 1, 2, 3, 4, 5] rfl)
      have r111 : Int32.toInt 0 = 0 := by decide
      exact lp79 ((24 - (Int32.toInt 0) + 1 : Int).toNat) 0 (V 30 (Int32.toNatClampNeg z72)) H locs ls (by decide) (by (first | exact om_393feb9d3e2e r73.1 r73.2 f76 | omega)) (show ((V 30 (Int32.toNatClampNeg z72))).toInt < (V 3 15).toInt from by omega) ⟨gl, (fun h9 => by rw [h9] at chn; have h8 : (V 30 (8 * Int32.toNatClampNeg p0 + Int32.toNatClampNeg p1)).toInt = -1 := chn; rw [← hpl] at h8; omega), (by rw [hpl]; exact chn), (by rw [hpl]), (by have h8 : Int32.toInt 0 = 0 := (by decide); omega)⟩ (by (first | exact om_817980d3aa47 | omega)) hP hD hS (lv_sub hl [0, 1, 2, 3, 4, 5] rfl)
    · skip
      have f112 : ((V 30 (Int32.toNatClampNeg z72))).toInt = (-1) := b_eq rfl (by decide) c75
      refine lv_aload_n hx hb dX8_join_85 rfl (lv_at hl 1 rfl) ?_
      refine va_get (D := D) (ci := 8) (v := .ref (ad 27)) (fs := (xfStock ad V69 L Z64)) (C := RX8) (T := TX8) (N := 16) hx hb hg inX8 hown hK hP 3 xgStock rfl 9 (by decide) (hg _ w387) (fun _ h9 => h9) rfl dX8_join_86 ?_
      refine lv_iload_n hx hb dX8_join_89 rfl (lv_at hl 2 rfl) ?_
      refine lv_bipush (v := 8) hx hb dX8_join_90 (by decide) ?_
      refine lv_imul hx hb dX8_join_92 ?_
      refine lv_topi (fun z113 ez113 => ?_)
      have hz113 : z113.toInt = p0.toInt * 8 := i_mul ez113 rfl (by decide) (by (first | exact om_d8eca449dd89 rg_p0.1 rg_p0.2 | omega))
      refine lv_iload_n hx hb dX8_join_93 rfl (lv_at hl 3 rfl) ?_
      refine lv_iadd hx hb dX8_join_94 ?_
      refine lv_topi (fun z114 ez114 => ?_)
      have hz114 : z114.toInt = z113.toInt + p1.toInt := i_add ez114 rfl rfl (by (first | exact om_582758b7b1c9 rg_p0.1 rg_p0.2 rg_p1.1 rg_p1.2 hz113 | omega))
      refine lv_aload_n hx hb dX8_join_95 rfl (lv_at hl 1 rfl) ?_
      refine va_get (D := D) (ci := 8) (v := .int (V69 3 15)) (fs := (xfStock ad V69 L Z64)) (C := RX8) (T := TX8) (N := 16) hx hb hg inX8 hown hK hP 3 xgStock rfl 15 (by decide) (hg _ w394) (fun _ h9 => h9) rfl dX8_join_96 ?_
      refine g_top (v := (V 3 15)) ((up2_o hV69 (by decide)).trans ((up2_o hV67 (by decide)).trans (ajV63 3 15 rfl))) ?_
      refine va_iast (D := D) (i := z114) (x := (V 3 15)) hx hb hK hP hD hS 27 20 rfl rfl (i_in (a := z114.toInt) rfl (by (first | exact om_1416c74478ee rg_p0.1 rg_p0.2 rg_p1.1 rg_p1.2 hz113 hz114 | omega))) dX8_join_99 (fun H locs hP hD hS => ?_)
      obtain ⟨V115, hV115⟩ : ∃ z, z = up2 V69 30 (Int32.toNatClampNeg z114) (V 3 15) := ⟨_, rfl⟩
      have ew116 : (xw ad kk V69 L Z64).set 27 ((ad 27), .inl ((kk 27), 2400, .inl (upd (V69 30) (Int32.toNatClampNeg z114) (V 3 15)))) = xw ad kk V115 L Z64 := by rw [hV115]; exact xw_ss (by decide) rfl (xb_si (by decide))
      have hP : va_P D vwCl (xw ad kk V115 L Z64) H := by rw [← ew116]; exact hP
      have hD : va_D A (xw ad kk V115 L Z64) := by rw [← ew116]; exact hD
      have hMV115 : rgd bX V115 := hMV69.put hV115 (show (-1) ≤ ((V 3 15)).toInt ∧ ((V 3 15)).toInt ≤ 262143 from by (first | exact om_ca44e42f4839 hlc r5 f61 zgZ64 hltz | omega))
      have agV115 : agr [(3, 15)] [30, 31, 32] V V115 := agV69.up hV115 rfl
      refine lv_goto (tgt := 150) hx hb dX8_join_100 (by decide) ?_
      refine lv_aload_n hx hb dX8_join_150 rfl (lv_at hl 1 rfl) ?_
      refine lv_dup hx hb dX8_join_151 rfl ?_
      refine va_get (D := D) (ci := 8) (v := .int (V115 3 15)) (fs := (xfStock ad V115 L Z64)) (C := RX8) (T := TX8) (N := 16) hx hb hg inX8 hown hK hP 3 xgStock rfl 15 (by decide) (hg _ w394) (fun _ h9 => h9) rfl dX8_join_152 ?_
      refine g_top (v := (V 3 15)) ((up2_o hV115 (by decide)).trans ((up2_o hV69 (by decide)).trans ((up2_o hV67 (by decide)).trans (ajV63 3 15 rfl)))) ?_
      refine lv_iconst (v := 1) hx hb dX8_join_155 (by decide) ?_
      refine lv_iadd hx hb dX8_join_156 ?_
      refine lv_topi (fun z117 ez117 => ?_)
      have hz117 : z117.toInt = ((V 3 15)).toInt + 1 := i_add ez117 rfl (by decide) (by (first | exact om_0fa10e9e3498 hlc r5 f61 zgZ64 hltz | omega))
      refine va_put (D := D) (ci := 8) (v := .int z117) (ty := tyX8 15) (fs := (xfStock ad V115 L Z64)) (C := RX8) (T := TX8) (N := 16) hx hb hg inX8 tyX8 tyX8_ok nmX8 hown hK hP hD hS 3 xgStock rfl 15 (by decide) (hg _ w394) (fun _ h9 => h9) rfl (tyX8_ok 15 (by decide)) rfl rfl (Nat.le_of_ble_eq_true rfl) dX8_join_157 (fun H locs hP hD hS => ?_)
      obtain ⟨V118, hV118⟩ : ∃ z, z = up2 V115 3 15 z117 := ⟨_, rfl⟩
      have ew119 : (xw ad kk V115 L Z64).set 3 ((ad 3), .inr (8, (xfStock ad V115 L Z64).set 15 (.int z117))) = xw ad kk V118 L Z64 := by rw [hV118]; exact xw_ss (by decide) rfl (xb_si (by decide))
      have hP : va_P D vwCl (xw ad kk V118 L Z64) H := by rw [← ew119]; exact hP
      have hD : va_D A (xw ad kk V118 L Z64) := by rw [← ew119]; exact hD
      have hMV118 : rgd bX V118 := hMV115.put hV118 (show 0 ≤ z117.toInt ∧ z117.toInt ≤ 262144 from by (first | exact om_03c6ea50aeb8 hlc r5 f61 zgZ64 hltz hz117 | omega))
      have agV118 : agr [(3, 15)] [30, 31, 32] V V118 := agV115.up hV118 rfl
      have pq120 : (V118 3 15).toInt = z117.toInt := congrArg Int32.toInt (up2_s hV118)
      have kq121 := i_clamp (x := z114) rfl (by (first | exact om_75abbf7b0b1b rg_p0.1 rg_p1.1 hz113 hz114 | omega))
      have jn122 : JN V63 V118 Z64 Z64 (8 * Int32.toNatClampNeg p0 + Int32.toNatClampNeg p1) := JN.mk (l := Int32.toNatClampNeg (V 3 15)) slx lnx (by omega) (by omega) hV67 hV69 hV115 (by omega) hV118 (by omega) (Or.inl ⟨rfl, by omega⟩)
      have jn123 : JN V V118 Z Z64 (8 * Int32.toNatClampNeg p0 + Int32.toNatClampNeg p1) := by rw [hV63, hZ64] at jn122; rw [hZ64]; exact JN.gr jn122
      have hp8 : (Int32.toNatClampNeg z114) = (8 * Int32.toNatClampNeg p0 + Int32.toNatClampNeg p1) := by have h9 := i_clamp (x := z114) rfl (by (first | exact om_75abbf7b0b1b rg_p0.1 rg_p1.1 hz113 hz114 | omega)); (first | exact om_50a84ca3fa82 hz71 hz72 kzz hpl hz113 hz114 kq121 | omega)
      refine W.know (fun kr1 kr2 => ?_)
      refine W.widen (k := zcc Z) (n := zss Z) (Nat.sub_le _ _) (Nat.sub_le _ _) ?_
      exact W.vret hx hb hr (fun t ht hW => ⟨⟨(V118, L, Z64), rfl, ⟨hMV118, agV118, rfl, zoZ64, jn123, (by have h9 := JN9.new (q := (8 * Int32.toNatClampNeg p0 + Int32.toNatClampNeg p1)) (l := gl) (v := p2.toInt) gg9.1 gg9.2 hV67 hV69 (by rw [← hp8]; exact hV115) hV118 rfl (by omega) (by omega) (by rw [← hpl]; omega); exact h9)⟩, ⟨by rw [ht]; exact hP, va_K.moved hW.alike hK, hD⟩, by rw [ht]; exact kr1, by rw [ht]; exact kr2⟩, hS.F ht⟩) hS.2.2 dX8_join_160
