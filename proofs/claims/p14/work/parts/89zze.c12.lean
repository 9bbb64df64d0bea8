/-! once nothing is under way, nothing comes -/
theorem rn_ne {B : Bk} {x : MS} {n : Nat} (h : (rnM B n x).2.2 ≠ []) {j : Nat} (hj : j ≤ n) : (rnM B j x).2.2 ≠ [] := fun e => h (by
  rw [show n = j + (n - j) from by omega, rnM_add]
  generalize rnM B j x = y at e ⊢
  obtain ⟨m, a, fs⟩ := y
  have e : fs = [] := e
  rw [e, rnM_nil])
/-- a run that goes well, or none -/
def GOx (B : Bk) (x : MS) : Prop := x.2.2 = [] ∨ GOs B x
theorem GOx.at {B : Bk} {x : MS} {n : Nat} (h : GOx B x) (q : (rnM B n x).2.2 ≠ []) : GOs B (rnM B n x) := by
  rcases h with h | h
  · exact absurd h (rn_ne (j := 0) q (Nat.zero_le _))
  · exact GOs.rn n h (fun j hj => rn_ne q (by omega))


abbrev r_x_run9 (Z : XZ) : Room := { frames := 7, cells := zcc Z, slots := zss Z, locals := 159 }
abbrev q_x_run9 (D : va_G) (ks : KS) (ad : Nat → Nat) (kk : Nat → ClassId) (V : Vf) (L : Lf) (Z : XZ) (b : Nat) (gB : Bk) (gx : MS) (A : Nat → Prop) : Array Value → State → Outcome → State → Prop := qZv D (fun (u : Vf × Lf × XZ) => rgd bX u.1 ∧ agr [(3, 13), (3, 14), (3, 15), (4, 5), (4, 6), (5, 6), (5, 7), (5, 8), (5, 9), (5, 10), (5, 11), (5, 12), (5, 13), (5, 14)] [24, 25, 26, 27, 28, 29, 30, 31, 32, 33, 34, 35, 36, 37, 39, 40, 67, 68, 69, 70, 71, 72, 73, 74, 75, 76, 77, 78, 79, 80, 81, 82, 83, 84, 85] V u.1 ∧ u.2.1 = L ∧ ZL Z u.2.2 ∧ (MJ u.1 u.2.2 b) ∧ (∃ n, (rnM gB n gx).2.2 = [] ∧ RW u.1 gB (rnM gB n gx))) (fun u => xw ad kk u.1 u.2.1 u.2.2) (fun u => xty kk u.2.2) (fun u => zcc Z - zcc u.2.2) (fun u => zss Z - zss u.2.2) A
set_option maxHeartbeats 4000000 in
set_option maxRecDepth 100000 in
theorem x_run9 (l : Launch) (D : va_G) (ks : KS) (sz : Nat) (ad : Nat → Nat) (kk : Nat → ClassId) (V : Vf) (L : Lf) (Z : XZ) (b : Nat) (gB : Bk) (gx : MS) (hMV : rgd bX V) (hb2 : b < 2) (mj : MJ V Z b) (rwq : RW V gB gx) (bc : BKc V b gB) (gox : GOx gB gx) (phi : ∃ n, n ≤ 999999 ∧ PHI gB gx n) (wfb : WFB gB)  : Met l yX5_run (Cond.code yX5_run cX5_run 3 none :: GW) (r_x_run9 Z) (va_Pc [.ref (ad 5)] (gp D ks (xw ad kk V L Z) (xty kk Z) sz)) (q_x_run9 D ks ad kk V L Z  b gB gx (va_A (xw ad kk V L Z) sz)) (zcc Z) (zss Z) (va_A (xw ad kk V L Z) sz) := by
  refine g_met (q_x_run9 D ks ad kk V L Z  b gB gx) (by decide) (Nat.le_of_ble_eq_true rfl) ?_
  intro p e s m below meth c A ls H locs hx hb hr hml hown hg hlocks hin hnw hgk hP hK hD hS hA hl
  replace hown : s.vm.findClass RX5 = some m.cls := hown
  replace hl : lv_has ls 3 [(0, .ref (ad 5))] := hl
  replace hP : va_P D vwCl (xw ad kk V L Z) H := hP
  replace hD : va_D A (xw ad kk V L Z) := hD
  replace hK : va_K D vwCl (xty kk Z) s := hK
  have agV : agr [(3, 13), (3, 14), (3, 15), (4, 5), (4, 6), (5, 6), (5, 7), (5, 8), (5, 9), (5, 10), (5, 11), (5, 12), (5, 13), (5, 14)] [24, 25, 26, 27, 28, 29, 30, 31, 32, 33, 34, 35, 36, 37, 39, 40, 67, 68, 69, 70, 71, 72, 73, 74, 75, 76, 77, 78, 79, 80, 81, 82, 83, 84, 85] V V := agr.rf
  have zoZ : ZL Z Z := ZL.rf
  refine W.know (fun ka kb => ?_)
  refine W.tight (k := zcc Z - zcc Z) (n := zss Z - zss Z) (by omega) (by omega) ?_
  refine lv_iconst (v := 0) hx hb dX5_run_0 (by decide) ?_
  refine lv_istore_n (lv' := [(1, .int 0), (0, .ref (ad 5))]) hx hb dX5_run_1 rfl hl (by decide) rfl (fun ls hl => ?_)
  have lp4 : ∀ (fulp4 : Nat) (y1 : Int32) (V2 : Vf) (Z3 : XZ) (H : Heap) (locs : List Loc) (ls : Array Slot), 0 ≤ y1.toInt ∧ y1.toInt ≤ 1000000 → MJ V2 Z3 b → (∃ n, y1.toInt ≤ ((n : Nat) : Int) ∧ RW V2 gB (rnM gB n gx)) → 1000000 - y1.toInt < (fulp4 : Int) → agr [(3, 13), (3, 14), (3, 15), (4, 5), (4, 6), (5, 6), (5, 7), (5, 8), (5, 9), (5, 10), (5, 11), (5, 12), (5, 13), (5, 14)] [24, 25, 26, 27, 28, 29, 30, 31, 32, 33, 34, 35, 36, 37, 39, 40, 67, 68, 69, 70, 71, 72, 73, 74, 75, 76, 77, 78, 79, 80, 81, 82, 83, 84, 85] V V2 → rgd bX V2 → ZL Z Z3 → va_K D vwCl (xty kk Z3) s → va_P D vwCl (xw ad kk V2 L Z3) H → va_D A (xw ad kk V2 L Z3) → va_S A s.heap H locs → lv_has ls 3 [(1, .int y1), (0, .ref (ad 5))] → W p l e (r_x_run9 Z) s m ([.ref (ad 5)] : List Value).toArray below meth c H locs (zcc Z - zcc Z3) (zss Z - zss Z3) (MQ below (q_x_run9 D ks ad kk V L Z  b gB gx A) ([.ref (ad 5)] : List Value).toArray s (zcc Z) (zss Z) A) (F0 m 2 ls []) := by
    intro fulp4
    induction fulp4 with
    | zero =>
      intro y1 V2 Z3 H locs ls klp4_0 xlp4_0 xlp4_1 hn ajV2 hMV2 zoZ3 hK hP hD hS hl
      exfalso; (first | exact om_13e3f9559dcb klp4_0.2 hn | omega)
    | succ fulp4 ihlp4 =>
      intro y1 V2 Z3 H locs ls klp4_0 xlp4_0 xlp4_1 hn ajV2 hMV2 zoZ3 hK hP hD hS hl
      have agV2 : agr [(3, 13), (3, 14), (3, 15), (4, 5), (4, 6), (5, 6), (5, 7), (5, 8), (5, 9), (5, 10), (5, 11), (5, 12), (5, 13), (5, 14)] [24, 25, 26, 27, 28, 29, 30, 31, 32, 33, 34, 35, 36, 37, 39, 40, 67, 68, 69, 70, 71, 72, 73, 74, 75, 76, 77, 78, 79, 80, 81, 82, 83, 84, 85] V V2 := agV.tr ajV2 (by decide) (by decide)
      have zmZ3 := zoZ3.1
      have znZ3 := zoZ3.2.1
      refine lv_iload_n hx hb dX5_run_2 rfl (lv_at hl 0 rfl) ?_
      refine lv_ldc (v := 1000000) hx hb hown (hg _ w1251) dX5_run_3 ?_
      refine lv_icmp_ge (tgt := 115) hx hb dX5_run_5 (by decide) (fun c5 => ?_) (fun c5 => ?_)
      · skip
        have f6 : 1000000 ≤ y1.toInt := b_le (by decide) rfl c5
        obtain ⟨n9, nt9, rw9⟩ := xlp4_1
        have ed9 : (rnM gB n9 gx).2.2 = [] := by
          rcases Decidable.em ((rnM gB n9 gx).2.2.length = 0) with h9 | h9
          · exact List.length_eq_zero_iff.mp h9
          · exfalso
            have h8 : (V2 5 6).toInt = (((rnM gB n9 gx).2.2.length : Nat) : Int) := rw9.2.2.1
            obtain ⟨N9, hN1, hN2⟩ := phi
            have h7 := PHI.lim wfb N9 (n9 + 1) gx hN2 (fun j9 hj9 => rn_ne (n := n9) (fun h6 => h9 (by rw [h6]; rfl)) (by omega))
            omega
        refine W.know (fun kr1 kr2 => ?_)
        refine W.widen (k := zcc Z) (n := zss Z) (Nat.sub_le _ _) (Nat.sub_le _ _) ?_
        exact W.vret hx hb hr (fun t ht hW => ⟨⟨(V2, L, Z3), rfl, ⟨hMV2, agV2, rfl, zoZ3, xlp4_0, ⟨n9, ed9, rw9⟩⟩, ⟨by rw [ht]; exact hP, va_K.moved hW.alike hK, hD⟩, by rw [ht]; exact kr1, by rw [ht]; exact kr2⟩, hS.F ht⟩) hS.2.2 dX5_run_115
      · skip
        have f7 : y1.toInt < 1000000 := b_nle (by decide) rfl c5
        refine lv_aload_n hx hb dX5_run_8 rfl (lv_at hl 1 rfl) ?_
        refine va_get (D := D) (ci := 5) (v := .int (V2 5 6)) (fs := (xfMachine ad V2 L Z3)) (C := RX5) (T := TX5) (N := 15) hx hb hg inX5 hown hK hP 5 xgMachine rfl 6 (by decide) (hg _ w673) (fun _ h9 => h9) rfl dX5_run_9 ?_
        have r8 : 0 ≤ ((V2 5 6)).toInt ∧ ((V2 5 6)).toInt ≤ 400 := hMV2 5 6
        refine lv_if_le (tgt := 115) hx hb dX5_run_12 (by decide) (fun c9 => ?_) (fun c9 => ?_)
        · skip
          have f10 : ((V2 5 6)).toInt ≤ 0 := b_le rfl (by decide) c9
          obtain ⟨n9, nt9, rw9⟩ := xlp4_1
          have ed9 : (rnM gB n9 gx).2.2 = [] := by
            rcases Decidable.em ((rnM gB n9 gx).2.2.length = 0) with h9 | h9
            · exact List.length_eq_zero_iff.mp h9
            · exfalso
              have h8 : (V2 5 6).toInt = (((rnM gB n9 gx).2.2.length : Nat) : Int) := rw9.2.2.1
              obtain ⟨N9, hN1, hN2⟩ := phi
              have h7 := PHI.lim wfb N9 (n9 + 1) gx hN2 (fun j9 hj9 => rn_ne (n := n9) (fun h6 => h9 (by rw [h6]; rfl)) (by omega))
              omega
          refine W.know (fun kr1 kr2 => ?_)
          refine W.widen (k := zcc Z) (n := zss Z) (Nat.sub_le _ _) (Nat.sub_le _ _) ?_
          exact W.vret hx hb hr (fun t ht hW => ⟨⟨(V2, L, Z3), rfl, ⟨hMV2, agV2, rfl, zoZ3, xlp4_0, ⟨n9, ed9, rw9⟩⟩, ⟨by rw [ht]; exact hP, va_K.moved hW.alike hK, hD⟩, by rw [ht]; exact kr1, by rw [ht]; exact kr2⟩, hS.F ht⟩) hS.2.2 dX5_run_115
        · skip
          have f11 : 0 < ((V2 5 6)).toInt := b_nle rfl (by decide) c9
          have hdn := MJ.dn xlp4_0 (by (first | exact om_610a4af05d44 f11 | omega))
          obtain ⟨n9, nt9, rw9⟩ := xlp4_1
          obtain ⟨m2, a2, fs2, er9⟩ : ∃ m2 a2 fs2, rnM gB n9 gx = (m2, a2, fs2) := ⟨_, _, _, rfl⟩
          rw [er9] at rw9
          obtain ⟨f2, r2, hf2⟩ : ∃ f2 r2, fs2 = f2 :: r2 := by
            cases fs2 with
            | nil => exfalso; have h9 : (V2 5 6).toInt = ((0 : Nat) : Int) := rw9.2.2.1; omega
            | cons a b => exact ⟨a, b, rfl⟩
          rw [hf2] at er9 rw9
          have ne9 : (rnM gB n9 gx).2.2 ≠ [] := by rw [er9]; exact fun h9 => by cases h9
          have go9 : GOs gB (m2, a2, f2 :: r2) := by rw [← er9]; exact GOx.at gox ne9
          have sf := GOs.sf go9
          refine lv_aload_n hx hb dX5_run_15 rfl (lv_at hl 1 rfl) ?_
          refine va_get (D := D) (ci := 5) (v := .ref (ad 35)) (fs := (xfMachine ad V2 L Z3)) (C := RX5) (T := TX5) (N := 15) hx hb hg inX5 hown hK hP 5 xgMachine rfl 2 (by decide) (hg _ w669) (fun _ h9 => h9) rfl dX5_run_16 ?_
          refine lv_aload_n hx hb dX5_run_19 rfl (lv_at hl 1 rfl) ?_
          refine va_get (D := D) (ci := 5) (v := .int (V2 5 6)) (fs := (xfMachine ad V2 L Z3)) (C := RX5) (T := TX5) (N := 15) hx hb hg inX5 hown hK hP 5 xgMachine rfl 6 (by decide) (hg _ w673) (fun _ h9 => h9) rfl dX5_run_20 ?_
          refine lv_iconst (v := 1) hx hb dX5_run_23 (by decide) ?_
          refine lv_isub hx hb dX5_run_24 ?_
          refine lv_topi (fun z12 ez12 => ?_)
          have hz12 : z12.toInt = ((V2 5 6)).toInt - 1 := i_sub ez12 rfl (by decide) (by (first | exact om_3d6fa717bec1 r8.2 f11 | omega))
          refine va_aldq (D := D) (i := z12) hx hb hK hP 35 28 rfl rfl (i_in (a := z12.toInt) rfl (by (first | exact om_138cba0bf25b r8.2 f11 hz12 | omega))) dX5_run_25 ?_
          have kc13 := i_clamp (x := z12) rfl (by (first | exact om_9271d0948665 f11 hz12 | omega))
          refine g_topv (v := .ref (Z3.fa (Int32.toNatClampNeg z12))) (by exact congrArg va_rf (if_pos (by omega))) ?_
          have il14 : (Int32.toNatClampNeg z12) < Z3.nf := by (first | exact om_ea4c74f9597c hdn.1 hz12 kc13 | omega)
          refine lv_astore_n (lv' := [(2, .ref (Z3.fa (Int32.toNatClampNeg z12))), (1, .int y1), (0, .ref (ad 5))]) hx hb dX5_run_26 rfl hl (by decide) rfl (fun ls hl => ?_)
          refine lv_aload_n hx hb dX5_run_27 rfl (lv_at hl 0 rfl) ?_
          refine va_getN (D := D) (ci := 4) (v := .int (V2 67 (Int32.toNatClampNeg z12))) (fs := (xfFrame V2 (Int32.toNatClampNeg z12))) (C := RX4) (T := TX4) (N := 19) hx hb hg inX4 hown hK hP (336 + (Int32.toNatClampNeg z12)) (xgFrame il14) rfl 0 (by decide) (hnw.use 1189 n1189 rfl) (fun _ h9 => h9) rfl dX5_run_28 ?_
          by_cases q15 : (V2 67 (Int32.toNatClampNeg z12)) = 0
          · refine g_top (v := 0) q15 ?_
            have fq15 : ((V2 67 (Int32.toNatClampNeg z12))).toInt = 0 := b_eq rfl (by decide) q15
            refine lv_tableIn (x := 0) (off := 33) (tgt := 64) hx hb dX5_run_31 (by decide) (by decide) (by decide) (by decide) ?_
            refine lv_aload_n hx hb dX5_run_64 rfl (lv_at hl 2 rfl) ?_
            refine lv_aload_n hx hb dX5_run_65 rfl (lv_at hl 0 rfl) ?_
            have bc16 : BKc V2 b gB := BKc.b4 bc (agr.b4 (show agr [(3, 13), (3, 14), (3, 15), (4, 5), (4, 6), (5, 6), (5, 7), (5, 8), (5, 9), (5, 10), (5, 11), (5, 12), (5, 13), (5, 14)] [24, 25, 26, 27, 28, 29, 30, 31, 32, 33, 34, 35, 36, 37, 39, 40, 67, 68, 69, 70, 71, 72, 73, 74, 75, 76, 77, 78, 79, 80, 81, 82, 83, 84, 85] V V2 from (agr.tr agr.rf ajV2 (by decide) (by decide))) (by decide))
            refine W.know (fun k18 k19 => ?_)
            obtain ⟨Hk17, hHk17⟩ : ∃ z, z = H := ⟨_, rfl⟩
            have k18 : Hk17.size ≤ s.heap.size + (zcc Z - zcc Z3) := by rw [hHk17]; exact k18
            have k19 : tot Hk17 ≤ tot s.heap + (zss Z - zss Z3) := by rw [hHk17]; exact k19
            refine gZ_void (gA_runV (As := [.ref (Z3.fa (Int32.toNatClampNeg z12))]) (rest := []) (ci := 5) (q0 := 5) hx hb hml hown hg hP hD hK hS hA hnw hgk (x_goOnGetting9 l D ks H.size ad kk V2 L Z3 (b) ((Int32.toNatClampNeg z12)) (gB) (m2) (a2) (f2) (r2) hMV2 (show b < 2 from by (first | exact om_f940a4667dd6 hb2 | omega)) (show (Int32.toNatClampNeg z12) < Z3.nf from by (first | exact om_8c5722e49bb1 il14 | omega)) (MJ.op (d := (Int32.toNatClampNeg z12)) xlp4_0 (by omega)) (show ((Int32.toNatClampNeg z12) : Int) + 1 = (V2 5 6).toInt from by (first | exact om_c968828d0a40 hz12 kc13 | omega)) (show (V2 67 (Int32.toNatClampNeg z12)).toInt = 0 from by (first | exact om_b66ba74381d5 fq15 | omega)) rw9 bc16 sf) w1252 w1254 w44 w171 w1255 rfl xgMachine hdV_yX5_goOnGetting ⟨Nat.le_of_ble_eq_true rfl, Nat.le_of_ble_eq_true rfl⟩ rfl hl.1 rfl (Nat.le_of_ble_eq_true rfl) dX5_run_66 ⟨z1 zoZ3.1, z1 zoZ3.2.1⟩) hD hS hA (fun u21 H locs w22 hP hD hK hS y23 y24 => ?_)
            obtain ⟨V25, L26, Z27⟩ := u21
            obtain ⟨hMV25, ajV25, axL26, zlZ27, t29, t30⟩ := w22
            have axL26 : L = L26 := Eq.symm axL26
            subst axL26
            replace hP : va_P D vwCl (xw ad kk V25 L Z27) H := hP
            replace hD : va_D A (xw ad kk V25 L Z27) := hD
            replace hK : va_K D vwCl (xty kk Z27) s := hK
            replace hMV25 : rgd bX V25 := hMV25
            replace ajV25 : agr [(3, 13), (5, 6), (5, 8), (5, 9), (5, 10), (5, 11), (5, 12), (5, 13), (5, 14)] [25, 26, 27, 28, 30, 67, 68, 69, 70, 71, 72, 73, 74, 75, 76, 77, 78, 79, 80, 81, 82, 83, 84, 85] V2 V25 := ajV25
            have agV25 : agr [(3, 13), (3, 14), (3, 15), (4, 5), (4, 6), (5, 6), (5, 7), (5, 8), (5, 9), (5, 10), (5, 11), (5, 12), (5, 13), (5, 14)] [24, 25, 26, 27, 28, 29, 30, 31, 32, 33, 34, 35, 36, 37, 39, 40, 67, 68, 69, 70, 71, 72, 73, 74, 75, 76, 77, 78, 79, 80, 81, 82, 83, 84, 85] V V25 := agV2.tr ajV25 (by decide) (by decide)
            replace zlZ27 : ZL Z3 Z27 := zlZ27
            have zoZ27 : ZL Z Z27 := ZL.tr zoZ3 zlZ27
            have ziZ27 := zlZ27.1
            have zjZ27 := zlZ27.2.1
            have zkZ27 := zlZ27.2.2.1
            have zmZ27 := zoZ27.1
            have znZ27 := zoZ27.2.1
            have zpZ3_Z27 := zoZ3.1
            have zqZ3_Z27 := zoZ3.2.1
            have y23 : H.size ≤ Hk17.size + (zcc Z3 - zcc Z27) := by rw [hHk17]; exact y23
            have y24 : tot H ≤ tot Hk17 + (zss Z3 - zss Z27) := by rw [hHk17]; exact y24
            refine W.tight (k := zcc Z - zcc Z27) (n := zss Z - zss Z27) (by first | exact tg9 y23 k18 zlZ27.1 zoZ3.1 | omega) (by first | exact tg9 y24 k19 zlZ27.2.1 zoZ3.2.1 | omega) ?_
            have hl : lv_has ls 3 [(2, .ref (Z27.fa (Int32.toNatClampNeg z12))), (1, .int y1), (0, .ref (ad 5))] := by rw [zlZ27.2.2.2.2 (Int32.toNatClampNeg z12) il14]; exact hl
            replace t29 : MJ V25 Z27 b := t29
            replace t30 : RW V25 gB (stM gB (m2, a2, f2 :: r2)) := t30
            refine lv_goto (tgt := 109) hx hb dX5_run_69 (by decide) ?_
            obtain ⟨z31, ez31⟩ : ∃ y : Int32, y = y1 + 1 := ⟨_, rfl⟩
            have hz31 : z31.toInt = y1.toInt + 1 := i_add ez31 rfl (by decide) (by (first | exact om_7cfca28772a4 klp4_0.1 f7 | omega))
            refine lv_iinc (v := z31) (lv' := [(1, .int z31), (2, .ref (Z27.fa (Int32.toNatClampNeg z12))), (0, .ref (ad 5))]) hx hb dX5_run_109 hl (k := 1) rfl (by rw [ez31]; rfl) (by decide) rfl (fun ls hl => ?_)
            refine lv_goto (tgt := 2) hx hb dX5_run_112 (by decide) ?_
            exact ihlp4 z31 V25 Z27 H locs ls (by (first | exact om_6036b630f734 klp4_0.1 f7 hz31 | omega)) t29 ⟨n9 + 1, by omega, (by rw [rnM_add, er9]; exact t30)⟩ (by (first | exact om_4c597ccc4a45 hn hz31 | omega)) (agr.tr (agr.tr agr.rf ajV2 (by decide) (by decide)) ajV25 (by decide) (by decide)) hMV25 zoZ27 hK hP hD hS (lv_sub hl [0, 2] rfl)
          have gq15 : ((V2 67 (Int32.toNatClampNeg z12))).toInt ≠ 0 := b_neq rfl (by decide) q15
          by_cases q32 : (V2 67 (Int32.toNatClampNeg z12)) = 1
          · refine g_top (v := 1) q32 ?_
            have fq32 : ((V2 67 (Int32.toNatClampNeg z12))).toInt = 1 := b_eq rfl (by decide) q32
            refine lv_tableIn (x := 1) (off := 41) (tgt := 72) hx hb dX5_run_31 (by decide) (by decide) (by decide) (by decide) ?_
            refine lv_aload_n hx hb dX5_run_72 rfl (lv_at hl 2 rfl) ?_
            refine lv_aload_n hx hb dX5_run_73 rfl (lv_at hl 0 rfl) ?_
            have bc33 : BKc V2 b gB := BKc.b4 bc (agr.b4 (show agr [(3, 13), (3, 14), (3, 15), (4, 5), (4, 6), (5, 6), (5, 7), (5, 8), (5, 9), (5, 10), (5, 11), (5, 12), (5, 13), (5, 14)] [24, 25, 26, 27, 28, 29, 30, 31, 32, 33, 34, 35, 36, 37, 39, 40, 67, 68, 69, 70, 71, 72, 73, 74, 75, 76, 77, 78, 79, 80, 81, 82, 83, 84, 85] V V2 from (agr.tr agr.rf ajV2 (by decide) (by decide))) (by decide))
            refine W.know (fun k35 k36 => ?_)
            obtain ⟨Hk34, hHk34⟩ : ∃ z, z = H := ⟨_, rfl⟩
            have k35 : Hk34.size ≤ s.heap.size + (zcc Z - zcc Z3) := by rw [hHk34]; exact k35
            have k36 : tot Hk34 ≤ tot s.heap + (zss Z - zss Z3) := by rw [hHk34]; exact k36
            refine gZ_void (gA_runV (As := [.ref (Z3.fa (Int32.toNatClampNeg z12))]) (rest := []) (ci := 5) (q0 := 5) hx hb hml hown hg hP hD hK hS hA hnw hgk (x_goOnMaking9 l D ks H.size ad kk V2 L Z3 (b) ((Int32.toNatClampNeg z12)) (gB) (m2) (a2) (f2) (r2) hMV2 (show b < 2 from by (first | exact om_f940a4667dd6 hb2 | omega)) (show (Int32.toNatClampNeg z12) < Z3.nf from by (first | exact om_8c5722e49bb1 il14 | omega)) (MJ.op (d := (Int32.toNatClampNeg z12)) xlp4_0 (by omega)) (show ((Int32.toNatClampNeg z12) : Int) + 1 = (V2 5 6).toInt from by (first | exact om_c968828d0a40 hz12 kc13 | omega)) (show (V2 67 (Int32.toNatClampNeg z12)).toInt = 1 from by (first | exact om_710535a98d88 fq32 | omega)) rw9 bc33 sf) w1328 w1330 w53 w171 w1331 rfl xgMachine hdV_yX5_goOnMaking ⟨Nat.le_of_ble_eq_true rfl, Nat.le_of_ble_eq_true rfl⟩ rfl hl.1 rfl (Nat.le_of_ble_eq_true rfl) dX5_run_74 ⟨z1 zoZ3.1, z1 zoZ3.2.1⟩) hD hS hA (fun u38 H locs w39 hP hD hK hS y40 y41 => ?_)
            obtain ⟨V42, L43, Z44⟩ := u38
            obtain ⟨hMV42, ajV42, axL43, zlZ44, t46, t47⟩ := w39
            have axL43 : L = L43 := Eq.symm axL43
            subst axL43
            replace hP : va_P D vwCl (xw ad kk V42 L Z44) H := hP
            replace hD : va_D A (xw ad kk V42 L Z44) := hD
            replace hK : va_K D vwCl (xty kk Z44) s := hK
            replace hMV42 : rgd bX V42 := hMV42
            replace ajV42 : agr [(3, 13), (3, 14), (3, 15), (5, 6), (5, 8), (5, 9), (5, 10), (5, 11), (5, 12), (5, 13), (5, 14)] [24, 25, 26, 27, 28, 29, 30, 31, 32, 40, 67, 68, 69, 70, 71, 72, 73, 74, 75, 76, 77, 78, 79, 80, 81, 82, 83, 84, 85] V2 V42 := ajV42
            have agV42 : agr [(3, 13), (3, 14), (3, 15), (4, 5), (4, 6), (5, 6), (5, 7), (5, 8), (5, 9), (5, 10), (5, 11), (5, 12), (5, 13), (5, 14)] [24, 25, 26, 27, 28, 29, 30, 31, 32, 33, 34, 35, 36, 37, 39, 40, 67, 68, 69, 70, 71, 72, 73, 74, 75, 76, 77, 78, 79, 80, 81, 82, 83, 84, 85] V V42 := agV2.tr ajV42 (by decide) (by decide)
            replace zlZ44 : ZL Z3 Z44 := zlZ44
            have zoZ44 : ZL Z Z44 := ZL.tr zoZ3 zlZ44
            have ziZ44 := zlZ44.1
            have zjZ44 := zlZ44.2.1
            have zkZ44 := zlZ44.2.2.1
            have zmZ44 := zoZ44.1
            have znZ44 := zoZ44.2.1
            have zpZ3_Z44 := zoZ3.1
            have zqZ3_Z44 := zoZ3.2.1
            have y40 : H.size ≤ Hk34.size + (zcc Z3 - zcc Z44) := by rw [hHk34]; exact y40
            have y41 : tot H ≤ tot Hk34 + (zss Z3 - zss Z44) := by rw [hHk34]; exact y41
            refine W.tight (k := zcc Z - zcc Z44) (n := zss Z - zss Z44) (by first | exact tg9 y40 k35 zlZ44.1 zoZ3.1 | omega) (by first | exact tg9 y41 k36 zlZ44.2.1 zoZ3.2.1 | omega) ?_
            have hl : lv_has ls 3 [(2, .ref (Z44.fa (Int32.toNatClampNeg z12))), (1, .int y1), (0, .ref (ad 5))] := by rw [zlZ44.2.2.2.2 (Int32.toNatClampNeg z12) il14]; exact hl
            replace t46 : MJ V42 Z44 b := t46
            replace t47 : RW V42 gB (stM gB (m2, a2, f2 :: r2)) := t47
            refine lv_goto (tgt := 109) hx hb dX5_run_77 (by decide) ?_
            obtain ⟨z48, ez48⟩ : ∃ y : Int32, y = y1 + 1 := ⟨_, rfl⟩
            have hz48 : z48.toInt = y1.toInt + 1 := i_add ez48 rfl (by decide) (by (first | exact om_7cfca28772a4 klp4_0.1 f7 | omega))
            refine lv_iinc (v := z48) (lv' := [(1, .int z48), (2, .ref (Z44.fa (Int32.toNatClampNeg z12))), (0, .ref (ad 5))]) hx hb dX5_run_109 hl (k := 1) rfl (by rw [ez48]; rfl) (by decide) rfl (fun ls hl => ?_)
            refine lv_goto (tgt := 2) hx hb dX5_run_112 (by decide) ?_
            exact ihlp4 z48 V42 Z44 H locs ls (by (first | exact om_6036b630f734 klp4_0.1 f7 hz48 | omega)) t46 ⟨n9 + 1, by omega, (by rw [rnM_add, er9]; exact t47)⟩ (by (first | exact om_4c597ccc4a45 hn hz48 | omega)) (agr.tr (agr.tr agr.rf ajV2 (by decide) (by decide)) ajV42 (by decide) (by decide)) hMV42 zoZ44 hK hP hD hS (lv_sub hl [0, 2] rfl)
          have gq32 : ((V2 67 (Int32.toNatClampNeg z12))).toInt ≠ 1 := b_neq rfl (by decide) q32
          by_cases q49 : (V2 67 (Int32.toNatClampNeg z12)) = 2
          · refine g_top (v := 2) q49 ?_
            have fq49 : ((V2 67 (Int32.toNatClampNeg z12))).toInt = 2 := b_eq rfl (by decide) q49
            refine lv_tableIn (x := 2) (off := 49) (tgt := 80) hx hb dX5_run_31 (by decide) (by decide) (by decide) (by decide) ?_
            refine lv_aload_n hx hb dX5_run_80 rfl (lv_at hl 2 rfl) ?_
            refine lv_aload_n hx hb dX5_run_81 rfl (lv_at hl 0 rfl) ?_
            have bc50 : BKc V2 b gB := BKc.b4 bc (agr.b4 (show agr [(3, 13), (3, 14), (3, 15), (4, 5), (4, 6), (5, 6), (5, 7), (5, 8), (5, 9), (5, 10), (5, 11), (5, 12), (5, 13), (5, 14)] [24, 25, 26, 27, 28, 29, 30, 31, 32, 33, 34, 35, 36, 37, 39, 40, 67, 68, 69, 70, 71, 72, 73, 74, 75, 76, 77, 78, 79, 80, 81, 82, 83, 84, 85] V V2 from (agr.tr agr.rf ajV2 (by decide) (by decide))) (by decide))
            refine W.know (fun k52 k53 => ?_)
            obtain ⟨Hk51, hHk51⟩ : ∃ z, z = H := ⟨_, rfl⟩
            have k52 : Hk51.size ≤ s.heap.size + (zcc Z - zcc Z3) := by rw [hHk51]; exact k52
            have k53 : tot Hk51 ≤ tot s.heap + (zss Z - zss Z3) := by rw [hHk51]; exact k53
            refine gZ_void (gA_runV (As := [.ref (Z3.fa (Int32.toNatClampNeg z12))]) (rest := []) (ci := 5) (q0 := 5) hx hb hml hown hg hP hD hK hS hA hnw hgk (x_goOnCalling9 l D ks H.size ad kk V2 L Z3 (b) ((Int32.toNatClampNeg z12)) (gB) (m2) (a2) (f2) (r2) hMV2 (show b < 2 from by (first | exact om_f940a4667dd6 hb2 | omega)) (show (Int32.toNatClampNeg z12) < Z3.nf from by (first | exact om_8c5722e49bb1 il14 | omega)) (MJ.op (d := (Int32.toNatClampNeg z12)) xlp4_0 (by omega)) (show ((Int32.toNatClampNeg z12) : Int) + 1 = (V2 5 6).toInt from by (first | exact om_c968828d0a40 hz12 kc13 | omega)) (show (V2 67 (Int32.toNatClampNeg z12)).toInt = 2 from by (first | exact om_6aa5e6f8c558 fq49 | omega)) rw9 bc50 sf) w1380 w1382 w58 w171 w1383 rfl xgMachine hdV_yX5_goOnCalling ⟨Nat.le_of_ble_eq_true rfl, Nat.le_of_ble_eq_true rfl⟩ rfl hl.1 rfl (Nat.le_of_ble_eq_true rfl) dX5_run_82 ⟨z1 zoZ3.1, z1 zoZ3.2.1⟩) hD hS hA (fun u55 H locs w56 hP hD hK hS y57 y58 => ?_)
            obtain ⟨V59, L60, Z61⟩ := u55
            obtain ⟨hMV59, ajV59, axL60, zlZ61, t63, t64⟩ := w56
            have axL60 : L = L60 := Eq.symm axL60
            subst axL60
            replace hP : va_P D vwCl (xw ad kk V59 L Z61) H := hP
            replace hD : va_D A (xw ad kk V59 L Z61) := hD
            replace hK : va_K D vwCl (xty kk Z61) s := hK
            replace hMV59 : rgd bX V59 := hMV59
            replace ajV59 : agr [(4, 5), (5, 6), (5, 9), (5, 11), (5, 12), (5, 13), (5, 14)] [33, 34, 35, 67, 68, 69, 70, 71, 72, 73, 74, 75, 76, 77, 78, 79, 80, 81, 82, 83, 84, 85] V2 V59 := ajV59
            have agV59 : agr [(3, 13), (3, 14), (3, 15), (4, 5), (4, 6), (5, 6), (5, 7), (5, 8), (5, 9), (5, 10), (5, 11), (5, 12), (5, 13), (5, 14)] [24, 25, 26, 27, 28, 29, 30, 31, 32, 33, 34, 35, 36, 37, 39, 40, 67, 68, 69, 70, 71, 72, 73, 74, 75, 76, 77, 78, 79, 80, 81, 82, 83, 84, 85] V V59 := agV2.tr ajV59 (by decide) (by decide)
            replace zlZ61 : ZL Z3 Z61 := zlZ61
            have zoZ61 : ZL Z Z61 := ZL.tr zoZ3 zlZ61
            have ziZ61 := zlZ61.1
            have zjZ61 := zlZ61.2.1
            have zkZ61 := zlZ61.2.2.1
            have zmZ61 := zoZ61.1
            have znZ61 := zoZ61.2.1
            have zpZ3_Z61 := zoZ3.1
            have zqZ3_Z61 := zoZ3.2.1
            have y57 : H.size ≤ Hk51.size + (zcc Z3 - zcc Z61) := by rw [hHk51]; exact y57
            have y58 : tot H ≤ tot Hk51 + (zss Z3 - zss Z61) := by rw [hHk51]; exact y58
            refine W.tight (k := zcc Z - zcc Z61) (n := zss Z - zss Z61) (by first | exact tg9 y57 k52 zlZ61.1 zoZ3.1 | omega) (by first | exact tg9 y58 k53 zlZ61.2.1 zoZ3.2.1 | omega) ?_
            have hl : lv_has ls 3 [(2, .ref (Z61.fa (Int32.toNatClampNeg z12))), (1, .int y1), (0, .ref (ad 5))] := by rw [zlZ61.2.2.2.2 (Int32.toNatClampNeg z12) il14]; exact hl
            replace t63 : MJ V59 Z61 b := t63
            replace t64 : RW V59 gB (stM gB (m2, a2, f2 :: r2)) := t64
            refine lv_goto (tgt := 109) hx hb dX5_run_85 (by decide) ?_
            obtain ⟨z65, ez65⟩ : ∃ y : Int32, y = y1 + 1 := ⟨_, rfl⟩
            have hz65 : z65.toInt = y1.toInt + 1 := i_add ez65 rfl (by decide) (by (first | exact om_7cfca28772a4 klp4_0.1 f7 | omega))
            refine lv_iinc (v := z65) (lv' := [(1, .int z65), (2, .ref (Z61.fa (Int32.toNatClampNeg z12))), (0, .ref (ad 5))]) hx hb dX5_run_109 hl (k := 1) rfl (by rw [ez65]; rfl) (by decide) rfl (fun ls hl => ?_)
            refine lv_goto (tgt := 2) hx hb dX5_run_112 (by decide) ?_
            exact ihlp4 z65 V59 Z61 H locs ls (by (first | exact om_6036b630f734 klp4_0.1 f7 hz65 | omega)) t63 ⟨n9 + 1, by omega, (by rw [rnM_add, er9]; exact t64)⟩ (by (first | exact om_4c597ccc4a45 hn hz65 | omega)) (agr.tr (agr.tr agr.rf ajV2 (by decide) (by decide)) ajV59 (by decide) (by decide)) hMV59 zoZ61 hK hP hD hS (lv_sub hl [0, 2] rfl)
          have gq49 : ((V2 67 (Int32.toNatClampNeg z12))).toInt ≠ 2 := b_neq rfl (by decide) q49
          by_cases q66 : (V2 67 (Int32.toNatClampNeg z12)) = 3
          · refine g_top (v := 3) q66 ?_
            have fq66 : ((V2 67 (Int32.toNatClampNeg z12))).toInt = 3 := b_eq rfl (by decide) q66
            refine lv_tableIn (x := 3) (off := 57) (tgt := 88) hx hb dX5_run_31 (by decide) (by decide) (by decide) (by decide) ?_
            refine lv_aload_n hx hb dX5_run_88 rfl (lv_at hl 2 rfl) ?_
            refine lv_aload_n hx hb dX5_run_89 rfl (lv_at hl 0 rfl) ?_
            have bc67 : BKc V2 b gB := BKc.b4 bc (agr.b4 (show agr [(3, 13), (3, 14), (3, 15), (4, 5), (4, 6), (5, 6), (5, 7), (5, 8), (5, 9), (5, 10), (5, 11), (5, 12), (5, 13), (5, 14)] [24, 25, 26, 27, 28, 29, 30, 31, 32, 33, 34, 35, 36, 37, 39, 40, 67, 68, 69, 70, 71, 72, 73, 74, 75, 76, 77, 78, 79, 80, 81, 82, 83, 84, 85] V V2 from (agr.tr agr.rf ajV2 (by decide) (by decide))) (by decide))
            refine W.know (fun k69 k70 => ?_)
            obtain ⟨Hk68, hHk68⟩ : ∃ z, z = H := ⟨_, rfl⟩
            have k69 : Hk68.size ≤ s.heap.size + (zcc Z - zcc Z3) := by rw [hHk68]; exact k69
            have k70 : tot Hk68 ≤ tot s.heap + (zss Z - zss Z3) := by rw [hHk68]; exact k70
            refine gZ_void (gA_runV (As := [.ref (Z3.fa (Int32.toNatClampNeg z12))]) (rest := []) (ci := 5) (q0 := 5) hx hb hml hown hg hP hD hK hS hA hnw hgk (x_goOnInside9 l D ks H.size ad kk V2 L Z3 (b) ((Int32.toNatClampNeg z12)) (gB) (m2) (a2) (f2) (r2) hMV2 (show b < 2 from by (first | exact om_f940a4667dd6 hb2 | omega)) (show (Int32.toNatClampNeg z12) < Z3.nf from by (first | exact om_8c5722e49bb1 il14 | omega)) (MJ.op (d := (Int32.toNatClampNeg z12)) xlp4_0 (by omega)) (show ((Int32.toNatClampNeg z12) : Int) + 1 = (V2 5 6).toInt from by (first | exact om_c968828d0a40 hz12 kc13 | omega)) (show (V2 67 (Int32.toNatClampNeg z12)).toInt = 3 from by (first | exact om_395e3da5ee0d fq66 | omega)) rw9 bc67 sf) w1411 w1413 w63 w171 w1414 rfl xgMachine hdV_yX5_goOnInside ⟨Nat.le_of_ble_eq_true rfl, Nat.le_of_ble_eq_true rfl⟩ rfl hl.1 rfl (Nat.le_of_ble_eq_true rfl) dX5_run_90 ⟨z1 zoZ3.1, z1 zoZ3.2.1⟩) hD hS hA (fun u72 H locs w73 hP hD hK hS y74 y75 => ?_)
            obtain ⟨V76, L77, Z78⟩ := u72
            obtain ⟨hMV76, ajV76, axL77, zlZ78, t80, t81⟩ := w73
            have axL77 : L = L77 := Eq.symm axL77
            subst axL77
            replace hP : va_P D vwCl (xw ad kk V76 L Z78) H := hP
            replace hD : va_D A (xw ad kk V76 L Z78) := hD
            replace hK : va_K D vwCl (xty kk Z78) s := hK
            replace hMV76 : rgd bX V76 := hMV76
            replace ajV76 : agr [(4, 5), (5, 6), (5, 9), (5, 10), (5, 11), (5, 12)] [33, 34, 35, 67, 68, 69, 70, 71, 72, 73, 74, 75, 76, 77, 78, 79, 80, 81, 82, 83, 84, 85] V2 V76 := ajV76
            have agV76 : agr [(3, 13), (3, 14), (3, 15), (4, 5), (4, 6), (5, 6), (5, 7), (5, 8), (5, 9), (5, 10), (5, 11), (5, 12), (5, 13), (5, 14)] [24, 25, 26, 27, 28, 29, 30, 31, 32, 33, 34, 35, 36, 37, 39, 40, 67, 68, 69, 70, 71, 72, 73, 74, 75, 76, 77, 78, 79, 80, 81, 82, 83, 84, 85] V V76 := agV2.tr ajV76 (by decide) (by decide)
            replace zlZ78 : ZL Z3 Z78 := zlZ78
            have zoZ78 : ZL Z Z78 := ZL.tr zoZ3 zlZ78
            have ziZ78 := zlZ78.1
            have zjZ78 := zlZ78.2.1
            have zkZ78 := zlZ78.2.2.1
            have zmZ78 := zoZ78.1
            have znZ78 := zoZ78.2.1
            have zpZ3_Z78 := zoZ3.1
            have zqZ3_Z78 := zoZ3.2.1
            have y74 : H.size ≤ Hk68.size + (zcc Z3 - zcc Z78) := by rw [hHk68]; exact y74
            have y75 : tot H ≤ tot Hk68 + (zss Z3 - zss Z78) := by rw [hHk68]; exact y75
            refine W.tight (k := zcc Z - zcc Z78) (n := zss Z - zss Z78) (by first | exact tg9 y74 k69 zlZ78.1 zoZ3.1 | omega) (by first | exact tg9 y75 k70 zlZ78.2.1 zoZ3.2.1 | omega) ?_
            have hl : lv_has ls 3 [(2, .ref (Z78.fa (Int32.toNatClampNeg z12))), (1, .int y1), (0, .ref (ad 5))] := by rw [zlZ78.2.2.2.2 (Int32.toNatClampNeg z12) il14]; exact hl
            replace t80 : MJ V76 Z78 b := t80
            replace t81 : RW V76 gB (stM gB (m2, a2, f2 :: r2)) := t81
            refine lv_goto (tgt := 109) hx hb dX5_run_93 (by decide) ?_
            obtain ⟨z82, ez82⟩ : ∃ y : Int32, y = y1 + 1 := ⟨_, rfl⟩
            have hz82 : z82.toInt = y1.toInt + 1 := i_add ez82 rfl (by decide) (by (first | exact om_7cfca28772a4 klp4_0.1 f7 | omega))
            refine lv_iinc (v := z82) (lv' := [(1, .int z82), (2, .ref (Z78.fa (Int32.toNatClampNeg z12))), (0, .ref (ad 5))]) hx hb dX5_run_109 hl (k := 1) rfl (by rw [ez82]; rfl) (by decide) rfl (fun ls hl => ?_)
            refine lv_goto (tgt := 2) hx hb dX5_run_112 (by decide) ?_
            exact ihlp4 z82 V76 Z78 H locs ls (by (first | exact om_6036b630f734 klp4_0.1 f7 hz82 | omega)) t80 ⟨n9 + 1, by omega, (by rw [rnM_add, er9]; exact t81)⟩ (by (first | exact om_4c597ccc4a45 hn hz82 | omega)) (agr.tr (agr.tr agr.rf ajV2 (by decide) (by decide)) ajV76 (by decide) (by decide)) hMV76 zoZ78 hK hP hD hS (lv_sub hl [0, 2] rfl)
          have gq66 : ((V2 67 (Int32.toNatClampNeg z12))).toInt ≠ 3 := b_neq rfl (by decide) q66
          by_cases q83 : (V2 67 (Int32.toNatClampNeg z12)) = 4
          · refine g_top (v := 4) q83 ?_
            have fq83 : ((V2 67 (Int32.toNatClampNeg z12))).toInt = 4 := b_eq rfl (by decide) q83
            refine lv_tableIn (x := 4) (off := 65) (tgt := 96) hx hb dX5_run_31 (by decide) (by decide) (by decide) (by decide) ?_
            refine lv_aload_n hx hb dX5_run_96 rfl (lv_at hl 2 rfl) ?_
            refine lv_aload_n hx hb dX5_run_97 rfl (lv_at hl 0 rfl) ?_
            have bc84 : BKc V2 b gB := BKc.b4 bc (agr.b4 (show agr [(3, 13), (3, 14), (3, 15), (4, 5), (4, 6), (5, 6), (5, 7), (5, 8), (5, 9), (5, 10), (5, 11), (5, 12), (5, 13), (5, 14)] [24, 25, 26, 27, 28, 29, 30, 31, 32, 33, 34, 35, 36, 37, 39, 40, 67, 68, 69, 70, 71, 72, 73, 74, 75, 76, 77, 78, 79, 80, 81, 82, 83, 84, 85] V V2 from (agr.tr agr.rf ajV2 (by decide) (by decide))) (by decide))
            refine W.know (fun k86 k87 => ?_)
            obtain ⟨Hk85, hHk85⟩ : ∃ z, z = H := ⟨_, rfl⟩
            have k86 : Hk85.size ≤ s.heap.size + (zcc Z - zcc Z3) := by rw [hHk85]; exact k86
            have k87 : tot Hk85 ≤ tot s.heap + (zss Z - zss Z3) := by rw [hHk85]; exact k87
            refine gZ_void (gA_runV (As := [.ref (Z3.fa (Int32.toNatClampNeg z12))]) (rest := []) (ci := 5) (q0 := 5) hx hb hml hown hg hP hD hK hS hA hnw hgk (x_goOnWorking9 l D ks H.size ad kk V2 L Z3 (b) ((Int32.toNatClampNeg z12)) (gB) (m2) (a2) (f2) (r2) hMV2 (show b < 2 from by (first | exact om_f940a4667dd6 hb2 | omega)) (show (Int32.toNatClampNeg z12) < Z3.nf from by (first | exact om_8c5722e49bb1 il14 | omega)) (MJ.op (d := (Int32.toNatClampNeg z12)) xlp4_0 (by omega)) (show ((Int32.toNatClampNeg z12) : Int) + 1 = (V2 5 6).toInt from by (first | exact om_c968828d0a40 hz12 kc13 | omega)) (show (V2 67 (Int32.toNatClampNeg z12)).toInt = 4 from by (first | exact om_c88e7ce0b8a2 fq83 | omega)) rw9 bc84 sf go9) w1431 w1433 w67 w171 w1434 rfl xgMachine hdV_yX5_goOnWorking ⟨Nat.le_of_ble_eq_true rfl, Nat.le_of_ble_eq_true rfl⟩ rfl hl.1 rfl (Nat.le_of_ble_eq_true rfl) dX5_run_98 ⟨z1 zoZ3.1, z1 zoZ3.2.1⟩) hD hS hA (fun u89 H locs w90 hP hD hK hS y91 y92 => ?_)
            obtain ⟨V93, L94, Z95⟩ := u89
            obtain ⟨hMV93, ajV93, axL94, zlZ95, t97, t98⟩ := w90
            have axL94 : L = L94 := Eq.symm axL94
            subst axL94
            replace hP : va_P D vwCl (xw ad kk V93 L Z95) H := hP
            replace hD : va_D A (xw ad kk V93 L Z95) := hD
            replace hK : va_K D vwCl (xty kk Z95) s := hK
            replace hMV93 : rgd bX V93 := hMV93
            replace ajV93 : agr [(3, 15), (5, 6), (5, 7), (5, 9), (5, 10), (5, 11), (5, 12), (5, 13), (5, 14)] [30, 31, 32, 39, 67, 68, 69, 70, 71, 72, 73, 74, 75, 76, 77, 78, 79, 80, 81, 82, 83, 84, 85] V2 V93 := ajV93
            have agV93 : agr [(3, 13), (3, 14), (3, 15), (4, 5), (4, 6), (5, 6), (5, 7), (5, 8), (5, 9), (5, 10), (5, 11), (5, 12), (5, 13), (5, 14)] [24, 25, 26, 27, 28, 29, 30, 31, 32, 33, 34, 35, 36, 37, 39, 40, 67, 68, 69, 70, 71, 72, 73, 74, 75, 76, 77, 78, 79, 80, 81, 82, 83, 84, 85] V V93 := agV2.tr ajV93 (by decide) (by decide)
            replace zlZ95 : ZL Z3 Z95 := zlZ95
            have zoZ95 : ZL Z Z95 := ZL.tr zoZ3 zlZ95
            have ziZ95 := zlZ95.1
            have zjZ95 := zlZ95.2.1
            have zkZ95 := zlZ95.2.2.1
            have zmZ95 := zoZ95.1
            have znZ95 := zoZ95.2.1
            have zpZ3_Z95 := zoZ3.1
            have zqZ3_Z95 := zoZ3.2.1
            have y91 : H.size ≤ Hk85.size + (zcc Z3 - zcc Z95) := by rw [hHk85]; exact y91
            have y92 : tot H ≤ tot Hk85 + (zss Z3 - zss Z95) := by rw [hHk85]; exact y92
            refine W.tight (k := zcc Z - zcc Z95) (n := zss Z - zss Z95) (by first | exact tg9 y91 k86 zlZ95.1 zoZ3.1 | omega) (by first | exact tg9 y92 k87 zlZ95.2.1 zoZ3.2.1 | omega) ?_
            have hl : lv_has ls 3 [(2, .ref (Z95.fa (Int32.toNatClampNeg z12))), (1, .int y1), (0, .ref (ad 5))] := by rw [zlZ95.2.2.2.2 (Int32.toNatClampNeg z12) il14]; exact hl
            replace t97 : MJ V93 Z95 b := t97
            replace t98 : ∃ n, 1 ≤ n ∧ RW V93 gB (rnM gB n (m2, a2, f2 :: r2)) := t98
            refine lv_goto (tgt := 109) hx hb dX5_run_101 (by decide) ?_
            obtain ⟨z99, ez99⟩ : ∃ y : Int32, y = y1 + 1 := ⟨_, rfl⟩
            have hz99 : z99.toInt = y1.toInt + 1 := i_add ez99 rfl (by decide) (by (first | exact om_7cfca28772a4 klp4_0.1 f7 | omega))
            refine lv_iinc (v := z99) (lv' := [(1, .int z99), (2, .ref (Z95.fa (Int32.toNatClampNeg z12))), (0, .ref (ad 5))]) hx hb dX5_run_109 hl (k := 1) rfl (by rw [ez99]; rfl) (by decide) rfl (fun ls hl => ?_)
            refine lv_goto (tgt := 2) hx hb dX5_run_112 (by decide) ?_
            exact ihlp4 z99 V93 Z95 H locs ls (by (first | exact om_6036b630f734 klp4_0.1 f7 hz99 | omega)) t97 (by obtain ⟨k9, h1, h2⟩ := t98; exact ⟨n9 + k9, by omega, by rw [rnM_add, er9]; exact h2⟩) (by (first | exact om_4c597ccc4a45 hn hz99 | omega)) (agr.tr (agr.tr agr.rf ajV2 (by decide) (by decide)) ajV93 (by decide) (by decide)) hMV93 zoZ95 hK hP hD hS (lv_sub hl [0, 2] rfl)
          have gq83 : ((V2 67 (Int32.toNatClampNeg z12))).toInt ≠ 4 := b_neq rfl (by decide) q83
          refine lv_tableOut (x := (V2 67 (Int32.toNatClampNeg z12))) (tgt := 104) hx hb dX5_run_31 (by omega) (by decide) ?_
          refine lv_aload_n hx hb dX5_run_104 rfl (lv_at hl 2 rfl) ?_
          refine lv_aload_n hx hb dX5_run_105 rfl (lv_at hl 0 rfl) ?_
          have bc100 : BKc V2 b gB := BKc.b4 bc (agr.b4 (show agr [(3, 13), (3, 14), (3, 15), (4, 5), (4, 6), (5, 6), (5, 7), (5, 8), (5, 9), (5, 10), (5, 11), (5, 12), (5, 13), (5, 14)] [24, 25, 26, 27, 28, 29, 30, 31, 32, 33, 34, 35, 36, 37, 39, 40, 67, 68, 69, 70, 71, 72, 73, 74, 75, 76, 77, 78, 79, 80, 81, 82, 83, 84, 85] V V2 from (agr.tr agr.rf ajV2 (by decide) (by decide))) (by decide))
          refine W.know (fun k102 k103 => ?_)
          obtain ⟨Hk101, hHk101⟩ : ∃ z, z = H := ⟨_, rfl⟩
          have k102 : Hk101.size ≤ s.heap.size + (zcc Z - zcc Z3) := by rw [hHk101]; exact k102
          have k103 : tot Hk101 ≤ tot s.heap + (zss Z - zss Z3) := by rw [hHk101]; exact k103
          refine gZ_void (gA_runV (As := [.ref (Z3.fa (Int32.toNatClampNeg z12))]) (rest := []) (ci := 5) (q0 := 5) hx hb hml hown hg hP hD hK hS hA hnw hgk (x_goOnClosing9 l D ks H.size ad kk V2 L Z3 (b) ((Int32.toNatClampNeg z12)) (gB) (m2) (a2) (f2) (r2) hMV2 (show b < 2 from by (first | exact om_f940a4667dd6 hb2 | omega)) (show (Int32.toNatClampNeg z12) < Z3.nf from by (first | exact om_8c5722e49bb1 il14 | omega)) (MJ.op (d := (Int32.toNatClampNeg z12)) xlp4_0 (by omega)) (show ((Int32.toNatClampNeg z12) : Int) + 1 = (V2 5 6).toInt from by (first | exact om_c968828d0a40 hz12 kc13 | omega)) (show (V2 67 (Int32.toNatClampNeg z12)).toInt ≠ 0 ∧ (V2 67 (Int32.toNatClampNeg z12)).toInt ≠ 1 ∧ (V2 67 (Int32.toNatClampNeg z12)).toInt ≠ 2 ∧ (V2 67 (Int32.toNatClampNeg z12)).toInt ≠ 3 ∧ (V2 67 (Int32.toNatClampNeg z12)).toInt ≠ 4 from by omega) rw9 bc100 sf) w1493 w1495 w78 w171 w1496 rfl xgMachine hdV_yX5_goOnClosing ⟨Nat.le_of_ble_eq_true rfl, Nat.le_of_ble_eq_true rfl⟩ rfl hl.1 rfl (Nat.le_of_ble_eq_true rfl) dX5_run_106 ⟨z1 zoZ3.1, z1 zoZ3.2.1⟩) hD hS hA (fun u105 H locs w106 hP hD hK hS y107 y108 => ?_)
          obtain ⟨V109, L110, Z111⟩ := u105
          obtain ⟨hMV109, ajV109, axL110, zlZ111, t113, t114⟩ := w106
          have axL110 : L = L110 := Eq.symm axL110
          subst axL110
          replace hP : va_P D vwCl (xw ad kk V109 L Z111) H := hP
          replace hD : va_D A (xw ad kk V109 L Z111) := hD
          replace hK : va_K D vwCl (xty kk Z111) s := hK
          replace hMV109 : rgd bX V109 := hMV109
          replace ajV109 : agr [(4, 6), (5, 6), (5, 9), (5, 10)] [25, 28, 36, 37, 67, 68, 69, 70, 71, 72, 73, 74, 75, 76, 77, 78, 79, 80, 81, 82, 83, 84, 85] V2 V109 := ajV109
          have agV109 : agr [(3, 13), (3, 14), (3, 15), (4, 5), (4, 6), (5, 6), (5, 7), (5, 8), (5, 9), (5, 10), (5, 11), (5, 12), (5, 13), (5, 14)] [24, 25, 26, 27, 28, 29, 30, 31, 32, 33, 34, 35, 36, 37, 39, 40, 67, 68, 69, 70, 71, 72, 73, 74, 75, 76, 77, 78, 79, 80, 81, 82, 83, 84, 85] V V109 := agV2.tr ajV109 (by decide) (by decide)
          replace zlZ111 : ZL Z3 Z111 := zlZ111
          have zoZ111 : ZL Z Z111 := ZL.tr zoZ3 zlZ111
          have ziZ111 := zlZ111.1
          have zjZ111 := zlZ111.2.1
          have zkZ111 := zlZ111.2.2.1
          have zmZ111 := zoZ111.1
          have znZ111 := zoZ111.2.1
          have zpZ3_Z111 := zoZ3.1
          have zqZ3_Z111 := zoZ3.2.1
          have y107 : H.size ≤ Hk101.size + (zcc Z3 - zcc Z111) := by rw [hHk101]; exact y107
          have y108 : tot H ≤ tot Hk101 + (zss Z3 - zss Z111) := by rw [hHk101]; exact y108
          refine W.tight (k := zcc Z - zcc Z111) (n := zss Z - zss Z111) (by first | exact tg9 y107 k102 zlZ111.1 zoZ3.1 | omega) (by first | exact tg9 y108 k103 zlZ111.2.1 zoZ3.2.1 | omega) ?_
          have hl : lv_has ls 3 [(2, .ref (Z111.fa (Int32.toNatClampNeg z12))), (1, .int y1), (0, .ref (ad 5))] := by rw [zlZ111.2.2.2.2 (Int32.toNatClampNeg z12) il14]; exact hl
          replace t113 : MJ V109 Z111 b := t113
          replace t114 : RW V109 gB (stM gB (m2, a2, f2 :: r2)) := t114
          obtain ⟨z115, ez115⟩ : ∃ y : Int32, y = y1 + 1 := ⟨_, rfl⟩
          have hz115 : z115.toInt = y1.toInt + 1 := i_add ez115 rfl (by decide) (by (first | exact om_7cfca28772a4 klp4_0.1 f7 | omega))
          refine lv_iinc (v := z115) (lv' := [(1, .int z115), (2, .ref (Z111.fa (Int32.toNatClampNeg z12))), (0, .ref (ad 5))]) hx hb dX5_run_109 hl (k := 1) rfl (by rw [ez115]; rfl) (by decide) rfl (fun ls hl => ?_)
          refine lv_goto (tgt := 2) hx hb dX5_run_112 (by decide) ?_
          exact ihlp4 z115 V109 Z111 H locs ls (by (first | exact om_6036b630f734 klp4_0.1 f7 hz115 | omega)) t113 ⟨n9 + 1, by omega, (by rw [rnM_add, er9]; exact t114)⟩ (by (first | exact om_4c597ccc4a45 hn hz115 | omega)) (agr.tr (agr.tr agr.rf ajV2 (by decide) (by decide)) ajV109 (by decide) (by decide)) hMV109 zoZ111 hK hP hD hS (lv_sub hl [0, 2] rfl)
  have r116 : Int32.toInt 0 = 0 := by decide
  exact lp4 ((1000000 - (Int32.toInt 0) + 1 : Int).toNat) 0 V Z H locs ls (by decide) mj ⟨0, by decide, rwq⟩ (by (first | exact om_4cc8af65a62d | omega)) agr.rf hMV zoZ hK hP hD hS (lv_sub hl [0, 1] rfl)
