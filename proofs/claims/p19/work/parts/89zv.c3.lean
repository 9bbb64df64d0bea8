theorem np9 {k : Nat} {P : Prop} (h : (Nat.ble 12 k && Nat.ble k 16) = false) : 12 ≤ k → k ≤ 16 → P := fun a b => by
  rw [Nat.ble_eq_true_of_le a, Nat.ble_eq_true_of_le b] at h
  exact absurd h (by decide)
def m67Q (fs : List (Nat × Nat)) (cs : List Nat) : Bool := fs.all (fun y => decide (y.1 < 67)) && cs.all (fun c => decide (c < 67))
theorem agr.m67 {fs : List (Nat × Nat)} {cs : List Nat} {V W : Vf} (a : agr fs cs V W) (q : m67Q fs cs = true) {c k : Nat} (h1 : 67 ≤ c) (_ : c ≤ 85) : W c k = V c k := by
  refine a c k ?_
  unfold m67Q at q
  rw [Bool.and_eq_true, List.all_eq_true, List.all_eq_true] at q
  unfold wrL
  rw [Bool.or_eq_false_iff]
  refine ⟨?_, ?_⟩
  · rw [← Bool.not_eq_true]
    intro z
    have y := of_decide_eq_true (q.1 _ (List.contains_iff_mem.mp z))
    have y : c < 67 := y
    omega
  · rw [← Bool.not_eq_true]
    intro z
    have y := of_decide_eq_true (q.2 _ (List.contains_iff_mem.mp z))
    omega


abbrev r_x_goOnClosing9 (Z : XZ) : Room := { frames := 4, cells := zcc Z, slots := zss Z, locals := 90 }
abbrev q_x_goOnClosing9 (D : va_G) (ks : KS) (ad : Nat → Nat) (kk : Nat → ClassId) (V : Vf) (L : Lf) (Z : XZ) (b : Nat) (gf : Nat) (gB : Bk) (gm : Mm) (ga : Int32) (gfr : Fr) (gr : List Fr) (A : Nat → Prop) : Array Value → State → Outcome → State → Prop := qZv D (fun (u : Vf × Lf × XZ) => rgd bX u.1 ∧ agr [(4, 6), (5, 6), (5, 9), (5, 10)] [25, 28, 36, 37, 67, 68, 69, 70, 71, 72, 73, 74, 75, 76, 77, 78, 79, 80, 81, 82, 83, 84, 85] V u.1 ∧ u.2.1 = L ∧ ZL Z u.2.2 ∧ (MJ u.1 u.2.2 b) ∧ (RW u.1 gB (stM gB (gm, ga, gfr :: gr)))) (fun u => xw ad kk u.1 u.2.1 u.2.2) (fun u => xty kk u.2.2) (fun u => zcc Z - zcc u.2.2) (fun u => zss Z - zss u.2.2) A
set_option maxHeartbeats 4000000 in
set_option maxRecDepth 100000 in
theorem x_goOnClosing9 (l : Launch) (D : va_G) (ks : KS) (sz : Nat) (ad : Nat → Nat) (kk : Nat → ClassId) (V : Vf) (L : Lf) (Z : XZ) (b : Nat) (gf : Nat) (gB : Bk) (gm : Mm) (ga : Int32) (gfr : Fr) (gr : List Fr) (hMV : rgd bX V) (hb2 : b < 2) (hgf : gf < Z.nf) (mo : MO V Z b gf True (QN V b) (QN V b)) (gd : (gf : Int) + 1 = (V 5 6).toInt) (gk : (V 67 gf).toInt ≠ 0 ∧ (V 67 gf).toInt ≠ 1 ∧ (V 67 gf).toInt ≠ 2 ∧ (V 67 gf).toInt ≠ 3 ∧ (V 67 gf).toInt ≠ 4) (rwq : RW V gB (gm, ga, gfr :: gr)) (bc : BKc V b gB) (sf : SF gB (gm, ga, gfr :: gr))  : Met l yX5_goOnClosing (Cond.code yX5_goOnClosing cX5_goOnClosing 4 none :: GW) (r_x_goOnClosing9 Z) (va_Pc [.ref (ad 5), .ref (Z.fa gf)] (gp D ks (xw ad kk V L Z) (xty kk Z) sz)) (q_x_goOnClosing9 D ks ad kk V L Z  b gf gB gm ga gfr gr (va_A (xw ad kk V L Z) sz)) (zcc Z) (zss Z) (va_A (xw ad kk V L Z) sz) := by
  refine g_met (q_x_goOnClosing9 D ks ad kk V L Z  b gf gB gm ga gfr gr) (by decide) (Nat.le_of_ble_eq_true rfl) ?_
  intro p e s m below meth c A ls H locs hx hb hr hml hown hg hlocks hin hnw hgk hP hK hD hS hA hl
  have hown : s.vm.findClass RX5 = some m.cls := hown
  have hl : lv_has ls 4 [(0, .ref (ad 5)), (1, .ref (Z.fa gf))] := hl
  have hP : va_P D vwCl (xw ad kk V L Z) H := hP
  have hD : va_D A (xw ad kk V L Z) := hD
  have hK : va_K D vwCl (xty kk Z) s := hK
  have agV : agr [(4, 6), (5, 6), (5, 9), (5, 10)] [25, 28, 36, 37, 67, 68, 69, 70, 71, 72, 73, 74, 75, 76, 77, 78, 79, 80, 81, 82, 83, 84, 85] V V := agr.rf
  have zoZ : ZL Z Z := ZL.rf
  refine W.know (fun ka kb => ?_)
  refine W.tight (k := zcc Z - zcc Z) (n := zss Z - zss Z) (by (first | exact om_7244b830ee02 ka | omega)) (by (first | exact om_7244b830ee02 kb | omega)) ?_
  have r1 : 0 ≤ ((V 5 6)).toInt ∧ ((V 5 6)).toInt ≤ 400 := hMV 5 6
  have kdp := i_clamp (x := V 5 6) rfl (by (first | exact om_c66f1b494bd9 gd | omega))
  have hdn : (gf : Int) + 1 ≤ (Z.nf : Int) := by (first | exact om_29efded833ec hgf | omega)
  have mup := MO.up mo
  have msz := mup.1
  have mbk := mup.2.2.2.1
  obtain ⟨xk, fk⟩ := MO.fk mo
  have r2 : (-1) ≤ ((V 71 gf)).toInt ∧ ((V 71 gf)).toInt ≤ 23 := hMV 71 gf
  have r3 : 0 ≤ ((V 75 gf)).toInt ∧ ((V 75 gf)).toInt ≤ 12 := hMV 75 gf
  have r4 : 0 ≤ ((V 80 gf)).toInt ∧ ((V 80 gf)).toInt ≤ 300 := hMV 80 gf
  have r5 : 0 ≤ ((V 84 gf)).toInt ∧ ((V 84 gf)).toInt ≤ 2147483647 := hMV 84 gf
  have r6 : 0 ≤ ((V 5 8)).toInt ∧ ((V 5 8)).toInt ≤ 300 := hMV 5 8
  have r7 : 0 ≤ ((V 5 9)).toInt ∧ ((V 5 9)).toInt ≤ 3 := hMV 5 9
  have r8 : 0 ≤ ((V 3 13)).toInt ∧ ((V 3 13)).toInt ≤ 300 := hMV 3 13
  have r9 : 0 ≤ ((V 43 (5 * b + 2))).toInt ∧ ((V 43 (5 * b + 2))).toInt ≤ ((xcap (5 * b + 2) : Nat) : Int) := hMV 43 (5 * b + 2)
  have r10 : xcap (5 * b + 2) = 24 := xcap_2
  have r11 : 0 ≤ ((V 41 b)).toInt ∧ ((V 41 b)).toInt ≤ 12 := hMV 41 b
  have r12 : 0 ≤ ((V 42 b)).toInt ∧ ((V 42 b)).toInt ≤ 8200 := hMV 42 b
  have fc := fk.1 (by omega)
  have fo := fk.2.1 (by omega) (by omega)
  have m1 : Int32.toInt (-1) = -1 := by decide
  have rw0 := rwq
  obtain ⟨⟨ow, rn⟩, rh, rd, tw9, rt9, rl⟩ := rw0
  have rn : RWn V ow gB gm := rn
  have rh : RWh V gm ga := rh
  have rd2 : (V 5 6).toInt = ((gr.length + 1 : Nat) : Int) := rd
  have gl9 : gr.length = gf := by (first | exact om_ec03263ced6a gd rd2 | omega)
  have sl9 : gr.length ≤ 394 := by have h9 : gr.length + 1 ≤ 395 := sf.1; (first | exact om_ecdae44fb13c h9 | omega)
  have rh1 : (V 5 9).toInt = gm 0 6 := rh.1
  have ra2 : (V 3 13).toInt = gm 0 2 := rn.1.1.2.2.1
  have rl0 := rl
  obtain ⟨t0, tl9, hf0, hbs9, hpl9, hlr⟩ := rl0
  rw [gl9] at hf0 hbs9
  rcases FRc.k5 hf0 gk with ⟨lv, o, c, sc, hfe⟩ | ⟨lv, o, c, sc, hfe⟩
  · skip
    have hf : FRc V gB gf (Fclo0 lv o c sc) := by rw [← hfe]; exact hf0
    have tl8 : tw9 = t0 + (Fclo0 lv o c sc : Fr).2.2.2.length := by rw [← hfe]; exact tl9
    obtain ⟨⟨k67, k68⟩, hoc⟩ := hf
    obtain ⟨q69, ⟨q70, o0, o1⟩, ⟨q71, c0, c1⟩, ⟨q72, s0, s1⟩⟩ := hoc
    have cn9 : c.toNat < nC gB := by (first | exact om_51a08a25bfb6 r2 fc q71 c1 | omega)
    have kc9 : Int32.toNatClampNeg (V 71 gf) = c.toNat := by have h9 := i_clamp (x := V 71 gf) rfl (by (first | exact om_762d7ad45f4b r2 fc q71 | omega)); (first | exact om_57d2b76748c0 r2 fc q71 h9 | omega)
    have tz9 : tw9 = t0 := tl8
    refine lv_aload_n hx hb dX5_goOnClosing_0 rfl (lv_at hl 0 rfl) ?_
    refine va_get (D := D) (ci := 5) (v := .ref (ad (38 + Int32.toNatClampNeg (V 5 5)))) (fs := (xfMachine ad V L Z)) (C := RX5) (T := TX5) (N := 15) hx hb hg inX5 hown hK hP 5 xgMachine rfl 5 (by decide) (hg _ w672) (fun _ h9 => h9) rfl dX5_goOnClosing_1 ?_
    have r13 : 0 ≤ ((V 5 5)).toInt ∧ ((V 5 5)).toInt ≤ 1 := hMV 5 5
    refine g_topv (v := .ref (ad (38 + b))) (rfP (by omega)) ?_
    refine va_getN (D := D) (ci := 0) (v := .ref (ad (64 + b))) (fs := (xfBook ad V b)) (C := RX0) (T := TX0) (N := 13) hx hb hg inX0 hown hK hP (38 + b) (xgBook hb2) rfl 7 (by decide) (hnw.use 618 n618 rfl) (fun _ h9 => h9) rfl dX5_goOnClosing_4 ?_
    refine lv_aload_n hx hb dX5_goOnClosing_7 rfl (lv_at hl 1 rfl) ?_
    refine va_getN (D := D) (ci := 4) (v := .int (V 71 gf)) (fs := (xfFrame V gf)) (C := RX4) (T := TX4) (N := 19) hx hb hg inX4 hown hK hP (336 + gf) (xgFrame hgf) rfl 4 (by decide) (hnw.use 1193 n1193 rfl) (fun _ h9 => h9) rfl dX5_goOnClosing_8 ?_
    have il14 : b < 2 := by (first | exact om_f940a4667dd6 hb2 | omega)
    refine va_aldq (D := D) (i := (V 71 gf)) hx hb hK hP (64 + b) (57 + b) (xgcomps il14) (xtcomps il14) (i_in (a := ((V 71 gf)).toInt) rfl (by (first | exact om_fc4cbdd683ed r2 fc q71 | omega))) dX5_goOnClosing_11 ?_
    have kc15 := i_clamp (x := (V 71 gf)) rfl (by (first | exact om_762d7ad45f4b r2 fc q71 | omega))
    refine g_topv (v := .ref (ad (72 + (24 * b + (Int32.toNatClampNeg (V 71 gf)))))) (congrArg va_rf (if_pos (by (first | exact om_05bceae62c6b r2 fc q71 kc15 | omega)))) ?_
    have il16 : (24 * b + (Int32.toNatClampNeg (V 71 gf))) < 48 := by (first | exact om_31a61188bc78 hb2 r2.2 kc15 | omega)
    refine va_getN (D := D) (ci := 3) (v := .int (V 57 (24 * b + (Int32.toNatClampNeg (V 71 gf))))) (fs := (xfComp ad V (24 * b + (Int32.toNatClampNeg (V 71 gf))))) (C := RX3) (T := TX3) (N := 13) hx hb hg inX3 hown hK hP (72 + (24 * b + (Int32.toNatClampNeg (V 71 gf)))) (xgComp il16) rfl 12 (by decide) (hnw.use 542 n542 rfl) (fun _ h9 => h9) rfl dX5_goOnClosing_12 ?_
    have r17 : (-1) ≤ ((V 57 (24 * b + (Int32.toNatClampNeg (V 71 gf))))).toInt ∧ ((V 57 (24 * b + (Int32.toNatClampNeg (V 71 gf))))).toInt ≤ 8200 := hMV 57 (24 * b + (Int32.toNatClampNeg (V 71 gf)))
    refine lv_istore_n (lv' := [(2, .int (V 57 (24 * b + (Int32.toNatClampNeg (V 71 gf))))), (0, .ref (ad 5)), (1, .ref (Z.fa gf))]) hx hb dX5_goOnClosing_15 rfl hl (by decide) rfl (fun ls hl => ?_)
    have cs9 := BKc.cs bc cn9
    rw [← kc9] at cs9
    refine lv_aload_n hx hb dX5_goOnClosing_16 rfl (lv_at hl 2 rfl) ?_
    refine va_getN (D := D) (ci := 4) (v := .int (V 68 gf)) (fs := (xfFrame V gf)) (C := RX4) (T := TX4) (N := 19) hx hb hg inX4 hown hK hP (336 + gf) (xgFrame hgf) rfl 1 (by decide) (hnw.use 1190 n1190 rfl) (fun _ h9 => h9) rfl dX5_goOnClosing_17 ?_
    refine lv_if_ne (tgt := 42) hx hb dX5_goOnClosing_20 (by decide) (fun c18 => ?_) (fun c18 => ?_)
    · skip
      have f19 : ((V 68 gf)).toInt ≠ 0 := b_neq rfl (by decide) c18
      exfalso; (first | exact om_0b51723c7ef6 k68 f19 | omega)
    · skip
      have f20 : ((V 68 gf)).toInt = 0 := b_eq rfl (by decide) c18
      refine lv_iload_n hx hb dX5_goOnClosing_23 rfl (lv_at hl 0 rfl) ?_
      refine lv_iconst (v := (-1)) hx hb dX5_goOnClosing_24 (by decide) ?_
      refine lv_icmp_eq (tgt := 42) hx hb dX5_goOnClosing_25 (by decide) (fun c21 => ?_) (fun c21 => ?_)
      · skip
        have f22 : ((V 57 (24 * b + (Int32.toNatClampNeg (V 71 gf))))).toInt = (-1) := b_eq rfl (by decide) c21
        refine lv_iconst (v := 0) hx hb dX5_goOnClosing_42 (by decide) ?_
        refine lv_istore_n (lv' := [(3, .int 0), (2, .int (V 57 (24 * b + (Int32.toNatClampNeg (V 71 gf))))), (0, .ref (ad 5)), (1, .ref (Z.fa gf))]) hx hb dX5_goOnClosing_43 rfl hl (by decide) rfl (fun ls hl => ?_)
        refine lv_aload_n hx hb dX5_goOnClosing_44 rfl (lv_at hl 2 rfl) ?_
        refine va_get (D := D) (ci := 5) (v := .int (V 5 9)) (fs := (xfMachine ad V L Z)) (C := RX5) (T := TX5) (N := 15) hx hb hg inX5 hown hK hP 5 xgMachine rfl 9 (by decide) (hg _ w676) (fun _ h9 => h9) rfl dX5_goOnClosing_45 ?_
        refine lv_iconst (v := 2) hx hb dX5_goOnClosing_48 (by decide) ?_
        refine lv_icmp_ne (tgt := 67) hx hb dX5_goOnClosing_49 (by decide) (fun c23 => ?_) (fun c23 => ?_)
        · skip
          have f24 : ((V 5 9)).toInt ≠ 2 := b_neq rfl (by decide) c23
          refine lv_aload_n hx hb dX5_goOnClosing_67 rfl (lv_at hl 2 rfl) ?_
          refine va_get (D := D) (ci := 5) (v := .int (V 5 9)) (fs := (xfMachine ad V L Z)) (C := RX5) (T := TX5) (N := 15) hx hb hg inX5 hown hK hP 5 xgMachine rfl 9 (by decide) (hg _ w676) (fun _ h9 => h9) rfl dX5_goOnClosing_68 ?_
          refine lv_iconst (v := 3) hx hb dX5_goOnClosing_71 (by decide) ?_
          refine lv_icmp_ne (tgt := 81) hx hb dX5_goOnClosing_72 (by decide) (fun c25 => ?_) (fun c25 => ?_)
          · skip
            have f26 : ((V 5 9)).toInt ≠ 3 := b_neq rfl (by decide) c25
            refine lv_aload_n hx hb dX5_goOnClosing_81 rfl (lv_at hl 2 rfl) ?_
            refine lv_iconst (v := 0) hx hb dX5_goOnClosing_82 (by decide) ?_
            have r27 : Int32.toInt 0 = 0 := by decide
            refine gA_void (gA_runV (As := [.int 0]) (rest := []) (ci := 5) (q0 := 5) hx hb hml hown hg hP hD hK hS hA hnw hgk (x_answerWith9 l D ks H.size ad kk V L Z 0 hMV ) w1304 w1306 w49 w171 w1307 rfl xgMachine hdV_yX5_answerWith ⟨Nat.le_of_ble_eq_true rfl, Nat.le_of_ble_eq_true rfl⟩ rfl hl.1 rfl (Nat.le_of_ble_eq_true rfl) dX5_goOnClosing_83 ⟨z0, z0⟩) hP hD hK hS hA (fun u29 H locs w30 hP hD hK hS => ?_)
            obtain ⟨V34, L35⟩ := u29
            obtain ⟨hMV34, ajV34, axL35, t31, t32, t33⟩ := w30
            have axL35 : L = L35 := Eq.symm axL35
            subst axL35
            have hP : va_P D vwCl (xw ad kk V34 L Z) H := hP
            have hD : va_D A (xw ad kk V34 L Z) := hD
            have hMV34 : rgd bX V34 := hMV34
            have ajV34 : agr [(5, 9), (5, 10)] [] V V34 := ajV34
            have agV34 : agr [(4, 6), (5, 6), (5, 9), (5, 10)] [25, 28, 36, 37, 67, 68, 69, 70, 71, 72, 73, 74, 75, 76, 77, 78, 79, 80, 81, 82, 83, 84, 85] V V34 := agV.tr ajV34 (by decide) (by decide)
            have t31 : (V34 5 9).toInt = 1 := t31
            have t32 : (V34 5 10).toInt = (Int32.toInt 0) := t32
            have t33 : ((True) ∧ V34 = (up2 (up2 V 5 9 1) 5 10 0)) := t33
            have r36 : 0 ≤ ((V34 5 9)).toInt ∧ ((V34 5 9)).toInt ≤ 3 := hMV34 5 9
            have hw37 := t33.2
            obtain ⟨V38, hV38⟩ : ∃ z, z = up2 V 5 9 1 := ⟨_, rfl⟩
            have hV34 : V34 = up2 V38 5 10 0 := by rw [hw37, hV38]
            refine lv_aload_n hx hb dX5_goOnClosing_86 rfl (lv_at hl 2 rfl) ?_
            refine va_get (D := D) (ci := 5) (v := .ref (ad 4)) (fs := (xfMachine ad V34 L Z)) (C := RX5) (T := TX5) (N := 15) hx hb hg inX5 hown hK hP 5 xgMachine rfl 1 (by decide) (hg _ w668) (fun _ h9 => h9) rfl dX5_goOnClosing_87 ?_
            refine lv_aload_n hx hb dX5_goOnClosing_90 rfl (lv_at hl 3 rfl) ?_
            refine va_getN (D := D) (ci := 4) (v := .int (V34 70 gf)) (fs := (xfFrame V34 gf)) (C := RX4) (T := TX4) (N := 19) hx hb hg inX4 hown hK hP (336 + gf) (xgFrame hgf) rfl 3 (by decide) (hnw.use 1192 n1192 rfl) (fun _ h9 => h9) rfl dX5_goOnClosing_91 ?_
            refine g_top (v := (V 70 gf)) ((up2_o hV34 (by decide)).trans (up2_o hV38 (by decide))) ?_
            refine lv_iload_n hx hb dX5_goOnClosing_94 rfl (lv_at hl 0 rfl) ?_
            refine gA_void (gA_runV (As := [.int (V 70 gf), .int 0]) (rest := []) (ci := 7) (q0 := 4) hx hb hml hown hg hP hD hK hS hA hnw hgk (x_noteClosing9 l D ks H.size ad kk V34 L Z (V 70 gf) 0 hMV34 ) w1497 w1498 w1499 w166 w1500 rfl xgNotes hdV_yX7_noteClosing ⟨Nat.le_of_ble_eq_true rfl, Nat.le_of_ble_eq_true rfl⟩ rfl hl.1 rfl (Nat.le_of_ble_eq_true rfl) dX5_goOnClosing_95 ⟨z0, z0⟩) hP hD hK hS hA (fun u40 H locs w41 hP hD hK hS => ?_)
            obtain ⟨V43, L44⟩ := u40
            obtain ⟨hMV43, ajV43, axL44, t42⟩ := w41
            have axL44 : L = L44 := Eq.symm axL44
            subst axL44
            have hP : va_P D vwCl (xw ad kk V43 L Z) H := hP
            have hD : va_D A (xw ad kk V43 L Z) := hD
            have hMV43 : rgd bX V43 := hMV43
            have ajV43 : agr [(4, 6)] [36, 37] V34 V43 := ajV43
            have agV43 : agr [(4, 6), (5, 6), (5, 9), (5, 10)] [25, 28, 36, 37, 67, 68, 69, 70, 71, 72, 73, 74, 75, 76, 77, 78, 79, 80, 81, 82, 83, 84, 85] V V43 := agV34.tr ajV43 (by decide) (by decide)
            have t42 : (((V34 4 6).toInt < 300) ∧ V43 = (up2 (up2 (up2 V34 36 (Int32.toNatClampNeg (V34 4 6)) (V 70 gf)) 37 (Int32.toNatClampNeg (V34 4 6)) 0) 4 6 (V34 4 6 + 1))) ∨ ((300 ≤ (V34 4 6).toInt) ∧ V43 = V34) := t42
            rcases t42 with ⟨hc45, hw46⟩ | ⟨hc47, hw48⟩
            · skip
              obtain ⟨V49, hV49⟩ : ∃ z, z = up2 V34 36 (Int32.toNatClampNeg (V34 4 6)) (V 70 gf) := ⟨_, rfl⟩
              obtain ⟨V50, hV50⟩ : ∃ z, z = up2 V49 37 (Int32.toNatClampNeg (V34 4 6)) 0 := ⟨_, rfl⟩
              have pq52 : (V34 4 6).toInt = ((V 4 6)).toInt := congrArg Int32.toInt ((up2_o hV34 (by decide)).trans (up2_o hV38 (by decide)))
              have r53 : 0 ≤ ((V 4 6)).toInt ∧ ((V 4 6)).toInt ≤ 300 := hMV 4 6
              obtain ⟨z51, ez51⟩ : ∃ y : Int32, y = V34 4 6 + 1 := ⟨_, rfl⟩
              have hz51 : z51.toInt = (V34 4 6).toInt + 1 := i_add ez51 rfl (by decide) (by (first | exact om_10ca3b530507 pq52 r53.1 r53.2 | omega))
              have hV43 : V43 = up2 V50 4 6 z51 := by rw [hw46, hV50, hV49, ez51]
              refine lv_aload_n hx hb dX5_goOnClosing_98 rfl (lv_at hl 2 rfl) ?_
              refine va_get (D := D) (ci := 5) (v := .ref (ad 3)) (fs := (xfMachine ad V43 L Z)) (C := RX5) (T := TX5) (N := 15) hx hb hg inX5 hown hK hP 5 xgMachine rfl 0 (by decide) (hg _ w667) (fun _ h9 => h9) rfl dX5_goOnClosing_99 ?_
              refine lv_aload_n hx hb dX5_goOnClosing_102 rfl (lv_at hl 3 rfl) ?_
              refine va_getN (D := D) (ci := 4) (v := .int (V43 70 gf)) (fs := (xfFrame V43 gf)) (C := RX4) (T := TX4) (N := 19) hx hb hg inX4 hown hK hP (336 + gf) (xgFrame hgf) rfl 3 (by decide) (hnw.use 1192 n1192 rfl) (fun _ h9 => h9) rfl dX5_goOnClosing_103 ?_
              refine g_top (v := (V 70 gf)) ((up2_o hV43 (by decide)).trans ((up2_o hV50 (by decide)).trans ((up2_o hV49 (by decide)).trans ((up2_o hV34 (by decide)).trans (up2_o hV38 (by decide)))))) ?_
              refine gA_void (gA_runV (As := [.int (V 70 gf)]) (rest := []) (ci := 8) (q0 := 3) hx hb hml hown hg hP hD hK hS hA hnw hgk (x_dropObject9 l D ks H.size ad kk V43 L Z (V 70 gf) hMV43 (by (first | exact om_d0c9b7046452 r8 fo ra2 q70 | omega))) w1336 w1337 w1338 w164 w1339 rfl xgStock hdV_yX8_dropObject ⟨Nat.le_of_ble_eq_true rfl, Nat.le_of_ble_eq_true rfl⟩ rfl hl.1 rfl (Nat.le_of_ble_eq_true rfl) dX5_goOnClosing_106 ⟨z0, z0⟩) hP hD hK hS hA (fun u55 H locs w56 hP hD hK hS => ?_)
              obtain ⟨V59, L60⟩ := u55
              obtain ⟨hMV59, ajV59, axL60, t57, t58⟩ := w56
              have axL60 : L = L60 := Eq.symm axL60
              subst axL60
              have hP : va_P D vwCl (xw ad kk V59 L Z) H := hP
              have hD : va_D A (xw ad kk V59 L Z) := hD
              have hMV59 : rgd bX V59 := hMV59
              have ajV59 : agr [] [25, 28] V43 V59 := ajV59
              have agV59 : agr [(4, 6), (5, 6), (5, 9), (5, 10)] [25, 28, 36, 37, 67, 68, 69, 70, 71, 72, 73, 74, 75, 76, 77, 78, 79, 80, 81, 82, 83, 84, 85] V V59 := agV43.tr ajV59 (by decide) (by decide)
              have t57 : ∀ n, ME V43 V59 n := t57
              have t58 : (((V43 25 (24 * Int32.toNatClampNeg (V43 27 (Int32.toNatClampNeg (V 70 gf))) + Int32.toNatClampNeg (V43 26 (Int32.toNatClampNeg (V 70 gf))))).toInt = ((V 70 gf)).toInt) ∧ V59 = (up2 (up2 V43 28 (Int32.toNatClampNeg (V 70 gf)) 2) 25 (24 * Int32.toNatClampNeg (V43 27 (Int32.toNatClampNeg (V 70 gf))) + Int32.toNatClampNeg (V43 26 (Int32.toNatClampNeg (V 70 gf)))) (-1))) ∨ (((V43 25 (24 * Int32.toNatClampNeg (V43 27 (Int32.toNatClampNeg (V 70 gf))) + Int32.toNatClampNeg (V43 26 (Int32.toNatClampNeg (V 70 gf))))).toInt ≠ ((V 70 gf)).toInt) ∧ V59 = (up2 V43 28 (Int32.toNatClampNeg (V 70 gf)) 2)) := t58
              rcases t58 with ⟨hc61, hw62⟩ | ⟨hc63, hw64⟩
              · skip
                obtain ⟨V65, hV65⟩ : ∃ z, z = up2 V43 28 (Int32.toNatClampNeg (V 70 gf)) 2 := ⟨_, rfl⟩
                have hV59 : V59 = up2 V65 25 (24 * Int32.toNatClampNeg (V43 27 (Int32.toNatClampNeg (V 70 gf))) + Int32.toNatClampNeg (V43 26 (Int32.toNatClampNeg (V 70 gf)))) (-1) := by rw [hw62, hV65]
                refine lv_aload_n hx hb dX5_goOnClosing_109 rfl (lv_at hl 2 rfl) ?_
                have pq66 : (V59 5 6).toInt = ((V 5 6)).toInt := congrArg Int32.toInt ((up2_o hV59 (by decide)).trans ((up2_o hV65 (by decide)).trans ((up2_o hV43 (by decide)).trans ((up2_o hV50 (by decide)).trans ((up2_o hV49 (by decide)).trans ((up2_k hV34 (by decide)).trans (up2_k hV38 (by decide))))))))
                refine gA_void (gA_runV (As := []) (rest := []) (ci := 5) (q0 := 5) hx hb hml hown hg hP hD hK hS hA hnw hgk (x_leave9 l D ks H.size ad kk V59 L Z  hMV59 (show 1 ≤ (V59 5 6).toInt from by (first | exact om_c36fd4a9fcac gd gl9 pq66 | omega))) w1308 w1310 w50 w171 w1311 rfl xgMachine hdV_yX5_leave ⟨Nat.le_of_ble_eq_true rfl, Nat.le_of_ble_eq_true rfl⟩ rfl hl.1 rfl (Nat.le_of_ble_eq_true rfl) dX5_goOnClosing_110 ⟨z0, z0⟩) hP hD hK hS hA (fun u68 H locs w69 hP hD hK hS => ?_)
                obtain ⟨V72, L73⟩ := u68
                obtain ⟨hMV72, ajV72, axL73, t70, t71⟩ := w69
                have axL73 : L = L73 := Eq.symm axL73
                subst axL73
                have hP : va_P D vwCl (xw ad kk V72 L Z) H := hP
                have hD : va_D A (xw ad kk V72 L Z) := hD
                have hMV72 : rgd bX V72 := hMV72
                have ajV72 : agr [(5, 6)] [] V59 V72 := ajV72
                have agV72 : agr [(4, 6), (5, 6), (5, 9), (5, 10)] [25, 28, 36, 37, 67, 68, 69, 70, 71, 72, 73, 74, 75, 76, 77, 78, 79, 80, 81, 82, 83, 84, 85] V V72 := agV59.tr ajV72 (by decide) (by decide)
                have t70 : (V72 5 6).toInt = (V59 5 6).toInt - 1 := t70
                have t71 : ((True) ∧ V72 = (up2 V59 5 6 (V59 5 6 - 1))) := t71
                have r74 : 0 ≤ ((V72 5 6)).toInt ∧ ((V72 5 6)).toInt ≤ 400 := hMV72 5 6
                have hw75 := t71.2
                obtain ⟨z76, ez76⟩ : ∃ y : Int32, y = V59 5 6 - 1 := ⟨_, rfl⟩
                have hz76 : z76.toInt = (V59 5 6).toInt - 1 := i_sub ez76 rfl (by decide) (by (first | exact om_70510bf9f0cb gd gl9 sl9 pq66 | omega))
                have hV72 : V72 = up2 V59 5 6 z76 := by rw [hw75, ez76]
                have me77 : ME V V72 gf := (ME.up (ME.up (ME.up (ME.up (ME.up (ME.up (ME.up (ME.up ME.rf hV38 (Or.inr (by (first | exact om_620f5006bfaa  | omega)))) hV34 (Or.inr (by (first | exact om_f41a5f4a8afd  | omega)))) hV49 (Or.inr (by (first | exact om_cafd1137c917  | omega)))) hV50 (Or.inr (by (first | exact om_c9c9e20ea0d3  | omega)))) hV43 (Or.inr (by (first | exact om_5d9c67e1ed13  | omega)))) hV65 (Or.inr (by (first | exact om_15c89eee5dc0  | omega)))) hV59 (Or.inr (by omega))) hV72 (Or.inr (by (first | exact om_f481bd0f1cda  | omega))))
                have pq78 : (V72 67 gf).toInt = ((V 67 gf)).toInt := congrArg Int32.toInt ((up2_o hV72 (by decide)).trans ((up2_o hV59 (by decide)).trans ((up2_o hV65 (by decide)).trans ((up2_o hV43 (by decide)).trans ((up2_o hV50 (by decide)).trans ((up2_o hV49 (by decide)).trans ((up2_o hV34 (by decide)).trans (up2_o hV38 (by decide)))))))))
                have pq79 : (V72 68 gf).toInt = ((V 68 gf)).toInt := congrArg Int32.toInt ((up2_o hV72 (by decide)).trans ((up2_o hV59 (by decide)).trans ((up2_o hV65 (by decide)).trans ((up2_o hV43 (by decide)).trans ((up2_o hV50 (by decide)).trans ((up2_o hV49 (by decide)).trans ((up2_o hV34 (by decide)).trans (up2_o hV38 (by decide)))))))))
                have pq80 : (V72 70 gf).toInt = ((V 70 gf)).toInt := congrArg Int32.toInt ((up2_o hV72 (by decide)).trans ((up2_o hV59 (by decide)).trans ((up2_o hV65 (by decide)).trans ((up2_o hV43 (by decide)).trans ((up2_o hV50 (by decide)).trans ((up2_o hV49 (by decide)).trans ((up2_o hV34 (by decide)).trans (up2_o hV38 (by decide)))))))))
                have pq81 : (V72 71 gf).toInt = ((V 71 gf)).toInt := congrArg Int32.toInt ((up2_o hV72 (by decide)).trans ((up2_o hV59 (by decide)).trans ((up2_o hV65 (by decide)).trans ((up2_o hV43 (by decide)).trans ((up2_o hV50 (by decide)).trans ((up2_o hV49 (by decide)).trans ((up2_o hV34 (by decide)).trans (up2_o hV38 (by decide)))))))))
                have pq82 : (V72 75 gf).toInt = ((V 75 gf)).toInt := congrArg Int32.toInt ((up2_o hV72 (by decide)).trans ((up2_o hV59 (by decide)).trans ((up2_o hV65 (by decide)).trans ((up2_o hV43 (by decide)).trans ((up2_o hV50 (by decide)).trans ((up2_o hV49 (by decide)).trans ((up2_o hV34 (by decide)).trans (up2_o hV38 (by decide)))))))))
                have pq83 : (V72 76 gf).toInt = ((V 76 gf)).toInt := congrArg Int32.toInt ((up2_o hV72 (by decide)).trans ((up2_o hV59 (by decide)).trans ((up2_o hV65 (by decide)).trans ((up2_o hV43 (by decide)).trans ((up2_o hV50 (by decide)).trans ((up2_o hV49 (by decide)).trans ((up2_o hV34 (by decide)).trans (up2_o hV38 (by decide)))))))))
                have pq84 : (V72 80 gf).toInt = ((V 80 gf)).toInt := congrArg Int32.toInt ((up2_o hV72 (by decide)).trans ((up2_o hV59 (by decide)).trans ((up2_o hV65 (by decide)).trans ((up2_o hV43 (by decide)).trans ((up2_o hV50 (by decide)).trans ((up2_o hV49 (by decide)).trans ((up2_o hV34 (by decide)).trans (up2_o hV38 (by decide)))))))))
                have pq85 : (V72 84 gf).toInt = ((V 84 gf)).toInt := congrArg Int32.toInt ((up2_o hV72 (by decide)).trans ((up2_o hV59 (by decide)).trans ((up2_o hV65 (by decide)).trans ((up2_o hV43 (by decide)).trans ((up2_o hV50 (by decide)).trans ((up2_o hV49 (by decide)).trans ((up2_o hV34 (by decide)).trans (up2_o hV38 (by decide)))))))))
                have pq86 : (V72 5 6).toInt = z76.toInt := congrArg Int32.toInt (up2_s hV72)
                have pq87 : (V72 5 8).toInt = ((V 5 8)).toInt := congrArg Int32.toInt ((up2_k hV72 (by decide)).trans ((up2_o hV59 (by decide)).trans ((up2_o hV65 (by decide)).trans ((up2_o hV43 (by decide)).trans ((up2_o hV50 (by decide)).trans ((up2_o hV49 (by decide)).trans ((up2_k hV34 (by decide)).trans (up2_k hV38 (by decide)))))))))
                have pq88 : (V72 5 9).toInt = 1 := (congrArg Int32.toInt ((up2_k hV72 (by decide)).trans ((up2_o hV59 (by decide)).trans ((up2_o hV65 (by decide)).trans ((up2_o hV43 (by decide)).trans ((up2_o hV50 (by decide)).trans ((up2_o hV49 (by decide)).trans ((up2_k hV34 (by decide)).trans (up2_s hV38))))))))).trans (by decide)
                have pq89 : (V72 3 13).toInt = ((V 3 13)).toInt := congrArg Int32.toInt ((up2_o hV72 (by decide)).trans ((up2_o hV59 (by decide)).trans ((up2_o hV65 (by decide)).trans ((up2_o hV43 (by decide)).trans ((up2_o hV50 (by decide)).trans ((up2_o hV49 (by decide)).trans ((up2_o hV34 (by decide)).trans (up2_o hV38 (by decide)))))))))
                have pq90 : (V72 43 (5 * b + 2)).toInt = ((V 43 (5 * b + 2))).toInt := congrArg Int32.toInt ((up2_o hV72 (by decide)).trans ((up2_o hV59 (by decide)).trans ((up2_o hV65 (by decide)).trans ((up2_o hV43 (by decide)).trans ((up2_o hV50 (by decide)).trans ((up2_o hV49 (by decide)).trans ((up2_o hV34 (by decide)).trans (up2_o hV38 (by decide)))))))))
                have pq91 : (V72 42 b).toInt = ((V 42 b)).toInt := congrArg Int32.toInt ((up2_o hV72 (by decide)).trans ((up2_o hV59 (by decide)).trans ((up2_o hV65 (by decide)).trans ((up2_o hV43 (by decide)).trans ((up2_o hV50 (by decide)).trans ((up2_o hV49 (by decide)).trans ((up2_o hV34 (by decide)).trans (up2_o hV38 (by decide)))))))))
                have pq92 : (V72 41 b).toInt = ((V 41 b)).toInt := congrArg Int32.toInt ((up2_o hV72 (by decide)).trans ((up2_o hV59 (by decide)).trans ((up2_o hV65 (by decide)).trans ((up2_o hV43 (by decide)).trans ((up2_o hV50 (by decide)).trans ((up2_o hV49 (by decide)).trans ((up2_o hV34 (by decide)).trans (up2_o hV38 (by decide)))))))))
                have rp93 : MJ V72 Z b := MP.lv (MO.mp mo) me77 (by (first | exact om_541a228d28bf gd pq66 t70 hz76 pq86 | omega)) (fun _ => Or.inl (by omega))
                have pq94 : (V72 5 11).toInt = ((V 5 11)).toInt := congrArg Int32.toInt ((up2_k hV72 (by decide)).trans ((up2_o hV59 (by decide)).trans ((up2_o hV65 (by decide)).trans ((up2_o hV43 (by decide)).trans ((up2_o hV50 (by decide)).trans ((up2_o hV49 (by decide)).trans ((up2_k hV34 (by decide)).trans (up2_k hV38 (by decide)))))))))
                have pq95 : (V72 5 12).toInt = ((V 5 12)).toInt := congrArg Int32.toInt ((up2_k hV72 (by decide)).trans ((up2_o hV59 (by decide)).trans ((up2_o hV65 (by decide)).trans ((up2_o hV43 (by decide)).trans ((up2_o hV50 (by decide)).trans ((up2_o hV49 (by decide)).trans ((up2_k hV34 (by decide)).trans (up2_k hV38 (by decide)))))))))
                have pq96 : (V72 5 13).toInt = ((V 5 13)).toInt := congrArg Int32.toInt ((up2_k hV72 (by decide)).trans ((up2_o hV59 (by decide)).trans ((up2_o hV65 (by decide)).trans ((up2_o hV43 (by decide)).trans ((up2_o hV50 (by decide)).trans ((up2_o hV49 (by decide)).trans ((up2_k hV34 (by decide)).trans (up2_k hV38 (by decide)))))))))
                have r97 : 0 ≤ ((V 5 13)).toInt ∧ ((V 5 13)).toInt ≤ 3000 := hMV 5 13
                have pq98 : (V72 5 7).toInt = ((V 5 7)).toInt := congrArg Int32.toInt ((up2_k hV72 (by decide)).trans ((up2_o hV59 (by decide)).trans ((up2_o hV65 (by decide)).trans ((up2_o hV43 (by decide)).trans ((up2_o hV50 (by decide)).trans ((up2_o hV49 (by decide)).trans ((up2_k hV34 (by decide)).trans (up2_k hV38 (by decide)))))))))
                have r99 : 0 ≤ ((V 5 7)).toInt ∧ ((V 5 7)).toInt ≤ 2048 := hMV 5 7
                have rn100 : RWn V34 ow gB gm := RWn.es rn (ESw.ag (show agr [(5, 9), (5, 10)] [] V V34 from (agr.up (agr.up agr.rf hV38 rfl) hV34 rfl)) (by decide))
                have rn101 : RWn V43 ow gB (mNote gm o 0) := RWn.note rn100 (fun c9 k9 h1 h2 h3 h4 => ((show V43 c9 k9 = V50 c9 k9 from by rw [hV43]; exact up2_pl (by omega)).trans ((show V50 c9 k9 = V49 c9 k9 from by rw [hV50]; exact up2_pl (by omega)).trans (show V49 c9 k9 = V34 c9 k9 from by rw [hV49]; exact up2_pl (by omega))))) (Or.inl ⟨hc45, (by rw [up2_s hV43]; exact hz51), (fun i9 hi9 => ⟨(up2_o hV43 (by decide)).trans ((up2_o hV50 (by decide)).trans (up2_k hV49 hi9)), (up2_o hV43 (by decide)).trans ((up2_k hV50 hi9).trans (up2_o hV49 (by decide)))⟩), (show (V43 36 (Int32.toNatClampNeg (V34 4 6))).toInt = o from by rw [(up2_o hV43 (by decide)).trans ((up2_o hV50 (by decide)).trans (up2_s hV49))]; exact q70), (show (V43 37 (Int32.toNatClampNeg (V34 4 6))).toInt = 0 from by rw [(up2_o hV43 (by decide)).trans (up2_s hV50)]; decide)⟩)
                have dx9 : (Int32.toNatClampNeg (V 70 gf)) = o.toNat := by have h9 := i_clamp (x := (V 70 gf)) rfl (by (first | exact om_c42429f26483 fo q70 hc61 pq80 | omega)); (first | exact om_cdba46fd13a1 fo q70 hc61 pq80 h9 | omega)
                have do9 : ((o.toNat : Nat) : Int) < (mNote gm o 0) 0 2 := by rw [mNt_0 (by decide)]; (first | exact om_b313c004abde r8 fo ra2 q70 hc61 pq80 pq89 | omega)
                have db9 := (rn101).2.1 _ do9
                have ds9 : 24 * Int32.toNatClampNeg (V43 27 (Int32.toNatClampNeg (V 70 gf))) + Int32.toNatClampNeg (V43 26 (Int32.toNatClampNeg (V 70 gf))) = 24 * ((mNote gm o 0) 2 o.toNat).toNat + ((mNote gm o 0) 1 o.toNat).toNat := by rw [dx9]; have h1 := db9.1.1; have h2 := db9.1.2.1; have h3 := i_clamp (x := V43 27 o.toNat) rfl (by (first | exact om_57a3b3030c68 db9 | omega)); have h4 := i_clamp (x := V43 26 o.toNat) rfl (by (first | exact om_624b0f847349 db9 | omega)); (first | exact om_5319a23bfaa2 db9 h3 h4 | omega)
                have rn102 : RWn V59 ow gB (mU (mNote gm o 0) 3 o.toNat 2) := RWn.drop rn101 do9 (fun x9 hx9 => (up2_o hV59 (by decide)).trans (up2_k hV65 (by rw [dx9]; exact hx9))) (by rw [← dx9, (up2_o hV59 (by decide)).trans (up2_s hV65)]; decide) (fun k9 hk9 => (up2_k hV59 (by rw [ds9]; exact hk9)).trans (up2_o hV65 (by decide))) (by rw [← ds9, up2_s hV59, if_pos (by rw [← dx9]; have h9 := i_clamp (x := (V 70 gf)) rfl (by (first | exact om_c42429f26483 fo q70 hc61 pq80 | omega)); (first | exact om_31a30e49af65 q70 hc61 pq80 dx9 h9 | omega))]; decide) (fun c9 k9 h1 h2 h3 => ((show V59 c9 k9 = V65 c9 k9 from by rw [hV59]; exact up2_pl (by omega)).trans (show V65 c9 k9 = V43 c9 k9 from by rw [hV65]; exact up2_pl (by omega))))
                have rn103 : RWn V72 ow gB (mU (mNote gm o 0) 3 o.toNat 2) := RWn.es rn102 (ESw.ag (show agr [(5, 6)] [] V59 V72 from (agr.up agr.rf hV72 rfl)) (by decide))
                have me104 : ME V V72 gf := (ME.up (ME.up (ME.up (ME.up (ME.up (ME.up (ME.up (ME.up ME.rf hV38 (Or.inr (by (first | exact om_620f5006bfaa  | omega)))) hV34 (Or.inr (by (first | exact om_f41a5f4a8afd  | omega)))) hV49 (Or.inr (by (first | exact om_cafd1137c917  | omega)))) hV50 (Or.inr (by (first | exact om_c9c9e20ea0d3  | omega)))) hV43 (Or.inr (by (first | exact om_5d9c67e1ed13  | omega)))) hV65 (Or.inr (by (first | exact om_15c89eee5dc0  | omega)))) hV59 (Or.inr (by omega))) hV72 (Or.inr (by (first | exact om_f481bd0f1cda  | omega))))
                have rl105 : RWl V72 gB gr t0 := RWl.mv hlr (fun i9 hi9 c9 h1 h2 => me104.2.1 c9 i9 h1 h2 (by (first | exact om_102b9d22baee gd kdp rd rd2 pq66 t70 hz76 hi9 | omega))) (fun j9 hj9 => ((up2_o hV72 (by decide)).trans ((up2_o hV59 (by decide)).trans ((up2_o hV65 (by decide)).trans ((up2_o hV43 (by decide)).trans ((up2_o hV50 (by decide)).trans ((up2_o hV49 (by decide)).trans ((up2_o hV34 (by decide)).trans (up2_o hV38 (by decide)))))))))) (by rw [((up2_o hV72 (by decide)).trans ((up2_o hV59 (by decide)).trans ((up2_o hV65 (by decide)).trans ((up2_o hV43 (by decide)).trans ((up2_o hV50 (by decide)).trans ((up2_o hV49 (by decide)).trans ((up2_o hV34 (by decide)).trans (up2_o hV38 (by decide)))))))))]; exact Int.le_refl _) ((up2_o hV72 (by decide)).trans ((up2_o hV59 (by decide)).trans ((up2_o hV65 (by decide)).trans ((up2_o hV43 (by decide)).trans ((up2_o hV50 (by decide)).trans ((up2_o hV49 (by decide)).trans ((up2_o hV34 (by decide)).trans (up2_o hV38 (by decide)))))))))
                have rf9 : RWn V72 ow gB (mU (mU (mNote gm o 0) 3 o.toNat 2) 0 6 1) := RWn.mv rn103 (fun j9 hj9 => mU_06 (Or.inr (by omega))) (fun x9 j9 hx9 _ => mU_06 (Or.inl hx9)) (fun _ => rfl) rfl rfl rfl (fun _ _ _ _ _ => rfl)
                have rz9 : RW V72 gB ((mU (mU (mNote gm o 0) 3 o.toNat 2) 0 6 1), 0, gr) := RW.fin rwq rf9 (by rw [mU_06 (Or.inr (by decide))]; rw [mU_o _ _ (by omega), mNt_0 (by decide)]) (fun i9 => (by rw [mU_06 (Or.inl (by decide))]; rw [mU_o _ _ (by omega), mNt_x (by decide) (by decide) (by decide)])) ((up2_k hV72 (by decide)).trans ((up2_o hV59 (by decide)).trans ((up2_o hV65 (by decide)).trans ((up2_o hV43 (by decide)).trans ((up2_o hV50 (by decide)).trans ((up2_o hV49 (by decide)).trans ((up2_k hV34 (by decide)).trans (up2_k hV38 (by decide))))))))) (fun i9 => ((up2_o hV72 (by decide)).trans ((up2_o hV59 (by decide)).trans ((up2_o hV65 (by decide)).trans ((up2_o hV43 (by decide)).trans ((up2_o hV50 (by decide)).trans ((up2_o hV49 (by decide)).trans ((up2_o hV34 (by decide)).trans (up2_o hV38 (by decide)))))))))) (by rw [mU_s]; omega) (fun _ => ((up2_k hV72 (by decide)).trans ((up2_o hV59 (by decide)).trans ((up2_o hV65 (by decide)).trans ((up2_o hV43 (by decide)).trans ((up2_o hV50 (by decide)).trans ((up2_o hV49 (by decide)).trans (up2_s hV34)))))))) (fun h9 => by rw [mU_s] at h9; exact absurd h9 (by decide)) (by (first | exact om_0893762427d8 kdp rd rd2 pq66 t70 | omega)) (by rw [((up2_k hV72 (by decide)).trans ((up2_o hV59 (by decide)).trans ((up2_o hV65 (by decide)).trans ((up2_o hV43 (by decide)).trans ((up2_o hV50 (by decide)).trans ((up2_o hV49 (by decide)).trans ((up2_k hV34 (by decide)).trans (up2_k hV38 (by decide))))))))), rt9, tz9]) rl105
                have rx106 : RW V72 gB (stM gB (gm, ga, gfr :: gr)) := by rw [hfe, (st_17e (show bE gB c.toNat 31 = 0 from by rcases cs9 with h9 | h9; (rw [kc9] at h9; exact h9.2); (exfalso; (first | exact om_230a843bd84f f22 h9 | omega)))).trans (cl_w (by rw [← rh1]; omega) (by rw [← rh1]; omega))]; exact rz9
                refine W.know (fun kr1 kr2 => ?_)
                refine W.widen (k := zcc Z) (n := zss Z) (Nat.sub_le _ _) (Nat.sub_le _ _) ?_
                exact W.vret hx hb hr (fun t ht hW => ⟨⟨(V72, L, Z), rfl, ⟨hMV72, agV72, rfl, zoZ, rp93, rx106⟩, ⟨by rw [ht]; exact hP, va_K.moved hW.alike hK, hD⟩, by rw [ht]; exact kr1, by rw [ht]; exact kr2⟩, hS.F ht⟩) hS.2.2 dX5_goOnClosing_113
              · skip
                have hV59 : V59 = up2 V43 28 (Int32.toNatClampNeg (V 70 gf)) 2 := by rw [hw64]
                refine lv_aload_n hx hb dX5_goOnClosing_109 rfl (lv_at hl 2 rfl) ?_
                have pq107 : (V59 5 6).toInt = ((V 5 6)).toInt := congrArg Int32.toInt ((up2_o hV59 (by decide)).trans ((up2_o hV43 (by decide)).trans ((up2_o hV50 (by decide)).trans ((up2_o hV49 (by decide)).trans ((up2_k hV34 (by decide)).trans (up2_k hV38 (by decide)))))))
                refine gA_void (gA_runV (As := []) (rest := []) (ci := 5) (q0 := 5) hx hb hml hown hg hP hD hK hS hA hnw hgk (x_leave9 l D ks H.size ad kk V59 L Z  hMV59 (show 1 ≤ (V59 5 6).toInt from by (first | exact om_c36fd4a9fcac gd gl9 pq107 | omega))) w1308 w1310 w50 w171 w1311 rfl xgMachine hdV_yX5_leave ⟨Nat.le_of_ble_eq_true rfl, Nat.le_of_ble_eq_true rfl⟩ rfl hl.1 rfl (Nat.le_of_ble_eq_true rfl) dX5_goOnClosing_110 ⟨z0, z0⟩) hP hD hK hS hA (fun u109 H locs w110 hP hD hK hS => ?_)
                obtain ⟨V113, L114⟩ := u109
                obtain ⟨hMV113, ajV113, axL114, t111, t112⟩ := w110
                have axL114 : L = L114 := Eq.symm axL114
                subst axL114
                have hP : va_P D vwCl (xw ad kk V113 L Z) H := hP
                have hD : va_D A (xw ad kk V113 L Z) := hD
                have hMV113 : rgd bX V113 := hMV113
                have ajV113 : agr [(5, 6)] [] V59 V113 := ajV113
                have agV113 : agr [(4, 6), (5, 6), (5, 9), (5, 10)] [25, 28, 36, 37, 67, 68, 69, 70, 71, 72, 73, 74, 75, 76, 77, 78, 79, 80, 81, 82, 83, 84, 85] V V113 := agV59.tr ajV113 (by decide) (by decide)
                have t111 : (V113 5 6).toInt = (V59 5 6).toInt - 1 := t111
                have t112 : ((True) ∧ V113 = (up2 V59 5 6 (V59 5 6 - 1))) := t112
                have r115 : 0 ≤ ((V113 5 6)).toInt ∧ ((V113 5 6)).toInt ≤ 400 := hMV113 5 6
                have hw116 := t112.2
                obtain ⟨z117, ez117⟩ : ∃ y : Int32, y = V59 5 6 - 1 := ⟨_, rfl⟩
                have hz117 : z117.toInt = (V59 5 6).toInt - 1 := i_sub ez117 rfl (by decide) (by (first | exact om_70510bf9f0cb gd gl9 sl9 pq107 | omega))
                have hV113 : V113 = up2 V59 5 6 z117 := by rw [hw116, ez117]
                have me118 : ME V V113 gf := (ME.up (ME.up (ME.up (ME.up (ME.up (ME.up (ME.up ME.rf hV38 (Or.inr (by (first | exact om_620f5006bfaa  | omega)))) hV34 (Or.inr (by (first | exact om_f41a5f4a8afd  | omega)))) hV49 (Or.inr (by (first | exact om_cafd1137c917  | omega)))) hV50 (Or.inr (by (first | exact om_c9c9e20ea0d3  | omega)))) hV43 (Or.inr (by (first | exact om_5d9c67e1ed13  | omega)))) hV59 (Or.inr (by (first | exact om_15c89eee5dc0  | omega)))) hV113 (Or.inr (by (first | exact om_f481bd0f1cda  | omega))))
                have pq119 : (V113 67 gf).toInt = ((V 67 gf)).toInt := congrArg Int32.toInt ((up2_o hV113 (by decide)).trans ((up2_o hV59 (by decide)).trans ((up2_o hV43 (by decide)).trans ((up2_o hV50 (by decide)).trans ((up2_o hV49 (by decide)).trans ((up2_o hV34 (by decide)).trans (up2_o hV38 (by decide))))))))
                have pq120 : (V113 68 gf).toInt = ((V 68 gf)).toInt := congrArg Int32.toInt ((up2_o hV113 (by decide)).trans ((up2_o hV59 (by decide)).trans ((up2_o hV43 (by decide)).trans ((up2_o hV50 (by decide)).trans ((up2_o hV49 (by decide)).trans ((up2_o hV34 (by decide)).trans (up2_o hV38 (by decide))))))))
                have pq121 : (V113 70 gf).toInt = ((V 70 gf)).toInt := congrArg Int32.toInt ((up2_o hV113 (by decide)).trans ((up2_o hV59 (by decide)).trans ((up2_o hV43 (by decide)).trans ((up2_o hV50 (by decide)).trans ((up2_o hV49 (by decide)).trans ((up2_o hV34 (by decide)).trans (up2_o hV38 (by decide))))))))
                have pq122 : (V113 71 gf).toInt = ((V 71 gf)).toInt := congrArg Int32.toInt ((up2_o hV113 (by decide)).trans ((up2_o hV59 (by decide)).trans ((up2_o hV43 (by decide)).trans ((up2_o hV50 (by decide)).trans ((up2_o hV49 (by decide)).trans ((up2_o hV34 (by decide)).trans (up2_o hV38 (by decide))))))))
                have pq123 : (V113 75 gf).toInt = ((V 75 gf)).toInt := congrArg Int32.toInt ((up2_o hV113 (by decide)).trans ((up2_o hV59 (by decide)).trans ((up2_o hV43 (by decide)).trans ((up2_o hV50 (by decide)).trans ((up2_o hV49 (by decide)).trans ((up2_o hV34 (by decide)).trans (up2_o hV38 (by decide))))))))
                have pq124 : (V113 76 gf).toInt = ((V 76 gf)).toInt := congrArg Int32.toInt ((up2_o hV113 (by decide)).trans ((up2_o hV59 (by decide)).trans ((up2_o hV43 (by decide)).trans ((up2_o hV50 (by decide)).trans ((up2_o hV49 (by decide)).trans ((up2_o hV34 (by decide)).trans (up2_o hV38 (by decide))))))))
                have pq125 : (V113 80 gf).toInt = ((V 80 gf)).toInt := congrArg Int32.toInt ((up2_o hV113 (by decide)).trans ((up2_o hV59 (by decide)).trans ((up2_o hV43 (by decide)).trans ((up2_o hV50 (by decide)).trans ((up2_o hV49 (by decide)).trans ((up2_o hV34 (by decide)).trans (up2_o hV38 (by decide))))))))
                have pq126 : (V113 84 gf).toInt = ((V 84 gf)).toInt := congrArg Int32.toInt ((up2_o hV113 (by decide)).trans ((up2_o hV59 (by decide)).trans ((up2_o hV43 (by decide)).trans ((up2_o hV50 (by decide)).trans ((up2_o hV49 (by decide)).trans ((up2_o hV34 (by decide)).trans (up2_o hV38 (by decide))))))))
                have pq127 : (V113 5 6).toInt = z117.toInt := congrArg Int32.toInt (up2_s hV113)
                have pq128 : (V113 5 8).toInt = ((V 5 8)).toInt := congrArg Int32.toInt ((up2_k hV113 (by decide)).trans ((up2_o hV59 (by decide)).trans ((up2_o hV43 (by decide)).trans ((up2_o hV50 (by decide)).trans ((up2_o hV49 (by decide)).trans ((up2_k hV34 (by decide)).trans (up2_k hV38 (by decide))))))))
                have pq129 : (V113 5 9).toInt = 1 := (congrArg Int32.toInt ((up2_k hV113 (by decide)).trans ((up2_o hV59 (by decide)).trans ((up2_o hV43 (by decide)).trans ((up2_o hV50 (by decide)).trans ((up2_o hV49 (by decide)).trans ((up2_k hV34 (by decide)).trans (up2_s hV38)))))))).trans (by decide)
                have pq130 : (V113 3 13).toInt = ((V 3 13)).toInt := congrArg Int32.toInt ((up2_o hV113 (by decide)).trans ((up2_o hV59 (by decide)).trans ((up2_o hV43 (by decide)).trans ((up2_o hV50 (by decide)).trans ((up2_o hV49 (by decide)).trans ((up2_o hV34 (by decide)).trans (up2_o hV38 (by decide))))))))
                have pq131 : (V113 43 (5 * b + 2)).toInt = ((V 43 (5 * b + 2))).toInt := congrArg Int32.toInt ((up2_o hV113 (by decide)).trans ((up2_o hV59 (by decide)).trans ((up2_o hV43 (by decide)).trans ((up2_o hV50 (by decide)).trans ((up2_o hV49 (by decide)).trans ((up2_o hV34 (by decide)).trans (up2_o hV38 (by decide))))))))
                have pq132 : (V113 42 b).toInt = ((V 42 b)).toInt := congrArg Int32.toInt ((up2_o hV113 (by decide)).trans ((up2_o hV59 (by decide)).trans ((up2_o hV43 (by decide)).trans ((up2_o hV50 (by decide)).trans ((up2_o hV49 (by decide)).trans ((up2_o hV34 (by decide)).trans (up2_o hV38 (by decide))))))))
                have pq133 : (V113 41 b).toInt = ((V 41 b)).toInt := congrArg Int32.toInt ((up2_o hV113 (by decide)).trans ((up2_o hV59 (by decide)).trans ((up2_o hV43 (by decide)).trans ((up2_o hV50 (by decide)).trans ((up2_o hV49 (by decide)).trans ((up2_o hV34 (by decide)).trans (up2_o hV38 (by decide))))))))
                have rp134 : MJ V113 Z b := MP.lv (MO.mp mo) me118 (by (first | exact om_541a228d28bf gd pq107 t111 hz117 pq127 | omega)) (fun _ => Or.inl (by omega))
                have pq135 : (V113 5 11).toInt = ((V 5 11)).toInt := congrArg Int32.toInt ((up2_k hV113 (by decide)).trans ((up2_o hV59 (by decide)).trans ((up2_o hV43 (by decide)).trans ((up2_o hV50 (by decide)).trans ((up2_o hV49 (by decide)).trans ((up2_k hV34 (by decide)).trans (up2_k hV38 (by decide))))))))
                have pq136 : (V113 5 12).toInt = ((V 5 12)).toInt := congrArg Int32.toInt ((up2_k hV113 (by decide)).trans ((up2_o hV59 (by decide)).trans ((up2_o hV43 (by decide)).trans ((up2_o hV50 (by decide)).trans ((up2_o hV49 (by decide)).trans ((up2_k hV34 (by decide)).trans (up2_k hV38 (by decide))))))))
                have pq137 : (V113 5 13).toInt = ((V 5 13)).toInt := congrArg Int32.toInt ((up2_k hV113 (by decide)).trans ((up2_o hV59 (by decide)).trans ((up2_o hV43 (by decide)).trans ((up2_o hV50 (by decide)).trans ((up2_o hV49 (by decide)).trans ((up2_k hV34 (by decide)).trans (up2_k hV38 (by decide))))))))
                have r138 : 0 ≤ ((V 5 13)).toInt ∧ ((V 5 13)).toInt ≤ 3000 := hMV 5 13
                have pq139 : (V113 5 7).toInt = ((V 5 7)).toInt := congrArg Int32.toInt ((up2_k hV113 (by decide)).trans ((up2_o hV59 (by decide)).trans ((up2_o hV43 (by decide)).trans ((up2_o hV50 (by decide)).trans ((up2_o hV49 (by decide)).trans ((up2_k hV34 (by decide)).trans (up2_k hV38 (by decide))))))))
                have r140 : 0 ≤ ((V 5 7)).toInt ∧ ((V 5 7)).toInt ≤ 2048 := hMV 5 7
                have rn141 : RWn V34 ow gB gm := RWn.es rn (ESw.ag (show agr [(5, 9), (5, 10)] [] V V34 from (agr.up (agr.up agr.rf hV38 rfl) hV34 rfl)) (by decide))
                have rn142 : RWn V43 ow gB (mNote gm o 0) := RWn.note rn141 (fun c9 k9 h1 h2 h3 h4 => ((show V43 c9 k9 = V50 c9 k9 from by rw [hV43]; exact up2_pl (by omega)).trans ((show V50 c9 k9 = V49 c9 k9 from by rw [hV50]; exact up2_pl (by omega)).trans (show V49 c9 k9 = V34 c9 k9 from by rw [hV49]; exact up2_pl (by omega))))) (Or.inl ⟨hc45, (by rw [up2_s hV43]; exact hz51), (fun i9 hi9 => ⟨(up2_o hV43 (by decide)).trans ((up2_o hV50 (by decide)).trans (up2_k hV49 hi9)), (up2_o hV43 (by decide)).trans ((up2_k hV50 hi9).trans (up2_o hV49 (by decide)))⟩), (show (V43 36 (Int32.toNatClampNeg (V34 4 6))).toInt = o from by rw [(up2_o hV43 (by decide)).trans ((up2_o hV50 (by decide)).trans (up2_s hV49))]; exact q70), (show (V43 37 (Int32.toNatClampNeg (V34 4 6))).toInt = 0 from by rw [(up2_o hV43 (by decide)).trans (up2_s hV50)]; decide)⟩)
                have dx9 : (Int32.toNatClampNeg (V 70 gf)) = o.toNat := by have h9 := i_clamp (x := (V 70 gf)) rfl (by (first | exact om_2996291ce4c2 fo q70 pq121 | omega)); (first | exact om_6acf0db861ed fo q70 pq121 h9 | omega)
                have do9 : ((o.toNat : Nat) : Int) < (mNote gm o 0) 0 2 := by rw [mNt_0 (by decide)]; (first | exact om_5b0e08f69870 r8 fo ra2 q70 pq121 pq130 | omega)
                have db9 := (rn142).2.1 _ do9
                have ds9 : 24 * Int32.toNatClampNeg (V43 27 (Int32.toNatClampNeg (V 70 gf))) + Int32.toNatClampNeg (V43 26 (Int32.toNatClampNeg (V 70 gf))) = 24 * ((mNote gm o 0) 2 o.toNat).toNat + ((mNote gm o 0) 1 o.toNat).toNat := by rw [dx9]; have h1 := db9.1.1; have h2 := db9.1.2.1; have h3 := i_clamp (x := V43 27 o.toNat) rfl (by (first | exact om_57a3b3030c68 db9 | omega)); have h4 := i_clamp (x := V43 26 o.toNat) rfl (by (first | exact om_624b0f847349 db9 | omega)); (first | exact om_5319a23bfaa2 db9 h3 h4 | omega)
                have rn143 : RWn V59 ow gB (mU (mNote gm o 0) 3 o.toNat 2) := RWn.drop rn142 do9 (fun x9 hx9 => up2_k hV59 (by rw [dx9]; exact hx9)) (by rw [← dx9, up2_s hV59]; decide) (fun k9 _ => up2_o hV59 (by decide)) (by rw [← ds9, up2_o hV59 (by decide), if_neg (by rw [← dx9]; have h9 := i_clamp (x := (V 70 gf)) rfl (by (first | exact om_2996291ce4c2 fo q70 pq121 | omega)); omega)]) (fun c9 k9 h1 h2 h3 => (show V59 c9 k9 = V43 c9 k9 from by rw [hV59]; exact up2_pl (by omega)))
                have rn144 : RWn V113 ow gB (mU (mNote gm o 0) 3 o.toNat 2) := RWn.es rn143 (ESw.ag (show agr [(5, 6)] [] V59 V113 from (agr.up agr.rf hV113 rfl)) (by decide))
                have me145 : ME V V113 gf := (ME.up (ME.up (ME.up (ME.up (ME.up (ME.up (ME.up ME.rf hV38 (Or.inr (by (first | exact om_620f5006bfaa  | omega)))) hV34 (Or.inr (by (first | exact om_f41a5f4a8afd  | omega)))) hV49 (Or.inr (by (first | exact om_cafd1137c917  | omega)))) hV50 (Or.inr (by (first | exact om_c9c9e20ea0d3  | omega)))) hV43 (Or.inr (by (first | exact om_5d9c67e1ed13  | omega)))) hV59 (Or.inr (by (first | exact om_15c89eee5dc0  | omega)))) hV113 (Or.inr (by (first | exact om_f481bd0f1cda  | omega))))
                have rl146 : RWl V113 gB gr t0 := RWl.mv hlr (fun i9 hi9 c9 h1 h2 => me145.2.1 c9 i9 h1 h2 (by (first | exact om_102b9d22baee gd kdp rd rd2 pq107 t111 hz117 hi9 | omega))) (fun j9 hj9 => ((up2_o hV113 (by decide)).trans ((up2_o hV59 (by decide)).trans ((up2_o hV43 (by decide)).trans ((up2_o hV50 (by decide)).trans ((up2_o hV49 (by decide)).trans ((up2_o hV34 (by decide)).trans (up2_o hV38 (by decide))))))))) (by rw [((up2_o hV113 (by decide)).trans ((up2_o hV59 (by decide)).trans ((up2_o hV43 (by decide)).trans ((up2_o hV50 (by decide)).trans ((up2_o hV49 (by decide)).trans ((up2_o hV34 (by decide)).trans (up2_o hV38 (by decide))))))))]; exact Int.le_refl _) ((up2_o hV113 (by decide)).trans ((up2_o hV59 (by decide)).trans ((up2_o hV43 (by decide)).trans ((up2_o hV50 (by decide)).trans ((up2_o hV49 (by decide)).trans ((up2_o hV34 (by decide)).trans (up2_o hV38 (by decide))))))))
                have rf9 : RWn V113 ow gB (mU (mU (mNote gm o 0) 3 o.toNat 2) 0 6 1) := RWn.mv rn144 (fun j9 hj9 => mU_06 (Or.inr (by omega))) (fun x9 j9 hx9 _ => mU_06 (Or.inl hx9)) (fun _ => rfl) rfl rfl rfl (fun _ _ _ _ _ => rfl)
                have rz9 : RW V113 gB ((mU (mU (mNote gm o 0) 3 o.toNat 2) 0 6 1), 0, gr) := RW.fin rwq rf9 (by rw [mU_06 (Or.inr (by decide))]; rw [mU_o _ _ (by omega), mNt_0 (by decide)]) (fun i9 => (by rw [mU_06 (Or.inl (by decide))]; rw [mU_o _ _ (by omega), mNt_x (by decide) (by decide) (by decide)])) ((up2_k hV113 (by decide)).trans ((up2_o hV59 (by decide)).trans ((up2_o hV43 (by decide)).trans ((up2_o hV50 (by decide)).trans ((up2_o hV49 (by decide)).trans ((up2_k hV34 (by decide)).trans (up2_k hV38 (by decide)))))))) (fun i9 => ((up2_o hV113 (by decide)).trans ((up2_o hV59 (by decide)).trans ((up2_o hV43 (by decide)).trans ((up2_o hV50 (by decide)).trans ((up2_o hV49 (by decide)).trans ((up2_o hV34 (by decide)).trans (up2_o hV38 (by decide))))))))) (by rw [mU_s]; omega) (fun _ => ((up2_k hV113 (by decide)).trans ((up2_o hV59 (by decide)).trans ((up2_o hV43 (by decide)).trans ((up2_o hV50 (by decide)).trans ((up2_o hV49 (by decide)).trans (up2_s hV34))))))) (fun h9 => by rw [mU_s] at h9; exact absurd h9 (by decide)) (by (first | exact om_0893762427d8 kdp rd rd2 pq107 t111 | omega)) (by rw [((up2_k hV113 (by decide)).trans ((up2_o hV59 (by decide)).trans ((up2_o hV43 (by decide)).trans ((up2_o hV50 (by decide)).trans ((up2_o hV49 (by decide)).trans ((up2_k hV34 (by decide)).trans (up2_k hV38 (by decide)))))))), rt9, tz9]) rl146
                have rx147 : RW V113 gB (stM gB (gm, ga, gfr :: gr)) := by rw [hfe, (st_17e (show bE gB c.toNat 31 = 0 from by rcases cs9 with h9 | h9; (rw [kc9] at h9; exact h9.2); (exfalso; (first | exact om_230a843bd84f f22 h9 | omega)))).trans (cl_w (by rw [← rh1]; omega) (by rw [← rh1]; omega))]; exact rz9
                refine W.know (fun kr1 kr2 => ?_)
                refine W.widen (k := zcc Z) (n := zss Z) (Nat.sub_le _ _) (Nat.sub_le _ _) ?_
                exact W.vret hx hb hr (fun t ht hW => ⟨⟨(V113, L, Z), rfl, ⟨hMV113, agV113, rfl, zoZ, rp134, rx147⟩, ⟨by rw [ht]; exact hP, va_K.moved hW.alike hK, hD⟩, by rw [ht]; exact kr1, by rw [ht]; exact kr2⟩, hS.F ht⟩) hS.2.2 dX5_goOnClosing_113
            · skip
              have ajV43 : agr [] [] V34 V43 := by rw [hw48]; exact agr.rf
              refine lv_aload_n hx hb dX5_goOnClosing_98 rfl (lv_at hl 2 rfl) ?_
              refine va_get (D := D) (ci := 5) (v := .ref (ad 3)) (fs := (xfMachine ad V43 L Z)) (C := RX5) (T := TX5) (N := 15) hx hb hg inX5 hown hK hP 5 xgMachine rfl 0 (by decide) (hg _ w667) (fun _ h9 => h9) rfl dX5_goOnClosing_99 ?_
              refine lv_aload_n hx hb dX5_goOnClosing_102 rfl (lv_at hl 3 rfl) ?_
              refine va_getN (D := D) (ci := 4) (v := .int (V43 70 gf)) (fs := (xfFrame V43 gf)) (C := RX4) (T := TX4) (N := 19) hx hb hg inX4 hown hK hP (336 + gf) (xgFrame hgf) rfl 3 (by decide) (hnw.use 1192 n1192 rfl) (fun _ h9 => h9) rfl dX5_goOnClosing_103 ?_
              refine g_top (v := (V 70 gf)) ((ajV43 70 gf rfl).trans ((up2_o hV34 (by decide)).trans (up2_o hV38 (by decide)))) ?_
              refine gA_void (gA_runV (As := [.int (V 70 gf)]) (rest := []) (ci := 8) (q0 := 3) hx hb hml hown hg hP hD hK hS hA hnw hgk (x_dropObject9 l D ks H.size ad kk V43 L Z (V 70 gf) hMV43 (by (first | exact om_d0c9b7046452 r8 fo ra2 q70 | omega))) w1336 w1337 w1338 w164 w1339 rfl xgStock hdV_yX8_dropObject ⟨Nat.le_of_ble_eq_true rfl, Nat.le_of_ble_eq_true rfl⟩ rfl hl.1 rfl (Nat.le_of_ble_eq_true rfl) dX5_goOnClosing_106 ⟨z0, z0⟩) hP hD hK hS hA (fun u149 H locs w150 hP hD hK hS => ?_)
              obtain ⟨V153, L154⟩ := u149
              obtain ⟨hMV153, ajV153, axL154, t151, t152⟩ := w150
              have axL154 : L = L154 := Eq.symm axL154
              subst axL154
              have hP : va_P D vwCl (xw ad kk V153 L Z) H := hP
              have hD : va_D A (xw ad kk V153 L Z) := hD
              have hMV153 : rgd bX V153 := hMV153
              have ajV153 : agr [] [25, 28] V43 V153 := ajV153
              have agV153 : agr [(4, 6), (5, 6), (5, 9), (5, 10)] [25, 28, 36, 37, 67, 68, 69, 70, 71, 72, 73, 74, 75, 76, 77, 78, 79, 80, 81, 82, 83, 84, 85] V V153 := agV43.tr ajV153 (by decide) (by decide)
              have t151 : ∀ n, ME V43 V153 n := t151
              have t152 : (((V43 25 (24 * Int32.toNatClampNeg (V43 27 (Int32.toNatClampNeg (V 70 gf))) + Int32.toNatClampNeg (V43 26 (Int32.toNatClampNeg (V 70 gf))))).toInt = ((V 70 gf)).toInt) ∧ V153 = (up2 (up2 V43 28 (Int32.toNatClampNeg (V 70 gf)) 2) 25 (24 * Int32.toNatClampNeg (V43 27 (Int32.toNatClampNeg (V 70 gf))) + Int32.toNatClampNeg (V43 26 (Int32.toNatClampNeg (V 70 gf)))) (-1))) ∨ (((V43 25 (24 * Int32.toNatClampNeg (V43 27 (Int32.toNatClampNeg (V 70 gf))) + Int32.toNatClampNeg (V43 26 (Int32.toNatClampNeg (V 70 gf))))).toInt ≠ ((V 70 gf)).toInt) ∧ V153 = (up2 V43 28 (Int32.toNatClampNeg (V 70 gf)) 2)) := t152
              rcases t152 with ⟨hc155, hw156⟩ | ⟨hc157, hw158⟩
              · skip
                obtain ⟨V159, hV159⟩ : ∃ z, z = up2 V43 28 (Int32.toNatClampNeg (V 70 gf)) 2 := ⟨_, rfl⟩
                have hV153 : V153 = up2 V159 25 (24 * Int32.toNatClampNeg (V43 27 (Int32.toNatClampNeg (V 70 gf))) + Int32.toNatClampNeg (V43 26 (Int32.toNatClampNeg (V 70 gf)))) (-1) := by rw [hw156, hV159]
                refine lv_aload_n hx hb dX5_goOnClosing_109 rfl (lv_at hl 2 rfl) ?_
                have pq160 : (V153 5 6).toInt = ((V 5 6)).toInt := congrArg Int32.toInt ((up2_o hV153 (by decide)).trans ((up2_o hV159 (by decide)).trans ((ajV43 5 6 rfl).trans ((up2_k hV34 (by decide)).trans (up2_k hV38 (by decide))))))
                refine gA_void (gA_runV (As := []) (rest := []) (ci := 5) (q0 := 5) hx hb hml hown hg hP hD hK hS hA hnw hgk (x_leave9 l D ks H.size ad kk V153 L Z  hMV153 (show 1 ≤ (V153 5 6).toInt from by (first | exact om_c36fd4a9fcac gd gl9 pq160 | omega))) w1308 w1310 w50 w171 w1311 rfl xgMachine hdV_yX5_leave ⟨Nat.le_of_ble_eq_true rfl, Nat.le_of_ble_eq_true rfl⟩ rfl hl.1 rfl (Nat.le_of_ble_eq_true rfl) dX5_goOnClosing_110 ⟨z0, z0⟩) hP hD hK hS hA (fun u162 H locs w163 hP hD hK hS => ?_)
                obtain ⟨V166, L167⟩ := u162
                obtain ⟨hMV166, ajV166, axL167, t164, t165⟩ := w163
                have axL167 : L = L167 := Eq.symm axL167
                subst axL167
                have hP : va_P D vwCl (xw ad kk V166 L Z) H := hP
                have hD : va_D A (xw ad kk V166 L Z) := hD
                have hMV166 : rgd bX V166 := hMV166
                have ajV166 : agr [(5, 6)] [] V153 V166 := ajV166
                have agV166 : agr [(4, 6), (5, 6), (5, 9), (5, 10)] [25, 28, 36, 37, 67, 68, 69, 70, 71, 72, 73, 74, 75, 76, 77, 78, 79, 80, 81, 82, 83, 84, 85] V V166 := agV153.tr ajV166 (by decide) (by decide)
                have t164 : (V166 5 6).toInt = (V153 5 6).toInt - 1 := t164
                have t165 : ((True) ∧ V166 = (up2 V153 5 6 (V153 5 6 - 1))) := t165
                have r168 : 0 ≤ ((V166 5 6)).toInt ∧ ((V166 5 6)).toInt ≤ 400 := hMV166 5 6
                have hw169 := t165.2
                obtain ⟨z170, ez170⟩ : ∃ y : Int32, y = V153 5 6 - 1 := ⟨_, rfl⟩
                have hz170 : z170.toInt = (V153 5 6).toInt - 1 := i_sub ez170 rfl (by decide) (by (first | exact om_70510bf9f0cb gd gl9 sl9 pq160 | omega))
                have hV166 : V166 = up2 V153 5 6 z170 := by rw [hw169, ez170]
                have me171 : ME V V166 gf := (ME.up (ME.up (ME.up (ME.tr (ME.up (ME.up ME.rf hV38 (Or.inr (by (first | exact om_620f5006bfaa  | omega)))) hV34 (Or.inr (by (first | exact om_f41a5f4a8afd  | omega)))) (ME.ag ajV43 (by decide))) hV159 (Or.inr (by (first | exact om_15c89eee5dc0  | omega)))) hV153 (Or.inr (by omega))) hV166 (Or.inr (by (first | exact om_f481bd0f1cda  | omega))))
                have pq172 : (V166 67 gf).toInt = ((V 67 gf)).toInt := congrArg Int32.toInt ((up2_o hV166 (by decide)).trans ((up2_o hV153 (by decide)).trans ((up2_o hV159 (by decide)).trans ((ajV43 67 gf rfl).trans ((up2_o hV34 (by decide)).trans (up2_o hV38 (by decide)))))))
                have pq173 : (V166 68 gf).toInt = ((V 68 gf)).toInt := congrArg Int32.toInt ((up2_o hV166 (by decide)).trans ((up2_o hV153 (by decide)).trans ((up2_o hV159 (by decide)).trans ((ajV43 68 gf rfl).trans ((up2_o hV34 (by decide)).trans (up2_o hV38 (by decide)))))))
                have pq174 : (V166 70 gf).toInt = ((V 70 gf)).toInt := congrArg Int32.toInt ((up2_o hV166 (by decide)).trans ((up2_o hV153 (by decide)).trans ((up2_o hV159 (by decide)).trans ((ajV43 70 gf rfl).trans ((up2_o hV34 (by decide)).trans (up2_o hV38 (by decide)))))))
                have pq175 : (V166 71 gf).toInt = ((V 71 gf)).toInt := congrArg Int32.toInt ((up2_o hV166 (by decide)).trans ((up2_o hV153 (by decide)).trans ((up2_o hV159 (by decide)).trans ((ajV43 71 gf rfl).trans ((up2_o hV34 (by decide)).trans (up2_o hV38 (by decide)))))))
                have pq176 : (V166 75 gf).toInt = ((V 75 gf)).toInt := congrArg Int32.toInt ((up2_o hV166 (by decide)).trans ((up2_o hV153 (by decide)).trans ((up2_o hV159 (by decide)).trans ((ajV43 75 gf rfl).trans ((up2_o hV34 (by decide)).trans (up2_o hV38 (by decide)))))))
                have pq177 : (V166 76 gf).toInt = ((V 76 gf)).toInt := congrArg Int32.toInt ((up2_o hV166 (by decide)).trans ((up2_o hV153 (by decide)).trans ((up2_o hV159 (by decide)).trans ((ajV43 76 gf rfl).trans ((up2_o hV34 (by decide)).trans (up2_o hV38 (by decide)))))))
                have pq178 : (V166 80 gf).toInt = ((V 80 gf)).toInt := congrArg Int32.toInt ((up2_o hV166 (by decide)).trans ((up2_o hV153 (by decide)).trans ((up2_o hV159 (by decide)).trans ((ajV43 80 gf rfl).trans ((up2_o hV34 (by decide)).trans (up2_o hV38 (by decide)))))))
                have pq179 : (V166 84 gf).toInt = ((V 84 gf)).toInt := congrArg Int32.toInt ((up2_o hV166 (by decide)).trans ((up2_o hV153 (by decide)).trans ((up2_o hV159 (by decide)).trans ((ajV43 84 gf rfl).trans ((up2_o hV34 (by decide)).trans (up2_o hV38 (by decide)))))))
                have pq180 : (V166 5 6).toInt = z170.toInt := congrArg Int32.toInt (up2_s hV166)
                have pq181 : (V166 5 8).toInt = ((V 5 8)).toInt := congrArg Int32.toInt ((up2_k hV166 (by decide)).trans ((up2_o hV153 (by decide)).trans ((up2_o hV159 (by decide)).trans ((ajV43 5 8 rfl).trans ((up2_k hV34 (by decide)).trans (up2_k hV38 (by decide)))))))
                have pq182 : (V166 5 9).toInt = 1 := (congrArg Int32.toInt ((up2_k hV166 (by decide)).trans ((up2_o hV153 (by decide)).trans ((up2_o hV159 (by decide)).trans ((ajV43 5 9 rfl).trans ((up2_k hV34 (by decide)).trans (up2_s hV38))))))).trans (by decide)
                have pq183 : (V166 3 13).toInt = ((V 3 13)).toInt := congrArg Int32.toInt ((up2_o hV166 (by decide)).trans ((up2_o hV153 (by decide)).trans ((up2_o hV159 (by decide)).trans ((ajV43 3 13 rfl).trans ((up2_o hV34 (by decide)).trans (up2_o hV38 (by decide)))))))
                have pq184 : (V166 43 (5 * b + 2)).toInt = ((V 43 (5 * b + 2))).toInt := congrArg Int32.toInt ((up2_o hV166 (by decide)).trans ((up2_o hV153 (by decide)).trans ((up2_o hV159 (by decide)).trans ((ajV43 43 (5 * b + 2) rfl).trans ((up2_o hV34 (by decide)).trans (up2_o hV38 (by decide)))))))
                have pq185 : (V166 42 b).toInt = ((V 42 b)).toInt := congrArg Int32.toInt ((up2_o hV166 (by decide)).trans ((up2_o hV153 (by decide)).trans ((up2_o hV159 (by decide)).trans ((ajV43 42 b rfl).trans ((up2_o hV34 (by decide)).trans (up2_o hV38 (by decide)))))))
                have pq186 : (V166 41 b).toInt = ((V 41 b)).toInt := congrArg Int32.toInt ((up2_o hV166 (by decide)).trans ((up2_o hV153 (by decide)).trans ((up2_o hV159 (by decide)).trans ((ajV43 41 b rfl).trans ((up2_o hV34 (by decide)).trans (up2_o hV38 (by decide)))))))
                have rp187 : MJ V166 Z b := MP.lv (MO.mp mo) me171 (by (first | exact om_541a228d28bf gd pq160 t164 hz170 pq180 | omega)) (fun _ => Or.inl (by omega))
                have pq188 : (V166 5 11).toInt = ((V 5 11)).toInt := congrArg Int32.toInt ((up2_k hV166 (by decide)).trans ((up2_o hV153 (by decide)).trans ((up2_o hV159 (by decide)).trans ((ajV43 5 11 rfl).trans ((up2_k hV34 (by decide)).trans (up2_k hV38 (by decide)))))))
                have pq189 : (V166 5 12).toInt = ((V 5 12)).toInt := congrArg Int32.toInt ((up2_k hV166 (by decide)).trans ((up2_o hV153 (by decide)).trans ((up2_o hV159 (by decide)).trans ((ajV43 5 12 rfl).trans ((up2_k hV34 (by decide)).trans (up2_k hV38 (by decide)))))))
                have pq190 : (V166 5 13).toInt = ((V 5 13)).toInt := congrArg Int32.toInt ((up2_k hV166 (by decide)).trans ((up2_o hV153 (by decide)).trans ((up2_o hV159 (by decide)).trans ((ajV43 5 13 rfl).trans ((up2_k hV34 (by decide)).trans (up2_k hV38 (by decide)))))))
                have r191 : 0 ≤ ((V 5 13)).toInt ∧ ((V 5 13)).toInt ≤ 3000 := hMV 5 13
                have pq192 : (V166 5 7).toInt = ((V 5 7)).toInt := congrArg Int32.toInt ((up2_k hV166 (by decide)).trans ((up2_o hV153 (by decide)).trans ((up2_o hV159 (by decide)).trans ((ajV43 5 7 rfl).trans ((up2_k hV34 (by decide)).trans (up2_k hV38 (by decide)))))))
                have r193 : 0 ≤ ((V 5 7)).toInt ∧ ((V 5 7)).toInt ≤ 2048 := hMV 5 7
                have rn194 : RWn V34 ow gB gm := RWn.es rn (ESw.ag (show agr [(5, 9), (5, 10)] [] V V34 from (agr.up (agr.up agr.rf hV38 rfl) hV34 rfl)) (by decide))
                have rn195 : RWn V43 ow gB (mNote gm o 0) := RWn.note rn194 (fun c9 k9 h1 h2 h3 h4 => (ajV43 c9 k9 rfl)) (Or.inr ⟨hc47, (ajV43 4 6 rfl), fun i9 => ⟨(ajV43 36 i9 rfl), (ajV43 37 i9 rfl)⟩⟩)
                have dx9 : (Int32.toNatClampNeg (V 70 gf)) = o.toNat := by have h9 := i_clamp (x := (V 70 gf)) rfl (by (first | exact om_c42429f26483 fo q70 hc155 pq174 | omega)); (first | exact om_cdba46fd13a1 fo q70 hc155 pq174 h9 | omega)
                have do9 : ((o.toNat : Nat) : Int) < (mNote gm o 0) 0 2 := by rw [mNt_0 (by decide)]; (first | exact om_b313c004abde r8 fo ra2 q70 hc155 pq174 pq183 | omega)
                have db9 := (rn195).2.1 _ do9
                have ds9 : 24 * Int32.toNatClampNeg (V43 27 (Int32.toNatClampNeg (V 70 gf))) + Int32.toNatClampNeg (V43 26 (Int32.toNatClampNeg (V 70 gf))) = 24 * ((mNote gm o 0) 2 o.toNat).toNat + ((mNote gm o 0) 1 o.toNat).toNat := by rw [dx9]; have h1 := db9.1.1; have h2 := db9.1.2.1; have h3 := i_clamp (x := V43 27 o.toNat) rfl (by (first | exact om_57a3b3030c68 db9 | omega)); have h4 := i_clamp (x := V43 26 o.toNat) rfl (by (first | exact om_624b0f847349 db9 | omega)); (first | exact om_5319a23bfaa2 db9 h3 h4 | omega)
                have rn196 : RWn V153 ow gB (mU (mNote gm o 0) 3 o.toNat 2) := RWn.drop rn195 do9 (fun x9 hx9 => (up2_o hV153 (by decide)).trans (up2_k hV159 (by rw [dx9]; exact hx9))) (by rw [← dx9, (up2_o hV153 (by decide)).trans (up2_s hV159)]; decide) (fun k9 hk9 => (up2_k hV153 (by rw [ds9]; exact hk9)).trans (up2_o hV159 (by decide))) (by rw [← ds9, up2_s hV153, if_pos (by rw [← dx9]; have h9 := i_clamp (x := (V 70 gf)) rfl (by (first | exact om_c42429f26483 fo q70 hc155 pq174 | omega)); (first | exact om_31a30e49af65 q70 hc155 pq174 dx9 h9 | omega))]; decide) (fun c9 k9 h1 h2 h3 => ((show V153 c9 k9 = V159 c9 k9 from by rw [hV153]; exact up2_pl (by omega)).trans (show V159 c9 k9 = V43 c9 k9 from by rw [hV159]; exact up2_pl (by omega))))
                have rn197 : RWn V166 ow gB (mU (mNote gm o 0) 3 o.toNat 2) := RWn.es rn196 (ESw.ag (show agr [(5, 6)] [] V153 V166 from (agr.up agr.rf hV166 rfl)) (by decide))
                have me198 : ME V V166 gf := (ME.up (ME.up (ME.up (ME.tr (ME.up (ME.up ME.rf hV38 (Or.inr (by (first | exact om_620f5006bfaa  | omega)))) hV34 (Or.inr (by (first | exact om_f41a5f4a8afd  | omega)))) (ME.ag ajV43 (by decide))) hV159 (Or.inr (by (first | exact om_15c89eee5dc0  | omega)))) hV153 (Or.inr (by omega))) hV166 (Or.inr (by (first | exact om_f481bd0f1cda  | omega))))
                have rl199 : RWl V166 gB gr t0 := RWl.mv hlr (fun i9 hi9 c9 h1 h2 => me198.2.1 c9 i9 h1 h2 (by (first | exact om_102b9d22baee gd kdp rd rd2 pq160 t164 hz170 hi9 | omega))) (fun j9 hj9 => ((up2_o hV166 (by decide)).trans ((up2_o hV153 (by decide)).trans ((up2_o hV159 (by decide)).trans ((ajV43 39 j9 rfl).trans ((up2_o hV34 (by decide)).trans (up2_o hV38 (by decide)))))))) (by rw [((up2_o hV166 (by decide)).trans ((up2_o hV153 (by decide)).trans ((up2_o hV159 (by decide)).trans ((ajV43 3 13 rfl).trans ((up2_o hV34 (by decide)).trans (up2_o hV38 (by decide)))))))]; exact Int.le_refl _) ((up2_o hV166 (by decide)).trans ((up2_o hV153 (by decide)).trans ((up2_o hV159 (by decide)).trans ((ajV43 3 12 rfl).trans ((up2_o hV34 (by decide)).trans (up2_o hV38 (by decide)))))))
                have rf9 : RWn V166 ow gB (mU (mU (mNote gm o 0) 3 o.toNat 2) 0 6 1) := RWn.mv rn197 (fun j9 hj9 => mU_06 (Or.inr (by omega))) (fun x9 j9 hx9 _ => mU_06 (Or.inl hx9)) (fun _ => rfl) rfl rfl rfl (fun _ _ _ _ _ => rfl)
                have rz9 : RW V166 gB ((mU (mU (mNote gm o 0) 3 o.toNat 2) 0 6 1), 0, gr) := RW.fin rwq rf9 (by rw [mU_06 (Or.inr (by decide))]; rw [mU_o _ _ (by omega), mNt_0 (by decide)]) (fun i9 => (by rw [mU_06 (Or.inl (by decide))]; rw [mU_o _ _ (by omega), mNt_x (by decide) (by decide) (by decide)])) ((up2_k hV166 (by decide)).trans ((up2_o hV153 (by decide)).trans ((up2_o hV159 (by decide)).trans ((ajV43 5 8 rfl).trans ((up2_k hV34 (by decide)).trans (up2_k hV38 (by decide))))))) (fun i9 => ((up2_o hV166 (by decide)).trans ((up2_o hV153 (by decide)).trans ((up2_o hV159 (by decide)).trans ((ajV43 40 i9 rfl).trans ((up2_o hV34 (by decide)).trans (up2_o hV38 (by decide)))))))) (by rw [mU_s]; omega) (fun _ => ((up2_k hV166 (by decide)).trans ((up2_o hV153 (by decide)).trans ((up2_o hV159 (by decide)).trans ((ajV43 5 10 rfl).trans (up2_s hV34)))))) (fun h9 => by rw [mU_s] at h9; exact absurd h9 (by decide)) (by (first | exact om_0893762427d8 kdp rd rd2 pq160 t164 | omega)) (by rw [((up2_k hV166 (by decide)).trans ((up2_o hV153 (by decide)).trans ((up2_o hV159 (by decide)).trans ((ajV43 5 7 rfl).trans ((up2_k hV34 (by decide)).trans (up2_k hV38 (by decide))))))), rt9, tz9]) rl199
                have rx200 : RW V166 gB (stM gB (gm, ga, gfr :: gr)) := by rw [hfe, (st_17e (show bE gB c.toNat 31 = 0 from by rcases cs9 with h9 | h9; (rw [kc9] at h9; exact h9.2); (exfalso; (first | exact om_230a843bd84f f22 h9 | omega)))).trans (cl_w (by rw [← rh1]; omega) (by rw [← rh1]; omega))]; exact rz9
                refine W.know (fun kr1 kr2 => ?_)
                refine W.widen (k := zcc Z) (n := zss Z) (Nat.sub_le _ _) (Nat.sub_le _ _) ?_
                exact W.vret hx hb hr (fun t ht hW => ⟨⟨(V166, L, Z), rfl, ⟨hMV166, agV166, rfl, zoZ, rp187, rx200⟩, ⟨by rw [ht]; exact hP, va_K.moved hW.alike hK, hD⟩, by rw [ht]; exact kr1, by rw [ht]; exact kr2⟩, hS.F ht⟩) hS.2.2 dX5_goOnClosing_113
              · skip
                have hV153 : V153 = up2 V43 28 (Int32.toNatClampNeg (V 70 gf)) 2 := by rw [hw158]
                refine lv_aload_n hx hb dX5_goOnClosing_109 rfl (lv_at hl 2 rfl) ?_
                have pq201 : (V153 5 6).toInt = ((V 5 6)).toInt := congrArg Int32.toInt ((up2_o hV153 (by decide)).trans ((ajV43 5 6 rfl).trans ((up2_k hV34 (by decide)).trans (up2_k hV38 (by decide)))))
                refine gA_void (gA_runV (As := []) (rest := []) (ci := 5) (q0 := 5) hx hb hml hown hg hP hD hK hS hA hnw hgk (x_leave9 l D ks H.size ad kk V153 L Z  hMV153 (show 1 ≤ (V153 5 6).toInt from by (first | exact om_c36fd4a9fcac gd gl9 pq201 | omega))) w1308 w1310 w50 w171 w1311 rfl xgMachine hdV_yX5_leave ⟨Nat.le_of_ble_eq_true rfl, Nat.le_of_ble_eq_true rfl⟩ rfl hl.1 rfl (Nat.le_of_ble_eq_true rfl) dX5_goOnClosing_110 ⟨z0, z0⟩) hP hD hK hS hA (fun u203 H locs w204 hP hD hK hS => ?_)
                obtain ⟨V207, L208⟩ := u203
                obtain ⟨hMV207, ajV207, axL208, t205, t206⟩ := w204
                have axL208 : L = L208 := Eq.symm axL208
                subst axL208
                have hP : va_P D vwCl (xw ad kk V207 L Z) H := hP
                have hD : va_D A (xw ad kk V207 L Z) := hD
                have hMV207 : rgd bX V207 := hMV207
                have ajV207 : agr [(5, 6)] [] V153 V207 := ajV207
                have agV207 : agr [(4, 6), (5, 6), (5, 9), (5, 10)] [25, 28, 36, 37, 67, 68, 69, 70, 71, 72, 73, 74, 75, 76, 77, 78, 79, 80, 81, 82, 83, 84, 85] V V207 := agV153.tr ajV207 (by decide) (by decide)
                have t205 : (V207 5 6).toInt = (V153 5 6).toInt - 1 := t205
                have t206 : ((True) ∧ V207 = (up2 V153 5 6 (V153 5 6 - 1))) := t206
                have r209 : 0 ≤ ((V207 5 6)).toInt ∧ ((V207 5 6)).toInt ≤ 400 := hMV207 5 6
                have hw210 := t206.2
                obtain ⟨z211, ez211⟩ : ∃ y : Int32, y = V153 5 6 - 1 := ⟨_, rfl⟩
                have hz211 : z211.toInt = (V153 5 6).toInt - 1 := i_sub ez211 rfl (by decide) (by (first | exact om_70510bf9f0cb gd gl9 sl9 pq201 | omega))
                have hV207 : V207 = up2 V153 5 6 z211 := by rw [hw210, ez211]
                have me212 : ME V V207 gf := (ME.up (ME.up (ME.tr (ME.up (ME.up ME.rf hV38 (Or.inr (by (first | exact om_620f5006bfaa  | omega)))) hV34 (Or.inr (by (first | exact om_f41a5f4a8afd  | omega)))) (ME.ag ajV43 (by decide))) hV153 (Or.inr (by (first | exact om_15c89eee5dc0  | omega)))) hV207 (Or.inr (by (first | exact om_f481bd0f1cda  | omega))))
                have pq213 : (V207 67 gf).toInt = ((V 67 gf)).toInt := congrArg Int32.toInt ((up2_o hV207 (by decide)).trans ((up2_o hV153 (by decide)).trans ((ajV43 67 gf rfl).trans ((up2_o hV34 (by decide)).trans (up2_o hV38 (by decide))))))
                have pq214 : (V207 68 gf).toInt = ((V 68 gf)).toInt := congrArg Int32.toInt ((up2_o hV207 (by decide)).trans ((up2_o hV153 (by decide)).trans ((ajV43 68 gf rfl).trans ((up2_o hV34 (by decide)).trans (up2_o hV38 (by decide))))))
                have pq215 : (V207 70 gf).toInt = ((V 70 gf)).toInt := congrArg Int32.toInt ((up2_o hV207 (by decide)).trans ((up2_o hV153 (by decide)).trans ((ajV43 70 gf rfl).trans ((up2_o hV34 (by decide)).trans (up2_o hV38 (by decide))))))
                have pq216 : (V207 71 gf).toInt = ((V 71 gf)).toInt := congrArg Int32.toInt ((up2_o hV207 (by decide)).trans ((up2_o hV153 (by decide)).trans ((ajV43 71 gf rfl).trans ((up2_o hV34 (by decide)).trans (up2_o hV38 (by decide))))))
                have pq217 : (V207 75 gf).toInt = ((V 75 gf)).toInt := congrArg Int32.toInt ((up2_o hV207 (by decide)).trans ((up2_o hV153 (by decide)).trans ((ajV43 75 gf rfl).trans ((up2_o hV34 (by decide)).trans (up2_o hV38 (by decide))))))
                have pq218 : (V207 76 gf).toInt = ((V 76 gf)).toInt := congrArg Int32.toInt ((up2_o hV207 (by decide)).trans ((up2_o hV153 (by decide)).trans ((ajV43 76 gf rfl).trans ((up2_o hV34 (by decide)).trans (up2_o hV38 (by decide))))))
                have pq219 : (V207 80 gf).toInt = ((V 80 gf)).toInt := congrArg Int32.toInt ((up2_o hV207 (by decide)).trans ((up2_o hV153 (by decide)).trans ((ajV43 80 gf rfl).trans ((up2_o hV34 (by decide)).trans (up2_o hV38 (by decide))))))
                have pq220 : (V207 84 gf).toInt = ((V 84 gf)).toInt := congrArg Int32.toInt ((up2_o hV207 (by decide)).trans ((up2_o hV153 (by decide)).trans ((ajV43 84 gf rfl).trans ((up2_o hV34 (by decide)).trans (up2_o hV38 (by decide))))))
                have pq221 : (V207 5 6).toInt = z211.toInt := congrArg Int32.toInt (up2_s hV207)
                have pq222 : (V207 5 8).toInt = ((V 5 8)).toInt := congrArg Int32.toInt ((up2_k hV207 (by decide)).trans ((up2_o hV153 (by decide)).trans ((ajV43 5 8 rfl).trans ((up2_k hV34 (by decide)).trans (up2_k hV38 (by decide))))))
                have pq223 : (V207 5 9).toInt = 1 := (congrArg Int32.toInt ((up2_k hV207 (by decide)).trans ((up2_o hV153 (by decide)).trans ((ajV43 5 9 rfl).trans ((up2_k hV34 (by decide)).trans (up2_s hV38)))))).trans (by decide)
                have pq224 : (V207 3 13).toInt = ((V 3 13)).toInt := congrArg Int32.toInt ((up2_o hV207 (by decide)).trans ((up2_o hV153 (by decide)).trans ((ajV43 3 13 rfl).trans ((up2_o hV34 (by decide)).trans (up2_o hV38 (by decide))))))
                have pq225 : (V207 43 (5 * b + 2)).toInt = ((V 43 (5 * b + 2))).toInt := congrArg Int32.toInt ((up2_o hV207 (by decide)).trans ((up2_o hV153 (by decide)).trans ((ajV43 43 (5 * b + 2) rfl).trans ((up2_o hV34 (by decide)).trans (up2_o hV38 (by decide))))))
                have pq226 : (V207 42 b).toInt = ((V 42 b)).toInt := congrArg Int32.toInt ((up2_o hV207 (by decide)).trans ((up2_o hV153 (by decide)).trans ((ajV43 42 b rfl).trans ((up2_o hV34 (by decide)).trans (up2_o hV38 (by decide))))))
                have pq227 : (V207 41 b).toInt = ((V 41 b)).toInt := congrArg Int32.toInt ((up2_o hV207 (by decide)).trans ((up2_o hV153 (by decide)).trans ((ajV43 41 b rfl).trans ((up2_o hV34 (by decide)).trans (up2_o hV38 (by decide))))))
                have rp228 : MJ V207 Z b := MP.lv (MO.mp mo) me212 (by (first | exact om_541a228d28bf gd pq201 t205 hz211 pq221 | omega)) (fun _ => Or.inl (by omega))
                have pq229 : (V207 5 11).toInt = ((V 5 11)).toInt := congrArg Int32.toInt ((up2_k hV207 (by decide)).trans ((up2_o hV153 (by decide)).trans ((ajV43 5 11 rfl).trans ((up2_k hV34 (by decide)).trans (up2_k hV38 (by decide))))))
                have pq230 : (V207 5 12).toInt = ((V 5 12)).toInt := congrArg Int32.toInt ((up2_k hV207 (by decide)).trans ((up2_o hV153 (by decide)).trans ((ajV43 5 12 rfl).trans ((up2_k hV34 (by decide)).trans (up2_k hV38 (by decide))))))
                have pq231 : (V207 5 13).toInt = ((V 5 13)).toInt := congrArg Int32.toInt ((up2_k hV207 (by decide)).trans ((up2_o hV153 (by decide)).trans ((ajV43 5 13 rfl).trans ((up2_k hV34 (by decide)).trans (up2_k hV38 (by decide))))))
                have r232 : 0 ≤ ((V 5 13)).toInt ∧ ((V 5 13)).toInt ≤ 3000 := hMV 5 13
                have pq233 : (V207 5 7).toInt = ((V 5 7)).toInt := congrArg Int32.toInt ((up2_k hV207 (by decide)).trans ((up2_o hV153 (by decide)).trans ((ajV43 5 7 rfl).trans ((up2_k hV34 (by decide)).trans (up2_k hV38 (by decide))))))
                have r234 : 0 ≤ ((V 5 7)).toInt ∧ ((V 5 7)).toInt ≤ 2048 := hMV 5 7
                have rn235 : RWn V34 ow gB gm := RWn.es rn (ESw.ag (show agr [(5, 9), (5, 10)] [] V V34 from (agr.up (agr.up agr.rf hV38 rfl) hV34 rfl)) (by decide))
                have rn236 : RWn V43 ow gB (mNote gm o 0) := RWn.note rn235 (fun c9 k9 h1 h2 h3 h4 => (ajV43 c9 k9 rfl)) (Or.inr ⟨hc47, (ajV43 4 6 rfl), fun i9 => ⟨(ajV43 36 i9 rfl), (ajV43 37 i9 rfl)⟩⟩)
                have dx9 : (Int32.toNatClampNeg (V 70 gf)) = o.toNat := by have h9 := i_clamp (x := (V 70 gf)) rfl (by (first | exact om_2996291ce4c2 fo q70 pq215 | omega)); (first | exact om_6acf0db861ed fo q70 pq215 h9 | omega)
                have do9 : ((o.toNat : Nat) : Int) < (mNote gm o 0) 0 2 := by rw [mNt_0 (by decide)]; (first | exact om_5b0e08f69870 r8 fo ra2 q70 pq215 pq224 | omega)
                have db9 := (rn236).2.1 _ do9
                have ds9 : 24 * Int32.toNatClampNeg (V43 27 (Int32.toNatClampNeg (V 70 gf))) + Int32.toNatClampNeg (V43 26 (Int32.toNatClampNeg (V 70 gf))) = 24 * ((mNote gm o 0) 2 o.toNat).toNat + ((mNote gm o 0) 1 o.toNat).toNat := by rw [dx9]; have h1 := db9.1.1; have h2 := db9.1.2.1; have h3 := i_clamp (x := V43 27 o.toNat) rfl (by (first | exact om_57a3b3030c68 db9 | omega)); have h4 := i_clamp (x := V43 26 o.toNat) rfl (by (first | exact om_624b0f847349 db9 | omega)); (first | exact om_5319a23bfaa2 db9 h3 h4 | omega)
                have rn237 : RWn V153 ow gB (mU (mNote gm o 0) 3 o.toNat 2) := RWn.drop rn236 do9 (fun x9 hx9 => up2_k hV153 (by rw [dx9]; exact hx9)) (by rw [← dx9, up2_s hV153]; decide) (fun k9 _ => up2_o hV153 (by decide)) (by rw [← ds9, up2_o hV153 (by decide), if_neg (by rw [← dx9]; have h9 := i_clamp (x := (V 70 gf)) rfl (by (first | exact om_2996291ce4c2 fo q70 pq215 | omega)); omega)]) (fun c9 k9 h1 h2 h3 => (show V153 c9 k9 = V43 c9 k9 from by rw [hV153]; exact up2_pl (by omega)))
                have rn238 : RWn V207 ow gB (mU (mNote gm o 0) 3 o.toNat 2) := RWn.es rn237 (ESw.ag (show agr [(5, 6)] [] V153 V207 from (agr.up agr.rf hV207 rfl)) (by decide))
                have me239 : ME V V207 gf := (ME.up (ME.up (ME.tr (ME.up (ME.up ME.rf hV38 (Or.inr (by (first | exact om_620f5006bfaa  | omega)))) hV34 (Or.inr (by (first | exact om_f41a5f4a8afd  | omega)))) (ME.ag ajV43 (by decide))) hV153 (Or.inr (by (first | exact om_15c89eee5dc0  | omega)))) hV207 (Or.inr (by (first | exact om_f481bd0f1cda  | omega))))
                have rl240 : RWl V207 gB gr t0 := RWl.mv hlr (fun i9 hi9 c9 h1 h2 => me239.2.1 c9 i9 h1 h2 (by (first | exact om_102b9d22baee gd kdp rd rd2 pq201 t205 hz211 hi9 | omega))) (fun j9 hj9 => ((up2_o hV207 (by decide)).trans ((up2_o hV153 (by decide)).trans ((ajV43 39 j9 rfl).trans ((up2_o hV34 (by decide)).trans (up2_o hV38 (by decide))))))) (by rw [((up2_o hV207 (by decide)).trans ((up2_o hV153 (by decide)).trans ((ajV43 3 13 rfl).trans ((up2_o hV34 (by decide)).trans (up2_o hV38 (by decide))))))]; exact Int.le_refl _) ((up2_o hV207 (by decide)).trans ((up2_o hV153 (by decide)).trans ((ajV43 3 12 rfl).trans ((up2_o hV34 (by decide)).trans (up2_o hV38 (by decide))))))
                have rf9 : RWn V207 ow gB (mU (mU (mNote gm o 0) 3 o.toNat 2) 0 6 1) := RWn.mv rn238 (fun j9 hj9 => mU_06 (Or.inr (by omega))) (fun x9 j9 hx9 _ => mU_06 (Or.inl hx9)) (fun _ => rfl) rfl rfl rfl (fun _ _ _ _ _ => rfl)
                have rz9 : RW V207 gB ((mU (mU (mNote gm o 0) 3 o.toNat 2) 0 6 1), 0, gr) := RW.fin rwq rf9 (by rw [mU_06 (Or.inr (by decide))]; rw [mU_o _ _ (by omega), mNt_0 (by decide)]) (fun i9 => (by rw [mU_06 (Or.inl (by decide))]; rw [mU_o _ _ (by omega), mNt_x (by decide) (by decide) (by decide)])) ((up2_k hV207 (by decide)).trans ((up2_o hV153 (by decide)).trans ((ajV43 5 8 rfl).trans ((up2_k hV34 (by decide)).trans (up2_k hV38 (by decide)))))) (fun i9 => ((up2_o hV207 (by decide)).trans ((up2_o hV153 (by decide)).trans ((ajV43 40 i9 rfl).trans ((up2_o hV34 (by decide)).trans (up2_o hV38 (by decide))))))) (by rw [mU_s]; omega) (fun _ => ((up2_k hV207 (by decide)).trans ((up2_o hV153 (by decide)).trans ((ajV43 5 10 rfl).trans (up2_s hV34))))) (fun h9 => by rw [mU_s] at h9; exact absurd h9 (by decide)) (by (first | exact om_0893762427d8 kdp rd rd2 pq201 t205 | omega)) (by rw [((up2_k hV207 (by decide)).trans ((up2_o hV153 (by decide)).trans ((ajV43 5 7 rfl).trans ((up2_k hV34 (by decide)).trans (up2_k hV38 (by decide)))))), rt9, tz9]) rl240
                have rx241 : RW V207 gB (stM gB (gm, ga, gfr :: gr)) := by rw [hfe, (st_17e (show bE gB c.toNat 31 = 0 from by rcases cs9 with h9 | h9; (rw [kc9] at h9; exact h9.2); (exfalso; (first | exact om_230a843bd84f f22 h9 | omega)))).trans (cl_w (by rw [← rh1]; omega) (by rw [← rh1]; omega))]; exact rz9
                refine W.know (fun kr1 kr2 => ?_)
                refine W.widen (k := zcc Z) (n := zss Z) (Nat.sub_le _ _) (Nat.sub_le _ _) ?_
                exact W.vret hx hb hr (fun t ht hW => ⟨⟨(V207, L, Z), rfl, ⟨hMV207, agV207, rfl, zoZ, rp228, rx241⟩, ⟨by rw [ht]; exact hP, va_K.moved hW.alike hK, hD⟩, by rw [ht]; exact kr1, by rw [ht]; exact kr2⟩, hS.F ht⟩) hS.2.2 dX5_goOnClosing_113
          · skip
            have f242 : ((V 5 9)).toInt = 3 := b_eq rfl (by decide) c25
            refine lv_bipush (v := 18) hx hb dX5_goOnClosing_75 (by decide) ?_
            refine lv_istore_n (lv' := [(3, .int 18), (2, .int (V 57 (24 * b + (Int32.toNatClampNeg (V 71 gf))))), (0, .ref (ad 5)), (1, .ref (Z.fa gf))]) hx hb dX5_goOnClosing_77 rfl hl (by decide) rfl (fun ls hl => ?_)
            refine lv_goto (tgt := 86) hx hb dX5_goOnClosing_78 (by decide) ?_
            refine lv_aload_n hx hb dX5_goOnClosing_86 rfl (lv_at hl 2 rfl) ?_
            refine va_get (D := D) (ci := 5) (v := .ref (ad 4)) (fs := (xfMachine ad V L Z)) (C := RX5) (T := TX5) (N := 15) hx hb hg inX5 hown hK hP 5 xgMachine rfl 1 (by decide) (hg _ w668) (fun _ h9 => h9) rfl dX5_goOnClosing_87 ?_
            refine lv_aload_n hx hb dX5_goOnClosing_90 rfl (lv_at hl 3 rfl) ?_
            refine va_getN (D := D) (ci := 4) (v := .int (V 70 gf)) (fs := (xfFrame V gf)) (C := RX4) (T := TX4) (N := 19) hx hb hg inX4 hown hK hP (336 + gf) (xgFrame hgf) rfl 3 (by decide) (hnw.use 1192 n1192 rfl) (fun _ h9 => h9) rfl dX5_goOnClosing_91 ?_
            refine lv_iload_n hx hb dX5_goOnClosing_94 rfl (lv_at hl 0 rfl) ?_
            have r243 : Int32.toInt 18 = 18 := by decide
            refine gA_void (gA_runV (As := [.int (V 70 gf), .int 18]) (rest := []) (ci := 7) (q0 := 4) hx hb hml hown hg hP hD hK hS hA hnw hgk (x_noteClosing9 l D ks H.size ad kk V L Z (V 70 gf) 18 hMV ) w1497 w1498 w1499 w166 w1500 rfl xgNotes hdV_yX7_noteClosing ⟨Nat.le_of_ble_eq_true rfl, Nat.le_of_ble_eq_true rfl⟩ rfl hl.1 rfl (Nat.le_of_ble_eq_true rfl) dX5_goOnClosing_95 ⟨z0, z0⟩) hP hD hK hS hA (fun u245 H locs w246 hP hD hK hS => ?_)
            obtain ⟨V248, L249⟩ := u245
            obtain ⟨hMV248, ajV248, axL249, t247⟩ := w246
            have axL249 : L = L249 := Eq.symm axL249
            subst axL249
            have hP : va_P D vwCl (xw ad kk V248 L Z) H := hP
            have hD : va_D A (xw ad kk V248 L Z) := hD
            have hMV248 : rgd bX V248 := hMV248
            have ajV248 : agr [(4, 6)] [36, 37] V V248 := ajV248
            have agV248 : agr [(4, 6), (5, 6), (5, 9), (5, 10)] [25, 28, 36, 37, 67, 68, 69, 70, 71, 72, 73, 74, 75, 76, 77, 78, 79, 80, 81, 82, 83, 84, 85] V V248 := agV.tr ajV248 (by decide) (by decide)
            have t247 : (((V 4 6).toInt < 300) ∧ V248 = (up2 (up2 (up2 V 36 (Int32.toNatClampNeg (V 4 6)) (V 70 gf)) 37 (Int32.toNatClampNeg (V 4 6)) 18) 4 6 (V 4 6 + 1))) ∨ ((300 ≤ (V 4 6).toInt) ∧ V248 = V) := t247
            rcases t247 with ⟨hc250, hw251⟩ | ⟨hc252, hw253⟩
            · skip
              obtain ⟨V254, hV254⟩ : ∃ z, z = up2 V 36 (Int32.toNatClampNeg (V 4 6)) (V 70 gf) := ⟨_, rfl⟩
              obtain ⟨V255, hV255⟩ : ∃ z, z = up2 V254 37 (Int32.toNatClampNeg (V 4 6)) 18 := ⟨_, rfl⟩
              have r257 : 0 ≤ ((V 4 6)).toInt ∧ ((V 4 6)).toInt ≤ 300 := hMV 4 6
              obtain ⟨z256, ez256⟩ : ∃ y : Int32, y = V 4 6 + 1 := ⟨_, rfl⟩
              have hz256 : z256.toInt = (V 4 6).toInt + 1 := i_add ez256 rfl (by decide) (by (first | exact om_5b8d680fa6e8 r257.1 r257.2 | omega))
              have hV248 : V248 = up2 V255 4 6 z256 := by rw [hw251, hV255, hV254, ez256]
              refine lv_aload_n hx hb dX5_goOnClosing_98 rfl (lv_at hl 2 rfl) ?_
              refine va_get (D := D) (ci := 5) (v := .ref (ad 3)) (fs := (xfMachine ad V248 L Z)) (C := RX5) (T := TX5) (N := 15) hx hb hg inX5 hown hK hP 5 xgMachine rfl 0 (by decide) (hg _ w667) (fun _ h9 => h9) rfl dX5_goOnClosing_99 ?_
              refine lv_aload_n hx hb dX5_goOnClosing_102 rfl (lv_at hl 3 rfl) ?_
              refine va_getN (D := D) (ci := 4) (v := .int (V248 70 gf)) (fs := (xfFrame V248 gf)) (C := RX4) (T := TX4) (N := 19) hx hb hg inX4 hown hK hP (336 + gf) (xgFrame hgf) rfl 3 (by decide) (hnw.use 1192 n1192 rfl) (fun _ h9 => h9) rfl dX5_goOnClosing_103 ?_
              refine g_top (v := (V 70 gf)) ((up2_o hV248 (by decide)).trans ((up2_o hV255 (by decide)).trans (up2_o hV254 (by decide)))) ?_
              refine gA_void (gA_runV (As := [.int (V 70 gf)]) (rest := []) (ci := 8) (q0 := 3) hx hb hml hown hg hP hD hK hS hA hnw hgk (x_dropObject9 l D ks H.size ad kk V248 L Z (V 70 gf) hMV248 (by (first | exact om_d0c9b7046452 r8 fo ra2 q70 | omega))) w1336 w1337 w1338 w164 w1339 rfl xgStock hdV_yX8_dropObject ⟨Nat.le_of_ble_eq_true rfl, Nat.le_of_ble_eq_true rfl⟩ rfl hl.1 rfl (Nat.le_of_ble_eq_true rfl) dX5_goOnClosing_106 ⟨z0, z0⟩) hP hD hK hS hA (fun u259 H locs w260 hP hD hK hS => ?_)
              obtain ⟨V263, L264⟩ := u259
              obtain ⟨hMV263, ajV263, axL264, t261, t262⟩ := w260
              have axL264 : L = L264 := Eq.symm axL264
              subst axL264
              have hP : va_P D vwCl (xw ad kk V263 L Z) H := hP
              have hD : va_D A (xw ad kk V263 L Z) := hD
              have hMV263 : rgd bX V263 := hMV263
              have ajV263 : agr [] [25, 28] V248 V263 := ajV263
              have agV263 : agr [(4, 6), (5, 6), (5, 9), (5, 10)] [25, 28, 36, 37, 67, 68, 69, 70, 71, 72, 73, 74, 75, 76, 77, 78, 79, 80, 81, 82, 83, 84, 85] V V263 := agV248.tr ajV263 (by decide) (by decide)
              have t261 : ∀ n, ME V248 V263 n := t261
              have t262 : (((V248 25 (24 * Int32.toNatClampNeg (V248 27 (Int32.toNatClampNeg (V 70 gf))) + Int32.toNatClampNeg (V248 26 (Int32.toNatClampNeg (V 70 gf))))).toInt = ((V 70 gf)).toInt) ∧ V263 = (up2 (up2 V248 28 (Int32.toNatClampNeg (V 70 gf)) 2) 25 (24 * Int32.toNatClampNeg (V248 27 (Int32.toNatClampNeg (V 70 gf))) + Int32.toNatClampNeg (V248 26 (Int32.toNatClampNeg (V 70 gf)))) (-1))) ∨ (((V248 25 (24 * Int32.toNatClampNeg (V248 27 (Int32.toNatClampNeg (V 70 gf))) + Int32.toNatClampNeg (V248 26 (Int32.toNatClampNeg (V 70 gf))))).toInt ≠ ((V 70 gf)).toInt) ∧ V263 = (up2 V248 28 (Int32.toNatClampNeg (V 70 gf)) 2)) := t262
              rcases t262 with ⟨hc265, hw266⟩ | ⟨hc267, hw268⟩
              · skip
                obtain ⟨V269, hV269⟩ : ∃ z, z = up2 V248 28 (Int32.toNatClampNeg (V 70 gf)) 2 := ⟨_, rfl⟩
                have hV263 : V263 = up2 V269 25 (24 * Int32.toNatClampNeg (V248 27 (Int32.toNatClampNeg (V 70 gf))) + Int32.toNatClampNeg (V248 26 (Int32.toNatClampNeg (V 70 gf)))) (-1) := by rw [hw266, hV269]
                refine lv_aload_n hx hb dX5_goOnClosing_109 rfl (lv_at hl 2 rfl) ?_
                have pq270 : (V263 5 6).toInt = ((V 5 6)).toInt := congrArg Int32.toInt ((up2_o hV263 (by decide)).trans ((up2_o hV269 (by decide)).trans ((up2_o hV248 (by decide)).trans ((up2_o hV255 (by decide)).trans (up2_o hV254 (by decide))))))
                refine gA_void (gA_runV (As := []) (rest := []) (ci := 5) (q0 := 5) hx hb hml hown hg hP hD hK hS hA hnw hgk (x_leave9 l D ks H.size ad kk V263 L Z  hMV263 (show 1 ≤ (V263 5 6).toInt from by (first | exact om_c36fd4a9fcac gd gl9 pq270 | omega))) w1308 w1310 w50 w171 w1311 rfl xgMachine hdV_yX5_leave ⟨Nat.le_of_ble_eq_true rfl, Nat.le_of_ble_eq_true rfl⟩ rfl hl.1 rfl (Nat.le_of_ble_eq_true rfl) dX5_goOnClosing_110 ⟨z0, z0⟩) hP hD hK hS hA (fun u272 H locs w273 hP hD hK hS => ?_)
                obtain ⟨V276, L277⟩ := u272
                obtain ⟨hMV276, ajV276, axL277, t274, t275⟩ := w273
                have axL277 : L = L277 := Eq.symm axL277
                subst axL277
                have hP : va_P D vwCl (xw ad kk V276 L Z) H := hP
                have hD : va_D A (xw ad kk V276 L Z) := hD
                have hMV276 : rgd bX V276 := hMV276
                have ajV276 : agr [(5, 6)] [] V263 V276 := ajV276
                have agV276 : agr [(4, 6), (5, 6), (5, 9), (5, 10)] [25, 28, 36, 37, 67, 68, 69, 70, 71, 72, 73, 74, 75, 76, 77, 78, 79, 80, 81, 82, 83, 84, 85] V V276 := agV263.tr ajV276 (by decide) (by decide)
                have t274 : (V276 5 6).toInt = (V263 5 6).toInt - 1 := t274
                have t275 : ((True) ∧ V276 = (up2 V263 5 6 (V263 5 6 - 1))) := t275
                have r278 : 0 ≤ ((V276 5 6)).toInt ∧ ((V276 5 6)).toInt ≤ 400 := hMV276 5 6
                have hw279 := t275.2
                obtain ⟨z280, ez280⟩ : ∃ y : Int32, y = V263 5 6 - 1 := ⟨_, rfl⟩
                have hz280 : z280.toInt = (V263 5 6).toInt - 1 := i_sub ez280 rfl (by decide) (by (first | exact om_70510bf9f0cb gd gl9 sl9 pq270 | omega))
                have hV276 : V276 = up2 V263 5 6 z280 := by rw [hw279, ez280]
                have me281 : ME V V276 gf := (ME.up (ME.up (ME.up (ME.up (ME.up (ME.up ME.rf hV254 (Or.inr (by (first | exact om_cafd1137c917  | omega)))) hV255 (Or.inr (by (first | exact om_c9c9e20ea0d3  | omega)))) hV248 (Or.inr (by (first | exact om_5d9c67e1ed13  | omega)))) hV269 (Or.inr (by (first | exact om_15c89eee5dc0  | omega)))) hV263 (Or.inr (by omega))) hV276 (Or.inr (by (first | exact om_f481bd0f1cda  | omega))))
                have pq282 : (V276 67 gf).toInt = ((V 67 gf)).toInt := congrArg Int32.toInt ((up2_o hV276 (by decide)).trans ((up2_o hV263 (by decide)).trans ((up2_o hV269 (by decide)).trans ((up2_o hV248 (by decide)).trans ((up2_o hV255 (by decide)).trans (up2_o hV254 (by decide)))))))
                have pq283 : (V276 68 gf).toInt = ((V 68 gf)).toInt := congrArg Int32.toInt ((up2_o hV276 (by decide)).trans ((up2_o hV263 (by decide)).trans ((up2_o hV269 (by decide)).trans ((up2_o hV248 (by decide)).trans ((up2_o hV255 (by decide)).trans (up2_o hV254 (by decide)))))))
                have pq284 : (V276 70 gf).toInt = ((V 70 gf)).toInt := congrArg Int32.toInt ((up2_o hV276 (by decide)).trans ((up2_o hV263 (by decide)).trans ((up2_o hV269 (by decide)).trans ((up2_o hV248 (by decide)).trans ((up2_o hV255 (by decide)).trans (up2_o hV254 (by decide)))))))
                have pq285 : (V276 71 gf).toInt = ((V 71 gf)).toInt := congrArg Int32.toInt ((up2_o hV276 (by decide)).trans ((up2_o hV263 (by decide)).trans ((up2_o hV269 (by decide)).trans ((up2_o hV248 (by decide)).trans ((up2_o hV255 (by decide)).trans (up2_o hV254 (by decide)))))))
                have pq286 : (V276 75 gf).toInt = ((V 75 gf)).toInt := congrArg Int32.toInt ((up2_o hV276 (by decide)).trans ((up2_o hV263 (by decide)).trans ((up2_o hV269 (by decide)).trans ((up2_o hV248 (by decide)).trans ((up2_o hV255 (by decide)).trans (up2_o hV254 (by decide)))))))
                have pq287 : (V276 76 gf).toInt = ((V 76 gf)).toInt := congrArg Int32.toInt ((up2_o hV276 (by decide)).trans ((up2_o hV263 (by decide)).trans ((up2_o hV269 (by decide)).trans ((up2_o hV248 (by decide)).trans ((up2_o hV255 (by decide)).trans (up2_o hV254 (by decide)))))))
                have pq288 : (V276 80 gf).toInt = ((V 80 gf)).toInt := congrArg Int32.toInt ((up2_o hV276 (by decide)).trans ((up2_o hV263 (by decide)).trans ((up2_o hV269 (by decide)).trans ((up2_o hV248 (by decide)).trans ((up2_o hV255 (by decide)).trans (up2_o hV254 (by decide)))))))
                have pq289 : (V276 84 gf).toInt = ((V 84 gf)).toInt := congrArg Int32.toInt ((up2_o hV276 (by decide)).trans ((up2_o hV263 (by decide)).trans ((up2_o hV269 (by decide)).trans ((up2_o hV248 (by decide)).trans ((up2_o hV255 (by decide)).trans (up2_o hV254 (by decide)))))))
                have pq290 : (V276 5 6).toInt = z280.toInt := congrArg Int32.toInt (up2_s hV276)
                have pq291 : (V276 5 8).toInt = ((V 5 8)).toInt := congrArg Int32.toInt ((up2_k hV276 (by decide)).trans ((up2_o hV263 (by decide)).trans ((up2_o hV269 (by decide)).trans ((up2_o hV248 (by decide)).trans ((up2_o hV255 (by decide)).trans (up2_o hV254 (by decide)))))))
                have pq292 : (V276 5 9).toInt = ((V 5 9)).toInt := congrArg Int32.toInt ((up2_k hV276 (by decide)).trans ((up2_o hV263 (by decide)).trans ((up2_o hV269 (by decide)).trans ((up2_o hV248 (by decide)).trans ((up2_o hV255 (by decide)).trans (up2_o hV254 (by decide)))))))
                have pq293 : (V276 3 13).toInt = ((V 3 13)).toInt := congrArg Int32.toInt ((up2_o hV276 (by decide)).trans ((up2_o hV263 (by decide)).trans ((up2_o hV269 (by decide)).trans ((up2_o hV248 (by decide)).trans ((up2_o hV255 (by decide)).trans (up2_o hV254 (by decide)))))))
                have pq294 : (V276 43 (5 * b + 2)).toInt = ((V 43 (5 * b + 2))).toInt := congrArg Int32.toInt ((up2_o hV276 (by decide)).trans ((up2_o hV263 (by decide)).trans ((up2_o hV269 (by decide)).trans ((up2_o hV248 (by decide)).trans ((up2_o hV255 (by decide)).trans (up2_o hV254 (by decide)))))))
                have pq295 : (V276 42 b).toInt = ((V 42 b)).toInt := congrArg Int32.toInt ((up2_o hV276 (by decide)).trans ((up2_o hV263 (by decide)).trans ((up2_o hV269 (by decide)).trans ((up2_o hV248 (by decide)).trans ((up2_o hV255 (by decide)).trans (up2_o hV254 (by decide)))))))
                have pq296 : (V276 41 b).toInt = ((V 41 b)).toInt := congrArg Int32.toInt ((up2_o hV276 (by decide)).trans ((up2_o hV263 (by decide)).trans ((up2_o hV269 (by decide)).trans ((up2_o hV248 (by decide)).trans ((up2_o hV255 (by decide)).trans (up2_o hV254 (by decide)))))))
                have rp297 : MJ V276 Z b := MP.lv (MO.mp mo) me281 (by (first | exact om_541a228d28bf gd pq270 t274 hz280 pq290 | omega)) (fun _ => Or.inl (by omega))
                have pq298 : (V276 5 11).toInt = ((V 5 11)).toInt := congrArg Int32.toInt ((up2_k hV276 (by decide)).trans ((up2_o hV263 (by decide)).trans ((up2_o hV269 (by decide)).trans ((up2_o hV248 (by decide)).trans ((up2_o hV255 (by decide)).trans (up2_o hV254 (by decide)))))))
                have pq299 : (V276 5 12).toInt = ((V 5 12)).toInt := congrArg Int32.toInt ((up2_k hV276 (by decide)).trans ((up2_o hV263 (by decide)).trans ((up2_o hV269 (by decide)).trans ((up2_o hV248 (by decide)).trans ((up2_o hV255 (by decide)).trans (up2_o hV254 (by decide)))))))
                have pq300 : (V276 5 13).toInt = ((V 5 13)).toInt := congrArg Int32.toInt ((up2_k hV276 (by decide)).trans ((up2_o hV263 (by decide)).trans ((up2_o hV269 (by decide)).trans ((up2_o hV248 (by decide)).trans ((up2_o hV255 (by decide)).trans (up2_o hV254 (by decide)))))))
                have r301 : 0 ≤ ((V 5 13)).toInt ∧ ((V 5 13)).toInt ≤ 3000 := hMV 5 13
                have pq302 : (V276 5 7).toInt = ((V 5 7)).toInt := congrArg Int32.toInt ((up2_k hV276 (by decide)).trans ((up2_o hV263 (by decide)).trans ((up2_o hV269 (by decide)).trans ((up2_o hV248 (by decide)).trans ((up2_o hV255 (by decide)).trans (up2_o hV254 (by decide)))))))
                have r303 : 0 ≤ ((V 5 7)).toInt ∧ ((V 5 7)).toInt ≤ 2048 := hMV 5 7
                have rn304 : RWn V248 ow gB (mNote gm o 18) := RWn.note rn (fun c9 k9 h1 h2 h3 h4 => ((show V248 c9 k9 = V255 c9 k9 from by rw [hV248]; exact up2_pl (by omega)).trans ((show V255 c9 k9 = V254 c9 k9 from by rw [hV255]; exact up2_pl (by omega)).trans (show V254 c9 k9 = V c9 k9 from by rw [hV254]; exact up2_pl (by omega))))) (Or.inl ⟨hc250, (by rw [up2_s hV248]; exact hz256), (fun i9 hi9 => ⟨(up2_o hV248 (by decide)).trans ((up2_o hV255 (by decide)).trans (up2_k hV254 hi9)), (up2_o hV248 (by decide)).trans ((up2_k hV255 hi9).trans (up2_o hV254 (by decide)))⟩), (show (V248 36 (Int32.toNatClampNeg (V 4 6))).toInt = o from by rw [(up2_o hV248 (by decide)).trans ((up2_o hV255 (by decide)).trans (up2_s hV254))]; exact q70), (show (V248 37 (Int32.toNatClampNeg (V 4 6))).toInt = 18 from by rw [(up2_o hV248 (by decide)).trans (up2_s hV255)]; decide)⟩)
                have dx9 : (Int32.toNatClampNeg (V 70 gf)) = o.toNat := by have h9 := i_clamp (x := (V 70 gf)) rfl (by (first | exact om_c42429f26483 fo q70 hc265 pq284 | omega)); (first | exact om_cdba46fd13a1 fo q70 hc265 pq284 h9 | omega)
                have do9 : ((o.toNat : Nat) : Int) < (mNote gm o 18) 0 2 := by rw [mNt_0 (by decide)]; (first | exact om_b313c004abde r8 fo ra2 q70 hc265 pq284 pq293 | omega)
                have db9 := (rn304).2.1 _ do9
                have ds9 : 24 * Int32.toNatClampNeg (V248 27 (Int32.toNatClampNeg (V 70 gf))) + Int32.toNatClampNeg (V248 26 (Int32.toNatClampNeg (V 70 gf))) = 24 * ((mNote gm o 18) 2 o.toNat).toNat + ((mNote gm o 18) 1 o.toNat).toNat := by rw [dx9]; have h1 := db9.1.1; have h2 := db9.1.2.1; have h3 := i_clamp (x := V248 27 o.toNat) rfl (by (first | exact om_57a3b3030c68 db9 | omega)); have h4 := i_clamp (x := V248 26 o.toNat) rfl (by (first | exact om_624b0f847349 db9 | omega)); (first | exact om_5319a23bfaa2 db9 h3 h4 | omega)
                have rn305 : RWn V263 ow gB (mU (mNote gm o 18) 3 o.toNat 2) := RWn.drop rn304 do9 (fun x9 hx9 => (up2_o hV263 (by decide)).trans (up2_k hV269 (by rw [dx9]; exact hx9))) (by rw [← dx9, (up2_o hV263 (by decide)).trans (up2_s hV269)]; decide) (fun k9 hk9 => (up2_k hV263 (by rw [ds9]; exact hk9)).trans (up2_o hV269 (by decide))) (by rw [← ds9, up2_s hV263, if_pos (by rw [← dx9]; have h9 := i_clamp (x := (V 70 gf)) rfl (by (first | exact om_c42429f26483 fo q70 hc265 pq284 | omega)); (first | exact om_31a30e49af65 q70 hc265 pq284 dx9 h9 | omega))]; decide) (fun c9 k9 h1 h2 h3 => ((show V263 c9 k9 = V269 c9 k9 from by rw [hV263]; exact up2_pl (by omega)).trans (show V269 c9 k9 = V248 c9 k9 from by rw [hV269]; exact up2_pl (by omega))))
                have rn306 : RWn V276 ow gB (mU (mNote gm o 18) 3 o.toNat 2) := RWn.es rn305 (ESw.ag (show agr [(5, 6)] [] V263 V276 from (agr.up agr.rf hV276 rfl)) (by decide))
                have me307 : ME V V276 gf := (ME.up (ME.up (ME.up (ME.up (ME.up (ME.up ME.rf hV254 (Or.inr (by (first | exact om_cafd1137c917  | omega)))) hV255 (Or.inr (by (first | exact om_c9c9e20ea0d3  | omega)))) hV248 (Or.inr (by (first | exact om_5d9c67e1ed13  | omega)))) hV269 (Or.inr (by (first | exact om_15c89eee5dc0  | omega)))) hV263 (Or.inr (by omega))) hV276 (Or.inr (by (first | exact om_f481bd0f1cda  | omega))))
                have rl308 : RWl V276 gB gr t0 := RWl.mv hlr (fun i9 hi9 c9 h1 h2 => me307.2.1 c9 i9 h1 h2 (by (first | exact om_102b9d22baee gd kdp rd rd2 pq270 t274 hz280 hi9 | omega))) (fun j9 hj9 => ((up2_o hV276 (by decide)).trans ((up2_o hV263 (by decide)).trans ((up2_o hV269 (by decide)).trans ((up2_o hV248 (by decide)).trans ((up2_o hV255 (by decide)).trans (up2_o hV254 (by decide)))))))) (by rw [((up2_o hV276 (by decide)).trans ((up2_o hV263 (by decide)).trans ((up2_o hV269 (by decide)).trans ((up2_o hV248 (by decide)).trans ((up2_o hV255 (by decide)).trans (up2_o hV254 (by decide)))))))]; exact Int.le_refl _) ((up2_o hV276 (by decide)).trans ((up2_o hV263 (by decide)).trans ((up2_o hV269 (by decide)).trans ((up2_o hV248 (by decide)).trans ((up2_o hV255 (by decide)).trans (up2_o hV254 (by decide)))))))
                have rz9 : RW V276 gB ((mU (mNote gm o 18) 3 o.toNat 2), ga, gr) := RW.fin rwq rn306 (by rw [mU_o _ _ (by omega), mNt_0 (by decide)]) (fun i9 => (by rw [mU_o _ _ (by omega), mNt_x (by decide) (by decide) (by decide)])) ((up2_k hV276 (by decide)).trans ((up2_o hV263 (by decide)).trans ((up2_o hV269 (by decide)).trans ((up2_o hV248 (by decide)).trans ((up2_o hV255 (by decide)).trans (up2_o hV254 (by decide))))))) (fun i9 => ((up2_o hV276 (by decide)).trans ((up2_o hV263 (by decide)).trans ((up2_o hV269 (by decide)).trans ((up2_o hV248 (by decide)).trans ((up2_o hV255 (by decide)).trans (up2_o hV254 (by decide)))))))) (by rw [(show (mU (mNote gm o 18) 3 o.toNat 2) 0 6 = gm 0 6 from by rw [mU_o _ _ (by omega), mNt_0 (by decide)])]; (first | exact om_ba837528b673 rh1 f242 pq292 | omega)) (fun h9 => by rw [(show (mU (mNote gm o 18) 3 o.toNat 2) 0 6 = gm 0 6 from by rw [mU_o _ _ (by omega), mNt_0 (by decide)])] at h9; exfalso; (first | exact om_d841449c9c41 rh1 f242 h9 | omega)) (fun h9 => by rw [mU_o _ _ (by omega), mU_o _ _ (by omega), mNt_0 (by decide), mNt_0 (by decide)]; rw [(show (mU (mNote gm o 18) 3 o.toNat 2) 0 6 = gm 0 6 from by rw [mU_o _ _ (by omega), mNt_0 (by decide)])] at h9; exfalso; (first | exact om_72d17bfe283f rh1 f242 h9 | omega)) (by (first | exact om_0893762427d8 kdp rd rd2 pq270 t274 | omega)) (by rw [((up2_k hV276 (by decide)).trans ((up2_o hV263 (by decide)).trans ((up2_o hV269 (by decide)).trans ((up2_o hV248 (by decide)).trans ((up2_o hV255 (by decide)).trans (up2_o hV254 (by decide))))))), rt9, tz9]) rl308
                have rx309 : RW V276 gB (stM gB (gm, ga, gfr :: gr)) := by rw [hfe, (st_17e (show bE gB c.toNat 31 = 0 from by rcases cs9 with h9 | h9; (rw [kc9] at h9; exact h9.2); (exfalso; (first | exact om_230a843bd84f f22 h9 | omega)))).trans (cl_s (by rw [← rh1]; omega))]; exact rz9
                refine W.know (fun kr1 kr2 => ?_)
                refine W.widen (k := zcc Z) (n := zss Z) (Nat.sub_le _ _) (Nat.sub_le _ _) ?_
                exact W.vret hx hb hr (fun t ht hW => ⟨⟨(V276, L, Z), rfl, ⟨hMV276, agV276, rfl, zoZ, rp297, rx309⟩, ⟨by rw [ht]; exact hP, va_K.moved hW.alike hK, hD⟩, by rw [ht]; exact kr1, by rw [ht]; exact kr2⟩, hS.F ht⟩) hS.2.2 dX5_goOnClosing_113
              · skip
                have hV263 : V263 = up2 V248 28 (Int32.toNatClampNeg (V 70 gf)) 2 := by rw [hw268]
                refine lv_aload_n hx hb dX5_goOnClosing_109 rfl (lv_at hl 2 rfl) ?_
                have pq310 : (V263 5 6).toInt = ((V 5 6)).toInt := congrArg Int32.toInt ((up2_o hV263 (by decide)).trans ((up2_o hV248 (by decide)).trans ((up2_o hV255 (by decide)).trans (up2_o hV254 (by decide)))))
                refine gA_void (gA_runV (As := []) (rest := []) (ci := 5) (q0 := 5) hx hb hml hown hg hP hD hK hS hA hnw hgk (x_leave9 l D ks H.size ad kk V263 L Z  hMV263 (show 1 ≤ (V263 5 6).toInt from by (first | exact om_c36fd4a9fcac gd gl9 pq310 | omega))) w1308 w1310 w50 w171 w1311 rfl xgMachine hdV_yX5_leave ⟨Nat.le_of_ble_eq_true rfl, Nat.le_of_ble_eq_true rfl⟩ rfl hl.1 rfl (Nat.le_of_ble_eq_true rfl) dX5_goOnClosing_110 ⟨z0, z0⟩) hP hD hK hS hA (fun u312 H locs w313 hP hD hK hS => ?_)
                obtain ⟨V316, L317⟩ := u312
                obtain ⟨hMV316, ajV316, axL317, t314, t315⟩ := w313
                have axL317 : L = L317 := Eq.symm axL317
                subst axL317
                have hP : va_P D vwCl (xw ad kk V316 L Z) H := hP
                have hD : va_D A (xw ad kk V316 L Z) := hD
                have hMV316 : rgd bX V316 := hMV316
                have ajV316 : agr [(5, 6)] [] V263 V316 := ajV316
                have agV316 : agr [(4, 6), (5, 6), (5, 9), (5, 10)] [25, 28, 36, 37, 67, 68, 69, 70, 71, 72, 73, 74, 75, 76, 77, 78, 79, 80, 81, 82, 83, 84, 85] V V316 := agV263.tr ajV316 (by decide) (by decide)
                have t314 : (V316 5 6).toInt = (V263 5 6).toInt - 1 := t314
                have t315 : ((True) ∧ V316 = (up2 V263 5 6 (V263 5 6 - 1))) := t315
                have r318 : 0 ≤ ((V316 5 6)).toInt ∧ ((V316 5 6)).toInt ≤ 400 := hMV316 5 6
                have hw319 := t315.2
                obtain ⟨z320, ez320⟩ : ∃ y : Int32, y = V263 5 6 - 1 := ⟨_, rfl⟩
                have hz320 : z320.toInt = (V263 5 6).toInt - 1 := i_sub ez320 rfl (by decide) (by (first | exact om_70510bf9f0cb gd gl9 sl9 pq310 | omega))
                have hV316 : V316 = up2 V263 5 6 z320 := by rw [hw319, ez320]
                have me321 : ME V V316 gf := (ME.up (ME.up (ME.up (ME.up (ME.up ME.rf hV254 (Or.inr (by (first | exact om_cafd1137c917  | omega)))) hV255 (Or.inr (by (first | exact om_c9c9e20ea0d3  | omega)))) hV248 (Or.inr (by (first | exact om_5d9c67e1ed13  | omega)))) hV263 (Or.inr (by (first | exact om_15c89eee5dc0  | omega)))) hV316 (Or.inr (by (first | exact om_f481bd0f1cda  | omega))))
                have pq322 : (V316 67 gf).toInt = ((V 67 gf)).toInt := congrArg Int32.toInt ((up2_o hV316 (by decide)).trans ((up2_o hV263 (by decide)).trans ((up2_o hV248 (by decide)).trans ((up2_o hV255 (by decide)).trans (up2_o hV254 (by decide))))))
                have pq323 : (V316 68 gf).toInt = ((V 68 gf)).toInt := congrArg Int32.toInt ((up2_o hV316 (by decide)).trans ((up2_o hV263 (by decide)).trans ((up2_o hV248 (by decide)).trans ((up2_o hV255 (by decide)).trans (up2_o hV254 (by decide))))))
                have pq324 : (V316 70 gf).toInt = ((V 70 gf)).toInt := congrArg Int32.toInt ((up2_o hV316 (by decide)).trans ((up2_o hV263 (by decide)).trans ((up2_o hV248 (by decide)).trans ((up2_o hV255 (by decide)).trans (up2_o hV254 (by decide))))))
                have pq325 : (V316 71 gf).toInt = ((V 71 gf)).toInt := congrArg Int32.toInt ((up2_o hV316 (by decide)).trans ((up2_o hV263 (by decide)).trans ((up2_o hV248 (by decide)).trans ((up2_o hV255 (by decide)).trans (up2_o hV254 (by decide))))))
                have pq326 : (V316 75 gf).toInt = ((V 75 gf)).toInt := congrArg Int32.toInt ((up2_o hV316 (by decide)).trans ((up2_o hV263 (by decide)).trans ((up2_o hV248 (by decide)).trans ((up2_o hV255 (by decide)).trans (up2_o hV254 (by decide))))))
                have pq327 : (V316 76 gf).toInt = ((V 76 gf)).toInt := congrArg Int32.toInt ((up2_o hV316 (by decide)).trans ((up2_o hV263 (by decide)).trans ((up2_o hV248 (by decide)).trans ((up2_o hV255 (by decide)).trans (up2_o hV254 (by decide))))))
                have pq328 : (V316 80 gf).toInt = ((V 80 gf)).toInt := congrArg Int32.toInt ((up2_o hV316 (by decide)).trans ((up2_o hV263 (by decide)).trans ((up2_o hV248 (by decide)).trans ((up2_o hV255 (by decide)).trans (up2_o hV254 (by decide))))))
                have pq329 : (V316 84 gf).toInt = ((V 84 gf)).toInt := congrArg Int32.toInt ((up2_o hV316 (by decide)).trans ((up2_o hV263 (by decide)).trans ((up2_o hV248 (by decide)).trans ((up2_o hV255 (by decide)).trans (up2_o hV254 (by decide))))))
                have pq330 : (V316 5 6).toInt = z320.toInt := congrArg Int32.toInt (up2_s hV316)
                have pq331 : (V316 5 8).toInt = ((V 5 8)).toInt := congrArg Int32.toInt ((up2_k hV316 (by decide)).trans ((up2_o hV263 (by decide)).trans ((up2_o hV248 (by decide)).trans ((up2_o hV255 (by decide)).trans (up2_o hV254 (by decide))))))
                have pq332 : (V316 5 9).toInt = ((V 5 9)).toInt := congrArg Int32.toInt ((up2_k hV316 (by decide)).trans ((up2_o hV263 (by decide)).trans ((up2_o hV248 (by decide)).trans ((up2_o hV255 (by decide)).trans (up2_o hV254 (by decide))))))
                have pq333 : (V316 3 13).toInt = ((V 3 13)).toInt := congrArg Int32.toInt ((up2_o hV316 (by decide)).trans ((up2_o hV263 (by decide)).trans ((up2_o hV248 (by decide)).trans ((up2_o hV255 (by decide)).trans (up2_o hV254 (by decide))))))
                have pq334 : (V316 43 (5 * b + 2)).toInt = ((V 43 (5 * b + 2))).toInt := congrArg Int32.toInt ((up2_o hV316 (by decide)).trans ((up2_o hV263 (by decide)).trans ((up2_o hV248 (by decide)).trans ((up2_o hV255 (by decide)).trans (up2_o hV254 (by decide))))))
                have pq335 : (V316 42 b).toInt = ((V 42 b)).toInt := congrArg Int32.toInt ((up2_o hV316 (by decide)).trans ((up2_o hV263 (by decide)).trans ((up2_o hV248 (by decide)).trans ((up2_o hV255 (by decide)).trans (up2_o hV254 (by decide))))))
                have pq336 : (V316 41 b).toInt = ((V 41 b)).toInt := congrArg Int32.toInt ((up2_o hV316 (by decide)).trans ((up2_o hV263 (by decide)).trans ((up2_o hV248 (by decide)).trans ((up2_o hV255 (by decide)).trans (up2_o hV254 (by decide))))))
                have rp337 : MJ V316 Z b := MP.lv (MO.mp mo) me321 (by (first | exact om_541a228d28bf gd pq310 t314 hz320 pq330 | omega)) (fun _ => Or.inl (by omega))
                have pq338 : (V316 5 11).toInt = ((V 5 11)).toInt := congrArg Int32.toInt ((up2_k hV316 (by decide)).trans ((up2_o hV263 (by decide)).trans ((up2_o hV248 (by decide)).trans ((up2_o hV255 (by decide)).trans (up2_o hV254 (by decide))))))
                have pq339 : (V316 5 12).toInt = ((V 5 12)).toInt := congrArg Int32.toInt ((up2_k hV316 (by decide)).trans ((up2_o hV263 (by decide)).trans ((up2_o hV248 (by decide)).trans ((up2_o hV255 (by decide)).trans (up2_o hV254 (by decide))))))
                have pq340 : (V316 5 13).toInt = ((V 5 13)).toInt := congrArg Int32.toInt ((up2_k hV316 (by decide)).trans ((up2_o hV263 (by decide)).trans ((up2_o hV248 (by decide)).trans ((up2_o hV255 (by decide)).trans (up2_o hV254 (by decide))))))
                have r341 : 0 ≤ ((V 5 13)).toInt ∧ ((V 5 13)).toInt ≤ 3000 := hMV 5 13
                have pq342 : (V316 5 7).toInt = ((V 5 7)).toInt := congrArg Int32.toInt ((up2_k hV316 (by decide)).trans ((up2_o hV263 (by decide)).trans ((up2_o hV248 (by decide)).trans ((up2_o hV255 (by decide)).trans (up2_o hV254 (by decide))))))
                have r343 : 0 ≤ ((V 5 7)).toInt ∧ ((V 5 7)).toInt ≤ 2048 := hMV 5 7
                have rn344 : RWn V248 ow gB (mNote gm o 18) := RWn.note rn (fun c9 k9 h1 h2 h3 h4 => ((show V248 c9 k9 = V255 c9 k9 from by rw [hV248]; exact up2_pl (by omega)).trans ((show V255 c9 k9 = V254 c9 k9 from by rw [hV255]; exact up2_pl (by omega)).trans (show V254 c9 k9 = V c9 k9 from by rw [hV254]; exact up2_pl (by omega))))) (Or.inl ⟨hc250, (by rw [up2_s hV248]; exact hz256), (fun i9 hi9 => ⟨(up2_o hV248 (by decide)).trans ((up2_o hV255 (by decide)).trans (up2_k hV254 hi9)), (up2_o hV248 (by decide)).trans ((up2_k hV255 hi9).trans (up2_o hV254 (by decide)))⟩), (show (V248 36 (Int32.toNatClampNeg (V 4 6))).toInt = o from by rw [(up2_o hV248 (by decide)).trans ((up2_o hV255 (by decide)).trans (up2_s hV254))]; exact q70), (show (V248 37 (Int32.toNatClampNeg (V 4 6))).toInt = 18 from by rw [(up2_o hV248 (by decide)).trans (up2_s hV255)]; decide)⟩)
                have dx9 : (Int32.toNatClampNeg (V 70 gf)) = o.toNat := by have h9 := i_clamp (x := (V 70 gf)) rfl (by (first | exact om_2996291ce4c2 fo q70 pq324 | omega)); (first | exact om_6acf0db861ed fo q70 pq324 h9 | omega)
                have do9 : ((o.toNat : Nat) : Int) < (mNote gm o 18) 0 2 := by rw [mNt_0 (by decide)]; (first | exact om_5b0e08f69870 r8 fo ra2 q70 pq324 pq333 | omega)
                have db9 := (rn344).2.1 _ do9
                have ds9 : 24 * Int32.toNatClampNeg (V248 27 (Int32.toNatClampNeg (V 70 gf))) + Int32.toNatClampNeg (V248 26 (Int32.toNatClampNeg (V 70 gf))) = 24 * ((mNote gm o 18) 2 o.toNat).toNat + ((mNote gm o 18) 1 o.toNat).toNat := by rw [dx9]; have h1 := db9.1.1; have h2 := db9.1.2.1; have h3 := i_clamp (x := V248 27 o.toNat) rfl (by (first | exact om_57a3b3030c68 db9 | omega)); have h4 := i_clamp (x := V248 26 o.toNat) rfl (by (first | exact om_624b0f847349 db9 | omega)); (first | exact om_5319a23bfaa2 db9 h3 h4 | omega)
                have rn345 : RWn V263 ow gB (mU (mNote gm o 18) 3 o.toNat 2) := RWn.drop rn344 do9 (fun x9 hx9 => up2_k hV263 (by rw [dx9]; exact hx9)) (by rw [← dx9, up2_s hV263]; decide) (fun k9 _ => up2_o hV263 (by decide)) (by rw [← ds9, up2_o hV263 (by decide), if_neg (by rw [← dx9]; have h9 := i_clamp (x := (V 70 gf)) rfl (by (first | exact om_2996291ce4c2 fo q70 pq324 | omega)); omega)]) (fun c9 k9 h1 h2 h3 => (show V263 c9 k9 = V248 c9 k9 from by rw [hV263]; exact up2_pl (by omega)))
                have rn346 : RWn V316 ow gB (mU (mNote gm o 18) 3 o.toNat 2) := RWn.es rn345 (ESw.ag (show agr [(5, 6)] [] V263 V316 from (agr.up agr.rf hV316 rfl)) (by decide))
                have me347 : ME V V316 gf := (ME.up (ME.up (ME.up (ME.up (ME.up ME.rf hV254 (Or.inr (by (first | exact om_cafd1137c917  | omega)))) hV255 (Or.inr (by (first | exact om_c9c9e20ea0d3  | omega)))) hV248 (Or.inr (by (first | exact om_5d9c67e1ed13  | omega)))) hV263 (Or.inr (by (first | exact om_15c89eee5dc0  | omega)))) hV316 (Or.inr (by (first | exact om_f481bd0f1cda  | omega))))
                have rl348 : RWl V316 gB gr t0 := RWl.mv hlr (fun i9 hi9 c9 h1 h2 => me347.2.1 c9 i9 h1 h2 (by (first | exact om_102b9d22baee gd kdp rd rd2 pq310 t314 hz320 hi9 | omega))) (fun j9 hj9 => ((up2_o hV316 (by decide)).trans ((up2_o hV263 (by decide)).trans ((up2_o hV248 (by decide)).trans ((up2_o hV255 (by decide)).trans (up2_o hV254 (by decide))))))) (by rw [((up2_o hV316 (by decide)).trans ((up2_o hV263 (by decide)).trans ((up2_o hV248 (by decide)).trans ((up2_o hV255 (by decide)).trans (up2_o hV254 (by decide))))))]; exact Int.le_refl _) ((up2_o hV316 (by decide)).trans ((up2_o hV263 (by decide)).trans ((up2_o hV248 (by decide)).trans ((up2_o hV255 (by decide)).trans (up2_o hV254 (by decide))))))
                have rz9 : RW V316 gB ((mU (mNote gm o 18) 3 o.toNat 2), ga, gr) := RW.fin rwq rn346 (by rw [mU_o _ _ (by omega), mNt_0 (by decide)]) (fun i9 => (by rw [mU_o _ _ (by omega), mNt_x (by decide) (by decide) (by decide)])) ((up2_k hV316 (by decide)).trans ((up2_o hV263 (by decide)).trans ((up2_o hV248 (by decide)).trans ((up2_o hV255 (by decide)).trans (up2_o hV254 (by decide)))))) (fun i9 => ((up2_o hV316 (by decide)).trans ((up2_o hV263 (by decide)).trans ((up2_o hV248 (by decide)).trans ((up2_o hV255 (by decide)).trans (up2_o hV254 (by decide))))))) (by rw [(show (mU (mNote gm o 18) 3 o.toNat 2) 0 6 = gm 0 6 from by rw [mU_o _ _ (by omega), mNt_0 (by decide)])]; (first | exact om_ba837528b673 rh1 f242 pq332 | omega)) (fun h9 => by rw [(show (mU (mNote gm o 18) 3 o.toNat 2) 0 6 = gm 0 6 from by rw [mU_o _ _ (by omega), mNt_0 (by decide)])] at h9; exfalso; (first | exact om_d841449c9c41 rh1 f242 h9 | omega)) (fun h9 => by rw [mU_o _ _ (by omega), mU_o _ _ (by omega), mNt_0 (by decide), mNt_0 (by decide)]; rw [(show (mU (mNote gm o 18) 3 o.toNat 2) 0 6 = gm 0 6 from by rw [mU_o _ _ (by omega), mNt_0 (by decide)])] at h9; exfalso; (first | exact om_72d17bfe283f rh1 f242 h9 | omega)) (by (first | exact om_0893762427d8 kdp rd rd2 pq310 t314 | omega)) (by rw [((up2_k hV316 (by decide)).trans ((up2_o hV263 (by decide)).trans ((up2_o hV248 (by decide)).trans ((up2_o hV255 (by decide)).trans (up2_o hV254 (by decide)))))), rt9, tz9]) rl348
                have rx349 : RW V316 gB (stM gB (gm, ga, gfr :: gr)) := by rw [hfe, (st_17e (show bE gB c.toNat 31 = 0 from by rcases cs9 with h9 | h9; (rw [kc9] at h9; exact h9.2); (exfalso; (first | exact om_230a843bd84f f22 h9 | omega)))).trans (cl_s (by rw [← rh1]; omega))]; exact rz9
                refine W.know (fun kr1 kr2 => ?_)
                refine W.widen (k := zcc Z) (n := zss Z) (Nat.sub_le _ _) (Nat.sub_le _ _) ?_
                exact W.vret hx hb hr (fun t ht hW => ⟨⟨(V316, L, Z), rfl, ⟨hMV316, agV316, rfl, zoZ, rp337, rx349⟩, ⟨by rw [ht]; exact hP, va_K.moved hW.alike hK, hD⟩, by rw [ht]; exact kr1, by rw [ht]; exact kr2⟩, hS.F ht⟩) hS.2.2 dX5_goOnClosing_113
            · skip
              have ajV248 : agr [] [] V V248 := by rw [hw253]; exact agr.rf
              refine lv_aload_n hx hb dX5_goOnClosing_98 rfl (lv_at hl 2 rfl) ?_
              refine va_get (D := D) (ci := 5) (v := .ref (ad 3)) (fs := (xfMachine ad V248 L Z)) (C := RX5) (T := TX5) (N := 15) hx hb hg inX5 hown hK hP 5 xgMachine rfl 0 (by decide) (hg _ w667) (fun _ h9 => h9) rfl dX5_goOnClosing_99 ?_
              refine lv_aload_n hx hb dX5_goOnClosing_102 rfl (lv_at hl 3 rfl) ?_
              refine va_getN (D := D) (ci := 4) (v := .int (V248 70 gf)) (fs := (xfFrame V248 gf)) (C := RX4) (T := TX4) (N := 19) hx hb hg inX4 hown hK hP (336 + gf) (xgFrame hgf) rfl 3 (by decide) (hnw.use 1192 n1192 rfl) (fun _ h9 => h9) rfl dX5_goOnClosing_103 ?_
              refine g_top (v := (V 70 gf)) (ajV248 70 gf rfl) ?_
              refine gA_void (gA_runV (As := [.int (V 70 gf)]) (rest := []) (ci := 8) (q0 := 3) hx hb hml hown hg hP hD hK hS hA hnw hgk (x_dropObject9 l D ks H.size ad kk V248 L Z (V 70 gf) hMV248 (by (first | exact om_d0c9b7046452 r8 fo ra2 q70 | omega))) w1336 w1337 w1338 w164 w1339 rfl xgStock hdV_yX8_dropObject ⟨Nat.le_of_ble_eq_true rfl, Nat.le_of_ble_eq_true rfl⟩ rfl hl.1 rfl (Nat.le_of_ble_eq_true rfl) dX5_goOnClosing_106 ⟨z0, z0⟩) hP hD hK hS hA (fun u351 H locs w352 hP hD hK hS => ?_)
              obtain ⟨V355, L356⟩ := u351
              obtain ⟨hMV355, ajV355, axL356, t353, t354⟩ := w352
              have axL356 : L = L356 := Eq.symm axL356
              subst axL356
              have hP : va_P D vwCl (xw ad kk V355 L Z) H := hP
              have hD : va_D A (xw ad kk V355 L Z) := hD
              have hMV355 : rgd bX V355 := hMV355
              have ajV355 : agr [] [25, 28] V248 V355 := ajV355
              have agV355 : agr [(4, 6), (5, 6), (5, 9), (5, 10)] [25, 28, 36, 37, 67, 68, 69, 70, 71, 72, 73, 74, 75, 76, 77, 78, 79, 80, 81, 82, 83, 84, 85] V V355 := agV248.tr ajV355 (by decide) (by decide)
              have t353 : ∀ n, ME V248 V355 n := t353
              have t354 : (((V248 25 (24 * Int32.toNatClampNeg (V248 27 (Int32.toNatClampNeg (V 70 gf))) + Int32.toNatClampNeg (V248 26 (Int32.toNatClampNeg (V 70 gf))))).toInt = ((V 70 gf)).toInt) ∧ V355 = (up2 (up2 V248 28 (Int32.toNatClampNeg (V 70 gf)) 2) 25 (24 * Int32.toNatClampNeg (V248 27 (Int32.toNatClampNeg (V 70 gf))) + Int32.toNatClampNeg (V248 26 (Int32.toNatClampNeg (V 70 gf)))) (-1))) ∨ (((V248 25 (24 * Int32.toNatClampNeg (V248 27 (Int32.toNatClampNeg (V 70 gf))) + Int32.toNatClampNeg (V248 26 (Int32.toNatClampNeg (V 70 gf))))).toInt ≠ ((V 70 gf)).toInt) ∧ V355 = (up2 V248 28 (Int32.toNatClampNeg (V 70 gf)) 2)) := t354
              rcases t354 with ⟨hc357, hw358⟩ | ⟨hc359, hw360⟩
              · skip
                obtain ⟨V361, hV361⟩ : ∃ z, z = up2 V248 28 (Int32.toNatClampNeg (V 70 gf)) 2 := ⟨_, rfl⟩
                have hV355 : V355 = up2 V361 25 (24 * Int32.toNatClampNeg (V248 27 (Int32.toNatClampNeg (V 70 gf))) + Int32.toNatClampNeg (V248 26 (Int32.toNatClampNeg (V 70 gf)))) (-1) := by rw [hw358, hV361]
                refine lv_aload_n hx hb dX5_goOnClosing_109 rfl (lv_at hl 2 rfl) ?_
                have pq362 : (V355 5 6).toInt = ((V 5 6)).toInt := congrArg Int32.toInt ((up2_o hV355 (by decide)).trans ((up2_o hV361 (by decide)).trans (ajV248 5 6 rfl)))
                refine gA_void (gA_runV (As := []) (rest := []) (ci := 5) (q0 := 5) hx hb hml hown hg hP hD hK hS hA hnw hgk (x_leave9 l D ks H.size ad kk V355 L Z  hMV355 (show 1 ≤ (V355 5 6).toInt from by (first | exact om_c36fd4a9fcac gd gl9 pq362 | omega))) w1308 w1310 w50 w171 w1311 rfl xgMachine hdV_yX5_leave ⟨Nat.le_of_ble_eq_true rfl, Nat.le_of_ble_eq_true rfl⟩ rfl hl.1 rfl (Nat.le_of_ble_eq_true rfl) dX5_goOnClosing_110 ⟨z0, z0⟩) hP hD hK hS hA (fun u364 H locs w365 hP hD hK hS => ?_)
                obtain ⟨V368, L369⟩ := u364
                obtain ⟨hMV368, ajV368, axL369, t366, t367⟩ := w365
                have axL369 : L = L369 := Eq.symm axL369
                subst axL369
                have hP : va_P D vwCl (xw ad kk V368 L Z) H := hP
                have hD : va_D A (xw ad kk V368 L Z) := hD
                have hMV368 : rgd bX V368 := hMV368
                have ajV368 : agr [(5, 6)] [] V355 V368 := ajV368
                have agV368 : agr [(4, 6), (5, 6), (5, 9), (5, 10)] [25, 28, 36, 37, 67, 68, 69, 70, 71, 72, 73, 74, 75, 76, 77, 78, 79, 80, 81, 82, 83, 84, 85] V V368 := agV355.tr ajV368 (by decide) (by decide)
                have t366 : (V368 5 6).toInt = (V355 5 6).toInt - 1 := t366
                have t367 : ((True) ∧ V368 = (up2 V355 5 6 (V355 5 6 - 1))) := t367
                have r370 : 0 ≤ ((V368 5 6)).toInt ∧ ((V368 5 6)).toInt ≤ 400 := hMV368 5 6
                have hw371 := t367.2
                obtain ⟨z372, ez372⟩ : ∃ y : Int32, y = V355 5 6 - 1 := ⟨_, rfl⟩
                have hz372 : z372.toInt = (V355 5 6).toInt - 1 := i_sub ez372 rfl (by decide) (by (first | exact om_70510bf9f0cb gd gl9 sl9 pq362 | omega))
                have hV368 : V368 = up2 V355 5 6 z372 := by rw [hw371, ez372]
                have me373 : ME V V368 gf := (ME.up (ME.up (ME.up (ME.tr ME.rf (ME.ag ajV248 (by decide))) hV361 (Or.inr (by (first | exact om_15c89eee5dc0  | omega)))) hV355 (Or.inr (by omega))) hV368 (Or.inr (by (first | exact om_f481bd0f1cda  | omega))))
                have pq374 : (V368 67 gf).toInt = ((V 67 gf)).toInt := congrArg Int32.toInt ((up2_o hV368 (by decide)).trans ((up2_o hV355 (by decide)).trans ((up2_o hV361 (by decide)).trans (ajV248 67 gf rfl))))
                have pq375 : (V368 68 gf).toInt = ((V 68 gf)).toInt := congrArg Int32.toInt ((up2_o hV368 (by decide)).trans ((up2_o hV355 (by decide)).trans ((up2_o hV361 (by decide)).trans (ajV248 68 gf rfl))))
                have pq376 : (V368 70 gf).toInt = ((V 70 gf)).toInt := congrArg Int32.toInt ((up2_o hV368 (by decide)).trans ((up2_o hV355 (by decide)).trans ((up2_o hV361 (by decide)).trans (ajV248 70 gf rfl))))
                have pq377 : (V368 71 gf).toInt = ((V 71 gf)).toInt := congrArg Int32.toInt ((up2_o hV368 (by decide)).trans ((up2_o hV355 (by decide)).trans ((up2_o hV361 (by decide)).trans (ajV248 71 gf rfl))))
                have pq378 : (V368 75 gf).toInt = ((V 75 gf)).toInt := congrArg Int32.toInt ((up2_o hV368 (by decide)).trans ((up2_o hV355 (by decide)).trans ((up2_o hV361 (by decide)).trans (ajV248 75 gf rfl))))
                have pq379 : (V368 76 gf).toInt = ((V 76 gf)).toInt := congrArg Int32.toInt ((up2_o hV368 (by decide)).trans ((up2_o hV355 (by decide)).trans ((up2_o hV361 (by decide)).trans (ajV248 76 gf rfl))))
                have pq380 : (V368 80 gf).toInt = ((V 80 gf)).toInt := congrArg Int32.toInt ((up2_o hV368 (by decide)).trans ((up2_o hV355 (by decide)).trans ((up2_o hV361 (by decide)).trans (ajV248 80 gf rfl))))
                have pq381 : (V368 84 gf).toInt = ((V 84 gf)).toInt := congrArg Int32.toInt ((up2_o hV368 (by decide)).trans ((up2_o hV355 (by decide)).trans ((up2_o hV361 (by decide)).trans (ajV248 84 gf rfl))))
                have pq382 : (V368 5 6).toInt = z372.toInt := congrArg Int32.toInt (up2_s hV368)
                have pq383 : (V368 5 8).toInt = ((V 5 8)).toInt := congrArg Int32.toInt ((up2_k hV368 (by decide)).trans ((up2_o hV355 (by decide)).trans ((up2_o hV361 (by decide)).trans (ajV248 5 8 rfl))))
                have pq384 : (V368 5 9).toInt = ((V 5 9)).toInt := congrArg Int32.toInt ((up2_k hV368 (by decide)).trans ((up2_o hV355 (by decide)).trans ((up2_o hV361 (by decide)).trans (ajV248 5 9 rfl))))
                have pq385 : (V368 3 13).toInt = ((V 3 13)).toInt := congrArg Int32.toInt ((up2_o hV368 (by decide)).trans ((up2_o hV355 (by decide)).trans ((up2_o hV361 (by decide)).trans (ajV248 3 13 rfl))))
                have pq386 : (V368 43 (5 * b + 2)).toInt = ((V 43 (5 * b + 2))).toInt := congrArg Int32.toInt ((up2_o hV368 (by decide)).trans ((up2_o hV355 (by decide)).trans ((up2_o hV361 (by decide)).trans (ajV248 43 (5 * b + 2) rfl))))
                have pq387 : (V368 42 b).toInt = ((V 42 b)).toInt := congrArg Int32.toInt ((up2_o hV368 (by decide)).trans ((up2_o hV355 (by decide)).trans ((up2_o hV361 (by decide)).trans (ajV248 42 b rfl))))
                have pq388 : (V368 41 b).toInt = ((V 41 b)).toInt := congrArg Int32.toInt ((up2_o hV368 (by decide)).trans ((up2_o hV355 (by decide)).trans ((up2_o hV361 (by decide)).trans (ajV248 41 b rfl))))
                have rp389 : MJ V368 Z b := MP.lv (MO.mp mo) me373 (by (first | exact om_541a228d28bf gd pq362 t366 hz372 pq382 | omega)) (fun _ => Or.inl (by omega))
                have pq390 : (V368 5 11).toInt = ((V 5 11)).toInt := congrArg Int32.toInt ((up2_k hV368 (by decide)).trans ((up2_o hV355 (by decide)).trans ((up2_o hV361 (by decide)).trans (ajV248 5 11 rfl))))
                have pq391 : (V368 5 12).toInt = ((V 5 12)).toInt := congrArg Int32.toInt ((up2_k hV368 (by decide)).trans ((up2_o hV355 (by decide)).trans ((up2_o hV361 (by decide)).trans (ajV248 5 12 rfl))))
                have pq392 : (V368 5 13).toInt = ((V 5 13)).toInt := congrArg Int32.toInt ((up2_k hV368 (by decide)).trans ((up2_o hV355 (by decide)).trans ((up2_o hV361 (by decide)).trans (ajV248 5 13 rfl))))
                have r393 : 0 ≤ ((V 5 13)).toInt ∧ ((V 5 13)).toInt ≤ 3000 := hMV 5 13
                have pq394 : (V368 5 7).toInt = ((V 5 7)).toInt := congrArg Int32.toInt ((up2_k hV368 (by decide)).trans ((up2_o hV355 (by decide)).trans ((up2_o hV361 (by decide)).trans (ajV248 5 7 rfl))))
                have r395 : 0 ≤ ((V 5 7)).toInt ∧ ((V 5 7)).toInt ≤ 2048 := hMV 5 7
                have rn396 : RWn V248 ow gB (mNote gm o 18) := RWn.note rn (fun c9 k9 h1 h2 h3 h4 => (ajV248 c9 k9 rfl)) (Or.inr ⟨hc252, (ajV248 4 6 rfl), fun i9 => ⟨(ajV248 36 i9 rfl), (ajV248 37 i9 rfl)⟩⟩)
                have dx9 : (Int32.toNatClampNeg (V 70 gf)) = o.toNat := by have h9 := i_clamp (x := (V 70 gf)) rfl (by (first | exact om_c42429f26483 fo q70 hc357 pq376 | omega)); (first | exact om_cdba46fd13a1 fo q70 hc357 pq376 h9 | omega)
                have do9 : ((o.toNat : Nat) : Int) < (mNote gm o 18) 0 2 := by rw [mNt_0 (by decide)]; (first | exact om_b313c004abde r8 fo ra2 q70 hc357 pq376 pq385 | omega)
                have db9 := (rn396).2.1 _ do9
                have ds9 : 24 * Int32.toNatClampNeg (V248 27 (Int32.toNatClampNeg (V 70 gf))) + Int32.toNatClampNeg (V248 26 (Int32.toNatClampNeg (V 70 gf))) = 24 * ((mNote gm o 18) 2 o.toNat).toNat + ((mNote gm o 18) 1 o.toNat).toNat := by rw [dx9]; have h1 := db9.1.1; have h2 := db9.1.2.1; have h3 := i_clamp (x := V248 27 o.toNat) rfl (by (first | exact om_57a3b3030c68 db9 | omega)); have h4 := i_clamp (x := V248 26 o.toNat) rfl (by (first | exact om_624b0f847349 db9 | omega)); (first | exact om_5319a23bfaa2 db9 h3 h4 | omega)
                have rn397 : RWn V355 ow gB (mU (mNote gm o 18) 3 o.toNat 2) := RWn.drop rn396 do9 (fun x9 hx9 => (up2_o hV355 (by decide)).trans (up2_k hV361 (by rw [dx9]; exact hx9))) (by rw [← dx9, (up2_o hV355 (by decide)).trans (up2_s hV361)]; decide) (fun k9 hk9 => (up2_k hV355 (by rw [ds9]; exact hk9)).trans (up2_o hV361 (by decide))) (by rw [← ds9, up2_s hV355, if_pos (by rw [← dx9]; have h9 := i_clamp (x := (V 70 gf)) rfl (by (first | exact om_c42429f26483 fo q70 hc357 pq376 | omega)); (first | exact om_31a30e49af65 q70 hc357 pq376 dx9 h9 | omega))]; decide) (fun c9 k9 h1 h2 h3 => ((show V355 c9 k9 = V361 c9 k9 from by rw [hV355]; exact up2_pl (by omega)).trans (show V361 c9 k9 = V248 c9 k9 from by rw [hV361]; exact up2_pl (by omega))))
                have rn398 : RWn V368 ow gB (mU (mNote gm o 18) 3 o.toNat 2) := RWn.es rn397 (ESw.ag (show agr [(5, 6)] [] V355 V368 from (agr.up agr.rf hV368 rfl)) (by decide))
                have me399 : ME V V368 gf := (ME.up (ME.up (ME.up (ME.tr ME.rf (ME.ag ajV248 (by decide))) hV361 (Or.inr (by (first | exact om_15c89eee5dc0  | omega)))) hV355 (Or.inr (by omega))) hV368 (Or.inr (by (first | exact om_f481bd0f1cda  | omega))))
                have rl400 : RWl V368 gB gr t0 := RWl.mv hlr (fun i9 hi9 c9 h1 h2 => me399.2.1 c9 i9 h1 h2 (by (first | exact om_102b9d22baee gd kdp rd rd2 pq362 t366 hz372 hi9 | omega))) (fun j9 hj9 => ((up2_o hV368 (by decide)).trans ((up2_o hV355 (by decide)).trans ((up2_o hV361 (by decide)).trans (ajV248 39 j9 rfl))))) (by rw [((up2_o hV368 (by decide)).trans ((up2_o hV355 (by decide)).trans ((up2_o hV361 (by decide)).trans (ajV248 3 13 rfl))))]; exact Int.le_refl _) ((up2_o hV368 (by decide)).trans ((up2_o hV355 (by decide)).trans ((up2_o hV361 (by decide)).trans (ajV248 3 12 rfl))))
                have rz9 : RW V368 gB ((mU (mNote gm o 18) 3 o.toNat 2), ga, gr) := RW.fin rwq rn398 (by rw [mU_o _ _ (by omega), mNt_0 (by decide)]) (fun i9 => (by rw [mU_o _ _ (by omega), mNt_x (by decide) (by decide) (by decide)])) ((up2_k hV368 (by decide)).trans ((up2_o hV355 (by decide)).trans ((up2_o hV361 (by decide)).trans (ajV248 5 8 rfl)))) (fun i9 => ((up2_o hV368 (by decide)).trans ((up2_o hV355 (by decide)).trans ((up2_o hV361 (by decide)).trans (ajV248 40 i9 rfl))))) (by rw [(show (mU (mNote gm o 18) 3 o.toNat 2) 0 6 = gm 0 6 from by rw [mU_o _ _ (by omega), mNt_0 (by decide)])]; (first | exact om_ba837528b673 rh1 f242 pq384 | omega)) (fun h9 => by rw [(show (mU (mNote gm o 18) 3 o.toNat 2) 0 6 = gm 0 6 from by rw [mU_o _ _ (by omega), mNt_0 (by decide)])] at h9; exfalso; (first | exact om_d841449c9c41 rh1 f242 h9 | omega)) (fun h9 => by rw [mU_o _ _ (by omega), mU_o _ _ (by omega), mNt_0 (by decide), mNt_0 (by decide)]; rw [(show (mU (mNote gm o 18) 3 o.toNat 2) 0 6 = gm 0 6 from by rw [mU_o _ _ (by omega), mNt_0 (by decide)])] at h9; exfalso; (first | exact om_72d17bfe283f rh1 f242 h9 | omega)) (by (first | exact om_0893762427d8 kdp rd rd2 pq362 t366 | omega)) (by rw [((up2_k hV368 (by decide)).trans ((up2_o hV355 (by decide)).trans ((up2_o hV361 (by decide)).trans (ajV248 5 7 rfl)))), rt9, tz9]) rl400
                have rx401 : RW V368 gB (stM gB (gm, ga, gfr :: gr)) := by rw [hfe, (st_17e (show bE gB c.toNat 31 = 0 from by rcases cs9 with h9 | h9; (rw [kc9] at h9; exact h9.2); (exfalso; (first | exact om_230a843bd84f f22 h9 | omega)))).trans (cl_s (by rw [← rh1]; omega))]; exact rz9
                refine W.know (fun kr1 kr2 => ?_)
                refine W.widen (k := zcc Z) (n := zss Z) (Nat.sub_le _ _) (Nat.sub_le _ _) ?_
                exact W.vret hx hb hr (fun t ht hW => ⟨⟨(V368, L, Z), rfl, ⟨hMV368, agV368, rfl, zoZ, rp389, rx401⟩, ⟨by rw [ht]; exact hP, va_K.moved hW.alike hK, hD⟩, by rw [ht]; exact kr1, by rw [ht]; exact kr2⟩, hS.F ht⟩) hS.2.2 dX5_goOnClosing_113
              · skip
                have hV355 : V355 = up2 V248 28 (Int32.toNatClampNeg (V 70 gf)) 2 := by rw [hw360]
                refine lv_aload_n hx hb dX5_goOnClosing_109 rfl (lv_at hl 2 rfl) ?_
                have pq402 : (V355 5 6).toInt = ((V 5 6)).toInt := congrArg Int32.toInt ((up2_o hV355 (by decide)).trans (ajV248 5 6 rfl))
                refine gA_void (gA_runV (As := []) (rest := []) (ci := 5) (q0 := 5) hx hb hml hown hg hP hD hK hS hA hnw hgk (x_leave9 l D ks H.size ad kk V355 L Z  hMV355 (show 1 ≤ (V355 5 6).toInt from by (first | exact om_c36fd4a9fcac gd gl9 pq402 | omega))) w1308 w1310 w50 w171 w1311 rfl xgMachine hdV_yX5_leave ⟨Nat.le_of_ble_eq_true rfl, Nat.le_of_ble_eq_true rfl⟩ rfl hl.1 rfl (Nat.le_of_ble_eq_true rfl) dX5_goOnClosing_110 ⟨z0, z0⟩) hP hD hK hS hA (fun u404 H locs w405 hP hD hK hS => ?_)
                obtain ⟨V408, L409⟩ := u404
                obtain ⟨hMV408, ajV408, axL409, t406, t407⟩ := w405
                have axL409 : L = L409 := Eq.symm axL409
                subst axL409
                have hP : va_P D vwCl (xw ad kk V408 L Z) H := hP
                have hD : va_D A (xw ad kk V408 L Z) := hD
                have hMV408 : rgd bX V408 := hMV408
                have ajV408 : agr [(5, 6)] [] V355 V408 := ajV408
                have agV408 : agr [(4, 6), (5, 6), (5, 9), (5, 10)] [25, 28, 36, 37, 67, 68, 69, 70, 71, 72, 73, 74, 75, 76, 77, 78, 79, 80, 81, 82, 83, 84, 85] V V408 := agV355.tr ajV408 (by decide) (by decide)
                have t406 : (V408 5 6).toInt = (V355 5 6).toInt - 1 := t406
                have t407 : ((True) ∧ V408 = (up2 V355 5 6 (V355 5 6 - 1))) := t407
                have r410 : 0 ≤ ((V408 5 6)).toInt ∧ ((V408 5 6)).toInt ≤ 400 := hMV408 5 6
                have hw411 := t407.2
                obtain ⟨z412, ez412⟩ : ∃ y : Int32, y = V355 5 6 - 1 := ⟨_, rfl⟩
                have hz412 : z412.toInt = (V355 5 6).toInt - 1 := i_sub ez412 rfl (by decide) (by (first | exact om_70510bf9f0cb gd gl9 sl9 pq402 | omega))
                have hV408 : V408 = up2 V355 5 6 z412 := by rw [hw411, ez412]
                have me413 : ME V V408 gf := (ME.up (ME.up (ME.tr ME.rf (ME.ag ajV248 (by decide))) hV355 (Or.inr (by (first | exact om_15c89eee5dc0  | omega)))) hV408 (Or.inr (by (first | exact om_f481bd0f1cda  | omega))))
                have pq414 : (V408 67 gf).toInt = ((V 67 gf)).toInt := congrArg Int32.toInt ((up2_o hV408 (by decide)).trans ((up2_o hV355 (by decide)).trans (ajV248 67 gf rfl)))
                have pq415 : (V408 68 gf).toInt = ((V 68 gf)).toInt := congrArg Int32.toInt ((up2_o hV408 (by decide)).trans ((up2_o hV355 (by decide)).trans (ajV248 68 gf rfl)))
                have pq416 : (V408 70 gf).toInt = ((V 70 gf)).toInt := congrArg Int32.toInt ((up2_o hV408 (by decide)).trans ((up2_o hV355 (by decide)).trans (ajV248 70 gf rfl)))
                have pq417 : (V408 71 gf).toInt = ((V 71 gf)).toInt := congrArg Int32.toInt ((up2_o hV408 (by decide)).trans ((up2_o hV355 (by decide)).trans (ajV248 71 gf rfl)))
                have pq418 : (V408 75 gf).toInt = ((V 75 gf)).toInt := congrArg Int32.toInt ((up2_o hV408 (by decide)).trans ((up2_o hV355 (by decide)).trans (ajV248 75 gf rfl)))
                have pq419 : (V408 76 gf).toInt = ((V 76 gf)).toInt := congrArg Int32.toInt ((up2_o hV408 (by decide)).trans ((up2_o hV355 (by decide)).trans (ajV248 76 gf rfl)))
                have pq420 : (V408 80 gf).toInt = ((V 80 gf)).toInt := congrArg Int32.toInt ((up2_o hV408 (by decide)).trans ((up2_o hV355 (by decide)).trans (ajV248 80 gf rfl)))
                have pq421 : (V408 84 gf).toInt = ((V 84 gf)).toInt := congrArg Int32.toInt ((up2_o hV408 (by decide)).trans ((up2_o hV355 (by decide)).trans (ajV248 84 gf rfl)))
                have pq422 : (V408 5 6).toInt = z412.toInt := congrArg Int32.toInt (up2_s hV408)
                have pq423 : (V408 5 8).toInt = ((V 5 8)).toInt := congrArg Int32.toInt ((up2_k hV408 (by decide)).trans ((up2_o hV355 (by decide)).trans (ajV248 5 8 rfl)))
                have pq424 : (V408 5 9).toInt = ((V 5 9)).toInt := congrArg Int32.toInt ((up2_k hV408 (by decide)).trans ((up2_o hV355 (by decide)).trans (ajV248 5 9 rfl)))
                have pq425 : (V408 3 13).toInt = ((V 3 13)).toInt := congrArg Int32.toInt ((up2_o hV408 (by decide)).trans ((up2_o hV355 (by decide)).trans (ajV248 3 13 rfl)))
                have pq426 : (V408 43 (5 * b + 2)).toInt = ((V 43 (5 * b + 2))).toInt := congrArg Int32.toInt ((up2_o hV408 (by decide)).trans ((up2_o hV355 (by decide)).trans (ajV248 43 (5 * b + 2) rfl)))
                have pq427 : (V408 42 b).toInt = ((V 42 b)).toInt := congrArg Int32.toInt ((up2_o hV408 (by decide)).trans ((up2_o hV355 (by decide)).trans (ajV248 42 b rfl)))
                have pq428 : (V408 41 b).toInt = ((V 41 b)).toInt := congrArg Int32.toInt ((up2_o hV408 (by decide)).trans ((up2_o hV355 (by decide)).trans (ajV248 41 b rfl)))
                have rp429 : MJ V408 Z b := MP.lv (MO.mp mo) me413 (by (first | exact om_541a228d28bf gd pq402 t406 hz412 pq422 | omega)) (fun _ => Or.inl (by omega))
                have pq430 : (V408 5 11).toInt = ((V 5 11)).toInt := congrArg Int32.toInt ((up2_k hV408 (by decide)).trans ((up2_o hV355 (by decide)).trans (ajV248 5 11 rfl)))
                have pq431 : (V408 5 12).toInt = ((V 5 12)).toInt := congrArg Int32.toInt ((up2_k hV408 (by decide)).trans ((up2_o hV355 (by decide)).trans (ajV248 5 12 rfl)))
                have pq432 : (V408 5 13).toInt = ((V 5 13)).toInt := congrArg Int32.toInt ((up2_k hV408 (by decide)).trans ((up2_o hV355 (by decide)).trans (ajV248 5 13 rfl)))
                have r433 : 0 ≤ ((V 5 13)).toInt ∧ ((V 5 13)).toInt ≤ 3000 := hMV 5 13
                have pq434 : (V408 5 7).toInt = ((V 5 7)).toInt := congrArg Int32.toInt ((up2_k hV408 (by decide)).trans ((up2_o hV355 (by decide)).trans (ajV248 5 7 rfl)))
                have r435 : 0 ≤ ((V 5 7)).toInt ∧ ((V 5 7)).toInt ≤ 2048 := hMV 5 7
                have rn436 : RWn V248 ow gB (mNote gm o 18) := RWn.note rn (fun c9 k9 h1 h2 h3 h4 => (ajV248 c9 k9 rfl)) (Or.inr ⟨hc252, (ajV248 4 6 rfl), fun i9 => ⟨(ajV248 36 i9 rfl), (ajV248 37 i9 rfl)⟩⟩)
                have dx9 : (Int32.toNatClampNeg (V 70 gf)) = o.toNat := by have h9 := i_clamp (x := (V 70 gf)) rfl (by (first | exact om_2996291ce4c2 fo q70 pq416 | omega)); (first | exact om_6acf0db861ed fo q70 pq416 h9 | omega)
                have do9 : ((o.toNat : Nat) : Int) < (mNote gm o 18) 0 2 := by rw [mNt_0 (by decide)]; (first | exact om_5b0e08f69870 r8 fo ra2 q70 pq416 pq425 | omega)
                have db9 := (rn436).2.1 _ do9
                have ds9 : 24 * Int32.toNatClampNeg (V248 27 (Int32.toNatClampNeg (V 70 gf))) + Int32.toNatClampNeg (V248 26 (Int32.toNatClampNeg (V 70 gf))) = 24 * ((mNote gm o 18) 2 o.toNat).toNat + ((mNote gm o 18) 1 o.toNat).toNat := by rw [dx9]; have h1 := db9.1.1; have h2 := db9.1.2.1; have h3 := i_clamp (x := V248 27 o.toNat) rfl (by (first | exact om_57a3b3030c68 db9 | omega)); have h4 := i_clamp (x := V248 26 o.toNat) rfl (by (first | exact om_624b0f847349 db9 | omega)); (first | exact om_5319a23bfaa2 db9 h3 h4 | omega)
                have rn437 : RWn V355 ow gB (mU (mNote gm o 18) 3 o.toNat 2) := RWn.drop rn436 do9 (fun x9 hx9 => up2_k hV355 (by rw [dx9]; exact hx9)) (by rw [← dx9, up2_s hV355]; decide) (fun k9 _ => up2_o hV355 (by decide)) (by rw [← ds9, up2_o hV355 (by decide), if_neg (by rw [← dx9]; have h9 := i_clamp (x := (V 70 gf)) rfl (by (first | exact om_2996291ce4c2 fo q70 pq416 | omega)); omega)]) (fun c9 k9 h1 h2 h3 => (show V355 c9 k9 = V248 c9 k9 from by rw [hV355]; exact up2_pl (by omega)))
                have rn438 : RWn V408 ow gB (mU (mNote gm o 18) 3 o.toNat 2) := RWn.es rn437 (ESw.ag (show agr [(5, 6)] [] V355 V408 from (agr.up agr.rf hV408 rfl)) (by decide))
                have me439 : ME V V408 gf := (ME.up (ME.up (ME.tr ME.rf (ME.ag ajV248 (by decide))) hV355 (Or.inr (by (first | exact om_15c89eee5dc0  | omega)))) hV408 (Or.inr (by (first | exact om_f481bd0f1cda  | omega))))
                have rl440 : RWl V408 gB gr t0 := RWl.mv hlr (fun i9 hi9 c9 h1 h2 => me439.2.1 c9 i9 h1 h2 (by (first | exact om_102b9d22baee gd kdp rd rd2 pq402 t406 hz412 hi9 | omega))) (fun j9 hj9 => ((up2_o hV408 (by decide)).trans ((up2_o hV355 (by decide)).trans (ajV248 39 j9 rfl)))) (by rw [((up2_o hV408 (by decide)).trans ((up2_o hV355 (by decide)).trans (ajV248 3 13 rfl)))]; exact Int.le_refl _) ((up2_o hV408 (by decide)).trans ((up2_o hV355 (by decide)).trans (ajV248 3 12 rfl)))
                have rz9 : RW V408 gB ((mU (mNote gm o 18) 3 o.toNat 2), ga, gr) := RW.fin rwq rn438 (by rw [mU_o _ _ (by omega), mNt_0 (by decide)]) (fun i9 => (by rw [mU_o _ _ (by omega), mNt_x (by decide) (by decide) (by decide)])) ((up2_k hV408 (by decide)).trans ((up2_o hV355 (by decide)).trans (ajV248 5 8 rfl))) (fun i9 => ((up2_o hV408 (by decide)).trans ((up2_o hV355 (by decide)).trans (ajV248 40 i9 rfl)))) (by rw [(show (mU (mNote gm o 18) 3 o.toNat 2) 0 6 = gm 0 6 from by rw [mU_o _ _ (by omega), mNt_0 (by decide)])]; (first | exact om_ba837528b673 rh1 f242 pq424 | omega)) (fun h9 => by rw [(show (mU (mNote gm o 18) 3 o.toNat 2) 0 6 = gm 0 6 from by rw [mU_o _ _ (by omega), mNt_0 (by decide)])] at h9; exfalso; (first | exact om_d841449c9c41 rh1 f242 h9 | omega)) (fun h9 => by rw [mU_o _ _ (by omega), mU_o _ _ (by omega), mNt_0 (by decide), mNt_0 (by decide)]; rw [(show (mU (mNote gm o 18) 3 o.toNat 2) 0 6 = gm 0 6 from by rw [mU_o _ _ (by omega), mNt_0 (by decide)])] at h9; exfalso; (first | exact om_72d17bfe283f rh1 f242 h9 | omega)) (by (first | exact om_0893762427d8 kdp rd rd2 pq402 t406 | omega)) (by rw [((up2_k hV408 (by decide)).trans ((up2_o hV355 (by decide)).trans (ajV248 5 7 rfl))), rt9, tz9]) rl440
                have rx441 : RW V408 gB (stM gB (gm, ga, gfr :: gr)) := by rw [hfe, (st_17e (show bE gB c.toNat 31 = 0 from by rcases cs9 with h9 | h9; (rw [kc9] at h9; exact h9.2); (exfalso; (first | exact om_230a843bd84f f22 h9 | omega)))).trans (cl_s (by rw [← rh1]; omega))]; exact rz9
                refine W.know (fun kr1 kr2 => ?_)
                refine W.widen (k := zcc Z) (n := zss Z) (Nat.sub_le _ _) (Nat.sub_le _ _) ?_
                exact W.vret hx hb hr (fun t ht hW => ⟨⟨(V408, L, Z), rfl, ⟨hMV408, agV408, rfl, zoZ, rp429, rx441⟩, ⟨by rw [ht]; exact hP, va_K.moved hW.alike hK, hD⟩, by rw [ht]; exact kr1, by rw [ht]; exact kr2⟩, hS.F ht⟩) hS.2.2 dX5_goOnClosing_113
        · skip
          have f442 : ((V 5 9)).toInt = 2 := b_eq rfl (by decide) c23
          refine lv_aload_n hx hb dX5_goOnClosing_52 rfl (lv_at hl 2 rfl) ?_
          refine va_get (D := D) (ci := 5) (v := .int (V 5 11)) (fs := (xfMachine ad V L Z)) (C := RX5) (T := TX5) (N := 15) hx hb hg inX5 hown hK hP 5 xgMachine rfl 11 (by decide) (hg _ w678) (fun _ h9 => h9) rfl dX5_goOnClosing_53 ?_
          refine lv_aload_n hx hb dX5_goOnClosing_56 rfl (lv_at hl 2 rfl) ?_
          refine va_get (D := D) (ci := 5) (v := .int (V 5 12)) (fs := (xfMachine ad V L Z)) (C := RX5) (T := TX5) (N := 15) hx hb hg inX5 hown hK hP 5 xgMachine rfl 12 (by decide) (hg _ w679) (fun _ h9 => h9) rfl dX5_goOnClosing_57 ?_
          refine gE_int (g_runS (As := [.int (V 5 11), .int (V 5 12)]) (rest := []) (wc := []) (tc := []) hx hb hml hown hg gw_self hP hD hK hS hA hnw hgk [] [] (by decide) rfl rfl (x_firstKind9 l D ks H.size (V 5 11) (V 5 12) ) w1400 w1401 w171 w1402 hdS_yX5_firstKind ⟨Nat.le_of_ble_eq_true rfl, Nat.le_of_ble_eq_true rfl⟩ rfl hl.1 rfl (Nat.le_of_ble_eq_true rfl) dX5_goOnClosing_60 ⟨z0, z0⟩) hP hD hK hS hA (fun z443 u444 H locs w445 hP hD hK hS => ?_)
          have t446 := w445
          have t446 : (0 < ((V 5 11)).toInt ∧ z443.toInt = 20) ∨ (((V 5 11)).toInt ≤ 0 ∧ z443.toInt = ((V 5 12)).toInt) := t446
          refine lv_istore_n (lv' := [(3, .int z443), (2, .int (V 57 (24 * b + (Int32.toNatClampNeg (V 71 gf))))), (0, .ref (ad 5)), (1, .ref (Z.fa gf))]) hx hb dX5_goOnClosing_63 rfl hl (by decide) rfl (fun ls hl => ?_)
          refine lv_goto (tgt := 86) hx hb dX5_goOnClosing_64 (by decide) ?_
          refine lv_aload_n hx hb dX5_goOnClosing_86 rfl (lv_at hl 2 rfl) ?_
          refine va_get (D := D) (ci := 5) (v := .ref (ad 4)) (fs := (xfMachine ad V L Z)) (C := RX5) (T := TX5) (N := 15) hx hb hg inX5 hown hK hP 5 xgMachine rfl 1 (by decide) (hg _ w668) (fun _ h9 => h9) rfl dX5_goOnClosing_87 ?_
          refine lv_aload_n hx hb dX5_goOnClosing_90 rfl (lv_at hl 3 rfl) ?_
          refine va_getN (D := D) (ci := 4) (v := .int (V 70 gf)) (fs := (xfFrame V gf)) (C := RX4) (T := TX4) (N := 19) hx hb hg inX4 hown hK hP (336 + gf) (xgFrame hgf) rfl 3 (by decide) (hnw.use 1192 n1192 rfl) (fun _ h9 => h9) rfl dX5_goOnClosing_91 ?_
          refine lv_iload_n hx hb dX5_goOnClosing_94 rfl (lv_at hl 0 rfl) ?_
          refine gA_void (gA_runV (As := [.int (V 70 gf), .int z443]) (rest := []) (ci := 7) (q0 := 4) hx hb hml hown hg hP hD hK hS hA hnw hgk (x_noteClosing9 l D ks H.size ad kk V L Z (V 70 gf) z443 hMV ) w1497 w1498 w1499 w166 w1500 rfl xgNotes hdV_yX7_noteClosing ⟨Nat.le_of_ble_eq_true rfl, Nat.le_of_ble_eq_true rfl⟩ rfl hl.1 rfl (Nat.le_of_ble_eq_true rfl) dX5_goOnClosing_95 ⟨z0, z0⟩) hP hD hK hS hA (fun u448 H locs w449 hP hD hK hS => ?_)
          obtain ⟨V451, L452⟩ := u448
          obtain ⟨hMV451, ajV451, axL452, t450⟩ := w449
          have axL452 : L = L452 := Eq.symm axL452
          subst axL452
          have hP : va_P D vwCl (xw ad kk V451 L Z) H := hP
          have hD : va_D A (xw ad kk V451 L Z) := hD
          have hMV451 : rgd bX V451 := hMV451
          have ajV451 : agr [(4, 6)] [36, 37] V V451 := ajV451
          have agV451 : agr [(4, 6), (5, 6), (5, 9), (5, 10)] [25, 28, 36, 37, 67, 68, 69, 70, 71, 72, 73, 74, 75, 76, 77, 78, 79, 80, 81, 82, 83, 84, 85] V V451 := agV.tr ajV451 (by decide) (by decide)
          have t450 : (((V 4 6).toInt < 300) ∧ V451 = (up2 (up2 (up2 V 36 (Int32.toNatClampNeg (V 4 6)) (V 70 gf)) 37 (Int32.toNatClampNeg (V 4 6)) z443) 4 6 (V 4 6 + 1))) ∨ ((300 ≤ (V 4 6).toInt) ∧ V451 = V) := t450
          rcases t450 with ⟨hc453, hw454⟩ | ⟨hc455, hw456⟩
          · skip
            obtain ⟨V457, hV457⟩ : ∃ z, z = up2 V 36 (Int32.toNatClampNeg (V 4 6)) (V 70 gf) := ⟨_, rfl⟩
            obtain ⟨V458, hV458⟩ : ∃ z, z = up2 V457 37 (Int32.toNatClampNeg (V 4 6)) z443 := ⟨_, rfl⟩
            have r460 : 0 ≤ ((V 4 6)).toInt ∧ ((V 4 6)).toInt ≤ 300 := hMV 4 6
            obtain ⟨z459, ez459⟩ : ∃ y : Int32, y = V 4 6 + 1 := ⟨_, rfl⟩
            have hz459 : z459.toInt = (V 4 6).toInt + 1 := i_add ez459 rfl (by decide) (by (first | exact om_5b8d680fa6e8 r460.1 r460.2 | omega))
            have hV451 : V451 = up2 V458 4 6 z459 := by rw [hw454, hV458, hV457, ez459]
            refine lv_aload_n hx hb dX5_goOnClosing_98 rfl (lv_at hl 2 rfl) ?_
            refine va_get (D := D) (ci := 5) (v := .ref (ad 3)) (fs := (xfMachine ad V451 L Z)) (C := RX5) (T := TX5) (N := 15) hx hb hg inX5 hown hK hP 5 xgMachine rfl 0 (by decide) (hg _ w667) (fun _ h9 => h9) rfl dX5_goOnClosing_99 ?_
            refine lv_aload_n hx hb dX5_goOnClosing_102 rfl (lv_at hl 3 rfl) ?_
            refine va_getN (D := D) (ci := 4) (v := .int (V451 70 gf)) (fs := (xfFrame V451 gf)) (C := RX4) (T := TX4) (N := 19) hx hb hg inX4 hown hK hP (336 + gf) (xgFrame hgf) rfl 3 (by decide) (hnw.use 1192 n1192 rfl) (fun _ h9 => h9) rfl dX5_goOnClosing_103 ?_
            refine g_top (v := (V 70 gf)) ((up2_o hV451 (by decide)).trans ((up2_o hV458 (by decide)).trans (up2_o hV457 (by decide)))) ?_
            refine gA_void (gA_runV (As := [.int (V 70 gf)]) (rest := []) (ci := 8) (q0 := 3) hx hb hml hown hg hP hD hK hS hA hnw hgk (x_dropObject9 l D ks H.size ad kk V451 L Z (V 70 gf) hMV451 (by (first | exact om_d0c9b7046452 r8 fo ra2 q70 | omega))) w1336 w1337 w1338 w164 w1339 rfl xgStock hdV_yX8_dropObject ⟨Nat.le_of_ble_eq_true rfl, Nat.le_of_ble_eq_true rfl⟩ rfl hl.1 rfl (Nat.le_of_ble_eq_true rfl) dX5_goOnClosing_106 ⟨z0, z0⟩) hP hD hK hS hA (fun u462 H locs w463 hP hD hK hS => ?_)
            obtain ⟨V466, L467⟩ := u462
            obtain ⟨hMV466, ajV466, axL467, t464, t465⟩ := w463
            have axL467 : L = L467 := Eq.symm axL467
            subst axL467
            have hP : va_P D vwCl (xw ad kk V466 L Z) H := hP
            have hD : va_D A (xw ad kk V466 L Z) := hD
            have hMV466 : rgd bX V466 := hMV466
            have ajV466 : agr [] [25, 28] V451 V466 := ajV466
            have agV466 : agr [(4, 6), (5, 6), (5, 9), (5, 10)] [25, 28, 36, 37, 67, 68, 69, 70, 71, 72, 73, 74, 75, 76, 77, 78, 79, 80, 81, 82, 83, 84, 85] V V466 := agV451.tr ajV466 (by decide) (by decide)
            have t464 : ∀ n, ME V451 V466 n := t464
            have t465 : (((V451 25 (24 * Int32.toNatClampNeg (V451 27 (Int32.toNatClampNeg (V 70 gf))) + Int32.toNatClampNeg (V451 26 (Int32.toNatClampNeg (V 70 gf))))).toInt = ((V 70 gf)).toInt) ∧ V466 = (up2 (up2 V451 28 (Int32.toNatClampNeg (V 70 gf)) 2) 25 (24 * Int32.toNatClampNeg (V451 27 (Int32.toNatClampNeg (V 70 gf))) + Int32.toNatClampNeg (V451 26 (Int32.toNatClampNeg (V 70 gf)))) (-1))) ∨ (((V451 25 (24 * Int32.toNatClampNeg (V451 27 (Int32.toNatClampNeg (V 70 gf))) + Int32.toNatClampNeg (V451 26 (Int32.toNatClampNeg (V 70 gf))))).toInt ≠ ((V 70 gf)).toInt) ∧ V466 = (up2 V451 28 (Int32.toNatClampNeg (V 70 gf)) 2)) := t465
            rcases t465 with ⟨hc468, hw469⟩ | ⟨hc470, hw471⟩
            · skip
              obtain ⟨V472, hV472⟩ : ∃ z, z = up2 V451 28 (Int32.toNatClampNeg (V 70 gf)) 2 := ⟨_, rfl⟩
              have hV466 : V466 = up2 V472 25 (24 * Int32.toNatClampNeg (V451 27 (Int32.toNatClampNeg (V 70 gf))) + Int32.toNatClampNeg (V451 26 (Int32.toNatClampNeg (V 70 gf)))) (-1) := by rw [hw469, hV472]
              refine lv_aload_n hx hb dX5_goOnClosing_109 rfl (lv_at hl 2 rfl) ?_
              have pq473 : (V466 5 6).toInt = ((V 5 6)).toInt := congrArg Int32.toInt ((up2_o hV466 (by decide)).trans ((up2_o hV472 (by decide)).trans ((up2_o hV451 (by decide)).trans ((up2_o hV458 (by decide)).trans (up2_o hV457 (by decide))))))
              refine gA_void (gA_runV (As := []) (rest := []) (ci := 5) (q0 := 5) hx hb hml hown hg hP hD hK hS hA hnw hgk (x_leave9 l D ks H.size ad kk V466 L Z  hMV466 (show 1 ≤ (V466 5 6).toInt from by (first | exact om_c36fd4a9fcac gd gl9 pq473 | omega))) w1308 w1310 w50 w171 w1311 rfl xgMachine hdV_yX5_leave ⟨Nat.le_of_ble_eq_true rfl, Nat.le_of_ble_eq_true rfl⟩ rfl hl.1 rfl (Nat.le_of_ble_eq_true rfl) dX5_goOnClosing_110 ⟨z0, z0⟩) hP hD hK hS hA (fun u475 H locs w476 hP hD hK hS => ?_)
              obtain ⟨V479, L480⟩ := u475
              obtain ⟨hMV479, ajV479, axL480, t477, t478⟩ := w476
              have axL480 : L = L480 := Eq.symm axL480
              subst axL480
              have hP : va_P D vwCl (xw ad kk V479 L Z) H := hP
              have hD : va_D A (xw ad kk V479 L Z) := hD
              have hMV479 : rgd bX V479 := hMV479
              have ajV479 : agr [(5, 6)] [] V466 V479 := ajV479
              have agV479 : agr [(4, 6), (5, 6), (5, 9), (5, 10)] [25, 28, 36, 37, 67, 68, 69, 70, 71, 72, 73, 74, 75, 76, 77, 78, 79, 80, 81, 82, 83, 84, 85] V V479 := agV466.tr ajV479 (by decide) (by decide)
              have t477 : (V479 5 6).toInt = (V466 5 6).toInt - 1 := t477
              have t478 : ((True) ∧ V479 = (up2 V466 5 6 (V466 5 6 - 1))) := t478
              have r481 : 0 ≤ ((V479 5 6)).toInt ∧ ((V479 5 6)).toInt ≤ 400 := hMV479 5 6
              have hw482 := t478.2
              obtain ⟨z483, ez483⟩ : ∃ y : Int32, y = V466 5 6 - 1 := ⟨_, rfl⟩
              have hz483 : z483.toInt = (V466 5 6).toInt - 1 := i_sub ez483 rfl (by decide) (by (first | exact om_70510bf9f0cb gd gl9 sl9 pq473 | omega))
              have hV479 : V479 = up2 V466 5 6 z483 := by rw [hw482, ez483]
              have me484 : ME V V479 gf := (ME.up (ME.up (ME.up (ME.up (ME.up (ME.up ME.rf hV457 (Or.inr (by (first | exact om_cafd1137c917  | omega)))) hV458 (Or.inr (by (first | exact om_c9c9e20ea0d3  | omega)))) hV451 (Or.inr (by (first | exact om_5d9c67e1ed13  | omega)))) hV472 (Or.inr (by (first | exact om_15c89eee5dc0  | omega)))) hV466 (Or.inr (by omega))) hV479 (Or.inr (by (first | exact om_f481bd0f1cda  | omega))))
              have pq485 : (V479 67 gf).toInt = ((V 67 gf)).toInt := congrArg Int32.toInt ((up2_o hV479 (by decide)).trans ((up2_o hV466 (by decide)).trans ((up2_o hV472 (by decide)).trans ((up2_o hV451 (by decide)).trans ((up2_o hV458 (by decide)).trans (up2_o hV457 (by decide)))))))
              have pq486 : (V479 68 gf).toInt = ((V 68 gf)).toInt := congrArg Int32.toInt ((up2_o hV479 (by decide)).trans ((up2_o hV466 (by decide)).trans ((up2_o hV472 (by decide)).trans ((up2_o hV451 (by decide)).trans ((up2_o hV458 (by decide)).trans (up2_o hV457 (by decide)))))))
              have pq487 : (V479 70 gf).toInt = ((V 70 gf)).toInt := congrArg Int32.toInt ((up2_o hV479 (by decide)).trans ((up2_o hV466 (by decide)).trans ((up2_o hV472 (by decide)).trans ((up2_o hV451 (by decide)).trans ((up2_o hV458 (by decide)).trans (up2_o hV457 (by decide)))))))
              have pq488 : (V479 71 gf).toInt = ((V 71 gf)).toInt := congrArg Int32.toInt ((up2_o hV479 (by decide)).trans ((up2_o hV466 (by decide)).trans ((up2_o hV472 (by decide)).trans ((up2_o hV451 (by decide)).trans ((up2_o hV458 (by decide)).trans (up2_o hV457 (by decide)))))))
              have pq489 : (V479 75 gf).toInt = ((V 75 gf)).toInt := congrArg Int32.toInt ((up2_o hV479 (by decide)).trans ((up2_o hV466 (by decide)).trans ((up2_o hV472 (by decide)).trans ((up2_o hV451 (by decide)).trans ((up2_o hV458 (by decide)).trans (up2_o hV457 (by decide)))))))
              have pq490 : (V479 76 gf).toInt = ((V 76 gf)).toInt := congrArg Int32.toInt ((up2_o hV479 (by decide)).trans ((up2_o hV466 (by decide)).trans ((up2_o hV472 (by decide)).trans ((up2_o hV451 (by decide)).trans ((up2_o hV458 (by decide)).trans (up2_o hV457 (by decide)))))))
              have pq491 : (V479 80 gf).toInt = ((V 80 gf)).toInt := congrArg Int32.toInt ((up2_o hV479 (by decide)).trans ((up2_o hV466 (by decide)).trans ((up2_o hV472 (by decide)).trans ((up2_o hV451 (by decide)).trans ((up2_o hV458 (by decide)).trans (up2_o hV457 (by decide)))))))
              have pq492 : (V479 84 gf).toInt = ((V 84 gf)).toInt := congrArg Int32.toInt ((up2_o hV479 (by decide)).trans ((up2_o hV466 (by decide)).trans ((up2_o hV472 (by decide)).trans ((up2_o hV451 (by decide)).trans ((up2_o hV458 (by decide)).trans (up2_o hV457 (by decide)))))))
              have pq493 : (V479 5 6).toInt = z483.toInt := congrArg Int32.toInt (up2_s hV479)
              have pq494 : (V479 5 8).toInt = ((V 5 8)).toInt := congrArg Int32.toInt ((up2_k hV479 (by decide)).trans ((up2_o hV466 (by decide)).trans ((up2_o hV472 (by decide)).trans ((up2_o hV451 (by decide)).trans ((up2_o hV458 (by decide)).trans (up2_o hV457 (by decide)))))))
              have pq495 : (V479 5 9).toInt = ((V 5 9)).toInt := congrArg Int32.toInt ((up2_k hV479 (by decide)).trans ((up2_o hV466 (by decide)).trans ((up2_o hV472 (by decide)).trans ((up2_o hV451 (by decide)).trans ((up2_o hV458 (by decide)).trans (up2_o hV457 (by decide)))))))
              have pq496 : (V479 3 13).toInt = ((V 3 13)).toInt := congrArg Int32.toInt ((up2_o hV479 (by decide)).trans ((up2_o hV466 (by decide)).trans ((up2_o hV472 (by decide)).trans ((up2_o hV451 (by decide)).trans ((up2_o hV458 (by decide)).trans (up2_o hV457 (by decide)))))))
              have pq497 : (V479 43 (5 * b + 2)).toInt = ((V 43 (5 * b + 2))).toInt := congrArg Int32.toInt ((up2_o hV479 (by decide)).trans ((up2_o hV466 (by decide)).trans ((up2_o hV472 (by decide)).trans ((up2_o hV451 (by decide)).trans ((up2_o hV458 (by decide)).trans (up2_o hV457 (by decide)))))))
              have pq498 : (V479 42 b).toInt = ((V 42 b)).toInt := congrArg Int32.toInt ((up2_o hV479 (by decide)).trans ((up2_o hV466 (by decide)).trans ((up2_o hV472 (by decide)).trans ((up2_o hV451 (by decide)).trans ((up2_o hV458 (by decide)).trans (up2_o hV457 (by decide)))))))
              have pq499 : (V479 41 b).toInt = ((V 41 b)).toInt := congrArg Int32.toInt ((up2_o hV479 (by decide)).trans ((up2_o hV466 (by decide)).trans ((up2_o hV472 (by decide)).trans ((up2_o hV451 (by decide)).trans ((up2_o hV458 (by decide)).trans (up2_o hV457 (by decide)))))))
              have rp500 : MJ V479 Z b := MP.lv (MO.mp mo) me484 (by (first | exact om_541a228d28bf gd pq473 t477 hz483 pq493 | omega)) (fun _ => Or.inl (by omega))
              have pq501 : (V479 5 11).toInt = ((V 5 11)).toInt := congrArg Int32.toInt ((up2_k hV479 (by decide)).trans ((up2_o hV466 (by decide)).trans ((up2_o hV472 (by decide)).trans ((up2_o hV451 (by decide)).trans ((up2_o hV458 (by decide)).trans (up2_o hV457 (by decide)))))))
              have pq502 : (V479 5 12).toInt = ((V 5 12)).toInt := congrArg Int32.toInt ((up2_k hV479 (by decide)).trans ((up2_o hV466 (by decide)).trans ((up2_o hV472 (by decide)).trans ((up2_o hV451 (by decide)).trans ((up2_o hV458 (by decide)).trans (up2_o hV457 (by decide)))))))
              have pq503 : (V479 5 13).toInt = ((V 5 13)).toInt := congrArg Int32.toInt ((up2_k hV479 (by decide)).trans ((up2_o hV466 (by decide)).trans ((up2_o hV472 (by decide)).trans ((up2_o hV451 (by decide)).trans ((up2_o hV458 (by decide)).trans (up2_o hV457 (by decide)))))))
              have r504 : 0 ≤ ((V 5 13)).toInt ∧ ((V 5 13)).toInt ≤ 3000 := hMV 5 13
              have pq505 : (V479 5 7).toInt = ((V 5 7)).toInt := congrArg Int32.toInt ((up2_k hV479 (by decide)).trans ((up2_o hV466 (by decide)).trans ((up2_o hV472 (by decide)).trans ((up2_o hV451 (by decide)).trans ((up2_o hV458 (by decide)).trans (up2_o hV457 (by decide)))))))
              have r506 : 0 ≤ ((V 5 7)).toInt ∧ ((V 5 7)).toInt ≤ 2048 := hMV 5 7
              have rh2 : (V 5 11).toInt = gm 0 8 ∧ (V 5 12).toInt = gm 0 9 := rh.2.2.1 (show gm 0 6 = 2 from by (first | exact om_147a8ac6eacb rh1 f442 | omega))
              have rn507 : RWn V451 ow gB (mNote gm o (fst1 (gm 0 8) (gm 0 9))) := RWn.note rn (fun c9 k9 h1 h2 h3 h4 => ((show V451 c9 k9 = V458 c9 k9 from by rw [hV451]; exact up2_pl (by omega)).trans ((show V458 c9 k9 = V457 c9 k9 from by rw [hV458]; exact up2_pl (by omega)).trans (show V457 c9 k9 = V c9 k9 from by rw [hV457]; exact up2_pl (by omega))))) (Or.inl ⟨hc453, (by rw [up2_s hV451]; exact hz459), (fun i9 hi9 => ⟨(up2_o hV451 (by decide)).trans ((up2_o hV458 (by decide)).trans (up2_k hV457 hi9)), (up2_o hV451 (by decide)).trans ((up2_k hV458 hi9).trans (up2_o hV457 (by decide)))⟩), (show (V451 36 (Int32.toNatClampNeg (V 4 6))).toInt = o from by rw [(up2_o hV451 (by decide)).trans ((up2_o hV458 (by decide)).trans (up2_s hV457))]; exact q70), (show (V451 37 (Int32.toNatClampNeg (V 4 6))).toInt = (fst1 (gm 0 8) (gm 0 9)) from by rw [(up2_o hV451 (by decide)).trans (up2_s hV458)]; unfold fst1; rcases t446 with ⟨h1, h2⟩ | ⟨h1, h2⟩; (rw [if_pos (by (first | exact om_bddd29407a79 rh2 h1 | omega))]; omega); (rw [if_neg (by omega)]; (first | exact om_c30f8b808ce3 rh2 h2 | omega)))⟩)
              have dx9 : (Int32.toNatClampNeg (V 70 gf)) = o.toNat := by have h9 := i_clamp (x := (V 70 gf)) rfl (by (first | exact om_c42429f26483 fo q70 hc468 pq487 | omega)); (first | exact om_cdba46fd13a1 fo q70 hc468 pq487 h9 | omega)
              have do9 : ((o.toNat : Nat) : Int) < (mNote gm o (fst1 (gm 0 8) (gm 0 9))) 0 2 := by rw [mNt_0 (by decide)]; (first | exact om_b313c004abde r8 fo ra2 q70 hc468 pq487 pq496 | omega)
              have db9 := (rn507).2.1 _ do9
              have ds9 : 24 * Int32.toNatClampNeg (V451 27 (Int32.toNatClampNeg (V 70 gf))) + Int32.toNatClampNeg (V451 26 (Int32.toNatClampNeg (V 70 gf))) = 24 * ((mNote gm o (fst1 (gm 0 8) (gm 0 9))) 2 o.toNat).toNat + ((mNote gm o (fst1 (gm 0 8) (gm 0 9))) 1 o.toNat).toNat := by rw [dx9]; have h1 := db9.1.1; have h2 := db9.1.2.1; have h3 := i_clamp (x := V451 27 o.toNat) rfl (by (first | exact om_57a3b3030c68 db9 | omega)); have h4 := i_clamp (x := V451 26 o.toNat) rfl (by (first | exact om_624b0f847349 db9 | omega)); (first | exact om_5319a23bfaa2 db9 h3 h4 | omega)
              have rn508 : RWn V466 ow gB (mU (mNote gm o (fst1 (gm 0 8) (gm 0 9))) 3 o.toNat 2) := RWn.drop rn507 do9 (fun x9 hx9 => (up2_o hV466 (by decide)).trans (up2_k hV472 (by rw [dx9]; exact hx9))) (by rw [← dx9, (up2_o hV466 (by decide)).trans (up2_s hV472)]; decide) (fun k9 hk9 => (up2_k hV466 (by rw [ds9]; exact hk9)).trans (up2_o hV472 (by decide))) (by rw [← ds9, up2_s hV466, if_pos (by rw [← dx9]; have h9 := i_clamp (x := (V 70 gf)) rfl (by (first | exact om_c42429f26483 fo q70 hc468 pq487 | omega)); (first | exact om_31a30e49af65 q70 hc468 pq487 dx9 h9 | omega))]; decide) (fun c9 k9 h1 h2 h3 => ((show V466 c9 k9 = V472 c9 k9 from by rw [hV466]; exact up2_pl (by omega)).trans (show V472 c9 k9 = V451 c9 k9 from by rw [hV472]; exact up2_pl (by omega))))
              have rn509 : RWn V479 ow gB (mU (mNote gm o (fst1 (gm 0 8) (gm 0 9))) 3 o.toNat 2) := RWn.es rn508 (ESw.ag (show agr [(5, 6)] [] V466 V479 from (agr.up agr.rf hV479 rfl)) (by decide))
              have me510 : ME V V479 gf := (ME.up (ME.up (ME.up (ME.up (ME.up (ME.up ME.rf hV457 (Or.inr (by (first | exact om_cafd1137c917  | omega)))) hV458 (Or.inr (by (first | exact om_c9c9e20ea0d3  | omega)))) hV451 (Or.inr (by (first | exact om_5d9c67e1ed13  | omega)))) hV472 (Or.inr (by (first | exact om_15c89eee5dc0  | omega)))) hV466 (Or.inr (by omega))) hV479 (Or.inr (by (first | exact om_f481bd0f1cda  | omega))))
              have rl511 : RWl V479 gB gr t0 := RWl.mv hlr (fun i9 hi9 c9 h1 h2 => me510.2.1 c9 i9 h1 h2 (by (first | exact om_102b9d22baee gd kdp rd rd2 pq473 t477 hz483 hi9 | omega))) (fun j9 hj9 => ((up2_o hV479 (by decide)).trans ((up2_o hV466 (by decide)).trans ((up2_o hV472 (by decide)).trans ((up2_o hV451 (by decide)).trans ((up2_o hV458 (by decide)).trans (up2_o hV457 (by decide)))))))) (by rw [((up2_o hV479 (by decide)).trans ((up2_o hV466 (by decide)).trans ((up2_o hV472 (by decide)).trans ((up2_o hV451 (by decide)).trans ((up2_o hV458 (by decide)).trans (up2_o hV457 (by decide)))))))]; exact Int.le_refl _) ((up2_o hV479 (by decide)).trans ((up2_o hV466 (by decide)).trans ((up2_o hV472 (by decide)).trans ((up2_o hV451 (by decide)).trans ((up2_o hV458 (by decide)).trans (up2_o hV457 (by decide)))))))
              have rz9 : RW V479 gB ((mU (mNote gm o (fst1 (gm 0 8) (gm 0 9))) 3 o.toNat 2), ga, gr) := RW.fin rwq rn509 (by rw [mU_o _ _ (by omega), mNt_0 (by decide)]) (fun i9 => (by rw [mU_o _ _ (by omega), mNt_x (by decide) (by decide) (by decide)])) ((up2_k hV479 (by decide)).trans ((up2_o hV466 (by decide)).trans ((up2_o hV472 (by decide)).trans ((up2_o hV451 (by decide)).trans ((up2_o hV458 (by decide)).trans (up2_o hV457 (by decide))))))) (fun i9 => ((up2_o hV479 (by decide)).trans ((up2_o hV466 (by decide)).trans ((up2_o hV472 (by decide)).trans ((up2_o hV451 (by decide)).trans ((up2_o hV458 (by decide)).trans (up2_o hV457 (by decide)))))))) (by rw [(show (mU (mNote gm o (fst1 (gm 0 8) (gm 0 9))) 3 o.toNat 2) 0 6 = gm 0 6 from by rw [mU_o _ _ (by omega), mNt_0 (by decide)])]; (first | exact om_4aa03bcffe3b rh1 f442 pq495 | omega)) (fun h9 => by rw [(show (mU (mNote gm o (fst1 (gm 0 8) (gm 0 9))) 3 o.toNat 2) 0 6 = gm 0 6 from by rw [mU_o _ _ (by omega), mNt_0 (by decide)])] at h9; exfalso; (first | exact om_8e6f48d55a9e rh1 f442 h9 | omega)) (fun h9 => by rw [mU_o _ _ (by omega), mU_o _ _ (by omega), mNt_0 (by decide), mNt_0 (by decide)]; exact ⟨by have h8 := rh2.1; (first | exact om_c93582d34511 pq501 rh2 | omega), by have h8 := rh2.2; (first | exact om_1d51879d5b6b pq502 rh2 | omega)⟩) (by (first | exact om_0893762427d8 kdp rd rd2 pq473 t477 | omega)) (by rw [((up2_k hV479 (by decide)).trans ((up2_o hV466 (by decide)).trans ((up2_o hV472 (by decide)).trans ((up2_o hV451 (by decide)).trans ((up2_o hV458 (by decide)).trans (up2_o hV457 (by decide))))))), rt9, tz9]) rl511
              have rx512 : RW V479 gB (stM gB (gm, ga, gfr :: gr)) := by rw [hfe, (st_17e (show bE gB c.toNat 31 = 0 from by rcases cs9 with h9 | h9; (rw [kc9] at h9; exact h9.2); (exfalso; (first | exact om_230a843bd84f f22 h9 | omega)))).trans (cl_f (by rw [← rh1]; omega))]; exact rz9
              refine W.know (fun kr1 kr2 => ?_)
              refine W.widen (k := zcc Z) (n := zss Z) (Nat.sub_le _ _) (Nat.sub_le _ _) ?_
              exact W.vret hx hb hr (fun t ht hW => ⟨⟨(V479, L, Z), rfl, ⟨hMV479, agV479, rfl, zoZ, rp500, rx512⟩, ⟨by rw [ht]; exact hP, va_K.moved hW.alike hK, hD⟩, by rw [ht]; exact kr1, by rw [ht]; exact kr2⟩, hS.F ht⟩) hS.2.2 dX5_goOnClosing_113
            · skip
              have hV466 : V466 = up2 V451 28 (Int32.toNatClampNeg (V 70 gf)) 2 := by rw [hw471]
              refine lv_aload_n hx hb dX5_goOnClosing_109 rfl (lv_at hl 2 rfl) ?_
              have pq513 : (V466 5 6).toInt = ((V 5 6)).toInt := congrArg Int32.toInt ((up2_o hV466 (by decide)).trans ((up2_o hV451 (by decide)).trans ((up2_o hV458 (by decide)).trans (up2_o hV457 (by decide)))))
              refine gA_void (gA_runV (As := []) (rest := []) (ci := 5) (q0 := 5) hx hb hml hown hg hP hD hK hS hA hnw hgk (x_leave9 l D ks H.size ad kk V466 L Z  hMV466 (show 1 ≤ (V466 5 6).toInt from by (first | exact om_c36fd4a9fcac gd gl9 pq513 | omega))) w1308 w1310 w50 w171 w1311 rfl xgMachine hdV_yX5_leave ⟨Nat.le_of_ble_eq_true rfl, Nat.le_of_ble_eq_true rfl⟩ rfl hl.1 rfl (Nat.le_of_ble_eq_true rfl) dX5_goOnClosing_110 ⟨z0, z0⟩) hP hD hK hS hA (fun u515 H locs w516 hP hD hK hS => ?_)
              obtain ⟨V519, L520⟩ := u515
              obtain ⟨hMV519, ajV519, axL520, t517, t518⟩ := w516
              have axL520 : L = L520 := Eq.symm axL520
              subst axL520
              have hP : va_P D vwCl (xw ad kk V519 L Z) H := hP
              have hD : va_D A (xw ad kk V519 L Z) := hD
              have hMV519 : rgd bX V519 := hMV519
              have ajV519 : agr [(5, 6)] [] V466 V519 := ajV519
              have agV519 : agr [(4, 6), (5, 6), (5, 9), (5, 10)] [25, 28, 36, 37, 67, 68, 69, 70, 71, 72, 73, 74, 75, 76, 77, 78, 79, 80, 81, 82, 83, 84, 85] V V519 := agV466.tr ajV519 (by decide) (by decide)
              have t517 : (V519 5 6).toInt = (V466 5 6).toInt - 1 := t517
              have t518 : ((True) ∧ V519 = (up2 V466 5 6 (V466 5 6 - 1))) := t518
              have r521 : 0 ≤ ((V519 5 6)).toInt ∧ ((V519 5 6)).toInt ≤ 400 := hMV519 5 6
              have hw522 := t518.2
              obtain ⟨z523, ez523⟩ : ∃ y : Int32, y = V466 5 6 - 1 := ⟨_, rfl⟩
              have hz523 : z523.toInt = (V466 5 6).toInt - 1 := i_sub ez523 rfl (by decide) (by (first | exact om_70510bf9f0cb gd gl9 sl9 pq513 | omega))
              have hV519 : V519 = up2 V466 5 6 z523 := by rw [hw522, ez523]
              have me524 : ME V V519 gf := (ME.up (ME.up (ME.up (ME.up (ME.up ME.rf hV457 (Or.inr (by (first | exact om_cafd1137c917  | omega)))) hV458 (Or.inr (by (first | exact om_c9c9e20ea0d3  | omega)))) hV451 (Or.inr (by (first | exact om_5d9c67e1ed13  | omega)))) hV466 (Or.inr (by (first | exact om_15c89eee5dc0  | omega)))) hV519 (Or.inr (by (first | exact om_f481bd0f1cda  | omega))))
              have pq525 : (V519 67 gf).toInt = ((V 67 gf)).toInt := congrArg Int32.toInt ((up2_o hV519 (by decide)).trans ((up2_o hV466 (by decide)).trans ((up2_o hV451 (by decide)).trans ((up2_o hV458 (by decide)).trans (up2_o hV457 (by decide))))))
              have pq526 : (V519 68 gf).toInt = ((V 68 gf)).toInt := congrArg Int32.toInt ((up2_o hV519 (by decide)).trans ((up2_o hV466 (by decide)).trans ((up2_o hV451 (by decide)).trans ((up2_o hV458 (by decide)).trans (up2_o hV457 (by decide))))))
              have pq527 : (V519 70 gf).toInt = ((V 70 gf)).toInt := congrArg Int32.toInt ((up2_o hV519 (by decide)).trans ((up2_o hV466 (by decide)).trans ((up2_o hV451 (by decide)).trans ((up2_o hV458 (by decide)).trans (up2_o hV457 (by decide))))))
              have pq528 : (V519 71 gf).toInt = ((V 71 gf)).toInt := congrArg Int32.toInt ((up2_o hV519 (by decide)).trans ((up2_o hV466 (by decide)).trans ((up2_o hV451 (by decide)).trans ((up2_o hV458 (by decide)).trans (up2_o hV457 (by decide))))))
              have pq529 : (V519 75 gf).toInt = ((V 75 gf)).toInt := congrArg Int32.toInt ((up2_o hV519 (by decide)).trans ((up2_o hV466 (by decide)).trans ((up2_o hV451 (by decide)).trans ((up2_o hV458 (by decide)).trans (up2_o hV457 (by decide))))))
              have pq530 : (V519 76 gf).toInt = ((V 76 gf)).toInt := congrArg Int32.toInt ((up2_o hV519 (by decide)).trans ((up2_o hV466 (by decide)).trans ((up2_o hV451 (by decide)).trans ((up2_o hV458 (by decide)).trans (up2_o hV457 (by decide))))))
              have pq531 : (V519 80 gf).toInt = ((V 80 gf)).toInt := congrArg Int32.toInt ((up2_o hV519 (by decide)).trans ((up2_o hV466 (by decide)).trans ((up2_o hV451 (by decide)).trans ((up2_o hV458 (by decide)).trans (up2_o hV457 (by decide))))))
              have pq532 : (V519 84 gf).toInt = ((V 84 gf)).toInt := congrArg Int32.toInt ((up2_o hV519 (by decide)).trans ((up2_o hV466 (by decide)).trans ((up2_o hV451 (by decide)).trans ((up2_o hV458 (by decide)).trans (up2_o hV457 (by decide))))))
              have pq533 : (V519 5 6).toInt = z523.toInt := congrArg Int32.toInt (up2_s hV519)
              have pq534 : (V519 5 8).toInt = ((V 5 8)).toInt := congrArg Int32.toInt ((up2_k hV519 (by decide)).trans ((up2_o hV466 (by decide)).trans ((up2_o hV451 (by decide)).trans ((up2_o hV458 (by decide)).trans (up2_o hV457 (by decide))))))
              have pq535 : (V519 5 9).toInt = ((V 5 9)).toInt := congrArg Int32.toInt ((up2_k hV519 (by decide)).trans ((up2_o hV466 (by decide)).trans ((up2_o hV451 (by decide)).trans ((up2_o hV458 (by decide)).trans (up2_o hV457 (by decide))))))
              have pq536 : (V519 3 13).toInt = ((V 3 13)).toInt := congrArg Int32.toInt ((up2_o hV519 (by decide)).trans ((up2_o hV466 (by decide)).trans ((up2_o hV451 (by decide)).trans ((up2_o hV458 (by decide)).trans (up2_o hV457 (by decide))))))
              have pq537 : (V519 43 (5 * b + 2)).toInt = ((V 43 (5 * b + 2))).toInt := congrArg Int32.toInt ((up2_o hV519 (by decide)).trans ((up2_o hV466 (by decide)).trans ((up2_o hV451 (by decide)).trans ((up2_o hV458 (by decide)).trans (up2_o hV457 (by decide))))))
              have pq538 : (V519 42 b).toInt = ((V 42 b)).toInt := congrArg Int32.toInt ((up2_o hV519 (by decide)).trans ((up2_o hV466 (by decide)).trans ((up2_o hV451 (by decide)).trans ((up2_o hV458 (by decide)).trans (up2_o hV457 (by decide))))))
              have pq539 : (V519 41 b).toInt = ((V 41 b)).toInt := congrArg Int32.toInt ((up2_o hV519 (by decide)).trans ((up2_o hV466 (by decide)).trans ((up2_o hV451 (by decide)).trans ((up2_o hV458 (by decide)).trans (up2_o hV457 (by decide))))))
              have rp540 : MJ V519 Z b := MP.lv (MO.mp mo) me524 (by (first | exact om_541a228d28bf gd pq513 t517 hz523 pq533 | omega)) (fun _ => Or.inl (by omega))
              have pq541 : (V519 5 11).toInt = ((V 5 11)).toInt := congrArg Int32.toInt ((up2_k hV519 (by decide)).trans ((up2_o hV466 (by decide)).trans ((up2_o hV451 (by decide)).trans ((up2_o hV458 (by decide)).trans (up2_o hV457 (by decide))))))
              have pq542 : (V519 5 12).toInt = ((V 5 12)).toInt := congrArg Int32.toInt ((up2_k hV519 (by decide)).trans ((up2_o hV466 (by decide)).trans ((up2_o hV451 (by decide)).trans ((up2_o hV458 (by decide)).trans (up2_o hV457 (by decide))))))
              have pq543 : (V519 5 13).toInt = ((V 5 13)).toInt := congrArg Int32.toInt ((up2_k hV519 (by decide)).trans ((up2_o hV466 (by decide)).trans ((up2_o hV451 (by decide)).trans ((up2_o hV458 (by decide)).trans (up2_o hV457 (by decide))))))
              have r544 : 0 ≤ ((V 5 13)).toInt ∧ ((V 5 13)).toInt ≤ 3000 := hMV 5 13
              have pq545 : (V519 5 7).toInt = ((V 5 7)).toInt := congrArg Int32.toInt ((up2_k hV519 (by decide)).trans ((up2_o hV466 (by decide)).trans ((up2_o hV451 (by decide)).trans ((up2_o hV458 (by decide)).trans (up2_o hV457 (by decide))))))
              have r546 : 0 ≤ ((V 5 7)).toInt ∧ ((V 5 7)).toInt ≤ 2048 := hMV 5 7
              have rh2 : (V 5 11).toInt = gm 0 8 ∧ (V 5 12).toInt = gm 0 9 := rh.2.2.1 (show gm 0 6 = 2 from by (first | exact om_147a8ac6eacb rh1 f442 | omega))
              have rn547 : RWn V451 ow gB (mNote gm o (fst1 (gm 0 8) (gm 0 9))) := RWn.note rn (fun c9 k9 h1 h2 h3 h4 => ((show V451 c9 k9 = V458 c9 k9 from by rw [hV451]; exact up2_pl (by omega)).trans ((show V458 c9 k9 = V457 c9 k9 from by rw [hV458]; exact up2_pl (by omega)).trans (show V457 c9 k9 = V c9 k9 from by rw [hV457]; exact up2_pl (by omega))))) (Or.inl ⟨hc453, (by rw [up2_s hV451]; exact hz459), (fun i9 hi9 => ⟨(up2_o hV451 (by decide)).trans ((up2_o hV458 (by decide)).trans (up2_k hV457 hi9)), (up2_o hV451 (by decide)).trans ((up2_k hV458 hi9).trans (up2_o hV457 (by decide)))⟩), (show (V451 36 (Int32.toNatClampNeg (V 4 6))).toInt = o from by rw [(up2_o hV451 (by decide)).trans ((up2_o hV458 (by decide)).trans (up2_s hV457))]; exact q70), (show (V451 37 (Int32.toNatClampNeg (V 4 6))).toInt = (fst1 (gm 0 8) (gm 0 9)) from by rw [(up2_o hV451 (by decide)).trans (up2_s hV458)]; unfold fst1; rcases t446 with ⟨h1, h2⟩ | ⟨h1, h2⟩; (rw [if_pos (by (first | exact om_bddd29407a79 rh2 h1 | omega))]; omega); (rw [if_neg (by omega)]; (first | exact om_c30f8b808ce3 rh2 h2 | omega)))⟩)
              have dx9 : (Int32.toNatClampNeg (V 70 gf)) = o.toNat := by have h9 := i_clamp (x := (V 70 gf)) rfl (by (first | exact om_2996291ce4c2 fo q70 pq527 | omega)); (first | exact om_6acf0db861ed fo q70 pq527 h9 | omega)
              have do9 : ((o.toNat : Nat) : Int) < (mNote gm o (fst1 (gm 0 8) (gm 0 9))) 0 2 := by rw [mNt_0 (by decide)]; (first | exact om_5b0e08f69870 r8 fo ra2 q70 pq527 pq536 | omega)
              have db9 := (rn547).2.1 _ do9
              have ds9 : 24 * Int32.toNatClampNeg (V451 27 (Int32.toNatClampNeg (V 70 gf))) + Int32.toNatClampNeg (V451 26 (Int32.toNatClampNeg (V 70 gf))) = 24 * ((mNote gm o (fst1 (gm 0 8) (gm 0 9))) 2 o.toNat).toNat + ((mNote gm o (fst1 (gm 0 8) (gm 0 9))) 1 o.toNat).toNat := by rw [dx9]; have h1 := db9.1.1; have h2 := db9.1.2.1; have h3 := i_clamp (x := V451 27 o.toNat) rfl (by (first | exact om_57a3b3030c68 db9 | omega)); have h4 := i_clamp (x := V451 26 o.toNat) rfl (by (first | exact om_624b0f847349 db9 | omega)); (first | exact om_5319a23bfaa2 db9 h3 h4 | omega)
              have rn548 : RWn V466 ow gB (mU (mNote gm o (fst1 (gm 0 8) (gm 0 9))) 3 o.toNat 2) := RWn.drop rn547 do9 (fun x9 hx9 => up2_k hV466 (by rw [dx9]; exact hx9)) (by rw [← dx9, up2_s hV466]; decide) (fun k9 _ => up2_o hV466 (by decide)) (by rw [← ds9, up2_o hV466 (by decide), if_neg (by rw [← dx9]; have h9 := i_clamp (x := (V 70 gf)) rfl (by (first | exact om_2996291ce4c2 fo q70 pq527 | omega)); omega)]) (fun c9 k9 h1 h2 h3 => (show V466 c9 k9 = V451 c9 k9 from by rw [hV466]; exact up2_pl (by omega)))
              have rn549 : RWn V519 ow gB (mU (mNote gm o (fst1 (gm 0 8) (gm 0 9))) 3 o.toNat 2) := RWn.es rn548 (ESw.ag (show agr [(5, 6)] [] V466 V519 from (agr.up agr.rf hV519 rfl)) (by decide))
              have me550 : ME V V519 gf := (ME.up (ME.up (ME.up (ME.up (ME.up ME.rf hV457 (Or.inr (by (first | exact om_cafd1137c917  | omega)))) hV458 (Or.inr (by (first | exact om_c9c9e20ea0d3  | omega)))) hV451 (Or.inr (by (first | exact om_5d9c67e1ed13  | omega)))) hV466 (Or.inr (by (first | exact om_15c89eee5dc0  | omega)))) hV519 (Or.inr (by (first | exact om_f481bd0f1cda  | omega))))
              have rl551 : RWl V519 gB gr t0 := RWl.mv hlr (fun i9 hi9 c9 h1 h2 => me550.2.1 c9 i9 h1 h2 (by (first | exact om_102b9d22baee gd kdp rd rd2 pq513 t517 hz523 hi9 | omega))) (fun j9 hj9 => ((up2_o hV519 (by decide)).trans ((up2_o hV466 (by decide)).trans ((up2_o hV451 (by decide)).trans ((up2_o hV458 (by decide)).trans (up2_o hV457 (by decide))))))) (by rw [((up2_o hV519 (by decide)).trans ((up2_o hV466 (by decide)).trans ((up2_o hV451 (by decide)).trans ((up2_o hV458 (by decide)).trans (up2_o hV457 (by decide))))))]; exact Int.le_refl _) ((up2_o hV519 (by decide)).trans ((up2_o hV466 (by decide)).trans ((up2_o hV451 (by decide)).trans ((up2_o hV458 (by decide)).trans (up2_o hV457 (by decide))))))
              have rz9 : RW V519 gB ((mU (mNote gm o (fst1 (gm 0 8) (gm 0 9))) 3 o.toNat 2), ga, gr) := RW.fin rwq rn549 (by rw [mU_o _ _ (by omega), mNt_0 (by decide)]) (fun i9 => (by rw [mU_o _ _ (by omega), mNt_x (by decide) (by decide) (by decide)])) ((up2_k hV519 (by decide)).trans ((up2_o hV466 (by decide)).trans ((up2_o hV451 (by decide)).trans ((up2_o hV458 (by decide)).trans (up2_o hV457 (by decide)))))) (fun i9 => ((up2_o hV519 (by decide)).trans ((up2_o hV466 (by decide)).trans ((up2_o hV451 (by decide)).trans ((up2_o hV458 (by decide)).trans (up2_o hV457 (by decide))))))) (by rw [(show (mU (mNote gm o (fst1 (gm 0 8) (gm 0 9))) 3 o.toNat 2) 0 6 = gm 0 6 from by rw [mU_o _ _ (by omega), mNt_0 (by decide)])]; (first | exact om_4aa03bcffe3b rh1 f442 pq535 | omega)) (fun h9 => by rw [(show (mU (mNote gm o (fst1 (gm 0 8) (gm 0 9))) 3 o.toNat 2) 0 6 = gm 0 6 from by rw [mU_o _ _ (by omega), mNt_0 (by decide)])] at h9; exfalso; (first | exact om_8e6f48d55a9e rh1 f442 h9 | omega)) (fun h9 => by rw [mU_o _ _ (by omega), mU_o _ _ (by omega), mNt_0 (by decide), mNt_0 (by decide)]; exact ⟨by have h8 := rh2.1; (first | exact om_c93582d34511 pq541 rh2 | omega), by have h8 := rh2.2; (first | exact om_1d51879d5b6b pq542 rh2 | omega)⟩) (by (first | exact om_0893762427d8 kdp rd rd2 pq513 t517 | omega)) (by rw [((up2_k hV519 (by decide)).trans ((up2_o hV466 (by decide)).trans ((up2_o hV451 (by decide)).trans ((up2_o hV458 (by decide)).trans (up2_o hV457 (by decide)))))), rt9, tz9]) rl551
              have rx552 : RW V519 gB (stM gB (gm, ga, gfr :: gr)) := by rw [hfe, (st_17e (show bE gB c.toNat 31 = 0 from by rcases cs9 with h9 | h9; (rw [kc9] at h9; exact h9.2); (exfalso; (first | exact om_230a843bd84f f22 h9 | omega)))).trans (cl_f (by rw [← rh1]; omega))]; exact rz9
              refine W.know (fun kr1 kr2 => ?_)
              refine W.widen (k := zcc Z) (n := zss Z) (Nat.sub_le _ _) (Nat.sub_le _ _) ?_
              exact W.vret hx hb hr (fun t ht hW => ⟨⟨(V519, L, Z), rfl, ⟨hMV519, agV519, rfl, zoZ, rp540, rx552⟩, ⟨by rw [ht]; exact hP, va_K.moved hW.alike hK, hD⟩, by rw [ht]; exact kr1, by rw [ht]; exact kr2⟩, hS.F ht⟩) hS.2.2 dX5_goOnClosing_113
          · skip
            have ajV451 : agr [] [] V V451 := by rw [hw456]; exact agr.rf
            refine lv_aload_n hx hb dX5_goOnClosing_98 rfl (lv_at hl 2 rfl) ?_
            refine va_get (D := D) (ci := 5) (v := .ref (ad 3)) (fs := (xfMachine ad V451 L Z)) (C := RX5) (T := TX5) (N := 15) hx hb hg inX5 hown hK hP 5 xgMachine rfl 0 (by decide) (hg _ w667) (fun _ h9 => h9) rfl dX5_goOnClosing_99 ?_
            refine lv_aload_n hx hb dX5_goOnClosing_102 rfl (lv_at hl 3 rfl) ?_
            refine va_getN (D := D) (ci := 4) (v := .int (V451 70 gf)) (fs := (xfFrame V451 gf)) (C := RX4) (T := TX4) (N := 19) hx hb hg inX4 hown hK hP (336 + gf) (xgFrame hgf) rfl 3 (by decide) (hnw.use 1192 n1192 rfl) (fun _ h9 => h9) rfl dX5_goOnClosing_103 ?_
            refine g_top (v := (V 70 gf)) (ajV451 70 gf rfl) ?_
            refine gA_void (gA_runV (As := [.int (V 70 gf)]) (rest := []) (ci := 8) (q0 := 3) hx hb hml hown hg hP hD hK hS hA hnw hgk (x_dropObject9 l D ks H.size ad kk V451 L Z (V 70 gf) hMV451 (by (first | exact om_d0c9b7046452 r8 fo ra2 q70 | omega))) w1336 w1337 w1338 w164 w1339 rfl xgStock hdV_yX8_dropObject ⟨Nat.le_of_ble_eq_true rfl, Nat.le_of_ble_eq_true rfl⟩ rfl hl.1 rfl (Nat.le_of_ble_eq_true rfl) dX5_goOnClosing_106 ⟨z0, z0⟩) hP hD hK hS hA (fun u554 H locs w555 hP hD hK hS => ?_)
            obtain ⟨V558, L559⟩ := u554
            obtain ⟨hMV558, ajV558, axL559, t556, t557⟩ := w555
            have axL559 : L = L559 := Eq.symm axL559
            subst axL559
            have hP : va_P D vwCl (xw ad kk V558 L Z) H := hP
            have hD : va_D A (xw ad kk V558 L Z) := hD
            have hMV558 : rgd bX V558 := hMV558
            have ajV558 : agr [] [25, 28] V451 V558 := ajV558
            have agV558 : agr [(4, 6), (5, 6), (5, 9), (5, 10)] [25, 28, 36, 37, 67, 68, 69, 70, 71, 72, 73, 74, 75, 76, 77, 78, 79, 80, 81, 82, 83, 84, 85] V V558 := agV451.tr ajV558 (by decide) (by decide)
            have t556 : ∀ n, ME V451 V558 n := t556
            have t557 : (((V451 25 (24 * Int32.toNatClampNeg (V451 27 (Int32.toNatClampNeg (V 70 gf))) + Int32.toNatClampNeg (V451 26 (Int32.toNatClampNeg (V 70 gf))))).toInt = ((V 70 gf)).toInt) ∧ V558 = (up2 (up2 V451 28 (Int32.toNatClampNeg (V 70 gf)) 2) 25 (24 * Int32.toNatClampNeg (V451 27 (Int32.toNatClampNeg (V 70 gf))) + Int32.toNatClampNeg (V451 26 (Int32.toNatClampNeg (V 70 gf)))) (-1))) ∨ (((V451 25 (24 * Int32.toNatClampNeg (V451 27 (Int32.toNatClampNeg (V 70 gf))) + Int32.toNatClampNeg (V451 26 (Int32.toNatClampNeg (V 70 gf))))).toInt ≠ ((V 70 gf)).toInt) ∧ V558 = (up2 V451 28 (Int32.toNatClampNeg (V 70 gf)) 2)) := t557
            rcases t557 with ⟨hc560, hw561⟩ | ⟨hc562, hw563⟩
            · skip
              obtain ⟨V564, hV564⟩ : ∃ z, z = up2 V451 28 (Int32.toNatClampNeg (V 70 gf)) 2 := ⟨_, rfl⟩
              have hV558 : V558 = up2 V564 25 (24 * Int32.toNatClampNeg (V451 27 (Int32.toNatClampNeg (V 70 gf))) + Int32.toNatClampNeg (V451 26 (Int32.toNatClampNeg (V 70 gf)))) (-1) := by rw [hw561, hV564]
              refine lv_aload_n hx hb dX5_goOnClosing_109 rfl (lv_at hl 2 rfl) ?_
              have pq565 : (V558 5 6).toInt = ((V 5 6)).toInt := congrArg Int32.toInt ((up2_o hV558 (by decide)).trans ((up2_o hV564 (by decide)).trans (ajV451 5 6 rfl)))
              refine gA_void (gA_runV (As := []) (rest := []) (ci := 5) (q0 := 5) hx hb hml hown hg hP hD hK hS hA hnw hgk (x_leave9 l D ks H.size ad kk V558 L Z  hMV558 (show 1 ≤ (V558 5 6).toInt from by (first | exact om_c36fd4a9fcac gd gl9 pq565 | omega))) w1308 w1310 w50 w171 w1311 rfl xgMachine hdV_yX5_leave ⟨Nat.le_of_ble_eq_true rfl, Nat.le_of_ble_eq_true rfl⟩ rfl hl.1 rfl (Nat.le_of_ble_eq_true rfl) dX5_goOnClosing_110 ⟨z0, z0⟩) hP hD hK hS hA (fun u567 H locs w568 hP hD hK hS => ?_)
              obtain ⟨V571, L572⟩ := u567
              obtain ⟨hMV571, ajV571, axL572, t569, t570⟩ := w568
              have axL572 : L = L572 := Eq.symm axL572
              subst axL572
              have hP : va_P D vwCl (xw ad kk V571 L Z) H := hP
              have hD : va_D A (xw ad kk V571 L Z) := hD
              have hMV571 : rgd bX V571 := hMV571
              have ajV571 : agr [(5, 6)] [] V558 V571 := ajV571
              have agV571 : agr [(4, 6), (5, 6), (5, 9), (5, 10)] [25, 28, 36, 37, 67, 68, 69, 70, 71, 72, 73, 74, 75, 76, 77, 78, 79, 80, 81, 82, 83, 84, 85] V V571 := agV558.tr ajV571 (by decide) (by decide)
              have t569 : (V571 5 6).toInt = (V558 5 6).toInt - 1 := t569
              have t570 : ((True) ∧ V571 = (up2 V558 5 6 (V558 5 6 - 1))) := t570
              have r573 : 0 ≤ ((V571 5 6)).toInt ∧ ((V571 5 6)).toInt ≤ 400 := hMV571 5 6
              have hw574 := t570.2
              obtain ⟨z575, ez575⟩ : ∃ y : Int32, y = V558 5 6 - 1 := ⟨_, rfl⟩
              have hz575 : z575.toInt = (V558 5 6).toInt - 1 := i_sub ez575 rfl (by decide) (by (first | exact om_70510bf9f0cb gd gl9 sl9 pq565 | omega))
              have hV571 : V571 = up2 V558 5 6 z575 := by rw [hw574, ez575]
              have me576 : ME V V571 gf := (ME.up (ME.up (ME.up (ME.tr ME.rf (ME.ag ajV451 (by decide))) hV564 (Or.inr (by (first | exact om_15c89eee5dc0  | omega)))) hV558 (Or.inr (by omega))) hV571 (Or.inr (by (first | exact om_f481bd0f1cda  | omega))))
              have pq577 : (V571 67 gf).toInt = ((V 67 gf)).toInt := congrArg Int32.toInt ((up2_o hV571 (by decide)).trans ((up2_o hV558 (by decide)).trans ((up2_o hV564 (by decide)).trans (ajV451 67 gf rfl))))
              have pq578 : (V571 68 gf).toInt = ((V 68 gf)).toInt := congrArg Int32.toInt ((up2_o hV571 (by decide)).trans ((up2_o hV558 (by decide)).trans ((up2_o hV564 (by decide)).trans (ajV451 68 gf rfl))))
              have pq579 : (V571 70 gf).toInt = ((V 70 gf)).toInt := congrArg Int32.toInt ((up2_o hV571 (by decide)).trans ((up2_o hV558 (by decide)).trans ((up2_o hV564 (by decide)).trans (ajV451 70 gf rfl))))
              have pq580 : (V571 71 gf).toInt = ((V 71 gf)).toInt := congrArg Int32.toInt ((up2_o hV571 (by decide)).trans ((up2_o hV558 (by decide)).trans ((up2_o hV564 (by decide)).trans (ajV451 71 gf rfl))))
              have pq581 : (V571 75 gf).toInt = ((V 75 gf)).toInt := congrArg Int32.toInt ((up2_o hV571 (by decide)).trans ((up2_o hV558 (by decide)).trans ((up2_o hV564 (by decide)).trans (ajV451 75 gf rfl))))
              have pq582 : (V571 76 gf).toInt = ((V 76 gf)).toInt := congrArg Int32.toInt ((up2_o hV571 (by decide)).trans ((up2_o hV558 (by decide)).trans ((up2_o hV564 (by decide)).trans (ajV451 76 gf rfl))))
              have pq583 : (V571 80 gf).toInt = ((V 80 gf)).toInt := congrArg Int32.toInt ((up2_o hV571 (by decide)).trans ((up2_o hV558 (by decide)).trans ((up2_o hV564 (by decide)).trans (ajV451 80 gf rfl))))
              have pq584 : (V571 84 gf).toInt = ((V 84 gf)).toInt := congrArg Int32.toInt ((up2_o hV571 (by decide)).trans ((up2_o hV558 (by decide)).trans ((up2_o hV564 (by decide)).trans (ajV451 84 gf rfl))))
              have pq585 : (V571 5 6).toInt = z575.toInt := congrArg Int32.toInt (up2_s hV571)
              have pq586 : (V571 5 8).toInt = ((V 5 8)).toInt := congrArg Int32.toInt ((up2_k hV571 (by decide)).trans ((up2_o hV558 (by decide)).trans ((up2_o hV564 (by decide)).trans (ajV451 5 8 rfl))))
              have pq587 : (V571 5 9).toInt = ((V 5 9)).toInt := congrArg Int32.toInt ((up2_k hV571 (by decide)).trans ((up2_o hV558 (by decide)).trans ((up2_o hV564 (by decide)).trans (ajV451 5 9 rfl))))
              have pq588 : (V571 3 13).toInt = ((V 3 13)).toInt := congrArg Int32.toInt ((up2_o hV571 (by decide)).trans ((up2_o hV558 (by decide)).trans ((up2_o hV564 (by decide)).trans (ajV451 3 13 rfl))))
              have pq589 : (V571 43 (5 * b + 2)).toInt = ((V 43 (5 * b + 2))).toInt := congrArg Int32.toInt ((up2_o hV571 (by decide)).trans ((up2_o hV558 (by decide)).trans ((up2_o hV564 (by decide)).trans (ajV451 43 (5 * b + 2) rfl))))
              have pq590 : (V571 42 b).toInt = ((V 42 b)).toInt := congrArg Int32.toInt ((up2_o hV571 (by decide)).trans ((up2_o hV558 (by decide)).trans ((up2_o hV564 (by decide)).trans (ajV451 42 b rfl))))
              have pq591 : (V571 41 b).toInt = ((V 41 b)).toInt := congrArg Int32.toInt ((up2_o hV571 (by decide)).trans ((up2_o hV558 (by decide)).trans ((up2_o hV564 (by decide)).trans (ajV451 41 b rfl))))
              have rp592 : MJ V571 Z b := MP.lv (MO.mp mo) me576 (by (first | exact om_541a228d28bf gd pq565 t569 hz575 pq585 | omega)) (fun _ => Or.inl (by omega))
              have pq593 : (V571 5 11).toInt = ((V 5 11)).toInt := congrArg Int32.toInt ((up2_k hV571 (by decide)).trans ((up2_o hV558 (by decide)).trans ((up2_o hV564 (by decide)).trans (ajV451 5 11 rfl))))
              have pq594 : (V571 5 12).toInt = ((V 5 12)).toInt := congrArg Int32.toInt ((up2_k hV571 (by decide)).trans ((up2_o hV558 (by decide)).trans ((up2_o hV564 (by decide)).trans (ajV451 5 12 rfl))))
              have pq595 : (V571 5 13).toInt = ((V 5 13)).toInt := congrArg Int32.toInt ((up2_k hV571 (by decide)).trans ((up2_o hV558 (by decide)).trans ((up2_o hV564 (by decide)).trans (ajV451 5 13 rfl))))
              have r596 : 0 ≤ ((V 5 13)).toInt ∧ ((V 5 13)).toInt ≤ 3000 := hMV 5 13
              have pq597 : (V571 5 7).toInt = ((V 5 7)).toInt := congrArg Int32.toInt ((up2_k hV571 (by decide)).trans ((up2_o hV558 (by decide)).trans ((up2_o hV564 (by decide)).trans (ajV451 5 7 rfl))))
              have r598 : 0 ≤ ((V 5 7)).toInt ∧ ((V 5 7)).toInt ≤ 2048 := hMV 5 7
              have rh2 : (V 5 11).toInt = gm 0 8 ∧ (V 5 12).toInt = gm 0 9 := rh.2.2.1 (show gm 0 6 = 2 from by (first | exact om_147a8ac6eacb rh1 f442 | omega))
              have rn599 : RWn V451 ow gB (mNote gm o (fst1 (gm 0 8) (gm 0 9))) := RWn.note rn (fun c9 k9 h1 h2 h3 h4 => (ajV451 c9 k9 rfl)) (Or.inr ⟨hc455, (ajV451 4 6 rfl), fun i9 => ⟨(ajV451 36 i9 rfl), (ajV451 37 i9 rfl)⟩⟩)
              have dx9 : (Int32.toNatClampNeg (V 70 gf)) = o.toNat := by have h9 := i_clamp (x := (V 70 gf)) rfl (by (first | exact om_c42429f26483 fo q70 hc560 pq579 | omega)); (first | exact om_cdba46fd13a1 fo q70 hc560 pq579 h9 | omega)
              have do9 : ((o.toNat : Nat) : Int) < (mNote gm o (fst1 (gm 0 8) (gm 0 9))) 0 2 := by rw [mNt_0 (by decide)]; (first | exact om_b313c004abde r8 fo ra2 q70 hc560 pq579 pq588 | omega)
              have db9 := (rn599).2.1 _ do9
              have ds9 : 24 * Int32.toNatClampNeg (V451 27 (Int32.toNatClampNeg (V 70 gf))) + Int32.toNatClampNeg (V451 26 (Int32.toNatClampNeg (V 70 gf))) = 24 * ((mNote gm o (fst1 (gm 0 8) (gm 0 9))) 2 o.toNat).toNat + ((mNote gm o (fst1 (gm 0 8) (gm 0 9))) 1 o.toNat).toNat := by rw [dx9]; have h1 := db9.1.1; have h2 := db9.1.2.1; have h3 := i_clamp (x := V451 27 o.toNat) rfl (by (first | exact om_57a3b3030c68 db9 | omega)); have h4 := i_clamp (x := V451 26 o.toNat) rfl (by (first | exact om_624b0f847349 db9 | omega)); (first | exact om_5319a23bfaa2 db9 h3 h4 | omega)
              have rn600 : RWn V558 ow gB (mU (mNote gm o (fst1 (gm 0 8) (gm 0 9))) 3 o.toNat 2) := RWn.drop rn599 do9 (fun x9 hx9 => (up2_o hV558 (by decide)).trans (up2_k hV564 (by rw [dx9]; exact hx9))) (by rw [← dx9, (up2_o hV558 (by decide)).trans (up2_s hV564)]; decide) (fun k9 hk9 => (up2_k hV558 (by rw [ds9]; exact hk9)).trans (up2_o hV564 (by decide))) (by rw [← ds9, up2_s hV558, if_pos (by rw [← dx9]; have h9 := i_clamp (x := (V 70 gf)) rfl (by (first | exact om_c42429f26483 fo q70 hc560 pq579 | omega)); (first | exact om_31a30e49af65 q70 hc560 pq579 dx9 h9 | omega))]; decide) (fun c9 k9 h1 h2 h3 => ((show V558 c9 k9 = V564 c9 k9 from by rw [hV558]; exact up2_pl (by omega)).trans (show V564 c9 k9 = V451 c9 k9 from by rw [hV564]; exact up2_pl (by omega))))
              have rn601 : RWn V571 ow gB (mU (mNote gm o (fst1 (gm 0 8) (gm 0 9))) 3 o.toNat 2) := RWn.es rn600 (ESw.ag (show agr [(5, 6)] [] V558 V571 from (agr.up agr.rf hV571 rfl)) (by decide))
              have me602 : ME V V571 gf := (ME.up (ME.up (ME.up (ME.tr ME.rf (ME.ag ajV451 (by decide))) hV564 (Or.inr (by (first | exact om_15c89eee5dc0  | omega)))) hV558 (Or.inr (by omega))) hV571 (Or.inr (by (first | exact om_f481bd0f1cda  | omega))))
              have rl603 : RWl V571 gB gr t0 := RWl.mv hlr (fun i9 hi9 c9 h1 h2 => me602.2.1 c9 i9 h1 h2 (by (first | exact om_102b9d22baee gd kdp rd rd2 pq565 t569 hz575 hi9 | omega))) (fun j9 hj9 => ((up2_o hV571 (by decide)).trans ((up2_o hV558 (by decide)).trans ((up2_o hV564 (by decide)).trans (ajV451 39 j9 rfl))))) (by rw [((up2_o hV571 (by decide)).trans ((up2_o hV558 (by decide)).trans ((up2_o hV564 (by decide)).trans (ajV451 3 13 rfl))))]; exact Int.le_refl _) ((up2_o hV571 (by decide)).trans ((up2_o hV558 (by decide)).trans ((up2_o hV564 (by decide)).trans (ajV451 3 12 rfl))))
              have rz9 : RW V571 gB ((mU (mNote gm o (fst1 (gm 0 8) (gm 0 9))) 3 o.toNat 2), ga, gr) := RW.fin rwq rn601 (by rw [mU_o _ _ (by omega), mNt_0 (by decide)]) (fun i9 => (by rw [mU_o _ _ (by omega), mNt_x (by decide) (by decide) (by decide)])) ((up2_k hV571 (by decide)).trans ((up2_o hV558 (by decide)).trans ((up2_o hV564 (by decide)).trans (ajV451 5 8 rfl)))) (fun i9 => ((up2_o hV571 (by decide)).trans ((up2_o hV558 (by decide)).trans ((up2_o hV564 (by decide)).trans (ajV451 40 i9 rfl))))) (by rw [(show (mU (mNote gm o (fst1 (gm 0 8) (gm 0 9))) 3 o.toNat 2) 0 6 = gm 0 6 from by rw [mU_o _ _ (by omega), mNt_0 (by decide)])]; (first | exact om_4aa03bcffe3b rh1 f442 pq587 | omega)) (fun h9 => by rw [(show (mU (mNote gm o (fst1 (gm 0 8) (gm 0 9))) 3 o.toNat 2) 0 6 = gm 0 6 from by rw [mU_o _ _ (by omega), mNt_0 (by decide)])] at h9; exfalso; (first | exact om_8e6f48d55a9e rh1 f442 h9 | omega)) (fun h9 => by rw [mU_o _ _ (by omega), mU_o _ _ (by omega), mNt_0 (by decide), mNt_0 (by decide)]; exact ⟨by have h8 := rh2.1; (first | exact om_c93582d34511 pq593 rh2 | omega), by have h8 := rh2.2; (first | exact om_1d51879d5b6b pq594 rh2 | omega)⟩) (by (first | exact om_0893762427d8 kdp rd rd2 pq565 t569 | omega)) (by rw [((up2_k hV571 (by decide)).trans ((up2_o hV558 (by decide)).trans ((up2_o hV564 (by decide)).trans (ajV451 5 7 rfl)))), rt9, tz9]) rl603
              have rx604 : RW V571 gB (stM gB (gm, ga, gfr :: gr)) := by rw [hfe, (st_17e (show bE gB c.toNat 31 = 0 from by rcases cs9 with h9 | h9; (rw [kc9] at h9; exact h9.2); (exfalso; (first | exact om_230a843bd84f f22 h9 | omega)))).trans (cl_f (by rw [← rh1]; omega))]; exact rz9
              refine W.know (fun kr1 kr2 => ?_)
              refine W.widen (k := zcc Z) (n := zss Z) (Nat.sub_le _ _) (Nat.sub_le _ _) ?_
              exact W.vret hx hb hr (fun t ht hW => ⟨⟨(V571, L, Z), rfl, ⟨hMV571, agV571, rfl, zoZ, rp592, rx604⟩, ⟨by rw [ht]; exact hP, va_K.moved hW.alike hK, hD⟩, by rw [ht]; exact kr1, by rw [ht]; exact kr2⟩, hS.F ht⟩) hS.2.2 dX5_goOnClosing_113
            · skip
              have hV558 : V558 = up2 V451 28 (Int32.toNatClampNeg (V 70 gf)) 2 := by rw [hw563]
              refine lv_aload_n hx hb dX5_goOnClosing_109 rfl (lv_at hl 2 rfl) ?_
              have pq605 : (V558 5 6).toInt = ((V 5 6)).toInt := congrArg Int32.toInt ((up2_o hV558 (by decide)).trans (ajV451 5 6 rfl))
              refine gA_void (gA_runV (As := []) (rest := []) (ci := 5) (q0 := 5) hx hb hml hown hg hP hD hK hS hA hnw hgk (x_leave9 l D ks H.size ad kk V558 L Z  hMV558 (show 1 ≤ (V558 5 6).toInt from by (first | exact om_c36fd4a9fcac gd gl9 pq605 | omega))) w1308 w1310 w50 w171 w1311 rfl xgMachine hdV_yX5_leave ⟨Nat.le_of_ble_eq_true rfl, Nat.le_of_ble_eq_true rfl⟩ rfl hl.1 rfl (Nat.le_of_ble_eq_true rfl) dX5_goOnClosing_110 ⟨z0, z0⟩) hP hD hK hS hA (fun u607 H locs w608 hP hD hK hS => ?_)
              obtain ⟨V611, L612⟩ := u607
              obtain ⟨hMV611, ajV611, axL612, t609, t610⟩ := w608
              have axL612 : L = L612 := Eq.symm axL612
              subst axL612
              have hP : va_P D vwCl (xw ad kk V611 L Z) H := hP
              have hD : va_D A (xw ad kk V611 L Z) := hD
              have hMV611 : rgd bX V611 := hMV611
              have ajV611 : agr [(5, 6)] [] V558 V611 := ajV611
              have agV611 : agr [(4, 6), (5, 6), (5, 9), (5, 10)] [25, 28, 36, 37, 67, 68, 69, 70, 71, 72, 73, 74, 75, 76, 77, 78, 79, 80, 81, 82, 83, 84, 85] V V611 := agV558.tr ajV611 (by decide) (by decide)
              have t609 : (V611 5 6).toInt = (V558 5 6).toInt - 1 := t609
              have t610 : ((True) ∧ V611 = (up2 V558 5 6 (V558 5 6 - 1))) := t610
              have r613 : 0 ≤ ((V611 5 6)).toInt ∧ ((V611 5 6)).toInt ≤ 400 := hMV611 5 6
              have hw614 := t610.2
              obtain ⟨z615, ez615⟩ : ∃ y : Int32, y = V558 5 6 - 1 := ⟨_, rfl⟩
              have hz615 : z615.toInt = (V558 5 6).toInt - 1 := i_sub ez615 rfl (by decide) (by (first | exact om_70510bf9f0cb gd gl9 sl9 pq605 | omega))
              have hV611 : V611 = up2 V558 5 6 z615 := by rw [hw614, ez615]
              have me616 : ME V V611 gf := (ME.up (ME.up (ME.tr ME.rf (ME.ag ajV451 (by decide))) hV558 (Or.inr (by (first | exact om_15c89eee5dc0  | omega)))) hV611 (Or.inr (by (first | exact om_f481bd0f1cda  | omega))))
              have pq617 : (V611 67 gf).toInt = ((V 67 gf)).toInt := congrArg Int32.toInt ((up2_o hV611 (by decide)).trans ((up2_o hV558 (by decide)).trans (ajV451 67 gf rfl)))
              have pq618 : (V611 68 gf).toInt = ((V 68 gf)).toInt := congrArg Int32.toInt ((up2_o hV611 (by decide)).trans ((up2_o hV558 (by decide)).trans (ajV451 68 gf rfl)))
              have pq619 : (V611 70 gf).toInt = ((V 70 gf)).toInt := congrArg Int32.toInt ((up2_o hV611 (by decide)).trans ((up2_o hV558 (by decide)).trans (ajV451 70 gf rfl)))
              have pq620 : (V611 71 gf).toInt = ((V 71 gf)).toInt := congrArg Int32.toInt ((up2_o hV611 (by decide)).trans ((up2_o hV558 (by decide)).trans (ajV451 71 gf rfl)))
              have pq621 : (V611 75 gf).toInt = ((V 75 gf)).toInt := congrArg Int32.toInt ((up2_o hV611 (by decide)).trans ((up2_o hV558 (by decide)).trans (ajV451 75 gf rfl)))
              have pq622 : (V611 76 gf).toInt = ((V 76 gf)).toInt := congrArg Int32.toInt ((up2_o hV611 (by decide)).trans ((up2_o hV558 (by decide)).trans (ajV451 76 gf rfl)))
              have pq623 : (V611 80 gf).toInt = ((V 80 gf)).toInt := congrArg Int32.toInt ((up2_o hV611 (by decide)).trans ((up2_o hV558 (by decide)).trans (ajV451 80 gf rfl)))
              have pq624 : (V611 84 gf).toInt = ((V 84 gf)).toInt := congrArg Int32.toInt ((up2_o hV611 (by decide)).trans ((up2_o hV558 (by decide)).trans (ajV451 84 gf rfl)))
              have pq625 : (V611 5 6).toInt = z615.toInt := congrArg Int32.toInt (up2_s hV611)
              have pq626 : (V611 5 8).toInt = ((V 5 8)).toInt := congrArg Int32.toInt ((up2_k hV611 (by decide)).trans ((up2_o hV558 (by decide)).trans (ajV451 5 8 rfl)))
              have pq627 : (V611 5 9).toInt = ((V 5 9)).toInt := congrArg Int32.toInt ((up2_k hV611 (by decide)).trans ((up2_o hV558 (by decide)).trans (ajV451 5 9 rfl)))
              have pq628 : (V611 3 13).toInt = ((V 3 13)).toInt := congrArg Int32.toInt ((up2_o hV611 (by decide)).trans ((up2_o hV558 (by decide)).trans (ajV451 3 13 rfl)))
              have pq629 : (V611 43 (5 * b + 2)).toInt = ((V 43 (5 * b + 2))).toInt := congrArg Int32.toInt ((up2_o hV611 (by decide)).trans ((up2_o hV558 (by decide)).trans (ajV451 43 (5 * b + 2) rfl)))
              have pq630 : (V611 42 b).toInt = ((V 42 b)).toInt := congrArg Int32.toInt ((up2_o hV611 (by decide)).trans ((up2_o hV558 (by decide)).trans (ajV451 42 b rfl)))
              have pq631 : (V611 41 b).toInt = ((V 41 b)).toInt := congrArg Int32.toInt ((up2_o hV611 (by decide)).trans ((up2_o hV558 (by decide)).trans (ajV451 41 b rfl)))
              have rp632 : MJ V611 Z b := MP.lv (MO.mp mo) me616 (by (first | exact om_541a228d28bf gd pq605 t609 hz615 pq625 | omega)) (fun _ => Or.inl (by omega))
              have pq633 : (V611 5 11).toInt = ((V 5 11)).toInt := congrArg Int32.toInt ((up2_k hV611 (by decide)).trans ((up2_o hV558 (by decide)).trans (ajV451 5 11 rfl)))
              have pq634 : (V611 5 12).toInt = ((V 5 12)).toInt := congrArg Int32.toInt ((up2_k hV611 (by decide)).trans ((up2_o hV558 (by decide)).trans (ajV451 5 12 rfl)))
              have pq635 : (V611 5 13).toInt = ((V 5 13)).toInt := congrArg Int32.toInt ((up2_k hV611 (by decide)).trans ((up2_o hV558 (by decide)).trans (ajV451 5 13 rfl)))
              have r636 : 0 ≤ ((V 5 13)).toInt ∧ ((V 5 13)).toInt ≤ 3000 := hMV 5 13
              have pq637 : (V611 5 7).toInt = ((V 5 7)).toInt := congrArg Int32.toInt ((up2_k hV611 (by decide)).trans ((up2_o hV558 (by decide)).trans (ajV451 5 7 rfl)))
              have r638 : 0 ≤ ((V 5 7)).toInt ∧ ((V 5 7)).toInt ≤ 2048 := hMV 5 7
              have rh2 : (V 5 11).toInt = gm 0 8 ∧ (V 5 12).toInt = gm 0 9 := rh.2.2.1 (show gm 0 6 = 2 from by (first | exact om_147a8ac6eacb rh1 f442 | omega))
              have rn639 : RWn V451 ow gB (mNote gm o (fst1 (gm 0 8) (gm 0 9))) := RWn.note rn (fun c9 k9 h1 h2 h3 h4 => (ajV451 c9 k9 rfl)) (Or.inr ⟨hc455, (ajV451 4 6 rfl), fun i9 => ⟨(ajV451 36 i9 rfl), (ajV451 37 i9 rfl)⟩⟩)
              have dx9 : (Int32.toNatClampNeg (V 70 gf)) = o.toNat := by have h9 := i_clamp (x := (V 70 gf)) rfl (by (first | exact om_2996291ce4c2 fo q70 pq619 | omega)); (first | exact om_6acf0db861ed fo q70 pq619 h9 | omega)
              have do9 : ((o.toNat : Nat) : Int) < (mNote gm o (fst1 (gm 0 8) (gm 0 9))) 0 2 := by rw [mNt_0 (by decide)]; (first | exact om_5b0e08f69870 r8 fo ra2 q70 pq619 pq628 | omega)
              have db9 := (rn639).2.1 _ do9
              have ds9 : 24 * Int32.toNatClampNeg (V451 27 (Int32.toNatClampNeg (V 70 gf))) + Int32.toNatClampNeg (V451 26 (Int32.toNatClampNeg (V 70 gf))) = 24 * ((mNote gm o (fst1 (gm 0 8) (gm 0 9))) 2 o.toNat).toNat + ((mNote gm o (fst1 (gm 0 8) (gm 0 9))) 1 o.toNat).toNat := by rw [dx9]; have h1 := db9.1.1; have h2 := db9.1.2.1; have h3 := i_clamp (x := V451 27 o.toNat) rfl (by (first | exact om_57a3b3030c68 db9 | omega)); have h4 := i_clamp (x := V451 26 o.toNat) rfl (by (first | exact om_624b0f847349 db9 | omega)); (first | exact om_5319a23bfaa2 db9 h3 h4 | omega)
              have rn640 : RWn V558 ow gB (mU (mNote gm o (fst1 (gm 0 8) (gm 0 9))) 3 o.toNat 2) := RWn.drop rn639 do9 (fun x9 hx9 => up2_k hV558 (by rw [dx9]; exact hx9)) (by rw [← dx9, up2_s hV558]; decide) (fun k9 _ => up2_o hV558 (by decide)) (by rw [← ds9, up2_o hV558 (by decide), if_neg (by rw [← dx9]; have h9 := i_clamp (x := (V 70 gf)) rfl (by (first | exact om_2996291ce4c2 fo q70 pq619 | omega)); omega)]) (fun c9 k9 h1 h2 h3 => (show V558 c9 k9 = V451 c9 k9 from by rw [hV558]; exact up2_pl (by omega)))
              have rn641 : RWn V611 ow gB (mU (mNote gm o (fst1 (gm 0 8) (gm 0 9))) 3 o.toNat 2) := RWn.es rn640 (ESw.ag (show agr [(5, 6)] [] V558 V611 from (agr.up agr.rf hV611 rfl)) (by decide))
              have me642 : ME V V611 gf := (ME.up (ME.up (ME.tr ME.rf (ME.ag ajV451 (by decide))) hV558 (Or.inr (by (first | exact om_15c89eee5dc0  | omega)))) hV611 (Or.inr (by (first | exact om_f481bd0f1cda  | omega))))
              have rl643 : RWl V611 gB gr t0 := RWl.mv hlr (fun i9 hi9 c9 h1 h2 => me642.2.1 c9 i9 h1 h2 (by (first | exact om_102b9d22baee gd kdp rd rd2 pq605 t609 hz615 hi9 | omega))) (fun j9 hj9 => ((up2_o hV611 (by decide)).trans ((up2_o hV558 (by decide)).trans (ajV451 39 j9 rfl)))) (by rw [((up2_o hV611 (by decide)).trans ((up2_o hV558 (by decide)).trans (ajV451 3 13 rfl)))]; exact Int.le_refl _) ((up2_o hV611 (by decide)).trans ((up2_o hV558 (by decide)).trans (ajV451 3 12 rfl)))
              have rz9 : RW V611 gB ((mU (mNote gm o (fst1 (gm 0 8) (gm 0 9))) 3 o.toNat 2), ga, gr) := RW.fin rwq rn641 (by rw [mU_o _ _ (by omega), mNt_0 (by decide)]) (fun i9 => (by rw [mU_o _ _ (by omega), mNt_x (by decide) (by decide) (by decide)])) ((up2_k hV611 (by decide)).trans ((up2_o hV558 (by decide)).trans (ajV451 5 8 rfl))) (fun i9 => ((up2_o hV611 (by decide)).trans ((up2_o hV558 (by decide)).trans (ajV451 40 i9 rfl)))) (by rw [(show (mU (mNote gm o (fst1 (gm 0 8) (gm 0 9))) 3 o.toNat 2) 0 6 = gm 0 6 from by rw [mU_o _ _ (by omega), mNt_0 (by decide)])]; (first | exact om_4aa03bcffe3b rh1 f442 pq627 | omega)) (fun h9 => by rw [(show (mU (mNote gm o (fst1 (gm 0 8) (gm 0 9))) 3 o.toNat 2) 0 6 = gm 0 6 from by rw [mU_o _ _ (by omega), mNt_0 (by decide)])] at h9; exfalso; (first | exact om_8e6f48d55a9e rh1 f442 h9 | omega)) (fun h9 => by rw [mU_o _ _ (by omega), mU_o _ _ (by omega), mNt_0 (by decide), mNt_0 (by decide)]; exact ⟨by have h8 := rh2.1; (first | exact om_c93582d34511 pq633 rh2 | omega), by have h8 := rh2.2; (first | exact om_1d51879d5b6b pq634 rh2 | omega)⟩) (by (first | exact om_0893762427d8 kdp rd rd2 pq605 t609 | omega)) (by rw [((up2_k hV611 (by decide)).trans ((up2_o hV558 (by decide)).trans (ajV451 5 7 rfl))), rt9, tz9]) rl643
              have rx644 : RW V611 gB (stM gB (gm, ga, gfr :: gr)) := by rw [hfe, (st_17e (show bE gB c.toNat 31 = 0 from by rcases cs9 with h9 | h9; (rw [kc9] at h9; exact h9.2); (exfalso; (first | exact om_230a843bd84f f22 h9 | omega)))).trans (cl_f (by rw [← rh1]; omega))]; exact rz9
              refine W.know (fun kr1 kr2 => ?_)
              refine W.widen (k := zcc Z) (n := zss Z) (Nat.sub_le _ _) (Nat.sub_le _ _) ?_
              exact W.vret hx hb hr (fun t ht hW => ⟨⟨(V611, L, Z), rfl, ⟨hMV611, agV611, rfl, zoZ, rp632, rx644⟩, ⟨by rw [ht]; exact hP, va_K.moved hW.alike hK, hD⟩, by rw [ht]; exact kr1, by rw [ht]; exact kr2⟩, hS.F ht⟩) hS.2.2 dX5_goOnClosing_113
      · skip
        have f645 : ((V 57 (24 * b + (Int32.toNatClampNeg (V 71 gf))))).toInt ≠ (-1) := b_neq rfl (by decide) c21
        have kcc := i_clamp (x := V 71 gf) rfl (by (first | exact om_50dfdfbb9dc6 kc15 | omega))
        have htx := (mup.2.1.1 (Int32.toNatClampNeg (V 71 gf)) (by (first | exact om_467610b9b17e fc q71 kc15 | omega))).2.1
        have hgs := htx.resolve_left (by omega)
        refine lv_aload_n hx hb dX5_goOnClosing_28 rfl (lv_at hl 2 rfl) ?_
        refine lv_iconst (v := 1) hx hb dX5_goOnClosing_29 (by decide) ?_
        refine va_putN (D := D) (ci := 4) (v := .int 1) (ty := tyX4 1) (fs := (xfFrame V gf)) (C := RX4) (T := TX4) (N := 19) hx hb hg inX4 tyX4 tyX4_ok nmX4 hown hK hP hD hS (336 + gf) (xgFrame hgf) rfl 1 (by decide) (hnw.use 1190 n1190 rfl) (fun _ h9 => h9) rfl (tyX4_ok 1 (by decide)) rfl rfl (Nat.le_of_ble_eq_true rfl) dX5_goOnClosing_30 (fun H locs hP hD hS => ?_)
        obtain ⟨V646, hV646⟩ : ∃ z, z = up2 V 68 gf 1 := ⟨_, rfl⟩
        have ew647 : (xw ad kk V L Z).set (336 + gf) ((Z.fa gf), .inr (4, (xfFrame V gf).set 1 (.int 1))) = xw ad kk V646 L Z := by rw [hV646]; exact xpFrame_phase hgf
        have hP : va_P D vwCl (xw ad kk V646 L Z) H := by rw [← ew647]; exact hP
        have hD : va_D A (xw ad kk V646 L Z) := by rw [← ew647]; exact hD
        have hMV646 : rgd bX V646 := hMV.put hV646 (i_full _)
        have agV646 : agr [(4, 6), (5, 6), (5, 9), (5, 10)] [25, 28, 36, 37, 67, 68, 69, 70, 71, 72, 73, 74, 75, 76, 77, 78, 79, 80, 81, 82, 83, 84, 85] V V646 := agV.up hV646 rfl
        refine lv_aload_n hx hb dX5_goOnClosing_33 rfl (lv_at hl 1 rfl) ?_
        refine lv_aload_n hx hb dX5_goOnClosing_34 rfl (lv_at hl 2 rfl) ?_
        refine lv_iload_n hx hb dX5_goOnClosing_35 rfl (lv_at hl 0 rfl) ?_
        refine lv_iconst (v := 0) hx hb dX5_goOnClosing_36 (by decide) ?_
        have r648 : Int32.toInt 0 = 0 := by decide
        have pq649 : (V646 71 gf).toInt = ((V 71 gf)).toInt := congrArg Int32.toInt (up2_o hV646 (by decide))
        have pq650 : (V646 43 (5 * b + 2)).toInt = ((V 43 (5 * b + 2))).toInt := congrArg Int32.toInt (up2_o hV646 (by decide))
        have pq651 : (V646 3 13).toInt = ((V 3 13)).toInt := congrArg Int32.toInt (up2_o hV646 (by decide))
        have pq652 : (V646 70 gf).toInt = ((V 70 gf)).toInt := congrArg Int32.toInt (up2_o hV646 (by decide))
        have me653 : ME V V646 gf := (ME.up ME.rf hV646 (Or.inl ⟨by decide, by decide, Nat.le_refl _⟩))
        have pq654 : (V646 67 gf).toInt = ((V 67 gf)).toInt := congrArg Int32.toInt (up2_o hV646 (by decide))
        have pq655 : (V646 68 gf).toInt = 1 := (congrArg Int32.toInt (up2_s hV646)).trans (by decide)
        have pq656 : (V646 75 gf).toInt = ((V 75 gf)).toInt := congrArg Int32.toInt (up2_o hV646 (by decide))
        have pq657 : (V646 76 gf).toInt = ((V 76 gf)).toInt := congrArg Int32.toInt (up2_o hV646 (by decide))
        have pq658 : (V646 80 gf).toInt = ((V 80 gf)).toInt := congrArg Int32.toInt (up2_o hV646 (by decide))
        have pq659 : (V646 84 gf).toInt = ((V 84 gf)).toInt := congrArg Int32.toInt (up2_o hV646 (by decide))
        have pq660 : (V646 5 6).toInt = ((V 5 6)).toInt := congrArg Int32.toInt (up2_o hV646 (by decide))
        have pq661 : (V646 5 8).toInt = ((V 5 8)).toInt := congrArg Int32.toInt (up2_o hV646 (by decide))
        have pq662 : (V646 5 9).toInt = ((V 5 9)).toInt := congrArg Int32.toInt (up2_o hV646 (by decide))
        have pq663 : (V646 42 b).toInt = ((V 42 b)).toInt := congrArg Int32.toInt (up2_o hV646 (by decide))
        have pq664 : (V646 41 b).toInt = ((V 41 b)).toInt := congrArg Int32.toInt (up2_o hV646 (by decide))
        have mo665 : MO V646 Z b gf True True True := MO.ch mo me653 (up2_o hV646 (by decide)) (up2_o hV646 (by decide)) (fun _ => Or.inl (by omega)) (fun x h => FK.k5 (by (first | exact om_f67437ca6037 k67 pq654 | omega)) (by (first | exact om_465e31d30807 r2 fc q71 kc15 pq649 pq650 | omega)) (by (first | exact om_48c11495e94c fo ra2 q70 pq651 pq652 | omega)))
        have mt666 : MT V646 Z b := MO.mt mo665 (by (first | exact om_c09d41618ed8 hgf | omega)) (by (first | exact om_82fa09255765 gd pq660 | omega))
        have me667 : ME V V646 0 := (ME.up ME.rf hV646 (Or.inl ⟨by decide, by decide, by (first | exact om_c9a7d7f72290 gd r1 kdp rd rd2 sl9 pq660 | omega)⟩))
        have ha668 : (V646 42 b).toInt ≤ ((V 57 (24 * b + (Int32.toNatClampNeg (V 71 gf))))).toInt ∨ (bdp V646 b (((V 57 (24 * b + (Int32.toNatClampNeg (V 71 gf))))).toInt).toNat).1 = true := by rw [me667.1.bd, me667.1 42 b (by decide) (by decide)]; exact gs.fk hgs (hMV 42 b).2
        refine W.know (fun k670 k671 => ?_)
        obtain ⟨Hk669, hHk669⟩ : ∃ z, z = H := ⟨_, rfl⟩
        have k670 : Hk669.size ≤ s.heap.size + (zcc Z - zcc Z) := by rw [hHk669]; exact k670
        have k671 : tot Hk669 ≤ tot s.heap + (zss Z - zss Z) := by rw [hHk669]; exact k671
        refine gZ_ref (gA_runV (As := [.ref (Z.fa gf), .int (V 57 (24 * b + (Int32.toNatClampNeg (V 71 gf)))), .int 0]) (rest := []) (ci := 5) (q0 := 5) hx hb hml hown hg hP hD hK hS hA hnw hgk (x_pushWork9 l D ks H.size ad kk V646 L Z (V 57 (24 * b + (Int32.toNatClampNeg (V 71 gf)))) 0 (b) (gf) hMV646 (by (first | exact om_986471d62c0d r17.1 r17.2 f645 | omega)) (show b < 2 from by (first | exact om_f940a4667dd6 hb2 | omega)) (show gf < Z.nf from by (first | exact om_8c5722e49bb1 hgf | omega)) mt666 (show 0 ≤ (V646 71 gf).toInt ∧ (V646 71 gf).toInt < (V646 43 (5 * b + 2)).toInt from by (first | exact om_465e31d30807 r2 fc q71 kc15 pq649 pq650 | omega)) (show 0 ≤ (V646 70 gf).toInt ∧ (V646 70 gf).toInt < (V646 3 13).toInt from by (first | exact om_48c11495e94c fo ra2 q70 pq651 pq652 | omega)) ha668) w1376 w1378 w57 w171 w1379 rfl xgMachine hdV_yX5_pushWork ⟨Nat.le_of_ble_eq_true rfl, Nat.le_of_ble_eq_true rfl⟩ rfl hl.1 rfl (Nat.le_of_ble_eq_true rfl) dX5_goOnClosing_37 ⟨z1 zoZ.1, z1 zoZ.2.1⟩) hD hS hA (fun u673 H locs w674 hP hD hK hS y675 y676 => ?_)
        obtain ⟨V677, L678, Z679, f680⟩ := u673
        obtain ⟨hMV677, ajV677, axL678, zlZ679, ilf680, t681, t682, t683, t684, t685⟩ := w674
        have axL678 : L = L678 := Eq.symm axL678
        subst axL678
        have hP : va_P D vwCl (xw ad kk V677 L Z679) H := hP
        have hD : va_D A (xw ad kk V677 L Z679) := hD
        have hK : va_K D vwCl (xty kk Z679) s := hK
        have hMV677 : rgd bX V677 := hMV677
        have ajV677 : agr [(5, 6), (5, 9)] [67, 68, 69, 70, 71, 72, 73, 74, 75, 76, 77, 78, 79, 80, 81, 82, 83, 84, 85] V646 V677 := ajV677
        have agV677 : agr [(4, 6), (5, 6), (5, 9), (5, 10)] [25, 28, 36, 37, 67, 68, 69, 70, 71, 72, 73, 74, 75, 76, 77, 78, 79, 80, 81, 82, 83, 84, 85] V V677 := agV646.tr ajV677 (by decide) (by decide)
        have zlZ679 : ZL Z Z679 := zlZ679
        have zoZ679 : ZL Z Z679 := ZL.tr zoZ zlZ679
        have ziZ679 := zlZ679.1
        have zjZ679 := zlZ679.2.1
        have zkZ679 := zlZ679.2.2.1
        have zmZ679 := zoZ679.1
        have znZ679 := zoZ679.2.1
        have zpZ_Z679 := zoZ.1
        have zqZ_Z679 := zoZ.2.1
        have y675 : H.size ≤ Hk669.size + (zcc Z - zcc Z679) := by rw [hHk669]; exact y675
        have y676 : tot H ≤ tot Hk669 + (zss Z - zss Z679) := by rw [hHk669]; exact y676
        refine W.tight (k := zcc Z - zcc Z679) (n := zss Z - zss Z679) (by first | exact tg9 y675 k670 zlZ679.1 zoZ.1 | omega) (by first | exact tg9 y676 k671 zlZ679.2.1 zoZ.2.1 | omega) ?_
        have hl : lv_has ls 4 [(2, .int (V 57 (24 * b + (Int32.toNatClampNeg (V 71 gf))))), (0, .ref (ad 5)), (1, .ref (Z679.fa gf))] := by rw [zlZ679.2.2.2.2 gf hgf]; exact hl
        have ilf680 : f680 < Z679.nf := ilf680
        have t681 : MJ V677 Z679 b := t681
        have t682 : (f680 : Int) + 1 = (V677 5 6).toInt := t682
        have t683 : (V677 67 f680).toInt = 4 ∧ (V677 68 f680).toInt = 0 := t683
        have t684 : (V677 5 9).toInt = 0 := t684
        have t685 : Imp ((V646 5 6).toInt < 400 ∧ (gf : Int) < (V646 5 6).toInt) (PWk V646 V677 gf ((V646 5 6).toInt.toNat) (V 57 (24 * b + (Int32.toNatClampNeg (V 71 gf)))) 0) := t685
        have r686 : 0 ≤ ((V677 5 6)).toInt ∧ ((V677 5 6)).toInt ≤ 400 := hMV677 5 6
        have r687 : 0 ≤ ((V677 5 9)).toInt ∧ ((V677 5 9)).toInt ≤ 3 := hMV677 5 9
        refine lv_pop hx hb dX5_goOnClosing_40 rfl ?_
        have pw := Imp.go t685 ⟨by (first | exact om_8c4987203dea gd r1 kdp rd rd2 sl9 pq660 | omega), by (first | exact om_ad89da6ade58 gd kdp rd rd2 pq660 | omega)⟩
        have pi9 : (V646 5 6).toInt.toNat = gr.length + 1 := by (first | exact om_e14d89dbab7d gd gl9 pq660 | omega)
        rw [pi9] at pw
        obtain ⟨⟨pd1, pd2, pke⟩, ⟨pk1, pk2⟩, ⟨p69, p70, p71, p72, p73⟩, pag, pat, pba, pps⟩ := pw
        have wr688 : (V677 3 13).toInt = (V 3 13).toInt := congrArg Int32.toInt ((ajV677 3 13 rfl).trans (up2_o hV646 (by decide)))
        have wr689 : (V677 3 12).toInt = (V 3 12).toInt := congrArg Int32.toInt ((ajV677 3 12 rfl).trans (up2_o hV646 (by decide)))
        have wr690 : (V677 67 gf).toInt = ((V 67 gf)).toInt := (congrArg Int32.toInt ((pke gf (by (first | exact om_c9f168eff5a6 gd kdp rd rd2 | omega)) 67 (by decide) (by decide)).trans (up2_o hV646 (by decide))))
        have wr691 : (V677 68 gf).toInt = 1 := (congrArg Int32.toInt ((pke gf (by (first | exact om_c9f168eff5a6 gd kdp rd rd2 | omega)) 68 (by decide) (by decide)).trans (up2_s hV646))).trans (by decide)
        have wr692 : (V677 69 gf).toInt = ((V 69 gf)).toInt := (congrArg Int32.toInt ((pke gf (by (first | exact om_c9f168eff5a6 gd kdp rd rd2 | omega)) 69 (by decide) (by decide)).trans (up2_o hV646 (by decide))))
        have wr693 : (V677 70 gf).toInt = ((V 70 gf)).toInt := (congrArg Int32.toInt ((pke gf (by (first | exact om_c9f168eff5a6 gd kdp rd rd2 | omega)) 70 (by decide) (by decide)).trans (up2_o hV646 (by decide))))
        have wr694 : (V677 71 gf).toInt = ((V 71 gf)).toInt := (congrArg Int32.toInt ((pke gf (by (first | exact om_c9f168eff5a6 gd kdp rd rd2 | omega)) 71 (by decide) (by decide)).trans (up2_o hV646 (by decide))))
        have wr695 : (V677 72 gf).toInt = ((V 72 gf)).toInt := (congrArg Int32.toInt ((pke gf (by (first | exact om_c9f168eff5a6 gd kdp rd rd2 | omega)) 72 (by decide) (by decide)).trans (up2_o hV646 (by decide))))
        have wr696 : (V677 69 (gr.length + 1)).toInt = ((V 69 gf)).toInt := (congrArg Int32.toInt (p69.trans (up2_o hV646 (by decide))))
        have wr697 : (V677 70 (gr.length + 1)).toInt = ((V 70 gf)).toInt := (congrArg Int32.toInt (p70.trans (up2_o hV646 (by decide))))
        have wr698 : (V677 71 (gr.length + 1)).toInt = ((V 71 gf)).toInt := (congrArg Int32.toInt (p71.trans (up2_o hV646 (by decide))))
        have wr699 : (V677 72 (gr.length + 1)).toInt = ((V 72 gf)).toInt := (congrArg Int32.toInt (p72.trans (up2_o hV646 (by decide))))
        have me700 : ME V V646 gf := (ME.up ME.rf hV646 (Or.inl ⟨by decide, by decide, Nat.le_refl _⟩))
        have rl701 : RWl V677 gB gr t0 := RWl.mv hlr (fun i9 hi9 c9 h1 h2 => ((pke i9 (by (first | exact om_7f53476936c1 kdp rd rd2 pq660 pi9 hi9 | omega)) c9 h1 h2)).trans (me700.2.1 c9 i9 h1 h2 (by (first | exact om_a8f73b8e7cf4 gd kdp rd rd2 pq660 pi9 hi9 | omega)))) (fun j9 hj9 => ((ajV677 39 j9 rfl).trans (up2_o hV646 (by decide)))) (by rw [((ajV677 3 13 rfl).trans (up2_o hV646 (by decide)))]; exact Int.le_refl _) ((ajV677 3 12 rfl).trans (up2_o hV646 (by decide)))
        have cs8 := cs9.resolve_left (fun h9 => by have h8 := h9.1; (first | exact om_33dd6fcd5b95 gd r1 kdp r12 rd rd2 sl9 f645 pq660 pq663 ha668 ziZ679 zjZ679 pi9 h9 | omega))
        rw [kc9] at cs8
        have fb9 : FRc V677 gB gr.length (Fclo1 lv o c sc) := by rw [gl9]; exact ⟨⟨by (first | exact om_4366ab523688 k67 wr690 | omega), by omega⟩, ⟨by (first | exact om_cd7d0a6a31bc q69 wr692 | omega), ⟨by (first | exact om_25a0d8f2ad9d q70 pq652 wr693 | omega), by omega, by (first | exact om_08fccd1b2dd4 fo ra2 q70 pq651 pq652 wr688 wr693 wr697 | omega)⟩, ⟨by (first | exact om_24e60037d59c q71 kc15 pq649 wr694 | omega), by omega, by omega⟩, ⟨by (first | exact om_cd7d0a6a31bc q72 wr695 | omega), by omega, by omega⟩⟩⟩
        have ft9 : FRc V677 gB (gr.length + 1) (Fwork lv o c sc 0 0 ((bE gB c.toNat 31 - 1 : Nat) : Int) 0 []) := ⟨⟨pk1, pk2⟩, ⟨by (first | exact om_25a0d8f2ad9d q69 wr692 wr696 | omega), ⟨by (first | exact om_6ba44aa2159d q70 pq652 wr693 wr697 | omega), by omega, by (first | exact om_08fccd1b2dd4 fo ra2 q70 pq651 pq652 wr688 wr693 wr697 | omega)⟩, ⟨by (first | exact om_e4527fc52457 q71 kc15 pq649 wr694 wr698 | omega), by omega, by omega⟩, ⟨by (first | exact om_25a0d8f2ad9d q72 wr695 wr699 | omega), by omega, by omega⟩⟩, (fun h9 => absurd h9 (by decide)), ⟨Int.natCast_nonneg _, (show (V677 84 (gr.length + 1)).toInt = ((psz (opf gB.1) (bE gB c.toNat 31 - 1) : Nat) : Int) from by rw [pat]; have h9 := cs8.2; rw [← kc9] at h9 ⊢; omega)⟩, pag⟩
        have pq702 : (V677 5 7).toInt = ((V 5 7)).toInt := congrArg Int32.toInt ((ajV677 5 7 rfl).trans (up2_o hV646 (by decide)))
        have r703 : 0 ≤ ((V 5 7)).toInt ∧ ((V 5 7)).toInt ≤ 2048 := hMV 5 7
        have rz9 : RW V677 gB (mU gm 0 6 0, ga, Fwork lv o c sc 0 0 ((bE gB c.toNat 31 - 1 : Nat) : Int) 0 [] :: Fclo1 lv o c sc :: gr) := RW.sgn rwq (ESw.ag (show agr [(5, 6), (5, 9)] [67, 68, 69, 70, 71, 72, 73, 74, 75, 76, 77, 78, 79, 80, 81, 82, 83, 84, 85] V V677 from (agr.tr (agr.up agr.rf hV646 rfl) ajV677 (by decide) (by decide))) (by decide)) pd2 (fun h9 => absurd h9 (by decide)) (fun h9 => absurd h9 (by decide)) (show (V677 5 6).toInt = ((gr.length + 1 + 1 : Nat) : Int) from by (first | exact om_ea487894bae3 kdp rd rd2 pq660 pi9 pd1 | omega)) (show (V677 5 7).toInt = ((t0 : Nat) : Int) from by rw [(show agr [(5, 6), (5, 9)] [67, 68, 69, 70, 71, 72, 73, 74, 75, 76, 77, 78, 79, 80, 81, 82, 83, 84, 85] V V677 from (agr.tr (agr.up agr.rf hV646 rfl) ajV677 (by decide) (by decide))) 5 7 rfl, rt9, tz9]) (RWl.push (RWl.push rl701 fb9 rfl (np9 rfl)) ft9 rfl (fun _ _ => (show (V677 85 (gr.length + 1)).toInt = ((t0 : Nat) : Int) from by rw [pba, (up2_o hV646 (by decide)), rt9, tz9])))
        have rx704 : RW V677 gB (stM gB (gm, ga, gfr :: gr)) := by rw [hfe, st_17w cs8.1]; exact rz9
        refine W.know (fun kr1 kr2 => ?_)
        refine W.widen (k := zcc Z) (n := zss Z) (Nat.sub_le _ _) (Nat.sub_le _ _) ?_
        exact W.vret hx hb hr (fun t ht hW => ⟨⟨(V677, L, Z679), rfl, ⟨hMV677, agV677, rfl, zoZ679, t681, rx704⟩, ⟨by rw [ht]; exact hP, va_K.moved hW.alike hK, hD⟩, by rw [ht]; exact kr1, by rw [ht]; exact kr2⟩, hS.F ht⟩) hS.2.2 dX5_goOnClosing_41
  · skip
    have hf : FRc V gB gf (Fclo1 lv o c sc) := by rw [← hfe]; exact hf0
    have tl8 : tw9 = t0 + (Fclo1 lv o c sc : Fr).2.2.2.length := by rw [← hfe]; exact tl9
    obtain ⟨⟨k67, k68⟩, hoc⟩ := hf
    obtain ⟨q69, ⟨q70, o0, o1⟩, ⟨q71, c0, c1⟩, ⟨q72, s0, s1⟩⟩ := hoc
    have cn9 : c.toNat < nC gB := by (first | exact om_51a08a25bfb6 r2 fc q71 c1 | omega)
    have kc9 : Int32.toNatClampNeg (V 71 gf) = c.toNat := by have h9 := i_clamp (x := V 71 gf) rfl (by (first | exact om_762d7ad45f4b r2 fc q71 | omega)); (first | exact om_57d2b76748c0 r2 fc q71 h9 | omega)
    have tz9 : tw9 = t0 := tl8
    refine lv_aload_n hx hb dX5_goOnClosing_0 rfl (lv_at hl 0 rfl) ?_
    refine va_get (D := D) (ci := 5) (v := .ref (ad (38 + Int32.toNatClampNeg (V 5 5)))) (fs := (xfMachine ad V L Z)) (C := RX5) (T := TX5) (N := 15) hx hb hg inX5 hown hK hP 5 xgMachine rfl 5 (by decide) (hg _ w672) (fun _ h9 => h9) rfl dX5_goOnClosing_1 ?_
    have r705 : 0 ≤ ((V 5 5)).toInt ∧ ((V 5 5)).toInt ≤ 1 := hMV 5 5
    refine g_topv (v := .ref (ad (38 + b))) (rfP (by omega)) ?_
    refine va_getN (D := D) (ci := 0) (v := .ref (ad (64 + b))) (fs := (xfBook ad V b)) (C := RX0) (T := TX0) (N := 13) hx hb hg inX0 hown hK hP (38 + b) (xgBook hb2) rfl 7 (by decide) (hnw.use 618 n618 rfl) (fun _ h9 => h9) rfl dX5_goOnClosing_4 ?_
    refine lv_aload_n hx hb dX5_goOnClosing_7 rfl (lv_at hl 1 rfl) ?_
    refine va_getN (D := D) (ci := 4) (v := .int (V 71 gf)) (fs := (xfFrame V gf)) (C := RX4) (T := TX4) (N := 19) hx hb hg inX4 hown hK hP (336 + gf) (xgFrame hgf) rfl 4 (by decide) (hnw.use 1193 n1193 rfl) (fun _ h9 => h9) rfl dX5_goOnClosing_8 ?_
    have il706 : b < 2 := by (first | exact om_f940a4667dd6 hb2 | omega)
    refine va_aldq (D := D) (i := (V 71 gf)) hx hb hK hP (64 + b) (57 + b) (xgcomps il706) (xtcomps il706) (i_in (a := ((V 71 gf)).toInt) rfl (by (first | exact om_fc4cbdd683ed r2 fc q71 | omega))) dX5_goOnClosing_11 ?_
    have kc707 := i_clamp (x := (V 71 gf)) rfl (by (first | exact om_762d7ad45f4b r2 fc q71 | omega))
    refine g_topv (v := .ref (ad (72 + (24 * b + (Int32.toNatClampNeg (V 71 gf)))))) (congrArg va_rf (if_pos (by (first | exact om_05bceae62c6b r2 fc q71 kc707 | omega)))) ?_
    have il708 : (24 * b + (Int32.toNatClampNeg (V 71 gf))) < 48 := by (first | exact om_31a61188bc78 hb2 r2.2 kc707 | omega)
    refine va_getN (D := D) (ci := 3) (v := .int (V 57 (24 * b + (Int32.toNatClampNeg (V 71 gf))))) (fs := (xfComp ad V (24 * b + (Int32.toNatClampNeg (V 71 gf))))) (C := RX3) (T := TX3) (N := 13) hx hb hg inX3 hown hK hP (72 + (24 * b + (Int32.toNatClampNeg (V 71 gf)))) (xgComp il708) rfl 12 (by decide) (hnw.use 542 n542 rfl) (fun _ h9 => h9) rfl dX5_goOnClosing_12 ?_
    have r709 : (-1) ≤ ((V 57 (24 * b + (Int32.toNatClampNeg (V 71 gf))))).toInt ∧ ((V 57 (24 * b + (Int32.toNatClampNeg (V 71 gf))))).toInt ≤ 8200 := hMV 57 (24 * b + (Int32.toNatClampNeg (V 71 gf)))
    refine lv_istore_n (lv' := [(2, .int (V 57 (24 * b + (Int32.toNatClampNeg (V 71 gf))))), (0, .ref (ad 5)), (1, .ref (Z.fa gf))]) hx hb dX5_goOnClosing_15 rfl hl (by decide) rfl (fun ls hl => ?_)
    have cs9 := BKc.cs bc cn9
    rw [← kc9] at cs9
    refine lv_aload_n hx hb dX5_goOnClosing_16 rfl (lv_at hl 2 rfl) ?_
    refine va_getN (D := D) (ci := 4) (v := .int (V 68 gf)) (fs := (xfFrame V gf)) (C := RX4) (T := TX4) (N := 19) hx hb hg inX4 hown hK hP (336 + gf) (xgFrame hgf) rfl 1 (by decide) (hnw.use 1190 n1190 rfl) (fun _ h9 => h9) rfl dX5_goOnClosing_17 ?_
    refine lv_if_ne (tgt := 42) hx hb dX5_goOnClosing_20 (by decide) (fun c710 => ?_) (fun c710 => ?_)
    · skip
      have f711 : ((V 68 gf)).toInt ≠ 0 := b_neq rfl (by decide) c710
      refine lv_iconst (v := 0) hx hb dX5_goOnClosing_42 (by decide) ?_
      refine lv_istore_n (lv' := [(3, .int 0), (2, .int (V 57 (24 * b + (Int32.toNatClampNeg (V 71 gf))))), (0, .ref (ad 5)), (1, .ref (Z.fa gf))]) hx hb dX5_goOnClosing_43 rfl hl (by decide) rfl (fun ls hl => ?_)
      refine lv_aload_n hx hb dX5_goOnClosing_44 rfl (lv_at hl 2 rfl) ?_
      refine va_get (D := D) (ci := 5) (v := .int (V 5 9)) (fs := (xfMachine ad V L Z)) (C := RX5) (T := TX5) (N := 15) hx hb hg inX5 hown hK hP 5 xgMachine rfl 9 (by decide) (hg _ w676) (fun _ h9 => h9) rfl dX5_goOnClosing_45 ?_
      refine lv_iconst (v := 2) hx hb dX5_goOnClosing_48 (by decide) ?_
      refine lv_icmp_ne (tgt := 67) hx hb dX5_goOnClosing_49 (by decide) (fun c712 => ?_) (fun c712 => ?_)
      · skip
        have f713 : ((V 5 9)).toInt ≠ 2 := b_neq rfl (by decide) c712
        refine lv_aload_n hx hb dX5_goOnClosing_67 rfl (lv_at hl 2 rfl) ?_
        refine va_get (D := D) (ci := 5) (v := .int (V 5 9)) (fs := (xfMachine ad V L Z)) (C := RX5) (T := TX5) (N := 15) hx hb hg inX5 hown hK hP 5 xgMachine rfl 9 (by decide) (hg _ w676) (fun _ h9 => h9) rfl dX5_goOnClosing_68 ?_
        refine lv_iconst (v := 3) hx hb dX5_goOnClosing_71 (by decide) ?_
        refine lv_icmp_ne (tgt := 81) hx hb dX5_goOnClosing_72 (by decide) (fun c714 => ?_) (fun c714 => ?_)
        · skip
          have f715 : ((V 5 9)).toInt ≠ 3 := b_neq rfl (by decide) c714
          refine lv_aload_n hx hb dX5_goOnClosing_81 rfl (lv_at hl 2 rfl) ?_
          refine lv_iconst (v := 0) hx hb dX5_goOnClosing_82 (by decide) ?_
          have r716 : Int32.toInt 0 = 0 := by decide
          refine gA_void (gA_runV (As := [.int 0]) (rest := []) (ci := 5) (q0 := 5) hx hb hml hown hg hP hD hK hS hA hnw hgk (x_answerWith9 l D ks H.size ad kk V L Z 0 hMV ) w1304 w1306 w49 w171 w1307 rfl xgMachine hdV_yX5_answerWith ⟨Nat.le_of_ble_eq_true rfl, Nat.le_of_ble_eq_true rfl⟩ rfl hl.1 rfl (Nat.le_of_ble_eq_true rfl) dX5_goOnClosing_83 ⟨z0, z0⟩) hP hD hK hS hA (fun u718 H locs w719 hP hD hK hS => ?_)
          obtain ⟨V723, L724⟩ := u718
          obtain ⟨hMV723, ajV723, axL724, t720, t721, t722⟩ := w719
          have axL724 : L = L724 := Eq.symm axL724
          subst axL724
          have hP : va_P D vwCl (xw ad kk V723 L Z) H := hP
          have hD : va_D A (xw ad kk V723 L Z) := hD
          have hMV723 : rgd bX V723 := hMV723
          have ajV723 : agr [(5, 9), (5, 10)] [] V V723 := ajV723
          have agV723 : agr [(4, 6), (5, 6), (5, 9), (5, 10)] [25, 28, 36, 37, 67, 68, 69, 70, 71, 72, 73, 74, 75, 76, 77, 78, 79, 80, 81, 82, 83, 84, 85] V V723 := agV.tr ajV723 (by decide) (by decide)
          have t720 : (V723 5 9).toInt = 1 := t720
          have t721 : (V723 5 10).toInt = (Int32.toInt 0) := t721
          have t722 : ((True) ∧ V723 = (up2 (up2 V 5 9 1) 5 10 0)) := t722
          have r725 : 0 ≤ ((V723 5 9)).toInt ∧ ((V723 5 9)).toInt ≤ 3 := hMV723 5 9
          have hw726 := t722.2
          obtain ⟨V727, hV727⟩ : ∃ z, z = up2 V 5 9 1 := ⟨_, rfl⟩
          have hV723 : V723 = up2 V727 5 10 0 := by rw [hw726, hV727]
          refine lv_aload_n hx hb dX5_goOnClosing_86 rfl (lv_at hl 2 rfl) ?_
          refine va_get (D := D) (ci := 5) (v := .ref (ad 4)) (fs := (xfMachine ad V723 L Z)) (C := RX5) (T := TX5) (N := 15) hx hb hg inX5 hown hK hP 5 xgMachine rfl 1 (by decide) (hg _ w668) (fun _ h9 => h9) rfl dX5_goOnClosing_87 ?_
          refine lv_aload_n hx hb dX5_goOnClosing_90 rfl (lv_at hl 3 rfl) ?_
          refine va_getN (D := D) (ci := 4) (v := .int (V723 70 gf)) (fs := (xfFrame V723 gf)) (C := RX4) (T := TX4) (N := 19) hx hb hg inX4 hown hK hP (336 + gf) (xgFrame hgf) rfl 3 (by decide) (hnw.use 1192 n1192 rfl) (fun _ h9 => h9) rfl dX5_goOnClosing_91 ?_
          refine g_top (v := (V 70 gf)) ((up2_o hV723 (by decide)).trans (up2_o hV727 (by decide))) ?_
          refine lv_iload_n hx hb dX5_goOnClosing_94 rfl (lv_at hl 0 rfl) ?_
          refine gA_void (gA_runV (As := [.int (V 70 gf), .int 0]) (rest := []) (ci := 7) (q0 := 4) hx hb hml hown hg hP hD hK hS hA hnw hgk (x_noteClosing9 l D ks H.size ad kk V723 L Z (V 70 gf) 0 hMV723 ) w1497 w1498 w1499 w166 w1500 rfl xgNotes hdV_yX7_noteClosing ⟨Nat.le_of_ble_eq_true rfl, Nat.le_of_ble_eq_true rfl⟩ rfl hl.1 rfl (Nat.le_of_ble_eq_true rfl) dX5_goOnClosing_95 ⟨z0, z0⟩) hP hD hK hS hA (fun u729 H locs w730 hP hD hK hS => ?_)
          obtain ⟨V732, L733⟩ := u729
          obtain ⟨hMV732, ajV732, axL733, t731⟩ := w730
          have axL733 : L = L733 := Eq.symm axL733
          subst axL733
          have hP : va_P D vwCl (xw ad kk V732 L Z) H := hP
          have hD : va_D A (xw ad kk V732 L Z) := hD
          have hMV732 : rgd bX V732 := hMV732
          have ajV732 : agr [(4, 6)] [36, 37] V723 V732 := ajV732
          have agV732 : agr [(4, 6), (5, 6), (5, 9), (5, 10)] [25, 28, 36, 37, 67, 68, 69, 70, 71, 72, 73, 74, 75, 76, 77, 78, 79, 80, 81, 82, 83, 84, 85] V V732 := agV723.tr ajV732 (by decide) (by decide)
          have t731 : (((V723 4 6).toInt < 300) ∧ V732 = (up2 (up2 (up2 V723 36 (Int32.toNatClampNeg (V723 4 6)) (V 70 gf)) 37 (Int32.toNatClampNeg (V723 4 6)) 0) 4 6 (V723 4 6 + 1))) ∨ ((300 ≤ (V723 4 6).toInt) ∧ V732 = V723) := t731
          rcases t731 with ⟨hc734, hw735⟩ | ⟨hc736, hw737⟩
          · skip
            obtain ⟨V738, hV738⟩ : ∃ z, z = up2 V723 36 (Int32.toNatClampNeg (V723 4 6)) (V 70 gf) := ⟨_, rfl⟩
            obtain ⟨V739, hV739⟩ : ∃ z, z = up2 V738 37 (Int32.toNatClampNeg (V723 4 6)) 0 := ⟨_, rfl⟩
            have pq741 : (V723 4 6).toInt = ((V 4 6)).toInt := congrArg Int32.toInt ((up2_o hV723 (by decide)).trans (up2_o hV727 (by decide)))
            have r742 : 0 ≤ ((V 4 6)).toInt ∧ ((V 4 6)).toInt ≤ 300 := hMV 4 6
            obtain ⟨z740, ez740⟩ : ∃ y : Int32, y = V723 4 6 + 1 := ⟨_, rfl⟩
            have hz740 : z740.toInt = (V723 4 6).toInt + 1 := i_add ez740 rfl (by decide) (by (first | exact om_10ca3b530507 pq741 r742.1 r742.2 | omega))
            have hV732 : V732 = up2 V739 4 6 z740 := by rw [hw735, hV739, hV738, ez740]
            refine lv_aload_n hx hb dX5_goOnClosing_98 rfl (lv_at hl 2 rfl) ?_
            refine va_get (D := D) (ci := 5) (v := .ref (ad 3)) (fs := (xfMachine ad V732 L Z)) (C := RX5) (T := TX5) (N := 15) hx hb hg inX5 hown hK hP 5 xgMachine rfl 0 (by decide) (hg _ w667) (fun _ h9 => h9) rfl dX5_goOnClosing_99 ?_
            refine lv_aload_n hx hb dX5_goOnClosing_102 rfl (lv_at hl 3 rfl) ?_
            refine va_getN (D := D) (ci := 4) (v := .int (V732 70 gf)) (fs := (xfFrame V732 gf)) (C := RX4) (T := TX4) (N := 19) hx hb hg inX4 hown hK hP (336 + gf) (xgFrame hgf) rfl 3 (by decide) (hnw.use 1192 n1192 rfl) (fun _ h9 => h9) rfl dX5_goOnClosing_103 ?_
            refine g_top (v := (V 70 gf)) ((up2_o hV732 (by decide)).trans ((up2_o hV739 (by decide)).trans ((up2_o hV738 (by decide)).trans ((up2_o hV723 (by decide)).trans (up2_o hV727 (by decide)))))) ?_
            refine gA_void (gA_runV (As := [.int (V 70 gf)]) (rest := []) (ci := 8) (q0 := 3) hx hb hml hown hg hP hD hK hS hA hnw hgk (x_dropObject9 l D ks H.size ad kk V732 L Z (V 70 gf) hMV732 (by (first | exact om_d0c9b7046452 r8 fo ra2 q70 | omega))) w1336 w1337 w1338 w164 w1339 rfl xgStock hdV_yX8_dropObject ⟨Nat.le_of_ble_eq_true rfl, Nat.le_of_ble_eq_true rfl⟩ rfl hl.1 rfl (Nat.le_of_ble_eq_true rfl) dX5_goOnClosing_106 ⟨z0, z0⟩) hP hD hK hS hA (fun u744 H locs w745 hP hD hK hS => ?_)
            obtain ⟨V748, L749⟩ := u744
            obtain ⟨hMV748, ajV748, axL749, t746, t747⟩ := w745
            have axL749 : L = L749 := Eq.symm axL749
            subst axL749
            have hP : va_P D vwCl (xw ad kk V748 L Z) H := hP
            have hD : va_D A (xw ad kk V748 L Z) := hD
            have hMV748 : rgd bX V748 := hMV748
            have ajV748 : agr [] [25, 28] V732 V748 := ajV748
            have agV748 : agr [(4, 6), (5, 6), (5, 9), (5, 10)] [25, 28, 36, 37, 67, 68, 69, 70, 71, 72, 73, 74, 75, 76, 77, 78, 79, 80, 81, 82, 83, 84, 85] V V748 := agV732.tr ajV748 (by decide) (by decide)
            have t746 : ∀ n, ME V732 V748 n := t746
            have t747 : (((V732 25 (24 * Int32.toNatClampNeg (V732 27 (Int32.toNatClampNeg (V 70 gf))) + Int32.toNatClampNeg (V732 26 (Int32.toNatClampNeg (V 70 gf))))).toInt = ((V 70 gf)).toInt) ∧ V748 = (up2 (up2 V732 28 (Int32.toNatClampNeg (V 70 gf)) 2) 25 (24 * Int32.toNatClampNeg (V732 27 (Int32.toNatClampNeg (V 70 gf))) + Int32.toNatClampNeg (V732 26 (Int32.toNatClampNeg (V 70 gf)))) (-1))) ∨ (((V732 25 (24 * Int32.toNatClampNeg (V732 27 (Int32.toNatClampNeg (V 70 gf))) + Int32.toNatClampNeg (V732 26 (Int32.toNatClampNeg (V 70 gf))))).toInt ≠ ((V 70 gf)).toInt) ∧ V748 = (up2 V732 28 (Int32.toNatClampNeg (V 70 gf)) 2)) := t747
            rcases t747 with ⟨hc750, hw751⟩ | ⟨hc752, hw753⟩
            · skip
              obtain ⟨V754, hV754⟩ : ∃ z, z = up2 V732 28 (Int32.toNatClampNeg (V 70 gf)) 2 := ⟨_, rfl⟩
              have hV748 : V748 = up2 V754 25 (24 * Int32.toNatClampNeg (V732 27 (Int32.toNatClampNeg (V 70 gf))) + Int32.toNatClampNeg (V732 26 (Int32.toNatClampNeg (V 70 gf)))) (-1) := by rw [hw751, hV754]
              refine lv_aload_n hx hb dX5_goOnClosing_109 rfl (lv_at hl 2 rfl) ?_
              have pq755 : (V748 5 6).toInt = ((V 5 6)).toInt := congrArg Int32.toInt ((up2_o hV748 (by decide)).trans ((up2_o hV754 (by decide)).trans ((up2_o hV732 (by decide)).trans ((up2_o hV739 (by decide)).trans ((up2_o hV738 (by decide)).trans ((up2_k hV723 (by decide)).trans (up2_k hV727 (by decide))))))))
              refine gA_void (gA_runV (As := []) (rest := []) (ci := 5) (q0 := 5) hx hb hml hown hg hP hD hK hS hA hnw hgk (x_leave9 l D ks H.size ad kk V748 L Z  hMV748 (show 1 ≤ (V748 5 6).toInt from by (first | exact om_c36fd4a9fcac gd gl9 pq755 | omega))) w1308 w1310 w50 w171 w1311 rfl xgMachine hdV_yX5_leave ⟨Nat.le_of_ble_eq_true rfl, Nat.le_of_ble_eq_true rfl⟩ rfl hl.1 rfl (Nat.le_of_ble_eq_true rfl) dX5_goOnClosing_110 ⟨z0, z0⟩) hP hD hK hS hA (fun u757 H locs w758 hP hD hK hS => ?_)
              obtain ⟨V761, L762⟩ := u757
              obtain ⟨hMV761, ajV761, axL762, t759, t760⟩ := w758
              have axL762 : L = L762 := Eq.symm axL762
              subst axL762
              have hP : va_P D vwCl (xw ad kk V761 L Z) H := hP
              have hD : va_D A (xw ad kk V761 L Z) := hD
              have hMV761 : rgd bX V761 := hMV761
              have ajV761 : agr [(5, 6)] [] V748 V761 := ajV761
              have agV761 : agr [(4, 6), (5, 6), (5, 9), (5, 10)] [25, 28, 36, 37, 67, 68, 69, 70, 71, 72, 73, 74, 75, 76, 77, 78, 79, 80, 81, 82, 83, 84, 85] V V761 := agV748.tr ajV761 (by decide) (by decide)
              have t759 : (V761 5 6).toInt = (V748 5 6).toInt - 1 := t759
              have t760 : ((True) ∧ V761 = (up2 V748 5 6 (V748 5 6 - 1))) := t760
              have r763 : 0 ≤ ((V761 5 6)).toInt ∧ ((V761 5 6)).toInt ≤ 400 := hMV761 5 6
              have hw764 := t760.2
              obtain ⟨z765, ez765⟩ : ∃ y : Int32, y = V748 5 6 - 1 := ⟨_, rfl⟩
              have hz765 : z765.toInt = (V748 5 6).toInt - 1 := i_sub ez765 rfl (by decide) (by (first | exact om_70510bf9f0cb gd gl9 sl9 pq755 | omega))
              have hV761 : V761 = up2 V748 5 6 z765 := by rw [hw764, ez765]
              have me766 : ME V V761 gf := (ME.up (ME.up (ME.up (ME.up (ME.up (ME.up (ME.up (ME.up ME.rf hV727 (Or.inr (by (first | exact om_620f5006bfaa  | omega)))) hV723 (Or.inr (by (first | exact om_f41a5f4a8afd  | omega)))) hV738 (Or.inr (by (first | exact om_cafd1137c917  | omega)))) hV739 (Or.inr (by (first | exact om_c9c9e20ea0d3  | omega)))) hV732 (Or.inr (by (first | exact om_5d9c67e1ed13  | omega)))) hV754 (Or.inr (by (first | exact om_15c89eee5dc0  | omega)))) hV748 (Or.inr (by omega))) hV761 (Or.inr (by (first | exact om_f481bd0f1cda  | omega))))
              have pq767 : (V761 67 gf).toInt = ((V 67 gf)).toInt := congrArg Int32.toInt ((up2_o hV761 (by decide)).trans ((up2_o hV748 (by decide)).trans ((up2_o hV754 (by decide)).trans ((up2_o hV732 (by decide)).trans ((up2_o hV739 (by decide)).trans ((up2_o hV738 (by decide)).trans ((up2_o hV723 (by decide)).trans (up2_o hV727 (by decide)))))))))
              have pq768 : (V761 68 gf).toInt = ((V 68 gf)).toInt := congrArg Int32.toInt ((up2_o hV761 (by decide)).trans ((up2_o hV748 (by decide)).trans ((up2_o hV754 (by decide)).trans ((up2_o hV732 (by decide)).trans ((up2_o hV739 (by decide)).trans ((up2_o hV738 (by decide)).trans ((up2_o hV723 (by decide)).trans (up2_o hV727 (by decide)))))))))
              have pq769 : (V761 70 gf).toInt = ((V 70 gf)).toInt := congrArg Int32.toInt ((up2_o hV761 (by decide)).trans ((up2_o hV748 (by decide)).trans ((up2_o hV754 (by decide)).trans ((up2_o hV732 (by decide)).trans ((up2_o hV739 (by decide)).trans ((up2_o hV738 (by decide)).trans ((up2_o hV723 (by decide)).trans (up2_o hV727 (by decide)))))))))
              have pq770 : (V761 71 gf).toInt = ((V 71 gf)).toInt := congrArg Int32.toInt ((up2_o hV761 (by decide)).trans ((up2_o hV748 (by decide)).trans ((up2_o hV754 (by decide)).trans ((up2_o hV732 (by decide)).trans ((up2_o hV739 (by decide)).trans ((up2_o hV738 (by decide)).trans ((up2_o hV723 (by decide)).trans (up2_o hV727 (by decide)))))))))
              have pq771 : (V761 75 gf).toInt = ((V 75 gf)).toInt := congrArg Int32.toInt ((up2_o hV761 (by decide)).trans ((up2_o hV748 (by decide)).trans ((up2_o hV754 (by decide)).trans ((up2_o hV732 (by decide)).trans ((up2_o hV739 (by decide)).trans ((up2_o hV738 (by decide)).trans ((up2_o hV723 (by decide)).trans (up2_o hV727 (by decide)))))))))
              have pq772 : (V761 76 gf).toInt = ((V 76 gf)).toInt := congrArg Int32.toInt ((up2_o hV761 (by decide)).trans ((up2_o hV748 (by decide)).trans ((up2_o hV754 (by decide)).trans ((up2_o hV732 (by decide)).trans ((up2_o hV739 (by decide)).trans ((up2_o hV738 (by decide)).trans ((up2_o hV723 (by decide)).trans (up2_o hV727 (by decide)))))))))
              have pq773 : (V761 80 gf).toInt = ((V 80 gf)).toInt := congrArg Int32.toInt ((up2_o hV761 (by decide)).trans ((up2_o hV748 (by decide)).trans ((up2_o hV754 (by decide)).trans ((up2_o hV732 (by decide)).trans ((up2_o hV739 (by decide)).trans ((up2_o hV738 (by decide)).trans ((up2_o hV723 (by decide)).trans (up2_o hV727 (by decide)))))))))
              have pq774 : (V761 84 gf).toInt = ((V 84 gf)).toInt := congrArg Int32.toInt ((up2_o hV761 (by decide)).trans ((up2_o hV748 (by decide)).trans ((up2_o hV754 (by decide)).trans ((up2_o hV732 (by decide)).trans ((up2_o hV739 (by decide)).trans ((up2_o hV738 (by decide)).trans ((up2_o hV723 (by decide)).trans (up2_o hV727 (by decide)))))))))
              have pq775 : (V761 5 6).toInt = z765.toInt := congrArg Int32.toInt (up2_s hV761)
              have pq776 : (V761 5 8).toInt = ((V 5 8)).toInt := congrArg Int32.toInt ((up2_k hV761 (by decide)).trans ((up2_o hV748 (by decide)).trans ((up2_o hV754 (by decide)).trans ((up2_o hV732 (by decide)).trans ((up2_o hV739 (by decide)).trans ((up2_o hV738 (by decide)).trans ((up2_k hV723 (by decide)).trans (up2_k hV727 (by decide)))))))))
              have pq777 : (V761 5 9).toInt = 1 := (congrArg Int32.toInt ((up2_k hV761 (by decide)).trans ((up2_o hV748 (by decide)).trans ((up2_o hV754 (by decide)).trans ((up2_o hV732 (by decide)).trans ((up2_o hV739 (by decide)).trans ((up2_o hV738 (by decide)).trans ((up2_k hV723 (by decide)).trans (up2_s hV727))))))))).trans (by decide)
              have pq778 : (V761 3 13).toInt = ((V 3 13)).toInt := congrArg Int32.toInt ((up2_o hV761 (by decide)).trans ((up2_o hV748 (by decide)).trans ((up2_o hV754 (by decide)).trans ((up2_o hV732 (by decide)).trans ((up2_o hV739 (by decide)).trans ((up2_o hV738 (by decide)).trans ((up2_o hV723 (by decide)).trans (up2_o hV727 (by decide)))))))))
              have pq779 : (V761 43 (5 * b + 2)).toInt = ((V 43 (5 * b + 2))).toInt := congrArg Int32.toInt ((up2_o hV761 (by decide)).trans ((up2_o hV748 (by decide)).trans ((up2_o hV754 (by decide)).trans ((up2_o hV732 (by decide)).trans ((up2_o hV739 (by decide)).trans ((up2_o hV738 (by decide)).trans ((up2_o hV723 (by decide)).trans (up2_o hV727 (by decide)))))))))
              have pq780 : (V761 42 b).toInt = ((V 42 b)).toInt := congrArg Int32.toInt ((up2_o hV761 (by decide)).trans ((up2_o hV748 (by decide)).trans ((up2_o hV754 (by decide)).trans ((up2_o hV732 (by decide)).trans ((up2_o hV739 (by decide)).trans ((up2_o hV738 (by decide)).trans ((up2_o hV723 (by decide)).trans (up2_o hV727 (by decide)))))))))
              have pq781 : (V761 41 b).toInt = ((V 41 b)).toInt := congrArg Int32.toInt ((up2_o hV761 (by decide)).trans ((up2_o hV748 (by decide)).trans ((up2_o hV754 (by decide)).trans ((up2_o hV732 (by decide)).trans ((up2_o hV739 (by decide)).trans ((up2_o hV738 (by decide)).trans ((up2_o hV723 (by decide)).trans (up2_o hV727 (by decide)))))))))
              have rp782 : MJ V761 Z b := MP.lv (MO.mp mo) me766 (by (first | exact om_541a228d28bf gd pq755 t759 hz765 pq775 | omega)) (fun _ => Or.inl (by omega))
              have pq783 : (V761 5 11).toInt = ((V 5 11)).toInt := congrArg Int32.toInt ((up2_k hV761 (by decide)).trans ((up2_o hV748 (by decide)).trans ((up2_o hV754 (by decide)).trans ((up2_o hV732 (by decide)).trans ((up2_o hV739 (by decide)).trans ((up2_o hV738 (by decide)).trans ((up2_k hV723 (by decide)).trans (up2_k hV727 (by decide)))))))))
              have pq784 : (V761 5 12).toInt = ((V 5 12)).toInt := congrArg Int32.toInt ((up2_k hV761 (by decide)).trans ((up2_o hV748 (by decide)).trans ((up2_o hV754 (by decide)).trans ((up2_o hV732 (by decide)).trans ((up2_o hV739 (by decide)).trans ((up2_o hV738 (by decide)).trans ((up2_k hV723 (by decide)).trans (up2_k hV727 (by decide)))))))))
              have pq785 : (V761 5 13).toInt = ((V 5 13)).toInt := congrArg Int32.toInt ((up2_k hV761 (by decide)).trans ((up2_o hV748 (by decide)).trans ((up2_o hV754 (by decide)).trans ((up2_o hV732 (by decide)).trans ((up2_o hV739 (by decide)).trans ((up2_o hV738 (by decide)).trans ((up2_k hV723 (by decide)).trans (up2_k hV727 (by decide)))))))))
              have r786 : 0 ≤ ((V 5 13)).toInt ∧ ((V 5 13)).toInt ≤ 3000 := hMV 5 13
              have pq787 : (V761 5 7).toInt = ((V 5 7)).toInt := congrArg Int32.toInt ((up2_k hV761 (by decide)).trans ((up2_o hV748 (by decide)).trans ((up2_o hV754 (by decide)).trans ((up2_o hV732 (by decide)).trans ((up2_o hV739 (by decide)).trans ((up2_o hV738 (by decide)).trans ((up2_k hV723 (by decide)).trans (up2_k hV727 (by decide)))))))))
              have r788 : 0 ≤ ((V 5 7)).toInt ∧ ((V 5 7)).toInt ≤ 2048 := hMV 5 7
              have rn789 : RWn V723 ow gB gm := RWn.es rn (ESw.ag (show agr [(5, 9), (5, 10)] [] V V723 from (agr.up (agr.up agr.rf hV727 rfl) hV723 rfl)) (by decide))
              have rn790 : RWn V732 ow gB (mNote gm o 0) := RWn.note rn789 (fun c9 k9 h1 h2 h3 h4 => ((show V732 c9 k9 = V739 c9 k9 from by rw [hV732]; exact up2_pl (by omega)).trans ((show V739 c9 k9 = V738 c9 k9 from by rw [hV739]; exact up2_pl (by omega)).trans (show V738 c9 k9 = V723 c9 k9 from by rw [hV738]; exact up2_pl (by omega))))) (Or.inl ⟨hc734, (by rw [up2_s hV732]; exact hz740), (fun i9 hi9 => ⟨(up2_o hV732 (by decide)).trans ((up2_o hV739 (by decide)).trans (up2_k hV738 hi9)), (up2_o hV732 (by decide)).trans ((up2_k hV739 hi9).trans (up2_o hV738 (by decide)))⟩), (show (V732 36 (Int32.toNatClampNeg (V723 4 6))).toInt = o from by rw [(up2_o hV732 (by decide)).trans ((up2_o hV739 (by decide)).trans (up2_s hV738))]; exact q70), (show (V732 37 (Int32.toNatClampNeg (V723 4 6))).toInt = 0 from by rw [(up2_o hV732 (by decide)).trans (up2_s hV739)]; decide)⟩)
              have dx9 : (Int32.toNatClampNeg (V 70 gf)) = o.toNat := by have h9 := i_clamp (x := (V 70 gf)) rfl (by (first | exact om_c42429f26483 fo q70 hc750 pq769 | omega)); (first | exact om_cdba46fd13a1 fo q70 hc750 pq769 h9 | omega)
              have do9 : ((o.toNat : Nat) : Int) < (mNote gm o 0) 0 2 := by rw [mNt_0 (by decide)]; (first | exact om_b313c004abde r8 fo ra2 q70 hc750 pq769 pq778 | omega)
              have db9 := (rn790).2.1 _ do9
              have ds9 : 24 * Int32.toNatClampNeg (V732 27 (Int32.toNatClampNeg (V 70 gf))) + Int32.toNatClampNeg (V732 26 (Int32.toNatClampNeg (V 70 gf))) = 24 * ((mNote gm o 0) 2 o.toNat).toNat + ((mNote gm o 0) 1 o.toNat).toNat := by rw [dx9]; have h1 := db9.1.1; have h2 := db9.1.2.1; have h3 := i_clamp (x := V732 27 o.toNat) rfl (by (first | exact om_57a3b3030c68 db9 | omega)); have h4 := i_clamp (x := V732 26 o.toNat) rfl (by (first | exact om_624b0f847349 db9 | omega)); (first | exact om_5319a23bfaa2 db9 h3 h4 | omega)
              have rn791 : RWn V748 ow gB (mU (mNote gm o 0) 3 o.toNat 2) := RWn.drop rn790 do9 (fun x9 hx9 => (up2_o hV748 (by decide)).trans (up2_k hV754 (by rw [dx9]; exact hx9))) (by rw [← dx9, (up2_o hV748 (by decide)).trans (up2_s hV754)]; decide) (fun k9 hk9 => (up2_k hV748 (by rw [ds9]; exact hk9)).trans (up2_o hV754 (by decide))) (by rw [← ds9, up2_s hV748, if_pos (by rw [← dx9]; have h9 := i_clamp (x := (V 70 gf)) rfl (by (first | exact om_c42429f26483 fo q70 hc750 pq769 | omega)); (first | exact om_31a30e49af65 q70 hc750 pq769 dx9 h9 | omega))]; decide) (fun c9 k9 h1 h2 h3 => ((show V748 c9 k9 = V754 c9 k9 from by rw [hV748]; exact up2_pl (by omega)).trans (show V754 c9 k9 = V732 c9 k9 from by rw [hV754]; exact up2_pl (by omega))))
              have rn792 : RWn V761 ow gB (mU (mNote gm o 0) 3 o.toNat 2) := RWn.es rn791 (ESw.ag (show agr [(5, 6)] [] V748 V761 from (agr.up agr.rf hV761 rfl)) (by decide))
              have me793 : ME V V761 gf := (ME.up (ME.up (ME.up (ME.up (ME.up (ME.up (ME.up (ME.up ME.rf hV727 (Or.inr (by (first | exact om_620f5006bfaa  | omega)))) hV723 (Or.inr (by (first | exact om_f41a5f4a8afd  | omega)))) hV738 (Or.inr (by (first | exact om_cafd1137c917  | omega)))) hV739 (Or.inr (by (first | exact om_c9c9e20ea0d3  | omega)))) hV732 (Or.inr (by (first | exact om_5d9c67e1ed13  | omega)))) hV754 (Or.inr (by (first | exact om_15c89eee5dc0  | omega)))) hV748 (Or.inr (by omega))) hV761 (Or.inr (by (first | exact om_f481bd0f1cda  | omega))))
              have rl794 : RWl V761 gB gr t0 := RWl.mv hlr (fun i9 hi9 c9 h1 h2 => me793.2.1 c9 i9 h1 h2 (by (first | exact om_102b9d22baee gd kdp rd rd2 pq755 t759 hz765 hi9 | omega))) (fun j9 hj9 => ((up2_o hV761 (by decide)).trans ((up2_o hV748 (by decide)).trans ((up2_o hV754 (by decide)).trans ((up2_o hV732 (by decide)).trans ((up2_o hV739 (by decide)).trans ((up2_o hV738 (by decide)).trans ((up2_o hV723 (by decide)).trans (up2_o hV727 (by decide)))))))))) (by rw [((up2_o hV761 (by decide)).trans ((up2_o hV748 (by decide)).trans ((up2_o hV754 (by decide)).trans ((up2_o hV732 (by decide)).trans ((up2_o hV739 (by decide)).trans ((up2_o hV738 (by decide)).trans ((up2_o hV723 (by decide)).trans (up2_o hV727 (by decide)))))))))]; exact Int.le_refl _) ((up2_o hV761 (by decide)).trans ((up2_o hV748 (by decide)).trans ((up2_o hV754 (by decide)).trans ((up2_o hV732 (by decide)).trans ((up2_o hV739 (by decide)).trans ((up2_o hV738 (by decide)).trans ((up2_o hV723 (by decide)).trans (up2_o hV727 (by decide)))))))))
              have rf9 : RWn V761 ow gB (mU (mU (mNote gm o 0) 3 o.toNat 2) 0 6 1) := RWn.mv rn792 (fun j9 hj9 => mU_06 (Or.inr (by omega))) (fun x9 j9 hx9 _ => mU_06 (Or.inl hx9)) (fun _ => rfl) rfl rfl rfl (fun _ _ _ _ _ => rfl)
              have rz9 : RW V761 gB ((mU (mU (mNote gm o 0) 3 o.toNat 2) 0 6 1), 0, gr) := RW.fin rwq rf9 (by rw [mU_06 (Or.inr (by decide))]; rw [mU_o _ _ (by omega), mNt_0 (by decide)]) (fun i9 => (by rw [mU_06 (Or.inl (by decide))]; rw [mU_o _ _ (by omega), mNt_x (by decide) (by decide) (by decide)])) ((up2_k hV761 (by decide)).trans ((up2_o hV748 (by decide)).trans ((up2_o hV754 (by decide)).trans ((up2_o hV732 (by decide)).trans ((up2_o hV739 (by decide)).trans ((up2_o hV738 (by decide)).trans ((up2_k hV723 (by decide)).trans (up2_k hV727 (by decide))))))))) (fun i9 => ((up2_o hV761 (by decide)).trans ((up2_o hV748 (by decide)).trans ((up2_o hV754 (by decide)).trans ((up2_o hV732 (by decide)).trans ((up2_o hV739 (by decide)).trans ((up2_o hV738 (by decide)).trans ((up2_o hV723 (by decide)).trans (up2_o hV727 (by decide)))))))))) (by rw [mU_s]; omega) (fun _ => ((up2_k hV761 (by decide)).trans ((up2_o hV748 (by decide)).trans ((up2_o hV754 (by decide)).trans ((up2_o hV732 (by decide)).trans ((up2_o hV739 (by decide)).trans ((up2_o hV738 (by decide)).trans (up2_s hV723)))))))) (fun h9 => by rw [mU_s] at h9; exact absurd h9 (by decide)) (by (first | exact om_0893762427d8 kdp rd rd2 pq755 t759 | omega)) (by rw [((up2_k hV761 (by decide)).trans ((up2_o hV748 (by decide)).trans ((up2_o hV754 (by decide)).trans ((up2_o hV732 (by decide)).trans ((up2_o hV739 (by decide)).trans ((up2_o hV738 (by decide)).trans ((up2_k hV723 (by decide)).trans (up2_k hV727 (by decide))))))))), rt9, tz9]) rl794
              have rx795 : RW V761 gB (stM gB (gm, ga, gfr :: gr)) := by rw [hfe, st_18.trans (cl_w (by rw [← rh1]; omega) (by rw [← rh1]; omega))]; exact rz9
              refine W.know (fun kr1 kr2 => ?_)
              refine W.widen (k := zcc Z) (n := zss Z) (Nat.sub_le _ _) (Nat.sub_le _ _) ?_
              exact W.vret hx hb hr (fun t ht hW => ⟨⟨(V761, L, Z), rfl, ⟨hMV761, agV761, rfl, zoZ, rp782, rx795⟩, ⟨by rw [ht]; exact hP, va_K.moved hW.alike hK, hD⟩, by rw [ht]; exact kr1, by rw [ht]; exact kr2⟩, hS.F ht⟩) hS.2.2 dX5_goOnClosing_113
            · skip
              have hV748 : V748 = up2 V732 28 (Int32.toNatClampNeg (V 70 gf)) 2 := by rw [hw753]
              refine lv_aload_n hx hb dX5_goOnClosing_109 rfl (lv_at hl 2 rfl) ?_
              have pq796 : (V748 5 6).toInt = ((V 5 6)).toInt := congrArg Int32.toInt ((up2_o hV748 (by decide)).trans ((up2_o hV732 (by decide)).trans ((up2_o hV739 (by decide)).trans ((up2_o hV738 (by decide)).trans ((up2_k hV723 (by decide)).trans (up2_k hV727 (by decide)))))))
              refine gA_void (gA_runV (As := []) (rest := []) (ci := 5) (q0 := 5) hx hb hml hown hg hP hD hK hS hA hnw hgk (x_leave9 l D ks H.size ad kk V748 L Z  hMV748 (show 1 ≤ (V748 5 6).toInt from by (first | exact om_c36fd4a9fcac gd gl9 pq796 | omega))) w1308 w1310 w50 w171 w1311 rfl xgMachine hdV_yX5_leave ⟨Nat.le_of_ble_eq_true rfl, Nat.le_of_ble_eq_true rfl⟩ rfl hl.1 rfl (Nat.le_of_ble_eq_true rfl) dX5_goOnClosing_110 ⟨z0, z0⟩) hP hD hK hS hA (fun u798 H locs w799 hP hD hK hS => ?_)
              obtain ⟨V802, L803⟩ := u798
              obtain ⟨hMV802, ajV802, axL803, t800, t801⟩ := w799
              have axL803 : L = L803 := Eq.symm axL803
              subst axL803
              have hP : va_P D vwCl (xw ad kk V802 L Z) H := hP
              have hD : va_D A (xw ad kk V802 L Z) := hD
              have hMV802 : rgd bX V802 := hMV802
              have ajV802 : agr [(5, 6)] [] V748 V802 := ajV802
              have agV802 : agr [(4, 6), (5, 6), (5, 9), (5, 10)] [25, 28, 36, 37, 67, 68, 69, 70, 71, 72, 73, 74, 75, 76, 77, 78, 79, 80, 81, 82, 83, 84, 85] V V802 := agV748.tr ajV802 (by decide) (by decide)
              have t800 : (V802 5 6).toInt = (V748 5 6).toInt - 1 := t800
              have t801 : ((True) ∧ V802 = (up2 V748 5 6 (V748 5 6 - 1))) := t801
              have r804 : 0 ≤ ((V802 5 6)).toInt ∧ ((V802 5 6)).toInt ≤ 400 := hMV802 5 6
              have hw805 := t801.2
              obtain ⟨z806, ez806⟩ : ∃ y : Int32, y = V748 5 6 - 1 := ⟨_, rfl⟩
              have hz806 : z806.toInt = (V748 5 6).toInt - 1 := i_sub ez806 rfl (by decide) (by (first | exact om_70510bf9f0cb gd gl9 sl9 pq796 | omega))
              have hV802 : V802 = up2 V748 5 6 z806 := by rw [hw805, ez806]
              have me807 : ME V V802 gf := (ME.up (ME.up (ME.up (ME.up (ME.up (ME.up (ME.up ME.rf hV727 (Or.inr (by (first | exact om_620f5006bfaa  | omega)))) hV723 (Or.inr (by (first | exact om_f41a5f4a8afd  | omega)))) hV738 (Or.inr (by (first | exact om_cafd1137c917  | omega)))) hV739 (Or.inr (by (first | exact om_c9c9e20ea0d3  | omega)))) hV732 (Or.inr (by (first | exact om_5d9c67e1ed13  | omega)))) hV748 (Or.inr (by (first | exact om_15c89eee5dc0  | omega)))) hV802 (Or.inr (by (first | exact om_f481bd0f1cda  | omega))))
              have pq808 : (V802 67 gf).toInt = ((V 67 gf)).toInt := congrArg Int32.toInt ((up2_o hV802 (by decide)).trans ((up2_o hV748 (by decide)).trans ((up2_o hV732 (by decide)).trans ((up2_o hV739 (by decide)).trans ((up2_o hV738 (by decide)).trans ((up2_o hV723 (by decide)).trans (up2_o hV727 (by decide))))))))
              have pq809 : (V802 68 gf).toInt = ((V 68 gf)).toInt := congrArg Int32.toInt ((up2_o hV802 (by decide)).trans ((up2_o hV748 (by decide)).trans ((up2_o hV732 (by decide)).trans ((up2_o hV739 (by decide)).trans ((up2_o hV738 (by decide)).trans ((up2_o hV723 (by decide)).trans (up2_o hV727 (by decide))))))))
              have pq810 : (V802 70 gf).toInt = ((V 70 gf)).toInt := congrArg Int32.toInt ((up2_o hV802 (by decide)).trans ((up2_o hV748 (by decide)).trans ((up2_o hV732 (by decide)).trans ((up2_o hV739 (by decide)).trans ((up2_o hV738 (by decide)).trans ((up2_o hV723 (by decide)).trans (up2_o hV727 (by decide))))))))
              have pq811 : (V802 71 gf).toInt = ((V 71 gf)).toInt := congrArg Int32.toInt ((up2_o hV802 (by decide)).trans ((up2_o hV748 (by decide)).trans ((up2_o hV732 (by decide)).trans ((up2_o hV739 (by decide)).trans ((up2_o hV738 (by decide)).trans ((up2_o hV723 (by decide)).trans (up2_o hV727 (by decide))))))))
              have pq812 : (V802 75 gf).toInt = ((V 75 gf)).toInt := congrArg Int32.toInt ((up2_o hV802 (by decide)).trans ((up2_o hV748 (by decide)).trans ((up2_o hV732 (by decide)).trans ((up2_o hV739 (by decide)).trans ((up2_o hV738 (by decide)).trans ((up2_o hV723 (by decide)).trans (up2_o hV727 (by decide))))))))
              have pq813 : (V802 76 gf).toInt = ((V 76 gf)).toInt := congrArg Int32.toInt ((up2_o hV802 (by decide)).trans ((up2_o hV748 (by decide)).trans ((up2_o hV732 (by decide)).trans ((up2_o hV739 (by decide)).trans ((up2_o hV738 (by decide)).trans ((up2_o hV723 (by decide)).trans (up2_o hV727 (by decide))))))))
              have pq814 : (V802 80 gf).toInt = ((V 80 gf)).toInt := congrArg Int32.toInt ((up2_o hV802 (by decide)).trans ((up2_o hV748 (by decide)).trans ((up2_o hV732 (by decide)).trans ((up2_o hV739 (by decide)).trans ((up2_o hV738 (by decide)).trans ((up2_o hV723 (by decide)).trans (up2_o hV727 (by decide))))))))
              have pq815 : (V802 84 gf).toInt = ((V 84 gf)).toInt := congrArg Int32.toInt ((up2_o hV802 (by decide)).trans ((up2_o hV748 (by decide)).trans ((up2_o hV732 (by decide)).trans ((up2_o hV739 (by decide)).trans ((up2_o hV738 (by decide)).trans ((up2_o hV723 (by decide)).trans (up2_o hV727 (by decide))))))))
              have pq816 : (V802 5 6).toInt = z806.toInt := congrArg Int32.toInt (up2_s hV802)
              have pq817 : (V802 5 8).toInt = ((V 5 8)).toInt := congrArg Int32.toInt ((up2_k hV802 (by decide)).trans ((up2_o hV748 (by decide)).trans ((up2_o hV732 (by decide)).trans ((up2_o hV739 (by decide)).trans ((up2_o hV738 (by decide)).trans ((up2_k hV723 (by decide)).trans (up2_k hV727 (by decide))))))))
              have pq818 : (V802 5 9).toInt = 1 := (congrArg Int32.toInt ((up2_k hV802 (by decide)).trans ((up2_o hV748 (by decide)).trans ((up2_o hV732 (by decide)).trans ((up2_o hV739 (by decide)).trans ((up2_o hV738 (by decide)).trans ((up2_k hV723 (by decide)).trans (up2_s hV727)))))))).trans (by decide)
              have pq819 : (V802 3 13).toInt = ((V 3 13)).toInt := congrArg Int32.toInt ((up2_o hV802 (by decide)).trans ((up2_o hV748 (by decide)).trans ((up2_o hV732 (by decide)).trans ((up2_o hV739 (by decide)).trans ((up2_o hV738 (by decide)).trans ((up2_o hV723 (by decide)).trans (up2_o hV727 (by decide))))))))
              have pq820 : (V802 43 (5 * b + 2)).toInt = ((V 43 (5 * b + 2))).toInt := congrArg Int32.toInt ((up2_o hV802 (by decide)).trans ((up2_o hV748 (by decide)).trans ((up2_o hV732 (by decide)).trans ((up2_o hV739 (by decide)).trans ((up2_o hV738 (by decide)).trans ((up2_o hV723 (by decide)).trans (up2_o hV727 (by decide))))))))
              have pq821 : (V802 42 b).toInt = ((V 42 b)).toInt := congrArg Int32.toInt ((up2_o hV802 (by decide)).trans ((up2_o hV748 (by decide)).trans ((up2_o hV732 (by decide)).trans ((up2_o hV739 (by decide)).trans ((up2_o hV738 (by decide)).trans ((up2_o hV723 (by decide)).trans (up2_o hV727 (by decide))))))))
              have pq822 : (V802 41 b).toInt = ((V 41 b)).toInt := congrArg Int32.toInt ((up2_o hV802 (by decide)).trans ((up2_o hV748 (by decide)).trans ((up2_o hV732 (by decide)).trans ((up2_o hV739 (by decide)).trans ((up2_o hV738 (by decide)).trans ((up2_o hV723 (by decide)).trans (up2_o hV727 (by decide))))))))
              have rp823 : MJ V802 Z b := MP.lv (MO.mp mo) me807 (by (first | exact om_541a228d28bf gd pq796 t800 hz806 pq816 | omega)) (fun _ => Or.inl (by omega))
              have pq824 : (V802 5 11).toInt = ((V 5 11)).toInt := congrArg Int32.toInt ((up2_k hV802 (by decide)).trans ((up2_o hV748 (by decide)).trans ((up2_o hV732 (by decide)).trans ((up2_o hV739 (by decide)).trans ((up2_o hV738 (by decide)).trans ((up2_k hV723 (by decide)).trans (up2_k hV727 (by decide))))))))
              have pq825 : (V802 5 12).toInt = ((V 5 12)).toInt := congrArg Int32.toInt ((up2_k hV802 (by decide)).trans ((up2_o hV748 (by decide)).trans ((up2_o hV732 (by decide)).trans ((up2_o hV739 (by decide)).trans ((up2_o hV738 (by decide)).trans ((up2_k hV723 (by decide)).trans (up2_k hV727 (by decide))))))))
              have pq826 : (V802 5 13).toInt = ((V 5 13)).toInt := congrArg Int32.toInt ((up2_k hV802 (by decide)).trans ((up2_o hV748 (by decide)).trans ((up2_o hV732 (by decide)).trans ((up2_o hV739 (by decide)).trans ((up2_o hV738 (by decide)).trans ((up2_k hV723 (by decide)).trans (up2_k hV727 (by decide))))))))
              have r827 : 0 ≤ ((V 5 13)).toInt ∧ ((V 5 13)).toInt ≤ 3000 := hMV 5 13
              have pq828 : (V802 5 7).toInt = ((V 5 7)).toInt := congrArg Int32.toInt ((up2_k hV802 (by decide)).trans ((up2_o hV748 (by decide)).trans ((up2_o hV732 (by decide)).trans ((up2_o hV739 (by decide)).trans ((up2_o hV738 (by decide)).trans ((up2_k hV723 (by decide)).trans (up2_k hV727 (by decide))))))))
              have r829 : 0 ≤ ((V 5 7)).toInt ∧ ((V 5 7)).toInt ≤ 2048 := hMV 5 7
              have rn830 : RWn V723 ow gB gm := RWn.es rn (ESw.ag (show agr [(5, 9), (5, 10)] [] V V723 from (agr.up (agr.up agr.rf hV727 rfl) hV723 rfl)) (by decide))
              have rn831 : RWn V732 ow gB (mNote gm o 0) := RWn.note rn830 (fun c9 k9 h1 h2 h3 h4 => ((show V732 c9 k9 = V739 c9 k9 from by rw [hV732]; exact up2_pl (by omega)).trans ((show V739 c9 k9 = V738 c9 k9 from by rw [hV739]; exact up2_pl (by omega)).trans (show V738 c9 k9 = V723 c9 k9 from by rw [hV738]; exact up2_pl (by omega))))) (Or.inl ⟨hc734, (by rw [up2_s hV732]; exact hz740), (fun i9 hi9 => ⟨(up2_o hV732 (by decide)).trans ((up2_o hV739 (by decide)).trans (up2_k hV738 hi9)), (up2_o hV732 (by decide)).trans ((up2_k hV739 hi9).trans (up2_o hV738 (by decide)))⟩), (show (V732 36 (Int32.toNatClampNeg (V723 4 6))).toInt = o from by rw [(up2_o hV732 (by decide)).trans ((up2_o hV739 (by decide)).trans (up2_s hV738))]; exact q70), (show (V732 37 (Int32.toNatClampNeg (V723 4 6))).toInt = 0 from by rw [(up2_o hV732 (by decide)).trans (up2_s hV739)]; decide)⟩)
              have dx9 : (Int32.toNatClampNeg (V 70 gf)) = o.toNat := by have h9 := i_clamp (x := (V 70 gf)) rfl (by (first | exact om_2996291ce4c2 fo q70 pq810 | omega)); (first | exact om_6acf0db861ed fo q70 pq810 h9 | omega)
              have do9 : ((o.toNat : Nat) : Int) < (mNote gm o 0) 0 2 := by rw [mNt_0 (by decide)]; (first | exact om_5b0e08f69870 r8 fo ra2 q70 pq810 pq819 | omega)
              have db9 := (rn831).2.1 _ do9
              have ds9 : 24 * Int32.toNatClampNeg (V732 27 (Int32.toNatClampNeg (V 70 gf))) + Int32.toNatClampNeg (V732 26 (Int32.toNatClampNeg (V 70 gf))) = 24 * ((mNote gm o 0) 2 o.toNat).toNat + ((mNote gm o 0) 1 o.toNat).toNat := by rw [dx9]; have h1 := db9.1.1; have h2 := db9.1.2.1; have h3 := i_clamp (x := V732 27 o.toNat) rfl (by (first | exact om_57a3b3030c68 db9 | omega)); have h4 := i_clamp (x := V732 26 o.toNat) rfl (by (first | exact om_624b0f847349 db9 | omega)); (first | exact om_5319a23bfaa2 db9 h3 h4 | omega)
              have rn832 : RWn V748 ow gB (mU (mNote gm o 0) 3 o.toNat 2) := RWn.drop rn831 do9 (fun x9 hx9 => up2_k hV748 (by rw [dx9]; exact hx9)) (by rw [← dx9, up2_s hV748]; decide) (fun k9 _ => up2_o hV748 (by decide)) (by rw [← ds9, up2_o hV748 (by decide), if_neg (by rw [← dx9]; have h9 := i_clamp (x := (V 70 gf)) rfl (by (first | exact om_2996291ce4c2 fo q70 pq810 | omega)); omega)]) (fun c9 k9 h1 h2 h3 => (show V748 c9 k9 = V732 c9 k9 from by rw [hV748]; exact up2_pl (by omega)))
              have rn833 : RWn V802 ow gB (mU (mNote gm o 0) 3 o.toNat 2) := RWn.es rn832 (ESw.ag (show agr [(5, 6)] [] V748 V802 from (agr.up agr.rf hV802 rfl)) (by decide))
              have me834 : ME V V802 gf := (ME.up (ME.up (ME.up (ME.up (ME.up (ME.up (ME.up ME.rf hV727 (Or.inr (by (first | exact om_620f5006bfaa  | omega)))) hV723 (Or.inr (by (first | exact om_f41a5f4a8afd  | omega)))) hV738 (Or.inr (by (first | exact om_cafd1137c917  | omega)))) hV739 (Or.inr (by (first | exact om_c9c9e20ea0d3  | omega)))) hV732 (Or.inr (by (first | exact om_5d9c67e1ed13  | omega)))) hV748 (Or.inr (by (first | exact om_15c89eee5dc0  | omega)))) hV802 (Or.inr (by (first | exact om_f481bd0f1cda  | omega))))
              have rl835 : RWl V802 gB gr t0 := RWl.mv hlr (fun i9 hi9 c9 h1 h2 => me834.2.1 c9 i9 h1 h2 (by (first | exact om_102b9d22baee gd kdp rd rd2 pq796 t800 hz806 hi9 | omega))) (fun j9 hj9 => ((up2_o hV802 (by decide)).trans ((up2_o hV748 (by decide)).trans ((up2_o hV732 (by decide)).trans ((up2_o hV739 (by decide)).trans ((up2_o hV738 (by decide)).trans ((up2_o hV723 (by decide)).trans (up2_o hV727 (by decide))))))))) (by rw [((up2_o hV802 (by decide)).trans ((up2_o hV748 (by decide)).trans ((up2_o hV732 (by decide)).trans ((up2_o hV739 (by decide)).trans ((up2_o hV738 (by decide)).trans ((up2_o hV723 (by decide)).trans (up2_o hV727 (by decide))))))))]; exact Int.le_refl _) ((up2_o hV802 (by decide)).trans ((up2_o hV748 (by decide)).trans ((up2_o hV732 (by decide)).trans ((up2_o hV739 (by decide)).trans ((up2_o hV738 (by decide)).trans ((up2_o hV723 (by decide)).trans (up2_o hV727 (by decide))))))))
              have rf9 : RWn V802 ow gB (mU (mU (mNote gm o 0) 3 o.toNat 2) 0 6 1) := RWn.mv rn833 (fun j9 hj9 => mU_06 (Or.inr (by omega))) (fun x9 j9 hx9 _ => mU_06 (Or.inl hx9)) (fun _ => rfl) rfl rfl rfl (fun _ _ _ _ _ => rfl)
              have rz9 : RW V802 gB ((mU (mU (mNote gm o 0) 3 o.toNat 2) 0 6 1), 0, gr) := RW.fin rwq rf9 (by rw [mU_06 (Or.inr (by decide))]; rw [mU_o _ _ (by omega), mNt_0 (by decide)]) (fun i9 => (by rw [mU_06 (Or.inl (by decide))]; rw [mU_o _ _ (by omega), mNt_x (by decide) (by decide) (by decide)])) ((up2_k hV802 (by decide)).trans ((up2_o hV748 (by decide)).trans ((up2_o hV732 (by decide)).trans ((up2_o hV739 (by decide)).trans ((up2_o hV738 (by decide)).trans ((up2_k hV723 (by decide)).trans (up2_k hV727 (by decide)))))))) (fun i9 => ((up2_o hV802 (by decide)).trans ((up2_o hV748 (by decide)).trans ((up2_o hV732 (by decide)).trans ((up2_o hV739 (by decide)).trans ((up2_o hV738 (by decide)).trans ((up2_o hV723 (by decide)).trans (up2_o hV727 (by decide))))))))) (by rw [mU_s]; omega) (fun _ => ((up2_k hV802 (by decide)).trans ((up2_o hV748 (by decide)).trans ((up2_o hV732 (by decide)).trans ((up2_o hV739 (by decide)).trans ((up2_o hV738 (by decide)).trans (up2_s hV723))))))) (fun h9 => by rw [mU_s] at h9; exact absurd h9 (by decide)) (by (first | exact om_0893762427d8 kdp rd rd2 pq796 t800 | omega)) (by rw [((up2_k hV802 (by decide)).trans ((up2_o hV748 (by decide)).trans ((up2_o hV732 (by decide)).trans ((up2_o hV739 (by decide)).trans ((up2_o hV738 (by decide)).trans ((up2_k hV723 (by decide)).trans (up2_k hV727 (by decide)))))))), rt9, tz9]) rl835
              have rx836 : RW V802 gB (stM gB (gm, ga, gfr :: gr)) := by rw [hfe, st_18.trans (cl_w (by rw [← rh1]; omega) (by rw [← rh1]; omega))]; exact rz9
              refine W.know (fun kr1 kr2 => ?_)
              refine W.widen (k := zcc Z) (n := zss Z) (Nat.sub_le _ _) (Nat.sub_le _ _) ?_
              exact W.vret hx hb hr (fun t ht hW => ⟨⟨(V802, L, Z), rfl, ⟨hMV802, agV802, rfl, zoZ, rp823, rx836⟩, ⟨by rw [ht]; exact hP, va_K.moved hW.alike hK, hD⟩, by rw [ht]; exact kr1, by rw [ht]; exact kr2⟩, hS.F ht⟩) hS.2.2 dX5_goOnClosing_113
          · skip
            have ajV732 : agr [] [] V723 V732 := by rw [hw737]; exact agr.rf
            refine lv_aload_n hx hb dX5_goOnClosing_98 rfl (lv_at hl 2 rfl) ?_
            refine va_get (D := D) (ci := 5) (v := .ref (ad 3)) (fs := (xfMachine ad V732 L Z)) (C := RX5) (T := TX5) (N := 15) hx hb hg inX5 hown hK hP 5 xgMachine rfl 0 (by decide) (hg _ w667) (fun _ h9 => h9) rfl dX5_goOnClosing_99 ?_
            refine lv_aload_n hx hb dX5_goOnClosing_102 rfl (lv_at hl 3 rfl) ?_
            refine va_getN (D := D) (ci := 4) (v := .int (V732 70 gf)) (fs := (xfFrame V732 gf)) (C := RX4) (T := TX4) (N := 19) hx hb hg inX4 hown hK hP (336 + gf) (xgFrame hgf) rfl 3 (by decide) (hnw.use 1192 n1192 rfl) (fun _ h9 => h9) rfl dX5_goOnClosing_103 ?_
            refine g_top (v := (V 70 gf)) ((ajV732 70 gf rfl).trans ((up2_o hV723 (by decide)).trans (up2_o hV727 (by decide)))) ?_
            refine gA_void (gA_runV (As := [.int (V 70 gf)]) (rest := []) (ci := 8) (q0 := 3) hx hb hml hown hg hP hD hK hS hA hnw hgk (x_dropObject9 l D ks H.size ad kk V732 L Z (V 70 gf) hMV732 (by (first | exact om_d0c9b7046452 r8 fo ra2 q70 | omega))) w1336 w1337 w1338 w164 w1339 rfl xgStock hdV_yX8_dropObject ⟨Nat.le_of_ble_eq_true rfl, Nat.le_of_ble_eq_true rfl⟩ rfl hl.1 rfl (Nat.le_of_ble_eq_true rfl) dX5_goOnClosing_106 ⟨z0, z0⟩) hP hD hK hS hA (fun u838 H locs w839 hP hD hK hS => ?_)
            obtain ⟨V842, L843⟩ := u838
            obtain ⟨hMV842, ajV842, axL843, t840, t841⟩ := w839
            have axL843 : L = L843 := Eq.symm axL843
            subst axL843
            have hP : va_P D vwCl (xw ad kk V842 L Z) H := hP
            have hD : va_D A (xw ad kk V842 L Z) := hD
            have hMV842 : rgd bX V842 := hMV842
            have ajV842 : agr [] [25, 28] V732 V842 := ajV842
            have agV842 : agr [(4, 6), (5, 6), (5, 9), (5, 10)] [25, 28, 36, 37, 67, 68, 69, 70, 71, 72, 73, 74, 75, 76, 77, 78, 79, 80, 81, 82, 83, 84, 85] V V842 := agV732.tr ajV842 (by decide) (by decide)
            have t840 : ∀ n, ME V732 V842 n := t840
            have t841 : (((V732 25 (24 * Int32.toNatClampNeg (V732 27 (Int32.toNatClampNeg (V 70 gf))) + Int32.toNatClampNeg (V732 26 (Int32.toNatClampNeg (V 70 gf))))).toInt = ((V 70 gf)).toInt) ∧ V842 = (up2 (up2 V732 28 (Int32.toNatClampNeg (V 70 gf)) 2) 25 (24 * Int32.toNatClampNeg (V732 27 (Int32.toNatClampNeg (V 70 gf))) + Int32.toNatClampNeg (V732 26 (Int32.toNatClampNeg (V 70 gf)))) (-1))) ∨ (((V732 25 (24 * Int32.toNatClampNeg (V732 27 (Int32.toNatClampNeg (V 70 gf))) + Int32.toNatClampNeg (V732 26 (Int32.toNatClampNeg (V 70 gf))))).toInt ≠ ((V 70 gf)).toInt) ∧ V842 = (up2 V732 28 (Int32.toNatClampNeg (V 70 gf)) 2)) := t841
            rcases t841 with ⟨hc844, hw845⟩ | ⟨hc846, hw847⟩
            · skip
              obtain ⟨V848, hV848⟩ : ∃ z, z = up2 V732 28 (Int32.toNatClampNeg (V 70 gf)) 2 := ⟨_, rfl⟩
              have hV842 : V842 = up2 V848 25 (24 * Int32.toNatClampNeg (V732 27 (Int32.toNatClampNeg (V 70 gf))) + Int32.toNatClampNeg (V732 26 (Int32.toNatClampNeg (V 70 gf)))) (-1) := by rw [hw845, hV848]
              refine lv_aload_n hx hb dX5_goOnClosing_109 rfl (lv_at hl 2 rfl) ?_
              have pq849 : (V842 5 6).toInt = ((V 5 6)).toInt := congrArg Int32.toInt ((up2_o hV842 (by decide)).trans ((up2_o hV848 (by decide)).trans ((ajV732 5 6 rfl).trans ((up2_k hV723 (by decide)).trans (up2_k hV727 (by decide))))))
              refine gA_void (gA_runV (As := []) (rest := []) (ci := 5) (q0 := 5) hx hb hml hown hg hP hD hK hS hA hnw hgk (x_leave9 l D ks H.size ad kk V842 L Z  hMV842 (show 1 ≤ (V842 5 6).toInt from by (first | exact om_c36fd4a9fcac gd gl9 pq849 | omega))) w1308 w1310 w50 w171 w1311 rfl xgMachine hdV_yX5_leave ⟨Nat.le_of_ble_eq_true rfl, Nat.le_of_ble_eq_true rfl⟩ rfl hl.1 rfl (Nat.le_of_ble_eq_true rfl) dX5_goOnClosing_110 ⟨z0, z0⟩) hP hD hK hS hA (fun u851 H locs w852 hP hD hK hS => ?_)
              obtain ⟨V855, L856⟩ := u851
              obtain ⟨hMV855, ajV855, axL856, t853, t854⟩ := w852
              have axL856 : L = L856 := Eq.symm axL856
              subst axL856
              have hP : va_P D vwCl (xw ad kk V855 L Z) H := hP
              have hD : va_D A (xw ad kk V855 L Z) := hD
              have hMV855 : rgd bX V855 := hMV855
              have ajV855 : agr [(5, 6)] [] V842 V855 := ajV855
              have agV855 : agr [(4, 6), (5, 6), (5, 9), (5, 10)] [25, 28, 36, 37, 67, 68, 69, 70, 71, 72, 73, 74, 75, 76, 77, 78, 79, 80, 81, 82, 83, 84, 85] V V855 := agV842.tr ajV855 (by decide) (by decide)
              have t853 : (V855 5 6).toInt = (V842 5 6).toInt - 1 := t853
              have t854 : ((True) ∧ V855 = (up2 V842 5 6 (V842 5 6 - 1))) := t854
              have r857 : 0 ≤ ((V855 5 6)).toInt ∧ ((V855 5 6)).toInt ≤ 400 := hMV855 5 6
              have hw858 := t854.2
              obtain ⟨z859, ez859⟩ : ∃ y : Int32, y = V842 5 6 - 1 := ⟨_, rfl⟩
              have hz859 : z859.toInt = (V842 5 6).toInt - 1 := i_sub ez859 rfl (by decide) (by (first | exact om_70510bf9f0cb gd gl9 sl9 pq849 | omega))
              have hV855 : V855 = up2 V842 5 6 z859 := by rw [hw858, ez859]
              have me860 : ME V V855 gf := (ME.up (ME.up (ME.up (ME.tr (ME.up (ME.up ME.rf hV727 (Or.inr (by (first | exact om_620f5006bfaa  | omega)))) hV723 (Or.inr (by (first | exact om_f41a5f4a8afd  | omega)))) (ME.ag ajV732 (by decide))) hV848 (Or.inr (by (first | exact om_15c89eee5dc0  | omega)))) hV842 (Or.inr (by omega))) hV855 (Or.inr (by (first | exact om_f481bd0f1cda  | omega))))
              have pq861 : (V855 67 gf).toInt = ((V 67 gf)).toInt := congrArg Int32.toInt ((up2_o hV855 (by decide)).trans ((up2_o hV842 (by decide)).trans ((up2_o hV848 (by decide)).trans ((ajV732 67 gf rfl).trans ((up2_o hV723 (by decide)).trans (up2_o hV727 (by decide)))))))
              have pq862 : (V855 68 gf).toInt = ((V 68 gf)).toInt := congrArg Int32.toInt ((up2_o hV855 (by decide)).trans ((up2_o hV842 (by decide)).trans ((up2_o hV848 (by decide)).trans ((ajV732 68 gf rfl).trans ((up2_o hV723 (by decide)).trans (up2_o hV727 (by decide)))))))
              have pq863 : (V855 70 gf).toInt = ((V 70 gf)).toInt := congrArg Int32.toInt ((up2_o hV855 (by decide)).trans ((up2_o hV842 (by decide)).trans ((up2_o hV848 (by decide)).trans ((ajV732 70 gf rfl).trans ((up2_o hV723 (by decide)).trans (up2_o hV727 (by decide)))))))
              have pq864 : (V855 71 gf).toInt = ((V 71 gf)).toInt := congrArg Int32.toInt ((up2_o hV855 (by decide)).trans ((up2_o hV842 (by decide)).trans ((up2_o hV848 (by decide)).trans ((ajV732 71 gf rfl).trans ((up2_o hV723 (by decide)).trans (up2_o hV727 (by decide)))))))
              have pq865 : (V855 75 gf).toInt = ((V 75 gf)).toInt := congrArg Int32.toInt ((up2_o hV855 (by decide)).trans ((up2_o hV842 (by decide)).trans ((up2_o hV848 (by decide)).trans ((ajV732 75 gf rfl).trans ((up2_o hV723 (by decide)).trans (up2_o hV727 (by decide)))))))
              have pq866 : (V855 76 gf).toInt = ((V 76 gf)).toInt := congrArg Int32.toInt ((up2_o hV855 (by decide)).trans ((up2_o hV842 (by decide)).trans ((up2_o hV848 (by decide)).trans ((ajV732 76 gf rfl).trans ((up2_o hV723 (by decide)).trans (up2_o hV727 (by decide)))))))
              have pq867 : (V855 80 gf).toInt = ((V 80 gf)).toInt := congrArg Int32.toInt ((up2_o hV855 (by decide)).trans ((up2_o hV842 (by decide)).trans ((up2_o hV848 (by decide)).trans ((ajV732 80 gf rfl).trans ((up2_o hV723 (by decide)).trans (up2_o hV727 (by decide)))))))
              have pq868 : (V855 84 gf).toInt = ((V 84 gf)).toInt := congrArg Int32.toInt ((up2_o hV855 (by decide)).trans ((up2_o hV842 (by decide)).trans ((up2_o hV848 (by decide)).trans ((ajV732 84 gf rfl).trans ((up2_o hV723 (by decide)).trans (up2_o hV727 (by decide)))))))
              have pq869 : (V855 5 6).toInt = z859.toInt := congrArg Int32.toInt (up2_s hV855)
              have pq870 : (V855 5 8).toInt = ((V 5 8)).toInt := congrArg Int32.toInt ((up2_k hV855 (by decide)).trans ((up2_o hV842 (by decide)).trans ((up2_o hV848 (by decide)).trans ((ajV732 5 8 rfl).trans ((up2_k hV723 (by decide)).trans (up2_k hV727 (by decide)))))))
              have pq871 : (V855 5 9).toInt = 1 := (congrArg Int32.toInt ((up2_k hV855 (by decide)).trans ((up2_o hV842 (by decide)).trans ((up2_o hV848 (by decide)).trans ((ajV732 5 9 rfl).trans ((up2_k hV723 (by decide)).trans (up2_s hV727))))))).trans (by decide)
              have pq872 : (V855 3 13).toInt = ((V 3 13)).toInt := congrArg Int32.toInt ((up2_o hV855 (by decide)).trans ((up2_o hV842 (by decide)).trans ((up2_o hV848 (by decide)).trans ((ajV732 3 13 rfl).trans ((up2_o hV723 (by decide)).trans (up2_o hV727 (by decide)))))))
              have pq873 : (V855 43 (5 * b + 2)).toInt = ((V 43 (5 * b + 2))).toInt := congrArg Int32.toInt ((up2_o hV855 (by decide)).trans ((up2_o hV842 (by decide)).trans ((up2_o hV848 (by decide)).trans ((ajV732 43 (5 * b + 2) rfl).trans ((up2_o hV723 (by decide)).trans (up2_o hV727 (by decide)))))))
              have pq874 : (V855 42 b).toInt = ((V 42 b)).toInt := congrArg Int32.toInt ((up2_o hV855 (by decide)).trans ((up2_o hV842 (by decide)).trans ((up2_o hV848 (by decide)).trans ((ajV732 42 b rfl).trans ((up2_o hV723 (by decide)).trans (up2_o hV727 (by decide)))))))
              have pq875 : (V855 41 b).toInt = ((V 41 b)).toInt := congrArg Int32.toInt ((up2_o hV855 (by decide)).trans ((up2_o hV842 (by decide)).trans ((up2_o hV848 (by decide)).trans ((ajV732 41 b rfl).trans ((up2_o hV723 (by decide)).trans (up2_o hV727 (by decide)))))))
              have rp876 : MJ V855 Z b := MP.lv (MO.mp mo) me860 (by (first | exact om_541a228d28bf gd pq849 t853 hz859 pq869 | omega)) (fun _ => Or.inl (by omega))
              have pq877 : (V855 5 11).toInt = ((V 5 11)).toInt := congrArg Int32.toInt ((up2_k hV855 (by decide)).trans ((up2_o hV842 (by decide)).trans ((up2_o hV848 (by decide)).trans ((ajV732 5 11 rfl).trans ((up2_k hV723 (by decide)).trans (up2_k hV727 (by decide)))))))
              have pq878 : (V855 5 12).toInt = ((V 5 12)).toInt := congrArg Int32.toInt ((up2_k hV855 (by decide)).trans ((up2_o hV842 (by decide)).trans ((up2_o hV848 (by decide)).trans ((ajV732 5 12 rfl).trans ((up2_k hV723 (by decide)).trans (up2_k hV727 (by decide)))))))
              have pq879 : (V855 5 13).toInt = ((V 5 13)).toInt := congrArg Int32.toInt ((up2_k hV855 (by decide)).trans ((up2_o hV842 (by decide)).trans ((up2_o hV848 (by decide)).trans ((ajV732 5 13 rfl).trans ((up2_k hV723 (by decide)).trans (up2_k hV727 (by decide)))))))
              have r880 : 0 ≤ ((V 5 13)).toInt ∧ ((V 5 13)).toInt ≤ 3000 := hMV 5 13
              have pq881 : (V855 5 7).toInt = ((V 5 7)).toInt := congrArg Int32.toInt ((up2_k hV855 (by decide)).trans ((up2_o hV842 (by decide)).trans ((up2_o hV848 (by decide)).trans ((ajV732 5 7 rfl).trans ((up2_k hV723 (by decide)).trans (up2_k hV727 (by decide)))))))
              have r882 : 0 ≤ ((V 5 7)).toInt ∧ ((V 5 7)).toInt ≤ 2048 := hMV 5 7
              have rn883 : RWn V723 ow gB gm := RWn.es rn (ESw.ag (show agr [(5, 9), (5, 10)] [] V V723 from (agr.up (agr.up agr.rf hV727 rfl) hV723 rfl)) (by decide))
              have rn884 : RWn V732 ow gB (mNote gm o 0) := RWn.note rn883 (fun c9 k9 h1 h2 h3 h4 => (ajV732 c9 k9 rfl)) (Or.inr ⟨hc736, (ajV732 4 6 rfl), fun i9 => ⟨(ajV732 36 i9 rfl), (ajV732 37 i9 rfl)⟩⟩)
              have dx9 : (Int32.toNatClampNeg (V 70 gf)) = o.toNat := by have h9 := i_clamp (x := (V 70 gf)) rfl (by (first | exact om_c42429f26483 fo q70 hc844 pq863 | omega)); (first | exact om_cdba46fd13a1 fo q70 hc844 pq863 h9 | omega)
              have do9 : ((o.toNat : Nat) : Int) < (mNote gm o 0) 0 2 := by rw [mNt_0 (by decide)]; (first | exact om_b313c004abde r8 fo ra2 q70 hc844 pq863 pq872 | omega)
              have db9 := (rn884).2.1 _ do9
              have ds9 : 24 * Int32.toNatClampNeg (V732 27 (Int32.toNatClampNeg (V 70 gf))) + Int32.toNatClampNeg (V732 26 (Int32.toNatClampNeg (V 70 gf))) = 24 * ((mNote gm o 0) 2 o.toNat).toNat + ((mNote gm o 0) 1 o.toNat).toNat := by rw [dx9]; have h1 := db9.1.1; have h2 := db9.1.2.1; have h3 := i_clamp (x := V732 27 o.toNat) rfl (by (first | exact om_57a3b3030c68 db9 | omega)); have h4 := i_clamp (x := V732 26 o.toNat) rfl (by (first | exact om_624b0f847349 db9 | omega)); (first | exact om_5319a23bfaa2 db9 h3 h4 | omega)
              have rn885 : RWn V842 ow gB (mU (mNote gm o 0) 3 o.toNat 2) := RWn.drop rn884 do9 (fun x9 hx9 => (up2_o hV842 (by decide)).trans (up2_k hV848 (by rw [dx9]; exact hx9))) (by rw [← dx9, (up2_o hV842 (by decide)).trans (up2_s hV848)]; decide) (fun k9 hk9 => (up2_k hV842 (by rw [ds9]; exact hk9)).trans (up2_o hV848 (by decide))) (by rw [← ds9, up2_s hV842, if_pos (by rw [← dx9]; have h9 := i_clamp (x := (V 70 gf)) rfl (by (first | exact om_c42429f26483 fo q70 hc844 pq863 | omega)); (first | exact om_31a30e49af65 q70 hc844 pq863 dx9 h9 | omega))]; decide) (fun c9 k9 h1 h2 h3 => ((show V842 c9 k9 = V848 c9 k9 from by rw [hV842]; exact up2_pl (by omega)).trans (show V848 c9 k9 = V732 c9 k9 from by rw [hV848]; exact up2_pl (by omega))))
              have rn886 : RWn V855 ow gB (mU (mNote gm o 0) 3 o.toNat 2) := RWn.es rn885 (ESw.ag (show agr [(5, 6)] [] V842 V855 from (agr.up agr.rf hV855 rfl)) (by decide))
              have me887 : ME V V855 gf := (ME.up (ME.up (ME.up (ME.tr (ME.up (ME.up ME.rf hV727 (Or.inr (by (first | exact om_620f5006bfaa  | omega)))) hV723 (Or.inr (by (first | exact om_f41a5f4a8afd  | omega)))) (ME.ag ajV732 (by decide))) hV848 (Or.inr (by (first | exact om_15c89eee5dc0  | omega)))) hV842 (Or.inr (by omega))) hV855 (Or.inr (by (first | exact om_f481bd0f1cda  | omega))))
              have rl888 : RWl V855 gB gr t0 := RWl.mv hlr (fun i9 hi9 c9 h1 h2 => me887.2.1 c9 i9 h1 h2 (by (first | exact om_102b9d22baee gd kdp rd rd2 pq849 t853 hz859 hi9 | omega))) (fun j9 hj9 => ((up2_o hV855 (by decide)).trans ((up2_o hV842 (by decide)).trans ((up2_o hV848 (by decide)).trans ((ajV732 39 j9 rfl).trans ((up2_o hV723 (by decide)).trans (up2_o hV727 (by decide)))))))) (by rw [((up2_o hV855 (by decide)).trans ((up2_o hV842 (by decide)).trans ((up2_o hV848 (by decide)).trans ((ajV732 3 13 rfl).trans ((up2_o hV723 (by decide)).trans (up2_o hV727 (by decide)))))))]; exact Int.le_refl _) ((up2_o hV855 (by decide)).trans ((up2_o hV842 (by decide)).trans ((up2_o hV848 (by decide)).trans ((ajV732 3 12 rfl).trans ((up2_o hV723 (by decide)).trans (up2_o hV727 (by decide)))))))
              have rf9 : RWn V855 ow gB (mU (mU (mNote gm o 0) 3 o.toNat 2) 0 6 1) := RWn.mv rn886 (fun j9 hj9 => mU_06 (Or.inr (by omega))) (fun x9 j9 hx9 _ => mU_06 (Or.inl hx9)) (fun _ => rfl) rfl rfl rfl (fun _ _ _ _ _ => rfl)
              have rz9 : RW V855 gB ((mU (mU (mNote gm o 0) 3 o.toNat 2) 0 6 1), 0, gr) := RW.fin rwq rf9 (by rw [mU_06 (Or.inr (by decide))]; rw [mU_o _ _ (by omega), mNt_0 (by decide)]) (fun i9 => (by rw [mU_06 (Or.inl (by decide))]; rw [mU_o _ _ (by omega), mNt_x (by decide) (by decide) (by decide)])) ((up2_k hV855 (by decide)).trans ((up2_o hV842 (by decide)).trans ((up2_o hV848 (by decide)).trans ((ajV732 5 8 rfl).trans ((up2_k hV723 (by decide)).trans (up2_k hV727 (by decide))))))) (fun i9 => ((up2_o hV855 (by decide)).trans ((up2_o hV842 (by decide)).trans ((up2_o hV848 (by decide)).trans ((ajV732 40 i9 rfl).trans ((up2_o hV723 (by decide)).trans (up2_o hV727 (by decide)))))))) (by rw [mU_s]; omega) (fun _ => ((up2_k hV855 (by decide)).trans ((up2_o hV842 (by decide)).trans ((up2_o hV848 (by decide)).trans ((ajV732 5 10 rfl).trans (up2_s hV723)))))) (fun h9 => by rw [mU_s] at h9; exact absurd h9 (by decide)) (by (first | exact om_0893762427d8 kdp rd rd2 pq849 t853 | omega)) (by rw [((up2_k hV855 (by decide)).trans ((up2_o hV842 (by decide)).trans ((up2_o hV848 (by decide)).trans ((ajV732 5 7 rfl).trans ((up2_k hV723 (by decide)).trans (up2_k hV727 (by decide))))))), rt9, tz9]) rl888
              have rx889 : RW V855 gB (stM gB (gm, ga, gfr :: gr)) := by rw [hfe, st_18.trans (cl_w (by rw [← rh1]; omega) (by rw [← rh1]; omega))]; exact rz9
              refine W.know (fun kr1 kr2 => ?_)
              refine W.widen (k := zcc Z) (n := zss Z) (Nat.sub_le _ _) (Nat.sub_le _ _) ?_
              exact W.vret hx hb hr (fun t ht hW => ⟨⟨(V855, L, Z), rfl, ⟨hMV855, agV855, rfl, zoZ, rp876, rx889⟩, ⟨by rw [ht]; exact hP, va_K.moved hW.alike hK, hD⟩, by rw [ht]; exact kr1, by rw [ht]; exact kr2⟩, hS.F ht⟩) hS.2.2 dX5_goOnClosing_113
            · skip
              have hV842 : V842 = up2 V732 28 (Int32.toNatClampNeg (V 70 gf)) 2 := by rw [hw847]
              refine lv_aload_n hx hb dX5_goOnClosing_109 rfl (lv_at hl 2 rfl) ?_
              have pq890 : (V842 5 6).toInt = ((V 5 6)).toInt := congrArg Int32.toInt ((up2_o hV842 (by decide)).trans ((ajV732 5 6 rfl).trans ((up2_k hV723 (by decide)).trans (up2_k hV727 (by decide)))))
              refine gA_void (gA_runV (As := []) (rest := []) (ci := 5) (q0 := 5) hx hb hml hown hg hP hD hK hS hA hnw hgk (x_leave9 l D ks H.size ad kk V842 L Z  hMV842 (show 1 ≤ (V842 5 6).toInt from by (first | exact om_c36fd4a9fcac gd gl9 pq890 | omega))) w1308 w1310 w50 w171 w1311 rfl xgMachine hdV_yX5_leave ⟨Nat.le_of_ble_eq_true rfl, Nat.le_of_ble_eq_true rfl⟩ rfl hl.1 rfl (Nat.le_of_ble_eq_true rfl) dX5_goOnClosing_110 ⟨z0, z0⟩) hP hD hK hS hA (fun u892 H locs w893 hP hD hK hS => ?_)
              obtain ⟨V896, L897⟩ := u892
              obtain ⟨hMV896, ajV896, axL897, t894, t895⟩ := w893
              have axL897 : L = L897 := Eq.symm axL897
              subst axL897
              have hP : va_P D vwCl (xw ad kk V896 L Z) H := hP
              have hD : va_D A (xw ad kk V896 L Z) := hD
              have hMV896 : rgd bX V896 := hMV896
              have ajV896 : agr [(5, 6)] [] V842 V896 := ajV896
              have agV896 : agr [(4, 6), (5, 6), (5, 9), (5, 10)] [25, 28, 36, 37, 67, 68, 69, 70, 71, 72, 73, 74, 75, 76, 77, 78, 79, 80, 81, 82, 83, 84, 85] V V896 := agV842.tr ajV896 (by decide) (by decide)
              have t894 : (V896 5 6).toInt = (V842 5 6).toInt - 1 := t894
              have t895 : ((True) ∧ V896 = (up2 V842 5 6 (V842 5 6 - 1))) := t895
              have r898 : 0 ≤ ((V896 5 6)).toInt ∧ ((V896 5 6)).toInt ≤ 400 := hMV896 5 6
              have hw899 := t895.2
              obtain ⟨z900, ez900⟩ : ∃ y : Int32, y = V842 5 6 - 1 := ⟨_, rfl⟩
              have hz900 : z900.toInt = (V842 5 6).toInt - 1 := i_sub ez900 rfl (by decide) (by (first | exact om_70510bf9f0cb gd gl9 sl9 pq890 | omega))
              have hV896 : V896 = up2 V842 5 6 z900 := by rw [hw899, ez900]
              have me901 : ME V V896 gf := (ME.up (ME.up (ME.tr (ME.up (ME.up ME.rf hV727 (Or.inr (by (first | exact om_620f5006bfaa  | omega)))) hV723 (Or.inr (by (first | exact om_f41a5f4a8afd  | omega)))) (ME.ag ajV732 (by decide))) hV842 (Or.inr (by (first | exact om_15c89eee5dc0  | omega)))) hV896 (Or.inr (by (first | exact om_f481bd0f1cda  | omega))))
              have pq902 : (V896 67 gf).toInt = ((V 67 gf)).toInt := congrArg Int32.toInt ((up2_o hV896 (by decide)).trans ((up2_o hV842 (by decide)).trans ((ajV732 67 gf rfl).trans ((up2_o hV723 (by decide)).trans (up2_o hV727 (by decide))))))
              have pq903 : (V896 68 gf).toInt = ((V 68 gf)).toInt := congrArg Int32.toInt ((up2_o hV896 (by decide)).trans ((up2_o hV842 (by decide)).trans ((ajV732 68 gf rfl).trans ((up2_o hV723 (by decide)).trans (up2_o hV727 (by decide))))))
              have pq904 : (V896 70 gf).toInt = ((V 70 gf)).toInt := congrArg Int32.toInt ((up2_o hV896 (by decide)).trans ((up2_o hV842 (by decide)).trans ((ajV732 70 gf rfl).trans ((up2_o hV723 (by decide)).trans (up2_o hV727 (by decide))))))
              have pq905 : (V896 71 gf).toInt = ((V 71 gf)).toInt := congrArg Int32.toInt ((up2_o hV896 (by decide)).trans ((up2_o hV842 (by decide)).trans ((ajV732 71 gf rfl).trans ((up2_o hV723 (by decide)).trans (up2_o hV727 (by decide))))))
              have pq906 : (V896 75 gf).toInt = ((V 75 gf)).toInt := congrArg Int32.toInt ((up2_o hV896 (by decide)).trans ((up2_o hV842 (by decide)).trans ((ajV732 75 gf rfl).trans ((up2_o hV723 (by decide)).trans (up2_o hV727 (by decide))))))
              have pq907 : (V896 76 gf).toInt = ((V 76 gf)).toInt := congrArg Int32.toInt ((up2_o hV896 (by decide)).trans ((up2_o hV842 (by decide)).trans ((ajV732 76 gf rfl).trans ((up2_o hV723 (by decide)).trans (up2_o hV727 (by decide))))))
              have pq908 : (V896 80 gf).toInt = ((V 80 gf)).toInt := congrArg Int32.toInt ((up2_o hV896 (by decide)).trans ((up2_o hV842 (by decide)).trans ((ajV732 80 gf rfl).trans ((up2_o hV723 (by decide)).trans (up2_o hV727 (by decide))))))
              have pq909 : (V896 84 gf).toInt = ((V 84 gf)).toInt := congrArg Int32.toInt ((up2_o hV896 (by decide)).trans ((up2_o hV842 (by decide)).trans ((ajV732 84 gf rfl).trans ((up2_o hV723 (by decide)).trans (up2_o hV727 (by decide))))))
              have pq910 : (V896 5 6).toInt = z900.toInt := congrArg Int32.toInt (up2_s hV896)
              have pq911 : (V896 5 8).toInt = ((V 5 8)).toInt := congrArg Int32.toInt ((up2_k hV896 (by decide)).trans ((up2_o hV842 (by decide)).trans ((ajV732 5 8 rfl).trans ((up2_k hV723 (by decide)).trans (up2_k hV727 (by decide))))))
              have pq912 : (V896 5 9).toInt = 1 := (congrArg Int32.toInt ((up2_k hV896 (by decide)).trans ((up2_o hV842 (by decide)).trans ((ajV732 5 9 rfl).trans ((up2_k hV723 (by decide)).trans (up2_s hV727)))))).trans (by decide)
              have pq913 : (V896 3 13).toInt = ((V 3 13)).toInt := congrArg Int32.toInt ((up2_o hV896 (by decide)).trans ((up2_o hV842 (by decide)).trans ((ajV732 3 13 rfl).trans ((up2_o hV723 (by decide)).trans (up2_o hV727 (by decide))))))
              have pq914 : (V896 43 (5 * b + 2)).toInt = ((V 43 (5 * b + 2))).toInt := congrArg Int32.toInt ((up2_o hV896 (by decide)).trans ((up2_o hV842 (by decide)).trans ((ajV732 43 (5 * b + 2) rfl).trans ((up2_o hV723 (by decide)).trans (up2_o hV727 (by decide))))))
              have pq915 : (V896 42 b).toInt = ((V 42 b)).toInt := congrArg Int32.toInt ((up2_o hV896 (by decide)).trans ((up2_o hV842 (by decide)).trans ((ajV732 42 b rfl).trans ((up2_o hV723 (by decide)).trans (up2_o hV727 (by decide))))))
              have pq916 : (V896 41 b).toInt = ((V 41 b)).toInt := congrArg Int32.toInt ((up2_o hV896 (by decide)).trans ((up2_o hV842 (by decide)).trans ((ajV732 41 b rfl).trans ((up2_o hV723 (by decide)).trans (up2_o hV727 (by decide))))))
              have rp917 : MJ V896 Z b := MP.lv (MO.mp mo) me901 (by (first | exact om_541a228d28bf gd pq890 t894 hz900 pq910 | omega)) (fun _ => Or.inl (by omega))
              have pq918 : (V896 5 11).toInt = ((V 5 11)).toInt := congrArg Int32.toInt ((up2_k hV896 (by decide)).trans ((up2_o hV842 (by decide)).trans ((ajV732 5 11 rfl).trans ((up2_k hV723 (by decide)).trans (up2_k hV727 (by decide))))))
              have pq919 : (V896 5 12).toInt = ((V 5 12)).toInt := congrArg Int32.toInt ((up2_k hV896 (by decide)).trans ((up2_o hV842 (by decide)).trans ((ajV732 5 12 rfl).trans ((up2_k hV723 (by decide)).trans (up2_k hV727 (by decide))))))
              have pq920 : (V896 5 13).toInt = ((V 5 13)).toInt := congrArg Int32.toInt ((up2_k hV896 (by decide)).trans ((up2_o hV842 (by decide)).trans ((ajV732 5 13 rfl).trans ((up2_k hV723 (by decide)).trans (up2_k hV727 (by decide))))))
              have r921 : 0 ≤ ((V 5 13)).toInt ∧ ((V 5 13)).toInt ≤ 3000 := hMV 5 13
              have pq922 : (V896 5 7).toInt = ((V 5 7)).toInt := congrArg Int32.toInt ((up2_k hV896 (by decide)).trans ((up2_o hV842 (by decide)).trans ((ajV732 5 7 rfl).trans ((up2_k hV723 (by decide)).trans (up2_k hV727 (by decide))))))
              have r923 : 0 ≤ ((V 5 7)).toInt ∧ ((V 5 7)).toInt ≤ 2048 := hMV 5 7
              have rn924 : RWn V723 ow gB gm := RWn.es rn (ESw.ag (show agr [(5, 9), (5, 10)] [] V V723 from (agr.up (agr.up agr.rf hV727 rfl) hV723 rfl)) (by decide))
              have rn925 : RWn V732 ow gB (mNote gm o 0) := RWn.note rn924 (fun c9 k9 h1 h2 h3 h4 => (ajV732 c9 k9 rfl)) (Or.inr ⟨hc736, (ajV732 4 6 rfl), fun i9 => ⟨(ajV732 36 i9 rfl), (ajV732 37 i9 rfl)⟩⟩)
              have dx9 : (Int32.toNatClampNeg (V 70 gf)) = o.toNat := by have h9 := i_clamp (x := (V 70 gf)) rfl (by (first | exact om_2996291ce4c2 fo q70 pq904 | omega)); (first | exact om_6acf0db861ed fo q70 pq904 h9 | omega)
              have do9 : ((o.toNat : Nat) : Int) < (mNote gm o 0) 0 2 := by rw [mNt_0 (by decide)]; (first | exact om_5b0e08f69870 r8 fo ra2 q70 pq904 pq913 | omega)
              have db9 := (rn925).2.1 _ do9
              have ds9 : 24 * Int32.toNatClampNeg (V732 27 (Int32.toNatClampNeg (V 70 gf))) + Int32.toNatClampNeg (V732 26 (Int32.toNatClampNeg (V 70 gf))) = 24 * ((mNote gm o 0) 2 o.toNat).toNat + ((mNote gm o 0) 1 o.toNat).toNat := by rw [dx9]; have h1 := db9.1.1; have h2 := db9.1.2.1; have h3 := i_clamp (x := V732 27 o.toNat) rfl (by (first | exact om_57a3b3030c68 db9 | omega)); have h4 := i_clamp (x := V732 26 o.toNat) rfl (by (first | exact om_624b0f847349 db9 | omega)); (first | exact om_5319a23bfaa2 db9 h3 h4 | omega)
              have rn926 : RWn V842 ow gB (mU (mNote gm o 0) 3 o.toNat 2) := RWn.drop rn925 do9 (fun x9 hx9 => up2_k hV842 (by rw [dx9]; exact hx9)) (by rw [← dx9, up2_s hV842]; decide) (fun k9 _ => up2_o hV842 (by decide)) (by rw [← ds9, up2_o hV842 (by decide), if_neg (by rw [← dx9]; have h9 := i_clamp (x := (V 70 gf)) rfl (by (first | exact om_2996291ce4c2 fo q70 pq904 | omega)); omega)]) (fun c9 k9 h1 h2 h3 => (show V842 c9 k9 = V732 c9 k9 from by rw [hV842]; exact up2_pl (by omega)))
              have rn927 : RWn V896 ow gB (mU (mNote gm o 0) 3 o.toNat 2) := RWn.es rn926 (ESw.ag (show agr [(5, 6)] [] V842 V896 from (agr.up agr.rf hV896 rfl)) (by decide))
              have me928 : ME V V896 gf := (ME.up (ME.up (ME.tr (ME.up (ME.up ME.rf hV727 (Or.inr (by (first | exact om_620f5006bfaa  | omega)))) hV723 (Or.inr (by (first | exact om_f41a5f4a8afd  | omega)))) (ME.ag ajV732 (by decide))) hV842 (Or.inr (by (first | exact om_15c89eee5dc0  | omega)))) hV896 (Or.inr (by (first | exact om_f481bd0f1cda  | omega))))
              have rl929 : RWl V896 gB gr t0 := RWl.mv hlr (fun i9 hi9 c9 h1 h2 => me928.2.1 c9 i9 h1 h2 (by (first | exact om_102b9d22baee gd kdp rd rd2 pq890 t894 hz900 hi9 | omega))) (fun j9 hj9 => ((up2_o hV896 (by decide)).trans ((up2_o hV842 (by decide)).trans ((ajV732 39 j9 rfl).trans ((up2_o hV723 (by decide)).trans (up2_o hV727 (by decide))))))) (by rw [((up2_o hV896 (by decide)).trans ((up2_o hV842 (by decide)).trans ((ajV732 3 13 rfl).trans ((up2_o hV723 (by decide)).trans (up2_o hV727 (by decide))))))]; exact Int.le_refl _) ((up2_o hV896 (by decide)).trans ((up2_o hV842 (by decide)).trans ((ajV732 3 12 rfl).trans ((up2_o hV723 (by decide)).trans (up2_o hV727 (by decide))))))
              have rf9 : RWn V896 ow gB (mU (mU (mNote gm o 0) 3 o.toNat 2) 0 6 1) := RWn.mv rn927 (fun j9 hj9 => mU_06 (Or.inr (by omega))) (fun x9 j9 hx9 _ => mU_06 (Or.inl hx9)) (fun _ => rfl) rfl rfl rfl (fun _ _ _ _ _ => rfl)
              have rz9 : RW V896 gB ((mU (mU (mNote gm o 0) 3 o.toNat 2) 0 6 1), 0, gr) := RW.fin rwq rf9 (by rw [mU_06 (Or.inr (by decide))]; rw [mU_o _ _ (by omega), mNt_0 (by decide)]) (fun i9 => (by rw [mU_06 (Or.inl (by decide))]; rw [mU_o _ _ (by omega), mNt_x (by decide) (by decide) (by decide)])) ((up2_k hV896 (by decide)).trans ((up2_o hV842 (by decide)).trans ((ajV732 5 8 rfl).trans ((up2_k hV723 (by decide)).trans (up2_k hV727 (by decide)))))) (fun i9 => ((up2_o hV896 (by decide)).trans ((up2_o hV842 (by decide)).trans ((ajV732 40 i9 rfl).trans ((up2_o hV723 (by decide)).trans (up2_o hV727 (by decide))))))) (by rw [mU_s]; omega) (fun _ => ((up2_k hV896 (by decide)).trans ((up2_o hV842 (by decide)).trans ((ajV732 5 10 rfl).trans (up2_s hV723))))) (fun h9 => by rw [mU_s] at h9; exact absurd h9 (by decide)) (by (first | exact om_0893762427d8 kdp rd rd2 pq890 t894 | omega)) (by rw [((up2_k hV896 (by decide)).trans ((up2_o hV842 (by decide)).trans ((ajV732 5 7 rfl).trans ((up2_k hV723 (by decide)).trans (up2_k hV727 (by decide)))))), rt9, tz9]) rl929
              have rx930 : RW V896 gB (stM gB (gm, ga, gfr :: gr)) := by rw [hfe, st_18.trans (cl_w (by rw [← rh1]; omega) (by rw [← rh1]; omega))]; exact rz9
              refine W.know (fun kr1 kr2 => ?_)
              refine W.widen (k := zcc Z) (n := zss Z) (Nat.sub_le _ _) (Nat.sub_le _ _) ?_
              exact W.vret hx hb hr (fun t ht hW => ⟨⟨(V896, L, Z), rfl, ⟨hMV896, agV896, rfl, zoZ, rp917, rx930⟩, ⟨by rw [ht]; exact hP, va_K.moved hW.alike hK, hD⟩, by rw [ht]; exact kr1, by rw [ht]; exact kr2⟩, hS.F ht⟩) hS.2.2 dX5_goOnClosing_113
        · skip
          have f931 : ((V 5 9)).toInt = 3 := b_eq rfl (by decide) c714
          refine lv_bipush (v := 18) hx hb dX5_goOnClosing_75 (by decide) ?_
          refine lv_istore_n (lv' := [(3, .int 18), (2, .int (V 57 (24 * b + (Int32.toNatClampNeg (V 71 gf))))), (0, .ref (ad 5)), (1, .ref (Z.fa gf))]) hx hb dX5_goOnClosing_77 rfl hl (by decide) rfl (fun ls hl => ?_)
          refine lv_goto (tgt := 86) hx hb dX5_goOnClosing_78 (by decide) ?_
          refine lv_aload_n hx hb dX5_goOnClosing_86 rfl (lv_at hl 2 rfl) ?_
          refine va_get (D := D) (ci := 5) (v := .ref (ad 4)) (fs := (xfMachine ad V L Z)) (C := RX5) (T := TX5) (N := 15) hx hb hg inX5 hown hK hP 5 xgMachine rfl 1 (by decide) (hg _ w668) (fun _ h9 => h9) rfl dX5_goOnClosing_87 ?_
          refine lv_aload_n hx hb dX5_goOnClosing_90 rfl (lv_at hl 3 rfl) ?_
          refine va_getN (D := D) (ci := 4) (v := .int (V 70 gf)) (fs := (xfFrame V gf)) (C := RX4) (T := TX4) (N := 19) hx hb hg inX4 hown hK hP (336 + gf) (xgFrame hgf) rfl 3 (by decide) (hnw.use 1192 n1192 rfl) (fun _ h9 => h9) rfl dX5_goOnClosing_91 ?_
          refine lv_iload_n hx hb dX5_goOnClosing_94 rfl (lv_at hl 0 rfl) ?_
          have r932 : Int32.toInt 18 = 18 := by decide
          refine gA_void (gA_runV (As := [.int (V 70 gf), .int 18]) (rest := []) (ci := 7) (q0 := 4) hx hb hml hown hg hP hD hK hS hA hnw hgk (x_noteClosing9 l D ks H.size ad kk V L Z (V 70 gf) 18 hMV ) w1497 w1498 w1499 w166 w1500 rfl xgNotes hdV_yX7_noteClosing ⟨Nat.le_of_ble_eq_true rfl, Nat.le_of_ble_eq_true rfl⟩ rfl hl.1 rfl (Nat.le_of_ble_eq_true rfl) dX5_goOnClosing_95 ⟨z0, z0⟩) hP hD hK hS hA (fun u934 H locs w935 hP hD hK hS => ?_)
          obtain ⟨V937, L938⟩ := u934
          obtain ⟨hMV937, ajV937, axL938, t936⟩ := w935
          have axL938 : L = L938 := Eq.symm axL938
          subst axL938
          have hP : va_P D vwCl (xw ad kk V937 L Z) H := hP
          have hD : va_D A (xw ad kk V937 L Z) := hD
          have hMV937 : rgd bX V937 := hMV937
          have ajV937 : agr [(4, 6)] [36, 37] V V937 := ajV937
          have agV937 : agr [(4, 6), (5, 6), (5, 9), (5, 10)] [25, 28, 36, 37, 67, 68, 69, 70, 71, 72, 73, 74, 75, 76, 77, 78, 79, 80, 81, 82, 83, 84, 85] V V937 := agV.tr ajV937 (by decide) (by decide)
          have t936 : (((V 4 6).toInt < 300) ∧ V937 = (up2 (up2 (up2 V 36 (Int32.toNatClampNeg (V 4 6)) (V 70 gf)) 37 (Int32.toNatClampNeg (V 4 6)) 18) 4 6 (V 4 6 + 1))) ∨ ((300 ≤ (V 4 6).toInt) ∧ V937 = V) := t936
          rcases t936 with ⟨hc939, hw940⟩ | ⟨hc941, hw942⟩
          · skip
            obtain ⟨V943, hV943⟩ : ∃ z, z = up2 V 36 (Int32.toNatClampNeg (V 4 6)) (V 70 gf) := ⟨_, rfl⟩
            obtain ⟨V944, hV944⟩ : ∃ z, z = up2 V943 37 (Int32.toNatClampNeg (V 4 6)) 18 := ⟨_, rfl⟩
            have r946 : 0 ≤ ((V 4 6)).toInt ∧ ((V 4 6)).toInt ≤ 300 := hMV 4 6
            obtain ⟨z945, ez945⟩ : ∃ y : Int32, y = V 4 6 + 1 := ⟨_, rfl⟩
            have hz945 : z945.toInt = (V 4 6).toInt + 1 := i_add ez945 rfl (by decide) (by (first | exact om_5b8d680fa6e8 r946.1 r946.2 | omega))
            have hV937 : V937 = up2 V944 4 6 z945 := by rw [hw940, hV944, hV943, ez945]
            refine lv_aload_n hx hb dX5_goOnClosing_98 rfl (lv_at hl 2 rfl) ?_
            refine va_get (D := D) (ci := 5) (v := .ref (ad 3)) (fs := (xfMachine ad V937 L Z)) (C := RX5) (T := TX5) (N := 15) hx hb hg inX5 hown hK hP 5 xgMachine rfl 0 (by decide) (hg _ w667) (fun _ h9 => h9) rfl dX5_goOnClosing_99 ?_
            refine lv_aload_n hx hb dX5_goOnClosing_102 rfl (lv_at hl 3 rfl) ?_
            refine va_getN (D := D) (ci := 4) (v := .int (V937 70 gf)) (fs := (xfFrame V937 gf)) (C := RX4) (T := TX4) (N := 19) hx hb hg inX4 hown hK hP (336 + gf) (xgFrame hgf) rfl 3 (by decide) (hnw.use 1192 n1192 rfl) (fun _ h9 => h9) rfl dX5_goOnClosing_103 ?_
            refine g_top (v := (V 70 gf)) ((up2_o hV937 (by decide)).trans ((up2_o hV944 (by decide)).trans (up2_o hV943 (by decide)))) ?_
            refine gA_void (gA_runV (As := [.int (V 70 gf)]) (rest := []) (ci := 8) (q0 := 3) hx hb hml hown hg hP hD hK hS hA hnw hgk (x_dropObject9 l D ks H.size ad kk V937 L Z (V 70 gf) hMV937 (by (first | exact om_d0c9b7046452 r8 fo ra2 q70 | omega))) w1336 w1337 w1338 w164 w1339 rfl xgStock hdV_yX8_dropObject ⟨Nat.le_of_ble_eq_true rfl, Nat.le_of_ble_eq_true rfl⟩ rfl hl.1 rfl (Nat.le_of_ble_eq_true rfl) dX5_goOnClosing_106 ⟨z0, z0⟩) hP hD hK hS hA (fun u948 H locs w949 hP hD hK hS => ?_)
            obtain ⟨V952, L953⟩ := u948
            obtain ⟨hMV952, ajV952, axL953, t950, t951⟩ := w949
            have axL953 : L = L953 := Eq.symm axL953
            subst axL953
            have hP : va_P D vwCl (xw ad kk V952 L Z) H := hP
            have hD : va_D A (xw ad kk V952 L Z) := hD
            have hMV952 : rgd bX V952 := hMV952
            have ajV952 : agr [] [25, 28] V937 V952 := ajV952
            have agV952 : agr [(4, 6), (5, 6), (5, 9), (5, 10)] [25, 28, 36, 37, 67, 68, 69, 70, 71, 72, 73, 74, 75, 76, 77, 78, 79, 80, 81, 82, 83, 84, 85] V V952 := agV937.tr ajV952 (by decide) (by decide)
            have t950 : ∀ n, ME V937 V952 n := t950
            have t951 : (((V937 25 (24 * Int32.toNatClampNeg (V937 27 (Int32.toNatClampNeg (V 70 gf))) + Int32.toNatClampNeg (V937 26 (Int32.toNatClampNeg (V 70 gf))))).toInt = ((V 70 gf)).toInt) ∧ V952 = (up2 (up2 V937 28 (Int32.toNatClampNeg (V 70 gf)) 2) 25 (24 * Int32.toNatClampNeg (V937 27 (Int32.toNatClampNeg (V 70 gf))) + Int32.toNatClampNeg (V937 26 (Int32.toNatClampNeg (V 70 gf)))) (-1))) ∨ (((V937 25 (24 * Int32.toNatClampNeg (V937 27 (Int32.toNatClampNeg (V 70 gf))) + Int32.toNatClampNeg (V937 26 (Int32.toNatClampNeg (V 70 gf))))).toInt ≠ ((V 70 gf)).toInt) ∧ V952 = (up2 V937 28 (Int32.toNatClampNeg (V 70 gf)) 2)) := t951
            rcases t951 with ⟨hc954, hw955⟩ | ⟨hc956, hw957⟩
            · skip
              obtain ⟨V958, hV958⟩ : ∃ z, z = up2 V937 28 (Int32.toNatClampNeg (V 70 gf)) 2 := ⟨_, rfl⟩
              have hV952 : V952 = up2 V958 25 (24 * Int32.toNatClampNeg (V937 27 (Int32.toNatClampNeg (V 70 gf))) + Int32.toNatClampNeg (V937 26 (Int32.toNatClampNeg (V 70 gf)))) (-1) := by rw [hw955, hV958]
              refine lv_aload_n hx hb dX5_goOnClosing_109 rfl (lv_at hl 2 rfl) ?_
              have pq959 : (V952 5 6).toInt = ((V 5 6)).toInt := congrArg Int32.toInt ((up2_o hV952 (by decide)).trans ((up2_o hV958 (by decide)).trans ((up2_o hV937 (by decide)).trans ((up2_o hV944 (by decide)).trans (up2_o hV943 (by decide))))))
              refine gA_void (gA_runV (As := []) (rest := []) (ci := 5) (q0 := 5) hx hb hml hown hg hP hD hK hS hA hnw hgk (x_leave9 l D ks H.size ad kk V952 L Z  hMV952 (show 1 ≤ (V952 5 6).toInt from by (first | exact om_c36fd4a9fcac gd gl9 pq959 | omega))) w1308 w1310 w50 w171 w1311 rfl xgMachine hdV_yX5_leave ⟨Nat.le_of_ble_eq_true rfl, Nat.le_of_ble_eq_true rfl⟩ rfl hl.1 rfl (Nat.le_of_ble_eq_true rfl) dX5_goOnClosing_110 ⟨z0, z0⟩) hP hD hK hS hA (fun u961 H locs w962 hP hD hK hS => ?_)
              obtain ⟨V965, L966⟩ := u961
              obtain ⟨hMV965, ajV965, axL966, t963, t964⟩ := w962
              have axL966 : L = L966 := Eq.symm axL966
              subst axL966
              have hP : va_P D vwCl (xw ad kk V965 L Z) H := hP
              have hD : va_D A (xw ad kk V965 L Z) := hD
              have hMV965 : rgd bX V965 := hMV965
              have ajV965 : agr [(5, 6)] [] V952 V965 := ajV965
              have agV965 : agr [(4, 6), (5, 6), (5, 9), (5, 10)] [25, 28, 36, 37, 67, 68, 69, 70, 71, 72, 73, 74, 75, 76, 77, 78, 79, 80, 81, 82, 83, 84, 85] V V965 := agV952.tr ajV965 (by decide) (by decide)
              have t963 : (V965 5 6).toInt = (V952 5 6).toInt - 1 := t963
              have t964 : ((True) ∧ V965 = (up2 V952 5 6 (V952 5 6 - 1))) := t964
              have r967 : 0 ≤ ((V965 5 6)).toInt ∧ ((V965 5 6)).toInt ≤ 400 := hMV965 5 6
              have hw968 := t964.2
              obtain ⟨z969, ez969⟩ : ∃ y : Int32, y = V952 5 6 - 1 := ⟨_, rfl⟩
              have hz969 : z969.toInt = (V952 5 6).toInt - 1 := i_sub ez969 rfl (by decide) (by (first | exact om_70510bf9f0cb gd gl9 sl9 pq959 | omega))
              have hV965 : V965 = up2 V952 5 6 z969 := by rw [hw968, ez969]
              have me970 : ME V V965 gf := (ME.up (ME.up (ME.up (ME.up (ME.up (ME.up ME.rf hV943 (Or.inr (by (first | exact om_cafd1137c917  | omega)))) hV944 (Or.inr (by (first | exact om_c9c9e20ea0d3  | omega)))) hV937 (Or.inr (by (first | exact om_5d9c67e1ed13  | omega)))) hV958 (Or.inr (by (first | exact om_15c89eee5dc0  | omega)))) hV952 (Or.inr (by omega))) hV965 (Or.inr (by (first | exact om_f481bd0f1cda  | omega))))
              have pq971 : (V965 67 gf).toInt = ((V 67 gf)).toInt := congrArg Int32.toInt ((up2_o hV965 (by decide)).trans ((up2_o hV952 (by decide)).trans ((up2_o hV958 (by decide)).trans ((up2_o hV937 (by decide)).trans ((up2_o hV944 (by decide)).trans (up2_o hV943 (by decide)))))))
              have pq972 : (V965 68 gf).toInt = ((V 68 gf)).toInt := congrArg Int32.toInt ((up2_o hV965 (by decide)).trans ((up2_o hV952 (by decide)).trans ((up2_o hV958 (by decide)).trans ((up2_o hV937 (by decide)).trans ((up2_o hV944 (by decide)).trans (up2_o hV943 (by decide)))))))
              have pq973 : (V965 70 gf).toInt = ((V 70 gf)).toInt := congrArg Int32.toInt ((up2_o hV965 (by decide)).trans ((up2_o hV952 (by decide)).trans ((up2_o hV958 (by decide)).trans ((up2_o hV937 (by decide)).trans ((up2_o hV944 (by decide)).trans (up2_o hV943 (by decide)))))))
              have pq974 : (V965 71 gf).toInt = ((V 71 gf)).toInt := congrArg Int32.toInt ((up2_o hV965 (by decide)).trans ((up2_o hV952 (by decide)).trans ((up2_o hV958 (by decide)).trans ((up2_o hV937 (by decide)).trans ((up2_o hV944 (by decide)).trans (up2_o hV943 (by decide)))))))
              have pq975 : (V965 75 gf).toInt = ((V 75 gf)).toInt := congrArg Int32.toInt ((up2_o hV965 (by decide)).trans ((up2_o hV952 (by decide)).trans ((up2_o hV958 (by decide)).trans ((up2_o hV937 (by decide)).trans ((up2_o hV944 (by decide)).trans (up2_o hV943 (by decide)))))))
              have pq976 : (V965 76 gf).toInt = ((V 76 gf)).toInt := congrArg Int32.toInt ((up2_o hV965 (by decide)).trans ((up2_o hV952 (by decide)).trans ((up2_o hV958 (by decide)).trans ((up2_o hV937 (by decide)).trans ((up2_o hV944 (by decide)).trans (up2_o hV943 (by decide)))))))
              have pq977 : (V965 80 gf).toInt = ((V 80 gf)).toInt := congrArg Int32.toInt ((up2_o hV965 (by decide)).trans ((up2_o hV952 (by decide)).trans ((up2_o hV958 (by decide)).trans ((up2_o hV937 (by decide)).trans ((up2_o hV944 (by decide)).trans (up2_o hV943 (by decide)))))))
              have pq978 : (V965 84 gf).toInt = ((V 84 gf)).toInt := congrArg Int32.toInt ((up2_o hV965 (by decide)).trans ((up2_o hV952 (by decide)).trans ((up2_o hV958 (by decide)).trans ((up2_o hV937 (by decide)).trans ((up2_o hV944 (by decide)).trans (up2_o hV943 (by decide)))))))
              have pq979 : (V965 5 6).toInt = z969.toInt := congrArg Int32.toInt (up2_s hV965)
              have pq980 : (V965 5 8).toInt = ((V 5 8)).toInt := congrArg Int32.toInt ((up2_k hV965 (by decide)).trans ((up2_o hV952 (by decide)).trans ((up2_o hV958 (by decide)).trans ((up2_o hV937 (by decide)).trans ((up2_o hV944 (by decide)).trans (up2_o hV943 (by decide)))))))
              have pq981 : (V965 5 9).toInt = ((V 5 9)).toInt := congrArg Int32.toInt ((up2_k hV965 (by decide)).trans ((up2_o hV952 (by decide)).trans ((up2_o hV958 (by decide)).trans ((up2_o hV937 (by decide)).trans ((up2_o hV944 (by decide)).trans (up2_o hV943 (by decide)))))))
              have pq982 : (V965 3 13).toInt = ((V 3 13)).toInt := congrArg Int32.toInt ((up2_o hV965 (by decide)).trans ((up2_o hV952 (by decide)).trans ((up2_o hV958 (by decide)).trans ((up2_o hV937 (by decide)).trans ((up2_o hV944 (by decide)).trans (up2_o hV943 (by decide)))))))
              have pq983 : (V965 43 (5 * b + 2)).toInt = ((V 43 (5 * b + 2))).toInt := congrArg Int32.toInt ((up2_o hV965 (by decide)).trans ((up2_o hV952 (by decide)).trans ((up2_o hV958 (by decide)).trans ((up2_o hV937 (by decide)).trans ((up2_o hV944 (by decide)).trans (up2_o hV943 (by decide)))))))
              have pq984 : (V965 42 b).toInt = ((V 42 b)).toInt := congrArg Int32.toInt ((up2_o hV965 (by decide)).trans ((up2_o hV952 (by decide)).trans ((up2_o hV958 (by decide)).trans ((up2_o hV937 (by decide)).trans ((up2_o hV944 (by decide)).trans (up2_o hV943 (by decide)))))))
              have pq985 : (V965 41 b).toInt = ((V 41 b)).toInt := congrArg Int32.toInt ((up2_o hV965 (by decide)).trans ((up2_o hV952 (by decide)).trans ((up2_o hV958 (by decide)).trans ((up2_o hV937 (by decide)).trans ((up2_o hV944 (by decide)).trans (up2_o hV943 (by decide)))))))
              have rp986 : MJ V965 Z b := MP.lv (MO.mp mo) me970 (by (first | exact om_541a228d28bf gd pq959 t963 hz969 pq979 | omega)) (fun _ => Or.inl (by omega))
              have pq987 : (V965 5 11).toInt = ((V 5 11)).toInt := congrArg Int32.toInt ((up2_k hV965 (by decide)).trans ((up2_o hV952 (by decide)).trans ((up2_o hV958 (by decide)).trans ((up2_o hV937 (by decide)).trans ((up2_o hV944 (by decide)).trans (up2_o hV943 (by decide)))))))
              have pq988 : (V965 5 12).toInt = ((V 5 12)).toInt := congrArg Int32.toInt ((up2_k hV965 (by decide)).trans ((up2_o hV952 (by decide)).trans ((up2_o hV958 (by decide)).trans ((up2_o hV937 (by decide)).trans ((up2_o hV944 (by decide)).trans (up2_o hV943 (by decide)))))))
              have pq989 : (V965 5 13).toInt = ((V 5 13)).toInt := congrArg Int32.toInt ((up2_k hV965 (by decide)).trans ((up2_o hV952 (by decide)).trans ((up2_o hV958 (by decide)).trans ((up2_o hV937 (by decide)).trans ((up2_o hV944 (by decide)).trans (up2_o hV943 (by decide)))))))
              have r990 : 0 ≤ ((V 5 13)).toInt ∧ ((V 5 13)).toInt ≤ 3000 := hMV 5 13
              have pq991 : (V965 5 7).toInt = ((V 5 7)).toInt := congrArg Int32.toInt ((up2_k hV965 (by decide)).trans ((up2_o hV952 (by decide)).trans ((up2_o hV958 (by decide)).trans ((up2_o hV937 (by decide)).trans ((up2_o hV944 (by decide)).trans (up2_o hV943 (by decide)))))))
              have r992 : 0 ≤ ((V 5 7)).toInt ∧ ((V 5 7)).toInt ≤ 2048 := hMV 5 7
              have rn993 : RWn V937 ow gB (mNote gm o 18) := RWn.note rn (fun c9 k9 h1 h2 h3 h4 => ((show V937 c9 k9 = V944 c9 k9 from by rw [hV937]; exact up2_pl (by omega)).trans ((show V944 c9 k9 = V943 c9 k9 from by rw [hV944]; exact up2_pl (by omega)).trans (show V943 c9 k9 = V c9 k9 from by rw [hV943]; exact up2_pl (by omega))))) (Or.inl ⟨hc939, (by rw [up2_s hV937]; exact hz945), (fun i9 hi9 => ⟨(up2_o hV937 (by decide)).trans ((up2_o hV944 (by decide)).trans (up2_k hV943 hi9)), (up2_o hV937 (by decide)).trans ((up2_k hV944 hi9).trans (up2_o hV943 (by decide)))⟩), (show (V937 36 (Int32.toNatClampNeg (V 4 6))).toInt = o from by rw [(up2_o hV937 (by decide)).trans ((up2_o hV944 (by decide)).trans (up2_s hV943))]; exact q70), (show (V937 37 (Int32.toNatClampNeg (V 4 6))).toInt = 18 from by rw [(up2_o hV937 (by decide)).trans (up2_s hV944)]; decide)⟩)
              have dx9 : (Int32.toNatClampNeg (V 70 gf)) = o.toNat := by have h9 := i_clamp (x := (V 70 gf)) rfl (by (first | exact om_c42429f26483 fo q70 hc954 pq973 | omega)); (first | exact om_cdba46fd13a1 fo q70 hc954 pq973 h9 | omega)
              have do9 : ((o.toNat : Nat) : Int) < (mNote gm o 18) 0 2 := by rw [mNt_0 (by decide)]; (first | exact om_b313c004abde r8 fo ra2 q70 hc954 pq973 pq982 | omega)
              have db9 := (rn993).2.1 _ do9
              have ds9 : 24 * Int32.toNatClampNeg (V937 27 (Int32.toNatClampNeg (V 70 gf))) + Int32.toNatClampNeg (V937 26 (Int32.toNatClampNeg (V 70 gf))) = 24 * ((mNote gm o 18) 2 o.toNat).toNat + ((mNote gm o 18) 1 o.toNat).toNat := by rw [dx9]; have h1 := db9.1.1; have h2 := db9.1.2.1; have h3 := i_clamp (x := V937 27 o.toNat) rfl (by (first | exact om_57a3b3030c68 db9 | omega)); have h4 := i_clamp (x := V937 26 o.toNat) rfl (by (first | exact om_624b0f847349 db9 | omega)); (first | exact om_5319a23bfaa2 db9 h3 h4 | omega)
              have rn994 : RWn V952 ow gB (mU (mNote gm o 18) 3 o.toNat 2) := RWn.drop rn993 do9 (fun x9 hx9 => (up2_o hV952 (by decide)).trans (up2_k hV958 (by rw [dx9]; exact hx9))) (by rw [← dx9, (up2_o hV952 (by decide)).trans (up2_s hV958)]; decide) (fun k9 hk9 => (up2_k hV952 (by rw [ds9]; exact hk9)).trans (up2_o hV958 (by decide))) (by rw [← ds9, up2_s hV952, if_pos (by rw [← dx9]; have h9 := i_clamp (x := (V 70 gf)) rfl (by (first | exact om_c42429f26483 fo q70 hc954 pq973 | omega)); (first | exact om_31a30e49af65 q70 hc954 pq973 dx9 h9 | omega))]; decide) (fun c9 k9 h1 h2 h3 => ((show V952 c9 k9 = V958 c9 k9 from by rw [hV952]; exact up2_pl (by omega)).trans (show V958 c9 k9 = V937 c9 k9 from by rw [hV958]; exact up2_pl (by omega))))
              have rn995 : RWn V965 ow gB (mU (mNote gm o 18) 3 o.toNat 2) := RWn.es rn994 (ESw.ag (show agr [(5, 6)] [] V952 V965 from (agr.up agr.rf hV965 rfl)) (by decide))
              have me996 : ME V V965 gf := (ME.up (ME.up (ME.up (ME.up (ME.up (ME.up ME.rf hV943 (Or.inr (by (first | exact om_cafd1137c917  | omega)))) hV944 (Or.inr (by (first | exact om_c9c9e20ea0d3  | omega)))) hV937 (Or.inr (by (first | exact om_5d9c67e1ed13  | omega)))) hV958 (Or.inr (by (first | exact om_15c89eee5dc0  | omega)))) hV952 (Or.inr (by omega))) hV965 (Or.inr (by (first | exact om_f481bd0f1cda  | omega))))
              have rl997 : RWl V965 gB gr t0 := RWl.mv hlr (fun i9 hi9 c9 h1 h2 => me996.2.1 c9 i9 h1 h2 (by (first | exact om_102b9d22baee gd kdp rd rd2 pq959 t963 hz969 hi9 | omega))) (fun j9 hj9 => ((up2_o hV965 (by decide)).trans ((up2_o hV952 (by decide)).trans ((up2_o hV958 (by decide)).trans ((up2_o hV937 (by decide)).trans ((up2_o hV944 (by decide)).trans (up2_o hV943 (by decide)))))))) (by rw [((up2_o hV965 (by decide)).trans ((up2_o hV952 (by decide)).trans ((up2_o hV958 (by decide)).trans ((up2_o hV937 (by decide)).trans ((up2_o hV944 (by decide)).trans (up2_o hV943 (by decide)))))))]; exact Int.le_refl _) ((up2_o hV965 (by decide)).trans ((up2_o hV952 (by decide)).trans ((up2_o hV958 (by decide)).trans ((up2_o hV937 (by decide)).trans ((up2_o hV944 (by decide)).trans (up2_o hV943 (by decide)))))))
              have rz9 : RW V965 gB ((mU (mNote gm o 18) 3 o.toNat 2), ga, gr) := RW.fin rwq rn995 (by rw [mU_o _ _ (by omega), mNt_0 (by decide)]) (fun i9 => (by rw [mU_o _ _ (by omega), mNt_x (by decide) (by decide) (by decide)])) ((up2_k hV965 (by decide)).trans ((up2_o hV952 (by decide)).trans ((up2_o hV958 (by decide)).trans ((up2_o hV937 (by decide)).trans ((up2_o hV944 (by decide)).trans (up2_o hV943 (by decide))))))) (fun i9 => ((up2_o hV965 (by decide)).trans ((up2_o hV952 (by decide)).trans ((up2_o hV958 (by decide)).trans ((up2_o hV937 (by decide)).trans ((up2_o hV944 (by decide)).trans (up2_o hV943 (by decide)))))))) (by rw [(show (mU (mNote gm o 18) 3 o.toNat 2) 0 6 = gm 0 6 from by rw [mU_o _ _ (by omega), mNt_0 (by decide)])]; (first | exact om_ba837528b673 rh1 f931 pq981 | omega)) (fun h9 => by rw [(show (mU (mNote gm o 18) 3 o.toNat 2) 0 6 = gm 0 6 from by rw [mU_o _ _ (by omega), mNt_0 (by decide)])] at h9; exfalso; (first | exact om_d841449c9c41 rh1 f931 h9 | omega)) (fun h9 => by rw [mU_o _ _ (by omega), mU_o _ _ (by omega), mNt_0 (by decide), mNt_0 (by decide)]; rw [(show (mU (mNote gm o 18) 3 o.toNat 2) 0 6 = gm 0 6 from by rw [mU_o _ _ (by omega), mNt_0 (by decide)])] at h9; exfalso; (first | exact om_72d17bfe283f rh1 f931 h9 | omega)) (by (first | exact om_0893762427d8 kdp rd rd2 pq959 t963 | omega)) (by rw [((up2_k hV965 (by decide)).trans ((up2_o hV952 (by decide)).trans ((up2_o hV958 (by decide)).trans ((up2_o hV937 (by decide)).trans ((up2_o hV944 (by decide)).trans (up2_o hV943 (by decide))))))), rt9, tz9]) rl997
              have rx998 : RW V965 gB (stM gB (gm, ga, gfr :: gr)) := by rw [hfe, st_18.trans (cl_s (by rw [← rh1]; omega))]; exact rz9
              refine W.know (fun kr1 kr2 => ?_)
              refine W.widen (k := zcc Z) (n := zss Z) (Nat.sub_le _ _) (Nat.sub_le _ _) ?_
              exact W.vret hx hb hr (fun t ht hW => ⟨⟨(V965, L, Z), rfl, ⟨hMV965, agV965, rfl, zoZ, rp986, rx998⟩, ⟨by rw [ht]; exact hP, va_K.moved hW.alike hK, hD⟩, by rw [ht]; exact kr1, by rw [ht]; exact kr2⟩, hS.F ht⟩) hS.2.2 dX5_goOnClosing_113
            · skip
              have hV952 : V952 = up2 V937 28 (Int32.toNatClampNeg (V 70 gf)) 2 := by rw [hw957]
              refine lv_aload_n hx hb dX5_goOnClosing_109 rfl (lv_at hl 2 rfl) ?_
              have pq999 : (V952 5 6).toInt = ((V 5 6)).toInt := congrArg Int32.toInt ((up2_o hV952 (by decide)).trans ((up2_o hV937 (by decide)).trans ((up2_o hV944 (by decide)).trans (up2_o hV943 (by decide)))))
              refine gA_void (gA_runV (As := []) (rest := []) (ci := 5) (q0 := 5) hx hb hml hown hg hP hD hK hS hA hnw hgk (x_leave9 l D ks H.size ad kk V952 L Z  hMV952 (show 1 ≤ (V952 5 6).toInt from by (first | exact om_c36fd4a9fcac gd gl9 pq999 | omega))) w1308 w1310 w50 w171 w1311 rfl xgMachine hdV_yX5_leave ⟨Nat.le_of_ble_eq_true rfl, Nat.le_of_ble_eq_true rfl⟩ rfl hl.1 rfl (Nat.le_of_ble_eq_true rfl) dX5_goOnClosing_110 ⟨z0, z0⟩) hP hD hK hS hA (fun u1001 H locs w1002 hP hD hK hS => ?_)
              obtain ⟨V1005, L1006⟩ := u1001
              obtain ⟨hMV1005, ajV1005, axL1006, t1003, t1004⟩ := w1002
              have axL1006 : L = L1006 := Eq.symm axL1006
              subst axL1006
              have hP : va_P D vwCl (xw ad kk V1005 L Z) H := hP
              have hD : va_D A (xw ad kk V1005 L Z) := hD
              have hMV1005 : rgd bX V1005 := hMV1005
              have ajV1005 : agr [(5, 6)] [] V952 V1005 := ajV1005
              have agV1005 : agr [(4, 6), (5, 6), (5, 9), (5, 10)] [25, 28, 36, 37, 67, 68, 69, 70, 71, 72, 73, 74, 75, 76, 77, 78, 79, 80, 81, 82, 83, 84, 85] V V1005 := agV952.tr ajV1005 (by decide) (by decide)
              have t1003 : (V1005 5 6).toInt = (V952 5 6).toInt - 1 := t1003
              have t1004 : ((True) ∧ V1005 = (up2 V952 5 6 (V952 5 6 - 1))) := t1004
              have r1007 : 0 ≤ ((V1005 5 6)).toInt ∧ ((V1005 5 6)).toInt ≤ 400 := hMV1005 5 6
              have hw1008 := t1004.2
              obtain ⟨z1009, ez1009⟩ : ∃ y : Int32, y = V952 5 6 - 1 := ⟨_, rfl⟩
              have hz1009 : z1009.toInt = (V952 5 6).toInt - 1 := i_sub ez1009 rfl (by decide) (by (first | exact om_70510bf9f0cb gd gl9 sl9 pq999 | omega))
              have hV1005 : V1005 = up2 V952 5 6 z1009 := by rw [hw1008, ez1009]
              have me1010 : ME V V1005 gf := (ME.up (ME.up (ME.up (ME.up (ME.up ME.rf hV943 (Or.inr (by (first | exact om_cafd1137c917  | omega)))) hV944 (Or.inr (by (first | exact om_c9c9e20ea0d3  | omega)))) hV937 (Or.inr (by (first | exact om_5d9c67e1ed13  | omega)))) hV952 (Or.inr (by (first | exact om_15c89eee5dc0  | omega)))) hV1005 (Or.inr (by (first | exact om_f481bd0f1cda  | omega))))
              have pq1011 : (V1005 67 gf).toInt = ((V 67 gf)).toInt := congrArg Int32.toInt ((up2_o hV1005 (by decide)).trans ((up2_o hV952 (by decide)).trans ((up2_o hV937 (by decide)).trans ((up2_o hV944 (by decide)).trans (up2_o hV943 (by decide))))))
              have pq1012 : (V1005 68 gf).toInt = ((V 68 gf)).toInt := congrArg Int32.toInt ((up2_o hV1005 (by decide)).trans ((up2_o hV952 (by decide)).trans ((up2_o hV937 (by decide)).trans ((up2_o hV944 (by decide)).trans (up2_o hV943 (by decide))))))
              have pq1013 : (V1005 70 gf).toInt = ((V 70 gf)).toInt := congrArg Int32.toInt ((up2_o hV1005 (by decide)).trans ((up2_o hV952 (by decide)).trans ((up2_o hV937 (by decide)).trans ((up2_o hV944 (by decide)).trans (up2_o hV943 (by decide))))))
              have pq1014 : (V1005 71 gf).toInt = ((V 71 gf)).toInt := congrArg Int32.toInt ((up2_o hV1005 (by decide)).trans ((up2_o hV952 (by decide)).trans ((up2_o hV937 (by decide)).trans ((up2_o hV944 (by decide)).trans (up2_o hV943 (by decide))))))
              have pq1015 : (V1005 75 gf).toInt = ((V 75 gf)).toInt := congrArg Int32.toInt ((up2_o hV1005 (by decide)).trans ((up2_o hV952 (by decide)).trans ((up2_o hV937 (by decide)).trans ((up2_o hV944 (by decide)).trans (up2_o hV943 (by decide))))))
              have pq1016 : (V1005 76 gf).toInt = ((V 76 gf)).toInt := congrArg Int32.toInt ((up2_o hV1005 (by decide)).trans ((up2_o hV952 (by decide)).trans ((up2_o hV937 (by decide)).trans ((up2_o hV944 (by decide)).trans (up2_o hV943 (by decide))))))
              have pq1017 : (V1005 80 gf).toInt = ((V 80 gf)).toInt := congrArg Int32.toInt ((up2_o hV1005 (by decide)).trans ((up2_o hV952 (by decide)).trans ((up2_o hV937 (by decide)).trans ((up2_o hV944 (by decide)).trans (up2_o hV943 (by decide))))))
              have pq1018 : (V1005 84 gf).toInt = ((V 84 gf)).toInt := congrArg Int32.toInt ((up2_o hV1005 (by decide)).trans ((up2_o hV952 (by decide)).trans ((up2_o hV937 (by decide)).trans ((up2_o hV944 (by decide)).trans (up2_o hV943 (by decide))))))
              have pq1019 : (V1005 5 6).toInt = z1009.toInt := congrArg Int32.toInt (up2_s hV1005)
              have pq1020 : (V1005 5 8).toInt = ((V 5 8)).toInt := congrArg Int32.toInt ((up2_k hV1005 (by decide)).trans ((up2_o hV952 (by decide)).trans ((up2_o hV937 (by decide)).trans ((up2_o hV944 (by decide)).trans (up2_o hV943 (by decide))))))
              have pq1021 : (V1005 5 9).toInt = ((V 5 9)).toInt := congrArg Int32.toInt ((up2_k hV1005 (by decide)).trans ((up2_o hV952 (by decide)).trans ((up2_o hV937 (by decide)).trans ((up2_o hV944 (by decide)).trans (up2_o hV943 (by decide))))))
              have pq1022 : (V1005 3 13).toInt = ((V 3 13)).toInt := congrArg Int32.toInt ((up2_o hV1005 (by decide)).trans ((up2_o hV952 (by decide)).trans ((up2_o hV937 (by decide)).trans ((up2_o hV944 (by decide)).trans (up2_o hV943 (by decide))))))
              have pq1023 : (V1005 43 (5 * b + 2)).toInt = ((V 43 (5 * b + 2))).toInt := congrArg Int32.toInt ((up2_o hV1005 (by decide)).trans ((up2_o hV952 (by decide)).trans ((up2_o hV937 (by decide)).trans ((up2_o hV944 (by decide)).trans (up2_o hV943 (by decide))))))
              have pq1024 : (V1005 42 b).toInt = ((V 42 b)).toInt := congrArg Int32.toInt ((up2_o hV1005 (by decide)).trans ((up2_o hV952 (by decide)).trans ((up2_o hV937 (by decide)).trans ((up2_o hV944 (by decide)).trans (up2_o hV943 (by decide))))))
              have pq1025 : (V1005 41 b).toInt = ((V 41 b)).toInt := congrArg Int32.toInt ((up2_o hV1005 (by decide)).trans ((up2_o hV952 (by decide)).trans ((up2_o hV937 (by decide)).trans ((up2_o hV944 (by decide)).trans (up2_o hV943 (by decide))))))
              have rp1026 : MJ V1005 Z b := MP.lv (MO.mp mo) me1010 (by (first | exact om_541a228d28bf gd pq999 t1003 hz1009 pq1019 | omega)) (fun _ => Or.inl (by omega))
              have pq1027 : (V1005 5 11).toInt = ((V 5 11)).toInt := congrArg Int32.toInt ((up2_k hV1005 (by decide)).trans ((up2_o hV952 (by decide)).trans ((up2_o hV937 (by decide)).trans ((up2_o hV944 (by decide)).trans (up2_o hV943 (by decide))))))
              have pq1028 : (V1005 5 12).toInt = ((V 5 12)).toInt := congrArg Int32.toInt ((up2_k hV1005 (by decide)).trans ((up2_o hV952 (by decide)).trans ((up2_o hV937 (by decide)).trans ((up2_o hV944 (by decide)).trans (up2_o hV943 (by decide))))))
              have pq1029 : (V1005 5 13).toInt = ((V 5 13)).toInt := congrArg Int32.toInt ((up2_k hV1005 (by decide)).trans ((up2_o hV952 (by decide)).trans ((up2_o hV937 (by decide)).trans ((up2_o hV944 (by decide)).trans (up2_o hV943 (by decide))))))
              have r1030 : 0 ≤ ((V 5 13)).toInt ∧ ((V 5 13)).toInt ≤ 3000 := hMV 5 13
              have pq1031 : (V1005 5 7).toInt = ((V 5 7)).toInt := congrArg Int32.toInt ((up2_k hV1005 (by decide)).trans ((up2_o hV952 (by decide)).trans ((up2_o hV937 (by decide)).trans ((up2_o hV944 (by decide)).trans (up2_o hV943 (by decide))))))
              have r1032 : 0 ≤ ((V 5 7)).toInt ∧ ((V 5 7)).toInt ≤ 2048 := hMV 5 7
              have rn1033 : RWn V937 ow gB (mNote gm o 18) := RWn.note rn (fun c9 k9 h1 h2 h3 h4 => ((show V937 c9 k9 = V944 c9 k9 from by rw [hV937]; exact up2_pl (by omega)).trans ((show V944 c9 k9 = V943 c9 k9 from by rw [hV944]; exact up2_pl (by omega)).trans (show V943 c9 k9 = V c9 k9 from by rw [hV943]; exact up2_pl (by omega))))) (Or.inl ⟨hc939, (by rw [up2_s hV937]; exact hz945), (fun i9 hi9 => ⟨(up2_o hV937 (by decide)).trans ((up2_o hV944 (by decide)).trans (up2_k hV943 hi9)), (up2_o hV937 (by decide)).trans ((up2_k hV944 hi9).trans (up2_o hV943 (by decide)))⟩), (show (V937 36 (Int32.toNatClampNeg (V 4 6))).toInt = o from by rw [(up2_o hV937 (by decide)).trans ((up2_o hV944 (by decide)).trans (up2_s hV943))]; exact q70), (show (V937 37 (Int32.toNatClampNeg (V 4 6))).toInt = 18 from by rw [(up2_o hV937 (by decide)).trans (up2_s hV944)]; decide)⟩)
              have dx9 : (Int32.toNatClampNeg (V 70 gf)) = o.toNat := by have h9 := i_clamp (x := (V 70 gf)) rfl (by (first | exact om_2996291ce4c2 fo q70 pq1013 | omega)); (first | exact om_6acf0db861ed fo q70 pq1013 h9 | omega)
              have do9 : ((o.toNat : Nat) : Int) < (mNote gm o 18) 0 2 := by rw [mNt_0 (by decide)]; (first | exact om_5b0e08f69870 r8 fo ra2 q70 pq1013 pq1022 | omega)
              have db9 := (rn1033).2.1 _ do9
              have ds9 : 24 * Int32.toNatClampNeg (V937 27 (Int32.toNatClampNeg (V 70 gf))) + Int32.toNatClampNeg (V937 26 (Int32.toNatClampNeg (V 70 gf))) = 24 * ((mNote gm o 18) 2 o.toNat).toNat + ((mNote gm o 18) 1 o.toNat).toNat := by rw [dx9]; have h1 := db9.1.1; have h2 := db9.1.2.1; have h3 := i_clamp (x := V937 27 o.toNat) rfl (by (first | exact om_57a3b3030c68 db9 | omega)); have h4 := i_clamp (x := V937 26 o.toNat) rfl (by (first | exact om_624b0f847349 db9 | omega)); (first | exact om_5319a23bfaa2 db9 h3 h4 | omega)
              have rn1034 : RWn V952 ow gB (mU (mNote gm o 18) 3 o.toNat 2) := RWn.drop rn1033 do9 (fun x9 hx9 => up2_k hV952 (by rw [dx9]; exact hx9)) (by rw [← dx9, up2_s hV952]; decide) (fun k9 _ => up2_o hV952 (by decide)) (by rw [← ds9, up2_o hV952 (by decide), if_neg (by rw [← dx9]; have h9 := i_clamp (x := (V 70 gf)) rfl (by (first | exact om_2996291ce4c2 fo q70 pq1013 | omega)); omega)]) (fun c9 k9 h1 h2 h3 => (show V952 c9 k9 = V937 c9 k9 from by rw [hV952]; exact up2_pl (by omega)))
              have rn1035 : RWn V1005 ow gB (mU (mNote gm o 18) 3 o.toNat 2) := RWn.es rn1034 (ESw.ag (show agr [(5, 6)] [] V952 V1005 from (agr.up agr.rf hV1005 rfl)) (by decide))
              have me1036 : ME V V1005 gf := (ME.up (ME.up (ME.up (ME.up (ME.up ME.rf hV943 (Or.inr (by (first | exact om_cafd1137c917  | omega)))) hV944 (Or.inr (by (first | exact om_c9c9e20ea0d3  | omega)))) hV937 (Or.inr (by (first | exact om_5d9c67e1ed13  | omega)))) hV952 (Or.inr (by (first | exact om_15c89eee5dc0  | omega)))) hV1005 (Or.inr (by (first | exact om_f481bd0f1cda  | omega))))
              have rl1037 : RWl V1005 gB gr t0 := RWl.mv hlr (fun i9 hi9 c9 h1 h2 => me1036.2.1 c9 i9 h1 h2 (by (first | exact om_102b9d22baee gd kdp rd rd2 pq999 t1003 hz1009 hi9 | omega))) (fun j9 hj9 => ((up2_o hV1005 (by decide)).trans ((up2_o hV952 (by decide)).trans ((up2_o hV937 (by decide)).trans ((up2_o hV944 (by decide)).trans (up2_o hV943 (by decide))))))) (by rw [((up2_o hV1005 (by decide)).trans ((up2_o hV952 (by decide)).trans ((up2_o hV937 (by decide)).trans ((up2_o hV944 (by decide)).trans (up2_o hV943 (by decide))))))]; exact Int.le_refl _) ((up2_o hV1005 (by decide)).trans ((up2_o hV952 (by decide)).trans ((up2_o hV937 (by decide)).trans ((up2_o hV944 (by decide)).trans (up2_o hV943 (by decide))))))
              have rz9 : RW V1005 gB ((mU (mNote gm o 18) 3 o.toNat 2), ga, gr) := RW.fin rwq rn1035 (by rw [mU_o _ _ (by omega), mNt_0 (by decide)]) (fun i9 => (by rw [mU_o _ _ (by omega), mNt_x (by decide) (by decide) (by decide)])) ((up2_k hV1005 (by decide)).trans ((up2_o hV952 (by decide)).trans ((up2_o hV937 (by decide)).trans ((up2_o hV944 (by decide)).trans (up2_o hV943 (by decide)))))) (fun i9 => ((up2_o hV1005 (by decide)).trans ((up2_o hV952 (by decide)).trans ((up2_o hV937 (by decide)).trans ((up2_o hV944 (by decide)).trans (up2_o hV943 (by decide))))))) (by rw [(show (mU (mNote gm o 18) 3 o.toNat 2) 0 6 = gm 0 6 from by rw [mU_o _ _ (by omega), mNt_0 (by decide)])]; (first | exact om_ba837528b673 rh1 f931 pq1021 | omega)) (fun h9 => by rw [(show (mU (mNote gm o 18) 3 o.toNat 2) 0 6 = gm 0 6 from by rw [mU_o _ _ (by omega), mNt_0 (by decide)])] at h9; exfalso; (first | exact om_d841449c9c41 rh1 f931 h9 | omega)) (fun h9 => by rw [mU_o _ _ (by omega), mU_o _ _ (by omega), mNt_0 (by decide), mNt_0 (by decide)]; rw [(show (mU (mNote gm o 18) 3 o.toNat 2) 0 6 = gm 0 6 from by rw [mU_o _ _ (by omega), mNt_0 (by decide)])] at h9; exfalso; (first | exact om_72d17bfe283f rh1 f931 h9 | omega)) (by (first | exact om_0893762427d8 kdp rd rd2 pq999 t1003 | omega)) (by rw [((up2_k hV1005 (by decide)).trans ((up2_o hV952 (by decide)).trans ((up2_o hV937 (by decide)).trans ((up2_o hV944 (by decide)).trans (up2_o hV943 (by decide)))))), rt9, tz9]) rl1037
              have rx1038 : RW V1005 gB (stM gB (gm, ga, gfr :: gr)) := by rw [hfe, st_18.trans (cl_s (by rw [← rh1]; omega))]; exact rz9
              refine W.know (fun kr1 kr2 => ?_)
              refine W.widen (k := zcc Z) (n := zss Z) (Nat.sub_le _ _) (Nat.sub_le _ _) ?_
              exact W.vret hx hb hr (fun t ht hW => ⟨⟨(V1005, L, Z), rfl, ⟨hMV1005, agV1005, rfl, zoZ, rp1026, rx1038⟩, ⟨by rw [ht]; exact hP, va_K.moved hW.alike hK, hD⟩, by rw [ht]; exact kr1, by rw [ht]; exact kr2⟩, hS.F ht⟩) hS.2.2 dX5_goOnClosing_113
          · skip
            have ajV937 : agr [] [] V V937 := by rw [hw942]; exact agr.rf
            refine lv_aload_n hx hb dX5_goOnClosing_98 rfl (lv_at hl 2 rfl) ?_
            refine va_get (D := D) (ci := 5) (v := .ref (ad 3)) (fs := (xfMachine ad V937 L Z)) (C := RX5) (T := TX5) (N := 15) hx hb hg inX5 hown hK hP 5 xgMachine rfl 0 (by decide) (hg _ w667) (fun _ h9 => h9) rfl dX5_goOnClosing_99 ?_
            refine lv_aload_n hx hb dX5_goOnClosing_102 rfl (lv_at hl 3 rfl) ?_
            refine va_getN (D := D) (ci := 4) (v := .int (V937 70 gf)) (fs := (xfFrame V937 gf)) (C := RX4) (T := TX4) (N := 19) hx hb hg inX4 hown hK hP (336 + gf) (xgFrame hgf) rfl 3 (by decide) (hnw.use 1192 n1192 rfl) (fun _ h9 => h9) rfl dX5_goOnClosing_103 ?_
            refine g_top (v := (V 70 gf)) (ajV937 70 gf rfl) ?_
            refine gA_void (gA_runV (As := [.int (V 70 gf)]) (rest := []) (ci := 8) (q0 := 3) hx hb hml hown hg hP hD hK hS hA hnw hgk (x_dropObject9 l D ks H.size ad kk V937 L Z (V 70 gf) hMV937 (by (first | exact om_d0c9b7046452 r8 fo ra2 q70 | omega))) w1336 w1337 w1338 w164 w1339 rfl xgStock hdV_yX8_dropObject ⟨Nat.le_of_ble_eq_true rfl, Nat.le_of_ble_eq_true rfl⟩ rfl hl.1 rfl (Nat.le_of_ble_eq_true rfl) dX5_goOnClosing_106 ⟨z0, z0⟩) hP hD hK hS hA (fun u1040 H locs w1041 hP hD hK hS => ?_)
            obtain ⟨V1044, L1045⟩ := u1040
            obtain ⟨hMV1044, ajV1044, axL1045, t1042, t1043⟩ := w1041
            have axL1045 : L = L1045 := Eq.symm axL1045
            subst axL1045
            have hP : va_P D vwCl (xw ad kk V1044 L Z) H := hP
            have hD : va_D A (xw ad kk V1044 L Z) := hD
            have hMV1044 : rgd bX V1044 := hMV1044
            have ajV1044 : agr [] [25, 28] V937 V1044 := ajV1044
            have agV1044 : agr [(4, 6), (5, 6), (5, 9), (5, 10)] [25, 28, 36, 37, 67, 68, 69, 70, 71, 72, 73, 74, 75, 76, 77, 78, 79, 80, 81, 82, 83, 84, 85] V V1044 := agV937.tr ajV1044 (by decide) (by decide)
            have t1042 : ∀ n, ME V937 V1044 n := t1042
            have t1043 : (((V937 25 (24 * Int32.toNatClampNeg (V937 27 (Int32.toNatClampNeg (V 70 gf))) + Int32.toNatClampNeg (V937 26 (Int32.toNatClampNeg (V 70 gf))))).toInt = ((V 70 gf)).toInt) ∧ V1044 = (up2 (up2 V937 28 (Int32.toNatClampNeg (V 70 gf)) 2) 25 (24 * Int32.toNatClampNeg (V937 27 (Int32.toNatClampNeg (V 70 gf))) + Int32.toNatClampNeg (V937 26 (Int32.toNatClampNeg (V 70 gf)))) (-1))) ∨ (((V937 25 (24 * Int32.toNatClampNeg (V937 27 (Int32.toNatClampNeg (V 70 gf))) + Int32.toNatClampNeg (V937 26 (Int32.toNatClampNeg (V 70 gf))))).toInt ≠ ((V 70 gf)).toInt) ∧ V1044 = (up2 V937 28 (Int32.toNatClampNeg (V 70 gf)) 2)) := t1043
            rcases t1043 with ⟨hc1046, hw1047⟩ | ⟨hc1048, hw1049⟩
            · skip
              obtain ⟨V1050, hV1050⟩ : ∃ z, z = up2 V937 28 (Int32.toNatClampNeg (V 70 gf)) 2 := ⟨_, rfl⟩
              have hV1044 : V1044 = up2 V1050 25 (24 * Int32.toNatClampNeg (V937 27 (Int32.toNatClampNeg (V 70 gf))) + Int32.toNatClampNeg (V937 26 (Int32.toNatClampNeg (V 70 gf)))) (-1) := by rw [hw1047, hV1050]
              refine lv_aload_n hx hb dX5_goOnClosing_109 rfl (lv_at hl 2 rfl) ?_
              have pq1051 : (V1044 5 6).toInt = ((V 5 6)).toInt := congrArg Int32.toInt ((up2_o hV1044 (by decide)).trans ((up2_o hV1050 (by decide)).trans (ajV937 5 6 rfl)))
              refine gA_void (gA_runV (As := []) (rest := []) (ci := 5) (q0 := 5) hx hb hml hown hg hP hD hK hS hA hnw hgk (x_leave9 l D ks H.size ad kk V1044 L Z  hMV1044 (show 1 ≤ (V1044 5 6).toInt from by (first | exact om_c36fd4a9fcac gd gl9 pq1051 | omega))) w1308 w1310 w50 w171 w1311 rfl xgMachine hdV_yX5_leave ⟨Nat.le_of_ble_eq_true rfl, Nat.le_of_ble_eq_true rfl⟩ rfl hl.1 rfl (Nat.le_of_ble_eq_true rfl) dX5_goOnClosing_110 ⟨z0, z0⟩) hP hD hK hS hA (fun u1053 H locs w1054 hP hD hK hS => ?_)
              obtain ⟨V1057, L1058⟩ := u1053
              obtain ⟨hMV1057, ajV1057, axL1058, t1055, t1056⟩ := w1054
              have axL1058 : L = L1058 := Eq.symm axL1058
              subst axL1058
              have hP : va_P D vwCl (xw ad kk V1057 L Z) H := hP
              have hD : va_D A (xw ad kk V1057 L Z) := hD
              have hMV1057 : rgd bX V1057 := hMV1057
              have ajV1057 : agr [(5, 6)] [] V1044 V1057 := ajV1057
              have agV1057 : agr [(4, 6), (5, 6), (5, 9), (5, 10)] [25, 28, 36, 37, 67, 68, 69, 70, 71, 72, 73, 74, 75, 76, 77, 78, 79, 80, 81, 82, 83, 84, 85] V V1057 := agV1044.tr ajV1057 (by decide) (by decide)
              have t1055 : (V1057 5 6).toInt = (V1044 5 6).toInt - 1 := t1055
              have t1056 : ((True) ∧ V1057 = (up2 V1044 5 6 (V1044 5 6 - 1))) := t1056
              have r1059 : 0 ≤ ((V1057 5 6)).toInt ∧ ((V1057 5 6)).toInt ≤ 400 := hMV1057 5 6
              have hw1060 := t1056.2
              obtain ⟨z1061, ez1061⟩ : ∃ y : Int32, y = V1044 5 6 - 1 := ⟨_, rfl⟩
              have hz1061 : z1061.toInt = (V1044 5 6).toInt - 1 := i_sub ez1061 rfl (by decide) (by (first | exact om_70510bf9f0cb gd gl9 sl9 pq1051 | omega))
              have hV1057 : V1057 = up2 V1044 5 6 z1061 := by rw [hw1060, ez1061]
              have me1062 : ME V V1057 gf := (ME.up (ME.up (ME.up (ME.tr ME.rf (ME.ag ajV937 (by decide))) hV1050 (Or.inr (by (first | exact om_15c89eee5dc0  | omega)))) hV1044 (Or.inr (by omega))) hV1057 (Or.inr (by (first | exact om_f481bd0f1cda  | omega))))
              have pq1063 : (V1057 67 gf).toInt = ((V 67 gf)).toInt := congrArg Int32.toInt ((up2_o hV1057 (by decide)).trans ((up2_o hV1044 (by decide)).trans ((up2_o hV1050 (by decide)).trans (ajV937 67 gf rfl))))
              have pq1064 : (V1057 68 gf).toInt = ((V 68 gf)).toInt := congrArg Int32.toInt ((up2_o hV1057 (by decide)).trans ((up2_o hV1044 (by decide)).trans ((up2_o hV1050 (by decide)).trans (ajV937 68 gf rfl))))
              have pq1065 : (V1057 70 gf).toInt = ((V 70 gf)).toInt := congrArg Int32.toInt ((up2_o hV1057 (by decide)).trans ((up2_o hV1044 (by decide)).trans ((up2_o hV1050 (by decide)).trans (ajV937 70 gf rfl))))
              have pq1066 : (V1057 71 gf).toInt = ((V 71 gf)).toInt := congrArg Int32.toInt ((up2_o hV1057 (by decide)).trans ((up2_o hV1044 (by decide)).trans ((up2_o hV1050 (by decide)).trans (ajV937 71 gf rfl))))
              have pq1067 : (V1057 75 gf).toInt = ((V 75 gf)).toInt := congrArg Int32.toInt ((up2_o hV1057 (by decide)).trans ((up2_o hV1044 (by decide)).trans ((up2_o hV1050 (by decide)).trans (ajV937 75 gf rfl))))
              have pq1068 : (V1057 76 gf).toInt = ((V 76 gf)).toInt := congrArg Int32.toInt ((up2_o hV1057 (by decide)).trans ((up2_o hV1044 (by decide)).trans ((up2_o hV1050 (by decide)).trans (ajV937 76 gf rfl))))
              have pq1069 : (V1057 80 gf).toInt = ((V 80 gf)).toInt := congrArg Int32.toInt ((up2_o hV1057 (by decide)).trans ((up2_o hV1044 (by decide)).trans ((up2_o hV1050 (by decide)).trans (ajV937 80 gf rfl))))
              have pq1070 : (V1057 84 gf).toInt = ((V 84 gf)).toInt := congrArg Int32.toInt ((up2_o hV1057 (by decide)).trans ((up2_o hV1044 (by decide)).trans ((up2_o hV1050 (by decide)).trans (ajV937 84 gf rfl))))
              have pq1071 : (V1057 5 6).toInt = z1061.toInt := congrArg Int32.toInt (up2_s hV1057)
              have pq1072 : (V1057 5 8).toInt = ((V 5 8)).toInt := congrArg Int32.toInt ((up2_k hV1057 (by decide)).trans ((up2_o hV1044 (by decide)).trans ((up2_o hV1050 (by decide)).trans (ajV937 5 8 rfl))))
              have pq1073 : (V1057 5 9).toInt = ((V 5 9)).toInt := congrArg Int32.toInt ((up2_k hV1057 (by decide)).trans ((up2_o hV1044 (by decide)).trans ((up2_o hV1050 (by decide)).trans (ajV937 5 9 rfl))))
              have pq1074 : (V1057 3 13).toInt = ((V 3 13)).toInt := congrArg Int32.toInt ((up2_o hV1057 (by decide)).trans ((up2_o hV1044 (by decide)).trans ((up2_o hV1050 (by decide)).trans (ajV937 3 13 rfl))))
              have pq1075 : (V1057 43 (5 * b + 2)).toInt = ((V 43 (5 * b + 2))).toInt := congrArg Int32.toInt ((up2_o hV1057 (by decide)).trans ((up2_o hV1044 (by decide)).trans ((up2_o hV1050 (by decide)).trans (ajV937 43 (5 * b + 2) rfl))))
              have pq1076 : (V1057 42 b).toInt = ((V 42 b)).toInt := congrArg Int32.toInt ((up2_o hV1057 (by decide)).trans ((up2_o hV1044 (by decide)).trans ((up2_o hV1050 (by decide)).trans (ajV937 42 b rfl))))
              have pq1077 : (V1057 41 b).toInt = ((V 41 b)).toInt := congrArg Int32.toInt ((up2_o hV1057 (by decide)).trans ((up2_o hV1044 (by decide)).trans ((up2_o hV1050 (by decide)).trans (ajV937 41 b rfl))))
              have rp1078 : MJ V1057 Z b := MP.lv (MO.mp mo) me1062 (by (first | exact om_541a228d28bf gd pq1051 t1055 hz1061 pq1071 | omega)) (fun _ => Or.inl (by omega))
              have pq1079 : (V1057 5 11).toInt = ((V 5 11)).toInt := congrArg Int32.toInt ((up2_k hV1057 (by decide)).trans ((up2_o hV1044 (by decide)).trans ((up2_o hV1050 (by decide)).trans (ajV937 5 11 rfl))))
              have pq1080 : (V1057 5 12).toInt = ((V 5 12)).toInt := congrArg Int32.toInt ((up2_k hV1057 (by decide)).trans ((up2_o hV1044 (by decide)).trans ((up2_o hV1050 (by decide)).trans (ajV937 5 12 rfl))))
              have pq1081 : (V1057 5 13).toInt = ((V 5 13)).toInt := congrArg Int32.toInt ((up2_k hV1057 (by decide)).trans ((up2_o hV1044 (by decide)).trans ((up2_o hV1050 (by decide)).trans (ajV937 5 13 rfl))))
              have r1082 : 0 ≤ ((V 5 13)).toInt ∧ ((V 5 13)).toInt ≤ 3000 := hMV 5 13
              have pq1083 : (V1057 5 7).toInt = ((V 5 7)).toInt := congrArg Int32.toInt ((up2_k hV1057 (by decide)).trans ((up2_o hV1044 (by decide)).trans ((up2_o hV1050 (by decide)).trans (ajV937 5 7 rfl))))
              have r1084 : 0 ≤ ((V 5 7)).toInt ∧ ((V 5 7)).toInt ≤ 2048 := hMV 5 7
              have rn1085 : RWn V937 ow gB (mNote gm o 18) := RWn.note rn (fun c9 k9 h1 h2 h3 h4 => (ajV937 c9 k9 rfl)) (Or.inr ⟨hc941, (ajV937 4 6 rfl), fun i9 => ⟨(ajV937 36 i9 rfl), (ajV937 37 i9 rfl)⟩⟩)
              have dx9 : (Int32.toNatClampNeg (V 70 gf)) = o.toNat := by have h9 := i_clamp (x := (V 70 gf)) rfl (by (first | exact om_c42429f26483 fo q70 hc1046 pq1065 | omega)); (first | exact om_cdba46fd13a1 fo q70 hc1046 pq1065 h9 | omega)
              have do9 : ((o.toNat : Nat) : Int) < (mNote gm o 18) 0 2 := by rw [mNt_0 (by decide)]; (first | exact om_b313c004abde r8 fo ra2 q70 hc1046 pq1065 pq1074 | omega)
              have db9 := (rn1085).2.1 _ do9
              have ds9 : 24 * Int32.toNatClampNeg (V937 27 (Int32.toNatClampNeg (V 70 gf))) + Int32.toNatClampNeg (V937 26 (Int32.toNatClampNeg (V 70 gf))) = 24 * ((mNote gm o 18) 2 o.toNat).toNat + ((mNote gm o 18) 1 o.toNat).toNat := by rw [dx9]; have h1 := db9.1.1; have h2 := db9.1.2.1; have h3 := i_clamp (x := V937 27 o.toNat) rfl (by (first | exact om_57a3b3030c68 db9 | omega)); have h4 := i_clamp (x := V937 26 o.toNat) rfl (by (first | exact om_624b0f847349 db9 | omega)); (first | exact om_5319a23bfaa2 db9 h3 h4 | omega)
              have rn1086 : RWn V1044 ow gB (mU (mNote gm o 18) 3 o.toNat 2) := RWn.drop rn1085 do9 (fun x9 hx9 => (up2_o hV1044 (by decide)).trans (up2_k hV1050 (by rw [dx9]; exact hx9))) (by rw [← dx9, (up2_o hV1044 (by decide)).trans (up2_s hV1050)]; decide) (fun k9 hk9 => (up2_k hV1044 (by rw [ds9]; exact hk9)).trans (up2_o hV1050 (by decide))) (by rw [← ds9, up2_s hV1044, if_pos (by rw [← dx9]; have h9 := i_clamp (x := (V 70 gf)) rfl (by (first | exact om_c42429f26483 fo q70 hc1046 pq1065 | omega)); (first | exact om_31a30e49af65 q70 hc1046 pq1065 dx9 h9 | omega))]; decide) (fun c9 k9 h1 h2 h3 => ((show V1044 c9 k9 = V1050 c9 k9 from by rw [hV1044]; exact up2_pl (by omega)).trans (show V1050 c9 k9 = V937 c9 k9 from by rw [hV1050]; exact up2_pl (by omega))))
              have rn1087 : RWn V1057 ow gB (mU (mNote gm o 18) 3 o.toNat 2) := RWn.es rn1086 (ESw.ag (show agr [(5, 6)] [] V1044 V1057 from (agr.up agr.rf hV1057 rfl)) (by decide))
              have me1088 : ME V V1057 gf := (ME.up (ME.up (ME.up (ME.tr ME.rf (ME.ag ajV937 (by decide))) hV1050 (Or.inr (by (first | exact om_15c89eee5dc0  | omega)))) hV1044 (Or.inr (by omega))) hV1057 (Or.inr (by (first | exact om_f481bd0f1cda  | omega))))
              have rl1089 : RWl V1057 gB gr t0 := RWl.mv hlr (fun i9 hi9 c9 h1 h2 => me1088.2.1 c9 i9 h1 h2 (by (first | exact om_102b9d22baee gd kdp rd rd2 pq1051 t1055 hz1061 hi9 | omega))) (fun j9 hj9 => ((up2_o hV1057 (by decide)).trans ((up2_o hV1044 (by decide)).trans ((up2_o hV1050 (by decide)).trans (ajV937 39 j9 rfl))))) (by rw [((up2_o hV1057 (by decide)).trans ((up2_o hV1044 (by decide)).trans ((up2_o hV1050 (by decide)).trans (ajV937 3 13 rfl))))]; exact Int.le_refl _) ((up2_o hV1057 (by decide)).trans ((up2_o hV1044 (by decide)).trans ((up2_o hV1050 (by decide)).trans (ajV937 3 12 rfl))))
              have rz9 : RW V1057 gB ((mU (mNote gm o 18) 3 o.toNat 2), ga, gr) := RW.fin rwq rn1087 (by rw [mU_o _ _ (by omega), mNt_0 (by decide)]) (fun i9 => (by rw [mU_o _ _ (by omega), mNt_x (by decide) (by decide) (by decide)])) ((up2_k hV1057 (by decide)).trans ((up2_o hV1044 (by decide)).trans ((up2_o hV1050 (by decide)).trans (ajV937 5 8 rfl)))) (fun i9 => ((up2_o hV1057 (by decide)).trans ((up2_o hV1044 (by decide)).trans ((up2_o hV1050 (by decide)).trans (ajV937 40 i9 rfl))))) (by rw [(show (mU (mNote gm o 18) 3 o.toNat 2) 0 6 = gm 0 6 from by rw [mU_o _ _ (by omega), mNt_0 (by decide)])]; (first | exact om_ba837528b673 rh1 f931 pq1073 | omega)) (fun h9 => by rw [(show (mU (mNote gm o 18) 3 o.toNat 2) 0 6 = gm 0 6 from by rw [mU_o _ _ (by omega), mNt_0 (by decide)])] at h9; exfalso; (first | exact om_d841449c9c41 rh1 f931 h9 | omega)) (fun h9 => by rw [mU_o _ _ (by omega), mU_o _ _ (by omega), mNt_0 (by decide), mNt_0 (by decide)]; rw [(show (mU (mNote gm o 18) 3 o.toNat 2) 0 6 = gm 0 6 from by rw [mU_o _ _ (by omega), mNt_0 (by decide)])] at h9; exfalso; (first | exact om_72d17bfe283f rh1 f931 h9 | omega)) (by (first | exact om_0893762427d8 kdp rd rd2 pq1051 t1055 | omega)) (by rw [((up2_k hV1057 (by decide)).trans ((up2_o hV1044 (by decide)).trans ((up2_o hV1050 (by decide)).trans (ajV937 5 7 rfl)))), rt9, tz9]) rl1089
              have rx1090 : RW V1057 gB (stM gB (gm, ga, gfr :: gr)) := by rw [hfe, st_18.trans (cl_s (by rw [← rh1]; omega))]; exact rz9
              refine W.know (fun kr1 kr2 => ?_)
              refine W.widen (k := zcc Z) (n := zss Z) (Nat.sub_le _ _) (Nat.sub_le _ _) ?_
              exact W.vret hx hb hr (fun t ht hW => ⟨⟨(V1057, L, Z), rfl, ⟨hMV1057, agV1057, rfl, zoZ, rp1078, rx1090⟩, ⟨by rw [ht]; exact hP, va_K.moved hW.alike hK, hD⟩, by rw [ht]; exact kr1, by rw [ht]; exact kr2⟩, hS.F ht⟩) hS.2.2 dX5_goOnClosing_113
            · skip
              have hV1044 : V1044 = up2 V937 28 (Int32.toNatClampNeg (V 70 gf)) 2 := by rw [hw1049]
              refine lv_aload_n hx hb dX5_goOnClosing_109 rfl (lv_at hl 2 rfl) ?_
              have pq1091 : (V1044 5 6).toInt = ((V 5 6)).toInt := congrArg Int32.toInt ((up2_o hV1044 (by decide)).trans (ajV937 5 6 rfl))
              refine gA_void (gA_runV (As := []) (rest := []) (ci := 5) (q0 := 5) hx hb hml hown hg hP hD hK hS hA hnw hgk (x_leave9 l D ks H.size ad kk V1044 L Z  hMV1044 (show 1 ≤ (V1044 5 6).toInt from by (first | exact om_c36fd4a9fcac gd gl9 pq1091 | omega))) w1308 w1310 w50 w171 w1311 rfl xgMachine hdV_yX5_leave ⟨Nat.le_of_ble_eq_true rfl, Nat.le_of_ble_eq_true rfl⟩ rfl hl.1 rfl (Nat.le_of_ble_eq_true rfl) dX5_goOnClosing_110 ⟨z0, z0⟩) hP hD hK hS hA (fun u1093 H locs w1094 hP hD hK hS => ?_)
              obtain ⟨V1097, L1098⟩ := u1093
              obtain ⟨hMV1097, ajV1097, axL1098, t1095, t1096⟩ := w1094
              have axL1098 : L = L1098 := Eq.symm axL1098
              subst axL1098
              have hP : va_P D vwCl (xw ad kk V1097 L Z) H := hP
              have hD : va_D A (xw ad kk V1097 L Z) := hD
              have hMV1097 : rgd bX V1097 := hMV1097
              have ajV1097 : agr [(5, 6)] [] V1044 V1097 := ajV1097
              have agV1097 : agr [(4, 6), (5, 6), (5, 9), (5, 10)] [25, 28, 36, 37, 67, 68, 69, 70, 71, 72, 73, 74, 75, 76, 77, 78, 79, 80, 81, 82, 83, 84, 85] V V1097 := agV1044.tr ajV1097 (by decide) (by decide)
              have t1095 : (V1097 5 6).toInt = (V1044 5 6).toInt - 1 := t1095
              have t1096 : ((True) ∧ V1097 = (up2 V1044 5 6 (V1044 5 6 - 1))) := t1096
              have r1099 : 0 ≤ ((V1097 5 6)).toInt ∧ ((V1097 5 6)).toInt ≤ 400 := hMV1097 5 6
              have hw1100 := t1096.2
              obtain ⟨z1101, ez1101⟩ : ∃ y : Int32, y = V1044 5 6 - 1 := ⟨_, rfl⟩
              have hz1101 : z1101.toInt = (V1044 5 6).toInt - 1 := i_sub ez1101 rfl (by decide) (by (first | exact om_70510bf9f0cb gd gl9 sl9 pq1091 | omega))
              have hV1097 : V1097 = up2 V1044 5 6 z1101 := by rw [hw1100, ez1101]
              have me1102 : ME V V1097 gf := (ME.up (ME.up (ME.tr ME.rf (ME.ag ajV937 (by decide))) hV1044 (Or.inr (by (first | exact om_15c89eee5dc0  | omega)))) hV1097 (Or.inr (by (first | exact om_f481bd0f1cda  | omega))))
              have pq1103 : (V1097 67 gf).toInt = ((V 67 gf)).toInt := congrArg Int32.toInt ((up2_o hV1097 (by decide)).trans ((up2_o hV1044 (by decide)).trans (ajV937 67 gf rfl)))
              have pq1104 : (V1097 68 gf).toInt = ((V 68 gf)).toInt := congrArg Int32.toInt ((up2_o hV1097 (by decide)).trans ((up2_o hV1044 (by decide)).trans (ajV937 68 gf rfl)))
              have pq1105 : (V1097 70 gf).toInt = ((V 70 gf)).toInt := congrArg Int32.toInt ((up2_o hV1097 (by decide)).trans ((up2_o hV1044 (by decide)).trans (ajV937 70 gf rfl)))
              have pq1106 : (V1097 71 gf).toInt = ((V 71 gf)).toInt := congrArg Int32.toInt ((up2_o hV1097 (by decide)).trans ((up2_o hV1044 (by decide)).trans (ajV937 71 gf rfl)))
              have pq1107 : (V1097 75 gf).toInt = ((V 75 gf)).toInt := congrArg Int32.toInt ((up2_o hV1097 (by decide)).trans ((up2_o hV1044 (by decide)).trans (ajV937 75 gf rfl)))
              have pq1108 : (V1097 76 gf).toInt = ((V 76 gf)).toInt := congrArg Int32.toInt ((up2_o hV1097 (by decide)).trans ((up2_o hV1044 (by decide)).trans (ajV937 76 gf rfl)))
              have pq1109 : (V1097 80 gf).toInt = ((V 80 gf)).toInt := congrArg Int32.toInt ((up2_o hV1097 (by decide)).trans ((up2_o hV1044 (by decide)).trans (ajV937 80 gf rfl)))
              have pq1110 : (V1097 84 gf).toInt = ((V 84 gf)).toInt := congrArg Int32.toInt ((up2_o hV1097 (by decide)).trans ((up2_o hV1044 (by decide)).trans (ajV937 84 gf rfl)))
              have pq1111 : (V1097 5 6).toInt = z1101.toInt := congrArg Int32.toInt (up2_s hV1097)
              have pq1112 : (V1097 5 8).toInt = ((V 5 8)).toInt := congrArg Int32.toInt ((up2_k hV1097 (by decide)).trans ((up2_o hV1044 (by decide)).trans (ajV937 5 8 rfl)))
              have pq1113 : (V1097 5 9).toInt = ((V 5 9)).toInt := congrArg Int32.toInt ((up2_k hV1097 (by decide)).trans ((up2_o hV1044 (by decide)).trans (ajV937 5 9 rfl)))
              have pq1114 : (V1097 3 13).toInt = ((V 3 13)).toInt := congrArg Int32.toInt ((up2_o hV1097 (by decide)).trans ((up2_o hV1044 (by decide)).trans (ajV937 3 13 rfl)))
              have pq1115 : (V1097 43 (5 * b + 2)).toInt = ((V 43 (5 * b + 2))).toInt := congrArg Int32.toInt ((up2_o hV1097 (by decide)).trans ((up2_o hV1044 (by decide)).trans (ajV937 43 (5 * b + 2) rfl)))
              have pq1116 : (V1097 42 b).toInt = ((V 42 b)).toInt := congrArg Int32.toInt ((up2_o hV1097 (by decide)).trans ((up2_o hV1044 (by decide)).trans (ajV937 42 b rfl)))
              have pq1117 : (V1097 41 b).toInt = ((V 41 b)).toInt := congrArg Int32.toInt ((up2_o hV1097 (by decide)).trans ((up2_o hV1044 (by decide)).trans (ajV937 41 b rfl)))
              have rp1118 : MJ V1097 Z b := MP.lv (MO.mp mo) me1102 (by (first | exact om_541a228d28bf gd pq1091 t1095 hz1101 pq1111 | omega)) (fun _ => Or.inl (by omega))
              have pq1119 : (V1097 5 11).toInt = ((V 5 11)).toInt := congrArg Int32.toInt ((up2_k hV1097 (by decide)).trans ((up2_o hV1044 (by decide)).trans (ajV937 5 11 rfl)))
              have pq1120 : (V1097 5 12).toInt = ((V 5 12)).toInt := congrArg Int32.toInt ((up2_k hV1097 (by decide)).trans ((up2_o hV1044 (by decide)).trans (ajV937 5 12 rfl)))
              have pq1121 : (V1097 5 13).toInt = ((V 5 13)).toInt := congrArg Int32.toInt ((up2_k hV1097 (by decide)).trans ((up2_o hV1044 (by decide)).trans (ajV937 5 13 rfl)))
              have r1122 : 0 ≤ ((V 5 13)).toInt ∧ ((V 5 13)).toInt ≤ 3000 := hMV 5 13
              have pq1123 : (V1097 5 7).toInt = ((V 5 7)).toInt := congrArg Int32.toInt ((up2_k hV1097 (by decide)).trans ((up2_o hV1044 (by decide)).trans (ajV937 5 7 rfl)))
              have r1124 : 0 ≤ ((V 5 7)).toInt ∧ ((V 5 7)).toInt ≤ 2048 := hMV 5 7
              have rn1125 : RWn V937 ow gB (mNote gm o 18) := RWn.note rn (fun c9 k9 h1 h2 h3 h4 => (ajV937 c9 k9 rfl)) (Or.inr ⟨hc941, (ajV937 4 6 rfl), fun i9 => ⟨(ajV937 36 i9 rfl), (ajV937 37 i9 rfl)⟩⟩)
              have dx9 : (Int32.toNatClampNeg (V 70 gf)) = o.toNat := by have h9 := i_clamp (x := (V 70 gf)) rfl (by (first | exact om_2996291ce4c2 fo q70 pq1105 | omega)); (first | exact om_6acf0db861ed fo q70 pq1105 h9 | omega)
              have do9 : ((o.toNat : Nat) : Int) < (mNote gm o 18) 0 2 := by rw [mNt_0 (by decide)]; (first | exact om_5b0e08f69870 r8 fo ra2 q70 pq1105 pq1114 | omega)
              have db9 := (rn1125).2.1 _ do9
              have ds9 : 24 * Int32.toNatClampNeg (V937 27 (Int32.toNatClampNeg (V 70 gf))) + Int32.toNatClampNeg (V937 26 (Int32.toNatClampNeg (V 70 gf))) = 24 * ((mNote gm o 18) 2 o.toNat).toNat + ((mNote gm o 18) 1 o.toNat).toNat := by rw [dx9]; have h1 := db9.1.1; have h2 := db9.1.2.1; have h3 := i_clamp (x := V937 27 o.toNat) rfl (by (first | exact om_57a3b3030c68 db9 | omega)); have h4 := i_clamp (x := V937 26 o.toNat) rfl (by (first | exact om_624b0f847349 db9 | omega)); (first | exact om_5319a23bfaa2 db9 h3 h4 | omega)
              have rn1126 : RWn V1044 ow gB (mU (mNote gm o 18) 3 o.toNat 2) := RWn.drop rn1125 do9 (fun x9 hx9 => up2_k hV1044 (by rw [dx9]; exact hx9)) (by rw [← dx9, up2_s hV1044]; decide) (fun k9 _ => up2_o hV1044 (by decide)) (by rw [← ds9, up2_o hV1044 (by decide), if_neg (by rw [← dx9]; have h9 := i_clamp (x := (V 70 gf)) rfl (by (first | exact om_2996291ce4c2 fo q70 pq1105 | omega)); omega)]) (fun c9 k9 h1 h2 h3 => (show V1044 c9 k9 = V937 c9 k9 from by rw [hV1044]; exact up2_pl (by omega)))
              have rn1127 : RWn V1097 ow gB (mU (mNote gm o 18) 3 o.toNat 2) := RWn.es rn1126 (ESw.ag (show agr [(5, 6)] [] V1044 V1097 from (agr.up agr.rf hV1097 rfl)) (by decide))
              have me1128 : ME V V1097 gf := (ME.up (ME.up (ME.tr ME.rf (ME.ag ajV937 (by decide))) hV1044 (Or.inr (by (first | exact om_15c89eee5dc0  | omega)))) hV1097 (Or.inr (by (first | exact om_f481bd0f1cda  | omega))))
              have rl1129 : RWl V1097 gB gr t0 := RWl.mv hlr (fun i9 hi9 c9 h1 h2 => me1128.2.1 c9 i9 h1 h2 (by (first | exact om_102b9d22baee gd kdp rd rd2 pq1091 t1095 hz1101 hi9 | omega))) (fun j9 hj9 => ((up2_o hV1097 (by decide)).trans ((up2_o hV1044 (by decide)).trans (ajV937 39 j9 rfl)))) (by rw [((up2_o hV1097 (by decide)).trans ((up2_o hV1044 (by decide)).trans (ajV937 3 13 rfl)))]; exact Int.le_refl _) ((up2_o hV1097 (by decide)).trans ((up2_o hV1044 (by decide)).trans (ajV937 3 12 rfl)))
              have rz9 : RW V1097 gB ((mU (mNote gm o 18) 3 o.toNat 2), ga, gr) := RW.fin rwq rn1127 (by rw [mU_o _ _ (by omega), mNt_0 (by decide)]) (fun i9 => (by rw [mU_o _ _ (by omega), mNt_x (by decide) (by decide) (by decide)])) ((up2_k hV1097 (by decide)).trans ((up2_o hV1044 (by decide)).trans (ajV937 5 8 rfl))) (fun i9 => ((up2_o hV1097 (by decide)).trans ((up2_o hV1044 (by decide)).trans (ajV937 40 i9 rfl)))) (by rw [(show (mU (mNote gm o 18) 3 o.toNat 2) 0 6 = gm 0 6 from by rw [mU_o _ _ (by omega), mNt_0 (by decide)])]; (first | exact om_ba837528b673 rh1 f931 pq1113 | omega)) (fun h9 => by rw [(show (mU (mNote gm o 18) 3 o.toNat 2) 0 6 = gm 0 6 from by rw [mU_o _ _ (by omega), mNt_0 (by decide)])] at h9; exfalso; (first | exact om_d841449c9c41 rh1 f931 h9 | omega)) (fun h9 => by rw [mU_o _ _ (by omega), mU_o _ _ (by omega), mNt_0 (by decide), mNt_0 (by decide)]; rw [(show (mU (mNote gm o 18) 3 o.toNat 2) 0 6 = gm 0 6 from by rw [mU_o _ _ (by omega), mNt_0 (by decide)])] at h9; exfalso; (first | exact om_72d17bfe283f rh1 f931 h9 | omega)) (by (first | exact om_0893762427d8 kdp rd rd2 pq1091 t1095 | omega)) (by rw [((up2_k hV1097 (by decide)).trans ((up2_o hV1044 (by decide)).trans (ajV937 5 7 rfl))), rt9, tz9]) rl1129
              have rx1130 : RW V1097 gB (stM gB (gm, ga, gfr :: gr)) := by rw [hfe, st_18.trans (cl_s (by rw [← rh1]; omega))]; exact rz9
              refine W.know (fun kr1 kr2 => ?_)
              refine W.widen (k := zcc Z) (n := zss Z) (Nat.sub_le _ _) (Nat.sub_le _ _) ?_
              exact W.vret hx hb hr (fun t ht hW => ⟨⟨(V1097, L, Z), rfl, ⟨hMV1097, agV1097, rfl, zoZ, rp1118, rx1130⟩, ⟨by rw [ht]; exact hP, va_K.moved hW.alike hK, hD⟩, by rw [ht]; exact kr1, by rw [ht]; exact kr2⟩, hS.F ht⟩) hS.2.2 dX5_goOnClosing_113
      · skip
        have f1131 : ((V 5 9)).toInt = 2 := b_eq rfl (by decide) c712
        refine lv_aload_n hx hb dX5_goOnClosing_52 rfl (lv_at hl 2 rfl) ?_
        refine va_get (D := D) (ci := 5) (v := .int (V 5 11)) (fs := (xfMachine ad V L Z)) (C := RX5) (T := TX5) (N := 15) hx hb hg inX5 hown hK hP 5 xgMachine rfl 11 (by decide) (hg _ w678) (fun _ h9 => h9) rfl dX5_goOnClosing_53 ?_
        refine lv_aload_n hx hb dX5_goOnClosing_56 rfl (lv_at hl 2 rfl) ?_
        refine va_get (D := D) (ci := 5) (v := .int (V 5 12)) (fs := (xfMachine ad V L Z)) (C := RX5) (T := TX5) (N := 15) hx hb hg inX5 hown hK hP 5 xgMachine rfl 12 (by decide) (hg _ w679) (fun _ h9 => h9) rfl dX5_goOnClosing_57 ?_
        refine gE_int (g_runS (As := [.int (V 5 11), .int (V 5 12)]) (rest := []) (wc := []) (tc := []) hx hb hml hown hg gw_self hP hD hK hS hA hnw hgk [] [] (by decide) rfl rfl (x_firstKind9 l D ks H.size (V 5 11) (V 5 12) ) w1400 w1401 w171 w1402 hdS_yX5_firstKind ⟨Nat.le_of_ble_eq_true rfl, Nat.le_of_ble_eq_true rfl⟩ rfl hl.1 rfl (Nat.le_of_ble_eq_true rfl) dX5_goOnClosing_60 ⟨z0, z0⟩) hP hD hK hS hA (fun z1132 u1133 H locs w1134 hP hD hK hS => ?_)
        have t1135 := w1134
        have t1135 : (0 < ((V 5 11)).toInt ∧ z1132.toInt = 20) ∨ (((V 5 11)).toInt ≤ 0 ∧ z1132.toInt = ((V 5 12)).toInt) := t1135
        refine lv_istore_n (lv' := [(3, .int z1132), (2, .int (V 57 (24 * b + (Int32.toNatClampNeg (V 71 gf))))), (0, .ref (ad 5)), (1, .ref (Z.fa gf))]) hx hb dX5_goOnClosing_63 rfl hl (by decide) rfl (fun ls hl => ?_)
        refine lv_goto (tgt := 86) hx hb dX5_goOnClosing_64 (by decide) ?_
        refine lv_aload_n hx hb dX5_goOnClosing_86 rfl (lv_at hl 2 rfl) ?_
        refine va_get (D := D) (ci := 5) (v := .ref (ad 4)) (fs := (xfMachine ad V L Z)) (C := RX5) (T := TX5) (N := 15) hx hb hg inX5 hown hK hP 5 xgMachine rfl 1 (by decide) (hg _ w668) (fun _ h9 => h9) rfl dX5_goOnClosing_87 ?_
        refine lv_aload_n hx hb dX5_goOnClosing_90 rfl (lv_at hl 3 rfl) ?_
        refine va_getN (D := D) (ci := 4) (v := .int (V 70 gf)) (fs := (xfFrame V gf)) (C := RX4) (T := TX4) (N := 19) hx hb hg inX4 hown hK hP (336 + gf) (xgFrame hgf) rfl 3 (by decide) (hnw.use 1192 n1192 rfl) (fun _ h9 => h9) rfl dX5_goOnClosing_91 ?_
        refine lv_iload_n hx hb dX5_goOnClosing_94 rfl (lv_at hl 0 rfl) ?_
        refine gA_void (gA_runV (As := [.int (V 70 gf), .int z1132]) (rest := []) (ci := 7) (q0 := 4) hx hb hml hown hg hP hD hK hS hA hnw hgk (x_noteClosing9 l D ks H.size ad kk V L Z (V 70 gf) z1132 hMV ) w1497 w1498 w1499 w166 w1500 rfl xgNotes hdV_yX7_noteClosing ⟨Nat.le_of_ble_eq_true rfl, Nat.le_of_ble_eq_true rfl⟩ rfl hl.1 rfl (Nat.le_of_ble_eq_true rfl) dX5_goOnClosing_95 ⟨z0, z0⟩) hP hD hK hS hA (fun u1137 H locs w1138 hP hD hK hS => ?_)
        obtain ⟨V1140, L1141⟩ := u1137
        obtain ⟨hMV1140, ajV1140, axL1141, t1139⟩ := w1138
        have axL1141 : L = L1141 := Eq.symm axL1141
        subst axL1141
        have hP : va_P D vwCl (xw ad kk V1140 L Z) H := hP
        have hD : va_D A (xw ad kk V1140 L Z) := hD
        have hMV1140 : rgd bX V1140 := hMV1140
        have ajV1140 : agr [(4, 6)] [36, 37] V V1140 := ajV1140
        have agV1140 : agr [(4, 6), (5, 6), (5, 9), (5, 10)] [25, 28, 36, 37, 67, 68, 69, 70, 71, 72, 73, 74, 75, 76, 77, 78, 79, 80, 81, 82, 83, 84, 85] V V1140 := agV.tr ajV1140 (by decide) (by decide)
        have t1139 : (((V 4 6).toInt < 300) ∧ V1140 = (up2 (up2 (up2 V 36 (Int32.toNatClampNeg (V 4 6)) (V 70 gf)) 37 (Int32.toNatClampNeg (V 4 6)) z1132) 4 6 (V 4 6 + 1))) ∨ ((300 ≤ (V 4 6).toInt) ∧ V1140 = V) := t1139
        rcases t1139 with ⟨hc1142, hw1143⟩ | ⟨hc1144, hw1145⟩
        · skip
          obtain ⟨V1146, hV1146⟩ : ∃ z, z = up2 V 36 (Int32.toNatClampNeg (V 4 6)) (V 70 gf) := ⟨_, rfl⟩
          obtain ⟨V1147, hV1147⟩ : ∃ z, z = up2 V1146 37 (Int32.toNatClampNeg (V 4 6)) z1132 := ⟨_, rfl⟩
          have r1149 : 0 ≤ ((V 4 6)).toInt ∧ ((V 4 6)).toInt ≤ 300 := hMV 4 6
          obtain ⟨z1148, ez1148⟩ : ∃ y : Int32, y = V 4 6 + 1 := ⟨_, rfl⟩
          have hz1148 : z1148.toInt = (V 4 6).toInt + 1 := i_add ez1148 rfl (by decide) (by (first | exact om_5b8d680fa6e8 r1149.1 r1149.2 | omega))
          have hV1140 : V1140 = up2 V1147 4 6 z1148 := by rw [hw1143, hV1147, hV1146, ez1148]
          refine lv_aload_n hx hb dX5_goOnClosing_98 rfl (lv_at hl 2 rfl) ?_
          refine va_get (D := D) (ci := 5) (v := .ref (ad 3)) (fs := (xfMachine ad V1140 L Z)) (C := RX5) (T := TX5) (N := 15) hx hb hg inX5 hown hK hP 5 xgMachine rfl 0 (by decide) (hg _ w667) (fun _ h9 => h9) rfl dX5_goOnClosing_99 ?_
          refine lv_aload_n hx hb dX5_goOnClosing_102 rfl (lv_at hl 3 rfl) ?_
          refine va_getN (D := D) (ci := 4) (v := .int (V1140 70 gf)) (fs := (xfFrame V1140 gf)) (C := RX4) (T := TX4) (N := 19) hx hb hg inX4 hown hK hP (336 + gf) (xgFrame hgf) rfl 3 (by decide) (hnw.use 1192 n1192 rfl) (fun _ h9 => h9) rfl dX5_goOnClosing_103 ?_
          refine g_top (v := (V 70 gf)) ((up2_o hV1140 (by decide)).trans ((up2_o hV1147 (by decide)).trans (up2_o hV1146 (by decide)))) ?_
          refine gA_void (gA_runV (As := [.int (V 70 gf)]) (rest := []) (ci := 8) (q0 := 3) hx hb hml hown hg hP hD hK hS hA hnw hgk (x_dropObject9 l D ks H.size ad kk V1140 L Z (V 70 gf) hMV1140 (by (first | exact om_d0c9b7046452 r8 fo ra2 q70 | omega))) w1336 w1337 w1338 w164 w1339 rfl xgStock hdV_yX8_dropObject ⟨Nat.le_of_ble_eq_true rfl, Nat.le_of_ble_eq_true rfl⟩ rfl hl.1 rfl (Nat.le_of_ble_eq_true rfl) dX5_goOnClosing_106 ⟨z0, z0⟩) hP hD hK hS hA (fun u1151 H locs w1152 hP hD hK hS => ?_)
          obtain ⟨V1155, L1156⟩ := u1151
          obtain ⟨hMV1155, ajV1155, axL1156, t1153, t1154⟩ := w1152
          have axL1156 : L = L1156 := Eq.symm axL1156
          subst axL1156
          have hP : va_P D vwCl (xw ad kk V1155 L Z) H := hP
          have hD : va_D A (xw ad kk V1155 L Z) := hD
          have hMV1155 : rgd bX V1155 := hMV1155
          have ajV1155 : agr [] [25, 28] V1140 V1155 := ajV1155
          have agV1155 : agr [(4, 6), (5, 6), (5, 9), (5, 10)] [25, 28, 36, 37, 67, 68, 69, 70, 71, 72, 73, 74, 75, 76, 77, 78, 79, 80, 81, 82, 83, 84, 85] V V1155 := agV1140.tr ajV1155 (by decide) (by decide)
          have t1153 : ∀ n, ME V1140 V1155 n := t1153
          have t1154 : (((V1140 25 (24 * Int32.toNatClampNeg (V1140 27 (Int32.toNatClampNeg (V 70 gf))) + Int32.toNatClampNeg (V1140 26 (Int32.toNatClampNeg (V 70 gf))))).toInt = ((V 70 gf)).toInt) ∧ V1155 = (up2 (up2 V1140 28 (Int32.toNatClampNeg (V 70 gf)) 2) 25 (24 * Int32.toNatClampNeg (V1140 27 (Int32.toNatClampNeg (V 70 gf))) + Int32.toNatClampNeg (V1140 26 (Int32.toNatClampNeg (V 70 gf)))) (-1))) ∨ (((V1140 25 (24 * Int32.toNatClampNeg (V1140 27 (Int32.toNatClampNeg (V 70 gf))) + Int32.toNatClampNeg (V1140 26 (Int32.toNatClampNeg (V 70 gf))))).toInt ≠ ((V 70 gf)).toInt) ∧ V1155 = (up2 V1140 28 (Int32.toNatClampNeg (V 70 gf)) 2)) := t1154
          rcases t1154 with ⟨hc1157, hw1158⟩ | ⟨hc1159, hw1160⟩
          · skip
            obtain ⟨V1161, hV1161⟩ : ∃ z, z = up2 V1140 28 (Int32.toNatClampNeg (V 70 gf)) 2 := ⟨_, rfl⟩
            have hV1155 : V1155 = up2 V1161 25 (24 * Int32.toNatClampNeg (V1140 27 (Int32.toNatClampNeg (V 70 gf))) + Int32.toNatClampNeg (V1140 26 (Int32.toNatClampNeg (V 70 gf)))) (-1) := by rw [hw1158, hV1161]
            refine lv_aload_n hx hb dX5_goOnClosing_109 rfl (lv_at hl 2 rfl) ?_
            have pq1162 : (V1155 5 6).toInt = ((V 5 6)).toInt := congrArg Int32.toInt ((up2_o hV1155 (by decide)).trans ((up2_o hV1161 (by decide)).trans ((up2_o hV1140 (by decide)).trans ((up2_o hV1147 (by decide)).trans (up2_o hV1146 (by decide))))))
            refine gA_void (gA_runV (As := []) (rest := []) (ci := 5) (q0 := 5) hx hb hml hown hg hP hD hK hS hA hnw hgk (x_leave9 l D ks H.size ad kk V1155 L Z  hMV1155 (show 1 ≤ (V1155 5 6).toInt from by (first | exact om_c36fd4a9fcac gd gl9 pq1162 | omega))) w1308 w1310 w50 w171 w1311 rfl xgMachine hdV_yX5_leave ⟨Nat.le_of_ble_eq_true rfl, Nat.le_of_ble_eq_true rfl⟩ rfl hl.1 rfl (Nat.le_of_ble_eq_true rfl) dX5_goOnClosing_110 ⟨z0, z0⟩) hP hD hK hS hA (fun u1164 H locs w1165 hP hD hK hS => ?_)
            obtain ⟨V1168, L1169⟩ := u1164
            obtain ⟨hMV1168, ajV1168, axL1169, t1166, t1167⟩ := w1165
            have axL1169 : L = L1169 := Eq.symm axL1169
            subst axL1169
            have hP : va_P D vwCl (xw ad kk V1168 L Z) H := hP
            have hD : va_D A (xw ad kk V1168 L Z) := hD
            have hMV1168 : rgd bX V1168 := hMV1168
            have ajV1168 : agr [(5, 6)] [] V1155 V1168 := ajV1168
            have agV1168 : agr [(4, 6), (5, 6), (5, 9), (5, 10)] [25, 28, 36, 37, 67, 68, 69, 70, 71, 72, 73, 74, 75, 76, 77, 78, 79, 80, 81, 82, 83, 84, 85] V V1168 := agV1155.tr ajV1168 (by decide) (by decide)
            have t1166 : (V1168 5 6).toInt = (V1155 5 6).toInt - 1 := t1166
            have t1167 : ((True) ∧ V1168 = (up2 V1155 5 6 (V1155 5 6 - 1))) := t1167
            have r1170 : 0 ≤ ((V1168 5 6)).toInt ∧ ((V1168 5 6)).toInt ≤ 400 := hMV1168 5 6
            have hw1171 := t1167.2
            obtain ⟨z1172, ez1172⟩ : ∃ y : Int32, y = V1155 5 6 - 1 := ⟨_, rfl⟩
            have hz1172 : z1172.toInt = (V1155 5 6).toInt - 1 := i_sub ez1172 rfl (by decide) (by (first | exact om_70510bf9f0cb gd gl9 sl9 pq1162 | omega))
            have hV1168 : V1168 = up2 V1155 5 6 z1172 := by rw [hw1171, ez1172]
            have me1173 : ME V V1168 gf := (ME.up (ME.up (ME.up (ME.up (ME.up (ME.up ME.rf hV1146 (Or.inr (by (first | exact om_cafd1137c917  | omega)))) hV1147 (Or.inr (by (first | exact om_c9c9e20ea0d3  | omega)))) hV1140 (Or.inr (by (first | exact om_5d9c67e1ed13  | omega)))) hV1161 (Or.inr (by (first | exact om_15c89eee5dc0  | omega)))) hV1155 (Or.inr (by omega))) hV1168 (Or.inr (by (first | exact om_f481bd0f1cda  | omega))))
            have pq1174 : (V1168 67 gf).toInt = ((V 67 gf)).toInt := congrArg Int32.toInt ((up2_o hV1168 (by decide)).trans ((up2_o hV1155 (by decide)).trans ((up2_o hV1161 (by decide)).trans ((up2_o hV1140 (by decide)).trans ((up2_o hV1147 (by decide)).trans (up2_o hV1146 (by decide)))))))
            have pq1175 : (V1168 68 gf).toInt = ((V 68 gf)).toInt := congrArg Int32.toInt ((up2_o hV1168 (by decide)).trans ((up2_o hV1155 (by decide)).trans ((up2_o hV1161 (by decide)).trans ((up2_o hV1140 (by decide)).trans ((up2_o hV1147 (by decide)).trans (up2_o hV1146 (by decide)))))))
            have pq1176 : (V1168 70 gf).toInt = ((V 70 gf)).toInt := congrArg Int32.toInt ((up2_o hV1168 (by decide)).trans ((up2_o hV1155 (by decide)).trans ((up2_o hV1161 (by decide)).trans ((up2_o hV1140 (by decide)).trans ((up2_o hV1147 (by decide)).trans (up2_o hV1146 (by decide)))))))
            have pq1177 : (V1168 71 gf).toInt = ((V 71 gf)).toInt := congrArg Int32.toInt ((up2_o hV1168 (by decide)).trans ((up2_o hV1155 (by decide)).trans ((up2_o hV1161 (by decide)).trans ((up2_o hV1140 (by decide)).trans ((up2_o hV1147 (by decide)).trans (up2_o hV1146 (by decide)))))))
            have pq1178 : (V1168 75 gf).toInt = ((V 75 gf)).toInt := congrArg Int32.toInt ((up2_o hV1168 (by decide)).trans ((up2_o hV1155 (by decide)).trans ((up2_o hV1161 (by decide)).trans ((up2_o hV1140 (by decide)).trans ((up2_o hV1147 (by decide)).trans (up2_o hV1146 (by decide)))))))
            have pq1179 : (V1168 76 gf).toInt = ((V 76 gf)).toInt := congrArg Int32.toInt ((up2_o hV1168 (by decide)).trans ((up2_o hV1155 (by decide)).trans ((up2_o hV1161 (by decide)).trans ((up2_o hV1140 (by decide)).trans ((up2_o hV1147 (by decide)).trans (up2_o hV1146 (by decide)))))))
            have pq1180 : (V1168 80 gf).toInt = ((V 80 gf)).toInt := congrArg Int32.toInt ((up2_o hV1168 (by decide)).trans ((up2_o hV1155 (by decide)).trans ((up2_o hV1161 (by decide)).trans ((up2_o hV1140 (by decide)).trans ((up2_o hV1147 (by decide)).trans (up2_o hV1146 (by decide)))))))
            have pq1181 : (V1168 84 gf).toInt = ((V 84 gf)).toInt := congrArg Int32.toInt ((up2_o hV1168 (by decide)).trans ((up2_o hV1155 (by decide)).trans ((up2_o hV1161 (by decide)).trans ((up2_o hV1140 (by decide)).trans ((up2_o hV1147 (by decide)).trans (up2_o hV1146 (by decide)))))))
            have pq1182 : (V1168 5 6).toInt = z1172.toInt := congrArg Int32.toInt (up2_s hV1168)
            have pq1183 : (V1168 5 8).toInt = ((V 5 8)).toInt := congrArg Int32.toInt ((up2_k hV1168 (by decide)).trans ((up2_o hV1155 (by decide)).trans ((up2_o hV1161 (by decide)).trans ((up2_o hV1140 (by decide)).trans ((up2_o hV1147 (by decide)).trans (up2_o hV1146 (by decide)))))))
            have pq1184 : (V1168 5 9).toInt = ((V 5 9)).toInt := congrArg Int32.toInt ((up2_k hV1168 (by decide)).trans ((up2_o hV1155 (by decide)).trans ((up2_o hV1161 (by decide)).trans ((up2_o hV1140 (by decide)).trans ((up2_o hV1147 (by decide)).trans (up2_o hV1146 (by decide)))))))
            have pq1185 : (V1168 3 13).toInt = ((V 3 13)).toInt := congrArg Int32.toInt ((up2_o hV1168 (by decide)).trans ((up2_o hV1155 (by decide)).trans ((up2_o hV1161 (by decide)).trans ((up2_o hV1140 (by decide)).trans ((up2_o hV1147 (by decide)).trans (up2_o hV1146 (by decide)))))))
            have pq1186 : (V1168 43 (5 * b + 2)).toInt = ((V 43 (5 * b + 2))).toInt := congrArg Int32.toInt ((up2_o hV1168 (by decide)).trans ((up2_o hV1155 (by decide)).trans ((up2_o hV1161 (by decide)).trans ((up2_o hV1140 (by decide)).trans ((up2_o hV1147 (by decide)).trans (up2_o hV1146 (by decide)))))))
            have pq1187 : (V1168 42 b).toInt = ((V 42 b)).toInt := congrArg Int32.toInt ((up2_o hV1168 (by decide)).trans ((up2_o hV1155 (by decide)).trans ((up2_o hV1161 (by decide)).trans ((up2_o hV1140 (by decide)).trans ((up2_o hV1147 (by decide)).trans (up2_o hV1146 (by decide)))))))
            have pq1188 : (V1168 41 b).toInt = ((V 41 b)).toInt := congrArg Int32.toInt ((up2_o hV1168 (by decide)).trans ((up2_o hV1155 (by decide)).trans ((up2_o hV1161 (by decide)).trans ((up2_o hV1140 (by decide)).trans ((up2_o hV1147 (by decide)).trans (up2_o hV1146 (by decide)))))))
            have rp1189 : MJ V1168 Z b := MP.lv (MO.mp mo) me1173 (by (first | exact om_541a228d28bf gd pq1162 t1166 hz1172 pq1182 | omega)) (fun _ => Or.inl (by omega))
            have pq1190 : (V1168 5 11).toInt = ((V 5 11)).toInt := congrArg Int32.toInt ((up2_k hV1168 (by decide)).trans ((up2_o hV1155 (by decide)).trans ((up2_o hV1161 (by decide)).trans ((up2_o hV1140 (by decide)).trans ((up2_o hV1147 (by decide)).trans (up2_o hV1146 (by decide)))))))
            have pq1191 : (V1168 5 12).toInt = ((V 5 12)).toInt := congrArg Int32.toInt ((up2_k hV1168 (by decide)).trans ((up2_o hV1155 (by decide)).trans ((up2_o hV1161 (by decide)).trans ((up2_o hV1140 (by decide)).trans ((up2_o hV1147 (by decide)).trans (up2_o hV1146 (by decide)))))))
            have pq1192 : (V1168 5 13).toInt = ((V 5 13)).toInt := congrArg Int32.toInt ((up2_k hV1168 (by decide)).trans ((up2_o hV1155 (by decide)).trans ((up2_o hV1161 (by decide)).trans ((up2_o hV1140 (by decide)).trans ((up2_o hV1147 (by decide)).trans (up2_o hV1146 (by decide)))))))
            have r1193 : 0 ≤ ((V 5 13)).toInt ∧ ((V 5 13)).toInt ≤ 3000 := hMV 5 13
            have pq1194 : (V1168 5 7).toInt = ((V 5 7)).toInt := congrArg Int32.toInt ((up2_k hV1168 (by decide)).trans ((up2_o hV1155 (by decide)).trans ((up2_o hV1161 (by decide)).trans ((up2_o hV1140 (by decide)).trans ((up2_o hV1147 (by decide)).trans (up2_o hV1146 (by decide)))))))
            have r1195 : 0 ≤ ((V 5 7)).toInt ∧ ((V 5 7)).toInt ≤ 2048 := hMV 5 7
            have rh2 : (V 5 11).toInt = gm 0 8 ∧ (V 5 12).toInt = gm 0 9 := rh.2.2.1 (show gm 0 6 = 2 from by (first | exact om_147a8ac6eacb rh1 f1131 | omega))
            have rn1196 : RWn V1140 ow gB (mNote gm o (fst1 (gm 0 8) (gm 0 9))) := RWn.note rn (fun c9 k9 h1 h2 h3 h4 => ((show V1140 c9 k9 = V1147 c9 k9 from by rw [hV1140]; exact up2_pl (by omega)).trans ((show V1147 c9 k9 = V1146 c9 k9 from by rw [hV1147]; exact up2_pl (by omega)).trans (show V1146 c9 k9 = V c9 k9 from by rw [hV1146]; exact up2_pl (by omega))))) (Or.inl ⟨hc1142, (by rw [up2_s hV1140]; exact hz1148), (fun i9 hi9 => ⟨(up2_o hV1140 (by decide)).trans ((up2_o hV1147 (by decide)).trans (up2_k hV1146 hi9)), (up2_o hV1140 (by decide)).trans ((up2_k hV1147 hi9).trans (up2_o hV1146 (by decide)))⟩), (show (V1140 36 (Int32.toNatClampNeg (V 4 6))).toInt = o from by rw [(up2_o hV1140 (by decide)).trans ((up2_o hV1147 (by decide)).trans (up2_s hV1146))]; exact q70), (show (V1140 37 (Int32.toNatClampNeg (V 4 6))).toInt = (fst1 (gm 0 8) (gm 0 9)) from by rw [(up2_o hV1140 (by decide)).trans (up2_s hV1147)]; unfold fst1; rcases t1135 with ⟨h1, h2⟩ | ⟨h1, h2⟩; (rw [if_pos (by (first | exact om_bddd29407a79 rh2 h1 | omega))]; omega); (rw [if_neg (by omega)]; (first | exact om_c30f8b808ce3 rh2 h2 | omega)))⟩)
            have dx9 : (Int32.toNatClampNeg (V 70 gf)) = o.toNat := by have h9 := i_clamp (x := (V 70 gf)) rfl (by (first | exact om_c42429f26483 fo q70 hc1157 pq1176 | omega)); (first | exact om_cdba46fd13a1 fo q70 hc1157 pq1176 h9 | omega)
            have do9 : ((o.toNat : Nat) : Int) < (mNote gm o (fst1 (gm 0 8) (gm 0 9))) 0 2 := by rw [mNt_0 (by decide)]; (first | exact om_b313c004abde r8 fo ra2 q70 hc1157 pq1176 pq1185 | omega)
            have db9 := (rn1196).2.1 _ do9
            have ds9 : 24 * Int32.toNatClampNeg (V1140 27 (Int32.toNatClampNeg (V 70 gf))) + Int32.toNatClampNeg (V1140 26 (Int32.toNatClampNeg (V 70 gf))) = 24 * ((mNote gm o (fst1 (gm 0 8) (gm 0 9))) 2 o.toNat).toNat + ((mNote gm o (fst1 (gm 0 8) (gm 0 9))) 1 o.toNat).toNat := by rw [dx9]; have h1 := db9.1.1; have h2 := db9.1.2.1; have h3 := i_clamp (x := V1140 27 o.toNat) rfl (by (first | exact om_57a3b3030c68 db9 | omega)); have h4 := i_clamp (x := V1140 26 o.toNat) rfl (by (first | exact om_624b0f847349 db9 | omega)); (first | exact om_5319a23bfaa2 db9 h3 h4 | omega)
            have rn1197 : RWn V1155 ow gB (mU (mNote gm o (fst1 (gm 0 8) (gm 0 9))) 3 o.toNat 2) := RWn.drop rn1196 do9 (fun x9 hx9 => (up2_o hV1155 (by decide)).trans (up2_k hV1161 (by rw [dx9]; exact hx9))) (by rw [← dx9, (up2_o hV1155 (by decide)).trans (up2_s hV1161)]; decide) (fun k9 hk9 => (up2_k hV1155 (by rw [ds9]; exact hk9)).trans (up2_o hV1161 (by decide))) (by rw [← ds9, up2_s hV1155, if_pos (by rw [← dx9]; have h9 := i_clamp (x := (V 70 gf)) rfl (by (first | exact om_c42429f26483 fo q70 hc1157 pq1176 | omega)); (first | exact om_31a30e49af65 q70 hc1157 pq1176 dx9 h9 | omega))]; decide) (fun c9 k9 h1 h2 h3 => ((show V1155 c9 k9 = V1161 c9 k9 from by rw [hV1155]; exact up2_pl (by omega)).trans (show V1161 c9 k9 = V1140 c9 k9 from by rw [hV1161]; exact up2_pl (by omega))))
            have rn1198 : RWn V1168 ow gB (mU (mNote gm o (fst1 (gm 0 8) (gm 0 9))) 3 o.toNat 2) := RWn.es rn1197 (ESw.ag (show agr [(5, 6)] [] V1155 V1168 from (agr.up agr.rf hV1168 rfl)) (by decide))
            have me1199 : ME V V1168 gf := (ME.up (ME.up (ME.up (ME.up (ME.up (ME.up ME.rf hV1146 (Or.inr (by (first | exact om_cafd1137c917  | omega)))) hV1147 (Or.inr (by (first | exact om_c9c9e20ea0d3  | omega)))) hV1140 (Or.inr (by (first | exact om_5d9c67e1ed13  | omega)))) hV1161 (Or.inr (by (first | exact om_15c89eee5dc0  | omega)))) hV1155 (Or.inr (by omega))) hV1168 (Or.inr (by (first | exact om_f481bd0f1cda  | omega))))
            have rl1200 : RWl V1168 gB gr t0 := RWl.mv hlr (fun i9 hi9 c9 h1 h2 => me1199.2.1 c9 i9 h1 h2 (by (first | exact om_102b9d22baee gd kdp rd rd2 pq1162 t1166 hz1172 hi9 | omega))) (fun j9 hj9 => ((up2_o hV1168 (by decide)).trans ((up2_o hV1155 (by decide)).trans ((up2_o hV1161 (by decide)).trans ((up2_o hV1140 (by decide)).trans ((up2_o hV1147 (by decide)).trans (up2_o hV1146 (by decide)))))))) (by rw [((up2_o hV1168 (by decide)).trans ((up2_o hV1155 (by decide)).trans ((up2_o hV1161 (by decide)).trans ((up2_o hV1140 (by decide)).trans ((up2_o hV1147 (by decide)).trans (up2_o hV1146 (by decide)))))))]; exact Int.le_refl _) ((up2_o hV1168 (by decide)).trans ((up2_o hV1155 (by decide)).trans ((up2_o hV1161 (by decide)).trans ((up2_o hV1140 (by decide)).trans ((up2_o hV1147 (by decide)).trans (up2_o hV1146 (by decide)))))))
            have rz9 : RW V1168 gB ((mU (mNote gm o (fst1 (gm 0 8) (gm 0 9))) 3 o.toNat 2), ga, gr) := RW.fin rwq rn1198 (by rw [mU_o _ _ (by omega), mNt_0 (by decide)]) (fun i9 => (by rw [mU_o _ _ (by omega), mNt_x (by decide) (by decide) (by decide)])) ((up2_k hV1168 (by decide)).trans ((up2_o hV1155 (by decide)).trans ((up2_o hV1161 (by decide)).trans ((up2_o hV1140 (by decide)).trans ((up2_o hV1147 (by decide)).trans (up2_o hV1146 (by decide))))))) (fun i9 => ((up2_o hV1168 (by decide)).trans ((up2_o hV1155 (by decide)).trans ((up2_o hV1161 (by decide)).trans ((up2_o hV1140 (by decide)).trans ((up2_o hV1147 (by decide)).trans (up2_o hV1146 (by decide)))))))) (by rw [(show (mU (mNote gm o (fst1 (gm 0 8) (gm 0 9))) 3 o.toNat 2) 0 6 = gm 0 6 from by rw [mU_o _ _ (by omega), mNt_0 (by decide)])]; (first | exact om_4aa03bcffe3b rh1 f1131 pq1184 | omega)) (fun h9 => by rw [(show (mU (mNote gm o (fst1 (gm 0 8) (gm 0 9))) 3 o.toNat 2) 0 6 = gm 0 6 from by rw [mU_o _ _ (by omega), mNt_0 (by decide)])] at h9; exfalso; (first | exact om_8e6f48d55a9e rh1 f1131 h9 | omega)) (fun h9 => by rw [mU_o _ _ (by omega), mU_o _ _ (by omega), mNt_0 (by decide), mNt_0 (by decide)]; exact ⟨by have h8 := rh2.1; (first | exact om_c93582d34511 pq1190 rh2 | omega), by have h8 := rh2.2; (first | exact om_1d51879d5b6b pq1191 rh2 | omega)⟩) (by (first | exact om_0893762427d8 kdp rd rd2 pq1162 t1166 | omega)) (by rw [((up2_k hV1168 (by decide)).trans ((up2_o hV1155 (by decide)).trans ((up2_o hV1161 (by decide)).trans ((up2_o hV1140 (by decide)).trans ((up2_o hV1147 (by decide)).trans (up2_o hV1146 (by decide))))))), rt9, tz9]) rl1200
            have rx1201 : RW V1168 gB (stM gB (gm, ga, gfr :: gr)) := by rw [hfe, st_18.trans (cl_f (by rw [← rh1]; omega))]; exact rz9
            refine W.know (fun kr1 kr2 => ?_)
            refine W.widen (k := zcc Z) (n := zss Z) (Nat.sub_le _ _) (Nat.sub_le _ _) ?_
            exact W.vret hx hb hr (fun t ht hW => ⟨⟨(V1168, L, Z), rfl, ⟨hMV1168, agV1168, rfl, zoZ, rp1189, rx1201⟩, ⟨by rw [ht]; exact hP, va_K.moved hW.alike hK, hD⟩, by rw [ht]; exact kr1, by rw [ht]; exact kr2⟩, hS.F ht⟩) hS.2.2 dX5_goOnClosing_113
          · skip
            have hV1155 : V1155 = up2 V1140 28 (Int32.toNatClampNeg (V 70 gf)) 2 := by rw [hw1160]
            refine lv_aload_n hx hb dX5_goOnClosing_109 rfl (lv_at hl 2 rfl) ?_
            have pq1202 : (V1155 5 6).toInt = ((V 5 6)).toInt := congrArg Int32.toInt ((up2_o hV1155 (by decide)).trans ((up2_o hV1140 (by decide)).trans ((up2_o hV1147 (by decide)).trans (up2_o hV1146 (by decide)))))
            refine gA_void (gA_runV (As := []) (rest := []) (ci := 5) (q0 := 5) hx hb hml hown hg hP hD hK hS hA hnw hgk (x_leave9 l D ks H.size ad kk V1155 L Z  hMV1155 (show 1 ≤ (V1155 5 6).toInt from by (first | exact om_c36fd4a9fcac gd gl9 pq1202 | omega))) w1308 w1310 w50 w171 w1311 rfl xgMachine hdV_yX5_leave ⟨Nat.le_of_ble_eq_true rfl, Nat.le_of_ble_eq_true rfl⟩ rfl hl.1 rfl (Nat.le_of_ble_eq_true rfl) dX5_goOnClosing_110 ⟨z0, z0⟩) hP hD hK hS hA (fun u1204 H locs w1205 hP hD hK hS => ?_)
            obtain ⟨V1208, L1209⟩ := u1204
            obtain ⟨hMV1208, ajV1208, axL1209, t1206, t1207⟩ := w1205
            have axL1209 : L = L1209 := Eq.symm axL1209
            subst axL1209
            have hP : va_P D vwCl (xw ad kk V1208 L Z) H := hP
            have hD : va_D A (xw ad kk V1208 L Z) := hD
            have hMV1208 : rgd bX V1208 := hMV1208
            have ajV1208 : agr [(5, 6)] [] V1155 V1208 := ajV1208
            have agV1208 : agr [(4, 6), (5, 6), (5, 9), (5, 10)] [25, 28, 36, 37, 67, 68, 69, 70, 71, 72, 73, 74, 75, 76, 77, 78, 79, 80, 81, 82, 83, 84, 85] V V1208 := agV1155.tr ajV1208 (by decide) (by decide)
            have t1206 : (V1208 5 6).toInt = (V1155 5 6).toInt - 1 := t1206
            have t1207 : ((True) ∧ V1208 = (up2 V1155 5 6 (V1155 5 6 - 1))) := t1207
            have r1210 : 0 ≤ ((V1208 5 6)).toInt ∧ ((V1208 5 6)).toInt ≤ 400 := hMV1208 5 6
            have hw1211 := t1207.2
            obtain ⟨z1212, ez1212⟩ : ∃ y : Int32, y = V1155 5 6 - 1 := ⟨_, rfl⟩
            have hz1212 : z1212.toInt = (V1155 5 6).toInt - 1 := i_sub ez1212 rfl (by decide) (by (first | exact om_70510bf9f0cb gd gl9 sl9 pq1202 | omega))
            have hV1208 : V1208 = up2 V1155 5 6 z1212 := by rw [hw1211, ez1212]
            have me1213 : ME V V1208 gf := (ME.up (ME.up (ME.up (ME.up (ME.up ME.rf hV1146 (Or.inr (by (first | exact om_cafd1137c917  | omega)))) hV1147 (Or.inr (by (first | exact om_c9c9e20ea0d3  | omega)))) hV1140 (Or.inr (by (first | exact om_5d9c67e1ed13  | omega)))) hV1155 (Or.inr (by (first | exact om_15c89eee5dc0  | omega)))) hV1208 (Or.inr (by (first | exact om_f481bd0f1cda  | omega))))
            have pq1214 : (V1208 67 gf).toInt = ((V 67 gf)).toInt := congrArg Int32.toInt ((up2_o hV1208 (by decide)).trans ((up2_o hV1155 (by decide)).trans ((up2_o hV1140 (by decide)).trans ((up2_o hV1147 (by decide)).trans (up2_o hV1146 (by decide))))))
            have pq1215 : (V1208 68 gf).toInt = ((V 68 gf)).toInt := congrArg Int32.toInt ((up2_o hV1208 (by decide)).trans ((up2_o hV1155 (by decide)).trans ((up2_o hV1140 (by decide)).trans ((up2_o hV1147 (by decide)).trans (up2_o hV1146 (by decide))))))
            have pq1216 : (V1208 70 gf).toInt = ((V 70 gf)).toInt := congrArg Int32.toInt ((up2_o hV1208 (by decide)).trans ((up2_o hV1155 (by decide)).trans ((up2_o hV1140 (by decide)).trans ((up2_o hV1147 (by decide)).trans (up2_o hV1146 (by decide))))))
            have pq1217 : (V1208 71 gf).toInt = ((V 71 gf)).toInt := congrArg Int32.toInt ((up2_o hV1208 (by decide)).trans ((up2_o hV1155 (by decide)).trans ((up2_o hV1140 (by decide)).trans ((up2_o hV1147 (by decide)).trans (up2_o hV1146 (by decide))))))
            have pq1218 : (V1208 75 gf).toInt = ((V 75 gf)).toInt := congrArg Int32.toInt ((up2_o hV1208 (by decide)).trans ((up2_o hV1155 (by decide)).trans ((up2_o hV1140 (by decide)).trans ((up2_o hV1147 (by decide)).trans (up2_o hV1146 (by decide))))))
            have pq1219 : (V1208 76 gf).toInt = ((V 76 gf)).toInt := congrArg Int32.toInt ((up2_o hV1208 (by decide)).trans ((up2_o hV1155 (by decide)).trans ((up2_o hV1140 (by decide)).trans ((up2_o hV1147 (by decide)).trans (up2_o hV1146 (by decide))))))
            have pq1220 : (V1208 80 gf).toInt = ((V 80 gf)).toInt := congrArg Int32.toInt ((up2_o hV1208 (by decide)).trans ((up2_o hV1155 (by decide)).trans ((up2_o hV1140 (by decide)).trans ((up2_o hV1147 (by decide)).trans (up2_o hV1146 (by decide))))))
            have pq1221 : (V1208 84 gf).toInt = ((V 84 gf)).toInt := congrArg Int32.toInt ((up2_o hV1208 (by decide)).trans ((up2_o hV1155 (by decide)).trans ((up2_o hV1140 (by decide)).trans ((up2_o hV1147 (by decide)).trans (up2_o hV1146 (by decide))))))
            have pq1222 : (V1208 5 6).toInt = z1212.toInt := congrArg Int32.toInt (up2_s hV1208)
            have pq1223 : (V1208 5 8).toInt = ((V 5 8)).toInt := congrArg Int32.toInt ((up2_k hV1208 (by decide)).trans ((up2_o hV1155 (by decide)).trans ((up2_o hV1140 (by decide)).trans ((up2_o hV1147 (by decide)).trans (up2_o hV1146 (by decide))))))
            have pq1224 : (V1208 5 9).toInt = ((V 5 9)).toInt := congrArg Int32.toInt ((up2_k hV1208 (by decide)).trans ((up2_o hV1155 (by decide)).trans ((up2_o hV1140 (by decide)).trans ((up2_o hV1147 (by decide)).trans (up2_o hV1146 (by decide))))))
            have pq1225 : (V1208 3 13).toInt = ((V 3 13)).toInt := congrArg Int32.toInt ((up2_o hV1208 (by decide)).trans ((up2_o hV1155 (by decide)).trans ((up2_o hV1140 (by decide)).trans ((up2_o hV1147 (by decide)).trans (up2_o hV1146 (by decide))))))
            have pq1226 : (V1208 43 (5 * b + 2)).toInt = ((V 43 (5 * b + 2))).toInt := congrArg Int32.toInt ((up2_o hV1208 (by decide)).trans ((up2_o hV1155 (by decide)).trans ((up2_o hV1140 (by decide)).trans ((up2_o hV1147 (by decide)).trans (up2_o hV1146 (by decide))))))
            have pq1227 : (V1208 42 b).toInt = ((V 42 b)).toInt := congrArg Int32.toInt ((up2_o hV1208 (by decide)).trans ((up2_o hV1155 (by decide)).trans ((up2_o hV1140 (by decide)).trans ((up2_o hV1147 (by decide)).trans (up2_o hV1146 (by decide))))))
            have pq1228 : (V1208 41 b).toInt = ((V 41 b)).toInt := congrArg Int32.toInt ((up2_o hV1208 (by decide)).trans ((up2_o hV1155 (by decide)).trans ((up2_o hV1140 (by decide)).trans ((up2_o hV1147 (by decide)).trans (up2_o hV1146 (by decide))))))
            have rp1229 : MJ V1208 Z b := MP.lv (MO.mp mo) me1213 (by (first | exact om_541a228d28bf gd pq1202 t1206 hz1212 pq1222 | omega)) (fun _ => Or.inl (by omega))
            have pq1230 : (V1208 5 11).toInt = ((V 5 11)).toInt := congrArg Int32.toInt ((up2_k hV1208 (by decide)).trans ((up2_o hV1155 (by decide)).trans ((up2_o hV1140 (by decide)).trans ((up2_o hV1147 (by decide)).trans (up2_o hV1146 (by decide))))))
            have pq1231 : (V1208 5 12).toInt = ((V 5 12)).toInt := congrArg Int32.toInt ((up2_k hV1208 (by decide)).trans ((up2_o hV1155 (by decide)).trans ((up2_o hV1140 (by decide)).trans ((up2_o hV1147 (by decide)).trans (up2_o hV1146 (by decide))))))
            have pq1232 : (V1208 5 13).toInt = ((V 5 13)).toInt := congrArg Int32.toInt ((up2_k hV1208 (by decide)).trans ((up2_o hV1155 (by decide)).trans ((up2_o hV1140 (by decide)).trans ((up2_o hV1147 (by decide)).trans (up2_o hV1146 (by decide))))))
            have r1233 : 0 ≤ ((V 5 13)).toInt ∧ ((V 5 13)).toInt ≤ 3000 := hMV 5 13
            have pq1234 : (V1208 5 7).toInt = ((V 5 7)).toInt := congrArg Int32.toInt ((up2_k hV1208 (by decide)).trans ((up2_o hV1155 (by decide)).trans ((up2_o hV1140 (by decide)).trans ((up2_o hV1147 (by decide)).trans (up2_o hV1146 (by decide))))))
            have r1235 : 0 ≤ ((V 5 7)).toInt ∧ ((V 5 7)).toInt ≤ 2048 := hMV 5 7
            have rh2 : (V 5 11).toInt = gm 0 8 ∧ (V 5 12).toInt = gm 0 9 := rh.2.2.1 (show gm 0 6 = 2 from by (first | exact om_147a8ac6eacb rh1 f1131 | omega))
            have rn1236 : RWn V1140 ow gB (mNote gm o (fst1 (gm 0 8) (gm 0 9))) := RWn.note rn (fun c9 k9 h1 h2 h3 h4 => ((show V1140 c9 k9 = V1147 c9 k9 from by rw [hV1140]; exact up2_pl (by omega)).trans ((show V1147 c9 k9 = V1146 c9 k9 from by rw [hV1147]; exact up2_pl (by omega)).trans (show V1146 c9 k9 = V c9 k9 from by rw [hV1146]; exact up2_pl (by omega))))) (Or.inl ⟨hc1142, (by rw [up2_s hV1140]; exact hz1148), (fun i9 hi9 => ⟨(up2_o hV1140 (by decide)).trans ((up2_o hV1147 (by decide)).trans (up2_k hV1146 hi9)), (up2_o hV1140 (by decide)).trans ((up2_k hV1147 hi9).trans (up2_o hV1146 (by decide)))⟩), (show (V1140 36 (Int32.toNatClampNeg (V 4 6))).toInt = o from by rw [(up2_o hV1140 (by decide)).trans ((up2_o hV1147 (by decide)).trans (up2_s hV1146))]; exact q70), (show (V1140 37 (Int32.toNatClampNeg (V 4 6))).toInt = (fst1 (gm 0 8) (gm 0 9)) from by rw [(up2_o hV1140 (by decide)).trans (up2_s hV1147)]; unfold fst1; rcases t1135 with ⟨h1, h2⟩ | ⟨h1, h2⟩; (rw [if_pos (by (first | exact om_bddd29407a79 rh2 h1 | omega))]; omega); (rw [if_neg (by omega)]; (first | exact om_c30f8b808ce3 rh2 h2 | omega)))⟩)
            have dx9 : (Int32.toNatClampNeg (V 70 gf)) = o.toNat := by have h9 := i_clamp (x := (V 70 gf)) rfl (by (first | exact om_2996291ce4c2 fo q70 pq1216 | omega)); (first | exact om_6acf0db861ed fo q70 pq1216 h9 | omega)
            have do9 : ((o.toNat : Nat) : Int) < (mNote gm o (fst1 (gm 0 8) (gm 0 9))) 0 2 := by rw [mNt_0 (by decide)]; (first | exact om_5b0e08f69870 r8 fo ra2 q70 pq1216 pq1225 | omega)
            have db9 := (rn1236).2.1 _ do9
            have ds9 : 24 * Int32.toNatClampNeg (V1140 27 (Int32.toNatClampNeg (V 70 gf))) + Int32.toNatClampNeg (V1140 26 (Int32.toNatClampNeg (V 70 gf))) = 24 * ((mNote gm o (fst1 (gm 0 8) (gm 0 9))) 2 o.toNat).toNat + ((mNote gm o (fst1 (gm 0 8) (gm 0 9))) 1 o.toNat).toNat := by rw [dx9]; have h1 := db9.1.1; have h2 := db9.1.2.1; have h3 := i_clamp (x := V1140 27 o.toNat) rfl (by (first | exact om_57a3b3030c68 db9 | omega)); have h4 := i_clamp (x := V1140 26 o.toNat) rfl (by (first | exact om_624b0f847349 db9 | omega)); (first | exact om_5319a23bfaa2 db9 h3 h4 | omega)
            have rn1237 : RWn V1155 ow gB (mU (mNote gm o (fst1 (gm 0 8) (gm 0 9))) 3 o.toNat 2) := RWn.drop rn1236 do9 (fun x9 hx9 => up2_k hV1155 (by rw [dx9]; exact hx9)) (by rw [← dx9, up2_s hV1155]; decide) (fun k9 _ => up2_o hV1155 (by decide)) (by rw [← ds9, up2_o hV1155 (by decide), if_neg (by rw [← dx9]; have h9 := i_clamp (x := (V 70 gf)) rfl (by (first | exact om_2996291ce4c2 fo q70 pq1216 | omega)); omega)]) (fun c9 k9 h1 h2 h3 => (show V1155 c9 k9 = V1140 c9 k9 from by rw [hV1155]; exact up2_pl (by omega)))
            have rn1238 : RWn V1208 ow gB (mU (mNote gm o (fst1 (gm 0 8) (gm 0 9))) 3 o.toNat 2) := RWn.es rn1237 (ESw.ag (show agr [(5, 6)] [] V1155 V1208 from (agr.up agr.rf hV1208 rfl)) (by decide))
            have me1239 : ME V V1208 gf := (ME.up (ME.up (ME.up (ME.up (ME.up ME.rf hV1146 (Or.inr (by (first | exact om_cafd1137c917  | omega)))) hV1147 (Or.inr (by (first | exact om_c9c9e20ea0d3  | omega)))) hV1140 (Or.inr (by (first | exact om_5d9c67e1ed13  | omega)))) hV1155 (Or.inr (by (first | exact om_15c89eee5dc0  | omega)))) hV1208 (Or.inr (by (first | exact om_f481bd0f1cda  | omega))))
            have rl1240 : RWl V1208 gB gr t0 := RWl.mv hlr (fun i9 hi9 c9 h1 h2 => me1239.2.1 c9 i9 h1 h2 (by (first | exact om_102b9d22baee gd kdp rd rd2 pq1202 t1206 hz1212 hi9 | omega))) (fun j9 hj9 => ((up2_o hV1208 (by decide)).trans ((up2_o hV1155 (by decide)).trans ((up2_o hV1140 (by decide)).trans ((up2_o hV1147 (by decide)).trans (up2_o hV1146 (by decide))))))) (by rw [((up2_o hV1208 (by decide)).trans ((up2_o hV1155 (by decide)).trans ((up2_o hV1140 (by decide)).trans ((up2_o hV1147 (by decide)).trans (up2_o hV1146 (by decide))))))]; exact Int.le_refl _) ((up2_o hV1208 (by decide)).trans ((up2_o hV1155 (by decide)).trans ((up2_o hV1140 (by decide)).trans ((up2_o hV1147 (by decide)).trans (up2_o hV1146 (by decide))))))
            have rz9 : RW V1208 gB ((mU (mNote gm o (fst1 (gm 0 8) (gm 0 9))) 3 o.toNat 2), ga, gr) := RW.fin rwq rn1238 (by rw [mU_o _ _ (by omega), mNt_0 (by decide)]) (fun i9 => (by rw [mU_o _ _ (by omega), mNt_x (by decide) (by decide) (by decide)])) ((up2_k hV1208 (by decide)).trans ((up2_o hV1155 (by decide)).trans ((up2_o hV1140 (by decide)).trans ((up2_o hV1147 (by decide)).trans (up2_o hV1146 (by decide)))))) (fun i9 => ((up2_o hV1208 (by decide)).trans ((up2_o hV1155 (by decide)).trans ((up2_o hV1140 (by decide)).trans ((up2_o hV1147 (by decide)).trans (up2_o hV1146 (by decide))))))) (by rw [(show (mU (mNote gm o (fst1 (gm 0 8) (gm 0 9))) 3 o.toNat 2) 0 6 = gm 0 6 from by rw [mU_o _ _ (by omega), mNt_0 (by decide)])]; (first | exact om_4aa03bcffe3b rh1 f1131 pq1224 | omega)) (fun h9 => by rw [(show (mU (mNote gm o (fst1 (gm 0 8) (gm 0 9))) 3 o.toNat 2) 0 6 = gm 0 6 from by rw [mU_o _ _ (by omega), mNt_0 (by decide)])] at h9; exfalso; (first | exact om_8e6f48d55a9e rh1 f1131 h9 | omega)) (fun h9 => by rw [mU_o _ _ (by omega), mU_o _ _ (by omega), mNt_0 (by decide), mNt_0 (by decide)]; exact ⟨by have h8 := rh2.1; (first | exact om_c93582d34511 pq1230 rh2 | omega), by have h8 := rh2.2; (first | exact om_1d51879d5b6b pq1231 rh2 | omega)⟩) (by (first | exact om_0893762427d8 kdp rd rd2 pq1202 t1206 | omega)) (by rw [((up2_k hV1208 (by decide)).trans ((up2_o hV1155 (by decide)).trans ((up2_o hV1140 (by decide)).trans ((up2_o hV1147 (by decide)).trans (up2_o hV1146 (by decide)))))), rt9, tz9]) rl1240
            have rx1241 : RW V1208 gB (stM gB (gm, ga, gfr :: gr)) := by rw [hfe, st_18.trans (cl_f (by rw [← rh1]; omega))]; exact rz9
            refine W.know (fun kr1 kr2 => ?_)
            refine W.widen (k := zcc Z) (n := zss Z) (Nat.sub_le _ _) (Nat.sub_le _ _) ?_
            exact W.vret hx hb hr (fun t ht hW => ⟨⟨(V1208, L, Z), rfl, ⟨hMV1208, agV1208, rfl, zoZ, rp1229, rx1241⟩, ⟨by rw [ht]; exact hP, va_K.moved hW.alike hK, hD⟩, by rw [ht]; exact kr1, by rw [ht]; exact kr2⟩, hS.F ht⟩) hS.2.2 dX5_goOnClosing_113
        · skip
          have ajV1140 : agr [] [] V V1140 := by rw [hw1145]; exact agr.rf
          refine lv_aload_n hx hb dX5_goOnClosing_98 rfl (lv_at hl 2 rfl) ?_
          refine va_get (D := D) (ci := 5) (v := .ref (ad 3)) (fs := (xfMachine ad V1140 L Z)) (C := RX5) (T := TX5) (N := 15) hx hb hg inX5 hown hK hP 5 xgMachine rfl 0 (by decide) (hg _ w667) (fun _ h9 => h9) rfl dX5_goOnClosing_99 ?_
          refine lv_aload_n hx hb dX5_goOnClosing_102 rfl (lv_at hl 3 rfl) ?_
          refine va_getN (D := D) (ci := 4) (v := .int (V1140 70 gf)) (fs := (xfFrame V1140 gf)) (C := RX4) (T := TX4) (N := 19) hx hb hg inX4 hown hK hP (336 + gf) (xgFrame hgf) rfl 3 (by decide) (hnw.use 1192 n1192 rfl) (fun _ h9 => h9) rfl dX5_goOnClosing_103 ?_
          refine g_top (v := (V 70 gf)) (ajV1140 70 gf rfl) ?_
          refine gA_void (gA_runV (As := [.int (V 70 gf)]) (rest := []) (ci := 8) (q0 := 3) hx hb hml hown hg hP hD hK hS hA hnw hgk (x_dropObject9 l D ks H.size ad kk V1140 L Z (V 70 gf) hMV1140 (by (first | exact om_d0c9b7046452 r8 fo ra2 q70 | omega))) w1336 w1337 w1338 w164 w1339 rfl xgStock hdV_yX8_dropObject ⟨Nat.le_of_ble_eq_true rfl, Nat.le_of_ble_eq_true rfl⟩ rfl hl.1 rfl (Nat.le_of_ble_eq_true rfl) dX5_goOnClosing_106 ⟨z0, z0⟩) hP hD hK hS hA (fun u1243 H locs w1244 hP hD hK hS => ?_)
          obtain ⟨V1247, L1248⟩ := u1243
          obtain ⟨hMV1247, ajV1247, axL1248, t1245, t1246⟩ := w1244
          have axL1248 : L = L1248 := Eq.symm axL1248
          subst axL1248
          have hP : va_P D vwCl (xw ad kk V1247 L Z) H := hP
          have hD : va_D A (xw ad kk V1247 L Z) := hD
          have hMV1247 : rgd bX V1247 := hMV1247
          have ajV1247 : agr [] [25, 28] V1140 V1247 := ajV1247
          have agV1247 : agr [(4, 6), (5, 6), (5, 9), (5, 10)] [25, 28, 36, 37, 67, 68, 69, 70, 71, 72, 73, 74, 75, 76, 77, 78, 79, 80, 81, 82, 83, 84, 85] V V1247 := agV1140.tr ajV1247 (by decide) (by decide)
          have t1245 : ∀ n, ME V1140 V1247 n := t1245
          have t1246 : (((V1140 25 (24 * Int32.toNatClampNeg (V1140 27 (Int32.toNatClampNeg (V 70 gf))) + Int32.toNatClampNeg (V1140 26 (Int32.toNatClampNeg (V 70 gf))))).toInt = ((V 70 gf)).toInt) ∧ V1247 = (up2 (up2 V1140 28 (Int32.toNatClampNeg (V 70 gf)) 2) 25 (24 * Int32.toNatClampNeg (V1140 27 (Int32.toNatClampNeg (V 70 gf))) + Int32.toNatClampNeg (V1140 26 (Int32.toNatClampNeg (V 70 gf)))) (-1))) ∨ (((V1140 25 (24 * Int32.toNatClampNeg (V1140 27 (Int32.toNatClampNeg (V 70 gf))) + Int32.toNatClampNeg (V1140 26 (Int32.toNatClampNeg (V 70 gf))))).toInt ≠ ((V 70 gf)).toInt) ∧ V1247 = (up2 V1140 28 (Int32.toNatClampNeg (V 70 gf)) 2)) := t1246
          rcases t1246 with ⟨hc1249, hw1250⟩ | ⟨hc1251, hw1252⟩
          · skip
            obtain ⟨V1253, hV1253⟩ : ∃ z, z = up2 V1140 28 (Int32.toNatClampNeg (V 70 gf)) 2 := ⟨_, rfl⟩
            have hV1247 : V1247 = up2 V1253 25 (24 * Int32.toNatClampNeg (V1140 27 (Int32.toNatClampNeg (V 70 gf))) + Int32.toNatClampNeg (V1140 26 (Int32.toNatClampNeg (V 70 gf)))) (-1) := by rw [hw1250, hV1253]
            refine lv_aload_n hx hb dX5_goOnClosing_109 rfl (lv_at hl 2 rfl) ?_
            have pq1254 : (V1247 5 6).toInt = ((V 5 6)).toInt := congrArg Int32.toInt ((up2_o hV1247 (by decide)).trans ((up2_o hV1253 (by decide)).trans (ajV1140 5 6 rfl)))
            refine gA_void (gA_runV (As := []) (rest := []) (ci := 5) (q0 := 5) hx hb hml hown hg hP hD hK hS hA hnw hgk (x_leave9 l D ks H.size ad kk V1247 L Z  hMV1247 (show 1 ≤ (V1247 5 6).toInt from by (first | exact om_c36fd4a9fcac gd gl9 pq1254 | omega))) w1308 w1310 w50 w171 w1311 rfl xgMachine hdV_yX5_leave ⟨Nat.le_of_ble_eq_true rfl, Nat.le_of_ble_eq_true rfl⟩ rfl hl.1 rfl (Nat.le_of_ble_eq_true rfl) dX5_goOnClosing_110 ⟨z0, z0⟩) hP hD hK hS hA (fun u1256 H locs w1257 hP hD hK hS => ?_)
            obtain ⟨V1260, L1261⟩ := u1256
            obtain ⟨hMV1260, ajV1260, axL1261, t1258, t1259⟩ := w1257
            have axL1261 : L = L1261 := Eq.symm axL1261
            subst axL1261
            have hP : va_P D vwCl (xw ad kk V1260 L Z) H := hP
            have hD : va_D A (xw ad kk V1260 L Z) := hD
            have hMV1260 : rgd bX V1260 := hMV1260
            have ajV1260 : agr [(5, 6)] [] V1247 V1260 := ajV1260
            have agV1260 : agr [(4, 6), (5, 6), (5, 9), (5, 10)] [25, 28, 36, 37, 67, 68, 69, 70, 71, 72, 73, 74, 75, 76, 77, 78, 79, 80, 81, 82, 83, 84, 85] V V1260 := agV1247.tr ajV1260 (by decide) (by decide)
            have t1258 : (V1260 5 6).toInt = (V1247 5 6).toInt - 1 := t1258
            have t1259 : ((True) ∧ V1260 = (up2 V1247 5 6 (V1247 5 6 - 1))) := t1259
            have r1262 : 0 ≤ ((V1260 5 6)).toInt ∧ ((V1260 5 6)).toInt ≤ 400 := hMV1260 5 6
            have hw1263 := t1259.2
            obtain ⟨z1264, ez1264⟩ : ∃ y : Int32, y = V1247 5 6 - 1 := ⟨_, rfl⟩
            have hz1264 : z1264.toInt = (V1247 5 6).toInt - 1 := i_sub ez1264 rfl (by decide) (by (first | exact om_70510bf9f0cb gd gl9 sl9 pq1254 | omega))
            have hV1260 : V1260 = up2 V1247 5 6 z1264 := by rw [hw1263, ez1264]
            have me1265 : ME V V1260 gf := (ME.up (ME.up (ME.up (ME.tr ME.rf (ME.ag ajV1140 (by decide))) hV1253 (Or.inr (by (first | exact om_15c89eee5dc0  | omega)))) hV1247 (Or.inr (by omega))) hV1260 (Or.inr (by (first | exact om_f481bd0f1cda  | omega))))
            have pq1266 : (V1260 67 gf).toInt = ((V 67 gf)).toInt := congrArg Int32.toInt ((up2_o hV1260 (by decide)).trans ((up2_o hV1247 (by decide)).trans ((up2_o hV1253 (by decide)).trans (ajV1140 67 gf rfl))))
            have pq1267 : (V1260 68 gf).toInt = ((V 68 gf)).toInt := congrArg Int32.toInt ((up2_o hV1260 (by decide)).trans ((up2_o hV1247 (by decide)).trans ((up2_o hV1253 (by decide)).trans (ajV1140 68 gf rfl))))
            have pq1268 : (V1260 70 gf).toInt = ((V 70 gf)).toInt := congrArg Int32.toInt ((up2_o hV1260 (by decide)).trans ((up2_o hV1247 (by decide)).trans ((up2_o hV1253 (by decide)).trans (ajV1140 70 gf rfl))))
            have pq1269 : (V1260 71 gf).toInt = ((V 71 gf)).toInt := congrArg Int32.toInt ((up2_o hV1260 (by decide)).trans ((up2_o hV1247 (by decide)).trans ((up2_o hV1253 (by decide)).trans (ajV1140 71 gf rfl))))
            have pq1270 : (V1260 75 gf).toInt = ((V 75 gf)).toInt := congrArg Int32.toInt ((up2_o hV1260 (by decide)).trans ((up2_o hV1247 (by decide)).trans ((up2_o hV1253 (by decide)).trans (ajV1140 75 gf rfl))))
            have pq1271 : (V1260 76 gf).toInt = ((V 76 gf)).toInt := congrArg Int32.toInt ((up2_o hV1260 (by decide)).trans ((up2_o hV1247 (by decide)).trans ((up2_o hV1253 (by decide)).trans (ajV1140 76 gf rfl))))
            have pq1272 : (V1260 80 gf).toInt = ((V 80 gf)).toInt := congrArg Int32.toInt ((up2_o hV1260 (by decide)).trans ((up2_o hV1247 (by decide)).trans ((up2_o hV1253 (by decide)).trans (ajV1140 80 gf rfl))))
            have pq1273 : (V1260 84 gf).toInt = ((V 84 gf)).toInt := congrArg Int32.toInt ((up2_o hV1260 (by decide)).trans ((up2_o hV1247 (by decide)).trans ((up2_o hV1253 (by decide)).trans (ajV1140 84 gf rfl))))
            have pq1274 : (V1260 5 6).toInt = z1264.toInt := congrArg Int32.toInt (up2_s hV1260)
            have pq1275 : (V1260 5 8).toInt = ((V 5 8)).toInt := congrArg Int32.toInt ((up2_k hV1260 (by decide)).trans ((up2_o hV1247 (by decide)).trans ((up2_o hV1253 (by decide)).trans (ajV1140 5 8 rfl))))
            have pq1276 : (V1260 5 9).toInt = ((V 5 9)).toInt := congrArg Int32.toInt ((up2_k hV1260 (by decide)).trans ((up2_o hV1247 (by decide)).trans ((up2_o hV1253 (by decide)).trans (ajV1140 5 9 rfl))))
            have pq1277 : (V1260 3 13).toInt = ((V 3 13)).toInt := congrArg Int32.toInt ((up2_o hV1260 (by decide)).trans ((up2_o hV1247 (by decide)).trans ((up2_o hV1253 (by decide)).trans (ajV1140 3 13 rfl))))
            have pq1278 : (V1260 43 (5 * b + 2)).toInt = ((V 43 (5 * b + 2))).toInt := congrArg Int32.toInt ((up2_o hV1260 (by decide)).trans ((up2_o hV1247 (by decide)).trans ((up2_o hV1253 (by decide)).trans (ajV1140 43 (5 * b + 2) rfl))))
            have pq1279 : (V1260 42 b).toInt = ((V 42 b)).toInt := congrArg Int32.toInt ((up2_o hV1260 (by decide)).trans ((up2_o hV1247 (by decide)).trans ((up2_o hV1253 (by decide)).trans (ajV1140 42 b rfl))))
            have pq1280 : (V1260 41 b).toInt = ((V 41 b)).toInt := congrArg Int32.toInt ((up2_o hV1260 (by decide)).trans ((up2_o hV1247 (by decide)).trans ((up2_o hV1253 (by decide)).trans (ajV1140 41 b rfl))))
            have rp1281 : MJ V1260 Z b := MP.lv (MO.mp mo) me1265 (by (first | exact om_541a228d28bf gd pq1254 t1258 hz1264 pq1274 | omega)) (fun _ => Or.inl (by omega))
            have pq1282 : (V1260 5 11).toInt = ((V 5 11)).toInt := congrArg Int32.toInt ((up2_k hV1260 (by decide)).trans ((up2_o hV1247 (by decide)).trans ((up2_o hV1253 (by decide)).trans (ajV1140 5 11 rfl))))
            have pq1283 : (V1260 5 12).toInt = ((V 5 12)).toInt := congrArg Int32.toInt ((up2_k hV1260 (by decide)).trans ((up2_o hV1247 (by decide)).trans ((up2_o hV1253 (by decide)).trans (ajV1140 5 12 rfl))))
            have pq1284 : (V1260 5 13).toInt = ((V 5 13)).toInt := congrArg Int32.toInt ((up2_k hV1260 (by decide)).trans ((up2_o hV1247 (by decide)).trans ((up2_o hV1253 (by decide)).trans (ajV1140 5 13 rfl))))
            have r1285 : 0 ≤ ((V 5 13)).toInt ∧ ((V 5 13)).toInt ≤ 3000 := hMV 5 13
            have pq1286 : (V1260 5 7).toInt = ((V 5 7)).toInt := congrArg Int32.toInt ((up2_k hV1260 (by decide)).trans ((up2_o hV1247 (by decide)).trans ((up2_o hV1253 (by decide)).trans (ajV1140 5 7 rfl))))
            have r1287 : 0 ≤ ((V 5 7)).toInt ∧ ((V 5 7)).toInt ≤ 2048 := hMV 5 7
            have rh2 : (V 5 11).toInt = gm 0 8 ∧ (V 5 12).toInt = gm 0 9 := rh.2.2.1 (show gm 0 6 = 2 from by (first | exact om_147a8ac6eacb rh1 f1131 | omega))
            have rn1288 : RWn V1140 ow gB (mNote gm o (fst1 (gm 0 8) (gm 0 9))) := RWn.note rn (fun c9 k9 h1 h2 h3 h4 => (ajV1140 c9 k9 rfl)) (Or.inr ⟨hc1144, (ajV1140 4 6 rfl), fun i9 => ⟨(ajV1140 36 i9 rfl), (ajV1140 37 i9 rfl)⟩⟩)
            have dx9 : (Int32.toNatClampNeg (V 70 gf)) = o.toNat := by have h9 := i_clamp (x := (V 70 gf)) rfl (by (first | exact om_c42429f26483 fo q70 hc1249 pq1268 | omega)); (first | exact om_cdba46fd13a1 fo q70 hc1249 pq1268 h9 | omega)
            have do9 : ((o.toNat : Nat) : Int) < (mNote gm o (fst1 (gm 0 8) (gm 0 9))) 0 2 := by rw [mNt_0 (by decide)]; (first | exact om_b313c004abde r8 fo ra2 q70 hc1249 pq1268 pq1277 | omega)
            have db9 := (rn1288).2.1 _ do9
            have ds9 : 24 * Int32.toNatClampNeg (V1140 27 (Int32.toNatClampNeg (V 70 gf))) + Int32.toNatClampNeg (V1140 26 (Int32.toNatClampNeg (V 70 gf))) = 24 * ((mNote gm o (fst1 (gm 0 8) (gm 0 9))) 2 o.toNat).toNat + ((mNote gm o (fst1 (gm 0 8) (gm 0 9))) 1 o.toNat).toNat := by rw [dx9]; have h1 := db9.1.1; have h2 := db9.1.2.1; have h3 := i_clamp (x := V1140 27 o.toNat) rfl (by (first | exact om_57a3b3030c68 db9 | omega)); have h4 := i_clamp (x := V1140 26 o.toNat) rfl (by (first | exact om_624b0f847349 db9 | omega)); (first | exact om_5319a23bfaa2 db9 h3 h4 | omega)
            have rn1289 : RWn V1247 ow gB (mU (mNote gm o (fst1 (gm 0 8) (gm 0 9))) 3 o.toNat 2) := RWn.drop rn1288 do9 (fun x9 hx9 => (up2_o hV1247 (by decide)).trans (up2_k hV1253 (by rw [dx9]; exact hx9))) (by rw [← dx9, (up2_o hV1247 (by decide)).trans (up2_s hV1253)]; decide) (fun k9 hk9 => (up2_k hV1247 (by rw [ds9]; exact hk9)).trans (up2_o hV1253 (by decide))) (by rw [← ds9, up2_s hV1247, if_pos (by rw [← dx9]; have h9 := i_clamp (x := (V 70 gf)) rfl (by (first | exact om_c42429f26483 fo q70 hc1249 pq1268 | omega)); (first | exact om_31a30e49af65 q70 hc1249 pq1268 dx9 h9 | omega))]; decide) (fun c9 k9 h1 h2 h3 => ((show V1247 c9 k9 = V1253 c9 k9 from by rw [hV1247]; exact up2_pl (by omega)).trans (show V1253 c9 k9 = V1140 c9 k9 from by rw [hV1253]; exact up2_pl (by omega))))
            have rn1290 : RWn V1260 ow gB (mU (mNote gm o (fst1 (gm 0 8) (gm 0 9))) 3 o.toNat 2) := RWn.es rn1289 (ESw.ag (show agr [(5, 6)] [] V1247 V1260 from (agr.up agr.rf hV1260 rfl)) (by decide))
            have me1291 : ME V V1260 gf := (ME.up (ME.up (ME.up (ME.tr ME.rf (ME.ag ajV1140 (by decide))) hV1253 (Or.inr (by (first | exact om_15c89eee5dc0  | omega)))) hV1247 (Or.inr (by omega))) hV1260 (Or.inr (by (first | exact om_f481bd0f1cda  | omega))))
            have rl1292 : RWl V1260 gB gr t0 := RWl.mv hlr (fun i9 hi9 c9 h1 h2 => me1291.2.1 c9 i9 h1 h2 (by (first | exact om_102b9d22baee gd kdp rd rd2 pq1254 t1258 hz1264 hi9 | omega))) (fun j9 hj9 => ((up2_o hV1260 (by decide)).trans ((up2_o hV1247 (by decide)).trans ((up2_o hV1253 (by decide)).trans (ajV1140 39 j9 rfl))))) (by rw [((up2_o hV1260 (by decide)).trans ((up2_o hV1247 (by decide)).trans ((up2_o hV1253 (by decide)).trans (ajV1140 3 13 rfl))))]; exact Int.le_refl _) ((up2_o hV1260 (by decide)).trans ((up2_o hV1247 (by decide)).trans ((up2_o hV1253 (by decide)).trans (ajV1140 3 12 rfl))))
            have rz9 : RW V1260 gB ((mU (mNote gm o (fst1 (gm 0 8) (gm 0 9))) 3 o.toNat 2), ga, gr) := RW.fin rwq rn1290 (by rw [mU_o _ _ (by omega), mNt_0 (by decide)]) (fun i9 => (by rw [mU_o _ _ (by omega), mNt_x (by decide) (by decide) (by decide)])) ((up2_k hV1260 (by decide)).trans ((up2_o hV1247 (by decide)).trans ((up2_o hV1253 (by decide)).trans (ajV1140 5 8 rfl)))) (fun i9 => ((up2_o hV1260 (by decide)).trans ((up2_o hV1247 (by decide)).trans ((up2_o hV1253 (by decide)).trans (ajV1140 40 i9 rfl))))) (by rw [(show (mU (mNote gm o (fst1 (gm 0 8) (gm 0 9))) 3 o.toNat 2) 0 6 = gm 0 6 from by rw [mU_o _ _ (by omega), mNt_0 (by decide)])]; (first | exact om_4aa03bcffe3b rh1 f1131 pq1276 | omega)) (fun h9 => by rw [(show (mU (mNote gm o (fst1 (gm 0 8) (gm 0 9))) 3 o.toNat 2) 0 6 = gm 0 6 from by rw [mU_o _ _ (by omega), mNt_0 (by decide)])] at h9; exfalso; (first | exact om_8e6f48d55a9e rh1 f1131 h9 | omega)) (fun h9 => by rw [mU_o _ _ (by omega), mU_o _ _ (by omega), mNt_0 (by decide), mNt_0 (by decide)]; exact ⟨by have h8 := rh2.1; (first | exact om_c93582d34511 pq1282 rh2 | omega), by have h8 := rh2.2; (first | exact om_1d51879d5b6b pq1283 rh2 | omega)⟩) (by (first | exact om_0893762427d8 kdp rd rd2 pq1254 t1258 | omega)) (by rw [((up2_k hV1260 (by decide)).trans ((up2_o hV1247 (by decide)).trans ((up2_o hV1253 (by decide)).trans (ajV1140 5 7 rfl)))), rt9, tz9]) rl1292
            have rx1293 : RW V1260 gB (stM gB (gm, ga, gfr :: gr)) := by rw [hfe, st_18.trans (cl_f (by rw [← rh1]; omega))]; exact rz9
            refine W.know (fun kr1 kr2 => ?_)
            refine W.widen (k := zcc Z) (n := zss Z) (Nat.sub_le _ _) (Nat.sub_le _ _) ?_
            exact W.vret hx hb hr (fun t ht hW => ⟨⟨(V1260, L, Z), rfl, ⟨hMV1260, agV1260, rfl, zoZ, rp1281, rx1293⟩, ⟨by rw [ht]; exact hP, va_K.moved hW.alike hK, hD⟩, by rw [ht]; exact kr1, by rw [ht]; exact kr2⟩, hS.F ht⟩) hS.2.2 dX5_goOnClosing_113
          · skip
            have hV1247 : V1247 = up2 V1140 28 (Int32.toNatClampNeg (V 70 gf)) 2 := by rw [hw1252]
            refine lv_aload_n hx hb dX5_goOnClosing_109 rfl (lv_at hl 2 rfl) ?_
            have pq1294 : (V1247 5 6).toInt = ((V 5 6)).toInt := congrArg Int32.toInt ((up2_o hV1247 (by decide)).trans (ajV1140 5 6 rfl))
            refine gA_void (gA_runV (As := []) (rest := []) (ci := 5) (q0 := 5) hx hb hml hown hg hP hD hK hS hA hnw hgk (x_leave9 l D ks H.size ad kk V1247 L Z  hMV1247 (show 1 ≤ (V1247 5 6).toInt from by (first | exact om_c36fd4a9fcac gd gl9 pq1294 | omega))) w1308 w1310 w50 w171 w1311 rfl xgMachine hdV_yX5_leave ⟨Nat.le_of_ble_eq_true rfl, Nat.le_of_ble_eq_true rfl⟩ rfl hl.1 rfl (Nat.le_of_ble_eq_true rfl) dX5_goOnClosing_110 ⟨z0, z0⟩) hP hD hK hS hA (fun u1296 H locs w1297 hP hD hK hS => ?_)
            obtain ⟨V1300, L1301⟩ := u1296
            obtain ⟨hMV1300, ajV1300, axL1301, t1298, t1299⟩ := w1297
            have axL1301 : L = L1301 := Eq.symm axL1301
            subst axL1301
            have hP : va_P D vwCl (xw ad kk V1300 L Z) H := hP
            have hD : va_D A (xw ad kk V1300 L Z) := hD
            have hMV1300 : rgd bX V1300 := hMV1300
            have ajV1300 : agr [(5, 6)] [] V1247 V1300 := ajV1300
            have agV1300 : agr [(4, 6), (5, 6), (5, 9), (5, 10)] [25, 28, 36, 37, 67, 68, 69, 70, 71, 72, 73, 74, 75, 76, 77, 78, 79, 80, 81, 82, 83, 84, 85] V V1300 := agV1247.tr ajV1300 (by decide) (by decide)
            have t1298 : (V1300 5 6).toInt = (V1247 5 6).toInt - 1 := t1298
            have t1299 : ((True) ∧ V1300 = (up2 V1247 5 6 (V1247 5 6 - 1))) := t1299
            have r1302 : 0 ≤ ((V1300 5 6)).toInt ∧ ((V1300 5 6)).toInt ≤ 400 := hMV1300 5 6
            have hw1303 := t1299.2
            obtain ⟨z1304, ez1304⟩ : ∃ y : Int32, y = V1247 5 6 - 1 := ⟨_, rfl⟩
            have hz1304 : z1304.toInt = (V1247 5 6).toInt - 1 := i_sub ez1304 rfl (by decide) (by (first | exact om_70510bf9f0cb gd gl9 sl9 pq1294 | omega))
            have hV1300 : V1300 = up2 V1247 5 6 z1304 := by rw [hw1303, ez1304]
            have me1305 : ME V V1300 gf := (ME.up (ME.up (ME.tr ME.rf (ME.ag ajV1140 (by decide))) hV1247 (Or.inr (by (first | exact om_15c89eee5dc0  | omega)))) hV1300 (Or.inr (by (first | exact om_f481bd0f1cda  | omega))))
            have pq1306 : (V1300 67 gf).toInt = ((V 67 gf)).toInt := congrArg Int32.toInt ((up2_o hV1300 (by decide)).trans ((up2_o hV1247 (by decide)).trans (ajV1140 67 gf rfl)))
            have pq1307 : (V1300 68 gf).toInt = ((V 68 gf)).toInt := congrArg Int32.toInt ((up2_o hV1300 (by decide)).trans ((up2_o hV1247 (by decide)).trans (ajV1140 68 gf rfl)))
            have pq1308 : (V1300 70 gf).toInt = ((V 70 gf)).toInt := congrArg Int32.toInt ((up2_o hV1300 (by decide)).trans ((up2_o hV1247 (by decide)).trans (ajV1140 70 gf rfl)))
            have pq1309 : (V1300 71 gf).toInt = ((V 71 gf)).toInt := congrArg Int32.toInt ((up2_o hV1300 (by decide)).trans ((up2_o hV1247 (by decide)).trans (ajV1140 71 gf rfl)))
            have pq1310 : (V1300 75 gf).toInt = ((V 75 gf)).toInt := congrArg Int32.toInt ((up2_o hV1300 (by decide)).trans ((up2_o hV1247 (by decide)).trans (ajV1140 75 gf rfl)))
            have pq1311 : (V1300 76 gf).toInt = ((V 76 gf)).toInt := congrArg Int32.toInt ((up2_o hV1300 (by decide)).trans ((up2_o hV1247 (by decide)).trans (ajV1140 76 gf rfl)))
            have pq1312 : (V1300 80 gf).toInt = ((V 80 gf)).toInt := congrArg Int32.toInt ((up2_o hV1300 (by decide)).trans ((up2_o hV1247 (by decide)).trans (ajV1140 80 gf rfl)))
            have pq1313 : (V1300 84 gf).toInt = ((V 84 gf)).toInt := congrArg Int32.toInt ((up2_o hV1300 (by decide)).trans ((up2_o hV1247 (by decide)).trans (ajV1140 84 gf rfl)))
            have pq1314 : (V1300 5 6).toInt = z1304.toInt := congrArg Int32.toInt (up2_s hV1300)
            have pq1315 : (V1300 5 8).toInt = ((V 5 8)).toInt := congrArg Int32.toInt ((up2_k hV1300 (by decide)).trans ((up2_o hV1247 (by decide)).trans (ajV1140 5 8 rfl)))
            have pq1316 : (V1300 5 9).toInt = ((V 5 9)).toInt := congrArg Int32.toInt ((up2_k hV1300 (by decide)).trans ((up2_o hV1247 (by decide)).trans (ajV1140 5 9 rfl)))
            have pq1317 : (V1300 3 13).toInt = ((V 3 13)).toInt := congrArg Int32.toInt ((up2_o hV1300 (by decide)).trans ((up2_o hV1247 (by decide)).trans (ajV1140 3 13 rfl)))
            have pq1318 : (V1300 43 (5 * b + 2)).toInt = ((V 43 (5 * b + 2))).toInt := congrArg Int32.toInt ((up2_o hV1300 (by decide)).trans ((up2_o hV1247 (by decide)).trans (ajV1140 43 (5 * b + 2) rfl)))
            have pq1319 : (V1300 42 b).toInt = ((V 42 b)).toInt := congrArg Int32.toInt ((up2_o hV1300 (by decide)).trans ((up2_o hV1247 (by decide)).trans (ajV1140 42 b rfl)))
            have pq1320 : (V1300 41 b).toInt = ((V 41 b)).toInt := congrArg Int32.toInt ((up2_o hV1300 (by decide)).trans ((up2_o hV1247 (by decide)).trans (ajV1140 41 b rfl)))
            have rp1321 : MJ V1300 Z b := MP.lv (MO.mp mo) me1305 (by (first | exact om_541a228d28bf gd pq1294 t1298 hz1304 pq1314 | omega)) (fun _ => Or.inl (by omega))
            have pq1322 : (V1300 5 11).toInt = ((V 5 11)).toInt := congrArg Int32.toInt ((up2_k hV1300 (by decide)).trans ((up2_o hV1247 (by decide)).trans (ajV1140 5 11 rfl)))
            have pq1323 : (V1300 5 12).toInt = ((V 5 12)).toInt := congrArg Int32.toInt ((up2_k hV1300 (by decide)).trans ((up2_o hV1247 (by decide)).trans (ajV1140 5 12 rfl)))
            have pq1324 : (V1300 5 13).toInt = ((V 5 13)).toInt := congrArg Int32.toInt ((up2_k hV1300 (by decide)).trans ((up2_o hV1247 (by decide)).trans (ajV1140 5 13 rfl)))
            have r1325 : 0 ≤ ((V 5 13)).toInt ∧ ((V 5 13)).toInt ≤ 3000 := hMV 5 13
            have pq1326 : (V1300 5 7).toInt = ((V 5 7)).toInt := congrArg Int32.toInt ((up2_k hV1300 (by decide)).trans ((up2_o hV1247 (by decide)).trans (ajV1140 5 7 rfl)))
            have r1327 : 0 ≤ ((V 5 7)).toInt ∧ ((V 5 7)).toInt ≤ 2048 := hMV 5 7
            have rh2 : (V 5 11).toInt = gm 0 8 ∧ (V 5 12).toInt = gm 0 9 := rh.2.2.1 (show gm 0 6 = 2 from by (first | exact om_147a8ac6eacb rh1 f1131 | omega))
            have rn1328 : RWn V1140 ow gB (mNote gm o (fst1 (gm 0 8) (gm 0 9))) := RWn.note rn (fun c9 k9 h1 h2 h3 h4 => (ajV1140 c9 k9 rfl)) (Or.inr ⟨hc1144, (ajV1140 4 6 rfl), fun i9 => ⟨(ajV1140 36 i9 rfl), (ajV1140 37 i9 rfl)⟩⟩)
            have dx9 : (Int32.toNatClampNeg (V 70 gf)) = o.toNat := by have h9 := i_clamp (x := (V 70 gf)) rfl (by (first | exact om_2996291ce4c2 fo q70 pq1308 | omega)); (first | exact om_6acf0db861ed fo q70 pq1308 h9 | omega)
            have do9 : ((o.toNat : Nat) : Int) < (mNote gm o (fst1 (gm 0 8) (gm 0 9))) 0 2 := by rw [mNt_0 (by decide)]; (first | exact om_5b0e08f69870 r8 fo ra2 q70 pq1308 pq1317 | omega)
            have db9 := (rn1328).2.1 _ do9
            have ds9 : 24 * Int32.toNatClampNeg (V1140 27 (Int32.toNatClampNeg (V 70 gf))) + Int32.toNatClampNeg (V1140 26 (Int32.toNatClampNeg (V 70 gf))) = 24 * ((mNote gm o (fst1 (gm 0 8) (gm 0 9))) 2 o.toNat).toNat + ((mNote gm o (fst1 (gm 0 8) (gm 0 9))) 1 o.toNat).toNat := by rw [dx9]; have h1 := db9.1.1; have h2 := db9.1.2.1; have h3 := i_clamp (x := V1140 27 o.toNat) rfl (by (first | exact om_57a3b3030c68 db9 | omega)); have h4 := i_clamp (x := V1140 26 o.toNat) rfl (by (first | exact om_624b0f847349 db9 | omega)); (first | exact om_5319a23bfaa2 db9 h3 h4 | omega)
            have rn1329 : RWn V1247 ow gB (mU (mNote gm o (fst1 (gm 0 8) (gm 0 9))) 3 o.toNat 2) := RWn.drop rn1328 do9 (fun x9 hx9 => up2_k hV1247 (by rw [dx9]; exact hx9)) (by rw [← dx9, up2_s hV1247]; decide) (fun k9 _ => up2_o hV1247 (by decide)) (by rw [← ds9, up2_o hV1247 (by decide), if_neg (by rw [← dx9]; have h9 := i_clamp (x := (V 70 gf)) rfl (by (first | exact om_2996291ce4c2 fo q70 pq1308 | omega)); omega)]) (fun c9 k9 h1 h2 h3 => (show V1247 c9 k9 = V1140 c9 k9 from by rw [hV1247]; exact up2_pl (by omega)))
            have rn1330 : RWn V1300 ow gB (mU (mNote gm o (fst1 (gm 0 8) (gm 0 9))) 3 o.toNat 2) := RWn.es rn1329 (ESw.ag (show agr [(5, 6)] [] V1247 V1300 from (agr.up agr.rf hV1300 rfl)) (by decide))
            have me1331 : ME V V1300 gf := (ME.up (ME.up (ME.tr ME.rf (ME.ag ajV1140 (by decide))) hV1247 (Or.inr (by (first | exact om_15c89eee5dc0  | omega)))) hV1300 (Or.inr (by (first | exact om_f481bd0f1cda  | omega))))
            have rl1332 : RWl V1300 gB gr t0 := RWl.mv hlr (fun i9 hi9 c9 h1 h2 => me1331.2.1 c9 i9 h1 h2 (by (first | exact om_102b9d22baee gd kdp rd rd2 pq1294 t1298 hz1304 hi9 | omega))) (fun j9 hj9 => ((up2_o hV1300 (by decide)).trans ((up2_o hV1247 (by decide)).trans (ajV1140 39 j9 rfl)))) (by rw [((up2_o hV1300 (by decide)).trans ((up2_o hV1247 (by decide)).trans (ajV1140 3 13 rfl)))]; exact Int.le_refl _) ((up2_o hV1300 (by decide)).trans ((up2_o hV1247 (by decide)).trans (ajV1140 3 12 rfl)))
            have rz9 : RW V1300 gB ((mU (mNote gm o (fst1 (gm 0 8) (gm 0 9))) 3 o.toNat 2), ga, gr) := RW.fin rwq rn1330 (by rw [mU_o _ _ (by omega), mNt_0 (by decide)]) (fun i9 => (by rw [mU_o _ _ (by omega), mNt_x (by decide) (by decide) (by decide)])) ((up2_k hV1300 (by decide)).trans ((up2_o hV1247 (by decide)).trans (ajV1140 5 8 rfl))) (fun i9 => ((up2_o hV1300 (by decide)).trans ((up2_o hV1247 (by decide)).trans (ajV1140 40 i9 rfl)))) (by rw [(show (mU (mNote gm o (fst1 (gm 0 8) (gm 0 9))) 3 o.toNat 2) 0 6 = gm 0 6 from by rw [mU_o _ _ (by omega), mNt_0 (by decide)])]; (first | exact om_4aa03bcffe3b rh1 f1131 pq1316 | omega)) (fun h9 => by rw [(show (mU (mNote gm o (fst1 (gm 0 8) (gm 0 9))) 3 o.toNat 2) 0 6 = gm 0 6 from by rw [mU_o _ _ (by omega), mNt_0 (by decide)])] at h9; exfalso; (first | exact om_8e6f48d55a9e rh1 f1131 h9 | omega)) (fun h9 => by rw [mU_o _ _ (by omega), mU_o _ _ (by omega), mNt_0 (by decide), mNt_0 (by decide)]; exact ⟨by have h8 := rh2.1; (first | exact om_c93582d34511 pq1322 rh2 | omega), by have h8 := rh2.2; (first | exact om_1d51879d5b6b pq1323 rh2 | omega)⟩) (by (first | exact om_0893762427d8 kdp rd rd2 pq1294 t1298 | omega)) (by rw [((up2_k hV1300 (by decide)).trans ((up2_o hV1247 (by decide)).trans (ajV1140 5 7 rfl))), rt9, tz9]) rl1332
            have rx1333 : RW V1300 gB (stM gB (gm, ga, gfr :: gr)) := by rw [hfe, st_18.trans (cl_f (by rw [← rh1]; omega))]; exact rz9
            refine W.know (fun kr1 kr2 => ?_)
            refine W.widen (k := zcc Z) (n := zss Z) (Nat.sub_le _ _) (Nat.sub_le _ _) ?_
            exact W.vret hx hb hr (fun t ht hW => ⟨⟨(V1300, L, Z), rfl, ⟨hMV1300, agV1300, rfl, zoZ, rp1321, rx1333⟩, ⟨by rw [ht]; exact hP, va_K.moved hW.alike hK, hD⟩, by rw [ht]; exact kr1, by rw [ht]; exact kr2⟩, hS.F ht⟩) hS.2.2 dX5_goOnClosing_113
    · skip
      have f1334 : ((V 68 gf)).toInt = 0 := b_eq rfl (by decide) c710
      exfalso; (first | exact om_495ee03a60ae k68 f1334 | omega)
