theorem up2_id {V : Vf} {c k : Nat} {z : Int32} (h : V c k = z) : up2 V c k z = V := by
  funext x j
  by_cases q : x = c ∧ j = k
  · rw [q.1, q.2, h]
    exact up2_s rfl
  · rw [up2_pl q]


abbrev r_x_goOnWorking9 (Z : XZ) : Room := { frames := 6, cells := zcc Z, slots := zss Z, locals := 137 }
abbrev q_x_goOnWorking9 (D : va_G) (ks : KS) (ad : Nat → Nat) (kk : Nat → ClassId) (V : Vf) (L : Lf) (Z : XZ) (b : Nat) (gf : Nat) (gB : Bk) (gm : Mm) (ga : Int32) (gfr : Fr) (gr : List Fr) (A : Nat → Prop) : Array Value → State → Outcome → State → Prop := qZv D (fun (u : Vf × Lf × XZ) => rgd bX u.1 ∧ agr [(3, 15), (5, 6), (5, 7), (5, 9), (5, 10), (5, 11), (5, 12), (5, 13), (5, 14)] [30, 31, 32, 39, 67, 68, 69, 70, 71, 72, 73, 74, 75, 76, 77, 78, 79, 80, 81, 82, 83, 84, 85] V u.1 ∧ u.2.1 = L ∧ ZL Z u.2.2 ∧ (MJ u.1 u.2.2 b) ∧ (∃ n, 1 ≤ n ∧ RW u.1 gB (rnM gB n (gm, ga, gfr :: gr)))) (fun u => xw ad kk u.1 u.2.1 u.2.2) (fun u => xty kk u.2.2) (fun u => zcc Z - zcc u.2.2) (fun u => zss Z - zss u.2.2) A
set_option maxHeartbeats 4000000 in
set_option maxRecDepth 100000 in
theorem x_goOnWorking9 (l : Launch) (D : va_G) (ks : KS) (sz : Nat) (ad : Nat → Nat) (kk : Nat → ClassId) (V : Vf) (L : Lf) (Z : XZ) (b : Nat) (gf : Nat) (gB : Bk) (gm : Mm) (ga : Int32) (gfr : Fr) (gr : List Fr) (hMV : rgd bX V) (hb2 : b < 2) (hgf : gf < Z.nf) (mo : MO V Z b gf True (QN V b) (QN V b)) (gd : (gf : Int) + 1 = (V 5 6).toInt) (gk : (V 67 gf).toInt = 4) (rwq : RW V gB (gm, ga, gfr :: gr)) (bc : BKc V b gB) (sf : SF gB (gm, ga, gfr :: gr)) (go9 : GOs gB (gm, ga, gfr :: gr))  : Met l yX5_goOnWorking (Cond.code yX5_goOnWorking cX5_goOnWorking 2 none :: GW) (r_x_goOnWorking9 Z) (va_Pc [.ref (ad 5), .ref (Z.fa gf)] (gp D ks (xw ad kk V L Z) (xty kk Z) sz)) (q_x_goOnWorking9 D ks ad kk V L Z  b gf gB gm ga gfr gr (va_A (xw ad kk V L Z) sz)) (zcc Z) (zss Z) (va_A (xw ad kk V L Z) sz) := by
  refine g_met (q_x_goOnWorking9 D ks ad kk V L Z  b gf gB gm ga gfr gr) (by decide) (Nat.le_of_ble_eq_true rfl) ?_
  intro p e s m below meth c A ls H locs hx hb hr hml hown hg hlocks hin hnw hgk hP hK hD hS hA hl
  replace hown : s.vm.findClass RX5 = some m.cls := hown
  replace hl : lv_has ls 2 [(0, .ref (ad 5)), (1, .ref (Z.fa gf))] := hl
  replace hP : va_P D vwCl (xw ad kk V L Z) H := hP
  replace hD : va_D A (xw ad kk V L Z) := hD
  replace hK : va_K D vwCl (xty kk Z) s := hK
  have agV : agr [(3, 15), (5, 6), (5, 7), (5, 9), (5, 10), (5, 11), (5, 12), (5, 13), (5, 14)] [30, 31, 32, 39, 67, 68, 69, 70, 71, 72, 73, 74, 75, 76, 77, 78, 79, 80, 81, 82, 83, 84, 85] V V := agr.rf
  have zoZ : ZL Z Z := ZL.rf
  refine W.know (fun ka kb => ?_)
  refine W.tight (k := zcc Z - zcc Z) (n := zss Z - zss Z) (by (first | exact om_7244b830ee02 ka | omega)) (by (first | exact om_7244b830ee02 kb | omega)) ?_
  have r1 : 0 ≤ ((V 5 6)).toInt ∧ ((V 5 6)).toInt ≤ 400 := hMV 5 6
  have kdp := i_clamp (x := V 5 6) rfl (by (first | exact om_e301311e2a25 gd r1 | omega))
  have hdn : (gf : Int) + 1 ≤ (Z.nf : Int) := by (first | exact om_bb8713a56da6 hgf gd kdp | omega)
  have mup := MO.up mo
  have msz := mup.1
  have mbk := mup.2.2.2.1
  obtain ⟨xk, fk⟩ := MO.fk mo
  have r2 : (-1) ≤ ((V 71 gf)).toInt ∧ ((V 71 gf)).toInt ≤ 23 := hMV 71 gf
  have r3 : 0 ≤ ((V 75 gf)).toInt ∧ ((V 75 gf)).toInt ≤ 12 := hMV 75 gf
  have r4 : 0 ≤ ((V 80 gf)).toInt ∧ ((V 80 gf)).toInt ≤ 300 := hMV 80 gf
  have r5 : 0 ≤ ((V 84 gf)).toInt ∧ ((V 84 gf)).toInt ≤ 2147483647 := hMV 84 gf
  have r6 : 0 ≤ ((V 5 8)).toInt ∧ ((V 5 8)).toInt ≤ 300 := hMV 5 8
  have r7 : 0 ≤ ((V 5 9)).toInt ∧ ((V 5 9)).toInt ≤ 3 := hMV 5 9
  have r8 : 0 ≤ ((V 3 13)).toInt ∧ ((V 3 13)).toInt ≤ 300 := hMV 3 13
  have r9 : 0 ≤ ((V 43 (5 * b + 2))).toInt ∧ ((V 43 (5 * b + 2))).toInt ≤ ((xcap (5 * b + 2) : Nat) : Int) := hMV 43 (5 * b + 2)
  have r10 : xcap (5 * b + 2) = 24 := xcap_2
  have r11 : 0 ≤ ((V 41 b)).toInt ∧ ((V 41 b)).toInt ≤ 12 := hMV 41 b
  have r12 : 0 ≤ ((V 42 b)).toInt ∧ ((V 42 b)).toInt ≤ 8200 := hMV 42 b
  have fc := fk.1 (by (first | exact om_85c82c20915f gk | omega))
  have fo := fk.2.1 (by (first | exact om_85c82c20915f gk | omega)) (by (first | exact om_d505340b4edb gk | omega))
  have ft := fk.2.2.1 (by (first | exact om_c88e7ce0b8a2 gk | omega))
  have fq := fk.2.2.2.1 (by (first | exact om_c88e7ce0b8a2 gk | omega))
  have m1 : Int32.toInt (-1) = -1 := by decide
  have rw0 := rwq
  obtain ⟨⟨ow, rn⟩, rh, rd, tw9, rt9, rl⟩ := rw0
  replace rn : RWn V ow gB gm := rn
  replace rh : RWh V gm ga := rh
  have rd2 : (V 5 6).toInt = ((gr.length + 1 : Nat) : Int) := rd
  have gl9 : gr.length = gf := by (first | exact om_737fc00ff7e4 gd kdp rd rd2 | omega)
  have sl9 : gr.length ≤ 394 := by have h9 : gr.length + 1 ≤ 395 := sf.1; (first | exact om_5c206326bd12 gd r1 kdp rd rd2 h9 | omega)
  have rh1 : (V 5 9).toInt = gm 0 6 := rh.1
  have ra2 : (V 3 13).toInt = gm 0 2 := rn.1.1.2.2.1
  have rl0 := rl
  obtain ⟨t0, tl9, hf0, hbs9, hpl9, hlr⟩ := rl0
  rw [gl9] at hf0 hbs9
  rcases FRc.k4 hf0 gk with ⟨lv, o, c, sc, me, ps, at9, v, p, hfe⟩ | ⟨lv, o, c, sc, me, ps, at9, v, p, hfe⟩ | ⟨lv, o, c, sc, at9, nd, tg, v, g, p, hfe⟩ | ⟨lv, o, c, sc, at9, nd, tg, v, g, p, hfe⟩ | ⟨lv, o, c, sc, at9, nd, tg, it, v, g, u, p, hfe⟩
  · skip
    have hf : FRc V gB gf (Fwork lv o c sc me ps at9 v p) := by rw [← hfe]; exact hf0
    have tl8 : tw9 = t0 + (Fwork lv o c sc me ps at9 v p : Fr).2.2.2.length := by rw [← hfe]; exact tl9
    obtain ⟨⟨k67, k68⟩, hoc, hps9, ⟨a0, q84⟩, q74⟩ := hf
    have tl7 : tw9 = t0 + p.length := tl8
    have hb8 : (V 85 gf).toInt = (t0 : Int) := hbs9 (by rw [hfe]; exact (by decide : (12 : Nat) ≤ 12)) (by rw [hfe]; exact (by decide : (12 : Nat) ≤ 16))
    refine lv_aload_n hx hb dX5_goOnWorking_0 rfl (lv_at hl 1 rfl) ?_
    refine va_getN (D := D) (ci := 4) (v := .int (V 68 gf)) (fs := (xfFrame V gf)) (C := RX4) (T := TX4) (N := 19) hx hb hg inX4 hown hK hP (336 + gf) (xgFrame hgf) rfl 1 (by decide) (hnw.use 1190 n1190 rfl) (fun _ h9 => h9) rfl dX5_goOnWorking_1 ?_
    refine lv_bipush (v := 6) hx hb dX5_goOnWorking_4 (by decide) ?_
    refine lv_icmp_ne (tgt := 15) hx hb dX5_goOnWorking_6 (by decide) (fun c13 => ?_) (fun c13 => ?_)
    · skip
      have f14 : ((V 68 gf)).toInt ≠ 6 := b_neq rfl (by decide) c13
      refine lv_aload_n hx hb dX5_goOnWorking_15 rfl (lv_at hl 1 rfl) ?_
      refine va_getN (D := D) (ci := 4) (v := .int (V 68 gf)) (fs := (xfFrame V gf)) (C := RX4) (T := TX4) (N := 19) hx hb hg inX4 hown hK hP (336 + gf) (xgFrame hgf) rfl 1 (by decide) (hnw.use 1190 n1190 rfl) (fun _ h9 => h9) rfl dX5_goOnWorking_16 ?_
      refine lv_if_eq (tgt := 45) hx hb dX5_goOnWorking_19 (by decide) (fun c15 => ?_) (fun c15 => ?_)
      · skip
        have f16 : ((V 68 gf)).toInt = 0 := b_eq rfl (by decide) c15
        refine lv_aload_n hx hb dX5_goOnWorking_45 rfl (lv_at hl 1 rfl) ?_
        refine lv_iconst (v := 0) hx hb dX5_goOnWorking_46 (by decide) ?_
        refine va_putN (D := D) (ci := 4) (v := .int 0) (ty := tyX4 1) (fs := (xfFrame V gf)) (C := RX4) (T := TX4) (N := 19) hx hb hg inX4 tyX4 tyX4_ok nmX4 hown hK hP hD hS (336 + gf) (xgFrame hgf) rfl 1 (by decide) (hnw.use 1190 n1190 rfl) (fun _ h9 => h9) rfl (tyX4_ok 1 (by decide)) rfl rfl (Nat.le_of_ble_eq_true rfl) dX5_goOnWorking_47 (fun H locs hP hD hS => ?_)
        obtain ⟨V17, hV17⟩ : ∃ z, z = up2 V 68 gf 0 := ⟨_, rfl⟩
        have ew18 : (xw ad kk V L Z).set (336 + gf) ((Z.fa gf), .inr (4, (xfFrame V gf).set 1 (.int 0))) = xw ad kk V17 L Z := by rw [hV17]; exact xpFrame_phase hgf
        have hP : va_P D vwCl (xw ad kk V17 L Z) H := by rw [← ew18]; exact hP
        have hD : va_D A (xw ad kk V17 L Z) := by rw [← ew18]; exact hD
        have hMV17 : rgd bX V17 := hMV.put hV17 (i_full _)
        have agV17 : agr [(3, 15), (5, 6), (5, 7), (5, 9), (5, 10), (5, 11), (5, 12), (5, 13), (5, 14)] [30, 31, 32, 39, 67, 68, 69, 70, 71, 72, 73, 74, 75, 76, 77, 78, 79, 80, 81, 82, 83, 84, 85] V V17 := agV.up hV17 rfl
        have rwx9 : RW V17 gB (gm, ga, gfr :: gr) := by rw [hV17, up2_id (Int32.toInt_inj.mp (show (V 68 gf).toInt = Int32.toInt 0 from by have h9 : Int32.toInt 0 = 0 := (by decide); (first | exact om_960abac689ec k68 h9 | omega)))]; exact rwq
        refine lv_aload_n hx hb dX5_goOnWorking_50 rfl (lv_at hl 0 rfl) ?_
        refine lv_aload_n hx hb dX5_goOnWorking_51 rfl (lv_at hl 1 rfl) ?_
        have pq19 : (V17 5 6).toInt = ((V 5 6)).toInt := congrArg Int32.toInt (up2_o hV17 (by decide))
        have pq20 : (V17 67 gf).toInt = ((V 67 gf)).toInt := congrArg Int32.toInt (up2_o hV17 (by decide))
        have pq21 : (V17 68 gf).toInt = 0 := (congrArg Int32.toInt (up2_s hV17)).trans (by decide)
        have me22 : ME V V17 gf := (ME.up ME.rf hV17 (Or.inl ⟨by decide, by decide, Nat.le_refl _⟩))
        have pq23 : (V17 70 gf).toInt = ((V 70 gf)).toInt := congrArg Int32.toInt (up2_o hV17 (by decide))
        have pq24 : (V17 71 gf).toInt = ((V 71 gf)).toInt := congrArg Int32.toInt (up2_o hV17 (by decide))
        have pq25 : (V17 75 gf).toInt = ((V 75 gf)).toInt := congrArg Int32.toInt (up2_o hV17 (by decide))
        have pq26 : (V17 76 gf).toInt = ((V 76 gf)).toInt := congrArg Int32.toInt (up2_o hV17 (by decide))
        have pq27 : (V17 80 gf).toInt = ((V 80 gf)).toInt := congrArg Int32.toInt (up2_o hV17 (by decide))
        have pq28 : (V17 84 gf).toInt = ((V 84 gf)).toInt := congrArg Int32.toInt (up2_o hV17 (by decide))
        have pq29 : (V17 5 8).toInt = ((V 5 8)).toInt := congrArg Int32.toInt (up2_o hV17 (by decide))
        have pq30 : (V17 5 9).toInt = ((V 5 9)).toInt := congrArg Int32.toInt (up2_o hV17 (by decide))
        have pq31 : (V17 3 13).toInt = ((V 3 13)).toInt := congrArg Int32.toInt (up2_o hV17 (by decide))
        have pq32 : (V17 43 (5 * b + 2)).toInt = ((V 43 (5 * b + 2))).toInt := congrArg Int32.toInt (up2_o hV17 (by decide))
        have pq33 : (V17 42 b).toInt = ((V 42 b)).toInt := congrArg Int32.toInt (up2_o hV17 (by decide))
        have pq34 : (V17 41 b).toInt = ((V 41 b)).toInt := congrArg Int32.toInt (up2_o hV17 (by decide))
        have ep37 : V17 84 gf = (V 84 gf) := (up2_o hV17 (by decide))
        have af36 : (V17 42 b).toInt ≤ (V17 84 gf).toInt ∨ (bdp V17 b (V17 84 gf).toInt.toNat).1 = true := by rw [ep37, me22.1.bd, me22.1 42 b (by decide) (by decide)]; exact ft
        have mo35 : MO V17 Z b gf True True True := MO.ch mo me22 (up2_o hV17 (by decide)) (up2_o hV17 (by decide)) (fun _ => Or.inl (by (first | exact om_85c82c20915f gk | omega))) (fun x h => FK.k4 (by (first | exact om_ac6651f4ff0c gk pq20 | omega)) (by (first | exact om_a5010b6221df r2 fc pq24 pq32 | omega)) (by (first | exact om_a5fdb8fb5692 fo ra2 pq23 pq31 | omega)) af36 (by (first | exact om_21b02c2ae35f pq21 | omega)) (fun hph => absurd hph (by (first | exact om_99bd92af3810 pq21 hph | omega))))
        have bc38 : BKc V17 b gB := BKc.b4 bc (agr.b4 (show agr [] [68] V V17 from (agr.up agr.rf hV17 rfl)) (by decide))
        refine W.know (fun k40 k41 => ?_)
        obtain ⟨Hk39, hHk39⟩ : ∃ z, z = H := ⟨_, rfl⟩
        have k40 : Hk39.size ≤ s.heap.size + (zcc Z - zcc Z) := by rw [hHk39]; exact k40
        have k41 : tot Hk39 ≤ tot s.heap + (zss Z - zss Z) := by rw [hHk39]; exact k41
        refine gZ_void (gA_runV (As := [.ref (Z.fa gf)]) (rest := []) (ci := 5) (q0 := 5) hx hb hml hown hg hP hD hK hS hA hnw hgk (x_work9 l D ks H.size ad kk V17 L Z (b) (gf) (gB) (gm) (ga) (gfr) (gr) hMV17 (show b < 2 from by (first | exact om_289974d36c9f hb2 mup | omega)) (show gf < Z.nf from by (first | exact om_d9a628b8387a hgf gd kdp rd rd2 pq19 | omega)) mo35 (show (gf : Int) + 1 = (V17 5 6).toInt from by (first | exact om_23ab2a0d3264 gd kdp rd rd2 pq19 | omega)) (show (V17 67 gf).toInt = 4 from by (first | exact om_ac6651f4ff0c gk pq20 | omega)) (show (V17 68 gf).toInt = 0 from by (first | exact om_b66ba74381d5 pq21 | omega)) rwx9 bc38 go9) w1474 w1476 w74 w171 w1477 rfl xgMachine hdV_yX5_work ⟨Nat.le_of_ble_eq_true rfl, Nat.le_of_ble_eq_true rfl⟩ rfl hl.1 rfl (Nat.le_of_ble_eq_true rfl) dX5_goOnWorking_52 ⟨z1 zoZ.1, z1 zoZ.2.1⟩) hD hS hA (fun u43 H locs w44 hP hD hK hS y45 y46 => ?_)
        obtain ⟨V47, L48, Z49⟩ := u43
        obtain ⟨hMV47, ajV47, axL48, zlZ49, t51, t52⟩ := w44
        have axL48 : L = L48 := Eq.symm axL48
        subst axL48
        replace hP : va_P D vwCl (xw ad kk V47 L Z49) H := hP
        replace hD : va_D A (xw ad kk V47 L Z49) := hD
        replace hK : va_K D vwCl (xty kk Z49) s := hK
        replace hMV47 : rgd bX V47 := hMV47
        replace ajV47 : agr [(5, 6), (5, 7), (5, 9), (5, 10), (5, 11), (5, 12), (5, 13), (5, 14)] [39, 67, 68, 69, 70, 71, 72, 73, 74, 75, 76, 77, 78, 79, 80, 81, 82, 83, 84, 85] V17 V47 := ajV47
        have agV47 : agr [(3, 15), (5, 6), (5, 7), (5, 9), (5, 10), (5, 11), (5, 12), (5, 13), (5, 14)] [30, 31, 32, 39, 67, 68, 69, 70, 71, 72, 73, 74, 75, 76, 77, 78, 79, 80, 81, 82, 83, 84, 85] V V47 := agV17.tr ajV47 (by decide) (by decide)
        replace zlZ49 : ZL Z Z49 := zlZ49
        have zoZ49 : ZL Z Z49 := ZL.tr zoZ zlZ49
        have ziZ49 := zlZ49.1
        have zjZ49 := zlZ49.2.1
        have zkZ49 := zlZ49.2.2.1
        have zmZ49 := zoZ49.1
        have znZ49 := zoZ49.2.1
        have zpZ_Z49 := zoZ.1
        have zqZ_Z49 := zoZ.2.1
        have y45 : H.size ≤ Hk39.size + (zcc Z - zcc Z49) := by rw [hHk39]; exact y45
        have y46 : tot H ≤ tot Hk39 + (zss Z - zss Z49) := by rw [hHk39]; exact y46
        refine W.tight (k := zcc Z - zcc Z49) (n := zss Z - zss Z49) (by first | exact tg9 y45 k40 zlZ49.1 zoZ.1 | omega) (by first | exact tg9 y46 k41 zlZ49.2.1 zoZ.2.1 | omega) ?_
        have hl : lv_has ls 2 [(0, .ref (ad 5)), (1, .ref (Z49.fa gf))] := by rw [zlZ49.2.2.2.2 gf hgf]; exact hl
        replace t51 : MJ V47 Z49 b := t51
        replace t52 : ∃ n, 1 ≤ n ∧ RW V47 gB (rnM gB n (gm, ga, gfr :: gr)) := t52
        refine W.know (fun kr1 kr2 => ?_)
        refine W.widen (k := zcc Z) (n := zss Z) (Nat.sub_le _ _) (Nat.sub_le _ _) ?_
        exact W.vret hx hb hr (fun t ht hW => ⟨⟨(V47, L, Z49), rfl, ⟨hMV47, agV47, rfl, zoZ49, t51, t52⟩, ⟨by rw [ht]; exact hP, va_K.moved hW.alike hK, hD⟩, by rw [ht]; exact kr1, by rw [ht]; exact kr2⟩, hS.F ht⟩) hS.2.2 dX5_goOnWorking_55
      · skip
        have f53 : ((V 68 gf)).toInt ≠ 0 := b_neq rfl (by decide) c15
        exfalso; (first | exact om_0b51723c7ef6 k68 f53 | omega)
    · skip
      have f54 : ((V 68 gf)).toInt = 6 := b_eq rfl (by decide) c13
      exfalso; (first | exact om_6ab761f4efec k68 f54 | omega)
  · skip
    have hf : FRc V gB gf (Fwait lv o c sc me ps at9 v p) := by rw [← hfe]; exact hf0
    have tl8 : tw9 = t0 + (Fwait lv o c sc me ps at9 v p : Fr).2.2.2.length := by rw [← hfe]; exact tl9
    obtain ⟨⟨k67, k68⟩, hoc, hps9, ⟨a0, q84⟩, q74⟩ := hf
    have tl7 : tw9 = t0 + p.length := tl8
    have hb8 : (V 85 gf).toInt = (t0 : Int) := hbs9 (by rw [hfe]; exact (by decide : (12 : Nat) ≤ 13)) (by rw [hfe]; exact (by decide : (13 : Nat) ≤ 16))
    refine lv_aload_n hx hb dX5_goOnWorking_0 rfl (lv_at hl 1 rfl) ?_
    refine va_getN (D := D) (ci := 4) (v := .int (V 68 gf)) (fs := (xfFrame V gf)) (C := RX4) (T := TX4) (N := 19) hx hb hg inX4 hown hK hP (336 + gf) (xgFrame hgf) rfl 1 (by decide) (hnw.use 1190 n1190 rfl) (fun _ h9 => h9) rfl dX5_goOnWorking_1 ?_
    refine lv_bipush (v := 6) hx hb dX5_goOnWorking_4 (by decide) ?_
    refine lv_icmp_ne (tgt := 15) hx hb dX5_goOnWorking_6 (by decide) (fun c55 => ?_) (fun c55 => ?_)
    · skip
      have f56 : ((V 68 gf)).toInt ≠ 6 := b_neq rfl (by decide) c55
      refine lv_aload_n hx hb dX5_goOnWorking_15 rfl (lv_at hl 1 rfl) ?_
      refine va_getN (D := D) (ci := 4) (v := .int (V 68 gf)) (fs := (xfFrame V gf)) (C := RX4) (T := TX4) (N := 19) hx hb hg inX4 hown hK hP (336 + gf) (xgFrame hgf) rfl 1 (by decide) (hnw.use 1190 n1190 rfl) (fun _ h9 => h9) rfl dX5_goOnWorking_16 ?_
      refine lv_if_eq (tgt := 45) hx hb dX5_goOnWorking_19 (by decide) (fun c57 => ?_) (fun c57 => ?_)
      · skip
        have f58 : ((V 68 gf)).toInt = 0 := b_eq rfl (by decide) c57
        exfalso; (first | exact om_495ee03a60ae k68 f58 | omega)
      · skip
        have f59 : ((V 68 gf)).toInt ≠ 0 := b_neq rfl (by decide) c57
        refine lv_aload_n hx hb dX5_goOnWorking_22 rfl (lv_at hl 0 rfl) ?_
        refine va_get (D := D) (ci := 5) (v := .int (V 5 9)) (fs := (xfMachine ad V L Z)) (C := RX5) (T := TX5) (N := 15) hx hb hg inX5 hown hK hP 5 xgMachine rfl 9 (by decide) (hg _ w676) (fun _ h9 => h9) rfl dX5_goOnWorking_23 ?_
        refine lv_iconst (v := 1) hx hb dX5_goOnWorking_26 (by decide) ?_
        refine lv_icmp_eq (tgt := 36) hx hb dX5_goOnWorking_27 (by decide) (fun c60 => ?_) (fun c60 => ?_)
        · skip
          have f61 : ((V 5 9)).toInt = 1 := b_eq rfl (by decide) c60
          have mot : MO V Z b gf True (¬ NN V b) True := MO.w mo (fun _ => trivial) (fun z => ⟨by (first | exact om_653e4e2dce96 rh1 f61 | omega), z⟩) (fun _ => Or.inl (by (first | exact om_85c82c20915f gk | omega)))
          refine lv_aload_n hx hb dX5_goOnWorking_36 rfl (lv_at hl 0 rfl) ?_
          refine lv_aload_n hx hb dX5_goOnWorking_37 rfl (lv_at hl 1 rfl) ?_
          refine W.know (fun k63 k64 => ?_)
          obtain ⟨Hk62, hHk62⟩ : ∃ z, z = H := ⟨_, rfl⟩
          have k63 : Hk62.size ≤ s.heap.size + (zcc Z - zcc Z) := by rw [hHk62]; exact k63
          have k64 : tot Hk62 ≤ tot s.heap + (zss Z - zss Z) := by rw [hHk62]; exact k64
          refine gZ_int (gA_runV (As := [.ref (Z.fa gf)]) (rest := []) (ci := 5) (q0 := 5) hx hb hml hown hg hP hD hK hS hA hnw hgk (x_takesAnswer9 l D ks H.size ad kk V L Z (b) (gf) (gB) (gm) (ga) (gfr) (gr) hMV (show b < 2 from by (first | exact om_289974d36c9f hb2 mup | omega)) (show gf < Z.nf from by (first | exact om_725d0642dd96 hgf gd kdp rd rd2 | omega)) mot (show (gf : Int) + 1 = (V 5 6).toInt from by (first | exact om_d5747674bc98 gd | omega)) (show (V 67 gf).toInt = 4 from by (first | exact om_c88e7ce0b8a2 gk | omega)) (show (V 68 gf).toInt ≠ 0 ∧ (V 68 gf).toInt ≠ 6 from by (first | exact om_4039963caf1a k68 | omega)) rwq bc sf go9 (show (V 5 9).toInt = 1 from by (first | exact om_653e4e2dce96 rh1 f61 | omega))) w1462 w1464 w71 w171 w1465 rfl xgMachine hdV_yX5_takesAnswer ⟨Nat.le_of_ble_eq_true rfl, Nat.le_of_ble_eq_true rfl⟩ rfl hl.1 rfl (Nat.le_of_ble_eq_true rfl) dX5_goOnWorking_38 ⟨z1 zoZ.1, z1 zoZ.2.1⟩) hD hS hA (fun z65 u66 H locs w67 hP hD hK hS y68 y69 => ?_)
          obtain ⟨V70, L71, Z72⟩ := u66
          obtain ⟨hMV70, ajV70, axL71, zlZ72, rgz65, t74, t75, t76, t77, t78⟩ := w67
          have axL71 : L = L71 := Eq.symm axL71
          subst axL71
          replace hP : va_P D vwCl (xw ad kk V70 L Z72) H := hP
          replace hD : va_D A (xw ad kk V70 L Z72) := hD
          replace hK : va_K D vwCl (xty kk Z72) s := hK
          replace hMV70 : rgd bX V70 := hMV70
          replace ajV70 : agr [(3, 15), (5, 6), (5, 7), (5, 9)] [30, 31, 32, 39, 67, 68, 69, 70, 71, 72, 73, 74, 75, 76, 77, 78, 79, 80, 81, 82, 83, 84, 85] V V70 := ajV70
          have agV70 : agr [(3, 15), (5, 6), (5, 7), (5, 9), (5, 10), (5, 11), (5, 12), (5, 13), (5, 14)] [30, 31, 32, 39, 67, 68, 69, 70, 71, 72, 73, 74, 75, 76, 77, 78, 79, 80, 81, 82, 83, 84, 85] V V70 := agV.tr ajV70 (by decide) (by decide)
          replace zlZ72 : ZL Z Z72 := zlZ72
          have zoZ72 : ZL Z Z72 := ZL.tr zoZ zlZ72
          have ziZ72 := zlZ72.1
          have zjZ72 := zlZ72.2.1
          have zkZ72 := zlZ72.2.2.1
          have zmZ72 := zoZ72.1
          have znZ72 := zoZ72.2.1
          have zpZ_Z72 := zoZ.1
          have zqZ_Z72 := zoZ.2.1
          have y68 : H.size ≤ Hk62.size + (zcc Z - zcc Z72) := by rw [hHk62]; exact y68
          have y69 : tot H ≤ tot Hk62 + (zss Z - zss Z72) := by rw [hHk62]; exact y69
          refine W.tight (k := zcc Z - zcc Z72) (n := zss Z - zss Z72) (by first | exact tg9 y68 k63 zlZ72.1 zoZ.1 | omega) (by first | exact tg9 y69 k64 zlZ72.2.1 zoZ.2.1 | omega) ?_
          have hl : lv_has ls 2 [(0, .ref (ad 5)), (1, .ref (Z72.fa gf))] := by rw [zlZ72.2.2.2.2 gf hgf]; exact hl
          replace rgz65 : 0 ≤ z65.toInt ∧ z65.toInt ≤ 1 := rgz65
          replace t74 : Imp (z65.toInt = 1) (MO V70 Z72 b gf True True True) := t74
          replace t75 : Imp (z65.toInt = 0) (MJ V70 Z72 b) := t75
          replace t76 : Imp (z65.toInt = 1) ((V70 5 6).toInt = (V 5 6).toInt ∧ (V70 67 gf).toInt = 4) := t76
          replace t77 : Imp (z65.toInt = 1) (Z72 = Z) := t77
          replace t78 : (z65.toInt = 1 ∧ ∃ fz8, stM gB (gm, ga, gfr :: gr) = (gm, ga, fz8 :: gr) ∧ RW (up2 V70 68 gf 0) gB (gm, ga, fz8 :: gr)) ∨ (z65.toInt = 0 ∧ RW V70 gB (stM gB (gm, ga, gfr :: gr))) := t78
          have r79 : 0 ≤ ((V70 5 6)).toInt ∧ ((V70 5 6)).toInt ≤ 400 := hMV70 5 6
          refine lv_if_ne (tgt := 45) hx hb dX5_goOnWorking_41 (by decide) (fun c80 => ?_) (fun c80 => ?_)
          · skip
            have f81 : z65.toInt ≠ 0 := b_neq rfl (by decide) c80
            have hr1 : z65.toInt = 1 := by (first | exact om_c7d7c2afe6e6 rgz65 f81 | omega)
            have ezz : Z72 = Z := Imp.go t77 hr1
            have hP : va_P D vwCl (xw ad kk V70 L Z) H := by rw [← ezz]; exact hP
            have hD : va_D A (xw ad kk V70 L Z) := by rw [← ezz]; exact hD
            have hK : va_K D vwCl (xty kk Z) s := by rw [← ezz]; exact hK
            have hl : lv_has ls 2 [(0, .ref (ad 5)), (1, .ref (Z.fa gf))] := by rw [← ezz]; exact hl
            rw [ezz]
            have mo82 : MO V70 Z b gf True True True := by rw [← ezz]; exact Imp.go t74 hr1
            have hpk := Imp.go t76 hr1
            have mup := MO.up mo82
            have msz := mup.1
            have mbk := mup.2.2.2.1
            obtain ⟨xk, fk⟩ := MO.fk mo82
            have r83 : (-1) ≤ ((V70 71 gf)).toInt ∧ ((V70 71 gf)).toInt ≤ 23 := hMV70 71 gf
            have r84 : 0 ≤ ((V70 75 gf)).toInt ∧ ((V70 75 gf)).toInt ≤ 12 := hMV70 75 gf
            have r85 : 0 ≤ ((V70 80 gf)).toInt ∧ ((V70 80 gf)).toInt ≤ 300 := hMV70 80 gf
            have r86 : 0 ≤ ((V70 84 gf)).toInt ∧ ((V70 84 gf)).toInt ≤ 2147483647 := hMV70 84 gf
            have pq87 : (V70 5 8).toInt = ((V 5 8)).toInt := congrArg Int32.toInt (ajV70 5 8 rfl)
            have r88 : 0 ≤ ((V70 5 9)).toInt ∧ ((V70 5 9)).toInt ≤ 3 := hMV70 5 9
            have pq89 : (V70 3 13).toInt = ((V 3 13)).toInt := congrArg Int32.toInt (ajV70 3 13 rfl)
            have pq90 : (V70 43 (5 * b + 2)).toInt = ((V 43 (5 * b + 2))).toInt := congrArg Int32.toInt (ajV70 43 (5 * b + 2) rfl)
            have pq91 : (V70 41 b).toInt = ((V 41 b)).toInt := congrArg Int32.toInt (ajV70 41 b rfl)
            have pq92 : (V70 42 b).toInt = ((V 42 b)).toInt := congrArg Int32.toInt (ajV70 42 b rfl)
            have fc := fk.1 (by (first | exact om_44d4c4f9f7ef hpk | omega))
            have fo := fk.2.1 (by (first | exact om_44d4c4f9f7ef hpk | omega)) (by (first | exact om_2ced1a512586 hpk | omega))
            have ft := fk.2.2.1 (by (first | exact om_860d07f16e45 hpk | omega))
            have fq := fk.2.2.2.1 (by (first | exact om_860d07f16e45 hpk | omega))
            refine lv_aload_n hx hb dX5_goOnWorking_45 rfl (lv_at hl 1 rfl) ?_
            refine lv_iconst (v := 0) hx hb dX5_goOnWorking_46 (by decide) ?_
            refine va_putN (D := D) (ci := 4) (v := .int 0) (ty := tyX4 1) (fs := (xfFrame V70 gf)) (C := RX4) (T := TX4) (N := 19) hx hb hg inX4 tyX4 tyX4_ok nmX4 hown hK hP hD hS (336 + gf) (xgFrame hgf) rfl 1 (by decide) (hnw.use 1190 n1190 rfl) (fun _ h9 => h9) rfl (tyX4_ok 1 (by decide)) rfl rfl (Nat.le_of_ble_eq_true rfl) dX5_goOnWorking_47 (fun H locs hP hD hS => ?_)
            obtain ⟨V93, hV93⟩ : ∃ z, z = up2 V70 68 gf 0 := ⟨_, rfl⟩
            have ew94 : (xw ad kk V70 L Z).set (336 + gf) ((Z.fa gf), .inr (4, (xfFrame V70 gf).set 1 (.int 0))) = xw ad kk V93 L Z := by rw [hV93]; exact xpFrame_phase hgf
            have hP : va_P D vwCl (xw ad kk V93 L Z) H := by rw [← ew94]; exact hP
            have hD : va_D A (xw ad kk V93 L Z) := by rw [← ew94]; exact hD
            have hMV93 : rgd bX V93 := hMV70.put hV93 (i_full _)
            have agV93 : agr [(3, 15), (5, 6), (5, 7), (5, 9), (5, 10), (5, 11), (5, 12), (5, 13), (5, 14)] [30, 31, 32, 39, 67, 68, 69, 70, 71, 72, 73, 74, 75, 76, 77, 78, 79, 80, 81, 82, 83, 84, 85] V V93 := agV70.up hV93 rfl
            obtain ⟨f2, sx9, ru9⟩ := (t78.resolve_right (fun h9 => by have h8 := h9.1; (first | exact om_0cbcd509a04c hr1 h9 | omega))).2
            have rwx9 : RW V93 gB (gm, ga, f2 :: gr) := by rw [hV93]; exact ru9
            have gox9 : GOs gB (gm, ga, f2 :: gr) := by rw [← sx9]; exact GOs.nx go9
            refine lv_aload_n hx hb dX5_goOnWorking_50 rfl (lv_at hl 0 rfl) ?_
            refine lv_aload_n hx hb dX5_goOnWorking_51 rfl (lv_at hl 1 rfl) ?_
            have pq95 : (V93 5 6).toInt = ((V70 5 6)).toInt := congrArg Int32.toInt (up2_o hV93 (by decide))
            have pq96 : (V93 67 gf).toInt = ((V70 67 gf)).toInt := congrArg Int32.toInt (up2_o hV93 (by decide))
            have pq97 : (V93 68 gf).toInt = 0 := (congrArg Int32.toInt (up2_s hV93)).trans (by decide)
            have me98 : ME V70 V93 gf := (ME.up ME.rf hV93 (Or.inl ⟨by decide, by decide, Nat.le_refl _⟩))
            have pq99 : (V93 70 gf).toInt = ((V70 70 gf)).toInt := congrArg Int32.toInt (up2_o hV93 (by decide))
            have pq100 : (V93 71 gf).toInt = ((V70 71 gf)).toInt := congrArg Int32.toInt (up2_o hV93 (by decide))
            have pq101 : (V93 75 gf).toInt = ((V70 75 gf)).toInt := congrArg Int32.toInt (up2_o hV93 (by decide))
            have pq102 : (V93 76 gf).toInt = ((V70 76 gf)).toInt := congrArg Int32.toInt (up2_o hV93 (by decide))
            have pq103 : (V93 80 gf).toInt = ((V70 80 gf)).toInt := congrArg Int32.toInt (up2_o hV93 (by decide))
            have pq104 : (V93 84 gf).toInt = ((V70 84 gf)).toInt := congrArg Int32.toInt (up2_o hV93 (by decide))
            have pq105 : (V93 5 8).toInt = ((V 5 8)).toInt := congrArg Int32.toInt ((up2_o hV93 (by decide)).trans (ajV70 5 8 rfl))
            have pq106 : (V93 5 9).toInt = ((V70 5 9)).toInt := congrArg Int32.toInt (up2_o hV93 (by decide))
            have pq107 : (V93 3 13).toInt = ((V 3 13)).toInt := congrArg Int32.toInt ((up2_o hV93 (by decide)).trans (ajV70 3 13 rfl))
            have pq108 : (V93 43 (5 * b + 2)).toInt = ((V 43 (5 * b + 2))).toInt := congrArg Int32.toInt ((up2_o hV93 (by decide)).trans (ajV70 43 (5 * b + 2) rfl))
            have pq109 : (V93 42 b).toInt = ((V 42 b)).toInt := congrArg Int32.toInt ((up2_o hV93 (by decide)).trans (ajV70 42 b rfl))
            have pq110 : (V93 41 b).toInt = ((V 41 b)).toInt := congrArg Int32.toInt ((up2_o hV93 (by decide)).trans (ajV70 41 b rfl))
            have ep113 : V93 84 gf = (V70 84 gf) := (up2_o hV93 (by decide))
            have af112 : (V93 42 b).toInt ≤ (V93 84 gf).toInt ∨ (bdp V93 b (V93 84 gf).toInt.toNat).1 = true := by rw [ep113, me98.1.bd, me98.1 42 b (by decide) (by decide)]; exact ft
            have mo111 : MO V93 Z b gf True True True := MO.ch mo82 me98 (up2_o hV93 (by decide)) (up2_o hV93 (by decide)) (fun _ => Or.inl (by (first | exact om_44d4c4f9f7ef hpk | omega))) (fun x h => FK.k4 (by first | exact om_aa3d8c2f563d hpk pq96 | first | omega | ((try (have i_t76 := Imp.go t76 (by omega))); omega)) (by first | exact om_55df0db36d78 r83 pq90 fc pq100 pq108 | first | omega | ((try (have i_t76 := Imp.go t76 (by omega))); omega)) (by first | exact om_a90b064d0ba2 ra2 pq89 fo pq99 pq107 | first | omega | ((try (have i_t76 := Imp.go t76 (by omega))); omega)) af112 (by first | exact om_21b02c2ae35f pq97 | first | omega | ((try (have i_t76 := Imp.go t76 (by omega))); omega)) (fun hph => absurd hph (by (first | exact om_99bd92af3810 pq97 hph | omega))))
            have bc114 : BKc V93 b gB := BKc.b4 bc (agr.b4 (show agr [(3, 15), (5, 6), (5, 7), (5, 9)] [30, 31, 32, 39, 67, 68, 69, 70, 71, 72, 73, 74, 75, 76, 77, 78, 79, 80, 81, 82, 83, 84, 85] V V93 from (agr.up (agr.tr agr.rf ajV70 (by decide) (by decide)) hV93 rfl)) (by decide))
            refine W.know (fun k116 k117 => ?_)
            obtain ⟨Hk115, hHk115⟩ : ∃ z, z = H := ⟨_, rfl⟩
            have k116 : Hk115.size ≤ s.heap.size + (zcc Z - zcc Z) := by rw [hHk115]; exact k116
            have k117 : tot Hk115 ≤ tot s.heap + (zss Z - zss Z) := by rw [hHk115]; exact k117
            refine gZ_void (gA_runV (As := [.ref (Z.fa gf)]) (rest := []) (ci := 5) (q0 := 5) hx hb hml hown hg hP hD hK hS hA hnw hgk (x_work9 l D ks H.size ad kk V93 L Z (b) (gf) (gB) (gm) (ga) (f2) (gr) hMV93 (show b < 2 from by first | exact om_289974d36c9f hb2 mup | first | omega | ((try (have i_t76 := Imp.go t76 (by omega))); omega)) (show gf < Z.nf from by first | exact om_39a2747553fe hgf gd kdp rd rd2 hpk pq95 | first | omega | ((try (have i_t76 := Imp.go t76 (by omega))); omega)) mo111 (show (gf : Int) + 1 = (V93 5 6).toInt from by first | exact om_774be6a865fd gd kdp rd rd2 hpk pq95 | first | omega | ((try (have i_t76 := Imp.go t76 (by omega))); omega)) (show (V93 67 gf).toInt = 4 from by first | exact om_aa3d8c2f563d hpk pq96 | first | omega | ((try (have i_t76 := Imp.go t76 (by omega))); omega)) (show (V93 68 gf).toInt = 0 from by first | exact om_b66ba74381d5 pq97 | first | omega | ((try (have i_t76 := Imp.go t76 (by omega))); omega)) rwx9 bc114 gox9) w1474 w1476 w74 w171 w1477 rfl xgMachine hdV_yX5_work ⟨Nat.le_of_ble_eq_true rfl, Nat.le_of_ble_eq_true rfl⟩ rfl hl.1 rfl (Nat.le_of_ble_eq_true rfl) dX5_goOnWorking_52 ⟨z1 zoZ.1, z1 zoZ.2.1⟩) hD hS hA (fun u119 H locs w120 hP hD hK hS y121 y122 => ?_)
            obtain ⟨V123, L124, Z125⟩ := u119
            obtain ⟨hMV123, ajV123, axL124, zlZ125, t127, t128⟩ := w120
            have axL124 : L = L124 := Eq.symm axL124
            subst axL124
            replace hP : va_P D vwCl (xw ad kk V123 L Z125) H := hP
            replace hD : va_D A (xw ad kk V123 L Z125) := hD
            replace hK : va_K D vwCl (xty kk Z125) s := hK
            replace hMV123 : rgd bX V123 := hMV123
            replace ajV123 : agr [(5, 6), (5, 7), (5, 9), (5, 10), (5, 11), (5, 12), (5, 13), (5, 14)] [39, 67, 68, 69, 70, 71, 72, 73, 74, 75, 76, 77, 78, 79, 80, 81, 82, 83, 84, 85] V93 V123 := ajV123
            have agV123 : agr [(3, 15), (5, 6), (5, 7), (5, 9), (5, 10), (5, 11), (5, 12), (5, 13), (5, 14)] [30, 31, 32, 39, 67, 68, 69, 70, 71, 72, 73, 74, 75, 76, 77, 78, 79, 80, 81, 82, 83, 84, 85] V V123 := agV93.tr ajV123 (by decide) (by decide)
            replace zlZ125 : ZL Z Z125 := zlZ125
            have zoZ125 : ZL Z Z125 := ZL.tr zoZ zlZ125
            have ziZ125 := zlZ125.1
            have zjZ125 := zlZ125.2.1
            have zkZ125 := zlZ125.2.2.1
            have zmZ125 := zoZ125.1
            have znZ125 := zoZ125.2.1
            have zpZ_Z125 := zoZ.1
            have zqZ_Z125 := zoZ.2.1
            have y121 : H.size ≤ Hk115.size + (zcc Z - zcc Z125) := by rw [hHk115]; exact y121
            have y122 : tot H ≤ tot Hk115 + (zss Z - zss Z125) := by rw [hHk115]; exact y122
            refine W.tight (k := zcc Z - zcc Z125) (n := zss Z - zss Z125) (by first | exact tg9 y121 k116 zlZ125.1 zoZ.1 | omega) (by first | exact tg9 y122 k117 zlZ125.2.1 zoZ.2.1 | omega) ?_
            have hl : lv_has ls 2 [(0, .ref (ad 5)), (1, .ref (Z125.fa gf))] := by rw [zlZ125.2.2.2.2 gf hgf]; exact hl
            replace t127 : MJ V123 Z125 b := t127
            replace t128 : ∃ n, 1 ≤ n ∧ RW V123 gB (rnM gB n (gm, ga, f2 :: gr)) := t128
            refine W.know (fun kr1 kr2 => ?_)
            refine W.widen (k := zcc Z) (n := zss Z) (Nat.sub_le _ _) (Nat.sub_le _ _) ?_
            exact W.vret hx hb hr (fun t ht hW => ⟨⟨(V123, L, Z125), rfl, ⟨hMV123, agV123, rfl, zoZ125, t127, (by obtain ⟨n9, h1, h2⟩ := t128; exact ⟨1 + n9, by omega, by rw [rnM_add]; show RW _ gB (rnM gB n9 (stM gB (gm, ga, gfr :: gr))); rw [sx9]; exact h2⟩)⟩, ⟨by rw [ht]; exact hP, va_K.moved hW.alike hK, hD⟩, by rw [ht]; exact kr1, by rw [ht]; exact kr2⟩, hS.F ht⟩) hS.2.2 dX5_goOnWorking_55
          · skip
            have f129 : z65.toInt = 0 := b_eq rfl (by decide) c80
            refine W.know (fun kr1 kr2 => ?_)
            refine W.widen (k := zcc Z) (n := zss Z) (Nat.sub_le _ _) (Nat.sub_le _ _) ?_
            exact W.vret hx hb hr (fun t ht hW => ⟨⟨(V70, L, Z72), rfl, ⟨hMV70, agV70, rfl, zoZ72, (Imp.go t75 (by (first | exact om_b66ba74381d5 f129 | omega))), ⟨1, Nat.le_refl _, (t78.resolve_left (fun h9 => by have h8 := h9.1; (first | exact om_65da98921d09 f129 h9 | omega))).2⟩⟩, ⟨by rw [ht]; exact hP, va_K.moved hW.alike hK, hD⟩, by rw [ht]; exact kr1, by rw [ht]; exact kr2⟩, hS.F ht⟩) hS.2.2 dX5_goOnWorking_44
        · skip
          have f130 : ((V 5 9)).toInt ≠ 1 := b_neq rfl (by decide) c60
          refine lv_aload_n hx hb dX5_goOnWorking_30 rfl (lv_at hl 0 rfl) ?_
          refine lv_aload_n hx hb dX5_goOnWorking_31 rfl (lv_at hl 1 rfl) ?_
          have me131 : ME V V gf := ME.rf
          have af133 : (V 42 b).toInt ≤ (V 84 gf).toInt ∨ (bdp V b (V 84 gf).toInt.toNat).1 = true := by rw [me131.1.bd, me131.1 42 b (by decide) (by decide)]; exact ft
          have mo132 : MO V Z b gf True False True := MO.ch mo me131 rfl rfl (fun _ => Or.inl (by (first | exact om_85c82c20915f gk | omega))) (fun x h => FK.k4 (by (first | exact om_c88e7ce0b8a2 gk | omega)) (by (first | exact om_6076713cabb8 r2 fc | omega)) (by (first | exact om_033210b74f87 fo ra2 | omega)) af133 (by (first | exact om_fce24656d56e k68 | omega)) (fun _ z => z.elim))
          refine gA_void (gA_runV (As := [.ref (Z.fa gf)]) (rest := []) (ci := 5) (q0 := 5) hx hb hml hown hg hP hD hK hS hA hnw hgk (x_endWork9 l D ks H.size ad kk V L Z (b) (gf) hMV (show b < 2 from by (first | exact om_289974d36c9f hb2 mup | omega)) (show gf < Z.nf from by (first | exact om_725d0642dd96 hgf gd kdp rd rd2 | omega)) mo132 (show (gf : Int) + 1 = (V 5 6).toInt from by (first | exact om_d5747674bc98 gd | omega)) (show (V 67 gf).toInt = 4 from by (first | exact om_c88e7ce0b8a2 gk | omega))) w1458 w1460 w70 w171 w1461 rfl xgMachine hdV_yX5_endWork ⟨Nat.le_of_ble_eq_true rfl, Nat.le_of_ble_eq_true rfl⟩ rfl hl.1 rfl (Nat.le_of_ble_eq_true rfl) dX5_goOnWorking_32 ⟨z0, z0⟩) hP hD hK hS hA (fun u135 H locs w136 hP hD hK hS => ?_)
          obtain ⟨V139, L140⟩ := u135
          obtain ⟨hMV139, ajV139, axL140, t137, t138⟩ := w136
          have axL140 : L = L140 := Eq.symm axL140
          subst axL140
          replace hP : va_P D vwCl (xw ad kk V139 L Z) H := hP
          replace hD : va_D A (xw ad kk V139 L Z) := hD
          replace hMV139 : rgd bX V139 := hMV139
          replace ajV139 : agr [(5, 6), (5, 7)] [] V V139 := ajV139
          have agV139 : agr [(3, 15), (5, 6), (5, 7), (5, 9), (5, 10), (5, 11), (5, 12), (5, 13), (5, 14)] [30, 31, 32, 39, 67, 68, 69, 70, 71, 72, 73, 74, 75, 76, 77, 78, 79, 80, 81, 82, 83, 84, 85] V V139 := agV.tr ajV139 (by decide) (by decide)
          replace t137 : MJ V139 Z b := t137
          replace t138 : ((True) ∧ V139 = (up2 (up2 V 5 7 (V 85 gf)) 5 6 (V 5 6 - 1))) := t138
          have hw141 := t138.2
          obtain ⟨V142, hV142⟩ : ∃ z, z = up2 V 5 7 (V 85 gf) := ⟨_, rfl⟩
          obtain ⟨z143, ez143⟩ : ∃ y : Int32, y = V 5 6 - 1 := ⟨_, rfl⟩
          have hz143 : z143.toInt = (V 5 6).toInt - 1 := i_sub ez143 rfl (by decide) (by (first | exact om_62296f3213ed gd r1 kdp rd rd2 sl9 | omega))
          have hV139 : V139 = up2 V142 5 6 z143 := by rw [hw141, hV142, ez143]
          have me144 : ME V V139 gf := (ME.up (ME.up ME.rf hV142 (Or.inr (by (first | exact om_8193a90fcd76  | omega)))) hV139 (Or.inr (by (first | exact om_f481bd0f1cda  | omega))))
          have rl145 : RWl V139 gB gr t0 := RWl.mv hlr (fun i9 hi9 c9 h1 h2 => me144.2.1 c9 i9 h1 h2 (by (first | exact om_997eaf2cf217 gd kdp rd rd2 hz143 hi9 | omega))) (fun j9 hj9 => ((up2_o hV139 (by decide)).trans (up2_o hV142 (by decide)))) (by rw [((up2_o hV139 (by decide)).trans (up2_o hV142 (by decide)))]; exact Int.le_refl _) ((up2_o hV139 (by decide)).trans (up2_o hV142 (by decide)))
          have pq146 : (V139 5 6).toInt = z143.toInt := congrArg Int32.toInt (up2_s hV139)
          have pq147 : (V139 5 7).toInt = ((V 85 gf)).toInt := congrArg Int32.toInt ((up2_k hV139 (by decide)).trans (up2_s hV142))
          have pq148 : (V139 5 9).toInt = ((V 5 9)).toInt := congrArg Int32.toInt ((up2_k hV139 (by decide)).trans (up2_k hV142 (by decide)))
          have pq149 : (V139 5 11).toInt = ((V 5 11)).toInt := congrArg Int32.toInt ((up2_k hV139 (by decide)).trans (up2_k hV142 (by decide)))
          have pq150 : (V139 5 12).toInt = ((V 5 12)).toInt := congrArg Int32.toInt ((up2_k hV139 (by decide)).trans (up2_k hV142 (by decide)))
          have tp9 : (V139 5 7).toInt = ((t0 : Nat) : Int) := by rw [((up2_k hV139 (by decide)).trans (up2_s hV142))]; exact hb8
          have rz9 : RW V139 gB (gm, ga, gr) := RW.id rwq (ESw.ag (show agr [(5, 6), (5, 7)] [] V V139 from (agr.up (agr.up agr.rf hV142 rfl) hV139 rfl)) (by decide)) ((up2_k hV139 (by decide)).trans (up2_k hV142 (by decide))) ((up2_k hV139 (by decide)).trans (up2_k hV142 (by decide))) ((up2_k hV139 (by decide)).trans (up2_k hV142 (by decide))) ((up2_k hV139 (by decide)).trans (up2_k hV142 (by decide))) (show (V139 5 6).toInt = ((gr.length : Nat) : Int) from by (first | exact om_7b55b3cd7065 kdp rd rd2 hz143 pq146 | omega)) tp9 rl145
          have rx151 : RW V139 gB (stM gB (gm, ga, gfr :: gr)) := by rw [hfe, st_13n (by rw [← rh1]; (first | exact om_7e782b1958aa rh1 f130 af133 pq148 | omega))]; exact rz9
          refine W.know (fun kr1 kr2 => ?_)
          refine W.widen (k := zcc Z) (n := zss Z) (Nat.sub_le _ _) (Nat.sub_le _ _) ?_
          exact W.vret hx hb hr (fun t ht hW => ⟨⟨(V139, L, Z), rfl, ⟨hMV139, agV139, rfl, zoZ, t137, ⟨1, Nat.le_refl _, rx151⟩⟩, ⟨by rw [ht]; exact hP, va_K.moved hW.alike hK, hD⟩, by rw [ht]; exact kr1, by rw [ht]; exact kr2⟩, hS.F ht⟩) hS.2.2 dX5_goOnWorking_35
    · skip
      have f152 : ((V 68 gf)).toInt = 6 := b_eq rfl (by decide) c55
      exfalso; (first | exact om_69d0c64b97ac k68 f152 | omega)
  · skip
    have hf : FRc V gB gf (Fask lv o c sc at9 nd tg v g p) := by rw [← hfe]; exact hf0
    have tl8 : tw9 = t0 + (Fask lv o c sc at9 nd tg v g p : Fr).2.2.2.length := by rw [← hfe]; exact tl9
    obtain ⟨⟨k67, k68⟩, hoc, ⟨a0, q84⟩, q75, q77, q74, q78⟩ := hf
    have tl7 : tw9 = t0 + p.length := tl8
    have hb8 : (V 85 gf).toInt = (t0 : Int) := hbs9 (by rw [hfe]; exact (by decide : (12 : Nat) ≤ 14)) (by rw [hfe]; exact (by decide : (14 : Nat) ≤ 16))
    refine lv_aload_n hx hb dX5_goOnWorking_0 rfl (lv_at hl 1 rfl) ?_
    refine va_getN (D := D) (ci := 4) (v := .int (V 68 gf)) (fs := (xfFrame V gf)) (C := RX4) (T := TX4) (N := 19) hx hb hg inX4 hown hK hP (336 + gf) (xgFrame hgf) rfl 1 (by decide) (hnw.use 1190 n1190 rfl) (fun _ h9 => h9) rfl dX5_goOnWorking_1 ?_
    refine lv_bipush (v := 6) hx hb dX5_goOnWorking_4 (by decide) ?_
    refine lv_icmp_ne (tgt := 15) hx hb dX5_goOnWorking_6 (by decide) (fun c153 => ?_) (fun c153 => ?_)
    · skip
      have f154 : ((V 68 gf)).toInt ≠ 6 := b_neq rfl (by decide) c153
      exfalso; (first | exact om_cf5f90428ed9 k68 f154 | omega)
    · skip
      have f155 : ((V 68 gf)).toInt = 6 := b_eq rfl (by decide) c153
      refine lv_aload_n hx hb dX5_goOnWorking_9 rfl (lv_at hl 0 rfl) ?_
      refine lv_aload_n hx hb dX5_goOnWorking_10 rfl (lv_at hl 1 rfl) ?_
      refine W.know (fun k157 k158 => ?_)
      obtain ⟨Hk156, hHk156⟩ : ∃ z, z = H := ⟨_, rfl⟩
      have k157 : Hk156.size ≤ s.heap.size + (zcc Z - zcc Z) := by rw [hHk156]; exact k157
      have k158 : tot Hk156 ≤ tot s.heap + (zss Z - zss Z) := by rw [hHk156]; exact k158
      refine gZ_void (gA_runV (As := [.ref (Z.fa gf)]) (rest := []) (ci := 5) (q0 := 5) hx hb hml hown hg hP hD hK hS hA hnw hgk (x_callNeed9 l D ks H.size ad kk V L Z (b) (gf) (gB) (gm) (ga) (gfr) (gr) hMV (show b < 2 from by (first | exact om_289974d36c9f hb2 mup | omega)) (show gf < Z.nf from by (first | exact om_725d0642dd96 hgf gd kdp rd rd2 | omega)) mo (show (gf : Int) + 1 = (V 5 6).toInt from by (first | exact om_d5747674bc98 gd | omega)) (show (V 67 gf).toInt = 4 from by (first | exact om_c88e7ce0b8a2 gk | omega)) (show (V 68 gf).toInt = 6 from by (first | exact om_4b6cdf2bfd6b k68 | omega)) rwq bc sf go9) w1435 w1437 w68 w171 w1438 rfl xgMachine hdV_yX5_callNeed ⟨Nat.le_of_ble_eq_true rfl, Nat.le_of_ble_eq_true rfl⟩ rfl hl.1 rfl (Nat.le_of_ble_eq_true rfl) dX5_goOnWorking_11 ⟨z1 zoZ.1, z1 zoZ.2.1⟩) hD hS hA (fun u160 H locs w161 hP hD hK hS y162 y163 => ?_)
      obtain ⟨V164, L165, Z166⟩ := u160
      obtain ⟨hMV164, ajV164, axL165, zlZ166, t168, t169⟩ := w161
      have axL165 : L = L165 := Eq.symm axL165
      subst axL165
      replace hP : va_P D vwCl (xw ad kk V164 L Z166) H := hP
      replace hD : va_D A (xw ad kk V164 L Z166) := hD
      replace hK : va_K D vwCl (xty kk Z166) s := hK
      replace hMV164 : rgd bX V164 := hMV164
      replace ajV164 : agr [(5, 6), (5, 9), (5, 10), (5, 11), (5, 12)] [67, 68, 69, 70, 71, 72, 73, 74, 75, 76, 77, 78, 79, 80, 81, 82, 83, 84, 85] V V164 := ajV164
      have agV164 : agr [(3, 15), (5, 6), (5, 7), (5, 9), (5, 10), (5, 11), (5, 12), (5, 13), (5, 14)] [30, 31, 32, 39, 67, 68, 69, 70, 71, 72, 73, 74, 75, 76, 77, 78, 79, 80, 81, 82, 83, 84, 85] V V164 := agV.tr ajV164 (by decide) (by decide)
      replace zlZ166 : ZL Z Z166 := zlZ166
      have zoZ166 : ZL Z Z166 := ZL.tr zoZ zlZ166
      have ziZ166 := zlZ166.1
      have zjZ166 := zlZ166.2.1
      have zkZ166 := zlZ166.2.2.1
      have zmZ166 := zoZ166.1
      have znZ166 := zoZ166.2.1
      have zpZ_Z166 := zoZ.1
      have zqZ_Z166 := zoZ.2.1
      have y162 : H.size ≤ Hk156.size + (zcc Z - zcc Z166) := by rw [hHk156]; exact y162
      have y163 : tot H ≤ tot Hk156 + (zss Z - zss Z166) := by rw [hHk156]; exact y163
      refine W.tight (k := zcc Z - zcc Z166) (n := zss Z - zss Z166) (by first | exact tg9 y162 k157 zlZ166.1 zoZ.1 | omega) (by first | exact tg9 y163 k158 zlZ166.2.1 zoZ.2.1 | omega) ?_
      have hl : lv_has ls 2 [(0, .ref (ad 5)), (1, .ref (Z166.fa gf))] := by rw [zlZ166.2.2.2.2 gf hgf]; exact hl
      replace t168 : MJ V164 Z166 b := t168
      replace t169 : RW V164 gB (stM gB (gm, ga, gfr :: gr)) := t169
      refine W.know (fun kr1 kr2 => ?_)
      refine W.widen (k := zcc Z) (n := zss Z) (Nat.sub_le _ _) (Nat.sub_le _ _) ?_
      exact W.vret hx hb hr (fun t ht hW => ⟨⟨(V164, L, Z166), rfl, ⟨hMV164, agV164, rfl, zoZ166, t168, ⟨1, Nat.le_refl _, t169⟩⟩, ⟨by rw [ht]; exact hP, va_K.moved hW.alike hK, hD⟩, by rw [ht]; exact kr1, by rw [ht]; exact kr2⟩, hS.F ht⟩) hS.2.2 dX5_goOnWorking_14
  · skip
    have hf : FRc V gB gf (Fget lv o c sc at9 nd tg v g p) := by rw [← hfe]; exact hf0
    have tl8 : tw9 = t0 + (Fget lv o c sc at9 nd tg v g p : Fr).2.2.2.length := by rw [← hfe]; exact tl9
    obtain ⟨⟨k67, k68⟩, hoc, ⟨a0, q84⟩, q75, q77, q74, q78⟩ := hf
    have tl7 : tw9 = t0 + p.length := tl8
    have hb8 : (V 85 gf).toInt = (t0 : Int) := hbs9 (by rw [hfe]; exact (by decide : (12 : Nat) ≤ 15)) (by rw [hfe]; exact (by decide : (15 : Nat) ≤ 16))
    refine lv_aload_n hx hb dX5_goOnWorking_0 rfl (lv_at hl 1 rfl) ?_
    refine va_getN (D := D) (ci := 4) (v := .int (V 68 gf)) (fs := (xfFrame V gf)) (C := RX4) (T := TX4) (N := 19) hx hb hg inX4 hown hK hP (336 + gf) (xgFrame hgf) rfl 1 (by decide) (hnw.use 1190 n1190 rfl) (fun _ h9 => h9) rfl dX5_goOnWorking_1 ?_
    refine lv_bipush (v := 6) hx hb dX5_goOnWorking_4 (by decide) ?_
    refine lv_icmp_ne (tgt := 15) hx hb dX5_goOnWorking_6 (by decide) (fun c170 => ?_) (fun c170 => ?_)
    · skip
      have f171 : ((V 68 gf)).toInt ≠ 6 := b_neq rfl (by decide) c170
      refine lv_aload_n hx hb dX5_goOnWorking_15 rfl (lv_at hl 1 rfl) ?_
      refine va_getN (D := D) (ci := 4) (v := .int (V 68 gf)) (fs := (xfFrame V gf)) (C := RX4) (T := TX4) (N := 19) hx hb hg inX4 hown hK hP (336 + gf) (xgFrame hgf) rfl 1 (by decide) (hnw.use 1190 n1190 rfl) (fun _ h9 => h9) rfl dX5_goOnWorking_16 ?_
      refine lv_if_eq (tgt := 45) hx hb dX5_goOnWorking_19 (by decide) (fun c172 => ?_) (fun c172 => ?_)
      · skip
        have f173 : ((V 68 gf)).toInt = 0 := b_eq rfl (by decide) c172
        exfalso; (first | exact om_81ddc7f3d9eb k68 f173 | omega)
      · skip
        have f174 : ((V 68 gf)).toInt ≠ 0 := b_neq rfl (by decide) c172
        refine lv_aload_n hx hb dX5_goOnWorking_22 rfl (lv_at hl 0 rfl) ?_
        refine va_get (D := D) (ci := 5) (v := .int (V 5 9)) (fs := (xfMachine ad V L Z)) (C := RX5) (T := TX5) (N := 15) hx hb hg inX5 hown hK hP 5 xgMachine rfl 9 (by decide) (hg _ w676) (fun _ h9 => h9) rfl dX5_goOnWorking_23 ?_
        refine lv_iconst (v := 1) hx hb dX5_goOnWorking_26 (by decide) ?_
        refine lv_icmp_eq (tgt := 36) hx hb dX5_goOnWorking_27 (by decide) (fun c175 => ?_) (fun c175 => ?_)
        · skip
          have f176 : ((V 5 9)).toInt = 1 := b_eq rfl (by decide) c175
          have mot : MO V Z b gf True (¬ NN V b) True := MO.w mo (fun _ => trivial) (fun z => ⟨by (first | exact om_653e4e2dce96 rh1 f176 | omega), z⟩) (fun _ => Or.inl (by (first | exact om_85c82c20915f gk | omega)))
          refine lv_aload_n hx hb dX5_goOnWorking_36 rfl (lv_at hl 0 rfl) ?_
          refine lv_aload_n hx hb dX5_goOnWorking_37 rfl (lv_at hl 1 rfl) ?_
          refine W.know (fun k178 k179 => ?_)
          obtain ⟨Hk177, hHk177⟩ : ∃ z, z = H := ⟨_, rfl⟩
          have k178 : Hk177.size ≤ s.heap.size + (zcc Z - zcc Z) := by rw [hHk177]; exact k178
          have k179 : tot Hk177 ≤ tot s.heap + (zss Z - zss Z) := by rw [hHk177]; exact k179
          refine gZ_int (gA_runV (As := [.ref (Z.fa gf)]) (rest := []) (ci := 5) (q0 := 5) hx hb hml hown hg hP hD hK hS hA hnw hgk (x_takesAnswer9 l D ks H.size ad kk V L Z (b) (gf) (gB) (gm) (ga) (gfr) (gr) hMV (show b < 2 from by (first | exact om_289974d36c9f hb2 mup | omega)) (show gf < Z.nf from by (first | exact om_725d0642dd96 hgf gd kdp rd rd2 | omega)) mot (show (gf : Int) + 1 = (V 5 6).toInt from by (first | exact om_d5747674bc98 gd | omega)) (show (V 67 gf).toInt = 4 from by (first | exact om_c88e7ce0b8a2 gk | omega)) (show (V 68 gf).toInt ≠ 0 ∧ (V 68 gf).toInt ≠ 6 from by (first | exact om_dd732b8edb23 k68 | omega)) rwq bc sf go9 (show (V 5 9).toInt = 1 from by (first | exact om_653e4e2dce96 rh1 f176 | omega))) w1462 w1464 w71 w171 w1465 rfl xgMachine hdV_yX5_takesAnswer ⟨Nat.le_of_ble_eq_true rfl, Nat.le_of_ble_eq_true rfl⟩ rfl hl.1 rfl (Nat.le_of_ble_eq_true rfl) dX5_goOnWorking_38 ⟨z1 zoZ.1, z1 zoZ.2.1⟩) hD hS hA (fun z180 u181 H locs w182 hP hD hK hS y183 y184 => ?_)
          obtain ⟨V185, L186, Z187⟩ := u181
          obtain ⟨hMV185, ajV185, axL186, zlZ187, rgz180, t189, t190, t191, t192, t193⟩ := w182
          have axL186 : L = L186 := Eq.symm axL186
          subst axL186
          replace hP : va_P D vwCl (xw ad kk V185 L Z187) H := hP
          replace hD : va_D A (xw ad kk V185 L Z187) := hD
          replace hK : va_K D vwCl (xty kk Z187) s := hK
          replace hMV185 : rgd bX V185 := hMV185
          replace ajV185 : agr [(3, 15), (5, 6), (5, 7), (5, 9)] [30, 31, 32, 39, 67, 68, 69, 70, 71, 72, 73, 74, 75, 76, 77, 78, 79, 80, 81, 82, 83, 84, 85] V V185 := ajV185
          have agV185 : agr [(3, 15), (5, 6), (5, 7), (5, 9), (5, 10), (5, 11), (5, 12), (5, 13), (5, 14)] [30, 31, 32, 39, 67, 68, 69, 70, 71, 72, 73, 74, 75, 76, 77, 78, 79, 80, 81, 82, 83, 84, 85] V V185 := agV.tr ajV185 (by decide) (by decide)
          replace zlZ187 : ZL Z Z187 := zlZ187
          have zoZ187 : ZL Z Z187 := ZL.tr zoZ zlZ187
          have ziZ187 := zlZ187.1
          have zjZ187 := zlZ187.2.1
          have zkZ187 := zlZ187.2.2.1
          have zmZ187 := zoZ187.1
          have znZ187 := zoZ187.2.1
          have zpZ_Z187 := zoZ.1
          have zqZ_Z187 := zoZ.2.1
          have y183 : H.size ≤ Hk177.size + (zcc Z - zcc Z187) := by rw [hHk177]; exact y183
          have y184 : tot H ≤ tot Hk177 + (zss Z - zss Z187) := by rw [hHk177]; exact y184
          refine W.tight (k := zcc Z - zcc Z187) (n := zss Z - zss Z187) (by first | exact tg9 y183 k178 zlZ187.1 zoZ.1 | omega) (by first | exact tg9 y184 k179 zlZ187.2.1 zoZ.2.1 | omega) ?_
          have hl : lv_has ls 2 [(0, .ref (ad 5)), (1, .ref (Z187.fa gf))] := by rw [zlZ187.2.2.2.2 gf hgf]; exact hl
          replace rgz180 : 0 ≤ z180.toInt ∧ z180.toInt ≤ 1 := rgz180
          replace t189 : Imp (z180.toInt = 1) (MO V185 Z187 b gf True True True) := t189
          replace t190 : Imp (z180.toInt = 0) (MJ V185 Z187 b) := t190
          replace t191 : Imp (z180.toInt = 1) ((V185 5 6).toInt = (V 5 6).toInt ∧ (V185 67 gf).toInt = 4) := t191
          replace t192 : Imp (z180.toInt = 1) (Z187 = Z) := t192
          replace t193 : (z180.toInt = 1 ∧ ∃ fz8, stM gB (gm, ga, gfr :: gr) = (gm, ga, fz8 :: gr) ∧ RW (up2 V185 68 gf 0) gB (gm, ga, fz8 :: gr)) ∨ (z180.toInt = 0 ∧ RW V185 gB (stM gB (gm, ga, gfr :: gr))) := t193
          have r194 : 0 ≤ ((V185 5 6)).toInt ∧ ((V185 5 6)).toInt ≤ 400 := hMV185 5 6
          refine lv_if_ne (tgt := 45) hx hb dX5_goOnWorking_41 (by decide) (fun c195 => ?_) (fun c195 => ?_)
          · skip
            have f196 : z180.toInt ≠ 0 := b_neq rfl (by decide) c195
            have hr1 : z180.toInt = 1 := by (first | exact om_c7d7c2afe6e6 rgz180 f196 | omega)
            have ezz : Z187 = Z := Imp.go t192 hr1
            have hP : va_P D vwCl (xw ad kk V185 L Z) H := by rw [← ezz]; exact hP
            have hD : va_D A (xw ad kk V185 L Z) := by rw [← ezz]; exact hD
            have hK : va_K D vwCl (xty kk Z) s := by rw [← ezz]; exact hK
            have hl : lv_has ls 2 [(0, .ref (ad 5)), (1, .ref (Z.fa gf))] := by rw [← ezz]; exact hl
            rw [ezz]
            have mo197 : MO V185 Z b gf True True True := by rw [← ezz]; exact Imp.go t189 hr1
            have hpk := Imp.go t191 hr1
            have mup := MO.up mo197
            have msz := mup.1
            have mbk := mup.2.2.2.1
            obtain ⟨xk, fk⟩ := MO.fk mo197
            have r198 : (-1) ≤ ((V185 71 gf)).toInt ∧ ((V185 71 gf)).toInt ≤ 23 := hMV185 71 gf
            have r199 : 0 ≤ ((V185 75 gf)).toInt ∧ ((V185 75 gf)).toInt ≤ 12 := hMV185 75 gf
            have r200 : 0 ≤ ((V185 80 gf)).toInt ∧ ((V185 80 gf)).toInt ≤ 300 := hMV185 80 gf
            have r201 : 0 ≤ ((V185 84 gf)).toInt ∧ ((V185 84 gf)).toInt ≤ 2147483647 := hMV185 84 gf
            have pq202 : (V185 5 8).toInt = ((V 5 8)).toInt := congrArg Int32.toInt (ajV185 5 8 rfl)
            have r203 : 0 ≤ ((V185 5 9)).toInt ∧ ((V185 5 9)).toInt ≤ 3 := hMV185 5 9
            have pq204 : (V185 3 13).toInt = ((V 3 13)).toInt := congrArg Int32.toInt (ajV185 3 13 rfl)
            have pq205 : (V185 43 (5 * b + 2)).toInt = ((V 43 (5 * b + 2))).toInt := congrArg Int32.toInt (ajV185 43 (5 * b + 2) rfl)
            have pq206 : (V185 41 b).toInt = ((V 41 b)).toInt := congrArg Int32.toInt (ajV185 41 b rfl)
            have pq207 : (V185 42 b).toInt = ((V 42 b)).toInt := congrArg Int32.toInt (ajV185 42 b rfl)
            have fc := fk.1 (by (first | exact om_44d4c4f9f7ef hpk | omega))
            have fo := fk.2.1 (by (first | exact om_44d4c4f9f7ef hpk | omega)) (by (first | exact om_2ced1a512586 hpk | omega))
            have ft := fk.2.2.1 (by (first | exact om_860d07f16e45 hpk | omega))
            have fq := fk.2.2.2.1 (by (first | exact om_860d07f16e45 hpk | omega))
            refine lv_aload_n hx hb dX5_goOnWorking_45 rfl (lv_at hl 1 rfl) ?_
            refine lv_iconst (v := 0) hx hb dX5_goOnWorking_46 (by decide) ?_
            refine va_putN (D := D) (ci := 4) (v := .int 0) (ty := tyX4 1) (fs := (xfFrame V185 gf)) (C := RX4) (T := TX4) (N := 19) hx hb hg inX4 tyX4 tyX4_ok nmX4 hown hK hP hD hS (336 + gf) (xgFrame hgf) rfl 1 (by decide) (hnw.use 1190 n1190 rfl) (fun _ h9 => h9) rfl (tyX4_ok 1 (by decide)) rfl rfl (Nat.le_of_ble_eq_true rfl) dX5_goOnWorking_47 (fun H locs hP hD hS => ?_)
            obtain ⟨V208, hV208⟩ : ∃ z, z = up2 V185 68 gf 0 := ⟨_, rfl⟩
            have ew209 : (xw ad kk V185 L Z).set (336 + gf) ((Z.fa gf), .inr (4, (xfFrame V185 gf).set 1 (.int 0))) = xw ad kk V208 L Z := by rw [hV208]; exact xpFrame_phase hgf
            have hP : va_P D vwCl (xw ad kk V208 L Z) H := by rw [← ew209]; exact hP
            have hD : va_D A (xw ad kk V208 L Z) := by rw [← ew209]; exact hD
            have hMV208 : rgd bX V208 := hMV185.put hV208 (i_full _)
            have agV208 : agr [(3, 15), (5, 6), (5, 7), (5, 9), (5, 10), (5, 11), (5, 12), (5, 13), (5, 14)] [30, 31, 32, 39, 67, 68, 69, 70, 71, 72, 73, 74, 75, 76, 77, 78, 79, 80, 81, 82, 83, 84, 85] V V208 := agV185.up hV208 rfl
            obtain ⟨f2, sx9, ru9⟩ := (t193.resolve_right (fun h9 => by have h8 := h9.1; (first | exact om_0cbcd509a04c hr1 h9 | omega))).2
            have rwx9 : RW V208 gB (gm, ga, f2 :: gr) := by rw [hV208]; exact ru9
            have gox9 : GOs gB (gm, ga, f2 :: gr) := by rw [← sx9]; exact GOs.nx go9
            refine lv_aload_n hx hb dX5_goOnWorking_50 rfl (lv_at hl 0 rfl) ?_
            refine lv_aload_n hx hb dX5_goOnWorking_51 rfl (lv_at hl 1 rfl) ?_
            have pq210 : (V208 5 6).toInt = ((V185 5 6)).toInt := congrArg Int32.toInt (up2_o hV208 (by decide))
            have pq211 : (V208 67 gf).toInt = ((V185 67 gf)).toInt := congrArg Int32.toInt (up2_o hV208 (by decide))
            have pq212 : (V208 68 gf).toInt = 0 := (congrArg Int32.toInt (up2_s hV208)).trans (by decide)
            have me213 : ME V185 V208 gf := (ME.up ME.rf hV208 (Or.inl ⟨by decide, by decide, Nat.le_refl _⟩))
            have pq214 : (V208 70 gf).toInt = ((V185 70 gf)).toInt := congrArg Int32.toInt (up2_o hV208 (by decide))
            have pq215 : (V208 71 gf).toInt = ((V185 71 gf)).toInt := congrArg Int32.toInt (up2_o hV208 (by decide))
            have pq216 : (V208 75 gf).toInt = ((V185 75 gf)).toInt := congrArg Int32.toInt (up2_o hV208 (by decide))
            have pq217 : (V208 76 gf).toInt = ((V185 76 gf)).toInt := congrArg Int32.toInt (up2_o hV208 (by decide))
            have pq218 : (V208 80 gf).toInt = ((V185 80 gf)).toInt := congrArg Int32.toInt (up2_o hV208 (by decide))
            have pq219 : (V208 84 gf).toInt = ((V185 84 gf)).toInt := congrArg Int32.toInt (up2_o hV208 (by decide))
            have pq220 : (V208 5 8).toInt = ((V 5 8)).toInt := congrArg Int32.toInt ((up2_o hV208 (by decide)).trans (ajV185 5 8 rfl))
            have pq221 : (V208 5 9).toInt = ((V185 5 9)).toInt := congrArg Int32.toInt (up2_o hV208 (by decide))
            have pq222 : (V208 3 13).toInt = ((V 3 13)).toInt := congrArg Int32.toInt ((up2_o hV208 (by decide)).trans (ajV185 3 13 rfl))
            have pq223 : (V208 43 (5 * b + 2)).toInt = ((V 43 (5 * b + 2))).toInt := congrArg Int32.toInt ((up2_o hV208 (by decide)).trans (ajV185 43 (5 * b + 2) rfl))
            have pq224 : (V208 42 b).toInt = ((V 42 b)).toInt := congrArg Int32.toInt ((up2_o hV208 (by decide)).trans (ajV185 42 b rfl))
            have pq225 : (V208 41 b).toInt = ((V 41 b)).toInt := congrArg Int32.toInt ((up2_o hV208 (by decide)).trans (ajV185 41 b rfl))
            have ep228 : V208 84 gf = (V185 84 gf) := (up2_o hV208 (by decide))
            have af227 : (V208 42 b).toInt ≤ (V208 84 gf).toInt ∨ (bdp V208 b (V208 84 gf).toInt.toNat).1 = true := by rw [ep228, me213.1.bd, me213.1 42 b (by decide) (by decide)]; exact ft
            have mo226 : MO V208 Z b gf True True True := MO.ch mo197 me213 (up2_o hV208 (by decide)) (up2_o hV208 (by decide)) (fun _ => Or.inl (by (first | exact om_44d4c4f9f7ef hpk | omega))) (fun x h => FK.k4 (by first | exact om_aa3d8c2f563d hpk pq211 | first | omega | ((try (have i_t191 := Imp.go t191 (by omega))); omega)) (by first | exact om_55df0db36d78 r198 pq205 fc pq215 pq223 | first | omega | ((try (have i_t191 := Imp.go t191 (by omega))); omega)) (by first | exact om_a90b064d0ba2 ra2 pq204 fo pq214 pq222 | first | omega | ((try (have i_t191 := Imp.go t191 (by omega))); omega)) af227 (by first | exact om_21b02c2ae35f pq212 | first | omega | ((try (have i_t191 := Imp.go t191 (by omega))); omega)) (fun hph => absurd hph (by (first | exact om_99bd92af3810 pq212 hph | omega))))
            have bc229 : BKc V208 b gB := BKc.b4 bc (agr.b4 (show agr [(3, 15), (5, 6), (5, 7), (5, 9)] [30, 31, 32, 39, 67, 68, 69, 70, 71, 72, 73, 74, 75, 76, 77, 78, 79, 80, 81, 82, 83, 84, 85] V V208 from (agr.up (agr.tr agr.rf ajV185 (by decide) (by decide)) hV208 rfl)) (by decide))
            refine W.know (fun k231 k232 => ?_)
            obtain ⟨Hk230, hHk230⟩ : ∃ z, z = H := ⟨_, rfl⟩
            have k231 : Hk230.size ≤ s.heap.size + (zcc Z - zcc Z) := by rw [hHk230]; exact k231
            have k232 : tot Hk230 ≤ tot s.heap + (zss Z - zss Z) := by rw [hHk230]; exact k232
            refine gZ_void (gA_runV (As := [.ref (Z.fa gf)]) (rest := []) (ci := 5) (q0 := 5) hx hb hml hown hg hP hD hK hS hA hnw hgk (x_work9 l D ks H.size ad kk V208 L Z (b) (gf) (gB) (gm) (ga) (f2) (gr) hMV208 (show b < 2 from by first | exact om_289974d36c9f hb2 mup | first | omega | ((try (have i_t191 := Imp.go t191 (by omega))); omega)) (show gf < Z.nf from by first | exact om_39a2747553fe hgf gd kdp rd rd2 hpk pq210 | first | omega | ((try (have i_t191 := Imp.go t191 (by omega))); omega)) mo226 (show (gf : Int) + 1 = (V208 5 6).toInt from by first | exact om_774be6a865fd gd kdp rd rd2 hpk pq210 | first | omega | ((try (have i_t191 := Imp.go t191 (by omega))); omega)) (show (V208 67 gf).toInt = 4 from by first | exact om_aa3d8c2f563d hpk pq211 | first | omega | ((try (have i_t191 := Imp.go t191 (by omega))); omega)) (show (V208 68 gf).toInt = 0 from by first | exact om_b66ba74381d5 pq212 | first | omega | ((try (have i_t191 := Imp.go t191 (by omega))); omega)) rwx9 bc229 gox9) w1474 w1476 w74 w171 w1477 rfl xgMachine hdV_yX5_work ⟨Nat.le_of_ble_eq_true rfl, Nat.le_of_ble_eq_true rfl⟩ rfl hl.1 rfl (Nat.le_of_ble_eq_true rfl) dX5_goOnWorking_52 ⟨z1 zoZ.1, z1 zoZ.2.1⟩) hD hS hA (fun u234 H locs w235 hP hD hK hS y236 y237 => ?_)
            obtain ⟨V238, L239, Z240⟩ := u234
            obtain ⟨hMV238, ajV238, axL239, zlZ240, t242, t243⟩ := w235
            have axL239 : L = L239 := Eq.symm axL239
            subst axL239
            replace hP : va_P D vwCl (xw ad kk V238 L Z240) H := hP
            replace hD : va_D A (xw ad kk V238 L Z240) := hD
            replace hK : va_K D vwCl (xty kk Z240) s := hK
            replace hMV238 : rgd bX V238 := hMV238
            replace ajV238 : agr [(5, 6), (5, 7), (5, 9), (5, 10), (5, 11), (5, 12), (5, 13), (5, 14)] [39, 67, 68, 69, 70, 71, 72, 73, 74, 75, 76, 77, 78, 79, 80, 81, 82, 83, 84, 85] V208 V238 := ajV238
            have agV238 : agr [(3, 15), (5, 6), (5, 7), (5, 9), (5, 10), (5, 11), (5, 12), (5, 13), (5, 14)] [30, 31, 32, 39, 67, 68, 69, 70, 71, 72, 73, 74, 75, 76, 77, 78, 79, 80, 81, 82, 83, 84, 85] V V238 := agV208.tr ajV238 (by decide) (by decide)
            replace zlZ240 : ZL Z Z240 := zlZ240
            have zoZ240 : ZL Z Z240 := ZL.tr zoZ zlZ240
            have ziZ240 := zlZ240.1
            have zjZ240 := zlZ240.2.1
            have zkZ240 := zlZ240.2.2.1
            have zmZ240 := zoZ240.1
            have znZ240 := zoZ240.2.1
            have zpZ_Z240 := zoZ.1
            have zqZ_Z240 := zoZ.2.1
            have y236 : H.size ≤ Hk230.size + (zcc Z - zcc Z240) := by rw [hHk230]; exact y236
            have y237 : tot H ≤ tot Hk230 + (zss Z - zss Z240) := by rw [hHk230]; exact y237
            refine W.tight (k := zcc Z - zcc Z240) (n := zss Z - zss Z240) (by first | exact tg9 y236 k231 zlZ240.1 zoZ.1 | omega) (by first | exact tg9 y237 k232 zlZ240.2.1 zoZ.2.1 | omega) ?_
            have hl : lv_has ls 2 [(0, .ref (ad 5)), (1, .ref (Z240.fa gf))] := by rw [zlZ240.2.2.2.2 gf hgf]; exact hl
            replace t242 : MJ V238 Z240 b := t242
            replace t243 : ∃ n, 1 ≤ n ∧ RW V238 gB (rnM gB n (gm, ga, f2 :: gr)) := t243
            refine W.know (fun kr1 kr2 => ?_)
            refine W.widen (k := zcc Z) (n := zss Z) (Nat.sub_le _ _) (Nat.sub_le _ _) ?_
            exact W.vret hx hb hr (fun t ht hW => ⟨⟨(V238, L, Z240), rfl, ⟨hMV238, agV238, rfl, zoZ240, t242, (by obtain ⟨n9, h1, h2⟩ := t243; exact ⟨1 + n9, by omega, by rw [rnM_add]; show RW _ gB (rnM gB n9 (stM gB (gm, ga, gfr :: gr))); rw [sx9]; exact h2⟩)⟩, ⟨by rw [ht]; exact hP, va_K.moved hW.alike hK, hD⟩, by rw [ht]; exact kr1, by rw [ht]; exact kr2⟩, hS.F ht⟩) hS.2.2 dX5_goOnWorking_55
          · skip
            have f244 : z180.toInt = 0 := b_eq rfl (by decide) c195
            refine W.know (fun kr1 kr2 => ?_)
            refine W.widen (k := zcc Z) (n := zss Z) (Nat.sub_le _ _) (Nat.sub_le _ _) ?_
            exact W.vret hx hb hr (fun t ht hW => ⟨⟨(V185, L, Z187), rfl, ⟨hMV185, agV185, rfl, zoZ187, (Imp.go t190 (by (first | exact om_b66ba74381d5 f244 | omega))), ⟨1, Nat.le_refl _, (t193.resolve_left (fun h9 => by have h8 := h9.1; (first | exact om_65da98921d09 f244 h9 | omega))).2⟩⟩, ⟨by rw [ht]; exact hP, va_K.moved hW.alike hK, hD⟩, by rw [ht]; exact kr1, by rw [ht]; exact kr2⟩, hS.F ht⟩) hS.2.2 dX5_goOnWorking_44
        · skip
          have f245 : ((V 5 9)).toInt ≠ 1 := b_neq rfl (by decide) c175
          refine lv_aload_n hx hb dX5_goOnWorking_30 rfl (lv_at hl 0 rfl) ?_
          refine lv_aload_n hx hb dX5_goOnWorking_31 rfl (lv_at hl 1 rfl) ?_
          have me246 : ME V V gf := ME.rf
          have af248 : (V 42 b).toInt ≤ (V 84 gf).toInt ∨ (bdp V b (V 84 gf).toInt.toNat).1 = true := by rw [me246.1.bd, me246.1 42 b (by decide) (by decide)]; exact ft
          have mo247 : MO V Z b gf True False True := MO.ch mo me246 rfl rfl (fun _ => Or.inl (by (first | exact om_85c82c20915f gk | omega))) (fun x h => FK.k4 (by (first | exact om_c88e7ce0b8a2 gk | omega)) (by (first | exact om_6076713cabb8 r2 fc | omega)) (by (first | exact om_033210b74f87 fo ra2 | omega)) af248 (by (first | exact om_06c7973e0104 r3 fq hbs9 k68 q75 f171 f174 f245 af248 | omega)) (fun _ z => z.elim))
          refine gA_void (gA_runV (As := [.ref (Z.fa gf)]) (rest := []) (ci := 5) (q0 := 5) hx hb hml hown hg hP hD hK hS hA hnw hgk (x_endWork9 l D ks H.size ad kk V L Z (b) (gf) hMV (show b < 2 from by (first | exact om_289974d36c9f hb2 mup | omega)) (show gf < Z.nf from by (first | exact om_725d0642dd96 hgf gd kdp rd rd2 | omega)) mo247 (show (gf : Int) + 1 = (V 5 6).toInt from by (first | exact om_d5747674bc98 gd | omega)) (show (V 67 gf).toInt = 4 from by (first | exact om_c88e7ce0b8a2 gk | omega))) w1458 w1460 w70 w171 w1461 rfl xgMachine hdV_yX5_endWork ⟨Nat.le_of_ble_eq_true rfl, Nat.le_of_ble_eq_true rfl⟩ rfl hl.1 rfl (Nat.le_of_ble_eq_true rfl) dX5_goOnWorking_32 ⟨z0, z0⟩) hP hD hK hS hA (fun u250 H locs w251 hP hD hK hS => ?_)
          obtain ⟨V254, L255⟩ := u250
          obtain ⟨hMV254, ajV254, axL255, t252, t253⟩ := w251
          have axL255 : L = L255 := Eq.symm axL255
          subst axL255
          replace hP : va_P D vwCl (xw ad kk V254 L Z) H := hP
          replace hD : va_D A (xw ad kk V254 L Z) := hD
          replace hMV254 : rgd bX V254 := hMV254
          replace ajV254 : agr [(5, 6), (5, 7)] [] V V254 := ajV254
          have agV254 : agr [(3, 15), (5, 6), (5, 7), (5, 9), (5, 10), (5, 11), (5, 12), (5, 13), (5, 14)] [30, 31, 32, 39, 67, 68, 69, 70, 71, 72, 73, 74, 75, 76, 77, 78, 79, 80, 81, 82, 83, 84, 85] V V254 := agV.tr ajV254 (by decide) (by decide)
          replace t252 : MJ V254 Z b := t252
          replace t253 : ((True) ∧ V254 = (up2 (up2 V 5 7 (V 85 gf)) 5 6 (V 5 6 - 1))) := t253
          have hw256 := t253.2
          obtain ⟨V257, hV257⟩ : ∃ z, z = up2 V 5 7 (V 85 gf) := ⟨_, rfl⟩
          obtain ⟨z258, ez258⟩ : ∃ y : Int32, y = V 5 6 - 1 := ⟨_, rfl⟩
          have hz258 : z258.toInt = (V 5 6).toInt - 1 := i_sub ez258 rfl (by decide) (by (first | exact om_62296f3213ed gd r1 kdp rd rd2 sl9 | omega))
          have hV254 : V254 = up2 V257 5 6 z258 := by rw [hw256, hV257, ez258]
          have me259 : ME V V254 gf := (ME.up (ME.up ME.rf hV257 (Or.inr (by (first | exact om_8193a90fcd76  | omega)))) hV254 (Or.inr (by (first | exact om_f481bd0f1cda  | omega))))
          have rl260 : RWl V254 gB gr t0 := RWl.mv hlr (fun i9 hi9 c9 h1 h2 => me259.2.1 c9 i9 h1 h2 (by (first | exact om_997eaf2cf217 gd kdp rd rd2 hz258 hi9 | omega))) (fun j9 hj9 => ((up2_o hV254 (by decide)).trans (up2_o hV257 (by decide)))) (by rw [((up2_o hV254 (by decide)).trans (up2_o hV257 (by decide)))]; exact Int.le_refl _) ((up2_o hV254 (by decide)).trans (up2_o hV257 (by decide)))
          have pq261 : (V254 5 6).toInt = z258.toInt := congrArg Int32.toInt (up2_s hV254)
          have pq262 : (V254 5 7).toInt = ((V 85 gf)).toInt := congrArg Int32.toInt ((up2_k hV254 (by decide)).trans (up2_s hV257))
          have pq263 : (V254 5 9).toInt = ((V 5 9)).toInt := congrArg Int32.toInt ((up2_k hV254 (by decide)).trans (up2_k hV257 (by decide)))
          have pq264 : (V254 5 11).toInt = ((V 5 11)).toInt := congrArg Int32.toInt ((up2_k hV254 (by decide)).trans (up2_k hV257 (by decide)))
          have pq265 : (V254 5 12).toInt = ((V 5 12)).toInt := congrArg Int32.toInt ((up2_k hV254 (by decide)).trans (up2_k hV257 (by decide)))
          have tp9 : (V254 5 7).toInt = ((t0 : Nat) : Int) := by rw [((up2_k hV254 (by decide)).trans (up2_s hV257))]; exact hb8
          have rz9 : RW V254 gB (gm, ga, gr) := RW.id rwq (ESw.ag (show agr [(5, 6), (5, 7)] [] V V254 from (agr.up (agr.up agr.rf hV257 rfl) hV254 rfl)) (by decide)) ((up2_k hV254 (by decide)).trans (up2_k hV257 (by decide))) ((up2_k hV254 (by decide)).trans (up2_k hV257 (by decide))) ((up2_k hV254 (by decide)).trans (up2_k hV257 (by decide))) ((up2_k hV254 (by decide)).trans (up2_k hV257 (by decide))) (show (V254 5 6).toInt = ((gr.length : Nat) : Int) from by (first | exact om_7b55b3cd7065 kdp rd rd2 hz258 pq261 | omega)) tp9 rl260
          have rx266 : RW V254 gB (stM gB (gm, ga, gfr :: gr)) := by rw [hfe, st_15n (by rw [← rh1]; (first | exact om_7e782b1958aa rh1 f245 af248 pq263 | omega))]; exact rz9
          refine W.know (fun kr1 kr2 => ?_)
          refine W.widen (k := zcc Z) (n := zss Z) (Nat.sub_le _ _) (Nat.sub_le _ _) ?_
          exact W.vret hx hb hr (fun t ht hW => ⟨⟨(V254, L, Z), rfl, ⟨hMV254, agV254, rfl, zoZ, t252, ⟨1, Nat.le_refl _, rx266⟩⟩, ⟨by rw [ht]; exact hP, va_K.moved hW.alike hK, hD⟩, by rw [ht]; exact kr1, by rw [ht]; exact kr2⟩, hS.F ht⟩) hS.2.2 dX5_goOnWorking_35
    · skip
      have f267 : ((V 68 gf)).toInt = 6 := b_eq rfl (by decide) c170
      exfalso; (first | exact om_4b948b729b68 k68 f267 | omega)
  · skip
    have hf : FRc V gB gf (Fsum lv o c sc at9 nd tg it v g u p) := by rw [← hfe]; exact hf0
    have tl8 : tw9 = t0 + (Fsum lv o c sc at9 nd tg it v g u p : Fr).2.2.2.length := by rw [← hfe]; exact tl9
    obtain ⟨⟨k67, k68⟩, hoc, ⟨a0, q84⟩, q75, q77, q76, q74, q78, q79⟩ := hf
    have tl7 : tw9 = t0 + p.length := tl8
    have hb8 : (V 85 gf).toInt = (t0 : Int) := hbs9 (by rw [hfe]; exact (by decide : (12 : Nat) ≤ 16)) (by rw [hfe]; exact (by decide : (16 : Nat) ≤ 16))
    refine lv_aload_n hx hb dX5_goOnWorking_0 rfl (lv_at hl 1 rfl) ?_
    refine va_getN (D := D) (ci := 4) (v := .int (V 68 gf)) (fs := (xfFrame V gf)) (C := RX4) (T := TX4) (N := 19) hx hb hg inX4 hown hK hP (336 + gf) (xgFrame hgf) rfl 1 (by decide) (hnw.use 1190 n1190 rfl) (fun _ h9 => h9) rfl dX5_goOnWorking_1 ?_
    refine lv_bipush (v := 6) hx hb dX5_goOnWorking_4 (by decide) ?_
    refine lv_icmp_ne (tgt := 15) hx hb dX5_goOnWorking_6 (by decide) (fun c268 => ?_) (fun c268 => ?_)
    · skip
      have f269 : ((V 68 gf)).toInt ≠ 6 := b_neq rfl (by decide) c268
      refine lv_aload_n hx hb dX5_goOnWorking_15 rfl (lv_at hl 1 rfl) ?_
      refine va_getN (D := D) (ci := 4) (v := .int (V 68 gf)) (fs := (xfFrame V gf)) (C := RX4) (T := TX4) (N := 19) hx hb hg inX4 hown hK hP (336 + gf) (xgFrame hgf) rfl 1 (by decide) (hnw.use 1190 n1190 rfl) (fun _ h9 => h9) rfl dX5_goOnWorking_16 ?_
      refine lv_if_eq (tgt := 45) hx hb dX5_goOnWorking_19 (by decide) (fun c270 => ?_) (fun c270 => ?_)
      · skip
        have f271 : ((V 68 gf)).toInt = 0 := b_eq rfl (by decide) c270
        exfalso; (first | exact om_32d002c9850f k68 f271 | omega)
      · skip
        have f272 : ((V 68 gf)).toInt ≠ 0 := b_neq rfl (by decide) c270
        refine lv_aload_n hx hb dX5_goOnWorking_22 rfl (lv_at hl 0 rfl) ?_
        refine va_get (D := D) (ci := 5) (v := .int (V 5 9)) (fs := (xfMachine ad V L Z)) (C := RX5) (T := TX5) (N := 15) hx hb hg inX5 hown hK hP 5 xgMachine rfl 9 (by decide) (hg _ w676) (fun _ h9 => h9) rfl dX5_goOnWorking_23 ?_
        refine lv_iconst (v := 1) hx hb dX5_goOnWorking_26 (by decide) ?_
        refine lv_icmp_eq (tgt := 36) hx hb dX5_goOnWorking_27 (by decide) (fun c273 => ?_) (fun c273 => ?_)
        · skip
          have f274 : ((V 5 9)).toInt = 1 := b_eq rfl (by decide) c273
          have mot : MO V Z b gf True (¬ NN V b) True := MO.w mo (fun _ => trivial) (fun z => ⟨by (first | exact om_653e4e2dce96 rh1 f274 | omega), z⟩) (fun _ => Or.inl (by (first | exact om_85c82c20915f gk | omega)))
          refine lv_aload_n hx hb dX5_goOnWorking_36 rfl (lv_at hl 0 rfl) ?_
          refine lv_aload_n hx hb dX5_goOnWorking_37 rfl (lv_at hl 1 rfl) ?_
          refine W.know (fun k276 k277 => ?_)
          obtain ⟨Hk275, hHk275⟩ : ∃ z, z = H := ⟨_, rfl⟩
          have k276 : Hk275.size ≤ s.heap.size + (zcc Z - zcc Z) := by rw [hHk275]; exact k276
          have k277 : tot Hk275 ≤ tot s.heap + (zss Z - zss Z) := by rw [hHk275]; exact k277
          refine gZ_int (gA_runV (As := [.ref (Z.fa gf)]) (rest := []) (ci := 5) (q0 := 5) hx hb hml hown hg hP hD hK hS hA hnw hgk (x_takesAnswer9 l D ks H.size ad kk V L Z (b) (gf) (gB) (gm) (ga) (gfr) (gr) hMV (show b < 2 from by (first | exact om_289974d36c9f hb2 mup | omega)) (show gf < Z.nf from by (first | exact om_725d0642dd96 hgf gd kdp rd rd2 | omega)) mot (show (gf : Int) + 1 = (V 5 6).toInt from by (first | exact om_d5747674bc98 gd | omega)) (show (V 67 gf).toInt = 4 from by (first | exact om_c88e7ce0b8a2 gk | omega)) (show (V 68 gf).toInt ≠ 0 ∧ (V 68 gf).toInt ≠ 6 from by (first | exact om_807ee5880c1f k68 | omega)) rwq bc sf go9 (show (V 5 9).toInt = 1 from by (first | exact om_653e4e2dce96 rh1 f274 | omega))) w1462 w1464 w71 w171 w1465 rfl xgMachine hdV_yX5_takesAnswer ⟨Nat.le_of_ble_eq_true rfl, Nat.le_of_ble_eq_true rfl⟩ rfl hl.1 rfl (Nat.le_of_ble_eq_true rfl) dX5_goOnWorking_38 ⟨z1 zoZ.1, z1 zoZ.2.1⟩) hD hS hA (fun z278 u279 H locs w280 hP hD hK hS y281 y282 => ?_)
          obtain ⟨V283, L284, Z285⟩ := u279
          obtain ⟨hMV283, ajV283, axL284, zlZ285, rgz278, t287, t288, t289, t290, t291⟩ := w280
          have axL284 : L = L284 := Eq.symm axL284
          subst axL284
          replace hP : va_P D vwCl (xw ad kk V283 L Z285) H := hP
          replace hD : va_D A (xw ad kk V283 L Z285) := hD
          replace hK : va_K D vwCl (xty kk Z285) s := hK
          replace hMV283 : rgd bX V283 := hMV283
          replace ajV283 : agr [(3, 15), (5, 6), (5, 7), (5, 9)] [30, 31, 32, 39, 67, 68, 69, 70, 71, 72, 73, 74, 75, 76, 77, 78, 79, 80, 81, 82, 83, 84, 85] V V283 := ajV283
          have agV283 : agr [(3, 15), (5, 6), (5, 7), (5, 9), (5, 10), (5, 11), (5, 12), (5, 13), (5, 14)] [30, 31, 32, 39, 67, 68, 69, 70, 71, 72, 73, 74, 75, 76, 77, 78, 79, 80, 81, 82, 83, 84, 85] V V283 := agV.tr ajV283 (by decide) (by decide)
          replace zlZ285 : ZL Z Z285 := zlZ285
          have zoZ285 : ZL Z Z285 := ZL.tr zoZ zlZ285
          have ziZ285 := zlZ285.1
          have zjZ285 := zlZ285.2.1
          have zkZ285 := zlZ285.2.2.1
          have zmZ285 := zoZ285.1
          have znZ285 := zoZ285.2.1
          have zpZ_Z285 := zoZ.1
          have zqZ_Z285 := zoZ.2.1
          have y281 : H.size ≤ Hk275.size + (zcc Z - zcc Z285) := by rw [hHk275]; exact y281
          have y282 : tot H ≤ tot Hk275 + (zss Z - zss Z285) := by rw [hHk275]; exact y282
          refine W.tight (k := zcc Z - zcc Z285) (n := zss Z - zss Z285) (by first | exact tg9 y281 k276 zlZ285.1 zoZ.1 | omega) (by first | exact tg9 y282 k277 zlZ285.2.1 zoZ.2.1 | omega) ?_
          have hl : lv_has ls 2 [(0, .ref (ad 5)), (1, .ref (Z285.fa gf))] := by rw [zlZ285.2.2.2.2 gf hgf]; exact hl
          replace rgz278 : 0 ≤ z278.toInt ∧ z278.toInt ≤ 1 := rgz278
          replace t287 : Imp (z278.toInt = 1) (MO V283 Z285 b gf True True True) := t287
          replace t288 : Imp (z278.toInt = 0) (MJ V283 Z285 b) := t288
          replace t289 : Imp (z278.toInt = 1) ((V283 5 6).toInt = (V 5 6).toInt ∧ (V283 67 gf).toInt = 4) := t289
          replace t290 : Imp (z278.toInt = 1) (Z285 = Z) := t290
          replace t291 : (z278.toInt = 1 ∧ ∃ fz8, stM gB (gm, ga, gfr :: gr) = (gm, ga, fz8 :: gr) ∧ RW (up2 V283 68 gf 0) gB (gm, ga, fz8 :: gr)) ∨ (z278.toInt = 0 ∧ RW V283 gB (stM gB (gm, ga, gfr :: gr))) := t291
          have r292 : 0 ≤ ((V283 5 6)).toInt ∧ ((V283 5 6)).toInt ≤ 400 := hMV283 5 6
          refine lv_if_ne (tgt := 45) hx hb dX5_goOnWorking_41 (by decide) (fun c293 => ?_) (fun c293 => ?_)
          · skip
            have f294 : z278.toInt ≠ 0 := b_neq rfl (by decide) c293
            have hr1 : z278.toInt = 1 := by (first | exact om_c7d7c2afe6e6 rgz278 f294 | omega)
            have ezz : Z285 = Z := Imp.go t290 hr1
            have hP : va_P D vwCl (xw ad kk V283 L Z) H := by rw [← ezz]; exact hP
            have hD : va_D A (xw ad kk V283 L Z) := by rw [← ezz]; exact hD
            have hK : va_K D vwCl (xty kk Z) s := by rw [← ezz]; exact hK
            have hl : lv_has ls 2 [(0, .ref (ad 5)), (1, .ref (Z.fa gf))] := by rw [← ezz]; exact hl
            rw [ezz]
            have mo295 : MO V283 Z b gf True True True := by rw [← ezz]; exact Imp.go t287 hr1
            have hpk := Imp.go t289 hr1
            have mup := MO.up mo295
            have msz := mup.1
            have mbk := mup.2.2.2.1
            obtain ⟨xk, fk⟩ := MO.fk mo295
            have r296 : (-1) ≤ ((V283 71 gf)).toInt ∧ ((V283 71 gf)).toInt ≤ 23 := hMV283 71 gf
            have r297 : 0 ≤ ((V283 75 gf)).toInt ∧ ((V283 75 gf)).toInt ≤ 12 := hMV283 75 gf
            have r298 : 0 ≤ ((V283 80 gf)).toInt ∧ ((V283 80 gf)).toInt ≤ 300 := hMV283 80 gf
            have r299 : 0 ≤ ((V283 84 gf)).toInt ∧ ((V283 84 gf)).toInt ≤ 2147483647 := hMV283 84 gf
            have pq300 : (V283 5 8).toInt = ((V 5 8)).toInt := congrArg Int32.toInt (ajV283 5 8 rfl)
            have r301 : 0 ≤ ((V283 5 9)).toInt ∧ ((V283 5 9)).toInt ≤ 3 := hMV283 5 9
            have pq302 : (V283 3 13).toInt = ((V 3 13)).toInt := congrArg Int32.toInt (ajV283 3 13 rfl)
            have pq303 : (V283 43 (5 * b + 2)).toInt = ((V 43 (5 * b + 2))).toInt := congrArg Int32.toInt (ajV283 43 (5 * b + 2) rfl)
            have pq304 : (V283 41 b).toInt = ((V 41 b)).toInt := congrArg Int32.toInt (ajV283 41 b rfl)
            have pq305 : (V283 42 b).toInt = ((V 42 b)).toInt := congrArg Int32.toInt (ajV283 42 b rfl)
            have fc := fk.1 (by (first | exact om_44d4c4f9f7ef hpk | omega))
            have fo := fk.2.1 (by (first | exact om_44d4c4f9f7ef hpk | omega)) (by (first | exact om_2ced1a512586 hpk | omega))
            have ft := fk.2.2.1 (by (first | exact om_860d07f16e45 hpk | omega))
            have fq := fk.2.2.2.1 (by (first | exact om_860d07f16e45 hpk | omega))
            refine lv_aload_n hx hb dX5_goOnWorking_45 rfl (lv_at hl 1 rfl) ?_
            refine lv_iconst (v := 0) hx hb dX5_goOnWorking_46 (by decide) ?_
            refine va_putN (D := D) (ci := 4) (v := .int 0) (ty := tyX4 1) (fs := (xfFrame V283 gf)) (C := RX4) (T := TX4) (N := 19) hx hb hg inX4 tyX4 tyX4_ok nmX4 hown hK hP hD hS (336 + gf) (xgFrame hgf) rfl 1 (by decide) (hnw.use 1190 n1190 rfl) (fun _ h9 => h9) rfl (tyX4_ok 1 (by decide)) rfl rfl (Nat.le_of_ble_eq_true rfl) dX5_goOnWorking_47 (fun H locs hP hD hS => ?_)
            obtain ⟨V306, hV306⟩ : ∃ z, z = up2 V283 68 gf 0 := ⟨_, rfl⟩
            have ew307 : (xw ad kk V283 L Z).set (336 + gf) ((Z.fa gf), .inr (4, (xfFrame V283 gf).set 1 (.int 0))) = xw ad kk V306 L Z := by rw [hV306]; exact xpFrame_phase hgf
            have hP : va_P D vwCl (xw ad kk V306 L Z) H := by rw [← ew307]; exact hP
            have hD : va_D A (xw ad kk V306 L Z) := by rw [← ew307]; exact hD
            have hMV306 : rgd bX V306 := hMV283.put hV306 (i_full _)
            have agV306 : agr [(3, 15), (5, 6), (5, 7), (5, 9), (5, 10), (5, 11), (5, 12), (5, 13), (5, 14)] [30, 31, 32, 39, 67, 68, 69, 70, 71, 72, 73, 74, 75, 76, 77, 78, 79, 80, 81, 82, 83, 84, 85] V V306 := agV283.up hV306 rfl
            obtain ⟨f2, sx9, ru9⟩ := (t291.resolve_right (fun h9 => by have h8 := h9.1; (first | exact om_0cbcd509a04c hr1 h9 | omega))).2
            have rwx9 : RW V306 gB (gm, ga, f2 :: gr) := by rw [hV306]; exact ru9
            have gox9 : GOs gB (gm, ga, f2 :: gr) := by rw [← sx9]; exact GOs.nx go9
            refine lv_aload_n hx hb dX5_goOnWorking_50 rfl (lv_at hl 0 rfl) ?_
            refine lv_aload_n hx hb dX5_goOnWorking_51 rfl (lv_at hl 1 rfl) ?_
            have pq308 : (V306 5 6).toInt = ((V283 5 6)).toInt := congrArg Int32.toInt (up2_o hV306 (by decide))
            have pq309 : (V306 67 gf).toInt = ((V283 67 gf)).toInt := congrArg Int32.toInt (up2_o hV306 (by decide))
            have pq310 : (V306 68 gf).toInt = 0 := (congrArg Int32.toInt (up2_s hV306)).trans (by decide)
            have me311 : ME V283 V306 gf := (ME.up ME.rf hV306 (Or.inl ⟨by decide, by decide, Nat.le_refl _⟩))
            have pq312 : (V306 70 gf).toInt = ((V283 70 gf)).toInt := congrArg Int32.toInt (up2_o hV306 (by decide))
            have pq313 : (V306 71 gf).toInt = ((V283 71 gf)).toInt := congrArg Int32.toInt (up2_o hV306 (by decide))
            have pq314 : (V306 75 gf).toInt = ((V283 75 gf)).toInt := congrArg Int32.toInt (up2_o hV306 (by decide))
            have pq315 : (V306 76 gf).toInt = ((V283 76 gf)).toInt := congrArg Int32.toInt (up2_o hV306 (by decide))
            have pq316 : (V306 80 gf).toInt = ((V283 80 gf)).toInt := congrArg Int32.toInt (up2_o hV306 (by decide))
            have pq317 : (V306 84 gf).toInt = ((V283 84 gf)).toInt := congrArg Int32.toInt (up2_o hV306 (by decide))
            have pq318 : (V306 5 8).toInt = ((V 5 8)).toInt := congrArg Int32.toInt ((up2_o hV306 (by decide)).trans (ajV283 5 8 rfl))
            have pq319 : (V306 5 9).toInt = ((V283 5 9)).toInt := congrArg Int32.toInt (up2_o hV306 (by decide))
            have pq320 : (V306 3 13).toInt = ((V 3 13)).toInt := congrArg Int32.toInt ((up2_o hV306 (by decide)).trans (ajV283 3 13 rfl))
            have pq321 : (V306 43 (5 * b + 2)).toInt = ((V 43 (5 * b + 2))).toInt := congrArg Int32.toInt ((up2_o hV306 (by decide)).trans (ajV283 43 (5 * b + 2) rfl))
            have pq322 : (V306 42 b).toInt = ((V 42 b)).toInt := congrArg Int32.toInt ((up2_o hV306 (by decide)).trans (ajV283 42 b rfl))
            have pq323 : (V306 41 b).toInt = ((V 41 b)).toInt := congrArg Int32.toInt ((up2_o hV306 (by decide)).trans (ajV283 41 b rfl))
            have ep326 : V306 84 gf = (V283 84 gf) := (up2_o hV306 (by decide))
            have af325 : (V306 42 b).toInt ≤ (V306 84 gf).toInt ∨ (bdp V306 b (V306 84 gf).toInt.toNat).1 = true := by rw [ep326, me311.1.bd, me311.1 42 b (by decide) (by decide)]; exact ft
            have mo324 : MO V306 Z b gf True True True := MO.ch mo295 me311 (up2_o hV306 (by decide)) (up2_o hV306 (by decide)) (fun _ => Or.inl (by (first | exact om_44d4c4f9f7ef hpk | omega))) (fun x h => FK.k4 (by first | exact om_aa3d8c2f563d hpk pq309 | first | omega | ((try (have i_t289 := Imp.go t289 (by omega))); omega)) (by first | exact om_55df0db36d78 r296 pq303 fc pq313 pq321 | first | omega | ((try (have i_t289 := Imp.go t289 (by omega))); omega)) (by first | exact om_a90b064d0ba2 ra2 pq302 fo pq312 pq320 | first | omega | ((try (have i_t289 := Imp.go t289 (by omega))); omega)) af325 (by first | exact om_21b02c2ae35f pq310 | first | omega | ((try (have i_t289 := Imp.go t289 (by omega))); omega)) (fun hph => absurd hph (by (first | exact om_99bd92af3810 pq310 hph | omega))))
            have bc327 : BKc V306 b gB := BKc.b4 bc (agr.b4 (show agr [(3, 15), (5, 6), (5, 7), (5, 9)] [30, 31, 32, 39, 67, 68, 69, 70, 71, 72, 73, 74, 75, 76, 77, 78, 79, 80, 81, 82, 83, 84, 85] V V306 from (agr.up (agr.tr agr.rf ajV283 (by decide) (by decide)) hV306 rfl)) (by decide))
            refine W.know (fun k329 k330 => ?_)
            obtain ⟨Hk328, hHk328⟩ : ∃ z, z = H := ⟨_, rfl⟩
            have k329 : Hk328.size ≤ s.heap.size + (zcc Z - zcc Z) := by rw [hHk328]; exact k329
            have k330 : tot Hk328 ≤ tot s.heap + (zss Z - zss Z) := by rw [hHk328]; exact k330
            refine gZ_void (gA_runV (As := [.ref (Z.fa gf)]) (rest := []) (ci := 5) (q0 := 5) hx hb hml hown hg hP hD hK hS hA hnw hgk (x_work9 l D ks H.size ad kk V306 L Z (b) (gf) (gB) (gm) (ga) (f2) (gr) hMV306 (show b < 2 from by first | exact om_289974d36c9f hb2 mup | first | omega | ((try (have i_t289 := Imp.go t289 (by omega))); omega)) (show gf < Z.nf from by first | exact om_39a2747553fe hgf gd kdp rd rd2 hpk pq308 | first | omega | ((try (have i_t289 := Imp.go t289 (by omega))); omega)) mo324 (show (gf : Int) + 1 = (V306 5 6).toInt from by first | exact om_774be6a865fd gd kdp rd rd2 hpk pq308 | first | omega | ((try (have i_t289 := Imp.go t289 (by omega))); omega)) (show (V306 67 gf).toInt = 4 from by first | exact om_aa3d8c2f563d hpk pq309 | first | omega | ((try (have i_t289 := Imp.go t289 (by omega))); omega)) (show (V306 68 gf).toInt = 0 from by first | exact om_b66ba74381d5 pq310 | first | omega | ((try (have i_t289 := Imp.go t289 (by omega))); omega)) rwx9 bc327 gox9) w1474 w1476 w74 w171 w1477 rfl xgMachine hdV_yX5_work ⟨Nat.le_of_ble_eq_true rfl, Nat.le_of_ble_eq_true rfl⟩ rfl hl.1 rfl (Nat.le_of_ble_eq_true rfl) dX5_goOnWorking_52 ⟨z1 zoZ.1, z1 zoZ.2.1⟩) hD hS hA (fun u332 H locs w333 hP hD hK hS y334 y335 => ?_)
            obtain ⟨V336, L337, Z338⟩ := u332
            obtain ⟨hMV336, ajV336, axL337, zlZ338, t340, t341⟩ := w333
            have axL337 : L = L337 := Eq.symm axL337
            subst axL337
            replace hP : va_P D vwCl (xw ad kk V336 L Z338) H := hP
            replace hD : va_D A (xw ad kk V336 L Z338) := hD
            replace hK : va_K D vwCl (xty kk Z338) s := hK
            replace hMV336 : rgd bX V336 := hMV336
            replace ajV336 : agr [(5, 6), (5, 7), (5, 9), (5, 10), (5, 11), (5, 12), (5, 13), (5, 14)] [39, 67, 68, 69, 70, 71, 72, 73, 74, 75, 76, 77, 78, 79, 80, 81, 82, 83, 84, 85] V306 V336 := ajV336
            have agV336 : agr [(3, 15), (5, 6), (5, 7), (5, 9), (5, 10), (5, 11), (5, 12), (5, 13), (5, 14)] [30, 31, 32, 39, 67, 68, 69, 70, 71, 72, 73, 74, 75, 76, 77, 78, 79, 80, 81, 82, 83, 84, 85] V V336 := agV306.tr ajV336 (by decide) (by decide)
            replace zlZ338 : ZL Z Z338 := zlZ338
            have zoZ338 : ZL Z Z338 := ZL.tr zoZ zlZ338
            have ziZ338 := zlZ338.1
            have zjZ338 := zlZ338.2.1
            have zkZ338 := zlZ338.2.2.1
            have zmZ338 := zoZ338.1
            have znZ338 := zoZ338.2.1
            have zpZ_Z338 := zoZ.1
            have zqZ_Z338 := zoZ.2.1
            have y334 : H.size ≤ Hk328.size + (zcc Z - zcc Z338) := by rw [hHk328]; exact y334
            have y335 : tot H ≤ tot Hk328 + (zss Z - zss Z338) := by rw [hHk328]; exact y335
            refine W.tight (k := zcc Z - zcc Z338) (n := zss Z - zss Z338) (by first | exact tg9 y334 k329 zlZ338.1 zoZ.1 | omega) (by first | exact tg9 y335 k330 zlZ338.2.1 zoZ.2.1 | omega) ?_
            have hl : lv_has ls 2 [(0, .ref (ad 5)), (1, .ref (Z338.fa gf))] := by rw [zlZ338.2.2.2.2 gf hgf]; exact hl
            replace t340 : MJ V336 Z338 b := t340
            replace t341 : ∃ n, 1 ≤ n ∧ RW V336 gB (rnM gB n (gm, ga, f2 :: gr)) := t341
            refine W.know (fun kr1 kr2 => ?_)
            refine W.widen (k := zcc Z) (n := zss Z) (Nat.sub_le _ _) (Nat.sub_le _ _) ?_
            exact W.vret hx hb hr (fun t ht hW => ⟨⟨(V336, L, Z338), rfl, ⟨hMV336, agV336, rfl, zoZ338, t340, (by obtain ⟨n9, h1, h2⟩ := t341; exact ⟨1 + n9, by omega, by rw [rnM_add]; show RW _ gB (rnM gB n9 (stM gB (gm, ga, gfr :: gr))); rw [sx9]; exact h2⟩)⟩, ⟨by rw [ht]; exact hP, va_K.moved hW.alike hK, hD⟩, by rw [ht]; exact kr1, by rw [ht]; exact kr2⟩, hS.F ht⟩) hS.2.2 dX5_goOnWorking_55
          · skip
            have f342 : z278.toInt = 0 := b_eq rfl (by decide) c293
            refine W.know (fun kr1 kr2 => ?_)
            refine W.widen (k := zcc Z) (n := zss Z) (Nat.sub_le _ _) (Nat.sub_le _ _) ?_
            exact W.vret hx hb hr (fun t ht hW => ⟨⟨(V283, L, Z285), rfl, ⟨hMV283, agV283, rfl, zoZ285, (Imp.go t288 (by (first | exact om_b66ba74381d5 f342 | omega))), ⟨1, Nat.le_refl _, (t291.resolve_left (fun h9 => by have h8 := h9.1; (first | exact om_65da98921d09 f342 h9 | omega))).2⟩⟩, ⟨by rw [ht]; exact hP, va_K.moved hW.alike hK, hD⟩, by rw [ht]; exact kr1, by rw [ht]; exact kr2⟩, hS.F ht⟩) hS.2.2 dX5_goOnWorking_44
        · skip
          have f343 : ((V 5 9)).toInt ≠ 1 := b_neq rfl (by decide) c273
          refine lv_aload_n hx hb dX5_goOnWorking_30 rfl (lv_at hl 0 rfl) ?_
          refine lv_aload_n hx hb dX5_goOnWorking_31 rfl (lv_at hl 1 rfl) ?_
          have me344 : ME V V gf := ME.rf
          have af346 : (V 42 b).toInt ≤ (V 84 gf).toInt ∨ (bdp V b (V 84 gf).toInt.toNat).1 = true := by rw [me344.1.bd, me344.1 42 b (by decide) (by decide)]; exact ft
          have mo345 : MO V Z b gf True False True := MO.ch mo me344 rfl rfl (fun _ => Or.inl (by (first | exact om_85c82c20915f gk | omega))) (fun x h => FK.k4 (by (first | exact om_c88e7ce0b8a2 gk | omega)) (by (first | exact om_6076713cabb8 r2 fc | omega)) (by (first | exact om_033210b74f87 fo ra2 | omega)) af346 (by (first | exact om_a098d7eb5fa7 k68 | omega)) (fun _ z => z.elim))
          refine gA_void (gA_runV (As := [.ref (Z.fa gf)]) (rest := []) (ci := 5) (q0 := 5) hx hb hml hown hg hP hD hK hS hA hnw hgk (x_endWork9 l D ks H.size ad kk V L Z (b) (gf) hMV (show b < 2 from by (first | exact om_289974d36c9f hb2 mup | omega)) (show gf < Z.nf from by (first | exact om_725d0642dd96 hgf gd kdp rd rd2 | omega)) mo345 (show (gf : Int) + 1 = (V 5 6).toInt from by (first | exact om_d5747674bc98 gd | omega)) (show (V 67 gf).toInt = 4 from by (first | exact om_c88e7ce0b8a2 gk | omega))) w1458 w1460 w70 w171 w1461 rfl xgMachine hdV_yX5_endWork ⟨Nat.le_of_ble_eq_true rfl, Nat.le_of_ble_eq_true rfl⟩ rfl hl.1 rfl (Nat.le_of_ble_eq_true rfl) dX5_goOnWorking_32 ⟨z0, z0⟩) hP hD hK hS hA (fun u348 H locs w349 hP hD hK hS => ?_)
          obtain ⟨V352, L353⟩ := u348
          obtain ⟨hMV352, ajV352, axL353, t350, t351⟩ := w349
          have axL353 : L = L353 := Eq.symm axL353
          subst axL353
          replace hP : va_P D vwCl (xw ad kk V352 L Z) H := hP
          replace hD : va_D A (xw ad kk V352 L Z) := hD
          replace hMV352 : rgd bX V352 := hMV352
          replace ajV352 : agr [(5, 6), (5, 7)] [] V V352 := ajV352
          have agV352 : agr [(3, 15), (5, 6), (5, 7), (5, 9), (5, 10), (5, 11), (5, 12), (5, 13), (5, 14)] [30, 31, 32, 39, 67, 68, 69, 70, 71, 72, 73, 74, 75, 76, 77, 78, 79, 80, 81, 82, 83, 84, 85] V V352 := agV.tr ajV352 (by decide) (by decide)
          replace t350 : MJ V352 Z b := t350
          replace t351 : ((True) ∧ V352 = (up2 (up2 V 5 7 (V 85 gf)) 5 6 (V 5 6 - 1))) := t351
          have hw354 := t351.2
          obtain ⟨V355, hV355⟩ : ∃ z, z = up2 V 5 7 (V 85 gf) := ⟨_, rfl⟩
          obtain ⟨z356, ez356⟩ : ∃ y : Int32, y = V 5 6 - 1 := ⟨_, rfl⟩
          have hz356 : z356.toInt = (V 5 6).toInt - 1 := i_sub ez356 rfl (by decide) (by (first | exact om_62296f3213ed gd r1 kdp rd rd2 sl9 | omega))
          have hV352 : V352 = up2 V355 5 6 z356 := by rw [hw354, hV355, ez356]
          have me357 : ME V V352 gf := (ME.up (ME.up ME.rf hV355 (Or.inr (by (first | exact om_8193a90fcd76  | omega)))) hV352 (Or.inr (by (first | exact om_f481bd0f1cda  | omega))))
          have rl358 : RWl V352 gB gr t0 := RWl.mv hlr (fun i9 hi9 c9 h1 h2 => me357.2.1 c9 i9 h1 h2 (by (first | exact om_997eaf2cf217 gd kdp rd rd2 hz356 hi9 | omega))) (fun j9 hj9 => ((up2_o hV352 (by decide)).trans (up2_o hV355 (by decide)))) (by rw [((up2_o hV352 (by decide)).trans (up2_o hV355 (by decide)))]; exact Int.le_refl _) ((up2_o hV352 (by decide)).trans (up2_o hV355 (by decide)))
          have pq359 : (V352 5 6).toInt = z356.toInt := congrArg Int32.toInt (up2_s hV352)
          have pq360 : (V352 5 7).toInt = ((V 85 gf)).toInt := congrArg Int32.toInt ((up2_k hV352 (by decide)).trans (up2_s hV355))
          have pq361 : (V352 5 9).toInt = ((V 5 9)).toInt := congrArg Int32.toInt ((up2_k hV352 (by decide)).trans (up2_k hV355 (by decide)))
          have pq362 : (V352 5 11).toInt = ((V 5 11)).toInt := congrArg Int32.toInt ((up2_k hV352 (by decide)).trans (up2_k hV355 (by decide)))
          have pq363 : (V352 5 12).toInt = ((V 5 12)).toInt := congrArg Int32.toInt ((up2_k hV352 (by decide)).trans (up2_k hV355 (by decide)))
          have tp9 : (V352 5 7).toInt = ((t0 : Nat) : Int) := by rw [((up2_k hV352 (by decide)).trans (up2_s hV355))]; exact hb8
          have rz9 : RW V352 gB (gm, ga, gr) := RW.id rwq (ESw.ag (show agr [(5, 6), (5, 7)] [] V V352 from (agr.up (agr.up agr.rf hV355 rfl) hV352 rfl)) (by decide)) ((up2_k hV352 (by decide)).trans (up2_k hV355 (by decide))) ((up2_k hV352 (by decide)).trans (up2_k hV355 (by decide))) ((up2_k hV352 (by decide)).trans (up2_k hV355 (by decide))) ((up2_k hV352 (by decide)).trans (up2_k hV355 (by decide))) (show (V352 5 6).toInt = ((gr.length : Nat) : Int) from by (first | exact om_7b55b3cd7065 kdp rd rd2 hz356 pq359 | omega)) tp9 rl358
          have rx364 : RW V352 gB (stM gB (gm, ga, gfr :: gr)) := by rw [hfe, st_16n (by rw [← rh1]; (first | exact om_7e782b1958aa rh1 f343 af346 pq361 | omega))]; exact rz9
          refine W.know (fun kr1 kr2 => ?_)
          refine W.widen (k := zcc Z) (n := zss Z) (Nat.sub_le _ _) (Nat.sub_le _ _) ?_
          exact W.vret hx hb hr (fun t ht hW => ⟨⟨(V352, L, Z), rfl, ⟨hMV352, agV352, rfl, zoZ, t350, ⟨1, Nat.le_refl _, rx364⟩⟩, ⟨by rw [ht]; exact hP, va_K.moved hW.alike hK, hD⟩, by rw [ht]; exact kr1, by rw [ht]; exact kr2⟩, hS.F ht⟩) hS.2.2 dX5_goOnWorking_35
    · skip
      have f365 : ((V 68 gf)).toInt = 6 := b_eq rfl (by decide) c268
      exfalso; (first | exact om_f8dafe61ed49 k68 f365 | omega)
