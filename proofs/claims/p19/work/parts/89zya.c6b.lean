/-- which failures pass a component by -/
def PAS (y f : Int) : Prop := (y = 1 ∧ (f = 12 ∨ f = 13 ∨ f = 16)) ∨ (y = 0 ∧ f ≠ 12 ∧ f ≠ 13 ∧ f ≠ 16)
theorem PAS.y {y f : Int} (h : PAS y f) (e : y = 1) : f = 12 ∨ f = 13 ∨ f = 16 := by
  rcases h with h | h
  · exact h.2
  · have := h.1
    (first | exact om_5fdc50eee88c e h | omega)
theorem PAS.n {y f : Int} (h : PAS y f) (e : y = 0) : f ≠ 12 ∧ f ≠ 13 ∧ f ≠ 16 := by
  rcases h with h | h
  · have := h.1
    omega
  · exact h.2


abbrev r_x_abandon9 : Room := { frames := 1, cells := 0, slots := 0, locals := 22 }
abbrev q_x_abandon9 (D : va_G) (ks : KS) (ad : Nat → Nat) (kk : Nat → ClassId) (V : Vf) (L : Lf) (Z : XZ) (b : Nat) (gf : Nat) (gB : Bk) (gm : Mm) (ga : Int32) (gfr : Fr) (gr : List Fr) (A : Nat → Prop) : Array Value → State → Outcome → State → Prop := va_Qv (fun (u : Vf × Lf) => rgd bX u.1 ∧ agr [(5, 6)] [24, 25, 28] V u.1 ∧ u.2 = L ∧ (MJ u.1 Z b) ∧ (RW u.1 gB (mAb gB gm (V 70 gf).toInt (V 71 gf).toInt (V 72 gf).toInt, ga, gr))) (fun u t => gq D A (xw ad kk u.1 u.2 Z) (xty kk Z) t) A
set_option maxHeartbeats 4000000 in
set_option maxRecDepth 100000 in
theorem x_abandon9 (l : Launch) (D : va_G) (ks : KS) (sz : Nat) (ad : Nat → Nat) (kk : Nat → ClassId) (V : Vf) (L : Lf) (Z : XZ) (b : Nat) (gf : Nat) (gB : Bk) (gm : Mm) (ga : Int32) (gfr : Fr) (gr : List Fr) (hMV : rgd bX V) (hb2 : b < 2) (hgf : gf < Z.nf) (mo : MO V Z b gf False False False) (gd : (gf : Int) + 1 = (V 5 6).toInt) (gk : (V 67 gf).toInt = 1) (rwq : RW V gB (gm, ga, gfr :: gr)) (bc : BKc V b gB) (sl8 : (V 5 6).toInt ≤ 395) (sg8 : (V 5 9).toInt = 2 ∨ (V 5 9).toInt = 3)  : Met l yX5_abandon (Cond.code yX5_abandon cX5_abandon 4 none :: GW) r_x_abandon9 (va_Pc [.ref (ad 5), .ref (Z.fa gf)] (gp D ks (xw ad kk V L Z) (xty kk Z) sz)) (q_x_abandon9 D ks ad kk V L Z  b gf gB gm ga gfr gr (va_A (xw ad kk V L Z) sz)) 0 0 (va_A (xw ad kk V L Z) sz) := by
  refine g_met (q_x_abandon9 D ks ad kk V L Z  b gf gB gm ga gfr gr) (by decide) (Nat.le_of_ble_eq_true rfl) ?_
  intro p e s m below meth c A ls H locs hx hb hr hml hown hg hlocks hin hnw hgk hP hK hD hS hA hl
  have hown : s.vm.findClass RX5 = some m.cls := hown
  have hl : lv_has ls 4 [(0, .ref (ad 5)), (1, .ref (Z.fa gf))] := hl
  have hP : va_P D vwCl (xw ad kk V L Z) H := hP
  have hD : va_D A (xw ad kk V L Z) := hD
  have hK : va_K D vwCl (xty kk Z) s := hK
  have agV : agr [(5, 6)] [24, 25, 28] V V := agr.rf
  have r1 : 0 ≤ ((V 5 6)).toInt ∧ ((V 5 6)).toInt ≤ 400 := hMV 5 6
  have r2 : 0 ≤ ((V 5 9)).toInt ∧ ((V 5 9)).toInt ≤ 3 := hMV 5 9
  have kdp := i_clamp (x := V 5 6) rfl (by (first | exact om_c66f1b494bd9 gd | omega))
  have hdn : (gf : Int) + 1 ≤ (Z.nf : Int) := by (first | exact om_29efded833ec hgf | omega)
  have mup := MO.up mo
  have msz := mup.1
  have mbk := mup.2.2.2.1
  obtain ⟨xk, fk⟩ := MO.fk mo
  have r3 : (-1) ≤ ((V 71 gf)).toInt ∧ ((V 71 gf)).toInt ≤ 23 := hMV 71 gf
  have r4 : 0 ≤ ((V 75 gf)).toInt ∧ ((V 75 gf)).toInt ≤ 12 := hMV 75 gf
  have r5 : 0 ≤ ((V 80 gf)).toInt ∧ ((V 80 gf)).toInt ≤ 300 := hMV 80 gf
  have r6 : 0 ≤ ((V 84 gf)).toInt ∧ ((V 84 gf)).toInt ≤ 2147483647 := hMV 84 gf
  have r7 : 0 ≤ ((V 5 8)).toInt ∧ ((V 5 8)).toInt ≤ 300 := hMV 5 8
  have r8 : 0 ≤ ((V 3 13)).toInt ∧ ((V 3 13)).toInt ≤ 300 := hMV 3 13
  have r9 : 0 ≤ ((V 43 (5 * b + 2))).toInt ∧ ((V 43 (5 * b + 2))).toInt ≤ ((xcap (5 * b + 2) : Nat) : Int) := hMV 43 (5 * b + 2)
  have r10 : xcap (5 * b + 2) = 24 := xcap_2
  have r11 : 0 ≤ ((V 41 b)).toInt ∧ ((V 41 b)).toInt ≤ 12 := hMV 41 b
  have r12 : 0 ≤ ((V 42 b)).toInt ∧ ((V 42 b)).toInt ≤ 8200 := hMV 42 b
  have fc := fk.1 (by omega)
  have fo := fk.2.1 (by omega) (by omega)
  have fi := fk.2.2.2.2.1 (by omega)
  have sg7 : 2 ≤ (V 5 9).toInt ∧ (V 5 9).toInt ≤ 3 := by omega
  clear sg8
  obtain ⟨cq9, hcq9⟩ : ∃ z, z = c := ⟨_, rfl⟩
  subst hcq9
  have m1 : Int32.toInt (-1) = -1 := by decide
  have rw0 := rwq
  obtain ⟨⟨ow, rn⟩, rh, rd, tw9, rt9, rl⟩ := rw0
  have rn : RWn V ow gB gm := rn
  have rh : RWh V gm ga := rh
  have rd2 : (V 5 6).toInt = ((gr.length + 1 : Nat) : Int) := rd
  have gl9 : gr.length = gf := by (first | exact om_ec03263ced6a gd rd2 | omega)
  have sl9 : gr.length ≤ 394 := by (first | exact om_8b199089418a sl8 rd2 | omega)
  have rh1 : (V 5 9).toInt = gm 0 6 := rh.1
  have ra2 : (V 3 13).toInt = gm 0 2 := rn.1.1.2.2.1
  have rl0 := rl
  obtain ⟨t0, tl9, hf0, hbs9, hpl9, hlr⟩ := rl0
  rw [gl9] at hf0 hbs9
  rcases FRc.k1 hf0 gk with ⟨lv, o, c, pl, ps, it, hfe⟩ | ⟨lv, o, c, pl, hfe⟩
  · skip
    have hf : FRc V gB gf (Fmake lv o c pl ps it) := by rw [← hfe]; exact hf0
    have tl8 : tw9 = t0 + (Fmake lv o c pl ps it : Fr).2.2.2.length := by rw [← hfe]; exact tl9
    obtain ⟨⟨k67, k68⟩, hoc, q75, q76⟩ := hf
    obtain ⟨q69, ⟨q70, o0, o1⟩, ⟨q71, c0, c1⟩, ⟨q72, s0, s1⟩⟩ := hoc
    have cn9 : c.toNat < nC gB := by omega
    have kc9 : Int32.toNatClampNeg (V 71 gf) = c.toNat := by have h9 := i_clamp (x := V 71 gf) rfl (by omega); omega
    have ko9 : Int32.toNatClampNeg (V 70 gf) = o.toNat := by have h9 := i_clamp (x := V 70 gf) rfl (by omega); omega
    have kp9 : Int32.toNatClampNeg (V 72 gf) = pl.toNat := by have h9 := i_clamp (x := V 72 gf) rfl (by omega); omega
    have tz9 : tw9 = t0 := tl8
    have rh8 : (V 5 8).toInt = gm 0 4 := rh.2.2.2.1
    refine lv_aload_n hx hb dX5_abandon_0 rfl (lv_at hl 0 rfl) ?_
    refine va_get (D := D) (ci := 5) (v := .ref (ad 3)) (fs := (xfMachine ad V L Z)) (C := RX5) (T := TX5) (N := 15) hx hb hg inX5 hown hK hP 5 xgMachine rfl 0 (by decide) (hg _ w667) (fun _ h9 => h9) rfl dX5_abandon_1 ?_
    refine lv_aload_n hx hb dX5_abandon_4 rfl (lv_at hl 1 rfl) ?_
    refine va_getN (D := D) (ci := 4) (v := .int (V 70 gf)) (fs := (xfFrame V gf)) (C := RX4) (T := TX4) (N := 19) hx hb hg inX4 hown hK hP (336 + gf) (xgFrame hgf) rfl 3 (by decide) (hnw.use 1192 n1192 rfl) (fun _ h9 => h9) rfl dX5_abandon_5 ?_
    refine gA_void (gA_runV (As := [.int (V 70 gf)]) (rest := []) (ci := 8) (q0 := 3) hx hb hml hown hg hP hD hK hS hA hnw hgk (x_dropObject9 l D ks H.size ad kk V L Z (V 70 gf) hMV (by first | omega | ((try (have i_bc := Imp.go bc (by omega))); (try (have i_rwq := Imp.go rwq (by omega))); (try (have i_mo := Imp.go mo (by omega))); (try (have i_mo := Imp.go mo (by omega))); (try (have i_rwq := Imp.go rwq (by omega))); (try (have i_bc := Imp.go bc (by omega))); omega))) w1336 w1337 w1338 w164 w1339 rfl xgStock hdV_yX8_dropObject ⟨Nat.le_of_ble_eq_true rfl, Nat.le_of_ble_eq_true rfl⟩ rfl hl.1 rfl (Nat.le_of_ble_eq_true rfl) dX5_abandon_8 ⟨Nat.le_of_ble_eq_true rfl, Nat.le_of_ble_eq_true rfl⟩) hP hD hK hS hA (fun u14 H locs w15 hP hD hK hS => ?_)
    obtain ⟨V18, L19⟩ := u14
    obtain ⟨hMV18, ajV18, axL19, t16, t17⟩ := w15
    have axL19 : L = L19 := Eq.symm axL19
    subst axL19
    have hP : va_P D vwCl (xw ad kk V18 L Z) H := hP
    have hD : va_D A (xw ad kk V18 L Z) := hD
    have hMV18 : rgd bX V18 := hMV18
    have ajV18 : agr [] [25, 28] V V18 := ajV18
    have agV18 : agr [(5, 6)] [24, 25, 28] V V18 := agV.tr ajV18 (by decide) (by decide)
    have t16 : ∀ n, ME V V18 n := t16
    have t17 : (((V 25 (24 * Int32.toNatClampNeg (V 27 (Int32.toNatClampNeg (V 70 gf))) + Int32.toNatClampNeg (V 26 (Int32.toNatClampNeg (V 70 gf))))).toInt = ((V 70 gf)).toInt) ∧ V18 = (up2 (up2 V 28 (Int32.toNatClampNeg (V 70 gf)) 2) 25 (24 * Int32.toNatClampNeg (V 27 (Int32.toNatClampNeg (V 70 gf))) + Int32.toNatClampNeg (V 26 (Int32.toNatClampNeg (V 70 gf)))) (-1))) ∨ (((V 25 (24 * Int32.toNatClampNeg (V 27 (Int32.toNatClampNeg (V 70 gf))) + Int32.toNatClampNeg (V 26 (Int32.toNatClampNeg (V 70 gf))))).toInt ≠ ((V 70 gf)).toInt) ∧ V18 = (up2 V 28 (Int32.toNatClampNeg (V 70 gf)) 2)) := t17
    rcases t17 with ⟨hc20, hw21⟩ | ⟨hc22, hw23⟩
    · skip
      obtain ⟨V24, hV24⟩ : ∃ z, z = up2 V 28 (Int32.toNatClampNeg (V 70 gf)) 2 := ⟨_, rfl⟩
      have hV18 : V18 = up2 V24 25 (24 * Int32.toNatClampNeg (V 27 (Int32.toNatClampNeg (V 70 gf))) + Int32.toNatClampNeg (V 26 (Int32.toNatClampNeg (V 70 gf)))) (-1) := by rw [hw21, hV24]
      refine lv_aload_n hx hb dX5_abandon_11 rfl (lv_at hl 0 rfl) ?_
      refine va_get (D := D) (ci := 5) (v := .int (V18 5 12)) (fs := (xfMachine ad V18 L Z)) (C := RX5) (T := TX5) (N := 15) hx hb hg inX5 hown hK hP 5 xgMachine rfl 12 (by decide) (hg _ w679) (fun _ h9 => h9) rfl dX5_abandon_12 ?_
      refine g_top (v := (V 5 12)) ((up2_o hV18 (by decide)).trans (up2_o hV24 (by decide))) ?_
      refine lv_bipush (v := 12) hx hb dX5_abandon_15 (by decide) ?_
      have J25 : ∀ (y26 : Int32) (H : Heap) (locs : List Loc) (ls : Array Slot), 0 ≤ y26.toInt ∧ y26.toInt ≤ 1 → (PAS y26.toInt (V 5 12).toInt) → va_P D vwCl (xw ad kk V18 L Z) H → va_D A (xw ad kk V18 L Z) → va_S A s.heap H locs → lv_has ls 4 [(0, .ref (ad 5)), (1, .ref (Z.fa gf))] → W p l e r_x_abandon9 s m ([.ref (ad 5), .ref (Z.fa gf)] : List Value).toArray below meth cq9 H locs 0 0 (MQ below (q_x_abandon9 D ks ad kk V L Z  b gf gB gm ga gfr gr A) ([.ref (ad 5), .ref (Z.fa gf)] : List Value).toArray s 0 0 A) (F0 m 43 ls [.int y26]) := by
        intro y26 H locs ls kJ25_0 xJ25_0 hP hD hS hl
        refine lv_istore_n (lv' := [(2, .int y26), (0, .ref (ad 5)), (1, .ref (Z.fa gf))]) hx hb dX5_abandon_43 rfl hl (by decide) rfl (fun ls hl => ?_)
        refine lv_aload_n hx hb dX5_abandon_44 rfl (lv_at hl 1 rfl) ?_
        refine va_get (D := D) (ci := 5) (v := .ref (ad (38 + Int32.toNatClampNeg (V18 5 5)))) (fs := (xfMachine ad V18 L Z)) (C := RX5) (T := TX5) (N := 15) hx hb hg inX5 hown hK hP 5 xgMachine rfl 5 (by decide) (hg _ w672) (fun _ h9 => h9) rfl dX5_abandon_45 ?_
        have pq27 : (V18 5 5).toInt = ((V 5 5)).toInt := congrArg Int32.toInt ((up2_o hV18 (by decide)).trans (up2_o hV24 (by decide)))
        have r28 : 0 ≤ ((V 5 5)).toInt ∧ ((V 5 5)).toInt ≤ 1 := hMV 5 5
        refine g_topv (v := .ref (ad (38 + b))) (rfP (by first | omega | ((try (have i_bc := Imp.go bc (by omega))); (try (have i_rwq := Imp.go rwq (by omega))); (try (have i_mo := Imp.go mo (by omega))); (try (have i_mo := Imp.go mo (by omega))); (try (have i_rwq := Imp.go rwq (by omega))); (try (have i_bc := Imp.go bc (by omega))); omega))) ?_
        refine va_getN (D := D) (ci := 0) (v := .ref (ad (64 + b))) (fs := (xfBook ad V18 b)) (C := RX0) (T := TX0) (N := 13) hx hb hg inX0 hown hK hP (38 + b) (xgBook hb2) rfl 7 (by decide) (hnw.use 618 n618 rfl) (fun _ h9 => h9) rfl dX5_abandon_48 ?_
        refine lv_aload_n hx hb dX5_abandon_51 rfl (lv_at hl 2 rfl) ?_
        refine va_getN (D := D) (ci := 4) (v := .int (V18 71 gf)) (fs := (xfFrame V18 gf)) (C := RX4) (T := TX4) (N := 19) hx hb hg inX4 hown hK hP (336 + gf) (xgFrame hgf) rfl 4 (by decide) (hnw.use 1193 n1193 rfl) (fun _ h9 => h9) rfl dX5_abandon_52 ?_
        refine g_top (v := (V 71 gf)) ((up2_o hV18 (by decide)).trans (up2_o hV24 (by decide))) ?_
        have il29 : b < 2 := by first | exact om_f940a4667dd6 hb2 | first | omega | ((try (have i_bc := Imp.go bc (by omega))); (try (have i_rwq := Imp.go rwq (by omega))); (try (have i_mo := Imp.go mo (by omega))); (try (have i_mo := Imp.go mo (by omega))); (try (have i_rwq := Imp.go rwq (by omega))); (try (have i_bc := Imp.go bc (by omega))); omega)
        refine va_aldq (D := D) (i := (V 71 gf)) hx hb hK hP (64 + b) (57 + b) (xgcomps il29) (xtcomps il29) (i_in (a := ((V 71 gf)).toInt) rfl (by first | omega | ((try (have i_bc := Imp.go bc (by omega))); (try (have i_rwq := Imp.go rwq (by omega))); (try (have i_mo := Imp.go mo (by omega))); (try (have i_mo := Imp.go mo (by omega))); (try (have i_rwq := Imp.go rwq (by omega))); (try (have i_bc := Imp.go bc (by omega))); omega))) dX5_abandon_55 ?_
        have kc30 := i_clamp (x := (V 71 gf)) rfl (by first | omega | ((try (have i_bc := Imp.go bc (by omega))); (try (have i_rwq := Imp.go rwq (by omega))); (try (have i_mo := Imp.go mo (by omega))); (try (have i_mo := Imp.go mo (by omega))); (try (have i_rwq := Imp.go rwq (by omega))); (try (have i_bc := Imp.go bc (by omega))); omega))
        refine g_topv (v := .ref (ad (72 + (24 * b + (Int32.toNatClampNeg (V 71 gf)))))) (congrArg va_rf (if_pos (by first | omega | ((try (have i_bc := Imp.go bc (by omega))); (try (have i_rwq := Imp.go rwq (by omega))); (try (have i_mo := Imp.go mo (by omega))); (try (have i_mo := Imp.go mo (by omega))); (try (have i_rwq := Imp.go rwq (by omega))); (try (have i_bc := Imp.go bc (by omega))); omega)))) ?_
        have il31 : (24 * b + (Int32.toNatClampNeg (V 71 gf))) < 48 := by first | exact om_31a61188bc78 hb2 r3.2 kc30 | first | omega | ((try (have i_bc := Imp.go bc (by omega))); (try (have i_rwq := Imp.go rwq (by omega))); (try (have i_mo := Imp.go mo (by omega))); (try (have i_mo := Imp.go mo (by omega))); (try (have i_rwq := Imp.go rwq (by omega))); (try (have i_bc := Imp.go bc (by omega))); omega)
        refine va_getN (D := D) (ci := 3) (v := .int (V18 51 (24 * b + (Int32.toNatClampNeg (V 71 gf))))) (fs := (xfComp ad V18 (24 * b + (Int32.toNatClampNeg (V 71 gf))))) (C := RX3) (T := TX3) (N := 13) hx hb hg inX3 hown hK hP (72 + (24 * b + (Int32.toNatClampNeg (V 71 gf)))) (xgComp il31) rfl 6 (by decide) (hnw.use 522 n522 rfl) (fun _ h9 => h9) rfl dX5_abandon_56 ?_
        refine g_top (v := (V 51 (24 * b + (Int32.toNatClampNeg (V 71 gf))))) ((up2_o hV18 (by decide)).trans (up2_o hV24 (by decide))) ?_
        have r32 : 0 ≤ ((V 51 (24 * b + (Int32.toNatClampNeg (V 71 gf))))).toInt ∧ ((V 51 (24 * b + (Int32.toNatClampNeg (V 71 gf))))).toInt ≤ 3 := hMV 51 (24 * b + (Int32.toNatClampNeg (V 71 gf)))
        refine lv_iconst (v := 3) hx hb dX5_abandon_59 (by decide) ?_
        refine lv_icmp_eq (tgt := 67) hx hb dX5_abandon_60 (by decide) (fun c33 => ?_) (fun c33 => ?_)
        · skip
          have f34 : ((V 51 (24 * b + (Int32.toNatClampNeg (V 71 gf))))).toInt = 3 := b_eq rfl (by decide) c33
          refine lv_iconst (v := 0) hx hb dX5_abandon_67 (by decide) ?_
          refine lv_istore_n (lv' := [(3, .int 0), (2, .int y26), (0, .ref (ad 5)), (1, .ref (Z.fa gf))]) hx hb dX5_abandon_68 rfl hl (by decide) rfl (fun ls hl => ?_)
          refine lv_aload_n hx hb dX5_abandon_69 rfl (lv_at hl 2 rfl) ?_
          refine va_get (D := D) (ci := 5) (v := .int (V18 5 9)) (fs := (xfMachine ad V18 L Z)) (C := RX5) (T := TX5) (N := 15) hx hb hg inX5 hown hK hP 5 xgMachine rfl 9 (by decide) (hg _ w676) (fun _ h9 => h9) rfl dX5_abandon_70 ?_
          refine g_top (v := (V 5 9)) ((up2_o hV18 (by decide)).trans (up2_o hV24 (by decide))) ?_
          refine lv_iconst (v := 2) hx hb dX5_abandon_73 (by decide) ?_
          refine lv_icmp_ne (tgt := 100) hx hb dX5_abandon_74 (by decide) (fun c35 => ?_) (fun c35 => ?_)
          · skip
            have f36 : ((V 5 9)).toInt ≠ 2 := b_neq rfl (by decide) c35
            have f37 : 3 ≤ ((V 5 9)).toInt := by (first | exact om_5241ad6bc921 sg7.1 f36 | omega)
            clear f36
            refine lv_aload_n hx hb dX5_abandon_100 rfl (lv_at hl 2 rfl) ?_
            have pq38 : (V18 5 6).toInt = ((V 5 6)).toInt := congrArg Int32.toInt ((up2_o hV18 (by decide)).trans (up2_o hV24 (by decide)))
            refine gA_void (gA_runV (As := []) (rest := []) (ci := 5) (q0 := 5) hx hb hml hown hg hP hD hK hS hA hnw hgk (x_leave9 l D ks H.size ad kk V18 L Z  hMV18 (show 1 ≤ (V18 5 6).toInt from by first | exact om_0cac171fa40c gd pq38 | first | omega | ((try (have i_bc := Imp.go bc (by omega))); (try (have i_rwq := Imp.go rwq (by omega))); (try (have i_mo := Imp.go mo (by omega))); (try (have i_mo := Imp.go mo (by omega))); (try (have i_rwq := Imp.go rwq (by omega))); (try (have i_bc := Imp.go bc (by omega))); omega))) w1308 w1310 w50 w171 w1311 rfl xgMachine hdV_yX5_leave ⟨Nat.le_of_ble_eq_true rfl, Nat.le_of_ble_eq_true rfl⟩ rfl hl.1 rfl (Nat.le_of_ble_eq_true rfl) dX5_abandon_101 ⟨Nat.le_of_ble_eq_true rfl, Nat.le_of_ble_eq_true rfl⟩) hP hD hK hS hA (fun u40 H locs w41 hP hD hK hS => ?_)
            obtain ⟨V44, L45⟩ := u40
            obtain ⟨hMV44, ajV44, axL45, t42, t43⟩ := w41
            have axL45 : L = L45 := Eq.symm axL45
            subst axL45
            have hP : va_P D vwCl (xw ad kk V44 L Z) H := hP
            have hD : va_D A (xw ad kk V44 L Z) := hD
            have hMV44 : rgd bX V44 := hMV44
            have ajV44 : agr [(5, 6)] [] V18 V44 := ajV44
            have agV44 : agr [(5, 6)] [24, 25, 28] V V44 := agV18.tr ajV44 (by decide) (by decide)
            have t42 : (V44 5 6).toInt = (V18 5 6).toInt - 1 := t42
            have t43 : ((True) ∧ V44 = (up2 V18 5 6 (V18 5 6 - 1))) := t43
            have r46 : 0 ≤ ((V44 5 6)).toInt ∧ ((V44 5 6)).toInt ≤ 400 := hMV44 5 6
            have hw47 := t43.2
            obtain ⟨z48, ez48⟩ : ∃ y : Int32, y = V18 5 6 - 1 := ⟨_, rfl⟩
            have hz48 : z48.toInt = (V18 5 6).toInt - 1 := i_sub ez48 rfl (by decide) (by first | exact om_1c0ddc14e6cd gd sl8 pq38 | first | omega | ((try (have i_bc := Imp.go bc (by omega))); (try (have i_rwq := Imp.go rwq (by omega))); (try (have i_mo := Imp.go mo (by omega))); (try (have i_mo := Imp.go mo (by omega))); (try (have i_rwq := Imp.go rwq (by omega))); (try (have i_bc := Imp.go bc (by omega))); omega))
            have hV44 : V44 = up2 V18 5 6 z48 := by rw [hw47, ez48]
            have me49 : ME V V44 gf := (ME.up (ME.up (ME.up ME.rf hV24 (Or.inr (by omega))) hV18 (Or.inr (by omega))) hV44 (Or.inr (by omega)))
            have pq50 : (V44 67 gf).toInt = ((V 67 gf)).toInt := congrArg Int32.toInt ((up2_o hV44 (by decide)).trans ((up2_o hV18 (by decide)).trans (up2_o hV24 (by decide))))
            have pq51 : (V44 68 gf).toInt = ((V 68 gf)).toInt := congrArg Int32.toInt ((up2_o hV44 (by decide)).trans ((up2_o hV18 (by decide)).trans (up2_o hV24 (by decide))))
            have pq52 : (V44 70 gf).toInt = ((V 70 gf)).toInt := congrArg Int32.toInt ((up2_o hV44 (by decide)).trans ((up2_o hV18 (by decide)).trans (up2_o hV24 (by decide))))
            have pq53 : (V44 71 gf).toInt = ((V 71 gf)).toInt := congrArg Int32.toInt ((up2_o hV44 (by decide)).trans ((up2_o hV18 (by decide)).trans (up2_o hV24 (by decide))))
            have pq54 : (V44 75 gf).toInt = ((V 75 gf)).toInt := congrArg Int32.toInt ((up2_o hV44 (by decide)).trans ((up2_o hV18 (by decide)).trans (up2_o hV24 (by decide))))
            have pq55 : (V44 76 gf).toInt = ((V 76 gf)).toInt := congrArg Int32.toInt ((up2_o hV44 (by decide)).trans ((up2_o hV18 (by decide)).trans (up2_o hV24 (by decide))))
            have pq56 : (V44 80 gf).toInt = ((V 80 gf)).toInt := congrArg Int32.toInt ((up2_o hV44 (by decide)).trans ((up2_o hV18 (by decide)).trans (up2_o hV24 (by decide))))
            have pq57 : (V44 84 gf).toInt = ((V 84 gf)).toInt := congrArg Int32.toInt ((up2_o hV44 (by decide)).trans ((up2_o hV18 (by decide)).trans (up2_o hV24 (by decide))))
            have pq58 : (V44 5 6).toInt = z48.toInt := congrArg Int32.toInt (up2_s hV44)
            have pq59 : (V44 5 8).toInt = ((V 5 8)).toInt := congrArg Int32.toInt ((up2_k hV44 (by decide)).trans ((up2_o hV18 (by decide)).trans (up2_o hV24 (by decide))))
            have pq60 : (V44 5 9).toInt = ((V 5 9)).toInt := congrArg Int32.toInt ((up2_k hV44 (by decide)).trans ((up2_o hV18 (by decide)).trans (up2_o hV24 (by decide))))
            have pq61 : (V44 3 13).toInt = ((V 3 13)).toInt := congrArg Int32.toInt ((up2_o hV44 (by decide)).trans ((up2_o hV18 (by decide)).trans (up2_o hV24 (by decide))))
            have pq62 : (V44 43 (5 * b + 2)).toInt = ((V 43 (5 * b + 2))).toInt := congrArg Int32.toInt ((up2_o hV44 (by decide)).trans ((up2_o hV18 (by decide)).trans (up2_o hV24 (by decide))))
            have pq63 : (V44 42 b).toInt = ((V 42 b)).toInt := congrArg Int32.toInt ((up2_o hV44 (by decide)).trans ((up2_o hV18 (by decide)).trans (up2_o hV24 (by decide))))
            have pq64 : (V44 41 b).toInt = ((V 41 b)).toInt := congrArg Int32.toInt ((up2_o hV44 (by decide)).trans ((up2_o hV18 (by decide)).trans (up2_o hV24 (by decide))))
            have rp65 : MJ V44 Z b := MP.lv (MO.mp mo) me49 (by (first | exact om_dca0de52e899 gd pq38 hz48 pq58 | omega)) (fun _ => Or.inl (by omega))
            have dx9 : (Int32.toNatClampNeg (V 70 gf)) = o.toNat := by have h9 := i_clamp (x := (V 70 gf)) rfl (by omega); (first | exact om_890eb046e93a ko9 | omega)
            have do9 : ((o.toNat : Nat) : Int) < gm 0 2 := by omega
            have db9 := (rn).2.1 _ do9
            have ds9 : 24 * Int32.toNatClampNeg (V 27 (Int32.toNatClampNeg (V 70 gf))) + Int32.toNatClampNeg (V 26 (Int32.toNatClampNeg (V 70 gf))) = 24 * (gm 2 o.toNat).toNat + (gm 1 o.toNat).toNat := by rw [dx9]; have h1 := db9.1.1; have h2 := db9.1.2.1; have h3 := i_clamp (x := V 27 o.toNat) rfl (by omega); have h4 := i_clamp (x := V 26 o.toNat) rfl (by omega); omega
            have rn67 : RWn V18 ow gB (mU gm 3 o.toNat 2) := RWn.drop rn do9 (fun x9 hx9 => (up2_o hV18 (by decide)).trans (up2_k hV24 (by rw [dx9]; exact hx9))) (by rw [← dx9, (up2_o hV18 (by decide)).trans (up2_s hV24)]; decide) (fun k9 hk9 => (up2_k hV18 (by rw [ds9]; exact hk9)).trans (up2_o hV24 (by decide))) (by rw [← ds9, up2_s hV18, if_pos (by rw [← dx9]; have h9 := i_clamp (x := (V 70 gf)) rfl (by omega); omega)]; decide) (fun c9 k9 h1 h2 h3 => ((show V18 c9 k9 = V24 c9 k9 from by rw [hV18]; exact up2_pl (by omega)).trans (show V24 c9 k9 = V c9 k9 from by rw [hV24]; exact up2_pl (by omega))))
            have s51 : (V 51 (24 * b + Int32.toNatClampNeg (V 71 gf))).toInt = ((bS gB c.toNat : Nat) : Int) := by rw [kc9]; exact BKc.sc bc cn9
            have rh2 : gm 0 6 = 2 → (V 5 11).toInt = gm 0 8 ∧ (V 5 12).toInt = gm 0 9 := rh.2.2.1
            have rn5 : RWn V44 ow gB (mU gm 3 o.toNat 2) := RWn.es rn67 (ESw.ag (show agr [(5, 6)] [] V18 V44 from (agr.up agr.rf hV44 rfl)) (by decide))
            have me68 : ME V V44 gf := (ME.up (ME.up (ME.up ME.rf hV24 (Or.inr (by omega))) hV18 (Or.inr (by omega))) hV44 (Or.inr (by omega)))
            have rl69 : RWl V44 gB gr t0 := RWl.mv hlr (fun i9 hi9 c9 h1 h2 => me68.2.1 c9 i9 h1 h2 (by omega)) (fun j9 hj9 => ((up2_o hV44 (by decide)).trans ((up2_o hV18 (by decide)).trans (up2_o hV24 (by decide))))) (by rw [((up2_o hV44 (by decide)).trans ((up2_o hV18 (by decide)).trans (up2_o hV24 (by decide))))]; exact Int.le_refl _) ((up2_o hV44 (by decide)).trans ((up2_o hV18 (by decide)).trans (up2_o hV24 (by decide))))
            have pq70 : (V44 5 7).toInt = ((V 5 7)).toInt := congrArg Int32.toInt ((up2_k hV44 (by decide)).trans ((up2_o hV18 (by decide)).trans (up2_o hV24 (by decide))))
            have r71 : 0 ≤ ((V 5 7)).toInt ∧ ((V 5 7)).toInt ≤ 2048 := hMV 5 7
            have pq72 : (V44 5 11).toInt = ((V 5 11)).toInt := congrArg Int32.toInt ((up2_k hV44 (by decide)).trans ((up2_o hV18 (by decide)).trans (up2_o hV24 (by decide))))
            have pq73 : (V44 5 12).toInt = ((V 5 12)).toInt := congrArg Int32.toInt ((up2_k hV44 (by decide)).trans ((up2_o hV18 (by decide)).trans (up2_o hV24 (by decide))))
            have rz9 : RW V44 gB ((mU gm 3 o.toNat 2), ga, gr) := RW.fin rwq rn5 (by rw [mU_o _ _ (by omega)]) (fun i9 => by rw [mU_o _ _ (by omega)]) ((up2_k hV44 (by decide)).trans ((up2_o hV18 (by decide)).trans (up2_o hV24 (by decide)))) (fun i9 => ((up2_o hV44 (by decide)).trans ((up2_o hV18 (by decide)).trans (up2_o hV24 (by decide))))) (by rw [mU_o _ _ (by omega)]; omega) (fun h9 => by rw [mU_o _ _ (by omega)] at h9; exfalso; omega) (fun h9 => by rw [mU_o _ _ (by omega)] at h9; rw [mU_o _ _ (by omega), mU_o _ _ (by omega)]; have h8 := rh2 h9; exact ⟨by omega, by omega⟩) (show (V44 5 6).toInt = ((gr.length : Nat) : Int) from by (first | exact om_f00ff43a6068 rd2 pq38 hz48 pq58 | omega)) (show (V44 5 7).toInt = ((t0 : Nat) : Int) from by rw [((up2_k hV44 (by decide)).trans ((up2_o hV18 (by decide)).trans (up2_o hV24 (by decide)))), rt9, tz9]) rl69
            have rx66 : RW V44 gB (mAb gB gm (V 70 gf).toInt (V 71 gf).toInt (V 72 gf).toInt, ga, gr) := by rw [q70, q71, q72, ab_n (fun h9 => by have h1 := h9.1; have h2 := h9.2.1; have h8 := rh2 h1; by_cases y1 : y26.toInt = 1; (rcases PAS.y xJ25_0 y1 with q9 | q9 | q9; (exact h9.2.2.1 (h8.2.symm.trans q9)); (exact h9.2.2.2.1 (h8.2.symm.trans q9)); (exact h9.2.2.2.2 (h8.2.symm.trans q9))); (clear h9; omega))]; exact rz9
            exact W.vret hx hb hr (fun t ht hW => ⟨⟨(V44, L), rfl, ⟨hMV44, agV44, rfl, rp65, rx66⟩, by rw [ht]; exact hP, va_K.moved hW.alike hK, hD⟩, hS.F ht⟩) hS.2.2 dX5_abandon_104
          · skip
            have f74 : ((V 5 9)).toInt = 2 := b_eq rfl (by decide) c35
            refine lv_iload_n hx hb dX5_abandon_77 rfl (lv_at hl 0 rfl) ?_
            refine lv_if_eq (tgt := 100) hx hb dX5_abandon_78 (by decide) (fun _ => ?_) (fun q => absurd (by decide) q)
            refine lv_aload_n hx hb dX5_abandon_100 rfl (lv_at hl 2 rfl) ?_
            have pq75 : (V18 5 6).toInt = ((V 5 6)).toInt := congrArg Int32.toInt ((up2_o hV18 (by decide)).trans (up2_o hV24 (by decide)))
            refine gA_void (gA_runV (As := []) (rest := []) (ci := 5) (q0 := 5) hx hb hml hown hg hP hD hK hS hA hnw hgk (x_leave9 l D ks H.size ad kk V18 L Z  hMV18 (show 1 ≤ (V18 5 6).toInt from by first | exact om_0cac171fa40c gd pq75 | first | omega | ((try (have i_bc := Imp.go bc (by omega))); (try (have i_rwq := Imp.go rwq (by omega))); (try (have i_mo := Imp.go mo (by omega))); (try (have i_mo := Imp.go mo (by omega))); (try (have i_rwq := Imp.go rwq (by omega))); (try (have i_bc := Imp.go bc (by omega))); omega))) w1308 w1310 w50 w171 w1311 rfl xgMachine hdV_yX5_leave ⟨Nat.le_of_ble_eq_true rfl, Nat.le_of_ble_eq_true rfl⟩ rfl hl.1 rfl (Nat.le_of_ble_eq_true rfl) dX5_abandon_101 ⟨Nat.le_of_ble_eq_true rfl, Nat.le_of_ble_eq_true rfl⟩) hP hD hK hS hA (fun u77 H locs w78 hP hD hK hS => ?_)
            obtain ⟨V81, L82⟩ := u77
            obtain ⟨hMV81, ajV81, axL82, t79, t80⟩ := w78
            have axL82 : L = L82 := Eq.symm axL82
            subst axL82
            have hP : va_P D vwCl (xw ad kk V81 L Z) H := hP
            have hD : va_D A (xw ad kk V81 L Z) := hD
            have hMV81 : rgd bX V81 := hMV81
            have ajV81 : agr [(5, 6)] [] V18 V81 := ajV81
            have agV81 : agr [(5, 6)] [24, 25, 28] V V81 := agV18.tr ajV81 (by decide) (by decide)
            have t79 : (V81 5 6).toInt = (V18 5 6).toInt - 1 := t79
            have t80 : ((True) ∧ V81 = (up2 V18 5 6 (V18 5 6 - 1))) := t80
            have r83 : 0 ≤ ((V81 5 6)).toInt ∧ ((V81 5 6)).toInt ≤ 400 := hMV81 5 6
            have hw84 := t80.2
            obtain ⟨z85, ez85⟩ : ∃ y : Int32, y = V18 5 6 - 1 := ⟨_, rfl⟩
            have hz85 : z85.toInt = (V18 5 6).toInt - 1 := i_sub ez85 rfl (by decide) (by first | exact om_1c0ddc14e6cd gd sl8 pq75 | first | omega | ((try (have i_bc := Imp.go bc (by omega))); (try (have i_rwq := Imp.go rwq (by omega))); (try (have i_mo := Imp.go mo (by omega))); (try (have i_mo := Imp.go mo (by omega))); (try (have i_rwq := Imp.go rwq (by omega))); (try (have i_bc := Imp.go bc (by omega))); omega))
            have hV81 : V81 = up2 V18 5 6 z85 := by rw [hw84, ez85]
            have me86 : ME V V81 gf := (ME.up (ME.up (ME.up ME.rf hV24 (Or.inr (by omega))) hV18 (Or.inr (by omega))) hV81 (Or.inr (by omega)))
            have pq87 : (V81 67 gf).toInt = ((V 67 gf)).toInt := congrArg Int32.toInt ((up2_o hV81 (by decide)).trans ((up2_o hV18 (by decide)).trans (up2_o hV24 (by decide))))
            have pq88 : (V81 68 gf).toInt = ((V 68 gf)).toInt := congrArg Int32.toInt ((up2_o hV81 (by decide)).trans ((up2_o hV18 (by decide)).trans (up2_o hV24 (by decide))))
            have pq89 : (V81 70 gf).toInt = ((V 70 gf)).toInt := congrArg Int32.toInt ((up2_o hV81 (by decide)).trans ((up2_o hV18 (by decide)).trans (up2_o hV24 (by decide))))
            have pq90 : (V81 71 gf).toInt = ((V 71 gf)).toInt := congrArg Int32.toInt ((up2_o hV81 (by decide)).trans ((up2_o hV18 (by decide)).trans (up2_o hV24 (by decide))))
            have pq91 : (V81 75 gf).toInt = ((V 75 gf)).toInt := congrArg Int32.toInt ((up2_o hV81 (by decide)).trans ((up2_o hV18 (by decide)).trans (up2_o hV24 (by decide))))
            have pq92 : (V81 76 gf).toInt = ((V 76 gf)).toInt := congrArg Int32.toInt ((up2_o hV81 (by decide)).trans ((up2_o hV18 (by decide)).trans (up2_o hV24 (by decide))))
            have pq93 : (V81 80 gf).toInt = ((V 80 gf)).toInt := congrArg Int32.toInt ((up2_o hV81 (by decide)).trans ((up2_o hV18 (by decide)).trans (up2_o hV24 (by decide))))
            have pq94 : (V81 84 gf).toInt = ((V 84 gf)).toInt := congrArg Int32.toInt ((up2_o hV81 (by decide)).trans ((up2_o hV18 (by decide)).trans (up2_o hV24 (by decide))))
            have pq95 : (V81 5 6).toInt = z85.toInt := congrArg Int32.toInt (up2_s hV81)
            have pq96 : (V81 5 8).toInt = ((V 5 8)).toInt := congrArg Int32.toInt ((up2_k hV81 (by decide)).trans ((up2_o hV18 (by decide)).trans (up2_o hV24 (by decide))))
            have pq97 : (V81 5 9).toInt = ((V 5 9)).toInt := congrArg Int32.toInt ((up2_k hV81 (by decide)).trans ((up2_o hV18 (by decide)).trans (up2_o hV24 (by decide))))
            have pq98 : (V81 3 13).toInt = ((V 3 13)).toInt := congrArg Int32.toInt ((up2_o hV81 (by decide)).trans ((up2_o hV18 (by decide)).trans (up2_o hV24 (by decide))))
            have pq99 : (V81 43 (5 * b + 2)).toInt = ((V 43 (5 * b + 2))).toInt := congrArg Int32.toInt ((up2_o hV81 (by decide)).trans ((up2_o hV18 (by decide)).trans (up2_o hV24 (by decide))))
            have pq100 : (V81 42 b).toInt = ((V 42 b)).toInt := congrArg Int32.toInt ((up2_o hV81 (by decide)).trans ((up2_o hV18 (by decide)).trans (up2_o hV24 (by decide))))
            have pq101 : (V81 41 b).toInt = ((V 41 b)).toInt := congrArg Int32.toInt ((up2_o hV81 (by decide)).trans ((up2_o hV18 (by decide)).trans (up2_o hV24 (by decide))))
            have rp102 : MJ V81 Z b := MP.lv (MO.mp mo) me86 (by (first | exact om_dca0de52e899 gd pq75 hz85 pq95 | omega)) (fun _ => Or.inl (by omega))
            have dx9 : (Int32.toNatClampNeg (V 70 gf)) = o.toNat := by have h9 := i_clamp (x := (V 70 gf)) rfl (by omega); (first | exact om_890eb046e93a ko9 | omega)
            have do9 : ((o.toNat : Nat) : Int) < gm 0 2 := by omega
            have db9 := (rn).2.1 _ do9
            have ds9 : 24 * Int32.toNatClampNeg (V 27 (Int32.toNatClampNeg (V 70 gf))) + Int32.toNatClampNeg (V 26 (Int32.toNatClampNeg (V 70 gf))) = 24 * (gm 2 o.toNat).toNat + (gm 1 o.toNat).toNat := by rw [dx9]; have h1 := db9.1.1; have h2 := db9.1.2.1; have h3 := i_clamp (x := V 27 o.toNat) rfl (by omega); have h4 := i_clamp (x := V 26 o.toNat) rfl (by omega); omega
            have rn104 : RWn V18 ow gB (mU gm 3 o.toNat 2) := RWn.drop rn do9 (fun x9 hx9 => (up2_o hV18 (by decide)).trans (up2_k hV24 (by rw [dx9]; exact hx9))) (by rw [← dx9, (up2_o hV18 (by decide)).trans (up2_s hV24)]; decide) (fun k9 hk9 => (up2_k hV18 (by rw [ds9]; exact hk9)).trans (up2_o hV24 (by decide))) (by rw [← ds9, up2_s hV18, if_pos (by rw [← dx9]; have h9 := i_clamp (x := (V 70 gf)) rfl (by omega); omega)]; decide) (fun c9 k9 h1 h2 h3 => ((show V18 c9 k9 = V24 c9 k9 from by rw [hV18]; exact up2_pl (by omega)).trans (show V24 c9 k9 = V c9 k9 from by rw [hV24]; exact up2_pl (by omega))))
            have s51 : (V 51 (24 * b + Int32.toNatClampNeg (V 71 gf))).toInt = ((bS gB c.toNat : Nat) : Int) := by rw [kc9]; exact BKc.sc bc cn9
            have rh2 : gm 0 6 = 2 → (V 5 11).toInt = gm 0 8 ∧ (V 5 12).toInt = gm 0 9 := rh.2.2.1
            have rn5 : RWn V81 ow gB (mU gm 3 o.toNat 2) := RWn.es rn104 (ESw.ag (show agr [(5, 6)] [] V18 V81 from (agr.up agr.rf hV81 rfl)) (by decide))
            have me105 : ME V V81 gf := (ME.up (ME.up (ME.up ME.rf hV24 (Or.inr (by omega))) hV18 (Or.inr (by omega))) hV81 (Or.inr (by omega)))
            have rl106 : RWl V81 gB gr t0 := RWl.mv hlr (fun i9 hi9 c9 h1 h2 => me105.2.1 c9 i9 h1 h2 (by omega)) (fun j9 hj9 => ((up2_o hV81 (by decide)).trans ((up2_o hV18 (by decide)).trans (up2_o hV24 (by decide))))) (by rw [((up2_o hV81 (by decide)).trans ((up2_o hV18 (by decide)).trans (up2_o hV24 (by decide))))]; exact Int.le_refl _) ((up2_o hV81 (by decide)).trans ((up2_o hV18 (by decide)).trans (up2_o hV24 (by decide))))
            have pq107 : (V81 5 7).toInt = ((V 5 7)).toInt := congrArg Int32.toInt ((up2_k hV81 (by decide)).trans ((up2_o hV18 (by decide)).trans (up2_o hV24 (by decide))))
            have r108 : 0 ≤ ((V 5 7)).toInt ∧ ((V 5 7)).toInt ≤ 2048 := hMV 5 7
            have pq109 : (V81 5 11).toInt = ((V 5 11)).toInt := congrArg Int32.toInt ((up2_k hV81 (by decide)).trans ((up2_o hV18 (by decide)).trans (up2_o hV24 (by decide))))
            have pq110 : (V81 5 12).toInt = ((V 5 12)).toInt := congrArg Int32.toInt ((up2_k hV81 (by decide)).trans ((up2_o hV18 (by decide)).trans (up2_o hV24 (by decide))))
            have rz9 : RW V81 gB ((mU gm 3 o.toNat 2), ga, gr) := RW.fin rwq rn5 (by rw [mU_o _ _ (by omega)]) (fun i9 => by rw [mU_o _ _ (by omega)]) ((up2_k hV81 (by decide)).trans ((up2_o hV18 (by decide)).trans (up2_o hV24 (by decide)))) (fun i9 => ((up2_o hV81 (by decide)).trans ((up2_o hV18 (by decide)).trans (up2_o hV24 (by decide))))) (by rw [mU_o _ _ (by omega)]; omega) (fun h9 => by rw [mU_o _ _ (by omega)] at h9; exfalso; omega) (fun h9 => by rw [mU_o _ _ (by omega)] at h9; rw [mU_o _ _ (by omega), mU_o _ _ (by omega)]; have h8 := rh2 h9; exact ⟨by omega, by omega⟩) (show (V81 5 6).toInt = ((gr.length : Nat) : Int) from by (first | exact om_f00ff43a6068 rd2 pq75 hz85 pq95 | omega)) (show (V81 5 7).toInt = ((t0 : Nat) : Int) from by rw [((up2_k hV81 (by decide)).trans ((up2_o hV18 (by decide)).trans (up2_o hV24 (by decide)))), rt9, tz9]) rl106
            have rx103 : RW V81 gB (mAb gB gm (V 70 gf).toInt (V 71 gf).toInt (V 72 gf).toInt, ga, gr) := by rw [q70, q71, q72, ab_n (fun h9 => by have h1 := h9.1; have h2 := h9.2.1; have h8 := rh2 h1; by_cases y1 : y26.toInt = 1; (rcases PAS.y xJ25_0 y1 with q9 | q9 | q9; (exact h9.2.2.1 (h8.2.symm.trans q9)); (exact h9.2.2.2.1 (h8.2.symm.trans q9)); (exact h9.2.2.2.2 (h8.2.symm.trans q9))); (clear h9; omega))]; exact rz9
            exact W.vret hx hb hr (fun t ht hW => ⟨⟨(V81, L), rfl, ⟨hMV81, agV81, rfl, rp102, rx103⟩, by rw [ht]; exact hP, va_K.moved hW.alike hK, hD⟩, hS.F ht⟩) hS.2.2 dX5_abandon_104
        · skip
          have f111 : ((V 51 (24 * b + (Int32.toNatClampNeg (V 71 gf))))).toInt ≠ 3 := b_neq rfl (by decide) c33
          have f112 : ((V 51 (24 * b + (Int32.toNatClampNeg (V 71 gf))))).toInt ≤ 2 := by (first | exact om_f2755f8dba0a r32.2 f111 | omega)
          clear f111
          refine lv_iconst (v := 1) hx hb dX5_abandon_63 (by decide) ?_
          refine lv_goto (tgt := 68) hx hb dX5_abandon_64 (by decide) ?_
          refine lv_istore_n (lv' := [(3, .int 1), (2, .int y26), (0, .ref (ad 5)), (1, .ref (Z.fa gf))]) hx hb dX5_abandon_68 rfl hl (by decide) rfl (fun ls hl => ?_)
          refine lv_aload_n hx hb dX5_abandon_69 rfl (lv_at hl 2 rfl) ?_
          refine va_get (D := D) (ci := 5) (v := .int (V18 5 9)) (fs := (xfMachine ad V18 L Z)) (C := RX5) (T := TX5) (N := 15) hx hb hg inX5 hown hK hP 5 xgMachine rfl 9 (by decide) (hg _ w676) (fun _ h9 => h9) rfl dX5_abandon_70 ?_
          refine g_top (v := (V 5 9)) ((up2_o hV18 (by decide)).trans (up2_o hV24 (by decide))) ?_
          refine lv_iconst (v := 2) hx hb dX5_abandon_73 (by decide) ?_
          refine lv_icmp_ne (tgt := 100) hx hb dX5_abandon_74 (by decide) (fun c113 => ?_) (fun c113 => ?_)
          · skip
            have f114 : ((V 5 9)).toInt ≠ 2 := b_neq rfl (by decide) c113
            have f115 : 3 ≤ ((V 5 9)).toInt := by (first | exact om_5241ad6bc921 sg7.1 f114 | omega)
            clear f114
            refine lv_aload_n hx hb dX5_abandon_100 rfl (lv_at hl 2 rfl) ?_
            have pq116 : (V18 5 6).toInt = ((V 5 6)).toInt := congrArg Int32.toInt ((up2_o hV18 (by decide)).trans (up2_o hV24 (by decide)))
            refine gA_void (gA_runV (As := []) (rest := []) (ci := 5) (q0 := 5) hx hb hml hown hg hP hD hK hS hA hnw hgk (x_leave9 l D ks H.size ad kk V18 L Z  hMV18 (show 1 ≤ (V18 5 6).toInt from by first | exact om_0cac171fa40c gd pq116 | first | omega | ((try (have i_bc := Imp.go bc (by omega))); (try (have i_rwq := Imp.go rwq (by omega))); (try (have i_mo := Imp.go mo (by omega))); (try (have i_mo := Imp.go mo (by omega))); (try (have i_rwq := Imp.go rwq (by omega))); (try (have i_bc := Imp.go bc (by omega))); omega))) w1308 w1310 w50 w171 w1311 rfl xgMachine hdV_yX5_leave ⟨Nat.le_of_ble_eq_true rfl, Nat.le_of_ble_eq_true rfl⟩ rfl hl.1 rfl (Nat.le_of_ble_eq_true rfl) dX5_abandon_101 ⟨Nat.le_of_ble_eq_true rfl, Nat.le_of_ble_eq_true rfl⟩) hP hD hK hS hA (fun u118 H locs w119 hP hD hK hS => ?_)
            obtain ⟨V122, L123⟩ := u118
            obtain ⟨hMV122, ajV122, axL123, t120, t121⟩ := w119
            have axL123 : L = L123 := Eq.symm axL123
            subst axL123
            have hP : va_P D vwCl (xw ad kk V122 L Z) H := hP
            have hD : va_D A (xw ad kk V122 L Z) := hD
            have hMV122 : rgd bX V122 := hMV122
            have ajV122 : agr [(5, 6)] [] V18 V122 := ajV122
            have agV122 : agr [(5, 6)] [24, 25, 28] V V122 := agV18.tr ajV122 (by decide) (by decide)
            have t120 : (V122 5 6).toInt = (V18 5 6).toInt - 1 := t120
            have t121 : ((True) ∧ V122 = (up2 V18 5 6 (V18 5 6 - 1))) := t121
            have r124 : 0 ≤ ((V122 5 6)).toInt ∧ ((V122 5 6)).toInt ≤ 400 := hMV122 5 6
            have hw125 := t121.2
            obtain ⟨z126, ez126⟩ : ∃ y : Int32, y = V18 5 6 - 1 := ⟨_, rfl⟩
            have hz126 : z126.toInt = (V18 5 6).toInt - 1 := i_sub ez126 rfl (by decide) (by first | exact om_6d325bb5c224 sl8 pq116 t120 r124.1 | first | omega | ((try (have i_bc := Imp.go bc (by omega))); (try (have i_rwq := Imp.go rwq (by omega))); (try (have i_mo := Imp.go mo (by omega))); (try (have i_mo := Imp.go mo (by omega))); (try (have i_rwq := Imp.go rwq (by omega))); (try (have i_bc := Imp.go bc (by omega))); omega))
            have hV122 : V122 = up2 V18 5 6 z126 := by rw [hw125, ez126]
            have me127 : ME V V122 gf := (ME.up (ME.up (ME.up ME.rf hV24 (Or.inr (by omega))) hV18 (Or.inr (by omega))) hV122 (Or.inr (by omega)))
            have pq128 : (V122 67 gf).toInt = ((V 67 gf)).toInt := congrArg Int32.toInt ((up2_o hV122 (by decide)).trans ((up2_o hV18 (by decide)).trans (up2_o hV24 (by decide))))
            have pq129 : (V122 68 gf).toInt = ((V 68 gf)).toInt := congrArg Int32.toInt ((up2_o hV122 (by decide)).trans ((up2_o hV18 (by decide)).trans (up2_o hV24 (by decide))))
            have pq130 : (V122 70 gf).toInt = ((V 70 gf)).toInt := congrArg Int32.toInt ((up2_o hV122 (by decide)).trans ((up2_o hV18 (by decide)).trans (up2_o hV24 (by decide))))
            have pq131 : (V122 71 gf).toInt = ((V 71 gf)).toInt := congrArg Int32.toInt ((up2_o hV122 (by decide)).trans ((up2_o hV18 (by decide)).trans (up2_o hV24 (by decide))))
            have pq132 : (V122 75 gf).toInt = ((V 75 gf)).toInt := congrArg Int32.toInt ((up2_o hV122 (by decide)).trans ((up2_o hV18 (by decide)).trans (up2_o hV24 (by decide))))
            have pq133 : (V122 76 gf).toInt = ((V 76 gf)).toInt := congrArg Int32.toInt ((up2_o hV122 (by decide)).trans ((up2_o hV18 (by decide)).trans (up2_o hV24 (by decide))))
            have pq134 : (V122 80 gf).toInt = ((V 80 gf)).toInt := congrArg Int32.toInt ((up2_o hV122 (by decide)).trans ((up2_o hV18 (by decide)).trans (up2_o hV24 (by decide))))
            have pq135 : (V122 84 gf).toInt = ((V 84 gf)).toInt := congrArg Int32.toInt ((up2_o hV122 (by decide)).trans ((up2_o hV18 (by decide)).trans (up2_o hV24 (by decide))))
            have pq136 : (V122 5 6).toInt = z126.toInt := congrArg Int32.toInt (up2_s hV122)
            have pq137 : (V122 5 8).toInt = ((V 5 8)).toInt := congrArg Int32.toInt ((up2_k hV122 (by decide)).trans ((up2_o hV18 (by decide)).trans (up2_o hV24 (by decide))))
            have pq138 : (V122 5 9).toInt = ((V 5 9)).toInt := congrArg Int32.toInt ((up2_k hV122 (by decide)).trans ((up2_o hV18 (by decide)).trans (up2_o hV24 (by decide))))
            have pq139 : (V122 3 13).toInt = ((V 3 13)).toInt := congrArg Int32.toInt ((up2_o hV122 (by decide)).trans ((up2_o hV18 (by decide)).trans (up2_o hV24 (by decide))))
            have pq140 : (V122 43 (5 * b + 2)).toInt = ((V 43 (5 * b + 2))).toInt := congrArg Int32.toInt ((up2_o hV122 (by decide)).trans ((up2_o hV18 (by decide)).trans (up2_o hV24 (by decide))))
            have pq141 : (V122 42 b).toInt = ((V 42 b)).toInt := congrArg Int32.toInt ((up2_o hV122 (by decide)).trans ((up2_o hV18 (by decide)).trans (up2_o hV24 (by decide))))
            have pq142 : (V122 41 b).toInt = ((V 41 b)).toInt := congrArg Int32.toInt ((up2_o hV122 (by decide)).trans ((up2_o hV18 (by decide)).trans (up2_o hV24 (by decide))))
            have rp143 : MJ V122 Z b := MP.lv (MO.mp mo) me127 (by (first | exact om_dca0de52e899 gd pq116 hz126 pq136 | omega)) (fun _ => Or.inl (by omega))
            have dx9 : (Int32.toNatClampNeg (V 70 gf)) = o.toNat := by have h9 := i_clamp (x := (V 70 gf)) rfl (by omega); (first | exact om_890eb046e93a ko9 | omega)
            have do9 : ((o.toNat : Nat) : Int) < gm 0 2 := by omega
            have db9 := (rn).2.1 _ do9
            have ds9 : 24 * Int32.toNatClampNeg (V 27 (Int32.toNatClampNeg (V 70 gf))) + Int32.toNatClampNeg (V 26 (Int32.toNatClampNeg (V 70 gf))) = 24 * (gm 2 o.toNat).toNat + (gm 1 o.toNat).toNat := by rw [dx9]; have h1 := db9.1.1; have h2 := db9.1.2.1; have h3 := i_clamp (x := V 27 o.toNat) rfl (by omega); have h4 := i_clamp (x := V 26 o.toNat) rfl (by omega); omega
            have rn145 : RWn V18 ow gB (mU gm 3 o.toNat 2) := RWn.drop rn do9 (fun x9 hx9 => (up2_o hV18 (by decide)).trans (up2_k hV24 (by rw [dx9]; exact hx9))) (by rw [← dx9, (up2_o hV18 (by decide)).trans (up2_s hV24)]; decide) (fun k9 hk9 => (up2_k hV18 (by rw [ds9]; exact hk9)).trans (up2_o hV24 (by decide))) (by rw [← ds9, up2_s hV18, if_pos (by rw [← dx9]; have h9 := i_clamp (x := (V 70 gf)) rfl (by omega); omega)]; decide) (fun c9 k9 h1 h2 h3 => ((show V18 c9 k9 = V24 c9 k9 from by rw [hV18]; exact up2_pl (by omega)).trans (show V24 c9 k9 = V c9 k9 from by rw [hV24]; exact up2_pl (by omega))))
            have s51 : (V 51 (24 * b + Int32.toNatClampNeg (V 71 gf))).toInt = ((bS gB c.toNat : Nat) : Int) := by rw [kc9]; exact BKc.sc bc cn9
            have rh2 : gm 0 6 = 2 → (V 5 11).toInt = gm 0 8 ∧ (V 5 12).toInt = gm 0 9 := rh.2.2.1
            have rn5 : RWn V122 ow gB (mU gm 3 o.toNat 2) := RWn.es rn145 (ESw.ag (show agr [(5, 6)] [] V18 V122 from (agr.up agr.rf hV122 rfl)) (by decide))
            have me146 : ME V V122 gf := (ME.up (ME.up (ME.up ME.rf hV24 (Or.inr (by omega))) hV18 (Or.inr (by omega))) hV122 (Or.inr (by omega)))
            have rl147 : RWl V122 gB gr t0 := RWl.mv hlr (fun i9 hi9 c9 h1 h2 => me146.2.1 c9 i9 h1 h2 (by omega)) (fun j9 hj9 => ((up2_o hV122 (by decide)).trans ((up2_o hV18 (by decide)).trans (up2_o hV24 (by decide))))) (by rw [((up2_o hV122 (by decide)).trans ((up2_o hV18 (by decide)).trans (up2_o hV24 (by decide))))]; exact Int.le_refl _) ((up2_o hV122 (by decide)).trans ((up2_o hV18 (by decide)).trans (up2_o hV24 (by decide))))
            have pq148 : (V122 5 7).toInt = ((V 5 7)).toInt := congrArg Int32.toInt ((up2_k hV122 (by decide)).trans ((up2_o hV18 (by decide)).trans (up2_o hV24 (by decide))))
            have r149 : 0 ≤ ((V 5 7)).toInt ∧ ((V 5 7)).toInt ≤ 2048 := hMV 5 7
            have pq150 : (V122 5 11).toInt = ((V 5 11)).toInt := congrArg Int32.toInt ((up2_k hV122 (by decide)).trans ((up2_o hV18 (by decide)).trans (up2_o hV24 (by decide))))
            have pq151 : (V122 5 12).toInt = ((V 5 12)).toInt := congrArg Int32.toInt ((up2_k hV122 (by decide)).trans ((up2_o hV18 (by decide)).trans (up2_o hV24 (by decide))))
            have rz9 : RW V122 gB ((mU gm 3 o.toNat 2), ga, gr) := RW.fin rwq rn5 (by rw [mU_o _ _ (by omega)]) (fun i9 => by rw [mU_o _ _ (by omega)]) ((up2_k hV122 (by decide)).trans ((up2_o hV18 (by decide)).trans (up2_o hV24 (by decide)))) (fun i9 => ((up2_o hV122 (by decide)).trans ((up2_o hV18 (by decide)).trans (up2_o hV24 (by decide))))) (by rw [mU_o _ _ (by omega)]; omega) (fun h9 => by rw [mU_o _ _ (by omega)] at h9; exfalso; omega) (fun h9 => by rw [mU_o _ _ (by omega)] at h9; rw [mU_o _ _ (by omega), mU_o _ _ (by omega)]; have h8 := rh2 h9; exact ⟨by omega, by omega⟩) (show (V122 5 6).toInt = ((gr.length : Nat) : Int) from by (first | exact om_f00ff43a6068 rd2 pq116 hz126 pq136 | omega)) (show (V122 5 7).toInt = ((t0 : Nat) : Int) from by rw [((up2_k hV122 (by decide)).trans ((up2_o hV18 (by decide)).trans (up2_o hV24 (by decide)))), rt9, tz9]) rl147
            have rx144 : RW V122 gB (mAb gB gm (V 70 gf).toInt (V 71 gf).toInt (V 72 gf).toInt, ga, gr) := by rw [q70, q71, q72, ab_n (fun h9 => by have h1 := h9.1; have h2 := h9.2.1; have h8 := rh2 h1; by_cases y1 : y26.toInt = 1; (rcases PAS.y xJ25_0 y1 with q9 | q9 | q9; (exact h9.2.2.1 (h8.2.symm.trans q9)); (exact h9.2.2.2.1 (h8.2.symm.trans q9)); (exact h9.2.2.2.2 (h8.2.symm.trans q9))); (clear h9; omega))]; exact rz9
            exact W.vret hx hb hr (fun t ht hW => ⟨⟨(V122, L), rfl, ⟨hMV122, agV122, rfl, rp143, rx144⟩, by rw [ht]; exact hP, va_K.moved hW.alike hK, hD⟩, hS.F ht⟩) hS.2.2 dX5_abandon_104
          · skip
            have f152 : ((V 5 9)).toInt = 2 := b_eq rfl (by decide) c113
            refine lv_iload_n hx hb dX5_abandon_77 rfl (lv_at hl 0 rfl) ?_
            refine lv_if_eq (tgt := 100) hx hb dX5_abandon_78 (by decide) (fun q => absurd q (by decide)) (fun _ => ?_)
            refine lv_iload_n hx hb dX5_abandon_81 rfl (lv_at hl 1 rfl) ?_
            refine lv_if_ne (tgt := 100) hx hb dX5_abandon_82 (by decide) (fun c153 => ?_) (fun c153 => ?_)
            · skip
              have f154 : y26.toInt ≠ 0 := b_neq rfl (by decide) c153
              have f155 : 1 ≤ y26.toInt := by (first | exact om_76052c512981 kJ25_0.1 f154 | omega)
              clear f154
              refine lv_aload_n hx hb dX5_abandon_100 rfl (lv_at hl 2 rfl) ?_
              have pq156 : (V18 5 6).toInt = ((V 5 6)).toInt := congrArg Int32.toInt ((up2_o hV18 (by decide)).trans (up2_o hV24 (by decide)))
              refine gA_void (gA_runV (As := []) (rest := []) (ci := 5) (q0 := 5) hx hb hml hown hg hP hD hK hS hA hnw hgk (x_leave9 l D ks H.size ad kk V18 L Z  hMV18 (show 1 ≤ (V18 5 6).toInt from by first | exact om_0cac171fa40c gd pq156 | first | omega | ((try (have i_bc := Imp.go bc (by omega))); (try (have i_rwq := Imp.go rwq (by omega))); (try (have i_mo := Imp.go mo (by omega))); (try (have i_mo := Imp.go mo (by omega))); (try (have i_rwq := Imp.go rwq (by omega))); (try (have i_bc := Imp.go bc (by omega))); omega))) w1308 w1310 w50 w171 w1311 rfl xgMachine hdV_yX5_leave ⟨Nat.le_of_ble_eq_true rfl, Nat.le_of_ble_eq_true rfl⟩ rfl hl.1 rfl (Nat.le_of_ble_eq_true rfl) dX5_abandon_101 ⟨Nat.le_of_ble_eq_true rfl, Nat.le_of_ble_eq_true rfl⟩) hP hD hK hS hA (fun u158 H locs w159 hP hD hK hS => ?_)
              obtain ⟨V162, L163⟩ := u158
              obtain ⟨hMV162, ajV162, axL163, t160, t161⟩ := w159
              have axL163 : L = L163 := Eq.symm axL163
              subst axL163
              have hP : va_P D vwCl (xw ad kk V162 L Z) H := hP
              have hD : va_D A (xw ad kk V162 L Z) := hD
              have hMV162 : rgd bX V162 := hMV162
              have ajV162 : agr [(5, 6)] [] V18 V162 := ajV162
              have agV162 : agr [(5, 6)] [24, 25, 28] V V162 := agV18.tr ajV162 (by decide) (by decide)
              have t160 : (V162 5 6).toInt = (V18 5 6).toInt - 1 := t160
              have t161 : ((True) ∧ V162 = (up2 V18 5 6 (V18 5 6 - 1))) := t161
              have r164 : 0 ≤ ((V162 5 6)).toInt ∧ ((V162 5 6)).toInt ≤ 400 := hMV162 5 6
              have hw165 := t161.2
              obtain ⟨z166, ez166⟩ : ∃ y : Int32, y = V18 5 6 - 1 := ⟨_, rfl⟩
              have hz166 : z166.toInt = (V18 5 6).toInt - 1 := i_sub ez166 rfl (by decide) (by first | exact om_6d325bb5c224 sl8 pq156 t160 r164.1 | first | omega | ((try (have i_bc := Imp.go bc (by omega))); (try (have i_rwq := Imp.go rwq (by omega))); (try (have i_mo := Imp.go mo (by omega))); (try (have i_mo := Imp.go mo (by omega))); (try (have i_rwq := Imp.go rwq (by omega))); (try (have i_bc := Imp.go bc (by omega))); omega))
              have hV162 : V162 = up2 V18 5 6 z166 := by rw [hw165, ez166]
              have me167 : ME V V162 gf := (ME.up (ME.up (ME.up ME.rf hV24 (Or.inr (by omega))) hV18 (Or.inr (by omega))) hV162 (Or.inr (by omega)))
              have pq168 : (V162 67 gf).toInt = ((V 67 gf)).toInt := congrArg Int32.toInt ((up2_o hV162 (by decide)).trans ((up2_o hV18 (by decide)).trans (up2_o hV24 (by decide))))
              have pq169 : (V162 68 gf).toInt = ((V 68 gf)).toInt := congrArg Int32.toInt ((up2_o hV162 (by decide)).trans ((up2_o hV18 (by decide)).trans (up2_o hV24 (by decide))))
              have pq170 : (V162 70 gf).toInt = ((V 70 gf)).toInt := congrArg Int32.toInt ((up2_o hV162 (by decide)).trans ((up2_o hV18 (by decide)).trans (up2_o hV24 (by decide))))
              have pq171 : (V162 71 gf).toInt = ((V 71 gf)).toInt := congrArg Int32.toInt ((up2_o hV162 (by decide)).trans ((up2_o hV18 (by decide)).trans (up2_o hV24 (by decide))))
              have pq172 : (V162 75 gf).toInt = ((V 75 gf)).toInt := congrArg Int32.toInt ((up2_o hV162 (by decide)).trans ((up2_o hV18 (by decide)).trans (up2_o hV24 (by decide))))
              have pq173 : (V162 76 gf).toInt = ((V 76 gf)).toInt := congrArg Int32.toInt ((up2_o hV162 (by decide)).trans ((up2_o hV18 (by decide)).trans (up2_o hV24 (by decide))))
              have pq174 : (V162 80 gf).toInt = ((V 80 gf)).toInt := congrArg Int32.toInt ((up2_o hV162 (by decide)).trans ((up2_o hV18 (by decide)).trans (up2_o hV24 (by decide))))
              have pq175 : (V162 84 gf).toInt = ((V 84 gf)).toInt := congrArg Int32.toInt ((up2_o hV162 (by decide)).trans ((up2_o hV18 (by decide)).trans (up2_o hV24 (by decide))))
              have pq176 : (V162 5 6).toInt = z166.toInt := congrArg Int32.toInt (up2_s hV162)
              have pq177 : (V162 5 8).toInt = ((V 5 8)).toInt := congrArg Int32.toInt ((up2_k hV162 (by decide)).trans ((up2_o hV18 (by decide)).trans (up2_o hV24 (by decide))))
              have pq178 : (V162 5 9).toInt = ((V 5 9)).toInt := congrArg Int32.toInt ((up2_k hV162 (by decide)).trans ((up2_o hV18 (by decide)).trans (up2_o hV24 (by decide))))
              have pq179 : (V162 3 13).toInt = ((V 3 13)).toInt := congrArg Int32.toInt ((up2_o hV162 (by decide)).trans ((up2_o hV18 (by decide)).trans (up2_o hV24 (by decide))))
              have pq180 : (V162 43 (5 * b + 2)).toInt = ((V 43 (5 * b + 2))).toInt := congrArg Int32.toInt ((up2_o hV162 (by decide)).trans ((up2_o hV18 (by decide)).trans (up2_o hV24 (by decide))))
              have pq181 : (V162 42 b).toInt = ((V 42 b)).toInt := congrArg Int32.toInt ((up2_o hV162 (by decide)).trans ((up2_o hV18 (by decide)).trans (up2_o hV24 (by decide))))
              have pq182 : (V162 41 b).toInt = ((V 41 b)).toInt := congrArg Int32.toInt ((up2_o hV162 (by decide)).trans ((up2_o hV18 (by decide)).trans (up2_o hV24 (by decide))))
              have rp183 : MJ V162 Z b := MP.lv (MO.mp mo) me167 (by (first | exact om_dca0de52e899 gd pq156 hz166 pq176 | omega)) (fun _ => Or.inl (by omega))
              have dx9 : (Int32.toNatClampNeg (V 70 gf)) = o.toNat := by have h9 := i_clamp (x := (V 70 gf)) rfl (by omega); (first | exact om_890eb046e93a ko9 | omega)
              have do9 : ((o.toNat : Nat) : Int) < gm 0 2 := by omega
              have db9 := (rn).2.1 _ do9
              have ds9 : 24 * Int32.toNatClampNeg (V 27 (Int32.toNatClampNeg (V 70 gf))) + Int32.toNatClampNeg (V 26 (Int32.toNatClampNeg (V 70 gf))) = 24 * (gm 2 o.toNat).toNat + (gm 1 o.toNat).toNat := by rw [dx9]; have h1 := db9.1.1; have h2 := db9.1.2.1; have h3 := i_clamp (x := V 27 o.toNat) rfl (by omega); have h4 := i_clamp (x := V 26 o.toNat) rfl (by omega); omega
              have rn185 : RWn V18 ow gB (mU gm 3 o.toNat 2) := RWn.drop rn do9 (fun x9 hx9 => (up2_o hV18 (by decide)).trans (up2_k hV24 (by rw [dx9]; exact hx9))) (by rw [← dx9, (up2_o hV18 (by decide)).trans (up2_s hV24)]; decide) (fun k9 hk9 => (up2_k hV18 (by rw [ds9]; exact hk9)).trans (up2_o hV24 (by decide))) (by rw [← ds9, up2_s hV18, if_pos (by rw [← dx9]; have h9 := i_clamp (x := (V 70 gf)) rfl (by omega); omega)]; decide) (fun c9 k9 h1 h2 h3 => ((show V18 c9 k9 = V24 c9 k9 from by rw [hV18]; exact up2_pl (by omega)).trans (show V24 c9 k9 = V c9 k9 from by rw [hV24]; exact up2_pl (by omega))))
              have s51 : (V 51 (24 * b + Int32.toNatClampNeg (V 71 gf))).toInt = ((bS gB c.toNat : Nat) : Int) := by rw [kc9]; exact BKc.sc bc cn9
              have rh2 : gm 0 6 = 2 → (V 5 11).toInt = gm 0 8 ∧ (V 5 12).toInt = gm 0 9 := rh.2.2.1
              have rn5 : RWn V162 ow gB (mU gm 3 o.toNat 2) := RWn.es rn185 (ESw.ag (show agr [(5, 6)] [] V18 V162 from (agr.up agr.rf hV162 rfl)) (by decide))
              have me186 : ME V V162 gf := (ME.up (ME.up (ME.up ME.rf hV24 (Or.inr (by omega))) hV18 (Or.inr (by omega))) hV162 (Or.inr (by omega)))
              have rl187 : RWl V162 gB gr t0 := RWl.mv hlr (fun i9 hi9 c9 h1 h2 => me186.2.1 c9 i9 h1 h2 (by omega)) (fun j9 hj9 => ((up2_o hV162 (by decide)).trans ((up2_o hV18 (by decide)).trans (up2_o hV24 (by decide))))) (by rw [((up2_o hV162 (by decide)).trans ((up2_o hV18 (by decide)).trans (up2_o hV24 (by decide))))]; exact Int.le_refl _) ((up2_o hV162 (by decide)).trans ((up2_o hV18 (by decide)).trans (up2_o hV24 (by decide))))
              have pq188 : (V162 5 7).toInt = ((V 5 7)).toInt := congrArg Int32.toInt ((up2_k hV162 (by decide)).trans ((up2_o hV18 (by decide)).trans (up2_o hV24 (by decide))))
              have r189 : 0 ≤ ((V 5 7)).toInt ∧ ((V 5 7)).toInt ≤ 2048 := hMV 5 7
              have pq190 : (V162 5 11).toInt = ((V 5 11)).toInt := congrArg Int32.toInt ((up2_k hV162 (by decide)).trans ((up2_o hV18 (by decide)).trans (up2_o hV24 (by decide))))
              have pq191 : (V162 5 12).toInt = ((V 5 12)).toInt := congrArg Int32.toInt ((up2_k hV162 (by decide)).trans ((up2_o hV18 (by decide)).trans (up2_o hV24 (by decide))))
              have rz9 : RW V162 gB ((mU gm 3 o.toNat 2), ga, gr) := RW.fin rwq rn5 (by rw [mU_o _ _ (by omega)]) (fun i9 => by rw [mU_o _ _ (by omega)]) ((up2_k hV162 (by decide)).trans ((up2_o hV18 (by decide)).trans (up2_o hV24 (by decide)))) (fun i9 => ((up2_o hV162 (by decide)).trans ((up2_o hV18 (by decide)).trans (up2_o hV24 (by decide))))) (by rw [mU_o _ _ (by omega)]; omega) (fun h9 => by rw [mU_o _ _ (by omega)] at h9; exfalso; omega) (fun h9 => by rw [mU_o _ _ (by omega)] at h9; rw [mU_o _ _ (by omega), mU_o _ _ (by omega)]; have h8 := rh2 h9; exact ⟨by omega, by omega⟩) (show (V162 5 6).toInt = ((gr.length : Nat) : Int) from by (first | exact om_f00ff43a6068 rd2 pq156 hz166 pq176 | omega)) (show (V162 5 7).toInt = ((t0 : Nat) : Int) from by rw [((up2_k hV162 (by decide)).trans ((up2_o hV18 (by decide)).trans (up2_o hV24 (by decide)))), rt9, tz9]) rl187
              have rx184 : RW V162 gB (mAb gB gm (V 70 gf).toInt (V 71 gf).toInt (V 72 gf).toInt, ga, gr) := by rw [q70, q71, q72, ab_n (fun h9 => by have h1 := h9.1; have h2 := h9.2.1; have h8 := rh2 h1; by_cases y1 : y26.toInt = 1; (rcases PAS.y xJ25_0 y1 with q9 | q9 | q9; (exact h9.2.2.1 (h8.2.symm.trans q9)); (exact h9.2.2.2.1 (h8.2.symm.trans q9)); (exact h9.2.2.2.2 (h8.2.symm.trans q9))); (clear h9; omega))]; exact rz9
              exact W.vret hx hb hr (fun t ht hW => ⟨⟨(V162, L), rfl, ⟨hMV162, agV162, rfl, rp183, rx184⟩, by rw [ht]; exact hP, va_K.moved hW.alike hK, hD⟩, hS.F ht⟩) hS.2.2 dX5_abandon_104
            · skip
              have f192 : y26.toInt = 0 := b_eq rfl (by decide) c153
              refine lv_aload_n hx hb dX5_abandon_85 rfl (lv_at hl 2 rfl) ?_
              refine va_get (D := D) (ci := 5) (v := .ref (ad 3)) (fs := (xfMachine ad V18 L Z)) (C := RX5) (T := TX5) (N := 15) hx hb hg inX5 hown hK hP 5 xgMachine rfl 0 (by decide) (hg _ w667) (fun _ h9 => h9) rfl dX5_abandon_86 ?_
              refine lv_aload_n hx hb dX5_abandon_89 rfl (lv_at hl 3 rfl) ?_
              refine va_getN (D := D) (ci := 4) (v := .int (V18 72 gf)) (fs := (xfFrame V18 gf)) (C := RX4) (T := TX4) (N := 19) hx hb hg inX4 hown hK hP (336 + gf) (xgFrame hgf) rfl 5 (by decide) (hnw.use 1194 n1194 rfl) (fun _ h9 => h9) rfl dX5_abandon_90 ?_
              refine g_top (v := (V 72 gf)) ((up2_o hV18 (by decide)).trans (up2_o hV24 (by decide))) ?_
              have r193 : 0 ≤ ((V 72 gf)).toInt ∧ ((V 72 gf)).toInt ≤ 39 := hMV 72 gf
              refine lv_aload_n hx hb dX5_abandon_93 rfl (lv_at hl 3 rfl) ?_
              refine va_getN (D := D) (ci := 4) (v := .int (V18 71 gf)) (fs := (xfFrame V18 gf)) (C := RX4) (T := TX4) (N := 19) hx hb hg inX4 hown hK hP (336 + gf) (xgFrame hgf) rfl 4 (by decide) (hnw.use 1193 n1193 rfl) (fun _ h9 => h9) rfl dX5_abandon_94 ?_
              refine g_top (v := (V 71 gf)) ((up2_o hV18 (by decide)).trans (up2_o hV24 (by decide))) ?_
              refine gA_void (gA_runV (As := [.int (V 72 gf), .int (V 71 gf)]) (rest := []) (ci := 8) (q0 := 3) hx hb hml hown hg hP hD hK hS hA hnw hgk (x_spoil9 l D ks H.size ad kk V18 L Z (V 72 gf) (V 71 gf) hMV18 (by first | exact om_13ba01c174fe r193.1 r193.2 | first | omega | ((try (have i_bc := Imp.go bc (by omega))); (try (have i_rwq := Imp.go rwq (by omega))); (try (have i_mo := Imp.go mo (by omega))); (try (have i_mo := Imp.go mo (by omega))); (try (have i_rwq := Imp.go rwq (by omega))); (try (have i_bc := Imp.go bc (by omega))); omega)) (show 0 ≤ ((V 71 gf)).toInt from by first | exact om_50dfdfbb9dc6 kc30 | first | omega | ((try (have i_bc := Imp.go bc (by omega))); (try (have i_rwq := Imp.go rwq (by omega))); (try (have i_mo := Imp.go mo (by omega))); (try (have i_mo := Imp.go mo (by omega))); (try (have i_rwq := Imp.go rwq (by omega))); (try (have i_bc := Imp.go bc (by omega))); omega)) (show ((V 71 gf)).toInt ≤ 23 from by first | exact om_851a31618d2d r3.2 | first | omega | ((try (have i_bc := Imp.go bc (by omega))); (try (have i_rwq := Imp.go rwq (by omega))); (try (have i_mo := Imp.go mo (by omega))); (try (have i_mo := Imp.go mo (by omega))); (try (have i_rwq := Imp.go rwq (by omega))); (try (have i_bc := Imp.go bc (by omega))); omega))) w1340 w1341 w1342 w164 w1343 rfl xgStock hdV_yX8_spoil ⟨Nat.le_of_ble_eq_true rfl, Nat.le_of_ble_eq_true rfl⟩ rfl hl.1 rfl (Nat.le_of_ble_eq_true rfl) dX5_abandon_97 ⟨Nat.le_of_ble_eq_true rfl, Nat.le_of_ble_eq_true rfl⟩) hP hD hK hS hA (fun u195 H locs w196 hP hD hK hS => ?_)
              obtain ⟨V198, L199⟩ := u195
              obtain ⟨hMV198, ajV198, axL199, t197⟩ := w196
              have axL199 : L = L199 := Eq.symm axL199
              subst axL199
              have hP : va_P D vwCl (xw ad kk V198 L Z) H := hP
              have hD : va_D A (xw ad kk V198 L Z) := hD
              have hMV198 : rgd bX V198 := hMV198
              have ajV198 : agr [] [24] V18 V198 := ajV198
              have agV198 : agr [(5, 6)] [24, 25, 28] V V198 := agV18.tr ajV198 (by decide) (by decide)
              have t197 : (∀ j : Nat, j < 24 → (bt (V198 24 (Int32.toNatClampNeg (V 72 gf))) j = true ↔ (j = Int32.toNatClampNeg (V 71 gf) ∨ bt (V18 24 (Int32.toNatClampNeg (V 72 gf))) j = true))) ∧ ∀ x : Nat, x ≠ Int32.toNatClampNeg (V 72 gf) → V198 24 x = V18 24 x := t197
              refine lv_aload_n hx hb dX5_abandon_100 rfl (lv_at hl 2 rfl) ?_
              have pq200 : (V198 5 6).toInt = ((V 5 6)).toInt := congrArg Int32.toInt ((ajV198 5 6 rfl).trans ((up2_o hV18 (by decide)).trans (up2_o hV24 (by decide))))
              refine gA_void (gA_runV (As := []) (rest := []) (ci := 5) (q0 := 5) hx hb hml hown hg hP hD hK hS hA hnw hgk (x_leave9 l D ks H.size ad kk V198 L Z  hMV198 (show 1 ≤ (V198 5 6).toInt from by first | exact om_0cac171fa40c gd pq200 | first | omega | ((try (have i_bc := Imp.go bc (by omega))); (try (have i_rwq := Imp.go rwq (by omega))); (try (have i_mo := Imp.go mo (by omega))); (try (have i_mo := Imp.go mo (by omega))); (try (have i_rwq := Imp.go rwq (by omega))); (try (have i_bc := Imp.go bc (by omega))); omega))) w1308 w1310 w50 w171 w1311 rfl xgMachine hdV_yX5_leave ⟨Nat.le_of_ble_eq_true rfl, Nat.le_of_ble_eq_true rfl⟩ rfl hl.1 rfl (Nat.le_of_ble_eq_true rfl) dX5_abandon_101 ⟨Nat.le_of_ble_eq_true rfl, Nat.le_of_ble_eq_true rfl⟩) hP hD hK hS hA (fun u202 H locs w203 hP hD hK hS => ?_)
              obtain ⟨V206, L207⟩ := u202
              obtain ⟨hMV206, ajV206, axL207, t204, t205⟩ := w203
              have axL207 : L = L207 := Eq.symm axL207
              subst axL207
              have hP : va_P D vwCl (xw ad kk V206 L Z) H := hP
              have hD : va_D A (xw ad kk V206 L Z) := hD
              have hMV206 : rgd bX V206 := hMV206
              have ajV206 : agr [(5, 6)] [] V198 V206 := ajV206
              have agV206 : agr [(5, 6)] [24, 25, 28] V V206 := agV198.tr ajV206 (by decide) (by decide)
              have t204 : (V206 5 6).toInt = (V198 5 6).toInt - 1 := t204
              have t205 : ((True) ∧ V206 = (up2 V198 5 6 (V198 5 6 - 1))) := t205
              have r208 : 0 ≤ ((V206 5 6)).toInt ∧ ((V206 5 6)).toInt ≤ 400 := hMV206 5 6
              have hw209 := t205.2
              obtain ⟨z210, ez210⟩ : ∃ y : Int32, y = V198 5 6 - 1 := ⟨_, rfl⟩
              have hz210 : z210.toInt = (V198 5 6).toInt - 1 := i_sub ez210 rfl (by decide) (by first | exact om_1c0ddc14e6cd gd sl8 pq200 | first | omega | ((try (have i_bc := Imp.go bc (by omega))); (try (have i_rwq := Imp.go rwq (by omega))); (try (have i_mo := Imp.go mo (by omega))); (try (have i_mo := Imp.go mo (by omega))); (try (have i_rwq := Imp.go rwq (by omega))); (try (have i_bc := Imp.go bc (by omega))); omega))
              have hV206 : V206 = up2 V198 5 6 z210 := by rw [hw209, ez210]
              have me211 : ME V V206 gf := (ME.up (ME.tr (ME.up (ME.up ME.rf hV24 (Or.inr (by omega))) hV18 (Or.inr (by omega))) (ME.ag ajV198 (by decide))) hV206 (Or.inr (by omega)))
              have pq212 : (V206 67 gf).toInt = ((V 67 gf)).toInt := congrArg Int32.toInt ((up2_o hV206 (by decide)).trans ((ajV198 67 gf rfl).trans ((up2_o hV18 (by decide)).trans (up2_o hV24 (by decide)))))
              have pq213 : (V206 68 gf).toInt = ((V 68 gf)).toInt := congrArg Int32.toInt ((up2_o hV206 (by decide)).trans ((ajV198 68 gf rfl).trans ((up2_o hV18 (by decide)).trans (up2_o hV24 (by decide)))))
              have pq214 : (V206 70 gf).toInt = ((V 70 gf)).toInt := congrArg Int32.toInt ((up2_o hV206 (by decide)).trans ((ajV198 70 gf rfl).trans ((up2_o hV18 (by decide)).trans (up2_o hV24 (by decide)))))
              have pq215 : (V206 71 gf).toInt = ((V 71 gf)).toInt := congrArg Int32.toInt ((up2_o hV206 (by decide)).trans ((ajV198 71 gf rfl).trans ((up2_o hV18 (by decide)).trans (up2_o hV24 (by decide)))))
              have pq216 : (V206 75 gf).toInt = ((V 75 gf)).toInt := congrArg Int32.toInt ((up2_o hV206 (by decide)).trans ((ajV198 75 gf rfl).trans ((up2_o hV18 (by decide)).trans (up2_o hV24 (by decide)))))
              have pq217 : (V206 76 gf).toInt = ((V 76 gf)).toInt := congrArg Int32.toInt ((up2_o hV206 (by decide)).trans ((ajV198 76 gf rfl).trans ((up2_o hV18 (by decide)).trans (up2_o hV24 (by decide)))))
              have pq218 : (V206 80 gf).toInt = ((V 80 gf)).toInt := congrArg Int32.toInt ((up2_o hV206 (by decide)).trans ((ajV198 80 gf rfl).trans ((up2_o hV18 (by decide)).trans (up2_o hV24 (by decide)))))
              have pq219 : (V206 84 gf).toInt = ((V 84 gf)).toInt := congrArg Int32.toInt ((up2_o hV206 (by decide)).trans ((ajV198 84 gf rfl).trans ((up2_o hV18 (by decide)).trans (up2_o hV24 (by decide)))))
              have pq220 : (V206 5 6).toInt = z210.toInt := congrArg Int32.toInt (up2_s hV206)
              have pq221 : (V206 5 8).toInt = ((V 5 8)).toInt := congrArg Int32.toInt ((up2_k hV206 (by decide)).trans ((ajV198 5 8 rfl).trans ((up2_o hV18 (by decide)).trans (up2_o hV24 (by decide)))))
              have pq222 : (V206 5 9).toInt = ((V 5 9)).toInt := congrArg Int32.toInt ((up2_k hV206 (by decide)).trans ((ajV198 5 9 rfl).trans ((up2_o hV18 (by decide)).trans (up2_o hV24 (by decide)))))
              have pq223 : (V206 3 13).toInt = ((V 3 13)).toInt := congrArg Int32.toInt ((up2_o hV206 (by decide)).trans ((ajV198 3 13 rfl).trans ((up2_o hV18 (by decide)).trans (up2_o hV24 (by decide)))))
              have pq224 : (V206 43 (5 * b + 2)).toInt = ((V 43 (5 * b + 2))).toInt := congrArg Int32.toInt ((up2_o hV206 (by decide)).trans ((ajV198 43 (5 * b + 2) rfl).trans ((up2_o hV18 (by decide)).trans (up2_o hV24 (by decide)))))
              have pq225 : (V206 42 b).toInt = ((V 42 b)).toInt := congrArg Int32.toInt ((up2_o hV206 (by decide)).trans ((ajV198 42 b rfl).trans ((up2_o hV18 (by decide)).trans (up2_o hV24 (by decide)))))
              have pq226 : (V206 41 b).toInt = ((V 41 b)).toInt := congrArg Int32.toInt ((up2_o hV206 (by decide)).trans ((ajV198 41 b rfl).trans ((up2_o hV18 (by decide)).trans (up2_o hV24 (by decide)))))
              have rp227 : MJ V206 Z b := MP.lv (MO.mp mo) me211 (by (first | exact om_dca0de52e899 gd pq200 hz210 pq220 | omega)) (fun _ => Or.inl (by omega))
              have dx9 : (Int32.toNatClampNeg (V 70 gf)) = o.toNat := by have h9 := i_clamp (x := (V 70 gf)) rfl (by omega); (first | exact om_890eb046e93a ko9 | omega)
              have do9 : ((o.toNat : Nat) : Int) < gm 0 2 := by omega
              have db9 := (rn).2.1 _ do9
              have ds9 : 24 * Int32.toNatClampNeg (V 27 (Int32.toNatClampNeg (V 70 gf))) + Int32.toNatClampNeg (V 26 (Int32.toNatClampNeg (V 70 gf))) = 24 * (gm 2 o.toNat).toNat + (gm 1 o.toNat).toNat := by rw [dx9]; have h1 := db9.1.1; have h2 := db9.1.2.1; have h3 := i_clamp (x := V 27 o.toNat) rfl (by omega); have h4 := i_clamp (x := V 26 o.toNat) rfl (by omega); omega
              have rn229 : RWn V18 ow gB (mU gm 3 o.toNat 2) := RWn.drop rn do9 (fun x9 hx9 => (up2_o hV18 (by decide)).trans (up2_k hV24 (by rw [dx9]; exact hx9))) (by rw [← dx9, (up2_o hV18 (by decide)).trans (up2_s hV24)]; decide) (fun k9 hk9 => (up2_k hV18 (by rw [ds9]; exact hk9)).trans (up2_o hV24 (by decide))) (by rw [← ds9, up2_s hV18, if_pos (by rw [← dx9]; have h9 := i_clamp (x := (V 70 gf)) rfl (by omega); omega)]; decide) (fun c9 k9 h1 h2 h3 => ((show V18 c9 k9 = V24 c9 k9 from by rw [hV18]; exact up2_pl (by omega)).trans (show V24 c9 k9 = V c9 k9 from by rw [hV24]; exact up2_pl (by omega))))
              have s51 : (V 51 (24 * b + Int32.toNatClampNeg (V 71 gf))).toInt = ((bS gB c.toNat : Nat) : Int) := by rw [kc9]; exact BKc.sc bc cn9
              have rh2 : gm 0 6 = 2 → (V 5 11).toInt = gm 0 8 ∧ (V 5 12).toInt = gm 0 9 := rh.2.2.1
              have so9 := t197
              rw [kp9, kc9] at so9
              have n249 := bc.2.2.2.1.2.1
              have rs9 : RWn V198 ow gB (mU (mU gm 3 o.toNat 2) 8 (24 * pl.toNat + c.toNat) 1) := RWn.spoil rn229 (show ((pl.toNat : Nat) : Int) < (V18 3 12).toInt from by rw [((up2_o hV18 (by decide)).trans (up2_o hV24 (by decide)))]; omega) (by (first | exact om_0d80a9462261 r3.2 kc9 kc30 | omega)) so9.1 so9.2 (fun a9 j9 h1 h2 => agr_24 ajV198 h2)
              have rn5 : RWn V206 ow gB (mU (mU gm 3 o.toNat 2) 8 (24 * pl.toNat + c.toNat) 1) := RWn.es rs9 (ESw.ag (show agr [(5, 6)] [] V198 V206 from (agr.up agr.rf hV206 rfl)) (by decide))
              have me230 : ME V V206 gf := (ME.up (ME.tr (ME.up (ME.up ME.rf hV24 (Or.inr (by omega))) hV18 (Or.inr (by omega))) (ME.ag ajV198 (by decide))) hV206 (Or.inr (by omega)))
              have rl231 : RWl V206 gB gr t0 := RWl.mv hlr (fun i9 hi9 c9 h1 h2 => me230.2.1 c9 i9 h1 h2 (by omega)) (fun j9 hj9 => ((up2_o hV206 (by decide)).trans ((ajV198 39 j9 rfl).trans ((up2_o hV18 (by decide)).trans (up2_o hV24 (by decide)))))) (by rw [((up2_o hV206 (by decide)).trans ((ajV198 3 13 rfl).trans ((up2_o hV18 (by decide)).trans (up2_o hV24 (by decide)))))]; exact Int.le_refl _) ((up2_o hV206 (by decide)).trans ((ajV198 3 12 rfl).trans ((up2_o hV18 (by decide)).trans (up2_o hV24 (by decide)))))
              have pq232 : (V206 5 7).toInt = ((V 5 7)).toInt := congrArg Int32.toInt ((up2_k hV206 (by decide)).trans ((ajV198 5 7 rfl).trans ((up2_o hV18 (by decide)).trans (up2_o hV24 (by decide)))))
              have r233 : 0 ≤ ((V 5 7)).toInt ∧ ((V 5 7)).toInt ≤ 2048 := hMV 5 7
              have pq234 : (V206 5 11).toInt = ((V 5 11)).toInt := congrArg Int32.toInt ((up2_k hV206 (by decide)).trans ((ajV198 5 11 rfl).trans ((up2_o hV18 (by decide)).trans (up2_o hV24 (by decide)))))
              have pq235 : (V206 5 12).toInt = ((V 5 12)).toInt := congrArg Int32.toInt ((up2_k hV206 (by decide)).trans ((ajV198 5 12 rfl).trans ((up2_o hV18 (by decide)).trans (up2_o hV24 (by decide)))))
              have rz9 : RW V206 gB ((mU (mU gm 3 o.toNat 2) 8 (24 * pl.toNat + c.toNat) 1), ga, gr) := RW.fin rwq rn5 (by rw [mU_o _ _ (by omega), mU_o _ _ (by omega)]) (fun i9 => by rw [mU_o _ _ (by omega), mU_o _ _ (by omega)]) ((up2_k hV206 (by decide)).trans ((ajV198 5 8 rfl).trans ((up2_o hV18 (by decide)).trans (up2_o hV24 (by decide))))) (fun i9 => ((up2_o hV206 (by decide)).trans ((ajV198 40 i9 rfl).trans ((up2_o hV18 (by decide)).trans (up2_o hV24 (by decide)))))) (by rw [mU_o _ _ (by omega), mU_o _ _ (by omega)]; omega) (fun h9 => by rw [mU_o _ _ (by omega), mU_o _ _ (by omega)] at h9; exfalso; omega) (fun h9 => by rw [mU_o _ _ (by omega), mU_o _ _ (by omega)] at h9; rw [mU_o _ _ (by omega), mU_o _ _ (by omega), mU_o _ _ (by omega), mU_o _ _ (by omega)]; have h8 := rh2 h9; exact ⟨by omega, by omega⟩) (show (V206 5 6).toInt = ((gr.length : Nat) : Int) from by (first | exact om_f00ff43a6068 rd2 pq200 hz210 pq220 | omega)) (show (V206 5 7).toInt = ((t0 : Nat) : Int) from by rw [((up2_k hV206 (by decide)).trans ((ajV198 5 7 rfl).trans ((up2_o hV18 (by decide)).trans (up2_o hV24 (by decide))))), rt9, tz9]) rl231
              have rx228 : RW V206 gB (mAb gB gm (V 70 gf).toInt (V 71 gf).toInt (V 72 gf).toInt, ga, gr) := by rw [q70, q71, q72, ab_y (show gm 0 6 = 2 from by (first | exact om_96d4fa0da761 sg7.1 rh1 f152 | omega)) (by omega) (by have h9 := rh2 (by omega); have h8 := PAS.n xJ25_0 (by omega); exact ⟨fun h7 => h8.1 (h9.2.trans h7), fun h7 => h8.2.1 (h9.2.trans h7), fun h7 => h8.2.2 (h9.2.trans h7)⟩)]; exact rz9
              exact W.vret hx hb hr (fun t ht hW => ⟨⟨(V206, L), rfl, ⟨hMV206, agV206, rfl, rp227, rx228⟩, by rw [ht]; exact hP, va_K.moved hW.alike hK, hD⟩, hS.F ht⟩) hS.2.2 dX5_abandon_104
      refine lv_icmp_eq (tgt := 38) hx hb dX5_abandon_17 (by decide) (fun c236 => ?_) (fun c236 => ?_)
      · skip
        have f237 : ((V 5 12)).toInt = 12 := b_eq rfl (by decide) c236
        refine lv_iconst (v := 1) hx hb dX5_abandon_38 (by decide) ?_
        refine lv_goto (tgt := 43) hx hb dX5_abandon_39 (by decide) ?_
        have r238 : Int32.toInt 1 = 1 := by decide
        exact J25 1 H locs ls (by decide) (show PAS (Int32.toInt 1) (V 5 12).toInt from Or.inl ⟨by decide, by omega⟩) hP hD hS (lv_sub hl [0, 1] rfl)
      · skip
        have f239 : ((V 5 12)).toInt ≠ 12 := b_neq rfl (by decide) c236
        refine lv_aload_n hx hb dX5_abandon_20 rfl (lv_at hl 0 rfl) ?_
        refine va_get (D := D) (ci := 5) (v := .int (V18 5 12)) (fs := (xfMachine ad V18 L Z)) (C := RX5) (T := TX5) (N := 15) hx hb hg inX5 hown hK hP 5 xgMachine rfl 12 (by decide) (hg _ w679) (fun _ h9 => h9) rfl dX5_abandon_21 ?_
        refine g_top (v := (V 5 12)) ((up2_o hV18 (by decide)).trans (up2_o hV24 (by decide))) ?_
        refine lv_bipush (v := 13) hx hb dX5_abandon_24 (by decide) ?_
        refine lv_icmp_eq (tgt := 38) hx hb dX5_abandon_26 (by decide) (fun c240 => ?_) (fun c240 => ?_)
        · skip
          have f241 : ((V 5 12)).toInt = 13 := b_eq rfl (by decide) c240
          refine lv_iconst (v := 1) hx hb dX5_abandon_38 (by decide) ?_
          refine lv_goto (tgt := 43) hx hb dX5_abandon_39 (by decide) ?_
          have r242 : Int32.toInt 1 = 1 := by decide
          exact J25 1 H locs ls (by decide) (show PAS (Int32.toInt 1) (V 5 12).toInt from Or.inl ⟨by decide, by omega⟩) hP hD hS (lv_sub hl [0, 1] rfl)
        · skip
          have f243 : ((V 5 12)).toInt ≠ 13 := b_neq rfl (by decide) c240
          refine lv_aload_n hx hb dX5_abandon_29 rfl (lv_at hl 0 rfl) ?_
          refine va_get (D := D) (ci := 5) (v := .int (V18 5 12)) (fs := (xfMachine ad V18 L Z)) (C := RX5) (T := TX5) (N := 15) hx hb hg inX5 hown hK hP 5 xgMachine rfl 12 (by decide) (hg _ w679) (fun _ h9 => h9) rfl dX5_abandon_30 ?_
          refine g_top (v := (V 5 12)) ((up2_o hV18 (by decide)).trans (up2_o hV24 (by decide))) ?_
          refine lv_bipush (v := 16) hx hb dX5_abandon_33 (by decide) ?_
          refine lv_icmp_ne (tgt := 42) hx hb dX5_abandon_35 (by decide) (fun c244 => ?_) (fun c244 => ?_)
          · skip
            have f245 : ((V 5 12)).toInt ≠ 16 := b_neq rfl (by decide) c244
            refine lv_iconst (v := 0) hx hb dX5_abandon_42 (by decide) ?_
            have r246 : Int32.toInt 0 = 0 := by decide
            exact J25 0 H locs ls (by decide) (show PAS (Int32.toInt 0) (V 5 12).toInt from Or.inr ⟨by decide, by omega, by omega, by omega⟩) hP hD hS (lv_sub hl [0, 1] rfl)
          · skip
            have f247 : ((V 5 12)).toInt = 16 := b_eq rfl (by decide) c244
            refine lv_iconst (v := 1) hx hb dX5_abandon_38 (by decide) ?_
            refine lv_goto (tgt := 43) hx hb dX5_abandon_39 (by decide) ?_
            have r248 : Int32.toInt 1 = 1 := by decide
            exact J25 1 H locs ls (by decide) (show PAS (Int32.toInt 1) (V 5 12).toInt from Or.inl ⟨by decide, by omega⟩) hP hD hS (lv_sub hl [0, 1] rfl)
    · skip
      have hV18 : V18 = up2 V 28 (Int32.toNatClampNeg (V 70 gf)) 2 := by rw [hw23]
      refine lv_aload_n hx hb dX5_abandon_11 rfl (lv_at hl 0 rfl) ?_
      refine va_get (D := D) (ci := 5) (v := .int (V18 5 12)) (fs := (xfMachine ad V18 L Z)) (C := RX5) (T := TX5) (N := 15) hx hb hg inX5 hown hK hP 5 xgMachine rfl 12 (by decide) (hg _ w679) (fun _ h9 => h9) rfl dX5_abandon_12 ?_
      refine g_top (v := (V 5 12)) (up2_o hV18 (by decide)) ?_
      refine lv_bipush (v := 12) hx hb dX5_abandon_15 (by decide) ?_
      have J249 : ∀ (y250 : Int32) (H : Heap) (locs : List Loc) (ls : Array Slot), 0 ≤ y250.toInt ∧ y250.toInt ≤ 1 → (PAS y250.toInt (V 5 12).toInt) → va_P D vwCl (xw ad kk V18 L Z) H → va_D A (xw ad kk V18 L Z) → va_S A s.heap H locs → lv_has ls 4 [(0, .ref (ad 5)), (1, .ref (Z.fa gf))] → W p l e r_x_abandon9 s m ([.ref (ad 5), .ref (Z.fa gf)] : List Value).toArray below meth cq9 H locs 0 0 (MQ below (q_x_abandon9 D ks ad kk V L Z  b gf gB gm ga gfr gr A) ([.ref (ad 5), .ref (Z.fa gf)] : List Value).toArray s 0 0 A) (F0 m 43 ls [.int y250]) := by
        intro y250 H locs ls kJ249_0 xJ249_0 hP hD hS hl
        refine lv_istore_n (lv' := [(2, .int y250), (0, .ref (ad 5)), (1, .ref (Z.fa gf))]) hx hb dX5_abandon_43 rfl hl (by decide) rfl (fun ls hl => ?_)
        refine lv_aload_n hx hb dX5_abandon_44 rfl (lv_at hl 1 rfl) ?_
        refine va_get (D := D) (ci := 5) (v := .ref (ad (38 + Int32.toNatClampNeg (V18 5 5)))) (fs := (xfMachine ad V18 L Z)) (C := RX5) (T := TX5) (N := 15) hx hb hg inX5 hown hK hP 5 xgMachine rfl 5 (by decide) (hg _ w672) (fun _ h9 => h9) rfl dX5_abandon_45 ?_
        have pq251 : (V18 5 5).toInt = ((V 5 5)).toInt := congrArg Int32.toInt (up2_o hV18 (by decide))
        have r252 : 0 ≤ ((V 5 5)).toInt ∧ ((V 5 5)).toInt ≤ 1 := hMV 5 5
        refine g_topv (v := .ref (ad (38 + b))) (rfP (by first | omega | ((try (have i_bc := Imp.go bc (by omega))); (try (have i_rwq := Imp.go rwq (by omega))); (try (have i_mo := Imp.go mo (by omega))); (try (have i_mo := Imp.go mo (by omega))); (try (have i_rwq := Imp.go rwq (by omega))); (try (have i_bc := Imp.go bc (by omega))); omega))) ?_
        refine va_getN (D := D) (ci := 0) (v := .ref (ad (64 + b))) (fs := (xfBook ad V18 b)) (C := RX0) (T := TX0) (N := 13) hx hb hg inX0 hown hK hP (38 + b) (xgBook hb2) rfl 7 (by decide) (hnw.use 618 n618 rfl) (fun _ h9 => h9) rfl dX5_abandon_48 ?_
        refine lv_aload_n hx hb dX5_abandon_51 rfl (lv_at hl 2 rfl) ?_
        refine va_getN (D := D) (ci := 4) (v := .int (V18 71 gf)) (fs := (xfFrame V18 gf)) (C := RX4) (T := TX4) (N := 19) hx hb hg inX4 hown hK hP (336 + gf) (xgFrame hgf) rfl 4 (by decide) (hnw.use 1193 n1193 rfl) (fun _ h9 => h9) rfl dX5_abandon_52 ?_
        refine g_top (v := (V 71 gf)) (up2_o hV18 (by decide)) ?_
        have il253 : b < 2 := by first | exact om_f940a4667dd6 hb2 | first | omega | ((try (have i_bc := Imp.go bc (by omega))); (try (have i_rwq := Imp.go rwq (by omega))); (try (have i_mo := Imp.go mo (by omega))); (try (have i_mo := Imp.go mo (by omega))); (try (have i_rwq := Imp.go rwq (by omega))); (try (have i_bc := Imp.go bc (by omega))); omega)
        refine va_aldq (D := D) (i := (V 71 gf)) hx hb hK hP (64 + b) (57 + b) (xgcomps il253) (xtcomps il253) (i_in (a := ((V 71 gf)).toInt) rfl (by first | omega | ((try (have i_bc := Imp.go bc (by omega))); (try (have i_rwq := Imp.go rwq (by omega))); (try (have i_mo := Imp.go mo (by omega))); (try (have i_mo := Imp.go mo (by omega))); (try (have i_rwq := Imp.go rwq (by omega))); (try (have i_bc := Imp.go bc (by omega))); omega))) dX5_abandon_55 ?_
        have kc254 := i_clamp (x := (V 71 gf)) rfl (by first | omega | ((try (have i_bc := Imp.go bc (by omega))); (try (have i_rwq := Imp.go rwq (by omega))); (try (have i_mo := Imp.go mo (by omega))); (try (have i_mo := Imp.go mo (by omega))); (try (have i_rwq := Imp.go rwq (by omega))); (try (have i_bc := Imp.go bc (by omega))); omega))
        refine g_topv (v := .ref (ad (72 + (24 * b + (Int32.toNatClampNeg (V 71 gf)))))) (congrArg va_rf (if_pos (by first | omega | ((try (have i_bc := Imp.go bc (by omega))); (try (have i_rwq := Imp.go rwq (by omega))); (try (have i_mo := Imp.go mo (by omega))); (try (have i_mo := Imp.go mo (by omega))); (try (have i_rwq := Imp.go rwq (by omega))); (try (have i_bc := Imp.go bc (by omega))); omega)))) ?_
        have il255 : (24 * b + (Int32.toNatClampNeg (V 71 gf))) < 48 := by first | exact om_31a61188bc78 hb2 r3.2 kc254 | first | omega | ((try (have i_bc := Imp.go bc (by omega))); (try (have i_rwq := Imp.go rwq (by omega))); (try (have i_mo := Imp.go mo (by omega))); (try (have i_mo := Imp.go mo (by omega))); (try (have i_rwq := Imp.go rwq (by omega))); (try (have i_bc := Imp.go bc (by omega))); omega)
        refine va_getN (D := D) (ci := 3) (v := .int (V18 51 (24 * b + (Int32.toNatClampNeg (V 71 gf))))) (fs := (xfComp ad V18 (24 * b + (Int32.toNatClampNeg (V 71 gf))))) (C := RX3) (T := TX3) (N := 13) hx hb hg inX3 hown hK hP (72 + (24 * b + (Int32.toNatClampNeg (V 71 gf)))) (xgComp il255) rfl 6 (by decide) (hnw.use 522 n522 rfl) (fun _ h9 => h9) rfl dX5_abandon_56 ?_
        refine g_top (v := (V 51 (24 * b + (Int32.toNatClampNeg (V 71 gf))))) (up2_o hV18 (by decide)) ?_
        have r256 : 0 ≤ ((V 51 (24 * b + (Int32.toNatClampNeg (V 71 gf))))).toInt ∧ ((V 51 (24 * b + (Int32.toNatClampNeg (V 71 gf))))).toInt ≤ 3 := hMV 51 (24 * b + (Int32.toNatClampNeg (V 71 gf)))
        refine lv_iconst (v := 3) hx hb dX5_abandon_59 (by decide) ?_
        refine lv_icmp_eq (tgt := 67) hx hb dX5_abandon_60 (by decide) (fun c257 => ?_) (fun c257 => ?_)
        · skip
          have f258 : ((V 51 (24 * b + (Int32.toNatClampNeg (V 71 gf))))).toInt = 3 := b_eq rfl (by decide) c257
          refine lv_iconst (v := 0) hx hb dX5_abandon_67 (by decide) ?_
          refine lv_istore_n (lv' := [(3, .int 0), (2, .int y250), (0, .ref (ad 5)), (1, .ref (Z.fa gf))]) hx hb dX5_abandon_68 rfl hl (by decide) rfl (fun ls hl => ?_)
          refine lv_aload_n hx hb dX5_abandon_69 rfl (lv_at hl 2 rfl) ?_
          refine va_get (D := D) (ci := 5) (v := .int (V18 5 9)) (fs := (xfMachine ad V18 L Z)) (C := RX5) (T := TX5) (N := 15) hx hb hg inX5 hown hK hP 5 xgMachine rfl 9 (by decide) (hg _ w676) (fun _ h9 => h9) rfl dX5_abandon_70 ?_
          refine g_top (v := (V 5 9)) (up2_o hV18 (by decide)) ?_
          refine lv_iconst (v := 2) hx hb dX5_abandon_73 (by decide) ?_
          refine lv_icmp_ne (tgt := 100) hx hb dX5_abandon_74 (by decide) (fun c259 => ?_) (fun c259 => ?_)
          · skip
            have f260 : ((V 5 9)).toInt ≠ 2 := b_neq rfl (by decide) c259
            have f261 : 3 ≤ ((V 5 9)).toInt := by (first | exact om_5241ad6bc921 sg7.1 f260 | omega)
            clear f260
            refine lv_aload_n hx hb dX5_abandon_100 rfl (lv_at hl 2 rfl) ?_
            have pq262 : (V18 5 6).toInt = ((V 5 6)).toInt := congrArg Int32.toInt (up2_o hV18 (by decide))
            refine gA_void (gA_runV (As := []) (rest := []) (ci := 5) (q0 := 5) hx hb hml hown hg hP hD hK hS hA hnw hgk (x_leave9 l D ks H.size ad kk V18 L Z  hMV18 (show 1 ≤ (V18 5 6).toInt from by first | exact om_0cac171fa40c gd pq262 | first | omega | ((try (have i_bc := Imp.go bc (by omega))); (try (have i_rwq := Imp.go rwq (by omega))); (try (have i_mo := Imp.go mo (by omega))); (try (have i_mo := Imp.go mo (by omega))); (try (have i_rwq := Imp.go rwq (by omega))); (try (have i_bc := Imp.go bc (by omega))); omega))) w1308 w1310 w50 w171 w1311 rfl xgMachine hdV_yX5_leave ⟨Nat.le_of_ble_eq_true rfl, Nat.le_of_ble_eq_true rfl⟩ rfl hl.1 rfl (Nat.le_of_ble_eq_true rfl) dX5_abandon_101 ⟨Nat.le_of_ble_eq_true rfl, Nat.le_of_ble_eq_true rfl⟩) hP hD hK hS hA (fun u264 H locs w265 hP hD hK hS => ?_)
            obtain ⟨V268, L269⟩ := u264
            obtain ⟨hMV268, ajV268, axL269, t266, t267⟩ := w265
            have axL269 : L = L269 := Eq.symm axL269
            subst axL269
            have hP : va_P D vwCl (xw ad kk V268 L Z) H := hP
            have hD : va_D A (xw ad kk V268 L Z) := hD
            have hMV268 : rgd bX V268 := hMV268
            have ajV268 : agr [(5, 6)] [] V18 V268 := ajV268
            have agV268 : agr [(5, 6)] [24, 25, 28] V V268 := agV18.tr ajV268 (by decide) (by decide)
            have t266 : (V268 5 6).toInt = (V18 5 6).toInt - 1 := t266
            have t267 : ((True) ∧ V268 = (up2 V18 5 6 (V18 5 6 - 1))) := t267
            have r270 : 0 ≤ ((V268 5 6)).toInt ∧ ((V268 5 6)).toInt ≤ 400 := hMV268 5 6
            have hw271 := t267.2
            obtain ⟨z272, ez272⟩ : ∃ y : Int32, y = V18 5 6 - 1 := ⟨_, rfl⟩
            have hz272 : z272.toInt = (V18 5 6).toInt - 1 := i_sub ez272 rfl (by decide) (by first | exact om_1c0ddc14e6cd gd sl8 pq262 | first | omega | ((try (have i_bc := Imp.go bc (by omega))); (try (have i_rwq := Imp.go rwq (by omega))); (try (have i_mo := Imp.go mo (by omega))); (try (have i_mo := Imp.go mo (by omega))); (try (have i_rwq := Imp.go rwq (by omega))); (try (have i_bc := Imp.go bc (by omega))); omega))
            have hV268 : V268 = up2 V18 5 6 z272 := by rw [hw271, ez272]
            have me273 : ME V V268 gf := (ME.up (ME.up ME.rf hV18 (Or.inr (by omega))) hV268 (Or.inr (by omega)))
            have pq274 : (V268 67 gf).toInt = ((V 67 gf)).toInt := congrArg Int32.toInt ((up2_o hV268 (by decide)).trans (up2_o hV18 (by decide)))
            have pq275 : (V268 68 gf).toInt = ((V 68 gf)).toInt := congrArg Int32.toInt ((up2_o hV268 (by decide)).trans (up2_o hV18 (by decide)))
            have pq276 : (V268 70 gf).toInt = ((V 70 gf)).toInt := congrArg Int32.toInt ((up2_o hV268 (by decide)).trans (up2_o hV18 (by decide)))
            have pq277 : (V268 71 gf).toInt = ((V 71 gf)).toInt := congrArg Int32.toInt ((up2_o hV268 (by decide)).trans (up2_o hV18 (by decide)))
            have pq278 : (V268 75 gf).toInt = ((V 75 gf)).toInt := congrArg Int32.toInt ((up2_o hV268 (by decide)).trans (up2_o hV18 (by decide)))
            have pq279 : (V268 76 gf).toInt = ((V 76 gf)).toInt := congrArg Int32.toInt ((up2_o hV268 (by decide)).trans (up2_o hV18 (by decide)))
            have pq280 : (V268 80 gf).toInt = ((V 80 gf)).toInt := congrArg Int32.toInt ((up2_o hV268 (by decide)).trans (up2_o hV18 (by decide)))
            have pq281 : (V268 84 gf).toInt = ((V 84 gf)).toInt := congrArg Int32.toInt ((up2_o hV268 (by decide)).trans (up2_o hV18 (by decide)))
            have pq282 : (V268 5 6).toInt = z272.toInt := congrArg Int32.toInt (up2_s hV268)
            have pq283 : (V268 5 8).toInt = ((V 5 8)).toInt := congrArg Int32.toInt ((up2_k hV268 (by decide)).trans (up2_o hV18 (by decide)))
            have pq284 : (V268 5 9).toInt = ((V 5 9)).toInt := congrArg Int32.toInt ((up2_k hV268 (by decide)).trans (up2_o hV18 (by decide)))
            have pq285 : (V268 3 13).toInt = ((V 3 13)).toInt := congrArg Int32.toInt ((up2_o hV268 (by decide)).trans (up2_o hV18 (by decide)))
            have pq286 : (V268 43 (5 * b + 2)).toInt = ((V 43 (5 * b + 2))).toInt := congrArg Int32.toInt ((up2_o hV268 (by decide)).trans (up2_o hV18 (by decide)))
            have pq287 : (V268 42 b).toInt = ((V 42 b)).toInt := congrArg Int32.toInt ((up2_o hV268 (by decide)).trans (up2_o hV18 (by decide)))
            have pq288 : (V268 41 b).toInt = ((V 41 b)).toInt := congrArg Int32.toInt ((up2_o hV268 (by decide)).trans (up2_o hV18 (by decide)))
            have rp289 : MJ V268 Z b := MP.lv (MO.mp mo) me273 (by (first | exact om_dca0de52e899 gd pq262 hz272 pq282 | omega)) (fun _ => Or.inl (by omega))
            have dx9 : (Int32.toNatClampNeg (V 70 gf)) = o.toNat := by have h9 := i_clamp (x := (V 70 gf)) rfl (by omega); (first | exact om_890eb046e93a ko9 | omega)
            have do9 : ((o.toNat : Nat) : Int) < gm 0 2 := by omega
            have db9 := (rn).2.1 _ do9
            have ds9 : 24 * Int32.toNatClampNeg (V 27 (Int32.toNatClampNeg (V 70 gf))) + Int32.toNatClampNeg (V 26 (Int32.toNatClampNeg (V 70 gf))) = 24 * (gm 2 o.toNat).toNat + (gm 1 o.toNat).toNat := by rw [dx9]; have h1 := db9.1.1; have h2 := db9.1.2.1; have h3 := i_clamp (x := V 27 o.toNat) rfl (by omega); have h4 := i_clamp (x := V 26 o.toNat) rfl (by omega); omega
            have rn291 : RWn V18 ow gB (mU gm 3 o.toNat 2) := RWn.drop rn do9 (fun x9 hx9 => up2_k hV18 (by rw [dx9]; exact hx9)) (by rw [← dx9, up2_s hV18]; decide) (fun k9 _ => up2_o hV18 (by decide)) (by rw [← ds9, up2_o hV18 (by decide), if_neg (by rw [← dx9]; have h9 := i_clamp (x := (V 70 gf)) rfl (by omega); omega)]) (fun c9 k9 h1 h2 h3 => (show V18 c9 k9 = V c9 k9 from by rw [hV18]; exact up2_pl (by omega)))
            have s51 : (V 51 (24 * b + Int32.toNatClampNeg (V 71 gf))).toInt = ((bS gB c.toNat : Nat) : Int) := by rw [kc9]; exact BKc.sc bc cn9
            have rh2 : gm 0 6 = 2 → (V 5 11).toInt = gm 0 8 ∧ (V 5 12).toInt = gm 0 9 := rh.2.2.1
            have rn5 : RWn V268 ow gB (mU gm 3 o.toNat 2) := RWn.es rn291 (ESw.ag (show agr [(5, 6)] [] V18 V268 from (agr.up agr.rf hV268 rfl)) (by decide))
            have me292 : ME V V268 gf := (ME.up (ME.up ME.rf hV18 (Or.inr (by omega))) hV268 (Or.inr (by omega)))
            have rl293 : RWl V268 gB gr t0 := RWl.mv hlr (fun i9 hi9 c9 h1 h2 => me292.2.1 c9 i9 h1 h2 (by omega)) (fun j9 hj9 => ((up2_o hV268 (by decide)).trans (up2_o hV18 (by decide)))) (by rw [((up2_o hV268 (by decide)).trans (up2_o hV18 (by decide)))]; exact Int.le_refl _) ((up2_o hV268 (by decide)).trans (up2_o hV18 (by decide)))
            have pq294 : (V268 5 7).toInt = ((V 5 7)).toInt := congrArg Int32.toInt ((up2_k hV268 (by decide)).trans (up2_o hV18 (by decide)))
            have r295 : 0 ≤ ((V 5 7)).toInt ∧ ((V 5 7)).toInt ≤ 2048 := hMV 5 7
            have pq296 : (V268 5 11).toInt = ((V 5 11)).toInt := congrArg Int32.toInt ((up2_k hV268 (by decide)).trans (up2_o hV18 (by decide)))
            have pq297 : (V268 5 12).toInt = ((V 5 12)).toInt := congrArg Int32.toInt ((up2_k hV268 (by decide)).trans (up2_o hV18 (by decide)))
            have rz9 : RW V268 gB ((mU gm 3 o.toNat 2), ga, gr) := RW.fin rwq rn5 (by rw [mU_o _ _ (by omega)]) (fun i9 => by rw [mU_o _ _ (by omega)]) ((up2_k hV268 (by decide)).trans (up2_o hV18 (by decide))) (fun i9 => ((up2_o hV268 (by decide)).trans (up2_o hV18 (by decide)))) (by rw [mU_o _ _ (by omega)]; omega) (fun h9 => by rw [mU_o _ _ (by omega)] at h9; exfalso; omega) (fun h9 => by rw [mU_o _ _ (by omega)] at h9; rw [mU_o _ _ (by omega), mU_o _ _ (by omega)]; have h8 := rh2 h9; exact ⟨by omega, by omega⟩) (show (V268 5 6).toInt = ((gr.length : Nat) : Int) from by (first | exact om_f00ff43a6068 rd2 pq262 hz272 pq282 | omega)) (show (V268 5 7).toInt = ((t0 : Nat) : Int) from by rw [((up2_k hV268 (by decide)).trans (up2_o hV18 (by decide))), rt9, tz9]) rl293
            have rx290 : RW V268 gB (mAb gB gm (V 70 gf).toInt (V 71 gf).toInt (V 72 gf).toInt, ga, gr) := by rw [q70, q71, q72, ab_n (fun h9 => by have h1 := h9.1; have h2 := h9.2.1; have h8 := rh2 h1; by_cases y1 : y250.toInt = 1; (rcases PAS.y xJ249_0 y1 with q9 | q9 | q9; (exact h9.2.2.1 (h8.2.symm.trans q9)); (exact h9.2.2.2.1 (h8.2.symm.trans q9)); (exact h9.2.2.2.2 (h8.2.symm.trans q9))); (clear h9; omega))]; exact rz9
            exact W.vret hx hb hr (fun t ht hW => ⟨⟨(V268, L), rfl, ⟨hMV268, agV268, rfl, rp289, rx290⟩, by rw [ht]; exact hP, va_K.moved hW.alike hK, hD⟩, hS.F ht⟩) hS.2.2 dX5_abandon_104
          · skip
            have f298 : ((V 5 9)).toInt = 2 := b_eq rfl (by decide) c259
            refine lv_iload_n hx hb dX5_abandon_77 rfl (lv_at hl 0 rfl) ?_
            refine lv_if_eq (tgt := 100) hx hb dX5_abandon_78 (by decide) (fun _ => ?_) (fun q => absurd (by decide) q)
            refine lv_aload_n hx hb dX5_abandon_100 rfl (lv_at hl 2 rfl) ?_
            have pq299 : (V18 5 6).toInt = ((V 5 6)).toInt := congrArg Int32.toInt (up2_o hV18 (by decide))
            refine gA_void (gA_runV (As := []) (rest := []) (ci := 5) (q0 := 5) hx hb hml hown hg hP hD hK hS hA hnw hgk (x_leave9 l D ks H.size ad kk V18 L Z  hMV18 (show 1 ≤ (V18 5 6).toInt from by first | exact om_0cac171fa40c gd pq299 | first | omega | ((try (have i_bc := Imp.go bc (by omega))); (try (have i_rwq := Imp.go rwq (by omega))); (try (have i_mo := Imp.go mo (by omega))); (try (have i_mo := Imp.go mo (by omega))); (try (have i_rwq := Imp.go rwq (by omega))); (try (have i_bc := Imp.go bc (by omega))); omega))) w1308 w1310 w50 w171 w1311 rfl xgMachine hdV_yX5_leave ⟨Nat.le_of_ble_eq_true rfl, Nat.le_of_ble_eq_true rfl⟩ rfl hl.1 rfl (Nat.le_of_ble_eq_true rfl) dX5_abandon_101 ⟨Nat.le_of_ble_eq_true rfl, Nat.le_of_ble_eq_true rfl⟩) hP hD hK hS hA (fun u301 H locs w302 hP hD hK hS => ?_)
            obtain ⟨V305, L306⟩ := u301
            obtain ⟨hMV305, ajV305, axL306, t303, t304⟩ := w302
            have axL306 : L = L306 := Eq.symm axL306
            subst axL306
            have hP : va_P D vwCl (xw ad kk V305 L Z) H := hP
            have hD : va_D A (xw ad kk V305 L Z) := hD
            have hMV305 : rgd bX V305 := hMV305
            have ajV305 : agr [(5, 6)] [] V18 V305 := ajV305
            have agV305 : agr [(5, 6)] [24, 25, 28] V V305 := agV18.tr ajV305 (by decide) (by decide)
            have t303 : (V305 5 6).toInt = (V18 5 6).toInt - 1 := t303
            have t304 : ((True) ∧ V305 = (up2 V18 5 6 (V18 5 6 - 1))) := t304
            have r307 : 0 ≤ ((V305 5 6)).toInt ∧ ((V305 5 6)).toInt ≤ 400 := hMV305 5 6
            have hw308 := t304.2
            obtain ⟨z309, ez309⟩ : ∃ y : Int32, y = V18 5 6 - 1 := ⟨_, rfl⟩
            have hz309 : z309.toInt = (V18 5 6).toInt - 1 := i_sub ez309 rfl (by decide) (by first | exact om_1c0ddc14e6cd gd sl8 pq299 | first | omega | ((try (have i_bc := Imp.go bc (by omega))); (try (have i_rwq := Imp.go rwq (by omega))); (try (have i_mo := Imp.go mo (by omega))); (try (have i_mo := Imp.go mo (by omega))); (try (have i_rwq := Imp.go rwq (by omega))); (try (have i_bc := Imp.go bc (by omega))); omega))
            have hV305 : V305 = up2 V18 5 6 z309 := by rw [hw308, ez309]
            have me310 : ME V V305 gf := (ME.up (ME.up ME.rf hV18 (Or.inr (by omega))) hV305 (Or.inr (by omega)))
            have pq311 : (V305 67 gf).toInt = ((V 67 gf)).toInt := congrArg Int32.toInt ((up2_o hV305 (by decide)).trans (up2_o hV18 (by decide)))
            have pq312 : (V305 68 gf).toInt = ((V 68 gf)).toInt := congrArg Int32.toInt ((up2_o hV305 (by decide)).trans (up2_o hV18 (by decide)))
            have pq313 : (V305 70 gf).toInt = ((V 70 gf)).toInt := congrArg Int32.toInt ((up2_o hV305 (by decide)).trans (up2_o hV18 (by decide)))
            have pq314 : (V305 71 gf).toInt = ((V 71 gf)).toInt := congrArg Int32.toInt ((up2_o hV305 (by decide)).trans (up2_o hV18 (by decide)))
            have pq315 : (V305 75 gf).toInt = ((V 75 gf)).toInt := congrArg Int32.toInt ((up2_o hV305 (by decide)).trans (up2_o hV18 (by decide)))
            have pq316 : (V305 76 gf).toInt = ((V 76 gf)).toInt := congrArg Int32.toInt ((up2_o hV305 (by decide)).trans (up2_o hV18 (by decide)))
            have pq317 : (V305 80 gf).toInt = ((V 80 gf)).toInt := congrArg Int32.toInt ((up2_o hV305 (by decide)).trans (up2_o hV18 (by decide)))
            have pq318 : (V305 84 gf).toInt = ((V 84 gf)).toInt := congrArg Int32.toInt ((up2_o hV305 (by decide)).trans (up2_o hV18 (by decide)))
            have pq319 : (V305 5 6).toInt = z309.toInt := congrArg Int32.toInt (up2_s hV305)
            have pq320 : (V305 5 8).toInt = ((V 5 8)).toInt := congrArg Int32.toInt ((up2_k hV305 (by decide)).trans (up2_o hV18 (by decide)))
            have pq321 : (V305 5 9).toInt = ((V 5 9)).toInt := congrArg Int32.toInt ((up2_k hV305 (by decide)).trans (up2_o hV18 (by decide)))
            have pq322 : (V305 3 13).toInt = ((V 3 13)).toInt := congrArg Int32.toInt ((up2_o hV305 (by decide)).trans (up2_o hV18 (by decide)))
            have pq323 : (V305 43 (5 * b + 2)).toInt = ((V 43 (5 * b + 2))).toInt := congrArg Int32.toInt ((up2_o hV305 (by decide)).trans (up2_o hV18 (by decide)))
            have pq324 : (V305 42 b).toInt = ((V 42 b)).toInt := congrArg Int32.toInt ((up2_o hV305 (by decide)).trans (up2_o hV18 (by decide)))
            have pq325 : (V305 41 b).toInt = ((V 41 b)).toInt := congrArg Int32.toInt ((up2_o hV305 (by decide)).trans (up2_o hV18 (by decide)))
            have rp326 : MJ V305 Z b := MP.lv (MO.mp mo) me310 (by (first | exact om_dca0de52e899 gd pq299 hz309 pq319 | omega)) (fun _ => Or.inl (by omega))
            have dx9 : (Int32.toNatClampNeg (V 70 gf)) = o.toNat := by have h9 := i_clamp (x := (V 70 gf)) rfl (by omega); (first | exact om_890eb046e93a ko9 | omega)
            have do9 : ((o.toNat : Nat) : Int) < gm 0 2 := by omega
            have db9 := (rn).2.1 _ do9
            have ds9 : 24 * Int32.toNatClampNeg (V 27 (Int32.toNatClampNeg (V 70 gf))) + Int32.toNatClampNeg (V 26 (Int32.toNatClampNeg (V 70 gf))) = 24 * (gm 2 o.toNat).toNat + (gm 1 o.toNat).toNat := by rw [dx9]; have h1 := db9.1.1; have h2 := db9.1.2.1; have h3 := i_clamp (x := V 27 o.toNat) rfl (by omega); have h4 := i_clamp (x := V 26 o.toNat) rfl (by omega); omega
            have rn328 : RWn V18 ow gB (mU gm 3 o.toNat 2) := RWn.drop rn do9 (fun x9 hx9 => up2_k hV18 (by rw [dx9]; exact hx9)) (by rw [← dx9, up2_s hV18]; decide) (fun k9 _ => up2_o hV18 (by decide)) (by rw [← ds9, up2_o hV18 (by decide), if_neg (by rw [← dx9]; have h9 := i_clamp (x := (V 70 gf)) rfl (by omega); omega)]) (fun c9 k9 h1 h2 h3 => (show V18 c9 k9 = V c9 k9 from by rw [hV18]; exact up2_pl (by omega)))
            have s51 : (V 51 (24 * b + Int32.toNatClampNeg (V 71 gf))).toInt = ((bS gB c.toNat : Nat) : Int) := by rw [kc9]; exact BKc.sc bc cn9
            have rh2 : gm 0 6 = 2 → (V 5 11).toInt = gm 0 8 ∧ (V 5 12).toInt = gm 0 9 := rh.2.2.1
            have rn5 : RWn V305 ow gB (mU gm 3 o.toNat 2) := RWn.es rn328 (ESw.ag (show agr [(5, 6)] [] V18 V305 from (agr.up agr.rf hV305 rfl)) (by decide))
            have me329 : ME V V305 gf := (ME.up (ME.up ME.rf hV18 (Or.inr (by omega))) hV305 (Or.inr (by omega)))
            have rl330 : RWl V305 gB gr t0 := RWl.mv hlr (fun i9 hi9 c9 h1 h2 => me329.2.1 c9 i9 h1 h2 (by omega)) (fun j9 hj9 => ((up2_o hV305 (by decide)).trans (up2_o hV18 (by decide)))) (by rw [((up2_o hV305 (by decide)).trans (up2_o hV18 (by decide)))]; exact Int.le_refl _) ((up2_o hV305 (by decide)).trans (up2_o hV18 (by decide)))
            have pq331 : (V305 5 7).toInt = ((V 5 7)).toInt := congrArg Int32.toInt ((up2_k hV305 (by decide)).trans (up2_o hV18 (by decide)))
            have r332 : 0 ≤ ((V 5 7)).toInt ∧ ((V 5 7)).toInt ≤ 2048 := hMV 5 7
            have pq333 : (V305 5 11).toInt = ((V 5 11)).toInt := congrArg Int32.toInt ((up2_k hV305 (by decide)).trans (up2_o hV18 (by decide)))
            have pq334 : (V305 5 12).toInt = ((V 5 12)).toInt := congrArg Int32.toInt ((up2_k hV305 (by decide)).trans (up2_o hV18 (by decide)))
            have rz9 : RW V305 gB ((mU gm 3 o.toNat 2), ga, gr) := RW.fin rwq rn5 (by rw [mU_o _ _ (by omega)]) (fun i9 => by rw [mU_o _ _ (by omega)]) ((up2_k hV305 (by decide)).trans (up2_o hV18 (by decide))) (fun i9 => ((up2_o hV305 (by decide)).trans (up2_o hV18 (by decide)))) (by rw [mU_o _ _ (by omega)]; omega) (fun h9 => by rw [mU_o _ _ (by omega)] at h9; exfalso; omega) (fun h9 => by rw [mU_o _ _ (by omega)] at h9; rw [mU_o _ _ (by omega), mU_o _ _ (by omega)]; have h8 := rh2 h9; exact ⟨by omega, by omega⟩) (show (V305 5 6).toInt = ((gr.length : Nat) : Int) from by (first | exact om_f00ff43a6068 rd2 pq299 hz309 pq319 | omega)) (show (V305 5 7).toInt = ((t0 : Nat) : Int) from by rw [((up2_k hV305 (by decide)).trans (up2_o hV18 (by decide))), rt9, tz9]) rl330
            have rx327 : RW V305 gB (mAb gB gm (V 70 gf).toInt (V 71 gf).toInt (V 72 gf).toInt, ga, gr) := by rw [q70, q71, q72, ab_n (fun h9 => by have h1 := h9.1; have h2 := h9.2.1; have h8 := rh2 h1; by_cases y1 : y250.toInt = 1; (rcases PAS.y xJ249_0 y1 with q9 | q9 | q9; (exact h9.2.2.1 (h8.2.symm.trans q9)); (exact h9.2.2.2.1 (h8.2.symm.trans q9)); (exact h9.2.2.2.2 (h8.2.symm.trans q9))); (clear h9; omega))]; exact rz9
            exact W.vret hx hb hr (fun t ht hW => ⟨⟨(V305, L), rfl, ⟨hMV305, agV305, rfl, rp326, rx327⟩, by rw [ht]; exact hP, va_K.moved hW.alike hK, hD⟩, hS.F ht⟩) hS.2.2 dX5_abandon_104
        · skip
          have f335 : ((V 51 (24 * b + (Int32.toNatClampNeg (V 71 gf))))).toInt ≠ 3 := b_neq rfl (by decide) c257
          have f336 : ((V 51 (24 * b + (Int32.toNatClampNeg (V 71 gf))))).toInt ≤ 2 := by (first | exact om_f2755f8dba0a r256.2 f335 | omega)
          clear f335
          refine lv_iconst (v := 1) hx hb dX5_abandon_63 (by decide) ?_
          refine lv_goto (tgt := 68) hx hb dX5_abandon_64 (by decide) ?_
          refine lv_istore_n (lv' := [(3, .int 1), (2, .int y250), (0, .ref (ad 5)), (1, .ref (Z.fa gf))]) hx hb dX5_abandon_68 rfl hl (by decide) rfl (fun ls hl => ?_)
          refine lv_aload_n hx hb dX5_abandon_69 rfl (lv_at hl 2 rfl) ?_
          refine va_get (D := D) (ci := 5) (v := .int (V18 5 9)) (fs := (xfMachine ad V18 L Z)) (C := RX5) (T := TX5) (N := 15) hx hb hg inX5 hown hK hP 5 xgMachine rfl 9 (by decide) (hg _ w676) (fun _ h9 => h9) rfl dX5_abandon_70 ?_
          refine g_top (v := (V 5 9)) (up2_o hV18 (by decide)) ?_
          refine lv_iconst (v := 2) hx hb dX5_abandon_73 (by decide) ?_
          refine lv_icmp_ne (tgt := 100) hx hb dX5_abandon_74 (by decide) (fun c337 => ?_) (fun c337 => ?_)
          · skip
            have f338 : ((V 5 9)).toInt ≠ 2 := b_neq rfl (by decide) c337
            have f339 : 3 ≤ ((V 5 9)).toInt := by (first | exact om_5241ad6bc921 sg7.1 f338 | omega)
            clear f338
            refine lv_aload_n hx hb dX5_abandon_100 rfl (lv_at hl 2 rfl) ?_
            have pq340 : (V18 5 6).toInt = ((V 5 6)).toInt := congrArg Int32.toInt (up2_o hV18 (by decide))
            refine gA_void (gA_runV (As := []) (rest := []) (ci := 5) (q0 := 5) hx hb hml hown hg hP hD hK hS hA hnw hgk (x_leave9 l D ks H.size ad kk V18 L Z  hMV18 (show 1 ≤ (V18 5 6).toInt from by first | exact om_0cac171fa40c gd pq340 | first | omega | ((try (have i_bc := Imp.go bc (by omega))); (try (have i_rwq := Imp.go rwq (by omega))); (try (have i_mo := Imp.go mo (by omega))); (try (have i_mo := Imp.go mo (by omega))); (try (have i_rwq := Imp.go rwq (by omega))); (try (have i_bc := Imp.go bc (by omega))); omega))) w1308 w1310 w50 w171 w1311 rfl xgMachine hdV_yX5_leave ⟨Nat.le_of_ble_eq_true rfl, Nat.le_of_ble_eq_true rfl⟩ rfl hl.1 rfl (Nat.le_of_ble_eq_true rfl) dX5_abandon_101 ⟨Nat.le_of_ble_eq_true rfl, Nat.le_of_ble_eq_true rfl⟩) hP hD hK hS hA (fun u342 H locs w343 hP hD hK hS => ?_)
            obtain ⟨V346, L347⟩ := u342
            obtain ⟨hMV346, ajV346, axL347, t344, t345⟩ := w343
            have axL347 : L = L347 := Eq.symm axL347
            subst axL347
            have hP : va_P D vwCl (xw ad kk V346 L Z) H := hP
            have hD : va_D A (xw ad kk V346 L Z) := hD
            have hMV346 : rgd bX V346 := hMV346
            have ajV346 : agr [(5, 6)] [] V18 V346 := ajV346
            have agV346 : agr [(5, 6)] [24, 25, 28] V V346 := agV18.tr ajV346 (by decide) (by decide)
            have t344 : (V346 5 6).toInt = (V18 5 6).toInt - 1 := t344
            have t345 : ((True) ∧ V346 = (up2 V18 5 6 (V18 5 6 - 1))) := t345
            have r348 : 0 ≤ ((V346 5 6)).toInt ∧ ((V346 5 6)).toInt ≤ 400 := hMV346 5 6
            have hw349 := t345.2
            obtain ⟨z350, ez350⟩ : ∃ y : Int32, y = V18 5 6 - 1 := ⟨_, rfl⟩
            have hz350 : z350.toInt = (V18 5 6).toInt - 1 := i_sub ez350 rfl (by decide) (by first | exact om_1c0ddc14e6cd gd sl8 pq340 | first | omega | ((try (have i_bc := Imp.go bc (by omega))); (try (have i_rwq := Imp.go rwq (by omega))); (try (have i_mo := Imp.go mo (by omega))); (try (have i_mo := Imp.go mo (by omega))); (try (have i_rwq := Imp.go rwq (by omega))); (try (have i_bc := Imp.go bc (by omega))); omega))
            have hV346 : V346 = up2 V18 5 6 z350 := by rw [hw349, ez350]
            have me351 : ME V V346 gf := (ME.up (ME.up ME.rf hV18 (Or.inr (by omega))) hV346 (Or.inr (by omega)))
            have pq352 : (V346 67 gf).toInt = ((V 67 gf)).toInt := congrArg Int32.toInt ((up2_o hV346 (by decide)).trans (up2_o hV18 (by decide)))
            have pq353 : (V346 68 gf).toInt = ((V 68 gf)).toInt := congrArg Int32.toInt ((up2_o hV346 (by decide)).trans (up2_o hV18 (by decide)))
            have pq354 : (V346 70 gf).toInt = ((V 70 gf)).toInt := congrArg Int32.toInt ((up2_o hV346 (by decide)).trans (up2_o hV18 (by decide)))
            have pq355 : (V346 71 gf).toInt = ((V 71 gf)).toInt := congrArg Int32.toInt ((up2_o hV346 (by decide)).trans (up2_o hV18 (by decide)))
            have pq356 : (V346 75 gf).toInt = ((V 75 gf)).toInt := congrArg Int32.toInt ((up2_o hV346 (by decide)).trans (up2_o hV18 (by decide)))
            have pq357 : (V346 76 gf).toInt = ((V 76 gf)).toInt := congrArg Int32.toInt ((up2_o hV346 (by decide)).trans (up2_o hV18 (by decide)))
            have pq358 : (V346 80 gf).toInt = ((V 80 gf)).toInt := congrArg Int32.toInt ((up2_o hV346 (by decide)).trans (up2_o hV18 (by decide)))
            have pq359 : (V346 84 gf).toInt = ((V 84 gf)).toInt := congrArg Int32.toInt ((up2_o hV346 (by decide)).trans (up2_o hV18 (by decide)))
            have pq360 : (V346 5 6).toInt = z350.toInt := congrArg Int32.toInt (up2_s hV346)
            have pq361 : (V346 5 8).toInt = ((V 5 8)).toInt := congrArg Int32.toInt ((up2_k hV346 (by decide)).trans (up2_o hV18 (by decide)))
            have pq362 : (V346 5 9).toInt = ((V 5 9)).toInt := congrArg Int32.toInt ((up2_k hV346 (by decide)).trans (up2_o hV18 (by decide)))
            have pq363 : (V346 3 13).toInt = ((V 3 13)).toInt := congrArg Int32.toInt ((up2_o hV346 (by decide)).trans (up2_o hV18 (by decide)))
            have pq364 : (V346 43 (5 * b + 2)).toInt = ((V 43 (5 * b + 2))).toInt := congrArg Int32.toInt ((up2_o hV346 (by decide)).trans (up2_o hV18 (by decide)))
            have pq365 : (V346 42 b).toInt = ((V 42 b)).toInt := congrArg Int32.toInt ((up2_o hV346 (by decide)).trans (up2_o hV18 (by decide)))
            have pq366 : (V346 41 b).toInt = ((V 41 b)).toInt := congrArg Int32.toInt ((up2_o hV346 (by decide)).trans (up2_o hV18 (by decide)))
            have rp367 : MJ V346 Z b := MP.lv (MO.mp mo) me351 (by (first | exact om_dca0de52e899 gd pq340 hz350 pq360 | omega)) (fun _ => Or.inl (by omega))
            have dx9 : (Int32.toNatClampNeg (V 70 gf)) = o.toNat := by have h9 := i_clamp (x := (V 70 gf)) rfl (by omega); (first | exact om_890eb046e93a ko9 | omega)
            have do9 : ((o.toNat : Nat) : Int) < gm 0 2 := by omega
            have db9 := (rn).2.1 _ do9
            have ds9 : 24 * Int32.toNatClampNeg (V 27 (Int32.toNatClampNeg (V 70 gf))) + Int32.toNatClampNeg (V 26 (Int32.toNatClampNeg (V 70 gf))) = 24 * (gm 2 o.toNat).toNat + (gm 1 o.toNat).toNat := by rw [dx9]; have h1 := db9.1.1; have h2 := db9.1.2.1; have h3 := i_clamp (x := V 27 o.toNat) rfl (by omega); have h4 := i_clamp (x := V 26 o.toNat) rfl (by omega); omega
            have rn369 : RWn V18 ow gB (mU gm 3 o.toNat 2) := RWn.drop rn do9 (fun x9 hx9 => up2_k hV18 (by rw [dx9]; exact hx9)) (by rw [← dx9, up2_s hV18]; decide) (fun k9 _ => up2_o hV18 (by decide)) (by rw [← ds9, up2_o hV18 (by decide), if_neg (by rw [← dx9]; have h9 := i_clamp (x := (V 70 gf)) rfl (by omega); omega)]) (fun c9 k9 h1 h2 h3 => (show V18 c9 k9 = V c9 k9 from by rw [hV18]; exact up2_pl (by omega)))
            have s51 : (V 51 (24 * b + Int32.toNatClampNeg (V 71 gf))).toInt = ((bS gB c.toNat : Nat) : Int) := by rw [kc9]; exact BKc.sc bc cn9
            have rh2 : gm 0 6 = 2 → (V 5 11).toInt = gm 0 8 ∧ (V 5 12).toInt = gm 0 9 := rh.2.2.1
            have rn5 : RWn V346 ow gB (mU gm 3 o.toNat 2) := RWn.es rn369 (ESw.ag (show agr [(5, 6)] [] V18 V346 from (agr.up agr.rf hV346 rfl)) (by decide))
            have me370 : ME V V346 gf := (ME.up (ME.up ME.rf hV18 (Or.inr (by omega))) hV346 (Or.inr (by omega)))
            have rl371 : RWl V346 gB gr t0 := RWl.mv hlr (fun i9 hi9 c9 h1 h2 => me370.2.1 c9 i9 h1 h2 (by omega)) (fun j9 hj9 => ((up2_o hV346 (by decide)).trans (up2_o hV18 (by decide)))) (by rw [((up2_o hV346 (by decide)).trans (up2_o hV18 (by decide)))]; exact Int.le_refl _) ((up2_o hV346 (by decide)).trans (up2_o hV18 (by decide)))
            have pq372 : (V346 5 7).toInt = ((V 5 7)).toInt := congrArg Int32.toInt ((up2_k hV346 (by decide)).trans (up2_o hV18 (by decide)))
            have r373 : 0 ≤ ((V 5 7)).toInt ∧ ((V 5 7)).toInt ≤ 2048 := hMV 5 7
            have pq374 : (V346 5 11).toInt = ((V 5 11)).toInt := congrArg Int32.toInt ((up2_k hV346 (by decide)).trans (up2_o hV18 (by decide)))
            have pq375 : (V346 5 12).toInt = ((V 5 12)).toInt := congrArg Int32.toInt ((up2_k hV346 (by decide)).trans (up2_o hV18 (by decide)))
            have rz9 : RW V346 gB ((mU gm 3 o.toNat 2), ga, gr) := RW.fin rwq rn5 (by rw [mU_o _ _ (by omega)]) (fun i9 => by rw [mU_o _ _ (by omega)]) ((up2_k hV346 (by decide)).trans (up2_o hV18 (by decide))) (fun i9 => ((up2_o hV346 (by decide)).trans (up2_o hV18 (by decide)))) (by rw [mU_o _ _ (by omega)]; omega) (fun h9 => by rw [mU_o _ _ (by omega)] at h9; exfalso; omega) (fun h9 => by rw [mU_o _ _ (by omega)] at h9; rw [mU_o _ _ (by omega), mU_o _ _ (by omega)]; have h8 := rh2 h9; exact ⟨by omega, by omega⟩) (show (V346 5 6).toInt = ((gr.length : Nat) : Int) from by (first | exact om_f00ff43a6068 rd2 pq340 hz350 pq360 | omega)) (show (V346 5 7).toInt = ((t0 : Nat) : Int) from by rw [((up2_k hV346 (by decide)).trans (up2_o hV18 (by decide))), rt9, tz9]) rl371
            have rx368 : RW V346 gB (mAb gB gm (V 70 gf).toInt (V 71 gf).toInt (V 72 gf).toInt, ga, gr) := by rw [q70, q71, q72, ab_n (fun h9 => by have h1 := h9.1; have h2 := h9.2.1; have h8 := rh2 h1; by_cases y1 : y250.toInt = 1; (rcases PAS.y xJ249_0 y1 with q9 | q9 | q9; (exact h9.2.2.1 (h8.2.symm.trans q9)); (exact h9.2.2.2.1 (h8.2.symm.trans q9)); (exact h9.2.2.2.2 (h8.2.symm.trans q9))); (clear h9; omega))]; exact rz9
            exact W.vret hx hb hr (fun t ht hW => ⟨⟨(V346, L), rfl, ⟨hMV346, agV346, rfl, rp367, rx368⟩, by rw [ht]; exact hP, va_K.moved hW.alike hK, hD⟩, hS.F ht⟩) hS.2.2 dX5_abandon_104
          · skip
            have f376 : ((V 5 9)).toInt = 2 := b_eq rfl (by decide) c337
            refine lv_iload_n hx hb dX5_abandon_77 rfl (lv_at hl 0 rfl) ?_
            refine lv_if_eq (tgt := 100) hx hb dX5_abandon_78 (by decide) (fun q => absurd q (by decide)) (fun _ => ?_)
            refine lv_iload_n hx hb dX5_abandon_81 rfl (lv_at hl 1 rfl) ?_
            refine lv_if_ne (tgt := 100) hx hb dX5_abandon_82 (by decide) (fun c377 => ?_) (fun c377 => ?_)
            · skip
              have f378 : y250.toInt ≠ 0 := b_neq rfl (by decide) c377
              have f379 : 1 ≤ y250.toInt := by (first | exact om_76052c512981 kJ249_0.1 f378 | omega)
              clear f378
              refine lv_aload_n hx hb dX5_abandon_100 rfl (lv_at hl 2 rfl) ?_
              have pq380 : (V18 5 6).toInt = ((V 5 6)).toInt := congrArg Int32.toInt (up2_o hV18 (by decide))
              refine gA_void (gA_runV (As := []) (rest := []) (ci := 5) (q0 := 5) hx hb hml hown hg hP hD hK hS hA hnw hgk (x_leave9 l D ks H.size ad kk V18 L Z  hMV18 (show 1 ≤ (V18 5 6).toInt from by first | exact om_0cac171fa40c gd pq380 | first | omega | ((try (have i_bc := Imp.go bc (by omega))); (try (have i_rwq := Imp.go rwq (by omega))); (try (have i_mo := Imp.go mo (by omega))); (try (have i_mo := Imp.go mo (by omega))); (try (have i_rwq := Imp.go rwq (by omega))); (try (have i_bc := Imp.go bc (by omega))); omega))) w1308 w1310 w50 w171 w1311 rfl xgMachine hdV_yX5_leave ⟨Nat.le_of_ble_eq_true rfl, Nat.le_of_ble_eq_true rfl⟩ rfl hl.1 rfl (Nat.le_of_ble_eq_true rfl) dX5_abandon_101 ⟨Nat.le_of_ble_eq_true rfl, Nat.le_of_ble_eq_true rfl⟩) hP hD hK hS hA (fun u382 H locs w383 hP hD hK hS => ?_)
              obtain ⟨V386, L387⟩ := u382
              obtain ⟨hMV386, ajV386, axL387, t384, t385⟩ := w383
              have axL387 : L = L387 := Eq.symm axL387
              subst axL387
              have hP : va_P D vwCl (xw ad kk V386 L Z) H := hP
              have hD : va_D A (xw ad kk V386 L Z) := hD
              have hMV386 : rgd bX V386 := hMV386
              have ajV386 : agr [(5, 6)] [] V18 V386 := ajV386
              have agV386 : agr [(5, 6)] [24, 25, 28] V V386 := agV18.tr ajV386 (by decide) (by decide)
              have t384 : (V386 5 6).toInt = (V18 5 6).toInt - 1 := t384
              have t385 : ((True) ∧ V386 = (up2 V18 5 6 (V18 5 6 - 1))) := t385
              have r388 : 0 ≤ ((V386 5 6)).toInt ∧ ((V386 5 6)).toInt ≤ 400 := hMV386 5 6
              have hw389 := t385.2
              obtain ⟨z390, ez390⟩ : ∃ y : Int32, y = V18 5 6 - 1 := ⟨_, rfl⟩
              have hz390 : z390.toInt = (V18 5 6).toInt - 1 := i_sub ez390 rfl (by decide) (by first | exact om_1c0ddc14e6cd gd sl8 pq380 | first | omega | ((try (have i_bc := Imp.go bc (by omega))); (try (have i_rwq := Imp.go rwq (by omega))); (try (have i_mo := Imp.go mo (by omega))); (try (have i_mo := Imp.go mo (by omega))); (try (have i_rwq := Imp.go rwq (by omega))); (try (have i_bc := Imp.go bc (by omega))); omega))
              have hV386 : V386 = up2 V18 5 6 z390 := by rw [hw389, ez390]
              have me391 : ME V V386 gf := (ME.up (ME.up ME.rf hV18 (Or.inr (by omega))) hV386 (Or.inr (by omega)))
              have pq392 : (V386 67 gf).toInt = ((V 67 gf)).toInt := congrArg Int32.toInt ((up2_o hV386 (by decide)).trans (up2_o hV18 (by decide)))
              have pq393 : (V386 68 gf).toInt = ((V 68 gf)).toInt := congrArg Int32.toInt ((up2_o hV386 (by decide)).trans (up2_o hV18 (by decide)))
              have pq394 : (V386 70 gf).toInt = ((V 70 gf)).toInt := congrArg Int32.toInt ((up2_o hV386 (by decide)).trans (up2_o hV18 (by decide)))
              have pq395 : (V386 71 gf).toInt = ((V 71 gf)).toInt := congrArg Int32.toInt ((up2_o hV386 (by decide)).trans (up2_o hV18 (by decide)))
              have pq396 : (V386 75 gf).toInt = ((V 75 gf)).toInt := congrArg Int32.toInt ((up2_o hV386 (by decide)).trans (up2_o hV18 (by decide)))
              have pq397 : (V386 76 gf).toInt = ((V 76 gf)).toInt := congrArg Int32.toInt ((up2_o hV386 (by decide)).trans (up2_o hV18 (by decide)))
              have pq398 : (V386 80 gf).toInt = ((V 80 gf)).toInt := congrArg Int32.toInt ((up2_o hV386 (by decide)).trans (up2_o hV18 (by decide)))
              have pq399 : (V386 84 gf).toInt = ((V 84 gf)).toInt := congrArg Int32.toInt ((up2_o hV386 (by decide)).trans (up2_o hV18 (by decide)))
              have pq400 : (V386 5 6).toInt = z390.toInt := congrArg Int32.toInt (up2_s hV386)
              have pq401 : (V386 5 8).toInt = ((V 5 8)).toInt := congrArg Int32.toInt ((up2_k hV386 (by decide)).trans (up2_o hV18 (by decide)))
              have pq402 : (V386 5 9).toInt = ((V 5 9)).toInt := congrArg Int32.toInt ((up2_k hV386 (by decide)).trans (up2_o hV18 (by decide)))
              have pq403 : (V386 3 13).toInt = ((V 3 13)).toInt := congrArg Int32.toInt ((up2_o hV386 (by decide)).trans (up2_o hV18 (by decide)))
              have pq404 : (V386 43 (5 * b + 2)).toInt = ((V 43 (5 * b + 2))).toInt := congrArg Int32.toInt ((up2_o hV386 (by decide)).trans (up2_o hV18 (by decide)))
              have pq405 : (V386 42 b).toInt = ((V 42 b)).toInt := congrArg Int32.toInt ((up2_o hV386 (by decide)).trans (up2_o hV18 (by decide)))
              have pq406 : (V386 41 b).toInt = ((V 41 b)).toInt := congrArg Int32.toInt ((up2_o hV386 (by decide)).trans (up2_o hV18 (by decide)))
              have rp407 : MJ V386 Z b := MP.lv (MO.mp mo) me391 (by (first | exact om_dca0de52e899 gd pq380 hz390 pq400 | omega)) (fun _ => Or.inl (by omega))
              have dx9 : (Int32.toNatClampNeg (V 70 gf)) = o.toNat := by have h9 := i_clamp (x := (V 70 gf)) rfl (by omega); (first | exact om_890eb046e93a ko9 | omega)
              have do9 : ((o.toNat : Nat) : Int) < gm 0 2 := by omega
              have db9 := (rn).2.1 _ do9
              have ds9 : 24 * Int32.toNatClampNeg (V 27 (Int32.toNatClampNeg (V 70 gf))) + Int32.toNatClampNeg (V 26 (Int32.toNatClampNeg (V 70 gf))) = 24 * (gm 2 o.toNat).toNat + (gm 1 o.toNat).toNat := by rw [dx9]; have h1 := db9.1.1; have h2 := db9.1.2.1; have h3 := i_clamp (x := V 27 o.toNat) rfl (by omega); have h4 := i_clamp (x := V 26 o.toNat) rfl (by omega); omega
              have rn409 : RWn V18 ow gB (mU gm 3 o.toNat 2) := RWn.drop rn do9 (fun x9 hx9 => up2_k hV18 (by rw [dx9]; exact hx9)) (by rw [← dx9, up2_s hV18]; decide) (fun k9 _ => up2_o hV18 (by decide)) (by rw [← ds9, up2_o hV18 (by decide), if_neg (by rw [← dx9]; have h9 := i_clamp (x := (V 70 gf)) rfl (by omega); omega)]) (fun c9 k9 h1 h2 h3 => (show V18 c9 k9 = V c9 k9 from by rw [hV18]; exact up2_pl (by omega)))
              have s51 : (V 51 (24 * b + Int32.toNatClampNeg (V 71 gf))).toInt = ((bS gB c.toNat : Nat) : Int) := by rw [kc9]; exact BKc.sc bc cn9
              have rh2 : gm 0 6 = 2 → (V 5 11).toInt = gm 0 8 ∧ (V 5 12).toInt = gm 0 9 := rh.2.2.1
              have rn5 : RWn V386 ow gB (mU gm 3 o.toNat 2) := RWn.es rn409 (ESw.ag (show agr [(5, 6)] [] V18 V386 from (agr.up agr.rf hV386 rfl)) (by decide))
              have me410 : ME V V386 gf := (ME.up (ME.up ME.rf hV18 (Or.inr (by omega))) hV386 (Or.inr (by omega)))
              have rl411 : RWl V386 gB gr t0 := RWl.mv hlr (fun i9 hi9 c9 h1 h2 => me410.2.1 c9 i9 h1 h2 (by omega)) (fun j9 hj9 => ((up2_o hV386 (by decide)).trans (up2_o hV18 (by decide)))) (by rw [((up2_o hV386 (by decide)).trans (up2_o hV18 (by decide)))]; exact Int.le_refl _) ((up2_o hV386 (by decide)).trans (up2_o hV18 (by decide)))
              have pq412 : (V386 5 7).toInt = ((V 5 7)).toInt := congrArg Int32.toInt ((up2_k hV386 (by decide)).trans (up2_o hV18 (by decide)))
              have r413 : 0 ≤ ((V 5 7)).toInt ∧ ((V 5 7)).toInt ≤ 2048 := hMV 5 7
              have pq414 : (V386 5 11).toInt = ((V 5 11)).toInt := congrArg Int32.toInt ((up2_k hV386 (by decide)).trans (up2_o hV18 (by decide)))
              have pq415 : (V386 5 12).toInt = ((V 5 12)).toInt := congrArg Int32.toInt ((up2_k hV386 (by decide)).trans (up2_o hV18 (by decide)))
              have rz9 : RW V386 gB ((mU gm 3 o.toNat 2), ga, gr) := RW.fin rwq rn5 (by rw [mU_o _ _ (by omega)]) (fun i9 => by rw [mU_o _ _ (by omega)]) ((up2_k hV386 (by decide)).trans (up2_o hV18 (by decide))) (fun i9 => ((up2_o hV386 (by decide)).trans (up2_o hV18 (by decide)))) (by rw [mU_o _ _ (by omega)]; omega) (fun h9 => by rw [mU_o _ _ (by omega)] at h9; exfalso; omega) (fun h9 => by rw [mU_o _ _ (by omega)] at h9; rw [mU_o _ _ (by omega), mU_o _ _ (by omega)]; have h8 := rh2 h9; exact ⟨by omega, by omega⟩) (show (V386 5 6).toInt = ((gr.length : Nat) : Int) from by (first | exact om_f00ff43a6068 rd2 pq380 hz390 pq400 | omega)) (show (V386 5 7).toInt = ((t0 : Nat) : Int) from by rw [((up2_k hV386 (by decide)).trans (up2_o hV18 (by decide))), rt9, tz9]) rl411
              have rx408 : RW V386 gB (mAb gB gm (V 70 gf).toInt (V 71 gf).toInt (V 72 gf).toInt, ga, gr) := by rw [q70, q71, q72, ab_n (fun h9 => by have h1 := h9.1; have h2 := h9.2.1; have h8 := rh2 h1; by_cases y1 : y250.toInt = 1; (rcases PAS.y xJ249_0 y1 with q9 | q9 | q9; (exact h9.2.2.1 (h8.2.symm.trans q9)); (exact h9.2.2.2.1 (h8.2.symm.trans q9)); (exact h9.2.2.2.2 (h8.2.symm.trans q9))); (clear h9; omega))]; exact rz9
              exact W.vret hx hb hr (fun t ht hW => ⟨⟨(V386, L), rfl, ⟨hMV386, agV386, rfl, rp407, rx408⟩, by rw [ht]; exact hP, va_K.moved hW.alike hK, hD⟩, hS.F ht⟩) hS.2.2 dX5_abandon_104
            · skip
              have f416 : y250.toInt = 0 := b_eq rfl (by decide) c377
              refine lv_aload_n hx hb dX5_abandon_85 rfl (lv_at hl 2 rfl) ?_
              refine va_get (D := D) (ci := 5) (v := .ref (ad 3)) (fs := (xfMachine ad V18 L Z)) (C := RX5) (T := TX5) (N := 15) hx hb hg inX5 hown hK hP 5 xgMachine rfl 0 (by decide) (hg _ w667) (fun _ h9 => h9) rfl dX5_abandon_86 ?_
              refine lv_aload_n hx hb dX5_abandon_89 rfl (lv_at hl 3 rfl) ?_
              refine va_getN (D := D) (ci := 4) (v := .int (V18 72 gf)) (fs := (xfFrame V18 gf)) (C := RX4) (T := TX4) (N := 19) hx hb hg inX4 hown hK hP (336 + gf) (xgFrame hgf) rfl 5 (by decide) (hnw.use 1194 n1194 rfl) (fun _ h9 => h9) rfl dX5_abandon_90 ?_
              refine g_top (v := (V 72 gf)) (up2_o hV18 (by decide)) ?_
              have r417 : 0 ≤ ((V 72 gf)).toInt ∧ ((V 72 gf)).toInt ≤ 39 := hMV 72 gf
              refine lv_aload_n hx hb dX5_abandon_93 rfl (lv_at hl 3 rfl) ?_
              refine va_getN (D := D) (ci := 4) (v := .int (V18 71 gf)) (fs := (xfFrame V18 gf)) (C := RX4) (T := TX4) (N := 19) hx hb hg inX4 hown hK hP (336 + gf) (xgFrame hgf) rfl 4 (by decide) (hnw.use 1193 n1193 rfl) (fun _ h9 => h9) rfl dX5_abandon_94 ?_
              refine g_top (v := (V 71 gf)) (up2_o hV18 (by decide)) ?_
              refine gA_void (gA_runV (As := [.int (V 72 gf), .int (V 71 gf)]) (rest := []) (ci := 8) (q0 := 3) hx hb hml hown hg hP hD hK hS hA hnw hgk (x_spoil9 l D ks H.size ad kk V18 L Z (V 72 gf) (V 71 gf) hMV18 (by first | exact om_13ba01c174fe r417.1 r417.2 | first | omega | ((try (have i_bc := Imp.go bc (by omega))); (try (have i_rwq := Imp.go rwq (by omega))); (try (have i_mo := Imp.go mo (by omega))); (try (have i_mo := Imp.go mo (by omega))); (try (have i_rwq := Imp.go rwq (by omega))); (try (have i_bc := Imp.go bc (by omega))); omega)) (show 0 ≤ ((V 71 gf)).toInt from by first | exact om_50dfdfbb9dc6 kc254 | first | omega | ((try (have i_bc := Imp.go bc (by omega))); (try (have i_rwq := Imp.go rwq (by omega))); (try (have i_mo := Imp.go mo (by omega))); (try (have i_mo := Imp.go mo (by omega))); (try (have i_rwq := Imp.go rwq (by omega))); (try (have i_bc := Imp.go bc (by omega))); omega)) (show ((V 71 gf)).toInt ≤ 23 from by first | exact om_851a31618d2d r3.2 | first | omega | ((try (have i_bc := Imp.go bc (by omega))); (try (have i_rwq := Imp.go rwq (by omega))); (try (have i_mo := Imp.go mo (by omega))); (try (have i_mo := Imp.go mo (by omega))); (try (have i_rwq := Imp.go rwq (by omega))); (try (have i_bc := Imp.go bc (by omega))); omega))) w1340 w1341 w1342 w164 w1343 rfl xgStock hdV_yX8_spoil ⟨Nat.le_of_ble_eq_true rfl, Nat.le_of_ble_eq_true rfl⟩ rfl hl.1 rfl (Nat.le_of_ble_eq_true rfl) dX5_abandon_97 ⟨Nat.le_of_ble_eq_true rfl, Nat.le_of_ble_eq_true rfl⟩) hP hD hK hS hA (fun u419 H locs w420 hP hD hK hS => ?_)
              obtain ⟨V422, L423⟩ := u419
              obtain ⟨hMV422, ajV422, axL423, t421⟩ := w420
              have axL423 : L = L423 := Eq.symm axL423
              subst axL423
              have hP : va_P D vwCl (xw ad kk V422 L Z) H := hP
              have hD : va_D A (xw ad kk V422 L Z) := hD
              have hMV422 : rgd bX V422 := hMV422
              have ajV422 : agr [] [24] V18 V422 := ajV422
              have agV422 : agr [(5, 6)] [24, 25, 28] V V422 := agV18.tr ajV422 (by decide) (by decide)
              have t421 : (∀ j : Nat, j < 24 → (bt (V422 24 (Int32.toNatClampNeg (V 72 gf))) j = true ↔ (j = Int32.toNatClampNeg (V 71 gf) ∨ bt (V18 24 (Int32.toNatClampNeg (V 72 gf))) j = true))) ∧ ∀ x : Nat, x ≠ Int32.toNatClampNeg (V 72 gf) → V422 24 x = V18 24 x := t421
              refine lv_aload_n hx hb dX5_abandon_100 rfl (lv_at hl 2 rfl) ?_
              have pq424 : (V422 5 6).toInt = ((V 5 6)).toInt := congrArg Int32.toInt ((ajV422 5 6 rfl).trans (up2_o hV18 (by decide)))
              refine gA_void (gA_runV (As := []) (rest := []) (ci := 5) (q0 := 5) hx hb hml hown hg hP hD hK hS hA hnw hgk (x_leave9 l D ks H.size ad kk V422 L Z  hMV422 (show 1 ≤ (V422 5 6).toInt from by first | exact om_0cac171fa40c gd pq424 | first | omega | ((try (have i_bc := Imp.go bc (by omega))); (try (have i_rwq := Imp.go rwq (by omega))); (try (have i_mo := Imp.go mo (by omega))); (try (have i_mo := Imp.go mo (by omega))); (try (have i_rwq := Imp.go rwq (by omega))); (try (have i_bc := Imp.go bc (by omega))); omega))) w1308 w1310 w50 w171 w1311 rfl xgMachine hdV_yX5_leave ⟨Nat.le_of_ble_eq_true rfl, Nat.le_of_ble_eq_true rfl⟩ rfl hl.1 rfl (Nat.le_of_ble_eq_true rfl) dX5_abandon_101 ⟨Nat.le_of_ble_eq_true rfl, Nat.le_of_ble_eq_true rfl⟩) hP hD hK hS hA (fun u426 H locs w427 hP hD hK hS => ?_)
              obtain ⟨V430, L431⟩ := u426
              obtain ⟨hMV430, ajV430, axL431, t428, t429⟩ := w427
              have axL431 : L = L431 := Eq.symm axL431
              subst axL431
              have hP : va_P D vwCl (xw ad kk V430 L Z) H := hP
              have hD : va_D A (xw ad kk V430 L Z) := hD
              have hMV430 : rgd bX V430 := hMV430
              have ajV430 : agr [(5, 6)] [] V422 V430 := ajV430
              have agV430 : agr [(5, 6)] [24, 25, 28] V V430 := agV422.tr ajV430 (by decide) (by decide)
              have t428 : (V430 5 6).toInt = (V422 5 6).toInt - 1 := t428
              have t429 : ((True) ∧ V430 = (up2 V422 5 6 (V422 5 6 - 1))) := t429
              have r432 : 0 ≤ ((V430 5 6)).toInt ∧ ((V430 5 6)).toInt ≤ 400 := hMV430 5 6
              have hw433 := t429.2
              obtain ⟨z434, ez434⟩ : ∃ y : Int32, y = V422 5 6 - 1 := ⟨_, rfl⟩
              have hz434 : z434.toInt = (V422 5 6).toInt - 1 := i_sub ez434 rfl (by decide) (by first | exact om_1c0ddc14e6cd gd sl8 pq424 | first | omega | ((try (have i_bc := Imp.go bc (by omega))); (try (have i_rwq := Imp.go rwq (by omega))); (try (have i_mo := Imp.go mo (by omega))); (try (have i_mo := Imp.go mo (by omega))); (try (have i_rwq := Imp.go rwq (by omega))); (try (have i_bc := Imp.go bc (by omega))); omega))
              have hV430 : V430 = up2 V422 5 6 z434 := by rw [hw433, ez434]
              have me435 : ME V V430 gf := (ME.up (ME.tr (ME.up ME.rf hV18 (Or.inr (by omega))) (ME.ag ajV422 (by decide))) hV430 (Or.inr (by omega)))
              have pq436 : (V430 67 gf).toInt = ((V 67 gf)).toInt := congrArg Int32.toInt ((up2_o hV430 (by decide)).trans ((ajV422 67 gf rfl).trans (up2_o hV18 (by decide))))
              have pq437 : (V430 68 gf).toInt = ((V 68 gf)).toInt := congrArg Int32.toInt ((up2_o hV430 (by decide)).trans ((ajV422 68 gf rfl).trans (up2_o hV18 (by decide))))
              have pq438 : (V430 70 gf).toInt = ((V 70 gf)).toInt := congrArg Int32.toInt ((up2_o hV430 (by decide)).trans ((ajV422 70 gf rfl).trans (up2_o hV18 (by decide))))
              have pq439 : (V430 71 gf).toInt = ((V 71 gf)).toInt := congrArg Int32.toInt ((up2_o hV430 (by decide)).trans ((ajV422 71 gf rfl).trans (up2_o hV18 (by decide))))
              have pq440 : (V430 75 gf).toInt = ((V 75 gf)).toInt := congrArg Int32.toInt ((up2_o hV430 (by decide)).trans ((ajV422 75 gf rfl).trans (up2_o hV18 (by decide))))
              have pq441 : (V430 76 gf).toInt = ((V 76 gf)).toInt := congrArg Int32.toInt ((up2_o hV430 (by decide)).trans ((ajV422 76 gf rfl).trans (up2_o hV18 (by decide))))
              have pq442 : (V430 80 gf).toInt = ((V 80 gf)).toInt := congrArg Int32.toInt ((up2_o hV430 (by decide)).trans ((ajV422 80 gf rfl).trans (up2_o hV18 (by decide))))
              have pq443 : (V430 84 gf).toInt = ((V 84 gf)).toInt := congrArg Int32.toInt ((up2_o hV430 (by decide)).trans ((ajV422 84 gf rfl).trans (up2_o hV18 (by decide))))
              have pq444 : (V430 5 6).toInt = z434.toInt := congrArg Int32.toInt (up2_s hV430)
              have pq445 : (V430 5 8).toInt = ((V 5 8)).toInt := congrArg Int32.toInt ((up2_k hV430 (by decide)).trans ((ajV422 5 8 rfl).trans (up2_o hV18 (by decide))))
              have pq446 : (V430 5 9).toInt = ((V 5 9)).toInt := congrArg Int32.toInt ((up2_k hV430 (by decide)).trans ((ajV422 5 9 rfl).trans (up2_o hV18 (by decide))))
              have pq447 : (V430 3 13).toInt = ((V 3 13)).toInt := congrArg Int32.toInt ((up2_o hV430 (by decide)).trans ((ajV422 3 13 rfl).trans (up2_o hV18 (by decide))))
              have pq448 : (V430 43 (5 * b + 2)).toInt = ((V 43 (5 * b + 2))).toInt := congrArg Int32.toInt ((up2_o hV430 (by decide)).trans ((ajV422 43 (5 * b + 2) rfl).trans (up2_o hV18 (by decide))))
              have pq449 : (V430 42 b).toInt = ((V 42 b)).toInt := congrArg Int32.toInt ((up2_o hV430 (by decide)).trans ((ajV422 42 b rfl).trans (up2_o hV18 (by decide))))
              have pq450 : (V430 41 b).toInt = ((V 41 b)).toInt := congrArg Int32.toInt ((up2_o hV430 (by decide)).trans ((ajV422 41 b rfl).trans (up2_o hV18 (by decide))))
              have rp451 : MJ V430 Z b := MP.lv (MO.mp mo) me435 (by (first | exact om_dca0de52e899 gd pq424 hz434 pq444 | omega)) (fun _ => Or.inl (by omega))
              have dx9 : (Int32.toNatClampNeg (V 70 gf)) = o.toNat := by have h9 := i_clamp (x := (V 70 gf)) rfl (by omega); (first | exact om_890eb046e93a ko9 | omega)
              have do9 : ((o.toNat : Nat) : Int) < gm 0 2 := by omega
              have db9 := (rn).2.1 _ do9
              have ds9 : 24 * Int32.toNatClampNeg (V 27 (Int32.toNatClampNeg (V 70 gf))) + Int32.toNatClampNeg (V 26 (Int32.toNatClampNeg (V 70 gf))) = 24 * (gm 2 o.toNat).toNat + (gm 1 o.toNat).toNat := by rw [dx9]; have h1 := db9.1.1; have h2 := db9.1.2.1; have h3 := i_clamp (x := V 27 o.toNat) rfl (by omega); have h4 := i_clamp (x := V 26 o.toNat) rfl (by omega); omega
              have rn453 : RWn V18 ow gB (mU gm 3 o.toNat 2) := RWn.drop rn do9 (fun x9 hx9 => up2_k hV18 (by rw [dx9]; exact hx9)) (by rw [← dx9, up2_s hV18]; decide) (fun k9 _ => up2_o hV18 (by decide)) (by rw [← ds9, up2_o hV18 (by decide), if_neg (by rw [← dx9]; have h9 := i_clamp (x := (V 70 gf)) rfl (by omega); omega)]) (fun c9 k9 h1 h2 h3 => (show V18 c9 k9 = V c9 k9 from by rw [hV18]; exact up2_pl (by omega)))
              have s51 : (V 51 (24 * b + Int32.toNatClampNeg (V 71 gf))).toInt = ((bS gB c.toNat : Nat) : Int) := by rw [kc9]; exact BKc.sc bc cn9
              have rh2 : gm 0 6 = 2 → (V 5 11).toInt = gm 0 8 ∧ (V 5 12).toInt = gm 0 9 := rh.2.2.1
              have so9 := t421
              rw [kp9, kc9] at so9
              have n249 := bc.2.2.2.1.2.1
              have rs9 : RWn V422 ow gB (mU (mU gm 3 o.toNat 2) 8 (24 * pl.toNat + c.toNat) 1) := RWn.spoil rn453 (show ((pl.toNat : Nat) : Int) < (V18 3 12).toInt from by rw [(up2_o hV18 (by decide))]; omega) (by (first | exact om_0d80a9462261 r3.2 kc9 kc254 | omega)) so9.1 so9.2 (fun a9 j9 h1 h2 => agr_24 ajV422 h2)
              have rn5 : RWn V430 ow gB (mU (mU gm 3 o.toNat 2) 8 (24 * pl.toNat + c.toNat) 1) := RWn.es rs9 (ESw.ag (show agr [(5, 6)] [] V422 V430 from (agr.up agr.rf hV430 rfl)) (by decide))
              have me454 : ME V V430 gf := (ME.up (ME.tr (ME.up ME.rf hV18 (Or.inr (by omega))) (ME.ag ajV422 (by decide))) hV430 (Or.inr (by omega)))
              have rl455 : RWl V430 gB gr t0 := RWl.mv hlr (fun i9 hi9 c9 h1 h2 => me454.2.1 c9 i9 h1 h2 (by omega)) (fun j9 hj9 => ((up2_o hV430 (by decide)).trans ((ajV422 39 j9 rfl).trans (up2_o hV18 (by decide))))) (by rw [((up2_o hV430 (by decide)).trans ((ajV422 3 13 rfl).trans (up2_o hV18 (by decide))))]; exact Int.le_refl _) ((up2_o hV430 (by decide)).trans ((ajV422 3 12 rfl).trans (up2_o hV18 (by decide))))
              have pq456 : (V430 5 7).toInt = ((V 5 7)).toInt := congrArg Int32.toInt ((up2_k hV430 (by decide)).trans ((ajV422 5 7 rfl).trans (up2_o hV18 (by decide))))
              have r457 : 0 ≤ ((V 5 7)).toInt ∧ ((V 5 7)).toInt ≤ 2048 := hMV 5 7
              have pq458 : (V430 5 11).toInt = ((V 5 11)).toInt := congrArg Int32.toInt ((up2_k hV430 (by decide)).trans ((ajV422 5 11 rfl).trans (up2_o hV18 (by decide))))
              have pq459 : (V430 5 12).toInt = ((V 5 12)).toInt := congrArg Int32.toInt ((up2_k hV430 (by decide)).trans ((ajV422 5 12 rfl).trans (up2_o hV18 (by decide))))
              have rz9 : RW V430 gB ((mU (mU gm 3 o.toNat 2) 8 (24 * pl.toNat + c.toNat) 1), ga, gr) := RW.fin rwq rn5 (by rw [mU_o _ _ (by omega), mU_o _ _ (by omega)]) (fun i9 => by rw [mU_o _ _ (by omega), mU_o _ _ (by omega)]) ((up2_k hV430 (by decide)).trans ((ajV422 5 8 rfl).trans (up2_o hV18 (by decide)))) (fun i9 => ((up2_o hV430 (by decide)).trans ((ajV422 40 i9 rfl).trans (up2_o hV18 (by decide))))) (by rw [mU_o _ _ (by omega), mU_o _ _ (by omega)]; omega) (fun h9 => by rw [mU_o _ _ (by omega), mU_o _ _ (by omega)] at h9; exfalso; omega) (fun h9 => by rw [mU_o _ _ (by omega), mU_o _ _ (by omega)] at h9; rw [mU_o _ _ (by omega), mU_o _ _ (by omega), mU_o _ _ (by omega), mU_o _ _ (by omega)]; have h8 := rh2 h9; exact ⟨by omega, by omega⟩) (show (V430 5 6).toInt = ((gr.length : Nat) : Int) from by (first | exact om_f00ff43a6068 rd2 pq424 hz434 pq444 | omega)) (show (V430 5 7).toInt = ((t0 : Nat) : Int) from by rw [((up2_k hV430 (by decide)).trans ((ajV422 5 7 rfl).trans (up2_o hV18 (by decide)))), rt9, tz9]) rl455
              have rx452 : RW V430 gB (mAb gB gm (V 70 gf).toInt (V 71 gf).toInt (V 72 gf).toInt, ga, gr) := by rw [q70, q71, q72, ab_y (show gm 0 6 = 2 from by (first | exact om_96d4fa0da761 sg7.1 rh1 f376 | omega)) (by omega) (by have h9 := rh2 (by omega); have h8 := PAS.n xJ249_0 (by omega); exact ⟨fun h7 => h8.1 (h9.2.trans h7), fun h7 => h8.2.1 (h9.2.trans h7), fun h7 => h8.2.2 (h9.2.trans h7)⟩)]; exact rz9
              exact W.vret hx hb hr (fun t ht hW => ⟨⟨(V430, L), rfl, ⟨hMV430, agV430, rfl, rp451, rx452⟩, by rw [ht]; exact hP, va_K.moved hW.alike hK, hD⟩, hS.F ht⟩) hS.2.2 dX5_abandon_104
      refine lv_icmp_eq (tgt := 38) hx hb dX5_abandon_17 (by decide) (fun c460 => ?_) (fun c460 => ?_)
      · skip
        have f461 : ((V 5 12)).toInt = 12 := b_eq rfl (by decide) c460
        refine lv_iconst (v := 1) hx hb dX5_abandon_38 (by decide) ?_
        refine lv_goto (tgt := 43) hx hb dX5_abandon_39 (by decide) ?_
        have r462 : Int32.toInt 1 = 1 := by decide
        exact J249 1 H locs ls (by decide) (show PAS (Int32.toInt 1) (V 5 12).toInt from Or.inl ⟨by decide, by omega⟩) hP hD hS (lv_sub hl [0, 1] rfl)
      · skip
        have f463 : ((V 5 12)).toInt ≠ 12 := b_neq rfl (by decide) c460
        refine lv_aload_n hx hb dX5_abandon_20 rfl (lv_at hl 0 rfl) ?_
        refine va_get (D := D) (ci := 5) (v := .int (V18 5 12)) (fs := (xfMachine ad V18 L Z)) (C := RX5) (T := TX5) (N := 15) hx hb hg inX5 hown hK hP 5 xgMachine rfl 12 (by decide) (hg _ w679) (fun _ h9 => h9) rfl dX5_abandon_21 ?_
        refine g_top (v := (V 5 12)) (up2_o hV18 (by decide)) ?_
        refine lv_bipush (v := 13) hx hb dX5_abandon_24 (by decide) ?_
        refine lv_icmp_eq (tgt := 38) hx hb dX5_abandon_26 (by decide) (fun c464 => ?_) (fun c464 => ?_)
        · skip
          have f465 : ((V 5 12)).toInt = 13 := b_eq rfl (by decide) c464
          refine lv_iconst (v := 1) hx hb dX5_abandon_38 (by decide) ?_
          refine lv_goto (tgt := 43) hx hb dX5_abandon_39 (by decide) ?_
          have r466 : Int32.toInt 1 = 1 := by decide
          exact J249 1 H locs ls (by decide) (show PAS (Int32.toInt 1) (V 5 12).toInt from Or.inl ⟨by decide, by omega⟩) hP hD hS (lv_sub hl [0, 1] rfl)
        · skip
          have f467 : ((V 5 12)).toInt ≠ 13 := b_neq rfl (by decide) c464
          refine lv_aload_n hx hb dX5_abandon_29 rfl (lv_at hl 0 rfl) ?_
          refine va_get (D := D) (ci := 5) (v := .int (V18 5 12)) (fs := (xfMachine ad V18 L Z)) (C := RX5) (T := TX5) (N := 15) hx hb hg inX5 hown hK hP 5 xgMachine rfl 12 (by decide) (hg _ w679) (fun _ h9 => h9) rfl dX5_abandon_30 ?_
          refine g_top (v := (V 5 12)) (up2_o hV18 (by decide)) ?_
          refine lv_bipush (v := 16) hx hb dX5_abandon_33 (by decide) ?_
          refine lv_icmp_ne (tgt := 42) hx hb dX5_abandon_35 (by decide) (fun c468 => ?_) (fun c468 => ?_)
          · skip
            have f469 : ((V 5 12)).toInt ≠ 16 := b_neq rfl (by decide) c468
            refine lv_iconst (v := 0) hx hb dX5_abandon_42 (by decide) ?_
            have r470 : Int32.toInt 0 = 0 := by decide
            exact J249 0 H locs ls (by decide) (show PAS (Int32.toInt 0) (V 5 12).toInt from Or.inr ⟨by decide, by omega, by omega, by omega⟩) hP hD hS (lv_sub hl [0, 1] rfl)
          · skip
            have f471 : ((V 5 12)).toInt = 16 := b_eq rfl (by decide) c468
            refine lv_iconst (v := 1) hx hb dX5_abandon_38 (by decide) ?_
            refine lv_goto (tgt := 43) hx hb dX5_abandon_39 (by decide) ?_
            have r472 : Int32.toInt 1 = 1 := by decide
            exact J249 1 H locs ls (by decide) (show PAS (Int32.toInt 1) (V 5 12).toInt from Or.inl ⟨by decide, by omega⟩) hP hD hS (lv_sub hl [0, 1] rfl)
  · skip
    have hf : FRc V gB gf (Fopen lv o c pl) := by rw [← hfe]; exact hf0
    have tl8 : tw9 = t0 + (Fopen lv o c pl : Fr).2.2.2.length := by rw [← hfe]; exact tl9
    obtain ⟨⟨k67, k68⟩, hoc⟩ := hf
    obtain ⟨q69, ⟨q70, o0, o1⟩, ⟨q71, c0, c1⟩, ⟨q72, s0, s1⟩⟩ := hoc
    have cn9 : c.toNat < nC gB := by omega
    have kc9 : Int32.toNatClampNeg (V 71 gf) = c.toNat := by have h9 := i_clamp (x := V 71 gf) rfl (by omega); omega
    have ko9 : Int32.toNatClampNeg (V 70 gf) = o.toNat := by have h9 := i_clamp (x := V 70 gf) rfl (by omega); omega
    have kp9 : Int32.toNatClampNeg (V 72 gf) = pl.toNat := by have h9 := i_clamp (x := V 72 gf) rfl (by omega); omega
    have tz9 : tw9 = t0 := tl8
    have rh8 : (V 5 8).toInt = gm 0 4 := rh.2.2.2.1
    refine lv_aload_n hx hb dX5_abandon_0 rfl (lv_at hl 0 rfl) ?_
    refine va_get (D := D) (ci := 5) (v := .ref (ad 3)) (fs := (xfMachine ad V L Z)) (C := RX5) (T := TX5) (N := 15) hx hb hg inX5 hown hK hP 5 xgMachine rfl 0 (by decide) (hg _ w667) (fun _ h9 => h9) rfl dX5_abandon_1 ?_
    refine lv_aload_n hx hb dX5_abandon_4 rfl (lv_at hl 1 rfl) ?_
    refine va_getN (D := D) (ci := 4) (v := .int (V 70 gf)) (fs := (xfFrame V gf)) (C := RX4) (T := TX4) (N := 19) hx hb hg inX4 hown hK hP (336 + gf) (xgFrame hgf) rfl 3 (by decide) (hnw.use 1192 n1192 rfl) (fun _ h9 => h9) rfl dX5_abandon_5 ?_
    refine gA_void (gA_runV (As := [.int (V 70 gf)]) (rest := []) (ci := 8) (q0 := 3) hx hb hml hown hg hP hD hK hS hA hnw hgk (x_dropObject9 l D ks H.size ad kk V L Z (V 70 gf) hMV (by first | omega | ((try (have i_bc := Imp.go bc (by omega))); (try (have i_rwq := Imp.go rwq (by omega))); (try (have i_mo := Imp.go mo (by omega))); (try (have i_mo := Imp.go mo (by omega))); (try (have i_rwq := Imp.go rwq (by omega))); (try (have i_bc := Imp.go bc (by omega))); omega))) w1336 w1337 w1338 w164 w1339 rfl xgStock hdV_yX8_dropObject ⟨Nat.le_of_ble_eq_true rfl, Nat.le_of_ble_eq_true rfl⟩ rfl hl.1 rfl (Nat.le_of_ble_eq_true rfl) dX5_abandon_8 ⟨Nat.le_of_ble_eq_true rfl, Nat.le_of_ble_eq_true rfl⟩) hP hD hK hS hA (fun u474 H locs w475 hP hD hK hS => ?_)
    obtain ⟨V478, L479⟩ := u474
    obtain ⟨hMV478, ajV478, axL479, t476, t477⟩ := w475
    have axL479 : L = L479 := Eq.symm axL479
    subst axL479
    have hP : va_P D vwCl (xw ad kk V478 L Z) H := hP
    have hD : va_D A (xw ad kk V478 L Z) := hD
    have hMV478 : rgd bX V478 := hMV478
    have ajV478 : agr [] [25, 28] V V478 := ajV478
    have agV478 : agr [(5, 6)] [24, 25, 28] V V478 := agV.tr ajV478 (by decide) (by decide)
    have t476 : ∀ n, ME V V478 n := t476
    have t477 : (((V 25 (24 * Int32.toNatClampNeg (V 27 (Int32.toNatClampNeg (V 70 gf))) + Int32.toNatClampNeg (V 26 (Int32.toNatClampNeg (V 70 gf))))).toInt = ((V 70 gf)).toInt) ∧ V478 = (up2 (up2 V 28 (Int32.toNatClampNeg (V 70 gf)) 2) 25 (24 * Int32.toNatClampNeg (V 27 (Int32.toNatClampNeg (V 70 gf))) + Int32.toNatClampNeg (V 26 (Int32.toNatClampNeg (V 70 gf)))) (-1))) ∨ (((V 25 (24 * Int32.toNatClampNeg (V 27 (Int32.toNatClampNeg (V 70 gf))) + Int32.toNatClampNeg (V 26 (Int32.toNatClampNeg (V 70 gf))))).toInt ≠ ((V 70 gf)).toInt) ∧ V478 = (up2 V 28 (Int32.toNatClampNeg (V 70 gf)) 2)) := t477
    rcases t477 with ⟨hc480, hw481⟩ | ⟨hc482, hw483⟩
    · skip
      obtain ⟨V484, hV484⟩ : ∃ z, z = up2 V 28 (Int32.toNatClampNeg (V 70 gf)) 2 := ⟨_, rfl⟩
      have hV478 : V478 = up2 V484 25 (24 * Int32.toNatClampNeg (V 27 (Int32.toNatClampNeg (V 70 gf))) + Int32.toNatClampNeg (V 26 (Int32.toNatClampNeg (V 70 gf)))) (-1) := by rw [hw481, hV484]
      refine lv_aload_n hx hb dX5_abandon_11 rfl (lv_at hl 0 rfl) ?_
      refine va_get (D := D) (ci := 5) (v := .int (V478 5 12)) (fs := (xfMachine ad V478 L Z)) (C := RX5) (T := TX5) (N := 15) hx hb hg inX5 hown hK hP 5 xgMachine rfl 12 (by decide) (hg _ w679) (fun _ h9 => h9) rfl dX5_abandon_12 ?_
      refine g_top (v := (V 5 12)) ((up2_o hV478 (by decide)).trans (up2_o hV484 (by decide))) ?_
      refine lv_bipush (v := 12) hx hb dX5_abandon_15 (by decide) ?_
      have J485 : ∀ (y486 : Int32) (H : Heap) (locs : List Loc) (ls : Array Slot), 0 ≤ y486.toInt ∧ y486.toInt ≤ 1 → (PAS y486.toInt (V 5 12).toInt) → va_P D vwCl (xw ad kk V478 L Z) H → va_D A (xw ad kk V478 L Z) → va_S A s.heap H locs → lv_has ls 4 [(0, .ref (ad 5)), (1, .ref (Z.fa gf))] → W p l e r_x_abandon9 s m ([.ref (ad 5), .ref (Z.fa gf)] : List Value).toArray below meth cq9 H locs 0 0 (MQ below (q_x_abandon9 D ks ad kk V L Z  b gf gB gm ga gfr gr A) ([.ref (ad 5), .ref (Z.fa gf)] : List Value).toArray s 0 0 A) (F0 m 43 ls [.int y486]) := by
        intro y486 H locs ls kJ485_0 xJ485_0 hP hD hS hl
        refine lv_istore_n (lv' := [(2, .int y486), (0, .ref (ad 5)), (1, .ref (Z.fa gf))]) hx hb dX5_abandon_43 rfl hl (by decide) rfl (fun ls hl => ?_)
        refine lv_aload_n hx hb dX5_abandon_44 rfl (lv_at hl 1 rfl) ?_
        refine va_get (D := D) (ci := 5) (v := .ref (ad (38 + Int32.toNatClampNeg (V478 5 5)))) (fs := (xfMachine ad V478 L Z)) (C := RX5) (T := TX5) (N := 15) hx hb hg inX5 hown hK hP 5 xgMachine rfl 5 (by decide) (hg _ w672) (fun _ h9 => h9) rfl dX5_abandon_45 ?_
        have pq487 : (V478 5 5).toInt = ((V 5 5)).toInt := congrArg Int32.toInt ((up2_o hV478 (by decide)).trans (up2_o hV484 (by decide)))
        have r488 : 0 ≤ ((V 5 5)).toInt ∧ ((V 5 5)).toInt ≤ 1 := hMV 5 5
        refine g_topv (v := .ref (ad (38 + b))) (rfP (by first | omega | ((try (have i_bc := Imp.go bc (by omega))); (try (have i_rwq := Imp.go rwq (by omega))); (try (have i_mo := Imp.go mo (by omega))); (try (have i_mo := Imp.go mo (by omega))); (try (have i_rwq := Imp.go rwq (by omega))); (try (have i_bc := Imp.go bc (by omega))); omega))) ?_
        refine va_getN (D := D) (ci := 0) (v := .ref (ad (64 + b))) (fs := (xfBook ad V478 b)) (C := RX0) (T := TX0) (N := 13) hx hb hg inX0 hown hK hP (38 + b) (xgBook hb2) rfl 7 (by decide) (hnw.use 618 n618 rfl) (fun _ h9 => h9) rfl dX5_abandon_48 ?_
        refine lv_aload_n hx hb dX5_abandon_51 rfl (lv_at hl 2 rfl) ?_
        refine va_getN (D := D) (ci := 4) (v := .int (V478 71 gf)) (fs := (xfFrame V478 gf)) (C := RX4) (T := TX4) (N := 19) hx hb hg inX4 hown hK hP (336 + gf) (xgFrame hgf) rfl 4 (by decide) (hnw.use 1193 n1193 rfl) (fun _ h9 => h9) rfl dX5_abandon_52 ?_
        refine g_top (v := (V 71 gf)) ((up2_o hV478 (by decide)).trans (up2_o hV484 (by decide))) ?_
        have il489 : b < 2 := by first | exact om_f940a4667dd6 hb2 | first | omega | ((try (have i_bc := Imp.go bc (by omega))); (try (have i_rwq := Imp.go rwq (by omega))); (try (have i_mo := Imp.go mo (by omega))); (try (have i_mo := Imp.go mo (by omega))); (try (have i_rwq := Imp.go rwq (by omega))); (try (have i_bc := Imp.go bc (by omega))); omega)
        refine va_aldq (D := D) (i := (V 71 gf)) hx hb hK hP (64 + b) (57 + b) (xgcomps il489) (xtcomps il489) (i_in (a := ((V 71 gf)).toInt) rfl (by first | omega | ((try (have i_bc := Imp.go bc (by omega))); (try (have i_rwq := Imp.go rwq (by omega))); (try (have i_mo := Imp.go mo (by omega))); (try (have i_mo := Imp.go mo (by omega))); (try (have i_rwq := Imp.go rwq (by omega))); (try (have i_bc := Imp.go bc (by omega))); omega))) dX5_abandon_55 ?_
        have kc490 := i_clamp (x := (V 71 gf)) rfl (by first | omega | ((try (have i_bc := Imp.go bc (by omega))); (try (have i_rwq := Imp.go rwq (by omega))); (try (have i_mo := Imp.go mo (by omega))); (try (have i_mo := Imp.go mo (by omega))); (try (have i_rwq := Imp.go rwq (by omega))); (try (have i_bc := Imp.go bc (by omega))); omega))
        refine g_topv (v := .ref (ad (72 + (24 * b + (Int32.toNatClampNeg (V 71 gf)))))) (congrArg va_rf (if_pos (by first | omega | ((try (have i_bc := Imp.go bc (by omega))); (try (have i_rwq := Imp.go rwq (by omega))); (try (have i_mo := Imp.go mo (by omega))); (try (have i_mo := Imp.go mo (by omega))); (try (have i_rwq := Imp.go rwq (by omega))); (try (have i_bc := Imp.go bc (by omega))); omega)))) ?_
        have il491 : (24 * b + (Int32.toNatClampNeg (V 71 gf))) < 48 := by first | exact om_31a61188bc78 hb2 r3.2 kc490 | first | omega | ((try (have i_bc := Imp.go bc (by omega))); (try (have i_rwq := Imp.go rwq (by omega))); (try (have i_mo := Imp.go mo (by omega))); (try (have i_mo := Imp.go mo (by omega))); (try (have i_rwq := Imp.go rwq (by omega))); (try (have i_bc := Imp.go bc (by omega))); omega)
        refine va_getN (D := D) (ci := 3) (v := .int (V478 51 (24 * b + (Int32.toNatClampNeg (V 71 gf))))) (fs := (xfComp ad V478 (24 * b + (Int32.toNatClampNeg (V 71 gf))))) (C := RX3) (T := TX3) (N := 13) hx hb hg inX3 hown hK hP (72 + (24 * b + (Int32.toNatClampNeg (V 71 gf)))) (xgComp il491) rfl 6 (by decide) (hnw.use 522 n522 rfl) (fun _ h9 => h9) rfl dX5_abandon_56 ?_
        refine g_top (v := (V 51 (24 * b + (Int32.toNatClampNeg (V 71 gf))))) ((up2_o hV478 (by decide)).trans (up2_o hV484 (by decide))) ?_
        have r492 : 0 ≤ ((V 51 (24 * b + (Int32.toNatClampNeg (V 71 gf))))).toInt ∧ ((V 51 (24 * b + (Int32.toNatClampNeg (V 71 gf))))).toInt ≤ 3 := hMV 51 (24 * b + (Int32.toNatClampNeg (V 71 gf)))
        refine lv_iconst (v := 3) hx hb dX5_abandon_59 (by decide) ?_
        refine lv_icmp_eq (tgt := 67) hx hb dX5_abandon_60 (by decide) (fun c493 => ?_) (fun c493 => ?_)
        · skip
          have f494 : ((V 51 (24 * b + (Int32.toNatClampNeg (V 71 gf))))).toInt = 3 := b_eq rfl (by decide) c493
          refine lv_iconst (v := 0) hx hb dX5_abandon_67 (by decide) ?_
          refine lv_istore_n (lv' := [(3, .int 0), (2, .int y486), (0, .ref (ad 5)), (1, .ref (Z.fa gf))]) hx hb dX5_abandon_68 rfl hl (by decide) rfl (fun ls hl => ?_)
          refine lv_aload_n hx hb dX5_abandon_69 rfl (lv_at hl 2 rfl) ?_
          refine va_get (D := D) (ci := 5) (v := .int (V478 5 9)) (fs := (xfMachine ad V478 L Z)) (C := RX5) (T := TX5) (N := 15) hx hb hg inX5 hown hK hP 5 xgMachine rfl 9 (by decide) (hg _ w676) (fun _ h9 => h9) rfl dX5_abandon_70 ?_
          refine g_top (v := (V 5 9)) ((up2_o hV478 (by decide)).trans (up2_o hV484 (by decide))) ?_
          refine lv_iconst (v := 2) hx hb dX5_abandon_73 (by decide) ?_
          refine lv_icmp_ne (tgt := 100) hx hb dX5_abandon_74 (by decide) (fun c495 => ?_) (fun c495 => ?_)
          · skip
            have f496 : ((V 5 9)).toInt ≠ 2 := b_neq rfl (by decide) c495
            have f497 : 3 ≤ ((V 5 9)).toInt := by (first | exact om_5241ad6bc921 sg7.1 f496 | omega)
            clear f496
            refine lv_aload_n hx hb dX5_abandon_100 rfl (lv_at hl 2 rfl) ?_
            have pq498 : (V478 5 6).toInt = ((V 5 6)).toInt := congrArg Int32.toInt ((up2_o hV478 (by decide)).trans (up2_o hV484 (by decide)))
            refine gA_void (gA_runV (As := []) (rest := []) (ci := 5) (q0 := 5) hx hb hml hown hg hP hD hK hS hA hnw hgk (x_leave9 l D ks H.size ad kk V478 L Z  hMV478 (show 1 ≤ (V478 5 6).toInt from by first | exact om_0cac171fa40c gd pq498 | first | omega | ((try (have i_bc := Imp.go bc (by omega))); (try (have i_rwq := Imp.go rwq (by omega))); (try (have i_mo := Imp.go mo (by omega))); (try (have i_mo := Imp.go mo (by omega))); (try (have i_rwq := Imp.go rwq (by omega))); (try (have i_bc := Imp.go bc (by omega))); omega))) w1308 w1310 w50 w171 w1311 rfl xgMachine hdV_yX5_leave ⟨Nat.le_of_ble_eq_true rfl, Nat.le_of_ble_eq_true rfl⟩ rfl hl.1 rfl (Nat.le_of_ble_eq_true rfl) dX5_abandon_101 ⟨Nat.le_of_ble_eq_true rfl, Nat.le_of_ble_eq_true rfl⟩) hP hD hK hS hA (fun u500 H locs w501 hP hD hK hS => ?_)
            obtain ⟨V504, L505⟩ := u500
            obtain ⟨hMV504, ajV504, axL505, t502, t503⟩ := w501
            have axL505 : L = L505 := Eq.symm axL505
            subst axL505
            have hP : va_P D vwCl (xw ad kk V504 L Z) H := hP
            have hD : va_D A (xw ad kk V504 L Z) := hD
            have hMV504 : rgd bX V504 := hMV504
            have ajV504 : agr [(5, 6)] [] V478 V504 := ajV504
            have agV504 : agr [(5, 6)] [24, 25, 28] V V504 := agV478.tr ajV504 (by decide) (by decide)
            have t502 : (V504 5 6).toInt = (V478 5 6).toInt - 1 := t502
            have t503 : ((True) ∧ V504 = (up2 V478 5 6 (V478 5 6 - 1))) := t503
            have r506 : 0 ≤ ((V504 5 6)).toInt ∧ ((V504 5 6)).toInt ≤ 400 := hMV504 5 6
            have hw507 := t503.2
            obtain ⟨z508, ez508⟩ : ∃ y : Int32, y = V478 5 6 - 1 := ⟨_, rfl⟩
            have hz508 : z508.toInt = (V478 5 6).toInt - 1 := i_sub ez508 rfl (by decide) (by first | exact om_1c0ddc14e6cd gd sl8 pq498 | first | omega | ((try (have i_bc := Imp.go bc (by omega))); (try (have i_rwq := Imp.go rwq (by omega))); (try (have i_mo := Imp.go mo (by omega))); (try (have i_mo := Imp.go mo (by omega))); (try (have i_rwq := Imp.go rwq (by omega))); (try (have i_bc := Imp.go bc (by omega))); omega))
            have hV504 : V504 = up2 V478 5 6 z508 := by rw [hw507, ez508]
            have me509 : ME V V504 gf := (ME.up (ME.up (ME.up ME.rf hV484 (Or.inr (by omega))) hV478 (Or.inr (by omega))) hV504 (Or.inr (by omega)))
            have pq510 : (V504 67 gf).toInt = ((V 67 gf)).toInt := congrArg Int32.toInt ((up2_o hV504 (by decide)).trans ((up2_o hV478 (by decide)).trans (up2_o hV484 (by decide))))
            have pq511 : (V504 68 gf).toInt = ((V 68 gf)).toInt := congrArg Int32.toInt ((up2_o hV504 (by decide)).trans ((up2_o hV478 (by decide)).trans (up2_o hV484 (by decide))))
            have pq512 : (V504 70 gf).toInt = ((V 70 gf)).toInt := congrArg Int32.toInt ((up2_o hV504 (by decide)).trans ((up2_o hV478 (by decide)).trans (up2_o hV484 (by decide))))
            have pq513 : (V504 71 gf).toInt = ((V 71 gf)).toInt := congrArg Int32.toInt ((up2_o hV504 (by decide)).trans ((up2_o hV478 (by decide)).trans (up2_o hV484 (by decide))))
            have pq514 : (V504 75 gf).toInt = ((V 75 gf)).toInt := congrArg Int32.toInt ((up2_o hV504 (by decide)).trans ((up2_o hV478 (by decide)).trans (up2_o hV484 (by decide))))
            have pq515 : (V504 76 gf).toInt = ((V 76 gf)).toInt := congrArg Int32.toInt ((up2_o hV504 (by decide)).trans ((up2_o hV478 (by decide)).trans (up2_o hV484 (by decide))))
            have pq516 : (V504 80 gf).toInt = ((V 80 gf)).toInt := congrArg Int32.toInt ((up2_o hV504 (by decide)).trans ((up2_o hV478 (by decide)).trans (up2_o hV484 (by decide))))
            have pq517 : (V504 84 gf).toInt = ((V 84 gf)).toInt := congrArg Int32.toInt ((up2_o hV504 (by decide)).trans ((up2_o hV478 (by decide)).trans (up2_o hV484 (by decide))))
            have pq518 : (V504 5 6).toInt = z508.toInt := congrArg Int32.toInt (up2_s hV504)
            have pq519 : (V504 5 8).toInt = ((V 5 8)).toInt := congrArg Int32.toInt ((up2_k hV504 (by decide)).trans ((up2_o hV478 (by decide)).trans (up2_o hV484 (by decide))))
            have pq520 : (V504 5 9).toInt = ((V 5 9)).toInt := congrArg Int32.toInt ((up2_k hV504 (by decide)).trans ((up2_o hV478 (by decide)).trans (up2_o hV484 (by decide))))
            have pq521 : (V504 3 13).toInt = ((V 3 13)).toInt := congrArg Int32.toInt ((up2_o hV504 (by decide)).trans ((up2_o hV478 (by decide)).trans (up2_o hV484 (by decide))))
            have pq522 : (V504 43 (5 * b + 2)).toInt = ((V 43 (5 * b + 2))).toInt := congrArg Int32.toInt ((up2_o hV504 (by decide)).trans ((up2_o hV478 (by decide)).trans (up2_o hV484 (by decide))))
            have pq523 : (V504 42 b).toInt = ((V 42 b)).toInt := congrArg Int32.toInt ((up2_o hV504 (by decide)).trans ((up2_o hV478 (by decide)).trans (up2_o hV484 (by decide))))
            have pq524 : (V504 41 b).toInt = ((V 41 b)).toInt := congrArg Int32.toInt ((up2_o hV504 (by decide)).trans ((up2_o hV478 (by decide)).trans (up2_o hV484 (by decide))))
            have rp525 : MJ V504 Z b := MP.lv (MO.mp mo) me509 (by (first | exact om_dca0de52e899 gd pq498 hz508 pq518 | omega)) (fun _ => Or.inl (by omega))
            have dx9 : (Int32.toNatClampNeg (V 70 gf)) = o.toNat := by have h9 := i_clamp (x := (V 70 gf)) rfl (by omega); (first | exact om_890eb046e93a ko9 | omega)
            have do9 : ((o.toNat : Nat) : Int) < gm 0 2 := by omega
            have db9 := (rn).2.1 _ do9
            have ds9 : 24 * Int32.toNatClampNeg (V 27 (Int32.toNatClampNeg (V 70 gf))) + Int32.toNatClampNeg (V 26 (Int32.toNatClampNeg (V 70 gf))) = 24 * (gm 2 o.toNat).toNat + (gm 1 o.toNat).toNat := by rw [dx9]; have h1 := db9.1.1; have h2 := db9.1.2.1; have h3 := i_clamp (x := V 27 o.toNat) rfl (by omega); have h4 := i_clamp (x := V 26 o.toNat) rfl (by omega); omega
            have rn527 : RWn V478 ow gB (mU gm 3 o.toNat 2) := RWn.drop rn do9 (fun x9 hx9 => (up2_o hV478 (by decide)).trans (up2_k hV484 (by rw [dx9]; exact hx9))) (by rw [← dx9, (up2_o hV478 (by decide)).trans (up2_s hV484)]; decide) (fun k9 hk9 => (up2_k hV478 (by rw [ds9]; exact hk9)).trans (up2_o hV484 (by decide))) (by rw [← ds9, up2_s hV478, if_pos (by rw [← dx9]; have h9 := i_clamp (x := (V 70 gf)) rfl (by omega); omega)]; decide) (fun c9 k9 h1 h2 h3 => ((show V478 c9 k9 = V484 c9 k9 from by rw [hV478]; exact up2_pl (by omega)).trans (show V484 c9 k9 = V c9 k9 from by rw [hV484]; exact up2_pl (by omega))))
            have s51 : (V 51 (24 * b + Int32.toNatClampNeg (V 71 gf))).toInt = ((bS gB c.toNat : Nat) : Int) := by rw [kc9]; exact BKc.sc bc cn9
            have rh2 : gm 0 6 = 2 → (V 5 11).toInt = gm 0 8 ∧ (V 5 12).toInt = gm 0 9 := rh.2.2.1
            have rn5 : RWn V504 ow gB (mU gm 3 o.toNat 2) := RWn.es rn527 (ESw.ag (show agr [(5, 6)] [] V478 V504 from (agr.up agr.rf hV504 rfl)) (by decide))
            have me528 : ME V V504 gf := (ME.up (ME.up (ME.up ME.rf hV484 (Or.inr (by omega))) hV478 (Or.inr (by omega))) hV504 (Or.inr (by omega)))
            have rl529 : RWl V504 gB gr t0 := RWl.mv hlr (fun i9 hi9 c9 h1 h2 => me528.2.1 c9 i9 h1 h2 (by omega)) (fun j9 hj9 => ((up2_o hV504 (by decide)).trans ((up2_o hV478 (by decide)).trans (up2_o hV484 (by decide))))) (by rw [((up2_o hV504 (by decide)).trans ((up2_o hV478 (by decide)).trans (up2_o hV484 (by decide))))]; exact Int.le_refl _) ((up2_o hV504 (by decide)).trans ((up2_o hV478 (by decide)).trans (up2_o hV484 (by decide))))
            have pq530 : (V504 5 7).toInt = ((V 5 7)).toInt := congrArg Int32.toInt ((up2_k hV504 (by decide)).trans ((up2_o hV478 (by decide)).trans (up2_o hV484 (by decide))))
            have r531 : 0 ≤ ((V 5 7)).toInt ∧ ((V 5 7)).toInt ≤ 2048 := hMV 5 7
            have pq532 : (V504 5 11).toInt = ((V 5 11)).toInt := congrArg Int32.toInt ((up2_k hV504 (by decide)).trans ((up2_o hV478 (by decide)).trans (up2_o hV484 (by decide))))
            have pq533 : (V504 5 12).toInt = ((V 5 12)).toInt := congrArg Int32.toInt ((up2_k hV504 (by decide)).trans ((up2_o hV478 (by decide)).trans (up2_o hV484 (by decide))))
            have rz9 : RW V504 gB ((mU gm 3 o.toNat 2), ga, gr) := RW.fin rwq rn5 (by rw [mU_o _ _ (by omega)]) (fun i9 => by rw [mU_o _ _ (by omega)]) ((up2_k hV504 (by decide)).trans ((up2_o hV478 (by decide)).trans (up2_o hV484 (by decide)))) (fun i9 => ((up2_o hV504 (by decide)).trans ((up2_o hV478 (by decide)).trans (up2_o hV484 (by decide))))) (by rw [mU_o _ _ (by omega)]; omega) (fun h9 => by rw [mU_o _ _ (by omega)] at h9; exfalso; omega) (fun h9 => by rw [mU_o _ _ (by omega)] at h9; rw [mU_o _ _ (by omega), mU_o _ _ (by omega)]; have h8 := rh2 h9; exact ⟨by omega, by omega⟩) (show (V504 5 6).toInt = ((gr.length : Nat) : Int) from by (first | exact om_f00ff43a6068 rd2 pq498 hz508 pq518 | omega)) (show (V504 5 7).toInt = ((t0 : Nat) : Int) from by rw [((up2_k hV504 (by decide)).trans ((up2_o hV478 (by decide)).trans (up2_o hV484 (by decide)))), rt9, tz9]) rl529
            have rx526 : RW V504 gB (mAb gB gm (V 70 gf).toInt (V 71 gf).toInt (V 72 gf).toInt, ga, gr) := by rw [q70, q71, q72, ab_n (fun h9 => by have h1 := h9.1; have h2 := h9.2.1; have h8 := rh2 h1; by_cases y1 : y486.toInt = 1; (rcases PAS.y xJ485_0 y1 with q9 | q9 | q9; (exact h9.2.2.1 (h8.2.symm.trans q9)); (exact h9.2.2.2.1 (h8.2.symm.trans q9)); (exact h9.2.2.2.2 (h8.2.symm.trans q9))); (clear h9; omega))]; exact rz9
            exact W.vret hx hb hr (fun t ht hW => ⟨⟨(V504, L), rfl, ⟨hMV504, agV504, rfl, rp525, rx526⟩, by rw [ht]; exact hP, va_K.moved hW.alike hK, hD⟩, hS.F ht⟩) hS.2.2 dX5_abandon_104
          · skip
            have f534 : ((V 5 9)).toInt = 2 := b_eq rfl (by decide) c495
            refine lv_iload_n hx hb dX5_abandon_77 rfl (lv_at hl 0 rfl) ?_
            refine lv_if_eq (tgt := 100) hx hb dX5_abandon_78 (by decide) (fun _ => ?_) (fun q => absurd (by decide) q)
            refine lv_aload_n hx hb dX5_abandon_100 rfl (lv_at hl 2 rfl) ?_
            have pq535 : (V478 5 6).toInt = ((V 5 6)).toInt := congrArg Int32.toInt ((up2_o hV478 (by decide)).trans (up2_o hV484 (by decide)))
            refine gA_void (gA_runV (As := []) (rest := []) (ci := 5) (q0 := 5) hx hb hml hown hg hP hD hK hS hA hnw hgk (x_leave9 l D ks H.size ad kk V478 L Z  hMV478 (show 1 ≤ (V478 5 6).toInt from by first | exact om_0cac171fa40c gd pq535 | first | omega | ((try (have i_bc := Imp.go bc (by omega))); (try (have i_rwq := Imp.go rwq (by omega))); (try (have i_mo := Imp.go mo (by omega))); (try (have i_mo := Imp.go mo (by omega))); (try (have i_rwq := Imp.go rwq (by omega))); (try (have i_bc := Imp.go bc (by omega))); omega))) w1308 w1310 w50 w171 w1311 rfl xgMachine hdV_yX5_leave ⟨Nat.le_of_ble_eq_true rfl, Nat.le_of_ble_eq_true rfl⟩ rfl hl.1 rfl (Nat.le_of_ble_eq_true rfl) dX5_abandon_101 ⟨Nat.le_of_ble_eq_true rfl, Nat.le_of_ble_eq_true rfl⟩) hP hD hK hS hA (fun u537 H locs w538 hP hD hK hS => ?_)
            obtain ⟨V541, L542⟩ := u537
            obtain ⟨hMV541, ajV541, axL542, t539, t540⟩ := w538
            have axL542 : L = L542 := Eq.symm axL542
            subst axL542
            have hP : va_P D vwCl (xw ad kk V541 L Z) H := hP
            have hD : va_D A (xw ad kk V541 L Z) := hD
            have hMV541 : rgd bX V541 := hMV541
            have ajV541 : agr [(5, 6)] [] V478 V541 := ajV541
            have agV541 : agr [(5, 6)] [24, 25, 28] V V541 := agV478.tr ajV541 (by decide) (by decide)
            have t539 : (V541 5 6).toInt = (V478 5 6).toInt - 1 := t539
            have t540 : ((True) ∧ V541 = (up2 V478 5 6 (V478 5 6 - 1))) := t540
            have r543 : 0 ≤ ((V541 5 6)).toInt ∧ ((V541 5 6)).toInt ≤ 400 := hMV541 5 6
            have hw544 := t540.2
            obtain ⟨z545, ez545⟩ : ∃ y : Int32, y = V478 5 6 - 1 := ⟨_, rfl⟩
            have hz545 : z545.toInt = (V478 5 6).toInt - 1 := i_sub ez545 rfl (by decide) (by first | exact om_1c0ddc14e6cd gd sl8 pq535 | first | omega | ((try (have i_bc := Imp.go bc (by omega))); (try (have i_rwq := Imp.go rwq (by omega))); (try (have i_mo := Imp.go mo (by omega))); (try (have i_mo := Imp.go mo (by omega))); (try (have i_rwq := Imp.go rwq (by omega))); (try (have i_bc := Imp.go bc (by omega))); omega))
            have hV541 : V541 = up2 V478 5 6 z545 := by rw [hw544, ez545]
            have me546 : ME V V541 gf := (ME.up (ME.up (ME.up ME.rf hV484 (Or.inr (by omega))) hV478 (Or.inr (by omega))) hV541 (Or.inr (by omega)))
            have pq547 : (V541 67 gf).toInt = ((V 67 gf)).toInt := congrArg Int32.toInt ((up2_o hV541 (by decide)).trans ((up2_o hV478 (by decide)).trans (up2_o hV484 (by decide))))
            have pq548 : (V541 68 gf).toInt = ((V 68 gf)).toInt := congrArg Int32.toInt ((up2_o hV541 (by decide)).trans ((up2_o hV478 (by decide)).trans (up2_o hV484 (by decide))))
            have pq549 : (V541 70 gf).toInt = ((V 70 gf)).toInt := congrArg Int32.toInt ((up2_o hV541 (by decide)).trans ((up2_o hV478 (by decide)).trans (up2_o hV484 (by decide))))
            have pq550 : (V541 71 gf).toInt = ((V 71 gf)).toInt := congrArg Int32.toInt ((up2_o hV541 (by decide)).trans ((up2_o hV478 (by decide)).trans (up2_o hV484 (by decide))))
            have pq551 : (V541 75 gf).toInt = ((V 75 gf)).toInt := congrArg Int32.toInt ((up2_o hV541 (by decide)).trans ((up2_o hV478 (by decide)).trans (up2_o hV484 (by decide))))
            have pq552 : (V541 76 gf).toInt = ((V 76 gf)).toInt := congrArg Int32.toInt ((up2_o hV541 (by decide)).trans ((up2_o hV478 (by decide)).trans (up2_o hV484 (by decide))))
            have pq553 : (V541 80 gf).toInt = ((V 80 gf)).toInt := congrArg Int32.toInt ((up2_o hV541 (by decide)).trans ((up2_o hV478 (by decide)).trans (up2_o hV484 (by decide))))
            have pq554 : (V541 84 gf).toInt = ((V 84 gf)).toInt := congrArg Int32.toInt ((up2_o hV541 (by decide)).trans ((up2_o hV478 (by decide)).trans (up2_o hV484 (by decide))))
            have pq555 : (V541 5 6).toInt = z545.toInt := congrArg Int32.toInt (up2_s hV541)
            have pq556 : (V541 5 8).toInt = ((V 5 8)).toInt := congrArg Int32.toInt ((up2_k hV541 (by decide)).trans ((up2_o hV478 (by decide)).trans (up2_o hV484 (by decide))))
            have pq557 : (V541 5 9).toInt = ((V 5 9)).toInt := congrArg Int32.toInt ((up2_k hV541 (by decide)).trans ((up2_o hV478 (by decide)).trans (up2_o hV484 (by decide))))
            have pq558 : (V541 3 13).toInt = ((V 3 13)).toInt := congrArg Int32.toInt ((up2_o hV541 (by decide)).trans ((up2_o hV478 (by decide)).trans (up2_o hV484 (by decide))))
            have pq559 : (V541 43 (5 * b + 2)).toInt = ((V 43 (5 * b + 2))).toInt := congrArg Int32.toInt ((up2_o hV541 (by decide)).trans ((up2_o hV478 (by decide)).trans (up2_o hV484 (by decide))))
            have pq560 : (V541 42 b).toInt = ((V 42 b)).toInt := congrArg Int32.toInt ((up2_o hV541 (by decide)).trans ((up2_o hV478 (by decide)).trans (up2_o hV484 (by decide))))
            have pq561 : (V541 41 b).toInt = ((V 41 b)).toInt := congrArg Int32.toInt ((up2_o hV541 (by decide)).trans ((up2_o hV478 (by decide)).trans (up2_o hV484 (by decide))))
            have rp562 : MJ V541 Z b := MP.lv (MO.mp mo) me546 (by (first | exact om_dca0de52e899 gd pq535 hz545 pq555 | omega)) (fun _ => Or.inl (by omega))
            have dx9 : (Int32.toNatClampNeg (V 70 gf)) = o.toNat := by have h9 := i_clamp (x := (V 70 gf)) rfl (by omega); (first | exact om_890eb046e93a ko9 | omega)
            have do9 : ((o.toNat : Nat) : Int) < gm 0 2 := by omega
            have db9 := (rn).2.1 _ do9
            have ds9 : 24 * Int32.toNatClampNeg (V 27 (Int32.toNatClampNeg (V 70 gf))) + Int32.toNatClampNeg (V 26 (Int32.toNatClampNeg (V 70 gf))) = 24 * (gm 2 o.toNat).toNat + (gm 1 o.toNat).toNat := by rw [dx9]; have h1 := db9.1.1; have h2 := db9.1.2.1; have h3 := i_clamp (x := V 27 o.toNat) rfl (by omega); have h4 := i_clamp (x := V 26 o.toNat) rfl (by omega); omega
            have rn564 : RWn V478 ow gB (mU gm 3 o.toNat 2) := RWn.drop rn do9 (fun x9 hx9 => (up2_o hV478 (by decide)).trans (up2_k hV484 (by rw [dx9]; exact hx9))) (by rw [← dx9, (up2_o hV478 (by decide)).trans (up2_s hV484)]; decide) (fun k9 hk9 => (up2_k hV478 (by rw [ds9]; exact hk9)).trans (up2_o hV484 (by decide))) (by rw [← ds9, up2_s hV478, if_pos (by rw [← dx9]; have h9 := i_clamp (x := (V 70 gf)) rfl (by omega); omega)]; decide) (fun c9 k9 h1 h2 h3 => ((show V478 c9 k9 = V484 c9 k9 from by rw [hV478]; exact up2_pl (by omega)).trans (show V484 c9 k9 = V c9 k9 from by rw [hV484]; exact up2_pl (by omega))))
            have s51 : (V 51 (24 * b + Int32.toNatClampNeg (V 71 gf))).toInt = ((bS gB c.toNat : Nat) : Int) := by rw [kc9]; exact BKc.sc bc cn9
            have rh2 : gm 0 6 = 2 → (V 5 11).toInt = gm 0 8 ∧ (V 5 12).toInt = gm 0 9 := rh.2.2.1
            have rn5 : RWn V541 ow gB (mU gm 3 o.toNat 2) := RWn.es rn564 (ESw.ag (show agr [(5, 6)] [] V478 V541 from (agr.up agr.rf hV541 rfl)) (by decide))
            have me565 : ME V V541 gf := (ME.up (ME.up (ME.up ME.rf hV484 (Or.inr (by omega))) hV478 (Or.inr (by omega))) hV541 (Or.inr (by omega)))
            have rl566 : RWl V541 gB gr t0 := RWl.mv hlr (fun i9 hi9 c9 h1 h2 => me565.2.1 c9 i9 h1 h2 (by omega)) (fun j9 hj9 => ((up2_o hV541 (by decide)).trans ((up2_o hV478 (by decide)).trans (up2_o hV484 (by decide))))) (by rw [((up2_o hV541 (by decide)).trans ((up2_o hV478 (by decide)).trans (up2_o hV484 (by decide))))]; exact Int.le_refl _) ((up2_o hV541 (by decide)).trans ((up2_o hV478 (by decide)).trans (up2_o hV484 (by decide))))
            have pq567 : (V541 5 7).toInt = ((V 5 7)).toInt := congrArg Int32.toInt ((up2_k hV541 (by decide)).trans ((up2_o hV478 (by decide)).trans (up2_o hV484 (by decide))))
            have r568 : 0 ≤ ((V 5 7)).toInt ∧ ((V 5 7)).toInt ≤ 2048 := hMV 5 7
            have pq569 : (V541 5 11).toInt = ((V 5 11)).toInt := congrArg Int32.toInt ((up2_k hV541 (by decide)).trans ((up2_o hV478 (by decide)).trans (up2_o hV484 (by decide))))
            have pq570 : (V541 5 12).toInt = ((V 5 12)).toInt := congrArg Int32.toInt ((up2_k hV541 (by decide)).trans ((up2_o hV478 (by decide)).trans (up2_o hV484 (by decide))))
            have rz9 : RW V541 gB ((mU gm 3 o.toNat 2), ga, gr) := RW.fin rwq rn5 (by rw [mU_o _ _ (by omega)]) (fun i9 => by rw [mU_o _ _ (by omega)]) ((up2_k hV541 (by decide)).trans ((up2_o hV478 (by decide)).trans (up2_o hV484 (by decide)))) (fun i9 => ((up2_o hV541 (by decide)).trans ((up2_o hV478 (by decide)).trans (up2_o hV484 (by decide))))) (by rw [mU_o _ _ (by omega)]; omega) (fun h9 => by rw [mU_o _ _ (by omega)] at h9; exfalso; omega) (fun h9 => by rw [mU_o _ _ (by omega)] at h9; rw [mU_o _ _ (by omega), mU_o _ _ (by omega)]; have h8 := rh2 h9; exact ⟨by omega, by omega⟩) (show (V541 5 6).toInt = ((gr.length : Nat) : Int) from by (first | exact om_f00ff43a6068 rd2 pq535 hz545 pq555 | omega)) (show (V541 5 7).toInt = ((t0 : Nat) : Int) from by rw [((up2_k hV541 (by decide)).trans ((up2_o hV478 (by decide)).trans (up2_o hV484 (by decide)))), rt9, tz9]) rl566
            have rx563 : RW V541 gB (mAb gB gm (V 70 gf).toInt (V 71 gf).toInt (V 72 gf).toInt, ga, gr) := by rw [q70, q71, q72, ab_n (fun h9 => by have h1 := h9.1; have h2 := h9.2.1; have h8 := rh2 h1; by_cases y1 : y486.toInt = 1; (rcases PAS.y xJ485_0 y1 with q9 | q9 | q9; (exact h9.2.2.1 (h8.2.symm.trans q9)); (exact h9.2.2.2.1 (h8.2.symm.trans q9)); (exact h9.2.2.2.2 (h8.2.symm.trans q9))); (clear h9; omega))]; exact rz9
            exact W.vret hx hb hr (fun t ht hW => ⟨⟨(V541, L), rfl, ⟨hMV541, agV541, rfl, rp562, rx563⟩, by rw [ht]; exact hP, va_K.moved hW.alike hK, hD⟩, hS.F ht⟩) hS.2.2 dX5_abandon_104
        · skip
          have f571 : ((V 51 (24 * b + (Int32.toNatClampNeg (V 71 gf))))).toInt ≠ 3 := b_neq rfl (by decide) c493
          have f572 : ((V 51 (24 * b + (Int32.toNatClampNeg (V 71 gf))))).toInt ≤ 2 := by (first | exact om_f2755f8dba0a r492.2 f571 | omega)
          clear f571
          refine lv_iconst (v := 1) hx hb dX5_abandon_63 (by decide) ?_
          refine lv_goto (tgt := 68) hx hb dX5_abandon_64 (by decide) ?_
          refine lv_istore_n (lv' := [(3, .int 1), (2, .int y486), (0, .ref (ad 5)), (1, .ref (Z.fa gf))]) hx hb dX5_abandon_68 rfl hl (by decide) rfl (fun ls hl => ?_)
          refine lv_aload_n hx hb dX5_abandon_69 rfl (lv_at hl 2 rfl) ?_
          refine va_get (D := D) (ci := 5) (v := .int (V478 5 9)) (fs := (xfMachine ad V478 L Z)) (C := RX5) (T := TX5) (N := 15) hx hb hg inX5 hown hK hP 5 xgMachine rfl 9 (by decide) (hg _ w676) (fun _ h9 => h9) rfl dX5_abandon_70 ?_
          refine g_top (v := (V 5 9)) ((up2_o hV478 (by decide)).trans (up2_o hV484 (by decide))) ?_
          refine lv_iconst (v := 2) hx hb dX5_abandon_73 (by decide) ?_
          refine lv_icmp_ne (tgt := 100) hx hb dX5_abandon_74 (by decide) (fun c573 => ?_) (fun c573 => ?_)
          · skip
            have f574 : ((V 5 9)).toInt ≠ 2 := b_neq rfl (by decide) c573
            have f575 : 3 ≤ ((V 5 9)).toInt := by (first | exact om_5241ad6bc921 sg7.1 f574 | omega)
            clear f574
            refine lv_aload_n hx hb dX5_abandon_100 rfl (lv_at hl 2 rfl) ?_
            have pq576 : (V478 5 6).toInt = ((V 5 6)).toInt := congrArg Int32.toInt ((up2_o hV478 (by decide)).trans (up2_o hV484 (by decide)))
            refine gA_void (gA_runV (As := []) (rest := []) (ci := 5) (q0 := 5) hx hb hml hown hg hP hD hK hS hA hnw hgk (x_leave9 l D ks H.size ad kk V478 L Z  hMV478 (show 1 ≤ (V478 5 6).toInt from by first | exact om_0cac171fa40c gd pq576 | first | omega | ((try (have i_bc := Imp.go bc (by omega))); (try (have i_rwq := Imp.go rwq (by omega))); (try (have i_mo := Imp.go mo (by omega))); (try (have i_mo := Imp.go mo (by omega))); (try (have i_rwq := Imp.go rwq (by omega))); (try (have i_bc := Imp.go bc (by omega))); omega))) w1308 w1310 w50 w171 w1311 rfl xgMachine hdV_yX5_leave ⟨Nat.le_of_ble_eq_true rfl, Nat.le_of_ble_eq_true rfl⟩ rfl hl.1 rfl (Nat.le_of_ble_eq_true rfl) dX5_abandon_101 ⟨Nat.le_of_ble_eq_true rfl, Nat.le_of_ble_eq_true rfl⟩) hP hD hK hS hA (fun u578 H locs w579 hP hD hK hS => ?_)
            obtain ⟨V582, L583⟩ := u578
            obtain ⟨hMV582, ajV582, axL583, t580, t581⟩ := w579
            have axL583 : L = L583 := Eq.symm axL583
            subst axL583
            have hP : va_P D vwCl (xw ad kk V582 L Z) H := hP
            have hD : va_D A (xw ad kk V582 L Z) := hD
            have hMV582 : rgd bX V582 := hMV582
            have ajV582 : agr [(5, 6)] [] V478 V582 := ajV582
            have agV582 : agr [(5, 6)] [24, 25, 28] V V582 := agV478.tr ajV582 (by decide) (by decide)
            have t580 : (V582 5 6).toInt = (V478 5 6).toInt - 1 := t580
            have t581 : ((True) ∧ V582 = (up2 V478 5 6 (V478 5 6 - 1))) := t581
            have r584 : 0 ≤ ((V582 5 6)).toInt ∧ ((V582 5 6)).toInt ≤ 400 := hMV582 5 6
            have hw585 := t581.2
            obtain ⟨z586, ez586⟩ : ∃ y : Int32, y = V478 5 6 - 1 := ⟨_, rfl⟩
            have hz586 : z586.toInt = (V478 5 6).toInt - 1 := i_sub ez586 rfl (by decide) (by first | exact om_1c0ddc14e6cd gd sl8 pq576 | first | omega | ((try (have i_bc := Imp.go bc (by omega))); (try (have i_rwq := Imp.go rwq (by omega))); (try (have i_mo := Imp.go mo (by omega))); (try (have i_mo := Imp.go mo (by omega))); (try (have i_rwq := Imp.go rwq (by omega))); (try (have i_bc := Imp.go bc (by omega))); omega))
            have hV582 : V582 = up2 V478 5 6 z586 := by rw [hw585, ez586]
            have me587 : ME V V582 gf := (ME.up (ME.up (ME.up ME.rf hV484 (Or.inr (by omega))) hV478 (Or.inr (by omega))) hV582 (Or.inr (by omega)))
            have pq588 : (V582 67 gf).toInt = ((V 67 gf)).toInt := congrArg Int32.toInt ((up2_o hV582 (by decide)).trans ((up2_o hV478 (by decide)).trans (up2_o hV484 (by decide))))
            have pq589 : (V582 68 gf).toInt = ((V 68 gf)).toInt := congrArg Int32.toInt ((up2_o hV582 (by decide)).trans ((up2_o hV478 (by decide)).trans (up2_o hV484 (by decide))))
            have pq590 : (V582 70 gf).toInt = ((V 70 gf)).toInt := congrArg Int32.toInt ((up2_o hV582 (by decide)).trans ((up2_o hV478 (by decide)).trans (up2_o hV484 (by decide))))
            have pq591 : (V582 71 gf).toInt = ((V 71 gf)).toInt := congrArg Int32.toInt ((up2_o hV582 (by decide)).trans ((up2_o hV478 (by decide)).trans (up2_o hV484 (by decide))))
            have pq592 : (V582 75 gf).toInt = ((V 75 gf)).toInt := congrArg Int32.toInt ((up2_o hV582 (by decide)).trans ((up2_o hV478 (by decide)).trans (up2_o hV484 (by decide))))
            have pq593 : (V582 76 gf).toInt = ((V 76 gf)).toInt := congrArg Int32.toInt ((up2_o hV582 (by decide)).trans ((up2_o hV478 (by decide)).trans (up2_o hV484 (by decide))))
            have pq594 : (V582 80 gf).toInt = ((V 80 gf)).toInt := congrArg Int32.toInt ((up2_o hV582 (by decide)).trans ((up2_o hV478 (by decide)).trans (up2_o hV484 (by decide))))
            have pq595 : (V582 84 gf).toInt = ((V 84 gf)).toInt := congrArg Int32.toInt ((up2_o hV582 (by decide)).trans ((up2_o hV478 (by decide)).trans (up2_o hV484 (by decide))))
            have pq596 : (V582 5 6).toInt = z586.toInt := congrArg Int32.toInt (up2_s hV582)
            have pq597 : (V582 5 8).toInt = ((V 5 8)).toInt := congrArg Int32.toInt ((up2_k hV582 (by decide)).trans ((up2_o hV478 (by decide)).trans (up2_o hV484 (by decide))))
            have pq598 : (V582 5 9).toInt = ((V 5 9)).toInt := congrArg Int32.toInt ((up2_k hV582 (by decide)).trans ((up2_o hV478 (by decide)).trans (up2_o hV484 (by decide))))
            have pq599 : (V582 3 13).toInt = ((V 3 13)).toInt := congrArg Int32.toInt ((up2_o hV582 (by decide)).trans ((up2_o hV478 (by decide)).trans (up2_o hV484 (by decide))))
            have pq600 : (V582 43 (5 * b + 2)).toInt = ((V 43 (5 * b + 2))).toInt := congrArg Int32.toInt ((up2_o hV582 (by decide)).trans ((up2_o hV478 (by decide)).trans (up2_o hV484 (by decide))))
            have pq601 : (V582 42 b).toInt = ((V 42 b)).toInt := congrArg Int32.toInt ((up2_o hV582 (by decide)).trans ((up2_o hV478 (by decide)).trans (up2_o hV484 (by decide))))
            have pq602 : (V582 41 b).toInt = ((V 41 b)).toInt := congrArg Int32.toInt ((up2_o hV582 (by decide)).trans ((up2_o hV478 (by decide)).trans (up2_o hV484 (by decide))))
            have rp603 : MJ V582 Z b := MP.lv (MO.mp mo) me587 (by (first | exact om_dca0de52e899 gd pq576 hz586 pq596 | omega)) (fun _ => Or.inl (by omega))
            have dx9 : (Int32.toNatClampNeg (V 70 gf)) = o.toNat := by have h9 := i_clamp (x := (V 70 gf)) rfl (by omega); (first | exact om_890eb046e93a ko9 | omega)
            have do9 : ((o.toNat : Nat) : Int) < gm 0 2 := by omega
            have db9 := (rn).2.1 _ do9
            have ds9 : 24 * Int32.toNatClampNeg (V 27 (Int32.toNatClampNeg (V 70 gf))) + Int32.toNatClampNeg (V 26 (Int32.toNatClampNeg (V 70 gf))) = 24 * (gm 2 o.toNat).toNat + (gm 1 o.toNat).toNat := by rw [dx9]; have h1 := db9.1.1; have h2 := db9.1.2.1; have h3 := i_clamp (x := V 27 o.toNat) rfl (by omega); have h4 := i_clamp (x := V 26 o.toNat) rfl (by omega); omega
            have rn605 : RWn V478 ow gB (mU gm 3 o.toNat 2) := RWn.drop rn do9 (fun x9 hx9 => (up2_o hV478 (by decide)).trans (up2_k hV484 (by rw [dx9]; exact hx9))) (by rw [← dx9, (up2_o hV478 (by decide)).trans (up2_s hV484)]; decide) (fun k9 hk9 => (up2_k hV478 (by rw [ds9]; exact hk9)).trans (up2_o hV484 (by decide))) (by rw [← ds9, up2_s hV478, if_pos (by rw [← dx9]; have h9 := i_clamp (x := (V 70 gf)) rfl (by omega); omega)]; decide) (fun c9 k9 h1 h2 h3 => ((show V478 c9 k9 = V484 c9 k9 from by rw [hV478]; exact up2_pl (by omega)).trans (show V484 c9 k9 = V c9 k9 from by rw [hV484]; exact up2_pl (by omega))))
            have s51 : (V 51 (24 * b + Int32.toNatClampNeg (V 71 gf))).toInt = ((bS gB c.toNat : Nat) : Int) := by rw [kc9]; exact BKc.sc bc cn9
            have rh2 : gm 0 6 = 2 → (V 5 11).toInt = gm 0 8 ∧ (V 5 12).toInt = gm 0 9 := rh.2.2.1
            have rn5 : RWn V582 ow gB (mU gm 3 o.toNat 2) := RWn.es rn605 (ESw.ag (show agr [(5, 6)] [] V478 V582 from (agr.up agr.rf hV582 rfl)) (by decide))
            have me606 : ME V V582 gf := (ME.up (ME.up (ME.up ME.rf hV484 (Or.inr (by omega))) hV478 (Or.inr (by omega))) hV582 (Or.inr (by omega)))
            have rl607 : RWl V582 gB gr t0 := RWl.mv hlr (fun i9 hi9 c9 h1 h2 => me606.2.1 c9 i9 h1 h2 (by omega)) (fun j9 hj9 => ((up2_o hV582 (by decide)).trans ((up2_o hV478 (by decide)).trans (up2_o hV484 (by decide))))) (by rw [((up2_o hV582 (by decide)).trans ((up2_o hV478 (by decide)).trans (up2_o hV484 (by decide))))]; exact Int.le_refl _) ((up2_o hV582 (by decide)).trans ((up2_o hV478 (by decide)).trans (up2_o hV484 (by decide))))
            have pq608 : (V582 5 7).toInt = ((V 5 7)).toInt := congrArg Int32.toInt ((up2_k hV582 (by decide)).trans ((up2_o hV478 (by decide)).trans (up2_o hV484 (by decide))))
            have r609 : 0 ≤ ((V 5 7)).toInt ∧ ((V 5 7)).toInt ≤ 2048 := hMV 5 7
            have pq610 : (V582 5 11).toInt = ((V 5 11)).toInt := congrArg Int32.toInt ((up2_k hV582 (by decide)).trans ((up2_o hV478 (by decide)).trans (up2_o hV484 (by decide))))
            have pq611 : (V582 5 12).toInt = ((V 5 12)).toInt := congrArg Int32.toInt ((up2_k hV582 (by decide)).trans ((up2_o hV478 (by decide)).trans (up2_o hV484 (by decide))))
            have rz9 : RW V582 gB ((mU gm 3 o.toNat 2), ga, gr) := RW.fin rwq rn5 (by rw [mU_o _ _ (by omega)]) (fun i9 => by rw [mU_o _ _ (by omega)]) ((up2_k hV582 (by decide)).trans ((up2_o hV478 (by decide)).trans (up2_o hV484 (by decide)))) (fun i9 => ((up2_o hV582 (by decide)).trans ((up2_o hV478 (by decide)).trans (up2_o hV484 (by decide))))) (by rw [mU_o _ _ (by omega)]; omega) (fun h9 => by rw [mU_o _ _ (by omega)] at h9; exfalso; omega) (fun h9 => by rw [mU_o _ _ (by omega)] at h9; rw [mU_o _ _ (by omega), mU_o _ _ (by omega)]; have h8 := rh2 h9; exact ⟨by omega, by omega⟩) (show (V582 5 6).toInt = ((gr.length : Nat) : Int) from by (first | exact om_f00ff43a6068 rd2 pq576 hz586 pq596 | omega)) (show (V582 5 7).toInt = ((t0 : Nat) : Int) from by rw [((up2_k hV582 (by decide)).trans ((up2_o hV478 (by decide)).trans (up2_o hV484 (by decide)))), rt9, tz9]) rl607
            have rx604 : RW V582 gB (mAb gB gm (V 70 gf).toInt (V 71 gf).toInt (V 72 gf).toInt, ga, gr) := by rw [q70, q71, q72, ab_n (fun h9 => by have h1 := h9.1; have h2 := h9.2.1; have h8 := rh2 h1; by_cases y1 : y486.toInt = 1; (rcases PAS.y xJ485_0 y1 with q9 | q9 | q9; (exact h9.2.2.1 (h8.2.symm.trans q9)); (exact h9.2.2.2.1 (h8.2.symm.trans q9)); (exact h9.2.2.2.2 (h8.2.symm.trans q9))); (clear h9; omega))]; exact rz9
            exact W.vret hx hb hr (fun t ht hW => ⟨⟨(V582, L), rfl, ⟨hMV582, agV582, rfl, rp603, rx604⟩, by rw [ht]; exact hP, va_K.moved hW.alike hK, hD⟩, hS.F ht⟩) hS.2.2 dX5_abandon_104
          · skip
            have f612 : ((V 5 9)).toInt = 2 := b_eq rfl (by decide) c573
            refine lv_iload_n hx hb dX5_abandon_77 rfl (lv_at hl 0 rfl) ?_
            refine lv_if_eq (tgt := 100) hx hb dX5_abandon_78 (by decide) (fun q => absurd q (by decide)) (fun _ => ?_)
            refine lv_iload_n hx hb dX5_abandon_81 rfl (lv_at hl 1 rfl) ?_
            refine lv_if_ne (tgt := 100) hx hb dX5_abandon_82 (by decide) (fun c613 => ?_) (fun c613 => ?_)
            · skip
              have f614 : y486.toInt ≠ 0 := b_neq rfl (by decide) c613
              have f615 : 1 ≤ y486.toInt := by (first | exact om_76052c512981 kJ485_0.1 f614 | omega)
              clear f614
              refine lv_aload_n hx hb dX5_abandon_100 rfl (lv_at hl 2 rfl) ?_
              have pq616 : (V478 5 6).toInt = ((V 5 6)).toInt := congrArg Int32.toInt ((up2_o hV478 (by decide)).trans (up2_o hV484 (by decide)))
              refine gA_void (gA_runV (As := []) (rest := []) (ci := 5) (q0 := 5) hx hb hml hown hg hP hD hK hS hA hnw hgk (x_leave9 l D ks H.size ad kk V478 L Z  hMV478 (show 1 ≤ (V478 5 6).toInt from by first | exact om_0cac171fa40c gd pq616 | first | omega | ((try (have i_bc := Imp.go bc (by omega))); (try (have i_rwq := Imp.go rwq (by omega))); (try (have i_mo := Imp.go mo (by omega))); (try (have i_mo := Imp.go mo (by omega))); (try (have i_rwq := Imp.go rwq (by omega))); (try (have i_bc := Imp.go bc (by omega))); omega))) w1308 w1310 w50 w171 w1311 rfl xgMachine hdV_yX5_leave ⟨Nat.le_of_ble_eq_true rfl, Nat.le_of_ble_eq_true rfl⟩ rfl hl.1 rfl (Nat.le_of_ble_eq_true rfl) dX5_abandon_101 ⟨Nat.le_of_ble_eq_true rfl, Nat.le_of_ble_eq_true rfl⟩) hP hD hK hS hA (fun u618 H locs w619 hP hD hK hS => ?_)
              obtain ⟨V622, L623⟩ := u618
              obtain ⟨hMV622, ajV622, axL623, t620, t621⟩ := w619
              have axL623 : L = L623 := Eq.symm axL623
              subst axL623
              have hP : va_P D vwCl (xw ad kk V622 L Z) H := hP
              have hD : va_D A (xw ad kk V622 L Z) := hD
              have hMV622 : rgd bX V622 := hMV622
              have ajV622 : agr [(5, 6)] [] V478 V622 := ajV622
              have agV622 : agr [(5, 6)] [24, 25, 28] V V622 := agV478.tr ajV622 (by decide) (by decide)
              have t620 : (V622 5 6).toInt = (V478 5 6).toInt - 1 := t620
              have t621 : ((True) ∧ V622 = (up2 V478 5 6 (V478 5 6 - 1))) := t621
              have r624 : 0 ≤ ((V622 5 6)).toInt ∧ ((V622 5 6)).toInt ≤ 400 := hMV622 5 6
              have hw625 := t621.2
              obtain ⟨z626, ez626⟩ : ∃ y : Int32, y = V478 5 6 - 1 := ⟨_, rfl⟩
              have hz626 : z626.toInt = (V478 5 6).toInt - 1 := i_sub ez626 rfl (by decide) (by first | exact om_1c0ddc14e6cd gd sl8 pq616 | first | omega | ((try (have i_bc := Imp.go bc (by omega))); (try (have i_rwq := Imp.go rwq (by omega))); (try (have i_mo := Imp.go mo (by omega))); (try (have i_mo := Imp.go mo (by omega))); (try (have i_rwq := Imp.go rwq (by omega))); (try (have i_bc := Imp.go bc (by omega))); omega))
              have hV622 : V622 = up2 V478 5 6 z626 := by rw [hw625, ez626]
              have me627 : ME V V622 gf := (ME.up (ME.up (ME.up ME.rf hV484 (Or.inr (by omega))) hV478 (Or.inr (by omega))) hV622 (Or.inr (by omega)))
              have pq628 : (V622 67 gf).toInt = ((V 67 gf)).toInt := congrArg Int32.toInt ((up2_o hV622 (by decide)).trans ((up2_o hV478 (by decide)).trans (up2_o hV484 (by decide))))
              have pq629 : (V622 68 gf).toInt = ((V 68 gf)).toInt := congrArg Int32.toInt ((up2_o hV622 (by decide)).trans ((up2_o hV478 (by decide)).trans (up2_o hV484 (by decide))))
              have pq630 : (V622 70 gf).toInt = ((V 70 gf)).toInt := congrArg Int32.toInt ((up2_o hV622 (by decide)).trans ((up2_o hV478 (by decide)).trans (up2_o hV484 (by decide))))
              have pq631 : (V622 71 gf).toInt = ((V 71 gf)).toInt := congrArg Int32.toInt ((up2_o hV622 (by decide)).trans ((up2_o hV478 (by decide)).trans (up2_o hV484 (by decide))))
              have pq632 : (V622 75 gf).toInt = ((V 75 gf)).toInt := congrArg Int32.toInt ((up2_o hV622 (by decide)).trans ((up2_o hV478 (by decide)).trans (up2_o hV484 (by decide))))
              have pq633 : (V622 76 gf).toInt = ((V 76 gf)).toInt := congrArg Int32.toInt ((up2_o hV622 (by decide)).trans ((up2_o hV478 (by decide)).trans (up2_o hV484 (by decide))))
              have pq634 : (V622 80 gf).toInt = ((V 80 gf)).toInt := congrArg Int32.toInt ((up2_o hV622 (by decide)).trans ((up2_o hV478 (by decide)).trans (up2_o hV484 (by decide))))
              have pq635 : (V622 84 gf).toInt = ((V 84 gf)).toInt := congrArg Int32.toInt ((up2_o hV622 (by decide)).trans ((up2_o hV478 (by decide)).trans (up2_o hV484 (by decide))))
              have pq636 : (V622 5 6).toInt = z626.toInt := congrArg Int32.toInt (up2_s hV622)
              have pq637 : (V622 5 8).toInt = ((V 5 8)).toInt := congrArg Int32.toInt ((up2_k hV622 (by decide)).trans ((up2_o hV478 (by decide)).trans (up2_o hV484 (by decide))))
              have pq638 : (V622 5 9).toInt = ((V 5 9)).toInt := congrArg Int32.toInt ((up2_k hV622 (by decide)).trans ((up2_o hV478 (by decide)).trans (up2_o hV484 (by decide))))
              have pq639 : (V622 3 13).toInt = ((V 3 13)).toInt := congrArg Int32.toInt ((up2_o hV622 (by decide)).trans ((up2_o hV478 (by decide)).trans (up2_o hV484 (by decide))))
              have pq640 : (V622 43 (5 * b + 2)).toInt = ((V 43 (5 * b + 2))).toInt := congrArg Int32.toInt ((up2_o hV622 (by decide)).trans ((up2_o hV478 (by decide)).trans (up2_o hV484 (by decide))))
              have pq641 : (V622 42 b).toInt = ((V 42 b)).toInt := congrArg Int32.toInt ((up2_o hV622 (by decide)).trans ((up2_o hV478 (by decide)).trans (up2_o hV484 (by decide))))
              have pq642 : (V622 41 b).toInt = ((V 41 b)).toInt := congrArg Int32.toInt ((up2_o hV622 (by decide)).trans ((up2_o hV478 (by decide)).trans (up2_o hV484 (by decide))))
              have rp643 : MJ V622 Z b := MP.lv (MO.mp mo) me627 (by (first | exact om_dca0de52e899 gd pq616 hz626 pq636 | omega)) (fun _ => Or.inl (by omega))
              have dx9 : (Int32.toNatClampNeg (V 70 gf)) = o.toNat := by have h9 := i_clamp (x := (V 70 gf)) rfl (by omega); (first | exact om_890eb046e93a ko9 | omega)
              have do9 : ((o.toNat : Nat) : Int) < gm 0 2 := by omega
              have db9 := (rn).2.1 _ do9
              have ds9 : 24 * Int32.toNatClampNeg (V 27 (Int32.toNatClampNeg (V 70 gf))) + Int32.toNatClampNeg (V 26 (Int32.toNatClampNeg (V 70 gf))) = 24 * (gm 2 o.toNat).toNat + (gm 1 o.toNat).toNat := by rw [dx9]; have h1 := db9.1.1; have h2 := db9.1.2.1; have h3 := i_clamp (x := V 27 o.toNat) rfl (by omega); have h4 := i_clamp (x := V 26 o.toNat) rfl (by omega); omega
              have rn645 : RWn V478 ow gB (mU gm 3 o.toNat 2) := RWn.drop rn do9 (fun x9 hx9 => (up2_o hV478 (by decide)).trans (up2_k hV484 (by rw [dx9]; exact hx9))) (by rw [← dx9, (up2_o hV478 (by decide)).trans (up2_s hV484)]; decide) (fun k9 hk9 => (up2_k hV478 (by rw [ds9]; exact hk9)).trans (up2_o hV484 (by decide))) (by rw [← ds9, up2_s hV478, if_pos (by rw [← dx9]; have h9 := i_clamp (x := (V 70 gf)) rfl (by omega); omega)]; decide) (fun c9 k9 h1 h2 h3 => ((show V478 c9 k9 = V484 c9 k9 from by rw [hV478]; exact up2_pl (by omega)).trans (show V484 c9 k9 = V c9 k9 from by rw [hV484]; exact up2_pl (by omega))))
              have s51 : (V 51 (24 * b + Int32.toNatClampNeg (V 71 gf))).toInt = ((bS gB c.toNat : Nat) : Int) := by rw [kc9]; exact BKc.sc bc cn9
              have rh2 : gm 0 6 = 2 → (V 5 11).toInt = gm 0 8 ∧ (V 5 12).toInt = gm 0 9 := rh.2.2.1
              have rn5 : RWn V622 ow gB (mU gm 3 o.toNat 2) := RWn.es rn645 (ESw.ag (show agr [(5, 6)] [] V478 V622 from (agr.up agr.rf hV622 rfl)) (by decide))
              have me646 : ME V V622 gf := (ME.up (ME.up (ME.up ME.rf hV484 (Or.inr (by omega))) hV478 (Or.inr (by omega))) hV622 (Or.inr (by omega)))
              have rl647 : RWl V622 gB gr t0 := RWl.mv hlr (fun i9 hi9 c9 h1 h2 => me646.2.1 c9 i9 h1 h2 (by omega)) (fun j9 hj9 => ((up2_o hV622 (by decide)).trans ((up2_o hV478 (by decide)).trans (up2_o hV484 (by decide))))) (by rw [((up2_o hV622 (by decide)).trans ((up2_o hV478 (by decide)).trans (up2_o hV484 (by decide))))]; exact Int.le_refl _) ((up2_o hV622 (by decide)).trans ((up2_o hV478 (by decide)).trans (up2_o hV484 (by decide))))
              have pq648 : (V622 5 7).toInt = ((V 5 7)).toInt := congrArg Int32.toInt ((up2_k hV622 (by decide)).trans ((up2_o hV478 (by decide)).trans (up2_o hV484 (by decide))))
              have r649 : 0 ≤ ((V 5 7)).toInt ∧ ((V 5 7)).toInt ≤ 2048 := hMV 5 7
              have pq650 : (V622 5 11).toInt = ((V 5 11)).toInt := congrArg Int32.toInt ((up2_k hV622 (by decide)).trans ((up2_o hV478 (by decide)).trans (up2_o hV484 (by decide))))
              have pq651 : (V622 5 12).toInt = ((V 5 12)).toInt := congrArg Int32.toInt ((up2_k hV622 (by decide)).trans ((up2_o hV478 (by decide)).trans (up2_o hV484 (by decide))))
              have rz9 : RW V622 gB ((mU gm 3 o.toNat 2), ga, gr) := RW.fin rwq rn5 (by rw [mU_o _ _ (by omega)]) (fun i9 => by rw [mU_o _ _ (by omega)]) ((up2_k hV622 (by decide)).trans ((up2_o hV478 (by decide)).trans (up2_o hV484 (by decide)))) (fun i9 => ((up2_o hV622 (by decide)).trans ((up2_o hV478 (by decide)).trans (up2_o hV484 (by decide))))) (by rw [mU_o _ _ (by omega)]; omega) (fun h9 => by rw [mU_o _ _ (by omega)] at h9; exfalso; omega) (fun h9 => by rw [mU_o _ _ (by omega)] at h9; rw [mU_o _ _ (by omega), mU_o _ _ (by omega)]; have h8 := rh2 h9; exact ⟨by omega, by omega⟩) (show (V622 5 6).toInt = ((gr.length : Nat) : Int) from by (first | exact om_f00ff43a6068 rd2 pq616 hz626 pq636 | omega)) (show (V622 5 7).toInt = ((t0 : Nat) : Int) from by rw [((up2_k hV622 (by decide)).trans ((up2_o hV478 (by decide)).trans (up2_o hV484 (by decide)))), rt9, tz9]) rl647
              have rx644 : RW V622 gB (mAb gB gm (V 70 gf).toInt (V 71 gf).toInt (V 72 gf).toInt, ga, gr) := by rw [q70, q71, q72, ab_n (fun h9 => by have h1 := h9.1; have h2 := h9.2.1; have h8 := rh2 h1; by_cases y1 : y486.toInt = 1; (rcases PAS.y xJ485_0 y1 with q9 | q9 | q9; (exact h9.2.2.1 (h8.2.symm.trans q9)); (exact h9.2.2.2.1 (h8.2.symm.trans q9)); (exact h9.2.2.2.2 (h8.2.symm.trans q9))); (clear h9; omega))]; exact rz9
              exact W.vret hx hb hr (fun t ht hW => ⟨⟨(V622, L), rfl, ⟨hMV622, agV622, rfl, rp643, rx644⟩, by rw [ht]; exact hP, va_K.moved hW.alike hK, hD⟩, hS.F ht⟩) hS.2.2 dX5_abandon_104
            · skip
              have f652 : y486.toInt = 0 := b_eq rfl (by decide) c613
              refine lv_aload_n hx hb dX5_abandon_85 rfl (lv_at hl 2 rfl) ?_
              refine va_get (D := D) (ci := 5) (v := .ref (ad 3)) (fs := (xfMachine ad V478 L Z)) (C := RX5) (T := TX5) (N := 15) hx hb hg inX5 hown hK hP 5 xgMachine rfl 0 (by decide) (hg _ w667) (fun _ h9 => h9) rfl dX5_abandon_86 ?_
              refine lv_aload_n hx hb dX5_abandon_89 rfl (lv_at hl 3 rfl) ?_
              refine va_getN (D := D) (ci := 4) (v := .int (V478 72 gf)) (fs := (xfFrame V478 gf)) (C := RX4) (T := TX4) (N := 19) hx hb hg inX4 hown hK hP (336 + gf) (xgFrame hgf) rfl 5 (by decide) (hnw.use 1194 n1194 rfl) (fun _ h9 => h9) rfl dX5_abandon_90 ?_
              refine g_top (v := (V 72 gf)) ((up2_o hV478 (by decide)).trans (up2_o hV484 (by decide))) ?_
              have r653 : 0 ≤ ((V 72 gf)).toInt ∧ ((V 72 gf)).toInt ≤ 39 := hMV 72 gf
              refine lv_aload_n hx hb dX5_abandon_93 rfl (lv_at hl 3 rfl) ?_
              refine va_getN (D := D) (ci := 4) (v := .int (V478 71 gf)) (fs := (xfFrame V478 gf)) (C := RX4) (T := TX4) (N := 19) hx hb hg inX4 hown hK hP (336 + gf) (xgFrame hgf) rfl 4 (by decide) (hnw.use 1193 n1193 rfl) (fun _ h9 => h9) rfl dX5_abandon_94 ?_
              refine g_top (v := (V 71 gf)) ((up2_o hV478 (by decide)).trans (up2_o hV484 (by decide))) ?_
              refine gA_void (gA_runV (As := [.int (V 72 gf), .int (V 71 gf)]) (rest := []) (ci := 8) (q0 := 3) hx hb hml hown hg hP hD hK hS hA hnw hgk (x_spoil9 l D ks H.size ad kk V478 L Z (V 72 gf) (V 71 gf) hMV478 (by first | exact om_13ba01c174fe r653.1 r653.2 | first | omega | ((try (have i_bc := Imp.go bc (by omega))); (try (have i_rwq := Imp.go rwq (by omega))); (try (have i_mo := Imp.go mo (by omega))); (try (have i_mo := Imp.go mo (by omega))); (try (have i_rwq := Imp.go rwq (by omega))); (try (have i_bc := Imp.go bc (by omega))); omega)) (show 0 ≤ ((V 71 gf)).toInt from by first | exact om_50dfdfbb9dc6 kc490 | first | omega | ((try (have i_bc := Imp.go bc (by omega))); (try (have i_rwq := Imp.go rwq (by omega))); (try (have i_mo := Imp.go mo (by omega))); (try (have i_mo := Imp.go mo (by omega))); (try (have i_rwq := Imp.go rwq (by omega))); (try (have i_bc := Imp.go bc (by omega))); omega)) (show ((V 71 gf)).toInt ≤ 23 from by first | exact om_851a31618d2d r3.2 | first | omega | ((try (have i_bc := Imp.go bc (by omega))); (try (have i_rwq := Imp.go rwq (by omega))); (try (have i_mo := Imp.go mo (by omega))); (try (have i_mo := Imp.go mo (by omega))); (try (have i_rwq := Imp.go rwq (by omega))); (try (have i_bc := Imp.go bc (by omega))); omega))) w1340 w1341 w1342 w164 w1343 rfl xgStock hdV_yX8_spoil ⟨Nat.le_of_ble_eq_true rfl, Nat.le_of_ble_eq_true rfl⟩ rfl hl.1 rfl (Nat.le_of_ble_eq_true rfl) dX5_abandon_97 ⟨Nat.le_of_ble_eq_true rfl, Nat.le_of_ble_eq_true rfl⟩) hP hD hK hS hA (fun u655 H locs w656 hP hD hK hS => ?_)
              obtain ⟨V658, L659⟩ := u655
              obtain ⟨hMV658, ajV658, axL659, t657⟩ := w656
              have axL659 : L = L659 := Eq.symm axL659
              subst axL659
              have hP : va_P D vwCl (xw ad kk V658 L Z) H := hP
              have hD : va_D A (xw ad kk V658 L Z) := hD
              have hMV658 : rgd bX V658 := hMV658
              have ajV658 : agr [] [24] V478 V658 := ajV658
              have agV658 : agr [(5, 6)] [24, 25, 28] V V658 := agV478.tr ajV658 (by decide) (by decide)
              have t657 : (∀ j : Nat, j < 24 → (bt (V658 24 (Int32.toNatClampNeg (V 72 gf))) j = true ↔ (j = Int32.toNatClampNeg (V 71 gf) ∨ bt (V478 24 (Int32.toNatClampNeg (V 72 gf))) j = true))) ∧ ∀ x : Nat, x ≠ Int32.toNatClampNeg (V 72 gf) → V658 24 x = V478 24 x := t657
              refine lv_aload_n hx hb dX5_abandon_100 rfl (lv_at hl 2 rfl) ?_
              have pq660 : (V658 5 6).toInt = ((V 5 6)).toInt := congrArg Int32.toInt ((ajV658 5 6 rfl).trans ((up2_o hV478 (by decide)).trans (up2_o hV484 (by decide))))
              refine gA_void (gA_runV (As := []) (rest := []) (ci := 5) (q0 := 5) hx hb hml hown hg hP hD hK hS hA hnw hgk (x_leave9 l D ks H.size ad kk V658 L Z  hMV658 (show 1 ≤ (V658 5 6).toInt from by first | exact om_0cac171fa40c gd pq660 | first | omega | ((try (have i_bc := Imp.go bc (by omega))); (try (have i_rwq := Imp.go rwq (by omega))); (try (have i_mo := Imp.go mo (by omega))); (try (have i_mo := Imp.go mo (by omega))); (try (have i_rwq := Imp.go rwq (by omega))); (try (have i_bc := Imp.go bc (by omega))); omega))) w1308 w1310 w50 w171 w1311 rfl xgMachine hdV_yX5_leave ⟨Nat.le_of_ble_eq_true rfl, Nat.le_of_ble_eq_true rfl⟩ rfl hl.1 rfl (Nat.le_of_ble_eq_true rfl) dX5_abandon_101 ⟨Nat.le_of_ble_eq_true rfl, Nat.le_of_ble_eq_true rfl⟩) hP hD hK hS hA (fun u662 H locs w663 hP hD hK hS => ?_)
              obtain ⟨V666, L667⟩ := u662
              obtain ⟨hMV666, ajV666, axL667, t664, t665⟩ := w663
              have axL667 : L = L667 := Eq.symm axL667
              subst axL667
              have hP : va_P D vwCl (xw ad kk V666 L Z) H := hP
              have hD : va_D A (xw ad kk V666 L Z) := hD
              have hMV666 : rgd bX V666 := hMV666
              have ajV666 : agr [(5, 6)] [] V658 V666 := ajV666
              have agV666 : agr [(5, 6)] [24, 25, 28] V V666 := agV658.tr ajV666 (by decide) (by decide)
              have t664 : (V666 5 6).toInt = (V658 5 6).toInt - 1 := t664
              have t665 : ((True) ∧ V666 = (up2 V658 5 6 (V658 5 6 - 1))) := t665
              have r668 : 0 ≤ ((V666 5 6)).toInt ∧ ((V666 5 6)).toInt ≤ 400 := hMV666 5 6
              have hw669 := t665.2
              obtain ⟨z670, ez670⟩ : ∃ y : Int32, y = V658 5 6 - 1 := ⟨_, rfl⟩
              have hz670 : z670.toInt = (V658 5 6).toInt - 1 := i_sub ez670 rfl (by decide) (by first | exact om_1c0ddc14e6cd gd sl8 pq660 | first | omega | ((try (have i_bc := Imp.go bc (by omega))); (try (have i_rwq := Imp.go rwq (by omega))); (try (have i_mo := Imp.go mo (by omega))); (try (have i_mo := Imp.go mo (by omega))); (try (have i_rwq := Imp.go rwq (by omega))); (try (have i_bc := Imp.go bc (by omega))); omega))
              have hV666 : V666 = up2 V658 5 6 z670 := by rw [hw669, ez670]
              have me671 : ME V V666 gf := (ME.up (ME.tr (ME.up (ME.up ME.rf hV484 (Or.inr (by omega))) hV478 (Or.inr (by omega))) (ME.ag ajV658 (by decide))) hV666 (Or.inr (by omega)))
              have pq672 : (V666 67 gf).toInt = ((V 67 gf)).toInt := congrArg Int32.toInt ((up2_o hV666 (by decide)).trans ((ajV658 67 gf rfl).trans ((up2_o hV478 (by decide)).trans (up2_o hV484 (by decide)))))
              have pq673 : (V666 68 gf).toInt = ((V 68 gf)).toInt := congrArg Int32.toInt ((up2_o hV666 (by decide)).trans ((ajV658 68 gf rfl).trans ((up2_o hV478 (by decide)).trans (up2_o hV484 (by decide)))))
              have pq674 : (V666 70 gf).toInt = ((V 70 gf)).toInt := congrArg Int32.toInt ((up2_o hV666 (by decide)).trans ((ajV658 70 gf rfl).trans ((up2_o hV478 (by decide)).trans (up2_o hV484 (by decide)))))
              have pq675 : (V666 71 gf).toInt = ((V 71 gf)).toInt := congrArg Int32.toInt ((up2_o hV666 (by decide)).trans ((ajV658 71 gf rfl).trans ((up2_o hV478 (by decide)).trans (up2_o hV484 (by decide)))))
              have pq676 : (V666 75 gf).toInt = ((V 75 gf)).toInt := congrArg Int32.toInt ((up2_o hV666 (by decide)).trans ((ajV658 75 gf rfl).trans ((up2_o hV478 (by decide)).trans (up2_o hV484 (by decide)))))
              have pq677 : (V666 76 gf).toInt = ((V 76 gf)).toInt := congrArg Int32.toInt ((up2_o hV666 (by decide)).trans ((ajV658 76 gf rfl).trans ((up2_o hV478 (by decide)).trans (up2_o hV484 (by decide)))))
              have pq678 : (V666 80 gf).toInt = ((V 80 gf)).toInt := congrArg Int32.toInt ((up2_o hV666 (by decide)).trans ((ajV658 80 gf rfl).trans ((up2_o hV478 (by decide)).trans (up2_o hV484 (by decide)))))
              have pq679 : (V666 84 gf).toInt = ((V 84 gf)).toInt := congrArg Int32.toInt ((up2_o hV666 (by decide)).trans ((ajV658 84 gf rfl).trans ((up2_o hV478 (by decide)).trans (up2_o hV484 (by decide)))))
              have pq680 : (V666 5 6).toInt = z670.toInt := congrArg Int32.toInt (up2_s hV666)
              have pq681 : (V666 5 8).toInt = ((V 5 8)).toInt := congrArg Int32.toInt ((up2_k hV666 (by decide)).trans ((ajV658 5 8 rfl).trans ((up2_o hV478 (by decide)).trans (up2_o hV484 (by decide)))))
              have pq682 : (V666 5 9).toInt = ((V 5 9)).toInt := congrArg Int32.toInt ((up2_k hV666 (by decide)).trans ((ajV658 5 9 rfl).trans ((up2_o hV478 (by decide)).trans (up2_o hV484 (by decide)))))
              have pq683 : (V666 3 13).toInt = ((V 3 13)).toInt := congrArg Int32.toInt ((up2_o hV666 (by decide)).trans ((ajV658 3 13 rfl).trans ((up2_o hV478 (by decide)).trans (up2_o hV484 (by decide)))))
              have pq684 : (V666 43 (5 * b + 2)).toInt = ((V 43 (5 * b + 2))).toInt := congrArg Int32.toInt ((up2_o hV666 (by decide)).trans ((ajV658 43 (5 * b + 2) rfl).trans ((up2_o hV478 (by decide)).trans (up2_o hV484 (by decide)))))
              have pq685 : (V666 42 b).toInt = ((V 42 b)).toInt := congrArg Int32.toInt ((up2_o hV666 (by decide)).trans ((ajV658 42 b rfl).trans ((up2_o hV478 (by decide)).trans (up2_o hV484 (by decide)))))
              have pq686 : (V666 41 b).toInt = ((V 41 b)).toInt := congrArg Int32.toInt ((up2_o hV666 (by decide)).trans ((ajV658 41 b rfl).trans ((up2_o hV478 (by decide)).trans (up2_o hV484 (by decide)))))
              have rp687 : MJ V666 Z b := MP.lv (MO.mp mo) me671 (by (first | exact om_dca0de52e899 gd pq660 hz670 pq680 | omega)) (fun _ => Or.inl (by omega))
              have dx9 : (Int32.toNatClampNeg (V 70 gf)) = o.toNat := by have h9 := i_clamp (x := (V 70 gf)) rfl (by omega); (first | exact om_890eb046e93a ko9 | omega)
              have do9 : ((o.toNat : Nat) : Int) < gm 0 2 := by omega
              have db9 := (rn).2.1 _ do9
              have ds9 : 24 * Int32.toNatClampNeg (V 27 (Int32.toNatClampNeg (V 70 gf))) + Int32.toNatClampNeg (V 26 (Int32.toNatClampNeg (V 70 gf))) = 24 * (gm 2 o.toNat).toNat + (gm 1 o.toNat).toNat := by rw [dx9]; have h1 := db9.1.1; have h2 := db9.1.2.1; have h3 := i_clamp (x := V 27 o.toNat) rfl (by omega); have h4 := i_clamp (x := V 26 o.toNat) rfl (by omega); omega
              have rn689 : RWn V478 ow gB (mU gm 3 o.toNat 2) := RWn.drop rn do9 (fun x9 hx9 => (up2_o hV478 (by decide)).trans (up2_k hV484 (by rw [dx9]; exact hx9))) (by rw [← dx9, (up2_o hV478 (by decide)).trans (up2_s hV484)]; decide) (fun k9 hk9 => (up2_k hV478 (by rw [ds9]; exact hk9)).trans (up2_o hV484 (by decide))) (by rw [← ds9, up2_s hV478, if_pos (by rw [← dx9]; have h9 := i_clamp (x := (V 70 gf)) rfl (by omega); omega)]; decide) (fun c9 k9 h1 h2 h3 => ((show V478 c9 k9 = V484 c9 k9 from by rw [hV478]; exact up2_pl (by omega)).trans (show V484 c9 k9 = V c9 k9 from by rw [hV484]; exact up2_pl (by omega))))
              have s51 : (V 51 (24 * b + Int32.toNatClampNeg (V 71 gf))).toInt = ((bS gB c.toNat : Nat) : Int) := by rw [kc9]; exact BKc.sc bc cn9
              have rh2 : gm 0 6 = 2 → (V 5 11).toInt = gm 0 8 ∧ (V 5 12).toInt = gm 0 9 := rh.2.2.1
              have so9 := t657
              rw [kp9, kc9] at so9
              have n249 := bc.2.2.2.1.2.1
              have rs9 : RWn V658 ow gB (mU (mU gm 3 o.toNat 2) 8 (24 * pl.toNat + c.toNat) 1) := RWn.spoil rn689 (show ((pl.toNat : Nat) : Int) < (V478 3 12).toInt from by rw [((up2_o hV478 (by decide)).trans (up2_o hV484 (by decide)))]; omega) (by (first | exact om_0d80a9462261 r3.2 kc9 kc490 | omega)) so9.1 so9.2 (fun a9 j9 h1 h2 => agr_24 ajV658 h2)
              have rn5 : RWn V666 ow gB (mU (mU gm 3 o.toNat 2) 8 (24 * pl.toNat + c.toNat) 1) := RWn.es rs9 (ESw.ag (show agr [(5, 6)] [] V658 V666 from (agr.up agr.rf hV666 rfl)) (by decide))
              have me690 : ME V V666 gf := (ME.up (ME.tr (ME.up (ME.up ME.rf hV484 (Or.inr (by omega))) hV478 (Or.inr (by omega))) (ME.ag ajV658 (by decide))) hV666 (Or.inr (by omega)))
              have rl691 : RWl V666 gB gr t0 := RWl.mv hlr (fun i9 hi9 c9 h1 h2 => me690.2.1 c9 i9 h1 h2 (by omega)) (fun j9 hj9 => ((up2_o hV666 (by decide)).trans ((ajV658 39 j9 rfl).trans ((up2_o hV478 (by decide)).trans (up2_o hV484 (by decide)))))) (by rw [((up2_o hV666 (by decide)).trans ((ajV658 3 13 rfl).trans ((up2_o hV478 (by decide)).trans (up2_o hV484 (by decide)))))]; exact Int.le_refl _) ((up2_o hV666 (by decide)).trans ((ajV658 3 12 rfl).trans ((up2_o hV478 (by decide)).trans (up2_o hV484 (by decide)))))
              have pq692 : (V666 5 7).toInt = ((V 5 7)).toInt := congrArg Int32.toInt ((up2_k hV666 (by decide)).trans ((ajV658 5 7 rfl).trans ((up2_o hV478 (by decide)).trans (up2_o hV484 (by decide)))))
              have r693 : 0 ≤ ((V 5 7)).toInt ∧ ((V 5 7)).toInt ≤ 2048 := hMV 5 7
              have pq694 : (V666 5 11).toInt = ((V 5 11)).toInt := congrArg Int32.toInt ((up2_k hV666 (by decide)).trans ((ajV658 5 11 rfl).trans ((up2_o hV478 (by decide)).trans (up2_o hV484 (by decide)))))
              have pq695 : (V666 5 12).toInt = ((V 5 12)).toInt := congrArg Int32.toInt ((up2_k hV666 (by decide)).trans ((ajV658 5 12 rfl).trans ((up2_o hV478 (by decide)).trans (up2_o hV484 (by decide)))))
              have rz9 : RW V666 gB ((mU (mU gm 3 o.toNat 2) 8 (24 * pl.toNat + c.toNat) 1), ga, gr) := RW.fin rwq rn5 (by rw [mU_o _ _ (by omega), mU_o _ _ (by omega)]) (fun i9 => by rw [mU_o _ _ (by omega), mU_o _ _ (by omega)]) ((up2_k hV666 (by decide)).trans ((ajV658 5 8 rfl).trans ((up2_o hV478 (by decide)).trans (up2_o hV484 (by decide))))) (fun i9 => ((up2_o hV666 (by decide)).trans ((ajV658 40 i9 rfl).trans ((up2_o hV478 (by decide)).trans (up2_o hV484 (by decide)))))) (by rw [mU_o _ _ (by omega), mU_o _ _ (by omega)]; omega) (fun h9 => by rw [mU_o _ _ (by omega), mU_o _ _ (by omega)] at h9; exfalso; omega) (fun h9 => by rw [mU_o _ _ (by omega), mU_o _ _ (by omega)] at h9; rw [mU_o _ _ (by omega), mU_o _ _ (by omega), mU_o _ _ (by omega), mU_o _ _ (by omega)]; have h8 := rh2 h9; exact ⟨by omega, by omega⟩) (show (V666 5 6).toInt = ((gr.length : Nat) : Int) from by (first | exact om_f00ff43a6068 rd2 pq660 hz670 pq680 | omega)) (show (V666 5 7).toInt = ((t0 : Nat) : Int) from by rw [((up2_k hV666 (by decide)).trans ((ajV658 5 7 rfl).trans ((up2_o hV478 (by decide)).trans (up2_o hV484 (by decide))))), rt9, tz9]) rl691
              have rx688 : RW V666 gB (mAb gB gm (V 70 gf).toInt (V 71 gf).toInt (V 72 gf).toInt, ga, gr) := by rw [q70, q71, q72, ab_y (show gm 0 6 = 2 from by (first | exact om_96d4fa0da761 sg7.1 rh1 f612 | omega)) (by omega) (by have h9 := rh2 (by omega); have h8 := PAS.n xJ485_0 (by omega); exact ⟨fun h7 => h8.1 (h9.2.trans h7), fun h7 => h8.2.1 (h9.2.trans h7), fun h7 => h8.2.2 (h9.2.trans h7)⟩)]; exact rz9
              exact W.vret hx hb hr (fun t ht hW => ⟨⟨(V666, L), rfl, ⟨hMV666, agV666, rfl, rp687, rx688⟩, by rw [ht]; exact hP, va_K.moved hW.alike hK, hD⟩, hS.F ht⟩) hS.2.2 dX5_abandon_104
      refine lv_icmp_eq (tgt := 38) hx hb dX5_abandon_17 (by decide) (fun c696 => ?_) (fun c696 => ?_)
      · skip
        have f697 : ((V 5 12)).toInt = 12 := b_eq rfl (by decide) c696
        refine lv_iconst (v := 1) hx hb dX5_abandon_38 (by decide) ?_
        refine lv_goto (tgt := 43) hx hb dX5_abandon_39 (by decide) ?_
        have r698 : Int32.toInt 1 = 1 := by decide
        exact J485 1 H locs ls (by decide) (show PAS (Int32.toInt 1) (V 5 12).toInt from Or.inl ⟨by decide, by omega⟩) hP hD hS (lv_sub hl [0, 1] rfl)
      · skip
        have f699 : ((V 5 12)).toInt ≠ 12 := b_neq rfl (by decide) c696
        refine lv_aload_n hx hb dX5_abandon_20 rfl (lv_at hl 0 rfl) ?_
        refine va_get (D := D) (ci := 5) (v := .int (V478 5 12)) (fs := (xfMachine ad V478 L Z)) (C := RX5) (T := TX5) (N := 15) hx hb hg inX5 hown hK hP 5 xgMachine rfl 12 (by decide) (hg _ w679) (fun _ h9 => h9) rfl dX5_abandon_21 ?_
        refine g_top (v := (V 5 12)) ((up2_o hV478 (by decide)).trans (up2_o hV484 (by decide))) ?_
        refine lv_bipush (v := 13) hx hb dX5_abandon_24 (by decide) ?_
        refine lv_icmp_eq (tgt := 38) hx hb dX5_abandon_26 (by decide) (fun c700 => ?_) (fun c700 => ?_)
        · skip
          have f701 : ((V 5 12)).toInt = 13 := b_eq rfl (by decide) c700
          refine lv_iconst (v := 1) hx hb dX5_abandon_38 (by decide) ?_
          refine lv_goto (tgt := 43) hx hb dX5_abandon_39 (by decide) ?_
          have r702 : Int32.toInt 1 = 1 := by decide
          exact J485 1 H locs ls (by decide) (show PAS (Int32.toInt 1) (V 5 12).toInt from Or.inl ⟨by decide, by omega⟩) hP hD hS (lv_sub hl [0, 1] rfl)
        · skip
          have f703 : ((V 5 12)).toInt ≠ 13 := b_neq rfl (by decide) c700
          refine lv_aload_n hx hb dX5_abandon_29 rfl (lv_at hl 0 rfl) ?_
          refine va_get (D := D) (ci := 5) (v := .int (V478 5 12)) (fs := (xfMachine ad V478 L Z)) (C := RX5) (T := TX5) (N := 15) hx hb hg inX5 hown hK hP 5 xgMachine rfl 12 (by decide) (hg _ w679) (fun _ h9 => h9) rfl dX5_abandon_30 ?_
          refine g_top (v := (V 5 12)) ((up2_o hV478 (by decide)).trans (up2_o hV484 (by decide))) ?_
          refine lv_bipush (v := 16) hx hb dX5_abandon_33 (by decide) ?_
          refine lv_icmp_ne (tgt := 42) hx hb dX5_abandon_35 (by decide) (fun c704 => ?_) (fun c704 => ?_)
          · skip
            have f705 : ((V 5 12)).toInt ≠ 16 := b_neq rfl (by decide) c704
            refine lv_iconst (v := 0) hx hb dX5_abandon_42 (by decide) ?_
            have r706 : Int32.toInt 0 = 0 := by decide
            exact J485 0 H locs ls (by decide) (show PAS (Int32.toInt 0) (V 5 12).toInt from Or.inr ⟨by decide, by omega, by omega, by omega⟩) hP hD hS (lv_sub hl [0, 1] rfl)
          · skip
            have f707 : ((V 5 12)).toInt = 16 := b_eq rfl (by decide) c704
            refine lv_iconst (v := 1) hx hb dX5_abandon_38 (by decide) ?_
            refine lv_goto (tgt := 43) hx hb dX5_abandon_39 (by decide) ?_
            have r708 : Int32.toInt 1 = 1 := by decide
            exact J485 1 H locs ls (by decide) (show PAS (Int32.toInt 1) (V 5 12).toInt from Or.inl ⟨by decide, by omega⟩) hP hD hS (lv_sub hl [0, 1] rfl)
    · skip
      have hV478 : V478 = up2 V 28 (Int32.toNatClampNeg (V 70 gf)) 2 := by rw [hw483]
      refine lv_aload_n hx hb dX5_abandon_11 rfl (lv_at hl 0 rfl) ?_
      refine va_get (D := D) (ci := 5) (v := .int (V478 5 12)) (fs := (xfMachine ad V478 L Z)) (C := RX5) (T := TX5) (N := 15) hx hb hg inX5 hown hK hP 5 xgMachine rfl 12 (by decide) (hg _ w679) (fun _ h9 => h9) rfl dX5_abandon_12 ?_
      refine g_top (v := (V 5 12)) (up2_o hV478 (by decide)) ?_
      refine lv_bipush (v := 12) hx hb dX5_abandon_15 (by decide) ?_
      have J709 : ∀ (y710 : Int32) (H : Heap) (locs : List Loc) (ls : Array Slot), 0 ≤ y710.toInt ∧ y710.toInt ≤ 1 → (PAS y710.toInt (V 5 12).toInt) → va_P D vwCl (xw ad kk V478 L Z) H → va_D A (xw ad kk V478 L Z) → va_S A s.heap H locs → lv_has ls 4 [(0, .ref (ad 5)), (1, .ref (Z.fa gf))] → W p l e r_x_abandon9 s m ([.ref (ad 5), .ref (Z.fa gf)] : List Value).toArray below meth cq9 H locs 0 0 (MQ below (q_x_abandon9 D ks ad kk V L Z  b gf gB gm ga gfr gr A) ([.ref (ad 5), .ref (Z.fa gf)] : List Value).toArray s 0 0 A) (F0 m 43 ls [.int y710]) := by
        intro y710 H locs ls kJ709_0 xJ709_0 hP hD hS hl
        refine lv_istore_n (lv' := [(2, .int y710), (0, .ref (ad 5)), (1, .ref (Z.fa gf))]) hx hb dX5_abandon_43 rfl hl (by decide) rfl (fun ls hl => ?_)
        refine lv_aload_n hx hb dX5_abandon_44 rfl (lv_at hl 1 rfl) ?_
        refine va_get (D := D) (ci := 5) (v := .ref (ad (38 + Int32.toNatClampNeg (V478 5 5)))) (fs := (xfMachine ad V478 L Z)) (C := RX5) (T := TX5) (N := 15) hx hb hg inX5 hown hK hP 5 xgMachine rfl 5 (by decide) (hg _ w672) (fun _ h9 => h9) rfl dX5_abandon_45 ?_
        have pq711 : (V478 5 5).toInt = ((V 5 5)).toInt := congrArg Int32.toInt (up2_o hV478 (by decide))
        have r712 : 0 ≤ ((V 5 5)).toInt ∧ ((V 5 5)).toInt ≤ 1 := hMV 5 5
        refine g_topv (v := .ref (ad (38 + b))) (rfP (by first | omega | ((try (have i_bc := Imp.go bc (by omega))); (try (have i_rwq := Imp.go rwq (by omega))); (try (have i_mo := Imp.go mo (by omega))); (try (have i_mo := Imp.go mo (by omega))); (try (have i_rwq := Imp.go rwq (by omega))); (try (have i_bc := Imp.go bc (by omega))); omega))) ?_
        refine va_getN (D := D) (ci := 0) (v := .ref (ad (64 + b))) (fs := (xfBook ad V478 b)) (C := RX0) (T := TX0) (N := 13) hx hb hg inX0 hown hK hP (38 + b) (xgBook hb2) rfl 7 (by decide) (hnw.use 618 n618 rfl) (fun _ h9 => h9) rfl dX5_abandon_48 ?_
        refine lv_aload_n hx hb dX5_abandon_51 rfl (lv_at hl 2 rfl) ?_
        refine va_getN (D := D) (ci := 4) (v := .int (V478 71 gf)) (fs := (xfFrame V478 gf)) (C := RX4) (T := TX4) (N := 19) hx hb hg inX4 hown hK hP (336 + gf) (xgFrame hgf) rfl 4 (by decide) (hnw.use 1193 n1193 rfl) (fun _ h9 => h9) rfl dX5_abandon_52 ?_
        refine g_top (v := (V 71 gf)) (up2_o hV478 (by decide)) ?_
        have il713 : b < 2 := by first | exact om_f940a4667dd6 hb2 | first | omega | ((try (have i_bc := Imp.go bc (by omega))); (try (have i_rwq := Imp.go rwq (by omega))); (try (have i_mo := Imp.go mo (by omega))); (try (have i_mo := Imp.go mo (by omega))); (try (have i_rwq := Imp.go rwq (by omega))); (try (have i_bc := Imp.go bc (by omega))); omega)
        refine va_aldq (D := D) (i := (V 71 gf)) hx hb hK hP (64 + b) (57 + b) (xgcomps il713) (xtcomps il713) (i_in (a := ((V 71 gf)).toInt) rfl (by first | omega | ((try (have i_bc := Imp.go bc (by omega))); (try (have i_rwq := Imp.go rwq (by omega))); (try (have i_mo := Imp.go mo (by omega))); (try (have i_mo := Imp.go mo (by omega))); (try (have i_rwq := Imp.go rwq (by omega))); (try (have i_bc := Imp.go bc (by omega))); omega))) dX5_abandon_55 ?_
        have kc714 := i_clamp (x := (V 71 gf)) rfl (by first | omega | ((try (have i_bc := Imp.go bc (by omega))); (try (have i_rwq := Imp.go rwq (by omega))); (try (have i_mo := Imp.go mo (by omega))); (try (have i_mo := Imp.go mo (by omega))); (try (have i_rwq := Imp.go rwq (by omega))); (try (have i_bc := Imp.go bc (by omega))); omega))
        refine g_topv (v := .ref (ad (72 + (24 * b + (Int32.toNatClampNeg (V 71 gf)))))) (congrArg va_rf (if_pos (by first | omega | ((try (have i_bc := Imp.go bc (by omega))); (try (have i_rwq := Imp.go rwq (by omega))); (try (have i_mo := Imp.go mo (by omega))); (try (have i_mo := Imp.go mo (by omega))); (try (have i_rwq := Imp.go rwq (by omega))); (try (have i_bc := Imp.go bc (by omega))); omega)))) ?_
        have il715 : (24 * b + (Int32.toNatClampNeg (V 71 gf))) < 48 := by first | exact om_31a61188bc78 hb2 r3.2 kc714 | first | omega | ((try (have i_bc := Imp.go bc (by omega))); (try (have i_rwq := Imp.go rwq (by omega))); (try (have i_mo := Imp.go mo (by omega))); (try (have i_mo := Imp.go mo (by omega))); (try (have i_rwq := Imp.go rwq (by omega))); (try (have i_bc := Imp.go bc (by omega))); omega)
        refine va_getN (D := D) (ci := 3) (v := .int (V478 51 (24 * b + (Int32.toNatClampNeg (V 71 gf))))) (fs := (xfComp ad V478 (24 * b + (Int32.toNatClampNeg (V 71 gf))))) (C := RX3) (T := TX3) (N := 13) hx hb hg inX3 hown hK hP (72 + (24 * b + (Int32.toNatClampNeg (V 71 gf)))) (xgComp il715) rfl 6 (by decide) (hnw.use 522 n522 rfl) (fun _ h9 => h9) rfl dX5_abandon_56 ?_
        refine g_top (v := (V 51 (24 * b + (Int32.toNatClampNeg (V 71 gf))))) (up2_o hV478 (by decide)) ?_
        have r716 : 0 ≤ ((V 51 (24 * b + (Int32.toNatClampNeg (V 71 gf))))).toInt ∧ ((V 51 (24 * b + (Int32.toNatClampNeg (V 71 gf))))).toInt ≤ 3 := hMV 51 (24 * b + (Int32.toNatClampNeg (V 71 gf)))
        refine lv_iconst (v := 3) hx hb dX5_abandon_59 (by decide) ?_
        refine lv_icmp_eq (tgt := 67) hx hb dX5_abandon_60 (by decide) (fun c717 => ?_) (fun c717 => ?_)
        · skip
          have f718 : ((V 51 (24 * b + (Int32.toNatClampNeg (V 71 gf))))).toInt = 3 := b_eq rfl (by decide) c717
          refine lv_iconst (v := 0) hx hb dX5_abandon_67 (by decide) ?_
          refine lv_istore_n (lv' := [(3, .int 0), (2, .int y710), (0, .ref (ad 5)), (1, .ref (Z.fa gf))]) hx hb dX5_abandon_68 rfl hl (by decide) rfl (fun ls hl => ?_)
          refine lv_aload_n hx hb dX5_abandon_69 rfl (lv_at hl 2 rfl) ?_
          refine va_get (D := D) (ci := 5) (v := .int (V478 5 9)) (fs := (xfMachine ad V478 L Z)) (C := RX5) (T := TX5) (N := 15) hx hb hg inX5 hown hK hP 5 xgMachine rfl 9 (by decide) (hg _ w676) (fun _ h9 => h9) rfl dX5_abandon_70 ?_
          refine g_top (v := (V 5 9)) (up2_o hV478 (by decide)) ?_
          refine lv_iconst (v := 2) hx hb dX5_abandon_73 (by decide) ?_
          refine lv_icmp_ne (tgt := 100) hx hb dX5_abandon_74 (by decide) (fun c719 => ?_) (fun c719 => ?_)
          · skip
            have f720 : ((V 5 9)).toInt ≠ 2 := b_neq rfl (by decide) c719
            have f721 : 3 ≤ ((V 5 9)).toInt := by (first | exact om_5241ad6bc921 sg7.1 f720 | omega)
            clear f720
            refine lv_aload_n hx hb dX5_abandon_100 rfl (lv_at hl 2 rfl) ?_
            have pq722 : (V478 5 6).toInt = ((V 5 6)).toInt := congrArg Int32.toInt (up2_o hV478 (by decide))
            refine gA_void (gA_runV (As := []) (rest := []) (ci := 5) (q0 := 5) hx hb hml hown hg hP hD hK hS hA hnw hgk (x_leave9 l D ks H.size ad kk V478 L Z  hMV478 (show 1 ≤ (V478 5 6).toInt from by first | exact om_0cac171fa40c gd pq722 | first | omega | ((try (have i_bc := Imp.go bc (by omega))); (try (have i_rwq := Imp.go rwq (by omega))); (try (have i_mo := Imp.go mo (by omega))); (try (have i_mo := Imp.go mo (by omega))); (try (have i_rwq := Imp.go rwq (by omega))); (try (have i_bc := Imp.go bc (by omega))); omega))) w1308 w1310 w50 w171 w1311 rfl xgMachine hdV_yX5_leave ⟨Nat.le_of_ble_eq_true rfl, Nat.le_of_ble_eq_true rfl⟩ rfl hl.1 rfl (Nat.le_of_ble_eq_true rfl) dX5_abandon_101 ⟨Nat.le_of_ble_eq_true rfl, Nat.le_of_ble_eq_true rfl⟩) hP hD hK hS hA (fun u724 H locs w725 hP hD hK hS => ?_)
            obtain ⟨V728, L729⟩ := u724
            obtain ⟨hMV728, ajV728, axL729, t726, t727⟩ := w725
            have axL729 : L = L729 := Eq.symm axL729
            subst axL729
            have hP : va_P D vwCl (xw ad kk V728 L Z) H := hP
            have hD : va_D A (xw ad kk V728 L Z) := hD
            have hMV728 : rgd bX V728 := hMV728
            have ajV728 : agr [(5, 6)] [] V478 V728 := ajV728
            have agV728 : agr [(5, 6)] [24, 25, 28] V V728 := agV478.tr ajV728 (by decide) (by decide)
            have t726 : (V728 5 6).toInt = (V478 5 6).toInt - 1 := t726
            have t727 : ((True) ∧ V728 = (up2 V478 5 6 (V478 5 6 - 1))) := t727
            have r730 : 0 ≤ ((V728 5 6)).toInt ∧ ((V728 5 6)).toInt ≤ 400 := hMV728 5 6
            have hw731 := t727.2
            obtain ⟨z732, ez732⟩ : ∃ y : Int32, y = V478 5 6 - 1 := ⟨_, rfl⟩
            have hz732 : z732.toInt = (V478 5 6).toInt - 1 := i_sub ez732 rfl (by decide) (by first | exact om_1c0ddc14e6cd gd sl8 pq722 | first | omega | ((try (have i_bc := Imp.go bc (by omega))); (try (have i_rwq := Imp.go rwq (by omega))); (try (have i_mo := Imp.go mo (by omega))); (try (have i_mo := Imp.go mo (by omega))); (try (have i_rwq := Imp.go rwq (by omega))); (try (have i_bc := Imp.go bc (by omega))); omega))
            have hV728 : V728 = up2 V478 5 6 z732 := by rw [hw731, ez732]
            have me733 : ME V V728 gf := (ME.up (ME.up ME.rf hV478 (Or.inr (by omega))) hV728 (Or.inr (by omega)))
            have pq734 : (V728 67 gf).toInt = ((V 67 gf)).toInt := congrArg Int32.toInt ((up2_o hV728 (by decide)).trans (up2_o hV478 (by decide)))
            have pq735 : (V728 68 gf).toInt = ((V 68 gf)).toInt := congrArg Int32.toInt ((up2_o hV728 (by decide)).trans (up2_o hV478 (by decide)))
            have pq736 : (V728 70 gf).toInt = ((V 70 gf)).toInt := congrArg Int32.toInt ((up2_o hV728 (by decide)).trans (up2_o hV478 (by decide)))
            have pq737 : (V728 71 gf).toInt = ((V 71 gf)).toInt := congrArg Int32.toInt ((up2_o hV728 (by decide)).trans (up2_o hV478 (by decide)))
            have pq738 : (V728 75 gf).toInt = ((V 75 gf)).toInt := congrArg Int32.toInt ((up2_o hV728 (by decide)).trans (up2_o hV478 (by decide)))
            have pq739 : (V728 76 gf).toInt = ((V 76 gf)).toInt := congrArg Int32.toInt ((up2_o hV728 (by decide)).trans (up2_o hV478 (by decide)))
            have pq740 : (V728 80 gf).toInt = ((V 80 gf)).toInt := congrArg Int32.toInt ((up2_o hV728 (by decide)).trans (up2_o hV478 (by decide)))
            have pq741 : (V728 84 gf).toInt = ((V 84 gf)).toInt := congrArg Int32.toInt ((up2_o hV728 (by decide)).trans (up2_o hV478 (by decide)))
            have pq742 : (V728 5 6).toInt = z732.toInt := congrArg Int32.toInt (up2_s hV728)
            have pq743 : (V728 5 8).toInt = ((V 5 8)).toInt := congrArg Int32.toInt ((up2_k hV728 (by decide)).trans (up2_o hV478 (by decide)))
            have pq744 : (V728 5 9).toInt = ((V 5 9)).toInt := congrArg Int32.toInt ((up2_k hV728 (by decide)).trans (up2_o hV478 (by decide)))
            have pq745 : (V728 3 13).toInt = ((V 3 13)).toInt := congrArg Int32.toInt ((up2_o hV728 (by decide)).trans (up2_o hV478 (by decide)))
            have pq746 : (V728 43 (5 * b + 2)).toInt = ((V 43 (5 * b + 2))).toInt := congrArg Int32.toInt ((up2_o hV728 (by decide)).trans (up2_o hV478 (by decide)))
            have pq747 : (V728 42 b).toInt = ((V 42 b)).toInt := congrArg Int32.toInt ((up2_o hV728 (by decide)).trans (up2_o hV478 (by decide)))
            have pq748 : (V728 41 b).toInt = ((V 41 b)).toInt := congrArg Int32.toInt ((up2_o hV728 (by decide)).trans (up2_o hV478 (by decide)))
            have rp749 : MJ V728 Z b := MP.lv (MO.mp mo) me733 (by (first | exact om_dca0de52e899 gd pq722 hz732 pq742 | omega)) (fun _ => Or.inl (by omega))
            have dx9 : (Int32.toNatClampNeg (V 70 gf)) = o.toNat := by have h9 := i_clamp (x := (V 70 gf)) rfl (by omega); (first | exact om_890eb046e93a ko9 | omega)
            have do9 : ((o.toNat : Nat) : Int) < gm 0 2 := by omega
            have db9 := (rn).2.1 _ do9
            have ds9 : 24 * Int32.toNatClampNeg (V 27 (Int32.toNatClampNeg (V 70 gf))) + Int32.toNatClampNeg (V 26 (Int32.toNatClampNeg (V 70 gf))) = 24 * (gm 2 o.toNat).toNat + (gm 1 o.toNat).toNat := by rw [dx9]; have h1 := db9.1.1; have h2 := db9.1.2.1; have h3 := i_clamp (x := V 27 o.toNat) rfl (by omega); have h4 := i_clamp (x := V 26 o.toNat) rfl (by omega); omega
            have rn751 : RWn V478 ow gB (mU gm 3 o.toNat 2) := RWn.drop rn do9 (fun x9 hx9 => up2_k hV478 (by rw [dx9]; exact hx9)) (by rw [← dx9, up2_s hV478]; decide) (fun k9 _ => up2_o hV478 (by decide)) (by rw [← ds9, up2_o hV478 (by decide), if_neg (by rw [← dx9]; have h9 := i_clamp (x := (V 70 gf)) rfl (by omega); omega)]) (fun c9 k9 h1 h2 h3 => (show V478 c9 k9 = V c9 k9 from by rw [hV478]; exact up2_pl (by omega)))
            have s51 : (V 51 (24 * b + Int32.toNatClampNeg (V 71 gf))).toInt = ((bS gB c.toNat : Nat) : Int) := by rw [kc9]; exact BKc.sc bc cn9
            have rh2 : gm 0 6 = 2 → (V 5 11).toInt = gm 0 8 ∧ (V 5 12).toInt = gm 0 9 := rh.2.2.1
            have rn5 : RWn V728 ow gB (mU gm 3 o.toNat 2) := RWn.es rn751 (ESw.ag (show agr [(5, 6)] [] V478 V728 from (agr.up agr.rf hV728 rfl)) (by decide))
            have me752 : ME V V728 gf := (ME.up (ME.up ME.rf hV478 (Or.inr (by omega))) hV728 (Or.inr (by omega)))
            have rl753 : RWl V728 gB gr t0 := RWl.mv hlr (fun i9 hi9 c9 h1 h2 => me752.2.1 c9 i9 h1 h2 (by omega)) (fun j9 hj9 => ((up2_o hV728 (by decide)).trans (up2_o hV478 (by decide)))) (by rw [((up2_o hV728 (by decide)).trans (up2_o hV478 (by decide)))]; exact Int.le_refl _) ((up2_o hV728 (by decide)).trans (up2_o hV478 (by decide)))
            have pq754 : (V728 5 7).toInt = ((V 5 7)).toInt := congrArg Int32.toInt ((up2_k hV728 (by decide)).trans (up2_o hV478 (by decide)))
            have r755 : 0 ≤ ((V 5 7)).toInt ∧ ((V 5 7)).toInt ≤ 2048 := hMV 5 7
            have pq756 : (V728 5 11).toInt = ((V 5 11)).toInt := congrArg Int32.toInt ((up2_k hV728 (by decide)).trans (up2_o hV478 (by decide)))
            have pq757 : (V728 5 12).toInt = ((V 5 12)).toInt := congrArg Int32.toInt ((up2_k hV728 (by decide)).trans (up2_o hV478 (by decide)))
            have rz9 : RW V728 gB ((mU gm 3 o.toNat 2), ga, gr) := RW.fin rwq rn5 (by rw [mU_o _ _ (by omega)]) (fun i9 => by rw [mU_o _ _ (by omega)]) ((up2_k hV728 (by decide)).trans (up2_o hV478 (by decide))) (fun i9 => ((up2_o hV728 (by decide)).trans (up2_o hV478 (by decide)))) (by rw [mU_o _ _ (by omega)]; omega) (fun h9 => by rw [mU_o _ _ (by omega)] at h9; exfalso; omega) (fun h9 => by rw [mU_o _ _ (by omega)] at h9; rw [mU_o _ _ (by omega), mU_o _ _ (by omega)]; have h8 := rh2 h9; exact ⟨by omega, by omega⟩) (show (V728 5 6).toInt = ((gr.length : Nat) : Int) from by (first | exact om_f00ff43a6068 rd2 pq722 hz732 pq742 | omega)) (show (V728 5 7).toInt = ((t0 : Nat) : Int) from by rw [((up2_k hV728 (by decide)).trans (up2_o hV478 (by decide))), rt9, tz9]) rl753
            have rx750 : RW V728 gB (mAb gB gm (V 70 gf).toInt (V 71 gf).toInt (V 72 gf).toInt, ga, gr) := by rw [q70, q71, q72, ab_n (fun h9 => by have h1 := h9.1; have h2 := h9.2.1; have h8 := rh2 h1; by_cases y1 : y710.toInt = 1; (rcases PAS.y xJ709_0 y1 with q9 | q9 | q9; (exact h9.2.2.1 (h8.2.symm.trans q9)); (exact h9.2.2.2.1 (h8.2.symm.trans q9)); (exact h9.2.2.2.2 (h8.2.symm.trans q9))); (clear h9; omega))]; exact rz9
            exact W.vret hx hb hr (fun t ht hW => ⟨⟨(V728, L), rfl, ⟨hMV728, agV728, rfl, rp749, rx750⟩, by rw [ht]; exact hP, va_K.moved hW.alike hK, hD⟩, hS.F ht⟩) hS.2.2 dX5_abandon_104
          · skip
            have f758 : ((V 5 9)).toInt = 2 := b_eq rfl (by decide) c719
            refine lv_iload_n hx hb dX5_abandon_77 rfl (lv_at hl 0 rfl) ?_
            refine lv_if_eq (tgt := 100) hx hb dX5_abandon_78 (by decide) (fun _ => ?_) (fun q => absurd (by decide) q)
            refine lv_aload_n hx hb dX5_abandon_100 rfl (lv_at hl 2 rfl) ?_
            have pq759 : (V478 5 6).toInt = ((V 5 6)).toInt := congrArg Int32.toInt (up2_o hV478 (by decide))
            refine gA_void (gA_runV (As := []) (rest := []) (ci := 5) (q0 := 5) hx hb hml hown hg hP hD hK hS hA hnw hgk (x_leave9 l D ks H.size ad kk V478 L Z  hMV478 (show 1 ≤ (V478 5 6).toInt from by first | exact om_0cac171fa40c gd pq759 | first | omega | ((try (have i_bc := Imp.go bc (by omega))); (try (have i_rwq := Imp.go rwq (by omega))); (try (have i_mo := Imp.go mo (by omega))); (try (have i_mo := Imp.go mo (by omega))); (try (have i_rwq := Imp.go rwq (by omega))); (try (have i_bc := Imp.go bc (by omega))); omega))) w1308 w1310 w50 w171 w1311 rfl xgMachine hdV_yX5_leave ⟨Nat.le_of_ble_eq_true rfl, Nat.le_of_ble_eq_true rfl⟩ rfl hl.1 rfl (Nat.le_of_ble_eq_true rfl) dX5_abandon_101 ⟨Nat.le_of_ble_eq_true rfl, Nat.le_of_ble_eq_true rfl⟩) hP hD hK hS hA (fun u761 H locs w762 hP hD hK hS => ?_)
            obtain ⟨V765, L766⟩ := u761
            obtain ⟨hMV765, ajV765, axL766, t763, t764⟩ := w762
            have axL766 : L = L766 := Eq.symm axL766
            subst axL766
            have hP : va_P D vwCl (xw ad kk V765 L Z) H := hP
            have hD : va_D A (xw ad kk V765 L Z) := hD
            have hMV765 : rgd bX V765 := hMV765
            have ajV765 : agr [(5, 6)] [] V478 V765 := ajV765
            have agV765 : agr [(5, 6)] [24, 25, 28] V V765 := agV478.tr ajV765 (by decide) (by decide)
            have t763 : (V765 5 6).toInt = (V478 5 6).toInt - 1 := t763
            have t764 : ((True) ∧ V765 = (up2 V478 5 6 (V478 5 6 - 1))) := t764
            have r767 : 0 ≤ ((V765 5 6)).toInt ∧ ((V765 5 6)).toInt ≤ 400 := hMV765 5 6
            have hw768 := t764.2
            obtain ⟨z769, ez769⟩ : ∃ y : Int32, y = V478 5 6 - 1 := ⟨_, rfl⟩
            have hz769 : z769.toInt = (V478 5 6).toInt - 1 := i_sub ez769 rfl (by decide) (by first | exact om_1c0ddc14e6cd gd sl8 pq759 | first | omega | ((try (have i_bc := Imp.go bc (by omega))); (try (have i_rwq := Imp.go rwq (by omega))); (try (have i_mo := Imp.go mo (by omega))); (try (have i_mo := Imp.go mo (by omega))); (try (have i_rwq := Imp.go rwq (by omega))); (try (have i_bc := Imp.go bc (by omega))); omega))
            have hV765 : V765 = up2 V478 5 6 z769 := by rw [hw768, ez769]
            have me770 : ME V V765 gf := (ME.up (ME.up ME.rf hV478 (Or.inr (by omega))) hV765 (Or.inr (by omega)))
            have pq771 : (V765 67 gf).toInt = ((V 67 gf)).toInt := congrArg Int32.toInt ((up2_o hV765 (by decide)).trans (up2_o hV478 (by decide)))
            have pq772 : (V765 68 gf).toInt = ((V 68 gf)).toInt := congrArg Int32.toInt ((up2_o hV765 (by decide)).trans (up2_o hV478 (by decide)))
            have pq773 : (V765 70 gf).toInt = ((V 70 gf)).toInt := congrArg Int32.toInt ((up2_o hV765 (by decide)).trans (up2_o hV478 (by decide)))
            have pq774 : (V765 71 gf).toInt = ((V 71 gf)).toInt := congrArg Int32.toInt ((up2_o hV765 (by decide)).trans (up2_o hV478 (by decide)))
            have pq775 : (V765 75 gf).toInt = ((V 75 gf)).toInt := congrArg Int32.toInt ((up2_o hV765 (by decide)).trans (up2_o hV478 (by decide)))
            have pq776 : (V765 76 gf).toInt = ((V 76 gf)).toInt := congrArg Int32.toInt ((up2_o hV765 (by decide)).trans (up2_o hV478 (by decide)))
            have pq777 : (V765 80 gf).toInt = ((V 80 gf)).toInt := congrArg Int32.toInt ((up2_o hV765 (by decide)).trans (up2_o hV478 (by decide)))
            have pq778 : (V765 84 gf).toInt = ((V 84 gf)).toInt := congrArg Int32.toInt ((up2_o hV765 (by decide)).trans (up2_o hV478 (by decide)))
            have pq779 : (V765 5 6).toInt = z769.toInt := congrArg Int32.toInt (up2_s hV765)
            have pq780 : (V765 5 8).toInt = ((V 5 8)).toInt := congrArg Int32.toInt ((up2_k hV765 (by decide)).trans (up2_o hV478 (by decide)))
            have pq781 : (V765 5 9).toInt = ((V 5 9)).toInt := congrArg Int32.toInt ((up2_k hV765 (by decide)).trans (up2_o hV478 (by decide)))
            have pq782 : (V765 3 13).toInt = ((V 3 13)).toInt := congrArg Int32.toInt ((up2_o hV765 (by decide)).trans (up2_o hV478 (by decide)))
            have pq783 : (V765 43 (5 * b + 2)).toInt = ((V 43 (5 * b + 2))).toInt := congrArg Int32.toInt ((up2_o hV765 (by decide)).trans (up2_o hV478 (by decide)))
            have pq784 : (V765 42 b).toInt = ((V 42 b)).toInt := congrArg Int32.toInt ((up2_o hV765 (by decide)).trans (up2_o hV478 (by decide)))
            have pq785 : (V765 41 b).toInt = ((V 41 b)).toInt := congrArg Int32.toInt ((up2_o hV765 (by decide)).trans (up2_o hV478 (by decide)))
            have rp786 : MJ V765 Z b := MP.lv (MO.mp mo) me770 (by (first | exact om_dca0de52e899 gd pq759 hz769 pq779 | omega)) (fun _ => Or.inl (by omega))
            have dx9 : (Int32.toNatClampNeg (V 70 gf)) = o.toNat := by have h9 := i_clamp (x := (V 70 gf)) rfl (by omega); (first | exact om_890eb046e93a ko9 | omega)
            have do9 : ((o.toNat : Nat) : Int) < gm 0 2 := by omega
            have db9 := (rn).2.1 _ do9
            have ds9 : 24 * Int32.toNatClampNeg (V 27 (Int32.toNatClampNeg (V 70 gf))) + Int32.toNatClampNeg (V 26 (Int32.toNatClampNeg (V 70 gf))) = 24 * (gm 2 o.toNat).toNat + (gm 1 o.toNat).toNat := by rw [dx9]; have h1 := db9.1.1; have h2 := db9.1.2.1; have h3 := i_clamp (x := V 27 o.toNat) rfl (by omega); have h4 := i_clamp (x := V 26 o.toNat) rfl (by omega); omega
            have rn788 : RWn V478 ow gB (mU gm 3 o.toNat 2) := RWn.drop rn do9 (fun x9 hx9 => up2_k hV478 (by rw [dx9]; exact hx9)) (by rw [← dx9, up2_s hV478]; decide) (fun k9 _ => up2_o hV478 (by decide)) (by rw [← ds9, up2_o hV478 (by decide), if_neg (by rw [← dx9]; have h9 := i_clamp (x := (V 70 gf)) rfl (by omega); omega)]) (fun c9 k9 h1 h2 h3 => (show V478 c9 k9 = V c9 k9 from by rw [hV478]; exact up2_pl (by omega)))
            have s51 : (V 51 (24 * b + Int32.toNatClampNeg (V 71 gf))).toInt = ((bS gB c.toNat : Nat) : Int) := by rw [kc9]; exact BKc.sc bc cn9
            have rh2 : gm 0 6 = 2 → (V 5 11).toInt = gm 0 8 ∧ (V 5 12).toInt = gm 0 9 := rh.2.2.1
            have rn5 : RWn V765 ow gB (mU gm 3 o.toNat 2) := RWn.es rn788 (ESw.ag (show agr [(5, 6)] [] V478 V765 from (agr.up agr.rf hV765 rfl)) (by decide))
            have me789 : ME V V765 gf := (ME.up (ME.up ME.rf hV478 (Or.inr (by omega))) hV765 (Or.inr (by omega)))
            have rl790 : RWl V765 gB gr t0 := RWl.mv hlr (fun i9 hi9 c9 h1 h2 => me789.2.1 c9 i9 h1 h2 (by omega)) (fun j9 hj9 => ((up2_o hV765 (by decide)).trans (up2_o hV478 (by decide)))) (by rw [((up2_o hV765 (by decide)).trans (up2_o hV478 (by decide)))]; exact Int.le_refl _) ((up2_o hV765 (by decide)).trans (up2_o hV478 (by decide)))
            have pq791 : (V765 5 7).toInt = ((V 5 7)).toInt := congrArg Int32.toInt ((up2_k hV765 (by decide)).trans (up2_o hV478 (by decide)))
            have r792 : 0 ≤ ((V 5 7)).toInt ∧ ((V 5 7)).toInt ≤ 2048 := hMV 5 7
            have pq793 : (V765 5 11).toInt = ((V 5 11)).toInt := congrArg Int32.toInt ((up2_k hV765 (by decide)).trans (up2_o hV478 (by decide)))
            have pq794 : (V765 5 12).toInt = ((V 5 12)).toInt := congrArg Int32.toInt ((up2_k hV765 (by decide)).trans (up2_o hV478 (by decide)))
            have rz9 : RW V765 gB ((mU gm 3 o.toNat 2), ga, gr) := RW.fin rwq rn5 (by rw [mU_o _ _ (by omega)]) (fun i9 => by rw [mU_o _ _ (by omega)]) ((up2_k hV765 (by decide)).trans (up2_o hV478 (by decide))) (fun i9 => ((up2_o hV765 (by decide)).trans (up2_o hV478 (by decide)))) (by rw [mU_o _ _ (by omega)]; omega) (fun h9 => by rw [mU_o _ _ (by omega)] at h9; exfalso; omega) (fun h9 => by rw [mU_o _ _ (by omega)] at h9; rw [mU_o _ _ (by omega), mU_o _ _ (by omega)]; have h8 := rh2 h9; exact ⟨by omega, by omega⟩) (show (V765 5 6).toInt = ((gr.length : Nat) : Int) from by (first | exact om_f00ff43a6068 rd2 pq759 hz769 pq779 | omega)) (show (V765 5 7).toInt = ((t0 : Nat) : Int) from by rw [((up2_k hV765 (by decide)).trans (up2_o hV478 (by decide))), rt9, tz9]) rl790
            have rx787 : RW V765 gB (mAb gB gm (V 70 gf).toInt (V 71 gf).toInt (V 72 gf).toInt, ga, gr) := by rw [q70, q71, q72, ab_n (fun h9 => by have h1 := h9.1; have h2 := h9.2.1; have h8 := rh2 h1; by_cases y1 : y710.toInt = 1; (rcases PAS.y xJ709_0 y1 with q9 | q9 | q9; (exact h9.2.2.1 (h8.2.symm.trans q9)); (exact h9.2.2.2.1 (h8.2.symm.trans q9)); (exact h9.2.2.2.2 (h8.2.symm.trans q9))); (clear h9; omega))]; exact rz9
            exact W.vret hx hb hr (fun t ht hW => ⟨⟨(V765, L), rfl, ⟨hMV765, agV765, rfl, rp786, rx787⟩, by rw [ht]; exact hP, va_K.moved hW.alike hK, hD⟩, hS.F ht⟩) hS.2.2 dX5_abandon_104
        · skip
          have f795 : ((V 51 (24 * b + (Int32.toNatClampNeg (V 71 gf))))).toInt ≠ 3 := b_neq rfl (by decide) c717
          have f796 : ((V 51 (24 * b + (Int32.toNatClampNeg (V 71 gf))))).toInt ≤ 2 := by (first | exact om_f2755f8dba0a r716.2 f795 | omega)
          clear f795
          refine lv_iconst (v := 1) hx hb dX5_abandon_63 (by decide) ?_
          refine lv_goto (tgt := 68) hx hb dX5_abandon_64 (by decide) ?_
          refine lv_istore_n (lv' := [(3, .int 1), (2, .int y710), (0, .ref (ad 5)), (1, .ref (Z.fa gf))]) hx hb dX5_abandon_68 rfl hl (by decide) rfl (fun ls hl => ?_)
          refine lv_aload_n hx hb dX5_abandon_69 rfl (lv_at hl 2 rfl) ?_
          refine va_get (D := D) (ci := 5) (v := .int (V478 5 9)) (fs := (xfMachine ad V478 L Z)) (C := RX5) (T := TX5) (N := 15) hx hb hg inX5 hown hK hP 5 xgMachine rfl 9 (by decide) (hg _ w676) (fun _ h9 => h9) rfl dX5_abandon_70 ?_
          refine g_top (v := (V 5 9)) (up2_o hV478 (by decide)) ?_
          refine lv_iconst (v := 2) hx hb dX5_abandon_73 (by decide) ?_
          refine lv_icmp_ne (tgt := 100) hx hb dX5_abandon_74 (by decide) (fun c797 => ?_) (fun c797 => ?_)
          · skip
            have f798 : ((V 5 9)).toInt ≠ 2 := b_neq rfl (by decide) c797
            have f799 : 3 ≤ ((V 5 9)).toInt := by (first | exact om_5241ad6bc921 sg7.1 f798 | omega)
            clear f798
            refine lv_aload_n hx hb dX5_abandon_100 rfl (lv_at hl 2 rfl) ?_
            have pq800 : (V478 5 6).toInt = ((V 5 6)).toInt := congrArg Int32.toInt (up2_o hV478 (by decide))
            refine gA_void (gA_runV (As := []) (rest := []) (ci := 5) (q0 := 5) hx hb hml hown hg hP hD hK hS hA hnw hgk (x_leave9 l D ks H.size ad kk V478 L Z  hMV478 (show 1 ≤ (V478 5 6).toInt from by first | exact om_0cac171fa40c gd pq800 | first | omega | ((try (have i_bc := Imp.go bc (by omega))); (try (have i_rwq := Imp.go rwq (by omega))); (try (have i_mo := Imp.go mo (by omega))); (try (have i_mo := Imp.go mo (by omega))); (try (have i_rwq := Imp.go rwq (by omega))); (try (have i_bc := Imp.go bc (by omega))); omega))) w1308 w1310 w50 w171 w1311 rfl xgMachine hdV_yX5_leave ⟨Nat.le_of_ble_eq_true rfl, Nat.le_of_ble_eq_true rfl⟩ rfl hl.1 rfl (Nat.le_of_ble_eq_true rfl) dX5_abandon_101 ⟨Nat.le_of_ble_eq_true rfl, Nat.le_of_ble_eq_true rfl⟩) hP hD hK hS hA (fun u802 H locs w803 hP hD hK hS => ?_)
            obtain ⟨V806, L807⟩ := u802
            obtain ⟨hMV806, ajV806, axL807, t804, t805⟩ := w803
            have axL807 : L = L807 := Eq.symm axL807
            subst axL807
            have hP : va_P D vwCl (xw ad kk V806 L Z) H := hP
            have hD : va_D A (xw ad kk V806 L Z) := hD
            have hMV806 : rgd bX V806 := hMV806
            have ajV806 : agr [(5, 6)] [] V478 V806 := ajV806
            have agV806 : agr [(5, 6)] [24, 25, 28] V V806 := agV478.tr ajV806 (by decide) (by decide)
            have t804 : (V806 5 6).toInt = (V478 5 6).toInt - 1 := t804
            have t805 : ((True) ∧ V806 = (up2 V478 5 6 (V478 5 6 - 1))) := t805
            have r808 : 0 ≤ ((V806 5 6)).toInt ∧ ((V806 5 6)).toInt ≤ 400 := hMV806 5 6
            have hw809 := t805.2
            obtain ⟨z810, ez810⟩ : ∃ y : Int32, y = V478 5 6 - 1 := ⟨_, rfl⟩
            have hz810 : z810.toInt = (V478 5 6).toInt - 1 := i_sub ez810 rfl (by decide) (by first | exact om_1c0ddc14e6cd gd sl8 pq800 | first | omega | ((try (have i_bc := Imp.go bc (by omega))); (try (have i_rwq := Imp.go rwq (by omega))); (try (have i_mo := Imp.go mo (by omega))); (try (have i_mo := Imp.go mo (by omega))); (try (have i_rwq := Imp.go rwq (by omega))); (try (have i_bc := Imp.go bc (by omega))); omega))
            have hV806 : V806 = up2 V478 5 6 z810 := by rw [hw809, ez810]
            have me811 : ME V V806 gf := (ME.up (ME.up ME.rf hV478 (Or.inr (by omega))) hV806 (Or.inr (by omega)))
            have pq812 : (V806 67 gf).toInt = ((V 67 gf)).toInt := congrArg Int32.toInt ((up2_o hV806 (by decide)).trans (up2_o hV478 (by decide)))
            have pq813 : (V806 68 gf).toInt = ((V 68 gf)).toInt := congrArg Int32.toInt ((up2_o hV806 (by decide)).trans (up2_o hV478 (by decide)))
            have pq814 : (V806 70 gf).toInt = ((V 70 gf)).toInt := congrArg Int32.toInt ((up2_o hV806 (by decide)).trans (up2_o hV478 (by decide)))
            have pq815 : (V806 71 gf).toInt = ((V 71 gf)).toInt := congrArg Int32.toInt ((up2_o hV806 (by decide)).trans (up2_o hV478 (by decide)))
            have pq816 : (V806 75 gf).toInt = ((V 75 gf)).toInt := congrArg Int32.toInt ((up2_o hV806 (by decide)).trans (up2_o hV478 (by decide)))
            have pq817 : (V806 76 gf).toInt = ((V 76 gf)).toInt := congrArg Int32.toInt ((up2_o hV806 (by decide)).trans (up2_o hV478 (by decide)))
            have pq818 : (V806 80 gf).toInt = ((V 80 gf)).toInt := congrArg Int32.toInt ((up2_o hV806 (by decide)).trans (up2_o hV478 (by decide)))
            have pq819 : (V806 84 gf).toInt = ((V 84 gf)).toInt := congrArg Int32.toInt ((up2_o hV806 (by decide)).trans (up2_o hV478 (by decide)))
            have pq820 : (V806 5 6).toInt = z810.toInt := congrArg Int32.toInt (up2_s hV806)
            have pq821 : (V806 5 8).toInt = ((V 5 8)).toInt := congrArg Int32.toInt ((up2_k hV806 (by decide)).trans (up2_o hV478 (by decide)))
            have pq822 : (V806 5 9).toInt = ((V 5 9)).toInt := congrArg Int32.toInt ((up2_k hV806 (by decide)).trans (up2_o hV478 (by decide)))
            have pq823 : (V806 3 13).toInt = ((V 3 13)).toInt := congrArg Int32.toInt ((up2_o hV806 (by decide)).trans (up2_o hV478 (by decide)))
            have pq824 : (V806 43 (5 * b + 2)).toInt = ((V 43 (5 * b + 2))).toInt := congrArg Int32.toInt ((up2_o hV806 (by decide)).trans (up2_o hV478 (by decide)))
            have pq825 : (V806 42 b).toInt = ((V 42 b)).toInt := congrArg Int32.toInt ((up2_o hV806 (by decide)).trans (up2_o hV478 (by decide)))
            have pq826 : (V806 41 b).toInt = ((V 41 b)).toInt := congrArg Int32.toInt ((up2_o hV806 (by decide)).trans (up2_o hV478 (by decide)))
            have rp827 : MJ V806 Z b := MP.lv (MO.mp mo) me811 (by (first | exact om_dca0de52e899 gd pq800 hz810 pq820 | omega)) (fun _ => Or.inl (by omega))
            have dx9 : (Int32.toNatClampNeg (V 70 gf)) = o.toNat := by have h9 := i_clamp (x := (V 70 gf)) rfl (by omega); (first | exact om_890eb046e93a ko9 | omega)
            have do9 : ((o.toNat : Nat) : Int) < gm 0 2 := by omega
            have db9 := (rn).2.1 _ do9
            have ds9 : 24 * Int32.toNatClampNeg (V 27 (Int32.toNatClampNeg (V 70 gf))) + Int32.toNatClampNeg (V 26 (Int32.toNatClampNeg (V 70 gf))) = 24 * (gm 2 o.toNat).toNat + (gm 1 o.toNat).toNat := by rw [dx9]; have h1 := db9.1.1; have h2 := db9.1.2.1; have h3 := i_clamp (x := V 27 o.toNat) rfl (by omega); have h4 := i_clamp (x := V 26 o.toNat) rfl (by omega); omega
            have rn829 : RWn V478 ow gB (mU gm 3 o.toNat 2) := RWn.drop rn do9 (fun x9 hx9 => up2_k hV478 (by rw [dx9]; exact hx9)) (by rw [← dx9, up2_s hV478]; decide) (fun k9 _ => up2_o hV478 (by decide)) (by rw [← ds9, up2_o hV478 (by decide), if_neg (by rw [← dx9]; have h9 := i_clamp (x := (V 70 gf)) rfl (by omega); omega)]) (fun c9 k9 h1 h2 h3 => (show V478 c9 k9 = V c9 k9 from by rw [hV478]; exact up2_pl (by omega)))
            have s51 : (V 51 (24 * b + Int32.toNatClampNeg (V 71 gf))).toInt = ((bS gB c.toNat : Nat) : Int) := by rw [kc9]; exact BKc.sc bc cn9
            have rh2 : gm 0 6 = 2 → (V 5 11).toInt = gm 0 8 ∧ (V 5 12).toInt = gm 0 9 := rh.2.2.1
            have rn5 : RWn V806 ow gB (mU gm 3 o.toNat 2) := RWn.es rn829 (ESw.ag (show agr [(5, 6)] [] V478 V806 from (agr.up agr.rf hV806 rfl)) (by decide))
            have me830 : ME V V806 gf := (ME.up (ME.up ME.rf hV478 (Or.inr (by omega))) hV806 (Or.inr (by omega)))
            have rl831 : RWl V806 gB gr t0 := RWl.mv hlr (fun i9 hi9 c9 h1 h2 => me830.2.1 c9 i9 h1 h2 (by omega)) (fun j9 hj9 => ((up2_o hV806 (by decide)).trans (up2_o hV478 (by decide)))) (by rw [((up2_o hV806 (by decide)).trans (up2_o hV478 (by decide)))]; exact Int.le_refl _) ((up2_o hV806 (by decide)).trans (up2_o hV478 (by decide)))
            have pq832 : (V806 5 7).toInt = ((V 5 7)).toInt := congrArg Int32.toInt ((up2_k hV806 (by decide)).trans (up2_o hV478 (by decide)))
            have r833 : 0 ≤ ((V 5 7)).toInt ∧ ((V 5 7)).toInt ≤ 2048 := hMV 5 7
            have pq834 : (V806 5 11).toInt = ((V 5 11)).toInt := congrArg Int32.toInt ((up2_k hV806 (by decide)).trans (up2_o hV478 (by decide)))
            have pq835 : (V806 5 12).toInt = ((V 5 12)).toInt := congrArg Int32.toInt ((up2_k hV806 (by decide)).trans (up2_o hV478 (by decide)))
            have rz9 : RW V806 gB ((mU gm 3 o.toNat 2), ga, gr) := RW.fin rwq rn5 (by rw [mU_o _ _ (by omega)]) (fun i9 => by rw [mU_o _ _ (by omega)]) ((up2_k hV806 (by decide)).trans (up2_o hV478 (by decide))) (fun i9 => ((up2_o hV806 (by decide)).trans (up2_o hV478 (by decide)))) (by rw [mU_o _ _ (by omega)]; omega) (fun h9 => by rw [mU_o _ _ (by omega)] at h9; exfalso; omega) (fun h9 => by rw [mU_o _ _ (by omega)] at h9; rw [mU_o _ _ (by omega), mU_o _ _ (by omega)]; have h8 := rh2 h9; exact ⟨by omega, by omega⟩) (show (V806 5 6).toInt = ((gr.length : Nat) : Int) from by (first | exact om_f00ff43a6068 rd2 pq800 hz810 pq820 | omega)) (show (V806 5 7).toInt = ((t0 : Nat) : Int) from by rw [((up2_k hV806 (by decide)).trans (up2_o hV478 (by decide))), rt9, tz9]) rl831
            have rx828 : RW V806 gB (mAb gB gm (V 70 gf).toInt (V 71 gf).toInt (V 72 gf).toInt, ga, gr) := by rw [q70, q71, q72, ab_n (fun h9 => by have h1 := h9.1; have h2 := h9.2.1; have h8 := rh2 h1; by_cases y1 : y710.toInt = 1; (rcases PAS.y xJ709_0 y1 with q9 | q9 | q9; (exact h9.2.2.1 (h8.2.symm.trans q9)); (exact h9.2.2.2.1 (h8.2.symm.trans q9)); (exact h9.2.2.2.2 (h8.2.symm.trans q9))); (clear h9; omega))]; exact rz9
            exact W.vret hx hb hr (fun t ht hW => ⟨⟨(V806, L), rfl, ⟨hMV806, agV806, rfl, rp827, rx828⟩, by rw [ht]; exact hP, va_K.moved hW.alike hK, hD⟩, hS.F ht⟩) hS.2.2 dX5_abandon_104
          · skip
            have f836 : ((V 5 9)).toInt = 2 := b_eq rfl (by decide) c797
            refine lv_iload_n hx hb dX5_abandon_77 rfl (lv_at hl 0 rfl) ?_
            refine lv_if_eq (tgt := 100) hx hb dX5_abandon_78 (by decide) (fun q => absurd q (by decide)) (fun _ => ?_)
            refine lv_iload_n hx hb dX5_abandon_81 rfl (lv_at hl 1 rfl) ?_
            refine lv_if_ne (tgt := 100) hx hb dX5_abandon_82 (by decide) (fun c837 => ?_) (fun c837 => ?_)
            · skip
              have f838 : y710.toInt ≠ 0 := b_neq rfl (by decide) c837
              have f839 : 1 ≤ y710.toInt := by (first | exact om_76052c512981 kJ709_0.1 f838 | omega)
              clear f838
              refine lv_aload_n hx hb dX5_abandon_100 rfl (lv_at hl 2 rfl) ?_
              have pq840 : (V478 5 6).toInt = ((V 5 6)).toInt := congrArg Int32.toInt (up2_o hV478 (by decide))
              refine gA_void (gA_runV (As := []) (rest := []) (ci := 5) (q0 := 5) hx hb hml hown hg hP hD hK hS hA hnw hgk (x_leave9 l D ks H.size ad kk V478 L Z  hMV478 (show 1 ≤ (V478 5 6).toInt from by first | exact om_0cac171fa40c gd pq840 | first | omega | ((try (have i_bc := Imp.go bc (by omega))); (try (have i_rwq := Imp.go rwq (by omega))); (try (have i_mo := Imp.go mo (by omega))); (try (have i_mo := Imp.go mo (by omega))); (try (have i_rwq := Imp.go rwq (by omega))); (try (have i_bc := Imp.go bc (by omega))); omega))) w1308 w1310 w50 w171 w1311 rfl xgMachine hdV_yX5_leave ⟨Nat.le_of_ble_eq_true rfl, Nat.le_of_ble_eq_true rfl⟩ rfl hl.1 rfl (Nat.le_of_ble_eq_true rfl) dX5_abandon_101 ⟨Nat.le_of_ble_eq_true rfl, Nat.le_of_ble_eq_true rfl⟩) hP hD hK hS hA (fun u842 H locs w843 hP hD hK hS => ?_)
              obtain ⟨V846, L847⟩ := u842
              obtain ⟨hMV846, ajV846, axL847, t844, t845⟩ := w843
              have axL847 : L = L847 := Eq.symm axL847
              subst axL847
              have hP : va_P D vwCl (xw ad kk V846 L Z) H := hP
              have hD : va_D A (xw ad kk V846 L Z) := hD
              have hMV846 : rgd bX V846 := hMV846
              have ajV846 : agr [(5, 6)] [] V478 V846 := ajV846
              have agV846 : agr [(5, 6)] [24, 25, 28] V V846 := agV478.tr ajV846 (by decide) (by decide)
              have t844 : (V846 5 6).toInt = (V478 5 6).toInt - 1 := t844
              have t845 : ((True) ∧ V846 = (up2 V478 5 6 (V478 5 6 - 1))) := t845
              have r848 : 0 ≤ ((V846 5 6)).toInt ∧ ((V846 5 6)).toInt ≤ 400 := hMV846 5 6
              have hw849 := t845.2
              obtain ⟨z850, ez850⟩ : ∃ y : Int32, y = V478 5 6 - 1 := ⟨_, rfl⟩
              have hz850 : z850.toInt = (V478 5 6).toInt - 1 := i_sub ez850 rfl (by decide) (by first | exact om_1c0ddc14e6cd gd sl8 pq840 | first | omega | ((try (have i_bc := Imp.go bc (by omega))); (try (have i_rwq := Imp.go rwq (by omega))); (try (have i_mo := Imp.go mo (by omega))); (try (have i_mo := Imp.go mo (by omega))); (try (have i_rwq := Imp.go rwq (by omega))); (try (have i_bc := Imp.go bc (by omega))); omega))
              have hV846 : V846 = up2 V478 5 6 z850 := by rw [hw849, ez850]
              have me851 : ME V V846 gf := (ME.up (ME.up ME.rf hV478 (Or.inr (by omega))) hV846 (Or.inr (by omega)))
              have pq852 : (V846 67 gf).toInt = ((V 67 gf)).toInt := congrArg Int32.toInt ((up2_o hV846 (by decide)).trans (up2_o hV478 (by decide)))
              have pq853 : (V846 68 gf).toInt = ((V 68 gf)).toInt := congrArg Int32.toInt ((up2_o hV846 (by decide)).trans (up2_o hV478 (by decide)))
              have pq854 : (V846 70 gf).toInt = ((V 70 gf)).toInt := congrArg Int32.toInt ((up2_o hV846 (by decide)).trans (up2_o hV478 (by decide)))
              have pq855 : (V846 71 gf).toInt = ((V 71 gf)).toInt := congrArg Int32.toInt ((up2_o hV846 (by decide)).trans (up2_o hV478 (by decide)))
              have pq856 : (V846 75 gf).toInt = ((V 75 gf)).toInt := congrArg Int32.toInt ((up2_o hV846 (by decide)).trans (up2_o hV478 (by decide)))
              have pq857 : (V846 76 gf).toInt = ((V 76 gf)).toInt := congrArg Int32.toInt ((up2_o hV846 (by decide)).trans (up2_o hV478 (by decide)))
              have pq858 : (V846 80 gf).toInt = ((V 80 gf)).toInt := congrArg Int32.toInt ((up2_o hV846 (by decide)).trans (up2_o hV478 (by decide)))
              have pq859 : (V846 84 gf).toInt = ((V 84 gf)).toInt := congrArg Int32.toInt ((up2_o hV846 (by decide)).trans (up2_o hV478 (by decide)))
              have pq860 : (V846 5 6).toInt = z850.toInt := congrArg Int32.toInt (up2_s hV846)
              have pq861 : (V846 5 8).toInt = ((V 5 8)).toInt := congrArg Int32.toInt ((up2_k hV846 (by decide)).trans (up2_o hV478 (by decide)))
              have pq862 : (V846 5 9).toInt = ((V 5 9)).toInt := congrArg Int32.toInt ((up2_k hV846 (by decide)).trans (up2_o hV478 (by decide)))
              have pq863 : (V846 3 13).toInt = ((V 3 13)).toInt := congrArg Int32.toInt ((up2_o hV846 (by decide)).trans (up2_o hV478 (by decide)))
              have pq864 : (V846 43 (5 * b + 2)).toInt = ((V 43 (5 * b + 2))).toInt := congrArg Int32.toInt ((up2_o hV846 (by decide)).trans (up2_o hV478 (by decide)))
              have pq865 : (V846 42 b).toInt = ((V 42 b)).toInt := congrArg Int32.toInt ((up2_o hV846 (by decide)).trans (up2_o hV478 (by decide)))
              have pq866 : (V846 41 b).toInt = ((V 41 b)).toInt := congrArg Int32.toInt ((up2_o hV846 (by decide)).trans (up2_o hV478 (by decide)))
              have rp867 : MJ V846 Z b := MP.lv (MO.mp mo) me851 (by (first | exact om_dca0de52e899 gd pq840 hz850 pq860 | omega)) (fun _ => Or.inl (by omega))
              have dx9 : (Int32.toNatClampNeg (V 70 gf)) = o.toNat := by have h9 := i_clamp (x := (V 70 gf)) rfl (by omega); (first | exact om_890eb046e93a ko9 | omega)
              have do9 : ((o.toNat : Nat) : Int) < gm 0 2 := by omega
              have db9 := (rn).2.1 _ do9
              have ds9 : 24 * Int32.toNatClampNeg (V 27 (Int32.toNatClampNeg (V 70 gf))) + Int32.toNatClampNeg (V 26 (Int32.toNatClampNeg (V 70 gf))) = 24 * (gm 2 o.toNat).toNat + (gm 1 o.toNat).toNat := by rw [dx9]; have h1 := db9.1.1; have h2 := db9.1.2.1; have h3 := i_clamp (x := V 27 o.toNat) rfl (by omega); have h4 := i_clamp (x := V 26 o.toNat) rfl (by omega); omega
              have rn869 : RWn V478 ow gB (mU gm 3 o.toNat 2) := RWn.drop rn do9 (fun x9 hx9 => up2_k hV478 (by rw [dx9]; exact hx9)) (by rw [← dx9, up2_s hV478]; decide) (fun k9 _ => up2_o hV478 (by decide)) (by rw [← ds9, up2_o hV478 (by decide), if_neg (by rw [← dx9]; have h9 := i_clamp (x := (V 70 gf)) rfl (by omega); omega)]) (fun c9 k9 h1 h2 h3 => (show V478 c9 k9 = V c9 k9 from by rw [hV478]; exact up2_pl (by omega)))
              have s51 : (V 51 (24 * b + Int32.toNatClampNeg (V 71 gf))).toInt = ((bS gB c.toNat : Nat) : Int) := by rw [kc9]; exact BKc.sc bc cn9
              have rh2 : gm 0 6 = 2 → (V 5 11).toInt = gm 0 8 ∧ (V 5 12).toInt = gm 0 9 := rh.2.2.1
              have rn5 : RWn V846 ow gB (mU gm 3 o.toNat 2) := RWn.es rn869 (ESw.ag (show agr [(5, 6)] [] V478 V846 from (agr.up agr.rf hV846 rfl)) (by decide))
              have me870 : ME V V846 gf := (ME.up (ME.up ME.rf hV478 (Or.inr (by omega))) hV846 (Or.inr (by omega)))
              have rl871 : RWl V846 gB gr t0 := RWl.mv hlr (fun i9 hi9 c9 h1 h2 => me870.2.1 c9 i9 h1 h2 (by omega)) (fun j9 hj9 => ((up2_o hV846 (by decide)).trans (up2_o hV478 (by decide)))) (by rw [((up2_o hV846 (by decide)).trans (up2_o hV478 (by decide)))]; exact Int.le_refl _) ((up2_o hV846 (by decide)).trans (up2_o hV478 (by decide)))
              have pq872 : (V846 5 7).toInt = ((V 5 7)).toInt := congrArg Int32.toInt ((up2_k hV846 (by decide)).trans (up2_o hV478 (by decide)))
              have r873 : 0 ≤ ((V 5 7)).toInt ∧ ((V 5 7)).toInt ≤ 2048 := hMV 5 7
              have pq874 : (V846 5 11).toInt = ((V 5 11)).toInt := congrArg Int32.toInt ((up2_k hV846 (by decide)).trans (up2_o hV478 (by decide)))
              have pq875 : (V846 5 12).toInt = ((V 5 12)).toInt := congrArg Int32.toInt ((up2_k hV846 (by decide)).trans (up2_o hV478 (by decide)))
              have rz9 : RW V846 gB ((mU gm 3 o.toNat 2), ga, gr) := RW.fin rwq rn5 (by rw [mU_o _ _ (by omega)]) (fun i9 => by rw [mU_o _ _ (by omega)]) ((up2_k hV846 (by decide)).trans (up2_o hV478 (by decide))) (fun i9 => ((up2_o hV846 (by decide)).trans (up2_o hV478 (by decide)))) (by rw [mU_o _ _ (by omega)]; omega) (fun h9 => by rw [mU_o _ _ (by omega)] at h9; exfalso; omega) (fun h9 => by rw [mU_o _ _ (by omega)] at h9; rw [mU_o _ _ (by omega), mU_o _ _ (by omega)]; have h8 := rh2 h9; exact ⟨by omega, by omega⟩) (show (V846 5 6).toInt = ((gr.length : Nat) : Int) from by (first | exact om_f00ff43a6068 rd2 pq840 hz850 pq860 | omega)) (show (V846 5 7).toInt = ((t0 : Nat) : Int) from by rw [((up2_k hV846 (by decide)).trans (up2_o hV478 (by decide))), rt9, tz9]) rl871
              have rx868 : RW V846 gB (mAb gB gm (V 70 gf).toInt (V 71 gf).toInt (V 72 gf).toInt, ga, gr) := by rw [q70, q71, q72, ab_n (fun h9 => by have h1 := h9.1; have h2 := h9.2.1; have h8 := rh2 h1; by_cases y1 : y710.toInt = 1; (rcases PAS.y xJ709_0 y1 with q9 | q9 | q9; (exact h9.2.2.1 (h8.2.symm.trans q9)); (exact h9.2.2.2.1 (h8.2.symm.trans q9)); (exact h9.2.2.2.2 (h8.2.symm.trans q9))); (clear h9; omega))]; exact rz9
              exact W.vret hx hb hr (fun t ht hW => ⟨⟨(V846, L), rfl, ⟨hMV846, agV846, rfl, rp867, rx868⟩, by rw [ht]; exact hP, va_K.moved hW.alike hK, hD⟩, hS.F ht⟩) hS.2.2 dX5_abandon_104
            · skip
              have f876 : y710.toInt = 0 := b_eq rfl (by decide) c837
              refine lv_aload_n hx hb dX5_abandon_85 rfl (lv_at hl 2 rfl) ?_
              refine va_get (D := D) (ci := 5) (v := .ref (ad 3)) (fs := (xfMachine ad V478 L Z)) (C := RX5) (T := TX5) (N := 15) hx hb hg inX5 hown hK hP 5 xgMachine rfl 0 (by decide) (hg _ w667) (fun _ h9 => h9) rfl dX5_abandon_86 ?_
              refine lv_aload_n hx hb dX5_abandon_89 rfl (lv_at hl 3 rfl) ?_
              refine va_getN (D := D) (ci := 4) (v := .int (V478 72 gf)) (fs := (xfFrame V478 gf)) (C := RX4) (T := TX4) (N := 19) hx hb hg inX4 hown hK hP (336 + gf) (xgFrame hgf) rfl 5 (by decide) (hnw.use 1194 n1194 rfl) (fun _ h9 => h9) rfl dX5_abandon_90 ?_
              refine g_top (v := (V 72 gf)) (up2_o hV478 (by decide)) ?_
              have r877 : 0 ≤ ((V 72 gf)).toInt ∧ ((V 72 gf)).toInt ≤ 39 := hMV 72 gf
              refine lv_aload_n hx hb dX5_abandon_93 rfl (lv_at hl 3 rfl) ?_
              refine va_getN (D := D) (ci := 4) (v := .int (V478 71 gf)) (fs := (xfFrame V478 gf)) (C := RX4) (T := TX4) (N := 19) hx hb hg inX4 hown hK hP (336 + gf) (xgFrame hgf) rfl 4 (by decide) (hnw.use 1193 n1193 rfl) (fun _ h9 => h9) rfl dX5_abandon_94 ?_
              refine g_top (v := (V 71 gf)) (up2_o hV478 (by decide)) ?_
              refine gA_void (gA_runV (As := [.int (V 72 gf), .int (V 71 gf)]) (rest := []) (ci := 8) (q0 := 3) hx hb hml hown hg hP hD hK hS hA hnw hgk (x_spoil9 l D ks H.size ad kk V478 L Z (V 72 gf) (V 71 gf) hMV478 (by first | exact om_13ba01c174fe r877.1 r877.2 | first | omega | ((try (have i_bc := Imp.go bc (by omega))); (try (have i_rwq := Imp.go rwq (by omega))); (try (have i_mo := Imp.go mo (by omega))); (try (have i_mo := Imp.go mo (by omega))); (try (have i_rwq := Imp.go rwq (by omega))); (try (have i_bc := Imp.go bc (by omega))); omega)) (show 0 ≤ ((V 71 gf)).toInt from by first | exact om_50dfdfbb9dc6 kc714 | first | omega | ((try (have i_bc := Imp.go bc (by omega))); (try (have i_rwq := Imp.go rwq (by omega))); (try (have i_mo := Imp.go mo (by omega))); (try (have i_mo := Imp.go mo (by omega))); (try (have i_rwq := Imp.go rwq (by omega))); (try (have i_bc := Imp.go bc (by omega))); omega)) (show ((V 71 gf)).toInt ≤ 23 from by first | exact om_851a31618d2d r3.2 | first | omega | ((try (have i_bc := Imp.go bc (by omega))); (try (have i_rwq := Imp.go rwq (by omega))); (try (have i_mo := Imp.go mo (by omega))); (try (have i_mo := Imp.go mo (by omega))); (try (have i_rwq := Imp.go rwq (by omega))); (try (have i_bc := Imp.go bc (by omega))); omega))) w1340 w1341 w1342 w164 w1343 rfl xgStock hdV_yX8_spoil ⟨Nat.le_of_ble_eq_true rfl, Nat.le_of_ble_eq_true rfl⟩ rfl hl.1 rfl (Nat.le_of_ble_eq_true rfl) dX5_abandon_97 ⟨Nat.le_of_ble_eq_true rfl, Nat.le_of_ble_eq_true rfl⟩) hP hD hK hS hA (fun u879 H locs w880 hP hD hK hS => ?_)
              obtain ⟨V882, L883⟩ := u879
              obtain ⟨hMV882, ajV882, axL883, t881⟩ := w880
              have axL883 : L = L883 := Eq.symm axL883
              subst axL883
              have hP : va_P D vwCl (xw ad kk V882 L Z) H := hP
              have hD : va_D A (xw ad kk V882 L Z) := hD
              have hMV882 : rgd bX V882 := hMV882
              have ajV882 : agr [] [24] V478 V882 := ajV882
              have agV882 : agr [(5, 6)] [24, 25, 28] V V882 := agV478.tr ajV882 (by decide) (by decide)
              have t881 : (∀ j : Nat, j < 24 → (bt (V882 24 (Int32.toNatClampNeg (V 72 gf))) j = true ↔ (j = Int32.toNatClampNeg (V 71 gf) ∨ bt (V478 24 (Int32.toNatClampNeg (V 72 gf))) j = true))) ∧ ∀ x : Nat, x ≠ Int32.toNatClampNeg (V 72 gf) → V882 24 x = V478 24 x := t881
              refine lv_aload_n hx hb dX5_abandon_100 rfl (lv_at hl 2 rfl) ?_
              have pq884 : (V882 5 6).toInt = ((V 5 6)).toInt := congrArg Int32.toInt ((ajV882 5 6 rfl).trans (up2_o hV478 (by decide)))
              refine gA_void (gA_runV (As := []) (rest := []) (ci := 5) (q0 := 5) hx hb hml hown hg hP hD hK hS hA hnw hgk (x_leave9 l D ks H.size ad kk V882 L Z  hMV882 (show 1 ≤ (V882 5 6).toInt from by first | exact om_0cac171fa40c gd pq884 | first | omega | ((try (have i_bc := Imp.go bc (by omega))); (try (have i_rwq := Imp.go rwq (by omega))); (try (have i_mo := Imp.go mo (by omega))); (try (have i_mo := Imp.go mo (by omega))); (try (have i_rwq := Imp.go rwq (by omega))); (try (have i_bc := Imp.go bc (by omega))); omega))) w1308 w1310 w50 w171 w1311 rfl xgMachine hdV_yX5_leave ⟨Nat.le_of_ble_eq_true rfl, Nat.le_of_ble_eq_true rfl⟩ rfl hl.1 rfl (Nat.le_of_ble_eq_true rfl) dX5_abandon_101 ⟨Nat.le_of_ble_eq_true rfl, Nat.le_of_ble_eq_true rfl⟩) hP hD hK hS hA (fun u886 H locs w887 hP hD hK hS => ?_)
              obtain ⟨V890, L891⟩ := u886
              obtain ⟨hMV890, ajV890, axL891, t888, t889⟩ := w887
              have axL891 : L = L891 := Eq.symm axL891
              subst axL891
              have hP : va_P D vwCl (xw ad kk V890 L Z) H := hP
              have hD : va_D A (xw ad kk V890 L Z) := hD
              have hMV890 : rgd bX V890 := hMV890
              have ajV890 : agr [(5, 6)] [] V882 V890 := ajV890
              have agV890 : agr [(5, 6)] [24, 25, 28] V V890 := agV882.tr ajV890 (by decide) (by decide)
              have t888 : (V890 5 6).toInt = (V882 5 6).toInt - 1 := t888
              have t889 : ((True) ∧ V890 = (up2 V882 5 6 (V882 5 6 - 1))) := t889
              have r892 : 0 ≤ ((V890 5 6)).toInt ∧ ((V890 5 6)).toInt ≤ 400 := hMV890 5 6
              have hw893 := t889.2
              obtain ⟨z894, ez894⟩ : ∃ y : Int32, y = V882 5 6 - 1 := ⟨_, rfl⟩
              have hz894 : z894.toInt = (V882 5 6).toInt - 1 := i_sub ez894 rfl (by decide) (by first | exact om_1c0ddc14e6cd gd sl8 pq884 | first | omega | ((try (have i_bc := Imp.go bc (by omega))); (try (have i_rwq := Imp.go rwq (by omega))); (try (have i_mo := Imp.go mo (by omega))); (try (have i_mo := Imp.go mo (by omega))); (try (have i_rwq := Imp.go rwq (by omega))); (try (have i_bc := Imp.go bc (by omega))); omega))
              have hV890 : V890 = up2 V882 5 6 z894 := by rw [hw893, ez894]
              have me895 : ME V V890 gf := (ME.up (ME.tr (ME.up ME.rf hV478 (Or.inr (by omega))) (ME.ag ajV882 (by decide))) hV890 (Or.inr (by omega)))
              have pq896 : (V890 67 gf).toInt = ((V 67 gf)).toInt := congrArg Int32.toInt ((up2_o hV890 (by decide)).trans ((ajV882 67 gf rfl).trans (up2_o hV478 (by decide))))
              have pq897 : (V890 68 gf).toInt = ((V 68 gf)).toInt := congrArg Int32.toInt ((up2_o hV890 (by decide)).trans ((ajV882 68 gf rfl).trans (up2_o hV478 (by decide))))
              have pq898 : (V890 70 gf).toInt = ((V 70 gf)).toInt := congrArg Int32.toInt ((up2_o hV890 (by decide)).trans ((ajV882 70 gf rfl).trans (up2_o hV478 (by decide))))
              have pq899 : (V890 71 gf).toInt = ((V 71 gf)).toInt := congrArg Int32.toInt ((up2_o hV890 (by decide)).trans ((ajV882 71 gf rfl).trans (up2_o hV478 (by decide))))
              have pq900 : (V890 75 gf).toInt = ((V 75 gf)).toInt := congrArg Int32.toInt ((up2_o hV890 (by decide)).trans ((ajV882 75 gf rfl).trans (up2_o hV478 (by decide))))
              have pq901 : (V890 76 gf).toInt = ((V 76 gf)).toInt := congrArg Int32.toInt ((up2_o hV890 (by decide)).trans ((ajV882 76 gf rfl).trans (up2_o hV478 (by decide))))
              have pq902 : (V890 80 gf).toInt = ((V 80 gf)).toInt := congrArg Int32.toInt ((up2_o hV890 (by decide)).trans ((ajV882 80 gf rfl).trans (up2_o hV478 (by decide))))
              have pq903 : (V890 84 gf).toInt = ((V 84 gf)).toInt := congrArg Int32.toInt ((up2_o hV890 (by decide)).trans ((ajV882 84 gf rfl).trans (up2_o hV478 (by decide))))
              have pq904 : (V890 5 6).toInt = z894.toInt := congrArg Int32.toInt (up2_s hV890)
              have pq905 : (V890 5 8).toInt = ((V 5 8)).toInt := congrArg Int32.toInt ((up2_k hV890 (by decide)).trans ((ajV882 5 8 rfl).trans (up2_o hV478 (by decide))))
              have pq906 : (V890 5 9).toInt = ((V 5 9)).toInt := congrArg Int32.toInt ((up2_k hV890 (by decide)).trans ((ajV882 5 9 rfl).trans (up2_o hV478 (by decide))))
              have pq907 : (V890 3 13).toInt = ((V 3 13)).toInt := congrArg Int32.toInt ((up2_o hV890 (by decide)).trans ((ajV882 3 13 rfl).trans (up2_o hV478 (by decide))))
              have pq908 : (V890 43 (5 * b + 2)).toInt = ((V 43 (5 * b + 2))).toInt := congrArg Int32.toInt ((up2_o hV890 (by decide)).trans ((ajV882 43 (5 * b + 2) rfl).trans (up2_o hV478 (by decide))))
              have pq909 : (V890 42 b).toInt = ((V 42 b)).toInt := congrArg Int32.toInt ((up2_o hV890 (by decide)).trans ((ajV882 42 b rfl).trans (up2_o hV478 (by decide))))
              have pq910 : (V890 41 b).toInt = ((V 41 b)).toInt := congrArg Int32.toInt ((up2_o hV890 (by decide)).trans ((ajV882 41 b rfl).trans (up2_o hV478 (by decide))))
              have rp911 : MJ V890 Z b := MP.lv (MO.mp mo) me895 (by (first | exact om_dca0de52e899 gd pq884 hz894 pq904 | omega)) (fun _ => Or.inl (by omega))
              have dx9 : (Int32.toNatClampNeg (V 70 gf)) = o.toNat := by have h9 := i_clamp (x := (V 70 gf)) rfl (by omega); (first | exact om_890eb046e93a ko9 | omega)
              have do9 : ((o.toNat : Nat) : Int) < gm 0 2 := by omega
              have db9 := (rn).2.1 _ do9
              have ds9 : 24 * Int32.toNatClampNeg (V 27 (Int32.toNatClampNeg (V 70 gf))) + Int32.toNatClampNeg (V 26 (Int32.toNatClampNeg (V 70 gf))) = 24 * (gm 2 o.toNat).toNat + (gm 1 o.toNat).toNat := by rw [dx9]; have h1 := db9.1.1; have h2 := db9.1.2.1; have h3 := i_clamp (x := V 27 o.toNat) rfl (by omega); have h4 := i_clamp (x := V 26 o.toNat) rfl (by omega); omega
              have rn913 : RWn V478 ow gB (mU gm 3 o.toNat 2) := RWn.drop rn do9 (fun x9 hx9 => up2_k hV478 (by rw [dx9]; exact hx9)) (by rw [← dx9, up2_s hV478]; decide) (fun k9 _ => up2_o hV478 (by decide)) (by rw [← ds9, up2_o hV478 (by decide), if_neg (by rw [← dx9]; have h9 := i_clamp (x := (V 70 gf)) rfl (by omega); omega)]) (fun c9 k9 h1 h2 h3 => (show V478 c9 k9 = V c9 k9 from by rw [hV478]; exact up2_pl (by omega)))
              have s51 : (V 51 (24 * b + Int32.toNatClampNeg (V 71 gf))).toInt = ((bS gB c.toNat : Nat) : Int) := by rw [kc9]; exact BKc.sc bc cn9
              have rh2 : gm 0 6 = 2 → (V 5 11).toInt = gm 0 8 ∧ (V 5 12).toInt = gm 0 9 := rh.2.2.1
              have so9 := t881
              rw [kp9, kc9] at so9
              have n249 := bc.2.2.2.1.2.1
              have rs9 : RWn V882 ow gB (mU (mU gm 3 o.toNat 2) 8 (24 * pl.toNat + c.toNat) 1) := RWn.spoil rn913 (show ((pl.toNat : Nat) : Int) < (V478 3 12).toInt from by rw [(up2_o hV478 (by decide))]; omega) (by (first | exact om_0d80a9462261 r3.2 kc9 kc714 | omega)) so9.1 so9.2 (fun a9 j9 h1 h2 => agr_24 ajV882 h2)
              have rn5 : RWn V890 ow gB (mU (mU gm 3 o.toNat 2) 8 (24 * pl.toNat + c.toNat) 1) := RWn.es rs9 (ESw.ag (show agr [(5, 6)] [] V882 V890 from (agr.up agr.rf hV890 rfl)) (by decide))
              have me914 : ME V V890 gf := (ME.up (ME.tr (ME.up ME.rf hV478 (Or.inr (by omega))) (ME.ag ajV882 (by decide))) hV890 (Or.inr (by omega)))
              have rl915 : RWl V890 gB gr t0 := RWl.mv hlr (fun i9 hi9 c9 h1 h2 => me914.2.1 c9 i9 h1 h2 (by omega)) (fun j9 hj9 => ((up2_o hV890 (by decide)).trans ((ajV882 39 j9 rfl).trans (up2_o hV478 (by decide))))) (by rw [((up2_o hV890 (by decide)).trans ((ajV882 3 13 rfl).trans (up2_o hV478 (by decide))))]; exact Int.le_refl _) ((up2_o hV890 (by decide)).trans ((ajV882 3 12 rfl).trans (up2_o hV478 (by decide))))
              have pq916 : (V890 5 7).toInt = ((V 5 7)).toInt := congrArg Int32.toInt ((up2_k hV890 (by decide)).trans ((ajV882 5 7 rfl).trans (up2_o hV478 (by decide))))
              have r917 : 0 ≤ ((V 5 7)).toInt ∧ ((V 5 7)).toInt ≤ 2048 := hMV 5 7
              have pq918 : (V890 5 11).toInt = ((V 5 11)).toInt := congrArg Int32.toInt ((up2_k hV890 (by decide)).trans ((ajV882 5 11 rfl).trans (up2_o hV478 (by decide))))
              have pq919 : (V890 5 12).toInt = ((V 5 12)).toInt := congrArg Int32.toInt ((up2_k hV890 (by decide)).trans ((ajV882 5 12 rfl).trans (up2_o hV478 (by decide))))
              have rz9 : RW V890 gB ((mU (mU gm 3 o.toNat 2) 8 (24 * pl.toNat + c.toNat) 1), ga, gr) := RW.fin rwq rn5 (by rw [mU_o _ _ (by omega), mU_o _ _ (by omega)]) (fun i9 => by rw [mU_o _ _ (by omega), mU_o _ _ (by omega)]) ((up2_k hV890 (by decide)).trans ((ajV882 5 8 rfl).trans (up2_o hV478 (by decide)))) (fun i9 => ((up2_o hV890 (by decide)).trans ((ajV882 40 i9 rfl).trans (up2_o hV478 (by decide))))) (by rw [mU_o _ _ (by omega), mU_o _ _ (by omega)]; omega) (fun h9 => by rw [mU_o _ _ (by omega), mU_o _ _ (by omega)] at h9; exfalso; omega) (fun h9 => by rw [mU_o _ _ (by omega), mU_o _ _ (by omega)] at h9; rw [mU_o _ _ (by omega), mU_o _ _ (by omega), mU_o _ _ (by omega), mU_o _ _ (by omega)]; have h8 := rh2 h9; exact ⟨by omega, by omega⟩) (show (V890 5 6).toInt = ((gr.length : Nat) : Int) from by (first | exact om_f00ff43a6068 rd2 pq884 hz894 pq904 | omega)) (show (V890 5 7).toInt = ((t0 : Nat) : Int) from by rw [((up2_k hV890 (by decide)).trans ((ajV882 5 7 rfl).trans (up2_o hV478 (by decide)))), rt9, tz9]) rl915
              have rx912 : RW V890 gB (mAb gB gm (V 70 gf).toInt (V 71 gf).toInt (V 72 gf).toInt, ga, gr) := by rw [q70, q71, q72, ab_y (show gm 0 6 = 2 from by (first | exact om_96d4fa0da761 sg7.1 rh1 f836 | omega)) (by omega) (by have h9 := rh2 (by omega); have h8 := PAS.n xJ709_0 (by omega); exact ⟨fun h7 => h8.1 (h9.2.trans h7), fun h7 => h8.2.1 (h9.2.trans h7), fun h7 => h8.2.2 (h9.2.trans h7)⟩)]; exact rz9
              exact W.vret hx hb hr (fun t ht hW => ⟨⟨(V890, L), rfl, ⟨hMV890, agV890, rfl, rp911, rx912⟩, by rw [ht]; exact hP, va_K.moved hW.alike hK, hD⟩, hS.F ht⟩) hS.2.2 dX5_abandon_104
      refine lv_icmp_eq (tgt := 38) hx hb dX5_abandon_17 (by decide) (fun c920 => ?_) (fun c920 => ?_)
      · skip
        have f921 : ((V 5 12)).toInt = 12 := b_eq rfl (by decide) c920
        refine lv_iconst (v := 1) hx hb dX5_abandon_38 (by decide) ?_
        refine lv_goto (tgt := 43) hx hb dX5_abandon_39 (by decide) ?_
        have r922 : Int32.toInt 1 = 1 := by decide
        exact J709 1 H locs ls (by decide) (show PAS (Int32.toInt 1) (V 5 12).toInt from Or.inl ⟨by decide, by omega⟩) hP hD hS (lv_sub hl [0, 1] rfl)
      · skip
        have f923 : ((V 5 12)).toInt ≠ 12 := b_neq rfl (by decide) c920
        refine lv_aload_n hx hb dX5_abandon_20 rfl (lv_at hl 0 rfl) ?_
        refine va_get (D := D) (ci := 5) (v := .int (V478 5 12)) (fs := (xfMachine ad V478 L Z)) (C := RX5) (T := TX5) (N := 15) hx hb hg inX5 hown hK hP 5 xgMachine rfl 12 (by decide) (hg _ w679) (fun _ h9 => h9) rfl dX5_abandon_21 ?_
        refine g_top (v := (V 5 12)) (up2_o hV478 (by decide)) ?_
        refine lv_bipush (v := 13) hx hb dX5_abandon_24 (by decide) ?_
        refine lv_icmp_eq (tgt := 38) hx hb dX5_abandon_26 (by decide) (fun c924 => ?_) (fun c924 => ?_)
        · skip
          have f925 : ((V 5 12)).toInt = 13 := b_eq rfl (by decide) c924
          refine lv_iconst (v := 1) hx hb dX5_abandon_38 (by decide) ?_
          refine lv_goto (tgt := 43) hx hb dX5_abandon_39 (by decide) ?_
          have r926 : Int32.toInt 1 = 1 := by decide
          exact J709 1 H locs ls (by decide) (show PAS (Int32.toInt 1) (V 5 12).toInt from Or.inl ⟨by decide, by omega⟩) hP hD hS (lv_sub hl [0, 1] rfl)
        · skip
          have f927 : ((V 5 12)).toInt ≠ 13 := b_neq rfl (by decide) c924
          refine lv_aload_n hx hb dX5_abandon_29 rfl (lv_at hl 0 rfl) ?_
          refine va_get (D := D) (ci := 5) (v := .int (V478 5 12)) (fs := (xfMachine ad V478 L Z)) (C := RX5) (T := TX5) (N := 15) hx hb hg inX5 hown hK hP 5 xgMachine rfl 12 (by decide) (hg _ w679) (fun _ h9 => h9) rfl dX5_abandon_30 ?_
          refine g_top (v := (V 5 12)) (up2_o hV478 (by decide)) ?_
          refine lv_bipush (v := 16) hx hb dX5_abandon_33 (by decide) ?_
          refine lv_icmp_ne (tgt := 42) hx hb dX5_abandon_35 (by decide) (fun c928 => ?_) (fun c928 => ?_)
          · skip
            have f929 : ((V 5 12)).toInt ≠ 16 := b_neq rfl (by decide) c928
            refine lv_iconst (v := 0) hx hb dX5_abandon_42 (by decide) ?_
            have r930 : Int32.toInt 0 = 0 := by decide
            exact J709 0 H locs ls (by decide) (show PAS (Int32.toInt 0) (V 5 12).toInt from Or.inr ⟨by decide, by omega, by omega, by omega⟩) hP hD hS (lv_sub hl [0, 1] rfl)
          · skip
            have f931 : ((V 5 12)).toInt = 16 := b_eq rfl (by decide) c928
            refine lv_iconst (v := 1) hx hb dX5_abandon_38 (by decide) ?_
            refine lv_goto (tgt := 43) hx hb dX5_abandon_39 (by decide) ?_
            have r932 : Int32.toInt 1 = 1 := by decide
            exact J709 1 H locs ls (by decide) (show PAS (Int32.toInt 1) (V 5 12).toInt from Or.inl ⟨by decide, by omega⟩) hP hD hS (lv_sub hl [0, 1] rfl)
