/-! how many values there are -/
theorem RWl.tot {V : Vf} {B : Bk} : ∀ {fs : List Fr} {t : Nat}, RWl V B fs t → t = totP fs
  | [], _, h => h
  | f :: r, t, h => by
    obtain ⟨t0, h1, _, _, _, h5⟩ := h
    have z := RWl.tot h5
    unfold totP at z ⊢
    rw [List.map_cons, List.sum_cons]
    omega
def lateJ (B : Bk) (m : Mm) (a : Int32) (o nd : Nat) : Mm := if bS B (m 1 a.toInt.toNat).toNat = 3 ∧ jnd m o nd 0 = none then mJoin m o nd a.toInt else m


abbrev r_x_componentOf9b : Room := { frames := 1, cells := 0, slots := 0, locals := 21 }
abbrev q_x_componentOf9b (D : va_G) (ks : KS) (ad : Nat → Nat) (kk : Nat → ClassId) (V : Vf) (L : Lf) (Z : XZ) (p0 : Int32) (A : Nat → Prop) : Array Value → State → Outcome → State → Prop := va_Qi (fun (r : Int32) (_ : Unit) => (0 ≤ r.toInt ∧ r.toInt ≤ 23) ∧ (∀ n : Int, 0 < n → (∀ o : Nat, (o : Int) < (V 3 13).toInt → (V 26 o).toInt < n) → r.toInt < n) ∧ (∀ o : Nat, p0.toInt = (o : Int) → (o : Int) < (V 3 13).toInt → r = V 26 o) ∧ ((0 ≤ p0.toInt ∧ p0.toInt < (V 3 13).toInt ∧ r.toInt = (V 26 (Int32.toNatClampNeg p0)).toInt) ∨ ((p0.toInt < 0 ∨ (V 3 13).toInt ≤ p0.toInt) ∧ r.toInt = 0))) (fun _ t => gq D A (xw ad kk V L Z) (xty kk Z) t) A
set_option maxHeartbeats 4000000 in
set_option maxRecDepth 100000 in
theorem x_componentOf9b (l : Launch) (D : va_G) (ks : KS) (sz : Nat) (ad : Nat → Nat) (kk : Nat → ClassId) (V : Vf) (L : Lf) (Z : XZ) (p0 : Int32) (hMV : rgd bX V)  : Met l yX8_componentOf (Cond.code yX8_componentOf cX8_componentOf 2 (some .int) :: GW) r_x_componentOf9b (va_Pc [.ref (ad 3), .int p0] (gp D ks (xw ad kk V L Z) (xty kk Z) sz)) (q_x_componentOf9b D ks ad kk V L Z p0 (va_A (xw ad kk V L Z) sz)) 0 0 (va_A (xw ad kk V L Z) sz) := by
  refine g_met (q_x_componentOf9b D ks ad kk V L Z p0) (by decide) (Nat.le_of_ble_eq_true rfl) ?_
  intro p e s m below meth c A ls H locs hx hb hr hml hown hg hlocks hin hnw hgk hP hK hD hS hA hl
  have hown : s.vm.findClass RX8 = some m.cls := hown
  have hl : lv_has ls 2 [(0, .ref (ad 3)), (1, .int p0)] := hl
  have hP : va_P D vwCl (xw ad kk V L Z) H := hP
  have hD : va_D A (xw ad kk V L Z) := hD
  have hK : va_K D vwCl (xty kk Z) s := hK
  refine lv_aload_n hx hb dX8_componentOf_0 rfl (lv_at hl 0 rfl) ?_
  refine lv_iload_n hx hb dX8_componentOf_1 rfl (lv_at hl 1 rfl) ?_
  refine gA_int (gA_runV (As := [.int p0]) (rest := []) (ci := 8) (q0 := 3) hx hb hml hown hg hP hD hK hS hA hnw hgk (x_has2 l D ks H.size ad kk V L Z p0 hMV ) w1300 w1301 w1302 w164 w1303 rfl xgStock hdV_yX8_has ⟨Nat.le_of_ble_eq_true rfl, Nat.le_of_ble_eq_true rfl⟩ rfl hl.1 rfl (Nat.le_of_ble_eq_true rfl) dX8_componentOf_2 ⟨Nat.le_of_ble_eq_true rfl, Nat.le_of_ble_eq_true rfl⟩) hP hD hK hS hA (fun z1 u2 H locs w3 hP hD hK hS => ?_)
  obtain ⟨rgz1, t4, t5⟩ := w3
  have rgz1 : 0 ≤ z1.toInt ∧ z1.toInt ≤ 1 := rgz1
  have t4 : Imp (z1.toInt = 1) (0 ≤ p0.toInt ∧ p0.toInt < (V 3 13).toInt) := t4
  have t5 : Imp (z1.toInt = 0) (p0.toInt < 0 ∨ (V 3 13).toInt ≤ p0.toInt) := t5
  have r6 : 0 ≤ ((V 3 13)).toInt ∧ ((V 3 13)).toInt ≤ 300 := hMV 3 13
  refine lv_if_eq (tgt := 17) hx hb dX8_componentOf_5 (by decide) (fun c7 => ?_) (fun c7 => ?_)
  · skip
    have f8 : z1.toInt = 0 := b_eq rfl (by decide) c7
    refine lv_iconst (v := 0) hx hb dX8_componentOf_17 (by decide) ?_
    have r9 : 0 ≤ ((V 26 (Int32.toNatClampNeg p0))).toInt ∧ ((V 26 (Int32.toNatClampNeg p0))).toInt ≤ 23 := hMV 26 (Int32.toNatClampNeg p0)
    exact W.iret (v := 0) hx hb hr (fun t ht hW => ⟨⟨0, (), rfl, ⟨(by decide), (fun n h0 _ => h0), (fun o h1 h2 => absurd h2 (by first | omega | ((try (have i_t5 := Imp.go t5 (by omega))); (try (have i_t4 := Imp.go t4 (by omega))); (try (have i_t4 := Imp.go t4 (by omega))); (try (have i_t5 := Imp.go t5 (by omega))); omega))), (show (0 ≤ p0.toInt ∧ p0.toInt < (V 3 13).toInt ∧ 0 = (V 26 (Int32.toNatClampNeg p0)).toInt) ∨ ((p0.toInt < 0 ∨ (V 3 13).toInt ≤ p0.toInt) ∧ 0 = 0) from by first | omega | ((try (have i_t5 := Imp.go t5 (by omega))); (try (have i_t4 := Imp.go t4 (by omega))); (try (have i_t4 := Imp.go t4 (by omega))); (try (have i_t5 := Imp.go t5 (by omega))); omega))⟩, by rw [ht]; exact hP, va_K.moved hW.alike hK, hD⟩, hS.F ht⟩) hS.2.2 dX8_componentOf_18
  · skip
    have f10 : z1.toInt ≠ 0 := b_neq rfl (by decide) c7
    refine lv_aload_n hx hb dX8_componentOf_8 rfl (lv_at hl 0 rfl) ?_
    refine va_get (D := D) (ci := 8) (v := .ref (ad 23)) (fs := (xfStock ad V L Z)) (C := RX8) (T := TX8) (N := 16) hx hb hg inX8 hown hK hP 3 xgStock rfl 5 (by decide) (hg _ w379) (fun _ h9 => h9) rfl dX8_componentOf_9 ?_
    refine lv_iload_n hx hb dX8_componentOf_12 rfl (lv_at hl 1 rfl) ?_
    refine va_iald (D := D) (i := p0) hx hb hK hP 23 16 rfl rfl (i_in (a := p0.toInt) rfl (by first | exact om_e23680f16df4 r6.2 ((Imp.go t4 (imp_a (rgz1.1) (rgz1.2) (f10))).1) ((Imp.go t4 (imp_a (rgz1.1) (rgz1.2) (f10))).2) | first | omega | ((try (have i_t5 := Imp.go t5 (by omega))); (try (have i_t4 := Imp.go t4 (by omega))); (try (have i_t4 := Imp.go t4 (by omega))); (try (have i_t5 := Imp.go t5 (by omega))); omega))) dX8_componentOf_13 ?_
    have r11 : 0 ≤ ((V 26 (Int32.toNatClampNeg p0))).toInt ∧ ((V 26 (Int32.toNatClampNeg p0))).toInt ≤ 23 := hMV 26 (Int32.toNatClampNeg p0)
    refine lv_goto (tgt := 18) hx hb dX8_componentOf_14 (by decide) ?_
    have kcp := i_clamp (x := p0) rfl (by first | exact om_eafa9039069c ((Imp.go t4 (imp_a (rgz1.1) (rgz1.2) (f10))).1) | first | omega | ((try (have i_t5 := Imp.go t5 (by omega))); (try (have i_t4 := Imp.go t4 (by omega))); (try (have i_t4 := Imp.go t4 (by omega))); (try (have i_t5 := Imp.go t5 (by omega))); omega))
    have kcp := i_clamp (x := p0) rfl (by first | exact om_eafa9039069c ((Imp.go t4 (imp_a (rgz1.1) (rgz1.2) (f10))).1) | first | omega | ((try (have i_t5 := Imp.go t5 (by omega))); (try (have i_t4 := Imp.go t4 (by omega))); (try (have i_t4 := Imp.go t4 (by omega))); (try (have i_t5 := Imp.go t5 (by omega))); omega))
    have rp12 : ∀ o : Nat, p0.toInt = (o : Int) → (o : Int) < (V 3 13).toInt → (V 26 (Int32.toNatClampNeg p0)) = V 26 o := fun o h1 h2 => congrArg (V 26) (by omega)
    exact W.iret (v := (V 26 (Int32.toNatClampNeg p0))) hx hb hr (fun t ht hW => ⟨⟨(V 26 (Int32.toNatClampNeg p0)), (), rfl, ⟨(show 0 ≤ ((V 26 (Int32.toNatClampNeg p0))).toInt ∧ ((V 26 (Int32.toNatClampNeg p0))).toInt ≤ 23 from by first | exact om_d3435e1acec6 r11.1 r11.2 | first | omega | ((try (have i_t5 := Imp.go t5 (by omega))); (try (have i_t4 := Imp.go t4 (by omega))); (try (have i_t4 := Imp.go t4 (by omega))); (try (have i_t5 := Imp.go t5 (by omega))); omega)), (fun n _ hh => hh _ (by first | omega | ((try (have i_t5 := Imp.go t5 (by omega))); (try (have i_t4 := Imp.go t4 (by omega))); (try (have i_t4 := Imp.go t4 (by omega))); (try (have i_t5 := Imp.go t5 (by omega))); omega))), rp12, (show (0 ≤ p0.toInt ∧ p0.toInt < (V 3 13).toInt ∧ ((V 26 (Int32.toNatClampNeg p0))).toInt = (V 26 (Int32.toNatClampNeg p0)).toInt) ∨ ((p0.toInt < 0 ∨ (V 3 13).toInt ≤ p0.toInt) ∧ ((V 26 (Int32.toNatClampNeg p0))).toInt = 0) from by first | omega | ((try (have i_t5 := Imp.go t5 (by omega))); (try (have i_t4 := Imp.go t4 (by omega))); (try (have i_t4 := Imp.go t4 (by omega))); (try (have i_t5 := Imp.go t5 (by omega))); omega))⟩, by rw [ht]; exact hP, va_K.moved hW.alike hK, hD⟩, hS.F ht⟩) hS.2.2 dX8_componentOf_18
abbrev r_x_joinLate9 (Z : XZ) : Room := { frames := 3, cells := zcc Z, slots := zss Z, locals := 87 }
abbrev q_x_joinLate9 (D : va_G) (ks : KS) (ad : Nat → Nat) (kk : Nat → ClassId) (V : Vf) (L : Lf) (Z : XZ) (p1 : Int32) (b : Nat) (gf : Nat) (gB : Bk) (gm : Mm) (ga : Int32) (gfr : Fr) (gr : List Fr) (A : Nat → Prop) : Array Value → State → Outcome → State → Prop := qZv D (fun (u : Vf × Lf × XZ) => rgd bX u.1 ∧ agr [(3, 15)] [30, 31, 32] V u.1 ∧ u.2.1 = L ∧ ZL Z u.2.2 ∧ (MO u.1 u.2.2 b gf True False True) ∧ (RW u.1 gB (lateJ gB gm ga (V 70 gf).toInt.toNat (V 75 gf).toInt.toNat, ga, gfr :: gr))) (fun u => xw ad kk u.1 u.2.1 u.2.2) (fun u => xty kk u.2.2) (fun u => zcc Z - zcc u.2.2) (fun u => zss Z - zss u.2.2) A
set_option maxHeartbeats 4000000 in
set_option maxRecDepth 100000 in
theorem x_joinLate9 (l : Launch) (D : va_G) (ks : KS) (sz : Nat) (ad : Nat → Nat) (kk : Nat → ClassId) (V : Vf) (L : Lf) (Z : XZ) (p1 : Int32) (b : Nat) (gf : Nat) (gB : Bk) (gm : Mm) (ga : Int32) (gfr : Fr) (gr : List Fr) (hMV : rgd bX V) (hb2 : b < 2) (hgf : gf < Z.nf) (mo : MO V Z b gf True (¬ NN V b) True) (gd : (gf : Int) + 1 = (V 5 6).toInt) (gk : (V 67 gf).toInt = 4) (gph : (V 68 gf).toInt = 7) (hgt : p1.toInt = (V 5 10).toInt) (rwq : RW V gB (gm, ga, gfr :: gr)) (bc : BKc V b gB) (sl8 : (V 5 6).toInt ≤ 395) (a10 : p1 = ga) (ar0 : 0 ≤ ga.toInt ∧ ga.toInt < gm 0 2) (nd8 : (V 75 gf).toInt ≤ 7) (jnn : ∀ j : Nat, 0 ≤ gm 7 j)  : Met l yX5_joinLate (Cond.code yX5_joinLate cX5_joinLate 4 none :: GW) (r_x_joinLate9 Z) (va_Pc [.ref (ad 5), .ref (Z.fa gf), .int p1] (gp D ks (xw ad kk V L Z) (xty kk Z) sz)) (q_x_joinLate9 D ks ad kk V L Z p1 b gf gB gm ga gfr gr (va_A (xw ad kk V L Z) sz)) (zcc Z) (zss Z) (va_A (xw ad kk V L Z) sz) := by
  refine g_met (q_x_joinLate9 D ks ad kk V L Z p1 b gf gB gm ga gfr gr) (by decide) (Nat.le_of_ble_eq_true rfl) ?_
  intro p e s m below meth c A ls H locs hx hb hr hml hown hg hlocks hin hnw hgk hP hK hD hS hA hl
  have hown : s.vm.findClass RX5 = some m.cls := hown
  have hl : lv_has ls 4 [(0, .ref (ad 5)), (1, .ref (Z.fa gf)), (2, .int p1)] := hl
  have hP : va_P D vwCl (xw ad kk V L Z) H := hP
  have hD : va_D A (xw ad kk V L Z) := hD
  have hK : va_K D vwCl (xty kk Z) s := hK
  have agV : agr [(3, 15)] [30, 31, 32] V V := agr.rf
  have zoZ : ZL Z Z := ZL.rf
  refine W.know (fun ka kb => ?_)
  refine W.tight (k := zcc Z - zcc Z) (n := zss Z - zss Z) (by omega) (by omega) ?_
  have r1 : 0 ≤ ((V 5 6)).toInt ∧ ((V 5 6)).toInt ≤ 400 := hMV 5 6
  have kdp := i_clamp (x := V 5 6) rfl (by (first | exact om_c66f1b494bd9 gd | omega))
  have hdn : (gf : Int) + 1 ≤ (Z.nf : Int) := by (first | exact om_29efded833ec hgf | omega)
  have mup := MO.up mo
  have msz := mup.1
  have mbk := mup.2.2.2.1
  obtain ⟨xk, fk⟩ := MO.fk mo
  have r2 : (-1) ≤ ((V 71 gf)).toInt ∧ ((V 71 gf)).toInt ≤ 23 := hMV 71 gf
  have r3 : 0 ≤ ((V 75 gf)).toInt ∧ ((V 75 gf)).toInt ≤ 12 := hMV 75 gf
  have r4 : 0 ≤ ((V 80 gf)).toInt ∧ ((V 80 gf)).toInt ≤ 300 := hMV 80 gf
  have r5 : 0 ≤ ((V 84 gf)).toInt ∧ ((V 84 gf)).toInt ≤ 2147483647 := hMV 84 gf
  have r6 : 0 ≤ ((V 5 8)).toInt ∧ ((V 5 8)).toInt ≤ 300 := hMV 5 8
  have r7 : 0 ≤ ((V 5 9)).toInt ∧ ((V 5 9)).toInt ≤ 3 := hMV 5 9
  have r8 : 0 ≤ ((V 3 13)).toInt ∧ ((V 3 13)).toInt ≤ 300 := hMV 3 13
  have r9 : 0 ≤ ((V 43 (5 * b + 2))).toInt ∧ ((V 43 (5 * b + 2))).toInt ≤ ((xcap (5 * b + 2) : Nat) : Int) := hMV 43 (5 * b + 2)
  have r10 : xcap (5 * b + 2) = 24 := xcap_2
  have r11 : 0 ≤ ((V 41 b)).toInt ∧ ((V 41 b)).toInt ≤ 12 := hMV 41 b
  have r12 : 0 ≤ ((V 42 b)).toInt ∧ ((V 42 b)).toInt ≤ 8200 := hMV 42 b
  have fc := fk.1 (by omega)
  have fo := fk.2.1 (by omega) (by omega)
  have ft := fk.2.2.1 (by omega)
  have fq := fk.2.2.2.1 (by omega)
  have mlc := mup.2.2.2.2.2.2.2.2.1
  have fq7 := fq (by omega)
  have m1 : Int32.toInt (-1) = -1 := by decide
  have rw0 := rwq
  obtain ⟨⟨ow, rn⟩, rh, rd, tw9, rt9, rl⟩ := rw0
  have rn : RWn V ow gB gm := rn
  have rh : RWh V gm ga := rh
  have rd2 : (V 5 6).toInt = ((gr.length + 1 : Nat) : Int) := rd
  have gl9 : gr.length = gf := by (first | exact om_ec03263ced6a gd rd2 | omega)
  have sl9 : gr.length ≤ 394 := by (first | exact om_8b199089418a sl8 rd2 | omega)
  have rh1 : (V 5 9).toInt = gm 0 6 := rh.1
  have ra2 : (V 3 13).toInt = gm 0 2 := rn.1.1.2.2.1
  have rl0 := rl
  obtain ⟨t0, tl9, hf0, hbs9, hpl9, hlr⟩ := rl0
  rw [gl9] at hf0 hbs9
  rcases FRc.k4 hf0 gk with ⟨lv, o, c, sc, me, ps, at9, v, p, hfe⟩ | ⟨lv, o, c, sc, me, ps, at9, v, p, hfe⟩ | ⟨lv, o, c, sc, at9, nd, tg, v, g, p, hfe⟩ | ⟨lv, o, c, sc, at9, nd, tg, v, g, p, hfe⟩ | ⟨lv, o, c, sc, at9, nd, tg, it, v, g, u, p, hfe⟩
  · skip
    have hf : FRc V gB gf (Fwork lv o c sc me ps at9 v p) := by rw [← hfe]; exact hf0
    have tl8 : tw9 = t0 + (Fwork lv o c sc me ps at9 v p : Fr).2.2.2.length := by rw [← hfe]; exact tl9
    obtain ⟨⟨k67, k68⟩, hoc, hps9, ⟨a0, q84⟩, q74⟩ := hf
    obtain ⟨q69, ⟨q70, o0, o1⟩, ⟨q71, c0, c1⟩, ⟨q72, s0, s1⟩⟩ := hoc
    have cn9 : c.toNat < nC gB := by omega
    have kc9 : Int32.toNatClampNeg (V 71 gf) = c.toNat := by have h9 := i_clamp (x := V 71 gf) rfl (by omega); omega
    have ko9 : Int32.toNatClampNeg (V 70 gf) = o.toNat := by have h9 := i_clamp (x := V 70 gf) rfl (by omega); omega
    have tl7 : tw9 = t0 + p.length := tl8
    have hb8 : (V 85 gf).toInt = (t0 : Int) := hbs9 (by rw [hfe]; exact (by decide : (12 : Nat) ≤ 12)) (by rw [hfe]; exact (by decide : (12 : Nat) ≤ 16))
    have hp8 : plC V tw9 p := by have h9 := hpl9; rw [hfe] at h9; exact h9
    exfalso; omega
  · skip
    have hf : FRc V gB gf (Fwait lv o c sc me ps at9 v p) := by rw [← hfe]; exact hf0
    have tl8 : tw9 = t0 + (Fwait lv o c sc me ps at9 v p : Fr).2.2.2.length := by rw [← hfe]; exact tl9
    obtain ⟨⟨k67, k68⟩, hoc, hps9, ⟨a0, q84⟩, q74⟩ := hf
    obtain ⟨q69, ⟨q70, o0, o1⟩, ⟨q71, c0, c1⟩, ⟨q72, s0, s1⟩⟩ := hoc
    have cn9 : c.toNat < nC gB := by omega
    have kc9 : Int32.toNatClampNeg (V 71 gf) = c.toNat := by have h9 := i_clamp (x := V 71 gf) rfl (by omega); omega
    have ko9 : Int32.toNatClampNeg (V 70 gf) = o.toNat := by have h9 := i_clamp (x := V 70 gf) rfl (by omega); omega
    have tl7 : tw9 = t0 + p.length := tl8
    have hb8 : (V 85 gf).toInt = (t0 : Int) := hbs9 (by rw [hfe]; exact (by decide : (12 : Nat) ≤ 13)) (by rw [hfe]; exact (by decide : (13 : Nat) ≤ 16))
    have hp8 : plC V tw9 p := by have h9 := hpl9; rw [hfe] at h9; exact h9
    exfalso; omega
  · skip
    have hf : FRc V gB gf (Fask lv o c sc at9 nd tg v g p) := by rw [← hfe]; exact hf0
    have tl8 : tw9 = t0 + (Fask lv o c sc at9 nd tg v g p : Fr).2.2.2.length := by rw [← hfe]; exact tl9
    obtain ⟨⟨k67, k68⟩, hoc, ⟨a0, q84⟩, q75, q77, q74, q78⟩ := hf
    obtain ⟨q69, ⟨q70, o0, o1⟩, ⟨q71, c0, c1⟩, ⟨q72, s0, s1⟩⟩ := hoc
    have cn9 : c.toNat < nC gB := by omega
    have kc9 : Int32.toNatClampNeg (V 71 gf) = c.toNat := by have h9 := i_clamp (x := V 71 gf) rfl (by omega); omega
    have ko9 : Int32.toNatClampNeg (V 70 gf) = o.toNat := by have h9 := i_clamp (x := V 70 gf) rfl (by omega); omega
    have tl7 : tw9 = t0 + p.length := tl8
    have hb8 : (V 85 gf).toInt = (t0 : Int) := hbs9 (by rw [hfe]; exact (by decide : (12 : Nat) ≤ 14)) (by rw [hfe]; exact (by decide : (14 : Nat) ≤ 16))
    have hp8 : plC V tw9 p := by have h9 := hpl9; rw [hfe] at h9; exact h9
    exfalso; omega
  · skip
    have hf : FRc V gB gf (Fget lv o c sc at9 nd tg v g p) := by rw [← hfe]; exact hf0
    have tl8 : tw9 = t0 + (Fget lv o c sc at9 nd tg v g p : Fr).2.2.2.length := by rw [← hfe]; exact tl9
    obtain ⟨⟨k67, k68⟩, hoc, ⟨a0, q84⟩, q75, q77, q74, q78⟩ := hf
    obtain ⟨q69, ⟨q70, o0, o1⟩, ⟨q71, c0, c1⟩, ⟨q72, s0, s1⟩⟩ := hoc
    have cn9 : c.toNat < nC gB := by omega
    have kc9 : Int32.toNatClampNeg (V 71 gf) = c.toNat := by have h9 := i_clamp (x := V 71 gf) rfl (by omega); omega
    have ko9 : Int32.toNatClampNeg (V 70 gf) = o.toNat := by have h9 := i_clamp (x := V 70 gf) rfl (by omega); omega
    have tl7 : tw9 = t0 + p.length := tl8
    have hb8 : (V 85 gf).toInt = (t0 : Int) := hbs9 (by rw [hfe]; exact (by decide : (12 : Nat) ≤ 15)) (by rw [hfe]; exact (by decide : (15 : Nat) ≤ 16))
    have hp8 : plC V tw9 p := by have h9 := hpl9; rw [hfe] at h9; exact h9
    have r77 : 0 ≤ (V 77 gf).toInt ∧ (V 77 gf).toInt ≤ 19 := hMV 77 gf
    refine lv_aload_n hx hb dX5_joinLate_0 rfl (lv_at hl 0 rfl) ?_
    refine va_get (D := D) (ci := 5) (v := .ref (ad (38 + Int32.toNatClampNeg (V 5 5)))) (fs := (xfMachine ad V L Z)) (C := RX5) (T := TX5) (N := 15) hx hb hg inX5 hown hK hP 5 xgMachine rfl 5 (by decide) (hg _ w672) (fun _ h9 => h9) rfl dX5_joinLate_1 ?_
    have r13 : 0 ≤ ((V 5 5)).toInt ∧ ((V 5 5)).toInt ≤ 1 := hMV 5 5
    refine g_topv (v := .ref (ad (38 + b))) (rfP (by omega)) ?_
    refine va_getN (D := D) (ci := 0) (v := .ref (ad (64 + b))) (fs := (xfBook ad V b)) (C := RX0) (T := TX0) (N := 13) hx hb hg inX0 hown hK hP (38 + b) (xgBook hb2) rfl 7 (by decide) (hnw.use 618 n618 rfl) (fun _ h9 => h9) rfl dX5_joinLate_4 ?_
    refine lv_aload_n hx hb dX5_joinLate_7 rfl (lv_at hl 0 rfl) ?_
    refine va_get (D := D) (ci := 5) (v := .ref (ad 3)) (fs := (xfMachine ad V L Z)) (C := RX5) (T := TX5) (N := 15) hx hb hg inX5 hown hK hP 5 xgMachine rfl 0 (by decide) (hg _ w667) (fun _ h9 => h9) rfl dX5_joinLate_8 ?_
    refine lv_iload_n hx hb dX5_joinLate_11 rfl (lv_at hl 2 rfl) ?_
    refine gA_int (gA_runV (As := [.int p1]) (rest := [.ref (ad (64 + b))]) (ci := 8) (q0 := 3) hx hb hml hown hg hP hD hK hS hA hnw hgk (x_componentOf9b l D ks H.size ad kk V L Z p1 hMV ) w1324 w1325 w1326 w164 w1327 rfl xgStock hdV_yX8_componentOf ⟨Nat.le_of_ble_eq_true rfl, Nat.le_of_ble_eq_true rfl⟩ rfl hl.1 rfl (Nat.le_of_ble_eq_true rfl) dX5_joinLate_12 ⟨z0, z0⟩) hP hD hK hS hA (fun z14 u15 H locs w16 hP hD hK hS => ?_)
    obtain ⟨rgz14, t17, t18, t19⟩ := w16
    have rgz14 : 0 ≤ z14.toInt ∧ z14.toInt ≤ 23 := rgz14
    have t17 : ∀ n : Int, 0 < n → (∀ o : Nat, (o : Int) < (V 3 13).toInt → (V 26 o).toInt < n) → z14.toInt < n := t17
    have t18 : ∀ o : Nat, p1.toInt = (o : Int) → (o : Int) < (V 3 13).toInt → z14 = V 26 o := t18
    have t19 : (0 ≤ p1.toInt ∧ p1.toInt < (V 3 13).toInt ∧ z14.toInt = (V 26 (Int32.toNatClampNeg p1)).toInt) ∨ ((p1.toInt < 0 ∨ (V 3 13).toInt ≤ p1.toInt) ∧ z14.toInt = 0) := t19
    have il20 : b < 2 := by (first | exact om_f940a4667dd6 hb2 | omega)
    refine va_aldq (D := D) (i := z14) hx hb hK hP (64 + b) (57 + b) (xgcomps il20) (xtcomps il20) (i_in (a := z14.toInt) rfl (by (first | exact om_dbb25e99819b rgz14.1 rgz14.2 | omega))) dX5_joinLate_15 ?_
    have kc21 := i_clamp (x := z14) rfl (by (first | exact om_eafa9039069c rgz14.1 | omega))
    refine g_topv (v := .ref (ad (72 + (24 * b + (Int32.toNatClampNeg z14))))) (congrArg va_rf (if_pos (by omega))) ?_
    have il22 : (24 * b + (Int32.toNatClampNeg z14)) < 48 := by (first | exact om_31a61188bc78 hb2 rgz14.2 kc21 | omega)
    refine va_getN (D := D) (ci := 3) (v := .int (V 51 (24 * b + (Int32.toNatClampNeg z14)))) (fs := (xfComp ad V (24 * b + (Int32.toNatClampNeg z14)))) (C := RX3) (T := TX3) (N := 13) hx hb hg inX3 hown hK hP (72 + (24 * b + (Int32.toNatClampNeg z14))) (xgComp il22) rfl 6 (by decide) (hnw.use 522 n522 rfl) (fun _ h9 => h9) rfl dX5_joinLate_16 ?_
    have r23 : 0 ≤ ((V 51 (24 * b + (Int32.toNatClampNeg z14)))).toInt ∧ ((V 51 (24 * b + (Int32.toNatClampNeg z14)))).toInt ≤ 3 := hMV 51 (24 * b + (Int32.toNatClampNeg z14))
    refine lv_iconst (v := 3) hx hb dX5_joinLate_19 (by decide) ?_
    refine lv_icmp_ne (tgt := 27) hx hb dX5_joinLate_20 (by decide) (fun c24 => ?_) (fun c24 => ?_)
    · skip
      have f25 : ((V 51 (24 * b + (Int32.toNatClampNeg z14)))).toInt ≠ 3 := b_neq rfl (by decide) c24
      refine lv_iconst (v := 0) hx hb dX5_joinLate_27 (by decide) ?_
      refine lv_istore_n (lv' := [(3, .int 0), (0, .ref (ad 5)), (1, .ref (Z.fa gf)), (2, .int p1)]) hx hb dX5_joinLate_28 rfl hl (by decide) rfl (fun ls hl => ?_)
      have on9 := rn.2.1 ga.toInt.toNat (by omega)
      have on1 := on9.1.1
      have on2 := on9.2.2.1
      have ka9 : Int32.toNatClampNeg p1 = ga.toInt.toNat := by rw [a10]; rfl
      have pa9 : p1.toInt = ga.toInt := by rw [a10]
      have cz9 := t19
      rw [ka9] at cz9
      have kz9 : Int32.toNatClampNeg z14 = (gm 1 ga.toInt.toNat).toNat := by have h9 := i_clamp (x := z14) rfl (by (first | exact om_eafa9039069c rgz14.1 | omega)); omega
      have s51 : (V 51 (24 * b + Int32.toNatClampNeg z14)).toInt = ((bS gB (gm 1 ga.toInt.toNat).toNat : Nat) : Int) := by rw [kz9]; exact BKc.sc bc (by omega)
      refine lv_iload_n hx hb dX5_joinLate_29 rfl (lv_at hl 0 rfl) ?_
      refine lv_if_eq (tgt := 69) hx hb dX5_joinLate_30 (by decide) (fun _ => ?_) (fun q => absurd (by decide) q)
      have me26 : ME V V gf := ME.rf
      have af28 : (V 42 b).toInt ≤ (V 84 gf).toInt ∨ (bdp V b (V 84 gf).toInt.toNat).1 = true := by rw [me26.1.bd, me26.1 42 b (by decide) (by decide)]; exact ft
      have mo27 : MO V Z b gf True False True := MO.ch mo me26 rfl rfl (fun _ => Or.inl (by omega)) (fun x h => FK.k4 (by omega) (by omega) (by omega) af28 (by omega) (fun _ z => z.elim))
      (try clear cz9); (try clear t19)
      have kp7 : (V 70 gf).toInt.toNat = o.toNat := by first | exact congrArg Int.toNat q70 | omega
      have kp6 : (V 75 gf).toInt.toNat = nd.toNat := by first | exact congrArg Int.toNat q75 | omega
      have rx29 : RW V gB (lateJ gB gm ga (V 70 gf).toInt.toNat (V 75 gf).toInt.toNat, ga, gfr :: gr) := by unfold lateJ; rw [kp7, kp6, if_neg (fun h9 => by have h8 := h9.1; omega)]; exact rwq
      refine W.know (fun kr1 kr2 => ?_)
      refine W.widen (k := zcc Z) (n := zss Z) (Nat.sub_le _ _) (Nat.sub_le _ _) ?_
      exact W.vret hx hb hr (fun t ht hW => ⟨⟨(V, L, Z), rfl, ⟨hMV, agV, rfl, zoZ, mo27, rx29⟩, ⟨by rw [ht]; exact hP, va_K.moved hW.alike hK, hD⟩, by rw [ht]; exact kr1, by rw [ht]; exact kr2⟩, hS.F ht⟩) hS.2.2 dX5_joinLate_69
    · skip
      have f30 : ((V 51 (24 * b + (Int32.toNatClampNeg z14)))).toInt = 3 := b_eq rfl (by decide) c24
      refine lv_iconst (v := 1) hx hb dX5_joinLate_23 (by decide) ?_
      refine lv_goto (tgt := 28) hx hb dX5_joinLate_24 (by decide) ?_
      refine lv_istore_n (lv' := [(3, .int 1), (0, .ref (ad 5)), (1, .ref (Z.fa gf)), (2, .int p1)]) hx hb dX5_joinLate_28 rfl hl (by decide) rfl (fun ls hl => ?_)
      have on9 := rn.2.1 ga.toInt.toNat (by omega)
      have on1 := on9.1.1
      have on2 := on9.2.2.1
      have ka9 : Int32.toNatClampNeg p1 = ga.toInt.toNat := by rw [a10]; rfl
      have pa9 : p1.toInt = ga.toInt := by rw [a10]
      have cz9 := t19
      rw [ka9] at cz9
      have kz9 : Int32.toNatClampNeg z14 = (gm 1 ga.toInt.toNat).toNat := by have h9 := i_clamp (x := z14) rfl (by (first | exact om_eafa9039069c rgz14.1 | omega)); omega
      have s51 : (V 51 (24 * b + Int32.toNatClampNeg z14)).toInt = ((bS gB (gm 1 ga.toInt.toNat).toNat : Nat) : Int) := by rw [kz9]; exact BKc.sc bc (by omega)
      refine lv_iload_n hx hb dX5_joinLate_29 rfl (lv_at hl 0 rfl) ?_
      refine lv_if_eq (tgt := 69) hx hb dX5_joinLate_30 (by decide) (fun q => absurd q (by decide)) (fun _ => ?_)
      have kn9 : Int32.toNatClampNeg (V 75 gf) = nd.toNat := by have h9 := i_clamp (x := V 75 gf) rfl (by (first | exact om_eafa9039069c r3.1 | omega)); omega
      refine lv_aload_n hx hb dX5_joinLate_33 rfl (lv_at hl 1 rfl) ?_
      refine va_get (D := D) (ci := 5) (v := .ref (ad 3)) (fs := (xfMachine ad V L Z)) (C := RX5) (T := TX5) (N := 15) hx hb hg inX5 hown hK hP 5 xgMachine rfl 0 (by decide) (hg _ w667) (fun _ h9 => h9) rfl dX5_joinLate_34 ?_
      refine lv_aload_n hx hb dX5_joinLate_37 rfl (lv_at hl 2 rfl) ?_
      refine va_getN (D := D) (ci := 4) (v := .int (V 70 gf)) (fs := (xfFrame V gf)) (C := RX4) (T := TX4) (N := 19) hx hb hg inX4 hown hK hP (336 + gf) (xgFrame hgf) rfl 3 (by decide) (hnw.use 1192 n1192 rfl) (fun _ h9 => h9) rfl dX5_joinLate_38 ?_
      refine lv_aload_n hx hb dX5_joinLate_41 rfl (lv_at hl 2 rfl) ?_
      refine va_getN (D := D) (ci := 4) (v := .int (V 75 gf)) (fs := (xfFrame V gf)) (C := RX4) (T := TX4) (N := 19) hx hb hg inX4 hown hK hP (336 + gf) (xgFrame hgf) rfl 8 (by decide) (hnw.use 1197 n1197 rfl) (fun _ h9 => h9) rfl dX5_joinLate_42 ?_
      refine lv_iconst (v := 0) hx hb dX5_joinLate_45 (by decide) ?_
      have r31 : Int32.toInt 0 = 0 := by decide
      refine gA_int (gA_runV (As := [.int (V 70 gf), .int (V 75 gf), .int 0]) (rest := []) (ci := 8) (q0 := 3) hx hb hml hown hg hP hD hK hS hA hnw hgk (x_joinedTo9 l D ks H.size ad kk V L Z (V 70 gf) (V 75 gf) 0 (ow) ((jl gm (8 * o.toNat + nd.toNat))) hMV mup.2.2.2.2.1 (by rw [ko9, kn9]; exact (rn.2.2.1 o.toNat nd.toNat (by omega) (by omega)).1) (show 0 ≤ ((V 70 gf)).toInt from by omega) (show ((V 70 gf)).toInt < (V 3 13).toInt from by omega) (show 0 ≤ ((V 75 gf)).toInt from by (first | exact om_eafa9039069c r3.1 | omega)) (show ((V 75 gf)).toInt ≤ 7 from by (first | exact om_49a7161795ae nd8 | omega)) (show 0 ≤ (Int32.toInt 0) from by (first | exact om_1531b20f57e1 r31 | omega))) w1439 w1440 w1441 w164 w1442 rfl xgStock hdV_yX8_joinedTo ⟨Nat.le_of_ble_eq_true rfl, Nat.le_of_ble_eq_true rfl⟩ rfl hl.1 rfl (Nat.le_of_ble_eq_true rfl) dX5_joinLate_46 ⟨z0, z0⟩) hP hD hK hS hA (fun z32 u33 H locs w34 hP hD hK hS => ?_)
      have t35 := w34
      have t35 : JTo (jl gm (8 * o.toNat + nd.toNat)) (Int32.toInt 0).toNat z32.toInt := t35
      have jt9 := t35
      rw [show (Int32.toInt 0).toNat = 0 from by decide] at jt9
      rcases jt9 with ⟨jz9, je9⟩ | ⟨x9, t8, je9, jz9⟩
      · skip
        have jd9 : jnd gm o.toNat nd.toNat 0 = none := jd_n je9
        have jq9 := jl_dn je9
        have jl9 := jl_len (m := gm) (q := 8 * o.toNat + nd.toNat)
        refine lv_iconst (v := (-1)) hx hb dX5_joinLate_49 (by decide) ?_
        refine lv_icmp_ne (tgt := 69) hx hb dX5_joinLate_50 (by decide) (fun c36 => ?_) (fun c36 => ?_)
        · skip
          have f37 : z32.toInt ≠ (-1) := b_neq rfl (by decide) c36
          exfalso; omega
        · skip
          have f38 : z32.toInt = (-1) := b_eq rfl (by decide) c36
          have hnn : ¬ NN V b := fun q => by obtain ⟨o, a1, a2, a3⟩ := q; have e := t18 o (by omega) a2; rw [← e] at a3; omega
          refine lv_aload_n hx hb dX5_joinLate_53 rfl (lv_at hl 1 rfl) ?_
          refine va_get (D := D) (ci := 5) (v := .ref (ad 3)) (fs := (xfMachine ad V L Z)) (C := RX5) (T := TX5) (N := 15) hx hb hg inX5 hown hK hP 5 xgMachine rfl 0 (by decide) (hg _ w667) (fun _ h9 => h9) rfl dX5_joinLate_54 ?_
          refine lv_aload_n hx hb dX5_joinLate_57 rfl (lv_at hl 2 rfl) ?_
          refine va_getN (D := D) (ci := 4) (v := .int (V 70 gf)) (fs := (xfFrame V gf)) (C := RX4) (T := TX4) (N := 19) hx hb hg inX4 hown hK hP (336 + gf) (xgFrame hgf) rfl 3 (by decide) (hnw.use 1192 n1192 rfl) (fun _ h9 => h9) rfl dX5_joinLate_58 ?_
          refine lv_aload_n hx hb dX5_joinLate_61 rfl (lv_at hl 2 rfl) ?_
          refine va_getN (D := D) (ci := 4) (v := .int (V 75 gf)) (fs := (xfFrame V gf)) (C := RX4) (T := TX4) (N := 19) hx hb hg inX4 hown hK hP (336 + gf) (xgFrame hgf) rfl 8 (by decide) (hnw.use 1197 n1197 rfl) (fun _ h9 => h9) rfl dX5_joinLate_62 ?_
          refine lv_iload_n hx hb dX5_joinLate_65 rfl (lv_at hl 3 rfl) ?_
          have r39 : 0 ≤ ((V 3 15)).toInt ∧ ((V 3 15)).toInt ≤ 262144 := hMV 3 15
          refine W.know (fun k41 k42 => ?_)
          obtain ⟨Hk40, hHk40⟩ : ∃ z, z = H := ⟨_, rfl⟩
          have k41 : Hk40.size ≤ s.heap.size + (zcc Z - zcc Z) := by rw [hHk40]; exact k41
          have k42 : tot Hk40 ≤ tot s.heap + (zss Z - zss Z) := by rw [hHk40]; exact k42
          refine gZ_void (gA_runV (As := [.int (V 70 gf), .int (V 75 gf), .int p1]) (rest := []) (ci := 8) (q0 := 3) hx hb hml hown hg hP hD hK hS hA hnw hgk (x_join9 l D ks H.size ad kk V L Z (V 70 gf) (V 75 gf) p1 (ow) ((jl gm (8 * o.toNat + nd.toNat))) hMV (by omega) (by (first | exact om_9008b48e08e9 nd8 r3.1 | omega)) mup.2.2.2.2.1 mup.2.2.2.2.2.2.2.2.2 (show (V 3 15).toInt ≤ 250000 from by omega) (show ((V 70 gf)).toInt < (V 3 13).toInt from by omega) (by rw [ko9, kn9]; exact (rn.2.2.1 o.toNat nd.toNat (by omega) (by omega)).1) (show (((jl gm (8 * o.toNat + nd.toNat)).length : Nat) : Int) ≤ 23 from by omega)) w1352 w1353 w1354 w164 w1355 rfl xgStock hdV_yX8_join ⟨Nat.le_of_ble_eq_true rfl, Nat.le_of_ble_eq_true rfl⟩ rfl hl.1 rfl (Nat.le_of_ble_eq_true rfl) dX5_joinLate_66 ⟨z1 zoZ.1, z1 zoZ.2.1⟩) hD hS hA (fun u44 H locs w45 hP hD hK hS y46 y47 => ?_)
          obtain ⟨V48, L49, Z50⟩ := u44
          obtain ⟨hMV48, ajV48, axL49, zlZ50, t52, t53⟩ := w45
          have axL49 : L = L49 := Eq.symm axL49
          subst axL49
          have hP : va_P D vwCl (xw ad kk V48 L Z50) H := hP
          have hD : va_D A (xw ad kk V48 L Z50) := hD
          have hK : va_K D vwCl (xty kk Z50) s := hK
          have hMV48 : rgd bX V48 := hMV48
          have ajV48 : agr [(3, 15)] [30, 31, 32] V V48 := ajV48
          have agV48 : agr [(3, 15)] [30, 31, 32] V V48 := agV.tr ajV48 (by decide) (by decide)
          have zlZ50 : ZL Z Z50 := zlZ50
          have zoZ50 : ZL Z Z50 := ZL.tr zoZ zlZ50
          have ziZ50 := zlZ50.1
          have zjZ50 := zlZ50.2.1
          have zkZ50 := zlZ50.2.2.1
          have zmZ50 := zoZ50.1
          have znZ50 := zoZ50.2.1
          have zpZ_Z50 := zoZ.1
          have zqZ_Z50 := zoZ.2.1
          have y46 : H.size ≤ Hk40.size + (zcc Z - zcc Z50) := by rw [hHk40]; exact y46
          have y47 : tot H ≤ tot Hk40 + (zss Z - zss Z50) := by rw [hHk40]; exact y47
          refine W.tight (k := zcc Z - zcc Z50) (n := zss Z - zss Z50) (by first | exact tg9 y46 k41 zlZ50.1 zoZ.1 | omega) (by first | exact tg9 y47 k42 zlZ50.2.1 zoZ.2.1 | omega) ?_
          have hl : lv_has ls 4 [(3, .int 1), (0, .ref (ad 5)), (1, .ref (Z50.fa gf)), (2, .int p1)] := by rw [zlZ50.2.2.2.2 gf hgf]; exact hl
          have t52 : JN V V48 Z Z50 (8 * Int32.toNatClampNeg (V 70 gf) + Int32.toNatClampNeg (V 75 gf)) := t52
          have t53 : JN9 V V48 (8 * Int32.toNatClampNeg (V 70 gf) + Int32.toNatClampNeg (V 75 gf)) (Int32.toNatClampNeg (V 3 15)) p1.toInt (jl gm (8 * o.toNat + nd.toNat)) := t53
          have rp54 : MO V48 Z50 b gf True False True := MO.jl mo hnn (by (first | exact om_c88e7ce0b8a2 gk | omega)) (by (first | exact om_ba873a6da76b gph | omega)) t52
          (try clear cz9); (try clear t19)
          have kp7 : (V 70 gf).toInt.toNat = o.toNat := by first | exact congrArg Int.toNat q70 | omega
          have kp6 : (V 75 gf).toInt.toNat = nd.toNat := by first | exact congrArg Int.toNat q75 | omega
          have jn8 := t53
          rw [ko9, kn9, pa9] at jn8
          obtain ⟨j1, j2, j3, j4, j5, j6, j7⟩ := jn8
          have kl9 := i_clamp (x := V 3 15) rfl (by (first | exact om_eafa9039069c r39.1 | omega))
          obtain ⟨ow2, rnj⟩ := RWn.join (n := Int32.toNatClampNeg (V 3 15)) (v := ga.toInt) rn (show ((o.toNat : Nat) : Int) < gm 0 2 from by omega) (show nd.toNat < 8 from by (first | exact om_dccebbbf934a nd8 r3.1 kp6 | omega)) (by omega) (by omega) j1 j2 j3 j4 j5 j6 (fun c9 k9 h1 h2 h3 h4 h5 => j7 c9 k9 h2 h3 h4 h5)
          clear j5
          have f13 : (V48 3 13).toInt = (V 3 13).toInt := congrArg Int32.toInt (j7 3 13 (by decide) (by decide) (by decide) (by omega))
          have rlj : RWl V48 gB (gfr :: gr) tw9 := RWl.mv rl (fun i9 hi9 c9 h1 h2 => j7 c9 i9 (by omega) (by omega) (by omega) (by omega)) (fun j9 hj9 => (j7 39 j9 (by decide) (by decide) (by decide) (by omega))) (by omega) (j7 3 12 (by decide) (by decide) (by decide) (by omega))
          have rwj9 : RW V48 gB ((mJoin gm o.toNat nd.toNat ga.toInt), ga, gfr :: gr) := ⟨⟨ow2, rnj⟩, ⟨(by rw [(j7 5 9 (by decide) (by decide) (by decide) (by omega))]; show _ = (mJoin gm o.toNat nd.toNat ga.toInt) 0 6; rw [mJn_o (by decide) (by decide)]; exact rh.1), (fun h9 => by have h8 : (mJoin gm o.toNat nd.toNat ga.toInt) 0 6 = 1 := h9; rw [mJn_o (by decide) (by decide)] at h8; rw [(j7 5 10 (by decide) (by decide) (by decide) (by omega))]; exact rh.2.1 h8), (fun h9 => by have h8 : (mJoin gm o.toNat nd.toNat ga.toInt) 0 6 = 2 := h9; rw [mJn_o (by decide) (by decide)] at h8; show _ = (mJoin gm o.toNat nd.toNat ga.toInt) 0 8 ∧ _ = (mJoin gm o.toNat nd.toNat ga.toInt) 0 9; rw [mJn_o (by decide) (by decide), mJn_o (by decide) (by decide), (j7 5 11 (by decide) (by decide) (by decide) (by omega)), (j7 5 12 (by decide) (by decide) (by decide) (by omega))]; exact rh.2.2.1 h8), (by rw [(j7 5 8 (by decide) (by decide) (by decide) (by omega))]; show _ = (mJoin gm o.toNat nd.toNat ga.toInt) 0 4; rw [mJn_o (by decide) (by decide)]; exact rh.2.2.2.1), fun i9 hi9 => by have h8 : (i9 : Int) < (mJoin gm o.toNat nd.toNat ga.toInt) 0 4 := hi9; rw [mJn_o (by decide) (by decide)] at h8; show _ = (mJoin gm o.toNat nd.toNat ga.toInt) 5 i9; rw [mJn_o (by decide) (by decide), (j7 40 i9 (by decide) (by decide) (by decide) (by omega))]; exact rh.2.2.2.2 i9 h8⟩, (by rw [(j7 5 6 (by decide) (by decide) (by decide) (by omega))]; exact rd), tw9, (by rw [(j7 5 7 (by decide) (by decide) (by decide) (by omega))]; exact rt9), rlj⟩
          have rx55 : RW V48 gB (lateJ gB gm ga (V 70 gf).toInt.toNat (V 75 gf).toInt.toNat, ga, gfr :: gr) := by unfold lateJ; rw [kp7, kp6, if_pos ⟨by omega, jd9⟩]; exact rwj9
          refine W.know (fun kr1 kr2 => ?_)
          refine W.widen (k := zcc Z) (n := zss Z) (Nat.sub_le _ _) (Nat.sub_le _ _) ?_
          exact W.vret hx hb hr (fun t ht hW => ⟨⟨(V48, L, Z50), rfl, ⟨hMV48, agV48, rfl, zoZ50, rp54, rx55⟩, ⟨by rw [ht]; exact hP, va_K.moved hW.alike hK, hD⟩, by rw [ht]; exact kr1, by rw [ht]; exact kr2⟩, hS.F ht⟩) hS.2.2 dX5_joinLate_69
      · skip
        have jd9 : jnd gm o.toNat nd.toNat 0 = some x9 := jd_y je9
        have jv9 := jl_dy je9
        have jx9 : 0 ≤ x9 := by rw [← jv9.2]; exact jnn _
        refine lv_iconst (v := (-1)) hx hb dX5_joinLate_49 (by decide) ?_
        refine lv_icmp_ne (tgt := 69) hx hb dX5_joinLate_50 (by decide) (fun c56 => ?_) (fun c56 => ?_)
        · skip
          have f57 : z32.toInt ≠ (-1) := b_neq rfl (by decide) c56
          have me58 : ME V V gf := ME.rf
          have af60 : (V 42 b).toInt ≤ (V 84 gf).toInt ∨ (bdp V b (V 84 gf).toInt.toNat).1 = true := by rw [me58.1.bd, me58.1 42 b (by decide) (by decide)]; exact ft
          have mo59 : MO V Z b gf True False True := MO.ch mo me58 rfl rfl (fun _ => Or.inl (by omega)) (fun x h => FK.k4 (by omega) (by omega) (by omega) af60 (by omega) (fun _ z => z.elim))
          (try clear cz9); (try clear t19)
          have kp7 : (V 70 gf).toInt.toNat = o.toNat := by first | exact congrArg Int.toNat q70 | omega
          have kp6 : (V 75 gf).toInt.toNat = nd.toNat := by first | exact congrArg Int.toNat q75 | omega
          have rx61 : RW V gB (lateJ gB gm ga (V 70 gf).toInt.toNat (V 75 gf).toInt.toNat, ga, gfr :: gr) := by unfold lateJ; rw [kp7, kp6, if_neg (fun h9 => by rw [jd9] at h9; cases h9.2)]; exact rwq
          refine W.know (fun kr1 kr2 => ?_)
          refine W.widen (k := zcc Z) (n := zss Z) (Nat.sub_le _ _) (Nat.sub_le _ _) ?_
          exact W.vret hx hb hr (fun t ht hW => ⟨⟨(V, L, Z), rfl, ⟨hMV, agV, rfl, zoZ, mo59, rx61⟩, ⟨by rw [ht]; exact hP, va_K.moved hW.alike hK, hD⟩, by rw [ht]; exact kr1, by rw [ht]; exact kr2⟩, hS.F ht⟩) hS.2.2 dX5_joinLate_69
        · skip
          have f62 : z32.toInt = (-1) := b_eq rfl (by decide) c56
          exfalso; omega
  · skip
    have hf : FRc V gB gf (Fsum lv o c sc at9 nd tg it v g u p) := by rw [← hfe]; exact hf0
    have tl8 : tw9 = t0 + (Fsum lv o c sc at9 nd tg it v g u p : Fr).2.2.2.length := by rw [← hfe]; exact tl9
    obtain ⟨⟨k67, k68⟩, hoc, ⟨a0, q84⟩, q75, q77, q76, q74, q78, q79⟩ := hf
    obtain ⟨q69, ⟨q70, o0, o1⟩, ⟨q71, c0, c1⟩, ⟨q72, s0, s1⟩⟩ := hoc
    have cn9 : c.toNat < nC gB := by omega
    have kc9 : Int32.toNatClampNeg (V 71 gf) = c.toNat := by have h9 := i_clamp (x := V 71 gf) rfl (by omega); omega
    have ko9 : Int32.toNatClampNeg (V 70 gf) = o.toNat := by have h9 := i_clamp (x := V 70 gf) rfl (by omega); omega
    have tl7 : tw9 = t0 + p.length := tl8
    have hb8 : (V 85 gf).toInt = (t0 : Int) := hbs9 (by rw [hfe]; exact (by decide : (12 : Nat) ≤ 16)) (by rw [hfe]; exact (by decide : (16 : Nat) ≤ 16))
    have hp8 : plC V tw9 p := by have h9 := hpl9; rw [hfe] at h9; exact h9
    exfalso; omega
abbrev r_x_takesAnswer9 (Z : XZ) : Room := { frames := 4, cells := zcc Z, slots := zss Z, locals := 110 }
abbrev q_x_takesAnswer9 (D : va_G) (ks : KS) (ad : Nat → Nat) (kk : Nat → ClassId) (V : Vf) (L : Lf) (Z : XZ) (b : Nat) (gf : Nat) (gB : Bk) (gm : Mm) (ga : Int32) (gfr : Fr) (gr : List Fr) (A : Nat → Prop) : Array Value → State → Outcome → State → Prop := qZi D (fun (r : Int32) (u : Vf × Lf × XZ) => rgd bX u.1 ∧ agr [(3, 15), (5, 6), (5, 7), (5, 9)] [30, 31, 32, 39, 67, 68, 69, 70, 71, 72, 73, 74, 75, 76, 77, 78, 79, 80, 81, 82, 83, 84, 85] V u.1 ∧ u.2.1 = L ∧ ZL Z u.2.2 ∧ (0 ≤ r.toInt ∧ r.toInt ≤ 1) ∧ (Imp (r.toInt = 1) (MO u.1 u.2.2 b gf True True True)) ∧ (Imp (r.toInt = 0) (MJ u.1 u.2.2 b)) ∧ (Imp (r.toInt = 1) ((u.1 5 6).toInt = (V 5 6).toInt ∧ (u.1 67 gf).toInt = 4)) ∧ (Imp (r.toInt = 1) (u.2.2 = Z)) ∧ ((r.toInt = 1 ∧ ∃ fz8, stM gB (gm, ga, gfr :: gr) = (gm, ga, fz8 :: gr) ∧ RW (up2 u.1 68 gf 0) gB (gm, ga, fz8 :: gr)) ∨ (r.toInt = 0 ∧ RW u.1 gB (stM gB (gm, ga, gfr :: gr))))) (fun u => xw ad kk u.1 u.2.1 u.2.2) (fun u => xty kk u.2.2) (fun u => zcc Z - zcc u.2.2) (fun u => zss Z - zss u.2.2) A
set_option maxHeartbeats 4000000 in
set_option maxRecDepth 100000 in
theorem x_takesAnswer9 (l : Launch) (D : va_G) (ks : KS) (sz : Nat) (ad : Nat → Nat) (kk : Nat → ClassId) (V : Vf) (L : Lf) (Z : XZ) (b : Nat) (gf : Nat) (gB : Bk) (gm : Mm) (ga : Int32) (gfr : Fr) (gr : List Fr) (hMV : rgd bX V) (hb2 : b < 2) (hgf : gf < Z.nf) (mo : MO V Z b gf True (¬ NN V b) True) (gd : (gf : Int) + 1 = (V 5 6).toInt) (gk : (V 67 gf).toInt = 4) (gph : (V 68 gf).toInt ≠ 0 ∧ (V 68 gf).toInt ≠ 6) (rwq : RW V gB (gm, ga, gfr :: gr)) (bc : BKc V b gB) (sf : SF gB (gm, ga, gfr :: gr)) (go9 : GOs gB (gm, ga, gfr :: gr)) (sg1 : (V 5 9).toInt = 1)  : Met l yX5_takesAnswer (Cond.code yX5_takesAnswer cX5_takesAnswer 3 (some .boolean) :: GW) (r_x_takesAnswer9 Z) (va_Pc [.ref (ad 5), .ref (Z.fa gf)] (gp D ks (xw ad kk V L Z) (xty kk Z) sz)) (q_x_takesAnswer9 D ks ad kk V L Z  b gf gB gm ga gfr gr (va_A (xw ad kk V L Z) sz)) (zcc Z) (zss Z) (va_A (xw ad kk V L Z) sz) := by
  refine g_met (q_x_takesAnswer9 D ks ad kk V L Z  b gf gB gm ga gfr gr) (by decide) (Nat.le_of_ble_eq_true rfl) ?_
  intro p e s m below meth c A ls H locs hx hb hr hml hown hg hlocks hin hnw hgk hP hK hD hS hA hl
  have hown : s.vm.findClass RX5 = some m.cls := hown
  have hl : lv_has ls 3 [(0, .ref (ad 5)), (1, .ref (Z.fa gf))] := hl
  have hP : va_P D vwCl (xw ad kk V L Z) H := hP
  have hD : va_D A (xw ad kk V L Z) := hD
  have hK : va_K D vwCl (xty kk Z) s := hK
  have agV : agr [(3, 15), (5, 6), (5, 7), (5, 9)] [30, 31, 32, 39, 67, 68, 69, 70, 71, 72, 73, 74, 75, 76, 77, 78, 79, 80, 81, 82, 83, 84, 85] V V := agr.rf
  have zoZ : ZL Z Z := ZL.rf
  refine W.know (fun ka kb => ?_)
  refine W.tight (k := zcc Z - zcc Z) (n := zss Z - zss Z) (by omega) (by omega) ?_
  have r1 : 0 ≤ ((V 5 6)).toInt ∧ ((V 5 6)).toInt ≤ 400 := hMV 5 6
  have r2 : 0 ≤ ((V 5 9)).toInt ∧ ((V 5 9)).toInt ≤ 3 := hMV 5 9
  have kdp := i_clamp (x := V 5 6) rfl (by (first | exact om_c66f1b494bd9 gd | omega))
  have hdn : (gf : Int) + 1 ≤ (Z.nf : Int) := by (first | exact om_29efded833ec hgf | omega)
  have mup := MO.up mo
  have msz := mup.1
  have mbk := mup.2.2.2.1
  obtain ⟨xk, fk⟩ := MO.fk mo
  have r3 : (-1) ≤ ((V 71 gf)).toInt ∧ ((V 71 gf)).toInt ≤ 23 := hMV 71 gf
  have r4 : 0 ≤ ((V 75 gf)).toInt ∧ ((V 75 gf)).toInt ≤ 12 := hMV 75 gf
  have r5 : 0 ≤ ((V 80 gf)).toInt ∧ ((V 80 gf)).toInt ≤ 300 := hMV 80 gf
  have r6 : 0 ≤ ((V 84 gf)).toInt ∧ ((V 84 gf)).toInt ≤ 2147483647 := hMV 84 gf
  have r7 : 0 ≤ ((V 5 8)).toInt ∧ ((V 5 8)).toInt ≤ 300 := hMV 5 8
  have r8 : 0 ≤ ((V 3 13)).toInt ∧ ((V 3 13)).toInt ≤ 300 := hMV 3 13
  have r9 : 0 ≤ ((V 43 (5 * b + 2))).toInt ∧ ((V 43 (5 * b + 2))).toInt ≤ ((xcap (5 * b + 2) : Nat) : Int) := hMV 43 (5 * b + 2)
  have r10 : xcap (5 * b + 2) = 24 := xcap_2
  have r11 : 0 ≤ ((V 41 b)).toInt ∧ ((V 41 b)).toInt ≤ 12 := hMV 41 b
  have r12 : 0 ≤ ((V 42 b)).toInt ∧ ((V 42 b)).toInt ≤ 8200 := hMV 42 b
  have fc := fk.1 (by omega)
  have fo := fk.2.1 (by omega) (by omega)
  have ft := fk.2.2.1 (by omega)
  have fq := fk.2.2.2.1 (by omega)
  have m1 : Int32.toInt (-1) = -1 := by decide
  have rw0 := rwq
  obtain ⟨⟨ow, rn⟩, rh, rd, tw9, rt9, rl⟩ := rw0
  have rn : RWn V ow gB gm := rn
  have rh : RWh V gm ga := rh
  have rd2 : (V 5 6).toInt = ((gr.length + 1 : Nat) : Int) := rd
  have gl9 : gr.length = gf := by (first | exact om_ec03263ced6a gd rd2 | omega)
  have sl9 : gr.length ≤ 394 := by have h9 : gr.length + 1 ≤ 395 := sf.1; (first | exact om_ecdae44fb13c h9 | omega)
  have rh1 : (V 5 9).toInt = gm 0 6 := rh.1
  have ra2 : (V 3 13).toInt = gm 0 2 := rn.1.1.2.2.1
  have rl0 := rl
  obtain ⟨t0, tl9, hf0, hbs9, hpl9, hlr⟩ := rl0
  rw [gl9] at hf0 hbs9
  rcases FRc.k4 hf0 gk with ⟨lv, o, c, sc, me, ps, at9, v, p, hfe⟩ | ⟨lv, o, c, sc, me, ps, at9, v, p, hfe⟩ | ⟨lv, o, c, sc, at9, nd, tg, v, g, p, hfe⟩ | ⟨lv, o, c, sc, at9, nd, tg, v, g, p, hfe⟩ | ⟨lv, o, c, sc, at9, nd, tg, it, v, g, u, p, hfe⟩
  · skip
    have hf : FRc V gB gf (Fwork lv o c sc me ps at9 v p) := by rw [← hfe]; exact hf0
    have tl8 : tw9 = t0 + (Fwork lv o c sc me ps at9 v p : Fr).2.2.2.length := by rw [← hfe]; exact tl9
    obtain ⟨⟨k67, k68⟩, hoc, hps9, ⟨a0, q84⟩, q74⟩ := hf
    obtain ⟨q69, ⟨q70, o0, o1⟩, ⟨q71, c0, c1⟩, ⟨q72, s0, s1⟩⟩ := hoc
    have cn9 : c.toNat < nC gB := by omega
    have kc9 : Int32.toNatClampNeg (V 71 gf) = c.toNat := by have h9 := i_clamp (x := V 71 gf) rfl (by omega); omega
    have ko9 : Int32.toNatClampNeg (V 70 gf) = o.toNat := by have h9 := i_clamp (x := V 70 gf) rfl (by omega); omega
    have tl7 : tw9 = t0 + p.length := tl8
    have hb8 : (V 85 gf).toInt = (t0 : Int) := hbs9 (by rw [hfe]; exact (by decide : (12 : Nat) ≤ 12)) (by rw [hfe]; exact (by decide : (12 : Nat) ≤ 16))
    have hp8 : plC V tw9 p := by have h9 := hpl9; rw [hfe] at h9; exact h9
    exfalso; omega
  · skip
    have hf : FRc V gB gf (Fwait lv o c sc me ps at9 v p) := by rw [← hfe]; exact hf0
    have tl8 : tw9 = t0 + (Fwait lv o c sc me ps at9 v p : Fr).2.2.2.length := by rw [← hfe]; exact tl9
    obtain ⟨⟨k67, k68⟩, hoc, hps9, ⟨a0, q84⟩, q74⟩ := hf
    obtain ⟨q69, ⟨q70, o0, o1⟩, ⟨q71, c0, c1⟩, ⟨q72, s0, s1⟩⟩ := hoc
    have cn9 : c.toNat < nC gB := by omega
    have kc9 : Int32.toNatClampNeg (V 71 gf) = c.toNat := by have h9 := i_clamp (x := V 71 gf) rfl (by omega); omega
    have ko9 : Int32.toNatClampNeg (V 70 gf) = o.toNat := by have h9 := i_clamp (x := V 70 gf) rfl (by omega); omega
    have tl7 : tw9 = t0 + p.length := tl8
    have hb8 : (V 85 gf).toInt = (t0 : Int) := hbs9 (by rw [hfe]; exact (by decide : (12 : Nat) ≤ 13)) (by rw [hfe]; exact (by decide : (13 : Nat) ≤ 16))
    have hp8 : plC V tw9 p := by have h9 := hpl9; rw [hfe] at h9; exact h9
    refine lv_aload_n hx hb dX5_takesAnswer_0 rfl (lv_at hl 1 rfl) ?_
    refine va_getN (D := D) (ci := 4) (v := .int (V 68 gf)) (fs := (xfFrame V gf)) (C := RX4) (T := TX4) (N := 19) hx hb hg inX4 hown hK hP (336 + gf) (xgFrame hgf) rfl 1 (by decide) (hnw.use 1190 n1190 rfl) (fun _ h9 => h9) rfl dX5_takesAnswer_1 ?_
    refine lv_iconst (v := 1) hx hb dX5_takesAnswer_4 (by decide) ?_
    refine lv_icmp_ne (tgt := 18) hx hb dX5_takesAnswer_5 (by decide) (fun c13 => ?_) (fun c13 => ?_)
    · skip
      have f14 : ((V 68 gf)).toInt ≠ 1 := b_neq rfl (by decide) c13
      exfalso; omega
    · skip
      have f15 : ((V 68 gf)).toInt = 1 := b_eq rfl (by decide) c13
      refine lv_aload_n hx hb dX5_takesAnswer_8 rfl (lv_at hl 0 rfl) ?_
      refine lv_aload_n hx hb dX5_takesAnswer_9 rfl (lv_at hl 0 rfl) ?_
      refine va_get (D := D) (ci := 5) (v := .int (V 5 10)) (fs := (xfMachine ad V L Z)) (C := RX5) (T := TX5) (N := 15) hx hb hg inX5 hown hK hP 5 xgMachine rfl 10 (by decide) (hg _ w677) (fun _ h9 => h9) rfl dX5_takesAnswer_10 ?_
      refine gA_void (gA_runV (As := [.int (V 5 10)]) (rest := []) (ci := 5) (q0 := 5) hx hb hml hown hg hP hD hK hS hA hnw hgk (x_put9 l D ks H.size ad kk V L Z (V 5 10) hMV ) w1466 w1468 w72 w171 w1469 rfl xgMachine hdV_yX5_put ⟨Nat.le_of_ble_eq_true rfl, Nat.le_of_ble_eq_true rfl⟩ rfl hl.1 rfl (Nat.le_of_ble_eq_true rfl) dX5_takesAnswer_13 ⟨z0, z0⟩) hP hD hK hS hA (fun u17 H locs w18 hP hD hK hS => ?_)
      obtain ⟨V20, L21⟩ := u17
      obtain ⟨hMV20, ajV20, axL21, t19⟩ := w18
      have axL21 : L = L21 := Eq.symm axL21
      subst axL21
      have hP : va_P D vwCl (xw ad kk V20 L Z) H := hP
      have hD : va_D A (xw ad kk V20 L Z) := hD
      have hMV20 : rgd bX V20 := hMV20
      have ajV20 : agr [(5, 7)] [39] V V20 := ajV20
      have agV20 : agr [(3, 15), (5, 6), (5, 7), (5, 9)] [30, 31, 32, 39, 67, 68, 69, 70, 71, 72, 73, 74, 75, 76, 77, 78, 79, 80, 81, 82, 83, 84, 85] V V20 := agV.tr ajV20 (by decide) (by decide)
      have t19 : (((V 5 7).toInt < 2048) ∧ V20 = (up2 (up2 V 5 7 (V 5 7 + 1)) 39 (Int32.toNatClampNeg (V 5 7)) (V 5 10))) ∨ ((2048 ≤ (V 5 7).toInt) ∧ V20 = V) := t19
      rcases t19 with ⟨hc22, hw23⟩ | ⟨hc24, hw25⟩
      · skip
        have r27 : 0 ≤ ((V 5 7)).toInt ∧ ((V 5 7)).toInt ≤ 2048 := hMV 5 7
        obtain ⟨z26, ez26⟩ : ∃ y : Int32, y = V 5 7 + 1 := ⟨_, rfl⟩
        have hz26 : z26.toInt = (V 5 7).toInt + 1 := i_add ez26 rfl (by decide) (by (first | exact om_988fd9260074 r27.1 r27.2 | omega))
        obtain ⟨V28, hV28⟩ : ∃ z, z = up2 V 5 7 z26 := ⟨_, rfl⟩
        have hV20 : V20 = up2 V28 39 (Int32.toNatClampNeg (V 5 7)) (V 5 10) := by rw [hw23, hV28, ez26]
        refine lv_iconst (v := 1) hx hb dX5_takesAnswer_16 (by decide) ?_
        have pq29 : (V20 5 6).toInt = ((V 5 6)).toInt := congrArg Int32.toInt ((up2_o hV20 (by decide)).trans (up2_k hV28 (by decide)))
        have pq30 : (V20 67 gf).toInt = ((V 67 gf)).toInt := congrArg Int32.toInt ((up2_o hV20 (by decide)).trans (up2_o hV28 (by decide)))
        have me31 : ME V V20 gf := (ME.up (ME.up ME.rf hV28 (Or.inr (by omega))) hV20 (Or.inr (by omega)))
        have pq32 : (V20 68 gf).toInt = ((V 68 gf)).toInt := congrArg Int32.toInt ((up2_o hV20 (by decide)).trans (up2_o hV28 (by decide)))
        have pq33 : (V20 70 gf).toInt = ((V 70 gf)).toInt := congrArg Int32.toInt ((up2_o hV20 (by decide)).trans (up2_o hV28 (by decide)))
        have pq34 : (V20 71 gf).toInt = ((V 71 gf)).toInt := congrArg Int32.toInt ((up2_o hV20 (by decide)).trans (up2_o hV28 (by decide)))
        have pq35 : (V20 75 gf).toInt = ((V 75 gf)).toInt := congrArg Int32.toInt ((up2_o hV20 (by decide)).trans (up2_o hV28 (by decide)))
        have pq36 : (V20 76 gf).toInt = ((V 76 gf)).toInt := congrArg Int32.toInt ((up2_o hV20 (by decide)).trans (up2_o hV28 (by decide)))
        have pq37 : (V20 80 gf).toInt = ((V 80 gf)).toInt := congrArg Int32.toInt ((up2_o hV20 (by decide)).trans (up2_o hV28 (by decide)))
        have pq38 : (V20 84 gf).toInt = ((V 84 gf)).toInt := congrArg Int32.toInt ((up2_o hV20 (by decide)).trans (up2_o hV28 (by decide)))
        have pq39 : (V20 5 8).toInt = ((V 5 8)).toInt := congrArg Int32.toInt ((up2_o hV20 (by decide)).trans (up2_k hV28 (by decide)))
        have pq40 : (V20 5 9).toInt = ((V 5 9)).toInt := congrArg Int32.toInt ((up2_o hV20 (by decide)).trans (up2_k hV28 (by decide)))
        have pq41 : (V20 3 13).toInt = ((V 3 13)).toInt := congrArg Int32.toInt ((up2_o hV20 (by decide)).trans (up2_o hV28 (by decide)))
        have pq42 : (V20 43 (5 * b + 2)).toInt = ((V 43 (5 * b + 2))).toInt := congrArg Int32.toInt ((up2_o hV20 (by decide)).trans (up2_o hV28 (by decide)))
        have pq43 : (V20 42 b).toInt = ((V 42 b)).toInt := congrArg Int32.toInt ((up2_o hV20 (by decide)).trans (up2_o hV28 (by decide)))
        have pq44 : (V20 41 b).toInt = ((V 41 b)).toInt := congrArg Int32.toInt ((up2_o hV20 (by decide)).trans (up2_o hV28 (by decide)))
        have ep47 : V20 84 gf = (V 84 gf) := ((up2_o hV20 (by decide)).trans (up2_o hV28 (by decide)))
        have af46 : (V20 42 b).toInt ≤ (V20 84 gf).toInt ∨ (bdp V20 b (V20 84 gf).toInt.toNat).1 = true := by rw [ep47, me31.1.bd, me31.1 42 b (by decide) (by decide)]; exact ft
        have mo45 : MO V20 Z b gf True True True := MO.ch mo me31 ((up2_o hV20 (by decide)).trans (up2_o hV28 (by decide))) ((up2_o hV20 (by decide)).trans (up2_o hV28 (by decide))) (fun _ => Or.inl (by omega)) (fun x h => FK.k4 (by omega) (by omega) (by omega) af46 (by omega) (fun hph => absurd hph (by omega)))
        have tt9 := RWl.tot rl
        have tt8 := sf.2.1
        have tt7 : totP (gfr :: gr) ≤ 2000 := tt8
        obtain ⟨U9, hU9⟩ : ∃ z, z = up2 V20 68 gf 0 := ⟨_, rfl⟩
        have wr48 : (U9 3 13).toInt = (V 3 13).toInt := congrArg Int32.toInt ((up2_o hU9 (by decide)).trans ((up2_o hV20 (by decide)).trans (up2_o hV28 (by decide))))
        have wr49 : (U9 3 12).toInt = (V 3 12).toInt := congrArg Int32.toInt ((up2_o hU9 (by decide)).trans ((up2_o hV20 (by decide)).trans (up2_o hV28 (by decide))))
        have wr50 : (U9 67 gf).toInt = ((V 67 gf)).toInt := (congrArg Int32.toInt ((up2_o hU9 (by decide)).trans ((up2_o hV20 (by decide)).trans (up2_o hV28 (by decide)))))
        have wr51 : (U9 68 gf).toInt = 0 := (congrArg Int32.toInt (up2_s hU9)).trans (by decide)
        have wr52 : (U9 69 gf).toInt = ((V 69 gf)).toInt := (congrArg Int32.toInt ((up2_o hU9 (by decide)).trans ((up2_o hV20 (by decide)).trans (up2_o hV28 (by decide)))))
        have wr53 : (U9 70 gf).toInt = ((V 70 gf)).toInt := (congrArg Int32.toInt ((up2_o hU9 (by decide)).trans ((up2_o hV20 (by decide)).trans (up2_o hV28 (by decide)))))
        have wr54 : (U9 71 gf).toInt = ((V 71 gf)).toInt := (congrArg Int32.toInt ((up2_o hU9 (by decide)).trans ((up2_o hV20 (by decide)).trans (up2_o hV28 (by decide)))))
        have wr55 : (U9 72 gf).toInt = ((V 72 gf)).toInt := (congrArg Int32.toInt ((up2_o hU9 (by decide)).trans ((up2_o hV20 (by decide)).trans (up2_o hV28 (by decide)))))
        have wr56 : (U9 73 gf).toInt = ((V 73 gf)).toInt := (congrArg Int32.toInt ((up2_o hU9 (by decide)).trans ((up2_o hV20 (by decide)).trans (up2_o hV28 (by decide)))))
        have wr57 : (U9 75 gf).toInt = ((V 75 gf)).toInt := (congrArg Int32.toInt ((up2_o hU9 (by decide)).trans ((up2_o hV20 (by decide)).trans (up2_o hV28 (by decide)))))
        have wr58 : (U9 84 gf).toInt = ((V 84 gf)).toInt := (congrArg Int32.toInt ((up2_o hU9 (by decide)).trans ((up2_o hV20 (by decide)).trans (up2_o hV28 (by decide)))))
        have tx9 : (Int32.toNatClampNeg (V 5 7)) = tw9 := by have h9 := i_clamp (x := V 5 7) rfl (by (first | exact om_eafa9039069c r27.1 | omega)); omega
        have me59 : ME V U9 gf := (ME.up (ME.up (ME.up ME.rf hV28 (Or.inr (by omega))) hV20 (Or.inr (by omega))) hU9 (Or.inl ⟨by decide, by decide, Nat.le_refl _⟩))
        have rl60 : RWl U9 gB gr t0 := RWl.mv hlr (fun i9 hi9 c9 h1 h2 => me59.2.1 c9 i9 h1 h2 (by omega)) (fun j9 hj9 => ((up2_o hU9 (by decide)).trans ((up2_k hV20 (by omega)).trans (up2_o hV28 (by decide))))) (by rw [((up2_o hU9 (by decide)).trans ((up2_o hV20 (by decide)).trans (up2_o hV28 (by decide))))]; exact Int.le_refl _) ((up2_o hU9 (by decide)).trans ((up2_o hV20 (by decide)).trans (up2_o hV28 (by decide))))
        have fo8 : FRc U9 gB gr.length (Fwork lv o c sc me ps at9 v (ga :: p)) := by rw [gl9]; exact ⟨⟨by omega, by omega⟩, ⟨by omega, ⟨by omega, by omega, by omega⟩, ⟨by omega, by omega, by omega⟩, ⟨by omega, by omega, by omega⟩⟩, (fun h9 => by have h8 := hps9 h9; exact ⟨by omega, by omega, by omega, by omega⟩), ⟨a0, by omega⟩, (((up2_o hU9 (by decide)).trans ((up2_o hV20 (by decide)).trans (up2_o hV28 (by decide)))).trans q74)⟩
        have rlu : RWl U9 gB (Fwork lv o c sc me ps at9 v (ga :: p) :: gr) (tw9 + 1) := ⟨t0, (show tw9 + 1 = t0 + (p.length + 1) from by omega), fo8, fun _ _ => (by rw [gl9, ((up2_o hU9 (by decide)).trans ((up2_o hV20 (by decide)).trans (up2_o hV28 (by decide))))]; exact hb8), ⟨tw9, rfl, (by rw [← tx9]; exact ((up2_o hU9 (by decide)).trans (up2_s hV20)).trans (rh.2.1 (show gm 0 6 = 1 from by (first | exact om_e9389ed92ad9 sg1 rh1 | omega)))), plC.mv hp8 (fun j9 hj9 => ((up2_o hU9 (by decide)).trans ((up2_k hV20 (by omega)).trans (up2_o hV28 (by decide)))))⟩, rl60⟩
        have pq62 : (U9 5 6).toInt = ((V 5 6)).toInt := congrArg Int32.toInt ((up2_o hU9 (by decide)).trans ((up2_o hV20 (by decide)).trans (up2_k hV28 (by decide))))
        have pq63 : (U9 5 7).toInt = z26.toInt := congrArg Int32.toInt ((up2_o hU9 (by decide)).trans ((up2_o hV20 (by decide)).trans (up2_s hV28)))
        have pq64 : (U9 5 9).toInt = ((V 5 9)).toInt := congrArg Int32.toInt ((up2_o hU9 (by decide)).trans ((up2_o hV20 (by decide)).trans (up2_k hV28 (by decide))))
        have rz9 : RW U9 gB (gm, ga, Fwork lv o c sc me ps at9 v (ga :: p) :: gr) := RW.id rwq (ESw.ag (show agr [(5, 7)] [39, 68] V U9 from (agr.up (agr.up (agr.up agr.rf hV28 rfl) hV20 rfl) hU9 rfl)) (by decide)) ((up2_o hU9 (by decide)).trans ((up2_o hV20 (by decide)).trans (up2_k hV28 (by decide)))) ((up2_o hU9 (by decide)).trans ((up2_o hV20 (by decide)).trans (up2_k hV28 (by decide)))) ((up2_o hU9 (by decide)).trans ((up2_o hV20 (by decide)).trans (up2_k hV28 (by decide)))) ((up2_o hU9 (by decide)).trans ((up2_o hV20 (by decide)).trans (up2_k hV28 (by decide)))) (show (U9 5 6).toInt = ((gr.length + 1 : Nat) : Int) from by (first | exact om_ccabef0d2974 gd gl9 pq62 | omega)) (show (U9 5 7).toInt = ((tw9 + 1 : Nat) : Int) from by omega) rlu
        have rx61 : ∃ f2, stM gB (gm, ga, gfr :: gr) = (gm, ga, f2 :: gr) ∧ RW (up2 V20 68 gf 0) gB (gm, ga, f2 :: gr) := ⟨_, (by rw [hfe, st_13y (show gm 0 6 = 1 from by (first | exact om_e9389ed92ad9 sg1 rh1 | omega))]), (by rw [← hU9]; exact rz9)⟩
        refine W.know (fun kr1 kr2 => ?_)
        refine W.widen (k := zcc Z) (n := zss Z) (Nat.sub_le _ _) (Nat.sub_le _ _) ?_
        exact W.zret (v := 1) hx hb hr rfl (fun t ht hW => ⟨⟨1, (V20, L, Z), rfl, ⟨hMV20, agV20, rfl, zoZ, (by decide), (Imp.mk (fun _ => mo45)), (Imp.mk (fun hp => absurd hp (by decide))), (Imp.mk (fun _ => (show (V20 5 6).toInt = (V 5 6).toInt ∧ (V20 67 gf).toInt = 4 from by (first | exact om_7c7da5faf5fa gk pq29 pq30 | omega)))), (Imp.mk (fun _ => rfl)), (Or.inl ⟨rfl, rx61⟩)⟩, ⟨by rw [ht]; exact hP, va_K.moved hW.alike hK, hD⟩, by rw [ht]; exact kr1, by rw [ht]; exact kr2⟩, hS.F ht⟩) hS.2.2 dX5_takesAnswer_17
      · skip
        have ajV20 : agr [] [] V V20 := by rw [hw25]; exact agr.rf
        refine lv_iconst (v := 1) hx hb dX5_takesAnswer_16 (by decide) ?_
        have pq65 : (V20 5 6).toInt = ((V 5 6)).toInt := congrArg Int32.toInt (ajV20 5 6 rfl)
        have pq66 : (V20 67 gf).toInt = ((V 67 gf)).toInt := congrArg Int32.toInt (ajV20 67 gf rfl)
        have me67 : ME V V20 gf := (ME.tr ME.rf (ME.ag ajV20 (by decide)))
        have pq68 : (V20 68 gf).toInt = ((V 68 gf)).toInt := congrArg Int32.toInt (ajV20 68 gf rfl)
        have pq69 : (V20 70 gf).toInt = ((V 70 gf)).toInt := congrArg Int32.toInt (ajV20 70 gf rfl)
        have pq70 : (V20 71 gf).toInt = ((V 71 gf)).toInt := congrArg Int32.toInt (ajV20 71 gf rfl)
        have pq71 : (V20 75 gf).toInt = ((V 75 gf)).toInt := congrArg Int32.toInt (ajV20 75 gf rfl)
        have pq72 : (V20 76 gf).toInt = ((V 76 gf)).toInt := congrArg Int32.toInt (ajV20 76 gf rfl)
        have pq73 : (V20 80 gf).toInt = ((V 80 gf)).toInt := congrArg Int32.toInt (ajV20 80 gf rfl)
        have pq74 : (V20 84 gf).toInt = ((V 84 gf)).toInt := congrArg Int32.toInt (ajV20 84 gf rfl)
        have pq75 : (V20 5 8).toInt = ((V 5 8)).toInt := congrArg Int32.toInt (ajV20 5 8 rfl)
        have pq76 : (V20 5 9).toInt = ((V 5 9)).toInt := congrArg Int32.toInt (ajV20 5 9 rfl)
        have pq77 : (V20 3 13).toInt = ((V 3 13)).toInt := congrArg Int32.toInt (ajV20 3 13 rfl)
        have pq78 : (V20 43 (5 * b + 2)).toInt = ((V 43 (5 * b + 2))).toInt := congrArg Int32.toInt (ajV20 43 (5 * b + 2) rfl)
        have pq79 : (V20 42 b).toInt = ((V 42 b)).toInt := congrArg Int32.toInt (ajV20 42 b rfl)
        have pq80 : (V20 41 b).toInt = ((V 41 b)).toInt := congrArg Int32.toInt (ajV20 41 b rfl)
        have af82 : (V20 42 b).toInt ≤ (V20 84 gf).toInt ∨ (bdp V20 b (V20 84 gf).toInt.toNat).1 = true := by rw [(ajV20 84 gf rfl), me67.1.bd, me67.1 42 b (by decide) (by decide)]; exact ft
        have mo81 : MO V20 Z b gf True True True := MO.ch mo me67 (ajV20 67 gf rfl) (ajV20 80 gf rfl) (fun _ => Or.inl (by omega)) (fun x h => FK.k4 (by omega) (by omega) (by omega) af82 (by omega) (fun hph => absurd hph (by omega)))
        have tt9 := RWl.tot rl
        have tt8 := sf.2.1
        have tt7 : totP (gfr :: gr) ≤ 2000 := tt8
        have r83 : 0 ≤ ((V 5 7)).toInt ∧ ((V 5 7)).toInt ≤ 2048 := hMV 5 7
        refine W.know (fun kr1 kr2 => ?_)
        refine W.widen (k := zcc Z) (n := zss Z) (Nat.sub_le _ _) (Nat.sub_le _ _) ?_
        exact W.zret (v := 1) hx hb hr rfl (fun t ht hW => ⟨⟨1, (V20, L, Z), rfl, ⟨hMV20, agV20, rfl, zoZ, (by decide), (Imp.mk (fun _ => mo81)), (Imp.mk (fun hp => absurd hp (by decide))), (Imp.mk (fun _ => (show (V20 5 6).toInt = (V 5 6).toInt ∧ (V20 67 gf).toInt = 4 from by (first | exact om_7c7da5faf5fa gk pq65 pq66 | omega)))), (Imp.mk (fun _ => rfl)), (by exfalso; omega)⟩, ⟨by rw [ht]; exact hP, va_K.moved hW.alike hK, hD⟩, by rw [ht]; exact kr1, by rw [ht]; exact kr2⟩, hS.F ht⟩) hS.2.2 dX5_takesAnswer_17
  · skip
    have hf : FRc V gB gf (Fask lv o c sc at9 nd tg v g p) := by rw [← hfe]; exact hf0
    have tl8 : tw9 = t0 + (Fask lv o c sc at9 nd tg v g p : Fr).2.2.2.length := by rw [← hfe]; exact tl9
    obtain ⟨⟨k67, k68⟩, hoc, ⟨a0, q84⟩, q75, q77, q74, q78⟩ := hf
    obtain ⟨q69, ⟨q70, o0, o1⟩, ⟨q71, c0, c1⟩, ⟨q72, s0, s1⟩⟩ := hoc
    have cn9 : c.toNat < nC gB := by omega
    have kc9 : Int32.toNatClampNeg (V 71 gf) = c.toNat := by have h9 := i_clamp (x := V 71 gf) rfl (by omega); omega
    have ko9 : Int32.toNatClampNeg (V 70 gf) = o.toNat := by have h9 := i_clamp (x := V 70 gf) rfl (by omega); omega
    have tl7 : tw9 = t0 + p.length := tl8
    have hb8 : (V 85 gf).toInt = (t0 : Int) := hbs9 (by rw [hfe]; exact (by decide : (12 : Nat) ≤ 14)) (by rw [hfe]; exact (by decide : (14 : Nat) ≤ 16))
    have hp8 : plC V tw9 p := by have h9 := hpl9; rw [hfe] at h9; exact h9
    exfalso; omega
  · skip
    have hf : FRc V gB gf (Fget lv o c sc at9 nd tg v g p) := by rw [← hfe]; exact hf0
    have tl8 : tw9 = t0 + (Fget lv o c sc at9 nd tg v g p : Fr).2.2.2.length := by rw [← hfe]; exact tl9
    obtain ⟨⟨k67, k68⟩, hoc, ⟨a0, q84⟩, q75, q77, q74, q78⟩ := hf
    obtain ⟨q69, ⟨q70, o0, o1⟩, ⟨q71, c0, c1⟩, ⟨q72, s0, s1⟩⟩ := hoc
    have cn9 : c.toNat < nC gB := by omega
    have kc9 : Int32.toNatClampNeg (V 71 gf) = c.toNat := by have h9 := i_clamp (x := V 71 gf) rfl (by omega); omega
    have ko9 : Int32.toNatClampNeg (V 70 gf) = o.toNat := by have h9 := i_clamp (x := V 70 gf) rfl (by omega); omega
    have tl7 : tw9 = t0 + p.length := tl8
    have hb8 : (V 85 gf).toInt = (t0 : Int) := hbs9 (by rw [hfe]; exact (by decide : (12 : Nat) ≤ 15)) (by rw [hfe]; exact (by decide : (15 : Nat) ≤ 16))
    have hp8 : plC V tw9 p := by have h9 := hpl9; rw [hfe] at h9; exact h9
    have r77 : 0 ≤ (V 77 gf).toInt ∧ (V 77 gf).toInt ≤ 19 := hMV 77 gf
    have sft : SFt gB gm ga (Fget lv o c sc at9 nd tg v g p) := by rw [← hfe]; exact sf.2.2.2.2 gfr gr rfl
    obtain ⟨sl7, jnn, sg7⟩ := sft
    refine lv_aload_n hx hb dX5_takesAnswer_0 rfl (lv_at hl 1 rfl) ?_
    refine va_getN (D := D) (ci := 4) (v := .int (V 68 gf)) (fs := (xfFrame V gf)) (C := RX4) (T := TX4) (N := 19) hx hb hg inX4 hown hK hP (336 + gf) (xgFrame hgf) rfl 1 (by decide) (hnw.use 1190 n1190 rfl) (fun _ h9 => h9) rfl dX5_takesAnswer_1 ?_
    refine lv_iconst (v := 1) hx hb dX5_takesAnswer_4 (by decide) ?_
    refine lv_icmp_ne (tgt := 18) hx hb dX5_takesAnswer_5 (by decide) (fun c84 => ?_) (fun c84 => ?_)
    · skip
      have f85 : ((V 68 gf)).toInt ≠ 1 := b_neq rfl (by decide) c84
      refine lv_aload_n hx hb dX5_takesAnswer_18 rfl (lv_at hl 1 rfl) ?_
      refine va_getN (D := D) (ci := 4) (v := .int (V 68 gf)) (fs := (xfFrame V gf)) (C := RX4) (T := TX4) (N := 19) hx hb hg inX4 hown hK hP (336 + gf) (xgFrame hgf) rfl 1 (by decide) (hnw.use 1190 n1190 rfl) (fun _ h9 => h9) rfl dX5_takesAnswer_19 ?_
      refine lv_bipush (v := 7) hx hb dX5_takesAnswer_22 (by decide) ?_
      refine lv_icmp_ne (tgt := 69) hx hb dX5_takesAnswer_24 (by decide) (fun c86 => ?_) (fun c86 => ?_)
      · skip
        have f87 : ((V 68 gf)).toInt ≠ 7 := b_neq rfl (by decide) c86
        exfalso; omega
      · skip
        have f88 : ((V 68 gf)).toInt = 7 := b_eq rfl (by decide) c86
        have a10 : V 5 10 = ga := rh.2.1 (show gm 0 6 = 1 from by (first | exact om_e9389ed92ad9 sg1 rh1 | omega))
        have sg5 := sg7 (show gm 0 6 = 1 from by (first | exact om_e9389ed92ad9 sg1 rh1 | omega))
        refine lv_aload_n hx hb dX5_takesAnswer_27 rfl (lv_at hl 0 rfl) ?_
        refine lv_aload_n hx hb dX5_takesAnswer_28 rfl (lv_at hl 1 rfl) ?_
        refine lv_aload_n hx hb dX5_takesAnswer_29 rfl (lv_at hl 0 rfl) ?_
        refine va_get (D := D) (ci := 5) (v := .int (V 5 10)) (fs := (xfMachine ad V L Z)) (C := RX5) (T := TX5) (N := 15) hx hb hg inX5 hown hK hP 5 xgMachine rfl 10 (by decide) (hg _ w677) (fun _ h9 => h9) rfl dX5_takesAnswer_30 ?_
        refine W.know (fun k90 k91 => ?_)
        obtain ⟨Hk89, hHk89⟩ : ∃ z, z = H := ⟨_, rfl⟩
        have k90 : Hk89.size ≤ s.heap.size + (zcc Z - zcc Z) := by rw [hHk89]; exact k90
        have k91 : tot Hk89 ≤ tot s.heap + (zss Z - zss Z) := by rw [hHk89]; exact k91
        refine gZ_void (gA_runV (As := [.ref (Z.fa gf), .int (V 5 10)]) (rest := []) (ci := 5) (q0 := 5) hx hb hml hown hg hP hD hK hS hA hnw hgk (x_joinLate9 l D ks H.size ad kk V L Z (V 5 10) (b) (gf) (gB) (gm) (ga) (gfr) (gr) hMV (show b < 2 from by (first | exact om_f940a4667dd6 hb2 | omega)) (show gf < Z.nf from by (first | exact om_8c5722e49bb1 hgf | omega)) mo (show (gf : Int) + 1 = (V 5 6).toInt from by (first | exact om_b7eb86266639 gd | omega)) (show (V 67 gf).toInt = 4 from by (first | exact om_c88e7ce0b8a2 gk | omega)) (show (V 68 gf).toInt = 7 from by (first | exact om_ba873a6da76b f88 | omega)) (show ((V 5 10)).toInt = (V 5 10).toInt from by (first | exact om_4c2c879c4424 | omega)) rwq bc (show (V 5 6).toInt ≤ 395 from by (first | exact om_944563b32814 gd gl9 sl9 | omega)) a10 (show 0 ≤ ga.toInt ∧ ga.toInt < gm 0 2 from by omega) (show (V 75 gf).toInt ≤ 7 from by omega) jnn) w1470 w1472 w73 w171 w1473 rfl xgMachine hdV_yX5_joinLate ⟨Nat.le_of_ble_eq_true rfl, Nat.le_of_ble_eq_true rfl⟩ rfl hl.1 rfl (Nat.le_of_ble_eq_true rfl) dX5_takesAnswer_33 ⟨z1 zoZ.1, z1 zoZ.2.1⟩) hD hS hA (fun u93 H locs w94 hP hD hK hS y95 y96 => ?_)
        obtain ⟨V97, L98, Z99⟩ := u93
        obtain ⟨hMV97, ajV97, axL98, zlZ99, t101, t102⟩ := w94
        have axL98 : L = L98 := Eq.symm axL98
        subst axL98
        have hP : va_P D vwCl (xw ad kk V97 L Z99) H := hP
        have hD : va_D A (xw ad kk V97 L Z99) := hD
        have hK : va_K D vwCl (xty kk Z99) s := hK
        have hMV97 : rgd bX V97 := hMV97
        have ajV97 : agr [(3, 15)] [30, 31, 32] V V97 := ajV97
        have agV97 : agr [(3, 15), (5, 6), (5, 7), (5, 9)] [30, 31, 32, 39, 67, 68, 69, 70, 71, 72, 73, 74, 75, 76, 77, 78, 79, 80, 81, 82, 83, 84, 85] V V97 := agV.tr ajV97 (by decide) (by decide)
        have zlZ99 : ZL Z Z99 := zlZ99
        have zoZ99 : ZL Z Z99 := ZL.tr zoZ zlZ99
        have ziZ99 := zlZ99.1
        have zjZ99 := zlZ99.2.1
        have zkZ99 := zlZ99.2.2.1
        have zmZ99 := zoZ99.1
        have znZ99 := zoZ99.2.1
        have zpZ_Z99 := zoZ.1
        have zqZ_Z99 := zoZ.2.1
        have y95 : H.size ≤ Hk89.size + (zcc Z - zcc Z99) := by rw [hHk89]; exact y95
        have y96 : tot H ≤ tot Hk89 + (zss Z - zss Z99) := by rw [hHk89]; exact y96
        refine W.tight (k := zcc Z - zcc Z99) (n := zss Z - zss Z99) (by first | exact tg9 y95 k90 zlZ99.1 zoZ.1 | omega) (by first | exact tg9 y96 k91 zlZ99.2.1 zoZ.2.1 | omega) ?_
        have hl : lv_has ls 3 [(0, .ref (ad 5)), (1, .ref (Z99.fa gf))] := by rw [zlZ99.2.2.2.2 gf hgf]; exact hl
        have t101 : MO V97 Z99 b gf True False True := t101
        have t102 : RW V97 gB (lateJ gB gm ga (V 70 gf).toInt.toNat (V 75 gf).toInt.toNat, ga, gfr :: gr) := t102
        have mup := MO.up t101
        have msz := mup.1
        have mbk := mup.2.2.2.1
        obtain ⟨xk, fk⟩ := MO.fk t101
        have pq103 : (V97 67 gf).toInt = ((V 67 gf)).toInt := congrArg Int32.toInt (ajV97 67 gf rfl)
        have pq104 : (V97 68 gf).toInt = ((V 68 gf)).toInt := congrArg Int32.toInt (ajV97 68 gf rfl)
        have pq105 : (V97 70 gf).toInt = ((V 70 gf)).toInt := congrArg Int32.toInt (ajV97 70 gf rfl)
        have pq106 : (V97 71 gf).toInt = ((V 71 gf)).toInt := congrArg Int32.toInt (ajV97 71 gf rfl)
        have pq107 : (V97 75 gf).toInt = ((V 75 gf)).toInt := congrArg Int32.toInt (ajV97 75 gf rfl)
        have pq108 : (V97 76 gf).toInt = ((V 76 gf)).toInt := congrArg Int32.toInt (ajV97 76 gf rfl)
        have pq109 : (V97 80 gf).toInt = ((V 80 gf)).toInt := congrArg Int32.toInt (ajV97 80 gf rfl)
        have pq110 : (V97 84 gf).toInt = ((V 84 gf)).toInt := congrArg Int32.toInt (ajV97 84 gf rfl)
        have pq111 : (V97 5 6).toInt = ((V 5 6)).toInt := congrArg Int32.toInt (ajV97 5 6 rfl)
        have pq112 : (V97 5 8).toInt = ((V 5 8)).toInt := congrArg Int32.toInt (ajV97 5 8 rfl)
        have pq113 : (V97 5 9).toInt = ((V 5 9)).toInt := congrArg Int32.toInt (ajV97 5 9 rfl)
        have pq114 : (V97 3 13).toInt = ((V 3 13)).toInt := congrArg Int32.toInt (ajV97 3 13 rfl)
        have pq115 : (V97 43 (5 * b + 2)).toInt = ((V 43 (5 * b + 2))).toInt := congrArg Int32.toInt (ajV97 43 (5 * b + 2) rfl)
        have pq116 : (V97 41 b).toInt = ((V 41 b)).toInt := congrArg Int32.toInt (ajV97 41 b rfl)
        have pq117 : (V97 42 b).toInt = ((V 42 b)).toInt := congrArg Int32.toInt (ajV97 42 b rfl)
        have fc := fk.1 (by omega)
        have fo := fk.2.1 (by omega) (by omega)
        have ft := fk.2.2.1 (by omega)
        have fq := fk.2.2.2.1 (by omega)
        have ftx : (V97 42 b).toInt ≤ (V 84 gf).toInt ∨ (bdp V97 b (V 84 gf).toInt.toNat).1 = true := by have q := ft; rw [(ajV97 84 gf rfl)] at q; exact q
        refine lv_aload_n hx hb dX5_takesAnswer_36 rfl (lv_at hl 1 rfl) ?_
        refine lv_iconst (v := 1) hx hb dX5_takesAnswer_37 (by decide) ?_
        have il118 : gf < Z99.nf := by omega
        refine va_putN (D := D) (ci := 4) (v := .int 1) (ty := tyX4 1) (fs := (xfFrame V97 gf)) (C := RX4) (T := TX4) (N := 19) hx hb hg inX4 tyX4 tyX4_ok nmX4 hown hK hP hD hS (336 + gf) (xgFrame il118) rfl 1 (by decide) (hnw.use 1190 n1190 rfl) (fun _ h9 => h9) rfl (tyX4_ok 1 (by decide)) rfl rfl (Nat.le_of_ble_eq_true rfl) dX5_takesAnswer_38 (fun H locs hP hD hS => ?_)
        obtain ⟨V119, hV119⟩ : ∃ z, z = up2 V97 68 gf 1 := ⟨_, rfl⟩
        have ew120 : (xw ad kk V97 L Z99).set (336 + gf) ((Z99.fa gf), .inr (4, (xfFrame V97 gf).set 1 (.int 1))) = xw ad kk V119 L Z99 := by rw [hV119]; exact xpFrame_phase il118
        have hP : va_P D vwCl (xw ad kk V119 L Z99) H := by rw [← ew120]; exact hP
        have hD : va_D A (xw ad kk V119 L Z99) := by rw [← ew120]; exact hD
        have hMV119 : rgd bX V119 := hMV97.put hV119 (i_full _)
        have agV119 : agr [(3, 15), (5, 6), (5, 7), (5, 9)] [30, 31, 32, 39, 67, 68, 69, 70, 71, 72, 73, 74, 75, 76, 77, 78, 79, 80, 81, 82, 83, 84, 85] V V119 := agV97.up hV119 rfl
        refine lv_aload_n hx hb dX5_takesAnswer_41 rfl (lv_at hl 0 rfl) ?_
        refine lv_aload_n hx hb dX5_takesAnswer_42 rfl (lv_at hl 0 rfl) ?_
        refine va_get (D := D) (ci := 5) (v := .int (V119 5 10)) (fs := (xfMachine ad V119 L Z99)) (C := RX5) (T := TX5) (N := 15) hx hb hg inX5 hown hK hP 5 xgMachine rfl 10 (by decide) (hg _ w677) (fun _ h9 => h9) rfl dX5_takesAnswer_43 ?_
        refine g_top (v := (V 5 10)) ((up2_o hV119 (by decide)).trans (ajV97 5 10 rfl)) ?_
        refine lv_aload_n hx hb dX5_takesAnswer_46 rfl (lv_at hl 1 rfl) ?_
        refine va_getN (D := D) (ci := 4) (v := .int (V119 72 gf)) (fs := (xfFrame V119 gf)) (C := RX4) (T := TX4) (N := 19) hx hb hg inX4 hown hK hP (336 + gf) (xgFrame il118) rfl 5 (by decide) (hnw.use 1194 n1194 rfl) (fun _ h9 => h9) rfl dX5_takesAnswer_47 ?_
        refine g_top (v := (V 72 gf)) ((up2_o hV119 (by decide)).trans (ajV97 72 gf rfl)) ?_
        have r121 : 0 ≤ ((V 72 gf)).toInt ∧ ((V 72 gf)).toInt ≤ 39 := hMV 72 gf
        refine lv_aload_n hx hb dX5_takesAnswer_50 rfl (lv_at hl 1 rfl) ?_
        refine va_getN (D := D) (ci := 4) (v := .int (V119 77 gf)) (fs := (xfFrame V119 gf)) (C := RX4) (T := TX4) (N := 19) hx hb hg inX4 hown hK hP (336 + gf) (xgFrame il118) rfl 10 (by decide) (hnw.use 1199 n1199 rfl) (fun _ h9 => h9) rfl dX5_takesAnswer_51 ?_
        refine g_top (v := (V 77 gf)) ((up2_o hV119 (by decide)).trans (ajV97 77 gf rfl)) ?_
        have r122 : 0 ≤ ((V 77 gf)).toInt ∧ ((V 77 gf)).toInt ≤ 19 := hMV 77 gf
        refine lv_aload_n hx hb dX5_takesAnswer_54 rfl (lv_at hl 1 rfl) ?_
        refine va_getN (D := D) (ci := 4) (v := .int (V119 78 gf)) (fs := (xfFrame V119 gf)) (C := RX4) (T := TX4) (N := 19) hx hb hg inX4 hown hK hP (336 + gf) (xgFrame il118) rfl 11 (by decide) (hnw.use 1200 n1200 rfl) (fun _ h9 => h9) rfl dX5_takesAnswer_55 ?_
        refine g_top (v := (V 78 gf)) ((up2_o hV119 (by decide)).trans (ajV97 78 gf rfl)) ?_
        refine lv_aload_n hx hb dX5_takesAnswer_58 rfl (lv_at hl 1 rfl) ?_
        refine va_getN (D := D) (ci := 4) (v := .int (V119 69 gf)) (fs := (xfFrame V119 gf)) (C := RX4) (T := TX4) (N := 19) hx hb hg inX4 hown hK hP (336 + gf) (xgFrame il118) rfl 2 (by decide) (hnw.use 1191 n1191 rfl) (fun _ h9 => h9) rfl dX5_takesAnswer_59 ?_
        refine g_top (v := (V 69 gf)) ((up2_o hV119 (by decide)).trans (ajV97 69 gf rfl)) ?_
        refine lv_iconst (v := 1) hx hb dX5_takesAnswer_62 (by decide) ?_
        refine lv_iadd hx hb dX5_takesAnswer_63 ?_
        have r123 := i_full (V 69 gf)
        refine lv_topi (fun z124 ez124 => ?_)
        have hz124 : Imp (-2147483648 ≤ ((V 69 gf)).toInt + 1 ∧ ((V 69 gf)).toInt + 1 ≤ 2147483647) (z124.toInt = ((V 69 gf)).toInt + 1) := Imp.mk (fun hp => i_add ez124 rfl (by decide) hp)
        have me125 : ME V97 V119 gf := (ME.up ME.rf hV119 (Or.inl ⟨by decide, by decide, Nat.le_refl _⟩))
        have pq126 : (V119 67 gf).toInt = ((V 67 gf)).toInt := congrArg Int32.toInt ((up2_o hV119 (by decide)).trans (ajV97 67 gf rfl))
        have pq127 : (V119 68 gf).toInt = 1 := (congrArg Int32.toInt (up2_s hV119)).trans (by decide)
        have pq128 : (V119 70 gf).toInt = ((V 70 gf)).toInt := congrArg Int32.toInt ((up2_o hV119 (by decide)).trans (ajV97 70 gf rfl))
        have pq129 : (V119 71 gf).toInt = ((V 71 gf)).toInt := congrArg Int32.toInt ((up2_o hV119 (by decide)).trans (ajV97 71 gf rfl))
        have pq130 : (V119 75 gf).toInt = ((V 75 gf)).toInt := congrArg Int32.toInt ((up2_o hV119 (by decide)).trans (ajV97 75 gf rfl))
        have pq131 : (V119 76 gf).toInt = ((V 76 gf)).toInt := congrArg Int32.toInt ((up2_o hV119 (by decide)).trans (ajV97 76 gf rfl))
        have pq132 : (V119 80 gf).toInt = ((V 80 gf)).toInt := congrArg Int32.toInt ((up2_o hV119 (by decide)).trans (ajV97 80 gf rfl))
        have pq133 : (V119 84 gf).toInt = ((V 84 gf)).toInt := congrArg Int32.toInt ((up2_o hV119 (by decide)).trans (ajV97 84 gf rfl))
        have pq134 : (V119 5 6).toInt = ((V 5 6)).toInt := congrArg Int32.toInt ((up2_o hV119 (by decide)).trans (ajV97 5 6 rfl))
        have pq135 : (V119 5 8).toInt = ((V 5 8)).toInt := congrArg Int32.toInt ((up2_o hV119 (by decide)).trans (ajV97 5 8 rfl))
        have pq136 : (V119 5 9).toInt = ((V 5 9)).toInt := congrArg Int32.toInt ((up2_o hV119 (by decide)).trans (ajV97 5 9 rfl))
        have pq137 : (V119 3 13).toInt = ((V 3 13)).toInt := congrArg Int32.toInt ((up2_o hV119 (by decide)).trans (ajV97 3 13 rfl))
        have pq138 : (V119 43 (5 * b + 2)).toInt = ((V 43 (5 * b + 2))).toInt := congrArg Int32.toInt ((up2_o hV119 (by decide)).trans (ajV97 43 (5 * b + 2) rfl))
        have pq139 : (V119 42 b).toInt = ((V 42 b)).toInt := congrArg Int32.toInt ((up2_o hV119 (by decide)).trans (ajV97 42 b rfl))
        have pq140 : (V119 41 b).toInt = ((V 41 b)).toInt := congrArg Int32.toInt ((up2_o hV119 (by decide)).trans (ajV97 41 b rfl))
        have ep143 : V119 84 gf = (V 84 gf) := ((up2_o hV119 (by decide)).trans (ajV97 84 gf rfl))
        have af142 : (V119 42 b).toInt ≤ (V119 84 gf).toInt ∨ (bdp V119 b (V119 84 gf).toInt.toNat).1 = true := by rw [ep143, me125.1.bd, me125.1 42 b (by decide) (by decide)]; exact ftx
        have mo141 : MO V119 Z99 b gf True True True := MO.ch t101 me125 (up2_o hV119 (by decide)) (up2_o hV119 (by decide)) (fun _ => Or.inl (by omega)) (fun x h => FK.k4 (by first | omega | ((try (have i_hz124 := Imp.go hz124 (by omega))); omega)) (by first | omega | ((try (have i_hz124 := Imp.go hz124 (by omega))); omega)) (by first | omega | ((try (have i_hz124 := Imp.go hz124 (by omega))); omega)) af142 (by first | omega | ((try (have i_hz124 := Imp.go hz124 (by omega))); omega)) (fun hph => absurd hph (by omega)))
        have mt144 : MT V119 Z99 b := MO.mt mo141 (by (first | exact om_c09d41618ed8 il118 | omega)) (by (first | exact om_82fa09255765 gd pq134 | omega))
        refine W.know (fun k146 k147 => ?_)
        obtain ⟨Hk145, hHk145⟩ : ∃ z, z = H := ⟨_, rfl⟩
        have k146 : Hk145.size ≤ s.heap.size + (zcc Z - zcc Z99) := by rw [hHk145]; exact k146
        have k147 : tot Hk145 ≤ tot s.heap + (zss Z - zss Z99) := by rw [hHk145]; exact k147
        refine gZ_void (gA_runV (As := [.int (V 5 10), .int (V 72 gf), .int (V 77 gf), .int (V 78 gf), .int z124]) (rest := []) (ci := 5) (q0 := 5) hx hb hml hown hg hP hD hK hS hA hnw hgk (x_pushCall9 l D ks H.size ad kk V119 L Z99 (V 5 10) (V 72 gf) (V 77 gf) (V 78 gf) z124 (b) hMV119 (by first | exact om_13ba01c174fe r121.1 r121.2 | first | omega | ((try (have i_hz124 := Imp.go hz124 (by omega))); omega)) (by first | exact om_0916ac166aa8 r77.1 r77.2 | first | omega | ((try (have i_hz124 := Imp.go hz124 (by omega))); omega)) (show b < 2 from by first | exact om_f940a4667dd6 hb2 | first | omega | ((try (have i_hz124 := Imp.go hz124 (by omega))); omega)) mt144) w1454 w1455 w1456 w171 w1457 rfl xgMachine hdV_yX5_pushCall ⟨Nat.le_of_ble_eq_true rfl, Nat.le_of_ble_eq_true rfl⟩ rfl hl.1 rfl (Nat.le_of_ble_eq_true rfl) dX5_takesAnswer_64 ⟨z1 zoZ99.1, z1 zoZ99.2.1⟩) hD hS hA (fun u149 H locs w150 hP hD hK hS y151 y152 => ?_)
        obtain ⟨V153, L154, Z155⟩ := u149
        obtain ⟨hMV153, ajV153, axL154, zlZ155, t157, t158⟩ := w150
        have axL154 : L = L154 := Eq.symm axL154
        subst axL154
        have hP : va_P D vwCl (xw ad kk V153 L Z155) H := hP
        have hD : va_D A (xw ad kk V153 L Z155) := hD
        have hK : va_K D vwCl (xty kk Z155) s := hK
        have hMV153 : rgd bX V153 := hMV153
        have ajV153 : agr [(5, 6), (5, 9)] [67, 68, 69, 70, 71, 72, 73, 74, 75, 76, 77, 78, 79, 80, 81, 82, 83, 84, 85] V119 V153 := ajV153
        have agV153 : agr [(3, 15), (5, 6), (5, 7), (5, 9)] [30, 31, 32, 39, 67, 68, 69, 70, 71, 72, 73, 74, 75, 76, 77, 78, 79, 80, 81, 82, 83, 84, 85] V V153 := agV119.tr ajV153 (by decide) (by decide)
        have zlZ155 : ZL Z99 Z155 := zlZ155
        have zoZ155 : ZL Z Z155 := ZL.tr zoZ99 zlZ155
        have ziZ155 := zlZ155.1
        have zjZ155 := zlZ155.2.1
        have zkZ155 := zlZ155.2.2.1
        have zmZ155 := zoZ155.1
        have znZ155 := zoZ155.2.1
        have zpZ99_Z155 := zoZ99.1
        have zqZ99_Z155 := zoZ99.2.1
        have y151 : H.size ≤ Hk145.size + (zcc Z99 - zcc Z155) := by rw [hHk145]; exact y151
        have y152 : tot H ≤ tot Hk145 + (zss Z99 - zss Z155) := by rw [hHk145]; exact y152
        refine W.tight (k := zcc Z - zcc Z155) (n := zss Z - zss Z155) (by first | exact tg9 y151 k146 zlZ155.1 zoZ99.1 | omega) (by first | exact tg9 y152 k147 zlZ155.2.1 zoZ99.2.1 | omega) ?_
        have hl : lv_has ls 3 [(0, .ref (ad 5)), (1, .ref (Z155.fa gf))] := by rw [zlZ155.2.2.2.2 gf il118]; exact hl
        have t157 : MJ V153 Z155 b := t157
        have t158 : Imp ((V119 5 6).toInt < 400) (PCa V119 V153 ((V119 5 6).toInt.toNat) (V 5 10) (V 72 gf) (V 77 gf) (V 78 gf) z124) := t158
        refine lv_iconst (v := 0) hx hb dX5_takesAnswer_67 (by decide) ?_
        have r159 : 0 ≤ ((V153 5 6)).toInt ∧ ((V153 5 6)).toInt ≤ 400 := hMV153 5 6
        have tt9 := RWl.tot rl
        have tt8 := sf.2.1
        have tt7 : totP (gfr :: gr) ≤ 2000 := tt8
        have kp7 : (V 70 gf).toInt.toNat = o.toNat := by first | exact congrArg Int.toNat q70 | omega
        have kp6 : (V 75 gf).toInt.toNat = nd.toNat := by first | exact congrArg Int.toNat q75 | omega
        have rwl9 : RW V97 gB (lateJ gB gm ga o.toNat nd.toNat, ga, gfr :: gr) := by have h9 := t102; rw [kp7, kp6] at h9; exact h9
        have a10 : V 5 10 = ga := (rh.2.1 (show gm 0 6 = 1 from by (first | exact om_e9389ed92ad9 sg1 rh1 | omega)))
        have pa9 : (V 5 10).toInt = ga.toInt := by rw [a10]
        have sg6 := sg7 (show gm 0 6 = 1 from by (first | exact om_e9389ed92ad9 sg1 rh1 | omega))
        have pq160 : (V97 5 7).toInt = ((V 5 7)).toInt := congrArg Int32.toInt (ajV97 5 7 rfl)
        have r161 : 0 ≤ ((V 5 7)).toInt ∧ ((V 5 7)).toInt ≤ 2048 := hMV 5 7
        obtain ⟨_, _, _, t7, rt7, rlj⟩ := id rwl9
        have rlj : RWl V97 gB (gfr :: gr) t7 := rlj
        obtain ⟨tu8, ti7, _, _, _, hlj⟩ := rlj
        have et8 : tu8 = t0 := by omega
        rw [et8] at hlj
        have pw := Imp.go t158 (by (first | exact om_f2444a3e49ba gd gl9 sl9 pq134 | omega))
        have pi9 : (V119 5 6).toInt.toNat = gr.length + 1 := by (first | exact om_e14d89dbab7d gd gl9 pq134 | omega)
        rw [pi9] at pw
        obtain ⟨⟨pd1, pd2, pke⟩, ⟨pk1, pk2⟩, p69, p70, p72, p73, p74, pc1, pc2, pc3⟩ := pw
        have wr162 := congrArg Int32.toInt p69
        have wr163 := congrArg Int32.toInt p70
        have wr164 := congrArg Int32.toInt p72
        have wr165 := congrArg Int32.toInt p73
        have lz9 : z124.toInt = (V 69 gf).toInt + 1 := i_add ez124 rfl (by decide) (by omega)
        have wr166 : (V153 3 13).toInt = (V 3 13).toInt := congrArg Int32.toInt ((ajV153 3 13 rfl).trans ((up2_o hV119 (by decide)).trans (ajV97 3 13 rfl)))
        have wr167 : (V153 3 12).toInt = (V 3 12).toInt := congrArg Int32.toInt ((ajV153 3 12 rfl).trans ((up2_o hV119 (by decide)).trans (ajV97 3 12 rfl)))
        have wr168 : (V153 67 gf).toInt = ((V 67 gf)).toInt := (congrArg Int32.toInt ((pke gf (by omega) 67 (by decide) (by decide)).trans ((up2_o hV119 (by decide)).trans (ajV97 67 gf rfl))))
        have wr169 : (V153 68 gf).toInt = 1 := (congrArg Int32.toInt ((pke gf (by omega) 68 (by decide) (by decide)).trans (up2_s hV119))).trans (by decide)
        have wr170 : (V153 69 gf).toInt = ((V 69 gf)).toInt := (congrArg Int32.toInt ((pke gf (by omega) 69 (by decide) (by decide)).trans ((up2_o hV119 (by decide)).trans (ajV97 69 gf rfl))))
        have wr171 : (V153 70 gf).toInt = ((V 70 gf)).toInt := (congrArg Int32.toInt ((pke gf (by omega) 70 (by decide) (by decide)).trans ((up2_o hV119 (by decide)).trans (ajV97 70 gf rfl))))
        have wr172 : (V153 71 gf).toInt = ((V 71 gf)).toInt := (congrArg Int32.toInt ((pke gf (by omega) 71 (by decide) (by decide)).trans ((up2_o hV119 (by decide)).trans (ajV97 71 gf rfl))))
        have wr173 : (V153 72 gf).toInt = ((V 72 gf)).toInt := (congrArg Int32.toInt ((pke gf (by omega) 72 (by decide) (by decide)).trans ((up2_o hV119 (by decide)).trans (ajV97 72 gf rfl))))
        have wr174 : (V153 84 gf).toInt = ((V 84 gf)).toInt := (congrArg Int32.toInt ((pke gf (by omega) 84 (by decide) (by decide)).trans ((up2_o hV119 (by decide)).trans (ajV97 84 gf rfl))))
        have me175 : ME V97 V119 gf := (ME.up ME.rf hV119 (Or.inl ⟨by decide, by decide, Nat.le_refl _⟩))
        have rl176 : RWl V153 gB gr t0 := RWl.mv hlj (fun i9 hi9 c9 h1 h2 => ((pke i9 (by omega) c9 h1 h2)).trans (me175.2.1 c9 i9 h1 h2 (by omega))) (fun j9 hj9 => ((ajV153 39 j9 rfl).trans (up2_o hV119 (by decide)))) (by rw [((ajV153 3 13 rfl).trans (up2_o hV119 (by decide)))]; exact Int.le_refl _) ((ajV153 3 12 rfl).trans (up2_o hV119 (by decide)))
        have fo8 : FRc V153 gB gr.length (Fwait lv o c sc 0 0 at9 v p) := by rw [gl9]; exact ⟨⟨by omega, by omega⟩, ⟨by omega, ⟨by omega, by omega, by omega⟩, ⟨by omega, by omega, by omega⟩, ⟨by omega, by omega, by omega⟩⟩, (fun h9 => absurd h9 (by decide)), ⟨a0, by omega⟩, ((pke gf (by omega) 74 (by decide) (by decide)).trans (((up2_o hV119 (by decide)).trans (ajV97 74 gf rfl)).trans q74))⟩
        have rl177 : RWl V153 gB (Fwait lv o c sc 0 0 at9 v p :: gr) tw9 := ⟨t0, tl7, fo8, fun _ _ => (by rw [gl9, ((pke gf (by omega) 85 (by decide) (by decide)).trans ((up2_o hV119 (by decide)).trans (ajV97 85 gf rfl)))]; exact hb8), plC.mv hp8 (fun j9 _ => (show agr [(3, 15), (5, 6), (5, 9)] [30, 31, 32, 67, 68, 69, 70, 71, 72, 73, 74, 75, 76, 77, 78, 79, 80, 81, 82, 83, 84, 85] V V153 from (agr.tr (agr.up (agr.tr agr.rf ajV97 (by decide) (by decide)) hV119 rfl) ajV153 (by decide) (by decide))) 39 j9 rfl), rl176⟩
        have b13 : (V119 3 13).toInt = (V 3 13).toInt := congrArg Int32.toInt (((up2_o hV119 (by decide)).trans (ajV97 3 13 rfl)))
        have n249 := bc.2.2.2.1.2.1
        have c71 : (0 ≤ ga.toInt → (V153 71 (gr.length + 1)).toInt = (gm 1 ga.toInt.toNat)) ∧ (0 ≤ (V153 71 (gr.length + 1)).toInt ∧ (V153 71 (gr.length + 1)).toInt < ((nC gB : Nat) : Int)) := by
          by_cases h9 : 0 ≤ ga.toInt
          · have h8 := pc1 ⟨by omega, by omega⟩
            have h7 := rn.2.1 ga.toInt.toNat (by omega)
            have h6 : Int32.toNatClampNeg (V 5 10) = ga.toInt.toNat := by have h5 := i_clamp (x := (V 5 10)) rfl (by omega); (first | exact om_7fa990895e35 pa9 h5 | omega)
            rw [h6, ((up2_o hV119 (by decide)).trans (ajV97 26 ga.toInt.toNat rfl))] at h8
            have h5 := congrArg Int32.toInt h8
            have h4 := h7.1.1
            have h3 := h7.2.2.1
            exact ⟨fun _ => by omega, by omega, by omega⟩
          · have h8 := pc2 (fun h7 => h9 (by omega))
            exact ⟨fun h7 => absurd h7 h9, by omega, by omega⟩
        have ft9 : FRc V153 gB (gr.length + 1) (Fcall0 (lv + 1) ga.toInt (gm 1 ga.toInt.toNat) sc tg g) := ⟨⟨pk1, pk2⟩, by omega, by omega, fun h9 => ⟨by omega, c71.1 h9⟩, c71.2, ⟨by omega, by omega, by omega⟩, ⟨by omega, by omega, by omega⟩, p74.trans q78⟩
        have rz9 : RW V153 gB (mU (lateJ gB gm ga o.toNat nd.toNat) 0 6 0, ga, Fcall0 (lv + 1) ga.toInt (gm 1 ga.toInt.toNat) sc tg g :: Fwait lv o c sc 0 0 at9 v p :: gr) := RW.sgn rwl9 (ESw.ag (show agr [(5, 6), (5, 9)] [67, 68, 69, 70, 71, 72, 73, 74, 75, 76, 77, 78, 79, 80, 81, 82, 83, 84, 85] V97 V153 from (agr.tr (agr.up agr.rf hV119 rfl) ajV153 (by decide) (by decide))) (by decide)) pd2 (fun h9 => absurd h9 (by decide)) (fun h9 => absurd h9 (by decide)) (show (V153 5 6).toInt = ((gr.length + 1 + 1 : Nat) : Int) from by omega) (show (V153 5 7).toInt = ((tw9 : Nat) : Int) from by rw [((ajV153 5 7 rfl).trans ((up2_o hV119 (by decide)).trans (ajV97 5 7 rfl)))]; exact rt9) (RWl.push rl177 ft9 rfl (np9 rfl))
        have rx178 : RW V153 gB (stM gB (gm, ga, gfr :: gr)) := by rw [hfe, st_15y (show gm 0 6 = 1 from by (first | exact om_e9389ed92ad9 sg1 rh1 | omega))]; exact rz9
        refine W.know (fun kr1 kr2 => ?_)
        refine W.widen (k := zcc Z) (n := zss Z) (Nat.sub_le _ _) (Nat.sub_le _ _) ?_
        exact W.zret (v := 0) hx hb hr rfl (fun t ht hW => ⟨⟨0, (V153, L, Z155), rfl, ⟨hMV153, agV153, rfl, zoZ155, (by decide), (Imp.mk (fun hp => absurd hp (by decide))), (Imp.mk (fun _ => t157)), (Imp.mk (fun hp => absurd hp (by decide))), (Imp.mk (fun hp => absurd hp (by decide))), (Or.inr ⟨rfl, rx178⟩)⟩, ⟨by rw [ht]; exact hP, va_K.moved hW.alike hK, hD⟩, by rw [ht]; exact kr1, by rw [ht]; exact kr2⟩, hS.F ht⟩) hS.2.2 dX5_takesAnswer_68
    · skip
      have f179 : ((V 68 gf)).toInt = 1 := b_eq rfl (by decide) c84
      exfalso; omega
  · skip
    have hf : FRc V gB gf (Fsum lv o c sc at9 nd tg it v g u p) := by rw [← hfe]; exact hf0
    have tl8 : tw9 = t0 + (Fsum lv o c sc at9 nd tg it v g u p : Fr).2.2.2.length := by rw [← hfe]; exact tl9
    obtain ⟨⟨k67, k68⟩, hoc, ⟨a0, q84⟩, q75, q77, q76, q74, q78, q79⟩ := hf
    obtain ⟨q69, ⟨q70, o0, o1⟩, ⟨q71, c0, c1⟩, ⟨q72, s0, s1⟩⟩ := hoc
    have cn9 : c.toNat < nC gB := by omega
    have kc9 : Int32.toNatClampNeg (V 71 gf) = c.toNat := by have h9 := i_clamp (x := V 71 gf) rfl (by omega); omega
    have ko9 : Int32.toNatClampNeg (V 70 gf) = o.toNat := by have h9 := i_clamp (x := V 70 gf) rfl (by omega); omega
    have tl7 : tw9 = t0 + p.length := tl8
    have hb8 : (V 85 gf).toInt = (t0 : Int) := hbs9 (by rw [hfe]; exact (by decide : (12 : Nat) ≤ 16)) (by rw [hfe]; exact (by decide : (16 : Nat) ≤ 16))
    have hp8 : plC V tw9 p := by have h9 := hpl9; rw [hfe] at h9; exact h9
    have r77 : 0 ≤ (V 77 gf).toInt ∧ (V 77 gf).toInt ≤ 19 := hMV 77 gf
    have sft : SFt gB gm ga (Fsum lv o c sc at9 nd tg it v g u p) := by rw [← hfe]; exact sf.2.2.2.2 gfr gr rfl
    obtain ⟨sl7, n07, i07, j0, j24, jnn⟩ := sft
    have kn9 : Int32.toNatClampNeg (V 75 gf) = nd.toNat := by have h9 := i_clamp (x := V 75 gf) rfl (by (first | exact om_eafa9039069c r4.1 | omega)); omega
    refine lv_aload_n hx hb dX5_takesAnswer_0 rfl (lv_at hl 1 rfl) ?_
    refine va_getN (D := D) (ci := 4) (v := .int (V 68 gf)) (fs := (xfFrame V gf)) (C := RX4) (T := TX4) (N := 19) hx hb hg inX4 hown hK hP (336 + gf) (xgFrame hgf) rfl 1 (by decide) (hnw.use 1190 n1190 rfl) (fun _ h9 => h9) rfl dX5_takesAnswer_1 ?_
    refine lv_iconst (v := 1) hx hb dX5_takesAnswer_4 (by decide) ?_
    refine lv_icmp_ne (tgt := 18) hx hb dX5_takesAnswer_5 (by decide) (fun c180 => ?_) (fun c180 => ?_)
    · skip
      have f181 : ((V 68 gf)).toInt ≠ 1 := b_neq rfl (by decide) c180
      refine lv_aload_n hx hb dX5_takesAnswer_18 rfl (lv_at hl 1 rfl) ?_
      refine va_getN (D := D) (ci := 4) (v := .int (V 68 gf)) (fs := (xfFrame V gf)) (C := RX4) (T := TX4) (N := 19) hx hb hg inX4 hown hK hP (336 + gf) (xgFrame hgf) rfl 1 (by decide) (hnw.use 1190 n1190 rfl) (fun _ h9 => h9) rfl dX5_takesAnswer_19 ?_
      refine lv_bipush (v := 7) hx hb dX5_takesAnswer_22 (by decide) ?_
      refine lv_icmp_ne (tgt := 69) hx hb dX5_takesAnswer_24 (by decide) (fun c182 => ?_) (fun c182 => ?_)
      · skip
        have f183 : ((V 68 gf)).toInt ≠ 7 := b_neq rfl (by decide) c182
        refine lv_aload_n hx hb dX5_takesAnswer_69 rfl (lv_at hl 1 rfl) ?_
        refine lv_dup hx hb dX5_takesAnswer_70 rfl ?_
        refine va_getN (D := D) (ci := 4) (v := .int (V 79 gf)) (fs := (xfFrame V gf)) (C := RX4) (T := TX4) (N := 19) hx hb hg inX4 hown hK hP (336 + gf) (xgFrame hgf) rfl 12 (by decide) (hnw.use 1201 n1201 rfl) (fun _ h9 => h9) rfl dX5_takesAnswer_71 ?_
        refine lv_aload_n hx hb dX5_takesAnswer_74 rfl (lv_at hl 0 rfl) ?_
        refine va_get (D := D) (ci := 5) (v := .int (V 5 10)) (fs := (xfMachine ad V L Z)) (C := RX5) (T := TX5) (N := 15) hx hb hg inX5 hown hK hP 5 xgMachine rfl 10 (by decide) (hg _ w677) (fun _ h9 => h9) rfl dX5_takesAnswer_75 ?_
        refine lv_iadd hx hb dX5_takesAnswer_78 ?_
        have r184 := i_full (V 79 gf)
        have r185 := i_full (V 5 10)
        refine lv_topi (fun z186 ez186 => ?_)
        have hz186 : Imp (-2147483648 ≤ ((V 79 gf)).toInt + ((V 5 10)).toInt ∧ ((V 79 gf)).toInt + ((V 5 10)).toInt ≤ 2147483647) (z186.toInt = ((V 79 gf)).toInt + ((V 5 10)).toInt) := Imp.mk (fun hp => i_add ez186 rfl rfl hp)
        refine va_putN (D := D) (ci := 4) (v := .int z186) (ty := tyX4 12) (fs := (xfFrame V gf)) (C := RX4) (T := TX4) (N := 19) hx hb hg inX4 tyX4 tyX4_ok nmX4 hown hK hP hD hS (336 + gf) (xgFrame hgf) rfl 12 (by decide) (hnw.use 1201 n1201 rfl) (fun _ h9 => h9) rfl (tyX4_ok 12 (by decide)) rfl rfl (Nat.le_of_ble_eq_true rfl) dX5_takesAnswer_79 (fun H locs hP hD hS => ?_)
        obtain ⟨V187, hV187⟩ : ∃ z, z = up2 V 79 gf z186 := ⟨_, rfl⟩
        have ew188 : (xw ad kk V L Z).set (336 + gf) ((Z.fa gf), .inr (4, (xfFrame V gf).set 12 (.int z186))) = xw ad kk V187 L Z := by rw [hV187]; exact xpFrame_sum hgf
        have hP : va_P D vwCl (xw ad kk V187 L Z) H := by rw [← ew188]; exact hP
        have hD : va_D A (xw ad kk V187 L Z) := by rw [← ew188]; exact hD
        have hMV187 : rgd bX V187 := hMV.put hV187 (i_full _)
        have agV187 : agr [(3, 15), (5, 6), (5, 7), (5, 9)] [30, 31, 32, 39, 67, 68, 69, 70, 71, 72, 73, 74, 75, 76, 77, 78, 79, 80, 81, 82, 83, 84, 85] V V187 := agV.up hV187 rfl
        have pq189 : (V187 3 13).toInt = ((V 3 13)).toInt := congrArg Int32.toInt (up2_o hV187 (by decide))
        refine lv_aload_n hx hb dX5_takesAnswer_82 rfl (lv_at hl 0 rfl) ?_
        refine va_get (D := D) (ci := 5) (v := .ref (ad 3)) (fs := (xfMachine ad V187 L Z)) (C := RX5) (T := TX5) (N := 15) hx hb hg inX5 hown hK hP 5 xgMachine rfl 0 (by decide) (hg _ w667) (fun _ h9 => h9) rfl dX5_takesAnswer_83 ?_
        refine lv_aload_n hx hb dX5_takesAnswer_86 rfl (lv_at hl 1 rfl) ?_
        refine va_getN (D := D) (ci := 4) (v := .int (V187 70 gf)) (fs := (xfFrame V187 gf)) (C := RX4) (T := TX4) (N := 19) hx hb hg inX4 hown hK hP (336 + gf) (xgFrame hgf) rfl 3 (by decide) (hnw.use 1192 n1192 rfl) (fun _ h9 => h9) rfl dX5_takesAnswer_87 ?_
        refine g_top (v := (V 70 gf)) (up2_o hV187 (by decide)) ?_
        refine lv_aload_n hx hb dX5_takesAnswer_90 rfl (lv_at hl 1 rfl) ?_
        refine va_getN (D := D) (ci := 4) (v := .int (V187 75 gf)) (fs := (xfFrame V187 gf)) (C := RX4) (T := TX4) (N := 19) hx hb hg inX4 hown hK hP (336 + gf) (xgFrame hgf) rfl 8 (by decide) (hnw.use 1197 n1197 rfl) (fun _ h9 => h9) rfl dX5_takesAnswer_91 ?_
        refine g_top (v := (V 75 gf)) (up2_o hV187 (by decide)) ?_
        refine lv_aload_n hx hb dX5_takesAnswer_94 rfl (lv_at hl 1 rfl) ?_
        refine va_getN (D := D) (ci := 4) (v := .int (V187 76 gf)) (fs := (xfFrame V187 gf)) (C := RX4) (T := TX4) (N := 19) hx hb hg inX4 hown hK hP (336 + gf) (xgFrame hgf) rfl 9 (by decide) (hnw.use 1198 n1198 rfl) (fun _ h9 => h9) rfl dX5_takesAnswer_95 ?_
        refine g_top (v := (V 76 gf)) (up2_o hV187 (by decide)) ?_
        have me190 : ME V V187 0 := (ME.up ME.rf hV187 (Or.inl ⟨by decide, by decide, by first | omega | ((try (have i_hz186 := Imp.go hz186 (by omega))); omega)⟩))
        have sl191 : SL V187 Z := by unfold SL; rw [me190.2.2.1.2.1, me190.2.2.1.1]; exact ⟨mup.2.2.2.2.1.1, mup.2.2.2.2.1.2.1, fun o k a1 a2 => by rw [me190.2.2.2.2.1]; exact mup.2.2.2.2.1.2.2.1 o k a1 a2, fun i a1 => by rw [me190.2.2.2.2.2.1]; exact mup.2.2.2.2.1.2.2.2 i a1⟩
        refine gA_int (gA_runV (As := [.int (V 70 gf), .int (V 75 gf), .int (V 76 gf)]) (rest := []) (ci := 8) (q0 := 3) hx hb hml hown hg hP hD hK hS hA hnw hgk (x_joinedTo9 l D ks H.size ad kk V187 L Z (V 70 gf) (V 75 gf) (V 76 gf) (ow) ((jl gm (8 * o.toNat + nd.toNat))) hMV187 sl191 (by rw [ko9, kn9]; exact CHN.mv (V := V) (by rw [(up2_o hV187 (by decide))]; exact Int.le_refl _) (fun i9 _ => (up2_o hV187 (by decide))) (fun i9 _ _ => (up2_o hV187 (by decide))) _ _ (by rw [(up2_o hV187 (by decide))]; exact (rn.2.2.1 o.toNat nd.toNat (by omega) (by omega)).1)) (show 0 ≤ ((V 70 gf)).toInt from by first | omega | ((try (have i_hz186 := Imp.go hz186 (by omega))); omega)) (show ((V 70 gf)).toInt < (V187 3 13).toInt from by first | omega | ((try (have i_hz186 := Imp.go hz186 (by omega))); omega)) (show 0 ≤ ((V 75 gf)).toInt from by first | exact om_eafa9039069c r4.1 | first | omega | ((try (have i_hz186 := Imp.go hz186 (by omega))); omega)) (show ((V 75 gf)).toInt ≤ 7 from by first | omega | ((try (have i_hz186 := Imp.go hz186 (by omega))); omega)) (show 0 ≤ ((V 76 gf)).toInt from by first | omega | ((try (have i_hz186 := Imp.go hz186 (by omega))); omega))) w1439 w1440 w1441 w164 w1442 rfl xgStock hdV_yX8_joinedTo ⟨Nat.le_of_ble_eq_true rfl, Nat.le_of_ble_eq_true rfl⟩ rfl hl.1 rfl (Nat.le_of_ble_eq_true rfl) dX5_takesAnswer_98 ⟨z0, z0⟩) hP hD hK hS hA (fun z192 u193 H locs w194 hP hD hK hS => ?_)
        have t195 := w194
        have t195 : JTo (jl gm (8 * o.toNat + nd.toNat)) ((V 76 gf)).toInt.toNat z192.toInt := t195
        refine lv_istore_n (lv' := [(2, .int z192), (0, .ref (ad 5)), (1, .ref (Z.fa gf))]) hx hb dX5_takesAnswer_101 rfl hl (by decide) rfl (fun ls hl => ?_)
        have jt9 := t195
        rw [q76] at jt9
        rcases jt9 with ⟨jz9, je9⟩ | ⟨x9, t8, je9, jz9⟩
        · skip
          have jd9 : jnd gm o.toNat nd.toNat it = none := by have h9 := jd_n je9; rw [(show ((it.toNat : Nat) : Int) = it from by omega)] at h9; exact h9
          refine lv_iload_n hx hb dX5_takesAnswer_102 rfl (lv_at hl 0 rfl) ?_
          refine lv_iconst (v := (-1)) hx hb dX5_takesAnswer_103 (by decide) ?_
          refine lv_icmp_ne (tgt := 117) hx hb dX5_takesAnswer_104 (by decide) (fun c196 => ?_) (fun c196 => ?_)
          · skip
            have f197 : z192.toInt ≠ (-1) := b_neq rfl (by decide) c196
            exfalso; first | omega | ((try (have i_hz186 := Imp.go hz186 (by omega))); omega)
          · skip
            have f198 : z192.toInt = (-1) := b_eq rfl (by decide) c196
            refine lv_aload_n hx hb dX5_takesAnswer_107 rfl (lv_at hl 1 rfl) ?_
            refine lv_aload_n hx hb dX5_takesAnswer_108 rfl (lv_at hl 2 rfl) ?_
            refine va_getN (D := D) (ci := 4) (v := .int (V187 79 gf)) (fs := (xfFrame V187 gf)) (C := RX4) (T := TX4) (N := 19) hx hb hg inX4 hown hK hP (336 + gf) (xgFrame hgf) rfl 12 (by decide) (hnw.use 1201 n1201 rfl) (fun _ h9 => h9) rfl dX5_takesAnswer_109 ?_
            refine g_top (v := z186) (up2_s hV187) ?_
            refine gA_void (gA_runV (As := [.int z186]) (rest := []) (ci := 5) (q0 := 5) hx hb hml hown hg hP hD hK hS hA hnw hgk (x_put9 l D ks H.size ad kk V187 L Z z186 hMV187 ) w1466 w1468 w72 w171 w1469 rfl xgMachine hdV_yX5_put ⟨Nat.le_of_ble_eq_true rfl, Nat.le_of_ble_eq_true rfl⟩ rfl hl.1 rfl (Nat.le_of_ble_eq_true rfl) dX5_takesAnswer_112 ⟨z0, z0⟩) hP hD hK hS hA (fun u200 H locs w201 hP hD hK hS => ?_)
            obtain ⟨V203, L204⟩ := u200
            obtain ⟨hMV203, ajV203, axL204, t202⟩ := w201
            have axL204 : L = L204 := Eq.symm axL204
            subst axL204
            have hP : va_P D vwCl (xw ad kk V203 L Z) H := hP
            have hD : va_D A (xw ad kk V203 L Z) := hD
            have hMV203 : rgd bX V203 := hMV203
            have ajV203 : agr [(5, 7)] [39] V187 V203 := ajV203
            have agV203 : agr [(3, 15), (5, 6), (5, 7), (5, 9)] [30, 31, 32, 39, 67, 68, 69, 70, 71, 72, 73, 74, 75, 76, 77, 78, 79, 80, 81, 82, 83, 84, 85] V V203 := agV187.tr ajV203 (by decide) (by decide)
            have t202 : (((V187 5 7).toInt < 2048) ∧ V203 = (up2 (up2 V187 5 7 (V187 5 7 + 1)) 39 (Int32.toNatClampNeg (V187 5 7)) z186)) ∨ ((2048 ≤ (V187 5 7).toInt) ∧ V203 = V187) := t202
            rcases t202 with ⟨hc205, hw206⟩ | ⟨hc207, hw208⟩
            · skip
              have pq210 : (V187 5 7).toInt = ((V 5 7)).toInt := congrArg Int32.toInt (up2_o hV187 (by decide))
              have r211 : 0 ≤ ((V 5 7)).toInt ∧ ((V 5 7)).toInt ≤ 2048 := hMV 5 7
              obtain ⟨z209, ez209⟩ : ∃ y : Int32, y = V187 5 7 + 1 := ⟨_, rfl⟩
              have hz209 : z209.toInt = (V187 5 7).toInt + 1 := i_add ez209 rfl (by decide) (by first | exact om_e8735de14d36 pq210 r211.1 r211.2 | first | omega | ((try (have i_hz186 := Imp.go hz186 (by omega))); omega))
              obtain ⟨V212, hV212⟩ : ∃ z, z = up2 V187 5 7 z209 := ⟨_, rfl⟩
              have hV203 : V203 = up2 V212 39 (Int32.toNatClampNeg (V187 5 7)) z186 := by rw [hw206, hV212, ez209]
              refine lv_iconst (v := 1) hx hb dX5_takesAnswer_115 (by decide) ?_
              have pq213 : (V203 5 6).toInt = ((V 5 6)).toInt := congrArg Int32.toInt ((up2_o hV203 (by decide)).trans ((up2_k hV212 (by decide)).trans (up2_o hV187 (by decide))))
              have pq214 : (V203 67 gf).toInt = ((V 67 gf)).toInt := congrArg Int32.toInt ((up2_o hV203 (by decide)).trans ((up2_o hV212 (by decide)).trans (up2_o hV187 (by decide))))
              have me215 : ME V V203 gf := (ME.up (ME.up (ME.up ME.rf hV187 (Or.inl ⟨by decide, by decide, Nat.le_refl _⟩)) hV212 (Or.inr (by omega))) hV203 (Or.inr (by omega)))
              have pq216 : (V203 68 gf).toInt = ((V 68 gf)).toInt := congrArg Int32.toInt ((up2_o hV203 (by decide)).trans ((up2_o hV212 (by decide)).trans (up2_o hV187 (by decide))))
              have pq217 : (V203 70 gf).toInt = ((V 70 gf)).toInt := congrArg Int32.toInt ((up2_o hV203 (by decide)).trans ((up2_o hV212 (by decide)).trans (up2_o hV187 (by decide))))
              have pq218 : (V203 71 gf).toInt = ((V 71 gf)).toInt := congrArg Int32.toInt ((up2_o hV203 (by decide)).trans ((up2_o hV212 (by decide)).trans (up2_o hV187 (by decide))))
              have pq219 : (V203 75 gf).toInt = ((V 75 gf)).toInt := congrArg Int32.toInt ((up2_o hV203 (by decide)).trans ((up2_o hV212 (by decide)).trans (up2_o hV187 (by decide))))
              have pq220 : (V203 76 gf).toInt = ((V 76 gf)).toInt := congrArg Int32.toInt ((up2_o hV203 (by decide)).trans ((up2_o hV212 (by decide)).trans (up2_o hV187 (by decide))))
              have pq221 : (V203 80 gf).toInt = ((V 80 gf)).toInt := congrArg Int32.toInt ((up2_o hV203 (by decide)).trans ((up2_o hV212 (by decide)).trans (up2_o hV187 (by decide))))
              have pq222 : (V203 84 gf).toInt = ((V 84 gf)).toInt := congrArg Int32.toInt ((up2_o hV203 (by decide)).trans ((up2_o hV212 (by decide)).trans (up2_o hV187 (by decide))))
              have pq223 : (V203 5 8).toInt = ((V 5 8)).toInt := congrArg Int32.toInt ((up2_o hV203 (by decide)).trans ((up2_k hV212 (by decide)).trans (up2_o hV187 (by decide))))
              have pq224 : (V203 5 9).toInt = ((V 5 9)).toInt := congrArg Int32.toInt ((up2_o hV203 (by decide)).trans ((up2_k hV212 (by decide)).trans (up2_o hV187 (by decide))))
              have pq225 : (V203 3 13).toInt = ((V 3 13)).toInt := congrArg Int32.toInt ((up2_o hV203 (by decide)).trans ((up2_o hV212 (by decide)).trans (up2_o hV187 (by decide))))
              have pq226 : (V203 43 (5 * b + 2)).toInt = ((V 43 (5 * b + 2))).toInt := congrArg Int32.toInt ((up2_o hV203 (by decide)).trans ((up2_o hV212 (by decide)).trans (up2_o hV187 (by decide))))
              have pq227 : (V203 42 b).toInt = ((V 42 b)).toInt := congrArg Int32.toInt ((up2_o hV203 (by decide)).trans ((up2_o hV212 (by decide)).trans (up2_o hV187 (by decide))))
              have pq228 : (V203 41 b).toInt = ((V 41 b)).toInt := congrArg Int32.toInt ((up2_o hV203 (by decide)).trans ((up2_o hV212 (by decide)).trans (up2_o hV187 (by decide))))
              have ep231 : V203 84 gf = (V 84 gf) := ((up2_o hV203 (by decide)).trans ((up2_o hV212 (by decide)).trans (up2_o hV187 (by decide))))
              have af230 : (V203 42 b).toInt ≤ (V203 84 gf).toInt ∨ (bdp V203 b (V203 84 gf).toInt.toNat).1 = true := by rw [ep231, me215.1.bd, me215.1 42 b (by decide) (by decide)]; exact ft
              have mo229 : MO V203 Z b gf True True True := MO.ch mo me215 ((up2_o hV203 (by decide)).trans ((up2_o hV212 (by decide)).trans (up2_o hV187 (by decide)))) ((up2_o hV203 (by decide)).trans ((up2_o hV212 (by decide)).trans (up2_o hV187 (by decide)))) (fun _ => Or.inl (by omega)) (fun x h => FK.k4 (by first | omega | ((try (have i_hz186 := Imp.go hz186 (by omega))); omega)) (by first | omega | ((try (have i_hz186 := Imp.go hz186 (by omega))); omega)) (by first | omega | ((try (have i_hz186 := Imp.go hz186 (by omega))); omega)) af230 (by first | omega | ((try (have i_hz186 := Imp.go hz186 (by omega))); omega)) (fun hph => absurd hph (by omega)))
              have tt9 := RWl.tot rl
              have tt8 := sf.2.1
              have tt7 : totP (gfr :: gr) ≤ 2000 := tt8
              obtain ⟨U9, hU9⟩ : ∃ z, z = up2 V203 68 gf 0 := ⟨_, rfl⟩
              have su9 : z186 = u + ga := by rw [ez186, q79, (rh.2.1 (show gm 0 6 = 1 from by (first | exact om_e9389ed92ad9 sg1 rh1 | omega)))]
              have wr232 : (U9 3 13).toInt = (V 3 13).toInt := congrArg Int32.toInt ((up2_o hU9 (by decide)).trans ((up2_o hV203 (by decide)).trans ((up2_o hV212 (by decide)).trans (up2_o hV187 (by decide)))))
              have wr233 : (U9 3 12).toInt = (V 3 12).toInt := congrArg Int32.toInt ((up2_o hU9 (by decide)).trans ((up2_o hV203 (by decide)).trans ((up2_o hV212 (by decide)).trans (up2_o hV187 (by decide)))))
              have wr234 : (U9 67 gf).toInt = ((V 67 gf)).toInt := (congrArg Int32.toInt ((up2_o hU9 (by decide)).trans ((up2_o hV203 (by decide)).trans ((up2_o hV212 (by decide)).trans (up2_o hV187 (by decide))))))
              have wr235 : (U9 68 gf).toInt = 0 := (congrArg Int32.toInt (up2_s hU9)).trans (by decide)
              have wr236 : (U9 69 gf).toInt = ((V 69 gf)).toInt := (congrArg Int32.toInt ((up2_o hU9 (by decide)).trans ((up2_o hV203 (by decide)).trans ((up2_o hV212 (by decide)).trans (up2_o hV187 (by decide))))))
              have wr237 : (U9 70 gf).toInt = ((V 70 gf)).toInt := (congrArg Int32.toInt ((up2_o hU9 (by decide)).trans ((up2_o hV203 (by decide)).trans ((up2_o hV212 (by decide)).trans (up2_o hV187 (by decide))))))
              have wr238 : (U9 71 gf).toInt = ((V 71 gf)).toInt := (congrArg Int32.toInt ((up2_o hU9 (by decide)).trans ((up2_o hV203 (by decide)).trans ((up2_o hV212 (by decide)).trans (up2_o hV187 (by decide))))))
              have wr239 : (U9 72 gf).toInt = ((V 72 gf)).toInt := (congrArg Int32.toInt ((up2_o hU9 (by decide)).trans ((up2_o hV203 (by decide)).trans ((up2_o hV212 (by decide)).trans (up2_o hV187 (by decide))))))
              have wr240 : (U9 84 gf).toInt = ((V 84 gf)).toInt := (congrArg Int32.toInt ((up2_o hU9 (by decide)).trans ((up2_o hV203 (by decide)).trans ((up2_o hV212 (by decide)).trans (up2_o hV187 (by decide))))))
              have tx9 : (Int32.toNatClampNeg (V187 5 7)) = tw9 := by have h9 := i_clamp (x := V187 5 7) rfl (by (first | exact om_ec2623e552ae pq210 r211.1 | omega)); omega
              have me241 : ME V U9 gf := (ME.up (ME.up (ME.up (ME.up ME.rf hV187 (Or.inl ⟨by decide, by decide, Nat.le_refl _⟩)) hV212 (Or.inr (by omega))) hV203 (Or.inr (by omega))) hU9 (Or.inl ⟨by decide, by decide, Nat.le_refl _⟩))
              have rl242 : RWl U9 gB gr t0 := RWl.mv hlr (fun i9 hi9 c9 h1 h2 => me241.2.1 c9 i9 h1 h2 (by omega)) (fun j9 hj9 => ((up2_o hU9 (by decide)).trans ((up2_k hV203 (by omega)).trans ((up2_o hV212 (by decide)).trans (up2_o hV187 (by decide)))))) (by rw [((up2_o hU9 (by decide)).trans ((up2_o hV203 (by decide)).trans ((up2_o hV212 (by decide)).trans (up2_o hV187 (by decide)))))]; exact Int.le_refl _) ((up2_o hU9 (by decide)).trans ((up2_o hV203 (by decide)).trans ((up2_o hV212 (by decide)).trans (up2_o hV187 (by decide)))))
              have fo8 : FRc U9 gB gr.length (Fwork lv o c sc 0 0 at9 v ((u + ga) :: p)) := by rw [gl9]; exact ⟨⟨by omega, by omega⟩, ⟨by omega, ⟨by omega, by omega, by omega⟩, ⟨by omega, by omega, by omega⟩, ⟨by omega, by omega, by omega⟩⟩, (fun h9 => absurd h9 (by decide)), ⟨a0, by omega⟩, (((up2_o hU9 (by decide)).trans ((up2_o hV203 (by decide)).trans ((up2_o hV212 (by decide)).trans (up2_o hV187 (by decide))))).trans q74)⟩
              have rlu : RWl U9 gB (Fwork lv o c sc 0 0 at9 v ((u + ga) :: p) :: gr) (tw9 + 1) := ⟨t0, (show tw9 + 1 = t0 + (p.length + 1) from by omega), fo8, fun _ _ => (by rw [gl9, ((up2_o hU9 (by decide)).trans ((up2_o hV203 (by decide)).trans ((up2_o hV212 (by decide)).trans (up2_o hV187 (by decide)))))]; exact hb8), ⟨tw9, rfl, (by rw [← tx9]; exact ((up2_o hU9 (by decide)).trans (up2_s hV203)).trans su9), plC.mv hp8 (fun j9 hj9 => ((up2_o hU9 (by decide)).trans ((up2_k hV203 (by omega)).trans ((up2_o hV212 (by decide)).trans (up2_o hV187 (by decide))))))⟩, rl242⟩
              have pq244 : (U9 5 6).toInt = ((V 5 6)).toInt := congrArg Int32.toInt ((up2_o hU9 (by decide)).trans ((up2_o hV203 (by decide)).trans ((up2_k hV212 (by decide)).trans (up2_o hV187 (by decide)))))
              have pq245 : (U9 5 7).toInt = z209.toInt := congrArg Int32.toInt ((up2_o hU9 (by decide)).trans ((up2_o hV203 (by decide)).trans (up2_s hV212)))
              have pq246 : (U9 5 9).toInt = ((V 5 9)).toInt := congrArg Int32.toInt ((up2_o hU9 (by decide)).trans ((up2_o hV203 (by decide)).trans ((up2_k hV212 (by decide)).trans (up2_o hV187 (by decide)))))
              have rz9 : RW U9 gB (gm, ga, Fwork lv o c sc 0 0 at9 v ((u + ga) :: p) :: gr) := RW.id rwq (ESw.ag (show agr [(5, 7)] [39, 68, 79] V U9 from (agr.up (agr.up (agr.up (agr.up agr.rf hV187 rfl) hV212 rfl) hV203 rfl) hU9 rfl)) (by decide)) ((up2_o hU9 (by decide)).trans ((up2_o hV203 (by decide)).trans ((up2_k hV212 (by decide)).trans (up2_o hV187 (by decide))))) ((up2_o hU9 (by decide)).trans ((up2_o hV203 (by decide)).trans ((up2_k hV212 (by decide)).trans (up2_o hV187 (by decide))))) ((up2_o hU9 (by decide)).trans ((up2_o hV203 (by decide)).trans ((up2_k hV212 (by decide)).trans (up2_o hV187 (by decide))))) ((up2_o hU9 (by decide)).trans ((up2_o hV203 (by decide)).trans ((up2_k hV212 (by decide)).trans (up2_o hV187 (by decide))))) (show (U9 5 6).toInt = ((gr.length + 1 : Nat) : Int) from by (first | exact om_ccabef0d2974 gd gl9 pq244 | omega)) (show (U9 5 7).toInt = ((tw9 + 1 : Nat) : Int) from by omega) rlu
              have rx243 : ∃ f2, stM gB (gm, ga, gfr :: gr) = (gm, ga, f2 :: gr) ∧ RW (up2 V203 68 gf 0) gB (gm, ga, f2 :: gr) := ⟨_, (by rw [hfe, st_16e (show gm 0 6 = 1 from by (first | exact om_e9389ed92ad9 sg1 rh1 | omega)) jd9]), (by rw [← hU9]; exact rz9)⟩
              refine W.know (fun kr1 kr2 => ?_)
              refine W.widen (k := zcc Z) (n := zss Z) (Nat.sub_le _ _) (Nat.sub_le _ _) ?_
              exact W.zret (v := 1) hx hb hr rfl (fun t ht hW => ⟨⟨1, (V203, L, Z), rfl, ⟨hMV203, agV203, rfl, zoZ, (by decide), (Imp.mk (fun _ => mo229)), (Imp.mk (fun hp => absurd hp (by decide))), (Imp.mk (fun _ => (show (V203 5 6).toInt = (V 5 6).toInt ∧ (V203 67 gf).toInt = 4 from by first | exact om_7c7da5faf5fa gk pq213 pq214 | first | omega | ((try (have i_hz186 := Imp.go hz186 (by omega))); omega)))), (Imp.mk (fun _ => rfl)), (Or.inl ⟨rfl, rx243⟩)⟩, ⟨by rw [ht]; exact hP, va_K.moved hW.alike hK, hD⟩, by rw [ht]; exact kr1, by rw [ht]; exact kr2⟩, hS.F ht⟩) hS.2.2 dX5_takesAnswer_116
            · skip
              have ajV203 : agr [] [] V187 V203 := by rw [hw208]; exact agr.rf
              refine lv_iconst (v := 1) hx hb dX5_takesAnswer_115 (by decide) ?_
              have pq247 : (V203 5 6).toInt = ((V 5 6)).toInt := congrArg Int32.toInt ((ajV203 5 6 rfl).trans (up2_o hV187 (by decide)))
              have pq248 : (V203 67 gf).toInt = ((V 67 gf)).toInt := congrArg Int32.toInt ((ajV203 67 gf rfl).trans (up2_o hV187 (by decide)))
              have me249 : ME V V203 gf := (ME.tr (ME.up ME.rf hV187 (Or.inl ⟨by decide, by decide, Nat.le_refl _⟩)) (ME.ag ajV203 (by decide)))
              have pq250 : (V203 68 gf).toInt = ((V 68 gf)).toInt := congrArg Int32.toInt ((ajV203 68 gf rfl).trans (up2_o hV187 (by decide)))
              have pq251 : (V203 70 gf).toInt = ((V 70 gf)).toInt := congrArg Int32.toInt ((ajV203 70 gf rfl).trans (up2_o hV187 (by decide)))
              have pq252 : (V203 71 gf).toInt = ((V 71 gf)).toInt := congrArg Int32.toInt ((ajV203 71 gf rfl).trans (up2_o hV187 (by decide)))
              have pq253 : (V203 75 gf).toInt = ((V 75 gf)).toInt := congrArg Int32.toInt ((ajV203 75 gf rfl).trans (up2_o hV187 (by decide)))
              have pq254 : (V203 76 gf).toInt = ((V 76 gf)).toInt := congrArg Int32.toInt ((ajV203 76 gf rfl).trans (up2_o hV187 (by decide)))
              have pq255 : (V203 80 gf).toInt = ((V 80 gf)).toInt := congrArg Int32.toInt ((ajV203 80 gf rfl).trans (up2_o hV187 (by decide)))
              have pq256 : (V203 84 gf).toInt = ((V 84 gf)).toInt := congrArg Int32.toInt ((ajV203 84 gf rfl).trans (up2_o hV187 (by decide)))
              have pq257 : (V203 5 8).toInt = ((V 5 8)).toInt := congrArg Int32.toInt ((ajV203 5 8 rfl).trans (up2_o hV187 (by decide)))
              have pq258 : (V203 5 9).toInt = ((V 5 9)).toInt := congrArg Int32.toInt ((ajV203 5 9 rfl).trans (up2_o hV187 (by decide)))
              have pq259 : (V203 3 13).toInt = ((V 3 13)).toInt := congrArg Int32.toInt ((ajV203 3 13 rfl).trans (up2_o hV187 (by decide)))
              have pq260 : (V203 43 (5 * b + 2)).toInt = ((V 43 (5 * b + 2))).toInt := congrArg Int32.toInt ((ajV203 43 (5 * b + 2) rfl).trans (up2_o hV187 (by decide)))
              have pq261 : (V203 42 b).toInt = ((V 42 b)).toInt := congrArg Int32.toInt ((ajV203 42 b rfl).trans (up2_o hV187 (by decide)))
              have pq262 : (V203 41 b).toInt = ((V 41 b)).toInt := congrArg Int32.toInt ((ajV203 41 b rfl).trans (up2_o hV187 (by decide)))
              have ep265 : V203 84 gf = (V 84 gf) := ((ajV203 84 gf rfl).trans (up2_o hV187 (by decide)))
              have af264 : (V203 42 b).toInt ≤ (V203 84 gf).toInt ∨ (bdp V203 b (V203 84 gf).toInt.toNat).1 = true := by rw [ep265, me249.1.bd, me249.1 42 b (by decide) (by decide)]; exact ft
              have mo263 : MO V203 Z b gf True True True := MO.ch mo me249 ((ajV203 67 gf rfl).trans (up2_o hV187 (by decide))) ((ajV203 80 gf rfl).trans (up2_o hV187 (by decide))) (fun _ => Or.inl (by omega)) (fun x h => FK.k4 (by first | omega | ((try (have i_hz186 := Imp.go hz186 (by omega))); omega)) (by first | omega | ((try (have i_hz186 := Imp.go hz186 (by omega))); omega)) (by first | omega | ((try (have i_hz186 := Imp.go hz186 (by omega))); omega)) af264 (by first | omega | ((try (have i_hz186 := Imp.go hz186 (by omega))); omega)) (fun hph => absurd hph (by omega)))
              have tt9 := RWl.tot rl
              have tt8 := sf.2.1
              have tt7 : totP (gfr :: gr) ≤ 2000 := tt8
              have pq266 : (V187 5 7).toInt = ((V 5 7)).toInt := congrArg Int32.toInt (up2_o hV187 (by decide))
              have r267 : 0 ≤ ((V 5 7)).toInt ∧ ((V 5 7)).toInt ≤ 2048 := hMV 5 7
              refine W.know (fun kr1 kr2 => ?_)
              refine W.widen (k := zcc Z) (n := zss Z) (Nat.sub_le _ _) (Nat.sub_le _ _) ?_
              exact W.zret (v := 1) hx hb hr rfl (fun t ht hW => ⟨⟨1, (V203, L, Z), rfl, ⟨hMV203, agV203, rfl, zoZ, (by decide), (Imp.mk (fun _ => mo263)), (Imp.mk (fun hp => absurd hp (by decide))), (Imp.mk (fun _ => (show (V203 5 6).toInt = (V 5 6).toInt ∧ (V203 67 gf).toInt = 4 from by first | exact om_7c7da5faf5fa gk pq247 pq248 | first | omega | ((try (have i_hz186 := Imp.go hz186 (by omega))); omega)))), (Imp.mk (fun _ => rfl)), (by exfalso; omega)⟩, ⟨by rw [ht]; exact hP, va_K.moved hW.alike hK, hD⟩, by rw [ht]; exact kr1, by rw [ht]; exact kr2⟩, hS.F ht⟩) hS.2.2 dX5_takesAnswer_116
        · skip
          have jd9 : jnd gm o.toNat nd.toNat it = some x9 := by have h9 := jd_y je9; rw [(show ((it.toNat : Nat) : Int) = it from by omega)] at h9; exact h9
          have jv9 := jl_dy je9
          have jx9 : 0 ≤ x9 := by rw [← jv9.2]; exact jnn _
          refine lv_iload_n hx hb dX5_takesAnswer_102 rfl (lv_at hl 0 rfl) ?_
          refine lv_iconst (v := (-1)) hx hb dX5_takesAnswer_103 (by decide) ?_
          refine lv_icmp_ne (tgt := 117) hx hb dX5_takesAnswer_104 (by decide) (fun c268 => ?_) (fun c268 => ?_)
          · skip
            have f269 : z192.toInt ≠ (-1) := b_neq rfl (by decide) c268
            refine lv_aload_n hx hb dX5_takesAnswer_117 rfl (lv_at hl 2 rfl) ?_
            refine lv_dup hx hb dX5_takesAnswer_118 rfl ?_
            refine va_getN (D := D) (ci := 4) (v := .int (V187 76 gf)) (fs := (xfFrame V187 gf)) (C := RX4) (T := TX4) (N := 19) hx hb hg inX4 hown hK hP (336 + gf) (xgFrame hgf) rfl 9 (by decide) (hnw.use 1198 n1198 rfl) (fun _ h9 => h9) rfl dX5_takesAnswer_119 ?_
            refine g_top (v := (V 76 gf)) (up2_o hV187 (by decide)) ?_
            refine lv_iconst (v := 1) hx hb dX5_takesAnswer_122 (by decide) ?_
            refine lv_iadd hx hb dX5_takesAnswer_123 ?_
            have r270 := i_full (V 76 gf)
            refine lv_topi (fun z271 ez271 => ?_)
            have hz271 : Imp (-2147483648 ≤ ((V 76 gf)).toInt + 1 ∧ ((V 76 gf)).toInt + 1 ≤ 2147483647) (z271.toInt = ((V 76 gf)).toInt + 1) := Imp.mk (fun hp => i_add ez271 rfl (by decide) hp)
            refine va_putN (D := D) (ci := 4) (v := .int z271) (ty := tyX4 9) (fs := (xfFrame V187 gf)) (C := RX4) (T := TX4) (N := 19) hx hb hg inX4 tyX4 tyX4_ok nmX4 hown hK hP hD hS (336 + gf) (xgFrame hgf) rfl 9 (by decide) (hnw.use 1198 n1198 rfl) (fun _ h9 => h9) rfl (tyX4_ok 9 (by decide)) rfl rfl (Nat.le_of_ble_eq_true rfl) dX5_takesAnswer_124 (fun H locs hP hD hS => ?_)
            obtain ⟨V272, hV272⟩ : ∃ z, z = up2 V187 76 gf z271 := ⟨_, rfl⟩
            have ew273 : (xw ad kk V187 L Z).set (336 + gf) ((Z.fa gf), .inr (4, (xfFrame V187 gf).set 9 (.int z271))) = xw ad kk V272 L Z := by rw [hV272]; exact xpFrame_item hgf
            have hP : va_P D vwCl (xw ad kk V272 L Z) H := by rw [← ew273]; exact hP
            have hD : va_D A (xw ad kk V272 L Z) := by rw [← ew273]; exact hD
            have hMV272 : rgd bX V272 := hMV187.put hV272 (i_full _)
            have agV272 : agr [(3, 15), (5, 6), (5, 7), (5, 9)] [30, 31, 32, 39, 67, 68, 69, 70, 71, 72, 73, 74, 75, 76, 77, 78, 79, 80, 81, 82, 83, 84, 85] V V272 := agV187.up hV272 rfl
            refine lv_aload_n hx hb dX5_takesAnswer_127 rfl (lv_at hl 1 rfl) ?_
            refine lv_iload_n hx hb dX5_takesAnswer_128 rfl (lv_at hl 0 rfl) ?_
            refine lv_aload_n hx hb dX5_takesAnswer_129 rfl (lv_at hl 2 rfl) ?_
            refine va_getN (D := D) (ci := 4) (v := .int (V272 72 gf)) (fs := (xfFrame V272 gf)) (C := RX4) (T := TX4) (N := 19) hx hb hg inX4 hown hK hP (336 + gf) (xgFrame hgf) rfl 5 (by decide) (hnw.use 1194 n1194 rfl) (fun _ h9 => h9) rfl dX5_takesAnswer_130 ?_
            refine g_top (v := (V 72 gf)) ((up2_o hV272 (by decide)).trans (up2_o hV187 (by decide))) ?_
            have r274 : 0 ≤ ((V 72 gf)).toInt ∧ ((V 72 gf)).toInt ≤ 39 := hMV 72 gf
            refine lv_aload_n hx hb dX5_takesAnswer_133 rfl (lv_at hl 2 rfl) ?_
            refine va_getN (D := D) (ci := 4) (v := .int (V272 77 gf)) (fs := (xfFrame V272 gf)) (C := RX4) (T := TX4) (N := 19) hx hb hg inX4 hown hK hP (336 + gf) (xgFrame hgf) rfl 10 (by decide) (hnw.use 1199 n1199 rfl) (fun _ h9 => h9) rfl dX5_takesAnswer_134 ?_
            refine g_top (v := (V 77 gf)) ((up2_o hV272 (by decide)).trans (up2_o hV187 (by decide))) ?_
            have r275 : 0 ≤ ((V 77 gf)).toInt ∧ ((V 77 gf)).toInt ≤ 19 := hMV 77 gf
            refine lv_aload_n hx hb dX5_takesAnswer_137 rfl (lv_at hl 2 rfl) ?_
            refine va_getN (D := D) (ci := 4) (v := .int (V272 78 gf)) (fs := (xfFrame V272 gf)) (C := RX4) (T := TX4) (N := 19) hx hb hg inX4 hown hK hP (336 + gf) (xgFrame hgf) rfl 11 (by decide) (hnw.use 1200 n1200 rfl) (fun _ h9 => h9) rfl dX5_takesAnswer_138 ?_
            refine g_top (v := (V 78 gf)) ((up2_o hV272 (by decide)).trans (up2_o hV187 (by decide))) ?_
            refine lv_aload_n hx hb dX5_takesAnswer_141 rfl (lv_at hl 2 rfl) ?_
            refine va_getN (D := D) (ci := 4) (v := .int (V272 69 gf)) (fs := (xfFrame V272 gf)) (C := RX4) (T := TX4) (N := 19) hx hb hg inX4 hown hK hP (336 + gf) (xgFrame hgf) rfl 2 (by decide) (hnw.use 1191 n1191 rfl) (fun _ h9 => h9) rfl dX5_takesAnswer_142 ?_
            refine g_top (v := (V 69 gf)) ((up2_o hV272 (by decide)).trans (up2_o hV187 (by decide))) ?_
            refine lv_iconst (v := 1) hx hb dX5_takesAnswer_145 (by decide) ?_
            refine lv_iadd hx hb dX5_takesAnswer_146 ?_
            have r276 := i_full (V 69 gf)
            refine lv_topi (fun z277 ez277 => ?_)
            have hz277 : Imp (-2147483648 ≤ ((V 69 gf)).toInt + 1 ∧ ((V 69 gf)).toInt + 1 ≤ 2147483647) (z277.toInt = ((V 69 gf)).toInt + 1) := Imp.mk (fun hp => i_add ez277 rfl (by decide) hp)
            have me278 : ME V V272 gf := (ME.up (ME.up ME.rf hV187 (Or.inl ⟨by decide, by decide, Nat.le_refl _⟩)) hV272 (Or.inl ⟨by decide, by decide, Nat.le_refl _⟩))
            have pq279 : (V272 67 gf).toInt = ((V 67 gf)).toInt := congrArg Int32.toInt ((up2_o hV272 (by decide)).trans (up2_o hV187 (by decide)))
            have pq280 : (V272 68 gf).toInt = ((V 68 gf)).toInt := congrArg Int32.toInt ((up2_o hV272 (by decide)).trans (up2_o hV187 (by decide)))
            have pq281 : (V272 70 gf).toInt = ((V 70 gf)).toInt := congrArg Int32.toInt ((up2_o hV272 (by decide)).trans (up2_o hV187 (by decide)))
            have pq282 : (V272 71 gf).toInt = ((V 71 gf)).toInt := congrArg Int32.toInt ((up2_o hV272 (by decide)).trans (up2_o hV187 (by decide)))
            have pq283 : (V272 75 gf).toInt = ((V 75 gf)).toInt := congrArg Int32.toInt ((up2_o hV272 (by decide)).trans (up2_o hV187 (by decide)))
            have pq284 : (V272 76 gf).toInt = z271.toInt := congrArg Int32.toInt (up2_s hV272)
            have pq285 : (V272 80 gf).toInt = ((V 80 gf)).toInt := congrArg Int32.toInt ((up2_o hV272 (by decide)).trans (up2_o hV187 (by decide)))
            have pq286 : (V272 84 gf).toInt = ((V 84 gf)).toInt := congrArg Int32.toInt ((up2_o hV272 (by decide)).trans (up2_o hV187 (by decide)))
            have pq287 : (V272 5 6).toInt = ((V 5 6)).toInt := congrArg Int32.toInt ((up2_o hV272 (by decide)).trans (up2_o hV187 (by decide)))
            have pq288 : (V272 5 8).toInt = ((V 5 8)).toInt := congrArg Int32.toInt ((up2_o hV272 (by decide)).trans (up2_o hV187 (by decide)))
            have pq289 : (V272 5 9).toInt = ((V 5 9)).toInt := congrArg Int32.toInt ((up2_o hV272 (by decide)).trans (up2_o hV187 (by decide)))
            have pq290 : (V272 3 13).toInt = ((V 3 13)).toInt := congrArg Int32.toInt ((up2_o hV272 (by decide)).trans (up2_o hV187 (by decide)))
            have pq291 : (V272 43 (5 * b + 2)).toInt = ((V 43 (5 * b + 2))).toInt := congrArg Int32.toInt ((up2_o hV272 (by decide)).trans (up2_o hV187 (by decide)))
            have pq292 : (V272 42 b).toInt = ((V 42 b)).toInt := congrArg Int32.toInt ((up2_o hV272 (by decide)).trans (up2_o hV187 (by decide)))
            have pq293 : (V272 41 b).toInt = ((V 41 b)).toInt := congrArg Int32.toInt ((up2_o hV272 (by decide)).trans (up2_o hV187 (by decide)))
            have ep296 : V272 84 gf = (V 84 gf) := ((up2_o hV272 (by decide)).trans (up2_o hV187 (by decide)))
            have af295 : (V272 42 b).toInt ≤ (V272 84 gf).toInt ∨ (bdp V272 b (V272 84 gf).toInt.toNat).1 = true := by rw [ep296, me278.1.bd, me278.1 42 b (by decide) (by decide)]; exact ft
            have mo294 : MO V272 Z b gf True True True := MO.ch mo me278 ((up2_o hV272 (by decide)).trans (up2_o hV187 (by decide))) ((up2_o hV272 (by decide)).trans (up2_o hV187 (by decide))) (fun _ => Or.inl (by omega)) (fun x h => FK.k4 (by first | omega | ((try (have i_hz277 := Imp.go hz277 (by omega))); (try (have i_hz271 := Imp.go hz271 (by omega))); (try (have i_hz186 := Imp.go hz186 (by omega))); (try (have i_hz186 := Imp.go hz186 (by omega))); (try (have i_hz271 := Imp.go hz271 (by omega))); (try (have i_hz277 := Imp.go hz277 (by omega))); omega)) (by first | omega | ((try (have i_hz277 := Imp.go hz277 (by omega))); (try (have i_hz271 := Imp.go hz271 (by omega))); (try (have i_hz186 := Imp.go hz186 (by omega))); (try (have i_hz186 := Imp.go hz186 (by omega))); (try (have i_hz271 := Imp.go hz271 (by omega))); (try (have i_hz277 := Imp.go hz277 (by omega))); omega)) (by first | omega | ((try (have i_hz277 := Imp.go hz277 (by omega))); (try (have i_hz271 := Imp.go hz271 (by omega))); (try (have i_hz186 := Imp.go hz186 (by omega))); (try (have i_hz186 := Imp.go hz186 (by omega))); (try (have i_hz271 := Imp.go hz271 (by omega))); (try (have i_hz277 := Imp.go hz277 (by omega))); omega)) af295 (by first | omega | ((try (have i_hz277 := Imp.go hz277 (by omega))); (try (have i_hz271 := Imp.go hz271 (by omega))); (try (have i_hz186 := Imp.go hz186 (by omega))); (try (have i_hz186 := Imp.go hz186 (by omega))); (try (have i_hz271 := Imp.go hz271 (by omega))); (try (have i_hz277 := Imp.go hz277 (by omega))); omega)) (fun hph => absurd hph (by omega)))
            have mt297 : MT V272 Z b := MO.mt mo294 (by (first | exact om_c09d41618ed8 hgf | omega)) (by (first | exact om_82fa09255765 gd pq287 | omega))
            refine W.know (fun k299 k300 => ?_)
            obtain ⟨Hk298, hHk298⟩ : ∃ z, z = H := ⟨_, rfl⟩
            have k299 : Hk298.size ≤ s.heap.size + (zcc Z - zcc Z) := by rw [hHk298]; exact k299
            have k300 : tot Hk298 ≤ tot s.heap + (zss Z - zss Z) := by rw [hHk298]; exact k300
            refine gZ_void (gA_runV (As := [.int z192, .int (V 72 gf), .int (V 77 gf), .int (V 78 gf), .int z277]) (rest := []) (ci := 5) (q0 := 5) hx hb hml hown hg hP hD hK hS hA hnw hgk (x_pushCall9 l D ks H.size ad kk V272 L Z z192 (V 72 gf) (V 77 gf) (V 78 gf) z277 (b) hMV272 (by first | exact om_13ba01c174fe r274.1 r274.2 | first | omega | ((try (have i_hz277 := Imp.go hz277 (by omega))); (try (have i_hz271 := Imp.go hz271 (by omega))); (try (have i_hz186 := Imp.go hz186 (by omega))); (try (have i_hz186 := Imp.go hz186 (by omega))); (try (have i_hz271 := Imp.go hz271 (by omega))); (try (have i_hz277 := Imp.go hz277 (by omega))); omega)) (by first | exact om_0916ac166aa8 r77.1 r77.2 | first | omega | ((try (have i_hz277 := Imp.go hz277 (by omega))); (try (have i_hz271 := Imp.go hz271 (by omega))); (try (have i_hz186 := Imp.go hz186 (by omega))); (try (have i_hz186 := Imp.go hz186 (by omega))); (try (have i_hz271 := Imp.go hz271 (by omega))); (try (have i_hz277 := Imp.go hz277 (by omega))); omega)) (show b < 2 from by first | exact om_f940a4667dd6 hb2 | first | omega | ((try (have i_hz277 := Imp.go hz277 (by omega))); (try (have i_hz271 := Imp.go hz271 (by omega))); (try (have i_hz186 := Imp.go hz186 (by omega))); (try (have i_hz186 := Imp.go hz186 (by omega))); (try (have i_hz271 := Imp.go hz271 (by omega))); (try (have i_hz277 := Imp.go hz277 (by omega))); omega)) mt297) w1454 w1455 w1456 w171 w1457 rfl xgMachine hdV_yX5_pushCall ⟨Nat.le_of_ble_eq_true rfl, Nat.le_of_ble_eq_true rfl⟩ rfl hl.1 rfl (Nat.le_of_ble_eq_true rfl) dX5_takesAnswer_147 ⟨z1 zoZ.1, z1 zoZ.2.1⟩) hD hS hA (fun u302 H locs w303 hP hD hK hS y304 y305 => ?_)
            obtain ⟨V306, L307, Z308⟩ := u302
            obtain ⟨hMV306, ajV306, axL307, zlZ308, t310, t311⟩ := w303
            have axL307 : L = L307 := Eq.symm axL307
            subst axL307
            have hP : va_P D vwCl (xw ad kk V306 L Z308) H := hP
            have hD : va_D A (xw ad kk V306 L Z308) := hD
            have hK : va_K D vwCl (xty kk Z308) s := hK
            have hMV306 : rgd bX V306 := hMV306
            have ajV306 : agr [(5, 6), (5, 9)] [67, 68, 69, 70, 71, 72, 73, 74, 75, 76, 77, 78, 79, 80, 81, 82, 83, 84, 85] V272 V306 := ajV306
            have agV306 : agr [(3, 15), (5, 6), (5, 7), (5, 9)] [30, 31, 32, 39, 67, 68, 69, 70, 71, 72, 73, 74, 75, 76, 77, 78, 79, 80, 81, 82, 83, 84, 85] V V306 := agV272.tr ajV306 (by decide) (by decide)
            have zlZ308 : ZL Z Z308 := zlZ308
            have zoZ308 : ZL Z Z308 := ZL.tr zoZ zlZ308
            have ziZ308 := zlZ308.1
            have zjZ308 := zlZ308.2.1
            have zkZ308 := zlZ308.2.2.1
            have zmZ308 := zoZ308.1
            have znZ308 := zoZ308.2.1
            have zpZ_Z308 := zoZ.1
            have zqZ_Z308 := zoZ.2.1
            have y304 : H.size ≤ Hk298.size + (zcc Z - zcc Z308) := by rw [hHk298]; exact y304
            have y305 : tot H ≤ tot Hk298 + (zss Z - zss Z308) := by rw [hHk298]; exact y305
            refine W.tight (k := zcc Z - zcc Z308) (n := zss Z - zss Z308) (by first | exact tg9 y304 k299 zlZ308.1 zoZ.1 | omega) (by first | exact tg9 y305 k300 zlZ308.2.1 zoZ.2.1 | omega) ?_
            have hl : lv_has ls 3 [(2, .int z192), (0, .ref (ad 5)), (1, .ref (Z308.fa gf))] := by rw [zlZ308.2.2.2.2 gf hgf]; exact hl
            have t310 : MJ V306 Z308 b := t310
            have t311 : Imp ((V272 5 6).toInt < 400) (PCa V272 V306 ((V272 5 6).toInt.toNat) z192 (V 72 gf) (V 77 gf) (V 78 gf) z277) := t311
            refine lv_iconst (v := 0) hx hb dX5_takesAnswer_150 (by decide) ?_
            have r312 : 0 ≤ ((V306 5 6)).toInt ∧ ((V306 5 6)).toInt ≤ 400 := hMV306 5 6
            have tt9 := RWl.tot rl
            have tt8 := sf.2.1
            have tt7 : totP (gfr :: gr) ≤ 2000 := tt8
            have gx9 := (GOs.sf (show GOs gB (mU gm 0 6 0, ga, Fcall0 (lv + 1) x9 (gm 1 x9.toNat) sc tg g :: Fsum lv o c sc at9 nd tg (it + 1) v g (u + ga) p :: gr) from by have h9 := GOs.nx go9; rw [hfe, st_16j (show gm 0 6 = 1 from by (first | exact om_e9389ed92ad9 sg1 rh1 | omega)) jd9] at h9; exact h9)).2.2.2.2 _ _ rfl
            have gy9 : x9 < gm 0 2 := by have h9 : x9 < (mU gm 0 6 0) 0 2 := gx9 jx9; rw [mU_o _ _ (by omega)] at h9; exact h9
            have it9 := Imp.go hz271 (by omega)
            have su9 : z186 = u + ga := by rw [ez186, q79, (rh.2.1 (show gm 0 6 = 1 from by (first | exact om_e9389ed92ad9 sg1 rh1 | omega)))]
            have pw := Imp.go t311 (by (first | exact om_f2444a3e49ba gd gl9 sl9 pq287 | omega))
            have pi9 : (V272 5 6).toInt.toNat = gr.length + 1 := by (first | exact om_e14d89dbab7d gd gl9 pq287 | omega)
            rw [pi9] at pw
            obtain ⟨⟨pd1, pd2, pke⟩, ⟨pk1, pk2⟩, p69, p70, p72, p73, p74, pc1, pc2, pc3⟩ := pw
            have wr313 := congrArg Int32.toInt p69
            have wr314 := congrArg Int32.toInt p70
            have wr315 := congrArg Int32.toInt p72
            have wr316 := congrArg Int32.toInt p73
            have lz9 : z277.toInt = (V 69 gf).toInt + 1 := i_add ez277 rfl (by decide) (by omega)
            have wr317 : (V306 3 13).toInt = (V 3 13).toInt := congrArg Int32.toInt ((ajV306 3 13 rfl).trans ((up2_o hV272 (by decide)).trans (up2_o hV187 (by decide))))
            have wr318 : (V306 3 12).toInt = (V 3 12).toInt := congrArg Int32.toInt ((ajV306 3 12 rfl).trans ((up2_o hV272 (by decide)).trans (up2_o hV187 (by decide))))
            have wr319 : (V306 67 gf).toInt = ((V 67 gf)).toInt := (congrArg Int32.toInt ((pke gf (by omega) 67 (by decide) (by decide)).trans ((up2_o hV272 (by decide)).trans (up2_o hV187 (by decide)))))
            have wr320 : (V306 68 gf).toInt = ((V 68 gf)).toInt := (congrArg Int32.toInt ((pke gf (by omega) 68 (by decide) (by decide)).trans ((up2_o hV272 (by decide)).trans (up2_o hV187 (by decide)))))
            have wr321 : (V306 69 gf).toInt = ((V 69 gf)).toInt := (congrArg Int32.toInt ((pke gf (by omega) 69 (by decide) (by decide)).trans ((up2_o hV272 (by decide)).trans (up2_o hV187 (by decide)))))
            have wr322 : (V306 70 gf).toInt = ((V 70 gf)).toInt := (congrArg Int32.toInt ((pke gf (by omega) 70 (by decide) (by decide)).trans ((up2_o hV272 (by decide)).trans (up2_o hV187 (by decide)))))
            have wr323 : (V306 71 gf).toInt = ((V 71 gf)).toInt := (congrArg Int32.toInt ((pke gf (by omega) 71 (by decide) (by decide)).trans ((up2_o hV272 (by decide)).trans (up2_o hV187 (by decide)))))
            have wr324 : (V306 72 gf).toInt = ((V 72 gf)).toInt := (congrArg Int32.toInt ((pke gf (by omega) 72 (by decide) (by decide)).trans ((up2_o hV272 (by decide)).trans (up2_o hV187 (by decide)))))
            have wr325 : (V306 75 gf).toInt = ((V 75 gf)).toInt := (congrArg Int32.toInt ((pke gf (by omega) 75 (by decide) (by decide)).trans ((up2_o hV272 (by decide)).trans (up2_o hV187 (by decide)))))
            have wr326 : (V306 76 gf).toInt = z271.toInt := (congrArg Int32.toInt ((pke gf (by omega) 76 (by decide) (by decide)).trans (up2_s hV272)))
            have wr327 : (V306 77 gf).toInt = ((V 77 gf)).toInt := (congrArg Int32.toInt ((pke gf (by omega) 77 (by decide) (by decide)).trans ((up2_o hV272 (by decide)).trans (up2_o hV187 (by decide)))))
            have wr328 : (V306 84 gf).toInt = ((V 84 gf)).toInt := (congrArg Int32.toInt ((pke gf (by omega) 84 (by decide) (by decide)).trans ((up2_o hV272 (by decide)).trans (up2_o hV187 (by decide)))))
            have me329 : ME V V272 gf := (ME.up (ME.up ME.rf hV187 (Or.inl ⟨by decide, by decide, Nat.le_refl _⟩)) hV272 (Or.inl ⟨by decide, by decide, Nat.le_refl _⟩))
            have rl330 : RWl V306 gB gr t0 := RWl.mv hlr (fun i9 hi9 c9 h1 h2 => ((pke i9 (by omega) c9 h1 h2)).trans (me329.2.1 c9 i9 h1 h2 (by omega))) (fun j9 hj9 => ((ajV306 39 j9 rfl).trans ((up2_o hV272 (by decide)).trans (up2_o hV187 (by decide))))) (by rw [((ajV306 3 13 rfl).trans ((up2_o hV272 (by decide)).trans (up2_o hV187 (by decide))))]; exact Int.le_refl _) ((ajV306 3 12 rfl).trans ((up2_o hV272 (by decide)).trans (up2_o hV187 (by decide))))
            have fo8 : FRc V306 gB gr.length (Fsum lv o c sc at9 nd tg (it + 1) v g (u + ga) p) := by rw [gl9]; exact ⟨⟨by omega, by omega⟩, ⟨by omega, ⟨by omega, by omega, by omega⟩, ⟨by omega, by omega, by omega⟩, ⟨by omega, by omega, by omega⟩⟩, ⟨a0, by omega⟩, by omega, by omega, by omega, ((pke gf (by omega) 74 (by decide) (by decide)).trans (((up2_o hV272 (by decide)).trans (up2_o hV187 (by decide))).trans q74)), ((pke gf (by omega) 78 (by decide) (by decide)).trans (((up2_o hV272 (by decide)).trans (up2_o hV187 (by decide))).trans q78)), ((pke gf (by omega) 79 (by decide) (by decide)).trans (((up2_o hV272 (by decide)).trans (up2_s hV187)).trans su9))⟩
            have rl331 : RWl V306 gB (Fsum lv o c sc at9 nd tg (it + 1) v g (u + ga) p :: gr) tw9 := ⟨t0, tl7, fo8, fun _ _ => (by rw [gl9, ((pke gf (by omega) 85 (by decide) (by decide)).trans ((up2_o hV272 (by decide)).trans (up2_o hV187 (by decide))))]; exact hb8), plC.mv hp8 (fun j9 _ => (show agr [(5, 6), (5, 9)] [67, 68, 69, 70, 71, 72, 73, 74, 75, 76, 77, 78, 79, 80, 81, 82, 83, 84, 85] V V306 from (agr.tr (agr.up (agr.up agr.rf hV187 rfl) hV272 rfl) ajV306 (by decide) (by decide))) 39 j9 rfl), rl330⟩
            have b13 : (V272 3 13).toInt = (V 3 13).toInt := congrArg Int32.toInt (((up2_o hV272 (by decide)).trans (up2_o hV187 (by decide))))
            have n249 := bc.2.2.2.1.2.1
            have c71 : (0 ≤ x9 → (V306 71 (gr.length + 1)).toInt = (gm 1 x9.toNat)) ∧ (0 ≤ (V306 71 (gr.length + 1)).toInt ∧ (V306 71 (gr.length + 1)).toInt < ((nC gB : Nat) : Int)) := by
              by_cases h9 : 0 ≤ x9
              · have h8 := pc1 ⟨by omega, by omega⟩
                have h7 := rn.2.1 x9.toNat (by omega)
                have h6 : Int32.toNatClampNeg z192 = x9.toNat := by have h5 := i_clamp (x := z192) rfl (by omega); omega
                rw [h6, ((up2_o hV272 (by decide)).trans (up2_o hV187 (by decide)))] at h8
                have h5 := congrArg Int32.toInt h8
                have h4 := h7.1.1
                have h3 := h7.2.2.1
                exact ⟨fun _ => by omega, by omega, by omega⟩
              · have h8 := pc2 (fun h7 => h9 (by omega))
                exact ⟨fun h7 => absurd h7 h9, by omega, by omega⟩
            have ft9 : FRc V306 gB (gr.length + 1) (Fcall0 (lv + 1) x9 (gm 1 x9.toNat) sc tg g) := ⟨⟨pk1, pk2⟩, by omega, by omega, fun h9 => ⟨by omega, c71.1 h9⟩, c71.2, ⟨by omega, by omega, by omega⟩, ⟨by omega, by omega, by omega⟩, p74.trans q78⟩
            have rz9 : RW V306 gB (mU gm 0 6 0, ga, Fcall0 (lv + 1) x9 (gm 1 x9.toNat) sc tg g :: Fsum lv o c sc at9 nd tg (it + 1) v g (u + ga) p :: gr) := RW.sgn rwq (ESw.ag (show agr [(5, 6), (5, 9)] [67, 68, 69, 70, 71, 72, 73, 74, 75, 76, 77, 78, 79, 80, 81, 82, 83, 84, 85] V V306 from (agr.tr (agr.up (agr.up agr.rf hV187 rfl) hV272 rfl) ajV306 (by decide) (by decide))) (by decide)) pd2 (fun h9 => absurd h9 (by decide)) (fun h9 => absurd h9 (by decide)) (show (V306 5 6).toInt = ((gr.length + 1 + 1 : Nat) : Int) from by omega) (show (V306 5 7).toInt = ((tw9 : Nat) : Int) from by rw [((ajV306 5 7 rfl).trans ((up2_o hV272 (by decide)).trans (up2_o hV187 (by decide))))]; exact rt9) (RWl.push rl331 ft9 rfl (np9 rfl))
            have rx332 : RW V306 gB (stM gB (gm, ga, gfr :: gr)) := by rw [hfe, st_16j (show gm 0 6 = 1 from by (first | exact om_e9389ed92ad9 sg1 rh1 | omega)) jd9]; exact rz9
            refine W.know (fun kr1 kr2 => ?_)
            refine W.widen (k := zcc Z) (n := zss Z) (Nat.sub_le _ _) (Nat.sub_le _ _) ?_
            exact W.zret (v := 0) hx hb hr rfl (fun t ht hW => ⟨⟨0, (V306, L, Z308), rfl, ⟨hMV306, agV306, rfl, zoZ308, (by decide), (Imp.mk (fun hp => absurd hp (by decide))), (Imp.mk (fun _ => t310)), (Imp.mk (fun hp => absurd hp (by decide))), (Imp.mk (fun hp => absurd hp (by decide))), (Or.inr ⟨rfl, rx332⟩)⟩, ⟨by rw [ht]; exact hP, va_K.moved hW.alike hK, hD⟩, by rw [ht]; exact kr1, by rw [ht]; exact kr2⟩, hS.F ht⟩) hS.2.2 dX5_takesAnswer_151
          · skip
            have f333 : z192.toInt = (-1) := b_eq rfl (by decide) c268
            exfalso; first | omega | ((try (have i_hz186 := Imp.go hz186 (by omega))); omega)
      · skip
        have f334 : ((V 68 gf)).toInt = 7 := b_eq rfl (by decide) c182
        exfalso; omega
    · skip
      have f335 : ((V 68 gf)).toInt = 1 := b_eq rfl (by decide) c180
      exfalso; omega
