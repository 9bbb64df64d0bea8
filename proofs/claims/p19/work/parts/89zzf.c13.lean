/-! the class's calls begin and end: the machine has nothing under way -/
def midQ (fs : List (Nat × Nat)) (cs : List Nat) : Bool := fs.all (fun y => decide (y.1 < 21 ∨ 37 < y.1)) && cs.all (fun c => decide (c < 21 ∨ 37 < c))
theorem agr.mid {fs : List (Nat × Nat)} {cs : List Nat} {V W : Vf} (a : agr fs cs V W) (q : midQ fs cs = true) {c k : Nat} (h1 : 21 ≤ c) (h2 : c ≤ 37) : W c k = V c k := by
  refine a c k ?_
  unfold midQ at q
  rw [Bool.and_eq_true, List.all_eq_true, List.all_eq_true] at q
  unfold wrL
  rw [Bool.or_eq_false_iff]
  refine ⟨?_, ?_⟩
  · rw [← Bool.not_eq_true]
    intro z
    have y := of_decide_eq_true (q.1 _ (List.contains_iff_mem.mp z))
    have y : c < 21 ∨ 37 < c := y
    omega
  · rw [← Bool.not_eq_true]
    intro z
    have y := of_decide_eq_true (q.2 _ (List.contains_iff_mem.mp z))
    omega
section CHs
variable {V U W : Vf} {B : Bk} {m : Mm} {ow : Nat → Nat}
/-- a call begins: no STEPS of it yet -/
theorem RWn.rst (h : RWn V ow B m) (e1 : (W 5 13).toInt = 0) (e0 : W 5 14 = V 5 14) (c3 : ∀ k, W 3 k = V 3 k) (c4 : W 4 6 = V 4 6) (cc : ∀ c k, 21 ≤ c → c ≤ 37 → W c k = V c k) : RWn W ow B (mU m 0 1 0) := by
  obtain ⟨ha, hb, hj, hs, hp⟩ := h
  have ex : ∀ x j, ¬ (x = 0 ∧ j = 1) → mU m 0 1 0 x j = m x j := fun x j q => mU_o _ _ q
  refine ⟨?_, ?_, RWj.mv hj (ex 0 2 (by omega)) (fun q => ex 6 q (by omega)) (fun q => ex 7 q (by omega)) (c3 _) (fun q => cc _ _ (by decide) (by decide)) (fun q => cc _ _ (by decide) (by decide)) (fun q => cc _ _ (by decide) (by decide)), RWs.mv hs (fun q => ex 8 q (by omega)) (fun q => ex 11 q (by omega)) (fun q => ex 12 q (by omega)) (fun q => ex 13 q (by omega)) (c3 _) (fun q => cc _ _ (by decide) (by decide)) (fun q => cc _ _ (by decide) (by decide)) (fun q => cc _ _ (by decide) (by decide)) (fun q => cc _ _ (by decide) (by decide)), ?_⟩
  · obtain ⟨⟨a0, a1, a2, a3⟩, a4, a5⟩ := ha
    refine ⟨⟨by rw [ex 0 0 (by omega), e0]; exact a0, by rw [mU_s]; exact e1, by rw [ex 0 2 (by omega), c3]; exact a2, by rw [ex 0 3 (by omega), c3]; exact a3⟩, by rw [ex 0 5 (by omega), c4]; exact a4, fun i h1 h2 => ?_⟩
    rw [ex 0 5 (by omega)] at h2
    rw [ex 9 _ (by omega), ex 10 _ (by omega), cc 36 _ (by decide) (by decide), cc 37 _ (by decide) (by decide)]
    exact a5 i h1 h2
  · intro x hx
    rw [ex 0 2 (by omega)] at hx
    rw [ex 1 x (by omega), ex 2 x (by omega), ex 3 x (by omega), ex 4 x (by omega), cc 26 _ (by decide) (by decide), cc 27 _ (by decide) (by decide), cc 28 _ (by decide) (by decide), cc 29 _ (by decide) (by decide), c3]
    exact hb x hx
  · refine ⟨fun pl c hpl hc hsh => ?_, fun x y hxy hy h1 h2 h3 h4 => ?_⟩
    · rw [cc 25 _ (by decide) (by decide), hp.1 pl c hpl hc hsh, ex 0 2 (by omega)]
      exact (prs_ext _ (fun x _ => by rw [ex 1 x (by omega), ex 2 x (by omega), ex 3 x (by omega)])).symm
    · rw [ex 0 2 (by omega)] at hy
      rw [ex 1 x (by omega), ex 1 y (by omega)] at h1
      rw [ex 2 x (by omega), ex 2 y (by omega)] at h2
      rw [ex 1 x (by omega)] at h3
      rw [ex 3 x (by omega)] at h4
      rw [ex 3 y (by omega)]
      exact hp.2 x y hxy hy h1 h2 h3 h4
/-- the first thing is under way -/
theorem RW.one9 {f : Fr} (rn : ∃ ow, RWn U ow B m) (es : ESw U W) (pd : PSl U W 0) (d : (U 5 6).toInt = 0) (t : (U 5 7).toInt = 0) (e7 : W 5 7 = U 5 7) (k : (U 5 8).toInt = 0) (m4 : m 0 4 = 0) (m6 : m 0 6 = 0) (hf : FRc W B 0 f) (hp : f.2.2.2 = []) (h12 : f.1 < 12 ∨ 16 < f.1) : RW W B (m, 0, [f]) := by
  obtain ⟨ow, rn⟩ := rn
  refine ⟨⟨ow, rn.es es⟩, ⟨?_, fun q => ?_, fun q => ?_, ?_, fun i hi => ?_⟩, ?_, 0, ?_, ?_⟩
  · show _ = m 0 6
    rw [m6]
    exact pd.2.1
  · have q : m 0 6 = 1 := q
    rw [m6] at q
    exact absurd q (by decide)
  · have q : m 0 6 = 2 := q
    rw [m6] at q
    exact absurd q (by decide)
  · show _ = m 0 4
    rw [m4, es.2.2.1.2.2]
    exact k
  · have hi : (i : Int) < m 0 4 := hi
    rw [m4] at hi
    omega
  · have z := pd.1
    show _ = (((1 : Nat)) : Int)
    omega
  · rw [e7]
    exact t
  · exact RWl.push (r := []) (t := 0) (show RWl W B [] 0 from rfl) hf hp (fun a b => by omega)
theorem RW.root {c sc : Int32} (rn : ∃ ow, RWn U ow B m) (es : ESw U W) (p : PRo U W 0 c sc 0) (d : (U 5 6).toInt = 0) (t : (U 5 7).toInt = 0) (e7 : W 5 7 = U 5 7) (k : (U 5 8).toInt = 0) (m4 : m 0 4 = 0) (m6 : m 0 6 = 0) (c0 : 0 ≤ c.toInt) (c1 : c.toInt < ((nC B : Nat) : Int)) (s0 : 0 ≤ sc.toInt) (s1 : sc.toInt < (U 3 12).toInt) : RW W B (m, 0, [Froot0 0 c.toInt sc.toInt 0]) := by
  obtain ⟨pd, pk, p69, p71, p72, p80, p83⟩ := p
  refine RW.one9 rn es pd d t e7 k m4 m6 ?_ rfl (Or.inl (show (0 : Nat) < 12 by decide))
  refine ⟨pk, by rw [p69]; decide, ⟨by rw [p71], c0, c1⟩, ⟨by rw [p72], s0, by rw [es.1 12]; exact s1⟩, by rw [p80]; exact k, by rw [p83]; decide⟩
theorem RW.cal0 {o sc me ag : Int32} (rn : ∃ ow, RWn U ow B m) (es : ESw U W) (p : PCa U W 0 o sc me ag 1) (d : (U 5 6).toInt = 0) (t : (U 5 7).toInt = 0) (e7 : W 5 7 = U 5 7) (k : (U 5 8).toInt = 0) (m4 : m 0 4 = 0) (m6 : m 0 6 = 0) (o0 : 0 ≤ o.toInt) (o1 : o.toInt < (U 3 13).toInt) (s0 : 0 ≤ sc.toInt) (s1 : sc.toInt < (U 3 12).toInt) (h0 : 0 ≤ me.toInt) (h1 : me.toInt ≤ 19) : RW W B (m, 0, [Fcall0 1 o.toInt (m 1 o.toInt.toNat) sc.toInt me.toInt ag]) := by
  obtain ⟨pd, pk, p69, p70, p72, p73, p74, p71, _, _⟩ := p
  have e71 := p71 ⟨o0, o1⟩
  have rn8 := rn
  obtain ⟨ow, rn9⟩ := rn8
  have ro := rn9.2.1 o.toInt.toNat (by have e := rn9.1.1.2.2.1; omega)
  have ek : Int32.toNatClampNeg o = o.toInt.toNat := rfl
  rw [ek] at e71
  have e26 := ro.1.1
  refine RW.one9 rn es pd d t e7 k m4 m6 ?_ rfl (Or.inl (show (5 : Nat) < 12 by decide))
  refine ⟨pk, by rw [p69]; decide, by rw [p70], fun _ => ⟨by rw [es.1 13]; exact o1, by rw [e71]; exact e26⟩, by rw [e71, e26]; exact ro.2.2.1, ⟨by rw [p72], s0, by rw [es.1 12]; exact s1⟩, ⟨by rw [p73], h0, h1⟩, p74⟩
theorem RW.clo0 {o : Int32} (rn : ∃ ow, RWn U ow B m) (es : ESw U W) (p : PCl U W 0 o 0) (d : (U 5 6).toInt = 0) (t : (U 5 7).toInt = 0) (e7 : W 5 7 = U 5 7) (k : (U 5 8).toInt = 0) (m4 : m 0 4 = 0) (m6 : m 0 6 = 0) (o0 : 0 ≤ o.toInt) (o1 : o.toInt < (U 3 13).toInt) : RW W B (m, 0, [Fclo0 0 o.toInt (m 1 o.toInt.toNat) (m 2 o.toInt.toNat)]) := by
  obtain ⟨pd, pk, p69, p70, p71, p72⟩ := p
  have rn8 := rn
  obtain ⟨ow, rn9⟩ := rn8
  have ro := rn9.2.1 o.toInt.toNat (by have e := rn9.1.1.2.2.1; omega)
  have ek : Int32.toNatClampNeg o = o.toInt.toNat := rfl
  rw [ek] at p71 p72
  have e26 := ro.1.1
  have e27 := ro.1.2.1
  refine RW.one9 rn es pd d t e7 k m4 m6 ?_ rfl (Or.inr (show (16 : Nat) < 17 by decide))
  refine ⟨pk, by rw [p69]; decide, ⟨by rw [p70], o0, by rw [es.1 13]; exact o1⟩, ⟨by rw [p71]; exact e26, ro.2.2.1⟩, ⟨by rw [p72]; exact e27, ro.2.2.2.1.1, by rw [es.1 12]; exact ro.2.2.2.1.2⟩⟩
/-- how much a call may cost -/
theorem PHI.b0 {a : Int32} {lv c sc : Int} (h1 : m 0 1 = 0) (h4 : m 0 4 = 0) : ∃ n, n ≤ 999999 ∧ PHI B (m, a, [Froot0 lv c sc 0]) n :=
  ⟨750005, by decide, by show 0 ≤ m 0 1; omega, by show m 0 1 ≤ 3000; omega, ⟨by show (0 : Int) ≤ m 0 4; omega, by show (0 : Int) ≤ 0; (first | exact om_84b6f8c0cf39 | omega)⟩, 5, ⟨5, (show (5 : Nat) ≤ 5 from Nat.le_refl _), Nat.le_refl _, trivial⟩, by show 250 * (3000 - m 0 1) + 10 * m 0 4 + ((5 : Nat) : Int) ≤ ((750005 : Nat) : Int); omega⟩
theorem PHI.b5 {a v : Int32} {lv o c sc me : Int} (h1 : m 0 1 = 0) (h4 : m 0 4 = 0) : ∃ n, n ≤ 999999 ∧ PHI B (m, a, [Fcall0 lv o c sc me v]) n :=
  ⟨750005, by decide, by show 0 ≤ m 0 1; omega, by show m 0 1 ≤ 3000; omega, (show (0 : Int) ≤ m 0 4 by omega), 5, ⟨5, (show (1 : Nat) ≤ 5 from by decide), Nat.le_refl _, trivial⟩, by show 250 * (3000 - m 0 1) + 10 * m 0 4 + ((5 : Nat) : Int) ≤ ((750005 : Nat) : Int); omega⟩
theorem PHI.b17 {a : Int32} {lv o c sc : Int} (h0 : 0 ≤ m 0 1) (h1 : m 0 1 ≤ 3000) (h4 : m 0 4 = 0) : ∃ n, n ≤ 999999 ∧ PHI B (m, a, [Fclo0 lv o c sc]) n :=
  ⟨750008, by decide, h0, h1, (show (0 : Int) ≤ m 0 4 by omega), 8, ⟨8, (show (8 : Nat) ≤ 8 from by decide), Nat.le_refl _, trivial⟩, by show 250 * (3000 - m 0 1) + 10 * m 0 4 + ((8 : Nat) : Int) ≤ ((750008 : Nat) : Int); omega⟩
end CHs
/-- what a get, a call answers, by how the machine ended -/
def ENc (W : Vf) (y : MS) (r no : Int) : Prop := (y.1 0 6 = 1 ∧ r = y.2.1.toInt ∧ (W 4 7).toInt = 0 ∧ (W 4 8).toInt = 0) ∨ (y.1 0 6 = 2 ∧ r = no ∧ (W 4 7).toInt = y.1 0 8 ∧ (W 4 8).toInt = y.1 0 9) ∨ (y.1 0 6 ≠ 1 ∧ y.1 0 6 ≠ 2 ∧ r = no ∧ (W 4 7).toInt = 0 ∧ (W 4 8).toInt = 0)
theorem ENc.of {U W : Vf} {y : MS} {r no : Int} (rh : RWh U y.1 y.2.1) (h : ((U 5 9).toInt = 2 ∧ (W 4 7).toInt = (U 5 11).toInt ∧ (W 4 8).toInt = (U 5 12).toInt) ∨ ((U 5 9).toInt ≠ 2 ∧ (W 4 7).toInt = 0 ∧ (W 4 8).toInt = 0)) (a : ((U 5 9).toInt = 1 ∧ r = (U 5 10).toInt) ∨ ((U 5 9).toInt ≠ 1 ∧ r = no)) : ENc W y r no := by
  have e := rh.1
  rcases h with ⟨h1, h2, h3⟩ | ⟨h1, h2, h3⟩
  · have z := rh.2.2.1 (by omega)
    have a2 : r = no := by
      rcases a with a | a
      · omega
      · exact a.2
    exact Or.inr (Or.inl ⟨by omega, a2, h2.trans z.1, h3.trans z.2⟩)
  · rcases a with ⟨a1, a2⟩ | ⟨a1, a2⟩
    · have z := rh.2.1 (by omega)
      exact Or.inl ⟨by omega, by rw [a2, z], h2, h3⟩
    · exact Or.inr (Or.inr ⟨by omega, by omega, a2, h2, h3⟩)


abbrev r_x_noteCause9 : Room := { frames := 0, cells := 0, slots := 0, locals := 0 }
abbrev q_x_noteCause9 (D : va_G) (ks : KS) (ad : Nat → Nat) (kk : Nat → ClassId) (V : Vf) (L : Lf) (Z : XZ) (p0 : Int32) (p1 : Int32) (A : Nat → Prop) : Array Value → State → Outcome → State → Prop := va_Qv (fun (u : Vf × Lf) => rgd bX u.1 ∧ agr [(4, 7), (4, 8)] [] V u.1 ∧ u.2 = L ∧ ((u.1 4 7).toInt = p0.toInt) ∧ ((u.1 4 8).toInt = p1.toInt)) (fun u t => gq D A (xw ad kk u.1 u.2 Z) (xty kk Z) t) A
set_option maxHeartbeats 4000000 in
set_option maxRecDepth 100000 in
theorem x_noteCause9 (l : Launch) (D : va_G) (ks : KS) (sz : Nat) (ad : Nat → Nat) (kk : Nat → ClassId) (V : Vf) (L : Lf) (Z : XZ) (p0 : Int32) (p1 : Int32) (hMV : rgd bX V)  : Met l yX7_noteCause (Cond.code yX7_noteCause cX7_noteCause 3 none :: GW) r_x_noteCause9 (va_Pc [.ref (ad 4), .int p0, .int p1] (gp D ks (xw ad kk V L Z) (xty kk Z) sz)) (q_x_noteCause9 D ks ad kk V L Z p0 p1 (va_A (xw ad kk V L Z) sz)) 0 0 (va_A (xw ad kk V L Z) sz) := by
  refine g_met (q_x_noteCause9 D ks ad kk V L Z p0 p1) (by decide) (Nat.le_of_ble_eq_true rfl) ?_
  intro p e s m below meth c A ls H locs hx hb hr hml hown hg hlocks hin hnw hgk hP hK hD hS hA hl
  have hown : s.vm.findClass RX7 = some m.cls := hown
  have hl : lv_has ls 3 [(0, .ref (ad 4)), (1, .int p0), (2, .int p1)] := hl
  have hP : va_P D vwCl (xw ad kk V L Z) H := hP
  have hD : va_D A (xw ad kk V L Z) := hD
  have hK : va_K D vwCl (xty kk Z) s := hK
  have agV : agr [(4, 7), (4, 8)] [] V V := agr.rf
  refine lv_aload_n hx hb dX7_noteCause_0 rfl (lv_at hl 0 rfl) ?_
  refine lv_iload_n hx hb dX7_noteCause_1 rfl (lv_at hl 1 rfl) ?_
  refine va_put (D := D) (ci := 7) (v := .int p0) (ty := tyX7 7) (fs := (xfNotes ad V L Z)) (C := RX7) (T := TX7) (N := 10) hx hb hg inX7 tyX7 tyX7_ok nmX7 hown hK hP hD hS 4 xgNotes rfl 7 (by decide) (hg _ w442) (fun _ h9 => h9) rfl (tyX7_ok 7 (by decide)) rfl rfl (Nat.le_of_ble_eq_true rfl) dX7_noteCause_2 (fun H locs hP hD hS => ?_)
  obtain ⟨V1, hV1⟩ : ∃ z, z = up2 V 4 7 p0 := ⟨_, rfl⟩
  have ew2 : (xw ad kk V L Z).set 4 ((ad 4), .inr (7, (xfNotes ad V L Z).set 7 (.int p0))) = xw ad kk V1 L Z := by rw [hV1]; exact xw_ss (by decide) rfl (xb_si (by decide))
  have hP : va_P D vwCl (xw ad kk V1 L Z) H := by rw [← ew2]; exact hP
  have hD : va_D A (xw ad kk V1 L Z) := by rw [← ew2]; exact hD
  have hMV1 : rgd bX V1 := hMV.put hV1 (i_full _)
  have agV1 : agr [(4, 7), (4, 8)] [] V V1 := agV.up hV1 rfl
  refine lv_aload_n hx hb dX7_noteCause_5 rfl (lv_at hl 0 rfl) ?_
  refine lv_iload_n hx hb dX7_noteCause_6 rfl (lv_at hl 2 rfl) ?_
  refine va_put (D := D) (ci := 7) (v := .int p1) (ty := tyX7 8) (fs := (xfNotes ad V1 L Z)) (C := RX7) (T := TX7) (N := 10) hx hb hg inX7 tyX7 tyX7_ok nmX7 hown hK hP hD hS 4 xgNotes rfl 8 (by decide) (hg _ w443) (fun _ h9 => h9) rfl (tyX7_ok 8 (by decide)) rfl rfl (Nat.le_of_ble_eq_true rfl) dX7_noteCause_7 (fun H locs hP hD hS => ?_)
  obtain ⟨V3, hV3⟩ : ∃ z, z = up2 V1 4 8 p1 := ⟨_, rfl⟩
  have ew4 : (xw ad kk V1 L Z).set 4 ((ad 4), .inr (7, (xfNotes ad V1 L Z).set 8 (.int p1))) = xw ad kk V3 L Z := by rw [hV3]; exact xw_ss (by decide) rfl (xb_si (by decide))
  have hP : va_P D vwCl (xw ad kk V3 L Z) H := by rw [← ew4]; exact hP
  have hD : va_D A (xw ad kk V3 L Z) := by rw [← ew4]; exact hD
  have hMV3 : rgd bX V3 := hMV1.put hV3 (i_full _)
  have agV3 : agr [(4, 7), (4, 8)] [] V V3 := agV1.up hV3 rfl
  have pq5 : (V3 4 7).toInt = p0.toInt := congrArg Int32.toInt ((up2_k hV3 (by decide)).trans (up2_s hV1))
  have pq6 : (V3 4 8).toInt = p1.toInt := congrArg Int32.toInt (up2_s hV3)
  exact W.vret hx hb hr (fun t ht hW => ⟨⟨(V3, L), rfl, ⟨hMV3, agV3, rfl, (show (V3 4 7).toInt = p0.toInt from by (first | exact om_570b691c1130 pq5 | omega)), (show (V3 4 8).toInt = p1.toInt from by (first | exact om_570b691c1130 pq6 | omega))⟩, by rw [ht]; exact hP, va_K.moved hW.alike hK, hD⟩, hS.F ht⟩) hS.2.2 dX7_noteCause_10
abbrev r_x_isOpen9 : Room := { frames := 0, cells := 0, slots := 0, locals := 0 }
abbrev q_x_isOpen9 (D : va_G) (ks : KS) (ad : Nat → Nat) (kk : Nat → ClassId) (V : Vf) (L : Lf) (Z : XZ) (p0 : Int32) (A : Nat → Prop) : Array Value → State → Outcome → State → Prop := va_Qi (fun (r : Int32) (_ : Unit) => (0 ≤ r.toInt ∧ r.toInt ≤ 1) ∧ (Imp (r.toInt = 1) (0 ≤ p0.toInt ∧ p0.toInt < (V 3 12).toInt)) ∧ ((r.toInt = 1 ∧ 0 ≤ p0.toInt ∧ p0.toInt < (V 3 12).toInt ∧ (V 23 (Int32.toNatClampNeg p0)).toInt = 1) ∨ (r.toInt = 0 ∧ (p0.toInt < 0 ∨ (V 3 12).toInt ≤ p0.toInt ∨ (V 23 (Int32.toNatClampNeg p0)).toInt = 0)))) (fun _ t => gq D A (xw ad kk V L Z) (xty kk Z) t) A
set_option maxHeartbeats 4000000 in
set_option maxRecDepth 100000 in
theorem x_isOpen9 (l : Launch) (D : va_G) (ks : KS) (sz : Nat) (ad : Nat → Nat) (kk : Nat → ClassId) (V : Vf) (L : Lf) (Z : XZ) (p0 : Int32) (hMV : rgd bX V)  : Met l yX8_isOpen (Cond.code yX8_isOpen cX8_isOpen 2 (some .boolean) :: GW) r_x_isOpen9 (va_Pc [.ref (ad 3), .int p0] (gp D ks (xw ad kk V L Z) (xty kk Z) sz)) (q_x_isOpen9 D ks ad kk V L Z p0 (va_A (xw ad kk V L Z) sz)) 0 0 (va_A (xw ad kk V L Z) sz) := by
  refine g_met (q_x_isOpen9 D ks ad kk V L Z p0) (by decide) (Nat.le_of_ble_eq_true rfl) ?_
  intro p e s m below meth c A ls H locs hx hb hr hml hown hg hlocks hin hnw hgk hP hK hD hS hA hl
  have hown : s.vm.findClass RX8 = some m.cls := hown
  have hl : lv_has ls 2 [(0, .ref (ad 3)), (1, .int p0)] := hl
  have hP : va_P D vwCl (xw ad kk V L Z) H := hP
  have hD : va_D A (xw ad kk V L Z) := hD
  have hK : va_K D vwCl (xty kk Z) s := hK
  refine lv_iload_n hx hb dX8_isOpen_0 rfl (lv_at hl 1 rfl) ?_
  refine lv_if_lt (tgt := 25) hx hb dX8_isOpen_1 (by decide) (fun c1 => ?_) (fun c1 => ?_)
  · skip
    have f2 : p0.toInt < 0 := b_lt rfl (by decide) c1
    refine lv_iconst (v := 0) hx hb dX8_isOpen_25 (by decide) ?_
    have r3 : 1 ≤ ((V 3 12)).toInt ∧ ((V 3 12)).toInt ≤ 40 := hMV 3 12
    have r4 : 0 ≤ ((V 23 (Int32.toNatClampNeg p0))).toInt ∧ ((V 23 (Int32.toNatClampNeg p0))).toInt ≤ 1 := hMV 23 (Int32.toNatClampNeg p0)
    exact W.zret (v := 0) hx hb hr rfl (fun t ht hW => ⟨⟨0, (), rfl, ⟨(by decide), (Imp.mk (fun hp => absurd hp (by decide))), (show (0 = 1 ∧ 0 ≤ p0.toInt ∧ p0.toInt < (V 3 12).toInt ∧ (V 23 (Int32.toNatClampNeg p0)).toInt = 1) ∨ (0 = 0 ∧ (p0.toInt < 0 ∨ (V 3 12).toInt ≤ p0.toInt ∨ (V 23 (Int32.toNatClampNeg p0)).toInt = 0)) from by omega)⟩, by rw [ht]; exact hP, va_K.moved hW.alike hK, hD⟩, hS.F ht⟩) hS.2.2 dX8_isOpen_26
  · skip
    have f5 : 0 ≤ p0.toInt := b_nlt rfl (by decide) c1
    refine lv_iload_n hx hb dX8_isOpen_4 rfl (lv_at hl 1 rfl) ?_
    refine lv_aload_n hx hb dX8_isOpen_5 rfl (lv_at hl 0 rfl) ?_
    refine va_get (D := D) (ci := 8) (v := .int (V 3 12)) (fs := (xfStock ad V L Z)) (C := RX8) (T := TX8) (N := 16) hx hb hg inX8 hown hK hP 3 xgStock rfl 12 (by decide) (hg _ w390) (fun _ h9 => h9) rfl dX8_isOpen_6 ?_
    have r6 : 1 ≤ ((V 3 12)).toInt ∧ ((V 3 12)).toInt ≤ 40 := hMV 3 12
    refine lv_icmp_ge (tgt := 25) hx hb dX8_isOpen_9 (by decide) (fun c7 => ?_) (fun c7 => ?_)
    · skip
      have f8 : ((V 3 12)).toInt ≤ p0.toInt := b_le rfl rfl c7
      refine lv_iconst (v := 0) hx hb dX8_isOpen_25 (by decide) ?_
      have r9 : 0 ≤ ((V 23 (Int32.toNatClampNeg p0))).toInt ∧ ((V 23 (Int32.toNatClampNeg p0))).toInt ≤ 1 := hMV 23 (Int32.toNatClampNeg p0)
      exact W.zret (v := 0) hx hb hr rfl (fun t ht hW => ⟨⟨0, (), rfl, ⟨(by decide), (Imp.mk (fun hp => absurd hp (by decide))), (show (0 = 1 ∧ 0 ≤ p0.toInt ∧ p0.toInt < (V 3 12).toInt ∧ (V 23 (Int32.toNatClampNeg p0)).toInt = 1) ∨ (0 = 0 ∧ (p0.toInt < 0 ∨ (V 3 12).toInt ≤ p0.toInt ∨ (V 23 (Int32.toNatClampNeg p0)).toInt = 0)) from by omega)⟩, by rw [ht]; exact hP, va_K.moved hW.alike hK, hD⟩, hS.F ht⟩) hS.2.2 dX8_isOpen_26
    · skip
      have f10 : p0.toInt < ((V 3 12)).toInt := b_nle rfl rfl c7
      refine lv_aload_n hx hb dX8_isOpen_12 rfl (lv_at hl 0 rfl) ?_
      refine va_get (D := D) (ci := 8) (v := .ref (ad 20)) (fs := (xfStock ad V L Z)) (C := RX8) (T := TX8) (N := 16) hx hb hg inX8 hown hK hP 3 xgStock rfl 2 (by decide) (hg _ w376) (fun _ h9 => h9) rfl dX8_isOpen_13 ?_
      refine lv_iload_n hx hb dX8_isOpen_16 rfl (lv_at hl 1 rfl) ?_
      refine va_zald (D := D) (i := p0) hx hb hK hP 20 13 rfl rfl (i_in (a := p0.toInt) rfl (by (first | exact om_8c1a0720d08e f5 r6.2 f10 | omega))) dX8_isOpen_17 ?_
      have r11 : 0 ≤ ((V 23 (Int32.toNatClampNeg p0))).toInt ∧ ((V 23 (Int32.toNatClampNeg p0))).toInt ≤ 1 := hMV 23 (Int32.toNatClampNeg p0)
      refine lv_if_eq (tgt := 25) hx hb dX8_isOpen_18 (by decide) (fun c12 => ?_) (fun c12 => ?_)
      · skip
        have f13 : ((V 23 (Int32.toNatClampNeg p0))).toInt = 0 := b_eq rfl (by decide) c12
        refine lv_iconst (v := 0) hx hb dX8_isOpen_25 (by decide) ?_
        exact W.zret (v := 0) hx hb hr rfl (fun t ht hW => ⟨⟨0, (), rfl, ⟨(by decide), (Imp.mk (fun hp => absurd hp (by decide))), (show (0 = 1 ∧ 0 ≤ p0.toInt ∧ p0.toInt < (V 3 12).toInt ∧ (V 23 (Int32.toNatClampNeg p0)).toInt = 1) ∨ (0 = 0 ∧ (p0.toInt < 0 ∨ (V 3 12).toInt ≤ p0.toInt ∨ (V 23 (Int32.toNatClampNeg p0)).toInt = 0)) from by omega)⟩, by rw [ht]; exact hP, va_K.moved hW.alike hK, hD⟩, hS.F ht⟩) hS.2.2 dX8_isOpen_26
      · skip
        have f14 : ((V 23 (Int32.toNatClampNeg p0))).toInt ≠ 0 := b_neq rfl (by decide) c12
        refine lv_iconst (v := 1) hx hb dX8_isOpen_21 (by decide) ?_
        refine lv_goto (tgt := 26) hx hb dX8_isOpen_22 (by decide) ?_
        exact W.zret (v := 1) hx hb hr rfl (fun t ht hW => ⟨⟨1, (), rfl, ⟨(by decide), (Imp.mk (fun _ => (show 0 ≤ p0.toInt ∧ p0.toInt < (V 3 12).toInt from by (first | exact om_a1ce77cc111f f5 f10 | omega)))), (show (1 = 1 ∧ 0 ≤ p0.toInt ∧ p0.toInt < (V 3 12).toInt ∧ (V 23 (Int32.toNatClampNeg p0)).toInt = 1) ∨ (1 = 0 ∧ (p0.toInt < 0 ∨ (V 3 12).toInt ≤ p0.toInt ∨ (V 23 (Int32.toNatClampNeg p0)).toInt = 0)) from by omega)⟩, by rw [ht]; exact hP, va_K.moved hW.alike hK, hD⟩, hS.F ht⟩) hS.2.2 dX8_isOpen_26
abbrev r_x_howItEnded9 : Room := { frames := 1, cells := 0, slots := 0, locals := 22 }
abbrev q_x_howItEnded9 (D : va_G) (ks : KS) (ad : Nat → Nat) (kk : Nat → ClassId) (V : Vf) (L : Lf) (Z : XZ) (A : Nat → Prop) : Array Value → State → Outcome → State → Prop := va_Qi (fun (r : Int32) (u : Vf × Lf) => rgd bX u.1 ∧ agr [(4, 7), (4, 8)] [] V u.1 ∧ u.2 = L ∧ (((V 5 9).toInt = 2 ∧ (u.1 4 7).toInt = (V 5 11).toInt ∧ (u.1 4 8).toInt = (V 5 12).toInt) ∨ ((V 5 9).toInt ≠ 2 ∧ (u.1 4 7).toInt = (V 4 7).toInt ∧ (u.1 4 8).toInt = (V 4 8).toInt))) (fun u t => gq D A (xw ad kk u.1 u.2 Z) (xty kk Z) t) A
set_option maxHeartbeats 4000000 in
set_option maxRecDepth 100000 in
theorem x_howItEnded9 (l : Launch) (D : va_G) (ks : KS) (sz : Nat) (ad : Nat → Nat) (kk : Nat → ClassId) (V : Vf) (L : Lf) (Z : XZ)  (hMV : rgd bX V)  : Met l yX5_howItEnded (Cond.code yX5_howItEnded cX5_howItEnded 1 (some .int) :: GW) r_x_howItEnded9 (va_Pc [.ref (ad 5)] (gp D ks (xw ad kk V L Z) (xty kk Z) sz)) (q_x_howItEnded9 D ks ad kk V L Z  (va_A (xw ad kk V L Z) sz)) 0 0 (va_A (xw ad kk V L Z) sz) := by
  refine g_met (q_x_howItEnded9 D ks ad kk V L Z) (by decide) (Nat.le_of_ble_eq_true rfl) ?_
  intro p e s m below meth c A ls H locs hx hb hr hml hown hg hlocks hin hnw hgk hP hK hD hS hA hl
  have hown : s.vm.findClass RX5 = some m.cls := hown
  have hl : lv_has ls 1 [(0, .ref (ad 5))] := hl
  have hP : va_P D vwCl (xw ad kk V L Z) H := hP
  have hD : va_D A (xw ad kk V L Z) := hD
  have hK : va_K D vwCl (xty kk Z) s := hK
  have agV : agr [(4, 7), (4, 8)] [] V V := agr.rf
  refine lv_aload_n hx hb dX5_howItEnded_0 rfl (lv_at hl 0 rfl) ?_
  refine va_get (D := D) (ci := 5) (v := .int (V 5 9)) (fs := (xfMachine ad V L Z)) (C := RX5) (T := TX5) (N := 15) hx hb hg inX5 hown hK hP 5 xgMachine rfl 9 (by decide) (hg _ w676) (fun _ h9 => h9) rfl dX5_howItEnded_1 ?_
  have r1 : 0 ≤ ((V 5 9)).toInt ∧ ((V 5 9)).toInt ≤ 3 := hMV 5 9
  refine lv_iconst (v := 2) hx hb dX5_howItEnded_4 (by decide) ?_
  refine lv_icmp_ne (tgt := 25) hx hb dX5_howItEnded_5 (by decide) (fun c2 => ?_) (fun c2 => ?_)
  · skip
    have f3 : ((V 5 9)).toInt ≠ 2 := b_neq rfl (by decide) c2
    refine lv_aload_n hx hb dX5_howItEnded_25 rfl (lv_at hl 0 rfl) ?_
    refine va_get (D := D) (ci := 5) (v := .int (V 5 9)) (fs := (xfMachine ad V L Z)) (C := RX5) (T := TX5) (N := 15) hx hb hg inX5 hown hK hP 5 xgMachine rfl 9 (by decide) (hg _ w676) (fun _ h9 => h9) rfl dX5_howItEnded_26 ?_
    refine lv_iconst (v := 3) hx hb dX5_howItEnded_29 (by decide) ?_
    refine lv_icmp_ne (tgt := 38) hx hb dX5_howItEnded_30 (by decide) (fun c4 => ?_) (fun c4 => ?_)
    · skip
      have f5 : ((V 5 9)).toInt ≠ 3 := b_neq rfl (by decide) c4
      refine lv_iconst (v := 0) hx hb dX5_howItEnded_38 (by decide) ?_
      exact W.iret (v := 0) hx hb hr (fun t ht hW => ⟨⟨0, (V, L), rfl, ⟨hMV, agV, rfl, (show ((V 5 9).toInt = 2 ∧ (V 4 7).toInt = (V 5 11).toInt ∧ (V 4 8).toInt = (V 5 12).toInt) ∨ ((V 5 9).toInt ≠ 2 ∧ (V 4 7).toInt = (V 4 7).toInt ∧ (V 4 8).toInt = (V 4 8).toInt) from by omega)⟩, by rw [ht]; exact hP, va_K.moved hW.alike hK, hD⟩, hS.F ht⟩) hS.2.2 dX5_howItEnded_39
    · skip
      have f6 : ((V 5 9)).toInt = 3 := b_eq rfl (by decide) c4
      refine lv_bipush (v := 6) hx hb dX5_howItEnded_33 (by decide) ?_
      refine lv_goto (tgt := 39) hx hb dX5_howItEnded_35 (by decide) ?_
      exact W.iret (v := 6) hx hb hr (fun t ht hW => ⟨⟨6, (V, L), rfl, ⟨hMV, agV, rfl, (show ((V 5 9).toInt = 2 ∧ (V 4 7).toInt = (V 5 11).toInt ∧ (V 4 8).toInt = (V 5 12).toInt) ∨ ((V 5 9).toInt ≠ 2 ∧ (V 4 7).toInt = (V 4 7).toInt ∧ (V 4 8).toInt = (V 4 8).toInt) from by omega)⟩, by rw [ht]; exact hP, va_K.moved hW.alike hK, hD⟩, hS.F ht⟩) hS.2.2 dX5_howItEnded_39
  · skip
    have f7 : ((V 5 9)).toInt = 2 := b_eq rfl (by decide) c2
    refine lv_aload_n hx hb dX5_howItEnded_8 rfl (lv_at hl 0 rfl) ?_
    refine va_get (D := D) (ci := 5) (v := .ref (ad 4)) (fs := (xfMachine ad V L Z)) (C := RX5) (T := TX5) (N := 15) hx hb hg inX5 hown hK hP 5 xgMachine rfl 1 (by decide) (hg _ w668) (fun _ h9 => h9) rfl dX5_howItEnded_9 ?_
    refine lv_aload_n hx hb dX5_howItEnded_12 rfl (lv_at hl 0 rfl) ?_
    refine va_get (D := D) (ci := 5) (v := .int (V 5 11)) (fs := (xfMachine ad V L Z)) (C := RX5) (T := TX5) (N := 15) hx hb hg inX5 hown hK hP 5 xgMachine rfl 11 (by decide) (hg _ w678) (fun _ h9 => h9) rfl dX5_howItEnded_13 ?_
    refine lv_aload_n hx hb dX5_howItEnded_16 rfl (lv_at hl 0 rfl) ?_
    refine va_get (D := D) (ci := 5) (v := .int (V 5 12)) (fs := (xfMachine ad V L Z)) (C := RX5) (T := TX5) (N := 15) hx hb hg inX5 hown hK hP 5 xgMachine rfl 12 (by decide) (hg _ w679) (fun _ h9 => h9) rfl dX5_howItEnded_17 ?_
    refine gA_void (gA_runV (As := [.int (V 5 11), .int (V 5 12)]) (rest := []) (ci := 7) (q0 := 4) hx hb hml hown hg hP hD hK hS hA hnw hgk (x_noteCause9 l D ks H.size ad kk V L Z (V 5 11) (V 5 12) hMV ) w1505 w1167 w1168 w166 w1169 rfl xgNotes hdV_yX7_noteCause ⟨Nat.le_of_ble_eq_true rfl, Nat.le_of_ble_eq_true rfl⟩ rfl hl.1 rfl (Nat.le_of_ble_eq_true rfl) dX5_howItEnded_20 ⟨Nat.le_of_ble_eq_true rfl, Nat.le_of_ble_eq_true rfl⟩) hP hD hK hS hA (fun u9 H locs w10 hP hD hK hS => ?_)
    obtain ⟨V13, L14⟩ := u9
    obtain ⟨hMV13, ajV13, axL14, t11, t12⟩ := w10
    have axL14 : L = L14 := Eq.symm axL14
    subst axL14
    have hP : va_P D vwCl (xw ad kk V13 L Z) H := hP
    have hD : va_D A (xw ad kk V13 L Z) := hD
    have hMV13 : rgd bX V13 := hMV13
    have ajV13 : agr [(4, 7), (4, 8)] [] V V13 := ajV13
    have agV13 : agr [(4, 7), (4, 8)] [] V V13 := agV.tr ajV13 (by decide) (by decide)
    have t11 : (V13 4 7).toInt = ((V 5 11)).toInt := t11
    have t12 : (V13 4 8).toInt = ((V 5 12)).toInt := t12
    refine lv_iconst (v := 1) hx hb dX5_howItEnded_23 (by decide) ?_
    have pq15 : (V13 5 12).toInt = ((V 5 12)).toInt := congrArg Int32.toInt (ajV13 5 12 rfl)
    have pq16 : (V13 5 11).toInt = ((V 5 11)).toInt := congrArg Int32.toInt (ajV13 5 11 rfl)
    have pq17 : (V13 5 9).toInt = ((V 5 9)).toInt := congrArg Int32.toInt (ajV13 5 9 rfl)
    exact W.iret (v := 1) hx hb hr (fun t ht hW => ⟨⟨1, (V13, L), rfl, ⟨hMV13, agV13, rfl, (show ((V 5 9).toInt = 2 ∧ (V13 4 7).toInt = (V 5 11).toInt ∧ (V13 4 8).toInt = (V 5 12).toInt) ∨ ((V 5 9).toInt ≠ 2 ∧ (V13 4 7).toInt = (V 4 7).toInt ∧ (V13 4 8).toInt = (V 4 8).toInt) from by (first | exact om_7ef14416ce08 f7 t11 t12 | omega))⟩, by rw [ht]; exact hP, va_K.moved hW.alike hK, hD⟩, hS.F ht⟩) hS.2.2 dX5_howItEnded_24
abbrev r_x_answerOr9 : Room := { frames := 0, cells := 0, slots := 0, locals := 0 }
abbrev q_x_answerOr9 (D : va_G) (ks : KS) (ad : Nat → Nat) (kk : Nat → ClassId) (V : Vf) (L : Lf) (Z : XZ) (p0 : Int32) (A : Nat → Prop) : Array Value → State → Outcome → State → Prop := va_Qi (fun (r : Int32) (_ : Unit) => (((V 5 9).toInt = 1 ∧ r.toInt = (V 5 10).toInt) ∨ ((V 5 9).toInt ≠ 1 ∧ r.toInt = p0.toInt))) (fun _ t => gq D A (xw ad kk V L Z) (xty kk Z) t) A
set_option maxHeartbeats 4000000 in
set_option maxRecDepth 100000 in
theorem x_answerOr9 (l : Launch) (D : va_G) (ks : KS) (sz : Nat) (ad : Nat → Nat) (kk : Nat → ClassId) (V : Vf) (L : Lf) (Z : XZ) (p0 : Int32) (hMV : rgd bX V)  : Met l yX5_answerOr (Cond.code yX5_answerOr cX5_answerOr 2 (some .int) :: GW) r_x_answerOr9 (va_Pc [.ref (ad 5), .int p0] (gp D ks (xw ad kk V L Z) (xty kk Z) sz)) (q_x_answerOr9 D ks ad kk V L Z p0 (va_A (xw ad kk V L Z) sz)) 0 0 (va_A (xw ad kk V L Z) sz) := by
  refine g_met (q_x_answerOr9 D ks ad kk V L Z p0) (by decide) (Nat.le_of_ble_eq_true rfl) ?_
  intro p e s m below meth c A ls H locs hx hb hr hml hown hg hlocks hin hnw hgk hP hK hD hS hA hl
  have hown : s.vm.findClass RX5 = some m.cls := hown
  have hl : lv_has ls 2 [(0, .ref (ad 5)), (1, .int p0)] := hl
  have hP : va_P D vwCl (xw ad kk V L Z) H := hP
  have hD : va_D A (xw ad kk V L Z) := hD
  have hK : va_K D vwCl (xty kk Z) s := hK
  refine lv_aload_n hx hb dX5_answerOr_0 rfl (lv_at hl 0 rfl) ?_
  refine va_get (D := D) (ci := 5) (v := .int (V 5 9)) (fs := (xfMachine ad V L Z)) (C := RX5) (T := TX5) (N := 15) hx hb hg inX5 hown hK hP 5 xgMachine rfl 9 (by decide) (hg _ w676) (fun _ h9 => h9) rfl dX5_answerOr_1 ?_
  have r1 : 0 ≤ ((V 5 9)).toInt ∧ ((V 5 9)).toInt ≤ 3 := hMV 5 9
  refine lv_iconst (v := 1) hx hb dX5_answerOr_4 (by decide) ?_
  refine lv_icmp_ne (tgt := 15) hx hb dX5_answerOr_5 (by decide) (fun c2 => ?_) (fun c2 => ?_)
  · skip
    have f3 : ((V 5 9)).toInt ≠ 1 := b_neq rfl (by decide) c2
    refine lv_iload_n hx hb dX5_answerOr_15 rfl (lv_at hl 1 rfl) ?_
    exact W.iret (v := p0) hx hb hr (fun t ht hW => ⟨⟨p0, (), rfl, (show ((V 5 9).toInt = 1 ∧ p0.toInt = (V 5 10).toInt) ∨ ((V 5 9).toInt ≠ 1 ∧ p0.toInt = p0.toInt) from by omega), by rw [ht]; exact hP, va_K.moved hW.alike hK, hD⟩, hS.F ht⟩) hS.2.2 dX5_answerOr_16
  · skip
    have f4 : ((V 5 9)).toInt = 1 := b_eq rfl (by decide) c2
    refine lv_aload_n hx hb dX5_answerOr_8 rfl (lv_at hl 0 rfl) ?_
    refine va_get (D := D) (ci := 5) (v := .int (V 5 10)) (fs := (xfMachine ad V L Z)) (C := RX5) (T := TX5) (N := 15) hx hb hg inX5 hown hK hP 5 xgMachine rfl 10 (by decide) (hg _ w677) (fun _ h9 => h9) rfl dX5_answerOr_9 ?_
    refine lv_goto (tgt := 16) hx hb dX5_answerOr_12 (by decide) ?_
    exact W.iret (v := (V 5 10)) hx hb hr (fun t ht hW => ⟨⟨(V 5 10), (), rfl, (show ((V 5 9).toInt = 1 ∧ ((V 5 10)).toInt = (V 5 10).toInt) ∨ ((V 5 9).toInt ≠ 1 ∧ ((V 5 10)).toInt = p0.toInt) from by (first | exact om_e03ab330ff30 f4 | omega)), by rw [ht]; exact hP, va_K.moved hW.alike hK, hD⟩, hS.F ht⟩) hS.2.2 dX5_answerOr_16
abbrev r_x_ends9 : Room := { frames := 0, cells := 0, slots := 0, locals := 0 }
abbrev q_x_ends9 (D : va_G) (ks : KS) (ad : Nat → Nat) (kk : Nat → ClassId) (V : Vf) (L : Lf) (Z : XZ) (p0 : Int32) (p1 : Int32) (A : Nat → Prop) : Array Value → State → Outcome → State → Prop := va_Qi (fun (r : Int32) (u : Vf × Lf) => rgd bX u.1 ∧ agr [(0, 9)] [] V u.1 ∧ u.2 = L ∧ (r.toInt = p1.toInt)) (fun u t => gq D A (xw ad kk u.1 u.2 Z) (xty kk Z) t) A
set_option maxHeartbeats 4000000 in
set_option maxRecDepth 100000 in
theorem x_ends9 (l : Launch) (D : va_G) (ks : KS) (sz : Nat) (ad : Nat → Nat) (kk : Nat → ClassId) (V : Vf) (L : Lf) (Z : XZ) (p0 : Int32) (p1 : Int32) (hMV : rgd bX V)  : Met l yX11_ends (Cond.code yX11_ends cX11_ends 3 (some .int) :: GW) r_x_ends9 (va_Pc [.ref (ad 0), .int p0, .int p1] (gp D ks (xw ad kk V L Z) (xty kk Z) sz)) (q_x_ends9 D ks ad kk V L Z p0 p1 (va_A (xw ad kk V L Z) sz)) 0 0 (va_A (xw ad kk V L Z) sz) := by
  refine g_met (q_x_ends9 D ks ad kk V L Z p0 p1) (by decide) (Nat.le_of_ble_eq_true rfl) ?_
  intro p e s m below meth c A ls H locs hx hb hr hml hown hg hlocks hin hnw hgk hP hK hD hS hA hl
  have hown : s.vm.findClass RX11 = some m.cls := hown
  have hl : lv_has ls 3 [(0, .ref (ad 0)), (1, .int p0), (2, .int p1)] := hl
  have hP : va_P D vwCl (xw ad kk V L Z) H := hP
  have hD : va_D A (xw ad kk V L Z) := hD
  have hK : va_K D vwCl (xty kk Z) s := hK
  have agV : agr [(0, 9)] [] V V := agr.rf
  refine lv_aload_n hx hb dX11_ends_0 rfl (lv_at hl 0 rfl) ?_
  refine lv_iload_n hx hb dX11_ends_1 rfl (lv_at hl 1 rfl) ?_
  refine va_put (D := D) (ci := 11) (v := .int p0) (ty := tyX11 9) (fs := (xfHouse ad V L Z)) (C := RX11) (T := TX11) (N := 10) hx hb hg inX11 tyX11 tyX11_ok nmX11 hown hK hP hD hS 0 xgHouse rfl 9 (by decide) (hg _ w724) (fun _ h9 => h9) rfl (tyX11_ok 9 (by decide)) rfl rfl (Nat.le_of_ble_eq_true rfl) dX11_ends_2 (fun H locs hP hD hS => ?_)
  obtain ⟨V1, hV1⟩ : ∃ z, z = up2 V 0 9 p0 := ⟨_, rfl⟩
  have ew2 : (xw ad kk V L Z).set 0 ((ad 0), .inr (11, (xfHouse ad V L Z).set 9 (.int p0))) = xw ad kk V1 L Z := by rw [hV1]; exact xw_ss (by decide) rfl (xb_si (by decide))
  have hP : va_P D vwCl (xw ad kk V1 L Z) H := by rw [← ew2]; exact hP
  have hD : va_D A (xw ad kk V1 L Z) := by rw [← ew2]; exact hD
  have hMV1 : rgd bX V1 := hMV.put hV1 (i_full _)
  have agV1 : agr [(0, 9)] [] V V1 := agV.up hV1 rfl
  refine lv_iload_n hx hb dX11_ends_5 rfl (lv_at hl 2 rfl) ?_
  exact W.iret (v := p1) hx hb hr (fun t ht hW => ⟨⟨p1, (V1, L), rfl, ⟨hMV1, agV1, rfl, (show p1.toInt = p1.toInt from by (first | exact om_4c2c879c4424 | omega))⟩, by rw [ht]; exact hP, va_K.moved hW.alike hK, hD⟩, hS.F ht⟩) hS.2.2 dX11_ends_6
abbrev r_x_h_get9 (Z : XZ) : Room := { frames := 8, cells := zcc Z, slots := zss Z, locals := 181 }
abbrev q_x_h_get9 (D : va_G) (ks : KS) (ad : Nat → Nat) (kk : Nat → ClassId) (V : Vf) (L : Lf) (Z : XZ) (p0 : Int32) (p1 : Int32) (b : Nat) (gB : Bk) (gm : Mm) (A : Nat → Prop) : Array Value → State → Outcome → State → Prop := qZi D (fun (r : Int32) (u : Vf × Lf × XZ) => rgd bX u.1 ∧ agr [(0, 9), (3, 13), (3, 14), (3, 15), (4, 5), (4, 6), (4, 7), (4, 8), (5, 6), (5, 7), (5, 8), (5, 9), (5, 10), (5, 11), (5, 12), (5, 13), (5, 14)] [24, 25, 26, 27, 28, 29, 30, 31, 32, 33, 34, 35, 36, 37, 39, 40, 67, 68, 69, 70, 71, 72, 73, 74, 75, 76, 77, 78, 79, 80, 81, 82, 83, 84, 85] V u.1 ∧ u.2.1 = L ∧ ZL Z u.2.2 ∧ (HI u.1 u.2.2 b) ∧ (((V 0 8).toInt = 1 ∧ (0 ≤ p0.toInt ∧ p0.toInt < (V 3 12).toInt ∧ (V 23 (Int32.toNatClampNeg p0)).toInt = 1) ∧ (0 ≤ p1.toInt ∧ p1.toInt < ((nC gB : Nat) : Int) ∧ thP gB.1.1 (svB gB) p1.toInt.toNat = true)) → ∃ n, (rnM gB n (mU gm 0 1 0, 0, [Froot0 0 p1.toInt p0.toInt 0])).2.2 = [] ∧ (∃ ow, RWn u.1 ow gB (rnM gB n (mU gm 0 1 0, 0, [Froot0 0 p1.toInt p0.toInt 0])).1) ∧ ENc u.1 (rnM gB n (mU gm 0 1 0, 0, [Froot0 0 p1.toInt p0.toInt 0])) r.toInt (-1)) ∧ (¬ ((V 0 8).toInt = 1 ∧ (0 ≤ p0.toInt ∧ p0.toInt < (V 3 12).toInt ∧ (V 23 (Int32.toNatClampNeg p0)).toInt = 1) ∧ (0 ≤ p1.toInt ∧ p1.toInt < ((nC gB : Nat) : Int) ∧ thP gB.1.1 (svB gB) p1.toInt.toNat = true)) → r.toInt = -1 ∧ (∃ ow, RWn u.1 ow gB (mU gm 0 1 0)) ∧ (u.1 4 7).toInt = 0 ∧ (u.1 4 8).toInt = 0)) (fun u => xw ad kk u.1 u.2.1 u.2.2) (fun u => xty kk u.2.2) (fun u => zcc Z - zcc u.2.2) (fun u => zss Z - zss u.2.2) A
set_option maxHeartbeats 4000000 in
set_option maxRecDepth 100000 in
theorem x_h_get9 (l : Launch) (D : va_G) (ks : KS) (sz : Nat) (ad : Nat → Nat) (kk : Nat → ClassId) (V : Vf) (L : Lf) (Z : XZ) (p0 : Int32) (p1 : Int32) (b : Nat) (gB : Bk) (gm : Mm) (hMV : rgd bX V) (hb2 : b < 2) (shk : (V 0 6).toInt = (b : Int)) (hi : HI V Z b) (rnq : ∃ ow, RWn V ow gB gm) (bc : BKc V b gB) (g46 : gm 0 4 = 0 ∧ gm 0 6 = 0) (wfq : (V 0 8).toInt = 1 → WFB gB) (gox : ((V 0 8).toInt = 1 ∧ (0 ≤ p0.toInt ∧ p0.toInt < (V 3 12).toInt ∧ (V 23 (Int32.toNatClampNeg p0)).toInt = 1) ∧ (0 ≤ p1.toInt ∧ p1.toInt < ((nC gB : Nat) : Int) ∧ thP gB.1.1 (svB gB) p1.toInt.toNat = true)) → GOs gB (mU gm 0 1 0, 0, [Froot0 0 p1.toInt p0.toInt 0]))  : Met l yX11_get (Cond.code yX11_get cX11_get 3 (some .int) :: GW) (r_x_h_get9 Z) (va_Pc [.ref (ad 0), .int p0, .int p1] (gp D ks (xw ad kk V L Z) (xty kk Z) sz)) (q_x_h_get9 D ks ad kk V L Z p0 p1 b gB gm (va_A (xw ad kk V L Z) sz)) (zcc Z) (zss Z) (va_A (xw ad kk V L Z) sz) := by
  refine g_met (q_x_h_get9 D ks ad kk V L Z p0 p1 b gB gm) (by decide) (Nat.le_of_ble_eq_true rfl) ?_
  intro p e s m below meth c A ls H locs hx hb hr hml hown hg hlocks hin hnw hgk hP hK hD hS hA hl
  have hown : s.vm.findClass RX11 = some m.cls := hown
  have hl : lv_has ls 3 [(0, .ref (ad 0)), (1, .int p0), (2, .int p1)] := hl
  have hP : va_P D vwCl (xw ad kk V L Z) H := hP
  have hD : va_D A (xw ad kk V L Z) := hD
  have hK : va_K D vwCl (xty kk Z) s := hK
  have agV : agr [(0, 9), (3, 13), (3, 14), (3, 15), (4, 5), (4, 6), (4, 7), (4, 8), (5, 6), (5, 7), (5, 8), (5, 9), (5, 10), (5, 11), (5, 12), (5, 13), (5, 14)] [24, 25, 26, 27, 28, 29, 30, 31, 32, 33, 34, 35, 36, 37, 39, 40, 67, 68, 69, 70, 71, 72, 73, 74, 75, 76, 77, 78, 79, 80, 81, 82, 83, 84, 85] V V := agr.rf
  have zoZ : ZL Z Z := ZL.rf
  refine W.know (fun ka kb => ?_)
  refine W.tight (k := zcc Z - zcc Z) (n := zss Z - zss Z) (by omega) (by omega) ?_
  have r1 : 0 ≤ ((V 0 6)).toInt ∧ ((V 0 6)).toInt ≤ 1 := hMV 0 6
  refine lv_aload_n hx hb dX11_get_0 rfl (lv_at hl 0 rfl) ?_
  refine va_get (D := D) (ci := 11) (v := .ref (ad 4)) (fs := (xfHouse ad V L Z)) (C := RX11) (T := TX11) (N := 10) hx hb hg inX11 hown hK hP 0 xgHouse rfl 4 (by decide) (hg _ w719) (fun _ h9 => h9) rfl dX11_get_1 ?_
  refine lv_iconst (v := 0) hx hb dX11_get_4 (by decide) ?_
  refine lv_iconst (v := 0) hx hb dX11_get_5 (by decide) ?_
  have r2 : Int32.toInt 0 = 0 := by decide
  refine gA_void (gA_runV (As := [.int 0, .int 0]) (rest := []) (ci := 7) (q0 := 4) hx hb hml hown hg hP hD hK hS hA hnw hgk (x_noteCause9 l D ks H.size ad kk V L Z 0 0 hMV ) w1166 w1167 w1168 w166 w1169 rfl xgNotes hdV_yX7_noteCause ⟨Nat.le_of_ble_eq_true rfl, Nat.le_of_ble_eq_true rfl⟩ rfl hl.1 rfl (Nat.le_of_ble_eq_true rfl) dX11_get_6 ⟨z0, z0⟩) hP hD hK hS hA (fun u4 H locs w5 hP hD hK hS => ?_)
  obtain ⟨V8, L9⟩ := u4
  obtain ⟨hMV8, ajV8, axL9, t6, t7⟩ := w5
  have axL9 : L = L9 := Eq.symm axL9
  subst axL9
  have hP : va_P D vwCl (xw ad kk V8 L Z) H := hP
  have hD : va_D A (xw ad kk V8 L Z) := hD
  have hMV8 : rgd bX V8 := hMV8
  have ajV8 : agr [(4, 7), (4, 8)] [] V V8 := ajV8
  have agV8 : agr [(0, 9), (3, 13), (3, 14), (3, 15), (4, 5), (4, 6), (4, 7), (4, 8), (5, 6), (5, 7), (5, 8), (5, 9), (5, 10), (5, 11), (5, 12), (5, 13), (5, 14)] [24, 25, 26, 27, 28, 29, 30, 31, 32, 33, 34, 35, 36, 37, 39, 40, 67, 68, 69, 70, 71, 72, 73, 74, 75, 76, 77, 78, 79, 80, 81, 82, 83, 84, 85] V V8 := agV.tr ajV8 (by decide) (by decide)
  have t6 : (V8 4 7).toInt = (Int32.toInt 0) := t6
  have t7 : (V8 4 8).toInt = (Int32.toInt 0) := t7
  refine lv_aload_n hx hb dX11_get_9 rfl (lv_at hl 0 rfl) ?_
  refine va_get (D := D) (ci := 11) (v := .ref (ad 5)) (fs := (xfHouse ad V8 L Z)) (C := RX11) (T := TX11) (N := 10) hx hb hg inX11 hown hK hP 0 xgHouse rfl 5 (by decide) (hg _ w720) (fun _ h9 => h9) rfl dX11_get_10 ?_
  refine gA_void (gA_runV (As := []) (rest := []) (ci := 5) (q0 := 5) hx hb hml hown hg hP hD hK hS hA hnw hgk (x_restart l D ks H.size ad kk V8 L Z  hMV8 ) w1170 w1044 w1045 w171 w1046 rfl xgMachine hdV_yX5_restart ⟨Nat.le_of_ble_eq_true rfl, Nat.le_of_ble_eq_true rfl⟩ rfl hl.1 rfl (Nat.le_of_ble_eq_true rfl) dX11_get_13 ⟨z0, z0⟩) hP hD hK hS hA (fun u11 H locs w12 hP hD hK hS => ?_)
  obtain ⟨V18, L19⟩ := u11
  obtain ⟨hMV18, ajV18, axL19, t13, t14, t15, t16, t17⟩ := w12
  have axL19 : L = L19 := Eq.symm axL19
  subst axL19
  have hP : va_P D vwCl (xw ad kk V18 L Z) H := hP
  have hD : va_D A (xw ad kk V18 L Z) := hD
  have hMV18 : rgd bX V18 := hMV18
  have ajV18 : agr [(5, 6), (5, 7), (5, 8), (5, 9), (5, 13)] [] V8 V18 := ajV18
  have agV18 : agr [(0, 9), (3, 13), (3, 14), (3, 15), (4, 5), (4, 6), (4, 7), (4, 8), (5, 6), (5, 7), (5, 8), (5, 9), (5, 10), (5, 11), (5, 12), (5, 13), (5, 14)] [24, 25, 26, 27, 28, 29, 30, 31, 32, 33, 34, 35, 36, 37, 39, 40, 67, 68, 69, 70, 71, 72, 73, 74, 75, 76, 77, 78, 79, 80, 81, 82, 83, 84, 85] V V18 := agV8.tr ajV18 (by decide) (by decide)
  have t13 : (V18 5 6).toInt = 0 := t13
  have t14 : (V18 5 7).toInt = 0 := t14
  have t15 : (V18 5 8).toInt = 0 := t15
  have t16 : (V18 5 9).toInt = 0 := t16
  have t17 : (V18 5 13).toInt = 0 := t17
  have r20 : 0 ≤ ((V18 5 6)).toInt ∧ ((V18 5 6)).toInt ≤ 400 := hMV18 5 6
  have r21 : 0 ≤ ((V18 5 7)).toInt ∧ ((V18 5 7)).toInt ≤ 2048 := hMV18 5 7
  have r22 : 0 ≤ ((V18 5 8)).toInt ∧ ((V18 5 8)).toInt ≤ 300 := hMV18 5 8
  have r23 : 0 ≤ ((V18 5 9)).toInt ∧ ((V18 5 9)).toInt ≤ 3 := hMV18 5 9
  have r24 : 0 ≤ ((V18 5 13)).toInt ∧ ((V18 5 13)).toInt ≤ 3000 := hMV18 5 13
  have rn0 : ∃ ow, RWn V18 ow gB (mU gm 0 1 0) := by
    obtain ⟨ow, h9⟩ := rnq
    exact ⟨ow, RWn.rst h9 (by omega) ((ajV18 5 14 rfl).trans (ajV8 5 14 rfl)) (fun k9 => ((ajV18 3 k9 rfl).trans (ajV8 3 k9 rfl))) ((ajV18 4 6 rfl).trans (ajV8 4 6 rfl)) (fun c9 k9 h1 h2 => agr.mid (show agr [(4, 7), (4, 8), (5, 6), (5, 7), (5, 8), (5, 9), (5, 13)] [] V V18 from (agr.tr (agr.tr agr.rf ajV8 (by decide) (by decide)) ajV18 (by decide) (by decide))) (by decide) h1 h2)⟩
  refine lv_aload_n hx hb dX11_get_16 rfl (lv_at hl 0 rfl) ?_
  refine va_get (D := D) (ci := 11) (v := .int (V18 0 8)) (fs := (xfHouse ad V18 L Z)) (C := RX11) (T := TX11) (N := 10) hx hb hg inX11 hown hK hP 0 xgHouse rfl 8 (by decide) (hg _ w723) (fun _ h9 => h9) rfl dX11_get_17 ?_
  refine g_top (v := (V 0 8)) ((ajV18 0 8 rfl).trans (ajV8 0 8 rfl)) ?_
  have r25 : 0 ≤ ((V 0 8)).toInt ∧ ((V 0 8)).toInt ≤ 1 := hMV 0 8
  refine lv_if_ne (tgt := 30) hx hb dX11_get_20 (by decide) (fun c26 => ?_) (fun c26 => ?_)
  · skip
    have f27 : ((V 0 8)).toInt ≠ 0 := b_neq rfl (by decide) c26
    refine lv_aload_n hx hb dX11_get_30 rfl (lv_at hl 0 rfl) ?_
    refine va_get (D := D) (ci := 11) (v := .ref (ad 3)) (fs := (xfHouse ad V18 L Z)) (C := RX11) (T := TX11) (N := 10) hx hb hg inX11 hown hK hP 0 xgHouse rfl 3 (by decide) (hg _ w718) (fun _ h9 => h9) rfl dX11_get_31 ?_
    refine lv_iload_n hx hb dX11_get_34 rfl (lv_at hl 1 rfl) ?_
    refine gA_int (gA_runV (As := [.int p0]) (rest := []) (ci := 8) (q0 := 3) hx hb hml hown hg hP hD hK hS hA hnw hgk (x_isOpen9 l D ks H.size ad kk V18 L Z p0 hMV18 ) w1158 w1159 w1160 w164 w1161 rfl xgStock hdV_yX8_isOpen ⟨Nat.le_of_ble_eq_true rfl, Nat.le_of_ble_eq_true rfl⟩ rfl hl.1 rfl (Nat.le_of_ble_eq_true rfl) dX11_get_35 ⟨z0, z0⟩) hP hD hK hS hA (fun z28 u29 H locs w30 hP hD hK hS => ?_)
    obtain ⟨rgz28, t31, t32⟩ := w30
    have rgz28 : 0 ≤ z28.toInt ∧ z28.toInt ≤ 1 := rgz28
    have t31 : Imp (z28.toInt = 1) (0 ≤ p0.toInt ∧ p0.toInt < (V18 3 12).toInt) := t31
    have t32 : (z28.toInt = 1 ∧ 0 ≤ p0.toInt ∧ p0.toInt < (V18 3 12).toInt ∧ (V18 23 (Int32.toNatClampNeg p0)).toInt = 1) ∨ (z28.toInt = 0 ∧ (p0.toInt < 0 ∨ (V18 3 12).toInt ≤ p0.toInt ∨ (V18 23 (Int32.toNatClampNeg p0)).toInt = 0)) := t32
    have pq33 : (V18 3 12).toInt = ((V 3 12)).toInt := congrArg Int32.toInt ((ajV18 3 12 rfl).trans (ajV8 3 12 rfl))
    have r34 : 1 ≤ ((V 3 12)).toInt ∧ ((V 3 12)).toInt ≤ 40 := hMV 3 12
    refine lv_if_ne (tgt := 48) hx hb dX11_get_38 (by decide) (fun c35 => ?_) (fun c35 => ?_)
    · skip
      have f36 : z28.toInt ≠ 0 := b_neq rfl (by decide) c35
      have rh37 := Imp.go t31 (by (first | exact om_2ebe32d50835 rgz28.1 rgz28.2 f36 | omega))
      refine lv_aload_n hx hb dX11_get_48 rfl (lv_at hl 0 rfl) ?_
      refine va_get (D := D) (ci := 11) (v := .ref (ad (38 + Int32.toNatClampNeg (V18 0 6)))) (fs := (xfHouse ad V18 L Z)) (C := RX11) (T := TX11) (N := 10) hx hb hg inX11 hown hK hP 0 xgHouse rfl 6 (by decide) (hg _ w721) (fun _ h9 => h9) rfl dX11_get_49 ?_
      have pq38 : (V18 0 6).toInt = ((V 0 6)).toInt := congrArg Int32.toInt ((ajV18 0 6 rfl).trans (ajV8 0 6 rfl))
      refine g_topv (v := .ref (ad (38 + b))) (rfP (by first | omega | ((try (have i_t31 := Imp.go t31 (by omega))); omega))) ?_
      refine lv_iload_n hx hb dX11_get_52 rfl (lv_at hl 2 rfl) ?_
      refine gA_int (gA_runV (As := [.int p1]) (rest := []) (ci := 0) (q0 := (38 + b)) hx hb hml hown hg hP hD hK hS hA hnw hgk (x_bhas9 l D ks H.size ad kk V18 L Z p1 (b) hMV18 (show b < 2 from by first | exact om_f940a4667dd6 hb2 | first | omega | ((try (have i_t31 := Imp.go t31 (by omega))); omega))) w1137 w1138 w1139 w167 w1140 rfl (xgBook hb2) hdV_yX0_has ⟨Nat.le_of_ble_eq_true rfl, Nat.le_of_ble_eq_true rfl⟩ rfl hl.1 rfl (Nat.le_of_ble_eq_true rfl) dX11_get_53 ⟨z0, z0⟩) hP hD hK hS hA (fun z39 u40 H locs w41 hP hD hK hS => ?_)
      obtain ⟨rgz39, t42, t43⟩ := w41
      have rgz39 : 0 ≤ z39.toInt ∧ z39.toInt ≤ 1 := rgz39
      have t42 : Imp (z39.toInt = 1) (0 ≤ p1.toInt ∧ p1.toInt < (V18 43 (5 * b + 2)).toInt) := t42
      have t43 : (z39.toInt = 1 ∧ 0 ≤ p1.toInt ∧ p1.toInt < (V18 43 (5 * b + 2)).toInt) ∨ (z39.toInt = 0 ∧ (p1.toInt < 0 ∨ (V18 43 (5 * b + 2)).toInt ≤ p1.toInt)) := t43
      refine lv_if_eq (tgt := 70) hx hb dX11_get_56 (by decide) (fun c44 => ?_) (fun c44 => ?_)
      · skip
        have f45 : z39.toInt = 0 := b_eq rfl (by decide) c44
        refine lv_aload_n hx hb dX11_get_70 rfl (lv_at hl 0 rfl) ?_
        refine lv_iconst (v := 4) hx hb dX11_get_71 (by decide) ?_
        refine lv_iconst (v := (-1)) hx hb dX11_get_72 (by decide) ?_
        have r46 : Int32.toInt 4 = 4 := by decide
        have r47 : Int32.toInt (-1) = (-1) := by decide
        refine gA_int (gA_runV (As := [.int 4, .int (-1)]) (rest := []) (ci := 11) (q0 := 0) hx hb hml hown hg hP hD hK hS hA hnw hgk (x_ends9 l D ks H.size ad kk V18 L Z 4 (-1) hMV18 ) w1171 w1173 w42 w156 w1174 rfl xgHouse hdV_yX11_ends ⟨Nat.le_of_ble_eq_true rfl, Nat.le_of_ble_eq_true rfl⟩ rfl hl.1 rfl (Nat.le_of_ble_eq_true rfl) dX11_get_73 ⟨z0, z0⟩) hP hD hK hS hA (fun z48 u49 H locs w50 hP hD hK hS => ?_)
        obtain ⟨V52, L53⟩ := u49
        obtain ⟨hMV52, ajV52, axL53, t51⟩ := w50
        have axL53 : L = L53 := Eq.symm axL53
        subst axL53
        have hP : va_P D vwCl (xw ad kk V52 L Z) H := hP
        have hD : va_D A (xw ad kk V52 L Z) := hD
        have hMV52 : rgd bX V52 := hMV52
        have ajV52 : agr [(0, 9)] [] V18 V52 := ajV52
        have agV52 : agr [(0, 9), (3, 13), (3, 14), (3, 15), (4, 5), (4, 6), (4, 7), (4, 8), (5, 6), (5, 7), (5, 8), (5, 9), (5, 10), (5, 11), (5, 12), (5, 13), (5, 14)] [24, 25, 26, 27, 28, 29, 30, 31, 32, 33, 34, 35, 36, 37, 39, 40, 67, 68, 69, 70, 71, 72, 73, 74, 75, 76, 77, 78, 79, 80, 81, 82, 83, 84, 85] V V52 := agV18.tr ajV52 (by decide) (by decide)
        have t51 : z48.toInt = (Int32.toInt (-1)) := t51
        have hi54 : HI V52 Z b := (HI.ag (HI.ag (HI.ag hi ajV8 (by decide)) ajV18 (by decide)) ajV52 (by decide))
        have pq55 : (V18 23 (Int32.toNatClampNeg p0)).toInt = ((V 23 (Int32.toNatClampNeg p0))).toInt := congrArg Int32.toInt ((ajV18 23 (Int32.toNatClampNeg p0) rfl).trans (ajV8 23 (Int32.toNatClampNeg p0) rfl))
        have r56 : 0 ≤ ((V 23 (Int32.toNatClampNeg p0))).toInt ∧ ((V 23 (Int32.toNatClampNeg p0))).toInt ≤ 1 := hMV 23 (Int32.toNatClampNeg p0)
        have pq57 : (V52 0 8).toInt = ((V 0 8)).toInt := congrArg Int32.toInt ((ajV52 0 8 rfl).trans ((ajV18 0 8 rfl).trans (ajV8 0 8 rfl)))
        have pq58 : (V18 43 (5 * b + 2)).toInt = ((V 43 (5 * b + 2))).toInt := congrArg Int32.toInt ((ajV18 43 (5 * b + 2) rfl).trans (ajV8 43 (5 * b + 2) rfl))
        have r59 : 0 ≤ ((V 43 (5 * b + 2))).toInt ∧ ((V 43 (5 * b + 2))).toInt ≤ ((xcap (5 * b + 2) : Nat) : Int) := hMV 43 (5 * b + 2)
        have r60 : xcap (5 * b + 2) = 24 := xcap_2
        have sz61 : (V 43 (5 * b + 2)).toInt = ((nC gB : Nat) : Int) := bc.2.2.2.1.1
        have rn62 : ∃ ow, RWn V52 ow gB (mU gm 0 1 0) := by obtain ⟨ow, h9⟩ := rn0; exact ⟨ow, RWn.es h9 (ESw.ag (show agr [(0, 9)] [] V18 V52 from (agr.tr agr.rf ajV52 (by decide) (by decide))) (by decide))⟩
        have pq63 : (V52 4 7).toInt = ((V8 4 7)).toInt := congrArg Int32.toInt ((ajV52 4 7 rfl).trans (ajV18 4 7 rfl))
        have pq64 : (V52 4 8).toInt = ((V8 4 8)).toInt := congrArg Int32.toInt ((ajV52 4 8 rfl).trans (ajV18 4 8 rfl))
        refine W.know (fun kr1 kr2 => ?_)
        refine W.widen (k := zcc Z) (n := zss Z) (Nat.sub_le _ _) (Nat.sub_le _ _) ?_
        exact W.iret (v := z48) hx hb hr (fun t ht hW => ⟨⟨z48, (V52, L, Z), rfl, ⟨hMV52, agV52, rfl, zoZ, hi54, (fun h9 => by have h1 := h9.1; have h2 := h9.2.1.1; have h3 := h9.2.1.2.1; have h4 := h9.2.1.2.2; have h5 := h9.2.2.1; have h6 := h9.2.2.2.1; exfalso; omega), (fun _ => ⟨by omega, rn62, (show (V52 4 7).toInt = 0 from by (first | exact om_d2e622dc9730 r2 t6 pq63 | omega)), (show (V52 4 8).toInt = 0 from by (first | exact om_d2e622dc9730 r2 t7 pq64 | omega))⟩)⟩, ⟨by rw [ht]; exact hP, va_K.moved hW.alike hK, hD⟩, by rw [ht]; exact kr1, by rw [ht]; exact kr2⟩, hS.F ht⟩) hS.2.2 dX11_get_76
      · skip
        have f65 : z39.toInt ≠ 0 := b_neq rfl (by decide) c44
        have rh66 := Imp.go t42 (by (first | exact om_2ebe32d50835 rgz39.1 rgz39.2 f65 | omega))
        have pq67 : (V18 43 (5 * b + 2)).toInt = ((V 43 (5 * b + 2))).toInt := congrArg Int32.toInt ((ajV18 43 (5 * b + 2) rfl).trans (ajV8 43 (5 * b + 2) rfl))
        have r68 : 0 ≤ ((V 43 (5 * b + 2))).toInt ∧ ((V 43 (5 * b + 2))).toInt ≤ ((xcap (5 * b + 2) : Nat) : Int) := hMV 43 (5 * b + 2)
        have r69 : xcap (5 * b + 2) = 24 := xcap_2
        have sz9 : (V 43 (5 * b + 2)).toInt = ((nC gB : Nat) : Int) := bc.2.2.2.1.1
        have kp9 : p1.toInt.toNat < nC gB := by (first | exact om_779d5287998e rh66.1 rh66.2 pq67 sz9 | omega)
        have bc70 : BKc V18 b gB := BKc.b4 bc (agr.b4 (show agr [(4, 7), (4, 8), (5, 6), (5, 7), (5, 8), (5, 9), (5, 13)] [] V V18 from (agr.tr (agr.tr agr.rf ajV8 (by decide) (by decide)) ajV18 (by decide) (by decide))) (by decide))
        have co9 : COr V18 (24 * b + p1.toInt.toNat) gB.1.1 p1.toInt.toNat := bc70.2.2.2.1.2.2 _ kp9
        have wk9 : gB.1.1 (64 + 8 * p1.toInt.toNat) ≤ (gB.1.2.1 1).length := bc.2.2.2.2.2.2.1.1 _ kp9
        have sv9 : svc V18 b (gB.1.2.1 1).length = svB gB := BKc.sv bc70
        refine lv_aload_n hx hb dX11_get_59 rfl (lv_at hl 0 rfl) ?_
        refine va_get (D := D) (ci := 11) (v := .ref (ad (38 + Int32.toNatClampNeg (V18 0 6)))) (fs := (xfHouse ad V18 L Z)) (C := RX11) (T := TX11) (N := 10) hx hb hg inX11 hown hK hP 0 xgHouse rfl 6 (by decide) (hg _ w721) (fun _ h9 => h9) rfl dX11_get_60 ?_
        refine g_topv (v := .ref (ad (38 + b))) (rfP (by first | omega | ((try (have i_t42 := Imp.go t42 (by omega))); (try (have i_t31 := Imp.go t31 (by omega))); (try (have i_t31 := Imp.go t31 (by omega))); (try (have i_t42 := Imp.go t42 (by omega))); omega))) ?_
        refine lv_iload_n hx hb dX11_get_63 rfl (lv_at hl 2 rfl) ?_
        refine gA_int (gA_runV (As := [.int p1]) (rest := []) (ci := 0) (q0 := (38 + b)) hx hb hml hown hg hP hD hK hS hA hnw hgk (x_isThere5 l D ks H.size ad kk V18 L Z p1 (b) (gB.1) (p1.toInt.toNat) hMV18 (by first | exact om_afc7a4c8b051 pq67 r68.2 r69 ((Imp.go t42 (imp_a (rgz39.1) (rgz39.2) (f65))).1) ((Imp.go t42 (imp_a (rgz39.1) (rgz39.2) (f65))).2) | first | omega | ((try (have i_t42 := Imp.go t42 (by omega))); (try (have i_t31 := Imp.go t31 (by omega))); (try (have i_t31 := Imp.go t31 (by omega))); (try (have i_t42 := Imp.go t42 (by omega))); omega)) (show b < 2 from by first | exact om_f940a4667dd6 hb2 | first | omega | ((try (have i_t42 := Imp.go t42 (by omega))); (try (have i_t31 := Imp.go t31 (by omega))); (try (have i_t31 := Imp.go t31 (by omega))); (try (have i_t42 := Imp.go t42 (by omega))); omega)) (show p1.toInt = ((p1.toInt.toNat) : Int) from by first | exact om_bb68b85f87a5 ((Imp.go t42 (imp_a (rgz39.1) (rgz39.2) (f65))).1) | first | omega | ((try (have i_t42 := Imp.go t42 (by omega))); (try (have i_t31 := Imp.go t31 (by omega))); (try (have i_t31 := Imp.go t31 (by omega))); (try (have i_t42 := Imp.go t42 (by omega))); omega)) co9 (show (gB.1).1 (64 + 8 * (p1.toInt.toNat)) ≤ ((gB.1).2.1 1).length from by first | omega | ((try (have i_t42 := Imp.go t42 (by omega))); (try (have i_t31 := Imp.go t31 (by omega))); (try (have i_t31 := Imp.go t31 (by omega))); (try (have i_t42 := Imp.go t42 (by omega))); omega))) w1175 w1070 w1071 w167 w1072 rfl (xgBook hb2) hdV_yX0_isThere ⟨Nat.le_of_ble_eq_true rfl, Nat.le_of_ble_eq_true rfl⟩ rfl hl.1 rfl (Nat.le_of_ble_eq_true rfl) dX11_get_64 ⟨z0, z0⟩) hP hD hK hS hA (fun z71 u72 H locs w73 hP hD hK hS => ?_)
        obtain ⟨rgz71, t74⟩ := w73
        have rgz71 : 0 ≤ z71.toInt ∧ z71.toInt ≤ 1 := rgz71
        have t74 : (z71.toInt = 1 ∧ thP (gB.1).1 (svc V18 b ((gB.1).2.1 1).length) (p1.toInt.toNat) = true) ∨ (z71.toInt = 0 ∧ thP (gB.1).1 (svc V18 b ((gB.1).2.1 1).length) (p1.toInt.toNat) = false) := t74
        refine lv_if_ne (tgt := 77) hx hb dX11_get_67 (by decide) (fun c75 => ?_) (fun c75 => ?_)
        · skip
          have f76 : z71.toInt ≠ 0 := b_neq rfl (by decide) c75
          have hi77 : HI V18 Z b := (HI.ag (HI.ag hi ajV8 (by decide)) ajV18 (by decide))
          have mt78 : MTr V18 Z b := HI.mtr hi77 (by (first | exact om_bab9fec01fc9 pq67 sz9 kp9 | omega)) (by (first | exact om_b66ba74381d5 t15 | omega)) (by (first | exact om_b66ba74381d5 t13 | omega))
          refine lv_aload_n hx hb dX11_get_77 rfl (lv_at hl 0 rfl) ?_
          refine va_get (D := D) (ci := 11) (v := .ref (ad 5)) (fs := (xfHouse ad V18 L Z)) (C := RX11) (T := TX11) (N := 10) hx hb hg inX11 hown hK hP 0 xgHouse rfl 5 (by decide) (hg _ w720) (fun _ h9 => h9) rfl dX11_get_78 ?_
          refine lv_iload_n hx hb dX11_get_81 rfl (lv_at hl 2 rfl) ?_
          refine lv_iload_n hx hb dX11_get_82 rfl (lv_at hl 1 rfl) ?_
          refine lv_iconst (v := 0) hx hb dX11_get_83 (by decide) ?_
          refine W.know (fun k80 k81 => ?_)
          obtain ⟨Hk79, hHk79⟩ : ∃ z, z = H := ⟨_, rfl⟩
          have k80 : Hk79.size ≤ s.heap.size + (zcc Z - zcc Z) := by rw [hHk79]; exact k80
          have k81 : tot Hk79 ≤ tot s.heap + (zss Z - zss Z) := by rw [hHk79]; exact k81
          refine gZ_void (gA_runV (As := [.int p1, .int p0, .int 0]) (rest := []) (ci := 5) (q0 := 5) hx hb hml hown hg hP hD hK hS hA hnw hgk (x_pushRoot9 l D ks H.size ad kk V18 L Z p1 p0 0 (b) hMV18 (by first | exact om_cccd982b48f8 pq67 r68.2 r69 ((Imp.go t42 (imp_a (rgz39.1) (rgz39.2) (f65))).1) ((Imp.go t42 (imp_a (rgz39.1) (rgz39.2) (f65))).2) | first | omega | ((try (have i_t42 := Imp.go t42 (by omega))); (try (have i_t31 := Imp.go t31 (by omega))); (try (have i_t31 := Imp.go t31 (by omega))); (try (have i_t42 := Imp.go t42 (by omega))); omega)) (by first | exact om_47058e563f80 pq33 r34.2 ((Imp.go t31 (imp_a (rgz28.1) (rgz28.2) (f36))).1) ((Imp.go t31 (imp_a (rgz28.1) (rgz28.2) (f36))).2) | first | omega | ((try (have i_t42 := Imp.go t42 (by omega))); (try (have i_t31 := Imp.go t31 (by omega))); (try (have i_t31 := Imp.go t31 (by omega))); (try (have i_t42 := Imp.go t42 (by omega))); omega)) (show b < 2 from by first | exact om_f940a4667dd6 hb2 | first | omega | ((try (have i_t42 := Imp.go t42 (by omega))); (try (have i_t31 := Imp.go t31 (by omega))); (try (have i_t31 := Imp.go t31 (by omega))); (try (have i_t42 := Imp.go t42 (by omega))); omega)) mt78) w1176 w1177 w1178 w171 w1179 rfl xgMachine hdV_yX5_pushRoot ⟨Nat.le_of_ble_eq_true rfl, Nat.le_of_ble_eq_true rfl⟩ rfl hl.1 rfl (Nat.le_of_ble_eq_true rfl) dX11_get_84 ⟨z1 zoZ.1, z1 zoZ.2.1⟩) hD hS hA (fun u83 H locs w84 hP hD hK hS y85 y86 => ?_)
          obtain ⟨V87, L88, Z89⟩ := u83
          obtain ⟨hMV87, ajV87, axL88, zlZ89, t91, t92⟩ := w84
          have axL88 : L = L88 := Eq.symm axL88
          subst axL88
          have hP : va_P D vwCl (xw ad kk V87 L Z89) H := hP
          have hD : va_D A (xw ad kk V87 L Z89) := hD
          have hK : va_K D vwCl (xty kk Z89) s := hK
          have hMV87 : rgd bX V87 := hMV87
          have ajV87 : agr [(5, 6), (5, 9)] [67, 68, 69, 70, 71, 72, 73, 74, 75, 76, 77, 78, 79, 80, 81, 82, 83, 84, 85] V18 V87 := ajV87
          have agV87 : agr [(0, 9), (3, 13), (3, 14), (3, 15), (4, 5), (4, 6), (4, 7), (4, 8), (5, 6), (5, 7), (5, 8), (5, 9), (5, 10), (5, 11), (5, 12), (5, 13), (5, 14)] [24, 25, 26, 27, 28, 29, 30, 31, 32, 33, 34, 35, 36, 37, 39, 40, 67, 68, 69, 70, 71, 72, 73, 74, 75, 76, 77, 78, 79, 80, 81, 82, 83, 84, 85] V V87 := agV18.tr ajV87 (by decide) (by decide)
          have zlZ89 : ZL Z Z89 := zlZ89
          have zoZ89 : ZL Z Z89 := ZL.tr zoZ zlZ89
          have ziZ89 := zlZ89.1
          have zjZ89 := zlZ89.2.1
          have zkZ89 := zlZ89.2.2.1
          have zmZ89 := zoZ89.1
          have znZ89 := zoZ89.2.1
          have zpZ_Z89 := zoZ.1
          have zqZ_Z89 := zoZ.2.1
          have y85 : H.size ≤ Hk79.size + (zcc Z - zcc Z89) := by rw [hHk79]; exact y85
          have y86 : tot H ≤ tot Hk79 + (zss Z - zss Z89) := by rw [hHk79]; exact y86
          refine W.tight (k := zcc Z - zcc Z89) (n := zss Z - zss Z89) (by first | exact tg9 y85 k80 zlZ89.1 zoZ.1 | omega) (by first | exact tg9 y86 k81 zlZ89.2.1 zoZ.2.1 | omega) ?_
          have t91 : MJ V87 Z89 b := t91
          have t92 : Imp ((V18 5 6).toInt < 400) (PRo V18 V87 ((V18 5 6).toInt.toNat) p1 p0 0) := t92
          have pq93 : (V18 3 13).toInt = ((V 3 13)).toInt := congrArg Int32.toInt ((ajV18 3 13 rfl).trans (ajV8 3 13 rfl))
          have r94 : 0 ≤ ((V 3 13)).toInt ∧ ((V 3 13)).toInt ≤ 300 := hMV 3 13
          have pr9 := Imp.go t92 (by (first | exact om_f291903a0ae3 t13 | omega))
          rw [show (V18 5 6).toInt.toNat = 0 from by omega] at pr9
          have rwx9 : RW V87 gB (mU gm 0 1 0, 0, [Froot0 0 p1.toInt p0.toInt 0]) := by
            have h9 := RW.root rn0 (ESw.ag (show agr [(5, 6), (5, 9)] [67, 68, 69, 70, 71, 72, 73, 74, 75, 76, 77, 78, 79, 80, 81, 82, 83, 84, 85] V18 V87 from (agr.tr agr.rf ajV87 (by decide) (by decide))) (by decide)) pr9 (by (first | exact om_b66ba74381d5 t13 | omega)) (by (first | exact om_b66ba74381d5 t14 | omega)) (ajV87 5 7 rfl) (by (first | exact om_b66ba74381d5 t15 | omega)) (show mU gm 0 1 0 0 4 = 0 from by rw [mU_o _ _ (by omega)]; exact g46.1) (show mU gm 0 1 0 0 6 = 0 from by rw [mU_o _ _ (by omega)]; exact g46.2) (by (first | exact om_eafa9039069c rh66.1 | omega)) (by (first | exact om_0cc1f6c05ea1 kp9 | omega)) (by (first | exact om_eafa9039069c rh37.1 | omega)) (by (first | exact om_0e9116797efb rh37.2 | omega))
            exact h9
          have pq95 : (V18 23 (Int32.toNatClampNeg p0)).toInt = ((V 23 (Int32.toNatClampNeg p0))).toInt := congrArg Int32.toInt ((ajV18 23 (Int32.toNatClampNeg p0) rfl).trans (ajV8 23 (Int32.toNatClampNeg p0) rfl))
          have r96 : 0 ≤ ((V 23 (Int32.toNatClampNeg p0))).toInt ∧ ((V 23 (Int32.toNatClampNeg p0))).toInt ≤ 1 := hMV 23 (Int32.toNatClampNeg p0)
          have pq97 : (V18 0 8).toInt = ((V 0 8)).toInt := congrArg Int32.toInt ((ajV18 0 8 rfl).trans (ajV8 0 8 rfl))
          have cd98 : (V 0 8).toInt = 1 ∧ (0 ≤ p0.toInt ∧ p0.toInt < (V 3 12).toInt ∧ (V 23 (Int32.toNatClampNeg p0)).toInt = 1) ∧ (0 ≤ p1.toInt ∧ p1.toInt < ((nC gB : Nat) : Int) ∧ thP gB.1.1 (svB gB) p1.toInt.toNat = true) := ⟨by omega, ⟨by omega, by omega, by omega⟩, by omega, by omega, by have h9 := (t74.resolve_right (fun h9 => by have h8 := h9.1; omega)).2; rw [sv9] at h9; exact h9⟩
          refine lv_aload_n hx hb dX11_get_87 rfl (lv_at hl 0 rfl) ?_
          refine va_get (D := D) (ci := 11) (v := .ref (ad 5)) (fs := (xfHouse ad V87 L Z89)) (C := RX11) (T := TX11) (N := 10) hx hb hg inX11 hown hK hP 0 xgHouse rfl 5 (by decide) (hg _ w720) (fun _ h9 => h9) rfl dX11_get_88 ?_
          have bc99 : BKc V87 b gB := BKc.b4 bc (agr.b4 (show agr [(4, 7), (4, 8), (5, 6), (5, 7), (5, 8), (5, 9), (5, 13)] [67, 68, 69, 70, 71, 72, 73, 74, 75, 76, 77, 78, 79, 80, 81, 82, 83, 84, 85] V V87 from (agr.tr (agr.tr (agr.tr agr.rf ajV8 (by decide) (by decide)) ajV18 (by decide) (by decide)) ajV87 (by decide) (by decide))) (by decide))
          refine W.know (fun k101 k102 => ?_)
          obtain ⟨Hk100, hHk100⟩ : ∃ z, z = H := ⟨_, rfl⟩
          have k101 : Hk100.size ≤ s.heap.size + (zcc Z - zcc Z89) := by rw [hHk100]; exact k101
          have k102 : tot Hk100 ≤ tot s.heap + (zss Z - zss Z89) := by rw [hHk100]; exact k102
          refine gZ_void (gA_runV (As := []) (rest := []) (ci := 5) (q0 := 5) hx hb hml hown hg hP hD hK hS hA hnw hgk (x_run9 l D ks H.size ad kk V87 L Z89 (b) (gB) ((mU gm 0 1 0, 0, [Froot0 0 p1.toInt p0.toInt 0])) hMV87 (show b < 2 from by first | exact om_f940a4667dd6 hb2 | first | omega | ((try (have i_t42 := Imp.go t42 (by omega))); (try (have i_t31 := Imp.go t31 (by omega))); (try (have i_t31 := Imp.go t31 (by omega))); (try (have i_t42 := Imp.go t42 (by omega))); omega)) t91 rwx9 bc99 (Or.inr (gox cd98)) (PHI.b0 (mU_s _ _ _ _) (show mU gm 0 1 0 0 4 = 0 from by rw [mU_o _ _ (by omega)]; exact g46.1)) (wfq (by omega))) w1247 w1248 w1249 w171 w1250 rfl xgMachine hdV_yX5_run ⟨Nat.le_of_ble_eq_true rfl, Nat.le_of_ble_eq_true rfl⟩ rfl hl.1 rfl (Nat.le_of_ble_eq_true rfl) dX11_get_91 ⟨z1 zoZ89.1, z1 zoZ89.2.1⟩) hD hS hA (fun u104 H locs w105 hP hD hK hS y106 y107 => ?_)
          obtain ⟨V108, L109, Z110⟩ := u104
          obtain ⟨hMV108, ajV108, axL109, zlZ110, t112, t113⟩ := w105
          have axL109 : L = L109 := Eq.symm axL109
          subst axL109
          have hP : va_P D vwCl (xw ad kk V108 L Z110) H := hP
          have hD : va_D A (xw ad kk V108 L Z110) := hD
          have hK : va_K D vwCl (xty kk Z110) s := hK
          have hMV108 : rgd bX V108 := hMV108
          have ajV108 : agr [(3, 13), (3, 14), (3, 15), (4, 5), (4, 6), (5, 6), (5, 7), (5, 8), (5, 9), (5, 10), (5, 11), (5, 12), (5, 13), (5, 14)] [24, 25, 26, 27, 28, 29, 30, 31, 32, 33, 34, 35, 36, 37, 39, 40, 67, 68, 69, 70, 71, 72, 73, 74, 75, 76, 77, 78, 79, 80, 81, 82, 83, 84, 85] V87 V108 := ajV108
          have agV108 : agr [(0, 9), (3, 13), (3, 14), (3, 15), (4, 5), (4, 6), (4, 7), (4, 8), (5, 6), (5, 7), (5, 8), (5, 9), (5, 10), (5, 11), (5, 12), (5, 13), (5, 14)] [24, 25, 26, 27, 28, 29, 30, 31, 32, 33, 34, 35, 36, 37, 39, 40, 67, 68, 69, 70, 71, 72, 73, 74, 75, 76, 77, 78, 79, 80, 81, 82, 83, 84, 85] V V108 := agV87.tr ajV108 (by decide) (by decide)
          have zlZ110 : ZL Z89 Z110 := zlZ110
          have zoZ110 : ZL Z Z110 := ZL.tr zoZ89 zlZ110
          have ziZ110 := zlZ110.1
          have zjZ110 := zlZ110.2.1
          have zkZ110 := zlZ110.2.2.1
          have zmZ110 := zoZ110.1
          have znZ110 := zoZ110.2.1
          have zpZ89_Z110 := zoZ89.1
          have zqZ89_Z110 := zoZ89.2.1
          have y106 : H.size ≤ Hk100.size + (zcc Z89 - zcc Z110) := by rw [hHk100]; exact y106
          have y107 : tot H ≤ tot Hk100 + (zss Z89 - zss Z110) := by rw [hHk100]; exact y107
          refine W.tight (k := zcc Z - zcc Z110) (n := zss Z - zss Z110) (by first | exact tg9 y106 k101 zlZ110.1 zoZ89.1 | omega) (by first | exact tg9 y107 k102 zlZ110.2.1 zoZ89.2.1 | omega) ?_
          have t112 : MJ V108 Z110 b := t112
          have t113 : ∃ n, (rnM gB n (mU gm 0 1 0, 0, [Froot0 0 p1.toInt p0.toInt 0])).2.2 = [] ∧ RW V108 gB (rnM gB n (mU gm 0 1 0, 0, [Froot0 0 p1.toInt p0.toInt 0])) := t113
          refine lv_aload_n hx hb dX11_get_94 rfl (lv_at hl 0 rfl) ?_
          refine lv_aload_n hx hb dX11_get_95 rfl (lv_at hl 0 rfl) ?_
          refine va_get (D := D) (ci := 11) (v := .ref (ad 5)) (fs := (xfHouse ad V108 L Z110)) (C := RX11) (T := TX11) (N := 10) hx hb hg inX11 hown hK hP 0 xgHouse rfl 5 (by decide) (hg _ w720) (fun _ h9 => h9) rfl dX11_get_96 ?_
          refine gA_int (gA_runV (As := []) (rest := [.ref (ad 0)]) (ci := 5) (q0 := 5) hx hb hml hown hg hP hD hK hS hA hnw hgk (x_howItEnded9 l D ks H.size ad kk V108 L Z110  hMV108 ) w1501 w1502 w1503 w171 w1504 rfl xgMachine hdV_yX5_howItEnded ⟨Nat.le_of_ble_eq_true rfl, Nat.le_of_ble_eq_true rfl⟩ rfl hl.1 rfl (Nat.le_of_ble_eq_true rfl) dX11_get_99 ⟨z0, z0⟩) hP hD hK hS hA (fun z114 u115 H locs w116 hP hD hK hS => ?_)
          obtain ⟨V118, L119⟩ := u115
          obtain ⟨hMV118, ajV118, axL119, t117⟩ := w116
          have axL119 : L = L119 := Eq.symm axL119
          subst axL119
          have hP : va_P D vwCl (xw ad kk V118 L Z110) H := hP
          have hD : va_D A (xw ad kk V118 L Z110) := hD
          have hMV118 : rgd bX V118 := hMV118
          have ajV118 : agr [(4, 7), (4, 8)] [] V108 V118 := ajV118
          have agV118 : agr [(0, 9), (3, 13), (3, 14), (3, 15), (4, 5), (4, 6), (4, 7), (4, 8), (5, 6), (5, 7), (5, 8), (5, 9), (5, 10), (5, 11), (5, 12), (5, 13), (5, 14)] [24, 25, 26, 27, 28, 29, 30, 31, 32, 33, 34, 35, 36, 37, 39, 40, 67, 68, 69, 70, 71, 72, 73, 74, 75, 76, 77, 78, 79, 80, 81, 82, 83, 84, 85] V V118 := agV108.tr ajV118 (by decide) (by decide)
          have t117 : ((V108 5 9).toInt = 2 ∧ (V118 4 7).toInt = (V108 5 11).toInt ∧ (V118 4 8).toInt = (V108 5 12).toInt) ∨ ((V108 5 9).toInt ≠ 2 ∧ (V118 4 7).toInt = (V108 4 7).toInt ∧ (V118 4 8).toInt = (V108 4 8).toInt) := t117
          have pq120 : (V108 4 8).toInt = ((V8 4 8)).toInt := congrArg Int32.toInt ((ajV108 4 8 rfl).trans ((ajV87 4 8 rfl).trans (ajV18 4 8 rfl)))
          have pq121 : (V108 4 7).toInt = ((V8 4 7)).toInt := congrArg Int32.toInt ((ajV108 4 7 rfl).trans ((ajV87 4 7 rfl).trans (ajV18 4 7 rfl)))
          have r122 : 0 ≤ ((V108 5 9)).toInt ∧ ((V108 5 9)).toInt ≤ 3 := hMV108 5 9
          refine lv_aload_n hx hb dX11_get_102 rfl (lv_at hl 0 rfl) ?_
          refine va_get (D := D) (ci := 11) (v := .ref (ad 5)) (fs := (xfHouse ad V118 L Z110)) (C := RX11) (T := TX11) (N := 10) hx hb hg inX11 hown hK hP 0 xgHouse rfl 5 (by decide) (hg _ w720) (fun _ h9 => h9) rfl dX11_get_103 ?_
          refine lv_iconst (v := (-1)) hx hb dX11_get_106 (by decide) ?_
          have r123 : Int32.toInt (-1) = (-1) := by decide
          refine gA_int (gA_runV (As := [.int (-1)]) (rest := [.int z114, .ref (ad 0)]) (ci := 5) (q0 := 5) hx hb hml hown hg hP hD hK hS hA hnw hgk (x_answerOr9 l D ks H.size ad kk V118 L Z110 (-1) hMV118 ) w1506 w1507 w1508 w171 w1509 rfl xgMachine hdV_yX5_answerOr ⟨Nat.le_of_ble_eq_true rfl, Nat.le_of_ble_eq_true rfl⟩ rfl hl.1 rfl (Nat.le_of_ble_eq_true rfl) dX11_get_107 ⟨z0, z0⟩) hP hD hK hS hA (fun z124 u125 H locs w126 hP hD hK hS => ?_)
          have t127 := w126
          have t127 : ((V118 5 9).toInt = 1 ∧ z124.toInt = (V118 5 10).toInt) ∨ ((V118 5 9).toInt ≠ 1 ∧ z124.toInt = (Int32.toInt (-1))) := t127
          have pq128 : (V118 5 10).toInt = ((V108 5 10)).toInt := congrArg Int32.toInt (ajV118 5 10 rfl)
          have pq129 : (V118 5 9).toInt = ((V108 5 9)).toInt := congrArg Int32.toInt (ajV118 5 9 rfl)
          refine gA_int (gA_runV (As := [.int z114, .int z124]) (rest := []) (ci := 11) (q0 := 0) hx hb hml hown hg hP hD hK hS hA hnw hgk (x_ends9 l D ks H.size ad kk V118 L Z110 z114 z124 hMV118 ) w1171 w1173 w42 w156 w1174 rfl xgHouse hdV_yX11_ends ⟨Nat.le_of_ble_eq_true rfl, Nat.le_of_ble_eq_true rfl⟩ rfl hl.1 rfl (Nat.le_of_ble_eq_true rfl) dX11_get_110 ⟨z0, z0⟩) hP hD hK hS hA (fun z130 u131 H locs w132 hP hD hK hS => ?_)
          obtain ⟨V134, L135⟩ := u131
          obtain ⟨hMV134, ajV134, axL135, t133⟩ := w132
          have axL135 : L = L135 := Eq.symm axL135
          subst axL135
          have hP : va_P D vwCl (xw ad kk V134 L Z110) H := hP
          have hD : va_D A (xw ad kk V134 L Z110) := hD
          have hMV134 : rgd bX V134 := hMV134
          have ajV134 : agr [(0, 9)] [] V118 V134 := ajV134
          have agV134 : agr [(0, 9), (3, 13), (3, 14), (3, 15), (4, 5), (4, 6), (4, 7), (4, 8), (5, 6), (5, 7), (5, 8), (5, 9), (5, 10), (5, 11), (5, 12), (5, 13), (5, 14)] [24, 25, 26, 27, 28, 29, 30, 31, 32, 33, 34, 35, 36, 37, 39, 40, 67, 68, 69, 70, 71, 72, 73, 74, 75, 76, 77, 78, 79, 80, 81, 82, 83, 84, 85] V V134 := agV118.tr ajV134 (by decide) (by decide)
          have t133 : z130.toInt = z124.toInt := t133
          have hi136 : HI V134 Z110 b := (HI.ag (HI.ag (MJ.hi t112) ajV118 (by decide)) ajV134 (by decide))
          have pq138 : (V134 4 7).toInt = ((V118 4 7)).toInt := congrArg Int32.toInt (ajV134 4 7 rfl)
          have pq139 : (V134 4 8).toInt = ((V118 4 8)).toInt := congrArg Int32.toInt (ajV134 4 8 rfl)
          have ge137 : ∃ n, (rnM gB n (mU gm 0 1 0, 0, [Froot0 0 p1.toInt p0.toInt 0])).2.2 = [] ∧ (∃ ow, RWn V134 ow gB (rnM gB n (mU gm 0 1 0, 0, [Froot0 0 p1.toInt p0.toInt 0])).1) ∧ ENc V134 (rnM gB n (mU gm 0 1 0, 0, [Froot0 0 p1.toInt p0.toInt 0])) (z130.toInt) (-1) := by
            obtain ⟨n9, ed9, rw9⟩ := t113
            obtain ⟨ow9, rn9⟩ := rw9.1
            have hh9 := t117
            have ha9 := t127
            refine ⟨n9, ed9, ⟨ow9, RWn.es rn9 (ESw.ag (show agr [(0, 9), (4, 7), (4, 8)] [] V108 V134 from (agr.tr (agr.tr agr.rf ajV118 (by decide) (by decide)) ajV134 (by decide) (by decide))) (by decide))⟩, ENc.of rw9.2.1 ?_ ?_⟩
            · rcases hh9 with ⟨h1, h2, h3⟩ | ⟨h1, h2, h3⟩
              · exact Or.inl ⟨by omega, by omega, by omega⟩
              · exact Or.inr ⟨by omega, by omega, by omega⟩
            · rcases ha9 with ⟨h1, h2⟩ | ⟨h1, h2⟩
              · exact Or.inl ⟨by omega, by omega⟩
              · exact Or.inr ⟨by omega, by omega⟩
          have cd140 : (V 0 8).toInt = 1 ∧ (0 ≤ p0.toInt ∧ p0.toInt < (V 3 12).toInt ∧ (V 23 (Int32.toNatClampNeg p0)).toInt = 1) ∧ (0 ≤ p1.toInt ∧ p1.toInt < ((nC gB : Nat) : Int) ∧ thP gB.1.1 (svB gB) p1.toInt.toNat = true) := ⟨by omega, ⟨by omega, by omega, by omega⟩, by omega, by omega, by have h9 := (t74.resolve_right (fun h9 => by have h8 := h9.1; omega)).2; rw [sv9] at h9; exact h9⟩
          refine W.know (fun kr1 kr2 => ?_)
          refine W.widen (k := zcc Z) (n := zss Z) (Nat.sub_le _ _) (Nat.sub_le _ _) ?_
          exact W.iret (v := z130) hx hb hr (fun t ht hW => ⟨⟨z130, (V134, L, Z110), rfl, ⟨hMV134, agV134, rfl, zoZ110, hi136, (fun _ => ge137), (fun h9 => absurd cd140 h9)⟩, ⟨by rw [ht]; exact hP, va_K.moved hW.alike hK, hD⟩, by rw [ht]; exact kr1, by rw [ht]; exact kr2⟩, hS.F ht⟩) hS.2.2 dX11_get_113
        · skip
          have f141 : z71.toInt = 0 := b_eq rfl (by decide) c75
          refine lv_aload_n hx hb dX11_get_70 rfl (lv_at hl 0 rfl) ?_
          refine lv_iconst (v := 4) hx hb dX11_get_71 (by decide) ?_
          refine lv_iconst (v := (-1)) hx hb dX11_get_72 (by decide) ?_
          have r142 : Int32.toInt 4 = 4 := by decide
          have r143 : Int32.toInt (-1) = (-1) := by decide
          refine gA_int (gA_runV (As := [.int 4, .int (-1)]) (rest := []) (ci := 11) (q0 := 0) hx hb hml hown hg hP hD hK hS hA hnw hgk (x_ends9 l D ks H.size ad kk V18 L Z 4 (-1) hMV18 ) w1171 w1173 w42 w156 w1174 rfl xgHouse hdV_yX11_ends ⟨Nat.le_of_ble_eq_true rfl, Nat.le_of_ble_eq_true rfl⟩ rfl hl.1 rfl (Nat.le_of_ble_eq_true rfl) dX11_get_73 ⟨z0, z0⟩) hP hD hK hS hA (fun z144 u145 H locs w146 hP hD hK hS => ?_)
          obtain ⟨V148, L149⟩ := u145
          obtain ⟨hMV148, ajV148, axL149, t147⟩ := w146
          have axL149 : L = L149 := Eq.symm axL149
          subst axL149
          have hP : va_P D vwCl (xw ad kk V148 L Z) H := hP
          have hD : va_D A (xw ad kk V148 L Z) := hD
          have hMV148 : rgd bX V148 := hMV148
          have ajV148 : agr [(0, 9)] [] V18 V148 := ajV148
          have agV148 : agr [(0, 9), (3, 13), (3, 14), (3, 15), (4, 5), (4, 6), (4, 7), (4, 8), (5, 6), (5, 7), (5, 8), (5, 9), (5, 10), (5, 11), (5, 12), (5, 13), (5, 14)] [24, 25, 26, 27, 28, 29, 30, 31, 32, 33, 34, 35, 36, 37, 39, 40, 67, 68, 69, 70, 71, 72, 73, 74, 75, 76, 77, 78, 79, 80, 81, 82, 83, 84, 85] V V148 := agV18.tr ajV148 (by decide) (by decide)
          have t147 : z144.toInt = (Int32.toInt (-1)) := t147
          have hi150 : HI V148 Z b := (HI.ag (HI.ag (HI.ag hi ajV8 (by decide)) ajV18 (by decide)) ajV148 (by decide))
          have pq151 : (V18 23 (Int32.toNatClampNeg p0)).toInt = ((V 23 (Int32.toNatClampNeg p0))).toInt := congrArg Int32.toInt ((ajV18 23 (Int32.toNatClampNeg p0) rfl).trans (ajV8 23 (Int32.toNatClampNeg p0) rfl))
          have r152 : 0 ≤ ((V 23 (Int32.toNatClampNeg p0))).toInt ∧ ((V 23 (Int32.toNatClampNeg p0))).toInt ≤ 1 := hMV 23 (Int32.toNatClampNeg p0)
          have pq153 : (V148 0 8).toInt = ((V 0 8)).toInt := congrArg Int32.toInt ((ajV148 0 8 rfl).trans ((ajV18 0 8 rfl).trans (ajV8 0 8 rfl)))
          have sz154 : (V 43 (5 * b + 2)).toInt = ((nC gB : Nat) : Int) := bc.2.2.2.1.1
          have rn155 : ∃ ow, RWn V148 ow gB (mU gm 0 1 0) := by obtain ⟨ow, h9⟩ := rn0; exact ⟨ow, RWn.es h9 (ESw.ag (show agr [(0, 9)] [] V18 V148 from (agr.tr agr.rf ajV148 (by decide) (by decide))) (by decide))⟩
          have pq156 : (V148 4 7).toInt = ((V8 4 7)).toInt := congrArg Int32.toInt ((ajV148 4 7 rfl).trans (ajV18 4 7 rfl))
          have pq157 : (V148 4 8).toInt = ((V8 4 8)).toInt := congrArg Int32.toInt ((ajV148 4 8 rfl).trans (ajV18 4 8 rfl))
          refine W.know (fun kr1 kr2 => ?_)
          refine W.widen (k := zcc Z) (n := zss Z) (Nat.sub_le _ _) (Nat.sub_le _ _) ?_
          exact W.iret (v := z144) hx hb hr (fun t ht hW => ⟨⟨z144, (V148, L, Z), rfl, ⟨hMV148, agV148, rfl, zoZ, hi150, (fun h9 => by have h8 := h9.2.2.2.2; have h7 := (t74.resolve_left (fun h6 => by have h5 := h6.1; omega)).2; rw [sv9, h8] at h7; cases h7), (fun _ => ⟨by omega, rn155, (show (V148 4 7).toInt = 0 from by (first | exact om_d2e622dc9730 r2 t6 pq156 | omega)), (show (V148 4 8).toInt = 0 from by (first | exact om_d2e622dc9730 r2 t7 pq157 | omega))⟩)⟩, ⟨by rw [ht]; exact hP, va_K.moved hW.alike hK, hD⟩, by rw [ht]; exact kr1, by rw [ht]; exact kr2⟩, hS.F ht⟩) hS.2.2 dX11_get_76
    · skip
      have f158 : z28.toInt = 0 := b_eq rfl (by decide) c35
      refine lv_aload_n hx hb dX11_get_41 rfl (lv_at hl 0 rfl) ?_
      refine lv_iconst (v := 3) hx hb dX11_get_42 (by decide) ?_
      refine lv_iconst (v := (-1)) hx hb dX11_get_43 (by decide) ?_
      have r159 : Int32.toInt 3 = 3 := by decide
      have r160 : Int32.toInt (-1) = (-1) := by decide
      refine gA_int (gA_runV (As := [.int 3, .int (-1)]) (rest := []) (ci := 11) (q0 := 0) hx hb hml hown hg hP hD hK hS hA hnw hgk (x_ends9 l D ks H.size ad kk V18 L Z 3 (-1) hMV18 ) w1171 w1173 w42 w156 w1174 rfl xgHouse hdV_yX11_ends ⟨Nat.le_of_ble_eq_true rfl, Nat.le_of_ble_eq_true rfl⟩ rfl hl.1 rfl (Nat.le_of_ble_eq_true rfl) dX11_get_44 ⟨z0, z0⟩) hP hD hK hS hA (fun z161 u162 H locs w163 hP hD hK hS => ?_)
      obtain ⟨V165, L166⟩ := u162
      obtain ⟨hMV165, ajV165, axL166, t164⟩ := w163
      have axL166 : L = L166 := Eq.symm axL166
      subst axL166
      have hP : va_P D vwCl (xw ad kk V165 L Z) H := hP
      have hD : va_D A (xw ad kk V165 L Z) := hD
      have hMV165 : rgd bX V165 := hMV165
      have ajV165 : agr [(0, 9)] [] V18 V165 := ajV165
      have agV165 : agr [(0, 9), (3, 13), (3, 14), (3, 15), (4, 5), (4, 6), (4, 7), (4, 8), (5, 6), (5, 7), (5, 8), (5, 9), (5, 10), (5, 11), (5, 12), (5, 13), (5, 14)] [24, 25, 26, 27, 28, 29, 30, 31, 32, 33, 34, 35, 36, 37, 39, 40, 67, 68, 69, 70, 71, 72, 73, 74, 75, 76, 77, 78, 79, 80, 81, 82, 83, 84, 85] V V165 := agV18.tr ajV165 (by decide) (by decide)
      have t164 : z161.toInt = (Int32.toInt (-1)) := t164
      have hi167 : HI V165 Z b := (HI.ag (HI.ag (HI.ag hi ajV8 (by decide)) ajV18 (by decide)) ajV165 (by decide))
      have pq168 : (V18 23 (Int32.toNatClampNeg p0)).toInt = ((V 23 (Int32.toNatClampNeg p0))).toInt := congrArg Int32.toInt ((ajV18 23 (Int32.toNatClampNeg p0) rfl).trans (ajV8 23 (Int32.toNatClampNeg p0) rfl))
      have r169 : 0 ≤ ((V 23 (Int32.toNatClampNeg p0))).toInt ∧ ((V 23 (Int32.toNatClampNeg p0))).toInt ≤ 1 := hMV 23 (Int32.toNatClampNeg p0)
      have pq170 : (V165 0 8).toInt = ((V 0 8)).toInt := congrArg Int32.toInt ((ajV165 0 8 rfl).trans ((ajV18 0 8 rfl).trans (ajV8 0 8 rfl)))
      have rn171 : ∃ ow, RWn V165 ow gB (mU gm 0 1 0) := by obtain ⟨ow, h9⟩ := rn0; exact ⟨ow, RWn.es h9 (ESw.ag (show agr [(0, 9)] [] V18 V165 from (agr.tr agr.rf ajV165 (by decide) (by decide))) (by decide))⟩
      have pq172 : (V165 4 7).toInt = ((V8 4 7)).toInt := congrArg Int32.toInt ((ajV165 4 7 rfl).trans (ajV18 4 7 rfl))
      have pq173 : (V165 4 8).toInt = ((V8 4 8)).toInt := congrArg Int32.toInt ((ajV165 4 8 rfl).trans (ajV18 4 8 rfl))
      refine W.know (fun kr1 kr2 => ?_)
      refine W.widen (k := zcc Z) (n := zss Z) (Nat.sub_le _ _) (Nat.sub_le _ _) ?_
      exact W.iret (v := z161) hx hb hr (fun t ht hW => ⟨⟨z161, (V165, L, Z), rfl, ⟨hMV165, agV165, rfl, zoZ, hi167, (fun h9 => by have h1 := h9.1; have h2 := h9.2.1.1; have h3 := h9.2.1.2.1; have h4 := h9.2.1.2.2; have h5 := h9.2.2.1; have h6 := h9.2.2.2.1; exfalso; omega), (fun _ => ⟨by omega, rn171, (show (V165 4 7).toInt = 0 from by (first | exact om_d2e622dc9730 r2 t6 pq172 | omega)), (show (V165 4 8).toInt = 0 from by (first | exact om_d2e622dc9730 r2 t7 pq173 | omega))⟩)⟩, ⟨by rw [ht]; exact hP, va_K.moved hW.alike hK, hD⟩, by rw [ht]; exact kr1, by rw [ht]; exact kr2⟩, hS.F ht⟩) hS.2.2 dX11_get_47
  · skip
    have f174 : ((V 0 8)).toInt = 0 := b_eq rfl (by decide) c26
    refine lv_aload_n hx hb dX11_get_23 rfl (lv_at hl 0 rfl) ?_
    refine lv_iconst (v := 4) hx hb dX11_get_24 (by decide) ?_
    refine lv_iconst (v := (-1)) hx hb dX11_get_25 (by decide) ?_
    have r175 : Int32.toInt 4 = 4 := by decide
    have r176 : Int32.toInt (-1) = (-1) := by decide
    refine gA_int (gA_runV (As := [.int 4, .int (-1)]) (rest := []) (ci := 11) (q0 := 0) hx hb hml hown hg hP hD hK hS hA hnw hgk (x_ends9 l D ks H.size ad kk V18 L Z 4 (-1) hMV18 ) w1171 w1173 w42 w156 w1174 rfl xgHouse hdV_yX11_ends ⟨Nat.le_of_ble_eq_true rfl, Nat.le_of_ble_eq_true rfl⟩ rfl hl.1 rfl (Nat.le_of_ble_eq_true rfl) dX11_get_26 ⟨z0, z0⟩) hP hD hK hS hA (fun z177 u178 H locs w179 hP hD hK hS => ?_)
    obtain ⟨V181, L182⟩ := u178
    obtain ⟨hMV181, ajV181, axL182, t180⟩ := w179
    have axL182 : L = L182 := Eq.symm axL182
    subst axL182
    have hP : va_P D vwCl (xw ad kk V181 L Z) H := hP
    have hD : va_D A (xw ad kk V181 L Z) := hD
    have hMV181 : rgd bX V181 := hMV181
    have ajV181 : agr [(0, 9)] [] V18 V181 := ajV181
    have agV181 : agr [(0, 9), (3, 13), (3, 14), (3, 15), (4, 5), (4, 6), (4, 7), (4, 8), (5, 6), (5, 7), (5, 8), (5, 9), (5, 10), (5, 11), (5, 12), (5, 13), (5, 14)] [24, 25, 26, 27, 28, 29, 30, 31, 32, 33, 34, 35, 36, 37, 39, 40, 67, 68, 69, 70, 71, 72, 73, 74, 75, 76, 77, 78, 79, 80, 81, 82, 83, 84, 85] V V181 := agV18.tr ajV181 (by decide) (by decide)
    have t180 : z177.toInt = (Int32.toInt (-1)) := t180
    have hi183 : HI V181 Z b := (HI.ag (HI.ag (HI.ag hi ajV8 (by decide)) ajV18 (by decide)) ajV181 (by decide))
    have pq184 : (V181 0 8).toInt = ((V 0 8)).toInt := congrArg Int32.toInt ((ajV181 0 8 rfl).trans ((ajV18 0 8 rfl).trans (ajV8 0 8 rfl)))
    have rn185 : ∃ ow, RWn V181 ow gB (mU gm 0 1 0) := by obtain ⟨ow, h9⟩ := rn0; exact ⟨ow, RWn.es h9 (ESw.ag (show agr [(0, 9)] [] V18 V181 from (agr.tr agr.rf ajV181 (by decide) (by decide))) (by decide))⟩
    have pq186 : (V181 4 7).toInt = ((V8 4 7)).toInt := congrArg Int32.toInt ((ajV181 4 7 rfl).trans (ajV18 4 7 rfl))
    have pq187 : (V181 4 8).toInt = ((V8 4 8)).toInt := congrArg Int32.toInt ((ajV181 4 8 rfl).trans (ajV18 4 8 rfl))
    refine W.know (fun kr1 kr2 => ?_)
    refine W.widen (k := zcc Z) (n := zss Z) (Nat.sub_le _ _) (Nat.sub_le _ _) ?_
    exact W.iret (v := z177) hx hb hr (fun t ht hW => ⟨⟨z177, (V181, L, Z), rfl, ⟨hMV181, agV181, rfl, zoZ, hi183, (fun h9 => by have h1 := h9.1; have h2 := h9.2.1.1; have h3 := h9.2.1.2.1; have h4 := h9.2.1.2.2; have h5 := h9.2.2.1; have h6 := h9.2.2.2.1; exfalso; omega), (fun _ => ⟨by omega, rn185, (show (V181 4 7).toInt = 0 from by (first | exact om_d2e622dc9730 r2 t6 pq186 | omega)), (show (V181 4 8).toInt = 0 from by (first | exact om_d2e622dc9730 r2 t7 pq187 | omega))⟩)⟩, ⟨by rw [ht]; exact hP, va_K.moved hW.alike hK, hD⟩, by rw [ht]; exact kr1, by rw [ht]; exact kr2⟩, hS.F ht⟩) hS.2.2 dX11_get_29
abbrev r_x_h_call9 (Z : XZ) : Room := { frames := 8, cells := zcc Z, slots := zss Z, locals := 181 }
abbrev q_x_h_call9 (D : va_G) (ks : KS) (ad : Nat → Nat) (kk : Nat → ClassId) (V : Vf) (L : Lf) (Z : XZ) (p0 : Int32) (p1 : Int32) (p2 : Int32) (p3 : Int32) (b : Nat) (gB : Bk) (gm : Mm) (A : Nat → Prop) : Array Value → State → Outcome → State → Prop := qZi D (fun (r : Int32) (u : Vf × Lf × XZ) => rgd bX u.1 ∧ agr [(0, 9), (3, 13), (3, 14), (3, 15), (4, 5), (4, 6), (4, 7), (4, 8), (4, 9), (5, 6), (5, 7), (5, 8), (5, 9), (5, 10), (5, 11), (5, 12), (5, 13), (5, 14)] [24, 25, 26, 27, 28, 29, 30, 31, 32, 33, 34, 35, 36, 37, 39, 40, 67, 68, 69, 70, 71, 72, 73, 74, 75, 76, 77, 78, 79, 80, 81, 82, 83, 84, 85] V u.1 ∧ u.2.1 = L ∧ ZL Z u.2.2 ∧ (HI u.1 u.2.2 b) ∧ (((0 ≤ p0.toInt ∧ p0.toInt < (V 3 12).toInt ∧ (V 23 (Int32.toNatClampNeg p0)).toInt = 1) ∧ (0 ≤ p1.toInt ∧ p1.toInt < (V 3 13).toInt ∧ (V 28 (Int32.toNatClampNeg p1)).toInt = 1) ∧ 0 ≤ p2.toInt ∧ p2.toInt < (V 43 (5 * b + 3)).toInt) → ∃ n, (rnM gB n (mU gm 0 1 0, 0, [Fcall0 1 p1.toInt (gm 1 p1.toInt.toNat) p0.toInt p2.toInt p3])).2.2 = [] ∧ (∃ ow, RWn u.1 ow gB (rnM gB n (mU gm 0 1 0, 0, [Fcall0 1 p1.toInt (gm 1 p1.toInt.toNat) p0.toInt p2.toInt p3])).1) ∧ ENc u.1 (rnM gB n (mU gm 0 1 0, 0, [Fcall0 1 p1.toInt (gm 1 p1.toInt.toNat) p0.toInt p2.toInt p3])) r.toInt (0)) ∧ (¬ ((0 ≤ p0.toInt ∧ p0.toInt < (V 3 12).toInt ∧ (V 23 (Int32.toNatClampNeg p0)).toInt = 1) ∧ (0 ≤ p1.toInt ∧ p1.toInt < (V 3 13).toInt ∧ (V 28 (Int32.toNatClampNeg p1)).toInt = 1) ∧ 0 ≤ p2.toInt ∧ p2.toInt < (V 43 (5 * b + 3)).toInt) → r.toInt = 0 ∧ (∃ ow, RWn u.1 ow gB (mU gm 0 1 0)) ∧ (u.1 4 7).toInt = 0 ∧ (u.1 4 8).toInt = 0)) (fun u => xw ad kk u.1 u.2.1 u.2.2) (fun u => xty kk u.2.2) (fun u => zcc Z - zcc u.2.2) (fun u => zss Z - zss u.2.2) A
set_option maxHeartbeats 4000000 in
set_option maxRecDepth 100000 in
theorem x_h_call9 (l : Launch) (D : va_G) (ks : KS) (sz : Nat) (ad : Nat → Nat) (kk : Nat → ClassId) (V : Vf) (L : Lf) (Z : XZ) (p0 : Int32) (p1 : Int32) (p2 : Int32) (p3 : Int32) (b : Nat) (gB : Bk) (gm : Mm) (hMV : rgd bX V) (hb2 : b < 2) (shk : (V 0 6).toInt = (b : Int)) (hi : HI V Z b) (rnq : ∃ ow, RWn V ow gB gm) (bc : BKc V b gB) (g46 : gm 0 4 = 0 ∧ gm 0 6 = 0) (wfo : 0 < (V 3 13).toInt → WFB gB) (gox : ((0 ≤ p0.toInt ∧ p0.toInt < (V 3 12).toInt ∧ (V 23 (Int32.toNatClampNeg p0)).toInt = 1) ∧ (0 ≤ p1.toInt ∧ p1.toInt < (V 3 13).toInt ∧ (V 28 (Int32.toNatClampNeg p1)).toInt = 1) ∧ 0 ≤ p2.toInt ∧ p2.toInt < (V 43 (5 * b + 3)).toInt) → GOs gB (mU gm 0 1 0, 0, [Fcall0 1 p1.toInt (gm 1 p1.toInt.toNat) p0.toInt p2.toInt p3]))  : Met l yX11_call (Cond.code yX11_call cX11_call 5 (some .int) :: GW) (r_x_h_call9 Z) (va_Pc [.ref (ad 0), .int p0, .int p1, .int p2, .int p3] (gp D ks (xw ad kk V L Z) (xty kk Z) sz)) (q_x_h_call9 D ks ad kk V L Z p0 p1 p2 p3 b gB gm (va_A (xw ad kk V L Z) sz)) (zcc Z) (zss Z) (va_A (xw ad kk V L Z) sz) := by
  refine g_met (q_x_h_call9 D ks ad kk V L Z p0 p1 p2 p3 b gB gm) (by decide) (Nat.le_of_ble_eq_true rfl) ?_
  intro p e s m below meth c A ls H locs hx hb hr hml hown hg hlocks hin hnw hgk hP hK hD hS hA hl
  have hown : s.vm.findClass RX11 = some m.cls := hown
  have hl : lv_has ls 5 [(0, .ref (ad 0)), (1, .int p0), (2, .int p1), (3, .int p2), (4, .int p3)] := hl
  have hP : va_P D vwCl (xw ad kk V L Z) H := hP
  have hD : va_D A (xw ad kk V L Z) := hD
  have hK : va_K D vwCl (xty kk Z) s := hK
  have agV : agr [(0, 9), (3, 13), (3, 14), (3, 15), (4, 5), (4, 6), (4, 7), (4, 8), (4, 9), (5, 6), (5, 7), (5, 8), (5, 9), (5, 10), (5, 11), (5, 12), (5, 13), (5, 14)] [24, 25, 26, 27, 28, 29, 30, 31, 32, 33, 34, 35, 36, 37, 39, 40, 67, 68, 69, 70, 71, 72, 73, 74, 75, 76, 77, 78, 79, 80, 81, 82, 83, 84, 85] V V := agr.rf
  have zoZ : ZL Z Z := ZL.rf
  refine W.know (fun ka kb => ?_)
  refine W.tight (k := zcc Z - zcc Z) (n := zss Z - zss Z) (by omega) (by omega) ?_
  have r1 : 0 ≤ ((V 0 6)).toInt ∧ ((V 0 6)).toInt ≤ 1 := hMV 0 6
  refine lv_aload_n hx hb dX11_call_0 rfl (lv_at hl 0 rfl) ?_
  refine va_get (D := D) (ci := 11) (v := .ref (ad 4)) (fs := (xfHouse ad V L Z)) (C := RX11) (T := TX11) (N := 10) hx hb hg inX11 hown hK hP 0 xgHouse rfl 4 (by decide) (hg _ w719) (fun _ h9 => h9) rfl dX11_call_1 ?_
  refine lv_iconst (v := 0) hx hb dX11_call_4 (by decide) ?_
  refine lv_iconst (v := 0) hx hb dX11_call_5 (by decide) ?_
  have r2 : Int32.toInt 0 = 0 := by decide
  refine gA_void (gA_runV (As := [.int 0, .int 0]) (rest := []) (ci := 7) (q0 := 4) hx hb hml hown hg hP hD hK hS hA hnw hgk (x_noteCause9 l D ks H.size ad kk V L Z 0 0 hMV ) w1166 w1167 w1168 w166 w1169 rfl xgNotes hdV_yX7_noteCause ⟨Nat.le_of_ble_eq_true rfl, Nat.le_of_ble_eq_true rfl⟩ rfl hl.1 rfl (Nat.le_of_ble_eq_true rfl) dX11_call_6 ⟨z0, z0⟩) hP hD hK hS hA (fun u4 H locs w5 hP hD hK hS => ?_)
  obtain ⟨V8, L9⟩ := u4
  obtain ⟨hMV8, ajV8, axL9, t6, t7⟩ := w5
  have axL9 : L = L9 := Eq.symm axL9
  subst axL9
  have hP : va_P D vwCl (xw ad kk V8 L Z) H := hP
  have hD : va_D A (xw ad kk V8 L Z) := hD
  have hMV8 : rgd bX V8 := hMV8
  have ajV8 : agr [(4, 7), (4, 8)] [] V V8 := ajV8
  have agV8 : agr [(0, 9), (3, 13), (3, 14), (3, 15), (4, 5), (4, 6), (4, 7), (4, 8), (4, 9), (5, 6), (5, 7), (5, 8), (5, 9), (5, 10), (5, 11), (5, 12), (5, 13), (5, 14)] [24, 25, 26, 27, 28, 29, 30, 31, 32, 33, 34, 35, 36, 37, 39, 40, 67, 68, 69, 70, 71, 72, 73, 74, 75, 76, 77, 78, 79, 80, 81, 82, 83, 84, 85] V V8 := agV.tr ajV8 (by decide) (by decide)
  have t6 : (V8 4 7).toInt = (Int32.toInt 0) := t6
  have t7 : (V8 4 8).toInt = (Int32.toInt 0) := t7
  refine lv_aload_n hx hb dX11_call_9 rfl (lv_at hl 0 rfl) ?_
  refine va_get (D := D) (ci := 11) (v := .ref (ad 4)) (fs := (xfHouse ad V8 L Z)) (C := RX11) (T := TX11) (N := 10) hx hb hg inX11 hown hK hP 0 xgHouse rfl 4 (by decide) (hg _ w719) (fun _ h9 => h9) rfl dX11_call_10 ?_
  refine gA_void (gA_runV (As := []) (rest := []) (ci := 7) (q0 := 4) hx hb hml hown hg hP hD hK hS hA hnw hgk (x_NforgetThings l D ks H.size ad kk V8 L Z  hMV8 ) w1514 w1515 w1516 w166 w1517 rfl xgNotes hdV_yX7_forgetThings ⟨Nat.le_of_ble_eq_true rfl, Nat.le_of_ble_eq_true rfl⟩ rfl hl.1 rfl (Nat.le_of_ble_eq_true rfl) dX11_call_13 ⟨z0, z0⟩) hP hD hK hS hA (fun u11 H locs w12 hP hD hK hS => ?_)
  obtain ⟨V13, L14⟩ := u11
  obtain ⟨hMV13, ajV13, axL14⟩ := w12
  have axL14 : L = L14 := Eq.symm axL14
  subst axL14
  have hP : va_P D vwCl (xw ad kk V13 L Z) H := hP
  have hD : va_D A (xw ad kk V13 L Z) := hD
  have hMV13 : rgd bX V13 := hMV13
  have ajV13 : agr [(4, 5)] [] V8 V13 := ajV13
  have agV13 : agr [(0, 9), (3, 13), (3, 14), (3, 15), (4, 5), (4, 6), (4, 7), (4, 8), (4, 9), (5, 6), (5, 7), (5, 8), (5, 9), (5, 10), (5, 11), (5, 12), (5, 13), (5, 14)] [24, 25, 26, 27, 28, 29, 30, 31, 32, 33, 34, 35, 36, 37, 39, 40, 67, 68, 69, 70, 71, 72, 73, 74, 75, 76, 77, 78, 79, 80, 81, 82, 83, 84, 85] V V13 := agV8.tr ajV13 (by decide) (by decide)
  refine lv_aload_n hx hb dX11_call_16 rfl (lv_at hl 0 rfl) ?_
  refine va_get (D := D) (ci := 11) (v := .ref (ad 5)) (fs := (xfHouse ad V13 L Z)) (C := RX11) (T := TX11) (N := 10) hx hb hg inX11 hown hK hP 0 xgHouse rfl 5 (by decide) (hg _ w720) (fun _ h9 => h9) rfl dX11_call_17 ?_
  refine gA_void (gA_runV (As := []) (rest := []) (ci := 5) (q0 := 5) hx hb hml hown hg hP hD hK hS hA hnw hgk (x_restart l D ks H.size ad kk V13 L Z  hMV13 ) w1170 w1044 w1045 w171 w1046 rfl xgMachine hdV_yX5_restart ⟨Nat.le_of_ble_eq_true rfl, Nat.le_of_ble_eq_true rfl⟩ rfl hl.1 rfl (Nat.le_of_ble_eq_true rfl) dX11_call_20 ⟨z0, z0⟩) hP hD hK hS hA (fun u16 H locs w17 hP hD hK hS => ?_)
  obtain ⟨V23, L24⟩ := u16
  obtain ⟨hMV23, ajV23, axL24, t18, t19, t20, t21, t22⟩ := w17
  have axL24 : L = L24 := Eq.symm axL24
  subst axL24
  have hP : va_P D vwCl (xw ad kk V23 L Z) H := hP
  have hD : va_D A (xw ad kk V23 L Z) := hD
  have hMV23 : rgd bX V23 := hMV23
  have ajV23 : agr [(5, 6), (5, 7), (5, 8), (5, 9), (5, 13)] [] V13 V23 := ajV23
  have agV23 : agr [(0, 9), (3, 13), (3, 14), (3, 15), (4, 5), (4, 6), (4, 7), (4, 8), (4, 9), (5, 6), (5, 7), (5, 8), (5, 9), (5, 10), (5, 11), (5, 12), (5, 13), (5, 14)] [24, 25, 26, 27, 28, 29, 30, 31, 32, 33, 34, 35, 36, 37, 39, 40, 67, 68, 69, 70, 71, 72, 73, 74, 75, 76, 77, 78, 79, 80, 81, 82, 83, 84, 85] V V23 := agV13.tr ajV23 (by decide) (by decide)
  have t18 : (V23 5 6).toInt = 0 := t18
  have t19 : (V23 5 7).toInt = 0 := t19
  have t20 : (V23 5 8).toInt = 0 := t20
  have t21 : (V23 5 9).toInt = 0 := t21
  have t22 : (V23 5 13).toInt = 0 := t22
  have r25 : 0 ≤ ((V23 5 6)).toInt ∧ ((V23 5 6)).toInt ≤ 400 := hMV23 5 6
  have r26 : 0 ≤ ((V23 5 7)).toInt ∧ ((V23 5 7)).toInt ≤ 2048 := hMV23 5 7
  have r27 : 0 ≤ ((V23 5 8)).toInt ∧ ((V23 5 8)).toInt ≤ 300 := hMV23 5 8
  have r28 : 0 ≤ ((V23 5 9)).toInt ∧ ((V23 5 9)).toInt ≤ 3 := hMV23 5 9
  have r29 : 0 ≤ ((V23 5 13)).toInt ∧ ((V23 5 13)).toInt ≤ 3000 := hMV23 5 13
  have rn0 : ∃ ow, RWn V23 ow gB (mU gm 0 1 0) := by
    obtain ⟨ow, h9⟩ := rnq
    exact ⟨ow, RWn.rst h9 (by omega) ((ajV23 5 14 rfl).trans ((ajV13 5 14 rfl).trans (ajV8 5 14 rfl))) (fun k9 => ((ajV23 3 k9 rfl).trans ((ajV13 3 k9 rfl).trans (ajV8 3 k9 rfl)))) ((ajV23 4 6 rfl).trans ((ajV13 4 6 rfl).trans (ajV8 4 6 rfl))) (fun c9 k9 h1 h2 => agr.mid (show agr [(4, 5), (4, 7), (4, 8), (5, 6), (5, 7), (5, 8), (5, 9), (5, 13)] [] V V23 from (agr.tr (agr.tr (agr.tr agr.rf ajV8 (by decide) (by decide)) ajV13 (by decide) (by decide)) ajV23 (by decide) (by decide))) (by decide) h1 h2)⟩
  refine lv_aload_n hx hb dX11_call_23 rfl (lv_at hl 0 rfl) ?_
  refine va_get (D := D) (ci := 11) (v := .ref (ad 3)) (fs := (xfHouse ad V23 L Z)) (C := RX11) (T := TX11) (N := 10) hx hb hg inX11 hown hK hP 0 xgHouse rfl 3 (by decide) (hg _ w718) (fun _ h9 => h9) rfl dX11_call_24 ?_
  refine lv_iload_n hx hb dX11_call_27 rfl (lv_at hl 1 rfl) ?_
  refine gA_int (gA_runV (As := [.int p0]) (rest := []) (ci := 8) (q0 := 3) hx hb hml hown hg hP hD hK hS hA hnw hgk (x_isOpen9 l D ks H.size ad kk V23 L Z p0 hMV23 ) w1158 w1159 w1160 w164 w1161 rfl xgStock hdV_yX8_isOpen ⟨Nat.le_of_ble_eq_true rfl, Nat.le_of_ble_eq_true rfl⟩ rfl hl.1 rfl (Nat.le_of_ble_eq_true rfl) dX11_call_28 ⟨z0, z0⟩) hP hD hK hS hA (fun z30 u31 H locs w32 hP hD hK hS => ?_)
  obtain ⟨rgz30, t33, t34⟩ := w32
  have rgz30 : 0 ≤ z30.toInt ∧ z30.toInt ≤ 1 := rgz30
  have t33 : Imp (z30.toInt = 1) (0 ≤ p0.toInt ∧ p0.toInt < (V23 3 12).toInt) := t33
  have t34 : (z30.toInt = 1 ∧ 0 ≤ p0.toInt ∧ p0.toInt < (V23 3 12).toInt ∧ (V23 23 (Int32.toNatClampNeg p0)).toInt = 1) ∨ (z30.toInt = 0 ∧ (p0.toInt < 0 ∨ (V23 3 12).toInt ≤ p0.toInt ∨ (V23 23 (Int32.toNatClampNeg p0)).toInt = 0)) := t34
  have pq35 : (V23 3 12).toInt = ((V 3 12)).toInt := congrArg Int32.toInt ((ajV23 3 12 rfl).trans ((ajV13 3 12 rfl).trans (ajV8 3 12 rfl)))
  have r36 : 1 ≤ ((V 3 12)).toInt ∧ ((V 3 12)).toInt ≤ 40 := hMV 3 12
  refine lv_if_ne (tgt := 41) hx hb dX11_call_31 (by decide) (fun c37 => ?_) (fun c37 => ?_)
  · skip
    have f38 : z30.toInt ≠ 0 := b_neq rfl (by decide) c37
    have rh39 := Imp.go t33 (by (first | exact om_2ebe32d50835 rgz30.1 rgz30.2 f38 | omega))
    refine lv_aload_n hx hb dX11_call_41 rfl (lv_at hl 0 rfl) ?_
    refine va_get (D := D) (ci := 11) (v := .ref (ad 3)) (fs := (xfHouse ad V23 L Z)) (C := RX11) (T := TX11) (N := 10) hx hb hg inX11 hown hK hP 0 xgHouse rfl 3 (by decide) (hg _ w718) (fun _ h9 => h9) rfl dX11_call_42 ?_
    refine lv_iload_n hx hb dX11_call_45 rfl (lv_at hl 2 rfl) ?_
    refine gA_int (gA_runV (As := [.int p1]) (rest := []) (ci := 8) (q0 := 3) hx hb hml hown hg hP hD hK hS hA hnw hgk (x_isMade9 l D ks H.size ad kk V23 L Z p1 hMV23 ) w1518 w1297 w1298 w164 w1299 rfl xgStock hdV_yX8_isMade ⟨Nat.le_of_ble_eq_true rfl, Nat.le_of_ble_eq_true rfl⟩ rfl hl.1 rfl (Nat.le_of_ble_eq_true rfl) dX11_call_46 ⟨z0, z0⟩) hP hD hK hS hA (fun z40 u41 H locs w42 hP hD hK hS => ?_)
    obtain ⟨rgz40, t43, t44⟩ := w42
    have rgz40 : 0 ≤ z40.toInt ∧ z40.toInt ≤ 1 := rgz40
    have t43 : Imp (z40.toInt = 1) (0 ≤ p1.toInt ∧ p1.toInt < (V23 3 13).toInt) := t43
    have t44 : (z40.toInt = 1 ∧ 0 ≤ p1.toInt ∧ p1.toInt < (V23 3 13).toInt ∧ (V23 28 (Int32.toNatClampNeg p1)).toInt = 1) ∨ (z40.toInt = 0 ∧ (p1.toInt < 0 ∨ (V23 3 13).toInt ≤ p1.toInt ∨ (V23 28 (Int32.toNatClampNeg p1)).toInt ≠ 1)) := t44
    have pq45 : (V23 3 13).toInt = ((V 3 13)).toInt := congrArg Int32.toInt ((ajV23 3 13 rfl).trans ((ajV13 3 13 rfl).trans (ajV8 3 13 rfl)))
    have r46 : 0 ≤ ((V 3 13)).toInt ∧ ((V 3 13)).toInt ≤ 300 := hMV 3 13
    refine lv_if_eq (tgt := 70) hx hb dX11_call_49 (by decide) (fun c47 => ?_) (fun c47 => ?_)
    · skip
      have f48 : z40.toInt = 0 := b_eq rfl (by decide) c47
      refine lv_aload_n hx hb dX11_call_70 rfl (lv_at hl 0 rfl) ?_
      refine lv_iconst (v := 4) hx hb dX11_call_71 (by decide) ?_
      refine lv_iconst (v := 0) hx hb dX11_call_72 (by decide) ?_
      have r49 : Int32.toInt 4 = 4 := by decide
      refine gA_int (gA_runV (As := [.int 4, .int 0]) (rest := []) (ci := 11) (q0 := 0) hx hb hml hown hg hP hD hK hS hA hnw hgk (x_ends9 l D ks H.size ad kk V23 L Z 4 0 hMV23 ) w1171 w1173 w42 w156 w1174 rfl xgHouse hdV_yX11_ends ⟨Nat.le_of_ble_eq_true rfl, Nat.le_of_ble_eq_true rfl⟩ rfl hl.1 rfl (Nat.le_of_ble_eq_true rfl) dX11_call_73 ⟨z0, z0⟩) hP hD hK hS hA (fun z50 u51 H locs w52 hP hD hK hS => ?_)
      obtain ⟨V54, L55⟩ := u51
      obtain ⟨hMV54, ajV54, axL55, t53⟩ := w52
      have axL55 : L = L55 := Eq.symm axL55
      subst axL55
      have hP : va_P D vwCl (xw ad kk V54 L Z) H := hP
      have hD : va_D A (xw ad kk V54 L Z) := hD
      have hMV54 : rgd bX V54 := hMV54
      have ajV54 : agr [(0, 9)] [] V23 V54 := ajV54
      have agV54 : agr [(0, 9), (3, 13), (3, 14), (3, 15), (4, 5), (4, 6), (4, 7), (4, 8), (4, 9), (5, 6), (5, 7), (5, 8), (5, 9), (5, 10), (5, 11), (5, 12), (5, 13), (5, 14)] [24, 25, 26, 27, 28, 29, 30, 31, 32, 33, 34, 35, 36, 37, 39, 40, 67, 68, 69, 70, 71, 72, 73, 74, 75, 76, 77, 78, 79, 80, 81, 82, 83, 84, 85] V V54 := agV23.tr ajV54 (by decide) (by decide)
      have t53 : z50.toInt = (Int32.toInt 0) := t53
      have hi56 : HI V54 Z b := (HI.ag (HI.ag (HI.ag (HI.ag hi ajV8 (by decide)) ajV13 (by decide)) ajV23 (by decide)) ajV54 (by decide))
      have pq57 : (V23 23 (Int32.toNatClampNeg p0)).toInt = ((V 23 (Int32.toNatClampNeg p0))).toInt := congrArg Int32.toInt ((ajV23 23 (Int32.toNatClampNeg p0) rfl).trans ((ajV13 23 (Int32.toNatClampNeg p0) rfl).trans (ajV8 23 (Int32.toNatClampNeg p0) rfl)))
      have r58 : 0 ≤ ((V 23 (Int32.toNatClampNeg p0))).toInt ∧ ((V 23 (Int32.toNatClampNeg p0))).toInt ≤ 1 := hMV 23 (Int32.toNatClampNeg p0)
      have pq59 : (V23 28 (Int32.toNatClampNeg p1)).toInt = ((V 28 (Int32.toNatClampNeg p1))).toInt := congrArg Int32.toInt ((ajV23 28 (Int32.toNatClampNeg p1) rfl).trans ((ajV13 28 (Int32.toNatClampNeg p1) rfl).trans (ajV8 28 (Int32.toNatClampNeg p1) rfl)))
      have pq60 : (V23 43 (5 * b + 3)).toInt = ((V 43 (5 * b + 3))).toInt := congrArg Int32.toInt ((ajV23 43 (5 * b + 3) rfl).trans ((ajV13 43 (5 * b + 3) rfl).trans (ajV8 43 (5 * b + 3) rfl)))
      have r61 : 0 ≤ ((V 43 (5 * b + 3))).toInt ∧ ((V 43 (5 * b + 3))).toInt ≤ ((xcap (5 * b + 3) : Nat) : Int) := hMV 43 (5 * b + 3)
      have r62 : xcap (5 * b + 3) = 20 := xcap_3
      have rn63 : ∃ ow, RWn V54 ow gB (mU gm 0 1 0) := by obtain ⟨ow, h9⟩ := rn0; exact ⟨ow, RWn.es h9 (ESw.ag (show agr [(0, 9)] [] V23 V54 from (agr.tr agr.rf ajV54 (by decide) (by decide))) (by decide))⟩
      have pq64 : (V54 4 7).toInt = ((V8 4 7)).toInt := congrArg Int32.toInt ((ajV54 4 7 rfl).trans ((ajV23 4 7 rfl).trans (ajV13 4 7 rfl)))
      have pq65 : (V54 4 8).toInt = ((V8 4 8)).toInt := congrArg Int32.toInt ((ajV54 4 8 rfl).trans ((ajV23 4 8 rfl).trans (ajV13 4 8 rfl)))
      refine W.know (fun kr1 kr2 => ?_)
      refine W.widen (k := zcc Z) (n := zss Z) (Nat.sub_le _ _) (Nat.sub_le _ _) ?_
      exact W.iret (v := z50) hx hb hr (fun t ht hW => ⟨⟨z50, (V54, L, Z), rfl, ⟨hMV54, agV54, rfl, zoZ, hi56, (fun h9 => by have h2 := h9.1.1; have h3 := h9.1.2.1; have h4 := h9.1.2.2; have h5 := h9.2.1.1; have h6 := h9.2.1.2.1; have h7 := h9.2.1.2.2; have h8 := h9.2.2.1; have h10 := h9.2.2.2; exfalso; omega), (fun _ => ⟨by omega, rn63, (show (V54 4 7).toInt = 0 from by (first | exact om_d2e622dc9730 r2 t6 pq64 | omega)), (show (V54 4 8).toInt = 0 from by (first | exact om_d2e622dc9730 r2 t7 pq65 | omega))⟩)⟩, ⟨by rw [ht]; exact hP, va_K.moved hW.alike hK, hD⟩, by rw [ht]; exact kr1, by rw [ht]; exact kr2⟩, hS.F ht⟩) hS.2.2 dX11_call_76
    · skip
      have f66 : z40.toInt ≠ 0 := b_neq rfl (by decide) c47
      refine lv_iload_n hx hb dX11_call_52 rfl (lv_at hl 3 rfl) ?_
      refine lv_if_lt (tgt := 70) hx hb dX11_call_53 (by decide) (fun c67 => ?_) (fun c67 => ?_)
      · skip
        have f68 : p2.toInt < 0 := b_lt rfl (by decide) c67
        refine lv_aload_n hx hb dX11_call_70 rfl (lv_at hl 0 rfl) ?_
        refine lv_iconst (v := 4) hx hb dX11_call_71 (by decide) ?_
        refine lv_iconst (v := 0) hx hb dX11_call_72 (by decide) ?_
        have r69 : Int32.toInt 4 = 4 := by decide
        refine gA_int (gA_runV (As := [.int 4, .int 0]) (rest := []) (ci := 11) (q0 := 0) hx hb hml hown hg hP hD hK hS hA hnw hgk (x_ends9 l D ks H.size ad kk V23 L Z 4 0 hMV23 ) w1171 w1173 w42 w156 w1174 rfl xgHouse hdV_yX11_ends ⟨Nat.le_of_ble_eq_true rfl, Nat.le_of_ble_eq_true rfl⟩ rfl hl.1 rfl (Nat.le_of_ble_eq_true rfl) dX11_call_73 ⟨z0, z0⟩) hP hD hK hS hA (fun z70 u71 H locs w72 hP hD hK hS => ?_)
        obtain ⟨V74, L75⟩ := u71
        obtain ⟨hMV74, ajV74, axL75, t73⟩ := w72
        have axL75 : L = L75 := Eq.symm axL75
        subst axL75
        have hP : va_P D vwCl (xw ad kk V74 L Z) H := hP
        have hD : va_D A (xw ad kk V74 L Z) := hD
        have hMV74 : rgd bX V74 := hMV74
        have ajV74 : agr [(0, 9)] [] V23 V74 := ajV74
        have agV74 : agr [(0, 9), (3, 13), (3, 14), (3, 15), (4, 5), (4, 6), (4, 7), (4, 8), (4, 9), (5, 6), (5, 7), (5, 8), (5, 9), (5, 10), (5, 11), (5, 12), (5, 13), (5, 14)] [24, 25, 26, 27, 28, 29, 30, 31, 32, 33, 34, 35, 36, 37, 39, 40, 67, 68, 69, 70, 71, 72, 73, 74, 75, 76, 77, 78, 79, 80, 81, 82, 83, 84, 85] V V74 := agV23.tr ajV74 (by decide) (by decide)
        have t73 : z70.toInt = (Int32.toInt 0) := t73
        have hi76 : HI V74 Z b := (HI.ag (HI.ag (HI.ag (HI.ag hi ajV8 (by decide)) ajV13 (by decide)) ajV23 (by decide)) ajV74 (by decide))
        have pq77 : (V23 23 (Int32.toNatClampNeg p0)).toInt = ((V 23 (Int32.toNatClampNeg p0))).toInt := congrArg Int32.toInt ((ajV23 23 (Int32.toNatClampNeg p0) rfl).trans ((ajV13 23 (Int32.toNatClampNeg p0) rfl).trans (ajV8 23 (Int32.toNatClampNeg p0) rfl)))
        have r78 : 0 ≤ ((V 23 (Int32.toNatClampNeg p0))).toInt ∧ ((V 23 (Int32.toNatClampNeg p0))).toInt ≤ 1 := hMV 23 (Int32.toNatClampNeg p0)
        have pq79 : (V23 28 (Int32.toNatClampNeg p1)).toInt = ((V 28 (Int32.toNatClampNeg p1))).toInt := congrArg Int32.toInt ((ajV23 28 (Int32.toNatClampNeg p1) rfl).trans ((ajV13 28 (Int32.toNatClampNeg p1) rfl).trans (ajV8 28 (Int32.toNatClampNeg p1) rfl)))
        have pq80 : (V23 43 (5 * b + 3)).toInt = ((V 43 (5 * b + 3))).toInt := congrArg Int32.toInt ((ajV23 43 (5 * b + 3) rfl).trans ((ajV13 43 (5 * b + 3) rfl).trans (ajV8 43 (5 * b + 3) rfl)))
        have r81 : 0 ≤ ((V 43 (5 * b + 3))).toInt ∧ ((V 43 (5 * b + 3))).toInt ≤ ((xcap (5 * b + 3) : Nat) : Int) := hMV 43 (5 * b + 3)
        have r82 : xcap (5 * b + 3) = 20 := xcap_3
        have rn83 : ∃ ow, RWn V74 ow gB (mU gm 0 1 0) := by obtain ⟨ow, h9⟩ := rn0; exact ⟨ow, RWn.es h9 (ESw.ag (show agr [(0, 9)] [] V23 V74 from (agr.tr agr.rf ajV74 (by decide) (by decide))) (by decide))⟩
        have pq84 : (V74 4 7).toInt = ((V8 4 7)).toInt := congrArg Int32.toInt ((ajV74 4 7 rfl).trans ((ajV23 4 7 rfl).trans (ajV13 4 7 rfl)))
        have pq85 : (V74 4 8).toInt = ((V8 4 8)).toInt := congrArg Int32.toInt ((ajV74 4 8 rfl).trans ((ajV23 4 8 rfl).trans (ajV13 4 8 rfl)))
        refine W.know (fun kr1 kr2 => ?_)
        refine W.widen (k := zcc Z) (n := zss Z) (Nat.sub_le _ _) (Nat.sub_le _ _) ?_
        exact W.iret (v := z70) hx hb hr (fun t ht hW => ⟨⟨z70, (V74, L, Z), rfl, ⟨hMV74, agV74, rfl, zoZ, hi76, (fun h9 => by have h2 := h9.1.1; have h3 := h9.1.2.1; have h4 := h9.1.2.2; have h5 := h9.2.1.1; have h6 := h9.2.1.2.1; have h7 := h9.2.1.2.2; have h8 := h9.2.2.1; have h10 := h9.2.2.2; exfalso; omega), (fun _ => ⟨by omega, rn83, (show (V74 4 7).toInt = 0 from by (first | exact om_d2e622dc9730 r2 t6 pq84 | omega)), (show (V74 4 8).toInt = 0 from by (first | exact om_d2e622dc9730 r2 t7 pq85 | omega))⟩)⟩, ⟨by rw [ht]; exact hP, va_K.moved hW.alike hK, hD⟩, by rw [ht]; exact kr1, by rw [ht]; exact kr2⟩, hS.F ht⟩) hS.2.2 dX11_call_76
      · skip
        have f86 : 0 ≤ p2.toInt := b_nlt rfl (by decide) c67
        refine lv_iload_n hx hb dX11_call_56 rfl (lv_at hl 3 rfl) ?_
        refine lv_aload_n hx hb dX11_call_57 rfl (lv_at hl 0 rfl) ?_
        refine va_get (D := D) (ci := 11) (v := .ref (ad (38 + Int32.toNatClampNeg (V23 0 6)))) (fs := (xfHouse ad V23 L Z)) (C := RX11) (T := TX11) (N := 10) hx hb hg inX11 hown hK hP 0 xgHouse rfl 6 (by decide) (hg _ w721) (fun _ h9 => h9) rfl dX11_call_58 ?_
        have pq87 : (V23 0 6).toInt = ((V 0 6)).toInt := congrArg Int32.toInt ((ajV23 0 6 rfl).trans ((ajV13 0 6 rfl).trans (ajV8 0 6 rfl)))
        refine g_topv (v := .ref (ad (38 + b))) (rfP (by first | omega | ((try (have i_t43 := Imp.go t43 (by omega))); (try (have i_t33 := Imp.go t33 (by omega))); (try (have i_t33 := Imp.go t33 (by omega))); (try (have i_t43 := Imp.go t43 (by omega))); omega))) ?_
        refine va_getN (D := D) (ci := 0) (v := .ref (ad (40 + (5 * b + 3)))) (fs := (xfBook ad V23 b)) (C := RX0) (T := TX0) (N := 13) hx hb hg inX0 hown hK hP (38 + b) (xgBook hb2) rfl 3 (by decide) (hnw.use 604 n604 rfl) (fun _ h9 => h9) rfl dX11_call_61 ?_
        have il88 : (5 * b + 3) < 10 := by first | exact om_a4f98a710256 hb2 | first | omega | ((try (have i_t43 := Imp.go t43 (by omega))); (try (have i_t33 := Imp.go t33 (by omega))); (try (have i_t33 := Imp.go t33 (by omega))); (try (have i_t43 := Imp.go t43 (by omega))); omega)
        refine va_getN (D := D) (ci := 6) (v := .int (V23 43 (5 * b + 3))) (fs := (xfNames ad V23 (5 * b + 3))) (C := RX6) (T := TX6) (N := 2) hx hb hg inX6 hown hK hP (40 + (5 * b + 3)) (xgNames il88) rfl 1 (by decide) (hnw.use 483 n483 rfl) (fun _ h9 => h9) rfl dX11_call_64 ?_
        refine g_top (v := (V 43 (5 * b + 3))) ((ajV23 43 (5 * b + 3) rfl).trans ((ajV13 43 (5 * b + 3) rfl).trans (ajV8 43 (5 * b + 3) rfl))) ?_
        have r89 : 0 ≤ ((V 43 (5 * b + 3))).toInt ∧ ((V 43 (5 * b + 3))).toInt ≤ ((xcap (5 * b + 3) : Nat) : Int) := hMV 43 (5 * b + 3)
        have r90 : xcap (5 * b + 3) = 20 := xcap_3
        refine lv_icmp_lt (tgt := 77) hx hb dX11_call_67 (by decide) (fun c91 => ?_) (fun c91 => ?_)
        · skip
          have f92 : p2.toInt < ((V 43 (5 * b + 3))).toInt := b_lt rfl rfl c91
          refine lv_aload_n hx hb dX11_call_77 rfl (lv_at hl 0 rfl) ?_
          refine va_get (D := D) (ci := 11) (v := .ref (ad 4)) (fs := (xfHouse ad V23 L Z)) (C := RX11) (T := TX11) (N := 10) hx hb hg inX11 hown hK hP 0 xgHouse rfl 4 (by decide) (hg _ w719) (fun _ h9 => h9) rfl dX11_call_78 ?_
          refine lv_iconst (v := 1) hx hb dX11_call_81 (by decide) ?_
          refine va_putN (D := D) (ci := 7) (v := .int 1) (ty := tyX7 9) (fs := (xfNotes ad V23 L Z)) (C := RX7) (T := TX7) (N := 10) hx hb hg inX7 tyX7 tyX7_ok nmX7 hown hK hP hD hS 4 xgNotes rfl 9 (by decide) (hnw.use 445 n445 rfl) (fun _ h9 => h9) rfl (tyX7_ok 9 (by decide)) rfl rfl (Nat.le_of_ble_eq_true rfl) dX11_call_82 (fun H locs hP hD hS => ?_)
          obtain ⟨V93, hV93⟩ : ∃ z, z = up2 V23 4 9 1 := ⟨_, rfl⟩
          have ew94 : (xw ad kk V23 L Z).set 4 ((ad 4), .inr (7, (xfNotes ad V23 L Z).set 9 (.int 1))) = xw ad kk V93 L Z := by rw [hV93]; exact xw_ss (by decide) rfl (xb_si (by decide))
          have hP : va_P D vwCl (xw ad kk V93 L Z) H := by rw [← ew94]; exact hP
          have hD : va_D A (xw ad kk V93 L Z) := by rw [← ew94]; exact hD
          have hMV93 : rgd bX V93 := hMV23.put hV93 (by decide)
          have agV93 : agr [(0, 9), (3, 13), (3, 14), (3, 15), (4, 5), (4, 6), (4, 7), (4, 8), (4, 9), (5, 6), (5, 7), (5, 8), (5, 9), (5, 10), (5, 11), (5, 12), (5, 13), (5, 14)] [24, 25, 26, 27, 28, 29, 30, 31, 32, 33, 34, 35, 36, 37, 39, 40, 67, 68, 69, 70, 71, 72, 73, 74, 75, 76, 77, 78, 79, 80, 81, 82, 83, 84, 85] V V93 := agV23.up hV93 rfl
          have rh95 := Imp.go t43 (by (first | exact om_2ebe32d50835 rgz40.1 rgz40.2 f66 | omega))
          have pq96 : (V93 3 13).toInt = ((V 3 13)).toInt := congrArg Int32.toInt ((up2_o hV93 (by decide)).trans ((ajV23 3 13 rfl).trans ((ajV13 3 13 rfl).trans (ajV8 3 13 rfl))))
          have kcp := i_clamp (x := p1) rfl (by (first | exact om_eafa9039069c rh95.1 | omega))
          have hoc := hi.2.2.1 (Int32.toNatClampNeg p1) (by omega)
          have h26 : 0 ≤ (V 26 (Int32.toNatClampNeg p1)).toInt := (hMV 26 (Int32.toNatClampNeg p1)).1
          have pq97 : (V93 43 (5 * b + 3)).toInt = ((V 43 (5 * b + 3))).toInt := congrArg Int32.toInt ((up2_o hV93 (by decide)).trans ((ajV23 43 (5 * b + 3) rfl).trans ((ajV13 43 (5 * b + 3) rfl).trans (ajV8 43 (5 * b + 3) rfl))))
          have hi98 : HI V93 Z b := (HI.ag (HI.ag (HI.ag (HI.ag hi ajV8 (by decide)) ajV13 (by decide)) ajV23 (by decide)) (agr.up (fs := [(4, 9)]) (cs := []) agr.rf hV93 rfl) (by decide))
          have pq99 : (V93 5 6).toInt = ((V23 5 6)).toInt := congrArg Int32.toInt (up2_o hV93 (by decide))
          have pq100 : (V93 5 8).toInt = ((V23 5 8)).toInt := congrArg Int32.toInt (up2_o hV93 (by decide))
          have pq101 : (V93 43 (5 * b + 2)).toInt = ((V 43 (5 * b + 2))).toInt := congrArg Int32.toInt ((up2_o hV93 (by decide)).trans ((ajV23 43 (5 * b + 2) rfl).trans ((ajV13 43 (5 * b + 2) rfl).trans (ajV8 43 (5 * b + 2) rfl))))
          have r102 : 0 ≤ ((V 43 (5 * b + 2))).toInt ∧ ((V 43 (5 * b + 2))).toInt ≤ ((xcap (5 * b + 2) : Nat) : Int) := hMV 43 (5 * b + 2)
          have r103 : xcap (5 * b + 2) = 24 := xcap_2
          have mt104 : MT V93 Z b := HI.mt hi98 (by omega) (by (first | exact om_36161e850215 t20 pq100 | omega)) (by (first | exact om_36161e850215 t18 pq99 | omega))
          refine lv_aload_n hx hb dX11_call_85 rfl (lv_at hl 0 rfl) ?_
          refine va_get (D := D) (ci := 11) (v := .ref (ad 5)) (fs := (xfHouse ad V93 L Z)) (C := RX11) (T := TX11) (N := 10) hx hb hg inX11 hown hK hP 0 xgHouse rfl 5 (by decide) (hg _ w720) (fun _ h9 => h9) rfl dX11_call_86 ?_
          refine lv_iload_n hx hb dX11_call_89 rfl (lv_at hl 2 rfl) ?_
          refine lv_iload_n hx hb dX11_call_90 rfl (lv_at hl 1 rfl) ?_
          refine lv_iload_n hx hb dX11_call_91 rfl (lv_at hl 3 rfl) ?_
          refine lv_iload hx hb dX11_call_92 (lv_at hl 4 rfl) ?_
          refine lv_iconst (v := 1) hx hb dX11_call_94 (by decide) ?_
          have r105 : Int32.toInt 1 = 1 := by decide
          refine W.know (fun k107 k108 => ?_)
          obtain ⟨Hk106, hHk106⟩ : ∃ z, z = H := ⟨_, rfl⟩
          have k107 : Hk106.size ≤ s.heap.size + (zcc Z - zcc Z) := by rw [hHk106]; exact k107
          have k108 : tot Hk106 ≤ tot s.heap + (zss Z - zss Z) := by rw [hHk106]; exact k108
          refine gZ_void (gA_runV (As := [.int p1, .int p0, .int p2, .int p3, .int 1]) (rest := []) (ci := 5) (q0 := 5) hx hb hml hown hg hP hD hK hS hA hnw hgk (x_pushCall9 l D ks H.size ad kk V93 L Z p1 p0 p2 p3 1 (b) hMV93 (by first | exact om_47058e563f80 pq35 r36.2 ((Imp.go t33 (imp_a (rgz30.1) (rgz30.2) (f38))).1) ((Imp.go t33 (imp_a (rgz30.1) (rgz30.2) (f38))).2) | first | omega | ((try (have i_t43 := Imp.go t43 (by omega))); (try (have i_t33 := Imp.go t33 (by omega))); (try (have i_t33 := Imp.go t33 (by omega))); (try (have i_t43 := Imp.go t43 (by omega))); omega)) (by first | exact om_5f3154baf57f f86 r89.2 r90 f92 | first | omega | ((try (have i_t43 := Imp.go t43 (by omega))); (try (have i_t33 := Imp.go t33 (by omega))); (try (have i_t33 := Imp.go t33 (by omega))); (try (have i_t43 := Imp.go t43 (by omega))); omega)) (show b < 2 from by first | exact om_f940a4667dd6 hb2 | first | omega | ((try (have i_t43 := Imp.go t43 (by omega))); (try (have i_t33 := Imp.go t33 (by omega))); (try (have i_t33 := Imp.go t33 (by omega))); (try (have i_t43 := Imp.go t43 (by omega))); omega)) mt104) w1519 w1455 w1456 w171 w1457 rfl xgMachine hdV_yX5_pushCall ⟨Nat.le_of_ble_eq_true rfl, Nat.le_of_ble_eq_true rfl⟩ rfl hl.1 rfl (Nat.le_of_ble_eq_true rfl) dX11_call_95 ⟨z1 zoZ.1, z1 zoZ.2.1⟩) hD hS hA (fun u110 H locs w111 hP hD hK hS y112 y113 => ?_)
          obtain ⟨V114, L115, Z116⟩ := u110
          obtain ⟨hMV114, ajV114, axL115, zlZ116, t118, t119⟩ := w111
          have axL115 : L = L115 := Eq.symm axL115
          subst axL115
          have hP : va_P D vwCl (xw ad kk V114 L Z116) H := hP
          have hD : va_D A (xw ad kk V114 L Z116) := hD
          have hK : va_K D vwCl (xty kk Z116) s := hK
          have hMV114 : rgd bX V114 := hMV114
          have ajV114 : agr [(5, 6), (5, 9)] [67, 68, 69, 70, 71, 72, 73, 74, 75, 76, 77, 78, 79, 80, 81, 82, 83, 84, 85] V93 V114 := ajV114
          have agV114 : agr [(0, 9), (3, 13), (3, 14), (3, 15), (4, 5), (4, 6), (4, 7), (4, 8), (4, 9), (5, 6), (5, 7), (5, 8), (5, 9), (5, 10), (5, 11), (5, 12), (5, 13), (5, 14)] [24, 25, 26, 27, 28, 29, 30, 31, 32, 33, 34, 35, 36, 37, 39, 40, 67, 68, 69, 70, 71, 72, 73, 74, 75, 76, 77, 78, 79, 80, 81, 82, 83, 84, 85] V V114 := agV93.tr ajV114 (by decide) (by decide)
          have zlZ116 : ZL Z Z116 := zlZ116
          have zoZ116 : ZL Z Z116 := ZL.tr zoZ zlZ116
          have ziZ116 := zlZ116.1
          have zjZ116 := zlZ116.2.1
          have zkZ116 := zlZ116.2.2.1
          have zmZ116 := zoZ116.1
          have znZ116 := zoZ116.2.1
          have zpZ_Z116 := zoZ.1
          have zqZ_Z116 := zoZ.2.1
          have y112 : H.size ≤ Hk106.size + (zcc Z - zcc Z116) := by rw [hHk106]; exact y112
          have y113 : tot H ≤ tot Hk106 + (zss Z - zss Z116) := by rw [hHk106]; exact y113
          refine W.tight (k := zcc Z - zcc Z116) (n := zss Z - zss Z116) (by first | exact tg9 y112 k107 zlZ116.1 zoZ.1 | omega) (by first | exact tg9 y113 k108 zlZ116.2.1 zoZ.2.1 | omega) ?_
          have t118 : MJ V114 Z116 b := t118
          have t119 : Imp ((V93 5 6).toInt < 400) (PCa V93 V114 ((V93 5 6).toInt.toNat) p1 p0 p2 p3 1) := t119
          have rn120 : ∃ ow, RWn V93 ow gB (mU gm 0 1 0) := by obtain ⟨ow, h9⟩ := rn0; exact ⟨ow, RWn.es h9 (ESw.ag (show agr [(4, 9)] [] V23 V93 from (agr.up agr.rf hV93 rfl)) (by decide))⟩
          have pq121 : (V93 5 7).toInt = ((V23 5 7)).toInt := congrArg Int32.toInt (up2_o hV93 (by decide))
          have pq122 : (V93 3 12).toInt = ((V 3 12)).toInt := congrArg Int32.toInt ((up2_o hV93 (by decide)).trans ((ajV23 3 12 rfl).trans ((ajV13 3 12 rfl).trans (ajV8 3 12 rfl))))
          have pr9 := Imp.go t119 (by (first | exact om_8fc90139ca43 t18 pq99 | omega))
          rw [show (V93 5 6).toInt.toNat = 0 from by omega] at pr9
          have rwx9 : RW V114 gB (mU gm 0 1 0, 0, [Fcall0 1 p1.toInt (gm 1 p1.toInt.toNat) p0.toInt p2.toInt p3]) := by
            have h9 := RW.cal0 rn120 (ESw.ag (show agr [(5, 6), (5, 9)] [67, 68, 69, 70, 71, 72, 73, 74, 75, 76, 77, 78, 79, 80, 81, 82, 83, 84, 85] V93 V114 from (agr.tr agr.rf ajV114 (by decide) (by decide))) (by decide)) pr9 (by (first | exact om_36161e850215 t18 pq99 | omega)) (by (first | exact om_36161e850215 t19 pq121 | omega)) (ajV114 5 7 rfl) (by (first | exact om_36161e850215 t20 pq100 | omega)) (show mU gm 0 1 0 0 4 = 0 from by rw [mU_o _ _ (by omega)]; exact g46.1) (show mU gm 0 1 0 0 6 = 0 from by rw [mU_o _ _ (by omega)]; exact g46.2) (by (first | exact om_eafa9039069c rh95.1 | omega)) (by (first | exact om_165133789cb1 pq45 rh95.2 pq96 | omega)) (by (first | exact om_eafa9039069c rh39.1 | omega)) (by (first | exact om_165133789cb1 pq35 rh39.2 pq122 | omega)) (by (first | exact om_eafa9039069c f86 | omega)) (by (first | exact om_d75ea5baee1e r89.2 r90 f92 | omega))
            rw [show mU gm 0 1 0 1 p1.toInt.toNat = gm 1 p1.toInt.toNat from mU_o _ _ (by omega)] at h9
            exact h9
          have pq123 : (V23 23 (Int32.toNatClampNeg p0)).toInt = ((V 23 (Int32.toNatClampNeg p0))).toInt := congrArg Int32.toInt ((ajV23 23 (Int32.toNatClampNeg p0) rfl).trans ((ajV13 23 (Int32.toNatClampNeg p0) rfl).trans (ajV8 23 (Int32.toNatClampNeg p0) rfl)))
          have r124 : 0 ≤ ((V 23 (Int32.toNatClampNeg p0))).toInt ∧ ((V 23 (Int32.toNatClampNeg p0))).toInt ≤ 1 := hMV 23 (Int32.toNatClampNeg p0)
          have pq125 : (V23 28 (Int32.toNatClampNeg p1)).toInt = ((V 28 (Int32.toNatClampNeg p1))).toInt := congrArg Int32.toInt ((ajV23 28 (Int32.toNatClampNeg p1) rfl).trans ((ajV13 28 (Int32.toNatClampNeg p1) rfl).trans (ajV8 28 (Int32.toNatClampNeg p1) rfl)))
          have pq126 : (V23 43 (5 * b + 3)).toInt = ((V 43 (5 * b + 3))).toInt := congrArg Int32.toInt ((ajV23 43 (5 * b + 3) rfl).trans ((ajV13 43 (5 * b + 3) rfl).trans (ajV8 43 (5 * b + 3) rfl)))
          have cd127 : (0 ≤ p0.toInt ∧ p0.toInt < (V 3 12).toInt ∧ (V 23 (Int32.toNatClampNeg p0)).toInt = 1) ∧ (0 ≤ p1.toInt ∧ p1.toInt < (V 3 13).toInt ∧ (V 28 (Int32.toNatClampNeg p1)).toInt = 1) ∧ 0 ≤ p2.toInt ∧ p2.toInt < (V 43 (5 * b + 3)).toInt := ⟨⟨by omega, by omega, by omega⟩, ⟨by omega, by omega, by omega⟩, by omega, by omega⟩
          refine lv_aload_n hx hb dX11_call_98 rfl (lv_at hl 0 rfl) ?_
          refine va_get (D := D) (ci := 11) (v := .ref (ad 5)) (fs := (xfHouse ad V114 L Z116)) (C := RX11) (T := TX11) (N := 10) hx hb hg inX11 hown hK hP 0 xgHouse rfl 5 (by decide) (hg _ w720) (fun _ h9 => h9) rfl dX11_call_99 ?_
          have bc128 : BKc V114 b gB := BKc.b4 bc (agr.b4 (show agr [(4, 5), (4, 7), (4, 8), (4, 9), (5, 6), (5, 7), (5, 8), (5, 9), (5, 13)] [67, 68, 69, 70, 71, 72, 73, 74, 75, 76, 77, 78, 79, 80, 81, 82, 83, 84, 85] V V114 from (agr.tr (agr.up (agr.tr (agr.tr (agr.tr agr.rf ajV8 (by decide) (by decide)) ajV13 (by decide) (by decide)) ajV23 (by decide) (by decide)) hV93 rfl) ajV114 (by decide) (by decide))) (by decide))
          refine W.know (fun k130 k131 => ?_)
          obtain ⟨Hk129, hHk129⟩ : ∃ z, z = H := ⟨_, rfl⟩
          have k130 : Hk129.size ≤ s.heap.size + (zcc Z - zcc Z116) := by rw [hHk129]; exact k130
          have k131 : tot Hk129 ≤ tot s.heap + (zss Z - zss Z116) := by rw [hHk129]; exact k131
          refine gZ_void (gA_runV (As := []) (rest := []) (ci := 5) (q0 := 5) hx hb hml hown hg hP hD hK hS hA hnw hgk (x_run9 l D ks H.size ad kk V114 L Z116 (b) (gB) ((mU gm 0 1 0, 0, [Fcall0 1 p1.toInt (gm 1 p1.toInt.toNat) p0.toInt p2.toInt p3])) hMV114 (show b < 2 from by first | exact om_f940a4667dd6 hb2 | first | omega | ((try (have i_t43 := Imp.go t43 (by omega))); (try (have i_t33 := Imp.go t33 (by omega))); (try (have i_t33 := Imp.go t33 (by omega))); (try (have i_t43 := Imp.go t43 (by omega))); omega)) t118 rwx9 bc128 (Or.inr (gox cd127)) (PHI.b5 (mU_s _ _ _ _) (show mU gm 0 1 0 0 4 = 0 from by rw [mU_o _ _ (by omega)]; exact g46.1)) (wfo (by omega))) w1247 w1248 w1249 w171 w1250 rfl xgMachine hdV_yX5_run ⟨Nat.le_of_ble_eq_true rfl, Nat.le_of_ble_eq_true rfl⟩ rfl hl.1 rfl (Nat.le_of_ble_eq_true rfl) dX11_call_102 ⟨z1 zoZ116.1, z1 zoZ116.2.1⟩) hD hS hA (fun u133 H locs w134 hP hD hK hS y135 y136 => ?_)
          obtain ⟨V137, L138, Z139⟩ := u133
          obtain ⟨hMV137, ajV137, axL138, zlZ139, t141, t142⟩ := w134
          have axL138 : L = L138 := Eq.symm axL138
          subst axL138
          have hP : va_P D vwCl (xw ad kk V137 L Z139) H := hP
          have hD : va_D A (xw ad kk V137 L Z139) := hD
          have hK : va_K D vwCl (xty kk Z139) s := hK
          have hMV137 : rgd bX V137 := hMV137
          have ajV137 : agr [(3, 13), (3, 14), (3, 15), (4, 5), (4, 6), (5, 6), (5, 7), (5, 8), (5, 9), (5, 10), (5, 11), (5, 12), (5, 13), (5, 14)] [24, 25, 26, 27, 28, 29, 30, 31, 32, 33, 34, 35, 36, 37, 39, 40, 67, 68, 69, 70, 71, 72, 73, 74, 75, 76, 77, 78, 79, 80, 81, 82, 83, 84, 85] V114 V137 := ajV137
          have agV137 : agr [(0, 9), (3, 13), (3, 14), (3, 15), (4, 5), (4, 6), (4, 7), (4, 8), (4, 9), (5, 6), (5, 7), (5, 8), (5, 9), (5, 10), (5, 11), (5, 12), (5, 13), (5, 14)] [24, 25, 26, 27, 28, 29, 30, 31, 32, 33, 34, 35, 36, 37, 39, 40, 67, 68, 69, 70, 71, 72, 73, 74, 75, 76, 77, 78, 79, 80, 81, 82, 83, 84, 85] V V137 := agV114.tr ajV137 (by decide) (by decide)
          have zlZ139 : ZL Z116 Z139 := zlZ139
          have zoZ139 : ZL Z Z139 := ZL.tr zoZ116 zlZ139
          have ziZ139 := zlZ139.1
          have zjZ139 := zlZ139.2.1
          have zkZ139 := zlZ139.2.2.1
          have zmZ139 := zoZ139.1
          have znZ139 := zoZ139.2.1
          have zpZ116_Z139 := zoZ116.1
          have zqZ116_Z139 := zoZ116.2.1
          have y135 : H.size ≤ Hk129.size + (zcc Z116 - zcc Z139) := by rw [hHk129]; exact y135
          have y136 : tot H ≤ tot Hk129 + (zss Z116 - zss Z139) := by rw [hHk129]; exact y136
          refine W.tight (k := zcc Z - zcc Z139) (n := zss Z - zss Z139) (by first | exact tg9 y135 k130 zlZ139.1 zoZ116.1 | omega) (by first | exact tg9 y136 k131 zlZ139.2.1 zoZ116.2.1 | omega) ?_
          have t141 : MJ V137 Z139 b := t141
          have t142 : ∃ n, (rnM gB n (mU gm 0 1 0, 0, [Fcall0 1 p1.toInt (gm 1 p1.toInt.toNat) p0.toInt p2.toInt p3])).2.2 = [] ∧ RW V137 gB (rnM gB n (mU gm 0 1 0, 0, [Fcall0 1 p1.toInt (gm 1 p1.toInt.toNat) p0.toInt p2.toInt p3])) := t142
          refine lv_aload_n hx hb dX11_call_105 rfl (lv_at hl 0 rfl) ?_
          refine va_get (D := D) (ci := 11) (v := .ref (ad 4)) (fs := (xfHouse ad V137 L Z139)) (C := RX11) (T := TX11) (N := 10) hx hb hg inX11 hown hK hP 0 xgHouse rfl 4 (by decide) (hg _ w719) (fun _ h9 => h9) rfl dX11_call_106 ?_
          refine lv_iconst (v := 0) hx hb dX11_call_109 (by decide) ?_
          refine va_putN (D := D) (ci := 7) (v := .int 0) (ty := tyX7 9) (fs := (xfNotes ad V137 L Z139)) (C := RX7) (T := TX7) (N := 10) hx hb hg inX7 tyX7 tyX7_ok nmX7 hown hK hP hD hS 4 xgNotes rfl 9 (by decide) (hnw.use 445 n445 rfl) (fun _ h9 => h9) rfl (tyX7_ok 9 (by decide)) rfl rfl (Nat.le_of_ble_eq_true rfl) dX11_call_110 (fun H locs hP hD hS => ?_)
          obtain ⟨V143, hV143⟩ : ∃ z, z = up2 V137 4 9 0 := ⟨_, rfl⟩
          have ew144 : (xw ad kk V137 L Z139).set 4 ((ad 4), .inr (7, (xfNotes ad V137 L Z139).set 9 (.int 0))) = xw ad kk V143 L Z139 := by rw [hV143]; exact xw_ss (by decide) rfl (xb_si (by decide))
          have hP : va_P D vwCl (xw ad kk V143 L Z139) H := by rw [← ew144]; exact hP
          have hD : va_D A (xw ad kk V143 L Z139) := by rw [← ew144]; exact hD
          have hMV143 : rgd bX V143 := hMV137.put hV143 (by decide)
          have agV143 : agr [(0, 9), (3, 13), (3, 14), (3, 15), (4, 5), (4, 6), (4, 7), (4, 8), (4, 9), (5, 6), (5, 7), (5, 8), (5, 9), (5, 10), (5, 11), (5, 12), (5, 13), (5, 14)] [24, 25, 26, 27, 28, 29, 30, 31, 32, 33, 34, 35, 36, 37, 39, 40, 67, 68, 69, 70, 71, 72, 73, 74, 75, 76, 77, 78, 79, 80, 81, 82, 83, 84, 85] V V143 := agV137.up hV143 rfl
          refine lv_aload_n hx hb dX11_call_113 rfl (lv_at hl 0 rfl) ?_
          refine lv_aload_n hx hb dX11_call_114 rfl (lv_at hl 0 rfl) ?_
          refine va_get (D := D) (ci := 11) (v := .ref (ad 5)) (fs := (xfHouse ad V143 L Z139)) (C := RX11) (T := TX11) (N := 10) hx hb hg inX11 hown hK hP 0 xgHouse rfl 5 (by decide) (hg _ w720) (fun _ h9 => h9) rfl dX11_call_115 ?_
          refine gA_int (gA_runV (As := []) (rest := [.ref (ad 0)]) (ci := 5) (q0 := 5) hx hb hml hown hg hP hD hK hS hA hnw hgk (x_howItEnded9 l D ks H.size ad kk V143 L Z139  hMV143 ) w1501 w1502 w1503 w171 w1504 rfl xgMachine hdV_yX5_howItEnded ⟨Nat.le_of_ble_eq_true rfl, Nat.le_of_ble_eq_true rfl⟩ rfl hl.1 rfl (Nat.le_of_ble_eq_true rfl) dX11_call_118 ⟨z0, z0⟩) hP hD hK hS hA (fun z145 u146 H locs w147 hP hD hK hS => ?_)
          obtain ⟨V149, L150⟩ := u146
          obtain ⟨hMV149, ajV149, axL150, t148⟩ := w147
          have axL150 : L = L150 := Eq.symm axL150
          subst axL150
          have hP : va_P D vwCl (xw ad kk V149 L Z139) H := hP
          have hD : va_D A (xw ad kk V149 L Z139) := hD
          have hMV149 : rgd bX V149 := hMV149
          have ajV149 : agr [(4, 7), (4, 8)] [] V143 V149 := ajV149
          have agV149 : agr [(0, 9), (3, 13), (3, 14), (3, 15), (4, 5), (4, 6), (4, 7), (4, 8), (4, 9), (5, 6), (5, 7), (5, 8), (5, 9), (5, 10), (5, 11), (5, 12), (5, 13), (5, 14)] [24, 25, 26, 27, 28, 29, 30, 31, 32, 33, 34, 35, 36, 37, 39, 40, 67, 68, 69, 70, 71, 72, 73, 74, 75, 76, 77, 78, 79, 80, 81, 82, 83, 84, 85] V V149 := agV143.tr ajV149 (by decide) (by decide)
          have t148 : ((V143 5 9).toInt = 2 ∧ (V149 4 7).toInt = (V143 5 11).toInt ∧ (V149 4 8).toInt = (V143 5 12).toInt) ∨ ((V143 5 9).toInt ≠ 2 ∧ (V149 4 7).toInt = (V143 4 7).toInt ∧ (V149 4 8).toInt = (V143 4 8).toInt) := t148
          have pq151 : (V143 4 8).toInt = ((V8 4 8)).toInt := congrArg Int32.toInt ((up2_k hV143 (by decide)).trans ((ajV137 4 8 rfl).trans ((ajV114 4 8 rfl).trans ((up2_k hV93 (by decide)).trans ((ajV23 4 8 rfl).trans (ajV13 4 8 rfl))))))
          have pq152 : (V143 4 7).toInt = ((V8 4 7)).toInt := congrArg Int32.toInt ((up2_k hV143 (by decide)).trans ((ajV137 4 7 rfl).trans ((ajV114 4 7 rfl).trans ((up2_k hV93 (by decide)).trans ((ajV23 4 7 rfl).trans (ajV13 4 7 rfl))))))
          have pq153 : (V143 5 12).toInt = ((V137 5 12)).toInt := congrArg Int32.toInt (up2_o hV143 (by decide))
          have pq154 : (V143 5 11).toInt = ((V137 5 11)).toInt := congrArg Int32.toInt (up2_o hV143 (by decide))
          have pq155 : (V143 5 9).toInt = ((V137 5 9)).toInt := congrArg Int32.toInt (up2_o hV143 (by decide))
          have r156 : 0 ≤ ((V137 5 9)).toInt ∧ ((V137 5 9)).toInt ≤ 3 := hMV137 5 9
          refine lv_aload_n hx hb dX11_call_121 rfl (lv_at hl 0 rfl) ?_
          refine va_get (D := D) (ci := 11) (v := .ref (ad 5)) (fs := (xfHouse ad V149 L Z139)) (C := RX11) (T := TX11) (N := 10) hx hb hg inX11 hown hK hP 0 xgHouse rfl 5 (by decide) (hg _ w720) (fun _ h9 => h9) rfl dX11_call_122 ?_
          refine lv_iconst (v := 0) hx hb dX11_call_125 (by decide) ?_
          refine gA_int (gA_runV (As := [.int 0]) (rest := [.int z145, .ref (ad 0)]) (ci := 5) (q0 := 5) hx hb hml hown hg hP hD hK hS hA hnw hgk (x_answerOr9 l D ks H.size ad kk V149 L Z139 0 hMV149 ) w1506 w1507 w1508 w171 w1509 rfl xgMachine hdV_yX5_answerOr ⟨Nat.le_of_ble_eq_true rfl, Nat.le_of_ble_eq_true rfl⟩ rfl hl.1 rfl (Nat.le_of_ble_eq_true rfl) dX11_call_126 ⟨z0, z0⟩) hP hD hK hS hA (fun z157 u158 H locs w159 hP hD hK hS => ?_)
          have t160 := w159
          have t160 : ((V149 5 9).toInt = 1 ∧ z157.toInt = (V149 5 10).toInt) ∨ ((V149 5 9).toInt ≠ 1 ∧ z157.toInt = (Int32.toInt 0)) := t160
          have pq161 : (V149 5 10).toInt = ((V137 5 10)).toInt := congrArg Int32.toInt ((ajV149 5 10 rfl).trans (up2_o hV143 (by decide)))
          have pq162 : (V149 5 9).toInt = ((V137 5 9)).toInt := congrArg Int32.toInt ((ajV149 5 9 rfl).trans (up2_o hV143 (by decide)))
          refine gA_int (gA_runV (As := [.int z145, .int z157]) (rest := []) (ci := 11) (q0 := 0) hx hb hml hown hg hP hD hK hS hA hnw hgk (x_ends9 l D ks H.size ad kk V149 L Z139 z145 z157 hMV149 ) w1171 w1173 w42 w156 w1174 rfl xgHouse hdV_yX11_ends ⟨Nat.le_of_ble_eq_true rfl, Nat.le_of_ble_eq_true rfl⟩ rfl hl.1 rfl (Nat.le_of_ble_eq_true rfl) dX11_call_129 ⟨z0, z0⟩) hP hD hK hS hA (fun z163 u164 H locs w165 hP hD hK hS => ?_)
          obtain ⟨V167, L168⟩ := u164
          obtain ⟨hMV167, ajV167, axL168, t166⟩ := w165
          have axL168 : L = L168 := Eq.symm axL168
          subst axL168
          have hP : va_P D vwCl (xw ad kk V167 L Z139) H := hP
          have hD : va_D A (xw ad kk V167 L Z139) := hD
          have hMV167 : rgd bX V167 := hMV167
          have ajV167 : agr [(0, 9)] [] V149 V167 := ajV167
          have agV167 : agr [(0, 9), (3, 13), (3, 14), (3, 15), (4, 5), (4, 6), (4, 7), (4, 8), (4, 9), (5, 6), (5, 7), (5, 8), (5, 9), (5, 10), (5, 11), (5, 12), (5, 13), (5, 14)] [24, 25, 26, 27, 28, 29, 30, 31, 32, 33, 34, 35, 36, 37, 39, 40, 67, 68, 69, 70, 71, 72, 73, 74, 75, 76, 77, 78, 79, 80, 81, 82, 83, 84, 85] V V167 := agV149.tr ajV167 (by decide) (by decide)
          have t166 : z163.toInt = z157.toInt := t166
          have hi169 : HI V167 Z139 b := (HI.ag (HI.ag (HI.ag (MJ.hi t141) (agr.up (fs := [(4, 9)]) (cs := []) agr.rf hV143 rfl) (by decide)) ajV149 (by decide)) ajV167 (by decide))
          have pq171 : (V167 4 7).toInt = ((V149 4 7)).toInt := congrArg Int32.toInt (ajV167 4 7 rfl)
          have pq172 : (V167 4 8).toInt = ((V149 4 8)).toInt := congrArg Int32.toInt (ajV167 4 8 rfl)
          have ge170 : ∃ n, (rnM gB n (mU gm 0 1 0, 0, [Fcall0 1 p1.toInt (gm 1 p1.toInt.toNat) p0.toInt p2.toInt p3])).2.2 = [] ∧ (∃ ow, RWn V167 ow gB (rnM gB n (mU gm 0 1 0, 0, [Fcall0 1 p1.toInt (gm 1 p1.toInt.toNat) p0.toInt p2.toInt p3])).1) ∧ ENc V167 (rnM gB n (mU gm 0 1 0, 0, [Fcall0 1 p1.toInt (gm 1 p1.toInt.toNat) p0.toInt p2.toInt p3])) (z163.toInt) (0) := by
            obtain ⟨n9, ed9, rw9⟩ := t142
            obtain ⟨ow9, rn9⟩ := rw9.1
            have hh9 := t148
            have ha9 := t160
            refine ⟨n9, ed9, ⟨ow9, RWn.es rn9 (ESw.ag (show agr [(0, 9), (4, 7), (4, 8), (4, 9)] [] V137 V167 from (agr.tr (agr.tr (agr.up agr.rf hV143 rfl) ajV149 (by decide) (by decide)) ajV167 (by decide) (by decide))) (by decide))⟩, ENc.of rw9.2.1 ?_ ?_⟩
            · rcases hh9 with ⟨h1, h2, h3⟩ | ⟨h1, h2, h3⟩
              · exact Or.inl ⟨by omega, by omega, by omega⟩
              · exact Or.inr ⟨by omega, by omega, by omega⟩
            · rcases ha9 with ⟨h1, h2⟩ | ⟨h1, h2⟩
              · exact Or.inl ⟨by omega, by omega⟩
              · exact Or.inr ⟨by omega, by omega⟩
          have cd173 : (0 ≤ p0.toInt ∧ p0.toInt < (V 3 12).toInt ∧ (V 23 (Int32.toNatClampNeg p0)).toInt = 1) ∧ (0 ≤ p1.toInt ∧ p1.toInt < (V 3 13).toInt ∧ (V 28 (Int32.toNatClampNeg p1)).toInt = 1) ∧ 0 ≤ p2.toInt ∧ p2.toInt < (V 43 (5 * b + 3)).toInt := ⟨⟨by omega, by omega, by omega⟩, ⟨by omega, by omega, by omega⟩, by omega, by omega⟩
          refine W.know (fun kr1 kr2 => ?_)
          refine W.widen (k := zcc Z) (n := zss Z) (Nat.sub_le _ _) (Nat.sub_le _ _) ?_
          exact W.iret (v := z163) hx hb hr (fun t ht hW => ⟨⟨z163, (V167, L, Z139), rfl, ⟨hMV167, agV167, rfl, zoZ139, hi169, (fun _ => ge170), (fun h9 => absurd cd173 h9)⟩, ⟨by rw [ht]; exact hP, va_K.moved hW.alike hK, hD⟩, by rw [ht]; exact kr1, by rw [ht]; exact kr2⟩, hS.F ht⟩) hS.2.2 dX11_call_132
        · skip
          have f174 : ((V 43 (5 * b + 3))).toInt ≤ p2.toInt := b_nlt rfl rfl c91
          refine lv_aload_n hx hb dX11_call_70 rfl (lv_at hl 0 rfl) ?_
          refine lv_iconst (v := 4) hx hb dX11_call_71 (by decide) ?_
          refine lv_iconst (v := 0) hx hb dX11_call_72 (by decide) ?_
          have r175 : Int32.toInt 4 = 4 := by decide
          refine gA_int (gA_runV (As := [.int 4, .int 0]) (rest := []) (ci := 11) (q0 := 0) hx hb hml hown hg hP hD hK hS hA hnw hgk (x_ends9 l D ks H.size ad kk V23 L Z 4 0 hMV23 ) w1171 w1173 w42 w156 w1174 rfl xgHouse hdV_yX11_ends ⟨Nat.le_of_ble_eq_true rfl, Nat.le_of_ble_eq_true rfl⟩ rfl hl.1 rfl (Nat.le_of_ble_eq_true rfl) dX11_call_73 ⟨z0, z0⟩) hP hD hK hS hA (fun z176 u177 H locs w178 hP hD hK hS => ?_)
          obtain ⟨V180, L181⟩ := u177
          obtain ⟨hMV180, ajV180, axL181, t179⟩ := w178
          have axL181 : L = L181 := Eq.symm axL181
          subst axL181
          have hP : va_P D vwCl (xw ad kk V180 L Z) H := hP
          have hD : va_D A (xw ad kk V180 L Z) := hD
          have hMV180 : rgd bX V180 := hMV180
          have ajV180 : agr [(0, 9)] [] V23 V180 := ajV180
          have agV180 : agr [(0, 9), (3, 13), (3, 14), (3, 15), (4, 5), (4, 6), (4, 7), (4, 8), (4, 9), (5, 6), (5, 7), (5, 8), (5, 9), (5, 10), (5, 11), (5, 12), (5, 13), (5, 14)] [24, 25, 26, 27, 28, 29, 30, 31, 32, 33, 34, 35, 36, 37, 39, 40, 67, 68, 69, 70, 71, 72, 73, 74, 75, 76, 77, 78, 79, 80, 81, 82, 83, 84, 85] V V180 := agV23.tr ajV180 (by decide) (by decide)
          have t179 : z176.toInt = (Int32.toInt 0) := t179
          have hi182 : HI V180 Z b := (HI.ag (HI.ag (HI.ag (HI.ag hi ajV8 (by decide)) ajV13 (by decide)) ajV23 (by decide)) ajV180 (by decide))
          have pq183 : (V23 23 (Int32.toNatClampNeg p0)).toInt = ((V 23 (Int32.toNatClampNeg p0))).toInt := congrArg Int32.toInt ((ajV23 23 (Int32.toNatClampNeg p0) rfl).trans ((ajV13 23 (Int32.toNatClampNeg p0) rfl).trans (ajV8 23 (Int32.toNatClampNeg p0) rfl)))
          have r184 : 0 ≤ ((V 23 (Int32.toNatClampNeg p0))).toInt ∧ ((V 23 (Int32.toNatClampNeg p0))).toInt ≤ 1 := hMV 23 (Int32.toNatClampNeg p0)
          have pq185 : (V23 28 (Int32.toNatClampNeg p1)).toInt = ((V 28 (Int32.toNatClampNeg p1))).toInt := congrArg Int32.toInt ((ajV23 28 (Int32.toNatClampNeg p1) rfl).trans ((ajV13 28 (Int32.toNatClampNeg p1) rfl).trans (ajV8 28 (Int32.toNatClampNeg p1) rfl)))
          have pq186 : (V23 43 (5 * b + 3)).toInt = ((V 43 (5 * b + 3))).toInt := congrArg Int32.toInt ((ajV23 43 (5 * b + 3) rfl).trans ((ajV13 43 (5 * b + 3) rfl).trans (ajV8 43 (5 * b + 3) rfl)))
          have rn187 : ∃ ow, RWn V180 ow gB (mU gm 0 1 0) := by obtain ⟨ow, h9⟩ := rn0; exact ⟨ow, RWn.es h9 (ESw.ag (show agr [(0, 9)] [] V23 V180 from (agr.tr agr.rf ajV180 (by decide) (by decide))) (by decide))⟩
          have pq188 : (V180 4 7).toInt = ((V8 4 7)).toInt := congrArg Int32.toInt ((ajV180 4 7 rfl).trans ((ajV23 4 7 rfl).trans (ajV13 4 7 rfl)))
          have pq189 : (V180 4 8).toInt = ((V8 4 8)).toInt := congrArg Int32.toInt ((ajV180 4 8 rfl).trans ((ajV23 4 8 rfl).trans (ajV13 4 8 rfl)))
          refine W.know (fun kr1 kr2 => ?_)
          refine W.widen (k := zcc Z) (n := zss Z) (Nat.sub_le _ _) (Nat.sub_le _ _) ?_
          exact W.iret (v := z176) hx hb hr (fun t ht hW => ⟨⟨z176, (V180, L, Z), rfl, ⟨hMV180, agV180, rfl, zoZ, hi182, (fun h9 => by have h2 := h9.1.1; have h3 := h9.1.2.1; have h4 := h9.1.2.2; have h5 := h9.2.1.1; have h6 := h9.2.1.2.1; have h7 := h9.2.1.2.2; have h8 := h9.2.2.1; have h10 := h9.2.2.2; exfalso; omega), (fun _ => ⟨by omega, rn187, (show (V180 4 7).toInt = 0 from by (first | exact om_d2e622dc9730 r2 t6 pq188 | omega)), (show (V180 4 8).toInt = 0 from by (first | exact om_d2e622dc9730 r2 t7 pq189 | omega))⟩)⟩, ⟨by rw [ht]; exact hP, va_K.moved hW.alike hK, hD⟩, by rw [ht]; exact kr1, by rw [ht]; exact kr2⟩, hS.F ht⟩) hS.2.2 dX11_call_76
  · skip
    have f190 : z30.toInt = 0 := b_eq rfl (by decide) c37
    refine lv_aload_n hx hb dX11_call_34 rfl (lv_at hl 0 rfl) ?_
    refine lv_iconst (v := 3) hx hb dX11_call_35 (by decide) ?_
    refine lv_iconst (v := 0) hx hb dX11_call_36 (by decide) ?_
    have r191 : Int32.toInt 3 = 3 := by decide
    refine gA_int (gA_runV (As := [.int 3, .int 0]) (rest := []) (ci := 11) (q0 := 0) hx hb hml hown hg hP hD hK hS hA hnw hgk (x_ends9 l D ks H.size ad kk V23 L Z 3 0 hMV23 ) w1171 w1173 w42 w156 w1174 rfl xgHouse hdV_yX11_ends ⟨Nat.le_of_ble_eq_true rfl, Nat.le_of_ble_eq_true rfl⟩ rfl hl.1 rfl (Nat.le_of_ble_eq_true rfl) dX11_call_37 ⟨z0, z0⟩) hP hD hK hS hA (fun z192 u193 H locs w194 hP hD hK hS => ?_)
    obtain ⟨V196, L197⟩ := u193
    obtain ⟨hMV196, ajV196, axL197, t195⟩ := w194
    have axL197 : L = L197 := Eq.symm axL197
    subst axL197
    have hP : va_P D vwCl (xw ad kk V196 L Z) H := hP
    have hD : va_D A (xw ad kk V196 L Z) := hD
    have hMV196 : rgd bX V196 := hMV196
    have ajV196 : agr [(0, 9)] [] V23 V196 := ajV196
    have agV196 : agr [(0, 9), (3, 13), (3, 14), (3, 15), (4, 5), (4, 6), (4, 7), (4, 8), (4, 9), (5, 6), (5, 7), (5, 8), (5, 9), (5, 10), (5, 11), (5, 12), (5, 13), (5, 14)] [24, 25, 26, 27, 28, 29, 30, 31, 32, 33, 34, 35, 36, 37, 39, 40, 67, 68, 69, 70, 71, 72, 73, 74, 75, 76, 77, 78, 79, 80, 81, 82, 83, 84, 85] V V196 := agV23.tr ajV196 (by decide) (by decide)
    have t195 : z192.toInt = (Int32.toInt 0) := t195
    have hi198 : HI V196 Z b := (HI.ag (HI.ag (HI.ag (HI.ag hi ajV8 (by decide)) ajV13 (by decide)) ajV23 (by decide)) ajV196 (by decide))
    have pq199 : (V23 23 (Int32.toNatClampNeg p0)).toInt = ((V 23 (Int32.toNatClampNeg p0))).toInt := congrArg Int32.toInt ((ajV23 23 (Int32.toNatClampNeg p0) rfl).trans ((ajV13 23 (Int32.toNatClampNeg p0) rfl).trans (ajV8 23 (Int32.toNatClampNeg p0) rfl)))
    have r200 : 0 ≤ ((V 23 (Int32.toNatClampNeg p0))).toInt ∧ ((V 23 (Int32.toNatClampNeg p0))).toInt ≤ 1 := hMV 23 (Int32.toNatClampNeg p0)
    have rn201 : ∃ ow, RWn V196 ow gB (mU gm 0 1 0) := by obtain ⟨ow, h9⟩ := rn0; exact ⟨ow, RWn.es h9 (ESw.ag (show agr [(0, 9)] [] V23 V196 from (agr.tr agr.rf ajV196 (by decide) (by decide))) (by decide))⟩
    have pq202 : (V196 4 7).toInt = ((V8 4 7)).toInt := congrArg Int32.toInt ((ajV196 4 7 rfl).trans ((ajV23 4 7 rfl).trans (ajV13 4 7 rfl)))
    have pq203 : (V196 4 8).toInt = ((V8 4 8)).toInt := congrArg Int32.toInt ((ajV196 4 8 rfl).trans ((ajV23 4 8 rfl).trans (ajV13 4 8 rfl)))
    refine W.know (fun kr1 kr2 => ?_)
    refine W.widen (k := zcc Z) (n := zss Z) (Nat.sub_le _ _) (Nat.sub_le _ _) ?_
    exact W.iret (v := z192) hx hb hr (fun t ht hW => ⟨⟨z192, (V196, L, Z), rfl, ⟨hMV196, agV196, rfl, zoZ, hi198, (fun h9 => by have h2 := h9.1.1; have h3 := h9.1.2.1; have h4 := h9.1.2.2; have h5 := h9.2.1.1; have h6 := h9.2.1.2.1; have h7 := h9.2.1.2.2; have h8 := h9.2.2.1; have h10 := h9.2.2.2; exfalso; omega), (fun _ => ⟨by omega, rn201, (show (V196 4 7).toInt = 0 from by (first | exact om_d2e622dc9730 r2 t6 pq202 | omega)), (show (V196 4 8).toInt = 0 from by (first | exact om_d2e622dc9730 r2 t7 pq203 | omega))⟩)⟩, ⟨by rw [ht]; exact hP, va_K.moved hW.alike hK, hD⟩, by rw [ht]; exact kr1, by rw [ht]; exact kr2⟩, hS.F ht⟩) hS.2.2 dX11_call_40
