/-! the two sides, call by call -/
section KM2
variable {V W Vm Wm : Vf} {b : Nat} {s : St} {fs fs2 : List (Nat × Nat)} {cs cs2 : List Nat} {p0 p1 p2 p3 : Int32} {r rm : Int}
theorem KMB.op (h : KMB V b Vm s) : (0 ≤ p0.toInt ∧ p0.toInt < (V 3 12).toInt ∧ (V 23 (Int32.toNatClampNeg p0)).toInt = 1) ↔ (0 ≤ p0.toInt ∧ p0.toInt < (Vm 0 55).toInt ∧ (Vm 56 (Int32.toNatClampNeg p0)).toInt = 1) := by
  obtain ⟨_, _, _, ⟨ow, rn⟩, _, ⟨h6, _⟩, _, _⟩ := h
  have f : 0 ≤ p0.toInt → p0.toInt < (V 3 12).toInt → (V 23 (Int32.toNatClampNeg p0)).toInt = (Vm 56 (Int32.toNatClampNeg p0)).toInt := fun a1 a2 => by
    have k := i_clamp (x := p0) rfl a1
    exact (rn.2.2.2.1.2.2 (Int32.toNatClampNeg p0) (by omega)).1
  constructor
  · intro z
    exact ⟨z.1, by rw [← h6]; exact z.2.1, (f z.1 z.2.1).symm.trans z.2.2⟩
  · intro z
    have z2 : p0.toInt < (V 3 12).toInt := by rw [h6]; exact z.2.1
    exact ⟨z.1, z2, (f z.1 z2).trans z.2.2⟩
theorem KMB.there (h : KMB V b Vm s) : (0 ≤ p1.toInt ∧ p1.toInt < ((nC (s, vS V b) : Nat) : Int) ∧ thP s.1 (svB (s, vS V b)) p1.toInt.toNat = true) ↔ (0 ≤ p1.toInt ∧ th Vm (Int32.toNatClampNeg p1)) := by
  obtain ⟨h1, _, h3, _, _, _, _, _⟩ := h
  have wh : WHs (s, vS V b).1 := h1.2.2.2.1
  have ln := h1.2.2.2.2.2.2.1
  constructor
  · intro z
    exact ⟨z.1, BKm.thR h3 wh ln (show p1.toInt.toNat < nC (s, vS V b) by have := z.1; have := z.2.1; omega) z.2.2⟩
  · intro z
    have y := BKm.thI h3 wh ln z.2
    have y1 : p1.toInt.toNat < nC (s, vS V b) := y.1
    exact ⟨z.1, by have := z.1; omega, y.2⟩
theorem KMB.get (h : KMB V b Vm s) (rd : (V 0 8).toInt = (Vm 0 54).toInt)
    (c1 : ((V 0 8).toInt = 1 ∧ (0 ≤ p0.toInt ∧ p0.toInt < (V 3 12).toInt ∧ (V 23 (Int32.toNatClampNeg p0)).toInt = 1) ∧ (0 ≤ p1.toInt ∧ p1.toInt < ((nC (s, vS V b) : Nat) : Int) ∧ thP s.1 (svB (s, vS V b)) p1.toInt.toNat = true)) → GOs (s, vS V b) (mU (mV Vm 0 0 0) 0 1 0, 0, [Froot0 0 p1.toInt p0.toInt 0]) → ∃ n, (rnM (s, vS V b) n (mU (mV Vm 0 0 0) 0 1 0, 0, [Froot0 0 p1.toInt p0.toInt 0])).2.2 = [] ∧ (∃ ow, RWn W ow (s, vS V b) (rnM (s, vS V b) n (mU (mV Vm 0 0 0) 0 1 0, 0, [Froot0 0 p1.toInt p0.toInt 0])).1) ∧ ENc W (rnM (s, vS V b) n (mU (mV Vm 0 0 0) 0 1 0, 0, [Froot0 0 p1.toInt p0.toInt 0])) r (-1))
    (c2 : ¬ ((V 0 8).toInt = 1 ∧ (0 ≤ p0.toInt ∧ p0.toInt < (V 3 12).toInt ∧ (V 23 (Int32.toNatClampNeg p0)).toInt = 1) ∧ (0 ≤ p1.toInt ∧ p1.toInt < ((nC (s, vS V b) : Nat) : Int) ∧ thP s.1 (svB (s, vS V b)) p1.toInt.toNat = true)) → r = -1 ∧ (∃ ow, RWn W ow (s, vS V b) (mU (mV Vm 0 0 0) 0 1 0)) ∧ (W 4 7).toInt = 0 ∧ (W 4 8).toInt = 0)
    (r1 : ((Vm 0 54).toInt = 1 ∧ (0 ≤ p0.toInt ∧ p0.toInt < (Vm 0 55).toInt ∧ (Vm 56 (Int32.toNatClampNeg p0)).toInt = 1) ∧ (0 ≤ p1.toInt ∧ th Vm (Int32.toNatClampNeg p1))) → GEo (s, vS V b) (mU (mV Vm 0 0 0) 0 1 0, 0, [Froot0 0 p1.toInt p0.toInt 0]) Wm rm (-1))
    (r2 : ¬ ((Vm 0 54).toInt = 1 ∧ (0 ≤ p0.toInt ∧ p0.toInt < (Vm 0 55).toInt ∧ (Vm 56 (Int32.toNatClampNeg p0)).toInt = 1) ∧ (0 ≤ p1.toInt ∧ th Vm (Int32.toNatClampNeg p1))) → rm = -1 ∧ mV Wm 0 0 0 = mU (mV Vm 0 0 0) 0 1 0 ∧ (Wm 0 71).toInt = 0 ∧ (Wm 0 72).toInt = 0)
    (rj : (Wm 0 54).toInt = 1 → RJm Wm (s, vS V b)) (a : agr fs cs V W) (q : kmC fs cs = true) (am : agr fs2 cs2 Vm Wm) (qm : kmD fs2 cs2 = true) : r = rm ∧ KMB W b Wm s := by
  have o := KMB.op (p0 := p0) h
  have t := KMB.there (p1 := p1) h
  rw [rd, o, t] at c1 c2
  by_cases c : (Vm 0 54).toInt = 1 ∧ (0 ≤ p0.toInt ∧ p0.toInt < (Vm 0 55).toInt ∧ (Vm 56 (Int32.toNatClampNeg p0)).toInt = 1) ∧ (0 ≤ p1.toInt ∧ th Vm (Int32.toNatClampNeg p1))
  · have ge := r1 c
    obtain ⟨n, ed, ⟨ow, rn⟩, en⟩ := c1 c ge.go
    obtain ⟨z1, z2, sg, t9, k9, em⟩ := EN_GE ed en ge
    rw [em] at rn
    exact ⟨z1, KMB.ran h a q am qm ⟨ow, rn.z0⟩ z2 rj⟩
  · obtain ⟨x1, x2, x3, x4⟩ := r2 c
    obtain ⟨y1, y2, y3, y4⟩ := c2 c
    exact ⟨by rw [x1, y1], KMB.ran h a q am qm (by rw [x2]; exact y2) ⟨by omega, by omega, by omega⟩ rj⟩
theorem KMB.call (h : KMB V b Vm s) (rd : 0 < (Vm 0 60).toInt → (Vm 0 54).toInt = 1) (mt : (V 43 (5 * b + 3)).toInt = (Vm 35 (nwh Vm)).toInt)
    (c1 : ((0 ≤ p0.toInt ∧ p0.toInt < (V 3 12).toInt ∧ (V 23 (Int32.toNatClampNeg p0)).toInt = 1) ∧ (0 ≤ p1.toInt ∧ p1.toInt < (V 3 13).toInt ∧ (V 28 (Int32.toNatClampNeg p1)).toInt = 1) ∧ 0 ≤ p2.toInt ∧ p2.toInt < (V 43 (5 * b + 3)).toInt) → GOs (s, vS V b) (mU (mV Vm 0 0 0) 0 1 0, 0, [Fcall0 1 p1.toInt (mV Vm 0 0 0 1 p1.toInt.toNat) p0.toInt p2.toInt p3]) → ∃ n, (rnM (s, vS V b) n (mU (mV Vm 0 0 0) 0 1 0, 0, [Fcall0 1 p1.toInt (mV Vm 0 0 0 1 p1.toInt.toNat) p0.toInt p2.toInt p3])).2.2 = [] ∧ (∃ ow, RWn W ow (s, vS V b) (rnM (s, vS V b) n (mU (mV Vm 0 0 0) 0 1 0, 0, [Fcall0 1 p1.toInt (mV Vm 0 0 0 1 p1.toInt.toNat) p0.toInt p2.toInt p3])).1) ∧ ENc W (rnM (s, vS V b) n (mU (mV Vm 0 0 0) 0 1 0, 0, [Fcall0 1 p1.toInt (mV Vm 0 0 0 1 p1.toInt.toNat) p0.toInt p2.toInt p3])) r 0)
    (c2 : ¬ ((0 ≤ p0.toInt ∧ p0.toInt < (V 3 12).toInt ∧ (V 23 (Int32.toNatClampNeg p0)).toInt = 1) ∧ (0 ≤ p1.toInt ∧ p1.toInt < (V 3 13).toInt ∧ (V 28 (Int32.toNatClampNeg p1)).toInt = 1) ∧ 0 ≤ p2.toInt ∧ p2.toInt < (V 43 (5 * b + 3)).toInt) → r = 0 ∧ (∃ ow, RWn W ow (s, vS V b) (mU (mV Vm 0 0 0) 0 1 0)) ∧ (W 4 7).toInt = 0 ∧ (W 4 8).toInt = 0)
    (r1 : ((Vm 0 54).toInt = 1 ∧ (0 ≤ p0.toInt ∧ p0.toInt < (Vm 0 55).toInt ∧ (Vm 56 (Int32.toNatClampNeg p0)).toInt = 1) ∧ ((0 ≤ p1.toInt ∧ p1.toInt < (Vm 0 60).toInt ∧ (Vm 63 (Int32.toNatClampNeg p1)).toInt = 1) ∧ 0 ≤ p2.toInt ∧ p2.toInt < (Vm 35 (nwh Vm)).toInt)) → GEo (s, vS V b) (mU (mV Vm 0 0 0) 0 1 0, 0, [Fcall0 1 p1.toInt (Vm 61 (Int32.toNatClampNeg p1)).toInt p0.toInt p2.toInt p3]) Wm rm 0)
    (r2 : ¬ ((Vm 0 54).toInt = 1 ∧ (0 ≤ p0.toInt ∧ p0.toInt < (Vm 0 55).toInt ∧ (Vm 56 (Int32.toNatClampNeg p0)).toInt = 1) ∧ ((0 ≤ p1.toInt ∧ p1.toInt < (Vm 0 60).toInt ∧ (Vm 63 (Int32.toNatClampNeg p1)).toInt = 1) ∧ 0 ≤ p2.toInt ∧ p2.toInt < (Vm 35 (nwh Vm)).toInt)) → rm = 0 ∧ mV Wm 0 0 0 = mU (mV Vm 0 0 0) 0 1 0 ∧ (Wm 0 71).toInt = 0 ∧ (Wm 0 72).toInt = 0)
    (rj : (Wm 0 54).toInt = 1 → RJm Wm (s, vS V b)) (a : agr fs cs V W) (q : kmC fs cs = true) (am : agr fs2 cs2 Vm Wm) (qm : kmD fs2 cs2 = true) : r = rm ∧ KMB W b Wm s := by
  have o := KMB.op (p0 := p0) h
  obtain ⟨ow0, rn0⟩ := h.2.2.2.1
  have e13 : (V 3 13).toInt = (Vm 0 60).toInt := rn0.1.1.2.2.1
  have md : 0 ≤ p1.toInt → p1.toInt < (V 3 13).toInt → (V 28 (Int32.toNatClampNeg p1)).toInt = (Vm 63 (Int32.toNatClampNeg p1)).toInt := fun a1 a2 => by
    have k := i_clamp (x := p1) rfl a1
    exact (rn0.2.1 (Int32.toNatClampNeg p1) (show ((Int32.toNatClampNeg p1 : Nat) : Int) < (Vm 0 60).toInt by omega)).1.2.2
  by_cases c : (Vm 0 54).toInt = 1 ∧ (0 ≤ p0.toInt ∧ p0.toInt < (Vm 0 55).toInt ∧ (Vm 56 (Int32.toNatClampNeg p0)).toInt = 1) ∧ ((0 ≤ p1.toInt ∧ p1.toInt < (Vm 0 60).toInt ∧ (Vm 63 (Int32.toNatClampNeg p1)).toInt = 1) ∧ 0 ≤ p2.toInt ∧ p2.toInt < (Vm 35 (nwh Vm)).toInt)
  · have ge := r1 c
    have cc : (0 ≤ p0.toInt ∧ p0.toInt < (V 3 12).toInt ∧ (V 23 (Int32.toNatClampNeg p0)).toInt = 1) ∧ (0 ≤ p1.toInt ∧ p1.toInt < (V 3 13).toInt ∧ (V 28 (Int32.toNatClampNeg p1)).toInt = 1) ∧ 0 ≤ p2.toInt ∧ p2.toInt < (V 43 (5 * b + 3)).toInt := ⟨o.mpr c.2.1, ⟨c.2.2.1.1, by rw [e13]; exact c.2.2.1.2.1, (md c.2.2.1.1 (by rw [e13]; exact c.2.2.1.2.1)).trans c.2.2.1.2.2⟩, c.2.2.2.1, by rw [mt]; exact c.2.2.2.2⟩
    obtain ⟨n, ed, ⟨ow, rn⟩, en⟩ := c1 cc ge.go
    obtain ⟨z1, z2, sg, t9, k9, em⟩ := EN_GE ed en ge
    rw [em] at rn
    exact ⟨z1, KMB.ran h a q am qm ⟨ow, rn.z0⟩ z2 rj⟩
  · obtain ⟨x1, x2, x3, x4⟩ := r2 c
    obtain ⟨y1, y2, y3, y4⟩ := c2 (fun cc => c ⟨rd (by have := cc.2.1.1; have := cc.2.1.2.1; omega), o.mp cc.1, ⟨cc.2.1.1, by rw [← e13]; exact cc.2.1.2.1, (md cc.2.1.1 cc.2.1.2.1).symm.trans cc.2.1.2.2⟩, cc.2.2.1, by rw [← mt]; exact cc.2.2.2⟩)
    exact ⟨by rw [x1, y1], KMB.ran h a q am qm (by rw [x2]; exact y2) ⟨by omega, by omega, by omega⟩ rj⟩
theorem ym_1 {x : Nat} (w : (Wm 56 0).toInt = 1) : mU (ymW Wm x) 11 0 1 = mV Wm 0 0 0 := by
  funext c j
  by_cases e : c = 11 ∧ j = 0
  · rw [e.1, e.2, mU_s]
    exact w.symm
  · rw [mU_o _ _ e]
    unfold ymW
    split
    · rw [mU_o _ _ e]
    · rfl
theorem KMB.close (h : KMB V b Vm s)
    (c1 : (0 ≤ p0.toInt ∧ p0.toInt < (V 3 12).toInt ∧ (V 23 (Int32.toNatClampNeg p0)).toInt = 1) → ∀ (gj : Nat) (gy : CS), CLs (s, vS V b) (V 3 12).toInt.toNat p0.toInt gj (mU (mV Vm 0 0 0) 0 1 0, 0, 0) gy → gj ≤ 340 → gy.1 11 p0.toInt.toNat = 0 → (∃ ow, RWn W ow (s, vS V b) (mU gy.1 11 0 1)) ∧ ((gy.2.1 = 0 ∧ r = gy.2.2) ∨ (gy.2.1 ≠ 0 ∧ r = -1)))
    (c2 : ¬ (0 ≤ p0.toInt ∧ p0.toInt < (V 3 12).toInt ∧ (V 23 (Int32.toNatClampNeg p0)).toInt = 1) → r = -1 ∧ (∃ ow, RWn W ow (s, vS V b) (mU (mV Vm 0 0 0) 0 1 0)))
    (c3 : (W 4 7).toInt = (V 4 7).toInt ∧ (W 4 8).toInt = (V 4 8).toInt)
    (r1 : (0 ≤ p0.toInt ∧ p0.toInt < (Vm 0 55).toInt ∧ (Vm 56 (Int32.toNatClampNeg p0)).toInt = 1) → ∃ n, CLo (s, vS V b) (Vm 0 55).toInt.toNat p0.toInt (mU (mV Vm 0 0 0) 0 1 0) Wm (Wm 0 99).toInt n ∧ (((Wm 0 99).toInt = 0 ∧ rm = n) ∨ ((Wm 0 99).toInt ≠ 0 ∧ rm = -1)))
    (r2 : ¬ (0 ≤ p0.toInt ∧ p0.toInt < (Vm 0 55).toInt ∧ (Vm 56 (Int32.toNatClampNeg p0)).toInt = 1) → rm = -1 ∧ mV Wm 0 0 0 = mU (mV Vm 0 0 0) 0 1 0)
    (r3 : (Wm 0 71).toInt = (Vm 0 71).toInt ∧ (Wm 0 72).toInt = (Vm 0 72).toInt) (r4 : SCm (mV Wm 0 0 0) (Wm 0 55).toInt.toNat) (rj : (Wm 0 54).toInt = 1 → RJm Wm (s, vS V b)) (a : agr fs cs V W) (q : kmC fs cs = true) (am : agr fs2 cs2 Vm Wm) (qm : bkQ fs2 cs2 = true) (e55 : Wm 0 55 = Vm 0 55) : r = rm ∧ KMB W b Wm s := by
  have o := KMB.op (p0 := p0) h
  obtain ⟨h1, h2, h3, h4, h5, ⟨h6, h7⟩, ⟨h8, h9, h10⟩, h11⟩ := h
  have e : ∀ c k, 41 ≤ c → c ≤ 66 → c ≠ 44 → W c k = V c k := fun c k a1 a2 a3 => a c k (kmC_k q (by omega))
  have ev : vS W b = vS V b := funext fun i => e 46 _ (by decide) (by decide) (by decide)
  have fin : (∃ ow, RWn W ow (s, vS V b) (mV Wm 0 0 0)) → KMB W b Wm s := fun rn => ⟨h1, h2.mv e, by rw [ev]; exact BKm.ag h3 am qm, by rw [ev]; exact rn, r4, ⟨by rw [a 3 12 (kmC_k q (by omega)), e55]; exact h6, h7.mv (a 3 12 (kmC_k q (by omega))) (fun i => a 21 i (kmC_k q (by omega))) (fun i => a 22 i (kmC_k q (by omega)))⟩, ⟨by rw [c3.1, r3.1]; exact h8, by rw [c3.2, r3.2]; exact h9, by rw [r3.1]; exact h10⟩, by rw [ev]; exact rj⟩
  by_cases c : 0 ≤ p0.toInt ∧ p0.toInt < (Vm 0 55).toInt ∧ (Vm 56 (Int32.toNatClampNeg p0)).toInt = 1
  · obtain ⟨n, ⟨k9, l1, l2, l3⟩, l4⟩ := r1 c
    have z := c1 (o.mpr c) k9 (ymW Wm p0.toInt.toNat, (Wm 0 99).toInt, n) (by rw [h6]; exact l2) l1 l3
    obtain ⟨⟨ow, rn⟩, z2⟩ := z
    have rn : RWn W ow (s, vS V b) (mU (ymW Wm p0.toInt.toNat) 11 0 1) := rn
    rw [ym_1 r4.2.1] at rn
    have z2 : ((Wm 0 99).toInt = 0 ∧ r = n) ∨ ((Wm 0 99).toInt ≠ 0 ∧ r = -1) := z2
    exact ⟨by omega, fin ⟨ow, rn⟩⟩
  · obtain ⟨x1, x2⟩ := r2 c
    obtain ⟨y1, y2⟩ := c2 (fun z => c (o.mp z))
    exact ⟨by rw [x1, y1], fin (by rw [x2]; exact y2)⟩
end KM2
/-! scopes, settings, a check, a new BOOK: the two sides -/
section KM3
variable {V W Vm Wm : Vf} {b : Nat} {s : St} {fs fs2 : List (Nat × Nat)} {cs cs2 : List Nat} {p0 : Int32} {r rm : Int}
theorem RJm.z {B : Bk} (h0 : (Vm 0 60).toInt = 0) (f : (Vm 0 95).toInt = 0) : RJm Vm B := ⟨fun o _ ho => absurd ho (by omega), fun o _ _ ho => absurd ho (by omega), fun o ho => absurd ho (by omega), fun i hi => absurd hi (by omega)⟩
/-- a check: as KMB.mv, but who is READY may have changed -/
def kmS (fs : List (Nat × Nat)) (cs : List Nat) : Bool := bkQ fs cs && mvQ fs cs && fs.all (fun y => !(([(0, 55), (0, 71), (0, 72)] : List (Nat × Nat)).contains y)) && cs.all (fun c => c != 0)
theorem kmS_k (q : kmS fs cs = true) : bkQ fs cs = true ∧ mvQ fs cs = true ∧ ∀ k, ([(0, 55), (0, 71), (0, 72)] : List (Nat × Nat)).contains (0, k) = true → wrL fs cs 0 k = false := by
  unfold kmS at q
  rw [Bool.and_eq_true, Bool.and_eq_true, Bool.and_eq_true, List.all_eq_true, List.all_eq_true] at q
  refine ⟨q.1.1.1, q.1.1.2, fun k hk => ?_⟩
  unfold wrL
  rw [Bool.or_eq_false_iff]
  refine ⟨?_, ?_⟩
  · rw [← Bool.not_eq_true]
    intro z
    have y := q.1.2 _ (List.contains_iff_mem.mp z)
    rw [hk] at y
    exact absurd y (by decide)
  · rw [← Bool.not_eq_true]
    intro z
    exact absurd (q.2 _ (List.contains_iff_mem.mp z)) (by decide)
theorem KMB.chk (h : KMB V b Vm s) (a : agr fs cs V W) (q : kmQ fs cs = true) (am : agr fs2 cs2 Vm Wm) (qm : kmS fs2 cs2 = true) (rj : (Wm 0 54).toInt = 1 → RJm Wm (s, vS V b)) : KMB W b Wm s := by
  obtain ⟨h1, h2, h3, ⟨ow, h4⟩, h5, ⟨h6, h7⟩, ⟨h8, h9, h10⟩, _⟩ := h
  obtain ⟨m1, m2, m4⟩ := kmS_k qm
  have e : ∀ c k, 41 ≤ c → c ≤ 66 → c ≠ 44 → W c k = V c k := fun c k a1 a2 a3 => kmQ.be a q a1 a2 a3
  have ev : vS W b = vS V b := funext fun i => e 46 _ (by decide) (by decide) (by decide)
  have em : mV Wm 0 0 0 = mV Vm 0 0 0 := mV_ag am m2
  have e55 : Wm 0 55 = Vm 0 55 := am 0 55 (m4 55 rfl)
  have eT : Wm 0 71 = Vm 0 71 := am 0 71 (m4 71 rfl)
  have eK : Wm 0 72 = Vm 0 72 := am 0 72 (m4 72 rfl)
  have c3 : ∀ k, W 3 k = V 3 k := fun k => a 3 k (kmQ_k q (by omega))
  refine ⟨h1, h2.mv e, ?_, ⟨ow, ?_⟩, by rw [em, e55]; exact h5, ⟨by rw [c3, e55]; exact h6, h7.mv (c3 12) (fun i => a 21 i (kmQ_k q (by omega))) (fun i => a 22 i (kmQ_k q (by omega)))⟩, ⟨by rw [a 4 7 (kmQ_k q (by omega)), eT]; exact h8, by rw [a 4 8 (kmQ_k q (by omega)), eK]; exact h9, by rw [eT]; exact h10⟩, fun z => ?_⟩
  · rw [ev]
    exact BKm.ag h3 am m1
  · rw [ev, em]
    exact h4.mv (fun _ _ => rfl) (fun _ _ _ _ => rfl) c3 (a 4 6 (kmQ_k q (by omega))) (a 5 13 (kmQ_k q (by omega))) (a 5 14 (kmQ_k q (by omega))) (fun c k a1 a2 a3 => a c k (kmQ_k q (by omega)))
  · rw [ev]
    exact rj z
/-- a scope is opened on both sides -/
theorem KMB.opn {kd dy dy2 : Int} (h : KMB V b Vm s) (c : OPN V W kd dy) (m : OPM Vm Wm kd dy2) (k1 : kd = 2 → dy = dy2 ∧ 0 ≤ dy ∧ dy < (V 3 12).toInt) (k2 : kd = 1 ∨ (kd = 2 ∧ 0 < dy2 ∧ dy2 < (Vm 0 55).toInt ∧ (Vm 57 dy2.toNat).toInt = 1)) (k3 : (kd = 1 ∧ dy = 0) ∨ kd = 2) (am : agr fs2 cs2 Vm Wm) (q1 : mvO fs2 cs2 = true) (q2 : bkQ fs2 cs2 = true) (q3 : rjQ fs2 cs2 = true) (e54 : Wm 0 54 = Vm 0 54) (eT : Wm 0 71 = Vm 0 71) (eK : Wm 0 72 = Vm 0 72) : KMB W b Wm s := by
  obtain ⟨h1, h2, h3, ⟨ow, h4⟩, h5, ⟨h6, h7⟩, ⟨h8, h9, h10⟩, h11⟩ := h
  have n1 : 1 ≤ (V 3 12).toInt := h4.2.2.2.1.1.1.1
  have cc : ∀ x k, ¬ (x = 3 ∧ k = 12) → x ≠ 21 → x ≠ 22 → x ≠ 23 → W x k = V x k := by
    obtain ⟨n, _, _, _, _, _, c8⟩ := c
    exact c8
  have e : ∀ x k, 41 ≤ x → x ≤ 66 → x ≠ 44 → W x k = V x k := fun x k a1 a2 a3 => cc x k (by omega) (by omega) (by omega) (by omega)
  have ev : vS W b = vS V b := funext fun i => e 46 _ (by decide) (by decide) (by decide)
  have e12 : (W 3 12).toInt = (Wm 0 55).toInt := by
    obtain ⟨n, c1, _, c3, _⟩ := c
    obtain ⟨n2, r1, _, r3, _⟩ := m
    omega
  refine ⟨h1, h2.mv e, by rw [ev]; exact BKm.ag h3 am q2, ⟨ow, by rw [ev]; exact h4.opn h1.2.2.2.2.2.2.2 c m h6 k1 am q1⟩, h5.opn m (by omega) k2, ⟨e12, h7.opn c k3⟩, ⟨by rw [cc 4 7 (by omega) (by omega) (by omega) (by omega), eT]; exact h8, by rw [cc 4 8 (by omega) (by omega) (by omega) (by omega), eK]; exact h9, by rw [eT]; exact h10⟩, fun z => ?_⟩
  rw [e54] at z
  rw [ev]
  exact RJm.ag (h11 z) am q3
theorem KMB.day (h : KMB V b Vm s) (rd : (V 0 8).toInt = (Vm 0 54).toInt) (c1 : ((V 0 8).toInt = 1 ∧ (V 3 12).toInt < 40) → r = (V 3 12).toInt ∧ OPN V W 1 0) (c2 : ¬ ((V 0 8).toInt = 1 ∧ (V 3 12).toInt < 40) → r = -1 ∧ agr [] [] V W) (r1 : ((Vm 0 54).toInt = 1 ∧ (Vm 0 55).toInt < 40) → rm = (Vm 0 55).toInt ∧ OPM Vm Wm 1 (-1)) (r2 : ¬ ((Vm 0 54).toInt = 1 ∧ (Vm 0 55).toInt < 40) → rm = -1 ∧ agr [(0, 0)] [] Vm Wm) (am : agr fs2 cs2 Vm Wm) (q1 : mvO fs2 cs2 = true) (q2 : bkQ fs2 cs2 = true) (q3 : rjQ fs2 cs2 = true) (e54 : Wm 0 54 = Vm 0 54) (eT : Wm 0 71 = Vm 0 71) (eK : Wm 0 72 = Vm 0 72) : r = rm ∧ KMB W b Wm s := by
  have h6 := h.2.2.2.2.2.1.1
  by_cases c : (Vm 0 54).toInt = 1 ∧ (Vm 0 55).toInt < 40
  · obtain ⟨x1, x2⟩ := c1 ⟨by omega, by omega⟩
    obtain ⟨y1, y2⟩ := r1 c
    exact ⟨by omega, h.opn x2 y2 (fun z => absurd z (by decide)) (Or.inl rfl) (Or.inl ⟨rfl, rfl⟩) am q1 q2 q3 e54 eT eK⟩
  · obtain ⟨x1, x2⟩ := c2 (fun z => c ⟨by omega, by omega⟩)
    obtain ⟨y1, y2⟩ := r2 c
    exact ⟨by omega, h.mv x2 (by decide) y2 (by decide)⟩
theorem KMB.meal (h : KMB V b Vm s) (rd : (V 0 8).toInt = (Vm 0 54).toInt) (c1 : ((V 0 8).toInt = 1 ∧ (0 ≤ p0.toInt ∧ p0.toInt < (V 3 12).toInt ∧ (V 23 (Int32.toNatClampNeg p0)).toInt = 1) ∧ (V 21 (Int32.toNatClampNeg p0)).toInt = 1 ∧ (V 3 12).toInt < 40) → r = (V 3 12).toInt ∧ OPN V W 2 p0.toInt) (c2 : ¬ ((V 0 8).toInt = 1 ∧ (0 ≤ p0.toInt ∧ p0.toInt < (V 3 12).toInt ∧ (V 23 (Int32.toNatClampNeg p0)).toInt = 1) ∧ (V 21 (Int32.toNatClampNeg p0)).toInt = 1 ∧ (V 3 12).toInt < 40) → r = -1 ∧ agr [] [] V W) (r1 : ((Vm 0 54).toInt = 1 ∧ (0 ≤ p0.toInt ∧ p0.toInt < (Vm 0 55).toInt ∧ (Vm 56 (Int32.toNatClampNeg p0)).toInt = 1) ∧ (Vm 57 (Int32.toNatClampNeg p0)).toInt = 1 ∧ (Vm 0 55).toInt < 40) → rm = (Vm 0 55).toInt ∧ OPM Vm Wm 2 p0.toInt) (r2 : ¬ ((Vm 0 54).toInt = 1 ∧ (0 ≤ p0.toInt ∧ p0.toInt < (Vm 0 55).toInt ∧ (Vm 56 (Int32.toNatClampNeg p0)).toInt = 1) ∧ (Vm 57 (Int32.toNatClampNeg p0)).toInt = 1 ∧ (Vm 0 55).toInt < 40) → rm = -1 ∧ agr [(0, 0)] [] Vm Wm) (am : agr fs2 cs2 Vm Wm) (q1 : mvO fs2 cs2 = true) (q2 : bkQ fs2 cs2 = true) (q3 : rjQ fs2 cs2 = true) (e54 : Wm 0 54 = Vm 0 54) (eT : Wm 0 71 = Vm 0 71) (eK : Wm 0 72 = Vm 0 72) : r = rm ∧ KMB W b Wm s := by
  have o := KMB.op (p0 := p0) h
  have h6 := h.2.2.2.2.2.1.1
  obtain ⟨ow0, rn0⟩ := h.2.2.2.1
  have hs := rn0.2.2.2.1
  have n40 : (V 3 12).toInt ≤ 40 := hs.1.1.2
  have z0 : (Vm 57 0).toInt = 0 := h.2.2.2.2.1.1
  have dk : 0 ≤ p0.toInt → p0.toInt < (V 3 12).toInt → (V 21 (Int32.toNatClampNeg p0)).toInt = (Vm 57 (Int32.toNatClampNeg p0)).toInt := fun a1 a2 => by
    have k := i_clamp (x := p0) rfl a1
    exact hs.2.1 (Int32.toNatClampNeg p0) (by omega)
  by_cases c : (Vm 0 54).toInt = 1 ∧ (0 ≤ p0.toInt ∧ p0.toInt < (Vm 0 55).toInt ∧ (Vm 56 (Int32.toNatClampNeg p0)).toInt = 1) ∧ (Vm 57 (Int32.toNatClampNeg p0)).toInt = 1 ∧ (Vm 0 55).toInt < 40
  · have oc := o.mpr c.2.1
    have k := i_clamp (x := p0) rfl oc.1
    have d := dk oc.1 oc.2.1
    have c57 := c.2.2.1
    have c54 := c.1
    have c40 := c.2.2.2
    obtain ⟨x1, x2⟩ := c1 ⟨by omega, oc, by omega, by omega⟩
    obtain ⟨y1, y2⟩ := r1 c
    have p1 : 0 < p0.toInt := by
      have p2 := oc.1
      by_cases e : p0.toInt = 0
      · rw [show Int32.toNatClampNeg p0 = 0 from by omega] at c57
        omega
      · omega
    have et : p0.toInt.toNat = Int32.toNatClampNeg p0 := by omega
    exact ⟨by omega, h.opn x2 y2 (fun _ => ⟨rfl, oc.1, oc.2.1⟩) (Or.inr ⟨rfl, p1, c.2.1.2.1, by rw [et]; exact c57⟩) (Or.inr rfl) am q1 q2 q3 e54 eT eK⟩
  · obtain ⟨x1, x2⟩ := c2 (fun z => c ⟨by have := z.1; omega, o.mp z.2.1, by rw [← dk z.2.1.1 z.2.1.2.1]; exact z.2.2.1, by have := z.2.2.2; omega⟩)
    obtain ⟨y1, y2⟩ := r2 c
    exact ⟨by omega, h.mv x2 (by decide) y2 (by decide)⟩
/-- settings -/
theorem BKc.set {v : Nat → Int32} (h : BKc V b (s, v)) (e : ∀ c k, 41 ≤ c → c ≤ 66 → c ≠ 44 → c ≠ 46 → W c k = V c k) : BKc W b (s, vS W b) := by
  obtain ⟨h1, h2, ⟨h3, h4, h5⟩, ⟨h6, h7, h8⟩, _, h10, h11, h12⟩ := h
  refine ⟨⟨by rw [e 42 _ (by decide) (by decide) (by decide) (by decide)]; exact h1.1, fun i hi => ?_⟩, ⟨h2.1, fun c hc k hk => ?_, h2.2.2⟩, ⟨⟨h3.1, fun w hw => ?_⟩, by rw [e 41 _ (by decide) (by decide) (by decide) (by decide)]; exact h4, fun i hi => by rw [e 47 _ (by decide) (by decide) (by decide) (by decide)]; exact h5 i hi⟩, ⟨by rw [e 43 _ (by decide) (by decide) (by decide) (by decide)]; exact h6, h7, fun c hc => ?_⟩, fun i _ => rfl, h10, h11, h12⟩
  · have z := h1.2 i hi
    unfold CDr at z ⊢
    rw [e 48 _ (by decide) (by decide) (by decide) (by decide), e 48 _ (by decide) (by decide) (by decide) (by decide)]
    exact z
  · rw [← h2.2.1 c hc k hk]
    exact cR_e (fun _ => e 61 _ (by decide) (by decide) (by decide) (by decide)) (e 56 _ (by decide) (by decide) (by decide) (by decide)) (e 57 _ (by decide) (by decide) (by decide) (by decide))
  · have z := h3.2 w hw
    unfold WWr at z ⊢
    rw [e 62 _ (by decide) (by decide) (by decide) (by decide), e 63 _ (by decide) (by decide) (by decide) (by decide), e 64 _ (by decide) (by decide) (by decide) (by decide), e 65 _ (by decide) (by decide) (by decide) (by decide), e 66 _ (by decide) (by decide) (by decide) (by decide)]
    exact z
  · have z := h8 c hc
    unfold COr HDr at z ⊢
    rw [e 50 _ (by decide) (by decide) (by decide) (by decide), e 51 _ (by decide) (by decide) (by decide) (by decide), e 52 _ (by decide) (by decide) (by decide) (by decide), e 53 _ (by decide) (by decide) (by decide) (by decide), e 54 _ (by decide) (by decide) (by decide) (by decide), e 55 _ (by decide) (by decide) (by decide) (by decide), e 49 _ (by decide) (by decide) (by decide) (by decide)]
    refine ⟨z.1, z.2.1, z.2.2.1, fun j hj => ?_⟩
    have y := z.2.2.2 j hj
    unfold NEr at y ⊢
    rw [e 58 _ (by decide) (by decide) (by decide) (by decide), e 59 _ (by decide) (by decide) (by decide) (by decide), e 60 _ (by decide) (by decide) (by decide) (by decide)]
    exact y
theorem BKm.set {B : Bk} {v : Nat → Int32} (h : BKm Vm B) (e : ∀ c k, c ≠ 18 → ¬ (c = 0 ∧ k = 0) → Wm c k = Vm c k) (se : ∀ i, i < (B.1.2.1 1).length → Wm 18 (12 * nwh Vm + i) = v i) : BKm Wm (B.1, v) := by
  have en : nwh Wm = nwh Vm := by unfold nwh; rw [e 0 11 (by decide) (by decide)]
  have f : ∀ c k, c ≠ 18 → c ≠ 0 → Wm c k = Vm c k := fun c k h1 h2 => e c k h1 (fun z => h2 z.1)
  unfold BKm
  rw [en]
  refine ⟨fun i hi => ?_, fun c hc k hk => ?_, ⟨by rw [f 39 _ (by decide) (by decide)]; exact h.2.2.1.1, h.2.2.1.2.1, fun w hw => ?_⟩, ⟨by rw [f 19 _ (by decide) (by decide)]; exact h.2.2.2.1.1, h.2.2.2.1.2.1, fun c hc => ?_⟩, fun i hi => se i hi⟩
  · have z := h.1 i hi
    unfold CDmr at z ⊢
    rw [f 45 _ (by decide) (by decide), f 46 _ (by decide) (by decide), f 47 _ (by decide) (by decide)]
    exact z
  · have z := h.2.1 c hc k hk
    unfold cM at z ⊢
    rw [f 34 _ (by decide) (by decide), f 32 _ (by decide) (by decide), f 33 _ (by decide) (by decide)]
    exact z
  · have z := h.2.2.1.2.2 w hw
    unfold WMr at z ⊢
    rw [f 40 _ (by decide) (by decide), f 41 _ (by decide) (by decide), f 42 _ (by decide) (by decide), f 43 _ (by decide) (by decide), f 44 _ (by decide) (by decide)]
    exact z
  · have z := h.2.2.2.1.2.2 c hc
    unfold COm HDn BTm at z ⊢
    rw [f 22 _ (by decide) (by decide), f 23 _ (by decide) (by decide), f 24 _ (by decide) (by decide), f 25 _ (by decide) (by decide), f 26 _ (by decide) (by decide), f 27 _ (by decide) (by decide)]
    refine ⟨⟨fun g hg => ?_, z.1.2⟩, z.2.1, z.2.2.1, fun j hj => ?_⟩
    · rw [f 21 _ (by decide) (by decide)]
      exact z.1.1 g hg
    · have y := z.2.2.2 j hj
      unfold NEm at y ⊢
      rw [f 28 _ (by decide) (by decide), f 29 _ (by decide) (by decide), f 30 _ (by decide) (by decide), f 31 _ (by decide) (by decide)]
      exact y
theorem ag_not {L : List Nat} {c : Nat} (h : c ∉ L) : L.contains c = false := by
  rw [← Bool.not_eq_true]
  exact fun z => h (List.contains_iff_mem.mp z)
theorem KMB.set (h : KMB V b Vm s) (a : agr [] [46] V W) (am : agr [(0, 0)] [18] Vm Wm) (se : SEQ W b Wm (nwh Vm) (s.2.1 1).length) (nr : (Vm 0 54).toInt = 1 → W 46 = V 46) : KMB W b Wm s := by
  obtain ⟨h1, h2, h3, ⟨ow, h4⟩, h5, ⟨h6, h7⟩, ⟨h8, h9, h10⟩, h11⟩ := h
  have e : ∀ c k, c ≠ 46 → W c k = V c k := fun c k hc => a c k (show (([] : List (Nat × Nat)).contains (c, k) || ([46] : List Nat).contains c) = false from by rw [ag_not (L := [46]) (by rw [List.mem_singleton]; exact hc)]; rfl)
  have em : ∀ c k, c ≠ 18 → ¬ (c = 0 ∧ k = 0) → Wm c k = Vm c k := fun c k hc hk => am c k (by
    unfold wrL
    rw [ag_not (L := [18]) (by rw [List.mem_singleton]; exact hc), Bool.or_false, ← Bool.not_eq_true]
    intro z
    have y := List.contains_iff_mem.mp z
    rw [List.mem_singleton, Prod.mk.injEq] at y
    exact hk y)
  have emv : mV Wm 0 0 0 = mV Vm 0 0 0 := mV_ag am (by decide)
  refine ⟨h1, h2.set (fun c k _ _ _ hc => e c k hc), h3.set em (fun i hi => (se i hi).symm), ⟨ow, ?_⟩, by rw [emv, em 0 55 (by decide) (by decide)]; exact h5, ⟨by rw [e 3 12 (by decide), em 0 55 (by decide) (by decide)]; exact h6, h7.mv (e 3 12 (by decide)) (fun i => e 21 i (by decide)) (fun i => e 22 i (by decide))⟩, ⟨by rw [e 4 7 (by decide), em 0 71 (by decide) (by decide)]; exact h8, by rw [e 4 8 (by decide), em 0 72 (by decide) (by decide)]; exact h9, by rw [em 0 71 (by decide) (by decide)]; exact h10⟩, fun z => ?_⟩
  · rw [emv]
    have h4 : RWn V ow (s, vS W b) (mV Vm 0 0 0) := h4
    exact h4.mv (fun _ _ => rfl) (fun _ _ _ _ => rfl) (fun k => e 3 k (by decide)) (e 4 6 (by decide)) (e 5 13 (by decide)) (e 5 14 (by decide)) (fun c k a1 a2 a3 => e c k (by omega))
  · rw [em 0 54 (by decide) (by decide)] at z
    have ev : vS W b = vS V b := funext fun i => congrFun (nr z) _
    rw [ev]
    exact RJm.ag (h11 z) am (by decide)
/-- a BOOK that was read -/
theorem BKm.of {q : Nat} (hn : nwh Vm = q) (ce : CEm Vm q s) (wr : WRm Vm q s) (n19 : (Vm 19 q).toInt = (((s.2.1 2).length : Nat) : Int)) (ln : LNb s) (co : COM Vm q s) (se : SEQ V b Vm q (s.2.1 1).length) : BKm Vm (s, vS V b) := by
  subst hn
  exact ⟨ce.1.2.2, ce.2.1.2.1, ⟨wr.1.symm, ce.2.2.1, ce.2.2.2⟩, ⟨n19, ln.2.2, co⟩, fun i hi => (se i hi).symm⟩
theorem KMB.new {b2 : Nat} {s2 : St} (h : KMB V b Vm s) (f : BKf s2) (bc : BKc W b2 (s2, vS W b2)) (bm : BKm Wm (s2, vS W b2)) (c : RST V W) (m : RSm Vm Wm) (ca : (Wm 0 71).toInt = 0 ∧ (Wm 0 72).toInt = 0) (r54 : (Wm 0 54).toInt = 0) : KMB W b2 Wm s2 := by
  obtain ⟨_, _, _, ⟨ow, h4⟩, h5, ⟨h6, h7⟩, _, _⟩ := h
  exact ⟨f, bc, bm, ⟨ow, h4.new0 c m h5.1 f.2.2.2.2.2.2.2⟩, SCm.new m, ⟨by rw [c.1.1, m.2.2.2], dzC.new c⟩, ⟨by rw [c.2.1.2.1, ca.1], by rw [c.2.1.2.2, ca.2], by omega⟩, fun z => by omega⟩
/-! a BOOK that was refused: the cells of the old one's row stay -/
def SBk (b : Nat) (V W : Vf) : Prop := (W 41 b = V 41 b ∧ W 42 b = V 42 b ∧ W 43 (5 * b + 2) = V 43 (5 * b + 2)) ∧ (∀ k, k < 12 → W 46 (12 * b + k) = V 46 (12 * b + k) ∧ W 47 (12 * b + k) = V 47 (12 * b + k)) ∧ (∀ k, k < 8200 → W 48 (8200 * b + k) = V 48 (8200 * b + k)) ∧ (∀ x c, 49 ≤ x → x ≤ 57 → c < 24 → W x (24 * b + c) = V x (24 * b + c)) ∧ (∀ x c k, 58 ≤ x → x ≤ 60 → c < 24 → k < 8 → W x (8 * (24 * b + c) + k) = V x (8 * (24 * b + c) + k)) ∧ (∀ c k, c < 24 → k < 20 → W 61 (20 * (24 * b + c) + k) = V 61 (20 * (24 * b + c) + k)) ∧ ∀ x w, 62 ≤ x → x ≤ 66 → w < 12 → W x (12 * b + w) = V x (12 * b + w)
theorem xR_4 {b1 x : Nat} (h1 : 49 ≤ x) (h2 : x ≤ 57) : xR b1 x = (24 * b1, 24 * b1 + 24) := by
  unfold xR
  rw [if_neg (by omega), if_neg (by omega), if_neg (by omega), if_neg (by omega), if_neg (by omega), if_neg (by omega), if_pos (by omega)]
theorem xR_5 {b1 x : Nat} (h1 : 58 ≤ x) (h2 : x ≤ 60) : xR b1 x = (192 * b1, 192 * b1 + 192) := by
  unfold xR
  rw [if_neg (by omega), if_neg (by omega), if_neg (by omega), if_neg (by omega), if_neg (by omega), if_neg (by omega), if_neg (by omega), if_pos (by omega)]
theorem xR_6 {b1 x : Nat} (h1 : 62 ≤ x) : xR b1 x = (12 * b1, 12 * b1 + 12) := by
  unfold xR
  rw [if_neg (by omega), if_neg (by omega), if_neg (by omega), if_neg (by omega), if_neg (by omega), if_neg (by omega), if_neg (by omega), if_neg (by omega), if_neg (by omega)]
theorem SBk.of {U : Vf} {b1 : Nat} {L L2 : Lf} (f : frX (xR b1) V U) (hb : b + b1 = 1) (lc : LKc W L U L2) (ld : LKd W U) (le : LKe W U) : SBk b V W := by
  have g : ∀ x k, 41 ≤ x → x ≤ 66 → (k < (xR b1 x).1 ∨ (xR b1 x).2 ≤ k) → U x k = V x k := fun x k h1 h2 h3 => f x k ⟨h1, h2⟩ h3
  refine ⟨⟨?_, ?_, ?_⟩, fun k hk => ⟨?_, ?_⟩, fun k hk => ?_, fun x c h1 h2 hc => ?_, fun x c k h1 h2 hc hk => ?_, fun c k hc hk => ?_, fun x w h1 h2 hw => ?_⟩
  · exact (le.1 b (by omega)).1.symm.trans (g 41 b (by decide) (by decide) (show b < b1 ∨ b1 + 1 ≤ b by omega))
  · exact (le.1 b (by omega)).2.symm.trans (g 42 b (by decide) (by decide) (show b < b1 ∨ b1 + 1 ≤ b by omega))
  · exact (lc.1 (5 * b + 2) (by omega)).symm.trans (g 43 _ (by decide) (by decide) (show 5 * b + 2 < 5 * b1 ∨ 5 * b1 + 5 ≤ 5 * b + 2 by omega))
  · exact (ld.1 b k (by omega) hk).symm.trans (g 46 _ (by decide) (by decide) (show 12 * b + k < 12 * b1 ∨ 12 * b1 + 12 ≤ 12 * b + k by omega))
  · exact (le.2.2.2.2.1 b k (by omega) hk).symm.trans (g 47 _ (by decide) (by decide) (show 12 * b + k < 12 * b1 ∨ 12 * b1 + 12 ≤ 12 * b + k by omega))
  · exact (le.2.2.2.2.2 b k (by omega) hk).symm.trans (g 48 _ (by decide) (by decide) (show 8200 * b + k < 8200 * b1 ∨ 8200 * b1 + 8200 ≤ 8200 * b + k by omega))
  · have z : U x (24 * b + c) = V x (24 * b + c) := g x _ (by omega) (by omega) (by rw [xR_4 h1 h2]; show 24 * b + c < 24 * b1 ∨ 24 * b1 + 24 ≤ 24 * b + c; omega)
    refine Eq.trans (Eq.symm ?_) z
    have a := ld.2.1 (24 * b + c) (by omega)
    have d := le.2.1 (24 * b + c) (by omega)
    rcases (show x = 49 ∨ x = 50 ∨ x = 51 ∨ x = 52 ∨ x = 53 ∨ x = 54 ∨ x = 55 ∨ x = 56 ∨ x = 57 by omega) with e | e | e | e | e | e | e | e | e
    · rw [e]; exact a.1
    · rw [e]; exact a.2.1
    · rw [e]; exact a.2.2.1
    · rw [e]; exact a.2.2.2.1
    · rw [e]; exact a.2.2.2.2.1
    · rw [e]; exact a.2.2.2.2.2.1
    · rw [e]; exact a.2.2.2.2.2.2
    · rw [e]; exact d.1
    · rw [e]; exact d.2
  · have z : U x (8 * (24 * b + c) + k) = V x (8 * (24 * b + c) + k) := g x _ (by omega) (by omega) (by rw [xR_5 h1 h2]; show 8 * (24 * b + c) + k < 192 * b1 ∨ 192 * b1 + 192 ≤ 8 * (24 * b + c) + k; omega)
    refine Eq.trans (Eq.symm ?_) z
    have a := ld.2.2.1 (24 * b + c) k (by omega) hk
    rcases (show x = 58 ∨ x = 59 ∨ x = 60 by omega) with e | e | e
    · rw [e]; exact a.1
    · rw [e]; exact a.2.1
    · rw [e]; exact a.2.2
  · exact (le.2.2.1 (24 * b + c) k (by omega) hk).symm.trans (g 61 _ (by decide) (by decide) (show 20 * (24 * b + c) + k < 480 * b1 ∨ 480 * b1 + 480 ≤ 20 * (24 * b + c) + k by omega))
  · have z : U x (12 * b + w) = V x (12 * b + w) := g x _ (by omega) (by omega) (by rw [xR_6 h1]; show 12 * b + w < 12 * b1 ∨ 12 * b1 + 12 ≤ 12 * b + w; omega)
    refine Eq.trans (Eq.symm ?_) z
    have a := le.2.2.2.1 (12 * b + w) (by omega)
    rcases (show x = 62 ∨ x = 63 ∨ x = 64 ∨ x = 65 ∨ x = 66 by omega) with e | e | e | e | e
    · rw [e]; exact a.1
    · rw [e]; exact a.2.1
    · rw [e]; exact a.2.2.1
    · rw [e]; exact a.2.2.2.1
    · rw [e]; exact a.2.2.2.2
theorem psz_i {f : Nat → Nat} : ∀ i, i ≤ psz f i
  | 0 => Nat.zero_le _
  | i + 1 => by
    have a := psz_i (f := f) i
    have c : psz f i < psz f (i + 1) := psz_lt (Nat.lt_succ_self i)
    omega
theorem cl_wl : cl s ≤ wl s := psz_i (cl s)
theorem cl_BK (h : BKc V b (s, vS V b)) (hM : rgd bX V) : cl s ≤ 8200 := by
  have a := h.1.1
  have c : 0 ≤ (V 42 b).toInt ∧ (V 42 b).toInt ≤ 8200 := hM 42 b
  have a : (V 42 b).toInt = ((wl s : Nat) : Int) := a
  have d := cl_wl (s := s)
  omega
theorem CE_cl (h : CEo V b s) (hM : rgd bX V) : cl s ≤ 8200 := by
  have a : (V 42 b).toInt = ((wl s : Nat) : Int) := h.1.1
  have c : 0 ≤ (V 42 b).toInt ∧ (V 42 b).toInt ≤ 8200 := hM 42 b
  have d := cl_wl (s := s)
  omega
theorem BK_row (h : BKc V b (s, vS V b)) (hM : rgd bX V) (sb : SBk b V W) : BKc W b (s, vS W b) := by
  obtain ⟨h1, h2, ⟨h3, h4, h5⟩, ⟨h6, h7, h8⟩, h9, h10, h11, h12⟩ := h
  obtain ⟨⟨e41, e42, e43⟩, e46, e48, e49, e58, e61, e62⟩ := sb
  have wl8 : wl s ≤ 8200 := by
    have a := h1.1
    have c : 0 ≤ (V 42 b).toInt ∧ (V 42 b).toInt ≤ 8200 := hM 42 b
    have a : (V 42 b).toInt = ((wl s : Nat) : Int) := a
    omega
  have n12 : s.2.2.1.length ≤ 12 := h3.1
  have h7 : (s.2.1 2).length ≤ 24 := h7
  have h100 : ∀ w, w < wN (s, vS V b) → nL s (902 + 8 * w) < 100 := fun w hw => (h10 w hw).2
  refine ⟨⟨by rw [e42]; exact h1.1, fun i hi => ?_⟩, ⟨h2.1, fun c hc k hk => ?_, h2.2.2⟩, ⟨⟨h3.1, fun w hw => ?_⟩, by rw [e41]; exact h4, fun i hi => ?_⟩, ⟨by rw [e43]; exact h6, h7, fun c hc => ?_⟩, fun i _ => rfl, h10, h11, h12⟩
  · have z := h1.2 i hi
    have p1 : psz (opf s) i + szO (opf s i) ≤ wl s := psz_le hi
    have sb := szO_b (opf s i)
    unfold CDr at z ⊢
    refine ⟨by rw [show (s, vS W b).1 = s from rfl, e48 _ (show psz (opf s) i < 8200 by omega)]; exact z.1, fun q => ?_, z.2.2⟩
    have q2 : szO (opf s i) = 2 := q
    have e := e48 (psz (opf s) i + 1) (by omega)
    rw [← Nat.add_assoc] at e
    rw [e]
    exact z.2.1 q
  · have hc : c < (s.2.1 2).length := hc
    rw [← h2.2.1 c hc k hk]
    exact cR_e (fun k20 => e61 c k (by omega) k20) (e49 56 c (by decide) (by decide) (by omega)) (e49 57 c (by decide) (by decide) (by omega))
  · have z := h3.2 w hw
    have hw : w < s.2.2.1.length := hw
    unfold WWr at z ⊢
    rw [e62 62 w (by decide) (by decide) (by omega), e62 63 w (by decide) (by decide) (by omega), e62 64 w (by decide) (by decide) (by omega), e62 65 w (by decide) (by decide) (by omega), e62 66 w (by decide) (by decide) (by omega)]
    exact z
  · have hi : i < (bW (s, vS V b)).length := hi
    have z := h5 i hi
    rw [bW_len (B := (s, vS V b)) h100] at hi
    have w12 : wN (s, vS V b) ≤ 12 := by
      unfold wN
      omega
    rw [(e46 i (by omega)).2]
    exact z
  · have hc : c < (s.2.1 2).length := hc
    have z := h8 c hc
    unfold COr HDr at z ⊢
    rw [e49 50 c (by decide) (by decide) (by omega), e49 51 c (by decide) (by decide) (by omega), e49 52 c (by decide) (by decide) (by omega), e49 53 c (by decide) (by decide) (by omega), e49 54 c (by decide) (by decide) (by omega), e49 55 c (by decide) (by decide) (by omega), e49 49 c (by decide) (by decide) (by omega)]
    refine ⟨z.1, z.2.1, z.2.2.1, fun j hj => ?_⟩
    have y := z.2.2.2 j hj
    have n8 := z.2.2.1
    have hj : j < s.1 (66 + 8 * c) := hj
    have n8 : s.1 (66 + 8 * c) ≤ 8 := n8
    have hj8 : j < 8 := by omega
    unfold NEr at y ⊢
    rw [e58 58 c j (by decide) (by decide) (by omega) hj8, e58 59 c j (by decide) (by decide) (by omega) hj8, e58 60 c j (by decide) (by decide) (by omega) hj8]
    exact y
theorem BKm.row {B : Bk} {q nx : Nat} (h : BKm Vm B) (hn : nwh Vm = q) (hn2 : nwh Wm = q) (hq : q + nx = 1) (f : fr (tH nx) Vm Wm) (e22 : RoW 22 24 nx Vm Wm) (c10 : cl B.1 ≤ 10000) (n12 : (B.1.2.1 1).length ≤ 12) : BKm Wm B := by
  unfold BKm at h ⊢
  rw [hn] at h
  rw [hn2]
  obtain ⟨h1, h2, ⟨h3, h4, h5⟩, ⟨h6, h7, h8⟩, h9⟩ := h
  refine ⟨fun i hi => ?_, fun c hc k hk => ?_, ⟨by rw [f 39 q rfl (show q < nx ∨ nx + 1 ≤ q by omega)]; exact h3, h4, fun w hw => ?_⟩, ⟨by rw [f 19 q rfl (show q < nx ∨ nx + 1 ≤ q by omega)]; exact h6, h7, fun c hc => ?_⟩, fun i hi => ?_⟩
  · have z := h1 i hi
    have g : 10000 * q + i < 10000 * nx ∨ 10000 * nx + 10000 ≤ 10000 * q + i := by omega
    unfold CDmr at z ⊢
    rw [f 45 _ rfl g, f 46 _ rfl g, f 47 _ rfl g]
    exact z
  · have z := h2 c hc k hk
    have hc : c < nC B := hc
    have g : 24 * q + c < 24 * nx ∨ 24 * nx + 24 ≤ 24 * q + c := by omega
    rw [← z]
    refine cM_e (fun k20 => f 34 _ rfl (show 20 * (24 * q + c) + k < 480 * nx ∨ 480 * nx + 480 ≤ 20 * (24 * q + c) + k by omega)) (f 32 _ rfl g) (f 33 _ rfl g)
  · have z := h5 w hw
    have g : 12 * q + w < 12 * nx ∨ 12 * nx + 12 ≤ 12 * q + w := by omega
    unfold WMr at z ⊢
    rw [f 40 _ rfl g, f 41 _ rfl g, f 42 _ rfl g, f 43 _ rfl g, f 44 _ rfl g]
    exact z
  · have hc : c < nC B := hc
    have z := h8 c hc
    have g : 24 * q + c < 24 * nx ∨ 24 * nx + 24 ≤ 24 * q + c := by omega
    have n8 := z.2.2.1
    unfold COm HDn BTm at z ⊢
    rw [e22 (24 * q + c) (by omega), f 23 _ rfl g, f 24 _ rfl g, f 25 _ rfl g, f 26 _ rfl g, f 27 _ rfl g]
    refine ⟨⟨fun t ht => ?_, z.1.2⟩, z.2.1, z.2.2.1, fun j hj => ?_⟩
    · rw [f 21 _ rfl (show 24 * (24 * q + c) + t < 576 * nx ∨ 576 * nx + 576 ≤ 24 * (24 * q + c) + t by omega)]
      exact z.1.1 t ht
    · have y := z.2.2.2 j hj
      have g8 : 8 * (24 * q + c) + j < 192 * nx ∨ 192 * nx + 192 ≤ 8 * (24 * q + c) + j := by omega
      unfold NEm at y ⊢
      rw [f 28 _ rfl g8, f 29 _ rfl g8, f 30 _ rfl g8, f 31 _ rfl g8]
      exact y
  · rw [f 18 _ rfl (show 12 * q + i < 12 * nx ∨ 12 * nx + 12 ≤ 12 * q + i by omega)]
    exact h9 i hi
def m26Q (fs : List (Nat × Nat)) (cs : List Nat) : Bool := fs.all (fun y => decide (y.1 < 26 ∨ 37 < y.1)) && cs.all (fun c => decide (c < 26 ∨ 37 < c))
theorem agr.m26 (a : agr fs cs V W) (q : m26Q fs cs = true) {c k : Nat} (h1 : 26 ≤ c) (h2 : c ≤ 37) : W c k = V c k := by
  refine a c k ?_
  unfold m26Q at q
  rw [Bool.and_eq_true, List.all_eq_true, List.all_eq_true] at q
  unfold wrL
  rw [Bool.or_eq_false_iff]
  refine ⟨?_, ?_⟩
  · rw [← Bool.not_eq_true]
    intro z
    have y := of_decide_eq_true (q.1 _ (List.contains_iff_mem.mp z))
    have y : c < 26 ∨ 37 < c := y
    omega
  · rw [← Bool.not_eq_true]
    intro z
    have y := of_decide_eq_true (q.2 _ (List.contains_iff_mem.mp z))
    omega
theorem RWn.old {U : Vf} {ow : Nat → Nat} {B : Bk} {m : Mm} (h : RWn V ow B m) (n24 : nC B ≤ 24) (l : LKs W U) (e : ESw V U) (cc : ∀ c k, 26 ≤ c → c ≤ 37 → c < 33 ∨ 35 < c → W c k = V c k) : RWn W ow B m := by
  obtain ⟨⟨l12, l13, l14, l15⟩, ⟨l46, _, _⟩, ⟨l513, l514⟩, lr, l25⟩ := l
  obtain ⟨e3, e46, ⟨e513, e514, _⟩, er, _⟩ := e
  have w12 : W 3 12 = V 3 12 := l12.symm.trans (e3 12)
  have w13 : W 3 13 = V 3 13 := l13.symm.trans (e3 13)
  have w14 : W 3 14 = V 3 14 := l14.symm.trans (e3 14)
  have w15 : W 3 15 = V 3 15 := l15.symm.trans (e3 15)
  have w46 : W 4 6 = V 4 6 := l46.symm.trans e46
  have w513 : W 5 13 = V 5 13 := l513.symm.trans e513
  have w514 : W 5 14 = V 5 14 := l514.symm.trans e514
  have w21 : ∀ k, k < 40 → W 21 k = V 21 k := fun k hk => (lr k hk).1.symm.trans (er 21 k (by decide) (by decide) (by decide))
  have w22 : ∀ k, k < 40 → W 22 k = V 22 k := fun k hk => (lr k hk).2.1.symm.trans (er 22 k (by decide) (by decide) (by decide))
  have w23 : ∀ k, k < 40 → W 23 k = V 23 k := fun k hk => (lr k hk).2.2.1.symm.trans (er 23 k (by decide) (by decide) (by decide))
  have w24 : ∀ k, k < 40 → W 24 k = V 24 k := fun k hk => (lr k hk).2.2.2.symm.trans (er 24 k (by decide) (by decide) (by decide))
  have w25 : ∀ k, k < 960 → W 25 k = V 25 k := fun k hk => (l25 k hk).symm.trans (er 25 k (by decide) (by decide) (by decide))
  obtain ⟨⟨⟨a0, a1, a2, a3⟩, a4, a5⟩, hb, hj, ⟨⟨s1, s2⟩, s3, s4⟩, hp⟩ := h
  refine ⟨⟨⟨by rw [w514]; exact a0, by rw [w513]; exact a1, by rw [w13]; exact a2, by rw [w14]; exact a3⟩, by rw [w46]; exact a4, fun i h1 h2 => ?_⟩, fun x hx => ?_, RWj.mv hj rfl (fun _ => rfl) (fun _ => rfl) w15 (fun q => cc 30 q (by decide) (by decide) (by decide)) (fun q => cc 31 q (by decide) (by decide) (by decide)) (fun q => cc 32 q (by decide) (by decide) (by decide)), ⟨⟨by rw [w12]; exact s1, fun s h1 h2 => ?_⟩, fun s hs => by rw [w21 s hs]; exact s3 s hs, fun s hs => ?_⟩, fun pl c hpl hc hsh => ?_, hp.2⟩
  · rw [cc 36 _ (by decide) (by decide) (by decide), cc 37 _ (by decide) (by decide) (by decide)]
    exact a5 i h1 h2
  · rw [cc 26 _ (by decide) (by decide) (by decide), cc 27 _ (by decide) (by decide) (by decide), cc 28 _ (by decide) (by decide) (by decide), cc 29 _ (by decide) (by decide) (by decide), w12]
    exact hb x hx
  · rw [w12] at h1
    rw [w24 s h2]
    exact s2 s h1 h2
  · rw [w12] at hs
    have s40 : s < 40 := by omega
    rw [w23 s s40, w22 s s40, w24 s s40, w12]
    exact s4 s hs
  · rw [w25 _ (by omega)]
    exact hp.1 pl c hpl hc hsh
theorem RJm.sv9 {v v2 : Nat → Int32} (h : RJm Vm (s, v)) (ec : ∀ c j, bC (s, v2) c j = bC (s, v) c j) : RJm Vm (s, v2) := by
  obtain ⟨h1, h2, h3, h4⟩ := h
  have cm : ∀ o, CMPo Vm (s, v) o → CMPo Vm (s, v2) o := fun o ho k hk hn => by
    rw [ec]
    exact ho k hk hn
  refine ⟨fun o k a1 a2 a3 => ?_, h2, fun o a1 a2 => cm o (h3 o a1 a2), fun i hi => cm _ (h4 i hi)⟩
  rw [ec]
  exact h1 o k a1 a2 a3
theorem KMB.old {U : Vf} {q nx : Nat} (h : KMB V b Vm s) (hM : rgd bX V) (sb : SBk b V W) (l : LKs W U) (e : ESw V U ∧ U 4 7 = V 4 7 ∧ U 4 8 = V 4 8 ∧ ∀ s9 : Nat, U 21 s9 = V 21 s9 ∧ U 22 s9 = V 22 s9) (cc : ∀ c k, 26 ≤ c → c ≤ 37 → c < 33 ∨ 35 < c → W c k = V c k) (hn : nwh Vm = q) (hn2 : nwh Wm = q) (hq : q + nx = 1) (f : fr (tH nx) Vm Wm) (e22 : RoW 22 24 nx Vm Wm) (am : agr fs2 cs2 Vm Wm) (q1 : mvQ fs2 cs2 = true) (q2 : rjQ fs2 cs2 = true) (e54 : Wm 0 54 = Vm 0 54) (e55 : Wm 0 55 = Vm 0 55) (eT : Wm 0 71 = Vm 0 71) (eK : Wm 0 72 = Vm 0 72) : KMB W b Wm s := by
  obtain ⟨h1, h2, h3, ⟨ow, h4⟩, h5, ⟨h6, h7⟩, ⟨h8, h9, h10⟩, h11⟩ := h
  have c8 := cl_BK h2 hM
  have n12 : (s.2.1 1).length ≤ 12 := h1.2.2.2.2.2.2.1
  have ev : ∀ i, i < 12 → vS W b i = vS V b i := fun i hi => (sb.2.1 i hi).1
  have w12 : W 3 12 = V 3 12 := l.1.1.symm.trans (e.1.1 12)
  have w47 : W 4 7 = V 4 7 := l.2.1.2.1.symm.trans e.2.1
  have w48 : W 4 8 = V 4 8 := l.2.1.2.2.symm.trans e.2.2.1
  have em : mV Wm 0 0 0 = mV Vm 0 0 0 := mV_ag am q1
  have n40 : (V 3 12).toInt ≤ 40 := h4.2.2.2.1.1.1.2
  have bm := h3.row hn hn2 hq f e22 (show cl s ≤ 10000 by omega) n12
  refine ⟨h1, BK_row h2 hM sb, ?_, ⟨ow, ?_⟩, by rw [em, e55]; exact h5, ⟨by rw [w12, e55]; exact h6, fun x hx h2 => ?_⟩, ⟨by rw [w47, eT]; exact h8, by rw [w48, eK]; exact h9, by rw [eT]; exact h10⟩, fun z => ?_⟩
  · obtain ⟨b1, b2, b3, b4, b5⟩ := bm
    exact ⟨b1, b2, b3, b4, fun i hi => (b5 i hi).trans (ev i (by have hi : i < (s.2.1 1).length := hi; omega)).symm⟩
  · rw [em]
    have h4 : RWn V ow (s, vS W b) (mV Vm 0 0 0) := h4
    exact h4.old h1.2.2.2.2.2.2.2 l e.1 cc
  · rw [w12] at h2
    have y21 : W 21 x = V 21 x := (l.2.2.2.1 x (by omega)).1.symm.trans (e.2.2.2 x).1
    have y22 : W 22 x = V 22 x := (l.2.2.2.1 x (by omega)).2.1.symm.trans (e.2.2.2 x).2
    rw [y21, y22]
    exact h7 x hx h2
  · rw [e54] at z
    have r := RJm.ag (h11 z) am q2
    have es : svB (s, vS W b) = svB (s, vS V b) := by
      unfold svB
      funext i
      split
      · exact congrArg Int32.toInt (ev i (by have hi : i < (s.2.1 1).length := ‹_›; omega))
      · rfl
    have ec : ∀ c j, bC (s, vS W b) c j = bC (s, vS V b) c j := fun c j => by
      unfold bC
      rw [es]
    exact RJm.sv9 r ec
end KM3
/-! what the law keeps -/
def LN11 (V : Vf) (L : Lf) (b : Nat) (Vm : Vf) (Lm : Lf) (q : Nat) : Prop := ∃ s : St, (TBc V L b s ∧ TBm Vm Lm q s (s.2.1 2) ∧ NKs s) ∧ KEP V b Vm q s ∧ KMB V b Vm s
theorem LN11.mv {V V1 Vm Vm1 : Vf} {L L1 Lm Lm1 : Lf} {b q : Nat} (h : LN11 V L b Vm Lm q) (t : ∀ s, (TBc V L b s ∧ TBm Vm Lm q s (s.2.1 2) ∧ NKs s) → TBc V1 L1 b s ∧ TBm Vm1 Lm1 q s (s.2.1 2) ∧ NKs s) (k : ∀ s, KEP V b Vm q s → KEP V1 b Vm1 q s) (m : ∀ s, KMB V b Vm s → KMB V1 b Vm1 s) : LN11 V1 L1 b Vm1 Lm1 q := by
  obtain ⟨s, a, d, e⟩ := h
  exact ⟨s, t s a, k s d, m s e⟩


abbrev r_s_forget11 : Room := { frames := 0, cells := 0, slots := 0, locals := 0 }
abbrev q_s_forget11 (D : va_G) (ks : KS) (ad : Nat → Nat) (kk : Nat → ClassId) (V : Vf) (L : Lf) (A : Nat → Prop) : Array Value → State → Outcome → State → Prop := va_Qv (fun (u : Vf × Lf) => rgd bM u.1 ∧ agr [(0, 54), (0, 55), (0, 60), (0, 65), (0, 69), (0, 70), (0, 71), (0, 72), (0, 73), (0, 76), (0, 81)] [56, 57, 59] V u.1 ∧ u.2 = L ∧ ((u.1 0 60).toInt = 0 ∧ (u.1 0 54).toInt = 0 ∧ (u.1 0 65).toInt = 0 ∧ (u.1 0 73).toInt = 0 ∧ (u.1 0 76).toInt = 0) ∧ ((u.1 0 55).toInt = 1) ∧ ((u.1 0 81).toInt = 0) ∧ ((u.1 0 71).toInt = 0 ∧ (u.1 0 72).toInt = 0 ∧ (u.1 0 69).toInt = 0) ∧ ((u.1 56 0).toInt = 1 ∧ (u.1 57 0).toInt = 0 ∧ (∀ s9 : Nat, s9 ≠ 0 → u.1 57 s9 = V 57 s9) ∧ ∀ q9 : Nat, q9 < 960 → (u.1 59 q9).toInt = 0)) (fun u t => gq D A (mw ad kk ks.1 u.1 u.2) (mty kk) t) A
set_option maxHeartbeats 4000000 in
set_option maxRecDepth 100000 in
theorem s_forget11 (l : Launch) (D : va_G) (ks : KS) (sz : Nat) (ad : Nat → Nat) (kk : Nat → ClassId) (V : Vf) (L : Lf)  (hMV : rgd bM V)  : Met l yX12_forget (Cond.code yX12_forget cX12_forget 2 none :: GW) r_s_forget11 (va_Pc [.ref (ad 0)] (gp D ks (mw ad kk ks.1 V L) (mty kk) sz)) (q_s_forget11 D ks ad kk V L  (va_A (mw ad kk ks.1 V L) sz)) 0 0 (va_A (mw ad kk ks.1 V L) sz) := by
  refine g_met (q_s_forget11 D ks ad kk V L) (by decide) (Nat.le_of_ble_eq_true rfl) ?_
  intro p e s m below meth c A ls H locs hx hb hr hml hown hg hlocks hin hnw hgk hP hK hD hS hA hl
  replace hown : s.vm.findClass RX12 = some m.cls := hown
  replace hl : lv_has ls 2 [(0, .ref (ad 0))] := hl
  replace hP : va_P D vwCl (mw ad kk ks.1 V L) H := hP
  replace hD : va_D A (mw ad kk ks.1 V L) := hD
  replace hK : va_K D vwCl (mty kk) s := hK
  have agV : agr [(0, 54), (0, 55), (0, 60), (0, 65), (0, 69), (0, 70), (0, 71), (0, 72), (0, 73), (0, 76), (0, 81)] [56, 57, 59] V V := agr.rf
  refine lv_aload_n hx hb dX12_forget_0 rfl (lv_at hl 0 rfl) ?_
  refine lv_iconst (v := 0) hx hb dX12_forget_1 (by decide) ?_
  refine va_put (D := D) (ci := 12) (v := .int 0) (ty := tyX12 54) (C := RX12) (T := TX12) (N := 100) hx hb hg inX12 tyX12 tyX12_ok nmX12 hown hK hP hD hS 0 rfl rfl 54 (by decide) (hg _ w1760) (fun _ h9 => h9) rfl (tyX12_ok 54 (by decide)) rfl rfl (Nat.le_of_ble_eq_true rfl) dX12_forget_2 (fun H locs hP hD hS => ?_)
  obtain ⟨V1, hV1⟩ : ∃ z, z = up2 V 0 54 0 := ⟨_, rfl⟩
  have hP : va_P D vwCl (mw ad kk ks.1 V1 L) H := by rw [hV1]; exact hP
  have hD : va_D A (mw ad kk ks.1 V1 L) := by rw [hV1]; exact hD
  have hMV1 : rgd bM V1 := hMV.put hV1 (by decide)
  have agV1 : agr [(0, 54), (0, 55), (0, 60), (0, 65), (0, 69), (0, 70), (0, 71), (0, 72), (0, 73), (0, 76), (0, 81)] [56, 57, 59] V V1 := agV.up hV1 rfl
  refine lv_aload_n hx hb dX12_forget_5 rfl (lv_at hl 0 rfl) ?_
  refine lv_iconst (v := 1) hx hb dX12_forget_6 (by decide) ?_
  refine va_put (D := D) (ci := 12) (v := .int 1) (ty := tyX12 55) (C := RX12) (T := TX12) (N := 100) hx hb hg inX12 tyX12 tyX12_ok nmX12 hown hK hP hD hS 0 rfl rfl 55 (by decide) (hg _ w1761) (fun _ h9 => h9) rfl (tyX12_ok 55 (by decide)) rfl rfl (Nat.le_of_ble_eq_true rfl) dX12_forget_7 (fun H locs hP hD hS => ?_)
  obtain ⟨V2, hV2⟩ : ∃ z, z = up2 V1 0 55 1 := ⟨_, rfl⟩
  have hP : va_P D vwCl (mw ad kk ks.1 V2 L) H := by rw [hV2]; exact hP
  have hD : va_D A (mw ad kk ks.1 V2 L) := by rw [hV2]; exact hD
  have hMV2 : rgd bM V2 := hMV1.put hV2 (by decide)
  have agV2 : agr [(0, 54), (0, 55), (0, 60), (0, 65), (0, 69), (0, 70), (0, 71), (0, 72), (0, 73), (0, 76), (0, 81)] [56, 57, 59] V V2 := agV1.up hV2 rfl
  refine lv_aload_n hx hb dX12_forget_10 rfl (lv_at hl 0 rfl) ?_
  refine va_get (D := D) (ci := 12) (v := .ref (ad 56)) (C := RX12) (T := TX12) (N := 100) hx hb hg inX12 hown hK hP 0 rfl rfl 56 (by decide) (hg _ w1762) (fun _ h9 => h9) rfl dX12_forget_11 ?_
  refine lv_iconst (v := 0) hx hb dX12_forget_14 (by decide) ?_
  refine lv_iconst (v := 1) hx hb dX12_forget_15 (by decide) ?_
  refine va_zast (D := D) (i := 0) (x := 1) hx hb hK hP hD hS 42 41 rfl rfl (i_in (a := 0) (by decide) (by decide)) dX12_forget_16 (fun H locs hP hD hS => ?_)
  obtain ⟨V3, hV3⟩ : ∃ z, z = up2 V2 56 (Int32.toNatClampNeg 0) (vp_nar .boolean 1) := ⟨_, rfl⟩
  have hP : va_P D vwCl (mw ad kk ks.1 V3 L) H := by rw [hV3]; exact hP
  have hD : va_D A (mw ad kk ks.1 V3 L) := by rw [hV3]; exact hD
  have hMV3 : rgd bM V3 := hMV2.put hV3 (nar_b _)
  have agV3 : agr [(0, 54), (0, 55), (0, 60), (0, 65), (0, 69), (0, 70), (0, 71), (0, 72), (0, 73), (0, 76), (0, 81)] [56, 57, 59] V V3 := agV2.up hV3 rfl
  refine lv_aload_n hx hb dX12_forget_17 rfl (lv_at hl 0 rfl) ?_
  refine va_get (D := D) (ci := 12) (v := .ref (ad 57)) (C := RX12) (T := TX12) (N := 100) hx hb hg inX12 hown hK hP 0 rfl rfl 57 (by decide) (hg _ w1763) (fun _ h9 => h9) rfl dX12_forget_18 ?_
  refine lv_iconst (v := 0) hx hb dX12_forget_21 (by decide) ?_
  refine lv_iconst (v := 0) hx hb dX12_forget_22 (by decide) ?_
  refine va_iast (D := D) (i := 0) (x := 0) hx hb hK hP hD hS 43 42 rfl rfl (i_in (a := 0) (by decide) (by decide)) dX12_forget_23 (fun H locs hP hD hS => ?_)
  obtain ⟨V4, hV4⟩ : ∃ z, z = up2 V3 57 (Int32.toNatClampNeg 0) 0 := ⟨_, rfl⟩
  have hP : va_P D vwCl (mw ad kk ks.1 V4 L) H := by rw [hV4]; exact hP
  have hD : va_D A (mw ad kk ks.1 V4 L) := by rw [hV4]; exact hD
  have hMV4 : rgd bM V4 := hMV3.put hV4 (i_full _)
  have agV4 : agr [(0, 54), (0, 55), (0, 60), (0, 65), (0, 69), (0, 70), (0, 71), (0, 72), (0, 73), (0, 76), (0, 81)] [56, 57, 59] V V4 := agV3.up hV4 rfl
  refine lv_iconst (v := 0) hx hb dX12_forget_24 (by decide) ?_
  refine lv_istore_n (lv' := [(1, .int 0), (0, .ref (ad 0))]) hx hb dX12_forget_25 rfl hl (by decide) rfl (fun ls hl => ?_)
  have lp7 : ∀ (fulp7 : Nat) (y5 : Int32) (V6 : Vf) (H : Heap) (locs : List Loc) (ls : Array Slot), 0 ≤ y5.toInt ∧ y5.toInt ≤ 960 → (∀ j9 : Nat, (j9 : Int) < y5.toInt → (V6 59 j9).toInt = 0) → 960 - y5.toInt < (fulp7 : Int) → agr [] [59] V4 V6 → rgd bM V6 → va_P D vwCl (mw ad kk ks.1 V6 L) H → va_D A (mw ad kk ks.1 V6 L) → va_S A s.heap H locs → lv_has ls 2 [(1, .int y5), (0, .ref (ad 0))] → W p l e r_s_forget11 s m ([.ref (ad 0)] : List Value).toArray below meth c H locs 0 0 (MQ below (q_s_forget11 D ks ad kk V L  A) ([.ref (ad 0)] : List Value).toArray s 0 0 A) (F0 m 26 ls []) := by
    intro fulp7
    induction fulp7 with
    | zero =>
      intro y5 V6 H locs ls klp7_0 xlp7_0 hn ajV6 hMV6 hP hD hS hl
      exfalso; (first | exact om_c8d4dd19bb17 klp7_0.2 hn | omega)
    | succ fulp7 ihlp7 =>
      intro y5 V6 H locs ls klp7_0 xlp7_0 hn ajV6 hMV6 hP hD hS hl
      have agV6 : agr [(0, 54), (0, 55), (0, 60), (0, 65), (0, 69), (0, 70), (0, 71), (0, 72), (0, 73), (0, 76), (0, 81)] [56, 57, 59] V V6 := agV4.tr ajV6 (by decide) (by decide)
      refine lv_iload_n hx hb dX12_forget_26 rfl (lv_at hl 0 rfl) ?_
      refine lv_sipush (v := 960) hx hb dX12_forget_27 (by decide) ?_
      refine lv_icmp_ge (tgt := 46) hx hb dX12_forget_30 (by decide) (fun c8 => ?_) (fun c8 => ?_)
      · skip
        have f9 : 960 ≤ y5.toInt := b_le (by decide) rfl c8
        refine lv_aload_n hx hb dX12_forget_46 rfl (lv_at hl 1 rfl) ?_
        refine lv_iconst (v := 0) hx hb dX12_forget_47 (by decide) ?_
        refine va_put (D := D) (ci := 12) (v := .int 0) (ty := tyX12 60) (C := RX12) (T := TX12) (N := 100) hx hb hg inX12 tyX12 tyX12_ok nmX12 hown hK hP hD hS 0 rfl rfl 60 (by decide) (hg _ w1766) (fun _ h9 => h9) rfl (tyX12_ok 60 (by decide)) rfl rfl (Nat.le_of_ble_eq_true rfl) dX12_forget_48 (fun H locs hP hD hS => ?_)
        obtain ⟨V10, hV10⟩ : ∃ z, z = up2 V6 0 60 0 := ⟨_, rfl⟩
        have hP : va_P D vwCl (mw ad kk ks.1 V10 L) H := by rw [hV10]; exact hP
        have hD : va_D A (mw ad kk ks.1 V10 L) := by rw [hV10]; exact hD
        have hMV10 : rgd bM V10 := hMV6.put hV10 (by decide)
        have agV10 : agr [(0, 54), (0, 55), (0, 60), (0, 65), (0, 69), (0, 70), (0, 71), (0, 72), (0, 73), (0, 76), (0, 81)] [56, 57, 59] V V10 := agV6.up hV10 rfl
        refine lv_aload_n hx hb dX12_forget_51 rfl (lv_at hl 1 rfl) ?_
        refine lv_iconst (v := 0) hx hb dX12_forget_52 (by decide) ?_
        refine va_put (D := D) (ci := 12) (v := .int 0) (ty := tyX12 65) (C := RX12) (T := TX12) (N := 100) hx hb hg inX12 tyX12 tyX12_ok nmX12 hown hK hP hD hS 0 rfl rfl 65 (by decide) (hg _ w1771) (fun _ h9 => h9) rfl (tyX12_ok 65 (by decide)) rfl rfl (Nat.le_of_ble_eq_true rfl) dX12_forget_53 (fun H locs hP hD hS => ?_)
        obtain ⟨V11, hV11⟩ : ∃ z, z = up2 V10 0 65 0 := ⟨_, rfl⟩
        have hP : va_P D vwCl (mw ad kk ks.1 V11 L) H := by rw [hV11]; exact hP
        have hD : va_D A (mw ad kk ks.1 V11 L) := by rw [hV11]; exact hD
        have hMV11 : rgd bM V11 := hMV10.put hV11 (by decide)
        have agV11 : agr [(0, 54), (0, 55), (0, 60), (0, 65), (0, 69), (0, 70), (0, 71), (0, 72), (0, 73), (0, 76), (0, 81)] [56, 57, 59] V V11 := agV10.up hV11 rfl
        refine lv_aload_n hx hb dX12_forget_56 rfl (lv_at hl 1 rfl) ?_
        refine lv_iconst (v := 0) hx hb dX12_forget_57 (by decide) ?_
        refine va_put (D := D) (ci := 12) (v := .int 0) (ty := tyX12 73) (C := RX12) (T := TX12) (N := 100) hx hb hg inX12 tyX12 tyX12_ok nmX12 hown hK hP hD hS 0 rfl rfl 73 (by decide) (hg _ w1779) (fun _ h9 => h9) rfl (tyX12_ok 73 (by decide)) rfl rfl (Nat.le_of_ble_eq_true rfl) dX12_forget_58 (fun H locs hP hD hS => ?_)
        obtain ⟨V12, hV12⟩ : ∃ z, z = up2 V11 0 73 0 := ⟨_, rfl⟩
        have hP : va_P D vwCl (mw ad kk ks.1 V12 L) H := by rw [hV12]; exact hP
        have hD : va_D A (mw ad kk ks.1 V12 L) := by rw [hV12]; exact hD
        have hMV12 : rgd bM V12 := hMV11.put hV12 (by decide)
        have agV12 : agr [(0, 54), (0, 55), (0, 60), (0, 65), (0, 69), (0, 70), (0, 71), (0, 72), (0, 73), (0, 76), (0, 81)] [56, 57, 59] V V12 := agV11.up hV12 rfl
        refine lv_aload_n hx hb dX12_forget_61 rfl (lv_at hl 1 rfl) ?_
        refine lv_iconst (v := 0) hx hb dX12_forget_62 (by decide) ?_
        refine va_put (D := D) (ci := 12) (v := .int 0) (ty := tyX12 76) (C := RX12) (T := TX12) (N := 100) hx hb hg inX12 tyX12 tyX12_ok nmX12 hown hK hP hD hS 0 rfl rfl 76 (by decide) (hg _ w1782) (fun _ h9 => h9) rfl (tyX12_ok 76 (by decide)) rfl rfl (Nat.le_of_ble_eq_true rfl) dX12_forget_63 (fun H locs hP hD hS => ?_)
        obtain ⟨V13, hV13⟩ : ∃ z, z = up2 V12 0 76 0 := ⟨_, rfl⟩
        have hP : va_P D vwCl (mw ad kk ks.1 V13 L) H := by rw [hV13]; exact hP
        have hD : va_D A (mw ad kk ks.1 V13 L) := by rw [hV13]; exact hD
        have hMV13 : rgd bM V13 := hMV12.put hV13 (by decide)
        have agV13 : agr [(0, 54), (0, 55), (0, 60), (0, 65), (0, 69), (0, 70), (0, 71), (0, 72), (0, 73), (0, 76), (0, 81)] [56, 57, 59] V V13 := agV12.up hV13 rfl
        refine lv_aload_n hx hb dX12_forget_66 rfl (lv_at hl 1 rfl) ?_
        refine lv_iconst (v := 0) hx hb dX12_forget_67 (by decide) ?_
        refine va_put (D := D) (ci := 12) (v := .int 0) (ty := tyX12 70) (C := RX12) (T := TX12) (N := 100) hx hb hg inX12 tyX12 tyX12_ok nmX12 hown hK hP hD hS 0 rfl rfl 70 (by decide) (hg _ w1776) (fun _ h9 => h9) rfl (tyX12_ok 70 (by decide)) rfl rfl (Nat.le_of_ble_eq_true rfl) dX12_forget_68 (fun H locs hP hD hS => ?_)
        obtain ⟨V14, hV14⟩ : ∃ z, z = up2 V13 0 70 0 := ⟨_, rfl⟩
        have hP : va_P D vwCl (mw ad kk ks.1 V14 L) H := by rw [hV14]; exact hP
        have hD : va_D A (mw ad kk ks.1 V14 L) := by rw [hV14]; exact hD
        have hMV14 : rgd bM V14 := hMV13.put hV14 (i_full _)
        have agV14 : agr [(0, 54), (0, 55), (0, 60), (0, 65), (0, 69), (0, 70), (0, 71), (0, 72), (0, 73), (0, 76), (0, 81)] [56, 57, 59] V V14 := agV13.up hV14 rfl
        refine lv_aload_n hx hb dX12_forget_71 rfl (lv_at hl 1 rfl) ?_
        refine lv_iconst (v := 0) hx hb dX12_forget_72 (by decide) ?_
        refine va_put (D := D) (ci := 12) (v := .int 0) (ty := tyX12 71) (C := RX12) (T := TX12) (N := 100) hx hb hg inX12 tyX12 tyX12_ok nmX12 hown hK hP hD hS 0 rfl rfl 71 (by decide) (hg _ w1777) (fun _ h9 => h9) rfl (tyX12_ok 71 (by decide)) rfl rfl (Nat.le_of_ble_eq_true rfl) dX12_forget_73 (fun H locs hP hD hS => ?_)
        obtain ⟨V15, hV15⟩ : ∃ z, z = up2 V14 0 71 0 := ⟨_, rfl⟩
        have hP : va_P D vwCl (mw ad kk ks.1 V15 L) H := by rw [hV15]; exact hP
        have hD : va_D A (mw ad kk ks.1 V15 L) := by rw [hV15]; exact hD
        have hMV15 : rgd bM V15 := hMV14.put hV15 (i_full _)
        have agV15 : agr [(0, 54), (0, 55), (0, 60), (0, 65), (0, 69), (0, 70), (0, 71), (0, 72), (0, 73), (0, 76), (0, 81)] [56, 57, 59] V V15 := agV14.up hV15 rfl
        refine lv_aload_n hx hb dX12_forget_76 rfl (lv_at hl 1 rfl) ?_
        refine lv_iconst (v := 0) hx hb dX12_forget_77 (by decide) ?_
        refine va_put (D := D) (ci := 12) (v := .int 0) (ty := tyX12 72) (C := RX12) (T := TX12) (N := 100) hx hb hg inX12 tyX12 tyX12_ok nmX12 hown hK hP hD hS 0 rfl rfl 72 (by decide) (hg _ w1778) (fun _ h9 => h9) rfl (tyX12_ok 72 (by decide)) rfl rfl (Nat.le_of_ble_eq_true rfl) dX12_forget_78 (fun H locs hP hD hS => ?_)
        obtain ⟨V16, hV16⟩ : ∃ z, z = up2 V15 0 72 0 := ⟨_, rfl⟩
        have hP : va_P D vwCl (mw ad kk ks.1 V16 L) H := by rw [hV16]; exact hP
        have hD : va_D A (mw ad kk ks.1 V16 L) := by rw [hV16]; exact hD
        have hMV16 : rgd bM V16 := hMV15.put hV16 (i_full _)
        have agV16 : agr [(0, 54), (0, 55), (0, 60), (0, 65), (0, 69), (0, 70), (0, 71), (0, 72), (0, 73), (0, 76), (0, 81)] [56, 57, 59] V V16 := agV15.up hV16 rfl
        refine lv_aload_n hx hb dX12_forget_81 rfl (lv_at hl 1 rfl) ?_
        refine lv_iconst (v := 0) hx hb dX12_forget_82 (by decide) ?_
        refine va_put (D := D) (ci := 12) (v := .int 0) (ty := tyX12 69) (C := RX12) (T := TX12) (N := 100) hx hb hg inX12 tyX12 tyX12_ok nmX12 hown hK hP hD hS 0 rfl rfl 69 (by decide) (hg _ w1775) (fun _ h9 => h9) rfl (tyX12_ok 69 (by decide)) rfl rfl (Nat.le_of_ble_eq_true rfl) dX12_forget_83 (fun H locs hP hD hS => ?_)
        obtain ⟨V17, hV17⟩ : ∃ z, z = up2 V16 0 69 0 := ⟨_, rfl⟩
        have hP : va_P D vwCl (mw ad kk ks.1 V17 L) H := by rw [hV17]; exact hP
        have hD : va_D A (mw ad kk ks.1 V17 L) := by rw [hV17]; exact hD
        have hMV17 : rgd bM V17 := hMV16.put hV17 (by decide)
        have agV17 : agr [(0, 54), (0, 55), (0, 60), (0, 65), (0, 69), (0, 70), (0, 71), (0, 72), (0, 73), (0, 76), (0, 81)] [56, 57, 59] V V17 := agV16.up hV17 rfl
        refine lv_aload_n hx hb dX12_forget_86 rfl (lv_at hl 1 rfl) ?_
        refine lv_iconst (v := 0) hx hb dX12_forget_87 (by decide) ?_
        refine va_put (D := D) (ci := 12) (v := .int 0) (ty := tyX12 81) (C := RX12) (T := TX12) (N := 100) hx hb hg inX12 tyX12 tyX12_ok nmX12 hown hK hP hD hS 0 rfl rfl 81 (by decide) (hg _ w1787) (fun _ h9 => h9) rfl (tyX12_ok 81 (by decide)) rfl rfl (Nat.le_of_ble_eq_true rfl) dX12_forget_88 (fun H locs hP hD hS => ?_)
        obtain ⟨V18, hV18⟩ : ∃ z, z = up2 V17 0 81 0 := ⟨_, rfl⟩
        have hP : va_P D vwCl (mw ad kk ks.1 V18 L) H := by rw [hV18]; exact hP
        have hD : va_D A (mw ad kk ks.1 V18 L) := by rw [hV18]; exact hD
        have hMV18 : rgd bM V18 := hMV17.put hV18 (by decide)
        have agV18 : agr [(0, 54), (0, 55), (0, 60), (0, 65), (0, 69), (0, 70), (0, 71), (0, 72), (0, 73), (0, 76), (0, 81)] [56, 57, 59] V V18 := agV17.up hV18 rfl
        have pq19 : (V18 0 73).toInt = 0 := (congrArg Int32.toInt ((up2_k hV18 (by decide)).trans ((up2_k hV17 (by decide)).trans ((up2_k hV16 (by decide)).trans ((up2_k hV15 (by decide)).trans ((up2_k hV14 (by decide)).trans ((up2_k hV13 (by decide)).trans (up2_s hV12)))))))).trans (by decide)
        have pq20 : (V18 0 76).toInt = 0 := (congrArg Int32.toInt ((up2_k hV18 (by decide)).trans ((up2_k hV17 (by decide)).trans ((up2_k hV16 (by decide)).trans ((up2_k hV15 (by decide)).trans ((up2_k hV14 (by decide)).trans (up2_s hV13))))))).trans (by decide)
        have pq21 : (V18 0 54).toInt = 0 := (congrArg Int32.toInt ((up2_k hV18 (by decide)).trans ((up2_k hV17 (by decide)).trans ((up2_k hV16 (by decide)).trans ((up2_k hV15 (by decide)).trans ((up2_k hV14 (by decide)).trans ((up2_k hV13 (by decide)).trans ((up2_k hV12 (by decide)).trans ((up2_k hV11 (by decide)).trans ((up2_k hV10 (by decide)).trans ((ajV6 0 54 rfl).trans ((up2_o hV4 (by decide)).trans ((up2_o hV3 (by decide)).trans ((up2_k hV2 (by decide)).trans (up2_s hV1))))))))))))))).trans (by decide)
        have pq22 : (V18 0 65).toInt = 0 := (congrArg Int32.toInt ((up2_k hV18 (by decide)).trans ((up2_k hV17 (by decide)).trans ((up2_k hV16 (by decide)).trans ((up2_k hV15 (by decide)).trans ((up2_k hV14 (by decide)).trans ((up2_k hV13 (by decide)).trans ((up2_k hV12 (by decide)).trans (up2_s hV11))))))))).trans (by decide)
        have pq23 : (V18 0 60).toInt = 0 := (congrArg Int32.toInt ((up2_k hV18 (by decide)).trans ((up2_k hV17 (by decide)).trans ((up2_k hV16 (by decide)).trans ((up2_k hV15 (by decide)).trans ((up2_k hV14 (by decide)).trans ((up2_k hV13 (by decide)).trans ((up2_k hV12 (by decide)).trans ((up2_k hV11 (by decide)).trans (up2_s hV10)))))))))).trans (by decide)
        have pq24 : (V18 0 55).toInt = 1 := (congrArg Int32.toInt ((up2_k hV18 (by decide)).trans ((up2_k hV17 (by decide)).trans ((up2_k hV16 (by decide)).trans ((up2_k hV15 (by decide)).trans ((up2_k hV14 (by decide)).trans ((up2_k hV13 (by decide)).trans ((up2_k hV12 (by decide)).trans ((up2_k hV11 (by decide)).trans ((up2_k hV10 (by decide)).trans ((ajV6 0 55 rfl).trans ((up2_o hV4 (by decide)).trans ((up2_o hV3 (by decide)).trans (up2_s hV2)))))))))))))).trans (by decide)
        have pq25 : (V18 0 81).toInt = 0 := (congrArg Int32.toInt (up2_s hV18)).trans (by decide)
        have pq26 : (V18 0 72).toInt = 0 := (congrArg Int32.toInt ((up2_k hV18 (by decide)).trans ((up2_k hV17 (by decide)).trans (up2_s hV16)))).trans (by decide)
        have pq27 : (V18 0 71).toInt = 0 := (congrArg Int32.toInt ((up2_k hV18 (by decide)).trans ((up2_k hV17 (by decide)).trans ((up2_k hV16 (by decide)).trans (up2_s hV15))))).trans (by decide)
        have pq28 : (V18 0 69).toInt = 0 := (congrArg Int32.toInt ((up2_k hV18 (by decide)).trans (up2_s hV17))).trans (by decide)
        have z0 : Int32.toNatClampNeg 0 = 0 := by decide
        have f56 : (V4 56 0).toInt = 1 := by have h9 := (up2_o hV4 (by decide)).trans (up2_s hV3); rw [z0] at h9; rw [h9]; decide
        have f57 : (V4 57 0).toInt = 0 := by have h9 := up2_s hV4; rw [z0] at h9; rw [h9]; decide
        have f58 : ∀ s9 : Nat, s9 ≠ 0 → V4 57 s9 = V 57 s9 := fun s9 h9 => (up2_k hV4 (by rw [z0]; exact h9)).trans ((up2_o hV3 (by decide)).trans ((up2_o hV2 (by decide)).trans (up2_o hV1 (by decide))))
        exact W.vret hx hb hr (fun t ht hW => ⟨⟨(V18, L), rfl, ⟨hMV18, agV18, rfl, (show (V18 0 60).toInt = 0 ∧ (V18 0 54).toInt = 0 ∧ (V18 0 65).toInt = 0 ∧ (V18 0 73).toInt = 0 ∧ (V18 0 76).toInt = 0 from by (first | exact om_1eec92a7aae7 pq19 pq20 pq21 pq22 pq23 | omega)), (show (V18 0 55).toInt = 1 from by (first | exact om_710535a98d88 pq24 | omega)), (show (V18 0 81).toInt = 0 from by (first | exact om_b66ba74381d5 pq25 | omega)), (show (V18 0 71).toInt = 0 ∧ (V18 0 72).toInt = 0 ∧ (V18 0 69).toInt = 0 from by (first | exact om_3e4db5a3624c pq26 pq27 pq28 | omega)), ⟨by show (V18 56 0).toInt = 1; rw [(show agr [(0, 60), (0, 65), (0, 69), (0, 70), (0, 71), (0, 72), (0, 73), (0, 76), (0, 81)] [59] V4 V18 from (agr.up (agr.up (agr.up (agr.up (agr.up (agr.up (agr.up (agr.up (agr.up (agr.tr agr.rf ajV6 (by decide) (by decide)) hV10 rfl) hV11 rfl) hV12 rfl) hV13 rfl) hV14 rfl) hV15 rfl) hV16 rfl) hV17 rfl) hV18 rfl)) 56 0 rfl]; exact f56, by show (V18 57 0).toInt = 0; rw [(show agr [(0, 60), (0, 65), (0, 69), (0, 70), (0, 71), (0, 72), (0, 73), (0, 76), (0, 81)] [59] V4 V18 from (agr.up (agr.up (agr.up (agr.up (agr.up (agr.up (agr.up (agr.up (agr.up (agr.tr agr.rf ajV6 (by decide) (by decide)) hV10 rfl) hV11 rfl) hV12 rfl) hV13 rfl) hV14 rfl) hV15 rfl) hV16 rfl) hV17 rfl) hV18 rfl)) 57 0 rfl]; exact f57, fun s9 h9 => ((show agr [(0, 60), (0, 65), (0, 69), (0, 70), (0, 71), (0, 72), (0, 73), (0, 76), (0, 81)] [59] V4 V18 from (agr.up (agr.up (agr.up (agr.up (agr.up (agr.up (agr.up (agr.up (agr.up (agr.tr agr.rf ajV6 (by decide) (by decide)) hV10 rfl) hV11 rfl) hV12 rfl) hV13 rfl) hV14 rfl) hV15 rfl) hV16 rfl) hV17 rfl) hV18 rfl)) 57 s9 rfl).trans (f58 s9 h9), fun q9 h9 => by show (V18 59 q9).toInt = 0; rw [(show agr [(0, 60), (0, 65), (0, 69), (0, 70), (0, 71), (0, 72), (0, 73), (0, 76), (0, 81)] [] V6 V18 from (agr.up (agr.up (agr.up (agr.up (agr.up (agr.up (agr.up (agr.up (agr.up agr.rf hV10 rfl) hV11 rfl) hV12 rfl) hV13 rfl) hV14 rfl) hV15 rfl) hV16 rfl) hV17 rfl) hV18 rfl)) 59 q9 rfl]; exact xlp7_0 q9 (by omega)⟩⟩, by rw [ht]; exact hP, va_K.moved hW.alike hK, hD⟩, hS.F ht⟩) hS.2.2 dX12_forget_91
      · skip
        have f29 : y5.toInt < 960 := b_nle (by decide) rfl c8
        refine lv_aload_n hx hb dX12_forget_33 rfl (lv_at hl 1 rfl) ?_
        refine va_get (D := D) (ci := 12) (v := .ref (ad 59)) (C := RX12) (T := TX12) (N := 100) hx hb hg inX12 hown hK hP 0 rfl rfl 59 (by decide) (hg _ w1765) (fun _ h9 => h9) rfl dX12_forget_34 ?_
        refine lv_iload_n hx hb dX12_forget_37 rfl (lv_at hl 0 rfl) ?_
        refine lv_iconst (v := 0) hx hb dX12_forget_38 (by decide) ?_
        refine va_zast (D := D) (i := y5) (x := 0) hx hb hK hP hD hS 45 44 rfl rfl (i_in (a := y5.toInt) rfl (by (first | exact om_ed46e1c3cf09 klp7_0.1 f29 | omega))) dX12_forget_39 (fun H locs hP hD hS => ?_)
        obtain ⟨V30, hV30⟩ : ∃ z, z = up2 V6 59 (Int32.toNatClampNeg y5) (vp_nar .boolean 0) := ⟨_, rfl⟩
        have hP : va_P D vwCl (mw ad kk ks.1 V30 L) H := by rw [hV30]; exact hP
        have hD : va_D A (mw ad kk ks.1 V30 L) := by rw [hV30]; exact hD
        have hMV30 : rgd bM V30 := hMV6.put hV30 (nar_b _)
        have agV30 : agr [(0, 54), (0, 55), (0, 60), (0, 65), (0, 69), (0, 70), (0, 71), (0, 72), (0, 73), (0, 76), (0, 81)] [56, 57, 59] V V30 := agV6.up hV30 rfl
        obtain ⟨z31, ez31⟩ : ∃ y : Int32, y = y5 + 1 := ⟨_, rfl⟩
        have hz31 : z31.toInt = y5.toInt + 1 := i_add ez31 rfl (by decide) (by (first | exact om_1bb32e01d4a3 klp7_0.1 f29 | omega))
        refine lv_iinc (v := z31) (lv' := [(1, .int z31), (0, .ref (ad 0))]) hx hb dX12_forget_40 hl (k := 0) rfl (by rw [ez31]; rfl) (by decide) rfl (fun ls hl => ?_)
        refine lv_goto (tgt := 26) hx hb dX12_forget_43 (by decide) ?_
        have ky9 := i_clamp (x := y5) rfl (by (first | exact om_eafa9039069c klp7_0.1 | omega))
        have fg32 : (∀ j9 : Nat, (j9 : Int) < z31.toInt → (V30 59 j9).toInt = 0) := fun j9 h9 => by
          by_cases q9 : j9 = (Int32.toNatClampNeg y5)
          · rw [q9, up2_s hV30]; decide
          · rw [up2_k hV30 q9]; exact xlp7_0 j9 (by omega)
        exact ihlp7 z31 V30 H locs ls (by (first | exact om_7ce5d8ac6511 klp7_0.1 f29 hz31 | omega)) fg32 (by (first | exact om_b35da99adc69 hn hz31 | omega)) (agr.up (agr.tr agr.rf ajV6 (by decide) (by decide)) hV30 rfl) hMV30 hP hD hS (lv_sub hl [0, 1] rfl)
  have r33 : Int32.toInt 0 = 0 := by decide
  exact lp7 ((960 - (Int32.toInt 0) + 1 : Int).toNat) 0 V4 H locs ls (by decide) (fun j9 h9 => by have h8 : Int32.toInt 0 = 0 := (by decide); exfalso; omega) (by (first | exact om_2733943334af | omega)) agr.rf hMV4 hP hD hS (lv_sub hl [0, 1] rfl)
