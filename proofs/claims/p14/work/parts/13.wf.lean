/-! What an E is turned into by the reference: ranges of its code. oc: the order, oa, ob: what goes with it. -/
def oc (V : Vf) (i : Nat) : Int := (V 45 i).toInt
def oa (V : Vf) (i : Nat) : Int := (V 46 i).toInt
def ob (V : Vf) (i : Nat) : Int := (V 47 i).toInt
/-- a PART's last order, behind what is in it: NEGATE, OF, GO -/
def wfU (nd : Int) (ar : Bool) (V : Vf) (m : Nat) : Prop := oc V m = 4 ∨ (oc V m = 14 ∧ 0 ≤ oa V m ∧ oa V m < nd ∧ 0 ≤ ob V m ∧ ob V m ≤ 19) ∨ (oc V m = 15 ∧ ar = true)
/-- NUMBER, ARG, FAIL, SETTING -/
def wfL (V : Vf) (m : Nat) : Prop := oc V m = 2 ∨ oc V m = 3 ∨ oc V m = 10 ∨ (oc V m = 11 ∧ 0 ≤ oa V m ∧ oa V m ≤ 11)
/-- the range from a to b puts one value, with at most h more on the pile meanwhile (nd: how many needs there are; ar: within an around); by fuel -/
def wfE (nd : Int) (ar : Bool) (V : Vf) : Nat → Nat → Nat → Nat → Prop
  | 0, _, _, _ => False
  | f + 1, h, a, b =>
    (oc V a = 1 ∧ ((b = a + 2 ∧ 1 ≤ h ∧ wfL V (a + 1)) ∨ wfE nd ar V f h (a + 1) b ∨ (∃ (m : Nat), wfE nd ar V f h (a + 1) m ∧ b = m + 1 ∧ wfU nd ar V m)
      ∨ (∃ (m1 m2 : Nat), wfE nd ar V f h (a + 1) m1 ∧ oc V m1 = 12 ∧ oa V m1 = (m2 : Int) + 1 ∧ wfE nd ar V f h (m1 + 1) m2 ∧ oc V m2 = 13 ∧ oa V m2 = (b : Int) ∧ wfE nd ar V f h (m2 + 1) b)))
    ∨ (∃ (m m2 j : Nat), wfE nd ar V f h a m ∧ wfE nd ar V f j m m2 ∧ j + 1 ≤ h ∧ b = m2 + 1 ∧ 5 ≤ oc V m2 ∧ oc V m2 ≤ 9)
theorem wfE_lt {nd : Int} {ar : Bool} {V : Vf} : ∀ (f h a b : Nat), wfE nd ar V f h a b → a < b
  | 0, _, _, _, q => q.elim
  | f + 1, h, a, b, q => by
    rcases q with ⟨-, q | q | ⟨m, q, e, -⟩ | ⟨m1, m2, h1, -, -, h2, -, -, h3⟩⟩ | ⟨m, m2, j, h1, h2, -, e, -⟩
    · omega
    · have := wfE_lt f _ _ _ q; omega
    · have := wfE_lt f _ _ _ q; omega
    · have := wfE_lt f _ _ _ h1; have := wfE_lt f _ _ _ h2; have := wfE_lt f _ _ _ h3; omega
    · have := wfE_lt f _ _ _ h1; have := wfE_lt f _ _ _ h2; omega
theorem wfE_up {nd : Int} {ar : Bool} {V : Vf} : ∀ (f h a b : Nat), wfE nd ar V f h a b → wfE nd ar V (f + 1) h a b
  | 0, _, _, _, q => q.elim
  | f + 1, h, a, b, q => by
    rcases q with ⟨h0, q | q | ⟨m, q, e, u⟩ | ⟨m1, m2, h1, q1, q2, h2, q3, q4, h3⟩⟩ | ⟨m, m2, j, h1, h2, e⟩
    · exact Or.inl ⟨h0, Or.inl q⟩
    · exact Or.inl ⟨h0, Or.inr (Or.inl (wfE_up f _ _ _ q))⟩
    · exact Or.inl ⟨h0, Or.inr (Or.inr (Or.inl ⟨m, wfE_up f _ _ _ q, e, u⟩))⟩
    · exact Or.inl ⟨h0, Or.inr (Or.inr (Or.inr ⟨m1, m2, wfE_up f _ _ _ h1, q1, q2, wfE_up f _ _ _ h2, q3, q4, wfE_up f _ _ _ h3⟩))⟩
    · exact Or.inr ⟨m, m2, j, wfE_up f _ _ _ h1, wfE_up f _ _ _ h2, e⟩
theorem wfE_le {nd : Int} {ar : Bool} {V : Vf} {f g h a b : Nat} (q : wfE nd ar V f h a b) (hg : f ≤ g) : wfE nd ar V g h a b := by
  induction hg with
  | refl => exact q
  | step _ ih => exact wfE_up _ _ _ _ ih
def WE (nd : Int) (ar : Bool) (V : Vf) (h a b : Nat) : Prop := ∃ f, wfE nd ar V f h a b
theorem WE.lt {nd : Int} {ar : Bool} {V : Vf} {h a b : Nat} (q : WE nd ar V h a b) : a < b := by
  obtain ⟨f, q⟩ := q
  exact wfE_lt f h a b q
theorem WE_leaf {nd : Int} {ar : Bool} {V : Vf} {h a : Nat} (h0 : oc V a = 1) (hh : 1 ≤ h) (h1 : wfL V (a + 1)) : WE nd ar V h a (a + 2) := ⟨1, Or.inl ⟨h0, Or.inl ⟨rfl, hh, h1⟩⟩⟩
theorem WE_par {nd : Int} {ar : Bool} {V : Vf} {h a b : Nat} (h0 : oc V a = 1) (q : WE nd ar V h (a + 1) b) : WE nd ar V h a b := by
  obtain ⟨f, q⟩ := q
  exact ⟨f + 1, Or.inl ⟨h0, Or.inr (Or.inl q)⟩⟩
theorem WE_un {nd : Int} {ar : Bool} {V : Vf} {h a m : Nat} (h0 : oc V a = 1) (q : WE nd ar V h (a + 1) m) (u : wfU nd ar V m) : WE nd ar V h a (m + 1) := by
  obtain ⟨f, q⟩ := q
  exact ⟨f + 1, Or.inl ⟨h0, Or.inr (Or.inr (Or.inl ⟨m, q, rfl, u⟩))⟩⟩
theorem WE_pick {nd : Int} {ar : Bool} {V : Vf} {h a b m1 m2 : Nat} (h0 : oc V a = 1) (h1 : WE nd ar V h (a + 1) m1) (q1 : oc V m1 = 12) (q2 : oa V m1 = (m2 : Int) + 1) (h2 : WE nd ar V h (m1 + 1) m2) (q3 : oc V m2 = 13) (q4 : oa V m2 = (b : Int)) (h3 : WE nd ar V h (m2 + 1) b) : WE nd ar V h a b := by
  obtain ⟨f1, h1⟩ := h1
  obtain ⟨f2, h2⟩ := h2
  obtain ⟨f3, h3⟩ := h3
  exact ⟨f1 + f2 + f3 + 1, Or.inl ⟨h0, Or.inr (Or.inr (Or.inr ⟨m1, m2, wfE_le h1 (by omega), q1, q2, wfE_le h2 (by omega), q3, q4, wfE_le h3 (by omega)⟩))⟩⟩
theorem WE_bin {nd : Int} {ar : Bool} {V : Vf} {h j a m m2 : Nat} (h1 : WE nd ar V h a m) (h2 : WE nd ar V j m m2) (hj : j + 1 ≤ h) (q : 5 ≤ oc V m2 ∧ oc V m2 ≤ 9) : WE nd ar V h a (m2 + 1) := by
  obtain ⟨f1, h1⟩ := h1
  obtain ⟨f2, h2⟩ := h2
  exact ⟨f1 + f2 + 1, Or.inr ⟨m, m2, j, wfE_le h1 (by omega), wfE_le h2 (by omega), hj, rfl, q.1, q.2⟩⟩
/-- the same code from x to y -/
def same3 (V W : Vf) (x y : Nat) : Prop := ∀ i, x ≤ i → i < y → W 45 i = V 45 i ∧ W 46 i = V 46 i ∧ W 47 i = V 47 i
theorem same3.sub {V W : Vf} {x y x' y' : Nat} (h : same3 V W x y) (h1 : x ≤ x') (h2 : y' ≤ y) : same3 V W x' y' := fun i a b => h i (by omega) (by omega)
theorem same3.tr {V W X : Vf} {x y : Nat} (h : same3 V W x y) (h2 : same3 W X x y) : same3 V X x y := fun i a b => ⟨(h2 i a b).1.trans (h i a b).1, (h2 i a b).2.1.trans (h i a b).2.1, (h2 i a b).2.2.trans (h i a b).2.2⟩
theorem same3.oc {V W : Vf} {x y i : Nat} (h : same3 V W x y) (h1 : x ≤ i) (h2 : i < y) : oc W i = oc V i := congrArg Int32.toInt (h i h1 h2).1
theorem same3.oa {V W : Vf} {x y i : Nat} (h : same3 V W x y) (h1 : x ≤ i) (h2 : i < y) : oa W i = oa V i := congrArg Int32.toInt (h i h1 h2).2.1
theorem same3.ob {V W : Vf} {x y i : Nat} (h : same3 V W x y) (h1 : x ≤ i) (h2 : i < y) : ob W i = ob V i := congrArg Int32.toInt (h i h1 h2).2.2
theorem wfE_same {nd : Int} {ar : Bool} {V W : Vf} : ∀ (f h a b : Nat), same3 V W a b → wfE nd ar V f h a b → wfE nd ar W f h a b
  | 0, _, _, _, _, q => q.elim
  | f + 1, h, a, b, hs, q => by
    rcases q with ⟨h0, q | q | ⟨m, q, e, u⟩ | ⟨m1, m2, h1, q1, q2, h2, q3, q4, h3⟩⟩ | ⟨m, m2, j, h1, h2, hj, e, q⟩
    · obtain ⟨e, hh, q⟩ := q
      refine Or.inl ⟨by rw [hs.oc (by omega) (by omega)]; exact h0, Or.inl ⟨e, hh, ?_⟩⟩
      unfold wfL at q ⊢
      rw [hs.oc (by omega) (by omega), hs.oa (by omega) (by omega)]
      exact q
    · have l1 := wfE_lt f _ _ _ q
      exact Or.inl ⟨by rw [hs.oc (by omega) (by omega)]; exact h0, Or.inr (Or.inl (wfE_same f _ _ _ (hs.sub (by omega) (by omega)) q))⟩
    · have l1 := wfE_lt f _ _ _ q
      refine Or.inl ⟨by rw [hs.oc (by omega) (by omega)]; exact h0, Or.inr (Or.inr (Or.inl ⟨m, wfE_same f _ _ _ (hs.sub (by omega) (by omega)) q, e, ?_⟩))⟩
      unfold wfU at u ⊢
      rw [hs.oc (by omega) (by omega), hs.oa (by omega) (by omega), hs.ob (by omega) (by omega)]
      exact u
    · have l1 := wfE_lt f _ _ _ h1
      have l2 := wfE_lt f _ _ _ h2
      have l3 := wfE_lt f _ _ _ h3
      exact Or.inl ⟨by rw [hs.oc (by omega) (by omega)]; exact h0, Or.inr (Or.inr (Or.inr ⟨m1, m2, wfE_same f _ _ _ (hs.sub (by omega) (by omega)) h1, by rw [hs.oc (by omega) (by omega)]; exact q1, by rw [hs.oa (by omega) (by omega)]; exact q2, wfE_same f _ _ _ (hs.sub (by omega) (by omega)) h2, by rw [hs.oc (by omega) (by omega)]; exact q3, by rw [hs.oa (by omega) (by omega)]; exact q4, wfE_same f _ _ _ (hs.sub (by omega) (by omega)) h3⟩))⟩
    · have l1 := wfE_lt f _ _ _ h1
      have l2 := wfE_lt f _ _ _ h2
      refine Or.inr ⟨m, m2, j, wfE_same f _ _ _ (hs.sub (by omega) (by omega)) h1, wfE_same f _ _ _ (hs.sub (by omega) (by omega)) h2, hj, e, ?_⟩
      rw [hs.oc (by omega) (by omega)]
      exact q
theorem WE.same {nd : Int} {ar : Bool} {V W : Vf} {h a b : Nat} (q : WE nd ar V h a b) (hs : same3 V W a b) : WE nd ar W h a b := by
  obtain ⟨f, q⟩ := q
  exact ⟨f, wfE_same f h a b hs q⟩
/-! From a place on, with k values on the pile: all goes well to the END. lo, hi: where the code lies; hm: how high the pile may grow. By fuel. -/
def OKc (nd : Int) (ar : Bool) (V : Vf) (hm lo hi : Nat) : Nat → Nat → Nat → Prop
  | 0, _, _ => False
  | f + 1, p, k => lo ≤ p ∧ p < hi ∧ k ≤ hm ∧
    ((oc V p = 0 ∧ k = 1) ∨ (oc V p = 1 ∧ OKc nd ar V hm lo hi f (p + 1) k)
    ∨ ((oc V p = 2 ∨ oc V p = 3 ∨ (oc V p = 11 ∧ 0 ≤ oa V p ∧ oa V p ≤ 11)) ∧ k + 1 ≤ hm ∧ OKc nd ar V hm lo hi f (p + 1) (k + 1))
    ∨ oc V p = 10 ∨ (wfU nd ar V p ∧ 1 ≤ k ∧ OKc nd ar V hm lo hi f (p + 1) k)
    ∨ (5 ≤ oc V p ∧ oc V p ≤ 9 ∧ ∃ j : Nat, k = j + 2 ∧ OKc nd ar V hm lo hi f (p + 1) (j + 1))
    ∨ (oc V p = 12 ∧ ∃ j t : Nat, k = j + 1 ∧ oa V p = (t : Int) ∧ OKc nd ar V hm lo hi f (p + 1) j ∧ OKc nd ar V hm lo hi f t j)
    ∨ (oc V p = 13 ∧ ∃ t : Nat, oa V p = (t : Int) ∧ OKc nd ar V hm lo hi f t k))
theorem OKc_up {nd : Int} {ar : Bool} {V : Vf} {hm lo hi : Nat} : ∀ (f p k : Nat), OKc nd ar V hm lo hi f p k → OKc nd ar V hm lo hi (f + 1) p k
  | 0, _, _, q => q.elim
  | f + 1, p, k, q => by
    obtain ⟨a, b, c, q⟩ := q
    refine ⟨a, b, c, ?_⟩
    rcases q with q | ⟨q, r⟩ | ⟨q, z, r⟩ | q | ⟨q, z, r⟩ | ⟨q, z, j, e, r⟩ | ⟨q, j, t, e, z, r, r2⟩ | ⟨q, t, z, r⟩
    · exact Or.inl q
    · exact Or.inr (Or.inl ⟨q, OKc_up f _ _ r⟩)
    · exact Or.inr (Or.inr (Or.inl ⟨q, z, OKc_up f _ _ r⟩))
    · exact Or.inr (Or.inr (Or.inr (Or.inl q)))
    · exact Or.inr (Or.inr (Or.inr (Or.inr (Or.inl ⟨q, z, OKc_up f _ _ r⟩))))
    · exact Or.inr (Or.inr (Or.inr (Or.inr (Or.inr (Or.inl ⟨q, z, j, e, OKc_up f _ _ r⟩)))))
    · exact Or.inr (Or.inr (Or.inr (Or.inr (Or.inr (Or.inr (Or.inl ⟨q, j, t, e, z, OKc_up f _ _ r, OKc_up f _ _ r2⟩))))))
    · exact Or.inr (Or.inr (Or.inr (Or.inr (Or.inr (Or.inr (Or.inr ⟨q, t, z, OKc_up f _ _ r⟩))))))
theorem OKc_le {nd : Int} {ar : Bool} {V : Vf} {hm lo hi f g p k : Nat} (q : OKc nd ar V hm lo hi f p k) (hg : f ≤ g) : OKc nd ar V hm lo hi g p k := by
  induction hg with
  | refl => exact q
  | step _ ih => exact OKc_up _ _ _ ih
theorem OKc_same {nd nd' : Int} {ar : Bool} {V W : Vf} {hm lo hi hi' : Nat} (hn : nd ≤ nd') (hh : hi ≤ hi') (hs : same3 V W lo hi) : ∀ (f p k : Nat), OKc nd ar V hm lo hi f p k → OKc nd' ar W hm lo hi' f p k
  | 0, _, _, q => q.elim
  | f + 1, p, k, q => by
    obtain ⟨a, b, c, q⟩ := q
    refine ⟨a, by omega, c, ?_⟩
    rw [hs.oc a b, hs.oa a b]
    rcases q with q | ⟨q, r⟩ | ⟨q, z, r⟩ | q | ⟨q, z, r⟩ | ⟨q, z, j, e, r⟩ | ⟨q, j, t, e, z, r, r2⟩ | ⟨q, t, z, r⟩
    · exact Or.inl q
    · exact Or.inr (Or.inl ⟨q, OKc_same hn hh hs f _ _ r⟩)
    · exact Or.inr (Or.inr (Or.inl ⟨q, z, OKc_same hn hh hs f _ _ r⟩))
    · exact Or.inr (Or.inr (Or.inr (Or.inl q)))
    · refine Or.inr (Or.inr (Or.inr (Or.inr (Or.inl ⟨?_, z, OKc_same hn hh hs f _ _ r⟩))))
      unfold wfU at q ⊢
      rw [hs.oc a b, hs.oa a b, hs.ob a b]
      rcases q with q | ⟨q1, q2, q3, q4⟩ | q
      · exact Or.inl q
      · exact Or.inr (Or.inl ⟨q1, q2, by omega, q4⟩)
      · exact Or.inr (Or.inr q)
    · exact Or.inr (Or.inr (Or.inr (Or.inr (Or.inr (Or.inl ⟨q, z, j, e, OKc_same hn hh hs f _ _ r⟩)))))
    · exact Or.inr (Or.inr (Or.inr (Or.inr (Or.inr (Or.inr (Or.inl ⟨q, j, t, e, z, OKc_same hn hh hs f _ _ r, OKc_same hn hh hs f _ _ r2⟩))))))
    · exact Or.inr (Or.inr (Or.inr (Or.inr (Or.inr (Or.inr (Or.inr ⟨q, t, z, OKc_same hn hh hs f _ _ r⟩))))))
theorem OKc_k {nd : Int} {ar : Bool} {V : Vf} {hm lo hi f p k : Nat} (q : OKc nd ar V hm lo hi f p k) : k ≤ hm := by
  cases f with
  | zero => exact q.elim
  | succ f => exact q.2.2.1
theorem wfE_first {nd : Int} {ar : Bool} {V : Vf} : ∀ (f h a b : Nat), wfE nd ar V f h a b → oc V a = 1 ∧ 1 ≤ h
  | 0, _, _, _, q => q.elim
  | f + 1, h, a, b, q => by
    rcases q with ⟨h0, q | q | ⟨m, q, e, u⟩ | ⟨m1, m2, e1, q1, q2, e2, q3, q4, e3⟩⟩ | ⟨m, m2, j, e1, e2, hj, e, q⟩
    · exact ⟨h0, q.2.1⟩
    · exact ⟨h0, (wfE_first f _ _ _ q).2⟩
    · exact ⟨h0, (wfE_first f _ _ _ q).2⟩
    · exact ⟨h0, (wfE_first f _ _ _ e1).2⟩
    · exact wfE_first f _ _ _ e1
/-- what an E's range leaves to be done: all goes well from its end on, so all goes well from its start on -/
theorem wfE_OK {nd : Int} {ar : Bool} {V : Vf} {hm lo hi : Nat} : ∀ (f h a b k g : Nat), wfE nd ar V f h a b → lo ≤ a → b < hi → k + h ≤ hm → OKc nd ar V hm lo hi g b (k + 1) → ∃ g', OKc nd ar V hm lo hi g' a k
  | 0, _, _, _, _, _, q, _, _, _, _ => q.elim
  | f + 1, h, a, b, k, g, q, h1, h2, h3, w => by
    rcases q with ⟨h0, q | q | ⟨m, q, e, u⟩ | ⟨m1, m2, e1, q1, q2, e2, q3, q4, e3⟩⟩ | ⟨m, m2, j, e1, e2, hj, e, q⟩
    · obtain ⟨e, hh, q⟩ := q
      subst e
      refine ⟨g + 2, h1, by omega, by omega, Or.inr (Or.inl ⟨h0, by omega, by omega, by omega, ?_⟩)⟩
      rcases q with q | q | q | q
      · exact Or.inr (Or.inr (Or.inl ⟨Or.inl q, by omega, w⟩))
      · exact Or.inr (Or.inr (Or.inl ⟨Or.inr (Or.inl q), by omega, w⟩))
      · exact Or.inr (Or.inr (Or.inr (Or.inl q)))
      · exact Or.inr (Or.inr (Or.inl ⟨Or.inr (Or.inr q), by omega, w⟩))
    · have l1 := wfE_lt f _ _ _ q
      obtain ⟨g1, r⟩ := wfE_OK f h (a + 1) b k g q (by omega) h2 h3 w
      exact ⟨g1 + 1, h1, by omega, by omega, Or.inr (Or.inl ⟨h0, r⟩)⟩
    · subst e
      have l1 := wfE_lt f _ _ _ q
      have w2 : OKc nd ar V hm lo hi (g + 1) m (k + 1) := ⟨by omega, by omega, OKc_k w, Or.inr (Or.inr (Or.inr (Or.inr (Or.inl ⟨u, by omega, w⟩))))⟩
      obtain ⟨g1, r⟩ := wfE_OK f h (a + 1) m k (g + 1) q (by omega) (by omega) h3 w2
      exact ⟨g1 + 1, h1, by omega, by omega, Or.inr (Or.inl ⟨h0, r⟩)⟩
    · have l1 := wfE_lt f _ _ _ e1
      have l2 := wfE_lt f _ _ _ e2
      have l3 := wfE_lt f _ _ _ e3
      obtain ⟨g3, r3⟩ := wfE_OK f h (m2 + 1) b k g e3 (by omega) h2 h3 w
      have w2 : OKc nd ar V hm lo hi (g + 1) m2 (k + 1) := ⟨by omega, by omega, OKc_k w, Or.inr (Or.inr (Or.inr (Or.inr (Or.inr (Or.inr (Or.inr ⟨q3, b, q4, w⟩))))))⟩
      obtain ⟨g2, r2⟩ := wfE_OK f h (m1 + 1) m2 k (g + 1) e2 (by omega) (by omega) h3 w2
      have w1 : OKc nd ar V hm lo hi (g2 + g3 + 1) m1 (k + 1) := ⟨by omega, by omega, OKc_k w, Or.inr (Or.inr (Or.inr (Or.inr (Or.inr (Or.inr (Or.inl ⟨q1, k, m2 + 1, rfl, by omega, OKc_le r2 (by omega), OKc_le r3 (by omega)⟩))))))⟩
      obtain ⟨g1, r1⟩ := wfE_OK f h (a + 1) m1 k _ e1 (by omega) (by omega) h3 w1
      exact ⟨g1 + 1, h1, by omega, by omega, Or.inr (Or.inl ⟨h0, r1⟩)⟩
    · subst e
      have l1 := wfE_lt f _ _ _ e1
      have l2 := wfE_lt f _ _ _ e2
      have l3 := (wfE_first f _ _ _ e2).2
      have w2 : OKc nd ar V hm lo hi (g + 1) m2 (k + 1 + 1) := ⟨by omega, by omega, by omega, Or.inr (Or.inr (Or.inr (Or.inr (Or.inr (Or.inl ⟨q.1, q.2, k, rfl, w⟩)))))⟩
      obtain ⟨g2, r2⟩ := wfE_OK f j m m2 (k + 1) (g + 1) e2 (by omega) (by omega) (by omega) w2
      exact wfE_OK f h a m k g2 e1 h1 (by omega) h3 r2
/-- more needs -/
theorem wfU_nd {nd nd' : Int} {ar : Bool} {V : Vf} {m : Nat} (hn : nd ≤ nd') (h : wfU nd ar V m) : wfU nd' ar V m := by
  rcases h with h | ⟨h, h1, h2, h3⟩ | h
  · exact Or.inl h
  · exact Or.inr (Or.inl ⟨h, h1, by omega, h3⟩)
  · exact Or.inr (Or.inr h)
theorem wfE_nd {nd nd' : Int} {ar : Bool} {V : Vf} (hn : nd ≤ nd') : ∀ (f h a b : Nat), wfE nd ar V f h a b → wfE nd' ar V f h a b
  | 0, _, _, _, q => q.elim
  | f + 1, h, a, b, q => by
    rcases q with ⟨h0, q | q | ⟨m, q, e, u⟩ | ⟨m1, m2, h1, q1, q2, h2, q3, q4, h3⟩⟩ | ⟨m, m2, j, h1, h2, e⟩
    · exact Or.inl ⟨h0, Or.inl q⟩
    · exact Or.inl ⟨h0, Or.inr (Or.inl (wfE_nd hn f _ _ _ q))⟩
    · exact Or.inl ⟨h0, Or.inr (Or.inr (Or.inl ⟨m, wfE_nd hn f _ _ _ q, e, wfU_nd hn u⟩))⟩
    · exact Or.inl ⟨h0, Or.inr (Or.inr (Or.inr ⟨m1, m2, wfE_nd hn f _ _ _ h1, q1, q2, wfE_nd hn f _ _ _ h2, q3, q4, wfE_nd hn f _ _ _ h3⟩))⟩
    · exact Or.inr ⟨m, m2, j, wfE_nd hn f _ _ _ h1, wfE_nd hn f _ _ _ h2, e⟩
/-- an E as it was laid -/
def CEw (nd : Int) (ar : Bool) (V : Vf) (lo hi a : Nat) : Prop := ∃ h b, WE nd ar V h a b ∧ oc V b = 0 ∧ lo ≤ a ∧ b < hi ∧ h ≤ 28
def CE (nd : Int) (ar : Bool) (V : Vf) (lo hi a : Nat) : Prop := oc V a = 1 ∧ (∃ f, OKc nd ar V 28 lo hi f a 0) ∧ CEw nd ar V lo hi a
theorem WE.CE {nd : Int} {ar : Bool} {V : Vf} {lo hi h a b : Nat} (q : WE nd ar V h a b) (e : oc V b = 0) (h1 : lo ≤ a) (h2 : b < hi) (h3 : h ≤ 28) : CE nd ar V lo hi a := by
  have q0 := q
  obtain ⟨f, q⟩ := q
  have l1 := wfE_lt f _ _ _ q
  have w : OKc nd ar V 28 lo hi 1 b (0 + 1) := ⟨by omega, h2, by omega, Or.inl ⟨e, rfl⟩⟩
  exact ⟨(wfE_first f _ _ _ q).1, wfE_OK f h a b 0 1 q h1 h2 (by omega) w, h, b, q0, e, h1, h2, h3⟩
theorem CE.same {nd nd' : Int} {ar : Bool} {V W : Vf} {lo hi hi' a : Nat} (q : CE nd ar V lo hi a) (hn : nd ≤ nd') (hh : hi ≤ hi') (hs : same3 V W lo hi) : CE nd' ar W lo hi' a := by
  obtain ⟨e, ⟨f, q⟩, h, b, w, w0, w1, w2, w3⟩ := q
  have q2 := OKc_same hn hh hs f a 0 q
  have lb := w.lt
  have ww : WE nd' ar W h a b := by
    obtain ⟨g, wg⟩ := WE.same w (fun i h1 h2 => hs i (by omega) (by omega))
    exact ⟨g, wfE_nd hn g _ _ _ wg⟩
  cases f with
  | zero => exact q.elim
  | succ f => exact ⟨by rw [hs.oc q.1 q.2.1]; exact e, ⟨f + 1, q2⟩, h, b, ww, by rw [hs.oc (by omega) w2]; exact w0, w1, by omega, w3⟩

theorem w1758 : Cond.fieldLink RX12 364 "WiringHouseModel" "inAround" "Z" ∈ GW := gw_k tk9_7 163 (by decide +kernel) rfl
theorem w1757 : Cond.fieldLink RX12 361 "WiringHouseModel" "inComponent" "I" ∈ GW := gw_k tk9_7 162 (by decide +kernel) rfl
theorem dk9_dX12_isPart_0_0 : dOk cX12_isPart [(0, .aload_n 0, 1), (1, .getfield 267, 3), (4, .ifCond .ne 105, 3), (109, .iconst 0, 1), (110, .ireturn, 1), (7, .aload_n 0, 1), (8, .getfield 24, 3), (11, .aload_n 0, 1), (12, .getfield 264, 3), (15, .iaload, 1), (16, .iconst 2, 1), (17, .if_icmp .eq 88, 3), (105, .iconst 1, 1), (106, .goto 4, 3), (20, .aload_n 0, 1), (21, .bipush 40, 2), (23, .invokevirtual 270, 3), (26, .ifCond .ne 79, 3), (29, .aload_n 0, 1), (30, .bipush 45, 2), (32, .invokevirtual 270, 3), (35, .ifCond .ne 70, 3), (38, .aload_n 0, 1), (39, .bipush 15, 2)] = true ∧ dOk cX12_isPart [(41, .invokevirtual 277, 3), (44, .ifCond .ne 61, 3), (47, .aload_n 0, 1), (48, .bipush 16, 2), (50, .invokevirtual 277, 3), (53, .ifCond .ne 52, 3), (56, .aload_n 0, 1), (57, .iconst 2, 1), (58, .invokevirtual 277, 3), (61, .ifCond .ne 44, 3), (64, .aload_n 0, 1), (65, .bipush 17, 2), (67, .invokevirtual 277, 3), (70, .ifCond .ne 35, 3), (73, .aload_n 0, 1), (74, .bipush 18, 2), (76, .invokevirtual 277, 3), (79, .ifCond .eq 10, 3), (89, .aload_n 0, 1), (90, .bipush 19, 2), (92, .invokevirtual 277, 3), (95, .ifCond .eq 14, 3), (98, .aload_n 0, 1), (99, .getfield 364, 3)] = true ∧ dOk cX12_isPart [(102, .ifCond .eq 7, 3), (82, .aload_n 0, 1), (83, .getfield 361, 3), (86, .ifCond .ge 19, 3)] = true := by decide +kernel
theorem dX12_isPart_0 : decode cX12_isPart 0 = .ok (.aload_n 0, 1) := dr9 dk9_dX12_isPart_0_0.1 0 (0, .aload_n 0, 1) rfl
theorem dX12_isPart_1 : decode cX12_isPart 1 = .ok (.getfield 267, 3) := dr9 dk9_dX12_isPart_0_0.1 1 (1, .getfield 267, 3) rfl
theorem dX12_isPart_4 : decode cX12_isPart 4 = .ok (.ifCond .ne 105, 3) := dr9 dk9_dX12_isPart_0_0.1 2 (4, .ifCond .ne 105, 3) rfl
theorem dX12_isPart_109 : decode cX12_isPart 109 = .ok (.iconst 0, 1) := dr9 dk9_dX12_isPart_0_0.1 3 (109, .iconst 0, 1) rfl
theorem dX12_isPart_110 : decode cX12_isPart 110 = .ok (.ireturn, 1) := dr9 dk9_dX12_isPart_0_0.1 4 (110, .ireturn, 1) rfl
theorem dX12_isPart_7 : decode cX12_isPart 7 = .ok (.aload_n 0, 1) := dr9 dk9_dX12_isPart_0_0.1 5 (7, .aload_n 0, 1) rfl
theorem dX12_isPart_8 : decode cX12_isPart 8 = .ok (.getfield 24, 3) := dr9 dk9_dX12_isPart_0_0.1 6 (8, .getfield 24, 3) rfl
theorem dX12_isPart_11 : decode cX12_isPart 11 = .ok (.aload_n 0, 1) := dr9 dk9_dX12_isPart_0_0.1 7 (11, .aload_n 0, 1) rfl
theorem dX12_isPart_12 : decode cX12_isPart 12 = .ok (.getfield 264, 3) := dr9 dk9_dX12_isPart_0_0.1 8 (12, .getfield 264, 3) rfl
theorem dX12_isPart_15 : decode cX12_isPart 15 = .ok (.iaload, 1) := dr9 dk9_dX12_isPart_0_0.1 9 (15, .iaload, 1) rfl
theorem dX12_isPart_16 : decode cX12_isPart 16 = .ok (.iconst 2, 1) := dr9 dk9_dX12_isPart_0_0.1 10 (16, .iconst 2, 1) rfl
theorem dX12_isPart_17 : decode cX12_isPart 17 = .ok (.if_icmp .eq 88, 3) := dr9 dk9_dX12_isPart_0_0.1 11 (17, .if_icmp .eq 88, 3) rfl
theorem dX12_isPart_105 : decode cX12_isPart 105 = .ok (.iconst 1, 1) := dr9 dk9_dX12_isPart_0_0.1 12 (105, .iconst 1, 1) rfl
theorem dX12_isPart_106 : decode cX12_isPart 106 = .ok (.goto 4, 3) := dr9 dk9_dX12_isPart_0_0.1 13 (106, .goto 4, 3) rfl
theorem dX12_isPart_20 : decode cX12_isPart 20 = .ok (.aload_n 0, 1) := dr9 dk9_dX12_isPart_0_0.1 14 (20, .aload_n 0, 1) rfl
theorem dX12_isPart_21 : decode cX12_isPart 21 = .ok (.bipush 40, 2) := dr9 dk9_dX12_isPart_0_0.1 15 (21, .bipush 40, 2) rfl
theorem dX12_isPart_23 : decode cX12_isPart 23 = .ok (.invokevirtual 270, 3) := dr9 dk9_dX12_isPart_0_0.1 16 (23, .invokevirtual 270, 3) rfl
theorem dX12_isPart_26 : decode cX12_isPart 26 = .ok (.ifCond .ne 79, 3) := dr9 dk9_dX12_isPart_0_0.1 17 (26, .ifCond .ne 79, 3) rfl
theorem dX12_isPart_29 : decode cX12_isPart 29 = .ok (.aload_n 0, 1) := dr9 dk9_dX12_isPart_0_0.1 18 (29, .aload_n 0, 1) rfl
theorem dX12_isPart_30 : decode cX12_isPart 30 = .ok (.bipush 45, 2) := dr9 dk9_dX12_isPart_0_0.1 19 (30, .bipush 45, 2) rfl
theorem dX12_isPart_32 : decode cX12_isPart 32 = .ok (.invokevirtual 270, 3) := dr9 dk9_dX12_isPart_0_0.1 20 (32, .invokevirtual 270, 3) rfl
theorem dX12_isPart_35 : decode cX12_isPart 35 = .ok (.ifCond .ne 70, 3) := dr9 dk9_dX12_isPart_0_0.1 21 (35, .ifCond .ne 70, 3) rfl
theorem dX12_isPart_38 : decode cX12_isPart 38 = .ok (.aload_n 0, 1) := dr9 dk9_dX12_isPart_0_0.1 22 (38, .aload_n 0, 1) rfl
theorem dX12_isPart_39 : decode cX12_isPart 39 = .ok (.bipush 15, 2) := dr9 dk9_dX12_isPart_0_0.1 23 (39, .bipush 15, 2) rfl
theorem dX12_isPart_41 : decode cX12_isPart 41 = .ok (.invokevirtual 277, 3) := dr9 dk9_dX12_isPart_0_0.2.1 0 (41, .invokevirtual 277, 3) rfl
theorem dX12_isPart_44 : decode cX12_isPart 44 = .ok (.ifCond .ne 61, 3) := dr9 dk9_dX12_isPart_0_0.2.1 1 (44, .ifCond .ne 61, 3) rfl
theorem dX12_isPart_47 : decode cX12_isPart 47 = .ok (.aload_n 0, 1) := dr9 dk9_dX12_isPart_0_0.2.1 2 (47, .aload_n 0, 1) rfl
theorem dX12_isPart_48 : decode cX12_isPart 48 = .ok (.bipush 16, 2) := dr9 dk9_dX12_isPart_0_0.2.1 3 (48, .bipush 16, 2) rfl
theorem dX12_isPart_50 : decode cX12_isPart 50 = .ok (.invokevirtual 277, 3) := dr9 dk9_dX12_isPart_0_0.2.1 4 (50, .invokevirtual 277, 3) rfl
theorem dX12_isPart_53 : decode cX12_isPart 53 = .ok (.ifCond .ne 52, 3) := dr9 dk9_dX12_isPart_0_0.2.1 5 (53, .ifCond .ne 52, 3) rfl
theorem dX12_isPart_56 : decode cX12_isPart 56 = .ok (.aload_n 0, 1) := dr9 dk9_dX12_isPart_0_0.2.1 6 (56, .aload_n 0, 1) rfl
theorem dX12_isPart_57 : decode cX12_isPart 57 = .ok (.iconst 2, 1) := dr9 dk9_dX12_isPart_0_0.2.1 7 (57, .iconst 2, 1) rfl
theorem dX12_isPart_58 : decode cX12_isPart 58 = .ok (.invokevirtual 277, 3) := dr9 dk9_dX12_isPart_0_0.2.1 8 (58, .invokevirtual 277, 3) rfl
theorem dX12_isPart_61 : decode cX12_isPart 61 = .ok (.ifCond .ne 44, 3) := dr9 dk9_dX12_isPart_0_0.2.1 9 (61, .ifCond .ne 44, 3) rfl
theorem dX12_isPart_64 : decode cX12_isPart 64 = .ok (.aload_n 0, 1) := dr9 dk9_dX12_isPart_0_0.2.1 10 (64, .aload_n 0, 1) rfl
theorem dX12_isPart_65 : decode cX12_isPart 65 = .ok (.bipush 17, 2) := dr9 dk9_dX12_isPart_0_0.2.1 11 (65, .bipush 17, 2) rfl
theorem dX12_isPart_67 : decode cX12_isPart 67 = .ok (.invokevirtual 277, 3) := dr9 dk9_dX12_isPart_0_0.2.1 12 (67, .invokevirtual 277, 3) rfl
theorem dX12_isPart_70 : decode cX12_isPart 70 = .ok (.ifCond .ne 35, 3) := dr9 dk9_dX12_isPart_0_0.2.1 13 (70, .ifCond .ne 35, 3) rfl
theorem dX12_isPart_73 : decode cX12_isPart 73 = .ok (.aload_n 0, 1) := dr9 dk9_dX12_isPart_0_0.2.1 14 (73, .aload_n 0, 1) rfl
theorem dX12_isPart_74 : decode cX12_isPart 74 = .ok (.bipush 18, 2) := dr9 dk9_dX12_isPart_0_0.2.1 15 (74, .bipush 18, 2) rfl
theorem dX12_isPart_76 : decode cX12_isPart 76 = .ok (.invokevirtual 277, 3) := dr9 dk9_dX12_isPart_0_0.2.1 16 (76, .invokevirtual 277, 3) rfl
theorem dX12_isPart_79 : decode cX12_isPart 79 = .ok (.ifCond .eq 10, 3) := dr9 dk9_dX12_isPart_0_0.2.1 17 (79, .ifCond .eq 10, 3) rfl
theorem dX12_isPart_89 : decode cX12_isPart 89 = .ok (.aload_n 0, 1) := dr9 dk9_dX12_isPart_0_0.2.1 18 (89, .aload_n 0, 1) rfl
theorem dX12_isPart_90 : decode cX12_isPart 90 = .ok (.bipush 19, 2) := dr9 dk9_dX12_isPart_0_0.2.1 19 (90, .bipush 19, 2) rfl
theorem dX12_isPart_92 : decode cX12_isPart 92 = .ok (.invokevirtual 277, 3) := dr9 dk9_dX12_isPart_0_0.2.1 20 (92, .invokevirtual 277, 3) rfl
theorem dX12_isPart_95 : decode cX12_isPart 95 = .ok (.ifCond .eq 14, 3) := dr9 dk9_dX12_isPart_0_0.2.1 21 (95, .ifCond .eq 14, 3) rfl
theorem dX12_isPart_98 : decode cX12_isPart 98 = .ok (.aload_n 0, 1) := dr9 dk9_dX12_isPart_0_0.2.1 22 (98, .aload_n 0, 1) rfl
theorem dX12_isPart_99 : decode cX12_isPart 99 = .ok (.getfield 364, 3) := dr9 dk9_dX12_isPart_0_0.2.1 23 (99, .getfield 364, 3) rfl
theorem dX12_isPart_102 : decode cX12_isPart 102 = .ok (.ifCond .eq 7, 3) := dr9 dk9_dX12_isPart_0_0.2.2 0 (102, .ifCond .eq 7, 3) rfl
theorem dX12_isPart_82 : decode cX12_isPart 82 = .ok (.aload_n 0, 1) := dr9 dk9_dX12_isPart_0_0.2.2 1 (82, .aload_n 0, 1) rfl
theorem dX12_isPart_83 : decode cX12_isPart 83 = .ok (.getfield 361, 3) := dr9 dk9_dX12_isPart_0_0.2.2 2 (83, .getfield 361, 3) rfl
theorem dX12_isPart_86 : decode cX12_isPart 86 = .ok (.ifCond .ge 19, 3) := dr9 dk9_dX12_isPart_0_0.2.2 3 (86, .ifCond .ge 19, 3) rfl
abbrev r_s_isPart : Room := { frames := 1, cells := 0, slots := 0, locals := 21 }
abbrev q_s_isPart (D : va_G) (ks : KS) (ad : Nat → Nat) (kk : Nat → ClassId) (V : Vf) (L : Lf) (n : Nat) (A : Nat → Prop) : Array Value → State → Outcome → State → Prop := va_Qi (fun (r : Int32) (_ : Unit) => (0 ≤ r.toInt ∧ r.toInt ≤ 1) ∧ (Imp (r.toInt = 1) ((V 0 8).toInt = 0 ∧ 0 ≤ (V 0 7).toInt ∧ (V 0 7).toInt < n))) (fun _ t => gq D A (mw ad kk ks.1 V L) (mty kk) t) A