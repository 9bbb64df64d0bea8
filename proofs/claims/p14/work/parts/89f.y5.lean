/-! both readers hold the same tokens -/
theorem wv_ex {f g : Nat → Int32} {s : Nat} (l : Nat) : (∀ k, s ≤ k → k < s + l → f k = g k) → wv f s l = wv g s l := by
  induction l with
  | zero => intro _; rfl
  | succ l ih =>
    intro h
    rw [wv_s, wv_s, ih (fun k a b => h k a (by omega)), h (s + l) (by omega) (by omega)]
theorem nv_ex {f g : Nat → Int32} {s : Nat} (l : Nat) : (∀ k, s ≤ k → k < s + l → f k = g k) → nv f s l = nv g s l := by
  induction l with
  | zero => intro _; rfl
  | succ l ih =>
    intro h
    rw [nv_s, nv_s, ih (fun k a b => h k a (by omega)), h (s + l) (by omega) (by omega)]
/-- what stands for a word: a name, or keyword k -/
def KN (w : Int64) (x : Int) : Prop := (x = 3 ∧ ∀ k : Nat, k < 28 → kg 155 k ≠ w) ∨ ∃ k : Nat, k < 28 ∧ x = 128 + (k : Int) ∧ kg 155 k = w
theorem KW.kn {L : Lf} {w : Int64} {x : Int} (h : KW L w x) (hL : ∀ k : Nat, k < 28 → L 11 k = kg 155 k) : KN w x := by
  rcases h with ⟨a, b⟩ | ⟨k, a, b, c⟩
  · exact Or.inl ⟨a, fun k hk => by rw [← hL k hk]; exact b k hk⟩
  · exact Or.inr ⟨k, a, b, by rw [← hL k a]; exact c⟩
/-- the class's kind and value, the reference's sort and word -/
def KR (kd : Int) (vl : Int64) (so : Int) (w : Int64) : Prop := (so = 4 ∧ kd = 1) ∨ (so = 2 ∧ kd = 2 ∧ vl = w) ∨ (so = 1 ∧ KN w kd ∧ vl = w) ∨ (so = 3 ∧ ∃ x : Int32, isSg x ∧ kd = x.toInt ∧ w = x.toInt64)
theorem KR.mk {L : Lf} {f g : Nat → Int32} {n s e : Nat} {kd so : Int} {vl w : Int64} (hL : ∀ k : Nat, k < 28 → L 11 k = kg 155 k) (q : eqB n f g) (te : TE f n s e) (c : TC L f s e kd vl) (r : RCt g s e so w) : KR kd vl so w := by
  have tl := te.lt
  have es : f s = g s := q s (by omega)
  have sl : ∀ k, s ≤ k → k < s + (e - s) → f k = g k := fun k a b => q k (by omega)
  unfold RCt at r
  rw [← es, ← wv_ex _ sl, ← nv_ex _ sl] at r
  rcases te with h | h | h
  · have a := c.1 h.1
    have b := r.1 h.1
    rcases Nat.lt_or_ge 9 (e - s) with z | z
    · exact Or.inl ⟨b.1 z, a.1 z⟩
    · exact Or.inr (Or.inl ⟨(b.2 z).1, (a.2 z).1, by rw [(a.2 z).2, (b.2 z).2]⟩)
  · have a := c.2.1 h.1
    have b := r.2.1 h.1
    rcases Nat.lt_or_ge 12 (e - s) with z | z
    · exact Or.inl ⟨b.1 z, a.1 z⟩
    · exact Or.inr (Or.inr (Or.inl ⟨(b.2 z).1, by rw [(b.2 z).2]; exact (a.2 z).1.kn hL, by rw [(a.2 z).2, (b.2 z).2]⟩))
  · have a := c.2.2 h.1 h.2.1
    have b := r.2.2 h.1 h.2.1
    rcases a with a | a
    · rcases b.1 with d | d
      · exact Or.inr (Or.inr (Or.inr ⟨d.2, f s, a.1, a.2, b.2⟩))
      · exact absurd a.1 d.1
    · rcases b.1 with d | d
      · exact absurd d.1 a.1
      · exact Or.inl ⟨d.2, a.2⟩
theorem sg_rg {x : Int32} (h : isSg x) : 40 ≤ x.toInt ∧ x.toInt ≤ 125 := by
  obtain ⟨i, hi, e⟩ := h
  have z := sg_all i hi
  rw [e] at z
  omega
theorem i64_inj {x y : Int32} (h : x.toInt64 = y.toInt64) : x = y := Int32.toInt_inj.mp (by
  have z := congrArg Int64.toInt h
  rw [Int32.toInt_toInt64, Int32.toInt_toInt64] at z
  exact z)
theorem KR.rg {kd : Int} {vl : Int64} {so : Int} {w : Int64} (h : KR kd vl so w) : 1 ≤ kd ∧ kd ≤ 155 ∧ 1 ≤ so ∧ so ≤ 4 := by
  rcases h with h | h | ⟨a, h, _⟩ | ⟨a, x, h, b, _⟩
  · omega
  · omega
  · rcases h with h | ⟨k, h1, h2, _⟩
    · omega
    · omega
  · have z := sg_rg h
    omega
/-- a sign -/
theorem KR.sg {kd : Int} {vl : Int64} {so : Int} {w : Int64} (h : KR kd vl so w) {c : Int32} (hc : isSg c) : (so = 3 ∧ w = c.toInt64) ↔ kd = c.toInt := by
  have zc := sg_rg hc
  rcases h with h | h | ⟨a, h, _⟩ | ⟨a, x, h, b, d⟩
  · exact ⟨fun q => by omega, fun q => by omega⟩
  · exact ⟨fun q => by omega, fun q => by omega⟩
  · exact ⟨fun q => by omega, fun q => by
      rcases h with h | ⟨k, h1, h2, _⟩
      · omega
      · omega⟩
  · refine ⟨fun q => ?_, fun q => ⟨a, ?_⟩⟩
    · have z := i64_inj (d.symm.trans q.2)
      rw [b, z]
    · rw [d, Int32.toInt_inj.mp (b.symm.trans q)]
/-- a keyword -/
theorem KR.kw {kd : Int} {vl : Int64} {so : Int} {w : Int64} (h : KR kd vl so w) {k : Nat} (hk : k < 28) : (so = 1 ∧ w = kg 155 k) ↔ kd = 128 + (k : Int) := by
  rcases h with h | h | ⟨a, h, _⟩ | ⟨a, x, h, b, d⟩
  · exact ⟨fun q => by omega, fun q => by omega⟩
  · exact ⟨fun q => by omega, fun q => by omega⟩
  · rcases h with ⟨h, n⟩ | ⟨j, h1, h2, h3⟩
    · exact ⟨fun q => absurd q.2.symm (n k hk), fun q => by omega⟩
    · refine ⟨fun q => ?_, fun q => ⟨a, ?_⟩⟩
      · by_cases e : j = k
        · rw [h2, e]
        · exact absurd (h3.trans q.2) (kg_ne j h1 k hk e)
      · have e : j = k := by omega
        rw [← h3, e]
  · have z := sg_rg h
    exact ⟨fun q => by omega, fun q => by omega⟩
/-- a name -/
theorem KR.nm {kd : Int} {vl : Int64} {so : Int} {w : Int64} (h : KR kd vl so w) : (so = 1 ∧ ∀ k : Nat, k < 28 → w ≠ kg 155 k) ↔ kd = 3 := by
  rcases h with h | h | ⟨a, h, _⟩ | ⟨a, x, h, b, d⟩
  · exact ⟨fun q => by omega, fun q => by omega⟩
  · exact ⟨fun q => by omega, fun q => by omega⟩
  · rcases h with ⟨h, n⟩ | ⟨j, h1, h2, h3⟩
    · exact ⟨fun _ => h, fun _ => ⟨a, fun k hk e => n k hk e.symm⟩⟩
    · exact ⟨fun q => absurd h3.symm (q.2 j h1), fun q => by omega⟩
  · have z := sg_rg h
    exact ⟨fun q => by omega, fun q => by omega⟩
/-- a number -/
theorem KR.nb {kd : Int} {vl : Int64} {so : Int} {w : Int64} (h : KR kd vl so w) : so = 2 ↔ kd = 2 := by
  rcases h with h | h | ⟨a, h, _⟩ | ⟨a, x, h, b, d⟩
  · exact ⟨fun q => by omega, fun q => by omega⟩
  · exact ⟨fun _ => h.2.1, fun _ => h.1⟩
  · rcases h with ⟨h, n⟩ | ⟨j, h1, h2, h3⟩
    · exact ⟨fun q => by omega, fun q => by omega⟩
    · exact ⟨fun q => by omega, fun q => by omega⟩
  · have z := sg_rg h
    exact ⟨fun q => by omega, fun q => by omega⟩
theorem KR.vl {kd : Int} {vl : Int64} {so : Int} {w : Int64} (h : KR kd vl so w) (k : kd = 2 ∨ kd = 3) : vl = w := by
  rcases h with h | h | ⟨a, h, e⟩ | ⟨a, x, h, b, d⟩
  · omega
  · exact h.2.2
  · exact e
  · have z := sg_rg h
    omega
/-- both hold the same t tokens, and an end behind them -/
def TKR (W : Vf) (M : Lf) (Wm : Vf) (Mm : Lf) (t : Nat) : Prop := t ≤ 4000 ∧ (W 6 7).toInt = (t : Int) ∧ (∀ j, j < t → (W 13 j).toInt = (Wm 5 j).toInt ∧ KR (W 12 j).toInt (M 14 j) (Wm 4 j).toInt (Mm 6 j)) ∧ (W 12 t).toInt = 0 ∧ (Wm 4 t).toInt = 0 ∧ (W 13 t).toInt = (Wm 5 t).toInt
theorem TKR.mk {V W Vm Wm : Vf} {L M Mm : Lf} (c : CTE V L W M) (r : RTE Vm Wm Mm) (hn : (V 6 5).toInt = (Vm 0 2).toInt) (h0 : 0 ≤ (W 6 7).toInt) (hL : ∀ k : Nat, k < 28 → L 11 k = kg 155 k) (q : eqB (V 6 5).toInt.toNat (V 10) (Vm 1)) : ∃ t, TKR W M Wm Mm t := by
  obtain ⟨⟨S, E, k1, k2⟩, c2, c3, c4, _⟩ := c
  obtain ⟨t, ht, ⟨S', E', m1, m2⟩, r2, r3⟩ := r
  rw [← hn] at m1
  rw [c2] at k1
  have k3 := k1.ex q
  obtain ⟨e1, e2, e3⟩ := k3.uq m1
  refine ⟨t, ht, by omega, fun j hj => ?_, by rw [← e1, c3]; decide, by rw [r2]; decide, by rw [r3, ← e1, c4, hn]⟩
  have hj' : j < (W 6 7).toInt.toNat := by omega
  have a := k2 j hj'
  have b := m2 j hj
  rw [← e3 j hj', ← e2 (j + 1) (by omega)] at b
  exact ⟨by rw [a.1, b.1], KR.mk hL q (k1.2.1 j hj').2.2.2 a.2 b.2⟩
/-! all signs of the tape are of the kinds that a tape takes -/
def allTp (n : Nat) (f : Nat → Int32) : Prop := ∀ k, k < n → isTp (f k)
theorem allTp.wr {s : Int32} {k : Nat} {f : Nat → Int32} (h : allTp k f) : allTp (stp s k) (wrF s k f) := by
  unfold stp wrF
  by_cases c : (s = 10 ∨ (32 ≤ s ∧ s ≤ 126)) ∧ k < 4000
  · rw [if_pos c, if_pos c]
    intro q hq
    show isTp (if q = k then s else f q)
    by_cases e : q = k
    · rw [if_pos e]
      rcases c.1 with a | a
      · exact Or.inl (by rw [a]; decide)
      · have b1 := Int32.le_iff_toInt_le.mp a.1
        have b2 := Int32.le_iff_toInt_le.mp a.2
        exact Or.inr ⟨b1, b2⟩
    · rw [if_neg e]
      exact h q (by omega)
  · rw [if_neg c, if_neg c]
    exact h
theorem allTp.ap (n : Nat) : ∀ (v : Int64) (k : Nat) (f : Nat → Int32), allTp k f → allTp (apk n v k) (apF sgc n v k f) := by
  induction n with
  | zero => intro v k f h; exact h
  | succ n ih => intro v k f h; exact ih v _ _ h.wr



