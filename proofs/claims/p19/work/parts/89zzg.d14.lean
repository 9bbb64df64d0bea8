section
theorem if_c9 {a b : Prop} [Decidable a] [Decidable b] {x y : Int} (e : a ↔ b) : (if a then x else y) = (if b then x else y) := by
  by_cases h : a
  · rw [if_pos h, if_pos (e.mp h)]
  · rw [if_neg h, if_neg (fun q => h (e.mpr q))]
/-! closing a scope, turn by turn -/
/-- of those that are made in a scope the one whose making ended latest (states, places, ends) -/
def lamG (a b c : Nat → Int) (sc : Int) : Nat → Int
  | 0 => -1
  | o + 1 => if a o = 1 ∧ b o = sc ∧ (lamG a b c sc o < 0 ∨ c (lamG a b c sc o).toNat < c o) then (o : Int) else lamG a b c sc o
section LAs
variable {a b c a2 b2 c2 : Nat → Int} {sc l : Int} {o : Nat}
theorem lamG_y (hl : l = lamG a b c sc o) (h1 : a o = 1) (h2 : b o = sc) (h : l < 0 ∨ c l.toNat < c o) : (o : Int) = lamG a b c sc (o + 1) := by
  subst hl
  exact (if_pos ⟨h1, h2, h⟩).symm
theorem lamG_n (hl : l = lamG a b c sc o) (h : ¬ (a o = 1 ∧ b o = sc ∧ (l < 0 ∨ c l.toNat < c o))) : l = lamG a b c sc (o + 1) := by
  subst hl
  exact (if_neg h).symm
theorem lamG_r : ∀ n, lamG a b c sc n = -1 ∨ (0 ≤ lamG a b c sc n ∧ lamG a b c sc n < (n : Int) ∧ a (lamG a b c sc n).toNat = 1 ∧ b (lamG a b c sc n).toNat = sc)
  | 0 => Or.inl rfl
  | n + 1 => by
    have ih := lamG_r n
    by_cases q : a n = 1 ∧ b n = sc ∧ (lamG a b c sc n < 0 ∨ c (lamG a b c sc n).toNat < c n)
    · have e : lamG a b c sc (n + 1) = (n : Int) := if_pos q
      rw [e]
      exact Or.inr ⟨by omega, by omega, q.1, q.2.1⟩
    · have e : lamG a b c sc (n + 1) = lamG a b c sc n := if_neg q
      rw [e]
      rcases ih with h | h
      · exact Or.inl h
      · exact Or.inr ⟨h.1, by omega, h.2.2⟩
theorem lamG_eq : ∀ (n : Nat), (∀ o, o < n → a2 o = a o) → (∀ o, o < n → b2 o = b o) → (∀ o, o < n → a o = 1 → c2 o = c o) → lamG a2 b2 c2 sc n = lamG a b c sc n
  | 0, _, _, _ => rfl
  | n + 1, ha, hb, hc => by
    have ih : lamG a2 b2 c2 sc n = lamG a b c sc n := lamG_eq n (fun o ho => ha o (by omega)) (fun o ho => hb o (by omega)) (fun o ho => hc o (by omega))
    have r := lamG_r (a := a) (b := b) (c := c) (sc := sc) n
    have e : (a2 n = 1 ∧ b2 n = sc ∧ (lamG a2 b2 c2 sc n < 0 ∨ c2 (lamG a2 b2 c2 sc n).toNat < c2 n)) ↔ (a n = 1 ∧ b n = sc ∧ (lamG a b c sc n < 0 ∨ c (lamG a b c sc n).toNat < c n)) := by
      rw [ih, ha n (by omega), hb n (by omega)]
      refine and_congr_right (fun h1 => and_congr_right (fun _ => ?_))
      rw [hc n (by omega) h1]
      rcases r with r | r
      · exact ⟨fun _ => Or.inl (by omega), fun _ => Or.inl (by omega)⟩
      · rw [hc (lamG a b c sc n).toNat (by omega) r.2.2.1]
    show (if _ then (n : Int) else lamG a2 b2 c2 sc n) = (if _ then (n : Int) else lamG a b c sc n)
    rw [if_c9 e, ih]
end LAs
/-- the latest opened of the scopes that are open and of a sort (open, sorts, days) -/
def lopG (p k d : Nat → Int) (kd dy : Int) : Nat → Int
  | 0 => -1
  | s + 1 => if 0 < s ∧ p s ≠ 0 ∧ k s = kd ∧ d s = dy then (s : Int) else lopG p k d kd dy s
section LOs
variable {p k d p2 k2 d2 : Nat → Int} {kd dy : Int} {s : Nat}
theorem lopG_y (h : 0 < s ∧ p s ≠ 0 ∧ k s = kd ∧ d s = dy) : lopG p k d kd dy (s + 1) = (s : Int) := if_pos h
theorem lopG_n (h : ¬ (0 < s ∧ p s ≠ 0 ∧ k s = kd ∧ d s = dy)) : lopG p k d kd dy (s + 1) = lopG p k d kd dy s := if_neg h
theorem lopG_r : ∀ n, lopG p k d kd dy n = -1 ∨ (0 < lopG p k d kd dy n ∧ lopG p k d kd dy n < (n : Int) ∧ p (lopG p k d kd dy n).toNat ≠ 0 ∧ k (lopG p k d kd dy n).toNat = kd ∧ d (lopG p k d kd dy n).toNat = dy)
  | 0 => Or.inl rfl
  | n + 1 => by
    by_cases q : 0 < n ∧ p n ≠ 0 ∧ k n = kd ∧ d n = dy
    · rw [lopG_y q]
      exact Or.inr ⟨by omega, by omega, q.2.1, q.2.2.1, q.2.2.2⟩
    · rw [lopG_n q]
      rcases lopG_r n with h | h
      · exact Or.inl h
      · exact Or.inr ⟨h.1, by omega, h.2.2⟩
theorem lopG_eq : ∀ (n : Nat), (∀ s, 0 < s → s < n → ((p2 s ≠ 0 ∧ k2 s = kd ∧ d2 s = dy) ↔ (p s ≠ 0 ∧ k s = kd ∧ d s = dy))) → lopG p2 k2 d2 kd dy n = lopG p k d kd dy n
  | 0, _ => rfl
  | n + 1, h => by
    have ih : lopG p2 k2 d2 kd dy n = lopG p k d kd dy n := lopG_eq n (fun s h1 h2 => h s h1 (by omega))
    have e : (0 < n ∧ p2 n ≠ 0 ∧ k2 n = kd ∧ d2 n = dy) ↔ (0 < n ∧ p n ≠ 0 ∧ k n = kd ∧ d n = dy) := and_congr_right (fun h1 => h n h1 (by omega))
    show (if _ then (n : Int) else lopG p2 k2 d2 kd dy n) = (if _ then (n : Int) else lopG p k d kd dy n)
    rw [ih]
    exact if_c9 e
theorem lopG_at {t : Nat} (ht : 0 < t ∧ p t ≠ 0 ∧ k t = kd ∧ d t = dy) : ∀ n, t < n → (∀ s, t < s → s < n → ¬ (p s ≠ 0 ∧ k s = kd ∧ d s = dy)) → lopG p k d kd dy n = (t : Int)
  | 0, h, _ => absurd h (Nat.not_lt_zero _)
  | n + 1, h, hn => by
    by_cases e : t = n
    · rw [← e]
      exact lopG_y ht
    · rw [lopG_n (fun q => hn n (by omega) (by omega) q.2)]
      exact lopG_at ht n (by omega) (fun s h1 h2 => hn s h1 (by omega))
theorem lopG_no : ∀ n, (∀ s, 0 < s → s < n → ¬ (p s ≠ 0 ∧ k s = kd ∧ d s = dy)) → lopG p k d kd dy n = -1
  | 0, _ => rfl
  | n + 1, h => by
    rw [lopG_n (fun q => h n q.1 (by omega) q.2)]
    exact lopG_no n (fun s h1 h2 => h s h1 (by omega))
end LOs
def dyG (p k d : Nat → Int) (ns : Nat) (sc : Int) : Int := if sc = 0 then lopG p k d 1 0 ns else sc
/-- the scope within one that is to be closed first -/
def inG (p k d : Nat → Int) (ns : Nat) (sc : Int) : Int := if 0 ≤ lopG p k d 2 (dyG p k d ns sc) ns then lopG p k d 2 (dyG p k d ns sc) ns else if 0 ≤ dyG p k d ns sc then dyG p k d ns sc else sc
theorem inG_eq {p k d p2 k2 d2 : Nat → Int} {ns : Nat} {sc : Int} (h : ∀ s, 0 < s → s < ns → ((p2 s ≠ 0 ↔ p s ≠ 0) ∧ k2 s = k s ∧ d2 s = d s)) : dyG p2 k2 d2 ns sc = dyG p k d ns sc ∧ inG p2 k2 d2 ns sc = inG p k d ns sc := by
  have e : ∀ kd dy, lopG p2 k2 d2 kd dy ns = lopG p k d kd dy ns := fun kd dy => lopG_eq ns (fun s h1 h2 => by
    obtain ⟨a, b, c⟩ := h s h1 h2
    rw [b, c]
    exact and_congr_left (fun _ => a))
  have e1 : dyG p2 k2 d2 ns sc = dyG p k d ns sc := by
    unfold dyG
    rw [e]
  refine ⟨e1, ?_⟩
  unfold inG
  rw [e1, e]
def dyM (m : Mm) (s : Nat) : Int := if m 12 s = 2 then m 13 s else 0
def inn (m : Mm) (ns : Nat) (sc : Int) : Int := inG (m 11) (m 12) (dyM m) ns sc
def dyi (m : Mm) (ns : Nat) (sc : Int) : Int := dyG (m 11) (m 12) (dyM m) ns sc
def lam (m : Mm) (sc : Int) : Int := lamG (m 3) (m 2) (m 4) sc (m 0 2).toNat
def shM (m : Mm) (s : Nat) : Mm := fun x j => if x = 11 ∧ j = s then 0 else if x = 8 ∧ 24 * s ≤ j ∧ j < 24 * s + 24 then 0 else m x j
def mZ (m : Mm) : Mm := mU (mU (mU m 0 6 0) 0 8 0) 0 9 0
/-- numbers; whether one was SPENT; how many were closed -/
abbrev CS := Mm × Int × Int
/-- one turn: an object, or the scope itself -/
def CL1 (B : Bk) (ns : Nat) (sc : Int) (x z : CS) : Prop :=
  (lam x.1 (inn x.1 ns sc) < 0 ∧ z = (shM x.1 (inn x.1 ns sc).toNat, x.2.1, x.2.2)) ∨
  (0 ≤ lam x.1 (inn x.1 ns sc) ∧ ∃ m a, TRs B (mZ x.1, 0, [Fclo0 0 (lam x.1 (inn x.1 ns sc)) (x.1 1 (lam x.1 (inn x.1 ns sc)).toNat) (x.1 2 (lam x.1 (inn x.1 ns sc)).toNat)]) (m, a, []) ∧ m 0 4 = 0 ∧ z = (mZ m, (if m 0 6 = 3 then 1 else x.2.1), x.2.2 + 1))
def CLs (B : Bk) (ns : Nat) (sc : Int) : Nat → CS → CS → Prop
  | 0, x, y => x = y
  | k + 1, x, y => x.1 11 sc.toNat ≠ 0 ∧ ∃ z, CL1 B ns sc x z ∧ CLs B ns sc k z y
theorem CL1.uq {B : Bk} {ns : Nat} {sc : Int} {x z w : CS} (h : CL1 B ns sc x z) (q : CL1 B ns sc x w) : z = w := by
  rcases h with ⟨h1, h2⟩ | ⟨h1, m, a, h2, _, h3⟩
  · rcases q with ⟨q1, q2⟩ | ⟨q1, _⟩
    · rw [h2, q2]
    · omega
  · rcases q with ⟨q1, _⟩ | ⟨q1, m2, a2, q2, _, q3⟩
    · omega
    · have e := TRs.same h2 q2 rfl rfl
      have e1 : m = m2 := congrArg Prod.fst e
      rw [h3, q3, e1]
theorem CLs.uq {B : Bk} {ns : Nat} {sc : Int} : ∀ (k j : Nat) (x y w : CS), CLs B ns sc k x y → CLs B ns sc j x w → y.1 11 sc.toNat = 0 → w.1 11 sc.toNat = 0 → y = w
  | 0, 0, x, y, w, h, q, _, _ => by
    have h : x = y := h
    have q : x = w := q
    rw [← h, q]
  | 0, j + 1, x, y, w, h, q, hy, _ => by
    have h : x = y := h
    rw [← h] at hy
    exact absurd hy q.1
  | k + 1, 0, x, y, w, h, q, _, hw => by
    have q : x = w := q
    rw [← q] at hw
    exact absurd hw h.1
  | k + 1, j + 1, x, y, w, h, q, hy, hw => by
    obtain ⟨_, z, h2, h3⟩ := h
    obtain ⟨_, z2, q2, q3⟩ := q
    rw [← CL1.uq h2 q2] at q3
    exact CLs.uq k j z y w h3 q3 hy hw
theorem CLs.tr {B : Bk} {ns : Nat} {sc : Int} : ∀ (k j : Nat) {x y w : CS}, CLs B ns sc k x y → CLs B ns sc j y w → CLs B ns sc (k + j) x w
  | 0, j, x, y, w, h, q => by
    have h : x = y := h
    rw [Nat.zero_add, h]
    exact q
  | k + 1, j, x, y, w, h, q => by
    rw [Nat.succ_add]
    obtain ⟨h1, z, h2, h3⟩ := h
    exact ⟨h1, z, h2, CLs.tr k j h3 q⟩
theorem CLs.one {B : Bk} {ns : Nat} {sc : Int} {k : Nat} {x y z : CS} (h : CLs B ns sc k x y) (o : y.1 11 sc.toNat ≠ 0) (q : CL1 B ns sc y z) : CLs B ns sc (k + 1) x z := CLs.tr k 1 h ⟨o, z, q, rfl⟩
/-! the scopes: sorts and days -/
def SCm (m : Mm) (ns : Nat) : Prop := m 12 0 = 0 ∧ m 11 0 = 1 ∧ ∀ j, 0 < j → j < ns → m 12 j = 1 ∨ (m 12 j = 2 ∧ 0 < m 13 j ∧ m 13 j < (ns : Int) ∧ m 12 (m 13 j).toNat = 1)
/-- one that is to be closed ahead of a scope -/
def chd (m : Mm) (s k : Nat) : Prop := m 11 k ≠ 0 ∧ ((m 12 s = 0 ∧ m 12 k = 1) ∨ (m 12 s = 1 ∧ m 12 k = 2 ∧ m 13 k = (s : Int)))
/-- the turn is at a scope, while another one is closed -/
def PTH (m : Mm) (ns s : Nat) (sc : Int) : Prop := (m 12 s = 2 → inn m ns sc = (s : Int)) ∧ (m 12 s = 1 → dyi m ns sc = (s : Int)) ∧ (m 12 s = 0 → sc = 0)
section CHd
variable {m m2 : Mm} {ns s : Nat} {sc : Int}
theorem inn_eq (e1 : ∀ j, m2 11 j = m 11 j) (e2 : ∀ j, m2 12 j = m 12 j) (e3 : ∀ j, m2 13 j = m 13 j) : inn m2 ns sc = inn m ns sc ∧ dyi m2 ns sc = dyi m ns sc := by
  have z := inG_eq (p := m 11) (k := m 12) (d := dyM m) (p2 := m2 11) (k2 := m2 12) (d2 := dyM m2) (ns := ns) (sc := sc) (fun s _ _ => ⟨by rw [e1], e2 s, by unfold dyM; rw [e2, e3]⟩)
  exact ⟨z.2, z.1⟩
/-- nothing is to be closed ahead of it -/
theorem inn_end (w : SCm m ns) (hs : s < ns) (hp : PTH m ns s sc) (hn : ∀ k, 0 < k → k < ns → ¬ chd m s k) : inn m ns sc = (s : Int) := by
  by_cases z : s = 0
  · subst z
    have k0 := w.1
    have e0 := hp.2.2 k0
    subst e0
    have l1 : lopG (m 11) (m 12) (dyM m) 1 0 ns = -1 := lopG_no ns (fun t h1 h2 q => hn t h1 h2 ⟨q.1, Or.inl ⟨k0, q.2.1⟩⟩)
    have d1 : dyG (m 11) (m 12) (dyM m) ns 0 = -1 := by
      unfold dyG
      rw [if_pos rfl, l1]
    have l2 : lopG (m 11) (m 12) (dyM m) 2 (-1) ns = -1 := lopG_no ns (fun t h1 h2 q => by
      have q3 := q.2.2
      unfold dyM at q3
      rw [if_pos q.2.1] at q3
      rcases w.2.2 t h1 h2 with y | y
      · have := q.2.1
        omega
      · have := y.2.1
        omega)
    unfold inn inG
    rw [d1, l2, if_neg (by decide), if_neg (by decide)]
    rfl
  · rcases w.2.2 s (by omega) hs with y | y
    · have d1 := hp.2.1 y
      unfold dyi at d1
      have l2 : lopG (m 11) (m 12) (dyM m) 2 (s : Int) ns = -1 := lopG_no ns (fun t h1 h2 q => hn t h1 h2 ⟨q.1, Or.inr ⟨y, q.2.1, by
        have q3 := q.2.2
        unfold dyM at q3
        rw [if_pos q.2.1] at q3
        exact q3⟩⟩)
      unfold inn inG
      rw [d1, l2, if_neg (by decide), if_pos (by omega)]
    · exact hp.1 y.1
/-- the latest of those is next -/
theorem PTH.dn {k : Nat} (w : SCm m ns) (hs : s < ns) (hp : PTH m ns s sc) (k0 : 0 < k) (hk : k < ns) (hc : chd m s k) (hn : ∀ j, k < j → j < ns → ¬ chd m s j) : PTH m ns k sc := by
  rcases hc.2 with ⟨a, b⟩ | ⟨a, b, c⟩
  · have e0 := hp.2.2 a
    subst e0
    refine ⟨fun z => by omega, fun _ => ?_, fun z => by omega⟩
    unfold dyi dyG
    rw [if_pos rfl]
    exact lopG_at ⟨k0, hc.1, b, by unfold dyM; rw [if_neg (by omega)]⟩ ns hk (fun t h1 h2 q => hn t h1 h2 ⟨q.1, Or.inl ⟨a, q.2.1⟩⟩)
  · refine ⟨fun _ => ?_, fun z => by omega, fun z => by omega⟩
    have d1 := hp.2.1 a
    unfold dyi at d1
    have l2 : lopG (m 11) (m 12) (dyM m) 2 (s : Int) ns = (k : Int) := lopG_at ⟨k0, hc.1, b, by unfold dyM; rw [if_pos b]; exact c⟩ ns hk (fun t h1 h2 q => hn t h1 h2 ⟨q.1, Or.inr ⟨a, q.2.1, by
      have q3 := q.2.2
      unfold dyM at q3
      rw [if_pos q.2.1] at q3
      exact q3⟩⟩)
    unfold inn inG
    rw [d1, l2, if_pos (by omega)]
/-- scopes of a longer sort stay as they are -/
theorem PTH.mv (w : SCm m ns) (hp : PTH m ns s sc) (h2 : m 12 s ≠ 2) (e1 : ∀ j, m 12 j ≤ m 12 s → m2 11 j = m 11 j) (e2 : ∀ j, m2 12 j = m 12 j) (e3 : ∀ j, m2 13 j = m 13 j) : PTH m2 ns s sc := by
  refine ⟨fun z => by rw [e2] at z; exact absurd z h2, fun z => ?_, fun z => hp.2.2 (by rw [← e2]; exact z)⟩
  rw [e2] at z
  have d1 := hp.2.1 z
  unfold dyi dyG at d1 ⊢
  by_cases q : sc = 0
  · rw [if_pos q] at d1 ⊢
    rw [← d1]
    refine lopG_eq ns (fun t h1 h2 => ?_)
    have ed : dyM m2 t = dyM m t := by
      unfold dyM
      rw [e2, e3]
    rw [ed, e2]
    constructor
    · intro y
      rw [e1 t (by rw [y.2.1, z]; exact Int.le_refl _)] at y
      exact y
    · intro y
      rw [e1 t (by rw [y.2.1, z]; exact Int.le_refl _)]
      exact y
  · rw [if_neg q] at d1 ⊢
    exact d1
end CHd
/-! the reference closes a scope -/
theorem mZ_V {V : Vf} {sg t k : Int} : mZ (mV V sg t k) = mV V 0 0 0 := by
  refine mm_ext (fun j => ?_) (fun x j => ?_)
  · rcases (show j = 0 ∨ j = 1 ∨ j = 2 ∨ j = 3 ∨ j = 4 ∨ j = 5 ∨ j = 6 ∨ j = 7 ∨ j = 8 ∨ j = 9 ∨ 10 ≤ j from by omega) with e10 | e10 | e10 | e10 | e10 | e10 | e10 | e10 | e10 | e10 | e10
    · subst e10
      rfl
    · subst e10
      rfl
    · subst e10
      rfl
    · subst e10
      rfl
    · subst e10
      rfl
    · subst e10
      rfl
    · subst e10
      rfl
    · subst e10
      rfl
    · subst e10
      rfl
    · subst e10
      rfl
    · obtain ⟨y10, rfl⟩ : ∃ y, j = y + 10 := ⟨j - 10, by omega⟩
      unfold mZ
      rw [mU_o _ _ (by omega), mU_o _ _ (by omega), mU_o _ _ (by omega)]
      rfl
  · unfold mZ
    rw [mU_o _ _ (by omega), mU_o _ _ (by omega), mU_o _ _ (by omega)]
    by_cases h : x < 13
    · rw [mV_row h, mV_row h]
    · rw [mV_big (by omega), mV_big (by omega)]
/-- the latest made one, by the reference's cells -/
def lmR (V : Vf) (sc : Int) (n : Nat) : Int := lamG (fun o => (V 63 o).toInt) (fun o => (V 62 o).toInt) (fun o => (V 64 o).toInt) sc n
theorem CLs.clo {B : Bk} {ns k : Nat} {sc s o sp c r : Int} {x : CS} {V W : Vf} (h : CLs B ns sc k x (mV V 0 0 0, sp, c)) (op : (V 56 sc.toNat).toInt ≠ 0) (hi : inn (mV V 0 0 0) ns sc = s) (hl : o = lmR V s (V 0 60).toInt.toNat) (ho : 0 ≤ o) (d : DCl B (mV V 0 0 0, 0, [Fclo0 0 o (V 61 o.toNat).toInt (V 62 o.toNat).toInt]) W [] r) (hr : r = 0 ∨ r = 1) (w95 : (W 0 95).toInt = 0) : CLs B ns sc (k + 1) x (mV W 0 0 0, (if r = 1 then 1 else sp), c + 1) := by
  obtain ⟨sg, t, k9, a, d1, d2, d3, _⟩ := d
  refine CLs.one h op (Or.inr ?_)
  have el : lam (mV V 0 0 0) (inn (mV V 0 0 0) ns sc) = o := by
    rw [hi, hl]
    rfl
  refine ⟨by show 0 ≤ lam (mV V 0 0 0) (inn (mV V 0 0 0) ns sc); rw [el]; exact ho, mV W sg t k9, a, ?_, w95, ?_⟩
  · show TRs B (mZ (mV V 0 0 0), 0, [Fclo0 0 (lam (mV V 0 0 0) (inn (mV V 0 0 0) ns sc)) (mV V 0 0 0 1 (lam (mV V 0 0 0) (inn (mV V 0 0 0) ns sc)).toNat) (mV V 0 0 0 2 (lam (mV V 0 0 0) (inn (mV V 0 0 0) ns sc)).toNat)]) _
    rw [el, mZ_V]
    exact d1
  · show _ = (mZ (mV W sg t k9), (if sg = 3 then 1 else sp), c + 1)
    rw [mZ_V]
    rcases hr with q | q
    · rw [if_neg (d3 q), if_neg (by omega)]
    · rw [if_pos (d2 q), if_pos q]
theorem CLs.shu {B : Bk} {ns k s : Nat} {sc sp c : Int} {x : CS} {V : Vf} (h : CLs B ns sc k x (mV V 0 0 0, sp, c)) (op : (V 56 sc.toNat).toInt ≠ 0) (hi : inn (mV V 0 0 0) ns sc = (s : Int)) (hl : lmR V (s : Int) (V 0 60).toInt.toNat < 0) : CLs B ns sc (k + 1) x (shM (mV V 0 0 0) s, sp, c) := by
  refine CLs.one h op (Or.inl ⟨?_, ?_⟩)
  · show lam (mV V 0 0 0) (inn (mV V 0 0 0) ns sc) < 0
    rw [hi]
    exact hl
  · show _ = (shM (mV V 0 0 0) (inn (mV V 0 0 0) ns sc).toNat, sp, c)
    rw [hi]
    rfl
def mvT (fs : List (Nat × Nat)) (cs : List Nat) : Bool := fs.all (fun y => y.1 == 0 && !(mvF.contains y)) && cs.all (fun c => c != 0 && (c == 56 || c == 59 || !(mvK.contains c)))
theorem mvT_f {L : List (Nat × Nat)} {cs : List Nat} (q : mvT L cs = true) {k : Nat} (h : mvF.contains (0, k) = true) : wrL L cs 0 k = false := by
  unfold mvT at q
  rw [Bool.and_eq_true, List.all_eq_true, List.all_eq_true] at q
  unfold wrL
  rw [Bool.or_eq_false_iff]
  refine ⟨?_, ?_⟩
  · rw [← Bool.not_eq_true]
    intro z
    have y := q.1 _ (List.contains_iff_mem.mp z)
    rw [Bool.and_eq_true, h] at y
    exact absurd y.2 (by decide)
  · rw [← Bool.not_eq_true]
    intro z
    have y := q.2 _ (List.contains_iff_mem.mp z)
    rw [Bool.and_eq_true] at y
    exact absurd y.1 (by decide)
theorem mvT_k {L : List (Nat × Nat)} {cs : List Nat} (q : mvT L cs = true) {c k : Nat} (h0 : c ≠ 0) (h : mvK.contains c = true) (h6 : c ≠ 56) (h9 : c ≠ 59) : wrL L cs c k = false := by
  unfold mvT at q
  rw [Bool.and_eq_true, List.all_eq_true, List.all_eq_true] at q
  unfold wrL
  rw [Bool.or_eq_false_iff]
  refine ⟨?_, ?_⟩
  · rw [← Bool.not_eq_true]
    intro z
    have y := q.1 _ (List.contains_iff_mem.mp z)
    rw [Bool.and_eq_true] at y
    exact h0 (eq_of_beq y.1)
  · rw [← Bool.not_eq_true]
    intro z
    have y := q.2 _ (List.contains_iff_mem.mp z)
    rw [Bool.and_eq_true, h, beq_false_of_ne h6, beq_false_of_ne h9] at y
    exact absurd y.2 (by decide)
/-- a scope is shut -/
theorem mV_sh {L : List (Nat × Nat)} {cs : List Nat} {V W : Vf} {s : Nat} (g : agr L cs V W) (q : mvT L cs = true) (e56 : ∀ j, j ≠ s → W 56 j = V 56 j) (n56 : (W 56 s).toInt = if s = 0 then 1 else 0) (e59 : ∀ j, ¬ (24 * s ≤ j ∧ j < 24 * s + 24) → W 59 j = V 59 j) (n59 : ∀ j, 24 * s ≤ j → j < 24 * s + 24 → (W 59 j).toInt = 0) : shM (mV V 0 0 0) s = if s = 0 then mU (mV W 0 0 0) 11 0 0 else mV W 0 0 0 := by
  have key : ∀ x j, shM (mV V 0 0 0) s x j = if x = 11 ∧ j = s then 0 else mV W 0 0 0 x j := fun x j => by
    unfold shM
    by_cases h1 : x = 11 ∧ j = s
    · rw [if_pos h1, if_pos h1]
    · rw [if_neg h1, if_neg h1]
      by_cases h2 : x = 8 ∧ 24 * s ≤ j ∧ j < 24 * s + 24
      · rw [if_pos h2, h2.1]
        exact (n59 j h2.2.1 h2.2.2).symm
      · rw [if_neg h2]
        cases x with
        | zero =>
          rcases (show j = 0 ∨ j = 1 ∨ j = 2 ∨ j = 3 ∨ j = 4 ∨ j = 5 ∨ j = 6 ∨ j = 7 ∨ j = 8 ∨ j = 9 ∨ 10 ≤ j from by omega) with e10 | e10 | e10 | e10 | e10 | e10 | e10 | e10 | e10 | e10 | e10
          · subst e10
            rw [mV_00, mV_00]
            exact (congrArg Int32.toInt (g 0 68 (mvT_f q rfl))).symm
          · subst e10
            rw [mV_01, mV_01]
            exact (congrArg Int32.toInt (g 0 69 (mvT_f q rfl))).symm
          · subst e10
            rw [mV_02, mV_02]
            exact (congrArg Int32.toInt (g 0 60 (mvT_f q rfl))).symm
          · subst e10
            rw [mV_03, mV_03]
            exact (congrArg Int32.toInt (g 0 65 (mvT_f q rfl))).symm
          · subst e10
            rw [mV_04, mV_04]
            exact (congrArg Int32.toInt (g 0 95 (mvT_f q rfl))).symm
          · subst e10
            rw [mV_05, mV_05]
            exact (congrArg Int32.toInt (g 0 73 (mvT_f q rfl))).symm
          · subst e10
            rw [mV_06, mV_06]
          · subst e10
            rw [mV_07, mV_07]
          · subst e10
            rw [mV_08, mV_08]
          · subst e10
            rw [mV_09, mV_09]
          · obtain ⟨y10, rfl⟩ : ∃ y, j = y + 10 := ⟨j - 10, by omega⟩
            rw [mV_0x, mV_0x]
        | succ y =>
          by_cases hy : y < 13
          · rw [mV_row hy, mV_row hy]
            by_cases y10 : y = 10
            · subst y10
              exact (congrArg Int32.toInt (e56 j (fun e => h1 ⟨rfl, e⟩))).symm
            · by_cases y7 : y = 7
              · subst y7
                exact (congrArg Int32.toInt (e59 j (fun e => h2 ⟨rfl, e⟩))).symm
              · refine (congrArg Int32.toInt (g _ _ (mvT_k q (mvC_k hy).1 (mvC_k hy).2 ?_ ?_))).symm
                · rcases (show y = 0 ∨ y = 1 ∨ y = 2 ∨ y = 3 ∨ y = 4 ∨ y = 5 ∨ y = 6 ∨ y = 8 ∨ y = 9 ∨ y = 11 ∨ y = 12 from by omega) with e | e | e | e | e | e | e | e | e | e | e <;> (subst e; decide)
                · rcases (show y = 0 ∨ y = 1 ∨ y = 2 ∨ y = 3 ∨ y = 4 ∨ y = 5 ∨ y = 6 ∨ y = 8 ∨ y = 9 ∨ y = 11 ∨ y = 12 from by omega) with e | e | e | e | e | e | e | e | e | e | e <;> (subst e; decide)
          · rw [mV_big (by omega), mV_big (by omega)]
  by_cases z : s = 0
  · rw [if_pos z]
    funext x j
    rw [key]
    by_cases h1 : x = 11 ∧ j = 0
    · rw [if_pos ⟨h1.1, h1.2.trans z.symm⟩, h1.1, h1.2, mU_s]
    · rw [if_neg (fun h => h1 ⟨h.1, h.2.trans z⟩), mU_o _ _ h1]
  · rw [if_neg z]
    funext x j
    rw [key]
    by_cases h1 : x = 11 ∧ j = s
    · rw [if_pos h1, h1.1, h1.2]
      show 0 = (W 56 s).toInt
      rw [n56, if_neg z]
    · rw [if_neg h1]
/-- how many scopes are open -/
def opc (V : Vf) : Nat → Nat
  | 0 => 0
  | n + 1 => opc V n + (if (V 56 n).toInt = 0 then 0 else 1)
theorem opc_le (V : Vf) : ∀ n, opc V n ≤ n
  | 0 => Nat.le_refl _
  | n + 1 => by
    have ih := opc_le V n
    show opc V n + (if (V 56 n).toInt = 0 then 0 else 1) ≤ n + 1
    split <;> omega
theorem opc_eq {V W : Vf} : ∀ n, (∀ j, j < n → W 56 j = V 56 j) → opc W n = opc V n
  | 0, _ => rfl
  | n + 1, h => by
    show opc W n + (if (W 56 n).toInt = 0 then 0 else 1) = opc V n + (if (V 56 n).toInt = 0 then 0 else 1)
    rw [opc_eq n (fun j hj => h j (by omega)), h n (by omega)]
theorem opc_dn {V W : Vf} {s : Nat} (e : ∀ j, j ≠ s → W 56 j = V 56 j) (h1 : (V 56 s).toInt ≠ 0) (h0 : (W 56 s).toInt = 0) : ∀ n, s < n → opc W n + 1 = opc V n
  | 0, h => absurd h (Nat.not_lt_zero _)
  | n + 1, h => by
    show opc W n + (if (W 56 n).toInt = 0 then 0 else 1) + 1 = opc V n + (if (V 56 n).toInt = 0 then 0 else 1)
    by_cases q : s = n
    · subst q
      rw [opc_eq s (fun j hj => e j (by omega)), if_pos h0, if_neg h1]
    · rw [e n (fun z => q z.symm)]
      have ih := opc_dn e h1 h0 n (by omega)
      omega
theorem opc_0 {V : Vf} (h : (V 56 0).toInt ≠ 0) : ∀ n, 1 ≤ opc V (n + 1)
  | 0 => by
    show 1 ≤ 0 + (if (V 56 0).toInt = 0 then 0 else 1)
    rw [if_neg h]
    exact Nat.le_refl _
  | n + 1 => by
    have ih := opc_0 h n
    show 1 ≤ opc V (n + 1) + _
    omega
/-- what is opened stays, but for scopes of a shorter sort -/
def OPl (V W : Vf) (s : Nat) : Prop := (∀ j, (V 57 j).toInt ≤ (V 57 s).toInt → W 56 j = V 56 j) ∧ ∀ j, (W 56 j).toInt = 0 ∨ W 56 j = V 56 j
def OPk (V W : Vf) (s : Nat) : Prop := (∀ j, j ≠ s → (V 57 j).toInt ≤ (V 57 s).toInt → W 56 j = V 56 j) ∧ (∀ j, (W 56 j).toInt = 0 ∨ W 56 j = V 56 j ∨ j = 0) ∧ (W 56 s).toInt = if s = 0 then 1 else 0
theorem OPl.rf {V : Vf} {s : Nat} : OPl V V s := ⟨fun _ _ => rfl, fun _ => Or.inr rfl⟩
theorem OPl.tr {V U W : Vf} {s k : Nat} (h : OPl V U s) (q : OPk U W k) (e57 : ∀ j, U 57 j = V 57 j) (hk : (V 57 s).toInt < (V 57 k).toInt) (k0 : k ≠ 0) (z0 : (V 57 0).toInt ≤ (V 57 s).toInt) : OPl V W s := by
  refine ⟨fun j hj => ?_, fun j => ?_⟩
  · rw [q.1 j (fun e => by rw [e] at hj; omega) (by rw [e57, e57]; omega)]
    exact h.1 j hj
  · rcases q.2.1 j with y | y | y
    · exact Or.inl y
    · rw [y]
      exact h.2 j
    · subst y
      rw [q.1 0 (fun e => k0 e.symm) (by rw [e57, e57]; omega)]
      exact h.2 0
theorem OPl.mv {V U W : Vf} {s : Nat} (h : OPl V U s) (e : ∀ j, W 56 j = U 56 j) : OPl V W s := ⟨fun j hj => (e j).trans (h.1 j hj), fun j => by rw [e]; exact h.2 j⟩
theorem OPl.k {V U W : Vf} {s : Nat} (h : OPl V U s) (e : ∀ j, j ≠ s → W 56 j = U 56 j) (n : (W 56 s).toInt = if s = 0 then 1 else 0) : OPk V W s := by
  refine ⟨fun j hs hj => (e j hs).trans (h.1 j hj), fun j => ?_, n⟩
  by_cases q : j = s
  · by_cases z : s = 0
    · exact Or.inr (Or.inr (q.trans z))
    · rw [if_neg z] at n
      rw [q]
      exact Or.inl n
  · rw [e j q]
    rcases h.2 j with y | y
    · exact Or.inl y
    · exact Or.inr (Or.inl y)
theorem SCm.op {V W : Vf} {ns s : Nat} (w : SCm (mV V 0 0 0) ns) (h : OPl V W s) (e57 : ∀ j, W 57 j = V 57 j) (e58 : ∀ j, W 58 j = V 58 j) (h0 : 0 ≤ (V 57 s).toInt) : SCm (mV W 0 0 0) ns := by
  have e12 : ∀ j, mV W 0 0 0 12 j = mV V 0 0 0 12 j := fun j => congrArg Int32.toInt (e57 j)
  have e13 : ∀ j, mV W 0 0 0 13 j = mV V 0 0 0 13 j := fun j => congrArg Int32.toInt (e58 j)
  refine ⟨(e12 0).trans w.1, ?_, fun j h1 h2 => ?_⟩
  · have z : (V 57 0).toInt = 0 := w.1
    have y : W 56 0 = V 56 0 := h.1 0 (by omega)
    exact (congrArg Int32.toInt y).trans w.2.1
  · rw [e12, e13, e12]
    exact w.2.2 j h1 h2
theorem PTH.op {V W : Vf} {ns s : Nat} {sc : Int} (w : SCm (mV V 0 0 0) ns) (hp : PTH (mV V 0 0 0) ns s sc) (h : OPl V W s) (h2 : (V 57 s).toInt ≠ 2) (e57 : ∀ j, W 57 j = V 57 j) (e58 : ∀ j, W 58 j = V 58 j) : PTH (mV W 0 0 0) ns s sc :=
  PTH.mv w hp h2 (fun j hj => congrArg Int32.toInt (h.1 j hj)) (fun j => congrArg Int32.toInt (e57 j)) (fun j => congrArg Int32.toInt (e58 j))
theorem PTH.sm {V W : Vf} {ns s : Nat} {sc : Int} (hp : PTH (mV V 0 0 0) ns s sc) (e56 : ∀ j, W 56 j = V 56 j) (e57 : ∀ j, W 57 j = V 57 j) (e58 : ∀ j, W 58 j = V 58 j) : PTH (mV W 0 0 0) ns s sc := by
  have z := inn_eq (m := mV V 0 0 0) (m2 := mV W 0 0 0) (ns := ns) (sc := sc) (fun j => congrArg Int32.toInt (e56 j)) (fun j => congrArg Int32.toInt (e57 j)) (fun j => congrArg Int32.toInt (e58 j))
  have e12 : mV W 0 0 0 12 s = mV V 0 0 0 12 s := congrArg Int32.toInt (e57 s)
  refine ⟨fun q => z.1.trans (hp.1 (e12.symm.trans q)), fun q => z.2.trans (hp.2.1 (e12.symm.trans q)), fun q => hp.2.2 (e12.symm.trans q)⟩
theorem chd.mv {V W : Vf} {s j : Nat} (h : chd (mV W 0 0 0) s j) (e56 : (W 56 j).toInt = 0 ∨ W 56 j = V 56 j) (e57 : ∀ j, W 57 j = V 57 j) (e58 : ∀ j, W 58 j = V 58 j) : chd (mV V 0 0 0) s j := by
  have e12 : ∀ j, mV W 0 0 0 12 j = mV V 0 0 0 12 j := fun j => congrArg Int32.toInt (e57 j)
  have e13 : ∀ j, mV W 0 0 0 13 j = mV V 0 0 0 13 j := fun j => congrArg Int32.toInt (e58 j)
  obtain ⟨h1, h2⟩ := h
  rw [e12, e12, e13] at h2
  rcases e56 with y | y
  · exact absurd y h1
  · exact ⟨fun z => h1 ((congrArg Int32.toInt y).trans z), h2⟩
theorem SCm.eq {m m2 : Mm} {ns : Nat} (w : SCm m ns) (e1 : ∀ j, m2 11 j = m 11 j) (e2 : ∀ j, m2 12 j = m 12 j) (e3 : ∀ j, m2 13 j = m 13 j) : SCm m2 ns := by
  refine ⟨(e2 0).trans w.1, (e1 0).trans w.2.1, fun j h1 h2 => ?_⟩
  rw [e2, e3, e2]
  exact w.2.2 j h1 h2
theorem SCm.opk {V W : Vf} {ns s : Nat} (w : SCm (mV V 0 0 0) ns) (h : OPk V W s) (e57 : ∀ j, W 57 j = V 57 j) (e58 : ∀ j, W 58 j = V 58 j) (h0 : 0 ≤ (V 57 s).toInt) : SCm (mV W 0 0 0) ns := by
  have e12 : ∀ j, mV W 0 0 0 12 j = mV V 0 0 0 12 j := fun j => congrArg Int32.toInt (e57 j)
  have e13 : ∀ j, mV W 0 0 0 13 j = mV V 0 0 0 13 j := fun j => congrArg Int32.toInt (e58 j)
  refine ⟨(e12 0).trans w.1, ?_, fun j h1 h2 => ?_⟩
  · by_cases q : s = 0
    · have y := h.2.2
      rw [q, if_pos rfl] at y
      exact y
    · have z : (V 57 0).toInt = 0 := w.1
      exact (congrArg Int32.toInt (h.1 0 (fun e => q e.symm) (by omega))).trans w.2.1
  · rw [e12, e13, e12]
    exact w.2.2 j h1 h2
theorem SCm.k0 {V : Vf} {ns s : Nat} (w : SCm (mV V 0 0 0) ns) (hs : s < ns) : 0 ≤ (V 57 s).toInt := by
  by_cases q : s = 0
  · have z : (V 57 0).toInt = 0 := w.1
    rw [q]
    omega
  · have y : (V 57 s).toInt = 1 ∨ (V 57 s).toInt = 2 := (w.2.2 s (by omega) hs).imp id (fun z => z.1)
    omega
theorem PTH.top {m : Mm} {ns s : Nat} (w : SCm m ns) (hs : s < ns) : PTH m ns s (s : Int) := by
  by_cases z : s = 0
  · subst z
    exact ⟨fun q => by rw [w.1] at q; omega, fun q => by rw [w.1] at q; omega, fun _ => rfl⟩
  · have d0 : dyi m ns (s : Int) = (s : Int) := by
      unfold dyi dyG
      rw [if_neg (by omega)]
    refine ⟨fun q => ?_, fun _ => d0, fun q => ?_⟩
    · have l2 : lopG (m 11) (m 12) (dyM m) 2 (s : Int) ns = -1 := lopG_no ns (fun t h1 h2 y => by
        have y3 := y.2.2
        unfold dyM at y3
        rw [if_pos y.2.1] at y3
        rcases w.2.2 t h1 h2 with u | u
        · have := y.2.1
          omega
        · have u4 := u.2.2.2
          rw [y3] at u4
          have u5 : m 12 s = 1 := u4
          omega)
      unfold inn inG
      unfold dyi at d0
      rw [d0, l2, if_neg (by decide), if_pos (by omega)]
    · rcases w.2.2 s (by omega) hs with u | u
      · omega
      · have := u.1
        omega
/-- a scope was closed: the numbers behind it, as the turns leave them -/
def ymW (W : Vf) (s : Nat) : Mm := if s = 0 then mU (mV W 0 0 0) 11 0 0 else mV W 0 0 0
def CLo (B : Bk) (ns : Nat) (sc : Int) (x : Mm) (W : Vf) (sp n : Int) : Prop := ∃ k9 : Nat, k9 ≤ 340 ∧ CLs B ns sc k9 (x, 0, 0) (ymW W sc.toNat, sp, n) ∧ ymW W sc.toNat 11 sc.toNat = 0
theorem CLo.of {B : Bk} {ns s : Nat} {sc sp n : Int} {x : Mm} {U V W : Vf} (hs : sc.toNat = s) (h : ∃ k9 : Nat, CLs B ns sc k9 (x, 0, 0) ((if s = 0 then mU (mV W 0 0 0) 11 0 0 else mV W 0 0 0), sp, 0 + n) ∧ (k9 : Int) + (mu W : Int) + (opc W 40 : Int) ≤ (mu V : Int) + (opc V 40 : Int) + (if s = 0 then 1 else 0)) (hv : (V 0 60).toInt ≤ 300) (ok : OPk U W s) : CLo B ns sc x W sp n := by
  obtain ⟨k9, h1, h2⟩ := h
  rw [Int.zero_add] at h1
  have m1 := mu_le hv
  have o1 := opc_le V 40
  have e := ok.2.2
  refine ⟨k9, ?_, by rw [hs]; exact h1, ?_⟩
  · by_cases q : s = 0
    · rw [if_pos q] at h2 e
      have o2 := opc_0 (V := W) (by rw [q] at e; omega) 39
      have o2 : 1 ≤ opc W 40 := o2
      omega
    · rw [if_neg q] at h2
      omega
  · rw [hs]
    unfold ymW
    by_cases q : s = 0
    · rw [if_pos q, q, mU_s]
    · rw [if_neg q]
      rw [if_neg q] at e
      exact e


abbrev r_s_latestIn3 : Room := { frames := 0, cells := 0, slots := 0, locals := 0 }
abbrev q_s_latestIn3 (D : va_G) (ks : KS) (ad : Nat → Nat) (kk : Nat → ClassId) (V : Vf) (L : Lf) (p0 : Int32) (A : Nat → Prop) : Array Value → State → Outcome → State → Prop := va_Qi (fun (r : Int32) (_ : Unit) => ((-1) ≤ r.toInt ∧ r.toInt ≤ 299) ∧ (r.toInt < (V 0 60).toInt) ∧ (Imp (0 ≤ r.toInt) ((V 63 (Int32.toNatClampNeg r)).toInt = 1)) ∧ (r.toInt = lmR V p0.toInt (V 0 60).toInt.toNat)) (fun _ t => gq D A (mw ad kk ks.1 V L) (mty kk) t) A
set_option maxHeartbeats 4000000 in
set_option maxRecDepth 100000 in
theorem s_latestIn3 (l : Launch) (D : va_G) (ks : KS) (sz : Nat) (ad : Nat → Nat) (kk : Nat → ClassId) (V : Vf) (L : Lf) (p0 : Int32) (hMV : rgd bM V)  : Met l yX12_latestIn (Cond.code yX12_latestIn cX12_latestIn 4 (some .int) :: GW) r_s_latestIn3 (va_Pc [.ref (ad 0), .int p0] (gp D ks (mw ad kk ks.1 V L) (mty kk) sz)) (q_s_latestIn3 D ks ad kk V L p0 (va_A (mw ad kk ks.1 V L) sz)) 0 0 (va_A (mw ad kk ks.1 V L) sz) := by
  refine g_met (q_s_latestIn3 D ks ad kk V L p0) (by decide) (Nat.le_of_ble_eq_true rfl) ?_
  intro p e s m below meth c A ls H locs hx hb hr hml hown hg hlocks hin hnw hgk hP hK hD hS hA hl
  have hown : s.vm.findClass RX12 = some m.cls := hown
  have hl : lv_has ls 4 [(0, .ref (ad 0)), (1, .int p0)] := hl
  have hP : va_P D vwCl (mw ad kk ks.1 V L) H := hP
  have hD : va_D A (mw ad kk ks.1 V L) := hD
  have hK : va_K D vwCl (mty kk) s := hK
  refine lv_iconst (v := (-1)) hx hb dX12_latestIn_0 (by decide) ?_
  refine lv_istore_n (lv' := [(2, .int (-1)), (0, .ref (ad 0)), (1, .int p0)]) hx hb dX12_latestIn_1 rfl hl (by decide) rfl (fun ls hl => ?_)
  refine lv_iconst (v := 0) hx hb dX12_latestIn_2 (by decide) ?_
  refine lv_istore_n (lv' := [(3, .int 0), (2, .int (-1)), (0, .ref (ad 0)), (1, .int p0)]) hx hb dX12_latestIn_3 rfl hl (by decide) rfl (fun ls hl => ?_)
  have lp3 : ∀ (fulp3 : Nat) (y1 : Int32) (y2 : Int32) (H : Heap) (locs : List Loc) (ls : Array Slot), 0 ≤ y1.toInt ∧ y1.toInt ≤ 300 → (-1) ≤ y2.toInt ∧ y2.toInt ≤ 299 → y1.toInt ≤ (V 0 60).toInt → y2.toInt < (V 0 60).toInt → Imp (0 ≤ y2.toInt) ((V 63 (Int32.toNatClampNeg y2)).toInt = 1) → (y2.toInt = lmR V p0.toInt y1.toInt.toNat) → (V 0 60).toInt - y1.toInt < (fulp3 : Int) → va_P D vwCl (mw ad kk ks.1 V L) H → va_D A (mw ad kk ks.1 V L) → va_S A s.heap H locs → lv_has ls 4 [(3, .int y1), (2, .int y2), (0, .ref (ad 0)), (1, .int p0)] → W p l e r_s_latestIn3 s m ([.ref (ad 0), .int p0] : List Value).toArray below meth c H locs 0 0 (MQ below (q_s_latestIn3 D ks ad kk V L p0 A) ([.ref (ad 0), .int p0] : List Value).toArray s 0 0 A) (F0 m 4 ls []) := by
    intro fulp3
    induction fulp3 with
    | zero =>
      intro y1 y2 H locs ls klp3_0 klp3_1 xlp3_0 xlp3_1 xlp3_2 xlp3_3 hn  hP hD hS hl
      exfalso; (first | exact om_4634b1278845 xlp3_0 hn | omega)
    | succ fulp3 ihlp3 =>
      intro y1 y2 H locs ls klp3_0 klp3_1 xlp3_0 xlp3_1 xlp3_2 xlp3_3 hn  hP hD hS hl
      have r4 : 0 ≤ ((V 0 60)).toInt ∧ ((V 0 60)).toInt ≤ 300 := hMV 0 60
      have r5 : 0 ≤ ((V 63 (Int32.toNatClampNeg y2))).toInt ∧ ((V 63 (Int32.toNatClampNeg y2))).toInt ≤ 2 := hMV 63 (Int32.toNatClampNeg y2)
      refine lv_iload_n hx hb dX12_latestIn_4 rfl (lv_at hl 0 rfl) ?_
      refine lv_aload_n hx hb dX12_latestIn_5 rfl (lv_at hl 2 rfl) ?_
      refine va_get (D := D) (ci := 12) (v := .int (V 0 60)) (C := RX12) (T := TX12) (N := 100) hx hb hg inX12 hown hK hP 0 rfl rfl 60 (by decide) (hg _ w1766) (fun _ h9 => h9) rfl dX12_latestIn_6 ?_
      refine lv_icmp_ge (tgt := 63) hx hb dX12_latestIn_9 (by decide) (fun c6 => ?_) (fun c6 => ?_)
      · skip
        have f7 : ((V 0 60)).toInt ≤ y1.toInt := b_le rfl rfl c6
        refine lv_iload_n hx hb dX12_latestIn_63 rfl (lv_at hl 1 rfl) ?_
        exact W.iret (v := y2) hx hb hr (fun t ht hW => ⟨⟨y2, (), rfl, ⟨(show (-1) ≤ y2.toInt ∧ y2.toInt ≤ 299 from by first | exact om_480f5491841b klp3_0.2 xlp3_1 xlp3_3 f7 | first | omega | ((try (have i_xlp3_2 := Imp.go xlp3_2 (by omega))); omega)), (show y2.toInt < (V 0 60).toInt from by first | exact om_0e9116797efb xlp3_1 | first | omega | ((try (have i_xlp3_2 := Imp.go xlp3_2 (by omega))); omega)), xlp3_2, (by have h9 := xlp3_3; rw [show (y1.toInt).toNat = (V 0 60).toInt.toNat from by omega] at h9; exact h9)⟩, by rw [ht]; exact hP, va_K.moved hW.alike hK, hD⟩, hS.F ht⟩) hS.2.2 dX12_latestIn_64
      · skip
        have f8 : y1.toInt < ((V 0 60)).toInt := b_nle rfl rfl c6
        refine lv_aload_n hx hb dX12_latestIn_12 rfl (lv_at hl 2 rfl) ?_
        refine va_get (D := D) (ci := 12) (v := .ref (ad 63)) (C := RX12) (T := TX12) (N := 100) hx hb hg inX12 hown hK hP 0 rfl rfl 63 (by decide) (hg _ w1769) (fun _ h9 => h9) rfl dX12_latestIn_13 ?_
        refine lv_iload_n hx hb dX12_latestIn_16 rfl (lv_at hl 0 rfl) ?_
        refine va_iald (D := D) (i := y1) hx hb hK hP 48 47 rfl rfl (i_in (a := y1.toInt) rfl (by first | exact om_cd73be67f278 klp3_0.1 r4.2 f8 | first | omega | ((try (have i_xlp3_2 := Imp.go xlp3_2 (by omega))); omega))) dX12_latestIn_17 ?_
        have r9 : 0 ≤ ((V 63 (Int32.toNatClampNeg y1))).toInt ∧ ((V 63 (Int32.toNatClampNeg y1))).toInt ≤ 2 := hMV 63 (Int32.toNatClampNeg y1)
        refine lv_iconst (v := 1) hx hb dX12_latestIn_18 (by decide) ?_
        refine lv_icmp_ne (tgt := 55) hx hb dX12_latestIn_19 (by decide) (fun c10 => ?_) (fun c10 => ?_)
        · skip
          have f11 : ((V 63 (Int32.toNatClampNeg y1))).toInt ≠ 1 := b_neq rfl (by decide) c10
          refine lv_iload_n hx hb dX12_latestIn_55 rfl (lv_at hl 1 rfl) ?_
          refine lv_istore_n (lv' := [(2, .int y2), (3, .int y1), (0, .ref (ad 0)), (1, .int p0)]) hx hb dX12_latestIn_56 rfl hl (by decide) rfl (fun ls hl => ?_)
          obtain ⟨z12, ez12⟩ : ∃ y : Int32, y = y1 + 1 := ⟨_, rfl⟩
          have hz12 : z12.toInt = y1.toInt + 1 := i_add ez12 rfl (by decide) (by (first | exact om_c09ff01990d3 klp3_0.1 r4.2 f8 | omega))
          refine lv_iinc (v := z12) (lv' := [(3, .int z12), (2, .int y2), (0, .ref (ad 0)), (1, .int p0)]) hx hb dX12_latestIn_57 hl (k := 1) rfl (by rw [ez12]; rfl) (by decide) rfl (fun ls hl => ?_)
          refine lv_goto (tgt := 4) hx hb dX12_latestIn_60 (by decide) ?_
          have ky9 := i_clamp (x := y1) rfl (by (first | exact om_eafa9039069c klp3_0.1 | omega))
          have ez9 : (z12.toInt).toNat = (Int32.toNatClampNeg y1) + 1 := by omega
          have hx9 : y2.toInt = lmR V p0.toInt (Int32.toNatClampNeg y1) := xlp3_3
          have la13 : y2.toInt = lmR V p0.toInt (z12.toInt).toNat := by rw [ez9]; exact lamG_n hx9 (fun h9 => by have h1 : (V 63 (Int32.toNatClampNeg y1)).toInt = 1 := h9.1; have h2 : (V 62 (Int32.toNatClampNeg y1)).toInt = p0.toInt := h9.2.1; have h3 : y2.toInt < 0 ∨ (V 64 (Int32.toNatClampNeg y2)).toInt < (V 64 (Int32.toNatClampNeg y1)).toInt := h9.2.2; omega)
          exact ihlp3 z12 y2 H locs ls (by first | exact om_0d23cfa2d5c1 klp3_0.1 r4.2 f8 hz12 | first | omega | ((try (have i_xlp3_2 := Imp.go xlp3_2 (by omega))); omega)) (by first | exact om_deeadfebb293 klp3_1.2 la13 | first | omega | ((try (have i_xlp3_2 := Imp.go xlp3_2 (by omega))); omega)) (show z12.toInt ≤ (V 0 60).toInt from by first | exact om_7fe9249fc074 f8 hz12 | first | omega | ((try (have i_xlp3_2 := Imp.go xlp3_2 (by omega))); omega)) (show y2.toInt < (V 0 60).toInt from by first | exact om_0e9116797efb xlp3_1 | first | omega | ((try (have i_xlp3_2 := Imp.go xlp3_2 (by omega))); omega)) (Imp.mk (fun hp => have hp : 0 ≤ y2.toInt := hp; (show (V 63 (Int32.toNatClampNeg y2)).toInt = 1 from by first | exact om_710535a98d88 ((Imp.go xlp3_2 (hp))) | first | omega | ((try (have i_xlp3_2 := Imp.go xlp3_2 (by omega))); omega)))) la13 (by first | exact om_9e7d2b874257 hn hz12 | first | omega | ((try (have i_xlp3_2 := Imp.go xlp3_2 (by omega))); omega)) hP hD hS (lv_sub hl [0, 1, 2, 3] rfl)
        · skip
          have f14 : ((V 63 (Int32.toNatClampNeg y1))).toInt = 1 := b_eq rfl (by decide) c10
          refine lv_aload_n hx hb dX12_latestIn_22 rfl (lv_at hl 2 rfl) ?_
          refine va_get (D := D) (ci := 12) (v := .ref (ad 62)) (C := RX12) (T := TX12) (N := 100) hx hb hg inX12 hown hK hP 0 rfl rfl 62 (by decide) (hg _ w1768) (fun _ h9 => h9) rfl dX12_latestIn_23 ?_
          refine lv_iload_n hx hb dX12_latestIn_26 rfl (lv_at hl 0 rfl) ?_
          refine va_iald (D := D) (i := y1) hx hb hK hP 47 46 rfl rfl (i_in (a := y1.toInt) rfl (by first | exact om_cd73be67f278 klp3_0.1 r4.2 f8 | first | omega | ((try (have i_xlp3_2 := Imp.go xlp3_2 (by omega))); omega))) dX12_latestIn_27 ?_
          have r15 : 0 ≤ ((V 62 (Int32.toNatClampNeg y1))).toInt ∧ ((V 62 (Int32.toNatClampNeg y1))).toInt ≤ 39 := hMV 62 (Int32.toNatClampNeg y1)
          refine lv_iload_n hx hb dX12_latestIn_28 rfl (lv_at hl 3 rfl) ?_
          refine lv_icmp_ne (tgt := 55) hx hb dX12_latestIn_29 (by decide) (fun c16 => ?_) (fun c16 => ?_)
          · skip
            have f17 : ((V 62 (Int32.toNatClampNeg y1))).toInt ≠ p0.toInt := b_neq rfl rfl c16
            refine lv_iload_n hx hb dX12_latestIn_55 rfl (lv_at hl 1 rfl) ?_
            refine lv_istore_n (lv' := [(2, .int y2), (3, .int y1), (0, .ref (ad 0)), (1, .int p0)]) hx hb dX12_latestIn_56 rfl hl (by decide) rfl (fun ls hl => ?_)
            obtain ⟨z18, ez18⟩ : ∃ y : Int32, y = y1 + 1 := ⟨_, rfl⟩
            have hz18 : z18.toInt = y1.toInt + 1 := i_add ez18 rfl (by decide) (by (first | exact om_c09ff01990d3 klp3_0.1 r4.2 f8 | omega))
            refine lv_iinc (v := z18) (lv' := [(3, .int z18), (2, .int y2), (0, .ref (ad 0)), (1, .int p0)]) hx hb dX12_latestIn_57 hl (k := 1) rfl (by rw [ez18]; rfl) (by decide) rfl (fun ls hl => ?_)
            refine lv_goto (tgt := 4) hx hb dX12_latestIn_60 (by decide) ?_
            have ky9 := i_clamp (x := y1) rfl (by (first | exact om_eafa9039069c klp3_0.1 | omega))
            have ez9 : (z18.toInt).toNat = (Int32.toNatClampNeg y1) + 1 := by omega
            have hx9 : y2.toInt = lmR V p0.toInt (Int32.toNatClampNeg y1) := xlp3_3
            have la19 : y2.toInt = lmR V p0.toInt (z18.toInt).toNat := by rw [ez9]; exact lamG_n hx9 (fun h9 => by have h1 : (V 63 (Int32.toNatClampNeg y1)).toInt = 1 := h9.1; have h2 : (V 62 (Int32.toNatClampNeg y1)).toInt = p0.toInt := h9.2.1; have h3 : y2.toInt < 0 ∨ (V 64 (Int32.toNatClampNeg y2)).toInt < (V 64 (Int32.toNatClampNeg y1)).toInt := h9.2.2; omega)
            exact ihlp3 z18 y2 H locs ls (by first | exact om_0d23cfa2d5c1 klp3_0.1 r4.2 f8 hz18 | first | omega | ((try (have i_xlp3_2 := Imp.go xlp3_2 (by omega))); omega)) (by first | exact om_deeadfebb293 klp3_1.2 la19 | first | omega | ((try (have i_xlp3_2 := Imp.go xlp3_2 (by omega))); omega)) (show z18.toInt ≤ (V 0 60).toInt from by first | exact om_7fe9249fc074 f8 hz18 | first | omega | ((try (have i_xlp3_2 := Imp.go xlp3_2 (by omega))); omega)) (show y2.toInt < (V 0 60).toInt from by first | exact om_0e9116797efb xlp3_1 | first | omega | ((try (have i_xlp3_2 := Imp.go xlp3_2 (by omega))); omega)) (Imp.mk (fun hp => have hp : 0 ≤ y2.toInt := hp; (show (V 63 (Int32.toNatClampNeg y2)).toInt = 1 from by first | exact om_710535a98d88 ((Imp.go xlp3_2 (hp))) | first | omega | ((try (have i_xlp3_2 := Imp.go xlp3_2 (by omega))); omega)))) la19 (by first | exact om_9e7d2b874257 hn hz18 | first | omega | ((try (have i_xlp3_2 := Imp.go xlp3_2 (by omega))); omega)) hP hD hS (lv_sub hl [0, 1, 2, 3] rfl)
          · skip
            have f20 : ((V 62 (Int32.toNatClampNeg y1))).toInt = p0.toInt := b_eq rfl rfl c16
            refine lv_iload_n hx hb dX12_latestIn_32 rfl (lv_at hl 1 rfl) ?_
            refine lv_if_lt (tgt := 51) hx hb dX12_latestIn_33 (by decide) (fun c21 => ?_) (fun c21 => ?_)
            · skip
              have f22 : y2.toInt < 0 := b_lt rfl (by decide) c21
              refine lv_iload_n hx hb dX12_latestIn_51 rfl (lv_at hl 0 rfl) ?_
              refine lv_goto (tgt := 56) hx hb dX12_latestIn_52 (by decide) ?_
              refine lv_istore_n (lv' := [(2, .int y1), (3, .int y1), (0, .ref (ad 0)), (1, .int p0)]) hx hb dX12_latestIn_56 rfl hl (by decide) rfl (fun ls hl => ?_)
              obtain ⟨z23, ez23⟩ : ∃ y : Int32, y = y1 + 1 := ⟨_, rfl⟩
              have hz23 : z23.toInt = y1.toInt + 1 := i_add ez23 rfl (by decide) (by omega)
              refine lv_iinc (v := z23) (lv' := [(3, .int z23), (2, .int y1), (0, .ref (ad 0)), (1, .int p0)]) hx hb dX12_latestIn_57 hl (k := 1) rfl (by rw [ez23]; rfl) (by decide) rfl (fun ls hl => ?_)
              refine lv_goto (tgt := 4) hx hb dX12_latestIn_60 (by decide) ?_
              have ky9 := i_clamp (x := y1) rfl (by omega)
              have ez9 : (z23.toInt).toNat = (Int32.toNatClampNeg y1) + 1 := by omega
              have hx9 : y2.toInt = lmR V p0.toInt (Int32.toNatClampNeg y1) := xlp3_3
              have la24 : y1.toInt = lmR V p0.toInt (z23.toInt).toNat := by rw [ez9, show y1.toInt = (((Int32.toNatClampNeg y1) : Nat) : Int) from by omega]; exact lamG_y hx9 (show (V 63 (Int32.toNatClampNeg y1)).toInt = 1 from by omega) (show (V 62 (Int32.toNatClampNeg y1)).toInt = p0.toInt from by omega) (show y2.toInt < 0 ∨ (V 64 y2.toInt.toNat).toInt < (V 64 (Int32.toNatClampNeg y1)).toInt from Or.inl (by omega))
              exact ihlp3 z23 y1 H locs ls (by first | omega | ((try (have i_xlp3_2 := Imp.go xlp3_2 (by omega))); omega)) (by first | omega | ((try (have i_xlp3_2 := Imp.go xlp3_2 (by omega))); omega)) (show z23.toInt ≤ (V 0 60).toInt from by first | omega | ((try (have i_xlp3_2 := Imp.go xlp3_2 (by omega))); omega)) (show y1.toInt < (V 0 60).toInt from by first | omega | ((try (have i_xlp3_2 := Imp.go xlp3_2 (by omega))); omega)) (Imp.mk (fun hp => have hp : 0 ≤ y1.toInt := hp; (show (V 63 (Int32.toNatClampNeg y1)).toInt = 1 from by first | omega | ((try (have i_xlp3_2 := Imp.go xlp3_2 (by omega))); omega)))) la24 (by first | omega | ((try (have i_xlp3_2 := Imp.go xlp3_2 (by omega))); omega)) hP hD hS (lv_sub hl [0, 1, 2, 3] rfl)
            · skip
              have f25 : 0 ≤ y2.toInt := b_nlt rfl (by decide) c21
              refine lv_aload_n hx hb dX12_latestIn_36 rfl (lv_at hl 2 rfl) ?_
              refine va_get (D := D) (ci := 12) (v := .ref (ad 64)) (C := RX12) (T := TX12) (N := 100) hx hb hg inX12 hown hK hP 0 rfl rfl 64 (by decide) (hg _ w1770) (fun _ h9 => h9) rfl dX12_latestIn_37 ?_
              refine lv_iload_n hx hb dX12_latestIn_40 rfl (lv_at hl 0 rfl) ?_
              refine va_iald (D := D) (i := y1) hx hb hK hP 49 48 rfl rfl (i_in (a := y1.toInt) rfl (by first | exact om_cd73be67f278 klp3_0.1 r4.2 f8 | first | omega | ((try (have i_xlp3_2 := Imp.go xlp3_2 (by omega))); omega))) dX12_latestIn_41 ?_
              refine lv_aload_n hx hb dX12_latestIn_42 rfl (lv_at hl 2 rfl) ?_
              refine va_get (D := D) (ci := 12) (v := .ref (ad 64)) (C := RX12) (T := TX12) (N := 100) hx hb hg inX12 hown hK hP 0 rfl rfl 64 (by decide) (hg _ w1770) (fun _ h9 => h9) rfl dX12_latestIn_43 ?_
              refine lv_iload_n hx hb dX12_latestIn_46 rfl (lv_at hl 1 rfl) ?_
              refine va_iald (D := D) (i := y2) hx hb hK hP 49 48 rfl rfl (i_in (a := y2.toInt) rfl (by first | exact om_1ef2a0549dee klp3_1.2 f25 | first | omega | ((try (have i_xlp3_2 := Imp.go xlp3_2 (by omega))); omega))) dX12_latestIn_47 ?_
              refine lv_icmp_le (tgt := 55) hx hb dX12_latestIn_48 (by decide) (fun c26 => ?_) (fun c26 => ?_)
              · skip
                have f27 : ((V 64 (Int32.toNatClampNeg y1))).toInt ≤ ((V 64 (Int32.toNatClampNeg y2))).toInt := b_le rfl rfl c26
                refine lv_iload_n hx hb dX12_latestIn_55 rfl (lv_at hl 1 rfl) ?_
                refine lv_istore_n (lv' := [(2, .int y2), (3, .int y1), (0, .ref (ad 0)), (1, .int p0)]) hx hb dX12_latestIn_56 rfl hl (by decide) rfl (fun ls hl => ?_)
                obtain ⟨z28, ez28⟩ : ∃ y : Int32, y = y1 + 1 := ⟨_, rfl⟩
                have hz28 : z28.toInt = y1.toInt + 1 := i_add ez28 rfl (by decide) (by (first | exact om_c09ff01990d3 klp3_0.1 r4.2 f8 | omega))
                refine lv_iinc (v := z28) (lv' := [(3, .int z28), (2, .int y2), (0, .ref (ad 0)), (1, .int p0)]) hx hb dX12_latestIn_57 hl (k := 1) rfl (by rw [ez28]; rfl) (by decide) rfl (fun ls hl => ?_)
                refine lv_goto (tgt := 4) hx hb dX12_latestIn_60 (by decide) ?_
                have ky9 := i_clamp (x := y1) rfl (by (first | exact om_eafa9039069c klp3_0.1 | omega))
                have ez9 : (z28.toInt).toNat = (Int32.toNatClampNeg y1) + 1 := by omega
                have hx9 : y2.toInt = lmR V p0.toInt (Int32.toNatClampNeg y1) := xlp3_3
                have la29 : y2.toInt = lmR V p0.toInt (z28.toInt).toNat := by rw [ez9]; exact lamG_n hx9 (fun h9 => by have h1 : (V 63 (Int32.toNatClampNeg y1)).toInt = 1 := h9.1; have h2 : (V 62 (Int32.toNatClampNeg y1)).toInt = p0.toInt := h9.2.1; have h3 : y2.toInt < 0 ∨ (V 64 (Int32.toNatClampNeg y2)).toInt < (V 64 (Int32.toNatClampNeg y1)).toInt := h9.2.2; omega)
                exact ihlp3 z28 y2 H locs ls (by first | exact om_0d23cfa2d5c1 klp3_0.1 r4.2 f8 hz28 | first | omega | ((try (have i_xlp3_2 := Imp.go xlp3_2 (by omega))); omega)) (by first | exact om_61f5b7997f9d klp3_1.2 f25 | first | omega | ((try (have i_xlp3_2 := Imp.go xlp3_2 (by omega))); omega)) (show z28.toInt ≤ (V 0 60).toInt from by first | exact om_7fe9249fc074 f8 hz28 | first | omega | ((try (have i_xlp3_2 := Imp.go xlp3_2 (by omega))); omega)) (show y2.toInt < (V 0 60).toInt from by first | exact om_0e9116797efb xlp3_1 | first | omega | ((try (have i_xlp3_2 := Imp.go xlp3_2 (by omega))); omega)) (Imp.mk (fun hp => have hp : 0 ≤ y2.toInt := hp; (show (V 63 (Int32.toNatClampNeg y2)).toInt = 1 from by first | exact om_710535a98d88 ((Imp.go xlp3_2 (hp))) | first | omega | ((try (have i_xlp3_2 := Imp.go xlp3_2 (by omega))); omega)))) la29 (by first | exact om_9e7d2b874257 hn hz28 | first | omega | ((try (have i_xlp3_2 := Imp.go xlp3_2 (by omega))); omega)) hP hD hS (lv_sub hl [0, 1, 2, 3] rfl)
              · skip
                have f30 : ((V 64 (Int32.toNatClampNeg y2))).toInt < ((V 64 (Int32.toNatClampNeg y1))).toInt := b_nle rfl rfl c26
                refine lv_iload_n hx hb dX12_latestIn_51 rfl (lv_at hl 0 rfl) ?_
                refine lv_goto (tgt := 56) hx hb dX12_latestIn_52 (by decide) ?_
                refine lv_istore_n (lv' := [(2, .int y1), (3, .int y1), (0, .ref (ad 0)), (1, .int p0)]) hx hb dX12_latestIn_56 rfl hl (by decide) rfl (fun ls hl => ?_)
                obtain ⟨z31, ez31⟩ : ∃ y : Int32, y = y1 + 1 := ⟨_, rfl⟩
                have hz31 : z31.toInt = y1.toInt + 1 := i_add ez31 rfl (by decide) (by (first | exact om_c09ff01990d3 klp3_0.1 r4.2 f8 | omega))
                refine lv_iinc (v := z31) (lv' := [(3, .int z31), (2, .int y1), (0, .ref (ad 0)), (1, .int p0)]) hx hb dX12_latestIn_57 hl (k := 1) rfl (by rw [ez31]; rfl) (by decide) rfl (fun ls hl => ?_)
                refine lv_goto (tgt := 4) hx hb dX12_latestIn_60 (by decide) ?_
                have ky9 := i_clamp (x := y1) rfl (by (first | exact om_eafa9039069c klp3_0.1 | omega))
                have ez9 : (z31.toInt).toNat = (Int32.toNatClampNeg y1) + 1 := by omega
                have hx9 : y2.toInt = lmR V p0.toInt (Int32.toNatClampNeg y1) := xlp3_3
                have la32 : y1.toInt = lmR V p0.toInt (z31.toInt).toNat := by rw [ez9, show y1.toInt = (((Int32.toNatClampNeg y1) : Nat) : Int) from by omega]; exact lamG_y hx9 (show (V 63 (Int32.toNatClampNeg y1)).toInt = 1 from by (first | exact om_710535a98d88 f14 | omega)) (show (V 62 (Int32.toNatClampNeg y1)).toInt = p0.toInt from by (first | exact om_570b691c1130 f20 | omega)) (show y2.toInt < 0 ∨ (V 64 y2.toInt.toNat).toInt < (V 64 (Int32.toNatClampNeg y1)).toInt from Or.inr (show (V 64 (Int32.toNatClampNeg y2)).toInt < (V 64 (Int32.toNatClampNeg y1)).toInt from by (first | exact om_0e9116797efb f30 | omega)))
                exact ihlp3 z31 y1 H locs ls (by first | exact om_0d23cfa2d5c1 klp3_0.1 r4.2 f8 hz31 | first | omega | ((try (have i_xlp3_2 := Imp.go xlp3_2 (by omega))); omega)) (by first | exact om_38757deacf4c klp3_0.1 r4.2 f8 | first | omega | ((try (have i_xlp3_2 := Imp.go xlp3_2 (by omega))); omega)) (show z31.toInt ≤ (V 0 60).toInt from by first | exact om_7fe9249fc074 f8 hz31 | first | omega | ((try (have i_xlp3_2 := Imp.go xlp3_2 (by omega))); omega)) (show y1.toInt < (V 0 60).toInt from by first | exact om_0e9116797efb f8 | first | omega | ((try (have i_xlp3_2 := Imp.go xlp3_2 (by omega))); omega)) (Imp.mk (fun hp => have hp : 0 ≤ y1.toInt := hp; (show (V 63 (Int32.toNatClampNeg y1)).toInt = 1 from by first | exact om_710535a98d88 f14 | first | omega | ((try (have i_xlp3_2 := Imp.go xlp3_2 (by omega))); omega)))) la32 (by first | exact om_9e7d2b874257 hn hz31 | first | omega | ((try (have i_xlp3_2 := Imp.go xlp3_2 (by omega))); omega)) hP hD hS (lv_sub hl [0, 1, 2, 3] rfl)
  have r33 : Int32.toInt 0 = 0 := by decide
  have r34 : Int32.toInt (-1) = (-1) := by decide
  have r35 : 0 ≤ ((V 0 60)).toInt ∧ ((V 0 60)).toInt ≤ 300 := hMV 0 60
  have r36 : 0 ≤ ((V 63 (Int32.toNatClampNeg (-1)))).toInt ∧ ((V 63 (Int32.toNatClampNeg (-1)))).toInt ≤ 2 := hMV 63 (Int32.toNatClampNeg (-1))
  exact lp3 (((V 0 60).toInt - (Int32.toInt 0) + 1 : Int).toNat) 0 (-1) H locs ls (by decide) (by decide) (show (Int32.toInt 0) ≤ (V 0 60).toInt from by (first | exact om_a51dc5ad8918 r33 r35.1 | omega)) (show (Int32.toInt (-1)) < (V 0 60).toInt from by (first | exact om_3e9fea077503 r34 r35.1 | omega)) (Imp.mk (fun hp => have hp : 0 ≤ (Int32.toInt (-1)) := hp; (show (V 63 (Int32.toNatClampNeg (-1))).toInt = 1 from by omega))) (show Int32.toInt (-1) = lmR V p0.toInt (Int32.toInt 0).toNat from by rw [show (Int32.toInt 0).toNat = 0 from by decide]; exact (by decide : Int32.toInt (-1) = -1)) (by (first | exact om_7441a7786481 | omega)) hP hD hS (lv_sub hl [0, 1, 2, 3] rfl)
abbrev q_s_closeAllD (D : va_G) (ks : KS) (ad : Nat → Nat) (kk : Nat → ClassId) (V : Vf) (L : Lf) (p0 : Int32) (gB : Bk) (grk : Nat → Nat) (gsc : Int) (gcc : Int) (A : Nat → Prop) : Array Value → State → Outcome → State → Prop := va_Qi (fun (r : Int32) (u : Vf × Lf) => rgd bM u.1 ∧ agr [(0, 60), (0, 65), (0, 68), (0, 69), (0, 73), (0, 76), (0, 90), (0, 91), (0, 92), (0, 93), (0, 95), (0, 96), (0, 98), (0, 99)] [56, 59, 61, 62, 63, 64, 66, 67, 74, 75, 77, 78, 79, 80, 94, 97] V u.1 ∧ u.2 = L ∧ (0 ≤ r.toInt ∧ r.toInt ≤ 300) ∧ ((u.1 0 93).toInt = (V 0 93).toInt) ∧ ((u.1 0 98).toInt = (V 0 98).toInt) ∧ ((u.1 0 65).toInt ≤ (u.1 0 60).toInt) ∧ ((u.1 0 73).toInt - (u.1 0 65).toInt + (mu u.1 : Int) ≤ (V 0 73).toInt - (V 0 65).toInt + (mu V : Int)) ∧ ((u.1 0 76).toInt - (u.1 0 69).toInt - (u.1 0 73).toInt ≤ (V 0 76).toInt - (V 0 69).toInt - (V 0 73).toInt) ∧ (RT0 u.1) ∧ (r.toInt + (mu u.1 : Int) ≤ (mu V : Int)) ∧ (∃ k9 : Nat, CLs gB (V 0 55).toInt.toNat gsc k9 (mV V 0 0 0, (V 0 99).toInt, gcc) ((if (Int32.toNatClampNeg p0) = 0 then mU (mV u.1 0 0 0) 11 0 0 else mV u.1 0 0 0), (u.1 0 99).toInt, gcc + r.toInt) ∧ (k9 : Int) + (mu u.1 : Int) + (opc u.1 40 : Int) ≤ (mu V : Int) + (opc V 40 : Int) + (if (Int32.toNatClampNeg p0) = 0 then 1 else 0)) ∧ (OPk V u.1 (Int32.toNatClampNeg p0)) ∧ ((u.1 0 54).toInt = 1 → RJm u.1 gB)) (fun u t => gq D A (mw ad kk ks.1 u.1 u.2) (mty kk) t) A
def K_s_closeAllD (l : Launch) (D : va_G) (ks : KS) (d3 : Nat) : Prop := ∀ (sz : Nat) (ad : Nat → Nat) (kk : Nat → ClassId) (V : Vf) (L : Lf) (p0 : Int32) (gB : Bk) (grk : Nat → Nat) (gsc : Int) (gcc : Int) (hMV : rgd bM V) (rg_p0 : 0 ≤ p0.toInt ∧ p0.toInt ≤ 39) (r0 : RT0 V) (n1 : (V 0 65).toInt ≤ (V 0 60).toInt) (n3 : (V 0 73).toInt - (V 0 65).toInt + (mu V : Int) ≤ 998000) (n4 : (V 0 76).toInt - (V 0 69).toInt - (V 0 73).toInt ≤ 1000000000) (m5 : (V 0 98).toInt = 0) (m6 : (V 0 93).toInt = 0) (c1 : 2 ≤ (d3 : Int) ∨ ((V 57 (Int32.toNatClampNeg p0)).toInt ≠ 0 ∧ (1 ≤ (d3 : Int) ∨ (V 57 (Int32.toNatClampNeg p0)).toInt ≠ 1))) (bkq : (V 0 54).toInt = 1 → BKm V gB ∧ BKr gB grk ∧ RJm V gB) (scq : SCm (mV V 0 0 0) (V 0 55).toInt.toNat) (pth : PTH (mV V 0 0 0) (V 0 55).toInt.toNat (Int32.toNatClampNeg p0) gsc) (op0 : (V 56 (Int32.toNatClampNeg p0)).toInt = 1) (op1 : (V 56 gsc.toNat).toInt = 1) (sc0 : 0 ≤ gsc ∧ gsc < (V 0 55).toInt) (s01 : p0.toInt < (V 0 55).toInt) (kd9 : gsc.toNat = (Int32.toNatClampNeg p0) ∨ (V 57 gsc.toNat).toInt < (V 57 (Int32.toNatClampNeg p0)).toInt) , Met l yX12_closeAll (Cond.code yX12_closeAll cX12_closeAll 5 (some .int) :: GW) (rK2 (2 * d3 + 1616) (40 * d3 + 40600)) (va_Pc [.ref (ad 0), .int p0] (gp D ks (mw ad kk ks.1 V L) (mty kk) sz)) (q_s_closeAllD D ks ad kk V L p0 gB grk gsc gcc (va_A (mw ad kk ks.1 V L) sz)) 0 0 (va_A (mw ad kk ks.1 V L) sz)
set_option maxHeartbeats 4000000 in
set_option maxRecDepth 100000 in
theorem s_closeAllD {l : Launch} {D : va_G} {ks : KS} {d3 : Nat} (hk_s_closeAllD : ∀ d9, d3 = d9 + 1 → K_s_closeAllD l D ks d9) : K_s_closeAllD l D ks d3 := by
  intro sz ad kk V L p0 gB grk gsc gcc hMV rg_p0 r0 n1 n3 n4 m5 m6 c1 bkq scq pth op0 op1 sc0 s01 kd9
  refine g_met (q_s_closeAllD D ks ad kk V L p0 gB grk gsc gcc) (by decide) (Nat.le_of_ble_eq_true rfl) ?_
  intro p e s m below meth c A ls H locs hx hb hr hml hown hg hlocks hin hnw hgk hP hK hD hS hA hl
  have hown : s.vm.findClass RX12 = some m.cls := hown
  have hl : lv_has ls 5 [(0, .ref (ad 0)), (1, .int p0)] := hl
  have hP : va_P D vwCl (mw ad kk ks.1 V L) H := hP
  have hD : va_D A (mw ad kk ks.1 V L) := hD
  have hK : va_K D vwCl (mty kk) s := hK
  have agV : agr [(0, 60), (0, 65), (0, 68), (0, 69), (0, 73), (0, 76), (0, 90), (0, 91), (0, 92), (0, 93), (0, 95), (0, 96), (0, 98), (0, 99)] [56, 59, 61, 62, 63, 64, 66, 67, 74, 75, 77, 78, 79, 80, 94, 97] V V := agr.rf
  have r1 : 0 ≤ ((V 0 65)).toInt ∧ ((V 0 65)).toInt ≤ 1000000 := hMV 0 65
  have r2 : 0 ≤ ((V 0 60)).toInt ∧ ((V 0 60)).toInt ≤ 300 := hMV 0 60
  have r3 : 0 ≤ ((V 0 73)).toInt ∧ ((V 0 73)).toInt ≤ 1000000 := hMV 0 73
  have r4 : 0 ≤ ((V 0 76)).toInt ∧ ((V 0 76)).toInt ≤ 2000000000 := hMV 0 76
  have r5 : 0 ≤ ((V 0 69)).toInt ∧ ((V 0 69)).toInt ≤ 3000 := hMV 0 69
  have r6 : 0 ≤ ((V 0 98)).toInt ∧ ((V 0 98)).toInt ≤ 20000 := hMV 0 98
  have r7 : 0 ≤ ((V 0 93)).toInt ∧ ((V 0 93)).toInt ≤ 10 := hMV 0 93
  have r8 : 0 ≤ ((V 56 (Int32.toNatClampNeg p0))).toInt ∧ ((V 56 (Int32.toNatClampNeg p0))).toInt ≤ 1 := hMV 56 (Int32.toNatClampNeg p0)
  have r9 : 1 ≤ ((V 0 55)).toInt ∧ ((V 0 55)).toInt ≤ 40 := hMV 0 55
  have kp9 := i_clamp (x := p0) rfl (by (first | exact om_eafa9039069c rg_p0.1 | omega))
  have ml0 := mu_le (hMV 0 60).2
  have h57 : 0 ≤ (V 57 (Int32.toNatClampNeg p0)).toInt := by rcases Decidable.em ((Int32.toNatClampNeg p0) = 0) with h9 | h9; (rw [h9]; exact Int.le_of_eq (show (0 : Int) = (V 57 0).toInt from (show (V 57 0).toInt = 0 from scq.1).symm)); (have h8 := scq.2.2 (Int32.toNatClampNeg p0) (by omega) (by omega); have h7 : (V 57 (Int32.toNatClampNeg p0)).toInt = 1 ∨ (V 57 (Int32.toNatClampNeg p0)).toInt = 2 := h8.imp id (fun z => z.1); omega)
  have z57 : (V 57 0).toInt = 0 := scq.1
  refine lv_iconst (v := 0) hx hb dX12_closeAll_0 (by decide) ?_
  refine lv_istore_n (lv' := [(2, .int 0), (0, .ref (ad 0)), (1, .int p0)]) hx hb dX12_closeAll_1 rfl hl (by decide) rfl (fun ls hl => ?_)
  refine lv_aload_n hx hb dX12_closeAll_2 rfl (lv_at hl 1 rfl) ?_
  refine va_get (D := D) (ci := 12) (v := .int (V 0 55)) (C := RX12) (T := TX12) (N := 100) hx hb hg inX12 hown hK hP 0 rfl rfl 55 (by decide) (hg _ w1761) (fun _ h9 => h9) rfl dX12_closeAll_3 ?_
  refine lv_iconst (v := 1) hx hb dX12_closeAll_6 (by decide) ?_
  refine lv_isub hx hb dX12_closeAll_7 ?_
  refine lv_topi (fun z10 ez10 => ?_)
  have hz10 : z10.toInt = ((V 0 55)).toInt - 1 := i_sub ez10 rfl (by decide) (by (first | exact om_297634a79302 rg_p0.1 s01 r9.2 | omega))
  refine lv_istore_n (lv' := [(3, .int z10), (2, .int 0), (0, .ref (ad 0)), (1, .int p0)]) hx hb dX12_closeAll_8 rfl hl (by decide) rfl (fun ls hl => ?_)
  have lp14 : ∀ (fulp14 : Nat) (y11 : Int32) (y12 : Int32) (V13 : Vf) (H : Heap) (locs : List Loc) (ls : Array Slot), 0 ≤ y11.toInt ∧ y11.toInt ≤ 39 → 0 ≤ y12.toInt ∧ y12.toInt ≤ 300 → (V13 0 93).toInt = (V 0 93).toInt → (V13 0 98).toInt = (V 0 98).toInt → (V13 0 65).toInt ≤ (V13 0 60).toInt → (V13 0 73).toInt - (V13 0 65).toInt + (mu V13 : Int) ≤ (V 0 73).toInt - (V 0 65).toInt + (mu V : Int) → (V13 0 76).toInt - (V13 0 69).toInt - (V13 0 73).toInt ≤ (V 0 76).toInt - (V 0 69).toInt - (V 0 73).toInt → y12.toInt + (mu V13 : Int) ≤ (mu V : Int) → RT0 V13 → (∃ k9 : Nat, CLs gB (V 0 55).toInt.toNat gsc k9 (mV V 0 0 0, (V 0 99).toInt, gcc) (mV V13 0 0 0, (V13 0 99).toInt, gcc + y12.toInt) ∧ (k9 : Int) + (mu V13 : Int) + (opc V13 40 : Int) ≤ (mu V : Int) + (opc V 40 : Int)) → (OPl V V13 (Int32.toNatClampNeg p0)) → (∀ j : Nat, y11.toInt < (j : Int) → j < (V 0 55).toInt.toNat → ¬ chd (mV V13 0 0 0) (Int32.toNatClampNeg p0) j) → (PTH (mV V13 0 0 0) (V 0 55).toInt.toNat (Int32.toNatClampNeg p0) gsc) → ((V13 0 54).toInt = 1 → RJm V13 gB) → y11.toInt < (V 0 55).toInt → y11.toInt < (fulp14 : Int) → agr [(0, 60), (0, 65), (0, 68), (0, 69), (0, 73), (0, 76), (0, 90), (0, 91), (0, 92), (0, 93), (0, 95), (0, 96), (0, 98), (0, 99)] [56, 59, 61, 62, 63, 64, 66, 67, 74, 75, 77, 78, 79, 80, 94, 97] V V13 → rgd bM V13 → va_P D vwCl (mw ad kk ks.1 V13 L) H → va_D A (mw ad kk ks.1 V13 L) → va_S A s.heap H locs → lv_has ls 5 [(3, .int y11), (2, .int y12), (0, .ref (ad 0)), (1, .int p0)] → W p l e (rK2 (2 * d3 + 1616) (40 * d3 + 40600)) s m ([.ref (ad 0), .int p0] : List Value).toArray below meth c H locs 0 0 (MQ below (q_s_closeAllD D ks ad kk V L p0 gB grk gsc gcc A) ([.ref (ad 0), .int p0] : List Value).toArray s 0 0 A) (F0 m 9 ls []) := by
    intro fulp14
    induction fulp14 with
    | zero =>
      intro y11 y12 V13 H locs ls klp14_0 klp14_1 xlp14_0 xlp14_1 xlp14_2 xlp14_3 xlp14_4 xlp14_5 xlp14_6 xlp14_7 xlp14_8 xlp14_9 xlp14_10 xlp14_11 xlp14_12 hn ajV13 hMV13 hP hD hS hl
      exfalso; (first | exact om_21e89d3d06d7 klp14_0.1 hn | omega)
    | succ fulp14 ihlp14 =>
      intro y11 y12 V13 H locs ls klp14_0 klp14_1 xlp14_0 xlp14_1 xlp14_2 xlp14_3 xlp14_4 xlp14_5 xlp14_6 xlp14_7 xlp14_8 xlp14_9 xlp14_10 xlp14_11 xlp14_12 hn ajV13 hMV13 hP hD hS hl
      have agV13 : agr [(0, 60), (0, 65), (0, 68), (0, 69), (0, 73), (0, 76), (0, 90), (0, 91), (0, 92), (0, 93), (0, 95), (0, 96), (0, 98), (0, 99)] [56, 59, 61, 62, 63, 64, 66, 67, 74, 75, 77, 78, 79, 80, 94, 97] V V13 := agV.tr ajV13 (by decide) (by decide)
      have r15 : 0 ≤ ((V13 0 93)).toInt ∧ ((V13 0 93)).toInt ≤ 10 := hMV13 0 93
      have r16 : 0 ≤ ((V13 0 98)).toInt ∧ ((V13 0 98)).toInt ≤ 20000 := hMV13 0 98
      have r17 : 0 ≤ ((V13 0 65)).toInt ∧ ((V13 0 65)).toInt ≤ 1000000 := hMV13 0 65
      have r18 : 0 ≤ ((V13 0 60)).toInt ∧ ((V13 0 60)).toInt ≤ 300 := hMV13 0 60
      have r19 : 0 ≤ ((V13 0 73)).toInt ∧ ((V13 0 73)).toInt ≤ 1000000 := hMV13 0 73
      have r20 : 0 ≤ ((V13 0 76)).toInt ∧ ((V13 0 76)).toInt ≤ 2000000000 := hMV13 0 76
      have r21 : 0 ≤ ((V13 0 69)).toInt ∧ ((V13 0 69)).toInt ≤ 3000 := hMV13 0 69
      refine lv_iload_n hx hb dX12_closeAll_9 rfl (lv_at hl 0 rfl) ?_
      have pq22 : (V13 0 55).toInt = ((V 0 55)).toInt := congrArg Int32.toInt (ajV13 0 55 rfl)
      have ml23 := mu_le (hMV13 0 60).2
      refine lv_if_le (tgt := 104) hx hb dX12_closeAll_10 (by decide) (fun c24 => ?_) (fun c24 => ?_)
      · skip
        have f25 : y11.toInt ≤ 0 := b_le rfl (by decide) c24
        refine lv_aload_n hx hb dX12_closeAll_104 rfl (lv_at hl 2 rfl) ?_
        refine lv_iload_n hx hb dX12_closeAll_105 rfl (lv_at hl 3 rfl) ?_
        refine gA_int (gA_runV (As := [.int p0]) (rest := []) (ci := 12) (q0 := 0) hx hb hml hown hg hP hD hK hS hA hnw hgk (s_latestIn3 l D ks H.size ad kk V13 L p0 hMV13 ) w2348 w2350 w154 w172 w2351 rfl rfl hdV_yX12_latestIn ⟨(by show (0) + 1 ≤ (2 * d3 + 1616); (first | exact om_ef34d576363e | omega)), (by show 8 + (4 + 11) + (0) ≤ (40 * d3 + 40600); (first | exact om_63bb7a2e1316 | omega))⟩ rfl hl.1 rfl (Nat.le_of_ble_eq_true rfl) dX12_closeAll_106 ⟨Nat.le_of_ble_eq_true rfl, Nat.le_of_ble_eq_true rfl⟩) hP hD hK hS hA (fun z26 u27 H locs w28 hP hD hK hS => ?_)
        obtain ⟨rgz26, t29, t30, t31⟩ := w28
        have rgz26 : (-1) ≤ z26.toInt ∧ z26.toInt ≤ 299 := rgz26
        have t29 : z26.toInt < (V13 0 60).toInt := t29
        have t30 : Imp (0 ≤ z26.toInt) ((V13 63 (Int32.toNatClampNeg z26)).toInt = 1) := t30
        have t31 : z26.toInt = lmR V13 p0.toInt (V13 0 60).toInt.toNat := t31
        refine lv_istore_n (lv' := [(3, .int z26), (2, .int y12), (0, .ref (ad 0)), (1, .int p0)]) hx hb dX12_closeAll_109 rfl hl (by decide) rfl (fun ls hl => ?_)
        have lp35 : ∀ (fulp35 : Nat) (y32 : Int32) (y33 : Int32) (V34 : Vf) (H : Heap) (locs : List Loc) (ls : Array Slot), (-1) ≤ y32.toInt ∧ y32.toInt ≤ 299 → 0 ≤ y33.toInt ∧ y33.toInt ≤ 300 → (V34 0 93).toInt = (V 0 93).toInt → (V34 0 98).toInt = (V 0 98).toInt → (V34 0 65).toInt ≤ (V34 0 60).toInt → (V34 0 73).toInt - (V34 0 65).toInt + (mu V34 : Int) ≤ (V 0 73).toInt - (V 0 65).toInt + (mu V : Int) → (V34 0 76).toInt - (V34 0 69).toInt - (V34 0 73).toInt ≤ (V 0 76).toInt - (V 0 69).toInt - (V 0 73).toInt → y33.toInt + (mu V34 : Int) ≤ (mu V : Int) → RT0 V34 → (∃ k9 : Nat, CLs gB (V 0 55).toInt.toNat gsc k9 (mV V 0 0 0, (V 0 99).toInt, gcc) (mV V34 0 0 0, (V34 0 99).toInt, gcc + y33.toInt) ∧ (k9 : Int) + (mu V34 : Int) + (opc V34 40 : Int) ≤ (mu V : Int) + (opc V 40 : Int)) → (OPl V V34 (Int32.toNatClampNeg p0)) → (∀ j : Nat, 0 < j → j < (V 0 55).toInt.toNat → ¬ chd (mV V34 0 0 0) (Int32.toNatClampNeg p0) j) → (PTH (mV V34 0 0 0) (V 0 55).toInt.toNat (Int32.toNatClampNeg p0) gsc) → ((V34 0 54).toInt = 1 → RJm V34 gB) → (y32.toInt = lmR V34 p0.toInt (V34 0 60).toInt.toNat) → Imp (0 ≤ y32.toInt) ((V34 63 (Int32.toNatClampNeg y32)).toInt = 1) → y32.toInt < (V34 0 60).toInt → (mu V34 : Int) < (fulp35 : Int) → agr [(0, 60), (0, 65), (0, 68), (0, 69), (0, 73), (0, 76), (0, 90), (0, 91), (0, 92), (0, 93), (0, 95), (0, 96), (0, 98), (0, 99)] [59, 61, 62, 63, 64, 66, 67, 74, 75, 77, 78, 79, 80, 94, 97] V13 V34 → rgd bM V34 → va_P D vwCl (mw ad kk ks.1 V34 L) H → va_D A (mw ad kk ks.1 V34 L) → va_S A s.heap H locs → lv_has ls 5 [(3, .int y32), (2, .int y33), (0, .ref (ad 0)), (1, .int p0)] → W p l e (rK2 (2 * d3 + 1616) (40 * d3 + 40600)) s m ([.ref (ad 0), .int p0] : List Value).toArray below meth c H locs 0 0 (MQ below (q_s_closeAllD D ks ad kk V L p0 gB grk gsc gcc A) ([.ref (ad 0), .int p0] : List Value).toArray s 0 0 A) (F0 m 110 ls []) := by
          intro fulp35
          induction fulp35 with
          | zero =>
            intro y32 y33 V34 H locs ls klp35_0 klp35_1 xlp35_0 xlp35_1 xlp35_2 xlp35_3 xlp35_4 xlp35_5 xlp35_6 xlp35_7 xlp35_8 xlp35_9 xlp35_10 xlp35_11 xlp35_12 xlp35_13 xlp35_14 hn ajV34 hMV34 hP hD hS hl
            exfalso; (first | exact om_f221f60ae7cc hn | omega)
          | succ fulp35 ihlp35 =>
            intro y32 y33 V34 H locs ls klp35_0 klp35_1 xlp35_0 xlp35_1 xlp35_2 xlp35_3 xlp35_4 xlp35_5 xlp35_6 xlp35_7 xlp35_8 xlp35_9 xlp35_10 xlp35_11 xlp35_12 xlp35_13 xlp35_14 hn ajV34 hMV34 hP hD hS hl
            have agV34 : agr [(0, 60), (0, 65), (0, 68), (0, 69), (0, 73), (0, 76), (0, 90), (0, 91), (0, 92), (0, 93), (0, 95), (0, 96), (0, 98), (0, 99)] [56, 59, 61, 62, 63, 64, 66, 67, 74, 75, 77, 78, 79, 80, 94, 97] V V34 := agV13.tr ajV34 (by decide) (by decide)
            have r36 : 0 ≤ ((V34 0 93)).toInt ∧ ((V34 0 93)).toInt ≤ 10 := hMV34 0 93
            have r37 : 0 ≤ ((V34 0 98)).toInt ∧ ((V34 0 98)).toInt ≤ 20000 := hMV34 0 98
            have r38 : 0 ≤ ((V34 0 65)).toInt ∧ ((V34 0 65)).toInt ≤ 1000000 := hMV34 0 65
            have r39 : 0 ≤ ((V34 0 60)).toInt ∧ ((V34 0 60)).toInt ≤ 300 := hMV34 0 60
            have r40 : 0 ≤ ((V34 0 73)).toInt ∧ ((V34 0 73)).toInt ≤ 1000000 := hMV34 0 73
            have r41 : 0 ≤ ((V34 0 76)).toInt ∧ ((V34 0 76)).toInt ≤ 2000000000 := hMV34 0 76
            have r42 : 0 ≤ ((V34 0 69)).toInt ∧ ((V34 0 69)).toInt ≤ 3000 := hMV34 0 69
            have r43 : 0 ≤ ((V34 63 (Int32.toNatClampNeg y32))).toInt ∧ ((V34 63 (Int32.toNatClampNeg y32))).toInt ≤ 2 := hMV34 63 (Int32.toNatClampNeg y32)
            refine lv_iload_n hx hb dX12_closeAll_110 rfl (lv_at hl 0 rfl) ?_
            have pq44 : (V34 0 55).toInt = ((V 0 55)).toInt := congrArg Int32.toInt ((ajV34 0 55 rfl).trans (ajV13 0 55 rfl))
            have ml45 := mu_le (hMV34 0 60).2
            refine lv_if_lt (tgt := 154) hx hb dX12_closeAll_111 (by decide) (fun c46 => ?_) (fun c46 => ?_)
            · skip
              have f47 : y32.toInt < 0 := b_lt rfl (by decide) c46
              have kg9 : (V 57 gsc.toNat).toInt ≤ (V 57 (Int32.toNatClampNeg p0)).toInt := by rcases kd9 with h9 | h9; (rw [h9]; exact Int.le_refl _); omega
              have op7 : (V34 56 gsc.toNat).toInt ≠ 0 := by rw [xlp35_8.1 _ kg9, op1]; decide
              have scv : SCm (mV V34 0 0 0) (V 0 55).toInt.toNat := SCm.op scq xlp35_8 (fun j9 => (show agr [(0, 60), (0, 65), (0, 68), (0, 69), (0, 73), (0, 76), (0, 90), (0, 91), (0, 92), (0, 93), (0, 95), (0, 96), (0, 98), (0, 99)] [56, 59, 61, 62, 63, 64, 66, 67, 74, 75, 77, 78, 79, 80, 94, 97] V V34 from (agr.tr (agr.tr agr.rf ajV13 (by decide) (by decide)) ajV34 (by decide) (by decide))) 57 j9 rfl) (fun j9 => (show agr [(0, 60), (0, 65), (0, 68), (0, 69), (0, 73), (0, 76), (0, 90), (0, 91), (0, 92), (0, 93), (0, 95), (0, 96), (0, 98), (0, 99)] [56, 59, 61, 62, 63, 64, 66, 67, 74, 75, 77, 78, 79, 80, 94, 97] V V34 from (agr.tr (agr.tr agr.rf ajV13 (by decide) (by decide)) ajV34 (by decide) (by decide))) 58 j9 rfl) h57
              have in7 : inn (mV V34 0 0 0) (V 0 55).toInt.toNat gsc = (((Int32.toNatClampNeg p0) : Nat) : Int) := inn_end scv (by omega) xlp35_10 xlp35_9
              have la7 : lmR V34 (((Int32.toNatClampNeg p0) : Nat) : Int) (V34 0 60).toInt.toNat < 0 := by have h9 := xlp35_12; rw [show p0.toInt = (((Int32.toNatClampNeg p0) : Nat) : Int) from by omega] at h9; omega
              have o56 : V34 56 (Int32.toNatClampNeg p0) = V 56 (Int32.toNatClampNeg p0) := xlp35_8.1 _ (Int.le_refl _)
              refine lv_aload_n hx hb dX12_closeAll_154 rfl (lv_at hl 2 rfl) ?_
              refine va_get (D := D) (ci := 12) (v := .ref (ad 56)) (C := RX12) (T := TX12) (N := 100) hx hb hg inX12 hown hK hP 0 rfl rfl 56 (by decide) (hg _ w1762) (fun _ h9 => h9) rfl dX12_closeAll_155 ?_
              refine lv_iload_n hx hb dX12_closeAll_158 rfl (lv_at hl 3 rfl) ?_
              refine lv_iload_n hx hb dX12_closeAll_159 rfl (lv_at hl 3 rfl) ?_
              refine lv_if_ne (tgt := 167) hx hb dX12_closeAll_160 (by decide) (fun c48 => ?_) (fun c48 => ?_)
              · skip
                have f49 : p0.toInt ≠ 0 := b_neq rfl (by decide) c48
                refine lv_iconst (v := 0) hx hb dX12_closeAll_167 (by decide) ?_
                refine va_zast (D := D) (i := p0) (x := 0) hx hb hK hP hD hS 42 41 rfl rfl (i_in (a := p0.toInt) rfl (by first | omega | ((try (have i_xlp35_13 := Imp.go xlp35_13 (by omega))); (try (have i_t30 := Imp.go t30 (by omega))); (try (have i_t30 := Imp.go t30 (by omega))); (try (have i_xlp35_13 := Imp.go xlp35_13 (by omega))); omega))) dX12_closeAll_168 (fun H locs hP hD hS => ?_)
                obtain ⟨V50, hV50⟩ : ∃ z, z = up2 V34 56 (Int32.toNatClampNeg p0) (vp_nar .boolean 0) := ⟨_, rfl⟩
                have hP : va_P D vwCl (mw ad kk ks.1 V50 L) H := by rw [hV50]; exact hP
                have hD : va_D A (mw ad kk ks.1 V50 L) := by rw [hV50]; exact hD
                have hMV50 : rgd bM V50 := hMV34.put hV50 (nar_b _)
                have agV50 : agr [(0, 60), (0, 65), (0, 68), (0, 69), (0, 73), (0, 76), (0, 90), (0, 91), (0, 92), (0, 93), (0, 95), (0, 96), (0, 98), (0, 99)] [56, 59, 61, 62, 63, 64, 66, 67, 74, 75, 77, 78, 79, 80, 94, 97] V V50 := agV34.up hV50 rfl
                obtain ⟨gU, hgU⟩ : ∃ z, z = V50 := ⟨_, rfl⟩
                refine lv_iconst (v := 0) hx hb dX12_closeAll_169 (by decide) ?_
                refine lv_istore (lv' := [(4, .int 0), (3, .int y32), (2, .int y33), (0, .ref (ad 0)), (1, .int p0)]) hx hb dX12_closeAll_170 hl (by decide) rfl (fun ls hl => ?_)
                have lp53 : ∀ (fulp53 : Nat) (y51 : Int32) (V52 : Vf) (H : Heap) (locs : List Loc) (ls : Array Slot), 0 ≤ y51.toInt ∧ y51.toInt ≤ 24 → ((∀ j : Nat, ¬ (24 * (Int32.toNatClampNeg p0) ≤ j ∧ (j : Int) < 24 * (((Int32.toNatClampNeg p0) : Nat) : Int) + y51.toInt) → V52 59 j = gU 59 j) ∧ (∀ j : Nat, 24 * (Int32.toNatClampNeg p0) ≤ j → (j : Int) < 24 * (((Int32.toNatClampNeg p0) : Nat) : Int) + y51.toInt → (V52 59 j).toInt = 0)) → 24 - y51.toInt < (fulp53 : Int) → agr [] [59] V50 V52 → rgd bM V52 → va_P D vwCl (mw ad kk ks.1 V52 L) H → va_D A (mw ad kk ks.1 V52 L) → va_S A s.heap H locs → lv_has ls 5 [(4, .int y51), (3, .int y32), (2, .int y33), (0, .ref (ad 0)), (1, .int p0)] → W p l e (rK2 (2 * d3 + 1616) (40 * d3 + 40600)) s m ([.ref (ad 0), .int p0] : List Value).toArray below meth c H locs 0 0 (MQ below (q_s_closeAllD D ks ad kk V L p0 gB grk gsc gcc A) ([.ref (ad 0), .int p0] : List Value).toArray s 0 0 A) (F0 m 172 ls []) := by
                  intro fulp53
                  induction fulp53 with
                  | zero =>
                    intro y51 V52 H locs ls klp53_0 xlp53_0 hn ajV52 hMV52 hP hD hS hl
                    exfalso; (first | exact om_d4d9a35ab6e6 la7 | omega)
                  | succ fulp53 ihlp53 =>
                    intro y51 V52 H locs ls klp53_0 xlp53_0 hn ajV52 hMV52 hP hD hS hl
                    have agV52 : agr [(0, 60), (0, 65), (0, 68), (0, 69), (0, 73), (0, 76), (0, 90), (0, 91), (0, 92), (0, 93), (0, 95), (0, 96), (0, 98), (0, 99)] [56, 59, 61, 62, 63, 64, 66, 67, 74, 75, 77, 78, 79, 80, 94, 97] V V52 := agV50.tr ajV52 (by decide) (by decide)
                    refine lv_iload hx hb dX12_closeAll_172 (lv_at hl 0 rfl) ?_
                    refine lv_bipush (v := 24) hx hb dX12_closeAll_174 (by decide) ?_
                    refine lv_icmp_ge (tgt := 198) hx hb dX12_closeAll_176 (by decide) (fun c54 => ?_) (fun c54 => ?_)
                    · skip
                      have f55 : 24 ≤ y51.toInt := b_le (by decide) rfl c54
                      refine lv_iload_n hx hb dX12_closeAll_198 rfl (lv_at hl 2 rfl) ?_
                      have pq56 : (V52 0 93).toInt = ((V34 0 93)).toInt := congrArg Int32.toInt ((ajV52 0 93 rfl).trans (up2_o hV50 (by decide)))
                      have pq57 : (V52 0 98).toInt = ((V34 0 98)).toInt := congrArg Int32.toInt ((ajV52 0 98 rfl).trans (up2_o hV50 (by decide)))
                      have pq58 : (V52 0 65).toInt = ((V34 0 65)).toInt := congrArg Int32.toInt ((ajV52 0 65 rfl).trans (up2_o hV50 (by decide)))
                      have pq59 : (V52 0 60).toInt = ((V34 0 60)).toInt := congrArg Int32.toInt ((ajV52 0 60 rfl).trans (up2_o hV50 (by decide)))
                      have mq60 : mu V52 = mu V34 := mu_ag (show agr [] [56, 59] V34 V52 from (agr.tr (agr.up agr.rf hV50 rfl) ajV52 (by decide) (by decide))) rfl (fun _ => rfl)
                      have pq61 : (V52 0 73).toInt = ((V34 0 73)).toInt := congrArg Int32.toInt ((ajV52 0 73 rfl).trans (up2_o hV50 (by decide)))
                      have pq62 : (V52 0 76).toInt = ((V34 0 76)).toInt := congrArg Int32.toInt ((ajV52 0 76 rfl).trans (up2_o hV50 (by decide)))
                      have pq63 : (V52 0 69).toInt = ((V34 0 69)).toInt := congrArg Int32.toInt ((ajV52 0 69 rfl).trans (up2_o hV50 (by decide)))
                      have pq64 : (V52 0 95).toInt = ((V34 0 95)).toInt := congrArg Int32.toInt ((ajV52 0 95 rfl).trans (up2_o hV50 (by decide)))
                      have r65 : 0 ≤ ((V34 0 95)).toInt ∧ ((V34 0 95)).toInt ≤ 300 := hMV34 0 95
                      have fz66 : (V34 0 95).toInt = 0 := xlp35_6.2.2.2.2
                      have r067 : RT0 V52 := RT0.ag xlp35_6 hMV34 (show agr [] [56, 59] V34 V52 from (agr.tr (agr.up agr.rf hV50 rfl) ajV52 (by decide) (by decide))) ⟨⟨rfl, fun _ => rfl, fun _ => rfl, fun _ => rfl, fun _ => rfl, fun _ => rfl, fun _ => rfl⟩, by decide, by decide, rfl, rfl, fun _ => rfl, fun _ => rfl, fun _ => rfl⟩ (c0k.ag (show agr [] [56, 59] V34 V52 from (agr.tr (agr.up agr.rf hV50 rfl) ajV52 (by decide) (by decide))) rfl) (by omega)
                      have e56 : ∀ j, j ≠ (Int32.toNatClampNeg p0) → V52 56 j = V34 56 j := fun j9 h9 => ((show agr [] [59] V50 V52 from (agr.tr agr.rf ajV52 (by decide) (by decide))) 56 j9 rfl).trans (up2_k hV50 h9)
                      have n56 : (V52 56 (Int32.toNatClampNeg p0)).toInt = if (Int32.toNatClampNeg p0) = 0 then 1 else 0 := by rw [((show agr [] [59] V50 V52 from (agr.tr agr.rf ajV52 (by decide) (by decide))) 56 (Int32.toNatClampNeg p0) rfl).trans (up2_s hV50)]; by_cases q9 : (Int32.toNatClampNeg p0) = 0; (rw [if_pos q9]; first | decide | (exfalso; (first | exact om_d4d9a35ab6e6 la7 | omega))); (rw [if_neg q9]; first | decide | (exfalso; (first | exact om_d4d9a35ab6e6 la7 | omega)))
                      have g59 := xlp53_0
                      have e59 : ∀ j, ¬ (24 * (Int32.toNatClampNeg p0) ≤ j ∧ j < 24 * (Int32.toNatClampNeg p0) + 24) → V52 59 j = V34 59 j := fun j9 h9 => (g59.1 j9 (by omega)).trans (by rw [hgU]; exact up2_o hV50 (by decide))
                      have n59 : ∀ j, 24 * (Int32.toNatClampNeg p0) ≤ j → j < 24 * (Int32.toNatClampNeg p0) + 24 → (V52 59 j).toInt = 0 := fun j9 h1 h2 => g59.2 j9 h1 (by omega)
                      have opk9 : OPk V V52 (Int32.toNatClampNeg p0) := OPl.k xlp35_8 e56 n56
                      have sh9 := mV_sh (show agr [] [56, 59] V34 V52 from (agr.tr (agr.up agr.rf hV50 rfl) ajV52 (by decide) (by decide))) (by decide) e56 n56 e59 n59
                      have mu9 : mu V52 = mu V34 := mu_ag (show agr [] [56, 59] V34 V52 from (agr.tr (agr.up agr.rf hV50 rfl) ajV52 (by decide) (by decide))) rfl (fun _ => rfl)
                      have fi68 : ∃ k9 : Nat, CLs gB (V 0 55).toInt.toNat gsc k9 (mV V 0 0 0, (V 0 99).toInt, gcc) ((if (Int32.toNatClampNeg p0) = 0 then mU (mV V52 0 0 0) 11 0 0 else mV V52 0 0 0), (V52 0 99).toInt, gcc + y33.toInt) ∧ (k9 : Int) + (mu V52 : Int) + (opc V52 40 : Int) ≤ (mu V : Int) + (opc V 40 : Int) + (if (Int32.toNatClampNeg p0) = 0 then 1 else 0) := by
                        obtain ⟨k9, c1, b1⟩ := xlp35_7
                        have c2 := CLs.shu c1 op7 in7 la7
                        rw [sh9, show (V34 0 99).toInt = (V52 0 99).toInt from congrArg Int32.toInt (((ajV52 0 99 rfl).trans (up2_o hV50 (by decide)))).symm] at c2
                        refine ⟨k9 + 1, c2, ?_⟩
                        by_cases q9 : (Int32.toNatClampNeg p0) = 0
                        · rw [if_pos q9]
                          have oe9 : opc V52 40 = opc V34 40 := opc_eq 40 (fun j9 _ => by by_cases z9 : j9 = (Int32.toNatClampNeg p0); (rw [z9]; refine Int32.toInt_inj.mp ?_; rw [n56, if_pos q9, o56]; omega); (exact e56 j9 z9))
                          omega
                        · rw [if_neg q9]
                          have oe9 := opc_dn e56 (by rw [o56]; omega) (n56.trans (if_neg q9)) 40 (by omega)
                          omega
                      exact W.iret (v := y33) hx hb hr (fun t ht hW => ⟨⟨y33, (V52, L), rfl, ⟨hMV52, agV52, rfl, (show 0 ≤ y33.toInt ∧ y33.toInt ≤ 300 from by first | omega | ((try (have i_xlp35_13 := Imp.go xlp35_13 (by omega))); (try (have i_t30 := Imp.go t30 (by omega))); (try (have i_t30 := Imp.go t30 (by omega))); (try (have i_xlp35_13 := Imp.go xlp35_13 (by omega))); omega)), (show (V52 0 93).toInt = (V 0 93).toInt from by first | omega | ((try (have i_xlp35_13 := Imp.go xlp35_13 (by omega))); (try (have i_t30 := Imp.go t30 (by omega))); (try (have i_t30 := Imp.go t30 (by omega))); (try (have i_xlp35_13 := Imp.go xlp35_13 (by omega))); omega)), (show (V52 0 98).toInt = (V 0 98).toInt from by first | omega | ((try (have i_xlp35_13 := Imp.go xlp35_13 (by omega))); (try (have i_t30 := Imp.go t30 (by omega))); (try (have i_t30 := Imp.go t30 (by omega))); (try (have i_xlp35_13 := Imp.go xlp35_13 (by omega))); omega)), (show (V52 0 65).toInt ≤ (V52 0 60).toInt from by first | omega | ((try (have i_xlp35_13 := Imp.go xlp35_13 (by omega))); (try (have i_t30 := Imp.go t30 (by omega))); (try (have i_t30 := Imp.go t30 (by omega))); (try (have i_xlp35_13 := Imp.go xlp35_13 (by omega))); omega)), (show (V52 0 73).toInt - (V52 0 65).toInt + (mu V52 : Int) ≤ (V 0 73).toInt - (V 0 65).toInt + (mu V : Int) from by first | omega | ((try (have i_xlp35_13 := Imp.go xlp35_13 (by omega))); (try (have i_t30 := Imp.go t30 (by omega))); (try (have i_t30 := Imp.go t30 (by omega))); (try (have i_xlp35_13 := Imp.go xlp35_13 (by omega))); omega)), (show (V52 0 76).toInt - (V52 0 69).toInt - (V52 0 73).toInt ≤ (V 0 76).toInt - (V 0 69).toInt - (V 0 73).toInt from by first | omega | ((try (have i_xlp35_13 := Imp.go xlp35_13 (by omega))); (try (have i_t30 := Imp.go t30 (by omega))); (try (have i_t30 := Imp.go t30 (by omega))); (try (have i_xlp35_13 := Imp.go xlp35_13 (by omega))); omega)), r067, (show y33.toInt + (mu V52 : Int) ≤ (mu V : Int) from by first | omega | ((try (have i_xlp35_13 := Imp.go xlp35_13 (by omega))); (try (have i_t30 := Imp.go t30 (by omega))); (try (have i_t30 := Imp.go t30 (by omega))); (try (have i_xlp35_13 := Imp.go xlp35_13 (by omega))); omega)), fi68, opk9, (fun h9 => RJm.ag (xlp35_11 (by rw [← ((ajV52 0 54 rfl).trans (up2_o hV50 (by decide)))]; exact h9)) (show agr [] [56, 59] V34 V52 from (agr.tr (agr.up agr.rf hV50 rfl) ajV52 (by decide) (by decide))) (by decide))⟩, by rw [ht]; exact hP, va_K.moved hW.alike hK, hD⟩, hS.F ht⟩) hS.2.2 dX12_closeAll_199
                    · skip
                      have f69 : y51.toInt < 24 := b_nle (by decide) rfl c54
                      refine lv_aload_n hx hb dX12_closeAll_179 rfl (lv_at hl 3 rfl) ?_
                      refine va_get (D := D) (ci := 12) (v := .ref (ad 59)) (C := RX12) (T := TX12) (N := 100) hx hb hg inX12 hown hK hP 0 rfl rfl 59 (by decide) (hg _ w1765) (fun _ h9 => h9) rfl dX12_closeAll_180 ?_
                      refine lv_bipush (v := 24) hx hb dX12_closeAll_183 (by decide) ?_
                      refine lv_iload_n hx hb dX12_closeAll_185 rfl (lv_at hl 4 rfl) ?_
                      refine lv_imul hx hb dX12_closeAll_186 ?_
                      refine lv_topi (fun z70 ez70 => ?_)
                      have hz70 : z70.toInt = 24 * p0.toInt := i_mul ez70 (by decide) rfl (by omega)
                      refine lv_iload hx hb dX12_closeAll_187 (lv_at hl 0 rfl) ?_
                      refine lv_iadd hx hb dX12_closeAll_189 ?_
                      refine lv_topi (fun z71 ez71 => ?_)
                      have hz71 : z71.toInt = z70.toInt + y51.toInt := i_add ez71 rfl rfl (by omega)
                      refine lv_iconst (v := 0) hx hb dX12_closeAll_190 (by decide) ?_
                      refine va_zast (D := D) (i := z71) (x := 0) hx hb hK hP hD hS 45 44 rfl rfl (i_in (a := z71.toInt) rfl (by first | omega | ((try (have i_xlp35_13 := Imp.go xlp35_13 (by omega))); (try (have i_t30 := Imp.go t30 (by omega))); (try (have i_t30 := Imp.go t30 (by omega))); (try (have i_xlp35_13 := Imp.go xlp35_13 (by omega))); omega))) dX12_closeAll_191 (fun H locs hP hD hS => ?_)
                      obtain ⟨V72, hV72⟩ : ∃ z, z = up2 V52 59 (Int32.toNatClampNeg z71) (vp_nar .boolean 0) := ⟨_, rfl⟩
                      have hP : va_P D vwCl (mw ad kk ks.1 V72 L) H := by rw [hV72]; exact hP
                      have hD : va_D A (mw ad kk ks.1 V72 L) := by rw [hV72]; exact hD
                      have hMV72 : rgd bM V72 := hMV52.put hV72 (nar_b _)
                      have agV72 : agr [(0, 60), (0, 65), (0, 68), (0, 69), (0, 73), (0, 76), (0, 90), (0, 91), (0, 92), (0, 93), (0, 95), (0, 96), (0, 98), (0, 99)] [56, 59, 61, 62, 63, 64, 66, 67, 74, 75, 77, 78, 79, 80, 94, 97] V V72 := agV52.up hV72 rfl
                      obtain ⟨z73, ez73⟩ : ∃ y : Int32, y = y51 + 1 := ⟨_, rfl⟩
                      have hz73 : z73.toInt = y51.toInt + 1 := i_add ez73 rfl (by decide) (by omega)
                      refine lv_iinc (v := z73) (lv' := [(4, .int z73), (3, .int y32), (2, .int y33), (0, .ref (ad 0)), (1, .int p0)]) hx hb dX12_closeAll_192 hl (k := 0) rfl (by rw [ez73]; rfl) (by decide) rfl (fun ls hl => ?_)
                      refine lv_goto (tgt := 172) hx hb dX12_closeAll_195 (by decide) ?_
                      have kz9 : (Int32.toNatClampNeg z71) = 24 * (Int32.toNatClampNeg p0) + y51.toInt.toNat := by have h9 := i_clamp (x := z71) rfl (by omega); omega
                      have l974 : ((∀ j : Nat, ¬ (24 * (Int32.toNatClampNeg p0) ≤ j ∧ (j : Int) < 24 * (((Int32.toNatClampNeg p0) : Nat) : Int) + z73.toInt) → V72 59 j = gU 59 j) ∧ (∀ j : Nat, 24 * (Int32.toNatClampNeg p0) ≤ j → (j : Int) < 24 * (((Int32.toNatClampNeg p0) : Nat) : Int) + z73.toInt → (V72 59 j).toInt = 0)) := by
                        refine ⟨fun j9 h9 => (up2_k hV72 (by rw [kz9]; omega)).trans (xlp53_0.1 j9 (by omega)), fun j9 h1 h2 => ?_⟩
                        by_cases q9 : j9 = (Int32.toNatClampNeg z71)
                        · rw [q9, up2_s hV72]; decide
                        · rw [up2_k hV72 q9]; exact xlp53_0.2 j9 h1 (by omega)
                      exact ihlp53 z73 V72 H locs ls (by first | omega | ((try (have i_xlp35_13 := Imp.go xlp35_13 (by omega))); (try (have i_t30 := Imp.go t30 (by omega))); (try (have i_t30 := Imp.go t30 (by omega))); (try (have i_xlp35_13 := Imp.go xlp35_13 (by omega))); omega)) l974 (by first | omega | ((try (have i_xlp35_13 := Imp.go xlp35_13 (by omega))); (try (have i_t30 := Imp.go t30 (by omega))); (try (have i_t30 := Imp.go t30 (by omega))); (try (have i_xlp35_13 := Imp.go xlp35_13 (by omega))); omega)) (agr.up (agr.tr agr.rf ajV52 (by decide) (by decide)) hV72 rfl) hMV72 hP hD hS (lv_sub hl [0, 1, 2, 3, 4] rfl)
                have r75 : Int32.toInt 0 = 0 := by decide
                exact lp53 ((24 - (Int32.toInt 0) + 1 : Int).toNat) 0 V50 H locs ls (by decide) ⟨fun j9 _ => by rw [hgU], fun j9 h1 h2 => by have h9 : Int32.toInt 0 = 0 := (by decide); exfalso; (first | exact om_d4d9a35ab6e6 la7 | omega)⟩ (by first | omega | ((try (have i_xlp35_13 := Imp.go xlp35_13 (by omega))); (try (have i_t30 := Imp.go t30 (by omega))); (try (have i_t30 := Imp.go t30 (by omega))); (try (have i_xlp35_13 := Imp.go xlp35_13 (by omega))); omega)) agr.rf hMV50 hP hD hS (lv_sub hl [0, 1, 2, 3, 4] rfl)
              · skip
                have f76 : p0.toInt = 0 := b_eq rfl (by decide) c48
                refine lv_iconst (v := 1) hx hb dX12_closeAll_163 (by decide) ?_
                refine lv_goto (tgt := 168) hx hb dX12_closeAll_164 (by decide) ?_
                refine va_zast (D := D) (i := p0) (x := 1) hx hb hK hP hD hS 42 41 rfl rfl (i_in (a := p0.toInt) rfl (by first | omega | ((try (have i_xlp35_13 := Imp.go xlp35_13 (by omega))); (try (have i_t30 := Imp.go t30 (by omega))); (try (have i_t30 := Imp.go t30 (by omega))); (try (have i_xlp35_13 := Imp.go xlp35_13 (by omega))); omega))) dX12_closeAll_168 (fun H locs hP hD hS => ?_)
                obtain ⟨V77, hV77⟩ : ∃ z, z = up2 V34 56 (Int32.toNatClampNeg p0) (vp_nar .boolean 1) := ⟨_, rfl⟩
                have hP : va_P D vwCl (mw ad kk ks.1 V77 L) H := by rw [hV77]; exact hP
                have hD : va_D A (mw ad kk ks.1 V77 L) := by rw [hV77]; exact hD
                have hMV77 : rgd bM V77 := hMV34.put hV77 (nar_b _)
                have agV77 : agr [(0, 60), (0, 65), (0, 68), (0, 69), (0, 73), (0, 76), (0, 90), (0, 91), (0, 92), (0, 93), (0, 95), (0, 96), (0, 98), (0, 99)] [56, 59, 61, 62, 63, 64, 66, 67, 74, 75, 77, 78, 79, 80, 94, 97] V V77 := agV34.up hV77 rfl
                obtain ⟨gU, hgU⟩ : ∃ z, z = V77 := ⟨_, rfl⟩
                refine lv_iconst (v := 0) hx hb dX12_closeAll_169 (by decide) ?_
                refine lv_istore (lv' := [(4, .int 0), (3, .int y32), (2, .int y33), (0, .ref (ad 0)), (1, .int p0)]) hx hb dX12_closeAll_170 hl (by decide) rfl (fun ls hl => ?_)
                have lp80 : ∀ (fulp80 : Nat) (y78 : Int32) (V79 : Vf) (H : Heap) (locs : List Loc) (ls : Array Slot), 0 ≤ y78.toInt ∧ y78.toInt ≤ 24 → ((∀ j : Nat, ¬ (24 * (Int32.toNatClampNeg p0) ≤ j ∧ (j : Int) < 24 * (((Int32.toNatClampNeg p0) : Nat) : Int) + y78.toInt) → V79 59 j = gU 59 j) ∧ (∀ j : Nat, 24 * (Int32.toNatClampNeg p0) ≤ j → (j : Int) < 24 * (((Int32.toNatClampNeg p0) : Nat) : Int) + y78.toInt → (V79 59 j).toInt = 0)) → 24 - y78.toInt < (fulp80 : Int) → agr [] [59] V77 V79 → rgd bM V79 → va_P D vwCl (mw ad kk ks.1 V79 L) H → va_D A (mw ad kk ks.1 V79 L) → va_S A s.heap H locs → lv_has ls 5 [(4, .int y78), (3, .int y32), (2, .int y33), (0, .ref (ad 0)), (1, .int p0)] → W p l e (rK2 (2 * d3 + 1616) (40 * d3 + 40600)) s m ([.ref (ad 0), .int p0] : List Value).toArray below meth c H locs 0 0 (MQ below (q_s_closeAllD D ks ad kk V L p0 gB grk gsc gcc A) ([.ref (ad 0), .int p0] : List Value).toArray s 0 0 A) (F0 m 172 ls []) := by
                  intro fulp80
                  induction fulp80 with
                  | zero =>
                    intro y78 V79 H locs ls klp80_0 xlp80_0 hn ajV79 hMV79 hP hD hS hl
                    exfalso; (first | exact om_d4d9a35ab6e6 la7 | omega)
                  | succ fulp80 ihlp80 =>
                    intro y78 V79 H locs ls klp80_0 xlp80_0 hn ajV79 hMV79 hP hD hS hl
                    have agV79 : agr [(0, 60), (0, 65), (0, 68), (0, 69), (0, 73), (0, 76), (0, 90), (0, 91), (0, 92), (0, 93), (0, 95), (0, 96), (0, 98), (0, 99)] [56, 59, 61, 62, 63, 64, 66, 67, 74, 75, 77, 78, 79, 80, 94, 97] V V79 := agV77.tr ajV79 (by decide) (by decide)
                    refine lv_iload hx hb dX12_closeAll_172 (lv_at hl 0 rfl) ?_
                    refine lv_bipush (v := 24) hx hb dX12_closeAll_174 (by decide) ?_
                    refine lv_icmp_ge (tgt := 198) hx hb dX12_closeAll_176 (by decide) (fun c81 => ?_) (fun c81 => ?_)
                    · skip
                      have f82 : 24 ≤ y78.toInt := b_le (by decide) rfl c81
                      refine lv_iload_n hx hb dX12_closeAll_198 rfl (lv_at hl 2 rfl) ?_
                      have pq83 : (V79 0 93).toInt = ((V34 0 93)).toInt := congrArg Int32.toInt ((ajV79 0 93 rfl).trans (up2_o hV77 (by decide)))
                      have pq84 : (V79 0 98).toInt = ((V34 0 98)).toInt := congrArg Int32.toInt ((ajV79 0 98 rfl).trans (up2_o hV77 (by decide)))
                      have pq85 : (V79 0 65).toInt = ((V34 0 65)).toInt := congrArg Int32.toInt ((ajV79 0 65 rfl).trans (up2_o hV77 (by decide)))
                      have pq86 : (V79 0 60).toInt = ((V34 0 60)).toInt := congrArg Int32.toInt ((ajV79 0 60 rfl).trans (up2_o hV77 (by decide)))
                      have mq87 : mu V79 = mu V34 := mu_ag (show agr [] [56, 59] V34 V79 from (agr.tr (agr.up agr.rf hV77 rfl) ajV79 (by decide) (by decide))) rfl (fun _ => rfl)
                      have pq88 : (V79 0 73).toInt = ((V34 0 73)).toInt := congrArg Int32.toInt ((ajV79 0 73 rfl).trans (up2_o hV77 (by decide)))
                      have pq89 : (V79 0 76).toInt = ((V34 0 76)).toInt := congrArg Int32.toInt ((ajV79 0 76 rfl).trans (up2_o hV77 (by decide)))
                      have pq90 : (V79 0 69).toInt = ((V34 0 69)).toInt := congrArg Int32.toInt ((ajV79 0 69 rfl).trans (up2_o hV77 (by decide)))
                      have pq91 : (V79 0 95).toInt = ((V34 0 95)).toInt := congrArg Int32.toInt ((ajV79 0 95 rfl).trans (up2_o hV77 (by decide)))
                      have r92 : 0 ≤ ((V34 0 95)).toInt ∧ ((V34 0 95)).toInt ≤ 300 := hMV34 0 95
                      have fz93 : (V34 0 95).toInt = 0 := xlp35_6.2.2.2.2
                      have r094 : RT0 V79 := RT0.ag xlp35_6 hMV34 (show agr [] [56, 59] V34 V79 from (agr.tr (agr.up agr.rf hV77 rfl) ajV79 (by decide) (by decide))) ⟨⟨rfl, fun _ => rfl, fun _ => rfl, fun _ => rfl, fun _ => rfl, fun _ => rfl, fun _ => rfl⟩, by decide, by decide, rfl, rfl, fun _ => rfl, fun _ => rfl, fun _ => rfl⟩ (c0k.ag (show agr [] [56, 59] V34 V79 from (agr.tr (agr.up agr.rf hV77 rfl) ajV79 (by decide) (by decide))) rfl) (by omega)
                      have e56 : ∀ j, j ≠ (Int32.toNatClampNeg p0) → V79 56 j = V34 56 j := fun j9 h9 => ((show agr [] [59] V77 V79 from (agr.tr agr.rf ajV79 (by decide) (by decide))) 56 j9 rfl).trans (up2_k hV77 h9)
                      have n56 : (V79 56 (Int32.toNatClampNeg p0)).toInt = if (Int32.toNatClampNeg p0) = 0 then 1 else 0 := by rw [((show agr [] [59] V77 V79 from (agr.tr agr.rf ajV79 (by decide) (by decide))) 56 (Int32.toNatClampNeg p0) rfl).trans (up2_s hV77)]; by_cases q9 : (Int32.toNatClampNeg p0) = 0; (rw [if_pos q9]; first | decide | (exfalso; (first | exact om_d4d9a35ab6e6 la7 | omega))); (rw [if_neg q9]; first | decide | (exfalso; (first | exact om_d4d9a35ab6e6 la7 | omega)))
                      have g59 := xlp80_0
                      have e59 : ∀ j, ¬ (24 * (Int32.toNatClampNeg p0) ≤ j ∧ j < 24 * (Int32.toNatClampNeg p0) + 24) → V79 59 j = V34 59 j := fun j9 h9 => (g59.1 j9 (by omega)).trans (by rw [hgU]; exact up2_o hV77 (by decide))
                      have n59 : ∀ j, 24 * (Int32.toNatClampNeg p0) ≤ j → j < 24 * (Int32.toNatClampNeg p0) + 24 → (V79 59 j).toInt = 0 := fun j9 h1 h2 => g59.2 j9 h1 (by omega)
                      have opk9 : OPk V V79 (Int32.toNatClampNeg p0) := OPl.k xlp35_8 e56 n56
                      have sh9 := mV_sh (show agr [] [56, 59] V34 V79 from (agr.tr (agr.up agr.rf hV77 rfl) ajV79 (by decide) (by decide))) (by decide) e56 n56 e59 n59
                      have mu9 : mu V79 = mu V34 := mu_ag (show agr [] [56, 59] V34 V79 from (agr.tr (agr.up agr.rf hV77 rfl) ajV79 (by decide) (by decide))) rfl (fun _ => rfl)
                      have fi95 : ∃ k9 : Nat, CLs gB (V 0 55).toInt.toNat gsc k9 (mV V 0 0 0, (V 0 99).toInt, gcc) ((if (Int32.toNatClampNeg p0) = 0 then mU (mV V79 0 0 0) 11 0 0 else mV V79 0 0 0), (V79 0 99).toInt, gcc + y33.toInt) ∧ (k9 : Int) + (mu V79 : Int) + (opc V79 40 : Int) ≤ (mu V : Int) + (opc V 40 : Int) + (if (Int32.toNatClampNeg p0) = 0 then 1 else 0) := by
                        obtain ⟨k9, c1, b1⟩ := xlp35_7
                        have c2 := CLs.shu c1 op7 in7 la7
                        rw [sh9, show (V34 0 99).toInt = (V79 0 99).toInt from congrArg Int32.toInt (((ajV79 0 99 rfl).trans (up2_o hV77 (by decide)))).symm] at c2
                        refine ⟨k9 + 1, c2, ?_⟩
                        by_cases q9 : (Int32.toNatClampNeg p0) = 0
                        · rw [if_pos q9]
                          have oe9 : opc V79 40 = opc V34 40 := opc_eq 40 (fun j9 _ => by by_cases z9 : j9 = (Int32.toNatClampNeg p0); (rw [z9]; refine Int32.toInt_inj.mp ?_; rw [n56, if_pos q9, o56]; omega); (exact e56 j9 z9))
                          omega
                        · rw [if_neg q9]
                          have oe9 := opc_dn e56 (by rw [o56]; omega) (n56.trans (if_neg q9)) 40 (by omega)
                          omega
                      exact W.iret (v := y33) hx hb hr (fun t ht hW => ⟨⟨y33, (V79, L), rfl, ⟨hMV79, agV79, rfl, (show 0 ≤ y33.toInt ∧ y33.toInt ≤ 300 from by first | omega | ((try (have i_xlp35_13 := Imp.go xlp35_13 (by omega))); (try (have i_t30 := Imp.go t30 (by omega))); (try (have i_t30 := Imp.go t30 (by omega))); (try (have i_xlp35_13 := Imp.go xlp35_13 (by omega))); omega)), (show (V79 0 93).toInt = (V 0 93).toInt from by first | omega | ((try (have i_xlp35_13 := Imp.go xlp35_13 (by omega))); (try (have i_t30 := Imp.go t30 (by omega))); (try (have i_t30 := Imp.go t30 (by omega))); (try (have i_xlp35_13 := Imp.go xlp35_13 (by omega))); omega)), (show (V79 0 98).toInt = (V 0 98).toInt from by first | omega | ((try (have i_xlp35_13 := Imp.go xlp35_13 (by omega))); (try (have i_t30 := Imp.go t30 (by omega))); (try (have i_t30 := Imp.go t30 (by omega))); (try (have i_xlp35_13 := Imp.go xlp35_13 (by omega))); omega)), (show (V79 0 65).toInt ≤ (V79 0 60).toInt from by first | omega | ((try (have i_xlp35_13 := Imp.go xlp35_13 (by omega))); (try (have i_t30 := Imp.go t30 (by omega))); (try (have i_t30 := Imp.go t30 (by omega))); (try (have i_xlp35_13 := Imp.go xlp35_13 (by omega))); omega)), (show (V79 0 73).toInt - (V79 0 65).toInt + (mu V79 : Int) ≤ (V 0 73).toInt - (V 0 65).toInt + (mu V : Int) from by first | omega | ((try (have i_xlp35_13 := Imp.go xlp35_13 (by omega))); (try (have i_t30 := Imp.go t30 (by omega))); (try (have i_t30 := Imp.go t30 (by omega))); (try (have i_xlp35_13 := Imp.go xlp35_13 (by omega))); omega)), (show (V79 0 76).toInt - (V79 0 69).toInt - (V79 0 73).toInt ≤ (V 0 76).toInt - (V 0 69).toInt - (V 0 73).toInt from by first | omega | ((try (have i_xlp35_13 := Imp.go xlp35_13 (by omega))); (try (have i_t30 := Imp.go t30 (by omega))); (try (have i_t30 := Imp.go t30 (by omega))); (try (have i_xlp35_13 := Imp.go xlp35_13 (by omega))); omega)), r094, (show y33.toInt + (mu V79 : Int) ≤ (mu V : Int) from by first | omega | ((try (have i_xlp35_13 := Imp.go xlp35_13 (by omega))); (try (have i_t30 := Imp.go t30 (by omega))); (try (have i_t30 := Imp.go t30 (by omega))); (try (have i_xlp35_13 := Imp.go xlp35_13 (by omega))); omega)), fi95, opk9, (fun h9 => RJm.ag (xlp35_11 (by rw [← ((ajV79 0 54 rfl).trans (up2_o hV77 (by decide)))]; exact h9)) (show agr [] [56, 59] V34 V79 from (agr.tr (agr.up agr.rf hV77 rfl) ajV79 (by decide) (by decide))) (by decide))⟩, by rw [ht]; exact hP, va_K.moved hW.alike hK, hD⟩, hS.F ht⟩) hS.2.2 dX12_closeAll_199
                    · skip
                      have f96 : y78.toInt < 24 := b_nle (by decide) rfl c81
                      refine lv_aload_n hx hb dX12_closeAll_179 rfl (lv_at hl 3 rfl) ?_
                      refine va_get (D := D) (ci := 12) (v := .ref (ad 59)) (C := RX12) (T := TX12) (N := 100) hx hb hg inX12 hown hK hP 0 rfl rfl 59 (by decide) (hg _ w1765) (fun _ h9 => h9) rfl dX12_closeAll_180 ?_
                      refine lv_bipush (v := 24) hx hb dX12_closeAll_183 (by decide) ?_
                      refine lv_iload_n hx hb dX12_closeAll_185 rfl (lv_at hl 4 rfl) ?_
                      refine lv_imul hx hb dX12_closeAll_186 ?_
                      refine lv_topi (fun z97 ez97 => ?_)
                      have hz97 : z97.toInt = 24 * p0.toInt := i_mul ez97 (by decide) rfl (by omega)
                      refine lv_iload hx hb dX12_closeAll_187 (lv_at hl 0 rfl) ?_
                      refine lv_iadd hx hb dX12_closeAll_189 ?_
                      refine lv_topi (fun z98 ez98 => ?_)
                      have hz98 : z98.toInt = z97.toInt + y78.toInt := i_add ez98 rfl rfl (by omega)
                      refine lv_iconst (v := 0) hx hb dX12_closeAll_190 (by decide) ?_
                      refine va_zast (D := D) (i := z98) (x := 0) hx hb hK hP hD hS 45 44 rfl rfl (i_in (a := z98.toInt) rfl (by first | omega | ((try (have i_xlp35_13 := Imp.go xlp35_13 (by omega))); (try (have i_t30 := Imp.go t30 (by omega))); (try (have i_t30 := Imp.go t30 (by omega))); (try (have i_xlp35_13 := Imp.go xlp35_13 (by omega))); omega))) dX12_closeAll_191 (fun H locs hP hD hS => ?_)
                      obtain ⟨V99, hV99⟩ : ∃ z, z = up2 V79 59 (Int32.toNatClampNeg z98) (vp_nar .boolean 0) := ⟨_, rfl⟩
                      have hP : va_P D vwCl (mw ad kk ks.1 V99 L) H := by rw [hV99]; exact hP
                      have hD : va_D A (mw ad kk ks.1 V99 L) := by rw [hV99]; exact hD
                      have hMV99 : rgd bM V99 := hMV79.put hV99 (nar_b _)
                      have agV99 : agr [(0, 60), (0, 65), (0, 68), (0, 69), (0, 73), (0, 76), (0, 90), (0, 91), (0, 92), (0, 93), (0, 95), (0, 96), (0, 98), (0, 99)] [56, 59, 61, 62, 63, 64, 66, 67, 74, 75, 77, 78, 79, 80, 94, 97] V V99 := agV79.up hV99 rfl
                      obtain ⟨z100, ez100⟩ : ∃ y : Int32, y = y78 + 1 := ⟨_, rfl⟩
                      have hz100 : z100.toInt = y78.toInt + 1 := i_add ez100 rfl (by decide) (by omega)
                      refine lv_iinc (v := z100) (lv' := [(4, .int z100), (3, .int y32), (2, .int y33), (0, .ref (ad 0)), (1, .int p0)]) hx hb dX12_closeAll_192 hl (k := 0) rfl (by rw [ez100]; rfl) (by decide) rfl (fun ls hl => ?_)
                      refine lv_goto (tgt := 172) hx hb dX12_closeAll_195 (by decide) ?_
                      have kz9 : (Int32.toNatClampNeg z98) = 24 * (Int32.toNatClampNeg p0) + y78.toInt.toNat := by have h9 := i_clamp (x := z98) rfl (by omega); omega
                      have l9101 : ((∀ j : Nat, ¬ (24 * (Int32.toNatClampNeg p0) ≤ j ∧ (j : Int) < 24 * (((Int32.toNatClampNeg p0) : Nat) : Int) + z100.toInt) → V99 59 j = gU 59 j) ∧ (∀ j : Nat, 24 * (Int32.toNatClampNeg p0) ≤ j → (j : Int) < 24 * (((Int32.toNatClampNeg p0) : Nat) : Int) + z100.toInt → (V99 59 j).toInt = 0)) := by
                        refine ⟨fun j9 h9 => (up2_k hV99 (by rw [kz9]; omega)).trans (xlp80_0.1 j9 (by omega)), fun j9 h1 h2 => ?_⟩
                        by_cases q9 : j9 = (Int32.toNatClampNeg z98)
                        · rw [q9, up2_s hV99]; decide
                        · rw [up2_k hV99 q9]; exact xlp80_0.2 j9 h1 (by omega)
                      exact ihlp80 z100 V99 H locs ls (by first | omega | ((try (have i_xlp35_13 := Imp.go xlp35_13 (by omega))); (try (have i_t30 := Imp.go t30 (by omega))); (try (have i_t30 := Imp.go t30 (by omega))); (try (have i_xlp35_13 := Imp.go xlp35_13 (by omega))); omega)) l9101 (by first | omega | ((try (have i_xlp35_13 := Imp.go xlp35_13 (by omega))); (try (have i_t30 := Imp.go t30 (by omega))); (try (have i_t30 := Imp.go t30 (by omega))); (try (have i_xlp35_13 := Imp.go xlp35_13 (by omega))); omega)) (agr.up (agr.tr agr.rf ajV79 (by decide) (by decide)) hV99 rfl) hMV99 hP hD hS (lv_sub hl [0, 1, 2, 3, 4] rfl)
                have r102 : Int32.toInt 0 = 0 := by decide
                exact lp80 ((24 - (Int32.toInt 0) + 1 : Int).toNat) 0 V77 H locs ls (by decide) ⟨fun j9 _ => by rw [hgU], fun j9 h1 h2 => by have h9 : Int32.toInt 0 = 0 := (by decide); exfalso; (first | exact om_d4d9a35ab6e6 la7 | omega)⟩ (by first | omega | ((try (have i_xlp35_13 := Imp.go xlp35_13 (by omega))); (try (have i_t30 := Imp.go t30 (by omega))); (try (have i_t30 := Imp.go t30 (by omega))); (try (have i_xlp35_13 := Imp.go xlp35_13 (by omega))); omega)) agr.rf hMV77 hP hD hS (lv_sub hl [0, 1, 2, 3, 4] rfl)
            · skip
              have f103 : 0 ≤ y32.toInt := b_nlt rfl (by decide) c46
              have r104 : 0 ≤ ((V34 0 95)).toInt ∧ ((V34 0 95)).toInt ≤ 300 := hMV34 0 95
              have pq105 : (V34 0 54).toInt = ((V 0 54)).toInt := congrArg Int32.toInt ((ajV34 0 54 rfl).trans (ajV13 0 54 rfl))
              have r106 : 0 ≤ ((V 0 54)).toInt ∧ ((V 0 54)).toInt ≤ 1 := hMV 0 54
              have rdy : (V34 0 54).toInt = 1 := (xlp35_6.2.2.1).resolve_right (by omega)
              have fz : (V34 0 95).toInt = 0 := xlp35_6.2.2.2.2
              have rt107 : RT V34 := RT0.rt xlp35_6 rdy
              have ko9 := i_clamp (x := y32) rfl (by (first | exact om_eafa9039069c f103 | omega))
              have rj9 : RJm V34 gB := xlp35_11 rdy
              have rv9 : (V 0 54).toInt = 1 := by have h9 := rdy; rw [((ajV34 0 54 rfl).trans (ajV13 0 54 rfl))] at h9; exact h9
              have bk : BKm V34 gB := BKm.ag (bkq rv9).1 (show agr [(0, 60), (0, 65), (0, 68), (0, 69), (0, 73), (0, 76), (0, 90), (0, 91), (0, 92), (0, 93), (0, 95), (0, 96), (0, 98), (0, 99)] [56, 59, 61, 62, 63, 64, 66, 67, 74, 75, 77, 78, 79, 80, 94, 97] V V34 from (agr.tr (agr.tr agr.rf ajV13 (by decide) (by decide)) ajV34 (by decide) (by decide))) (by decide)
              have br : BKr gB grk := (bkq rv9).2.1
              have ln0 : ([] : List Fr).length = 0 := rfl
              have tp0 : totP ([] : List Fr) = 0 := rfl
              have cm9 : CMPo V34 gB (Int32.toNatClampNeg y32) := rj9.2.2.1 (Int32.toNatClampNeg y32) (by omega) (by have h9 := Imp.go xlp35_13 (by (first | exact om_eafa9039069c f103 | omega)); omega)
              have kg9 : (V 57 gsc.toNat).toInt ≤ (V 57 (Int32.toNatClampNeg p0)).toInt := by rcases kd9 with h9 | h9; (rw [h9]; exact Int.le_refl _); omega
              have op7 : (V34 56 gsc.toNat).toInt ≠ 0 := by rw [xlp35_8.1 _ kg9, op1]; decide
              have scv : SCm (mV V34 0 0 0) (V 0 55).toInt.toNat := SCm.op scq xlp35_8 (fun j9 => (show agr [(0, 60), (0, 65), (0, 68), (0, 69), (0, 73), (0, 76), (0, 90), (0, 91), (0, 92), (0, 93), (0, 95), (0, 96), (0, 98), (0, 99)] [56, 59, 61, 62, 63, 64, 66, 67, 74, 75, 77, 78, 79, 80, 94, 97] V V34 from (agr.tr (agr.tr agr.rf ajV13 (by decide) (by decide)) ajV34 (by decide) (by decide))) 57 j9 rfl) (fun j9 => (show agr [(0, 60), (0, 65), (0, 68), (0, 69), (0, 73), (0, 76), (0, 90), (0, 91), (0, 92), (0, 93), (0, 95), (0, 96), (0, 98), (0, 99)] [56, 59, 61, 62, 63, 64, 66, 67, 74, 75, 77, 78, 79, 80, 94, 97] V V34 from (agr.tr (agr.tr agr.rf ajV13 (by decide) (by decide)) ajV34 (by decide) (by decide))) 58 j9 rfl) h57
              have in7 : inn (mV V34 0 0 0) (V 0 55).toInt.toNat gsc = p0.toInt := by rw [inn_end scv (by omega) xlp35_10 xlp35_9]; omega
              have la7 : y32.toInt = lmR V34 p0.toInt (V34 0 60).toInt.toNat := xlp35_12
              refine lv_aload_n hx hb dX12_closeAll_114 rfl (lv_at hl 2 rfl) ?_
              refine lv_iload_n hx hb dX12_closeAll_115 rfl (lv_at hl 0 rfl) ?_
              have r108 : 0 ≤ ((V34 61 (Int32.toNatClampNeg y32))).toInt ∧ ((V34 61 (Int32.toNatClampNeg y32))).toInt ≤ 23 := hMV34 61 (Int32.toNatClampNeg y32)
              have r109 : 0 ≤ ((V34 62 (Int32.toNatClampNeg y32))).toInt ∧ ((V34 62 (Int32.toNatClampNeg y32))).toInt ≤ 39 := hMV34 62 (Int32.toNatClampNeg y32)
              refine gA_int (gA_runV (As := [.int y32]) (rest := []) (ci := 12) (q0 := 0) hx hb hml hown hg hP hD hK hS hA hnw hgk (s_closesDT l D ks H.size ad kk V34 L y32 (gB) (grk) (([] : List Fr)) (0) (0) (0) (0) (0) ((y32.toInt)) ((V34 61 (Int32.toNatClampNeg y32)).toInt) ((V34 62 (Int32.toNatClampNeg y32)).toInt) (0) hMV34 (by first | exact om_8316563473ae klp35_0.2 xlp35_12 | first | omega | ((try (have i_xlp35_13 := Imp.go xlp35_13 (by omega))); (try (have i_t30 := Imp.go t30 (by omega))); (try (have i_t30 := Imp.go t30 (by omega))); (try (have i_xlp35_13 := Imp.go xlp35_13 (by omega))); omega)) rt107 (show (V34 0 65).toInt ≤ (V34 0 60).toInt from by first | exact om_f4906d00fa52 xlp35_2 | first | omega | ((try (have i_xlp35_13 := Imp.go xlp35_13 (by omega))); (try (have i_t30 := Imp.go t30 (by omega))); (try (have i_t30 := Imp.go t30 (by omega))); (try (have i_xlp35_13 := Imp.go xlp35_13 (by omega))); omega)) (show (V34 0 95).toInt ≤ (V34 0 65).toInt from by first | exact om_6f9bb8cf3bec r38.1 fz | first | omega | ((try (have i_xlp35_13 := Imp.go xlp35_13 (by omega))); (try (have i_t30 := Imp.go t30 (by omega))); (try (have i_t30 := Imp.go t30 (by omega))); (try (have i_xlp35_13 := Imp.go xlp35_13 (by omega))); omega)) (show (V34 0 73).toInt + (V34 0 95).toInt - (V34 0 65).toInt ≤ 999000 from by first | exact om_fd72d50bc7f1 n3 xlp35_3 fz | first | omega | ((try (have i_xlp35_13 := Imp.go xlp35_13 (by omega))); (try (have i_t30 := Imp.go t30 (by omega))); (try (have i_t30 := Imp.go t30 (by omega))); (try (have i_xlp35_13 := Imp.go xlp35_13 (by omega))); omega)) (show (V34 0 76).toInt - (V34 0 69).toInt - (V34 0 73).toInt ≤ 1000000000 from by first | exact om_4f2a7ae89657 n4 xlp35_4 | first | omega | ((try (have i_xlp35_13 := Imp.go xlp35_13 (by omega))); (try (have i_t30 := Imp.go t30 (by omega))); (try (have i_t30 := Imp.go t30 (by omega))); (try (have i_xlp35_13 := Imp.go xlp35_13 (by omega))); omega)) bk br rj9 (show (((([] : List Fr)).length : Nat) : Int) ≤ 28 * (V34 0 93).toInt + 25 from by first | exact om_997c3611c5a7 m6 xlp35_0 ln0 | first | omega | ((try (have i_xlp35_13 := Imp.go xlp35_13 (by omega))); (try (have i_t30 := Imp.go t30 (by omega))); (try (have i_t30 := Imp.go t30 (by omega))); (try (have i_xlp35_13 := Imp.go xlp35_13 (by omega))); omega)) (show ((totP (([] : List Fr)) : Nat) : Int) ≤ 84 * (V34 0 93).toInt + 56 from by first | exact om_7b4d4e5087fa m6 xlp35_0 tp0 | first | omega | ((try (have i_xlp35_13 := Imp.go xlp35_13 (by omega))); (try (have i_t30 := Imp.go t30 (by omega))); (try (have i_t30 := Imp.go t30 (by omega))); (try (have i_xlp35_13 := Imp.go xlp35_13 (by omega))); omega)) (show y32.toInt < (V34 0 60).toInt from by first | exact om_0e9116797efb xlp35_14 | first | omega | ((try (have i_xlp35_13 := Imp.go xlp35_13 (by omega))); (try (have i_t30 := Imp.go t30 (by omega))); (try (have i_t30 := Imp.go t30 (by omega))); (try (have i_xlp35_13 := Imp.go xlp35_13 (by omega))); omega)) (show (V34 0 98).toInt + 400 * 10 + 30 ≤ 19000 from by first | exact om_0a6826126846 m5 xlp35_1 | first | omega | ((try (have i_xlp35_13 := Imp.go xlp35_13 (by omega))); (try (have i_t30 := Imp.go t30 (by omega))); (try (have i_t30 := Imp.go t30 (by omega))); (try (have i_xlp35_13 := Imp.go xlp35_13 (by omega))); omega)) (show 1 ≤ (V34 63 (Int32.toNatClampNeg y32)).toInt from by first | exact om_2ded83b7a657 ((Imp.go xlp35_13 (f103))) | first | omega | ((try (have i_xlp35_13 := Imp.go xlp35_13 (by omega))); (try (have i_t30 := Imp.go t30 (by omega))); (try (have i_t30 := Imp.go t30 (by omega))); (try (have i_xlp35_13 := Imp.go xlp35_13 (by omega))); omega)) (show (V34 0 93).toInt = (0) from by first | exact om_36161e850215 m6 xlp35_0 | first | omega | ((try (have i_xlp35_13 := Imp.go xlp35_13 (by omega))); (try (have i_t30 := Imp.go t30 (by omega))); (try (have i_t30 := Imp.go t30 (by omega))); (try (have i_xlp35_13 := Imp.go xlp35_13 (by omega))); omega)) (show y32.toInt = ((y32.toInt)) from by first | exact om_4c2c879c4424 | first | omega | ((try (have i_xlp35_13 := Imp.go xlp35_13 (by omega))); (try (have i_t30 := Imp.go t30 (by omega))); (try (have i_t30 := Imp.go t30 (by omega))); (try (have i_xlp35_13 := Imp.go xlp35_13 (by omega))); omega)) (show (V34 61 (Int32.toNatClampNeg y32)).toInt = ((V34 61 (Int32.toNatClampNeg y32)).toInt) from by first | exact om_4c2c879c4424 | first | omega | ((try (have i_xlp35_13 := Imp.go xlp35_13 (by omega))); (try (have i_t30 := Imp.go t30 (by omega))); (try (have i_t30 := Imp.go t30 (by omega))); (try (have i_xlp35_13 := Imp.go xlp35_13 (by omega))); omega)) (show (V34 62 (Int32.toNatClampNeg y32)).toInt = ((V34 62 (Int32.toNatClampNeg y32)).toInt) from by first | exact om_4c2c879c4424 | first | omega | ((try (have i_xlp35_13 := Imp.go xlp35_13 (by omega))); (try (have i_t30 := Imp.go t30 (by omega))); (try (have i_t30 := Imp.go t30 (by omega))); (try (have i_xlp35_13 := Imp.go xlp35_13 (by omega))); omega)) cm9) w2328 w2330 w151 w172 w2331 rfl rfl hdV_yX12_closes ⟨(by show (1613) + 1 ≤ (2 * d3 + 1616); (first | exact om_2056dfc9b4b0 | omega)), (by show 8 + (4 + 11) + (40500) ≤ (40 * d3 + 40600); (first | exact om_df8f06419a93 | omega))⟩ rfl hl.1 rfl (Nat.le_of_ble_eq_true rfl) dX12_closeAll_116 ⟨Nat.le_of_ble_eq_true rfl, Nat.le_of_ble_eq_true rfl⟩) hP hD hK hS hA (fun z110 u111 H locs w112 hP hD hK hS => ?_)
              obtain ⟨V129, L130⟩ := u111
              obtain ⟨hMV129, ajV129, axL130, rgz110, t113, t114, t115, t116, t117, t118, t119, t120, t121, t122, t123, t124, t125, t126, t127, t128⟩ := w112
              have axL130 : L = L130 := Eq.symm axL130
              subst axL130
              have hP : va_P D vwCl (mw ad kk ks.1 V129 L) H := hP
              have hD : va_D A (mw ad kk ks.1 V129 L) := hD
              have hMV129 : rgd bM V129 := hMV129
              have ajV129 : agr [(0, 60), (0, 65), (0, 68), (0, 69), (0, 73), (0, 76), (0, 90), (0, 91), (0, 92), (0, 93), (0, 95), (0, 96), (0, 98)] [59, 61, 62, 63, 64, 66, 67, 74, 75, 77, 78, 79, 80, 94, 97] V34 V129 := ajV129
              have agV129 : agr [(0, 60), (0, 65), (0, 68), (0, 69), (0, 73), (0, 76), (0, 90), (0, 91), (0, 92), (0, 93), (0, 95), (0, 96), (0, 98), (0, 99)] [56, 59, 61, 62, 63, 64, 66, 67, 74, 75, 77, 78, 79, 80, 94, 97] V V129 := agV34.tr ajV129 (by decide) (by decide)
              have rgz110 : 0 ≤ z110.toInt ∧ z110.toInt ≤ 1 := rgz110
              have t113 : (V129 0 93).toInt = (V34 0 93).toInt := t113
              have t114 : (V129 0 98).toInt = (V34 0 98).toInt := t114
              have t115 : (V34 0 60).toInt ≤ (V129 0 60).toInt := t115
              have t116 : (V34 0 65).toInt ≤ (V129 0 65).toInt := t116
              have t117 : (V129 0 65).toInt - (V34 0 65).toInt ≤ (V129 0 60).toInt - (V34 0 60).toInt := t117
              have t118 : (V129 0 73).toInt + (V129 0 95).toInt - (V129 0 65).toInt ≤ (V34 0 73).toInt + (V34 0 95).toInt - (V34 0 65).toInt + 1 := t118
              have t119 : (V34 0 73).toInt ≤ (V129 0 73).toInt := t119
              have t120 : (V34 0 69).toInt ≤ (V129 0 69).toInt := t120
              have t121 : (V129 0 95).toInt = (V34 0 95).toInt := t121
              have t122 : (V129 0 76).toInt - (V129 0 69).toInt - (V129 0 73).toInt ≤ (V34 0 76).toInt - (V34 0 69).toInt - (V34 0 73).toInt := t122
              have t123 : (V129 63 (Int32.toNatClampNeg y32)).toInt = 2 := t123
              have t124 : RT V129 := t124
              have t125 : FRM V34 V129 (-1) := t125
              have t126 : RJm V129 (gB) := t126
              have t127 : PLK V34 V129 (V34 0 98).toInt.toNat := t127
              have t128 : DCl (gB) (mV V34 0 (0) (0), (0), Fclo0 (0) ((y32.toInt)) ((V34 61 (Int32.toNatClampNeg y32)).toInt) ((V34 62 (Int32.toNatClampNeg y32)).toInt) :: (([] : List Fr))) V129 (([] : List Fr)) z110.toInt := t128
              have r131 : 0 ≤ ((V129 0 93)).toInt ∧ ((V129 0 93)).toInt ≤ 10 := hMV129 0 93
              have r132 : 0 ≤ ((V129 0 98)).toInt ∧ ((V129 0 98)).toInt ≤ 20000 := hMV129 0 98
              have r133 : 0 ≤ ((V129 0 60)).toInt ∧ ((V129 0 60)).toInt ≤ 300 := hMV129 0 60
              have r134 : 0 ≤ ((V129 0 65)).toInt ∧ ((V129 0 65)).toInt ≤ 1000000 := hMV129 0 65
              have r135 : 0 ≤ ((V129 0 73)).toInt ∧ ((V129 0 73)).toInt ≤ 1000000 := hMV129 0 73
              have r136 : 0 ≤ ((V129 0 95)).toInt ∧ ((V129 0 95)).toInt ≤ 300 := hMV129 0 95
              have r137 : 0 ≤ ((V129 0 69)).toInt ∧ ((V129 0 69)).toInt ≤ 3000 := hMV129 0 69
              have r138 : 0 ≤ ((V129 0 76)).toInt ∧ ((V129 0 76)).toInt ≤ 2000000000 := hMV129 0 76
              have pq139 : (V129 0 54).toInt = ((V 0 54)).toInt := congrArg Int32.toInt ((ajV129 0 54 rfl).trans ((ajV34 0 54 rfl).trans (ajV13 0 54 rfl)))
              have r0140 : RT0 V129 := RT.r0 t124 (by (first | exact om_c69b2a4eecda r106.2 rv9 pq139 | omega)) (by (first | exact om_97b844acc88a r104.1 fz t121 | omega))
              have r141 : 0 ≤ ((V129 63 (Int32.toNatClampNeg y32))).toInt ∧ ((V129 63 (Int32.toNatClampNeg y32))).toInt ≤ 2 := hMV129 63 (Int32.toNatClampNeg y32)
              have h0 : 0 ≤ (V34 0 60).toInt := (hMV34 0 60).1
              have h3 : (V129 0 60).toInt ≤ 300 := (hMV129 0 60).2
              have md := mu_drop t125 h0 (x := Int32.toNatClampNeg y32) (by omega) (by first | omega | ((try (have i_xlp35_13 := Imp.go xlp35_13 (by omega))); (try (have i_t30 := Imp.go t30 (by omega))); (try (have i_t30 := Imp.go t30 (by omega))); (try (have i_xlp35_13 := Imp.go xlp35_13 (by omega))); omega)) (by omega) h3 (fun o => (hMV34 63 o).1)
              have dc7 : DCl gB (mV V34 0 0 0, 0, [Fclo0 0 y32.toInt (V34 61 (Int32.toNatClampNeg y32)).toInt (V34 62 (Int32.toNatClampNeg y32)).toInt]) V129 [] z110.toInt := t128
              have oc7 : opc V129 40 = opc V34 40 := opc_eq 40 (fun j9 _ => (show agr [(0, 60), (0, 65), (0, 68), (0, 69), (0, 73), (0, 76), (0, 90), (0, 91), (0, 92), (0, 93), (0, 95), (0, 96), (0, 98)] [59, 61, 62, 63, 64, 66, 67, 74, 75, 77, 78, 79, 80, 94, 97] V34 V129 from (agr.tr agr.rf ajV129 (by decide) (by decide))) 56 j9 rfl)
              have fz7 : (V129 0 95).toInt = 0 := by (first | exact om_97b844acc88a r104.1 fz t121 | omega)
              refine lv_istore (lv' := [(4, .int z110), (3, .int y32), (2, .int y33), (0, .ref (ad 0)), (1, .int p0)]) hx hb dX12_closeAll_119 hl (by decide) rfl (fun ls hl => ?_)
              refine lv_aload_n hx hb dX12_closeAll_121 rfl (lv_at hl 3 rfl) ?_
              refine lv_aload_n hx hb dX12_closeAll_122 rfl (lv_at hl 3 rfl) ?_
              refine va_get (D := D) (ci := 12) (v := .int (V129 0 99)) (C := RX12) (T := TX12) (N := 100) hx hb hg inX12 hown hK hP 0 rfl rfl 99 (by decide) (hg _ w1805) (fun _ h9 => h9) rfl dX12_closeAll_123 ?_
              refine g_top (v := (V34 0 99)) (ajV129 0 99 rfl) ?_
              have r142 : 0 ≤ ((V34 0 99)).toInt ∧ ((V34 0 99)).toInt ≤ 1 := hMV34 0 99
              refine lv_if_ne (tgt := 134) hx hb dX12_closeAll_126 (by decide) (fun c143 => ?_) (fun c143 => ?_)
              · skip
                have f144 : ((V34 0 99)).toInt ≠ 0 := b_neq rfl (by decide) c143
                refine lv_iconst (v := 1) hx hb dX12_closeAll_134 (by decide) ?_
                refine lv_goto (tgt := 139) hx hb dX12_closeAll_135 (by decide) ?_
                refine va_put (D := D) (ci := 12) (v := .int 1) (ty := tyX12 99) (C := RX12) (T := TX12) (N := 100) hx hb hg inX12 tyX12 tyX12_ok nmX12 hown hK hP hD hS 0 rfl rfl 99 (by decide) (hg _ w1805) (fun _ h9 => h9) rfl (tyX12_ok 99 (by decide)) rfl rfl (Nat.le_of_ble_eq_true rfl) dX12_closeAll_139 (fun H locs hP hD hS => ?_)
                obtain ⟨V145, hV145⟩ : ∃ z, z = up2 V129 0 99 1 := ⟨_, rfl⟩
                have hP : va_P D vwCl (mw ad kk ks.1 V145 L) H := by rw [hV145]; exact hP
                have hD : va_D A (mw ad kk ks.1 V145 L) := by rw [hV145]; exact hD
                have hMV145 : rgd bM V145 := hMV129.put hV145 (by decide)
                have agV145 : agr [(0, 60), (0, 65), (0, 68), (0, 69), (0, 73), (0, 76), (0, 90), (0, 91), (0, 92), (0, 93), (0, 95), (0, 96), (0, 98), (0, 99)] [56, 59, 61, 62, 63, 64, 66, 67, 74, 75, 77, 78, 79, 80, 94, 97] V V145 := agV129.up hV145 rfl
                have mq146 : mu V145 = mu V129 := mu_ag (show agr [(0, 99)] [] V129 V145 from (agr.up agr.rf hV145 rfl)) rfl (fun _ => rfl)
                have oc8 : opc V145 40 = opc V129 40 := opc_eq 40 (fun j9 _ => (show agr [(0, 99)] [] V129 V145 from (agr.up agr.rf hV145 rfl)) 56 j9 rfl)
                have oc7 : opc V145 40 = opc V34 40 := oc8.trans oc7
                obtain ⟨z147, ez147⟩ : ∃ y : Int32, y = y33 + 1 := ⟨_, rfl⟩
                have hz147 : z147.toInt = y33.toInt + 1 := i_add ez147 rfl (by decide) (by (first | exact om_5b8d680fa6e8 klp35_1.1 klp35_1.2 | omega))
                refine lv_iinc (v := z147) (lv' := [(2, .int z147), (4, .int z110), (3, .int y32), (0, .ref (ad 0)), (1, .int p0)]) hx hb dX12_closeAll_142 hl (k := 2) rfl (by rw [ez147]; rfl) (by decide) rfl (fun ls hl => ?_)
                refine lv_aload_n hx hb dX12_closeAll_145 rfl (lv_at hl 3 rfl) ?_
                refine lv_iload_n hx hb dX12_closeAll_146 rfl (lv_at hl 4 rfl) ?_
                refine gA_int (gA_runV (As := [.int p0]) (rest := []) (ci := 12) (q0 := 0) hx hb hml hown hg hP hD hK hS hA hnw hgk (s_latestIn3 l D ks H.size ad kk V145 L p0 hMV145 ) w2348 w2350 w154 w172 w2351 rfl rfl hdV_yX12_latestIn ⟨(by show (0) + 1 ≤ (2 * d3 + 1616); (first | exact om_ef34d576363e | omega)), (by show 8 + (4 + 11) + (0) ≤ (40 * d3 + 40600); (first | exact om_63bb7a2e1316 | omega))⟩ rfl hl.1 rfl (Nat.le_of_ble_eq_true rfl) dX12_closeAll_147 ⟨Nat.le_of_ble_eq_true rfl, Nat.le_of_ble_eq_true rfl⟩) hP hD hK hS hA (fun z148 u149 H locs w150 hP hD hK hS => ?_)
                obtain ⟨rgz148, t151, t152, t153⟩ := w150
                have rgz148 : (-1) ≤ z148.toInt ∧ z148.toInt ≤ 299 := rgz148
                have t151 : z148.toInt < (V145 0 60).toInt := t151
                have t152 : Imp (0 ≤ z148.toInt) ((V145 63 (Int32.toNatClampNeg z148)).toInt = 1) := t152
                have t153 : z148.toInt = lmR V145 p0.toInt (V145 0 60).toInt.toNat := t153
                have pq154 : (V145 0 60).toInt = ((V129 0 60)).toInt := congrArg Int32.toInt (up2_k hV145 (by decide))
                refine lv_istore_n (lv' := [(3, .int z148), (2, .int z147), (4, .int z110), (0, .ref (ad 0)), (1, .int p0)]) hx hb dX12_closeAll_150 rfl hl (by decide) rfl (fun ls hl => ?_)
                refine lv_goto (tgt := 110) hx hb dX12_closeAll_151 (by decide) ?_
                have pq155 : (V145 0 93).toInt = ((V129 0 93)).toInt := congrArg Int32.toInt (up2_k hV145 (by decide))
                have pq156 : (V145 0 98).toInt = ((V129 0 98)).toInt := congrArg Int32.toInt (up2_k hV145 (by decide))
                have pq157 : (V145 0 65).toInt = ((V129 0 65)).toInt := congrArg Int32.toInt (up2_k hV145 (by decide))
                have pq158 : (V145 0 73).toInt = ((V129 0 73)).toInt := congrArg Int32.toInt (up2_k hV145 (by decide))
                have pq159 : (V145 0 76).toInt = ((V129 0 76)).toInt := congrArg Int32.toInt (up2_k hV145 (by decide))
                have pq160 : (V145 0 69).toInt = ((V129 0 69)).toInt := congrArg Int32.toInt (up2_k hV145 (by decide))
                have pq161 : (V145 63 (Int32.toNatClampNeg z148)).toInt = ((V129 63 (Int32.toNatClampNeg z148))).toInt := congrArg Int32.toInt (up2_o hV145 (by decide))
                have r162 : 0 ≤ ((V129 63 (Int32.toNatClampNeg z148))).toInt ∧ ((V129 63 (Int32.toNatClampNeg z148))).toInt ≤ 2 := hMV129 63 (Int32.toNatClampNeg z148)
                have pq163 : (V145 0 95).toInt = ((V129 0 95)).toInt := congrArg Int32.toInt (up2_k hV145 (by decide))
                have fz164 : (V129 0 95).toInt = 0 := r0140.2.2.2.2
                have r0165 : RT0 V145 := RT0.ag r0140 hMV129 (show agr [(0, 99)] [] V129 V145 from (agr.up agr.rf hV145 rfl)) ⟨⟨rfl, fun _ => rfl, fun _ => rfl, fun _ => rfl, fun _ => rfl, fun _ => rfl, fun _ => rfl⟩, by decide, by decide, rfl, rfl, fun _ => rfl, fun _ => rfl, fun _ => rfl⟩ (c0k.ag (show agr [(0, 99)] [] V129 V145 from (agr.up agr.rf hV145 rfl)) rfl) (by (first | exact om_c89ac3f20c51 r104.1 fz t121 pq163 | omega))
                have pq167 : (V145 0 99).toInt = 1 := (congrArg Int32.toInt (up2_s hV145)).trans (by decide)
                have ll166 : (∃ k9 : Nat, CLs gB (V 0 55).toInt.toNat gsc k9 (mV V 0 0 0, (V 0 99).toInt, gcc) (mV V145 0 0 0, (V145 0 99).toInt, gcc + z147.toInt) ∧ (k9 : Int) + (mu V145 : Int) + (opc V145 40 : Int) ≤ (mu V : Int) + (opc V 40 : Int)) := by
                  obtain ⟨k9, c1, b1⟩ := xlp35_7
                  have c2 := CLs.clo c1 op7 in7 la7 (by (first | exact om_eafa9039069c f103 | omega)) dc7 (by (first | exact om_015bba9cd6d1 rgz110.1 rgz110.2 | omega)) fz7
                  have sp7 : (if z110.toInt = 1 then (1 : Int) else (V34 0 99).toInt) = (V145 0 99).toInt := by split <;> omega
                  rw [sp7] at c2
                  have mv7 : mV V145 0 0 0 = mV V129 0 0 0 := mV_ag (show agr [(0, 99)] [] V129 V145 from (agr.up agr.rf hV145 rfl)) (by decide)
                  exact ⟨k9 + 1, by rw [mv7, show gcc + z147.toInt = gcc + y33.toInt + 1 from by omega]; exact c2, by have h9 := oc7; omega⟩
                exact ihlp35 z148 z147 V145 H locs ls (by first | exact om_deeadfebb293 rgz148.2 t153 | first | omega | ((try (have i_t152 := Imp.go t152 (by omega))); (try (have i_xlp35_13 := Imp.go xlp35_13 (by omega))); (try (have i_t30 := Imp.go t30 (by omega))); (try (have i_t30 := Imp.go t30 (by omega))); (try (have i_xlp35_13 := Imp.go xlp35_13 (by omega))); (try (have i_t152 := Imp.go t152 (by omega))); omega)) (by first | omega | ((try (have i_t152 := Imp.go t152 (by omega))); (try (have i_xlp35_13 := Imp.go xlp35_13 (by omega))); (try (have i_t30 := Imp.go t30 (by omega))); (try (have i_t30 := Imp.go t30 (by omega))); (try (have i_xlp35_13 := Imp.go xlp35_13 (by omega))); (try (have i_t152 := Imp.go t152 (by omega))); omega)) (show (V145 0 93).toInt = (V 0 93).toInt from by first | exact om_a0c405496c73 xlp35_0 t113 pq155 | first | omega | ((try (have i_t152 := Imp.go t152 (by omega))); (try (have i_xlp35_13 := Imp.go xlp35_13 (by omega))); (try (have i_t30 := Imp.go t30 (by omega))); (try (have i_t30 := Imp.go t30 (by omega))); (try (have i_xlp35_13 := Imp.go xlp35_13 (by omega))); (try (have i_t152 := Imp.go t152 (by omega))); omega)) (show (V145 0 98).toInt = (V 0 98).toInt from by first | exact om_a0c405496c73 xlp35_1 t114 pq156 | first | omega | ((try (have i_t152 := Imp.go t152 (by omega))); (try (have i_xlp35_13 := Imp.go xlp35_13 (by omega))); (try (have i_t30 := Imp.go t30 (by omega))); (try (have i_t30 := Imp.go t30 (by omega))); (try (have i_xlp35_13 := Imp.go xlp35_13 (by omega))); (try (have i_t152 := Imp.go t152 (by omega))); omega)) (show (V145 0 65).toInt ≤ (V145 0 60).toInt from by first | exact om_854801964c9c xlp35_2 t117 pq154 pq157 | first | omega | ((try (have i_t152 := Imp.go t152 (by omega))); (try (have i_xlp35_13 := Imp.go xlp35_13 (by omega))); (try (have i_t30 := Imp.go t30 (by omega))); (try (have i_t30 := Imp.go t30 (by omega))); (try (have i_xlp35_13 := Imp.go xlp35_13 (by omega))); (try (have i_t152 := Imp.go t152 (by omega))); omega)) (show (V145 0 73).toInt - (V145 0 65).toInt + (mu V145 : Int) ≤ (V 0 73).toInt - (V 0 65).toInt + (mu V : Int) from by first | exact om_58ecaea4f7c4 xlp35_3 t118 t121 md mq146 pq157 pq158 | first | omega | ((try (have i_t152 := Imp.go t152 (by omega))); (try (have i_xlp35_13 := Imp.go xlp35_13 (by omega))); (try (have i_t30 := Imp.go t30 (by omega))); (try (have i_t30 := Imp.go t30 (by omega))); (try (have i_xlp35_13 := Imp.go xlp35_13 (by omega))); (try (have i_t152 := Imp.go t152 (by omega))); omega)) (show (V145 0 76).toInt - (V145 0 69).toInt - (V145 0 73).toInt ≤ (V 0 76).toInt - (V 0 69).toInt - (V 0 73).toInt from by first | exact om_b2393652c524 xlp35_4 t122 pq158 pq159 pq160 | first | omega | ((try (have i_t152 := Imp.go t152 (by omega))); (try (have i_xlp35_13 := Imp.go xlp35_13 (by omega))); (try (have i_t30 := Imp.go t30 (by omega))); (try (have i_t30 := Imp.go t30 (by omega))); (try (have i_xlp35_13 := Imp.go xlp35_13 (by omega))); (try (have i_t152 := Imp.go t152 (by omega))); omega)) (show z147.toInt + (mu V145 : Int) ≤ (mu V : Int) from by first | exact om_85a50bef7bf7 xlp35_5 md mq146 hz147 | first | omega | ((try (have i_t152 := Imp.go t152 (by omega))); (try (have i_xlp35_13 := Imp.go xlp35_13 (by omega))); (try (have i_t30 := Imp.go t30 (by omega))); (try (have i_t30 := Imp.go t30 (by omega))); (try (have i_xlp35_13 := Imp.go xlp35_13 (by omega))); (try (have i_t152 := Imp.go t152 (by omega))); omega)) r0165 ll166 (OPl.mv xlp35_8 (fun j9 => (show agr [(0, 60), (0, 65), (0, 68), (0, 69), (0, 73), (0, 76), (0, 90), (0, 91), (0, 92), (0, 93), (0, 95), (0, 96), (0, 98), (0, 99)] [59, 61, 62, 63, 64, 66, 67, 74, 75, 77, 78, 79, 80, 94, 97] V34 V145 from (agr.up (agr.tr agr.rf ajV129 (by decide) (by decide)) hV145 rfl)) 56 j9 rfl)) (fun j9 h1 h2 h9 => xlp35_9 j9 h1 h2 (chd.mv h9 (Or.inr ((show agr [(0, 60), (0, 65), (0, 68), (0, 69), (0, 73), (0, 76), (0, 90), (0, 91), (0, 92), (0, 93), (0, 95), (0, 96), (0, 98), (0, 99)] [59, 61, 62, 63, 64, 66, 67, 74, 75, 77, 78, 79, 80, 94, 97] V34 V145 from (agr.up (agr.tr agr.rf ajV129 (by decide) (by decide)) hV145 rfl)) 56 j9 rfl)) (fun i9 => (show agr [(0, 60), (0, 65), (0, 68), (0, 69), (0, 73), (0, 76), (0, 90), (0, 91), (0, 92), (0, 93), (0, 95), (0, 96), (0, 98), (0, 99)] [59, 61, 62, 63, 64, 66, 67, 74, 75, 77, 78, 79, 80, 94, 97] V34 V145 from (agr.up (agr.tr agr.rf ajV129 (by decide) (by decide)) hV145 rfl)) 57 i9 rfl) (fun i9 => (show agr [(0, 60), (0, 65), (0, 68), (0, 69), (0, 73), (0, 76), (0, 90), (0, 91), (0, 92), (0, 93), (0, 95), (0, 96), (0, 98), (0, 99)] [59, 61, 62, 63, 64, 66, 67, 74, 75, 77, 78, 79, 80, 94, 97] V34 V145 from (agr.up (agr.tr agr.rf ajV129 (by decide) (by decide)) hV145 rfl)) 58 i9 rfl))) (PTH.sm xlp35_10 (fun j9 => (show agr [(0, 60), (0, 65), (0, 68), (0, 69), (0, 73), (0, 76), (0, 90), (0, 91), (0, 92), (0, 93), (0, 95), (0, 96), (0, 98), (0, 99)] [59, 61, 62, 63, 64, 66, 67, 74, 75, 77, 78, 79, 80, 94, 97] V34 V145 from (agr.up (agr.tr agr.rf ajV129 (by decide) (by decide)) hV145 rfl)) 56 j9 rfl) (fun j9 => (show agr [(0, 60), (0, 65), (0, 68), (0, 69), (0, 73), (0, 76), (0, 90), (0, 91), (0, 92), (0, 93), (0, 95), (0, 96), (0, 98), (0, 99)] [59, 61, 62, 63, 64, 66, 67, 74, 75, 77, 78, 79, 80, 94, 97] V34 V145 from (agr.up (agr.tr agr.rf ajV129 (by decide) (by decide)) hV145 rfl)) 57 j9 rfl) (fun j9 => (show agr [(0, 60), (0, 65), (0, 68), (0, 69), (0, 73), (0, 76), (0, 90), (0, 91), (0, 92), (0, 93), (0, 95), (0, 96), (0, 98), (0, 99)] [59, 61, 62, 63, 64, 66, 67, 74, 75, 77, 78, 79, 80, 94, 97] V34 V145 from (agr.up (agr.tr agr.rf ajV129 (by decide) (by decide)) hV145 rfl)) 58 j9 rfl)) (fun _ => RJm.ag t126 (show agr [(0, 99)] [] V129 V145 from (agr.up agr.rf hV145 rfl)) (by decide)) t153 (Imp.mk (fun hp => have hp : 0 ≤ z148.toInt := hp; (show (V145 63 (Int32.toNatClampNeg z148)).toInt = 1 from by first | exact om_710535a98d88 ((Imp.go t152 (hp))) | first | omega | ((try (have i_t152 := Imp.go t152 (by omega))); (try (have i_xlp35_13 := Imp.go xlp35_13 (by omega))); (try (have i_t30 := Imp.go t30 (by omega))); (try (have i_t30 := Imp.go t30 (by omega))); (try (have i_xlp35_13 := Imp.go xlp35_13 (by omega))); (try (have i_t152 := Imp.go t152 (by omega))); omega)))) (show z148.toInt < (V145 0 60).toInt from by first | exact om_0e9116797efb t151 | first | omega | ((try (have i_t152 := Imp.go t152 (by omega))); (try (have i_xlp35_13 := Imp.go xlp35_13 (by omega))); (try (have i_t30 := Imp.go t30 (by omega))); (try (have i_t30 := Imp.go t30 (by omega))); (try (have i_xlp35_13 := Imp.go xlp35_13 (by omega))); (try (have i_t152 := Imp.go t152 (by omega))); omega)) (by first | exact om_985379436c3b hn md mq146 | first | omega | ((try (have i_t152 := Imp.go t152 (by omega))); (try (have i_xlp35_13 := Imp.go xlp35_13 (by omega))); (try (have i_t30 := Imp.go t30 (by omega))); (try (have i_t30 := Imp.go t30 (by omega))); (try (have i_xlp35_13 := Imp.go xlp35_13 (by omega))); (try (have i_t152 := Imp.go t152 (by omega))); omega)) (agr.up (agr.tr (agr.tr agr.rf ajV34 (by decide) (by decide)) ajV129 (by decide) (by decide)) hV145 rfl) hMV145 hP hD hS (lv_sub hl [0, 1, 3, 4] rfl)
              · skip
                have f168 : ((V34 0 99)).toInt = 0 := b_eq rfl (by decide) c143
                refine lv_iload hx hb dX12_closeAll_129 (lv_at hl 0 rfl) ?_
                refine lv_if_eq (tgt := 138) hx hb dX12_closeAll_131 (by decide) (fun c169 => ?_) (fun c169 => ?_)
                · skip
                  have f170 : z110.toInt = 0 := b_eq rfl (by decide) c169
                  refine lv_iconst (v := 0) hx hb dX12_closeAll_138 (by decide) ?_
                  refine va_put (D := D) (ci := 12) (v := .int 0) (ty := tyX12 99) (C := RX12) (T := TX12) (N := 100) hx hb hg inX12 tyX12 tyX12_ok nmX12 hown hK hP hD hS 0 rfl rfl 99 (by decide) (hg _ w1805) (fun _ h9 => h9) rfl (tyX12_ok 99 (by decide)) rfl rfl (Nat.le_of_ble_eq_true rfl) dX12_closeAll_139 (fun H locs hP hD hS => ?_)
                  obtain ⟨V171, hV171⟩ : ∃ z, z = up2 V129 0 99 0 := ⟨_, rfl⟩
                  have hP : va_P D vwCl (mw ad kk ks.1 V171 L) H := by rw [hV171]; exact hP
                  have hD : va_D A (mw ad kk ks.1 V171 L) := by rw [hV171]; exact hD
                  have hMV171 : rgd bM V171 := hMV129.put hV171 (by decide)
                  have agV171 : agr [(0, 60), (0, 65), (0, 68), (0, 69), (0, 73), (0, 76), (0, 90), (0, 91), (0, 92), (0, 93), (0, 95), (0, 96), (0, 98), (0, 99)] [56, 59, 61, 62, 63, 64, 66, 67, 74, 75, 77, 78, 79, 80, 94, 97] V V171 := agV129.up hV171 rfl
                  have mq172 : mu V171 = mu V129 := mu_ag (show agr [(0, 99)] [] V129 V171 from (agr.up agr.rf hV171 rfl)) rfl (fun _ => rfl)
                  have oc8 : opc V171 40 = opc V129 40 := opc_eq 40 (fun j9 _ => (show agr [(0, 99)] [] V129 V171 from (agr.up agr.rf hV171 rfl)) 56 j9 rfl)
                  have oc7 : opc V171 40 = opc V34 40 := oc8.trans oc7
                  obtain ⟨z173, ez173⟩ : ∃ y : Int32, y = y33 + 1 := ⟨_, rfl⟩
                  have hz173 : z173.toInt = y33.toInt + 1 := i_add ez173 rfl (by decide) (by (first | exact om_5b8d680fa6e8 klp35_1.1 klp35_1.2 | omega))
                  refine lv_iinc (v := z173) (lv' := [(2, .int z173), (4, .int z110), (3, .int y32), (0, .ref (ad 0)), (1, .int p0)]) hx hb dX12_closeAll_142 hl (k := 2) rfl (by rw [ez173]; rfl) (by decide) rfl (fun ls hl => ?_)
                  refine lv_aload_n hx hb dX12_closeAll_145 rfl (lv_at hl 3 rfl) ?_
                  refine lv_iload_n hx hb dX12_closeAll_146 rfl (lv_at hl 4 rfl) ?_
                  refine gA_int (gA_runV (As := [.int p0]) (rest := []) (ci := 12) (q0 := 0) hx hb hml hown hg hP hD hK hS hA hnw hgk (s_latestIn3 l D ks H.size ad kk V171 L p0 hMV171 ) w2348 w2350 w154 w172 w2351 rfl rfl hdV_yX12_latestIn ⟨(by show (0) + 1 ≤ (2 * d3 + 1616); (first | exact om_ef34d576363e | omega)), (by show 8 + (4 + 11) + (0) ≤ (40 * d3 + 40600); (first | exact om_63bb7a2e1316 | omega))⟩ rfl hl.1 rfl (Nat.le_of_ble_eq_true rfl) dX12_closeAll_147 ⟨Nat.le_of_ble_eq_true rfl, Nat.le_of_ble_eq_true rfl⟩) hP hD hK hS hA (fun z174 u175 H locs w176 hP hD hK hS => ?_)
                  obtain ⟨rgz174, t177, t178, t179⟩ := w176
                  have rgz174 : (-1) ≤ z174.toInt ∧ z174.toInt ≤ 299 := rgz174
                  have t177 : z174.toInt < (V171 0 60).toInt := t177
                  have t178 : Imp (0 ≤ z174.toInt) ((V171 63 (Int32.toNatClampNeg z174)).toInt = 1) := t178
                  have t179 : z174.toInt = lmR V171 p0.toInt (V171 0 60).toInt.toNat := t179
                  have pq180 : (V171 0 60).toInt = ((V129 0 60)).toInt := congrArg Int32.toInt (up2_k hV171 (by decide))
                  refine lv_istore_n (lv' := [(3, .int z174), (2, .int z173), (4, .int z110), (0, .ref (ad 0)), (1, .int p0)]) hx hb dX12_closeAll_150 rfl hl (by decide) rfl (fun ls hl => ?_)
                  refine lv_goto (tgt := 110) hx hb dX12_closeAll_151 (by decide) ?_
                  have pq181 : (V171 0 93).toInt = ((V129 0 93)).toInt := congrArg Int32.toInt (up2_k hV171 (by decide))
                  have pq182 : (V171 0 98).toInt = ((V129 0 98)).toInt := congrArg Int32.toInt (up2_k hV171 (by decide))
                  have pq183 : (V171 0 65).toInt = ((V129 0 65)).toInt := congrArg Int32.toInt (up2_k hV171 (by decide))
                  have pq184 : (V171 0 73).toInt = ((V129 0 73)).toInt := congrArg Int32.toInt (up2_k hV171 (by decide))
                  have pq185 : (V171 0 76).toInt = ((V129 0 76)).toInt := congrArg Int32.toInt (up2_k hV171 (by decide))
                  have pq186 : (V171 0 69).toInt = ((V129 0 69)).toInt := congrArg Int32.toInt (up2_k hV171 (by decide))
                  have pq187 : (V171 63 (Int32.toNatClampNeg z174)).toInt = ((V129 63 (Int32.toNatClampNeg z174))).toInt := congrArg Int32.toInt (up2_o hV171 (by decide))
                  have r188 : 0 ≤ ((V129 63 (Int32.toNatClampNeg z174))).toInt ∧ ((V129 63 (Int32.toNatClampNeg z174))).toInt ≤ 2 := hMV129 63 (Int32.toNatClampNeg z174)
                  have pq189 : (V171 0 95).toInt = ((V129 0 95)).toInt := congrArg Int32.toInt (up2_k hV171 (by decide))
                  have fz190 : (V129 0 95).toInt = 0 := r0140.2.2.2.2
                  have r0191 : RT0 V171 := RT0.ag r0140 hMV129 (show agr [(0, 99)] [] V129 V171 from (agr.up agr.rf hV171 rfl)) ⟨⟨rfl, fun _ => rfl, fun _ => rfl, fun _ => rfl, fun _ => rfl, fun _ => rfl, fun _ => rfl⟩, by decide, by decide, rfl, rfl, fun _ => rfl, fun _ => rfl, fun _ => rfl⟩ (c0k.ag (show agr [(0, 99)] [] V129 V171 from (agr.up agr.rf hV171 rfl)) rfl) (by (first | exact om_c89ac3f20c51 r104.1 fz t121 pq189 | omega))
                  have pq193 : (V171 0 99).toInt = 0 := (congrArg Int32.toInt (up2_s hV171)).trans (by decide)
                  have ll192 : (∃ k9 : Nat, CLs gB (V 0 55).toInt.toNat gsc k9 (mV V 0 0 0, (V 0 99).toInt, gcc) (mV V171 0 0 0, (V171 0 99).toInt, gcc + z173.toInt) ∧ (k9 : Int) + (mu V171 : Int) + (opc V171 40 : Int) ≤ (mu V : Int) + (opc V 40 : Int)) := by
                    obtain ⟨k9, c1, b1⟩ := xlp35_7
                    have c2 := CLs.clo c1 op7 in7 la7 (by (first | exact om_eafa9039069c f103 | omega)) dc7 (by (first | exact om_c7e16fc5c18f rgz110.1 f170 | omega)) fz7
                    have sp7 : (if z110.toInt = 1 then (1 : Int) else (V34 0 99).toInt) = (V171 0 99).toInt := by split <;> omega
                    rw [sp7] at c2
                    have mv7 : mV V171 0 0 0 = mV V129 0 0 0 := mV_ag (show agr [(0, 99)] [] V129 V171 from (agr.up agr.rf hV171 rfl)) (by decide)
                    exact ⟨k9 + 1, by rw [mv7, show gcc + z173.toInt = gcc + y33.toInt + 1 from by omega]; exact c2, by have h9 := oc7; omega⟩
                  exact ihlp35 z174 z173 V171 H locs ls (by first | exact om_deeadfebb293 rgz174.2 t179 | first | omega | ((try (have i_t178 := Imp.go t178 (by omega))); (try (have i_xlp35_13 := Imp.go xlp35_13 (by omega))); (try (have i_t30 := Imp.go t30 (by omega))); (try (have i_t30 := Imp.go t30 (by omega))); (try (have i_xlp35_13 := Imp.go xlp35_13 (by omega))); (try (have i_t178 := Imp.go t178 (by omega))); omega)) (by first | omega | ((try (have i_t178 := Imp.go t178 (by omega))); (try (have i_xlp35_13 := Imp.go xlp35_13 (by omega))); (try (have i_t30 := Imp.go t30 (by omega))); (try (have i_t30 := Imp.go t30 (by omega))); (try (have i_xlp35_13 := Imp.go xlp35_13 (by omega))); (try (have i_t178 := Imp.go t178 (by omega))); omega)) (show (V171 0 93).toInt = (V 0 93).toInt from by first | exact om_a0c405496c73 xlp35_0 t113 pq181 | first | omega | ((try (have i_t178 := Imp.go t178 (by omega))); (try (have i_xlp35_13 := Imp.go xlp35_13 (by omega))); (try (have i_t30 := Imp.go t30 (by omega))); (try (have i_t30 := Imp.go t30 (by omega))); (try (have i_xlp35_13 := Imp.go xlp35_13 (by omega))); (try (have i_t178 := Imp.go t178 (by omega))); omega)) (show (V171 0 98).toInt = (V 0 98).toInt from by first | exact om_a0c405496c73 xlp35_1 t114 pq182 | first | omega | ((try (have i_t178 := Imp.go t178 (by omega))); (try (have i_xlp35_13 := Imp.go xlp35_13 (by omega))); (try (have i_t30 := Imp.go t30 (by omega))); (try (have i_t30 := Imp.go t30 (by omega))); (try (have i_xlp35_13 := Imp.go xlp35_13 (by omega))); (try (have i_t178 := Imp.go t178 (by omega))); omega)) (show (V171 0 65).toInt ≤ (V171 0 60).toInt from by first | exact om_854801964c9c xlp35_2 t117 pq180 pq183 | first | omega | ((try (have i_t178 := Imp.go t178 (by omega))); (try (have i_xlp35_13 := Imp.go xlp35_13 (by omega))); (try (have i_t30 := Imp.go t30 (by omega))); (try (have i_t30 := Imp.go t30 (by omega))); (try (have i_xlp35_13 := Imp.go xlp35_13 (by omega))); (try (have i_t178 := Imp.go t178 (by omega))); omega)) (show (V171 0 73).toInt - (V171 0 65).toInt + (mu V171 : Int) ≤ (V 0 73).toInt - (V 0 65).toInt + (mu V : Int) from by first | exact om_58ecaea4f7c4 xlp35_3 t118 t121 md mq172 pq183 pq184 | first | omega | ((try (have i_t178 := Imp.go t178 (by omega))); (try (have i_xlp35_13 := Imp.go xlp35_13 (by omega))); (try (have i_t30 := Imp.go t30 (by omega))); (try (have i_t30 := Imp.go t30 (by omega))); (try (have i_xlp35_13 := Imp.go xlp35_13 (by omega))); (try (have i_t178 := Imp.go t178 (by omega))); omega)) (show (V171 0 76).toInt - (V171 0 69).toInt - (V171 0 73).toInt ≤ (V 0 76).toInt - (V 0 69).toInt - (V 0 73).toInt from by first | exact om_b2393652c524 xlp35_4 t122 pq184 pq185 pq186 | first | omega | ((try (have i_t178 := Imp.go t178 (by omega))); (try (have i_xlp35_13 := Imp.go xlp35_13 (by omega))); (try (have i_t30 := Imp.go t30 (by omega))); (try (have i_t30 := Imp.go t30 (by omega))); (try (have i_xlp35_13 := Imp.go xlp35_13 (by omega))); (try (have i_t178 := Imp.go t178 (by omega))); omega)) (show z173.toInt + (mu V171 : Int) ≤ (mu V : Int) from by first | exact om_85a50bef7bf7 xlp35_5 md mq172 hz173 | first | omega | ((try (have i_t178 := Imp.go t178 (by omega))); (try (have i_xlp35_13 := Imp.go xlp35_13 (by omega))); (try (have i_t30 := Imp.go t30 (by omega))); (try (have i_t30 := Imp.go t30 (by omega))); (try (have i_xlp35_13 := Imp.go xlp35_13 (by omega))); (try (have i_t178 := Imp.go t178 (by omega))); omega)) r0191 ll192 (OPl.mv xlp35_8 (fun j9 => (show agr [(0, 60), (0, 65), (0, 68), (0, 69), (0, 73), (0, 76), (0, 90), (0, 91), (0, 92), (0, 93), (0, 95), (0, 96), (0, 98), (0, 99)] [59, 61, 62, 63, 64, 66, 67, 74, 75, 77, 78, 79, 80, 94, 97] V34 V171 from (agr.up (agr.tr agr.rf ajV129 (by decide) (by decide)) hV171 rfl)) 56 j9 rfl)) (fun j9 h1 h2 h9 => xlp35_9 j9 h1 h2 (chd.mv h9 (Or.inr ((show agr [(0, 60), (0, 65), (0, 68), (0, 69), (0, 73), (0, 76), (0, 90), (0, 91), (0, 92), (0, 93), (0, 95), (0, 96), (0, 98), (0, 99)] [59, 61, 62, 63, 64, 66, 67, 74, 75, 77, 78, 79, 80, 94, 97] V34 V171 from (agr.up (agr.tr agr.rf ajV129 (by decide) (by decide)) hV171 rfl)) 56 j9 rfl)) (fun i9 => (show agr [(0, 60), (0, 65), (0, 68), (0, 69), (0, 73), (0, 76), (0, 90), (0, 91), (0, 92), (0, 93), (0, 95), (0, 96), (0, 98), (0, 99)] [59, 61, 62, 63, 64, 66, 67, 74, 75, 77, 78, 79, 80, 94, 97] V34 V171 from (agr.up (agr.tr agr.rf ajV129 (by decide) (by decide)) hV171 rfl)) 57 i9 rfl) (fun i9 => (show agr [(0, 60), (0, 65), (0, 68), (0, 69), (0, 73), (0, 76), (0, 90), (0, 91), (0, 92), (0, 93), (0, 95), (0, 96), (0, 98), (0, 99)] [59, 61, 62, 63, 64, 66, 67, 74, 75, 77, 78, 79, 80, 94, 97] V34 V171 from (agr.up (agr.tr agr.rf ajV129 (by decide) (by decide)) hV171 rfl)) 58 i9 rfl))) (PTH.sm xlp35_10 (fun j9 => (show agr [(0, 60), (0, 65), (0, 68), (0, 69), (0, 73), (0, 76), (0, 90), (0, 91), (0, 92), (0, 93), (0, 95), (0, 96), (0, 98), (0, 99)] [59, 61, 62, 63, 64, 66, 67, 74, 75, 77, 78, 79, 80, 94, 97] V34 V171 from (agr.up (agr.tr agr.rf ajV129 (by decide) (by decide)) hV171 rfl)) 56 j9 rfl) (fun j9 => (show agr [(0, 60), (0, 65), (0, 68), (0, 69), (0, 73), (0, 76), (0, 90), (0, 91), (0, 92), (0, 93), (0, 95), (0, 96), (0, 98), (0, 99)] [59, 61, 62, 63, 64, 66, 67, 74, 75, 77, 78, 79, 80, 94, 97] V34 V171 from (agr.up (agr.tr agr.rf ajV129 (by decide) (by decide)) hV171 rfl)) 57 j9 rfl) (fun j9 => (show agr [(0, 60), (0, 65), (0, 68), (0, 69), (0, 73), (0, 76), (0, 90), (0, 91), (0, 92), (0, 93), (0, 95), (0, 96), (0, 98), (0, 99)] [59, 61, 62, 63, 64, 66, 67, 74, 75, 77, 78, 79, 80, 94, 97] V34 V171 from (agr.up (agr.tr agr.rf ajV129 (by decide) (by decide)) hV171 rfl)) 58 j9 rfl)) (fun _ => RJm.ag t126 (show agr [(0, 99)] [] V129 V171 from (agr.up agr.rf hV171 rfl)) (by decide)) t179 (Imp.mk (fun hp => have hp : 0 ≤ z174.toInt := hp; (show (V171 63 (Int32.toNatClampNeg z174)).toInt = 1 from by first | exact om_710535a98d88 ((Imp.go t178 (hp))) | first | omega | ((try (have i_t178 := Imp.go t178 (by omega))); (try (have i_xlp35_13 := Imp.go xlp35_13 (by omega))); (try (have i_t30 := Imp.go t30 (by omega))); (try (have i_t30 := Imp.go t30 (by omega))); (try (have i_xlp35_13 := Imp.go xlp35_13 (by omega))); (try (have i_t178 := Imp.go t178 (by omega))); omega)))) (show z174.toInt < (V171 0 60).toInt from by first | exact om_0e9116797efb t177 | first | omega | ((try (have i_t178 := Imp.go t178 (by omega))); (try (have i_xlp35_13 := Imp.go xlp35_13 (by omega))); (try (have i_t30 := Imp.go t30 (by omega))); (try (have i_t30 := Imp.go t30 (by omega))); (try (have i_xlp35_13 := Imp.go xlp35_13 (by omega))); (try (have i_t178 := Imp.go t178 (by omega))); omega)) (by first | exact om_985379436c3b hn md mq172 | first | omega | ((try (have i_t178 := Imp.go t178 (by omega))); (try (have i_xlp35_13 := Imp.go xlp35_13 (by omega))); (try (have i_t30 := Imp.go t30 (by omega))); (try (have i_t30 := Imp.go t30 (by omega))); (try (have i_xlp35_13 := Imp.go xlp35_13 (by omega))); (try (have i_t178 := Imp.go t178 (by omega))); omega)) (agr.up (agr.tr (agr.tr agr.rf ajV34 (by decide) (by decide)) ajV129 (by decide) (by decide)) hV171 rfl) hMV171 hP hD hS (lv_sub hl [0, 1, 3, 4] rfl)
                · skip
                  have f194 : z110.toInt ≠ 0 := b_neq rfl (by decide) c169
                  refine lv_iconst (v := 1) hx hb dX12_closeAll_134 (by decide) ?_
                  refine lv_goto (tgt := 139) hx hb dX12_closeAll_135 (by decide) ?_
                  refine va_put (D := D) (ci := 12) (v := .int 1) (ty := tyX12 99) (C := RX12) (T := TX12) (N := 100) hx hb hg inX12 tyX12 tyX12_ok nmX12 hown hK hP hD hS 0 rfl rfl 99 (by decide) (hg _ w1805) (fun _ h9 => h9) rfl (tyX12_ok 99 (by decide)) rfl rfl (Nat.le_of_ble_eq_true rfl) dX12_closeAll_139 (fun H locs hP hD hS => ?_)
                  obtain ⟨V195, hV195⟩ : ∃ z, z = up2 V129 0 99 1 := ⟨_, rfl⟩
                  have hP : va_P D vwCl (mw ad kk ks.1 V195 L) H := by rw [hV195]; exact hP
                  have hD : va_D A (mw ad kk ks.1 V195 L) := by rw [hV195]; exact hD
                  have hMV195 : rgd bM V195 := hMV129.put hV195 (by decide)
                  have agV195 : agr [(0, 60), (0, 65), (0, 68), (0, 69), (0, 73), (0, 76), (0, 90), (0, 91), (0, 92), (0, 93), (0, 95), (0, 96), (0, 98), (0, 99)] [56, 59, 61, 62, 63, 64, 66, 67, 74, 75, 77, 78, 79, 80, 94, 97] V V195 := agV129.up hV195 rfl
                  have mq196 : mu V195 = mu V129 := mu_ag (show agr [(0, 99)] [] V129 V195 from (agr.up agr.rf hV195 rfl)) rfl (fun _ => rfl)
                  have oc8 : opc V195 40 = opc V129 40 := opc_eq 40 (fun j9 _ => (show agr [(0, 99)] [] V129 V195 from (agr.up agr.rf hV195 rfl)) 56 j9 rfl)
                  have oc7 : opc V195 40 = opc V34 40 := oc8.trans oc7
                  obtain ⟨z197, ez197⟩ : ∃ y : Int32, y = y33 + 1 := ⟨_, rfl⟩
                  have hz197 : z197.toInt = y33.toInt + 1 := i_add ez197 rfl (by decide) (by (first | exact om_5b8d680fa6e8 klp35_1.1 klp35_1.2 | omega))
                  refine lv_iinc (v := z197) (lv' := [(2, .int z197), (4, .int z110), (3, .int y32), (0, .ref (ad 0)), (1, .int p0)]) hx hb dX12_closeAll_142 hl (k := 2) rfl (by rw [ez197]; rfl) (by decide) rfl (fun ls hl => ?_)
                  refine lv_aload_n hx hb dX12_closeAll_145 rfl (lv_at hl 3 rfl) ?_
                  refine lv_iload_n hx hb dX12_closeAll_146 rfl (lv_at hl 4 rfl) ?_
                  refine gA_int (gA_runV (As := [.int p0]) (rest := []) (ci := 12) (q0 := 0) hx hb hml hown hg hP hD hK hS hA hnw hgk (s_latestIn3 l D ks H.size ad kk V195 L p0 hMV195 ) w2348 w2350 w154 w172 w2351 rfl rfl hdV_yX12_latestIn ⟨(by show (0) + 1 ≤ (2 * d3 + 1616); (first | exact om_ef34d576363e | omega)), (by show 8 + (4 + 11) + (0) ≤ (40 * d3 + 40600); (first | exact om_63bb7a2e1316 | omega))⟩ rfl hl.1 rfl (Nat.le_of_ble_eq_true rfl) dX12_closeAll_147 ⟨Nat.le_of_ble_eq_true rfl, Nat.le_of_ble_eq_true rfl⟩) hP hD hK hS hA (fun z198 u199 H locs w200 hP hD hK hS => ?_)
                  obtain ⟨rgz198, t201, t202, t203⟩ := w200
                  have rgz198 : (-1) ≤ z198.toInt ∧ z198.toInt ≤ 299 := rgz198
                  have t201 : z198.toInt < (V195 0 60).toInt := t201
                  have t202 : Imp (0 ≤ z198.toInt) ((V195 63 (Int32.toNatClampNeg z198)).toInt = 1) := t202
                  have t203 : z198.toInt = lmR V195 p0.toInt (V195 0 60).toInt.toNat := t203
                  have pq204 : (V195 0 60).toInt = ((V129 0 60)).toInt := congrArg Int32.toInt (up2_k hV195 (by decide))
                  refine lv_istore_n (lv' := [(3, .int z198), (2, .int z197), (4, .int z110), (0, .ref (ad 0)), (1, .int p0)]) hx hb dX12_closeAll_150 rfl hl (by decide) rfl (fun ls hl => ?_)
                  refine lv_goto (tgt := 110) hx hb dX12_closeAll_151 (by decide) ?_
                  have pq205 : (V195 0 93).toInt = ((V129 0 93)).toInt := congrArg Int32.toInt (up2_k hV195 (by decide))
                  have pq206 : (V195 0 98).toInt = ((V129 0 98)).toInt := congrArg Int32.toInt (up2_k hV195 (by decide))
                  have pq207 : (V195 0 65).toInt = ((V129 0 65)).toInt := congrArg Int32.toInt (up2_k hV195 (by decide))
                  have pq208 : (V195 0 73).toInt = ((V129 0 73)).toInt := congrArg Int32.toInt (up2_k hV195 (by decide))
                  have pq209 : (V195 0 76).toInt = ((V129 0 76)).toInt := congrArg Int32.toInt (up2_k hV195 (by decide))
                  have pq210 : (V195 0 69).toInt = ((V129 0 69)).toInt := congrArg Int32.toInt (up2_k hV195 (by decide))
                  have pq211 : (V195 63 (Int32.toNatClampNeg z198)).toInt = ((V129 63 (Int32.toNatClampNeg z198))).toInt := congrArg Int32.toInt (up2_o hV195 (by decide))
                  have r212 : 0 ≤ ((V129 63 (Int32.toNatClampNeg z198))).toInt ∧ ((V129 63 (Int32.toNatClampNeg z198))).toInt ≤ 2 := hMV129 63 (Int32.toNatClampNeg z198)
                  have pq213 : (V195 0 95).toInt = ((V129 0 95)).toInt := congrArg Int32.toInt (up2_k hV195 (by decide))
                  have fz214 : (V129 0 95).toInt = 0 := r0140.2.2.2.2
                  have r0215 : RT0 V195 := RT0.ag r0140 hMV129 (show agr [(0, 99)] [] V129 V195 from (agr.up agr.rf hV195 rfl)) ⟨⟨rfl, fun _ => rfl, fun _ => rfl, fun _ => rfl, fun _ => rfl, fun _ => rfl, fun _ => rfl⟩, by decide, by decide, rfl, rfl, fun _ => rfl, fun _ => rfl, fun _ => rfl⟩ (c0k.ag (show agr [(0, 99)] [] V129 V195 from (agr.up agr.rf hV195 rfl)) rfl) (by (first | exact om_c89ac3f20c51 r104.1 fz t121 pq213 | omega))
                  have pq217 : (V195 0 99).toInt = 1 := (congrArg Int32.toInt (up2_s hV195)).trans (by decide)
                  have ll216 : (∃ k9 : Nat, CLs gB (V 0 55).toInt.toNat gsc k9 (mV V 0 0 0, (V 0 99).toInt, gcc) (mV V195 0 0 0, (V195 0 99).toInt, gcc + z197.toInt) ∧ (k9 : Int) + (mu V195 : Int) + (opc V195 40 : Int) ≤ (mu V : Int) + (opc V 40 : Int)) := by
                    obtain ⟨k9, c1, b1⟩ := xlp35_7
                    have c2 := CLs.clo c1 op7 in7 la7 (by (first | exact om_eafa9039069c f103 | omega)) dc7 (by (first | exact om_2d1edb2b700d rgz110.1 rgz110.2 f194 | omega)) fz7
                    have sp7 : (if z110.toInt = 1 then (1 : Int) else (V34 0 99).toInt) = (V195 0 99).toInt := by split <;> omega
                    rw [sp7] at c2
                    have mv7 : mV V195 0 0 0 = mV V129 0 0 0 := mV_ag (show agr [(0, 99)] [] V129 V195 from (agr.up agr.rf hV195 rfl)) (by decide)
                    exact ⟨k9 + 1, by rw [mv7, show gcc + z197.toInt = gcc + y33.toInt + 1 from by omega]; exact c2, by have h9 := oc7; omega⟩
                  exact ihlp35 z198 z197 V195 H locs ls (by first | exact om_deeadfebb293 rgz198.2 t203 | first | omega | ((try (have i_t202 := Imp.go t202 (by omega))); (try (have i_xlp35_13 := Imp.go xlp35_13 (by omega))); (try (have i_t30 := Imp.go t30 (by omega))); (try (have i_t30 := Imp.go t30 (by omega))); (try (have i_xlp35_13 := Imp.go xlp35_13 (by omega))); (try (have i_t202 := Imp.go t202 (by omega))); omega)) (by first | omega | ((try (have i_t202 := Imp.go t202 (by omega))); (try (have i_xlp35_13 := Imp.go xlp35_13 (by omega))); (try (have i_t30 := Imp.go t30 (by omega))); (try (have i_t30 := Imp.go t30 (by omega))); (try (have i_xlp35_13 := Imp.go xlp35_13 (by omega))); (try (have i_t202 := Imp.go t202 (by omega))); omega)) (show (V195 0 93).toInt = (V 0 93).toInt from by first | exact om_a0c405496c73 xlp35_0 t113 pq205 | first | omega | ((try (have i_t202 := Imp.go t202 (by omega))); (try (have i_xlp35_13 := Imp.go xlp35_13 (by omega))); (try (have i_t30 := Imp.go t30 (by omega))); (try (have i_t30 := Imp.go t30 (by omega))); (try (have i_xlp35_13 := Imp.go xlp35_13 (by omega))); (try (have i_t202 := Imp.go t202 (by omega))); omega)) (show (V195 0 98).toInt = (V 0 98).toInt from by first | exact om_a0c405496c73 xlp35_1 t114 pq206 | first | omega | ((try (have i_t202 := Imp.go t202 (by omega))); (try (have i_xlp35_13 := Imp.go xlp35_13 (by omega))); (try (have i_t30 := Imp.go t30 (by omega))); (try (have i_t30 := Imp.go t30 (by omega))); (try (have i_xlp35_13 := Imp.go xlp35_13 (by omega))); (try (have i_t202 := Imp.go t202 (by omega))); omega)) (show (V195 0 65).toInt ≤ (V195 0 60).toInt from by first | exact om_854801964c9c xlp35_2 t117 pq204 pq207 | first | omega | ((try (have i_t202 := Imp.go t202 (by omega))); (try (have i_xlp35_13 := Imp.go xlp35_13 (by omega))); (try (have i_t30 := Imp.go t30 (by omega))); (try (have i_t30 := Imp.go t30 (by omega))); (try (have i_xlp35_13 := Imp.go xlp35_13 (by omega))); (try (have i_t202 := Imp.go t202 (by omega))); omega)) (show (V195 0 73).toInt - (V195 0 65).toInt + (mu V195 : Int) ≤ (V 0 73).toInt - (V 0 65).toInt + (mu V : Int) from by first | exact om_58ecaea4f7c4 xlp35_3 t118 t121 md mq196 pq207 pq208 | first | omega | ((try (have i_t202 := Imp.go t202 (by omega))); (try (have i_xlp35_13 := Imp.go xlp35_13 (by omega))); (try (have i_t30 := Imp.go t30 (by omega))); (try (have i_t30 := Imp.go t30 (by omega))); (try (have i_xlp35_13 := Imp.go xlp35_13 (by omega))); (try (have i_t202 := Imp.go t202 (by omega))); omega)) (show (V195 0 76).toInt - (V195 0 69).toInt - (V195 0 73).toInt ≤ (V 0 76).toInt - (V 0 69).toInt - (V 0 73).toInt from by first | exact om_b2393652c524 xlp35_4 t122 pq208 pq209 pq210 | first | omega | ((try (have i_t202 := Imp.go t202 (by omega))); (try (have i_xlp35_13 := Imp.go xlp35_13 (by omega))); (try (have i_t30 := Imp.go t30 (by omega))); (try (have i_t30 := Imp.go t30 (by omega))); (try (have i_xlp35_13 := Imp.go xlp35_13 (by omega))); (try (have i_t202 := Imp.go t202 (by omega))); omega)) (show z197.toInt + (mu V195 : Int) ≤ (mu V : Int) from by first | exact om_85a50bef7bf7 xlp35_5 md mq196 hz197 | first | omega | ((try (have i_t202 := Imp.go t202 (by omega))); (try (have i_xlp35_13 := Imp.go xlp35_13 (by omega))); (try (have i_t30 := Imp.go t30 (by omega))); (try (have i_t30 := Imp.go t30 (by omega))); (try (have i_xlp35_13 := Imp.go xlp35_13 (by omega))); (try (have i_t202 := Imp.go t202 (by omega))); omega)) r0215 ll216 (OPl.mv xlp35_8 (fun j9 => (show agr [(0, 60), (0, 65), (0, 68), (0, 69), (0, 73), (0, 76), (0, 90), (0, 91), (0, 92), (0, 93), (0, 95), (0, 96), (0, 98), (0, 99)] [59, 61, 62, 63, 64, 66, 67, 74, 75, 77, 78, 79, 80, 94, 97] V34 V195 from (agr.up (agr.tr agr.rf ajV129 (by decide) (by decide)) hV195 rfl)) 56 j9 rfl)) (fun j9 h1 h2 h9 => xlp35_9 j9 h1 h2 (chd.mv h9 (Or.inr ((show agr [(0, 60), (0, 65), (0, 68), (0, 69), (0, 73), (0, 76), (0, 90), (0, 91), (0, 92), (0, 93), (0, 95), (0, 96), (0, 98), (0, 99)] [59, 61, 62, 63, 64, 66, 67, 74, 75, 77, 78, 79, 80, 94, 97] V34 V195 from (agr.up (agr.tr agr.rf ajV129 (by decide) (by decide)) hV195 rfl)) 56 j9 rfl)) (fun i9 => (show agr [(0, 60), (0, 65), (0, 68), (0, 69), (0, 73), (0, 76), (0, 90), (0, 91), (0, 92), (0, 93), (0, 95), (0, 96), (0, 98), (0, 99)] [59, 61, 62, 63, 64, 66, 67, 74, 75, 77, 78, 79, 80, 94, 97] V34 V195 from (agr.up (agr.tr agr.rf ajV129 (by decide) (by decide)) hV195 rfl)) 57 i9 rfl) (fun i9 => (show agr [(0, 60), (0, 65), (0, 68), (0, 69), (0, 73), (0, 76), (0, 90), (0, 91), (0, 92), (0, 93), (0, 95), (0, 96), (0, 98), (0, 99)] [59, 61, 62, 63, 64, 66, 67, 74, 75, 77, 78, 79, 80, 94, 97] V34 V195 from (agr.up (agr.tr agr.rf ajV129 (by decide) (by decide)) hV195 rfl)) 58 i9 rfl))) (PTH.sm xlp35_10 (fun j9 => (show agr [(0, 60), (0, 65), (0, 68), (0, 69), (0, 73), (0, 76), (0, 90), (0, 91), (0, 92), (0, 93), (0, 95), (0, 96), (0, 98), (0, 99)] [59, 61, 62, 63, 64, 66, 67, 74, 75, 77, 78, 79, 80, 94, 97] V34 V195 from (agr.up (agr.tr agr.rf ajV129 (by decide) (by decide)) hV195 rfl)) 56 j9 rfl) (fun j9 => (show agr [(0, 60), (0, 65), (0, 68), (0, 69), (0, 73), (0, 76), (0, 90), (0, 91), (0, 92), (0, 93), (0, 95), (0, 96), (0, 98), (0, 99)] [59, 61, 62, 63, 64, 66, 67, 74, 75, 77, 78, 79, 80, 94, 97] V34 V195 from (agr.up (agr.tr agr.rf ajV129 (by decide) (by decide)) hV195 rfl)) 57 j9 rfl) (fun j9 => (show agr [(0, 60), (0, 65), (0, 68), (0, 69), (0, 73), (0, 76), (0, 90), (0, 91), (0, 92), (0, 93), (0, 95), (0, 96), (0, 98), (0, 99)] [59, 61, 62, 63, 64, 66, 67, 74, 75, 77, 78, 79, 80, 94, 97] V34 V195 from (agr.up (agr.tr agr.rf ajV129 (by decide) (by decide)) hV195 rfl)) 58 j9 rfl)) (fun _ => RJm.ag t126 (show agr [(0, 99)] [] V129 V195 from (agr.up agr.rf hV195 rfl)) (by decide)) t203 (Imp.mk (fun hp => have hp : 0 ≤ z198.toInt := hp; (show (V195 63 (Int32.toNatClampNeg z198)).toInt = 1 from by first | exact om_710535a98d88 ((Imp.go t202 (hp))) | first | omega | ((try (have i_t202 := Imp.go t202 (by omega))); (try (have i_xlp35_13 := Imp.go xlp35_13 (by omega))); (try (have i_t30 := Imp.go t30 (by omega))); (try (have i_t30 := Imp.go t30 (by omega))); (try (have i_xlp35_13 := Imp.go xlp35_13 (by omega))); (try (have i_t202 := Imp.go t202 (by omega))); omega)))) (show z198.toInt < (V195 0 60).toInt from by first | exact om_0e9116797efb t201 | first | omega | ((try (have i_t202 := Imp.go t202 (by omega))); (try (have i_xlp35_13 := Imp.go xlp35_13 (by omega))); (try (have i_t30 := Imp.go t30 (by omega))); (try (have i_t30 := Imp.go t30 (by omega))); (try (have i_xlp35_13 := Imp.go xlp35_13 (by omega))); (try (have i_t202 := Imp.go t202 (by omega))); omega)) (by first | exact om_985379436c3b hn md mq196 | first | omega | ((try (have i_t202 := Imp.go t202 (by omega))); (try (have i_xlp35_13 := Imp.go xlp35_13 (by omega))); (try (have i_t30 := Imp.go t30 (by omega))); (try (have i_t30 := Imp.go t30 (by omega))); (try (have i_xlp35_13 := Imp.go xlp35_13 (by omega))); (try (have i_t202 := Imp.go t202 (by omega))); omega)) (agr.up (agr.tr (agr.tr agr.rf ajV34 (by decide) (by decide)) ajV129 (by decide) (by decide)) hV195 rfl) hMV195 hP hD hS (lv_sub hl [0, 1, 3, 4] rfl)
        have r218 : 0 ≤ ((V13 63 (Int32.toNatClampNeg z26))).toInt ∧ ((V13 63 (Int32.toNatClampNeg z26))).toInt ≤ 2 := hMV13 63 (Int32.toNatClampNeg z26)
        exact lp35 (((mu V13 : Int) + 1 : Int).toNat) z26 y12 V13 H locs ls (by first | exact om_deeadfebb293 rgz26.2 t31 | first | omega | ((try (have i_t30 := Imp.go t30 (by omega))); omega)) (by first | exact om_c7b5e7b90639 klp14_1.1 klp14_1.2 | first | omega | ((try (have i_t30 := Imp.go t30 (by omega))); omega)) (show (V13 0 93).toInt = (V 0 93).toInt from by first | exact om_570b691c1130 xlp14_0 | first | omega | ((try (have i_t30 := Imp.go t30 (by omega))); omega)) (show (V13 0 98).toInt = (V 0 98).toInt from by first | exact om_570b691c1130 xlp14_1 | first | omega | ((try (have i_t30 := Imp.go t30 (by omega))); omega)) (show (V13 0 65).toInt ≤ (V13 0 60).toInt from by first | exact om_f4906d00fa52 xlp14_2 | first | omega | ((try (have i_t30 := Imp.go t30 (by omega))); omega)) (show (V13 0 73).toInt - (V13 0 65).toInt + (mu V13 : Int) ≤ (V 0 73).toInt - (V 0 65).toInt + (mu V : Int) from by first | exact om_b48bd8f145a6 xlp14_3 | first | omega | ((try (have i_t30 := Imp.go t30 (by omega))); omega)) (show (V13 0 76).toInt - (V13 0 69).toInt - (V13 0 73).toInt ≤ (V 0 76).toInt - (V 0 69).toInt - (V 0 73).toInt from by first | exact om_f1910009b5d0 xlp14_4 | first | omega | ((try (have i_t30 := Imp.go t30 (by omega))); omega)) (show y12.toInt + (mu V13 : Int) ≤ (mu V : Int) from by first | exact om_11330e6930eb xlp14_5 | first | omega | ((try (have i_t30 := Imp.go t30 (by omega))); omega)) xlp14_6 xlp14_7 xlp14_8 (fun j9 h1 h2 => xlp14_9 j9 (by omega) h2) xlp14_10 xlp14_11 t31 (Imp.mk (fun hp => have hp : 0 ≤ z26.toInt := hp; (show (V13 63 (Int32.toNatClampNeg z26)).toInt = 1 from by first | exact om_710535a98d88 ((Imp.go t30 (hp))) | first | omega | ((try (have i_t30 := Imp.go t30 (by omega))); omega)))) (show z26.toInt < (V13 0 60).toInt from by first | exact om_0e9116797efb t29 | first | omega | ((try (have i_t30 := Imp.go t30 (by omega))); omega)) (by first | exact om_8ef3b060d12d | first | omega | ((try (have i_t30 := Imp.go t30 (by omega))); omega)) agr.rf hMV13 hP hD hS (lv_sub hl [0, 1, 2, 3] rfl)
      · skip
        have f220 : 0 < y11.toInt := b_nle rfl (by decide) c24
        refine lv_aload_n hx hb dX12_closeAll_13 rfl (lv_at hl 2 rfl) ?_
        refine va_get (D := D) (ci := 12) (v := .ref (ad 56)) (C := RX12) (T := TX12) (N := 100) hx hb hg inX12 hown hK hP 0 rfl rfl 56 (by decide) (hg _ w1762) (fun _ h9 => h9) rfl dX12_closeAll_14 ?_
        refine lv_iload_n hx hb dX12_closeAll_17 rfl (lv_at hl 0 rfl) ?_
        refine va_zald (D := D) (i := y11) hx hb hK hP 42 41 rfl rfl (i_in (a := y11.toInt) rfl (by (first | exact om_50db416a1bbc r9.2 xlp14_12 f220 | omega))) dX12_closeAll_18 ?_
        have r221 : 0 ≤ ((V13 56 (Int32.toNatClampNeg y11))).toInt ∧ ((V13 56 (Int32.toNatClampNeg y11))).toInt ≤ 1 := hMV13 56 (Int32.toNatClampNeg y11)
        refine lv_if_eq (tgt := 78) hx hb dX12_closeAll_19 (by decide) (fun c222 => ?_) (fun c222 => ?_)
        · skip
          have f223 : ((V13 56 (Int32.toNatClampNeg y11))).toInt = 0 := b_eq rfl (by decide) c222
          refine lv_iconst (v := 0) hx hb dX12_closeAll_78 (by decide) ?_
          refine lv_istore (lv' := [(4, .int 0), (3, .int y11), (2, .int y12), (0, .ref (ad 0)), (1, .int p0)]) hx hb dX12_closeAll_79 hl (by decide) rfl (fun ls hl => ?_)
          refine lv_iload_n hx hb dX12_closeAll_81 rfl (lv_at hl 2 rfl) ?_
          refine lv_iload hx hb dX12_closeAll_82 (lv_at hl 0 rfl) ?_
          refine lv_if_eq (tgt := 95) hx hb dX12_closeAll_84 (by decide) (fun _ => ?_) (fun q => absurd (by decide) q)
          have pq224 : (V13 57 (Int32.toNatClampNeg p0)).toInt = ((V 57 (Int32.toNatClampNeg p0))).toInt := congrArg Int32.toInt (ajV13 57 (Int32.toNatClampNeg p0) rfl)
          have pq225 : (V13 57 (Int32.toNatClampNeg y11)).toInt = ((V 57 (Int32.toNatClampNeg y11))).toInt := congrArg Int32.toInt (ajV13 57 (Int32.toNatClampNeg y11) rfl)
          have pq226 : (V13 58 (Int32.toNatClampNeg y11)).toInt = ((V 58 (Int32.toNatClampNeg y11))).toInt := congrArg Int32.toInt (ajV13 58 (Int32.toNatClampNeg y11) rfl)
          have r227 : (-1) ≤ ((V 58 (Int32.toNatClampNeg y11))).toInt ∧ ((V 58 (Int32.toNatClampNeg y11))).toInt ≤ 39 := hMV 58 (Int32.toNatClampNeg y11)
          have ky9 := i_clamp (x := y11) rfl (by (first | exact om_610a4af05d44 f220 | omega))
          have nc9 : ¬ chd (mV V13 0 0 0) (Int32.toNatClampNeg p0) (Int32.toNatClampNeg y11) := fun h9 => by
            have h1 : (V13 56 (Int32.toNatClampNeg y11)).toInt ≠ 0 := h9.1
            rcases h9.2 with h8 | h8
            · have h2 : (V13 57 (Int32.toNatClampNeg p0)).toInt = 0 := h8.1
              have h3 : (V13 57 (Int32.toNatClampNeg y11)).toInt = 1 := h8.2
              omega
            · have h2 : (V13 57 (Int32.toNatClampNeg p0)).toInt = 1 := h8.1
              have h3 : (V13 57 (Int32.toNatClampNeg y11)).toInt = 2 := h8.2.1
              have h4 : (V13 58 (Int32.toNatClampNeg y11)).toInt = (((Int32.toNatClampNeg p0) : Nat) : Int) := h8.2.2
              omega
          refine lv_iconst (v := 0) hx hb dX12_closeAll_95 (by decide) ?_
          refine lv_iadd hx hb dX12_closeAll_96 ?_
          refine lv_topi (fun z228 ez228 => ?_)
          have hz228 : z228.toInt = y12.toInt + 0 := i_add ez228 rfl (by decide) (by (first | exact om_a191521786d2 klp14_1.1 klp14_1.2 | omega))
          refine lv_istore_n (lv' := [(2, .int z228), (4, .int 0), (3, .int y11), (0, .ref (ad 0)), (1, .int p0)]) hx hb dX12_closeAll_97 rfl hl (by decide) rfl (fun ls hl => ?_)
          obtain ⟨z229, ez229⟩ : ∃ y : Int32, y = y11 + (-1) := ⟨_, rfl⟩
          have hz229 : z229.toInt = y11.toInt + (-1) := i_add ez229 rfl (by decide) (by (first | exact om_38bbca15f2be klp14_0.2 f220 | omega))
          refine lv_iinc (v := z229) (lv' := [(3, .int z229), (2, .int z228), (4, .int 0), (0, .ref (ad 0)), (1, .int p0)]) hx hb dX12_closeAll_98 hl (k := 2) rfl (by rw [ez229]; rfl) (by decide) rfl (fun ls hl => ?_)
          refine lv_goto (tgt := 9) hx hb dX12_closeAll_101 (by decide) ?_
          have r230 : Int32.toInt 0 = 0 := by decide
          have ll231 : (∃ k9 : Nat, CLs gB (V 0 55).toInt.toNat gsc k9 (mV V 0 0 0, (V 0 99).toInt, gcc) (mV V13 0 0 0, (V13 0 99).toInt, gcc + z228.toInt) ∧ (k9 : Int) + (mu V13 : Int) + (opc V13 40 : Int) ≤ (mu V : Int) + (opc V 40 : Int)) := by have h9 := xlp14_7; rw [show gcc + z228.toInt = gcc + y12.toInt from by omega]; exact h9
          have ol232 : ∀ j : Nat, z229.toInt < (j : Int) → j < (V 0 55).toInt.toNat → ¬ chd (mV V13 0 0 0) (Int32.toNatClampNeg p0) j := fun j9 h1 h2 => by
            have ky9 := i_clamp (x := y11) rfl (by (first | exact om_610a4af05d44 f220 | omega))
            by_cases q9 : j9 = (Int32.toNatClampNeg y11)
            · exact fun h9 => by rw [q9] at h9; exact nc9 h9
            · exact xlp14_9 j9 (by omega) h2
          exact ihlp14 z229 z228 V13 H locs ls (by (first | exact om_0934def82ed5 klp14_0.2 f220 hz229 | omega)) (by (first | exact om_101a603fc44b klp14_1.1 klp14_1.2 hz228 | omega)) (show (V13 0 93).toInt = (V 0 93).toInt from by (first | exact om_570b691c1130 xlp14_0 | omega)) (show (V13 0 98).toInt = (V 0 98).toInt from by (first | exact om_570b691c1130 xlp14_1 | omega)) (show (V13 0 65).toInt ≤ (V13 0 60).toInt from by (first | exact om_f4906d00fa52 xlp14_2 | omega)) (show (V13 0 73).toInt - (V13 0 65).toInt + (mu V13 : Int) ≤ (V 0 73).toInt - (V 0 65).toInt + (mu V : Int) from by (first | exact om_b48bd8f145a6 xlp14_3 | omega)) (show (V13 0 76).toInt - (V13 0 69).toInt - (V13 0 73).toInt ≤ (V 0 76).toInt - (V 0 69).toInt - (V 0 73).toInt from by (first | exact om_f1910009b5d0 xlp14_4 | omega)) (show z228.toInt + (mu V13 : Int) ≤ (mu V : Int) from by (first | exact om_7d452ad704e8 xlp14_5 hz228 | omega)) xlp14_6 ll231 xlp14_8 ol232 xlp14_10 xlp14_11 (show z229.toInt < (V 0 55).toInt from by (first | exact om_1e2998b5d70c xlp14_12 hz229 | omega)) (by (first | exact om_46f113951c8c hn hz229 | omega)) (agr.tr agr.rf ajV13 (by decide) (by decide)) hMV13 hP hD hS (lv_sub hl [0, 1, 3, 4] rfl)
        · skip
          have f233 : ((V13 56 (Int32.toNatClampNeg y11))).toInt ≠ 0 := b_neq rfl (by decide) c222
          refine lv_aload_n hx hb dX12_closeAll_22 rfl (lv_at hl 2 rfl) ?_
          refine va_get (D := D) (ci := 12) (v := .ref (ad 57)) (C := RX12) (T := TX12) (N := 100) hx hb hg inX12 hown hK hP 0 rfl rfl 57 (by decide) (hg _ w1763) (fun _ h9 => h9) rfl dX12_closeAll_23 ?_
          refine lv_iload_n hx hb dX12_closeAll_26 rfl (lv_at hl 3 rfl) ?_
          refine va_iald (D := D) (i := p0) hx hb hK hP 43 42 rfl rfl (i_in (a := p0.toInt) rfl (by (first | exact om_fc4b7ceebace rg_p0.1 rg_p0.2 | omega))) dX12_closeAll_27 ?_
          refine g_top (v := (V 57 (Int32.toNatClampNeg p0))) (ajV13 57 (Int32.toNatClampNeg p0) rfl) ?_
          refine lv_if_ne (tgt := 44) hx hb dX12_closeAll_28 (by decide) (fun c234 => ?_) (fun c234 => ?_)
          · skip
            have f235 : ((V 57 (Int32.toNatClampNeg p0))).toInt ≠ 0 := b_neq rfl (by decide) c234
            refine lv_aload_n hx hb dX12_closeAll_44 rfl (lv_at hl 2 rfl) ?_
            refine va_get (D := D) (ci := 12) (v := .ref (ad 57)) (C := RX12) (T := TX12) (N := 100) hx hb hg inX12 hown hK hP 0 rfl rfl 57 (by decide) (hg _ w1763) (fun _ h9 => h9) rfl dX12_closeAll_45 ?_
            refine lv_iload_n hx hb dX12_closeAll_48 rfl (lv_at hl 3 rfl) ?_
            refine va_iald (D := D) (i := p0) hx hb hK hP 43 42 rfl rfl (i_in (a := p0.toInt) rfl (by (first | exact om_fc4b7ceebace rg_p0.1 rg_p0.2 | omega))) dX12_closeAll_49 ?_
            refine g_top (v := (V 57 (Int32.toNatClampNeg p0))) (ajV13 57 (Int32.toNatClampNeg p0) rfl) ?_
            refine lv_iconst (v := 1) hx hb dX12_closeAll_50 (by decide) ?_
            refine lv_icmp_ne (tgt := 78) hx hb dX12_closeAll_51 (by decide) (fun c236 => ?_) (fun c236 => ?_)
            · skip
              have f237 : ((V 57 (Int32.toNatClampNeg p0))).toInt ≠ 1 := b_neq rfl (by decide) c236
              refine lv_iconst (v := 0) hx hb dX12_closeAll_78 (by decide) ?_
              refine lv_istore (lv' := [(4, .int 0), (3, .int y11), (2, .int y12), (0, .ref (ad 0)), (1, .int p0)]) hx hb dX12_closeAll_79 hl (by decide) rfl (fun ls hl => ?_)
              refine lv_iload_n hx hb dX12_closeAll_81 rfl (lv_at hl 2 rfl) ?_
              refine lv_iload hx hb dX12_closeAll_82 (lv_at hl 0 rfl) ?_
              refine lv_if_eq (tgt := 95) hx hb dX12_closeAll_84 (by decide) (fun _ => ?_) (fun q => absurd (by decide) q)
              have pq238 : (V13 57 (Int32.toNatClampNeg p0)).toInt = ((V 57 (Int32.toNatClampNeg p0))).toInt := congrArg Int32.toInt (ajV13 57 (Int32.toNatClampNeg p0) rfl)
              have pq239 : (V13 57 (Int32.toNatClampNeg y11)).toInt = ((V 57 (Int32.toNatClampNeg y11))).toInt := congrArg Int32.toInt (ajV13 57 (Int32.toNatClampNeg y11) rfl)
              have pq240 : (V13 58 (Int32.toNatClampNeg y11)).toInt = ((V 58 (Int32.toNatClampNeg y11))).toInt := congrArg Int32.toInt (ajV13 58 (Int32.toNatClampNeg y11) rfl)
              have r241 : (-1) ≤ ((V 58 (Int32.toNatClampNeg y11))).toInt ∧ ((V 58 (Int32.toNatClampNeg y11))).toInt ≤ 39 := hMV 58 (Int32.toNatClampNeg y11)
              have ky9 := i_clamp (x := y11) rfl (by (first | exact om_610a4af05d44 f220 | omega))
              have nc9 : ¬ chd (mV V13 0 0 0) (Int32.toNatClampNeg p0) (Int32.toNatClampNeg y11) := fun h9 => by
                have h1 : (V13 56 (Int32.toNatClampNeg y11)).toInt ≠ 0 := h9.1
                rcases h9.2 with h8 | h8
                · have h2 : (V13 57 (Int32.toNatClampNeg p0)).toInt = 0 := h8.1
                  have h3 : (V13 57 (Int32.toNatClampNeg y11)).toInt = 1 := h8.2
                  omega
                · have h2 : (V13 57 (Int32.toNatClampNeg p0)).toInt = 1 := h8.1
                  have h3 : (V13 57 (Int32.toNatClampNeg y11)).toInt = 2 := h8.2.1
                  have h4 : (V13 58 (Int32.toNatClampNeg y11)).toInt = (((Int32.toNatClampNeg p0) : Nat) : Int) := h8.2.2
                  omega
              refine lv_iconst (v := 0) hx hb dX12_closeAll_95 (by decide) ?_
              refine lv_iadd hx hb dX12_closeAll_96 ?_
              refine lv_topi (fun z242 ez242 => ?_)
              have hz242 : z242.toInt = y12.toInt + 0 := i_add ez242 rfl (by decide) (by (first | exact om_a191521786d2 klp14_1.1 klp14_1.2 | omega))
              refine lv_istore_n (lv' := [(2, .int z242), (4, .int 0), (3, .int y11), (0, .ref (ad 0)), (1, .int p0)]) hx hb dX12_closeAll_97 rfl hl (by decide) rfl (fun ls hl => ?_)
              obtain ⟨z243, ez243⟩ : ∃ y : Int32, y = y11 + (-1) := ⟨_, rfl⟩
              have hz243 : z243.toInt = y11.toInt + (-1) := i_add ez243 rfl (by decide) (by (first | exact om_38bbca15f2be klp14_0.2 f220 | omega))
              refine lv_iinc (v := z243) (lv' := [(3, .int z243), (2, .int z242), (4, .int 0), (0, .ref (ad 0)), (1, .int p0)]) hx hb dX12_closeAll_98 hl (k := 2) rfl (by rw [ez243]; rfl) (by decide) rfl (fun ls hl => ?_)
              refine lv_goto (tgt := 9) hx hb dX12_closeAll_101 (by decide) ?_
              have r244 : Int32.toInt 0 = 0 := by decide
              have ll245 : (∃ k9 : Nat, CLs gB (V 0 55).toInt.toNat gsc k9 (mV V 0 0 0, (V 0 99).toInt, gcc) (mV V13 0 0 0, (V13 0 99).toInt, gcc + z242.toInt) ∧ (k9 : Int) + (mu V13 : Int) + (opc V13 40 : Int) ≤ (mu V : Int) + (opc V 40 : Int)) := by have h9 := xlp14_7; rw [show gcc + z242.toInt = gcc + y12.toInt from by omega]; exact h9
              have ol246 : ∀ j : Nat, z243.toInt < (j : Int) → j < (V 0 55).toInt.toNat → ¬ chd (mV V13 0 0 0) (Int32.toNatClampNeg p0) j := fun j9 h1 h2 => by
                have ky9 := i_clamp (x := y11) rfl (by (first | exact om_610a4af05d44 f220 | omega))
                by_cases q9 : j9 = (Int32.toNatClampNeg y11)
                · exact fun h9 => by rw [q9] at h9; exact nc9 h9
                · exact xlp14_9 j9 (by omega) h2
              exact ihlp14 z243 z242 V13 H locs ls (by (first | exact om_0934def82ed5 klp14_0.2 f220 hz243 | omega)) (by (first | exact om_101a603fc44b klp14_1.1 klp14_1.2 hz242 | omega)) (show (V13 0 93).toInt = (V 0 93).toInt from by (first | exact om_570b691c1130 xlp14_0 | omega)) (show (V13 0 98).toInt = (V 0 98).toInt from by (first | exact om_570b691c1130 xlp14_1 | omega)) (show (V13 0 65).toInt ≤ (V13 0 60).toInt from by (first | exact om_f4906d00fa52 xlp14_2 | omega)) (show (V13 0 73).toInt - (V13 0 65).toInt + (mu V13 : Int) ≤ (V 0 73).toInt - (V 0 65).toInt + (mu V : Int) from by (first | exact om_b48bd8f145a6 xlp14_3 | omega)) (show (V13 0 76).toInt - (V13 0 69).toInt - (V13 0 73).toInt ≤ (V 0 76).toInt - (V 0 69).toInt - (V 0 73).toInt from by (first | exact om_f1910009b5d0 xlp14_4 | omega)) (show z242.toInt + (mu V13 : Int) ≤ (mu V : Int) from by (first | exact om_7d452ad704e8 xlp14_5 hz242 | omega)) xlp14_6 ll245 xlp14_8 ol246 xlp14_10 xlp14_11 (show z243.toInt < (V 0 55).toInt from by (first | exact om_1e2998b5d70c xlp14_12 hz243 | omega)) (by (first | exact om_46f113951c8c hn hz243 | omega)) (agr.tr agr.rf ajV13 (by decide) (by decide)) hMV13 hP hD hS (lv_sub hl [0, 1, 3, 4] rfl)
            · skip
              have f247 : ((V 57 (Int32.toNatClampNeg p0))).toInt = 1 := b_eq rfl (by decide) c236
              refine lv_aload_n hx hb dX12_closeAll_54 rfl (lv_at hl 2 rfl) ?_
              refine va_get (D := D) (ci := 12) (v := .ref (ad 57)) (C := RX12) (T := TX12) (N := 100) hx hb hg inX12 hown hK hP 0 rfl rfl 57 (by decide) (hg _ w1763) (fun _ h9 => h9) rfl dX12_closeAll_55 ?_
              refine lv_iload_n hx hb dX12_closeAll_58 rfl (lv_at hl 0 rfl) ?_
              refine va_iald (D := D) (i := y11) hx hb hK hP 43 42 rfl rfl (i_in (a := y11.toInt) rfl (by (first | exact om_50db416a1bbc r9.2 xlp14_12 f220 | omega))) dX12_closeAll_59 ?_
              refine g_top (v := (V 57 (Int32.toNatClampNeg y11))) (ajV13 57 (Int32.toNatClampNeg y11) rfl) ?_
              refine lv_iconst (v := 2) hx hb dX12_closeAll_60 (by decide) ?_
              refine lv_icmp_ne (tgt := 78) hx hb dX12_closeAll_61 (by decide) (fun c248 => ?_) (fun c248 => ?_)
              · skip
                have f249 : ((V 57 (Int32.toNatClampNeg y11))).toInt ≠ 2 := b_neq rfl (by decide) c248
                refine lv_iconst (v := 0) hx hb dX12_closeAll_78 (by decide) ?_
                refine lv_istore (lv' := [(4, .int 0), (3, .int y11), (2, .int y12), (0, .ref (ad 0)), (1, .int p0)]) hx hb dX12_closeAll_79 hl (by decide) rfl (fun ls hl => ?_)
                refine lv_iload_n hx hb dX12_closeAll_81 rfl (lv_at hl 2 rfl) ?_
                refine lv_iload hx hb dX12_closeAll_82 (lv_at hl 0 rfl) ?_
                refine lv_if_eq (tgt := 95) hx hb dX12_closeAll_84 (by decide) (fun _ => ?_) (fun q => absurd (by decide) q)
                have pq250 : (V13 57 (Int32.toNatClampNeg p0)).toInt = ((V 57 (Int32.toNatClampNeg p0))).toInt := congrArg Int32.toInt (ajV13 57 (Int32.toNatClampNeg p0) rfl)
                have pq251 : (V13 57 (Int32.toNatClampNeg y11)).toInt = ((V 57 (Int32.toNatClampNeg y11))).toInt := congrArg Int32.toInt (ajV13 57 (Int32.toNatClampNeg y11) rfl)
                have pq252 : (V13 58 (Int32.toNatClampNeg y11)).toInt = ((V 58 (Int32.toNatClampNeg y11))).toInt := congrArg Int32.toInt (ajV13 58 (Int32.toNatClampNeg y11) rfl)
                have r253 : (-1) ≤ ((V 58 (Int32.toNatClampNeg y11))).toInt ∧ ((V 58 (Int32.toNatClampNeg y11))).toInt ≤ 39 := hMV 58 (Int32.toNatClampNeg y11)
                have ky9 := i_clamp (x := y11) rfl (by (first | exact om_610a4af05d44 f220 | omega))
                have nc9 : ¬ chd (mV V13 0 0 0) (Int32.toNatClampNeg p0) (Int32.toNatClampNeg y11) := fun h9 => by
                  have h1 : (V13 56 (Int32.toNatClampNeg y11)).toInt ≠ 0 := h9.1
                  rcases h9.2 with h8 | h8
                  · have h2 : (V13 57 (Int32.toNatClampNeg p0)).toInt = 0 := h8.1
                    have h3 : (V13 57 (Int32.toNatClampNeg y11)).toInt = 1 := h8.2
                    omega
                  · have h2 : (V13 57 (Int32.toNatClampNeg p0)).toInt = 1 := h8.1
                    have h3 : (V13 57 (Int32.toNatClampNeg y11)).toInt = 2 := h8.2.1
                    have h4 : (V13 58 (Int32.toNatClampNeg y11)).toInt = (((Int32.toNatClampNeg p0) : Nat) : Int) := h8.2.2
                    omega
                refine lv_iconst (v := 0) hx hb dX12_closeAll_95 (by decide) ?_
                refine lv_iadd hx hb dX12_closeAll_96 ?_
                refine lv_topi (fun z254 ez254 => ?_)
                have hz254 : z254.toInt = y12.toInt + 0 := i_add ez254 rfl (by decide) (by (first | exact om_a191521786d2 klp14_1.1 klp14_1.2 | omega))
                refine lv_istore_n (lv' := [(2, .int z254), (4, .int 0), (3, .int y11), (0, .ref (ad 0)), (1, .int p0)]) hx hb dX12_closeAll_97 rfl hl (by decide) rfl (fun ls hl => ?_)
                obtain ⟨z255, ez255⟩ : ∃ y : Int32, y = y11 + (-1) := ⟨_, rfl⟩
                have hz255 : z255.toInt = y11.toInt + (-1) := i_add ez255 rfl (by decide) (by (first | exact om_38bbca15f2be klp14_0.2 f220 | omega))
                refine lv_iinc (v := z255) (lv' := [(3, .int z255), (2, .int z254), (4, .int 0), (0, .ref (ad 0)), (1, .int p0)]) hx hb dX12_closeAll_98 hl (k := 2) rfl (by rw [ez255]; rfl) (by decide) rfl (fun ls hl => ?_)
                refine lv_goto (tgt := 9) hx hb dX12_closeAll_101 (by decide) ?_
                have r256 : Int32.toInt 0 = 0 := by decide
                have ll257 : (∃ k9 : Nat, CLs gB (V 0 55).toInt.toNat gsc k9 (mV V 0 0 0, (V 0 99).toInt, gcc) (mV V13 0 0 0, (V13 0 99).toInt, gcc + z254.toInt) ∧ (k9 : Int) + (mu V13 : Int) + (opc V13 40 : Int) ≤ (mu V : Int) + (opc V 40 : Int)) := by have h9 := xlp14_7; rw [show gcc + z254.toInt = gcc + y12.toInt from by omega]; exact h9
                have ol258 : ∀ j : Nat, z255.toInt < (j : Int) → j < (V 0 55).toInt.toNat → ¬ chd (mV V13 0 0 0) (Int32.toNatClampNeg p0) j := fun j9 h1 h2 => by
                  have ky9 := i_clamp (x := y11) rfl (by (first | exact om_610a4af05d44 f220 | omega))
                  by_cases q9 : j9 = (Int32.toNatClampNeg y11)
                  · exact fun h9 => by rw [q9] at h9; exact nc9 h9
                  · exact xlp14_9 j9 (by omega) h2
                exact ihlp14 z255 z254 V13 H locs ls (by (first | exact om_0934def82ed5 klp14_0.2 f220 hz255 | omega)) (by (first | exact om_101a603fc44b klp14_1.1 klp14_1.2 hz254 | omega)) (show (V13 0 93).toInt = (V 0 93).toInt from by (first | exact om_570b691c1130 xlp14_0 | omega)) (show (V13 0 98).toInt = (V 0 98).toInt from by (first | exact om_570b691c1130 xlp14_1 | omega)) (show (V13 0 65).toInt ≤ (V13 0 60).toInt from by (first | exact om_f4906d00fa52 xlp14_2 | omega)) (show (V13 0 73).toInt - (V13 0 65).toInt + (mu V13 : Int) ≤ (V 0 73).toInt - (V 0 65).toInt + (mu V : Int) from by (first | exact om_b48bd8f145a6 xlp14_3 | omega)) (show (V13 0 76).toInt - (V13 0 69).toInt - (V13 0 73).toInt ≤ (V 0 76).toInt - (V 0 69).toInt - (V 0 73).toInt from by (first | exact om_f1910009b5d0 xlp14_4 | omega)) (show z254.toInt + (mu V13 : Int) ≤ (mu V : Int) from by (first | exact om_7d452ad704e8 xlp14_5 hz254 | omega)) xlp14_6 ll257 xlp14_8 ol258 xlp14_10 xlp14_11 (show z255.toInt < (V 0 55).toInt from by (first | exact om_1e2998b5d70c xlp14_12 hz255 | omega)) (by (first | exact om_46f113951c8c hn hz255 | omega)) (agr.tr agr.rf ajV13 (by decide) (by decide)) hMV13 hP hD hS (lv_sub hl [0, 1, 3, 4] rfl)
              · skip
                have f259 : ((V 57 (Int32.toNatClampNeg y11))).toInt = 2 := b_eq rfl (by decide) c248
                refine lv_aload_n hx hb dX12_closeAll_64 rfl (lv_at hl 2 rfl) ?_
                refine va_get (D := D) (ci := 12) (v := .ref (ad 58)) (C := RX12) (T := TX12) (N := 100) hx hb hg inX12 hown hK hP 0 rfl rfl 58 (by decide) (hg _ w1764) (fun _ h9 => h9) rfl dX12_closeAll_65 ?_
                refine lv_iload_n hx hb dX12_closeAll_68 rfl (lv_at hl 0 rfl) ?_
                refine va_iald (D := D) (i := y11) hx hb hK hP 44 43 rfl rfl (i_in (a := y11.toInt) rfl (by (first | exact om_50db416a1bbc r9.2 xlp14_12 f220 | omega))) dX12_closeAll_69 ?_
                refine g_top (v := (V 58 (Int32.toNatClampNeg y11))) (ajV13 58 (Int32.toNatClampNeg y11) rfl) ?_
                have r260 : (-1) ≤ ((V 58 (Int32.toNatClampNeg y11))).toInt ∧ ((V 58 (Int32.toNatClampNeg y11))).toInt ≤ 39 := hMV 58 (Int32.toNatClampNeg y11)
                refine lv_iload_n hx hb dX12_closeAll_70 rfl (lv_at hl 3 rfl) ?_
                refine lv_icmp_ne (tgt := 78) hx hb dX12_closeAll_71 (by decide) (fun c261 => ?_) (fun c261 => ?_)
                · skip
                  have f262 : ((V 58 (Int32.toNatClampNeg y11))).toInt ≠ p0.toInt := b_neq rfl rfl c261
                  refine lv_iconst (v := 0) hx hb dX12_closeAll_78 (by decide) ?_
                  refine lv_istore (lv' := [(4, .int 0), (3, .int y11), (2, .int y12), (0, .ref (ad 0)), (1, .int p0)]) hx hb dX12_closeAll_79 hl (by decide) rfl (fun ls hl => ?_)
                  refine lv_iload_n hx hb dX12_closeAll_81 rfl (lv_at hl 2 rfl) ?_
                  refine lv_iload hx hb dX12_closeAll_82 (lv_at hl 0 rfl) ?_
                  refine lv_if_eq (tgt := 95) hx hb dX12_closeAll_84 (by decide) (fun _ => ?_) (fun q => absurd (by decide) q)
                  have pq263 : (V13 57 (Int32.toNatClampNeg p0)).toInt = ((V 57 (Int32.toNatClampNeg p0))).toInt := congrArg Int32.toInt (ajV13 57 (Int32.toNatClampNeg p0) rfl)
                  have pq264 : (V13 57 (Int32.toNatClampNeg y11)).toInt = ((V 57 (Int32.toNatClampNeg y11))).toInt := congrArg Int32.toInt (ajV13 57 (Int32.toNatClampNeg y11) rfl)
                  have pq265 : (V13 58 (Int32.toNatClampNeg y11)).toInt = ((V 58 (Int32.toNatClampNeg y11))).toInt := congrArg Int32.toInt (ajV13 58 (Int32.toNatClampNeg y11) rfl)
                  have ky9 := i_clamp (x := y11) rfl (by (first | exact om_610a4af05d44 f220 | omega))
                  have nc9 : ¬ chd (mV V13 0 0 0) (Int32.toNatClampNeg p0) (Int32.toNatClampNeg y11) := fun h9 => by
                    have h1 : (V13 56 (Int32.toNatClampNeg y11)).toInt ≠ 0 := h9.1
                    rcases h9.2 with h8 | h8
                    · have h2 : (V13 57 (Int32.toNatClampNeg p0)).toInt = 0 := h8.1
                      have h3 : (V13 57 (Int32.toNatClampNeg y11)).toInt = 1 := h8.2
                      omega
                    · have h2 : (V13 57 (Int32.toNatClampNeg p0)).toInt = 1 := h8.1
                      have h3 : (V13 57 (Int32.toNatClampNeg y11)).toInt = 2 := h8.2.1
                      have h4 : (V13 58 (Int32.toNatClampNeg y11)).toInt = (((Int32.toNatClampNeg p0) : Nat) : Int) := h8.2.2
                      omega
                  refine lv_iconst (v := 0) hx hb dX12_closeAll_95 (by decide) ?_
                  refine lv_iadd hx hb dX12_closeAll_96 ?_
                  refine lv_topi (fun z266 ez266 => ?_)
                  have hz266 : z266.toInt = y12.toInt + 0 := i_add ez266 rfl (by decide) (by (first | exact om_a191521786d2 klp14_1.1 klp14_1.2 | omega))
                  refine lv_istore_n (lv' := [(2, .int z266), (4, .int 0), (3, .int y11), (0, .ref (ad 0)), (1, .int p0)]) hx hb dX12_closeAll_97 rfl hl (by decide) rfl (fun ls hl => ?_)
                  obtain ⟨z267, ez267⟩ : ∃ y : Int32, y = y11 + (-1) := ⟨_, rfl⟩
                  have hz267 : z267.toInt = y11.toInt + (-1) := i_add ez267 rfl (by decide) (by (first | exact om_38bbca15f2be klp14_0.2 f220 | omega))
                  refine lv_iinc (v := z267) (lv' := [(3, .int z267), (2, .int z266), (4, .int 0), (0, .ref (ad 0)), (1, .int p0)]) hx hb dX12_closeAll_98 hl (k := 2) rfl (by rw [ez267]; rfl) (by decide) rfl (fun ls hl => ?_)
                  refine lv_goto (tgt := 9) hx hb dX12_closeAll_101 (by decide) ?_
                  have r268 : Int32.toInt 0 = 0 := by decide
                  have ll269 : (∃ k9 : Nat, CLs gB (V 0 55).toInt.toNat gsc k9 (mV V 0 0 0, (V 0 99).toInt, gcc) (mV V13 0 0 0, (V13 0 99).toInt, gcc + z266.toInt) ∧ (k9 : Int) + (mu V13 : Int) + (opc V13 40 : Int) ≤ (mu V : Int) + (opc V 40 : Int)) := by have h9 := xlp14_7; rw [show gcc + z266.toInt = gcc + y12.toInt from by omega]; exact h9
                  have ol270 : ∀ j : Nat, z267.toInt < (j : Int) → j < (V 0 55).toInt.toNat → ¬ chd (mV V13 0 0 0) (Int32.toNatClampNeg p0) j := fun j9 h1 h2 => by
                    have ky9 := i_clamp (x := y11) rfl (by (first | exact om_610a4af05d44 f220 | omega))
                    by_cases q9 : j9 = (Int32.toNatClampNeg y11)
                    · exact fun h9 => by rw [q9] at h9; exact nc9 h9
                    · exact xlp14_9 j9 (by omega) h2
                  exact ihlp14 z267 z266 V13 H locs ls (by (first | exact om_0934def82ed5 klp14_0.2 f220 hz267 | omega)) (by (first | exact om_101a603fc44b klp14_1.1 klp14_1.2 hz266 | omega)) (show (V13 0 93).toInt = (V 0 93).toInt from by (first | exact om_570b691c1130 xlp14_0 | omega)) (show (V13 0 98).toInt = (V 0 98).toInt from by (first | exact om_570b691c1130 xlp14_1 | omega)) (show (V13 0 65).toInt ≤ (V13 0 60).toInt from by (first | exact om_f4906d00fa52 xlp14_2 | omega)) (show (V13 0 73).toInt - (V13 0 65).toInt + (mu V13 : Int) ≤ (V 0 73).toInt - (V 0 65).toInt + (mu V : Int) from by (first | exact om_b48bd8f145a6 xlp14_3 | omega)) (show (V13 0 76).toInt - (V13 0 69).toInt - (V13 0 73).toInt ≤ (V 0 76).toInt - (V 0 69).toInt - (V 0 73).toInt from by (first | exact om_f1910009b5d0 xlp14_4 | omega)) (show z266.toInt + (mu V13 : Int) ≤ (mu V : Int) from by (first | exact om_7d452ad704e8 xlp14_5 hz266 | omega)) xlp14_6 ll269 xlp14_8 ol270 xlp14_10 xlp14_11 (show z267.toInt < (V 0 55).toInt from by (first | exact om_1e2998b5d70c xlp14_12 hz267 | omega)) (by (first | exact om_46f113951c8c hn hz267 | omega)) (agr.tr agr.rf ajV13 (by decide) (by decide)) hMV13 hP hD hS (lv_sub hl [0, 1, 3, 4] rfl)
                · skip
                  have f271 : ((V 58 (Int32.toNatClampNeg y11))).toInt = p0.toInt := b_eq rfl rfl c261
                  refine lv_iconst (v := 1) hx hb dX12_closeAll_74 (by decide) ?_
                  refine lv_goto (tgt := 79) hx hb dX12_closeAll_75 (by decide) ?_
                  refine lv_istore (lv' := [(4, .int 1), (3, .int y11), (2, .int y12), (0, .ref (ad 0)), (1, .int p0)]) hx hb dX12_closeAll_79 hl (by decide) rfl (fun ls hl => ?_)
                  refine lv_iload_n hx hb dX12_closeAll_81 rfl (lv_at hl 2 rfl) ?_
                  refine lv_iload hx hb dX12_closeAll_82 (lv_at hl 0 rfl) ?_
                  refine lv_if_eq (tgt := 95) hx hb dX12_closeAll_84 (by decide) (fun q => absurd q (by decide)) (fun _ => ?_)
                  obtain ⟨d9, hd9⟩ : ∃ d9, d3 = d9 + 1 := ⟨d3 - 1, by omega⟩
                  have ky9 := i_clamp (x := y11) rfl (by (first | exact om_610a4af05d44 f220 | omega))
                  have pq272 : (V13 57 (Int32.toNatClampNeg p0)).toInt = ((V 57 (Int32.toNatClampNeg p0))).toInt := congrArg Int32.toInt (ajV13 57 (Int32.toNatClampNeg p0) rfl)
                  have pq273 : (V13 57 (Int32.toNatClampNeg y11)).toInt = ((V 57 (Int32.toNatClampNeg y11))).toInt := congrArg Int32.toInt (ajV13 57 (Int32.toNatClampNeg y11) rfl)
                  have pq274 : (V13 58 (Int32.toNatClampNeg y11)).toInt = ((V 58 (Int32.toNatClampNeg y11))).toInt := congrArg Int32.toInt (ajV13 58 (Int32.toNatClampNeg y11) rfl)
                  have ch9 : chd (mV V13 0 0 0) (Int32.toNatClampNeg p0) (Int32.toNatClampNeg y11) := ⟨(show (V13 56 (Int32.toNatClampNeg y11)).toInt ≠ 0 from by (first | exact om_dc4480632432 r221.1 f233 | omega)), Or.inr ⟨(show (V13 57 (Int32.toNatClampNeg p0)).toInt = 1 from by (first | exact om_ed616bc53b7b f247 pq272 | omega)), (show (V13 57 (Int32.toNatClampNeg y11)).toInt = 2 from by (first | exact om_cb23ae8fe0b3 f259 pq273 | omega)), (show (V13 58 (Int32.toNatClampNeg y11)).toInt = (((Int32.toNatClampNeg p0) : Nat) : Int) from by (first | exact om_749ef7bb545c kp9 f271 pq274 | omega))⟩⟩
                  have ns9 : (V13 0 55).toInt.toNat = (V 0 55).toInt.toNat := by rw [(ajV13 0 55 rfl)]
                  have scv : SCm (mV V13 0 0 0) (V 0 55).toInt.toNat := SCm.op scq xlp14_8 (fun j9 => (show agr [(0, 60), (0, 65), (0, 68), (0, 69), (0, 73), (0, 76), (0, 90), (0, 91), (0, 92), (0, 93), (0, 95), (0, 96), (0, 98), (0, 99)] [56, 59, 61, 62, 63, 64, 66, 67, 74, 75, 77, 78, 79, 80, 94, 97] V V13 from (agr.tr agr.rf ajV13 (by decide) (by decide))) 57 j9 rfl) (fun j9 => (show agr [(0, 60), (0, 65), (0, 68), (0, 69), (0, 73), (0, 76), (0, 90), (0, 91), (0, 92), (0, 93), (0, 95), (0, 96), (0, 98), (0, 99)] [56, 59, 61, 62, 63, 64, 66, 67, 74, 75, 77, 78, 79, 80, 94, 97] V V13 from (agr.tr agr.rf ajV13 (by decide) (by decide))) 58 j9 rfl) h57
                  have ptv : PTH (mV V13 0 0 0) (V 0 55).toInt.toNat (Int32.toNatClampNeg y11) gsc := PTH.dn scv (by omega) xlp14_10 (by (first | exact om_ddae691e5635 f220 ky9 | omega)) (by (first | exact om_b7852f6eb571 xlp14_12 ky9 | omega)) ch9 (fun j9 h1 h2 => xlp14_9 j9 (by omega) h2)
                  have kg9 : (V 57 gsc.toNat).toInt ≤ (V 57 (Int32.toNatClampNeg p0)).toInt := by rcases kd9 with h9 | h9; (rw [h9]; exact Int.le_refl _); omega
                  have opv : (V13 56 gsc.toNat).toInt = 1 := by rw [xlp14_8.1 _ kg9]; exact op1
                  have kdv : gsc.toNat = (Int32.toNatClampNeg y11) ∨ (V13 57 gsc.toNat).toInt < (V13 57 (Int32.toNatClampNeg y11)).toInt := Or.inr (by rw [(fun j9 => (show agr [(0, 60), (0, 65), (0, 68), (0, 69), (0, 73), (0, 76), (0, 90), (0, 91), (0, 92), (0, 93), (0, 95), (0, 96), (0, 98), (0, 99)] [56, 59, 61, 62, 63, 64, 66, 67, 74, 75, 77, 78, 79, 80, 94, 97] V V13 from (agr.tr agr.rf ajV13 (by decide) (by decide))) 57 j9 rfl) gsc.toNat]; omega)
                  refine lv_aload_n hx hb dX12_closeAll_87 rfl (lv_at hl 3 rfl) ?_
                  refine lv_iload_n hx hb dX12_closeAll_88 rfl (lv_at hl 1 rfl) ?_
                  refine gA_int (gA_runV (As := [.int y11]) (rest := [.int y12]) (ci := 12) (q0 := 0) hx hb hml hown hg hP hD hK hS hA hnw hgk ((hk_s_closeAllD d9 hd9) H.size ad kk V13 L y11 (gB) (grk) (gsc) ((gcc + y12.toInt)) hMV13 (by omega) xlp14_6 (show (V13 0 65).toInt ≤ (V13 0 60).toInt from by (first | exact om_f4906d00fa52 xlp14_2 | omega)) (show (V13 0 73).toInt - (V13 0 65).toInt + (mu V13 : Int) ≤ 998000 from by (first | exact om_5971fd7e692b n3 xlp14_3 | omega)) (show (V13 0 76).toInt - (V13 0 69).toInt - (V13 0 73).toInt ≤ 1000000000 from by (first | exact om_4f2a7ae89657 n4 xlp14_4 | omega)) (show (V13 0 98).toInt = 0 from by (first | exact om_36161e850215 m5 xlp14_1 | omega)) (show (V13 0 93).toInt = 0 from by (first | exact om_36161e850215 m6 xlp14_0 | omega)) (show 2 ≤ ((d9 : Nat) : Int) ∨ ((V13 57 (Int32.toNatClampNeg y11)).toInt ≠ 0 ∧ (1 ≤ ((d9 : Nat) : Int) ∨ (V13 57 (Int32.toNatClampNeg y11)).toInt ≠ 1)) from by omega) (fun h9 => ⟨BKm.ag (bkq (by have h8 := (ajV13 0 54 rfl); rw [h8] at h9; exact h9)).1 (show agr [(0, 60), (0, 65), (0, 68), (0, 69), (0, 73), (0, 76), (0, 90), (0, 91), (0, 92), (0, 93), (0, 95), (0, 96), (0, 98), (0, 99)] [56, 59, 61, 62, 63, 64, 66, 67, 74, 75, 77, 78, 79, 80, 94, 97] V V13 from (agr.tr agr.rf ajV13 (by decide) (by decide))) (by decide), (bkq (by have h8 := (ajV13 0 54 rfl); rw [h8] at h9; exact h9)).2.1, xlp14_11 h9⟩) (by rw [ns9]; exact scv) (by rw [ns9]; exact ptv) (show (V13 56 (Int32.toNatClampNeg y11)).toInt = 1 from by (first | exact om_2ebe32d50835 r221.1 r221.2 f233 | omega)) opv (show 0 ≤ (gsc) ∧ (gsc) < (V13 0 55).toInt from by (first | exact om_468cbb7a04cb sc0.1 sc0.2 pq22 | omega)) (show y11.toInt < (V13 0 55).toInt from by (first | exact om_ad53b8b0928c xlp14_12 pq22 | omega)) kdv) w2344 w2346 w153 w172 w2347 rfl rfl hdV_yX12_closeAll ⟨(by show (2 * (d9) + 1616) + 1 ≤ (2 * d3 + 1616); omega), (by show 8 + (5 + 11) + (40 * (d9) + 40600) ≤ (40 * d3 + 40600); omega)⟩ rfl hl.1 rfl (Nat.le_of_ble_eq_true rfl) dX12_closeAll_89 ⟨Nat.le_of_ble_eq_true rfl, Nat.le_of_ble_eq_true rfl⟩) hP hD hK hS hA (fun z275 u276 H locs w277 hP hD hK hS => ?_)
                  obtain ⟨V288, L289⟩ := u276
                  obtain ⟨hMV288, ajV288, axL289, rgz275, t278, t279, t280, t281, t282, t283, t284, t285, t286, t287⟩ := w277
                  have axL289 : L = L289 := Eq.symm axL289
                  subst axL289
                  have hP : va_P D vwCl (mw ad kk ks.1 V288 L) H := hP
                  have hD : va_D A (mw ad kk ks.1 V288 L) := hD
                  have hMV288 : rgd bM V288 := hMV288
                  have ajV288 : agr [(0, 60), (0, 65), (0, 68), (0, 69), (0, 73), (0, 76), (0, 90), (0, 91), (0, 92), (0, 93), (0, 95), (0, 96), (0, 98), (0, 99)] [56, 59, 61, 62, 63, 64, 66, 67, 74, 75, 77, 78, 79, 80, 94, 97] V13 V288 := ajV288
                  have agV288 : agr [(0, 60), (0, 65), (0, 68), (0, 69), (0, 73), (0, 76), (0, 90), (0, 91), (0, 92), (0, 93), (0, 95), (0, 96), (0, 98), (0, 99)] [56, 59, 61, 62, 63, 64, 66, 67, 74, 75, 77, 78, 79, 80, 94, 97] V V288 := agV13.tr ajV288 (by decide) (by decide)
                  have rgz275 : 0 ≤ z275.toInt ∧ z275.toInt ≤ 300 := rgz275
                  have t278 : (V288 0 93).toInt = (V13 0 93).toInt := t278
                  have t279 : (V288 0 98).toInt = (V13 0 98).toInt := t279
                  have t280 : (V288 0 65).toInt ≤ (V288 0 60).toInt := t280
                  have t281 : (V288 0 73).toInt - (V288 0 65).toInt + (mu V288 : Int) ≤ (V13 0 73).toInt - (V13 0 65).toInt + (mu V13 : Int) := t281
                  have t282 : (V288 0 76).toInt - (V288 0 69).toInt - (V288 0 73).toInt ≤ (V13 0 76).toInt - (V13 0 69).toInt - (V13 0 73).toInt := t282
                  have t283 : RT0 V288 := t283
                  have t284 : z275.toInt + (mu V288 : Int) ≤ (mu V13 : Int) := t284
                  have t285 : ∃ k9 : Nat, CLs (gB) (V13 0 55).toInt.toNat (gsc) k9 (mV V13 0 0 0, (V13 0 99).toInt, ((gcc + y12.toInt))) ((if (Int32.toNatClampNeg y11) = 0 then mU (mV V288 0 0 0) 11 0 0 else mV V288 0 0 0), (V288 0 99).toInt, ((gcc + y12.toInt)) + z275.toInt) ∧ (k9 : Int) + (mu V288 : Int) + (opc V288 40 : Int) ≤ (mu V13 : Int) + (opc V13 40 : Int) + (if (Int32.toNatClampNeg y11) = 0 then 1 else 0) := t285
                  have t286 : OPk V13 V288 (Int32.toNatClampNeg y11) := t286
                  have t287 : (V288 0 54).toInt = 1 → RJm V288 (gB) := t287
                  have r290 : 0 ≤ ((V288 0 93)).toInt ∧ ((V288 0 93)).toInt ≤ 10 := hMV288 0 93
                  have r291 : 0 ≤ ((V288 0 98)).toInt ∧ ((V288 0 98)).toInt ≤ 20000 := hMV288 0 98
                  have r292 : 0 ≤ ((V288 0 65)).toInt ∧ ((V288 0 65)).toInt ≤ 1000000 := hMV288 0 65
                  have r293 : 0 ≤ ((V288 0 60)).toInt ∧ ((V288 0 60)).toInt ≤ 300 := hMV288 0 60
                  have r294 : 0 ≤ ((V288 0 73)).toInt ∧ ((V288 0 73)).toInt ≤ 1000000 := hMV288 0 73
                  have r295 : 0 ≤ ((V288 0 76)).toInt ∧ ((V288 0 76)).toInt ≤ 2000000000 := hMV288 0 76
                  have r296 : 0 ≤ ((V288 0 69)).toInt ∧ ((V288 0 69)).toInt ≤ 3000 := hMV288 0 69
                  have ml297 := mu_le (hMV288 0 60).2
                  refine lv_goto (tgt := 96) hx hb dX12_closeAll_92 (by decide) ?_
                  refine lv_iadd hx hb dX12_closeAll_96 ?_
                  refine lv_topi (fun z298 ez298 => ?_)
                  have hz298 : z298.toInt = y12.toInt + z275.toInt := i_add ez298 rfl rfl (by (first | exact om_8e0e521f4f2b klp14_1.1 klp14_1.2 rgz275.1 rgz275.2 | omega))
                  refine lv_istore_n (lv' := [(2, .int z298), (4, .int 1), (3, .int y11), (0, .ref (ad 0)), (1, .int p0)]) hx hb dX12_closeAll_97 rfl hl (by decide) rfl (fun ls hl => ?_)
                  obtain ⟨z299, ez299⟩ : ∃ y : Int32, y = y11 + (-1) := ⟨_, rfl⟩
                  have hz299 : z299.toInt = y11.toInt + (-1) := i_add ez299 rfl (by decide) (by (first | exact om_38bbca15f2be klp14_0.2 f220 | omega))
                  refine lv_iinc (v := z299) (lv' := [(3, .int z299), (2, .int z298), (4, .int 1), (0, .ref (ad 0)), (1, .int p0)]) hx hb dX12_closeAll_98 hl (k := 2) rfl (by rw [ez299]; rfl) (by decide) rfl (fun ls hl => ?_)
                  refine lv_goto (tgt := 9) hx hb dX12_closeAll_101 (by decide) ?_
                  have r300 : Int32.toInt 1 = 1 := by decide
                  have ll301 : (∃ k9 : Nat, CLs gB (V 0 55).toInt.toNat gsc k9 (mV V 0 0 0, (V 0 99).toInt, gcc) (mV V288 0 0 0, (V288 0 99).toInt, gcc + z298.toInt) ∧ (k9 : Int) + (mu V288 : Int) + (opc V288 40 : Int) ≤ (mu V : Int) + (opc V 40 : Int)) := by
                    obtain ⟨k9, c1, b1⟩ := xlp14_7
                    obtain ⟨k8, c2, b2⟩ := t285
                    rw [if_neg (show ¬ (Int32.toNatClampNeg y11) = 0 from by (first | exact om_5059a367e50e f220 ky9 | omega))] at c2 b2
                    rw [ns9] at c2
                    exact ⟨k9 + k8, by have h9 := CLs.tr k9 k8 c1 c2; rw [show gcc + z298.toInt = gcc + y12.toInt + z275.toInt from by omega]; exact h9, by omega⟩
                  have ol302 : OPl V V288 (Int32.toNatClampNeg p0) := OPl.tr xlp14_8 t286 (fun j9 => (show agr [(0, 60), (0, 65), (0, 68), (0, 69), (0, 73), (0, 76), (0, 90), (0, 91), (0, 92), (0, 93), (0, 95), (0, 96), (0, 98), (0, 99)] [56, 59, 61, 62, 63, 64, 66, 67, 74, 75, 77, 78, 79, 80, 94, 97] V V13 from (agr.tr agr.rf ajV13 (by decide) (by decide))) 57 j9 rfl) (by rcases ch9.2 with h9 | h9; (have h1 : (V13 57 (Int32.toNatClampNeg p0)).toInt = 0 := h9.1; have h2 : (V13 57 (Int32.toNatClampNeg y11)).toInt = 1 := h9.2; rw [(fun j9 => (show agr [(0, 60), (0, 65), (0, 68), (0, 69), (0, 73), (0, 76), (0, 90), (0, 91), (0, 92), (0, 93), (0, 95), (0, 96), (0, 98), (0, 99)] [56, 59, 61, 62, 63, 64, 66, 67, 74, 75, 77, 78, 79, 80, 94, 97] V V13 from (agr.tr agr.rf ajV13 (by decide) (by decide))) 57 j9 rfl) (Int32.toNatClampNeg p0)] at h1; rw [(fun j9 => (show agr [(0, 60), (0, 65), (0, 68), (0, 69), (0, 73), (0, 76), (0, 90), (0, 91), (0, 92), (0, 93), (0, 95), (0, 96), (0, 98), (0, 99)] [56, 59, 61, 62, 63, 64, 66, 67, 74, 75, 77, 78, 79, 80, 94, 97] V V13 from (agr.tr agr.rf ajV13 (by decide) (by decide))) 57 j9 rfl) (Int32.toNatClampNeg y11)] at h2; omega); (have h1 : (V13 57 (Int32.toNatClampNeg p0)).toInt = 1 := h9.1; have h2 : (V13 57 (Int32.toNatClampNeg y11)).toInt = 2 := h9.2.1; rw [(fun j9 => (show agr [(0, 60), (0, 65), (0, 68), (0, 69), (0, 73), (0, 76), (0, 90), (0, 91), (0, 92), (0, 93), (0, 95), (0, 96), (0, 98), (0, 99)] [56, 59, 61, 62, 63, 64, 66, 67, 74, 75, 77, 78, 79, 80, 94, 97] V V13 from (agr.tr agr.rf ajV13 (by decide) (by decide))) 57 j9 rfl) (Int32.toNatClampNeg p0)] at h1; rw [(fun j9 => (show agr [(0, 60), (0, 65), (0, 68), (0, 69), (0, 73), (0, 76), (0, 90), (0, 91), (0, 92), (0, 93), (0, 95), (0, 96), (0, 98), (0, 99)] [56, 59, 61, 62, 63, 64, 66, 67, 74, 75, 77, 78, 79, 80, 94, 97] V V13 from (agr.tr agr.rf ajV13 (by decide) (by decide))) 57 j9 rfl) (Int32.toNatClampNeg y11)] at h2; omega)) (by (first | exact om_6f696e9b6860 f220 ky9 | omega)) (by (first | exact om_5c930946990c z57 f247 | omega))
                  have ol303 : ∀ j : Nat, z299.toInt < (j : Int) → j < (V 0 55).toInt.toNat → ¬ chd (mV V288 0 0 0) (Int32.toNatClampNeg p0) j := fun j9 h1 h2 => by
                    by_cases q9 : j9 = (Int32.toNatClampNeg y11)
                    · exact fun h9 => absurd (by rw [q9]; exact (t286.2.2.trans (if_neg (by omega)))) h9.1
                    · exact fun h9 => xlp14_9 j9 (by omega) h2 (chd.mv h9 (((t286).2.1 j9).imp id (fun h8 => h8.resolve_right (by omega))) (fun i9 => (show agr [(0, 60), (0, 65), (0, 68), (0, 69), (0, 73), (0, 76), (0, 90), (0, 91), (0, 92), (0, 93), (0, 95), (0, 96), (0, 98), (0, 99)] [56, 59, 61, 62, 63, 64, 66, 67, 74, 75, 77, 78, 79, 80, 94, 97] V13 V288 from (agr.tr agr.rf ajV288 (by decide) (by decide))) 57 i9 rfl) (fun i9 => (show agr [(0, 60), (0, 65), (0, 68), (0, 69), (0, 73), (0, 76), (0, 90), (0, 91), (0, 92), (0, 93), (0, 95), (0, 96), (0, 98), (0, 99)] [56, 59, 61, 62, 63, 64, 66, 67, 74, 75, 77, 78, 79, 80, 94, 97] V13 V288 from (agr.tr agr.rf ajV288 (by decide) (by decide))) 58 i9 rfl))
                  have ol305 : OPl V V288 (Int32.toNatClampNeg p0) := OPl.tr xlp14_8 t286 (fun j9 => (show agr [(0, 60), (0, 65), (0, 68), (0, 69), (0, 73), (0, 76), (0, 90), (0, 91), (0, 92), (0, 93), (0, 95), (0, 96), (0, 98), (0, 99)] [56, 59, 61, 62, 63, 64, 66, 67, 74, 75, 77, 78, 79, 80, 94, 97] V V13 from (agr.tr agr.rf ajV13 (by decide) (by decide))) 57 j9 rfl) (by rcases ch9.2 with h9 | h9; (have h1 : (V13 57 (Int32.toNatClampNeg p0)).toInt = 0 := h9.1; have h2 : (V13 57 (Int32.toNatClampNeg y11)).toInt = 1 := h9.2; rw [(fun j9 => (show agr [(0, 60), (0, 65), (0, 68), (0, 69), (0, 73), (0, 76), (0, 90), (0, 91), (0, 92), (0, 93), (0, 95), (0, 96), (0, 98), (0, 99)] [56, 59, 61, 62, 63, 64, 66, 67, 74, 75, 77, 78, 79, 80, 94, 97] V V13 from (agr.tr agr.rf ajV13 (by decide) (by decide))) 57 j9 rfl) (Int32.toNatClampNeg p0)] at h1; rw [(fun j9 => (show agr [(0, 60), (0, 65), (0, 68), (0, 69), (0, 73), (0, 76), (0, 90), (0, 91), (0, 92), (0, 93), (0, 95), (0, 96), (0, 98), (0, 99)] [56, 59, 61, 62, 63, 64, 66, 67, 74, 75, 77, 78, 79, 80, 94, 97] V V13 from (agr.tr agr.rf ajV13 (by decide) (by decide))) 57 j9 rfl) (Int32.toNatClampNeg y11)] at h2; omega); (have h1 : (V13 57 (Int32.toNatClampNeg p0)).toInt = 1 := h9.1; have h2 : (V13 57 (Int32.toNatClampNeg y11)).toInt = 2 := h9.2.1; rw [(fun j9 => (show agr [(0, 60), (0, 65), (0, 68), (0, 69), (0, 73), (0, 76), (0, 90), (0, 91), (0, 92), (0, 93), (0, 95), (0, 96), (0, 98), (0, 99)] [56, 59, 61, 62, 63, 64, 66, 67, 74, 75, 77, 78, 79, 80, 94, 97] V V13 from (agr.tr agr.rf ajV13 (by decide) (by decide))) 57 j9 rfl) (Int32.toNatClampNeg p0)] at h1; rw [(fun j9 => (show agr [(0, 60), (0, 65), (0, 68), (0, 69), (0, 73), (0, 76), (0, 90), (0, 91), (0, 92), (0, 93), (0, 95), (0, 96), (0, 98), (0, 99)] [56, 59, 61, 62, 63, 64, 66, 67, 74, 75, 77, 78, 79, 80, 94, 97] V V13 from (agr.tr agr.rf ajV13 (by decide) (by decide))) 57 j9 rfl) (Int32.toNatClampNeg y11)] at h2; omega)) (by (first | exact om_6f696e9b6860 f220 ky9 | omega)) (by (first | exact om_5c930946990c z57 f247 | omega))
                  have pt304 : PTH (mV V288 0 0 0) (V 0 55).toInt.toNat (Int32.toNatClampNeg p0) gsc := PTH.op scq pth ol305 (by rcases ch9.2 with h9 | h9; (have h1 : (V13 57 (Int32.toNatClampNeg p0)).toInt = 0 := h9.1; rw [(fun j9 => (show agr [(0, 60), (0, 65), (0, 68), (0, 69), (0, 73), (0, 76), (0, 90), (0, 91), (0, 92), (0, 93), (0, 95), (0, 96), (0, 98), (0, 99)] [56, 59, 61, 62, 63, 64, 66, 67, 74, 75, 77, 78, 79, 80, 94, 97] V V13 from (agr.tr agr.rf ajV13 (by decide) (by decide))) 57 j9 rfl) (Int32.toNatClampNeg p0)] at h1; omega); (have h1 : (V13 57 (Int32.toNatClampNeg p0)).toInt = 1 := h9.1; rw [(fun j9 => (show agr [(0, 60), (0, 65), (0, 68), (0, 69), (0, 73), (0, 76), (0, 90), (0, 91), (0, 92), (0, 93), (0, 95), (0, 96), (0, 98), (0, 99)] [56, 59, 61, 62, 63, 64, 66, 67, 74, 75, 77, 78, 79, 80, 94, 97] V V13 from (agr.tr agr.rf ajV13 (by decide) (by decide))) 57 j9 rfl) (Int32.toNatClampNeg p0)] at h1; omega)) (fun j9 => (show agr [(0, 60), (0, 65), (0, 68), (0, 69), (0, 73), (0, 76), (0, 90), (0, 91), (0, 92), (0, 93), (0, 95), (0, 96), (0, 98), (0, 99)] [56, 59, 61, 62, 63, 64, 66, 67, 74, 75, 77, 78, 79, 80, 94, 97] V V288 from (agr.tr (agr.tr agr.rf ajV13 (by decide) (by decide)) ajV288 (by decide) (by decide))) 57 j9 rfl) (fun j9 => (show agr [(0, 60), (0, 65), (0, 68), (0, 69), (0, 73), (0, 76), (0, 90), (0, 91), (0, 92), (0, 93), (0, 95), (0, 96), (0, 98), (0, 99)] [56, 59, 61, 62, 63, 64, 66, 67, 74, 75, 77, 78, 79, 80, 94, 97] V V288 from (agr.tr (agr.tr agr.rf ajV13 (by decide) (by decide)) ajV288 (by decide) (by decide))) 58 j9 rfl)
                  exact ihlp14 z299 z298 V288 H locs ls (by (first | exact om_0934def82ed5 klp14_0.2 f220 hz299 | omega)) (by omega) (show (V288 0 93).toInt = (V 0 93).toInt from by (first | exact om_cd7d0a6a31bc xlp14_0 t278 | omega)) (show (V288 0 98).toInt = (V 0 98).toInt from by (first | exact om_cd7d0a6a31bc xlp14_1 t279 | omega)) (show (V288 0 65).toInt ≤ (V288 0 60).toInt from by (first | exact om_f4906d00fa52 t280 | omega)) (show (V288 0 73).toInt - (V288 0 65).toInt + (mu V288 : Int) ≤ (V 0 73).toInt - (V 0 65).toInt + (mu V : Int) from by (first | exact om_62d91d472396 xlp14_3 t281 | omega)) (show (V288 0 76).toInt - (V288 0 69).toInt - (V288 0 73).toInt ≤ (V 0 76).toInt - (V 0 69).toInt - (V 0 73).toInt from by (first | exact om_f0eb5e5fdd1f xlp14_4 t282 | omega)) (show z298.toInt + (mu V288 : Int) ≤ (mu V : Int) from by (first | exact om_8fa4edb0aa9a xlp14_5 t284 hz298 | omega)) t283 ll301 ol302 ol303 pt304 t287 (show z299.toInt < (V 0 55).toInt from by (first | exact om_1e2998b5d70c xlp14_12 hz299 | omega)) (by (first | exact om_46f113951c8c hn hz299 | omega)) (agr.tr (agr.tr agr.rf ajV13 (by decide) (by decide)) ajV288 (by decide) (by decide)) hMV288 hP hD hS (lv_sub hl [0, 1, 3, 4] rfl)
          · skip
            have f306 : ((V 57 (Int32.toNatClampNeg p0))).toInt = 0 := b_eq rfl (by decide) c234
            refine lv_aload_n hx hb dX12_closeAll_31 rfl (lv_at hl 2 rfl) ?_
            refine va_get (D := D) (ci := 12) (v := .ref (ad 57)) (C := RX12) (T := TX12) (N := 100) hx hb hg inX12 hown hK hP 0 rfl rfl 57 (by decide) (hg _ w1763) (fun _ h9 => h9) rfl dX12_closeAll_32 ?_
            refine lv_iload_n hx hb dX12_closeAll_35 rfl (lv_at hl 0 rfl) ?_
            refine va_iald (D := D) (i := y11) hx hb hK hP 43 42 rfl rfl (i_in (a := y11.toInt) rfl (by (first | exact om_50db416a1bbc r9.2 xlp14_12 f220 | omega))) dX12_closeAll_36 ?_
            refine g_top (v := (V 57 (Int32.toNatClampNeg y11))) (ajV13 57 (Int32.toNatClampNeg y11) rfl) ?_
            refine lv_iconst (v := 1) hx hb dX12_closeAll_37 (by decide) ?_
            refine lv_icmp_ne (tgt := 78) hx hb dX12_closeAll_38 (by decide) (fun c307 => ?_) (fun c307 => ?_)
            · skip
              have f308 : ((V 57 (Int32.toNatClampNeg y11))).toInt ≠ 1 := b_neq rfl (by decide) c307
              refine lv_iconst (v := 0) hx hb dX12_closeAll_78 (by decide) ?_
              refine lv_istore (lv' := [(4, .int 0), (3, .int y11), (2, .int y12), (0, .ref (ad 0)), (1, .int p0)]) hx hb dX12_closeAll_79 hl (by decide) rfl (fun ls hl => ?_)
              refine lv_iload_n hx hb dX12_closeAll_81 rfl (lv_at hl 2 rfl) ?_
              refine lv_iload hx hb dX12_closeAll_82 (lv_at hl 0 rfl) ?_
              refine lv_if_eq (tgt := 95) hx hb dX12_closeAll_84 (by decide) (fun _ => ?_) (fun q => absurd (by decide) q)
              have pq309 : (V13 57 (Int32.toNatClampNeg p0)).toInt = ((V 57 (Int32.toNatClampNeg p0))).toInt := congrArg Int32.toInt (ajV13 57 (Int32.toNatClampNeg p0) rfl)
              have pq310 : (V13 57 (Int32.toNatClampNeg y11)).toInt = ((V 57 (Int32.toNatClampNeg y11))).toInt := congrArg Int32.toInt (ajV13 57 (Int32.toNatClampNeg y11) rfl)
              have pq311 : (V13 58 (Int32.toNatClampNeg y11)).toInt = ((V 58 (Int32.toNatClampNeg y11))).toInt := congrArg Int32.toInt (ajV13 58 (Int32.toNatClampNeg y11) rfl)
              have r312 : (-1) ≤ ((V 58 (Int32.toNatClampNeg y11))).toInt ∧ ((V 58 (Int32.toNatClampNeg y11))).toInt ≤ 39 := hMV 58 (Int32.toNatClampNeg y11)
              have ky9 := i_clamp (x := y11) rfl (by (first | exact om_610a4af05d44 f220 | omega))
              have nc9 : ¬ chd (mV V13 0 0 0) (Int32.toNatClampNeg p0) (Int32.toNatClampNeg y11) := fun h9 => by
                have h1 : (V13 56 (Int32.toNatClampNeg y11)).toInt ≠ 0 := h9.1
                rcases h9.2 with h8 | h8
                · have h2 : (V13 57 (Int32.toNatClampNeg p0)).toInt = 0 := h8.1
                  have h3 : (V13 57 (Int32.toNatClampNeg y11)).toInt = 1 := h8.2
                  omega
                · have h2 : (V13 57 (Int32.toNatClampNeg p0)).toInt = 1 := h8.1
                  have h3 : (V13 57 (Int32.toNatClampNeg y11)).toInt = 2 := h8.2.1
                  have h4 : (V13 58 (Int32.toNatClampNeg y11)).toInt = (((Int32.toNatClampNeg p0) : Nat) : Int) := h8.2.2
                  omega
              refine lv_iconst (v := 0) hx hb dX12_closeAll_95 (by decide) ?_
              refine lv_iadd hx hb dX12_closeAll_96 ?_
              refine lv_topi (fun z313 ez313 => ?_)
              have hz313 : z313.toInt = y12.toInt + 0 := i_add ez313 rfl (by decide) (by (first | exact om_a191521786d2 klp14_1.1 klp14_1.2 | omega))
              refine lv_istore_n (lv' := [(2, .int z313), (4, .int 0), (3, .int y11), (0, .ref (ad 0)), (1, .int p0)]) hx hb dX12_closeAll_97 rfl hl (by decide) rfl (fun ls hl => ?_)
              obtain ⟨z314, ez314⟩ : ∃ y : Int32, y = y11 + (-1) := ⟨_, rfl⟩
              have hz314 : z314.toInt = y11.toInt + (-1) := i_add ez314 rfl (by decide) (by (first | exact om_38bbca15f2be klp14_0.2 f220 | omega))
              refine lv_iinc (v := z314) (lv' := [(3, .int z314), (2, .int z313), (4, .int 0), (0, .ref (ad 0)), (1, .int p0)]) hx hb dX12_closeAll_98 hl (k := 2) rfl (by rw [ez314]; rfl) (by decide) rfl (fun ls hl => ?_)
              refine lv_goto (tgt := 9) hx hb dX12_closeAll_101 (by decide) ?_
              have r315 : Int32.toInt 0 = 0 := by decide
              have ll316 : (∃ k9 : Nat, CLs gB (V 0 55).toInt.toNat gsc k9 (mV V 0 0 0, (V 0 99).toInt, gcc) (mV V13 0 0 0, (V13 0 99).toInt, gcc + z313.toInt) ∧ (k9 : Int) + (mu V13 : Int) + (opc V13 40 : Int) ≤ (mu V : Int) + (opc V 40 : Int)) := by have h9 := xlp14_7; rw [show gcc + z313.toInt = gcc + y12.toInt from by omega]; exact h9
              have ol317 : ∀ j : Nat, z314.toInt < (j : Int) → j < (V 0 55).toInt.toNat → ¬ chd (mV V13 0 0 0) (Int32.toNatClampNeg p0) j := fun j9 h1 h2 => by
                have ky9 := i_clamp (x := y11) rfl (by (first | exact om_610a4af05d44 f220 | omega))
                by_cases q9 : j9 = (Int32.toNatClampNeg y11)
                · exact fun h9 => by rw [q9] at h9; exact nc9 h9
                · exact xlp14_9 j9 (by omega) h2
              exact ihlp14 z314 z313 V13 H locs ls (by (first | exact om_0934def82ed5 klp14_0.2 f220 hz314 | omega)) (by (first | exact om_101a603fc44b klp14_1.1 klp14_1.2 hz313 | omega)) (show (V13 0 93).toInt = (V 0 93).toInt from by (first | exact om_570b691c1130 xlp14_0 | omega)) (show (V13 0 98).toInt = (V 0 98).toInt from by (first | exact om_570b691c1130 xlp14_1 | omega)) (show (V13 0 65).toInt ≤ (V13 0 60).toInt from by (first | exact om_f4906d00fa52 xlp14_2 | omega)) (show (V13 0 73).toInt - (V13 0 65).toInt + (mu V13 : Int) ≤ (V 0 73).toInt - (V 0 65).toInt + (mu V : Int) from by (first | exact om_b48bd8f145a6 xlp14_3 | omega)) (show (V13 0 76).toInt - (V13 0 69).toInt - (V13 0 73).toInt ≤ (V 0 76).toInt - (V 0 69).toInt - (V 0 73).toInt from by (first | exact om_f1910009b5d0 xlp14_4 | omega)) (show z313.toInt + (mu V13 : Int) ≤ (mu V : Int) from by (first | exact om_7d452ad704e8 xlp14_5 hz313 | omega)) xlp14_6 ll316 xlp14_8 ol317 xlp14_10 xlp14_11 (show z314.toInt < (V 0 55).toInt from by (first | exact om_1e2998b5d70c xlp14_12 hz314 | omega)) (by (first | exact om_46f113951c8c hn hz314 | omega)) (agr.tr agr.rf ajV13 (by decide) (by decide)) hMV13 hP hD hS (lv_sub hl [0, 1, 3, 4] rfl)
            · skip
              have f318 : ((V 57 (Int32.toNatClampNeg y11))).toInt = 1 := b_eq rfl (by decide) c307
              refine lv_goto (tgt := 74) hx hb dX12_closeAll_41 (by decide) ?_
              refine lv_iconst (v := 1) hx hb dX12_closeAll_74 (by decide) ?_
              refine lv_goto (tgt := 79) hx hb dX12_closeAll_75 (by decide) ?_
              refine lv_istore (lv' := [(4, .int 1), (3, .int y11), (2, .int y12), (0, .ref (ad 0)), (1, .int p0)]) hx hb dX12_closeAll_79 hl (by decide) rfl (fun ls hl => ?_)
              refine lv_iload_n hx hb dX12_closeAll_81 rfl (lv_at hl 2 rfl) ?_
              refine lv_iload hx hb dX12_closeAll_82 (lv_at hl 0 rfl) ?_
              refine lv_if_eq (tgt := 95) hx hb dX12_closeAll_84 (by decide) (fun q => absurd q (by decide)) (fun _ => ?_)
              obtain ⟨d9, hd9⟩ : ∃ d9, d3 = d9 + 1 := ⟨d3 - 1, by omega⟩
              have ky9 := i_clamp (x := y11) rfl (by (first | exact om_610a4af05d44 f220 | omega))
              have pq319 : (V13 57 (Int32.toNatClampNeg p0)).toInt = ((V 57 (Int32.toNatClampNeg p0))).toInt := congrArg Int32.toInt (ajV13 57 (Int32.toNatClampNeg p0) rfl)
              have pq320 : (V13 57 (Int32.toNatClampNeg y11)).toInt = ((V 57 (Int32.toNatClampNeg y11))).toInt := congrArg Int32.toInt (ajV13 57 (Int32.toNatClampNeg y11) rfl)
              have pq321 : (V13 58 (Int32.toNatClampNeg y11)).toInt = ((V 58 (Int32.toNatClampNeg y11))).toInt := congrArg Int32.toInt (ajV13 58 (Int32.toNatClampNeg y11) rfl)
              have r322 : (-1) ≤ ((V 58 (Int32.toNatClampNeg y11))).toInt ∧ ((V 58 (Int32.toNatClampNeg y11))).toInt ≤ 39 := hMV 58 (Int32.toNatClampNeg y11)
              have ch9 : chd (mV V13 0 0 0) (Int32.toNatClampNeg p0) (Int32.toNatClampNeg y11) := ⟨(show (V13 56 (Int32.toNatClampNeg y11)).toInt ≠ 0 from by (first | exact om_dc4480632432 r221.1 f233 | omega)), Or.inl ⟨(show (V13 57 (Int32.toNatClampNeg p0)).toInt = 0 from by (first | exact om_97b844acc88a h57 f306 pq319 | omega)), (show (V13 57 (Int32.toNatClampNeg y11)).toInt = 1 from by (first | exact om_ed616bc53b7b f318 pq320 | omega))⟩⟩
              have ns9 : (V13 0 55).toInt.toNat = (V 0 55).toInt.toNat := by rw [(ajV13 0 55 rfl)]
              have scv : SCm (mV V13 0 0 0) (V 0 55).toInt.toNat := SCm.op scq xlp14_8 (fun j9 => (show agr [(0, 60), (0, 65), (0, 68), (0, 69), (0, 73), (0, 76), (0, 90), (0, 91), (0, 92), (0, 93), (0, 95), (0, 96), (0, 98), (0, 99)] [56, 59, 61, 62, 63, 64, 66, 67, 74, 75, 77, 78, 79, 80, 94, 97] V V13 from (agr.tr agr.rf ajV13 (by decide) (by decide))) 57 j9 rfl) (fun j9 => (show agr [(0, 60), (0, 65), (0, 68), (0, 69), (0, 73), (0, 76), (0, 90), (0, 91), (0, 92), (0, 93), (0, 95), (0, 96), (0, 98), (0, 99)] [56, 59, 61, 62, 63, 64, 66, 67, 74, 75, 77, 78, 79, 80, 94, 97] V V13 from (agr.tr agr.rf ajV13 (by decide) (by decide))) 58 j9 rfl) h57
              have ptv : PTH (mV V13 0 0 0) (V 0 55).toInt.toNat (Int32.toNatClampNeg y11) gsc := PTH.dn scv (by omega) xlp14_10 (by (first | exact om_ddae691e5635 f220 ky9 | omega)) (by (first | exact om_b7852f6eb571 xlp14_12 ky9 | omega)) ch9 (fun j9 h1 h2 => xlp14_9 j9 (by omega) h2)
              have kg9 : (V 57 gsc.toNat).toInt ≤ (V 57 (Int32.toNatClampNeg p0)).toInt := by rcases kd9 with h9 | h9; (rw [h9]; exact Int.le_refl _); omega
              have opv : (V13 56 gsc.toNat).toInt = 1 := by rw [xlp14_8.1 _ kg9]; exact op1
              have kdv : gsc.toNat = (Int32.toNatClampNeg y11) ∨ (V13 57 gsc.toNat).toInt < (V13 57 (Int32.toNatClampNeg y11)).toInt := Or.inr (by rw [(fun j9 => (show agr [(0, 60), (0, 65), (0, 68), (0, 69), (0, 73), (0, 76), (0, 90), (0, 91), (0, 92), (0, 93), (0, 95), (0, 96), (0, 98), (0, 99)] [56, 59, 61, 62, 63, 64, 66, 67, 74, 75, 77, 78, 79, 80, 94, 97] V V13 from (agr.tr agr.rf ajV13 (by decide) (by decide))) 57 j9 rfl) gsc.toNat]; omega)
              refine lv_aload_n hx hb dX12_closeAll_87 rfl (lv_at hl 3 rfl) ?_
              refine lv_iload_n hx hb dX12_closeAll_88 rfl (lv_at hl 1 rfl) ?_
              refine gA_int (gA_runV (As := [.int y11]) (rest := [.int y12]) (ci := 12) (q0 := 0) hx hb hml hown hg hP hD hK hS hA hnw hgk ((hk_s_closeAllD d9 hd9) H.size ad kk V13 L y11 (gB) (grk) (gsc) ((gcc + y12.toInt)) hMV13 (by omega) xlp14_6 (show (V13 0 65).toInt ≤ (V13 0 60).toInt from by (first | exact om_f4906d00fa52 xlp14_2 | omega)) (show (V13 0 73).toInt - (V13 0 65).toInt + (mu V13 : Int) ≤ 998000 from by (first | exact om_5971fd7e692b n3 xlp14_3 | omega)) (show (V13 0 76).toInt - (V13 0 69).toInt - (V13 0 73).toInt ≤ 1000000000 from by (first | exact om_4f2a7ae89657 n4 xlp14_4 | omega)) (show (V13 0 98).toInt = 0 from by (first | exact om_36161e850215 m5 xlp14_1 | omega)) (show (V13 0 93).toInt = 0 from by (first | exact om_36161e850215 m6 xlp14_0 | omega)) (show 2 ≤ ((d9 : Nat) : Int) ∨ ((V13 57 (Int32.toNatClampNeg y11)).toInt ≠ 0 ∧ (1 ≤ ((d9 : Nat) : Int) ∨ (V13 57 (Int32.toNatClampNeg y11)).toInt ≠ 1)) from by omega) (fun h9 => ⟨BKm.ag (bkq (by have h8 := (ajV13 0 54 rfl); rw [h8] at h9; exact h9)).1 (show agr [(0, 60), (0, 65), (0, 68), (0, 69), (0, 73), (0, 76), (0, 90), (0, 91), (0, 92), (0, 93), (0, 95), (0, 96), (0, 98), (0, 99)] [56, 59, 61, 62, 63, 64, 66, 67, 74, 75, 77, 78, 79, 80, 94, 97] V V13 from (agr.tr agr.rf ajV13 (by decide) (by decide))) (by decide), (bkq (by have h8 := (ajV13 0 54 rfl); rw [h8] at h9; exact h9)).2.1, xlp14_11 h9⟩) (by rw [ns9]; exact scv) (by rw [ns9]; exact ptv) (show (V13 56 (Int32.toNatClampNeg y11)).toInt = 1 from by (first | exact om_2ebe32d50835 r221.1 r221.2 f233 | omega)) opv (show 0 ≤ (gsc) ∧ (gsc) < (V13 0 55).toInt from by (first | exact om_468cbb7a04cb sc0.1 sc0.2 pq22 | omega)) (show y11.toInt < (V13 0 55).toInt from by (first | exact om_ad53b8b0928c xlp14_12 pq22 | omega)) kdv) w2344 w2346 w153 w172 w2347 rfl rfl hdV_yX12_closeAll ⟨(by show (2 * (d9) + 1616) + 1 ≤ (2 * d3 + 1616); omega), (by show 8 + (5 + 11) + (40 * (d9) + 40600) ≤ (40 * d3 + 40600); omega)⟩ rfl hl.1 rfl (Nat.le_of_ble_eq_true rfl) dX12_closeAll_89 ⟨Nat.le_of_ble_eq_true rfl, Nat.le_of_ble_eq_true rfl⟩) hP hD hK hS hA (fun z323 u324 H locs w325 hP hD hK hS => ?_)
              obtain ⟨V336, L337⟩ := u324
              obtain ⟨hMV336, ajV336, axL337, rgz323, t326, t327, t328, t329, t330, t331, t332, t333, t334, t335⟩ := w325
              have axL337 : L = L337 := Eq.symm axL337
              subst axL337
              have hP : va_P D vwCl (mw ad kk ks.1 V336 L) H := hP
              have hD : va_D A (mw ad kk ks.1 V336 L) := hD
              have hMV336 : rgd bM V336 := hMV336
              have ajV336 : agr [(0, 60), (0, 65), (0, 68), (0, 69), (0, 73), (0, 76), (0, 90), (0, 91), (0, 92), (0, 93), (0, 95), (0, 96), (0, 98), (0, 99)] [56, 59, 61, 62, 63, 64, 66, 67, 74, 75, 77, 78, 79, 80, 94, 97] V13 V336 := ajV336
              have agV336 : agr [(0, 60), (0, 65), (0, 68), (0, 69), (0, 73), (0, 76), (0, 90), (0, 91), (0, 92), (0, 93), (0, 95), (0, 96), (0, 98), (0, 99)] [56, 59, 61, 62, 63, 64, 66, 67, 74, 75, 77, 78, 79, 80, 94, 97] V V336 := agV13.tr ajV336 (by decide) (by decide)
              have rgz323 : 0 ≤ z323.toInt ∧ z323.toInt ≤ 300 := rgz323
              have t326 : (V336 0 93).toInt = (V13 0 93).toInt := t326
              have t327 : (V336 0 98).toInt = (V13 0 98).toInt := t327
              have t328 : (V336 0 65).toInt ≤ (V336 0 60).toInt := t328
              have t329 : (V336 0 73).toInt - (V336 0 65).toInt + (mu V336 : Int) ≤ (V13 0 73).toInt - (V13 0 65).toInt + (mu V13 : Int) := t329
              have t330 : (V336 0 76).toInt - (V336 0 69).toInt - (V336 0 73).toInt ≤ (V13 0 76).toInt - (V13 0 69).toInt - (V13 0 73).toInt := t330
              have t331 : RT0 V336 := t331
              have t332 : z323.toInt + (mu V336 : Int) ≤ (mu V13 : Int) := t332
              have t333 : ∃ k9 : Nat, CLs (gB) (V13 0 55).toInt.toNat (gsc) k9 (mV V13 0 0 0, (V13 0 99).toInt, ((gcc + y12.toInt))) ((if (Int32.toNatClampNeg y11) = 0 then mU (mV V336 0 0 0) 11 0 0 else mV V336 0 0 0), (V336 0 99).toInt, ((gcc + y12.toInt)) + z323.toInt) ∧ (k9 : Int) + (mu V336 : Int) + (opc V336 40 : Int) ≤ (mu V13 : Int) + (opc V13 40 : Int) + (if (Int32.toNatClampNeg y11) = 0 then 1 else 0) := t333
              have t334 : OPk V13 V336 (Int32.toNatClampNeg y11) := t334
              have t335 : (V336 0 54).toInt = 1 → RJm V336 (gB) := t335
              have r338 : 0 ≤ ((V336 0 93)).toInt ∧ ((V336 0 93)).toInt ≤ 10 := hMV336 0 93
              have r339 : 0 ≤ ((V336 0 98)).toInt ∧ ((V336 0 98)).toInt ≤ 20000 := hMV336 0 98
              have r340 : 0 ≤ ((V336 0 65)).toInt ∧ ((V336 0 65)).toInt ≤ 1000000 := hMV336 0 65
              have r341 : 0 ≤ ((V336 0 60)).toInt ∧ ((V336 0 60)).toInt ≤ 300 := hMV336 0 60
              have r342 : 0 ≤ ((V336 0 73)).toInt ∧ ((V336 0 73)).toInt ≤ 1000000 := hMV336 0 73
              have r343 : 0 ≤ ((V336 0 76)).toInt ∧ ((V336 0 76)).toInt ≤ 2000000000 := hMV336 0 76
              have r344 : 0 ≤ ((V336 0 69)).toInt ∧ ((V336 0 69)).toInt ≤ 3000 := hMV336 0 69
              have ml345 := mu_le (hMV336 0 60).2
              refine lv_goto (tgt := 96) hx hb dX12_closeAll_92 (by decide) ?_
              refine lv_iadd hx hb dX12_closeAll_96 ?_
              refine lv_topi (fun z346 ez346 => ?_)
              have hz346 : z346.toInt = y12.toInt + z323.toInt := i_add ez346 rfl rfl (by (first | exact om_8e0e521f4f2b klp14_1.1 klp14_1.2 rgz323.1 rgz323.2 | omega))
              refine lv_istore_n (lv' := [(2, .int z346), (4, .int 1), (3, .int y11), (0, .ref (ad 0)), (1, .int p0)]) hx hb dX12_closeAll_97 rfl hl (by decide) rfl (fun ls hl => ?_)
              obtain ⟨z347, ez347⟩ : ∃ y : Int32, y = y11 + (-1) := ⟨_, rfl⟩
              have hz347 : z347.toInt = y11.toInt + (-1) := i_add ez347 rfl (by decide) (by (first | exact om_38bbca15f2be klp14_0.2 f220 | omega))
              refine lv_iinc (v := z347) (lv' := [(3, .int z347), (2, .int z346), (4, .int 1), (0, .ref (ad 0)), (1, .int p0)]) hx hb dX12_closeAll_98 hl (k := 2) rfl (by rw [ez347]; rfl) (by decide) rfl (fun ls hl => ?_)
              refine lv_goto (tgt := 9) hx hb dX12_closeAll_101 (by decide) ?_
              have r348 : Int32.toInt 1 = 1 := by decide
              have ll349 : (∃ k9 : Nat, CLs gB (V 0 55).toInt.toNat gsc k9 (mV V 0 0 0, (V 0 99).toInt, gcc) (mV V336 0 0 0, (V336 0 99).toInt, gcc + z346.toInt) ∧ (k9 : Int) + (mu V336 : Int) + (opc V336 40 : Int) ≤ (mu V : Int) + (opc V 40 : Int)) := by
                obtain ⟨k9, c1, b1⟩ := xlp14_7
                obtain ⟨k8, c2, b2⟩ := t333
                rw [if_neg (show ¬ (Int32.toNatClampNeg y11) = 0 from by (first | exact om_5059a367e50e f220 ky9 | omega))] at c2 b2
                rw [ns9] at c2
                exact ⟨k9 + k8, by have h9 := CLs.tr k9 k8 c1 c2; rw [show gcc + z346.toInt = gcc + y12.toInt + z323.toInt from by omega]; exact h9, by omega⟩
              have ol350 : OPl V V336 (Int32.toNatClampNeg p0) := OPl.tr xlp14_8 t334 (fun j9 => (show agr [(0, 60), (0, 65), (0, 68), (0, 69), (0, 73), (0, 76), (0, 90), (0, 91), (0, 92), (0, 93), (0, 95), (0, 96), (0, 98), (0, 99)] [56, 59, 61, 62, 63, 64, 66, 67, 74, 75, 77, 78, 79, 80, 94, 97] V V13 from (agr.tr agr.rf ajV13 (by decide) (by decide))) 57 j9 rfl) (by rcases ch9.2 with h9 | h9; (have h1 : (V13 57 (Int32.toNatClampNeg p0)).toInt = 0 := h9.1; have h2 : (V13 57 (Int32.toNatClampNeg y11)).toInt = 1 := h9.2; rw [(fun j9 => (show agr [(0, 60), (0, 65), (0, 68), (0, 69), (0, 73), (0, 76), (0, 90), (0, 91), (0, 92), (0, 93), (0, 95), (0, 96), (0, 98), (0, 99)] [56, 59, 61, 62, 63, 64, 66, 67, 74, 75, 77, 78, 79, 80, 94, 97] V V13 from (agr.tr agr.rf ajV13 (by decide) (by decide))) 57 j9 rfl) (Int32.toNatClampNeg p0)] at h1; rw [(fun j9 => (show agr [(0, 60), (0, 65), (0, 68), (0, 69), (0, 73), (0, 76), (0, 90), (0, 91), (0, 92), (0, 93), (0, 95), (0, 96), (0, 98), (0, 99)] [56, 59, 61, 62, 63, 64, 66, 67, 74, 75, 77, 78, 79, 80, 94, 97] V V13 from (agr.tr agr.rf ajV13 (by decide) (by decide))) 57 j9 rfl) (Int32.toNatClampNeg y11)] at h2; omega); (have h1 : (V13 57 (Int32.toNatClampNeg p0)).toInt = 1 := h9.1; have h2 : (V13 57 (Int32.toNatClampNeg y11)).toInt = 2 := h9.2.1; rw [(fun j9 => (show agr [(0, 60), (0, 65), (0, 68), (0, 69), (0, 73), (0, 76), (0, 90), (0, 91), (0, 92), (0, 93), (0, 95), (0, 96), (0, 98), (0, 99)] [56, 59, 61, 62, 63, 64, 66, 67, 74, 75, 77, 78, 79, 80, 94, 97] V V13 from (agr.tr agr.rf ajV13 (by decide) (by decide))) 57 j9 rfl) (Int32.toNatClampNeg p0)] at h1; rw [(fun j9 => (show agr [(0, 60), (0, 65), (0, 68), (0, 69), (0, 73), (0, 76), (0, 90), (0, 91), (0, 92), (0, 93), (0, 95), (0, 96), (0, 98), (0, 99)] [56, 59, 61, 62, 63, 64, 66, 67, 74, 75, 77, 78, 79, 80, 94, 97] V V13 from (agr.tr agr.rf ajV13 (by decide) (by decide))) 57 j9 rfl) (Int32.toNatClampNeg y11)] at h2; omega)) (by (first | exact om_6f696e9b6860 f220 ky9 | omega)) (by (first | exact om_6f9bb8cf3bec h57 z57 | omega))
              have ol351 : ∀ j : Nat, z347.toInt < (j : Int) → j < (V 0 55).toInt.toNat → ¬ chd (mV V336 0 0 0) (Int32.toNatClampNeg p0) j := fun j9 h1 h2 => by
                by_cases q9 : j9 = (Int32.toNatClampNeg y11)
                · exact fun h9 => absurd (by rw [q9]; exact (t334.2.2.trans (if_neg (by omega)))) h9.1
                · exact fun h9 => xlp14_9 j9 (by omega) h2 (chd.mv h9 (((t334).2.1 j9).imp id (fun h8 => h8.resolve_right (by omega))) (fun i9 => (show agr [(0, 60), (0, 65), (0, 68), (0, 69), (0, 73), (0, 76), (0, 90), (0, 91), (0, 92), (0, 93), (0, 95), (0, 96), (0, 98), (0, 99)] [56, 59, 61, 62, 63, 64, 66, 67, 74, 75, 77, 78, 79, 80, 94, 97] V13 V336 from (agr.tr agr.rf ajV336 (by decide) (by decide))) 57 i9 rfl) (fun i9 => (show agr [(0, 60), (0, 65), (0, 68), (0, 69), (0, 73), (0, 76), (0, 90), (0, 91), (0, 92), (0, 93), (0, 95), (0, 96), (0, 98), (0, 99)] [56, 59, 61, 62, 63, 64, 66, 67, 74, 75, 77, 78, 79, 80, 94, 97] V13 V336 from (agr.tr agr.rf ajV336 (by decide) (by decide))) 58 i9 rfl))
              have ol353 : OPl V V336 (Int32.toNatClampNeg p0) := OPl.tr xlp14_8 t334 (fun j9 => (show agr [(0, 60), (0, 65), (0, 68), (0, 69), (0, 73), (0, 76), (0, 90), (0, 91), (0, 92), (0, 93), (0, 95), (0, 96), (0, 98), (0, 99)] [56, 59, 61, 62, 63, 64, 66, 67, 74, 75, 77, 78, 79, 80, 94, 97] V V13 from (agr.tr agr.rf ajV13 (by decide) (by decide))) 57 j9 rfl) (by rcases ch9.2 with h9 | h9; (have h1 : (V13 57 (Int32.toNatClampNeg p0)).toInt = 0 := h9.1; have h2 : (V13 57 (Int32.toNatClampNeg y11)).toInt = 1 := h9.2; rw [(fun j9 => (show agr [(0, 60), (0, 65), (0, 68), (0, 69), (0, 73), (0, 76), (0, 90), (0, 91), (0, 92), (0, 93), (0, 95), (0, 96), (0, 98), (0, 99)] [56, 59, 61, 62, 63, 64, 66, 67, 74, 75, 77, 78, 79, 80, 94, 97] V V13 from (agr.tr agr.rf ajV13 (by decide) (by decide))) 57 j9 rfl) (Int32.toNatClampNeg p0)] at h1; rw [(fun j9 => (show agr [(0, 60), (0, 65), (0, 68), (0, 69), (0, 73), (0, 76), (0, 90), (0, 91), (0, 92), (0, 93), (0, 95), (0, 96), (0, 98), (0, 99)] [56, 59, 61, 62, 63, 64, 66, 67, 74, 75, 77, 78, 79, 80, 94, 97] V V13 from (agr.tr agr.rf ajV13 (by decide) (by decide))) 57 j9 rfl) (Int32.toNatClampNeg y11)] at h2; omega); (have h1 : (V13 57 (Int32.toNatClampNeg p0)).toInt = 1 := h9.1; have h2 : (V13 57 (Int32.toNatClampNeg y11)).toInt = 2 := h9.2.1; rw [(fun j9 => (show agr [(0, 60), (0, 65), (0, 68), (0, 69), (0, 73), (0, 76), (0, 90), (0, 91), (0, 92), (0, 93), (0, 95), (0, 96), (0, 98), (0, 99)] [56, 59, 61, 62, 63, 64, 66, 67, 74, 75, 77, 78, 79, 80, 94, 97] V V13 from (agr.tr agr.rf ajV13 (by decide) (by decide))) 57 j9 rfl) (Int32.toNatClampNeg p0)] at h1; rw [(fun j9 => (show agr [(0, 60), (0, 65), (0, 68), (0, 69), (0, 73), (0, 76), (0, 90), (0, 91), (0, 92), (0, 93), (0, 95), (0, 96), (0, 98), (0, 99)] [56, 59, 61, 62, 63, 64, 66, 67, 74, 75, 77, 78, 79, 80, 94, 97] V V13 from (agr.tr agr.rf ajV13 (by decide) (by decide))) 57 j9 rfl) (Int32.toNatClampNeg y11)] at h2; omega)) (by (first | exact om_6f696e9b6860 f220 ky9 | omega)) (by (first | exact om_6f9bb8cf3bec h57 z57 | omega))
              have pt352 : PTH (mV V336 0 0 0) (V 0 55).toInt.toNat (Int32.toNatClampNeg p0) gsc := PTH.op scq pth ol353 (by rcases ch9.2 with h9 | h9; (have h1 : (V13 57 (Int32.toNatClampNeg p0)).toInt = 0 := h9.1; rw [(fun j9 => (show agr [(0, 60), (0, 65), (0, 68), (0, 69), (0, 73), (0, 76), (0, 90), (0, 91), (0, 92), (0, 93), (0, 95), (0, 96), (0, 98), (0, 99)] [56, 59, 61, 62, 63, 64, 66, 67, 74, 75, 77, 78, 79, 80, 94, 97] V V13 from (agr.tr agr.rf ajV13 (by decide) (by decide))) 57 j9 rfl) (Int32.toNatClampNeg p0)] at h1; omega); (have h1 : (V13 57 (Int32.toNatClampNeg p0)).toInt = 1 := h9.1; rw [(fun j9 => (show agr [(0, 60), (0, 65), (0, 68), (0, 69), (0, 73), (0, 76), (0, 90), (0, 91), (0, 92), (0, 93), (0, 95), (0, 96), (0, 98), (0, 99)] [56, 59, 61, 62, 63, 64, 66, 67, 74, 75, 77, 78, 79, 80, 94, 97] V V13 from (agr.tr agr.rf ajV13 (by decide) (by decide))) 57 j9 rfl) (Int32.toNatClampNeg p0)] at h1; omega)) (fun j9 => (show agr [(0, 60), (0, 65), (0, 68), (0, 69), (0, 73), (0, 76), (0, 90), (0, 91), (0, 92), (0, 93), (0, 95), (0, 96), (0, 98), (0, 99)] [56, 59, 61, 62, 63, 64, 66, 67, 74, 75, 77, 78, 79, 80, 94, 97] V V336 from (agr.tr (agr.tr agr.rf ajV13 (by decide) (by decide)) ajV336 (by decide) (by decide))) 57 j9 rfl) (fun j9 => (show agr [(0, 60), (0, 65), (0, 68), (0, 69), (0, 73), (0, 76), (0, 90), (0, 91), (0, 92), (0, 93), (0, 95), (0, 96), (0, 98), (0, 99)] [56, 59, 61, 62, 63, 64, 66, 67, 74, 75, 77, 78, 79, 80, 94, 97] V V336 from (agr.tr (agr.tr agr.rf ajV13 (by decide) (by decide)) ajV336 (by decide) (by decide))) 58 j9 rfl)
              exact ihlp14 z347 z346 V336 H locs ls (by (first | exact om_0934def82ed5 klp14_0.2 f220 hz347 | omega)) (by omega) (show (V336 0 93).toInt = (V 0 93).toInt from by (first | exact om_cd7d0a6a31bc xlp14_0 t326 | omega)) (show (V336 0 98).toInt = (V 0 98).toInt from by (first | exact om_cd7d0a6a31bc xlp14_1 t327 | omega)) (show (V336 0 65).toInt ≤ (V336 0 60).toInt from by (first | exact om_f4906d00fa52 t328 | omega)) (show (V336 0 73).toInt - (V336 0 65).toInt + (mu V336 : Int) ≤ (V 0 73).toInt - (V 0 65).toInt + (mu V : Int) from by (first | exact om_62d91d472396 xlp14_3 t329 | omega)) (show (V336 0 76).toInt - (V336 0 69).toInt - (V336 0 73).toInt ≤ (V 0 76).toInt - (V 0 69).toInt - (V 0 73).toInt from by (first | exact om_f0eb5e5fdd1f xlp14_4 t330 | omega)) (show z346.toInt + (mu V336 : Int) ≤ (mu V : Int) from by (first | exact om_8fa4edb0aa9a xlp14_5 t332 hz346 | omega)) t331 ll349 ol350 ol351 pt352 t335 (show z347.toInt < (V 0 55).toInt from by (first | exact om_1e2998b5d70c xlp14_12 hz347 | omega)) (by (first | exact om_46f113951c8c hn hz347 | omega)) (agr.tr (agr.tr agr.rf ajV13 (by decide) (by decide)) ajV336 (by decide) (by decide)) hMV336 hP hD hS (lv_sub hl [0, 1, 3, 4] rfl)
  have r354 : Int32.toInt 0 = 0 := by decide
  have ll355 : (∃ k9 : Nat, CLs gB (V 0 55).toInt.toNat gsc k9 (mV V 0 0 0, (V 0 99).toInt, gcc) (mV V 0 0 0, (V 0 99).toInt, gcc + (Int32.toInt 0)) ∧ (k9 : Int) + (mu V : Int) + (opc V 40 : Int) ≤ (mu V : Int) + (opc V 40 : Int)) := ⟨0, by rw [show gcc + (Int32.toInt 0) = gcc from by have h9 : Int32.toInt 0 = 0 := (by decide); omega]; exact rfl, by omega⟩
  exact lp14 ((z10.toInt + 1 : Int).toNat) z10 0 V H locs ls (by (first | exact om_801a3cd4bc94 rg_p0.1 s01 r9.2 hz10 | omega)) (by decide) (show (V 0 93).toInt = (V 0 93).toInt from by (first | exact om_4c2c879c4424 | omega)) (show (V 0 98).toInt = (V 0 98).toInt from by (first | exact om_4c2c879c4424 | omega)) (show (V 0 65).toInt ≤ (V 0 60).toInt from by (first | exact om_f4906d00fa52 n1 | omega)) (show (V 0 73).toInt - (V 0 65).toInt + (mu V : Int) ≤ (V 0 73).toInt - (V 0 65).toInt + (mu V : Int) from by (first | exact om_04fdc93a998b | omega)) (show (V 0 76).toInt - (V 0 69).toInt - (V 0 73).toInt ≤ (V 0 76).toInt - (V 0 69).toInt - (V 0 73).toInt from by (first | exact om_ea19430a4cf3 | omega)) (show (Int32.toInt 0) + (mu V : Int) ≤ (mu V : Int) from by (first | exact om_421710b9e5d2 r354 | omega)) r0 ll355 OPl.rf (fun j9 h1 h2 => by exfalso; omega) pth (fun h9 => (bkq h9).2.2) (show z10.toInt < (V 0 55).toInt from by (first | exact om_823ed67989f9 hz10 | omega)) (by (first | exact om_9011110baf36 | omega)) agr.rf hMV hP hD hS (lv_sub hl [0, 1, 2, 3] rfl)
theorem K_closeAllD {l : Launch} {D : va_G} {ks : KS} : ∀ d3, K_s_closeAllD l D ks d3
  | 0 => s_closeAllD (fun d9 h => absurd h (by omega))
  | d + 1 => s_closeAllD (fun d9 h => by
    have e : d9 = d := by omega
    subst e
    exact K_closeAllD d9)
end
section

abbrev r_s_closeAllDT : Room := { frames := 1620, cells := 0, slots := 0, locals := 40680 }
abbrev q_s_closeAllDT (D : va_G) (ks : KS) (ad : Nat → Nat) (kk : Nat → ClassId) (V : Vf) (L : Lf) (p0 : Int32) (gB : Bk) (grk : Nat → Nat) (gsc : Int) (gcc : Int) (A : Nat → Prop) : Array Value → State → Outcome → State → Prop := q_s_closeAllD D ks ad kk V L p0 gB grk gsc gcc A
theorem s_closeAllDT (l : Launch) (D : va_G) (ks : KS) (sz : Nat) (ad : Nat → Nat) (kk : Nat → ClassId) (V : Vf) (L : Lf) (p0 : Int32) (gB : Bk) (grk : Nat → Nat) (gsc : Int) (gcc : Int) (hMV : rgd bM V) (rg_p0 : 0 ≤ p0.toInt ∧ p0.toInt ≤ 39) (r0 : RT0 V) (n1 : (V 0 65).toInt ≤ (V 0 60).toInt) (n3 : (V 0 73).toInt - (V 0 65).toInt + (mu V : Int) ≤ 998000) (n4 : (V 0 76).toInt - (V 0 69).toInt - (V 0 73).toInt ≤ 1000000000) (m5 : (V 0 98).toInt = 0) (m6 : (V 0 93).toInt = 0) (bkq : (V 0 54).toInt = 1 → BKm V gB ∧ BKr gB grk ∧ RJm V gB) (scq : SCm (mV V 0 0 0) (V 0 55).toInt.toNat) (pth : PTH (mV V 0 0 0) (V 0 55).toInt.toNat (Int32.toNatClampNeg p0) gsc) (op0 : (V 56 (Int32.toNatClampNeg p0)).toInt = 1) (op1 : (V 56 gsc.toNat).toInt = 1) (sc0 : 0 ≤ gsc ∧ gsc < (V 0 55).toInt) (s01 : p0.toInt < (V 0 55).toInt) (kd9 : gsc.toNat = (Int32.toNatClampNeg p0) ∨ (V 57 gsc.toNat).toInt < (V 57 (Int32.toNatClampNeg p0)).toInt) : Met l yX12_closeAll (Cond.code yX12_closeAll cX12_closeAll 5 (some .int) :: GW) r_s_closeAllDT (va_Pc [.ref (ad 0), .int p0] (gp D ks (mw ad kk ks.1 V L) (mty kk) sz)) (q_s_closeAllDT D ks ad kk V L p0 gB grk gsc gcc (va_A (mw ad kk ks.1 V L) sz)) 0 0 (va_A (mw ad kk ks.1 V L) sz) :=
  K_closeAllD (l := l) (D := D) (ks := ks) 2 sz ad kk V L p0 gB grk gsc gcc hMV rg_p0 r0 n1 n3 n4 m5 m6 (Or.inl (by omega)) bkq scq pth op0 op1 sc0 s01 kd9

abbrev r_s_close3 : Room := { frames := 1621, cells := 0, slots := 0, locals := 40704 }
abbrev q_s_close3 (D : va_G) (ks : KS) (ad : Nat → Nat) (kk : Nat → ClassId) (V : Vf) (L : Lf) (p0 : Int32) (gB : Bk) (grk : Nat → Nat) (A : Nat → Prop) : Array Value → State → Outcome → State → Prop := va_Qi (fun (r : Int32) (u : Vf × Lf) => rgd bM u.1 ∧ agr [(0, 0), (0, 60), (0, 65), (0, 68), (0, 69), (0, 70), (0, 71), (0, 72), (0, 73), (0, 76), (0, 90), (0, 91), (0, 92), (0, 93), (0, 95), (0, 96), (0, 98), (0, 99)] [56, 59, 61, 62, 63, 64, 66, 67, 74, 75, 77, 78, 79, 80, 94, 97] V u.1 ∧ u.2 = L ∧ ((u.1 0 65).toInt ≤ (u.1 0 60).toInt) ∧ ((u.1 0 73).toInt - (u.1 0 65).toInt ≤ (V 0 73).toInt - (V 0 65).toInt + 300) ∧ ((u.1 0 76).toInt - (u.1 0 69).toInt - (u.1 0 73).toInt ≤ (V 0 76).toInt - (V 0 69).toInt - (V 0 73).toInt + 3000) ∧ (RT0 u.1) ∧ ((0 ≤ p0.toInt ∧ p0.toInt < (V 0 55).toInt ∧ (V 56 (Int32.toNatClampNeg p0)).toInt = 1) → ∃ n, CLo gB (V 0 55).toInt.toNat p0.toInt (mU (mV V 0 0 0) 0 1 0) u.1 (u.1 0 99).toInt n ∧ (((u.1 0 99).toInt = 0 ∧ r.toInt = n) ∨ ((u.1 0 99).toInt ≠ 0 ∧ r.toInt = -1))) ∧ (¬ (0 ≤ p0.toInt ∧ p0.toInt < (V 0 55).toInt ∧ (V 56 (Int32.toNatClampNeg p0)).toInt = 1) → r.toInt = -1 ∧ mV u.1 0 0 0 = (mU (mV V 0 0 0) 0 1 0)) ∧ ((u.1 0 71).toInt = (V 0 71).toInt ∧ (u.1 0 72).toInt = (V 0 72).toInt) ∧ (SCm (mV u.1 0 0 0) (u.1 0 55).toInt.toNat) ∧ ((u.1 0 54).toInt = 1 → RJm u.1 gB)) (fun u t => gq D A (mw ad kk ks.1 u.1 u.2) (mty kk) t) A
set_option maxHeartbeats 4000000 in
set_option maxRecDepth 100000 in
theorem s_close3 (l : Launch) (D : va_G) (ks : KS) (sz : Nat) (ad : Nat → Nat) (kk : Nat → ClassId) (V : Vf) (L : Lf) (p0 : Int32) (gB : Bk) (grk : Nat → Nat) (hMV : rgd bM V) (r0 : RT0 V) (n1 : (V 0 65).toInt ≤ (V 0 60).toInt) (n3 : (V 0 73).toInt - (V 0 65).toInt ≤ 990000) (n4 : (V 0 76).toInt - (V 0 69).toInt - (V 0 73).toInt ≤ 900000000) (bkq : (V 0 54).toInt = 1 → BKm V gB ∧ BKr gB grk ∧ RJm V gB) (scq : SCm (mV V 0 0 0) (V 0 55).toInt.toNat)  : Met l yX12_close (Cond.code yX12_close cX12_close 5 (some .int) :: GW) r_s_close3 (va_Pc [.ref (ad 0), .int p0] (gp D ks (mw ad kk ks.1 V L) (mty kk) sz)) (q_s_close3 D ks ad kk V L p0 gB grk (va_A (mw ad kk ks.1 V L) sz)) 0 0 (va_A (mw ad kk ks.1 V L) sz) := by
  refine g_met (q_s_close3 D ks ad kk V L p0 gB grk) (by decide) (Nat.le_of_ble_eq_true rfl) ?_
  intro p e s m below meth c A ls H locs hx hb hr hml hown hg hlocks hin hnw hgk hP hK hD hS hA hl
  have hown : s.vm.findClass RX12 = some m.cls := hown
  have hl : lv_has ls 5 [(0, .ref (ad 0)), (1, .int p0)] := hl
  have hP : va_P D vwCl (mw ad kk ks.1 V L) H := hP
  have hD : va_D A (mw ad kk ks.1 V L) := hD
  have hK : va_K D vwCl (mty kk) s := hK
  have agV : agr [(0, 0), (0, 60), (0, 65), (0, 68), (0, 69), (0, 70), (0, 71), (0, 72), (0, 73), (0, 76), (0, 90), (0, 91), (0, 92), (0, 93), (0, 95), (0, 96), (0, 98), (0, 99)] [56, 59, 61, 62, 63, 64, 66, 67, 74, 75, 77, 78, 79, 80, 94, 97] V V := agr.rf
  have r1 : 0 ≤ ((V 0 65)).toInt ∧ ((V 0 65)).toInt ≤ 1000000 := hMV 0 65
  have r2 : 0 ≤ ((V 0 60)).toInt ∧ ((V 0 60)).toInt ≤ 300 := hMV 0 60
  have r3 : 0 ≤ ((V 0 73)).toInt ∧ ((V 0 73)).toInt ≤ 1000000 := hMV 0 73
  have r4 : 0 ≤ ((V 0 76)).toInt ∧ ((V 0 76)).toInt ≤ 2000000000 := hMV 0 76
  have r5 : 0 ≤ ((V 0 69)).toInt ∧ ((V 0 69)).toInt ≤ 3000 := hMV 0 69
  have fz : (V 0 95).toInt = 0 := r0.2.2.2.2
  have hl3 : 0 ≤ (V 0 69).toInt ∧ (V 0 69).toInt ≤ 3000 := hMV 0 69
  refine lv_aload_n hx hb dX12_close_0 rfl (lv_at hl 0 rfl) ?_
  refine lv_iconst (v := 0) hx hb dX12_close_1 (by decide) ?_
  refine va_put (D := D) (ci := 12) (v := .int 0) (ty := tyX12 0) (C := RX12) (T := TX12) (N := 100) hx hb hg inX12 tyX12 tyX12_ok nmX12 hown hK hP hD hS 0 rfl rfl 0 (by decide) (hg _ w1706) (fun _ h9 => h9) rfl (tyX12_ok 0 (by decide)) rfl rfl (Nat.le_of_ble_eq_true rfl) dX12_close_2 (fun H locs hP hD hS => ?_)
  obtain ⟨V6, hV6⟩ : ∃ z, z = up2 V 0 0 0 := ⟨_, rfl⟩
  have hP : va_P D vwCl (mw ad kk ks.1 V6 L) H := by rw [hV6]; exact hP
  have hD : va_D A (mw ad kk ks.1 V6 L) := by rw [hV6]; exact hD
  have hMV6 : rgd bM V6 := hMV.put hV6 (i_full _)
  have agV6 : agr [(0, 0), (0, 60), (0, 65), (0, 68), (0, 69), (0, 70), (0, 71), (0, 72), (0, 73), (0, 76), (0, 90), (0, 91), (0, 92), (0, 93), (0, 95), (0, 96), (0, 98), (0, 99)] [56, 59, 61, 62, 63, 64, 66, 67, 74, 75, 77, 78, 79, 80, 94, 97] V V6 := agV.up hV6 rfl
  refine lv_aload_n hx hb dX12_close_5 rfl (lv_at hl 0 rfl) ?_
  refine va_get (D := D) (ci := 12) (v := .int (V6 0 71)) (C := RX12) (T := TX12) (N := 100) hx hb hg inX12 hown hK hP 0 rfl rfl 71 (by decide) (hg _ w1777) (fun _ h9 => h9) rfl dX12_close_6 ?_
  refine g_top (v := (V 0 71)) (up2_k hV6 (by decide)) ?_
  refine lv_istore_n (lv' := [(2, .int (V 0 71)), (0, .ref (ad 0)), (1, .int p0)]) hx hb dX12_close_9 rfl hl (by decide) rfl (fun ls hl => ?_)
  refine lv_aload_n hx hb dX12_close_10 rfl (lv_at hl 1 rfl) ?_
  refine va_get (D := D) (ci := 12) (v := .int (V6 0 72)) (C := RX12) (T := TX12) (N := 100) hx hb hg inX12 hown hK hP 0 rfl rfl 72 (by decide) (hg _ w1778) (fun _ h9 => h9) rfl dX12_close_11 ?_
  refine g_top (v := (V 0 72)) (up2_k hV6 (by decide)) ?_
  refine lv_istore_n (lv' := [(3, .int (V 0 72)), (2, .int (V 0 71)), (0, .ref (ad 0)), (1, .int p0)]) hx hb dX12_close_14 rfl hl (by decide) rfl (fun ls hl => ?_)
  refine lv_aload_n hx hb dX12_close_15 rfl (lv_at hl 2 rfl) ?_
  refine gA_void (gA_runV (As := []) (rest := []) (ci := 12) (q0 := 0) hx hb hml hown hg hP hD hK hS hA hnw hgk (s_begins3 l D ks H.size ad kk V6 L  hMV6 ) w2231 w2233 w127 w172 w2234 rfl rfl hdV_yX12_begins_ ⟨Nat.le_of_ble_eq_true rfl, Nat.le_of_ble_eq_true rfl⟩ rfl hl.1 rfl (Nat.le_of_ble_eq_true rfl) dX12_close_16 ⟨Nat.le_of_ble_eq_true rfl, Nat.le_of_ble_eq_true rfl⟩) hP hD hK hS hA (fun u8 H locs w9 hP hD hK hS => ?_)
  obtain ⟨V15, L16⟩ := u8
  obtain ⟨hMV15, ajV15, axL16, t10, t11, t12, t13, t14⟩ := w9
  have axL16 : L = L16 := Eq.symm axL16
  subst axL16
  have hP : va_P D vwCl (mw ad kk ks.1 V15 L) H := hP
  have hD : va_D A (mw ad kk ks.1 V15 L) := hD
  have hMV15 : rgd bM V15 := hMV15
  have ajV15 : agr [(0, 69), (0, 71), (0, 72), (0, 93), (0, 95), (0, 98)] [] V6 V15 := ajV15
  have agV15 : agr [(0, 0), (0, 60), (0, 65), (0, 68), (0, 69), (0, 70), (0, 71), (0, 72), (0, 73), (0, 76), (0, 90), (0, 91), (0, 92), (0, 93), (0, 95), (0, 96), (0, 98), (0, 99)] [56, 59, 61, 62, 63, 64, 66, 67, 74, 75, 77, 78, 79, 80, 94, 97] V V15 := agV6.tr ajV15 (by decide) (by decide)
  have t10 : (V15 0 69).toInt = 0 := t10
  have t11 : (V15 0 93).toInt = 0 := t11
  have t12 : (V15 0 98).toInt = 0 := t12
  have t13 : (V15 0 95).toInt = 0 := t13
  have t14 : (V15 0 71).toInt = 0 ∧ (V15 0 72).toInt = 0 := t14
  have r17 : 0 ≤ ((V15 0 69)).toInt ∧ ((V15 0 69)).toInt ≤ 3000 := hMV15 0 69
  have r18 : 0 ≤ ((V15 0 93)).toInt ∧ ((V15 0 93)).toInt ≤ 10 := hMV15 0 93
  have r19 : 0 ≤ ((V15 0 98)).toInt ∧ ((V15 0 98)).toInt ≤ 20000 := hMV15 0 98
  have r20 : 0 ≤ ((V15 0 95)).toInt ∧ ((V15 0 95)).toInt ≤ 300 := hMV15 0 95
  have pq21 : (V15 0 55).toInt = ((V 0 55)).toInt := congrArg Int32.toInt ((ajV15 0 55 rfl).trans (up2_k hV6 (by decide)))
  have r22 : 1 ≤ ((V 0 55)).toInt ∧ ((V 0 55)).toInt ≤ 40 := hMV 0 55
  have pq23 : (V15 56 (Int32.toNatClampNeg p0)).toInt = ((V 56 (Int32.toNatClampNeg p0))).toInt := congrArg Int32.toInt ((ajV15 56 (Int32.toNatClampNeg p0) rfl).trans (up2_o hV6 (by decide)))
  have r24 : 0 ≤ ((V 56 (Int32.toNatClampNeg p0))).toInt ∧ ((V 56 (Int32.toNatClampNeg p0))).toInt ≤ 1 := hMV 56 (Int32.toNatClampNeg p0)
  have fz8 : (V 0 95).toInt = 0 := r0.2.2.2.2
  have mb9 : ∀ sg t k, mV V15 sg t k = mU (mV V sg t k) 0 1 0 := fun sg t k => mV_beg (show agr [(0, 0), (0, 69), (0, 71), (0, 72), (0, 93), (0, 95), (0, 98)] [] V V15 from (agr.tr (agr.up agr.rf hV6 rfl) ajV15 (by decide) (by decide))) (by decide) (by (first | exact om_b66ba74381d5 t10 | omega)) (by (first | exact om_bb37a0d3ebaf fz t13 | omega))
  refine lv_aload_n hx hb dX12_close_19 rfl (lv_at hl 2 rfl) ?_
  refine lv_iload_n hx hb dX12_close_20 rfl (lv_at hl 1 rfl) ?_
  refine va_put (D := D) (ci := 12) (v := .int (V 0 71)) (ty := tyX12 71) (C := RX12) (T := TX12) (N := 100) hx hb hg inX12 tyX12 tyX12_ok nmX12 hown hK hP hD hS 0 rfl rfl 71 (by decide) (hg _ w1777) (fun _ h9 => h9) rfl (tyX12_ok 71 (by decide)) rfl rfl (Nat.le_of_ble_eq_true rfl) dX12_close_21 (fun H locs hP hD hS => ?_)
  obtain ⟨V25, hV25⟩ : ∃ z, z = up2 V15 0 71 (V 0 71) := ⟨_, rfl⟩
  have hP : va_P D vwCl (mw ad kk ks.1 V25 L) H := by rw [hV25]; exact hP
  have hD : va_D A (mw ad kk ks.1 V25 L) := by rw [hV25]; exact hD
  have hMV25 : rgd bM V25 := hMV15.put hV25 (i_full _)
  have agV25 : agr [(0, 0), (0, 60), (0, 65), (0, 68), (0, 69), (0, 70), (0, 71), (0, 72), (0, 73), (0, 76), (0, 90), (0, 91), (0, 92), (0, 93), (0, 95), (0, 96), (0, 98), (0, 99)] [56, 59, 61, 62, 63, 64, 66, 67, 74, 75, 77, 78, 79, 80, 94, 97] V V25 := agV15.up hV25 rfl
  refine lv_aload_n hx hb dX12_close_24 rfl (lv_at hl 2 rfl) ?_
  refine lv_iload_n hx hb dX12_close_25 rfl (lv_at hl 0 rfl) ?_
  refine va_put (D := D) (ci := 12) (v := .int (V 0 72)) (ty := tyX12 72) (C := RX12) (T := TX12) (N := 100) hx hb hg inX12 tyX12 tyX12_ok nmX12 hown hK hP hD hS 0 rfl rfl 72 (by decide) (hg _ w1778) (fun _ h9 => h9) rfl (tyX12_ok 72 (by decide)) rfl rfl (Nat.le_of_ble_eq_true rfl) dX12_close_26 (fun H locs hP hD hS => ?_)
  obtain ⟨V26, hV26⟩ : ∃ z, z = up2 V25 0 72 (V 0 72) := ⟨_, rfl⟩
  have hP : va_P D vwCl (mw ad kk ks.1 V26 L) H := by rw [hV26]; exact hP
  have hD : va_D A (mw ad kk ks.1 V26 L) := by rw [hV26]; exact hD
  have hMV26 : rgd bM V26 := hMV25.put hV26 (i_full _)
  have agV26 : agr [(0, 0), (0, 60), (0, 65), (0, 68), (0, 69), (0, 70), (0, 71), (0, 72), (0, 73), (0, 76), (0, 90), (0, 91), (0, 92), (0, 93), (0, 95), (0, 96), (0, 98), (0, 99)] [56, 59, 61, 62, 63, 64, 66, 67, 74, 75, 77, 78, 79, 80, 94, 97] V V26 := agV25.up hV26 rfl
  refine lv_aload_n hx hb dX12_close_29 rfl (lv_at hl 2 rfl) ?_
  refine lv_iload_n hx hb dX12_close_30 rfl (lv_at hl 3 rfl) ?_
  refine gA_int (gA_runV (As := [.int p0]) (rest := []) (ci := 12) (q0 := 0) hx hb hml hown hg hP hD hK hS hA hnw hgk (s_isScope3 l D ks H.size ad kk V26 L p0 hMV26 ) w2223 w2225 w126 w172 w2226 rfl rfl hdV_yX12_isScope ⟨Nat.le_of_ble_eq_true rfl, Nat.le_of_ble_eq_true rfl⟩ rfl hl.1 rfl (Nat.le_of_ble_eq_true rfl) dX12_close_31 ⟨Nat.le_of_ble_eq_true rfl, Nat.le_of_ble_eq_true rfl⟩) hP hD hK hS hA (fun z27 u28 H locs w29 hP hD hK hS => ?_)
  obtain ⟨rgz27, t30⟩ := w29
  have rgz27 : 0 ≤ z27.toInt ∧ z27.toInt ≤ 1 := rgz27
  have t30 : (z27.toInt = 1 ∧ 0 ≤ p0.toInt ∧ p0.toInt < (V26 0 55).toInt ∧ (V26 56 (Int32.toNatClampNeg p0)).toInt = 1) ∨ (z27.toInt = 0 ∧ (p0.toInt < 0 ∨ (V26 0 55).toInt ≤ p0.toInt ∨ (V26 56 (Int32.toNatClampNeg p0)).toInt = 0)) := t30
  have pq31 : (V26 0 55).toInt = ((V 0 55)).toInt := congrArg Int32.toInt ((up2_k hV26 (by decide)).trans ((up2_k hV25 (by decide)).trans ((ajV15 0 55 rfl).trans (up2_k hV6 (by decide)))))
  have pq32 : (V26 56 (Int32.toNatClampNeg p0)).toInt = ((V 56 (Int32.toNatClampNeg p0))).toInt := congrArg Int32.toInt ((up2_o hV26 (by decide)).trans ((up2_o hV25 (by decide)).trans ((ajV15 56 (Int32.toNatClampNeg p0) rfl).trans (up2_o hV6 (by decide)))))
  refine lv_if_ne (tgt := 44) hx hb dX12_close_34 (by decide) (fun c33 => ?_) (fun c33 => ?_)
  · skip
    have f34 : z27.toInt ≠ 0 := b_neq rfl (by decide) c33
    refine lv_aload_n hx hb dX12_close_44 rfl (lv_at hl 2 rfl) ?_
    refine lv_iconst (v := 0) hx hb dX12_close_45 (by decide) ?_
    refine va_put (D := D) (ci := 12) (v := .int 0) (ty := tyX12 99) (C := RX12) (T := TX12) (N := 100) hx hb hg inX12 tyX12 tyX12_ok nmX12 hown hK hP hD hS 0 rfl rfl 99 (by decide) (hg _ w1805) (fun _ h9 => h9) rfl (tyX12_ok 99 (by decide)) rfl rfl (Nat.le_of_ble_eq_true rfl) dX12_close_46 (fun H locs hP hD hS => ?_)
    obtain ⟨V35, hV35⟩ : ∃ z, z = up2 V26 0 99 0 := ⟨_, rfl⟩
    have hP : va_P D vwCl (mw ad kk ks.1 V35 L) H := by rw [hV35]; exact hP
    have hD : va_D A (mw ad kk ks.1 V35 L) := by rw [hV35]; exact hD
    have hMV35 : rgd bM V35 := hMV26.put hV35 (by decide)
    have agV35 : agr [(0, 0), (0, 60), (0, 65), (0, 68), (0, 69), (0, 70), (0, 71), (0, 72), (0, 73), (0, 76), (0, 90), (0, 91), (0, 92), (0, 93), (0, 95), (0, 96), (0, 98), (0, 99)] [56, 59, 61, 62, 63, 64, 66, 67, 74, 75, 77, 78, 79, 80, 94, 97] V V35 := agV26.up hV35 rfl
    have pq36 : (V35 0 60).toInt = ((V 0 60)).toInt := congrArg Int32.toInt ((up2_k hV35 (by decide)).trans ((up2_k hV26 (by decide)).trans ((up2_k hV25 (by decide)).trans ((ajV15 0 60 rfl).trans (up2_k hV6 (by decide))))))
    have ml := mu_le (hMV35 0 60).2
    have kp9 := i_clamp (x := p0) rfl (by (first | exact om_d6f63e8e451a t30 f34 | omega))
    have pq37 : (V35 0 95).toInt = ((V15 0 95)).toInt := congrArg Int32.toInt ((up2_k hV35 (by decide)).trans ((up2_k hV26 (by decide)).trans (up2_k hV25 (by decide))))
    have fz8 : (V 0 95).toInt = 0 := r0.2.2.2.2
    have pq38 : (V35 0 55).toInt = ((V 0 55)).toInt := congrArg Int32.toInt ((up2_k hV35 (by decide)).trans ((up2_k hV26 (by decide)).trans ((up2_k hV25 (by decide)).trans ((ajV15 0 55 rfl).trans (up2_k hV6 (by decide))))))
    have pq39 : (V35 56 (Int32.toNatClampNeg p0)).toInt = ((V 56 (Int32.toNatClampNeg p0))).toInt := congrArg Int32.toInt ((up2_o hV35 (by decide)).trans ((up2_o hV26 (by decide)).trans ((up2_o hV25 (by decide)).trans ((ajV15 56 (Int32.toNatClampNeg p0) rfl).trans (up2_o hV6 (by decide))))))
    have pq40 : (V35 0 99).toInt = 0 := (congrArg Int32.toInt (up2_s hV35)).trans (by decide)
    have ns9 : (V35 0 55).toInt.toNat = (V 0 55).toInt.toNat := by rw [((up2_k hV35 (by decide)).trans ((up2_k hV26 (by decide)).trans ((up2_k hV25 (by decide)).trans ((ajV15 0 55 rfl).trans (up2_k hV6 (by decide))))))]
    have scv : SCm (mV V35 0 0 0) (V 0 55).toInt.toNat := SCm.eq scq (fun j9 => congrArg Int32.toInt ((show agr [(0, 0), (0, 69), (0, 71), (0, 72), (0, 93), (0, 95), (0, 98), (0, 99)] [] V V35 from (agr.up (agr.up (agr.up (agr.tr (agr.up agr.rf hV6 rfl) ajV15 (by decide) (by decide)) hV25 rfl) hV26 rfl) hV35 rfl)) 56 j9 rfl)) (fun j9 => congrArg Int32.toInt ((show agr [(0, 0), (0, 69), (0, 71), (0, 72), (0, 93), (0, 95), (0, 98), (0, 99)] [] V V35 from (agr.up (agr.up (agr.up (agr.tr (agr.up agr.rf hV6 rfl) ajV15 (by decide) (by decide)) hV25 rfl) hV26 rfl) hV35 rfl)) 57 j9 rfl)) (fun j9 => congrArg Int32.toInt ((show agr [(0, 0), (0, 69), (0, 71), (0, 72), (0, 93), (0, 95), (0, 98), (0, 99)] [] V V35 from (agr.up (agr.up (agr.up (agr.tr (agr.up agr.rf hV6 rfl) ajV15 (by decide) (by decide)) hV25 rfl) hV26 rfl) hV35 rfl)) 58 j9 rfl))
    have ptv : PTH (mV V35 0 0 0) (V 0 55).toInt.toNat (Int32.toNatClampNeg p0) p0.toInt := by have h9 := PTH.top scv (s := Int32.toNatClampNeg p0) (by omega); rw [show ((Int32.toNatClampNeg p0 : Nat) : Int) = p0.toInt from by omega] at h9; exact h9
    have mbv : mV V35 0 0 0 = mU (mV V 0 0 0) 0 1 0 := by rw [mV_ag (show agr [(0, 71), (0, 72), (0, 99)] [] V15 V35 from (agr.up (agr.up (agr.up agr.rf hV25 rfl) hV26 rfl) hV35 rfl)) (by decide), mb9]
    refine lv_aload_n hx hb dX12_close_49 rfl (lv_at hl 2 rfl) ?_
    refine lv_iload_n hx hb dX12_close_50 rfl (lv_at hl 3 rfl) ?_
    have pq41 : (V35 0 65).toInt = ((V 0 65)).toInt := congrArg Int32.toInt ((up2_k hV35 (by decide)).trans ((up2_k hV26 (by decide)).trans ((up2_k hV25 (by decide)).trans ((ajV15 0 65 rfl).trans (up2_k hV6 (by decide))))))
    have mq42 : mu V35 = mu V := mu_ag (show agr [(0, 0), (0, 69), (0, 71), (0, 72), (0, 93), (0, 95), (0, 98), (0, 99)] [] V V35 from (agr.up (agr.up (agr.up (agr.tr (agr.up agr.rf hV6 rfl) ajV15 (by decide) (by decide)) hV25 rfl) hV26 rfl) hV35 rfl)) rfl (fun _ => rfl)
    have pq43 : (V35 0 73).toInt = ((V 0 73)).toInt := congrArg Int32.toInt ((up2_k hV35 (by decide)).trans ((up2_k hV26 (by decide)).trans ((up2_k hV25 (by decide)).trans ((ajV15 0 73 rfl).trans (up2_k hV6 (by decide))))))
    have pq44 : (V35 0 76).toInt = ((V 0 76)).toInt := congrArg Int32.toInt ((up2_k hV35 (by decide)).trans ((up2_k hV26 (by decide)).trans ((up2_k hV25 (by decide)).trans ((ajV15 0 76 rfl).trans (up2_k hV6 (by decide))))))
    have pq45 : (V35 0 69).toInt = ((V15 0 69)).toInt := congrArg Int32.toInt ((up2_k hV35 (by decide)).trans ((up2_k hV26 (by decide)).trans (up2_k hV25 (by decide))))
    have pq46 : (V35 0 98).toInt = ((V15 0 98)).toInt := congrArg Int32.toInt ((up2_k hV35 (by decide)).trans ((up2_k hV26 (by decide)).trans (up2_k hV25 (by decide))))
    have pq47 : (V35 0 93).toInt = ((V15 0 93)).toInt := congrArg Int32.toInt ((up2_k hV35 (by decide)).trans ((up2_k hV26 (by decide)).trans (up2_k hV25 (by decide))))
    have fz48 : (V 0 95).toInt = 0 := r0.2.2.2.2
    have r049 : RT0 V35 := RT0.ag r0 hMV (show agr [(0, 0), (0, 69), (0, 71), (0, 72), (0, 93), (0, 95), (0, 98), (0, 99)] [] V V35 from (agr.up (agr.up (agr.up (agr.tr (agr.up agr.rf hV6 rfl) ajV15 (by decide) (by decide)) hV25 rfl) hV26 rfl) hV35 rfl)) ⟨⟨rfl, fun _ => rfl, fun _ => rfl, fun _ => rfl, fun _ => rfl, fun _ => rfl, fun _ => rfl⟩, by decide, by decide, rfl, rfl, fun _ => rfl, fun _ => rfl, fun _ => rfl⟩ (c0k.ag (show agr [(0, 0), (0, 69), (0, 71), (0, 72), (0, 93), (0, 95), (0, 98), (0, 99)] [] V V35 from (agr.up (agr.up (agr.up (agr.tr (agr.up agr.rf hV6 rfl) ajV15 (by decide) (by decide)) hV25 rfl) hV26 rfl) hV35 rfl)) rfl) (by (first | exact om_36161e850215 t13 pq37 | omega))
    refine gA_int (gA_runV (As := [.int p0]) (rest := []) (ci := 12) (q0 := 0) hx hb hml hown hg hP hD hK hS hA hnw hgk (s_closeAllDT l D ks H.size ad kk V35 L p0 (gB) (grk) (p0.toInt) (0) hMV35 (by (first | exact om_fd7a8525539c r22.2 t30 pq31 f34 | omega)) r049 (show (V35 0 65).toInt ≤ (V35 0 60).toInt from by (first | exact om_3d4f17b65b82 n1 pq36 pq41 | omega)) (show (V35 0 73).toInt - (V35 0 65).toInt + (mu V35 : Int) ≤ 998000 from by omega) (show (V35 0 76).toInt - (V35 0 69).toInt - (V35 0 73).toInt ≤ 1000000000 from by (first | exact om_fd09720ec7c5 n4 r5.2 t10 pq43 pq44 pq45 | omega)) (show (V35 0 98).toInt = 0 from by (first | exact om_36161e850215 t12 pq46 | omega)) (show (V35 0 93).toInt = 0 from by (first | exact om_36161e850215 t11 pq47 | omega)) (fun h9 => ⟨BKm.ag (bkq (by rw [← ((up2_k hV35 (by decide)).trans ((up2_k hV26 (by decide)).trans ((up2_k hV25 (by decide)).trans ((ajV15 0 54 rfl).trans (up2_k hV6 (by decide))))))]; exact h9)).1 (show agr [(0, 0), (0, 69), (0, 71), (0, 72), (0, 93), (0, 95), (0, 98), (0, 99)] [] V V35 from (agr.up (agr.up (agr.up (agr.tr (agr.up agr.rf hV6 rfl) ajV15 (by decide) (by decide)) hV25 rfl) hV26 rfl) hV35 rfl)) (by decide), (bkq (by rw [← ((up2_k hV35 (by decide)).trans ((up2_k hV26 (by decide)).trans ((up2_k hV25 (by decide)).trans ((ajV15 0 54 rfl).trans (up2_k hV6 (by decide))))))]; exact h9)).2.1, RJm.ag (bkq (by rw [← ((up2_k hV35 (by decide)).trans ((up2_k hV26 (by decide)).trans ((up2_k hV25 (by decide)).trans ((ajV15 0 54 rfl).trans (up2_k hV6 (by decide))))))]; exact h9)).2.2 (agr.d95 (show agr [(0, 0), (0, 69), (0, 71), (0, 72), (0, 93), (0, 95), (0, 98), (0, 99)] [] V V35 from (agr.up (agr.up (agr.up (agr.tr (agr.up agr.rf hV6 rfl) ajV15 (by decide) (by decide)) hV25 rfl) hV26 rfl) hV35 rfl)) (by (first | exact om_844449b06c38 fz t13 pq37 | omega))) (by decide)⟩) (by rw [ns9]; exact scv) (by rw [ns9]; exact ptv) (show (V35 56 (Int32.toNatClampNeg p0)).toInt = 1 from by (first | exact om_2a29308878dd r24.2 t30 pq32 f34 pq39 | omega)) (show (V35 56 (Int32.toNatClampNeg p0)).toInt = 1 from by (first | exact om_2a29308878dd r24.2 t30 pq32 f34 pq39 | omega)) (show 0 ≤ (p0.toInt) ∧ (p0.toInt) < (V35 0 55).toInt from by (first | exact om_4c0d733fb20f t30 pq31 f34 pq38 | omega)) (show p0.toInt < (V35 0 55).toInt from by (first | exact om_c999c7f0b91c t30 pq31 f34 pq38 | omega)) (Or.inl rfl)) w2344 w2346 w153 w172 w2347 rfl rfl hdV_yX12_closeAll ⟨Nat.le_of_ble_eq_true rfl, Nat.le_of_ble_eq_true rfl⟩ rfl hl.1 rfl (Nat.le_of_ble_eq_true rfl) dX12_close_51 ⟨Nat.le_of_ble_eq_true rfl, Nat.le_of_ble_eq_true rfl⟩) hP hD hK hS hA (fun z50 u51 H locs w52 hP hD hK hS => ?_)
    obtain ⟨V63, L64⟩ := u51
    obtain ⟨hMV63, ajV63, axL64, rgz50, t53, t54, t55, t56, t57, t58, t59, t60, t61, t62⟩ := w52
    have axL64 : L = L64 := Eq.symm axL64
    subst axL64
    have hP : va_P D vwCl (mw ad kk ks.1 V63 L) H := hP
    have hD : va_D A (mw ad kk ks.1 V63 L) := hD
    have hMV63 : rgd bM V63 := hMV63
    have ajV63 : agr [(0, 60), (0, 65), (0, 68), (0, 69), (0, 73), (0, 76), (0, 90), (0, 91), (0, 92), (0, 93), (0, 95), (0, 96), (0, 98), (0, 99)] [56, 59, 61, 62, 63, 64, 66, 67, 74, 75, 77, 78, 79, 80, 94, 97] V35 V63 := ajV63
    have agV63 : agr [(0, 0), (0, 60), (0, 65), (0, 68), (0, 69), (0, 70), (0, 71), (0, 72), (0, 73), (0, 76), (0, 90), (0, 91), (0, 92), (0, 93), (0, 95), (0, 96), (0, 98), (0, 99)] [56, 59, 61, 62, 63, 64, 66, 67, 74, 75, 77, 78, 79, 80, 94, 97] V V63 := agV35.tr ajV63 (by decide) (by decide)
    have rgz50 : 0 ≤ z50.toInt ∧ z50.toInt ≤ 300 := rgz50
    have t53 : (V63 0 93).toInt = (V35 0 93).toInt := t53
    have t54 : (V63 0 98).toInt = (V35 0 98).toInt := t54
    have t55 : (V63 0 65).toInt ≤ (V63 0 60).toInt := t55
    have t56 : (V63 0 73).toInt - (V63 0 65).toInt + (mu V63 : Int) ≤ (V35 0 73).toInt - (V35 0 65).toInt + (mu V35 : Int) := t56
    have t57 : (V63 0 76).toInt - (V63 0 69).toInt - (V63 0 73).toInt ≤ (V35 0 76).toInt - (V35 0 69).toInt - (V35 0 73).toInt := t57
    have t58 : RT0 V63 := t58
    have t59 : z50.toInt + (mu V63 : Int) ≤ (mu V35 : Int) := t59
    have t60 : ∃ k9 : Nat, CLs (gB) (V35 0 55).toInt.toNat (p0.toInt) k9 (mV V35 0 0 0, (V35 0 99).toInt, (0)) ((if (Int32.toNatClampNeg p0) = 0 then mU (mV V63 0 0 0) 11 0 0 else mV V63 0 0 0), (V63 0 99).toInt, (0) + z50.toInt) ∧ (k9 : Int) + (mu V63 : Int) + (opc V63 40 : Int) ≤ (mu V35 : Int) + (opc V35 40 : Int) + (if (Int32.toNatClampNeg p0) = 0 then 1 else 0) := t60
    have t61 : OPk V35 V63 (Int32.toNatClampNeg p0) := t61
    have t62 : (V63 0 54).toInt = 1 → RJm V63 (gB) := t62
    have r65 : 0 ≤ ((V63 0 93)).toInt ∧ ((V63 0 93)).toInt ≤ 10 := hMV63 0 93
    have r66 : 0 ≤ ((V63 0 98)).toInt ∧ ((V63 0 98)).toInt ≤ 20000 := hMV63 0 98
    have r67 : 0 ≤ ((V63 0 65)).toInt ∧ ((V63 0 65)).toInt ≤ 1000000 := hMV63 0 65
    have r68 : 0 ≤ ((V63 0 60)).toInt ∧ ((V63 0 60)).toInt ≤ 300 := hMV63 0 60
    have r69 : 0 ≤ ((V63 0 73)).toInt ∧ ((V63 0 73)).toInt ≤ 1000000 := hMV63 0 73
    have r70 : 0 ≤ ((V63 0 76)).toInt ∧ ((V63 0 76)).toInt ≤ 2000000000 := hMV63 0 76
    have r71 : 0 ≤ ((V63 0 69)).toInt ∧ ((V63 0 69)).toInt ≤ 3000 := hMV63 0 69
    refine lv_istore (lv' := [(4, .int z50), (3, .int (V 0 72)), (2, .int (V 0 71)), (0, .ref (ad 0)), (1, .int p0)]) hx hb dX12_close_54 hl (by decide) rfl (fun ls hl => ?_)
    refine lv_aload_n hx hb dX12_close_56 rfl (lv_at hl 3 rfl) ?_
    refine lv_aload_n hx hb dX12_close_57 rfl (lv_at hl 3 rfl) ?_
    refine va_get (D := D) (ci := 12) (v := .int (V63 0 99)) (C := RX12) (T := TX12) (N := 100) hx hb hg inX12 hown hK hP 0 rfl rfl 99 (by decide) (hg _ w1805) (fun _ h9 => h9) rfl dX12_close_58 ?_
    have r72 : 0 ≤ ((V63 0 99)).toInt ∧ ((V63 0 99)).toInt ≤ 1 := hMV63 0 99
    refine lv_if_eq (tgt := 69) hx hb dX12_close_61 (by decide) (fun c73 => ?_) (fun c73 => ?_)
    · skip
      have f74 : ((V63 0 99)).toInt = 0 := b_eq rfl (by decide) c73
      refine lv_iconst (v := 0) hx hb dX12_close_69 (by decide) ?_
      refine va_put (D := D) (ci := 12) (v := .int 0) (ty := tyX12 70) (C := RX12) (T := TX12) (N := 100) hx hb hg inX12 tyX12 tyX12_ok nmX12 hown hK hP hD hS 0 rfl rfl 70 (by decide) (hg _ w1776) (fun _ h9 => h9) rfl (tyX12_ok 70 (by decide)) rfl rfl (Nat.le_of_ble_eq_true rfl) dX12_close_70 (fun H locs hP hD hS => ?_)
      obtain ⟨V75, hV75⟩ : ∃ z, z = up2 V63 0 70 0 := ⟨_, rfl⟩
      have hP : va_P D vwCl (mw ad kk ks.1 V75 L) H := by rw [hV75]; exact hP
      have hD : va_D A (mw ad kk ks.1 V75 L) := by rw [hV75]; exact hD
      have hMV75 : rgd bM V75 := hMV63.put hV75 (i_full _)
      have agV75 : agr [(0, 0), (0, 60), (0, 65), (0, 68), (0, 69), (0, 70), (0, 71), (0, 72), (0, 73), (0, 76), (0, 90), (0, 91), (0, 92), (0, 93), (0, 95), (0, 96), (0, 98), (0, 99)] [56, 59, 61, 62, 63, 64, 66, 67, 74, 75, 77, 78, 79, 80, 94, 97] V V75 := agV63.up hV75 rfl
      refine lv_aload_n hx hb dX12_close_73 rfl (lv_at hl 3 rfl) ?_
      refine va_get (D := D) (ci := 12) (v := .int (V75 0 99)) (C := RX12) (T := TX12) (N := 100) hx hb hg inX12 hown hK hP 0 rfl rfl 99 (by decide) (hg _ w1805) (fun _ h9 => h9) rfl dX12_close_74 ?_
      refine g_top (v := (V63 0 99)) (up2_k hV75 (by decide)) ?_
      refine lv_if_eq (tgt := 84) hx hb dX12_close_77 (by decide) (fun c76 => ?_) (fun c76 => ?_)
      · skip
        have f77 : ((V63 0 99)).toInt = 0 := b_eq rfl (by decide) c76
        refine lv_iload hx hb dX12_close_84 (lv_at hl 0 rfl) ?_
        have pq78 : (V75 0 65).toInt = ((V63 0 65)).toInt := congrArg Int32.toInt (up2_k hV75 (by decide))
        have pq79 : (V75 0 60).toInt = ((V63 0 60)).toInt := congrArg Int32.toInt (up2_k hV75 (by decide))
        have pq80 : (V75 0 73).toInt = ((V63 0 73)).toInt := congrArg Int32.toInt (up2_k hV75 (by decide))
        have pq81 : (V75 0 76).toInt = ((V63 0 76)).toInt := congrArg Int32.toInt (up2_k hV75 (by decide))
        have pq82 : (V75 0 69).toInt = ((V63 0 69)).toInt := congrArg Int32.toInt (up2_k hV75 (by decide))
        have pq83 : (V75 0 95).toInt = ((V63 0 95)).toInt := congrArg Int32.toInt (up2_k hV75 (by decide))
        have r84 : 0 ≤ ((V63 0 95)).toInt ∧ ((V63 0 95)).toInt ≤ 300 := hMV63 0 95
        have fz85 : (V63 0 95).toInt = 0 := t58.2.2.2.2
        have r086 : RT0 V75 := RT0.ag t58 hMV63 (show agr [(0, 70)] [] V63 V75 from (agr.up agr.rf hV75 rfl)) ⟨⟨rfl, fun _ => rfl, fun _ => rfl, fun _ => rfl, fun _ => rfl, fun _ => rfl, fun _ => rfl⟩, by decide, by decide, rfl, rfl, fun _ => rfl, fun _ => rfl, fun _ => rfl⟩ (c0k.ag (show agr [(0, 70)] [] V63 V75 from (agr.up agr.rf hV75 rfl)) rfl) (by (first | exact om_5e83b1f116bb pq83 r84.1 fz85 | omega))
        have pq88 : (V75 0 99).toInt = ((V63 0 99)).toInt := congrArg Int32.toInt (up2_k hV75 (by decide))
        have mvw : mV V75 0 0 0 = mV V63 0 0 0 := mV_ag (show agr [(0, 70)] [] V63 V75 from (agr.up agr.rf hV75 rfl)) (by decide)
        have cy87 : ∃ n, CLo gB (V 0 55).toInt.toNat p0.toInt (mU (mV V 0 0 0) 0 1 0) V75 (V75 0 99).toInt n ∧ (((V75 0 99).toInt = 0 ∧ z50.toInt = n) ∨ ((V75 0 99).toInt ≠ 0 ∧ z50.toInt = -1)) := by
          have h9 := CLo.of (n := z50.toInt) (sc := p0.toInt) (s := Int32.toNatClampNeg p0) (x := mU (mV V 0 0 0) 0 1 0) (ns := (V 0 55).toInt.toNat) rfl (by have h8 := t60; rw [ns9, mbv, show (V35 0 99).toInt = 0 from by omega] at h8; exact h8) (hMV35 0 60).2 t61
          refine ⟨z50.toInt, ?_, Or.inl ⟨by omega, by omega⟩⟩
          unfold CLo ymW at h9 ⊢
          rw [mvw, show (V75 0 99).toInt = (V63 0 99).toInt from by omega]
          exact h9
        have pq89 : (V75 0 71).toInt = ((V 0 71)).toInt := congrArg Int32.toInt ((up2_k hV75 (by decide)).trans ((ajV63 0 71 rfl).trans ((up2_k hV35 (by decide)).trans ((up2_k hV26 (by decide)).trans (up2_s hV25)))))
        have pq90 : (V75 0 72).toInt = ((V 0 72)).toInt := congrArg Int32.toInt ((up2_k hV75 (by decide)).trans ((ajV63 0 72 rfl).trans ((up2_k hV35 (by decide)).trans (up2_s hV26))))
        have sc91 : SCm (mV V75 0 0 0) (V 0 55).toInt.toNat := SCm.eq (SCm.opk scv t61 (fun j9 => (show agr [(0, 60), (0, 65), (0, 68), (0, 69), (0, 73), (0, 76), (0, 90), (0, 91), (0, 92), (0, 93), (0, 95), (0, 96), (0, 98), (0, 99)] [56, 59, 61, 62, 63, 64, 66, 67, 74, 75, 77, 78, 79, 80, 94, 97] V35 V63 from (agr.tr agr.rf ajV63 (by decide) (by decide))) 57 j9 rfl) (fun j9 => (show agr [(0, 60), (0, 65), (0, 68), (0, 69), (0, 73), (0, 76), (0, 90), (0, 91), (0, 92), (0, 93), (0, 95), (0, 96), (0, 98), (0, 99)] [56, 59, 61, 62, 63, 64, 66, 67, 74, 75, 77, 78, 79, 80, 94, 97] V35 V63 from (agr.tr agr.rf ajV63 (by decide) (by decide))) 58 j9 rfl) (SCm.k0 scv (by omega))) (fun j9 => congrArg Int32.toInt ((show agr [(0, 70)] [] V63 V75 from (agr.up agr.rf hV75 rfl)) 56 j9 rfl)) (fun j9 => congrArg Int32.toInt ((show agr [(0, 70)] [] V63 V75 from (agr.up agr.rf hV75 rfl)) 57 j9 rfl)) (fun j9 => congrArg Int32.toInt ((show agr [(0, 70)] [] V63 V75 from (agr.up agr.rf hV75 rfl)) 58 j9 rfl))
        exact W.iret (v := z50) hx hb hr (fun t ht hW => ⟨⟨z50, (V75, L), rfl, ⟨hMV75, agV75, rfl, (show (V75 0 65).toInt ≤ (V75 0 60).toInt from by (first | exact om_842ee80c0797 t55 pq78 pq79 | omega)), (show (V75 0 73).toInt - (V75 0 65).toInt ≤ (V 0 73).toInt - (V 0 65).toInt + 300 from by omega), (show (V75 0 76).toInt - (V75 0 69).toInt - (V75 0 73).toInt ≤ (V 0 76).toInt - (V 0 69).toInt - (V 0 73).toInt + 3000 from by (first | exact om_633dec4f9454 r5.2 t10 pq43 pq44 pq45 t57 pq80 pq81 pq82 | omega)), r086, (fun _ => cy87), (fun h9 => absurd ⟨by omega, by omega, by omega⟩ h9), ⟨by omega, by omega⟩, (by show SCm (mV V75 0 0 0) (V75 0 55).toInt.toNat; rw [((up2_k hV75 (by decide)).trans ((ajV63 0 55 rfl).trans ((up2_k hV35 (by decide)).trans ((up2_k hV26 (by decide)).trans ((up2_k hV25 (by decide)).trans ((ajV15 0 55 rfl).trans (up2_k hV6 (by decide))))))))]; exact sc91), (fun h9 => RJm.ag (t62 (by rw [← (up2_k hV75 (by decide))]; exact h9)) (show agr [(0, 70)] [] V63 V75 from (agr.up agr.rf hV75 rfl)) (by decide))⟩, by rw [ht]; exact hP, va_K.moved hW.alike hK, hD⟩, hS.F ht⟩) hS.2.2 dX12_close_86
      · skip
        have f92 : ((V63 0 99)).toInt ≠ 0 := b_neq rfl (by decide) c76
        exfalso; (first | exact om_fb320d7600b7 r72.1 f74 f92 | omega)
    · skip
      have f93 : ((V63 0 99)).toInt ≠ 0 := b_neq rfl (by decide) c73
      refine lv_bipush (v := 6) hx hb dX12_close_64 (by decide) ?_
      refine lv_goto (tgt := 70) hx hb dX12_close_66 (by decide) ?_
      refine va_put (D := D) (ci := 12) (v := .int 6) (ty := tyX12 70) (C := RX12) (T := TX12) (N := 100) hx hb hg inX12 tyX12 tyX12_ok nmX12 hown hK hP hD hS 0 rfl rfl 70 (by decide) (hg _ w1776) (fun _ h9 => h9) rfl (tyX12_ok 70 (by decide)) rfl rfl (Nat.le_of_ble_eq_true rfl) dX12_close_70 (fun H locs hP hD hS => ?_)
      obtain ⟨V94, hV94⟩ : ∃ z, z = up2 V63 0 70 6 := ⟨_, rfl⟩
      have hP : va_P D vwCl (mw ad kk ks.1 V94 L) H := by rw [hV94]; exact hP
      have hD : va_D A (mw ad kk ks.1 V94 L) := by rw [hV94]; exact hD
      have hMV94 : rgd bM V94 := hMV63.put hV94 (i_full _)
      have agV94 : agr [(0, 0), (0, 60), (0, 65), (0, 68), (0, 69), (0, 70), (0, 71), (0, 72), (0, 73), (0, 76), (0, 90), (0, 91), (0, 92), (0, 93), (0, 95), (0, 96), (0, 98), (0, 99)] [56, 59, 61, 62, 63, 64, 66, 67, 74, 75, 77, 78, 79, 80, 94, 97] V V94 := agV63.up hV94 rfl
      refine lv_aload_n hx hb dX12_close_73 rfl (lv_at hl 3 rfl) ?_
      refine va_get (D := D) (ci := 12) (v := .int (V94 0 99)) (C := RX12) (T := TX12) (N := 100) hx hb hg inX12 hown hK hP 0 rfl rfl 99 (by decide) (hg _ w1805) (fun _ h9 => h9) rfl dX12_close_74 ?_
      refine g_top (v := (V63 0 99)) (up2_k hV94 (by decide)) ?_
      refine lv_if_eq (tgt := 84) hx hb dX12_close_77 (by decide) (fun c95 => ?_) (fun c95 => ?_)
      · skip
        have f96 : ((V63 0 99)).toInt = 0 := b_eq rfl (by decide) c95
        exfalso; (first | exact om_0abcda13baee r72.1 f93 f96 | omega)
      · skip
        have f97 : ((V63 0 99)).toInt ≠ 0 := b_neq rfl (by decide) c95
        refine lv_iconst (v := (-1)) hx hb dX12_close_80 (by decide) ?_
        refine lv_goto (tgt := 86) hx hb dX12_close_81 (by decide) ?_
        have pq98 : (V94 0 65).toInt = ((V63 0 65)).toInt := congrArg Int32.toInt (up2_k hV94 (by decide))
        have pq99 : (V94 0 60).toInt = ((V63 0 60)).toInt := congrArg Int32.toInt (up2_k hV94 (by decide))
        have pq100 : (V94 0 73).toInt = ((V63 0 73)).toInt := congrArg Int32.toInt (up2_k hV94 (by decide))
        have pq101 : (V94 0 76).toInt = ((V63 0 76)).toInt := congrArg Int32.toInt (up2_k hV94 (by decide))
        have pq102 : (V94 0 69).toInt = ((V63 0 69)).toInt := congrArg Int32.toInt (up2_k hV94 (by decide))
        have pq103 : (V94 0 95).toInt = ((V63 0 95)).toInt := congrArg Int32.toInt (up2_k hV94 (by decide))
        have r104 : 0 ≤ ((V63 0 95)).toInt ∧ ((V63 0 95)).toInt ≤ 300 := hMV63 0 95
        have fz105 : (V63 0 95).toInt = 0 := t58.2.2.2.2
        have r0106 : RT0 V94 := RT0.ag t58 hMV63 (show agr [(0, 70)] [] V63 V94 from (agr.up agr.rf hV94 rfl)) ⟨⟨rfl, fun _ => rfl, fun _ => rfl, fun _ => rfl, fun _ => rfl, fun _ => rfl, fun _ => rfl⟩, by decide, by decide, rfl, rfl, fun _ => rfl, fun _ => rfl, fun _ => rfl⟩ (c0k.ag (show agr [(0, 70)] [] V63 V94 from (agr.up agr.rf hV94 rfl)) rfl) (by (first | exact om_5e83b1f116bb pq103 r104.1 fz105 | omega))
        have pq108 : (V94 0 99).toInt = ((V63 0 99)).toInt := congrArg Int32.toInt (up2_k hV94 (by decide))
        have mvw : mV V94 0 0 0 = mV V63 0 0 0 := mV_ag (show agr [(0, 70)] [] V63 V94 from (agr.up agr.rf hV94 rfl)) (by decide)
        have cy107 : ∃ n, CLo gB (V 0 55).toInt.toNat p0.toInt (mU (mV V 0 0 0) 0 1 0) V94 (V94 0 99).toInt n ∧ (((V94 0 99).toInt = 0 ∧ Int32.toInt (-1) = n) ∨ ((V94 0 99).toInt ≠ 0 ∧ Int32.toInt (-1) = -1)) := by
          have h9 := CLo.of (n := z50.toInt) (sc := p0.toInt) (s := Int32.toNatClampNeg p0) (x := mU (mV V 0 0 0) 0 1 0) (ns := (V 0 55).toInt.toNat) rfl (by have h8 := t60; rw [ns9, mbv, show (V35 0 99).toInt = 0 from by omega] at h8; exact h8) (hMV35 0 60).2 t61
          refine ⟨z50.toInt, ?_, Or.inr ⟨by omega, by decide⟩⟩
          unfold CLo ymW at h9 ⊢
          rw [mvw, show (V94 0 99).toInt = (V63 0 99).toInt from by omega]
          exact h9
        have pq109 : (V94 0 71).toInt = ((V 0 71)).toInt := congrArg Int32.toInt ((up2_k hV94 (by decide)).trans ((ajV63 0 71 rfl).trans ((up2_k hV35 (by decide)).trans ((up2_k hV26 (by decide)).trans (up2_s hV25)))))
        have pq110 : (V94 0 72).toInt = ((V 0 72)).toInt := congrArg Int32.toInt ((up2_k hV94 (by decide)).trans ((ajV63 0 72 rfl).trans ((up2_k hV35 (by decide)).trans (up2_s hV26))))
        have sc111 : SCm (mV V94 0 0 0) (V 0 55).toInt.toNat := SCm.eq (SCm.opk scv t61 (fun j9 => (show agr [(0, 60), (0, 65), (0, 68), (0, 69), (0, 73), (0, 76), (0, 90), (0, 91), (0, 92), (0, 93), (0, 95), (0, 96), (0, 98), (0, 99)] [56, 59, 61, 62, 63, 64, 66, 67, 74, 75, 77, 78, 79, 80, 94, 97] V35 V63 from (agr.tr agr.rf ajV63 (by decide) (by decide))) 57 j9 rfl) (fun j9 => (show agr [(0, 60), (0, 65), (0, 68), (0, 69), (0, 73), (0, 76), (0, 90), (0, 91), (0, 92), (0, 93), (0, 95), (0, 96), (0, 98), (0, 99)] [56, 59, 61, 62, 63, 64, 66, 67, 74, 75, 77, 78, 79, 80, 94, 97] V35 V63 from (agr.tr agr.rf ajV63 (by decide) (by decide))) 58 j9 rfl) (SCm.k0 scv (by omega))) (fun j9 => congrArg Int32.toInt ((show agr [(0, 70)] [] V63 V94 from (agr.up agr.rf hV94 rfl)) 56 j9 rfl)) (fun j9 => congrArg Int32.toInt ((show agr [(0, 70)] [] V63 V94 from (agr.up agr.rf hV94 rfl)) 57 j9 rfl)) (fun j9 => congrArg Int32.toInt ((show agr [(0, 70)] [] V63 V94 from (agr.up agr.rf hV94 rfl)) 58 j9 rfl))
        exact W.iret (v := (-1)) hx hb hr (fun t ht hW => ⟨⟨(-1), (V94, L), rfl, ⟨hMV94, agV94, rfl, (show (V94 0 65).toInt ≤ (V94 0 60).toInt from by (first | exact om_842ee80c0797 t55 pq98 pq99 | omega)), (show (V94 0 73).toInt - (V94 0 65).toInt ≤ (V 0 73).toInt - (V 0 65).toInt + 300 from by omega), (show (V94 0 76).toInt - (V94 0 69).toInt - (V94 0 73).toInt ≤ (V 0 76).toInt - (V 0 69).toInt - (V 0 73).toInt + 3000 from by (first | exact om_633dec4f9454 r5.2 t10 pq43 pq44 pq45 t57 pq100 pq101 pq102 | omega)), r0106, (fun _ => cy107), (fun h9 => absurd ⟨by omega, by omega, by omega⟩ h9), ⟨by omega, by omega⟩, (by show SCm (mV V94 0 0 0) (V94 0 55).toInt.toNat; rw [((up2_k hV94 (by decide)).trans ((ajV63 0 55 rfl).trans ((up2_k hV35 (by decide)).trans ((up2_k hV26 (by decide)).trans ((up2_k hV25 (by decide)).trans ((ajV15 0 55 rfl).trans (up2_k hV6 (by decide))))))))]; exact sc111), (fun h9 => RJm.ag (t62 (by rw [← (up2_k hV94 (by decide))]; exact h9)) (show agr [(0, 70)] [] V63 V94 from (agr.up agr.rf hV94 rfl)) (by decide))⟩, by rw [ht]; exact hP, va_K.moved hW.alike hK, hD⟩, hS.F ht⟩) hS.2.2 dX12_close_86
  · skip
    have f112 : z27.toInt = 0 := b_eq rfl (by decide) c33
    refine lv_aload_n hx hb dX12_close_37 rfl (lv_at hl 2 rfl) ?_
    refine lv_iconst (v := 3) hx hb dX12_close_38 (by decide) ?_
    refine va_put (D := D) (ci := 12) (v := .int 3) (ty := tyX12 70) (C := RX12) (T := TX12) (N := 100) hx hb hg inX12 tyX12 tyX12_ok nmX12 hown hK hP hD hS 0 rfl rfl 70 (by decide) (hg _ w1776) (fun _ h9 => h9) rfl (tyX12_ok 70 (by decide)) rfl rfl (Nat.le_of_ble_eq_true rfl) dX12_close_39 (fun H locs hP hD hS => ?_)
    obtain ⟨V113, hV113⟩ : ∃ z, z = up2 V26 0 70 3 := ⟨_, rfl⟩
    have hP : va_P D vwCl (mw ad kk ks.1 V113 L) H := by rw [hV113]; exact hP
    have hD : va_D A (mw ad kk ks.1 V113 L) := by rw [hV113]; exact hD
    have hMV113 : rgd bM V113 := hMV26.put hV113 (i_full _)
    have agV113 : agr [(0, 0), (0, 60), (0, 65), (0, 68), (0, 69), (0, 70), (0, 71), (0, 72), (0, 73), (0, 76), (0, 90), (0, 91), (0, 92), (0, 93), (0, 95), (0, 96), (0, 98), (0, 99)] [56, 59, 61, 62, 63, 64, 66, 67, 74, 75, 77, 78, 79, 80, 94, 97] V V113 := agV26.up hV113 rfl
    refine lv_iconst (v := (-1)) hx hb dX12_close_42 (by decide) ?_
    have pq114 : (V113 0 65).toInt = ((V 0 65)).toInt := congrArg Int32.toInt ((up2_k hV113 (by decide)).trans ((up2_k hV26 (by decide)).trans ((up2_k hV25 (by decide)).trans ((ajV15 0 65 rfl).trans (up2_k hV6 (by decide))))))
    have pq115 : (V113 0 60).toInt = ((V 0 60)).toInt := congrArg Int32.toInt ((up2_k hV113 (by decide)).trans ((up2_k hV26 (by decide)).trans ((up2_k hV25 (by decide)).trans ((ajV15 0 60 rfl).trans (up2_k hV6 (by decide))))))
    have pq116 : (V113 0 73).toInt = ((V 0 73)).toInt := congrArg Int32.toInt ((up2_k hV113 (by decide)).trans ((up2_k hV26 (by decide)).trans ((up2_k hV25 (by decide)).trans ((ajV15 0 73 rfl).trans (up2_k hV6 (by decide))))))
    have pq117 : (V113 0 76).toInt = ((V 0 76)).toInt := congrArg Int32.toInt ((up2_k hV113 (by decide)).trans ((up2_k hV26 (by decide)).trans ((up2_k hV25 (by decide)).trans ((ajV15 0 76 rfl).trans (up2_k hV6 (by decide))))))
    have pq118 : (V113 0 69).toInt = ((V15 0 69)).toInt := congrArg Int32.toInt ((up2_k hV113 (by decide)).trans ((up2_k hV26 (by decide)).trans (up2_k hV25 (by decide))))
    have pq119 : (V113 0 95).toInt = ((V15 0 95)).toInt := congrArg Int32.toInt ((up2_k hV113 (by decide)).trans ((up2_k hV26 (by decide)).trans (up2_k hV25 (by decide))))
    have fz120 : (V 0 95).toInt = 0 := r0.2.2.2.2
    have r0121 : RT0 V113 := RT0.ag r0 hMV (show agr [(0, 0), (0, 69), (0, 70), (0, 71), (0, 72), (0, 93), (0, 95), (0, 98)] [] V V113 from (agr.up (agr.up (agr.up (agr.tr (agr.up agr.rf hV6 rfl) ajV15 (by decide) (by decide)) hV25 rfl) hV26 rfl) hV113 rfl)) ⟨⟨rfl, fun _ => rfl, fun _ => rfl, fun _ => rfl, fun _ => rfl, fun _ => rfl, fun _ => rfl⟩, by decide, by decide, rfl, rfl, fun _ => rfl, fun _ => rfl, fun _ => rfl⟩ (c0k.ag (show agr [(0, 0), (0, 69), (0, 70), (0, 71), (0, 72), (0, 93), (0, 95), (0, 98)] [] V V113 from (agr.up (agr.up (agr.up (agr.tr (agr.up agr.rf hV6 rfl) ajV15 (by decide) (by decide)) hV25 rfl) hV26 rfl) hV113 rfl)) rfl) (by (first | exact om_36161e850215 t13 pq119 | omega))
    have pq122 : (V113 0 71).toInt = ((V 0 71)).toInt := congrArg Int32.toInt ((up2_k hV113 (by decide)).trans ((up2_k hV26 (by decide)).trans (up2_s hV25)))
    have pq123 : (V113 0 72).toInt = ((V 0 72)).toInt := congrArg Int32.toInt ((up2_k hV113 (by decide)).trans (up2_s hV26))
    have fz8 : (V 0 95).toInt = 0 := r0.2.2.2.2
    exact W.iret (v := (-1)) hx hb hr (fun t ht hW => ⟨⟨(-1), (V113, L), rfl, ⟨hMV113, agV113, rfl, (show (V113 0 65).toInt ≤ (V113 0 60).toInt from by (first | exact om_842ee80c0797 n1 pq114 pq115 | omega)), (show (V113 0 73).toInt - (V113 0 65).toInt ≤ (V 0 73).toInt - (V 0 65).toInt + 300 from by (first | exact om_763a2df3161d pq114 pq116 | omega)), (show (V113 0 76).toInt - (V113 0 69).toInt - (V113 0 73).toInt ≤ (V 0 76).toInt - (V 0 69).toInt - (V 0 73).toInt + 3000 from by (first | exact om_aa2ebae7eb1c r5.2 t10 pq116 pq117 pq118 | omega)), r0121, (fun h9 => by have h1 := h9.1; have h2 := h9.2.1; have h3 := h9.2.2; exfalso; omega), (fun _ => ⟨by decide, by rw [mV_ag (show agr [(0, 70), (0, 71), (0, 72)] [] V15 V113 from (agr.up (agr.up (agr.up agr.rf hV25 rfl) hV26 rfl) hV113 rfl)) (by decide), mb9]⟩), ⟨by omega, by omega⟩, (by show SCm (mV V113 0 0 0) (V113 0 55).toInt.toNat; rw [((up2_k hV113 (by decide)).trans ((up2_k hV26 (by decide)).trans ((up2_k hV25 (by decide)).trans ((ajV15 0 55 rfl).trans (up2_k hV6 (by decide))))))]; exact SCm.eq scq (fun j9 => congrArg Int32.toInt ((show agr [(0, 0), (0, 69), (0, 70), (0, 71), (0, 72), (0, 93), (0, 95), (0, 98)] [] V V113 from (agr.up (agr.up (agr.up (agr.tr (agr.up agr.rf hV6 rfl) ajV15 (by decide) (by decide)) hV25 rfl) hV26 rfl) hV113 rfl)) 56 j9 rfl)) (fun j9 => congrArg Int32.toInt ((show agr [(0, 0), (0, 69), (0, 70), (0, 71), (0, 72), (0, 93), (0, 95), (0, 98)] [] V V113 from (agr.up (agr.up (agr.up (agr.tr (agr.up agr.rf hV6 rfl) ajV15 (by decide) (by decide)) hV25 rfl) hV26 rfl) hV113 rfl)) 57 j9 rfl)) (fun j9 => congrArg Int32.toInt ((show agr [(0, 0), (0, 69), (0, 70), (0, 71), (0, 72), (0, 93), (0, 95), (0, 98)] [] V V113 from (agr.up (agr.up (agr.up (agr.tr (agr.up agr.rf hV6 rfl) ajV15 (by decide) (by decide)) hV25 rfl) hV26 rfl) hV113 rfl)) 58 j9 rfl))), (fun h9 => RJm.ag (bkq (by rw [← ((up2_k hV113 (by decide)).trans ((up2_k hV26 (by decide)).trans ((up2_k hV25 (by decide)).trans ((ajV15 0 54 rfl).trans (up2_k hV6 (by decide))))))]; exact h9)).2.2 (agr.d95 (show agr [(0, 0), (0, 69), (0, 70), (0, 71), (0, 72), (0, 93), (0, 95), (0, 98)] [] V V113 from (agr.up (agr.up (agr.up (agr.tr (agr.up agr.rf hV6 rfl) ajV15 (by decide) (by decide)) hV25 rfl) hV26 rfl) hV113 rfl)) (show (V113 0 95).toInt = (V 0 95).toInt from by (first | exact om_844449b06c38 fz t13 pq119 | omega))) (by decide))⟩, by rw [ht]; exact hP, va_K.moved hW.alike hK, hD⟩, hS.F ht⟩) hS.2.2 dX12_close_43
end
