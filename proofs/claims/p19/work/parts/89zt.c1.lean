section
/-! the class at work: its cells are the machine's numbers and frames -/
/-- a chain of links: whom they hold (ow: to which need of which object a link belongs) -/
def CHN (V : Vf) (ow : Nat → Nat) (q : Nat) : List Int → Int → Prop
  | [], lk => lk = -1
  | x :: l, lk => (0 ≤ lk ∧ lk < (V 3 15).toInt ∧ ow lk.toNat = q) ∧ (V 31 lk.toNat).toInt = x ∧ CHN V ow q l (V 32 lk.toNat).toInt
def jl (m : Mm) (q : Nat) : List Int := (List.range (m 6 q).toNat).map (fun i => m 7 (24 * q + i))
/-- numbers: objects, ends, STEPS, closings -/
def RWa (V : Vf) (m : Mm) : Prop := ((V 5 14).toInt = m 0 0 ∧ (V 5 13).toInt = m 0 1 ∧ (V 3 13).toInt = m 0 2 ∧ (V 3 14).toInt = m 0 3) ∧ ((V 4 6).toInt = min 300 (m 0 5) ∧ 0 ≤ m 0 5) ∧ (∀ i : Nat, i < 300 → (i : Int) < m 0 5 → (V 36 i).toInt = m 9 i ∧ (V 37 i).toInt = m 10 i)
/-- each object's row; ns: how many scopes there are -/
def RWo (V : Vf) (B : Bk) (m : Mm) : Prop := ∀ o : Nat, (o : Int) < m 0 2 → ((V 26 o).toInt = m 1 o ∧ (V 27 o).toInt = m 2 o ∧ (V 28 o).toInt = m 3 o) ∧ (m 3 o = 1 → (V 29 o).toInt = m 4 o) ∧ (0 ≤ m 1 o ∧ m 1 o < ((nC B : Nat) : Int)) ∧ (0 ≤ m 2 o ∧ m 2 o < (V 3 12).toInt) ∧ (0 ≤ m 3 o ∧ m 3 o ≤ 2)
def RWj (V : Vf) (ow : Nat → Nat) (m : Mm) : Prop := ∀ o k : Nat, (o : Int) < m 0 2 → k < 8 → CHN V ow (8 * o + k) (jl m (8 * o + k)) (V 30 (8 * o + k)).toInt ∧ 0 ≤ m 6 (8 * o + k) ∧ m 6 (8 * o + k) ≤ 24
/-- scopes -/
def RWs (V : Vf) (m : Mm) : Prop := ((1 ≤ (V 3 12).toInt ∧ (V 3 12).toInt ≤ 40) ∧ ∀ s : Nat, (V 3 12).toInt ≤ (s : Int) → s < 40 → V 24 s = 0) ∧ (∀ s : Nat, s < 40 → (V 21 s).toInt = m 12 s) ∧ ∀ s : Nat, (s : Int) < (V 3 12).toInt → (V 23 s).toInt = m 11 s ∧ (m 12 s = 2 → (V 22 s).toInt = m 13 s ∧ 0 ≤ m 13 s ∧ m 13 s < (V 3 12).toInt) ∧ ∀ c : Nat, c < 24 → ((bt (V 24 s) c = true) ↔ m 8 (24 * s + c) ≠ 0)
/-- who is present: the one that is not gone -/
def RWp (V : Vf) (B : Bk) (m : Mm) : Prop := (∀ pl c : Nat, pl < 40 → c < nC B → bS B c ≠ 3 → (V 25 (24 * pl + c)).toInt = prs m pl c (m 0 2).toNat) ∧ ∀ o p : Nat, o < p → (p : Int) < m 0 2 → m 1 o = m 1 p → m 2 o = m 2 p → bS B (m 1 o).toNat ≠ 3 → m 3 o < 2 → ¬ m 3 p < 2
def RWn (V : Vf) (ow : Nat → Nat) (B : Bk) (m : Mm) : Prop := RWa V m ∧ RWo V B m ∧ RWj V ow m ∧ RWs V m ∧ RWp V B m
/-- one frame -/
def kp (V : Vf) (i : Nat) (k p : Int) : Prop := (V 67 i).toInt = k ∧ (V 68 i).toInt = p
def ocs (V : Vf) (B : Bk) (i : Nat) (o c sc lv : Int) : Prop := (V 69 i).toInt = lv ∧ ((V 70 i).toInt = o ∧ 0 ≤ o ∧ o < (V 3 13).toInt) ∧ ((V 71 i).toInt = c ∧ 0 ≤ c ∧ c < ((nC B : Nat) : Int)) ∧ ((V 72 i).toInt = sc ∧ 0 ≤ sc ∧ sc < (V 3 12).toInt)
def FRc (V : Vf) (B : Bk) (i : Nat) (f : Fr) : Prop := match f with
  | (0, [lv, c, sc, mk9], [], []) => kp V i 0 0 ∧ (V 69 i).toInt = lv ∧ ((V 71 i).toInt = c ∧ 0 ≤ c ∧ c < ((nC B : Nat) : Int)) ∧ ((V 72 i).toInt = sc ∧ 0 ≤ sc ∧ sc < (V 3 12).toInt) ∧ (V 80 i).toInt = mk9 ∧ (V 83 i).toInt = 0
  | (1, [lv, _, _, mk9], [], []) => kp V i 0 1 ∧ (V 69 i).toInt = lv ∧ (V 80 i).toInt = mk9 ∧ (V 83 i).toInt = 0
  | (2, [lv, mk9, nd, fl, sp], [], []) => kp V i 0 2 ∧ (V 69 i).toInt = lv ∧ (V 80 i).toInt = mk9 ∧ (V 81 i).toInt = nd ∧ (V 82 i).toInt = fl ∧ ((V 83 i).toInt = sp ∧ (sp = 0 ∨ sp = 1))
  | (3, [lv, o, c, pl, ps, it], [], []) => kp V i 1 0 ∧ ocs V B i o c pl lv ∧ (V 75 i).toInt = ps ∧ (V 76 i).toInt = it
  | (4, [lv, o, c, pl], [], []) => kp V i 1 1 ∧ ocs V B i o c pl lv
  | (5, [lv, o, c, sc, me], [v], []) => kp V i 2 0 ∧ (V 69 i).toInt = lv ∧ (V 70 i).toInt = o ∧ (0 ≤ o → o < (V 3 13).toInt ∧ (V 71 i).toInt = c) ∧ (0 ≤ (V 71 i).toInt ∧ (V 71 i).toInt < ((nC B : Nat) : Int)) ∧ ((V 72 i).toInt = sc ∧ 0 ≤ sc ∧ sc < (V 3 12).toInt) ∧ ((V 73 i).toInt = me ∧ 0 ≤ me ∧ me ≤ 19) ∧ V 74 i = v
  | (6, [lv, o, c, sc, me], [], []) => kp V i 2 1 ∧ ocs V B i o c sc lv ∧ ((V 73 i).toInt = me ∧ 0 ≤ me ∧ me ≤ 19)
  | (7, [lv, o, c, sc, me, ps, nd, fl], [], []) => kp V i 2 3 ∧ ocs V B i o c sc lv ∧ ((V 73 i).toInt = me ∧ 0 ≤ me ∧ me ≤ 19) ∧ (V 75 i).toInt = ps ∧ (V 81 i).toInt = nd ∧ (V 82 i).toInt = fl
  | (8, [lv, o, c, sc, me, ps], [v], []) => kp V i 3 0 ∧ ocs V B i o c sc lv ∧ ((V 73 i).toInt = me ∧ 0 ≤ me ∧ me ≤ 19) ∧ (V 75 i).toInt = ps ∧ V 74 i = v
  | (9, [lv, o, c, sc, me], [], []) => kp V i 3 1 ∧ ocs V B i o c sc lv ∧ ((V 73 i).toInt = me ∧ 0 ≤ me ∧ me ≤ 19)
  | (10, [lv, o, c, sc, me, ps], [], []) => kp V i 3 4 ∧ ocs V B i o c sc lv ∧ ((V 73 i).toInt = me ∧ 0 ≤ me ∧ me ≤ 19) ∧ (V 75 i).toInt = ps
  | (11, [lv, o, c, sc, me, ps], [], []) => kp V i 3 5 ∧ ocs V B i o c sc lv ∧ ((V 73 i).toInt = me ∧ 0 ≤ me ∧ me ≤ 19) ∧ (V 75 i).toInt = ps
  | (12, [lv, o, c, sc, me, ps, at9], [v], _) => kp V i 4 0 ∧ ocs V B i o c sc lv ∧ (0 < ps → (V 73 i).toInt = me ∧ 0 ≤ me ∧ me ≤ 19 ∧ (V 75 i).toInt = ps) ∧ (0 ≤ at9 ∧ (V 84 i).toInt = ((psz (opf B.1) at9.toNat : Nat) : Int)) ∧ V 74 i = v
  | (13, [lv, o, c, sc, me, ps, at9], [v], _) => kp V i 4 1 ∧ ocs V B i o c sc lv ∧ (0 < ps → (V 73 i).toInt = me ∧ 0 ≤ me ∧ me ≤ 19 ∧ (V 75 i).toInt = ps) ∧ (0 ≤ at9 ∧ (V 84 i).toInt = ((psz (opf B.1) at9.toNat : Nat) : Int)) ∧ V 74 i = v
  | (14, [lv, o, c, sc, at9, nd, tg], [v, g], _) => kp V i 4 6 ∧ ocs V B i o c sc lv ∧ (0 ≤ at9 ∧ (V 84 i).toInt = ((psz (opf B.1) at9.toNat : Nat) : Int)) ∧ (V 75 i).toInt = nd ∧ (V 77 i).toInt = tg ∧ V 74 i = v ∧ V 78 i = g
  | (15, [lv, o, c, sc, at9, nd, tg], [v, g], _) => kp V i 4 7 ∧ ocs V B i o c sc lv ∧ (0 ≤ at9 ∧ (V 84 i).toInt = ((psz (opf B.1) at9.toNat : Nat) : Int)) ∧ (V 75 i).toInt = nd ∧ (V 77 i).toInt = tg ∧ V 74 i = v ∧ V 78 i = g
  | (16, [lv, o, c, sc, at9, nd, tg, it], [v, g, u], _) => kp V i 4 8 ∧ ocs V B i o c sc lv ∧ (0 ≤ at9 ∧ (V 84 i).toInt = ((psz (opf B.1) at9.toNat : Nat) : Int)) ∧ (V 75 i).toInt = nd ∧ (V 77 i).toInt = tg ∧ (V 76 i).toInt = it ∧ V 74 i = v ∧ V 78 i = g ∧ V 79 i = u
  | (17, [lv, o, c, sc], [], []) => kp V i 5 0 ∧ ocs V B i o c sc lv
  | (18, [lv, o, c, sc], [], []) => kp V i 5 1 ∧ ocs V B i o c sc lv
  | _ => False
/-- a pile from t down -/
def plC (V : Vf) : Nat → List Int32 → Prop
  | _, [] => True
  | t, x :: p => ∃ t2, t = t2 + 1 ∧ V 39 t2 = x ∧ plC V t2 p
/-- all that is under way; t: how many values -/
def RWl (V : Vf) (B : Bk) : List Fr → Nat → Prop
  | [], t => t = 0
  | f :: r, t => ∃ t0, t = t0 + f.2.2.2.length ∧ FRc V B r.length f ∧ (12 ≤ f.1 → f.1 ≤ 16 → (V 85 r.length).toInt = (t0 : Int)) ∧ plC V t f.2.2.2 ∧ RWl V B r t0
/-- what it hears -/
def RWh (V : Vf) (m : Mm) (a : Int32) : Prop := (V 5 9).toInt = m 0 6 ∧ (m 0 6 = 1 → V 5 10 = a) ∧ (m 0 6 = 2 → (V 5 11).toInt = m 0 8 ∧ (V 5 12).toInt = m 0 9) ∧ ((V 5 8).toInt = m 0 4 ∧ ∀ i : Nat, (i : Int) < m 0 4 → (V 40 i).toInt = m 5 i)
def RW (V : Vf) (B : Bk) (x : MS) : Prop := (∃ ow, RWn V ow B x.1) ∧ RWh V x.1 x.2.1 ∧ (V 5 6).toInt = ((x.2.2.length : Nat) : Int) ∧ ∃ t, (V 5 7).toInt = ((t : Nat) : Int) ∧ RWl V B x.2.2 t
/-! what stays where nothing of it is written -/
def rwK : List Nat := [21, 22, 23, 24, 25, 26, 27, 28, 29, 30, 31, 32, 36, 37]
theorem CHN.mv {V W : Vf} {ow : Nat → Nat} {q : Nat} (e15 : (V 3 15).toInt ≤ (W 3 15).toInt) (e31 : ∀ i : Nat, (i : Int) < (V 3 15).toInt → W 31 i = V 31 i) (e32 : ∀ i : Nat, (i : Int) < (V 3 15).toInt → ow i = q → W 32 i = V 32 i) : ∀ (l : List Int) (lk : Int), CHN V ow q l lk → CHN W ow q l lk
  | [], _, h => h
  | x :: l, lk, h => by
    obtain ⟨⟨h0, h1, h2⟩, h3, h4⟩ := h
    have hk : ((lk.toNat : Nat) : Int) < (V 3 15).toInt := by omega
    refine ⟨⟨h0, by omega, h2⟩, by rw [e31 _ hk]; exact h3, ?_⟩
    rw [e32 _ hk h2]
    exact CHN.mv e15 e31 e32 l _ h4
/-- the i-th of a chain -/
theorem CHN.at {V : Vf} {ow : Nat → Nat} {q : Nat} : ∀ (l : List Int) (lk : Int), CHN V ow q l lk → (lk = -1 ↔ l = []) ∧ ∀ x r, l = x :: r → (0 ≤ lk ∧ lk < (V 3 15).toInt) ∧ (V 31 lk.toNat).toInt = x ∧ CHN V ow q r (V 32 lk.toNat).toInt
  | [], lk, h => ⟨⟨fun _ => rfl, fun _ => h⟩, fun x r e => by cases e⟩
  | y :: l, lk, h => by
    obtain ⟨⟨h0, h1, h2⟩, h3, h4⟩ := h
    refine ⟨⟨fun e => by omega, fun e => by cases e⟩, fun x r e => ?_⟩
    cases e
    exact ⟨⟨h0, h1⟩, h3, h4⟩
section RWag
variable {V W : Vf} {B : Bk} {m : Mm}
theorem plC.mv : ∀ {p : List Int32} {t : Nat}, plC V t p → (∀ j, j < t → W 39 j = V 39 j) → plC W t p
  | [], _, _, _ => trivial
  | x :: p, t, h, e => by
    obtain ⟨t2, h1, h2, h3⟩ := h
    exact ⟨t2, h1, by rw [e t2 (by omega)]; exact h2, plC.mv h3 (fun j hj => e j (by omega))⟩
theorem FRc.mv {i : Nat} {f : Fr} (h : FRc V B i f) (e : ∀ c, 67 ≤ c → c ≤ 84 → W c i = V c i) (e13 : (V 3 13).toInt ≤ (W 3 13).toInt) (e12 : W 3 12 = V 3 12) : FRc W B i f := by
  obtain ⟨k, n, v, p⟩ := f
  have o : ∀ o9 c9 s9 l9, ocs V B i o9 c9 s9 l9 → ocs W B i o9 c9 s9 l9 := fun o9 c9 s9 l9 z => by
    unfold ocs at z ⊢
    rw [e 69 (by decide) (by decide), e 70 (by decide) (by decide), e 71 (by decide) (by decide), e 72 (by decide) (by decide), e12]
    exact ⟨z.1, ⟨z.2.1.1, z.2.1.2.1, by have := z.2.1.2.2; omega⟩, z.2.2⟩
  have ek : ∀ a b, kp W i a b = kp V i a b := fun a b => by unfold kp; rw [e 67 (by decide) (by decide), e 68 (by decide) (by decide)]
  have e69 := e 69 (by decide) (by decide)
  have e70 := e 70 (by decide) (by decide)
  have e71 := e 71 (by decide) (by decide)
  have e72 := e 72 (by decide) (by decide)
  have e73 := e 73 (by decide) (by decide)
  have e74 := e 74 (by decide) (by decide)
  have e75 := e 75 (by decide) (by decide)
  have e76 := e 76 (by decide) (by decide)
  have e77 := e 77 (by decide) (by decide)
  have e78 := e 78 (by decide) (by decide)
  have e79 := e 79 (by decide) (by decide)
  have e80 := e 80 (by decide) (by decide)
  have e81 := e 81 (by decide) (by decide)
  have e82 := e 82 (by decide) (by decide)
  have e83 := e 83 (by decide) (by decide)
  have e84 := e 84 (by decide) (by decide)
  unfold FRc at h ⊢
  simp only [ek, e69, e70, e71, e72, e73, e74, e75, e76, e77, e78, e79, e80, e81, e82, e83, e84, e12] at h ⊢
  split at h
  all_goals first
    | exact h
    | exact h.elim
    | exact ⟨h.1, o _ _ _ _ h.2⟩
    | exact ⟨h.1, o _ _ _ _ h.2.1, h.2.2⟩
    | exact ⟨h.1, h.2.1, h.2.2.1, fun q => ⟨by have := (h.2.2.2.1 q).1; omega, (h.2.2.2.1 q).2⟩, h.2.2.2.2⟩
/-- those below keep -/
theorem RWl.mv : ∀ {fs : List Fr} {t : Nat}, RWl V B fs t → (∀ i, i < fs.length → ∀ c, 67 ≤ c → c ≤ 85 → W c i = V c i) → (∀ j, j < t → W 39 j = V 39 j) → (V 3 13).toInt ≤ (W 3 13).toInt → W 3 12 = V 3 12 → RWl W B fs t
  | [], _, h, _, _, _, _ => h
  | f :: r, t, h, e, ev, e13, e12 => by
    obtain ⟨t0, h1, h2, h3, h4, h5⟩ := h
    refine ⟨t0, h1, h2.mv (fun c a b => e r.length (Nat.lt_succ_self _) c a (by omega)) e13 e12, fun a b => ?_, h4.mv ev, RWl.mv h5 (fun i hi => e i (by have : i < r.length := hi; show i < r.length + 1; omega)) (fun j hj => ev j (by omega)) e13 e12⟩
    rw [e r.length (Nat.lt_succ_self _) 85 (by decide) (by decide)]
    exact h3 a b
end RWag
/-! who is present, as objects come and go -/
section PRz
variable {m m2 : Mm} {pl c : Int}
theorem prs_none : ∀ (n : Nat), (∀ o, o < n → ¬ (m 1 o = c ∧ m 2 o = pl ∧ m 3 o < 2)) → prs m pl c n = -1
  | 0, _ => rfl
  | n + 1, h => by rw [prs_n (h n (by omega))]; exact prs_none n (fun o ho => h o (by omega))
theorem prs_one {o : Nat} : ∀ (n : Nat), o < n → (m 1 o = c ∧ m 2 o = pl ∧ m 3 o < 2) → (∀ p, p < n → (m 1 p = c ∧ m 2 p = pl ∧ m 3 p < 2) → p = o) → prs m pl c n = (o : Int)
  | 0, h, _, _ => absurd h (Nat.not_lt_zero _)
  | n + 1, h, ha, hu => by
    by_cases q : m 1 n = c ∧ m 2 n = pl ∧ m 3 n < 2
    · rw [prs_y q.1 q.2.1 q.2.2, hu n (by omega) q]
    · rw [prs_n q]
      have e : o ≠ n := fun e => q (by rw [← e]; exact ha)
      exact prs_one n (by omega) ha (fun p hp => hu p (by omega))
theorem prs_ext : ∀ (n : Nat), (∀ o, o < n → ((m2 1 o = c ∧ m2 2 o = pl ∧ m2 3 o < 2) ↔ (m 1 o = c ∧ m 2 o = pl ∧ m 3 o < 2))) → prs m2 pl c n = prs m pl c n
  | 0, _ => rfl
  | n + 1, h => by
    have ih := prs_ext n (fun o ho => h o (by omega))
    by_cases q : m 1 n = c ∧ m 2 n = pl ∧ m 3 n < 2
    · have q2 := (h n (by omega)).mpr q
      rw [prs_y q.1 q.2.1 q.2.2, prs_y q2.1 q2.2.1 q2.2.2]
    · rw [prs_n q, prs_n (fun z => q ((h n (by omega)).mp z)), ih]
end PRz
section RWz
variable {V W : Vf} {ow : Nat → Nat} {B : Bk} {m m2 : Mm}
/-- the chains stay -/
theorem RWj.mv (h : RWj V ow m) (e2 : m2 0 2 = m 0 2) (e6 : ∀ q, m2 6 q = m 6 q) (e7 : ∀ q, m2 7 q = m 7 q) (c15 : W 3 15 = V 3 15) (c30 : ∀ q, W 30 q = V 30 q) (c31 : ∀ q, W 31 q = V 31 q) (c32 : ∀ q, W 32 q = V 32 q) : RWj W ow m2 := fun o k ho hk => by
  rw [e2] at ho
  have z := h o k ho hk
  have ej : jl m2 (8 * o + k) = jl m (8 * o + k) := by
    unfold jl
    rw [e6]
    exact List.map_congr_left (fun i _ => e7 _)
  rw [ej, c30, e6]
  exact ⟨CHN.mv (by rw [c15]; exact Int.le_refl _) (fun i _ => c31 i) (fun i _ _ => c32 i) _ _ z.1, z.2⟩
theorem RWs.mv (h : RWs V m) (e8 : ∀ q, m2 8 q = m 8 q) (e11 : ∀ q, m2 11 q = m 11 q) (e12 : ∀ q, m2 12 q = m 12 q) (e13 : ∀ q, m2 13 q = m 13 q) (c12 : W 3 12 = V 3 12) (c21 : ∀ q, W 21 q = V 21 q) (c22 : ∀ q, W 22 q = V 22 q) (c23 : ∀ q, W 23 q = V 23 q) (c24 : ∀ q, W 24 q = V 24 q) : RWs W m2 := by
  unfold RWs
  simp only [e8, e11, e12, e13, c12, c21, c22, c23, c24]
  exact h
/-- only one is alive -/
theorem RWp.uq (h : RWp V B m) {o p : Nat} {pl c : Int} (ho : (o : Int) < m 0 2) (hp : (p : Int) < m 0 2) (a : m 1 o = c ∧ m 2 o = pl ∧ m 3 o < 2) (b : m 1 p = c ∧ m 2 p = pl ∧ m 3 p < 2) (s : bS B c.toNat ≠ 3) : p = o := by
  rcases Nat.lt_trichotomy o p with q | q | q
  · exact absurd b.2.2 (h.2 o p q hp (a.1.trans b.1.symm) (a.2.1.trans b.2.1.symm) (by rw [a.1]; exact s) a.2.2)
  · exact q.symm
  · exact absurd a.2.2 (h.2 p o q ho (b.1.trans a.1.symm) (b.2.1.trans a.2.1.symm) (by rw [b.1]; exact s) b.2.2)
/-- an object goes -/
theorem RWn.drop {o : Nat} (h : RWn V ow B m) (ho : (o : Int) < m 0 2) (c28 : ∀ x, x ≠ o → W 28 x = V 28 x) (n28 : (W 28 o).toInt = 2) (c25 : ∀ k, k ≠ 24 * (m 2 o).toNat + (m 1 o).toNat → W 25 k = V 25 k) (n25 : (W 25 (24 * (m 2 o).toNat + (m 1 o).toNat)).toInt = if (V 25 (24 * (m 2 o).toNat + (m 1 o).toNat)).toInt = (o : Int) then -1 else (V 25 (24 * (m 2 o).toNat + (m 1 o).toNat)).toInt) (cc : ∀ c k, c ≠ 28 → c ≠ 25 → c ≤ 37 → W c k = V c k) : RWn W ow B (mU m 3 o 2) := by
  obtain ⟨ha, hb, hj, hs, hp⟩ := h
  have ex : ∀ x j, x ≠ 3 → mU m 3 o 2 x j = m x j := fun x j hx => mU_o _ _ (by omega)
  have e3 : ∀ x, x ≠ o → mU m 3 o 2 3 x = m 3 x := fun x hx => mU_o _ _ (by omega)
  have es : mU m 3 o 2 3 o = 2 := mU_s _ _ _ _
  have ro := hb o ho
  refine ⟨?_, ?_, RWj.mv hj (ex _ _ (by decide)) (fun q => ex _ _ (by decide)) (fun q => ex _ _ (by decide)) (cc _ _ (by decide) (by decide) (by decide)) (fun q => cc _ _ (by decide) (by decide) (by decide)) (fun q => cc _ _ (by decide) (by decide) (by decide)) (fun q => cc _ _ (by decide) (by decide) (by decide)), RWs.mv hs (fun q => ex _ _ (by decide)) (fun q => ex _ _ (by decide)) (fun q => ex _ _ (by decide)) (fun q => ex _ _ (by decide)) (cc _ _ (by decide) (by decide) (by decide)) (fun q => cc _ _ (by decide) (by decide) (by decide)) (fun q => cc _ _ (by decide) (by decide) (by decide)) (fun q => cc _ _ (by decide) (by decide) (by decide)) (fun q => cc _ _ (by decide) (by decide) (by decide)), ?_⟩
  · unfold RWa at ha ⊢
    simp only [ex 0 _ (by decide), ex 9 _ (by decide), ex 10 _ (by decide), cc 5 _ (by decide) (by decide) (by decide), cc 3 _ (by decide) (by decide) (by decide), cc 4 _ (by decide) (by decide) (by decide), cc 36 _ (by decide) (by decide) (by decide), cc 37 _ (by decide) (by decide) (by decide)]
    exact ha
  · intro x hx
    rw [ex 0 2 (by decide)] at hx
    have r := hb x hx
    rw [ex 1 x (by decide), ex 2 x (by decide), ex 4 x (by decide), cc 26 _ (by decide) (by decide) (by decide), cc 27 _ (by decide) (by decide) (by decide), cc 29 _ (by decide) (by decide) (by decide), cc 3 _ (by decide) (by decide) (by decide)]
    by_cases q : x = o
    · rw [q, es, n28]
      rw [q] at r
      exact ⟨⟨r.1.1, r.1.2.1, rfl⟩, fun z => absurd z (by decide), r.2.2.1, r.2.2.2.1, by decide, by decide⟩
    · rw [e3 x q, c28 x q]
      exact r
  · have al : ∀ x c9 p9, (mU m 3 o 2 1 x = c9 ∧ mU m 3 o 2 2 x = p9 ∧ mU m 3 o 2 3 x < 2) ↔ (x ≠ o ∧ (m 1 x = c9 ∧ m 2 x = p9 ∧ m 3 x < 2)) := fun x c9 p9 => by
      rw [ex 1 x (by decide), ex 2 x (by decide)]
      by_cases q : x = o
      · rw [q, es]
        exact ⟨fun z => absurd z.2.2 (by decide), fun z => absurd rfl z.1⟩
      · rw [e3 x q]
        exact ⟨fun z => ⟨q, z⟩, fun z => z.2⟩
    refine ⟨fun pl c hpl hc hsh => ?_, fun x y hxy hy h1 h2 h3 h4 => ?_⟩
    · have z := hp.1 pl c hpl hc hsh
      rw [ex 0 2 (by decide)]
      have hn : ∀ x : Nat, x < (m 0 2).toNat → (x : Int) < m 0 2 := fun x hx => by omega
      by_cases q : 24 * pl + c = 24 * (m 2 o).toNat + (m 1 o).toNat
      · rw [q, n25, ← q, z]
        by_cases w : m 1 o = (c : Int) ∧ m 2 o = (pl : Int) ∧ m 3 o < 2
        · have p1 : prs m (pl : Int) (c : Int) (m 0 2).toNat = (o : Int) := prs_one _ (by omega) w (fun p hp9 wp => hp.uq ho (hn p hp9) w wp (by rw [show ((c : Int)).toNat = c from rfl]; exact hsh))
          rw [p1, if_pos rfl]
          exact (prs_none _ (fun x hx zx => by
            have y := (al x _ _).mp zx
            exact y.1 (hp.uq ho (hn x hx) w y.2 (by rw [show ((c : Int)).toNat = c from rfl]; exact hsh)))).symm
        · have e : prs (mU m 3 o 2) (pl : Int) (c : Int) (m 0 2).toNat = prs m (pl : Int) (c : Int) (m 0 2).toNat := prs_ext _ (fun x _ => ⟨fun zx => ((al x _ _).mp zx).2, fun zx => (al x _ _).mpr ⟨fun ex9 => w (by rw [← ex9]; exact zx), zx⟩⟩)
          rw [e, if_neg (fun e9 => by
            have b9 := prs_b _ _ e9
            exact w b9.2)]
      · rw [c25 _ q, z]
        refine (prs_ext _ (fun x hx => ⟨fun zx => ((al x _ _).mp zx).2, fun zx => (al x _ _).mpr ⟨fun ex9 => q ?_, zx⟩⟩)).symm
        rw [ex9] at zx
        rw [zx.1, zx.2.1]
        rfl
    · rw [ex 0 2 (by decide)] at hy
      rw [ex 1 x (by decide), ex 1 y (by decide)] at h1
      rw [ex 2 x (by decide), ex 2 y (by decide)] at h2
      rw [ex 1 x (by decide)] at h3
      intro h5
      have a1 := (al x (m 1 x) (m 2 x)).mp ⟨ex 1 x (by decide), ex 2 x (by decide), h4⟩
      have a2 := (al y (m 1 y) (m 2 y)).mp ⟨ex 1 y (by decide), ex 2 y (by decide), h5⟩
      exact hp.2 x y hxy hy h1 h2 h3 a1.2.2.2 a2.2.2.2
/-- STEPS -/
theorem RWn.stp (h : RWn V ow B m) (e0 : (W 5 14).toInt = (V 5 14).toInt + 1) (e1 : (W 5 13).toInt = (V 5 13).toInt + 1) (cc : ∀ c k, c ≠ 5 → c ≤ 37 → W c k = V c k) : RWn W ow B (mSt m) := by
  obtain ⟨ha, hb, hj, hs, hp⟩ := h
  have ex : ∀ x j, x ≠ 0 → mSt m x j = m x j := fun x j hx => by
    unfold mSt
    rw [mU_o _ _ (by omega), mU_o _ _ (by omega)]
  have e2 : ∀ j, 2 ≤ j → mSt m 0 j = m 0 j := fun j hj => by
    unfold mSt
    rw [mU_o _ _ (by omega), mU_o _ _ (by omega)]
  have n0 : mSt m 0 0 = m 0 0 + 1 := rfl
  have n1 : mSt m 0 1 = m 0 1 + 1 := rfl
  have c9 : ∀ c k, c ≤ 37 → c ≠ 5 → W c k = V c k := fun c k a b => cc c k b a
  refine ⟨?_, ?_, RWj.mv hj (e2 2 (by decide)) (fun q => ex _ _ (by decide)) (fun q => ex _ _ (by decide)) (cc _ _ (by decide) (by decide)) (fun q => cc _ _ (by decide) (by decide)) (fun q => cc _ _ (by decide) (by decide)) (fun q => cc _ _ (by decide) (by decide)), RWs.mv hs (fun q => ex _ _ (by decide)) (fun q => ex _ _ (by decide)) (fun q => ex _ _ (by decide)) (fun q => ex _ _ (by decide)) (cc _ _ (by decide) (by decide)) (fun q => cc _ _ (by decide) (by decide)) (fun q => cc _ _ (by decide) (by decide)) (fun q => cc _ _ (by decide) (by decide)) (fun q => cc _ _ (by decide) (by decide)), ?_⟩
  · obtain ⟨⟨a0, a1, a2, a3⟩, a4, a5⟩ := ha
    refine ⟨⟨by rw [n0, e0, a0], by rw [n1, e1, a1], by rw [e2 2 (by decide), cc 3 _ (by decide) (by decide)]; exact a2, by rw [e2 3 (by decide), cc 3 _ (by decide) (by decide)]; exact a3⟩, by rw [e2 5 (by decide), cc 4 _ (by decide) (by decide)]; exact a4, fun i h1 h2 => ?_⟩
    rw [e2 5 (by decide)] at h2
    rw [ex 9 _ (by decide), ex 10 _ (by decide), cc 36 _ (by decide) (by decide), cc 37 _ (by decide) (by decide)]
    exact a5 i h1 h2
  · intro x hx
    rw [e2 2 (by decide)] at hx
    rw [ex 1 x (by decide), ex 2 x (by decide), ex 3 x (by decide), ex 4 x (by decide), cc 26 _ (by decide) (by decide), cc 27 _ (by decide) (by decide), cc 28 _ (by decide) (by decide), cc 29 _ (by decide) (by decide), cc 3 _ (by decide) (by decide)]
    exact hb x hx
  · refine ⟨fun pl c hpl hc hsh => ?_, fun x y hxy hy h1 h2 h3 h4 => ?_⟩
    · rw [cc 25 _ (by decide) (by decide), hp.1 pl c hpl hc hsh, e2 2 (by decide)]
      exact (prs_ext _ (fun x _ => by rw [ex 1 x (by decide), ex 2 x (by decide), ex 3 x (by decide)])).symm
    · rw [e2 2 (by decide)] at hy
      rw [ex 1 x (by decide), ex 1 y (by decide)] at h1
      rw [ex 2 x (by decide), ex 2 y (by decide)] at h2
      rw [ex 1 x (by decide)] at h3
      rw [ex 3 x (by decide)] at h4
      rw [ex 3 y (by decide)]
      exact hp.2 x y hxy hy h1 h2 h3 h4
end RWz
section RWy
variable {V W : Vf} {ow : Nat → Nat} {B : Bk} {m m2 : Mm}
/-- what is there stays: numbers and cells that matter are the same -/
theorem RWn.mv (h : RWn V ow B m) (e0 : ∀ j, j < 4 ∨ j = 5 → m2 0 j = m 0 j) (ex : ∀ x j, x ≠ 0 → x ≠ 5 → m2 x j = m x j) (c3 : ∀ k, W 3 k = V 3 k) (c4 : W 4 6 = V 4 6) (c51 : W 5 13 = V 5 13) (c52 : W 5 14 = V 5 14) (cc : ∀ c k, 21 ≤ c → c ≤ 37 → c < 33 ∨ 35 < c → W c k = V c k) : RWn W ow B m2 := by
  obtain ⟨ha, hb, hj, hs, hp⟩ := h
  refine ⟨?_, ?_, RWj.mv hj (e0 2 (by omega)) (fun q => ex _ _ (by decide) (by decide)) (fun q => ex _ _ (by decide) (by decide)) (c3 _) (fun q => cc _ _ (by decide) (by decide) (by decide)) (fun q => cc _ _ (by decide) (by decide) (by decide)) (fun q => cc _ _ (by decide) (by decide) (by decide)), RWs.mv hs (fun q => ex _ _ (by decide) (by decide)) (fun q => ex _ _ (by decide) (by decide)) (fun q => ex _ _ (by decide) (by decide)) (fun q => ex _ _ (by decide) (by decide)) (c3 _) (fun q => cc _ _ (by decide) (by decide) (by decide)) (fun q => cc _ _ (by decide) (by decide) (by decide)) (fun q => cc _ _ (by decide) (by decide) (by decide)) (fun q => cc _ _ (by decide) (by decide) (by decide)), ?_⟩
  · obtain ⟨⟨a0, a1, a2, a3⟩, a4, a5⟩ := ha
    refine ⟨⟨by rw [e0 0 (by omega), c52]; exact a0, by rw [e0 1 (by omega), c51]; exact a1, by rw [e0 2 (by omega), c3]; exact a2, by rw [e0 3 (by omega), c3]; exact a3⟩, by rw [e0 5 (by omega), c4]; exact a4, fun i h1 h2 => ?_⟩
    rw [e0 5 (by omega)] at h2
    rw [ex 9 _ (by decide) (by decide), ex 10 _ (by decide) (by decide), cc 36 _ (by decide) (by decide) (by decide), cc 37 _ (by decide) (by decide) (by decide)]
    exact a5 i h1 h2
  · intro x hx
    rw [e0 2 (by omega)] at hx
    rw [ex 1 x (by decide) (by decide), ex 2 x (by decide) (by decide), ex 3 x (by decide) (by decide), ex 4 x (by decide) (by decide), cc 26 _ (by decide) (by decide) (by decide), cc 27 _ (by decide) (by decide) (by decide), cc 28 _ (by decide) (by decide) (by decide), cc 29 _ (by decide) (by decide) (by decide), c3]
    exact hb x hx
  · refine ⟨fun pl c hpl hc hsh => ?_, fun x y hxy hy h1 h2 h3 h4 => ?_⟩
    · rw [cc 25 _ (by decide) (by decide) (by decide), hp.1 pl c hpl hc hsh, e0 2 (by omega)]
      exact (prs_ext _ (fun x _ => by rw [ex 1 x (by decide) (by decide), ex 2 x (by decide) (by decide), ex 3 x (by decide) (by decide)])).symm
    · rw [e0 2 (by omega)] at hy
      rw [ex 1 x (by decide) (by decide), ex 1 y (by decide) (by decide)] at h1
      rw [ex 2 x (by decide) (by decide), ex 2 y (by decide) (by decide)] at h2
      rw [ex 1 x (by decide) (by decide)] at h3
      rw [ex 3 x (by decide) (by decide)] at h4
      rw [ex 3 y (by decide) (by decide)]
      exact hp.2 x y hxy hy h1 h2 h3 h4
/-- a closing is told -/
theorem RWn.note {o k : Int} (h : RWn V ow B m) (cc : ∀ c k, c ≠ 36 → c ≠ 37 → c ≤ 37 → ¬ (c = 4 ∧ k = 6) → W c k = V c k) (y : ((V 4 6).toInt < 300 ∧ (W 4 6).toInt = (V 4 6).toInt + 1 ∧ (∀ i, i ≠ (V 4 6).toInt.toNat → W 36 i = V 36 i ∧ W 37 i = V 37 i) ∧ (W 36 (V 4 6).toInt.toNat).toInt = o ∧ (W 37 (V 4 6).toInt.toNat).toInt = k) ∨ (300 ≤ (V 4 6).toInt ∧ W 4 6 = V 4 6 ∧ (∀ i, W 36 i = V 36 i ∧ W 37 i = V 37 i))) : RWn W ow B (mNote m o k) := by
  obtain ⟨ha, hb, hj, hs, hp⟩ := h
  have ex : ∀ x j, x ≠ 0 → x ≠ 9 → x ≠ 10 → mNote m o k x j = m x j := fun x j h1 h2 h3 => by
    unfold mNote
    split
    · rw [mU_o _ _ (by omega), mU_o _ _ (by omega), mU_o _ _ (by omega)]
    · rw [mU_o _ _ (by omega)]
  have e0 : ∀ j, j ≠ 5 → mNote m o k 0 j = m 0 j := fun j hj => by
    unfold mNote
    split
    · rw [mU_o _ _ (by omega), mU_o _ _ (by omega), mU_o _ _ (by omega)]
    · rw [mU_o _ _ (by omega)]
  have e5 : mNote m o k 0 5 = m 0 5 + 1 := by
    unfold mNote
    split
    · exact mU_s _ _ _ _
    · exact mU_s _ _ _ _
  have c9 : ∀ c q, c ≤ 35 → c ≠ 4 → W c q = V c q := fun c q h1 h2 => cc c q (by omega) (by omega) (by omega) (by omega)
  refine ⟨?_, ?_, RWj.mv hj (e0 2 (by decide)) (fun q => ex _ _ (by decide) (by decide) (by decide)) (fun q => ex _ _ (by decide) (by decide) (by decide)) (c9 _ _ (by decide) (by decide)) (fun q => c9 _ _ (by decide) (by decide)) (fun q => c9 _ _ (by decide) (by decide)) (fun q => c9 _ _ (by decide) (by decide)), RWs.mv hs (fun q => ex _ _ (by decide) (by decide) (by decide)) (fun q => ex _ _ (by decide) (by decide) (by decide)) (fun q => ex _ _ (by decide) (by decide) (by decide)) (fun q => ex _ _ (by decide) (by decide) (by decide)) (c9 _ _ (by decide) (by decide)) (fun q => c9 _ _ (by decide) (by decide)) (fun q => c9 _ _ (by decide) (by decide)) (fun q => c9 _ _ (by decide) (by decide)) (fun q => c9 _ _ (by decide) (by decide)), ?_⟩
  · obtain ⟨⟨a0, a1, a2, a3⟩, ⟨a4, a6⟩, a5⟩ := ha
    refine ⟨⟨by rw [e0 0 (by decide), c9 5 _ (by decide) (by decide)]; exact a0, by rw [e0 1 (by decide), c9 5 _ (by decide) (by decide)]; exact a1, by rw [e0 2 (by decide), c9 3 _ (by decide) (by decide)]; exact a2, by rw [e0 3 (by decide), c9 3 _ (by decide) (by decide)]; exact a3⟩, ⟨?_, by rw [e5]; omega⟩, fun i h1 h2 => ?_⟩
    · rw [e5]
      rcases y with ⟨y1, y2, _⟩ | ⟨y1, y2, _⟩
      · rw [y2, a4]
        omega
      · rw [y2, a4]
        omega
    · rw [e5] at h2
      rcases y with ⟨y1, y2, y3, y4, y5⟩ | ⟨y1, y2, y3⟩
      · have lt : m 0 5 < 300 := by omega
        have v5 : (V 4 6).toInt.toNat = (m 0 5).toNat := by omega
        rw [v5] at y3 y4 y5
        unfold mNote
        rw [if_pos lt]
        by_cases q : i = (m 0 5).toNat
        · subst q
          refine ⟨?_, ?_⟩
          · rw [mU_o _ _ (show ¬ (9 = 0 ∧ (m 0 5).toNat = 5) by omega), mU_o _ _ (show ¬ (9 = 10 ∧ (m 0 5).toNat = (m 0 5).toNat) by omega), mU_s]
            exact y4
          · rw [mU_o _ _ (show ¬ (10 = 0 ∧ (m 0 5).toNat = 5) by omega), mU_s]
            exact y5
        · have z := a5 i h1 (by omega)
          refine ⟨?_, ?_⟩
          · rw [mU_o _ _ (show ¬ (9 = 0 ∧ i = 5) by omega), mU_o _ _ (show ¬ (9 = 10 ∧ i = (m 0 5).toNat) by omega), mU_o _ _ (show ¬ (9 = 9 ∧ i = (m 0 5).toNat) by omega), (y3 i q).1]
            exact z.1
          · rw [mU_o _ _ (show ¬ (10 = 0 ∧ i = 5) by omega), mU_o _ _ (show ¬ (10 = 10 ∧ i = (m 0 5).toNat) by omega), mU_o _ _ (show ¬ (10 = 9 ∧ i = (m 0 5).toNat) by omega), (y3 i q).2]
            exact z.2
      · have nl : ¬ m 0 5 < 300 := by omega
        unfold mNote
        rw [if_neg nl, mU_o _ _ (by omega), mU_o _ _ (by omega), (y3 i).1, (y3 i).2]
        exact a5 i h1 (by omega)
  · intro x hx
    rw [e0 2 (by decide)] at hx
    rw [ex 1 x (by decide) (by decide) (by decide), ex 2 x (by decide) (by decide) (by decide), ex 3 x (by decide) (by decide) (by decide), ex 4 x (by decide) (by decide) (by decide), c9 26 _ (by decide) (by decide), c9 27 _ (by decide) (by decide), c9 28 _ (by decide) (by decide), c9 29 _ (by decide) (by decide), c9 3 _ (by decide) (by decide)]
    exact hb x hx
  · refine ⟨fun pl c hpl hc hsh => ?_, fun x y hxy hy h1 h2 h3 h4 => ?_⟩
    · rw [c9 25 _ (by decide) (by decide), hp.1 pl c hpl hc hsh, e0 2 (by decide)]
      exact (prs_ext _ (fun x _ => by rw [ex 1 x (by decide) (by decide) (by decide), ex 2 x (by decide) (by decide) (by decide), ex 3 x (by decide) (by decide) (by decide)])).symm
    · rw [e0 2 (by decide)] at hy
      rw [ex 1 x (by decide) (by decide) (by decide), ex 1 y (by decide) (by decide) (by decide)] at h1
      rw [ex 2 x (by decide) (by decide) (by decide), ex 2 y (by decide) (by decide) (by decide)] at h2
      rw [ex 1 x (by decide) (by decide) (by decide)] at h3
      rw [ex 3 x (by decide) (by decide) (by decide)] at h4
      rw [ex 3 y (by decide) (by decide) (by decide)]
      exact hp.2 x y hxy hy h1 h2 h3 h4
/-- an object is made -/
theorem RWn.done {o : Nat} (h : RWn V ow B m) (ho : (o : Int) < m 0 2) (h0 : m 3 o = 0) (c28 : ∀ x, x ≠ o → W 28 x = V 28 x) (n28 : (W 28 o).toInt = 1) (c29 : ∀ x, x ≠ o → W 29 x = V 29 x) (n29 : (W 29 o).toInt = (V 3 14).toInt) (n14 : (W 3 14).toInt = (V 3 14).toInt + 1) (cc : ∀ c k, c ≠ 28 → c ≠ 29 → c ≤ 37 → ¬ (c = 3 ∧ k = 14) → (c ≠ 5 ∨ k = 13 ∨ k = 14) → W c k = V c k) : RWn W ow B (mDone m o) := by
  obtain ⟨ha, hb, hj, hs, hp⟩ := h
  have ex : ∀ x j, x ≠ 0 → x ≠ 3 → x ≠ 4 → x ≠ 5 → mDone m o x j = m x j := fun x j h1 h2 h3 h4 => by
    unfold mDone
    rw [mU_o _ _ (by omega), mU_o _ _ (by omega), mU_o _ _ (by omega), mU_o _ _ (by omega), mU_o _ _ (by omega)]
  have e0 : ∀ j, j ≠ 3 → j ≠ 4 → mDone m o 0 j = m 0 j := fun j h3 h4 => by
    unfold mDone
    rw [mU_o _ _ (by omega), mU_o _ _ (by omega), mU_o _ _ (by omega), mU_o _ _ (by omega), mU_o _ _ (by omega)]
  have e03 : mDone m o 0 3 = m 0 3 + 1 := by
    unfold mDone
    rw [mU_o _ _ (by omega), mU_o _ _ (by omega), mU_s]
  have e3 : ∀ x, x ≠ o → mDone m o 3 x = m 3 x := fun x hx => by
    unfold mDone
    rw [mU_o _ _ (by omega), mU_o _ _ (by omega), mU_o _ _ (by omega), mU_o _ _ (by omega), mU_o _ _ (by omega)]
  have e4 : ∀ x, x ≠ o → mDone m o 4 x = m 4 x := fun x hx => by
    unfold mDone
    rw [mU_o _ _ (by omega), mU_o _ _ (by omega), mU_o _ _ (by omega), mU_o _ _ (by omega), mU_o _ _ (by omega)]
  have s3 : mDone m o 3 o = 1 := by
    unfold mDone
    rw [mU_o _ _ (by omega), mU_o _ _ (by omega), mU_o _ _ (by omega), mU_o _ _ (by omega), mU_s]
  have s4 : mDone m o 4 o = m 0 3 := by
    unfold mDone
    rw [mU_o _ _ (by omega), mU_o _ _ (by omega), mU_o _ _ (by omega), mU_s]
  have c9 : ∀ c q, c ≤ 37 → c ≠ 28 → c ≠ 29 → c ≠ 3 → c ≠ 5 → W c q = V c q := fun c q h1 h2 h3 h4 h5 => cc c q h2 h3 h1 (by omega) (Or.inl h5)
  have c312 : ∀ q, q ≠ 14 → W 3 q = V 3 q := fun q hq => cc 3 q (by decide) (by decide) (by decide) (by omega) (Or.inl (by decide))
  have al : ∀ x, (mDone m o 3 x < 2 ↔ m 3 x < 2) := fun x => by
    by_cases q : x = o
    · rw [q, s3, h0]
      exact ⟨fun _ => by decide, fun _ => by decide⟩
    · rw [e3 x q]
  refine ⟨?_, ?_, RWj.mv hj (e0 2 (by decide) (by decide)) (fun q => ex _ _ (by decide) (by decide) (by decide) (by decide)) (fun q => ex _ _ (by decide) (by decide) (by decide) (by decide)) (c312 _ (by decide)) (fun q => c9 _ _ (by decide) (by decide) (by decide) (by decide) (by decide)) (fun q => c9 _ _ (by decide) (by decide) (by decide) (by decide) (by decide)) (fun q => c9 _ _ (by decide) (by decide) (by decide) (by decide) (by decide)), RWs.mv hs (fun q => ex _ _ (by decide) (by decide) (by decide) (by decide)) (fun q => ex _ _ (by decide) (by decide) (by decide) (by decide)) (fun q => ex _ _ (by decide) (by decide) (by decide) (by decide)) (fun q => ex _ _ (by decide) (by decide) (by decide) (by decide)) (c312 _ (by decide)) (fun q => c9 _ _ (by decide) (by decide) (by decide) (by decide) (by decide)) (fun q => c9 _ _ (by decide) (by decide) (by decide) (by decide) (by decide)) (fun q => c9 _ _ (by decide) (by decide) (by decide) (by decide) (by decide)) (fun q => c9 _ _ (by decide) (by decide) (by decide) (by decide) (by decide)), ?_⟩
  · obtain ⟨⟨a0, a1, a2, a3⟩, a4, a5⟩ := ha
    have c5 : ∀ q, (q = 13 ∨ q = 14) → W 5 q = V 5 q := fun q hq => cc 5 q (by decide) (by decide) (by decide) (by omega) (Or.inr hq)
    refine ⟨⟨by rw [e0 0 (by decide) (by decide), c5 _ (by decide)]; exact a0, by rw [e0 1 (by decide) (by decide), c5 _ (by decide)]; exact a1, by rw [e0 2 (by decide) (by decide), c312 _ (by decide)]; exact a2, by rw [e03, n14, a3]⟩, by rw [e0 5 (by decide) (by decide), c9 4 _ (by decide) (by decide) (by decide) (by decide) (by decide)]; exact a4, fun i h1 h2 => ?_⟩
    rw [e0 5 (by decide) (by decide)] at h2
    rw [ex 9 _ (by decide) (by decide) (by decide) (by decide), ex 10 _ (by decide) (by decide) (by decide) (by decide), c9 36 _ (by decide) (by decide) (by decide) (by decide) (by decide), c9 37 _ (by decide) (by decide) (by decide) (by decide) (by decide)]
    exact a5 i h1 h2
  · intro x hx
    rw [e0 2 (by decide) (by decide)] at hx
    have r := hb x hx
    rw [ex 1 x (by decide) (by decide) (by decide) (by decide), ex 2 x (by decide) (by decide) (by decide) (by decide), c9 26 _ (by decide) (by decide) (by decide) (by decide) (by decide), c9 27 _ (by decide) (by decide) (by decide) (by decide) (by decide), c312 12 (by decide)]
    by_cases q : x = o
    · rw [q, s3, s4, n28, n29]
      rw [q] at r
      exact ⟨⟨r.1.1, r.1.2.1, rfl⟩, fun _ => ha.1.2.2.2, r.2.2.1, r.2.2.2.1, by decide, by decide⟩
    · rw [e3 x q, e4 x q, c28 x q, c29 x q]
      exact r
  · refine ⟨fun pl c hpl hc hsh => ?_, fun x y hxy hy h1 h2 h3 h4 => ?_⟩
    · rw [c9 25 _ (by decide) (by decide) (by decide) (by decide) (by decide), hp.1 pl c hpl hc hsh, e0 2 (by decide) (by decide)]
      exact (prs_ext _ (fun x _ => by rw [ex 1 x (by decide) (by decide) (by decide) (by decide), ex 2 x (by decide) (by decide) (by decide) (by decide), al x])).symm
    · rw [e0 2 (by decide) (by decide)] at hy
      rw [ex 1 x (by decide) (by decide) (by decide) (by decide), ex 1 y (by decide) (by decide) (by decide) (by decide)] at h1
      rw [ex 2 x (by decide) (by decide) (by decide) (by decide), ex 2 y (by decide) (by decide) (by decide) (by decide)] at h2
      rw [ex 1 x (by decide) (by decide) (by decide) (by decide)] at h3
      exact fun h5 => hp.2 x y hxy hy h1 h2 h3 ((al x).mp h4) ((al y).mp h5)
end RWy
section RWx
variable {V W : Vf} {ow : Nat → Nat} {B : Bk} {m m2 : Mm}
theorem prs_neg {pl c : Int} : ∀ (n : Nat), prs m pl c n < 0 → ∀ o, o < n → ¬ (m 1 o = c ∧ m 2 o = pl ∧ m 3 o < 2)
  | 0, _, o, h => absurd h (Nat.not_lt_zero _)
  | n + 1, h, o, ho => by
    by_cases q : m 1 n = c ∧ m 2 n = pl ∧ m 3 n < 2
    · rw [prs_y q.1 q.2.1 q.2.2] at h
      omega
    · rw [prs_n q] at h
      by_cases e : o = n
      · rw [e]
        exact q
      · exact prs_neg n h o (by omega)
/-- a new object -/
theorem RWn.new {o c9 p9 : Nat} (h : RWn V ow B m) (ho : m 0 2 = (o : Int)) (hc : c9 < nC B) (n24 : nC B ≤ 24) (hpl : (p9 : Int) < (V 3 12).toInt) (hu : bS B c9 ≠ 3 → prs m (p9 : Int) (c9 : Int) (m 0 2).toNat < 0) (n13 : (W 3 13).toInt = (V 3 13).toInt + 1) (c26 : ∀ x, x ≠ o → W 26 x = V 26 x) (n26 : (W 26 o).toInt = (c9 : Int)) (c27 : ∀ x, x ≠ o → W 27 x = V 27 x) (n27 : (W 27 o).toInt = (p9 : Int)) (c28 : ∀ x, x ≠ o → W 28 x = V 28 x) (n28 : (W 28 o).toInt = 0) (c30 : ∀ x, ¬ (8 * o ≤ x ∧ x < 8 * o + 8) → W 30 x = V 30 x) (n30 : ∀ x, 8 * o ≤ x → x < 8 * o + 8 → (W 30 x).toInt = -1) (c25 : ∀ x, x ≠ 24 * p9 + c9 → W 25 x = V 25 x) (n25 : bS B c9 ≠ 3 → (W 25 (24 * p9 + c9)).toInt = (o : Int)) (cc : ∀ c k, c ≤ 37 → c ≠ 25 → c ≠ 26 → c ≠ 27 → c ≠ 28 → c ≠ 30 → ¬ (c = 3 ∧ k = 13) → W c k = V c k) : RWn W ow B (mNew m (c9 : Int) (p9 : Int)) := by
  obtain ⟨ha, hb, hj, hs, hp⟩ := h
  have nn : (m 0 2).toNat = o := by omega
  have ex : ∀ x j, x ≠ 0 → x ≠ 1 → x ≠ 2 → x ≠ 3 → x ≠ 6 → mNew m (c9 : Int) (p9 : Int) x j = m x j := fun x j h0 h1 h2 h3 h6 => by
    unfold mNew
    rw [if_neg (by omega), if_neg (by omega), if_neg (by omega), if_neg (by omega), if_neg (by omega)]
  have e0 : ∀ j, j ≠ 2 → mNew m (c9 : Int) (p9 : Int) 0 j = m 0 j := fun j h2 => by
    unfold mNew
    rw [if_neg (by omega), if_neg (by omega), if_neg (by omega), if_neg (by omega), if_neg (by omega)]
  have e02 : mNew m (c9 : Int) (p9 : Int) 0 2 = m 0 2 + 1 := if_pos ⟨rfl, rfl⟩
  have r1 : ∀ x, mNew m (c9 : Int) (p9 : Int) 1 x = if x = o then (c9 : Int) else m 1 x := fun x => by
    unfold mNew
    rw [nn, if_neg (by omega)]
    by_cases q : x = o
    · rw [if_pos ⟨rfl, q⟩, if_pos q]
    · rw [if_neg (fun z => q z.2), if_neg (by omega), if_neg (by omega), if_neg (by omega), if_neg q]
  have r2 : ∀ x, mNew m (c9 : Int) (p9 : Int) 2 x = if x = o then (p9 : Int) else m 2 x := fun x => by
    unfold mNew
    rw [nn, if_neg (by omega), if_neg (by omega)]
    by_cases q : x = o
    · rw [if_pos ⟨rfl, q⟩, if_pos q]
    · rw [if_neg (fun z => q z.2), if_neg (by omega), if_neg (by omega), if_neg q]
  have r3 : ∀ x, mNew m (c9 : Int) (p9 : Int) 3 x = if x = o then 0 else m 3 x := fun x => by
    unfold mNew
    rw [nn, if_neg (by omega), if_neg (by omega), if_neg (by omega)]
    by_cases q : x = o
    · rw [if_pos ⟨rfl, q⟩, if_pos q]
    · rw [if_neg (fun z => q z.2), if_neg (by omega), if_neg q]
  have r6 : ∀ x, mNew m (c9 : Int) (p9 : Int) 6 x = if 8 * o ≤ x ∧ x < 8 * o + 8 then 0 else m 6 x := fun x => by
    unfold mNew
    rw [nn, if_neg (by omega), if_neg (by omega), if_neg (by omega), if_neg (by omega)]
    by_cases q : 8 * o ≤ x ∧ x < 8 * o + 8
    · rw [if_pos ⟨rfl, q⟩, if_pos q]
    · rw [if_neg (fun z => q z.2), if_neg q]
  have c9' : ∀ c q, c ≤ 37 → c ≠ 25 → c ≠ 26 → c ≠ 27 → c ≠ 28 → c ≠ 30 → c ≠ 3 → W c q = V c q := fun c q a1 a2 a3 a4 a5 a6 a7 => cc c q a1 a2 a3 a4 a5 a6 (by omega)
  have c3' : ∀ q, q ≠ 13 → W 3 q = V 3 q := fun q hq => cc 3 q (by decide) (by decide) (by decide) (by decide) (by decide) (by decide) (by omega)
  refine ⟨?_, ?_, ?_, RWs.mv hs (fun q => ex _ _ (by decide) (by decide) (by decide) (by decide) (by decide)) (fun q => ex _ _ (by decide) (by decide) (by decide) (by decide) (by decide)) (fun q => ex _ _ (by decide) (by decide) (by decide) (by decide) (by decide)) (fun q => ex _ _ (by decide) (by decide) (by decide) (by decide) (by decide)) (c3' _ (by decide)) (fun q => c9' _ _ (by decide) (by decide) (by decide) (by decide) (by decide) (by decide) (by decide)) (fun q => c9' _ _ (by decide) (by decide) (by decide) (by decide) (by decide) (by decide) (by decide)) (fun q => c9' _ _ (by decide) (by decide) (by decide) (by decide) (by decide) (by decide) (by decide)) (fun q => c9' _ _ (by decide) (by decide) (by decide) (by decide) (by decide) (by decide) (by decide)), ?_⟩
  · obtain ⟨⟨a0, a1, a2, a3⟩, a4, a5⟩ := ha
    refine ⟨⟨by rw [e0 0 (by decide), c9' 5 _ (by decide) (by decide) (by decide) (by decide) (by decide) (by decide) (by decide)]; exact a0, by rw [e0 1 (by decide), c9' 5 _ (by decide) (by decide) (by decide) (by decide) (by decide) (by decide) (by decide)]; exact a1, by rw [e02, n13, a2], by rw [e0 3 (by decide), c3' _ (by decide)]; exact a3⟩, by rw [e0 5 (by decide), c9' 4 _ (by decide) (by decide) (by decide) (by decide) (by decide) (by decide) (by decide)]; exact a4, fun i h1 h2 => ?_⟩
    rw [e0 5 (by decide)] at h2
    rw [ex 9 _ (by decide) (by decide) (by decide) (by decide) (by decide), ex 10 _ (by decide) (by decide) (by decide) (by decide) (by decide), c9' 36 _ (by decide) (by decide) (by decide) (by decide) (by decide) (by decide) (by decide), c9' 37 _ (by decide) (by decide) (by decide) (by decide) (by decide) (by decide) (by decide)]
    exact a5 i h1 h2
  · intro x hx
    rw [e02, ho] at hx
    rw [r1, r2, r3, ex 4 x (by decide) (by decide) (by decide) (by decide) (by decide), c3' 12 (by decide), c9' 29 _ (by decide) (by decide) (by decide) (by decide) (by decide) (by decide) (by decide)]
    by_cases q : x = o
    · rw [if_pos q, if_pos q, if_pos q, q]
      exact ⟨⟨n26, n27, n28⟩, fun z => absurd z (by decide), ⟨Int.natCast_nonneg _, Int.ofNat_lt.mpr hc⟩, ⟨Int.natCast_nonneg _, hpl⟩, by decide, by decide⟩
    · rw [if_neg q, if_neg q, if_neg q, c26 x q, c27 x q, c28 x q]
      exact hb x (by omega)
  · intro x k hx hk
    rw [e02, ho] at hx
    have e7 : ∀ i, mNew m (c9 : Int) (p9 : Int) 7 i = m 7 i := fun i => ex 7 i (by decide) (by decide) (by decide) (by decide) (by decide)
    by_cases q : x = o
    · have z6 : mNew m (c9 : Int) (p9 : Int) 6 (8 * x + k) = 0 := by rw [r6, if_pos (by omega)]
      have ej : jl (mNew m (c9 : Int) (p9 : Int)) (8 * x + k) = [] := by
        unfold jl
        rw [z6]
        rfl
      rw [ej, z6]
      exact ⟨n30 _ (by omega) (by omega), by decide, by decide⟩
    · have z6 : mNew m (c9 : Int) (p9 : Int) 6 (8 * x + k) = m 6 (8 * x + k) := by rw [r6, if_neg (by omega)]
      have ej : jl (mNew m (c9 : Int) (p9 : Int)) (8 * x + k) = jl m (8 * x + k) := by
        unfold jl
        rw [z6]
        exact List.map_congr_left (fun i _ => e7 _)
      have z := hj x k (by omega) hk
      rw [ej, z6, c30 _ (by omega)]
      exact ⟨CHN.mv (by rw [c3' 15 (by decide)]; exact Int.le_refl _) (fun i _ => c9' 31 _ (by decide) (by decide) (by decide) (by decide) (by decide) (by decide) (by decide)) (fun i _ _ => c9' 32 _ (by decide) (by decide) (by decide) (by decide) (by decide) (by decide) (by decide)) _ _ z.1, z.2⟩
  · have al : ∀ x, x ≠ o → ∀ c p, ((mNew m (c9 : Int) (p9 : Int) 1 x = c ∧ mNew m (c9 : Int) (p9 : Int) 2 x = p ∧ mNew m (c9 : Int) (p9 : Int) 3 x < 2) ↔ (m 1 x = c ∧ m 2 x = p ∧ m 3 x < 2)) := fun x q c p => by
      rw [r1, r2, r3, if_neg q, if_neg q, if_neg q]
    have ao : ∀ c p, ((mNew m (c9 : Int) (p9 : Int) 1 o = c ∧ mNew m (c9 : Int) (p9 : Int) 2 o = p ∧ mNew m (c9 : Int) (p9 : Int) 3 o < 2) ↔ ((c9 : Int) = c ∧ (p9 : Int) = p)) := fun c p => by
      rw [r1, r2, r3, if_pos rfl, if_pos rfl, if_pos rfl]
      exact ⟨fun z => ⟨z.1, z.2.1⟩, fun z => ⟨z.1, z.2, by decide⟩⟩
    refine ⟨fun pl c hq hc2 hsh => ?_, fun x y hxy hy h1 h2 h3 h4 => ?_⟩
    · have z := hp.1 pl c hq hc2 hsh
      rw [nn] at z
      rw [show (mNew m (c9 : Int) (p9 : Int) 0 2).toNat = o + 1 from by rw [e02]; omega]
      by_cases q : pl = p9 ∧ c = c9
      · rw [q.1, q.2, n25 (by rw [← q.2]; exact hsh), prs_y ((ao _ _).mpr ⟨rfl, rfl⟩).1 ((ao _ _).mpr ⟨rfl, rfl⟩).2.1 ((ao _ _).mpr ⟨rfl, rfl⟩).2.2]
      · have ne : 24 * pl + c ≠ 24 * p9 + c9 := fun e => q (by omega)
        rw [c25 _ ne, z, prs_n (fun w => q (by have w2 := (ao _ _).mp w; omega))]
        exact (prs_ext _ (fun x hx => al x (by omega) _ _)).symm
    · rw [e02, ho] at hy
      by_cases qy : y = o
      · rw [qy] at h1 h2 ⊢
        have qx : x ≠ o := by omega
        rw [r1, r1, if_neg qx, if_pos rfl] at h1
        rw [r2, r2, if_neg qx, if_pos rfl] at h2
        rw [r1, if_neg qx, h1] at h3
        rw [r3, if_neg qx] at h4
        exact fun _ => prs_neg _ (hu h3) x (by omega) ⟨h1, h2, h4⟩
      · have qx : x ≠ o := by omega
        rw [r1, r1, if_neg qx, if_neg qy] at h1
        rw [r2, r2, if_neg qx, if_neg qy] at h2
        rw [r1, if_neg qx] at h3
        rw [r3, if_neg qx] at h4
        rw [r3, if_neg qy]
        exact hp.2 x y hxy (by omega) h1 h2 h3 h4
end RWx
/-! one more is joined -/
/-- the last link of a chain -/
def lstK (V : Vf) : List Int → Int → Int
  | [], lk => lk
  | [_], lk => lk
  | _ :: y :: l, lk => lstK V (y :: l) (V 32 lk.toNat).toInt
section JNz
variable {V W : Vf} {ow ow2 : Nat → Nat} {B : Bk} {m : Mm} {q n last : Nat} {v : Int}
theorem CHN.mw (e15 : (V 3 15).toInt ≤ (W 3 15).toInt) (e31 : ∀ i : Nat, (i : Int) < (V 3 15).toInt → W 31 i = V 31 i) (e32 : ∀ i : Nat, (i : Int) < (V 3 15).toInt → ow i = q → W 32 i = V 32 i) (o1 : ∀ i : Nat, (i : Int) < (V 3 15).toInt → ow2 i = ow i) : ∀ (l : List Int) (lk : Int), CHN V ow q l lk → CHN W ow2 q l lk
  | [], _, h => h
  | x :: l, lk, h => by
    obtain ⟨⟨h0, h1, h2⟩, h3, h4⟩ := h
    have hk : ((lk.toNat : Nat) : Int) < (V 3 15).toInt := by omega
    refine ⟨⟨h0, by omega, by rw [o1 _ hk]; exact h2⟩, by rw [e31 _ hk]; exact h3, ?_⟩
    rw [e32 _ hk h2]
    exact CHN.mw e15 e31 e32 o1 l _ h4
theorem CHN.lst : ∀ (l : List Int) (lk : Int), CHN V ow q l lk → l ≠ [] → (0 ≤ lstK V l lk ∧ lstK V l lk < (V 3 15).toInt ∧ ow (lstK V l lk).toNat = q) ∧ (V 32 (lstK V l lk).toNat).toInt = -1
  | [], _, _, h => absurd rfl h
  | [x], lk, h, _ => ⟨h.1, h.2.2⟩
  | x :: y :: l, lk, h, _ => CHN.lst (y :: l) _ h.2.2 (fun e => by cases e)
theorem CHN.snoc (hn : (V 3 15).toInt = (n : Int)) (w15 : (W 3 15).toInt = (n : Int) + 1) (c31 : ∀ i, i < n → W 31 i = V 31 i) (n31 : (W 31 n).toInt = v) (c32 : ∀ i, i < n → i ≠ last → W 32 i = V 32 i) (n32 : (W 32 n).toInt = -1) (l32 : (W 32 last).toInt = (n : Int)) (v32 : (V 32 last).toInt = -1) (o1 : ∀ i, i < n → ow2 i = ow i) (o2 : ow2 n = q) : ∀ (l : List Int) (lk : Int), CHN V ow q l lk → l ≠ [] → lstK V l lk = (last : Int) → CHN W ow2 q (l ++ [v]) lk
  | [], _, _, h, _ => absurd rfl h
  | [x], lk, h, _, hl => by
    obtain ⟨⟨h0, h1, h2⟩, h3, h4⟩ := h
    have e : lk.toNat = last := by
      have z : lk = (last : Int) := hl
      omega
    have lt : lk.toNat < n := by omega
    refine ⟨⟨h0, by omega, by rw [o1 _ lt]; exact h2⟩, by rw [c31 _ lt]; exact h3, ?_⟩
    rw [e, l32]
    exact ⟨⟨by omega, by omega, o2⟩, n31, n32⟩
  | x :: y :: l, lk, h, _, hl => by
    obtain ⟨⟨h0, h1, h2⟩, h3, h4⟩ := h
    have lt : lk.toNat < n := by omega
    have h40 := h4.1.1
    have ne : lk.toNat ≠ last := fun e => by
      rw [e, v32] at h40
      omega
    refine ⟨⟨h0, by omega, by rw [o1 _ lt]; exact h2⟩, by rw [c31 _ lt]; exact h3, ?_⟩
    rw [c32 _ lt ne]
    exact CHN.snoc hn w15 c31 n31 c32 n32 l32 v32 o1 o2 (y :: l) _ h4 (fun e => by cases e) hl
theorem jl_j {o k : Nat} (h0 : 0 ≤ m 6 (8 * o + k)) : jl (mJoin m o k v) (8 * o + k) = jl m (8 * o + k) ++ [v] := by
  obtain ⟨c, hc⟩ : ∃ c : Nat, m 6 (8 * o + k) = (c : Int) := ⟨(m 6 (8 * o + k)).toNat, by omega⟩
  have e6 : mJoin m o k v 6 (8 * o + k) = m 6 (8 * o + k) + 1 := mU_s _ _ _ _
  have e7 : ∀ i, mJoin m o k v 7 i = if i = 24 * (8 * o + k) + c then v else m 7 i := fun i => by
    unfold mJoin
    rw [mU_o _ _ (by omega), hc]
    by_cases q : i = 24 * (8 * o + k) + c
    · rw [if_pos q, q]
      exact mU_s _ _ _ _
    · rw [if_neg q]
      exact mU_o _ _ (fun z => q z.2)
  unfold jl
  rw [e6, hc, show ((c : Int) + 1).toNat = c + 1 from rfl, show ((c : Int)).toNat = c from rfl, List.range_succ, List.map_append]
  refine congr (congrArg _ (List.map_congr_left (fun i hi => ?_))) ?_
  · have := List.mem_range.mp hi
    rw [e7, if_neg (by omega)]
  · show [mJoin m o k v 7 (24 * (8 * o + k) + c)] = [v]
    rw [e7, if_pos rfl]
theorem jl_o {o k r : Nat} (hr : r ≠ 8 * o + k) (h0 : 0 ≤ m 6 (8 * o + k)) (h1 : m 6 (8 * o + k) ≤ 23) (h2 : m 6 r ≤ 24) : jl (mJoin m o k v) r = jl m r := by
  have e6 : mJoin m o k v 6 r = m 6 r := by
    unfold mJoin
    rw [mU_o _ _ (fun z => hr z.2), mU_o _ _ (by omega)]
  unfold jl
  rw [e6]
  refine List.map_congr_left (fun i hi => ?_)
  have lt := List.mem_range.mp hi
  unfold mJoin
  rw [mU_o _ _ (by omega), mU_o _ _ (by omega)]
theorem RWn.join {o k : Nat} (h : RWn V ow B m) (ho : (o : Int) < m 0 2) (hk : k < 8) (h23 : m 6 (8 * o + k) ≤ 23) (hn : (V 3 15).toInt = (n : Int)) (w15 : (W 3 15).toInt = (n : Int) + 1) (c31 : ∀ i, i < n → W 31 i = V 31 i) (n31 : (W 31 n).toInt = v) (n32 : (W 32 n).toInt = -1) (y : ((V 30 (8 * o + k)).toInt = -1 ∧ (W 30 (8 * o + k)).toInt = (n : Int) ∧ ∀ i, i < n → W 32 i = V 32 i) ∨ ((V 30 (8 * o + k)).toInt ≠ -1 ∧ W 30 (8 * o + k) = V 30 (8 * o + k) ∧ ∃ last : Nat, lstK V (jl m (8 * o + k)) (V 30 (8 * o + k)).toInt = (last : Int) ∧ (W 32 last).toInt = (n : Int) ∧ ∀ i, i < n → i ≠ last → W 32 i = V 32 i)) (c30 : ∀ x, x ≠ 8 * o + k → W 30 x = V 30 x) (cc : ∀ c j, c ≤ 37 → c ≠ 30 → c ≠ 31 → c ≠ 32 → ¬ (c = 3 ∧ j = 15) → W c j = V c j) : ∃ ow2, RWn W ow2 B (mJoin m o k v) := by
  obtain ⟨ha, hb, hj, hs, hp⟩ := h
  have ex : ∀ x j, x ≠ 6 → x ≠ 7 → mJoin m o k v x j = m x j := fun x j h6 h7 => by
    unfold mJoin
    rw [mU_o _ _ (by omega), mU_o _ _ (by omega)]
  have c9 : ∀ c j, c ≤ 37 → c ≠ 30 → c ≠ 31 → c ≠ 32 → c ≠ 3 → W c j = V c j := fun c j a1 a2 a3 a4 a5 => cc c j a1 a2 a3 a4 (by omega)
  have c3 : ∀ j, j ≠ 15 → W 3 j = V 3 j := fun j hj9 => cc 3 j (by decide) (by decide) (by decide) (by decide) (by omega)
  have z0 := hj o k ho hk
  refine ⟨fun i => if i = n then 8 * o + k else ow i, ?_, ?_, ?_, RWs.mv hs (fun q => ex _ _ (by decide) (by decide)) (fun q => ex _ _ (by decide) (by decide)) (fun q => ex _ _ (by decide) (by decide)) (fun q => ex _ _ (by decide) (by decide)) (c3 _ (by decide)) (fun q => c9 _ _ (by decide) (by decide) (by decide) (by decide) (by decide)) (fun q => c9 _ _ (by decide) (by decide) (by decide) (by decide) (by decide)) (fun q => c9 _ _ (by decide) (by decide) (by decide) (by decide) (by decide)) (fun q => c9 _ _ (by decide) (by decide) (by decide) (by decide) (by decide)), ?_⟩
  · unfold RWa at ha ⊢
    simp only [ex 0 _ (by decide) (by decide), ex 9 _ (by decide) (by decide), ex 10 _ (by decide) (by decide), c9 5 _ (by decide) (by decide) (by decide) (by decide) (by decide), c9 4 _ (by decide) (by decide) (by decide) (by decide) (by decide), c9 36 _ (by decide) (by decide) (by decide) (by decide) (by decide), c9 37 _ (by decide) (by decide) (by decide) (by decide) (by decide), c3 13 (by decide), c3 14 (by decide)]
    exact ha
  · intro x hx
    rw [ex 0 2 (by decide) (by decide)] at hx
    rw [ex 1 x (by decide) (by decide), ex 2 x (by decide) (by decide), ex 3 x (by decide) (by decide), ex 4 x (by decide) (by decide), c9 26 _ (by decide) (by decide) (by decide) (by decide) (by decide), c9 27 _ (by decide) (by decide) (by decide) (by decide) (by decide), c9 28 _ (by decide) (by decide) (by decide) (by decide) (by decide), c9 29 _ (by decide) (by decide) (by decide) (by decide) (by decide), c3 12 (by decide)]
    exact hb x hx
  · intro x j hx hj9
    rw [ex 0 2 (by decide) (by decide)] at hx
    have o1 : ∀ i, i < n → (fun i => if i = n then 8 * o + k else ow i) i = ow i := fun i hi => if_neg (by omega)
    have o2 : (fun i => if i = n then 8 * o + k else ow i) n = 8 * o + k := if_pos rfl
    by_cases qe : 8 * x + j = 8 * o + k
    · have e6 : mJoin m o k v 6 (8 * o + k) = m 6 (8 * o + k) + 1 := mU_s _ _ _ _
      rw [qe, jl_j z0.2.1, e6]
      refine ⟨?_, by omega, by omega⟩
      rcases y with ⟨y1, y2, y3⟩ | ⟨y1, y2, last, y3, y4, y5⟩
      · have en := ((CHN.at _ _ z0.1).1.mp y1)
        rw [en, y2]
        exact ⟨⟨by omega, by omega, o2⟩, n31, n32⟩
      · have nn : jl m (8 * o + k) ≠ [] := fun e => y1 ((CHN.at _ _ z0.1).1.mpr e)
        have ls := CHN.lst _ _ z0.1 nn
        rw [y3] at ls
        rw [y2]
        exact CHN.snoc hn w15 c31 n31 y5 n32 y4 ls.2 o1 o2 _ _ z0.1 nn y3
    · have z := hj x j hx hj9
      rw [jl_o qe z0.2.1 h23 z.2.2, c30 _ qe]
      refine ⟨CHN.mw (by omega) (fun i hi => c31 i (by omega)) (fun i hi hq => ?_) (fun i hi => o1 i (by omega)) _ _ z.1, ?_⟩
      · rcases y with ⟨y1, y2, y3⟩ | ⟨y1, y2, last, y3, y4, y5⟩
        · exact y3 i (by omega)
        · refine y5 i (by omega) (fun e => qe ?_)
          have nn : jl m (8 * o + k) ≠ [] := fun e => y1 ((CHN.at _ _ z0.1).1.mpr e)
          have ls := (CHN.lst _ _ z0.1 nn).1.2.2
          rw [y3] at ls
          rw [← hq, e]
          exact ls
      · have e6 : mJoin m o k v 6 (8 * x + j) = m 6 (8 * x + j) := by
          unfold mJoin
          rw [mU_o _ _ (fun w => qe w.2), mU_o _ _ (by omega)]
        rw [e6]
        exact z.2
  · refine ⟨fun pl c hpl hc hsh => ?_, fun x y hxy hy h1 h2 h3 h4 => ?_⟩
    · rw [c9 25 _ (by decide) (by decide) (by decide) (by decide) (by decide), hp.1 pl c hpl hc hsh, ex 0 2 (by decide) (by decide)]
      exact (prs_ext _ (fun x _ => by rw [ex 1 x (by decide) (by decide), ex 2 x (by decide) (by decide), ex 3 x (by decide) (by decide)])).symm
    · rw [ex 0 2 (by decide) (by decide)] at hy
      rw [ex 1 x (by decide) (by decide), ex 1 y (by decide) (by decide)] at h1
      rw [ex 2 x (by decide) (by decide), ex 2 y (by decide) (by decide)] at h2
      rw [ex 1 x (by decide) (by decide)] at h3
      rw [ex 3 x (by decide) (by decide)] at h4
      rw [ex 3 y (by decide) (by decide)]
      exact hp.2 x y hxy hy h1 h2 h3 h4
/-- a component is SPOILED -/
theorem RWn.spoil {s c : Nat} (h : RWn V ow B m) (hs9 : (s : Int) < (V 3 12).toInt) (hc : c < 24) (n24 : ∀ j, j < 24 → (bt (W 24 s) j = true ↔ (j = c ∨ bt (V 24 s) j = true))) (c24 : ∀ x, x ≠ s → W 24 x = V 24 x) (cc : ∀ a j, a ≤ 37 → a ≠ 24 → W a j = V a j) : RWn W ow B (mU m 8 (24 * s + c) 1) := by
  obtain ⟨ha, hb, hj, hs, hp⟩ := h
  have ex : ∀ x j, x ≠ 8 → mU m 8 (24 * s + c) 1 x j = m x j := fun x j h8 => mU_o _ _ (by omega)
  refine ⟨?_, ?_, RWj.mv hj (ex _ _ (by decide)) (fun q => ex _ _ (by decide)) (fun q => ex _ _ (by decide)) (cc _ _ (by decide) (by decide)) (fun q => cc _ _ (by decide) (by decide)) (fun q => cc _ _ (by decide) (by decide)) (fun q => cc _ _ (by decide) (by decide)), ?_, ?_⟩
  · unfold RWa at ha ⊢
    simp only [ex 0 _ (by decide), ex 9 _ (by decide), ex 10 _ (by decide), cc 5 _ (by decide) (by decide), cc 4 _ (by decide) (by decide), cc 36 _ (by decide) (by decide), cc 37 _ (by decide) (by decide), cc 3 _ (by decide) (by decide)]
    exact ha
  · intro x hx
    rw [ex 0 2 (by decide)] at hx
    rw [ex 1 x (by decide), ex 2 x (by decide), ex 3 x (by decide), ex 4 x (by decide), cc 26 _ (by decide) (by decide), cc 27 _ (by decide) (by decide), cc 28 _ (by decide) (by decide), cc 29 _ (by decide) (by decide), cc 3 _ (by decide) (by decide)]
    exact hb x hx
  · refine ⟨⟨by rw [cc 3 _ (by decide) (by decide)]; exact hs.1.1, fun x h1 h2 => by rw [cc 3 _ (by decide) (by decide)] at h1; rw [c24 x (by omega)]; exact hs.1.2 x h1 h2⟩, fun x hx => by rw [cc 21 _ (by decide) (by decide), ex 12 x (by decide)]; exact hs.2.1 x hx, fun x hx => ?_⟩
    rw [cc 3 _ (by decide) (by decide)] at hx
    have z := hs.2.2 x hx
    rw [cc 23 _ (by decide) (by decide), cc 22 _ (by decide) (by decide), cc 3 _ (by decide) (by decide), ex 11 x (by decide), ex 12 x (by decide), ex 13 x (by decide)]
    refine ⟨z.1, z.2.1, fun j hj9 => ?_⟩
    by_cases q : x = s
    · rw [q, n24 j hj9]
      by_cases e : j = c
      · rw [e, mU_s]
        exact ⟨fun _ => by decide, fun _ => Or.inl rfl⟩
      · rw [mU_o _ _ (by omega)]
        have z2 := z.2.2 j hj9
        rw [q] at z2
        exact ⟨fun w => z2.mp (w.resolve_left e), fun w => Or.inr (z2.mpr w)⟩
    · rw [c24 x q, mU_o _ _ (by omega)]
      exact z.2.2 j hj9
  · refine ⟨fun pl c hpl hc hsh => ?_, fun x y hxy hy h1 h2 h3 h4 => ?_⟩
    · rw [cc 25 _ (by decide) (by decide), hp.1 pl c hpl hc hsh, ex 0 2 (by decide)]
      exact (prs_ext _ (fun x _ => by rw [ex 1 x (by decide), ex 2 x (by decide), ex 3 x (by decide)])).symm
    · rw [ex 0 2 (by decide)] at hy
      rw [ex 1 x (by decide), ex 1 y (by decide)] at h1
      rw [ex 2 x (by decide), ex 2 y (by decide)] at h2
      rw [ex 1 x (by decide)] at h3
      rw [ex 3 x (by decide)] at h4
      rw [ex 3 y (by decide)]
      exact hp.2 x y hxy hy h1 h2 h3 h4
end JNz
/-! frames by their kinds -/
section FRk
variable {V W : Vf} {B : Bk} {i : Nat} {f : Fr}
theorem FRc.k0 (h : FRc V B i f) (k : (V 67 i).toInt = 0) : (∃ lv c sc mk, f = Froot0 lv c sc mk) ∨ (∃ lv c sc mk, f = Froot1 lv c sc mk) ∨ (∃ lv mk nd fl sp, f = Froot2 lv mk nd fl sp) := by
  unfold FRc kp at h
  split at h
  all_goals first
    | exact h.elim
    | (have := h.1.1; exfalso; omega)
    | exact Or.inl ⟨_, _, _, _, rfl⟩
    | exact Or.inr (Or.inl ⟨_, _, _, _, rfl⟩)
    | exact Or.inr (Or.inr ⟨_, _, _, _, _, rfl⟩)
theorem FRc.k1 (h : FRc V B i f) (k : (V 67 i).toInt = 1) : (∃ lv o c pl ps it, f = Fmake lv o c pl ps it) ∨ (∃ lv o c pl, f = Fopen lv o c pl) := by
  unfold FRc kp at h
  split at h
  all_goals first
    | exact h.elim
    | (have := h.1.1; exfalso; omega)
    | exact Or.inl ⟨_, _, _, _, _, _, rfl⟩
    | exact Or.inr ⟨_, _, _, _, rfl⟩
theorem FRc.k2 (h : FRc V B i f) (k : (V 67 i).toInt = 2) : (∃ lv o c sc me v, f = Fcall0 lv o c sc me v) ∨ (∃ lv o c sc me, f = Fcall1 lv o c sc me) ∨ (∃ lv o c sc me ps nd fl, f = Fcall3 lv o c sc me ps nd fl) := by
  unfold FRc kp at h
  split at h
  all_goals first
    | exact h.elim
    | (have := h.1.1; exfalso; omega)
    | exact Or.inl ⟨_, _, _, _, _, _, rfl⟩
    | exact Or.inr (Or.inl ⟨_, _, _, _, _, rfl⟩)
    | exact Or.inr (Or.inr ⟨_, _, _, _, _, _, _, _, rfl⟩)
theorem FRc.k3 (h : FRc V B i f) (k : (V 67 i).toInt = 3) : (∃ lv o c sc me ps v, f = Fin0 lv o c sc me ps v) ∨ (∃ lv o c sc me, f = Fin1 lv o c sc me) ∨ (∃ lv o c sc me ps, f = Fin4 lv o c sc me ps) ∨ (∃ lv o c sc me ps, f = Fin5 lv o c sc me ps) := by
  unfold FRc kp at h
  split at h
  all_goals first
    | exact h.elim
    | (have := h.1.1; exfalso; omega)
    | exact Or.inl ⟨_, _, _, _, _, _, _, rfl⟩
    | exact Or.inr (Or.inl ⟨_, _, _, _, _, rfl⟩)
    | exact Or.inr (Or.inr (Or.inl ⟨_, _, _, _, _, _, rfl⟩))
    | exact Or.inr (Or.inr (Or.inr ⟨_, _, _, _, _, _, rfl⟩))
theorem FRc.k4 (h : FRc V B i f) (k : (V 67 i).toInt = 4) : (∃ lv o c sc me ps at9 v p, f = Fwork lv o c sc me ps at9 v p) ∨ (∃ lv o c sc me ps at9 v p, f = Fwait lv o c sc me ps at9 v p) ∨ (∃ lv o c sc at9 nd tg v g p, f = Fask lv o c sc at9 nd tg v g p) ∨ (∃ lv o c sc at9 nd tg v g p, f = Fget lv o c sc at9 nd tg v g p) ∨ (∃ lv o c sc at9 nd tg it v g u p, f = Fsum lv o c sc at9 nd tg it v g u p) := by
  unfold FRc kp at h
  split at h
  all_goals first
    | exact h.elim
    | (have := h.1.1; exfalso; omega)
    | exact Or.inl ⟨_, _, _, _, _, _, _, _, _, rfl⟩
    | exact Or.inr (Or.inl ⟨_, _, _, _, _, _, _, _, _, rfl⟩)
    | exact Or.inr (Or.inr (Or.inl ⟨_, _, _, _, _, _, _, _, _, _, rfl⟩))
    | exact Or.inr (Or.inr (Or.inr (Or.inl ⟨_, _, _, _, _, _, _, _, _, _, rfl⟩)))
    | exact Or.inr (Or.inr (Or.inr (Or.inr ⟨_, _, _, _, _, _, _, _, _, _, _, _, rfl⟩)))
theorem FRc.k5 (h : FRc V B i f) (k : (V 67 i).toInt ≠ 0 ∧ (V 67 i).toInt ≠ 1 ∧ (V 67 i).toInt ≠ 2 ∧ (V 67 i).toInt ≠ 3 ∧ (V 67 i).toInt ≠ 4) : (∃ lv o c sc, f = Fclo0 lv o c sc) ∨ (∃ lv o c sc, f = Fclo1 lv o c sc) := by
  unfold FRc kp at h
  split at h
  all_goals first
    | exact h.elim
    | (have := h.1.1; exfalso; omega)
    | exact Or.inl ⟨_, _, _, _, rfl⟩
    | exact Or.inr ⟨_, _, _, _, rfl⟩
/-- one more on top -/
theorem RWl.push {r : List Fr} {t : Nat} (h : RWl V B r t) (hf : FRc V B r.length f) (hp : f.2.2.2 = []) (hb : 12 ≤ f.1 → f.1 ≤ 16 → (V 85 r.length).toInt = (t : Int)) : RWl V B (f :: r) t := ⟨t, by rw [hp]; rfl, hf, hb, by rw [hp]; exact trivial, h⟩
theorem RWl.pop {r : List Fr} {t : Nat} (h : RWl V B (f :: r) t) (hp : f.2.2.2 = []) : RWl V B r t := by
  obtain ⟨t0, h1, _, _, _, h2⟩ := h
  rw [hp] at h1
  have e : t = t0 := h1
  rw [e]
  exact h2
/-- the one on top is another -/
theorem RWl.top {r : List Fr} {t : Nat} {g : Fr} (h : RWl V B (f :: r) t) (hg : FRc V B r.length g) (hp : g.2.2.2 = f.2.2.2) (hb : 12 ≤ g.1 → g.1 ≤ 16 → 12 ≤ f.1 ∧ f.1 ≤ 16) : RWl V B (g :: r) t := by
  obtain ⟨t0, h1, _, h3, h4, h5⟩ := h
  exact ⟨t0, by rw [hp]; exact h1, hg, fun a b => h3 (hb a b).1 (hb a b).2, by rw [hp]; exact h4, h5⟩
end FRk
/-! the class's BOOK while it works; one turn -/
def BKc (V : Vf) (b : Nat) (B : Bk) : Prop := CDc V b B.1 ∧ REc V b B.1 ∧ (WWc V b B.1 ∧ (V 41 b).toInt = ((B.1.2.2.1.length : Nat) : Int) ∧ ∀ i, i < (bW B).length → (V 47 (12 * b + i)).toInt = (((bW B).getD i 0 : Nat) : Int)) ∧ ((V 43 (5 * b + 2)).toInt = ((nC B : Nat) : Int) ∧ nC B ≤ 24 ∧ COc V b B.1) ∧ (∀ i, i < (B.1.2.1 1).length → V 46 (12 * b + i) = B.2 i) ∧ (∀ w, w < wN B → nL B.1 (900 + 8 * w) < 24 ∧ nL B.1 (902 + 8 * w) < 100) ∧ (WHs B.1 ∧ SEs B.1) ∧ (B.1.2.1 1).length ≤ 12
section BKcs
variable {V W : Vf} {b : Nat} {B : Bk}
theorem BKc.cs {c : Nat} (h : BKc V b B) (hc : c < nC B) : ((V 57 (24 * b + c)).toInt = -1 ∧ bE B c 31 = 0) ∨ (bE B c 31 ≠ 0 ∧ (V 57 (24 * b + c)).toInt = ((psz (opf B.1) (bE B c 31 - 1) : Nat) : Int)) := by
  have z := h.2.1.2.1 c hc 31 (Or.inr (Or.inr rfl))
  unfold cR rgv at z
  rw [if_neg (by decide), if_neg (by decide)] at z
  rw [bE_i hc (Or.inr (Or.inr rfl))]
  by_cases q : nL B.1 (100 + 32 * c + 31) = 0
  · rw [if_pos q] at z
    exact Or.inl ⟨z, q⟩
  · rw [if_neg q] at z
    exact Or.inr ⟨q, z⟩
theorem BKc.op {c : Nat} (h : BKc V b B) (hc : c < nC B) : ((V 56 (24 * b + c)).toInt = -1 ∧ bE B c 30 = 0) ∨ (bE B c 30 ≠ 0 ∧ (V 56 (24 * b + c)).toInt = ((psz (opf B.1) (bE B c 30 - 1) : Nat) : Int)) := by
  have z := h.2.1.2.1 c hc 30 (Or.inr (Or.inl rfl))
  unfold cR rgv at z
  rw [if_neg (by decide), if_pos rfl] at z
  rw [bE_i hc (Or.inr (Or.inl rfl))]
  by_cases q : nL B.1 (100 + 32 * c + 30) = 0
  · rw [if_pos q] at z
    exact Or.inl ⟨z, q⟩
  · rw [if_neg q] at z
    exact Or.inr ⟨q, z⟩
theorem BKc.me {c k : Nat} (h : BKc V b B) (hc : c < nC B) (hk : k < 20) : ((V 61 (20 * (24 * b + c) + k)).toInt = -1 ∧ bE B c k = 0) ∨ (bE B c k ≠ 0 ∧ (V 61 (20 * (24 * b + c) + k)).toInt = ((psz (opf B.1) (bE B c k - 1) : Nat) : Int)) := by
  have z := h.2.1.2.1 c hc k (Or.inl hk)
  unfold cR rgv at z
  rw [if_pos hk] at z
  rw [bE_i hc (Or.inl hk)]
  by_cases q : nL B.1 (100 + 32 * c + k) = 0
  · rw [if_pos q] at z
    exact Or.inl ⟨z, q⟩
  · rw [if_neg q] at z
    exact Or.inr ⟨q, z⟩
theorem BKc.be (h : BKc V b B) (e : BE V W) : BKc W b B := by
  have e41 : ∀ k, W 41 k = V 41 k := fun k => e 41 k (by decide) (by decide)
  have e42 : ∀ k, W 42 k = V 42 k := fun k => e 42 k (by decide) (by decide)
  have e43 : ∀ k, W 43 k = V 43 k := fun k => e 43 k (by decide) (by decide)
  have e44 : ∀ k, W 44 k = V 44 k := fun k => e 44 k (by decide) (by decide)
  have e45 : ∀ k, W 45 k = V 45 k := fun k => e 45 k (by decide) (by decide)
  have e46 : ∀ k, W 46 k = V 46 k := fun k => e 46 k (by decide) (by decide)
  have e47 : ∀ k, W 47 k = V 47 k := fun k => e 47 k (by decide) (by decide)
  have e48 : ∀ k, W 48 k = V 48 k := fun k => e 48 k (by decide) (by decide)
  have e49 : ∀ k, W 49 k = V 49 k := fun k => e 49 k (by decide) (by decide)
  have e50 : ∀ k, W 50 k = V 50 k := fun k => e 50 k (by decide) (by decide)
  have e51 : ∀ k, W 51 k = V 51 k := fun k => e 51 k (by decide) (by decide)
  have e52 : ∀ k, W 52 k = V 52 k := fun k => e 52 k (by decide) (by decide)
  have e53 : ∀ k, W 53 k = V 53 k := fun k => e 53 k (by decide) (by decide)
  have e54 : ∀ k, W 54 k = V 54 k := fun k => e 54 k (by decide) (by decide)
  have e55 : ∀ k, W 55 k = V 55 k := fun k => e 55 k (by decide) (by decide)
  have e56 : ∀ k, W 56 k = V 56 k := fun k => e 56 k (by decide) (by decide)
  have e57 : ∀ k, W 57 k = V 57 k := fun k => e 57 k (by decide) (by decide)
  have e58 : ∀ k, W 58 k = V 58 k := fun k => e 58 k (by decide) (by decide)
  have e59 : ∀ k, W 59 k = V 59 k := fun k => e 59 k (by decide) (by decide)
  have e60 : ∀ k, W 60 k = V 60 k := fun k => e 60 k (by decide) (by decide)
  have e61 : ∀ k, W 61 k = V 61 k := fun k => e 61 k (by decide) (by decide)
  have e62 : ∀ k, W 62 k = V 62 k := fun k => e 62 k (by decide) (by decide)
  have e63 : ∀ k, W 63 k = V 63 k := fun k => e 63 k (by decide) (by decide)
  have e64 : ∀ k, W 64 k = V 64 k := fun k => e 64 k (by decide) (by decide)
  have e65 : ∀ k, W 65 k = V 65 k := fun k => e 65 k (by decide) (by decide)
  have e66 : ∀ k, W 66 k = V 66 k := fun k => e 66 k (by decide) (by decide)
  unfold BKc CDc CDr REc cR WWc WWr COc COr HDr NEr at h ⊢
  simp only [e41, e42, e43, e44, e45, e46, e47, e48, e49, e50, e51, e52, e53, e54, e55, e56, e57, e58, e59, e60, e61, e62, e63, e64, e65, e66]
  exact h
end BKcs
/-- objects, scopes, what was made: none of it written -/
def ESw (V W : Vf) : Prop := (∀ k, W 3 k = V 3 k) ∧ W 4 6 = V 4 6 ∧ (W 5 13 = V 5 13 ∧ W 5 14 = V 5 14 ∧ W 5 8 = V 5 8) ∧ (∀ c k, 21 ≤ c → c ≤ 37 → c < 33 ∨ 35 < c → W c k = V c k) ∧ ∀ k, W 40 k = V 40 k
def esQ (fs : List (Nat × Nat)) (cs : List Nat) : Bool := fs.all (fun y => y.1 != 3 && !(([(4, 6), (5, 13), (5, 14), (5, 8)] : List (Nat × Nat)).contains y) && (y.1 < 21 || y.1 == 44)) && cs.all (fun c => (c != 3 && c != 4 && c != 5) && (c < 21 || 38 ≤ c || (33 ≤ c && c ≤ 35)) && c != 40)
theorem ESw.ag {fs : List (Nat × Nat)} {cs : List Nat} {V W : Vf} (a : agr fs cs V W) (q : esQ fs cs = true) : ESw V W := by
  unfold esQ at q
  rw [Bool.and_eq_true, List.all_eq_true, List.all_eq_true] at q
  have w : ∀ c k, ((c = 3) ∨ (c = 4 ∧ k = 6) ∨ (c = 5 ∧ (k = 13 ∨ k = 14 ∨ k = 8)) ∨ (21 ≤ c ∧ c ≤ 37 ∧ (c < 33 ∨ 35 < c)) ∨ c = 40) → W c k = V c k := fun c k h => a c k (by
    unfold wrL
    rw [Bool.or_eq_false_iff]
    refine ⟨?_, ?_⟩
    · rw [← Bool.not_eq_true]
      intro z
      have y := q.1 _ (List.contains_iff_mem.mp z)
      rw [Bool.and_eq_true, Bool.and_eq_true] at y
      have y1 : (c != 3) = true := y.1.1
      have y2 : (!(([(4, 6), (5, 13), (5, 14), (5, 8)] : List (Nat × Nat)).contains (c, k))) = true := y.1.2
      have y3 : c < 21 ∨ c = 44 := by
        have z9 : (decide (c < 21) || c == 44) = true := y.2
        rw [Bool.or_eq_true] at z9
        exact z9.imp of_decide_eq_true eq_of_beq
      rcases h with h | ⟨h, h2⟩ | ⟨h, h2⟩ | h | h
      · rw [h] at y1
        exact absurd y1 (by decide)
      · rw [h, h2] at y2
        exact absurd y2 (by decide)
      · rcases h2 with h2 | h2 | h2 <;> (rw [h, h2] at y2; exact absurd y2 (by decide))
      · omega
      · omega
    · rw [← Bool.not_eq_true]
      intro z
      have y := q.2 _ (List.contains_iff_mem.mp z)
      rw [Bool.and_eq_true, Bool.and_eq_true, Bool.and_eq_true, Bool.and_eq_true] at y
      have y1 : c ≠ 3 := fun e => by rw [e] at y; exact absurd y.1.1.1.1 (by decide)
      have y2 : c ≠ 4 := fun e => by rw [e] at y; exact absurd y.1.1.1.2 (by decide)
      have y3 : c ≠ 5 := fun e => by rw [e] at y; exact absurd y.1.1.2 (by decide)
      have y4 : c < 21 ∨ 38 ≤ c ∨ (33 ≤ c ∧ c ≤ 35) := by
        have z9 := y.1.2
        rw [Bool.or_eq_true, Bool.or_eq_true, Bool.and_eq_true] at z9
        exact z9.elim (fun h => h.elim (fun h => Or.inl (of_decide_eq_true h)) (fun h => Or.inr (Or.inl (of_decide_eq_true h)))) (fun h => Or.inr (Or.inr ⟨of_decide_eq_true h.1, of_decide_eq_true h.2⟩))
      have y5 : c ≠ 40 := fun e => by rw [e] at y; exact absurd y.2 (by decide)
      omega)
  exact ⟨fun k => w 3 k (by omega), w 4 6 (by omega), ⟨w 5 13 (by omega), w 5 14 (by omega), w 5 8 (by omega)⟩, fun c k h1 h2 h3 => w c k (by omega), fun k => w 40 k (by omega)⟩
theorem ESw.rf {V : Vf} : ESw V V := ⟨fun _ => rfl, rfl, ⟨rfl, rfl, rfl⟩, fun _ _ _ _ _ => rfl, fun _ => rfl⟩
theorem ESw.tr {V W X : Vf} (h : ESw V W) (k : ESw W X) : ESw V X := ⟨fun j => (k.1 j).trans (h.1 j), k.2.1.trans h.2.1, ⟨k.2.2.1.1.trans h.2.2.1.1, k.2.2.1.2.1.trans h.2.2.1.2.1, k.2.2.1.2.2.trans h.2.2.1.2.2⟩, fun c j a b z => (k.2.2.2.1 c j a b z).trans (h.2.2.2.1 c j a b z), fun j => (k.2.2.2.2 j).trans (h.2.2.2.2 j)⟩
section RWt
variable {V W : Vf} {B : Bk} {m : Mm} {a a2 : Int32} {fs fs2 : List Fr} {ow : Nat → Nat} {t : Nat} {sg nd kd : Int}
theorem mU_06 {x j : Nat} {v : Int} (h : x ≠ 0 ∨ j ≠ 6) : mU m 0 6 v x j = m x j := mU_o _ _ (by omega)
/-- .. then only what it hears and what is under way is another -/
theorem RW.sgn (h : RW V B (m, a, fs)) (es : ESw V W) (s : (W 5 9).toInt = sg) (h1 : sg = 1 → W 5 10 = a2) (h2 : sg = 2 → (W 5 11).toInt = m 0 8 ∧ (W 5 12).toInt = m 0 9) (d : (W 5 6).toInt = ((fs2.length : Nat) : Int)) (tp : (W 5 7).toInt = ((t : Nat) : Int)) (l : RWl W B fs2 t) : RW W B (mU m 0 6 sg, a2, fs2) := by
  obtain ⟨⟨ow, hn⟩, hh, _, _⟩ := h
  refine ⟨⟨ow, hn.mv (fun j hj => mU_06 (Or.inr (by omega))) (fun x j hx _ => mU_06 (Or.inl hx)) es.1 es.2.1 es.2.2.1.1 es.2.2.1.2.1 es.2.2.2.1⟩, ⟨?_, ?_, ?_, ?_, ?_⟩, d, t, tp, l⟩
  · show _ = mU m 0 6 sg 0 6
    rw [mU_s]
    exact s
  · intro q
    have q : mU m 0 6 sg 0 6 = 1 := q
    rw [mU_s] at q
    exact h1 q
  · intro q
    have q : mU m 0 6 sg 0 6 = 2 := q
    rw [mU_s] at q
    show _ = mU m 0 6 sg 0 8 ∧ _ = mU m 0 6 sg 0 9
    rw [mU_06 (Or.inr (by decide)), mU_06 (Or.inr (by decide))]
    exact h2 q
  · show _ = mU m 0 6 sg 0 4
    rw [mU_06 (Or.inr (by decide)), es.2.2.1.2.2]
    exact hh.2.2.2.1
  · intro i hi
    have hi : (i : Int) < mU m 0 6 sg 0 4 := hi
    rw [mU_06 (Or.inr (by decide))] at hi
    show _ = mU m 0 6 sg 5 i
    rw [mU_06 (Or.inl (by decide)), es.2.2.2.2]
    exact hh.2.2.2.2 i hi
theorem RWn.es (h : RWn V ow B m) (es : ESw V W) : RWn W ow B m := h.mv (fun _ _ => rfl) (fun _ _ _ _ => rfl) es.1 es.2.1 es.2.2.1.1 es.2.2.1.2.1 es.2.2.2.1
/-- it fails -/
theorem RW.fl (h : RW V B (m, a, fs)) (es : ESw V W) (s : (W 5 9).toInt = 2) (h1 : (W 5 11).toInt = nd) (h2 : (W 5 12).toInt = kd) (d : (W 5 6).toInt = ((fs2.length : Nat) : Int)) (tp : (W 5 7).toInt = ((t : Nat) : Int)) (l : RWl W B fs2 t) : RW W B (mU (mU (mU m 0 6 2) 0 8 nd) 0 9 kd, a2, fs2) := by
  have e06 : mU (mU (mU m 0 6 2) 0 8 nd) 0 9 kd 0 6 = 2 := by rw [mU_o _ _ (by omega), mU_o _ _ (by omega), mU_s]
  have e08 : mU (mU (mU m 0 6 2) 0 8 nd) 0 9 kd 0 8 = nd := by rw [mU_o _ _ (by omega), mU_s]
  have e09 : mU (mU (mU m 0 6 2) 0 8 nd) 0 9 kd 0 9 = kd := mU_s _ _ _ _
  have ex : ∀ x j, ¬ (x = 0 ∧ (j = 6 ∨ j = 8 ∨ j = 9)) → mU (mU (mU m 0 6 2) 0 8 nd) 0 9 kd x j = m x j := fun x j q => by rw [mU_o _ _ (by omega), mU_o _ _ (by omega), mU_o _ _ (by omega)]
  obtain ⟨⟨ow, hn⟩, hh, _, _⟩ := h
  refine ⟨⟨ow, hn.mv (fun j hj => ex _ _ (by omega)) (fun x j hx _ => ex _ _ (by omega)) es.1 es.2.1 es.2.2.1.1 es.2.2.1.2.1 es.2.2.2.1⟩, ⟨s.trans e06.symm, fun q => ?_, fun _ => ⟨h1.trans e08.symm, h2.trans e09.symm⟩, ?_, fun i hi => ?_⟩, d, t, tp, l⟩
  · have q : mU (mU (mU m 0 6 2) 0 8 nd) 0 9 kd 0 6 = 1 := q
    rw [e06] at q
    exact absurd q (by decide)
  · show _ = mU (mU (mU m 0 6 2) 0 8 nd) 0 9 kd 0 4
    rw [ex 0 4 (by omega), es.2.2.1.2.2]
    exact hh.2.2.2.1
  · have hi : (i : Int) < mU (mU (mU m 0 6 2) 0 8 nd) 0 9 kd 0 4 := hi
    rw [ex 0 4 (by omega)] at hi
    show _ = mU (mU (mU m 0 6 2) 0 8 nd) 0 9 kd 5 i
    rw [ex 5 i (by omega), es.2.2.2.2]
    exact hh.2.2.2.2 i hi
/-- only what is under way is another -/
theorem RW.id (h : RW V B (m, a, fs)) (es : ESw V W) (s : W 5 9 = V 5 9) (s1 : W 5 10 = V 5 10) (s2 : W 5 11 = V 5 11) (s3 : W 5 12 = V 5 12) (d : (W 5 6).toInt = ((fs2.length : Nat) : Int)) (tp : (W 5 7).toInt = ((t : Nat) : Int)) (l : RWl W B fs2 t) : RW W B (m, a, fs2) := by
  obtain ⟨⟨ow, hn⟩, hh, _, _⟩ := h
  refine ⟨⟨ow, hn.es es⟩, ⟨by rw [s]; exact hh.1, fun q => by rw [s1]; exact hh.2.1 q, fun q => by rw [s2, s3]; exact hh.2.2.1 q, by rw [es.2.2.1.2.2]; exact hh.2.2.2.1, fun i hi => by rw [es.2.2.2.2]; exact hh.2.2.2.2 i hi⟩, d, t, tp, l⟩
/-- a STEP is taken -/
theorem RW.stp (h : RW V B (m, a, fs)) (e0 : (W 5 14).toInt = (V 5 14).toInt + 1) (e1 : (W 5 13).toInt = (V 5 13).toInt + 1) (cc : ∀ c k, ¬ (c = 5 ∧ (k = 13 ∨ k = 14)) → W c k = V c k) : RW W B (mSt m, a, fs) := by
  obtain ⟨⟨ow, hn⟩, hh, hd, t, ht, hl⟩ := h
  have ex : ∀ x j, ¬ (x = 0 ∧ (j = 0 ∨ j = 1)) → mSt m x j = m x j := fun x j q => by
    unfold mSt
    rw [mU_o _ _ (by omega), mU_o _ _ (by omega)]
  refine ⟨⟨ow, hn.stp e0 e1 (fun c k h1 _ => cc c k (by omega))⟩, ⟨?_, fun q => ?_, fun q => ?_, ?_, fun i hi => ?_⟩, ?_, t, ?_, RWl.mv hl (fun i _ c h1 h2 => cc c i (by omega)) (fun j _ => cc 39 j (by omega)) (by rw [cc 3 13 (by omega)]; exact Int.le_refl _) (cc 3 12 (by omega))⟩
  · show _ = mSt m 0 6
    rw [ex 0 6 (by omega), cc 5 9 (by omega)]
    exact hh.1
  · have q : mSt m 0 6 = 1 := q
    rw [ex 0 6 (by omega)] at q
    rw [cc 5 10 (by omega)]
    exact hh.2.1 q
  · have q : mSt m 0 6 = 2 := q
    rw [ex 0 6 (by omega)] at q
    show _ = mSt m 0 8 ∧ _ = mSt m 0 9
    rw [ex 0 8 (by omega), ex 0 9 (by omega), cc 5 11 (by omega), cc 5 12 (by omega)]
    exact hh.2.2.1 q
  · show _ = mSt m 0 4
    rw [ex 0 4 (by omega), cc 5 8 (by omega)]
    exact hh.2.2.2.1
  · have hi : (i : Int) < mSt m 0 4 := hi
    rw [ex 0 4 (by omega)] at hi
    show _ = mSt m 5 i
    rw [ex 5 i (by omega), cc 40 i (by omega)]
    exact hh.2.2.2.2 i hi
  · show _ = ((fs.length : Nat) : Int)
    rw [cc 5 6 (by omega)]
    exact hd
  · rw [cc 5 7 (by omega)]
    exact ht
/-- all of it, from its parts -/
theorem RW.fin {m2 : Mm} (h : RW V B (m, a, fs)) (rn : RWn W ow B m2) (e4 : m2 0 4 = m 0 4) (e5 : ∀ i, m2 5 i = m 5 i) (c58 : W 5 8 = V 5 8) (c40 : ∀ i, W 40 i = V 40 i) (s : (W 5 9).toInt = m2 0 6) (h1 : m2 0 6 = 1 → W 5 10 = a2) (h2 : m2 0 6 = 2 → (W 5 11).toInt = m2 0 8 ∧ (W 5 12).toInt = m2 0 9) (d : (W 5 6).toInt = ((fs2.length : Nat) : Int)) (tp : (W 5 7).toInt = ((t : Nat) : Int)) (l : RWl W B fs2 t) : RW W B (m2, a2, fs2) :=
  ⟨⟨ow, rn⟩, ⟨s, h1, h2, by rw [c58]; exact h.2.1.2.2.2.1.trans e4.symm, fun i hi => by rw [c40]; exact (h.2.1.2.2.2.2 i (by have z : (i : Int) < m2 0 4 := hi; rw [e4] at z; exact z)).trans (e5 i).symm⟩, d, t, tp, l⟩
theorem mNt_0 {o k : Int} {j : Nat} (h : j ≠ 5) : mNote m o k 0 j = m 0 j := by
  unfold mNote
  split
  · rw [mU_o _ _ (by omega), mU_o _ _ (by omega), mU_o _ _ (by omega)]
  · rw [mU_o _ _ (by omega)]
theorem mNt_x {o k : Int} {x j : Nat} (h0 : x ≠ 0) (h9 : x ≠ 9) (h10 : x ≠ 10) : mNote m o k x j = m x j := by
  unfold mNote
  split
  · rw [mU_o _ _ (by omega), mU_o _ _ (by omega), mU_o _ _ (by omega)]
  · rw [mU_o _ _ (by omega)]
end RWt


abbrev r_x_leave9 : Room := { frames := 0, cells := 0, slots := 0, locals := 0 }
abbrev q_x_leave9 (D : va_G) (ks : KS) (ad : Nat → Nat) (kk : Nat → ClassId) (V : Vf) (L : Lf) (Z : XZ) (A : Nat → Prop) : Array Value → State → Outcome → State → Prop := va_Qv (fun (u : Vf × Lf) => rgd bX u.1 ∧ agr [(5, 6)] [] V u.1 ∧ u.2 = L ∧ ((u.1 5 6).toInt = (V 5 6).toInt - 1) ∧ (((True) ∧ u.1 = (up2 V 5 6 (V 5 6 - 1))))) (fun u t => gq D A (xw ad kk u.1 u.2 Z) (xty kk Z) t) A
set_option maxHeartbeats 4000000 in
set_option maxRecDepth 100000 in
theorem x_leave9 (l : Launch) (D : va_G) (ks : KS) (sz : Nat) (ad : Nat → Nat) (kk : Nat → ClassId) (V : Vf) (L : Lf) (Z : XZ)  (hMV : rgd bX V) (y1 : 1 ≤ (V 5 6).toInt)  : Met l yX5_leave (Cond.code yX5_leave cX5_leave 1 none :: GW) r_x_leave9 (va_Pc [.ref (ad 5)] (gp D ks (xw ad kk V L Z) (xty kk Z) sz)) (q_x_leave9 D ks ad kk V L Z  (va_A (xw ad kk V L Z) sz)) 0 0 (va_A (xw ad kk V L Z) sz) := by
  refine g_met (q_x_leave9 D ks ad kk V L Z) (by decide) (Nat.le_of_ble_eq_true rfl) ?_
  intro p e s m below meth c A ls H locs hx hb hr hml hown hg hlocks hin hnw hgk hP hK hD hS hA hl
  have hown : s.vm.findClass RX5 = some m.cls := hown
  have hl : lv_has ls 1 [(0, .ref (ad 5))] := hl
  have hP : va_P D vwCl (xw ad kk V L Z) H := hP
  have hD : va_D A (xw ad kk V L Z) := hD
  have hK : va_K D vwCl (xty kk Z) s := hK
  have agV : agr [(5, 6)] [] V V := agr.rf
  have r1 : 0 ≤ ((V 5 6)).toInt ∧ ((V 5 6)).toInt ≤ 400 := hMV 5 6
  refine lv_aload_n hx hb dX5_leave_0 rfl (lv_at hl 0 rfl) ?_
  refine lv_dup hx hb dX5_leave_1 rfl ?_
  refine va_get (D := D) (ci := 5) (v := .int (V 5 6)) (fs := (xfMachine ad V L Z)) (C := RX5) (T := TX5) (N := 15) hx hb hg inX5 hown hK hP 5 xgMachine rfl 6 (by decide) (hg _ w673) (fun _ h9 => h9) rfl dX5_leave_2 ?_
  refine lv_iconst (v := 1) hx hb dX5_leave_5 (by decide) ?_
  refine lv_isub hx hb dX5_leave_6 ?_
  refine lv_topi (fun z2 ez2 => ?_)
  have hz2 : z2.toInt = ((V 5 6)).toInt - 1 := i_sub ez2 rfl (by decide) (by (first | exact om_8ca935217318 y1 r1.2 | omega))
  refine va_put (D := D) (ci := 5) (v := .int z2) (ty := tyX5 6) (fs := (xfMachine ad V L Z)) (C := RX5) (T := TX5) (N := 15) hx hb hg inX5 tyX5 tyX5_ok nmX5 hown hK hP hD hS 5 xgMachine rfl 6 (by decide) (hg _ w673) (fun _ h9 => h9) rfl (tyX5_ok 6 (by decide)) rfl rfl (Nat.le_of_ble_eq_true rfl) dX5_leave_7 (fun H locs hP hD hS => ?_)
  obtain ⟨V3, hV3⟩ : ∃ z, z = up2 V 5 6 z2 := ⟨_, rfl⟩
  have ew4 : (xw ad kk V L Z).set 5 ((ad 5), .inr (5, (xfMachine ad V L Z).set 6 (.int z2))) = xw ad kk V3 L Z := by rw [hV3]; exact xw_ss (by decide) rfl (xb_si (by decide))
  have hP : va_P D vwCl (xw ad kk V3 L Z) H := by rw [← ew4]; exact hP
  have hD : va_D A (xw ad kk V3 L Z) := by rw [← ew4]; exact hD
  have hMV3 : rgd bX V3 := hMV.put hV3 (show 0 ≤ z2.toInt ∧ z2.toInt ≤ 400 from by (first | exact om_79850c49fe9a y1 r1.2 hz2 | omega))
  have agV3 : agr [(5, 6)] [] V V3 := agV.up hV3 rfl
  have pq5 : (V3 5 6).toInt = z2.toInt := congrArg Int32.toInt (up2_s hV3)
  exact W.vret hx hb hr (fun t ht hW => ⟨⟨(V3, L), rfl, ⟨hMV3, agV3, rfl, (show (V3 5 6).toInt = (V 5 6).toInt - 1 from by (first | exact om_bb80f9d36154 hz2 pq5 | omega)), (⟨trivial, by rw [hV3, ez2] <;> rfl⟩)⟩, by rw [ht]; exact hP, va_K.moved hW.alike hK, hD⟩, hS.F ht⟩) hS.2.2 dX5_leave_10
abbrev r_x_answerWith9 : Room := { frames := 0, cells := 0, slots := 0, locals := 0 }
abbrev q_x_answerWith9 (D : va_G) (ks : KS) (ad : Nat → Nat) (kk : Nat → ClassId) (V : Vf) (L : Lf) (Z : XZ) (p0 : Int32) (A : Nat → Prop) : Array Value → State → Outcome → State → Prop := va_Qv (fun (u : Vf × Lf) => rgd bX u.1 ∧ agr [(5, 9), (5, 10)] [] V u.1 ∧ u.2 = L ∧ ((u.1 5 9).toInt = 1) ∧ ((u.1 5 10).toInt = p0.toInt) ∧ (((True) ∧ u.1 = (up2 (up2 V 5 9 1) 5 10 p0)))) (fun u t => gq D A (xw ad kk u.1 u.2 Z) (xty kk Z) t) A
set_option maxHeartbeats 4000000 in
set_option maxRecDepth 100000 in
theorem x_answerWith9 (l : Launch) (D : va_G) (ks : KS) (sz : Nat) (ad : Nat → Nat) (kk : Nat → ClassId) (V : Vf) (L : Lf) (Z : XZ) (p0 : Int32) (hMV : rgd bX V)  : Met l yX5_answerWith (Cond.code yX5_answerWith cX5_answerWith 2 none :: GW) r_x_answerWith9 (va_Pc [.ref (ad 5), .int p0] (gp D ks (xw ad kk V L Z) (xty kk Z) sz)) (q_x_answerWith9 D ks ad kk V L Z p0 (va_A (xw ad kk V L Z) sz)) 0 0 (va_A (xw ad kk V L Z) sz) := by
  refine g_met (q_x_answerWith9 D ks ad kk V L Z p0) (by decide) (Nat.le_of_ble_eq_true rfl) ?_
  intro p e s m below meth c A ls H locs hx hb hr hml hown hg hlocks hin hnw hgk hP hK hD hS hA hl
  have hown : s.vm.findClass RX5 = some m.cls := hown
  have hl : lv_has ls 2 [(0, .ref (ad 5)), (1, .int p0)] := hl
  have hP : va_P D vwCl (xw ad kk V L Z) H := hP
  have hD : va_D A (xw ad kk V L Z) := hD
  have hK : va_K D vwCl (xty kk Z) s := hK
  have agV : agr [(5, 9), (5, 10)] [] V V := agr.rf
  refine lv_aload_n hx hb dX5_answerWith_0 rfl (lv_at hl 0 rfl) ?_
  refine lv_iconst (v := 1) hx hb dX5_answerWith_1 (by decide) ?_
  refine va_put (D := D) (ci := 5) (v := .int 1) (ty := tyX5 9) (fs := (xfMachine ad V L Z)) (C := RX5) (T := TX5) (N := 15) hx hb hg inX5 tyX5 tyX5_ok nmX5 hown hK hP hD hS 5 xgMachine rfl 9 (by decide) (hg _ w676) (fun _ h9 => h9) rfl (tyX5_ok 9 (by decide)) rfl rfl (Nat.le_of_ble_eq_true rfl) dX5_answerWith_2 (fun H locs hP hD hS => ?_)
  obtain ⟨V1, hV1⟩ : ∃ z, z = up2 V 5 9 1 := ⟨_, rfl⟩
  have ew2 : (xw ad kk V L Z).set 5 ((ad 5), .inr (5, (xfMachine ad V L Z).set 9 (.int 1))) = xw ad kk V1 L Z := by rw [hV1]; exact xw_ss (by decide) rfl (xb_si (by decide))
  have hP : va_P D vwCl (xw ad kk V1 L Z) H := by rw [← ew2]; exact hP
  have hD : va_D A (xw ad kk V1 L Z) := by rw [← ew2]; exact hD
  have hMV1 : rgd bX V1 := hMV.put hV1 (by decide)
  have agV1 : agr [(5, 9), (5, 10)] [] V V1 := agV.up hV1 rfl
  refine lv_aload_n hx hb dX5_answerWith_5 rfl (lv_at hl 0 rfl) ?_
  refine lv_iload_n hx hb dX5_answerWith_6 rfl (lv_at hl 1 rfl) ?_
  refine va_put (D := D) (ci := 5) (v := .int p0) (ty := tyX5 10) (fs := (xfMachine ad V1 L Z)) (C := RX5) (T := TX5) (N := 15) hx hb hg inX5 tyX5 tyX5_ok nmX5 hown hK hP hD hS 5 xgMachine rfl 10 (by decide) (hg _ w677) (fun _ h9 => h9) rfl (tyX5_ok 10 (by decide)) rfl rfl (Nat.le_of_ble_eq_true rfl) dX5_answerWith_7 (fun H locs hP hD hS => ?_)
  obtain ⟨V3, hV3⟩ : ∃ z, z = up2 V1 5 10 p0 := ⟨_, rfl⟩
  have ew4 : (xw ad kk V1 L Z).set 5 ((ad 5), .inr (5, (xfMachine ad V1 L Z).set 10 (.int p0))) = xw ad kk V3 L Z := by rw [hV3]; exact xw_ss (by decide) rfl (xb_si (by decide))
  have hP : va_P D vwCl (xw ad kk V3 L Z) H := by rw [← ew4]; exact hP
  have hD : va_D A (xw ad kk V3 L Z) := by rw [← ew4]; exact hD
  have hMV3 : rgd bX V3 := hMV1.put hV3 (i_full _)
  have agV3 : agr [(5, 9), (5, 10)] [] V V3 := agV1.up hV3 rfl
  have pq5 : (V3 5 9).toInt = 1 := (congrArg Int32.toInt ((up2_k hV3 (by decide)).trans (up2_s hV1))).trans (by decide)
  have pq6 : (V3 5 10).toInt = p0.toInt := congrArg Int32.toInt (up2_s hV3)
  exact W.vret hx hb hr (fun t ht hW => ⟨⟨(V3, L), rfl, ⟨hMV3, agV3, rfl, (show (V3 5 9).toInt = 1 from by (first | exact om_710535a98d88 pq5 | omega)), (show (V3 5 10).toInt = p0.toInt from by (first | exact om_570b691c1130 pq6 | omega)), (⟨trivial, by rw [hV3, hV1] <;> rfl⟩)⟩, by rw [ht]; exact hP, va_K.moved hW.alike hK, hD⟩, hS.F ht⟩) hS.2.2 dX5_answerWith_10
abbrev r_x_failWith9 : Room := { frames := 0, cells := 0, slots := 0, locals := 0 }
abbrev q_x_failWith9 (D : va_G) (ks : KS) (ad : Nat → Nat) (kk : Nat → ClassId) (V : Vf) (L : Lf) (Z : XZ) (p0 : Int32) (p1 : Int32) (A : Nat → Prop) : Array Value → State → Outcome → State → Prop := va_Qv (fun (u : Vf × Lf) => rgd bX u.1 ∧ agr [(5, 9), (5, 11), (5, 12)] [] V u.1 ∧ u.2 = L ∧ ((u.1 5 9).toInt = 2) ∧ (((True) ∧ u.1 = (up2 (up2 (up2 V 5 9 2) 5 11 p0) 5 12 p1)))) (fun u t => gq D A (xw ad kk u.1 u.2 Z) (xty kk Z) t) A
set_option maxHeartbeats 4000000 in
set_option maxRecDepth 100000 in
theorem x_failWith9 (l : Launch) (D : va_G) (ks : KS) (sz : Nat) (ad : Nat → Nat) (kk : Nat → ClassId) (V : Vf) (L : Lf) (Z : XZ) (p0 : Int32) (p1 : Int32) (hMV : rgd bX V)  : Met l yX5_failWith (Cond.code yX5_failWith cX5_failWith 3 none :: GW) r_x_failWith9 (va_Pc [.ref (ad 5), .int p0, .int p1] (gp D ks (xw ad kk V L Z) (xty kk Z) sz)) (q_x_failWith9 D ks ad kk V L Z p0 p1 (va_A (xw ad kk V L Z) sz)) 0 0 (va_A (xw ad kk V L Z) sz) := by
  refine g_met (q_x_failWith9 D ks ad kk V L Z p0 p1) (by decide) (Nat.le_of_ble_eq_true rfl) ?_
  intro p e s m below meth c A ls H locs hx hb hr hml hown hg hlocks hin hnw hgk hP hK hD hS hA hl
  have hown : s.vm.findClass RX5 = some m.cls := hown
  have hl : lv_has ls 3 [(0, .ref (ad 5)), (1, .int p0), (2, .int p1)] := hl
  have hP : va_P D vwCl (xw ad kk V L Z) H := hP
  have hD : va_D A (xw ad kk V L Z) := hD
  have hK : va_K D vwCl (xty kk Z) s := hK
  have agV : agr [(5, 9), (5, 11), (5, 12)] [] V V := agr.rf
  refine lv_aload_n hx hb dX5_failWith_0 rfl (lv_at hl 0 rfl) ?_
  refine lv_iconst (v := 2) hx hb dX5_failWith_1 (by decide) ?_
  refine va_put (D := D) (ci := 5) (v := .int 2) (ty := tyX5 9) (fs := (xfMachine ad V L Z)) (C := RX5) (T := TX5) (N := 15) hx hb hg inX5 tyX5 tyX5_ok nmX5 hown hK hP hD hS 5 xgMachine rfl 9 (by decide) (hg _ w676) (fun _ h9 => h9) rfl (tyX5_ok 9 (by decide)) rfl rfl (Nat.le_of_ble_eq_true rfl) dX5_failWith_2 (fun H locs hP hD hS => ?_)
  obtain ⟨V1, hV1⟩ : ∃ z, z = up2 V 5 9 2 := ⟨_, rfl⟩
  have ew2 : (xw ad kk V L Z).set 5 ((ad 5), .inr (5, (xfMachine ad V L Z).set 9 (.int 2))) = xw ad kk V1 L Z := by rw [hV1]; exact xw_ss (by decide) rfl (xb_si (by decide))
  have hP : va_P D vwCl (xw ad kk V1 L Z) H := by rw [← ew2]; exact hP
  have hD : va_D A (xw ad kk V1 L Z) := by rw [← ew2]; exact hD
  have hMV1 : rgd bX V1 := hMV.put hV1 (by decide)
  have agV1 : agr [(5, 9), (5, 11), (5, 12)] [] V V1 := agV.up hV1 rfl
  refine lv_aload_n hx hb dX5_failWith_5 rfl (lv_at hl 0 rfl) ?_
  refine lv_iload_n hx hb dX5_failWith_6 rfl (lv_at hl 1 rfl) ?_
  refine va_put (D := D) (ci := 5) (v := .int p0) (ty := tyX5 11) (fs := (xfMachine ad V1 L Z)) (C := RX5) (T := TX5) (N := 15) hx hb hg inX5 tyX5 tyX5_ok nmX5 hown hK hP hD hS 5 xgMachine rfl 11 (by decide) (hg _ w678) (fun _ h9 => h9) rfl (tyX5_ok 11 (by decide)) rfl rfl (Nat.le_of_ble_eq_true rfl) dX5_failWith_7 (fun H locs hP hD hS => ?_)
  obtain ⟨V3, hV3⟩ : ∃ z, z = up2 V1 5 11 p0 := ⟨_, rfl⟩
  have ew4 : (xw ad kk V1 L Z).set 5 ((ad 5), .inr (5, (xfMachine ad V1 L Z).set 11 (.int p0))) = xw ad kk V3 L Z := by rw [hV3]; exact xw_ss (by decide) rfl (xb_si (by decide))
  have hP : va_P D vwCl (xw ad kk V3 L Z) H := by rw [← ew4]; exact hP
  have hD : va_D A (xw ad kk V3 L Z) := by rw [← ew4]; exact hD
  have hMV3 : rgd bX V3 := hMV1.put hV3 (i_full _)
  have agV3 : agr [(5, 9), (5, 11), (5, 12)] [] V V3 := agV1.up hV3 rfl
  refine lv_aload_n hx hb dX5_failWith_10 rfl (lv_at hl 0 rfl) ?_
  refine lv_iload_n hx hb dX5_failWith_11 rfl (lv_at hl 2 rfl) ?_
  refine va_put (D := D) (ci := 5) (v := .int p1) (ty := tyX5 12) (fs := (xfMachine ad V3 L Z)) (C := RX5) (T := TX5) (N := 15) hx hb hg inX5 tyX5 tyX5_ok nmX5 hown hK hP hD hS 5 xgMachine rfl 12 (by decide) (hg _ w679) (fun _ h9 => h9) rfl (tyX5_ok 12 (by decide)) rfl rfl (Nat.le_of_ble_eq_true rfl) dX5_failWith_12 (fun H locs hP hD hS => ?_)
  obtain ⟨V5, hV5⟩ : ∃ z, z = up2 V3 5 12 p1 := ⟨_, rfl⟩
  have ew6 : (xw ad kk V3 L Z).set 5 ((ad 5), .inr (5, (xfMachine ad V3 L Z).set 12 (.int p1))) = xw ad kk V5 L Z := by rw [hV5]; exact xw_ss (by decide) rfl (xb_si (by decide))
  have hP : va_P D vwCl (xw ad kk V5 L Z) H := by rw [← ew6]; exact hP
  have hD : va_D A (xw ad kk V5 L Z) := by rw [← ew6]; exact hD
  have hMV5 : rgd bX V5 := hMV3.put hV5 (i_full _)
  have agV5 : agr [(5, 9), (5, 11), (5, 12)] [] V V5 := agV3.up hV5 rfl
  have pq7 : (V5 5 9).toInt = 2 := (congrArg Int32.toInt ((up2_k hV5 (by decide)).trans ((up2_k hV3 (by decide)).trans (up2_s hV1)))).trans (by decide)
  exact W.vret hx hb hr (fun t ht hW => ⟨⟨(V5, L), rfl, ⟨hMV5, agV5, rfl, (show (V5 5 9).toInt = 2 from by (first | exact om_6aa5e6f8c558 pq7 | omega)), (⟨trivial, by rw [hV5, hV3, hV1] <;> rfl⟩)⟩, by rw [ht]; exact hP, va_K.moved hW.alike hK, hD⟩, hS.F ht⟩) hS.2.2 dX5_failWith_15
abbrev r_x_holdFailure9 : Room := { frames := 0, cells := 0, slots := 0, locals := 0 }
abbrev q_x_holdFailure9 (D : va_G) (ks : KS) (ad : Nat → Nat) (kk : Nat → ClassId) (V : Vf) (L : Lf) (Z : XZ) (gf : Nat) (A : Nat → Prop) : Array Value → State → Outcome → State → Prop := va_Qv (fun (u : Vf × Lf) => rgd bX u.1 ∧ agr [] [81, 82] V u.1 ∧ u.2 = L ∧ (((True) ∧ u.1 = (up2 (up2 V 81 gf (V 5 11)) 82 gf (V 5 12))))) (fun u t => gq D A (xw ad kk u.1 u.2 Z) (xty kk Z) t) A
set_option maxHeartbeats 4000000 in
set_option maxRecDepth 100000 in
theorem x_holdFailure9 (l : Launch) (D : va_G) (ks : KS) (sz : Nat) (ad : Nat → Nat) (kk : Nat → ClassId) (V : Vf) (L : Lf) (Z : XZ) (gf : Nat) (hMV : rgd bX V) (hgf : gf < Z.nf)  : Met l yX5_holdFailure (Cond.code yX5_holdFailure cX5_holdFailure 2 none :: GW) r_x_holdFailure9 (va_Pc [.ref (ad 5), .ref (Z.fa gf)] (gp D ks (xw ad kk V L Z) (xty kk Z) sz)) (q_x_holdFailure9 D ks ad kk V L Z  gf (va_A (xw ad kk V L Z) sz)) 0 0 (va_A (xw ad kk V L Z) sz) := by
  refine g_met (q_x_holdFailure9 D ks ad kk V L Z  gf) (by decide) (Nat.le_of_ble_eq_true rfl) ?_
  intro p e s m below meth c A ls H locs hx hb hr hml hown hg hlocks hin hnw hgk hP hK hD hS hA hl
  have hown : s.vm.findClass RX5 = some m.cls := hown
  have hl : lv_has ls 2 [(0, .ref (ad 5)), (1, .ref (Z.fa gf))] := hl
  have hP : va_P D vwCl (xw ad kk V L Z) H := hP
  have hD : va_D A (xw ad kk V L Z) := hD
  have hK : va_K D vwCl (xty kk Z) s := hK
  have agV : agr [] [81, 82] V V := agr.rf
  refine lv_aload_n hx hb dX5_holdFailure_0 rfl (lv_at hl 1 rfl) ?_
  refine lv_aload_n hx hb dX5_holdFailure_1 rfl (lv_at hl 0 rfl) ?_
  refine va_get (D := D) (ci := 5) (v := .int (V 5 11)) (fs := (xfMachine ad V L Z)) (C := RX5) (T := TX5) (N := 15) hx hb hg inX5 hown hK hP 5 xgMachine rfl 11 (by decide) (hg _ w678) (fun _ h9 => h9) rfl dX5_holdFailure_2 ?_
  refine va_putN (D := D) (ci := 4) (v := .int (V 5 11)) (ty := tyX4 14) (fs := (xfFrame V gf)) (C := RX4) (T := TX4) (N := 19) hx hb hg inX4 tyX4 tyX4_ok nmX4 hown hK hP hD hS (336 + gf) (xgFrame hgf) rfl 14 (by decide) (hnw.use 1203 n1203 rfl) (fun _ h9 => h9) rfl (tyX4_ok 14 (by decide)) rfl rfl (Nat.le_of_ble_eq_true rfl) dX5_holdFailure_5 (fun H locs hP hD hS => ?_)
  obtain ⟨V1, hV1⟩ : ∃ z, z = up2 V 81 gf (V 5 11) := ⟨_, rfl⟩
  have ew2 : (xw ad kk V L Z).set (336 + gf) ((Z.fa gf), .inr (4, (xfFrame V gf).set 14 (.int (V 5 11)))) = xw ad kk V1 L Z := by rw [hV1]; exact xpFrame_needs hgf
  have hP : va_P D vwCl (xw ad kk V1 L Z) H := by rw [← ew2]; exact hP
  have hD : va_D A (xw ad kk V1 L Z) := by rw [← ew2]; exact hD
  have hMV1 : rgd bX V1 := hMV.put hV1 (i_full _)
  have agV1 : agr [] [81, 82] V V1 := agV.up hV1 rfl
  refine lv_aload_n hx hb dX5_holdFailure_8 rfl (lv_at hl 1 rfl) ?_
  refine lv_aload_n hx hb dX5_holdFailure_9 rfl (lv_at hl 0 rfl) ?_
  refine va_get (D := D) (ci := 5) (v := .int (V1 5 12)) (fs := (xfMachine ad V1 L Z)) (C := RX5) (T := TX5) (N := 15) hx hb hg inX5 hown hK hP 5 xgMachine rfl 12 (by decide) (hg _ w679) (fun _ h9 => h9) rfl dX5_holdFailure_10 ?_
  refine g_top (v := (V 5 12)) (up2_o hV1 (by decide)) ?_
  refine va_putN (D := D) (ci := 4) (v := .int (V 5 12)) (ty := tyX4 15) (fs := (xfFrame V1 gf)) (C := RX4) (T := TX4) (N := 19) hx hb hg inX4 tyX4 tyX4_ok nmX4 hown hK hP hD hS (336 + gf) (xgFrame hgf) rfl 15 (by decide) (hnw.use 1204 n1204 rfl) (fun _ h9 => h9) rfl (tyX4_ok 15 (by decide)) rfl rfl (Nat.le_of_ble_eq_true rfl) dX5_holdFailure_13 (fun H locs hP hD hS => ?_)
  obtain ⟨V3, hV3⟩ : ∃ z, z = up2 V1 82 gf (V 5 12) := ⟨_, rfl⟩
  have ew4 : (xw ad kk V1 L Z).set (336 + gf) ((Z.fa gf), .inr (4, (xfFrame V1 gf).set 15 (.int (V 5 12)))) = xw ad kk V3 L Z := by rw [hV3]; exact xpFrame_failure hgf
  have hP : va_P D vwCl (xw ad kk V3 L Z) H := by rw [← ew4]; exact hP
  have hD : va_D A (xw ad kk V3 L Z) := by rw [← ew4]; exact hD
  have hMV3 : rgd bX V3 := hMV1.put hV3 (i_full _)
  have agV3 : agr [] [81, 82] V V3 := agV1.up hV3 rfl
  exact W.vret hx hb hr (fun t ht hW => ⟨⟨(V3, L), rfl, ⟨hMV3, agV3, rfl, (⟨trivial, by rw [hV3, hV1] <;> rfl⟩)⟩, by rw [ht]; exact hP, va_K.moved hW.alike hK, hD⟩, hS.F ht⟩) hS.2.2 dX5_holdFailure_16
abbrev r_x_takesStep9 : Room := { frames := 0, cells := 0, slots := 0, locals := 0 }
abbrev q_x_takesStep9 (D : va_G) (ks : KS) (ad : Nat → Nat) (kk : Nat → ClassId) (V : Vf) (L : Lf) (Z : XZ) (A : Nat → Prop) : Array Value → State → Outcome → State → Prop := va_Qi (fun (r : Int32) (u : Vf × Lf) => rgd bX u.1 ∧ agr [(5, 9), (5, 13), (5, 14)] [] V u.1 ∧ u.2 = L ∧ (0 ≤ r.toInt ∧ r.toInt ≤ 1) ∧ (Imp (r.toInt = 0) ((u.1 5 9).toInt = 3)) ∧ (Imp (r.toInt = 1) ((u.1 5 9).toInt = (V 5 9).toInt)) ∧ (((r.toInt = 1 ∧ (V 5 13).toInt < 3000 ∧ (V 5 14).toInt < 60000) ∧ u.1 = (up2 (up2 V 5 13 (V 5 13 + 1)) 5 14 (V 5 14 + 1))) ∨ ((r.toInt = 0 ∧ (3000 ≤ (V 5 13).toInt ∨ 60000 ≤ (V 5 14).toInt)) ∧ u.1 = (up2 V 5 9 3)))) (fun u t => gq D A (xw ad kk u.1 u.2 Z) (xty kk Z) t) A
set_option maxHeartbeats 4000000 in
set_option maxRecDepth 100000 in
theorem x_takesStep9 (l : Launch) (D : va_G) (ks : KS) (sz : Nat) (ad : Nat → Nat) (kk : Nat → ClassId) (V : Vf) (L : Lf) (Z : XZ)  (hMV : rgd bX V)  : Met l yX5_takesStep (Cond.code yX5_takesStep cX5_takesStep 1 (some .boolean) :: GW) r_x_takesStep9 (va_Pc [.ref (ad 5)] (gp D ks (xw ad kk V L Z) (xty kk Z) sz)) (q_x_takesStep9 D ks ad kk V L Z  (va_A (xw ad kk V L Z) sz)) 0 0 (va_A (xw ad kk V L Z) sz) := by
  refine g_met (q_x_takesStep9 D ks ad kk V L Z) (by decide) (Nat.le_of_ble_eq_true rfl) ?_
  intro p e s m below meth c A ls H locs hx hb hr hml hown hg hlocks hin hnw hgk hP hK hD hS hA hl
  have hown : s.vm.findClass RX5 = some m.cls := hown
  have hl : lv_has ls 1 [(0, .ref (ad 5))] := hl
  have hP : va_P D vwCl (xw ad kk V L Z) H := hP
  have hD : va_D A (xw ad kk V L Z) := hD
  have hK : va_K D vwCl (xty kk Z) s := hK
  have agV : agr [(5, 9), (5, 13), (5, 14)] [] V V := agr.rf
  refine lv_aload_n hx hb dX5_takesStep_0 rfl (lv_at hl 0 rfl) ?_
  refine va_get (D := D) (ci := 5) (v := .int (V 5 13)) (fs := (xfMachine ad V L Z)) (C := RX5) (T := TX5) (N := 15) hx hb hg inX5 hown hK hP 5 xgMachine rfl 13 (by decide) (hg _ w680) (fun _ h9 => h9) rfl dX5_takesStep_1 ?_
  have r1 : 0 ≤ ((V 5 13)).toInt ∧ ((V 5 13)).toInt ≤ 3000 := hMV 5 13
  refine lv_sipush (v := 3000) hx hb dX5_takesStep_4 (by decide) ?_
  refine lv_icmp_ge (tgt := 19) hx hb dX5_takesStep_7 (by decide) (fun c2 => ?_) (fun c2 => ?_)
  · skip
    have f3 : 3000 ≤ ((V 5 13)).toInt := b_le (by decide) rfl c2
    refine lv_aload_n hx hb dX5_takesStep_19 rfl (lv_at hl 0 rfl) ?_
    refine lv_iconst (v := 3) hx hb dX5_takesStep_20 (by decide) ?_
    refine va_put (D := D) (ci := 5) (v := .int 3) (ty := tyX5 9) (fs := (xfMachine ad V L Z)) (C := RX5) (T := TX5) (N := 15) hx hb hg inX5 tyX5 tyX5_ok nmX5 hown hK hP hD hS 5 xgMachine rfl 9 (by decide) (hg _ w676) (fun _ h9 => h9) rfl (tyX5_ok 9 (by decide)) rfl rfl (Nat.le_of_ble_eq_true rfl) dX5_takesStep_21 (fun H locs hP hD hS => ?_)
    obtain ⟨V4, hV4⟩ : ∃ z, z = up2 V 5 9 3 := ⟨_, rfl⟩
    have ew5 : (xw ad kk V L Z).set 5 ((ad 5), .inr (5, (xfMachine ad V L Z).set 9 (.int 3))) = xw ad kk V4 L Z := by rw [hV4]; exact xw_ss (by decide) rfl (xb_si (by decide))
    have hP : va_P D vwCl (xw ad kk V4 L Z) H := by rw [← ew5]; exact hP
    have hD : va_D A (xw ad kk V4 L Z) := by rw [← ew5]; exact hD
    have hMV4 : rgd bX V4 := hMV.put hV4 (by decide)
    have agV4 : agr [(5, 9), (5, 13), (5, 14)] [] V V4 := agV.up hV4 rfl
    refine lv_iconst (v := 0) hx hb dX5_takesStep_24 (by decide) ?_
    have pq6 : (V4 5 9).toInt = 3 := (congrArg Int32.toInt (up2_s hV4)).trans (by decide)
    exact W.zret (v := 0) hx hb hr rfl (fun t ht hW => ⟨⟨0, (V4, L), rfl, ⟨hMV4, agV4, rfl, (by decide), (Imp.mk (fun _ => (show (V4 5 9).toInt = 3 from by (first | exact om_395e3da5ee0d pq6 | omega)))), (Imp.mk (fun hp => absurd hp (by decide))), (Or.inr (⟨by refine ⟨by decide, ?_⟩; omega, by rw [hV4] <;> rfl⟩))⟩, by rw [ht]; exact hP, va_K.moved hW.alike hK, hD⟩, hS.F ht⟩) hS.2.2 dX5_takesStep_25
  · skip
    have f7 : ((V 5 13)).toInt < 3000 := b_nle (by decide) rfl c2
    refine lv_aload_n hx hb dX5_takesStep_10 rfl (lv_at hl 0 rfl) ?_
    refine va_get (D := D) (ci := 5) (v := .int (V 5 14)) (fs := (xfMachine ad V L Z)) (C := RX5) (T := TX5) (N := 15) hx hb hg inX5 hown hK hP 5 xgMachine rfl 14 (by decide) (hg _ w682) (fun _ h9 => h9) rfl dX5_takesStep_11 ?_
    have r8 : 0 ≤ ((V 5 14)).toInt ∧ ((V 5 14)).toInt ≤ 60000 := hMV 5 14
    refine lv_ldc (v := 60000) hx hb hown (hg _ w1285) dX5_takesStep_14 ?_
    refine lv_icmp_lt (tgt := 26) hx hb dX5_takesStep_16 (by decide) (fun c9 => ?_) (fun c9 => ?_)
    · skip
      have f10 : ((V 5 14)).toInt < 60000 := b_lt rfl (by decide) c9
      refine lv_aload_n hx hb dX5_takesStep_26 rfl (lv_at hl 0 rfl) ?_
      refine lv_dup hx hb dX5_takesStep_27 rfl ?_
      refine va_get (D := D) (ci := 5) (v := .int (V 5 13)) (fs := (xfMachine ad V L Z)) (C := RX5) (T := TX5) (N := 15) hx hb hg inX5 hown hK hP 5 xgMachine rfl 13 (by decide) (hg _ w680) (fun _ h9 => h9) rfl dX5_takesStep_28 ?_
      refine lv_iconst (v := 1) hx hb dX5_takesStep_31 (by decide) ?_
      refine lv_iadd hx hb dX5_takesStep_32 ?_
      refine lv_topi (fun z11 ez11 => ?_)
      have hz11 : z11.toInt = ((V 5 13)).toInt + 1 := i_add ez11 rfl (by decide) (by (first | exact om_357e602e7667 r1.1 f7 | omega))
      refine va_put (D := D) (ci := 5) (v := .int z11) (ty := tyX5 13) (fs := (xfMachine ad V L Z)) (C := RX5) (T := TX5) (N := 15) hx hb hg inX5 tyX5 tyX5_ok nmX5 hown hK hP hD hS 5 xgMachine rfl 13 (by decide) (hg _ w680) (fun _ h9 => h9) rfl (tyX5_ok 13 (by decide)) rfl rfl (Nat.le_of_ble_eq_true rfl) dX5_takesStep_33 (fun H locs hP hD hS => ?_)
      obtain ⟨V12, hV12⟩ : ∃ z, z = up2 V 5 13 z11 := ⟨_, rfl⟩
      have ew13 : (xw ad kk V L Z).set 5 ((ad 5), .inr (5, (xfMachine ad V L Z).set 13 (.int z11))) = xw ad kk V12 L Z := by rw [hV12]; exact xw_ss (by decide) rfl (xb_si (by decide))
      have hP : va_P D vwCl (xw ad kk V12 L Z) H := by rw [← ew13]; exact hP
      have hD : va_D A (xw ad kk V12 L Z) := by rw [← ew13]; exact hD
      have hMV12 : rgd bX V12 := hMV.put hV12 (show 0 ≤ z11.toInt ∧ z11.toInt ≤ 3000 from by (first | exact om_329ba45e95d3 r1.1 f7 hz11 | omega))
      have agV12 : agr [(5, 9), (5, 13), (5, 14)] [] V V12 := agV.up hV12 rfl
      refine lv_aload_n hx hb dX5_takesStep_36 rfl (lv_at hl 0 rfl) ?_
      refine lv_dup hx hb dX5_takesStep_37 rfl ?_
      refine va_get (D := D) (ci := 5) (v := .int (V12 5 14)) (fs := (xfMachine ad V12 L Z)) (C := RX5) (T := TX5) (N := 15) hx hb hg inX5 hown hK hP 5 xgMachine rfl 14 (by decide) (hg _ w682) (fun _ h9 => h9) rfl dX5_takesStep_38 ?_
      refine g_top (v := (V 5 14)) (up2_k hV12 (by decide)) ?_
      refine lv_iconst (v := 1) hx hb dX5_takesStep_41 (by decide) ?_
      refine lv_iadd hx hb dX5_takesStep_42 ?_
      refine lv_topi (fun z14 ez14 => ?_)
      have hz14 : z14.toInt = ((V 5 14)).toInt + 1 := i_add ez14 rfl (by decide) (by (first | exact om_401bcb1082c9 r8.1 f10 | omega))
      refine va_put (D := D) (ci := 5) (v := .int z14) (ty := tyX5 14) (fs := (xfMachine ad V12 L Z)) (C := RX5) (T := TX5) (N := 15) hx hb hg inX5 tyX5 tyX5_ok nmX5 hown hK hP hD hS 5 xgMachine rfl 14 (by decide) (hg _ w682) (fun _ h9 => h9) rfl (tyX5_ok 14 (by decide)) rfl rfl (Nat.le_of_ble_eq_true rfl) dX5_takesStep_43 (fun H locs hP hD hS => ?_)
      obtain ⟨V15, hV15⟩ : ∃ z, z = up2 V12 5 14 z14 := ⟨_, rfl⟩
      have ew16 : (xw ad kk V12 L Z).set 5 ((ad 5), .inr (5, (xfMachine ad V12 L Z).set 14 (.int z14))) = xw ad kk V15 L Z := by rw [hV15]; exact xw_ss (by decide) rfl (xb_si (by decide))
      have hP : va_P D vwCl (xw ad kk V15 L Z) H := by rw [← ew16]; exact hP
      have hD : va_D A (xw ad kk V15 L Z) := by rw [← ew16]; exact hD
      have hMV15 : rgd bX V15 := hMV12.put hV15 (show 0 ≤ z14.toInt ∧ z14.toInt ≤ 60000 from by (first | exact om_83ca219491b2 r8.1 f10 hz14 | omega))
      have agV15 : agr [(5, 9), (5, 13), (5, 14)] [] V V15 := agV12.up hV15 rfl
      refine lv_iconst (v := 1) hx hb dX5_takesStep_46 (by decide) ?_
      have pq17 : (V15 5 9).toInt = ((V 5 9)).toInt := congrArg Int32.toInt ((up2_k hV15 (by decide)).trans (up2_k hV12 (by decide)))
      have r18 : 0 ≤ ((V 5 9)).toInt ∧ ((V 5 9)).toInt ≤ 3 := hMV 5 9
      exact W.zret (v := 1) hx hb hr rfl (fun t ht hW => ⟨⟨1, (V15, L), rfl, ⟨hMV15, agV15, rfl, (by decide), (Imp.mk (fun hp => absurd hp (by decide))), (Imp.mk (fun _ => (show (V15 5 9).toInt = (V 5 9).toInt from by (first | exact om_570b691c1130 pq17 | omega)))), (Or.inl ⟨by refine ⟨by decide, ?_⟩; omega, by rw [hV15, hV12, ez14, ez11] <;> rfl⟩)⟩, by rw [ht]; exact hP, va_K.moved hW.alike hK, hD⟩, hS.F ht⟩) hS.2.2 dX5_takesStep_47
    · skip
      have f19 : 60000 ≤ ((V 5 14)).toInt := b_nlt rfl (by decide) c9
      refine lv_aload_n hx hb dX5_takesStep_19 rfl (lv_at hl 0 rfl) ?_
      refine lv_iconst (v := 3) hx hb dX5_takesStep_20 (by decide) ?_
      refine va_put (D := D) (ci := 5) (v := .int 3) (ty := tyX5 9) (fs := (xfMachine ad V L Z)) (C := RX5) (T := TX5) (N := 15) hx hb hg inX5 tyX5 tyX5_ok nmX5 hown hK hP hD hS 5 xgMachine rfl 9 (by decide) (hg _ w676) (fun _ h9 => h9) rfl (tyX5_ok 9 (by decide)) rfl rfl (Nat.le_of_ble_eq_true rfl) dX5_takesStep_21 (fun H locs hP hD hS => ?_)
      obtain ⟨V20, hV20⟩ : ∃ z, z = up2 V 5 9 3 := ⟨_, rfl⟩
      have ew21 : (xw ad kk V L Z).set 5 ((ad 5), .inr (5, (xfMachine ad V L Z).set 9 (.int 3))) = xw ad kk V20 L Z := by rw [hV20]; exact xw_ss (by decide) rfl (xb_si (by decide))
      have hP : va_P D vwCl (xw ad kk V20 L Z) H := by rw [← ew21]; exact hP
      have hD : va_D A (xw ad kk V20 L Z) := by rw [← ew21]; exact hD
      have hMV20 : rgd bX V20 := hMV.put hV20 (by decide)
      have agV20 : agr [(5, 9), (5, 13), (5, 14)] [] V V20 := agV.up hV20 rfl
      refine lv_iconst (v := 0) hx hb dX5_takesStep_24 (by decide) ?_
      have pq22 : (V20 5 9).toInt = 3 := (congrArg Int32.toInt (up2_s hV20)).trans (by decide)
      exact W.zret (v := 0) hx hb hr rfl (fun t ht hW => ⟨⟨0, (V20, L), rfl, ⟨hMV20, agV20, rfl, (by decide), (Imp.mk (fun _ => (show (V20 5 9).toInt = 3 from by (first | exact om_395e3da5ee0d pq22 | omega)))), (Imp.mk (fun hp => absurd hp (by decide))), (Or.inr (⟨by refine ⟨by decide, ?_⟩; omega, by rw [hV20] <;> rfl⟩))⟩, by rw [ht]; exact hP, va_K.moved hW.alike hK, hD⟩, hS.F ht⟩) hS.2.2 dX5_takesStep_25
abbrev r_x_put9 : Room := { frames := 0, cells := 0, slots := 0, locals := 0 }
abbrev q_x_put9 (D : va_G) (ks : KS) (ad : Nat → Nat) (kk : Nat → ClassId) (V : Vf) (L : Lf) (Z : XZ) (p0 : Int32) (A : Nat → Prop) : Array Value → State → Outcome → State → Prop := va_Qv (fun (u : Vf × Lf) => rgd bX u.1 ∧ agr [(5, 7)] [39] V u.1 ∧ u.2 = L ∧ ((((V 5 7).toInt < 2048) ∧ u.1 = (up2 (up2 V 5 7 (V 5 7 + 1)) 39 (Int32.toNatClampNeg (V 5 7)) p0)) ∨ ((2048 ≤ (V 5 7).toInt) ∧ u.1 = V))) (fun u t => gq D A (xw ad kk u.1 u.2 Z) (xty kk Z) t) A
set_option maxHeartbeats 4000000 in
set_option maxRecDepth 100000 in
theorem x_put9 (l : Launch) (D : va_G) (ks : KS) (sz : Nat) (ad : Nat → Nat) (kk : Nat → ClassId) (V : Vf) (L : Lf) (Z : XZ) (p0 : Int32) (hMV : rgd bX V)  : Met l yX5_put (Cond.code yX5_put cX5_put 2 none :: GW) r_x_put9 (va_Pc [.ref (ad 5), .int p0] (gp D ks (xw ad kk V L Z) (xty kk Z) sz)) (q_x_put9 D ks ad kk V L Z p0 (va_A (xw ad kk V L Z) sz)) 0 0 (va_A (xw ad kk V L Z) sz) := by
  refine g_met (q_x_put9 D ks ad kk V L Z p0) (by decide) (Nat.le_of_ble_eq_true rfl) ?_
  intro p e s m below meth c A ls H locs hx hb hr hml hown hg hlocks hin hnw hgk hP hK hD hS hA hl
  have hown : s.vm.findClass RX5 = some m.cls := hown
  have hl : lv_has ls 2 [(0, .ref (ad 5)), (1, .int p0)] := hl
  have hP : va_P D vwCl (xw ad kk V L Z) H := hP
  have hD : va_D A (xw ad kk V L Z) := hD
  have hK : va_K D vwCl (xty kk Z) s := hK
  have agV : agr [(5, 7)] [39] V V := agr.rf
  refine lv_aload_n hx hb dX5_put_0 rfl (lv_at hl 0 rfl) ?_
  refine va_get (D := D) (ci := 5) (v := .int (V 5 7)) (fs := (xfMachine ad V L Z)) (C := RX5) (T := TX5) (N := 15) hx hb hg inX5 hown hK hP 5 xgMachine rfl 7 (by decide) (hg _ w674) (fun _ h9 => h9) rfl dX5_put_1 ?_
  have r1 : 0 ≤ ((V 5 7)).toInt ∧ ((V 5 7)).toInt ≤ 2048 := hMV 5 7
  refine lv_sipush (v := 2048) hx hb dX5_put_4 (by decide) ?_
  refine lv_icmp_ge (tgt := 27) hx hb dX5_put_7 (by decide) (fun c2 => ?_) (fun c2 => ?_)
  · skip
    have f3 : 2048 ≤ ((V 5 7)).toInt := b_le (by decide) rfl c2
    exact W.vret hx hb hr (fun t ht hW => ⟨⟨(V, L), rfl, ⟨hMV, agV, rfl, (Or.inr (⟨by omega, rfl⟩))⟩, by rw [ht]; exact hP, va_K.moved hW.alike hK, hD⟩, hS.F ht⟩) hS.2.2 dX5_put_27
  · skip
    have f4 : ((V 5 7)).toInt < 2048 := b_nle (by decide) rfl c2
    refine lv_aload_n hx hb dX5_put_10 rfl (lv_at hl 0 rfl) ?_
    refine va_get (D := D) (ci := 5) (v := .ref (ad 36)) (fs := (xfMachine ad V L Z)) (C := RX5) (T := TX5) (N := 15) hx hb hg inX5 hown hK hP 5 xgMachine rfl 3 (by decide) (hg _ w670) (fun _ h9 => h9) rfl dX5_put_11 ?_
    refine lv_aload_n hx hb dX5_put_14 rfl (lv_at hl 0 rfl) ?_
    refine lv_dup hx hb dX5_put_15 rfl ?_
    refine va_get (D := D) (ci := 5) (v := .int (V 5 7)) (fs := (xfMachine ad V L Z)) (C := RX5) (T := TX5) (N := 15) hx hb hg inX5 hown hK hP 5 xgMachine rfl 7 (by decide) (hg _ w674) (fun _ h9 => h9) rfl dX5_put_16 ?_
    refine lv_dup_x1 hx hb dX5_put_19 rfl rfl ?_
    refine lv_iconst (v := 1) hx hb dX5_put_20 (by decide) ?_
    refine lv_iadd hx hb dX5_put_21 ?_
    refine lv_topi (fun z5 ez5 => ?_)
    have hz5 : z5.toInt = ((V 5 7)).toInt + 1 := i_add ez5 rfl (by decide) (by (first | exact om_c4f4e99e1e6b r1.1 f4 | omega))
    refine va_put (D := D) (ci := 5) (v := .int z5) (ty := tyX5 7) (fs := (xfMachine ad V L Z)) (C := RX5) (T := TX5) (N := 15) hx hb hg inX5 tyX5 tyX5_ok nmX5 hown hK hP hD hS 5 xgMachine rfl 7 (by decide) (hg _ w674) (fun _ h9 => h9) rfl (tyX5_ok 7 (by decide)) rfl rfl (Nat.le_of_ble_eq_true rfl) dX5_put_22 (fun H locs hP hD hS => ?_)
    obtain ⟨V6, hV6⟩ : ∃ z, z = up2 V 5 7 z5 := ⟨_, rfl⟩
    have ew7 : (xw ad kk V L Z).set 5 ((ad 5), .inr (5, (xfMachine ad V L Z).set 7 (.int z5))) = xw ad kk V6 L Z := by rw [hV6]; exact xw_ss (by decide) rfl (xb_si (by decide))
    have hP : va_P D vwCl (xw ad kk V6 L Z) H := by rw [← ew7]; exact hP
    have hD : va_D A (xw ad kk V6 L Z) := by rw [← ew7]; exact hD
    have hMV6 : rgd bX V6 := hMV.put hV6 (show 0 ≤ z5.toInt ∧ z5.toInt ≤ 2048 from by (first | exact om_e678679b3f73 r1.1 f4 hz5 | omega))
    have agV6 : agr [(5, 7)] [39] V V6 := agV.up hV6 rfl
    refine lv_iload_n hx hb dX5_put_25 rfl (lv_at hl 1 rfl) ?_
    refine va_iast (D := D) (i := (V 5 7)) (x := p0) hx hb hK hP hD hS 36 29 rfl rfl (i_in (a := ((V 5 7)).toInt) rfl (by (first | exact om_27e0401eb2e2 r1.1 f4 | omega))) dX5_put_26 (fun H locs hP hD hS => ?_)
    obtain ⟨V8, hV8⟩ : ∃ z, z = up2 V6 39 (Int32.toNatClampNeg (V 5 7)) p0 := ⟨_, rfl⟩
    have ew9 : (xw ad kk V6 L Z).set 36 ((ad 36), .inl ((kk 36), 2048, .inl (upd (V6 39) (Int32.toNatClampNeg (V 5 7)) p0))) = xw ad kk V8 L Z := by rw [hV8]; exact xw_ss (by decide) rfl (xb_si (by decide))
    have hP : va_P D vwCl (xw ad kk V8 L Z) H := by rw [← ew9]; exact hP
    have hD : va_D A (xw ad kk V8 L Z) := by rw [← ew9]; exact hD
    have hMV8 : rgd bX V8 := hMV6.put hV8 (i_full _)
    have agV8 : agr [(5, 7)] [39] V V8 := agV6.up hV8 rfl
    exact W.vret hx hb hr (fun t ht hW => ⟨⟨(V8, L), rfl, ⟨hMV8, agV8, rfl, (Or.inl ⟨by omega, by rw [hV8, hV6, ez5] <;> rfl⟩)⟩, by rw [ht]; exact hP, va_K.moved hW.alike hK, hD⟩, hS.F ht⟩) hS.2.2 dX5_put_27
abbrev r_x_pull9 : Room := { frames := 0, cells := 0, slots := 0, locals := 0 }
abbrev q_x_pull9 (D : va_G) (ks : KS) (ad : Nat → Nat) (kk : Nat → ClassId) (V : Vf) (L : Lf) (Z : XZ) (A : Nat → Prop) : Array Value → State → Outcome → State → Prop := va_Qi (fun (r : Int32) (u : Vf × Lf) => rgd bX u.1 ∧ agr [(5, 7)] [] V u.1 ∧ u.2 = L ∧ (((0 < (V 5 7).toInt ∧ r = V 39 (Int32.toNatClampNeg (V 5 7 - 1))) ∧ u.1 = (up2 V 5 7 (V 5 7 - 1))) ∨ (((V 5 7).toInt ≤ 0 ∧ r = 0) ∧ u.1 = V))) (fun u t => gq D A (xw ad kk u.1 u.2 Z) (xty kk Z) t) A
set_option maxHeartbeats 4000000 in
set_option maxRecDepth 100000 in
theorem x_pull9 (l : Launch) (D : va_G) (ks : KS) (sz : Nat) (ad : Nat → Nat) (kk : Nat → ClassId) (V : Vf) (L : Lf) (Z : XZ)  (hMV : rgd bX V)  : Met l yX5_pull (Cond.code yX5_pull cX5_pull 1 (some .int) :: GW) r_x_pull9 (va_Pc [.ref (ad 5)] (gp D ks (xw ad kk V L Z) (xty kk Z) sz)) (q_x_pull9 D ks ad kk V L Z  (va_A (xw ad kk V L Z) sz)) 0 0 (va_A (xw ad kk V L Z) sz) := by
  refine g_met (q_x_pull9 D ks ad kk V L Z) (by decide) (Nat.le_of_ble_eq_true rfl) ?_
  intro p e s m below meth c A ls H locs hx hb hr hml hown hg hlocks hin hnw hgk hP hK hD hS hA hl
  have hown : s.vm.findClass RX5 = some m.cls := hown
  have hl : lv_has ls 1 [(0, .ref (ad 5))] := hl
  have hP : va_P D vwCl (xw ad kk V L Z) H := hP
  have hD : va_D A (xw ad kk V L Z) := hD
  have hK : va_K D vwCl (xty kk Z) s := hK
  have agV : agr [(5, 7)] [] V V := agr.rf
  refine lv_aload_n hx hb dX5_pull_0 rfl (lv_at hl 0 rfl) ?_
  refine va_get (D := D) (ci := 5) (v := .int (V 5 7)) (fs := (xfMachine ad V L Z)) (C := RX5) (T := TX5) (N := 15) hx hb hg inX5 hown hK hP 5 xgMachine rfl 7 (by decide) (hg _ w674) (fun _ h9 => h9) rfl dX5_pull_1 ?_
  have r1 : 0 ≤ ((V 5 7)).toInt ∧ ((V 5 7)).toInt ≤ 2048 := hMV 5 7
  refine lv_if_le (tgt := 26) hx hb dX5_pull_4 (by decide) (fun c2 => ?_) (fun c2 => ?_)
  · skip
    have f3 : ((V 5 7)).toInt ≤ 0 := b_le rfl (by decide) c2
    refine lv_iconst (v := 0) hx hb dX5_pull_26 (by decide) ?_
    exact W.iret (v := 0) hx hb hr (fun t ht hW => ⟨⟨0, (V, L), rfl, ⟨hMV, agV, rfl, (Or.inr (⟨⟨by omega, rfl⟩, rfl⟩))⟩, by rw [ht]; exact hP, va_K.moved hW.alike hK, hD⟩, hS.F ht⟩) hS.2.2 dX5_pull_27
  · skip
    have f4 : 0 < ((V 5 7)).toInt := b_nle rfl (by decide) c2
    refine lv_aload_n hx hb dX5_pull_7 rfl (lv_at hl 0 rfl) ?_
    refine va_get (D := D) (ci := 5) (v := .ref (ad 36)) (fs := (xfMachine ad V L Z)) (C := RX5) (T := TX5) (N := 15) hx hb hg inX5 hown hK hP 5 xgMachine rfl 3 (by decide) (hg _ w670) (fun _ h9 => h9) rfl dX5_pull_8 ?_
    refine lv_aload_n hx hb dX5_pull_11 rfl (lv_at hl 0 rfl) ?_
    refine lv_dup hx hb dX5_pull_12 rfl ?_
    refine va_get (D := D) (ci := 5) (v := .int (V 5 7)) (fs := (xfMachine ad V L Z)) (C := RX5) (T := TX5) (N := 15) hx hb hg inX5 hown hK hP 5 xgMachine rfl 7 (by decide) (hg _ w674) (fun _ h9 => h9) rfl dX5_pull_13 ?_
    refine lv_iconst (v := 1) hx hb dX5_pull_16 (by decide) ?_
    refine lv_isub hx hb dX5_pull_17 ?_
    refine lv_topi (fun z5 ez5 => ?_)
    have hz5 : z5.toInt = ((V 5 7)).toInt - 1 := i_sub ez5 rfl (by decide) (by (first | exact om_e93294f872dc r1.2 f4 | omega))
    refine lv_dup_x1 hx hb dX5_pull_18 rfl rfl ?_
    refine va_put (D := D) (ci := 5) (v := .int z5) (ty := tyX5 7) (fs := (xfMachine ad V L Z)) (C := RX5) (T := TX5) (N := 15) hx hb hg inX5 tyX5 tyX5_ok nmX5 hown hK hP hD hS 5 xgMachine rfl 7 (by decide) (hg _ w674) (fun _ h9 => h9) rfl (tyX5_ok 7 (by decide)) rfl rfl (Nat.le_of_ble_eq_true rfl) dX5_pull_19 (fun H locs hP hD hS => ?_)
    obtain ⟨V6, hV6⟩ : ∃ z, z = up2 V 5 7 z5 := ⟨_, rfl⟩
    have ew7 : (xw ad kk V L Z).set 5 ((ad 5), .inr (5, (xfMachine ad V L Z).set 7 (.int z5))) = xw ad kk V6 L Z := by rw [hV6]; exact xw_ss (by decide) rfl (xb_si (by decide))
    have hP : va_P D vwCl (xw ad kk V6 L Z) H := by rw [← ew7]; exact hP
    have hD : va_D A (xw ad kk V6 L Z) := by rw [← ew7]; exact hD
    have hMV6 : rgd bX V6 := hMV.put hV6 (show 0 ≤ z5.toInt ∧ z5.toInt ≤ 2048 from by (first | exact om_086aaa362f20 r1.2 f4 hz5 | omega))
    have agV6 : agr [(5, 7)] [] V V6 := agV.up hV6 rfl
    refine va_iald (D := D) (i := z5) hx hb hK hP 36 29 rfl rfl (i_in (a := z5.toInt) rfl (by (first | exact om_65e634a2db7a r1.2 f4 hz5 | omega))) dX5_pull_22 ?_
    refine g_top (v := (V 39 (Int32.toNatClampNeg z5))) (up2_o hV6 (by decide)) ?_
    refine lv_goto (tgt := 27) hx hb dX5_pull_23 (by decide) ?_
    exact W.iret (v := (V 39 (Int32.toNatClampNeg z5))) hx hb hr (fun t ht hW => ⟨⟨(V 39 (Int32.toNatClampNeg z5)), (V6, L), rfl, ⟨hMV6, agV6, rfl, (Or.inl ⟨⟨by omega, by rw [ez5]⟩, by rw [hV6, ez5] <;> rfl⟩)⟩, by rw [ht]; exact hP, va_K.moved hW.alike hK, hD⟩, hS.F ht⟩) hS.2.2 dX5_pull_27
abbrev r_x_firstKind9 : Room := { frames := 0, cells := 0, slots := 0, locals := 0 }
abbrev q_x_firstKind9 (D : va_G) (p0 : Int32) (p1 : Int32) (A : Nat → Prop) : Array Value → State → Outcome → State → Prop := va_Qi (fun (r : Int32) (_ : Unit) => ((0 < p0.toInt ∧ r.toInt = 20) ∨ (p0.toInt ≤ 0 ∧ r.toInt = p1.toInt))) (fun _ t => gq D A [] [] t) A
set_option maxHeartbeats 4000000 in
set_option maxRecDepth 100000 in
theorem x_firstKind9 (l : Launch) (D : va_G) (ks : KS) (sz : Nat) (p0 : Int32) (p1 : Int32)  : Met l yX5_firstKind (Cond.code yX5_firstKind cX5_firstKind 2 (some .int) :: GW) r_x_firstKind9 (va_Pc [.int p0, .int p1] (gp D ks ([]) ([]) sz)) (q_x_firstKind9 D p0 p1 (va_A ([]) sz)) 0 0 (va_A ([]) sz) := by
  refine g_met (q_x_firstKind9 D p0 p1) (by decide) (Nat.le_of_ble_eq_true rfl) ?_
  intro p e s m below meth c A ls H locs hx hb hr hml hown hg hlocks hin hnw hgk hP hK hD hS hA hl
  have hown : s.vm.findClass RX5 = some m.cls := hown
  have hl : lv_has ls 2 [(0, .int p0), (1, .int p1)] := hl
  refine lv_iload_n hx hb dX5_firstKind_0 rfl (lv_at hl 0 rfl) ?_
  refine lv_if_le (tgt := 9) hx hb dX5_firstKind_1 (by decide) (fun c1 => ?_) (fun c1 => ?_)
  · skip
    have f2 : p0.toInt ≤ 0 := b_le rfl (by decide) c1
    refine lv_iload_n hx hb dX5_firstKind_9 rfl (lv_at hl 1 rfl) ?_
    exact W.iret (v := p1) hx hb hr (fun t ht hW => ⟨⟨p1, (), rfl, (show (0 < p0.toInt ∧ p1.toInt = 20) ∨ (p0.toInt ≤ 0 ∧ p1.toInt = p1.toInt) from by (first | exact om_dcc3b6ea7a9f f2 | omega)), by rw [ht]; exact hP, va_K.moved hW.alike hK, hD⟩, hS.F ht⟩) hS.2.2 dX5_firstKind_10
  · skip
    have f3 : 0 < p0.toInt := b_nle rfl (by decide) c1
    refine lv_bipush (v := 20) hx hb dX5_firstKind_4 (by decide) ?_
    refine lv_goto (tgt := 10) hx hb dX5_firstKind_6 (by decide) ?_
    exact W.iret (v := 20) hx hb hr (fun t ht hW => ⟨⟨20, (), rfl, (show (0 < p0.toInt ∧ 20 = 20) ∨ (p0.toInt ≤ 0 ∧ 20 = p1.toInt) from by omega), by rw [ht]; exact hP, va_K.moved hW.alike hK, hD⟩, hS.F ht⟩) hS.2.2 dX5_firstKind_10
abbrev r_x_isMade9 : Room := { frames := 1, cells := 0, slots := 0, locals := 21 }
abbrev q_x_isMade9 (D : va_G) (ks : KS) (ad : Nat → Nat) (kk : Nat → ClassId) (V : Vf) (L : Lf) (Z : XZ) (p0 : Int32) (A : Nat → Prop) : Array Value → State → Outcome → State → Prop := va_Qi (fun (r : Int32) (_ : Unit) => (0 ≤ r.toInt ∧ r.toInt ≤ 1) ∧ (Imp (r.toInt = 1) (0 ≤ p0.toInt ∧ p0.toInt < (V 3 13).toInt)) ∧ ((r.toInt = 1 ∧ 0 ≤ p0.toInt ∧ p0.toInt < (V 3 13).toInt ∧ (V 28 (Int32.toNatClampNeg p0)).toInt = 1) ∨ (r.toInt = 0 ∧ (p0.toInt < 0 ∨ (V 3 13).toInt ≤ p0.toInt ∨ (V 28 (Int32.toNatClampNeg p0)).toInt ≠ 1)))) (fun _ t => gq D A (xw ad kk V L Z) (xty kk Z) t) A
set_option maxHeartbeats 4000000 in
set_option maxRecDepth 100000 in
theorem x_isMade9 (l : Launch) (D : va_G) (ks : KS) (sz : Nat) (ad : Nat → Nat) (kk : Nat → ClassId) (V : Vf) (L : Lf) (Z : XZ) (p0 : Int32) (hMV : rgd bX V)  : Met l yX8_isMade (Cond.code yX8_isMade cX8_isMade 2 (some .boolean) :: GW) r_x_isMade9 (va_Pc [.ref (ad 3), .int p0] (gp D ks (xw ad kk V L Z) (xty kk Z) sz)) (q_x_isMade9 D ks ad kk V L Z p0 (va_A (xw ad kk V L Z) sz)) 0 0 (va_A (xw ad kk V L Z) sz) := by
  refine g_met (q_x_isMade9 D ks ad kk V L Z p0) (by decide) (Nat.le_of_ble_eq_true rfl) ?_
  intro p e s m below meth c A ls H locs hx hb hr hml hown hg hlocks hin hnw hgk hP hK hD hS hA hl
  have hown : s.vm.findClass RX8 = some m.cls := hown
  have hl : lv_has ls 2 [(0, .ref (ad 3)), (1, .int p0)] := hl
  have hP : va_P D vwCl (xw ad kk V L Z) H := hP
  have hD : va_D A (xw ad kk V L Z) := hD
  have hK : va_K D vwCl (xty kk Z) s := hK
  refine lv_aload_n hx hb dX8_isMade_0 rfl (lv_at hl 0 rfl) ?_
  refine lv_iload_n hx hb dX8_isMade_1 rfl (lv_at hl 1 rfl) ?_
  refine gA_int (gA_runV (As := [.int p0]) (rest := []) (ci := 8) (q0 := 3) hx hb hml hown hg hP hD hK hS hA hnw hgk (x_has2 l D ks H.size ad kk V L Z p0 hMV ) w1300 w1301 w1302 w164 w1303 rfl xgStock hdV_yX8_has ⟨Nat.le_of_ble_eq_true rfl, Nat.le_of_ble_eq_true rfl⟩ rfl hl.1 rfl (Nat.le_of_ble_eq_true rfl) dX8_isMade_2 ⟨Nat.le_of_ble_eq_true rfl, Nat.le_of_ble_eq_true rfl⟩) hP hD hK hS hA (fun z1 u2 H locs w3 hP hD hK hS => ?_)
  obtain ⟨rgz1, t4, t5⟩ := w3
  have rgz1 : 0 ≤ z1.toInt ∧ z1.toInt ≤ 1 := rgz1
  have t4 : Imp (z1.toInt = 1) (0 ≤ p0.toInt ∧ p0.toInt < (V 3 13).toInt) := t4
  have t5 : Imp (z1.toInt = 0) (p0.toInt < 0 ∨ (V 3 13).toInt ≤ p0.toInt) := t5
  have r6 : 0 ≤ ((V 3 13)).toInt ∧ ((V 3 13)).toInt ≤ 300 := hMV 3 13
  refine lv_if_eq (tgt := 22) hx hb dX8_isMade_5 (by decide) (fun c7 => ?_) (fun c7 => ?_)
  · skip
    have f8 : z1.toInt = 0 := b_eq rfl (by decide) c7
    refine lv_iconst (v := 0) hx hb dX8_isMade_22 (by decide) ?_
    exact W.zret (v := 0) hx hb hr rfl (fun t ht hW => ⟨⟨0, (), rfl, ⟨(by decide), (Imp.mk (fun hp => absurd hp (by decide))), (show (0 = 1 ∧ 0 ≤ p0.toInt ∧ p0.toInt < (V 3 13).toInt ∧ (V 28 (Int32.toNatClampNeg p0)).toInt = 1) ∨ (0 = 0 ∧ (p0.toInt < 0 ∨ (V 3 13).toInt ≤ p0.toInt ∨ (V 28 (Int32.toNatClampNeg p0)).toInt ≠ 1)) from by first | omega | ((try (have i_t5 := Imp.go t5 (by omega))); (try (have i_t4 := Imp.go t4 (by omega))); (try (have i_t4 := Imp.go t4 (by omega))); (try (have i_t5 := Imp.go t5 (by omega))); omega))⟩, by rw [ht]; exact hP, va_K.moved hW.alike hK, hD⟩, hS.F ht⟩) hS.2.2 dX8_isMade_23
  · skip
    have f9 : z1.toInt ≠ 0 := b_neq rfl (by decide) c7
    refine lv_aload_n hx hb dX8_isMade_8 rfl (lv_at hl 0 rfl) ?_
    refine va_get (D := D) (ci := 8) (v := .ref (ad 25)) (fs := (xfStock ad V L Z)) (C := RX8) (T := TX8) (N := 16) hx hb hg inX8 hown hK hP 3 xgStock rfl 7 (by decide) (hg _ w384) (fun _ h9 => h9) rfl dX8_isMade_9 ?_
    refine lv_iload_n hx hb dX8_isMade_12 rfl (lv_at hl 1 rfl) ?_
    refine va_iald (D := D) (i := p0) hx hb hK hP 25 18 rfl rfl (i_in (a := p0.toInt) rfl (by first | exact om_e23680f16df4 r6.2 ((Imp.go t4 (imp_a (rgz1.1) (rgz1.2) (f9))).1) ((Imp.go t4 (imp_a (rgz1.1) (rgz1.2) (f9))).2) | first | omega | ((try (have i_t5 := Imp.go t5 (by omega))); (try (have i_t4 := Imp.go t4 (by omega))); (try (have i_t4 := Imp.go t4 (by omega))); (try (have i_t5 := Imp.go t5 (by omega))); omega))) dX8_isMade_13 ?_
    refine lv_iconst (v := 1) hx hb dX8_isMade_14 (by decide) ?_
    refine lv_icmp_ne (tgt := 22) hx hb dX8_isMade_15 (by decide) (fun c10 => ?_) (fun c10 => ?_)
    · skip
      have f11 : ((V 28 (Int32.toNatClampNeg p0))).toInt ≠ 1 := b_neq rfl (by decide) c10
      refine lv_iconst (v := 0) hx hb dX8_isMade_22 (by decide) ?_
      exact W.zret (v := 0) hx hb hr rfl (fun t ht hW => ⟨⟨0, (), rfl, ⟨(by decide), (Imp.mk (fun hp => absurd hp (by decide))), (show (0 = 1 ∧ 0 ≤ p0.toInt ∧ p0.toInt < (V 3 13).toInt ∧ (V 28 (Int32.toNatClampNeg p0)).toInt = 1) ∨ (0 = 0 ∧ (p0.toInt < 0 ∨ (V 3 13).toInt ≤ p0.toInt ∨ (V 28 (Int32.toNatClampNeg p0)).toInt ≠ 1)) from by first | omega | ((try (have i_t5 := Imp.go t5 (by omega))); (try (have i_t4 := Imp.go t4 (by omega))); (try (have i_t4 := Imp.go t4 (by omega))); (try (have i_t5 := Imp.go t5 (by omega))); omega))⟩, by rw [ht]; exact hP, va_K.moved hW.alike hK, hD⟩, hS.F ht⟩) hS.2.2 dX8_isMade_23
    · skip
      have f12 : ((V 28 (Int32.toNatClampNeg p0))).toInt = 1 := b_eq rfl (by decide) c10
      refine lv_iconst (v := 1) hx hb dX8_isMade_18 (by decide) ?_
      refine lv_goto (tgt := 23) hx hb dX8_isMade_19 (by decide) ?_
      exact W.zret (v := 1) hx hb hr rfl (fun t ht hW => ⟨⟨1, (), rfl, ⟨(by decide), (Imp.mk (fun _ => (show 0 ≤ p0.toInt ∧ p0.toInt < (V 3 13).toInt from by first | exact om_a1ce77cc111f ((Imp.go t4 (imp_a (rgz1.1) (rgz1.2) (f9))).1) ((Imp.go t4 (imp_a (rgz1.1) (rgz1.2) (f9))).2) | first | omega | ((try (have i_t5 := Imp.go t5 (by omega))); (try (have i_t4 := Imp.go t4 (by omega))); (try (have i_t4 := Imp.go t4 (by omega))); (try (have i_t5 := Imp.go t5 (by omega))); omega)))), (show (1 = 1 ∧ 0 ≤ p0.toInt ∧ p0.toInt < (V 3 13).toInt ∧ (V 28 (Int32.toNatClampNeg p0)).toInt = 1) ∨ (1 = 0 ∧ (p0.toInt < 0 ∨ (V 3 13).toInt ≤ p0.toInt ∨ (V 28 (Int32.toNatClampNeg p0)).toInt ≠ 1)) from by first | omega | ((try (have i_t5 := Imp.go t5 (by omega))); (try (have i_t4 := Imp.go t4 (by omega))); (try (have i_t4 := Imp.go t4 (by omega))); (try (have i_t5 := Imp.go t5 (by omega))); omega))⟩, by rw [ht]; exact hP, va_K.moved hW.alike hK, hD⟩, hS.F ht⟩) hS.2.2 dX8_isMade_23
abbrev r_x_componentOf9 : Room := { frames := 1, cells := 0, slots := 0, locals := 21 }
abbrev q_x_componentOf9 (D : va_G) (ks : KS) (ad : Nat → Nat) (kk : Nat → ClassId) (V : Vf) (L : Lf) (Z : XZ) (p0 : Int32) (A : Nat → Prop) : Array Value → State → Outcome → State → Prop := va_Qi (fun (r : Int32) (_ : Unit) => (0 ≤ r.toInt ∧ r.toInt ≤ 23) ∧ (∀ n : Int, 0 < n → (∀ o : Nat, (o : Int) < (V 3 13).toInt → (V 26 o).toInt < n) → r.toInt < n) ∧ ((0 ≤ p0.toInt ∧ p0.toInt < (V 3 13).toInt ∧ r.toInt = (V 26 (Int32.toNatClampNeg p0)).toInt) ∨ ((p0.toInt < 0 ∨ (V 3 13).toInt ≤ p0.toInt) ∧ r.toInt = 0))) (fun _ t => gq D A (xw ad kk V L Z) (xty kk Z) t) A
set_option maxHeartbeats 4000000 in
set_option maxRecDepth 100000 in
theorem x_componentOf9 (l : Launch) (D : va_G) (ks : KS) (sz : Nat) (ad : Nat → Nat) (kk : Nat → ClassId) (V : Vf) (L : Lf) (Z : XZ) (p0 : Int32) (hMV : rgd bX V)  : Met l yX8_componentOf (Cond.code yX8_componentOf cX8_componentOf 2 (some .int) :: GW) r_x_componentOf9 (va_Pc [.ref (ad 3), .int p0] (gp D ks (xw ad kk V L Z) (xty kk Z) sz)) (q_x_componentOf9 D ks ad kk V L Z p0 (va_A (xw ad kk V L Z) sz)) 0 0 (va_A (xw ad kk V L Z) sz) := by
  refine g_met (q_x_componentOf9 D ks ad kk V L Z p0) (by decide) (Nat.le_of_ble_eq_true rfl) ?_
  intro p e s m below meth c A ls H locs hx hb hr hml hown hg hlocks hin hnw hgk hP hK hD hS hA hl
  have hown : s.vm.findClass RX8 = some m.cls := hown
  have hl : lv_has ls 2 [(0, .ref (ad 3)), (1, .int p0)] := hl
  have hP : va_P D vwCl (xw ad kk V L Z) H := hP
  have hD : va_D A (xw ad kk V L Z) := hD
  have hK : va_K D vwCl (xty kk Z) s := hK
  refine lv_aload_n hx hb dX8_componentOf_0 rfl (lv_at hl 0 rfl) ?_
  refine lv_iload_n hx hb dX8_componentOf_1 rfl (lv_at hl 1 rfl) ?_
  refine gA_int (gA_runV (As := [.int p0]) (rest := []) (ci := 8) (q0 := 3) hx hb hml hown hg hP hD hK hS hA hnw hgk (x_has2 l D ks H.size ad kk V L Z p0 hMV ) w1300 w1301 w1302 w164 w1303 rfl xgStock hdV_yX8_has ⟨Nat.le_of_ble_eq_true rfl, Nat.le_of_ble_eq_true rfl⟩ rfl hl.1 rfl (Nat.le_of_ble_eq_true rfl) dX8_componentOf_2 ⟨Nat.le_of_ble_eq_true rfl, Nat.le_of_ble_eq_true rfl⟩) hP hD hK hS hA (fun z1 u2 H locs w3 hP hD hK hS => ?_)
  obtain ⟨rgz1, t4, t5⟩ := w3
  have rgz1 : 0 ≤ z1.toInt ∧ z1.toInt ≤ 1 := rgz1
  have t4 : Imp (z1.toInt = 1) (0 ≤ p0.toInt ∧ p0.toInt < (V 3 13).toInt) := t4
  have t5 : Imp (z1.toInt = 0) (p0.toInt < 0 ∨ (V 3 13).toInt ≤ p0.toInt) := t5
  have r6 : 0 ≤ ((V 3 13)).toInt ∧ ((V 3 13)).toInt ≤ 300 := hMV 3 13
  refine lv_if_eq (tgt := 17) hx hb dX8_componentOf_5 (by decide) (fun c7 => ?_) (fun c7 => ?_)
  · skip
    have f8 : z1.toInt = 0 := b_eq rfl (by decide) c7
    refine lv_iconst (v := 0) hx hb dX8_componentOf_17 (by decide) ?_
    have r9 : 0 ≤ ((V 26 (Int32.toNatClampNeg p0))).toInt ∧ ((V 26 (Int32.toNatClampNeg p0))).toInt ≤ 23 := hMV 26 (Int32.toNatClampNeg p0)
    exact W.iret (v := 0) hx hb hr (fun t ht hW => ⟨⟨0, (), rfl, ⟨(by decide), (fun n h0 _ => h0), (show (0 ≤ p0.toInt ∧ p0.toInt < (V 3 13).toInt ∧ 0 = (V 26 (Int32.toNatClampNeg p0)).toInt) ∨ ((p0.toInt < 0 ∨ (V 3 13).toInt ≤ p0.toInt) ∧ 0 = 0) from by first | omega | ((try (have i_t5 := Imp.go t5 (by omega))); (try (have i_t4 := Imp.go t4 (by omega))); (try (have i_t4 := Imp.go t4 (by omega))); (try (have i_t5 := Imp.go t5 (by omega))); omega))⟩, by rw [ht]; exact hP, va_K.moved hW.alike hK, hD⟩, hS.F ht⟩) hS.2.2 dX8_componentOf_18
  · skip
    have f10 : z1.toInt ≠ 0 := b_neq rfl (by decide) c7
    refine lv_aload_n hx hb dX8_componentOf_8 rfl (lv_at hl 0 rfl) ?_
    refine va_get (D := D) (ci := 8) (v := .ref (ad 23)) (fs := (xfStock ad V L Z)) (C := RX8) (T := TX8) (N := 16) hx hb hg inX8 hown hK hP 3 xgStock rfl 5 (by decide) (hg _ w379) (fun _ h9 => h9) rfl dX8_componentOf_9 ?_
    refine lv_iload_n hx hb dX8_componentOf_12 rfl (lv_at hl 1 rfl) ?_
    refine va_iald (D := D) (i := p0) hx hb hK hP 23 16 rfl rfl (i_in (a := p0.toInt) rfl (by first | exact om_e23680f16df4 r6.2 ((Imp.go t4 (imp_a (rgz1.1) (rgz1.2) (f10))).1) ((Imp.go t4 (imp_a (rgz1.1) (rgz1.2) (f10))).2) | first | omega | ((try (have i_t5 := Imp.go t5 (by omega))); (try (have i_t4 := Imp.go t4 (by omega))); (try (have i_t4 := Imp.go t4 (by omega))); (try (have i_t5 := Imp.go t5 (by omega))); omega))) dX8_componentOf_13 ?_
    have r11 : 0 ≤ ((V 26 (Int32.toNatClampNeg p0))).toInt ∧ ((V 26 (Int32.toNatClampNeg p0))).toInt ≤ 23 := hMV 26 (Int32.toNatClampNeg p0)
    refine lv_goto (tgt := 18) hx hb dX8_componentOf_14 (by decide) ?_
    have kcp := i_clamp (x := p0) rfl (by first | exact om_eafa9039069c ((Imp.go t4 (imp_a (rgz1.1) (rgz1.2) (f10))).1) | first | omega | ((try (have i_t5 := Imp.go t5 (by omega))); (try (have i_t4 := Imp.go t4 (by omega))); (try (have i_t4 := Imp.go t4 (by omega))); (try (have i_t5 := Imp.go t5 (by omega))); omega))
    exact W.iret (v := (V 26 (Int32.toNatClampNeg p0))) hx hb hr (fun t ht hW => ⟨⟨(V 26 (Int32.toNatClampNeg p0)), (), rfl, ⟨(show 0 ≤ ((V 26 (Int32.toNatClampNeg p0))).toInt ∧ ((V 26 (Int32.toNatClampNeg p0))).toInt ≤ 23 from by first | exact om_d3435e1acec6 r11.1 r11.2 | first | omega | ((try (have i_t5 := Imp.go t5 (by omega))); (try (have i_t4 := Imp.go t4 (by omega))); (try (have i_t4 := Imp.go t4 (by omega))); (try (have i_t5 := Imp.go t5 (by omega))); omega)), (fun n _ hh => hh _ (by first | omega | ((try (have i_t5 := Imp.go t5 (by omega))); (try (have i_t4 := Imp.go t4 (by omega))); (try (have i_t4 := Imp.go t4 (by omega))); (try (have i_t5 := Imp.go t5 (by omega))); omega))), (show (0 ≤ p0.toInt ∧ p0.toInt < (V 3 13).toInt ∧ ((V 26 (Int32.toNatClampNeg p0))).toInt = (V 26 (Int32.toNatClampNeg p0)).toInt) ∨ ((p0.toInt < 0 ∨ (V 3 13).toInt ≤ p0.toInt) ∧ ((V 26 (Int32.toNatClampNeg p0))).toInt = 0) from by first | exact om_7a42e296dfe1 ((Imp.go t4 (imp_a (rgz1.1) (rgz1.2) (f10))).1) ((Imp.go t4 (imp_a (rgz1.1) (rgz1.2) (f10))).2) | first | omega | ((try (have i_t5 := Imp.go t5 (by omega))); (try (have i_t4 := Imp.go t4 (by omega))); (try (have i_t4 := Imp.go t4 (by omega))); (try (have i_t5 := Imp.go t5 (by omega))); omega))⟩, by rw [ht]; exact hP, va_K.moved hW.alike hK, hD⟩, hS.F ht⟩) hS.2.2 dX8_componentOf_18
abbrev r_x_finishObject9 : Room := { frames := 0, cells := 0, slots := 0, locals := 0 }
abbrev q_x_finishObject9 (D : va_G) (ks : KS) (ad : Nat → Nat) (kk : Nat → ClassId) (V : Vf) (L : Lf) (Z : XZ) (p0 : Int32) (A : Nat → Prop) : Array Value → State → Outcome → State → Prop := va_Qv (fun (u : Vf × Lf) => rgd bX u.1 ∧ agr [(3, 14)] [28, 29] V u.1 ∧ u.2 = L ∧ (((True) ∧ u.1 = (up2 (up2 (up2 V 28 (Int32.toNatClampNeg p0) 1) 3 14 (V 3 14 + 1)) 29 (Int32.toNatClampNeg p0) (V 3 14))))) (fun u t => gq D A (xw ad kk u.1 u.2 Z) (xty kk Z) t) A
set_option maxHeartbeats 4000000 in
set_option maxRecDepth 100000 in
theorem x_finishObject9 (l : Launch) (D : va_G) (ks : KS) (sz : Nat) (ad : Nat → Nat) (kk : Nat → ClassId) (V : Vf) (L : Lf) (Z : XZ) (p0 : Int32) (hMV : rgd bX V) (rg_p0 : 0 ≤ p0.toInt ∧ p0.toInt ≤ 299)  : Met l yX8_finishObject (Cond.code yX8_finishObject cX8_finishObject 2 none :: GW) r_x_finishObject9 (va_Pc [.ref (ad 3), .int p0] (gp D ks (xw ad kk V L Z) (xty kk Z) sz)) (q_x_finishObject9 D ks ad kk V L Z p0 (va_A (xw ad kk V L Z) sz)) 0 0 (va_A (xw ad kk V L Z) sz) := by
  refine g_met (q_x_finishObject9 D ks ad kk V L Z p0) (by decide) (Nat.le_of_ble_eq_true rfl) ?_
  intro p e s m below meth c A ls H locs hx hb hr hml hown hg hlocks hin hnw hgk hP hK hD hS hA hl
  have hown : s.vm.findClass RX8 = some m.cls := hown
  have hl : lv_has ls 2 [(0, .ref (ad 3)), (1, .int p0)] := hl
  have hP : va_P D vwCl (xw ad kk V L Z) H := hP
  have hD : va_D A (xw ad kk V L Z) := hD
  have hK : va_K D vwCl (xty kk Z) s := hK
  have agV : agr [(3, 14)] [28, 29] V V := agr.rf
  refine lv_aload_n hx hb dX8_finishObject_0 rfl (lv_at hl 0 rfl) ?_
  refine va_get (D := D) (ci := 8) (v := .ref (ad 25)) (fs := (xfStock ad V L Z)) (C := RX8) (T := TX8) (N := 16) hx hb hg inX8 hown hK hP 3 xgStock rfl 7 (by decide) (hg _ w384) (fun _ h9 => h9) rfl dX8_finishObject_1 ?_
  refine lv_iload_n hx hb dX8_finishObject_4 rfl (lv_at hl 1 rfl) ?_
  refine lv_iconst (v := 1) hx hb dX8_finishObject_5 (by decide) ?_
  refine va_iast (D := D) (i := p0) (x := 1) hx hb hK hP hD hS 25 18 rfl rfl (i_in (a := p0.toInt) rfl (by (first | exact om_375eda9ff8f1 rg_p0.1 rg_p0.2 | omega))) dX8_finishObject_6 (fun H locs hP hD hS => ?_)
  obtain ⟨V1, hV1⟩ : ∃ z, z = up2 V 28 (Int32.toNatClampNeg p0) 1 := ⟨_, rfl⟩
  have ew2 : (xw ad kk V L Z).set 25 ((ad 25), .inl ((kk 25), 300, .inl (upd (V 28) (Int32.toNatClampNeg p0) 1))) = xw ad kk V1 L Z := by rw [hV1]; exact xw_ss (by decide) rfl (xb_si (by decide))
  have hP : va_P D vwCl (xw ad kk V1 L Z) H := by rw [← ew2]; exact hP
  have hD : va_D A (xw ad kk V1 L Z) := by rw [← ew2]; exact hD
  have hMV1 : rgd bX V1 := hMV.put hV1 (i_full _)
  have agV1 : agr [(3, 14)] [28, 29] V V1 := agV.up hV1 rfl
  refine lv_aload_n hx hb dX8_finishObject_7 rfl (lv_at hl 0 rfl) ?_
  refine va_get (D := D) (ci := 8) (v := .ref (ad 26)) (fs := (xfStock ad V1 L Z)) (C := RX8) (T := TX8) (N := 16) hx hb hg inX8 hown hK hP 3 xgStock rfl 8 (by decide) (hg _ w386) (fun _ h9 => h9) rfl dX8_finishObject_8 ?_
  refine lv_iload_n hx hb dX8_finishObject_11 rfl (lv_at hl 1 rfl) ?_
  refine lv_aload_n hx hb dX8_finishObject_12 rfl (lv_at hl 0 rfl) ?_
  refine lv_dup hx hb dX8_finishObject_13 rfl ?_
  refine va_get (D := D) (ci := 8) (v := .int (V1 3 14)) (fs := (xfStock ad V1 L Z)) (C := RX8) (T := TX8) (N := 16) hx hb hg inX8 hown hK hP 3 xgStock rfl 14 (by decide) (hg _ w393) (fun _ h9 => h9) rfl dX8_finishObject_14 ?_
  refine g_top (v := (V 3 14)) (up2_o hV1 (by decide)) ?_
  refine lv_dup_x1 hx hb dX8_finishObject_17 rfl rfl ?_
  refine lv_iconst (v := 1) hx hb dX8_finishObject_18 (by decide) ?_
  refine lv_iadd hx hb dX8_finishObject_19 ?_
  have r3 := i_full (V 3 14)
  refine lv_topi (fun z4 ez4 => ?_)
  have hz4 : Imp (-2147483648 ≤ ((V 3 14)).toInt + 1 ∧ ((V 3 14)).toInt + 1 ≤ 2147483647) (z4.toInt = ((V 3 14)).toInt + 1) := Imp.mk (fun hp => i_add ez4 rfl (by decide) hp)
  refine va_put (D := D) (ci := 8) (v := .int z4) (ty := tyX8 14) (fs := (xfStock ad V1 L Z)) (C := RX8) (T := TX8) (N := 16) hx hb hg inX8 tyX8 tyX8_ok nmX8 hown hK hP hD hS 3 xgStock rfl 14 (by decide) (hg _ w393) (fun _ h9 => h9) rfl (tyX8_ok 14 (by decide)) rfl rfl (Nat.le_of_ble_eq_true rfl) dX8_finishObject_20 (fun H locs hP hD hS => ?_)
  obtain ⟨V5, hV5⟩ : ∃ z, z = up2 V1 3 14 z4 := ⟨_, rfl⟩
  have ew6 : (xw ad kk V1 L Z).set 3 ((ad 3), .inr (8, (xfStock ad V1 L Z).set 14 (.int z4))) = xw ad kk V5 L Z := by rw [hV5]; exact xw_ss (by decide) rfl (xb_si (by decide))
  have hP : va_P D vwCl (xw ad kk V5 L Z) H := by rw [← ew6]; exact hP
  have hD : va_D A (xw ad kk V5 L Z) := by rw [← ew6]; exact hD
  have hMV5 : rgd bX V5 := hMV1.put hV5 (i_full _)
  have agV5 : agr [(3, 14)] [28, 29] V V5 := agV1.up hV5 rfl
  refine va_iast (D := D) (i := p0) (x := (V 3 14)) hx hb hK hP hD hS 26 19 rfl rfl (i_in (a := p0.toInt) rfl (by first | exact om_375eda9ff8f1 rg_p0.1 rg_p0.2 | first | omega | ((try (have i_hz4 := Imp.go hz4 (by omega))); omega))) dX8_finishObject_23 (fun H locs hP hD hS => ?_)
  obtain ⟨V7, hV7⟩ : ∃ z, z = up2 V5 29 (Int32.toNatClampNeg p0) (V 3 14) := ⟨_, rfl⟩
  have ew8 : (xw ad kk V5 L Z).set 26 ((ad 26), .inl ((kk 26), 300, .inl (upd (V5 29) (Int32.toNatClampNeg p0) (V 3 14)))) = xw ad kk V7 L Z := by rw [hV7]; exact xw_ss (by decide) rfl (xb_si (by decide))
  have hP : va_P D vwCl (xw ad kk V7 L Z) H := by rw [← ew8]; exact hP
  have hD : va_D A (xw ad kk V7 L Z) := by rw [← ew8]; exact hD
  have hMV7 : rgd bX V7 := hMV5.put hV7 (i_full _)
  have agV7 : agr [(3, 14)] [28, 29] V V7 := agV5.up hV7 rfl
  exact W.vret hx hb hr (fun t ht hW => ⟨⟨(V7, L), rfl, ⟨hMV7, agV7, rfl, (⟨trivial, by rw [hV7, hV5, hV1, ez4] <;> rfl⟩)⟩, by rw [ht]; exact hP, va_K.moved hW.alike hK, hD⟩, hS.F ht⟩) hS.2.2 dX8_finishObject_24
abbrev r_x_noteClosing9 : Room := { frames := 0, cells := 0, slots := 0, locals := 0 }
abbrev q_x_noteClosing9 (D : va_G) (ks : KS) (ad : Nat → Nat) (kk : Nat → ClassId) (V : Vf) (L : Lf) (Z : XZ) (p0 : Int32) (p1 : Int32) (A : Nat → Prop) : Array Value → State → Outcome → State → Prop := va_Qv (fun (u : Vf × Lf) => rgd bX u.1 ∧ agr [(4, 6)] [36, 37] V u.1 ∧ u.2 = L ∧ ((((V 4 6).toInt < 300) ∧ u.1 = (up2 (up2 (up2 V 36 (Int32.toNatClampNeg (V 4 6)) p0) 37 (Int32.toNatClampNeg (V 4 6)) p1) 4 6 (V 4 6 + 1))) ∨ ((300 ≤ (V 4 6).toInt) ∧ u.1 = V))) (fun u t => gq D A (xw ad kk u.1 u.2 Z) (xty kk Z) t) A
set_option maxHeartbeats 4000000 in
set_option maxRecDepth 100000 in
theorem x_noteClosing9 (l : Launch) (D : va_G) (ks : KS) (sz : Nat) (ad : Nat → Nat) (kk : Nat → ClassId) (V : Vf) (L : Lf) (Z : XZ) (p0 : Int32) (p1 : Int32) (hMV : rgd bX V)  : Met l yX7_noteClosing (Cond.code yX7_noteClosing cX7_noteClosing 3 none :: GW) r_x_noteClosing9 (va_Pc [.ref (ad 4), .int p0, .int p1] (gp D ks (xw ad kk V L Z) (xty kk Z) sz)) (q_x_noteClosing9 D ks ad kk V L Z p0 p1 (va_A (xw ad kk V L Z) sz)) 0 0 (va_A (xw ad kk V L Z) sz) := by
  refine g_met (q_x_noteClosing9 D ks ad kk V L Z p0 p1) (by decide) (Nat.le_of_ble_eq_true rfl) ?_
  intro p e s m below meth c A ls H locs hx hb hr hml hown hg hlocks hin hnw hgk hP hK hD hS hA hl
  have hown : s.vm.findClass RX7 = some m.cls := hown
  have hl : lv_has ls 3 [(0, .ref (ad 4)), (1, .int p0), (2, .int p1)] := hl
  have hP : va_P D vwCl (xw ad kk V L Z) H := hP
  have hD : va_D A (xw ad kk V L Z) := hD
  have hK : va_K D vwCl (xty kk Z) s := hK
  have agV : agr [(4, 6)] [36, 37] V V := agr.rf
  refine lv_aload_n hx hb dX7_noteClosing_0 rfl (lv_at hl 0 rfl) ?_
  refine va_get (D := D) (ci := 7) (v := .int (V 4 6)) (fs := (xfNotes ad V L Z)) (C := RX7) (T := TX7) (N := 10) hx hb hg inX7 hown hK hP 4 xgNotes rfl 6 (by decide) (hg _ w441) (fun _ h9 => h9) rfl dX7_noteClosing_1 ?_
  have r1 : 0 ≤ ((V 4 6)).toInt ∧ ((V 4 6)).toInt ≤ 300 := hMV 4 6
  refine lv_sipush (v := 300) hx hb dX7_noteClosing_4 (by decide) ?_
  refine lv_icmp_ge (tgt := 40) hx hb dX7_noteClosing_7 (by decide) (fun c2 => ?_) (fun c2 => ?_)
  · skip
    have f3 : 300 ≤ ((V 4 6)).toInt := b_le (by decide) rfl c2
    exact W.vret hx hb hr (fun t ht hW => ⟨⟨(V, L), rfl, ⟨hMV, agV, rfl, (Or.inr (⟨by omega, rfl⟩))⟩, by rw [ht]; exact hP, va_K.moved hW.alike hK, hD⟩, hS.F ht⟩) hS.2.2 dX7_noteClosing_40
  · skip
    have f4 : ((V 4 6)).toInt < 300 := b_nle (by decide) rfl c2
    refine lv_aload_n hx hb dX7_noteClosing_10 rfl (lv_at hl 0 rfl) ?_
    refine va_get (D := D) (ci := 7) (v := .ref (ad 33)) (fs := (xfNotes ad V L Z)) (C := RX7) (T := TX7) (N := 10) hx hb hg inX7 hown hK hP 4 xgNotes rfl 3 (by decide) (hg _ w438) (fun _ h9 => h9) rfl dX7_noteClosing_11 ?_
    refine lv_aload_n hx hb dX7_noteClosing_14 rfl (lv_at hl 0 rfl) ?_
    refine va_get (D := D) (ci := 7) (v := .int (V 4 6)) (fs := (xfNotes ad V L Z)) (C := RX7) (T := TX7) (N := 10) hx hb hg inX7 hown hK hP 4 xgNotes rfl 6 (by decide) (hg _ w441) (fun _ h9 => h9) rfl dX7_noteClosing_15 ?_
    refine lv_iload_n hx hb dX7_noteClosing_18 rfl (lv_at hl 1 rfl) ?_
    refine va_iast (D := D) (i := (V 4 6)) (x := p0) hx hb hK hP hD hS 33 26 rfl rfl (i_in (a := ((V 4 6)).toInt) rfl (by (first | exact om_5b0e5b7d98b0 r1.1 f4 | omega))) dX7_noteClosing_19 (fun H locs hP hD hS => ?_)
    obtain ⟨V5, hV5⟩ : ∃ z, z = up2 V 36 (Int32.toNatClampNeg (V 4 6)) p0 := ⟨_, rfl⟩
    have ew6 : (xw ad kk V L Z).set 33 ((ad 33), .inl ((kk 33), 300, .inl (upd (V 36) (Int32.toNatClampNeg (V 4 6)) p0))) = xw ad kk V5 L Z := by rw [hV5]; exact xw_ss (by decide) rfl (xb_si (by decide))
    have hP : va_P D vwCl (xw ad kk V5 L Z) H := by rw [← ew6]; exact hP
    have hD : va_D A (xw ad kk V5 L Z) := by rw [← ew6]; exact hD
    have hMV5 : rgd bX V5 := hMV.put hV5 (i_full _)
    have agV5 : agr [(4, 6)] [36, 37] V V5 := agV.up hV5 rfl
    refine lv_aload_n hx hb dX7_noteClosing_20 rfl (lv_at hl 0 rfl) ?_
    refine va_get (D := D) (ci := 7) (v := .ref (ad 34)) (fs := (xfNotes ad V5 L Z)) (C := RX7) (T := TX7) (N := 10) hx hb hg inX7 hown hK hP 4 xgNotes rfl 4 (by decide) (hg _ w439) (fun _ h9 => h9) rfl dX7_noteClosing_21 ?_
    refine lv_aload_n hx hb dX7_noteClosing_24 rfl (lv_at hl 0 rfl) ?_
    refine va_get (D := D) (ci := 7) (v := .int (V5 4 6)) (fs := (xfNotes ad V5 L Z)) (C := RX7) (T := TX7) (N := 10) hx hb hg inX7 hown hK hP 4 xgNotes rfl 6 (by decide) (hg _ w441) (fun _ h9 => h9) rfl dX7_noteClosing_25 ?_
    refine g_top (v := (V 4 6)) (up2_o hV5 (by decide)) ?_
    refine lv_iload_n hx hb dX7_noteClosing_28 rfl (lv_at hl 2 rfl) ?_
    refine va_iast (D := D) (i := (V 4 6)) (x := p1) hx hb hK hP hD hS 34 27 rfl rfl (i_in (a := ((V 4 6)).toInt) rfl (by (first | exact om_5b0e5b7d98b0 r1.1 f4 | omega))) dX7_noteClosing_29 (fun H locs hP hD hS => ?_)
    obtain ⟨V7, hV7⟩ : ∃ z, z = up2 V5 37 (Int32.toNatClampNeg (V 4 6)) p1 := ⟨_, rfl⟩
    have ew8 : (xw ad kk V5 L Z).set 34 ((ad 34), .inl ((kk 34), 300, .inl (upd (V5 37) (Int32.toNatClampNeg (V 4 6)) p1))) = xw ad kk V7 L Z := by rw [hV7]; exact xw_ss (by decide) rfl (xb_si (by decide))
    have hP : va_P D vwCl (xw ad kk V7 L Z) H := by rw [← ew8]; exact hP
    have hD : va_D A (xw ad kk V7 L Z) := by rw [← ew8]; exact hD
    have hMV7 : rgd bX V7 := hMV5.put hV7 (i_full _)
    have agV7 : agr [(4, 6)] [36, 37] V V7 := agV5.up hV7 rfl
    refine lv_aload_n hx hb dX7_noteClosing_30 rfl (lv_at hl 0 rfl) ?_
    refine lv_dup hx hb dX7_noteClosing_31 rfl ?_
    refine va_get (D := D) (ci := 7) (v := .int (V7 4 6)) (fs := (xfNotes ad V7 L Z)) (C := RX7) (T := TX7) (N := 10) hx hb hg inX7 hown hK hP 4 xgNotes rfl 6 (by decide) (hg _ w441) (fun _ h9 => h9) rfl dX7_noteClosing_32 ?_
    refine g_top (v := (V 4 6)) ((up2_o hV7 (by decide)).trans (up2_o hV5 (by decide))) ?_
    refine lv_iconst (v := 1) hx hb dX7_noteClosing_35 (by decide) ?_
    refine lv_iadd hx hb dX7_noteClosing_36 ?_
    refine lv_topi (fun z9 ez9 => ?_)
    have hz9 : z9.toInt = ((V 4 6)).toInt + 1 := i_add ez9 rfl (by decide) (by (first | exact om_e89c2ae064a9 r1.1 f4 | omega))
    refine va_put (D := D) (ci := 7) (v := .int z9) (ty := tyX7 6) (fs := (xfNotes ad V7 L Z)) (C := RX7) (T := TX7) (N := 10) hx hb hg inX7 tyX7 tyX7_ok nmX7 hown hK hP hD hS 4 xgNotes rfl 6 (by decide) (hg _ w441) (fun _ h9 => h9) rfl (tyX7_ok 6 (by decide)) rfl rfl (Nat.le_of_ble_eq_true rfl) dX7_noteClosing_37 (fun H locs hP hD hS => ?_)
    obtain ⟨V10, hV10⟩ : ∃ z, z = up2 V7 4 6 z9 := ⟨_, rfl⟩
    have ew11 : (xw ad kk V7 L Z).set 4 ((ad 4), .inr (7, (xfNotes ad V7 L Z).set 6 (.int z9))) = xw ad kk V10 L Z := by rw [hV10]; exact xw_ss (by decide) rfl (xb_si (by decide))
    have hP : va_P D vwCl (xw ad kk V10 L Z) H := by rw [← ew11]; exact hP
    have hD : va_D A (xw ad kk V10 L Z) := by rw [← ew11]; exact hD
    have hMV10 : rgd bX V10 := hMV7.put hV10 (show 0 ≤ z9.toInt ∧ z9.toInt ≤ 300 from by (first | exact om_59cf3ec53513 r1.1 f4 hz9 | omega))
    have agV10 : agr [(4, 6)] [36, 37] V V10 := agV7.up hV10 rfl
    exact W.vret hx hb hr (fun t ht hW => ⟨⟨(V10, L), rfl, ⟨hMV10, agV10, rfl, (Or.inl ⟨by omega, by rw [hV10, hV7, hV5, ez9] <;> rfl⟩)⟩, by rw [ht]; exact hP, va_K.moved hW.alike hK, hD⟩, hS.F ht⟩) hS.2.2 dX7_noteClosing_40
abbrev r_x_dropObject9 : Room := { frames := 0, cells := 0, slots := 0, locals := 0 }
abbrev q_x_dropObject9 (D : va_G) (ks : KS) (ad : Nat → Nat) (kk : Nat → ClassId) (V : Vf) (L : Lf) (Z : XZ) (p0 : Int32) (A : Nat → Prop) : Array Value → State → Outcome → State → Prop := va_Qv (fun (u : Vf × Lf) => rgd bX u.1 ∧ agr [] [25, 28] V u.1 ∧ u.2 = L ∧ (∀ n, ME V u.1 n) ∧ ((((V 25 (24 * Int32.toNatClampNeg (V 27 (Int32.toNatClampNeg p0)) + Int32.toNatClampNeg (V 26 (Int32.toNatClampNeg p0)))).toInt = p0.toInt) ∧ u.1 = (up2 (up2 V 28 (Int32.toNatClampNeg p0) 2) 25 (24 * Int32.toNatClampNeg (V 27 (Int32.toNatClampNeg p0)) + Int32.toNatClampNeg (V 26 (Int32.toNatClampNeg p0))) (-1))) ∨ (((V 25 (24 * Int32.toNatClampNeg (V 27 (Int32.toNatClampNeg p0)) + Int32.toNatClampNeg (V 26 (Int32.toNatClampNeg p0)))).toInt ≠ p0.toInt) ∧ u.1 = (up2 V 28 (Int32.toNatClampNeg p0) 2)))) (fun u t => gq D A (xw ad kk u.1 u.2 Z) (xty kk Z) t) A
set_option maxHeartbeats 4000000 in
set_option maxRecDepth 100000 in
theorem x_dropObject9 (l : Launch) (D : va_G) (ks : KS) (sz : Nat) (ad : Nat → Nat) (kk : Nat → ClassId) (V : Vf) (L : Lf) (Z : XZ) (p0 : Int32) (hMV : rgd bX V) (rg_p0 : 0 ≤ p0.toInt ∧ p0.toInt ≤ 299)  : Met l yX8_dropObject (Cond.code yX8_dropObject cX8_dropObject 3 none :: GW) r_x_dropObject9 (va_Pc [.ref (ad 3), .int p0] (gp D ks (xw ad kk V L Z) (xty kk Z) sz)) (q_x_dropObject9 D ks ad kk V L Z p0 (va_A (xw ad kk V L Z) sz)) 0 0 (va_A (xw ad kk V L Z) sz) := by
  refine g_met (q_x_dropObject9 D ks ad kk V L Z p0) (by decide) (Nat.le_of_ble_eq_true rfl) ?_
  intro p e s m below meth c A ls H locs hx hb hr hml hown hg hlocks hin hnw hgk hP hK hD hS hA hl
  have hown : s.vm.findClass RX8 = some m.cls := hown
  have hl : lv_has ls 3 [(0, .ref (ad 3)), (1, .int p0)] := hl
  have hP : va_P D vwCl (xw ad kk V L Z) H := hP
  have hD : va_D A (xw ad kk V L Z) := hD
  have hK : va_K D vwCl (xty kk Z) s := hK
  have agV : agr [] [25, 28] V V := agr.rf
  refine lv_aload_n hx hb dX8_dropObject_0 rfl (lv_at hl 0 rfl) ?_
  refine va_get (D := D) (ci := 8) (v := .ref (ad 24)) (fs := (xfStock ad V L Z)) (C := RX8) (T := TX8) (N := 16) hx hb hg inX8 hown hK hP 3 xgStock rfl 6 (by decide) (hg _ w381) (fun _ h9 => h9) rfl dX8_dropObject_1 ?_
  refine lv_iload_n hx hb dX8_dropObject_4 rfl (lv_at hl 1 rfl) ?_
  refine va_iald (D := D) (i := p0) hx hb hK hP 24 17 rfl rfl (i_in (a := p0.toInt) rfl (by (first | exact om_375eda9ff8f1 rg_p0.1 rg_p0.2 | omega))) dX8_dropObject_5 ?_
  have r1 : 0 ≤ ((V 27 (Int32.toNatClampNeg p0))).toInt ∧ ((V 27 (Int32.toNatClampNeg p0))).toInt ≤ 39 := hMV 27 (Int32.toNatClampNeg p0)
  refine lv_bipush (v := 24) hx hb dX8_dropObject_6 (by decide) ?_
  refine lv_imul hx hb dX8_dropObject_8 ?_
  refine lv_topi (fun z2 ez2 => ?_)
  have hz2 : z2.toInt = ((V 27 (Int32.toNatClampNeg p0))).toInt * 24 := i_mul ez2 rfl (by decide) (by (first | exact om_1c6a8f74b4b6 r1.1 r1.2 | omega))
  refine lv_aload_n hx hb dX8_dropObject_9 rfl (lv_at hl 0 rfl) ?_
  refine va_get (D := D) (ci := 8) (v := .ref (ad 23)) (fs := (xfStock ad V L Z)) (C := RX8) (T := TX8) (N := 16) hx hb hg inX8 hown hK hP 3 xgStock rfl 5 (by decide) (hg _ w379) (fun _ h9 => h9) rfl dX8_dropObject_10 ?_
  refine lv_iload_n hx hb dX8_dropObject_13 rfl (lv_at hl 1 rfl) ?_
  refine va_iald (D := D) (i := p0) hx hb hK hP 23 16 rfl rfl (i_in (a := p0.toInt) rfl (by (first | exact om_375eda9ff8f1 rg_p0.1 rg_p0.2 | omega))) dX8_dropObject_14 ?_
  have r3 : 0 ≤ ((V 26 (Int32.toNatClampNeg p0))).toInt ∧ ((V 26 (Int32.toNatClampNeg p0))).toInt ≤ 23 := hMV 26 (Int32.toNatClampNeg p0)
  refine lv_iadd hx hb dX8_dropObject_15 ?_
  refine lv_topi (fun z4 ez4 => ?_)
  have hz4 : z4.toInt = z2.toInt + ((V 26 (Int32.toNatClampNeg p0))).toInt := i_add ez4 rfl rfl (by (first | exact om_9248ba120274 r1.1 r1.2 hz2 r3.1 r3.2 | omega))
  refine lv_istore_n (lv' := [(2, .int z4), (0, .ref (ad 3)), (1, .int p0)]) hx hb dX8_dropObject_16 rfl hl (by decide) rfl (fun ls hl => ?_)
  refine lv_aload_n hx hb dX8_dropObject_17 rfl (lv_at hl 1 rfl) ?_
  refine va_get (D := D) (ci := 8) (v := .ref (ad 25)) (fs := (xfStock ad V L Z)) (C := RX8) (T := TX8) (N := 16) hx hb hg inX8 hown hK hP 3 xgStock rfl 7 (by decide) (hg _ w384) (fun _ h9 => h9) rfl dX8_dropObject_18 ?_
  refine lv_iload_n hx hb dX8_dropObject_21 rfl (lv_at hl 2 rfl) ?_
  refine lv_iconst (v := 2) hx hb dX8_dropObject_22 (by decide) ?_
  refine va_iast (D := D) (i := p0) (x := 2) hx hb hK hP hD hS 25 18 rfl rfl (i_in (a := p0.toInt) rfl (by (first | exact om_375eda9ff8f1 rg_p0.1 rg_p0.2 | omega))) dX8_dropObject_23 (fun H locs hP hD hS => ?_)
  obtain ⟨V5, hV5⟩ : ∃ z, z = up2 V 28 (Int32.toNatClampNeg p0) 2 := ⟨_, rfl⟩
  have ew6 : (xw ad kk V L Z).set 25 ((ad 25), .inl ((kk 25), 300, .inl (upd (V 28) (Int32.toNatClampNeg p0) 2))) = xw ad kk V5 L Z := by rw [hV5]; exact xw_ss (by decide) rfl (xb_si (by decide))
  have hP : va_P D vwCl (xw ad kk V5 L Z) H := by rw [← ew6]; exact hP
  have hD : va_D A (xw ad kk V5 L Z) := by rw [← ew6]; exact hD
  have hMV5 : rgd bX V5 := hMV.put hV5 (i_full _)
  have agV5 : agr [] [25, 28] V V5 := agV.up hV5 rfl
  refine lv_aload_n hx hb dX8_dropObject_24 rfl (lv_at hl 1 rfl) ?_
  refine va_get (D := D) (ci := 8) (v := .ref (ad 22)) (fs := (xfStock ad V5 L Z)) (C := RX8) (T := TX8) (N := 16) hx hb hg inX8 hown hK hP 3 xgStock rfl 4 (by decide) (hg _ w378) (fun _ h9 => h9) rfl dX8_dropObject_25 ?_
  refine lv_iload_n hx hb dX8_dropObject_28 rfl (lv_at hl 0 rfl) ?_
  refine va_iald (D := D) (i := z4) hx hb hK hP 22 15 rfl rfl (i_in (a := z4.toInt) rfl (by (first | exact om_05b08aa47414 r1.1 r1.2 hz2 r3.1 r3.2 hz4 | omega))) dX8_dropObject_29 ?_
  refine g_top (v := (V 25 (Int32.toNatClampNeg z4))) (up2_o hV5 (by decide)) ?_
  have r7 : (-1) ≤ ((V 25 (Int32.toNatClampNeg z4))).toInt ∧ ((V 25 (Int32.toNatClampNeg z4))).toInt ≤ 299 := hMV 25 (Int32.toNatClampNeg z4)
  refine lv_iload_n hx hb dX8_dropObject_30 rfl (lv_at hl 2 rfl) ?_
  refine lv_icmp_ne (tgt := 41) hx hb dX8_dropObject_31 (by decide) (fun c8 => ?_) (fun c8 => ?_)
  · skip
    have f9 : ((V 25 (Int32.toNatClampNeg z4))).toInt ≠ p0.toInt := b_neq rfl rfl c8
    have m1 : Int32.toInt (-1) = -1 := by decide
    have me10 : ∀ n, ME V V5 n := fun n => (ME.up ME.rf hV5 (Or.inr (by omega)))
    have kq12 := i_clamp (x := V 26 (Int32.toNatClampNeg p0)) rfl (hMV 26 _).1
    have kq13 := i_clamp (x := V 27 (Int32.toNatClampNeg p0)) rfl (hMV 27 _).1
    have kz11 : Int32.toNatClampNeg z4 = 24 * Int32.toNatClampNeg (V 27 (Int32.toNatClampNeg p0)) + Int32.toNatClampNeg (V 26 (Int32.toNatClampNeg p0)) := by have h9 := i_clamp (x := z4) rfl (by (first | exact om_1d58235eefb9 r1.1 hz2 r3.1 hz4 | omega)); omega
    exact W.vret hx hb hr (fun t ht hW => ⟨⟨(V5, L), rfl, ⟨hMV5, agV5, rfl, me10, (Or.inr (⟨by rw [← kz11]; omega, by rw [hV5] <;> rfl⟩))⟩, by rw [ht]; exact hP, va_K.moved hW.alike hK, hD⟩, hS.F ht⟩) hS.2.2 dX8_dropObject_41
  · skip
    have f14 : ((V 25 (Int32.toNatClampNeg z4))).toInt = p0.toInt := b_eq rfl rfl c8
    refine lv_aload_n hx hb dX8_dropObject_34 rfl (lv_at hl 1 rfl) ?_
    refine va_get (D := D) (ci := 8) (v := .ref (ad 22)) (fs := (xfStock ad V5 L Z)) (C := RX8) (T := TX8) (N := 16) hx hb hg inX8 hown hK hP 3 xgStock rfl 4 (by decide) (hg _ w378) (fun _ h9 => h9) rfl dX8_dropObject_35 ?_
    refine lv_iload_n hx hb dX8_dropObject_38 rfl (lv_at hl 0 rfl) ?_
    refine lv_iconst (v := (-1)) hx hb dX8_dropObject_39 (by decide) ?_
    refine va_iast (D := D) (i := z4) (x := (-1)) hx hb hK hP hD hS 22 15 rfl rfl (i_in (a := z4.toInt) rfl (by (first | exact om_05b08aa47414 r1.1 r1.2 hz2 r3.1 r3.2 hz4 | omega))) dX8_dropObject_40 (fun H locs hP hD hS => ?_)
    obtain ⟨V15, hV15⟩ : ∃ z, z = up2 V5 25 (Int32.toNatClampNeg z4) (-1) := ⟨_, rfl⟩
    have ew16 : (xw ad kk V5 L Z).set 22 ((ad 22), .inl ((kk 22), 960, .inl (upd (V5 25) (Int32.toNatClampNeg z4) (-1)))) = xw ad kk V15 L Z := by rw [hV15]; exact xw_ss (by decide) rfl (xb_si (by decide))
    have hP : va_P D vwCl (xw ad kk V15 L Z) H := by rw [← ew16]; exact hP
    have hD : va_D A (xw ad kk V15 L Z) := by rw [← ew16]; exact hD
    have hMV15 : rgd bX V15 := hMV5.put hV15 (show (-1) ≤ Int32.toInt (-1) ∧ Int32.toInt (-1) ≤ 299 from by decide)
    have agV15 : agr [] [25, 28] V V15 := agV5.up hV15 rfl
    have m1 : Int32.toInt (-1) = -1 := by decide
    have me17 : ∀ n, ME V V15 n := fun n => (ME.up (ME.up ME.rf hV5 (Or.inr (by omega))) hV15 (Or.inr (by omega)))
    have kq19 := i_clamp (x := V 26 (Int32.toNatClampNeg p0)) rfl (hMV 26 _).1
    have kq20 := i_clamp (x := V 27 (Int32.toNatClampNeg p0)) rfl (hMV 27 _).1
    have kz18 : Int32.toNatClampNeg z4 = 24 * Int32.toNatClampNeg (V 27 (Int32.toNatClampNeg p0)) + Int32.toNatClampNeg (V 26 (Int32.toNatClampNeg p0)) := by have h9 := i_clamp (x := z4) rfl (by (first | exact om_1d58235eefb9 r1.1 hz2 r3.1 hz4 | omega)); omega
    exact W.vret hx hb hr (fun t ht hW => ⟨⟨(V15, L), rfl, ⟨hMV15, agV15, rfl, me17, (Or.inl ⟨by rw [← kz18]; omega, by rw [hV15, hV5, kz18] <;> rfl⟩)⟩, by rw [ht]; exact hP, va_K.moved hW.alike hK, hD⟩, hS.F ht⟩) hS.2.2 dX8_dropObject_41
end
section
/-! a frame more, to the letter -/
def PSl (V W : Vf) (i : Nat) : Prop := (W 5 6).toInt = (V 5 6).toInt + 1 ∧ (W 5 9).toInt = 0 ∧ ∀ j, j < i → ∀ c, 67 ≤ c → c ≤ 85 → W c j = V c j
/-- .. about what the one below is about -/
def PBl (V W : Vf) (g i : Nat) : Prop := W 69 i = V 69 g ∧ W 70 i = V 70 g ∧ W 71 i = V 71 g ∧ W 72 i = V 72 g ∧ W 73 i = V 73 g
def PWk (V W : Vf) (g i : Nat) (at9 ag : Int32) : Prop := PSl V W i ∧ kp W i 4 0 ∧ PBl V W g i ∧ W 74 i = ag ∧ W 84 i = at9 ∧ W 85 i = V 5 7 ∧ (W 75 i).toInt = 0
def PIn (V W : Vf) (g i : Nat) (pl ag : Int32) : Prop := PSl V W i ∧ kp W i 3 0 ∧ PBl V W g i ∧ W 74 i = ag ∧ W 75 i = pl
def PRo (V W : Vf) (i : Nat) (c sc lv : Int32) : Prop := PSl V W i ∧ kp W i 0 0 ∧ W 69 i = lv ∧ W 71 i = c ∧ W 72 i = sc ∧ W 80 i = V 5 8 ∧ W 83 i = 0
def PCa (V W : Vf) (i : Nat) (o sc me ag lv : Int32) : Prop := PSl V W i ∧ kp W i 2 0 ∧ W 69 i = lv ∧ W 70 i = o ∧ W 72 i = sc ∧ W 73 i = me ∧ W 74 i = ag ∧ ((0 ≤ o.toInt ∧ o.toInt < (V 3 13).toInt → W 71 i = V 26 (Int32.toNatClampNeg o)) ∧ (¬ (0 ≤ o.toInt ∧ o.toInt < (V 3 13).toInt) → (W 71 i).toInt = 0) ∧ 0 ≤ (W 71 i).toInt)
def PCl (V W : Vf) (i : Nat) (o lv : Int32) : Prop := PSl V W i ∧ kp W i 5 0 ∧ W 69 i = lv ∧ W 70 i = o ∧ W 71 i = V 26 (Int32.toNatClampNeg o) ∧ W 72 i = V 27 (Int32.toNatClampNeg o)
theorem PSl.mv {V U W : Vf} {i : Nat} (h : PSl U W i) (e6 : U 5 6 = V 5 6) (er : ∀ j, j < i → ∀ c, 67 ≤ c → c ≤ 85 → U c j = V c j) : PSl V W i := ⟨by rw [← e6]; exact h.1, h.2.1, fun j hj c a b => (h.2.2 j hj c a b).trans (er j hj c a b)⟩
theorem PWk.mv {V U W : Vf} {g i : Nat} {at9 ag : Int32} (h : PWk U W g i at9 ag) (hg : g < i) (e6 : U 5 6 = V 5 6) (e7 : U 5 7 = V 5 7) (er : ∀ j, j < i → ∀ c, 67 ≤ c → c ≤ 85 → U c j = V c j) : PWk V W g i at9 ag := by
  obtain ⟨h1, h2, ⟨a1, a2, a3, a4, a5⟩, h4, h5, h6, h7⟩ := h
  exact ⟨h1.mv e6 er, h2, ⟨a1.trans (er g hg 69 (by decide) (by decide)), a2.trans (er g hg 70 (by decide) (by decide)), a3.trans (er g hg 71 (by decide) (by decide)), a4.trans (er g hg 72 (by decide) (by decide)), a5.trans (er g hg 73 (by decide) (by decide))⟩, h4, h5, h6.trans e7, h7⟩


abbrev r_x_push9 (Z : XZ) : Room := { frames := 2, cells := zcc Z, slots := zss Z, locals := 40 }
abbrev q_x_push9 (D : va_G) (ks : KS) (ad : Nat → Nat) (kk : Nat → ClassId) (V : Vf) (L : Lf) (Z : XZ) (p0 : Int32) (p1 : Int32) (p2 : Int32) (p3 : Int32) (p4 : Int32) (A : Nat → Prop) : Array Value → State → Outcome → State → Prop := qZr D (fun (u : Vf × Lf × XZ × Nat) => rgd bX u.1 ∧ agr [(5, 6), (5, 9)] [67, 68, 69, 70, 71, 72, 73, 74, 75, 76, 77, 78, 79, 80, 81, 82, 83, 84, 85] V u.1 ∧ u.2.1 = L ∧ ZL Z u.2.2.1 ∧ (u.2.2.2 < u.2.2.1.nf) ∧ (ME V u.1 u.2.2.2) ∧ (u.1 67 u.2.2.2 = p0 ∧ u.1 68 u.2.2.2 = 0 ∧ u.1 70 u.2.2.2 = p2 ∧ u.1 71 u.2.2.2 = p3 ∧ u.1 75 u.2.2.2 = 0 ∧ u.1 76 u.2.2.2 = 0) ∧ ((u.2.2.2 : Int) + 1 = (u.1 5 6).toInt) ∧ ((u.2.2.2 : Int) ≤ (V 5 6).toInt ∧ (V 5 6).toInt ≤ (u.2.2.2 : Int) + 1) ∧ ((u.1 5 9).toInt = 0) ∧ (u.2.2.1.ln = Z.ln ∧ u.2.2.1.nf ≤ 400) ∧ (u.1 69 u.2.2.2 = p1 ∧ u.1 72 u.2.2.2 = p4 ∧ u.1 83 u.2.2.2 = 0) ∧ (Imp ((V 5 6).toInt < 400) ((u.2.2.2 : Int) = (V 5 6).toInt))) (fun u => u.2.2.1.fa u.2.2.2) (fun u => xw ad kk u.1 u.2.1 u.2.2.1) (fun u => xty kk u.2.2.1) (fun u => zcc Z - zcc u.2.2.1) (fun u => zss Z - zss u.2.2.1) A
set_option maxHeartbeats 4000000 in
set_option maxRecDepth 100000 in
theorem x_push9 (l : Launch) (D : va_G) (ks : KS) (sz : Nat) (ad : Nat → Nat) (kk : Nat → ClassId) (V : Vf) (L : Lf) (Z : XZ) (p0 : Int32) (p1 : Int32) (p2 : Int32) (p3 : Int32) (p4 : Int32) (hMV : rgd bX V) (rg_p3 : (-1) ≤ p3.toInt ∧ p3.toInt ≤ 23) (rg_p4 : 0 ≤ p4.toInt ∧ p4.toInt ≤ 39) (hdn : (V 5 6).toInt ≤ (Z.nf : Int)) (hnf : (Z.nf : Int) ≤ 400)  : Met l yX5_push (Cond.code yX5_push cX5_push 7 (some (.object "WiringHouse$Frame")) :: GW) (r_x_push9 Z) (va_Pc [.ref (ad 5), .int p0, .int p1, .int p2, .int p3, .int p4] (gp D ks (xw ad kk V L Z) (xty kk Z) sz)) (q_x_push9 D ks ad kk V L Z p0 p1 p2 p3 p4 (va_A (xw ad kk V L Z) sz)) (zcc Z) (zss Z) (va_A (xw ad kk V L Z) sz) := by
  refine g_met (q_x_push9 D ks ad kk V L Z p0 p1 p2 p3 p4) (by decide) (Nat.le_of_ble_eq_true rfl) ?_
  intro p e s m below meth c A ls H locs hx hb hr hml hown hg hlocks hin hnw hgk hP hK hD hS hA hl
  have hown : s.vm.findClass RX5 = some m.cls := hown
  have hl : lv_has ls 7 [(0, .ref (ad 5)), (1, .int p0), (2, .int p1), (3, .int p2), (4, .int p3), (5, .int p4)] := hl
  have hP : va_P D vwCl (xw ad kk V L Z) H := hP
  have hD : va_D A (xw ad kk V L Z) := hD
  have hK : va_K D vwCl (xty kk Z) s := hK
  have agV : agr [(5, 6), (5, 9)] [67, 68, 69, 70, 71, 72, 73, 74, 75, 76, 77, 78, 79, 80, 81, 82, 83, 84, 85] V V := agr.rf
  have zoZ : ZL Z Z := ZL.rf
  refine W.know (fun ka kb => ?_)
  refine W.tight (k := zcc Z - zcc Z) (n := zss Z - zss Z) (by omega) (by omega) ?_
  have r1 : 0 ≤ ((V 5 6)).toInt ∧ ((V 5 6)).toInt ≤ 400 := hMV 5 6
  have kdp := i_clamp (x := V 5 6) rfl (by (first | exact om_eafa9039069c r1.1 | omega))
  refine lv_aload_n hx hb dX5_push_0 rfl (lv_at hl 0 rfl) ?_
  refine va_get (D := D) (ci := 5) (v := .int (V 5 6)) (fs := (xfMachine ad V L Z)) (C := RX5) (T := TX5) (N := 15) hx hb hg inX5 hown hK hP 5 xgMachine rfl 6 (by decide) (hg _ w673) (fun _ h9 => h9) rfl dX5_push_1 ?_
  refine lv_sipush (v := 400) hx hb dX5_push_4 (by decide) ?_
  refine lv_icmp_ge (tgt := 38) hx hb dX5_push_7 (by decide) (fun c2 => ?_) (fun c2 => ?_)
  · skip
    have f3 : 400 ≤ ((V 5 6)).toInt := b_le (by decide) rfl c2
    refine lv_aload_n hx hb dX5_push_38 rfl (lv_at hl 0 rfl) ?_
    refine va_get (D := D) (ci := 5) (v := .ref (ad 35)) (fs := (xfMachine ad V L Z)) (C := RX5) (T := TX5) (N := 15) hx hb hg inX5 hown hK hP 5 xgMachine rfl 2 (by decide) (hg _ w669) (fun _ h9 => h9) rfl dX5_push_39 ?_
    refine lv_aload_n hx hb dX5_push_42 rfl (lv_at hl 0 rfl) ?_
    refine va_get (D := D) (ci := 5) (v := .int (V 5 6)) (fs := (xfMachine ad V L Z)) (C := RX5) (T := TX5) (N := 15) hx hb hg inX5 hown hK hP 5 xgMachine rfl 6 (by decide) (hg _ w673) (fun _ h9 => h9) rfl dX5_push_43 ?_
    refine lv_sipush (v := 400) hx hb dX5_push_46 (by decide) ?_
    refine lv_icmp_ge (tgt := 66) hx hb dX5_push_49 (by decide) (fun c4 => ?_) (fun c4 => ?_)
    · skip
      have f5 : 400 ≤ ((V 5 6)).toInt := b_le (by decide) rfl c4
      refine lv_sipush (v := 399) hx hb dX5_push_66 (by decide) ?_
      refine va_aldq (D := D) (i := 399) hx hb hK hP 35 28 rfl rfl (i_in (a := 399) (by decide) (by decide)) dX5_push_69 ?_
      refine g_topv (v := .ref (Z.fa 399)) (by rw [show Int32.toNatClampNeg 399 = 399 from by decide]; exact congrArg va_rf (if_pos (by omega))) ?_
      have il6 : 399 < Z.nf := by (first | exact om_41b7f2c202b6 hdn f3 | omega)
      refine lv_astore (lv' := [(6, .ref (Z.fa 399)), (0, .ref (ad 5)), (1, .int p0), (2, .int p1), (3, .int p2), (4, .int p3), (5, .int p4)]) hx hb dX5_push_70 hl (by decide) rfl (fun ls hl => ?_)
      refine lv_aload hx hb dX5_push_72 (lv_at hl 0 rfl) ?_
      refine lv_iload_n hx hb dX5_push_74 rfl (lv_at hl 2 rfl) ?_
      refine va_putN (D := D) (ci := 4) (v := .int p0) (ty := tyX4 0) (fs := (xfFrame V 399)) (C := RX4) (T := TX4) (N := 19) hx hb hg inX4 tyX4 tyX4_ok nmX4 hown hK hP hD hS (336 + 399) (xgFrame il6) rfl 0 (by decide) (hnw.use 1189 n1189 rfl) (fun _ h9 => h9) rfl (tyX4_ok 0 (by decide)) rfl rfl (Nat.le_of_ble_eq_true rfl) dX5_push_75 (fun H locs hP hD hS => ?_)
      obtain ⟨V7, hV7⟩ : ∃ z, z = up2 V 67 399 p0 := ⟨_, rfl⟩
      have ew8 : (xw ad kk V L Z).set (336 + 399) ((Z.fa 399), .inr (4, (xfFrame V 399).set 0 (.int p0))) = xw ad kk V7 L Z := by rw [hV7]; exact xpFrame_kind il6
      have hP : va_P D vwCl (xw ad kk V7 L Z) H := by rw [← ew8]; exact hP
      have hD : va_D A (xw ad kk V7 L Z) := by rw [← ew8]; exact hD
      have hMV7 : rgd bX V7 := hMV.put hV7 (i_full _)
      have agV7 : agr [(5, 6), (5, 9)] [67, 68, 69, 70, 71, 72, 73, 74, 75, 76, 77, 78, 79, 80, 81, 82, 83, 84, 85] V V7 := agV.up hV7 rfl
      refine lv_aload hx hb dX5_push_78 (lv_at hl 0 rfl) ?_
      refine lv_iconst (v := 0) hx hb dX5_push_80 (by decide) ?_
      refine va_putN (D := D) (ci := 4) (v := .int 0) (ty := tyX4 1) (fs := (xfFrame V7 399)) (C := RX4) (T := TX4) (N := 19) hx hb hg inX4 tyX4 tyX4_ok nmX4 hown hK hP hD hS (336 + 399) (xgFrame il6) rfl 1 (by decide) (hnw.use 1190 n1190 rfl) (fun _ h9 => h9) rfl (tyX4_ok 1 (by decide)) rfl rfl (Nat.le_of_ble_eq_true rfl) dX5_push_81 (fun H locs hP hD hS => ?_)
      obtain ⟨V9, hV9⟩ : ∃ z, z = up2 V7 68 399 0 := ⟨_, rfl⟩
      have ew10 : (xw ad kk V7 L Z).set (336 + 399) ((Z.fa 399), .inr (4, (xfFrame V7 399).set 1 (.int 0))) = xw ad kk V9 L Z := by rw [hV9]; exact xpFrame_phase il6
      have hP : va_P D vwCl (xw ad kk V9 L Z) H := by rw [← ew10]; exact hP
      have hD : va_D A (xw ad kk V9 L Z) := by rw [← ew10]; exact hD
      have hMV9 : rgd bX V9 := hMV7.put hV9 (i_full _)
      have agV9 : agr [(5, 6), (5, 9)] [67, 68, 69, 70, 71, 72, 73, 74, 75, 76, 77, 78, 79, 80, 81, 82, 83, 84, 85] V V9 := agV7.up hV9 rfl
      refine lv_aload hx hb dX5_push_84 (lv_at hl 0 rfl) ?_
      refine lv_iload_n hx hb dX5_push_86 rfl (lv_at hl 3 rfl) ?_
      refine va_putN (D := D) (ci := 4) (v := .int p1) (ty := tyX4 2) (fs := (xfFrame V9 399)) (C := RX4) (T := TX4) (N := 19) hx hb hg inX4 tyX4 tyX4_ok nmX4 hown hK hP hD hS (336 + 399) (xgFrame il6) rfl 2 (by decide) (hnw.use 1191 n1191 rfl) (fun _ h9 => h9) rfl (tyX4_ok 2 (by decide)) rfl rfl (Nat.le_of_ble_eq_true rfl) dX5_push_87 (fun H locs hP hD hS => ?_)
      obtain ⟨V11, hV11⟩ : ∃ z, z = up2 V9 69 399 p1 := ⟨_, rfl⟩
      have ew12 : (xw ad kk V9 L Z).set (336 + 399) ((Z.fa 399), .inr (4, (xfFrame V9 399).set 2 (.int p1))) = xw ad kk V11 L Z := by rw [hV11]; exact xpFrame_level il6
      have hP : va_P D vwCl (xw ad kk V11 L Z) H := by rw [← ew12]; exact hP
      have hD : va_D A (xw ad kk V11 L Z) := by rw [← ew12]; exact hD
      have hMV11 : rgd bX V11 := hMV9.put hV11 (i_full _)
      have agV11 : agr [(5, 6), (5, 9)] [67, 68, 69, 70, 71, 72, 73, 74, 75, 76, 77, 78, 79, 80, 81, 82, 83, 84, 85] V V11 := agV9.up hV11 rfl
      refine lv_aload hx hb dX5_push_90 (lv_at hl 0 rfl) ?_
      refine lv_iload_n hx hb dX5_push_92 rfl (lv_at hl 4 rfl) ?_
      refine va_putN (D := D) (ci := 4) (v := .int p2) (ty := tyX4 3) (fs := (xfFrame V11 399)) (C := RX4) (T := TX4) (N := 19) hx hb hg inX4 tyX4 tyX4_ok nmX4 hown hK hP hD hS (336 + 399) (xgFrame il6) rfl 3 (by decide) (hnw.use 1192 n1192 rfl) (fun _ h9 => h9) rfl (tyX4_ok 3 (by decide)) rfl rfl (Nat.le_of_ble_eq_true rfl) dX5_push_93 (fun H locs hP hD hS => ?_)
      obtain ⟨V13, hV13⟩ : ∃ z, z = up2 V11 70 399 p2 := ⟨_, rfl⟩
      have ew14 : (xw ad kk V11 L Z).set (336 + 399) ((Z.fa 399), .inr (4, (xfFrame V11 399).set 3 (.int p2))) = xw ad kk V13 L Z := by rw [hV13]; exact xpFrame_object il6
      have hP : va_P D vwCl (xw ad kk V13 L Z) H := by rw [← ew14]; exact hP
      have hD : va_D A (xw ad kk V13 L Z) := by rw [← ew14]; exact hD
      have hMV13 : rgd bX V13 := hMV11.put hV13 (i_full _)
      have agV13 : agr [(5, 6), (5, 9)] [67, 68, 69, 70, 71, 72, 73, 74, 75, 76, 77, 78, 79, 80, 81, 82, 83, 84, 85] V V13 := agV11.up hV13 rfl
      refine lv_aload hx hb dX5_push_96 (lv_at hl 0 rfl) ?_
      refine lv_iload hx hb dX5_push_98 (lv_at hl 5 rfl) ?_
      refine va_putN (D := D) (ci := 4) (v := .int p3) (ty := tyX4 4) (fs := (xfFrame V13 399)) (C := RX4) (T := TX4) (N := 19) hx hb hg inX4 tyX4 tyX4_ok nmX4 hown hK hP hD hS (336 + 399) (xgFrame il6) rfl 4 (by decide) (hnw.use 1193 n1193 rfl) (fun _ h9 => h9) rfl (tyX4_ok 4 (by decide)) rfl rfl (Nat.le_of_ble_eq_true rfl) dX5_push_100 (fun H locs hP hD hS => ?_)
      obtain ⟨V15, hV15⟩ : ∃ z, z = up2 V13 71 399 p3 := ⟨_, rfl⟩
      have ew16 : (xw ad kk V13 L Z).set (336 + 399) ((Z.fa 399), .inr (4, (xfFrame V13 399).set 4 (.int p3))) = xw ad kk V15 L Z := by rw [hV15]; exact xpFrame_component il6
      have hP : va_P D vwCl (xw ad kk V15 L Z) H := by rw [← ew16]; exact hP
      have hD : va_D A (xw ad kk V15 L Z) := by rw [← ew16]; exact hD
      have hMV15 : rgd bX V15 := hMV13.put hV15 (show (-1) ≤ p3.toInt ∧ p3.toInt ≤ 23 from by (first | exact om_b5ea211f5a81 rg_p3.1 rg_p3.2 | omega))
      have agV15 : agr [(5, 6), (5, 9)] [67, 68, 69, 70, 71, 72, 73, 74, 75, 76, 77, 78, 79, 80, 81, 82, 83, 84, 85] V V15 := agV13.up hV15 rfl
      refine lv_aload hx hb dX5_push_103 (lv_at hl 0 rfl) ?_
      refine lv_iload hx hb dX5_push_105 (lv_at hl 6 rfl) ?_
      refine va_putN (D := D) (ci := 4) (v := .int p4) (ty := tyX4 5) (fs := (xfFrame V15 399)) (C := RX4) (T := TX4) (N := 19) hx hb hg inX4 tyX4 tyX4_ok nmX4 hown hK hP hD hS (336 + 399) (xgFrame il6) rfl 5 (by decide) (hnw.use 1194 n1194 rfl) (fun _ h9 => h9) rfl (tyX4_ok 5 (by decide)) rfl rfl (Nat.le_of_ble_eq_true rfl) dX5_push_107 (fun H locs hP hD hS => ?_)
      obtain ⟨V17, hV17⟩ : ∃ z, z = up2 V15 72 399 p4 := ⟨_, rfl⟩
      have ew18 : (xw ad kk V15 L Z).set (336 + 399) ((Z.fa 399), .inr (4, (xfFrame V15 399).set 5 (.int p4))) = xw ad kk V17 L Z := by rw [hV17]; exact xpFrame_scope il6
      have hP : va_P D vwCl (xw ad kk V17 L Z) H := by rw [← ew18]; exact hP
      have hD : va_D A (xw ad kk V17 L Z) := by rw [← ew18]; exact hD
      have hMV17 : rgd bX V17 := hMV15.put hV17 (show 0 ≤ p4.toInt ∧ p4.toInt ≤ 39 from by (first | exact om_13ba01c174fe rg_p4.1 rg_p4.2 | omega))
      have agV17 : agr [(5, 6), (5, 9)] [67, 68, 69, 70, 71, 72, 73, 74, 75, 76, 77, 78, 79, 80, 81, 82, 83, 84, 85] V V17 := agV15.up hV17 rfl
      refine lv_aload hx hb dX5_push_110 (lv_at hl 0 rfl) ?_
      refine lv_iconst (v := 0) hx hb dX5_push_112 (by decide) ?_
      refine va_putN (D := D) (ci := 4) (v := .int 0) (ty := tyX4 8) (fs := (xfFrame V17 399)) (C := RX4) (T := TX4) (N := 19) hx hb hg inX4 tyX4 tyX4_ok nmX4 hown hK hP hD hS (336 + 399) (xgFrame il6) rfl 8 (by decide) (hnw.use 1197 n1197 rfl) (fun _ h9 => h9) rfl (tyX4_ok 8 (by decide)) rfl rfl (Nat.le_of_ble_eq_true rfl) dX5_push_113 (fun H locs hP hD hS => ?_)
      obtain ⟨V19, hV19⟩ : ∃ z, z = up2 V17 75 399 0 := ⟨_, rfl⟩
      have ew20 : (xw ad kk V17 L Z).set (336 + 399) ((Z.fa 399), .inr (4, (xfFrame V17 399).set 8 (.int 0))) = xw ad kk V19 L Z := by rw [hV19]; exact xpFrame_position il6
      have hP : va_P D vwCl (xw ad kk V19 L Z) H := by rw [← ew20]; exact hP
      have hD : va_D A (xw ad kk V19 L Z) := by rw [← ew20]; exact hD
      have hMV19 : rgd bX V19 := hMV17.put hV19 (show 0 ≤ Int32.toInt 0 ∧ Int32.toInt 0 ≤ 12 from by decide)
      have agV19 : agr [(5, 6), (5, 9)] [67, 68, 69, 70, 71, 72, 73, 74, 75, 76, 77, 78, 79, 80, 81, 82, 83, 84, 85] V V19 := agV17.up hV19 rfl
      refine lv_aload hx hb dX5_push_116 (lv_at hl 0 rfl) ?_
      refine lv_iconst (v := 0) hx hb dX5_push_118 (by decide) ?_
      refine va_putN (D := D) (ci := 4) (v := .int 0) (ty := tyX4 9) (fs := (xfFrame V19 399)) (C := RX4) (T := TX4) (N := 19) hx hb hg inX4 tyX4 tyX4_ok nmX4 hown hK hP hD hS (336 + 399) (xgFrame il6) rfl 9 (by decide) (hnw.use 1198 n1198 rfl) (fun _ h9 => h9) rfl (tyX4_ok 9 (by decide)) rfl rfl (Nat.le_of_ble_eq_true rfl) dX5_push_119 (fun H locs hP hD hS => ?_)
      obtain ⟨V21, hV21⟩ : ∃ z, z = up2 V19 76 399 0 := ⟨_, rfl⟩
      have ew22 : (xw ad kk V19 L Z).set (336 + 399) ((Z.fa 399), .inr (4, (xfFrame V19 399).set 9 (.int 0))) = xw ad kk V21 L Z := by rw [hV21]; exact xpFrame_item il6
      have hP : va_P D vwCl (xw ad kk V21 L Z) H := by rw [← ew22]; exact hP
      have hD : va_D A (xw ad kk V21 L Z) := by rw [← ew22]; exact hD
      have hMV21 : rgd bX V21 := hMV19.put hV21 (i_full _)
      have agV21 : agr [(5, 6), (5, 9)] [67, 68, 69, 70, 71, 72, 73, 74, 75, 76, 77, 78, 79, 80, 81, 82, 83, 84, 85] V V21 := agV19.up hV21 rfl
      refine lv_aload hx hb dX5_push_122 (lv_at hl 0 rfl) ?_
      refine lv_iconst (v := 0) hx hb dX5_push_124 (by decide) ?_
      refine va_putN (D := D) (ci := 4) (v := .int 0) (ty := tyX4 16) (fs := (xfFrame V21 399)) (C := RX4) (T := TX4) (N := 19) hx hb hg inX4 tyX4 tyX4_ok nmX4 hown hK hP hD hS (336 + 399) (xgFrame il6) rfl 16 (by decide) (hnw.use 1205 n1205 rfl) (fun _ h9 => h9) rfl (tyX4_ok 16 (by decide)) rfl rfl (Nat.le_of_ble_eq_true rfl) dX5_push_125 (fun H locs hP hD hS => ?_)
      obtain ⟨V23, hV23⟩ : ∃ z, z = up2 V21 83 399 0 := ⟨_, rfl⟩
      have ew24 : (xw ad kk V21 L Z).set (336 + 399) ((Z.fa 399), .inr (4, (xfFrame V21 399).set 16 (.int 0))) = xw ad kk V23 L Z := by rw [hV23]; exact xpFrame_spent il6
      have hP : va_P D vwCl (xw ad kk V23 L Z) H := by rw [← ew24]; exact hP
      have hD : va_D A (xw ad kk V23 L Z) := by rw [← ew24]; exact hD
      have hMV23 : rgd bX V23 := hMV21.put hV23 (show 0 ≤ Int32.toInt 0 ∧ Int32.toInt 0 ≤ 1 from by decide)
      have agV23 : agr [(5, 6), (5, 9)] [67, 68, 69, 70, 71, 72, 73, 74, 75, 76, 77, 78, 79, 80, 81, 82, 83, 84, 85] V V23 := agV21.up hV23 rfl
      refine lv_aload_n hx hb dX5_push_128 rfl (lv_at hl 1 rfl) ?_
      refine lv_iconst (v := 0) hx hb dX5_push_129 (by decide) ?_
      refine va_put (D := D) (ci := 5) (v := .int 0) (ty := tyX5 9) (fs := (xfMachine ad V23 L Z)) (C := RX5) (T := TX5) (N := 15) hx hb hg inX5 tyX5 tyX5_ok nmX5 hown hK hP hD hS 5 xgMachine rfl 9 (by decide) (hg _ w676) (fun _ h9 => h9) rfl (tyX5_ok 9 (by decide)) rfl rfl (Nat.le_of_ble_eq_true rfl) dX5_push_130 (fun H locs hP hD hS => ?_)
      obtain ⟨V25, hV25⟩ : ∃ z, z = up2 V23 5 9 0 := ⟨_, rfl⟩
      have ew26 : (xw ad kk V23 L Z).set 5 ((ad 5), .inr (5, (xfMachine ad V23 L Z).set 9 (.int 0))) = xw ad kk V25 L Z := by rw [hV25]; exact xw_ss (by decide) rfl (xb_si (by decide))
      have hP : va_P D vwCl (xw ad kk V25 L Z) H := by rw [← ew26]; exact hP
      have hD : va_D A (xw ad kk V25 L Z) := by rw [← ew26]; exact hD
      have hMV25 : rgd bX V25 := hMV23.put hV25 (by decide)
      have agV25 : agr [(5, 6), (5, 9)] [67, 68, 69, 70, 71, 72, 73, 74, 75, 76, 77, 78, 79, 80, 81, 82, 83, 84, 85] V V25 := agV23.up hV25 rfl
      refine lv_aload hx hb dX5_push_133 (lv_at hl 0 rfl) ?_
      have pq27 : (V25 5 6).toInt = ((V 5 6)).toInt := congrArg Int32.toInt ((up2_k hV25 (by decide)).trans ((up2_o hV23 (by decide)).trans ((up2_o hV21 (by decide)).trans ((up2_o hV19 (by decide)).trans ((up2_o hV17 (by decide)).trans ((up2_o hV15 (by decide)).trans ((up2_o hV13 (by decide)).trans ((up2_o hV11 (by decide)).trans ((up2_o hV9 (by decide)).trans (up2_o hV7 (by decide)))))))))))
      have pq28 : (V25 5 9).toInt = 0 := (congrArg Int32.toInt (up2_s hV25)).trans (by decide)
      have me29 : ME V V25 399 := (ME.up (ME.up (ME.up (ME.up (ME.up (ME.up (ME.up (ME.up (ME.up (ME.up ME.rf hV7 (Or.inl ⟨by decide, by decide, Nat.le_refl _⟩)) hV9 (Or.inl ⟨by decide, by decide, Nat.le_refl _⟩)) hV11 (Or.inl ⟨by decide, by decide, Nat.le_refl _⟩)) hV13 (Or.inl ⟨by decide, by decide, Nat.le_refl _⟩)) hV15 (Or.inl ⟨by decide, by decide, Nat.le_refl _⟩)) hV17 (Or.inl ⟨by decide, by decide, Nat.le_refl _⟩)) hV19 (Or.inl ⟨by decide, by decide, Nat.le_refl _⟩)) hV21 (Or.inl ⟨by decide, by decide, Nat.le_refl _⟩)) hV23 (Or.inl ⟨by decide, by decide, Nat.le_refl _⟩)) hV25 (Or.inr (by omega)))
      have rp30 : Z.ln = Z.ln ∧ Z.nf ≤ 400 := ⟨rfl, by omega⟩
      refine W.know (fun kr1 kr2 => ?_)
      refine W.widen (k := zcc Z) (n := zss Z) (Nat.sub_le _ _) (Nat.sub_le _ _) ?_
      exact W.aret (v := .ref (Z.fa 399)) hx hb hr (Or.inl ⟨_, rfl⟩) (Or.inr ⟨_, rfl⟩) (fun t ht hW => ⟨⟨(V25, L, Z, 399), rfl, ⟨hMV25, agV25, rfl, zoZ, il6, me29, ⟨((up2_o hV25 (by decide)).trans ((up2_o hV23 (by decide)).trans ((up2_o hV21 (by decide)).trans ((up2_o hV19 (by decide)).trans ((up2_o hV17 (by decide)).trans ((up2_o hV15 (by decide)).trans ((up2_o hV13 (by decide)).trans ((up2_o hV11 (by decide)).trans ((up2_o hV9 (by decide)).trans (up2_s hV7)))))))))), ((up2_o hV25 (by decide)).trans ((up2_o hV23 (by decide)).trans ((up2_o hV21 (by decide)).trans ((up2_o hV19 (by decide)).trans ((up2_o hV17 (by decide)).trans ((up2_o hV15 (by decide)).trans ((up2_o hV13 (by decide)).trans ((up2_o hV11 (by decide)).trans (up2_s hV9))))))))), ((up2_o hV25 (by decide)).trans ((up2_o hV23 (by decide)).trans ((up2_o hV21 (by decide)).trans ((up2_o hV19 (by decide)).trans ((up2_o hV17 (by decide)).trans ((up2_o hV15 (by decide)).trans (up2_s hV13))))))), ((up2_o hV25 (by decide)).trans ((up2_o hV23 (by decide)).trans ((up2_o hV21 (by decide)).trans ((up2_o hV19 (by decide)).trans ((up2_o hV17 (by decide)).trans (up2_s hV15)))))), ((up2_o hV25 (by decide)).trans ((up2_o hV23 (by decide)).trans ((up2_o hV21 (by decide)).trans (up2_s hV19)))), ((up2_o hV25 (by decide)).trans ((up2_o hV23 (by decide)).trans (up2_s hV21)))⟩, (show (399 : Int) + 1 = (V25 5 6).toInt from by (first | exact om_0ad81450c1c5 r1.2 f3 pq27 | omega)), (show (399 : Int) ≤ (V 5 6).toInt ∧ (V 5 6).toInt ≤ (399 : Int) + 1 from by (first | exact om_67f84156d2ff r1.2 f3 | omega)), (show (V25 5 9).toInt = 0 from by (first | exact om_b66ba74381d5 pq28 | omega)), rp30, ⟨((up2_o hV25 (by decide)).trans ((up2_o hV23 (by decide)).trans ((up2_o hV21 (by decide)).trans ((up2_o hV19 (by decide)).trans ((up2_o hV17 (by decide)).trans ((up2_o hV15 (by decide)).trans ((up2_o hV13 (by decide)).trans (up2_s hV11)))))))), ((up2_o hV25 (by decide)).trans ((up2_o hV23 (by decide)).trans ((up2_o hV21 (by decide)).trans ((up2_o hV19 (by decide)).trans (up2_s hV17))))), ((up2_o hV25 (by decide)).trans (up2_s hV23))⟩, (Imp.mk (fun hp => have hp : (V 5 6).toInt < 400 := hp; (show (399 : Int) = (V 5 6).toInt from by omega)))⟩, ⟨by rw [ht]; exact hP, va_K.moved hW.alike hK, hD⟩, by rw [ht]; exact kr1, by rw [ht]; exact kr2⟩, hS.F ht⟩) hS.2.2 dX5_push_135
    · skip
      have f31 : ((V 5 6)).toInt < 400 := b_nle (by decide) rfl c4
      exfalso; (first | exact om_71687dbe419e f3 f31 | omega)
  · skip
    have f32 : ((V 5 6)).toInt < 400 := b_nle (by decide) rfl c2
    refine lv_aload_n hx hb dX5_push_10 rfl (lv_at hl 0 rfl) ?_
    refine va_get (D := D) (ci := 5) (v := .ref (ad 35)) (fs := (xfMachine ad V L Z)) (C := RX5) (T := TX5) (N := 15) hx hb hg inX5 hown hK hP 5 xgMachine rfl 2 (by decide) (hg _ w669) (fun _ h9 => h9) rfl dX5_push_11 ?_
    refine lv_aload_n hx hb dX5_push_14 rfl (lv_at hl 0 rfl) ?_
    refine va_get (D := D) (ci := 5) (v := .int (V 5 6)) (fs := (xfMachine ad V L Z)) (C := RX5) (T := TX5) (N := 15) hx hb hg inX5 hown hK hP 5 xgMachine rfl 6 (by decide) (hg _ w673) (fun _ h9 => h9) rfl dX5_push_15 ?_
    refine va_aldq (D := D) (i := (V 5 6)) hx hb hK hP 35 28 rfl rfl (i_in (a := ((V 5 6)).toInt) rfl (by (first | exact om_d5d4521689a6 r1.1 f32 | omega))) dX5_push_18 ?_
    have kc33 := i_clamp (x := (V 5 6)) rfl (by (first | exact om_eafa9039069c r1.1 | omega))
    by_cases hfn : (Int32.toNatClampNeg (V 5 6)) < Z.nf
    · skip
      refine g_topv (v := .ref (Z.fa (Int32.toNatClampNeg (V 5 6)))) (congrArg va_rf (if_pos hfn)) ?_
      refine lv_ifnonnull (tgt := 38) hx hb dX5_push_19 (by decide) ?_
      refine lv_aload_n hx hb dX5_push_38 rfl (lv_at hl 0 rfl) ?_
      refine va_get (D := D) (ci := 5) (v := .ref (ad 35)) (fs := (xfMachine ad V L Z)) (C := RX5) (T := TX5) (N := 15) hx hb hg inX5 hown hK hP 5 xgMachine rfl 2 (by decide) (hg _ w669) (fun _ h9 => h9) rfl dX5_push_39 ?_
      refine lv_aload_n hx hb dX5_push_42 rfl (lv_at hl 0 rfl) ?_
      refine va_get (D := D) (ci := 5) (v := .int (V 5 6)) (fs := (xfMachine ad V L Z)) (C := RX5) (T := TX5) (N := 15) hx hb hg inX5 hown hK hP 5 xgMachine rfl 6 (by decide) (hg _ w673) (fun _ h9 => h9) rfl dX5_push_43 ?_
      refine lv_sipush (v := 400) hx hb dX5_push_46 (by decide) ?_
      refine lv_icmp_ge (tgt := 66) hx hb dX5_push_49 (by decide) (fun c34 => ?_) (fun c34 => ?_)
      · skip
        have f35 : 400 ≤ ((V 5 6)).toInt := b_le (by decide) rfl c34
        exfalso; (first | exact om_f1788462d221 f32 f35 | omega)
      · skip
        have f36 : ((V 5 6)).toInt < 400 := b_nle (by decide) rfl c34
        refine lv_aload_n hx hb dX5_push_52 rfl (lv_at hl 0 rfl) ?_
        refine lv_dup hx hb dX5_push_53 rfl ?_
        refine va_get (D := D) (ci := 5) (v := .int (V 5 6)) (fs := (xfMachine ad V L Z)) (C := RX5) (T := TX5) (N := 15) hx hb hg inX5 hown hK hP 5 xgMachine rfl 6 (by decide) (hg _ w673) (fun _ h9 => h9) rfl dX5_push_54 ?_
        refine lv_dup_x1 hx hb dX5_push_57 rfl rfl ?_
        refine lv_iconst (v := 1) hx hb dX5_push_58 (by decide) ?_
        refine lv_iadd hx hb dX5_push_59 ?_
        refine lv_topi (fun z37 ez37 => ?_)
        have hz37 : z37.toInt = ((V 5 6)).toInt + 1 := i_add ez37 rfl (by decide) (by (first | exact om_8a7a47e90f89 r1.1 f32 | omega))
        refine va_put (D := D) (ci := 5) (v := .int z37) (ty := tyX5 6) (fs := (xfMachine ad V L Z)) (C := RX5) (T := TX5) (N := 15) hx hb hg inX5 tyX5 tyX5_ok nmX5 hown hK hP hD hS 5 xgMachine rfl 6 (by decide) (hg _ w673) (fun _ h9 => h9) rfl (tyX5_ok 6 (by decide)) rfl rfl (Nat.le_of_ble_eq_true rfl) dX5_push_60 (fun H locs hP hD hS => ?_)
        obtain ⟨V38, hV38⟩ : ∃ z, z = up2 V 5 6 z37 := ⟨_, rfl⟩
        have ew39 : (xw ad kk V L Z).set 5 ((ad 5), .inr (5, (xfMachine ad V L Z).set 6 (.int z37))) = xw ad kk V38 L Z := by rw [hV38]; exact xw_ss (by decide) rfl (xb_si (by decide))
        have hP : va_P D vwCl (xw ad kk V38 L Z) H := by rw [← ew39]; exact hP
        have hD : va_D A (xw ad kk V38 L Z) := by rw [← ew39]; exact hD
        have hMV38 : rgd bX V38 := hMV.put hV38 (show 0 ≤ z37.toInt ∧ z37.toInt ≤ 400 from by (first | exact om_fe57dcb39c04 r1.1 f32 hz37 | omega))
        have agV38 : agr [(5, 6), (5, 9)] [67, 68, 69, 70, 71, 72, 73, 74, 75, 76, 77, 78, 79, 80, 81, 82, 83, 84, 85] V V38 := agV.up hV38 rfl
        refine lv_goto (tgt := 69) hx hb dX5_push_63 (by decide) ?_
        refine va_aldq (D := D) (i := (V 5 6)) hx hb hK hP 35 28 rfl rfl (i_in (a := ((V 5 6)).toInt) rfl (by (first | exact om_d5d4521689a6 r1.1 f32 | omega))) dX5_push_69 ?_
        refine g_topv (v := .ref (Z.fa (Int32.toNatClampNeg (V 5 6)))) (by exact congrArg va_rf (if_pos (by omega))) ?_
        have il40 : (Int32.toNatClampNeg (V 5 6)) < Z.nf := by omega
        refine lv_astore (lv' := [(6, .ref (Z.fa (Int32.toNatClampNeg (V 5 6)))), (0, .ref (ad 5)), (1, .int p0), (2, .int p1), (3, .int p2), (4, .int p3), (5, .int p4)]) hx hb dX5_push_70 hl (by decide) rfl (fun ls hl => ?_)
        refine lv_aload hx hb dX5_push_72 (lv_at hl 0 rfl) ?_
        refine lv_iload_n hx hb dX5_push_74 rfl (lv_at hl 2 rfl) ?_
        refine va_putN (D := D) (ci := 4) (v := .int p0) (ty := tyX4 0) (fs := (xfFrame V38 (Int32.toNatClampNeg (V 5 6)))) (C := RX4) (T := TX4) (N := 19) hx hb hg inX4 tyX4 tyX4_ok nmX4 hown hK hP hD hS (336 + (Int32.toNatClampNeg (V 5 6))) (xgFrame il40) rfl 0 (by decide) (hnw.use 1189 n1189 rfl) (fun _ h9 => h9) rfl (tyX4_ok 0 (by decide)) rfl rfl (Nat.le_of_ble_eq_true rfl) dX5_push_75 (fun H locs hP hD hS => ?_)
        obtain ⟨V41, hV41⟩ : ∃ z, z = up2 V38 67 (Int32.toNatClampNeg (V 5 6)) p0 := ⟨_, rfl⟩
        have ew42 : (xw ad kk V38 L Z).set (336 + (Int32.toNatClampNeg (V 5 6))) ((Z.fa (Int32.toNatClampNeg (V 5 6))), .inr (4, (xfFrame V38 (Int32.toNatClampNeg (V 5 6))).set 0 (.int p0))) = xw ad kk V41 L Z := by rw [hV41]; exact xpFrame_kind il40
        have hP : va_P D vwCl (xw ad kk V41 L Z) H := by rw [← ew42]; exact hP
        have hD : va_D A (xw ad kk V41 L Z) := by rw [← ew42]; exact hD
        have hMV41 : rgd bX V41 := hMV38.put hV41 (i_full _)
        have agV41 : agr [(5, 6), (5, 9)] [67, 68, 69, 70, 71, 72, 73, 74, 75, 76, 77, 78, 79, 80, 81, 82, 83, 84, 85] V V41 := agV38.up hV41 rfl
        refine lv_aload hx hb dX5_push_78 (lv_at hl 0 rfl) ?_
        refine lv_iconst (v := 0) hx hb dX5_push_80 (by decide) ?_
        refine va_putN (D := D) (ci := 4) (v := .int 0) (ty := tyX4 1) (fs := (xfFrame V41 (Int32.toNatClampNeg (V 5 6)))) (C := RX4) (T := TX4) (N := 19) hx hb hg inX4 tyX4 tyX4_ok nmX4 hown hK hP hD hS (336 + (Int32.toNatClampNeg (V 5 6))) (xgFrame il40) rfl 1 (by decide) (hnw.use 1190 n1190 rfl) (fun _ h9 => h9) rfl (tyX4_ok 1 (by decide)) rfl rfl (Nat.le_of_ble_eq_true rfl) dX5_push_81 (fun H locs hP hD hS => ?_)
        obtain ⟨V43, hV43⟩ : ∃ z, z = up2 V41 68 (Int32.toNatClampNeg (V 5 6)) 0 := ⟨_, rfl⟩
        have ew44 : (xw ad kk V41 L Z).set (336 + (Int32.toNatClampNeg (V 5 6))) ((Z.fa (Int32.toNatClampNeg (V 5 6))), .inr (4, (xfFrame V41 (Int32.toNatClampNeg (V 5 6))).set 1 (.int 0))) = xw ad kk V43 L Z := by rw [hV43]; exact xpFrame_phase il40
        have hP : va_P D vwCl (xw ad kk V43 L Z) H := by rw [← ew44]; exact hP
        have hD : va_D A (xw ad kk V43 L Z) := by rw [← ew44]; exact hD
        have hMV43 : rgd bX V43 := hMV41.put hV43 (i_full _)
        have agV43 : agr [(5, 6), (5, 9)] [67, 68, 69, 70, 71, 72, 73, 74, 75, 76, 77, 78, 79, 80, 81, 82, 83, 84, 85] V V43 := agV41.up hV43 rfl
        refine lv_aload hx hb dX5_push_84 (lv_at hl 0 rfl) ?_
        refine lv_iload_n hx hb dX5_push_86 rfl (lv_at hl 3 rfl) ?_
        refine va_putN (D := D) (ci := 4) (v := .int p1) (ty := tyX4 2) (fs := (xfFrame V43 (Int32.toNatClampNeg (V 5 6)))) (C := RX4) (T := TX4) (N := 19) hx hb hg inX4 tyX4 tyX4_ok nmX4 hown hK hP hD hS (336 + (Int32.toNatClampNeg (V 5 6))) (xgFrame il40) rfl 2 (by decide) (hnw.use 1191 n1191 rfl) (fun _ h9 => h9) rfl (tyX4_ok 2 (by decide)) rfl rfl (Nat.le_of_ble_eq_true rfl) dX5_push_87 (fun H locs hP hD hS => ?_)
        obtain ⟨V45, hV45⟩ : ∃ z, z = up2 V43 69 (Int32.toNatClampNeg (V 5 6)) p1 := ⟨_, rfl⟩
        have ew46 : (xw ad kk V43 L Z).set (336 + (Int32.toNatClampNeg (V 5 6))) ((Z.fa (Int32.toNatClampNeg (V 5 6))), .inr (4, (xfFrame V43 (Int32.toNatClampNeg (V 5 6))).set 2 (.int p1))) = xw ad kk V45 L Z := by rw [hV45]; exact xpFrame_level il40
        have hP : va_P D vwCl (xw ad kk V45 L Z) H := by rw [← ew46]; exact hP
        have hD : va_D A (xw ad kk V45 L Z) := by rw [← ew46]; exact hD
        have hMV45 : rgd bX V45 := hMV43.put hV45 (i_full _)
        have agV45 : agr [(5, 6), (5, 9)] [67, 68, 69, 70, 71, 72, 73, 74, 75, 76, 77, 78, 79, 80, 81, 82, 83, 84, 85] V V45 := agV43.up hV45 rfl
        refine lv_aload hx hb dX5_push_90 (lv_at hl 0 rfl) ?_
        refine lv_iload_n hx hb dX5_push_92 rfl (lv_at hl 4 rfl) ?_
        refine va_putN (D := D) (ci := 4) (v := .int p2) (ty := tyX4 3) (fs := (xfFrame V45 (Int32.toNatClampNeg (V 5 6)))) (C := RX4) (T := TX4) (N := 19) hx hb hg inX4 tyX4 tyX4_ok nmX4 hown hK hP hD hS (336 + (Int32.toNatClampNeg (V 5 6))) (xgFrame il40) rfl 3 (by decide) (hnw.use 1192 n1192 rfl) (fun _ h9 => h9) rfl (tyX4_ok 3 (by decide)) rfl rfl (Nat.le_of_ble_eq_true rfl) dX5_push_93 (fun H locs hP hD hS => ?_)
        obtain ⟨V47, hV47⟩ : ∃ z, z = up2 V45 70 (Int32.toNatClampNeg (V 5 6)) p2 := ⟨_, rfl⟩
        have ew48 : (xw ad kk V45 L Z).set (336 + (Int32.toNatClampNeg (V 5 6))) ((Z.fa (Int32.toNatClampNeg (V 5 6))), .inr (4, (xfFrame V45 (Int32.toNatClampNeg (V 5 6))).set 3 (.int p2))) = xw ad kk V47 L Z := by rw [hV47]; exact xpFrame_object il40
        have hP : va_P D vwCl (xw ad kk V47 L Z) H := by rw [← ew48]; exact hP
        have hD : va_D A (xw ad kk V47 L Z) := by rw [← ew48]; exact hD
        have hMV47 : rgd bX V47 := hMV45.put hV47 (i_full _)
        have agV47 : agr [(5, 6), (5, 9)] [67, 68, 69, 70, 71, 72, 73, 74, 75, 76, 77, 78, 79, 80, 81, 82, 83, 84, 85] V V47 := agV45.up hV47 rfl
        refine lv_aload hx hb dX5_push_96 (lv_at hl 0 rfl) ?_
        refine lv_iload hx hb dX5_push_98 (lv_at hl 5 rfl) ?_
        refine va_putN (D := D) (ci := 4) (v := .int p3) (ty := tyX4 4) (fs := (xfFrame V47 (Int32.toNatClampNeg (V 5 6)))) (C := RX4) (T := TX4) (N := 19) hx hb hg inX4 tyX4 tyX4_ok nmX4 hown hK hP hD hS (336 + (Int32.toNatClampNeg (V 5 6))) (xgFrame il40) rfl 4 (by decide) (hnw.use 1193 n1193 rfl) (fun _ h9 => h9) rfl (tyX4_ok 4 (by decide)) rfl rfl (Nat.le_of_ble_eq_true rfl) dX5_push_100 (fun H locs hP hD hS => ?_)
        obtain ⟨V49, hV49⟩ : ∃ z, z = up2 V47 71 (Int32.toNatClampNeg (V 5 6)) p3 := ⟨_, rfl⟩
        have ew50 : (xw ad kk V47 L Z).set (336 + (Int32.toNatClampNeg (V 5 6))) ((Z.fa (Int32.toNatClampNeg (V 5 6))), .inr (4, (xfFrame V47 (Int32.toNatClampNeg (V 5 6))).set 4 (.int p3))) = xw ad kk V49 L Z := by rw [hV49]; exact xpFrame_component il40
        have hP : va_P D vwCl (xw ad kk V49 L Z) H := by rw [← ew50]; exact hP
        have hD : va_D A (xw ad kk V49 L Z) := by rw [← ew50]; exact hD
        have hMV49 : rgd bX V49 := hMV47.put hV49 (show (-1) ≤ p3.toInt ∧ p3.toInt ≤ 23 from by (first | exact om_b5ea211f5a81 rg_p3.1 rg_p3.2 | omega))
        have agV49 : agr [(5, 6), (5, 9)] [67, 68, 69, 70, 71, 72, 73, 74, 75, 76, 77, 78, 79, 80, 81, 82, 83, 84, 85] V V49 := agV47.up hV49 rfl
        refine lv_aload hx hb dX5_push_103 (lv_at hl 0 rfl) ?_
        refine lv_iload hx hb dX5_push_105 (lv_at hl 6 rfl) ?_
        refine va_putN (D := D) (ci := 4) (v := .int p4) (ty := tyX4 5) (fs := (xfFrame V49 (Int32.toNatClampNeg (V 5 6)))) (C := RX4) (T := TX4) (N := 19) hx hb hg inX4 tyX4 tyX4_ok nmX4 hown hK hP hD hS (336 + (Int32.toNatClampNeg (V 5 6))) (xgFrame il40) rfl 5 (by decide) (hnw.use 1194 n1194 rfl) (fun _ h9 => h9) rfl (tyX4_ok 5 (by decide)) rfl rfl (Nat.le_of_ble_eq_true rfl) dX5_push_107 (fun H locs hP hD hS => ?_)
        obtain ⟨V51, hV51⟩ : ∃ z, z = up2 V49 72 (Int32.toNatClampNeg (V 5 6)) p4 := ⟨_, rfl⟩
        have ew52 : (xw ad kk V49 L Z).set (336 + (Int32.toNatClampNeg (V 5 6))) ((Z.fa (Int32.toNatClampNeg (V 5 6))), .inr (4, (xfFrame V49 (Int32.toNatClampNeg (V 5 6))).set 5 (.int p4))) = xw ad kk V51 L Z := by rw [hV51]; exact xpFrame_scope il40
        have hP : va_P D vwCl (xw ad kk V51 L Z) H := by rw [← ew52]; exact hP
        have hD : va_D A (xw ad kk V51 L Z) := by rw [← ew52]; exact hD
        have hMV51 : rgd bX V51 := hMV49.put hV51 (show 0 ≤ p4.toInt ∧ p4.toInt ≤ 39 from by (first | exact om_13ba01c174fe rg_p4.1 rg_p4.2 | omega))
        have agV51 : agr [(5, 6), (5, 9)] [67, 68, 69, 70, 71, 72, 73, 74, 75, 76, 77, 78, 79, 80, 81, 82, 83, 84, 85] V V51 := agV49.up hV51 rfl
        refine lv_aload hx hb dX5_push_110 (lv_at hl 0 rfl) ?_
        refine lv_iconst (v := 0) hx hb dX5_push_112 (by decide) ?_
        refine va_putN (D := D) (ci := 4) (v := .int 0) (ty := tyX4 8) (fs := (xfFrame V51 (Int32.toNatClampNeg (V 5 6)))) (C := RX4) (T := TX4) (N := 19) hx hb hg inX4 tyX4 tyX4_ok nmX4 hown hK hP hD hS (336 + (Int32.toNatClampNeg (V 5 6))) (xgFrame il40) rfl 8 (by decide) (hnw.use 1197 n1197 rfl) (fun _ h9 => h9) rfl (tyX4_ok 8 (by decide)) rfl rfl (Nat.le_of_ble_eq_true rfl) dX5_push_113 (fun H locs hP hD hS => ?_)
        obtain ⟨V53, hV53⟩ : ∃ z, z = up2 V51 75 (Int32.toNatClampNeg (V 5 6)) 0 := ⟨_, rfl⟩
        have ew54 : (xw ad kk V51 L Z).set (336 + (Int32.toNatClampNeg (V 5 6))) ((Z.fa (Int32.toNatClampNeg (V 5 6))), .inr (4, (xfFrame V51 (Int32.toNatClampNeg (V 5 6))).set 8 (.int 0))) = xw ad kk V53 L Z := by rw [hV53]; exact xpFrame_position il40
        have hP : va_P D vwCl (xw ad kk V53 L Z) H := by rw [← ew54]; exact hP
        have hD : va_D A (xw ad kk V53 L Z) := by rw [← ew54]; exact hD
        have hMV53 : rgd bX V53 := hMV51.put hV53 (show 0 ≤ Int32.toInt 0 ∧ Int32.toInt 0 ≤ 12 from by decide)
        have agV53 : agr [(5, 6), (5, 9)] [67, 68, 69, 70, 71, 72, 73, 74, 75, 76, 77, 78, 79, 80, 81, 82, 83, 84, 85] V V53 := agV51.up hV53 rfl
        refine lv_aload hx hb dX5_push_116 (lv_at hl 0 rfl) ?_
        refine lv_iconst (v := 0) hx hb dX5_push_118 (by decide) ?_
        refine va_putN (D := D) (ci := 4) (v := .int 0) (ty := tyX4 9) (fs := (xfFrame V53 (Int32.toNatClampNeg (V 5 6)))) (C := RX4) (T := TX4) (N := 19) hx hb hg inX4 tyX4 tyX4_ok nmX4 hown hK hP hD hS (336 + (Int32.toNatClampNeg (V 5 6))) (xgFrame il40) rfl 9 (by decide) (hnw.use 1198 n1198 rfl) (fun _ h9 => h9) rfl (tyX4_ok 9 (by decide)) rfl rfl (Nat.le_of_ble_eq_true rfl) dX5_push_119 (fun H locs hP hD hS => ?_)
        obtain ⟨V55, hV55⟩ : ∃ z, z = up2 V53 76 (Int32.toNatClampNeg (V 5 6)) 0 := ⟨_, rfl⟩
        have ew56 : (xw ad kk V53 L Z).set (336 + (Int32.toNatClampNeg (V 5 6))) ((Z.fa (Int32.toNatClampNeg (V 5 6))), .inr (4, (xfFrame V53 (Int32.toNatClampNeg (V 5 6))).set 9 (.int 0))) = xw ad kk V55 L Z := by rw [hV55]; exact xpFrame_item il40
        have hP : va_P D vwCl (xw ad kk V55 L Z) H := by rw [← ew56]; exact hP
        have hD : va_D A (xw ad kk V55 L Z) := by rw [← ew56]; exact hD
        have hMV55 : rgd bX V55 := hMV53.put hV55 (i_full _)
        have agV55 : agr [(5, 6), (5, 9)] [67, 68, 69, 70, 71, 72, 73, 74, 75, 76, 77, 78, 79, 80, 81, 82, 83, 84, 85] V V55 := agV53.up hV55 rfl
        refine lv_aload hx hb dX5_push_122 (lv_at hl 0 rfl) ?_
        refine lv_iconst (v := 0) hx hb dX5_push_124 (by decide) ?_
        refine va_putN (D := D) (ci := 4) (v := .int 0) (ty := tyX4 16) (fs := (xfFrame V55 (Int32.toNatClampNeg (V 5 6)))) (C := RX4) (T := TX4) (N := 19) hx hb hg inX4 tyX4 tyX4_ok nmX4 hown hK hP hD hS (336 + (Int32.toNatClampNeg (V 5 6))) (xgFrame il40) rfl 16 (by decide) (hnw.use 1205 n1205 rfl) (fun _ h9 => h9) rfl (tyX4_ok 16 (by decide)) rfl rfl (Nat.le_of_ble_eq_true rfl) dX5_push_125 (fun H locs hP hD hS => ?_)
        obtain ⟨V57, hV57⟩ : ∃ z, z = up2 V55 83 (Int32.toNatClampNeg (V 5 6)) 0 := ⟨_, rfl⟩
        have ew58 : (xw ad kk V55 L Z).set (336 + (Int32.toNatClampNeg (V 5 6))) ((Z.fa (Int32.toNatClampNeg (V 5 6))), .inr (4, (xfFrame V55 (Int32.toNatClampNeg (V 5 6))).set 16 (.int 0))) = xw ad kk V57 L Z := by rw [hV57]; exact xpFrame_spent il40
        have hP : va_P D vwCl (xw ad kk V57 L Z) H := by rw [← ew58]; exact hP
        have hD : va_D A (xw ad kk V57 L Z) := by rw [← ew58]; exact hD
        have hMV57 : rgd bX V57 := hMV55.put hV57 (show 0 ≤ Int32.toInt 0 ∧ Int32.toInt 0 ≤ 1 from by decide)
        have agV57 : agr [(5, 6), (5, 9)] [67, 68, 69, 70, 71, 72, 73, 74, 75, 76, 77, 78, 79, 80, 81, 82, 83, 84, 85] V V57 := agV55.up hV57 rfl
        refine lv_aload_n hx hb dX5_push_128 rfl (lv_at hl 1 rfl) ?_
        refine lv_iconst (v := 0) hx hb dX5_push_129 (by decide) ?_
        refine va_put (D := D) (ci := 5) (v := .int 0) (ty := tyX5 9) (fs := (xfMachine ad V57 L Z)) (C := RX5) (T := TX5) (N := 15) hx hb hg inX5 tyX5 tyX5_ok nmX5 hown hK hP hD hS 5 xgMachine rfl 9 (by decide) (hg _ w676) (fun _ h9 => h9) rfl (tyX5_ok 9 (by decide)) rfl rfl (Nat.le_of_ble_eq_true rfl) dX5_push_130 (fun H locs hP hD hS => ?_)
        obtain ⟨V59, hV59⟩ : ∃ z, z = up2 V57 5 9 0 := ⟨_, rfl⟩
        have ew60 : (xw ad kk V57 L Z).set 5 ((ad 5), .inr (5, (xfMachine ad V57 L Z).set 9 (.int 0))) = xw ad kk V59 L Z := by rw [hV59]; exact xw_ss (by decide) rfl (xb_si (by decide))
        have hP : va_P D vwCl (xw ad kk V59 L Z) H := by rw [← ew60]; exact hP
        have hD : va_D A (xw ad kk V59 L Z) := by rw [← ew60]; exact hD
        have hMV59 : rgd bX V59 := hMV57.put hV59 (by decide)
        have agV59 : agr [(5, 6), (5, 9)] [67, 68, 69, 70, 71, 72, 73, 74, 75, 76, 77, 78, 79, 80, 81, 82, 83, 84, 85] V V59 := agV57.up hV59 rfl
        refine lv_aload hx hb dX5_push_133 (lv_at hl 0 rfl) ?_
        have pq61 : (V59 5 6).toInt = z37.toInt := congrArg Int32.toInt ((up2_k hV59 (by decide)).trans ((up2_o hV57 (by decide)).trans ((up2_o hV55 (by decide)).trans ((up2_o hV53 (by decide)).trans ((up2_o hV51 (by decide)).trans ((up2_o hV49 (by decide)).trans ((up2_o hV47 (by decide)).trans ((up2_o hV45 (by decide)).trans ((up2_o hV43 (by decide)).trans ((up2_o hV41 (by decide)).trans (up2_s hV38)))))))))))
        have pq62 : (V59 5 9).toInt = 0 := (congrArg Int32.toInt (up2_s hV59)).trans (by decide)
        have me63 : ME V V59 (Int32.toNatClampNeg (V 5 6)) := (ME.up (ME.up (ME.up (ME.up (ME.up (ME.up (ME.up (ME.up (ME.up (ME.up (ME.up ME.rf hV38 (Or.inr (by omega))) hV41 (Or.inl ⟨by decide, by decide, Nat.le_refl _⟩)) hV43 (Or.inl ⟨by decide, by decide, Nat.le_refl _⟩)) hV45 (Or.inl ⟨by decide, by decide, Nat.le_refl _⟩)) hV47 (Or.inl ⟨by decide, by decide, Nat.le_refl _⟩)) hV49 (Or.inl ⟨by decide, by decide, Nat.le_refl _⟩)) hV51 (Or.inl ⟨by decide, by decide, Nat.le_refl _⟩)) hV53 (Or.inl ⟨by decide, by decide, Nat.le_refl _⟩)) hV55 (Or.inl ⟨by decide, by decide, Nat.le_refl _⟩)) hV57 (Or.inl ⟨by decide, by decide, Nat.le_refl _⟩)) hV59 (Or.inr (by omega)))
        have rp64 : Z.ln = Z.ln ∧ Z.nf ≤ 400 := ⟨rfl, by omega⟩
        refine W.know (fun kr1 kr2 => ?_)
        refine W.widen (k := zcc Z) (n := zss Z) (Nat.sub_le _ _) (Nat.sub_le _ _) ?_
        exact W.aret (v := .ref (Z.fa (Int32.toNatClampNeg (V 5 6)))) hx hb hr (Or.inl ⟨_, rfl⟩) (Or.inr ⟨_, rfl⟩) (fun t ht hW => ⟨⟨(V59, L, Z, (Int32.toNatClampNeg (V 5 6))), rfl, ⟨hMV59, agV59, rfl, zoZ, il40, me63, ⟨((up2_o hV59 (by decide)).trans ((up2_o hV57 (by decide)).trans ((up2_o hV55 (by decide)).trans ((up2_o hV53 (by decide)).trans ((up2_o hV51 (by decide)).trans ((up2_o hV49 (by decide)).trans ((up2_o hV47 (by decide)).trans ((up2_o hV45 (by decide)).trans ((up2_o hV43 (by decide)).trans (up2_s hV41)))))))))), ((up2_o hV59 (by decide)).trans ((up2_o hV57 (by decide)).trans ((up2_o hV55 (by decide)).trans ((up2_o hV53 (by decide)).trans ((up2_o hV51 (by decide)).trans ((up2_o hV49 (by decide)).trans ((up2_o hV47 (by decide)).trans ((up2_o hV45 (by decide)).trans (up2_s hV43))))))))), ((up2_o hV59 (by decide)).trans ((up2_o hV57 (by decide)).trans ((up2_o hV55 (by decide)).trans ((up2_o hV53 (by decide)).trans ((up2_o hV51 (by decide)).trans ((up2_o hV49 (by decide)).trans (up2_s hV47))))))), ((up2_o hV59 (by decide)).trans ((up2_o hV57 (by decide)).trans ((up2_o hV55 (by decide)).trans ((up2_o hV53 (by decide)).trans ((up2_o hV51 (by decide)).trans (up2_s hV49)))))), ((up2_o hV59 (by decide)).trans ((up2_o hV57 (by decide)).trans ((up2_o hV55 (by decide)).trans (up2_s hV53)))), ((up2_o hV59 (by decide)).trans ((up2_o hV57 (by decide)).trans (up2_s hV55)))⟩, (show ((Int32.toNatClampNeg (V 5 6)) : Int) + 1 = (V59 5 6).toInt from by (first | exact om_b4017f2d8f07 kc33 hz37 pq61 | omega)), (show ((Int32.toNatClampNeg (V 5 6)) : Int) ≤ (V 5 6).toInt ∧ (V 5 6).toInt ≤ ((Int32.toNatClampNeg (V 5 6)) : Int) + 1 from by (first | exact om_ceb1c66e0444 kc33 | omega)), (show (V59 5 9).toInt = 0 from by (first | exact om_b66ba74381d5 pq62 | omega)), rp64, ⟨((up2_o hV59 (by decide)).trans ((up2_o hV57 (by decide)).trans ((up2_o hV55 (by decide)).trans ((up2_o hV53 (by decide)).trans ((up2_o hV51 (by decide)).trans ((up2_o hV49 (by decide)).trans ((up2_o hV47 (by decide)).trans (up2_s hV45)))))))), ((up2_o hV59 (by decide)).trans ((up2_o hV57 (by decide)).trans ((up2_o hV55 (by decide)).trans ((up2_o hV53 (by decide)).trans (up2_s hV51))))), ((up2_o hV59 (by decide)).trans (up2_s hV57))⟩, (Imp.mk (fun hp => have hp : (V 5 6).toInt < 400 := hp; (show ((Int32.toNatClampNeg (V 5 6)) : Int) = (V 5 6).toInt from by (first | exact om_639da7453e33 kc33 | omega))))⟩, ⟨by rw [ht]; exact hP, va_K.moved hW.alike hK, hD⟩, by rw [ht]; exact kr1, by rw [ht]; exact kr2⟩, hS.F ht⟩) hS.2.2 dX5_push_135
    · skip
      refine g_topv (v := .null) (congrArg va_rf (if_neg hfn)) ?_
      refine lv_ifnonnullN hx hb dX5_push_19 ?_
      refine lv_aload_n hx hb dX5_push_22 rfl (lv_at hl 0 rfl) ?_
      refine va_get (D := D) (ci := 5) (v := .ref (ad 35)) (fs := (xfMachine ad V L Z)) (C := RX5) (T := TX5) (N := 15) hx hb hg inX5 hown hK hP 5 xgMachine rfl 2 (by decide) (hg _ w669) (fun _ h9 => h9) rfl dX5_push_23 ?_
      refine lv_aload_n hx hb dX5_push_26 rfl (lv_at hl 0 rfl) ?_
      refine va_get (D := D) (ci := 5) (v := .int (V 5 6)) (fs := (xfMachine ad V L Z)) (C := RX5) (T := TX5) (N := 15) hx hb hg inX5 hown hK hP 5 xgMachine rfl 6 (by decide) (hg _ w673) (fun _ h9 => h9) rfl dX5_push_27 ?_
      have zm := zc_more (Z := Z) (by omega)
      have zm0 := zm 0
      refine va_new (ci := 4) (fs := [.int 0, .int 0, .int 0, .int 0, .int 0, .int 0, .int 0, .int 0, .int 0, .int 0, .int 0, .int 0, .int 0, .int 0, .int 0, .int 0, .int 0, .int 0, .int 0]) (C := RX4) (T := TX4) (N := 19) hx hb hg inX4 tyX4 tyX4_ok hown (hg _ w665) (hg _ w1184) (hg _ w180) hK hP hD hS hA rfl nfX4 (by show zcc Z - zcc Z + 1 ≤ zcc Z; omega) (by show zss Z - zss Z + 19 ≤ zss Z; omega) dX5_push_30 (fun qn H hP hD hS => ?_)
      refine lv_dup hx hb dX5_push_33 rfl ?_
      refine gE_void (g_runIN (As := []) (rest := [.ref qn, .int (V 5 6), .ref (ad 35)]) (wc := []) (tc := []) hx hb hml hown hg gw_self hP hD hK hS hA hnw hgk [] [] (by decide) rfl rfl (c_Frame_init l D ks H.size qn) n1185 w1186 w180 w1187 rfl hdS_yX4_init ⟨Nat.le_of_ble_eq_true rfl, Nat.le_of_ble_eq_true rfl⟩ rfl hl.1 rfl (Nat.le_of_ble_eq_true rfl) dX5_push_34 ⟨(by show zcc Z - zcc Z + 1 + 0 ≤ zcc Z; omega), (by show zss Z - zss Z + 19 + 0 ≤ zss Z; omega)⟩) hP hD hK hS hA (fun _ H locs _ hP hD hK hS => ?_)
      have kcn : (Int32.toNatClampNeg (V 5 6)) = Z.nf := by omega
      refine va_astq (D := D) (i := (V 5 6)) (v := qn) (r := (RX4, TX4, 19)) hx hb hK hP hD hS 35 28 (336 + Z.nf) 4 rfl rfl xw_new rfl (i_in (a := ((V 5 6)).toInt) rfl (by omega)) dX5_push_37 (fun H locs hP hD hS => ?_)
      obtain ⟨Z66, hZ66⟩ : ∃ z, z = Z.more qn := ⟨_, rfl⟩
      obtain ⟨V65, hV65⟩ : ∃ z, z = frz V Z.nf := ⟨_, rfl⟩
      have hP : va_P D vwCl (xw ad kk V65 L Z66) H := by rw [hZ66, hV65, ← xw_frz2 kcn]; exact hP
      have hD : va_D A (xw ad kk V65 L Z66) := by rw [hZ66, hV65, ← xw_frz2 kcn]; exact hD
      have hK : va_K D vwCl (xty kk Z66) s := by rw [hZ66]; exact hK
      have hMV65 : rgd bX V65 := by rw [hV65]; exact rgd_frz hMV
      have ajV65 : agr [] [67, 68, 69, 70, 71, 72, 73, 74, 75, 76, 77, 78, 79, 80, 81, 82, 83, 84, 85] V V65 := by rw [hV65]; exact frz_ag
      have agV65 : agr [(5, 6), (5, 9)] [67, 68, 69, 70, 71, 72, 73, 74, 75, 76, 77, 78, 79, 80, 81, 82, 83, 84, 85] V V65 := agV.tr ajV65 (by decide) (by decide)
      have zmq := zm qn
      have zcZ66 : zcc Z66 + 1 = zcc Z := by rw [hZ66]; exact zmq.1
      have zsZ66 : zss Z66 + 19 = zss Z := by rw [hZ66]; exact zmq.2
      have zlZ66 : ZL Z Z66 := by rw [hZ66]; exact ZL.more (by omega)
      have zoZ66 : ZL Z Z66 := zlZ66
      have zkZ66 : Z66.nf = Z.nf + 1 := by rw [hZ66]; rfl
      have zgZ66 : Z66.ln = Z.ln := by rw [hZ66]; rfl
      refine W.know (fun kx1 kx2 => ?_)
      have kx1 : H.size ≤ s.heap.size + (zcc Z - zcc Z + 1) := kx1
      have kx2 : tot H ≤ tot s.heap + (zss Z - zss Z + 19) := kx2
      refine W.tight (k := zcc Z - zcc Z66) (n := zss Z - zss Z66) (by omega) (by omega) ?_
      refine lv_aload_n hx hb dX5_push_38 rfl (lv_at hl 0 rfl) ?_
      refine va_get (D := D) (ci := 5) (v := .ref (ad 35)) (fs := (xfMachine ad V65 L Z66)) (C := RX5) (T := TX5) (N := 15) hx hb hg inX5 hown hK hP 5 xgMachine rfl 2 (by decide) (hg _ w669) (fun _ h9 => h9) rfl dX5_push_39 ?_
      refine lv_aload_n hx hb dX5_push_42 rfl (lv_at hl 0 rfl) ?_
      refine va_get (D := D) (ci := 5) (v := .int (V65 5 6)) (fs := (xfMachine ad V65 L Z66)) (C := RX5) (T := TX5) (N := 15) hx hb hg inX5 hown hK hP 5 xgMachine rfl 6 (by decide) (hg _ w673) (fun _ h9 => h9) rfl dX5_push_43 ?_
      refine g_top (v := (V 5 6)) (ajV65 5 6 rfl) ?_
      refine lv_sipush (v := 400) hx hb dX5_push_46 (by decide) ?_
      refine lv_icmp_ge (tgt := 66) hx hb dX5_push_49 (by decide) (fun c67 => ?_) (fun c67 => ?_)
      · skip
        have f68 : 400 ≤ ((V 5 6)).toInt := b_le (by decide) rfl c67
        exfalso; (first | exact om_f1788462d221 f32 f68 | omega)
      · skip
        have f69 : ((V 5 6)).toInt < 400 := b_nle (by decide) rfl c67
        refine lv_aload_n hx hb dX5_push_52 rfl (lv_at hl 0 rfl) ?_
        refine lv_dup hx hb dX5_push_53 rfl ?_
        refine va_get (D := D) (ci := 5) (v := .int (V65 5 6)) (fs := (xfMachine ad V65 L Z66)) (C := RX5) (T := TX5) (N := 15) hx hb hg inX5 hown hK hP 5 xgMachine rfl 6 (by decide) (hg _ w673) (fun _ h9 => h9) rfl dX5_push_54 ?_
        refine g_top (v := (V 5 6)) (ajV65 5 6 rfl) ?_
        refine lv_dup_x1 hx hb dX5_push_57 rfl rfl ?_
        refine lv_iconst (v := 1) hx hb dX5_push_58 (by decide) ?_
        refine lv_iadd hx hb dX5_push_59 ?_
        refine lv_topi (fun z70 ez70 => ?_)
        have hz70 : z70.toInt = ((V 5 6)).toInt + 1 := i_add ez70 rfl (by decide) (by (first | exact om_d5ec5fa1ac53 kdp f32 kcn | omega))
        refine va_put (D := D) (ci := 5) (v := .int z70) (ty := tyX5 6) (fs := (xfMachine ad V65 L Z66)) (C := RX5) (T := TX5) (N := 15) hx hb hg inX5 tyX5 tyX5_ok nmX5 hown hK hP hD hS 5 xgMachine rfl 6 (by decide) (hg _ w673) (fun _ h9 => h9) rfl (tyX5_ok 6 (by decide)) rfl rfl (Nat.le_of_ble_eq_true rfl) dX5_push_60 (fun H locs hP hD hS => ?_)
        obtain ⟨V71, hV71⟩ : ∃ z, z = up2 V65 5 6 z70 := ⟨_, rfl⟩
        have ew72 : (xw ad kk V65 L Z66).set 5 ((ad 5), .inr (5, (xfMachine ad V65 L Z66).set 6 (.int z70))) = xw ad kk V71 L Z66 := by rw [hV71]; exact xw_ss (by decide) rfl (xb_si (by decide))
        have hP : va_P D vwCl (xw ad kk V71 L Z66) H := by rw [← ew72]; exact hP
        have hD : va_D A (xw ad kk V71 L Z66) := by rw [← ew72]; exact hD
        have hMV71 : rgd bX V71 := hMV65.put hV71 (show 0 ≤ z70.toInt ∧ z70.toInt ≤ 400 from by (first | exact om_30e08f75bde7 kdp f32 kcn hz70 | omega))
        have agV71 : agr [(5, 6), (5, 9)] [67, 68, 69, 70, 71, 72, 73, 74, 75, 76, 77, 78, 79, 80, 81, 82, 83, 84, 85] V V71 := agV65.up hV71 rfl
        refine lv_goto (tgt := 69) hx hb dX5_push_63 (by decide) ?_
        refine va_aldq (D := D) (i := (V 5 6)) hx hb hK hP 35 28 rfl rfl (i_in (a := ((V 5 6)).toInt) rfl (by (first | exact om_6ce50590c6c7 kdp f32 kcn | omega))) dX5_push_69 ?_
        refine g_topv (v := .ref (Z66.fa (Int32.toNatClampNeg (V 5 6)))) (by exact congrArg va_rf (if_pos (by omega))) ?_
        have il73 : (Int32.toNatClampNeg (V 5 6)) < Z66.nf := by (first | exact om_843ad58ddfba kcn zkZ66 | omega)
        refine lv_astore (lv' := [(6, .ref (Z66.fa (Int32.toNatClampNeg (V 5 6)))), (0, .ref (ad 5)), (1, .int p0), (2, .int p1), (3, .int p2), (4, .int p3), (5, .int p4)]) hx hb dX5_push_70 hl (by decide) rfl (fun ls hl => ?_)
        refine lv_aload hx hb dX5_push_72 (lv_at hl 0 rfl) ?_
        refine lv_iload_n hx hb dX5_push_74 rfl (lv_at hl 2 rfl) ?_
        refine va_putN (D := D) (ci := 4) (v := .int p0) (ty := tyX4 0) (fs := (xfFrame V71 (Int32.toNatClampNeg (V 5 6)))) (C := RX4) (T := TX4) (N := 19) hx hb hg inX4 tyX4 tyX4_ok nmX4 hown hK hP hD hS (336 + (Int32.toNatClampNeg (V 5 6))) (xgFrame il73) rfl 0 (by decide) (hnw.use 1189 n1189 rfl) (fun _ h9 => h9) rfl (tyX4_ok 0 (by decide)) rfl rfl (Nat.le_of_ble_eq_true rfl) dX5_push_75 (fun H locs hP hD hS => ?_)
        obtain ⟨V74, hV74⟩ : ∃ z, z = up2 V71 67 (Int32.toNatClampNeg (V 5 6)) p0 := ⟨_, rfl⟩
        have ew75 : (xw ad kk V71 L Z66).set (336 + (Int32.toNatClampNeg (V 5 6))) ((Z66.fa (Int32.toNatClampNeg (V 5 6))), .inr (4, (xfFrame V71 (Int32.toNatClampNeg (V 5 6))).set 0 (.int p0))) = xw ad kk V74 L Z66 := by rw [hV74]; exact xpFrame_kind il73
        have hP : va_P D vwCl (xw ad kk V74 L Z66) H := by rw [← ew75]; exact hP
        have hD : va_D A (xw ad kk V74 L Z66) := by rw [← ew75]; exact hD
        have hMV74 : rgd bX V74 := hMV71.put hV74 (i_full _)
        have agV74 : agr [(5, 6), (5, 9)] [67, 68, 69, 70, 71, 72, 73, 74, 75, 76, 77, 78, 79, 80, 81, 82, 83, 84, 85] V V74 := agV71.up hV74 rfl
        refine lv_aload hx hb dX5_push_78 (lv_at hl 0 rfl) ?_
        refine lv_iconst (v := 0) hx hb dX5_push_80 (by decide) ?_
        refine va_putN (D := D) (ci := 4) (v := .int 0) (ty := tyX4 1) (fs := (xfFrame V74 (Int32.toNatClampNeg (V 5 6)))) (C := RX4) (T := TX4) (N := 19) hx hb hg inX4 tyX4 tyX4_ok nmX4 hown hK hP hD hS (336 + (Int32.toNatClampNeg (V 5 6))) (xgFrame il73) rfl 1 (by decide) (hnw.use 1190 n1190 rfl) (fun _ h9 => h9) rfl (tyX4_ok 1 (by decide)) rfl rfl (Nat.le_of_ble_eq_true rfl) dX5_push_81 (fun H locs hP hD hS => ?_)
        obtain ⟨V76, hV76⟩ : ∃ z, z = up2 V74 68 (Int32.toNatClampNeg (V 5 6)) 0 := ⟨_, rfl⟩
        have ew77 : (xw ad kk V74 L Z66).set (336 + (Int32.toNatClampNeg (V 5 6))) ((Z66.fa (Int32.toNatClampNeg (V 5 6))), .inr (4, (xfFrame V74 (Int32.toNatClampNeg (V 5 6))).set 1 (.int 0))) = xw ad kk V76 L Z66 := by rw [hV76]; exact xpFrame_phase il73
        have hP : va_P D vwCl (xw ad kk V76 L Z66) H := by rw [← ew77]; exact hP
        have hD : va_D A (xw ad kk V76 L Z66) := by rw [← ew77]; exact hD
        have hMV76 : rgd bX V76 := hMV74.put hV76 (i_full _)
        have agV76 : agr [(5, 6), (5, 9)] [67, 68, 69, 70, 71, 72, 73, 74, 75, 76, 77, 78, 79, 80, 81, 82, 83, 84, 85] V V76 := agV74.up hV76 rfl
        refine lv_aload hx hb dX5_push_84 (lv_at hl 0 rfl) ?_
        refine lv_iload_n hx hb dX5_push_86 rfl (lv_at hl 3 rfl) ?_
        refine va_putN (D := D) (ci := 4) (v := .int p1) (ty := tyX4 2) (fs := (xfFrame V76 (Int32.toNatClampNeg (V 5 6)))) (C := RX4) (T := TX4) (N := 19) hx hb hg inX4 tyX4 tyX4_ok nmX4 hown hK hP hD hS (336 + (Int32.toNatClampNeg (V 5 6))) (xgFrame il73) rfl 2 (by decide) (hnw.use 1191 n1191 rfl) (fun _ h9 => h9) rfl (tyX4_ok 2 (by decide)) rfl rfl (Nat.le_of_ble_eq_true rfl) dX5_push_87 (fun H locs hP hD hS => ?_)
        obtain ⟨V78, hV78⟩ : ∃ z, z = up2 V76 69 (Int32.toNatClampNeg (V 5 6)) p1 := ⟨_, rfl⟩
        have ew79 : (xw ad kk V76 L Z66).set (336 + (Int32.toNatClampNeg (V 5 6))) ((Z66.fa (Int32.toNatClampNeg (V 5 6))), .inr (4, (xfFrame V76 (Int32.toNatClampNeg (V 5 6))).set 2 (.int p1))) = xw ad kk V78 L Z66 := by rw [hV78]; exact xpFrame_level il73
        have hP : va_P D vwCl (xw ad kk V78 L Z66) H := by rw [← ew79]; exact hP
        have hD : va_D A (xw ad kk V78 L Z66) := by rw [← ew79]; exact hD
        have hMV78 : rgd bX V78 := hMV76.put hV78 (i_full _)
        have agV78 : agr [(5, 6), (5, 9)] [67, 68, 69, 70, 71, 72, 73, 74, 75, 76, 77, 78, 79, 80, 81, 82, 83, 84, 85] V V78 := agV76.up hV78 rfl
        refine lv_aload hx hb dX5_push_90 (lv_at hl 0 rfl) ?_
        refine lv_iload_n hx hb dX5_push_92 rfl (lv_at hl 4 rfl) ?_
        refine va_putN (D := D) (ci := 4) (v := .int p2) (ty := tyX4 3) (fs := (xfFrame V78 (Int32.toNatClampNeg (V 5 6)))) (C := RX4) (T := TX4) (N := 19) hx hb hg inX4 tyX4 tyX4_ok nmX4 hown hK hP hD hS (336 + (Int32.toNatClampNeg (V 5 6))) (xgFrame il73) rfl 3 (by decide) (hnw.use 1192 n1192 rfl) (fun _ h9 => h9) rfl (tyX4_ok 3 (by decide)) rfl rfl (Nat.le_of_ble_eq_true rfl) dX5_push_93 (fun H locs hP hD hS => ?_)
        obtain ⟨V80, hV80⟩ : ∃ z, z = up2 V78 70 (Int32.toNatClampNeg (V 5 6)) p2 := ⟨_, rfl⟩
        have ew81 : (xw ad kk V78 L Z66).set (336 + (Int32.toNatClampNeg (V 5 6))) ((Z66.fa (Int32.toNatClampNeg (V 5 6))), .inr (4, (xfFrame V78 (Int32.toNatClampNeg (V 5 6))).set 3 (.int p2))) = xw ad kk V80 L Z66 := by rw [hV80]; exact xpFrame_object il73
        have hP : va_P D vwCl (xw ad kk V80 L Z66) H := by rw [← ew81]; exact hP
        have hD : va_D A (xw ad kk V80 L Z66) := by rw [← ew81]; exact hD
        have hMV80 : rgd bX V80 := hMV78.put hV80 (i_full _)
        have agV80 : agr [(5, 6), (5, 9)] [67, 68, 69, 70, 71, 72, 73, 74, 75, 76, 77, 78, 79, 80, 81, 82, 83, 84, 85] V V80 := agV78.up hV80 rfl
        refine lv_aload hx hb dX5_push_96 (lv_at hl 0 rfl) ?_
        refine lv_iload hx hb dX5_push_98 (lv_at hl 5 rfl) ?_
        refine va_putN (D := D) (ci := 4) (v := .int p3) (ty := tyX4 4) (fs := (xfFrame V80 (Int32.toNatClampNeg (V 5 6)))) (C := RX4) (T := TX4) (N := 19) hx hb hg inX4 tyX4 tyX4_ok nmX4 hown hK hP hD hS (336 + (Int32.toNatClampNeg (V 5 6))) (xgFrame il73) rfl 4 (by decide) (hnw.use 1193 n1193 rfl) (fun _ h9 => h9) rfl (tyX4_ok 4 (by decide)) rfl rfl (Nat.le_of_ble_eq_true rfl) dX5_push_100 (fun H locs hP hD hS => ?_)
        obtain ⟨V82, hV82⟩ : ∃ z, z = up2 V80 71 (Int32.toNatClampNeg (V 5 6)) p3 := ⟨_, rfl⟩
        have ew83 : (xw ad kk V80 L Z66).set (336 + (Int32.toNatClampNeg (V 5 6))) ((Z66.fa (Int32.toNatClampNeg (V 5 6))), .inr (4, (xfFrame V80 (Int32.toNatClampNeg (V 5 6))).set 4 (.int p3))) = xw ad kk V82 L Z66 := by rw [hV82]; exact xpFrame_component il73
        have hP : va_P D vwCl (xw ad kk V82 L Z66) H := by rw [← ew83]; exact hP
        have hD : va_D A (xw ad kk V82 L Z66) := by rw [← ew83]; exact hD
        have hMV82 : rgd bX V82 := hMV80.put hV82 (show (-1) ≤ p3.toInt ∧ p3.toInt ≤ 23 from by (first | exact om_b5ea211f5a81 rg_p3.1 rg_p3.2 | omega))
        have agV82 : agr [(5, 6), (5, 9)] [67, 68, 69, 70, 71, 72, 73, 74, 75, 76, 77, 78, 79, 80, 81, 82, 83, 84, 85] V V82 := agV80.up hV82 rfl
        refine lv_aload hx hb dX5_push_103 (lv_at hl 0 rfl) ?_
        refine lv_iload hx hb dX5_push_105 (lv_at hl 6 rfl) ?_
        refine va_putN (D := D) (ci := 4) (v := .int p4) (ty := tyX4 5) (fs := (xfFrame V82 (Int32.toNatClampNeg (V 5 6)))) (C := RX4) (T := TX4) (N := 19) hx hb hg inX4 tyX4 tyX4_ok nmX4 hown hK hP hD hS (336 + (Int32.toNatClampNeg (V 5 6))) (xgFrame il73) rfl 5 (by decide) (hnw.use 1194 n1194 rfl) (fun _ h9 => h9) rfl (tyX4_ok 5 (by decide)) rfl rfl (Nat.le_of_ble_eq_true rfl) dX5_push_107 (fun H locs hP hD hS => ?_)
        obtain ⟨V84, hV84⟩ : ∃ z, z = up2 V82 72 (Int32.toNatClampNeg (V 5 6)) p4 := ⟨_, rfl⟩
        have ew85 : (xw ad kk V82 L Z66).set (336 + (Int32.toNatClampNeg (V 5 6))) ((Z66.fa (Int32.toNatClampNeg (V 5 6))), .inr (4, (xfFrame V82 (Int32.toNatClampNeg (V 5 6))).set 5 (.int p4))) = xw ad kk V84 L Z66 := by rw [hV84]; exact xpFrame_scope il73
        have hP : va_P D vwCl (xw ad kk V84 L Z66) H := by rw [← ew85]; exact hP
        have hD : va_D A (xw ad kk V84 L Z66) := by rw [← ew85]; exact hD
        have hMV84 : rgd bX V84 := hMV82.put hV84 (show 0 ≤ p4.toInt ∧ p4.toInt ≤ 39 from by (first | exact om_13ba01c174fe rg_p4.1 rg_p4.2 | omega))
        have agV84 : agr [(5, 6), (5, 9)] [67, 68, 69, 70, 71, 72, 73, 74, 75, 76, 77, 78, 79, 80, 81, 82, 83, 84, 85] V V84 := agV82.up hV84 rfl
        refine lv_aload hx hb dX5_push_110 (lv_at hl 0 rfl) ?_
        refine lv_iconst (v := 0) hx hb dX5_push_112 (by decide) ?_
        refine va_putN (D := D) (ci := 4) (v := .int 0) (ty := tyX4 8) (fs := (xfFrame V84 (Int32.toNatClampNeg (V 5 6)))) (C := RX4) (T := TX4) (N := 19) hx hb hg inX4 tyX4 tyX4_ok nmX4 hown hK hP hD hS (336 + (Int32.toNatClampNeg (V 5 6))) (xgFrame il73) rfl 8 (by decide) (hnw.use 1197 n1197 rfl) (fun _ h9 => h9) rfl (tyX4_ok 8 (by decide)) rfl rfl (Nat.le_of_ble_eq_true rfl) dX5_push_113 (fun H locs hP hD hS => ?_)
        obtain ⟨V86, hV86⟩ : ∃ z, z = up2 V84 75 (Int32.toNatClampNeg (V 5 6)) 0 := ⟨_, rfl⟩
        have ew87 : (xw ad kk V84 L Z66).set (336 + (Int32.toNatClampNeg (V 5 6))) ((Z66.fa (Int32.toNatClampNeg (V 5 6))), .inr (4, (xfFrame V84 (Int32.toNatClampNeg (V 5 6))).set 8 (.int 0))) = xw ad kk V86 L Z66 := by rw [hV86]; exact xpFrame_position il73
        have hP : va_P D vwCl (xw ad kk V86 L Z66) H := by rw [← ew87]; exact hP
        have hD : va_D A (xw ad kk V86 L Z66) := by rw [← ew87]; exact hD
        have hMV86 : rgd bX V86 := hMV84.put hV86 (show 0 ≤ Int32.toInt 0 ∧ Int32.toInt 0 ≤ 12 from by decide)
        have agV86 : agr [(5, 6), (5, 9)] [67, 68, 69, 70, 71, 72, 73, 74, 75, 76, 77, 78, 79, 80, 81, 82, 83, 84, 85] V V86 := agV84.up hV86 rfl
        refine lv_aload hx hb dX5_push_116 (lv_at hl 0 rfl) ?_
        refine lv_iconst (v := 0) hx hb dX5_push_118 (by decide) ?_
        refine va_putN (D := D) (ci := 4) (v := .int 0) (ty := tyX4 9) (fs := (xfFrame V86 (Int32.toNatClampNeg (V 5 6)))) (C := RX4) (T := TX4) (N := 19) hx hb hg inX4 tyX4 tyX4_ok nmX4 hown hK hP hD hS (336 + (Int32.toNatClampNeg (V 5 6))) (xgFrame il73) rfl 9 (by decide) (hnw.use 1198 n1198 rfl) (fun _ h9 => h9) rfl (tyX4_ok 9 (by decide)) rfl rfl (Nat.le_of_ble_eq_true rfl) dX5_push_119 (fun H locs hP hD hS => ?_)
        obtain ⟨V88, hV88⟩ : ∃ z, z = up2 V86 76 (Int32.toNatClampNeg (V 5 6)) 0 := ⟨_, rfl⟩
        have ew89 : (xw ad kk V86 L Z66).set (336 + (Int32.toNatClampNeg (V 5 6))) ((Z66.fa (Int32.toNatClampNeg (V 5 6))), .inr (4, (xfFrame V86 (Int32.toNatClampNeg (V 5 6))).set 9 (.int 0))) = xw ad kk V88 L Z66 := by rw [hV88]; exact xpFrame_item il73
        have hP : va_P D vwCl (xw ad kk V88 L Z66) H := by rw [← ew89]; exact hP
        have hD : va_D A (xw ad kk V88 L Z66) := by rw [← ew89]; exact hD
        have hMV88 : rgd bX V88 := hMV86.put hV88 (i_full _)
        have agV88 : agr [(5, 6), (5, 9)] [67, 68, 69, 70, 71, 72, 73, 74, 75, 76, 77, 78, 79, 80, 81, 82, 83, 84, 85] V V88 := agV86.up hV88 rfl
        refine lv_aload hx hb dX5_push_122 (lv_at hl 0 rfl) ?_
        refine lv_iconst (v := 0) hx hb dX5_push_124 (by decide) ?_
        refine va_putN (D := D) (ci := 4) (v := .int 0) (ty := tyX4 16) (fs := (xfFrame V88 (Int32.toNatClampNeg (V 5 6)))) (C := RX4) (T := TX4) (N := 19) hx hb hg inX4 tyX4 tyX4_ok nmX4 hown hK hP hD hS (336 + (Int32.toNatClampNeg (V 5 6))) (xgFrame il73) rfl 16 (by decide) (hnw.use 1205 n1205 rfl) (fun _ h9 => h9) rfl (tyX4_ok 16 (by decide)) rfl rfl (Nat.le_of_ble_eq_true rfl) dX5_push_125 (fun H locs hP hD hS => ?_)
        obtain ⟨V90, hV90⟩ : ∃ z, z = up2 V88 83 (Int32.toNatClampNeg (V 5 6)) 0 := ⟨_, rfl⟩
        have ew91 : (xw ad kk V88 L Z66).set (336 + (Int32.toNatClampNeg (V 5 6))) ((Z66.fa (Int32.toNatClampNeg (V 5 6))), .inr (4, (xfFrame V88 (Int32.toNatClampNeg (V 5 6))).set 16 (.int 0))) = xw ad kk V90 L Z66 := by rw [hV90]; exact xpFrame_spent il73
        have hP : va_P D vwCl (xw ad kk V90 L Z66) H := by rw [← ew91]; exact hP
        have hD : va_D A (xw ad kk V90 L Z66) := by rw [← ew91]; exact hD
        have hMV90 : rgd bX V90 := hMV88.put hV90 (show 0 ≤ Int32.toInt 0 ∧ Int32.toInt 0 ≤ 1 from by decide)
        have agV90 : agr [(5, 6), (5, 9)] [67, 68, 69, 70, 71, 72, 73, 74, 75, 76, 77, 78, 79, 80, 81, 82, 83, 84, 85] V V90 := agV88.up hV90 rfl
        refine lv_aload_n hx hb dX5_push_128 rfl (lv_at hl 1 rfl) ?_
        refine lv_iconst (v := 0) hx hb dX5_push_129 (by decide) ?_
        refine va_put (D := D) (ci := 5) (v := .int 0) (ty := tyX5 9) (fs := (xfMachine ad V90 L Z66)) (C := RX5) (T := TX5) (N := 15) hx hb hg inX5 tyX5 tyX5_ok nmX5 hown hK hP hD hS 5 xgMachine rfl 9 (by decide) (hg _ w676) (fun _ h9 => h9) rfl (tyX5_ok 9 (by decide)) rfl rfl (Nat.le_of_ble_eq_true rfl) dX5_push_130 (fun H locs hP hD hS => ?_)
        obtain ⟨V92, hV92⟩ : ∃ z, z = up2 V90 5 9 0 := ⟨_, rfl⟩
        have ew93 : (xw ad kk V90 L Z66).set 5 ((ad 5), .inr (5, (xfMachine ad V90 L Z66).set 9 (.int 0))) = xw ad kk V92 L Z66 := by rw [hV92]; exact xw_ss (by decide) rfl (xb_si (by decide))
        have hP : va_P D vwCl (xw ad kk V92 L Z66) H := by rw [← ew93]; exact hP
        have hD : va_D A (xw ad kk V92 L Z66) := by rw [← ew93]; exact hD
        have hMV92 : rgd bX V92 := hMV90.put hV92 (by decide)
        have agV92 : agr [(5, 6), (5, 9)] [67, 68, 69, 70, 71, 72, 73, 74, 75, 76, 77, 78, 79, 80, 81, 82, 83, 84, 85] V V92 := agV90.up hV92 rfl
        refine lv_aload hx hb dX5_push_133 (lv_at hl 0 rfl) ?_
        have pq94 : (V92 5 6).toInt = z70.toInt := congrArg Int32.toInt ((up2_k hV92 (by decide)).trans ((up2_o hV90 (by decide)).trans ((up2_o hV88 (by decide)).trans ((up2_o hV86 (by decide)).trans ((up2_o hV84 (by decide)).trans ((up2_o hV82 (by decide)).trans ((up2_o hV80 (by decide)).trans ((up2_o hV78 (by decide)).trans ((up2_o hV76 (by decide)).trans ((up2_o hV74 (by decide)).trans (up2_s hV71)))))))))))
        have pq95 : (V92 5 9).toInt = 0 := (congrArg Int32.toInt (up2_s hV92)).trans (by decide)
        have me96 : ME V V92 (Int32.toNatClampNeg (V 5 6)) := (ME.up (ME.up (ME.up (ME.up (ME.up (ME.up (ME.up (ME.up (ME.up (ME.up (ME.up (ME.tr ME.rf (by rw [hV65]; exact ME.zz (by omega))) hV71 (Or.inr (by omega))) hV74 (Or.inl ⟨by decide, by decide, Nat.le_refl _⟩)) hV76 (Or.inl ⟨by decide, by decide, Nat.le_refl _⟩)) hV78 (Or.inl ⟨by decide, by decide, Nat.le_refl _⟩)) hV80 (Or.inl ⟨by decide, by decide, Nat.le_refl _⟩)) hV82 (Or.inl ⟨by decide, by decide, Nat.le_refl _⟩)) hV84 (Or.inl ⟨by decide, by decide, Nat.le_refl _⟩)) hV86 (Or.inl ⟨by decide, by decide, Nat.le_refl _⟩)) hV88 (Or.inl ⟨by decide, by decide, Nat.le_refl _⟩)) hV90 (Or.inl ⟨by decide, by decide, Nat.le_refl _⟩)) hV92 (Or.inr (by omega)))
        have rp97 : Z66.ln = Z.ln ∧ Z66.nf ≤ 400 := ⟨zgZ66, by omega⟩
        refine W.know (fun kr1 kr2 => ?_)
        refine W.widen (k := zcc Z) (n := zss Z) (Nat.sub_le _ _) (Nat.sub_le _ _) ?_
        exact W.aret (v := .ref (Z66.fa (Int32.toNatClampNeg (V 5 6)))) hx hb hr (Or.inl ⟨_, rfl⟩) (Or.inr ⟨_, rfl⟩) (fun t ht hW => ⟨⟨(V92, L, Z66, (Int32.toNatClampNeg (V 5 6))), rfl, ⟨hMV92, agV92, rfl, zoZ66, il73, me96, ⟨((up2_o hV92 (by decide)).trans ((up2_o hV90 (by decide)).trans ((up2_o hV88 (by decide)).trans ((up2_o hV86 (by decide)).trans ((up2_o hV84 (by decide)).trans ((up2_o hV82 (by decide)).trans ((up2_o hV80 (by decide)).trans ((up2_o hV78 (by decide)).trans ((up2_o hV76 (by decide)).trans (up2_s hV74)))))))))), ((up2_o hV92 (by decide)).trans ((up2_o hV90 (by decide)).trans ((up2_o hV88 (by decide)).trans ((up2_o hV86 (by decide)).trans ((up2_o hV84 (by decide)).trans ((up2_o hV82 (by decide)).trans ((up2_o hV80 (by decide)).trans ((up2_o hV78 (by decide)).trans (up2_s hV76))))))))), ((up2_o hV92 (by decide)).trans ((up2_o hV90 (by decide)).trans ((up2_o hV88 (by decide)).trans ((up2_o hV86 (by decide)).trans ((up2_o hV84 (by decide)).trans ((up2_o hV82 (by decide)).trans (up2_s hV80))))))), ((up2_o hV92 (by decide)).trans ((up2_o hV90 (by decide)).trans ((up2_o hV88 (by decide)).trans ((up2_o hV86 (by decide)).trans ((up2_o hV84 (by decide)).trans (up2_s hV82)))))), ((up2_o hV92 (by decide)).trans ((up2_o hV90 (by decide)).trans ((up2_o hV88 (by decide)).trans (up2_s hV86)))), ((up2_o hV92 (by decide)).trans ((up2_o hV90 (by decide)).trans (up2_s hV88)))⟩, (show ((Int32.toNatClampNeg (V 5 6)) : Int) + 1 = (V92 5 6).toInt from by (first | exact om_b4017f2d8f07 kdp hz70 pq94 | omega)), (show ((Int32.toNatClampNeg (V 5 6)) : Int) ≤ (V 5 6).toInt ∧ (V 5 6).toInt ≤ ((Int32.toNatClampNeg (V 5 6)) : Int) + 1 from by (first | exact om_ceb1c66e0444 kdp | omega)), (show (V92 5 9).toInt = 0 from by (first | exact om_b66ba74381d5 pq95 | omega)), rp97, ⟨((up2_o hV92 (by decide)).trans ((up2_o hV90 (by decide)).trans ((up2_o hV88 (by decide)).trans ((up2_o hV86 (by decide)).trans ((up2_o hV84 (by decide)).trans ((up2_o hV82 (by decide)).trans ((up2_o hV80 (by decide)).trans (up2_s hV78)))))))), ((up2_o hV92 (by decide)).trans ((up2_o hV90 (by decide)).trans ((up2_o hV88 (by decide)).trans ((up2_o hV86 (by decide)).trans (up2_s hV84))))), ((up2_o hV92 (by decide)).trans (up2_s hV90))⟩, (Imp.mk (fun hp => have hp : (V 5 6).toInt < 400 := hp; (show ((Int32.toNatClampNeg (V 5 6)) : Int) = (V 5 6).toInt from by (first | exact om_639da7453e33 kdp | omega))))⟩, ⟨by rw [ht]; exact hP, va_K.moved hW.alike hK, hD⟩, by rw [ht]; exact kr1, by rw [ht]; exact kr2⟩, hS.F ht⟩) hS.2.2 dX5_push_135
abbrev r_x_pushWork9 (Z : XZ) : Room := { frames := 3, cells := zcc Z, slots := zss Z, locals := 66 }
abbrev q_x_pushWork9 (D : va_G) (ks : KS) (ad : Nat → Nat) (kk : Nat → ClassId) (V : Vf) (L : Lf) (Z : XZ) (p1 : Int32) (p2 : Int32) (b : Nat) (gf : Nat) (A : Nat → Prop) : Array Value → State → Outcome → State → Prop := qZr D (fun (u : Vf × Lf × XZ × Nat) => rgd bX u.1 ∧ agr [(5, 6), (5, 9)] [67, 68, 69, 70, 71, 72, 73, 74, 75, 76, 77, 78, 79, 80, 81, 82, 83, 84, 85] V u.1 ∧ u.2.1 = L ∧ ZL Z u.2.2.1 ∧ (u.2.2.2 < u.2.2.1.nf) ∧ (MJ u.1 u.2.2.1 b) ∧ ((u.2.2.2 : Int) + 1 = (u.1 5 6).toInt) ∧ ((u.1 67 u.2.2.2).toInt = 4 ∧ (u.1 68 u.2.2.2).toInt = 0) ∧ ((u.1 5 9).toInt = 0) ∧ (Imp ((V 5 6).toInt < 400 ∧ (gf : Int) < (V 5 6).toInt) (PWk V u.1 gf ((V 5 6).toInt.toNat) p1 p2))) (fun u => u.2.2.1.fa u.2.2.2) (fun u => xw ad kk u.1 u.2.1 u.2.2.1) (fun u => xty kk u.2.2.1) (fun u => zcc Z - zcc u.2.2.1) (fun u => zss Z - zss u.2.2.1) A
set_option maxHeartbeats 4000000 in
set_option maxRecDepth 100000 in
theorem x_pushWork9 (l : Launch) (D : va_G) (ks : KS) (sz : Nat) (ad : Nat → Nat) (kk : Nat → ClassId) (V : Vf) (L : Lf) (Z : XZ) (p1 : Int32) (p2 : Int32) (b : Nat) (gf : Nat) (hMV : rgd bX V) (rg_p1 : 0 ≤ p1.toInt ∧ p1.toInt ≤ 2147483647) (hb2 : b < 2) (hgf : gf < Z.nf) (mt : MT V Z b) (hcm : 0 ≤ (V 71 gf).toInt ∧ (V 71 gf).toInt < (V 43 (5 * b + 2)).toInt) (hob : 0 ≤ (V 70 gf).toInt ∧ (V 70 gf).toInt < (V 3 13).toInt) (hat : (V 42 b).toInt ≤ p1.toInt ∨ (bdp V b (p1.toInt).toNat).1 = true)  : Met l yX5_pushWork (Cond.code yX5_pushWork cX5_pushWork 5 (some (.object "WiringHouse$Frame")) :: GW) (r_x_pushWork9 Z) (va_Pc [.ref (ad 5), .ref (Z.fa gf), .int p1, .int p2] (gp D ks (xw ad kk V L Z) (xty kk Z) sz)) (q_x_pushWork9 D ks ad kk V L Z p1 p2 b gf (va_A (xw ad kk V L Z) sz)) (zcc Z) (zss Z) (va_A (xw ad kk V L Z) sz) := by
  refine g_met (q_x_pushWork9 D ks ad kk V L Z p1 p2 b gf) (by decide) (Nat.le_of_ble_eq_true rfl) ?_
  intro p e s m below meth c A ls H locs hx hb hr hml hown hg hlocks hin hnw hgk hP hK hD hS hA hl
  have hown : s.vm.findClass RX5 = some m.cls := hown
  have hl : lv_has ls 5 [(0, .ref (ad 5)), (1, .ref (Z.fa gf)), (2, .int p1), (3, .int p2)] := hl
  have hP : va_P D vwCl (xw ad kk V L Z) H := hP
  have hD : va_D A (xw ad kk V L Z) := hD
  have hK : va_K D vwCl (xty kk Z) s := hK
  have agV : agr [(5, 6), (5, 9)] [67, 68, 69, 70, 71, 72, 73, 74, 75, 76, 77, 78, 79, 80, 81, 82, 83, 84, 85] V V := agr.rf
  have zoZ : ZL Z Z := ZL.rf
  refine W.know (fun ka kb => ?_)
  refine W.tight (k := zcc Z - zcc Z) (n := zss Z - zss Z) (by omega) (by omega) ?_
  have r1 : (-1) ≤ ((V 71 gf)).toInt ∧ ((V 71 gf)).toInt ≤ 23 := hMV 71 gf
  have r2 : 0 ≤ ((V 43 (5 * b + 2))).toInt ∧ ((V 43 (5 * b + 2))).toInt ≤ ((xcap (5 * b + 2) : Nat) : Int) := hMV 43 (5 * b + 2)
  have r3 : xcap (5 * b + 2) = 24 := xcap_2
  have r4 : 0 ≤ ((V 3 13)).toInt ∧ ((V 3 13)).toInt ≤ 300 := hMV 3 13
  have r5 : 0 ≤ ((V 5 6)).toInt ∧ ((V 5 6)).toInt ≤ 400 := hMV 5 6
  have kdp := i_clamp (x := V 5 6) rfl (by (first | exact om_eafa9039069c r5.1 | omega))
  have hdn := MT.dn mt (by (first | exact om_eafa9039069c r5.1 | omega))
  have mup := MT.up mt
  have msz := mup.1
  have mbk := mup.2.2.2.1
  refine lv_aload_n hx hb dX5_pushWork_0 rfl (lv_at hl 0 rfl) ?_
  refine lv_iconst (v := 4) hx hb dX5_pushWork_1 (by decide) ?_
  refine lv_aload_n hx hb dX5_pushWork_2 rfl (lv_at hl 1 rfl) ?_
  refine va_getN (D := D) (ci := 4) (v := .int (V 69 gf)) (fs := (xfFrame V gf)) (C := RX4) (T := TX4) (N := 19) hx hb hg inX4 hown hK hP (336 + gf) (xgFrame hgf) rfl 2 (by decide) (hnw.use 1191 n1191 rfl) (fun _ h9 => h9) rfl dX5_pushWork_3 ?_
  refine lv_aload_n hx hb dX5_pushWork_6 rfl (lv_at hl 1 rfl) ?_
  refine va_getN (D := D) (ci := 4) (v := .int (V 70 gf)) (fs := (xfFrame V gf)) (C := RX4) (T := TX4) (N := 19) hx hb hg inX4 hown hK hP (336 + gf) (xgFrame hgf) rfl 3 (by decide) (hnw.use 1192 n1192 rfl) (fun _ h9 => h9) rfl dX5_pushWork_7 ?_
  refine lv_aload_n hx hb dX5_pushWork_10 rfl (lv_at hl 1 rfl) ?_
  refine va_getN (D := D) (ci := 4) (v := .int (V 71 gf)) (fs := (xfFrame V gf)) (C := RX4) (T := TX4) (N := 19) hx hb hg inX4 hown hK hP (336 + gf) (xgFrame hgf) rfl 4 (by decide) (hnw.use 1193 n1193 rfl) (fun _ h9 => h9) rfl dX5_pushWork_11 ?_
  refine lv_aload_n hx hb dX5_pushWork_14 rfl (lv_at hl 1 rfl) ?_
  refine va_getN (D := D) (ci := 4) (v := .int (V 72 gf)) (fs := (xfFrame V gf)) (C := RX4) (T := TX4) (N := 19) hx hb hg inX4 hown hK hP (336 + gf) (xgFrame hgf) rfl 5 (by decide) (hnw.use 1194 n1194 rfl) (fun _ h9 => h9) rfl dX5_pushWork_15 ?_
  have r6 : 0 ≤ ((V 72 gf)).toInt ∧ ((V 72 gf)).toInt ≤ 39 := hMV 72 gf
  have r7 : Int32.toInt 4 = 4 := by decide
  refine W.know (fun k9 k10 => ?_)
  obtain ⟨Hk8, hHk8⟩ : ∃ z, z = H := ⟨_, rfl⟩
  have k9 : Hk8.size ≤ s.heap.size + (zcc Z - zcc Z) := by rw [hHk8]; exact k9
  have k10 : tot Hk8 ≤ tot s.heap + (zss Z - zss Z) := by rw [hHk8]; exact k10
  refine gZ_ref (gA_runV (As := [.int 4, .int (V 69 gf), .int (V 70 gf), .int (V 71 gf), .int (V 72 gf)]) (rest := []) (ci := 5) (q0 := 5) hx hb hml hown hg hP hD hK hS hA hnw hgk (x_push9 l D ks H.size ad kk V L Z 4 (V 69 gf) (V 70 gf) (V 71 gf) (V 72 gf) hMV (by (first | exact om_f52419b73d7d hcm.1 r1.2 | omega)) (by (first | exact om_13ba01c174fe r6.1 r6.2 | omega)) (show (V 5 6).toInt ≤ (Z.nf : Int) from by (first | exact om_cbf4821a2053 hdn.1 | omega)) (show (Z.nf : Int) ≤ 400 from by (first | exact om_16a0bbaa0b2a hdn.2 | omega))) w1180 w1182 w43 w171 w1183 rfl xgMachine hdV_yX5_push ⟨Nat.le_of_ble_eq_true rfl, Nat.le_of_ble_eq_true rfl⟩ rfl hl.1 rfl (Nat.le_of_ble_eq_true rfl) dX5_pushWork_18 ⟨z1 zoZ.1, z1 zoZ.2.1⟩) hD hS hA (fun u12 H locs w13 hP hD hK hS y14 y15 => ?_)
  obtain ⟨V16, L17, Z18, f19⟩ := u12
  obtain ⟨hMV16, ajV16, axL17, zlZ18, ilf19, t20, t21, t22, t23, t24, t25, t26, t27⟩ := w13
  have axL17 : L = L17 := Eq.symm axL17
  subst axL17
  have hP : va_P D vwCl (xw ad kk V16 L Z18) H := hP
  have hD : va_D A (xw ad kk V16 L Z18) := hD
  have hK : va_K D vwCl (xty kk Z18) s := hK
  have hMV16 : rgd bX V16 := hMV16
  have ajV16 : agr [(5, 6), (5, 9)] [67, 68, 69, 70, 71, 72, 73, 74, 75, 76, 77, 78, 79, 80, 81, 82, 83, 84, 85] V V16 := ajV16
  have agV16 : agr [(5, 6), (5, 9)] [67, 68, 69, 70, 71, 72, 73, 74, 75, 76, 77, 78, 79, 80, 81, 82, 83, 84, 85] V V16 := agV.tr ajV16 (by decide) (by decide)
  have zlZ18 : ZL Z Z18 := zlZ18
  have zoZ18 : ZL Z Z18 := ZL.tr zoZ zlZ18
  have ziZ18 := zlZ18.1
  have zjZ18 := zlZ18.2.1
  have zkZ18 := zlZ18.2.2.1
  have zmZ18 := zoZ18.1
  have znZ18 := zoZ18.2.1
  have zpZ_Z18 := zoZ.1
  have zqZ_Z18 := zoZ.2.1
  have y14 : H.size ≤ Hk8.size + (zcc Z - zcc Z18) := by rw [hHk8]; exact y14
  have y15 : tot H ≤ tot Hk8 + (zss Z - zss Z18) := by rw [hHk8]; exact y15
  refine W.tight (k := zcc Z - zcc Z18) (n := zss Z - zss Z18) (by first | exact tg9 y14 k9 zlZ18.1 zoZ.1 | omega) (by first | exact tg9 y15 k10 zlZ18.2.1 zoZ.2.1 | omega) ?_
  have hl : lv_has ls 5 [(0, .ref (ad 5)), (1, .ref (Z18.fa gf)), (2, .int p1), (3, .int p2)] := by rw [zlZ18.2.2.2.2 gf hgf]; exact hl
  have ilf19 : f19 < Z18.nf := ilf19
  have t20 : ME V V16 f19 := t20
  have t21 : V16 67 f19 = 4 ∧ V16 68 f19 = 0 ∧ V16 70 f19 = (V 70 gf) ∧ V16 71 f19 = (V 71 gf) ∧ V16 75 f19 = 0 ∧ V16 76 f19 = 0 := t21
  have t22 : (f19 : Int) + 1 = (V16 5 6).toInt := t22
  have t23 : (f19 : Int) ≤ (V 5 6).toInt ∧ (V 5 6).toInt ≤ (f19 : Int) + 1 := t23
  have t24 : (V16 5 9).toInt = 0 := t24
  have t25 : Z18.ln = Z.ln ∧ Z18.nf ≤ 400 := t25
  have t26 : V16 69 f19 = (V 69 gf) ∧ V16 72 f19 = (V 72 gf) ∧ V16 83 f19 = 0 := t26
  have t27 : Imp ((V 5 6).toInt < 400) ((f19 : Int) = (V 5 6).toInt) := t27
  have r28 : 0 ≤ ((V16 5 6)).toInt ∧ ((V16 5 6)).toInt ≤ 400 := hMV16 5 6
  have r29 : 0 ≤ ((V16 5 9)).toInt ∧ ((V16 5 9)).toInt ≤ 3 := hMV16 5 9
  have pr30 : (V16 67 f19).toInt = 4 := (congrArg Int32.toInt t21.1).trans (by decide)
  have pr31 : (V16 68 f19).toInt = 0 := (congrArg Int32.toInt t21.2.1).trans (by decide)
  have pr32 : (V16 70 f19).toInt = ((V 70 gf)).toInt := (congrArg Int32.toInt t21.2.2.1)
  have pr33 : (V16 71 f19).toInt = ((V 71 gf)).toInt := (congrArg Int32.toInt t21.2.2.2.1)
  have pr34 : (V16 75 f19).toInt = 0 := (congrArg Int32.toInt t21.2.2.2.2.1).trans (by decide)
  have pr35 : (V16 76 f19).toInt = 0 := (congrArg Int32.toInt t21.2.2.2.2.2).trans (by decide)
  refine lv_astore (lv' := [(4, .ref (Z18.fa f19)), (0, .ref (ad 5)), (1, .ref (Z18.fa gf)), (2, .int p1), (3, .int p2)]) hx hb dX5_pushWork_21 hl (by decide) rfl (fun ls hl => ?_)
  refine lv_aload hx hb dX5_pushWork_23 (lv_at hl 0 rfl) ?_
  refine lv_aload_n hx hb dX5_pushWork_25 rfl (lv_at hl 2 rfl) ?_
  have il36 : gf < Z18.nf := by first | omega | ((try (have i_t27 := Imp.go t27 (by omega))); omega)
  refine va_getN (D := D) (ci := 4) (v := .int (V16 73 gf)) (fs := (xfFrame V16 gf)) (C := RX4) (T := TX4) (N := 19) hx hb hg inX4 hown hK hP (336 + gf) (xgFrame il36) rfl 6 (by decide) (hnw.use 1195 n1195 rfl) (fun _ h9 => h9) rfl dX5_pushWork_26 ?_
  have r37 : 0 ≤ ((V16 73 gf)).toInt ∧ ((V16 73 gf)).toInt ≤ 19 := hMV16 73 gf
  refine va_putN (D := D) (ci := 4) (v := .int (V16 73 gf)) (ty := tyX4 6) (fs := (xfFrame V16 f19)) (C := RX4) (T := TX4) (N := 19) hx hb hg inX4 tyX4 tyX4_ok nmX4 hown hK hP hD hS (336 + f19) (xgFrame ilf19) rfl 6 (by decide) (hnw.use 1195 n1195 rfl) (fun _ h9 => h9) rfl (tyX4_ok 6 (by decide)) rfl rfl (Nat.le_of_ble_eq_true rfl) dX5_pushWork_29 (fun H locs hP hD hS => ?_)
  obtain ⟨V38, hV38⟩ : ∃ z, z = up2 V16 73 f19 (V16 73 gf) := ⟨_, rfl⟩
  have ew39 : (xw ad kk V16 L Z18).set (336 + f19) ((Z18.fa f19), .inr (4, (xfFrame V16 f19).set 6 (.int (V16 73 gf)))) = xw ad kk V38 L Z18 := by rw [hV38]; exact xpFrame_method ilf19
  have hP : va_P D vwCl (xw ad kk V38 L Z18) H := by rw [← ew39]; exact hP
  have hD : va_D A (xw ad kk V38 L Z18) := by rw [← ew39]; exact hD
  have hMV38 : rgd bX V38 := hMV16.put hV38 (show 0 ≤ ((V16 73 gf)).toInt ∧ ((V16 73 gf)).toInt ≤ 19 from by first | exact om_0916ac166aa8 r37.1 r37.2 | first | omega | ((try (have i_t27 := Imp.go t27 (by omega))); omega))
  have agV38 : agr [(5, 6), (5, 9)] [67, 68, 69, 70, 71, 72, 73, 74, 75, 76, 77, 78, 79, 80, 81, 82, 83, 84, 85] V V38 := agV16.up hV38 rfl
  refine lv_aload hx hb dX5_pushWork_32 (lv_at hl 0 rfl) ?_
  refine lv_iload_n hx hb dX5_pushWork_34 rfl (lv_at hl 4 rfl) ?_
  refine va_putN (D := D) (ci := 4) (v := .int p2) (ty := tyX4 7) (fs := (xfFrame V38 f19)) (C := RX4) (T := TX4) (N := 19) hx hb hg inX4 tyX4 tyX4_ok nmX4 hown hK hP hD hS (336 + f19) (xgFrame ilf19) rfl 7 (by decide) (hnw.use 1196 n1196 rfl) (fun _ h9 => h9) rfl (tyX4_ok 7 (by decide)) rfl rfl (Nat.le_of_ble_eq_true rfl) dX5_pushWork_35 (fun H locs hP hD hS => ?_)
  obtain ⟨V40, hV40⟩ : ∃ z, z = up2 V38 74 f19 p2 := ⟨_, rfl⟩
  have ew41 : (xw ad kk V38 L Z18).set (336 + f19) ((Z18.fa f19), .inr (4, (xfFrame V38 f19).set 7 (.int p2))) = xw ad kk V40 L Z18 := by rw [hV40]; exact xpFrame_arg ilf19
  have hP : va_P D vwCl (xw ad kk V40 L Z18) H := by rw [← ew41]; exact hP
  have hD : va_D A (xw ad kk V40 L Z18) := by rw [← ew41]; exact hD
  have hMV40 : rgd bX V40 := hMV38.put hV40 (i_full _)
  have agV40 : agr [(5, 6), (5, 9)] [67, 68, 69, 70, 71, 72, 73, 74, 75, 76, 77, 78, 79, 80, 81, 82, 83, 84, 85] V V40 := agV38.up hV40 rfl
  refine lv_aload hx hb dX5_pushWork_38 (lv_at hl 0 rfl) ?_
  refine lv_iload_n hx hb dX5_pushWork_40 rfl (lv_at hl 3 rfl) ?_
  refine va_putN (D := D) (ci := 4) (v := .int p1) (ty := tyX4 17) (fs := (xfFrame V40 f19)) (C := RX4) (T := TX4) (N := 19) hx hb hg inX4 tyX4 tyX4_ok nmX4 hown hK hP hD hS (336 + f19) (xgFrame ilf19) rfl 17 (by decide) (hnw.use 1206 n1206 rfl) (fun _ h9 => h9) rfl (tyX4_ok 17 (by decide)) rfl rfl (Nat.le_of_ble_eq_true rfl) dX5_pushWork_41 (fun H locs hP hD hS => ?_)
  obtain ⟨V42, hV42⟩ : ∃ z, z = up2 V40 84 f19 p1 := ⟨_, rfl⟩
  have ew43 : (xw ad kk V40 L Z18).set (336 + f19) ((Z18.fa f19), .inr (4, (xfFrame V40 f19).set 17 (.int p1))) = xw ad kk V42 L Z18 := by rw [hV42]; exact xpFrame_at ilf19
  have hP : va_P D vwCl (xw ad kk V42 L Z18) H := by rw [← ew43]; exact hP
  have hD : va_D A (xw ad kk V42 L Z18) := by rw [← ew43]; exact hD
  have hMV42 : rgd bX V42 := hMV40.put hV42 (show 0 ≤ p1.toInt ∧ p1.toInt ≤ 2147483647 from by first | exact om_1ef0cfc3b2d2 rg_p1.1 rg_p1.2 | first | omega | ((try (have i_t27 := Imp.go t27 (by omega))); omega))
  have agV42 : agr [(5, 6), (5, 9)] [67, 68, 69, 70, 71, 72, 73, 74, 75, 76, 77, 78, 79, 80, 81, 82, 83, 84, 85] V V42 := agV40.up hV42 rfl
  refine lv_aload hx hb dX5_pushWork_44 (lv_at hl 0 rfl) ?_
  refine lv_aload_n hx hb dX5_pushWork_46 rfl (lv_at hl 1 rfl) ?_
  refine va_get (D := D) (ci := 5) (v := .int (V42 5 7)) (fs := (xfMachine ad V42 L Z18)) (C := RX5) (T := TX5) (N := 15) hx hb hg inX5 hown hK hP 5 xgMachine rfl 7 (by decide) (hg _ w674) (fun _ h9 => h9) rfl dX5_pushWork_47 ?_
  refine g_top (v := (V 5 7)) ((up2_o hV42 (by decide)).trans ((up2_o hV40 (by decide)).trans ((up2_o hV38 (by decide)).trans (ajV16 5 7 rfl)))) ?_
  have r44 : 0 ≤ ((V 5 7)).toInt ∧ ((V 5 7)).toInt ≤ 2048 := hMV 5 7
  refine va_putN (D := D) (ci := 4) (v := .int (V 5 7)) (ty := tyX4 18) (fs := (xfFrame V42 f19)) (C := RX4) (T := TX4) (N := 19) hx hb hg inX4 tyX4 tyX4_ok nmX4 hown hK hP hD hS (336 + f19) (xgFrame ilf19) rfl 18 (by decide) (hnw.use 1207 n1207 rfl) (fun _ h9 => h9) rfl (tyX4_ok 18 (by decide)) rfl rfl (Nat.le_of_ble_eq_true rfl) dX5_pushWork_50 (fun H locs hP hD hS => ?_)
  obtain ⟨V45, hV45⟩ : ∃ z, z = up2 V42 85 f19 (V 5 7) := ⟨_, rfl⟩
  have ew46 : (xw ad kk V42 L Z18).set (336 + f19) ((Z18.fa f19), .inr (4, (xfFrame V42 f19).set 18 (.int (V 5 7)))) = xw ad kk V45 L Z18 := by rw [hV45]; exact xpFrame_base ilf19
  have hP : va_P D vwCl (xw ad kk V45 L Z18) H := by rw [← ew46]; exact hP
  have hD : va_D A (xw ad kk V45 L Z18) := by rw [← ew46]; exact hD
  have hMV45 : rgd bX V45 := hMV42.put hV45 (show 0 ≤ ((V 5 7)).toInt ∧ ((V 5 7)).toInt ≤ 2048 from by first | exact om_01b7a0d43c7e r44.1 r44.2 | first | omega | ((try (have i_t27 := Imp.go t27 (by omega))); omega))
  have agV45 : agr [(5, 6), (5, 9)] [67, 68, 69, 70, 71, 72, 73, 74, 75, 76, 77, 78, 79, 80, 81, 82, 83, 84, 85] V V45 := agV42.up hV45 rfl
  refine lv_aload hx hb dX5_pushWork_53 (lv_at hl 0 rfl) ?_
  have pq47 : (V45 5 6).toInt = ((V16 5 6)).toInt := congrArg Int32.toInt ((up2_o hV45 (by decide)).trans ((up2_o hV42 (by decide)).trans ((up2_o hV40 (by decide)).trans (up2_o hV38 (by decide)))))
  have pq48 : (V45 5 9).toInt = ((V16 5 9)).toInt := congrArg Int32.toInt ((up2_o hV45 (by decide)).trans ((up2_o hV42 (by decide)).trans ((up2_o hV40 (by decide)).trans (up2_o hV38 (by decide)))))
  have me49 : ME V V45 f19 := (ME.up (ME.up (ME.up (ME.up (ME.tr ME.rf t20) hV38 (Or.inl ⟨by decide, by decide, Nat.le_refl _⟩)) hV40 (Or.inl ⟨by decide, by decide, Nat.le_refl _⟩)) hV42 (Or.inl ⟨by decide, by decide, Nat.le_refl _⟩)) hV45 (Or.inl ⟨by decide, by decide, Nat.le_refl _⟩))
  have pq50 : (V45 67 f19).toInt = ((V16 67 f19)).toInt := congrArg Int32.toInt ((up2_o hV45 (by decide)).trans ((up2_o hV42 (by decide)).trans ((up2_o hV40 (by decide)).trans (up2_o hV38 (by decide)))))
  have pq51 : (V45 68 f19).toInt = ((V16 68 f19)).toInt := congrArg Int32.toInt ((up2_o hV45 (by decide)).trans ((up2_o hV42 (by decide)).trans ((up2_o hV40 (by decide)).trans (up2_o hV38 (by decide)))))
  have pq52 : (V45 70 f19).toInt = ((V16 70 f19)).toInt := congrArg Int32.toInt ((up2_o hV45 (by decide)).trans ((up2_o hV42 (by decide)).trans ((up2_o hV40 (by decide)).trans (up2_o hV38 (by decide)))))
  have pq53 : (V45 71 f19).toInt = ((V16 71 f19)).toInt := congrArg Int32.toInt ((up2_o hV45 (by decide)).trans ((up2_o hV42 (by decide)).trans ((up2_o hV40 (by decide)).trans (up2_o hV38 (by decide)))))
  have r54 : (-1) ≤ ((V16 71 f19)).toInt ∧ ((V16 71 f19)).toInt ≤ 23 := hMV16 71 f19
  have pq55 : (V45 75 f19).toInt = ((V16 75 f19)).toInt := congrArg Int32.toInt ((up2_o hV45 (by decide)).trans ((up2_o hV42 (by decide)).trans ((up2_o hV40 (by decide)).trans (up2_o hV38 (by decide)))))
  have r56 : 0 ≤ ((V16 75 f19)).toInt ∧ ((V16 75 f19)).toInt ≤ 12 := hMV16 75 f19
  have pq57 : (V45 76 f19).toInt = ((V16 76 f19)).toInt := congrArg Int32.toInt ((up2_o hV45 (by decide)).trans ((up2_o hV42 (by decide)).trans ((up2_o hV40 (by decide)).trans (up2_o hV38 (by decide)))))
  have pq58 : (V45 80 f19).toInt = ((V16 80 f19)).toInt := congrArg Int32.toInt ((up2_o hV45 (by decide)).trans ((up2_o hV42 (by decide)).trans ((up2_o hV40 (by decide)).trans (up2_o hV38 (by decide)))))
  have r59 : 0 ≤ ((V16 80 f19)).toInt ∧ ((V16 80 f19)).toInt ≤ 300 := hMV16 80 f19
  have pq60 : (V45 84 f19).toInt = p1.toInt := congrArg Int32.toInt ((up2_o hV45 (by decide)).trans (up2_s hV42))
  have pq61 : (V45 5 8).toInt = ((V 5 8)).toInt := congrArg Int32.toInt ((up2_o hV45 (by decide)).trans ((up2_o hV42 (by decide)).trans ((up2_o hV40 (by decide)).trans ((up2_o hV38 (by decide)).trans (ajV16 5 8 rfl)))))
  have r62 : 0 ≤ ((V 5 8)).toInt ∧ ((V 5 8)).toInt ≤ 300 := hMV 5 8
  have pq63 : (V45 3 13).toInt = ((V 3 13)).toInt := congrArg Int32.toInt ((up2_o hV45 (by decide)).trans ((up2_o hV42 (by decide)).trans ((up2_o hV40 (by decide)).trans ((up2_o hV38 (by decide)).trans (ajV16 3 13 rfl)))))
  have pq64 : (V45 43 (5 * b + 2)).toInt = ((V 43 (5 * b + 2))).toInt := congrArg Int32.toInt ((up2_o hV45 (by decide)).trans ((up2_o hV42 (by decide)).trans ((up2_o hV40 (by decide)).trans ((up2_o hV38 (by decide)).trans (ajV16 43 (5 * b + 2) rfl)))))
  have pq65 : (V45 42 b).toInt = ((V 42 b)).toInt := congrArg Int32.toInt ((up2_o hV45 (by decide)).trans ((up2_o hV42 (by decide)).trans ((up2_o hV40 (by decide)).trans ((up2_o hV38 (by decide)).trans (ajV16 42 b rfl)))))
  have r66 : 0 ≤ ((V 42 b)).toInt ∧ ((V 42 b)).toInt ≤ 8200 := hMV 42 b
  have pq67 : (V45 41 b).toInt = ((V 41 b)).toInt := congrArg Int32.toInt ((up2_o hV45 (by decide)).trans ((up2_o hV42 (by decide)).trans ((up2_o hV40 (by decide)).trans ((up2_o hV38 (by decide)).trans (ajV16 41 b rfl)))))
  have r68 : 0 ≤ ((V 41 b)).toInt ∧ ((V 41 b)).toInt ≤ 12 := hMV 41 b
  have me69 : ME V V45 0 := (ME.up (ME.up (ME.up (ME.up (ME.tr ME.rf (ME.lo t20 (by first | omega | ((try (have i_t27 := Imp.go t27 (by omega))); omega)))) hV38 (Or.inl ⟨by decide, by decide, by first | omega | ((try (have i_t27 := Imp.go t27 (by omega))); omega)⟩)) hV40 (Or.inl ⟨by decide, by decide, by first | omega | ((try (have i_t27 := Imp.go t27 (by omega))); omega)⟩)) hV42 (Or.inl ⟨by decide, by decide, by first | omega | ((try (have i_t27 := Imp.go t27 (by omega))); omega)⟩)) hV45 (Or.inl ⟨by decide, by decide, by first | omega | ((try (have i_t27 := Imp.go t27 (by omega))); omega)⟩))
  have af70 : (V45 42 b).toInt ≤ (V45 84 f19).toInt ∨ (bdp V45 b (V45 84 f19).toInt.toNat).1 = true := by rw [((up2_o hV45 (by decide)).trans (up2_s hV42)), me69.1.bd, me69.1 42 b (by decide) (by decide)]; exact hat
  have rp71 : MJ V45 Z18 b := MT.pu (v := False) mt (by omega) me49 t25.1 (by omega) t25.2 (FK.k4 (by omega) (by omega) (by omega) af70 (by omega) (fun h => absurd h (by omega))) (fun h => absurd h (by omega)) (by omega) (by omega)
  have rp72 : (V45 67 f19).toInt = 4 ∧ (V45 68 f19).toInt = 0 := ⟨by omega, by omega⟩
  have ip73 : Imp ((V 5 6).toInt < 400 ∧ (gf : Int) < (V 5 6).toInt) (PWk V V45 gf ((V 5 6).toInt.toNat) p1 p2) := Imp.mk (fun hp => by
    have hp1 : (V 5 6).toInt < 400 := hp.1
    have hp2 : (gf : Int) < (V 5 6).toInt := hp.2
    have fe9 := Imp.go t27 (by (first | exact om_cb6592a7774c hp1 | omega))
    have fi9 : (V 5 6).toInt.toNat = f19 := by omega
    have me74 : ME V V45 f19 := (ME.up (ME.up (ME.up (ME.up (ME.tr ME.rf t20) hV38 (Or.inl ⟨by decide, by decide, Nat.le_refl _⟩)) hV40 (Or.inl ⟨by decide, by decide, Nat.le_refl _⟩)) hV42 (Or.inl ⟨by decide, by decide, Nat.le_refl _⟩)) hV45 (Or.inl ⟨by decide, by decide, Nat.le_refl _⟩))
    rw [fi9]
    exact ⟨⟨by omega, by omega, fun j hj c h1 h2 => me74.2.1 c j h1 h2 hj⟩, ⟨by rw [(((up2_o hV45 (by decide)).trans ((up2_o hV42 (by decide)).trans ((up2_o hV40 (by decide)).trans (up2_o hV38 (by decide))))).trans t21.1)]; decide, by rw [(((up2_o hV45 (by decide)).trans ((up2_o hV42 (by decide)).trans ((up2_o hV40 (by decide)).trans (up2_o hV38 (by decide))))).trans t21.2.1)]; decide⟩, ⟨(((up2_o hV45 (by decide)).trans ((up2_o hV42 (by decide)).trans ((up2_o hV40 (by decide)).trans (up2_o hV38 (by decide))))).trans t26.1), (((up2_o hV45 (by decide)).trans ((up2_o hV42 (by decide)).trans ((up2_o hV40 (by decide)).trans (up2_o hV38 (by decide))))).trans t21.2.2.1), (((up2_o hV45 (by decide)).trans ((up2_o hV42 (by decide)).trans ((up2_o hV40 (by decide)).trans (up2_o hV38 (by decide))))).trans t21.2.2.2.1), (((up2_o hV45 (by decide)).trans ((up2_o hV42 (by decide)).trans ((up2_o hV40 (by decide)).trans (up2_o hV38 (by decide))))).trans t26.2.1), (((up2_o hV45 (by decide)).trans ((up2_o hV42 (by decide)).trans ((up2_o hV40 (by decide)).trans (up2_s hV38)))).trans (t20.2.1 73 gf (by decide) (by decide) (by omega)))⟩, ((up2_o hV45 (by decide)).trans ((up2_o hV42 (by decide)).trans (up2_s hV40))), ((up2_o hV45 (by decide)).trans (up2_s hV42)), (up2_s hV45), (by rw [(((up2_o hV45 (by decide)).trans ((up2_o hV42 (by decide)).trans ((up2_o hV40 (by decide)).trans (up2_o hV38 (by decide))))).trans t21.2.2.2.2.1)]; decide)⟩)
  refine W.know (fun kr1 kr2 => ?_)
  refine W.widen (k := zcc Z) (n := zss Z) (Nat.sub_le _ _) (Nat.sub_le _ _) ?_
  exact W.aret (v := .ref (Z18.fa f19)) hx hb hr (Or.inl ⟨_, rfl⟩) (Or.inr ⟨_, rfl⟩) (fun t ht hW => ⟨⟨(V45, L, Z18, f19), rfl, ⟨hMV45, agV45, rfl, zoZ18, ilf19, rp71, (show (f19 : Int) + 1 = (V45 5 6).toInt from by first | omega | ((try (have i_t27 := Imp.go t27 (by omega))); omega)), rp72, (show (V45 5 9).toInt = 0 from by first | exact om_36161e850215 t24 pq48 | first | omega | ((try (have i_t27 := Imp.go t27 (by omega))); omega)), ip73⟩, ⟨by rw [ht]; exact hP, va_K.moved hW.alike hK, hD⟩, by rw [ht]; exact kr1, by rw [ht]; exact kr2⟩, hS.F ht⟩) hS.2.2 dX5_pushWork_55
abbrev r_x_pushInside9 (Z : XZ) : Room := { frames := 3, cells := zcc Z, slots := zss Z, locals := 66 }
abbrev q_x_pushInside9 (D : va_G) (ks : KS) (ad : Nat → Nat) (kk : Nat → ClassId) (V : Vf) (L : Lf) (Z : XZ) (p1 : Int32) (p2 : Int32) (b : Nat) (gf : Nat) (A : Nat → Prop) : Array Value → State → Outcome → State → Prop := qZv D (fun (u : Vf × Lf × XZ) => rgd bX u.1 ∧ agr [(5, 6), (5, 9)] [67, 68, 69, 70, 71, 72, 73, 74, 75, 76, 77, 78, 79, 80, 81, 82, 83, 84, 85] V u.1 ∧ u.2.1 = L ∧ ZL Z u.2.2 ∧ (MJ u.1 u.2.2 b) ∧ (Imp ((V 5 6).toInt < 400 ∧ (gf : Int) < (V 5 6).toInt) (PIn V u.1 gf ((V 5 6).toInt.toNat) p1 p2))) (fun u => xw ad kk u.1 u.2.1 u.2.2) (fun u => xty kk u.2.2) (fun u => zcc Z - zcc u.2.2) (fun u => zss Z - zss u.2.2) A
set_option maxHeartbeats 4000000 in
set_option maxRecDepth 100000 in
theorem x_pushInside9 (l : Launch) (D : va_G) (ks : KS) (sz : Nat) (ad : Nat → Nat) (kk : Nat → ClassId) (V : Vf) (L : Lf) (Z : XZ) (p1 : Int32) (p2 : Int32) (b : Nat) (gf : Nat) (hMV : rgd bX V) (rg_p1 : 0 ≤ p1.toInt ∧ p1.toInt ≤ 12) (hb2 : b < 2) (hgf : gf < Z.nf) (mt : MT V Z b) (hcm : 0 ≤ (V 71 gf).toInt ∧ (V 71 gf).toInt < (V 43 (5 * b + 2)).toInt) (hob : 0 ≤ (V 70 gf).toInt ∧ (V 70 gf).toInt < (V 3 13).toInt)  : Met l yX5_pushInside (Cond.code yX5_pushInside cX5_pushInside 5 none :: GW) (r_x_pushInside9 Z) (va_Pc [.ref (ad 5), .ref (Z.fa gf), .int p1, .int p2] (gp D ks (xw ad kk V L Z) (xty kk Z) sz)) (q_x_pushInside9 D ks ad kk V L Z p1 p2 b gf (va_A (xw ad kk V L Z) sz)) (zcc Z) (zss Z) (va_A (xw ad kk V L Z) sz) := by
  refine g_met (q_x_pushInside9 D ks ad kk V L Z p1 p2 b gf) (by decide) (Nat.le_of_ble_eq_true rfl) ?_
  intro p e s m below meth c A ls H locs hx hb hr hml hown hg hlocks hin hnw hgk hP hK hD hS hA hl
  have hown : s.vm.findClass RX5 = some m.cls := hown
  have hl : lv_has ls 5 [(0, .ref (ad 5)), (1, .ref (Z.fa gf)), (2, .int p1), (3, .int p2)] := hl
  have hP : va_P D vwCl (xw ad kk V L Z) H := hP
  have hD : va_D A (xw ad kk V L Z) := hD
  have hK : va_K D vwCl (xty kk Z) s := hK
  have agV : agr [(5, 6), (5, 9)] [67, 68, 69, 70, 71, 72, 73, 74, 75, 76, 77, 78, 79, 80, 81, 82, 83, 84, 85] V V := agr.rf
  have zoZ : ZL Z Z := ZL.rf
  refine W.know (fun ka kb => ?_)
  refine W.tight (k := zcc Z - zcc Z) (n := zss Z - zss Z) (by omega) (by omega) ?_
  have r1 : (-1) ≤ ((V 71 gf)).toInt ∧ ((V 71 gf)).toInt ≤ 23 := hMV 71 gf
  have r2 : 0 ≤ ((V 43 (5 * b + 2))).toInt ∧ ((V 43 (5 * b + 2))).toInt ≤ ((xcap (5 * b + 2) : Nat) : Int) := hMV 43 (5 * b + 2)
  have r3 : xcap (5 * b + 2) = 24 := xcap_2
  have r4 : 0 ≤ ((V 3 13)).toInt ∧ ((V 3 13)).toInt ≤ 300 := hMV 3 13
  have r5 : 0 ≤ ((V 5 6)).toInt ∧ ((V 5 6)).toInt ≤ 400 := hMV 5 6
  have kdp := i_clamp (x := V 5 6) rfl (by (first | exact om_eafa9039069c r5.1 | omega))
  have hdn := MT.dn mt (by (first | exact om_eafa9039069c r5.1 | omega))
  have mup := MT.up mt
  have msz := mup.1
  have mbk := mup.2.2.2.1
  refine lv_aload_n hx hb dX5_pushInside_0 rfl (lv_at hl 0 rfl) ?_
  refine lv_iconst (v := 3) hx hb dX5_pushInside_1 (by decide) ?_
  refine lv_aload_n hx hb dX5_pushInside_2 rfl (lv_at hl 1 rfl) ?_
  refine va_getN (D := D) (ci := 4) (v := .int (V 69 gf)) (fs := (xfFrame V gf)) (C := RX4) (T := TX4) (N := 19) hx hb hg inX4 hown hK hP (336 + gf) (xgFrame hgf) rfl 2 (by decide) (hnw.use 1191 n1191 rfl) (fun _ h9 => h9) rfl dX5_pushInside_3 ?_
  refine lv_aload_n hx hb dX5_pushInside_6 rfl (lv_at hl 1 rfl) ?_
  refine va_getN (D := D) (ci := 4) (v := .int (V 70 gf)) (fs := (xfFrame V gf)) (C := RX4) (T := TX4) (N := 19) hx hb hg inX4 hown hK hP (336 + gf) (xgFrame hgf) rfl 3 (by decide) (hnw.use 1192 n1192 rfl) (fun _ h9 => h9) rfl dX5_pushInside_7 ?_
  refine lv_aload_n hx hb dX5_pushInside_10 rfl (lv_at hl 1 rfl) ?_
  refine va_getN (D := D) (ci := 4) (v := .int (V 71 gf)) (fs := (xfFrame V gf)) (C := RX4) (T := TX4) (N := 19) hx hb hg inX4 hown hK hP (336 + gf) (xgFrame hgf) rfl 4 (by decide) (hnw.use 1193 n1193 rfl) (fun _ h9 => h9) rfl dX5_pushInside_11 ?_
  refine lv_aload_n hx hb dX5_pushInside_14 rfl (lv_at hl 1 rfl) ?_
  refine va_getN (D := D) (ci := 4) (v := .int (V 72 gf)) (fs := (xfFrame V gf)) (C := RX4) (T := TX4) (N := 19) hx hb hg inX4 hown hK hP (336 + gf) (xgFrame hgf) rfl 5 (by decide) (hnw.use 1194 n1194 rfl) (fun _ h9 => h9) rfl dX5_pushInside_15 ?_
  have r6 : 0 ≤ ((V 72 gf)).toInt ∧ ((V 72 gf)).toInt ≤ 39 := hMV 72 gf
  have r7 : Int32.toInt 3 = 3 := by decide
  refine W.know (fun k9 k10 => ?_)
  obtain ⟨Hk8, hHk8⟩ : ∃ z, z = H := ⟨_, rfl⟩
  have k9 : Hk8.size ≤ s.heap.size + (zcc Z - zcc Z) := by rw [hHk8]; exact k9
  have k10 : tot Hk8 ≤ tot s.heap + (zss Z - zss Z) := by rw [hHk8]; exact k10
  refine gZ_ref (gA_runV (As := [.int 3, .int (V 69 gf), .int (V 70 gf), .int (V 71 gf), .int (V 72 gf)]) (rest := []) (ci := 5) (q0 := 5) hx hb hml hown hg hP hD hK hS hA hnw hgk (x_push9 l D ks H.size ad kk V L Z 3 (V 69 gf) (V 70 gf) (V 71 gf) (V 72 gf) hMV (by (first | exact om_f52419b73d7d hcm.1 r1.2 | omega)) (by (first | exact om_13ba01c174fe r6.1 r6.2 | omega)) (show (V 5 6).toInt ≤ (Z.nf : Int) from by (first | exact om_cbf4821a2053 hdn.1 | omega)) (show (Z.nf : Int) ≤ 400 from by (first | exact om_16a0bbaa0b2a hdn.2 | omega))) w1180 w1182 w43 w171 w1183 rfl xgMachine hdV_yX5_push ⟨Nat.le_of_ble_eq_true rfl, Nat.le_of_ble_eq_true rfl⟩ rfl hl.1 rfl (Nat.le_of_ble_eq_true rfl) dX5_pushInside_18 ⟨z1 zoZ.1, z1 zoZ.2.1⟩) hD hS hA (fun u12 H locs w13 hP hD hK hS y14 y15 => ?_)
  obtain ⟨V16, L17, Z18, f19⟩ := u12
  obtain ⟨hMV16, ajV16, axL17, zlZ18, ilf19, t20, t21, t22, t23, t24, t25, t26, t27⟩ := w13
  have axL17 : L = L17 := Eq.symm axL17
  subst axL17
  have hP : va_P D vwCl (xw ad kk V16 L Z18) H := hP
  have hD : va_D A (xw ad kk V16 L Z18) := hD
  have hK : va_K D vwCl (xty kk Z18) s := hK
  have hMV16 : rgd bX V16 := hMV16
  have ajV16 : agr [(5, 6), (5, 9)] [67, 68, 69, 70, 71, 72, 73, 74, 75, 76, 77, 78, 79, 80, 81, 82, 83, 84, 85] V V16 := ajV16
  have agV16 : agr [(5, 6), (5, 9)] [67, 68, 69, 70, 71, 72, 73, 74, 75, 76, 77, 78, 79, 80, 81, 82, 83, 84, 85] V V16 := agV.tr ajV16 (by decide) (by decide)
  have zlZ18 : ZL Z Z18 := zlZ18
  have zoZ18 : ZL Z Z18 := ZL.tr zoZ zlZ18
  have ziZ18 := zlZ18.1
  have zjZ18 := zlZ18.2.1
  have zkZ18 := zlZ18.2.2.1
  have zmZ18 := zoZ18.1
  have znZ18 := zoZ18.2.1
  have zpZ_Z18 := zoZ.1
  have zqZ_Z18 := zoZ.2.1
  have y14 : H.size ≤ Hk8.size + (zcc Z - zcc Z18) := by rw [hHk8]; exact y14
  have y15 : tot H ≤ tot Hk8 + (zss Z - zss Z18) := by rw [hHk8]; exact y15
  refine W.tight (k := zcc Z - zcc Z18) (n := zss Z - zss Z18) (by first | exact tg9 y14 k9 zlZ18.1 zoZ.1 | omega) (by first | exact tg9 y15 k10 zlZ18.2.1 zoZ.2.1 | omega) ?_
  have hl : lv_has ls 5 [(0, .ref (ad 5)), (1, .ref (Z18.fa gf)), (2, .int p1), (3, .int p2)] := by rw [zlZ18.2.2.2.2 gf hgf]; exact hl
  have ilf19 : f19 < Z18.nf := ilf19
  have t20 : ME V V16 f19 := t20
  have t21 : V16 67 f19 = 3 ∧ V16 68 f19 = 0 ∧ V16 70 f19 = (V 70 gf) ∧ V16 71 f19 = (V 71 gf) ∧ V16 75 f19 = 0 ∧ V16 76 f19 = 0 := t21
  have t22 : (f19 : Int) + 1 = (V16 5 6).toInt := t22
  have t23 : (f19 : Int) ≤ (V 5 6).toInt ∧ (V 5 6).toInt ≤ (f19 : Int) + 1 := t23
  have t24 : (V16 5 9).toInt = 0 := t24
  have t25 : Z18.ln = Z.ln ∧ Z18.nf ≤ 400 := t25
  have t26 : V16 69 f19 = (V 69 gf) ∧ V16 72 f19 = (V 72 gf) ∧ V16 83 f19 = 0 := t26
  have t27 : Imp ((V 5 6).toInt < 400) ((f19 : Int) = (V 5 6).toInt) := t27
  have r28 : 0 ≤ ((V16 5 6)).toInt ∧ ((V16 5 6)).toInt ≤ 400 := hMV16 5 6
  have r29 : 0 ≤ ((V16 5 9)).toInt ∧ ((V16 5 9)).toInt ≤ 3 := hMV16 5 9
  have pr30 : (V16 67 f19).toInt = 3 := (congrArg Int32.toInt t21.1).trans (by decide)
  have pr31 : (V16 68 f19).toInt = 0 := (congrArg Int32.toInt t21.2.1).trans (by decide)
  have pr32 : (V16 70 f19).toInt = ((V 70 gf)).toInt := (congrArg Int32.toInt t21.2.2.1)
  have pr33 : (V16 71 f19).toInt = ((V 71 gf)).toInt := (congrArg Int32.toInt t21.2.2.2.1)
  have pr34 : (V16 75 f19).toInt = 0 := (congrArg Int32.toInt t21.2.2.2.2.1).trans (by decide)
  have pr35 : (V16 76 f19).toInt = 0 := (congrArg Int32.toInt t21.2.2.2.2.2).trans (by decide)
  refine lv_astore (lv' := [(4, .ref (Z18.fa f19)), (0, .ref (ad 5)), (1, .ref (Z18.fa gf)), (2, .int p1), (3, .int p2)]) hx hb dX5_pushInside_21 hl (by decide) rfl (fun ls hl => ?_)
  refine lv_aload hx hb dX5_pushInside_23 (lv_at hl 0 rfl) ?_
  refine lv_aload_n hx hb dX5_pushInside_25 rfl (lv_at hl 2 rfl) ?_
  have il36 : gf < Z18.nf := by first | omega | ((try (have i_t27 := Imp.go t27 (by omega))); omega)
  refine va_getN (D := D) (ci := 4) (v := .int (V16 73 gf)) (fs := (xfFrame V16 gf)) (C := RX4) (T := TX4) (N := 19) hx hb hg inX4 hown hK hP (336 + gf) (xgFrame il36) rfl 6 (by decide) (hnw.use 1195 n1195 rfl) (fun _ h9 => h9) rfl dX5_pushInside_26 ?_
  have r37 : 0 ≤ ((V16 73 gf)).toInt ∧ ((V16 73 gf)).toInt ≤ 19 := hMV16 73 gf
  refine va_putN (D := D) (ci := 4) (v := .int (V16 73 gf)) (ty := tyX4 6) (fs := (xfFrame V16 f19)) (C := RX4) (T := TX4) (N := 19) hx hb hg inX4 tyX4 tyX4_ok nmX4 hown hK hP hD hS (336 + f19) (xgFrame ilf19) rfl 6 (by decide) (hnw.use 1195 n1195 rfl) (fun _ h9 => h9) rfl (tyX4_ok 6 (by decide)) rfl rfl (Nat.le_of_ble_eq_true rfl) dX5_pushInside_29 (fun H locs hP hD hS => ?_)
  obtain ⟨V38, hV38⟩ : ∃ z, z = up2 V16 73 f19 (V16 73 gf) := ⟨_, rfl⟩
  have ew39 : (xw ad kk V16 L Z18).set (336 + f19) ((Z18.fa f19), .inr (4, (xfFrame V16 f19).set 6 (.int (V16 73 gf)))) = xw ad kk V38 L Z18 := by rw [hV38]; exact xpFrame_method ilf19
  have hP : va_P D vwCl (xw ad kk V38 L Z18) H := by rw [← ew39]; exact hP
  have hD : va_D A (xw ad kk V38 L Z18) := by rw [← ew39]; exact hD
  have hMV38 : rgd bX V38 := hMV16.put hV38 (show 0 ≤ ((V16 73 gf)).toInt ∧ ((V16 73 gf)).toInt ≤ 19 from by first | exact om_0916ac166aa8 r37.1 r37.2 | first | omega | ((try (have i_t27 := Imp.go t27 (by omega))); omega))
  have agV38 : agr [(5, 6), (5, 9)] [67, 68, 69, 70, 71, 72, 73, 74, 75, 76, 77, 78, 79, 80, 81, 82, 83, 84, 85] V V38 := agV16.up hV38 rfl
  refine lv_aload hx hb dX5_pushInside_32 (lv_at hl 0 rfl) ?_
  refine lv_iload_n hx hb dX5_pushInside_34 rfl (lv_at hl 4 rfl) ?_
  refine va_putN (D := D) (ci := 4) (v := .int p2) (ty := tyX4 7) (fs := (xfFrame V38 f19)) (C := RX4) (T := TX4) (N := 19) hx hb hg inX4 tyX4 tyX4_ok nmX4 hown hK hP hD hS (336 + f19) (xgFrame ilf19) rfl 7 (by decide) (hnw.use 1196 n1196 rfl) (fun _ h9 => h9) rfl (tyX4_ok 7 (by decide)) rfl rfl (Nat.le_of_ble_eq_true rfl) dX5_pushInside_35 (fun H locs hP hD hS => ?_)
  obtain ⟨V40, hV40⟩ : ∃ z, z = up2 V38 74 f19 p2 := ⟨_, rfl⟩
  have ew41 : (xw ad kk V38 L Z18).set (336 + f19) ((Z18.fa f19), .inr (4, (xfFrame V38 f19).set 7 (.int p2))) = xw ad kk V40 L Z18 := by rw [hV40]; exact xpFrame_arg ilf19
  have hP : va_P D vwCl (xw ad kk V40 L Z18) H := by rw [← ew41]; exact hP
  have hD : va_D A (xw ad kk V40 L Z18) := by rw [← ew41]; exact hD
  have hMV40 : rgd bX V40 := hMV38.put hV40 (i_full _)
  have agV40 : agr [(5, 6), (5, 9)] [67, 68, 69, 70, 71, 72, 73, 74, 75, 76, 77, 78, 79, 80, 81, 82, 83, 84, 85] V V40 := agV38.up hV40 rfl
  refine lv_aload hx hb dX5_pushInside_38 (lv_at hl 0 rfl) ?_
  refine lv_iload_n hx hb dX5_pushInside_40 rfl (lv_at hl 3 rfl) ?_
  refine va_putN (D := D) (ci := 4) (v := .int p1) (ty := tyX4 8) (fs := (xfFrame V40 f19)) (C := RX4) (T := TX4) (N := 19) hx hb hg inX4 tyX4 tyX4_ok nmX4 hown hK hP hD hS (336 + f19) (xgFrame ilf19) rfl 8 (by decide) (hnw.use 1197 n1197 rfl) (fun _ h9 => h9) rfl (tyX4_ok 8 (by decide)) rfl rfl (Nat.le_of_ble_eq_true rfl) dX5_pushInside_41 (fun H locs hP hD hS => ?_)
  obtain ⟨V42, hV42⟩ : ∃ z, z = up2 V40 75 f19 p1 := ⟨_, rfl⟩
  have ew43 : (xw ad kk V40 L Z18).set (336 + f19) ((Z18.fa f19), .inr (4, (xfFrame V40 f19).set 8 (.int p1))) = xw ad kk V42 L Z18 := by rw [hV42]; exact xpFrame_position ilf19
  have hP : va_P D vwCl (xw ad kk V42 L Z18) H := by rw [← ew43]; exact hP
  have hD : va_D A (xw ad kk V42 L Z18) := by rw [← ew43]; exact hD
  have hMV42 : rgd bX V42 := hMV40.put hV42 (show 0 ≤ p1.toInt ∧ p1.toInt ≤ 12 from by first | exact om_8dd06492493b rg_p1.1 rg_p1.2 | first | omega | ((try (have i_t27 := Imp.go t27 (by omega))); omega))
  have agV42 : agr [(5, 6), (5, 9)] [67, 68, 69, 70, 71, 72, 73, 74, 75, 76, 77, 78, 79, 80, 81, 82, 83, 84, 85] V V42 := agV40.up hV42 rfl
  have me44 : ME V V42 f19 := (ME.up (ME.up (ME.up (ME.tr ME.rf t20) hV38 (Or.inl ⟨by decide, by decide, Nat.le_refl _⟩)) hV40 (Or.inl ⟨by decide, by decide, Nat.le_refl _⟩)) hV42 (Or.inl ⟨by decide, by decide, Nat.le_refl _⟩))
  have pq45 : (V42 67 f19).toInt = ((V16 67 f19)).toInt := congrArg Int32.toInt ((up2_o hV42 (by decide)).trans ((up2_o hV40 (by decide)).trans (up2_o hV38 (by decide))))
  have pq46 : (V42 68 f19).toInt = ((V16 68 f19)).toInt := congrArg Int32.toInt ((up2_o hV42 (by decide)).trans ((up2_o hV40 (by decide)).trans (up2_o hV38 (by decide))))
  have pq47 : (V42 70 f19).toInt = ((V16 70 f19)).toInt := congrArg Int32.toInt ((up2_o hV42 (by decide)).trans ((up2_o hV40 (by decide)).trans (up2_o hV38 (by decide))))
  have pq48 : (V42 71 f19).toInt = ((V16 71 f19)).toInt := congrArg Int32.toInt ((up2_o hV42 (by decide)).trans ((up2_o hV40 (by decide)).trans (up2_o hV38 (by decide))))
  have r49 : (-1) ≤ ((V16 71 f19)).toInt ∧ ((V16 71 f19)).toInt ≤ 23 := hMV16 71 f19
  have pq50 : (V42 75 f19).toInt = p1.toInt := congrArg Int32.toInt (up2_s hV42)
  have pq51 : (V42 76 f19).toInt = ((V16 76 f19)).toInt := congrArg Int32.toInt ((up2_o hV42 (by decide)).trans ((up2_o hV40 (by decide)).trans (up2_o hV38 (by decide))))
  have pq52 : (V42 80 f19).toInt = ((V16 80 f19)).toInt := congrArg Int32.toInt ((up2_o hV42 (by decide)).trans ((up2_o hV40 (by decide)).trans (up2_o hV38 (by decide))))
  have r53 : 0 ≤ ((V16 80 f19)).toInt ∧ ((V16 80 f19)).toInt ≤ 300 := hMV16 80 f19
  have pq54 : (V42 84 f19).toInt = ((V16 84 f19)).toInt := congrArg Int32.toInt ((up2_o hV42 (by decide)).trans ((up2_o hV40 (by decide)).trans (up2_o hV38 (by decide))))
  have r55 : 0 ≤ ((V16 84 f19)).toInt ∧ ((V16 84 f19)).toInt ≤ 2147483647 := hMV16 84 f19
  have pq56 : (V42 5 6).toInt = ((V16 5 6)).toInt := congrArg Int32.toInt ((up2_o hV42 (by decide)).trans ((up2_o hV40 (by decide)).trans (up2_o hV38 (by decide))))
  have pq57 : (V42 5 8).toInt = ((V 5 8)).toInt := congrArg Int32.toInt ((up2_o hV42 (by decide)).trans ((up2_o hV40 (by decide)).trans ((up2_o hV38 (by decide)).trans (ajV16 5 8 rfl))))
  have r58 : 0 ≤ ((V 5 8)).toInt ∧ ((V 5 8)).toInt ≤ 300 := hMV 5 8
  have pq59 : (V42 5 9).toInt = ((V16 5 9)).toInt := congrArg Int32.toInt ((up2_o hV42 (by decide)).trans ((up2_o hV40 (by decide)).trans (up2_o hV38 (by decide))))
  have pq60 : (V42 3 13).toInt = ((V 3 13)).toInt := congrArg Int32.toInt ((up2_o hV42 (by decide)).trans ((up2_o hV40 (by decide)).trans ((up2_o hV38 (by decide)).trans (ajV16 3 13 rfl))))
  have pq61 : (V42 43 (5 * b + 2)).toInt = ((V 43 (5 * b + 2))).toInt := congrArg Int32.toInt ((up2_o hV42 (by decide)).trans ((up2_o hV40 (by decide)).trans ((up2_o hV38 (by decide)).trans (ajV16 43 (5 * b + 2) rfl))))
  have pq62 : (V42 42 b).toInt = ((V 42 b)).toInt := congrArg Int32.toInt ((up2_o hV42 (by decide)).trans ((up2_o hV40 (by decide)).trans ((up2_o hV38 (by decide)).trans (ajV16 42 b rfl))))
  have r63 : 0 ≤ ((V 42 b)).toInt ∧ ((V 42 b)).toInt ≤ 8200 := hMV 42 b
  have pq64 : (V42 41 b).toInt = ((V 41 b)).toInt := congrArg Int32.toInt ((up2_o hV42 (by decide)).trans ((up2_o hV40 (by decide)).trans ((up2_o hV38 (by decide)).trans (ajV16 41 b rfl))))
  have r65 : 0 ≤ ((V 41 b)).toInt ∧ ((V 41 b)).toInt ≤ 12 := hMV 41 b
  have rp66 : MJ V42 Z18 b := MT.pu (v := False) mt (by omega) me44 t25.1 (by omega) t25.2 (FK.k3 (by omega) (by omega) (by omega) (by omega)) (fun h => absurd h (by omega)) (by omega) (by omega)
  have ip67 : Imp ((V 5 6).toInt < 400 ∧ (gf : Int) < (V 5 6).toInt) (PIn V V42 gf ((V 5 6).toInt.toNat) p1 p2) := Imp.mk (fun hp => by
    have hp1 : (V 5 6).toInt < 400 := hp.1
    have hp2 : (gf : Int) < (V 5 6).toInt := hp.2
    have fe9 := Imp.go t27 (by (first | exact om_cb6592a7774c hp1 | omega))
    have fi9 : (V 5 6).toInt.toNat = f19 := by omega
    have me68 : ME V V42 f19 := (ME.up (ME.up (ME.up (ME.tr ME.rf t20) hV38 (Or.inl ⟨by decide, by decide, Nat.le_refl _⟩)) hV40 (Or.inl ⟨by decide, by decide, Nat.le_refl _⟩)) hV42 (Or.inl ⟨by decide, by decide, Nat.le_refl _⟩))
    rw [fi9]
    exact ⟨⟨by omega, by omega, fun j hj c h1 h2 => me68.2.1 c j h1 h2 hj⟩, ⟨by rw [(((up2_o hV42 (by decide)).trans ((up2_o hV40 (by decide)).trans (up2_o hV38 (by decide)))).trans t21.1)]; decide, by rw [(((up2_o hV42 (by decide)).trans ((up2_o hV40 (by decide)).trans (up2_o hV38 (by decide)))).trans t21.2.1)]; decide⟩, ⟨(((up2_o hV42 (by decide)).trans ((up2_o hV40 (by decide)).trans (up2_o hV38 (by decide)))).trans t26.1), (((up2_o hV42 (by decide)).trans ((up2_o hV40 (by decide)).trans (up2_o hV38 (by decide)))).trans t21.2.2.1), (((up2_o hV42 (by decide)).trans ((up2_o hV40 (by decide)).trans (up2_o hV38 (by decide)))).trans t21.2.2.2.1), (((up2_o hV42 (by decide)).trans ((up2_o hV40 (by decide)).trans (up2_o hV38 (by decide)))).trans t26.2.1), (((up2_o hV42 (by decide)).trans ((up2_o hV40 (by decide)).trans (up2_s hV38))).trans (t20.2.1 73 gf (by decide) (by decide) (by omega)))⟩, ((up2_o hV42 (by decide)).trans (up2_s hV40)), (up2_s hV42)⟩)
  refine W.know (fun kr1 kr2 => ?_)
  refine W.widen (k := zcc Z) (n := zss Z) (Nat.sub_le _ _) (Nat.sub_le _ _) ?_
  exact W.vret hx hb hr (fun t ht hW => ⟨⟨(V42, L, Z18), rfl, ⟨hMV42, agV42, rfl, zoZ18, rp66, ip67⟩, ⟨by rw [ht]; exact hP, va_K.moved hW.alike hK, hD⟩, by rw [ht]; exact kr1, by rw [ht]; exact kr2⟩, hS.F ht⟩) hS.2.2 dX5_pushInside_44
abbrev r_x_pushRoot9 (Z : XZ) : Room := { frames := 3, cells := zcc Z, slots := zss Z, locals := 66 }
abbrev q_x_pushRoot9 (D : va_G) (ks : KS) (ad : Nat → Nat) (kk : Nat → ClassId) (V : Vf) (L : Lf) (Z : XZ) (p0 : Int32) (p1 : Int32) (p2 : Int32) (b : Nat) (A : Nat → Prop) : Array Value → State → Outcome → State → Prop := qZv D (fun (u : Vf × Lf × XZ) => rgd bX u.1 ∧ agr [(5, 6), (5, 9)] [67, 68, 69, 70, 71, 72, 73, 74, 75, 76, 77, 78, 79, 80, 81, 82, 83, 84, 85] V u.1 ∧ u.2.1 = L ∧ ZL Z u.2.2 ∧ (MJ u.1 u.2.2 b) ∧ (Imp ((V 5 6).toInt < 400) (PRo V u.1 ((V 5 6).toInt.toNat) p0 p1 p2))) (fun u => xw ad kk u.1 u.2.1 u.2.2) (fun u => xty kk u.2.2) (fun u => zcc Z - zcc u.2.2) (fun u => zss Z - zss u.2.2) A
set_option maxHeartbeats 4000000 in
set_option maxRecDepth 100000 in
theorem x_pushRoot9 (l : Launch) (D : va_G) (ks : KS) (sz : Nat) (ad : Nat → Nat) (kk : Nat → ClassId) (V : Vf) (L : Lf) (Z : XZ) (p0 : Int32) (p1 : Int32) (p2 : Int32) (b : Nat) (hMV : rgd bX V) (rg_p0 : (-1) ≤ p0.toInt ∧ p0.toInt ≤ 23) (rg_p1 : 0 ≤ p1.toInt ∧ p1.toInt ≤ 39) (hb2 : b < 2) (mt : MTr V Z b)  : Met l yX5_pushRoot (Cond.code yX5_pushRoot cX5_pushRoot 5 none :: GW) (r_x_pushRoot9 Z) (va_Pc [.ref (ad 5), .int p0, .int p1, .int p2] (gp D ks (xw ad kk V L Z) (xty kk Z) sz)) (q_x_pushRoot9 D ks ad kk V L Z p0 p1 p2 b (va_A (xw ad kk V L Z) sz)) (zcc Z) (zss Z) (va_A (xw ad kk V L Z) sz) := by
  refine g_met (q_x_pushRoot9 D ks ad kk V L Z p0 p1 p2 b) (by decide) (Nat.le_of_ble_eq_true rfl) ?_
  intro p e s m below meth c A ls H locs hx hb hr hml hown hg hlocks hin hnw hgk hP hK hD hS hA hl
  have hown : s.vm.findClass RX5 = some m.cls := hown
  have hl : lv_has ls 5 [(0, .ref (ad 5)), (1, .int p0), (2, .int p1), (3, .int p2)] := hl
  have hP : va_P D vwCl (xw ad kk V L Z) H := hP
  have hD : va_D A (xw ad kk V L Z) := hD
  have hK : va_K D vwCl (xty kk Z) s := hK
  have agV : agr [(5, 6), (5, 9)] [67, 68, 69, 70, 71, 72, 73, 74, 75, 76, 77, 78, 79, 80, 81, 82, 83, 84, 85] V V := agr.rf
  have zoZ : ZL Z Z := ZL.rf
  refine W.know (fun ka kb => ?_)
  refine W.tight (k := zcc Z - zcc Z) (n := zss Z - zss Z) (by omega) (by omega) ?_
  have r1 : 0 ≤ ((V 5 6)).toInt ∧ ((V 5 6)).toInt ≤ 400 := hMV 5 6
  have kdp := i_clamp (x := V 5 6) rfl (by (first | exact om_eafa9039069c r1.1 | omega))
  have hdn := MTr.dn mt (by (first | exact om_eafa9039069c r1.1 | omega))
  have mup := MTr.up mt
  have msz := mup.1
  have mbk := mup.2.2.2.1
  refine lv_aload_n hx hb dX5_pushRoot_0 rfl (lv_at hl 0 rfl) ?_
  refine lv_iconst (v := 0) hx hb dX5_pushRoot_1 (by decide) ?_
  refine lv_iload_n hx hb dX5_pushRoot_2 rfl (lv_at hl 3 rfl) ?_
  refine lv_iconst (v := (-1)) hx hb dX5_pushRoot_3 (by decide) ?_
  refine lv_iload_n hx hb dX5_pushRoot_4 rfl (lv_at hl 1 rfl) ?_
  refine lv_iload_n hx hb dX5_pushRoot_5 rfl (lv_at hl 2 rfl) ?_
  have r2 : Int32.toInt 0 = 0 := by decide
  have r3 : Int32.toInt (-1) = (-1) := by decide
  refine W.know (fun k5 k6 => ?_)
  obtain ⟨Hk4, hHk4⟩ : ∃ z, z = H := ⟨_, rfl⟩
  have k5 : Hk4.size ≤ s.heap.size + (zcc Z - zcc Z) := by rw [hHk4]; exact k5
  have k6 : tot Hk4 ≤ tot s.heap + (zss Z - zss Z) := by rw [hHk4]; exact k6
  refine gZ_ref (gA_runV (As := [.int 0, .int p2, .int (-1), .int p0, .int p1]) (rest := []) (ci := 5) (q0 := 5) hx hb hml hown hg hP hD hK hS hA hnw hgk (x_push9 l D ks H.size ad kk V L Z 0 p2 (-1) p0 p1 hMV (by (first | exact om_b5ea211f5a81 rg_p0.1 rg_p0.2 | omega)) (by (first | exact om_13ba01c174fe rg_p1.1 rg_p1.2 | omega)) (show (V 5 6).toInt ≤ (Z.nf : Int) from by (first | exact om_cbf4821a2053 hdn.1 | omega)) (show (Z.nf : Int) ≤ 400 from by (first | exact om_16a0bbaa0b2a hdn.2 | omega))) w1180 w1182 w43 w171 w1183 rfl xgMachine hdV_yX5_push ⟨Nat.le_of_ble_eq_true rfl, Nat.le_of_ble_eq_true rfl⟩ rfl hl.1 rfl (Nat.le_of_ble_eq_true rfl) dX5_pushRoot_6 ⟨z1 zoZ.1, z1 zoZ.2.1⟩) hD hS hA (fun u8 H locs w9 hP hD hK hS y10 y11 => ?_)
  obtain ⟨V12, L13, Z14, f15⟩ := u8
  obtain ⟨hMV12, ajV12, axL13, zlZ14, ilf15, t16, t17, t18, t19, t20, t21, t22, t23⟩ := w9
  have axL13 : L = L13 := Eq.symm axL13
  subst axL13
  have hP : va_P D vwCl (xw ad kk V12 L Z14) H := hP
  have hD : va_D A (xw ad kk V12 L Z14) := hD
  have hK : va_K D vwCl (xty kk Z14) s := hK
  have hMV12 : rgd bX V12 := hMV12
  have ajV12 : agr [(5, 6), (5, 9)] [67, 68, 69, 70, 71, 72, 73, 74, 75, 76, 77, 78, 79, 80, 81, 82, 83, 84, 85] V V12 := ajV12
  have agV12 : agr [(5, 6), (5, 9)] [67, 68, 69, 70, 71, 72, 73, 74, 75, 76, 77, 78, 79, 80, 81, 82, 83, 84, 85] V V12 := agV.tr ajV12 (by decide) (by decide)
  have zlZ14 : ZL Z Z14 := zlZ14
  have zoZ14 : ZL Z Z14 := ZL.tr zoZ zlZ14
  have ziZ14 := zlZ14.1
  have zjZ14 := zlZ14.2.1
  have zkZ14 := zlZ14.2.2.1
  have zmZ14 := zoZ14.1
  have znZ14 := zoZ14.2.1
  have zpZ_Z14 := zoZ.1
  have zqZ_Z14 := zoZ.2.1
  have y10 : H.size ≤ Hk4.size + (zcc Z - zcc Z14) := by rw [hHk4]; exact y10
  have y11 : tot H ≤ tot Hk4 + (zss Z - zss Z14) := by rw [hHk4]; exact y11
  refine W.tight (k := zcc Z - zcc Z14) (n := zss Z - zss Z14) (by first | exact tg9 y10 k5 zlZ14.1 zoZ.1 | omega) (by first | exact tg9 y11 k6 zlZ14.2.1 zoZ.2.1 | omega) ?_
  have ilf15 : f15 < Z14.nf := ilf15
  have t16 : ME V V12 f15 := t16
  have t17 : V12 67 f15 = 0 ∧ V12 68 f15 = 0 ∧ V12 70 f15 = (-1) ∧ V12 71 f15 = p0 ∧ V12 75 f15 = 0 ∧ V12 76 f15 = 0 := t17
  have t18 : (f15 : Int) + 1 = (V12 5 6).toInt := t18
  have t19 : (f15 : Int) ≤ (V 5 6).toInt ∧ (V 5 6).toInt ≤ (f15 : Int) + 1 := t19
  have t20 : (V12 5 9).toInt = 0 := t20
  have t21 : Z14.ln = Z.ln ∧ Z14.nf ≤ 400 := t21
  have t22 : V12 69 f15 = p2 ∧ V12 72 f15 = p1 ∧ V12 83 f15 = 0 := t22
  have t23 : Imp ((V 5 6).toInt < 400) ((f15 : Int) = (V 5 6).toInt) := t23
  have r24 : 0 ≤ ((V12 5 6)).toInt ∧ ((V12 5 6)).toInt ≤ 400 := hMV12 5 6
  have r25 : 0 ≤ ((V12 5 9)).toInt ∧ ((V12 5 9)).toInt ≤ 3 := hMV12 5 9
  have pr26 : (V12 67 f15).toInt = 0 := (congrArg Int32.toInt t17.1).trans (by decide)
  have pr27 : (V12 68 f15).toInt = 0 := (congrArg Int32.toInt t17.2.1).trans (by decide)
  have pr28 : (V12 70 f15).toInt = (-1) := (congrArg Int32.toInt t17.2.2.1).trans (by decide)
  have pr29 : (V12 71 f15).toInt = p0.toInt := (congrArg Int32.toInt t17.2.2.2.1)
  have pr30 : (V12 75 f15).toInt = 0 := (congrArg Int32.toInt t17.2.2.2.2.1).trans (by decide)
  have pr31 : (V12 76 f15).toInt = 0 := (congrArg Int32.toInt t17.2.2.2.2.2).trans (by decide)
  refine lv_astore (lv' := [(4, .ref (Z14.fa f15)), (0, .ref (ad 5)), (1, .int p0), (2, .int p1), (3, .int p2)]) hx hb dX5_pushRoot_9 hl (by decide) rfl (fun ls hl => ?_)
  refine lv_aload hx hb dX5_pushRoot_11 (lv_at hl 0 rfl) ?_
  refine lv_aload_n hx hb dX5_pushRoot_13 rfl (lv_at hl 1 rfl) ?_
  refine va_get (D := D) (ci := 5) (v := .int (V12 5 8)) (fs := (xfMachine ad V12 L Z14)) (C := RX5) (T := TX5) (N := 15) hx hb hg inX5 hown hK hP 5 xgMachine rfl 8 (by decide) (hg _ w675) (fun _ h9 => h9) rfl dX5_pushRoot_14 ?_
  refine g_top (v := (V 5 8)) (ajV12 5 8 rfl) ?_
  have r32 : 0 ≤ ((V 5 8)).toInt ∧ ((V 5 8)).toInt ≤ 300 := hMV 5 8
  refine va_putN (D := D) (ci := 4) (v := .int (V 5 8)) (ty := tyX4 13) (fs := (xfFrame V12 f15)) (C := RX4) (T := TX4) (N := 19) hx hb hg inX4 tyX4 tyX4_ok nmX4 hown hK hP hD hS (336 + f15) (xgFrame ilf15) rfl 13 (by decide) (hnw.use 1202 n1202 rfl) (fun _ h9 => h9) rfl (tyX4_ok 13 (by decide)) rfl rfl (Nat.le_of_ble_eq_true rfl) dX5_pushRoot_17 (fun H locs hP hD hS => ?_)
  obtain ⟨V33, hV33⟩ : ∃ z, z = up2 V12 80 f15 (V 5 8) := ⟨_, rfl⟩
  have ew34 : (xw ad kk V12 L Z14).set (336 + f15) ((Z14.fa f15), .inr (4, (xfFrame V12 f15).set 13 (.int (V 5 8)))) = xw ad kk V33 L Z14 := by rw [hV33]; exact xpFrame_mark ilf15
  have hP : va_P D vwCl (xw ad kk V33 L Z14) H := by rw [← ew34]; exact hP
  have hD : va_D A (xw ad kk V33 L Z14) := by rw [← ew34]; exact hD
  have hMV33 : rgd bX V33 := hMV12.put hV33 (show 0 ≤ ((V 5 8)).toInt ∧ ((V 5 8)).toInt ≤ 300 from by first | exact om_c7b5e7b90639 r32.1 r32.2 | first | omega | ((try (have i_t23 := Imp.go t23 (by omega))); omega))
  have agV33 : agr [(5, 6), (5, 9)] [67, 68, 69, 70, 71, 72, 73, 74, 75, 76, 77, 78, 79, 80, 81, 82, 83, 84, 85] V V33 := agV12.up hV33 rfl
  have me35 : ME V V33 f15 := (ME.up (ME.tr ME.rf t16) hV33 (Or.inl ⟨by decide, by decide, Nat.le_refl _⟩))
  have pq36 : (V33 67 f15).toInt = ((V12 67 f15)).toInt := congrArg Int32.toInt (up2_o hV33 (by decide))
  have pq37 : (V33 68 f15).toInt = ((V12 68 f15)).toInt := congrArg Int32.toInt (up2_o hV33 (by decide))
  have pq38 : (V33 70 f15).toInt = ((V12 70 f15)).toInt := congrArg Int32.toInt (up2_o hV33 (by decide))
  have pq39 : (V33 71 f15).toInt = ((V12 71 f15)).toInt := congrArg Int32.toInt (up2_o hV33 (by decide))
  have r40 : (-1) ≤ ((V12 71 f15)).toInt ∧ ((V12 71 f15)).toInt ≤ 23 := hMV12 71 f15
  have pq41 : (V33 75 f15).toInt = ((V12 75 f15)).toInt := congrArg Int32.toInt (up2_o hV33 (by decide))
  have r42 : 0 ≤ ((V12 75 f15)).toInt ∧ ((V12 75 f15)).toInt ≤ 12 := hMV12 75 f15
  have pq43 : (V33 76 f15).toInt = ((V12 76 f15)).toInt := congrArg Int32.toInt (up2_o hV33 (by decide))
  have pq44 : (V33 80 f15).toInt = ((V 5 8)).toInt := congrArg Int32.toInt (up2_s hV33)
  have pq45 : (V33 84 f15).toInt = ((V12 84 f15)).toInt := congrArg Int32.toInt (up2_o hV33 (by decide))
  have r46 : 0 ≤ ((V12 84 f15)).toInt ∧ ((V12 84 f15)).toInt ≤ 2147483647 := hMV12 84 f15
  have pq47 : (V33 5 6).toInt = ((V12 5 6)).toInt := congrArg Int32.toInt (up2_o hV33 (by decide))
  have pq48 : (V33 5 8).toInt = ((V 5 8)).toInt := congrArg Int32.toInt ((up2_o hV33 (by decide)).trans (ajV12 5 8 rfl))
  have pq49 : (V33 5 9).toInt = ((V12 5 9)).toInt := congrArg Int32.toInt (up2_o hV33 (by decide))
  have pq50 : (V33 3 13).toInt = ((V 3 13)).toInt := congrArg Int32.toInt ((up2_o hV33 (by decide)).trans (ajV12 3 13 rfl))
  have r51 : 0 ≤ ((V 3 13)).toInt ∧ ((V 3 13)).toInt ≤ 300 := hMV 3 13
  have pq52 : (V33 43 (5 * b + 2)).toInt = ((V 43 (5 * b + 2))).toInt := congrArg Int32.toInt ((up2_o hV33 (by decide)).trans (ajV12 43 (5 * b + 2) rfl))
  have r53 : 0 ≤ ((V 43 (5 * b + 2))).toInt ∧ ((V 43 (5 * b + 2))).toInt ≤ ((xcap (5 * b + 2) : Nat) : Int) := hMV 43 (5 * b + 2)
  have r54 : xcap (5 * b + 2) = 24 := xcap_2
  have pq55 : (V33 42 b).toInt = ((V 42 b)).toInt := congrArg Int32.toInt ((up2_o hV33 (by decide)).trans (ajV12 42 b rfl))
  have r56 : 0 ≤ ((V 42 b)).toInt ∧ ((V 42 b)).toInt ≤ 8200 := hMV 42 b
  have pq57 : (V33 41 b).toInt = ((V 41 b)).toInt := congrArg Int32.toInt ((up2_o hV33 (by decide)).trans (ajV12 41 b rfl))
  have r58 : 0 ≤ ((V 41 b)).toInt ∧ ((V 41 b)).toInt ≤ 12 := hMV 41 b
  have rp59 : MJ V33 Z14 b := MTr.pu (v := False) mt (by omega) me35 t21.1 (by omega) t21.2 (FK.k0 (by omega) (by omega)) (fun _ => (up2_s hV33).trans ((up2_o hV33 (by decide)).trans (ajV12 5 8 rfl)).symm) (by omega) (by omega) (by omega)
  have ip60 : Imp ((V 5 6).toInt < 400) (PRo V V33 ((V 5 6).toInt.toNat) p0 p1 p2) := Imp.mk (fun hp => by
    have hp1 : (V 5 6).toInt < 400 := hp
    have fe9 := Imp.go t23 (by (first | exact om_cb6592a7774c hp1 | omega))
    have fi9 : (V 5 6).toInt.toNat = f15 := by omega
    have me61 : ME V V33 f15 := (ME.up (ME.tr ME.rf t16) hV33 (Or.inl ⟨by decide, by decide, Nat.le_refl _⟩))
    rw [fi9]
    exact ⟨⟨by omega, by omega, fun j hj c h1 h2 => me61.2.1 c j h1 h2 hj⟩, ⟨by rw [((up2_o hV33 (by decide)).trans t17.1)]; decide, by rw [((up2_o hV33 (by decide)).trans t17.2.1)]; decide⟩, ((up2_o hV33 (by decide)).trans t22.1), ((up2_o hV33 (by decide)).trans t17.2.2.2.1), ((up2_o hV33 (by decide)).trans t22.2.1), (up2_s hV33), ((up2_o hV33 (by decide)).trans t22.2.2)⟩)
  refine W.know (fun kr1 kr2 => ?_)
  refine W.widen (k := zcc Z) (n := zss Z) (Nat.sub_le _ _) (Nat.sub_le _ _) ?_
  exact W.vret hx hb hr (fun t ht hW => ⟨⟨(V33, L, Z14), rfl, ⟨hMV33, agV33, rfl, zoZ14, rp59, ip60⟩, ⟨by rw [ht]; exact hP, va_K.moved hW.alike hK, hD⟩, by rw [ht]; exact kr1, by rw [ht]; exact kr2⟩, hS.F ht⟩) hS.2.2 dX5_pushRoot_20
abbrev r_x_pushCall9 (Z : XZ) : Room := { frames := 3, cells := zcc Z, slots := zss Z, locals := 66 }
abbrev q_x_pushCall9 (D : va_G) (ks : KS) (ad : Nat → Nat) (kk : Nat → ClassId) (V : Vf) (L : Lf) (Z : XZ) (p0 : Int32) (p1 : Int32) (p2 : Int32) (p3 : Int32) (p4 : Int32) (b : Nat) (A : Nat → Prop) : Array Value → State → Outcome → State → Prop := qZv D (fun (u : Vf × Lf × XZ) => rgd bX u.1 ∧ agr [(5, 6), (5, 9)] [67, 68, 69, 70, 71, 72, 73, 74, 75, 76, 77, 78, 79, 80, 81, 82, 83, 84, 85] V u.1 ∧ u.2.1 = L ∧ ZL Z u.2.2 ∧ (MJ u.1 u.2.2 b) ∧ (Imp ((V 5 6).toInt < 400) (PCa V u.1 ((V 5 6).toInt.toNat) p0 p1 p2 p3 p4))) (fun u => xw ad kk u.1 u.2.1 u.2.2) (fun u => xty kk u.2.2) (fun u => zcc Z - zcc u.2.2) (fun u => zss Z - zss u.2.2) A
set_option maxHeartbeats 4000000 in
set_option maxRecDepth 100000 in
theorem x_pushCall9 (l : Launch) (D : va_G) (ks : KS) (sz : Nat) (ad : Nat → Nat) (kk : Nat → ClassId) (V : Vf) (L : Lf) (Z : XZ) (p0 : Int32) (p1 : Int32) (p2 : Int32) (p3 : Int32) (p4 : Int32) (b : Nat) (hMV : rgd bX V) (rg_p1 : 0 ≤ p1.toInt ∧ p1.toInt ≤ 39) (rg_p2 : 0 ≤ p2.toInt ∧ p2.toInt ≤ 19) (hb2 : b < 2) (mt : MT V Z b)  : Met l yX5_pushCall (Cond.code yX5_pushCall cX5_pushCall 7 none :: GW) (r_x_pushCall9 Z) (va_Pc [.ref (ad 5), .int p0, .int p1, .int p2, .int p3, .int p4] (gp D ks (xw ad kk V L Z) (xty kk Z) sz)) (q_x_pushCall9 D ks ad kk V L Z p0 p1 p2 p3 p4 b (va_A (xw ad kk V L Z) sz)) (zcc Z) (zss Z) (va_A (xw ad kk V L Z) sz) := by
  refine g_met (q_x_pushCall9 D ks ad kk V L Z p0 p1 p2 p3 p4 b) (by decide) (Nat.le_of_ble_eq_true rfl) ?_
  intro p e s m below meth c A ls H locs hx hb hr hml hown hg hlocks hin hnw hgk hP hK hD hS hA hl
  have hown : s.vm.findClass RX5 = some m.cls := hown
  have hl : lv_has ls 7 [(0, .ref (ad 5)), (1, .int p0), (2, .int p1), (3, .int p2), (4, .int p3), (5, .int p4)] := hl
  have hP : va_P D vwCl (xw ad kk V L Z) H := hP
  have hD : va_D A (xw ad kk V L Z) := hD
  have hK : va_K D vwCl (xty kk Z) s := hK
  have agV : agr [(5, 6), (5, 9)] [67, 68, 69, 70, 71, 72, 73, 74, 75, 76, 77, 78, 79, 80, 81, 82, 83, 84, 85] V V := agr.rf
  have zoZ : ZL Z Z := ZL.rf
  refine W.know (fun ka kb => ?_)
  refine W.tight (k := zcc Z - zcc Z) (n := zss Z - zss Z) (by omega) (by omega) ?_
  have r1 : 0 ≤ ((V 5 6)).toInt ∧ ((V 5 6)).toInt ≤ 400 := hMV 5 6
  have kdp := i_clamp (x := V 5 6) rfl (by (first | exact om_eafa9039069c r1.1 | omega))
  have hdn := MT.dn mt (by (first | exact om_eafa9039069c r1.1 | omega))
  have mup := MT.up mt
  have msz := mup.1
  have mbk := mup.2.2.2.1
  refine lv_aload_n hx hb dX5_pushCall_0 rfl (lv_at hl 0 rfl) ?_
  refine lv_iconst (v := 2) hx hb dX5_pushCall_1 (by decide) ?_
  refine lv_iload hx hb dX5_pushCall_2 (lv_at hl 5 rfl) ?_
  refine lv_iload_n hx hb dX5_pushCall_4 rfl (lv_at hl 1 rfl) ?_
  refine lv_aload_n hx hb dX5_pushCall_5 rfl (lv_at hl 0 rfl) ?_
  refine va_get (D := D) (ci := 5) (v := .ref (ad 3)) (fs := (xfMachine ad V L Z)) (C := RX5) (T := TX5) (N := 15) hx hb hg inX5 hown hK hP 5 xgMachine rfl 0 (by decide) (hg _ w667) (fun _ h9 => h9) rfl dX5_pushCall_6 ?_
  refine lv_iload_n hx hb dX5_pushCall_9 rfl (lv_at hl 1 rfl) ?_
  refine gA_int (gA_runV (As := [.int p0]) (rest := [.int p0, .int p4, .int 2, .ref (ad 5)]) (ci := 8) (q0 := 3) hx hb hml hown hg hP hD hK hS hA hnw hgk (x_componentOf9 l D ks H.size ad kk V L Z p0 hMV ) w1324 w1325 w1326 w164 w1327 rfl xgStock hdV_yX8_componentOf ⟨Nat.le_of_ble_eq_true rfl, Nat.le_of_ble_eq_true rfl⟩ rfl hl.1 rfl (Nat.le_of_ble_eq_true rfl) dX5_pushCall_10 ⟨z0, z0⟩) hP hD hK hS hA (fun z2 u3 H locs w4 hP hD hK hS => ?_)
  obtain ⟨rgz2, t5, t6⟩ := w4
  have rgz2 : 0 ≤ z2.toInt ∧ z2.toInt ≤ 23 := rgz2
  have t5 : ∀ n : Int, 0 < n → (∀ o : Nat, (o : Int) < (V 3 13).toInt → (V 26 o).toInt < n) → z2.toInt < n := t5
  have t6 : (0 ≤ p0.toInt ∧ p0.toInt < (V 3 13).toInt ∧ z2.toInt = (V 26 (Int32.toNatClampNeg p0)).toInt) ∨ ((p0.toInt < 0 ∨ (V 3 13).toInt ≤ p0.toInt) ∧ z2.toInt = 0) := t6
  have r7 : 0 ≤ ((V 3 13)).toInt ∧ ((V 3 13)).toInt ≤ 300 := hMV 3 13
  have hcm := t5 _ mup.1 mup.2.2.2.2.2.1
  refine lv_iload_n hx hb dX5_pushCall_13 rfl (lv_at hl 2 rfl) ?_
  have r8 : Int32.toInt 2 = 2 := by decide
  refine W.know (fun k10 k11 => ?_)
  obtain ⟨Hk9, hHk9⟩ : ∃ z, z = H := ⟨_, rfl⟩
  have k10 : Hk9.size ≤ s.heap.size + (zcc Z - zcc Z) := by rw [hHk9]; exact k10
  have k11 : tot Hk9 ≤ tot s.heap + (zss Z - zss Z) := by rw [hHk9]; exact k11
  refine gZ_ref (gA_runV (As := [.int 2, .int p4, .int p0, .int z2, .int p1]) (rest := []) (ci := 5) (q0 := 5) hx hb hml hown hg hP hD hK hS hA hnw hgk (x_push9 l D ks H.size ad kk V L Z 2 p4 p0 z2 p1 hMV (by (first | exact om_f52419b73d7d rgz2.1 rgz2.2 | omega)) (by (first | exact om_13ba01c174fe rg_p1.1 rg_p1.2 | omega)) (show (V 5 6).toInt ≤ (Z.nf : Int) from by (first | exact om_cbf4821a2053 hdn.1 | omega)) (show (Z.nf : Int) ≤ 400 from by (first | exact om_16a0bbaa0b2a hdn.2 | omega))) w1180 w1182 w43 w171 w1183 rfl xgMachine hdV_yX5_push ⟨Nat.le_of_ble_eq_true rfl, Nat.le_of_ble_eq_true rfl⟩ rfl hl.1 rfl (Nat.le_of_ble_eq_true rfl) dX5_pushCall_14 ⟨z1 zoZ.1, z1 zoZ.2.1⟩) hD hS hA (fun u13 H locs w14 hP hD hK hS y15 y16 => ?_)
  obtain ⟨V17, L18, Z19, f20⟩ := u13
  obtain ⟨hMV17, ajV17, axL18, zlZ19, ilf20, t21, t22, t23, t24, t25, t26, t27, t28⟩ := w14
  have axL18 : L = L18 := Eq.symm axL18
  subst axL18
  have hP : va_P D vwCl (xw ad kk V17 L Z19) H := hP
  have hD : va_D A (xw ad kk V17 L Z19) := hD
  have hK : va_K D vwCl (xty kk Z19) s := hK
  have hMV17 : rgd bX V17 := hMV17
  have ajV17 : agr [(5, 6), (5, 9)] [67, 68, 69, 70, 71, 72, 73, 74, 75, 76, 77, 78, 79, 80, 81, 82, 83, 84, 85] V V17 := ajV17
  have agV17 : agr [(5, 6), (5, 9)] [67, 68, 69, 70, 71, 72, 73, 74, 75, 76, 77, 78, 79, 80, 81, 82, 83, 84, 85] V V17 := agV.tr ajV17 (by decide) (by decide)
  have zlZ19 : ZL Z Z19 := zlZ19
  have zoZ19 : ZL Z Z19 := ZL.tr zoZ zlZ19
  have ziZ19 := zlZ19.1
  have zjZ19 := zlZ19.2.1
  have zkZ19 := zlZ19.2.2.1
  have zmZ19 := zoZ19.1
  have znZ19 := zoZ19.2.1
  have zpZ_Z19 := zoZ.1
  have zqZ_Z19 := zoZ.2.1
  have y15 : H.size ≤ Hk9.size + (zcc Z - zcc Z19) := by rw [hHk9]; exact y15
  have y16 : tot H ≤ tot Hk9 + (zss Z - zss Z19) := by rw [hHk9]; exact y16
  refine W.tight (k := zcc Z - zcc Z19) (n := zss Z - zss Z19) (by first | exact tg9 y15 k10 zlZ19.1 zoZ.1 | omega) (by first | exact tg9 y16 k11 zlZ19.2.1 zoZ.2.1 | omega) ?_
  have ilf20 : f20 < Z19.nf := ilf20
  have t21 : ME V V17 f20 := t21
  have t22 : V17 67 f20 = 2 ∧ V17 68 f20 = 0 ∧ V17 70 f20 = p0 ∧ V17 71 f20 = z2 ∧ V17 75 f20 = 0 ∧ V17 76 f20 = 0 := t22
  have t23 : (f20 : Int) + 1 = (V17 5 6).toInt := t23
  have t24 : (f20 : Int) ≤ (V 5 6).toInt ∧ (V 5 6).toInt ≤ (f20 : Int) + 1 := t24
  have t25 : (V17 5 9).toInt = 0 := t25
  have t26 : Z19.ln = Z.ln ∧ Z19.nf ≤ 400 := t26
  have t27 : V17 69 f20 = p4 ∧ V17 72 f20 = p1 ∧ V17 83 f20 = 0 := t27
  have t28 : Imp ((V 5 6).toInt < 400) ((f20 : Int) = (V 5 6).toInt) := t28
  have r29 : 0 ≤ ((V17 5 6)).toInt ∧ ((V17 5 6)).toInt ≤ 400 := hMV17 5 6
  have r30 : 0 ≤ ((V17 5 9)).toInt ∧ ((V17 5 9)).toInt ≤ 3 := hMV17 5 9
  have pr31 : (V17 67 f20).toInt = 2 := (congrArg Int32.toInt t22.1).trans (by decide)
  have pr32 : (V17 68 f20).toInt = 0 := (congrArg Int32.toInt t22.2.1).trans (by decide)
  have pr33 : (V17 70 f20).toInt = p0.toInt := (congrArg Int32.toInt t22.2.2.1)
  have pr34 : (V17 71 f20).toInt = z2.toInt := (congrArg Int32.toInt t22.2.2.2.1)
  have pr35 : (V17 75 f20).toInt = 0 := (congrArg Int32.toInt t22.2.2.2.2.1).trans (by decide)
  have pr36 : (V17 76 f20).toInt = 0 := (congrArg Int32.toInt t22.2.2.2.2.2).trans (by decide)
  refine lv_astore (lv' := [(6, .ref (Z19.fa f20)), (0, .ref (ad 5)), (1, .int p0), (2, .int p1), (3, .int p2), (4, .int p3), (5, .int p4)]) hx hb dX5_pushCall_17 hl (by decide) rfl (fun ls hl => ?_)
  refine lv_aload hx hb dX5_pushCall_19 (lv_at hl 0 rfl) ?_
  refine lv_iload_n hx hb dX5_pushCall_21 rfl (lv_at hl 4 rfl) ?_
  refine va_putN (D := D) (ci := 4) (v := .int p2) (ty := tyX4 6) (fs := (xfFrame V17 f20)) (C := RX4) (T := TX4) (N := 19) hx hb hg inX4 tyX4 tyX4_ok nmX4 hown hK hP hD hS (336 + f20) (xgFrame ilf20) rfl 6 (by decide) (hnw.use 1195 n1195 rfl) (fun _ h9 => h9) rfl (tyX4_ok 6 (by decide)) rfl rfl (Nat.le_of_ble_eq_true rfl) dX5_pushCall_22 (fun H locs hP hD hS => ?_)
  obtain ⟨V37, hV37⟩ : ∃ z, z = up2 V17 73 f20 p2 := ⟨_, rfl⟩
  have ew38 : (xw ad kk V17 L Z19).set (336 + f20) ((Z19.fa f20), .inr (4, (xfFrame V17 f20).set 6 (.int p2))) = xw ad kk V37 L Z19 := by rw [hV37]; exact xpFrame_method ilf20
  have hP : va_P D vwCl (xw ad kk V37 L Z19) H := by rw [← ew38]; exact hP
  have hD : va_D A (xw ad kk V37 L Z19) := by rw [← ew38]; exact hD
  have hMV37 : rgd bX V37 := hMV17.put hV37 (show 0 ≤ p2.toInt ∧ p2.toInt ≤ 19 from by first | exact om_0916ac166aa8 rg_p2.1 rg_p2.2 | first | omega | ((try (have i_t28 := Imp.go t28 (by omega))); omega))
  have agV37 : agr [(5, 6), (5, 9)] [67, 68, 69, 70, 71, 72, 73, 74, 75, 76, 77, 78, 79, 80, 81, 82, 83, 84, 85] V V37 := agV17.up hV37 rfl
  refine lv_aload hx hb dX5_pushCall_25 (lv_at hl 0 rfl) ?_
  refine lv_iload hx hb dX5_pushCall_27 (lv_at hl 5 rfl) ?_
  refine va_putN (D := D) (ci := 4) (v := .int p3) (ty := tyX4 7) (fs := (xfFrame V37 f20)) (C := RX4) (T := TX4) (N := 19) hx hb hg inX4 tyX4 tyX4_ok nmX4 hown hK hP hD hS (336 + f20) (xgFrame ilf20) rfl 7 (by decide) (hnw.use 1196 n1196 rfl) (fun _ h9 => h9) rfl (tyX4_ok 7 (by decide)) rfl rfl (Nat.le_of_ble_eq_true rfl) dX5_pushCall_29 (fun H locs hP hD hS => ?_)
  obtain ⟨V39, hV39⟩ : ∃ z, z = up2 V37 74 f20 p3 := ⟨_, rfl⟩
  have ew40 : (xw ad kk V37 L Z19).set (336 + f20) ((Z19.fa f20), .inr (4, (xfFrame V37 f20).set 7 (.int p3))) = xw ad kk V39 L Z19 := by rw [hV39]; exact xpFrame_arg ilf20
  have hP : va_P D vwCl (xw ad kk V39 L Z19) H := by rw [← ew40]; exact hP
  have hD : va_D A (xw ad kk V39 L Z19) := by rw [← ew40]; exact hD
  have hMV39 : rgd bX V39 := hMV37.put hV39 (i_full _)
  have agV39 : agr [(5, 6), (5, 9)] [67, 68, 69, 70, 71, 72, 73, 74, 75, 76, 77, 78, 79, 80, 81, 82, 83, 84, 85] V V39 := agV37.up hV39 rfl
  have me41 : ME V V39 f20 := (ME.up (ME.up (ME.tr ME.rf t21) hV37 (Or.inl ⟨by decide, by decide, Nat.le_refl _⟩)) hV39 (Or.inl ⟨by decide, by decide, Nat.le_refl _⟩))
  have pq42 : (V39 67 f20).toInt = ((V17 67 f20)).toInt := congrArg Int32.toInt ((up2_o hV39 (by decide)).trans (up2_o hV37 (by decide)))
  have pq43 : (V39 68 f20).toInt = ((V17 68 f20)).toInt := congrArg Int32.toInt ((up2_o hV39 (by decide)).trans (up2_o hV37 (by decide)))
  have pq44 : (V39 70 f20).toInt = ((V17 70 f20)).toInt := congrArg Int32.toInt ((up2_o hV39 (by decide)).trans (up2_o hV37 (by decide)))
  have pq45 : (V39 71 f20).toInt = ((V17 71 f20)).toInt := congrArg Int32.toInt ((up2_o hV39 (by decide)).trans (up2_o hV37 (by decide)))
  have r46 : (-1) ≤ ((V17 71 f20)).toInt ∧ ((V17 71 f20)).toInt ≤ 23 := hMV17 71 f20
  have pq47 : (V39 75 f20).toInt = ((V17 75 f20)).toInt := congrArg Int32.toInt ((up2_o hV39 (by decide)).trans (up2_o hV37 (by decide)))
  have r48 : 0 ≤ ((V17 75 f20)).toInt ∧ ((V17 75 f20)).toInt ≤ 12 := hMV17 75 f20
  have pq49 : (V39 76 f20).toInt = ((V17 76 f20)).toInt := congrArg Int32.toInt ((up2_o hV39 (by decide)).trans (up2_o hV37 (by decide)))
  have pq50 : (V39 80 f20).toInt = ((V17 80 f20)).toInt := congrArg Int32.toInt ((up2_o hV39 (by decide)).trans (up2_o hV37 (by decide)))
  have r51 : 0 ≤ ((V17 80 f20)).toInt ∧ ((V17 80 f20)).toInt ≤ 300 := hMV17 80 f20
  have pq52 : (V39 84 f20).toInt = ((V17 84 f20)).toInt := congrArg Int32.toInt ((up2_o hV39 (by decide)).trans (up2_o hV37 (by decide)))
  have r53 : 0 ≤ ((V17 84 f20)).toInt ∧ ((V17 84 f20)).toInt ≤ 2147483647 := hMV17 84 f20
  have pq54 : (V39 5 6).toInt = ((V17 5 6)).toInt := congrArg Int32.toInt ((up2_o hV39 (by decide)).trans (up2_o hV37 (by decide)))
  have pq55 : (V39 5 8).toInt = ((V 5 8)).toInt := congrArg Int32.toInt ((up2_o hV39 (by decide)).trans ((up2_o hV37 (by decide)).trans (ajV17 5 8 rfl)))
  have r56 : 0 ≤ ((V 5 8)).toInt ∧ ((V 5 8)).toInt ≤ 300 := hMV 5 8
  have pq57 : (V39 5 9).toInt = ((V17 5 9)).toInt := congrArg Int32.toInt ((up2_o hV39 (by decide)).trans (up2_o hV37 (by decide)))
  have pq58 : (V39 3 13).toInt = ((V 3 13)).toInt := congrArg Int32.toInt ((up2_o hV39 (by decide)).trans ((up2_o hV37 (by decide)).trans (ajV17 3 13 rfl)))
  have pq59 : (V39 43 (5 * b + 2)).toInt = ((V 43 (5 * b + 2))).toInt := congrArg Int32.toInt ((up2_o hV39 (by decide)).trans ((up2_o hV37 (by decide)).trans (ajV17 43 (5 * b + 2) rfl)))
  have r60 : 0 ≤ ((V 43 (5 * b + 2))).toInt ∧ ((V 43 (5 * b + 2))).toInt ≤ ((xcap (5 * b + 2) : Nat) : Int) := hMV 43 (5 * b + 2)
  have r61 : xcap (5 * b + 2) = 24 := xcap_2
  have pq62 : (V39 42 b).toInt = ((V 42 b)).toInt := congrArg Int32.toInt ((up2_o hV39 (by decide)).trans ((up2_o hV37 (by decide)).trans (ajV17 42 b rfl)))
  have r63 : 0 ≤ ((V 42 b)).toInt ∧ ((V 42 b)).toInt ≤ 8200 := hMV 42 b
  have pq64 : (V39 41 b).toInt = ((V 41 b)).toInt := congrArg Int32.toInt ((up2_o hV39 (by decide)).trans ((up2_o hV37 (by decide)).trans (ajV17 41 b rfl)))
  have r65 : 0 ≤ ((V 41 b)).toInt ∧ ((V 41 b)).toInt ≤ 12 := hMV 41 b
  have rp66 : MJ V39 Z19 b := MT.pu (v := False) mt (by omega) me41 t26.1 (by omega) t26.2 (FK.k2 (by omega) (by omega) (by omega) (by omega)) (fun h => absurd h (by omega)) (by omega) (by omega)
  have ip67 : Imp ((V 5 6).toInt < 400) (PCa V V39 ((V 5 6).toInt.toNat) p0 p1 p2 p3 p4) := Imp.mk (fun hp => by
    have hp1 : (V 5 6).toInt < 400 := hp
    have fe9 := Imp.go t28 (by (first | exact om_cb6592a7774c hp1 | omega))
    have fi9 : (V 5 6).toInt.toNat = f20 := by omega
    have me68 : ME V V39 f20 := (ME.up (ME.up (ME.tr ME.rf t21) hV37 (Or.inl ⟨by decide, by decide, Nat.le_refl _⟩)) hV39 (Or.inl ⟨by decide, by decide, Nat.le_refl _⟩))
    rw [fi9]
    exact ⟨⟨by omega, by omega, fun j hj c h1 h2 => me68.2.1 c j h1 h2 hj⟩, ⟨by rw [(((up2_o hV39 (by decide)).trans (up2_o hV37 (by decide))).trans t22.1)]; decide, by rw [(((up2_o hV39 (by decide)).trans (up2_o hV37 (by decide))).trans t22.2.1)]; decide⟩, (((up2_o hV39 (by decide)).trans (up2_o hV37 (by decide))).trans t27.1), (((up2_o hV39 (by decide)).trans (up2_o hV37 (by decide))).trans t22.2.2.1), (((up2_o hV39 (by decide)).trans (up2_o hV37 (by decide))).trans t27.2.1), ((up2_o hV39 (by decide)).trans (up2_s hV37)), (up2_s hV39), ⟨(fun h9 => by rw [(((up2_o hV39 (by decide)).trans (up2_o hV37 (by decide))).trans t22.2.2.2.1)]; exact Int32.toInt_inj.mp (by omega)), (fun h9 => by rw [(((up2_o hV39 (by decide)).trans (up2_o hV37 (by decide))).trans t22.2.2.2.1)]; omega), (by rw [(((up2_o hV39 (by decide)).trans (up2_o hV37 (by decide))).trans t22.2.2.2.1)]; omega)⟩⟩)
  refine W.know (fun kr1 kr2 => ?_)
  refine W.widen (k := zcc Z) (n := zss Z) (Nat.sub_le _ _) (Nat.sub_le _ _) ?_
  exact W.vret hx hb hr (fun t ht hW => ⟨⟨(V39, L, Z19), rfl, ⟨hMV39, agV39, rfl, zoZ19, rp66, ip67⟩, ⟨by rw [ht]; exact hP, va_K.moved hW.alike hK, hD⟩, by rw [ht]; exact kr1, by rw [ht]; exact kr2⟩, hS.F ht⟩) hS.2.2 dX5_pushCall_32
abbrev r_x_pushClose9 (Z : XZ) : Room := { frames := 3, cells := zcc Z, slots := zss Z, locals := 66 }
abbrev q_x_pushClose9 (D : va_G) (ks : KS) (ad : Nat → Nat) (kk : Nat → ClassId) (V : Vf) (L : Lf) (Z : XZ) (p0 : Int32) (p1 : Int32) (b : Nat) (A : Nat → Prop) : Array Value → State → Outcome → State → Prop := qZv D (fun (u : Vf × Lf × XZ) => rgd bX u.1 ∧ agr [(5, 6), (5, 9)] [67, 68, 69, 70, 71, 72, 73, 74, 75, 76, 77, 78, 79, 80, 81, 82, 83, 84, 85] V u.1 ∧ u.2.1 = L ∧ ZL Z u.2.2 ∧ (MJ u.1 u.2.2 b) ∧ (Imp ((V 5 6).toInt < 400) (PCl V u.1 ((V 5 6).toInt.toNat) p0 p1))) (fun u => xw ad kk u.1 u.2.1 u.2.2) (fun u => xty kk u.2.2) (fun u => zcc Z - zcc u.2.2) (fun u => zss Z - zss u.2.2) A
set_option maxHeartbeats 4000000 in
set_option maxRecDepth 100000 in
theorem x_pushClose9 (l : Launch) (D : va_G) (ks : KS) (sz : Nat) (ad : Nat → Nat) (kk : Nat → ClassId) (V : Vf) (L : Lf) (Z : XZ) (p0 : Int32) (p1 : Int32) (b : Nat) (hMV : rgd bX V) (rg_p0 : 0 ≤ p0.toInt ∧ p0.toInt ≤ 299) (hb2 : b < 2) (mt : MT V Z b) (hob : p0.toInt < (V 3 13).toInt)  : Met l yX5_pushClose (Cond.code yX5_pushClose cX5_pushClose 3 none :: GW) (r_x_pushClose9 Z) (va_Pc [.ref (ad 5), .int p0, .int p1] (gp D ks (xw ad kk V L Z) (xty kk Z) sz)) (q_x_pushClose9 D ks ad kk V L Z p0 p1 b (va_A (xw ad kk V L Z) sz)) (zcc Z) (zss Z) (va_A (xw ad kk V L Z) sz) := by
  refine g_met (q_x_pushClose9 D ks ad kk V L Z p0 p1 b) (by decide) (Nat.le_of_ble_eq_true rfl) ?_
  intro p e s m below meth c A ls H locs hx hb hr hml hown hg hlocks hin hnw hgk hP hK hD hS hA hl
  have hown : s.vm.findClass RX5 = some m.cls := hown
  have hl : lv_has ls 3 [(0, .ref (ad 5)), (1, .int p0), (2, .int p1)] := hl
  have hP : va_P D vwCl (xw ad kk V L Z) H := hP
  have hD : va_D A (xw ad kk V L Z) := hD
  have hK : va_K D vwCl (xty kk Z) s := hK
  have agV : agr [(5, 6), (5, 9)] [67, 68, 69, 70, 71, 72, 73, 74, 75, 76, 77, 78, 79, 80, 81, 82, 83, 84, 85] V V := agr.rf
  have zoZ : ZL Z Z := ZL.rf
  refine W.know (fun ka kb => ?_)
  refine W.tight (k := zcc Z - zcc Z) (n := zss Z - zss Z) (by omega) (by omega) ?_
  have r1 : 0 ≤ ((V 3 13)).toInt ∧ ((V 3 13)).toInt ≤ 300 := hMV 3 13
  have r2 : 0 ≤ ((V 5 6)).toInt ∧ ((V 5 6)).toInt ≤ 400 := hMV 5 6
  have kdp := i_clamp (x := V 5 6) rfl (by (first | exact om_eafa9039069c r2.1 | omega))
  have hdn := MT.dn mt (by (first | exact om_eafa9039069c r2.1 | omega))
  have mup := MT.up mt
  have msz := mup.1
  have mbk := mup.2.2.2.1
  refine lv_aload_n hx hb dX5_pushClose_0 rfl (lv_at hl 0 rfl) ?_
  refine lv_iconst (v := 5) hx hb dX5_pushClose_1 (by decide) ?_
  refine lv_iload_n hx hb dX5_pushClose_2 rfl (lv_at hl 2 rfl) ?_
  refine lv_iload_n hx hb dX5_pushClose_3 rfl (lv_at hl 1 rfl) ?_
  refine lv_aload_n hx hb dX5_pushClose_4 rfl (lv_at hl 0 rfl) ?_
  refine va_get (D := D) (ci := 5) (v := .ref (ad 3)) (fs := (xfMachine ad V L Z)) (C := RX5) (T := TX5) (N := 15) hx hb hg inX5 hown hK hP 5 xgMachine rfl 0 (by decide) (hg _ w667) (fun _ h9 => h9) rfl dX5_pushClose_5 ?_
  refine lv_iload_n hx hb dX5_pushClose_8 rfl (lv_at hl 1 rfl) ?_
  refine gA_int (gA_runV (As := [.int p0]) (rest := [.int p0, .int p1, .int 5, .ref (ad 5)]) (ci := 8) (q0 := 3) hx hb hml hown hg hP hD hK hS hA hnw hgk (x_componentOf9 l D ks H.size ad kk V L Z p0 hMV ) w1324 w1325 w1326 w164 w1327 rfl xgStock hdV_yX8_componentOf ⟨Nat.le_of_ble_eq_true rfl, Nat.le_of_ble_eq_true rfl⟩ rfl hl.1 rfl (Nat.le_of_ble_eq_true rfl) dX5_pushClose_9 ⟨z0, z0⟩) hP hD hK hS hA (fun z3 u4 H locs w5 hP hD hK hS => ?_)
  obtain ⟨rgz3, t6, t7⟩ := w5
  have rgz3 : 0 ≤ z3.toInt ∧ z3.toInt ≤ 23 := rgz3
  have t6 : ∀ n : Int, 0 < n → (∀ o : Nat, (o : Int) < (V 3 13).toInt → (V 26 o).toInt < n) → z3.toInt < n := t6
  have t7 : (0 ≤ p0.toInt ∧ p0.toInt < (V 3 13).toInt ∧ z3.toInt = (V 26 (Int32.toNatClampNeg p0)).toInt) ∨ ((p0.toInt < 0 ∨ (V 3 13).toInt ≤ p0.toInt) ∧ z3.toInt = 0) := t7
  have hcm := t6 _ mup.1 mup.2.2.2.2.2.1
  refine lv_aload_n hx hb dX5_pushClose_12 rfl (lv_at hl 0 rfl) ?_
  refine va_get (D := D) (ci := 5) (v := .ref (ad 3)) (fs := (xfMachine ad V L Z)) (C := RX5) (T := TX5) (N := 15) hx hb hg inX5 hown hK hP 5 xgMachine rfl 0 (by decide) (hg _ w667) (fun _ h9 => h9) rfl dX5_pushClose_13 ?_
  refine va_getN (D := D) (ci := 8) (v := .ref (ad 24)) (fs := (xfStock ad V L Z)) (C := RX8) (T := TX8) (N := 16) hx hb hg inX8 hown hK hP 3 xgStock rfl 6 (by decide) (hnw.use 382 n382 rfl) (fun _ h9 => h9) rfl dX5_pushClose_16 ?_
  refine lv_iload_n hx hb dX5_pushClose_19 rfl (lv_at hl 1 rfl) ?_
  refine va_iald (D := D) (i := p0) hx hb hK hP 24 17 rfl rfl (i_in (a := p0.toInt) rfl (by (first | exact om_375eda9ff8f1 rg_p0.1 rg_p0.2 | omega))) dX5_pushClose_20 ?_
  have r8 : 0 ≤ ((V 27 (Int32.toNatClampNeg p0))).toInt ∧ ((V 27 (Int32.toNatClampNeg p0))).toInt ≤ 39 := hMV 27 (Int32.toNatClampNeg p0)
  have r9 : Int32.toInt 5 = 5 := by decide
  refine W.know (fun k11 k12 => ?_)
  obtain ⟨Hk10, hHk10⟩ : ∃ z, z = H := ⟨_, rfl⟩
  have k11 : Hk10.size ≤ s.heap.size + (zcc Z - zcc Z) := by rw [hHk10]; exact k11
  have k12 : tot Hk10 ≤ tot s.heap + (zss Z - zss Z) := by rw [hHk10]; exact k12
  refine gZ_ref (gA_runV (As := [.int 5, .int p1, .int p0, .int z3, .int (V 27 (Int32.toNatClampNeg p0))]) (rest := []) (ci := 5) (q0 := 5) hx hb hml hown hg hP hD hK hS hA hnw hgk (x_push9 l D ks H.size ad kk V L Z 5 p1 p0 z3 (V 27 (Int32.toNatClampNeg p0)) hMV (by (first | exact om_f52419b73d7d rgz3.1 rgz3.2 | omega)) (by (first | exact om_13ba01c174fe r8.1 r8.2 | omega)) (show (V 5 6).toInt ≤ (Z.nf : Int) from by (first | exact om_cbf4821a2053 hdn.1 | omega)) (show (Z.nf : Int) ≤ 400 from by (first | exact om_16a0bbaa0b2a hdn.2 | omega))) w1180 w1182 w43 w171 w1183 rfl xgMachine hdV_yX5_push ⟨Nat.le_of_ble_eq_true rfl, Nat.le_of_ble_eq_true rfl⟩ rfl hl.1 rfl (Nat.le_of_ble_eq_true rfl) dX5_pushClose_21 ⟨z1 zoZ.1, z1 zoZ.2.1⟩) hD hS hA (fun u14 H locs w15 hP hD hK hS y16 y17 => ?_)
  obtain ⟨V18, L19, Z20, f21⟩ := u14
  obtain ⟨hMV18, ajV18, axL19, zlZ20, ilf21, t22, t23, t24, t25, t26, t27, t28, t29⟩ := w15
  have axL19 : L = L19 := Eq.symm axL19
  subst axL19
  have hP : va_P D vwCl (xw ad kk V18 L Z20) H := hP
  have hD : va_D A (xw ad kk V18 L Z20) := hD
  have hK : va_K D vwCl (xty kk Z20) s := hK
  have hMV18 : rgd bX V18 := hMV18
  have ajV18 : agr [(5, 6), (5, 9)] [67, 68, 69, 70, 71, 72, 73, 74, 75, 76, 77, 78, 79, 80, 81, 82, 83, 84, 85] V V18 := ajV18
  have agV18 : agr [(5, 6), (5, 9)] [67, 68, 69, 70, 71, 72, 73, 74, 75, 76, 77, 78, 79, 80, 81, 82, 83, 84, 85] V V18 := agV.tr ajV18 (by decide) (by decide)
  have zlZ20 : ZL Z Z20 := zlZ20
  have zoZ20 : ZL Z Z20 := ZL.tr zoZ zlZ20
  have ziZ20 := zlZ20.1
  have zjZ20 := zlZ20.2.1
  have zkZ20 := zlZ20.2.2.1
  have zmZ20 := zoZ20.1
  have znZ20 := zoZ20.2.1
  have zpZ_Z20 := zoZ.1
  have zqZ_Z20 := zoZ.2.1
  have y16 : H.size ≤ Hk10.size + (zcc Z - zcc Z20) := by rw [hHk10]; exact y16
  have y17 : tot H ≤ tot Hk10 + (zss Z - zss Z20) := by rw [hHk10]; exact y17
  refine W.tight (k := zcc Z - zcc Z20) (n := zss Z - zss Z20) (by first | exact tg9 y16 k11 zlZ20.1 zoZ.1 | omega) (by first | exact tg9 y17 k12 zlZ20.2.1 zoZ.2.1 | omega) ?_
  have ilf21 : f21 < Z20.nf := ilf21
  have t22 : ME V V18 f21 := t22
  have t23 : V18 67 f21 = 5 ∧ V18 68 f21 = 0 ∧ V18 70 f21 = p0 ∧ V18 71 f21 = z3 ∧ V18 75 f21 = 0 ∧ V18 76 f21 = 0 := t23
  have t24 : (f21 : Int) + 1 = (V18 5 6).toInt := t24
  have t25 : (f21 : Int) ≤ (V 5 6).toInt ∧ (V 5 6).toInt ≤ (f21 : Int) + 1 := t25
  have t26 : (V18 5 9).toInt = 0 := t26
  have t27 : Z20.ln = Z.ln ∧ Z20.nf ≤ 400 := t27
  have t28 : V18 69 f21 = p1 ∧ V18 72 f21 = (V 27 (Int32.toNatClampNeg p0)) ∧ V18 83 f21 = 0 := t28
  have t29 : Imp ((V 5 6).toInt < 400) ((f21 : Int) = (V 5 6).toInt) := t29
  have r30 : 0 ≤ ((V18 5 6)).toInt ∧ ((V18 5 6)).toInt ≤ 400 := hMV18 5 6
  have r31 : 0 ≤ ((V18 5 9)).toInt ∧ ((V18 5 9)).toInt ≤ 3 := hMV18 5 9
  have pr32 : (V18 67 f21).toInt = 5 := (congrArg Int32.toInt t23.1).trans (by decide)
  have pr33 : (V18 68 f21).toInt = 0 := (congrArg Int32.toInt t23.2.1).trans (by decide)
  have pr34 : (V18 70 f21).toInt = p0.toInt := (congrArg Int32.toInt t23.2.2.1)
  have pr35 : (V18 71 f21).toInt = z3.toInt := (congrArg Int32.toInt t23.2.2.2.1)
  have pr36 : (V18 75 f21).toInt = 0 := (congrArg Int32.toInt t23.2.2.2.2.1).trans (by decide)
  have pr37 : (V18 76 f21).toInt = 0 := (congrArg Int32.toInt t23.2.2.2.2.2).trans (by decide)
  refine lv_pop hx hb dX5_pushClose_24 rfl ?_
  have me38 : ME V V18 f21 := (ME.tr ME.rf t22)
  have r39 : (-1) ≤ ((V18 71 f21)).toInt ∧ ((V18 71 f21)).toInt ≤ 23 := hMV18 71 f21
  have r40 : 0 ≤ ((V18 75 f21)).toInt ∧ ((V18 75 f21)).toInt ≤ 12 := hMV18 75 f21
  have r41 : 0 ≤ ((V18 80 f21)).toInt ∧ ((V18 80 f21)).toInt ≤ 300 := hMV18 80 f21
  have r42 : 0 ≤ ((V18 84 f21)).toInt ∧ ((V18 84 f21)).toInt ≤ 2147483647 := hMV18 84 f21
  have pq43 : (V18 5 8).toInt = ((V 5 8)).toInt := congrArg Int32.toInt (ajV18 5 8 rfl)
  have r44 : 0 ≤ ((V 5 8)).toInt ∧ ((V 5 8)).toInt ≤ 300 := hMV 5 8
  have pq45 : (V18 3 13).toInt = ((V 3 13)).toInt := congrArg Int32.toInt (ajV18 3 13 rfl)
  have pq46 : (V18 43 (5 * b + 2)).toInt = ((V 43 (5 * b + 2))).toInt := congrArg Int32.toInt (ajV18 43 (5 * b + 2) rfl)
  have r47 : 0 ≤ ((V 43 (5 * b + 2))).toInt ∧ ((V 43 (5 * b + 2))).toInt ≤ ((xcap (5 * b + 2) : Nat) : Int) := hMV 43 (5 * b + 2)
  have r48 : xcap (5 * b + 2) = 24 := xcap_2
  have pq49 : (V18 42 b).toInt = ((V 42 b)).toInt := congrArg Int32.toInt (ajV18 42 b rfl)
  have r50 : 0 ≤ ((V 42 b)).toInt ∧ ((V 42 b)).toInt ≤ 8200 := hMV 42 b
  have pq51 : (V18 41 b).toInt = ((V 41 b)).toInt := congrArg Int32.toInt (ajV18 41 b rfl)
  have r52 : 0 ≤ ((V 41 b)).toInt ∧ ((V 41 b)).toInt ≤ 12 := hMV 41 b
  have rp53 : MJ V18 Z20 b := MT.pu (v := False) mt (by omega) me38 t27.1 (by omega) t27.2 (FK.k5 (by omega) (by omega) (by omega)) (fun h => absurd h (by omega)) (by omega) (by omega)
  have ip54 : Imp ((V 5 6).toInt < 400) (PCl V V18 ((V 5 6).toInt.toNat) p0 p1) := Imp.mk (fun hp => by
    have hp1 : (V 5 6).toInt < 400 := hp
    have fe9 := Imp.go t29 (by (first | exact om_cb6592a7774c hp1 | omega))
    have fi9 : (V 5 6).toInt.toNat = f21 := by omega
    have me55 : ME V V18 f21 := (ME.tr ME.rf t22)
    rw [fi9]
    exact ⟨⟨by omega, by omega, fun j hj c h1 h2 => me55.2.1 c j h1 h2 hj⟩, ⟨by rw [t23.1]; decide, by rw [t23.2.1]; decide⟩, t28.1, t23.2.2.1, (by rw [t23.2.2.2.1]; exact Int32.toInt_inj.mp (by omega)), t28.2.1⟩)
  refine W.know (fun kr1 kr2 => ?_)
  refine W.widen (k := zcc Z) (n := zss Z) (Nat.sub_le _ _) (Nat.sub_le _ _) ?_
  exact W.vret hx hb hr (fun t ht hW => ⟨⟨(V18, L, Z20), rfl, ⟨hMV18, agV18, rfl, zoZ20, rp53, ip54⟩, ⟨by rw [ht]; exact hP, va_K.moved hW.alike hK, hD⟩, by rw [ht]; exact kr1, by rw [ht]; exact kr2⟩, hS.F ht⟩) hS.2.2 dX5_pushClose_25
end
