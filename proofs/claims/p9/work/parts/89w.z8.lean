/-! the reference's book -/
theorem RTE.mv {V V' W : Vf} {M : Lf} (h : RTE V' W M) (e1 : V' 1 = V 1) (e2 : V' 0 2 = V 0 2) : RTE V W M := by
  unfold RTE RTq at h ⊢
  rw [e1, e2] at h
  exact h
/-! the words of the tables are names that were read -/
def PWd (T : Tk) (n : Nat) (w : Int64) : Prop := ∃ i, i < n ∧ T.1 i = 3 ∧ T.2.1 i = w
def wIt (i : It) : Bool := match i.1 with
  | 14 => true
  | 15 => true
  | 17 => true
  | 19 => true
  | 21 => true
  | 22 => true
  | 23 => true
  | 32 => true
  | 33 => true
  | 35 => true
  | 36 => true
  | 37 => true
  | 38 => true
  | 39 => true
  | 40 => true
  | 41 => true
  | _ => false
def IK (T : Tk) (n : Nat) : List It → Prop
  | [] => True
  | i :: k => ((wIt i = true → PWd T n i.2.2.2.2.1) ∧ (i.1 = 0 → i.2.2.1 ≠ 0)) ∧ IK T n k
def GS (T : Tk) (n : Nat) (s : St) : Prop := s.1 0 ≤ n ∧ ∀ j w, w ∈ s.2.1 j → PWd T n w
def GP (T : Tk) (n : Nat) : Cf → Prop
  | .inl (s, k) => GS T n s ∧ IK T n k
  | .inr (.inl _) => True
  | .inr (.inr s) => GS T n s
section GPs
variable {T : Tk} {n : Nat} {s : St} {k : List It}
theorem GS.nx (z : T.1 n = 0) (h : GS T n s) (c : T.1 (s.1 0) ≠ 0) : GS T n (nx s 1) := by
  refine ⟨?_, h.2⟩
  show s.1 0 + 1 ≤ n
  rcases Nat.lt_or_eq_of_le h.1 with d | d
  · exact d
  · rw [d] at c
    exact absurd z c
theorem GS.sn {i v : Nat} (h : GS T n s) (hi : i ≠ 0) : GS T n (sN s i v) := by
  refine ⟨?_, h.2⟩
  show upN s.1 i v 0 ≤ n
  rw [upN_o _ _ _ (Ne.symm hi)]
  exact h.1
theorem GS.sa {j : Nat} {w : Int64} (h : GS T n s) (hw : PWd T n w) : GS T n (sA s j w) := by
  refine ⟨h.1, fun i x hx => ?_⟩
  have hx : x ∈ upB s.2.1 j w i := hx
  unfold upB at hx
  split at hx
  · rw [List.mem_append] at hx
    rcases hx with hx | hx
    · exact h.2 i x hx
    · rw [List.mem_singleton.mp hx]
      exact hw
  · exact h.2 i x hx
theorem GS.mv {s' : St} (h : GS T n s) (e0 : s'.1 0 = s.1 0) (e1 : s'.2.1 = s.2.1) : GS T n s' := by
  unfold GS at h ⊢
  rw [e0, e1]
  exact h
theorem GS.ty {w : Int64} {l : List Nat} (h : GS T n s) (hw : PWd T n w) : GS T n (tyS s w l) := GS.mv (GS.sa (j := 0) h hw) (upN_o _ _ _ (by omega)) rfl
theorem GS.se {w : Int64} {v : Nat} (h : GS T n s) (hw : PWd T n w) : GS T n (seS s w v) := GS.mv (GS.sa (j := 1) h hw) (upN_o _ _ _ (by omega)) rfl
theorem GS.nm {m : Nat} {sc : Int} {w : Int64} {l : List Nat} (h : GS T n s) (hw : PWd T n w) : GS T n (nmS s m sc w l) := GS.mv (GS.sa (j := 2) h hw) (if_neg (by omega)) rfl
theorem ndf_0 (g : Nat → Nat) (c a f ca : Nat) : ndf g c a f ca 0 = g 0 := by
  unfold ndf
  rw [if_neg (by omega), if_neg (by omega), if_neg (by omega), if_neg (by omega)]
theorem GS.nd {a : Int} {f ca : Nat} (h : GS T n s) : GS T n (ndS s a f ca) := GS.mv h (ndf_0 _ _ _ _ _) rfl
theorem GP.pw (h : GS T n s) (z : T.1 n = 0) (c : T.1 (s.1 0) = 3) : PWd T n (T.2.1 (s.1 0)) := by
  refine ⟨s.1 0, ?_, c, rfl⟩
  rcases Nat.lt_or_eq_of_le h.1 with d | d
  · exact d
  · rw [d, z] at c
    exact absurd c (by decide)
theorem GP.i2 {p : Prop} [Decidable p] {a b : Cf} (ha : p → GP T n a) (hb : ¬ p → GP T n b) : GP T n (if p then a else b) := by
  split
  · exact ha ‹_›
  · exact hb ‹_›
theorem GP.lk {l : List Int64} {f : Nat → Cf} (h : T.1 (s.1 0) = 3 → ∀ x, GP T n (f x)) : GP T n (look T s l f) := by
  unfold look
  refine GP.i2 (fun _ => trivial) (fun c => ?_)
  have c3 : T.1 (s.1 0) = 3 := Decidable.of_not_not c
  split
  · exact trivial
  · exact h c3 _
theorem GP.nw {f : Int64 → Cf} (h : T.1 (s.1 0) = 3 → GP T n (f (T.2.1 (s.1 0)))) : GP T n (newN T s f) := by
  unfold newN
  refine GP.i2 (fun _ => trivial) (fun c => GP.i2 (fun _ => trivial) (fun _ => ?_))
  exact h (Decidable.of_not_not c)
theorem GP.mw {j : Nat} {f : Nat × St → Cf} (z : T.1 n = 0) (hs : GS T n s) (h : ∀ x : Nat × St, GS T n x.2 → GP T n (f x)) : GP T n (mthW T s j f) := by
  unfold mthW
  refine GP.i2 (fun _ => trivial) (fun c => ?_)
  have c3 : T.1 (s.1 0) = 3 := Decidable.of_not_not c
  have g := GS.nx z hs (by rw [c3]; decide)
  unfold nbrW
  split
  · exact h _ g
  · exact GP.i2 (fun _ => trivial) (fun _ => h _ (GS.sa g (GP.pw hs z c3)))
theorem GP.mn {f : Nat × St → Cf} (z : T.1 n = 0) (hs : GS T n s) (h : ∀ x : Nat × St, GS T n x.2 → GP T n (f x)) : GP T n (mthN T s f) := by
  unfold mthN
  exact GP.i2 (fun _ => trivial) (fun _ => GP.mw z hs h)
theorem GP.nu {lo hi : Int} {f : Nat → Cf} (h : T.1 (s.1 0) = 2 → ∀ v, GP T n (f v)) : GP T n (numW T s lo hi f) := by
  unfold numW
  exact GP.i2 (fun _ => trivial) (fun c => GP.i2 (fun _ => trivial) (fun _ => h (Decidable.of_not_not c) _))
theorem IK.c {i : It} (h : (wIt i || (i.1 == 0 && i.2.2.1 == 0)) = false) (hk : IK T n k) : IK T n (i :: k) := by
  rw [Bool.or_eq_false_iff] at h
  refine ⟨⟨fun q => by rw [h.1] at q; exact absurd q Bool.false_ne_true, fun e1 e2 => ?_⟩, hk⟩
  have z := h.2
  rw [e1, e2] at z
  exact absurd z (by decide)
theorem IK.w {i : It} (h : PWd T n i.2.2.2.2.1) (h0 : (i.1 == 0) = false) (hk : IK T n k) : IK T n (i :: k) := ⟨⟨fun _ => h, fun e => by rw [e] at h0; exact absurd h0 (by decide)⟩, hk⟩
theorem GP.it (z : T.1 n = 0) (h : GS T n s) (hk : IK T n k) : (i : It) → ((wIt i = true → PWd T n i.2.2.2.2.1) ∧ (i.1 = 0 → i.2.2.1 ≠ 0)) → GP T n (itW T s k i)
  | (0, _, x, _, _, _), o => GP.i2 (fun c => ⟨GS.nx z h (by rw [c]; exact o.2 rfl), hk⟩) (fun _ => trivial)
  | (1, _, _, _, _, _), _ => ⟨h, (IK.c rfl (IK.c rfl hk))⟩
  | (2, _, _, _, _, _), _ => GP.i2 (fun c => ⟨GS.nx z h (by rcases c with c | c <;> (rw [c]; decide)), (IK.c rfl hk)⟩) (fun _ => ⟨h, hk⟩)
  | (3, _, _, _, _, _), _ => ⟨h, (IK.c rfl (IK.c rfl hk))⟩
  | (4, _, _, _, _, _), _ => GP.i2 (fun c => ⟨GS.nx z h (by rcases c with c | c <;> (rw [c]; decide)), (IK.c rfl (IK.c rfl hk))⟩) (fun _ => ⟨h, hk⟩)
  | (5, _, _, _, _, _), _ => ⟨h, (IK.c rfl (IK.c rfl hk))⟩
  | (6, _, _, _, _, _), _ => GP.i2 (fun c => ⟨GS.nx z h (by rw [c]; decide), (IK.c rfl (IK.c rfl hk))⟩) (fun _ => ⟨h, hk⟩)
  | (7, d, _, _, _, _), _ => by
    show GP T n (if ¬ bgP T s then fl T s 1 else if 8 ≤ d then fl T s 5 else partW T s d k)
    refine GP.i2 (fun _ => trivial) (fun c => GP.i2 (fun _ => trivial) (fun _ => ?_))
    have q : bgP T s := Decidable.of_not_not c
    have g : GS T n (nx s 1) := GS.nx z h (by unfold bgP at q; omega)
    unfold partW
    exact GP.i2 (fun _ => ⟨g, hk⟩) (fun _ => GP.i2 (fun _ => ⟨g, (IK.c rfl (IK.c rfl hk))⟩) (fun _ => GP.i2 (fun _ => ⟨g, (IK.c rfl hk)⟩) (fun _ => GP.i2 (fun _ => ⟨g, (IK.c rfl hk)⟩) (fun _ => GP.i2 (fun _ => ⟨g, (IK.c rfl hk)⟩) (fun _ => GP.i2 (fun _ => ⟨g, (IK.c rfl (IK.c rfl (IK.c rfl (IK.c rfl (IK.c rfl (IK.c rfl (IK.c rfl hk)))))))⟩) (fun _ => GP.i2 (fun _ => ⟨g, (IK.c rfl (IK.c rfl (IK.c rfl (IK.c rfl (IK.c rfl (IK.c rfl hk))))))⟩) (fun _ => ⟨g, (IK.c rfl (IK.c rfl (IK.c rfl hk)))⟩)))))))
  | (8, _, _, _, _, _), _ => GP.i2 (fun _ => trivial) (fun c => GP.i2 (fun _ => trivial) (fun _ => ⟨GS.nx z h (by rw [Decidable.of_not_not c]; decide), hk⟩))
  | (9, _, _, _, _, _), _ => GP.lk (fun c _ => ⟨GS.nx z h (by rw [c]; decide), hk⟩)
  | (10, _, _, _, _, _), _ => GP.mw z h (fun _ g => ⟨g, hk⟩)
  | (11, _, _, _, _, _), _ => GP.mw z h (fun _ g => ⟨g, (IK.c rfl (IK.c rfl (IK.c rfl hk)))⟩)
  | (12, _, _, _, _, _), _ => by
    show GP T n (stmtW T s k)
    unfold stmtW
    exact GP.i2 (fun _ => h) (fun _ => GP.i2 (fun c => GP.i2 (fun _ => trivial) (fun _ => ⟨GS.nx z h (by rw [c]; decide), (IK.c rfl hk)⟩)) (fun _ => GP.i2 (fun c => GP.i2 (fun _ => trivial) (fun _ => ⟨GS.nx z h (by rw [c]; decide), (IK.c rfl hk)⟩)) (fun _ => GP.i2 (fun c => GP.i2 (fun _ => trivial) (fun _ => ⟨GS.nx z h (by rw [c]; decide), (IK.c rfl hk)⟩)) (fun _ => GP.i2 (fun c => GP.i2 (fun _ => trivial) (fun _ => ⟨GS.nx z h (by rw [c]; decide), (IK.c rfl hk)⟩)) (fun _ => trivial)))))
  | (13, _, _, _, _, _), _ => GP.nw (f := fun w => Crun (nx s 1) (Ilike w :: k)) (fun c3 => ⟨GS.nx z h (by rw [c3]; decide), (IK.w (GP.pw h z c3) rfl hk)⟩)
  | (14, _, _, _, _, _), o => GP.lk (fun c _ => GP.i2 (fun _ => trivial) (fun _ => GP.i2 (fun _ => trivial) (fun _ => ⟨GS.nx z h (by rw [c]; decide), (IK.w (o.1 rfl) rfl hk)⟩)))
  | (15, _, _, _, _, _), o => ⟨GS.ty h (o.1 rfl), hk⟩
  | (16, _, _, _, _, _), _ => GP.nw (f := fun w => Crun (nx s 1) (IsetN w :: k)) (fun c3 => ⟨GS.nx z h (by rw [c3]; decide), (IK.w (GP.pw h z c3) rfl hk)⟩)
  | (17, _, _, _, _, _), o => ⟨GS.se h (o.1 rfl), hk⟩
  | (18, _, _, _, _, _), _ => GP.nw (f := fun w => Crun (nx s 1) (Itake 132 :: Itypes 1 w 0 [] :: k)) (fun c3 => ⟨GS.nx z h (by rw [c3]; decide), (IK.c rfl (IK.w (GP.pw h z c3) rfl hk))⟩)
  | (19, _, _, _, w, _), o => GP.i2 (fun _ => trivial) (fun c => ⟨(GS.sn (GS.sn (GS.sn (GS.sn (GS.nx z h (by omega)) (by decide)) (by decide)) (by decide)) (by decide) : GS T n (sN (sN (sN (sN (nx s 1) 1 0) 2 0) 3 0) 4 0)), (IK.w (o.1 rfl) rfl hk)⟩)
  | (20, _, _, _, _, _), _ => GP.i2 (fun c => ⟨GS.nx z h (by rw [c]; decide), (IK.c rfl hk)⟩) (fun _ => ⟨h, (IK.c rfl (IK.c rfl (IK.c rfl hk)))⟩)
  | (21, _, _, _, _, _), o => GP.i2 (fun c => ⟨GS.nx z h (by rw [c]; decide), (IK.w (o.1 rfl) rfl hk)⟩) (fun _ => ⟨h, (IK.w (o.1 rfl) rfl hk)⟩)
  | (22, _, _, _, _, _), o => GP.i2 (fun c => ⟨GS.nx z h (by rw [c]; decide), (IK.w (o.1 rfl) rfl hk)⟩) (fun _ => ⟨h, (IK.c rfl (IK.w (o.1 rfl) rfl (IK.c rfl hk)))⟩)
  | (23, _, _, _, _, _), o => ⟨GS.nm h (o.1 rfl), hk⟩
  | (24, _, _, _, _, _), _ => by
    show GP T n (memberW T s k)
    unfold memberW
    exact GP.i2 (fun c => ⟨GS.nx z h (by rw [c]; decide), (IK.c rfl hk)⟩) (fun _ => GP.i2 (fun c => GP.i2 (fun _ => trivial) (fun _ => ⟨GS.nx z h (by rw [c]; decide), (IK.c rfl hk)⟩)) (fun _ => GP.i2 (fun c => GP.i2 (fun _ => trivial) (fun _ => ⟨GS.nx z (GS.sn h (by decide)) (by show T.1 (s.1 0) ≠ 0; rw [c]; decide), (IK.c rfl (IK.c rfl (IK.c rfl hk)))⟩)) (fun _ => GP.i2 (fun c => GP.i2 (fun _ => trivial) (fun _ => ⟨GS.nx z (GS.sn h (by decide)) (by show T.1 (s.1 0) ≠ 0; rw [c]; decide), (IK.c rfl (IK.c rfl (IK.c rfl hk)))⟩)) (fun _ => GP.i2 (fun c => ⟨GS.nx z h (by rw [c]; decide), (IK.c rfl (IK.c rfl (IK.c rfl (IK.c rfl hk))))⟩) (fun _ => trivial)))))
  | (25, _, _, _, _, _), _ => GP.lk (fun c _ => GP.i2 (fun _ => ⟨GS.nx z h (by rw [c]; decide), (IK.c rfl (IK.c rfl (IK.c rfl hk)))⟩) (fun _ => ⟨GS.nx z h (by rw [c]; decide), (IK.c rfl hk)⟩))
  | (26, _, _, _, _, _), _ => ⟨GS.nd h, hk⟩
  | (27, _, _, _, _, _), _ => GP.mn z h (fun _ g => ⟨g, hk⟩)
  | (28, _, _, _, _, _), _ => GP.lk (fun c _ => ⟨GS.nx z h (by rw [c]; decide), (IK.c rfl (IK.c rfl hk))⟩)
  | (29, _, _, _, _, _), _ => GP.mw z h (fun _ g => ⟨g, (IK.c rfl (IK.c rfl hk))⟩)
  | (30, _, _, _, _, _), _ => GP.i2 (fun _ => trivial) (fun c => GP.i2 (fun _ => trivial) (fun _ => ⟨GS.sn (GS.nx z h (by omega)) (by decide), (IK.c rfl (IK.c rfl (IK.c rfl (IK.c rfl hk))))⟩))
  | (31, _, _, _, _, _), _ => ⟨h, hk⟩
  | (32, _, _, _, _, _), o => GP.i2 (fun c => ⟨GS.nx z h (by rw [c]; decide), (IK.w (o.1 rfl) rfl hk)⟩) (fun _ => ⟨h, (IK.c rfl (IK.w (o.1 rfl) rfl (IK.c rfl hk)))⟩)
  | (33, _, _, _, _, _), o => GP.i2 (fun c => ⟨GS.nx z h (by rw [c]; decide), (IK.w (o.1 rfl) rfl hk)⟩) (fun _ => ⟨h, (IK.w (o.1 rfl) rfl hk)⟩)
  | (34, _, _, _, _, _), _ => GP.i2 (fun c => ⟨GS.nx z h (by rw [c]; decide), (IK.c rfl hk)⟩) (fun _ => GP.i2 (fun c => ⟨GS.nx z h (by rw [c]; decide), (IK.c rfl hk)⟩) (fun _ => ⟨h, (IK.c rfl hk)⟩))
  | (35, _, _, _, _, _), o => GP.i2 (fun _ => ⟨h, (IK.c rfl (IK.w (o.1 rfl) rfl (IK.c rfl hk)))⟩) (fun _ => ⟨h, (IK.w (o.1 rfl) rfl hk)⟩)
  | (36, _, _, _, w, _), o => GP.nu (T := T) (s := s) (lo := 0) (hi := 999999999) (f := fun v => Crun (nx s 1) (Itake 59 :: IaddSe w v :: Istmt :: k)) (fun c _ => ⟨GS.nx z h (by rw [c]; decide), (IK.c rfl (IK.w (o.1 rfl) rfl (IK.c rfl hk)))⟩)
  | (37, _, _, _, _, _), o => GP.i2 (fun c => ⟨GS.nx z h (by rw [c]; decide), (IK.w (o.1 rfl) rfl hk)⟩) (fun _ => ⟨h, (IK.w (o.1 rfl) rfl hk)⟩)
  | (38, _, _, _, _, _), o => GP.mw z h (fun _ g => ⟨g, (IK.w (o.1 rfl) rfl hk)⟩)
  | (39, m, sc, _, w, l), o => GP.nu (T := T) (s := s) (lo := 0) (hi := 9) (f := fun v => Crun (nx s 1) (IwhenI m sc w (v :: l) :: k)) (fun c _ => ⟨GS.nx z h (by rw [c]; decide), (IK.w (o.1 rfl) rfl hk)⟩)
  | (40, _, _, _, _, _), o => GP.lk (fun c _ => ⟨GS.nx z h (by rw [c]; decide), (IK.w (o.1 rfl) rfl hk)⟩)
  | (41, m, sc, _, w, l), o => GP.nu (T := T) (s := s) (lo := 0) (hi := 999999999) (f := fun v => Crun (nx s 1) (Itake 123 :: IaddNm m sc w (v :: l) :: Imember :: k)) (fun c _ => ⟨GS.nx z h (by rw [c]; decide), (IK.c rfl (IK.w (o.1 rfl) rfl (IK.c rfl hk)))⟩)
  | (_ + 42, _, _, _, _, _), _ => ⟨h, hk⟩
theorem GP.st (z : T.1 n = 0) {c : Cf} (h : GP T n c) : GP T n (mst T c) := by
  cases c with
  | inr c => exact h
  | inl c =>
    obtain ⟨s, k⟩ := c
    cases k with
    | nil => exact h
    | cons i k => exact GP.it (s := s) z h.1 h.2.2 i h.2.1
theorem GP.run (z : T.1 n = 0) (m : Nat) : ∀ {c : Cf}, GP T n c → GP T n (mrun T m c) := by
  induction m with
  | zero => exact fun h => h
  | succ m ih => exact fun h => ih (GP.st z h)
end GPs
/-- the words of a BOOK that was read: names -/
theorem Rc.pw {T : Tk} {n : Nat} {s' : St} (z : T.1 n = 0) (h : Rc T (Crun St0 [Istmt]) (Cdone s')) : ∀ j w, w ∈ s'.2.1 j → PWd T n w := by
  obtain ⟨m, e⟩ := h
  have g : GP T n (mrun T m (Crun St0 [Istmt])) := GP.run z m ⟨⟨Nat.zero_le _, fun j w hw => absurd hw (List.not_mem_nil)⟩, IK.c rfl trivial⟩
  rw [e] at g
  exact g.2
/-- the words of the BOOK are no keywords -/
theorem PWd.nk {V : Vf} {L : Lf} {T : Tk} {n : Nat} {w : Int64} (h : PWd T n w) (t : TkM V L T n) (k : Nat) (hk : k < 28) : w ≠ kg 155 k := by
  obtain ⟨i, hi, c, e⟩ := h
  have y := (t.2.1 i hi).1
  have z := y.nm.mpr c
  rw [← e, y.vl (Or.inr c)]
  exact z.2 k hk
def NKs (s : St) : Prop := ∀ j w, w ∈ s.2.1 j → ∀ k : Nat, k < 28 → w ≠ kg 155 k


abbrev r_s_book3 : Room := { frames := 97, cells := 0, slots := 0, locals := 2910 }
abbrev q_s_book3 (D : va_G) (ks : KS) (ad : Nat → Nat) (kk : Nat → ClassId) (V : Vf) (L : Lf) (bq : Nat) (gn : Nat) (gT : Tk) (A : Nat → Prop) : Array Value → State → Outcome → State → Prop := va_Qi (fun (r : Int32) (u : Vf × Lf) => rgd bM u.1 ∧ agr [(0, 0), (0, 2), (0, 3), (0, 7), (0, 8), (0, 11), (0, 12), (0, 48), (0, 49), (0, 50), (0, 51), (0, 52), (0, 54), (0, 55), (0, 60), (0, 65), (0, 69), (0, 70), (0, 71), (0, 72), (0, 73), (0, 76), (0, 81)] [4, 5, 6, 13, 14, 15, 16, 17, 18, 19, 20, 21, 22, 23, 24, 25, 26, 27, 28, 29, 30, 31, 32, 33, 34, 35, 36, 37, 38, 39, 40, 41, 42, 43, 44, 45, 46, 47, 53, 56, 57, 59] V u.1 ∧ agL [4, 5, 6, 13, 14, 15, 16, 17, 18, 19, 20, 21, 22, 23, 24, 25, 26, 27, 28, 29, 30, 31, 32, 33, 34, 35, 36, 37, 38, 39, 40, 41, 42, 43, 44, 45, 46, 47, 53, 56, 57, 59] L u.2 ∧ (0 ≤ r.toInt ∧ r.toInt ≤ 70000) ∧ (BRES gT r.toInt (fun _ => True)) ∧ (Imp (r.toInt = 0) (∃ s9 : St, Rc gT (Crun St0 [Istmt]) (Cdone s9) ∧ TBm u.1 u.2 bq s9 (s9.2.1 2) ∧ NKs s9 ∧ CNm u.1 bq s9)) ∧ (RoV 13 bq V u.1) ∧ (RoV 16 bq V u.1) ∧ (RoV 19 bq V u.1) ∧ (RoV 35 bq V u.1) ∧ (RoV 37 bq V u.1) ∧ (RoL 14 24 bq L u.2) ∧ (RoL 17 12 bq L u.2) ∧ (RoL 20 24 bq L u.2) ∧ (RoL 36 20 bq L u.2) ∧ (RoL 38 20 bq L u.2)) (fun u t => gq D A (mw ad kk ks.1 u.1 u.2) (mty kk) t) A
set_option maxHeartbeats 4000000 in
set_option maxRecDepth 100000 in
theorem s_book3 (l : Launch) (D : va_G) (ks : KS) (sz : Nat) (ad : Nat → Nat) (kk : Nat → ClassId) (V : Vf) (L : Lf) (bq : Nat) (gn : Nat) (gT : Tk) (hMV : rgd bM V) (zq1 : (bq : Int) = 1 - (V 0 11).toInt) (bq2 : bq < 2) (hT : ∀ (W9 : Vf) (M9 : Lf), RTE V W9 M9 → (∀ k : Nat, k < 28 → M9 10 k = L 10 k) → TkM W9 M9 gT gn)  : Met l yX12_book (Cond.code yX12_book cX12_book 1 (some .int) :: GW) r_s_book3 (va_Pc [.ref (ad 0)] (gp D ks (mw ad kk ks.1 V L) (mty kk) sz)) (q_s_book3 D ks ad kk V L  bq gn gT (va_A (mw ad kk ks.1 V L) sz)) 0 0 (va_A (mw ad kk ks.1 V L) sz) := by
  refine g_met (q_s_book3 D ks ad kk V L  bq gn gT) (by decide) (Nat.le_of_ble_eq_true rfl) ?_
  intro p e s m below meth c A ls H locs hx hb hr hml hown hg hlocks hin hnw hgk hP hK hD hS hA hl
  have hown : s.vm.findClass RX12 = some m.cls := hown
  have hl : lv_has ls 1 [(0, .ref (ad 0))] := hl
  have hP : va_P D vwCl (mw ad kk ks.1 V L) H := hP
  have hD : va_D A (mw ad kk ks.1 V L) := hD
  have hK : va_K D vwCl (mty kk) s := hK
  have agV : agr [(0, 0), (0, 2), (0, 3), (0, 7), (0, 8), (0, 11), (0, 12), (0, 48), (0, 49), (0, 50), (0, 51), (0, 52), (0, 54), (0, 55), (0, 60), (0, 65), (0, 69), (0, 70), (0, 71), (0, 72), (0, 73), (0, 76), (0, 81)] [4, 5, 6, 13, 14, 15, 16, 17, 18, 19, 20, 21, 22, 23, 24, 25, 26, 27, 28, 29, 30, 31, 32, 33, 34, 35, 36, 37, 38, 39, 40, 41, 42, 43, 44, 45, 46, 47, 53, 56, 57, 59] V V := agr.rf
  have alL : agL [4, 5, 6, 13, 14, 15, 16, 17, 18, 19, 20, 21, 22, 23, 24, 25, 26, 27, 28, 29, 30, 31, 32, 33, 34, 35, 36, 37, 38, 39, 40, 41, 42, 43, 44, 45, 46, 47, 53, 56, 57, 59] L L := agL.rf
  have r1 : 0 ≤ ((V 0 11)).toInt ∧ ((V 0 11)).toInt ≤ 1 := hMV 0 11
  refine lv_aload_n hx hb dX12_book_0 rfl (lv_at hl 0 rfl) ?_
  refine lv_iconst (v := 0) hx hb dX12_book_1 (by decide) ?_
  refine va_put (D := D) (ci := 12) (v := .int 0) (ty := tyX12 0) (C := RX12) (T := TX12) (N := 100) hx hb hg inX12 tyX12 tyX12_ok nmX12 hown hK hP hD hS 0 rfl rfl 0 (by decide) (hg _ w1710) (fun _ h9 => h9) rfl (tyX12_ok 0 (by decide)) rfl rfl (Nat.le_of_ble_eq_true rfl) dX12_book_2 (fun H locs hP hD hS => ?_)
  obtain ⟨V2, hV2⟩ : ∃ z, z = up2 V 0 0 0 := ⟨_, rfl⟩
  have hP : va_P D vwCl (mw ad kk ks.1 V2 L) H := by rw [hV2]; exact hP
  have hD : va_D A (mw ad kk ks.1 V2 L) := by rw [hV2]; exact hD
  have hMV2 : rgd bM V2 := hMV.put hV2 (i_full _)
  have agV2 : agr [(0, 0), (0, 2), (0, 3), (0, 7), (0, 8), (0, 11), (0, 12), (0, 48), (0, 49), (0, 50), (0, 51), (0, 52), (0, 54), (0, 55), (0, 60), (0, 65), (0, 69), (0, 70), (0, 71), (0, 72), (0, 73), (0, 76), (0, 81)] [4, 5, 6, 13, 14, 15, 16, 17, 18, 19, 20, 21, 22, 23, 24, 25, 26, 27, 28, 29, 30, 31, 32, 33, 34, 35, 36, 37, 38, 39, 40, 41, 42, 43, 44, 45, 46, 47, 53, 56, 57, 59] V V2 := agV.up hV2 rfl
  refine lv_aload_n hx hb dX12_book_5 rfl (lv_at hl 0 rfl) ?_
  refine gA_void (gA_runV (As := []) (rest := []) (ci := 12) (q0 := 0) hx hb hml hown hg hP hD hK hS hA hnw hgk (s_cutAll2 l D ks H.size ad kk V2 L  hMV2 ) w2015 w2017 w82 w172 w2018 rfl rfl hdV_yX12_cutAll ⟨Nat.le_of_ble_eq_true rfl, Nat.le_of_ble_eq_true rfl⟩ rfl hl.1 rfl (Nat.le_of_ble_eq_true rfl) dX12_book_6 ⟨Nat.le_of_ble_eq_true rfl, Nat.le_of_ble_eq_true rfl⟩) hP hD hK hS hA (fun u4 H locs w5 hP hD hK hS => ?_)
  obtain ⟨V10, L11⟩ := u4
  obtain ⟨hMV10, ajV10, axL11, t6, t7, t8, t9⟩ := w5
  have alL11 : agL [4, 5, 6, 13, 14, 15, 16, 17, 18, 19, 20, 21, 22, 23, 24, 25, 26, 27, 28, 29, 30, 31, 32, 33, 34, 35, 36, 37, 38, 39, 40, 41, 42, 43, 44, 45, 46, 47, 53, 56, 57, 59] L L11 := agL.tr alL axL11 (by decide)
  have hP : va_P D vwCl (mw ad kk ks.1 V10 L11) H := hP
  have hD : va_D A (mw ad kk ks.1 V10 L11) := hD
  have hMV10 : rgd bM V10 := hMV10
  have ajV10 : agr [(0, 2), (0, 3), (0, 7), (0, 8)] [4, 5, 6] V2 V10 := ajV10
  have agV10 : agr [(0, 0), (0, 2), (0, 3), (0, 7), (0, 8), (0, 11), (0, 12), (0, 48), (0, 49), (0, 50), (0, 51), (0, 52), (0, 54), (0, 55), (0, 60), (0, 65), (0, 69), (0, 70), (0, 71), (0, 72), (0, 73), (0, 76), (0, 81)] [4, 5, 6, 13, 14, 15, 16, 17, 18, 19, 20, 21, 22, 23, 24, 25, 26, 27, 28, 29, 30, 31, 32, 33, 34, 35, 36, 37, 38, 39, 40, 41, 42, 43, 44, 45, 46, 47, 53, 56, 57, 59] V V10 := agV2.tr ajV10 (by decide) (by decide)
  have t6 : (V10 0 8).toInt = 0 := t6
  have t7 : (V10 0 7).toInt = 0 := t7
  have t8 : (V10 0 2).toInt = 0 := t8
  have t9 : RTE V2 V10 L11 := t9
  have r12 : 0 ≤ ((V10 0 8)).toInt ∧ ((V10 0 8)).toInt ≤ 70000 := hMV10 0 8
  have r13 : 0 ≤ ((V10 0 2)).toInt ∧ ((V10 0 2)).toInt ≤ 4000 := hMV10 0 2
  obtain ⟨gs, hgs⟩ : ∃ q9, q9 = St0 := ⟨_, rfl⟩
  have tk0 : TkM V10 L11 gT gn := hT _ _ (RTE.mv t9 (by rw [(up2_fo hV2 (by decide) : V2 1 = V 1)] : V2 1 = V 1) (show V2 0 2 = V 0 2 from (up2_k hV2 (by decide)))) (fun k hk => alL11 10 k rfl)
  refine lv_aload_n hx hb dX12_book_9 rfl (lv_at hl 0 rfl) ?_
  refine lv_iconst (v := 1) hx hb dX12_book_10 (by decide) ?_
  refine lv_aload_n hx hb dX12_book_11 rfl (lv_at hl 0 rfl) ?_
  refine va_get (D := D) (ci := 12) (v := .int (V10 0 11)) (C := RX12) (T := TX12) (N := 100) hx hb hg inX12 hown hK hP 0 rfl rfl 11 (by decide) (hg _ w1721) (fun _ h9 => h9) rfl dX12_book_12 ?_
  refine g_top (v := (V 0 11)) ((ajV10 0 11 rfl).trans (up2_k hV2 (by decide))) ?_
  refine lv_isub hx hb dX12_book_15 ?_
  refine lv_topi (fun z14 ez14 => ?_)
  have hz14 : z14.toInt = 1 - ((V 0 11)).toInt := i_sub ez14 (by decide) rfl (by omega)
  refine va_put (D := D) (ci := 12) (v := .int z14) (ty := tyX12 12) (C := RX12) (T := TX12) (N := 100) hx hb hg inX12 tyX12 tyX12_ok nmX12 hown hK hP hD hS 0 rfl rfl 12 (by decide) (hg _ w1722) (fun _ h9 => h9) rfl (tyX12_ok 12 (by decide)) rfl rfl (Nat.le_of_ble_eq_true rfl) dX12_book_16 (fun H locs hP hD hS => ?_)
  obtain ⟨V15, hV15⟩ : ∃ z, z = up2 V10 0 12 z14 := ⟨_, rfl⟩
  have hP : va_P D vwCl (mw ad kk ks.1 V15 L11) H := by rw [hV15]; exact hP
  have hD : va_D A (mw ad kk ks.1 V15 L11) := by rw [hV15]; exact hD
  have hMV15 : rgd bM V15 := hMV10.put hV15 (show 0 ≤ z14.toInt ∧ z14.toInt ≤ 1 from by omega)
  have agV15 : agr [(0, 0), (0, 2), (0, 3), (0, 7), (0, 8), (0, 11), (0, 12), (0, 48), (0, 49), (0, 50), (0, 51), (0, 52), (0, 54), (0, 55), (0, 60), (0, 65), (0, 69), (0, 70), (0, 71), (0, 72), (0, 73), (0, 76), (0, 81)] [4, 5, 6, 13, 14, 15, 16, 17, 18, 19, 20, 21, 22, 23, 24, 25, 26, 27, 28, 29, 30, 31, 32, 33, 34, 35, 36, 37, 38, 39, 40, 41, 42, 43, 44, 45, 46, 47, 53, 56, 57, 59] V V15 := agV10.up hV15 rfl
  refine lv_aload_n hx hb dX12_book_19 rfl (lv_at hl 0 rfl) ?_
  refine va_get (D := D) (ci := 12) (v := .ref (ad 13)) (C := RX12) (T := TX12) (N := 100) hx hb hg inX12 hown hK hP 0 rfl rfl 13 (by decide) (hg _ w1723) (fun _ h9 => h9) rfl dX12_book_20 ?_
  refine lv_aload_n hx hb dX12_book_23 rfl (lv_at hl 0 rfl) ?_
  refine va_get (D := D) (ci := 12) (v := .int (V15 0 12)) (C := RX12) (T := TX12) (N := 100) hx hb hg inX12 hown hK hP 0 rfl rfl 12 (by decide) (hg _ w1722) (fun _ h9 => h9) rfl dX12_book_24 ?_
  refine g_top (v := z14) (up2_s hV15) ?_
  refine lv_iconst (v := 0) hx hb dX12_book_27 (by decide) ?_
  refine va_iast (D := D) (i := z14) (x := 0) hx hb hK hP hD hS 6 5 rfl rfl (i_in (a := z14.toInt) rfl (by omega)) dX12_book_28 (fun H locs hP hD hS => ?_)
  obtain ⟨V16, hV16⟩ : ∃ z, z = up2 V15 13 (Int32.toNatClampNeg z14) 0 := ⟨_, rfl⟩
  have hP : va_P D vwCl (mw ad kk ks.1 V16 L11) H := by rw [hV16]; exact hP
  have hD : va_D A (mw ad kk ks.1 V16 L11) := by rw [hV16]; exact hD
  have hMV16 : rgd bM V16 := hMV15.put hV16 (show 0 ≤ Int32.toInt 0 ∧ Int32.toInt 0 ≤ 24 from by decide)
  have agV16 : agr [(0, 0), (0, 2), (0, 3), (0, 7), (0, 8), (0, 11), (0, 12), (0, 48), (0, 49), (0, 50), (0, 51), (0, 52), (0, 54), (0, 55), (0, 60), (0, 65), (0, 69), (0, 70), (0, 71), (0, 72), (0, 73), (0, 76), (0, 81)] [4, 5, 6, 13, 14, 15, 16, 17, 18, 19, 20, 21, 22, 23, 24, 25, 26, 27, 28, 29, 30, 31, 32, 33, 34, 35, 36, 37, 38, 39, 40, 41, 42, 43, 44, 45, 46, 47, 53, 56, 57, 59] V V16 := agV15.up hV16 rfl
  refine lv_aload_n hx hb dX12_book_29 rfl (lv_at hl 0 rfl) ?_
  refine va_get (D := D) (ci := 12) (v := .ref (ad 16)) (C := RX12) (T := TX12) (N := 100) hx hb hg inX12 hown hK hP 0 rfl rfl 16 (by decide) (hg _ w1726) (fun _ h9 => h9) rfl dX12_book_30 ?_
  refine lv_aload_n hx hb dX12_book_33 rfl (lv_at hl 0 rfl) ?_
  refine va_get (D := D) (ci := 12) (v := .int (V16 0 12)) (C := RX12) (T := TX12) (N := 100) hx hb hg inX12 hown hK hP 0 rfl rfl 12 (by decide) (hg _ w1722) (fun _ h9 => h9) rfl dX12_book_34 ?_
  refine g_top (v := z14) ((up2_o hV16 (by decide)).trans (up2_s hV15)) ?_
  refine lv_iconst (v := 0) hx hb dX12_book_37 (by decide) ?_
  refine va_iast (D := D) (i := z14) (x := 0) hx hb hK hP hD hS 9 8 rfl rfl (i_in (a := z14.toInt) rfl (by omega)) dX12_book_38 (fun H locs hP hD hS => ?_)
  obtain ⟨V17, hV17⟩ : ∃ z, z = up2 V16 16 (Int32.toNatClampNeg z14) 0 := ⟨_, rfl⟩
  have hP : va_P D vwCl (mw ad kk ks.1 V17 L11) H := by rw [hV17]; exact hP
  have hD : va_D A (mw ad kk ks.1 V17 L11) := by rw [hV17]; exact hD
  have hMV17 : rgd bM V17 := hMV16.put hV17 (show 0 ≤ Int32.toInt 0 ∧ Int32.toInt 0 ≤ 12 from by decide)
  have agV17 : agr [(0, 0), (0, 2), (0, 3), (0, 7), (0, 8), (0, 11), (0, 12), (0, 48), (0, 49), (0, 50), (0, 51), (0, 52), (0, 54), (0, 55), (0, 60), (0, 65), (0, 69), (0, 70), (0, 71), (0, 72), (0, 73), (0, 76), (0, 81)] [4, 5, 6, 13, 14, 15, 16, 17, 18, 19, 20, 21, 22, 23, 24, 25, 26, 27, 28, 29, 30, 31, 32, 33, 34, 35, 36, 37, 38, 39, 40, 41, 42, 43, 44, 45, 46, 47, 53, 56, 57, 59] V V17 := agV16.up hV17 rfl
  refine lv_aload_n hx hb dX12_book_39 rfl (lv_at hl 0 rfl) ?_
  refine va_get (D := D) (ci := 12) (v := .ref (ad 19)) (C := RX12) (T := TX12) (N := 100) hx hb hg inX12 hown hK hP 0 rfl rfl 19 (by decide) (hg _ w1729) (fun _ h9 => h9) rfl dX12_book_40 ?_
  refine lv_aload_n hx hb dX12_book_43 rfl (lv_at hl 0 rfl) ?_
  refine va_get (D := D) (ci := 12) (v := .int (V17 0 12)) (C := RX12) (T := TX12) (N := 100) hx hb hg inX12 hown hK hP 0 rfl rfl 12 (by decide) (hg _ w1722) (fun _ h9 => h9) rfl dX12_book_44 ?_
  refine g_top (v := z14) ((up2_o hV17 (by decide)).trans ((up2_o hV16 (by decide)).trans (up2_s hV15))) ?_
  refine lv_iconst (v := 0) hx hb dX12_book_47 (by decide) ?_
  refine va_iast (D := D) (i := z14) (x := 0) hx hb hK hP hD hS 12 11 rfl rfl (i_in (a := z14.toInt) rfl (by omega)) dX12_book_48 (fun H locs hP hD hS => ?_)
  obtain ⟨V18, hV18⟩ : ∃ z, z = up2 V17 19 (Int32.toNatClampNeg z14) 0 := ⟨_, rfl⟩
  have hP : va_P D vwCl (mw ad kk ks.1 V18 L11) H := by rw [hV18]; exact hP
  have hD : va_D A (mw ad kk ks.1 V18 L11) := by rw [hV18]; exact hD
  have hMV18 : rgd bM V18 := hMV17.put hV18 (show 0 ≤ Int32.toInt 0 ∧ Int32.toInt 0 ≤ 24 from by decide)
  have agV18 : agr [(0, 0), (0, 2), (0, 3), (0, 7), (0, 8), (0, 11), (0, 12), (0, 48), (0, 49), (0, 50), (0, 51), (0, 52), (0, 54), (0, 55), (0, 60), (0, 65), (0, 69), (0, 70), (0, 71), (0, 72), (0, 73), (0, 76), (0, 81)] [4, 5, 6, 13, 14, 15, 16, 17, 18, 19, 20, 21, 22, 23, 24, 25, 26, 27, 28, 29, 30, 31, 32, 33, 34, 35, 36, 37, 38, 39, 40, 41, 42, 43, 44, 45, 46, 47, 53, 56, 57, 59] V V18 := agV17.up hV18 rfl
  refine lv_aload_n hx hb dX12_book_49 rfl (lv_at hl 0 rfl) ?_
  refine va_get (D := D) (ci := 12) (v := .ref (ad 35)) (C := RX12) (T := TX12) (N := 100) hx hb hg inX12 hown hK hP 0 rfl rfl 35 (by decide) (hg _ w1745) (fun _ h9 => h9) rfl dX12_book_50 ?_
  refine lv_aload_n hx hb dX12_book_53 rfl (lv_at hl 0 rfl) ?_
  refine va_get (D := D) (ci := 12) (v := .int (V18 0 12)) (C := RX12) (T := TX12) (N := 100) hx hb hg inX12 hown hK hP 0 rfl rfl 12 (by decide) (hg _ w1722) (fun _ h9 => h9) rfl dX12_book_54 ?_
  refine g_top (v := z14) ((up2_o hV18 (by decide)).trans ((up2_o hV17 (by decide)).trans ((up2_o hV16 (by decide)).trans (up2_s hV15)))) ?_
  refine lv_iconst (v := 0) hx hb dX12_book_57 (by decide) ?_
  refine va_iast (D := D) (i := z14) (x := 0) hx hb hK hP hD hS 28 27 rfl rfl (i_in (a := z14.toInt) rfl (by omega)) dX12_book_58 (fun H locs hP hD hS => ?_)
  obtain ⟨V19, hV19⟩ : ∃ z, z = up2 V18 35 (Int32.toNatClampNeg z14) 0 := ⟨_, rfl⟩
  have hP : va_P D vwCl (mw ad kk ks.1 V19 L11) H := by rw [hV19]; exact hP
  have hD : va_D A (mw ad kk ks.1 V19 L11) := by rw [hV19]; exact hD
  have hMV19 : rgd bM V19 := hMV18.put hV19 (show 0 ≤ Int32.toInt 0 ∧ Int32.toInt 0 ≤ 20 from by decide)
  have agV19 : agr [(0, 0), (0, 2), (0, 3), (0, 7), (0, 8), (0, 11), (0, 12), (0, 48), (0, 49), (0, 50), (0, 51), (0, 52), (0, 54), (0, 55), (0, 60), (0, 65), (0, 69), (0, 70), (0, 71), (0, 72), (0, 73), (0, 76), (0, 81)] [4, 5, 6, 13, 14, 15, 16, 17, 18, 19, 20, 21, 22, 23, 24, 25, 26, 27, 28, 29, 30, 31, 32, 33, 34, 35, 36, 37, 38, 39, 40, 41, 42, 43, 44, 45, 46, 47, 53, 56, 57, 59] V V19 := agV18.up hV19 rfl
  refine lv_aload_n hx hb dX12_book_59 rfl (lv_at hl 0 rfl) ?_
  refine va_get (D := D) (ci := 12) (v := .ref (ad 37)) (C := RX12) (T := TX12) (N := 100) hx hb hg inX12 hown hK hP 0 rfl rfl 37 (by decide) (hg _ w1747) (fun _ h9 => h9) rfl dX12_book_60 ?_
  refine lv_aload_n hx hb dX12_book_63 rfl (lv_at hl 0 rfl) ?_
  refine va_get (D := D) (ci := 12) (v := .int (V19 0 12)) (C := RX12) (T := TX12) (N := 100) hx hb hg inX12 hown hK hP 0 rfl rfl 12 (by decide) (hg _ w1722) (fun _ h9 => h9) rfl dX12_book_64 ?_
  refine g_top (v := z14) ((up2_o hV19 (by decide)).trans ((up2_o hV18 (by decide)).trans ((up2_o hV17 (by decide)).trans ((up2_o hV16 (by decide)).trans (up2_s hV15))))) ?_
  refine lv_iconst (v := 0) hx hb dX12_book_67 (by decide) ?_
  refine va_iast (D := D) (i := z14) (x := 0) hx hb hK hP hD hS 30 29 rfl rfl (i_in (a := z14.toInt) rfl (by omega)) dX12_book_68 (fun H locs hP hD hS => ?_)
  obtain ⟨V20, hV20⟩ : ∃ z, z = up2 V19 37 (Int32.toNatClampNeg z14) 0 := ⟨_, rfl⟩
  have hP : va_P D vwCl (mw ad kk ks.1 V20 L11) H := by rw [hV20]; exact hP
  have hD : va_D A (mw ad kk ks.1 V20 L11) := by rw [hV20]; exact hD
  have hMV20 : rgd bM V20 := hMV19.put hV20 (show 0 ≤ Int32.toInt 0 ∧ Int32.toInt 0 ≤ 20 from by decide)
  have agV20 : agr [(0, 0), (0, 2), (0, 3), (0, 7), (0, 8), (0, 11), (0, 12), (0, 48), (0, 49), (0, 50), (0, 51), (0, 52), (0, 54), (0, 55), (0, 60), (0, 65), (0, 69), (0, 70), (0, 71), (0, 72), (0, 73), (0, 76), (0, 81)] [4, 5, 6, 13, 14, 15, 16, 17, 18, 19, 20, 21, 22, 23, 24, 25, 26, 27, 28, 29, 30, 31, 32, 33, 34, 35, 36, 37, 38, 39, 40, 41, 42, 43, 44, 45, 46, 47, 53, 56, 57, 59] V V20 := agV19.up hV20 rfl
  refine lv_aload_n hx hb dX12_book_69 rfl (lv_at hl 0 rfl) ?_
  refine va_get (D := D) (ci := 12) (v := .ref (ad 39)) (C := RX12) (T := TX12) (N := 100) hx hb hg inX12 hown hK hP 0 rfl rfl 39 (by decide) (hg _ w1749) (fun _ h9 => h9) rfl dX12_book_70 ?_
  refine lv_aload_n hx hb dX12_book_73 rfl (lv_at hl 0 rfl) ?_
  refine va_get (D := D) (ci := 12) (v := .int (V20 0 12)) (C := RX12) (T := TX12) (N := 100) hx hb hg inX12 hown hK hP 0 rfl rfl 12 (by decide) (hg _ w1722) (fun _ h9 => h9) rfl dX12_book_74 ?_
  refine g_top (v := z14) ((up2_o hV20 (by decide)).trans ((up2_o hV19 (by decide)).trans ((up2_o hV18 (by decide)).trans ((up2_o hV17 (by decide)).trans ((up2_o hV16 (by decide)).trans (up2_s hV15)))))) ?_
  refine lv_iconst (v := 0) hx hb dX12_book_77 (by decide) ?_
  refine va_iast (D := D) (i := z14) (x := 0) hx hb hK hP hD hS 32 31 rfl rfl (i_in (a := z14.toInt) rfl (by omega)) dX12_book_78 (fun H locs hP hD hS => ?_)
  obtain ⟨V21, hV21⟩ : ∃ z, z = up2 V20 39 (Int32.toNatClampNeg z14) 0 := ⟨_, rfl⟩
  have hP : va_P D vwCl (mw ad kk ks.1 V21 L11) H := by rw [hV21]; exact hP
  have hD : va_D A (mw ad kk ks.1 V21 L11) := by rw [hV21]; exact hD
  have hMV21 : rgd bM V21 := hMV20.put hV21 (show 0 ≤ Int32.toInt 0 ∧ Int32.toInt 0 ≤ 12 from by decide)
  have agV21 : agr [(0, 0), (0, 2), (0, 3), (0, 7), (0, 8), (0, 11), (0, 12), (0, 48), (0, 49), (0, 50), (0, 51), (0, 52), (0, 54), (0, 55), (0, 60), (0, 65), (0, 69), (0, 70), (0, 71), (0, 72), (0, 73), (0, 76), (0, 81)] [4, 5, 6, 13, 14, 15, 16, 17, 18, 19, 20, 21, 22, 23, 24, 25, 26, 27, 28, 29, 30, 31, 32, 33, 34, 35, 36, 37, 38, 39, 40, 41, 42, 43, 44, 45, 46, 47, 53, 56, 57, 59] V V21 := agV20.up hV21 rfl
  refine lv_aload_n hx hb dX12_book_79 rfl (lv_at hl 0 rfl) ?_
  refine lv_iconst (v := 0) hx hb dX12_book_80 (by decide) ?_
  refine va_put (D := D) (ci := 12) (v := .int 0) (ty := tyX12 48) (C := RX12) (T := TX12) (N := 100) hx hb hg inX12 tyX12 tyX12_ok nmX12 hown hK hP hD hS 0 rfl rfl 48 (by decide) (hg _ w1758) (fun _ h9 => h9) rfl (tyX12_ok 48 (by decide)) rfl rfl (Nat.le_of_ble_eq_true rfl) dX12_book_81 (fun H locs hP hD hS => ?_)
  obtain ⟨V22, hV22⟩ : ∃ z, z = up2 V21 0 48 0 := ⟨_, rfl⟩
  have hP : va_P D vwCl (mw ad kk ks.1 V22 L11) H := by rw [hV22]; exact hP
  have hD : va_D A (mw ad kk ks.1 V22 L11) := by rw [hV22]; exact hD
  have hMV22 : rgd bM V22 := hMV21.put hV22 (by decide)
  have agV22 : agr [(0, 0), (0, 2), (0, 3), (0, 7), (0, 8), (0, 11), (0, 12), (0, 48), (0, 49), (0, 50), (0, 51), (0, 52), (0, 54), (0, 55), (0, 60), (0, 65), (0, 69), (0, 70), (0, 71), (0, 72), (0, 73), (0, 76), (0, 81)] [4, 5, 6, 13, 14, 15, 16, 17, 18, 19, 20, 21, 22, 23, 24, 25, 26, 27, 28, 29, 30, 31, 32, 33, 34, 35, 36, 37, 38, 39, 40, 41, 42, 43, 44, 45, 46, 47, 53, 56, 57, 59] V V22 := agV21.up hV22 rfl
  refine lv_aload_n hx hb dX12_book_84 rfl (lv_at hl 0 rfl) ?_
  refine lv_sipush (v := 10000) hx hb dX12_book_85 (by decide) ?_
  refine lv_aload_n hx hb dX12_book_88 rfl (lv_at hl 0 rfl) ?_
  refine va_get (D := D) (ci := 12) (v := .int (V22 0 12)) (C := RX12) (T := TX12) (N := 100) hx hb hg inX12 hown hK hP 0 rfl rfl 12 (by decide) (hg _ w1722) (fun _ h9 => h9) rfl dX12_book_89 ?_
  refine g_top (v := z14) ((up2_k hV22 (by decide)).trans ((up2_o hV21 (by decide)).trans ((up2_o hV20 (by decide)).trans ((up2_o hV19 (by decide)).trans ((up2_o hV18 (by decide)).trans ((up2_o hV17 (by decide)).trans ((up2_o hV16 (by decide)).trans (up2_s hV15)))))))) ?_
  refine lv_imul hx hb dX12_book_92 ?_
  refine lv_topi (fun z23 ez23 => ?_)
  have hz23 : z23.toInt = 10000 * z14.toInt := i_mul ez23 (by decide) rfl (by omega)
  refine va_put (D := D) (ci := 12) (v := .int z23) (ty := tyX12 49) (C := RX12) (T := TX12) (N := 100) hx hb hg inX12 tyX12 tyX12_ok nmX12 hown hK hP hD hS 0 rfl rfl 49 (by decide) (hg _ w1759) (fun _ h9 => h9) rfl (tyX12_ok 49 (by decide)) rfl rfl (Nat.le_of_ble_eq_true rfl) dX12_book_93 (fun H locs hP hD hS => ?_)
  obtain ⟨V24, hV24⟩ : ∃ z, z = up2 V22 0 49 z23 := ⟨_, rfl⟩
  have hP : va_P D vwCl (mw ad kk ks.1 V24 L11) H := by rw [hV24]; exact hP
  have hD : va_D A (mw ad kk ks.1 V24 L11) := by rw [hV24]; exact hD
  have hMV24 : rgd bM V24 := hMV22.put hV24 (show 0 ≤ z23.toInt ∧ z23.toInt ≤ 10000 from by omega)
  have agV24 : agr [(0, 0), (0, 2), (0, 3), (0, 7), (0, 8), (0, 11), (0, 12), (0, 48), (0, 49), (0, 50), (0, 51), (0, 52), (0, 54), (0, 55), (0, 60), (0, 65), (0, 69), (0, 70), (0, 71), (0, 72), (0, 73), (0, 76), (0, 81)] [4, 5, 6, 13, 14, 15, 16, 17, 18, 19, 20, 21, 22, 23, 24, 25, 26, 27, 28, 29, 30, 31, 32, 33, 34, 35, 36, 37, 38, 39, 40, 41, 42, 43, 44, 45, 46, 47, 53, 56, 57, 59] V V24 := agV22.up hV24 rfl
  have lp28 : ∀ (fulp28 : Nat) (g27 : Int) (V25 : Vf) (L26 : Lf) (H : Heap) (locs : List Loc) (ls : Array Slot), 0 ≤ g27 → (((V25 0 8).toInt = 0 ∧ ∃ s1 : St, (∀ k, Rc gT (Crun gs (Istmt :: k)) (Crun s1 (Istmt :: k))) ∧ RelM V25 L26 bq gn gT s1 (s1.2.1 2) ∧ ARm s1 ∧ CNm V25 bq s1) ∨ (1 ≤ (V25 0 8).toInt ∧ ∀ k, Rc gT (Crun gs (Istmt :: k)) (Cbad (V25 0 8).toInt))) → Imp ((V25 0 8).toInt = 0) ((gn : Int) - (V25 0 7).toInt < g27) → Imp ((V25 0 8).toInt = 0) ((V25 0 48).toInt ≤ 2 * (V25 0 7).toInt) → (V25 0 48).toInt ≤ 8200 → (RoV 13 bq V V25) → (RoV 16 bq V V25) → (RoV 19 bq V V25) → (RoV 35 bq V V25) → (RoV 37 bq V V25) → (RoL 14 24 bq L L26) → (RoL 17 12 bq L L26) → (RoL 20 24 bq L L26) → (RoL 36 20 bq L L26) → (RoL 38 20 bq L L26) → g27 < (fulp28 : Int) → agL [4, 5, 6, 13, 14, 15, 16, 17, 18, 19, 20, 21, 22, 23, 24, 25, 26, 27, 28, 29, 30, 31, 32, 33, 34, 35, 36, 37, 38, 39, 40, 41, 42, 43, 44, 45, 46, 47, 53, 56, 57, 59] L L26 → agr [(0, 7), (0, 8), (0, 48), (0, 50), (0, 51), (0, 52)] [13, 14, 15, 16, 17, 18, 19, 20, 21, 22, 23, 24, 25, 26, 27, 28, 29, 30, 31, 32, 33, 34, 35, 36, 37, 38, 39, 40, 41, 42, 43, 44, 45, 46, 47, 53] V24 V25 → rgd bM V25 → va_P D vwCl (mw ad kk ks.1 V25 L26) H → va_D A (mw ad kk ks.1 V25 L26) → va_S A s.heap H locs → lv_has ls 1 [(0, .ref (ad 0))] → W p l e r_s_book3 s m ([.ref (ad 0)] : List Value).toArray below meth c H locs 0 0 (MQ below (q_s_book3 D ks ad kk V L  bq gn gT A) ([.ref (ad 0)] : List Value).toArray s 0 0 A) (F0 m 96 ls []) := by
    intro fulp28
    induction fulp28 with
    | zero =>
      intro g27 V25 L26 H locs ls xlp28_0 xlp28_1 xlp28_2 xlp28_3 xlp28_4 xlp28_5 xlp28_6 xlp28_7 xlp28_8 xlp28_9 xlp28_10 xlp28_11 xlp28_12 xlp28_13 xlp28_14 hn alL26 ajV25 hMV25 hP hD hS hl
      exfalso; omega
    | succ fulp28 ihlp28 =>
      intro g27 V25 L26 H locs ls xlp28_0 xlp28_1 xlp28_2 xlp28_3 xlp28_4 xlp28_5 xlp28_6 xlp28_7 xlp28_8 xlp28_9 xlp28_10 xlp28_11 xlp28_12 xlp28_13 xlp28_14 hn alL26 ajV25 hMV25 hP hD hS hl
      have agV25 : agr [(0, 0), (0, 2), (0, 3), (0, 7), (0, 8), (0, 11), (0, 12), (0, 48), (0, 49), (0, 50), (0, 51), (0, 52), (0, 54), (0, 55), (0, 60), (0, 65), (0, 69), (0, 70), (0, 71), (0, 72), (0, 73), (0, 76), (0, 81)] [4, 5, 6, 13, 14, 15, 16, 17, 18, 19, 20, 21, 22, 23, 24, 25, 26, 27, 28, 29, 30, 31, 32, 33, 34, 35, 36, 37, 38, 39, 40, 41, 42, 43, 44, 45, 46, 47, 53, 56, 57, 59] V V25 := agV24.tr ajV25 (by decide) (by decide)
      have r29 : 0 ≤ ((V25 0 8)).toInt ∧ ((V25 0 8)).toInt ≤ 70000 := hMV25 0 8
      have r30 : 0 ≤ ((V25 0 48)).toInt ∧ ((V25 0 48)).toInt ≤ 10000 := hMV25 0 48
      refine lv_aload_n hx hb dX12_book_96 rfl (lv_at hl 0 rfl) ?_
      rcases xlp28_1 with ⟨f8, s1, hq, rq, aq, nq⟩ | ⟨f8, hq⟩
      · skip
        have fz31 := RelM.rg rq
        refine va_get (D := D) (ci := 12) (v := .int (V25 0 8)) (C := RX12) (T := TX12) (N := 100) hx hb hg inX12 hown hK hP 0 rfl rfl 8 (by decide) (hg _ w1718) (fun _ h9 => h9) rfl dX12_book_97 ?_
        refine lv_if_ne (tgt := 184) hx hb dX12_book_100 (by decide) (fun c32 => ?_) (fun c32 => ?_)
        · skip
          have f33 : ((V25 0 8)).toInt ≠ 0 := b_neq rfl (by decide) c32
          exfalso; first | omega | ((try (have i_xlp28_3 := Imp.go xlp28_3 (by omega))); (try (have i_xlp28_2 := Imp.go xlp28_2 (by omega))); (try (have i_xlp28_2 := Imp.go xlp28_2 (by omega))); (try (have i_xlp28_3 := Imp.go xlp28_3 (by omega))); omega)
        · skip
          have f34 : ((V25 0 8)).toInt = 0 := b_eq rfl (by decide) c32
          refine lv_aload_n hx hb dX12_book_103 rfl (lv_at hl 0 rfl) ?_
          refine va_get (D := D) (ci := 12) (v := .ref (ad 4)) (C := RX12) (T := TX12) (N := 100) hx hb hg inX12 hown hK hP 0 rfl rfl 4 (by decide) (hg _ w1714) (fun _ h9 => h9) rfl dX12_book_104 ?_
          refine lv_aload_n hx hb dX12_book_107 rfl (lv_at hl 0 rfl) ?_
          refine va_get (D := D) (ci := 12) (v := .int (V25 0 7)) (C := RX12) (T := TX12) (N := 100) hx hb hg inX12 hown hK hP 0 rfl rfl 7 (by decide) (hg _ w1717) (fun _ h9 => h9) rfl dX12_book_108 ?_
          refine va_iald (D := D) (i := (V25 0 7)) hx hb hK hP 2 1 rfl rfl (i_in (a := ((V25 0 7)).toInt) rfl (by first | omega | ((try (have i_xlp28_3 := Imp.go xlp28_3 (by omega))); (try (have i_xlp28_2 := Imp.go xlp28_2 (by omega))); (try (have i_xlp28_2 := Imp.go xlp28_2 (by omega))); (try (have i_xlp28_3 := Imp.go xlp28_3 (by omega))); omega))) dX12_book_111 ?_
          refine g_top (v := (V10 4 (Int32.toNatClampNeg (V25 0 7)))) ((ajV25 4 (Int32.toNatClampNeg (V25 0 7)) rfl).trans ((up2_o hV24 (by decide)).trans ((up2_o hV22 (by decide)).trans ((up2_o hV21 (by decide)).trans ((up2_o hV20 (by decide)).trans ((up2_o hV19 (by decide)).trans ((up2_o hV18 (by decide)).trans ((up2_o hV17 (by decide)).trans ((up2_o hV16 (by decide)).trans (up2_o hV15 (by decide))))))))))) ?_
          have kc9 : Int32.toNatClampNeg (V25 0 7) = s1.1 0 := by have h9 := RelM.cl rq; exact h9
          have e49 : (V10 4 (Int32.toNatClampNeg (V25 0 7))).toInt = 0 ↔ gT.1 (s1.1 0) = 0 := by rw [kc9, ← (show V25 4 (s1.1 0) = (V10 4 (s1.1 0)) from ((ajV25 4 (s1.1 0) rfl).trans ((up2_o hV24 (by decide)).trans ((up2_o hV22 (by decide)).trans ((up2_o hV21 (by decide)).trans ((up2_o hV20 (by decide)).trans ((up2_o hV19 (by decide)).trans ((up2_o hV18 (by decide)).trans ((up2_o hV17 (by decide)).trans ((up2_o hV16 (by decide)).trans (up2_o hV15 (by decide))))))))))))]; exact RelM.en rq
          refine lv_if_eq (tgt := 184) hx hb dX12_book_112 (by decide) (fun c35 => ?_) (fun c35 => ?_)
          · skip
            have f36 : ((V10 4 (Int32.toNatClampNeg (V25 0 7)))).toInt = 0 := b_eq rfl (by decide) c35
            have kz9 : gT.1 (s1.1 0) = 0 := e49.mp (by omega)
            refine lv_aload_n hx hb dX12_book_184 rfl (lv_at hl 0 rfl) ?_
            refine va_get (D := D) (ci := 12) (v := .int (V25 0 8)) (C := RX12) (T := TX12) (N := 100) hx hb hg inX12 hown hK hP 0 rfl rfl 8 (by decide) (hg _ w1718) (fun _ h9 => h9) rfl dX12_book_185 ?_
            refine lv_if_ne (tgt := 203) hx hb dX12_book_188 (by decide) (fun c37 => ?_) (fun c37 => ?_)
            · skip
              have f38 : ((V25 0 8)).toInt ≠ 0 := b_neq rfl (by decide) c37
              exfalso; first | omega | ((try (have i_xlp28_3 := Imp.go xlp28_3 (by omega))); (try (have i_xlp28_2 := Imp.go xlp28_2 (by omega))); (try (have i_xlp28_2 := Imp.go xlp28_2 (by omega))); (try (have i_xlp28_3 := Imp.go xlp28_3 (by omega))); omega)
            · skip
              have f39 : ((V25 0 8)).toInt = 0 := b_eq rfl (by decide) c37
              refine lv_aload_n hx hb dX12_book_191 rfl (lv_at hl 0 rfl) ?_
              refine lv_aload_n hx hb dX12_book_192 rfl (lv_at hl 0 rfl) ?_
              refine va_get (D := D) (ci := 12) (v := .int (V25 0 12)) (C := RX12) (T := TX12) (N := 100) hx hb hg inX12 hown hK hP 0 rfl rfl 12 (by decide) (hg _ w1722) (fun _ h9 => h9) rfl dX12_book_193 ?_
              refine g_top (v := z14) ((ajV25 0 12 rfl).trans ((up2_k hV24 (by decide)).trans ((up2_k hV22 (by decide)).trans ((up2_o hV21 (by decide)).trans ((up2_o hV20 (by decide)).trans ((up2_o hV19 (by decide)).trans ((up2_o hV18 (by decide)).trans ((up2_o hV17 (by decide)).trans ((up2_o hV16 (by decide)).trans (up2_s hV15)))))))))) ?_
              refine va_put (D := D) (ci := 12) (v := .int z14) (ty := tyX12 11) (C := RX12) (T := TX12) (N := 100) hx hb hg inX12 tyX12 tyX12_ok nmX12 hown hK hP hD hS 0 rfl rfl 11 (by decide) (hg _ w1721) (fun _ h9 => h9) rfl (tyX12_ok 11 (by decide)) rfl rfl (Nat.le_of_ble_eq_true rfl) dX12_book_196 (fun H locs hP hD hS => ?_)
              obtain ⟨V40, hV40⟩ : ∃ z, z = up2 V25 0 11 z14 := ⟨_, rfl⟩
              have hP : va_P D vwCl (mw ad kk ks.1 V40 L26) H := by rw [hV40]; exact hP
              have hD : va_D A (mw ad kk ks.1 V40 L26) := by rw [hV40]; exact hD
              have hMV40 : rgd bM V40 := hMV25.put hV40 (show 0 ≤ z14.toInt ∧ z14.toInt ≤ 1 from by first | omega | ((try (have i_xlp28_3 := Imp.go xlp28_3 (by omega))); (try (have i_xlp28_2 := Imp.go xlp28_2 (by omega))); (try (have i_xlp28_2 := Imp.go xlp28_2 (by omega))); (try (have i_xlp28_3 := Imp.go xlp28_3 (by omega))); omega))
              have agV40 : agr [(0, 0), (0, 2), (0, 3), (0, 7), (0, 8), (0, 11), (0, 12), (0, 48), (0, 49), (0, 50), (0, 51), (0, 52), (0, 54), (0, 55), (0, 60), (0, 65), (0, 69), (0, 70), (0, 71), (0, 72), (0, 73), (0, 76), (0, 81)] [4, 5, 6, 13, 14, 15, 16, 17, 18, 19, 20, 21, 22, 23, 24, 25, 26, 27, 28, 29, 30, 31, 32, 33, 34, 35, 36, 37, 38, 39, 40, 41, 42, 43, 44, 45, 46, 47, 53, 56, 57, 59] V V40 := agV25.up hV40 rfl
              refine lv_aload_n hx hb dX12_book_199 rfl (lv_at hl 0 rfl) ?_
              refine gA_void (gA_runV (As := []) (rest := []) (ci := 12) (q0 := 0) hx hb hml hown hg hP hD hK hS hA hnw hgk (s_forget2 l D ks H.size ad kk V40 L26  hMV40 ) w2160 w2162 w116 w172 w2163 rfl rfl hdV_yX12_forget ⟨Nat.le_of_ble_eq_true rfl, Nat.le_of_ble_eq_true rfl⟩ rfl hl.1 rfl (Nat.le_of_ble_eq_true rfl) dX12_book_200 ⟨Nat.le_of_ble_eq_true rfl, Nat.le_of_ble_eq_true rfl⟩) hP hD hK hS hA (fun u42 H locs w43 hP hD hK hS => ?_)
              obtain ⟨V46, L47⟩ := u42
              obtain ⟨hMV46, ajV46, axL47, t44, t45⟩ := w43
              have axL47 : L26 = L47 := Eq.symm axL47
              subst axL47
              have hP : va_P D vwCl (mw ad kk ks.1 V46 L26) H := hP
              have hD : va_D A (mw ad kk ks.1 V46 L26) := hD
              have hMV46 : rgd bM V46 := hMV46
              have ajV46 : agr [(0, 54), (0, 55), (0, 60), (0, 65), (0, 69), (0, 70), (0, 71), (0, 72), (0, 73), (0, 76), (0, 81)] [56, 57, 59] V40 V46 := ajV46
              have agV46 : agr [(0, 0), (0, 2), (0, 3), (0, 7), (0, 8), (0, 11), (0, 12), (0, 48), (0, 49), (0, 50), (0, 51), (0, 52), (0, 54), (0, 55), (0, 60), (0, 65), (0, 69), (0, 70), (0, 71), (0, 72), (0, 73), (0, 76), (0, 81)] [4, 5, 6, 13, 14, 15, 16, 17, 18, 19, 20, 21, 22, 23, 24, 25, 26, 27, 28, 29, 30, 31, 32, 33, 34, 35, 36, 37, 38, 39, 40, 41, 42, 43, 44, 45, 46, 47, 53, 56, 57, 59] V V46 := agV40.tr ajV46 (by decide) (by decide)
              have t44 : (V46 0 60).toInt = 0 ∧ (V46 0 54).toInt = 0 ∧ (V46 0 65).toInt = 0 ∧ (V46 0 73).toInt = 0 ∧ (V46 0 76).toInt = 0 := t44
              have t45 : (V46 0 55).toInt = 1 := t45
              have r48 : 0 ≤ ((V46 0 73)).toInt ∧ ((V46 0 73)).toInt ≤ 1000000 := hMV46 0 73
              have r49 : 0 ≤ ((V46 0 76)).toInt ∧ ((V46 0 76)).toInt ≤ 2000000000 := hMV46 0 76
              have r50 : 0 ≤ ((V46 0 54)).toInt ∧ ((V46 0 54)).toInt ≤ 1 := hMV46 0 54
              have r51 : 0 ≤ ((V46 0 65)).toInt ∧ ((V46 0 65)).toInt ≤ 1000000 := hMV46 0 65
              have r52 : 0 ≤ ((V46 0 60)).toInt ∧ ((V46 0 60)).toInt ≤ 300 := hMV46 0 60
              have r53 : 1 ≤ ((V46 0 55)).toInt ∧ ((V46 0 55)).toInt ≤ 40 := hMV46 0 55
              refine lv_aload_n hx hb dX12_book_203 rfl (lv_at hl 0 rfl) ?_
              refine va_get (D := D) (ci := 12) (v := .int (V46 0 8)) (C := RX12) (T := TX12) (N := 100) hx hb hg inX12 hown hK hP 0 rfl rfl 8 (by decide) (hg _ w1718) (fun _ h9 => h9) rfl dX12_book_204 ?_
              refine g_top (v := (V25 0 8)) ((ajV46 0 8 rfl).trans (up2_k hV40 (by decide))) ?_
              have rc9 : Rc gT (Crun St0 [Istmt]) (Cdone s1) := by rw [← hgs]; exact (hq []).go1 (st_0 kz9)
              have cn54 : CNm V46 bq s1 := CNm.ag nq (show agr [(0, 11), (0, 54), (0, 55), (0, 60), (0, 65), (0, 69), (0, 70), (0, 71), (0, 72), (0, 73), (0, 76), (0, 81)] [56, 57, 59] V25 V46 from (agr.tr (agr.up agr.rf hV40 rfl) ajV46 (by decide) (by decide))) (by decide) keepC.rf
              have rw55 : RoV 13 bq V V46 := (fun k hk => ((ajV46 13 k rfl).trans ((up2_o hV40 (by decide)).trans (xlp28_5 k hk))))
              have rw56 : RoV 16 bq V V46 := (fun k hk => ((ajV46 16 k rfl).trans ((up2_o hV40 (by decide)).trans (xlp28_6 k hk))))
              have rw57 : RoV 19 bq V V46 := (fun k hk => ((ajV46 19 k rfl).trans ((up2_o hV40 (by decide)).trans (xlp28_7 k hk))))
              have rw58 : RoV 35 bq V V46 := (fun k hk => ((ajV46 35 k rfl).trans ((up2_o hV40 (by decide)).trans (xlp28_8 k hk))))
              have rw59 : RoV 37 bq V V46 := (fun k hk => ((ajV46 37 k rfl).trans ((up2_o hV40 (by decide)).trans (xlp28_9 k hk))))
              have rw60 : RoL 14 24 bq L L26 := (fun k hk => (xlp28_10 k hk))
              have rw61 : RoL 17 12 bq L L26 := (fun k hk => (xlp28_11 k hk))
              have rw62 : RoL 20 24 bq L L26 := (fun k hk => (xlp28_12 k hk))
              have rw63 : RoL 36 20 bq L L26 := (fun k hk => (xlp28_13 k hk))
              have rw64 : RoL 38 20 bq L L26 := (fun k hk => (xlp28_14 k hk))
              exact W.iret (v := (V25 0 8)) hx hb hr (fun t ht hW => ⟨⟨(V25 0 8), (V46, L26), rfl, ⟨hMV46, agV46, alL26, (show 0 ≤ ((V25 0 8)).toInt ∧ ((V25 0 8)).toInt ≤ 70000 from by first | omega | ((try (have i_xlp28_3 := Imp.go xlp28_3 (by omega))); (try (have i_xlp28_2 := Imp.go xlp28_2 (by omega))); (try (have i_xlp28_2 := Imp.go xlp28_2 (by omega))); (try (have i_xlp28_3 := Imp.go xlp28_3 (by omega))); omega)), (by unfold BRES; rw [← hgs]; exact Or.inl ⟨by omega, s1, (hq []).go1 (st_0 kz9), trivial⟩), (Imp.mk (fun _ => ⟨s1, rc9, TBm.ag rq.2.2.1 (congrFun (by rw [(funext (fun q => ajV46 13 q rfl) : V46 13 = V40 13), (up2_fo hV40 (by decide) : V40 13 = V25 13)] : V46 13 = V25 13) bq) (congrFun (by rw [(funext (fun q => ajV46 16 q rfl) : V46 16 = V40 16), (up2_fo hV40 (by decide) : V40 16 = V25 16)] : V46 16 = V25 16) bq) (congrFun (by rw [(funext (fun q => ajV46 19 q rfl) : V46 19 = V40 19), (up2_fo hV40 (by decide) : V40 19 = V25 19)] : V46 19 = V25 19) bq) (congrFun (by rw [(funext (fun q => ajV46 35 q rfl) : V46 35 = V40 35), (up2_fo hV40 (by decide) : V40 35 = V25 35)] : V46 35 = V25 35) bq) (congrFun (by rw [(funext (fun q => ajV46 37 q rfl) : V46 37 = V40 37), (up2_fo hV40 (by decide) : V40 37 = V25 37)] : V46 37 = V25 37) bq) rfl rfl rfl rfl rfl rfl, (fun j w hw k hk => PWd.nk (Rc.pw tk0.2.2.1 rc9 j w hw) tk0 k hk), cn54⟩)), rw55, rw56, rw57, rw58, rw59, rw60, rw61, rw62, rw63, rw64⟩, by rw [ht]; exact hP, va_K.moved hW.alike hK, hD⟩, hS.F ht⟩) hS.2.2 dX12_book_207
          · skip
            have f65 : ((V10 4 (Int32.toNatClampNeg (V25 0 7)))).toInt ≠ 0 := b_neq rfl (by decide) c35
            have kd66 : gT.1 (s1.1 0) ≠ 0 := (fun h9 => by have h8 := e49.mpr h9; omega)
            refine lv_aload_n hx hb dX12_book_115 rfl (lv_at hl 0 rfl) ?_
            refine lv_iconst (v := 0) hx hb dX12_book_116 (by decide) ?_
            have r67 : Int32.toInt 0 = 0 := by decide
            refine gA_int (gA_runV (As := [.int 0]) (rest := []) (ci := 12) (q0 := 0) hx hb hml hown hg hP hD hK hS hA hnw hgk (s_isWordA l D ks H.size ad kk V25 L26 0 (bq) (gn) (gT) (s1) ((s1.2.1 2)) hMV25 (by decide) rq) w2027 w2029 w83 w172 w2030 rfl rfl hdV_yX12_isWord ⟨Nat.le_of_ble_eq_true rfl, Nat.le_of_ble_eq_true rfl⟩ rfl hl.1 rfl (Nat.le_of_ble_eq_true rfl) dX12_book_117 ⟨Nat.le_of_ble_eq_true rfl, Nat.le_of_ble_eq_true rfl⟩) hP hD hK hS hA (fun z68 u69 H locs w70 hP hD hK hS => ?_)
            obtain ⟨rgz68, t71⟩ := w70
            have rgz68 : 0 ≤ z68.toInt ∧ z68.toInt ≤ 1 := rgz68
            have t71 : (z68.toInt = 1 ∧ (gT).1 ((s1).1 0) = 128 + (Int32.toInt 0)) ∨ (z68.toInt = 0 ∧ (gT).1 ((s1).1 0) ≠ 128 + (Int32.toInt 0)) := t71
            rcases t71 with ⟨q72, h73⟩ | ⟨q72, h73⟩
            · skip
              have kd74 : gT.1 (s1.1 0) = 128 := h73.trans (by decide)
              refine lv_if_eq (tgt := 130) hx hb dX12_book_120 (by decide) (fun c75 => ?_) (fun c75 => ?_)
              · skip
                have f76 : z68.toInt = 0 := b_eq rfl (by decide) c75
                exfalso; first | omega | ((try (have i_xlp28_3 := Imp.go xlp28_3 (by omega))); (try (have i_xlp28_2 := Imp.go xlp28_2 (by omega))); (try (have i_xlp28_2 := Imp.go xlp28_2 (by omega))); (try (have i_xlp28_3 := Imp.go xlp28_3 (by omega))); omega)
              · skip
                have f77 : z68.toInt ≠ 0 := b_neq rfl (by decide) c75
                refine lv_aload_n hx hb dX12_book_123 rfl (lv_at hl 0 rfl) ?_
                refine gA_void (gA_runV (As := []) (rest := []) (ci := 12) (q0 := 0) hx hb hml hown hg hP hD hK hS hA hnw hgk (s_toldTypeA l D ks H.size ad kk V25 L26 (bq) (gn) (gT) (s1) hMV25 rq kd74 (show (V25 0 48).toInt ≤ 2 * (V25 0 7).toInt from by first | omega | ((try (have i_xlp28_3 := Imp.go xlp28_3 (by omega))); (try (have i_xlp28_2 := Imp.go xlp28_2 (by omega))); (try (have i_xlp28_2 := Imp.go xlp28_2 (by omega))); (try (have i_xlp28_3 := Imp.go xlp28_3 (by omega))); omega)) aq nq) w2031 w2033 w84 w172 w2034 rfl rfl hdV_yX12_toldType ⟨Nat.le_of_ble_eq_true rfl, Nat.le_of_ble_eq_true rfl⟩ rfl hl.1 rfl (Nat.le_of_ble_eq_true rfl) dX12_book_124 ⟨Nat.le_of_ble_eq_true rfl, Nat.le_of_ble_eq_true rfl⟩) hP hD hK hS hA (fun u79 H locs w80 hP hD hK hS => ?_)
                obtain ⟨V87, L88⟩ := u79
                obtain ⟨hMV87, ajV87, axL88, t81, t82, t83, t84, t85, t86⟩ := w80
                have alL88 : agL [4, 5, 6, 13, 14, 15, 16, 17, 18, 19, 20, 21, 22, 23, 24, 25, 26, 27, 28, 29, 30, 31, 32, 33, 34, 35, 36, 37, 38, 39, 40, 41, 42, 43, 44, 45, 46, 47, 53, 56, 57, 59] L L88 := agL.tr alL26 axL88 (by decide)
                have hP : va_P D vwCl (mw ad kk ks.1 V87 L88) H := hP
                have hD : va_D A (mw ad kk ks.1 V87 L88) := hD
                have hMV87 : rgd bM V87 := hMV87
                have ajV87 : agr [(0, 7), (0, 8)] [13, 14, 15, 21, 53] V25 V87 := ajV87
                have agV87 : agr [(0, 0), (0, 2), (0, 3), (0, 7), (0, 8), (0, 11), (0, 12), (0, 48), (0, 49), (0, 50), (0, 51), (0, 52), (0, 54), (0, 55), (0, 60), (0, 65), (0, 69), (0, 70), (0, 71), (0, 72), (0, 73), (0, 76), (0, 81)] [4, 5, 6, 13, 14, 15, 16, 17, 18, 19, 20, 21, 22, 23, 24, 25, 26, 27, 28, 29, 30, 31, 32, 33, 34, 35, 36, 37, 38, 39, 40, 41, 42, 43, 44, 45, 46, 47, 53, 56, 57, 59] V V87 := agV25.tr ajV87 (by decide) (by decide)
                have t81 : Imp ((V87 0 8).toInt = 0) ((V87 0 48).toInt ≤ 2 * (V87 0 7).toInt) := t81
                have t82 : (V87 0 48).toInt ≤ 8200 := t82
                have t83 : (V87 0 12).toInt = (V25 0 12).toInt := t83
                have t84 : RdM (gT) (s1) (fun k => Istmt :: k) (fun k => Istmt :: k) (V87 0 8).toInt (fun s9 => RelM V87 L88 (bq) (gn) (gT) s9 (s9.2.1 2) ∧ (s1).1 0 + 1 ≤ s9.1 0 ∧ ARm s9 ∧ CNm V87 (bq) s9) := t84
                have t85 : RoV 13 (bq) V25 V87 := t85
                have t86 : RoL 14 24 (bq) L26 L88 := t86
                have pq89 : (V87 0 48).toInt = ((V25 0 48)).toInt := congrArg Int32.toInt (ajV87 0 48 rfl)
                have r90 : 0 ≤ ((V87 0 8)).toInt ∧ ((V87 0 8)).toInt ≤ 70000 := hMV87 0 8
                have pq91 : (V25 0 12).toInt = z14.toInt := congrArg Int32.toInt ((ajV25 0 12 rfl).trans ((up2_k hV24 (by decide)).trans ((up2_k hV22 (by decide)).trans ((up2_o hV21 (by decide)).trans ((up2_o hV20 (by decide)).trans ((up2_o hV19 (by decide)).trans ((up2_o hV18 (by decide)).trans ((up2_o hV17 (by decide)).trans ((up2_o hV16 (by decide)).trans (up2_s hV15))))))))))
                have pq92 : (V87 0 12).toInt = z14.toInt := congrArg Int32.toInt ((ajV87 0 12 rfl).trans ((ajV25 0 12 rfl).trans ((up2_k hV24 (by decide)).trans ((up2_k hV22 (by decide)).trans ((up2_o hV21 (by decide)).trans ((up2_o hV20 (by decide)).trans ((up2_o hV19 (by decide)).trans ((up2_o hV18 (by decide)).trans ((up2_o hV17 (by decide)).trans ((up2_o hV16 (by decide)).trans (up2_s hV15)))))))))))
                rcases t84 with ⟨q93, sx94, h95, rl96, kp97⟩ | ⟨q93, h95⟩
                · skip
                  have hr98 : ∀ k, Rc gT (Crun gs (Istmt :: k)) (Crun sx94 (Istmt :: k)) := fun k => (hq k).tr (h95 (k))
                  have fz99 := RelM.rg rl96
                  have ps100 := (kp97).1
                  refine lv_goto (tgt := 96) hx hb dX12_book_127 (by decide) ?_
                  have rw101 : RoV 13 bq V V87 := (fun k hk => ((t85 k hk).trans (xlp28_5 k hk)))
                  have rw102 : RoV 16 bq V V87 := (fun k hk => ((ajV87 16 k rfl).trans (xlp28_6 k hk)))
                  have rw103 : RoV 19 bq V V87 := (fun k hk => ((ajV87 19 k rfl).trans (xlp28_7 k hk)))
                  have rw104 : RoV 35 bq V V87 := (fun k hk => ((ajV87 35 k rfl).trans (xlp28_8 k hk)))
                  have rw105 : RoV 37 bq V V87 := (fun k hk => ((ajV87 37 k rfl).trans (xlp28_9 k hk)))
                  have rw106 : RoL 14 24 bq L L88 := (fun k hk => ((t86 k hk).trans (xlp28_10 k hk)))
                  have rw107 : RoL 17 12 bq L L88 := (fun k hk => ((axL88 17 k rfl).trans (xlp28_11 k hk)))
                  have rw108 : RoL 20 24 bq L L88 := (fun k hk => ((axL88 20 k rfl).trans (xlp28_12 k hk)))
                  have rw109 : RoL 36 20 bq L L88 := (fun k hk => ((axL88 36 k rfl).trans (xlp28_13 k hk)))
                  have rw110 : RoL 38 20 bq L L88 := (fun k hk => ((axL88 38 k rfl).trans (xlp28_14 k hk)))
                  exact ihlp28 (g27 - 1) V87 L88 H locs ls (show 0 ≤ (g27 - 1) from by first | omega | ((try (have i_t81 := Imp.go t81 (by omega))); (try (have i_xlp28_3 := Imp.go xlp28_3 (by omega))); (try (have i_xlp28_2 := Imp.go xlp28_2 (by omega))); (try (have i_xlp28_2 := Imp.go xlp28_2 (by omega))); (try (have i_xlp28_3 := Imp.go xlp28_3 (by omega))); (try (have i_t81 := Imp.go t81 (by omega))); omega)) (Or.inl ⟨W0 rl96, sx94, hr98, rl96, (kp97).2.1, (kp97).2.2⟩) (Imp.mk (fun hp => have hp : (V87 0 8).toInt = 0 := hp; (show (gn : Int) - (V87 0 7).toInt < (g27 - 1) from by first | omega | ((try (have i_t81 := Imp.go t81 (by omega))); (try (have i_xlp28_3 := Imp.go xlp28_3 (by omega))); (try (have i_xlp28_2 := Imp.go xlp28_2 (by omega))); (try (have i_xlp28_2 := Imp.go xlp28_2 (by omega))); (try (have i_xlp28_3 := Imp.go xlp28_3 (by omega))); (try (have i_t81 := Imp.go t81 (by omega))); omega)))) (Imp.mk (fun hp => have hp : (V87 0 8).toInt = 0 := hp; (show (V87 0 48).toInt ≤ 2 * (V87 0 7).toInt from by first | omega | ((try (have i_t81 := Imp.go t81 (by omega))); (try (have i_xlp28_3 := Imp.go xlp28_3 (by omega))); (try (have i_xlp28_2 := Imp.go xlp28_2 (by omega))); (try (have i_xlp28_2 := Imp.go xlp28_2 (by omega))); (try (have i_xlp28_3 := Imp.go xlp28_3 (by omega))); (try (have i_t81 := Imp.go t81 (by omega))); omega)))) (show (V87 0 48).toInt ≤ 8200 from by first | omega | ((try (have i_t81 := Imp.go t81 (by omega))); (try (have i_xlp28_3 := Imp.go xlp28_3 (by omega))); (try (have i_xlp28_2 := Imp.go xlp28_2 (by omega))); (try (have i_xlp28_2 := Imp.go xlp28_2 (by omega))); (try (have i_xlp28_3 := Imp.go xlp28_3 (by omega))); (try (have i_t81 := Imp.go t81 (by omega))); omega)) rw101 rw102 rw103 rw104 rw105 rw106 rw107 rw108 rw109 rw110 (by first | omega | ((try (have i_t81 := Imp.go t81 (by omega))); (try (have i_xlp28_3 := Imp.go xlp28_3 (by omega))); (try (have i_xlp28_2 := Imp.go xlp28_2 (by omega))); (try (have i_xlp28_2 := Imp.go xlp28_2 (by omega))); (try (have i_xlp28_3 := Imp.go xlp28_3 (by omega))); (try (have i_t81 := Imp.go t81 (by omega))); omega)) alL88 (agr.tr (agr.tr agr.rf ajV25 (by decide) (by decide)) ajV87 (by decide) (by decide)) hMV87 hP hD hS (lv_sub hl [0] rfl)
                · skip
                  have hb111 : ∀ k, Rc gT (Crun gs (Istmt :: k)) (Cbad (V87 0 8).toInt) := fun k => (hq k).tr (h95 (k))
                  refine lv_goto (tgt := 96) hx hb dX12_book_127 (by decide) ?_
                  have rw112 : RoV 13 bq V V87 := (fun k hk => ((t85 k hk).trans (xlp28_5 k hk)))
                  have rw113 : RoV 16 bq V V87 := (fun k hk => ((ajV87 16 k rfl).trans (xlp28_6 k hk)))
                  have rw114 : RoV 19 bq V V87 := (fun k hk => ((ajV87 19 k rfl).trans (xlp28_7 k hk)))
                  have rw115 : RoV 35 bq V V87 := (fun k hk => ((ajV87 35 k rfl).trans (xlp28_8 k hk)))
                  have rw116 : RoV 37 bq V V87 := (fun k hk => ((ajV87 37 k rfl).trans (xlp28_9 k hk)))
                  have rw117 : RoL 14 24 bq L L88 := (fun k hk => ((t86 k hk).trans (xlp28_10 k hk)))
                  have rw118 : RoL 17 12 bq L L88 := (fun k hk => ((axL88 17 k rfl).trans (xlp28_11 k hk)))
                  have rw119 : RoL 20 24 bq L L88 := (fun k hk => ((axL88 20 k rfl).trans (xlp28_12 k hk)))
                  have rw120 : RoL 36 20 bq L L88 := (fun k hk => ((axL88 36 k rfl).trans (xlp28_13 k hk)))
                  have rw121 : RoL 38 20 bq L L88 := (fun k hk => ((axL88 38 k rfl).trans (xlp28_14 k hk)))
                  exact ihlp28 (g27 - 1) V87 L88 H locs ls (show 0 ≤ (g27 - 1) from by first | omega | ((try (have i_t81 := Imp.go t81 (by omega))); (try (have i_xlp28_3 := Imp.go xlp28_3 (by omega))); (try (have i_xlp28_2 := Imp.go xlp28_2 (by omega))); (try (have i_xlp28_2 := Imp.go xlp28_2 (by omega))); (try (have i_xlp28_3 := Imp.go xlp28_3 (by omega))); (try (have i_t81 := Imp.go t81 (by omega))); omega)) (Or.inr ⟨(show 1 ≤ (V87 0 8).toInt from by omega), hb111⟩) (Imp.mk (fun hp => have hp : (V87 0 8).toInt = 0 := hp; (show (gn : Int) - (V87 0 7).toInt < (g27 - 1) from by first | omega | ((try (have i_t81 := Imp.go t81 (by omega))); (try (have i_xlp28_3 := Imp.go xlp28_3 (by omega))); (try (have i_xlp28_2 := Imp.go xlp28_2 (by omega))); (try (have i_xlp28_2 := Imp.go xlp28_2 (by omega))); (try (have i_xlp28_3 := Imp.go xlp28_3 (by omega))); (try (have i_t81 := Imp.go t81 (by omega))); omega)))) (Imp.mk (fun hp => have hp : (V87 0 8).toInt = 0 := hp; (show (V87 0 48).toInt ≤ 2 * (V87 0 7).toInt from by first | omega | ((try (have i_t81 := Imp.go t81 (by omega))); (try (have i_xlp28_3 := Imp.go xlp28_3 (by omega))); (try (have i_xlp28_2 := Imp.go xlp28_2 (by omega))); (try (have i_xlp28_2 := Imp.go xlp28_2 (by omega))); (try (have i_xlp28_3 := Imp.go xlp28_3 (by omega))); (try (have i_t81 := Imp.go t81 (by omega))); omega)))) (show (V87 0 48).toInt ≤ 8200 from by first | omega | ((try (have i_t81 := Imp.go t81 (by omega))); (try (have i_xlp28_3 := Imp.go xlp28_3 (by omega))); (try (have i_xlp28_2 := Imp.go xlp28_2 (by omega))); (try (have i_xlp28_2 := Imp.go xlp28_2 (by omega))); (try (have i_xlp28_3 := Imp.go xlp28_3 (by omega))); (try (have i_t81 := Imp.go t81 (by omega))); omega)) rw112 rw113 rw114 rw115 rw116 rw117 rw118 rw119 rw120 rw121 (by first | omega | ((try (have i_t81 := Imp.go t81 (by omega))); (try (have i_xlp28_3 := Imp.go xlp28_3 (by omega))); (try (have i_xlp28_2 := Imp.go xlp28_2 (by omega))); (try (have i_xlp28_2 := Imp.go xlp28_2 (by omega))); (try (have i_xlp28_3 := Imp.go xlp28_3 (by omega))); (try (have i_t81 := Imp.go t81 (by omega))); omega)) alL88 (agr.tr (agr.tr agr.rf ajV25 (by decide) (by decide)) ajV87 (by decide) (by decide)) hMV87 hP hD hS (lv_sub hl [0] rfl)
            · skip
              have kd122 : gT.1 (s1.1 0) ≠ 128 := fun h9 => h73 (h9.trans (by decide))
              refine lv_if_eq (tgt := 130) hx hb dX12_book_120 (by decide) (fun c123 => ?_) (fun c123 => ?_)
              · skip
                have f124 : z68.toInt = 0 := b_eq rfl (by decide) c123
                refine lv_aload_n hx hb dX12_book_130 rfl (lv_at hl 0 rfl) ?_
                refine lv_iconst (v := 2) hx hb dX12_book_131 (by decide) ?_
                have r125 : Int32.toInt 2 = 2 := by decide
                refine gA_int (gA_runV (As := [.int 2]) (rest := []) (ci := 12) (q0 := 0) hx hb hml hown hg hP hD hK hS hA hnw hgk (s_isWordA l D ks H.size ad kk V25 L26 2 (bq) (gn) (gT) (s1) ((s1.2.1 2)) hMV25 (by decide) rq) w2027 w2029 w83 w172 w2030 rfl rfl hdV_yX12_isWord ⟨Nat.le_of_ble_eq_true rfl, Nat.le_of_ble_eq_true rfl⟩ rfl hl.1 rfl (Nat.le_of_ble_eq_true rfl) dX12_book_132 ⟨Nat.le_of_ble_eq_true rfl, Nat.le_of_ble_eq_true rfl⟩) hP hD hK hS hA (fun z126 u127 H locs w128 hP hD hK hS => ?_)
                obtain ⟨rgz126, t129⟩ := w128
                have rgz126 : 0 ≤ z126.toInt ∧ z126.toInt ≤ 1 := rgz126
                have t129 : (z126.toInt = 1 ∧ (gT).1 ((s1).1 0) = 128 + (Int32.toInt 2)) ∨ (z126.toInt = 0 ∧ (gT).1 ((s1).1 0) ≠ 128 + (Int32.toInt 2)) := t129
                rcases t129 with ⟨q130, h131⟩ | ⟨q130, h131⟩
                · skip
                  have kd132 : gT.1 (s1.1 0) = 130 := h131.trans (by decide)
                  refine lv_if_eq (tgt := 145) hx hb dX12_book_135 (by decide) (fun c133 => ?_) (fun c133 => ?_)
                  · skip
                    have f134 : z126.toInt = 0 := b_eq rfl (by decide) c133
                    exfalso; first | omega | ((try (have i_xlp28_3 := Imp.go xlp28_3 (by omega))); (try (have i_xlp28_2 := Imp.go xlp28_2 (by omega))); (try (have i_xlp28_2 := Imp.go xlp28_2 (by omega))); (try (have i_xlp28_3 := Imp.go xlp28_3 (by omega))); omega)
                  · skip
                    have f135 : z126.toInt ≠ 0 := b_neq rfl (by decide) c133
                    refine lv_aload_n hx hb dX12_book_138 rfl (lv_at hl 0 rfl) ?_
                    refine gA_void (gA_runV (As := []) (rest := []) (ci := 12) (q0 := 0) hx hb hml hown hg hP hD hK hS hA hnw hgk (s_toldSettingA l D ks H.size ad kk V25 L26 (bq) (gn) (gT) (s1) hMV25 rq kd132 (show (V25 0 48).toInt ≤ 2 * (V25 0 7).toInt from by first | omega | ((try (have i_xlp28_3 := Imp.go xlp28_3 (by omega))); (try (have i_xlp28_2 := Imp.go xlp28_2 (by omega))); (try (have i_xlp28_2 := Imp.go xlp28_2 (by omega))); (try (have i_xlp28_3 := Imp.go xlp28_3 (by omega))); omega)) aq nq) w2083 w2085 w97 w172 w2086 rfl rfl hdV_yX12_toldSetting ⟨Nat.le_of_ble_eq_true rfl, Nat.le_of_ble_eq_true rfl⟩ rfl hl.1 rfl (Nat.le_of_ble_eq_true rfl) dX12_book_139 ⟨Nat.le_of_ble_eq_true rfl, Nat.le_of_ble_eq_true rfl⟩) hP hD hK hS hA (fun u137 H locs w138 hP hD hK hS => ?_)
                    obtain ⟨V145, L146⟩ := u137
                    obtain ⟨hMV145, ajV145, axL146, t139, t140, t141, t142, t143, t144⟩ := w138
                    have alL146 : agL [4, 5, 6, 13, 14, 15, 16, 17, 18, 19, 20, 21, 22, 23, 24, 25, 26, 27, 28, 29, 30, 31, 32, 33, 34, 35, 36, 37, 38, 39, 40, 41, 42, 43, 44, 45, 46, 47, 53, 56, 57, 59] L L146 := agL.tr alL26 axL146 (by decide)
                    have hP : va_P D vwCl (mw ad kk ks.1 V145 L146) H := hP
                    have hD : va_D A (mw ad kk ks.1 V145 L146) := hD
                    have hMV145 : rgd bM V145 := hMV145
                    have ajV145 : agr [(0, 7), (0, 8)] [16, 17, 18] V25 V145 := ajV145
                    have agV145 : agr [(0, 0), (0, 2), (0, 3), (0, 7), (0, 8), (0, 11), (0, 12), (0, 48), (0, 49), (0, 50), (0, 51), (0, 52), (0, 54), (0, 55), (0, 60), (0, 65), (0, 69), (0, 70), (0, 71), (0, 72), (0, 73), (0, 76), (0, 81)] [4, 5, 6, 13, 14, 15, 16, 17, 18, 19, 20, 21, 22, 23, 24, 25, 26, 27, 28, 29, 30, 31, 32, 33, 34, 35, 36, 37, 38, 39, 40, 41, 42, 43, 44, 45, 46, 47, 53, 56, 57, 59] V V145 := agV25.tr ajV145 (by decide) (by decide)
                    have t139 : Imp ((V145 0 8).toInt = 0) ((V145 0 48).toInt ≤ 2 * (V145 0 7).toInt) := t139
                    have t140 : (V145 0 48).toInt ≤ 8200 := t140
                    have t141 : (V145 0 12).toInt = (V25 0 12).toInt := t141
                    have t142 : RdM (gT) (s1) (fun k => Istmt :: k) (fun k => Istmt :: k) (V145 0 8).toInt (fun s9 => RelM V145 L146 (bq) (gn) (gT) s9 (s9.2.1 2) ∧ (s1).1 0 + 1 ≤ s9.1 0 ∧ ARm s9 ∧ CNm V145 (bq) s9) := t142
                    have t143 : RoV 16 (bq) V25 V145 := t143
                    have t144 : RoL 17 12 (bq) L26 L146 := t144
                    have pq147 : (V145 0 48).toInt = ((V25 0 48)).toInt := congrArg Int32.toInt (ajV145 0 48 rfl)
                    have r148 : 0 ≤ ((V145 0 8)).toInt ∧ ((V145 0 8)).toInt ≤ 70000 := hMV145 0 8
                    have pq149 : (V25 0 12).toInt = z14.toInt := congrArg Int32.toInt ((ajV25 0 12 rfl).trans ((up2_k hV24 (by decide)).trans ((up2_k hV22 (by decide)).trans ((up2_o hV21 (by decide)).trans ((up2_o hV20 (by decide)).trans ((up2_o hV19 (by decide)).trans ((up2_o hV18 (by decide)).trans ((up2_o hV17 (by decide)).trans ((up2_o hV16 (by decide)).trans (up2_s hV15))))))))))
                    have pq150 : (V145 0 12).toInt = z14.toInt := congrArg Int32.toInt ((ajV145 0 12 rfl).trans ((ajV25 0 12 rfl).trans ((up2_k hV24 (by decide)).trans ((up2_k hV22 (by decide)).trans ((up2_o hV21 (by decide)).trans ((up2_o hV20 (by decide)).trans ((up2_o hV19 (by decide)).trans ((up2_o hV18 (by decide)).trans ((up2_o hV17 (by decide)).trans ((up2_o hV16 (by decide)).trans (up2_s hV15)))))))))))
                    rcases t142 with ⟨q151, sx152, h153, rl154, kp155⟩ | ⟨q151, h153⟩
                    · skip
                      have hr156 : ∀ k, Rc gT (Crun gs (Istmt :: k)) (Crun sx152 (Istmt :: k)) := fun k => (hq k).tr (h153 (k))
                      have fz157 := RelM.rg rl154
                      have ps158 := (kp155).1
                      refine lv_goto (tgt := 96) hx hb dX12_book_142 (by decide) ?_
                      have rw159 : RoV 13 bq V V145 := (fun k hk => ((ajV145 13 k rfl).trans (xlp28_5 k hk)))
                      have rw160 : RoV 16 bq V V145 := (fun k hk => ((t143 k hk).trans (xlp28_6 k hk)))
                      have rw161 : RoV 19 bq V V145 := (fun k hk => ((ajV145 19 k rfl).trans (xlp28_7 k hk)))
                      have rw162 : RoV 35 bq V V145 := (fun k hk => ((ajV145 35 k rfl).trans (xlp28_8 k hk)))
                      have rw163 : RoV 37 bq V V145 := (fun k hk => ((ajV145 37 k rfl).trans (xlp28_9 k hk)))
                      have rw164 : RoL 14 24 bq L L146 := (fun k hk => ((axL146 14 k rfl).trans (xlp28_10 k hk)))
                      have rw165 : RoL 17 12 bq L L146 := (fun k hk => ((t144 k hk).trans (xlp28_11 k hk)))
                      have rw166 : RoL 20 24 bq L L146 := (fun k hk => ((axL146 20 k rfl).trans (xlp28_12 k hk)))
                      have rw167 : RoL 36 20 bq L L146 := (fun k hk => ((axL146 36 k rfl).trans (xlp28_13 k hk)))
                      have rw168 : RoL 38 20 bq L L146 := (fun k hk => ((axL146 38 k rfl).trans (xlp28_14 k hk)))
                      exact ihlp28 (g27 - 1) V145 L146 H locs ls (show 0 ≤ (g27 - 1) from by first | omega | ((try (have i_t139 := Imp.go t139 (by omega))); (try (have i_xlp28_3 := Imp.go xlp28_3 (by omega))); (try (have i_xlp28_2 := Imp.go xlp28_2 (by omega))); (try (have i_xlp28_2 := Imp.go xlp28_2 (by omega))); (try (have i_xlp28_3 := Imp.go xlp28_3 (by omega))); (try (have i_t139 := Imp.go t139 (by omega))); omega)) (Or.inl ⟨W0 rl154, sx152, hr156, rl154, (kp155).2.1, (kp155).2.2⟩) (Imp.mk (fun hp => have hp : (V145 0 8).toInt = 0 := hp; (show (gn : Int) - (V145 0 7).toInt < (g27 - 1) from by first | omega | ((try (have i_t139 := Imp.go t139 (by omega))); (try (have i_xlp28_3 := Imp.go xlp28_3 (by omega))); (try (have i_xlp28_2 := Imp.go xlp28_2 (by omega))); (try (have i_xlp28_2 := Imp.go xlp28_2 (by omega))); (try (have i_xlp28_3 := Imp.go xlp28_3 (by omega))); (try (have i_t139 := Imp.go t139 (by omega))); omega)))) (Imp.mk (fun hp => have hp : (V145 0 8).toInt = 0 := hp; (show (V145 0 48).toInt ≤ 2 * (V145 0 7).toInt from by first | omega | ((try (have i_t139 := Imp.go t139 (by omega))); (try (have i_xlp28_3 := Imp.go xlp28_3 (by omega))); (try (have i_xlp28_2 := Imp.go xlp28_2 (by omega))); (try (have i_xlp28_2 := Imp.go xlp28_2 (by omega))); (try (have i_xlp28_3 := Imp.go xlp28_3 (by omega))); (try (have i_t139 := Imp.go t139 (by omega))); omega)))) (show (V145 0 48).toInt ≤ 8200 from by first | omega | ((try (have i_t139 := Imp.go t139 (by omega))); (try (have i_xlp28_3 := Imp.go xlp28_3 (by omega))); (try (have i_xlp28_2 := Imp.go xlp28_2 (by omega))); (try (have i_xlp28_2 := Imp.go xlp28_2 (by omega))); (try (have i_xlp28_3 := Imp.go xlp28_3 (by omega))); (try (have i_t139 := Imp.go t139 (by omega))); omega)) rw159 rw160 rw161 rw162 rw163 rw164 rw165 rw166 rw167 rw168 (by first | omega | ((try (have i_t139 := Imp.go t139 (by omega))); (try (have i_xlp28_3 := Imp.go xlp28_3 (by omega))); (try (have i_xlp28_2 := Imp.go xlp28_2 (by omega))); (try (have i_xlp28_2 := Imp.go xlp28_2 (by omega))); (try (have i_xlp28_3 := Imp.go xlp28_3 (by omega))); (try (have i_t139 := Imp.go t139 (by omega))); omega)) alL146 (agr.tr (agr.tr agr.rf ajV25 (by decide) (by decide)) ajV145 (by decide) (by decide)) hMV145 hP hD hS (lv_sub hl [0] rfl)
                    · skip
                      have hb169 : ∀ k, Rc gT (Crun gs (Istmt :: k)) (Cbad (V145 0 8).toInt) := fun k => (hq k).tr (h153 (k))
                      refine lv_goto (tgt := 96) hx hb dX12_book_142 (by decide) ?_
                      have rw170 : RoV 13 bq V V145 := (fun k hk => ((ajV145 13 k rfl).trans (xlp28_5 k hk)))
                      have rw171 : RoV 16 bq V V145 := (fun k hk => ((t143 k hk).trans (xlp28_6 k hk)))
                      have rw172 : RoV 19 bq V V145 := (fun k hk => ((ajV145 19 k rfl).trans (xlp28_7 k hk)))
                      have rw173 : RoV 35 bq V V145 := (fun k hk => ((ajV145 35 k rfl).trans (xlp28_8 k hk)))
                      have rw174 : RoV 37 bq V V145 := (fun k hk => ((ajV145 37 k rfl).trans (xlp28_9 k hk)))
                      have rw175 : RoL 14 24 bq L L146 := (fun k hk => ((axL146 14 k rfl).trans (xlp28_10 k hk)))
                      have rw176 : RoL 17 12 bq L L146 := (fun k hk => ((t144 k hk).trans (xlp28_11 k hk)))
                      have rw177 : RoL 20 24 bq L L146 := (fun k hk => ((axL146 20 k rfl).trans (xlp28_12 k hk)))
                      have rw178 : RoL 36 20 bq L L146 := (fun k hk => ((axL146 36 k rfl).trans (xlp28_13 k hk)))
                      have rw179 : RoL 38 20 bq L L146 := (fun k hk => ((axL146 38 k rfl).trans (xlp28_14 k hk)))
                      exact ihlp28 (g27 - 1) V145 L146 H locs ls (show 0 ≤ (g27 - 1) from by first | omega | ((try (have i_t139 := Imp.go t139 (by omega))); (try (have i_xlp28_3 := Imp.go xlp28_3 (by omega))); (try (have i_xlp28_2 := Imp.go xlp28_2 (by omega))); (try (have i_xlp28_2 := Imp.go xlp28_2 (by omega))); (try (have i_xlp28_3 := Imp.go xlp28_3 (by omega))); (try (have i_t139 := Imp.go t139 (by omega))); omega)) (Or.inr ⟨(show 1 ≤ (V145 0 8).toInt from by omega), hb169⟩) (Imp.mk (fun hp => have hp : (V145 0 8).toInt = 0 := hp; (show (gn : Int) - (V145 0 7).toInt < (g27 - 1) from by first | omega | ((try (have i_t139 := Imp.go t139 (by omega))); (try (have i_xlp28_3 := Imp.go xlp28_3 (by omega))); (try (have i_xlp28_2 := Imp.go xlp28_2 (by omega))); (try (have i_xlp28_2 := Imp.go xlp28_2 (by omega))); (try (have i_xlp28_3 := Imp.go xlp28_3 (by omega))); (try (have i_t139 := Imp.go t139 (by omega))); omega)))) (Imp.mk (fun hp => have hp : (V145 0 8).toInt = 0 := hp; (show (V145 0 48).toInt ≤ 2 * (V145 0 7).toInt from by first | omega | ((try (have i_t139 := Imp.go t139 (by omega))); (try (have i_xlp28_3 := Imp.go xlp28_3 (by omega))); (try (have i_xlp28_2 := Imp.go xlp28_2 (by omega))); (try (have i_xlp28_2 := Imp.go xlp28_2 (by omega))); (try (have i_xlp28_3 := Imp.go xlp28_3 (by omega))); (try (have i_t139 := Imp.go t139 (by omega))); omega)))) (show (V145 0 48).toInt ≤ 8200 from by first | omega | ((try (have i_t139 := Imp.go t139 (by omega))); (try (have i_xlp28_3 := Imp.go xlp28_3 (by omega))); (try (have i_xlp28_2 := Imp.go xlp28_2 (by omega))); (try (have i_xlp28_2 := Imp.go xlp28_2 (by omega))); (try (have i_xlp28_3 := Imp.go xlp28_3 (by omega))); (try (have i_t139 := Imp.go t139 (by omega))); omega)) rw170 rw171 rw172 rw173 rw174 rw175 rw176 rw177 rw178 rw179 (by first | omega | ((try (have i_t139 := Imp.go t139 (by omega))); (try (have i_xlp28_3 := Imp.go xlp28_3 (by omega))); (try (have i_xlp28_2 := Imp.go xlp28_2 (by omega))); (try (have i_xlp28_2 := Imp.go xlp28_2 (by omega))); (try (have i_xlp28_3 := Imp.go xlp28_3 (by omega))); (try (have i_t139 := Imp.go t139 (by omega))); omega)) alL146 (agr.tr (agr.tr agr.rf ajV25 (by decide) (by decide)) ajV145 (by decide) (by decide)) hMV145 hP hD hS (lv_sub hl [0] rfl)
                · skip
                  have kd180 : gT.1 (s1.1 0) ≠ 130 := fun h9 => h131 (h9.trans (by decide))
                  refine lv_if_eq (tgt := 145) hx hb dX12_book_135 (by decide) (fun c181 => ?_) (fun c181 => ?_)
                  · skip
                    have f182 : z126.toInt = 0 := b_eq rfl (by decide) c181
                    refine lv_aload_n hx hb dX12_book_145 rfl (lv_at hl 0 rfl) ?_
                    refine lv_iconst (v := 3) hx hb dX12_book_146 (by decide) ?_
                    have r183 : Int32.toInt 3 = 3 := by decide
                    refine gA_int (gA_runV (As := [.int 3]) (rest := []) (ci := 12) (q0 := 0) hx hb hml hown hg hP hD hK hS hA hnw hgk (s_isWordA l D ks H.size ad kk V25 L26 3 (bq) (gn) (gT) (s1) ((s1.2.1 2)) hMV25 (by decide) rq) w2027 w2029 w83 w172 w2030 rfl rfl hdV_yX12_isWord ⟨Nat.le_of_ble_eq_true rfl, Nat.le_of_ble_eq_true rfl⟩ rfl hl.1 rfl (Nat.le_of_ble_eq_true rfl) dX12_book_147 ⟨Nat.le_of_ble_eq_true rfl, Nat.le_of_ble_eq_true rfl⟩) hP hD hK hS hA (fun z184 u185 H locs w186 hP hD hK hS => ?_)
                    obtain ⟨rgz184, t187⟩ := w186
                    have rgz184 : 0 ≤ z184.toInt ∧ z184.toInt ≤ 1 := rgz184
                    have t187 : (z184.toInt = 1 ∧ (gT).1 ((s1).1 0) = 128 + (Int32.toInt 3)) ∨ (z184.toInt = 0 ∧ (gT).1 ((s1).1 0) ≠ 128 + (Int32.toInt 3)) := t187
                    rcases t187 with ⟨q188, h189⟩ | ⟨q188, h189⟩
                    · skip
                      have kd190 : gT.1 (s1.1 0) = 131 := h189.trans (by decide)
                      refine lv_if_eq (tgt := 160) hx hb dX12_book_150 (by decide) (fun c191 => ?_) (fun c191 => ?_)
                      · skip
                        have f192 : z184.toInt = 0 := b_eq rfl (by decide) c191
                        exfalso; first | omega | ((try (have i_xlp28_3 := Imp.go xlp28_3 (by omega))); (try (have i_xlp28_2 := Imp.go xlp28_2 (by omega))); (try (have i_xlp28_2 := Imp.go xlp28_2 (by omega))); (try (have i_xlp28_3 := Imp.go xlp28_3 (by omega))); omega)
                      · skip
                        have f193 : z184.toInt ≠ 0 := b_neq rfl (by decide) c191
                        refine lv_aload_n hx hb dX12_book_153 rfl (lv_at hl 0 rfl) ?_
                        refine gA_void (gA_runV (As := []) (rest := []) (ci := 12) (q0 := 0) hx hb hml hown hg hP hD hK hS hA hnw hgk (s_toldComponentA l D ks H.size ad kk V25 L26 (bq) (gn) (gT) (s1) hMV25 rq kd190 (show (V25 0 48).toInt ≤ 2 * (V25 0 7).toInt from by first | omega | ((try (have i_xlp28_3 := Imp.go xlp28_3 (by omega))); (try (have i_xlp28_2 := Imp.go xlp28_2 (by omega))); (try (have i_xlp28_2 := Imp.go xlp28_2 (by omega))); (try (have i_xlp28_3 := Imp.go xlp28_3 (by omega))); omega)) aq nq) w2092 w2094 w99 w172 w2095 rfl rfl hdV_yX12_toldComponent ⟨Nat.le_of_ble_eq_true rfl, Nat.le_of_ble_eq_true rfl⟩ rfl hl.1 rfl (Nat.le_of_ble_eq_true rfl) dX12_book_154 ⟨Nat.le_of_ble_eq_true rfl, Nat.le_of_ble_eq_true rfl⟩) hP hD hK hS hA (fun u195 H locs w196 hP hD hK hS => ?_)
                        obtain ⟨V207, L208⟩ := u195
                        obtain ⟨hMV207, ajV207, axL208, t197, t198, t199, t200, t201, t202, t203, t204, t205, t206⟩ := w196
                        have alL208 : agL [4, 5, 6, 13, 14, 15, 16, 17, 18, 19, 20, 21, 22, 23, 24, 25, 26, 27, 28, 29, 30, 31, 32, 33, 34, 35, 36, 37, 38, 39, 40, 41, 42, 43, 44, 45, 46, 47, 53, 56, 57, 59] L L208 := agL.tr alL26 axL208 (by decide)
                        have hP : va_P D vwCl (mw ad kk ks.1 V207 L208) H := hP
                        have hD : va_D A (mw ad kk ks.1 V207 L208) := hD
                        have hMV207 : rgd bM V207 := hMV207
                        have ajV207 : agr [(0, 7), (0, 8), (0, 48), (0, 50), (0, 51), (0, 52)] [15, 19, 20, 21, 22, 23, 24, 25, 26, 27, 28, 29, 30, 31, 32, 33, 34, 35, 36, 37, 38, 45, 46, 47, 53] V25 V207 := ajV207
                        have agV207 : agr [(0, 0), (0, 2), (0, 3), (0, 7), (0, 8), (0, 11), (0, 12), (0, 48), (0, 49), (0, 50), (0, 51), (0, 52), (0, 54), (0, 55), (0, 60), (0, 65), (0, 69), (0, 70), (0, 71), (0, 72), (0, 73), (0, 76), (0, 81)] [4, 5, 6, 13, 14, 15, 16, 17, 18, 19, 20, 21, 22, 23, 24, 25, 26, 27, 28, 29, 30, 31, 32, 33, 34, 35, 36, 37, 38, 39, 40, 41, 42, 43, 44, 45, 46, 47, 53, 56, 57, 59] V V207 := agV25.tr ajV207 (by decide) (by decide)
                        have t197 : Imp ((V207 0 8).toInt = 0) ((V207 0 48).toInt ≤ 2 * (V207 0 7).toInt) := t197
                        have t198 : (V207 0 48).toInt ≤ 8200 := t198
                        have t199 : (V207 0 12).toInt = (V25 0 12).toInt := t199
                        have t200 : RdM (gT) (s1) (fun k => Istmt :: k) (fun k => Istmt :: k) (V207 0 8).toInt (fun s9 => RelM V207 L208 (bq) (gn) (gT) s9 (s9.2.1 2) ∧ (s1).1 0 + 1 ≤ s9.1 0 ∧ ARm s9 ∧ CNm V207 (bq) s9) := t200
                        have t201 : RoV 19 (bq) V25 V207 := t201
                        have t202 : RoV 35 (bq) V25 V207 := t202
                        have t203 : RoV 37 (bq) V25 V207 := t203
                        have t204 : RoL 20 24 (bq) L26 L208 := t204
                        have t205 : RoL 36 20 (bq) L26 L208 := t205
                        have t206 : RoL 38 20 (bq) L26 L208 := t206
                        have r209 : 0 ≤ ((V207 0 48)).toInt ∧ ((V207 0 48)).toInt ≤ 10000 := hMV207 0 48
                        have r210 : 0 ≤ ((V207 0 8)).toInt ∧ ((V207 0 8)).toInt ≤ 70000 := hMV207 0 8
                        have pq211 : (V25 0 12).toInt = z14.toInt := congrArg Int32.toInt ((ajV25 0 12 rfl).trans ((up2_k hV24 (by decide)).trans ((up2_k hV22 (by decide)).trans ((up2_o hV21 (by decide)).trans ((up2_o hV20 (by decide)).trans ((up2_o hV19 (by decide)).trans ((up2_o hV18 (by decide)).trans ((up2_o hV17 (by decide)).trans ((up2_o hV16 (by decide)).trans (up2_s hV15))))))))))
                        have pq212 : (V207 0 12).toInt = z14.toInt := congrArg Int32.toInt ((ajV207 0 12 rfl).trans ((ajV25 0 12 rfl).trans ((up2_k hV24 (by decide)).trans ((up2_k hV22 (by decide)).trans ((up2_o hV21 (by decide)).trans ((up2_o hV20 (by decide)).trans ((up2_o hV19 (by decide)).trans ((up2_o hV18 (by decide)).trans ((up2_o hV17 (by decide)).trans ((up2_o hV16 (by decide)).trans (up2_s hV15)))))))))))
                        rcases t200 with ⟨q213, sx214, h215, rl216, kp217⟩ | ⟨q213, h215⟩
                        · skip
                          have hr218 : ∀ k, Rc gT (Crun gs (Istmt :: k)) (Crun sx214 (Istmt :: k)) := fun k => (hq k).tr (h215 (k))
                          have fz219 := RelM.rg rl216
                          have ps220 := (kp217).1
                          refine lv_goto (tgt := 96) hx hb dX12_book_157 (by decide) ?_
                          have rw221 : RoV 13 bq V V207 := (fun k hk => ((ajV207 13 k rfl).trans (xlp28_5 k hk)))
                          have rw222 : RoV 16 bq V V207 := (fun k hk => ((ajV207 16 k rfl).trans (xlp28_6 k hk)))
                          have rw223 : RoV 19 bq V V207 := (fun k hk => ((t201 k hk).trans (xlp28_7 k hk)))
                          have rw224 : RoV 35 bq V V207 := (fun k hk => ((t202 k hk).trans (xlp28_8 k hk)))
                          have rw225 : RoV 37 bq V V207 := (fun k hk => ((t203 k hk).trans (xlp28_9 k hk)))
                          have rw226 : RoL 14 24 bq L L208 := (fun k hk => ((axL208 14 k rfl).trans (xlp28_10 k hk)))
                          have rw227 : RoL 17 12 bq L L208 := (fun k hk => ((axL208 17 k rfl).trans (xlp28_11 k hk)))
                          have rw228 : RoL 20 24 bq L L208 := (fun k hk => ((t204 k hk).trans (xlp28_12 k hk)))
                          have rw229 : RoL 36 20 bq L L208 := (fun k hk => ((t205 k hk).trans (xlp28_13 k hk)))
                          have rw230 : RoL 38 20 bq L L208 := (fun k hk => ((t206 k hk).trans (xlp28_14 k hk)))
                          exact ihlp28 (g27 - 1) V207 L208 H locs ls (show 0 ≤ (g27 - 1) from by first | omega | ((try (have i_t197 := Imp.go t197 (by omega))); (try (have i_xlp28_3 := Imp.go xlp28_3 (by omega))); (try (have i_xlp28_2 := Imp.go xlp28_2 (by omega))); (try (have i_xlp28_2 := Imp.go xlp28_2 (by omega))); (try (have i_xlp28_3 := Imp.go xlp28_3 (by omega))); (try (have i_t197 := Imp.go t197 (by omega))); omega)) (Or.inl ⟨W0 rl216, sx214, hr218, rl216, (kp217).2.1, (kp217).2.2⟩) (Imp.mk (fun hp => have hp : (V207 0 8).toInt = 0 := hp; (show (gn : Int) - (V207 0 7).toInt < (g27 - 1) from by first | omega | ((try (have i_t197 := Imp.go t197 (by omega))); (try (have i_xlp28_3 := Imp.go xlp28_3 (by omega))); (try (have i_xlp28_2 := Imp.go xlp28_2 (by omega))); (try (have i_xlp28_2 := Imp.go xlp28_2 (by omega))); (try (have i_xlp28_3 := Imp.go xlp28_3 (by omega))); (try (have i_t197 := Imp.go t197 (by omega))); omega)))) (Imp.mk (fun hp => have hp : (V207 0 8).toInt = 0 := hp; (show (V207 0 48).toInt ≤ 2 * (V207 0 7).toInt from by first | omega | ((try (have i_t197 := Imp.go t197 (by omega))); (try (have i_xlp28_3 := Imp.go xlp28_3 (by omega))); (try (have i_xlp28_2 := Imp.go xlp28_2 (by omega))); (try (have i_xlp28_2 := Imp.go xlp28_2 (by omega))); (try (have i_xlp28_3 := Imp.go xlp28_3 (by omega))); (try (have i_t197 := Imp.go t197 (by omega))); omega)))) (show (V207 0 48).toInt ≤ 8200 from by first | omega | ((try (have i_t197 := Imp.go t197 (by omega))); (try (have i_xlp28_3 := Imp.go xlp28_3 (by omega))); (try (have i_xlp28_2 := Imp.go xlp28_2 (by omega))); (try (have i_xlp28_2 := Imp.go xlp28_2 (by omega))); (try (have i_xlp28_3 := Imp.go xlp28_3 (by omega))); (try (have i_t197 := Imp.go t197 (by omega))); omega)) rw221 rw222 rw223 rw224 rw225 rw226 rw227 rw228 rw229 rw230 (by first | omega | ((try (have i_t197 := Imp.go t197 (by omega))); (try (have i_xlp28_3 := Imp.go xlp28_3 (by omega))); (try (have i_xlp28_2 := Imp.go xlp28_2 (by omega))); (try (have i_xlp28_2 := Imp.go xlp28_2 (by omega))); (try (have i_xlp28_3 := Imp.go xlp28_3 (by omega))); (try (have i_t197 := Imp.go t197 (by omega))); omega)) alL208 (agr.tr (agr.tr agr.rf ajV25 (by decide) (by decide)) ajV207 (by decide) (by decide)) hMV207 hP hD hS (lv_sub hl [0] rfl)
                        · skip
                          have hb231 : ∀ k, Rc gT (Crun gs (Istmt :: k)) (Cbad (V207 0 8).toInt) := fun k => (hq k).tr (h215 (k))
                          refine lv_goto (tgt := 96) hx hb dX12_book_157 (by decide) ?_
                          have rw232 : RoV 13 bq V V207 := (fun k hk => ((ajV207 13 k rfl).trans (xlp28_5 k hk)))
                          have rw233 : RoV 16 bq V V207 := (fun k hk => ((ajV207 16 k rfl).trans (xlp28_6 k hk)))
                          have rw234 : RoV 19 bq V V207 := (fun k hk => ((t201 k hk).trans (xlp28_7 k hk)))
                          have rw235 : RoV 35 bq V V207 := (fun k hk => ((t202 k hk).trans (xlp28_8 k hk)))
                          have rw236 : RoV 37 bq V V207 := (fun k hk => ((t203 k hk).trans (xlp28_9 k hk)))
                          have rw237 : RoL 14 24 bq L L208 := (fun k hk => ((axL208 14 k rfl).trans (xlp28_10 k hk)))
                          have rw238 : RoL 17 12 bq L L208 := (fun k hk => ((axL208 17 k rfl).trans (xlp28_11 k hk)))
                          have rw239 : RoL 20 24 bq L L208 := (fun k hk => ((t204 k hk).trans (xlp28_12 k hk)))
                          have rw240 : RoL 36 20 bq L L208 := (fun k hk => ((t205 k hk).trans (xlp28_13 k hk)))
                          have rw241 : RoL 38 20 bq L L208 := (fun k hk => ((t206 k hk).trans (xlp28_14 k hk)))
                          exact ihlp28 (g27 - 1) V207 L208 H locs ls (show 0 ≤ (g27 - 1) from by first | omega | ((try (have i_t197 := Imp.go t197 (by omega))); (try (have i_xlp28_3 := Imp.go xlp28_3 (by omega))); (try (have i_xlp28_2 := Imp.go xlp28_2 (by omega))); (try (have i_xlp28_2 := Imp.go xlp28_2 (by omega))); (try (have i_xlp28_3 := Imp.go xlp28_3 (by omega))); (try (have i_t197 := Imp.go t197 (by omega))); omega)) (Or.inr ⟨(show 1 ≤ (V207 0 8).toInt from by omega), hb231⟩) (Imp.mk (fun hp => have hp : (V207 0 8).toInt = 0 := hp; (show (gn : Int) - (V207 0 7).toInt < (g27 - 1) from by first | omega | ((try (have i_t197 := Imp.go t197 (by omega))); (try (have i_xlp28_3 := Imp.go xlp28_3 (by omega))); (try (have i_xlp28_2 := Imp.go xlp28_2 (by omega))); (try (have i_xlp28_2 := Imp.go xlp28_2 (by omega))); (try (have i_xlp28_3 := Imp.go xlp28_3 (by omega))); (try (have i_t197 := Imp.go t197 (by omega))); omega)))) (Imp.mk (fun hp => have hp : (V207 0 8).toInt = 0 := hp; (show (V207 0 48).toInt ≤ 2 * (V207 0 7).toInt from by first | omega | ((try (have i_t197 := Imp.go t197 (by omega))); (try (have i_xlp28_3 := Imp.go xlp28_3 (by omega))); (try (have i_xlp28_2 := Imp.go xlp28_2 (by omega))); (try (have i_xlp28_2 := Imp.go xlp28_2 (by omega))); (try (have i_xlp28_3 := Imp.go xlp28_3 (by omega))); (try (have i_t197 := Imp.go t197 (by omega))); omega)))) (show (V207 0 48).toInt ≤ 8200 from by first | omega | ((try (have i_t197 := Imp.go t197 (by omega))); (try (have i_xlp28_3 := Imp.go xlp28_3 (by omega))); (try (have i_xlp28_2 := Imp.go xlp28_2 (by omega))); (try (have i_xlp28_2 := Imp.go xlp28_2 (by omega))); (try (have i_xlp28_3 := Imp.go xlp28_3 (by omega))); (try (have i_t197 := Imp.go t197 (by omega))); omega)) rw232 rw233 rw234 rw235 rw236 rw237 rw238 rw239 rw240 rw241 (by first | omega | ((try (have i_t197 := Imp.go t197 (by omega))); (try (have i_xlp28_3 := Imp.go xlp28_3 (by omega))); (try (have i_xlp28_2 := Imp.go xlp28_2 (by omega))); (try (have i_xlp28_2 := Imp.go xlp28_2 (by omega))); (try (have i_xlp28_3 := Imp.go xlp28_3 (by omega))); (try (have i_t197 := Imp.go t197 (by omega))); omega)) alL208 (agr.tr (agr.tr agr.rf ajV25 (by decide) (by decide)) ajV207 (by decide) (by decide)) hMV207 hP hD hS (lv_sub hl [0] rfl)
                    · skip
                      have kd242 : gT.1 (s1.1 0) ≠ 131 := fun h9 => h189 (h9.trans (by decide))
                      refine lv_if_eq (tgt := 160) hx hb dX12_book_150 (by decide) (fun c243 => ?_) (fun c243 => ?_)
                      · skip
                        have f244 : z184.toInt = 0 := b_eq rfl (by decide) c243
                        refine lv_aload_n hx hb dX12_book_160 rfl (lv_at hl 0 rfl) ?_
                        refine lv_bipush (v := 8) hx hb dX12_book_161 (by decide) ?_
                        have r245 : Int32.toInt 8 = 8 := by decide
                        refine gA_int (gA_runV (As := [.int 8]) (rest := []) (ci := 12) (q0 := 0) hx hb hml hown hg hP hD hK hS hA hnw hgk (s_isWordA l D ks H.size ad kk V25 L26 8 (bq) (gn) (gT) (s1) ((s1.2.1 2)) hMV25 (by decide) rq) w2027 w2029 w83 w172 w2030 rfl rfl hdV_yX12_isWord ⟨Nat.le_of_ble_eq_true rfl, Nat.le_of_ble_eq_true rfl⟩ rfl hl.1 rfl (Nat.le_of_ble_eq_true rfl) dX12_book_163 ⟨Nat.le_of_ble_eq_true rfl, Nat.le_of_ble_eq_true rfl⟩) hP hD hK hS hA (fun z246 u247 H locs w248 hP hD hK hS => ?_)
                        obtain ⟨rgz246, t249⟩ := w248
                        have rgz246 : 0 ≤ z246.toInt ∧ z246.toInt ≤ 1 := rgz246
                        have t249 : (z246.toInt = 1 ∧ (gT).1 ((s1).1 0) = 128 + (Int32.toInt 8)) ∨ (z246.toInt = 0 ∧ (gT).1 ((s1).1 0) ≠ 128 + (Int32.toInt 8)) := t249
                        rcases t249 with ⟨q250, h251⟩ | ⟨q250, h251⟩
                        · skip
                          have kd252 : gT.1 (s1.1 0) = 136 := h251.trans (by decide)
                          refine lv_if_eq (tgt := 176) hx hb dX12_book_166 (by decide) (fun c253 => ?_) (fun c253 => ?_)
                          · skip
                            have f254 : z246.toInt = 0 := b_eq rfl (by decide) c253
                            exfalso; first | omega | ((try (have i_xlp28_3 := Imp.go xlp28_3 (by omega))); (try (have i_xlp28_2 := Imp.go xlp28_2 (by omega))); (try (have i_xlp28_2 := Imp.go xlp28_2 (by omega))); (try (have i_xlp28_3 := Imp.go xlp28_3 (by omega))); omega)
                          · skip
                            have f255 : z246.toInt ≠ 0 := b_neq rfl (by decide) c253
                            refine lv_aload_n hx hb dX12_book_169 rfl (lv_at hl 0 rfl) ?_
                            refine gA_void (gA_runV (As := []) (rest := []) (ci := 12) (q0 := 0) hx hb hml hown hg hP hD hK hS hA hnw hgk (s_toldWrapA l D ks H.size ad kk V25 L26 (bq) (gn) (gT) (s1) hMV25 rq kd252 (show (V25 0 48).toInt ≤ 2 * (V25 0 7).toInt from by first | omega | ((try (have i_xlp28_3 := Imp.go xlp28_3 (by omega))); (try (have i_xlp28_2 := Imp.go xlp28_2 (by omega))); (try (have i_xlp28_2 := Imp.go xlp28_2 (by omega))); (try (have i_xlp28_3 := Imp.go xlp28_3 (by omega))); omega)) aq nq) w2156 w2158 w115 w172 w2159 rfl rfl hdV_yX12_toldWrap ⟨Nat.le_of_ble_eq_true rfl, Nat.le_of_ble_eq_true rfl⟩ rfl hl.1 rfl (Nat.le_of_ble_eq_true rfl) dX12_book_170 ⟨Nat.le_of_ble_eq_true rfl, Nat.le_of_ble_eq_true rfl⟩) hP hD hK hS hA (fun u257 H locs w258 hP hD hK hS => ?_)
                            obtain ⟨V267, L268⟩ := u257
                            obtain ⟨hMV267, ajV267, axL268, t259, t260, t261, t262, t263, t264, t265, t266⟩ := w258
                            have alL268 : agL [4, 5, 6, 13, 14, 15, 16, 17, 18, 19, 20, 21, 22, 23, 24, 25, 26, 27, 28, 29, 30, 31, 32, 33, 34, 35, 36, 37, 38, 39, 40, 41, 42, 43, 44, 45, 46, 47, 53, 56, 57, 59] L L268 := agL.tr alL26 axL268 (by decide)
                            have hP : va_P D vwCl (mw ad kk ks.1 V267 L268) H := hP
                            have hD : va_D A (mw ad kk ks.1 V267 L268) := hD
                            have hMV267 : rgd bM V267 := hMV267
                            have ajV267 : agr [(0, 7), (0, 8), (0, 48), (0, 50), (0, 51), (0, 52)] [35, 36, 37, 38, 39, 40, 41, 42, 43, 44, 45, 46, 47] V25 V267 := ajV267
                            have agV267 : agr [(0, 0), (0, 2), (0, 3), (0, 7), (0, 8), (0, 11), (0, 12), (0, 48), (0, 49), (0, 50), (0, 51), (0, 52), (0, 54), (0, 55), (0, 60), (0, 65), (0, 69), (0, 70), (0, 71), (0, 72), (0, 73), (0, 76), (0, 81)] [4, 5, 6, 13, 14, 15, 16, 17, 18, 19, 20, 21, 22, 23, 24, 25, 26, 27, 28, 29, 30, 31, 32, 33, 34, 35, 36, 37, 38, 39, 40, 41, 42, 43, 44, 45, 46, 47, 53, 56, 57, 59] V V267 := agV25.tr ajV267 (by decide) (by decide)
                            have t259 : Imp ((V267 0 8).toInt = 0) ((V267 0 48).toInt ≤ 2 * (V267 0 7).toInt) := t259
                            have t260 : (V267 0 48).toInt ≤ 8200 := t260
                            have t261 : (V267 0 12).toInt = (V25 0 12).toInt := t261
                            have t262 : RdM (gT) (s1) (fun k => Istmt :: k) (fun k => Istmt :: k) (V267 0 8).toInt (fun s9 => RelM V267 L268 (bq) (gn) (gT) s9 (s9.2.1 2) ∧ (s1).1 0 + 1 ≤ s9.1 0 ∧ ARm s9 ∧ CNm V267 (bq) s9) := t262
                            have t263 : RoV 35 (bq) V25 V267 := t263
                            have t264 : RoV 37 (bq) V25 V267 := t264
                            have t265 : RoL 36 20 (bq) L26 L268 := t265
                            have t266 : RoL 38 20 (bq) L26 L268 := t266
                            have r269 : 0 ≤ ((V267 0 48)).toInt ∧ ((V267 0 48)).toInt ≤ 10000 := hMV267 0 48
                            have r270 : 0 ≤ ((V267 0 8)).toInt ∧ ((V267 0 8)).toInt ≤ 70000 := hMV267 0 8
                            have pq271 : (V25 0 12).toInt = z14.toInt := congrArg Int32.toInt ((ajV25 0 12 rfl).trans ((up2_k hV24 (by decide)).trans ((up2_k hV22 (by decide)).trans ((up2_o hV21 (by decide)).trans ((up2_o hV20 (by decide)).trans ((up2_o hV19 (by decide)).trans ((up2_o hV18 (by decide)).trans ((up2_o hV17 (by decide)).trans ((up2_o hV16 (by decide)).trans (up2_s hV15))))))))))
                            have pq272 : (V267 0 12).toInt = z14.toInt := congrArg Int32.toInt ((ajV267 0 12 rfl).trans ((ajV25 0 12 rfl).trans ((up2_k hV24 (by decide)).trans ((up2_k hV22 (by decide)).trans ((up2_o hV21 (by decide)).trans ((up2_o hV20 (by decide)).trans ((up2_o hV19 (by decide)).trans ((up2_o hV18 (by decide)).trans ((up2_o hV17 (by decide)).trans ((up2_o hV16 (by decide)).trans (up2_s hV15)))))))))))
                            rcases t262 with ⟨q273, sx274, h275, rl276, kp277⟩ | ⟨q273, h275⟩
                            · skip
                              have hr278 : ∀ k, Rc gT (Crun gs (Istmt :: k)) (Crun sx274 (Istmt :: k)) := fun k => (hq k).tr (h275 (k))
                              have fz279 := RelM.rg rl276
                              have ps280 := (kp277).1
                              refine lv_goto (tgt := 96) hx hb dX12_book_173 (by decide) ?_
                              have rw281 : RoV 13 bq V V267 := (fun k hk => ((ajV267 13 k rfl).trans (xlp28_5 k hk)))
                              have rw282 : RoV 16 bq V V267 := (fun k hk => ((ajV267 16 k rfl).trans (xlp28_6 k hk)))
                              have rw283 : RoV 19 bq V V267 := (fun k hk => ((ajV267 19 k rfl).trans (xlp28_7 k hk)))
                              have rw284 : RoV 35 bq V V267 := (fun k hk => ((t263 k hk).trans (xlp28_8 k hk)))
                              have rw285 : RoV 37 bq V V267 := (fun k hk => ((t264 k hk).trans (xlp28_9 k hk)))
                              have rw286 : RoL 14 24 bq L L268 := (fun k hk => ((axL268 14 k rfl).trans (xlp28_10 k hk)))
                              have rw287 : RoL 17 12 bq L L268 := (fun k hk => ((axL268 17 k rfl).trans (xlp28_11 k hk)))
                              have rw288 : RoL 20 24 bq L L268 := (fun k hk => ((axL268 20 k rfl).trans (xlp28_12 k hk)))
                              have rw289 : RoL 36 20 bq L L268 := (fun k hk => ((t265 k hk).trans (xlp28_13 k hk)))
                              have rw290 : RoL 38 20 bq L L268 := (fun k hk => ((t266 k hk).trans (xlp28_14 k hk)))
                              exact ihlp28 (g27 - 1) V267 L268 H locs ls (show 0 ≤ (g27 - 1) from by first | omega | ((try (have i_t259 := Imp.go t259 (by omega))); (try (have i_xlp28_3 := Imp.go xlp28_3 (by omega))); (try (have i_xlp28_2 := Imp.go xlp28_2 (by omega))); (try (have i_xlp28_2 := Imp.go xlp28_2 (by omega))); (try (have i_xlp28_3 := Imp.go xlp28_3 (by omega))); (try (have i_t259 := Imp.go t259 (by omega))); omega)) (Or.inl ⟨W0 rl276, sx274, hr278, rl276, (kp277).2.1, (kp277).2.2⟩) (Imp.mk (fun hp => have hp : (V267 0 8).toInt = 0 := hp; (show (gn : Int) - (V267 0 7).toInt < (g27 - 1) from by first | omega | ((try (have i_t259 := Imp.go t259 (by omega))); (try (have i_xlp28_3 := Imp.go xlp28_3 (by omega))); (try (have i_xlp28_2 := Imp.go xlp28_2 (by omega))); (try (have i_xlp28_2 := Imp.go xlp28_2 (by omega))); (try (have i_xlp28_3 := Imp.go xlp28_3 (by omega))); (try (have i_t259 := Imp.go t259 (by omega))); omega)))) (Imp.mk (fun hp => have hp : (V267 0 8).toInt = 0 := hp; (show (V267 0 48).toInt ≤ 2 * (V267 0 7).toInt from by first | omega | ((try (have i_t259 := Imp.go t259 (by omega))); (try (have i_xlp28_3 := Imp.go xlp28_3 (by omega))); (try (have i_xlp28_2 := Imp.go xlp28_2 (by omega))); (try (have i_xlp28_2 := Imp.go xlp28_2 (by omega))); (try (have i_xlp28_3 := Imp.go xlp28_3 (by omega))); (try (have i_t259 := Imp.go t259 (by omega))); omega)))) (show (V267 0 48).toInt ≤ 8200 from by first | omega | ((try (have i_t259 := Imp.go t259 (by omega))); (try (have i_xlp28_3 := Imp.go xlp28_3 (by omega))); (try (have i_xlp28_2 := Imp.go xlp28_2 (by omega))); (try (have i_xlp28_2 := Imp.go xlp28_2 (by omega))); (try (have i_xlp28_3 := Imp.go xlp28_3 (by omega))); (try (have i_t259 := Imp.go t259 (by omega))); omega)) rw281 rw282 rw283 rw284 rw285 rw286 rw287 rw288 rw289 rw290 (by first | omega | ((try (have i_t259 := Imp.go t259 (by omega))); (try (have i_xlp28_3 := Imp.go xlp28_3 (by omega))); (try (have i_xlp28_2 := Imp.go xlp28_2 (by omega))); (try (have i_xlp28_2 := Imp.go xlp28_2 (by omega))); (try (have i_xlp28_3 := Imp.go xlp28_3 (by omega))); (try (have i_t259 := Imp.go t259 (by omega))); omega)) alL268 (agr.tr (agr.tr agr.rf ajV25 (by decide) (by decide)) ajV267 (by decide) (by decide)) hMV267 hP hD hS (lv_sub hl [0] rfl)
                            · skip
                              have hb291 : ∀ k, Rc gT (Crun gs (Istmt :: k)) (Cbad (V267 0 8).toInt) := fun k => (hq k).tr (h275 (k))
                              refine lv_goto (tgt := 96) hx hb dX12_book_173 (by decide) ?_
                              have rw292 : RoV 13 bq V V267 := (fun k hk => ((ajV267 13 k rfl).trans (xlp28_5 k hk)))
                              have rw293 : RoV 16 bq V V267 := (fun k hk => ((ajV267 16 k rfl).trans (xlp28_6 k hk)))
                              have rw294 : RoV 19 bq V V267 := (fun k hk => ((ajV267 19 k rfl).trans (xlp28_7 k hk)))
                              have rw295 : RoV 35 bq V V267 := (fun k hk => ((t263 k hk).trans (xlp28_8 k hk)))
                              have rw296 : RoV 37 bq V V267 := (fun k hk => ((t264 k hk).trans (xlp28_9 k hk)))
                              have rw297 : RoL 14 24 bq L L268 := (fun k hk => ((axL268 14 k rfl).trans (xlp28_10 k hk)))
                              have rw298 : RoL 17 12 bq L L268 := (fun k hk => ((axL268 17 k rfl).trans (xlp28_11 k hk)))
                              have rw299 : RoL 20 24 bq L L268 := (fun k hk => ((axL268 20 k rfl).trans (xlp28_12 k hk)))
                              have rw300 : RoL 36 20 bq L L268 := (fun k hk => ((t265 k hk).trans (xlp28_13 k hk)))
                              have rw301 : RoL 38 20 bq L L268 := (fun k hk => ((t266 k hk).trans (xlp28_14 k hk)))
                              exact ihlp28 (g27 - 1) V267 L268 H locs ls (show 0 ≤ (g27 - 1) from by first | omega | ((try (have i_t259 := Imp.go t259 (by omega))); (try (have i_xlp28_3 := Imp.go xlp28_3 (by omega))); (try (have i_xlp28_2 := Imp.go xlp28_2 (by omega))); (try (have i_xlp28_2 := Imp.go xlp28_2 (by omega))); (try (have i_xlp28_3 := Imp.go xlp28_3 (by omega))); (try (have i_t259 := Imp.go t259 (by omega))); omega)) (Or.inr ⟨(show 1 ≤ (V267 0 8).toInt from by omega), hb291⟩) (Imp.mk (fun hp => have hp : (V267 0 8).toInt = 0 := hp; (show (gn : Int) - (V267 0 7).toInt < (g27 - 1) from by first | omega | ((try (have i_t259 := Imp.go t259 (by omega))); (try (have i_xlp28_3 := Imp.go xlp28_3 (by omega))); (try (have i_xlp28_2 := Imp.go xlp28_2 (by omega))); (try (have i_xlp28_2 := Imp.go xlp28_2 (by omega))); (try (have i_xlp28_3 := Imp.go xlp28_3 (by omega))); (try (have i_t259 := Imp.go t259 (by omega))); omega)))) (Imp.mk (fun hp => have hp : (V267 0 8).toInt = 0 := hp; (show (V267 0 48).toInt ≤ 2 * (V267 0 7).toInt from by first | omega | ((try (have i_t259 := Imp.go t259 (by omega))); (try (have i_xlp28_3 := Imp.go xlp28_3 (by omega))); (try (have i_xlp28_2 := Imp.go xlp28_2 (by omega))); (try (have i_xlp28_2 := Imp.go xlp28_2 (by omega))); (try (have i_xlp28_3 := Imp.go xlp28_3 (by omega))); (try (have i_t259 := Imp.go t259 (by omega))); omega)))) (show (V267 0 48).toInt ≤ 8200 from by first | omega | ((try (have i_t259 := Imp.go t259 (by omega))); (try (have i_xlp28_3 := Imp.go xlp28_3 (by omega))); (try (have i_xlp28_2 := Imp.go xlp28_2 (by omega))); (try (have i_xlp28_2 := Imp.go xlp28_2 (by omega))); (try (have i_xlp28_3 := Imp.go xlp28_3 (by omega))); (try (have i_t259 := Imp.go t259 (by omega))); omega)) rw292 rw293 rw294 rw295 rw296 rw297 rw298 rw299 rw300 rw301 (by first | omega | ((try (have i_t259 := Imp.go t259 (by omega))); (try (have i_xlp28_3 := Imp.go xlp28_3 (by omega))); (try (have i_xlp28_2 := Imp.go xlp28_2 (by omega))); (try (have i_xlp28_2 := Imp.go xlp28_2 (by omega))); (try (have i_xlp28_3 := Imp.go xlp28_3 (by omega))); (try (have i_t259 := Imp.go t259 (by omega))); omega)) alL268 (agr.tr (agr.tr agr.rf ajV25 (by decide) (by decide)) ajV267 (by decide) (by decide)) hMV267 hP hD hS (lv_sub hl [0] rfl)
                        · skip
                          have kd302 : gT.1 (s1.1 0) ≠ 136 := fun h9 => h251 (h9.trans (by decide))
                          refine lv_if_eq (tgt := 176) hx hb dX12_book_166 (by decide) (fun c303 => ?_) (fun c303 => ?_)
                          · skip
                            have f304 : z246.toInt = 0 := b_eq rfl (by decide) c303
                            refine lv_aload_n hx hb dX12_book_176 rfl (lv_at hl 0 rfl) ?_
                            refine lv_iconst (v := 1) hx hb dX12_book_177 (by decide) ?_
                            have r305 : Int32.toInt 1 = 1 := by decide
                            refine gA_void (gA_runV (As := [.int 1]) (rest := []) (ci := 12) (q0 := 0) hx hb hml hown hg hP hD hK hS hA hnw hgk (s_wrongA l D ks H.size ad kk V25 L26 1 (bq) (gn) (gT) (s1) ((s1.2.1 2)) hMV25 (by decide) rq) w2039 w2041 w86 w172 w2042 rfl rfl hdV_yX12_wrong ⟨Nat.le_of_ble_eq_true rfl, Nat.le_of_ble_eq_true rfl⟩ rfl hl.1 rfl (Nat.le_of_ble_eq_true rfl) dX12_book_178 ⟨Nat.le_of_ble_eq_true rfl, Nat.le_of_ble_eq_true rfl⟩) hP hD hK hS hA (fun u307 H locs w308 hP hD hK hS => ?_)
                            obtain ⟨V311, L312⟩ := u307
                            obtain ⟨hMV311, ajV311, axL312, t309, t310⟩ := w308
                            have axL312 : L26 = L312 := Eq.symm axL312
                            subst axL312
                            have hP : va_P D vwCl (mw ad kk ks.1 V311 L26) H := hP
                            have hD : va_D A (mw ad kk ks.1 V311 L26) := hD
                            have hMV311 : rgd bM V311 := hMV311
                            have ajV311 : agr [(0, 8)] [] V25 V311 := ajV311
                            have agV311 : agr [(0, 0), (0, 2), (0, 3), (0, 7), (0, 8), (0, 11), (0, 12), (0, 48), (0, 49), (0, 50), (0, 51), (0, 52), (0, 54), (0, 55), (0, 60), (0, 65), (0, 69), (0, 70), (0, 71), (0, 72), (0, 73), (0, 76), (0, 81)] [4, 5, 6, 13, 14, 15, 16, 17, 18, 19, 20, 21, 22, 23, 24, 25, 26, 27, 28, 29, 30, 31, 32, 33, 34, 35, 36, 37, 38, 39, 40, 41, 42, 43, 44, 45, 46, 47, 53, 56, 57, 59] V V311 := agV25.tr ajV311 (by decide) (by decide)
                            have t309 : 1 ≤ (V311 0 8).toInt := t309
                            have t310 : (V311 0 8).toInt = (Int32.toInt 1) + 16 * (gT).2.2 ((s1).1 0) := t310
                            have r313 : 0 ≤ ((V311 0 8)).toInt ∧ ((V311 0 8)).toInt ≤ 70000 := hMV311 0 8
                            have hb314 : ∀ k, Rc gT (Crun gs (Istmt :: k)) (Cbad (V311 0 8).toInt) := fun k => Rc.go1 (hq k) ((st_x kd66 kd122 kd180 kd242 kd302).trans (fl_eq rfl (show (V311 0 8).toInt = 1 + 16 * gT.2.2 (s1.1 0) from by omega)))
                            refine lv_goto (tgt := 96) hx hb dX12_book_181 (by decide) ?_
                            have pq315 : (V311 0 7).toInt = ((V25 0 7)).toInt := congrArg Int32.toInt (ajV311 0 7 rfl)
                            have pq316 : (V311 0 48).toInt = ((V25 0 48)).toInt := congrArg Int32.toInt (ajV311 0 48 rfl)
                            have rw317 : RoV 13 bq V V311 := (fun k hk => ((ajV311 13 k rfl).trans (xlp28_5 k hk)))
                            have rw318 : RoV 16 bq V V311 := (fun k hk => ((ajV311 16 k rfl).trans (xlp28_6 k hk)))
                            have rw319 : RoV 19 bq V V311 := (fun k hk => ((ajV311 19 k rfl).trans (xlp28_7 k hk)))
                            have rw320 : RoV 35 bq V V311 := (fun k hk => ((ajV311 35 k rfl).trans (xlp28_8 k hk)))
                            have rw321 : RoV 37 bq V V311 := (fun k hk => ((ajV311 37 k rfl).trans (xlp28_9 k hk)))
                            have rw322 : RoL 14 24 bq L L26 := (fun k hk => (xlp28_10 k hk))
                            have rw323 : RoL 17 12 bq L L26 := (fun k hk => (xlp28_11 k hk))
                            have rw324 : RoL 20 24 bq L L26 := (fun k hk => (xlp28_12 k hk))
                            have rw325 : RoL 36 20 bq L L26 := (fun k hk => (xlp28_13 k hk))
                            have rw326 : RoL 38 20 bq L L26 := (fun k hk => (xlp28_14 k hk))
                            exact ihlp28 (g27 - 1) V311 L26 H locs ls (show 0 ≤ (g27 - 1) from by first | omega | ((try (have i_xlp28_3 := Imp.go xlp28_3 (by omega))); (try (have i_xlp28_2 := Imp.go xlp28_2 (by omega))); (try (have i_xlp28_2 := Imp.go xlp28_2 (by omega))); (try (have i_xlp28_3 := Imp.go xlp28_3 (by omega))); omega)) (Or.inr ⟨(show 1 ≤ (V311 0 8).toInt from by omega), hb314⟩) (Imp.mk (fun hp => have hp : (V311 0 8).toInt = 0 := hp; (show (gn : Int) - (V311 0 7).toInt < (g27 - 1) from by first | omega | ((try (have i_xlp28_3 := Imp.go xlp28_3 (by omega))); (try (have i_xlp28_2 := Imp.go xlp28_2 (by omega))); (try (have i_xlp28_2 := Imp.go xlp28_2 (by omega))); (try (have i_xlp28_3 := Imp.go xlp28_3 (by omega))); omega)))) (Imp.mk (fun hp => have hp : (V311 0 8).toInt = 0 := hp; (show (V311 0 48).toInt ≤ 2 * (V311 0 7).toInt from by first | omega | ((try (have i_xlp28_3 := Imp.go xlp28_3 (by omega))); (try (have i_xlp28_2 := Imp.go xlp28_2 (by omega))); (try (have i_xlp28_2 := Imp.go xlp28_2 (by omega))); (try (have i_xlp28_3 := Imp.go xlp28_3 (by omega))); omega)))) (show (V311 0 48).toInt ≤ 8200 from by first | omega | ((try (have i_xlp28_3 := Imp.go xlp28_3 (by omega))); (try (have i_xlp28_2 := Imp.go xlp28_2 (by omega))); (try (have i_xlp28_2 := Imp.go xlp28_2 (by omega))); (try (have i_xlp28_3 := Imp.go xlp28_3 (by omega))); omega)) rw317 rw318 rw319 rw320 rw321 rw322 rw323 rw324 rw325 rw326 (by first | omega | ((try (have i_xlp28_3 := Imp.go xlp28_3 (by omega))); (try (have i_xlp28_2 := Imp.go xlp28_2 (by omega))); (try (have i_xlp28_2 := Imp.go xlp28_2 (by omega))); (try (have i_xlp28_3 := Imp.go xlp28_3 (by omega))); omega)) alL26 (agr.tr (agr.tr agr.rf ajV25 (by decide) (by decide)) ajV311 (by decide) (by decide)) hMV311 hP hD hS (lv_sub hl [0] rfl)
                          · skip
                            have f327 : z246.toInt ≠ 0 := b_neq rfl (by decide) c303
                            exfalso; first | omega | ((try (have i_xlp28_3 := Imp.go xlp28_3 (by omega))); (try (have i_xlp28_2 := Imp.go xlp28_2 (by omega))); (try (have i_xlp28_2 := Imp.go xlp28_2 (by omega))); (try (have i_xlp28_3 := Imp.go xlp28_3 (by omega))); omega)
                      · skip
                        have f328 : z184.toInt ≠ 0 := b_neq rfl (by decide) c243
                        exfalso; first | omega | ((try (have i_xlp28_3 := Imp.go xlp28_3 (by omega))); (try (have i_xlp28_2 := Imp.go xlp28_2 (by omega))); (try (have i_xlp28_2 := Imp.go xlp28_2 (by omega))); (try (have i_xlp28_3 := Imp.go xlp28_3 (by omega))); omega)
                  · skip
                    have f329 : z126.toInt ≠ 0 := b_neq rfl (by decide) c181
                    exfalso; first | omega | ((try (have i_xlp28_3 := Imp.go xlp28_3 (by omega))); (try (have i_xlp28_2 := Imp.go xlp28_2 (by omega))); (try (have i_xlp28_2 := Imp.go xlp28_2 (by omega))); (try (have i_xlp28_3 := Imp.go xlp28_3 (by omega))); omega)
              · skip
                have f330 : z68.toInt ≠ 0 := b_neq rfl (by decide) c123
                exfalso; first | omega | ((try (have i_xlp28_3 := Imp.go xlp28_3 (by omega))); (try (have i_xlp28_2 := Imp.go xlp28_2 (by omega))); (try (have i_xlp28_2 := Imp.go xlp28_2 (by omega))); (try (have i_xlp28_3 := Imp.go xlp28_3 (by omega))); omega)
      · skip
        refine va_get (D := D) (ci := 12) (v := .int (V25 0 8)) (C := RX12) (T := TX12) (N := 100) hx hb hg inX12 hown hK hP 0 rfl rfl 8 (by decide) (hg _ w1718) (fun _ h9 => h9) rfl dX12_book_97 ?_
        refine lv_if_ne (tgt := 184) hx hb dX12_book_100 (by decide) (fun c331 => ?_) (fun c331 => ?_)
        · skip
          have f332 : ((V25 0 8)).toInt ≠ 0 := b_neq rfl (by decide) c331
          refine lv_aload_n hx hb dX12_book_184 rfl (lv_at hl 0 rfl) ?_
          refine va_get (D := D) (ci := 12) (v := .int (V25 0 8)) (C := RX12) (T := TX12) (N := 100) hx hb hg inX12 hown hK hP 0 rfl rfl 8 (by decide) (hg _ w1718) (fun _ h9 => h9) rfl dX12_book_185 ?_
          refine lv_if_ne (tgt := 203) hx hb dX12_book_188 (by decide) (fun c333 => ?_) (fun c333 => ?_)
          · skip
            have f334 : ((V25 0 8)).toInt ≠ 0 := b_neq rfl (by decide) c333
            refine lv_aload_n hx hb dX12_book_203 rfl (lv_at hl 0 rfl) ?_
            refine va_get (D := D) (ci := 12) (v := .int (V25 0 8)) (C := RX12) (T := TX12) (N := 100) hx hb hg inX12 hown hK hP 0 rfl rfl 8 (by decide) (hg _ w1718) (fun _ h9 => h9) rfl dX12_book_204 ?_
            have rw335 : RoV 13 bq V V25 := (fun k hk => (xlp28_5 k hk))
            have rw336 : RoV 16 bq V V25 := (fun k hk => (xlp28_6 k hk))
            have rw337 : RoV 19 bq V V25 := (fun k hk => (xlp28_7 k hk))
            have rw338 : RoV 35 bq V V25 := (fun k hk => (xlp28_8 k hk))
            have rw339 : RoV 37 bq V V25 := (fun k hk => (xlp28_9 k hk))
            have rw340 : RoL 14 24 bq L L26 := (fun k hk => (xlp28_10 k hk))
            have rw341 : RoL 17 12 bq L L26 := (fun k hk => (xlp28_11 k hk))
            have rw342 : RoL 20 24 bq L L26 := (fun k hk => (xlp28_12 k hk))
            have rw343 : RoL 36 20 bq L L26 := (fun k hk => (xlp28_13 k hk))
            have rw344 : RoL 38 20 bq L L26 := (fun k hk => (xlp28_14 k hk))
            exact W.iret (v := (V25 0 8)) hx hb hr (fun t ht hW => ⟨⟨(V25 0 8), (V25, L26), rfl, ⟨hMV25, agV25, alL26, (show 0 ≤ ((V25 0 8)).toInt ∧ ((V25 0 8)).toInt ≤ 70000 from by first | omega | ((try (have i_xlp28_3 := Imp.go xlp28_3 (by omega))); (try (have i_xlp28_2 := Imp.go xlp28_2 (by omega))); (try (have i_xlp28_2 := Imp.go xlp28_2 (by omega))); (try (have i_xlp28_3 := Imp.go xlp28_3 (by omega))); omega)), (by unfold BRES; rw [← hgs]; refine Or.inr ?_; rw [show ((V25 0 8)).toInt = (V25 0 8).toInt from by omega]; exact hq []), (Imp.mk (fun h9 => by exfalso; omega)), rw335, rw336, rw337, rw338, rw339, rw340, rw341, rw342, rw343, rw344⟩, by rw [ht]; exact hP, va_K.moved hW.alike hK, hD⟩, hS.F ht⟩) hS.2.2 dX12_book_207
          · skip
            have f345 : ((V25 0 8)).toInt = 0 := b_eq rfl (by decide) c333
            exfalso; first | omega | ((try (have i_xlp28_3 := Imp.go xlp28_3 (by omega))); (try (have i_xlp28_2 := Imp.go xlp28_2 (by omega))); (try (have i_xlp28_2 := Imp.go xlp28_2 (by omega))); (try (have i_xlp28_3 := Imp.go xlp28_3 (by omega))); omega)
        · skip
          have f346 : ((V25 0 8)).toInt = 0 := b_eq rfl (by decide) c331
          exfalso; first | omega | ((try (have i_xlp28_3 := Imp.go xlp28_3 (by omega))); (try (have i_xlp28_2 := Imp.go xlp28_2 (by omega))); (try (have i_xlp28_2 := Imp.go xlp28_2 (by omega))); (try (have i_xlp28_3 := Imp.go xlp28_3 (by omega))); omega)
  have pq347 : (V24 0 7).toInt = ((V10 0 7)).toInt := congrArg Int32.toInt ((up2_k hV24 (by decide)).trans ((up2_k hV22 (by decide)).trans ((up2_o hV21 (by decide)).trans ((up2_o hV20 (by decide)).trans ((up2_o hV19 (by decide)).trans ((up2_o hV18 (by decide)).trans ((up2_o hV17 (by decide)).trans ((up2_o hV16 (by decide)).trans (up2_k hV15 (by decide))))))))))
  have pq348 : (V24 0 8).toInt = ((V10 0 8)).toInt := congrArg Int32.toInt ((up2_k hV24 (by decide)).trans ((up2_k hV22 (by decide)).trans ((up2_o hV21 (by decide)).trans ((up2_o hV20 (by decide)).trans ((up2_o hV19 (by decide)).trans ((up2_o hV18 (by decide)).trans ((up2_o hV17 (by decide)).trans ((up2_o hV16 (by decide)).trans (up2_k hV15 (by decide))))))))))
  have pq349 : (V24 0 48).toInt = 0 := (congrArg Int32.toInt ((up2_k hV24 (by decide)).trans (up2_s hV22))).trans (by decide)
  have pq350 : (V24 0 12).toInt = z14.toInt := congrArg Int32.toInt ((up2_k hV24 (by decide)).trans ((up2_k hV22 (by decide)).trans ((up2_o hV21 (by decide)).trans ((up2_o hV20 (by decide)).trans ((up2_o hV19 (by decide)).trans ((up2_o hV18 (by decide)).trans ((up2_o hV17 (by decide)).trans ((up2_o hV16 (by decide)).trans (up2_s hV15)))))))))
  have kb9 : Int32.toNatClampNeg z14 = bq := by have h9 := i_clamp (x := z14) rfl (by omega); omega
  have nb13 : (V24 13 bq).toInt = 0 := by rw [← kb9]; exact (congrArg Int32.toInt ((up2_o hV24 (by decide)).trans ((up2_o hV22 (by decide)).trans ((up2_o hV21 (by decide)).trans ((up2_o hV20 (by decide)).trans ((up2_o hV19 (by decide)).trans ((up2_o hV18 (by decide)).trans ((up2_o hV17 (by decide)).trans (up2_s hV16))))))))).trans (by decide)
  have nb16 : (V24 16 bq).toInt = 0 := by rw [← kb9]; exact (congrArg Int32.toInt ((up2_o hV24 (by decide)).trans ((up2_o hV22 (by decide)).trans ((up2_o hV21 (by decide)).trans ((up2_o hV20 (by decide)).trans ((up2_o hV19 (by decide)).trans ((up2_o hV18 (by decide)).trans (up2_s hV17)))))))).trans (by decide)
  have nb19 : (V24 19 bq).toInt = 0 := by rw [← kb9]; exact (congrArg Int32.toInt ((up2_o hV24 (by decide)).trans ((up2_o hV22 (by decide)).trans ((up2_o hV21 (by decide)).trans ((up2_o hV20 (by decide)).trans ((up2_o hV19 (by decide)).trans (up2_s hV18))))))).trans (by decide)
  have nb35 : (V24 35 bq).toInt = 0 := by rw [← kb9]; exact (congrArg Int32.toInt ((up2_o hV24 (by decide)).trans ((up2_o hV22 (by decide)).trans ((up2_o hV21 (by decide)).trans ((up2_o hV20 (by decide)).trans (up2_s hV19)))))).trans (by decide)
  have nb37 : (V24 37 bq).toInt = 0 := by rw [← kb9]; exact (congrArg Int32.toInt ((up2_o hV24 (by decide)).trans ((up2_o hV22 (by decide)).trans ((up2_o hV21 (by decide)).trans (up2_s hV20))))).trans (by decide)
  have nb39 : (V24 39 bq).toInt = 0 := by rw [← kb9]; exact (congrArg Int32.toInt ((up2_o hV24 (by decide)).trans ((up2_o hV22 (by decide)).trans (up2_s hV21)))).trans (by decide)
  have rl0 : RelM V24 L11 bq gn gT gs (gs.2.1 2) := by rw [hgs]; exact RelM.z (TkM.ag tk0 (by rw [(up2_fo hV24 (by decide) : V24 4 = V22 4), (up2_fo hV22 (by decide) : V22 4 = V21 4), (up2_fo hV21 (by decide) : V21 4 = V20 4), (up2_fo hV20 (by decide) : V20 4 = V19 4), (up2_fo hV19 (by decide) : V19 4 = V18 4), (up2_fo hV18 (by decide) : V18 4 = V17 4), (up2_fo hV17 (by decide) : V17 4 = V16 4), (up2_fo hV16 (by decide) : V16 4 = V15 4), (up2_fo hV15 (by decide) : V15 4 = V10 4)] : V24 4 = V10 4) (by rw [(up2_fo hV24 (by decide) : V24 5 = V22 5), (up2_fo hV22 (by decide) : V22 5 = V21 5), (up2_fo hV21 (by decide) : V21 5 = V20 5), (up2_fo hV20 (by decide) : V20 5 = V19 5), (up2_fo hV19 (by decide) : V19 5 = V18 5), (up2_fo hV18 (by decide) : V18 5 = V17 5), (up2_fo hV17 (by decide) : V17 5 = V16 5), (up2_fo hV16 (by decide) : V16 5 = V15 5), (up2_fo hV15 (by decide) : V15 5 = V10 5)] : V24 5 = V10 5) rfl rfl) (by omega) (by omega) (by omega) bq2 nb13 nb16 nb19 nb35 nb37 nb39
  have ar0 : ARm gs := by rw [hgs]; exact ARm.z
  have rw351 : RoV 13 bq V V24 := (fun k hk => ((up2_o hV24 (by decide)).trans ((up2_o hV22 (by decide)).trans ((up2_o hV21 (by decide)).trans ((up2_o hV20 (by decide)).trans ((up2_o hV19 (by decide)).trans ((up2_o hV18 (by decide)).trans ((up2_o hV17 (by decide)).trans ((up2_k hV16 (by omega)).trans ((up2_o hV15 (by decide)).trans ((ajV10 13 k rfl).trans ((up2_o hV2 (by decide)).trans rfl))))))))))))
  have rw352 : RoV 16 bq V V24 := (fun k hk => ((up2_o hV24 (by decide)).trans ((up2_o hV22 (by decide)).trans ((up2_o hV21 (by decide)).trans ((up2_o hV20 (by decide)).trans ((up2_o hV19 (by decide)).trans ((up2_o hV18 (by decide)).trans ((up2_k hV17 (by omega)).trans ((up2_o hV16 (by decide)).trans ((up2_o hV15 (by decide)).trans ((ajV10 16 k rfl).trans ((up2_o hV2 (by decide)).trans rfl))))))))))))
  have rw353 : RoV 19 bq V V24 := (fun k hk => ((up2_o hV24 (by decide)).trans ((up2_o hV22 (by decide)).trans ((up2_o hV21 (by decide)).trans ((up2_o hV20 (by decide)).trans ((up2_o hV19 (by decide)).trans ((up2_k hV18 (by omega)).trans ((up2_o hV17 (by decide)).trans ((up2_o hV16 (by decide)).trans ((up2_o hV15 (by decide)).trans ((ajV10 19 k rfl).trans ((up2_o hV2 (by decide)).trans rfl))))))))))))
  have rw354 : RoV 35 bq V V24 := (fun k hk => ((up2_o hV24 (by decide)).trans ((up2_o hV22 (by decide)).trans ((up2_o hV21 (by decide)).trans ((up2_o hV20 (by decide)).trans ((up2_k hV19 (by omega)).trans ((up2_o hV18 (by decide)).trans ((up2_o hV17 (by decide)).trans ((up2_o hV16 (by decide)).trans ((up2_o hV15 (by decide)).trans ((ajV10 35 k rfl).trans ((up2_o hV2 (by decide)).trans rfl))))))))))))
  have rw355 : RoV 37 bq V V24 := (fun k hk => ((up2_o hV24 (by decide)).trans ((up2_o hV22 (by decide)).trans ((up2_o hV21 (by decide)).trans ((up2_k hV20 (by omega)).trans ((up2_o hV19 (by decide)).trans ((up2_o hV18 (by decide)).trans ((up2_o hV17 (by decide)).trans ((up2_o hV16 (by decide)).trans ((up2_o hV15 (by decide)).trans ((ajV10 37 k rfl).trans ((up2_o hV2 (by decide)).trans rfl))))))))))))
  have rw356 : RoL 14 24 bq L L11 := (fun k hk => ((axL11 14 k rfl).trans rfl))
  have rw357 : RoL 17 12 bq L L11 := (fun k hk => ((axL11 17 k rfl).trans rfl))
  have rw358 : RoL 20 24 bq L L11 := (fun k hk => ((axL11 20 k rfl).trans rfl))
  have rw359 : RoL 36 20 bq L L11 := (fun k hk => ((axL11 36 k rfl).trans rfl))
  have rw360 : RoL 38 20 bq L L11 := (fun k hk => ((axL11 38 k rfl).trans rfl))
  exact lp28 ((((gn : Int) + 1) + 1 : Int).toNat) ((gn : Int) + 1) V24 L11 H locs ls (show 0 ≤ ((gn : Int) + 1) from by omega) (Or.inl ⟨W0 rl0, gs, (fun k => Rc.rf), rl0, ar0, (by rw [hgs]; exact CNm.z)⟩) (Imp.mk (fun hp => have hp : (V24 0 8).toInt = 0 := hp; (show (gn : Int) - (V24 0 7).toInt < ((gn : Int) + 1) from by omega))) (Imp.mk (fun hp => have hp : (V24 0 8).toInt = 0 := hp; (show (V24 0 48).toInt ≤ 2 * (V24 0 7).toInt from by omega))) (show (V24 0 48).toInt ≤ 8200 from by omega) rw351 rw352 rw353 rw354 rw355 rw356 rw357 rw358 rw359 rw360 (by omega) alL11 agr.rf hMV24 hP hD hS (lv_sub hl [0] rfl)
