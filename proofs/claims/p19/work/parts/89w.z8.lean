section
/-! the reference's book -/
theorem RTE.mv {V V' W : Vf} {M : Lf} (h : RTE V' W M) (e1 : V' 1 = V 1) (e2 : V' 0 2 = V 0 2) : RTE V W M := by
  unfold RTE RTq at h ⊢
  rw [e1, e2] at h
  exact h
/-! the words of the tables are names that were read -/
def PWd (T : Tk) (n : Nat) (w : Int64) : Prop := ∃ i, i < n ∧ T.1 i = 3 ∧ T.2.1 i = w
def wIt (i : It) : Bool := match i.1 with
  | 14 => true
  | 15 => true
  | 17 => true
  | 19 => true
  | 21 => true
  | 22 => true
  | 23 => true
  | 32 => true
  | 33 => true
  | 35 => true
  | 36 => true
  | 37 => true
  | 38 => true
  | 39 => true
  | 40 => true
  | 41 => true
  | _ => false
def IK (T : Tk) (n : Nat) : List It → Prop
  | [] => True
  | i :: k => ((wIt i = true → PWd T n i.2.2.2.2.1) ∧ (i.1 = 0 → i.2.2.1 ≠ 0)) ∧ IK T n k
def GS (T : Tk) (n : Nat) (s : St) : Prop := s.1 0 ≤ n ∧ ∀ j, j < 5 → ∀ w, w ∈ s.2.1 j → PWd T n w
def GP (T : Tk) (n : Nat) : Cf → Prop
  | .inl (s, k) => GS T n s ∧ IK T n k
  | .inr (.inl _) => True
  | .inr (.inr s) => GS T n s
section GPs
variable {T : Tk} {n : Nat} {s : St} {k : List It}
theorem GS.nx (z : T.1 n = 0) (h : GS T n s) (c : T.1 (s.1 0) ≠ 0) : GS T n (nx s 1) := by
  refine ⟨?_, h.2⟩
  show s.1 0 + 1 ≤ n
  rcases Nat.lt_or_eq_of_le h.1 with d | d
  · exact d
  · rw [d] at c
    exact absurd z c
theorem GS.sn {i v : Nat} (h : GS T n s) (hi : i ≠ 0) : GS T n (sN s i v) := by
  refine ⟨?_, h.2⟩
  show upN s.1 i v 0 ≤ n
  rw [upN_o _ _ _ (Ne.symm hi)]
  exact h.1
theorem GS.sa {j : Nat} {w : Int64} (h : GS T n s) (hw : PWd T n w) : GS T n (sA s j w) := by
  refine ⟨h.1, fun i h5 x hx => ?_⟩
  have hx : x ∈ upB s.2.1 j w i := hx
  unfold upB at hx
  split at hx
  · rw [List.mem_append] at hx
    rcases hx with hx | hx
    · exact h.2 i h5 x hx
    · rw [List.mem_singleton.mp hx]
      exact hw
  · exact h.2 i h5 x hx
theorem GS.mv {s' : St} (h : GS T n s) (e0 : s'.1 0 = s.1 0) (e1 : s'.2.1 = s.2.1) : GS T n s' := by
  unfold GS at h ⊢
  rw [e0, e1]
  exact h
theorem GS.ls {s' : St} (h : GS T n s) (e0 : s'.1 0 = s.1 0) (e : ∀ j, j < 5 → s'.2.1 j = s.2.1 j) : GS T n s' := by
  refine ⟨by rw [e0]; exact h.1, fun j h5 w hw => ?_⟩
  rw [e j h5] at hw
  exact h.2 j h5 w hw
theorem GS.em {o : Nat} {x : List Int64} {y : Nat} (h : GS T n s) : GS T n (emL s o x y) := h.ls rfl (fun j hj => emS_5 s o x y j hj)
theorem GS.sl {j : Nat} {x : List Int64} (h : GS T n s) (hj : 5 ≤ j) : GS T n (sLl s j x) := h.ls rfl (fun i hi => sL_o s x (by omega))
theorem GS.wr {m : Nat} {a : Int} {l : List Nat} (h : GS T n s) : GS T n (wrS s m a l) := h.ls rfl (fun i hi => wrS_o s m a l (Or.inl (by omega)))
theorem GS.ty {w : Int64} {l : List Nat} (h : GS T n s) (hw : PWd T n w) : GS T n (tyS s w l) := GS.mv (GS.sa (j := 0) h hw) (upN_o _ _ _ (by omega)) rfl
theorem GS.se {w : Int64} {v : Nat} (h : GS T n s) (hw : PWd T n w) : GS T n (seS s w v) := GS.mv (GS.sa (j := 1) h hw) (upN_o _ _ _ (by omega)) rfl
theorem GS.nm {m : Nat} {sc : Int} {w : Int64} {l : List Nat} (h : GS T n s) (hw : PWd T n w) : GS T n (nmS s m sc w l) := GS.mv (GS.sa (j := 2) h hw) (if_neg (by omega)) rfl
theorem ndf_0 (g : Nat → Nat) (c a f ca : Nat) : ndf g c a f ca 0 = g 0 := by
  unfold ndf
  rw [if_neg (by omega), if_neg (by omega), if_neg (by omega), if_neg (by omega)]
theorem GS.nd {a : Int} {f ca : Nat} (h : GS T n s) : GS T n (ndS s a f ca) := GS.mv h (ndf_0 _ _ _ _ _) rfl
theorem GP.pw (h : GS T n s) (z : T.1 n = 0) (c : T.1 (s.1 0) = 3) : PWd T n (T.2.1 (s.1 0)) := by
  refine ⟨s.1 0, ?_, c, rfl⟩
  rcases Nat.lt_or_eq_of_le h.1 with d | d
  · exact d
  · rw [d, z] at c
    exact absurd c (by decide)
theorem GP.i2 {p : Prop} [Decidable p] {a b : Cf} (ha : p → GP T n a) (hb : ¬ p → GP T n b) : GP T n (if p then a else b) := by
  split
  · exact ha ‹_›
  · exact hb ‹_›
theorem GP.lk {l : List Int64} {f : Nat → Cf} (h : T.1 (s.1 0) = 3 → ∀ x, GP T n (f x)) : GP T n (look T s l f) := by
  unfold look
  refine GP.i2 (fun _ => trivial) (fun c => ?_)
  have c3 : T.1 (s.1 0) = 3 := Decidable.of_not_not c
  split
  · exact trivial
  · exact h c3 _
theorem GP.nw {f : Int64 → Cf} (h : T.1 (s.1 0) = 3 → GP T n (f (T.2.1 (s.1 0)))) : GP T n (newN T s f) := by
  unfold newN
  refine GP.i2 (fun _ => trivial) (fun c => GP.i2 (fun _ => trivial) (fun _ => ?_))
  exact h (Decidable.of_not_not c)
theorem GP.mw {j : Nat} {f : Nat × St → Cf} (z : T.1 n = 0) (hs : GS T n s) (h : ∀ x : Nat × St, GS T n x.2 → GP T n (f x)) : GP T n (mthW T s j f) := by
  unfold mthW
  refine GP.i2 (fun _ => trivial) (fun c => ?_)
  have c3 : T.1 (s.1 0) = 3 := Decidable.of_not_not c
  have g := GS.nx z hs (by rw [c3]; decide)
  unfold nbrW
  split
  · exact h _ g
  · exact GP.i2 (fun _ => trivial) (fun _ => h _ (GS.sa g (GP.pw hs z c3)))
theorem GP.mn {f : Nat × St → Cf} (z : T.1 n = 0) (hs : GS T n s) (h : ∀ x : Nat × St, GS T n x.2 → GP T n (f x)) : GP T n (mthN T s f) := by
  unfold mthN
  exact GP.i2 (fun _ => trivial) (fun _ => GP.mw z hs h)
theorem GP.nu {lo hi : Int} {f : Nat → Cf} (h : T.1 (s.1 0) = 2 → ∀ v, GP T n (f v)) : GP T n (numW T s lo hi f) := by
  unfold numW
  exact GP.i2 (fun _ => trivial) (fun c => GP.i2 (fun _ => trivial) (fun _ => h (Decidable.of_not_not c) _))
theorem IK.c {i : It} (h : (wIt i || (i.1 == 0 && i.2.2.1 == 0)) = false) (hk : IK T n k) : IK T n (i :: k) := by
  rw [Bool.or_eq_false_iff] at h
  refine ⟨⟨fun q => by rw [h.1] at q; exact absurd q Bool.false_ne_true, fun e1 e2 => ?_⟩, hk⟩
  have z := h.2
  rw [e1, e2] at z
  exact absurd z (by decide)
theorem IK.w {i : It} (h : PWd T n i.2.2.2.2.1) (h0 : (i.1 == 0) = false) (hk : IK T n k) : IK T n (i :: k) := ⟨⟨fun _ => h, fun e => by rw [e] at h0; exact absurd h0 (by decide)⟩, hk⟩
theorem GP.it (z : T.1 n = 0) (h : GS T n s) (hk : IK T n k) : (i : It) → ((wIt i = true → PWd T n i.2.2.2.2.1) ∧ (i.1 = 0 → i.2.2.1 ≠ 0)) → GP T n (itW T s k i)
  | (0, _, x, _, _, _), o => GP.i2 (fun c => ⟨GS.nx z h (by rw [c]; exact o.2 rfl), hk⟩) (fun _ => trivial)
  | (1, _, _, _, _, _), _ => ⟨h, (IK.c rfl (IK.c rfl hk))⟩
  | (2, _, _, _, _, _), _ => GP.i2 (fun c => ⟨GS.nx z h (by rcases c with c | c <;> (rw [c]; decide)), (IK.c rfl (IK.c rfl hk))⟩) (fun _ => ⟨h, hk⟩)
  | (3, _, _, _, _, _), _ => ⟨h, (IK.c rfl (IK.c rfl hk))⟩
  | (4, _, _, _, _, _), _ => GP.i2 (fun c => ⟨GS.nx z h (by rcases c with c | c <;> (rw [c]; decide)), (IK.c rfl (IK.c rfl (IK.c rfl hk)))⟩) (fun _ => ⟨h, hk⟩)
  | (5, _, _, _, _, _), _ => ⟨h, (IK.c rfl (IK.c rfl hk))⟩
  | (6, _, _, _, _, _), _ => GP.i2 (fun c => ⟨GS.nx z h (by rw [c]; decide), (IK.c rfl (IK.c rfl (IK.c rfl hk)))⟩) (fun _ => ⟨h, hk⟩)
  | (7, d, _, _, _, _), _ => by
    show GP T n (if ¬ bgP T s then fl T s 1 else if 8 ≤ d then fl T s 5 else partW T s d k)
    refine GP.i2 (fun _ => trivial) (fun c => GP.i2 (fun _ => trivial) (fun _ => ?_))
    have q : bgP T s := Decidable.of_not_not c
    have g : GS T n (bgS s) := GS.em (GS.nx z h (by unfold bgP at q; omega))
    unfold partW
    exact GP.i2 (fun _ => ⟨GS.em (s := bgS s) g, hk⟩) (fun _ => GP.i2 (fun _ => ⟨g, (IK.c rfl hk)⟩) (fun _ => GP.i2 (fun _ => ⟨g, (IK.c rfl (IK.c rfl hk))⟩) (fun _ => GP.i2 (fun _ => ⟨g, (IK.c rfl (IK.c rfl hk))⟩) (fun _ => GP.i2 (fun _ => ⟨g, (IK.c rfl hk)⟩) (fun _ => GP.i2 (fun _ => ⟨g, (IK.c rfl hk)⟩) (fun _ => GP.i2 (fun _ => ⟨g, (IK.c rfl (IK.c rfl (IK.c rfl (IK.c rfl hk))))⟩) (fun _ => GP.i2 (fun _ => ⟨g, (IK.c rfl hk)⟩) (fun _ => ⟨g, (IK.c rfl (IK.c rfl (IK.c rfl (IK.c rfl hk))))⟩))))))))
  | (8, _, _, _, _, _), _ => GP.i2 (fun _ => trivial) (fun c => GP.i2 (fun _ => trivial) (fun _ => ⟨GS.nx z h (by rw [Decidable.of_not_not c]; decide), hk⟩))
  | (9, _, _, _, _, _), _ => GP.lk (fun c _ => ⟨GS.em (GS.nx z h (by rw [c]; decide)), hk⟩)
  | (10, _, _, _, _, _), _ => GP.mw z h (fun _ g => ⟨g, (IK.c rfl (IK.c rfl (IK.c rfl (IK.c rfl hk))))⟩)
  | (11, _, _, _, _, _), _ => GP.mw z h (fun _ g => ⟨g, (IK.c rfl (IK.c rfl (IK.c rfl hk)))⟩)
  | (12, _, _, _, _, _), _ => by
    show GP T n (stmtW T s k)
    unfold stmtW
    exact GP.i2 (fun _ => h) (fun _ => GP.i2 (fun c => GP.i2 (fun _ => trivial) (fun _ => ⟨GS.nx z h (by rw [c]; decide), (IK.c rfl hk)⟩)) (fun _ => GP.i2 (fun c => GP.i2 (fun _ => trivial) (fun _ => ⟨GS.nx z h (by rw [c]; decide), (IK.c rfl hk)⟩)) (fun _ => GP.i2 (fun c => GP.i2 (fun _ => trivial) (fun _ => ⟨GS.nx z h (by rw [c]; decide), (IK.c rfl hk)⟩)) (fun _ => GP.i2 (fun c => GP.i2 (fun _ => trivial) (fun _ => ⟨GS.nx z h (by rw [c]; decide), (IK.c rfl hk)⟩)) (fun _ => trivial)))))
  | (13, _, _, _, _, _), _ => GP.nw (f := fun w => Crun (nx s 1) (Ilike w :: k)) (fun c3 => ⟨GS.nx z h (by rw [c3]; decide), (IK.w (GP.pw h z c3) rfl hk)⟩)
  | (14, _, _, _, _, _), o => GP.lk (fun c _ => GP.i2 (fun _ => trivial) (fun _ => GP.i2 (fun _ => trivial) (fun _ => ⟨GS.nx z h (by rw [c]; decide), (IK.w (o.1 rfl) rfl hk)⟩)))
  | (15, _, _, _, _, _), o => ⟨GS.ty h (o.1 rfl), hk⟩
  | (16, _, _, _, _, _), _ => GP.nw (f := fun w => Crun (nx s 1) (IsetN w :: k)) (fun c3 => ⟨GS.nx z h (by rw [c3]; decide), (IK.w (GP.pw h z c3) rfl hk)⟩)
  | (17, _, _, _, _, _), o => ⟨GS.se h (o.1 rfl), hk⟩
  | (18, _, _, _, _, _), _ => GP.nw (f := fun w => Crun (nx s 1) (Itake 132 :: Itypes 1 w 0 [] :: k)) (fun c3 => ⟨GS.nx z h (by rw [c3]; decide), (IK.c rfl (IK.w (GP.pw h z c3) rfl hk))⟩)
  | (19, _, _, _, w, _), o => GP.i2 (fun _ => trivial) (fun c => ⟨(GS.sn (GS.sn (GS.sn (GS.sn (GS.nx z h (by omega)) (by decide)) (by decide)) (by decide)) (by decide) : GS T n (sN (sN (sN (sN (nx s 1) 1 0) 2 0) 3 0) 4 0)), (IK.w (o.1 rfl) rfl hk)⟩)
  | (20, _, _, _, _, _), _ => GP.i2 (fun c => ⟨GS.nx z h (by rw [c]; decide), (IK.c rfl hk)⟩) (fun _ => ⟨h, (IK.c rfl (IK.c rfl (IK.c rfl hk)))⟩)
  | (21, _, _, _, _, _), o => GP.i2 (fun c => ⟨GS.nx z h (by rw [c]; decide), (IK.w (o.1 rfl) rfl hk)⟩) (fun _ => ⟨h, (IK.w (o.1 rfl) rfl hk)⟩)
  | (22, _, _, _, _, _), o => GP.i2 (fun c => ⟨GS.nx z h (by rw [c]; decide), (IK.w (o.1 rfl) rfl hk)⟩) (fun _ => ⟨h, (IK.c rfl (IK.w (o.1 rfl) rfl (IK.c rfl hk)))⟩)
  | (23, _, _, _, _, _), o => ⟨GS.nm h (o.1 rfl), hk⟩
  | (24, _, _, _, _, _), _ => by
    show GP T n (memberW T s k)
    unfold memberW
    exact GP.i2 (fun c => ⟨GS.nx z h (by rw [c]; decide), (IK.c rfl hk)⟩) (fun _ => GP.i2 (fun c => GP.i2 (fun _ => trivial) (fun _ => ⟨GS.nx z h (by rw [c]; decide), (IK.c rfl hk)⟩)) (fun _ => GP.i2 (fun c => GP.i2 (fun _ => trivial) (fun _ => ⟨GS.sl (GS.nx z (GS.sn h (by decide)) (by show T.1 (s.1 0) ≠ 0; rw [c]; decide)) (by omega), (IK.c rfl (IK.c rfl (IK.c rfl (IK.c rfl hk))))⟩)) (fun _ => GP.i2 (fun c => GP.i2 (fun _ => trivial) (fun _ => ⟨GS.sl (GS.nx z (GS.sn h (by decide)) (by show T.1 (s.1 0) ≠ 0; rw [c]; decide)) (by omega), (IK.c rfl (IK.c rfl (IK.c rfl (IK.c rfl hk))))⟩)) (fun _ => GP.i2 (fun c => ⟨GS.nx z h (by rw [c]; decide), (IK.c rfl (IK.c rfl (IK.c rfl (IK.c rfl (IK.c rfl hk)))))⟩) (fun _ => trivial)))))
  | (25, _, _, _, _, _), _ => GP.lk (fun c _ => GP.i2 (fun _ => ⟨GS.nx z h (by rw [c]; decide), (IK.c rfl (IK.c rfl (IK.c rfl hk)))⟩) (fun _ => ⟨GS.nx z h (by rw [c]; decide), (IK.c rfl hk)⟩))
  | (26, _, _, _, _, _), _ => ⟨GS.nd h, hk⟩
  | (27, _, _, _, _, _), _ => GP.mn z h (fun x g => ⟨GS.sl (s := sT x.2 (x.1 :: s.2.2.2)) g (by omega), hk⟩)
  | (28, _, _, _, _, _), _ => GP.lk (fun c _ => ⟨GS.nx z h (by rw [c]; decide), (IK.c rfl (IK.c rfl hk))⟩)
  | (29, _, _, _, _, _), _ => GP.mw z h (fun _ g => ⟨g, (IK.c rfl hk)⟩)
  | (30, _, _, _, _, _), _ => GP.i2 (fun _ => trivial) (fun c => GP.i2 (fun _ => trivial) (fun _ => ⟨GS.sn (GS.nx z h (by omega)) (by decide), (IK.c rfl (IK.c rfl (IK.c rfl (IK.c rfl (IK.c rfl hk)))))⟩))
  | (31, _, _, _, _, _), _ => ⟨GS.wr h, hk⟩
  | (32, _, _, _, _, _), o => GP.i2 (fun c => ⟨GS.nx z h (by rw [c]; decide), (IK.w (o.1 rfl) rfl hk)⟩) (fun _ => ⟨h, (IK.c rfl (IK.w (o.1 rfl) rfl (IK.c rfl hk)))⟩)
  | (33, _, _, _, _, _), o => GP.i2 (fun c => ⟨GS.nx z h (by rw [c]; decide), (IK.w (o.1 rfl) rfl hk)⟩) (fun _ => ⟨h, (IK.w (o.1 rfl) rfl hk)⟩)
  | (34, _, _, _, _, _), _ => GP.i2 (fun c => ⟨GS.nx z h (by rw [c]; decide), (IK.c rfl hk)⟩) (fun _ => GP.i2 (fun c => ⟨GS.nx z h (by rw [c]; decide), (IK.c rfl hk)⟩) (fun _ => ⟨h, (IK.c rfl hk)⟩))
  | (35, _, _, _, _, _), o => GP.i2 (fun _ => ⟨h, (IK.c rfl (IK.w (o.1 rfl) rfl (IK.c rfl hk)))⟩) (fun _ => ⟨h, (IK.w (o.1 rfl) rfl hk)⟩)
  | (36, _, _, _, w, _), o => GP.nu (T := T) (s := s) (lo := 0) (hi := 999999999) (f := fun v => Crun (nx s 1) (Itake 59 :: IaddSe w v :: Istmt :: k)) (fun c _ => ⟨GS.nx z h (by rw [c]; decide), (IK.c rfl (IK.w (o.1 rfl) rfl (IK.c rfl hk)))⟩)
  | (37, _, _, _, _, _), o => GP.i2 (fun c => ⟨GS.nx z h (by rw [c]; decide), (IK.w (o.1 rfl) rfl hk)⟩) (fun _ => ⟨h, (IK.w (o.1 rfl) rfl hk)⟩)
  | (38, _, _, _, _, _), o => GP.mw z h (fun _ g => ⟨g, (IK.w (o.1 rfl) rfl hk)⟩)
  | (39, m, sc, _, w, l), o => GP.nu (T := T) (s := s) (lo := 0) (hi := 9) (f := fun v => Crun (nx s 1) (IwhenI m sc w (v :: l) :: k)) (fun c _ => ⟨GS.nx z h (by rw [c]; decide), (IK.w (o.1 rfl) rfl hk)⟩)
  | (40, _, _, _, _, _), o => GP.lk (fun c _ => ⟨GS.nx z h (by rw [c]; decide), (IK.w (o.1 rfl) rfl hk)⟩)
  | (41, m, sc, _, w, l), o => GP.nu (T := T) (s := s) (lo := 0) (hi := 999999999) (f := fun v => Crun (nx s 1) (Itake 123 :: IaddNm m sc w (v :: l) :: Imember :: k)) (fun c _ => ⟨GS.nx z h (by rw [c]; decide), (IK.c rfl (IK.w (o.1 rfl) rfl (IK.c rfl hk)))⟩)
  | (42, _, _, _, _, _), _ => ⟨GS.em h, hk⟩
  | (43, _, _, _, _, _), _ => ⟨GS.em h, (IK.c rfl (IK.c rfl (IK.c rfl hk)))⟩
  | (44, _, _, _, _, _), _ => ⟨GS.sl (s := emS s 13 0 0) (GS.em h) (by omega), (IK.c rfl (IK.c rfl (IK.c rfl hk)))⟩
  | (45, _, _, _, _, _), _ => ⟨GS.sl h (by omega), hk⟩
  | (46, d, _, _, _, _), _ => GP.nu (T := T) (s := s) (lo := 0) (hi := ((s.1 1 : Nat) : Int) - 1) (f := fun v => Crun (nx s 1) (Itake 46 :: IofM d v :: k)) (fun c _ => ⟨GS.nx z h (by rw [c]; decide), (IK.c rfl (IK.c rfl hk))⟩)
  | (47, _, _, _, _, _), _ => ⟨GS.em h, hk⟩
  | (48, _, _, _, _, _), _ => GP.nu (T := T) (s := s) (lo := 1) (hi := 9) (f := fun v => Crun (emS (nx s 1) 10 v 0) k) (fun c _ => ⟨GS.em (GS.nx z h (by rw [c]; decide)), hk⟩)
  | (49, f, _, _, _, l), _ => GP.nu (T := T) (s := s) (lo := 0) (hi := 99) (f := fun v => Crun (nx s 1) (Iphase (l.headD 0) [f, v] :: k)) (fun c _ => ⟨GS.nx z h (by rw [c]; decide), (IK.c rfl hk)⟩)
  | (_ + 50, _, _, _, _, _), _ => ⟨h, hk⟩
theorem GP.st (z : T.1 n = 0) {c : Cf} (h : GP T n c) : GP T n (mst T c) := by
  cases c with
  | inr c => exact h
  | inl c =>
    obtain ⟨s, k⟩ := c
    cases k with
    | nil => exact h
    | cons i k => exact GP.it (s := s) z h.1 h.2.2 i h.2.1
theorem GP.run (z : T.1 n = 0) (m : Nat) : ∀ {c : Cf}, GP T n c → GP T n (mrun T m c) := by
  induction m with
  | zero => exact fun h => h
  | succ m ih => exact fun h => ih (GP.st z h)
end GPs
/-- the words of a BOOK that was read: names -/
theorem Rc.pw {T : Tk} {n : Nat} {s' : St} (z : T.1 n = 0) (h : Rc T (Crun St0 [Istmt]) (Cdone s')) : ∀ j, j < 5 → ∀ w, w ∈ s'.2.1 j → PWd T n w := by
  obtain ⟨m, e⟩ := h
  have g : GP T n (mrun T m (Crun St0 [Istmt])) := GP.run z m ⟨⟨Nat.zero_le _, fun j _ w hw => absurd hw (List.not_mem_nil)⟩, IK.c rfl trivial⟩
  rw [e] at g
  exact g.2
/-- the words of the BOOK are no keywords -/
theorem PWd.nk {V : Vf} {L : Lf} {T : Tk} {n : Nat} {w : Int64} (h : PWd T n w) (t : TkM V L T n) (k : Nat) (hk : k < 28) : w ≠ kg 155 k := by
  obtain ⟨i, hi, c, e⟩ := h
  have y := (t.2.1 i hi).1
  have z := y.nm.mpr c
  rw [← e, y.vl (Or.inr c)]
  exact z.2 k hk
def NKs (s : St) : Prop := ∀ j, j < 5 → ∀ w, w ∈ s.2.1 j → ∀ k : Nat, k < 28 → w ≠ kg 155 k


abbrev r_s_book3 : Room := { frames := 97, cells := 0, slots := 0, locals := 2910 }
abbrev q_s_book3 (D : va_G) (ks : KS) (ad : Nat → Nat) (kk : Nat → ClassId) (V : Vf) (L : Lf) (bq : Nat) (gn : Nat) (gT : Tk) (A : Nat → Prop) : Array Value → State → Outcome → State → Prop := va_Qi (fun (r : Int32) (u : Vf × Lf) => rgd bM u.1 ∧ agr [(0, 0), (0, 2), (0, 3), (0, 7), (0, 8), (0, 11), (0, 12), (0, 48), (0, 49), (0, 50), (0, 51), (0, 52), (0, 54), (0, 55), (0, 60), (0, 65), (0, 69), (0, 70), (0, 71), (0, 72), (0, 73), (0, 76), (0, 81)] [4, 5, 6, 13, 14, 15, 16, 17, 18, 19, 20, 21, 22, 23, 24, 25, 26, 27, 28, 29, 30, 31, 32, 33, 34, 35, 36, 37, 38, 39, 40, 41, 42, 43, 44, 45, 46, 47, 53, 56, 57, 59] V u.1 ∧ agL [4, 5, 6, 13, 14, 15, 16, 17, 18, 19, 20, 21, 22, 23, 24, 25, 26, 27, 28, 29, 30, 31, 32, 33, 34, 35, 36, 37, 38, 39, 40, 41, 42, 43, 44, 45, 46, 47, 53, 56, 57, 59] L u.2 ∧ (0 ≤ r.toInt ∧ r.toInt ≤ 70000) ∧ (BRES gT r.toInt (fun _ => True)) ∧ (Imp (r.toInt = 0) (∃ s9 : St, Rc gT (Crun St0 [Istmt]) (Cdone s9) ∧ TBm u.1 u.2 bq s9 (s9.2.1 2) ∧ NKs s9 ∧ CNm u.1 bq s9 ∧ CEm u.1 bq s9 ∧ WRm u.1 bq s9 ∧ ARm s9)) ∧ (RoV 13 bq V u.1) ∧ (RoV 16 bq V u.1) ∧ (RoV 19 bq V u.1) ∧ (RoV 35 bq V u.1) ∧ (RoV 37 bq V u.1) ∧ (RoL 14 24 bq L u.2) ∧ (RoL 17 12 bq L u.2) ∧ (RoL 20 24 bq L u.2) ∧ (RoL 36 20 bq L u.2) ∧ (RoL 38 20 bq L u.2)) (fun u t => gq D A (mw ad kk ks.1 u.1 u.2) (mty kk) t) A
set_option maxHeartbeats 4000000 in
set_option maxRecDepth 100000 in
theorem s_book3 (l : Launch) (D : va_G) (ks : KS) (sz : Nat) (ad : Nat → Nat) (kk : Nat → ClassId) (V : Vf) (L : Lf) (bq : Nat) (gn : Nat) (gT : Tk) (hMV : rgd bM V) (zq1 : (bq : Int) = 1 - (V 0 11).toInt) (bq2 : bq < 2) (hT : ∀ (W9 : Vf) (M9 : Lf), RTE V W9 M9 → (∀ k : Nat, k < 28 → M9 10 k = L 10 k) → TkM W9 M9 gT gn)  : Met l yX12_book (Cond.code yX12_book cX12_book 1 (some .int) :: GW) r_s_book3 (va_Pc [.ref (ad 0)] (gp D ks (mw ad kk ks.1 V L) (mty kk) sz)) (q_s_book3 D ks ad kk V L  bq gn gT (va_A (mw ad kk ks.1 V L) sz)) 0 0 (va_A (mw ad kk ks.1 V L) sz) := by
  refine g_met (q_s_book3 D ks ad kk V L  bq gn gT) (by decide) (Nat.le_of_ble_eq_true rfl) ?_
  intro p e s m below meth c A ls H locs hx hb hr hml hown hg hlocks hin hnw hgk hP hK hD hS hA hl
  replace hown : s.vm.findClass RX12 = some m.cls := hown
  replace hl : lv_has ls 1 [(0, .ref (ad 0))] := hl
  replace hP : va_P D vwCl (mw ad kk ks.1 V L) H := hP
  replace hD : va_D A (mw ad kk ks.1 V L) := hD
  replace hK : va_K D vwCl (mty kk) s := hK
  have agV : agr [(0, 0), (0, 2), (0, 3), (0, 7), (0, 8), (0, 11), (0, 12), (0, 48), (0, 49), (0, 50), (0, 51), (0, 52), (0, 54), (0, 55), (0, 60), (0, 65), (0, 69), (0, 70), (0, 71), (0, 72), (0, 73), (0, 76), (0, 81)] [4, 5, 6, 13, 14, 15, 16, 17, 18, 19, 20, 21, 22, 23, 24, 25, 26, 27, 28, 29, 30, 31, 32, 33, 34, 35, 36, 37, 38, 39, 40, 41, 42, 43, 44, 45, 46, 47, 53, 56, 57, 59] V V := agr.rf
  have alL : agL [4, 5, 6, 13, 14, 15, 16, 17, 18, 19, 20, 21, 22, 23, 24, 25, 26, 27, 28, 29, 30, 31, 32, 33, 34, 35, 36, 37, 38, 39, 40, 41, 42, 43, 44, 45, 46, 47, 53, 56, 57, 59] L L := agL.rf
  have r1 : 0 ≤ ((V 0 11)).toInt ∧ ((V 0 11)).toInt ≤ 1 := hMV 0 11
  refine lv_aload_n hx hb dX12_book_0 rfl (lv_at hl 0 rfl) ?_
  refine lv_iconst (v := 0) hx hb dX12_book_1 (by decide) ?_
  refine va_put (D := D) (ci := 12) (v := .int 0) (ty := tyX12 0) (C := RX12) (T := TX12) (N := 100) hx hb hg inX12 tyX12 tyX12_ok nmX12 hown hK hP hD hS 0 rfl rfl 0 (by decide) (hg _ w1706) (fun _ h9 => h9) rfl (tyX12_ok 0 (by decide)) rfl rfl (Nat.le_of_ble_eq_true rfl) dX12_book_2 (fun H locs hP hD hS => ?_)
  obtain ⟨V2, hV2⟩ : ∃ z, z = up2 V 0 0 0 := ⟨_, rfl⟩
  have hP : va_P D vwCl (mw ad kk ks.1 V2 L) H := by rw [hV2]; exact hP
  have hD : va_D A (mw ad kk ks.1 V2 L) := by rw [hV2]; exact hD
  have hMV2 : rgd bM V2 := hMV.put hV2 (i_full _)
  have agV2 : agr [(0, 0), (0, 2), (0, 3), (0, 7), (0, 8), (0, 11), (0, 12), (0, 48), (0, 49), (0, 50), (0, 51), (0, 52), (0, 54), (0, 55), (0, 60), (0, 65), (0, 69), (0, 70), (0, 71), (0, 72), (0, 73), (0, 76), (0, 81)] [4, 5, 6, 13, 14, 15, 16, 17, 18, 19, 20, 21, 22, 23, 24, 25, 26, 27, 28, 29, 30, 31, 32, 33, 34, 35, 36, 37, 38, 39, 40, 41, 42, 43, 44, 45, 46, 47, 53, 56, 57, 59] V V2 := agV.up hV2 rfl
  refine lv_aload_n hx hb dX12_book_5 rfl (lv_at hl 0 rfl) ?_
  refine gA_void (gA_runV (As := []) (rest := []) (ci := 12) (q0 := 0) hx hb hml hown hg hP hD hK hS hA hnw hgk (s_cutAll2 l D ks H.size ad kk V2 L  hMV2 ) w2011 w2013 w82 w172 w2014 rfl rfl hdV_yX12_cutAll ⟨Nat.le_of_ble_eq_true rfl, Nat.le_of_ble_eq_true rfl⟩ rfl hl.1 rfl (Nat.le_of_ble_eq_true rfl) dX12_book_6 ⟨Nat.le_of_ble_eq_true rfl, Nat.le_of_ble_eq_true rfl⟩) hP hD hK hS hA (fun u4 H locs w5 hP hD hK hS => ?_)
  obtain ⟨V10, L11⟩ := u4
  obtain ⟨hMV10, ajV10, axL11, t6, t7, t8, t9⟩ := w5
  have alL11 : agL [4, 5, 6, 13, 14, 15, 16, 17, 18, 19, 20, 21, 22, 23, 24, 25, 26, 27, 28, 29, 30, 31, 32, 33, 34, 35, 36, 37, 38, 39, 40, 41, 42, 43, 44, 45, 46, 47, 53, 56, 57, 59] L L11 := agL.tr alL axL11 (by decide)
  replace hP : va_P D vwCl (mw ad kk ks.1 V10 L11) H := hP
  replace hD : va_D A (mw ad kk ks.1 V10 L11) := hD
  replace hMV10 : rgd bM V10 := hMV10
  replace ajV10 : agr [(0, 2), (0, 3), (0, 7), (0, 8)] [4, 5, 6] V2 V10 := ajV10
  have agV10 : agr [(0, 0), (0, 2), (0, 3), (0, 7), (0, 8), (0, 11), (0, 12), (0, 48), (0, 49), (0, 50), (0, 51), (0, 52), (0, 54), (0, 55), (0, 60), (0, 65), (0, 69), (0, 70), (0, 71), (0, 72), (0, 73), (0, 76), (0, 81)] [4, 5, 6, 13, 14, 15, 16, 17, 18, 19, 20, 21, 22, 23, 24, 25, 26, 27, 28, 29, 30, 31, 32, 33, 34, 35, 36, 37, 38, 39, 40, 41, 42, 43, 44, 45, 46, 47, 53, 56, 57, 59] V V10 := agV2.tr ajV10 (by decide) (by decide)
  replace t6 : (V10 0 8).toInt = 0 := t6
  replace t7 : (V10 0 7).toInt = 0 := t7
  replace t8 : (V10 0 2).toInt = 0 := t8
  replace t9 : RTE V2 V10 L11 := t9
  have r12 : 0 ≤ ((V10 0 8)).toInt ∧ ((V10 0 8)).toInt ≤ 70000 := hMV10 0 8
  have r13 : 0 ≤ ((V10 0 2)).toInt ∧ ((V10 0 2)).toInt ≤ 4000 := hMV10 0 2
  obtain ⟨gs, hgs⟩ : ∃ q9, q9 = St0 := ⟨_, rfl⟩
  have tk0 : TkM V10 L11 gT gn := hT _ _ (RTE.mv t9 (by rw [(up2_fo hV2 (by decide) : V2 1 = V 1)] : V2 1 = V 1) (show V2 0 2 = V 0 2 from (up2_k hV2 (by decide)))) (fun k hk => alL11 10 k rfl)
  refine lv_aload_n hx hb dX12_book_9 rfl (lv_at hl 0 rfl) ?_
  refine lv_iconst (v := 1) hx hb dX12_book_10 (by decide) ?_
  refine lv_aload_n hx hb dX12_book_11 rfl (lv_at hl 0 rfl) ?_
  refine va_get (D := D) (ci := 12) (v := .int (V10 0 11)) (C := RX12) (T := TX12) (N := 100) hx hb hg inX12 hown hK hP 0 rfl rfl 11 (by decide) (hg _ w1717) (fun _ h9 => h9) rfl dX12_book_12 ?_
  refine g_top (v := (V 0 11)) ((ajV10 0 11 rfl).trans (up2_k hV2 (by decide))) ?_
  refine lv_isub hx hb dX12_book_15 ?_
  refine lv_topi (fun z14 ez14 => ?_)
  have hz14 : z14.toInt = 1 - ((V 0 11)).toInt := i_sub ez14 (by decide) rfl (by (first | exact om_449de4392916 zq1 bq2 | omega))
  refine va_put (D := D) (ci := 12) (v := .int z14) (ty := tyX12 12) (C := RX12) (T := TX12) (N := 100) hx hb hg inX12 tyX12 tyX12_ok nmX12 hown hK hP hD hS 0 rfl rfl 12 (by decide) (hg _ w1718) (fun _ h9 => h9) rfl (tyX12_ok 12 (by decide)) rfl rfl (Nat.le_of_ble_eq_true rfl) dX12_book_16 (fun H locs hP hD hS => ?_)
  obtain ⟨V15, hV15⟩ : ∃ z, z = up2 V10 0 12 z14 := ⟨_, rfl⟩
  have hP : va_P D vwCl (mw ad kk ks.1 V15 L11) H := by rw [hV15]; exact hP
  have hD : va_D A (mw ad kk ks.1 V15 L11) := by rw [hV15]; exact hD
  have hMV15 : rgd bM V15 := hMV10.put hV15 (show 0 ≤ z14.toInt ∧ z14.toInt ≤ 1 from by (first | exact om_a13710c2be73 zq1 bq2 hz14 | omega))
  have agV15 : agr [(0, 0), (0, 2), (0, 3), (0, 7), (0, 8), (0, 11), (0, 12), (0, 48), (0, 49), (0, 50), (0, 51), (0, 52), (0, 54), (0, 55), (0, 60), (0, 65), (0, 69), (0, 70), (0, 71), (0, 72), (0, 73), (0, 76), (0, 81)] [4, 5, 6, 13, 14, 15, 16, 17, 18, 19, 20, 21, 22, 23, 24, 25, 26, 27, 28, 29, 30, 31, 32, 33, 34, 35, 36, 37, 38, 39, 40, 41, 42, 43, 44, 45, 46, 47, 53, 56, 57, 59] V V15 := agV10.up hV15 rfl
  refine lv_aload_n hx hb dX12_book_19 rfl (lv_at hl 0 rfl) ?_
  refine va_get (D := D) (ci := 12) (v := .ref (ad 13)) (C := RX12) (T := TX12) (N := 100) hx hb hg inX12 hown hK hP 0 rfl rfl 13 (by decide) (hg _ w1719) (fun _ h9 => h9) rfl dX12_book_20 ?_
  refine lv_aload_n hx hb dX12_book_23 rfl (lv_at hl 0 rfl) ?_
  refine va_get (D := D) (ci := 12) (v := .int (V15 0 12)) (C := RX12) (T := TX12) (N := 100) hx hb hg inX12 hown hK hP 0 rfl rfl 12 (by decide) (hg _ w1718) (fun _ h9 => h9) rfl dX12_book_24 ?_
  refine g_top (v := z14) (up2_s hV15) ?_
  refine lv_iconst (v := 0) hx hb dX12_book_27 (by decide) ?_
  refine va_iast (D := D) (i := z14) (x := 0) hx hb hK hP hD hS 6 5 rfl rfl (i_in (a := z14.toInt) rfl (by (first | exact om_a85bf8c825c7 zq1 bq2 hz14 | omega))) dX12_book_28 (fun H locs hP hD hS => ?_)
  obtain ⟨V16, hV16⟩ : ∃ z, z = up2 V15 13 (Int32.toNatClampNeg z14) 0 := ⟨_, rfl⟩
  have hP : va_P D vwCl (mw ad kk ks.1 V16 L11) H := by rw [hV16]; exact hP
  have hD : va_D A (mw ad kk ks.1 V16 L11) := by rw [hV16]; exact hD
  have hMV16 : rgd bM V16 := hMV15.put hV16 (show 0 ≤ Int32.toInt 0 ∧ Int32.toInt 0 ≤ 24 from by decide)
  have agV16 : agr [(0, 0), (0, 2), (0, 3), (0, 7), (0, 8), (0, 11), (0, 12), (0, 48), (0, 49), (0, 50), (0, 51), (0, 52), (0, 54), (0, 55), (0, 60), (0, 65), (0, 69), (0, 70), (0, 71), (0, 72), (0, 73), (0, 76), (0, 81)] [4, 5, 6, 13, 14, 15, 16, 17, 18, 19, 20, 21, 22, 23, 24, 25, 26, 27, 28, 29, 30, 31, 32, 33, 34, 35, 36, 37, 38, 39, 40, 41, 42, 43, 44, 45, 46, 47, 53, 56, 57, 59] V V16 := agV15.up hV16 rfl
  refine lv_aload_n hx hb dX12_book_29 rfl (lv_at hl 0 rfl) ?_
  refine va_get (D := D) (ci := 12) (v := .ref (ad 16)) (C := RX12) (T := TX12) (N := 100) hx hb hg inX12 hown hK hP 0 rfl rfl 16 (by decide) (hg _ w1722) (fun _ h9 => h9) rfl dX12_book_30 ?_
  refine lv_aload_n hx hb dX12_book_33 rfl (lv_at hl 0 rfl) ?_
  refine va_get (D := D) (ci := 12) (v := .int (V16 0 12)) (C := RX12) (T := TX12) (N := 100) hx hb hg inX12 hown hK hP 0 rfl rfl 12 (by decide) (hg _ w1718) (fun _ h9 => h9) rfl dX12_book_34 ?_
  refine g_top (v := z14) ((up2_o hV16 (by decide)).trans (up2_s hV15)) ?_
  refine lv_iconst (v := 0) hx hb dX12_book_37 (by decide) ?_
  refine va_iast (D := D) (i := z14) (x := 0) hx hb hK hP hD hS 9 8 rfl rfl (i_in (a := z14.toInt) rfl (by (first | exact om_a85bf8c825c7 zq1 bq2 hz14 | omega))) dX12_book_38 (fun H locs hP hD hS => ?_)
  obtain ⟨V17, hV17⟩ : ∃ z, z = up2 V16 16 (Int32.toNatClampNeg z14) 0 := ⟨_, rfl⟩
  have hP : va_P D vwCl (mw ad kk ks.1 V17 L11) H := by rw [hV17]; exact hP
  have hD : va_D A (mw ad kk ks.1 V17 L11) := by rw [hV17]; exact hD
  have hMV17 : rgd bM V17 := hMV16.put hV17 (show 0 ≤ Int32.toInt 0 ∧ Int32.toInt 0 ≤ 12 from by decide)
  have agV17 : agr [(0, 0), (0, 2), (0, 3), (0, 7), (0, 8), (0, 11), (0, 12), (0, 48), (0, 49), (0, 50), (0, 51), (0, 52), (0, 54), (0, 55), (0, 60), (0, 65), (0, 69), (0, 70), (0, 71), (0, 72), (0, 73), (0, 76), (0, 81)] [4, 5, 6, 13, 14, 15, 16, 17, 18, 19, 20, 21, 22, 23, 24, 25, 26, 27, 28, 29, 30, 31, 32, 33, 34, 35, 36, 37, 38, 39, 40, 41, 42, 43, 44, 45, 46, 47, 53, 56, 57, 59] V V17 := agV16.up hV17 rfl
  refine lv_aload_n hx hb dX12_book_39 rfl (lv_at hl 0 rfl) ?_
  refine va_get (D := D) (ci := 12) (v := .ref (ad 19)) (C := RX12) (T := TX12) (N := 100) hx hb hg inX12 hown hK hP 0 rfl rfl 19 (by decide) (hg _ w1725) (fun _ h9 => h9) rfl dX12_book_40 ?_
  refine lv_aload_n hx hb dX12_book_43 rfl (lv_at hl 0 rfl) ?_
  refine va_get (D := D) (ci := 12) (v := .int (V17 0 12)) (C := RX12) (T := TX12) (N := 100) hx hb hg inX12 hown hK hP 0 rfl rfl 12 (by decide) (hg _ w1718) (fun _ h9 => h9) rfl dX12_book_44 ?_
  refine g_top (v := z14) ((up2_o hV17 (by decide)).trans ((up2_o hV16 (by decide)).trans (up2_s hV15))) ?_
  refine lv_iconst (v := 0) hx hb dX12_book_47 (by decide) ?_
  refine va_iast (D := D) (i := z14) (x := 0) hx hb hK hP hD hS 12 11 rfl rfl (i_in (a := z14.toInt) rfl (by (first | exact om_a85bf8c825c7 zq1 bq2 hz14 | omega))) dX12_book_48 (fun H locs hP hD hS => ?_)
  obtain ⟨V18, hV18⟩ : ∃ z, z = up2 V17 19 (Int32.toNatClampNeg z14) 0 := ⟨_, rfl⟩
  have hP : va_P D vwCl (mw ad kk ks.1 V18 L11) H := by rw [hV18]; exact hP
  have hD : va_D A (mw ad kk ks.1 V18 L11) := by rw [hV18]; exact hD
  have hMV18 : rgd bM V18 := hMV17.put hV18 (show 0 ≤ Int32.toInt 0 ∧ Int32.toInt 0 ≤ 24 from by decide)
  have agV18 : agr [(0, 0), (0, 2), (0, 3), (0, 7), (0, 8), (0, 11), (0, 12), (0, 48), (0, 49), (0, 50), (0, 51), (0, 52), (0, 54), (0, 55), (0, 60), (0, 65), (0, 69), (0, 70), (0, 71), (0, 72), (0, 73), (0, 76), (0, 81)] [4, 5, 6, 13, 14, 15, 16, 17, 18, 19, 20, 21, 22, 23, 24, 25, 26, 27, 28, 29, 30, 31, 32, 33, 34, 35, 36, 37, 38, 39, 40, 41, 42, 43, 44, 45, 46, 47, 53, 56, 57, 59] V V18 := agV17.up hV18 rfl
  refine lv_aload_n hx hb dX12_book_49 rfl (lv_at hl 0 rfl) ?_
  refine va_get (D := D) (ci := 12) (v := .ref (ad 35)) (C := RX12) (T := TX12) (N := 100) hx hb hg inX12 hown hK hP 0 rfl rfl 35 (by decide) (hg _ w1741) (fun _ h9 => h9) rfl dX12_book_50 ?_
  refine lv_aload_n hx hb dX12_book_53 rfl (lv_at hl 0 rfl) ?_
  refine va_get (D := D) (ci := 12) (v := .int (V18 0 12)) (C := RX12) (T := TX12) (N := 100) hx hb hg inX12 hown hK hP 0 rfl rfl 12 (by decide) (hg _ w1718) (fun _ h9 => h9) rfl dX12_book_54 ?_
  refine g_top (v := z14) ((up2_o hV18 (by decide)).trans ((up2_o hV17 (by decide)).trans ((up2_o hV16 (by decide)).trans (up2_s hV15)))) ?_
  refine lv_iconst (v := 0) hx hb dX12_book_57 (by decide) ?_
  refine va_iast (D := D) (i := z14) (x := 0) hx hb hK hP hD hS 28 27 rfl rfl (i_in (a := z14.toInt) rfl (by (first | exact om_a85bf8c825c7 zq1 bq2 hz14 | omega))) dX12_book_58 (fun H locs hP hD hS => ?_)
  obtain ⟨V19, hV19⟩ : ∃ z, z = up2 V18 35 (Int32.toNatClampNeg z14) 0 := ⟨_, rfl⟩
  have hP : va_P D vwCl (mw ad kk ks.1 V19 L11) H := by rw [hV19]; exact hP
  have hD : va_D A (mw ad kk ks.1 V19 L11) := by rw [hV19]; exact hD
  have hMV19 : rgd bM V19 := hMV18.put hV19 (show 0 ≤ Int32.toInt 0 ∧ Int32.toInt 0 ≤ 20 from by decide)
  have agV19 : agr [(0, 0), (0, 2), (0, 3), (0, 7), (0, 8), (0, 11), (0, 12), (0, 48), (0, 49), (0, 50), (0, 51), (0, 52), (0, 54), (0, 55), (0, 60), (0, 65), (0, 69), (0, 70), (0, 71), (0, 72), (0, 73), (0, 76), (0, 81)] [4, 5, 6, 13, 14, 15, 16, 17, 18, 19, 20, 21, 22, 23, 24, 25, 26, 27, 28, 29, 30, 31, 32, 33, 34, 35, 36, 37, 38, 39, 40, 41, 42, 43, 44, 45, 46, 47, 53, 56, 57, 59] V V19 := agV18.up hV19 rfl
  refine lv_aload_n hx hb dX12_book_59 rfl (lv_at hl 0 rfl) ?_
  refine va_get (D := D) (ci := 12) (v := .ref (ad 37)) (C := RX12) (T := TX12) (N := 100) hx hb hg inX12 hown hK hP 0 rfl rfl 37 (by decide) (hg _ w1743) (fun _ h9 => h9) rfl dX12_book_60 ?_
  refine lv_aload_n hx hb dX12_book_63 rfl (lv_at hl 0 rfl) ?_
  refine va_get (D := D) (ci := 12) (v := .int (V19 0 12)) (C := RX12) (T := TX12) (N := 100) hx hb hg inX12 hown hK hP 0 rfl rfl 12 (by decide) (hg _ w1718) (fun _ h9 => h9) rfl dX12_book_64 ?_
  refine g_top (v := z14) ((up2_o hV19 (by decide)).trans ((up2_o hV18 (by decide)).trans ((up2_o hV17 (by decide)).trans ((up2_o hV16 (by decide)).trans (up2_s hV15))))) ?_
  refine lv_iconst (v := 0) hx hb dX12_book_67 (by decide) ?_
  refine va_iast (D := D) (i := z14) (x := 0) hx hb hK hP hD hS 30 29 rfl rfl (i_in (a := z14.toInt) rfl (by (first | exact om_a85bf8c825c7 zq1 bq2 hz14 | omega))) dX12_book_68 (fun H locs hP hD hS => ?_)
  obtain ⟨V20, hV20⟩ : ∃ z, z = up2 V19 37 (Int32.toNatClampNeg z14) 0 := ⟨_, rfl⟩
  have hP : va_P D vwCl (mw ad kk ks.1 V20 L11) H := by rw [hV20]; exact hP
  have hD : va_D A (mw ad kk ks.1 V20 L11) := by rw [hV20]; exact hD
  have hMV20 : rgd bM V20 := hMV19.put hV20 (show 0 ≤ Int32.toInt 0 ∧ Int32.toInt 0 ≤ 20 from by decide)
  have agV20 : agr [(0, 0), (0, 2), (0, 3), (0, 7), (0, 8), (0, 11), (0, 12), (0, 48), (0, 49), (0, 50), (0, 51), (0, 52), (0, 54), (0, 55), (0, 60), (0, 65), (0, 69), (0, 70), (0, 71), (0, 72), (0, 73), (0, 76), (0, 81)] [4, 5, 6, 13, 14, 15, 16, 17, 18, 19, 20, 21, 22, 23, 24, 25, 26, 27, 28, 29, 30, 31, 32, 33, 34, 35, 36, 37, 38, 39, 40, 41, 42, 43, 44, 45, 46, 47, 53, 56, 57, 59] V V20 := agV19.up hV20 rfl
  refine lv_aload_n hx hb dX12_book_69 rfl (lv_at hl 0 rfl) ?_
  refine va_get (D := D) (ci := 12) (v := .ref (ad 39)) (C := RX12) (T := TX12) (N := 100) hx hb hg inX12 hown hK hP 0 rfl rfl 39 (by decide) (hg _ w1745) (fun _ h9 => h9) rfl dX12_book_70 ?_
  refine lv_aload_n hx hb dX12_book_73 rfl (lv_at hl 0 rfl) ?_
  refine va_get (D := D) (ci := 12) (v := .int (V20 0 12)) (C := RX12) (T := TX12) (N := 100) hx hb hg inX12 hown hK hP 0 rfl rfl 12 (by decide) (hg _ w1718) (fun _ h9 => h9) rfl dX12_book_74 ?_
  refine g_top (v := z14) ((up2_o hV20 (by decide)).trans ((up2_o hV19 (by decide)).trans ((up2_o hV18 (by decide)).trans ((up2_o hV17 (by decide)).trans ((up2_o hV16 (by decide)).trans (up2_s hV15)))))) ?_
  refine lv_iconst (v := 0) hx hb dX12_book_77 (by decide) ?_
  refine va_iast (D := D) (i := z14) (x := 0) hx hb hK hP hD hS 32 31 rfl rfl (i_in (a := z14.toInt) rfl (by (first | exact om_a85bf8c825c7 zq1 bq2 hz14 | omega))) dX12_book_78 (fun H locs hP hD hS => ?_)
  obtain ⟨V21, hV21⟩ : ∃ z, z = up2 V20 39 (Int32.toNatClampNeg z14) 0 := ⟨_, rfl⟩
  have hP : va_P D vwCl (mw ad kk ks.1 V21 L11) H := by rw [hV21]; exact hP
  have hD : va_D A (mw ad kk ks.1 V21 L11) := by rw [hV21]; exact hD
  have hMV21 : rgd bM V21 := hMV20.put hV21 (show 0 ≤ Int32.toInt 0 ∧ Int32.toInt 0 ≤ 12 from by decide)
  have agV21 : agr [(0, 0), (0, 2), (0, 3), (0, 7), (0, 8), (0, 11), (0, 12), (0, 48), (0, 49), (0, 50), (0, 51), (0, 52), (0, 54), (0, 55), (0, 60), (0, 65), (0, 69), (0, 70), (0, 71), (0, 72), (0, 73), (0, 76), (0, 81)] [4, 5, 6, 13, 14, 15, 16, 17, 18, 19, 20, 21, 22, 23, 24, 25, 26, 27, 28, 29, 30, 31, 32, 33, 34, 35, 36, 37, 38, 39, 40, 41, 42, 43, 44, 45, 46, 47, 53, 56, 57, 59] V V21 := agV20.up hV21 rfl
  refine lv_aload_n hx hb dX12_book_79 rfl (lv_at hl 0 rfl) ?_
  refine lv_iconst (v := 0) hx hb dX12_book_80 (by decide) ?_
  refine va_put (D := D) (ci := 12) (v := .int 0) (ty := tyX12 48) (C := RX12) (T := TX12) (N := 100) hx hb hg inX12 tyX12 tyX12_ok nmX12 hown hK hP hD hS 0 rfl rfl 48 (by decide) (hg _ w1754) (fun _ h9 => h9) rfl (tyX12_ok 48 (by decide)) rfl rfl (Nat.le_of_ble_eq_true rfl) dX12_book_81 (fun H locs hP hD hS => ?_)
  obtain ⟨V22, hV22⟩ : ∃ z, z = up2 V21 0 48 0 := ⟨_, rfl⟩
  have hP : va_P D vwCl (mw ad kk ks.1 V22 L11) H := by rw [hV22]; exact hP
  have hD : va_D A (mw ad kk ks.1 V22 L11) := by rw [hV22]; exact hD
  have hMV22 : rgd bM V22 := hMV21.put hV22 (by decide)
  have agV22 : agr [(0, 0), (0, 2), (0, 3), (0, 7), (0, 8), (0, 11), (0, 12), (0, 48), (0, 49), (0, 50), (0, 51), (0, 52), (0, 54), (0, 55), (0, 60), (0, 65), (0, 69), (0, 70), (0, 71), (0, 72), (0, 73), (0, 76), (0, 81)] [4, 5, 6, 13, 14, 15, 16, 17, 18, 19, 20, 21, 22, 23, 24, 25, 26, 27, 28, 29, 30, 31, 32, 33, 34, 35, 36, 37, 38, 39, 40, 41, 42, 43, 44, 45, 46, 47, 53, 56, 57, 59] V V22 := agV21.up hV22 rfl
  refine lv_aload_n hx hb dX12_book_84 rfl (lv_at hl 0 rfl) ?_
  refine lv_sipush (v := 10000) hx hb dX12_book_85 (by decide) ?_
  refine lv_aload_n hx hb dX12_book_88 rfl (lv_at hl 0 rfl) ?_
  refine va_get (D := D) (ci := 12) (v := .int (V22 0 12)) (C := RX12) (T := TX12) (N := 100) hx hb hg inX12 hown hK hP 0 rfl rfl 12 (by decide) (hg _ w1718) (fun _ h9 => h9) rfl dX12_book_89 ?_
  refine g_top (v := z14) ((up2_k hV22 (by decide)).trans ((up2_o hV21 (by decide)).trans ((up2_o hV20 (by decide)).trans ((up2_o hV19 (by decide)).trans ((up2_o hV18 (by decide)).trans ((up2_o hV17 (by decide)).trans ((up2_o hV16 (by decide)).trans (up2_s hV15)))))))) ?_
  refine lv_imul hx hb dX12_book_92 ?_
  refine lv_topi (fun z23 ez23 => ?_)
  have hz23 : z23.toInt = 10000 * z14.toInt := i_mul ez23 (by decide) rfl (by (first | exact om_6a0f53431c8f zq1 bq2 hz14 | omega))
  refine va_put (D := D) (ci := 12) (v := .int z23) (ty := tyX12 49) (C := RX12) (T := TX12) (N := 100) hx hb hg inX12 tyX12 tyX12_ok nmX12 hown hK hP hD hS 0 rfl rfl 49 (by decide) (hg _ w1755) (fun _ h9 => h9) rfl (tyX12_ok 49 (by decide)) rfl rfl (Nat.le_of_ble_eq_true rfl) dX12_book_93 (fun H locs hP hD hS => ?_)
  obtain ⟨V24, hV24⟩ : ∃ z, z = up2 V22 0 49 z23 := ⟨_, rfl⟩
  have hP : va_P D vwCl (mw ad kk ks.1 V24 L11) H := by rw [hV24]; exact hP
  have hD : va_D A (mw ad kk ks.1 V24 L11) := by rw [hV24]; exact hD
  have hMV24 : rgd bM V24 := hMV22.put hV24 (show 0 ≤ z23.toInt ∧ z23.toInt ≤ 10000 from by (first | exact om_01c3cfabe013 r1.1 r1.2 hz14 hz23 | omega))
  have agV24 : agr [(0, 0), (0, 2), (0, 3), (0, 7), (0, 8), (0, 11), (0, 12), (0, 48), (0, 49), (0, 50), (0, 51), (0, 52), (0, 54), (0, 55), (0, 60), (0, 65), (0, 69), (0, 70), (0, 71), (0, 72), (0, 73), (0, 76), (0, 81)] [4, 5, 6, 13, 14, 15, 16, 17, 18, 19, 20, 21, 22, 23, 24, 25, 26, 27, 28, 29, 30, 31, 32, 33, 34, 35, 36, 37, 38, 39, 40, 41, 42, 43, 44, 45, 46, 47, 53, 56, 57, 59] V V24 := agV22.up hV24 rfl
  have lp28 : ∀ (fulp28 : Nat) (g27 : Int) (V25 : Vf) (L26 : Lf) (H : Heap) (locs : List Loc) (ls : Array Slot), 0 ≤ g27 → (((V25 0 8).toInt = 0 ∧ ∃ s1 : St, (∀ k, Rc gT (Crun gs (Istmt :: k)) (Crun s1 (Istmt :: k))) ∧ RelM V25 L26 bq gn gT s1 (s1.2.1 2) ∧ ARm s1 ∧ CNm V25 bq s1 ∧ CEm V25 bq s1) ∨ (1 ≤ (V25 0 8).toInt ∧ ∀ k, Rc gT (Crun gs (Istmt :: k)) (Cbad (V25 0 8).toInt))) → Imp ((V25 0 8).toInt = 0) ((gn : Int) - (V25 0 7).toInt < g27) → Imp ((V25 0 8).toInt = 0) ((V25 0 48).toInt ≤ 2 * (V25 0 7).toInt) → (V25 0 48).toInt ≤ 8200 → (RoV 13 bq V V25) → (RoV 16 bq V V25) → (RoV 19 bq V V25) → (RoV 35 bq V V25) → (RoV 37 bq V V25) → (RoL 14 24 bq L L26) → (RoL 17 12 bq L L26) → (RoL 20 24 bq L L26) → (RoL 36 20 bq L L26) → (RoL 38 20 bq L L26) → g27 < (fulp28 : Int) → agL [4, 5, 6, 13, 14, 15, 16, 17, 18, 19, 20, 21, 22, 23, 24, 25, 26, 27, 28, 29, 30, 31, 32, 33, 34, 35, 36, 37, 38, 39, 40, 41, 42, 43, 44, 45, 46, 47, 53, 56, 57, 59] L L26 → agr [(0, 7), (0, 8), (0, 48), (0, 50), (0, 51), (0, 52)] [13, 14, 15, 16, 17, 18, 19, 20, 21, 22, 23, 24, 25, 26, 27, 28, 29, 30, 31, 32, 33, 34, 35, 36, 37, 38, 39, 40, 41, 42, 43, 44, 45, 46, 47, 53] V24 V25 → rgd bM V25 → va_P D vwCl (mw ad kk ks.1 V25 L26) H → va_D A (mw ad kk ks.1 V25 L26) → va_S A s.heap H locs → lv_has ls 1 [(0, .ref (ad 0))] → W p l e r_s_book3 s m ([.ref (ad 0)] : List Value).toArray below meth c H locs 0 0 (MQ below (q_s_book3 D ks ad kk V L  bq gn gT A) ([.ref (ad 0)] : List Value).toArray s 0 0 A) (F0 m 96 ls []) := by
    intro fulp28
    induction fulp28 with
    | zero =>
      intro g27 V25 L26 H locs ls xlp28_0 xlp28_1 xlp28_2 xlp28_3 xlp28_4 xlp28_5 xlp28_6 xlp28_7 xlp28_8 xlp28_9 xlp28_10 xlp28_11 xlp28_12 xlp28_13 xlp28_14 hn alL26 ajV25 hMV25 hP hD hS hl
      exfalso; (first | exact om_21e89d3d06d7 xlp28_0 hn | omega)
    | succ fulp28 ihlp28 =>
      intro g27 V25 L26 H locs ls xlp28_0 xlp28_1 xlp28_2 xlp28_3 xlp28_4 xlp28_5 xlp28_6 xlp28_7 xlp28_8 xlp28_9 xlp28_10 xlp28_11 xlp28_12 xlp28_13 xlp28_14 hn alL26 ajV25 hMV25 hP hD hS hl
      have agV25 : agr [(0, 0), (0, 2), (0, 3), (0, 7), (0, 8), (0, 11), (0, 12), (0, 48), (0, 49), (0, 50), (0, 51), (0, 52), (0, 54), (0, 55), (0, 60), (0, 65), (0, 69), (0, 70), (0, 71), (0, 72), (0, 73), (0, 76), (0, 81)] [4, 5, 6, 13, 14, 15, 16, 17, 18, 19, 20, 21, 22, 23, 24, 25, 26, 27, 28, 29, 30, 31, 32, 33, 34, 35, 36, 37, 38, 39, 40, 41, 42, 43, 44, 45, 46, 47, 53, 56, 57, 59] V V25 := agV24.tr ajV25 (by decide) (by decide)
      have r29 : 0 ≤ ((V25 0 8)).toInt ∧ ((V25 0 8)).toInt ≤ 70000 := hMV25 0 8
      have r30 : 0 ≤ ((V25 0 48)).toInt ∧ ((V25 0 48)).toInt ≤ 10000 := hMV25 0 48
      refine lv_aload_n hx hb dX12_book_96 rfl (lv_at hl 0 rfl) ?_
      rcases xlp28_1 with ⟨f8, s1, hq, rq, aq, nq, eq9⟩ | ⟨f8, hq⟩
      · skip
        have fz31 := RelM.rg rq
        refine va_get (D := D) (ci := 12) (v := .int (V25 0 8)) (C := RX12) (T := TX12) (N := 100) hx hb hg inX12 hown hK hP 0 rfl rfl 8 (by decide) (hg _ w1714) (fun _ h9 => h9) rfl dX12_book_97 ?_
        refine lv_if_ne (tgt := 184) hx hb dX12_book_100 (by decide) (fun c32 => ?_) (fun c32 => ?_)
        · skip
          have f33 : ((V25 0 8)).toInt ≠ 0 := b_neq rfl (by decide) c32
          exfalso; first | omega | ((try (have i_xlp28_3 := Imp.go xlp28_3 (by omega))); (try (have i_xlp28_2 := Imp.go xlp28_2 (by omega))); (try (have i_xlp28_2 := Imp.go xlp28_2 (by omega))); (try (have i_xlp28_3 := Imp.go xlp28_3 (by omega))); omega)
        · skip
          have f34 : ((V25 0 8)).toInt = 0 := b_eq rfl (by decide) c32
          refine lv_aload_n hx hb dX12_book_103 rfl (lv_at hl 0 rfl) ?_
          refine va_get (D := D) (ci := 12) (v := .ref (ad 4)) (C := RX12) (T := TX12) (N := 100) hx hb hg inX12 hown hK hP 0 rfl rfl 4 (by decide) (hg _ w1710) (fun _ h9 => h9) rfl dX12_book_104 ?_
          refine lv_aload_n hx hb dX12_book_107 rfl (lv_at hl 0 rfl) ?_
          refine va_get (D := D) (ci := 12) (v := .int (V25 0 7)) (C := RX12) (T := TX12) (N := 100) hx hb hg inX12 hown hK hP 0 rfl rfl 7 (by decide) (hg _ w1713) (fun _ h9 => h9) rfl dX12_book_108 ?_
          refine va_iald (D := D) (i := (V25 0 7)) hx hb hK hP 2 1 rfl rfl (i_in (a := ((V25 0 7)).toInt) rfl (by first | omega | ((try (have i_xlp28_3 := Imp.go xlp28_3 (by omega))); (try (have i_xlp28_2 := Imp.go xlp28_2 (by omega))); (try (have i_xlp28_2 := Imp.go xlp28_2 (by omega))); (try (have i_xlp28_3 := Imp.go xlp28_3 (by omega))); omega))) dX12_book_111 ?_
          refine g_top (v := (V10 4 (Int32.toNatClampNeg (V25 0 7)))) ((ajV25 4 (Int32.toNatClampNeg (V25 0 7)) rfl).trans ((up2_o hV24 (by decide)).trans ((up2_o hV22 (by decide)).trans ((up2_o hV21 (by decide)).trans ((up2_o hV20 (by decide)).trans ((up2_o hV19 (by decide)).trans ((up2_o hV18 (by decide)).trans ((up2_o hV17 (by decide)).trans ((up2_o hV16 (by decide)).trans (up2_o hV15 (by decide))))))))))) ?_
          have kc9 : Int32.toNatClampNeg (V25 0 7) = s1.1 0 := by have h9 := RelM.cl rq; exact h9
          have e49 : (V10 4 (Int32.toNatClampNeg (V25 0 7))).toInt = 0 ↔ gT.1 (s1.1 0) = 0 := by rw [kc9, ← (show V25 4 (s1.1 0) = (V10 4 (s1.1 0)) from ((ajV25 4 (s1.1 0) rfl).trans ((up2_o hV24 (by decide)).trans ((up2_o hV22 (by decide)).trans ((up2_o hV21 (by decide)).trans ((up2_o hV20 (by decide)).trans ((up2_o hV19 (by decide)).trans ((up2_o hV18 (by decide)).trans ((up2_o hV17 (by decide)).trans ((up2_o hV16 (by decide)).trans (up2_o hV15 (by decide))))))))))))]; exact RelM.en rq
          refine lv_if_eq (tgt := 184) hx hb dX12_book_112 (by decide) (fun c35 => ?_) (fun c35 => ?_)
          · skip
            have f36 : ((V10 4 (Int32.toNatClampNeg (V25 0 7)))).toInt = 0 := b_eq rfl (by decide) c35
            have kz9 : gT.1 (s1.1 0) = 0 := e49.mp (by omega)
            refine lv_aload_n hx hb dX12_book_184 rfl (lv_at hl 0 rfl) ?_
            refine va_get (D := D) (ci := 12) (v := .int (V25 0 8)) (C := RX12) (T := TX12) (N := 100) hx hb hg inX12 hown hK hP 0 rfl rfl 8 (by decide) (hg _ w1714) (fun _ h9 => h9) rfl dX12_book_185 ?_
            refine lv_if_ne (tgt := 203) hx hb dX12_book_188 (by decide) (fun c37 => ?_) (fun c37 => ?_)
            · skip
              have f38 : ((V25 0 8)).toInt ≠ 0 := b_neq rfl (by decide) c37
              exfalso; first | exact om_fb320d7600b7 r29.1 f34 f38 | first | omega | ((try (have i_xlp28_3 := Imp.go xlp28_3 (by omega))); (try (have i_xlp28_2 := Imp.go xlp28_2 (by omega))); (try (have i_xlp28_2 := Imp.go xlp28_2 (by omega))); (try (have i_xlp28_3 := Imp.go xlp28_3 (by omega))); omega)
            · skip
              have f39 : ((V25 0 8)).toInt = 0 := b_eq rfl (by decide) c37
              refine lv_aload_n hx hb dX12_book_191 rfl (lv_at hl 0 rfl) ?_
              refine lv_aload_n hx hb dX12_book_192 rfl (lv_at hl 0 rfl) ?_
              refine va_get (D := D) (ci := 12) (v := .int (V25 0 12)) (C := RX12) (T := TX12) (N := 100) hx hb hg inX12 hown hK hP 0 rfl rfl 12 (by decide) (hg _ w1718) (fun _ h9 => h9) rfl dX12_book_193 ?_
              refine g_top (v := z14) ((ajV25 0 12 rfl).trans ((up2_k hV24 (by decide)).trans ((up2_k hV22 (by decide)).trans ((up2_o hV21 (by decide)).trans ((up2_o hV20 (by decide)).trans ((up2_o hV19 (by decide)).trans ((up2_o hV18 (by decide)).trans ((up2_o hV17 (by decide)).trans ((up2_o hV16 (by decide)).trans (up2_s hV15)))))))))) ?_
              refine va_put (D := D) (ci := 12) (v := .int z14) (ty := tyX12 11) (C := RX12) (T := TX12) (N := 100) hx hb hg inX12 tyX12 tyX12_ok nmX12 hown hK hP hD hS 0 rfl rfl 11 (by decide) (hg _ w1717) (fun _ h9 => h9) rfl (tyX12_ok 11 (by decide)) rfl rfl (Nat.le_of_ble_eq_true rfl) dX12_book_196 (fun H locs hP hD hS => ?_)
              obtain ⟨V40, hV40⟩ : ∃ z, z = up2 V25 0 11 z14 := ⟨_, rfl⟩
              have hP : va_P D vwCl (mw ad kk ks.1 V40 L26) H := by rw [hV40]; exact hP
              have hD : va_D A (mw ad kk ks.1 V40 L26) := by rw [hV40]; exact hD
              have hMV40 : rgd bM V40 := hMV25.put hV40 (show 0 ≤ z14.toInt ∧ z14.toInt ≤ 1 from by first | exact om_a13710c2be73 zq1 bq2 hz14 | first | omega | ((try (have i_xlp28_3 := Imp.go xlp28_3 (by omega))); (try (have i_xlp28_2 := Imp.go xlp28_2 (by omega))); (try (have i_xlp28_2 := Imp.go xlp28_2 (by omega))); (try (have i_xlp28_3 := Imp.go xlp28_3 (by omega))); omega))
              have agV40 : agr [(0, 0), (0, 2), (0, 3), (0, 7), (0, 8), (0, 11), (0, 12), (0, 48), (0, 49), (0, 50), (0, 51), (0, 52), (0, 54), (0, 55), (0, 60), (0, 65), (0, 69), (0, 70), (0, 71), (0, 72), (0, 73), (0, 76), (0, 81)] [4, 5, 6, 13, 14, 15, 16, 17, 18, 19, 20, 21, 22, 23, 24, 25, 26, 27, 28, 29, 30, 31, 32, 33, 34, 35, 36, 37, 38, 39, 40, 41, 42, 43, 44, 45, 46, 47, 53, 56, 57, 59] V V40 := agV25.up hV40 rfl
              refine lv_aload_n hx hb dX12_book_199 rfl (lv_at hl 0 rfl) ?_
              refine gA_void (gA_runV (As := []) (rest := []) (ci := 12) (q0 := 0) hx hb hml hown hg hP hD hK hS hA hnw hgk (s_forget2 l D ks H.size ad kk V40 L26  hMV40 ) w2156 w2158 w116 w172 w2159 rfl rfl hdV_yX12_forget ⟨Nat.le_of_ble_eq_true rfl, Nat.le_of_ble_eq_true rfl⟩ rfl hl.1 rfl (Nat.le_of_ble_eq_true rfl) dX12_book_200 ⟨Nat.le_of_ble_eq_true rfl, Nat.le_of_ble_eq_true rfl⟩) hP hD hK hS hA (fun u42 H locs w43 hP hD hK hS => ?_)
              obtain ⟨V46, L47⟩ := u42
              obtain ⟨hMV46, ajV46, axL47, t44, t45⟩ := w43
              have axL47 : L26 = L47 := Eq.symm axL47
              subst axL47
              replace hP : va_P D vwCl (mw ad kk ks.1 V46 L26) H := hP
              replace hD : va_D A (mw ad kk ks.1 V46 L26) := hD
              replace hMV46 : rgd bM V46 := hMV46
              replace ajV46 : agr [(0, 54), (0, 55), (0, 60), (0, 65), (0, 69), (0, 70), (0, 71), (0, 72), (0, 73), (0, 76), (0, 81)] [56, 57, 59] V40 V46 := ajV46
              have agV46 : agr [(0, 0), (0, 2), (0, 3), (0, 7), (0, 8), (0, 11), (0, 12), (0, 48), (0, 49), (0, 50), (0, 51), (0, 52), (0, 54), (0, 55), (0, 60), (0, 65), (0, 69), (0, 70), (0, 71), (0, 72), (0, 73), (0, 76), (0, 81)] [4, 5, 6, 13, 14, 15, 16, 17, 18, 19, 20, 21, 22, 23, 24, 25, 26, 27, 28, 29, 30, 31, 32, 33, 34, 35, 36, 37, 38, 39, 40, 41, 42, 43, 44, 45, 46, 47, 53, 56, 57, 59] V V46 := agV40.tr ajV46 (by decide) (by decide)
              replace t44 : (V46 0 60).toInt = 0 ∧ (V46 0 54).toInt = 0 ∧ (V46 0 65).toInt = 0 ∧ (V46 0 73).toInt = 0 ∧ (V46 0 76).toInt = 0 := t44
              replace t45 : (V46 0 55).toInt = 1 := t45
              have r48 : 0 ≤ ((V46 0 73)).toInt ∧ ((V46 0 73)).toInt ≤ 1000000 := hMV46 0 73
              have r49 : 0 ≤ ((V46 0 76)).toInt ∧ ((V46 0 76)).toInt ≤ 2000000000 := hMV46 0 76
              have r50 : 0 ≤ ((V46 0 54)).toInt ∧ ((V46 0 54)).toInt ≤ 1 := hMV46 0 54
              have r51 : 0 ≤ ((V46 0 65)).toInt ∧ ((V46 0 65)).toInt ≤ 1000000 := hMV46 0 65
              have r52 : 0 ≤ ((V46 0 60)).toInt ∧ ((V46 0 60)).toInt ≤ 300 := hMV46 0 60
              have r53 : 1 ≤ ((V46 0 55)).toInt ∧ ((V46 0 55)).toInt ≤ 40 := hMV46 0 55
              refine lv_aload_n hx hb dX12_book_203 rfl (lv_at hl 0 rfl) ?_
              refine va_get (D := D) (ci := 12) (v := .int (V46 0 8)) (C := RX12) (T := TX12) (N := 100) hx hb hg inX12 hown hK hP 0 rfl rfl 8 (by decide) (hg _ w1714) (fun _ h9 => h9) rfl dX12_book_204 ?_
              refine g_top (v := (V25 0 8)) ((ajV46 0 8 rfl).trans (up2_k hV40 (by decide))) ?_
              have rc9 : Rc gT (Crun St0 [Istmt]) (Cdone s1) := by rw [← hgs]; exact (hq []).go1 (st_0 kz9)
              have cn54 : CNm V46 bq s1 := CNm.ag nq (show agr [(0, 11), (0, 54), (0, 55), (0, 60), (0, 65), (0, 69), (0, 70), (0, 71), (0, 72), (0, 73), (0, 76), (0, 81)] [56, 57, 59] V25 V46 from (agr.tr (agr.up agr.rf hV40 rfl) ajV46 (by decide) (by decide))) (by decide) keepC.rf
              have cd55 : CDm V46 (10000 * bq) s1 := CDm.ag eq9.1 (show agr [(0, 11), (0, 54), (0, 55), (0, 60), (0, 65), (0, 69), (0, 70), (0, 71), (0, 72), (0, 73), (0, 76), (0, 81)] [56, 57, 59] V25 V46 from (agr.tr (agr.up agr.rf hV40 rfl) ajV46 (by decide) (by decide))) ⟨rfl, rfl, fun _ => ⟨rfl, rfl, rfl⟩⟩
              have re56 : REm V46 bq s1 := REm.ag eq9.2.1 (show agr [(0, 11), (0, 54), (0, 55), (0, 60), (0, 65), (0, 69), (0, 70), (0, 71), (0, 72), (0, 73), (0, 76), (0, 81)] [56, 57, 59] V25 V46 from (agr.tr (agr.up agr.rf hV40 rfl) ajV46 (by decide) (by decide))) (fun _ => ⟨rfl, rfl, rfl⟩) keepE.rf rfl
              have wm57 : WMm V46 bq s1 := WMm.ag eq9.2.2 (show agr [(0, 11), (0, 54), (0, 55), (0, 60), (0, 65), (0, 69), (0, 70), (0, 71), (0, 72), (0, 73), (0, 76), (0, 81)] [56, 57, 59] V25 V46 from (agr.tr (agr.up agr.rf hV40 rfl) ajV46 (by decide) (by decide))) (fun _ => ⟨rfl, rfl, rfl, rfl, rfl⟩) (fun _ _ _ => rfl) rfl
              have rw58 : RoV 13 bq V V46 := (fun k hk => ((ajV46 13 k rfl).trans ((up2_o hV40 (by decide)).trans (xlp28_5 k hk))))
              have rw59 : RoV 16 bq V V46 := (fun k hk => ((ajV46 16 k rfl).trans ((up2_o hV40 (by decide)).trans (xlp28_6 k hk))))
              have rw60 : RoV 19 bq V V46 := (fun k hk => ((ajV46 19 k rfl).trans ((up2_o hV40 (by decide)).trans (xlp28_7 k hk))))
              have rw61 : RoV 35 bq V V46 := (fun k hk => ((ajV46 35 k rfl).trans ((up2_o hV40 (by decide)).trans (xlp28_8 k hk))))
              have rw62 : RoV 37 bq V V46 := (fun k hk => ((ajV46 37 k rfl).trans ((up2_o hV40 (by decide)).trans (xlp28_9 k hk))))
              have rw63 : RoL 14 24 bq L L26 := (fun k hk => (xlp28_10 k hk))
              have rw64 : RoL 17 12 bq L L26 := (fun k hk => (xlp28_11 k hk))
              have rw65 : RoL 20 24 bq L L26 := (fun k hk => (xlp28_12 k hk))
              have rw66 : RoL 36 20 bq L L26 := (fun k hk => (xlp28_13 k hk))
              have rw67 : RoL 38 20 bq L L26 := (fun k hk => (xlp28_14 k hk))
              exact W.iret (v := (V25 0 8)) hx hb hr (fun t ht hW => ⟨⟨(V25 0 8), (V46, L26), rfl, ⟨hMV46, agV46, alL26, (show 0 ≤ ((V25 0 8)).toInt ∧ ((V25 0 8)).toInt ≤ 70000 from by first | exact om_c0f1bb3a6635 r29.1 f34 | first | omega | ((try (have i_xlp28_3 := Imp.go xlp28_3 (by omega))); (try (have i_xlp28_2 := Imp.go xlp28_2 (by omega))); (try (have i_xlp28_2 := Imp.go xlp28_2 (by omega))); (try (have i_xlp28_3 := Imp.go xlp28_3 (by omega))); omega)), (by unfold BRES; rw [← hgs]; exact Or.inl ⟨by omega, s1, (hq []).go1 (st_0 kz9), trivial⟩), (Imp.mk (fun _ => ⟨s1, rc9, TBm.ag rq.2.2.1 (congrFun (by rw [(funext (fun q => ajV46 13 q rfl) : V46 13 = V40 13), (up2_fo hV40 (by decide) : V40 13 = V25 13)] : V46 13 = V25 13) bq) (congrFun (by rw [(funext (fun q => ajV46 16 q rfl) : V46 16 = V40 16), (up2_fo hV40 (by decide) : V40 16 = V25 16)] : V46 16 = V25 16) bq) (congrFun (by rw [(funext (fun q => ajV46 19 q rfl) : V46 19 = V40 19), (up2_fo hV40 (by decide) : V40 19 = V25 19)] : V46 19 = V25 19) bq) (congrFun (by rw [(funext (fun q => ajV46 35 q rfl) : V46 35 = V40 35), (up2_fo hV40 (by decide) : V40 35 = V25 35)] : V46 35 = V25 35) bq) (congrFun (by rw [(funext (fun q => ajV46 37 q rfl) : V46 37 = V40 37), (up2_fo hV40 (by decide) : V40 37 = V25 37)] : V46 37 = V25 37) bq) rfl rfl rfl rfl rfl rfl, (fun j h5 w hw k hk => PWd.nk (Rc.pw tk0.2.2.1 rc9 j h5 w hw) tk0 k hk), cn54, ⟨cd55, re56, wm57⟩, WRm.ag rq.2.2.2 (by rw [(funext (fun q => ajV46 39 q rfl) : V46 39 = V40 39), (up2_fo hV40 (by decide) : V40 39 = V25 39)] : V46 39 = V25 39) (by rw [(funext (fun q => ajV46 41 q rfl) : V46 41 = V40 41), (up2_fo hV40 (by decide) : V40 41 = V25 41)] : V46 41 = V25 41) (by rw [(funext (fun q => ajV46 43 q rfl) : V46 43 = V40 43), (up2_fo hV40 (by decide) : V40 43 = V25 43)] : V46 43 = V25 43) rfl, aq⟩)), rw58, rw59, rw60, rw61, rw62, rw63, rw64, rw65, rw66, rw67⟩, by rw [ht]; exact hP, va_K.moved hW.alike hK, hD⟩, hS.F ht⟩) hS.2.2 dX12_book_207
          · skip
            have f68 : ((V10 4 (Int32.toNatClampNeg (V25 0 7)))).toInt ≠ 0 := b_neq rfl (by decide) c35
            have kd69 : gT.1 (s1.1 0) ≠ 0 := (fun h9 => by have h8 := e49.mpr h9; omega)
            refine lv_aload_n hx hb dX12_book_115 rfl (lv_at hl 0 rfl) ?_
            refine lv_iconst (v := 0) hx hb dX12_book_116 (by decide) ?_
            have r70 : Int32.toInt 0 = 0 := by decide
            refine gA_int (gA_runV (As := [.int 0]) (rest := []) (ci := 12) (q0 := 0) hx hb hml hown hg hP hD hK hS hA hnw hgk (s_isWordA l D ks H.size ad kk V25 L26 0 (bq) (gn) (gT) (s1) ((s1.2.1 2)) hMV25 (by decide) rq) w2023 w2025 w83 w172 w2026 rfl rfl hdV_yX12_isWord ⟨Nat.le_of_ble_eq_true rfl, Nat.le_of_ble_eq_true rfl⟩ rfl hl.1 rfl (Nat.le_of_ble_eq_true rfl) dX12_book_117 ⟨Nat.le_of_ble_eq_true rfl, Nat.le_of_ble_eq_true rfl⟩) hP hD hK hS hA (fun z71 u72 H locs w73 hP hD hK hS => ?_)
            obtain ⟨rgz71, t74⟩ := w73
            replace rgz71 : 0 ≤ z71.toInt ∧ z71.toInt ≤ 1 := rgz71
            replace t74 : (z71.toInt = 1 ∧ (gT).1 ((s1).1 0) = 128 + (Int32.toInt 0)) ∨ (z71.toInt = 0 ∧ (gT).1 ((s1).1 0) ≠ 128 + (Int32.toInt 0)) := t74
            rcases t74 with ⟨q75, h76⟩ | ⟨q75, h76⟩
            · skip
              have kd77 : gT.1 (s1.1 0) = 128 := h76.trans (by decide)
              refine lv_if_eq (tgt := 130) hx hb dX12_book_120 (by decide) (fun c78 => ?_) (fun c78 => ?_)
              · skip
                have f79 : z71.toInt = 0 := b_eq rfl (by decide) c78
                exfalso; first | exact om_495ee03a60ae q75 f79 | first | omega | ((try (have i_xlp28_3 := Imp.go xlp28_3 (by omega))); (try (have i_xlp28_2 := Imp.go xlp28_2 (by omega))); (try (have i_xlp28_2 := Imp.go xlp28_2 (by omega))); (try (have i_xlp28_3 := Imp.go xlp28_3 (by omega))); omega)
              · skip
                have f80 : z71.toInt ≠ 0 := b_neq rfl (by decide) c78
                refine lv_aload_n hx hb dX12_book_123 rfl (lv_at hl 0 rfl) ?_
                refine gA_void (gA_runV (As := []) (rest := []) (ci := 12) (q0 := 0) hx hb hml hown hg hP hD hK hS hA hnw hgk (s_toldTypeA l D ks H.size ad kk V25 L26 (bq) (gn) (gT) (s1) hMV25 rq kd77 (show (V25 0 48).toInt ≤ 2 * (V25 0 7).toInt from by first | exact om_25cd5ecd1f71 ((Imp.go xlp28_3 (f34))) | first | omega | ((try (have i_xlp28_3 := Imp.go xlp28_3 (by omega))); (try (have i_xlp28_2 := Imp.go xlp28_2 (by omega))); (try (have i_xlp28_2 := Imp.go xlp28_2 (by omega))); (try (have i_xlp28_3 := Imp.go xlp28_3 (by omega))); omega)) aq nq ⟨eq9.1, eq9.2.1, eq9.2.2⟩) w2027 w2029 w84 w172 w2030 rfl rfl hdV_yX12_toldType ⟨Nat.le_of_ble_eq_true rfl, Nat.le_of_ble_eq_true rfl⟩ rfl hl.1 rfl (Nat.le_of_ble_eq_true rfl) dX12_book_124 ⟨Nat.le_of_ble_eq_true rfl, Nat.le_of_ble_eq_true rfl⟩) hP hD hK hS hA (fun u82 H locs w83 hP hD hK hS => ?_)
                obtain ⟨V90, L91⟩ := u82
                obtain ⟨hMV90, ajV90, axL91, t84, t85, t86, t87, t88, t89⟩ := w83
                have alL91 : agL [4, 5, 6, 13, 14, 15, 16, 17, 18, 19, 20, 21, 22, 23, 24, 25, 26, 27, 28, 29, 30, 31, 32, 33, 34, 35, 36, 37, 38, 39, 40, 41, 42, 43, 44, 45, 46, 47, 53, 56, 57, 59] L L91 := agL.tr alL26 axL91 (by decide)
                replace hP : va_P D vwCl (mw ad kk ks.1 V90 L91) H := hP
                replace hD : va_D A (mw ad kk ks.1 V90 L91) := hD
                replace hMV90 : rgd bM V90 := hMV90
                replace ajV90 : agr [(0, 7), (0, 8)] [13, 14, 15, 21, 53] V25 V90 := ajV90
                have agV90 : agr [(0, 0), (0, 2), (0, 3), (0, 7), (0, 8), (0, 11), (0, 12), (0, 48), (0, 49), (0, 50), (0, 51), (0, 52), (0, 54), (0, 55), (0, 60), (0, 65), (0, 69), (0, 70), (0, 71), (0, 72), (0, 73), (0, 76), (0, 81)] [4, 5, 6, 13, 14, 15, 16, 17, 18, 19, 20, 21, 22, 23, 24, 25, 26, 27, 28, 29, 30, 31, 32, 33, 34, 35, 36, 37, 38, 39, 40, 41, 42, 43, 44, 45, 46, 47, 53, 56, 57, 59] V V90 := agV25.tr ajV90 (by decide) (by decide)
                replace t84 : Imp ((V90 0 8).toInt = 0) ((V90 0 48).toInt ≤ 2 * (V90 0 7).toInt) := t84
                replace t85 : (V90 0 48).toInt ≤ 8200 := t85
                replace t86 : (V90 0 12).toInt = (V25 0 12).toInt := t86
                replace t87 : RdM (gT) (s1) (fun k => Istmt :: k) (fun k => Istmt :: k) (V90 0 8).toInt (fun s9 => RelM V90 L91 (bq) (gn) (gT) s9 (s9.2.1 2) ∧ (s1).1 0 + 1 ≤ s9.1 0 ∧ ARm s9 ∧ CNm V90 (bq) s9 ∧ CEm V90 (bq) s9) := t87
                replace t88 : RoV 13 (bq) V25 V90 := t88
                replace t89 : RoL 14 24 (bq) L26 L91 := t89
                have pq92 : (V90 0 48).toInt = ((V25 0 48)).toInt := congrArg Int32.toInt (ajV90 0 48 rfl)
                have r93 : 0 ≤ ((V90 0 8)).toInt ∧ ((V90 0 8)).toInt ≤ 70000 := hMV90 0 8
                have pq94 : (V25 0 12).toInt = z14.toInt := congrArg Int32.toInt ((ajV25 0 12 rfl).trans ((up2_k hV24 (by decide)).trans ((up2_k hV22 (by decide)).trans ((up2_o hV21 (by decide)).trans ((up2_o hV20 (by decide)).trans ((up2_o hV19 (by decide)).trans ((up2_o hV18 (by decide)).trans ((up2_o hV17 (by decide)).trans ((up2_o hV16 (by decide)).trans (up2_s hV15))))))))))
                have pq95 : (V90 0 12).toInt = z14.toInt := congrArg Int32.toInt ((ajV90 0 12 rfl).trans ((ajV25 0 12 rfl).trans ((up2_k hV24 (by decide)).trans ((up2_k hV22 (by decide)).trans ((up2_o hV21 (by decide)).trans ((up2_o hV20 (by decide)).trans ((up2_o hV19 (by decide)).trans ((up2_o hV18 (by decide)).trans ((up2_o hV17 (by decide)).trans ((up2_o hV16 (by decide)).trans (up2_s hV15)))))))))))
                rcases t87 with ⟨q96, sx97, h98, rl99, kp100⟩ | ⟨q96, h98⟩
                · skip
                  have hr103 : ∀ k, Rc gT (Crun gs (Istmt :: k)) (Crun sx97 (Istmt :: k)) := fun k => (hq k).tr (h98 (k))
                  have fz104 := RelM.rg rl99
                  have ps105 := (kp100).1
                  refine lv_goto (tgt := 96) hx hb dX12_book_127 (by decide) ?_
                  have rw106 : RoV 13 bq V V90 := (fun k hk => ((t88 k hk).trans (xlp28_5 k hk)))
                  have rw107 : RoV 16 bq V V90 := (fun k hk => ((ajV90 16 k rfl).trans (xlp28_6 k hk)))
                  have rw108 : RoV 19 bq V V90 := (fun k hk => ((ajV90 19 k rfl).trans (xlp28_7 k hk)))
                  have rw109 : RoV 35 bq V V90 := (fun k hk => ((ajV90 35 k rfl).trans (xlp28_8 k hk)))
                  have rw110 : RoV 37 bq V V90 := (fun k hk => ((ajV90 37 k rfl).trans (xlp28_9 k hk)))
                  have rw111 : RoL 14 24 bq L L91 := (fun k hk => ((t89 k hk).trans (xlp28_10 k hk)))
                  have rw112 : RoL 17 12 bq L L91 := (fun k hk => ((axL91 17 k rfl).trans (xlp28_11 k hk)))
                  have rw113 : RoL 20 24 bq L L91 := (fun k hk => ((axL91 20 k rfl).trans (xlp28_12 k hk)))
                  have rw114 : RoL 36 20 bq L L91 := (fun k hk => ((axL91 36 k rfl).trans (xlp28_13 k hk)))
                  have rw115 : RoL 38 20 bq L L91 := (fun k hk => ((axL91 38 k rfl).trans (xlp28_14 k hk)))
                  exact ihlp28 (g27 - 1) V90 L91 H locs ls (show 0 ≤ (g27 - 1) from by first | omega | ((try (have i_t84 := Imp.go t84 (by omega))); (try (have i_xlp28_3 := Imp.go xlp28_3 (by omega))); (try (have i_xlp28_2 := Imp.go xlp28_2 (by omega))); (try (have i_xlp28_2 := Imp.go xlp28_2 (by omega))); (try (have i_xlp28_3 := Imp.go xlp28_3 (by omega))); (try (have i_t84 := Imp.go t84 (by omega))); omega)) (Or.inl ⟨W0 rl99, sx97, hr103, rl99, (kp100).2.1, (kp100).2.2.1, ⟨(kp100).2.2.2.1, (kp100).2.2.2.2.1, (kp100).2.2.2.2.2⟩⟩) (Imp.mk (fun hp => have hp : (V90 0 8).toInt = 0 := hp; (show (gn : Int) - (V90 0 7).toInt < (g27 - 1) from by first | omega | ((try (have i_t84 := Imp.go t84 (by omega))); (try (have i_xlp28_3 := Imp.go xlp28_3 (by omega))); (try (have i_xlp28_2 := Imp.go xlp28_2 (by omega))); (try (have i_xlp28_2 := Imp.go xlp28_2 (by omega))); (try (have i_xlp28_3 := Imp.go xlp28_3 (by omega))); (try (have i_t84 := Imp.go t84 (by omega))); omega)))) (Imp.mk (fun hp => have hp : (V90 0 8).toInt = 0 := hp; (show (V90 0 48).toInt ≤ 2 * (V90 0 7).toInt from by first | exact om_25cd5ecd1f71 ((Imp.go t84 (hp))) | first | omega | ((try (have i_t84 := Imp.go t84 (by omega))); (try (have i_xlp28_3 := Imp.go xlp28_3 (by omega))); (try (have i_xlp28_2 := Imp.go xlp28_2 (by omega))); (try (have i_xlp28_2 := Imp.go xlp28_2 (by omega))); (try (have i_xlp28_3 := Imp.go xlp28_3 (by omega))); (try (have i_t84 := Imp.go t84 (by omega))); omega)))) (show (V90 0 48).toInt ≤ 8200 from by first | exact om_7ed1cb9eefb0 xlp28_4 pq92 | first | omega | ((try (have i_t84 := Imp.go t84 (by omega))); (try (have i_xlp28_3 := Imp.go xlp28_3 (by omega))); (try (have i_xlp28_2 := Imp.go xlp28_2 (by omega))); (try (have i_xlp28_2 := Imp.go xlp28_2 (by omega))); (try (have i_xlp28_3 := Imp.go xlp28_3 (by omega))); (try (have i_t84 := Imp.go t84 (by omega))); omega)) rw106 rw107 rw108 rw109 rw110 rw111 rw112 rw113 rw114 rw115 (by first | exact om_5922346f4861 hn | first | omega | ((try (have i_t84 := Imp.go t84 (by omega))); (try (have i_xlp28_3 := Imp.go xlp28_3 (by omega))); (try (have i_xlp28_2 := Imp.go xlp28_2 (by omega))); (try (have i_xlp28_2 := Imp.go xlp28_2 (by omega))); (try (have i_xlp28_3 := Imp.go xlp28_3 (by omega))); (try (have i_t84 := Imp.go t84 (by omega))); omega)) alL91 (agr.tr (agr.tr agr.rf ajV25 (by decide) (by decide)) ajV90 (by decide) (by decide)) hMV90 hP hD hS (lv_sub hl [0] rfl)
                · skip
                  have hb116 : ∀ k, Rc gT (Crun gs (Istmt :: k)) (Cbad (V90 0 8).toInt) := fun k => (hq k).tr (h98 (k))
                  refine lv_goto (tgt := 96) hx hb dX12_book_127 (by decide) ?_
                  have rw117 : RoV 13 bq V V90 := (fun k hk => ((t88 k hk).trans (xlp28_5 k hk)))
                  have rw118 : RoV 16 bq V V90 := (fun k hk => ((ajV90 16 k rfl).trans (xlp28_6 k hk)))
                  have rw119 : RoV 19 bq V V90 := (fun k hk => ((ajV90 19 k rfl).trans (xlp28_7 k hk)))
                  have rw120 : RoV 35 bq V V90 := (fun k hk => ((ajV90 35 k rfl).trans (xlp28_8 k hk)))
                  have rw121 : RoV 37 bq V V90 := (fun k hk => ((ajV90 37 k rfl).trans (xlp28_9 k hk)))
                  have rw122 : RoL 14 24 bq L L91 := (fun k hk => ((t89 k hk).trans (xlp28_10 k hk)))
                  have rw123 : RoL 17 12 bq L L91 := (fun k hk => ((axL91 17 k rfl).trans (xlp28_11 k hk)))
                  have rw124 : RoL 20 24 bq L L91 := (fun k hk => ((axL91 20 k rfl).trans (xlp28_12 k hk)))
                  have rw125 : RoL 36 20 bq L L91 := (fun k hk => ((axL91 36 k rfl).trans (xlp28_13 k hk)))
                  have rw126 : RoL 38 20 bq L L91 := (fun k hk => ((axL91 38 k rfl).trans (xlp28_14 k hk)))
                  exact ihlp28 (g27 - 1) V90 L91 H locs ls (show 0 ≤ (g27 - 1) from by first | omega | ((try (have i_t84 := Imp.go t84 (by omega))); (try (have i_xlp28_3 := Imp.go xlp28_3 (by omega))); (try (have i_xlp28_2 := Imp.go xlp28_2 (by omega))); (try (have i_xlp28_2 := Imp.go xlp28_2 (by omega))); (try (have i_xlp28_3 := Imp.go xlp28_3 (by omega))); (try (have i_t84 := Imp.go t84 (by omega))); omega)) (Or.inr ⟨(show 1 ≤ (V90 0 8).toInt from by omega), hb116⟩) (Imp.mk (fun hp => have hp : (V90 0 8).toInt = 0 := hp; (show (gn : Int) - (V90 0 7).toInt < (g27 - 1) from by first | omega | ((try (have i_t84 := Imp.go t84 (by omega))); (try (have i_xlp28_3 := Imp.go xlp28_3 (by omega))); (try (have i_xlp28_2 := Imp.go xlp28_2 (by omega))); (try (have i_xlp28_2 := Imp.go xlp28_2 (by omega))); (try (have i_xlp28_3 := Imp.go xlp28_3 (by omega))); (try (have i_t84 := Imp.go t84 (by omega))); omega)))) (Imp.mk (fun hp => have hp : (V90 0 8).toInt = 0 := hp; (show (V90 0 48).toInt ≤ 2 * (V90 0 7).toInt from by first | exact om_25cd5ecd1f71 ((Imp.go t84 (hp))) | first | omega | ((try (have i_t84 := Imp.go t84 (by omega))); (try (have i_xlp28_3 := Imp.go xlp28_3 (by omega))); (try (have i_xlp28_2 := Imp.go xlp28_2 (by omega))); (try (have i_xlp28_2 := Imp.go xlp28_2 (by omega))); (try (have i_xlp28_3 := Imp.go xlp28_3 (by omega))); (try (have i_t84 := Imp.go t84 (by omega))); omega)))) (show (V90 0 48).toInt ≤ 8200 from by first | exact om_7ed1cb9eefb0 xlp28_4 pq92 | first | omega | ((try (have i_t84 := Imp.go t84 (by omega))); (try (have i_xlp28_3 := Imp.go xlp28_3 (by omega))); (try (have i_xlp28_2 := Imp.go xlp28_2 (by omega))); (try (have i_xlp28_2 := Imp.go xlp28_2 (by omega))); (try (have i_xlp28_3 := Imp.go xlp28_3 (by omega))); (try (have i_t84 := Imp.go t84 (by omega))); omega)) rw117 rw118 rw119 rw120 rw121 rw122 rw123 rw124 rw125 rw126 (by first | exact om_5922346f4861 hn | first | omega | ((try (have i_t84 := Imp.go t84 (by omega))); (try (have i_xlp28_3 := Imp.go xlp28_3 (by omega))); (try (have i_xlp28_2 := Imp.go xlp28_2 (by omega))); (try (have i_xlp28_2 := Imp.go xlp28_2 (by omega))); (try (have i_xlp28_3 := Imp.go xlp28_3 (by omega))); (try (have i_t84 := Imp.go t84 (by omega))); omega)) alL91 (agr.tr (agr.tr agr.rf ajV25 (by decide) (by decide)) ajV90 (by decide) (by decide)) hMV90 hP hD hS (lv_sub hl [0] rfl)
            · skip
              have kd127 : gT.1 (s1.1 0) ≠ 128 := fun h9 => h76 (h9.trans (by decide))
              refine lv_if_eq (tgt := 130) hx hb dX12_book_120 (by decide) (fun c128 => ?_) (fun c128 => ?_)
              · skip
                have f129 : z71.toInt = 0 := b_eq rfl (by decide) c128
                refine lv_aload_n hx hb dX12_book_130 rfl (lv_at hl 0 rfl) ?_
                refine lv_iconst (v := 2) hx hb dX12_book_131 (by decide) ?_
                have r130 : Int32.toInt 2 = 2 := by decide
                refine gA_int (gA_runV (As := [.int 2]) (rest := []) (ci := 12) (q0 := 0) hx hb hml hown hg hP hD hK hS hA hnw hgk (s_isWordA l D ks H.size ad kk V25 L26 2 (bq) (gn) (gT) (s1) ((s1.2.1 2)) hMV25 (by decide) rq) w2023 w2025 w83 w172 w2026 rfl rfl hdV_yX12_isWord ⟨Nat.le_of_ble_eq_true rfl, Nat.le_of_ble_eq_true rfl⟩ rfl hl.1 rfl (Nat.le_of_ble_eq_true rfl) dX12_book_132 ⟨Nat.le_of_ble_eq_true rfl, Nat.le_of_ble_eq_true rfl⟩) hP hD hK hS hA (fun z131 u132 H locs w133 hP hD hK hS => ?_)
                obtain ⟨rgz131, t134⟩ := w133
                replace rgz131 : 0 ≤ z131.toInt ∧ z131.toInt ≤ 1 := rgz131
                replace t134 : (z131.toInt = 1 ∧ (gT).1 ((s1).1 0) = 128 + (Int32.toInt 2)) ∨ (z131.toInt = 0 ∧ (gT).1 ((s1).1 0) ≠ 128 + (Int32.toInt 2)) := t134
                rcases t134 with ⟨q135, h136⟩ | ⟨q135, h136⟩
                · skip
                  have kd137 : gT.1 (s1.1 0) = 130 := h136.trans (by decide)
                  refine lv_if_eq (tgt := 145) hx hb dX12_book_135 (by decide) (fun c138 => ?_) (fun c138 => ?_)
                  · skip
                    have f139 : z131.toInt = 0 := b_eq rfl (by decide) c138
                    exfalso; first | exact om_495ee03a60ae q135 f139 | first | omega | ((try (have i_xlp28_3 := Imp.go xlp28_3 (by omega))); (try (have i_xlp28_2 := Imp.go xlp28_2 (by omega))); (try (have i_xlp28_2 := Imp.go xlp28_2 (by omega))); (try (have i_xlp28_3 := Imp.go xlp28_3 (by omega))); omega)
                  · skip
                    have f140 : z131.toInt ≠ 0 := b_neq rfl (by decide) c138
                    refine lv_aload_n hx hb dX12_book_138 rfl (lv_at hl 0 rfl) ?_
                    refine gA_void (gA_runV (As := []) (rest := []) (ci := 12) (q0 := 0) hx hb hml hown hg hP hD hK hS hA hnw hgk (s_toldSettingA l D ks H.size ad kk V25 L26 (bq) (gn) (gT) (s1) hMV25 rq kd137 (show (V25 0 48).toInt ≤ 2 * (V25 0 7).toInt from by first | exact om_25cd5ecd1f71 ((Imp.go xlp28_3 (f34))) | first | omega | ((try (have i_xlp28_3 := Imp.go xlp28_3 (by omega))); (try (have i_xlp28_2 := Imp.go xlp28_2 (by omega))); (try (have i_xlp28_2 := Imp.go xlp28_2 (by omega))); (try (have i_xlp28_3 := Imp.go xlp28_3 (by omega))); omega)) aq nq ⟨eq9.1, eq9.2.1, eq9.2.2⟩) w2079 w2081 w97 w172 w2082 rfl rfl hdV_yX12_toldSetting ⟨Nat.le_of_ble_eq_true rfl, Nat.le_of_ble_eq_true rfl⟩ rfl hl.1 rfl (Nat.le_of_ble_eq_true rfl) dX12_book_139 ⟨Nat.le_of_ble_eq_true rfl, Nat.le_of_ble_eq_true rfl⟩) hP hD hK hS hA (fun u142 H locs w143 hP hD hK hS => ?_)
                    obtain ⟨V150, L151⟩ := u142
                    obtain ⟨hMV150, ajV150, axL151, t144, t145, t146, t147, t148, t149⟩ := w143
                    have alL151 : agL [4, 5, 6, 13, 14, 15, 16, 17, 18, 19, 20, 21, 22, 23, 24, 25, 26, 27, 28, 29, 30, 31, 32, 33, 34, 35, 36, 37, 38, 39, 40, 41, 42, 43, 44, 45, 46, 47, 53, 56, 57, 59] L L151 := agL.tr alL26 axL151 (by decide)
                    replace hP : va_P D vwCl (mw ad kk ks.1 V150 L151) H := hP
                    replace hD : va_D A (mw ad kk ks.1 V150 L151) := hD
                    replace hMV150 : rgd bM V150 := hMV150
                    replace ajV150 : agr [(0, 7), (0, 8)] [16, 17, 18] V25 V150 := ajV150
                    have agV150 : agr [(0, 0), (0, 2), (0, 3), (0, 7), (0, 8), (0, 11), (0, 12), (0, 48), (0, 49), (0, 50), (0, 51), (0, 52), (0, 54), (0, 55), (0, 60), (0, 65), (0, 69), (0, 70), (0, 71), (0, 72), (0, 73), (0, 76), (0, 81)] [4, 5, 6, 13, 14, 15, 16, 17, 18, 19, 20, 21, 22, 23, 24, 25, 26, 27, 28, 29, 30, 31, 32, 33, 34, 35, 36, 37, 38, 39, 40, 41, 42, 43, 44, 45, 46, 47, 53, 56, 57, 59] V V150 := agV25.tr ajV150 (by decide) (by decide)
                    replace t144 : Imp ((V150 0 8).toInt = 0) ((V150 0 48).toInt ≤ 2 * (V150 0 7).toInt) := t144
                    replace t145 : (V150 0 48).toInt ≤ 8200 := t145
                    replace t146 : (V150 0 12).toInt = (V25 0 12).toInt := t146
                    replace t147 : RdM (gT) (s1) (fun k => Istmt :: k) (fun k => Istmt :: k) (V150 0 8).toInt (fun s9 => RelM V150 L151 (bq) (gn) (gT) s9 (s9.2.1 2) ∧ (s1).1 0 + 1 ≤ s9.1 0 ∧ ARm s9 ∧ CNm V150 (bq) s9 ∧ CEm V150 (bq) s9) := t147
                    replace t148 : RoV 16 (bq) V25 V150 := t148
                    replace t149 : RoL 17 12 (bq) L26 L151 := t149
                    have pq152 : (V150 0 48).toInt = ((V25 0 48)).toInt := congrArg Int32.toInt (ajV150 0 48 rfl)
                    have r153 : 0 ≤ ((V150 0 8)).toInt ∧ ((V150 0 8)).toInt ≤ 70000 := hMV150 0 8
                    have pq154 : (V25 0 12).toInt = z14.toInt := congrArg Int32.toInt ((ajV25 0 12 rfl).trans ((up2_k hV24 (by decide)).trans ((up2_k hV22 (by decide)).trans ((up2_o hV21 (by decide)).trans ((up2_o hV20 (by decide)).trans ((up2_o hV19 (by decide)).trans ((up2_o hV18 (by decide)).trans ((up2_o hV17 (by decide)).trans ((up2_o hV16 (by decide)).trans (up2_s hV15))))))))))
                    have pq155 : (V150 0 12).toInt = z14.toInt := congrArg Int32.toInt ((ajV150 0 12 rfl).trans ((ajV25 0 12 rfl).trans ((up2_k hV24 (by decide)).trans ((up2_k hV22 (by decide)).trans ((up2_o hV21 (by decide)).trans ((up2_o hV20 (by decide)).trans ((up2_o hV19 (by decide)).trans ((up2_o hV18 (by decide)).trans ((up2_o hV17 (by decide)).trans ((up2_o hV16 (by decide)).trans (up2_s hV15)))))))))))
                    rcases t147 with ⟨q156, sx157, h158, rl159, kp160⟩ | ⟨q156, h158⟩
                    · skip
                      have hr163 : ∀ k, Rc gT (Crun gs (Istmt :: k)) (Crun sx157 (Istmt :: k)) := fun k => (hq k).tr (h158 (k))
                      have fz164 := RelM.rg rl159
                      have ps165 := (kp160).1
                      refine lv_goto (tgt := 96) hx hb dX12_book_142 (by decide) ?_
                      have rw166 : RoV 13 bq V V150 := (fun k hk => ((ajV150 13 k rfl).trans (xlp28_5 k hk)))
                      have rw167 : RoV 16 bq V V150 := (fun k hk => ((t148 k hk).trans (xlp28_6 k hk)))
                      have rw168 : RoV 19 bq V V150 := (fun k hk => ((ajV150 19 k rfl).trans (xlp28_7 k hk)))
                      have rw169 : RoV 35 bq V V150 := (fun k hk => ((ajV150 35 k rfl).trans (xlp28_8 k hk)))
                      have rw170 : RoV 37 bq V V150 := (fun k hk => ((ajV150 37 k rfl).trans (xlp28_9 k hk)))
                      have rw171 : RoL 14 24 bq L L151 := (fun k hk => ((axL151 14 k rfl).trans (xlp28_10 k hk)))
                      have rw172 : RoL 17 12 bq L L151 := (fun k hk => ((t149 k hk).trans (xlp28_11 k hk)))
                      have rw173 : RoL 20 24 bq L L151 := (fun k hk => ((axL151 20 k rfl).trans (xlp28_12 k hk)))
                      have rw174 : RoL 36 20 bq L L151 := (fun k hk => ((axL151 36 k rfl).trans (xlp28_13 k hk)))
                      have rw175 : RoL 38 20 bq L L151 := (fun k hk => ((axL151 38 k rfl).trans (xlp28_14 k hk)))
                      exact ihlp28 (g27 - 1) V150 L151 H locs ls (show 0 ≤ (g27 - 1) from by first | omega | ((try (have i_t144 := Imp.go t144 (by omega))); (try (have i_xlp28_3 := Imp.go xlp28_3 (by omega))); (try (have i_xlp28_2 := Imp.go xlp28_2 (by omega))); (try (have i_xlp28_2 := Imp.go xlp28_2 (by omega))); (try (have i_xlp28_3 := Imp.go xlp28_3 (by omega))); (try (have i_t144 := Imp.go t144 (by omega))); omega)) (Or.inl ⟨W0 rl159, sx157, hr163, rl159, (kp160).2.1, (kp160).2.2.1, ⟨(kp160).2.2.2.1, (kp160).2.2.2.2.1, (kp160).2.2.2.2.2⟩⟩) (Imp.mk (fun hp => have hp : (V150 0 8).toInt = 0 := hp; (show (gn : Int) - (V150 0 7).toInt < (g27 - 1) from by first | omega | ((try (have i_t144 := Imp.go t144 (by omega))); (try (have i_xlp28_3 := Imp.go xlp28_3 (by omega))); (try (have i_xlp28_2 := Imp.go xlp28_2 (by omega))); (try (have i_xlp28_2 := Imp.go xlp28_2 (by omega))); (try (have i_xlp28_3 := Imp.go xlp28_3 (by omega))); (try (have i_t144 := Imp.go t144 (by omega))); omega)))) (Imp.mk (fun hp => have hp : (V150 0 8).toInt = 0 := hp; (show (V150 0 48).toInt ≤ 2 * (V150 0 7).toInt from by first | exact om_25cd5ecd1f71 ((Imp.go t144 (hp))) | first | omega | ((try (have i_t144 := Imp.go t144 (by omega))); (try (have i_xlp28_3 := Imp.go xlp28_3 (by omega))); (try (have i_xlp28_2 := Imp.go xlp28_2 (by omega))); (try (have i_xlp28_2 := Imp.go xlp28_2 (by omega))); (try (have i_xlp28_3 := Imp.go xlp28_3 (by omega))); (try (have i_t144 := Imp.go t144 (by omega))); omega)))) (show (V150 0 48).toInt ≤ 8200 from by first | exact om_d62df5b597d2 t145 | first | omega | ((try (have i_t144 := Imp.go t144 (by omega))); (try (have i_xlp28_3 := Imp.go xlp28_3 (by omega))); (try (have i_xlp28_2 := Imp.go xlp28_2 (by omega))); (try (have i_xlp28_2 := Imp.go xlp28_2 (by omega))); (try (have i_xlp28_3 := Imp.go xlp28_3 (by omega))); (try (have i_t144 := Imp.go t144 (by omega))); omega)) rw166 rw167 rw168 rw169 rw170 rw171 rw172 rw173 rw174 rw175 (by first | exact om_5922346f4861 hn | first | omega | ((try (have i_t144 := Imp.go t144 (by omega))); (try (have i_xlp28_3 := Imp.go xlp28_3 (by omega))); (try (have i_xlp28_2 := Imp.go xlp28_2 (by omega))); (try (have i_xlp28_2 := Imp.go xlp28_2 (by omega))); (try (have i_xlp28_3 := Imp.go xlp28_3 (by omega))); (try (have i_t144 := Imp.go t144 (by omega))); omega)) alL151 (agr.tr (agr.tr agr.rf ajV25 (by decide) (by decide)) ajV150 (by decide) (by decide)) hMV150 hP hD hS (lv_sub hl [0] rfl)
                    · skip
                      have hb176 : ∀ k, Rc gT (Crun gs (Istmt :: k)) (Cbad (V150 0 8).toInt) := fun k => (hq k).tr (h158 (k))
                      refine lv_goto (tgt := 96) hx hb dX12_book_142 (by decide) ?_
                      have rw177 : RoV 13 bq V V150 := (fun k hk => ((ajV150 13 k rfl).trans (xlp28_5 k hk)))
                      have rw178 : RoV 16 bq V V150 := (fun k hk => ((t148 k hk).trans (xlp28_6 k hk)))
                      have rw179 : RoV 19 bq V V150 := (fun k hk => ((ajV150 19 k rfl).trans (xlp28_7 k hk)))
                      have rw180 : RoV 35 bq V V150 := (fun k hk => ((ajV150 35 k rfl).trans (xlp28_8 k hk)))
                      have rw181 : RoV 37 bq V V150 := (fun k hk => ((ajV150 37 k rfl).trans (xlp28_9 k hk)))
                      have rw182 : RoL 14 24 bq L L151 := (fun k hk => ((axL151 14 k rfl).trans (xlp28_10 k hk)))
                      have rw183 : RoL 17 12 bq L L151 := (fun k hk => ((t149 k hk).trans (xlp28_11 k hk)))
                      have rw184 : RoL 20 24 bq L L151 := (fun k hk => ((axL151 20 k rfl).trans (xlp28_12 k hk)))
                      have rw185 : RoL 36 20 bq L L151 := (fun k hk => ((axL151 36 k rfl).trans (xlp28_13 k hk)))
                      have rw186 : RoL 38 20 bq L L151 := (fun k hk => ((axL151 38 k rfl).trans (xlp28_14 k hk)))
                      exact ihlp28 (g27 - 1) V150 L151 H locs ls (show 0 ≤ (g27 - 1) from by first | omega | ((try (have i_t144 := Imp.go t144 (by omega))); (try (have i_xlp28_3 := Imp.go xlp28_3 (by omega))); (try (have i_xlp28_2 := Imp.go xlp28_2 (by omega))); (try (have i_xlp28_2 := Imp.go xlp28_2 (by omega))); (try (have i_xlp28_3 := Imp.go xlp28_3 (by omega))); (try (have i_t144 := Imp.go t144 (by omega))); omega)) (Or.inr ⟨(show 1 ≤ (V150 0 8).toInt from by omega), hb176⟩) (Imp.mk (fun hp => have hp : (V150 0 8).toInt = 0 := hp; (show (gn : Int) - (V150 0 7).toInt < (g27 - 1) from by first | omega | ((try (have i_t144 := Imp.go t144 (by omega))); (try (have i_xlp28_3 := Imp.go xlp28_3 (by omega))); (try (have i_xlp28_2 := Imp.go xlp28_2 (by omega))); (try (have i_xlp28_2 := Imp.go xlp28_2 (by omega))); (try (have i_xlp28_3 := Imp.go xlp28_3 (by omega))); (try (have i_t144 := Imp.go t144 (by omega))); omega)))) (Imp.mk (fun hp => have hp : (V150 0 8).toInt = 0 := hp; (show (V150 0 48).toInt ≤ 2 * (V150 0 7).toInt from by first | exact om_25cd5ecd1f71 ((Imp.go t144 (hp))) | first | omega | ((try (have i_t144 := Imp.go t144 (by omega))); (try (have i_xlp28_3 := Imp.go xlp28_3 (by omega))); (try (have i_xlp28_2 := Imp.go xlp28_2 (by omega))); (try (have i_xlp28_2 := Imp.go xlp28_2 (by omega))); (try (have i_xlp28_3 := Imp.go xlp28_3 (by omega))); (try (have i_t144 := Imp.go t144 (by omega))); omega)))) (show (V150 0 48).toInt ≤ 8200 from by first | exact om_d62df5b597d2 t145 | first | omega | ((try (have i_t144 := Imp.go t144 (by omega))); (try (have i_xlp28_3 := Imp.go xlp28_3 (by omega))); (try (have i_xlp28_2 := Imp.go xlp28_2 (by omega))); (try (have i_xlp28_2 := Imp.go xlp28_2 (by omega))); (try (have i_xlp28_3 := Imp.go xlp28_3 (by omega))); (try (have i_t144 := Imp.go t144 (by omega))); omega)) rw177 rw178 rw179 rw180 rw181 rw182 rw183 rw184 rw185 rw186 (by first | exact om_5922346f4861 hn | first | omega | ((try (have i_t144 := Imp.go t144 (by omega))); (try (have i_xlp28_3 := Imp.go xlp28_3 (by omega))); (try (have i_xlp28_2 := Imp.go xlp28_2 (by omega))); (try (have i_xlp28_2 := Imp.go xlp28_2 (by omega))); (try (have i_xlp28_3 := Imp.go xlp28_3 (by omega))); (try (have i_t144 := Imp.go t144 (by omega))); omega)) alL151 (agr.tr (agr.tr agr.rf ajV25 (by decide) (by decide)) ajV150 (by decide) (by decide)) hMV150 hP hD hS (lv_sub hl [0] rfl)
                · skip
                  have kd187 : gT.1 (s1.1 0) ≠ 130 := fun h9 => h136 (h9.trans (by decide))
                  refine lv_if_eq (tgt := 145) hx hb dX12_book_135 (by decide) (fun c188 => ?_) (fun c188 => ?_)
                  · skip
                    have f189 : z131.toInt = 0 := b_eq rfl (by decide) c188
                    refine lv_aload_n hx hb dX12_book_145 rfl (lv_at hl 0 rfl) ?_
                    refine lv_iconst (v := 3) hx hb dX12_book_146 (by decide) ?_
                    have r190 : Int32.toInt 3 = 3 := by decide
                    refine gA_int (gA_runV (As := [.int 3]) (rest := []) (ci := 12) (q0 := 0) hx hb hml hown hg hP hD hK hS hA hnw hgk (s_isWordA l D ks H.size ad kk V25 L26 3 (bq) (gn) (gT) (s1) ((s1.2.1 2)) hMV25 (by decide) rq) w2023 w2025 w83 w172 w2026 rfl rfl hdV_yX12_isWord ⟨Nat.le_of_ble_eq_true rfl, Nat.le_of_ble_eq_true rfl⟩ rfl hl.1 rfl (Nat.le_of_ble_eq_true rfl) dX12_book_147 ⟨Nat.le_of_ble_eq_true rfl, Nat.le_of_ble_eq_true rfl⟩) hP hD hK hS hA (fun z191 u192 H locs w193 hP hD hK hS => ?_)
                    obtain ⟨rgz191, t194⟩ := w193
                    replace rgz191 : 0 ≤ z191.toInt ∧ z191.toInt ≤ 1 := rgz191
                    replace t194 : (z191.toInt = 1 ∧ (gT).1 ((s1).1 0) = 128 + (Int32.toInt 3)) ∨ (z191.toInt = 0 ∧ (gT).1 ((s1).1 0) ≠ 128 + (Int32.toInt 3)) := t194
                    rcases t194 with ⟨q195, h196⟩ | ⟨q195, h196⟩
                    · skip
                      have kd197 : gT.1 (s1.1 0) = 131 := h196.trans (by decide)
                      refine lv_if_eq (tgt := 160) hx hb dX12_book_150 (by decide) (fun c198 => ?_) (fun c198 => ?_)
                      · skip
                        have f199 : z191.toInt = 0 := b_eq rfl (by decide) c198
                        exfalso; first | exact om_495ee03a60ae q195 f199 | first | omega | ((try (have i_xlp28_3 := Imp.go xlp28_3 (by omega))); (try (have i_xlp28_2 := Imp.go xlp28_2 (by omega))); (try (have i_xlp28_2 := Imp.go xlp28_2 (by omega))); (try (have i_xlp28_3 := Imp.go xlp28_3 (by omega))); omega)
                      · skip
                        have f200 : z191.toInt ≠ 0 := b_neq rfl (by decide) c198
                        refine lv_aload_n hx hb dX12_book_153 rfl (lv_at hl 0 rfl) ?_
                        refine gA_void (gA_runV (As := []) (rest := []) (ci := 12) (q0 := 0) hx hb hml hown hg hP hD hK hS hA hnw hgk (s_toldComponentA l D ks H.size ad kk V25 L26 (bq) (gn) (gT) (s1) hMV25 rq kd197 (show (V25 0 48).toInt ≤ 2 * (V25 0 7).toInt from by first | exact om_25cd5ecd1f71 ((Imp.go xlp28_3 (f34))) | first | omega | ((try (have i_xlp28_3 := Imp.go xlp28_3 (by omega))); (try (have i_xlp28_2 := Imp.go xlp28_2 (by omega))); (try (have i_xlp28_2 := Imp.go xlp28_2 (by omega))); (try (have i_xlp28_3 := Imp.go xlp28_3 (by omega))); omega)) aq nq ⟨eq9.1, eq9.2.1, eq9.2.2⟩) w2088 w2090 w99 w172 w2091 rfl rfl hdV_yX12_toldComponent ⟨Nat.le_of_ble_eq_true rfl, Nat.le_of_ble_eq_true rfl⟩ rfl hl.1 rfl (Nat.le_of_ble_eq_true rfl) dX12_book_154 ⟨Nat.le_of_ble_eq_true rfl, Nat.le_of_ble_eq_true rfl⟩) hP hD hK hS hA (fun u202 H locs w203 hP hD hK hS => ?_)
                        obtain ⟨V214, L215⟩ := u202
                        obtain ⟨hMV214, ajV214, axL215, t204, t205, t206, t207, t208, t209, t210, t211, t212, t213⟩ := w203
                        have alL215 : agL [4, 5, 6, 13, 14, 15, 16, 17, 18, 19, 20, 21, 22, 23, 24, 25, 26, 27, 28, 29, 30, 31, 32, 33, 34, 35, 36, 37, 38, 39, 40, 41, 42, 43, 44, 45, 46, 47, 53, 56, 57, 59] L L215 := agL.tr alL26 axL215 (by decide)
                        replace hP : va_P D vwCl (mw ad kk ks.1 V214 L215) H := hP
                        replace hD : va_D A (mw ad kk ks.1 V214 L215) := hD
                        replace hMV214 : rgd bM V214 := hMV214
                        replace ajV214 : agr [(0, 7), (0, 8), (0, 48), (0, 50), (0, 51), (0, 52)] [15, 19, 20, 21, 22, 23, 24, 25, 26, 27, 28, 29, 30, 31, 32, 33, 34, 35, 36, 37, 38, 45, 46, 47, 53] V25 V214 := ajV214
                        have agV214 : agr [(0, 0), (0, 2), (0, 3), (0, 7), (0, 8), (0, 11), (0, 12), (0, 48), (0, 49), (0, 50), (0, 51), (0, 52), (0, 54), (0, 55), (0, 60), (0, 65), (0, 69), (0, 70), (0, 71), (0, 72), (0, 73), (0, 76), (0, 81)] [4, 5, 6, 13, 14, 15, 16, 17, 18, 19, 20, 21, 22, 23, 24, 25, 26, 27, 28, 29, 30, 31, 32, 33, 34, 35, 36, 37, 38, 39, 40, 41, 42, 43, 44, 45, 46, 47, 53, 56, 57, 59] V V214 := agV25.tr ajV214 (by decide) (by decide)
                        replace t204 : Imp ((V214 0 8).toInt = 0) ((V214 0 48).toInt ≤ 2 * (V214 0 7).toInt) := t204
                        replace t205 : (V214 0 48).toInt ≤ 8200 := t205
                        replace t206 : (V214 0 12).toInt = (V25 0 12).toInt := t206
                        replace t207 : RdM (gT) (s1) (fun k => Istmt :: k) (fun k => Istmt :: k) (V214 0 8).toInt (fun s9 => RelM V214 L215 (bq) (gn) (gT) s9 (s9.2.1 2) ∧ (s1).1 0 + 1 ≤ s9.1 0 ∧ ARm s9 ∧ CNm V214 (bq) s9 ∧ CEm V214 (bq) s9) := t207
                        replace t208 : RoV 19 (bq) V25 V214 := t208
                        replace t209 : RoV 35 (bq) V25 V214 := t209
                        replace t210 : RoV 37 (bq) V25 V214 := t210
                        replace t211 : RoL 20 24 (bq) L26 L215 := t211
                        replace t212 : RoL 36 20 (bq) L26 L215 := t212
                        replace t213 : RoL 38 20 (bq) L26 L215 := t213
                        have r216 : 0 ≤ ((V214 0 48)).toInt ∧ ((V214 0 48)).toInt ≤ 10000 := hMV214 0 48
                        have r217 : 0 ≤ ((V214 0 8)).toInt ∧ ((V214 0 8)).toInt ≤ 70000 := hMV214 0 8
                        have pq218 : (V25 0 12).toInt = z14.toInt := congrArg Int32.toInt ((ajV25 0 12 rfl).trans ((up2_k hV24 (by decide)).trans ((up2_k hV22 (by decide)).trans ((up2_o hV21 (by decide)).trans ((up2_o hV20 (by decide)).trans ((up2_o hV19 (by decide)).trans ((up2_o hV18 (by decide)).trans ((up2_o hV17 (by decide)).trans ((up2_o hV16 (by decide)).trans (up2_s hV15))))))))))
                        have pq219 : (V214 0 12).toInt = z14.toInt := congrArg Int32.toInt ((ajV214 0 12 rfl).trans ((ajV25 0 12 rfl).trans ((up2_k hV24 (by decide)).trans ((up2_k hV22 (by decide)).trans ((up2_o hV21 (by decide)).trans ((up2_o hV20 (by decide)).trans ((up2_o hV19 (by decide)).trans ((up2_o hV18 (by decide)).trans ((up2_o hV17 (by decide)).trans ((up2_o hV16 (by decide)).trans (up2_s hV15)))))))))))
                        rcases t207 with ⟨q220, sx221, h222, rl223, kp224⟩ | ⟨q220, h222⟩
                        · skip
                          have hr227 : ∀ k, Rc gT (Crun gs (Istmt :: k)) (Crun sx221 (Istmt :: k)) := fun k => (hq k).tr (h222 (k))
                          have fz228 := RelM.rg rl223
                          have ps229 := (kp224).1
                          refine lv_goto (tgt := 96) hx hb dX12_book_157 (by decide) ?_
                          have rw230 : RoV 13 bq V V214 := (fun k hk => ((ajV214 13 k rfl).trans (xlp28_5 k hk)))
                          have rw231 : RoV 16 bq V V214 := (fun k hk => ((ajV214 16 k rfl).trans (xlp28_6 k hk)))
                          have rw232 : RoV 19 bq V V214 := (fun k hk => ((t208 k hk).trans (xlp28_7 k hk)))
                          have rw233 : RoV 35 bq V V214 := (fun k hk => ((t209 k hk).trans (xlp28_8 k hk)))
                          have rw234 : RoV 37 bq V V214 := (fun k hk => ((t210 k hk).trans (xlp28_9 k hk)))
                          have rw235 : RoL 14 24 bq L L215 := (fun k hk => ((axL215 14 k rfl).trans (xlp28_10 k hk)))
                          have rw236 : RoL 17 12 bq L L215 := (fun k hk => ((axL215 17 k rfl).trans (xlp28_11 k hk)))
                          have rw237 : RoL 20 24 bq L L215 := (fun k hk => ((t211 k hk).trans (xlp28_12 k hk)))
                          have rw238 : RoL 36 20 bq L L215 := (fun k hk => ((t212 k hk).trans (xlp28_13 k hk)))
                          have rw239 : RoL 38 20 bq L L215 := (fun k hk => ((t213 k hk).trans (xlp28_14 k hk)))
                          exact ihlp28 (g27 - 1) V214 L215 H locs ls (show 0 ≤ (g27 - 1) from by first | omega | ((try (have i_t204 := Imp.go t204 (by omega))); (try (have i_xlp28_3 := Imp.go xlp28_3 (by omega))); (try (have i_xlp28_2 := Imp.go xlp28_2 (by omega))); (try (have i_xlp28_2 := Imp.go xlp28_2 (by omega))); (try (have i_xlp28_3 := Imp.go xlp28_3 (by omega))); (try (have i_t204 := Imp.go t204 (by omega))); omega)) (Or.inl ⟨W0 rl223, sx221, hr227, rl223, (kp224).2.1, (kp224).2.2.1, ⟨(kp224).2.2.2.1, (kp224).2.2.2.2.1, (kp224).2.2.2.2.2⟩⟩) (Imp.mk (fun hp => have hp : (V214 0 8).toInt = 0 := hp; (show (gn : Int) - (V214 0 7).toInt < (g27 - 1) from by first | omega | ((try (have i_t204 := Imp.go t204 (by omega))); (try (have i_xlp28_3 := Imp.go xlp28_3 (by omega))); (try (have i_xlp28_2 := Imp.go xlp28_2 (by omega))); (try (have i_xlp28_2 := Imp.go xlp28_2 (by omega))); (try (have i_xlp28_3 := Imp.go xlp28_3 (by omega))); (try (have i_t204 := Imp.go t204 (by omega))); omega)))) (Imp.mk (fun hp => have hp : (V214 0 8).toInt = 0 := hp; (show (V214 0 48).toInt ≤ 2 * (V214 0 7).toInt from by first | exact om_25cd5ecd1f71 ((Imp.go t204 (hp))) | first | omega | ((try (have i_t204 := Imp.go t204 (by omega))); (try (have i_xlp28_3 := Imp.go xlp28_3 (by omega))); (try (have i_xlp28_2 := Imp.go xlp28_2 (by omega))); (try (have i_xlp28_2 := Imp.go xlp28_2 (by omega))); (try (have i_xlp28_3 := Imp.go xlp28_3 (by omega))); (try (have i_t204 := Imp.go t204 (by omega))); omega)))) (show (V214 0 48).toInt ≤ 8200 from by first | exact om_d62df5b597d2 t205 | first | omega | ((try (have i_t204 := Imp.go t204 (by omega))); (try (have i_xlp28_3 := Imp.go xlp28_3 (by omega))); (try (have i_xlp28_2 := Imp.go xlp28_2 (by omega))); (try (have i_xlp28_2 := Imp.go xlp28_2 (by omega))); (try (have i_xlp28_3 := Imp.go xlp28_3 (by omega))); (try (have i_t204 := Imp.go t204 (by omega))); omega)) rw230 rw231 rw232 rw233 rw234 rw235 rw236 rw237 rw238 rw239 (by first | exact om_5922346f4861 hn | first | omega | ((try (have i_t204 := Imp.go t204 (by omega))); (try (have i_xlp28_3 := Imp.go xlp28_3 (by omega))); (try (have i_xlp28_2 := Imp.go xlp28_2 (by omega))); (try (have i_xlp28_2 := Imp.go xlp28_2 (by omega))); (try (have i_xlp28_3 := Imp.go xlp28_3 (by omega))); (try (have i_t204 := Imp.go t204 (by omega))); omega)) alL215 (agr.tr (agr.tr agr.rf ajV25 (by decide) (by decide)) ajV214 (by decide) (by decide)) hMV214 hP hD hS (lv_sub hl [0] rfl)
                        · skip
                          have hb240 : ∀ k, Rc gT (Crun gs (Istmt :: k)) (Cbad (V214 0 8).toInt) := fun k => (hq k).tr (h222 (k))
                          refine lv_goto (tgt := 96) hx hb dX12_book_157 (by decide) ?_
                          have rw241 : RoV 13 bq V V214 := (fun k hk => ((ajV214 13 k rfl).trans (xlp28_5 k hk)))
                          have rw242 : RoV 16 bq V V214 := (fun k hk => ((ajV214 16 k rfl).trans (xlp28_6 k hk)))
                          have rw243 : RoV 19 bq V V214 := (fun k hk => ((t208 k hk).trans (xlp28_7 k hk)))
                          have rw244 : RoV 35 bq V V214 := (fun k hk => ((t209 k hk).trans (xlp28_8 k hk)))
                          have rw245 : RoV 37 bq V V214 := (fun k hk => ((t210 k hk).trans (xlp28_9 k hk)))
                          have rw246 : RoL 14 24 bq L L215 := (fun k hk => ((axL215 14 k rfl).trans (xlp28_10 k hk)))
                          have rw247 : RoL 17 12 bq L L215 := (fun k hk => ((axL215 17 k rfl).trans (xlp28_11 k hk)))
                          have rw248 : RoL 20 24 bq L L215 := (fun k hk => ((t211 k hk).trans (xlp28_12 k hk)))
                          have rw249 : RoL 36 20 bq L L215 := (fun k hk => ((t212 k hk).trans (xlp28_13 k hk)))
                          have rw250 : RoL 38 20 bq L L215 := (fun k hk => ((t213 k hk).trans (xlp28_14 k hk)))
                          exact ihlp28 (g27 - 1) V214 L215 H locs ls (show 0 ≤ (g27 - 1) from by first | omega | ((try (have i_t204 := Imp.go t204 (by omega))); (try (have i_xlp28_3 := Imp.go xlp28_3 (by omega))); (try (have i_xlp28_2 := Imp.go xlp28_2 (by omega))); (try (have i_xlp28_2 := Imp.go xlp28_2 (by omega))); (try (have i_xlp28_3 := Imp.go xlp28_3 (by omega))); (try (have i_t204 := Imp.go t204 (by omega))); omega)) (Or.inr ⟨(show 1 ≤ (V214 0 8).toInt from by omega), hb240⟩) (Imp.mk (fun hp => have hp : (V214 0 8).toInt = 0 := hp; (show (gn : Int) - (V214 0 7).toInt < (g27 - 1) from by first | omega | ((try (have i_t204 := Imp.go t204 (by omega))); (try (have i_xlp28_3 := Imp.go xlp28_3 (by omega))); (try (have i_xlp28_2 := Imp.go xlp28_2 (by omega))); (try (have i_xlp28_2 := Imp.go xlp28_2 (by omega))); (try (have i_xlp28_3 := Imp.go xlp28_3 (by omega))); (try (have i_t204 := Imp.go t204 (by omega))); omega)))) (Imp.mk (fun hp => have hp : (V214 0 8).toInt = 0 := hp; (show (V214 0 48).toInt ≤ 2 * (V214 0 7).toInt from by first | exact om_25cd5ecd1f71 ((Imp.go t204 (hp))) | first | omega | ((try (have i_t204 := Imp.go t204 (by omega))); (try (have i_xlp28_3 := Imp.go xlp28_3 (by omega))); (try (have i_xlp28_2 := Imp.go xlp28_2 (by omega))); (try (have i_xlp28_2 := Imp.go xlp28_2 (by omega))); (try (have i_xlp28_3 := Imp.go xlp28_3 (by omega))); (try (have i_t204 := Imp.go t204 (by omega))); omega)))) (show (V214 0 48).toInt ≤ 8200 from by first | exact om_d62df5b597d2 t205 | first | omega | ((try (have i_t204 := Imp.go t204 (by omega))); (try (have i_xlp28_3 := Imp.go xlp28_3 (by omega))); (try (have i_xlp28_2 := Imp.go xlp28_2 (by omega))); (try (have i_xlp28_2 := Imp.go xlp28_2 (by omega))); (try (have i_xlp28_3 := Imp.go xlp28_3 (by omega))); (try (have i_t204 := Imp.go t204 (by omega))); omega)) rw241 rw242 rw243 rw244 rw245 rw246 rw247 rw248 rw249 rw250 (by first | exact om_5922346f4861 hn | first | omega | ((try (have i_t204 := Imp.go t204 (by omega))); (try (have i_xlp28_3 := Imp.go xlp28_3 (by omega))); (try (have i_xlp28_2 := Imp.go xlp28_2 (by omega))); (try (have i_xlp28_2 := Imp.go xlp28_2 (by omega))); (try (have i_xlp28_3 := Imp.go xlp28_3 (by omega))); (try (have i_t204 := Imp.go t204 (by omega))); omega)) alL215 (agr.tr (agr.tr agr.rf ajV25 (by decide) (by decide)) ajV214 (by decide) (by decide)) hMV214 hP hD hS (lv_sub hl [0] rfl)
                    · skip
                      have kd251 : gT.1 (s1.1 0) ≠ 131 := fun h9 => h196 (h9.trans (by decide))
                      refine lv_if_eq (tgt := 160) hx hb dX12_book_150 (by decide) (fun c252 => ?_) (fun c252 => ?_)
                      · skip
                        have f253 : z191.toInt = 0 := b_eq rfl (by decide) c252
                        refine lv_aload_n hx hb dX12_book_160 rfl (lv_at hl 0 rfl) ?_
                        refine lv_bipush (v := 8) hx hb dX12_book_161 (by decide) ?_
                        have r254 : Int32.toInt 8 = 8 := by decide
                        refine gA_int (gA_runV (As := [.int 8]) (rest := []) (ci := 12) (q0 := 0) hx hb hml hown hg hP hD hK hS hA hnw hgk (s_isWordA l D ks H.size ad kk V25 L26 8 (bq) (gn) (gT) (s1) ((s1.2.1 2)) hMV25 (by decide) rq) w2023 w2025 w83 w172 w2026 rfl rfl hdV_yX12_isWord ⟨Nat.le_of_ble_eq_true rfl, Nat.le_of_ble_eq_true rfl⟩ rfl hl.1 rfl (Nat.le_of_ble_eq_true rfl) dX12_book_163 ⟨Nat.le_of_ble_eq_true rfl, Nat.le_of_ble_eq_true rfl⟩) hP hD hK hS hA (fun z255 u256 H locs w257 hP hD hK hS => ?_)
                        obtain ⟨rgz255, t258⟩ := w257
                        replace rgz255 : 0 ≤ z255.toInt ∧ z255.toInt ≤ 1 := rgz255
                        replace t258 : (z255.toInt = 1 ∧ (gT).1 ((s1).1 0) = 128 + (Int32.toInt 8)) ∨ (z255.toInt = 0 ∧ (gT).1 ((s1).1 0) ≠ 128 + (Int32.toInt 8)) := t258
                        rcases t258 with ⟨q259, h260⟩ | ⟨q259, h260⟩
                        · skip
                          have kd261 : gT.1 (s1.1 0) = 136 := h260.trans (by decide)
                          refine lv_if_eq (tgt := 176) hx hb dX12_book_166 (by decide) (fun c262 => ?_) (fun c262 => ?_)
                          · skip
                            have f263 : z255.toInt = 0 := b_eq rfl (by decide) c262
                            exfalso; first | exact om_495ee03a60ae q259 f263 | first | omega | ((try (have i_xlp28_3 := Imp.go xlp28_3 (by omega))); (try (have i_xlp28_2 := Imp.go xlp28_2 (by omega))); (try (have i_xlp28_2 := Imp.go xlp28_2 (by omega))); (try (have i_xlp28_3 := Imp.go xlp28_3 (by omega))); omega)
                          · skip
                            have f264 : z255.toInt ≠ 0 := b_neq rfl (by decide) c262
                            refine lv_aload_n hx hb dX12_book_169 rfl (lv_at hl 0 rfl) ?_
                            refine gA_void (gA_runV (As := []) (rest := []) (ci := 12) (q0 := 0) hx hb hml hown hg hP hD hK hS hA hnw hgk (s_toldWrapA l D ks H.size ad kk V25 L26 (bq) (gn) (gT) (s1) hMV25 rq kd261 (show (V25 0 48).toInt ≤ 2 * (V25 0 7).toInt from by first | exact om_25cd5ecd1f71 ((Imp.go xlp28_3 (f34))) | first | omega | ((try (have i_xlp28_3 := Imp.go xlp28_3 (by omega))); (try (have i_xlp28_2 := Imp.go xlp28_2 (by omega))); (try (have i_xlp28_2 := Imp.go xlp28_2 (by omega))); (try (have i_xlp28_3 := Imp.go xlp28_3 (by omega))); omega)) aq nq ⟨eq9.1, eq9.2.1, eq9.2.2⟩) w2152 w2154 w115 w172 w2155 rfl rfl hdV_yX12_toldWrap ⟨Nat.le_of_ble_eq_true rfl, Nat.le_of_ble_eq_true rfl⟩ rfl hl.1 rfl (Nat.le_of_ble_eq_true rfl) dX12_book_170 ⟨Nat.le_of_ble_eq_true rfl, Nat.le_of_ble_eq_true rfl⟩) hP hD hK hS hA (fun u266 H locs w267 hP hD hK hS => ?_)
                            obtain ⟨V276, L277⟩ := u266
                            obtain ⟨hMV276, ajV276, axL277, t268, t269, t270, t271, t272, t273, t274, t275⟩ := w267
                            have alL277 : agL [4, 5, 6, 13, 14, 15, 16, 17, 18, 19, 20, 21, 22, 23, 24, 25, 26, 27, 28, 29, 30, 31, 32, 33, 34, 35, 36, 37, 38, 39, 40, 41, 42, 43, 44, 45, 46, 47, 53, 56, 57, 59] L L277 := agL.tr alL26 axL277 (by decide)
                            replace hP : va_P D vwCl (mw ad kk ks.1 V276 L277) H := hP
                            replace hD : va_D A (mw ad kk ks.1 V276 L277) := hD
                            replace hMV276 : rgd bM V276 := hMV276
                            replace ajV276 : agr [(0, 7), (0, 8), (0, 48), (0, 50), (0, 51), (0, 52)] [35, 36, 37, 38, 39, 40, 41, 42, 43, 44, 45, 46, 47] V25 V276 := ajV276
                            have agV276 : agr [(0, 0), (0, 2), (0, 3), (0, 7), (0, 8), (0, 11), (0, 12), (0, 48), (0, 49), (0, 50), (0, 51), (0, 52), (0, 54), (0, 55), (0, 60), (0, 65), (0, 69), (0, 70), (0, 71), (0, 72), (0, 73), (0, 76), (0, 81)] [4, 5, 6, 13, 14, 15, 16, 17, 18, 19, 20, 21, 22, 23, 24, 25, 26, 27, 28, 29, 30, 31, 32, 33, 34, 35, 36, 37, 38, 39, 40, 41, 42, 43, 44, 45, 46, 47, 53, 56, 57, 59] V V276 := agV25.tr ajV276 (by decide) (by decide)
                            replace t268 : Imp ((V276 0 8).toInt = 0) ((V276 0 48).toInt ≤ 2 * (V276 0 7).toInt) := t268
                            replace t269 : (V276 0 48).toInt ≤ 8200 := t269
                            replace t270 : (V276 0 12).toInt = (V25 0 12).toInt := t270
                            replace t271 : RdM (gT) (s1) (fun k => Istmt :: k) (fun k => Istmt :: k) (V276 0 8).toInt (fun s9 => RelM V276 L277 (bq) (gn) (gT) s9 (s9.2.1 2) ∧ (s1).1 0 + 1 ≤ s9.1 0 ∧ ARm s9 ∧ CNm V276 (bq) s9 ∧ CEm V276 (bq) s9) := t271
                            replace t272 : RoV 35 (bq) V25 V276 := t272
                            replace t273 : RoV 37 (bq) V25 V276 := t273
                            replace t274 : RoL 36 20 (bq) L26 L277 := t274
                            replace t275 : RoL 38 20 (bq) L26 L277 := t275
                            have r278 : 0 ≤ ((V276 0 48)).toInt ∧ ((V276 0 48)).toInt ≤ 10000 := hMV276 0 48
                            have r279 : 0 ≤ ((V276 0 8)).toInt ∧ ((V276 0 8)).toInt ≤ 70000 := hMV276 0 8
                            have pq280 : (V25 0 12).toInt = z14.toInt := congrArg Int32.toInt ((ajV25 0 12 rfl).trans ((up2_k hV24 (by decide)).trans ((up2_k hV22 (by decide)).trans ((up2_o hV21 (by decide)).trans ((up2_o hV20 (by decide)).trans ((up2_o hV19 (by decide)).trans ((up2_o hV18 (by decide)).trans ((up2_o hV17 (by decide)).trans ((up2_o hV16 (by decide)).trans (up2_s hV15))))))))))
                            have pq281 : (V276 0 12).toInt = z14.toInt := congrArg Int32.toInt ((ajV276 0 12 rfl).trans ((ajV25 0 12 rfl).trans ((up2_k hV24 (by decide)).trans ((up2_k hV22 (by decide)).trans ((up2_o hV21 (by decide)).trans ((up2_o hV20 (by decide)).trans ((up2_o hV19 (by decide)).trans ((up2_o hV18 (by decide)).trans ((up2_o hV17 (by decide)).trans ((up2_o hV16 (by decide)).trans (up2_s hV15)))))))))))
                            rcases t271 with ⟨q282, sx283, h284, rl285, kp286⟩ | ⟨q282, h284⟩
                            · skip
                              have hr289 : ∀ k, Rc gT (Crun gs (Istmt :: k)) (Crun sx283 (Istmt :: k)) := fun k => (hq k).tr (h284 (k))
                              have fz290 := RelM.rg rl285
                              have ps291 := (kp286).1
                              refine lv_goto (tgt := 96) hx hb dX12_book_173 (by decide) ?_
                              have rw292 : RoV 13 bq V V276 := (fun k hk => ((ajV276 13 k rfl).trans (xlp28_5 k hk)))
                              have rw293 : RoV 16 bq V V276 := (fun k hk => ((ajV276 16 k rfl).trans (xlp28_6 k hk)))
                              have rw294 : RoV 19 bq V V276 := (fun k hk => ((ajV276 19 k rfl).trans (xlp28_7 k hk)))
                              have rw295 : RoV 35 bq V V276 := (fun k hk => ((t272 k hk).trans (xlp28_8 k hk)))
                              have rw296 : RoV 37 bq V V276 := (fun k hk => ((t273 k hk).trans (xlp28_9 k hk)))
                              have rw297 : RoL 14 24 bq L L277 := (fun k hk => ((axL277 14 k rfl).trans (xlp28_10 k hk)))
                              have rw298 : RoL 17 12 bq L L277 := (fun k hk => ((axL277 17 k rfl).trans (xlp28_11 k hk)))
                              have rw299 : RoL 20 24 bq L L277 := (fun k hk => ((axL277 20 k rfl).trans (xlp28_12 k hk)))
                              have rw300 : RoL 36 20 bq L L277 := (fun k hk => ((t274 k hk).trans (xlp28_13 k hk)))
                              have rw301 : RoL 38 20 bq L L277 := (fun k hk => ((t275 k hk).trans (xlp28_14 k hk)))
                              exact ihlp28 (g27 - 1) V276 L277 H locs ls (show 0 ≤ (g27 - 1) from by first | omega | ((try (have i_t268 := Imp.go t268 (by omega))); (try (have i_xlp28_3 := Imp.go xlp28_3 (by omega))); (try (have i_xlp28_2 := Imp.go xlp28_2 (by omega))); (try (have i_xlp28_2 := Imp.go xlp28_2 (by omega))); (try (have i_xlp28_3 := Imp.go xlp28_3 (by omega))); (try (have i_t268 := Imp.go t268 (by omega))); omega)) (Or.inl ⟨W0 rl285, sx283, hr289, rl285, (kp286).2.1, (kp286).2.2.1, ⟨(kp286).2.2.2.1, (kp286).2.2.2.2.1, (kp286).2.2.2.2.2⟩⟩) (Imp.mk (fun hp => have hp : (V276 0 8).toInt = 0 := hp; (show (gn : Int) - (V276 0 7).toInt < (g27 - 1) from by first | omega | ((try (have i_t268 := Imp.go t268 (by omega))); (try (have i_xlp28_3 := Imp.go xlp28_3 (by omega))); (try (have i_xlp28_2 := Imp.go xlp28_2 (by omega))); (try (have i_xlp28_2 := Imp.go xlp28_2 (by omega))); (try (have i_xlp28_3 := Imp.go xlp28_3 (by omega))); (try (have i_t268 := Imp.go t268 (by omega))); omega)))) (Imp.mk (fun hp => have hp : (V276 0 8).toInt = 0 := hp; (show (V276 0 48).toInt ≤ 2 * (V276 0 7).toInt from by first | exact om_25cd5ecd1f71 ((Imp.go t268 (hp))) | first | omega | ((try (have i_t268 := Imp.go t268 (by omega))); (try (have i_xlp28_3 := Imp.go xlp28_3 (by omega))); (try (have i_xlp28_2 := Imp.go xlp28_2 (by omega))); (try (have i_xlp28_2 := Imp.go xlp28_2 (by omega))); (try (have i_xlp28_3 := Imp.go xlp28_3 (by omega))); (try (have i_t268 := Imp.go t268 (by omega))); omega)))) (show (V276 0 48).toInt ≤ 8200 from by first | exact om_d62df5b597d2 t269 | first | omega | ((try (have i_t268 := Imp.go t268 (by omega))); (try (have i_xlp28_3 := Imp.go xlp28_3 (by omega))); (try (have i_xlp28_2 := Imp.go xlp28_2 (by omega))); (try (have i_xlp28_2 := Imp.go xlp28_2 (by omega))); (try (have i_xlp28_3 := Imp.go xlp28_3 (by omega))); (try (have i_t268 := Imp.go t268 (by omega))); omega)) rw292 rw293 rw294 rw295 rw296 rw297 rw298 rw299 rw300 rw301 (by first | exact om_5922346f4861 hn | first | omega | ((try (have i_t268 := Imp.go t268 (by omega))); (try (have i_xlp28_3 := Imp.go xlp28_3 (by omega))); (try (have i_xlp28_2 := Imp.go xlp28_2 (by omega))); (try (have i_xlp28_2 := Imp.go xlp28_2 (by omega))); (try (have i_xlp28_3 := Imp.go xlp28_3 (by omega))); (try (have i_t268 := Imp.go t268 (by omega))); omega)) alL277 (agr.tr (agr.tr agr.rf ajV25 (by decide) (by decide)) ajV276 (by decide) (by decide)) hMV276 hP hD hS (lv_sub hl [0] rfl)
                            · skip
                              have hb302 : ∀ k, Rc gT (Crun gs (Istmt :: k)) (Cbad (V276 0 8).toInt) := fun k => (hq k).tr (h284 (k))
                              refine lv_goto (tgt := 96) hx hb dX12_book_173 (by decide) ?_
                              have rw303 : RoV 13 bq V V276 := (fun k hk => ((ajV276 13 k rfl).trans (xlp28_5 k hk)))
                              have rw304 : RoV 16 bq V V276 := (fun k hk => ((ajV276 16 k rfl).trans (xlp28_6 k hk)))
                              have rw305 : RoV 19 bq V V276 := (fun k hk => ((ajV276 19 k rfl).trans (xlp28_7 k hk)))
                              have rw306 : RoV 35 bq V V276 := (fun k hk => ((t272 k hk).trans (xlp28_8 k hk)))
                              have rw307 : RoV 37 bq V V276 := (fun k hk => ((t273 k hk).trans (xlp28_9 k hk)))
                              have rw308 : RoL 14 24 bq L L277 := (fun k hk => ((axL277 14 k rfl).trans (xlp28_10 k hk)))
                              have rw309 : RoL 17 12 bq L L277 := (fun k hk => ((axL277 17 k rfl).trans (xlp28_11 k hk)))
                              have rw310 : RoL 20 24 bq L L277 := (fun k hk => ((axL277 20 k rfl).trans (xlp28_12 k hk)))
                              have rw311 : RoL 36 20 bq L L277 := (fun k hk => ((t274 k hk).trans (xlp28_13 k hk)))
                              have rw312 : RoL 38 20 bq L L277 := (fun k hk => ((t275 k hk).trans (xlp28_14 k hk)))
                              exact ihlp28 (g27 - 1) V276 L277 H locs ls (show 0 ≤ (g27 - 1) from by first | omega | ((try (have i_t268 := Imp.go t268 (by omega))); (try (have i_xlp28_3 := Imp.go xlp28_3 (by omega))); (try (have i_xlp28_2 := Imp.go xlp28_2 (by omega))); (try (have i_xlp28_2 := Imp.go xlp28_2 (by omega))); (try (have i_xlp28_3 := Imp.go xlp28_3 (by omega))); (try (have i_t268 := Imp.go t268 (by omega))); omega)) (Or.inr ⟨(show 1 ≤ (V276 0 8).toInt from by omega), hb302⟩) (Imp.mk (fun hp => have hp : (V276 0 8).toInt = 0 := hp; (show (gn : Int) - (V276 0 7).toInt < (g27 - 1) from by first | omega | ((try (have i_t268 := Imp.go t268 (by omega))); (try (have i_xlp28_3 := Imp.go xlp28_3 (by omega))); (try (have i_xlp28_2 := Imp.go xlp28_2 (by omega))); (try (have i_xlp28_2 := Imp.go xlp28_2 (by omega))); (try (have i_xlp28_3 := Imp.go xlp28_3 (by omega))); (try (have i_t268 := Imp.go t268 (by omega))); omega)))) (Imp.mk (fun hp => have hp : (V276 0 8).toInt = 0 := hp; (show (V276 0 48).toInt ≤ 2 * (V276 0 7).toInt from by first | exact om_25cd5ecd1f71 ((Imp.go t268 (hp))) | first | omega | ((try (have i_t268 := Imp.go t268 (by omega))); (try (have i_xlp28_3 := Imp.go xlp28_3 (by omega))); (try (have i_xlp28_2 := Imp.go xlp28_2 (by omega))); (try (have i_xlp28_2 := Imp.go xlp28_2 (by omega))); (try (have i_xlp28_3 := Imp.go xlp28_3 (by omega))); (try (have i_t268 := Imp.go t268 (by omega))); omega)))) (show (V276 0 48).toInt ≤ 8200 from by first | exact om_d62df5b597d2 t269 | first | omega | ((try (have i_t268 := Imp.go t268 (by omega))); (try (have i_xlp28_3 := Imp.go xlp28_3 (by omega))); (try (have i_xlp28_2 := Imp.go xlp28_2 (by omega))); (try (have i_xlp28_2 := Imp.go xlp28_2 (by omega))); (try (have i_xlp28_3 := Imp.go xlp28_3 (by omega))); (try (have i_t268 := Imp.go t268 (by omega))); omega)) rw303 rw304 rw305 rw306 rw307 rw308 rw309 rw310 rw311 rw312 (by first | exact om_5922346f4861 hn | first | omega | ((try (have i_t268 := Imp.go t268 (by omega))); (try (have i_xlp28_3 := Imp.go xlp28_3 (by omega))); (try (have i_xlp28_2 := Imp.go xlp28_2 (by omega))); (try (have i_xlp28_2 := Imp.go xlp28_2 (by omega))); (try (have i_xlp28_3 := Imp.go xlp28_3 (by omega))); (try (have i_t268 := Imp.go t268 (by omega))); omega)) alL277 (agr.tr (agr.tr agr.rf ajV25 (by decide) (by decide)) ajV276 (by decide) (by decide)) hMV276 hP hD hS (lv_sub hl [0] rfl)
                        · skip
                          have kd313 : gT.1 (s1.1 0) ≠ 136 := fun h9 => h260 (h9.trans (by decide))
                          refine lv_if_eq (tgt := 176) hx hb dX12_book_166 (by decide) (fun c314 => ?_) (fun c314 => ?_)
                          · skip
                            have f315 : z255.toInt = 0 := b_eq rfl (by decide) c314
                            refine lv_aload_n hx hb dX12_book_176 rfl (lv_at hl 0 rfl) ?_
                            refine lv_iconst (v := 1) hx hb dX12_book_177 (by decide) ?_
                            have r316 : Int32.toInt 1 = 1 := by decide
                            refine gA_void (gA_runV (As := [.int 1]) (rest := []) (ci := 12) (q0 := 0) hx hb hml hown hg hP hD hK hS hA hnw hgk (s_wrongA l D ks H.size ad kk V25 L26 1 (bq) (gn) (gT) (s1) ((s1.2.1 2)) hMV25 (by decide) rq) w2035 w2037 w86 w172 w2038 rfl rfl hdV_yX12_wrong ⟨Nat.le_of_ble_eq_true rfl, Nat.le_of_ble_eq_true rfl⟩ rfl hl.1 rfl (Nat.le_of_ble_eq_true rfl) dX12_book_178 ⟨Nat.le_of_ble_eq_true rfl, Nat.le_of_ble_eq_true rfl⟩) hP hD hK hS hA (fun u318 H locs w319 hP hD hK hS => ?_)
                            obtain ⟨V322, L323⟩ := u318
                            obtain ⟨hMV322, ajV322, axL323, t320, t321⟩ := w319
                            have axL323 : L26 = L323 := Eq.symm axL323
                            subst axL323
                            replace hP : va_P D vwCl (mw ad kk ks.1 V322 L26) H := hP
                            replace hD : va_D A (mw ad kk ks.1 V322 L26) := hD
                            replace hMV322 : rgd bM V322 := hMV322
                            replace ajV322 : agr [(0, 8)] [] V25 V322 := ajV322
                            have agV322 : agr [(0, 0), (0, 2), (0, 3), (0, 7), (0, 8), (0, 11), (0, 12), (0, 48), (0, 49), (0, 50), (0, 51), (0, 52), (0, 54), (0, 55), (0, 60), (0, 65), (0, 69), (0, 70), (0, 71), (0, 72), (0, 73), (0, 76), (0, 81)] [4, 5, 6, 13, 14, 15, 16, 17, 18, 19, 20, 21, 22, 23, 24, 25, 26, 27, 28, 29, 30, 31, 32, 33, 34, 35, 36, 37, 38, 39, 40, 41, 42, 43, 44, 45, 46, 47, 53, 56, 57, 59] V V322 := agV25.tr ajV322 (by decide) (by decide)
                            replace t320 : 1 ≤ (V322 0 8).toInt := t320
                            replace t321 : (V322 0 8).toInt = (Int32.toInt 1) + 16 * (gT).2.2 ((s1).1 0) := t321
                            have r324 : 0 ≤ ((V322 0 8)).toInt ∧ ((V322 0 8)).toInt ≤ 70000 := hMV322 0 8
                            have hb325 : ∀ k, Rc gT (Crun gs (Istmt :: k)) (Cbad (V322 0 8).toInt) := fun k => Rc.go1 (hq k) ((st_x kd69 kd127 kd187 kd251 kd313).trans (fl_eq rfl (show (V322 0 8).toInt = 1 + 16 * gT.2.2 (s1.1 0) from by omega)))
                            refine lv_goto (tgt := 96) hx hb dX12_book_181 (by decide) ?_
                            have pq326 : (V322 0 7).toInt = ((V25 0 7)).toInt := congrArg Int32.toInt (ajV322 0 7 rfl)
                            have pq327 : (V322 0 48).toInt = ((V25 0 48)).toInt := congrArg Int32.toInt (ajV322 0 48 rfl)
                            have rw328 : RoV 13 bq V V322 := (fun k hk => ((ajV322 13 k rfl).trans (xlp28_5 k hk)))
                            have rw329 : RoV 16 bq V V322 := (fun k hk => ((ajV322 16 k rfl).trans (xlp28_6 k hk)))
                            have rw330 : RoV 19 bq V V322 := (fun k hk => ((ajV322 19 k rfl).trans (xlp28_7 k hk)))
                            have rw331 : RoV 35 bq V V322 := (fun k hk => ((ajV322 35 k rfl).trans (xlp28_8 k hk)))
                            have rw332 : RoV 37 bq V V322 := (fun k hk => ((ajV322 37 k rfl).trans (xlp28_9 k hk)))
                            have rw333 : RoL 14 24 bq L L26 := (fun k hk => (xlp28_10 k hk))
                            have rw334 : RoL 17 12 bq L L26 := (fun k hk => (xlp28_11 k hk))
                            have rw335 : RoL 20 24 bq L L26 := (fun k hk => (xlp28_12 k hk))
                            have rw336 : RoL 36 20 bq L L26 := (fun k hk => (xlp28_13 k hk))
                            have rw337 : RoL 38 20 bq L L26 := (fun k hk => (xlp28_14 k hk))
                            exact ihlp28 (g27 - 1) V322 L26 H locs ls (show 0 ≤ (g27 - 1) from by first | omega | ((try (have i_xlp28_3 := Imp.go xlp28_3 (by omega))); (try (have i_xlp28_2 := Imp.go xlp28_2 (by omega))); (try (have i_xlp28_2 := Imp.go xlp28_2 (by omega))); (try (have i_xlp28_3 := Imp.go xlp28_3 (by omega))); omega)) (Or.inr ⟨(show 1 ≤ (V322 0 8).toInt from by (first | exact om_f8d8213eda45 t320 | omega)), hb325⟩) (Imp.mk (fun hp => have hp : (V322 0 8).toInt = 0 := hp; (show (gn : Int) - (V322 0 7).toInt < (g27 - 1) from by first | omega | ((try (have i_xlp28_3 := Imp.go xlp28_3 (by omega))); (try (have i_xlp28_2 := Imp.go xlp28_2 (by omega))); (try (have i_xlp28_2 := Imp.go xlp28_2 (by omega))); (try (have i_xlp28_3 := Imp.go xlp28_3 (by omega))); omega)))) (Imp.mk (fun hp => have hp : (V322 0 8).toInt = 0 := hp; (show (V322 0 48).toInt ≤ 2 * (V322 0 7).toInt from by first | omega | ((try (have i_xlp28_3 := Imp.go xlp28_3 (by omega))); (try (have i_xlp28_2 := Imp.go xlp28_2 (by omega))); (try (have i_xlp28_2 := Imp.go xlp28_2 (by omega))); (try (have i_xlp28_3 := Imp.go xlp28_3 (by omega))); omega)))) (show (V322 0 48).toInt ≤ 8200 from by first | exact om_7ed1cb9eefb0 xlp28_4 pq327 | first | omega | ((try (have i_xlp28_3 := Imp.go xlp28_3 (by omega))); (try (have i_xlp28_2 := Imp.go xlp28_2 (by omega))); (try (have i_xlp28_2 := Imp.go xlp28_2 (by omega))); (try (have i_xlp28_3 := Imp.go xlp28_3 (by omega))); omega)) rw328 rw329 rw330 rw331 rw332 rw333 rw334 rw335 rw336 rw337 (by first | exact om_5922346f4861 hn | first | omega | ((try (have i_xlp28_3 := Imp.go xlp28_3 (by omega))); (try (have i_xlp28_2 := Imp.go xlp28_2 (by omega))); (try (have i_xlp28_2 := Imp.go xlp28_2 (by omega))); (try (have i_xlp28_3 := Imp.go xlp28_3 (by omega))); omega)) alL26 (agr.tr (agr.tr agr.rf ajV25 (by decide) (by decide)) ajV322 (by decide) (by decide)) hMV322 hP hD hS (lv_sub hl [0] rfl)
                          · skip
                            have f338 : z255.toInt ≠ 0 := b_neq rfl (by decide) c314
                            exfalso; first | exact om_fb320d7600b7 rgz255.1 q259 f338 | first | omega | ((try (have i_xlp28_3 := Imp.go xlp28_3 (by omega))); (try (have i_xlp28_2 := Imp.go xlp28_2 (by omega))); (try (have i_xlp28_2 := Imp.go xlp28_2 (by omega))); (try (have i_xlp28_3 := Imp.go xlp28_3 (by omega))); omega)
                      · skip
                        have f339 : z191.toInt ≠ 0 := b_neq rfl (by decide) c252
                        exfalso; first | exact om_fb320d7600b7 rgz191.1 q195 f339 | first | omega | ((try (have i_xlp28_3 := Imp.go xlp28_3 (by omega))); (try (have i_xlp28_2 := Imp.go xlp28_2 (by omega))); (try (have i_xlp28_2 := Imp.go xlp28_2 (by omega))); (try (have i_xlp28_3 := Imp.go xlp28_3 (by omega))); omega)
                  · skip
                    have f340 : z131.toInt ≠ 0 := b_neq rfl (by decide) c188
                    exfalso; first | exact om_fb320d7600b7 rgz131.1 q135 f340 | first | omega | ((try (have i_xlp28_3 := Imp.go xlp28_3 (by omega))); (try (have i_xlp28_2 := Imp.go xlp28_2 (by omega))); (try (have i_xlp28_2 := Imp.go xlp28_2 (by omega))); (try (have i_xlp28_3 := Imp.go xlp28_3 (by omega))); omega)
              · skip
                have f341 : z71.toInt ≠ 0 := b_neq rfl (by decide) c128
                exfalso; first | exact om_fb320d7600b7 rgz71.1 q75 f341 | first | omega | ((try (have i_xlp28_3 := Imp.go xlp28_3 (by omega))); (try (have i_xlp28_2 := Imp.go xlp28_2 (by omega))); (try (have i_xlp28_2 := Imp.go xlp28_2 (by omega))); (try (have i_xlp28_3 := Imp.go xlp28_3 (by omega))); omega)
      · skip
        refine va_get (D := D) (ci := 12) (v := .int (V25 0 8)) (C := RX12) (T := TX12) (N := 100) hx hb hg inX12 hown hK hP 0 rfl rfl 8 (by decide) (hg _ w1714) (fun _ h9 => h9) rfl dX12_book_97 ?_
        refine lv_if_ne (tgt := 184) hx hb dX12_book_100 (by decide) (fun c342 => ?_) (fun c342 => ?_)
        · skip
          have f343 : ((V25 0 8)).toInt ≠ 0 := b_neq rfl (by decide) c342
          refine lv_aload_n hx hb dX12_book_184 rfl (lv_at hl 0 rfl) ?_
          refine va_get (D := D) (ci := 12) (v := .int (V25 0 8)) (C := RX12) (T := TX12) (N := 100) hx hb hg inX12 hown hK hP 0 rfl rfl 8 (by decide) (hg _ w1714) (fun _ h9 => h9) rfl dX12_book_185 ?_
          refine lv_if_ne (tgt := 203) hx hb dX12_book_188 (by decide) (fun c344 => ?_) (fun c344 => ?_)
          · skip
            have f345 : ((V25 0 8)).toInt ≠ 0 := b_neq rfl (by decide) c344
            refine lv_aload_n hx hb dX12_book_203 rfl (lv_at hl 0 rfl) ?_
            refine va_get (D := D) (ci := 12) (v := .int (V25 0 8)) (C := RX12) (T := TX12) (N := 100) hx hb hg inX12 hown hK hP 0 rfl rfl 8 (by decide) (hg _ w1714) (fun _ h9 => h9) rfl dX12_book_204 ?_
            have rw346 : RoV 13 bq V V25 := (fun k hk => (xlp28_5 k hk))
            have rw347 : RoV 16 bq V V25 := (fun k hk => (xlp28_6 k hk))
            have rw348 : RoV 19 bq V V25 := (fun k hk => (xlp28_7 k hk))
            have rw349 : RoV 35 bq V V25 := (fun k hk => (xlp28_8 k hk))
            have rw350 : RoV 37 bq V V25 := (fun k hk => (xlp28_9 k hk))
            have rw351 : RoL 14 24 bq L L26 := (fun k hk => (xlp28_10 k hk))
            have rw352 : RoL 17 12 bq L L26 := (fun k hk => (xlp28_11 k hk))
            have rw353 : RoL 20 24 bq L L26 := (fun k hk => (xlp28_12 k hk))
            have rw354 : RoL 36 20 bq L L26 := (fun k hk => (xlp28_13 k hk))
            have rw355 : RoL 38 20 bq L L26 := (fun k hk => (xlp28_14 k hk))
            exact W.iret (v := (V25 0 8)) hx hb hr (fun t ht hW => ⟨⟨(V25 0 8), (V25, L26), rfl, ⟨hMV25, agV25, alL26, (show 0 ≤ ((V25 0 8)).toInt ∧ ((V25 0 8)).toInt ≤ 70000 from by first | exact om_36888f5b3479 r29.1 r29.2 f343 | first | omega | ((try (have i_xlp28_3 := Imp.go xlp28_3 (by omega))); (try (have i_xlp28_2 := Imp.go xlp28_2 (by omega))); (try (have i_xlp28_2 := Imp.go xlp28_2 (by omega))); (try (have i_xlp28_3 := Imp.go xlp28_3 (by omega))); omega)), (by unfold BRES; rw [← hgs]; refine Or.inr ?_; rw [show ((V25 0 8)).toInt = (V25 0 8).toInt from by omega]; exact hq []), (Imp.mk (fun h9 => by exfalso; omega)), rw346, rw347, rw348, rw349, rw350, rw351, rw352, rw353, rw354, rw355⟩, by rw [ht]; exact hP, va_K.moved hW.alike hK, hD⟩, hS.F ht⟩) hS.2.2 dX12_book_207
          · skip
            have f356 : ((V25 0 8)).toInt = 0 := b_eq rfl (by decide) c344
            exfalso; first | exact om_0abcda13baee r29.1 f343 f356 | first | omega | ((try (have i_xlp28_3 := Imp.go xlp28_3 (by omega))); (try (have i_xlp28_2 := Imp.go xlp28_2 (by omega))); (try (have i_xlp28_2 := Imp.go xlp28_2 (by omega))); (try (have i_xlp28_3 := Imp.go xlp28_3 (by omega))); omega)
        · skip
          have f357 : ((V25 0 8)).toInt = 0 := b_eq rfl (by decide) c342
          exfalso; first | exact om_09885ab343b9 f8 f357 | first | omega | ((try (have i_xlp28_3 := Imp.go xlp28_3 (by omega))); (try (have i_xlp28_2 := Imp.go xlp28_2 (by omega))); (try (have i_xlp28_2 := Imp.go xlp28_2 (by omega))); (try (have i_xlp28_3 := Imp.go xlp28_3 (by omega))); omega)
  have pq358 : (V24 0 7).toInt = ((V10 0 7)).toInt := congrArg Int32.toInt ((up2_k hV24 (by decide)).trans ((up2_k hV22 (by decide)).trans ((up2_o hV21 (by decide)).trans ((up2_o hV20 (by decide)).trans ((up2_o hV19 (by decide)).trans ((up2_o hV18 (by decide)).trans ((up2_o hV17 (by decide)).trans ((up2_o hV16 (by decide)).trans (up2_k hV15 (by decide))))))))))
  have pq359 : (V24 0 8).toInt = ((V10 0 8)).toInt := congrArg Int32.toInt ((up2_k hV24 (by decide)).trans ((up2_k hV22 (by decide)).trans ((up2_o hV21 (by decide)).trans ((up2_o hV20 (by decide)).trans ((up2_o hV19 (by decide)).trans ((up2_o hV18 (by decide)).trans ((up2_o hV17 (by decide)).trans ((up2_o hV16 (by decide)).trans (up2_k hV15 (by decide))))))))))
  have pq360 : (V24 0 48).toInt = 0 := (congrArg Int32.toInt ((up2_k hV24 (by decide)).trans (up2_s hV22))).trans (by decide)
  have pq361 : (V24 0 12).toInt = z14.toInt := congrArg Int32.toInt ((up2_k hV24 (by decide)).trans ((up2_k hV22 (by decide)).trans ((up2_o hV21 (by decide)).trans ((up2_o hV20 (by decide)).trans ((up2_o hV19 (by decide)).trans ((up2_o hV18 (by decide)).trans ((up2_o hV17 (by decide)).trans ((up2_o hV16 (by decide)).trans (up2_s hV15)))))))))
  have kb9 : Int32.toNatClampNeg z14 = bq := by have h9 := i_clamp (x := z14) rfl (by (first | exact om_231f9f0bb782 zq1 hz14 | omega)); (first | exact om_e113bf57a97b zq1 hz14 h9 | omega)
  have nb13 : (V24 13 bq).toInt = 0 := by rw [← kb9]; exact (congrArg Int32.toInt ((up2_o hV24 (by decide)).trans ((up2_o hV22 (by decide)).trans ((up2_o hV21 (by decide)).trans ((up2_o hV20 (by decide)).trans ((up2_o hV19 (by decide)).trans ((up2_o hV18 (by decide)).trans ((up2_o hV17 (by decide)).trans (up2_s hV16))))))))).trans (by decide)
  have nb16 : (V24 16 bq).toInt = 0 := by rw [← kb9]; exact (congrArg Int32.toInt ((up2_o hV24 (by decide)).trans ((up2_o hV22 (by decide)).trans ((up2_o hV21 (by decide)).trans ((up2_o hV20 (by decide)).trans ((up2_o hV19 (by decide)).trans ((up2_o hV18 (by decide)).trans (up2_s hV17)))))))).trans (by decide)
  have nb19 : (V24 19 bq).toInt = 0 := by rw [← kb9]; exact (congrArg Int32.toInt ((up2_o hV24 (by decide)).trans ((up2_o hV22 (by decide)).trans ((up2_o hV21 (by decide)).trans ((up2_o hV20 (by decide)).trans ((up2_o hV19 (by decide)).trans (up2_s hV18))))))).trans (by decide)
  have nb35 : (V24 35 bq).toInt = 0 := by rw [← kb9]; exact (congrArg Int32.toInt ((up2_o hV24 (by decide)).trans ((up2_o hV22 (by decide)).trans ((up2_o hV21 (by decide)).trans ((up2_o hV20 (by decide)).trans (up2_s hV19)))))).trans (by decide)
  have nb37 : (V24 37 bq).toInt = 0 := by rw [← kb9]; exact (congrArg Int32.toInt ((up2_o hV24 (by decide)).trans ((up2_o hV22 (by decide)).trans ((up2_o hV21 (by decide)).trans (up2_s hV20))))).trans (by decide)
  have nb39 : (V24 39 bq).toInt = 0 := by rw [← kb9]; exact (congrArg Int32.toInt ((up2_o hV24 (by decide)).trans ((up2_o hV22 (by decide)).trans (up2_s hV21)))).trans (by decide)
  have rl0 : RelM V24 L11 bq gn gT gs (gs.2.1 2) := by rw [hgs]; exact RelM.z (TkM.ag tk0 (by rw [(up2_fo hV24 (by decide) : V24 4 = V22 4), (up2_fo hV22 (by decide) : V22 4 = V21 4), (up2_fo hV21 (by decide) : V21 4 = V20 4), (up2_fo hV20 (by decide) : V20 4 = V19 4), (up2_fo hV19 (by decide) : V19 4 = V18 4), (up2_fo hV18 (by decide) : V18 4 = V17 4), (up2_fo hV17 (by decide) : V17 4 = V16 4), (up2_fo hV16 (by decide) : V16 4 = V15 4), (up2_fo hV15 (by decide) : V15 4 = V10 4)] : V24 4 = V10 4) (by rw [(up2_fo hV24 (by decide) : V24 5 = V22 5), (up2_fo hV22 (by decide) : V22 5 = V21 5), (up2_fo hV21 (by decide) : V21 5 = V20 5), (up2_fo hV20 (by decide) : V20 5 = V19 5), (up2_fo hV19 (by decide) : V19 5 = V18 5), (up2_fo hV18 (by decide) : V18 5 = V17 5), (up2_fo hV17 (by decide) : V17 5 = V16 5), (up2_fo hV16 (by decide) : V16 5 = V15 5), (up2_fo hV15 (by decide) : V15 5 = V10 5)] : V24 5 = V10 5) rfl rfl) (by omega) (by omega) (by omega) bq2 nb13 nb16 nb19 nb35 nb37 nb39
  have ar0 : ARm gs := by rw [hgs]; exact ARm.z
  have pq362 : (V24 0 49).toInt = z23.toInt := congrArg Int32.toInt (up2_s hV24)
  have rw363 : RoV 13 bq V V24 := (fun k hk => ((up2_o hV24 (by decide)).trans ((up2_o hV22 (by decide)).trans ((up2_o hV21 (by decide)).trans ((up2_o hV20 (by decide)).trans ((up2_o hV19 (by decide)).trans ((up2_o hV18 (by decide)).trans ((up2_o hV17 (by decide)).trans ((up2_k hV16 (by omega)).trans ((up2_o hV15 (by decide)).trans ((ajV10 13 k rfl).trans ((up2_o hV2 (by decide)).trans rfl))))))))))))
  have rw364 : RoV 16 bq V V24 := (fun k hk => ((up2_o hV24 (by decide)).trans ((up2_o hV22 (by decide)).trans ((up2_o hV21 (by decide)).trans ((up2_o hV20 (by decide)).trans ((up2_o hV19 (by decide)).trans ((up2_o hV18 (by decide)).trans ((up2_k hV17 (by omega)).trans ((up2_o hV16 (by decide)).trans ((up2_o hV15 (by decide)).trans ((ajV10 16 k rfl).trans ((up2_o hV2 (by decide)).trans rfl))))))))))))
  have rw365 : RoV 19 bq V V24 := (fun k hk => ((up2_o hV24 (by decide)).trans ((up2_o hV22 (by decide)).trans ((up2_o hV21 (by decide)).trans ((up2_o hV20 (by decide)).trans ((up2_o hV19 (by decide)).trans ((up2_k hV18 (by omega)).trans ((up2_o hV17 (by decide)).trans ((up2_o hV16 (by decide)).trans ((up2_o hV15 (by decide)).trans ((ajV10 19 k rfl).trans ((up2_o hV2 (by decide)).trans rfl))))))))))))
  have rw366 : RoV 35 bq V V24 := (fun k hk => ((up2_o hV24 (by decide)).trans ((up2_o hV22 (by decide)).trans ((up2_o hV21 (by decide)).trans ((up2_o hV20 (by decide)).trans ((up2_k hV19 (by omega)).trans ((up2_o hV18 (by decide)).trans ((up2_o hV17 (by decide)).trans ((up2_o hV16 (by decide)).trans ((up2_o hV15 (by decide)).trans ((ajV10 35 k rfl).trans ((up2_o hV2 (by decide)).trans rfl))))))))))))
  have rw367 : RoV 37 bq V V24 := (fun k hk => ((up2_o hV24 (by decide)).trans ((up2_o hV22 (by decide)).trans ((up2_o hV21 (by decide)).trans ((up2_k hV20 (by omega)).trans ((up2_o hV19 (by decide)).trans ((up2_o hV18 (by decide)).trans ((up2_o hV17 (by decide)).trans ((up2_o hV16 (by decide)).trans ((up2_o hV15 (by decide)).trans ((ajV10 37 k rfl).trans ((up2_o hV2 (by decide)).trans rfl))))))))))))
  have rw368 : RoL 14 24 bq L L11 := (fun k hk => ((axL11 14 k rfl).trans rfl))
  have rw369 : RoL 17 12 bq L L11 := (fun k hk => ((axL11 17 k rfl).trans rfl))
  have rw370 : RoL 20 24 bq L L11 := (fun k hk => ((axL11 20 k rfl).trans rfl))
  have rw371 : RoL 36 20 bq L L11 := (fun k hk => ((axL11 36 k rfl).trans rfl))
  have rw372 : RoL 38 20 bq L L11 := (fun k hk => ((axL11 38 k rfl).trans rfl))
  exact lp28 ((((gn : Int) + 1) + 1 : Int).toNat) ((gn : Int) + 1) V24 L11 H locs ls (show 0 ≤ ((gn : Int) + 1) from by (first | exact om_484f1d066a6d | omega)) (Or.inl ⟨W0 rl0, gs, (fun k => Rc.rf), rl0, ar0, (by rw [hgs]; exact CNm.z), (by rw [hgs]; exact CEm.z (by omega) (by omega))⟩) (Imp.mk (fun hp => have hp : (V24 0 8).toInt = 0 := hp; (show (gn : Int) - (V24 0 7).toInt < ((gn : Int) + 1) from by (first | exact om_fda86f17f472 t7 pq358 | omega)))) (Imp.mk (fun hp => have hp : (V24 0 8).toInt = 0 := hp; (show (V24 0 48).toInt ≤ 2 * (V24 0 7).toInt from by (first | exact om_28eded427b2a t7 pq358 pq360 | omega)))) (show (V24 0 48).toInt ≤ 8200 from by (first | exact om_c8fa7d742947 pq360 | omega)) rw363 rw364 rw365 rw366 rw367 rw368 rw369 rw370 rw371 rw372 (by (first | exact om_e44dd51abc87 | omega)) alL11 agr.rf hMV24 hP hD hS (lv_sub hl [0] rfl)
end
section
/-! two contracts of one method -/
theorem Met.bothi {l : Launch} {y : MethodName} {ws : List Cond} {rm : Room} {Pc : Array Value → State → Prop} {S S2 : Type} {p1 : Int32 → S → Prop} {p2 : Int32 → S2 → Prop} {B1 : S → State → Prop} {B2 : S2 → State → Prop} {A : Nat → Prop} {mc ms : Nat} {free : Addr → Prop} (h1 : Met l y ws rm Pc (va_Qi p1 B1 A) mc ms free) (h2 : Met l y ws rm Pc (va_Qi p2 B2 A) mc ms free) : Met l y ws rm Pc (va_Qi (fun r u => p1 r u ∧ ∃ u2, p2 r u2) B1 A) mc ms free := by
  unfold Met MetFree at h1 h2 ⊢
  intro p e ha hf hc s m args below hfr hS hP hK
  obtain ⟨n, o, w, r, en, q, fr⟩ := h1 p e ha hf hc s m args below hfr hS hP hK
  obtain ⟨n', o', w', r', en', q', fr'⟩ := h2 p e ha hf hc s m args below hfr hS hP hK
  have hn : n = n' := by
    rcases Nat.lt_trichotomy n n' with h | h | h
    · exact absurd (w' n h) en.not_within
    · exact h
    · exact absurd (w n' h) en'.not_within
  subst hn
  have ho := en.outcome_unique en'
  subst ho
  obtain ⟨⟨r1, u1, e1, k1, b1⟩, f1⟩ := q
  obtain ⟨⟨r2, u2, e2, k2, b2⟩, f2⟩ := q'
  have er : r1 = r2 := by
    have z := e1.symm.trans e2
    cases z
    rfl
  subst er
  exact ⟨n, o, w, r, en, ⟨⟨r1, u1, e1, ⟨k1, u2, k2⟩, b1⟩, f1⟩, fr⟩
/-! the tokens of the class are the reference's -/
theorem TKR.mx {V W Vm Wm : Vf} {L M Mm : Lf} (c : CTx V L W M) (r : RTE Vm Wm Mm) (hn : (V 6 5).toInt = (Vm 0 2).toInt) (h0 : 0 ≤ (W 6 7).toInt) (hL : ∀ k : Nat, k < 28 → L 11 k = kg 155 k) (q : eqB (V 6 5).toInt.toNat (V 10) (Vm 1)) : ∃ t, TKR W M Wm Mm t := by
  obtain ⟨⟨S, E, k1, k2⟩, c2, c3, c4⟩ := c
  obtain ⟨t, ht, ⟨S', E', m1, m2⟩, r2, r3⟩ := r
  rw [← hn] at m1
  rw [c2] at k1
  have k3 := k1.ex q
  obtain ⟨e1, e2, e3⟩ := k3.uq m1
  refine ⟨t, ht, by omega, fun j hj => ?_, by rw [← e1, c3]; decide, by rw [r2]; decide, by rw [r3, ← e1, c4, hn]⟩
  have hj' : j < (W 6 7).toInt.toNat := by omega
  have a := k2 j hj'
  have b := m2 j hj
  rw [← e3 j hj', ← e2 (j + 1) (by omega)] at b
  exact ⟨by rw [a.1, b.1], KR.mk hL q (k1.2.1 j hj').2.2.2 a.2 b.2⟩
theorem TkM.of {V W Vm Wm : Vf} {L M Mm : Lf} (c : CTx V L W M) (r : RTE Vm Wm Mm) (hn : (V 6 5).toInt = (Vm 0 2).toInt) (h0 : 0 ≤ (W 6 7).toInt) (hL : ∀ k : Nat, k < 28 → L 11 k = kg 155 k) (q : eqB (V 6 5).toInt.toNat (V 10) (Vm 1)) (hk : ∀ k : Nat, k < 28 → Mm 10 k = kg 155 k) : TkM Wm Mm (tkOf W M) (W 6 7).toInt.toNat := by
  obtain ⟨t, t0, t1, t2, t3, t4, t5⟩ := TKR.mx c r hn h0 hL q
  have e : (W 6 7).toInt.toNat = t := by omega
  rw [e]
  exact ⟨t0, fun j hj => ⟨(t2 j hj).2, (t2 j hj).1⟩, t3, t4, t5, hk⟩
theorem BRES.eq {T : Tk} {a b : Int} {P Q : St → Prop} (h : BRES T a P) (k : BRES T b Q) : a = b := by
  unfold BRES at h k
  rcases h with ⟨h0, s, h1, _⟩ | h1
  · rcases k with ⟨k0, s', k1, _⟩ | k1
    · rw [h0, k0]
    · have z := h1.uq k1 trivial trivial
      injection z with z
      cases z
  · rcases k with ⟨k0, s', k1, _⟩ | k1
    · have z := h1.uq k1 trivial trivial
      injection z with z
      cases z
    · have z := h1.uq k1 trivial trivial
      injection z with z
      injection z with z
/-! what the law keeps of tape and words -/
def LQ (V : Vf) (L : Lf) (Vm : Vf) (Lm : Lf) : Prop := eqB (V 6 5).toInt.toNat (V 10) (Vm 1) ∧ allTp (V 6 5).toInt.toNat (V 10) ∧ (∀ k : Nat, k < 28 → L 11 k = kg 155 k) ∧ ∀ k : Nat, k < 28 → Lm 10 k = kg 155 k
section LQs
variable {V V1 Vm Vm1 : Vf} {L L1 Lm Lm1 : Lf}
theorem LQ.mv (h : LQ V L Vm Lm) (e5 : V1 6 5 = V 6 5) (e10 : V1 10 = V 10) (e1 : Vm1 1 = Vm 1) (k11 : L1 11 = L 11) (k10 : Lm1 10 = Lm 10) : LQ V1 L1 Vm1 Lm1 := by
  unfold LQ at h ⊢
  rw [e5, e10, e1, k11, k10]
  exact h
theorem LQ.nil (h : LQ V L Vm Lm) (e5 : (V1 6 5).toInt = 0) (k11 : L1 11 = L 11) (k10 : Lm1 10 = Lm 10) : LQ V1 L1 Vm1 Lm1 := by
  unfold LQ at h ⊢
  rw [e5, k11, k10]
  exact ⟨fun q hq => absurd hq (Nat.not_lt_zero _), fun q hq => absurd hq (Nat.not_lt_zero _), h.2.2⟩
theorem LQ.feed {a b c : Int64} (h : LQ V L Vm Lm) (e5 : (V1 6 5).toInt = ((apk 8 c (apk 8 b (apk 8 a (V 6 5).toInt.toNat)) : Nat) : Int)) (e10 : V1 10 = apF sgc 8 c (apk 8 b (apk 8 a (V 6 5).toInt.toNat)) (apF sgc 8 b (apk 8 a (V 6 5).toInt.toNat) (apF sgc 8 a (V 6 5).toInt.toNat (V 10)))) (e1 : Vm1 1 = apF sgm 8 c (apm 8 b (apm 8 a (V 6 5).toInt.toNat)) (apF sgm 8 b (apm 8 a (V 6 5).toInt.toNat) (apF sgm 8 a (V 6 5).toInt.toNat (Vm 1)))) (k11 : L1 11 = L 11) (k10 : Lm1 10 = Lm 10) : LQ V1 L1 Vm1 Lm1 := by
  unfold LQ at h ⊢
  rw [e5, e10, e1, k11, k10, Int.toNat_natCast, ← apF_cm, ← apF_cm, ← apF_cm, ← apk_apm8, ← apk_apm8]
  exact ⟨eqB.ap 8 c _ _ _ (eqB.ap 8 b _ _ _ (eqB.ap 8 a _ _ _ h.1)), allTp.ap 8 c _ _ (allTp.ap 8 b _ _ (allTp.ap 8 a _ _ h.2.1)), h.2.2⟩
end LQs
theorem BRES.mp {T : Tk} {a : Int} {P Q : St → Prop} (h : BRES T a P) (f : ∀ s, P s → Q s) : BRES T a Q := by
  unfold BRES at h ⊢
  rcases h with ⟨h0, s, h1, p⟩ | h1
  · exact Or.inl ⟨h0, s, h1, f s p⟩
  · exact Or.inr h1
theorem TBc.mv {V W : Vf} {L M : Lf} {b : Nat} {s : St} (h : TBc V L b s) (e43 : W 43 = V 43) (m44 : M 44 = L 44) : TBc W M b s := by
  unfold TBc at h ⊢
  rw [e43, m44]
  exact h


abbrev r_x_h_book3 : Room := { frames := 94, cells := 0, slots := 0, locals := 2751 }
abbrev q_x_h_book3 (D : va_G) (ks : KS) (ad : Nat → Nat) (kk : Nat → ClassId) (V : Vf) (L : Lf) (Z : XZ) (b : Nat) (b1 : Nat) (A : Nat → Prop) : Array Value → State → Outcome → State → Prop := va_Qi (fun (r : Int32) (u : Vf × Lf) => rgd bX u.1 ∧ agr [(0, 6), (0, 7), (0, 8), (0, 9), (1, 1), (1, 2), (1, 3), (1, 4), (1, 6), (1, 7), (1, 8), (2, 7), (3, 12), (3, 13), (3, 14), (3, 15), (4, 5), (4, 6), (4, 7), (4, 8), (5, 5), (5, 6), (5, 7), (5, 8), (5, 9), (5, 13), (6, 5), (6, 6), (6, 7), (6, 8), (6, 9), (6, 10)] [12, 13, 14, 23, 24, 25, 41, 42, 43, 44, 45, 46, 47, 48, 49, 50, 51, 52, 53, 54, 55, 56, 57, 58, 59, 60, 61, 62, 63, 64, 65, 66] V u.1 ∧ agL [1, 6, 14, 44] L u.2 ∧ (∃ (W9 : Vf) (M9 : Lf), CTx V L W9 M9 ∧ 0 ≤ (W9 6 7).toInt ∧ BRES (tkOf W9 M9) r.toInt (fun s9 => TBc u.1 u.2 b1 s9 ∧ CNc u.1 b1 s9 ∧ CEo u.1 b1 s9 ∧ WRc u.1 b1 s9)) ∧ (ROWL b1 L u.2)) (fun u t => gq D A (xw ad kk u.1 u.2 Z) (xty kk Z) t) A
set_option maxHeartbeats 4000000 in
set_option maxRecDepth 100000 in
theorem x_h_book3 (l : Launch) (D : va_G) (ks : KS) (sz : Nat) (ad : Nat → Nat) (kk : Nat → ClassId) (V : Vf) (L : Lf) (Z : XZ) (b : Nat) (b1 : Nat) (hMV : rgd bX V) (hb2 : b < 2) (hb1 : b1 < 2) (hbb : b + b1 = 1) (shk : (V 0 6).toInt = (b : Int)) (spk : (V 0 7).toInt = (b1 : Int)) (bp1 : ∀ k : Nat, (k : Int) < (V 6 5).toInt → isTp (V 10 k))  : Met l yX11_book (Cond.code yX11_book cX11_book 3 (some .int) :: GW) r_x_h_book3 (va_Pc [.ref (ad 0)] (gp D ks (xw ad kk V L Z) (xty kk Z) sz)) (q_x_h_book3 D ks ad kk V L Z  b b1 (va_A (xw ad kk V L Z) sz)) 0 0 (va_A (xw ad kk V L Z) sz) := by
  refine g_met (q_x_h_book3 D ks ad kk V L Z  b b1) (by decide) (Nat.le_of_ble_eq_true rfl) ?_
  intro p e s m below meth c A ls H locs hx hb hr hml hown hg hlocks hin hnw hgk hP hK hD hS hA hl
  replace hown : s.vm.findClass RX11 = some m.cls := hown
  replace hl : lv_has ls 3 [(0, .ref (ad 0))] := hl
  replace hP : va_P D vwCl (xw ad kk V L Z) H := hP
  replace hD : va_D A (xw ad kk V L Z) := hD
  replace hK : va_K D vwCl (xty kk Z) s := hK
  have agV : agr [(0, 6), (0, 7), (0, 8), (0, 9), (1, 1), (1, 2), (1, 3), (1, 4), (1, 6), (1, 7), (1, 8), (2, 7), (3, 12), (3, 13), (3, 14), (3, 15), (4, 5), (4, 6), (4, 7), (4, 8), (5, 5), (5, 6), (5, 7), (5, 8), (5, 9), (5, 13), (6, 5), (6, 6), (6, 7), (6, 8), (6, 9), (6, 10)] [12, 13, 14, 23, 24, 25, 41, 42, 43, 44, 45, 46, 47, 48, 49, 50, 51, 52, 53, 54, 55, 56, 57, 58, 59, 60, 61, 62, 63, 64, 65, 66] V V := agr.rf
  have alL : agL [1, 6, 14, 44] L L := agL.rf
  have r1 : 0 ≤ ((V 0 6)).toInt ∧ ((V 0 6)).toInt ≤ 1 := hMV 0 6
  have r2 : 0 ≤ ((V 0 7)).toInt ∧ ((V 0 7)).toInt ≤ 1 := hMV 0 7
  refine lv_aload_n hx hb dX11_book_0 rfl (lv_at hl 0 rfl) ?_
  refine va_get (D := D) (ci := 11) (v := .ref (ad 1)) (fs := (xfHouse ad V L Z)) (C := RX11) (T := TX11) (N := 10) hx hb hg inX11 hown hK hP 0 xgHouse rfl 1 (by decide) (hg _ w716) (fun _ h9 => h9) rfl dX11_book_1 ?_
  refine lv_aload_n hx hb dX11_book_4 rfl (lv_at hl 0 rfl) ?_
  refine va_get (D := D) (ci := 11) (v := .ref (ad (38 + Int32.toNatClampNeg (V 0 7)))) (fs := (xfHouse ad V L Z)) (C := RX11) (T := TX11) (N := 10) hx hb hg inX11 hown hK hP 0 xgHouse rfl 7 (by decide) (hg _ w722) (fun _ h9 => h9) rfl dX11_book_5 ?_
  refine g_topv (v := .ref (ad (38 + b1))) (rfP (by first | omega | ((try (have i_bp1 := Imp.go bp1 (by omega))); omega))) ?_
  refine gA_int (gA_runV (As := [.ref (ad (38 + b1))]) (rest := []) (ci := 1) (q0 := 1) hx hb hml hown hg hP hD hK hS hA hnw hgk (x_read3 l D ks H.size ad kk V L Z (b1) hMV (show b1 < 2 from by first | exact om_f940a4667dd6 hb1 | first | omega | ((try (have i_bp1 := Imp.go bp1 (by omega))); omega)) bp1) w758 w759 w760 w162 w761 rfl xgReader hdV_yX1_read ⟨Nat.le_of_ble_eq_true rfl, Nat.le_of_ble_eq_true rfl⟩ rfl hl.1 rfl (Nat.le_of_ble_eq_true rfl) dX11_book_8 ⟨Nat.le_of_ble_eq_true rfl, Nat.le_of_ble_eq_true rfl⟩) hP hD hK hS hA (fun z3 u4 H locs w5 hP hD hK hS => ?_)
  obtain ⟨V9, L10⟩ := u4
  obtain ⟨hMV9, ajV9, axL10, t6, t7, t8⟩ := w5
  have alL10 : agL [1, 6, 14, 44] L L10 := agL.tr alL axL10 (by decide)
  replace hP : va_P D vwCl (xw ad kk V9 L10 Z) H := hP
  replace hD : va_D A (xw ad kk V9 L10 Z) := hD
  replace hMV9 : rgd bX V9 := hMV9
  replace ajV9 : agr [(1, 1), (1, 2), (1, 3), (1, 4), (1, 6), (1, 7), (1, 8), (6, 6), (6, 7), (6, 8), (6, 9), (6, 10)] [12, 13, 14, 41, 42, 43, 44, 45, 46, 47, 48, 49, 50, 51, 52, 53, 54, 55, 56, 57, 58, 59, 60, 61, 62, 63, 64, 65, 66] V V9 := ajV9
  have agV9 : agr [(0, 6), (0, 7), (0, 8), (0, 9), (1, 1), (1, 2), (1, 3), (1, 4), (1, 6), (1, 7), (1, 8), (2, 7), (3, 12), (3, 13), (3, 14), (3, 15), (4, 5), (4, 6), (4, 7), (4, 8), (5, 5), (5, 6), (5, 7), (5, 8), (5, 9), (5, 13), (6, 5), (6, 6), (6, 7), (6, 8), (6, 9), (6, 10)] [12, 13, 14, 23, 24, 25, 41, 42, 43, 44, 45, 46, 47, 48, 49, 50, 51, 52, 53, 54, 55, 56, 57, 58, 59, 60, 61, 62, 63, 64, 65, 66] V V9 := agV.tr ajV9 (by decide) (by decide)
  replace t6 : CTx V L V9 L10 := t6
  replace t7 : BRES (tkOf V9 L10) z3.toInt (fun s9 => TBc V9 L10 b1 s9 ∧ CNc V9 b1 s9 ∧ CEo V9 b1 s9 ∧ WRc V9 b1 s9) := t7
  replace t8 : ROWL b1 L L10 := t8
  refine lv_istore_n (lv' := [(1, .int z3), (0, .ref (ad 0))]) hx hb dX11_book_11 rfl hl (by decide) rfl (fun ls hl => ?_)
  refine lv_aload_n hx hb dX11_book_12 rfl (lv_at hl 1 rfl) ?_
  refine va_get (D := D) (ci := 11) (v := .ref (ad 6)) (fs := (xfHouse ad V9 L10 Z)) (C := RX11) (T := TX11) (N := 10) hx hb hg inX11 hown hK hP 0 xgHouse rfl 0 (by decide) (hg _ w715) (fun _ h9 => h9) rfl dX11_book_13 ?_
  refine gA_void (gA_runV (As := []) (rest := []) (ci := 9) (q0 := 6) hx hb hml hown hg hP hD hK hS hA hnw hgk (x_empty l D ks H.size ad kk V9 L10 Z  hMV9 ) w1019 w1020 w1021 w157 w1022 rfl xgTape hdV_yX9_empty ⟨Nat.le_of_ble_eq_true rfl, Nat.le_of_ble_eq_true rfl⟩ rfl hl.1 rfl (Nat.le_of_ble_eq_true rfl) dX11_book_16 ⟨Nat.le_of_ble_eq_true rfl, Nat.le_of_ble_eq_true rfl⟩) hP hD hK hS hA (fun u12 H locs w13 hP hD hK hS => ?_)
  obtain ⟨V15, L16⟩ := u12
  obtain ⟨hMV15, ajV15, axL16, t14⟩ := w13
  have axL16 : L10 = L16 := Eq.symm axL16
  subst axL16
  replace hP : va_P D vwCl (xw ad kk V15 L10 Z) H := hP
  replace hD : va_D A (xw ad kk V15 L10 Z) := hD
  replace hMV15 : rgd bX V15 := hMV15
  replace ajV15 : agr [(6, 5)] [] V9 V15 := ajV15
  have agV15 : agr [(0, 6), (0, 7), (0, 8), (0, 9), (1, 1), (1, 2), (1, 3), (1, 4), (1, 6), (1, 7), (1, 8), (2, 7), (3, 12), (3, 13), (3, 14), (3, 15), (4, 5), (4, 6), (4, 7), (4, 8), (5, 5), (5, 6), (5, 7), (5, 8), (5, 9), (5, 13), (6, 5), (6, 6), (6, 7), (6, 8), (6, 9), (6, 10)] [12, 13, 14, 23, 24, 25, 41, 42, 43, 44, 45, 46, 47, 48, 49, 50, 51, 52, 53, 54, 55, 56, 57, 58, 59, 60, 61, 62, 63, 64, 65, 66] V V15 := agV9.tr ajV15 (by decide) (by decide)
  replace t14 : (V15 6 5).toInt = 0 := t14
  have r17 : 0 ≤ ((V15 6 5)).toInt ∧ ((V15 6 5)).toInt ≤ 4000 := hMV15 6 5
  refine lv_iload_n hx hb dX11_book_19 rfl (lv_at hl 0 rfl) ?_
  refine lv_if_eq (tgt := 25) hx hb dX11_book_20 (by decide) (fun c18 => ?_) (fun c18 => ?_)
  · skip
    have f19 : z3.toInt = 0 := b_eq rfl (by decide) c18
    refine lv_aload_n hx hb dX11_book_25 rfl (lv_at hl 1 rfl) ?_
    refine va_get (D := D) (ci := 11) (v := .ref (ad (38 + Int32.toNatClampNeg (V15 0 6)))) (fs := (xfHouse ad V15 L10 Z)) (C := RX11) (T := TX11) (N := 10) hx hb hg inX11 hown hK hP 0 xgHouse rfl 6 (by decide) (hg _ w721) (fun _ h9 => h9) rfl dX11_book_26 ?_
    have pq20 : (V15 0 6).toInt = ((V 0 6)).toInt := congrArg Int32.toInt ((ajV15 0 6 rfl).trans (ajV9 0 6 rfl))
    refine g_topv (v := .ref (ad (38 + b))) (rfP (by first | omega | ((try (have i_bp1 := Imp.go bp1 (by omega))); omega))) ?_
    refine lv_astore_n (lv' := [(2, .ref (ad (38 + b))), (1, .int z3), (0, .ref (ad 0))]) hx hb dX11_book_29 rfl hl (by decide) rfl (fun ls hl => ?_)
    refine lv_aload_n hx hb dX11_book_30 rfl (lv_at hl 2 rfl) ?_
    refine lv_aload_n hx hb dX11_book_31 rfl (lv_at hl 2 rfl) ?_
    refine va_get (D := D) (ci := 11) (v := .ref (ad (38 + Int32.toNatClampNeg (V15 0 7)))) (fs := (xfHouse ad V15 L10 Z)) (C := RX11) (T := TX11) (N := 10) hx hb hg inX11 hown hK hP 0 xgHouse rfl 7 (by decide) (hg _ w722) (fun _ h9 => h9) rfl dX11_book_32 ?_
    have pq21 : (V15 0 7).toInt = ((V 0 7)).toInt := congrArg Int32.toInt ((ajV15 0 7 rfl).trans (ajV9 0 7 rfl))
    refine g_topv (v := .ref (ad (38 + b1))) (rfP (by first | omega | ((try (have i_bp1 := Imp.go bp1 (by omega))); omega))) ?_
    refine va_put (D := D) (ci := 11) (v := .ref (ad (38 + b1))) (ty := tyX11 6) (fs := (xfHouse ad V15 L10 Z)) (C := RX11) (T := TX11) (N := 10) hx hb hg inX11 tyX11 tyX11_ok nmX11 hown hK hP hD hS 0 xgHouse rfl 6 (by decide) (hg _ w721) (fun _ h9 => h9) rfl (tyX11_ok 6 (by decide)) rfl rfl (Nat.le_of_ble_eq_true rfl) dX11_book_35 (fun H locs hP hD hS => ?_)
    have r22 : (nI b1).toInt = ((b1 : Nat) : Int) := nI_toInt (by omega)
    obtain ⟨V23, hV23⟩ : ∃ z, z = up2 V15 0 6 (nI b1) := ⟨_, rfl⟩
    have ew24 : (xw ad kk V15 L10 Z).set 0 ((ad 0), .inr (11, (xfHouse ad V15 L10 Z).set 6 (.ref (ad (38 + b1))))) = xw ad kk V23 L10 Z := by rw [hV23]; exact xr_shelf hb1
    have hP : va_P D vwCl (xw ad kk V23 L10 Z) H := by rw [← ew24]; exact hP
    have hD : va_D A (xw ad kk V23 L10 Z) := by rw [← ew24]; exact hD
    have hMV23 : rgd bX V23 := hMV15.put hV23 (show 0 ≤ ((nI b1)).toInt ∧ ((nI b1)).toInt ≤ 1 from by first | exact om_d98fff7a4861 hb1 r22 | first | omega | ((try (have i_bp1 := Imp.go bp1 (by omega))); omega))
    have agV23 : agr [(0, 6), (0, 7), (0, 8), (0, 9), (1, 1), (1, 2), (1, 3), (1, 4), (1, 6), (1, 7), (1, 8), (2, 7), (3, 12), (3, 13), (3, 14), (3, 15), (4, 5), (4, 6), (4, 7), (4, 8), (5, 5), (5, 6), (5, 7), (5, 8), (5, 9), (5, 13), (6, 5), (6, 6), (6, 7), (6, 8), (6, 9), (6, 10)] [12, 13, 14, 23, 24, 25, 41, 42, 43, 44, 45, 46, 47, 48, 49, 50, 51, 52, 53, 54, 55, 56, 57, 58, 59, 60, 61, 62, 63, 64, 65, 66] V V23 := agV15.up hV23 rfl
    refine lv_aload_n hx hb dX11_book_38 rfl (lv_at hl 2 rfl) ?_
    refine lv_aload_n hx hb dX11_book_39 rfl (lv_at hl 0 rfl) ?_
    refine va_put (D := D) (ci := 11) (v := .ref (ad (38 + b))) (ty := tyX11 7) (fs := (xfHouse ad V23 L10 Z)) (C := RX11) (T := TX11) (N := 10) hx hb hg inX11 tyX11 tyX11_ok nmX11 hown hK hP hD hS 0 xgHouse rfl 7 (by decide) (hg _ w722) (fun _ h9 => h9) rfl (tyX11_ok 7 (by decide)) rfl rfl (Nat.le_of_ble_eq_true rfl) dX11_book_40 (fun H locs hP hD hS => ?_)
    have r25 : (nI b).toInt = ((b : Nat) : Int) := nI_toInt (by omega)
    obtain ⟨V26, hV26⟩ : ∃ z, z = up2 V23 0 7 (nI b) := ⟨_, rfl⟩
    have ew27 : (xw ad kk V23 L10 Z).set 0 ((ad 0), .inr (11, (xfHouse ad V23 L10 Z).set 7 (.ref (ad (38 + b))))) = xw ad kk V26 L10 Z := by rw [hV26]; exact xr_spare hb2
    have hP : va_P D vwCl (xw ad kk V26 L10 Z) H := by rw [← ew27]; exact hP
    have hD : va_D A (xw ad kk V26 L10 Z) := by rw [← ew27]; exact hD
    have hMV26 : rgd bX V26 := hMV23.put hV26 (show 0 ≤ ((nI b)).toInt ∧ ((nI b)).toInt ≤ 1 from by first | exact om_cf08f328c789 hb1 hbb r25 | first | omega | ((try (have i_bp1 := Imp.go bp1 (by omega))); omega))
    have agV26 : agr [(0, 6), (0, 7), (0, 8), (0, 9), (1, 1), (1, 2), (1, 3), (1, 4), (1, 6), (1, 7), (1, 8), (2, 7), (3, 12), (3, 13), (3, 14), (3, 15), (4, 5), (4, 6), (4, 7), (4, 8), (5, 5), (5, 6), (5, 7), (5, 8), (5, 9), (5, 13), (6, 5), (6, 6), (6, 7), (6, 8), (6, 9), (6, 10)] [12, 13, 14, 23, 24, 25, 41, 42, 43, 44, 45, 46, 47, 48, 49, 50, 51, 52, 53, 54, 55, 56, 57, 58, 59, 60, 61, 62, 63, 64, 65, 66] V V26 := agV23.up hV26 rfl
    refine lv_aload_n hx hb dX11_book_43 rfl (lv_at hl 2 rfl) ?_
    refine va_get (D := D) (ci := 11) (v := .ref (ad 3)) (fs := (xfHouse ad V26 L10 Z)) (C := RX11) (T := TX11) (N := 10) hx hb hg inX11 hown hK hP 0 xgHouse rfl 3 (by decide) (hg _ w718) (fun _ h9 => h9) rfl dX11_book_44 ?_
    refine gA_void (gA_runV (As := []) (rest := []) (ci := 8) (q0 := 3) hx hb hml hown hg hP hD hK hS hA hnw hgk (x_sclear2 l D ks H.size ad kk V26 L10 Z  hMV26 ) w1023 w1024 w1025 w164 w1026 rfl xgStock hdV_yX8_clear ⟨Nat.le_of_ble_eq_true rfl, Nat.le_of_ble_eq_true rfl⟩ rfl hl.1 rfl (Nat.le_of_ble_eq_true rfl) dX11_book_47 ⟨Nat.le_of_ble_eq_true rfl, Nat.le_of_ble_eq_true rfl⟩) hP hD hK hS hA (fun u29 H locs w30 hP hD hK hS => ?_)
    obtain ⟨V34, L35⟩ := u29
    obtain ⟨hMV34, ajV34, axL35, t31, t32, t33⟩ := w30
    have axL35 : L10 = L35 := Eq.symm axL35
    subst axL35
    replace hP : va_P D vwCl (xw ad kk V34 L10 Z) H := hP
    replace hD : va_D A (xw ad kk V34 L10 Z) := hD
    replace hMV34 : rgd bX V34 := hMV34
    replace ajV34 : agr [(3, 12), (3, 13), (3, 14), (3, 15)] [23, 24, 25] V26 V34 := ajV34
    have agV34 : agr [(0, 6), (0, 7), (0, 8), (0, 9), (1, 1), (1, 2), (1, 3), (1, 4), (1, 6), (1, 7), (1, 8), (2, 7), (3, 12), (3, 13), (3, 14), (3, 15), (4, 5), (4, 6), (4, 7), (4, 8), (5, 5), (5, 6), (5, 7), (5, 8), (5, 9), (5, 13), (6, 5), (6, 6), (6, 7), (6, 8), (6, 9), (6, 10)] [12, 13, 14, 23, 24, 25, 41, 42, 43, 44, 45, 46, 47, 48, 49, 50, 51, 52, 53, 54, 55, 56, 57, 58, 59, 60, 61, 62, 63, 64, 65, 66] V V34 := agV26.tr ajV34 (by decide) (by decide)
    replace t31 : (V34 3 13).toInt = 0 := t31
    replace t32 : (V34 3 15).toInt = 0 := t32
    replace t33 : ∀ q : Nat, q < 960 → (V34 25 q).toInt = -1 := t33
    have r36 : 0 ≤ ((V34 3 13)).toInt ∧ ((V34 3 13)).toInt ≤ 300 := hMV34 3 13
    have r37 : 0 ≤ ((V34 3 15)).toInt ∧ ((V34 3 15)).toInt ≤ 262144 := hMV34 3 15
    refine lv_aload_n hx hb dX11_book_50 rfl (lv_at hl 2 rfl) ?_
    refine va_get (D := D) (ci := 11) (v := .ref (ad 4)) (fs := (xfHouse ad V34 L10 Z)) (C := RX11) (T := TX11) (N := 10) hx hb hg inX11 hown hK hP 0 xgHouse rfl 4 (by decide) (hg _ w719) (fun _ h9 => h9) rfl dX11_book_51 ?_
    refine gA_void (gA_runV (As := []) (rest := []) (ci := 7) (q0 := 4) hx hb hml hown hg hP hD hK hS hA hnw hgk (x_Nclear l D ks H.size ad kk V34 L10 Z  hMV34 ) w1031 w1032 w1033 w166 w1034 rfl xgNotes hdV_yX7_clear ⟨Nat.le_of_ble_eq_true rfl, Nat.le_of_ble_eq_true rfl⟩ rfl hl.1 rfl (Nat.le_of_ble_eq_true rfl) dX11_book_54 ⟨Nat.le_of_ble_eq_true rfl, Nat.le_of_ble_eq_true rfl⟩) hP hD hK hS hA (fun u39 H locs w40 hP hD hK hS => ?_)
    obtain ⟨V41, L42⟩ := u39
    obtain ⟨hMV41, ajV41, axL42⟩ := w40
    have axL42 : L10 = L42 := Eq.symm axL42
    subst axL42
    replace hP : va_P D vwCl (xw ad kk V41 L10 Z) H := hP
    replace hD : va_D A (xw ad kk V41 L10 Z) := hD
    replace hMV41 : rgd bX V41 := hMV41
    replace ajV41 : agr [(4, 5), (4, 6), (4, 7), (4, 8)] [] V34 V41 := ajV41
    have agV41 : agr [(0, 6), (0, 7), (0, 8), (0, 9), (1, 1), (1, 2), (1, 3), (1, 4), (1, 6), (1, 7), (1, 8), (2, 7), (3, 12), (3, 13), (3, 14), (3, 15), (4, 5), (4, 6), (4, 7), (4, 8), (5, 5), (5, 6), (5, 7), (5, 8), (5, 9), (5, 13), (6, 5), (6, 6), (6, 7), (6, 8), (6, 9), (6, 10)] [12, 13, 14, 23, 24, 25, 41, 42, 43, 44, 45, 46, 47, 48, 49, 50, 51, 52, 53, 54, 55, 56, 57, 58, 59, 60, 61, 62, 63, 64, 65, 66] V V41 := agV34.tr ajV41 (by decide) (by decide)
    refine lv_aload_n hx hb dX11_book_57 rfl (lv_at hl 2 rfl) ?_
    refine va_get (D := D) (ci := 11) (v := .ref (ad 2)) (fs := (xfHouse ad V41 L10 Z)) (C := RX11) (T := TX11) (N := 10) hx hb hg inX11 hown hK hP 0 xgHouse rfl 2 (by decide) (hg _ w717) (fun _ h9 => h9) rfl dX11_book_58 ?_
    refine gA_void (gA_runV (As := []) (rest := []) (ci := 2) (q0 := 2) hx hb hml hown hg hP hD hK hS hA hnw hgk (x_kclear l D ks H.size ad kk V41 L10 Z  hMV41 ) w1035 w1036 w1037 w163 w1038 rfl xgChecker hdV_yX2_clear ⟨Nat.le_of_ble_eq_true rfl, Nat.le_of_ble_eq_true rfl⟩ rfl hl.1 rfl (Nat.le_of_ble_eq_true rfl) dX11_book_61 ⟨Nat.le_of_ble_eq_true rfl, Nat.le_of_ble_eq_true rfl⟩) hP hD hK hS hA (fun u44 H locs w45 hP hD hK hS => ?_)
    obtain ⟨V46, L47⟩ := u44
    obtain ⟨hMV46, ajV46, axL47⟩ := w45
    have axL47 : L10 = L47 := Eq.symm axL47
    subst axL47
    replace hP : va_P D vwCl (xw ad kk V46 L10 Z) H := hP
    replace hD : va_D A (xw ad kk V46 L10 Z) := hD
    replace hMV46 : rgd bX V46 := hMV46
    replace ajV46 : agr [(2, 7)] [] V41 V46 := ajV46
    have agV46 : agr [(0, 6), (0, 7), (0, 8), (0, 9), (1, 1), (1, 2), (1, 3), (1, 4), (1, 6), (1, 7), (1, 8), (2, 7), (3, 12), (3, 13), (3, 14), (3, 15), (4, 5), (4, 6), (4, 7), (4, 8), (5, 5), (5, 6), (5, 7), (5, 8), (5, 9), (5, 13), (6, 5), (6, 6), (6, 7), (6, 8), (6, 9), (6, 10)] [12, 13, 14, 23, 24, 25, 41, 42, 43, 44, 45, 46, 47, 48, 49, 50, 51, 52, 53, 54, 55, 56, 57, 58, 59, 60, 61, 62, 63, 64, 65, 66] V V46 := agV41.tr ajV46 (by decide) (by decide)
    refine lv_aload_n hx hb dX11_book_64 rfl (lv_at hl 2 rfl) ?_
    refine va_get (D := D) (ci := 11) (v := .ref (ad 5)) (fs := (xfHouse ad V46 L10 Z)) (C := RX11) (T := TX11) (N := 10) hx hb hg inX11 hown hK hP 0 xgHouse rfl 5 (by decide) (hg _ w720) (fun _ h9 => h9) rfl dX11_book_65 ?_
    refine lv_aload_n hx hb dX11_book_68 rfl (lv_at hl 2 rfl) ?_
    refine va_get (D := D) (ci := 11) (v := .ref (ad (38 + Int32.toNatClampNeg (V46 0 6)))) (fs := (xfHouse ad V46 L10 Z)) (C := RX11) (T := TX11) (N := 10) hx hb hg inX11 hown hK hP 0 xgHouse rfl 6 (by decide) (hg _ w721) (fun _ h9 => h9) rfl dX11_book_69 ?_
    have pq48 : (V46 0 6).toInt = ((nI b1)).toInt := congrArg Int32.toInt ((ajV46 0 6 rfl).trans ((ajV41 0 6 rfl).trans ((ajV34 0 6 rfl).trans ((up2_k hV26 (by decide)).trans (up2_s hV23)))))
    refine g_topv (v := .ref (ad (38 + b1))) (rfP (by first | omega | ((try (have i_bp1 := Imp.go bp1 (by omega))); omega))) ?_
    refine gA_void (gA_runV (As := [.ref (ad (38 + b1))]) (rest := []) (ci := 5) (q0 := 5) hx hb hml hown hg hP hD hK hS hA hnw hgk (x_takeBook l D ks H.size ad kk V46 L10 Z (b1) hMV46 (show b1 < 2 from by first | exact om_f940a4667dd6 hb1 | first | omega | ((try (have i_bp1 := Imp.go bp1 (by omega))); omega))) w1039 w1040 w1041 w171 w1042 rfl xgMachine hdV_yX5_takeBook ⟨Nat.le_of_ble_eq_true rfl, Nat.le_of_ble_eq_true rfl⟩ rfl hl.1 rfl (Nat.le_of_ble_eq_true rfl) dX11_book_72 ⟨Nat.le_of_ble_eq_true rfl, Nat.le_of_ble_eq_true rfl⟩) hP hD hK hS hA (fun u50 H locs w51 hP hD hK hS => ?_)
    obtain ⟨V54, L55⟩ := u50
    obtain ⟨hMV54, ajV54, axL55, t52, t53⟩ := w51
    have axL55 : L10 = L55 := Eq.symm axL55
    subst axL55
    replace hP : va_P D vwCl (xw ad kk V54 L10 Z) H := hP
    replace hD : va_D A (xw ad kk V54 L10 Z) := hD
    replace hMV54 : rgd bX V54 := hMV54
    replace ajV54 : agr [(5, 5), (5, 6), (5, 7), (5, 8), (5, 9), (5, 13)] [] V46 V54 := ajV54
    have agV54 : agr [(0, 6), (0, 7), (0, 8), (0, 9), (1, 1), (1, 2), (1, 3), (1, 4), (1, 6), (1, 7), (1, 8), (2, 7), (3, 12), (3, 13), (3, 14), (3, 15), (4, 5), (4, 6), (4, 7), (4, 8), (5, 5), (5, 6), (5, 7), (5, 8), (5, 9), (5, 13), (6, 5), (6, 6), (6, 7), (6, 8), (6, 9), (6, 10)] [12, 13, 14, 23, 24, 25, 41, 42, 43, 44, 45, 46, 47, 48, 49, 50, 51, 52, 53, 54, 55, 56, 57, 58, 59, 60, 61, 62, 63, 64, 65, 66] V V54 := agV46.tr ajV54 (by decide) (by decide)
    replace t52 : (V54 5 5).toInt = (b1 : Int) := t52
    replace t53 : (V54 5 6).toInt = 0 := t53
    have r56 : 0 ≤ ((V54 5 5)).toInt ∧ ((V54 5 5)).toInt ≤ 1 := hMV54 5 5
    have r57 : 0 ≤ ((V54 5 6)).toInt ∧ ((V54 5 6)).toInt ≤ 400 := hMV54 5 6
    refine lv_aload_n hx hb dX11_book_75 rfl (lv_at hl 2 rfl) ?_
    refine lv_iconst (v := 0) hx hb dX11_book_76 (by decide) ?_
    refine va_put (D := D) (ci := 11) (v := .int 0) (ty := tyX11 8) (fs := (xfHouse ad V54 L10 Z)) (C := RX11) (T := TX11) (N := 10) hx hb hg inX11 tyX11 tyX11_ok nmX11 hown hK hP hD hS 0 xgHouse rfl 8 (by decide) (hg _ w723) (fun _ h9 => h9) rfl (tyX11_ok 8 (by decide)) rfl rfl (Nat.le_of_ble_eq_true rfl) dX11_book_77 (fun H locs hP hD hS => ?_)
    obtain ⟨V58, hV58⟩ : ∃ z, z = up2 V54 0 8 0 := ⟨_, rfl⟩
    have ew59 : (xw ad kk V54 L10 Z).set 0 ((ad 0), .inr (11, (xfHouse ad V54 L10 Z).set 8 (.int 0))) = xw ad kk V58 L10 Z := by rw [hV58]; exact xw_ss (by decide) rfl (xb_si (by decide))
    have hP : va_P D vwCl (xw ad kk V58 L10 Z) H := by rw [← ew59]; exact hP
    have hD : va_D A (xw ad kk V58 L10 Z) := by rw [← ew59]; exact hD
    have hMV58 : rgd bX V58 := hMV54.put hV58 (by decide)
    have agV58 : agr [(0, 6), (0, 7), (0, 8), (0, 9), (1, 1), (1, 2), (1, 3), (1, 4), (1, 6), (1, 7), (1, 8), (2, 7), (3, 12), (3, 13), (3, 14), (3, 15), (4, 5), (4, 6), (4, 7), (4, 8), (5, 5), (5, 6), (5, 7), (5, 8), (5, 9), (5, 13), (6, 5), (6, 6), (6, 7), (6, 8), (6, 9), (6, 10)] [12, 13, 14, 23, 24, 25, 41, 42, 43, 44, 45, 46, 47, 48, 49, 50, 51, 52, 53, 54, 55, 56, 57, 58, 59, 60, 61, 62, 63, 64, 65, 66] V V58 := agV54.up hV58 rfl
    refine lv_aload_n hx hb dX11_book_80 rfl (lv_at hl 2 rfl) ?_
    refine lv_iconst (v := 0) hx hb dX11_book_81 (by decide) ?_
    refine va_put (D := D) (ci := 11) (v := .int 0) (ty := tyX11 9) (fs := (xfHouse ad V58 L10 Z)) (C := RX11) (T := TX11) (N := 10) hx hb hg inX11 tyX11 tyX11_ok nmX11 hown hK hP hD hS 0 xgHouse rfl 9 (by decide) (hg _ w724) (fun _ h9 => h9) rfl (tyX11_ok 9 (by decide)) rfl rfl (Nat.le_of_ble_eq_true rfl) dX11_book_82 (fun H locs hP hD hS => ?_)
    obtain ⟨V60, hV60⟩ : ∃ z, z = up2 V58 0 9 0 := ⟨_, rfl⟩
    have ew61 : (xw ad kk V58 L10 Z).set 0 ((ad 0), .inr (11, (xfHouse ad V58 L10 Z).set 9 (.int 0))) = xw ad kk V60 L10 Z := by rw [hV60]; exact xw_ss (by decide) rfl (xb_si (by decide))
    have hP : va_P D vwCl (xw ad kk V60 L10 Z) H := by rw [← ew61]; exact hP
    have hD : va_D A (xw ad kk V60 L10 Z) := by rw [← ew61]; exact hD
    have hMV60 : rgd bX V60 := hMV58.put hV60 (i_full _)
    have agV60 : agr [(0, 6), (0, 7), (0, 8), (0, 9), (1, 1), (1, 2), (1, 3), (1, 4), (1, 6), (1, 7), (1, 8), (2, 7), (3, 12), (3, 13), (3, 14), (3, 15), (4, 5), (4, 6), (4, 7), (4, 8), (5, 5), (5, 6), (5, 7), (5, 8), (5, 9), (5, 13), (6, 5), (6, 6), (6, 7), (6, 8), (6, 9), (6, 10)] [12, 13, 14, 23, 24, 25, 41, 42, 43, 44, 45, 46, 47, 48, 49, 50, 51, 52, 53, 54, 55, 56, 57, 58, 59, 60, 61, 62, 63, 64, 65, 66] V V60 := agV58.up hV60 rfl
    refine lv_iconst (v := 0) hx hb dX11_book_85 (by decide) ?_
    have r62 : Int32.toInt 0 = 0 := by decide
    exact W.iret (v := 0) hx hb hr (fun t ht hW => ⟨⟨0, (V60, L10), rfl, ⟨hMV60, agV60, alL10, ⟨V9, L10, t6, (hMV9 6 7).1, (by rw [show Int32.toInt 0 = z3.toInt from by omega]; exact BRES.mp t7 (fun s9 h9 => ⟨TBc.mv h9.1 (by rw [(up2_fo hV60 (by decide) : V60 43 = V58 43), (up2_fo hV58 (by decide) : V58 43 = V54 43), (funext (fun q => ajV54 43 q rfl) : V54 43 = V46 43), (funext (fun q => ajV46 43 q rfl) : V46 43 = V41 43), (funext (fun q => ajV41 43 q rfl) : V41 43 = V34 43), (funext (fun q => ajV34 43 q rfl) : V34 43 = V26 43), (up2_fo hV26 (by decide) : V26 43 = V23 43), (up2_fo hV23 (by decide) : V23 43 = V15 43), (funext (fun q => ajV15 43 q rfl) : V15 43 = V9 43)] : V60 43 = V9 43) rfl, CNc.ag h9.2.1 (show agr [(0, 6), (0, 7), (0, 8), (0, 9), (2, 7), (3, 12), (3, 13), (3, 14), (3, 15), (4, 5), (4, 6), (4, 7), (4, 8), (5, 5), (5, 6), (5, 7), (5, 8), (5, 9), (5, 13), (6, 5)] [23, 24, 25] V9 V60 from (agr.up (agr.up (agr.tr (agr.tr (agr.tr (agr.tr (agr.up (agr.up (agr.tr agr.rf ajV15 (by decide) (by decide)) hV23 rfl) hV26 rfl) ajV34 (by decide) (by decide)) ajV41 (by decide) (by decide)) ajV46 (by decide) (by decide)) ajV54 (by decide) (by decide)) hV58 rfl) hV60 rfl)) (by decide) keepC.rf, ⟨CDc.ag h9.2.2.1.1 (show agr [(0, 6), (0, 7), (0, 8), (0, 9), (2, 7), (3, 12), (3, 13), (3, 14), (3, 15), (4, 5), (4, 6), (4, 7), (4, 8), (5, 5), (5, 6), (5, 7), (5, 8), (5, 9), (5, 13), (6, 5)] [23, 24, 25] V9 V60 from (agr.up (agr.up (agr.tr (agr.tr (agr.tr (agr.tr (agr.up (agr.up (agr.tr agr.rf ajV15 (by decide) (by decide)) hV23 rfl) hV26 rfl) ajV34 (by decide) (by decide)) ajV41 (by decide) (by decide)) ajV46 (by decide) (by decide)) ajV54 (by decide) (by decide)) hV58 rfl) hV60 rfl)) (fun _ => rfl) (fun _ => rfl), REc.ag h9.2.2.1.2.1 (show agr [(0, 6), (0, 7), (0, 8), (0, 9), (2, 7), (3, 12), (3, 13), (3, 14), (3, 15), (4, 5), (4, 6), (4, 7), (4, 8), (5, 5), (5, 6), (5, 7), (5, 8), (5, 9), (5, 13), (6, 5)] [23, 24, 25] V9 V60 from (agr.up (agr.up (agr.tr (agr.tr (agr.tr (agr.tr (agr.up (agr.up (agr.tr agr.rf ajV15 (by decide) (by decide)) hV23 rfl) hV26 rfl) ajV34 (by decide) (by decide)) ajV41 (by decide) (by decide)) ajV46 (by decide) (by decide)) ajV54 (by decide) (by decide)) hV58 rfl) hV60 rfl)) (fun _ => rfl) (fun _ => rfl) (fun _ => rfl) keepE.rf rfl, WWc.ag h9.2.2.1.2.2.1 (show agr [(0, 6), (0, 7), (0, 8), (0, 9), (2, 7), (3, 12), (3, 13), (3, 14), (3, 15), (4, 5), (4, 6), (4, 7), (4, 8), (5, 5), (5, 6), (5, 7), (5, 8), (5, 9), (5, 13), (6, 5)] [23, 24, 25] V9 V60 from (agr.up (agr.up (agr.tr (agr.tr (agr.tr (agr.tr (agr.up (agr.up (agr.tr agr.rf ajV15 (by decide) (by decide)) hV23 rfl) hV26 rfl) ajV34 (by decide) (by decide)) ajV41 (by decide) (by decide)) ajV46 (by decide) (by decide)) ajV54 (by decide) (by decide)) hV58 rfl) hV60 rfl)) (fun _ => ⟨rfl, rfl, rfl, rfl, rfl⟩) keepE.rf rfl, h9.2.2.1.2.2.2⟩, WRc.ag h9.2.2.2 (by rw [(up2_fo hV60 (by decide) : V60 41 = V58 41), (up2_fo hV58 (by decide) : V58 41 = V54 41), (funext (fun q => ajV54 41 q rfl) : V54 41 = V46 41), (funext (fun q => ajV46 41 q rfl) : V46 41 = V41 41), (funext (fun q => ajV41 41 q rfl) : V41 41 = V34 41), (funext (fun q => ajV34 41 q rfl) : V34 41 = V26 41), (up2_fo hV26 (by decide) : V26 41 = V23 41), (up2_fo hV23 (by decide) : V23 41 = V15 41), (funext (fun q => ajV15 41 q rfl) : V15 41 = V9 41)] : V60 41 = V9 41) (by rw [(up2_fo hV60 (by decide) : V60 63 = V58 63), (up2_fo hV58 (by decide) : V58 63 = V54 63), (funext (fun q => ajV54 63 q rfl) : V54 63 = V46 63), (funext (fun q => ajV46 63 q rfl) : V46 63 = V41 63), (funext (fun q => ajV41 63 q rfl) : V41 63 = V34 63), (funext (fun q => ajV34 63 q rfl) : V34 63 = V26 63), (up2_fo hV26 (by decide) : V26 63 = V23 63), (up2_fo hV23 (by decide) : V23 63 = V15 63), (funext (fun q => ajV15 63 q rfl) : V15 63 = V9 63)] : V60 63 = V9 63) (by rw [(up2_fo hV60 (by decide) : V60 65 = V58 65), (up2_fo hV58 (by decide) : V58 65 = V54 65), (funext (fun q => ajV54 65 q rfl) : V54 65 = V46 65), (funext (fun q => ajV46 65 q rfl) : V46 65 = V41 65), (funext (fun q => ajV41 65 q rfl) : V41 65 = V34 65), (funext (fun q => ajV34 65 q rfl) : V34 65 = V26 65), (up2_fo hV26 (by decide) : V26 65 = V23 65), (up2_fo hV23 (by decide) : V23 65 = V15 65), (funext (fun q => ajV15 65 q rfl) : V15 65 = V9 65)] : V60 65 = V9 65) rfl⟩))⟩, t8⟩, by rw [ht]; exact hP, va_K.moved hW.alike hK, hD⟩, hS.F ht⟩) hS.2.2 dX11_book_86
  · skip
    have f63 : z3.toInt ≠ 0 := b_neq rfl (by decide) c18
    refine lv_iload_n hx hb dX11_book_23 rfl (lv_at hl 0 rfl) ?_
    exact W.iret (v := z3) hx hb hr (fun t ht hW => ⟨⟨z3, (V15, L10), rfl, ⟨hMV15, agV15, alL10, ⟨V9, L10, t6, (hMV9 6 7).1, (by rw [show z3.toInt = z3.toInt from by omega]; exact BRES.mp t7 (fun s9 h9 => ⟨TBc.mv h9.1 (by rw [(funext (fun q => ajV15 43 q rfl) : V15 43 = V9 43)] : V15 43 = V9 43) rfl, CNc.ag h9.2.1 (show agr [(6, 5)] [] V9 V15 from (agr.tr agr.rf ajV15 (by decide) (by decide))) (by decide) keepC.rf, ⟨CDc.ag h9.2.2.1.1 (show agr [(6, 5)] [] V9 V15 from (agr.tr agr.rf ajV15 (by decide) (by decide))) (fun _ => rfl) (fun _ => rfl), REc.ag h9.2.2.1.2.1 (show agr [(6, 5)] [] V9 V15 from (agr.tr agr.rf ajV15 (by decide) (by decide))) (fun _ => rfl) (fun _ => rfl) (fun _ => rfl) keepE.rf rfl, WWc.ag h9.2.2.1.2.2.1 (show agr [(6, 5)] [] V9 V15 from (agr.tr agr.rf ajV15 (by decide) (by decide))) (fun _ => ⟨rfl, rfl, rfl, rfl, rfl⟩) keepE.rf rfl, h9.2.2.1.2.2.2⟩, WRc.ag h9.2.2.2 (by rw [(funext (fun q => ajV15 41 q rfl) : V15 41 = V9 41)] : V15 41 = V9 41) (by rw [(funext (fun q => ajV15 63 q rfl) : V15 63 = V9 63)] : V15 63 = V9 63) (by rw [(funext (fun q => ajV15 65 q rfl) : V15 65 = V9 65)] : V15 65 = V9 65) rfl⟩))⟩, t8⟩, by rw [ht]; exact hP, va_K.moved hW.alike hK, hD⟩, hS.F ht⟩) hS.2.2 dX11_book_24
abbrev r_x_h_book4 : Room := { frames := 94, cells := 0, slots := 0, locals := 2751 }
abbrev q_x_h_book4 (D : va_G) (ks : KS) (ad : Nat → Nat) (kk : Nat → ClassId) (V : Vf) (L : Lf) (Z : XZ) (b : Nat) (b1 : Nat) (A : Nat → Prop) : Array Value → State → Outcome → State → Prop := va_Qi (fun (r : Int32) (u : Vf × Lf) => rgd bX u.1 ∧ agr [(0, 6), (0, 7), (0, 8), (0, 9), (1, 1), (1, 2), (1, 3), (1, 4), (1, 6), (1, 7), (1, 8), (2, 7), (3, 12), (3, 13), (3, 14), (3, 15), (4, 5), (4, 6), (4, 7), (4, 8), (5, 5), (5, 6), (5, 7), (5, 8), (5, 9), (5, 13), (6, 5), (6, 6), (6, 7), (6, 8), (6, 9), (6, 10)] [12, 13, 14, 23, 24, 25, 41, 42, 43, 44, 45, 46, 47, 48, 49, 50, 51, 52, 53, 54, 55, 56, 57, 58, 59, 60, 61, 62, 63, 64, 65, 66] V u.1 ∧ agL [1, 6, 14, 44] L u.2 ∧ (frX (xR b1) V u.1) ∧ ((r.toInt = 0 ∧ (u.1 0 8).toInt = 0) ∨ (r.toInt ≠ 0 ∧ (u.1 0 8).toInt = (V 0 8).toInt))) (fun u t => gq D A (xw ad kk u.1 u.2 Z) (xty kk Z) t) A
set_option maxHeartbeats 4000000 in
set_option maxRecDepth 100000 in
theorem x_h_book4 (l : Launch) (D : va_G) (ks : KS) (sz : Nat) (ad : Nat → Nat) (kk : Nat → ClassId) (V : Vf) (L : Lf) (Z : XZ) (b : Nat) (b1 : Nat) (hMV : rgd bX V) (hb2 : b < 2) (hb1 : b1 < 2) (hbb : b + b1 = 1) (shk : (V 0 6).toInt = (b : Int)) (spk : (V 0 7).toInt = (b1 : Int))  : Met l yX11_book (Cond.code yX11_book cX11_book 3 (some .int) :: GW) r_x_h_book4 (va_Pc [.ref (ad 0)] (gp D ks (xw ad kk V L Z) (xty kk Z) sz)) (q_x_h_book4 D ks ad kk V L Z  b b1 (va_A (xw ad kk V L Z) sz)) 0 0 (va_A (xw ad kk V L Z) sz) := by
  refine g_met (q_x_h_book4 D ks ad kk V L Z  b b1) (by decide) (Nat.le_of_ble_eq_true rfl) ?_
  intro p e s m below meth c A ls H locs hx hb hr hml hown hg hlocks hin hnw hgk hP hK hD hS hA hl
  replace hown : s.vm.findClass RX11 = some m.cls := hown
  replace hl : lv_has ls 3 [(0, .ref (ad 0))] := hl
  replace hP : va_P D vwCl (xw ad kk V L Z) H := hP
  replace hD : va_D A (xw ad kk V L Z) := hD
  replace hK : va_K D vwCl (xty kk Z) s := hK
  have agV : agr [(0, 6), (0, 7), (0, 8), (0, 9), (1, 1), (1, 2), (1, 3), (1, 4), (1, 6), (1, 7), (1, 8), (2, 7), (3, 12), (3, 13), (3, 14), (3, 15), (4, 5), (4, 6), (4, 7), (4, 8), (5, 5), (5, 6), (5, 7), (5, 8), (5, 9), (5, 13), (6, 5), (6, 6), (6, 7), (6, 8), (6, 9), (6, 10)] [12, 13, 14, 23, 24, 25, 41, 42, 43, 44, 45, 46, 47, 48, 49, 50, 51, 52, 53, 54, 55, 56, 57, 58, 59, 60, 61, 62, 63, 64, 65, 66] V V := agr.rf
  have alL : agL [1, 6, 14, 44] L L := agL.rf
  have r1 : 0 ≤ ((V 0 6)).toInt ∧ ((V 0 6)).toInt ≤ 1 := hMV 0 6
  have r2 : 0 ≤ ((V 0 7)).toInt ∧ ((V 0 7)).toInt ≤ 1 := hMV 0 7
  refine lv_aload_n hx hb dX11_book_0 rfl (lv_at hl 0 rfl) ?_
  refine va_get (D := D) (ci := 11) (v := .ref (ad 1)) (fs := (xfHouse ad V L Z)) (C := RX11) (T := TX11) (N := 10) hx hb hg inX11 hown hK hP 0 xgHouse rfl 1 (by decide) (hg _ w716) (fun _ h9 => h9) rfl dX11_book_1 ?_
  refine lv_aload_n hx hb dX11_book_4 rfl (lv_at hl 0 rfl) ?_
  refine va_get (D := D) (ci := 11) (v := .ref (ad (38 + Int32.toNatClampNeg (V 0 7)))) (fs := (xfHouse ad V L Z)) (C := RX11) (T := TX11) (N := 10) hx hb hg inX11 hown hK hP 0 xgHouse rfl 7 (by decide) (hg _ w722) (fun _ h9 => h9) rfl dX11_book_5 ?_
  refine g_topv (v := .ref (ad (38 + b1))) (rfP (by omega)) ?_
  refine gA_int (gA_runV (As := [.ref (ad (38 + b1))]) (rest := []) (ci := 1) (q0 := 1) hx hb hml hown hg hP hD hK hS hA hnw hgk (x_read l D ks H.size ad kk V L Z (b1) hMV (show b1 < 2 from by (first | exact om_f940a4667dd6 hb1 | omega))) w758 w759 w760 w162 w761 rfl xgReader hdV_yX1_read ⟨Nat.le_of_ble_eq_true rfl, Nat.le_of_ble_eq_true rfl⟩ rfl hl.1 rfl (Nat.le_of_ble_eq_true rfl) dX11_book_8 ⟨Nat.le_of_ble_eq_true rfl, Nat.le_of_ble_eq_true rfl⟩) hP hD hK hS hA (fun z3 u4 H locs w5 hP hD hK hS => ?_)
  obtain ⟨V7, L8⟩ := u4
  obtain ⟨hMV7, ajV7, axL8, fyV7, t6⟩ := w5
  have alL8 : agL [1, 6, 14, 44] L L8 := agL.tr alL axL8 (by decide)
  replace hP : va_P D vwCl (xw ad kk V7 L8 Z) H := hP
  replace hD : va_D A (xw ad kk V7 L8 Z) := hD
  replace hMV7 : rgd bX V7 := hMV7
  replace ajV7 : agr [(1, 1), (1, 2), (1, 3), (1, 4), (1, 6), (1, 7), (1, 8), (6, 6), (6, 7), (6, 8), (6, 9), (6, 10)] [12, 13, 14, 41, 42, 43, 44, 45, 46, 47, 48, 49, 50, 51, 52, 53, 54, 55, 56, 57, 58, 59, 60, 61, 62, 63, 64, 65, 66] V V7 := ajV7
  have agV7 : agr [(0, 6), (0, 7), (0, 8), (0, 9), (1, 1), (1, 2), (1, 3), (1, 4), (1, 6), (1, 7), (1, 8), (2, 7), (3, 12), (3, 13), (3, 14), (3, 15), (4, 5), (4, 6), (4, 7), (4, 8), (5, 5), (5, 6), (5, 7), (5, 8), (5, 9), (5, 13), (6, 5), (6, 6), (6, 7), (6, 8), (6, 9), (6, 10)] [12, 13, 14, 23, 24, 25, 41, 42, 43, 44, 45, 46, 47, 48, 49, 50, 51, 52, 53, 54, 55, 56, 57, 58, 59, 60, 61, 62, 63, 64, 65, 66] V V7 := agV.tr ajV7 (by decide) (by decide)
  replace t6 : Imp (z3.toInt = 0) (CD V7 b1 ∧ TX V7 b1) := t6
  refine lv_istore_n (lv' := [(1, .int z3), (0, .ref (ad 0))]) hx hb dX11_book_11 rfl hl (by decide) rfl (fun ls hl => ?_)
  refine lv_aload_n hx hb dX11_book_12 rfl (lv_at hl 1 rfl) ?_
  refine va_get (D := D) (ci := 11) (v := .ref (ad 6)) (fs := (xfHouse ad V7 L8 Z)) (C := RX11) (T := TX11) (N := 10) hx hb hg inX11 hown hK hP 0 xgHouse rfl 0 (by decide) (hg _ w715) (fun _ h9 => h9) rfl dX11_book_13 ?_
  refine gA_void (gA_runV (As := []) (rest := []) (ci := 9) (q0 := 6) hx hb hml hown hg hP hD hK hS hA hnw hgk (x_empty l D ks H.size ad kk V7 L8 Z  hMV7 ) w1019 w1020 w1021 w157 w1022 rfl xgTape hdV_yX9_empty ⟨Nat.le_of_ble_eq_true rfl, Nat.le_of_ble_eq_true rfl⟩ rfl hl.1 rfl (Nat.le_of_ble_eq_true rfl) dX11_book_16 ⟨Nat.le_of_ble_eq_true rfl, Nat.le_of_ble_eq_true rfl⟩) hP hD hK hS hA (fun u10 H locs w11 hP hD hK hS => ?_)
  obtain ⟨V13, L14⟩ := u10
  obtain ⟨hMV13, ajV13, axL14, t12⟩ := w11
  have axL14 : L8 = L14 := Eq.symm axL14
  subst axL14
  replace hP : va_P D vwCl (xw ad kk V13 L8 Z) H := hP
  replace hD : va_D A (xw ad kk V13 L8 Z) := hD
  replace hMV13 : rgd bX V13 := hMV13
  replace ajV13 : agr [(6, 5)] [] V7 V13 := ajV13
  have agV13 : agr [(0, 6), (0, 7), (0, 8), (0, 9), (1, 1), (1, 2), (1, 3), (1, 4), (1, 6), (1, 7), (1, 8), (2, 7), (3, 12), (3, 13), (3, 14), (3, 15), (4, 5), (4, 6), (4, 7), (4, 8), (5, 5), (5, 6), (5, 7), (5, 8), (5, 9), (5, 13), (6, 5), (6, 6), (6, 7), (6, 8), (6, 9), (6, 10)] [12, 13, 14, 23, 24, 25, 41, 42, 43, 44, 45, 46, 47, 48, 49, 50, 51, 52, 53, 54, 55, 56, 57, 58, 59, 60, 61, 62, 63, 64, 65, 66] V V13 := agV7.tr ajV13 (by decide) (by decide)
  replace t12 : (V13 6 5).toInt = 0 := t12
  have r15 : 0 ≤ ((V13 6 5)).toInt ∧ ((V13 6 5)).toInt ≤ 4000 := hMV13 6 5
  refine lv_iload_n hx hb dX11_book_19 rfl (lv_at hl 0 rfl) ?_
  refine lv_if_eq (tgt := 25) hx hb dX11_book_20 (by decide) (fun c16 => ?_) (fun c16 => ?_)
  · skip
    have f17 : z3.toInt = 0 := b_eq rfl (by decide) c16
    refine lv_aload_n hx hb dX11_book_25 rfl (lv_at hl 1 rfl) ?_
    refine va_get (D := D) (ci := 11) (v := .ref (ad (38 + Int32.toNatClampNeg (V13 0 6)))) (fs := (xfHouse ad V13 L8 Z)) (C := RX11) (T := TX11) (N := 10) hx hb hg inX11 hown hK hP 0 xgHouse rfl 6 (by decide) (hg _ w721) (fun _ h9 => h9) rfl dX11_book_26 ?_
    have pq18 : (V13 0 6).toInt = ((V 0 6)).toInt := congrArg Int32.toInt ((ajV13 0 6 rfl).trans (ajV7 0 6 rfl))
    refine g_topv (v := .ref (ad (38 + b))) (rfP (by omega)) ?_
    refine lv_astore_n (lv' := [(2, .ref (ad (38 + b))), (1, .int z3), (0, .ref (ad 0))]) hx hb dX11_book_29 rfl hl (by decide) rfl (fun ls hl => ?_)
    refine lv_aload_n hx hb dX11_book_30 rfl (lv_at hl 2 rfl) ?_
    refine lv_aload_n hx hb dX11_book_31 rfl (lv_at hl 2 rfl) ?_
    refine va_get (D := D) (ci := 11) (v := .ref (ad (38 + Int32.toNatClampNeg (V13 0 7)))) (fs := (xfHouse ad V13 L8 Z)) (C := RX11) (T := TX11) (N := 10) hx hb hg inX11 hown hK hP 0 xgHouse rfl 7 (by decide) (hg _ w722) (fun _ h9 => h9) rfl dX11_book_32 ?_
    have pq19 : (V13 0 7).toInt = ((V 0 7)).toInt := congrArg Int32.toInt ((ajV13 0 7 rfl).trans (ajV7 0 7 rfl))
    refine g_topv (v := .ref (ad (38 + b1))) (rfP (by omega)) ?_
    refine va_put (D := D) (ci := 11) (v := .ref (ad (38 + b1))) (ty := tyX11 6) (fs := (xfHouse ad V13 L8 Z)) (C := RX11) (T := TX11) (N := 10) hx hb hg inX11 tyX11 tyX11_ok nmX11 hown hK hP hD hS 0 xgHouse rfl 6 (by decide) (hg _ w721) (fun _ h9 => h9) rfl (tyX11_ok 6 (by decide)) rfl rfl (Nat.le_of_ble_eq_true rfl) dX11_book_35 (fun H locs hP hD hS => ?_)
    have r20 : (nI b1).toInt = ((b1 : Nat) : Int) := nI_toInt (by omega)
    obtain ⟨V21, hV21⟩ : ∃ z, z = up2 V13 0 6 (nI b1) := ⟨_, rfl⟩
    have ew22 : (xw ad kk V13 L8 Z).set 0 ((ad 0), .inr (11, (xfHouse ad V13 L8 Z).set 6 (.ref (ad (38 + b1))))) = xw ad kk V21 L8 Z := by rw [hV21]; exact xr_shelf hb1
    have hP : va_P D vwCl (xw ad kk V21 L8 Z) H := by rw [← ew22]; exact hP
    have hD : va_D A (xw ad kk V21 L8 Z) := by rw [← ew22]; exact hD
    have hMV21 : rgd bX V21 := hMV13.put hV21 (show 0 ≤ ((nI b1)).toInt ∧ ((nI b1)).toInt ≤ 1 from by (first | exact om_d98fff7a4861 hb1 r20 | omega))
    have agV21 : agr [(0, 6), (0, 7), (0, 8), (0, 9), (1, 1), (1, 2), (1, 3), (1, 4), (1, 6), (1, 7), (1, 8), (2, 7), (3, 12), (3, 13), (3, 14), (3, 15), (4, 5), (4, 6), (4, 7), (4, 8), (5, 5), (5, 6), (5, 7), (5, 8), (5, 9), (5, 13), (6, 5), (6, 6), (6, 7), (6, 8), (6, 9), (6, 10)] [12, 13, 14, 23, 24, 25, 41, 42, 43, 44, 45, 46, 47, 48, 49, 50, 51, 52, 53, 54, 55, 56, 57, 58, 59, 60, 61, 62, 63, 64, 65, 66] V V21 := agV13.up hV21 rfl
    refine lv_aload_n hx hb dX11_book_38 rfl (lv_at hl 2 rfl) ?_
    refine lv_aload_n hx hb dX11_book_39 rfl (lv_at hl 0 rfl) ?_
    refine va_put (D := D) (ci := 11) (v := .ref (ad (38 + b))) (ty := tyX11 7) (fs := (xfHouse ad V21 L8 Z)) (C := RX11) (T := TX11) (N := 10) hx hb hg inX11 tyX11 tyX11_ok nmX11 hown hK hP hD hS 0 xgHouse rfl 7 (by decide) (hg _ w722) (fun _ h9 => h9) rfl (tyX11_ok 7 (by decide)) rfl rfl (Nat.le_of_ble_eq_true rfl) dX11_book_40 (fun H locs hP hD hS => ?_)
    have r23 : (nI b).toInt = ((b : Nat) : Int) := nI_toInt (by omega)
    obtain ⟨V24, hV24⟩ : ∃ z, z = up2 V21 0 7 (nI b) := ⟨_, rfl⟩
    have ew25 : (xw ad kk V21 L8 Z).set 0 ((ad 0), .inr (11, (xfHouse ad V21 L8 Z).set 7 (.ref (ad (38 + b))))) = xw ad kk V24 L8 Z := by rw [hV24]; exact xr_spare hb2
    have hP : va_P D vwCl (xw ad kk V24 L8 Z) H := by rw [← ew25]; exact hP
    have hD : va_D A (xw ad kk V24 L8 Z) := by rw [← ew25]; exact hD
    have hMV24 : rgd bX V24 := hMV21.put hV24 (show 0 ≤ ((nI b)).toInt ∧ ((nI b)).toInt ≤ 1 from by (first | exact om_cf08f328c789 hb1 hbb r23 | omega))
    have agV24 : agr [(0, 6), (0, 7), (0, 8), (0, 9), (1, 1), (1, 2), (1, 3), (1, 4), (1, 6), (1, 7), (1, 8), (2, 7), (3, 12), (3, 13), (3, 14), (3, 15), (4, 5), (4, 6), (4, 7), (4, 8), (5, 5), (5, 6), (5, 7), (5, 8), (5, 9), (5, 13), (6, 5), (6, 6), (6, 7), (6, 8), (6, 9), (6, 10)] [12, 13, 14, 23, 24, 25, 41, 42, 43, 44, 45, 46, 47, 48, 49, 50, 51, 52, 53, 54, 55, 56, 57, 58, 59, 60, 61, 62, 63, 64, 65, 66] V V24 := agV21.up hV24 rfl
    refine lv_aload_n hx hb dX11_book_43 rfl (lv_at hl 2 rfl) ?_
    refine va_get (D := D) (ci := 11) (v := .ref (ad 3)) (fs := (xfHouse ad V24 L8 Z)) (C := RX11) (T := TX11) (N := 10) hx hb hg inX11 hown hK hP 0 xgHouse rfl 3 (by decide) (hg _ w718) (fun _ h9 => h9) rfl dX11_book_44 ?_
    refine gA_void (gA_runV (As := []) (rest := []) (ci := 8) (q0 := 3) hx hb hml hown hg hP hD hK hS hA hnw hgk (x_sclear2 l D ks H.size ad kk V24 L8 Z  hMV24 ) w1023 w1024 w1025 w164 w1026 rfl xgStock hdV_yX8_clear ⟨Nat.le_of_ble_eq_true rfl, Nat.le_of_ble_eq_true rfl⟩ rfl hl.1 rfl (Nat.le_of_ble_eq_true rfl) dX11_book_47 ⟨Nat.le_of_ble_eq_true rfl, Nat.le_of_ble_eq_true rfl⟩) hP hD hK hS hA (fun u27 H locs w28 hP hD hK hS => ?_)
    obtain ⟨V32, L33⟩ := u27
    obtain ⟨hMV32, ajV32, axL33, t29, t30, t31⟩ := w28
    have axL33 : L8 = L33 := Eq.symm axL33
    subst axL33
    replace hP : va_P D vwCl (xw ad kk V32 L8 Z) H := hP
    replace hD : va_D A (xw ad kk V32 L8 Z) := hD
    replace hMV32 : rgd bX V32 := hMV32
    replace ajV32 : agr [(3, 12), (3, 13), (3, 14), (3, 15)] [23, 24, 25] V24 V32 := ajV32
    have agV32 : agr [(0, 6), (0, 7), (0, 8), (0, 9), (1, 1), (1, 2), (1, 3), (1, 4), (1, 6), (1, 7), (1, 8), (2, 7), (3, 12), (3, 13), (3, 14), (3, 15), (4, 5), (4, 6), (4, 7), (4, 8), (5, 5), (5, 6), (5, 7), (5, 8), (5, 9), (5, 13), (6, 5), (6, 6), (6, 7), (6, 8), (6, 9), (6, 10)] [12, 13, 14, 23, 24, 25, 41, 42, 43, 44, 45, 46, 47, 48, 49, 50, 51, 52, 53, 54, 55, 56, 57, 58, 59, 60, 61, 62, 63, 64, 65, 66] V V32 := agV24.tr ajV32 (by decide) (by decide)
    replace t29 : (V32 3 13).toInt = 0 := t29
    replace t30 : (V32 3 15).toInt = 0 := t30
    replace t31 : ∀ q : Nat, q < 960 → (V32 25 q).toInt = -1 := t31
    have r34 : 0 ≤ ((V32 3 13)).toInt ∧ ((V32 3 13)).toInt ≤ 300 := hMV32 3 13
    have r35 : 0 ≤ ((V32 3 15)).toInt ∧ ((V32 3 15)).toInt ≤ 262144 := hMV32 3 15
    refine lv_aload_n hx hb dX11_book_50 rfl (lv_at hl 2 rfl) ?_
    refine va_get (D := D) (ci := 11) (v := .ref (ad 4)) (fs := (xfHouse ad V32 L8 Z)) (C := RX11) (T := TX11) (N := 10) hx hb hg inX11 hown hK hP 0 xgHouse rfl 4 (by decide) (hg _ w719) (fun _ h9 => h9) rfl dX11_book_51 ?_
    refine gA_void (gA_runV (As := []) (rest := []) (ci := 7) (q0 := 4) hx hb hml hown hg hP hD hK hS hA hnw hgk (x_Nclear l D ks H.size ad kk V32 L8 Z  hMV32 ) w1031 w1032 w1033 w166 w1034 rfl xgNotes hdV_yX7_clear ⟨Nat.le_of_ble_eq_true rfl, Nat.le_of_ble_eq_true rfl⟩ rfl hl.1 rfl (Nat.le_of_ble_eq_true rfl) dX11_book_54 ⟨Nat.le_of_ble_eq_true rfl, Nat.le_of_ble_eq_true rfl⟩) hP hD hK hS hA (fun u37 H locs w38 hP hD hK hS => ?_)
    obtain ⟨V39, L40⟩ := u37
    obtain ⟨hMV39, ajV39, axL40⟩ := w38
    have axL40 : L8 = L40 := Eq.symm axL40
    subst axL40
    replace hP : va_P D vwCl (xw ad kk V39 L8 Z) H := hP
    replace hD : va_D A (xw ad kk V39 L8 Z) := hD
    replace hMV39 : rgd bX V39 := hMV39
    replace ajV39 : agr [(4, 5), (4, 6), (4, 7), (4, 8)] [] V32 V39 := ajV39
    have agV39 : agr [(0, 6), (0, 7), (0, 8), (0, 9), (1, 1), (1, 2), (1, 3), (1, 4), (1, 6), (1, 7), (1, 8), (2, 7), (3, 12), (3, 13), (3, 14), (3, 15), (4, 5), (4, 6), (4, 7), (4, 8), (5, 5), (5, 6), (5, 7), (5, 8), (5, 9), (5, 13), (6, 5), (6, 6), (6, 7), (6, 8), (6, 9), (6, 10)] [12, 13, 14, 23, 24, 25, 41, 42, 43, 44, 45, 46, 47, 48, 49, 50, 51, 52, 53, 54, 55, 56, 57, 58, 59, 60, 61, 62, 63, 64, 65, 66] V V39 := agV32.tr ajV39 (by decide) (by decide)
    refine lv_aload_n hx hb dX11_book_57 rfl (lv_at hl 2 rfl) ?_
    refine va_get (D := D) (ci := 11) (v := .ref (ad 2)) (fs := (xfHouse ad V39 L8 Z)) (C := RX11) (T := TX11) (N := 10) hx hb hg inX11 hown hK hP 0 xgHouse rfl 2 (by decide) (hg _ w717) (fun _ h9 => h9) rfl dX11_book_58 ?_
    refine gA_void (gA_runV (As := []) (rest := []) (ci := 2) (q0 := 2) hx hb hml hown hg hP hD hK hS hA hnw hgk (x_kclear l D ks H.size ad kk V39 L8 Z  hMV39 ) w1035 w1036 w1037 w163 w1038 rfl xgChecker hdV_yX2_clear ⟨Nat.le_of_ble_eq_true rfl, Nat.le_of_ble_eq_true rfl⟩ rfl hl.1 rfl (Nat.le_of_ble_eq_true rfl) dX11_book_61 ⟨Nat.le_of_ble_eq_true rfl, Nat.le_of_ble_eq_true rfl⟩) hP hD hK hS hA (fun u42 H locs w43 hP hD hK hS => ?_)
    obtain ⟨V44, L45⟩ := u42
    obtain ⟨hMV44, ajV44, axL45⟩ := w43
    have axL45 : L8 = L45 := Eq.symm axL45
    subst axL45
    replace hP : va_P D vwCl (xw ad kk V44 L8 Z) H := hP
    replace hD : va_D A (xw ad kk V44 L8 Z) := hD
    replace hMV44 : rgd bX V44 := hMV44
    replace ajV44 : agr [(2, 7)] [] V39 V44 := ajV44
    have agV44 : agr [(0, 6), (0, 7), (0, 8), (0, 9), (1, 1), (1, 2), (1, 3), (1, 4), (1, 6), (1, 7), (1, 8), (2, 7), (3, 12), (3, 13), (3, 14), (3, 15), (4, 5), (4, 6), (4, 7), (4, 8), (5, 5), (5, 6), (5, 7), (5, 8), (5, 9), (5, 13), (6, 5), (6, 6), (6, 7), (6, 8), (6, 9), (6, 10)] [12, 13, 14, 23, 24, 25, 41, 42, 43, 44, 45, 46, 47, 48, 49, 50, 51, 52, 53, 54, 55, 56, 57, 58, 59, 60, 61, 62, 63, 64, 65, 66] V V44 := agV39.tr ajV44 (by decide) (by decide)
    refine lv_aload_n hx hb dX11_book_64 rfl (lv_at hl 2 rfl) ?_
    refine va_get (D := D) (ci := 11) (v := .ref (ad 5)) (fs := (xfHouse ad V44 L8 Z)) (C := RX11) (T := TX11) (N := 10) hx hb hg inX11 hown hK hP 0 xgHouse rfl 5 (by decide) (hg _ w720) (fun _ h9 => h9) rfl dX11_book_65 ?_
    refine lv_aload_n hx hb dX11_book_68 rfl (lv_at hl 2 rfl) ?_
    refine va_get (D := D) (ci := 11) (v := .ref (ad (38 + Int32.toNatClampNeg (V44 0 6)))) (fs := (xfHouse ad V44 L8 Z)) (C := RX11) (T := TX11) (N := 10) hx hb hg inX11 hown hK hP 0 xgHouse rfl 6 (by decide) (hg _ w721) (fun _ h9 => h9) rfl dX11_book_69 ?_
    have pq46 : (V44 0 6).toInt = ((nI b1)).toInt := congrArg Int32.toInt ((ajV44 0 6 rfl).trans ((ajV39 0 6 rfl).trans ((ajV32 0 6 rfl).trans ((up2_k hV24 (by decide)).trans (up2_s hV21)))))
    refine g_topv (v := .ref (ad (38 + b1))) (rfP (by omega)) ?_
    refine gA_void (gA_runV (As := [.ref (ad (38 + b1))]) (rest := []) (ci := 5) (q0 := 5) hx hb hml hown hg hP hD hK hS hA hnw hgk (x_takeBook l D ks H.size ad kk V44 L8 Z (b1) hMV44 (show b1 < 2 from by (first | exact om_f940a4667dd6 hb1 | omega))) w1039 w1040 w1041 w171 w1042 rfl xgMachine hdV_yX5_takeBook ⟨Nat.le_of_ble_eq_true rfl, Nat.le_of_ble_eq_true rfl⟩ rfl hl.1 rfl (Nat.le_of_ble_eq_true rfl) dX11_book_72 ⟨Nat.le_of_ble_eq_true rfl, Nat.le_of_ble_eq_true rfl⟩) hP hD hK hS hA (fun u48 H locs w49 hP hD hK hS => ?_)
    obtain ⟨V52, L53⟩ := u48
    obtain ⟨hMV52, ajV52, axL53, t50, t51⟩ := w49
    have axL53 : L8 = L53 := Eq.symm axL53
    subst axL53
    replace hP : va_P D vwCl (xw ad kk V52 L8 Z) H := hP
    replace hD : va_D A (xw ad kk V52 L8 Z) := hD
    replace hMV52 : rgd bX V52 := hMV52
    replace ajV52 : agr [(5, 5), (5, 6), (5, 7), (5, 8), (5, 9), (5, 13)] [] V44 V52 := ajV52
    have agV52 : agr [(0, 6), (0, 7), (0, 8), (0, 9), (1, 1), (1, 2), (1, 3), (1, 4), (1, 6), (1, 7), (1, 8), (2, 7), (3, 12), (3, 13), (3, 14), (3, 15), (4, 5), (4, 6), (4, 7), (4, 8), (5, 5), (5, 6), (5, 7), (5, 8), (5, 9), (5, 13), (6, 5), (6, 6), (6, 7), (6, 8), (6, 9), (6, 10)] [12, 13, 14, 23, 24, 25, 41, 42, 43, 44, 45, 46, 47, 48, 49, 50, 51, 52, 53, 54, 55, 56, 57, 58, 59, 60, 61, 62, 63, 64, 65, 66] V V52 := agV44.tr ajV52 (by decide) (by decide)
    replace t50 : (V52 5 5).toInt = (b1 : Int) := t50
    replace t51 : (V52 5 6).toInt = 0 := t51
    have r54 : 0 ≤ ((V52 5 5)).toInt ∧ ((V52 5 5)).toInt ≤ 1 := hMV52 5 5
    have r55 : 0 ≤ ((V52 5 6)).toInt ∧ ((V52 5 6)).toInt ≤ 400 := hMV52 5 6
    refine lv_aload_n hx hb dX11_book_75 rfl (lv_at hl 2 rfl) ?_
    refine lv_iconst (v := 0) hx hb dX11_book_76 (by decide) ?_
    refine va_put (D := D) (ci := 11) (v := .int 0) (ty := tyX11 8) (fs := (xfHouse ad V52 L8 Z)) (C := RX11) (T := TX11) (N := 10) hx hb hg inX11 tyX11 tyX11_ok nmX11 hown hK hP hD hS 0 xgHouse rfl 8 (by decide) (hg _ w723) (fun _ h9 => h9) rfl (tyX11_ok 8 (by decide)) rfl rfl (Nat.le_of_ble_eq_true rfl) dX11_book_77 (fun H locs hP hD hS => ?_)
    obtain ⟨V56, hV56⟩ : ∃ z, z = up2 V52 0 8 0 := ⟨_, rfl⟩
    have ew57 : (xw ad kk V52 L8 Z).set 0 ((ad 0), .inr (11, (xfHouse ad V52 L8 Z).set 8 (.int 0))) = xw ad kk V56 L8 Z := by rw [hV56]; exact xw_ss (by decide) rfl (xb_si (by decide))
    have hP : va_P D vwCl (xw ad kk V56 L8 Z) H := by rw [← ew57]; exact hP
    have hD : va_D A (xw ad kk V56 L8 Z) := by rw [← ew57]; exact hD
    have hMV56 : rgd bX V56 := hMV52.put hV56 (by decide)
    have agV56 : agr [(0, 6), (0, 7), (0, 8), (0, 9), (1, 1), (1, 2), (1, 3), (1, 4), (1, 6), (1, 7), (1, 8), (2, 7), (3, 12), (3, 13), (3, 14), (3, 15), (4, 5), (4, 6), (4, 7), (4, 8), (5, 5), (5, 6), (5, 7), (5, 8), (5, 9), (5, 13), (6, 5), (6, 6), (6, 7), (6, 8), (6, 9), (6, 10)] [12, 13, 14, 23, 24, 25, 41, 42, 43, 44, 45, 46, 47, 48, 49, 50, 51, 52, 53, 54, 55, 56, 57, 58, 59, 60, 61, 62, 63, 64, 65, 66] V V56 := agV52.up hV56 rfl
    refine lv_aload_n hx hb dX11_book_80 rfl (lv_at hl 2 rfl) ?_
    refine lv_iconst (v := 0) hx hb dX11_book_81 (by decide) ?_
    refine va_put (D := D) (ci := 11) (v := .int 0) (ty := tyX11 9) (fs := (xfHouse ad V56 L8 Z)) (C := RX11) (T := TX11) (N := 10) hx hb hg inX11 tyX11 tyX11_ok nmX11 hown hK hP hD hS 0 xgHouse rfl 9 (by decide) (hg _ w724) (fun _ h9 => h9) rfl (tyX11_ok 9 (by decide)) rfl rfl (Nat.le_of_ble_eq_true rfl) dX11_book_82 (fun H locs hP hD hS => ?_)
    obtain ⟨V58, hV58⟩ : ∃ z, z = up2 V56 0 9 0 := ⟨_, rfl⟩
    have ew59 : (xw ad kk V56 L8 Z).set 0 ((ad 0), .inr (11, (xfHouse ad V56 L8 Z).set 9 (.int 0))) = xw ad kk V58 L8 Z := by rw [hV58]; exact xw_ss (by decide) rfl (xb_si (by decide))
    have hP : va_P D vwCl (xw ad kk V58 L8 Z) H := by rw [← ew59]; exact hP
    have hD : va_D A (xw ad kk V58 L8 Z) := by rw [← ew59]; exact hD
    have hMV58 : rgd bX V58 := hMV56.put hV58 (i_full _)
    have agV58 : agr [(0, 6), (0, 7), (0, 8), (0, 9), (1, 1), (1, 2), (1, 3), (1, 4), (1, 6), (1, 7), (1, 8), (2, 7), (3, 12), (3, 13), (3, 14), (3, 15), (4, 5), (4, 6), (4, 7), (4, 8), (5, 5), (5, 6), (5, 7), (5, 8), (5, 9), (5, 13), (6, 5), (6, 6), (6, 7), (6, 8), (6, 9), (6, 10)] [12, 13, 14, 23, 24, 25, 41, 42, 43, 44, 45, 46, 47, 48, 49, 50, 51, 52, 53, 54, 55, 56, 57, 58, 59, 60, 61, 62, 63, 64, 65, 66] V V58 := agV56.up hV58 rfl
    refine lv_iconst (v := 0) hx hb dX11_book_85 (by decide) ?_
    have pq60 : (V58 0 8).toInt = 0 := (congrArg Int32.toInt ((up2_k hV58 (by decide)).trans (up2_s hV56))).trans (by decide)
    exact W.iret (v := 0) hx hb hr (fun t ht hW => ⟨⟨0, (V58, L8), rfl, ⟨hMV58, agV58, alL8, (frX.tr fyV7 (frX.ag (show agr [(0, 6), (0, 7), (0, 8), (0, 9), (2, 7), (3, 12), (3, 13), (3, 14), (3, 15), (4, 5), (4, 6), (4, 7), (4, 8), (5, 5), (5, 6), (5, 7), (5, 8), (5, 9), (5, 13), (6, 5)] [23, 24, 25] V7 V58 from (agr.up (agr.up (agr.tr (agr.tr (agr.tr (agr.tr (agr.up (agr.up (agr.tr agr.rf ajV13 (by decide) (by decide)) hV21 rfl) hV24 rfl) ajV32 (by decide) (by decide)) ajV39 (by decide) (by decide)) ajV44 (by decide) (by decide)) ajV52 (by decide) (by decide)) hV56 rfl) hV58 rfl)) (by decide) (by decide))), (show (0 = 0 ∧ (V58 0 8).toInt = 0) ∨ (0 ≠ 0 ∧ (V58 0 8).toInt = (V 0 8).toInt) from by omega)⟩, by rw [ht]; exact hP, va_K.moved hW.alike hK, hD⟩, hS.F ht⟩) hS.2.2 dX11_book_86
  · skip
    have f61 : z3.toInt ≠ 0 := b_neq rfl (by decide) c16
    refine lv_iload_n hx hb dX11_book_23 rfl (lv_at hl 0 rfl) ?_
    have pq62 : (V13 0 8).toInt = ((V 0 8)).toInt := congrArg Int32.toInt ((ajV13 0 8 rfl).trans (ajV7 0 8 rfl))
    have r63 : 0 ≤ ((V 0 8)).toInt ∧ ((V 0 8)).toInt ≤ 1 := hMV 0 8
    exact W.iret (v := z3) hx hb hr (fun t ht hW => ⟨⟨z3, (V13, L8), rfl, ⟨hMV13, agV13, alL8, (frX.tr fyV7 (frX.ag (show agr [(6, 5)] [] V7 V13 from (agr.tr agr.rf ajV13 (by decide) (by decide))) (by decide) (by decide))), (show (z3.toInt = 0 ∧ (V13 0 8).toInt = 0) ∨ (z3.toInt ≠ 0 ∧ (V13 0 8).toInt = (V 0 8).toInt) from by omega)⟩, by rw [ht]; exact hP, va_K.moved hW.alike hK, hD⟩, hS.F ht⟩) hS.2.2 dX11_book_24
end
