section
/-! 'when' names a setting that is there -/
def BGs (s : St) : Prop := 25 ≤ (s.2.1 0).length ∨ 13 ≤ (s.2.1 1).length ∨ 25 ≤ (s.2.1 2).length
def WHs (s : St) : Prop := ∀ c, c < (s.2.1 2).length → s.1 (64 + 8 * c) ≤ (s.2.1 1).length
def HSt (s : St) : Prop := BGs s ∨ WHs s
def IHs (n : Nat) : List It → Prop
  | [] => True
  | i :: k => ((i.1 = 41 → i.2.2.2.2.2.getD 0 0 ≤ n) ∧ (i.1 = 23 → i.2.2.2.2.2.getD 1 0 ≤ n)) ∧ IHs n k
def HKt (s : St) (k : List It) : Prop := BGs s ∨ IHs (s.2.1 1).length k
def HP : Cf → Prop
  | .inl (s, k) => HSt s ∧ HKt s k
  | .inr (.inl _) => True
  | .inr (.inr s) => HSt s
theorem IHs.up {n m : Nat} (h : n ≤ m) : ∀ k, IHs n k → IHs m k
  | [], _ => trivial
  | _ :: k, q => ⟨⟨fun e => Nat.le_trans (q.1.1 e) h, fun e => Nat.le_trans (q.1.2 e) h⟩, IHs.up h k q.2⟩
section HPs
variable {T : Tk} {s s' : St} {k : List It}
theorem HSt.kc (h : HSt s) (q : keepC s s') : HSt s' := by
  unfold HSt BGs WHs at h ⊢
  rw [q.2 0 (by decide), q.2 1 (by decide), q.2 2 (by decide)]
  rcases h with h | h
  · exact Or.inl h
  · exact Or.inr (fun c hc => by rw [q.1 _ (by omega)]; exact h c hc)
theorem HKt.kc (h : HKt s k) (q : keepC s s') : HKt s' k := by
  unfold HKt BGs at h ⊢
  rw [q.2 0 (by decide), q.2 1 (by decide), q.2 2 (by decide)]
  exact h
theorem HKt.c {i : It} (hi : (i.1 == 41 || i.1 == 23) = false) (h : HKt s k) : HKt s (i :: k) := by
  rw [Bool.or_eq_false_iff] at hi
  rcases h with h | h
  · exact Or.inl h
  · refine Or.inr ⟨⟨fun e => ?_, fun e => ?_⟩, h⟩
    · have z := hi.1
      rw [e] at z
      exact absurd z (by decide)
    · have z := hi.2
      rw [e] at z
      exact absurd z (by decide)
theorem HKt.w {m : Nat} {sc : Int} {w : Int64} {l : List Nat} (hl : l.getD 1 0 ≤ (s.2.1 1).length) (h : HKt s k) : HKt s (IaddNm m sc w l :: k) := by
  rcases h with h | h
  · exact Or.inl h
  · exact Or.inr ⟨⟨fun e => absurd (show (23 : Nat) = 41 from e) (by decide), fun _ => hl⟩, h⟩
theorem HKt.v {m f : Nat} {sc : Int} {w : Int64} {l : List Nat} (hl : f + 1 ≤ (s.2.1 1).length) (h : HKt s k) : HKt s (IwhenN m sc w ((f + 1) :: l) :: k) := by
  rcases h with h | h
  · exact Or.inl h
  · exact Or.inr ⟨⟨fun _ => hl, fun e => absurd (show (41 : Nat) = 23 from e) (by decide)⟩, h⟩
/-- what an item tells, where the tables aren't too big -/
def OIt (s : St) (i : It) : Prop := BGs s ∨ ((i.1 = 41 → i.2.2.2.2.2.getD 0 0 ≤ (s.2.1 1).length) ∧ (i.1 = 23 → i.2.2.2.2.2.getD 1 0 ≤ (s.2.1 1).length))
theorem HKt.u {m m' v : Nat} {sc sc' x : Int} {w w' : Int64} {l : List Nat} (o : OIt s (41, m', sc', x, w', l)) (h : HKt (nx s 1) k) : HKt (nx s 1) (IaddNm m sc w (v :: l) :: k) := by
  rcases o with o | o
  · exact Or.inl o
  · refine HKt.w ?_ h
    have z := o.1 rfl
    cases l with
    | nil => exact Nat.zero_le _
    | cons a l => exact z
theorem fnd_le {l : List Int64} {w : Int64} {x : Nat} (h : fndI l w = some x) : x + 1 ≤ l.length := by
  unfold fndI at h
  rw [List.findIdx?_eq_some_iff_getElem] at h
  exact h.1
theorem upB_l (f : Nat → List Int64) (t : Nat) (w : Int64) : (upB f t w t).length = (f t).length + 1 := by
  unfold upB
  rw [if_pos rfl, List.length_append]
  rfl
theorem upB_o (f : Nat → List Int64) (t : Nat) (w : Int64) {j : Nat} (h : j ≠ t) : upB f t w j = f j := if_neg h
theorem HSt.ty {w : Int64} {l : List Nat} (h : HSt s) : HSt (tyS s w l) := by
  by_cases b : BGs s
  · refine Or.inl ?_
    show 25 ≤ (upB s.2.1 0 w 0).length ∨ 13 ≤ (upB s.2.1 0 w 1).length ∨ 25 ≤ (upB s.2.1 0 w 2).length
    unfold BGs at b
    rw [upB_l, upB_o _ _ _ (by decide), upB_o _ _ _ (by decide)]
    omega
  · have h2 := h.resolve_left b
    refine Or.inr (fun c hc => ?_)
    unfold BGs at b
    have hc : c < (upB s.2.1 0 w 2).length := hc
    rw [upB_o _ _ _ (by decide)] at hc
    show upN s.1 (30 + (s.2.1 0).length) _ (64 + 8 * c) ≤ (upB s.2.1 0 w 1).length
    rw [upB_o _ _ _ (by decide), upN_o _ _ _ (by omega)]
    exact h2 c hc
theorem HKt.ty {w : Int64} {l : List Nat} (h : HKt s k) : HKt (tyS s w l) k := by
  rcases h with h | h
  · refine Or.inl ?_
    show 25 ≤ (upB s.2.1 0 w 0).length ∨ 13 ≤ (upB s.2.1 0 w 1).length ∨ 25 ≤ (upB s.2.1 0 w 2).length
    unfold BGs at h
    rw [upB_l, upB_o _ _ _ (by decide), upB_o _ _ _ (by decide)]
    omega
  · refine Or.inr ?_
    show IHs (upB s.2.1 0 w 1).length k
    rw [upB_o _ _ _ (by decide)]
    exact h
theorem HSt.se {w : Int64} {v : Nat} (h : HSt s) : HSt (seS s w v) := by
  by_cases b : BGs s
  · refine Or.inl ?_
    show 25 ≤ (upB s.2.1 1 w 0).length ∨ 13 ≤ (upB s.2.1 1 w 1).length ∨ 25 ≤ (upB s.2.1 1 w 2).length
    unfold BGs at b
    rw [upB_l, upB_o _ _ _ (by decide), upB_o _ _ _ (by decide)]
    omega
  · have h2 := h.resolve_left b
    refine Or.inr (fun c hc => ?_)
    unfold BGs at b
    have hc : c < (upB s.2.1 1 w 2).length := hc
    rw [upB_o _ _ _ (by decide)] at hc
    show upN s.1 (10 + (s.2.1 1).length) _ (64 + 8 * c) ≤ (upB s.2.1 1 w 1).length
    rw [upB_l, upN_o _ _ _ (by omega)]
    have z := h2 c hc
    omega
theorem HKt.se {w : Int64} {v : Nat} (h : HKt s k) : HKt (seS s w v) k := by
  rcases h with h | h
  · refine Or.inl ?_
    show 25 ≤ (upB s.2.1 1 w 0).length ∨ 13 ≤ (upB s.2.1 1 w 1).length ∨ 25 ≤ (upB s.2.1 1 w 2).length
    unfold BGs at h
    rw [upB_l, upB_o _ _ _ (by decide), upB_o _ _ _ (by decide)]
    omega
  · refine Or.inr ?_
    show IHs (upB s.2.1 1 w 1).length k
    rw [upB_l]
    exact IHs.up (Nat.le_succ _) k h
theorem HSt.nm {m : Nat} {sc x : Int} {w : Int64} {l : List Nat} (h : HSt s) (o : OIt s (23, m, sc, x, w, l)) : HSt (nmS s m sc w l) := by
  by_cases b : BGs s
  · refine Or.inl ?_
    show 25 ≤ (upB s.2.1 2 w 0).length ∨ 13 ≤ (upB s.2.1 2 w 1).length ∨ 25 ≤ (upB s.2.1 2 w 2).length
    unfold BGs at b
    rw [upB_l, upB_o _ _ _ (by decide), upB_o _ _ _ (by decide)]
    omega
  · have h2 := h.resolve_left b
    have o2 := (o.resolve_left b).2 rfl
    refine Or.inr (fun c hc => ?_)
    have hc : c < (upB s.2.1 2 w 2).length := hc
    rw [upB_l] at hc
    show hdr s.1 (s.2.1 2).length m sc.toNat l (64 + 8 * c) ≤ (upB s.2.1 2 w 1).length
    rw [upB_o _ _ _ (by decide)]
    by_cases e : c = (s.2.1 2).length
    · rw [← e, show 64 + 8 * c = 60 + 8 * c + 4 from by omega, hdr_i (by decide)]
      exact o2
    · rw [hdr_o (by omega)]
      exact h2 c (by omega)
theorem HKt.nm {m : Nat} {sc : Int} {w : Int64} {l : List Nat} (h : HKt s k) : HKt (nmS s m sc w l) k := by
  rcases h with h | h
  · refine Or.inl ?_
    show 25 ≤ (upB s.2.1 2 w 0).length ∨ 13 ≤ (upB s.2.1 2 w 1).length ∨ 25 ≤ (upB s.2.1 2 w 2).length
    unfold BGs at h
    rw [upB_l, upB_o _ _ _ (by decide), upB_o _ _ _ (by decide)]
    omega
  · refine Or.inr ?_
    show IHs (upB s.2.1 2 w 1).length k
    rw [upB_o _ _ _ (by decide)]
    exact h
theorem HSt.nd {a : Int} {f ca : Nat} (h : HSt s) : HSt (ndS s a f ca) := by
  by_cases b : BGs s
  · exact Or.inl b
  · have h2 := h.resolve_left b
    refine Or.inr (fun c hc => ?_)
    have hc : c < (s.2.1 2).length := hc
    unfold BGs at b
    show ndf s.1 ((s.2.1 2).length - 1) a.toNat f ca (64 + 8 * c) ≤ (s.2.1 1).length
    rw [ndf_h (by omega) (by omega) (by omega)]
    exact h2 c hc
theorem HKt.nd {a : Int} {f ca : Nat} (h : HKt s k) : HKt (ndS s a f ca) k := h
theorem HP.i2 {p : Prop} [Decidable p] {a b : Cf} (ha : p → HP a) (hb : ¬ p → HP b) : HP (if p then a else b) := by
  split
  · exact ha ‹_›
  · exact hb ‹_›
theorem HP.lk {l : List Int64} {f : Nat → Cf} (h : ∀ x, fndI l (T.2.1 (s.1 0)) = some x → HP (f x)) : HP (look T s l f) := by
  unfold look
  refine HP.i2 (fun _ => trivial) (fun _ => ?_)
  split
  · exact trivial
  · rename_i x e
    exact h x e
theorem HP.nw {f : Int64 → Cf} (h : ∀ w, HP (f w)) : HP (newN T s f) := by
  unfold newN
  exact HP.i2 (fun _ => trivial) (fun _ => HP.i2 (fun _ => trivial) (fun _ => h _))
theorem keepC.sa {j : Nat} {w : Int64} (hj : 3 ≤ j) : keepC s (sA s j w) := ⟨fun _ _ => rfl, fun i hi => upB_o _ _ _ (by omega)⟩
theorem HP.mw {j : Nat} {f : Nat × St → Cf} (hj : 3 ≤ j) (hs : HSt s) (hk : HKt s k) (h : ∀ x : Nat × St, HSt x.2 → HKt x.2 k → HP (f x)) : HP (mthW T s j f) := by
  unfold mthW
  refine HP.i2 (fun _ => trivial) (fun _ => ?_)
  unfold nbrW
  split
  · exact h _ (hs.kc keepC.n1) (hk.kc keepC.n1)
  · exact HP.i2 (fun _ => trivial) (fun _ => h _ ((hs.kc keepC.n1).kc (keepC.sa hj)) ((hk.kc keepC.n1).kc (keepC.sa hj)))
theorem HP.mn {f : Nat × St → Cf} (hs : HSt s) (hk : HKt s k) (h : ∀ x : Nat × St, HSt x.2 → HKt x.2 k → HP (f x)) : HP (mthN T s f) := by
  unfold mthN
  exact HP.i2 (fun _ => trivial) (fun _ => HP.mw (by decide) hs hk h)
theorem HP.nu {lo hi : Int} {f : Nat → Cf} (h : ∀ v, HP (f v)) : HP (numW T s lo hi f) := by
  unfold numW
  exact HP.i2 (fun _ => trivial) (fun _ => HP.i2 (fun _ => trivial) (fun _ => h _))
theorem HP.it (h : HSt s) (hk : HKt s k) : (i : It) → OIt s i → HP (itW T s k i)
  | (0, _, _, _, _, _), _ => HP.i2 (fun _ => ⟨h.kc keepC.n1, (hk.kc keepC.n1)⟩) (fun _ => trivial)
  | (1, _, _, _, _, _), _ => ⟨h, (HKt.c rfl (HKt.c rfl hk))⟩
  | (2, _, _, _, _, _), _ => HP.i2 (fun _ => ⟨h.kc keepC.n1, (HKt.c rfl (HKt.c rfl (hk.kc keepC.n1)))⟩) (fun _ => ⟨h, hk⟩)
  | (3, _, _, _, _, _), _ => ⟨h, (HKt.c rfl (HKt.c rfl hk))⟩
  | (4, _, _, _, _, _), _ => HP.i2 (fun _ => ⟨h.kc keepC.n1, (HKt.c rfl (HKt.c rfl (HKt.c rfl (hk.kc keepC.n1))))⟩) (fun _ => ⟨h, hk⟩)
  | (5, _, _, _, _, _), _ => ⟨h, (HKt.c rfl (HKt.c rfl hk))⟩
  | (6, _, _, _, _, _), _ => HP.i2 (fun _ => ⟨h.kc keepC.n1, (HKt.c rfl (HKt.c rfl (HKt.c rfl (hk.kc keepC.n1))))⟩) (fun _ => ⟨h, hk⟩)
  | (7, d, _, _, _, _), _ => by
    show HP (if ¬ bgP T s then fl T s 1 else if 8 ≤ d then fl T s 5 else partW T s d k)
    refine HP.i2 (fun _ => trivial) (fun _ => HP.i2 (fun _ => trivial) (fun _ => ?_))
    unfold partW
    exact HP.i2 (fun _ => ⟨((h.kc keepC.n1).kc keepC.em).kc keepC.em, (((hk.kc keepC.n1).kc keepC.em).kc keepC.em)⟩) (fun _ => HP.i2 (fun _ => ⟨(h.kc keepC.n1).kc keepC.em, (HKt.c rfl ((hk.kc keepC.n1).kc keepC.em))⟩) (fun _ => HP.i2 (fun _ => ⟨(h.kc keepC.n1).kc keepC.em, (HKt.c rfl (HKt.c rfl ((hk.kc keepC.n1).kc keepC.em)))⟩) (fun _ => HP.i2 (fun _ => ⟨(h.kc keepC.n1).kc keepC.em, (HKt.c rfl (HKt.c rfl ((hk.kc keepC.n1).kc keepC.em)))⟩) (fun _ => HP.i2 (fun _ => ⟨(h.kc keepC.n1).kc keepC.em, (HKt.c rfl ((hk.kc keepC.n1).kc keepC.em))⟩) (fun _ => HP.i2 (fun _ => ⟨(h.kc keepC.n1).kc keepC.em, (HKt.c rfl ((hk.kc keepC.n1).kc keepC.em))⟩) (fun _ => HP.i2 (fun _ => ⟨(h.kc keepC.n1).kc keepC.em, (HKt.c rfl (HKt.c rfl (HKt.c rfl (HKt.c rfl ((hk.kc keepC.n1).kc keepC.em)))))⟩) (fun _ => HP.i2 (fun _ => ⟨(h.kc keepC.n1).kc keepC.em, (HKt.c rfl ((hk.kc keepC.n1).kc keepC.em))⟩) (fun _ => ⟨(h.kc keepC.n1).kc keepC.em, (HKt.c rfl (HKt.c rfl (HKt.c rfl (HKt.c rfl ((hk.kc keepC.n1).kc keepC.em)))))⟩))))))))
  | (8, _, _, _, _, _), _ => HP.i2 (fun _ => trivial) (fun _ => HP.i2 (fun _ => trivial) (fun _ => ⟨h.kc keepC.n1, (hk.kc keepC.n1)⟩))
  | (9, _, _, _, _, _), _ => HP.lk (fun _ _ => ⟨(h.kc keepC.n1).kc keepC.em, ((hk.kc keepC.n1).kc keepC.em)⟩)
  | (10, _, _, _, _, _), _ => HP.mw (by decide) h hk (fun _ g gk => ⟨g, (HKt.c rfl (HKt.c rfl (HKt.c rfl (HKt.c rfl gk))))⟩)
  | (11, _, _, _, _, _), _ => HP.mw (by decide) h hk (fun _ g gk => ⟨g, (HKt.c rfl (HKt.c rfl (HKt.c rfl gk)))⟩)
  | (12, _, _, _, _, _), _ => by
    show HP (stmtW T s k)
    unfold stmtW
    exact HP.i2 (fun _ => h) (fun _ => HP.i2 (fun _ => HP.i2 (fun _ => trivial) (fun _ => ⟨h.kc keepC.n1, (HKt.c rfl (hk.kc keepC.n1))⟩)) (fun _ => HP.i2 (fun _ => HP.i2 (fun _ => trivial) (fun _ => ⟨h.kc keepC.n1, (HKt.c rfl (hk.kc keepC.n1))⟩)) (fun _ => HP.i2 (fun _ => HP.i2 (fun _ => trivial) (fun _ => ⟨h.kc keepC.n1, (HKt.c rfl (hk.kc keepC.n1))⟩)) (fun _ => HP.i2 (fun _ => HP.i2 (fun _ => trivial) (fun _ => ⟨h.kc keepC.n1, (HKt.c rfl (hk.kc keepC.n1))⟩)) (fun _ => trivial)))))
  | (13, _, _, _, _, _), _ => HP.nw (f := fun w => Crun (nx s 1) (Ilike w :: k)) (fun _ => ⟨h.kc keepC.n1, (HKt.c rfl (hk.kc keepC.n1))⟩)
  | (14, _, _, _, _, _), _ => HP.lk (fun _ _ => HP.i2 (fun _ => trivial) (fun _ => HP.i2 (fun _ => trivial) (fun _ => ⟨h.kc keepC.n1, (HKt.c rfl (hk.kc keepC.n1))⟩)))
  | (15, _, _, _, _, _), _ => ⟨h.ty, hk.ty⟩
  | (16, _, _, _, _, _), _ => HP.nw (f := fun w => Crun (nx s 1) (IsetN w :: k)) (fun _ => ⟨h.kc keepC.n1, (HKt.c rfl (hk.kc keepC.n1))⟩)
  | (17, _, _, _, _, _), _ => ⟨h.se, hk.se⟩
  | (18, _, _, _, _, _), _ => HP.nw (f := fun w => Crun (nx s 1) (Itake 132 :: Itypes 1 w 0 [] :: k)) (fun _ => ⟨h.kc keepC.n1, (HKt.c rfl (HKt.c rfl (hk.kc keepC.n1)))⟩)
  | (19, _, _, _, _, _), _ => HP.i2 (fun _ => trivial) (fun _ => ⟨(h.kc keepC.n1).kc keepC.sc, (HKt.c rfl ((hk.kc keepC.n1).kc keepC.sc))⟩)
  | (20, _, _, _, _, _), _ => HP.i2 (fun _ => ⟨h.kc keepC.n1, (HKt.c rfl (hk.kc keepC.n1))⟩) (fun _ => ⟨h, (HKt.c rfl (HKt.c rfl (HKt.c rfl hk)))⟩)
  | (21, _, _, _, _, _), _ => HP.i2 (fun _ => ⟨h.kc keepC.n1, (HKt.c rfl (hk.kc keepC.n1))⟩) (fun _ => ⟨h, (HKt.c rfl hk)⟩)
  | (22, _, _, _, _, _), _ => HP.i2 (fun _ => ⟨h.kc keepC.n1, (HKt.c rfl (hk.kc keepC.n1))⟩) (fun _ => ⟨h, HKt.c rfl (HKt.w (Nat.zero_le _) (HKt.c rfl hk))⟩)
  | (23, m, sc, _, w, l), o => ⟨h.nm o, hk.nm⟩
  | (24, _, _, _, _, _), _ => by
    show HP (memberW T s k)
    unfold memberW
    exact HP.i2 (fun _ => ⟨h.kc keepC.n1, (HKt.c rfl (hk.kc keepC.n1))⟩) (fun _ => HP.i2 (fun _ => HP.i2 (fun _ => trivial) (fun _ => ⟨h.kc keepC.n1, (HKt.c rfl (hk.kc keepC.n1))⟩)) (fun _ => HP.i2 (fun _ => HP.i2 (fun _ => trivial) (fun _ => ⟨((h.kc (keepC.sn (by decide))).kc keepC.n1).kc (keepC.gl (by omega)), (HKt.c rfl (HKt.c rfl (HKt.c rfl (HKt.c rfl (((hk.kc (keepC.sn (by decide))).kc keepC.n1).kc (keepC.gl (by omega)))))))⟩)) (fun _ => HP.i2 (fun _ => HP.i2 (fun _ => trivial) (fun _ => ⟨((h.kc (keepC.sn (by decide))).kc keepC.n1).kc (keepC.gl (by omega)), (HKt.c rfl (HKt.c rfl (HKt.c rfl (HKt.c rfl (((hk.kc (keepC.sn (by decide))).kc keepC.n1).kc (keepC.gl (by omega)))))))⟩)) (fun _ => HP.i2 (fun _ => ⟨h.kc keepC.n1, (HKt.c rfl (HKt.c rfl (HKt.c rfl (HKt.c rfl (HKt.c rfl (hk.kc keepC.n1))))))⟩) (fun _ => trivial)))))
  | (25, _, _, _, _, _), _ => HP.lk (fun _ _ => HP.i2 (fun _ => ⟨h.kc keepC.n1, (HKt.c rfl (HKt.c rfl (HKt.c rfl (hk.kc keepC.n1))))⟩) (fun _ => ⟨h.kc keepC.n1, (HKt.c rfl (hk.kc keepC.n1))⟩))
  | (26, _, _, _, _, _), _ => ⟨h.nd, hk.nd⟩
  | (27, _, _, _, _, _), _ => HP.mn h hk (fun _ g gk => ⟨(g.kc keepC.st).kc (keepC.gl (by omega)), (gk.kc keepC.st).kc (keepC.gl (by omega))⟩)
  | (28, _, _, _, _, _), _ => HP.lk (fun _ _ => ⟨h.kc keepC.n1, (HKt.c rfl (HKt.c rfl (hk.kc keepC.n1)))⟩)
  | (29, _, _, _, _, _), _ => HP.mw (by decide) h hk (fun _ g gk => ⟨g, (HKt.c rfl gk)⟩)
  | (30, _, _, _, _, _), _ => HP.i2 (fun _ => trivial) (fun _ => HP.i2 (fun _ => trivial) (fun _ => ⟨(h.kc keepC.n1).kc (keepC.sn (by decide)), (HKt.c rfl (HKt.c rfl (HKt.c rfl (HKt.c rfl (HKt.c rfl ((hk.kc keepC.n1).kc (keepC.sn (by decide))))))))⟩))
  | (31, _, _, _, _, _), _ => ⟨h.kc keepC.wS, hk.kc keepC.wS⟩
  | (32, _, _, _, _, _), _ => HP.i2 (fun _ => ⟨h.kc keepC.n1, (HKt.c rfl (hk.kc keepC.n1))⟩) (fun _ => ⟨h, (HKt.c rfl (HKt.c rfl (HKt.c rfl hk)))⟩)
  | (33, _, _, _, _, _), _ => HP.i2 (fun _ => ⟨h.kc keepC.n1, (HKt.c rfl (hk.kc keepC.n1))⟩) (fun _ => ⟨h, (HKt.c rfl hk)⟩)
  | (34, _, _, _, _, _), _ => HP.i2 (fun _ => ⟨h.kc keepC.n1, (HKt.c rfl (hk.kc keepC.n1))⟩) (fun _ => HP.i2 (fun _ => ⟨h.kc keepC.n1, (HKt.c rfl (hk.kc keepC.n1))⟩) (fun _ => ⟨h, (HKt.c rfl hk)⟩))
  | (35, _, _, _, _, _), _ => HP.i2 (fun _ => ⟨h, (HKt.c rfl (HKt.c rfl (HKt.c rfl hk)))⟩) (fun _ => ⟨h, (HKt.c rfl hk)⟩)
  | (36, _, _, _, w, _), _ => HP.nu (T := T) (s := s) (lo := 0) (hi := 999999999) (f := fun v => Crun (nx s 1) (Itake 59 :: IaddSe w v :: Istmt :: k)) (fun _ => ⟨h.kc keepC.n1, (HKt.c rfl (HKt.c rfl (HKt.c rfl (hk.kc keepC.n1))))⟩)
  | (37, _, _, _, _, _), _ => HP.i2 (fun _ => ⟨h.kc keepC.n1, (HKt.c rfl (hk.kc keepC.n1))⟩) (fun _ => ⟨h, (HKt.c rfl hk)⟩)
  | (38, _, _, _, _, _), _ => HP.mw (by decide) h hk (fun _ g gk => ⟨g, (HKt.c rfl gk)⟩)
  | (39, m, sc, _, w, l), _ => HP.nu (T := T) (s := s) (lo := 0) (hi := 9) (f := fun v => Crun (nx s 1) (IwhenI m sc w (v :: l) :: k)) (fun _ => ⟨h.kc keepC.n1, (HKt.c rfl (hk.kc keepC.n1))⟩)
  | (40, _, _, _, _, _), _ => HP.lk (fun x hx => ⟨h.kc keepC.n1, HKt.v (fnd_le hx) (hk.kc keepC.n1)⟩)
  | (41, m, sc, _, w, l), o => HP.nu (T := T) (s := s) (lo := 0) (hi := 999999999) (f := fun v => Crun (nx s 1) (Itake 123 :: IaddNm m sc w (v :: l) :: Imember :: k)) (fun v => ⟨h.kc keepC.n1, HKt.c rfl (HKt.u o (HKt.c rfl (hk.kc keepC.n1)))⟩)
  | (42, _, _, _, _, _), _ => ⟨h.kc keepC.em, hk.kc keepC.em⟩
  | (43, _, _, _, _, _), _ => ⟨h.kc keepC.em, (HKt.c rfl (HKt.c rfl (HKt.c rfl (hk.kc keepC.em))))⟩
  | (44, _, _, _, _, _), _ => ⟨(h.kc keepC.em).kc (keepC.gl (by omega)), (HKt.c rfl (HKt.c rfl (HKt.c rfl ((hk.kc keepC.em).kc (keepC.gl (by omega))))))⟩
  | (45, _, _, _, _, _), _ => ⟨h.kc (keepC.gl (by omega)), hk.kc (keepC.gl (by omega))⟩
  | (46, d, _, _, _, _), _ => HP.nu (T := T) (s := s) (lo := 0) (hi := ((s.1 1 : Nat) : Int) - 1) (f := fun v => Crun (nx s 1) (Itake 46 :: IofM d v :: k)) (fun _ => ⟨h.kc keepC.n1, (HKt.c rfl (HKt.c rfl (hk.kc keepC.n1)))⟩)
  | (47, _, _, _, _, _), _ => ⟨h.kc keepC.em, hk.kc keepC.em⟩
  | (48, _, _, _, _, _), _ => HP.nu (T := T) (s := s) (lo := 1) (hi := 9) (f := fun v => Crun (emS (nx s 1) 10 v 0) k) (fun _ => ⟨(h.kc keepC.n1).kc keepC.em, ((hk.kc keepC.n1).kc keepC.em)⟩)
  | (49, f, _, _, _, l), _ => HP.nu (T := T) (s := s) (lo := 0) (hi := 99) (f := fun v => Crun (nx s 1) (Iphase (l.headD 0) [f, v] :: k)) (fun _ => ⟨h.kc keepC.n1, (HKt.c rfl (hk.kc keepC.n1))⟩)
  | (_ + 50, _, _, _, _, _), _ => ⟨h, hk⟩
theorem HP.st {c : Cf} (h : HP c) : HP (mst T c) := by
  cases c with
  | inr c => exact h
  | inl c =>
    obtain ⟨s, k⟩ := c
    cases k with
    | nil => exact h
    | cons i k =>
      rcases h with ⟨h1, h2 | h2⟩
      · exact HP.it (s := s) h1 (Or.inl h2) i (Or.inl h2)
      · exact HP.it (s := s) h1 (Or.inr h2.2) i (Or.inr h2.1)
theorem HP.run (m : Nat) : ∀ {c : Cf}, HP c → HP (mrun T m c) := by
  induction m with
  | zero => exact fun h => h
  | succ m ih => exact fun h => ih (HP.st h)
end HPs
theorem Rc.wh {T : Tk} {s' : St} (h : Rc T (Crun St0 [Istmt]) (Cdone s')) (l : LNb s') : WHs s' := by
  obtain ⟨m, e⟩ := h
  have g : HP (mrun T m (Crun St0 [Istmt])) := HP.run m ⟨Or.inr (fun c hc => absurd hc (Nat.not_lt_zero _)), HKt.c rfl (Or.inr trivial)⟩
  rw [e] at g
  rcases g with g | g
  · unfold BGs at g
    unfold LNb at l
    omega
  · exact g
/-- the settings that are read, read alike -/
def SEQ (V : Vf) (b : Nat) (Vm : Vf) (q n : Nat) : Prop := ∀ i, i < n → V 46 (12 * b + i) = Vm 18 (12 * q + i)
/-! a need's CANDIDATES, by the content's numbers -/
def thP (f : Nat → Nat) (sv : Nat → Int) (c : Nat) : Bool := f (64 + 8 * c) == 0 || sv (f (64 + 8 * c) - 1) == ((f (65 + 8 * c) : Nat) : Int)
def suP (f : Nat → Nat) (sv : Nat → Int) (t ca k : Nat) : Bool := (f (60 + 8 * k)).testBit t && (ca == 0 || f (62 + 8 * k) == ca) && thP f sv k
def bsP (f : Nat → Nat) (sv : Nat → Int) (t ca : Nat) : Nat → Nat
  | 0 => 0
  | m + 1 => if suP f sv t ca m = true ∧ bsP f sv t ca m < f (63 + 8 * m) then f (63 + 8 * m) else bsP f sv t ca m
def cdP (f : Nat → Nat) (sv : Nat → Int) (kd t ca m k : Nat) : Bool := suP f sv t ca k && (kd == 2 || f (63 + 8 * k) == bsP f sv t ca m)
section CKs
variable {f : Nat → Nat} {sv : Nat → Int} {kd t ca m k : Nat}
theorem thP_0 (h : f (64 + 8 * k) = 0) : thP f sv k = true := by
  unfold thP
  rw [h]
  rfl
theorem thP_y {x v : Int} (h : f (64 + 8 * k) ≠ 0) (e : sv (f (64 + 8 * k) - 1) = x) (e2 : ((f (65 + 8 * k) : Nat) : Int) = v) (q : x = v) : thP f sv k = true := by
  unfold thP
  rw [Bool.or_eq_true, e, e2, q]
  exact Or.inr (beq_self_eq_true v)
theorem thP_n {x v : Int} (h : f (64 + 8 * k) ≠ 0) (e : sv (f (64 + 8 * k) - 1) = x) (e2 : ((f (65 + 8 * k) : Nat) : Int) = v) (q : x ≠ v) : thP f sv k = false := by
  unfold thP
  rw [Bool.or_eq_false_iff, e, e2]
  exact ⟨beq_false_of_ne h, beq_false_of_ne q⟩
theorem suP_y (b : (f (60 + 8 * k)).testBit t = true) (c : ca = 0 ∨ f (62 + 8 * k) = ca) (h : thP f sv k = true) : suP f sv t ca k = true := by
  unfold suP
  rw [b, h, Bool.true_and, Bool.and_true, Bool.or_eq_true, beq_iff_eq, beq_iff_eq]
  exact c
theorem suP_1 (b : (f (60 + 8 * k)).testBit t = false) : suP f sv t ca k = false := by
  unfold suP
  rw [b]
  rfl
theorem suP_2 (c : ca ≠ 0) (c2 : f (62 + 8 * k) ≠ ca) : suP f sv t ca k = false := by
  unfold suP
  rw [beq_false_of_ne c, beq_false_of_ne c2, Bool.or_self, Bool.and_false, Bool.false_and]
theorem suP_3 (h : thP f sv k = false) : suP f sv t ca k = false := by
  unfold suP
  rw [h, Bool.and_false]
theorem bsP_n (h : suP f sv t ca m = false) : bsP f sv t ca (m + 1) = bsP f sv t ca m := if_neg (fun q => by rw [h] at q; exact absurd q.1 Bool.false_ne_true)
theorem bsP_h (h : suP f sv t ca m = true) (l : bsP f sv t ca m < f (63 + 8 * m)) : bsP f sv t ca (m + 1) = f (63 + 8 * m) := if_pos ⟨h, l⟩
theorem bsP_l (l : f (63 + 8 * m) ≤ bsP f sv t ca m) : bsP f sv t ca (m + 1) = bsP f sv t ca m := if_neg (fun q => by omega)
theorem bsP_mono : bsP f sv t ca m ≤ bsP f sv t ca (m + 1) := by
  show _ ≤ if suP f sv t ca m = true ∧ bsP f sv t ca m < f (63 + 8 * m) then f (63 + 8 * m) else bsP f sv t ca m
  split
  · omega
  · omega
theorem bsP_ge : ∀ m, k < m → suP f sv t ca k = true → f (63 + 8 * k) ≤ bsP f sv t ca m := by
  intro m
  induction m with
  | zero => intro h; omega
  | succ m ih =>
    intro h q
    rcases Nat.lt_or_eq_of_le (Nat.le_of_lt_succ h) with c | c
    · exact Nat.le_trans (ih c q) bsP_mono
    · subst c
      by_cases l : bsP f sv t ca k < f (63 + 8 * k)
      · rw [bsP_h q l]
        exact Nat.le_refl _
      · rw [bsP_l (by omega)]
        omega
theorem cdP_y (s : suP f sv t ca k = true) (c : kd = 2 ∨ f (63 + 8 * k) = bsP f sv t ca m) : cdP f sv kd t ca m k = true := by
  unfold cdP
  rw [s, Bool.true_and, Bool.or_eq_true, beq_iff_eq, beq_iff_eq]
  exact c
theorem cdP_i (h : cdP f sv kd t ca m k = true) : suP f sv t ca k = true ∧ (kd = 2 ∨ f (63 + 8 * k) = bsP f sv t ca m) := by
  unfold cdP at h
  rw [Bool.and_eq_true, Bool.or_eq_true, beq_iff_eq, beq_iff_eq] at h
  exact h
theorem cdP_e {m' : Nat} (e : bsP f sv t ca m' = bsP f sv t ca m) : cdP f sv kd t ca m' k = cdP f sv kd t ca m k := by
  unfold cdP
  rw [e]
/-- the set so far -/
def FND (x : Int32) (f : Nat → Nat) (sv : Nat → Int) (kd t ca m : Nat) : Prop := ∀ g, g < 24 → (bt x g = true ↔ g < m ∧ cdP f sv kd t ca m g = true)
theorem FND.z : FND 0 f sv kd t ca 0 := fun g _ => ⟨fun h => by rw [b_0] at h; exact absurd h Bool.false_ne_true, fun h => absurd h.1 (Nat.not_lt_zero _)⟩
theorem cdP_n (h : suP f sv t ca k = false) : cdP f sv kd t ca m k = false := by
  unfold cdP
  rw [h]
  rfl
theorem FND.no {x : Int32} (h : FND x f sv kd t ca m) (n : suP f sv t ca m = false) : FND x f sv kd t ca (m + 1) := fun g hg => by
  rw [h g hg, cdP_e (bsP_n n)]
  constructor
  · exact fun q => ⟨by omega, q.2⟩
  · rintro ⟨a, q⟩
    refine ⟨?_, q⟩
    rcases Nat.lt_or_eq_of_le (Nat.le_of_lt_succ a) with c | c
    · exact c
    · subst c
      rw [cdP_n n] at q
      exact absurd q Bool.false_ne_true
theorem FND.hi {y z3 z4 x : Int32} (x0 : x = 0) (s : suP f sv t ca m = true) (l : bsP f sv t ca m < f (63 + 8 * m)) (hk : kd ≠ 2) (e3 : z3 = 1 <<< (y &&& 31)) (e4 : z4 = x ||| z3) (hy : y.toInt = (m : Int)) (hm : m < 24) : FND z4 f sv kd t ca (m + 1) := fun g hg => by
  subst x0
  rw [lb_set e3 e4 hy hm hg, b_0]
  constructor
  · rintro (q | q)
    · exact ⟨by omega, by rw [q]; exact cdP_y s (Or.inr (bsP_h s l).symm)⟩
    · exact absurd q Bool.false_ne_true
  · rintro ⟨a, q⟩
    left
    obtain ⟨q1, q2⟩ := cdP_i q
    rcases Nat.lt_or_eq_of_le (Nat.le_of_lt_succ a) with c | c
    · have z := bsP_ge m c q1
      rw [bsP_h s l] at q2
      omega
    · exact c
theorem FND.eq {x y z3 z4 : Int32} (h : FND x f sv kd t ca m) (s : suP f sv t ca m = true) (c : (kd = 2 ∧ True) ∨ f (63 + 8 * m) = bsP f sv t ca m) (e3 : z3 = 1 <<< (y &&& 31)) (e4 : z4 = x ||| z3) (hy : y.toInt = (m : Int)) (hm : m < 24) : FND z4 f sv kd t ca (m + 1) := fun g hg => by
  rw [lb_set e3 e4 hy hm hg, h g hg]
  have e : ∀ g, cdP f sv kd t ca (m + 1) g = cdP f sv kd t ca m g := fun g => by
    rcases c with c | c
    · unfold cdP
      rw [c.1]
      rfl
    · exact cdP_e (bsP_l (by omega))
  rw [e g]
  constructor
  · rintro (q | q)
    · refine ⟨by omega, ?_⟩
      rw [q]
      exact cdP_y s (c.elim (fun z => Or.inl z.1) Or.inr)
    · exact ⟨by omega, q.2⟩
  · rintro ⟨a, q⟩
    rcases Nat.lt_or_eq_of_le (Nat.le_of_lt_succ a) with d | d
    · exact Or.inr ⟨d, q⟩
    · exact Or.inl d
theorem FND.lo {x : Int32} (h : FND x f sv kd t ca m) (l : f (63 + 8 * m) < bsP f sv t ca m) (hk : kd ≠ 2) : FND x f sv kd t ca (m + 1) := fun g hg => by
  rw [h g hg, cdP_e (bsP_l (by omega))]
  constructor
  · exact fun q => ⟨by omega, q.2⟩
  · rintro ⟨a, q⟩
    refine ⟨?_, q⟩
    rcases Nat.lt_or_eq_of_le (Nat.le_of_lt_succ a) with c | c
    · exact c
    · subst c
      have z := (cdP_i q).2
      omega
end CKs
/-- the settings as they are -/
def svc (V : Vf) (b n : Nat) : Nat → Int := fun i => if i < n then (V 46 (12 * b + i)).toInt else 0


abbrev r_x_isThere5 : Room := { frames := 0, cells := 0, slots := 0, locals := 0 }
abbrev q_x_isThere5 (D : va_G) (ks : KS) (ad : Nat → Nat) (kk : Nat → ClassId) (V : Vf) (L : Lf) (Z : XZ) (p0 : Int32) (b : Nat) (gs : St) (gk : Nat) (A : Nat → Prop) : Array Value → State → Outcome → State → Prop := va_Qi (fun (r : Int32) (_ : Unit) => (0 ≤ r.toInt ∧ r.toInt ≤ 1) ∧ ((r.toInt = 1 ∧ thP gs.1 (svc V b (gs.2.1 1).length) gk = true) ∨ (r.toInt = 0 ∧ thP gs.1 (svc V b (gs.2.1 1).length) gk = false))) (fun _ t => gq D A (xw ad kk V L Z) (xty kk Z) t) A
set_option maxHeartbeats 4000000 in
set_option maxRecDepth 100000 in
theorem x_isThere5 (l : Launch) (D : va_G) (ks : KS) (sz : Nat) (ad : Nat → Nat) (kk : Nat → ClassId) (V : Vf) (L : Lf) (Z : XZ) (p0 : Int32) (b : Nat) (gs : St) (gk : Nat) (hMV : rgd bX V) (rg_p0 : 0 ≤ p0.toInt ∧ p0.toInt ≤ 23) (hb2 : b < 2) (pk : p0.toInt = (gk : Int)) (co : COr V (24 * b + gk) gs.1 gk) (whk : gs.1 (64 + 8 * gk) ≤ (gs.2.1 1).length)  : Met l yX0_isThere (Cond.code yX0_isThere cX0_isThere 3 (some .boolean) :: GW) r_x_isThere5 (va_Pc [.ref (ad (38 + b)), .int p0] (gp D ks (xw ad kk V L Z) (xty kk Z) sz)) (q_x_isThere5 D ks ad kk V L Z p0 b gs gk (va_A (xw ad kk V L Z) sz)) 0 0 (va_A (xw ad kk V L Z) sz) := by
  refine g_met (q_x_isThere5 D ks ad kk V L Z p0 b gs gk) (by decide) (Nat.le_of_ble_eq_true rfl) ?_
  intro p e s m below meth c A ls H locs hx hb hr hml hown hg hlocks hin hnw hgk hP hK hD hS hA hl
  replace hown : s.vm.findClass RX0 = some m.cls := hown
  replace hl : lv_has ls 3 [(0, .ref (ad (38 + b))), (1, .int p0)] := hl
  replace hP : va_P D vwCl (xw ad kk V L Z) H := hP
  replace hD : va_D A (xw ad kk V L Z) := hD
  replace hK : va_K D vwCl (xty kk Z) s := hK
  have kc0 : Int32.toNatClampNeg p0 = gk := by have h9 := i_clamp (x := p0) rfl (by (first | exact om_eafa9039069c rg_p0.1 | omega)); (first | exact om_c4e1e142d663 pk h9 | omega)
  have c54 : (V 54 (24 * b + (Int32.toNatClampNeg p0))).toInt + 1 = ((gs.1 (64 + 8 * gk) : Nat) : Int) := by rw [kc0]; exact co.1.2.2.2.2.1
  have c55 : gs.1 (64 + 8 * gk) ≠ 0 → (V 55 (24 * b + (Int32.toNatClampNeg p0))).toInt = ((gs.1 (65 + 8 * gk) : Nat) : Int) := by rw [kc0]; exact co.1.2.2.2.2.2
  refine lv_aload_n hx hb dX0_isThere_0 rfl (lv_at hl 0 rfl) ?_
  refine va_get (D := D) (ci := 0) (v := .ref (ad (64 + b))) (fs := (xfBook ad V b)) (C := RX0) (T := TX0) (N := 13) hx hb hg inX0 hown hK hP (38 + b) (xgBook hb2) rfl 7 (by decide) (hg _ w614) (fun _ h9 => h9) rfl dX0_isThere_1 ?_
  refine lv_iload_n hx hb dX0_isThere_4 rfl (lv_at hl 1 rfl) ?_
  have il1 : b < 2 := by first | exact om_f940a4667dd6 hb2 | first | omega | ((try (have i_co := Imp.go co (by omega))); omega)
  refine va_aldq (D := D) (i := p0) hx hb hK hP (64 + b) (57 + b) (xgcomps il1) (xtcomps il1) (i_in (a := p0.toInt) rfl (by first | exact om_dbb25e99819b rg_p0.1 rg_p0.2 | first | omega | ((try (have i_co := Imp.go co (by omega))); omega))) dX0_isThere_5 ?_
  have kc2 := i_clamp (x := p0) rfl (by first | exact om_eafa9039069c rg_p0.1 | first | omega | ((try (have i_co := Imp.go co (by omega))); omega))
  refine g_topv (v := .ref (ad (72 + (24 * b + (Int32.toNatClampNeg p0))))) (congrArg va_rf (if_pos (by first | omega | ((try (have i_co := Imp.go co (by omega))); omega)))) ?_
  have il3 : (24 * b + (Int32.toNatClampNeg p0)) < 48 := by first | exact om_6c55e7c13eef rg_p0.2 hb2 pk kc0 | first | omega | ((try (have i_co := Imp.go co (by omega))); omega)
  refine lv_astore_n (lv' := [(2, .ref (ad (72 + (24 * b + (Int32.toNatClampNeg p0))))), (0, .ref (ad (38 + b))), (1, .int p0)]) hx hb dX0_isThere_6 rfl hl (by decide) rfl (fun ls hl => ?_)
  refine lv_aload_n hx hb dX0_isThere_7 rfl (lv_at hl 0 rfl) ?_
  refine va_getN (D := D) (ci := 3) (v := .int (V 54 (24 * b + (Int32.toNatClampNeg p0)))) (fs := (xfComp ad V (24 * b + (Int32.toNatClampNeg p0)))) (C := RX3) (T := TX3) (N := 13) hx hb hg inX3 hown hK hP (72 + (24 * b + (Int32.toNatClampNeg p0))) (xgComp il3) rfl 9 (by decide) (hnw.use 532 n532 rfl) (fun _ h9 => h9) rfl dX0_isThere_8 ?_
  have r4 : (-1) ≤ ((V 54 (24 * b + (Int32.toNatClampNeg p0)))).toInt ∧ ((V 54 (24 * b + (Int32.toNatClampNeg p0)))).toInt ≤ 11 := hMV 54 (24 * b + (Int32.toNatClampNeg p0))
  refine lv_iconst (v := (-1)) hx hb dX0_isThere_11 (by decide) ?_
  refine lv_icmp_eq (tgt := 31) hx hb dX0_isThere_12 (by decide) (fun c5 => ?_) (fun c5 => ?_)
  · skip
    have f6 : ((V 54 (24 * b + (Int32.toNatClampNeg p0)))).toInt = (-1) := b_eq rfl (by decide) c5
    refine lv_iconst (v := 1) hx hb dX0_isThere_31 (by decide) ?_
    refine lv_goto (tgt := 36) hx hb dX0_isThere_32 (by decide) ?_
    exact W.zret (v := 1) hx hb hr rfl (fun t ht hW => ⟨⟨1, (), rfl, ⟨(by decide), (Or.inl ⟨rfl, thP_0 (by omega)⟩)⟩, by rw [ht]; exact hP, va_K.moved hW.alike hK, hD⟩, hS.F ht⟩) hS.2.2 dX0_isThere_36
  · skip
    have f7 : ((V 54 (24 * b + (Int32.toNatClampNeg p0)))).toInt ≠ (-1) := b_neq rfl (by decide) c5
    refine lv_aload_n hx hb dX0_isThere_15 rfl (lv_at hl 1 rfl) ?_
    refine va_get (D := D) (ci := 0) (v := .ref (ad (62 + b))) (fs := (xfBook ad V b)) (C := RX0) (T := TX0) (N := 13) hx hb hg inX0 hown hK hP (38 + b) (xgBook hb2) rfl 6 (by decide) (hg _ w610) (fun _ h9 => h9) rfl dX0_isThere_16 ?_
    refine lv_aload_n hx hb dX0_isThere_19 rfl (lv_at hl 0 rfl) ?_
    refine va_getN (D := D) (ci := 3) (v := .int (V 54 (24 * b + (Int32.toNatClampNeg p0)))) (fs := (xfComp ad V (24 * b + (Int32.toNatClampNeg p0)))) (C := RX3) (T := TX3) (N := 13) hx hb hg inX3 hown hK hP (72 + (24 * b + (Int32.toNatClampNeg p0))) (xgComp il3) rfl 9 (by decide) (hnw.use 532 n532 rfl) (fun _ h9 => h9) rfl dX0_isThere_20 ?_
    have il8 : b < 2 := by first | exact om_f940a4667dd6 hb2 | first | omega | ((try (have i_co := Imp.go co (by omega))); omega)
    refine va_iald (D := D) (i := (V 54 (24 * b + (Int32.toNatClampNeg p0)))) hx hb hK hP (62 + b) (55 + b) (xgsettingValues il8) (xtsettingValues il8) (i_in (a := ((V 54 (24 * b + (Int32.toNatClampNeg p0)))).toInt) rfl (by first | exact om_928558d2dcf1 r4.1 r4.2 f7 | first | omega | ((try (have i_co := Imp.go co (by omega))); omega))) dX0_isThere_23 ?_
    have kc9 := i_clamp (x := (V 54 (24 * b + (Int32.toNatClampNeg p0)))) rfl (by first | exact om_e3b1d6ac9ce8 r4.1 f7 | first | omega | ((try (have i_co := Imp.go co (by omega))); omega))
    refine g_top (v := V 46 (12 * b + (Int32.toNatClampNeg (V 54 (24 * b + (Int32.toNatClampNeg p0)))))) (if_pos (by first | omega | ((try (have i_co := Imp.go co (by omega))); omega))) ?_
    refine lv_aload_n hx hb dX0_isThere_24 rfl (lv_at hl 0 rfl) ?_
    refine va_getN (D := D) (ci := 3) (v := .int (V 55 (24 * b + (Int32.toNatClampNeg p0)))) (fs := (xfComp ad V (24 * b + (Int32.toNatClampNeg p0)))) (C := RX3) (T := TX3) (N := 13) hx hb hg inX3 hown hK hP (72 + (24 * b + (Int32.toNatClampNeg p0))) (xgComp il3) rfl 10 (by decide) (hnw.use 535 n535 rfl) (fun _ h9 => h9) rfl dX0_isThere_25 ?_
    refine lv_icmp_ne (tgt := 35) hx hb dX0_isThere_28 (by decide) (fun c10 => ?_) (fun c10 => ?_)
    · skip
      have f11 : ((V 46 (12 * b + (Int32.toNatClampNeg (V 54 (24 * b + (Int32.toNatClampNeg p0))))))).toInt ≠ ((V 55 (24 * b + (Int32.toNatClampNeg p0)))).toInt := b_neq rfl rfl c10
      refine lv_iconst (v := 0) hx hb dX0_isThere_35 (by decide) ?_
      have nz9 : gs.1 (64 + 8 * gk) ≠ 0 := by omega
      have kz9 : gs.1 (64 + 8 * gk) - 1 = (Int32.toNatClampNeg (V 54 (24 * b + (Int32.toNatClampNeg p0)))) := by have h9 := i_clamp (x := V 54 (24 * b + (Int32.toNatClampNeg p0))) rfl (by (first | exact om_e3b1d6ac9ce8 r4.1 f7 | omega)); omega
      have sv9 : svc V b (gs.2.1 1).length (gs.1 (64 + 8 * gk) - 1) = (V 46 (12 * b + (Int32.toNatClampNeg (V 54 (24 * b + (Int32.toNatClampNeg p0)))))).toInt := by unfold svc; rw [if_pos (show gs.1 (64 + 8 * gk) - 1 < (gs.2.1 1).length from by omega), kz9]
      exact W.zret (v := 0) hx hb hr rfl (fun t ht hW => ⟨⟨0, (), rfl, ⟨(by decide), (Or.inr ⟨rfl, thP_n nz9 sv9 (c55 nz9).symm (by omega)⟩)⟩, by rw [ht]; exact hP, va_K.moved hW.alike hK, hD⟩, hS.F ht⟩) hS.2.2 dX0_isThere_36
    · skip
      have f12 : ((V 46 (12 * b + (Int32.toNatClampNeg (V 54 (24 * b + (Int32.toNatClampNeg p0))))))).toInt = ((V 55 (24 * b + (Int32.toNatClampNeg p0)))).toInt := b_eq rfl rfl c10
      refine lv_iconst (v := 1) hx hb dX0_isThere_31 (by decide) ?_
      refine lv_goto (tgt := 36) hx hb dX0_isThere_32 (by decide) ?_
      have nz9 : gs.1 (64 + 8 * gk) ≠ 0 := by omega
      have kz9 : gs.1 (64 + 8 * gk) - 1 = (Int32.toNatClampNeg (V 54 (24 * b + (Int32.toNatClampNeg p0)))) := by have h9 := i_clamp (x := V 54 (24 * b + (Int32.toNatClampNeg p0))) rfl (by (first | exact om_e3b1d6ac9ce8 r4.1 f7 | omega)); omega
      have sv9 : svc V b (gs.2.1 1).length (gs.1 (64 + 8 * gk) - 1) = (V 46 (12 * b + (Int32.toNatClampNeg (V 54 (24 * b + (Int32.toNatClampNeg p0)))))).toInt := by unfold svc; rw [if_pos (show gs.1 (64 + 8 * gk) - 1 < (gs.2.1 1).length from by omega), kz9]
      exact W.zret (v := 1) hx hb hr rfl (fun t ht hW => ⟨⟨1, (), rfl, ⟨(by decide), (Or.inl ⟨rfl, thP_y nz9 sv9 (c55 nz9).symm (by omega)⟩)⟩, by rw [ht]; exact hP, va_K.moved hW.alike hK, hD⟩, hS.F ht⟩) hS.2.2 dX0_isThere_36
abbrev r_x_candidates5 : Room := { frames := 1, cells := 0, slots := 0, locals := 22 }
abbrev q_x_candidates5 (D : va_G) (ks : KS) (ad : Nat → Nat) (kk : Nat → ClassId) (V : Vf) (L : Lf) (Z : XZ) (p0 : Int32) (p1 : Int32) (b : Nat) (gs : St) (gk : Nat) (gj : Nat) (A : Nat → Prop) : Array Value → State → Outcome → State → Prop := va_Qi (fun (r : Int32) (_ : Unit) => (0 ≤ r.toInt ∧ r.toInt ≤ 16777215) ∧ (FND r gs.1 (svc V b (gs.2.1 1).length) (gs.1 (301 + 32 * gk + 4 * gj)) (gs.1 (300 + 32 * gk + 4 * gj)) (gs.1 (302 + 32 * gk + 4 * gj)) (gs.2.1 2).length)) (fun _ t => gq D A (xw ad kk V L Z) (xty kk Z) t) A
set_option maxHeartbeats 4000000 in
set_option maxRecDepth 100000 in
theorem x_candidates5 (l : Launch) (D : va_G) (ks : KS) (sz : Nat) (ad : Nat → Nat) (kk : Nat → ClassId) (V : Vf) (L : Lf) (Z : XZ) (p0 : Int32) (p1 : Int32) (b : Nat) (gs : St) (gk : Nat) (gj : Nat) (hMV : rgd bX V) (rg_p0 : 0 ≤ p0.toInt ∧ p0.toInt ≤ 23) (rg_p1 : 0 ≤ p1.toInt ∧ p1.toInt ≤ 7) (hb2 : b < 2) (pk : p0.toInt = (gk : Int)) (pj : p1.toInt = (gj : Int)) (coc : COc V b gs) (wh : WHs gs) (gkl : gk < (gs.2.1 2).length) (gjl : gj < gs.1 (66 + 8 * gk)) (ln : (V 43 (5 * b + 2)).toInt = (((gs.2.1 2).length : Nat) : Int))  : Met l yX0_candidates (Cond.code yX0_candidates cX0_candidates 12 (some .int) :: GW) r_x_candidates5 (va_Pc [.ref (ad (38 + b)), .int p0, .int p1] (gp D ks (xw ad kk V L Z) (xty kk Z) sz)) (q_x_candidates5 D ks ad kk V L Z p0 p1 b gs gk gj (va_A (xw ad kk V L Z) sz)) 0 0 (va_A (xw ad kk V L Z) sz) := by
  refine g_met (q_x_candidates5 D ks ad kk V L Z p0 p1 b gs gk gj) (by decide) (Nat.le_of_ble_eq_true rfl) ?_
  intro p e s m below meth c A ls H locs hx hb hr hml hown hg hlocks hin hnw hgk hP hK hD hS hA hl
  replace hown : s.vm.findClass RX0 = some m.cls := hown
  replace hl : lv_has ls 12 [(0, .ref (ad (38 + b))), (1, .int p0), (2, .int p1)] := hl
  replace hP : va_P D vwCl (xw ad kk V L Z) H := hP
  replace hD : va_D A (xw ad kk V L Z) := hD
  replace hK : va_K D vwCl (xty kk Z) s := hK
  have r1 : 0 ≤ ((V 43 (5 * b + 2))).toInt ∧ ((V 43 (5 * b + 2))).toInt ≤ ((xcap (5 * b + 2) : Nat) : Int) := hMV 43 (5 * b + 2)
  have r2 : xcap (5 * b + 2) = 24 := xcap_2
  have kc0 : Int32.toNatClampNeg p0 = gk := by have h9 := i_clamp (x := p0) rfl (by (first | exact om_eafa9039069c rg_p0.1 | omega)); (first | exact om_c4e1e142d663 pk h9 | omega)
  have kc1 : Int32.toNatClampNeg p1 = gj := by have h9 := i_clamp (x := p1) rfl (by (first | exact om_eafa9039069c rg_p1.1 | omega)); (first | exact om_c4e1e142d663 pj h9 | omega)
  have ne9 := (coc gk gkl).2.2.2 gj gjl
  unfold NEr at ne9
  rw [show 8 * (24 * b + gk) + gj = 8 * (24 * b + (Int32.toNatClampNeg p0)) + (Int32.toNatClampNeg p1) from by rw [kc0, kc1]] at ne9
  have n58 := ne9.1
  have n60 := ne9.2.1
  have n59 := ne9.2.2.1
  have n24 := ne9.2.2.2
  refine lv_aload_n hx hb dX0_candidates_0 rfl (lv_at hl 0 rfl) ?_
  refine va_get (D := D) (ci := 0) (v := .ref (ad (64 + b))) (fs := (xfBook ad V b)) (C := RX0) (T := TX0) (N := 13) hx hb hg inX0 hown hK hP (38 + b) (xgBook hb2) rfl 7 (by decide) (hg _ w614) (fun _ h9 => h9) rfl dX0_candidates_1 ?_
  refine lv_iload_n hx hb dX0_candidates_4 rfl (lv_at hl 1 rfl) ?_
  have il3 : b < 2 := by first | exact om_f940a4667dd6 hb2 | first | omega | ((try (have i_gjl := Imp.go gjl (by omega))); (try (have i_gkl := Imp.go gkl (by omega))); (try (have i_wh := Imp.go wh (by omega))); (try (have i_coc := Imp.go coc (by omega))); first | omega | ((try (have i_coc := Imp.go coc (by omega))); (try (have i_wh := Imp.go wh (by omega))); (try (have i_gkl := Imp.go gkl (by omega))); (try (have i_gjl := Imp.go gjl (by omega))); omega))
  refine va_aldq (D := D) (i := p0) hx hb hK hP (64 + b) (57 + b) (xgcomps il3) (xtcomps il3) (i_in (a := p0.toInt) rfl (by first | exact om_dbb25e99819b rg_p0.1 rg_p0.2 | first | omega | ((try (have i_gjl := Imp.go gjl (by omega))); (try (have i_gkl := Imp.go gkl (by omega))); (try (have i_wh := Imp.go wh (by omega))); (try (have i_coc := Imp.go coc (by omega))); first | omega | ((try (have i_coc := Imp.go coc (by omega))); (try (have i_wh := Imp.go wh (by omega))); (try (have i_gkl := Imp.go gkl (by omega))); (try (have i_gjl := Imp.go gjl (by omega))); omega)))) dX0_candidates_5 ?_
  have kc4 := i_clamp (x := p0) rfl (by first | exact om_eafa9039069c rg_p0.1 | first | omega | ((try (have i_gjl := Imp.go gjl (by omega))); (try (have i_gkl := Imp.go gkl (by omega))); (try (have i_wh := Imp.go wh (by omega))); (try (have i_coc := Imp.go coc (by omega))); first | omega | ((try (have i_coc := Imp.go coc (by omega))); (try (have i_wh := Imp.go wh (by omega))); (try (have i_gkl := Imp.go gkl (by omega))); (try (have i_gjl := Imp.go gjl (by omega))); omega)))
  refine g_topv (v := .ref (ad (72 + (24 * b + (Int32.toNatClampNeg p0))))) (congrArg va_rf (if_pos (by first | omega | ((try (have i_gjl := Imp.go gjl (by omega))); (try (have i_gkl := Imp.go gkl (by omega))); (try (have i_wh := Imp.go wh (by omega))); (try (have i_coc := Imp.go coc (by omega))); first | omega | ((try (have i_coc := Imp.go coc (by omega))); (try (have i_wh := Imp.go wh (by omega))); (try (have i_gkl := Imp.go gkl (by omega))); (try (have i_gjl := Imp.go gjl (by omega))); omega))))) ?_
  have il5 : (24 * b + (Int32.toNatClampNeg p0)) < 48 := by first | exact om_6c55e7c13eef rg_p0.2 hb2 pk kc0 | first | omega | ((try (have i_gjl := Imp.go gjl (by omega))); (try (have i_gkl := Imp.go gkl (by omega))); (try (have i_wh := Imp.go wh (by omega))); (try (have i_coc := Imp.go coc (by omega))); first | omega | ((try (have i_coc := Imp.go coc (by omega))); (try (have i_wh := Imp.go wh (by omega))); (try (have i_gkl := Imp.go gkl (by omega))); (try (have i_gjl := Imp.go gjl (by omega))); omega))
  refine lv_astore_n (lv' := [(3, .ref (ad (72 + (24 * b + (Int32.toNatClampNeg p0))))), (0, .ref (ad (38 + b))), (1, .int p0), (2, .int p1)]) hx hb dX0_candidates_6 rfl hl (by decide) rfl (fun ls hl => ?_)
  refine lv_aload_n hx hb dX0_candidates_7 rfl (lv_at hl 0 rfl) ?_
  refine va_getN (D := D) (ci := 3) (v := .ref (ad (216 + (24 * b + (Int32.toNatClampNeg p0))))) (fs := (xfComp ad V (24 * b + (Int32.toNatClampNeg p0)))) (C := RX3) (T := TX3) (N := 13) hx hb hg inX3 hown hK hP (72 + (24 * b + (Int32.toNatClampNeg p0))) (xgComp il5) rfl 2 (by decide) (hnw.use 505 n505 rfl) (fun _ h9 => h9) rfl dX0_candidates_8 ?_
  refine lv_iload_n hx hb dX0_candidates_11 rfl (lv_at hl 3 rfl) ?_
  have il6 : (24 * b + (Int32.toNatClampNeg p0)) < 48 := by first | exact om_6c55e7c13eef rg_p0.2 hb2 pk kc0 | first | omega | ((try (have i_gjl := Imp.go gjl (by omega))); (try (have i_gkl := Imp.go gkl (by omega))); (try (have i_wh := Imp.go wh (by omega))); (try (have i_coc := Imp.go coc (by omega))); first | omega | ((try (have i_coc := Imp.go coc (by omega))); (try (have i_wh := Imp.go wh (by omega))); (try (have i_gkl := Imp.go gkl (by omega))); (try (have i_gjl := Imp.go gjl (by omega))); omega))
  refine va_iald (D := D) (i := p1) hx hb hK hP (216 + (24 * b + (Int32.toNatClampNeg p0))) (209 + (24 * b + (Int32.toNatClampNeg p0))) (xgneedKinds il6) (xtneedKinds il6) (i_in (a := p1.toInt) rfl (by first | omega | ((try (have i_gjl := Imp.go gjl (by omega))); (try (have i_gkl := Imp.go gkl (by omega))); (try (have i_wh := Imp.go wh (by omega))); (try (have i_coc := Imp.go coc (by omega))); first | omega | ((try (have i_coc := Imp.go coc (by omega))); (try (have i_wh := Imp.go wh (by omega))); (try (have i_gkl := Imp.go gkl (by omega))); (try (have i_gjl := Imp.go gjl (by omega))); omega)))) dX0_candidates_12 ?_
  have kc7 := i_clamp (x := p1) rfl (by first | exact om_eafa9039069c rg_p1.1 | first | omega | ((try (have i_gjl := Imp.go gjl (by omega))); (try (have i_gkl := Imp.go gkl (by omega))); (try (have i_wh := Imp.go wh (by omega))); (try (have i_coc := Imp.go coc (by omega))); first | omega | ((try (have i_coc := Imp.go coc (by omega))); (try (have i_wh := Imp.go wh (by omega))); (try (have i_gkl := Imp.go gkl (by omega))); (try (have i_gjl := Imp.go gjl (by omega))); omega)))
  refine g_top (v := V 60 (8 * (24 * b + (Int32.toNatClampNeg p0)) + (Int32.toNatClampNeg p1))) (if_pos (by first | omega | ((try (have i_gjl := Imp.go gjl (by omega))); (try (have i_gkl := Imp.go gkl (by omega))); (try (have i_wh := Imp.go wh (by omega))); (try (have i_coc := Imp.go coc (by omega))); first | omega | ((try (have i_coc := Imp.go coc (by omega))); (try (have i_wh := Imp.go wh (by omega))); (try (have i_gkl := Imp.go gkl (by omega))); (try (have i_gjl := Imp.go gjl (by omega))); omega)))) ?_
  refine lv_istore (lv' := [(4, .int (V 60 (8 * (24 * b + (Int32.toNatClampNeg p0)) + (Int32.toNatClampNeg p1)))), (3, .ref (ad (72 + (24 * b + (Int32.toNatClampNeg p0))))), (0, .ref (ad (38 + b))), (1, .int p0), (2, .int p1)]) hx hb dX0_candidates_13 hl (by decide) rfl (fun ls hl => ?_)
  refine lv_aload_n hx hb dX0_candidates_15 rfl (lv_at hl 1 rfl) ?_
  refine va_getN (D := D) (ci := 3) (v := .ref (ad (120 + (24 * b + (Int32.toNatClampNeg p0))))) (fs := (xfComp ad V (24 * b + (Int32.toNatClampNeg p0)))) (C := RX3) (T := TX3) (N := 13) hx hb hg inX3 hown hK hP (72 + (24 * b + (Int32.toNatClampNeg p0))) (xgComp il5) rfl 0 (by decide) (hnw.use 500 n500 rfl) (fun _ h9 => h9) rfl dX0_candidates_16 ?_
  refine lv_iload_n hx hb dX0_candidates_19 rfl (lv_at hl 4 rfl) ?_
  have il8 : (24 * b + (Int32.toNatClampNeg p0)) < 48 := by first | exact om_6c55e7c13eef rg_p0.2 hb2 pk kc0 | first | omega | ((try (have i_gjl := Imp.go gjl (by omega))); (try (have i_gkl := Imp.go gkl (by omega))); (try (have i_wh := Imp.go wh (by omega))); (try (have i_coc := Imp.go coc (by omega))); first | omega | ((try (have i_coc := Imp.go coc (by omega))); (try (have i_wh := Imp.go wh (by omega))); (try (have i_gkl := Imp.go gkl (by omega))); (try (have i_gjl := Imp.go gjl (by omega))); omega))
  refine va_iald (D := D) (i := p1) hx hb hK hP (120 + (24 * b + (Int32.toNatClampNeg p0))) (113 + (24 * b + (Int32.toNatClampNeg p0))) (xgneedTypes il8) (xtneedTypes il8) (i_in (a := p1.toInt) rfl (by first | omega | ((try (have i_gjl := Imp.go gjl (by omega))); (try (have i_gkl := Imp.go gkl (by omega))); (try (have i_wh := Imp.go wh (by omega))); (try (have i_coc := Imp.go coc (by omega))); first | omega | ((try (have i_coc := Imp.go coc (by omega))); (try (have i_wh := Imp.go wh (by omega))); (try (have i_gkl := Imp.go gkl (by omega))); (try (have i_gjl := Imp.go gjl (by omega))); omega)))) dX0_candidates_20 ?_
  refine g_top (v := V 58 (8 * (24 * b + (Int32.toNatClampNeg p0)) + (Int32.toNatClampNeg p1))) (if_pos (by first | omega | ((try (have i_gjl := Imp.go gjl (by omega))); (try (have i_gkl := Imp.go gkl (by omega))); (try (have i_wh := Imp.go wh (by omega))); (try (have i_coc := Imp.go coc (by omega))); first | omega | ((try (have i_coc := Imp.go coc (by omega))); (try (have i_wh := Imp.go wh (by omega))); (try (have i_gkl := Imp.go gkl (by omega))); (try (have i_gjl := Imp.go gjl (by omega))); omega)))) ?_
  refine lv_istore (lv' := [(5, .int (V 58 (8 * (24 * b + (Int32.toNatClampNeg p0)) + (Int32.toNatClampNeg p1)))), (4, .int (V 60 (8 * (24 * b + (Int32.toNatClampNeg p0)) + (Int32.toNatClampNeg p1)))), (3, .ref (ad (72 + (24 * b + (Int32.toNatClampNeg p0))))), (0, .ref (ad (38 + b))), (1, .int p0), (2, .int p1)]) hx hb dX0_candidates_21 hl (by decide) rfl (fun ls hl => ?_)
  refine lv_aload_n hx hb dX0_candidates_23 rfl (lv_at hl 2 rfl) ?_
  refine va_getN (D := D) (ci := 3) (v := .ref (ad (168 + (24 * b + (Int32.toNatClampNeg p0))))) (fs := (xfComp ad V (24 * b + (Int32.toNatClampNeg p0)))) (C := RX3) (T := TX3) (N := 13) hx hb hg inX3 hown hK hP (72 + (24 * b + (Int32.toNatClampNeg p0))) (xgComp il5) rfl 1 (by decide) (hnw.use 502 n502 rfl) (fun _ h9 => h9) rfl dX0_candidates_24 ?_
  refine lv_iload_n hx hb dX0_candidates_27 rfl (lv_at hl 5 rfl) ?_
  have il9 : (24 * b + (Int32.toNatClampNeg p0)) < 48 := by first | exact om_6c55e7c13eef rg_p0.2 hb2 pk kc0 | first | omega | ((try (have i_gjl := Imp.go gjl (by omega))); (try (have i_gkl := Imp.go gkl (by omega))); (try (have i_wh := Imp.go wh (by omega))); (try (have i_coc := Imp.go coc (by omega))); first | omega | ((try (have i_coc := Imp.go coc (by omega))); (try (have i_wh := Imp.go wh (by omega))); (try (have i_gkl := Imp.go gkl (by omega))); (try (have i_gjl := Imp.go gjl (by omega))); omega))
  refine va_iald (D := D) (i := p1) hx hb hK hP (168 + (24 * b + (Int32.toNatClampNeg p0))) (161 + (24 * b + (Int32.toNatClampNeg p0))) (xgneedWords il9) (xtneedWords il9) (i_in (a := p1.toInt) rfl (by first | omega | ((try (have i_gjl := Imp.go gjl (by omega))); (try (have i_gkl := Imp.go gkl (by omega))); (try (have i_wh := Imp.go wh (by omega))); (try (have i_coc := Imp.go coc (by omega))); first | omega | ((try (have i_coc := Imp.go coc (by omega))); (try (have i_wh := Imp.go wh (by omega))); (try (have i_gkl := Imp.go gkl (by omega))); (try (have i_gjl := Imp.go gjl (by omega))); omega)))) dX0_candidates_28 ?_
  refine g_top (v := V 59 (8 * (24 * b + (Int32.toNatClampNeg p0)) + (Int32.toNatClampNeg p1))) (if_pos (by first | omega | ((try (have i_gjl := Imp.go gjl (by omega))); (try (have i_gkl := Imp.go gkl (by omega))); (try (have i_wh := Imp.go wh (by omega))); (try (have i_coc := Imp.go coc (by omega))); first | omega | ((try (have i_coc := Imp.go coc (by omega))); (try (have i_wh := Imp.go wh (by omega))); (try (have i_gkl := Imp.go gkl (by omega))); (try (have i_gjl := Imp.go gjl (by omega))); omega)))) ?_
  refine lv_istore (lv' := [(6, .int (V 59 (8 * (24 * b + (Int32.toNatClampNeg p0)) + (Int32.toNatClampNeg p1)))), (5, .int (V 58 (8 * (24 * b + (Int32.toNatClampNeg p0)) + (Int32.toNatClampNeg p1)))), (4, .int (V 60 (8 * (24 * b + (Int32.toNatClampNeg p0)) + (Int32.toNatClampNeg p1)))), (3, .ref (ad (72 + (24 * b + (Int32.toNatClampNeg p0))))), (0, .ref (ad (38 + b))), (1, .int p0), (2, .int p1)]) hx hb dX0_candidates_29 hl (by decide) rfl (fun ls hl => ?_)
  refine lv_iconst (v := 0) hx hb dX0_candidates_31 (by decide) ?_
  refine lv_istore (lv' := [(7, .int 0), (6, .int (V 59 (8 * (24 * b + (Int32.toNatClampNeg p0)) + (Int32.toNatClampNeg p1)))), (5, .int (V 58 (8 * (24 * b + (Int32.toNatClampNeg p0)) + (Int32.toNatClampNeg p1)))), (4, .int (V 60 (8 * (24 * b + (Int32.toNatClampNeg p0)) + (Int32.toNatClampNeg p1)))), (3, .ref (ad (72 + (24 * b + (Int32.toNatClampNeg p0))))), (0, .ref (ad (38 + b))), (1, .int p0), (2, .int p1)]) hx hb dX0_candidates_32 hl (by decide) rfl (fun ls hl => ?_)
  refine lv_iconst (v := 0) hx hb dX0_candidates_34 (by decide) ?_
  refine lv_istore (lv' := [(8, .int 0), (7, .int 0), (6, .int (V 59 (8 * (24 * b + (Int32.toNatClampNeg p0)) + (Int32.toNatClampNeg p1)))), (5, .int (V 58 (8 * (24 * b + (Int32.toNatClampNeg p0)) + (Int32.toNatClampNeg p1)))), (4, .int (V 60 (8 * (24 * b + (Int32.toNatClampNeg p0)) + (Int32.toNatClampNeg p1)))), (3, .ref (ad (72 + (24 * b + (Int32.toNatClampNeg p0))))), (0, .ref (ad (38 + b))), (1, .int p0), (2, .int p1)]) hx hb dX0_candidates_35 hl (by decide) rfl (fun ls hl => ?_)
  refine lv_iconst (v := 0) hx hb dX0_candidates_37 (by decide) ?_
  refine lv_istore (lv' := [(9, .int 0), (8, .int 0), (7, .int 0), (6, .int (V 59 (8 * (24 * b + (Int32.toNatClampNeg p0)) + (Int32.toNatClampNeg p1)))), (5, .int (V 58 (8 * (24 * b + (Int32.toNatClampNeg p0)) + (Int32.toNatClampNeg p1)))), (4, .int (V 60 (8 * (24 * b + (Int32.toNatClampNeg p0)) + (Int32.toNatClampNeg p1)))), (3, .ref (ad (72 + (24 * b + (Int32.toNatClampNeg p0))))), (0, .ref (ad (38 + b))), (1, .int p0), (2, .int p1)]) hx hb dX0_candidates_38 hl (by decide) rfl (fun ls hl => ?_)
  have lp13 : ∀ (fulp13 : Nat) (y10 : Int32) (y11 : Int32) (y12 : Int32) (H : Heap) (locs : List Loc) (ls : Array Slot), 0 ≤ y10.toInt ∧ y10.toInt ≤ 24 → 0 ≤ y12.toInt ∧ y12.toInt ≤ 16777215 → (FND y12 gs.1 (svc V b (gs.2.1 1).length) (gs.1 (301 + 32 * gk + 4 * gj)) (gs.1 (300 + 32 * gk + 4 * gj)) (gs.1 (302 + 32 * gk + 4 * gj)) y10.toInt.toNat) → ((gs.1 (301 + 32 * gk + 4 * gj)) ≠ 2 → y11.toInt = ((bsP gs.1 (svc V b (gs.2.1 1).length) (gs.1 (300 + 32 * gk + 4 * gj)) (gs.1 (302 + 32 * gk + 4 * gj)) y10.toInt.toNat : Nat) : Int)) → y10.toInt ≤ (((gs.2.1 2).length : Nat) : Int) → 24 - y10.toInt < (fulp13 : Int) → va_P D vwCl (xw ad kk V L Z) H → va_D A (xw ad kk V L Z) → va_S A s.heap H locs → lv_has ls 12 [(9, .int y10), (8, .int y11), (7, .int y12), (6, .int (V 59 (8 * (24 * b + (Int32.toNatClampNeg p0)) + (Int32.toNatClampNeg p1)))), (5, .int (V 58 (8 * (24 * b + (Int32.toNatClampNeg p0)) + (Int32.toNatClampNeg p1)))), (4, .int (V 60 (8 * (24 * b + (Int32.toNatClampNeg p0)) + (Int32.toNatClampNeg p1)))), (3, .ref (ad (72 + (24 * b + (Int32.toNatClampNeg p0))))), (0, .ref (ad (38 + b))), (1, .int p0), (2, .int p1)] → W p l e r_x_candidates5 s m ([.ref (ad (38 + b)), .int p0, .int p1] : List Value).toArray below meth c H locs 0 0 (MQ below (q_x_candidates5 D ks ad kk V L Z p0 p1 b gs gk gj A) ([.ref (ad (38 + b)), .int p0, .int p1] : List Value).toArray s 0 0 A) (F0 m 40 ls []) := by
    intro fulp13
    induction fulp13 with
    | zero =>
      intro y10 y11 y12 H locs ls klp13_0 klp13_1 xlp13_0 xlp13_1 xlp13_2 hn  hP hD hS hl
      exfalso; (first | exact om_9386ef0df612 klp13_0.2 hn | omega)
    | succ fulp13 ihlp13 =>
      intro y10 y11 y12 H locs ls klp13_0 klp13_1 xlp13_0 xlp13_1 xlp13_2 hn  hP hD hS hl
      refine lv_iload hx hb dX0_candidates_40 (lv_at hl 0 rfl) ?_
      refine lv_aload_n hx hb dX0_candidates_42 rfl (lv_at hl 7 rfl) ?_
      refine va_get (D := D) (ci := 0) (v := .ref (ad (40 + (5 * b + 2)))) (fs := (xfBook ad V b)) (C := RX0) (T := TX0) (N := 13) hx hb hg inX0 hown hK hP (38 + b) (xgBook hb2) rfl 2 (by decide) (hg _ w599) (fun _ h9 => h9) rfl dX0_candidates_43 ?_
      have il14 : (5 * b + 2) < 10 := by first | exact om_1478e52fbf50 hb2 | first | omega | ((try (have i_gjl := Imp.go gjl (by omega))); (try (have i_gkl := Imp.go gkl (by omega))); (try (have i_wh := Imp.go wh (by omega))); (try (have i_coc := Imp.go coc (by omega))); first | omega | ((try (have i_coc := Imp.go coc (by omega))); (try (have i_wh := Imp.go wh (by omega))); (try (have i_gkl := Imp.go gkl (by omega))); (try (have i_gjl := Imp.go gjl (by omega))); omega))
      refine va_getN (D := D) (ci := 6) (v := .int (V 43 (5 * b + 2))) (fs := (xfNames ad V (5 * b + 2))) (C := RX6) (T := TX6) (N := 2) hx hb hg inX6 hown hK hP (40 + (5 * b + 2)) (xgNames il14) rfl 1 (by decide) (hnw.use 481 n481 rfl) (fun _ h9 => h9) rfl dX0_candidates_46 ?_
      refine lv_icmp_ge (tgt := 171) hx hb dX0_candidates_49 (by decide) (fun c15 => ?_) (fun c15 => ?_)
      · skip
        have f16 : ((V 43 (5 * b + 2))).toInt ≤ y10.toInt := b_le rfl rfl c15
        refine lv_iload hx hb dX0_candidates_171 (lv_at hl 2 rfl) ?_
        exact W.iret (v := y12) hx hb hr (fun t ht hW => ⟨⟨y12, (), rfl, ⟨(show 0 ≤ y12.toInt ∧ y12.toInt ≤ 16777215 from by first | exact om_c51a6401fccc klp13_1.1 klp13_1.2 | first | omega | ((try (have i_gjl := Imp.go gjl (by omega))); (try (have i_gkl := Imp.go gkl (by omega))); (try (have i_wh := Imp.go wh (by omega))); (try (have i_coc := Imp.go coc (by omega))); first | omega | ((try (have i_coc := Imp.go coc (by omega))); (try (have i_wh := Imp.go wh (by omega))); (try (have i_gkl := Imp.go gkl (by omega))); (try (have i_gjl := Imp.go gjl (by omega))); omega))), (by have h9 := xlp13_0; rw [show y10.toInt.toNat = (gs.2.1 2).length from by omega] at h9; exact h9)⟩, by rw [ht]; exact hP, va_K.moved hW.alike hK, hD⟩, hS.F ht⟩) hS.2.2 dX0_candidates_173
      · skip
        have f17 : y10.toInt < ((V 43 (5 * b + 2))).toInt := b_nle rfl rfl c15
        have kk9 := i_clamp (x := y10) rfl (by (first | exact om_eafa9039069c klp13_0.1 | omega))
        have ck9 := coc (Int32.toNatClampNeg y10) (by omega)
        have h50 := ck9.1.1
        have h52 := ck9.1.2.2.1
        have h53 := ck9.1.2.2.2.1
        refine lv_aload_n hx hb dX0_candidates_52 rfl (lv_at hl 7 rfl) ?_
        refine va_get (D := D) (ci := 0) (v := .ref (ad (64 + b))) (fs := (xfBook ad V b)) (C := RX0) (T := TX0) (N := 13) hx hb hg inX0 hown hK hP (38 + b) (xgBook hb2) rfl 7 (by decide) (hg _ w614) (fun _ h9 => h9) rfl dX0_candidates_53 ?_
        refine lv_iload hx hb dX0_candidates_56 (lv_at hl 0 rfl) ?_
        refine va_aldq (D := D) (i := y10) hx hb hK hP (64 + b) (57 + b) (xgcomps il3) (xtcomps il3) (i_in (a := y10.toInt) rfl (by first | exact om_e05b3c169c68 r1.2 r2 klp13_0.1 f17 | first | omega | ((try (have i_gjl := Imp.go gjl (by omega))); (try (have i_gkl := Imp.go gkl (by omega))); (try (have i_wh := Imp.go wh (by omega))); (try (have i_coc := Imp.go coc (by omega))); first | omega | ((try (have i_coc := Imp.go coc (by omega))); (try (have i_wh := Imp.go wh (by omega))); (try (have i_gkl := Imp.go gkl (by omega))); (try (have i_gjl := Imp.go gjl (by omega))); omega)))) dX0_candidates_58 ?_
        have kc18 := i_clamp (x := y10) rfl (by first | exact om_eafa9039069c klp13_0.1 | first | omega | ((try (have i_gjl := Imp.go gjl (by omega))); (try (have i_gkl := Imp.go gkl (by omega))); (try (have i_wh := Imp.go wh (by omega))); (try (have i_coc := Imp.go coc (by omega))); first | omega | ((try (have i_coc := Imp.go coc (by omega))); (try (have i_wh := Imp.go wh (by omega))); (try (have i_gkl := Imp.go gkl (by omega))); (try (have i_gjl := Imp.go gjl (by omega))); omega)))
        refine g_topv (v := .ref (ad (72 + (24 * b + (Int32.toNatClampNeg y10))))) (congrArg va_rf (if_pos (by first | omega | ((try (have i_gjl := Imp.go gjl (by omega))); (try (have i_gkl := Imp.go gkl (by omega))); (try (have i_wh := Imp.go wh (by omega))); (try (have i_coc := Imp.go coc (by omega))); first | omega | ((try (have i_coc := Imp.go coc (by omega))); (try (have i_wh := Imp.go wh (by omega))); (try (have i_gkl := Imp.go gkl (by omega))); (try (have i_gjl := Imp.go gjl (by omega))); omega))))) ?_
        have il19 : (24 * b + (Int32.toNatClampNeg y10)) < 48 := by first | exact om_896e2f636ed1 hb2 r1.2 r2 f17 kc18 | first | omega | ((try (have i_gjl := Imp.go gjl (by omega))); (try (have i_gkl := Imp.go gkl (by omega))); (try (have i_wh := Imp.go wh (by omega))); (try (have i_coc := Imp.go coc (by omega))); first | omega | ((try (have i_coc := Imp.go coc (by omega))); (try (have i_wh := Imp.go wh (by omega))); (try (have i_gkl := Imp.go gkl (by omega))); (try (have i_gjl := Imp.go gjl (by omega))); omega))
        refine lv_astore (lv' := [(10, .ref (ad (72 + (24 * b + (Int32.toNatClampNeg y10))))), (9, .int y10), (8, .int y11), (7, .int y12), (6, .int (V 59 (8 * (24 * b + (Int32.toNatClampNeg p0)) + (Int32.toNatClampNeg p1)))), (5, .int (V 58 (8 * (24 * b + (Int32.toNatClampNeg p0)) + (Int32.toNatClampNeg p1)))), (4, .int (V 60 (8 * (24 * b + (Int32.toNatClampNeg p0)) + (Int32.toNatClampNeg p1)))), (3, .ref (ad (72 + (24 * b + (Int32.toNatClampNeg p0))))), (0, .ref (ad (38 + b))), (1, .int p0), (2, .int p1)]) hx hb dX0_candidates_59 hl (by decide) rfl (fun ls hl => ?_)
        refine lv_iload hx hb dX0_candidates_61 (lv_at hl 4 rfl) ?_
        refine lv_iconst (v := (-1)) hx hb dX0_candidates_63 (by decide) ?_
        refine lv_icmp_eq (tgt := 77) hx hb dX0_candidates_64 (by decide) (fun c20 => ?_) (fun c20 => ?_)
        · skip
          have f21 : ((V 59 (8 * (24 * b + (Int32.toNatClampNeg p0)) + (Int32.toNatClampNeg p1)))).toInt = (-1) := b_eq rfl (by decide) c20
          refine lv_iconst (v := 1) hx hb dX0_candidates_77 (by decide) ?_
          refine lv_goto (tgt := 82) hx hb dX0_candidates_78 (by decide) ?_
          refine lv_istore (lv' := [(11, .int 1), (10, .ref (ad (72 + (24 * b + (Int32.toNatClampNeg y10))))), (9, .int y10), (8, .int y11), (7, .int y12), (6, .int (V 59 (8 * (24 * b + (Int32.toNatClampNeg p0)) + (Int32.toNatClampNeg p1)))), (5, .int (V 58 (8 * (24 * b + (Int32.toNatClampNeg p0)) + (Int32.toNatClampNeg p1)))), (4, .int (V 60 (8 * (24 * b + (Int32.toNatClampNeg p0)) + (Int32.toNatClampNeg p1)))), (3, .ref (ad (72 + (24 * b + (Int32.toNatClampNeg p0))))), (0, .ref (ad (38 + b))), (1, .int p0), (2, .int p1)]) hx hb dX0_candidates_82 hl (by decide) rfl (fun ls hl => ?_)
          refine lv_aload hx hb dX0_candidates_84 (lv_at hl 1 rfl) ?_
          refine va_getN (D := D) (ci := 3) (v := .int (V 50 (24 * b + (Int32.toNatClampNeg y10)))) (fs := (xfComp ad V (24 * b + (Int32.toNatClampNeg y10)))) (C := RX3) (T := TX3) (N := 13) hx hb hg inX3 hown hK hP (72 + (24 * b + (Int32.toNatClampNeg y10))) (xgComp il19) rfl 5 (by decide) (hnw.use 517 n517 rfl) (fun _ h9 => h9) rfl dX0_candidates_86 ?_
          refine lv_iload hx hb dX0_candidates_89 (lv_at hl 6 rfl) ?_
          refine lv_ishr hx hb dX0_candidates_91 ?_
          refine lv_topi (fun z22 ez22 => ?_)
          refine lv_iconst (v := 1) hx hb dX0_candidates_92 (by decide) ?_
          refine lv_iand hx hb dX0_candidates_93 ?_
          refine lv_topi (fun z23 ez23 => ?_)
          have hz23 : 0 ≤ z23.toInt ∧ z23.toInt ≤ 1 := and_m ez23 (by decide)
          refine lv_if_eq (tgt := 165) hx hb dX0_candidates_94 (by decide) (fun c24 => ?_) (fun c24 => ?_)
          · skip
            have f25 : z23.toInt = 0 := b_eq rfl (by decide) c24
            obtain ⟨z26, ez26⟩ : ∃ y : Int32, y = y10 + 1 := ⟨_, rfl⟩
            have hz26 : z26.toInt = y10.toInt + 1 := i_add ez26 rfl (by decide) (by (first | exact om_2bedb82363d1 r1.2 r2 f17 kk9 | omega))
            refine lv_iinc (v := z26) (lv' := [(9, .int z26), (11, .int 1), (10, .ref (ad (72 + (24 * b + (Int32.toNatClampNeg y10))))), (8, .int y11), (7, .int y12), (6, .int (V 59 (8 * (24 * b + (Int32.toNatClampNeg p0)) + (Int32.toNatClampNeg p1)))), (5, .int (V 58 (8 * (24 * b + (Int32.toNatClampNeg p0)) + (Int32.toNatClampNeg p1)))), (4, .int (V 60 (8 * (24 * b + (Int32.toNatClampNeg p0)) + (Int32.toNatClampNeg p1)))), (3, .ref (ad (72 + (24 * b + (Int32.toNatClampNeg p0))))), (0, .ref (ad (38 + b))), (1, .int p0), (2, .int p1)]) hx hb dX0_candidates_165 hl (k := 2) rfl (by rw [ez26]; rfl) (by decide) rfl (fun ls hl => ?_)
            refine lv_goto (tgt := 40) hx hb dX0_candidates_168 (by decide) ?_
            have r27 : Int32.toInt 1 = 1 := by decide
            have su28 : suP gs.1 (svc V b (gs.2.1 1).length) (gs.1 (300 + 32 * gk + 4 * gj)) (gs.1 (302 + 32 * gk + 4 * gj)) (Int32.toNatClampNeg y10) = false := (suP_1 ((h50 (gs.1 (300 + 32 * gk + 4 * gj)) (by omega)).symm.trans ((lb_get (x := V 50 (24 * b + (Int32.toNatClampNeg y10))) (f := (gs.1 (300 + 32 * gk + 4 * gj))) ez22 ez23 (show ((V 58 (8 * (24 * b + (Int32.toNatClampNeg p0)) + (Int32.toNatClampNeg p1)))).toInt = (((gs.1 (300 + 32 * gk + 4 * gj)) : Nat) : Int) from by omega) (by omega)).mp (by omega))))
            have em9 : z26.toInt.toNat = (Int32.toNatClampNeg y10) + 1 := by (first | exact om_a1185fbb59ea kk9 kc18 hz26 | omega)
            have eo9 : y10.toInt.toNat = (Int32.toNatClampNeg y10) := rfl
            have b9 := xlp13_1
            rw [eo9] at b9
            have su29 : suP gs.1 (svc V b (gs.2.1 1).length) (gs.1 (300 + 32 * gk + 4 * gj)) (gs.1 (302 + 32 * gk + 4 * gj)) (Int32.toNatClampNeg y10) = false := (suP_1 ((h50 (gs.1 (300 + 32 * gk + 4 * gj)) (by omega)).symm.trans ((lb_get (x := V 50 (24 * b + (Int32.toNatClampNeg y10))) (f := (gs.1 (300 + 32 * gk + 4 * gj))) ez22 ez23 (show ((V 58 (8 * (24 * b + (Int32.toNatClampNeg p0)) + (Int32.toNatClampNeg p1)))).toInt = (((gs.1 (300 + 32 * gk + 4 * gj)) : Nat) : Int) from by omega) (by omega)).mp (by omega))))
            have em9 : z26.toInt.toNat = (Int32.toNatClampNeg y10) + 1 := by (first | exact om_26701d63f2fa em9 | omega)
            have eo9 : y10.toInt.toNat = (Int32.toNatClampNeg y10) := rfl
            have b9 := xlp13_1
            rw [eo9] at b9
            exact ihlp13 z26 y11 y12 H locs ls (by first | exact om_9500b6342cf6 r1.2 r2 f17 kk9 hz26 | first | omega | ((try (have i_gjl := Imp.go gjl (by omega))); (try (have i_gkl := Imp.go gkl (by omega))); (try (have i_wh := Imp.go wh (by omega))); (try (have i_coc := Imp.go coc (by omega))); first | omega | ((try (have i_coc := Imp.go coc (by omega))); (try (have i_wh := Imp.go wh (by omega))); (try (have i_gkl := Imp.go gkl (by omega))); (try (have i_gjl := Imp.go gjl (by omega))); omega))) (by first | exact om_c51a6401fccc klp13_1.1 klp13_1.2 | first | omega | ((try (have i_gjl := Imp.go gjl (by omega))); (try (have i_gkl := Imp.go gkl (by omega))); (try (have i_wh := Imp.go wh (by omega))); (try (have i_coc := Imp.go coc (by omega))); first | omega | ((try (have i_coc := Imp.go coc (by omega))); (try (have i_wh := Imp.go wh (by omega))); (try (have i_gkl := Imp.go gkl (by omega))); (try (have i_gjl := Imp.go gjl (by omega))); omega))) (by rw [em9]; exact FND.no (by have h9 := xlp13_0; rw [eo9] at h9; exact h9) su28) (fun h7 => by rw [em9]; exact (by have h8 := b9 h7; rw [bsP_n su29]; omega)) (show z26.toInt ≤ (((gs.2.1 2).length : Nat) : Int) from by first | exact om_bcda7a344117 ln f17 hz26 | first | omega | ((try (have i_gjl := Imp.go gjl (by omega))); (try (have i_gkl := Imp.go gkl (by omega))); (try (have i_wh := Imp.go wh (by omega))); (try (have i_coc := Imp.go coc (by omega))); first | omega | ((try (have i_coc := Imp.go coc (by omega))); (try (have i_wh := Imp.go wh (by omega))); (try (have i_gkl := Imp.go gkl (by omega))); (try (have i_gjl := Imp.go gjl (by omega))); omega))) (by first | exact om_9592d9319ffa hn hz26 | first | omega | ((try (have i_gjl := Imp.go gjl (by omega))); (try (have i_gkl := Imp.go gkl (by omega))); (try (have i_wh := Imp.go wh (by omega))); (try (have i_coc := Imp.go coc (by omega))); first | omega | ((try (have i_coc := Imp.go coc (by omega))); (try (have i_wh := Imp.go wh (by omega))); (try (have i_gkl := Imp.go gkl (by omega))); (try (have i_gjl := Imp.go gjl (by omega))); omega))) hP hD hS (lv_sub hl [0, 3, 4, 5, 6, 7, 8, 9, 10, 11] rfl)
          · skip
            have f30 : z23.toInt ≠ 0 := b_neq rfl (by decide) c24
            refine lv_iload hx hb dX0_candidates_97 (lv_at hl 0 rfl) ?_
            refine lv_if_eq (tgt := 165) hx hb dX0_candidates_99 (by decide) (fun q => absurd q (by decide)) (fun _ => ?_)
            have wk9 := wh (Int32.toNatClampNeg y10) (by omega)
            refine lv_aload_n hx hb dX0_candidates_102 rfl (lv_at hl 9 rfl) ?_
            refine lv_iload hx hb dX0_candidates_103 (lv_at hl 2 rfl) ?_
            refine gA_int (gA_runV (As := [.int y10]) (rest := []) (ci := 0) (q0 := (38 + b)) hx hb hml hown hg hP hD hK hS hA hnw hgk (x_isThere5 l D ks H.size ad kk V L Z y10 (b) (gs) ((Int32.toNatClampNeg y10)) hMV (by first | exact om_c40dd4f8ab88 r1.2 r2 f17 kk9 | first | omega | ((try (have i_gjl := Imp.go gjl (by omega))); (try (have i_gkl := Imp.go gkl (by omega))); (try (have i_wh := Imp.go wh (by omega))); (try (have i_coc := Imp.go coc (by omega))); first | omega | ((try (have i_coc := Imp.go coc (by omega))); (try (have i_wh := Imp.go wh (by omega))); (try (have i_gkl := Imp.go gkl (by omega))); (try (have i_gjl := Imp.go gjl (by omega))); omega))) (show b < 2 from by first | exact om_f940a4667dd6 hb2 | first | omega | ((try (have i_gjl := Imp.go gjl (by omega))); (try (have i_gkl := Imp.go gkl (by omega))); (try (have i_wh := Imp.go wh (by omega))); (try (have i_coc := Imp.go coc (by omega))); first | omega | ((try (have i_coc := Imp.go coc (by omega))); (try (have i_wh := Imp.go wh (by omega))); (try (have i_gkl := Imp.go gkl (by omega))); (try (have i_gjl := Imp.go gjl (by omega))); omega))) (show y10.toInt = ((Int32.toNatClampNeg y10) : Int) from by first | exact om_dadc9969542e kc18 | first | omega | ((try (have i_gjl := Imp.go gjl (by omega))); (try (have i_gkl := Imp.go gkl (by omega))); (try (have i_wh := Imp.go wh (by omega))); (try (have i_coc := Imp.go coc (by omega))); first | omega | ((try (have i_coc := Imp.go coc (by omega))); (try (have i_wh := Imp.go wh (by omega))); (try (have i_gkl := Imp.go gkl (by omega))); (try (have i_gjl := Imp.go gjl (by omega))); omega))) (coc (Int32.toNatClampNeg y10) (by omega)) (show gs.1 (64 + 8 * (Int32.toNatClampNeg y10)) ≤ (gs.2.1 1).length from by first | omega | ((try (have i_gjl := Imp.go gjl (by omega))); (try (have i_gkl := Imp.go gkl (by omega))); (try (have i_wh := Imp.go wh (by omega))); (try (have i_coc := Imp.go coc (by omega))); first | omega | ((try (have i_coc := Imp.go coc (by omega))); (try (have i_wh := Imp.go wh (by omega))); (try (have i_gkl := Imp.go gkl (by omega))); (try (have i_gjl := Imp.go gjl (by omega))); omega)))) w1085 w1070 w1071 w167 w1072 rfl (xgBook hb2) hdV_yX0_isThere ⟨Nat.le_of_ble_eq_true rfl, Nat.le_of_ble_eq_true rfl⟩ rfl hl.1 rfl (Nat.le_of_ble_eq_true rfl) dX0_candidates_105 ⟨Nat.le_of_ble_eq_true rfl, Nat.le_of_ble_eq_true rfl⟩) hP hD hK hS hA (fun z31 u32 H locs w33 hP hD hK hS => ?_)
            obtain ⟨rgz31, t34⟩ := w33
            replace rgz31 : 0 ≤ z31.toInt ∧ z31.toInt ≤ 1 := rgz31
            replace t34 : (z31.toInt = 1 ∧ thP gs.1 (svc V b (gs.2.1 1).length) (Int32.toNatClampNeg y10) = true) ∨ (z31.toInt = 0 ∧ thP gs.1 (svc V b (gs.2.1 1).length) (Int32.toNatClampNeg y10) = false) := t34
            refine lv_if_ne (tgt := 114) hx hb dX0_candidates_108 (by decide) (fun c35 => ?_) (fun c35 => ?_)
            · skip
              have f36 : z31.toInt ≠ 0 := b_neq rfl (by decide) c35
              refine lv_iload hx hb dX0_candidates_114 (lv_at hl 7 rfl) ?_
              refine lv_iconst (v := 2) hx hb dX0_candidates_116 (by decide) ?_
              refine lv_icmp_eq (tgt := 140) hx hb dX0_candidates_117 (by decide) (fun c37 => ?_) (fun c37 => ?_)
              · skip
                have f38 : ((V 60 (8 * (24 * b + (Int32.toNatClampNeg p0)) + (Int32.toNatClampNeg p1)))).toInt = 2 := b_eq rfl (by decide) c37
                refine lv_iload hx hb dX0_candidates_140 (lv_at hl 7 rfl) ?_
                refine lv_iconst (v := 2) hx hb dX0_candidates_142 (by decide) ?_
                refine lv_icmp_eq (tgt := 156) hx hb dX0_candidates_143 (by decide) (fun c39 => ?_) (fun c39 => ?_)
                · skip
                  have f40 : ((V 60 (8 * (24 * b + (Int32.toNatClampNeg p0)) + (Int32.toNatClampNeg p1)))).toInt = 2 := b_eq rfl (by decide) c39
                  refine lv_iload hx hb dX0_candidates_156 (lv_at hl 4 rfl) ?_
                  refine lv_iconst (v := 1) hx hb dX0_candidates_158 (by decide) ?_
                  refine lv_iload hx hb dX0_candidates_159 (lv_at hl 2 rfl) ?_
                  refine lv_ishl hx hb dX0_candidates_161 ?_
                  refine lv_topi (fun z41 ez41 => ?_)
                  have hz41 : 0 ≤ z41.toInt ∧ z41.toInt < 16777216 := shl1 ez41 (by first | omega | ((try (have i_gjl := Imp.go gjl (by omega))); (try (have i_gkl := Imp.go gkl (by omega))); (try (have i_wh := Imp.go wh (by omega))); (try (have i_coc := Imp.go coc (by omega))); first | omega | ((try (have i_coc := Imp.go coc (by omega))); (try (have i_wh := Imp.go wh (by omega))); (try (have i_gkl := Imp.go gkl (by omega))); (try (have i_gjl := Imp.go gjl (by omega))); omega)))
                  refine lv_ior hx hb dX0_candidates_162 ?_
                  refine lv_topi (fun z42 ez42 => ?_)
                  have hz42 : 0 ≤ z42.toInt ∧ z42.toInt < 16777216 := or24 ez42 (by first | omega | ((try (have i_gjl := Imp.go gjl (by omega))); (try (have i_gkl := Imp.go gkl (by omega))); (try (have i_wh := Imp.go wh (by omega))); (try (have i_coc := Imp.go coc (by omega))); first | omega | ((try (have i_coc := Imp.go coc (by omega))); (try (have i_wh := Imp.go wh (by omega))); (try (have i_gkl := Imp.go gkl (by omega))); (try (have i_gjl := Imp.go gjl (by omega))); omega))) (by first | omega | ((try (have i_gjl := Imp.go gjl (by omega))); (try (have i_gkl := Imp.go gkl (by omega))); (try (have i_wh := Imp.go wh (by omega))); (try (have i_coc := Imp.go coc (by omega))); first | omega | ((try (have i_coc := Imp.go coc (by omega))); (try (have i_wh := Imp.go wh (by omega))); (try (have i_gkl := Imp.go gkl (by omega))); (try (have i_gjl := Imp.go gjl (by omega))); omega)))
                  refine lv_istore (lv' := [(7, .int z42), (11, .int 1), (10, .ref (ad (72 + (24 * b + (Int32.toNatClampNeg y10))))), (9, .int y10), (8, .int y11), (6, .int (V 59 (8 * (24 * b + (Int32.toNatClampNeg p0)) + (Int32.toNatClampNeg p1)))), (5, .int (V 58 (8 * (24 * b + (Int32.toNatClampNeg p0)) + (Int32.toNatClampNeg p1)))), (4, .int (V 60 (8 * (24 * b + (Int32.toNatClampNeg p0)) + (Int32.toNatClampNeg p1)))), (3, .ref (ad (72 + (24 * b + (Int32.toNatClampNeg p0))))), (0, .ref (ad (38 + b))), (1, .int p0), (2, .int p1)]) hx hb dX0_candidates_163 hl (by decide) rfl (fun ls hl => ?_)
                  obtain ⟨z43, ez43⟩ : ∃ y : Int32, y = y10 + 1 := ⟨_, rfl⟩
                  have hz43 : z43.toInt = y10.toInt + 1 := i_add ez43 rfl (by decide) (by (first | exact om_2bedb82363d1 r1.2 r2 f17 kk9 | omega))
                  refine lv_iinc (v := z43) (lv' := [(9, .int z43), (7, .int z42), (11, .int 1), (10, .ref (ad (72 + (24 * b + (Int32.toNatClampNeg y10))))), (8, .int y11), (6, .int (V 59 (8 * (24 * b + (Int32.toNatClampNeg p0)) + (Int32.toNatClampNeg p1)))), (5, .int (V 58 (8 * (24 * b + (Int32.toNatClampNeg p0)) + (Int32.toNatClampNeg p1)))), (4, .int (V 60 (8 * (24 * b + (Int32.toNatClampNeg p0)) + (Int32.toNatClampNeg p1)))), (3, .ref (ad (72 + (24 * b + (Int32.toNatClampNeg p0))))), (0, .ref (ad (38 + b))), (1, .int p0), (2, .int p1)]) hx hb dX0_candidates_165 hl (k := 3) rfl (by rw [ez43]; rfl) (by decide) rfl (fun ls hl => ?_)
                  refine lv_goto (tgt := 40) hx hb dX0_candidates_168 (by decide) ?_
                  have r44 : Int32.toInt 1 = 1 := by decide
                  have su45 : suP gs.1 (svc V b (gs.2.1 1).length) (gs.1 (300 + 32 * gk + 4 * gj)) (gs.1 (302 + 32 * gk + 4 * gj)) (Int32.toNatClampNeg y10) = true := (suP_y ((h50 (gs.1 (300 + 32 * gk + 4 * gj)) (by omega)).symm.trans (by cases e9 : bt (V 50 (24 * b + (Int32.toNatClampNeg y10))) (gs.1 (300 + 32 * gk + 4 * gj)); exact absurd ((lb_get (x := V 50 (24 * b + (Int32.toNatClampNeg y10))) (f := (gs.1 (300 + 32 * gk + 4 * gj))) ez22 ez23 (show ((V 58 (8 * (24 * b + (Int32.toNatClampNeg p0)) + (Int32.toNatClampNeg p1)))).toInt = (((gs.1 (300 + 32 * gk + 4 * gj)) : Nat) : Int) from by omega) (by omega)).mpr e9) (by omega); rfl)) (by omega) (t34.resolve_right (fun h9 => by have h8 := h9.1; omega)).2)
                  have em9 : z43.toInt.toNat = (Int32.toNatClampNeg y10) + 1 := by (first | exact om_a1185fbb59ea kk9 kc18 hz43 | omega)
                  have eo9 : y10.toInt.toNat = (Int32.toNatClampNeg y10) := rfl
                  have b9 := xlp13_1
                  rw [eo9] at b9
                  have su46 : suP gs.1 (svc V b (gs.2.1 1).length) (gs.1 (300 + 32 * gk + 4 * gj)) (gs.1 (302 + 32 * gk + 4 * gj)) (Int32.toNatClampNeg y10) = true := (suP_y ((h50 (gs.1 (300 + 32 * gk + 4 * gj)) (by omega)).symm.trans (by cases e9 : bt (V 50 (24 * b + (Int32.toNatClampNeg y10))) (gs.1 (300 + 32 * gk + 4 * gj)); exact absurd ((lb_get (x := V 50 (24 * b + (Int32.toNatClampNeg y10))) (f := (gs.1 (300 + 32 * gk + 4 * gj))) ez22 ez23 (show ((V 58 (8 * (24 * b + (Int32.toNatClampNeg p0)) + (Int32.toNatClampNeg p1)))).toInt = (((gs.1 (300 + 32 * gk + 4 * gj)) : Nat) : Int) from by omega) (by omega)).mpr e9) (by omega); rfl)) (by omega) (t34.resolve_right (fun h9 => by have h8 := h9.1; omega)).2)
                  have em9 : z43.toInt.toNat = (Int32.toNatClampNeg y10) + 1 := by (first | exact om_26701d63f2fa em9 | omega)
                  have eo9 : y10.toInt.toNat = (Int32.toNatClampNeg y10) := rfl
                  have b9 := xlp13_1
                  rw [eo9] at b9
                  exact ihlp13 z43 y11 z42 H locs ls (by first | exact om_9500b6342cf6 r1.2 r2 f17 kk9 hz43 | first | omega | ((try (have i_gjl := Imp.go gjl (by omega))); (try (have i_gkl := Imp.go gkl (by omega))); (try (have i_wh := Imp.go wh (by omega))); (try (have i_coc := Imp.go coc (by omega))); first | omega | ((try (have i_coc := Imp.go coc (by omega))); (try (have i_wh := Imp.go wh (by omega))); (try (have i_gkl := Imp.go gkl (by omega))); (try (have i_gjl := Imp.go gjl (by omega))); omega))) (by first | exact om_8a0dcf576dcd hz42.1 hz42.2 | first | omega | ((try (have i_gjl := Imp.go gjl (by omega))); (try (have i_gkl := Imp.go gkl (by omega))); (try (have i_wh := Imp.go wh (by omega))); (try (have i_coc := Imp.go coc (by omega))); first | omega | ((try (have i_coc := Imp.go coc (by omega))); (try (have i_wh := Imp.go wh (by omega))); (try (have i_gkl := Imp.go gkl (by omega))); (try (have i_gjl := Imp.go gjl (by omega))); omega))) (by rw [em9]; exact FND.eq (by have h9 := xlp13_0; rw [eo9] at h9; exact h9) su45 (Or.inl ⟨by omega, trivial⟩) ez41 ez42 (show y10.toInt = (((Int32.toNatClampNeg y10) : Nat) : Int) from by (first | exact om_dadc9969542e kc18 | omega)) (by omega)) (fun h7 => by rw [em9]; exact (by exfalso; omega)) (show z43.toInt ≤ (((gs.2.1 2).length : Nat) : Int) from by first | exact om_bcda7a344117 ln f17 hz43 | first | omega | ((try (have i_gjl := Imp.go gjl (by omega))); (try (have i_gkl := Imp.go gkl (by omega))); (try (have i_wh := Imp.go wh (by omega))); (try (have i_coc := Imp.go coc (by omega))); first | omega | ((try (have i_coc := Imp.go coc (by omega))); (try (have i_wh := Imp.go wh (by omega))); (try (have i_gkl := Imp.go gkl (by omega))); (try (have i_gjl := Imp.go gjl (by omega))); omega))) (by first | exact om_9592d9319ffa hn hz43 | first | omega | ((try (have i_gjl := Imp.go gjl (by omega))); (try (have i_gkl := Imp.go gkl (by omega))); (try (have i_wh := Imp.go wh (by omega))); (try (have i_coc := Imp.go coc (by omega))); first | omega | ((try (have i_coc := Imp.go coc (by omega))); (try (have i_wh := Imp.go wh (by omega))); (try (have i_gkl := Imp.go gkl (by omega))); (try (have i_gjl := Imp.go gjl (by omega))); omega))) hP hD hS (lv_sub hl [0, 4, 1, 5, 6, 7, 8, 9, 10, 11] rfl)
                · skip
                  have f47 : ((V 60 (8 * (24 * b + (Int32.toNatClampNeg p0)) + (Int32.toNatClampNeg p1)))).toInt ≠ 2 := b_neq rfl (by decide) c39
                  exfalso; first | exact om_da4eef675bfb f38 f47 | first | omega | ((try (have i_gjl := Imp.go gjl (by omega))); (try (have i_gkl := Imp.go gkl (by omega))); (try (have i_wh := Imp.go wh (by omega))); (try (have i_coc := Imp.go coc (by omega))); first | omega | ((try (have i_coc := Imp.go coc (by omega))); (try (have i_wh := Imp.go wh (by omega))); (try (have i_gkl := Imp.go gkl (by omega))); (try (have i_gjl := Imp.go gjl (by omega))); omega))
              · skip
                have f48 : ((V 60 (8 * (24 * b + (Int32.toNatClampNeg p0)) + (Int32.toNatClampNeg p1)))).toInt ≠ 2 := b_neq rfl (by decide) c37
                refine lv_aload hx hb dX0_candidates_120 (lv_at hl 1 rfl) ?_
                refine va_getN (D := D) (ci := 3) (v := .int (V 53 (24 * b + (Int32.toNatClampNeg y10)))) (fs := (xfComp ad V (24 * b + (Int32.toNatClampNeg y10)))) (C := RX3) (T := TX3) (N := 13) hx hb hg inX3 hown hK hP (72 + (24 * b + (Int32.toNatClampNeg y10))) (xgComp il19) rfl 8 (by decide) (hnw.use 529 n529 rfl) (fun _ h9 => h9) rfl dX0_candidates_122 ?_
                refine lv_iload hx hb dX0_candidates_125 (lv_at hl 3 rfl) ?_
                refine lv_icmp_le (tgt := 140) hx hb dX0_candidates_127 (by decide) (fun c49 => ?_) (fun c49 => ?_)
                · skip
                  have f50 : ((V 53 (24 * b + (Int32.toNatClampNeg y10)))).toInt ≤ y11.toInt := b_le rfl rfl c49
                  refine lv_iload hx hb dX0_candidates_140 (lv_at hl 7 rfl) ?_
                  refine lv_iconst (v := 2) hx hb dX0_candidates_142 (by decide) ?_
                  refine lv_icmp_eq (tgt := 156) hx hb dX0_candidates_143 (by decide) (fun c51 => ?_) (fun c51 => ?_)
                  · skip
                    have f52 : ((V 60 (8 * (24 * b + (Int32.toNatClampNeg p0)) + (Int32.toNatClampNeg p1)))).toInt = 2 := b_eq rfl (by decide) c51
                    refine lv_iload hx hb dX0_candidates_156 (lv_at hl 4 rfl) ?_
                    refine lv_iconst (v := 1) hx hb dX0_candidates_158 (by decide) ?_
                    refine lv_iload hx hb dX0_candidates_159 (lv_at hl 2 rfl) ?_
                    refine lv_ishl hx hb dX0_candidates_161 ?_
                    refine lv_topi (fun z53 ez53 => ?_)
                    have hz53 : 0 ≤ z53.toInt ∧ z53.toInt < 16777216 := shl1 ez53 (by first | omega | ((try (have i_gjl := Imp.go gjl (by omega))); (try (have i_gkl := Imp.go gkl (by omega))); (try (have i_wh := Imp.go wh (by omega))); (try (have i_coc := Imp.go coc (by omega))); first | omega | ((try (have i_coc := Imp.go coc (by omega))); (try (have i_wh := Imp.go wh (by omega))); (try (have i_gkl := Imp.go gkl (by omega))); (try (have i_gjl := Imp.go gjl (by omega))); omega)))
                    refine lv_ior hx hb dX0_candidates_162 ?_
                    refine lv_topi (fun z54 ez54 => ?_)
                    have hz54 : 0 ≤ z54.toInt ∧ z54.toInt < 16777216 := or24 ez54 (by first | omega | ((try (have i_gjl := Imp.go gjl (by omega))); (try (have i_gkl := Imp.go gkl (by omega))); (try (have i_wh := Imp.go wh (by omega))); (try (have i_coc := Imp.go coc (by omega))); first | omega | ((try (have i_coc := Imp.go coc (by omega))); (try (have i_wh := Imp.go wh (by omega))); (try (have i_gkl := Imp.go gkl (by omega))); (try (have i_gjl := Imp.go gjl (by omega))); omega))) (by first | omega | ((try (have i_gjl := Imp.go gjl (by omega))); (try (have i_gkl := Imp.go gkl (by omega))); (try (have i_wh := Imp.go wh (by omega))); (try (have i_coc := Imp.go coc (by omega))); first | omega | ((try (have i_coc := Imp.go coc (by omega))); (try (have i_wh := Imp.go wh (by omega))); (try (have i_gkl := Imp.go gkl (by omega))); (try (have i_gjl := Imp.go gjl (by omega))); omega)))
                    refine lv_istore (lv' := [(7, .int z54), (11, .int 1), (10, .ref (ad (72 + (24 * b + (Int32.toNatClampNeg y10))))), (9, .int y10), (8, .int y11), (6, .int (V 59 (8 * (24 * b + (Int32.toNatClampNeg p0)) + (Int32.toNatClampNeg p1)))), (5, .int (V 58 (8 * (24 * b + (Int32.toNatClampNeg p0)) + (Int32.toNatClampNeg p1)))), (4, .int (V 60 (8 * (24 * b + (Int32.toNatClampNeg p0)) + (Int32.toNatClampNeg p1)))), (3, .ref (ad (72 + (24 * b + (Int32.toNatClampNeg p0))))), (0, .ref (ad (38 + b))), (1, .int p0), (2, .int p1)]) hx hb dX0_candidates_163 hl (by decide) rfl (fun ls hl => ?_)
                    obtain ⟨z55, ez55⟩ : ∃ y : Int32, y = y10 + 1 := ⟨_, rfl⟩
                    have hz55 : z55.toInt = y10.toInt + 1 := i_add ez55 rfl (by decide) (by omega)
                    refine lv_iinc (v := z55) (lv' := [(9, .int z55), (7, .int z54), (11, .int 1), (10, .ref (ad (72 + (24 * b + (Int32.toNatClampNeg y10))))), (8, .int y11), (6, .int (V 59 (8 * (24 * b + (Int32.toNatClampNeg p0)) + (Int32.toNatClampNeg p1)))), (5, .int (V 58 (8 * (24 * b + (Int32.toNatClampNeg p0)) + (Int32.toNatClampNeg p1)))), (4, .int (V 60 (8 * (24 * b + (Int32.toNatClampNeg p0)) + (Int32.toNatClampNeg p1)))), (3, .ref (ad (72 + (24 * b + (Int32.toNatClampNeg p0))))), (0, .ref (ad (38 + b))), (1, .int p0), (2, .int p1)]) hx hb dX0_candidates_165 hl (k := 3) rfl (by rw [ez55]; rfl) (by decide) rfl (fun ls hl => ?_)
                    refine lv_goto (tgt := 40) hx hb dX0_candidates_168 (by decide) ?_
                    have r56 : Int32.toInt 1 = 1 := by decide
                    have su57 : suP gs.1 (svc V b (gs.2.1 1).length) (gs.1 (300 + 32 * gk + 4 * gj)) (gs.1 (302 + 32 * gk + 4 * gj)) (Int32.toNatClampNeg y10) = true := (suP_y ((h50 (gs.1 (300 + 32 * gk + 4 * gj)) (by omega)).symm.trans (by cases e9 : bt (V 50 (24 * b + (Int32.toNatClampNeg y10))) (gs.1 (300 + 32 * gk + 4 * gj)); exact absurd ((lb_get (x := V 50 (24 * b + (Int32.toNatClampNeg y10))) (f := (gs.1 (300 + 32 * gk + 4 * gj))) ez22 ez23 (show ((V 58 (8 * (24 * b + (Int32.toNatClampNeg p0)) + (Int32.toNatClampNeg p1)))).toInt = (((gs.1 (300 + 32 * gk + 4 * gj)) : Nat) : Int) from by omega) (by omega)).mpr e9) (by omega); rfl)) (by omega) (t34.resolve_right (fun h9 => by have h8 := h9.1; omega)).2)
                    have em9 : z55.toInt.toNat = (Int32.toNatClampNeg y10) + 1 := by omega
                    have eo9 : y10.toInt.toNat = (Int32.toNatClampNeg y10) := rfl
                    have b9 := xlp13_1
                    rw [eo9] at b9
                    have su58 : suP gs.1 (svc V b (gs.2.1 1).length) (gs.1 (300 + 32 * gk + 4 * gj)) (gs.1 (302 + 32 * gk + 4 * gj)) (Int32.toNatClampNeg y10) = true := (suP_y ((h50 (gs.1 (300 + 32 * gk + 4 * gj)) (by omega)).symm.trans (by cases e9 : bt (V 50 (24 * b + (Int32.toNatClampNeg y10))) (gs.1 (300 + 32 * gk + 4 * gj)); exact absurd ((lb_get (x := V 50 (24 * b + (Int32.toNatClampNeg y10))) (f := (gs.1 (300 + 32 * gk + 4 * gj))) ez22 ez23 (show ((V 58 (8 * (24 * b + (Int32.toNatClampNeg p0)) + (Int32.toNatClampNeg p1)))).toInt = (((gs.1 (300 + 32 * gk + 4 * gj)) : Nat) : Int) from by omega) (by omega)).mpr e9) (by omega); rfl)) (by omega) (t34.resolve_right (fun h9 => by have h8 := h9.1; omega)).2)
                    have em9 : z55.toInt.toNat = (Int32.toNatClampNeg y10) + 1 := by omega
                    have eo9 : y10.toInt.toNat = (Int32.toNatClampNeg y10) := rfl
                    have b9 := xlp13_1
                    rw [eo9] at b9
                    exact ihlp13 z55 y11 z54 H locs ls (by first | omega | ((try (have i_gjl := Imp.go gjl (by omega))); (try (have i_gkl := Imp.go gkl (by omega))); (try (have i_wh := Imp.go wh (by omega))); (try (have i_coc := Imp.go coc (by omega))); first | omega | ((try (have i_coc := Imp.go coc (by omega))); (try (have i_wh := Imp.go wh (by omega))); (try (have i_gkl := Imp.go gkl (by omega))); (try (have i_gjl := Imp.go gjl (by omega))); omega))) (by first | omega | ((try (have i_gjl := Imp.go gjl (by omega))); (try (have i_gkl := Imp.go gkl (by omega))); (try (have i_wh := Imp.go wh (by omega))); (try (have i_coc := Imp.go coc (by omega))); first | omega | ((try (have i_coc := Imp.go coc (by omega))); (try (have i_wh := Imp.go wh (by omega))); (try (have i_gkl := Imp.go gkl (by omega))); (try (have i_gjl := Imp.go gjl (by omega))); omega))) (by rw [em9]; exact FND.eq (by have h9 := xlp13_0; rw [eo9] at h9; exact h9) su57 (Or.inr (by have h8 := b9 (by omega); omega)) ez53 ez54 (show y10.toInt = (((Int32.toNatClampNeg y10) : Nat) : Int) from by omega) (by omega)) (fun h7 => by rw [em9]; exact (by have h8 := b9 h7; rw [bsP_l (by omega)]; omega)) (show z55.toInt ≤ (((gs.2.1 2).length : Nat) : Int) from by first | omega | ((try (have i_gjl := Imp.go gjl (by omega))); (try (have i_gkl := Imp.go gkl (by omega))); (try (have i_wh := Imp.go wh (by omega))); (try (have i_coc := Imp.go coc (by omega))); first | omega | ((try (have i_coc := Imp.go coc (by omega))); (try (have i_wh := Imp.go wh (by omega))); (try (have i_gkl := Imp.go gkl (by omega))); (try (have i_gjl := Imp.go gjl (by omega))); omega))) (by first | omega | ((try (have i_gjl := Imp.go gjl (by omega))); (try (have i_gkl := Imp.go gkl (by omega))); (try (have i_wh := Imp.go wh (by omega))); (try (have i_coc := Imp.go coc (by omega))); first | omega | ((try (have i_coc := Imp.go coc (by omega))); (try (have i_wh := Imp.go wh (by omega))); (try (have i_gkl := Imp.go gkl (by omega))); (try (have i_gjl := Imp.go gjl (by omega))); omega))) hP hD hS (lv_sub hl [0, 4, 1, 5, 6, 7, 8, 9, 10, 11] rfl)
                  · skip
                    have f59 : ((V 60 (8 * (24 * b + (Int32.toNatClampNeg p0)) + (Int32.toNatClampNeg p1)))).toInt ≠ 2 := b_neq rfl (by decide) c51
                    refine lv_aload hx hb dX0_candidates_146 (lv_at hl 1 rfl) ?_
                    refine va_getN (D := D) (ci := 3) (v := .int (V 53 (24 * b + (Int32.toNatClampNeg y10)))) (fs := (xfComp ad V (24 * b + (Int32.toNatClampNeg y10)))) (C := RX3) (T := TX3) (N := 13) hx hb hg inX3 hown hK hP (72 + (24 * b + (Int32.toNatClampNeg y10))) (xgComp il19) rfl 8 (by decide) (hnw.use 529 n529 rfl) (fun _ h9 => h9) rfl dX0_candidates_148 ?_
                    refine lv_iload hx hb dX0_candidates_151 (lv_at hl 3 rfl) ?_
                    refine lv_icmp_ne (tgt := 165) hx hb dX0_candidates_153 (by decide) (fun c60 => ?_) (fun c60 => ?_)
                    · skip
                      have f61 : ((V 53 (24 * b + (Int32.toNatClampNeg y10)))).toInt ≠ y11.toInt := b_neq rfl rfl c60
                      obtain ⟨z62, ez62⟩ : ∃ y : Int32, y = y10 + 1 := ⟨_, rfl⟩
                      have hz62 : z62.toInt = y10.toInt + 1 := i_add ez62 rfl (by decide) (by (first | exact om_2bedb82363d1 r1.2 r2 f17 kk9 | omega))
                      refine lv_iinc (v := z62) (lv' := [(9, .int z62), (11, .int 1), (10, .ref (ad (72 + (24 * b + (Int32.toNatClampNeg y10))))), (8, .int y11), (7, .int y12), (6, .int (V 59 (8 * (24 * b + (Int32.toNatClampNeg p0)) + (Int32.toNatClampNeg p1)))), (5, .int (V 58 (8 * (24 * b + (Int32.toNatClampNeg p0)) + (Int32.toNatClampNeg p1)))), (4, .int (V 60 (8 * (24 * b + (Int32.toNatClampNeg p0)) + (Int32.toNatClampNeg p1)))), (3, .ref (ad (72 + (24 * b + (Int32.toNatClampNeg p0))))), (0, .ref (ad (38 + b))), (1, .int p0), (2, .int p1)]) hx hb dX0_candidates_165 hl (k := 2) rfl (by rw [ez62]; rfl) (by decide) rfl (fun ls hl => ?_)
                      refine lv_goto (tgt := 40) hx hb dX0_candidates_168 (by decide) ?_
                      have r63 : Int32.toInt 1 = 1 := by decide
                      have su64 : suP gs.1 (svc V b (gs.2.1 1).length) (gs.1 (300 + 32 * gk + 4 * gj)) (gs.1 (302 + 32 * gk + 4 * gj)) (Int32.toNatClampNeg y10) = true := (suP_y ((h50 (gs.1 (300 + 32 * gk + 4 * gj)) (by omega)).symm.trans (by cases e9 : bt (V 50 (24 * b + (Int32.toNatClampNeg y10))) (gs.1 (300 + 32 * gk + 4 * gj)); exact absurd ((lb_get (x := V 50 (24 * b + (Int32.toNatClampNeg y10))) (f := (gs.1 (300 + 32 * gk + 4 * gj))) ez22 ez23 (show ((V 58 (8 * (24 * b + (Int32.toNatClampNeg p0)) + (Int32.toNatClampNeg p1)))).toInt = (((gs.1 (300 + 32 * gk + 4 * gj)) : Nat) : Int) from by omega) (by omega)).mpr e9) (by omega); rfl)) (by omega) (t34.resolve_right (fun h9 => by have h8 := h9.1; omega)).2)
                      have em9 : z62.toInt.toNat = (Int32.toNatClampNeg y10) + 1 := by (first | exact om_a1185fbb59ea kk9 kc18 hz62 | omega)
                      have eo9 : y10.toInt.toNat = (Int32.toNatClampNeg y10) := rfl
                      have b9 := xlp13_1
                      rw [eo9] at b9
                      have su65 : suP gs.1 (svc V b (gs.2.1 1).length) (gs.1 (300 + 32 * gk + 4 * gj)) (gs.1 (302 + 32 * gk + 4 * gj)) (Int32.toNatClampNeg y10) = true := (suP_y ((h50 (gs.1 (300 + 32 * gk + 4 * gj)) (by omega)).symm.trans (by cases e9 : bt (V 50 (24 * b + (Int32.toNatClampNeg y10))) (gs.1 (300 + 32 * gk + 4 * gj)); exact absurd ((lb_get (x := V 50 (24 * b + (Int32.toNatClampNeg y10))) (f := (gs.1 (300 + 32 * gk + 4 * gj))) ez22 ez23 (show ((V 58 (8 * (24 * b + (Int32.toNatClampNeg p0)) + (Int32.toNatClampNeg p1)))).toInt = (((gs.1 (300 + 32 * gk + 4 * gj)) : Nat) : Int) from by omega) (by omega)).mpr e9) (by omega); rfl)) (by omega) (t34.resolve_right (fun h9 => by have h8 := h9.1; omega)).2)
                      have em9 : z62.toInt.toNat = (Int32.toNatClampNeg y10) + 1 := by (first | exact om_26701d63f2fa em9 | omega)
                      have eo9 : y10.toInt.toNat = (Int32.toNatClampNeg y10) := rfl
                      have b9 := xlp13_1
                      rw [eo9] at b9
                      exact ihlp13 z62 y11 y12 H locs ls (by first | exact om_9500b6342cf6 r1.2 r2 f17 kk9 hz62 | first | omega | ((try (have i_gjl := Imp.go gjl (by omega))); (try (have i_gkl := Imp.go gkl (by omega))); (try (have i_wh := Imp.go wh (by omega))); (try (have i_coc := Imp.go coc (by omega))); first | omega | ((try (have i_coc := Imp.go coc (by omega))); (try (have i_wh := Imp.go wh (by omega))); (try (have i_gkl := Imp.go gkl (by omega))); (try (have i_gjl := Imp.go gjl (by omega))); omega))) (by first | exact om_c51a6401fccc klp13_1.1 klp13_1.2 | first | omega | ((try (have i_gjl := Imp.go gjl (by omega))); (try (have i_gkl := Imp.go gkl (by omega))); (try (have i_wh := Imp.go wh (by omega))); (try (have i_coc := Imp.go coc (by omega))); first | omega | ((try (have i_coc := Imp.go coc (by omega))); (try (have i_wh := Imp.go wh (by omega))); (try (have i_gkl := Imp.go gkl (by omega))); (try (have i_gjl := Imp.go gjl (by omega))); omega))) (by rw [em9]; exact FND.lo (by have h9 := xlp13_0; rw [eo9] at h9; exact h9) (by have h8 := b9 (by omega); omega) (by omega)) (fun h7 => by rw [em9]; exact (by have h8 := b9 h7; rw [bsP_l (by omega)]; omega)) (show z62.toInt ≤ (((gs.2.1 2).length : Nat) : Int) from by first | exact om_bcda7a344117 ln f17 hz62 | first | omega | ((try (have i_gjl := Imp.go gjl (by omega))); (try (have i_gkl := Imp.go gkl (by omega))); (try (have i_wh := Imp.go wh (by omega))); (try (have i_coc := Imp.go coc (by omega))); first | omega | ((try (have i_coc := Imp.go coc (by omega))); (try (have i_wh := Imp.go wh (by omega))); (try (have i_gkl := Imp.go gkl (by omega))); (try (have i_gjl := Imp.go gjl (by omega))); omega))) (by first | exact om_9592d9319ffa hn hz62 | first | omega | ((try (have i_gjl := Imp.go gjl (by omega))); (try (have i_gkl := Imp.go gkl (by omega))); (try (have i_wh := Imp.go wh (by omega))); (try (have i_coc := Imp.go coc (by omega))); first | omega | ((try (have i_coc := Imp.go coc (by omega))); (try (have i_wh := Imp.go wh (by omega))); (try (have i_gkl := Imp.go gkl (by omega))); (try (have i_gjl := Imp.go gjl (by omega))); omega))) hP hD hS (lv_sub hl [0, 3, 4, 5, 6, 7, 8, 9, 10, 11] rfl)
                    · skip
                      have f66 : ((V 53 (24 * b + (Int32.toNatClampNeg y10)))).toInt = y11.toInt := b_eq rfl rfl c60
                      refine lv_iload hx hb dX0_candidates_156 (lv_at hl 4 rfl) ?_
                      refine lv_iconst (v := 1) hx hb dX0_candidates_158 (by decide) ?_
                      refine lv_iload hx hb dX0_candidates_159 (lv_at hl 2 rfl) ?_
                      refine lv_ishl hx hb dX0_candidates_161 ?_
                      refine lv_topi (fun z67 ez67 => ?_)
                      have hz67 : 0 ≤ z67.toInt ∧ z67.toInt < 16777216 := shl1 ez67 (by first | omega | ((try (have i_gjl := Imp.go gjl (by omega))); (try (have i_gkl := Imp.go gkl (by omega))); (try (have i_wh := Imp.go wh (by omega))); (try (have i_coc := Imp.go coc (by omega))); first | omega | ((try (have i_coc := Imp.go coc (by omega))); (try (have i_wh := Imp.go wh (by omega))); (try (have i_gkl := Imp.go gkl (by omega))); (try (have i_gjl := Imp.go gjl (by omega))); omega)))
                      refine lv_ior hx hb dX0_candidates_162 ?_
                      refine lv_topi (fun z68 ez68 => ?_)
                      have hz68 : 0 ≤ z68.toInt ∧ z68.toInt < 16777216 := or24 ez68 (by first | omega | ((try (have i_gjl := Imp.go gjl (by omega))); (try (have i_gkl := Imp.go gkl (by omega))); (try (have i_wh := Imp.go wh (by omega))); (try (have i_coc := Imp.go coc (by omega))); first | omega | ((try (have i_coc := Imp.go coc (by omega))); (try (have i_wh := Imp.go wh (by omega))); (try (have i_gkl := Imp.go gkl (by omega))); (try (have i_gjl := Imp.go gjl (by omega))); omega))) (by first | omega | ((try (have i_gjl := Imp.go gjl (by omega))); (try (have i_gkl := Imp.go gkl (by omega))); (try (have i_wh := Imp.go wh (by omega))); (try (have i_coc := Imp.go coc (by omega))); first | omega | ((try (have i_coc := Imp.go coc (by omega))); (try (have i_wh := Imp.go wh (by omega))); (try (have i_gkl := Imp.go gkl (by omega))); (try (have i_gjl := Imp.go gjl (by omega))); omega)))
                      refine lv_istore (lv' := [(7, .int z68), (11, .int 1), (10, .ref (ad (72 + (24 * b + (Int32.toNatClampNeg y10))))), (9, .int y10), (8, .int y11), (6, .int (V 59 (8 * (24 * b + (Int32.toNatClampNeg p0)) + (Int32.toNatClampNeg p1)))), (5, .int (V 58 (8 * (24 * b + (Int32.toNatClampNeg p0)) + (Int32.toNatClampNeg p1)))), (4, .int (V 60 (8 * (24 * b + (Int32.toNatClampNeg p0)) + (Int32.toNatClampNeg p1)))), (3, .ref (ad (72 + (24 * b + (Int32.toNatClampNeg p0))))), (0, .ref (ad (38 + b))), (1, .int p0), (2, .int p1)]) hx hb dX0_candidates_163 hl (by decide) rfl (fun ls hl => ?_)
                      obtain ⟨z69, ez69⟩ : ∃ y : Int32, y = y10 + 1 := ⟨_, rfl⟩
                      have hz69 : z69.toInt = y10.toInt + 1 := i_add ez69 rfl (by decide) (by (first | exact om_2bedb82363d1 r1.2 r2 f17 kk9 | omega))
                      refine lv_iinc (v := z69) (lv' := [(9, .int z69), (7, .int z68), (11, .int 1), (10, .ref (ad (72 + (24 * b + (Int32.toNatClampNeg y10))))), (8, .int y11), (6, .int (V 59 (8 * (24 * b + (Int32.toNatClampNeg p0)) + (Int32.toNatClampNeg p1)))), (5, .int (V 58 (8 * (24 * b + (Int32.toNatClampNeg p0)) + (Int32.toNatClampNeg p1)))), (4, .int (V 60 (8 * (24 * b + (Int32.toNatClampNeg p0)) + (Int32.toNatClampNeg p1)))), (3, .ref (ad (72 + (24 * b + (Int32.toNatClampNeg p0))))), (0, .ref (ad (38 + b))), (1, .int p0), (2, .int p1)]) hx hb dX0_candidates_165 hl (k := 3) rfl (by rw [ez69]; rfl) (by decide) rfl (fun ls hl => ?_)
                      refine lv_goto (tgt := 40) hx hb dX0_candidates_168 (by decide) ?_
                      have r70 : Int32.toInt 1 = 1 := by decide
                      have su71 : suP gs.1 (svc V b (gs.2.1 1).length) (gs.1 (300 + 32 * gk + 4 * gj)) (gs.1 (302 + 32 * gk + 4 * gj)) (Int32.toNatClampNeg y10) = true := (suP_y ((h50 (gs.1 (300 + 32 * gk + 4 * gj)) (by omega)).symm.trans (by cases e9 : bt (V 50 (24 * b + (Int32.toNatClampNeg y10))) (gs.1 (300 + 32 * gk + 4 * gj)); exact absurd ((lb_get (x := V 50 (24 * b + (Int32.toNatClampNeg y10))) (f := (gs.1 (300 + 32 * gk + 4 * gj))) ez22 ez23 (show ((V 58 (8 * (24 * b + (Int32.toNatClampNeg p0)) + (Int32.toNatClampNeg p1)))).toInt = (((gs.1 (300 + 32 * gk + 4 * gj)) : Nat) : Int) from by omega) (by omega)).mpr e9) (by omega); rfl)) (by omega) (t34.resolve_right (fun h9 => by have h8 := h9.1; omega)).2)
                      have em9 : z69.toInt.toNat = (Int32.toNatClampNeg y10) + 1 := by (first | exact om_a1185fbb59ea kk9 kc18 hz69 | omega)
                      have eo9 : y10.toInt.toNat = (Int32.toNatClampNeg y10) := rfl
                      have b9 := xlp13_1
                      rw [eo9] at b9
                      have su72 : suP gs.1 (svc V b (gs.2.1 1).length) (gs.1 (300 + 32 * gk + 4 * gj)) (gs.1 (302 + 32 * gk + 4 * gj)) (Int32.toNatClampNeg y10) = true := (suP_y ((h50 (gs.1 (300 + 32 * gk + 4 * gj)) (by omega)).symm.trans (by cases e9 : bt (V 50 (24 * b + (Int32.toNatClampNeg y10))) (gs.1 (300 + 32 * gk + 4 * gj)); exact absurd ((lb_get (x := V 50 (24 * b + (Int32.toNatClampNeg y10))) (f := (gs.1 (300 + 32 * gk + 4 * gj))) ez22 ez23 (show ((V 58 (8 * (24 * b + (Int32.toNatClampNeg p0)) + (Int32.toNatClampNeg p1)))).toInt = (((gs.1 (300 + 32 * gk + 4 * gj)) : Nat) : Int) from by omega) (by omega)).mpr e9) (by omega); rfl)) (by omega) (t34.resolve_right (fun h9 => by have h8 := h9.1; omega)).2)
                      have em9 : z69.toInt.toNat = (Int32.toNatClampNeg y10) + 1 := by (first | exact om_26701d63f2fa em9 | omega)
                      have eo9 : y10.toInt.toNat = (Int32.toNatClampNeg y10) := rfl
                      have b9 := xlp13_1
                      rw [eo9] at b9
                      exact ihlp13 z69 y11 z68 H locs ls (by first | exact om_9500b6342cf6 r1.2 r2 f17 kk9 hz69 | first | omega | ((try (have i_gjl := Imp.go gjl (by omega))); (try (have i_gkl := Imp.go gkl (by omega))); (try (have i_wh := Imp.go wh (by omega))); (try (have i_coc := Imp.go coc (by omega))); first | omega | ((try (have i_coc := Imp.go coc (by omega))); (try (have i_wh := Imp.go wh (by omega))); (try (have i_gkl := Imp.go gkl (by omega))); (try (have i_gjl := Imp.go gjl (by omega))); omega))) (by first | exact om_8a0dcf576dcd hz68.1 hz68.2 | first | omega | ((try (have i_gjl := Imp.go gjl (by omega))); (try (have i_gkl := Imp.go gkl (by omega))); (try (have i_wh := Imp.go wh (by omega))); (try (have i_coc := Imp.go coc (by omega))); first | omega | ((try (have i_coc := Imp.go coc (by omega))); (try (have i_wh := Imp.go wh (by omega))); (try (have i_gkl := Imp.go gkl (by omega))); (try (have i_gjl := Imp.go gjl (by omega))); omega))) (by rw [em9]; exact FND.eq (by have h9 := xlp13_0; rw [eo9] at h9; exact h9) su71 (Or.inr (by have h8 := b9 (by omega); omega)) ez67 ez68 (show y10.toInt = (((Int32.toNatClampNeg y10) : Nat) : Int) from by (first | exact om_dadc9969542e kc18 | omega)) (by omega)) (fun h7 => by rw [em9]; exact (by have h8 := b9 h7; rw [bsP_l (by omega)]; omega)) (show z69.toInt ≤ (((gs.2.1 2).length : Nat) : Int) from by first | exact om_bcda7a344117 ln f17 hz69 | first | omega | ((try (have i_gjl := Imp.go gjl (by omega))); (try (have i_gkl := Imp.go gkl (by omega))); (try (have i_wh := Imp.go wh (by omega))); (try (have i_coc := Imp.go coc (by omega))); first | omega | ((try (have i_coc := Imp.go coc (by omega))); (try (have i_wh := Imp.go wh (by omega))); (try (have i_gkl := Imp.go gkl (by omega))); (try (have i_gjl := Imp.go gjl (by omega))); omega))) (by first | exact om_9592d9319ffa hn hz69 | first | omega | ((try (have i_gjl := Imp.go gjl (by omega))); (try (have i_gkl := Imp.go gkl (by omega))); (try (have i_wh := Imp.go wh (by omega))); (try (have i_coc := Imp.go coc (by omega))); first | omega | ((try (have i_coc := Imp.go coc (by omega))); (try (have i_wh := Imp.go wh (by omega))); (try (have i_gkl := Imp.go gkl (by omega))); (try (have i_gjl := Imp.go gjl (by omega))); omega))) hP hD hS (lv_sub hl [0, 4, 1, 5, 6, 7, 8, 9, 10, 11] rfl)
                · skip
                  have f73 : y11.toInt < ((V 53 (24 * b + (Int32.toNatClampNeg y10)))).toInt := b_nle rfl rfl c49
                  refine lv_aload hx hb dX0_candidates_130 (lv_at hl 1 rfl) ?_
                  refine va_getN (D := D) (ci := 3) (v := .int (V 53 (24 * b + (Int32.toNatClampNeg y10)))) (fs := (xfComp ad V (24 * b + (Int32.toNatClampNeg y10)))) (C := RX3) (T := TX3) (N := 13) hx hb hg inX3 hown hK hP (72 + (24 * b + (Int32.toNatClampNeg y10))) (xgComp il19) rfl 8 (by decide) (hnw.use 529 n529 rfl) (fun _ h9 => h9) rfl dX0_candidates_132 ?_
                  refine lv_istore (lv' := [(8, .int (V 53 (24 * b + (Int32.toNatClampNeg y10)))), (11, .int 1), (10, .ref (ad (72 + (24 * b + (Int32.toNatClampNeg y10))))), (9, .int y10), (7, .int y12), (6, .int (V 59 (8 * (24 * b + (Int32.toNatClampNeg p0)) + (Int32.toNatClampNeg p1)))), (5, .int (V 58 (8 * (24 * b + (Int32.toNatClampNeg p0)) + (Int32.toNatClampNeg p1)))), (4, .int (V 60 (8 * (24 * b + (Int32.toNatClampNeg p0)) + (Int32.toNatClampNeg p1)))), (3, .ref (ad (72 + (24 * b + (Int32.toNatClampNeg p0))))), (0, .ref (ad (38 + b))), (1, .int p0), (2, .int p1)]) hx hb dX0_candidates_135 hl (by decide) rfl (fun ls hl => ?_)
                  refine lv_iconst (v := 0) hx hb dX0_candidates_137 (by decide) ?_
                  refine lv_istore (lv' := [(7, .int 0), (8, .int (V 53 (24 * b + (Int32.toNatClampNeg y10)))), (11, .int 1), (10, .ref (ad (72 + (24 * b + (Int32.toNatClampNeg y10))))), (9, .int y10), (6, .int (V 59 (8 * (24 * b + (Int32.toNatClampNeg p0)) + (Int32.toNatClampNeg p1)))), (5, .int (V 58 (8 * (24 * b + (Int32.toNatClampNeg p0)) + (Int32.toNatClampNeg p1)))), (4, .int (V 60 (8 * (24 * b + (Int32.toNatClampNeg p0)) + (Int32.toNatClampNeg p1)))), (3, .ref (ad (72 + (24 * b + (Int32.toNatClampNeg p0))))), (0, .ref (ad (38 + b))), (1, .int p0), (2, .int p1)]) hx hb dX0_candidates_138 hl (by decide) rfl (fun ls hl => ?_)
                  refine lv_iload hx hb dX0_candidates_140 (lv_at hl 7 rfl) ?_
                  refine lv_iconst (v := 2) hx hb dX0_candidates_142 (by decide) ?_
                  refine lv_icmp_eq (tgt := 156) hx hb dX0_candidates_143 (by decide) (fun c74 => ?_) (fun c74 => ?_)
                  · skip
                    have f75 : ((V 60 (8 * (24 * b + (Int32.toNatClampNeg p0)) + (Int32.toNatClampNeg p1)))).toInt = 2 := b_eq rfl (by decide) c74
                    refine lv_iload hx hb dX0_candidates_156 (lv_at hl 0 rfl) ?_
                    refine lv_iconst (v := 1) hx hb dX0_candidates_158 (by decide) ?_
                    refine lv_iload hx hb dX0_candidates_159 (lv_at hl 4 rfl) ?_
                    refine lv_ishl hx hb dX0_candidates_161 ?_
                    refine lv_topi (fun z76 ez76 => ?_)
                    have hz76 : 0 ≤ z76.toInt ∧ z76.toInt < 16777216 := shl1 ez76 (by first | omega | ((try (have i_gjl := Imp.go gjl (by omega))); (try (have i_gkl := Imp.go gkl (by omega))); (try (have i_wh := Imp.go wh (by omega))); (try (have i_coc := Imp.go coc (by omega))); first | omega | ((try (have i_coc := Imp.go coc (by omega))); (try (have i_wh := Imp.go wh (by omega))); (try (have i_gkl := Imp.go gkl (by omega))); (try (have i_gjl := Imp.go gjl (by omega))); omega)))
                    refine lv_ior hx hb dX0_candidates_162 ?_
                    refine lv_topi (fun z77 ez77 => ?_)
                    have hz77 : 0 ≤ z77.toInt ∧ z77.toInt < 16777216 := or24 ez77 (by decide) (by first | omega | ((try (have i_gjl := Imp.go gjl (by omega))); (try (have i_gkl := Imp.go gkl (by omega))); (try (have i_wh := Imp.go wh (by omega))); (try (have i_coc := Imp.go coc (by omega))); first | omega | ((try (have i_coc := Imp.go coc (by omega))); (try (have i_wh := Imp.go wh (by omega))); (try (have i_gkl := Imp.go gkl (by omega))); (try (have i_gjl := Imp.go gjl (by omega))); omega)))
                    refine lv_istore (lv' := [(7, .int z77), (8, .int (V 53 (24 * b + (Int32.toNatClampNeg y10)))), (11, .int 1), (10, .ref (ad (72 + (24 * b + (Int32.toNatClampNeg y10))))), (9, .int y10), (6, .int (V 59 (8 * (24 * b + (Int32.toNatClampNeg p0)) + (Int32.toNatClampNeg p1)))), (5, .int (V 58 (8 * (24 * b + (Int32.toNatClampNeg p0)) + (Int32.toNatClampNeg p1)))), (4, .int (V 60 (8 * (24 * b + (Int32.toNatClampNeg p0)) + (Int32.toNatClampNeg p1)))), (3, .ref (ad (72 + (24 * b + (Int32.toNatClampNeg p0))))), (0, .ref (ad (38 + b))), (1, .int p0), (2, .int p1)]) hx hb dX0_candidates_163 hl (by decide) rfl (fun ls hl => ?_)
                    obtain ⟨z78, ez78⟩ : ∃ y : Int32, y = y10 + 1 := ⟨_, rfl⟩
                    have hz78 : z78.toInt = y10.toInt + 1 := i_add ez78 rfl (by decide) (by omega)
                    refine lv_iinc (v := z78) (lv' := [(9, .int z78), (7, .int z77), (8, .int (V 53 (24 * b + (Int32.toNatClampNeg y10)))), (11, .int 1), (10, .ref (ad (72 + (24 * b + (Int32.toNatClampNeg y10))))), (6, .int (V 59 (8 * (24 * b + (Int32.toNatClampNeg p0)) + (Int32.toNatClampNeg p1)))), (5, .int (V 58 (8 * (24 * b + (Int32.toNatClampNeg p0)) + (Int32.toNatClampNeg p1)))), (4, .int (V 60 (8 * (24 * b + (Int32.toNatClampNeg p0)) + (Int32.toNatClampNeg p1)))), (3, .ref (ad (72 + (24 * b + (Int32.toNatClampNeg p0))))), (0, .ref (ad (38 + b))), (1, .int p0), (2, .int p1)]) hx hb dX0_candidates_165 hl (k := 4) rfl (by rw [ez78]; rfl) (by decide) rfl (fun ls hl => ?_)
                    refine lv_goto (tgt := 40) hx hb dX0_candidates_168 (by decide) ?_
                    have r79 : Int32.toInt 1 = 1 := by decide
                    have su80 : suP gs.1 (svc V b (gs.2.1 1).length) (gs.1 (300 + 32 * gk + 4 * gj)) (gs.1 (302 + 32 * gk + 4 * gj)) (Int32.toNatClampNeg y10) = true := (suP_y ((h50 (gs.1 (300 + 32 * gk + 4 * gj)) (by omega)).symm.trans (by cases e9 : bt (V 50 (24 * b + (Int32.toNatClampNeg y10))) (gs.1 (300 + 32 * gk + 4 * gj)); exact absurd ((lb_get (x := V 50 (24 * b + (Int32.toNatClampNeg y10))) (f := (gs.1 (300 + 32 * gk + 4 * gj))) ez22 ez23 (show ((V 58 (8 * (24 * b + (Int32.toNatClampNeg p0)) + (Int32.toNatClampNeg p1)))).toInt = (((gs.1 (300 + 32 * gk + 4 * gj)) : Nat) : Int) from by omega) (by omega)).mpr e9) (by omega); rfl)) (by omega) (t34.resolve_right (fun h9 => by have h8 := h9.1; omega)).2)
                    have em9 : z78.toInt.toNat = (Int32.toNatClampNeg y10) + 1 := by omega
                    have eo9 : y10.toInt.toNat = (Int32.toNatClampNeg y10) := rfl
                    have b9 := xlp13_1
                    rw [eo9] at b9
                    have su81 : suP gs.1 (svc V b (gs.2.1 1).length) (gs.1 (300 + 32 * gk + 4 * gj)) (gs.1 (302 + 32 * gk + 4 * gj)) (Int32.toNatClampNeg y10) = true := (suP_y ((h50 (gs.1 (300 + 32 * gk + 4 * gj)) (by omega)).symm.trans (by cases e9 : bt (V 50 (24 * b + (Int32.toNatClampNeg y10))) (gs.1 (300 + 32 * gk + 4 * gj)); exact absurd ((lb_get (x := V 50 (24 * b + (Int32.toNatClampNeg y10))) (f := (gs.1 (300 + 32 * gk + 4 * gj))) ez22 ez23 (show ((V 58 (8 * (24 * b + (Int32.toNatClampNeg p0)) + (Int32.toNatClampNeg p1)))).toInt = (((gs.1 (300 + 32 * gk + 4 * gj)) : Nat) : Int) from by omega) (by omega)).mpr e9) (by omega); rfl)) (by omega) (t34.resolve_right (fun h9 => by have h8 := h9.1; omega)).2)
                    have em9 : z78.toInt.toNat = (Int32.toNatClampNeg y10) + 1 := by omega
                    have eo9 : y10.toInt.toNat = (Int32.toNatClampNeg y10) := rfl
                    have b9 := xlp13_1
                    rw [eo9] at b9
                    exact ihlp13 z78 (V 53 (24 * b + (Int32.toNatClampNeg y10))) z77 H locs ls (by first | omega | ((try (have i_gjl := Imp.go gjl (by omega))); (try (have i_gkl := Imp.go gkl (by omega))); (try (have i_wh := Imp.go wh (by omega))); (try (have i_coc := Imp.go coc (by omega))); first | omega | ((try (have i_coc := Imp.go coc (by omega))); (try (have i_wh := Imp.go wh (by omega))); (try (have i_gkl := Imp.go gkl (by omega))); (try (have i_gjl := Imp.go gjl (by omega))); omega))) (by first | omega | ((try (have i_gjl := Imp.go gjl (by omega))); (try (have i_gkl := Imp.go gkl (by omega))); (try (have i_wh := Imp.go wh (by omega))); (try (have i_coc := Imp.go coc (by omega))); first | omega | ((try (have i_coc := Imp.go coc (by omega))); (try (have i_wh := Imp.go wh (by omega))); (try (have i_gkl := Imp.go gkl (by omega))); (try (have i_gjl := Imp.go gjl (by omega))); omega))) (by rw [em9]; exact FND.hi rfl su80 (by have h8 := b9 (by omega); omega) (by omega) ez76 ez77 (show y10.toInt = (((Int32.toNatClampNeg y10) : Nat) : Int) from by omega) (by omega)) (fun h7 => by rw [em9]; exact (by have h8 := b9 h7; rw [bsP_h su81 (by omega)]; omega)) (show z78.toInt ≤ (((gs.2.1 2).length : Nat) : Int) from by first | omega | ((try (have i_gjl := Imp.go gjl (by omega))); (try (have i_gkl := Imp.go gkl (by omega))); (try (have i_wh := Imp.go wh (by omega))); (try (have i_coc := Imp.go coc (by omega))); first | omega | ((try (have i_coc := Imp.go coc (by omega))); (try (have i_wh := Imp.go wh (by omega))); (try (have i_gkl := Imp.go gkl (by omega))); (try (have i_gjl := Imp.go gjl (by omega))); omega))) (by first | omega | ((try (have i_gjl := Imp.go gjl (by omega))); (try (have i_gkl := Imp.go gkl (by omega))); (try (have i_wh := Imp.go wh (by omega))); (try (have i_coc := Imp.go coc (by omega))); first | omega | ((try (have i_coc := Imp.go coc (by omega))); (try (have i_wh := Imp.go wh (by omega))); (try (have i_gkl := Imp.go gkl (by omega))); (try (have i_gjl := Imp.go gjl (by omega))); omega))) hP hD hS (lv_sub hl [0, 2, 1, 5, 6, 7, 8, 9, 10, 11] rfl)
                  · skip
                    have f82 : ((V 60 (8 * (24 * b + (Int32.toNatClampNeg p0)) + (Int32.toNatClampNeg p1)))).toInt ≠ 2 := b_neq rfl (by decide) c74
                    refine lv_aload hx hb dX0_candidates_146 (lv_at hl 3 rfl) ?_
                    refine va_getN (D := D) (ci := 3) (v := .int (V 53 (24 * b + (Int32.toNatClampNeg y10)))) (fs := (xfComp ad V (24 * b + (Int32.toNatClampNeg y10)))) (C := RX3) (T := TX3) (N := 13) hx hb hg inX3 hown hK hP (72 + (24 * b + (Int32.toNatClampNeg y10))) (xgComp il19) rfl 8 (by decide) (hnw.use 529 n529 rfl) (fun _ h9 => h9) rfl dX0_candidates_148 ?_
                    refine lv_iload hx hb dX0_candidates_151 (lv_at hl 1 rfl) ?_
                    refine lv_icmp_ne (tgt := 165) hx hb dX0_candidates_153 (by decide) (fun c83 => ?_) (fun c83 => ?_)
                    · skip
                      have f84 : ((V 53 (24 * b + (Int32.toNatClampNeg y10)))).toInt ≠ ((V 53 (24 * b + (Int32.toNatClampNeg y10)))).toInt := b_neq rfl rfl c83
                      obtain ⟨z85, ez85⟩ : ∃ y : Int32, y = y10 + 1 := ⟨_, rfl⟩
                      have hz85 : z85.toInt = y10.toInt + 1 := i_add ez85 rfl (by decide) (by (first | exact om_2bedb82363d1 r1.2 r2 f17 kk9 | omega))
                      refine lv_iinc (v := z85) (lv' := [(9, .int z85), (7, .int 0), (8, .int (V 53 (24 * b + (Int32.toNatClampNeg y10)))), (11, .int 1), (10, .ref (ad (72 + (24 * b + (Int32.toNatClampNeg y10))))), (6, .int (V 59 (8 * (24 * b + (Int32.toNatClampNeg p0)) + (Int32.toNatClampNeg p1)))), (5, .int (V 58 (8 * (24 * b + (Int32.toNatClampNeg p0)) + (Int32.toNatClampNeg p1)))), (4, .int (V 60 (8 * (24 * b + (Int32.toNatClampNeg p0)) + (Int32.toNatClampNeg p1)))), (3, .ref (ad (72 + (24 * b + (Int32.toNatClampNeg p0))))), (0, .ref (ad (38 + b))), (1, .int p0), (2, .int p1)]) hx hb dX0_candidates_165 hl (k := 4) rfl (by rw [ez85]; rfl) (by decide) rfl (fun ls hl => ?_)
                      refine lv_goto (tgt := 40) hx hb dX0_candidates_168 (by decide) ?_
                      have r86 : Int32.toInt 0 = 0 := by decide
                      have r87 : Int32.toInt 1 = 1 := by decide
                      have su88 : suP gs.1 (svc V b (gs.2.1 1).length) (gs.1 (300 + 32 * gk + 4 * gj)) (gs.1 (302 + 32 * gk + 4 * gj)) (Int32.toNatClampNeg y10) = true := (suP_y ((h50 (gs.1 (300 + 32 * gk + 4 * gj)) (by omega)).symm.trans (by cases e9 : bt (V 50 (24 * b + (Int32.toNatClampNeg y10))) (gs.1 (300 + 32 * gk + 4 * gj)); exact absurd ((lb_get (x := V 50 (24 * b + (Int32.toNatClampNeg y10))) (f := (gs.1 (300 + 32 * gk + 4 * gj))) ez22 ez23 (show ((V 58 (8 * (24 * b + (Int32.toNatClampNeg p0)) + (Int32.toNatClampNeg p1)))).toInt = (((gs.1 (300 + 32 * gk + 4 * gj)) : Nat) : Int) from by omega) (by omega)).mpr e9) (by omega); rfl)) (by omega) (t34.resolve_right (fun h9 => by have h8 := h9.1; omega)).2)
                      have em9 : z85.toInt.toNat = (Int32.toNatClampNeg y10) + 1 := by (first | exact om_a1185fbb59ea kk9 kc18 hz85 | omega)
                      have eo9 : y10.toInt.toNat = (Int32.toNatClampNeg y10) := rfl
                      have b9 := xlp13_1
                      rw [eo9] at b9
                      have su89 : suP gs.1 (svc V b (gs.2.1 1).length) (gs.1 (300 + 32 * gk + 4 * gj)) (gs.1 (302 + 32 * gk + 4 * gj)) (Int32.toNatClampNeg y10) = true := (suP_y ((h50 (gs.1 (300 + 32 * gk + 4 * gj)) (by omega)).symm.trans (by cases e9 : bt (V 50 (24 * b + (Int32.toNatClampNeg y10))) (gs.1 (300 + 32 * gk + 4 * gj)); exact absurd ((lb_get (x := V 50 (24 * b + (Int32.toNatClampNeg y10))) (f := (gs.1 (300 + 32 * gk + 4 * gj))) ez22 ez23 (show ((V 58 (8 * (24 * b + (Int32.toNatClampNeg p0)) + (Int32.toNatClampNeg p1)))).toInt = (((gs.1 (300 + 32 * gk + 4 * gj)) : Nat) : Int) from by omega) (by omega)).mpr e9) (by omega); rfl)) (by omega) (t34.resolve_right (fun h9 => by have h8 := h9.1; omega)).2)
                      have em9 : z85.toInt.toNat = (Int32.toNatClampNeg y10) + 1 := by (first | exact om_26701d63f2fa em9 | omega)
                      have eo9 : y10.toInt.toNat = (Int32.toNatClampNeg y10) := rfl
                      have b9 := xlp13_1
                      rw [eo9] at b9
                      exact ihlp13 z85 (V 53 (24 * b + (Int32.toNatClampNeg y10))) 0 H locs ls (by first | exact om_9500b6342cf6 r1.2 r2 f17 kk9 hz85 | first | omega | ((try (have i_gjl := Imp.go gjl (by omega))); (try (have i_gkl := Imp.go gkl (by omega))); (try (have i_wh := Imp.go wh (by omega))); (try (have i_coc := Imp.go coc (by omega))); first | omega | ((try (have i_coc := Imp.go coc (by omega))); (try (have i_wh := Imp.go wh (by omega))); (try (have i_gkl := Imp.go gkl (by omega))); (try (have i_gjl := Imp.go gjl (by omega))); omega))) (by decide) (by exfalso; omega) (fun h7 => by exfalso; omega) (show z85.toInt ≤ (((gs.2.1 2).length : Nat) : Int) from by first | exact om_bcda7a344117 ln f17 hz85 | first | omega | ((try (have i_gjl := Imp.go gjl (by omega))); (try (have i_gkl := Imp.go gkl (by omega))); (try (have i_wh := Imp.go wh (by omega))); (try (have i_coc := Imp.go coc (by omega))); first | omega | ((try (have i_coc := Imp.go coc (by omega))); (try (have i_wh := Imp.go wh (by omega))); (try (have i_gkl := Imp.go gkl (by omega))); (try (have i_gjl := Imp.go gjl (by omega))); omega))) (by first | exact om_9592d9319ffa hn hz85 | first | omega | ((try (have i_gjl := Imp.go gjl (by omega))); (try (have i_gkl := Imp.go gkl (by omega))); (try (have i_wh := Imp.go wh (by omega))); (try (have i_coc := Imp.go coc (by omega))); first | omega | ((try (have i_coc := Imp.go coc (by omega))); (try (have i_wh := Imp.go wh (by omega))); (try (have i_gkl := Imp.go gkl (by omega))); (try (have i_gjl := Imp.go gjl (by omega))); omega))) hP hD hS (lv_sub hl [0, 2, 1, 5, 6, 7, 8, 9, 10, 11] rfl)
                    · skip
                      have f90 : ((V 53 (24 * b + (Int32.toNatClampNeg y10)))).toInt = ((V 53 (24 * b + (Int32.toNatClampNeg y10)))).toInt := b_eq rfl rfl c83
                      refine lv_iload hx hb dX0_candidates_156 (lv_at hl 0 rfl) ?_
                      refine lv_iconst (v := 1) hx hb dX0_candidates_158 (by decide) ?_
                      refine lv_iload hx hb dX0_candidates_159 (lv_at hl 4 rfl) ?_
                      refine lv_ishl hx hb dX0_candidates_161 ?_
                      refine lv_topi (fun z91 ez91 => ?_)
                      have hz91 : 0 ≤ z91.toInt ∧ z91.toInt < 16777216 := shl1 ez91 (by first | omega | ((try (have i_gjl := Imp.go gjl (by omega))); (try (have i_gkl := Imp.go gkl (by omega))); (try (have i_wh := Imp.go wh (by omega))); (try (have i_coc := Imp.go coc (by omega))); first | omega | ((try (have i_coc := Imp.go coc (by omega))); (try (have i_wh := Imp.go wh (by omega))); (try (have i_gkl := Imp.go gkl (by omega))); (try (have i_gjl := Imp.go gjl (by omega))); omega)))
                      refine lv_ior hx hb dX0_candidates_162 ?_
                      refine lv_topi (fun z92 ez92 => ?_)
                      have hz92 : 0 ≤ z92.toInt ∧ z92.toInt < 16777216 := or24 ez92 (by decide) (by first | omega | ((try (have i_gjl := Imp.go gjl (by omega))); (try (have i_gkl := Imp.go gkl (by omega))); (try (have i_wh := Imp.go wh (by omega))); (try (have i_coc := Imp.go coc (by omega))); first | omega | ((try (have i_coc := Imp.go coc (by omega))); (try (have i_wh := Imp.go wh (by omega))); (try (have i_gkl := Imp.go gkl (by omega))); (try (have i_gjl := Imp.go gjl (by omega))); omega)))
                      refine lv_istore (lv' := [(7, .int z92), (8, .int (V 53 (24 * b + (Int32.toNatClampNeg y10)))), (11, .int 1), (10, .ref (ad (72 + (24 * b + (Int32.toNatClampNeg y10))))), (9, .int y10), (6, .int (V 59 (8 * (24 * b + (Int32.toNatClampNeg p0)) + (Int32.toNatClampNeg p1)))), (5, .int (V 58 (8 * (24 * b + (Int32.toNatClampNeg p0)) + (Int32.toNatClampNeg p1)))), (4, .int (V 60 (8 * (24 * b + (Int32.toNatClampNeg p0)) + (Int32.toNatClampNeg p1)))), (3, .ref (ad (72 + (24 * b + (Int32.toNatClampNeg p0))))), (0, .ref (ad (38 + b))), (1, .int p0), (2, .int p1)]) hx hb dX0_candidates_163 hl (by decide) rfl (fun ls hl => ?_)
                      obtain ⟨z93, ez93⟩ : ∃ y : Int32, y = y10 + 1 := ⟨_, rfl⟩
                      have hz93 : z93.toInt = y10.toInt + 1 := i_add ez93 rfl (by decide) (by (first | exact om_2bedb82363d1 r1.2 r2 f17 kk9 | omega))
                      refine lv_iinc (v := z93) (lv' := [(9, .int z93), (7, .int z92), (8, .int (V 53 (24 * b + (Int32.toNatClampNeg y10)))), (11, .int 1), (10, .ref (ad (72 + (24 * b + (Int32.toNatClampNeg y10))))), (6, .int (V 59 (8 * (24 * b + (Int32.toNatClampNeg p0)) + (Int32.toNatClampNeg p1)))), (5, .int (V 58 (8 * (24 * b + (Int32.toNatClampNeg p0)) + (Int32.toNatClampNeg p1)))), (4, .int (V 60 (8 * (24 * b + (Int32.toNatClampNeg p0)) + (Int32.toNatClampNeg p1)))), (3, .ref (ad (72 + (24 * b + (Int32.toNatClampNeg p0))))), (0, .ref (ad (38 + b))), (1, .int p0), (2, .int p1)]) hx hb dX0_candidates_165 hl (k := 4) rfl (by rw [ez93]; rfl) (by decide) rfl (fun ls hl => ?_)
                      refine lv_goto (tgt := 40) hx hb dX0_candidates_168 (by decide) ?_
                      have r94 : Int32.toInt 1 = 1 := by decide
                      have su95 : suP gs.1 (svc V b (gs.2.1 1).length) (gs.1 (300 + 32 * gk + 4 * gj)) (gs.1 (302 + 32 * gk + 4 * gj)) (Int32.toNatClampNeg y10) = true := (suP_y ((h50 (gs.1 (300 + 32 * gk + 4 * gj)) (by omega)).symm.trans (by cases e9 : bt (V 50 (24 * b + (Int32.toNatClampNeg y10))) (gs.1 (300 + 32 * gk + 4 * gj)); exact absurd ((lb_get (x := V 50 (24 * b + (Int32.toNatClampNeg y10))) (f := (gs.1 (300 + 32 * gk + 4 * gj))) ez22 ez23 (show ((V 58 (8 * (24 * b + (Int32.toNatClampNeg p0)) + (Int32.toNatClampNeg p1)))).toInt = (((gs.1 (300 + 32 * gk + 4 * gj)) : Nat) : Int) from by omega) (by omega)).mpr e9) (by omega); rfl)) (by omega) (t34.resolve_right (fun h9 => by have h8 := h9.1; omega)).2)
                      have em9 : z93.toInt.toNat = (Int32.toNatClampNeg y10) + 1 := by (first | exact om_a1185fbb59ea kk9 kc18 hz93 | omega)
                      have eo9 : y10.toInt.toNat = (Int32.toNatClampNeg y10) := rfl
                      have b9 := xlp13_1
                      rw [eo9] at b9
                      have su96 : suP gs.1 (svc V b (gs.2.1 1).length) (gs.1 (300 + 32 * gk + 4 * gj)) (gs.1 (302 + 32 * gk + 4 * gj)) (Int32.toNatClampNeg y10) = true := (suP_y ((h50 (gs.1 (300 + 32 * gk + 4 * gj)) (by omega)).symm.trans (by cases e9 : bt (V 50 (24 * b + (Int32.toNatClampNeg y10))) (gs.1 (300 + 32 * gk + 4 * gj)); exact absurd ((lb_get (x := V 50 (24 * b + (Int32.toNatClampNeg y10))) (f := (gs.1 (300 + 32 * gk + 4 * gj))) ez22 ez23 (show ((V 58 (8 * (24 * b + (Int32.toNatClampNeg p0)) + (Int32.toNatClampNeg p1)))).toInt = (((gs.1 (300 + 32 * gk + 4 * gj)) : Nat) : Int) from by omega) (by omega)).mpr e9) (by omega); rfl)) (by omega) (t34.resolve_right (fun h9 => by have h8 := h9.1; omega)).2)
                      have em9 : z93.toInt.toNat = (Int32.toNatClampNeg y10) + 1 := by (first | exact om_26701d63f2fa em9 | omega)
                      have eo9 : y10.toInt.toNat = (Int32.toNatClampNeg y10) := rfl
                      have b9 := xlp13_1
                      rw [eo9] at b9
                      exact ihlp13 z93 (V 53 (24 * b + (Int32.toNatClampNeg y10))) z92 H locs ls (by first | exact om_9500b6342cf6 r1.2 r2 f17 kk9 hz93 | first | omega | ((try (have i_gjl := Imp.go gjl (by omega))); (try (have i_gkl := Imp.go gkl (by omega))); (try (have i_wh := Imp.go wh (by omega))); (try (have i_coc := Imp.go coc (by omega))); first | omega | ((try (have i_coc := Imp.go coc (by omega))); (try (have i_wh := Imp.go wh (by omega))); (try (have i_gkl := Imp.go gkl (by omega))); (try (have i_gjl := Imp.go gjl (by omega))); omega))) (by first | exact om_8a0dcf576dcd hz92.1 hz92.2 | first | omega | ((try (have i_gjl := Imp.go gjl (by omega))); (try (have i_gkl := Imp.go gkl (by omega))); (try (have i_wh := Imp.go wh (by omega))); (try (have i_coc := Imp.go coc (by omega))); first | omega | ((try (have i_coc := Imp.go coc (by omega))); (try (have i_wh := Imp.go wh (by omega))); (try (have i_gkl := Imp.go gkl (by omega))); (try (have i_gjl := Imp.go gjl (by omega))); omega))) (by rw [em9]; exact FND.hi rfl su95 (by have h8 := b9 (by omega); omega) (by omega) ez91 ez92 (show y10.toInt = (((Int32.toNatClampNeg y10) : Nat) : Int) from by (first | exact om_dadc9969542e kc18 | omega)) (by omega)) (fun h7 => by rw [em9]; exact (by have h8 := b9 h7; rw [bsP_h su96 (by omega)]; omega)) (show z93.toInt ≤ (((gs.2.1 2).length : Nat) : Int) from by first | exact om_bcda7a344117 ln f17 hz93 | first | omega | ((try (have i_gjl := Imp.go gjl (by omega))); (try (have i_gkl := Imp.go gkl (by omega))); (try (have i_wh := Imp.go wh (by omega))); (try (have i_coc := Imp.go coc (by omega))); first | omega | ((try (have i_coc := Imp.go coc (by omega))); (try (have i_wh := Imp.go wh (by omega))); (try (have i_gkl := Imp.go gkl (by omega))); (try (have i_gjl := Imp.go gjl (by omega))); omega))) (by first | exact om_9592d9319ffa hn hz93 | first | omega | ((try (have i_gjl := Imp.go gjl (by omega))); (try (have i_gkl := Imp.go gkl (by omega))); (try (have i_wh := Imp.go wh (by omega))); (try (have i_coc := Imp.go coc (by omega))); first | omega | ((try (have i_coc := Imp.go coc (by omega))); (try (have i_wh := Imp.go wh (by omega))); (try (have i_gkl := Imp.go gkl (by omega))); (try (have i_gjl := Imp.go gjl (by omega))); omega))) hP hD hS (lv_sub hl [0, 2, 1, 5, 6, 7, 8, 9, 10, 11] rfl)
            · skip
              have f97 : z31.toInt = 0 := b_eq rfl (by decide) c35
              refine lv_goto (tgt := 165) hx hb dX0_candidates_111 (by decide) ?_
              obtain ⟨z98, ez98⟩ : ∃ y : Int32, y = y10 + 1 := ⟨_, rfl⟩
              have hz98 : z98.toInt = y10.toInt + 1 := i_add ez98 rfl (by decide) (by (first | exact om_2bedb82363d1 r1.2 r2 f17 kk9 | omega))
              refine lv_iinc (v := z98) (lv' := [(9, .int z98), (11, .int 1), (10, .ref (ad (72 + (24 * b + (Int32.toNatClampNeg y10))))), (8, .int y11), (7, .int y12), (6, .int (V 59 (8 * (24 * b + (Int32.toNatClampNeg p0)) + (Int32.toNatClampNeg p1)))), (5, .int (V 58 (8 * (24 * b + (Int32.toNatClampNeg p0)) + (Int32.toNatClampNeg p1)))), (4, .int (V 60 (8 * (24 * b + (Int32.toNatClampNeg p0)) + (Int32.toNatClampNeg p1)))), (3, .ref (ad (72 + (24 * b + (Int32.toNatClampNeg p0))))), (0, .ref (ad (38 + b))), (1, .int p0), (2, .int p1)]) hx hb dX0_candidates_165 hl (k := 2) rfl (by rw [ez98]; rfl) (by decide) rfl (fun ls hl => ?_)
              refine lv_goto (tgt := 40) hx hb dX0_candidates_168 (by decide) ?_
              have r99 : Int32.toInt 1 = 1 := by decide
              have su100 : suP gs.1 (svc V b (gs.2.1 1).length) (gs.1 (300 + 32 * gk + 4 * gj)) (gs.1 (302 + 32 * gk + 4 * gj)) (Int32.toNatClampNeg y10) = false := (suP_3 (t34.resolve_left (fun h9 => by have h8 := h9.1; omega)).2)
              have em9 : z98.toInt.toNat = (Int32.toNatClampNeg y10) + 1 := by (first | exact om_a1185fbb59ea kk9 kc18 hz98 | omega)
              have eo9 : y10.toInt.toNat = (Int32.toNatClampNeg y10) := rfl
              have b9 := xlp13_1
              rw [eo9] at b9
              have su101 : suP gs.1 (svc V b (gs.2.1 1).length) (gs.1 (300 + 32 * gk + 4 * gj)) (gs.1 (302 + 32 * gk + 4 * gj)) (Int32.toNatClampNeg y10) = false := (suP_3 (t34.resolve_left (fun h9 => by have h8 := h9.1; omega)).2)
              have em9 : z98.toInt.toNat = (Int32.toNatClampNeg y10) + 1 := by (first | exact om_26701d63f2fa em9 | omega)
              have eo9 : y10.toInt.toNat = (Int32.toNatClampNeg y10) := rfl
              have b9 := xlp13_1
              rw [eo9] at b9
              exact ihlp13 z98 y11 y12 H locs ls (by first | exact om_9500b6342cf6 r1.2 r2 f17 kk9 hz98 | first | omega | ((try (have i_gjl := Imp.go gjl (by omega))); (try (have i_gkl := Imp.go gkl (by omega))); (try (have i_wh := Imp.go wh (by omega))); (try (have i_coc := Imp.go coc (by omega))); first | omega | ((try (have i_coc := Imp.go coc (by omega))); (try (have i_wh := Imp.go wh (by omega))); (try (have i_gkl := Imp.go gkl (by omega))); (try (have i_gjl := Imp.go gjl (by omega))); omega))) (by first | exact om_c51a6401fccc klp13_1.1 klp13_1.2 | first | omega | ((try (have i_gjl := Imp.go gjl (by omega))); (try (have i_gkl := Imp.go gkl (by omega))); (try (have i_wh := Imp.go wh (by omega))); (try (have i_coc := Imp.go coc (by omega))); first | omega | ((try (have i_coc := Imp.go coc (by omega))); (try (have i_wh := Imp.go wh (by omega))); (try (have i_gkl := Imp.go gkl (by omega))); (try (have i_gjl := Imp.go gjl (by omega))); omega))) (by rw [em9]; exact FND.no (by have h9 := xlp13_0; rw [eo9] at h9; exact h9) su100) (fun h7 => by rw [em9]; exact (by have h8 := b9 h7; rw [bsP_n su101]; omega)) (show z98.toInt ≤ (((gs.2.1 2).length : Nat) : Int) from by first | exact om_bcda7a344117 ln f17 hz98 | first | omega | ((try (have i_gjl := Imp.go gjl (by omega))); (try (have i_gkl := Imp.go gkl (by omega))); (try (have i_wh := Imp.go wh (by omega))); (try (have i_coc := Imp.go coc (by omega))); first | omega | ((try (have i_coc := Imp.go coc (by omega))); (try (have i_wh := Imp.go wh (by omega))); (try (have i_gkl := Imp.go gkl (by omega))); (try (have i_gjl := Imp.go gjl (by omega))); omega))) (by first | exact om_9592d9319ffa hn hz98 | first | omega | ((try (have i_gjl := Imp.go gjl (by omega))); (try (have i_gkl := Imp.go gkl (by omega))); (try (have i_wh := Imp.go wh (by omega))); (try (have i_coc := Imp.go coc (by omega))); first | omega | ((try (have i_coc := Imp.go coc (by omega))); (try (have i_wh := Imp.go wh (by omega))); (try (have i_gkl := Imp.go gkl (by omega))); (try (have i_gjl := Imp.go gjl (by omega))); omega))) hP hD hS (lv_sub hl [0, 3, 4, 5, 6, 7, 8, 9, 10, 11] rfl)
        · skip
          have f102 : ((V 59 (8 * (24 * b + (Int32.toNatClampNeg p0)) + (Int32.toNatClampNeg p1)))).toInt ≠ (-1) := b_neq rfl (by decide) c20
          refine lv_aload hx hb dX0_candidates_67 (lv_at hl 0 rfl) ?_
          refine va_getN (D := D) (ci := 3) (v := .int (V 52 (24 * b + (Int32.toNatClampNeg y10)))) (fs := (xfComp ad V (24 * b + (Int32.toNatClampNeg y10)))) (C := RX3) (T := TX3) (N := 13) hx hb hg inX3 hown hK hP (72 + (24 * b + (Int32.toNatClampNeg y10))) (xgComp il19) rfl 7 (by decide) (hnw.use 525 n525 rfl) (fun _ h9 => h9) rfl dX0_candidates_69 ?_
          refine lv_iload hx hb dX0_candidates_72 (lv_at hl 4 rfl) ?_
          refine lv_icmp_ne (tgt := 81) hx hb dX0_candidates_74 (by decide) (fun c103 => ?_) (fun c103 => ?_)
          · skip
            have f104 : ((V 52 (24 * b + (Int32.toNatClampNeg y10)))).toInt ≠ ((V 59 (8 * (24 * b + (Int32.toNatClampNeg p0)) + (Int32.toNatClampNeg p1)))).toInt := b_neq rfl rfl c103
            refine lv_iconst (v := 0) hx hb dX0_candidates_81 (by decide) ?_
            refine lv_istore (lv' := [(11, .int 0), (10, .ref (ad (72 + (24 * b + (Int32.toNatClampNeg y10))))), (9, .int y10), (8, .int y11), (7, .int y12), (6, .int (V 59 (8 * (24 * b + (Int32.toNatClampNeg p0)) + (Int32.toNatClampNeg p1)))), (5, .int (V 58 (8 * (24 * b + (Int32.toNatClampNeg p0)) + (Int32.toNatClampNeg p1)))), (4, .int (V 60 (8 * (24 * b + (Int32.toNatClampNeg p0)) + (Int32.toNatClampNeg p1)))), (3, .ref (ad (72 + (24 * b + (Int32.toNatClampNeg p0))))), (0, .ref (ad (38 + b))), (1, .int p0), (2, .int p1)]) hx hb dX0_candidates_82 hl (by decide) rfl (fun ls hl => ?_)
            refine lv_aload hx hb dX0_candidates_84 (lv_at hl 1 rfl) ?_
            refine va_getN (D := D) (ci := 3) (v := .int (V 50 (24 * b + (Int32.toNatClampNeg y10)))) (fs := (xfComp ad V (24 * b + (Int32.toNatClampNeg y10)))) (C := RX3) (T := TX3) (N := 13) hx hb hg inX3 hown hK hP (72 + (24 * b + (Int32.toNatClampNeg y10))) (xgComp il19) rfl 5 (by decide) (hnw.use 517 n517 rfl) (fun _ h9 => h9) rfl dX0_candidates_86 ?_
            refine lv_iload hx hb dX0_candidates_89 (lv_at hl 6 rfl) ?_
            refine lv_ishr hx hb dX0_candidates_91 ?_
            refine lv_topi (fun z105 ez105 => ?_)
            refine lv_iconst (v := 1) hx hb dX0_candidates_92 (by decide) ?_
            refine lv_iand hx hb dX0_candidates_93 ?_
            refine lv_topi (fun z106 ez106 => ?_)
            have hz106 : 0 ≤ z106.toInt ∧ z106.toInt ≤ 1 := and_m ez106 (by decide)
            refine lv_if_eq (tgt := 165) hx hb dX0_candidates_94 (by decide) (fun c107 => ?_) (fun c107 => ?_)
            · skip
              have f108 : z106.toInt = 0 := b_eq rfl (by decide) c107
              obtain ⟨z109, ez109⟩ : ∃ y : Int32, y = y10 + 1 := ⟨_, rfl⟩
              have hz109 : z109.toInt = y10.toInt + 1 := i_add ez109 rfl (by decide) (by (first | exact om_2bedb82363d1 r1.2 r2 f17 kk9 | omega))
              refine lv_iinc (v := z109) (lv' := [(9, .int z109), (11, .int 0), (10, .ref (ad (72 + (24 * b + (Int32.toNatClampNeg y10))))), (8, .int y11), (7, .int y12), (6, .int (V 59 (8 * (24 * b + (Int32.toNatClampNeg p0)) + (Int32.toNatClampNeg p1)))), (5, .int (V 58 (8 * (24 * b + (Int32.toNatClampNeg p0)) + (Int32.toNatClampNeg p1)))), (4, .int (V 60 (8 * (24 * b + (Int32.toNatClampNeg p0)) + (Int32.toNatClampNeg p1)))), (3, .ref (ad (72 + (24 * b + (Int32.toNatClampNeg p0))))), (0, .ref (ad (38 + b))), (1, .int p0), (2, .int p1)]) hx hb dX0_candidates_165 hl (k := 2) rfl (by rw [ez109]; rfl) (by decide) rfl (fun ls hl => ?_)
              refine lv_goto (tgt := 40) hx hb dX0_candidates_168 (by decide) ?_
              have r110 : Int32.toInt 0 = 0 := by decide
              have su111 : suP gs.1 (svc V b (gs.2.1 1).length) (gs.1 (300 + 32 * gk + 4 * gj)) (gs.1 (302 + 32 * gk + 4 * gj)) (Int32.toNatClampNeg y10) = false := (suP_1 ((h50 (gs.1 (300 + 32 * gk + 4 * gj)) (by omega)).symm.trans ((lb_get (x := V 50 (24 * b + (Int32.toNatClampNeg y10))) (f := (gs.1 (300 + 32 * gk + 4 * gj))) ez105 ez106 (show ((V 58 (8 * (24 * b + (Int32.toNatClampNeg p0)) + (Int32.toNatClampNeg p1)))).toInt = (((gs.1 (300 + 32 * gk + 4 * gj)) : Nat) : Int) from by omega) (by omega)).mp (by omega))))
              have em9 : z109.toInt.toNat = (Int32.toNatClampNeg y10) + 1 := by (first | exact om_a1185fbb59ea kk9 kc18 hz109 | omega)
              have eo9 : y10.toInt.toNat = (Int32.toNatClampNeg y10) := rfl
              have b9 := xlp13_1
              rw [eo9] at b9
              have su112 : suP gs.1 (svc V b (gs.2.1 1).length) (gs.1 (300 + 32 * gk + 4 * gj)) (gs.1 (302 + 32 * gk + 4 * gj)) (Int32.toNatClampNeg y10) = false := (suP_1 ((h50 (gs.1 (300 + 32 * gk + 4 * gj)) (by omega)).symm.trans ((lb_get (x := V 50 (24 * b + (Int32.toNatClampNeg y10))) (f := (gs.1 (300 + 32 * gk + 4 * gj))) ez105 ez106 (show ((V 58 (8 * (24 * b + (Int32.toNatClampNeg p0)) + (Int32.toNatClampNeg p1)))).toInt = (((gs.1 (300 + 32 * gk + 4 * gj)) : Nat) : Int) from by omega) (by omega)).mp (by omega))))
              have em9 : z109.toInt.toNat = (Int32.toNatClampNeg y10) + 1 := by (first | exact om_26701d63f2fa em9 | omega)
              have eo9 : y10.toInt.toNat = (Int32.toNatClampNeg y10) := rfl
              have b9 := xlp13_1
              rw [eo9] at b9
              exact ihlp13 z109 y11 y12 H locs ls (by first | exact om_9500b6342cf6 r1.2 r2 f17 kk9 hz109 | first | omega | ((try (have i_gjl := Imp.go gjl (by omega))); (try (have i_gkl := Imp.go gkl (by omega))); (try (have i_wh := Imp.go wh (by omega))); (try (have i_coc := Imp.go coc (by omega))); first | omega | ((try (have i_coc := Imp.go coc (by omega))); (try (have i_wh := Imp.go wh (by omega))); (try (have i_gkl := Imp.go gkl (by omega))); (try (have i_gjl := Imp.go gjl (by omega))); omega))) (by first | exact om_c51a6401fccc klp13_1.1 klp13_1.2 | first | omega | ((try (have i_gjl := Imp.go gjl (by omega))); (try (have i_gkl := Imp.go gkl (by omega))); (try (have i_wh := Imp.go wh (by omega))); (try (have i_coc := Imp.go coc (by omega))); first | omega | ((try (have i_coc := Imp.go coc (by omega))); (try (have i_wh := Imp.go wh (by omega))); (try (have i_gkl := Imp.go gkl (by omega))); (try (have i_gjl := Imp.go gjl (by omega))); omega))) (by rw [em9]; exact FND.no (by have h9 := xlp13_0; rw [eo9] at h9; exact h9) su111) (fun h7 => by rw [em9]; exact (by have h8 := b9 h7; rw [bsP_n su112]; omega)) (show z109.toInt ≤ (((gs.2.1 2).length : Nat) : Int) from by first | exact om_bcda7a344117 ln f17 hz109 | first | omega | ((try (have i_gjl := Imp.go gjl (by omega))); (try (have i_gkl := Imp.go gkl (by omega))); (try (have i_wh := Imp.go wh (by omega))); (try (have i_coc := Imp.go coc (by omega))); first | omega | ((try (have i_coc := Imp.go coc (by omega))); (try (have i_wh := Imp.go wh (by omega))); (try (have i_gkl := Imp.go gkl (by omega))); (try (have i_gjl := Imp.go gjl (by omega))); omega))) (by first | exact om_9592d9319ffa hn hz109 | first | omega | ((try (have i_gjl := Imp.go gjl (by omega))); (try (have i_gkl := Imp.go gkl (by omega))); (try (have i_wh := Imp.go wh (by omega))); (try (have i_coc := Imp.go coc (by omega))); first | omega | ((try (have i_coc := Imp.go coc (by omega))); (try (have i_wh := Imp.go wh (by omega))); (try (have i_gkl := Imp.go gkl (by omega))); (try (have i_gjl := Imp.go gjl (by omega))); omega))) hP hD hS (lv_sub hl [0, 3, 4, 5, 6, 7, 8, 9, 10, 11] rfl)
            · skip
              have f113 : z106.toInt ≠ 0 := b_neq rfl (by decide) c107
              refine lv_iload hx hb dX0_candidates_97 (lv_at hl 0 rfl) ?_
              refine lv_if_eq (tgt := 165) hx hb dX0_candidates_99 (by decide) (fun _ => ?_) (fun q => absurd (by decide) q)
              obtain ⟨z114, ez114⟩ : ∃ y : Int32, y = y10 + 1 := ⟨_, rfl⟩
              have hz114 : z114.toInt = y10.toInt + 1 := i_add ez114 rfl (by decide) (by (first | exact om_2bedb82363d1 r1.2 r2 f17 kk9 | omega))
              refine lv_iinc (v := z114) (lv' := [(9, .int z114), (11, .int 0), (10, .ref (ad (72 + (24 * b + (Int32.toNatClampNeg y10))))), (8, .int y11), (7, .int y12), (6, .int (V 59 (8 * (24 * b + (Int32.toNatClampNeg p0)) + (Int32.toNatClampNeg p1)))), (5, .int (V 58 (8 * (24 * b + (Int32.toNatClampNeg p0)) + (Int32.toNatClampNeg p1)))), (4, .int (V 60 (8 * (24 * b + (Int32.toNatClampNeg p0)) + (Int32.toNatClampNeg p1)))), (3, .ref (ad (72 + (24 * b + (Int32.toNatClampNeg p0))))), (0, .ref (ad (38 + b))), (1, .int p0), (2, .int p1)]) hx hb dX0_candidates_165 hl (k := 2) rfl (by rw [ez114]; rfl) (by decide) rfl (fun ls hl => ?_)
              refine lv_goto (tgt := 40) hx hb dX0_candidates_168 (by decide) ?_
              have r115 : Int32.toInt 0 = 0 := by decide
              have su116 : suP gs.1 (svc V b (gs.2.1 1).length) (gs.1 (300 + 32 * gk + 4 * gj)) (gs.1 (302 + 32 * gk + 4 * gj)) (Int32.toNatClampNeg y10) = false := (suP_2 (by omega) (by omega))
              have em9 : z114.toInt.toNat = (Int32.toNatClampNeg y10) + 1 := by (first | exact om_a1185fbb59ea kk9 kc18 hz114 | omega)
              have eo9 : y10.toInt.toNat = (Int32.toNatClampNeg y10) := rfl
              have b9 := xlp13_1
              rw [eo9] at b9
              have su117 : suP gs.1 (svc V b (gs.2.1 1).length) (gs.1 (300 + 32 * gk + 4 * gj)) (gs.1 (302 + 32 * gk + 4 * gj)) (Int32.toNatClampNeg y10) = false := (suP_2 (by omega) (by omega))
              have em9 : z114.toInt.toNat = (Int32.toNatClampNeg y10) + 1 := by (first | exact om_26701d63f2fa em9 | omega)
              have eo9 : y10.toInt.toNat = (Int32.toNatClampNeg y10) := rfl
              have b9 := xlp13_1
              rw [eo9] at b9
              exact ihlp13 z114 y11 y12 H locs ls (by first | exact om_9500b6342cf6 r1.2 r2 f17 kk9 hz114 | first | omega | ((try (have i_gjl := Imp.go gjl (by omega))); (try (have i_gkl := Imp.go gkl (by omega))); (try (have i_wh := Imp.go wh (by omega))); (try (have i_coc := Imp.go coc (by omega))); first | omega | ((try (have i_coc := Imp.go coc (by omega))); (try (have i_wh := Imp.go wh (by omega))); (try (have i_gkl := Imp.go gkl (by omega))); (try (have i_gjl := Imp.go gjl (by omega))); omega))) (by first | exact om_c51a6401fccc klp13_1.1 klp13_1.2 | first | omega | ((try (have i_gjl := Imp.go gjl (by omega))); (try (have i_gkl := Imp.go gkl (by omega))); (try (have i_wh := Imp.go wh (by omega))); (try (have i_coc := Imp.go coc (by omega))); first | omega | ((try (have i_coc := Imp.go coc (by omega))); (try (have i_wh := Imp.go wh (by omega))); (try (have i_gkl := Imp.go gkl (by omega))); (try (have i_gjl := Imp.go gjl (by omega))); omega))) (by rw [em9]; exact FND.no (by have h9 := xlp13_0; rw [eo9] at h9; exact h9) su116) (fun h7 => by rw [em9]; exact (by have h8 := b9 h7; rw [bsP_n su117]; omega)) (show z114.toInt ≤ (((gs.2.1 2).length : Nat) : Int) from by first | exact om_bcda7a344117 ln f17 hz114 | first | omega | ((try (have i_gjl := Imp.go gjl (by omega))); (try (have i_gkl := Imp.go gkl (by omega))); (try (have i_wh := Imp.go wh (by omega))); (try (have i_coc := Imp.go coc (by omega))); first | omega | ((try (have i_coc := Imp.go coc (by omega))); (try (have i_wh := Imp.go wh (by omega))); (try (have i_gkl := Imp.go gkl (by omega))); (try (have i_gjl := Imp.go gjl (by omega))); omega))) (by first | exact om_9592d9319ffa hn hz114 | first | omega | ((try (have i_gjl := Imp.go gjl (by omega))); (try (have i_gkl := Imp.go gkl (by omega))); (try (have i_wh := Imp.go wh (by omega))); (try (have i_coc := Imp.go coc (by omega))); first | omega | ((try (have i_coc := Imp.go coc (by omega))); (try (have i_wh := Imp.go wh (by omega))); (try (have i_gkl := Imp.go gkl (by omega))); (try (have i_gjl := Imp.go gjl (by omega))); omega))) hP hD hS (lv_sub hl [0, 3, 4, 5, 6, 7, 8, 9, 10, 11] rfl)
          · skip
            have f118 : ((V 52 (24 * b + (Int32.toNatClampNeg y10)))).toInt = ((V 59 (8 * (24 * b + (Int32.toNatClampNeg p0)) + (Int32.toNatClampNeg p1)))).toInt := b_eq rfl rfl c103
            refine lv_iconst (v := 1) hx hb dX0_candidates_77 (by decide) ?_
            refine lv_goto (tgt := 82) hx hb dX0_candidates_78 (by decide) ?_
            refine lv_istore (lv' := [(11, .int 1), (10, .ref (ad (72 + (24 * b + (Int32.toNatClampNeg y10))))), (9, .int y10), (8, .int y11), (7, .int y12), (6, .int (V 59 (8 * (24 * b + (Int32.toNatClampNeg p0)) + (Int32.toNatClampNeg p1)))), (5, .int (V 58 (8 * (24 * b + (Int32.toNatClampNeg p0)) + (Int32.toNatClampNeg p1)))), (4, .int (V 60 (8 * (24 * b + (Int32.toNatClampNeg p0)) + (Int32.toNatClampNeg p1)))), (3, .ref (ad (72 + (24 * b + (Int32.toNatClampNeg p0))))), (0, .ref (ad (38 + b))), (1, .int p0), (2, .int p1)]) hx hb dX0_candidates_82 hl (by decide) rfl (fun ls hl => ?_)
            refine lv_aload hx hb dX0_candidates_84 (lv_at hl 1 rfl) ?_
            refine va_getN (D := D) (ci := 3) (v := .int (V 50 (24 * b + (Int32.toNatClampNeg y10)))) (fs := (xfComp ad V (24 * b + (Int32.toNatClampNeg y10)))) (C := RX3) (T := TX3) (N := 13) hx hb hg inX3 hown hK hP (72 + (24 * b + (Int32.toNatClampNeg y10))) (xgComp il19) rfl 5 (by decide) (hnw.use 517 n517 rfl) (fun _ h9 => h9) rfl dX0_candidates_86 ?_
            refine lv_iload hx hb dX0_candidates_89 (lv_at hl 6 rfl) ?_
            refine lv_ishr hx hb dX0_candidates_91 ?_
            refine lv_topi (fun z119 ez119 => ?_)
            refine lv_iconst (v := 1) hx hb dX0_candidates_92 (by decide) ?_
            refine lv_iand hx hb dX0_candidates_93 ?_
            refine lv_topi (fun z120 ez120 => ?_)
            have hz120 : 0 ≤ z120.toInt ∧ z120.toInt ≤ 1 := and_m ez120 (by decide)
            refine lv_if_eq (tgt := 165) hx hb dX0_candidates_94 (by decide) (fun c121 => ?_) (fun c121 => ?_)
            · skip
              have f122 : z120.toInt = 0 := b_eq rfl (by decide) c121
              obtain ⟨z123, ez123⟩ : ∃ y : Int32, y = y10 + 1 := ⟨_, rfl⟩
              have hz123 : z123.toInt = y10.toInt + 1 := i_add ez123 rfl (by decide) (by (first | exact om_2bedb82363d1 r1.2 r2 f17 kk9 | omega))
              refine lv_iinc (v := z123) (lv' := [(9, .int z123), (11, .int 1), (10, .ref (ad (72 + (24 * b + (Int32.toNatClampNeg y10))))), (8, .int y11), (7, .int y12), (6, .int (V 59 (8 * (24 * b + (Int32.toNatClampNeg p0)) + (Int32.toNatClampNeg p1)))), (5, .int (V 58 (8 * (24 * b + (Int32.toNatClampNeg p0)) + (Int32.toNatClampNeg p1)))), (4, .int (V 60 (8 * (24 * b + (Int32.toNatClampNeg p0)) + (Int32.toNatClampNeg p1)))), (3, .ref (ad (72 + (24 * b + (Int32.toNatClampNeg p0))))), (0, .ref (ad (38 + b))), (1, .int p0), (2, .int p1)]) hx hb dX0_candidates_165 hl (k := 2) rfl (by rw [ez123]; rfl) (by decide) rfl (fun ls hl => ?_)
              refine lv_goto (tgt := 40) hx hb dX0_candidates_168 (by decide) ?_
              have r124 : Int32.toInt 1 = 1 := by decide
              have su125 : suP gs.1 (svc V b (gs.2.1 1).length) (gs.1 (300 + 32 * gk + 4 * gj)) (gs.1 (302 + 32 * gk + 4 * gj)) (Int32.toNatClampNeg y10) = false := (suP_1 ((h50 (gs.1 (300 + 32 * gk + 4 * gj)) (by omega)).symm.trans ((lb_get (x := V 50 (24 * b + (Int32.toNatClampNeg y10))) (f := (gs.1 (300 + 32 * gk + 4 * gj))) ez119 ez120 (show ((V 58 (8 * (24 * b + (Int32.toNatClampNeg p0)) + (Int32.toNatClampNeg p1)))).toInt = (((gs.1 (300 + 32 * gk + 4 * gj)) : Nat) : Int) from by omega) (by omega)).mp (by omega))))
              have em9 : z123.toInt.toNat = (Int32.toNatClampNeg y10) + 1 := by (first | exact om_a1185fbb59ea kk9 kc18 hz123 | omega)
              have eo9 : y10.toInt.toNat = (Int32.toNatClampNeg y10) := rfl
              have b9 := xlp13_1
              rw [eo9] at b9
              have su126 : suP gs.1 (svc V b (gs.2.1 1).length) (gs.1 (300 + 32 * gk + 4 * gj)) (gs.1 (302 + 32 * gk + 4 * gj)) (Int32.toNatClampNeg y10) = false := (suP_1 ((h50 (gs.1 (300 + 32 * gk + 4 * gj)) (by omega)).symm.trans ((lb_get (x := V 50 (24 * b + (Int32.toNatClampNeg y10))) (f := (gs.1 (300 + 32 * gk + 4 * gj))) ez119 ez120 (show ((V 58 (8 * (24 * b + (Int32.toNatClampNeg p0)) + (Int32.toNatClampNeg p1)))).toInt = (((gs.1 (300 + 32 * gk + 4 * gj)) : Nat) : Int) from by omega) (by omega)).mp (by omega))))
              have em9 : z123.toInt.toNat = (Int32.toNatClampNeg y10) + 1 := by (first | exact om_26701d63f2fa em9 | omega)
              have eo9 : y10.toInt.toNat = (Int32.toNatClampNeg y10) := rfl
              have b9 := xlp13_1
              rw [eo9] at b9
              exact ihlp13 z123 y11 y12 H locs ls (by first | exact om_9500b6342cf6 r1.2 r2 f17 kk9 hz123 | first | omega | ((try (have i_gjl := Imp.go gjl (by omega))); (try (have i_gkl := Imp.go gkl (by omega))); (try (have i_wh := Imp.go wh (by omega))); (try (have i_coc := Imp.go coc (by omega))); first | omega | ((try (have i_coc := Imp.go coc (by omega))); (try (have i_wh := Imp.go wh (by omega))); (try (have i_gkl := Imp.go gkl (by omega))); (try (have i_gjl := Imp.go gjl (by omega))); omega))) (by first | exact om_c51a6401fccc klp13_1.1 klp13_1.2 | first | omega | ((try (have i_gjl := Imp.go gjl (by omega))); (try (have i_gkl := Imp.go gkl (by omega))); (try (have i_wh := Imp.go wh (by omega))); (try (have i_coc := Imp.go coc (by omega))); first | omega | ((try (have i_coc := Imp.go coc (by omega))); (try (have i_wh := Imp.go wh (by omega))); (try (have i_gkl := Imp.go gkl (by omega))); (try (have i_gjl := Imp.go gjl (by omega))); omega))) (by rw [em9]; exact FND.no (by have h9 := xlp13_0; rw [eo9] at h9; exact h9) su125) (fun h7 => by rw [em9]; exact (by have h8 := b9 h7; rw [bsP_n su126]; omega)) (show z123.toInt ≤ (((gs.2.1 2).length : Nat) : Int) from by first | exact om_bcda7a344117 ln f17 hz123 | first | omega | ((try (have i_gjl := Imp.go gjl (by omega))); (try (have i_gkl := Imp.go gkl (by omega))); (try (have i_wh := Imp.go wh (by omega))); (try (have i_coc := Imp.go coc (by omega))); first | omega | ((try (have i_coc := Imp.go coc (by omega))); (try (have i_wh := Imp.go wh (by omega))); (try (have i_gkl := Imp.go gkl (by omega))); (try (have i_gjl := Imp.go gjl (by omega))); omega))) (by first | exact om_9592d9319ffa hn hz123 | first | omega | ((try (have i_gjl := Imp.go gjl (by omega))); (try (have i_gkl := Imp.go gkl (by omega))); (try (have i_wh := Imp.go wh (by omega))); (try (have i_coc := Imp.go coc (by omega))); first | omega | ((try (have i_coc := Imp.go coc (by omega))); (try (have i_wh := Imp.go wh (by omega))); (try (have i_gkl := Imp.go gkl (by omega))); (try (have i_gjl := Imp.go gjl (by omega))); omega))) hP hD hS (lv_sub hl [0, 3, 4, 5, 6, 7, 8, 9, 10, 11] rfl)
            · skip
              have f127 : z120.toInt ≠ 0 := b_neq rfl (by decide) c121
              refine lv_iload hx hb dX0_candidates_97 (lv_at hl 0 rfl) ?_
              refine lv_if_eq (tgt := 165) hx hb dX0_candidates_99 (by decide) (fun q => absurd q (by decide)) (fun _ => ?_)
              have wk9 := wh (Int32.toNatClampNeg y10) (by omega)
              refine lv_aload_n hx hb dX0_candidates_102 rfl (lv_at hl 9 rfl) ?_
              refine lv_iload hx hb dX0_candidates_103 (lv_at hl 2 rfl) ?_
              refine gA_int (gA_runV (As := [.int y10]) (rest := []) (ci := 0) (q0 := (38 + b)) hx hb hml hown hg hP hD hK hS hA hnw hgk (x_isThere5 l D ks H.size ad kk V L Z y10 (b) (gs) ((Int32.toNatClampNeg y10)) hMV (by first | exact om_c40dd4f8ab88 r1.2 r2 f17 kk9 | first | omega | ((try (have i_gjl := Imp.go gjl (by omega))); (try (have i_gkl := Imp.go gkl (by omega))); (try (have i_wh := Imp.go wh (by omega))); (try (have i_coc := Imp.go coc (by omega))); first | omega | ((try (have i_coc := Imp.go coc (by omega))); (try (have i_wh := Imp.go wh (by omega))); (try (have i_gkl := Imp.go gkl (by omega))); (try (have i_gjl := Imp.go gjl (by omega))); omega))) (show b < 2 from by first | exact om_f940a4667dd6 hb2 | first | omega | ((try (have i_gjl := Imp.go gjl (by omega))); (try (have i_gkl := Imp.go gkl (by omega))); (try (have i_wh := Imp.go wh (by omega))); (try (have i_coc := Imp.go coc (by omega))); first | omega | ((try (have i_coc := Imp.go coc (by omega))); (try (have i_wh := Imp.go wh (by omega))); (try (have i_gkl := Imp.go gkl (by omega))); (try (have i_gjl := Imp.go gjl (by omega))); omega))) (show y10.toInt = ((Int32.toNatClampNeg y10) : Int) from by first | exact om_dadc9969542e kc18 | first | omega | ((try (have i_gjl := Imp.go gjl (by omega))); (try (have i_gkl := Imp.go gkl (by omega))); (try (have i_wh := Imp.go wh (by omega))); (try (have i_coc := Imp.go coc (by omega))); first | omega | ((try (have i_coc := Imp.go coc (by omega))); (try (have i_wh := Imp.go wh (by omega))); (try (have i_gkl := Imp.go gkl (by omega))); (try (have i_gjl := Imp.go gjl (by omega))); omega))) (coc (Int32.toNatClampNeg y10) (by omega)) (show gs.1 (64 + 8 * (Int32.toNatClampNeg y10)) ≤ (gs.2.1 1).length from by first | omega | ((try (have i_gjl := Imp.go gjl (by omega))); (try (have i_gkl := Imp.go gkl (by omega))); (try (have i_wh := Imp.go wh (by omega))); (try (have i_coc := Imp.go coc (by omega))); first | omega | ((try (have i_coc := Imp.go coc (by omega))); (try (have i_wh := Imp.go wh (by omega))); (try (have i_gkl := Imp.go gkl (by omega))); (try (have i_gjl := Imp.go gjl (by omega))); omega)))) w1085 w1070 w1071 w167 w1072 rfl (xgBook hb2) hdV_yX0_isThere ⟨Nat.le_of_ble_eq_true rfl, Nat.le_of_ble_eq_true rfl⟩ rfl hl.1 rfl (Nat.le_of_ble_eq_true rfl) dX0_candidates_105 ⟨Nat.le_of_ble_eq_true rfl, Nat.le_of_ble_eq_true rfl⟩) hP hD hK hS hA (fun z128 u129 H locs w130 hP hD hK hS => ?_)
              obtain ⟨rgz128, t131⟩ := w130
              replace rgz128 : 0 ≤ z128.toInt ∧ z128.toInt ≤ 1 := rgz128
              replace t131 : (z128.toInt = 1 ∧ thP gs.1 (svc V b (gs.2.1 1).length) (Int32.toNatClampNeg y10) = true) ∨ (z128.toInt = 0 ∧ thP gs.1 (svc V b (gs.2.1 1).length) (Int32.toNatClampNeg y10) = false) := t131
              refine lv_if_ne (tgt := 114) hx hb dX0_candidates_108 (by decide) (fun c132 => ?_) (fun c132 => ?_)
              · skip
                have f133 : z128.toInt ≠ 0 := b_neq rfl (by decide) c132
                refine lv_iload hx hb dX0_candidates_114 (lv_at hl 7 rfl) ?_
                refine lv_iconst (v := 2) hx hb dX0_candidates_116 (by decide) ?_
                refine lv_icmp_eq (tgt := 140) hx hb dX0_candidates_117 (by decide) (fun c134 => ?_) (fun c134 => ?_)
                · skip
                  have f135 : ((V 60 (8 * (24 * b + (Int32.toNatClampNeg p0)) + (Int32.toNatClampNeg p1)))).toInt = 2 := b_eq rfl (by decide) c134
                  refine lv_iload hx hb dX0_candidates_140 (lv_at hl 7 rfl) ?_
                  refine lv_iconst (v := 2) hx hb dX0_candidates_142 (by decide) ?_
                  refine lv_icmp_eq (tgt := 156) hx hb dX0_candidates_143 (by decide) (fun c136 => ?_) (fun c136 => ?_)
                  · skip
                    have f137 : ((V 60 (8 * (24 * b + (Int32.toNatClampNeg p0)) + (Int32.toNatClampNeg p1)))).toInt = 2 := b_eq rfl (by decide) c136
                    refine lv_iload hx hb dX0_candidates_156 (lv_at hl 4 rfl) ?_
                    refine lv_iconst (v := 1) hx hb dX0_candidates_158 (by decide) ?_
                    refine lv_iload hx hb dX0_candidates_159 (lv_at hl 2 rfl) ?_
                    refine lv_ishl hx hb dX0_candidates_161 ?_
                    refine lv_topi (fun z138 ez138 => ?_)
                    have hz138 : 0 ≤ z138.toInt ∧ z138.toInt < 16777216 := shl1 ez138 (by first | omega | ((try (have i_gjl := Imp.go gjl (by omega))); (try (have i_gkl := Imp.go gkl (by omega))); (try (have i_wh := Imp.go wh (by omega))); (try (have i_coc := Imp.go coc (by omega))); first | omega | ((try (have i_coc := Imp.go coc (by omega))); (try (have i_wh := Imp.go wh (by omega))); (try (have i_gkl := Imp.go gkl (by omega))); (try (have i_gjl := Imp.go gjl (by omega))); omega)))
                    refine lv_ior hx hb dX0_candidates_162 ?_
                    refine lv_topi (fun z139 ez139 => ?_)
                    have hz139 : 0 ≤ z139.toInt ∧ z139.toInt < 16777216 := or24 ez139 (by first | omega | ((try (have i_gjl := Imp.go gjl (by omega))); (try (have i_gkl := Imp.go gkl (by omega))); (try (have i_wh := Imp.go wh (by omega))); (try (have i_coc := Imp.go coc (by omega))); first | omega | ((try (have i_coc := Imp.go coc (by omega))); (try (have i_wh := Imp.go wh (by omega))); (try (have i_gkl := Imp.go gkl (by omega))); (try (have i_gjl := Imp.go gjl (by omega))); omega))) (by first | omega | ((try (have i_gjl := Imp.go gjl (by omega))); (try (have i_gkl := Imp.go gkl (by omega))); (try (have i_wh := Imp.go wh (by omega))); (try (have i_coc := Imp.go coc (by omega))); first | omega | ((try (have i_coc := Imp.go coc (by omega))); (try (have i_wh := Imp.go wh (by omega))); (try (have i_gkl := Imp.go gkl (by omega))); (try (have i_gjl := Imp.go gjl (by omega))); omega)))
                    refine lv_istore (lv' := [(7, .int z139), (11, .int 1), (10, .ref (ad (72 + (24 * b + (Int32.toNatClampNeg y10))))), (9, .int y10), (8, .int y11), (6, .int (V 59 (8 * (24 * b + (Int32.toNatClampNeg p0)) + (Int32.toNatClampNeg p1)))), (5, .int (V 58 (8 * (24 * b + (Int32.toNatClampNeg p0)) + (Int32.toNatClampNeg p1)))), (4, .int (V 60 (8 * (24 * b + (Int32.toNatClampNeg p0)) + (Int32.toNatClampNeg p1)))), (3, .ref (ad (72 + (24 * b + (Int32.toNatClampNeg p0))))), (0, .ref (ad (38 + b))), (1, .int p0), (2, .int p1)]) hx hb dX0_candidates_163 hl (by decide) rfl (fun ls hl => ?_)
                    obtain ⟨z140, ez140⟩ : ∃ y : Int32, y = y10 + 1 := ⟨_, rfl⟩
                    have hz140 : z140.toInt = y10.toInt + 1 := i_add ez140 rfl (by decide) (by (first | exact om_2bedb82363d1 r1.2 r2 f17 kk9 | omega))
                    refine lv_iinc (v := z140) (lv' := [(9, .int z140), (7, .int z139), (11, .int 1), (10, .ref (ad (72 + (24 * b + (Int32.toNatClampNeg y10))))), (8, .int y11), (6, .int (V 59 (8 * (24 * b + (Int32.toNatClampNeg p0)) + (Int32.toNatClampNeg p1)))), (5, .int (V 58 (8 * (24 * b + (Int32.toNatClampNeg p0)) + (Int32.toNatClampNeg p1)))), (4, .int (V 60 (8 * (24 * b + (Int32.toNatClampNeg p0)) + (Int32.toNatClampNeg p1)))), (3, .ref (ad (72 + (24 * b + (Int32.toNatClampNeg p0))))), (0, .ref (ad (38 + b))), (1, .int p0), (2, .int p1)]) hx hb dX0_candidates_165 hl (k := 3) rfl (by rw [ez140]; rfl) (by decide) rfl (fun ls hl => ?_)
                    refine lv_goto (tgt := 40) hx hb dX0_candidates_168 (by decide) ?_
                    have r141 : Int32.toInt 1 = 1 := by decide
                    have su142 : suP gs.1 (svc V b (gs.2.1 1).length) (gs.1 (300 + 32 * gk + 4 * gj)) (gs.1 (302 + 32 * gk + 4 * gj)) (Int32.toNatClampNeg y10) = true := (suP_y ((h50 (gs.1 (300 + 32 * gk + 4 * gj)) (by omega)).symm.trans (by cases e9 : bt (V 50 (24 * b + (Int32.toNatClampNeg y10))) (gs.1 (300 + 32 * gk + 4 * gj)); exact absurd ((lb_get (x := V 50 (24 * b + (Int32.toNatClampNeg y10))) (f := (gs.1 (300 + 32 * gk + 4 * gj))) ez119 ez120 (show ((V 58 (8 * (24 * b + (Int32.toNatClampNeg p0)) + (Int32.toNatClampNeg p1)))).toInt = (((gs.1 (300 + 32 * gk + 4 * gj)) : Nat) : Int) from by omega) (by omega)).mpr e9) (by omega); rfl)) (by omega) (t131.resolve_right (fun h9 => by have h8 := h9.1; omega)).2)
                    have em9 : z140.toInt.toNat = (Int32.toNatClampNeg y10) + 1 := by (first | exact om_a1185fbb59ea kk9 kc18 hz140 | omega)
                    have eo9 : y10.toInt.toNat = (Int32.toNatClampNeg y10) := rfl
                    have b9 := xlp13_1
                    rw [eo9] at b9
                    have su143 : suP gs.1 (svc V b (gs.2.1 1).length) (gs.1 (300 + 32 * gk + 4 * gj)) (gs.1 (302 + 32 * gk + 4 * gj)) (Int32.toNatClampNeg y10) = true := (suP_y ((h50 (gs.1 (300 + 32 * gk + 4 * gj)) (by omega)).symm.trans (by cases e9 : bt (V 50 (24 * b + (Int32.toNatClampNeg y10))) (gs.1 (300 + 32 * gk + 4 * gj)); exact absurd ((lb_get (x := V 50 (24 * b + (Int32.toNatClampNeg y10))) (f := (gs.1 (300 + 32 * gk + 4 * gj))) ez119 ez120 (show ((V 58 (8 * (24 * b + (Int32.toNatClampNeg p0)) + (Int32.toNatClampNeg p1)))).toInt = (((gs.1 (300 + 32 * gk + 4 * gj)) : Nat) : Int) from by omega) (by omega)).mpr e9) (by omega); rfl)) (by omega) (t131.resolve_right (fun h9 => by have h8 := h9.1; omega)).2)
                    have em9 : z140.toInt.toNat = (Int32.toNatClampNeg y10) + 1 := by (first | exact om_26701d63f2fa em9 | omega)
                    have eo9 : y10.toInt.toNat = (Int32.toNatClampNeg y10) := rfl
                    have b9 := xlp13_1
                    rw [eo9] at b9
                    exact ihlp13 z140 y11 z139 H locs ls (by first | exact om_9500b6342cf6 r1.2 r2 f17 kk9 hz140 | first | omega | ((try (have i_gjl := Imp.go gjl (by omega))); (try (have i_gkl := Imp.go gkl (by omega))); (try (have i_wh := Imp.go wh (by omega))); (try (have i_coc := Imp.go coc (by omega))); first | omega | ((try (have i_coc := Imp.go coc (by omega))); (try (have i_wh := Imp.go wh (by omega))); (try (have i_gkl := Imp.go gkl (by omega))); (try (have i_gjl := Imp.go gjl (by omega))); omega))) (by first | exact om_8a0dcf576dcd hz139.1 hz139.2 | first | omega | ((try (have i_gjl := Imp.go gjl (by omega))); (try (have i_gkl := Imp.go gkl (by omega))); (try (have i_wh := Imp.go wh (by omega))); (try (have i_coc := Imp.go coc (by omega))); first | omega | ((try (have i_coc := Imp.go coc (by omega))); (try (have i_wh := Imp.go wh (by omega))); (try (have i_gkl := Imp.go gkl (by omega))); (try (have i_gjl := Imp.go gjl (by omega))); omega))) (by rw [em9]; exact FND.eq (by have h9 := xlp13_0; rw [eo9] at h9; exact h9) su142 (Or.inl ⟨by omega, trivial⟩) ez138 ez139 (show y10.toInt = (((Int32.toNatClampNeg y10) : Nat) : Int) from by (first | exact om_dadc9969542e kc18 | omega)) (by omega)) (fun h7 => by rw [em9]; exact (by exfalso; omega)) (show z140.toInt ≤ (((gs.2.1 2).length : Nat) : Int) from by first | exact om_bcda7a344117 ln f17 hz140 | first | omega | ((try (have i_gjl := Imp.go gjl (by omega))); (try (have i_gkl := Imp.go gkl (by omega))); (try (have i_wh := Imp.go wh (by omega))); (try (have i_coc := Imp.go coc (by omega))); first | omega | ((try (have i_coc := Imp.go coc (by omega))); (try (have i_wh := Imp.go wh (by omega))); (try (have i_gkl := Imp.go gkl (by omega))); (try (have i_gjl := Imp.go gjl (by omega))); omega))) (by first | exact om_9592d9319ffa hn hz140 | first | omega | ((try (have i_gjl := Imp.go gjl (by omega))); (try (have i_gkl := Imp.go gkl (by omega))); (try (have i_wh := Imp.go wh (by omega))); (try (have i_coc := Imp.go coc (by omega))); first | omega | ((try (have i_coc := Imp.go coc (by omega))); (try (have i_wh := Imp.go wh (by omega))); (try (have i_gkl := Imp.go gkl (by omega))); (try (have i_gjl := Imp.go gjl (by omega))); omega))) hP hD hS (lv_sub hl [0, 4, 1, 5, 6, 7, 8, 9, 10, 11] rfl)
                  · skip
                    have f144 : ((V 60 (8 * (24 * b + (Int32.toNatClampNeg p0)) + (Int32.toNatClampNeg p1)))).toInt ≠ 2 := b_neq rfl (by decide) c136
                    exfalso; first | exact om_da4eef675bfb f135 f144 | first | omega | ((try (have i_gjl := Imp.go gjl (by omega))); (try (have i_gkl := Imp.go gkl (by omega))); (try (have i_wh := Imp.go wh (by omega))); (try (have i_coc := Imp.go coc (by omega))); first | omega | ((try (have i_coc := Imp.go coc (by omega))); (try (have i_wh := Imp.go wh (by omega))); (try (have i_gkl := Imp.go gkl (by omega))); (try (have i_gjl := Imp.go gjl (by omega))); omega))
                · skip
                  have f145 : ((V 60 (8 * (24 * b + (Int32.toNatClampNeg p0)) + (Int32.toNatClampNeg p1)))).toInt ≠ 2 := b_neq rfl (by decide) c134
                  refine lv_aload hx hb dX0_candidates_120 (lv_at hl 1 rfl) ?_
                  refine va_getN (D := D) (ci := 3) (v := .int (V 53 (24 * b + (Int32.toNatClampNeg y10)))) (fs := (xfComp ad V (24 * b + (Int32.toNatClampNeg y10)))) (C := RX3) (T := TX3) (N := 13) hx hb hg inX3 hown hK hP (72 + (24 * b + (Int32.toNatClampNeg y10))) (xgComp il19) rfl 8 (by decide) (hnw.use 529 n529 rfl) (fun _ h9 => h9) rfl dX0_candidates_122 ?_
                  refine lv_iload hx hb dX0_candidates_125 (lv_at hl 3 rfl) ?_
                  refine lv_icmp_le (tgt := 140) hx hb dX0_candidates_127 (by decide) (fun c146 => ?_) (fun c146 => ?_)
                  · skip
                    have f147 : ((V 53 (24 * b + (Int32.toNatClampNeg y10)))).toInt ≤ y11.toInt := b_le rfl rfl c146
                    refine lv_iload hx hb dX0_candidates_140 (lv_at hl 7 rfl) ?_
                    refine lv_iconst (v := 2) hx hb dX0_candidates_142 (by decide) ?_
                    refine lv_icmp_eq (tgt := 156) hx hb dX0_candidates_143 (by decide) (fun c148 => ?_) (fun c148 => ?_)
                    · skip
                      have f149 : ((V 60 (8 * (24 * b + (Int32.toNatClampNeg p0)) + (Int32.toNatClampNeg p1)))).toInt = 2 := b_eq rfl (by decide) c148
                      refine lv_iload hx hb dX0_candidates_156 (lv_at hl 4 rfl) ?_
                      refine lv_iconst (v := 1) hx hb dX0_candidates_158 (by decide) ?_
                      refine lv_iload hx hb dX0_candidates_159 (lv_at hl 2 rfl) ?_
                      refine lv_ishl hx hb dX0_candidates_161 ?_
                      refine lv_topi (fun z150 ez150 => ?_)
                      have hz150 : 0 ≤ z150.toInt ∧ z150.toInt < 16777216 := shl1 ez150 (by first | omega | ((try (have i_gjl := Imp.go gjl (by omega))); (try (have i_gkl := Imp.go gkl (by omega))); (try (have i_wh := Imp.go wh (by omega))); (try (have i_coc := Imp.go coc (by omega))); first | omega | ((try (have i_coc := Imp.go coc (by omega))); (try (have i_wh := Imp.go wh (by omega))); (try (have i_gkl := Imp.go gkl (by omega))); (try (have i_gjl := Imp.go gjl (by omega))); omega)))
                      refine lv_ior hx hb dX0_candidates_162 ?_
                      refine lv_topi (fun z151 ez151 => ?_)
                      have hz151 : 0 ≤ z151.toInt ∧ z151.toInt < 16777216 := or24 ez151 (by first | omega | ((try (have i_gjl := Imp.go gjl (by omega))); (try (have i_gkl := Imp.go gkl (by omega))); (try (have i_wh := Imp.go wh (by omega))); (try (have i_coc := Imp.go coc (by omega))); first | omega | ((try (have i_coc := Imp.go coc (by omega))); (try (have i_wh := Imp.go wh (by omega))); (try (have i_gkl := Imp.go gkl (by omega))); (try (have i_gjl := Imp.go gjl (by omega))); omega))) (by first | omega | ((try (have i_gjl := Imp.go gjl (by omega))); (try (have i_gkl := Imp.go gkl (by omega))); (try (have i_wh := Imp.go wh (by omega))); (try (have i_coc := Imp.go coc (by omega))); first | omega | ((try (have i_coc := Imp.go coc (by omega))); (try (have i_wh := Imp.go wh (by omega))); (try (have i_gkl := Imp.go gkl (by omega))); (try (have i_gjl := Imp.go gjl (by omega))); omega)))
                      refine lv_istore (lv' := [(7, .int z151), (11, .int 1), (10, .ref (ad (72 + (24 * b + (Int32.toNatClampNeg y10))))), (9, .int y10), (8, .int y11), (6, .int (V 59 (8 * (24 * b + (Int32.toNatClampNeg p0)) + (Int32.toNatClampNeg p1)))), (5, .int (V 58 (8 * (24 * b + (Int32.toNatClampNeg p0)) + (Int32.toNatClampNeg p1)))), (4, .int (V 60 (8 * (24 * b + (Int32.toNatClampNeg p0)) + (Int32.toNatClampNeg p1)))), (3, .ref (ad (72 + (24 * b + (Int32.toNatClampNeg p0))))), (0, .ref (ad (38 + b))), (1, .int p0), (2, .int p1)]) hx hb dX0_candidates_163 hl (by decide) rfl (fun ls hl => ?_)
                      obtain ⟨z152, ez152⟩ : ∃ y : Int32, y = y10 + 1 := ⟨_, rfl⟩
                      have hz152 : z152.toInt = y10.toInt + 1 := i_add ez152 rfl (by decide) (by omega)
                      refine lv_iinc (v := z152) (lv' := [(9, .int z152), (7, .int z151), (11, .int 1), (10, .ref (ad (72 + (24 * b + (Int32.toNatClampNeg y10))))), (8, .int y11), (6, .int (V 59 (8 * (24 * b + (Int32.toNatClampNeg p0)) + (Int32.toNatClampNeg p1)))), (5, .int (V 58 (8 * (24 * b + (Int32.toNatClampNeg p0)) + (Int32.toNatClampNeg p1)))), (4, .int (V 60 (8 * (24 * b + (Int32.toNatClampNeg p0)) + (Int32.toNatClampNeg p1)))), (3, .ref (ad (72 + (24 * b + (Int32.toNatClampNeg p0))))), (0, .ref (ad (38 + b))), (1, .int p0), (2, .int p1)]) hx hb dX0_candidates_165 hl (k := 3) rfl (by rw [ez152]; rfl) (by decide) rfl (fun ls hl => ?_)
                      refine lv_goto (tgt := 40) hx hb dX0_candidates_168 (by decide) ?_
                      have r153 : Int32.toInt 1 = 1 := by decide
                      have su154 : suP gs.1 (svc V b (gs.2.1 1).length) (gs.1 (300 + 32 * gk + 4 * gj)) (gs.1 (302 + 32 * gk + 4 * gj)) (Int32.toNatClampNeg y10) = true := (suP_y ((h50 (gs.1 (300 + 32 * gk + 4 * gj)) (by omega)).symm.trans (by cases e9 : bt (V 50 (24 * b + (Int32.toNatClampNeg y10))) (gs.1 (300 + 32 * gk + 4 * gj)); exact absurd ((lb_get (x := V 50 (24 * b + (Int32.toNatClampNeg y10))) (f := (gs.1 (300 + 32 * gk + 4 * gj))) ez119 ez120 (show ((V 58 (8 * (24 * b + (Int32.toNatClampNeg p0)) + (Int32.toNatClampNeg p1)))).toInt = (((gs.1 (300 + 32 * gk + 4 * gj)) : Nat) : Int) from by omega) (by omega)).mpr e9) (by omega); rfl)) (by omega) (t131.resolve_right (fun h9 => by have h8 := h9.1; omega)).2)
                      have em9 : z152.toInt.toNat = (Int32.toNatClampNeg y10) + 1 := by omega
                      have eo9 : y10.toInt.toNat = (Int32.toNatClampNeg y10) := rfl
                      have b9 := xlp13_1
                      rw [eo9] at b9
                      have su155 : suP gs.1 (svc V b (gs.2.1 1).length) (gs.1 (300 + 32 * gk + 4 * gj)) (gs.1 (302 + 32 * gk + 4 * gj)) (Int32.toNatClampNeg y10) = true := (suP_y ((h50 (gs.1 (300 + 32 * gk + 4 * gj)) (by omega)).symm.trans (by cases e9 : bt (V 50 (24 * b + (Int32.toNatClampNeg y10))) (gs.1 (300 + 32 * gk + 4 * gj)); exact absurd ((lb_get (x := V 50 (24 * b + (Int32.toNatClampNeg y10))) (f := (gs.1 (300 + 32 * gk + 4 * gj))) ez119 ez120 (show ((V 58 (8 * (24 * b + (Int32.toNatClampNeg p0)) + (Int32.toNatClampNeg p1)))).toInt = (((gs.1 (300 + 32 * gk + 4 * gj)) : Nat) : Int) from by omega) (by omega)).mpr e9) (by omega); rfl)) (by omega) (t131.resolve_right (fun h9 => by have h8 := h9.1; omega)).2)
                      have em9 : z152.toInt.toNat = (Int32.toNatClampNeg y10) + 1 := by omega
                      have eo9 : y10.toInt.toNat = (Int32.toNatClampNeg y10) := rfl
                      have b9 := xlp13_1
                      rw [eo9] at b9
                      exact ihlp13 z152 y11 z151 H locs ls (by first | omega | ((try (have i_gjl := Imp.go gjl (by omega))); (try (have i_gkl := Imp.go gkl (by omega))); (try (have i_wh := Imp.go wh (by omega))); (try (have i_coc := Imp.go coc (by omega))); first | omega | ((try (have i_coc := Imp.go coc (by omega))); (try (have i_wh := Imp.go wh (by omega))); (try (have i_gkl := Imp.go gkl (by omega))); (try (have i_gjl := Imp.go gjl (by omega))); omega))) (by first | omega | ((try (have i_gjl := Imp.go gjl (by omega))); (try (have i_gkl := Imp.go gkl (by omega))); (try (have i_wh := Imp.go wh (by omega))); (try (have i_coc := Imp.go coc (by omega))); first | omega | ((try (have i_coc := Imp.go coc (by omega))); (try (have i_wh := Imp.go wh (by omega))); (try (have i_gkl := Imp.go gkl (by omega))); (try (have i_gjl := Imp.go gjl (by omega))); omega))) (by rw [em9]; exact FND.eq (by have h9 := xlp13_0; rw [eo9] at h9; exact h9) su154 (Or.inr (by have h8 := b9 (by omega); omega)) ez150 ez151 (show y10.toInt = (((Int32.toNatClampNeg y10) : Nat) : Int) from by omega) (by omega)) (fun h7 => by rw [em9]; exact (by have h8 := b9 h7; rw [bsP_l (by omega)]; omega)) (show z152.toInt ≤ (((gs.2.1 2).length : Nat) : Int) from by first | omega | ((try (have i_gjl := Imp.go gjl (by omega))); (try (have i_gkl := Imp.go gkl (by omega))); (try (have i_wh := Imp.go wh (by omega))); (try (have i_coc := Imp.go coc (by omega))); first | omega | ((try (have i_coc := Imp.go coc (by omega))); (try (have i_wh := Imp.go wh (by omega))); (try (have i_gkl := Imp.go gkl (by omega))); (try (have i_gjl := Imp.go gjl (by omega))); omega))) (by first | omega | ((try (have i_gjl := Imp.go gjl (by omega))); (try (have i_gkl := Imp.go gkl (by omega))); (try (have i_wh := Imp.go wh (by omega))); (try (have i_coc := Imp.go coc (by omega))); first | omega | ((try (have i_coc := Imp.go coc (by omega))); (try (have i_wh := Imp.go wh (by omega))); (try (have i_gkl := Imp.go gkl (by omega))); (try (have i_gjl := Imp.go gjl (by omega))); omega))) hP hD hS (lv_sub hl [0, 4, 1, 5, 6, 7, 8, 9, 10, 11] rfl)
                    · skip
                      have f156 : ((V 60 (8 * (24 * b + (Int32.toNatClampNeg p0)) + (Int32.toNatClampNeg p1)))).toInt ≠ 2 := b_neq rfl (by decide) c148
                      refine lv_aload hx hb dX0_candidates_146 (lv_at hl 1 rfl) ?_
                      refine va_getN (D := D) (ci := 3) (v := .int (V 53 (24 * b + (Int32.toNatClampNeg y10)))) (fs := (xfComp ad V (24 * b + (Int32.toNatClampNeg y10)))) (C := RX3) (T := TX3) (N := 13) hx hb hg inX3 hown hK hP (72 + (24 * b + (Int32.toNatClampNeg y10))) (xgComp il19) rfl 8 (by decide) (hnw.use 529 n529 rfl) (fun _ h9 => h9) rfl dX0_candidates_148 ?_
                      refine lv_iload hx hb dX0_candidates_151 (lv_at hl 3 rfl) ?_
                      refine lv_icmp_ne (tgt := 165) hx hb dX0_candidates_153 (by decide) (fun c157 => ?_) (fun c157 => ?_)
                      · skip
                        have f158 : ((V 53 (24 * b + (Int32.toNatClampNeg y10)))).toInt ≠ y11.toInt := b_neq rfl rfl c157
                        obtain ⟨z159, ez159⟩ : ∃ y : Int32, y = y10 + 1 := ⟨_, rfl⟩
                        have hz159 : z159.toInt = y10.toInt + 1 := i_add ez159 rfl (by decide) (by (first | exact om_2bedb82363d1 r1.2 r2 f17 kk9 | omega))
                        refine lv_iinc (v := z159) (lv' := [(9, .int z159), (11, .int 1), (10, .ref (ad (72 + (24 * b + (Int32.toNatClampNeg y10))))), (8, .int y11), (7, .int y12), (6, .int (V 59 (8 * (24 * b + (Int32.toNatClampNeg p0)) + (Int32.toNatClampNeg p1)))), (5, .int (V 58 (8 * (24 * b + (Int32.toNatClampNeg p0)) + (Int32.toNatClampNeg p1)))), (4, .int (V 60 (8 * (24 * b + (Int32.toNatClampNeg p0)) + (Int32.toNatClampNeg p1)))), (3, .ref (ad (72 + (24 * b + (Int32.toNatClampNeg p0))))), (0, .ref (ad (38 + b))), (1, .int p0), (2, .int p1)]) hx hb dX0_candidates_165 hl (k := 2) rfl (by rw [ez159]; rfl) (by decide) rfl (fun ls hl => ?_)
                        refine lv_goto (tgt := 40) hx hb dX0_candidates_168 (by decide) ?_
                        have r160 : Int32.toInt 1 = 1 := by decide
                        have su161 : suP gs.1 (svc V b (gs.2.1 1).length) (gs.1 (300 + 32 * gk + 4 * gj)) (gs.1 (302 + 32 * gk + 4 * gj)) (Int32.toNatClampNeg y10) = true := (suP_y ((h50 (gs.1 (300 + 32 * gk + 4 * gj)) (by omega)).symm.trans (by cases e9 : bt (V 50 (24 * b + (Int32.toNatClampNeg y10))) (gs.1 (300 + 32 * gk + 4 * gj)); exact absurd ((lb_get (x := V 50 (24 * b + (Int32.toNatClampNeg y10))) (f := (gs.1 (300 + 32 * gk + 4 * gj))) ez119 ez120 (show ((V 58 (8 * (24 * b + (Int32.toNatClampNeg p0)) + (Int32.toNatClampNeg p1)))).toInt = (((gs.1 (300 + 32 * gk + 4 * gj)) : Nat) : Int) from by omega) (by omega)).mpr e9) (by omega); rfl)) (by omega) (t131.resolve_right (fun h9 => by have h8 := h9.1; omega)).2)
                        have em9 : z159.toInt.toNat = (Int32.toNatClampNeg y10) + 1 := by (first | exact om_a1185fbb59ea kk9 kc18 hz159 | omega)
                        have eo9 : y10.toInt.toNat = (Int32.toNatClampNeg y10) := rfl
                        have b9 := xlp13_1
                        rw [eo9] at b9
                        have su162 : suP gs.1 (svc V b (gs.2.1 1).length) (gs.1 (300 + 32 * gk + 4 * gj)) (gs.1 (302 + 32 * gk + 4 * gj)) (Int32.toNatClampNeg y10) = true := (suP_y ((h50 (gs.1 (300 + 32 * gk + 4 * gj)) (by omega)).symm.trans (by cases e9 : bt (V 50 (24 * b + (Int32.toNatClampNeg y10))) (gs.1 (300 + 32 * gk + 4 * gj)); exact absurd ((lb_get (x := V 50 (24 * b + (Int32.toNatClampNeg y10))) (f := (gs.1 (300 + 32 * gk + 4 * gj))) ez119 ez120 (show ((V 58 (8 * (24 * b + (Int32.toNatClampNeg p0)) + (Int32.toNatClampNeg p1)))).toInt = (((gs.1 (300 + 32 * gk + 4 * gj)) : Nat) : Int) from by omega) (by omega)).mpr e9) (by omega); rfl)) (by omega) (t131.resolve_right (fun h9 => by have h8 := h9.1; omega)).2)
                        have em9 : z159.toInt.toNat = (Int32.toNatClampNeg y10) + 1 := by (first | exact om_26701d63f2fa em9 | omega)
                        have eo9 : y10.toInt.toNat = (Int32.toNatClampNeg y10) := rfl
                        have b9 := xlp13_1
                        rw [eo9] at b9
                        exact ihlp13 z159 y11 y12 H locs ls (by first | exact om_9500b6342cf6 r1.2 r2 f17 kk9 hz159 | first | omega | ((try (have i_gjl := Imp.go gjl (by omega))); (try (have i_gkl := Imp.go gkl (by omega))); (try (have i_wh := Imp.go wh (by omega))); (try (have i_coc := Imp.go coc (by omega))); first | omega | ((try (have i_coc := Imp.go coc (by omega))); (try (have i_wh := Imp.go wh (by omega))); (try (have i_gkl := Imp.go gkl (by omega))); (try (have i_gjl := Imp.go gjl (by omega))); omega))) (by first | exact om_c51a6401fccc klp13_1.1 klp13_1.2 | first | omega | ((try (have i_gjl := Imp.go gjl (by omega))); (try (have i_gkl := Imp.go gkl (by omega))); (try (have i_wh := Imp.go wh (by omega))); (try (have i_coc := Imp.go coc (by omega))); first | omega | ((try (have i_coc := Imp.go coc (by omega))); (try (have i_wh := Imp.go wh (by omega))); (try (have i_gkl := Imp.go gkl (by omega))); (try (have i_gjl := Imp.go gjl (by omega))); omega))) (by rw [em9]; exact FND.lo (by have h9 := xlp13_0; rw [eo9] at h9; exact h9) (by have h8 := b9 (by omega); omega) (by omega)) (fun h7 => by rw [em9]; exact (by have h8 := b9 h7; rw [bsP_l (by omega)]; omega)) (show z159.toInt ≤ (((gs.2.1 2).length : Nat) : Int) from by first | exact om_bcda7a344117 ln f17 hz159 | first | omega | ((try (have i_gjl := Imp.go gjl (by omega))); (try (have i_gkl := Imp.go gkl (by omega))); (try (have i_wh := Imp.go wh (by omega))); (try (have i_coc := Imp.go coc (by omega))); first | omega | ((try (have i_coc := Imp.go coc (by omega))); (try (have i_wh := Imp.go wh (by omega))); (try (have i_gkl := Imp.go gkl (by omega))); (try (have i_gjl := Imp.go gjl (by omega))); omega))) (by first | exact om_9592d9319ffa hn hz159 | first | omega | ((try (have i_gjl := Imp.go gjl (by omega))); (try (have i_gkl := Imp.go gkl (by omega))); (try (have i_wh := Imp.go wh (by omega))); (try (have i_coc := Imp.go coc (by omega))); first | omega | ((try (have i_coc := Imp.go coc (by omega))); (try (have i_wh := Imp.go wh (by omega))); (try (have i_gkl := Imp.go gkl (by omega))); (try (have i_gjl := Imp.go gjl (by omega))); omega))) hP hD hS (lv_sub hl [0, 3, 4, 5, 6, 7, 8, 9, 10, 11] rfl)
                      · skip
                        have f163 : ((V 53 (24 * b + (Int32.toNatClampNeg y10)))).toInt = y11.toInt := b_eq rfl rfl c157
                        refine lv_iload hx hb dX0_candidates_156 (lv_at hl 4 rfl) ?_
                        refine lv_iconst (v := 1) hx hb dX0_candidates_158 (by decide) ?_
                        refine lv_iload hx hb dX0_candidates_159 (lv_at hl 2 rfl) ?_
                        refine lv_ishl hx hb dX0_candidates_161 ?_
                        refine lv_topi (fun z164 ez164 => ?_)
                        have hz164 : 0 ≤ z164.toInt ∧ z164.toInt < 16777216 := shl1 ez164 (by first | omega | ((try (have i_gjl := Imp.go gjl (by omega))); (try (have i_gkl := Imp.go gkl (by omega))); (try (have i_wh := Imp.go wh (by omega))); (try (have i_coc := Imp.go coc (by omega))); first | omega | ((try (have i_coc := Imp.go coc (by omega))); (try (have i_wh := Imp.go wh (by omega))); (try (have i_gkl := Imp.go gkl (by omega))); (try (have i_gjl := Imp.go gjl (by omega))); omega)))
                        refine lv_ior hx hb dX0_candidates_162 ?_
                        refine lv_topi (fun z165 ez165 => ?_)
                        have hz165 : 0 ≤ z165.toInt ∧ z165.toInt < 16777216 := or24 ez165 (by first | omega | ((try (have i_gjl := Imp.go gjl (by omega))); (try (have i_gkl := Imp.go gkl (by omega))); (try (have i_wh := Imp.go wh (by omega))); (try (have i_coc := Imp.go coc (by omega))); first | omega | ((try (have i_coc := Imp.go coc (by omega))); (try (have i_wh := Imp.go wh (by omega))); (try (have i_gkl := Imp.go gkl (by omega))); (try (have i_gjl := Imp.go gjl (by omega))); omega))) (by first | omega | ((try (have i_gjl := Imp.go gjl (by omega))); (try (have i_gkl := Imp.go gkl (by omega))); (try (have i_wh := Imp.go wh (by omega))); (try (have i_coc := Imp.go coc (by omega))); first | omega | ((try (have i_coc := Imp.go coc (by omega))); (try (have i_wh := Imp.go wh (by omega))); (try (have i_gkl := Imp.go gkl (by omega))); (try (have i_gjl := Imp.go gjl (by omega))); omega)))
                        refine lv_istore (lv' := [(7, .int z165), (11, .int 1), (10, .ref (ad (72 + (24 * b + (Int32.toNatClampNeg y10))))), (9, .int y10), (8, .int y11), (6, .int (V 59 (8 * (24 * b + (Int32.toNatClampNeg p0)) + (Int32.toNatClampNeg p1)))), (5, .int (V 58 (8 * (24 * b + (Int32.toNatClampNeg p0)) + (Int32.toNatClampNeg p1)))), (4, .int (V 60 (8 * (24 * b + (Int32.toNatClampNeg p0)) + (Int32.toNatClampNeg p1)))), (3, .ref (ad (72 + (24 * b + (Int32.toNatClampNeg p0))))), (0, .ref (ad (38 + b))), (1, .int p0), (2, .int p1)]) hx hb dX0_candidates_163 hl (by decide) rfl (fun ls hl => ?_)
                        obtain ⟨z166, ez166⟩ : ∃ y : Int32, y = y10 + 1 := ⟨_, rfl⟩
                        have hz166 : z166.toInt = y10.toInt + 1 := i_add ez166 rfl (by decide) (by (first | exact om_2bedb82363d1 r1.2 r2 f17 kk9 | omega))
                        refine lv_iinc (v := z166) (lv' := [(9, .int z166), (7, .int z165), (11, .int 1), (10, .ref (ad (72 + (24 * b + (Int32.toNatClampNeg y10))))), (8, .int y11), (6, .int (V 59 (8 * (24 * b + (Int32.toNatClampNeg p0)) + (Int32.toNatClampNeg p1)))), (5, .int (V 58 (8 * (24 * b + (Int32.toNatClampNeg p0)) + (Int32.toNatClampNeg p1)))), (4, .int (V 60 (8 * (24 * b + (Int32.toNatClampNeg p0)) + (Int32.toNatClampNeg p1)))), (3, .ref (ad (72 + (24 * b + (Int32.toNatClampNeg p0))))), (0, .ref (ad (38 + b))), (1, .int p0), (2, .int p1)]) hx hb dX0_candidates_165 hl (k := 3) rfl (by rw [ez166]; rfl) (by decide) rfl (fun ls hl => ?_)
                        refine lv_goto (tgt := 40) hx hb dX0_candidates_168 (by decide) ?_
                        have r167 : Int32.toInt 1 = 1 := by decide
                        have su168 : suP gs.1 (svc V b (gs.2.1 1).length) (gs.1 (300 + 32 * gk + 4 * gj)) (gs.1 (302 + 32 * gk + 4 * gj)) (Int32.toNatClampNeg y10) = true := (suP_y ((h50 (gs.1 (300 + 32 * gk + 4 * gj)) (by omega)).symm.trans (by cases e9 : bt (V 50 (24 * b + (Int32.toNatClampNeg y10))) (gs.1 (300 + 32 * gk + 4 * gj)); exact absurd ((lb_get (x := V 50 (24 * b + (Int32.toNatClampNeg y10))) (f := (gs.1 (300 + 32 * gk + 4 * gj))) ez119 ez120 (show ((V 58 (8 * (24 * b + (Int32.toNatClampNeg p0)) + (Int32.toNatClampNeg p1)))).toInt = (((gs.1 (300 + 32 * gk + 4 * gj)) : Nat) : Int) from by omega) (by omega)).mpr e9) (by omega); rfl)) (by omega) (t131.resolve_right (fun h9 => by have h8 := h9.1; omega)).2)
                        have em9 : z166.toInt.toNat = (Int32.toNatClampNeg y10) + 1 := by (first | exact om_a1185fbb59ea kk9 kc18 hz166 | omega)
                        have eo9 : y10.toInt.toNat = (Int32.toNatClampNeg y10) := rfl
                        have b9 := xlp13_1
                        rw [eo9] at b9
                        have su169 : suP gs.1 (svc V b (gs.2.1 1).length) (gs.1 (300 + 32 * gk + 4 * gj)) (gs.1 (302 + 32 * gk + 4 * gj)) (Int32.toNatClampNeg y10) = true := (suP_y ((h50 (gs.1 (300 + 32 * gk + 4 * gj)) (by omega)).symm.trans (by cases e9 : bt (V 50 (24 * b + (Int32.toNatClampNeg y10))) (gs.1 (300 + 32 * gk + 4 * gj)); exact absurd ((lb_get (x := V 50 (24 * b + (Int32.toNatClampNeg y10))) (f := (gs.1 (300 + 32 * gk + 4 * gj))) ez119 ez120 (show ((V 58 (8 * (24 * b + (Int32.toNatClampNeg p0)) + (Int32.toNatClampNeg p1)))).toInt = (((gs.1 (300 + 32 * gk + 4 * gj)) : Nat) : Int) from by omega) (by omega)).mpr e9) (by omega); rfl)) (by omega) (t131.resolve_right (fun h9 => by have h8 := h9.1; omega)).2)
                        have em9 : z166.toInt.toNat = (Int32.toNatClampNeg y10) + 1 := by (first | exact om_26701d63f2fa em9 | omega)
                        have eo9 : y10.toInt.toNat = (Int32.toNatClampNeg y10) := rfl
                        have b9 := xlp13_1
                        rw [eo9] at b9
                        exact ihlp13 z166 y11 z165 H locs ls (by first | exact om_9500b6342cf6 r1.2 r2 f17 kk9 hz166 | first | omega | ((try (have i_gjl := Imp.go gjl (by omega))); (try (have i_gkl := Imp.go gkl (by omega))); (try (have i_wh := Imp.go wh (by omega))); (try (have i_coc := Imp.go coc (by omega))); first | omega | ((try (have i_coc := Imp.go coc (by omega))); (try (have i_wh := Imp.go wh (by omega))); (try (have i_gkl := Imp.go gkl (by omega))); (try (have i_gjl := Imp.go gjl (by omega))); omega))) (by first | exact om_8a0dcf576dcd hz165.1 hz165.2 | first | omega | ((try (have i_gjl := Imp.go gjl (by omega))); (try (have i_gkl := Imp.go gkl (by omega))); (try (have i_wh := Imp.go wh (by omega))); (try (have i_coc := Imp.go coc (by omega))); first | omega | ((try (have i_coc := Imp.go coc (by omega))); (try (have i_wh := Imp.go wh (by omega))); (try (have i_gkl := Imp.go gkl (by omega))); (try (have i_gjl := Imp.go gjl (by omega))); omega))) (by rw [em9]; exact FND.eq (by have h9 := xlp13_0; rw [eo9] at h9; exact h9) su168 (Or.inr (by have h8 := b9 (by omega); omega)) ez164 ez165 (show y10.toInt = (((Int32.toNatClampNeg y10) : Nat) : Int) from by (first | exact om_dadc9969542e kc18 | omega)) (by omega)) (fun h7 => by rw [em9]; exact (by have h8 := b9 h7; rw [bsP_l (by omega)]; omega)) (show z166.toInt ≤ (((gs.2.1 2).length : Nat) : Int) from by first | exact om_bcda7a344117 ln f17 hz166 | first | omega | ((try (have i_gjl := Imp.go gjl (by omega))); (try (have i_gkl := Imp.go gkl (by omega))); (try (have i_wh := Imp.go wh (by omega))); (try (have i_coc := Imp.go coc (by omega))); first | omega | ((try (have i_coc := Imp.go coc (by omega))); (try (have i_wh := Imp.go wh (by omega))); (try (have i_gkl := Imp.go gkl (by omega))); (try (have i_gjl := Imp.go gjl (by omega))); omega))) (by first | exact om_9592d9319ffa hn hz166 | first | omega | ((try (have i_gjl := Imp.go gjl (by omega))); (try (have i_gkl := Imp.go gkl (by omega))); (try (have i_wh := Imp.go wh (by omega))); (try (have i_coc := Imp.go coc (by omega))); first | omega | ((try (have i_coc := Imp.go coc (by omega))); (try (have i_wh := Imp.go wh (by omega))); (try (have i_gkl := Imp.go gkl (by omega))); (try (have i_gjl := Imp.go gjl (by omega))); omega))) hP hD hS (lv_sub hl [0, 4, 1, 5, 6, 7, 8, 9, 10, 11] rfl)
                  · skip
                    have f170 : y11.toInt < ((V 53 (24 * b + (Int32.toNatClampNeg y10)))).toInt := b_nle rfl rfl c146
                    refine lv_aload hx hb dX0_candidates_130 (lv_at hl 1 rfl) ?_
                    refine va_getN (D := D) (ci := 3) (v := .int (V 53 (24 * b + (Int32.toNatClampNeg y10)))) (fs := (xfComp ad V (24 * b + (Int32.toNatClampNeg y10)))) (C := RX3) (T := TX3) (N := 13) hx hb hg inX3 hown hK hP (72 + (24 * b + (Int32.toNatClampNeg y10))) (xgComp il19) rfl 8 (by decide) (hnw.use 529 n529 rfl) (fun _ h9 => h9) rfl dX0_candidates_132 ?_
                    refine lv_istore (lv' := [(8, .int (V 53 (24 * b + (Int32.toNatClampNeg y10)))), (11, .int 1), (10, .ref (ad (72 + (24 * b + (Int32.toNatClampNeg y10))))), (9, .int y10), (7, .int y12), (6, .int (V 59 (8 * (24 * b + (Int32.toNatClampNeg p0)) + (Int32.toNatClampNeg p1)))), (5, .int (V 58 (8 * (24 * b + (Int32.toNatClampNeg p0)) + (Int32.toNatClampNeg p1)))), (4, .int (V 60 (8 * (24 * b + (Int32.toNatClampNeg p0)) + (Int32.toNatClampNeg p1)))), (3, .ref (ad (72 + (24 * b + (Int32.toNatClampNeg p0))))), (0, .ref (ad (38 + b))), (1, .int p0), (2, .int p1)]) hx hb dX0_candidates_135 hl (by decide) rfl (fun ls hl => ?_)
                    refine lv_iconst (v := 0) hx hb dX0_candidates_137 (by decide) ?_
                    refine lv_istore (lv' := [(7, .int 0), (8, .int (V 53 (24 * b + (Int32.toNatClampNeg y10)))), (11, .int 1), (10, .ref (ad (72 + (24 * b + (Int32.toNatClampNeg y10))))), (9, .int y10), (6, .int (V 59 (8 * (24 * b + (Int32.toNatClampNeg p0)) + (Int32.toNatClampNeg p1)))), (5, .int (V 58 (8 * (24 * b + (Int32.toNatClampNeg p0)) + (Int32.toNatClampNeg p1)))), (4, .int (V 60 (8 * (24 * b + (Int32.toNatClampNeg p0)) + (Int32.toNatClampNeg p1)))), (3, .ref (ad (72 + (24 * b + (Int32.toNatClampNeg p0))))), (0, .ref (ad (38 + b))), (1, .int p0), (2, .int p1)]) hx hb dX0_candidates_138 hl (by decide) rfl (fun ls hl => ?_)
                    refine lv_iload hx hb dX0_candidates_140 (lv_at hl 7 rfl) ?_
                    refine lv_iconst (v := 2) hx hb dX0_candidates_142 (by decide) ?_
                    refine lv_icmp_eq (tgt := 156) hx hb dX0_candidates_143 (by decide) (fun c171 => ?_) (fun c171 => ?_)
                    · skip
                      have f172 : ((V 60 (8 * (24 * b + (Int32.toNatClampNeg p0)) + (Int32.toNatClampNeg p1)))).toInt = 2 := b_eq rfl (by decide) c171
                      refine lv_iload hx hb dX0_candidates_156 (lv_at hl 0 rfl) ?_
                      refine lv_iconst (v := 1) hx hb dX0_candidates_158 (by decide) ?_
                      refine lv_iload hx hb dX0_candidates_159 (lv_at hl 4 rfl) ?_
                      refine lv_ishl hx hb dX0_candidates_161 ?_
                      refine lv_topi (fun z173 ez173 => ?_)
                      have hz173 : 0 ≤ z173.toInt ∧ z173.toInt < 16777216 := shl1 ez173 (by first | omega | ((try (have i_gjl := Imp.go gjl (by omega))); (try (have i_gkl := Imp.go gkl (by omega))); (try (have i_wh := Imp.go wh (by omega))); (try (have i_coc := Imp.go coc (by omega))); first | omega | ((try (have i_coc := Imp.go coc (by omega))); (try (have i_wh := Imp.go wh (by omega))); (try (have i_gkl := Imp.go gkl (by omega))); (try (have i_gjl := Imp.go gjl (by omega))); omega)))
                      refine lv_ior hx hb dX0_candidates_162 ?_
                      refine lv_topi (fun z174 ez174 => ?_)
                      have hz174 : 0 ≤ z174.toInt ∧ z174.toInt < 16777216 := or24 ez174 (by decide) (by first | omega | ((try (have i_gjl := Imp.go gjl (by omega))); (try (have i_gkl := Imp.go gkl (by omega))); (try (have i_wh := Imp.go wh (by omega))); (try (have i_coc := Imp.go coc (by omega))); first | omega | ((try (have i_coc := Imp.go coc (by omega))); (try (have i_wh := Imp.go wh (by omega))); (try (have i_gkl := Imp.go gkl (by omega))); (try (have i_gjl := Imp.go gjl (by omega))); omega)))
                      refine lv_istore (lv' := [(7, .int z174), (8, .int (V 53 (24 * b + (Int32.toNatClampNeg y10)))), (11, .int 1), (10, .ref (ad (72 + (24 * b + (Int32.toNatClampNeg y10))))), (9, .int y10), (6, .int (V 59 (8 * (24 * b + (Int32.toNatClampNeg p0)) + (Int32.toNatClampNeg p1)))), (5, .int (V 58 (8 * (24 * b + (Int32.toNatClampNeg p0)) + (Int32.toNatClampNeg p1)))), (4, .int (V 60 (8 * (24 * b + (Int32.toNatClampNeg p0)) + (Int32.toNatClampNeg p1)))), (3, .ref (ad (72 + (24 * b + (Int32.toNatClampNeg p0))))), (0, .ref (ad (38 + b))), (1, .int p0), (2, .int p1)]) hx hb dX0_candidates_163 hl (by decide) rfl (fun ls hl => ?_)
                      obtain ⟨z175, ez175⟩ : ∃ y : Int32, y = y10 + 1 := ⟨_, rfl⟩
                      have hz175 : z175.toInt = y10.toInt + 1 := i_add ez175 rfl (by decide) (by omega)
                      refine lv_iinc (v := z175) (lv' := [(9, .int z175), (7, .int z174), (8, .int (V 53 (24 * b + (Int32.toNatClampNeg y10)))), (11, .int 1), (10, .ref (ad (72 + (24 * b + (Int32.toNatClampNeg y10))))), (6, .int (V 59 (8 * (24 * b + (Int32.toNatClampNeg p0)) + (Int32.toNatClampNeg p1)))), (5, .int (V 58 (8 * (24 * b + (Int32.toNatClampNeg p0)) + (Int32.toNatClampNeg p1)))), (4, .int (V 60 (8 * (24 * b + (Int32.toNatClampNeg p0)) + (Int32.toNatClampNeg p1)))), (3, .ref (ad (72 + (24 * b + (Int32.toNatClampNeg p0))))), (0, .ref (ad (38 + b))), (1, .int p0), (2, .int p1)]) hx hb dX0_candidates_165 hl (k := 4) rfl (by rw [ez175]; rfl) (by decide) rfl (fun ls hl => ?_)
                      refine lv_goto (tgt := 40) hx hb dX0_candidates_168 (by decide) ?_
                      have r176 : Int32.toInt 1 = 1 := by decide
                      have su177 : suP gs.1 (svc V b (gs.2.1 1).length) (gs.1 (300 + 32 * gk + 4 * gj)) (gs.1 (302 + 32 * gk + 4 * gj)) (Int32.toNatClampNeg y10) = true := (suP_y ((h50 (gs.1 (300 + 32 * gk + 4 * gj)) (by omega)).symm.trans (by cases e9 : bt (V 50 (24 * b + (Int32.toNatClampNeg y10))) (gs.1 (300 + 32 * gk + 4 * gj)); exact absurd ((lb_get (x := V 50 (24 * b + (Int32.toNatClampNeg y10))) (f := (gs.1 (300 + 32 * gk + 4 * gj))) ez119 ez120 (show ((V 58 (8 * (24 * b + (Int32.toNatClampNeg p0)) + (Int32.toNatClampNeg p1)))).toInt = (((gs.1 (300 + 32 * gk + 4 * gj)) : Nat) : Int) from by omega) (by omega)).mpr e9) (by omega); rfl)) (by omega) (t131.resolve_right (fun h9 => by have h8 := h9.1; omega)).2)
                      have em9 : z175.toInt.toNat = (Int32.toNatClampNeg y10) + 1 := by omega
                      have eo9 : y10.toInt.toNat = (Int32.toNatClampNeg y10) := rfl
                      have b9 := xlp13_1
                      rw [eo9] at b9
                      have su178 : suP gs.1 (svc V b (gs.2.1 1).length) (gs.1 (300 + 32 * gk + 4 * gj)) (gs.1 (302 + 32 * gk + 4 * gj)) (Int32.toNatClampNeg y10) = true := (suP_y ((h50 (gs.1 (300 + 32 * gk + 4 * gj)) (by omega)).symm.trans (by cases e9 : bt (V 50 (24 * b + (Int32.toNatClampNeg y10))) (gs.1 (300 + 32 * gk + 4 * gj)); exact absurd ((lb_get (x := V 50 (24 * b + (Int32.toNatClampNeg y10))) (f := (gs.1 (300 + 32 * gk + 4 * gj))) ez119 ez120 (show ((V 58 (8 * (24 * b + (Int32.toNatClampNeg p0)) + (Int32.toNatClampNeg p1)))).toInt = (((gs.1 (300 + 32 * gk + 4 * gj)) : Nat) : Int) from by omega) (by omega)).mpr e9) (by omega); rfl)) (by omega) (t131.resolve_right (fun h9 => by have h8 := h9.1; omega)).2)
                      have em9 : z175.toInt.toNat = (Int32.toNatClampNeg y10) + 1 := by omega
                      have eo9 : y10.toInt.toNat = (Int32.toNatClampNeg y10) := rfl
                      have b9 := xlp13_1
                      rw [eo9] at b9
                      exact ihlp13 z175 (V 53 (24 * b + (Int32.toNatClampNeg y10))) z174 H locs ls (by first | omega | ((try (have i_gjl := Imp.go gjl (by omega))); (try (have i_gkl := Imp.go gkl (by omega))); (try (have i_wh := Imp.go wh (by omega))); (try (have i_coc := Imp.go coc (by omega))); first | omega | ((try (have i_coc := Imp.go coc (by omega))); (try (have i_wh := Imp.go wh (by omega))); (try (have i_gkl := Imp.go gkl (by omega))); (try (have i_gjl := Imp.go gjl (by omega))); omega))) (by first | omega | ((try (have i_gjl := Imp.go gjl (by omega))); (try (have i_gkl := Imp.go gkl (by omega))); (try (have i_wh := Imp.go wh (by omega))); (try (have i_coc := Imp.go coc (by omega))); first | omega | ((try (have i_coc := Imp.go coc (by omega))); (try (have i_wh := Imp.go wh (by omega))); (try (have i_gkl := Imp.go gkl (by omega))); (try (have i_gjl := Imp.go gjl (by omega))); omega))) (by rw [em9]; exact FND.hi rfl su177 (by have h8 := b9 (by omega); omega) (by omega) ez173 ez174 (show y10.toInt = (((Int32.toNatClampNeg y10) : Nat) : Int) from by omega) (by omega)) (fun h7 => by rw [em9]; exact (by have h8 := b9 h7; rw [bsP_h su178 (by omega)]; omega)) (show z175.toInt ≤ (((gs.2.1 2).length : Nat) : Int) from by first | omega | ((try (have i_gjl := Imp.go gjl (by omega))); (try (have i_gkl := Imp.go gkl (by omega))); (try (have i_wh := Imp.go wh (by omega))); (try (have i_coc := Imp.go coc (by omega))); first | omega | ((try (have i_coc := Imp.go coc (by omega))); (try (have i_wh := Imp.go wh (by omega))); (try (have i_gkl := Imp.go gkl (by omega))); (try (have i_gjl := Imp.go gjl (by omega))); omega))) (by first | omega | ((try (have i_gjl := Imp.go gjl (by omega))); (try (have i_gkl := Imp.go gkl (by omega))); (try (have i_wh := Imp.go wh (by omega))); (try (have i_coc := Imp.go coc (by omega))); first | omega | ((try (have i_coc := Imp.go coc (by omega))); (try (have i_wh := Imp.go wh (by omega))); (try (have i_gkl := Imp.go gkl (by omega))); (try (have i_gjl := Imp.go gjl (by omega))); omega))) hP hD hS (lv_sub hl [0, 2, 1, 5, 6, 7, 8, 9, 10, 11] rfl)
                    · skip
                      have f179 : ((V 60 (8 * (24 * b + (Int32.toNatClampNeg p0)) + (Int32.toNatClampNeg p1)))).toInt ≠ 2 := b_neq rfl (by decide) c171
                      refine lv_aload hx hb dX0_candidates_146 (lv_at hl 3 rfl) ?_
                      refine va_getN (D := D) (ci := 3) (v := .int (V 53 (24 * b + (Int32.toNatClampNeg y10)))) (fs := (xfComp ad V (24 * b + (Int32.toNatClampNeg y10)))) (C := RX3) (T := TX3) (N := 13) hx hb hg inX3 hown hK hP (72 + (24 * b + (Int32.toNatClampNeg y10))) (xgComp il19) rfl 8 (by decide) (hnw.use 529 n529 rfl) (fun _ h9 => h9) rfl dX0_candidates_148 ?_
                      refine lv_iload hx hb dX0_candidates_151 (lv_at hl 1 rfl) ?_
                      refine lv_icmp_ne (tgt := 165) hx hb dX0_candidates_153 (by decide) (fun c180 => ?_) (fun c180 => ?_)
                      · skip
                        have f181 : ((V 53 (24 * b + (Int32.toNatClampNeg y10)))).toInt ≠ ((V 53 (24 * b + (Int32.toNatClampNeg y10)))).toInt := b_neq rfl rfl c180
                        obtain ⟨z182, ez182⟩ : ∃ y : Int32, y = y10 + 1 := ⟨_, rfl⟩
                        have hz182 : z182.toInt = y10.toInt + 1 := i_add ez182 rfl (by decide) (by (first | exact om_2bedb82363d1 r1.2 r2 f17 kk9 | omega))
                        refine lv_iinc (v := z182) (lv' := [(9, .int z182), (7, .int 0), (8, .int (V 53 (24 * b + (Int32.toNatClampNeg y10)))), (11, .int 1), (10, .ref (ad (72 + (24 * b + (Int32.toNatClampNeg y10))))), (6, .int (V 59 (8 * (24 * b + (Int32.toNatClampNeg p0)) + (Int32.toNatClampNeg p1)))), (5, .int (V 58 (8 * (24 * b + (Int32.toNatClampNeg p0)) + (Int32.toNatClampNeg p1)))), (4, .int (V 60 (8 * (24 * b + (Int32.toNatClampNeg p0)) + (Int32.toNatClampNeg p1)))), (3, .ref (ad (72 + (24 * b + (Int32.toNatClampNeg p0))))), (0, .ref (ad (38 + b))), (1, .int p0), (2, .int p1)]) hx hb dX0_candidates_165 hl (k := 4) rfl (by rw [ez182]; rfl) (by decide) rfl (fun ls hl => ?_)
                        refine lv_goto (tgt := 40) hx hb dX0_candidates_168 (by decide) ?_
                        have r183 : Int32.toInt 0 = 0 := by decide
                        have r184 : Int32.toInt 1 = 1 := by decide
                        have su185 : suP gs.1 (svc V b (gs.2.1 1).length) (gs.1 (300 + 32 * gk + 4 * gj)) (gs.1 (302 + 32 * gk + 4 * gj)) (Int32.toNatClampNeg y10) = true := (suP_y ((h50 (gs.1 (300 + 32 * gk + 4 * gj)) (by omega)).symm.trans (by cases e9 : bt (V 50 (24 * b + (Int32.toNatClampNeg y10))) (gs.1 (300 + 32 * gk + 4 * gj)); exact absurd ((lb_get (x := V 50 (24 * b + (Int32.toNatClampNeg y10))) (f := (gs.1 (300 + 32 * gk + 4 * gj))) ez119 ez120 (show ((V 58 (8 * (24 * b + (Int32.toNatClampNeg p0)) + (Int32.toNatClampNeg p1)))).toInt = (((gs.1 (300 + 32 * gk + 4 * gj)) : Nat) : Int) from by omega) (by omega)).mpr e9) (by omega); rfl)) (by omega) (t131.resolve_right (fun h9 => by have h8 := h9.1; omega)).2)
                        have em9 : z182.toInt.toNat = (Int32.toNatClampNeg y10) + 1 := by (first | exact om_a1185fbb59ea kk9 kc18 hz182 | omega)
                        have eo9 : y10.toInt.toNat = (Int32.toNatClampNeg y10) := rfl
                        have b9 := xlp13_1
                        rw [eo9] at b9
                        have su186 : suP gs.1 (svc V b (gs.2.1 1).length) (gs.1 (300 + 32 * gk + 4 * gj)) (gs.1 (302 + 32 * gk + 4 * gj)) (Int32.toNatClampNeg y10) = true := (suP_y ((h50 (gs.1 (300 + 32 * gk + 4 * gj)) (by omega)).symm.trans (by cases e9 : bt (V 50 (24 * b + (Int32.toNatClampNeg y10))) (gs.1 (300 + 32 * gk + 4 * gj)); exact absurd ((lb_get (x := V 50 (24 * b + (Int32.toNatClampNeg y10))) (f := (gs.1 (300 + 32 * gk + 4 * gj))) ez119 ez120 (show ((V 58 (8 * (24 * b + (Int32.toNatClampNeg p0)) + (Int32.toNatClampNeg p1)))).toInt = (((gs.1 (300 + 32 * gk + 4 * gj)) : Nat) : Int) from by omega) (by omega)).mpr e9) (by omega); rfl)) (by omega) (t131.resolve_right (fun h9 => by have h8 := h9.1; omega)).2)
                        have em9 : z182.toInt.toNat = (Int32.toNatClampNeg y10) + 1 := by (first | exact om_26701d63f2fa em9 | omega)
                        have eo9 : y10.toInt.toNat = (Int32.toNatClampNeg y10) := rfl
                        have b9 := xlp13_1
                        rw [eo9] at b9
                        exact ihlp13 z182 (V 53 (24 * b + (Int32.toNatClampNeg y10))) 0 H locs ls (by first | exact om_9500b6342cf6 r1.2 r2 f17 kk9 hz182 | first | omega | ((try (have i_gjl := Imp.go gjl (by omega))); (try (have i_gkl := Imp.go gkl (by omega))); (try (have i_wh := Imp.go wh (by omega))); (try (have i_coc := Imp.go coc (by omega))); first | omega | ((try (have i_coc := Imp.go coc (by omega))); (try (have i_wh := Imp.go wh (by omega))); (try (have i_gkl := Imp.go gkl (by omega))); (try (have i_gjl := Imp.go gjl (by omega))); omega))) (by decide) (by exfalso; omega) (fun h7 => by exfalso; omega) (show z182.toInt ≤ (((gs.2.1 2).length : Nat) : Int) from by first | exact om_bcda7a344117 ln f17 hz182 | first | omega | ((try (have i_gjl := Imp.go gjl (by omega))); (try (have i_gkl := Imp.go gkl (by omega))); (try (have i_wh := Imp.go wh (by omega))); (try (have i_coc := Imp.go coc (by omega))); first | omega | ((try (have i_coc := Imp.go coc (by omega))); (try (have i_wh := Imp.go wh (by omega))); (try (have i_gkl := Imp.go gkl (by omega))); (try (have i_gjl := Imp.go gjl (by omega))); omega))) (by first | exact om_9592d9319ffa hn hz182 | first | omega | ((try (have i_gjl := Imp.go gjl (by omega))); (try (have i_gkl := Imp.go gkl (by omega))); (try (have i_wh := Imp.go wh (by omega))); (try (have i_coc := Imp.go coc (by omega))); first | omega | ((try (have i_coc := Imp.go coc (by omega))); (try (have i_wh := Imp.go wh (by omega))); (try (have i_gkl := Imp.go gkl (by omega))); (try (have i_gjl := Imp.go gjl (by omega))); omega))) hP hD hS (lv_sub hl [0, 2, 1, 5, 6, 7, 8, 9, 10, 11] rfl)
                      · skip
                        have f187 : ((V 53 (24 * b + (Int32.toNatClampNeg y10)))).toInt = ((V 53 (24 * b + (Int32.toNatClampNeg y10)))).toInt := b_eq rfl rfl c180
                        refine lv_iload hx hb dX0_candidates_156 (lv_at hl 0 rfl) ?_
                        refine lv_iconst (v := 1) hx hb dX0_candidates_158 (by decide) ?_
                        refine lv_iload hx hb dX0_candidates_159 (lv_at hl 4 rfl) ?_
                        refine lv_ishl hx hb dX0_candidates_161 ?_
                        refine lv_topi (fun z188 ez188 => ?_)
                        have hz188 : 0 ≤ z188.toInt ∧ z188.toInt < 16777216 := shl1 ez188 (by first | omega | ((try (have i_gjl := Imp.go gjl (by omega))); (try (have i_gkl := Imp.go gkl (by omega))); (try (have i_wh := Imp.go wh (by omega))); (try (have i_coc := Imp.go coc (by omega))); first | omega | ((try (have i_coc := Imp.go coc (by omega))); (try (have i_wh := Imp.go wh (by omega))); (try (have i_gkl := Imp.go gkl (by omega))); (try (have i_gjl := Imp.go gjl (by omega))); omega)))
                        refine lv_ior hx hb dX0_candidates_162 ?_
                        refine lv_topi (fun z189 ez189 => ?_)
                        have hz189 : 0 ≤ z189.toInt ∧ z189.toInt < 16777216 := or24 ez189 (by decide) (by first | omega | ((try (have i_gjl := Imp.go gjl (by omega))); (try (have i_gkl := Imp.go gkl (by omega))); (try (have i_wh := Imp.go wh (by omega))); (try (have i_coc := Imp.go coc (by omega))); first | omega | ((try (have i_coc := Imp.go coc (by omega))); (try (have i_wh := Imp.go wh (by omega))); (try (have i_gkl := Imp.go gkl (by omega))); (try (have i_gjl := Imp.go gjl (by omega))); omega)))
                        refine lv_istore (lv' := [(7, .int z189), (8, .int (V 53 (24 * b + (Int32.toNatClampNeg y10)))), (11, .int 1), (10, .ref (ad (72 + (24 * b + (Int32.toNatClampNeg y10))))), (9, .int y10), (6, .int (V 59 (8 * (24 * b + (Int32.toNatClampNeg p0)) + (Int32.toNatClampNeg p1)))), (5, .int (V 58 (8 * (24 * b + (Int32.toNatClampNeg p0)) + (Int32.toNatClampNeg p1)))), (4, .int (V 60 (8 * (24 * b + (Int32.toNatClampNeg p0)) + (Int32.toNatClampNeg p1)))), (3, .ref (ad (72 + (24 * b + (Int32.toNatClampNeg p0))))), (0, .ref (ad (38 + b))), (1, .int p0), (2, .int p1)]) hx hb dX0_candidates_163 hl (by decide) rfl (fun ls hl => ?_)
                        obtain ⟨z190, ez190⟩ : ∃ y : Int32, y = y10 + 1 := ⟨_, rfl⟩
                        have hz190 : z190.toInt = y10.toInt + 1 := i_add ez190 rfl (by decide) (by (first | exact om_2bedb82363d1 r1.2 r2 f17 kk9 | omega))
                        refine lv_iinc (v := z190) (lv' := [(9, .int z190), (7, .int z189), (8, .int (V 53 (24 * b + (Int32.toNatClampNeg y10)))), (11, .int 1), (10, .ref (ad (72 + (24 * b + (Int32.toNatClampNeg y10))))), (6, .int (V 59 (8 * (24 * b + (Int32.toNatClampNeg p0)) + (Int32.toNatClampNeg p1)))), (5, .int (V 58 (8 * (24 * b + (Int32.toNatClampNeg p0)) + (Int32.toNatClampNeg p1)))), (4, .int (V 60 (8 * (24 * b + (Int32.toNatClampNeg p0)) + (Int32.toNatClampNeg p1)))), (3, .ref (ad (72 + (24 * b + (Int32.toNatClampNeg p0))))), (0, .ref (ad (38 + b))), (1, .int p0), (2, .int p1)]) hx hb dX0_candidates_165 hl (k := 4) rfl (by rw [ez190]; rfl) (by decide) rfl (fun ls hl => ?_)
                        refine lv_goto (tgt := 40) hx hb dX0_candidates_168 (by decide) ?_
                        have r191 : Int32.toInt 1 = 1 := by decide
                        have su192 : suP gs.1 (svc V b (gs.2.1 1).length) (gs.1 (300 + 32 * gk + 4 * gj)) (gs.1 (302 + 32 * gk + 4 * gj)) (Int32.toNatClampNeg y10) = true := (suP_y ((h50 (gs.1 (300 + 32 * gk + 4 * gj)) (by omega)).symm.trans (by cases e9 : bt (V 50 (24 * b + (Int32.toNatClampNeg y10))) (gs.1 (300 + 32 * gk + 4 * gj)); exact absurd ((lb_get (x := V 50 (24 * b + (Int32.toNatClampNeg y10))) (f := (gs.1 (300 + 32 * gk + 4 * gj))) ez119 ez120 (show ((V 58 (8 * (24 * b + (Int32.toNatClampNeg p0)) + (Int32.toNatClampNeg p1)))).toInt = (((gs.1 (300 + 32 * gk + 4 * gj)) : Nat) : Int) from by omega) (by omega)).mpr e9) (by omega); rfl)) (by omega) (t131.resolve_right (fun h9 => by have h8 := h9.1; omega)).2)
                        have em9 : z190.toInt.toNat = (Int32.toNatClampNeg y10) + 1 := by (first | exact om_a1185fbb59ea kk9 kc18 hz190 | omega)
                        have eo9 : y10.toInt.toNat = (Int32.toNatClampNeg y10) := rfl
                        have b9 := xlp13_1
                        rw [eo9] at b9
                        have su193 : suP gs.1 (svc V b (gs.2.1 1).length) (gs.1 (300 + 32 * gk + 4 * gj)) (gs.1 (302 + 32 * gk + 4 * gj)) (Int32.toNatClampNeg y10) = true := (suP_y ((h50 (gs.1 (300 + 32 * gk + 4 * gj)) (by omega)).symm.trans (by cases e9 : bt (V 50 (24 * b + (Int32.toNatClampNeg y10))) (gs.1 (300 + 32 * gk + 4 * gj)); exact absurd ((lb_get (x := V 50 (24 * b + (Int32.toNatClampNeg y10))) (f := (gs.1 (300 + 32 * gk + 4 * gj))) ez119 ez120 (show ((V 58 (8 * (24 * b + (Int32.toNatClampNeg p0)) + (Int32.toNatClampNeg p1)))).toInt = (((gs.1 (300 + 32 * gk + 4 * gj)) : Nat) : Int) from by omega) (by omega)).mpr e9) (by omega); rfl)) (by omega) (t131.resolve_right (fun h9 => by have h8 := h9.1; omega)).2)
                        have em9 : z190.toInt.toNat = (Int32.toNatClampNeg y10) + 1 := by (first | exact om_26701d63f2fa em9 | omega)
                        have eo9 : y10.toInt.toNat = (Int32.toNatClampNeg y10) := rfl
                        have b9 := xlp13_1
                        rw [eo9] at b9
                        exact ihlp13 z190 (V 53 (24 * b + (Int32.toNatClampNeg y10))) z189 H locs ls (by first | exact om_9500b6342cf6 r1.2 r2 f17 kk9 hz190 | first | omega | ((try (have i_gjl := Imp.go gjl (by omega))); (try (have i_gkl := Imp.go gkl (by omega))); (try (have i_wh := Imp.go wh (by omega))); (try (have i_coc := Imp.go coc (by omega))); first | omega | ((try (have i_coc := Imp.go coc (by omega))); (try (have i_wh := Imp.go wh (by omega))); (try (have i_gkl := Imp.go gkl (by omega))); (try (have i_gjl := Imp.go gjl (by omega))); omega))) (by first | exact om_8a0dcf576dcd hz189.1 hz189.2 | first | omega | ((try (have i_gjl := Imp.go gjl (by omega))); (try (have i_gkl := Imp.go gkl (by omega))); (try (have i_wh := Imp.go wh (by omega))); (try (have i_coc := Imp.go coc (by omega))); first | omega | ((try (have i_coc := Imp.go coc (by omega))); (try (have i_wh := Imp.go wh (by omega))); (try (have i_gkl := Imp.go gkl (by omega))); (try (have i_gjl := Imp.go gjl (by omega))); omega))) (by rw [em9]; exact FND.hi rfl su192 (by have h8 := b9 (by omega); omega) (by omega) ez188 ez189 (show y10.toInt = (((Int32.toNatClampNeg y10) : Nat) : Int) from by (first | exact om_dadc9969542e kc18 | omega)) (by omega)) (fun h7 => by rw [em9]; exact (by have h8 := b9 h7; rw [bsP_h su193 (by omega)]; omega)) (show z190.toInt ≤ (((gs.2.1 2).length : Nat) : Int) from by first | exact om_bcda7a344117 ln f17 hz190 | first | omega | ((try (have i_gjl := Imp.go gjl (by omega))); (try (have i_gkl := Imp.go gkl (by omega))); (try (have i_wh := Imp.go wh (by omega))); (try (have i_coc := Imp.go coc (by omega))); first | omega | ((try (have i_coc := Imp.go coc (by omega))); (try (have i_wh := Imp.go wh (by omega))); (try (have i_gkl := Imp.go gkl (by omega))); (try (have i_gjl := Imp.go gjl (by omega))); omega))) (by first | exact om_9592d9319ffa hn hz190 | first | omega | ((try (have i_gjl := Imp.go gjl (by omega))); (try (have i_gkl := Imp.go gkl (by omega))); (try (have i_wh := Imp.go wh (by omega))); (try (have i_coc := Imp.go coc (by omega))); first | omega | ((try (have i_coc := Imp.go coc (by omega))); (try (have i_wh := Imp.go wh (by omega))); (try (have i_gkl := Imp.go gkl (by omega))); (try (have i_gjl := Imp.go gjl (by omega))); omega))) hP hD hS (lv_sub hl [0, 2, 1, 5, 6, 7, 8, 9, 10, 11] rfl)
              · skip
                have f194 : z128.toInt = 0 := b_eq rfl (by decide) c132
                refine lv_goto (tgt := 165) hx hb dX0_candidates_111 (by decide) ?_
                obtain ⟨z195, ez195⟩ : ∃ y : Int32, y = y10 + 1 := ⟨_, rfl⟩
                have hz195 : z195.toInt = y10.toInt + 1 := i_add ez195 rfl (by decide) (by (first | exact om_2bedb82363d1 r1.2 r2 f17 kk9 | omega))
                refine lv_iinc (v := z195) (lv' := [(9, .int z195), (11, .int 1), (10, .ref (ad (72 + (24 * b + (Int32.toNatClampNeg y10))))), (8, .int y11), (7, .int y12), (6, .int (V 59 (8 * (24 * b + (Int32.toNatClampNeg p0)) + (Int32.toNatClampNeg p1)))), (5, .int (V 58 (8 * (24 * b + (Int32.toNatClampNeg p0)) + (Int32.toNatClampNeg p1)))), (4, .int (V 60 (8 * (24 * b + (Int32.toNatClampNeg p0)) + (Int32.toNatClampNeg p1)))), (3, .ref (ad (72 + (24 * b + (Int32.toNatClampNeg p0))))), (0, .ref (ad (38 + b))), (1, .int p0), (2, .int p1)]) hx hb dX0_candidates_165 hl (k := 2) rfl (by rw [ez195]; rfl) (by decide) rfl (fun ls hl => ?_)
                refine lv_goto (tgt := 40) hx hb dX0_candidates_168 (by decide) ?_
                have r196 : Int32.toInt 1 = 1 := by decide
                have su197 : suP gs.1 (svc V b (gs.2.1 1).length) (gs.1 (300 + 32 * gk + 4 * gj)) (gs.1 (302 + 32 * gk + 4 * gj)) (Int32.toNatClampNeg y10) = false := (suP_3 (t131.resolve_left (fun h9 => by have h8 := h9.1; omega)).2)
                have em9 : z195.toInt.toNat = (Int32.toNatClampNeg y10) + 1 := by (first | exact om_a1185fbb59ea kk9 kc18 hz195 | omega)
                have eo9 : y10.toInt.toNat = (Int32.toNatClampNeg y10) := rfl
                have b9 := xlp13_1
                rw [eo9] at b9
                have su198 : suP gs.1 (svc V b (gs.2.1 1).length) (gs.1 (300 + 32 * gk + 4 * gj)) (gs.1 (302 + 32 * gk + 4 * gj)) (Int32.toNatClampNeg y10) = false := (suP_3 (t131.resolve_left (fun h9 => by have h8 := h9.1; omega)).2)
                have em9 : z195.toInt.toNat = (Int32.toNatClampNeg y10) + 1 := by (first | exact om_26701d63f2fa em9 | omega)
                have eo9 : y10.toInt.toNat = (Int32.toNatClampNeg y10) := rfl
                have b9 := xlp13_1
                rw [eo9] at b9
                exact ihlp13 z195 y11 y12 H locs ls (by first | exact om_9500b6342cf6 r1.2 r2 f17 kk9 hz195 | first | omega | ((try (have i_gjl := Imp.go gjl (by omega))); (try (have i_gkl := Imp.go gkl (by omega))); (try (have i_wh := Imp.go wh (by omega))); (try (have i_coc := Imp.go coc (by omega))); first | omega | ((try (have i_coc := Imp.go coc (by omega))); (try (have i_wh := Imp.go wh (by omega))); (try (have i_gkl := Imp.go gkl (by omega))); (try (have i_gjl := Imp.go gjl (by omega))); omega))) (by first | exact om_c51a6401fccc klp13_1.1 klp13_1.2 | first | omega | ((try (have i_gjl := Imp.go gjl (by omega))); (try (have i_gkl := Imp.go gkl (by omega))); (try (have i_wh := Imp.go wh (by omega))); (try (have i_coc := Imp.go coc (by omega))); first | omega | ((try (have i_coc := Imp.go coc (by omega))); (try (have i_wh := Imp.go wh (by omega))); (try (have i_gkl := Imp.go gkl (by omega))); (try (have i_gjl := Imp.go gjl (by omega))); omega))) (by rw [em9]; exact FND.no (by have h9 := xlp13_0; rw [eo9] at h9; exact h9) su197) (fun h7 => by rw [em9]; exact (by have h8 := b9 h7; rw [bsP_n su198]; omega)) (show z195.toInt ≤ (((gs.2.1 2).length : Nat) : Int) from by first | exact om_bcda7a344117 ln f17 hz195 | first | omega | ((try (have i_gjl := Imp.go gjl (by omega))); (try (have i_gkl := Imp.go gkl (by omega))); (try (have i_wh := Imp.go wh (by omega))); (try (have i_coc := Imp.go coc (by omega))); first | omega | ((try (have i_coc := Imp.go coc (by omega))); (try (have i_wh := Imp.go wh (by omega))); (try (have i_gkl := Imp.go gkl (by omega))); (try (have i_gjl := Imp.go gjl (by omega))); omega))) (by first | exact om_9592d9319ffa hn hz195 | first | omega | ((try (have i_gjl := Imp.go gjl (by omega))); (try (have i_gkl := Imp.go gkl (by omega))); (try (have i_wh := Imp.go wh (by omega))); (try (have i_coc := Imp.go coc (by omega))); first | omega | ((try (have i_coc := Imp.go coc (by omega))); (try (have i_wh := Imp.go wh (by omega))); (try (have i_gkl := Imp.go gkl (by omega))); (try (have i_gjl := Imp.go gjl (by omega))); omega))) hP hD hS (lv_sub hl [0, 3, 4, 5, 6, 7, 8, 9, 10, 11] rfl)
  have r199 : Int32.toInt 0 = 0 := by decide
  exact lp13 ((24 - (Int32.toInt 0) + 1 : Int).toNat) 0 0 0 H locs ls (by decide) (by decide) (by rw [show (Int32.toInt 0).toNat = 0 from by decide]; exact FND.z) (fun _ => by rw [show (Int32.toInt 0).toNat = 0 from by decide]; rfl) (show (Int32.toInt 0) ≤ (((gs.2.1 2).length : Nat) : Int) from by first | exact om_3f7d4d3a7b74 gkl r199 | first | omega | ((try (have i_gjl := Imp.go gjl (by omega))); (try (have i_gkl := Imp.go gkl (by omega))); (try (have i_wh := Imp.go wh (by omega))); (try (have i_coc := Imp.go coc (by omega))); first | omega | ((try (have i_coc := Imp.go coc (by omega))); (try (have i_wh := Imp.go wh (by omega))); (try (have i_gkl := Imp.go gkl (by omega))); (try (have i_gjl := Imp.go gjl (by omega))); omega))) (by first | exact om_817980d3aa47 | first | omega | ((try (have i_gjl := Imp.go gjl (by omega))); (try (have i_gkl := Imp.go gkl (by omega))); (try (have i_wh := Imp.go wh (by omega))); (try (have i_coc := Imp.go coc (by omega))); first | omega | ((try (have i_coc := Imp.go coc (by omega))); (try (have i_wh := Imp.go wh (by omega))); (try (have i_gkl := Imp.go gkl (by omega))); (try (have i_gjl := Imp.go gjl (by omega))); omega))) hP hD hS (lv_sub hl [0, 1, 2, 3, 4, 5, 6, 7, 8, 9] rfl)
end
section
/-! CANDIDATES of the reference -/
def svm (V : Vf) (q n : Nat) : Nat → Int := fun i => if i < n then (V 18 (12 * q + i)).toInt else 0
def COM (V : Vf) (q : Nat) (s : St) : Prop := ∀ c, c < (s.2.1 2).length → COm V (24 * q + c) s.1 c
def CLP (f : Nat → Nat) (sv : Nat → Int) (kd t ca m k : Nat) : List Nat := (List.range k).filter (cdP f sv kd t ca m)
theorem CLP_y {f : Nat → Nat} {sv : Nat → Int} {kd t ca m k : Nat} (h : cdP f sv kd t ca m k = true) : CLP f sv kd t ca m (k + 1) = CLP f sv kd t ca m k ++ [k] := by
  unfold CLP
  rw [List.range_succ, List.filter_append, List.filter_cons_of_pos h]
  rfl
theorem CLP_n {f : Nat → Nat} {sv : Nat → Int} {kd t ca m k : Nat} (h : cdP f sv kd t ca m k = false) : CLP f sv kd t ca m (k + 1) = CLP f sv kd t ca m k := by
  unfold CLP
  rw [List.range_succ, List.filter_append, List.filter_cons_of_neg (by rw [h]; exact Bool.false_ne_true)]
  exact List.append_nil _
theorem COM.ag {V W : Vf} {q : Nat} {s : St} (h : COM V q s) (e21 : W 21 = V 21) (e22 : W 22 = V 22) (e23 : W 23 = V 23) (e24 : W 24 = V 24) (e25 : W 25 = V 25) (e26 : W 26 = V 26) (e27 : W 27 = V 27) (e28 : W 28 = V 28) (e29 : W 29 = V 29) (e30 : W 30 = V 30) (e31 : W 31 = V 31) : COM W q s := fun c hc => by
  have z := h c hc
  unfold COm HDn BTm NEm at z ⊢
  rw [e21, e22, e23, e24, e25, e26, e27, e28, e29, e30, e31]
  exact z
/-- the row of CANDIDATES is a list -/
def CLV (V : Vf) (c : Nat) (l : List Nat) (n : Int) : Prop := (l.length : Int) = n ∧ ∀ i (h : i < l.length), (V c i).toInt = ((l[i] : Nat) : Int)
theorem CLV.z {V : Vf} {c : Nat} {n : Int} {f : Nat → Nat} {sv : Nat → Int} {kd t ca m : Nat} (h : n = 0) : CLV V c (CLP f sv kd t ca m 0) n := ⟨by rw [h]; rfl, fun i q => absurd q (Nat.not_lt_zero _)⟩
theorem CLV.add {V W : Vf} {c p k : Nat} {l : List Nat} {n m : Int} {v : Int32} (h : CLV V c l n) (e : W = up2 V c p v) (hp : (p : Int) = n) (hv : v.toInt = ((k : Nat) : Int)) (hm : m = n + 1) : CLV W c (l ++ [k]) m := by
  have l1 := h.1
  refine ⟨by rw [List.length_append, hm, ← l1]; rfl, fun i hi => ?_⟩
  rw [List.length_append] at hi
  have hi2 : i < l.length + 1 := hi
  by_cases d : i < l.length
  · rw [List.getElem_append_left d, up2_k e (by omega)]
    exact h.2 i d
  · have ei : i = p := by omega
    subst ei
    rw [up2_s e, List.getElem_append_right (by omega), hv]
    exact congrArg (fun x : Nat => (x : Int)) (List.getElem_singleton _).symm
theorem cdP_no {f : Nat → Nat} {sv : Nat → Int} {kd t ca m k : Nat} (h1 : kd ≠ 2) (h2 : f (63 + 8 * k) ≠ bsP f sv t ca m) : cdP f sv kd t ca m k = false := by
  cases e : cdP f sv kd t ca m k with
  | false => rfl
  | true => exact absurd (cdP_i e).2 (fun q => q.elim h1 h2)


abbrev r_s_isThere6 : Room := { frames := 0, cells := 0, slots := 0, locals := 0 }
abbrev q_s_isThere6 (D : va_G) (ks : KS) (ad : Nat → Nat) (kk : Nat → ClassId) (V : Vf) (L : Lf) (p0 : Int32) (bq : Nat) (gs : St) (gk : Nat) (A : Nat → Prop) : Array Value → State → Outcome → State → Prop := va_Qi (fun (r : Int32) (_ : Unit) => (0 ≤ r.toInt ∧ r.toInt ≤ 1) ∧ ((r.toInt = 1 ∧ thP gs.1 (svm V bq (gs.2.1 1).length) gk = true) ∨ (r.toInt = 0 ∧ thP gs.1 (svm V bq (gs.2.1 1).length) gk = false))) (fun _ t => gq D A (mw ad kk ks.1 V L) (mty kk) t) A
set_option maxHeartbeats 4000000 in
set_option maxRecDepth 100000 in
theorem s_isThere6 (l : Launch) (D : va_G) (ks : KS) (sz : Nat) (ad : Nat → Nat) (kk : Nat → ClassId) (V : Vf) (L : Lf) (p0 : Int32) (bq : Nat) (gs : St) (gk : Nat) (hMV : rgd bM V) (rg_p0 : 0 ≤ p0.toInt ∧ p0.toInt ≤ 23) (zq1 : (bq : Int) = (V 0 11).toInt) (pk : p0.toInt = (gk : Int)) (gkl : gk < (gs.2.1 2).length) (com : COM V bq gs) (ln : (V 19 bq).toInt = (((gs.2.1 2).length : Nat) : Int)) (wh : WHs gs)  : Met l yX12_isThere (Cond.code yX12_isThere cX12_isThere 3 (some .boolean) :: GW) r_s_isThere6 (va_Pc [.ref (ad 0), .int p0] (gp D ks (mw ad kk ks.1 V L) (mty kk) sz)) (q_s_isThere6 D ks ad kk V L p0 bq gs gk (va_A (mw ad kk ks.1 V L) sz)) 0 0 (va_A (mw ad kk ks.1 V L) sz) := by
  refine g_met (q_s_isThere6 D ks ad kk V L p0 bq gs gk) (by decide) (Nat.le_of_ble_eq_true rfl) ?_
  intro p e s m below meth c A ls H locs hx hb hr hml hown hg hlocks hin hnw hgk hP hK hD hS hA hl
  have hown : s.vm.findClass RX12 = some m.cls := hown
  have hl : lv_has ls 3 [(0, .ref (ad 0)), (1, .int p0)] := hl
  have hP : va_P D vwCl (mw ad kk ks.1 V L) H := hP
  have hD : va_D A (mw ad kk ks.1 V L) := hD
  have hK : va_K D vwCl (mty kk) s := hK
  have rf_p0 := i_full p0
  have r1 : 0 ≤ ((V 0 11)).toInt ∧ ((V 0 11)).toInt ≤ 1 := hMV 0 11
  have r2 : 0 ≤ ((V 19 bq)).toInt ∧ ((V 19 bq)).toInt ≤ 24 := hMV 19 bq
  have kb9 : Int32.toNatClampNeg (V 0 11) = bq := by have h9 := i_clamp (x := V 0 11) rfl (by (first | exact om_eafa9039069c r1.1 | omega)); (first | exact om_7d9cc8d6a75e zq1 h9 | omega)
  have q19 : (V 19 (Int32.toNatClampNeg (V 0 11))).toInt = (V 19 bq).toInt := by rw [kb9]
  refine lv_bipush (v := 24) hx hb dX12_isThere_0 (by decide) ?_
  refine lv_aload_n hx hb dX12_isThere_2 rfl (lv_at hl 0 rfl) ?_
  refine va_get (D := D) (ci := 12) (v := .int (V 0 11)) (C := RX12) (T := TX12) (N := 100) hx hb hg inX12 hown hK hP 0 rfl rfl 11 (by decide) (hg _ w1717) (fun _ h9 => h9) rfl dX12_isThere_3 ?_
  refine lv_imul hx hb dX12_isThere_6 ?_
  refine lv_topi (fun z3 ez3 => ?_)
  have hz3 : z3.toInt = 24 * ((V 0 11)).toInt := i_mul ez3 (by decide) rfl (by (first | exact om_3f8aba7b6ce1 r1.1 r1.2 | omega))
  refine lv_iload_n hx hb dX12_isThere_7 rfl (lv_at hl 1 rfl) ?_
  refine lv_iadd hx hb dX12_isThere_8 ?_
  refine lv_topi (fun z4 ez4 => ?_)
  have hz4 : z4.toInt = z3.toInt + p0.toInt := i_add ez4 rfl rfl (by (first | exact om_6c84dfc0d33f rg_p0.1 rg_p0.2 r1.1 r1.2 hz3 | omega))
  refine lv_istore_n (lv' := [(2, .int z4), (0, .ref (ad 0)), (1, .int p0)]) hx hb dX12_isThere_9 rfl hl (by decide) rfl (fun ls hl => ?_)
  have wk9 := wh gk gkl
  have kz6 : Int32.toNatClampNeg z4 = 24 * bq + gk := by have h9 := i_clamp (x := z4) rfl (by (first | exact om_11587583f9f8 rg_p0.1 r1.1 hz3 hz4 | omega)); (first | exact om_6020e1579ecd zq1 pk hz3 hz4 h9 | omega)
  have c25 : (V 25 (Int32.toNatClampNeg z4)).toInt + 1 = ((gs.1 (64 + 8 * gk) : Nat) : Int) := by rw [kz6]; exact (com gk gkl).1.2.2.2.2.1
  have c26 : gs.1 (64 + 8 * gk) ≠ 0 → (V 26 (Int32.toNatClampNeg z4)).toInt = ((gs.1 (65 + 8 * gk) : Nat) : Int) := by rw [kz6]; exact (com gk gkl).1.2.2.2.2.2
  refine lv_iload_n hx hb dX12_isThere_10 rfl (lv_at hl 2 rfl) ?_
  refine lv_if_lt (tgt := 68) hx hb dX12_isThere_11 (by decide) (fun c5 => ?_) (fun c5 => ?_)
  · skip
    have f6 : p0.toInt < 0 := b_lt rfl (by decide) c5
    exfalso; (first | exact om_1b10ca75f5f0 rg_p0.1 f6 | omega)
  · skip
    have f7 : 0 ≤ p0.toInt := b_nlt rfl (by decide) c5
    refine lv_iload_n hx hb dX12_isThere_14 rfl (lv_at hl 2 rfl) ?_
    refine lv_aload_n hx hb dX12_isThere_15 rfl (lv_at hl 1 rfl) ?_
    refine va_get (D := D) (ci := 12) (v := .ref (ad 19)) (C := RX12) (T := TX12) (N := 100) hx hb hg inX12 hown hK hP 0 rfl rfl 19 (by decide) (hg _ w1725) (fun _ h9 => h9) rfl dX12_isThere_16 ?_
    refine lv_aload_n hx hb dX12_isThere_19 rfl (lv_at hl 1 rfl) ?_
    refine va_get (D := D) (ci := 12) (v := .int (V 0 11)) (C := RX12) (T := TX12) (N := 100) hx hb hg inX12 hown hK hP 0 rfl rfl 11 (by decide) (hg _ w1717) (fun _ h9 => h9) rfl dX12_isThere_20 ?_
    refine va_iald (D := D) (i := (V 0 11)) hx hb hK hP 12 11 rfl rfl (i_in (a := ((V 0 11)).toInt) rfl (by (first | exact om_8367a84723c7 r1.1 r1.2 | omega))) dX12_isThere_23 ?_
    have r8 : 0 ≤ ((V 19 (Int32.toNatClampNeg (V 0 11)))).toInt ∧ ((V 19 (Int32.toNatClampNeg (V 0 11)))).toInt ≤ 24 := hMV 19 (Int32.toNatClampNeg (V 0 11))
    refine lv_icmp_ge (tgt := 68) hx hb dX12_isThere_24 (by decide) (fun c9 => ?_) (fun c9 => ?_)
    · skip
      have f10 : ((V 19 (Int32.toNatClampNeg (V 0 11)))).toInt ≤ p0.toInt := b_le rfl rfl c9
      refine lv_iconst (v := 0) hx hb dX12_isThere_68 (by decide) ?_
      exact W.zret (v := 0) hx hb hr rfl (fun t ht hW => ⟨⟨0, (), rfl, ⟨(by decide), (by exfalso; (first | exact om_461024ef9d0d pk gkl ln q19 f10 | omega))⟩, by rw [ht]; exact hP, va_K.moved hW.alike hK, hD⟩, hS.F ht⟩) hS.2.2 dX12_isThere_69
    · skip
      have f11 : p0.toInt < ((V 19 (Int32.toNatClampNeg (V 0 11)))).toInt := b_nle rfl rfl c9
      refine lv_aload_n hx hb dX12_isThere_27 rfl (lv_at hl 1 rfl) ?_
      refine va_get (D := D) (ci := 12) (v := .ref (ad 25)) (C := RX12) (T := TX12) (N := 100) hx hb hg inX12 hown hK hP 0 rfl rfl 25 (by decide) (hg _ w1731) (fun _ h9 => h9) rfl dX12_isThere_28 ?_
      refine lv_iload_n hx hb dX12_isThere_31 rfl (lv_at hl 0 rfl) ?_
      refine va_iald (D := D) (i := z4) hx hb hK hP 18 17 rfl rfl (i_in (a := z4.toInt) rfl (by (first | exact om_cf341bf82a51 rg_p0.1 rg_p0.2 r1.1 r1.2 hz3 hz4 | omega))) dX12_isThere_32 ?_
      have r12 : (-1) ≤ ((V 25 (Int32.toNatClampNeg z4))).toInt ∧ ((V 25 (Int32.toNatClampNeg z4))).toInt ≤ 11 := hMV 25 (Int32.toNatClampNeg z4)
      refine lv_if_lt (tgt := 64) hx hb dX12_isThere_33 (by decide) (fun c13 => ?_) (fun c13 => ?_)
      · skip
        have f14 : ((V 25 (Int32.toNatClampNeg z4))).toInt < 0 := b_lt rfl (by decide) c13
        refine lv_iconst (v := 1) hx hb dX12_isThere_64 (by decide) ?_
        refine lv_goto (tgt := 69) hx hb dX12_isThere_65 (by decide) ?_
        exact W.zret (v := 1) hx hb hr rfl (fun t ht hW => ⟨⟨1, (), rfl, ⟨(by decide), (Or.inl ⟨rfl, thP_0 (by omega)⟩)⟩, by rw [ht]; exact hP, va_K.moved hW.alike hK, hD⟩, hS.F ht⟩) hS.2.2 dX12_isThere_69
      · skip
        have f15 : 0 ≤ ((V 25 (Int32.toNatClampNeg z4))).toInt := b_nlt rfl (by decide) c13
        refine lv_aload_n hx hb dX12_isThere_36 rfl (lv_at hl 1 rfl) ?_
        refine va_get (D := D) (ci := 12) (v := .ref (ad 18)) (C := RX12) (T := TX12) (N := 100) hx hb hg inX12 hown hK hP 0 rfl rfl 18 (by decide) (hg _ w1724) (fun _ h9 => h9) rfl dX12_isThere_37 ?_
        refine lv_bipush (v := 12) hx hb dX12_isThere_40 (by decide) ?_
        refine lv_aload_n hx hb dX12_isThere_42 rfl (lv_at hl 1 rfl) ?_
        refine va_get (D := D) (ci := 12) (v := .int (V 0 11)) (C := RX12) (T := TX12) (N := 100) hx hb hg inX12 hown hK hP 0 rfl rfl 11 (by decide) (hg _ w1717) (fun _ h9 => h9) rfl dX12_isThere_43 ?_
        refine lv_imul hx hb dX12_isThere_46 ?_
        refine lv_topi (fun z16 ez16 => ?_)
        have hz16 : z16.toInt = 12 * ((V 0 11)).toInt := i_mul ez16 (by decide) rfl (by (first | exact om_630bd6ee60c3 r1.1 r1.2 | omega))
        refine lv_aload_n hx hb dX12_isThere_47 rfl (lv_at hl 1 rfl) ?_
        refine va_get (D := D) (ci := 12) (v := .ref (ad 25)) (C := RX12) (T := TX12) (N := 100) hx hb hg inX12 hown hK hP 0 rfl rfl 25 (by decide) (hg _ w1731) (fun _ h9 => h9) rfl dX12_isThere_48 ?_
        refine lv_iload_n hx hb dX12_isThere_51 rfl (lv_at hl 0 rfl) ?_
        refine va_iald (D := D) (i := z4) hx hb hK hP 18 17 rfl rfl (i_in (a := z4.toInt) rfl (by (first | exact om_cf341bf82a51 rg_p0.1 rg_p0.2 r1.1 r1.2 hz3 hz4 | omega))) dX12_isThere_52 ?_
        refine lv_iadd hx hb dX12_isThere_53 ?_
        refine lv_topi (fun z17 ez17 => ?_)
        have hz17 : z17.toInt = z16.toInt + ((V 25 (Int32.toNatClampNeg z4))).toInt := i_add ez17 rfl rfl (by (first | exact om_bb6d5a6aa1c4 r1.1 r1.2 r12.2 f15 hz16 | omega))
        refine va_iald (D := D) (i := z17) hx hb hK hP 11 10 rfl rfl (i_in (a := z17.toInt) rfl (by (first | exact om_d783ef134178 r1.1 r1.2 r12.2 f15 hz16 hz17 | omega))) dX12_isThere_54 ?_
        refine lv_aload_n hx hb dX12_isThere_55 rfl (lv_at hl 1 rfl) ?_
        refine va_get (D := D) (ci := 12) (v := .ref (ad 26)) (C := RX12) (T := TX12) (N := 100) hx hb hg inX12 hown hK hP 0 rfl rfl 26 (by decide) (hg _ w1732) (fun _ h9 => h9) rfl dX12_isThere_56 ?_
        refine lv_iload_n hx hb dX12_isThere_59 rfl (lv_at hl 0 rfl) ?_
        refine va_iald (D := D) (i := z4) hx hb hK hP 19 18 rfl rfl (i_in (a := z4.toInt) rfl (by (first | exact om_cf341bf82a51 rg_p0.1 rg_p0.2 r1.1 r1.2 hz3 hz4 | omega))) dX12_isThere_60 ?_
        refine lv_icmp_ne (tgt := 68) hx hb dX12_isThere_61 (by decide) (fun c18 => ?_) (fun c18 => ?_)
        · skip
          have f19 : ((V 18 (Int32.toNatClampNeg z17))).toInt ≠ ((V 26 (Int32.toNatClampNeg z4))).toInt := b_neq rfl rfl c18
          refine lv_iconst (v := 0) hx hb dX12_isThere_68 (by decide) ?_
          have nz9 : gs.1 (64 + 8 * gk) ≠ 0 := by omega
          have ki9 : 12 * bq + (gs.1 (64 + 8 * gk) - 1) = Int32.toNatClampNeg z17 := by have h9 := i_clamp (x := z17) rfl (by (first | exact om_e9ce31f03c7e r1.1 f15 hz16 hz17 | omega)); omega
          have sv9 : svm V bq (gs.2.1 1).length (gs.1 (64 + 8 * gk) - 1) = (V 18 (Int32.toNatClampNeg z17)).toInt := by unfold svm; rw [if_pos (show gs.1 (64 + 8 * gk) - 1 < (gs.2.1 1).length from by omega), ki9]
          exact W.zret (v := 0) hx hb hr rfl (fun t ht hW => ⟨⟨0, (), rfl, ⟨(by decide), (Or.inr ⟨rfl, thP_n nz9 sv9 (c26 nz9).symm (by omega)⟩)⟩, by rw [ht]; exact hP, va_K.moved hW.alike hK, hD⟩, hS.F ht⟩) hS.2.2 dX12_isThere_69
        · skip
          have f20 : ((V 18 (Int32.toNatClampNeg z17))).toInt = ((V 26 (Int32.toNatClampNeg z4))).toInt := b_eq rfl rfl c18
          refine lv_iconst (v := 1) hx hb dX12_isThere_64 (by decide) ?_
          refine lv_goto (tgt := 69) hx hb dX12_isThere_65 (by decide) ?_
          have nz9 : gs.1 (64 + 8 * gk) ≠ 0 := by omega
          have ki9 : 12 * bq + (gs.1 (64 + 8 * gk) - 1) = Int32.toNatClampNeg z17 := by have h9 := i_clamp (x := z17) rfl (by (first | exact om_e9ce31f03c7e r1.1 f15 hz16 hz17 | omega)); omega
          have sv9 : svm V bq (gs.2.1 1).length (gs.1 (64 + 8 * gk) - 1) = (V 18 (Int32.toNatClampNeg z17)).toInt := by unfold svm; rw [if_pos (show gs.1 (64 + 8 * gk) - 1 < (gs.2.1 1).length from by omega), ki9]
          exact W.zret (v := 1) hx hb hr rfl (fun t ht hW => ⟨⟨1, (), rfl, ⟨(by decide), (Or.inl ⟨rfl, thP_y nz9 sv9 (c26 nz9).symm (by omega)⟩)⟩, by rw [ht]; exact hP, va_K.moved hW.alike hK, hD⟩, hS.F ht⟩) hS.2.2 dX12_isThere_69
abbrev r_s_suits6 : Room := { frames := 1, cells := 0, slots := 0, locals := 22 }
abbrev q_s_suits6 (D : va_G) (ks : KS) (ad : Nat → Nat) (kk : Nat → ClassId) (V : Vf) (L : Lf) (p0 : Int32) (p1 : Int32) (bq : Nat) (gs : St) (gc : Nat) (gj : Nat) (gk : Nat) (A : Nat → Prop) : Array Value → State → Outcome → State → Prop := va_Qi (fun (r : Int32) (_ : Unit) => (0 ≤ r.toInt ∧ r.toInt ≤ 1) ∧ ((r.toInt = 1 ∧ suP gs.1 (svm V bq (gs.2.1 1).length) (gs.1 (300 + 32 * gc + 4 * gj)) (gs.1 (302 + 32 * gc + 4 * gj)) gk = true) ∨ (r.toInt = 0 ∧ suP gs.1 (svm V bq (gs.2.1 1).length) (gs.1 (300 + 32 * gc + 4 * gj)) (gs.1 (302 + 32 * gc + 4 * gj)) gk = false))) (fun _ t => gq D A (mw ad kk ks.1 V L) (mty kk) t) A
set_option maxHeartbeats 4000000 in
set_option maxRecDepth 100000 in
theorem s_suits6 (l : Launch) (D : va_G) (ks : KS) (sz : Nat) (ad : Nat → Nat) (kk : Nat → ClassId) (V : Vf) (L : Lf) (p0 : Int32) (p1 : Int32) (bq : Nat) (gs : St) (gc : Nat) (gj : Nat) (gk : Nat) (hMV : rgd bM V) (rg_p0 : 0 ≤ p0.toInt ∧ p0.toInt ≤ 383) (rg_p1 : 0 ≤ p1.toInt ∧ p1.toInt ≤ 23) (zq1 : (bq : Int) = (V 0 11).toInt) (pn : p0.toInt = ((8 * (24 * bq + gc) + gj : Nat) : Int)) (gcl : gc < (gs.2.1 2).length) (gjl : gj < gs.1 (66 + 8 * gc)) (t24 : (gs.1 (300 + 32 * gc + 4 * gj)) < 24) (pk : p1.toInt = (gk : Int)) (gkl : gk < (gs.2.1 2).length) (com : COM V bq gs) (ln : (V 19 bq).toInt = (((gs.2.1 2).length : Nat) : Int)) (wh : WHs gs)  : Met l yX12_suits (Cond.code yX12_suits cX12_suits 4 (some .boolean) :: GW) r_s_suits6 (va_Pc [.ref (ad 0), .int p0, .int p1] (gp D ks (mw ad kk ks.1 V L) (mty kk) sz)) (q_s_suits6 D ks ad kk V L p0 p1 bq gs gc gj gk (va_A (mw ad kk ks.1 V L) sz)) 0 0 (va_A (mw ad kk ks.1 V L) sz) := by
  refine g_met (q_s_suits6 D ks ad kk V L p0 p1 bq gs gc gj gk) (by decide) (Nat.le_of_ble_eq_true rfl) ?_
  intro p e s m below meth c A ls H locs hx hb hr hml hown hg hlocks hin hnw hgk hP hK hD hS hA hl
  have hown : s.vm.findClass RX12 = some m.cls := hown
  have hl : lv_has ls 4 [(0, .ref (ad 0)), (1, .int p0), (2, .int p1)] := hl
  have hP : va_P D vwCl (mw ad kk ks.1 V L) H := hP
  have hD : va_D A (mw ad kk ks.1 V L) := hD
  have hK : va_K D vwCl (mty kk) s := hK
  have rf_p0 := i_full p0
  have rf_p1 := i_full p1
  have r1 : 0 ≤ ((V 0 11)).toInt ∧ ((V 0 11)).toInt ≤ 1 := hMV 0 11
  have r2 : 0 ≤ ((V 19 bq)).toInt ∧ ((V 19 bq)).toInt ≤ 24 := hMV 19 bq
  have kb9 : Int32.toNatClampNeg (V 0 11) = bq := by have h9 := i_clamp (x := V 0 11) rfl (by (first | exact om_eafa9039069c r1.1 | omega)); (first | exact om_7d9cc8d6a75e zq1 h9 | omega)
  have q19 : (V 19 (Int32.toNatClampNeg (V 0 11))).toInt = (V 19 bq).toInt := by rw [kb9]
  have kn9 : Int32.toNatClampNeg p0 = 8 * (24 * bq + gc) + gj := by have h9 := i_clamp (x := p0) rfl (by (first | exact om_182388153525 zq1 pn r1.1 | omega)); (first | exact om_36d4c83bf4b2 pn h9 | omega)
  have ne9 := (com gc gcl).2.2.2 gj gjl
  unfold NEm at ne9
  rw [← kn9] at ne9
  have n28 := ne9.1
  have n29 := ne9.2.1
  have n30 := ne9.2.2.1
  have n31 := ne9.2.2.2
  refine lv_bipush (v := 24) hx hb dX12_suits_0 (by decide) ?_
  refine lv_aload_n hx hb dX12_suits_2 rfl (lv_at hl 0 rfl) ?_
  refine va_get (D := D) (ci := 12) (v := .int (V 0 11)) (C := RX12) (T := TX12) (N := 100) hx hb hg inX12 hown hK hP 0 rfl rfl 11 (by decide) (hg _ w1717) (fun _ h9 => h9) rfl dX12_suits_3 ?_
  refine lv_imul hx hb dX12_suits_6 ?_
  refine lv_topi (fun z3 ez3 => ?_)
  have hz3 : z3.toInt = 24 * ((V 0 11)).toInt := i_mul ez3 (by decide) rfl (by (first | exact om_3f8aba7b6ce1 r1.1 r1.2 | omega))
  refine lv_iload_n hx hb dX12_suits_7 rfl (lv_at hl 2 rfl) ?_
  refine lv_iadd hx hb dX12_suits_8 ?_
  refine lv_topi (fun z4 ez4 => ?_)
  have hz4 : z4.toInt = z3.toInt + p1.toInt := i_add ez4 rfl rfl (by (first | exact om_6c84dfc0d33f rg_p1.1 rg_p1.2 r1.1 r1.2 hz3 | omega))
  refine lv_istore_n (lv' := [(3, .int z4), (0, .ref (ad 0)), (1, .int p0), (2, .int p1)]) hx hb dX12_suits_9 rfl hl (by decide) rfl (fun ls hl => ?_)
  have kz6 : Int32.toNatClampNeg z4 = 24 * bq + gk := by have h9 := i_clamp (x := z4) rfl (by (first | exact om_11587583f9f8 rg_p1.1 r1.1 hz3 hz4 | omega)); (first | exact om_6020e1579ecd zq1 pk hz3 hz4 h9 | omega)
  have c23 : (V 23 (Int32.toNatClampNeg z4)).toInt + 1 = ((gs.1 (62 + 8 * gk) : Nat) : Int) := by rw [kz6]; exact (com gk gkl).1.2.2.1
  refine lv_aload_n hx hb dX12_suits_10 rfl (lv_at hl 1 rfl) ?_
  refine lv_iload_n hx hb dX12_suits_11 rfl (lv_at hl 3 rfl) ?_
  refine gA_int (gA_runV (As := [.int p1]) (rest := []) (ci := 12) (q0 := 0) hx hb hml hown hg hP hD hK hS hA hnw hgk (s_isThere6 l D ks H.size ad kk V L p1 (bq) (gs) (gk) hMV (by (first | exact om_d3435e1acec6 rg_p1.1 rg_p1.2 | omega)) (show ((bq) : Int) = (V 0 11).toInt from by (first | exact om_639da7453e33 zq1 | omega)) (show p1.toInt = ((gk) : Int) from by (first | exact om_08e0c9701055 pk | omega)) gkl com (show (V 19 (bq)).toInt = ((((gs).2.1 2).length : Nat) : Int) from by (first | exact om_08e0c9701055 ln | omega)) wh) w2164 w2166 w117 w172 w2167 rfl rfl hdV_yX12_isThere ⟨Nat.le_of_ble_eq_true rfl, Nat.le_of_ble_eq_true rfl⟩ rfl hl.1 rfl (Nat.le_of_ble_eq_true rfl) dX12_suits_12 ⟨Nat.le_of_ble_eq_true rfl, Nat.le_of_ble_eq_true rfl⟩) hP hD hK hS hA (fun z5 u6 H locs w7 hP hD hK hS => ?_)
  obtain ⟨rgz5, t8⟩ := w7
  have rgz5 : 0 ≤ z5.toInt ∧ z5.toInt ≤ 1 := rgz5
  have t8 : (z5.toInt = 1 ∧ thP (gs).1 (svm V (bq) ((gs).2.1 1).length) (gk) = true) ∨ (z5.toInt = 0 ∧ thP (gs).1 (svm V (bq) ((gs).2.1 1).length) (gk) = false) := t8
  refine lv_if_eq (tgt := 65) hx hb dX12_suits_15 (by decide) (fun c9 => ?_) (fun c9 => ?_)
  · skip
    have f10 : z5.toInt = 0 := b_eq rfl (by decide) c9
    refine lv_iconst (v := 0) hx hb dX12_suits_65 (by decide) ?_
    exact W.zret (v := 0) hx hb hr rfl (fun t ht hW => ⟨⟨0, (), rfl, ⟨(by decide), (Or.inr ⟨rfl, suP_3 (t8.resolve_left (fun h9 => by have h8 := h9.1; omega)).2⟩)⟩, by rw [ht]; exact hP, va_K.moved hW.alike hK, hD⟩, hS.F ht⟩) hS.2.2 dX12_suits_66
  · skip
    have f11 : z5.toInt ≠ 0 := b_neq rfl (by decide) c9
    refine lv_aload_n hx hb dX12_suits_18 rfl (lv_at hl 1 rfl) ?_
    refine va_get (D := D) (ci := 12) (v := .ref (ad 21)) (C := RX12) (T := TX12) (N := 100) hx hb hg inX12 hown hK hP 0 rfl rfl 21 (by decide) (hg _ w1727) (fun _ h9 => h9) rfl dX12_suits_19 ?_
    refine lv_bipush (v := 24) hx hb dX12_suits_22 (by decide) ?_
    refine lv_iload_n hx hb dX12_suits_24 rfl (lv_at hl 0 rfl) ?_
    refine lv_imul hx hb dX12_suits_25 ?_
    refine lv_topi (fun z12 ez12 => ?_)
    have hz12 : z12.toInt = 24 * z4.toInt := i_mul ez12 (by decide) rfl (by (first | exact om_1cede0128ad6 rg_p1.1 rg_p1.2 r1.1 r1.2 hz3 hz4 | omega))
    refine lv_aload_n hx hb dX12_suits_26 rfl (lv_at hl 1 rfl) ?_
    refine va_get (D := D) (ci := 12) (v := .ref (ad 28)) (C := RX12) (T := TX12) (N := 100) hx hb hg inX12 hown hK hP 0 rfl rfl 28 (by decide) (hg _ w1734) (fun _ h9 => h9) rfl dX12_suits_27 ?_
    refine lv_iload_n hx hb dX12_suits_30 rfl (lv_at hl 2 rfl) ?_
    refine va_iald (D := D) (i := p0) hx hb hK hP 21 20 rfl rfl (i_in (a := p0.toInt) rfl (by (first | exact om_e6a7e1f184db rg_p0.2 zq1 pn r1.1 | omega))) dX12_suits_31 ?_
    have r13 : (-1) ≤ ((V 28 (Int32.toNatClampNeg p0))).toInt ∧ ((V 28 (Int32.toNatClampNeg p0))).toInt ≤ 23 := hMV 28 (Int32.toNatClampNeg p0)
    refine lv_iadd hx hb dX12_suits_32 ?_
    refine lv_topi (fun z14 ez14 => ?_)
    have hz14 : z14.toInt = z12.toInt + ((V 28 (Int32.toNatClampNeg p0))).toInt := i_add ez14 rfl rfl (by (first | exact om_d1ddbc5655c0 rg_p1.1 rg_p1.2 r1.1 r1.2 hz3 hz4 hz12 r13.1 r13.2 | omega))
    have kt6 : Int32.toNatClampNeg z14 = 24 * (24 * bq + gk) + (gs.1 (300 + 32 * gc + 4 * gj)) := by have h9 := i_clamp (x := z14) rfl (by omega); omega
    have bt6 : (V 21 (Int32.toNatClampNeg z14)).toInt = 1 ↔ (gs.1 (60 + 8 * gk)).testBit (gs.1 (300 + 32 * gc + 4 * gj)) = true := by rw [kt6]; exact (com gk gkl).1.1 (gs.1 (300 + 32 * gc + 4 * gj)) t24
    refine va_zald (D := D) (i := z14) hx hb hK hP 14 13 rfl rfl (i_in (a := z14.toInt) rfl (by omega)) dX12_suits_33 ?_
    have r15 : 0 ≤ ((V 21 (Int32.toNatClampNeg z14))).toInt ∧ ((V 21 (Int32.toNatClampNeg z14))).toInt ≤ 1 := hMV 21 (Int32.toNatClampNeg z14)
    refine lv_if_eq (tgt := 65) hx hb dX12_suits_34 (by decide) (fun c16 => ?_) (fun c16 => ?_)
    · skip
      have f17 : ((V 21 (Int32.toNatClampNeg z14))).toInt = 0 := b_eq rfl (by decide) c16
      refine lv_iconst (v := 0) hx hb dX12_suits_65 (by decide) ?_
      exact W.zret (v := 0) hx hb hr rfl (fun t ht hW => ⟨⟨0, (), rfl, ⟨(by decide), (Or.inr ⟨rfl, suP_1 (by cases e9 : (gs.1 (60 + 8 * gk)).testBit (gs.1 (300 + 32 * gc + 4 * gj)); rfl; exact absurd (bt6.mpr e9) (by omega))⟩)⟩, by rw [ht]; exact hP, va_K.moved hW.alike hK, hD⟩, hS.F ht⟩) hS.2.2 dX12_suits_66
    · skip
      have f18 : ((V 21 (Int32.toNatClampNeg z14))).toInt ≠ 0 := b_neq rfl (by decide) c16
      refine lv_aload_n hx hb dX12_suits_37 rfl (lv_at hl 1 rfl) ?_
      refine va_get (D := D) (ci := 12) (v := .ref (ad 31)) (C := RX12) (T := TX12) (N := 100) hx hb hg inX12 hown hK hP 0 rfl rfl 31 (by decide) (hg _ w1737) (fun _ h9 => h9) rfl dX12_suits_38 ?_
      refine lv_iload_n hx hb dX12_suits_41 rfl (lv_at hl 2 rfl) ?_
      refine va_iald (D := D) (i := p0) hx hb hK hP 24 23 rfl rfl (i_in (a := p0.toInt) rfl (by (first | exact om_e6a7e1f184db rg_p0.2 zq1 pn r1.1 | omega))) dX12_suits_42 ?_
      refine lv_if_lt (tgt := 61) hx hb dX12_suits_43 (by decide) (fun c19 => ?_) (fun c19 => ?_)
      · skip
        have f20 : ((V 31 (Int32.toNatClampNeg p0))).toInt < 0 := b_lt rfl (by decide) c19
        refine lv_iconst (v := 1) hx hb dX12_suits_61 (by decide) ?_
        refine lv_goto (tgt := 66) hx hb dX12_suits_62 (by decide) ?_
        exact W.zret (v := 1) hx hb hr rfl (fun t ht hW => ⟨⟨1, (), rfl, ⟨(by decide), (Or.inl ⟨rfl, suP_y (bt6.mp (by omega)) (by omega) (t8.resolve_right (fun h9 => by have h8 := h9.1; omega)).2⟩)⟩, by rw [ht]; exact hP, va_K.moved hW.alike hK, hD⟩, hS.F ht⟩) hS.2.2 dX12_suits_66
      · skip
        have f21 : 0 ≤ ((V 31 (Int32.toNatClampNeg p0))).toInt := b_nlt rfl (by decide) c19
        refine lv_aload_n hx hb dX12_suits_46 rfl (lv_at hl 1 rfl) ?_
        refine va_get (D := D) (ci := 12) (v := .ref (ad 23)) (C := RX12) (T := TX12) (N := 100) hx hb hg inX12 hown hK hP 0 rfl rfl 23 (by decide) (hg _ w1729) (fun _ h9 => h9) rfl dX12_suits_47 ?_
        refine lv_iload_n hx hb dX12_suits_50 rfl (lv_at hl 0 rfl) ?_
        refine va_iald (D := D) (i := z4) hx hb hK hP 16 15 rfl rfl (i_in (a := z4.toInt) rfl (by (first | exact om_cf341bf82a51 rg_p1.1 rg_p1.2 r1.1 r1.2 hz3 hz4 | omega))) dX12_suits_51 ?_
        refine lv_aload_n hx hb dX12_suits_52 rfl (lv_at hl 1 rfl) ?_
        refine va_get (D := D) (ci := 12) (v := .ref (ad 31)) (C := RX12) (T := TX12) (N := 100) hx hb hg inX12 hown hK hP 0 rfl rfl 31 (by decide) (hg _ w1737) (fun _ h9 => h9) rfl dX12_suits_53 ?_
        refine lv_iload_n hx hb dX12_suits_56 rfl (lv_at hl 2 rfl) ?_
        refine va_iald (D := D) (i := p0) hx hb hK hP 24 23 rfl rfl (i_in (a := p0.toInt) rfl (by (first | exact om_e6a7e1f184db rg_p0.2 zq1 pn r1.1 | omega))) dX12_suits_57 ?_
        refine lv_icmp_ne (tgt := 65) hx hb dX12_suits_58 (by decide) (fun c22 => ?_) (fun c22 => ?_)
        · skip
          have f23 : ((V 23 (Int32.toNatClampNeg z4))).toInt ≠ ((V 31 (Int32.toNatClampNeg p0))).toInt := b_neq rfl rfl c22
          refine lv_iconst (v := 0) hx hb dX12_suits_65 (by decide) ?_
          exact W.zret (v := 0) hx hb hr rfl (fun t ht hW => ⟨⟨0, (), rfl, ⟨(by decide), (Or.inr ⟨rfl, suP_2 (by omega) (by omega)⟩)⟩, by rw [ht]; exact hP, va_K.moved hW.alike hK, hD⟩, hS.F ht⟩) hS.2.2 dX12_suits_66
        · skip
          have f24 : ((V 23 (Int32.toNatClampNeg z4))).toInt = ((V 31 (Int32.toNatClampNeg p0))).toInt := b_eq rfl rfl c22
          refine lv_iconst (v := 1) hx hb dX12_suits_61 (by decide) ?_
          refine lv_goto (tgt := 66) hx hb dX12_suits_62 (by decide) ?_
          exact W.zret (v := 1) hx hb hr rfl (fun t ht hW => ⟨⟨1, (), rfl, ⟨(by decide), (Or.inl ⟨rfl, suP_y (bt6.mp (by omega)) (by omega) (t8.resolve_right (fun h9 => by have h8 := h9.1; omega)).2⟩)⟩, by rw [ht]; exact hP, va_K.moved hW.alike hK, hD⟩, hS.F ht⟩) hS.2.2 dX12_suits_66
abbrev r_s_candidatesOf6 : Room := { frames := 2, cells := 0, slots := 0, locals := 45 }
abbrev q_s_candidatesOf6 (D : va_G) (ks : KS) (ad : Nat → Nat) (kk : Nat → ClassId) (V : Vf) (L : Lf) (p0 : Int32) (bq : Nat) (gs : St) (gc : Nat) (gj : Nat) (A : Nat → Prop) : Array Value → State → Outcome → State → Prop := va_Qi (fun (r : Int32) (u : Vf × Lf) => rgd bM u.1 ∧ agr [] [80] V u.1 ∧ u.2 = L ∧ (0 ≤ r.toInt ∧ r.toInt ≤ 24) ∧ (CLV u.1 80 (CLP gs.1 (svm V bq (gs.2.1 1).length) (gs.1 (301 + 32 * gc + 4 * gj)) (gs.1 (300 + 32 * gc + 4 * gj)) (gs.1 (302 + 32 * gc + 4 * gj)) (gs.2.1 2).length (gs.2.1 2).length) r.toInt)) (fun u t => gq D A (mw ad kk ks.1 u.1 u.2) (mty kk) t) A
set_option maxHeartbeats 4000000 in
set_option maxRecDepth 100000 in
theorem s_candidatesOf6 (l : Launch) (D : va_G) (ks : KS) (sz : Nat) (ad : Nat → Nat) (kk : Nat → ClassId) (V : Vf) (L : Lf) (p0 : Int32) (bq : Nat) (gs : St) (gc : Nat) (gj : Nat) (hMV : rgd bM V) (rg_p0 : 0 ≤ p0.toInt ∧ p0.toInt ≤ 383) (zq1 : (bq : Int) = (V 0 11).toInt) (pn : p0.toInt = ((8 * (24 * bq + gc) + gj : Nat) : Int)) (gcl : gc < (gs.2.1 2).length) (gjl : gj < gs.1 (66 + 8 * gc)) (t24 : (gs.1 (300 + 32 * gc + 4 * gj)) < 24) (com : COM V bq gs) (ln : (V 19 bq).toInt = (((gs.2.1 2).length : Nat) : Int)) (wh : WHs gs)  : Met l yX12_candidatesOf (Cond.code yX12_candidatesOf cX12_candidatesOf 5 (some .int) :: GW) r_s_candidatesOf6 (va_Pc [.ref (ad 0), .int p0] (gp D ks (mw ad kk ks.1 V L) (mty kk) sz)) (q_s_candidatesOf6 D ks ad kk V L p0 bq gs gc gj (va_A (mw ad kk ks.1 V L) sz)) 0 0 (va_A (mw ad kk ks.1 V L) sz) := by
  refine g_met (q_s_candidatesOf6 D ks ad kk V L p0 bq gs gc gj) (by decide) (Nat.le_of_ble_eq_true rfl) ?_
  intro p e s m below meth c A ls H locs hx hb hr hml hown hg hlocks hin hnw hgk hP hK hD hS hA hl
  have hown : s.vm.findClass RX12 = some m.cls := hown
  have hl : lv_has ls 5 [(0, .ref (ad 0)), (1, .int p0)] := hl
  have hP : va_P D vwCl (mw ad kk ks.1 V L) H := hP
  have hD : va_D A (mw ad kk ks.1 V L) := hD
  have hK : va_K D vwCl (mty kk) s := hK
  have agV : agr [] [80] V V := agr.rf
  have rf_p0 := i_full p0
  have r1 : 0 ≤ ((V 0 11)).toInt ∧ ((V 0 11)).toInt ≤ 1 := hMV 0 11
  have r2 : 0 ≤ ((V 19 bq)).toInt ∧ ((V 19 bq)).toInt ≤ 24 := hMV 19 bq
  have kb9 : Int32.toNatClampNeg (V 0 11) = bq := by have h9 := i_clamp (x := V 0 11) rfl (by (first | exact om_eafa9039069c r1.1 | omega)); (first | exact om_7d9cc8d6a75e zq1 h9 | omega)
  have q19 : (V 19 (Int32.toNatClampNeg (V 0 11))).toInt = (V 19 bq).toInt := by rw [kb9]
  have kn9 : Int32.toNatClampNeg p0 = 8 * (24 * bq + gc) + gj := by have h9 := i_clamp (x := p0) rfl (by (first | exact om_182388153525 zq1 pn r1.1 | omega)); (first | exact om_36d4c83bf4b2 pn h9 | omega)
  have ne9 := (com gc gcl).2.2.2 gj gjl
  unfold NEm at ne9
  rw [← kn9] at ne9
  have n28 := ne9.1
  have n29 := ne9.2.1
  have n30 := ne9.2.2.1
  have n31 := ne9.2.2.2
  refine lv_iconst (v := 0) hx hb dX12_candidatesOf_0 (by decide) ?_
  refine lv_istore_n (lv' := [(2, .int 0), (0, .ref (ad 0)), (1, .int p0)]) hx hb dX12_candidatesOf_1 rfl hl (by decide) rfl (fun ls hl => ?_)
  refine lv_iconst (v := 0) hx hb dX12_candidatesOf_2 (by decide) ?_
  refine lv_istore_n (lv' := [(3, .int 0), (2, .int 0), (0, .ref (ad 0)), (1, .int p0)]) hx hb dX12_candidatesOf_3 rfl hl (by decide) rfl (fun ls hl => ?_)
  have lp5 : ∀ (fulp5 : Nat) (y3 : Int32) (y4 : Int32) (H : Heap) (locs : List Loc) (ls : Array Slot), 0 ≤ y3.toInt ∧ y3.toInt ≤ 24 → 0 ≤ y4.toInt ∧ y4.toInt ≤ 9 → (y4.toInt = ((bsP gs.1 (svm V bq (gs.2.1 1).length) (gs.1 (300 + 32 * gc + 4 * gj)) (gs.1 (302 + 32 * gc + 4 * gj)) y3.toInt.toNat : Nat) : Int)) → y3.toInt ≤ (((gs.2.1 2).length : Nat) : Int) → 24 - y3.toInt < (fulp5 : Int) → va_P D vwCl (mw ad kk ks.1 V L) H → va_D A (mw ad kk ks.1 V L) → va_S A s.heap H locs → lv_has ls 5 [(3, .int y3), (2, .int y4), (0, .ref (ad 0)), (1, .int p0)] → W p l e r_s_candidatesOf6 s m ([.ref (ad 0), .int p0] : List Value).toArray below meth c H locs 0 0 (MQ below (q_s_candidatesOf6 D ks ad kk V L p0 bq gs gc gj A) ([.ref (ad 0), .int p0] : List Value).toArray s 0 0 A) (F0 m 4 ls []) := by
    intro fulp5
    induction fulp5 with
    | zero =>
      intro y3 y4 H locs ls klp5_0 klp5_1 xlp5_0 xlp5_1 hn  hP hD hS hl
      exfalso; (first | exact om_9386ef0df612 klp5_0.2 hn | omega)
    | succ fulp5 ihlp5 =>
      intro y3 y4 H locs ls klp5_0 klp5_1 xlp5_0 xlp5_1 hn  hP hD hS hl
      refine lv_iload_n hx hb dX12_candidatesOf_4 rfl (lv_at hl 0 rfl) ?_
      refine lv_aload_n hx hb dX12_candidatesOf_5 rfl (lv_at hl 2 rfl) ?_
      refine va_get (D := D) (ci := 12) (v := .ref (ad 19)) (C := RX12) (T := TX12) (N := 100) hx hb hg inX12 hown hK hP 0 rfl rfl 19 (by decide) (hg _ w1725) (fun _ h9 => h9) rfl dX12_candidatesOf_6 ?_
      refine lv_aload_n hx hb dX12_candidatesOf_9 rfl (lv_at hl 2 rfl) ?_
      refine va_get (D := D) (ci := 12) (v := .int (V 0 11)) (C := RX12) (T := TX12) (N := 100) hx hb hg inX12 hown hK hP 0 rfl rfl 11 (by decide) (hg _ w1717) (fun _ h9 => h9) rfl dX12_candidatesOf_10 ?_
      refine va_iald (D := D) (i := (V 0 11)) hx hb hK hP 12 11 rfl rfl (i_in (a := ((V 0 11)).toInt) rfl (by (first | exact om_8367a84723c7 r1.1 r1.2 | omega))) dX12_candidatesOf_13 ?_
      have r6 : 0 ≤ ((V 19 (Int32.toNatClampNeg (V 0 11)))).toInt ∧ ((V 19 (Int32.toNatClampNeg (V 0 11)))).toInt ≤ 24 := hMV 19 (Int32.toNatClampNeg (V 0 11))
      refine lv_icmp_ge (tgt := 69) hx hb dX12_candidatesOf_14 (by decide) (fun c7 => ?_) (fun c7 => ?_)
      · skip
        have f8 : ((V 19 (Int32.toNatClampNeg (V 0 11)))).toInt ≤ y3.toInt := b_le rfl rfl c7
        have bb9 : y4.toInt = ((bsP gs.1 (svm V bq (gs.2.1 1).length) (gs.1 (300 + 32 * gc + 4 * gj)) (gs.1 (302 + 32 * gc + 4 * gj)) (gs.2.1 2).length : Nat) : Int) := by have h9 := xlp5_0; rw [show y3.toInt.toNat = (gs.2.1 2).length from by omega] at h9; exact h9
        refine lv_iconst (v := 0) hx hb dX12_candidatesOf_69 (by decide) ?_
        refine lv_istore_n (lv' := [(3, .int 0), (2, .int y4), (0, .ref (ad 0)), (1, .int p0)]) hx hb dX12_candidatesOf_70 rfl hl (by decide) rfl (fun ls hl => ?_)
        refine lv_iconst (v := 0) hx hb dX12_candidatesOf_71 (by decide) ?_
        refine lv_istore (lv' := [(4, .int 0), (3, .int 0), (2, .int y4), (0, .ref (ad 0)), (1, .int p0)]) hx hb dX12_candidatesOf_72 hl (by decide) rfl (fun ls hl => ?_)
        have lp13 : ∀ (fulp13 : Nat) (y10 : Int32) (y11 : Int32) (V12 : Vf) (H : Heap) (locs : List Loc) (ls : Array Slot), 0 ≤ y10.toInt ∧ y10.toInt ≤ 24 → 0 ≤ y11.toInt ∧ y11.toInt ≤ 24 → (CLV V12 80 (CLP gs.1 (svm V bq (gs.2.1 1).length) (gs.1 (301 + 32 * gc + 4 * gj)) (gs.1 (300 + 32 * gc + 4 * gj)) (gs.1 (302 + 32 * gc + 4 * gj)) (gs.2.1 2).length y10.toInt.toNat) y11.toInt) → y10.toInt ≤ (((gs.2.1 2).length : Nat) : Int) → y11.toInt ≤ y10.toInt → 24 - y10.toInt < (fulp13 : Int) → agr [] [80] V V12 → rgd bM V12 → va_P D vwCl (mw ad kk ks.1 V12 L) H → va_D A (mw ad kk ks.1 V12 L) → va_S A s.heap H locs → lv_has ls 5 [(4, .int y10), (3, .int y11), (2, .int y4), (0, .ref (ad 0)), (1, .int p0)] → W p l e r_s_candidatesOf6 s m ([.ref (ad 0), .int p0] : List Value).toArray below meth c H locs 0 0 (MQ below (q_s_candidatesOf6 D ks ad kk V L p0 bq gs gc gj A) ([.ref (ad 0), .int p0] : List Value).toArray s 0 0 A) (F0 m 74 ls []) := by
          intro fulp13
          induction fulp13 with
          | zero =>
            intro y10 y11 V12 H locs ls klp13_0 klp13_1 xlp13_0 xlp13_1 xlp13_2 hn ajV12 hMV12 hP hD hS hl
            exfalso; (first | exact om_9386ef0df612 klp13_0.2 hn | omega)
          | succ fulp13 ihlp13 =>
            intro y10 y11 V12 H locs ls klp13_0 klp13_1 xlp13_0 xlp13_1 xlp13_2 hn ajV12 hMV12 hP hD hS hl
            have agV12 : agr [] [80] V V12 := agV.tr ajV12 (by decide) (by decide)
            refine lv_iload hx hb dX12_candidatesOf_74 (lv_at hl 0 rfl) ?_
            refine lv_aload_n hx hb dX12_candidatesOf_76 rfl (lv_at hl 3 rfl) ?_
            refine va_get (D := D) (ci := 12) (v := .ref (ad 19)) (C := RX12) (T := TX12) (N := 100) hx hb hg inX12 hown hK hP 0 rfl rfl 19 (by decide) (hg _ w1725) (fun _ h9 => h9) rfl dX12_candidatesOf_77 ?_
            refine lv_aload_n hx hb dX12_candidatesOf_80 rfl (lv_at hl 3 rfl) ?_
            refine va_get (D := D) (ci := 12) (v := .int (V12 0 11)) (C := RX12) (T := TX12) (N := 100) hx hb hg inX12 hown hK hP 0 rfl rfl 11 (by decide) (hg _ w1717) (fun _ h9 => h9) rfl dX12_candidatesOf_81 ?_
            refine g_top (v := (V 0 11)) (ajV12 0 11 rfl) ?_
            refine va_iald (D := D) (i := (V 0 11)) hx hb hK hP 12 11 rfl rfl (i_in (a := ((V 0 11)).toInt) rfl (by (first | exact om_8367a84723c7 r1.1 r1.2 | omega))) dX12_candidatesOf_84 ?_
            refine g_top (v := (V 19 (Int32.toNatClampNeg (V 0 11)))) (ajV12 19 (Int32.toNatClampNeg (V 0 11)) rfl) ?_
            refine lv_icmp_ge (tgt := 143) hx hb dX12_candidatesOf_85 (by decide) (fun c14 => ?_) (fun c14 => ?_)
            · skip
              have f15 : ((V 19 (Int32.toNatClampNeg (V 0 11)))).toInt ≤ y10.toInt := b_le rfl rfl c14
              refine lv_iload_n hx hb dX12_candidatesOf_143 rfl (lv_at hl 1 rfl) ?_
              exact W.iret (v := y11) hx hb hr (fun t ht hW => ⟨⟨y11, (V12, L), rfl, ⟨hMV12, agV12, rfl, (show 0 ≤ y11.toInt ∧ y11.toInt ≤ 24 from by (first | exact om_dc10c6d48ea2 ln q19 r6.2 klp13_1.1 xlp13_1 xlp13_2 | omega)), (by have h9 := xlp13_0; rw [show y10.toInt.toNat = (gs.2.1 2).length from by omega] at h9; exact h9)⟩, by rw [ht]; exact hP, va_K.moved hW.alike hK, hD⟩, hS.F ht⟩) hS.2.2 dX12_candidatesOf_144
            · skip
              have f16 : y10.toInt < ((V 19 (Int32.toNatClampNeg (V 0 11)))).toInt := b_nle rfl rfl c14
              have kk17 := i_clamp (x := y10) rfl (by (first | exact om_eafa9039069c klp13_0.1 | omega))
              have cm6 : COM V12 bq gs := COM.ag com (by rw [(funext (fun q => ajV12 21 q rfl) : V12 21 = V 21)] : V12 21 = V 21) (by rw [(funext (fun q => ajV12 22 q rfl) : V12 22 = V 22)] : V12 22 = V 22) (by rw [(funext (fun q => ajV12 23 q rfl) : V12 23 = V 23)] : V12 23 = V 23) (by rw [(funext (fun q => ajV12 24 q rfl) : V12 24 = V 24)] : V12 24 = V 24) (by rw [(funext (fun q => ajV12 25 q rfl) : V12 25 = V 25)] : V12 25 = V 25) (by rw [(funext (fun q => ajV12 26 q rfl) : V12 26 = V 26)] : V12 26 = V 26) (by rw [(funext (fun q => ajV12 27 q rfl) : V12 27 = V 27)] : V12 27 = V 27) (by rw [(funext (fun q => ajV12 28 q rfl) : V12 28 = V 28)] : V12 28 = V 28) (by rw [(funext (fun q => ajV12 29 q rfl) : V12 29 = V 29)] : V12 29 = V 29) (by rw [(funext (fun q => ajV12 30 q rfl) : V12 30 = V 30)] : V12 30 = V 30) (by rw [(funext (fun q => ajV12 31 q rfl) : V12 31 = V 31)] : V12 31 = V 31)
              have sv6 : svm V12 bq (gs.2.1 1).length = svm V bq (gs.2.1 1).length := by unfold svm; rw [(by rw [(funext (fun q => ajV12 18 q rfl) : V12 18 = V 18)] : V12 18 = V 18)]
              refine lv_aload_n hx hb dX12_candidatesOf_88 rfl (lv_at hl 3 rfl) ?_
              refine lv_iload_n hx hb dX12_candidatesOf_89 rfl (lv_at hl 4 rfl) ?_
              refine lv_iload hx hb dX12_candidatesOf_90 (lv_at hl 0 rfl) ?_
              have pq18 : (V12 0 11).toInt = ((V 0 11)).toInt := congrArg Int32.toInt (ajV12 0 11 rfl)
              have pq19 : (V12 19 bq).toInt = ((V 19 bq)).toInt := congrArg Int32.toInt (ajV12 19 bq rfl)
              refine gA_int (gA_runV (As := [.int p0, .int y10]) (rest := []) (ci := 12) (q0 := 0) hx hb hml hown hg hP hD hK hS hA hnw hgk (s_suits6 l D ks H.size ad kk V12 L p0 y10 (bq) (gs) (gc) (gj) ((Int32.toNatClampNeg y10)) hMV12 (by (first | exact om_e937935e9c51 rg_p0.1 rg_p0.2 | omega)) (by (first | exact om_b82ab6f2f50e r2.2 q19 klp13_0.1 f16 | omega)) (show ((bq) : Int) = (V12 0 11).toInt from by (first | exact om_9495d81bd5ca zq1 pq18 | omega)) (show p0.toInt = ((8 * (24 * (bq) + (gc)) + (gj) : Nat) : Int) from by (first | exact om_5c6f91e56a35 pn | omega)) gcl gjl t24 (show y10.toInt = (((Int32.toNatClampNeg y10)) : Int) from by (first | exact om_dadc9969542e kk17 | omega)) (show (Int32.toNatClampNeg y10) < (gs.2.1 2).length from by (first | exact om_2278541b5b9f ln q19 f16 kk17 | omega)) cm6 (show (V12 19 (bq)).toInt = ((((gs).2.1 2).length : Nat) : Int) from by (first | exact om_adf531c77a0d ln pq19 | omega)) wh) w2176 w2178 w120 w172 w2179 rfl rfl hdV_yX12_suits ⟨Nat.le_of_ble_eq_true rfl, Nat.le_of_ble_eq_true rfl⟩ rfl hl.1 rfl (Nat.le_of_ble_eq_true rfl) dX12_candidatesOf_92 ⟨Nat.le_of_ble_eq_true rfl, Nat.le_of_ble_eq_true rfl⟩) hP hD hK hS hA (fun z20 u21 H locs w22 hP hD hK hS => ?_)
              obtain ⟨rgz20, t23⟩ := w22
              have rgz20 : 0 ≤ z20.toInt ∧ z20.toInt ≤ 1 := rgz20
              have t23 : (z20.toInt = 1 ∧ suP (gs).1 (svm V12 (bq) ((gs).2.1 1).length) ((gs).1 (300 + 32 * (gc) + 4 * (gj))) ((gs).1 (302 + 32 * (gc) + 4 * (gj))) ((Int32.toNatClampNeg y10)) = true) ∨ (z20.toInt = 0 ∧ suP (gs).1 (svm V12 (bq) ((gs).2.1 1).length) ((gs).1 (300 + 32 * (gc) + 4 * (gj))) ((gs).1 (302 + 32 * (gc) + 4 * (gj))) ((Int32.toNatClampNeg y10)) = false) := t23
              refine lv_if_eq (tgt := 137) hx hb dX12_candidatesOf_95 (by decide) (fun c24 => ?_) (fun c24 => ?_)
              · skip
                have f25 : z20.toInt = 0 := b_eq rfl (by decide) c24
                obtain ⟨z26, ez26⟩ : ∃ y : Int32, y = y10 + 1 := ⟨_, rfl⟩
                have hz26 : z26.toInt = y10.toInt + 1 := i_add ez26 rfl (by decide) (by (first | exact om_cba3b1702db7 r2.2 q19 klp13_0.1 f16 | omega))
                refine lv_iinc (v := z26) (lv' := [(4, .int z26), (3, .int y11), (2, .int y4), (0, .ref (ad 0)), (1, .int p0)]) hx hb dX12_candidatesOf_137 hl (k := 0) rfl (by rw [ez26]; rfl) (by decide) rfl (fun ls hl => ?_)
                refine lv_goto (tgt := 74) hx hb dX12_candidatesOf_140 (by decide) ?_
                have su27 : suP gs.1 (svm V bq (gs.2.1 1).length) (gs.1 (300 + 32 * gc + 4 * gj)) (gs.1 (302 + 32 * gc + 4 * gj)) (Int32.toNatClampNeg y10) = false := (by have h9 := (t23.resolve_left (fun h9 => by have h8 := h9.1; omega)).2; rw [sv6] at h9; exact h9)
                have em9 : z26.toInt.toNat = (Int32.toNatClampNeg y10) + 1 := by (first | exact om_e74b57b43c73 klp13_0.1 kk17 hz26 | omega)
                have l9 := xlp13_0
                rw [show y10.toInt.toNat = (Int32.toNatClampNeg y10) from rfl] at l9
                have b9 : y4.toInt = ((bsP gs.1 (svm V bq (gs.2.1 1).length) (gs.1 (300 + 32 * gc + 4 * gj)) (gs.1 (302 + 32 * gc + 4 * gj)) (gs.2.1 2).length : Nat) : Int) := bb9
                exact ihlp13 z26 y11 V12 H locs ls (by (first | exact om_03bbbfa61cad r2.2 q19 klp13_0.1 f16 hz26 | omega)) (by (first | exact om_7e2c0121d284 r2.2 q19 klp13_1.1 xlp13_2 f16 | omega)) (by rw [em9, CLP_n (cdP_n su27)]; exact l9) (show z26.toInt ≤ (((gs.2.1 2).length : Nat) : Int) from by (first | exact om_139e70ed6b2e ln q19 f16 hz26 | omega)) (show y11.toInt ≤ z26.toInt from by (first | exact om_f75a30b4c815 xlp13_2 hz26 | omega)) (by (first | exact om_9592d9319ffa hn hz26 | omega)) (agr.tr agr.rf ajV12 (by decide) (by decide)) hMV12 hP hD hS (lv_sub hl [0, 1, 2, 3, 4] rfl)
              · skip
                have f28 : z20.toInt ≠ 0 := b_neq rfl (by decide) c24
                refine lv_aload_n hx hb dX12_candidatesOf_98 rfl (lv_at hl 3 rfl) ?_
                refine va_get (D := D) (ci := 12) (v := .ref (ad 30)) (C := RX12) (T := TX12) (N := 100) hx hb hg inX12 hown hK hP 0 rfl rfl 30 (by decide) (hg _ w1736) (fun _ h9 => h9) rfl dX12_candidatesOf_99 ?_
                refine lv_iload_n hx hb dX12_candidatesOf_102 rfl (lv_at hl 4 rfl) ?_
                refine va_zald (D := D) (i := p0) hx hb hK hP 23 22 rfl rfl (i_in (a := p0.toInt) rfl (by (first | exact om_49d8f2f70e9a rg_p0.1 rg_p0.2 | omega))) dX12_candidatesOf_103 ?_
                refine g_top (v := (V 30 (Int32.toNatClampNeg p0))) (ajV12 30 (Int32.toNatClampNeg p0) rfl) ?_
                have r29 : 0 ≤ ((V 30 (Int32.toNatClampNeg p0))).toInt ∧ ((V 30 (Int32.toNatClampNeg p0))).toInt ≤ 1 := hMV 30 (Int32.toNatClampNeg p0)
                refine lv_if_ne (tgt := 126) hx hb dX12_candidatesOf_104 (by decide) (fun c30 => ?_) (fun c30 => ?_)
                · skip
                  have f31 : ((V 30 (Int32.toNatClampNeg p0))).toInt ≠ 0 := b_neq rfl (by decide) c30
                  refine lv_aload_n hx hb dX12_candidatesOf_126 rfl (lv_at hl 3 rfl) ?_
                  refine va_get (D := D) (ci := 12) (v := .ref (ad 80)) (C := RX12) (T := TX12) (N := 100) hx hb hg inX12 hown hK hP 0 rfl rfl 80 (by decide) (hg _ w1786) (fun _ h9 => h9) rfl dX12_candidatesOf_127 ?_
                  refine lv_iload_n hx hb dX12_candidatesOf_130 rfl (lv_at hl 1 rfl) ?_
                  refine lv_iload hx hb dX12_candidatesOf_131 (lv_at hl 0 rfl) ?_
                  refine va_iast (D := D) (i := y11) (x := y10) hx hb hK hP hD hS 57 56 rfl rfl (i_in (a := y11.toInt) rfl (by (first | exact om_97cd09ff96d9 r2.2 q19 klp13_1.1 xlp13_2 f16 | omega))) dX12_candidatesOf_133 (fun H locs hP hD hS => ?_)
                  obtain ⟨V32, hV32⟩ : ∃ z, z = up2 V12 80 (Int32.toNatClampNeg y11) y10 := ⟨_, rfl⟩
                  have hP : va_P D vwCl (mw ad kk ks.1 V32 L) H := by rw [hV32]; exact hP
                  have hD : va_D A (mw ad kk ks.1 V32 L) := by rw [hV32]; exact hD
                  have hMV32 : rgd bM V32 := hMV12.put hV32 (show 0 ≤ y10.toInt ∧ y10.toInt ≤ 23 from by (first | exact om_b82ab6f2f50e r2.2 q19 klp13_0.1 f16 | omega))
                  have agV32 : agr [] [80] V V32 := agV12.up hV32 rfl
                  obtain ⟨z33, ez33⟩ : ∃ y : Int32, y = y11 + 1 := ⟨_, rfl⟩
                  have hz33 : z33.toInt = y11.toInt + 1 := i_add ez33 rfl (by decide) (by (first | exact om_42a03d5ac0bb r2.2 q19 klp13_1.1 xlp13_2 f16 | omega))
                  refine lv_iinc (v := z33) (lv' := [(3, .int z33), (4, .int y10), (2, .int y4), (0, .ref (ad 0)), (1, .int p0)]) hx hb dX12_candidatesOf_134 hl (k := 1) rfl (by rw [ez33]; rfl) (by decide) rfl (fun ls hl => ?_)
                  obtain ⟨z34, ez34⟩ : ∃ y : Int32, y = y10 + 1 := ⟨_, rfl⟩
                  have hz34 : z34.toInt = y10.toInt + 1 := i_add ez34 rfl (by decide) (by (first | exact om_cba3b1702db7 r2.2 q19 klp13_0.1 f16 | omega))
                  refine lv_iinc (v := z34) (lv' := [(4, .int z34), (3, .int z33), (2, .int y4), (0, .ref (ad 0)), (1, .int p0)]) hx hb dX12_candidatesOf_137 hl (k := 1) rfl (by rw [ez34]; rfl) (by decide) rfl (fun ls hl => ?_)
                  refine lv_goto (tgt := 74) hx hb dX12_candidatesOf_140 (by decide) ?_
                  have su35 : suP gs.1 (svm V bq (gs.2.1 1).length) (gs.1 (300 + 32 * gc + 4 * gj)) (gs.1 (302 + 32 * gc + 4 * gj)) (Int32.toNatClampNeg y10) = true := (by have h9 := (t23.resolve_right (fun h9 => by have h8 := h9.1; omega)).2; rw [sv6] at h9; exact h9)
                  have em9 : z34.toInt.toNat = (Int32.toNatClampNeg y10) + 1 := by (first | exact om_e74b57b43c73 klp13_0.1 kk17 hz34 | omega)
                  have l9 := xlp13_0
                  rw [show y10.toInt.toNat = (Int32.toNatClampNeg y10) from rfl] at l9
                  have b9 : y4.toInt = ((bsP gs.1 (svm V bq (gs.2.1 1).length) (gs.1 (300 + 32 * gc + 4 * gj)) (gs.1 (302 + 32 * gc + 4 * gj)) (gs.2.1 2).length : Nat) : Int) := bb9
                  exact ihlp13 z34 z33 V32 H locs ls (by (first | exact om_03bbbfa61cad r2.2 q19 klp13_0.1 f16 hz34 | omega)) (by (first | exact om_fd7621cf2ee5 r2.2 q19 klp13_1.1 xlp13_2 f16 hz33 | omega)) (by rw [em9, CLP_y (cdP_y su35 (Or.inl (n30.mp (by omega))))]; exact CLV.add l9 hV32 (by have h9 := i_clamp (x := y11) rfl (by (first | exact om_eafa9039069c klp13_1.1 | omega)); omega) (by omega) (by omega)) (show z34.toInt ≤ (((gs.2.1 2).length : Nat) : Int) from by (first | exact om_139e70ed6b2e ln q19 f16 hz34 | omega)) (show z33.toInt ≤ z34.toInt from by (first | exact om_953ed16b636a xlp13_2 hz33 hz34 | omega)) (by (first | exact om_9592d9319ffa hn hz34 | omega)) (agr.up (agr.tr agr.rf ajV12 (by decide) (by decide)) hV32 rfl) hMV32 hP hD hS (lv_sub hl [0, 1, 2, 3, 4] rfl)
                · skip
                  have f36 : ((V 30 (Int32.toNatClampNeg p0))).toInt = 0 := b_eq rfl (by decide) c30
                  refine lv_aload_n hx hb dX12_candidatesOf_107 rfl (lv_at hl 3 rfl) ?_
                  refine va_get (D := D) (ci := 12) (v := .ref (ad 24)) (C := RX12) (T := TX12) (N := 100) hx hb hg inX12 hown hK hP 0 rfl rfl 24 (by decide) (hg _ w1730) (fun _ h9 => h9) rfl dX12_candidatesOf_108 ?_
                  refine lv_bipush (v := 24) hx hb dX12_candidatesOf_111 (by decide) ?_
                  refine lv_aload_n hx hb dX12_candidatesOf_113 rfl (lv_at hl 3 rfl) ?_
                  refine va_get (D := D) (ci := 12) (v := .int (V12 0 11)) (C := RX12) (T := TX12) (N := 100) hx hb hg inX12 hown hK hP 0 rfl rfl 11 (by decide) (hg _ w1717) (fun _ h9 => h9) rfl dX12_candidatesOf_114 ?_
                  refine g_top (v := (V 0 11)) (ajV12 0 11 rfl) ?_
                  refine lv_imul hx hb dX12_candidatesOf_117 ?_
                  refine lv_topi (fun z37 ez37 => ?_)
                  have hz37 : z37.toInt = 24 * ((V 0 11)).toInt := i_mul ez37 (by decide) rfl (by (first | exact om_3f8aba7b6ce1 r1.1 r1.2 | omega))
                  refine lv_iload hx hb dX12_candidatesOf_118 (lv_at hl 0 rfl) ?_
                  refine lv_iadd hx hb dX12_candidatesOf_120 ?_
                  refine lv_topi (fun z38 ez38 => ?_)
                  have hz38 : z38.toInt = z37.toInt + y10.toInt := i_add ez38 rfl rfl (by (first | exact om_05b2ab89c241 r1.1 r1.2 r2.2 q19 klp13_0.1 f16 hz37 | omega))
                  have kr6 : Int32.toNatClampNeg z38 = 24 * bq + (Int32.toNatClampNeg y10) := by have h9 := i_clamp (x := z38) rfl (by (first | exact om_19aed6992cbe r1.1 klp13_0.1 hz37 hz38 | omega)); (first | exact om_4c29053cab98 zq1 kk17 hz37 hz38 h9 | omega)
                  have r24 : (V 24 (Int32.toNatClampNeg z38)).toInt = ((gs.1 (63 + 8 * (Int32.toNatClampNeg y10)) : Nat) : Int) := by rw [kr6]; exact (com (Int32.toNatClampNeg y10) (by omega)).1.2.2.2.1
                  refine va_iald (D := D) (i := z38) hx hb hK hP 17 16 rfl rfl (i_in (a := z38.toInt) rfl (by (first | exact om_8dcc3627f11a r1.1 r1.2 r2.2 q19 klp13_0.1 f16 hz37 hz38 | omega))) dX12_candidatesOf_121 ?_
                  refine g_top (v := (V 24 (Int32.toNatClampNeg z38))) (ajV12 24 (Int32.toNatClampNeg z38) rfl) ?_
                  have r39 : 0 ≤ ((V 24 (Int32.toNatClampNeg z38))).toInt ∧ ((V 24 (Int32.toNatClampNeg z38))).toInt ≤ 9 := hMV 24 (Int32.toNatClampNeg z38)
                  refine lv_iload_n hx hb dX12_candidatesOf_122 rfl (lv_at hl 2 rfl) ?_
                  refine lv_icmp_ne (tgt := 137) hx hb dX12_candidatesOf_123 (by decide) (fun c40 => ?_) (fun c40 => ?_)
                  · skip
                    have f41 : ((V 24 (Int32.toNatClampNeg z38))).toInt ≠ y4.toInt := b_neq rfl rfl c40
                    obtain ⟨z42, ez42⟩ : ∃ y : Int32, y = y10 + 1 := ⟨_, rfl⟩
                    have hz42 : z42.toInt = y10.toInt + 1 := i_add ez42 rfl (by decide) (by (first | exact om_cba3b1702db7 r2.2 q19 klp13_0.1 f16 | omega))
                    refine lv_iinc (v := z42) (lv' := [(4, .int z42), (3, .int y11), (2, .int y4), (0, .ref (ad 0)), (1, .int p0)]) hx hb dX12_candidatesOf_137 hl (k := 0) rfl (by rw [ez42]; rfl) (by decide) rfl (fun ls hl => ?_)
                    refine lv_goto (tgt := 74) hx hb dX12_candidatesOf_140 (by decide) ?_
                    have su43 : suP gs.1 (svm V bq (gs.2.1 1).length) (gs.1 (300 + 32 * gc + 4 * gj)) (gs.1 (302 + 32 * gc + 4 * gj)) (Int32.toNatClampNeg y10) = true := (by have h9 := (t23.resolve_right (fun h9 => by have h8 := h9.1; omega)).2; rw [sv6] at h9; exact h9)
                    have em9 : z42.toInt.toNat = (Int32.toNatClampNeg y10) + 1 := by (first | exact om_e74b57b43c73 klp13_0.1 kk17 hz42 | omega)
                    have l9 := xlp13_0
                    rw [show y10.toInt.toNat = (Int32.toNatClampNeg y10) from rfl] at l9
                    have b9 : y4.toInt = ((bsP gs.1 (svm V bq (gs.2.1 1).length) (gs.1 (300 + 32 * gc + 4 * gj)) (gs.1 (302 + 32 * gc + 4 * gj)) (gs.2.1 2).length : Nat) : Int) := bb9
                    exact ihlp13 z42 y11 V12 H locs ls (by (first | exact om_03bbbfa61cad r2.2 q19 klp13_0.1 f16 hz42 | omega)) (by (first | exact om_7e2c0121d284 r2.2 q19 klp13_1.1 xlp13_2 f16 | omega)) (by rw [em9, CLP_n (cdP_no (fun h9 => absurd (n30.mpr h9) (by omega)) (by omega))]; exact l9) (show z42.toInt ≤ (((gs.2.1 2).length : Nat) : Int) from by (first | exact om_139e70ed6b2e ln q19 f16 hz42 | omega)) (show y11.toInt ≤ z42.toInt from by (first | exact om_f75a30b4c815 xlp13_2 hz42 | omega)) (by (first | exact om_9592d9319ffa hn hz42 | omega)) (agr.tr agr.rf ajV12 (by decide) (by decide)) hMV12 hP hD hS (lv_sub hl [0, 1, 2, 3, 4] rfl)
                  · skip
                    have f44 : ((V 24 (Int32.toNatClampNeg z38))).toInt = y4.toInt := b_eq rfl rfl c40
                    refine lv_aload_n hx hb dX12_candidatesOf_126 rfl (lv_at hl 3 rfl) ?_
                    refine va_get (D := D) (ci := 12) (v := .ref (ad 80)) (C := RX12) (T := TX12) (N := 100) hx hb hg inX12 hown hK hP 0 rfl rfl 80 (by decide) (hg _ w1786) (fun _ h9 => h9) rfl dX12_candidatesOf_127 ?_
                    refine lv_iload_n hx hb dX12_candidatesOf_130 rfl (lv_at hl 1 rfl) ?_
                    refine lv_iload hx hb dX12_candidatesOf_131 (lv_at hl 0 rfl) ?_
                    refine va_iast (D := D) (i := y11) (x := y10) hx hb hK hP hD hS 57 56 rfl rfl (i_in (a := y11.toInt) rfl (by (first | exact om_97cd09ff96d9 r2.2 q19 klp13_1.1 xlp13_2 f16 | omega))) dX12_candidatesOf_133 (fun H locs hP hD hS => ?_)
                    obtain ⟨V45, hV45⟩ : ∃ z, z = up2 V12 80 (Int32.toNatClampNeg y11) y10 := ⟨_, rfl⟩
                    have hP : va_P D vwCl (mw ad kk ks.1 V45 L) H := by rw [hV45]; exact hP
                    have hD : va_D A (mw ad kk ks.1 V45 L) := by rw [hV45]; exact hD
                    have hMV45 : rgd bM V45 := hMV12.put hV45 (show 0 ≤ y10.toInt ∧ y10.toInt ≤ 23 from by (first | exact om_b82ab6f2f50e r2.2 q19 klp13_0.1 f16 | omega))
                    have agV45 : agr [] [80] V V45 := agV12.up hV45 rfl
                    obtain ⟨z46, ez46⟩ : ∃ y : Int32, y = y11 + 1 := ⟨_, rfl⟩
                    have hz46 : z46.toInt = y11.toInt + 1 := i_add ez46 rfl (by decide) (by (first | exact om_42a03d5ac0bb r2.2 q19 klp13_1.1 xlp13_2 f16 | omega))
                    refine lv_iinc (v := z46) (lv' := [(3, .int z46), (4, .int y10), (2, .int y4), (0, .ref (ad 0)), (1, .int p0)]) hx hb dX12_candidatesOf_134 hl (k := 1) rfl (by rw [ez46]; rfl) (by decide) rfl (fun ls hl => ?_)
                    obtain ⟨z47, ez47⟩ : ∃ y : Int32, y = y10 + 1 := ⟨_, rfl⟩
                    have hz47 : z47.toInt = y10.toInt + 1 := i_add ez47 rfl (by decide) (by (first | exact om_cba3b1702db7 r2.2 q19 klp13_0.1 f16 | omega))
                    refine lv_iinc (v := z47) (lv' := [(4, .int z47), (3, .int z46), (2, .int y4), (0, .ref (ad 0)), (1, .int p0)]) hx hb dX12_candidatesOf_137 hl (k := 1) rfl (by rw [ez47]; rfl) (by decide) rfl (fun ls hl => ?_)
                    refine lv_goto (tgt := 74) hx hb dX12_candidatesOf_140 (by decide) ?_
                    have su48 : suP gs.1 (svm V bq (gs.2.1 1).length) (gs.1 (300 + 32 * gc + 4 * gj)) (gs.1 (302 + 32 * gc + 4 * gj)) (Int32.toNatClampNeg y10) = true := (by have h9 := (t23.resolve_right (fun h9 => by have h8 := h9.1; omega)).2; rw [sv6] at h9; exact h9)
                    have em9 : z47.toInt.toNat = (Int32.toNatClampNeg y10) + 1 := by (first | exact om_e74b57b43c73 klp13_0.1 kk17 hz47 | omega)
                    have l9 := xlp13_0
                    rw [show y10.toInt.toNat = (Int32.toNatClampNeg y10) from rfl] at l9
                    have b9 : y4.toInt = ((bsP gs.1 (svm V bq (gs.2.1 1).length) (gs.1 (300 + 32 * gc + 4 * gj)) (gs.1 (302 + 32 * gc + 4 * gj)) (gs.2.1 2).length : Nat) : Int) := bb9
                    exact ihlp13 z47 z46 V45 H locs ls (by (first | exact om_03bbbfa61cad r2.2 q19 klp13_0.1 f16 hz47 | omega)) (by (first | exact om_fd7621cf2ee5 r2.2 q19 klp13_1.1 xlp13_2 f16 hz46 | omega)) (by rw [em9, CLP_y (cdP_y su48 (Or.inr (by omega)))]; exact CLV.add l9 hV45 (by have h9 := i_clamp (x := y11) rfl (by (first | exact om_eafa9039069c klp13_1.1 | omega)); omega) (by omega) (by omega)) (show z47.toInt ≤ (((gs.2.1 2).length : Nat) : Int) from by (first | exact om_139e70ed6b2e ln q19 f16 hz47 | omega)) (show z46.toInt ≤ z47.toInt from by (first | exact om_953ed16b636a xlp13_2 hz46 hz47 | omega)) (by (first | exact om_9592d9319ffa hn hz47 | omega)) (agr.up (agr.tr agr.rf ajV12 (by decide) (by decide)) hV45 rfl) hMV45 hP hD hS (lv_sub hl [0, 1, 2, 3, 4] rfl)
        have r49 : Int32.toInt 0 = 0 := by decide
        exact lp13 ((24 - (Int32.toInt 0) + 1 : Int).toNat) 0 0 V H locs ls (by decide) (by decide) (by rw [show (Int32.toInt 0).toNat = 0 from by decide]; exact CLV.z rfl) (show (Int32.toInt 0) ≤ (((gs.2.1 2).length : Nat) : Int) from by (first | exact om_3f7d4d3a7b74 gcl r49 | omega)) (show (Int32.toInt 0) ≤ (Int32.toInt 0) from by (first | exact om_5977f3d8a10f | omega)) (by (first | exact om_817980d3aa47 | omega)) agr.rf hMV hP hD hS (lv_sub hl [0, 1, 2, 3, 4] rfl)
      · skip
        have f50 : y3.toInt < ((V 19 (Int32.toNatClampNeg (V 0 11)))).toInt := b_nle rfl rfl c7
        have kk51 := i_clamp (x := y3) rfl (by (first | exact om_eafa9039069c klp5_0.1 | omega))
        refine lv_aload_n hx hb dX12_candidatesOf_17 rfl (lv_at hl 2 rfl) ?_
        refine lv_iload_n hx hb dX12_candidatesOf_18 rfl (lv_at hl 3 rfl) ?_
        refine lv_iload_n hx hb dX12_candidatesOf_19 rfl (lv_at hl 0 rfl) ?_
        refine gA_int (gA_runV (As := [.int p0, .int y3]) (rest := []) (ci := 12) (q0 := 0) hx hb hml hown hg hP hD hK hS hA hnw hgk (s_suits6 l D ks H.size ad kk V L p0 y3 (bq) (gs) (gc) (gj) ((Int32.toNatClampNeg y3)) hMV (by (first | exact om_ee2ada808de7 rg_p0.2 zq1 pn r1.1 | omega)) (by (first | exact om_ac7b8d4d9f10 klp5_0.1 r6.2 f50 | omega)) (show ((bq) : Int) = (V 0 11).toInt from by (first | exact om_639da7453e33 zq1 | omega)) (show p0.toInt = ((8 * (24 * (bq) + (gc)) + (gj) : Nat) : Int) from by (first | exact om_5c6f91e56a35 pn | omega)) gcl gjl t24 (show y3.toInt = (((Int32.toNatClampNeg y3)) : Int) from by (first | exact om_dadc9969542e kk51 | omega)) (show (Int32.toNatClampNeg y3) < (gs.2.1 2).length from by (first | exact om_2278541b5b9f ln q19 f50 kk51 | omega)) com (show (V 19 (bq)).toInt = ((((gs).2.1 2).length : Nat) : Int) from by (first | exact om_08e0c9701055 ln | omega)) wh) w2176 w2178 w120 w172 w2179 rfl rfl hdV_yX12_suits ⟨Nat.le_of_ble_eq_true rfl, Nat.le_of_ble_eq_true rfl⟩ rfl hl.1 rfl (Nat.le_of_ble_eq_true rfl) dX12_candidatesOf_20 ⟨Nat.le_of_ble_eq_true rfl, Nat.le_of_ble_eq_true rfl⟩) hP hD hK hS hA (fun z52 u53 H locs w54 hP hD hK hS => ?_)
        obtain ⟨rgz52, t55⟩ := w54
        have rgz52 : 0 ≤ z52.toInt ∧ z52.toInt ≤ 1 := rgz52
        have t55 : (z52.toInt = 1 ∧ suP (gs).1 (svm V (bq) ((gs).2.1 1).length) ((gs).1 (300 + 32 * (gc) + 4 * (gj))) ((gs).1 (302 + 32 * (gc) + 4 * (gj))) ((Int32.toNatClampNeg y3)) = true) ∨ (z52.toInt = 0 ∧ suP (gs).1 (svm V (bq) ((gs).2.1 1).length) ((gs).1 (300 + 32 * (gc) + 4 * (gj))) ((gs).1 (302 + 32 * (gc) + 4 * (gj))) ((Int32.toNatClampNeg y3)) = false) := t55
        refine lv_if_eq (tgt := 61) hx hb dX12_candidatesOf_23 (by decide) (fun c56 => ?_) (fun c56 => ?_)
        · skip
          have f57 : z52.toInt = 0 := b_eq rfl (by decide) c56
          refine lv_iload_n hx hb dX12_candidatesOf_61 rfl (lv_at hl 1 rfl) ?_
          refine lv_istore_n (lv' := [(2, .int y4), (3, .int y3), (0, .ref (ad 0)), (1, .int p0)]) hx hb dX12_candidatesOf_62 rfl hl (by decide) rfl (fun ls hl => ?_)
          obtain ⟨z58, ez58⟩ : ∃ y : Int32, y = y3 + 1 := ⟨_, rfl⟩
          have hz58 : z58.toInt = y3.toInt + 1 := i_add ez58 rfl (by decide) (by (first | exact om_d1b22b2ae31e klp5_0.1 r6.2 f50 | omega))
          refine lv_iinc (v := z58) (lv' := [(3, .int z58), (2, .int y4), (0, .ref (ad 0)), (1, .int p0)]) hx hb dX12_candidatesOf_63 hl (k := 1) rfl (by rw [ez58]; rfl) (by decide) rfl (fun ls hl => ?_)
          refine lv_goto (tgt := 4) hx hb dX12_candidatesOf_66 (by decide) ?_
          have su59 : suP gs.1 (svm V bq (gs.2.1 1).length) (gs.1 (300 + 32 * gc + 4 * gj)) (gs.1 (302 + 32 * gc + 4 * gj)) (Int32.toNatClampNeg y3) = false := (t55.resolve_left (fun h9 => by have h8 := h9.1; omega)).2
          have em9 : z58.toInt.toNat = (Int32.toNatClampNeg y3) + 1 := by (first | exact om_e74b57b43c73 klp5_0.1 kk51 hz58 | omega)
          have b9 := xlp5_0
          rw [show y3.toInt.toNat = (Int32.toNatClampNeg y3) from rfl] at b9
          exact ihlp5 z58 y4 H locs ls (by (first | exact om_5c2541dbcd85 klp5_0.1 r6.2 f50 hz58 | omega)) (by (first | exact om_7b57350f0a3a klp5_1.1 klp5_1.2 | omega)) (by rw [em9, bsP_n su59]; omega) (show z58.toInt ≤ (((gs.2.1 2).length : Nat) : Int) from by (first | exact om_139e70ed6b2e ln q19 f50 hz58 | omega)) (by (first | exact om_9592d9319ffa hn hz58 | omega)) hP hD hS (lv_sub hl [0, 1, 2, 3] rfl)
        · skip
          have f60 : z52.toInt ≠ 0 := b_neq rfl (by decide) c56
          refine lv_aload_n hx hb dX12_candidatesOf_26 rfl (lv_at hl 2 rfl) ?_
          refine va_get (D := D) (ci := 12) (v := .ref (ad 24)) (C := RX12) (T := TX12) (N := 100) hx hb hg inX12 hown hK hP 0 rfl rfl 24 (by decide) (hg _ w1730) (fun _ h9 => h9) rfl dX12_candidatesOf_27 ?_
          refine lv_bipush (v := 24) hx hb dX12_candidatesOf_30 (by decide) ?_
          refine lv_aload_n hx hb dX12_candidatesOf_32 rfl (lv_at hl 2 rfl) ?_
          refine va_get (D := D) (ci := 12) (v := .int (V 0 11)) (C := RX12) (T := TX12) (N := 100) hx hb hg inX12 hown hK hP 0 rfl rfl 11 (by decide) (hg _ w1717) (fun _ h9 => h9) rfl dX12_candidatesOf_33 ?_
          refine lv_imul hx hb dX12_candidatesOf_36 ?_
          refine lv_topi (fun z61 ez61 => ?_)
          have hz61 : z61.toInt = 24 * ((V 0 11)).toInt := i_mul ez61 (by decide) rfl (by (first | exact om_3f8aba7b6ce1 r1.1 r1.2 | omega))
          refine lv_iload_n hx hb dX12_candidatesOf_37 rfl (lv_at hl 0 rfl) ?_
          refine lv_iadd hx hb dX12_candidatesOf_38 ?_
          refine lv_topi (fun z62 ez62 => ?_)
          have hz62 : z62.toInt = z61.toInt + y3.toInt := i_add ez62 rfl rfl (by (first | exact om_9c4efbfbadc9 r1.1 r1.2 klp5_0.1 r6.2 f50 hz61 | omega))
          have kr6 : Int32.toNatClampNeg z62 = 24 * bq + (Int32.toNatClampNeg y3) := by have h9 := i_clamp (x := z62) rfl (by (first | exact om_19aed6992cbe r1.1 klp5_0.1 hz61 hz62 | omega)); (first | exact om_4c29053cab98 zq1 kk51 hz61 hz62 h9 | omega)
          have r24 : (V 24 (Int32.toNatClampNeg z62)).toInt = ((gs.1 (63 + 8 * (Int32.toNatClampNeg y3)) : Nat) : Int) := by rw [kr6]; exact (com (Int32.toNatClampNeg y3) (by omega)).1.2.2.2.1
          refine va_iald (D := D) (i := z62) hx hb hK hP 17 16 rfl rfl (i_in (a := z62.toInt) rfl (by (first | exact om_6ae5e7bc2a17 r1.1 r1.2 klp5_0.1 r6.2 f50 hz61 hz62 | omega))) dX12_candidatesOf_39 ?_
          have r63 : 0 ≤ ((V 24 (Int32.toNatClampNeg z62))).toInt ∧ ((V 24 (Int32.toNatClampNeg z62))).toInt ≤ 9 := hMV 24 (Int32.toNatClampNeg z62)
          refine lv_iload_n hx hb dX12_candidatesOf_40 rfl (lv_at hl 1 rfl) ?_
          refine lv_icmp_le (tgt := 61) hx hb dX12_candidatesOf_41 (by decide) (fun c64 => ?_) (fun c64 => ?_)
          · skip
            have f65 : ((V 24 (Int32.toNatClampNeg z62))).toInt ≤ y4.toInt := b_le rfl rfl c64
            refine lv_iload_n hx hb dX12_candidatesOf_61 rfl (lv_at hl 1 rfl) ?_
            refine lv_istore_n (lv' := [(2, .int y4), (3, .int y3), (0, .ref (ad 0)), (1, .int p0)]) hx hb dX12_candidatesOf_62 rfl hl (by decide) rfl (fun ls hl => ?_)
            obtain ⟨z66, ez66⟩ : ∃ y : Int32, y = y3 + 1 := ⟨_, rfl⟩
            have hz66 : z66.toInt = y3.toInt + 1 := i_add ez66 rfl (by decide) (by (first | exact om_d1b22b2ae31e klp5_0.1 r6.2 f50 | omega))
            refine lv_iinc (v := z66) (lv' := [(3, .int z66), (2, .int y4), (0, .ref (ad 0)), (1, .int p0)]) hx hb dX12_candidatesOf_63 hl (k := 1) rfl (by rw [ez66]; rfl) (by decide) rfl (fun ls hl => ?_)
            refine lv_goto (tgt := 4) hx hb dX12_candidatesOf_66 (by decide) ?_
            have su67 : suP gs.1 (svm V bq (gs.2.1 1).length) (gs.1 (300 + 32 * gc + 4 * gj)) (gs.1 (302 + 32 * gc + 4 * gj)) (Int32.toNatClampNeg y3) = true := (t55.resolve_right (fun h9 => by have h8 := h9.1; omega)).2
            have em9 : z66.toInt.toNat = (Int32.toNatClampNeg y3) + 1 := by (first | exact om_e74b57b43c73 klp5_0.1 kk51 hz66 | omega)
            have b9 := xlp5_0
            rw [show y3.toInt.toNat = (Int32.toNatClampNeg y3) from rfl] at b9
            exact ihlp5 z66 y4 H locs ls (by (first | exact om_5c2541dbcd85 klp5_0.1 r6.2 f50 hz66 | omega)) (by (first | exact om_7b57350f0a3a klp5_1.1 klp5_1.2 | omega)) (by rw [em9, bsP_l (by omega)]; omega) (show z66.toInt ≤ (((gs.2.1 2).length : Nat) : Int) from by (first | exact om_139e70ed6b2e ln q19 f50 hz66 | omega)) (by (first | exact om_9592d9319ffa hn hz66 | omega)) hP hD hS (lv_sub hl [0, 1, 2, 3] rfl)
          · skip
            have f68 : y4.toInt < ((V 24 (Int32.toNatClampNeg z62))).toInt := b_nle rfl rfl c64
            refine lv_aload_n hx hb dX12_candidatesOf_44 rfl (lv_at hl 2 rfl) ?_
            refine va_get (D := D) (ci := 12) (v := .ref (ad 24)) (C := RX12) (T := TX12) (N := 100) hx hb hg inX12 hown hK hP 0 rfl rfl 24 (by decide) (hg _ w1730) (fun _ h9 => h9) rfl dX12_candidatesOf_45 ?_
            refine lv_bipush (v := 24) hx hb dX12_candidatesOf_48 (by decide) ?_
            refine lv_aload_n hx hb dX12_candidatesOf_50 rfl (lv_at hl 2 rfl) ?_
            refine va_get (D := D) (ci := 12) (v := .int (V 0 11)) (C := RX12) (T := TX12) (N := 100) hx hb hg inX12 hown hK hP 0 rfl rfl 11 (by decide) (hg _ w1717) (fun _ h9 => h9) rfl dX12_candidatesOf_51 ?_
            refine lv_imul hx hb dX12_candidatesOf_54 ?_
            refine lv_topi (fun z69 ez69 => ?_)
            have hz69 : z69.toInt = 24 * ((V 0 11)).toInt := i_mul ez69 (by decide) rfl (by (first | exact om_3f8aba7b6ce1 r1.1 r1.2 | omega))
            refine lv_iload_n hx hb dX12_candidatesOf_55 rfl (lv_at hl 0 rfl) ?_
            refine lv_iadd hx hb dX12_candidatesOf_56 ?_
            refine lv_topi (fun z70 ez70 => ?_)
            have hz70 : z70.toInt = z69.toInt + y3.toInt := i_add ez70 rfl rfl (by (first | exact om_9c4efbfbadc9 r1.1 r1.2 klp5_0.1 r6.2 f50 hz69 | omega))
            have kr6 : Int32.toNatClampNeg z70 = 24 * bq + (Int32.toNatClampNeg y3) := by have h9 := i_clamp (x := z70) rfl (by (first | exact om_19aed6992cbe r1.1 klp5_0.1 hz69 hz70 | omega)); (first | exact om_4c29053cab98 zq1 kk51 hz69 hz70 h9 | omega)
            have r24 : (V 24 (Int32.toNatClampNeg z70)).toInt = ((gs.1 (63 + 8 * (Int32.toNatClampNeg y3)) : Nat) : Int) := by rw [kr6]; exact (com (Int32.toNatClampNeg y3) (by omega)).1.2.2.2.1
            refine va_iald (D := D) (i := z70) hx hb hK hP 17 16 rfl rfl (i_in (a := z70.toInt) rfl (by (first | exact om_6ae5e7bc2a17 r1.1 r1.2 klp5_0.1 r6.2 f50 hz69 hz70 | omega))) dX12_candidatesOf_57 ?_
            have r71 : 0 ≤ ((V 24 (Int32.toNatClampNeg z70))).toInt ∧ ((V 24 (Int32.toNatClampNeg z70))).toInt ≤ 9 := hMV 24 (Int32.toNatClampNeg z70)
            refine lv_goto (tgt := 62) hx hb dX12_candidatesOf_58 (by decide) ?_
            refine lv_istore_n (lv' := [(2, .int (V 24 (Int32.toNatClampNeg z70))), (3, .int y3), (0, .ref (ad 0)), (1, .int p0)]) hx hb dX12_candidatesOf_62 rfl hl (by decide) rfl (fun ls hl => ?_)
            obtain ⟨z72, ez72⟩ : ∃ y : Int32, y = y3 + 1 := ⟨_, rfl⟩
            have hz72 : z72.toInt = y3.toInt + 1 := i_add ez72 rfl (by decide) (by (first | exact om_d1b22b2ae31e klp5_0.1 r6.2 f50 | omega))
            refine lv_iinc (v := z72) (lv' := [(3, .int z72), (2, .int (V 24 (Int32.toNatClampNeg z70))), (0, .ref (ad 0)), (1, .int p0)]) hx hb dX12_candidatesOf_63 hl (k := 1) rfl (by rw [ez72]; rfl) (by decide) rfl (fun ls hl => ?_)
            refine lv_goto (tgt := 4) hx hb dX12_candidatesOf_66 (by decide) ?_
            have su73 : suP gs.1 (svm V bq (gs.2.1 1).length) (gs.1 (300 + 32 * gc + 4 * gj)) (gs.1 (302 + 32 * gc + 4 * gj)) (Int32.toNatClampNeg y3) = true := (t55.resolve_right (fun h9 => by have h8 := h9.1; omega)).2
            have em9 : z72.toInt.toNat = (Int32.toNatClampNeg y3) + 1 := by (first | exact om_e74b57b43c73 klp5_0.1 kk51 hz72 | omega)
            have b9 := xlp5_0
            rw [show y3.toInt.toNat = (Int32.toNatClampNeg y3) from rfl] at b9
            exact ihlp5 z72 (V 24 (Int32.toNatClampNeg z70)) H locs ls (by (first | exact om_5c2541dbcd85 klp5_0.1 r6.2 f50 hz72 | omega)) (by (first | exact om_7b57350f0a3a r71.1 r71.2 | omega)) (by rw [em9, bsP_h su73 (by omega)]; omega) (show z72.toInt ≤ (((gs.2.1 2).length : Nat) : Int) from by (first | exact om_139e70ed6b2e ln q19 f50 hz72 | omega)) (by (first | exact om_9592d9319ffa hn hz72 | omega)) hP hD hS (lv_sub hl [0, 1, 2, 3] rfl)
  have r74 : Int32.toInt 0 = 0 := by decide
  exact lp5 ((24 - (Int32.toInt 0) + 1 : Int).toNat) 0 0 H locs ls (by decide) (by decide) (by rw [show (Int32.toInt 0).toNat = 0 from by decide]; rfl) (show (Int32.toInt 0) ≤ (((gs.2.1 2).length : Nat) : Int) from by (first | exact om_3f7d4d3a7b74 gcl r74 | omega)) (by (first | exact om_817980d3aa47 | omega)) hP hD hS (lv_sub hl [0, 1, 2, 3] rfl)
end
section
/-! how many bits: in blocks of eight -/
theorem blk_and {a m r M : Nat} (ha : a < 256) (hm : m < 256) : (a + 256 * r) &&& (m + 256 * M) = (a &&& m) + 256 * (r &&& M) := by
  have e : ∀ (u v : Nat), u < 256 → ∀ i, (u + 256 * v).testBit i = if i < 8 then u.testBit i else v.testBit (i - 8) := fun u v hu i => by
    rw [Nat.add_comm, show (256 : Nat) = 2 ^ 8 from rfl]
    exact Nat.testBit_two_pow_mul_add v hu i
  have ham : a &&& m < 256 := Nat.lt_of_le_of_lt Nat.and_le_left ha
  apply Nat.eq_of_testBit_eq
  intro i
  rw [Nat.testBit_and, e a r ha, e m M hm, e _ _ ham]
  split
  · rw [Nat.testBit_and]
  · rw [Nat.testBit_and]
theorem pc_1 : ∀ a, a < 256 → ∀ c, c < 2 → (a / 2 + 128 * c) &&& 85 = (a / 2) &&& 85 := by decide +kernel
def pcb (a : Nat) : Nat := ((List.range 8).filter (fun i => a.testBit i)).length
def pq1 (a : Nat) : Nat := a - (a / 2 &&& 85)
def pq2 (a : Nat) : Nat := (pq1 a &&& 51) + (pq1 a / 4 &&& 51)
def pq3 (a : Nat) : Nat := (pq2 a + pq2 a / 16) &&& 15
theorem pc_b : ∀ a, a < 256 → pq3 a = pcb a := by decide +kernel
theorem pc_q1 : ∀ a, a < 256 → (a / 2 &&& 85) ≤ a ∧ pq1 a < 256 := by decide +kernel
theorem pc_q2 : ∀ a, a < 256 → pq2 a < 69 ∧ pq2 a % 16 ≤ 4 ∧ pcb a ≤ 8 := by decide +kernel
theorem pc_2 : ∀ a, a < 256 → ∀ c, c < 4 → (a / 4 + 64 * c) &&& 51 = (a / 4) &&& 51 := by decide +kernel
theorem pc_3 : ∀ a, a < 69 → ∀ c, c < 5 → (a + a / 16 + 16 * c) &&& 15 = (a + a / 16) &&& 15 := by decide +kernel
section POP
variable {a b c : Nat}
theorem pop_1 (ha : a < 256) (hb : b < 256) (hc : c < 256) : (a + 256 * (b + 256 * c)) / 2 &&& 1431655765 = (a / 2 &&& 85) + 256 * ((b / 2 &&& 85) + 256 * (c / 2 &&& 85)) := by
  rw [show (a + 256 * (b + 256 * c)) / 2 = (a / 2 + 128 * (b % 2)) + 256 * ((b / 2 + 128 * (c % 2)) + 256 * (c / 2 + 256 * 0)) from by omega, show (1431655765 : Nat) = 85 + 256 * (85 + 256 * (85 + 256 * 85)) from rfl, blk_and (by omega) (by decide), blk_and (by omega) (by decide), blk_and (by omega) (by decide), Nat.zero_and, Nat.mul_zero, Nat.add_zero, pc_1 a ha _ (by omega), pc_1 b hb _ (by omega)]
theorem pop_2a (ha : a < 256) (hb : b < 256) (hc : c < 256) : (a + 256 * (b + 256 * c)) &&& 858993459 = (a &&& 51) + 256 * ((b &&& 51) + 256 * (c &&& 51)) := by
  rw [show a + 256 * (b + 256 * c) = a + 256 * (b + 256 * (c + 256 * 0)) from by omega, show (858993459 : Nat) = 51 + 256 * (51 + 256 * (51 + 256 * 51)) from rfl, blk_and ha (by decide), blk_and hb (by decide), blk_and hc (by decide), Nat.zero_and, Nat.mul_zero, Nat.add_zero]
theorem pop_2b (ha : a < 256) (hb : b < 256) (hc : c < 256) : (a + 256 * (b + 256 * c)) / 4 &&& 858993459 = (a / 4 &&& 51) + 256 * ((b / 4 &&& 51) + 256 * (c / 4 &&& 51)) := by
  rw [show (a + 256 * (b + 256 * c)) / 4 = (a / 4 + 64 * (b % 4)) + 256 * ((b / 4 + 64 * (c % 4)) + 256 * (c / 4 + 256 * 0)) from by omega, show (858993459 : Nat) = 51 + 256 * (51 + 256 * (51 + 256 * 51)) from rfl, blk_and (by omega) (by decide), blk_and (by omega) (by decide), blk_and (by omega) (by decide), Nat.zero_and, Nat.mul_zero, Nat.add_zero, pc_2 a ha _ (by omega), pc_2 b hb _ (by omega)]
theorem pop_3 (ha : a < 69 ∧ a % 16 ≤ 4) (hb : b < 69 ∧ b % 16 ≤ 4) (hc : c < 69 ∧ c % 16 ≤ 4) : (a + 256 * (b + 256 * c)) + (a + 256 * (b + 256 * c)) / 16 &&& 252645135 = ((a + a / 16) &&& 15) + 256 * (((b + b / 16) &&& 15) + 256 * ((c + c / 16) &&& 15)) := by
  rw [show (a + 256 * (b + 256 * c)) + (a + 256 * (b + 256 * c)) / 16 = (a + a / 16 + 16 * (b % 16)) + 256 * ((b + b / 16 + 16 * (c % 16)) + 256 * (c + c / 16 + 256 * 0)) from by omega, show (252645135 : Nat) = 15 + 256 * (15 + 256 * (15 + 256 * 15)) from rfl, blk_and (by omega) (by decide), blk_and (by omega) (by decide), blk_and (by omega) (by decide), Nat.zero_and, Nat.mul_zero, Nat.add_zero, pc_3 a ha.1 _ (by omega), pc_3 b hb.1 _ (by omega)]
/-- JDK's steps, in Nat -/
def popN (x : Nat) : Nat :=
  let y := x - (x / 2 &&& 1431655765)
  let z := (y &&& 858993459) + (y / 4 &&& 858993459)
  let u := (z + z / 16) &&& 252645135
  let v := u + u / 256
  (v + v / 65536) &&& 63
theorem popN_b (ha : a < 256) (hb : b < 256) (hc : c < 256) : popN (a + 256 * (b + 256 * c)) = pcb a + pcb b + pcb c := by
  have a1 := pc_q1 a ha
  have b1 := pc_q1 b hb
  have c1 := pc_q1 c hc
  have a2 := pc_q2 a ha
  have b2 := pc_q2 b hb
  have c2 := pc_q2 c hc
  have e1 : (a + 256 * (b + 256 * c)) - ((a + 256 * (b + 256 * c)) / 2 &&& 1431655765) = pq1 a + 256 * (pq1 b + 256 * pq1 c) := by
    rw [pop_1 ha hb hc]
    unfold pq1
    omega
  have e2 : ((pq1 a + 256 * (pq1 b + 256 * pq1 c)) &&& 858993459) + ((pq1 a + 256 * (pq1 b + 256 * pq1 c)) / 4 &&& 858993459) = pq2 a + 256 * (pq2 b + 256 * pq2 c) := by
    rw [pop_2a a1.2 b1.2 c1.2, pop_2b a1.2 b1.2 c1.2]
    unfold pq2
    omega
  have e3 : ((pq2 a + 256 * (pq2 b + 256 * pq2 c)) + (pq2 a + 256 * (pq2 b + 256 * pq2 c)) / 16) &&& 252645135 = pcb a + 256 * (pcb b + 256 * pcb c) := by
    rw [pop_3 ⟨a2.1, a2.2.1⟩ ⟨b2.1, b2.2.1⟩ ⟨c2.1, c2.2.1⟩, ← pc_b a ha, ← pc_b b hb, ← pc_b c hc]
    rfl
  unfold popN
  simp only [e1, e2, e3]
  have e4 : (pcb a + 256 * (pcb b + 256 * pcb c)) + (pcb a + 256 * (pcb b + 256 * pcb c)) / 256 + ((pcb a + 256 * (pcb b + 256 * pcb c)) + (pcb a + 256 * (pcb b + 256 * pcb c)) / 256) / 65536 = (pcb a + pcb b + pcb c) + 256 * (pcb b + pcb c + 256 * pcb c) := by omega
  rw [e4, show (63 : Nat) = 63 + 256 * 0 from rfl, blk_and (by omega) (by decide), Nat.and_zero, Nat.mul_zero, Nat.add_zero, show (63 : Nat) = 2 ^ 6 - 1 from rfl, Nat.and_two_pow_sub_one_eq_mod]
  omega
end POP
end
