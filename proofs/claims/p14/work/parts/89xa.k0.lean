/-! 'when' names a setting that is there -/
def BGs (s : St) : Prop := 25 ≤ (s.2.1 0).length ∨ 13 ≤ (s.2.1 1).length ∨ 25 ≤ (s.2.1 2).length
def WHs (s : St) : Prop := ∀ c, c < (s.2.1 2).length → s.1 (64 + 8 * c) ≤ (s.2.1 1).length
def HSt (s : St) : Prop := BGs s ∨ WHs s
def IHs (n : Nat) : List It → Prop
  | [] => True
  | i :: k => ((i.1 = 41 → i.2.2.2.2.2.getD 0 0 ≤ n) ∧ (i.1 = 23 → i.2.2.2.2.2.getD 1 0 ≤ n)) ∧ IHs n k
def HKt (s : St) (k : List It) : Prop := BGs s ∨ IHs (s.2.1 1).length k
def HP : Cf → Prop
  | .inl (s, k) => HSt s ∧ HKt s k
  | .inr (.inl _) => True
  | .inr (.inr s) => HSt s
theorem IHs.up {n m : Nat} (h : n ≤ m) : ∀ k, IHs n k → IHs m k
  | [], _ => trivial
  | _ :: k, q => ⟨⟨fun e => Nat.le_trans (q.1.1 e) h, fun e => Nat.le_trans (q.1.2 e) h⟩, IHs.up h k q.2⟩
section HPs
variable {T : Tk} {s s' : St} {k : List It}
theorem HSt.kc (h : HSt s) (q : keepC s s') : HSt s' := by
  unfold HSt BGs WHs at h ⊢
  rw [q.2 0 (by decide), q.2 1 (by decide), q.2 2 (by decide)]
  rcases h with h | h
  · exact Or.inl h
  · exact Or.inr (fun c hc => by rw [q.1 _ (by omega)]; exact h c hc)
theorem HKt.kc (h : HKt s k) (q : keepC s s') : HKt s' k := by
  unfold HKt BGs at h ⊢
  rw [q.2 0 (by decide), q.2 1 (by decide), q.2 2 (by decide)]
  exact h
theorem HKt.c {i : It} (hi : (i.1 == 41 || i.1 == 23) = false) (h : HKt s k) : HKt s (i :: k) := by
  rw [Bool.or_eq_false_iff] at hi
  rcases h with h | h
  · exact Or.inl h
  · refine Or.inr ⟨⟨fun e => ?_, fun e => ?_⟩, h⟩
    · have z := hi.1
      rw [e] at z
      exact absurd z (by decide)
    · have z := hi.2
      rw [e] at z
      exact absurd z (by decide)
theorem HKt.w {m : Nat} {sc : Int} {w : Int64} {l : List Nat} (hl : l.getD 1 0 ≤ (s.2.1 1).length) (h : HKt s k) : HKt s (IaddNm m sc w l :: k) := by
  rcases h with h | h
  · exact Or.inl h
  · exact Or.inr ⟨⟨fun e => absurd (show (23 : Nat) = 41 from e) (by decide), fun _ => hl⟩, h⟩
theorem HKt.v {m f : Nat} {sc : Int} {w : Int64} {l : List Nat} (hl : f + 1 ≤ (s.2.1 1).length) (h : HKt s k) : HKt s (IwhenN m sc w ((f + 1) :: l) :: k) := by
  rcases h with h | h
  · exact Or.inl h
  · exact Or.inr ⟨⟨fun _ => hl, fun e => absurd (show (41 : Nat) = 23 from e) (by decide)⟩, h⟩
/-- what an item tells, where the tables aren't too big -/
def OIt (s : St) (i : It) : Prop := BGs s ∨ ((i.1 = 41 → i.2.2.2.2.2.getD 0 0 ≤ (s.2.1 1).length) ∧ (i.1 = 23 → i.2.2.2.2.2.getD 1 0 ≤ (s.2.1 1).length))
theorem HKt.u {m m' v : Nat} {sc sc' x : Int} {w w' : Int64} {l : List Nat} (o : OIt s (41, m', sc', x, w', l)) (h : HKt (nx s 1) k) : HKt (nx s 1) (IaddNm m sc w (v :: l) :: k) := by
  rcases o with o | o
  · exact Or.inl o
  · refine HKt.w ?_ h
    have z := o.1 rfl
    cases l with
    | nil => exact Nat.zero_le _
    | cons a l => exact z
theorem fnd_le {l : List Int64} {w : Int64} {x : Nat} (h : fndI l w = some x) : x + 1 ≤ l.length := by
  unfold fndI at h
  rw [List.findIdx?_eq_some_iff_getElem] at h
  exact h.1
theorem upB_l (f : Nat → List Int64) (t : Nat) (w : Int64) : (upB f t w t).length = (f t).length + 1 := by
  unfold upB
  rw [if_pos rfl, List.length_append]
  rfl
theorem upB_o (f : Nat → List Int64) (t : Nat) (w : Int64) {j : Nat} (h : j ≠ t) : upB f t w j = f j := if_neg h
theorem HSt.ty {w : Int64} {l : List Nat} (h : HSt s) : HSt (tyS s w l) := by
  by_cases b : BGs s
  · refine Or.inl ?_
    show 25 ≤ (upB s.2.1 0 w 0).length ∨ 13 ≤ (upB s.2.1 0 w 1).length ∨ 25 ≤ (upB s.2.1 0 w 2).length
    unfold BGs at b
    rw [upB_l, upB_o _ _ _ (by decide), upB_o _ _ _ (by decide)]
    omega
  · have h2 := h.resolve_left b
    refine Or.inr (fun c hc => ?_)
    unfold BGs at b
    have hc : c < (upB s.2.1 0 w 2).length := hc
    rw [upB_o _ _ _ (by decide)] at hc
    show upN s.1 (30 + (s.2.1 0).length) _ (64 + 8 * c) ≤ (upB s.2.1 0 w 1).length
    rw [upB_o _ _ _ (by decide), upN_o _ _ _ (by omega)]
    exact h2 c hc
theorem HKt.ty {w : Int64} {l : List Nat} (h : HKt s k) : HKt (tyS s w l) k := by
  rcases h with h | h
  · refine Or.inl ?_
    show 25 ≤ (upB s.2.1 0 w 0).length ∨ 13 ≤ (upB s.2.1 0 w 1).length ∨ 25 ≤ (upB s.2.1 0 w 2).length
    unfold BGs at h
    rw [upB_l, upB_o _ _ _ (by decide), upB_o _ _ _ (by decide)]
    omega
  · refine Or.inr ?_
    show IHs (upB s.2.1 0 w 1).length k
    rw [upB_o _ _ _ (by decide)]
    exact h
theorem HSt.se {w : Int64} {v : Nat} (h : HSt s) : HSt (seS s w v) := by
  by_cases b : BGs s
  · refine Or.inl ?_
    show 25 ≤ (upB s.2.1 1 w 0).length ∨ 13 ≤ (upB s.2.1 1 w 1).length ∨ 25 ≤ (upB s.2.1 1 w 2).length
    unfold BGs at b
    rw [upB_l, upB_o _ _ _ (by decide), upB_o _ _ _ (by decide)]
    omega
  · have h2 := h.resolve_left b
    refine Or.inr (fun c hc => ?_)
    unfold BGs at b
    have hc : c < (upB s.2.1 1 w 2).length := hc
    rw [upB_o _ _ _ (by decide)] at hc
    show upN s.1 (10 + (s.2.1 1).length) _ (64 + 8 * c) ≤ (upB s.2.1 1 w 1).length
    rw [upB_l, upN_o _ _ _ (by omega)]
    have z := h2 c hc
    omega
theorem HKt.se {w : Int64} {v : Nat} (h : HKt s k) : HKt (seS s w v) k := by
  rcases h with h | h
  · refine Or.inl ?_
    show 25 ≤ (upB s.2.1 1 w 0).length ∨ 13 ≤ (upB s.2.1 1 w 1).length ∨ 25 ≤ (upB s.2.1 1 w 2).length
    unfold BGs at h
    rw [upB_l, upB_o _ _ _ (by decide), upB_o _ _ _ (by decide)]
    omega
  · refine Or.inr ?_
    show IHs (upB s.2.1 1 w 1).length k
    rw [upB_l]
    exact IHs.up (Nat.le_succ _) k h
theorem HSt.nm {m : Nat} {sc x : Int} {w : Int64} {l : List Nat} (h : HSt s) (o : OIt s (23, m, sc, x, w, l)) : HSt (nmS s m sc w l) := by
  by_cases b : BGs s
  · refine Or.inl ?_
    show 25 ≤ (upB s.2.1 2 w 0).length ∨ 13 ≤ (upB s.2.1 2 w 1).length ∨ 25 ≤ (upB s.2.1 2 w 2).length
    unfold BGs at b
    rw [upB_l, upB_o _ _ _ (by decide), upB_o _ _ _ (by decide)]
    omega
  · have h2 := h.resolve_left b
    have o2 := (o.resolve_left b).2 rfl
    refine Or.inr (fun c hc => ?_)
    have hc : c < (upB s.2.1 2 w 2).length := hc
    rw [upB_l] at hc
    show hdr s.1 (s.2.1 2).length m sc.toNat l (64 + 8 * c) ≤ (upB s.2.1 2 w 1).length
    rw [upB_o _ _ _ (by decide)]
    by_cases e : c = (s.2.1 2).length
    · rw [← e, show 64 + 8 * c = 60 + 8 * c + 4 from by omega, hdr_i (by decide)]
      exact o2
    · rw [hdr_o (by omega)]
      exact h2 c (by omega)
theorem HKt.nm {m : Nat} {sc : Int} {w : Int64} {l : List Nat} (h : HKt s k) : HKt (nmS s m sc w l) k := by
  rcases h with h | h
  · refine Or.inl ?_
    show 25 ≤ (upB s.2.1 2 w 0).length ∨ 13 ≤ (upB s.2.1 2 w 1).length ∨ 25 ≤ (upB s.2.1 2 w 2).length
    unfold BGs at h
    rw [upB_l, upB_o _ _ _ (by decide), upB_o _ _ _ (by decide)]
    omega
  · refine Or.inr ?_
    show IHs (upB s.2.1 2 w 1).length k
    rw [upB_o _ _ _ (by decide)]
    exact h
theorem HSt.nd {a : Int} {f ca : Nat} (h : HSt s) : HSt (ndS s a f ca) := by
  by_cases b : BGs s
  · exact Or.inl b
  · have h2 := h.resolve_left b
    refine Or.inr (fun c hc => ?_)
    have hc : c < (s.2.1 2).length := hc
    unfold BGs at b
    show ndf s.1 ((s.2.1 2).length - 1) a.toNat f ca (64 + 8 * c) ≤ (s.2.1 1).length
    rw [ndf_h (by omega) (by omega) (by omega)]
    exact h2 c hc
theorem HKt.nd {a : Int} {f ca : Nat} (h : HKt s k) : HKt (ndS s a f ca) k := h
theorem HP.i2 {p : Prop} [Decidable p] {a b : Cf} (ha : p → HP a) (hb : ¬ p → HP b) : HP (if p then a else b) := by
  split
  · exact ha ‹_›
  · exact hb ‹_›
theorem HP.lk {l : List Int64} {f : Nat → Cf} (h : ∀ x, fndI l (T.2.1 (s.1 0)) = some x → HP (f x)) : HP (look T s l f) := by
  unfold look
  refine HP.i2 (fun _ => trivial) (fun _ => ?_)
  split
  · exact trivial
  · rename_i x e
    exact h x e
theorem HP.nw {f : Int64 → Cf} (h : ∀ w, HP (f w)) : HP (newN T s f) := by
  unfold newN
  exact HP.i2 (fun _ => trivial) (fun _ => HP.i2 (fun _ => trivial) (fun _ => h _))
theorem keepC.sa {j : Nat} {w : Int64} (hj : 3 ≤ j) : keepC s (sA s j w) := ⟨fun _ _ => rfl, fun i hi => upB_o _ _ _ (by omega)⟩
theorem HP.mw {j : Nat} {f : Nat × St → Cf} (hj : 3 ≤ j) (hs : HSt s) (hk : HKt s k) (h : ∀ x : Nat × St, HSt x.2 → HKt x.2 k → HP (f x)) : HP (mthW T s j f) := by
  unfold mthW
  refine HP.i2 (fun _ => trivial) (fun _ => ?_)
  unfold nbrW
  split
  · exact h _ (hs.kc keepC.n1) (hk.kc keepC.n1)
  · exact HP.i2 (fun _ => trivial) (fun _ => h _ ((hs.kc keepC.n1).kc (keepC.sa hj)) ((hk.kc keepC.n1).kc (keepC.sa hj)))
theorem HP.mn {f : Nat × St → Cf} (hs : HSt s) (hk : HKt s k) (h : ∀ x : Nat × St, HSt x.2 → HKt x.2 k → HP (f x)) : HP (mthN T s f) := by
  unfold mthN
  exact HP.i2 (fun _ => trivial) (fun _ => HP.mw (by decide) hs hk h)
theorem HP.nu {lo hi : Int} {f : Nat → Cf} (h : ∀ v, HP (f v)) : HP (numW T s lo hi f) := by
  unfold numW
  exact HP.i2 (fun _ => trivial) (fun _ => HP.i2 (fun _ => trivial) (fun _ => h _))
theorem HP.it (h : HSt s) (hk : HKt s k) : (i : It) → OIt s i → HP (itW T s k i)
  | (0, _, _, _, _, _), _ => HP.i2 (fun _ => ⟨h.kc keepC.n1, (hk.kc keepC.n1)⟩) (fun _ => trivial)
  | (1, _, _, _, _, _), _ => ⟨h, (HKt.c rfl (HKt.c rfl hk))⟩
  | (2, _, _, _, _, _), _ => HP.i2 (fun _ => ⟨h.kc keepC.n1, (HKt.c rfl (HKt.c rfl (hk.kc keepC.n1)))⟩) (fun _ => ⟨h, hk⟩)
  | (3, _, _, _, _, _), _ => ⟨h, (HKt.c rfl (HKt.c rfl hk))⟩
  | (4, _, _, _, _, _), _ => HP.i2 (fun _ => ⟨h.kc keepC.n1, (HKt.c rfl (HKt.c rfl (HKt.c rfl (hk.kc keepC.n1))))⟩) (fun _ => ⟨h, hk⟩)
  | (5, _, _, _, _, _), _ => ⟨h, (HKt.c rfl (HKt.c rfl hk))⟩
  | (6, _, _, _, _, _), _ => HP.i2 (fun _ => ⟨h.kc keepC.n1, (HKt.c rfl (HKt.c rfl (HKt.c rfl (hk.kc keepC.n1))))⟩) (fun _ => ⟨h, hk⟩)
  | (7, d, _, _, _, _), _ => by
    show HP (if ¬ bgP T s then fl T s 1 else if 8 ≤ d then fl T s 5 else partW T s d k)
    refine HP.i2 (fun _ => trivial) (fun _ => HP.i2 (fun _ => trivial) (fun _ => ?_))
    unfold partW
    exact HP.i2 (fun _ => ⟨((h.kc keepC.n1).kc keepC.em).kc keepC.em, (((hk.kc keepC.n1).kc keepC.em).kc keepC.em)⟩) (fun _ => HP.i2 (fun _ => ⟨(h.kc keepC.n1).kc keepC.em, (HKt.c rfl ((hk.kc keepC.n1).kc keepC.em))⟩) (fun _ => HP.i2 (fun _ => ⟨(h.kc keepC.n1).kc keepC.em, (HKt.c rfl (HKt.c rfl ((hk.kc keepC.n1).kc keepC.em)))⟩) (fun _ => HP.i2 (fun _ => ⟨(h.kc keepC.n1).kc keepC.em, (HKt.c rfl (HKt.c rfl ((hk.kc keepC.n1).kc keepC.em)))⟩) (fun _ => HP.i2 (fun _ => ⟨(h.kc keepC.n1).kc keepC.em, (HKt.c rfl ((hk.kc keepC.n1).kc keepC.em))⟩) (fun _ => HP.i2 (fun _ => ⟨(h.kc keepC.n1).kc keepC.em, (HKt.c rfl ((hk.kc keepC.n1).kc keepC.em))⟩) (fun _ => HP.i2 (fun _ => ⟨(h.kc keepC.n1).kc keepC.em, (HKt.c rfl (HKt.c rfl (HKt.c rfl (HKt.c rfl ((hk.kc keepC.n1).kc keepC.em)))))⟩) (fun _ => HP.i2 (fun _ => ⟨(h.kc keepC.n1).kc keepC.em, (HKt.c rfl ((hk.kc keepC.n1).kc keepC.em))⟩) (fun _ => ⟨(h.kc keepC.n1).kc keepC.em, (HKt.c rfl (HKt.c rfl (HKt.c rfl (HKt.c rfl ((hk.kc keepC.n1).kc keepC.em)))))⟩))))))))
  | (8, _, _, _, _, _), _ => HP.i2 (fun _ => trivial) (fun _ => HP.i2 (fun _ => trivial) (fun _ => ⟨h.kc keepC.n1, (hk.kc keepC.n1)⟩))
  | (9, _, _, _, _, _), _ => HP.lk (fun _ _ => ⟨(h.kc keepC.n1).kc keepC.em, ((hk.kc keepC.n1).kc keepC.em)⟩)
  | (10, _, _, _, _, _), _ => HP.mw (by decide) h hk (fun _ g gk => ⟨g, (HKt.c rfl (HKt.c rfl (HKt.c rfl (HKt.c rfl gk))))⟩)
  | (11, _, _, _, _, _), _ => HP.mw (by decide) h hk (fun _ g gk => ⟨g, (HKt.c rfl (HKt.c rfl (HKt.c rfl gk)))⟩)
  | (12, _, _, _, _, _), _ => by
    show HP (stmtW T s k)
    unfold stmtW
    exact HP.i2 (fun _ => h) (fun _ => HP.i2 (fun _ => HP.i2 (fun _ => trivial) (fun _ => ⟨h.kc keepC.n1, (HKt.c rfl (hk.kc keepC.n1))⟩)) (fun _ => HP.i2 (fun _ => HP.i2 (fun _ => trivial) (fun _ => ⟨h.kc keepC.n1, (HKt.c rfl (hk.kc keepC.n1))⟩)) (fun _ => HP.i2 (fun _ => HP.i2 (fun _ => trivial) (fun _ => ⟨h.kc keepC.n1, (HKt.c rfl (hk.kc keepC.n1))⟩)) (fun _ => HP.i2 (fun _ => HP.i2 (fun _ => trivial) (fun _ => ⟨h.kc keepC.n1, (HKt.c rfl (hk.kc keepC.n1))⟩)) (fun _ => trivial)))))
  | (13, _, _, _, _, _), _ => HP.nw (f := fun w => Crun (nx s 1) (Ilike w :: k)) (fun _ => ⟨h.kc keepC.n1, (HKt.c rfl (hk.kc keepC.n1))⟩)
  | (14, _, _, _, _, _), _ => HP.lk (fun _ _ => HP.i2 (fun _ => trivial) (fun _ => HP.i2 (fun _ => trivial) (fun _ => ⟨h.kc keepC.n1, (HKt.c rfl (hk.kc keepC.n1))⟩)))
  | (15, _, _, _, _, _), _ => ⟨h.ty, hk.ty⟩
  | (16, _, _, _, _, _), _ => HP.nw (f := fun w => Crun (nx s 1) (IsetN w :: k)) (fun _ => ⟨h.kc keepC.n1, (HKt.c rfl (hk.kc keepC.n1))⟩)
  | (17, _, _, _, _, _), _ => ⟨h.se, hk.se⟩
  | (18, _, _, _, _, _), _ => HP.nw (f := fun w => Crun (nx s 1) (Itake 132 :: Itypes 1 w 0 [] :: k)) (fun _ => ⟨h.kc keepC.n1, (HKt.c rfl (HKt.c rfl (hk.kc keepC.n1)))⟩)
  | (19, _, _, _, _, _), _ => HP.i2 (fun _ => trivial) (fun _ => ⟨(h.kc keepC.n1).kc keepC.sc, (HKt.c rfl ((hk.kc keepC.n1).kc keepC.sc))⟩)
  | (20, _, _, _, _, _), _ => HP.i2 (fun _ => ⟨h.kc keepC.n1, (HKt.c rfl (hk.kc keepC.n1))⟩) (fun _ => ⟨h, (HKt.c rfl (HKt.c rfl (HKt.c rfl hk)))⟩)
  | (21, _, _, _, _, _), _ => HP.i2 (fun _ => ⟨h.kc keepC.n1, (HKt.c rfl (hk.kc keepC.n1))⟩) (fun _ => ⟨h, (HKt.c rfl hk)⟩)
  | (22, _, _, _, _, _), _ => HP.i2 (fun _ => ⟨h.kc keepC.n1, (HKt.c rfl (hk.kc keepC.n1))⟩) (fun _ => ⟨h, HKt.c rfl (HKt.w (Nat.zero_le _) (HKt.c rfl hk))⟩)
  | (23, m, sc, _, w, l), o => ⟨h.nm o, hk.nm⟩
  | (24, _, _, _, _, _), _ => by
    show HP (memberW T s k)
    unfold memberW
    exact HP.i2 (fun _ => ⟨h.kc keepC.n1, (HKt.c rfl (hk.kc keepC.n1))⟩) (fun _ => HP.i2 (fun _ => HP.i2 (fun _ => trivial) (fun _ => ⟨h.kc keepC.n1, (HKt.c rfl (hk.kc keepC.n1))⟩)) (fun _ => HP.i2 (fun _ => HP.i2 (fun _ => trivial) (fun _ => ⟨((h.kc (keepC.sn (by decide))).kc keepC.n1).kc (keepC.gl (by omega)), (HKt.c rfl (HKt.c rfl (HKt.c rfl (HKt.c rfl (((hk.kc (keepC.sn (by decide))).kc keepC.n1).kc (keepC.gl (by omega)))))))⟩)) (fun _ => HP.i2 (fun _ => HP.i2 (fun _ => trivial) (fun _ => ⟨((h.kc (keepC.sn (by decide))).kc keepC.n1).kc (keepC.gl (by omega)), (HKt.c rfl (HKt.c rfl (HKt.c rfl (HKt.c rfl (((hk.kc (keepC.sn (by decide))).kc keepC.n1).kc (keepC.gl (by omega)))))))⟩)) (fun _ => HP.i2 (fun _ => ⟨h.kc keepC.n1, (HKt.c rfl (HKt.c rfl (HKt.c rfl (HKt.c rfl (HKt.c rfl (hk.kc keepC.n1))))))⟩) (fun _ => trivial)))))
  | (25, _, _, _, _, _), _ => HP.lk (fun _ _ => HP.i2 (fun _ => ⟨h.kc keepC.n1, (HKt.c rfl (HKt.c rfl (HKt.c rfl (hk.kc keepC.n1))))⟩) (fun _ => ⟨h.kc keepC.n1, (HKt.c rfl (hk.kc keepC.n1))⟩))
  | (26, _, _, _, _, _), _ => ⟨h.nd, hk.nd⟩
  | (27, _, _, _, _, _), _ => HP.mn h hk (fun _ g gk => ⟨(g.kc keepC.st).kc (keepC.gl (by omega)), (gk.kc keepC.st).kc (keepC.gl (by omega))⟩)
  | (28, _, _, _, _, _), _ => HP.lk (fun _ _ => ⟨h.kc keepC.n1, (HKt.c rfl (HKt.c rfl (hk.kc keepC.n1)))⟩)
  | (29, _, _, _, _, _), _ => HP.mw (by decide) h hk (fun _ g gk => ⟨g, (HKt.c rfl gk)⟩)
  | (30, _, _, _, _, _), _ => HP.i2 (fun _ => trivial) (fun _ => HP.i2 (fun _ => trivial) (fun _ => ⟨(h.kc keepC.n1).kc (keepC.sn (by decide)), (HKt.c rfl (HKt.c rfl (HKt.c rfl (HKt.c rfl (HKt.c rfl ((hk.kc keepC.n1).kc (keepC.sn (by decide))))))))⟩))
  | (31, _, _, _, _, _), _ => ⟨h.kc keepC.wS, hk.kc keepC.wS⟩
  | (32, _, _, _, _, _), _ => HP.i2 (fun _ => ⟨h.kc keepC.n1, (HKt.c rfl (hk.kc keepC.n1))⟩) (fun _ => ⟨h, (HKt.c rfl (HKt.c rfl (HKt.c rfl hk)))⟩)
  | (33, _, _, _, _, _), _ => HP.i2 (fun _ => ⟨h.kc keepC.n1, (HKt.c rfl (hk.kc keepC.n1))⟩) (fun _ => ⟨h, (HKt.c rfl hk)⟩)
  | (34, _, _, _, _, _), _ => HP.i2 (fun _ => ⟨h.kc keepC.n1, (HKt.c rfl (hk.kc keepC.n1))⟩) (fun _ => HP.i2 (fun _ => ⟨h.kc keepC.n1, (HKt.c rfl (hk.kc keepC.n1))⟩) (fun _ => ⟨h, (HKt.c rfl hk)⟩))
  | (35, _, _, _, _, _), _ => HP.i2 (fun _ => ⟨h, (HKt.c rfl (HKt.c rfl (HKt.c rfl hk)))⟩) (fun _ => ⟨h, (HKt.c rfl hk)⟩)
  | (36, _, _, _, w, _), _ => HP.nu (T := T) (s := s) (lo := 0) (hi := 999999999) (f := fun v => Crun (nx s 1) (Itake 59 :: IaddSe w v :: Istmt :: k)) (fun _ => ⟨h.kc keepC.n1, (HKt.c rfl (HKt.c rfl (HKt.c rfl (hk.kc keepC.n1))))⟩)
  | (37, _, _, _, _, _), _ => HP.i2 (fun _ => ⟨h.kc keepC.n1, (HKt.c rfl (hk.kc keepC.n1))⟩) (fun _ => ⟨h, (HKt.c rfl hk)⟩)
  | (38, _, _, _, _, _), _ => HP.mw (by decide) h hk (fun _ g gk => ⟨g, (HKt.c rfl gk)⟩)
  | (39, m, sc, _, w, l), _ => HP.nu (T := T) (s := s) (lo := 0) (hi := 9) (f := fun v => Crun (nx s 1) (IwhenI m sc w (v :: l) :: k)) (fun _ => ⟨h.kc keepC.n1, (HKt.c rfl (hk.kc keepC.n1))⟩)
  | (40, _, _, _, _, _), _ => HP.lk (fun x hx => ⟨h.kc keepC.n1, HKt.v (fnd_le hx) (hk.kc keepC.n1)⟩)
  | (41, m, sc, _, w, l), o => HP.nu (T := T) (s := s) (lo := 0) (hi := 999999999) (f := fun v => Crun (nx s 1) (Itake 123 :: IaddNm m sc w (v :: l) :: Imember :: k)) (fun v => ⟨h.kc keepC.n1, HKt.c rfl (HKt.u o (HKt.c rfl (hk.kc keepC.n1)))⟩)
  | (42, _, _, _, _, _), _ => ⟨h.kc keepC.em, hk.kc keepC.em⟩
  | (43, _, _, _, _, _), _ => ⟨h.kc keepC.em, (HKt.c rfl (HKt.c rfl (HKt.c rfl (hk.kc keepC.em))))⟩
  | (44, _, _, _, _, _), _ => ⟨(h.kc keepC.em).kc (keepC.gl (by omega)), (HKt.c rfl (HKt.c rfl (HKt.c rfl ((hk.kc keepC.em).kc (keepC.gl (by omega))))))⟩
  | (45, _, _, _, _, _), _ => ⟨h.kc (keepC.gl (by omega)), hk.kc (keepC.gl (by omega))⟩
  | (46, d, _, _, _, _), _ => HP.nu (T := T) (s := s) (lo := 0) (hi := ((s.1 1 : Nat) : Int) - 1) (f := fun v => Crun (nx s 1) (Itake 46 :: IofM d v :: k)) (fun _ => ⟨h.kc keepC.n1, (HKt.c rfl (HKt.c rfl (hk.kc keepC.n1)))⟩)
  | (47, _, _, _, _, _), _ => ⟨h.kc keepC.em, hk.kc keepC.em⟩
  | (48, _, _, _, _, _), _ => HP.nu (T := T) (s := s) (lo := 1) (hi := 9) (f := fun v => Crun (emS (nx s 1) 10 v 0) k) (fun _ => ⟨(h.kc keepC.n1).kc keepC.em, ((hk.kc keepC.n1).kc keepC.em)⟩)
  | (49, f, _, _, _, l), _ => HP.nu (T := T) (s := s) (lo := 0) (hi := 99) (f := fun v => Crun (nx s 1) (Iphase (l.headD 0) [f, v] :: k)) (fun _ => ⟨h.kc keepC.n1, (HKt.c rfl (hk.kc keepC.n1))⟩)
  | (_ + 50, _, _, _, _, _), _ => ⟨h, hk⟩
theorem HP.st {c : Cf} (h : HP c) : HP (mst T c) := by
  cases c with
  | inr c => exact h
  | inl c =>
    obtain ⟨s, k⟩ := c
    cases k with
    | nil => exact h
    | cons i k =>
      rcases h with ⟨h1, h2 | h2⟩
      · exact HP.it (s := s) h1 (Or.inl h2) i (Or.inl h2)
      · exact HP.it (s := s) h1 (Or.inr h2.2) i (Or.inr h2.1)
theorem HP.run (m : Nat) : ∀ {c : Cf}, HP c → HP (mrun T m c) := by
  induction m with
  | zero => exact fun h => h
  | succ m ih => exact fun h => ih (HP.st h)
end HPs
theorem Rc.wh {T : Tk} {s' : St} (h : Rc T (Crun St0 [Istmt]) (Cdone s')) (l : LNb s') : WHs s' := by
  obtain ⟨m, e⟩ := h
  have g : HP (mrun T m (Crun St0 [Istmt])) := HP.run m ⟨Or.inr (fun c hc => absurd hc (Nat.not_lt_zero _)), HKt.c rfl (Or.inr trivial)⟩
  rw [e] at g
  rcases g with g | g
  · unfold BGs at g
    unfold LNb at l
    omega
  · exact g
/-- the settings that are read, read alike -/
def SEQ (V : Vf) (b : Nat) (Vm : Vf) (q n : Nat) : Prop := ∀ i, i < n → V 46 (12 * b + i) = Vm 18 (12 * q + i)
/-! a need's CANDIDATES, by the content's numbers -/
def thP (f : Nat → Nat) (sv : Nat → Int) (c : Nat) : Bool := f (64 + 8 * c) == 0 || sv (f (64 + 8 * c) - 1) == ((f (65 + 8 * c) : Nat) : Int)
def suP (f : Nat → Nat) (sv : Nat → Int) (t ca k : Nat) : Bool := (f (60 + 8 * k)).testBit t && (ca == 0 || f (62 + 8 * k) == ca) && thP f sv k
def bsP (f : Nat → Nat) (sv : Nat → Int) (t ca : Nat) : Nat → Nat
  | 0 => 0
  | m + 1 => if suP f sv t ca m = true ∧ bsP f sv t ca m < f (63 + 8 * m) then f (63 + 8 * m) else bsP f sv t ca m
def cdP (f : Nat → Nat) (sv : Nat → Int) (kd t ca m k : Nat) : Bool := suP f sv t ca k && (kd == 2 || f (63 + 8 * k) == bsP f sv t ca m)
section CKs
variable {f : Nat → Nat} {sv : Nat → Int} {kd t ca m k : Nat}
theorem thP_0 (h : f (64 + 8 * k) = 0) : thP f sv k = true := by
  unfold thP
  rw [h]
  rfl
theorem thP_y {x v : Int} (h : f (64 + 8 * k) ≠ 0) (e : sv (f (64 + 8 * k) - 1) = x) (e2 : ((f (65 + 8 * k) : Nat) : Int) = v) (q : x = v) : thP f sv k = true := by
  unfold thP
  rw [Bool.or_eq_true, e, e2, q]
  exact Or.inr (beq_self_eq_true v)
theorem thP_n {x v : Int} (h : f (64 + 8 * k) ≠ 0) (e : sv (f (64 + 8 * k) - 1) = x) (e2 : ((f (65 + 8 * k) : Nat) : Int) = v) (q : x ≠ v) : thP f sv k = false := by
  unfold thP
  rw [Bool.or_eq_false_iff, e, e2]
  exact ⟨beq_false_of_ne h, beq_false_of_ne q⟩
theorem suP_y (b : (f (60 + 8 * k)).testBit t = true) (c : ca = 0 ∨ f (62 + 8 * k) = ca) (h : thP f sv k = true) : suP f sv t ca k = true := by
  unfold suP
  rw [b, h, Bool.true_and, Bool.and_true, Bool.or_eq_true, beq_iff_eq, beq_iff_eq]
  exact c
theorem suP_1 (b : (f (60 + 8 * k)).testBit t = false) : suP f sv t ca k = false := by
  unfold suP
  rw [b]
  rfl
theorem suP_2 (c : ca ≠ 0) (c2 : f (62 + 8 * k) ≠ ca) : suP f sv t ca k = false := by
  unfold suP
  rw [beq_false_of_ne c, beq_false_of_ne c2, Bool.or_self, Bool.and_false, Bool.false_and]
theorem suP_3 (h : thP f sv k = false) : suP f sv t ca k = false := by
  unfold suP
  rw [h, Bool.and_false]
theorem bsP_n (h : suP f sv t ca m = false) : bsP f sv t ca (m + 1) = bsP f sv t ca m := if_neg (fun q => by rw [h] at q; exact absurd q.1 Bool.false_ne_true)
theorem bsP_h (h : suP f sv t ca m = true) (l : bsP f sv t ca m < f (63 + 8 * m)) : bsP f sv t ca (m + 1) = f (63 + 8 * m) := if_pos ⟨h, l⟩
theorem bsP_l (l : f (63 + 8 * m) ≤ bsP f sv t ca m) : bsP f sv t ca (m + 1) = bsP f sv t ca m := if_neg (fun q => by omega)
theorem bsP_mono : bsP f sv t ca m ≤ bsP f sv t ca (m + 1) := by
  show _ ≤ if suP f sv t ca m = true ∧ bsP f sv t ca m < f (63 + 8 * m) then f (63 + 8 * m) else bsP f sv t ca m
  split
  · omega
  · omega
theorem bsP_ge : ∀ m, k < m → suP f sv t ca k = true → f (63 + 8 * k) ≤ bsP f sv t ca m := by
  intro m
  induction m with
  | zero => intro h; omega
  | succ m ih =>
    intro h q
    rcases Nat.lt_or_eq_of_le (Nat.le_of_lt_succ h) with c | c
    · exact Nat.le_trans (ih c q) bsP_mono
    · subst c
      by_cases l : bsP f sv t ca k < f (63 + 8 * k)
      · rw [bsP_h q l]
        exact Nat.le_refl _
      · rw [bsP_l (by omega)]
        omega
theorem cdP_y (s : suP f sv t ca k = true) (c : kd = 2 ∨ f (63 + 8 * k) = bsP f sv t ca m) : cdP f sv kd t ca m k = true := by
  unfold cdP
  rw [s, Bool.true_and, Bool.or_eq_true, beq_iff_eq, beq_iff_eq]
  exact c
theorem cdP_i (h : cdP f sv kd t ca m k = true) : suP f sv t ca k = true ∧ (kd = 2 ∨ f (63 + 8 * k) = bsP f sv t ca m) := by
  unfold cdP at h
  rw [Bool.and_eq_true, Bool.or_eq_true, beq_iff_eq, beq_iff_eq] at h
  exact h
theorem cdP_e {m' : Nat} (e : bsP f sv t ca m' = bsP f sv t ca m) : cdP f sv kd t ca m' k = cdP f sv kd t ca m k := by
  unfold cdP
  rw [e]
/-- the set so far -/
def FND (x : Int32) (f : Nat → Nat) (sv : Nat → Int) (kd t ca m : Nat) : Prop := ∀ g, g < 24 → (bt x g = true ↔ g < m ∧ cdP f sv kd t ca m g = true)
theorem FND.z : FND 0 f sv kd t ca 0 := fun g _ => ⟨fun h => by rw [b_0] at h; exact absurd h Bool.false_ne_true, fun h => absurd h.1 (Nat.not_lt_zero _)⟩
theorem cdP_n (h : suP f sv t ca k = false) : cdP f sv kd t ca m k = false := by
  unfold cdP
  rw [h]
  rfl
theorem FND.no {x : Int32} (h : FND x f sv kd t ca m) (n : suP f sv t ca m = false) : FND x f sv kd t ca (m + 1) := fun g hg => by
  rw [h g hg, cdP_e (bsP_n n)]
  constructor
  · exact fun q => ⟨by omega, q.2⟩
  · rintro ⟨a, q⟩
    refine ⟨?_, q⟩
    rcases Nat.lt_or_eq_of_le (Nat.le_of_lt_succ a) with c | c
    · exact c
    · subst c
      rw [cdP_n n] at q
      exact absurd q Bool.false_ne_true
theorem FND.hi {y z3 z4 x : Int32} (x0 : x = 0) (s : suP f sv t ca m = true) (l : bsP f sv t ca m < f (63 + 8 * m)) (hk : kd ≠ 2) (e3 : z3 = 1 <<< (y &&& 31)) (e4 : z4 = x ||| z3) (hy : y.toInt = (m : Int)) (hm : m < 24) : FND z4 f sv kd t ca (m + 1) := fun g hg => by
  subst x0
  rw [lb_set e3 e4 hy hm hg, b_0]
  constructor
  · rintro (q | q)
    · exact ⟨by omega, by rw [q]; exact cdP_y s (Or.inr (bsP_h s l).symm)⟩
    · exact absurd q Bool.false_ne_true
  · rintro ⟨a, q⟩
    left
    obtain ⟨q1, q2⟩ := cdP_i q
    rcases Nat.lt_or_eq_of_le (Nat.le_of_lt_succ a) with c | c
    · have z := bsP_ge m c q1
      rw [bsP_h s l] at q2
      omega
    · exact c
theorem FND.eq {x y z3 z4 : Int32} (h : FND x f sv kd t ca m) (s : suP f sv t ca m = true) (c : (kd = 2 ∧ True) ∨ f (63 + 8 * m) = bsP f sv t ca m) (e3 : z3 = 1 <<< (y &&& 31)) (e4 : z4 = x ||| z3) (hy : y.toInt = (m : Int)) (hm : m < 24) : FND z4 f sv kd t ca (m + 1) := fun g hg => by
  rw [lb_set e3 e4 hy hm hg, h g hg]
  have e : ∀ g, cdP f sv kd t ca (m + 1) g = cdP f sv kd t ca m g := fun g => by
    rcases c with c | c
    · unfold cdP
      rw [c.1]
      rfl
    · exact cdP_e (bsP_l (by omega))
  rw [e g]
  constructor
  · rintro (q | q)
    · refine ⟨by omega, ?_⟩
      rw [q]
      exact cdP_y s (c.elim (fun z => Or.inl z.1) Or.inr)
    · exact ⟨by omega, q.2⟩
  · rintro ⟨a, q⟩
    rcases Nat.lt_or_eq_of_le (Nat.le_of_lt_succ a) with d | d
    · exact Or.inr ⟨d, q⟩
    · exact Or.inl d
theorem FND.lo {x : Int32} (h : FND x f sv kd t ca m) (l : f (63 + 8 * m) < bsP f sv t ca m) (hk : kd ≠ 2) : FND x f sv kd t ca (m + 1) := fun g hg => by
  rw [h g hg, cdP_e (bsP_l (by omega))]
  constructor
  · exact fun q => ⟨by omega, q.2⟩
  · rintro ⟨a, q⟩
    refine ⟨?_, q⟩
    rcases Nat.lt_or_eq_of_le (Nat.le_of_lt_succ a) with c | c
    · exact c
    · subst c
      have z := (cdP_i q).2
      omega
end CKs
/-- the settings as they are -/
def svc (V : Vf) (b n : Nat) : Nat → Int := fun i => if i < n then (V 46 (12 * b + i)).toInt else 0


abbrev r_x_isThere5 : Room := { frames := 0, cells := 0, slots := 0, locals := 0 }
abbrev q_x_isThere5 (D : va_G) (ks : KS) (ad : Nat → Nat) (kk : Nat → ClassId) (V : Vf) (L : Lf) (Z : XZ) (p0 : Int32) (b : Nat) (gs : St) (gk : Nat) (A : Nat → Prop) : Array Value → State → Outcome → State → Prop := va_Qi (fun (r : Int32) (_ : Unit) => (0 ≤ r.toInt ∧ r.toInt ≤ 1) ∧ ((r.toInt = 1 ∧ thP gs.1 (svc V b (gs.2.1 1).length) gk = true) ∨ (r.toInt = 0 ∧ thP gs.1 (svc V b (gs.2.1 1).length) gk = false))) (fun _ t => gq D A (xw ad kk V L Z) (xty kk Z) t) A
set_option maxHeartbeats 4000000 in
set_option maxRecDepth 100000 in
theorem x_isThere5 (l : Launch) (D : va_G) (ks : KS) (sz : Nat) (ad : Nat → Nat) (kk : Nat → ClassId) (V : Vf) (L : Lf) (Z : XZ) (p0 : Int32) (b : Nat) (gs : St) (gk : Nat) (hMV : rgd bX V) (rg_p0 : 0 ≤ p0.toInt ∧ p0.toInt ≤ 23) (hb2 : b < 2) (pk : p0.toInt = (gk : Int)) (co : COr V (24 * b + gk) gs.1 gk) (whk : gs.1 (64 + 8 * gk) ≤ (gs.2.1 1).length)  : Met l yX0_isThere (Cond.code yX0_isThere cX0_isThere 3 (some .boolean) :: GW) r_x_isThere5 (va_Pc [.ref (ad (38 + b)), .int p0] (gp D ks (xw ad kk V L Z) (xty kk Z) sz)) (q_x_isThere5 D ks ad kk V L Z p0 b gs gk (va_A (xw ad kk V L Z) sz)) 0 0 (va_A (xw ad kk V L Z) sz) := by
  refine g_met (q_x_isThere5 D ks ad kk V L Z p0 b gs gk) (by decide) (Nat.le_of_ble_eq_true rfl) ?_
  intro p e s m below meth c A ls H locs hx hb hr hml hown hg hlocks hin hnw hgk hP hK hD hS hA hl
  replace hown : s.vm.findClass RX0 = some m.cls := hown
  replace hl : lv_has ls 3 [(0, .ref (ad (38 + b))), (1, .int p0)] := hl
  replace hP : va_P D vwCl (xw ad kk V L Z) H := hP
  replace hD : va_D A (xw ad kk V L Z) := hD
  replace hK : va_K D vwCl (xty kk Z) s := hK
  have kc0 : Int32.toNatClampNeg p0 = gk := by have h9 := i_clamp (x := p0) rfl (by (first | exact om_eafa9039069c rg_p0.1 | omega)); (first | exact om_c4e1e142d663 pk h9 | omega)
  have c54 : (V 54 (24 * b + (Int32.toNatClampNeg p0))).toInt + 1 = ((gs.1 (64 + 8 * gk) : Nat) : Int) := by rw [kc0]; exact co.1.2.2.2.2.1
  have c55 : gs.1 (64 + 8 * gk) ≠ 0 → (V 55 (24 * b + (Int32.toNatClampNeg p0))).toInt = ((gs.1 (65 + 8 * gk) : Nat) : Int) := by rw [kc0]; exact co.1.2.2.2.2.2
  refine lv_aload_n hx hb dX0_isThere_0 rfl (lv_at hl 0 rfl) ?_
  refine va_get (D := D) (ci := 0) (v := .ref (ad (64 + b))) (fs := (xfBook ad V b)) (C := RX0) (T := TX0) (N := 13) hx hb hg inX0 hown hK hP (38 + b) (xgBook hb2) rfl 7 (by decide) (hg _ w614) (fun _ h9 => h9) rfl dX0_isThere_1 ?_
  refine lv_iload_n hx hb dX0_isThere_4 rfl (lv_at hl 1 rfl) ?_
  have il1 : b < 2 := by first | exact om_f940a4667dd6 hb2 | first | omega | ((try (have i_co := Imp.go co (by omega))); omega)
  refine va_aldq (D := D) (i := p0) hx hb hK hP (64 + b) (57 + b) (xgcomps il1) (xtcomps il1) (i_in (a := p0.toInt) rfl (by first | exact om_dbb25e99819b rg_p0.1 rg_p0.2 | first | omega | ((try (have i_co := Imp.go co (by omega))); omega))) dX0_isThere_5 ?_
  have kc2 := i_clamp (x := p0) rfl (by first | exact om_eafa9039069c rg_p0.1 | first | omega | ((try (have i_co := Imp.go co (by omega))); omega))
  refine g_topv (v := .ref (ad (72 + (24 * b + (Int32.toNatClampNeg p0))))) (congrArg va_rf (if_pos (by first | omega | ((try (have i_co := Imp.go co (by omega))); omega)))) ?_
  have il3 : (24 * b + (Int32.toNatClampNeg p0)) < 48 := by first | exact om_6c55e7c13eef rg_p0.2 hb2 pk kc0 | first | omega | ((try (have i_co := Imp.go co (by omega))); omega)
  refine lv_astore_n (lv' := [(2, .ref (ad (72 + (24 * b + (Int32.toNatClampNeg p0))))), (0, .ref (ad (38 + b))), (1, .int p0)]) hx hb dX0_isThere_6 rfl hl (by decide) rfl (fun ls hl => ?_)
  refine lv_aload_n hx hb dX0_isThere_7 rfl (lv_at hl 0 rfl) ?_
  refine va_getN (D := D) (ci := 3) (v := .int (V 54 (24 * b + (Int32.toNatClampNeg p0)))) (fs := (xfComp ad V (24 * b + (Int32.toNatClampNeg p0)))) (C := RX3) (T := TX3) (N := 13) hx hb hg inX3 hown hK hP (72 + (24 * b + (Int32.toNatClampNeg p0))) (xgComp il3) rfl 9 (by decide) (hnw.use 532 n532 rfl) (fun _ h9 => h9) rfl dX0_isThere_8 ?_
  have r4 : (-1) ≤ ((V 54 (24 * b + (Int32.toNatClampNeg p0)))).toInt ∧ ((V 54 (24 * b + (Int32.toNatClampNeg p0)))).toInt ≤ 11 := hMV 54 (24 * b + (Int32.toNatClampNeg p0))
  refine lv_iconst (v := (-1)) hx hb dX0_isThere_11 (by decide) ?_
  refine lv_icmp_eq (tgt := 31) hx hb dX0_isThere_12 (by decide) (fun c5 => ?_) (fun c5 => ?_)
  · skip
    have f6 : ((V 54 (24 * b + (Int32.toNatClampNeg p0)))).toInt = (-1) := b_eq rfl (by decide) c5
    refine lv_iconst (v := 1) hx hb dX0_isThere_31 (by decide) ?_
    refine lv_goto (tgt := 36) hx hb dX0_isThere_32 (by decide) ?_
    exact W.zret (v := 1) hx hb hr rfl (fun t ht hW => ⟨⟨1, (), rfl, ⟨(by decide), (Or.inl ⟨rfl, thP_0 (by omega)⟩)⟩, by rw [ht]; exact hP, va_K.moved hW.alike hK, hD⟩, hS.F ht⟩) hS.2.2 dX0_isThere_36
  · skip
    have f7 : ((V 54 (24 * b + (Int32.toNatClampNeg p0)))).toInt ≠ (-1) := b_neq rfl (by decide) c5
    refine lv_aload_n hx hb dX0_isThere_15 rfl (lv_at hl 1 rfl) ?_
    refine va_get (D := D) (ci := 0) (v := .ref (ad (62 + b))) (fs := (xfBook ad V b)) (C := RX0) (T := TX0) (N := 13) hx hb hg inX0 hown hK hP (38 + b) (xgBook hb2) rfl 6 (by decide) (hg _ w610) (fun _ h9 => h9) rfl dX0_isThere_16 ?_
    refine lv_aload_n hx hb dX0_isThere_19 rfl (lv_at hl 0 rfl) ?_
    refine va_getN (D := D) (ci := 3) (v := .int (V 54 (24 * b + (Int32.toNatClampNeg p0)))) (fs := (xfComp ad V (24 * b + (Int32.toNatClampNeg p0)))) (C := RX3) (T := TX3) (N := 13) hx hb hg inX3 hown hK hP (72 + (24 * b + (Int32.toNatClampNeg p0))) (xgComp il3) rfl 9 (by decide) (hnw.use 532 n532 rfl) (fun _ h9 => h9) rfl dX0_isThere_20 ?_
    have il8 : b < 2 := by first | exact om_f940a4667dd6 hb2 | first | omega | ((try (have i_co := Imp.go co (by omega))); omega)
    refine va_iald (D := D) (i := (V 54 (24 * b + (Int32.toNatClampNeg p0)))) hx hb hK hP (62 + b) (55 + b) (xgsettingValues il8) (xtsettingValues il8) (i_in (a := ((V 54 (24 * b + (Int32.toNatClampNeg p0)))).toInt) rfl (by first | exact om_928558d2dcf1 r4.1 r4.2 f7 | first | omega | ((try (have i_co := Imp.go co (by omega))); omega))) dX0_isThere_23 ?_
    have kc9 := i_clamp (x := (V 54 (24 * b + (Int32.toNatClampNeg p0)))) rfl (by first | exact om_e3b1d6ac9ce8 r4.1 f7 | first | omega | ((try (have i_co := Imp.go co (by omega))); omega))
    refine g_top (v := V 46 (12 * b + (Int32.toNatClampNeg (V 54 (24 * b + (Int32.toNatClampNeg p0)))))) (if_pos (by first | omega | ((try (have i_co := Imp.go co (by omega))); omega))) ?_
    refine lv_aload_n hx hb dX0_isThere_24 rfl (lv_at hl 0 rfl) ?_
    refine va_getN (D := D) (ci := 3) (v := .int (V 55 (24 * b + (Int32.toNatClampNeg p0)))) (fs := (xfComp ad V (24 * b + (Int32.toNatClampNeg p0)))) (C := RX3) (T := TX3) (N := 13) hx hb hg inX3 hown hK hP (72 + (24 * b + (Int32.toNatClampNeg p0))) (xgComp il3) rfl 10 (by decide) (hnw.use 535 n535 rfl) (fun _ h9 => h9) rfl dX0_isThere_25 ?_
    refine lv_icmp_ne (tgt := 35) hx hb dX0_isThere_28 (by decide) (fun c10 => ?_) (fun c10 => ?_)
    · skip
      have f11 : ((V 46 (12 * b + (Int32.toNatClampNeg (V 54 (24 * b + (Int32.toNatClampNeg p0))))))).toInt ≠ ((V 55 (24 * b + (Int32.toNatClampNeg p0)))).toInt := b_neq rfl rfl c10
      refine lv_iconst (v := 0) hx hb dX0_isThere_35 (by decide) ?_
      have nz9 : gs.1 (64 + 8 * gk) ≠ 0 := by omega
      have kz9 : gs.1 (64 + 8 * gk) - 1 = (Int32.toNatClampNeg (V 54 (24 * b + (Int32.toNatClampNeg p0)))) := by have h9 := i_clamp (x := V 54 (24 * b + (Int32.toNatClampNeg p0))) rfl (by (first | exact om_e3b1d6ac9ce8 r4.1 f7 | omega)); omega
      have sv9 : svc V b (gs.2.1 1).length (gs.1 (64 + 8 * gk) - 1) = (V 46 (12 * b + (Int32.toNatClampNeg (V 54 (24 * b + (Int32.toNatClampNeg p0)))))).toInt := by unfold svc; rw [if_pos (show gs.1 (64 + 8 * gk) - 1 < (gs.2.1 1).length from by omega), kz9]
      exact W.zret (v := 0) hx hb hr rfl (fun t ht hW => ⟨⟨0, (), rfl, ⟨(by decide), (Or.inr ⟨rfl, thP_n nz9 sv9 (c55 nz9).symm (by omega)⟩)⟩, by rw [ht]; exact hP, va_K.moved hW.alike hK, hD⟩, hS.F ht⟩) hS.2.2 dX0_isThere_36
    · skip
      have f12 : ((V 46 (12 * b + (Int32.toNatClampNeg (V 54 (24 * b + (Int32.toNatClampNeg p0))))))).toInt = ((V 55 (24 * b + (Int32.toNatClampNeg p0)))).toInt := b_eq rfl rfl c10
      refine lv_iconst (v := 1) hx hb dX0_isThere_31 (by decide) ?_
      refine lv_goto (tgt := 36) hx hb dX0_isThere_32 (by decide) ?_
      have nz9 : gs.1 (64 + 8 * gk) ≠ 0 := by omega
      have kz9 : gs.1 (64 + 8 * gk) - 1 = (Int32.toNatClampNeg (V 54 (24 * b + (Int32.toNatClampNeg p0)))) := by have h9 := i_clamp (x := V 54 (24 * b + (Int32.toNatClampNeg p0))) rfl (by (first | exact om_e3b1d6ac9ce8 r4.1 f7 | omega)); omega
      have sv9 : svc V b (gs.2.1 1).length (gs.1 (64 + 8 * gk) - 1) = (V 46 (12 * b + (Int32.toNatClampNeg (V 54 (24 * b + (Int32.toNatClampNeg p0)))))).toInt := by unfold svc; rw [if_pos (show gs.1 (64 + 8 * gk) - 1 < (gs.2.1 1).length from by omega), kz9]
      exact W.zret (v := 1) hx hb hr rfl (fun t ht hW => ⟨⟨1, (), rfl, ⟨(by decide), (Or.inl ⟨rfl, thP_y nz9 sv9 (c55 nz9).symm (by omega)⟩)⟩, by rw [ht]; exact hP, va_K.moved hW.alike hK, hD⟩, hS.F ht⟩) hS.2.2 dX0_isThere_36
abbrev r_x_candidates5 : Room := { frames := 1, cells := 0, slots := 0, locals := 22 }
abbrev q_x_candidates5 (D : va_G) (ks : KS) (ad : Nat → Nat) (kk : Nat → ClassId) (V : Vf) (L : Lf) (Z : XZ) (p0 : Int32) (p1 : Int32) (b : Nat) (gs : St) (gk : Nat) (gj : Nat) (A : Nat → Prop) : Array Value → State → Outcome → State → Prop := va_Qi (fun (r : Int32) (_ : Unit) => (0 ≤ r.toInt ∧ r.toInt ≤ 16777215) ∧ (FND r gs.1 (svc V b (gs.2.1 1).length) (gs.1 (301 + 32 * gk + 4 * gj)) (gs.1 (300 + 32 * gk + 4 * gj)) (gs.1 (302 + 32 * gk + 4 * gj)) (gs.2.1 2).length)) (fun _ t => gq D A (xw ad kk V L Z) (xty kk Z) t) A
set_option maxHeartbeats 4000000 in
set_option maxRecDepth 100000 in
theorem x_candidates5 (l : Launch) (D : va_G) (ks : KS) (sz : Nat) (ad : Nat → Nat) (kk : Nat → ClassId) (V : Vf) (L : Lf) (Z : XZ) (p0 : Int32) (p1 : Int32) (b : Nat) (gs : St) (gk : Nat) (gj : Nat) (hMV : rgd bX V) (rg_p0 : 0 ≤ p0.toInt ∧ p0.toInt ≤ 23) (rg_p1 : 0 ≤ p1.toInt ∧ p1.toInt ≤ 7) (hb2 : b < 2) (pk : p0.toInt = (gk : Int)) (pj : p1.toInt = (gj : Int)) (coc : COc V b gs) (wh : WHs gs) (gkl : gk < (gs.2.1 2).length) (gjl : gj < gs.1 (66 + 8 * gk)) (ln : (V 43 (5 * b + 2)).toInt = (((gs.2.1 2).length : Nat) : Int))  : Met l yX0_candidates (Cond.code yX0_candidates cX0_candidates 12 (some .int) :: GW) r_x_candidates5 (va_Pc [.ref (ad (38 + b)), .int p0, .int p1] (gp D ks (xw ad kk V L Z) (xty kk Z) sz)) (q_x_candidates5 D ks ad kk V L Z p0 p1 b gs gk gj (va_A (xw ad kk V L Z) sz)) 0 0 (va_A (xw ad kk V L Z) sz) := by
  refine g_met (q_x_candidates5 D ks ad kk V L Z p0 p1 b gs gk gj) (by decide) (Nat.le_of_ble_eq_true rfl) ?_
  intro p e s m below meth c A ls H locs hx hb hr hml hown hg hlocks hin hnw hgk hP hK hD hS hA hl
  replace hown : s.vm.findClass RX0 = some m.cls := hown
  replace hl : lv_has ls 12 [(0, .ref (ad (38 + b))), (1, .int p0), (2, .int p1)] := hl
  replace hP : va_P D vwCl (xw ad kk V L Z) H := hP
  replace hD : va_D A (xw ad kk V L Z) := hD
  replace hK : va_K D vwCl (xty kk Z) s := hK
  have r1 : 0 ≤ ((V 43 (5 * b + 2))).toInt ∧ ((V 43 (5 * b + 2))).toInt ≤ ((xcap (5 * b + 2) : Nat) : Int) := hMV 43 (5 * b + 2)
  have r2 : xcap (5 * b + 2) = 24 := xcap_2
  have kc0 : Int32.toNatClampNeg p0 = gk := by have h9 := i_clamp (x := p0) rfl (by (first | exact om_eafa9039069c rg_p0.1 | omega)); (first | exact om_c4e1e142d663 pk h9 | omega)
  have kc1 : Int32.toNatClampNeg p1 = gj := by have h9 := i_clamp (x := p1) rfl (by (first | exact om_eafa9039069c rg_p1.1 | omega)); (first | exact om_c4e1e142d663 pj h9 | omega)
  have ne9 := (coc gk gkl).2.2.2 gj gjl
  unfold NEr at ne9
  rw [show 8 * (24 * b + gk) + gj = 8 * (24 * b + (Int32.toNatClampNeg p0)) + (Int32.toNatClampNeg p1) from by rw [kc0, kc1]] at ne9
  have n58 := ne9.1
  have n60 := ne9.2.1
  have n59 := ne9.2.2.1
  have n24 := ne9.2.2.2
  refine lv_aload_n hx hb dX0_candidates_0 rfl (lv_at hl 0 rfl) ?_
  refine va_get (D := D) (ci := 0) (v := .ref (ad (64 + b))) (fs := (xfBook ad V b)) (C := RX0) (T := TX0) (N := 13) hx hb hg inX0 hown hK hP (38 + b) (xgBook hb2) rfl 7 (by decide) (hg _ w614) (fun _ h9 => h9) rfl dX0_candidates_1 ?_
  refine lv_iload_n hx hb dX0_candidates_4 rfl (lv_at hl 1 rfl) ?_
  have il3 : b < 2 := by first | exact om_f940a4667dd6 hb2 | first | omega | ((try (have i_gjl := Imp.go gjl (by omega))); (try (have i_gkl := Imp.go gkl (by omega))); (try (have i_wh := Imp.go wh (by omega))); (try (have i_coc := Imp.go coc (by omega))); first | omega | ((try (have i_coc := Imp.go coc (by omega))); (try (have i_wh := Imp.go wh (by omega))); (try (have i_gkl := Imp.go gkl (by omega))); (try (have i_gjl := Imp.go gjl (by omega))); omega))
  refine va_aldq (D := D) (i := p0) hx hb hK hP (64 + b) (57 + b) (xgcomps il3) (xtcomps il3) (i_in (a := p0.toInt) rfl (by first | exact om_dbb25e99819b rg_p0.1 rg_p0.2 | first | omega | ((try (have i_gjl := Imp.go gjl (by omega))); (try (have i_gkl := Imp.go gkl (by omega))); (try (have i_wh := Imp.go wh (by omega))); (try (have i_coc := Imp.go coc (by omega))); first | omega | ((try (have i_coc := Imp.go coc (by omega))); (try (have i_wh := Imp.go wh (by omega))); (try (have i_gkl := Imp.go gkl (by omega))); (try (have i_gjl := Imp.go gjl (by omega))); omega)))) dX0_candidates_5 ?_
  have kc4 := i_clamp (x := p0) rfl (by first | exact om_eafa9039069c rg_p0.1 | first | omega | ((try (have i_gjl := Imp.go gjl (by omega))); (try (have i_gkl := Imp.go gkl (by omega))); (try (have i_wh := Imp.go wh (by omega))); (try (have i_coc := Imp.go coc (by omega))); first | omega | ((try (have i_coc := Imp.go coc (by omega))); (try (have i_wh := Imp.go wh (by omega))); (try (have i_gkl := Imp.go gkl (by omega))); (try (have i_gjl := Imp.go gjl (by omega))); omega)))
  refine g_topv (v := .ref (ad (72 + (24 * b + (Int32.toNatClampNeg p0))))) (congrArg va_rf (if_pos (by first | omega | ((try (have i_gjl := Imp.go gjl (by omega))); (try (have i_gkl := Imp.go gkl (by omega))); (try (have i_wh := Imp.go wh (by omega))); (try (have i_coc := Imp.go coc (by omega))); first | omega | ((try (have i_coc := Imp.go coc (by omega))); (try (have i_wh := Imp.go wh (by omega))); (try (have i_gkl := Imp.go gkl (by omega))); (try (have i_gjl := Imp.go gjl (by omega))); omega))))) ?_
  have il5 : (24 * b + (Int32.toNatClampNeg p0)) < 48 := by first | exact om_6c55e7c13eef rg_p0.2 hb2 pk kc0 | first | omega | ((try (have i_gjl := Imp.go gjl (by omega))); (try (have i_gkl := Imp.go gkl (by omega))); (try (have i_wh := Imp.go wh (by omega))); (try (have i_coc := Imp.go coc (by omega))); first | omega | ((try (have i_coc := Imp.go coc (by omega))); (try (have i_wh := Imp.go wh (by omega))); (try (have i_gkl := Imp.go gkl (by omega))); (try (have i_gjl := Imp.go gjl (by omega))); omega))
  refine lv_astore_n (lv' := [(3, .ref (ad (72 + (24 * b + (Int32.toNatClampNeg p0))))), (0, .ref (ad (38 + b))), (1, .int p0), (2, .int p1)]) hx hb dX0_candidates_6 rfl hl (by decide) rfl (fun ls hl => ?_)
  refine lv_aload_n hx hb dX0_candidates_7 rfl (lv_at hl 0 rfl) ?_
  refine va_getN (D := D) (ci := 3) (v := .ref (ad (216 + (24 * b + (Int32.toNatClampNeg p0))))) (fs := (xfComp ad V (24 * b + (Int32.toNatClampNeg p0)))) (C := RX3) (T := TX3) (N := 13) hx hb hg inX3 hown hK hP (72 + (24 * b + (Int32.toNatClampNeg p0))) (xgComp il5) rfl 2 (by decide) (hnw.use 505 n505 rfl) (fun _ h9 => h9) rfl dX0_candidates_8 ?_
  refine lv_iload_n hx hb dX0_candidates_11 rfl (lv_at hl 3 rfl) ?_
  have il6 : (24 * b + (Int32.toNatClampNeg p0)) < 48 := by first | exact om_6c55e7c13eef rg_p0.2 hb2 pk kc0 | first | omega | ((try (have i_gjl := Imp.go gjl (by omega))); (try (have i_gkl := Imp.go gkl (by omega))); (try (have i_wh := Imp.go wh (by omega))); (try (have i_coc := Imp.go coc (by omega))); first | omega | ((try (have i_coc := Imp.go coc (by omega))); (try (have i_wh := Imp.go wh (by omega))); (try (have i_gkl := Imp.go gkl (by omega))); (try (have i_gjl := Imp.go gjl (by omega))); omega))
  refine va_iald (D := D) (i := p1) hx hb hK hP (216 + (24 * b + (Int32.toNatClampNeg p0))) (209 + (24 * b + (Int32.toNatClampNeg p0))) (xgneedKinds il6) (xtneedKinds il6) (i_in (a := p1.toInt) rfl (by first | omega | ((try (have i_gjl := Imp.go gjl (by omega))); (try (have i_gkl := Imp.go gkl (by omega))); (try (have i_wh := Imp.go wh (by omega))); (try (have i_coc := Imp.go coc (by omega))); first | omega | ((try (have i_coc := Imp.go coc (by omega))); (try (have i_wh := Imp.go wh (by omega))); (try (have i_gkl := Imp.go gkl (by omega))); (try (have i_gjl := Imp.go gjl (by omega))); omega)))) dX0_candidates_12 ?_
  have kc7 := i_clamp (x := p1) rfl (by first | exact om_eafa9039069c rg_p1.1 | first | omega | ((try (have i_gjl := Imp.go gjl (by omega))); (try (have i_gkl := Imp.go gkl (by omega))); (try (have i_wh := Imp.go wh (by omega))); (try (have i_coc := Imp.go coc (by omega))); first | omega | ((try (have i_coc := Imp.go coc (by omega))); (try (have i_wh := Imp.go wh (by omega))); (try (have i_gkl := Imp.go gkl (by omega))); (try (have i_gjl := Imp.go gjl (by omega))); omega)))
  refine g_top (v := V 60 (8 * (24 * b + (Int32.toNatClampNeg p0)) + (Int32.toNatClampNeg p1))) (if_pos (by first | omega | ((try (have i_gjl := Imp.go gjl (by omega))); (try (have i_gkl := Imp.go gkl (by omega))); (try (have i_wh := Imp.go wh (by omega))); (try (have i_coc := Imp.go coc (by omega))); first | omega | ((try (have i_coc := Imp.go coc (by omega))); (try (have i_wh := Imp.go wh (by omega))); (try (have i_gkl := Imp.go gkl (by omega))); (try (have i_gjl := Imp.go gjl (by omega))); omega)))) ?_
  refine lv_istore (lv' := [(4, .int (V 60 (8 * (24 * b + (Int32.toNatClampNeg p0)) + (Int32.toNatClampNeg p1)))), (3, .ref (ad (72 + (24 * b + (Int32.toNatClampNeg p0))))), (0, .ref (ad (38 + b))), (1, .int p0), (2, .int p1)]) hx hb dX0_candidates_13 hl (by decide) rfl (fun ls hl => ?_)
  refine lv_aload_n hx hb dX0_candidates_15 rfl (lv_at hl 1 rfl) ?_
  refine va_getN (D := D) (ci := 3) (v := .ref (ad (120 + (24 * b + (Int32.toNatClampNeg p0))))) (fs := (xfComp ad V (24 * b + (Int32.toNatClampNeg p0)))) (C := RX3) (T := TX3) (N := 13) hx hb hg inX3 hown hK hP (72 + (24 * b + (Int32.toNatClampNeg p0))) (xgComp il5) rfl 0 (by decide) (hnw.use 500 n500 rfl) (fun _ h9 => h9) rfl dX0_candidates_16 ?_
  refine lv_iload_n hx hb dX0_candidates_19 rfl (lv_at hl 4 rfl) ?_
  have il8 : (24 * b + (Int32.toNatClampNeg p0)) < 48 := by first | exact om_6c55e7c13eef rg_p0.2 hb2 pk kc0 | first | omega | ((try (have i_gjl := Imp.go gjl (by omega))); (try (have i_gkl := Imp.go gkl (by omega))); (try (have i_wh := Imp.go wh (by omega))); (try (have i_coc := Imp.go coc (by omega))); first | omega | ((try (have i_coc := Imp.go coc (by omega))); (try (have i_wh := Imp.go wh (by omega))); (try (have i_gkl := Imp.go gkl (by omega))); (try (have i_gjl := Imp.go gjl (by omega))); omega))
  refine va_iald (D := D) (i := p1) hx hb hK hP (120 + (24 * b + (Int32.toNatClampNeg p0))) (113 + (24 * b + (Int32.toNatClampNeg p0))) (xgneedTypes il8) (xtneedTypes il8) (i_in (a := p1.toInt) rfl (by first | omega | ((try (have i_gjl := Imp.go gjl (by omega))); (try (have i_gkl := Imp.go gkl (by omega))); (try (have i_wh := Imp.go wh (by omega))); (try (have i_coc := Imp.go coc (by omega))); first | omega | ((try (have i_coc := Imp.go coc (by omega))); (try (have i_wh := Imp.go wh (by omega))); (try (have i_gkl := Imp.go gkl (by omega))); (try (have i_gjl := Imp.go gjl (by omega))); omega)))) dX0_candidates_20 ?_
  refine g_top (v := V 58 (8 * (24 * b + (Int32.toNatClampNeg p0)) + (Int32.toNatClampNeg p1))) (if_pos (by first | omega | ((try (have i_gjl := Imp.go gjl (by omega))); (try (have i_gkl := Imp.go gkl (by omega))); (try (have i_wh := Imp.go wh (by omega))); (try (have i_coc := Imp.go coc (by omega))); first | omega | ((try (have i_coc := Imp.go coc (by omega))); (try (have i_wh := Imp.go wh (by omega))); (try (have i_gkl := Imp.go gkl (by omega))); (try (have i_gjl := Imp.go gjl (by omega))); omega)))) ?_
  refine lv_istore (lv' := [(5, .int (V 58 (8 * (24 * b + (Int32.toNatClampNeg p0)) + (Int32.toNatClampNeg p1)))), (4, .int (V 60 (8 * (24 * b + (Int32.toNatClampNeg p0)) + (Int32.toNatClampNeg p1)))), (3, .ref (ad (72 + (24 * b + (Int32.toNatClampNeg p0))))), (0, .ref (ad (38 + b))), (1, .int p0), (2, .int p1)]) hx hb dX0_candidates_21 hl (by decide) rfl (fun ls hl => ?_)
  refine lv_aload_n hx hb dX0_candidates_23 rfl (lv_at hl 2 rfl) ?_
  refine va_getN (D := D) (ci := 3) (v := .ref (ad (168 + (24 * b + (Int32.toNatClampNeg p0))))) (fs := (xfComp ad V (24 * b + (Int32.toNatClampNeg p0)))) (C := RX3) (T := TX3) (N := 13) hx hb hg inX3 hown hK hP (72 + (24 * b + (Int32.toNatClampNeg p0))) (xgComp il5) rfl 1 (by decide) (hnw.use 502 n502 rfl) (fun _ h9 => h9) rfl dX0_candidates_24 ?_
  refine lv_iload_n hx hb dX0_candidates_27 rfl (lv_at hl 5 rfl) ?_
  have il9 : (24 * b + (Int32.toNatClampNeg p0)) < 48 := by first | exact om_6c55e7c13eef rg_p0.2 hb2 pk kc0 | first | omega | ((try (have i_gjl := Imp.go gjl (by omega))); (try (have i_gkl := Imp.go gkl (by omega))); (try (have i_wh := Imp.go wh (by omega))); (try (have i_coc := Imp.go coc (by omega))); first | omega | ((try (have i_coc := Imp.go coc (by omega))); (try (have i_wh := Imp.go wh (by omega))); (try (have i_gkl := Imp.go gkl (by omega))); (try (have i_gjl := Imp.go gjl (by omega))); omega))
  refine va_iald (D := D) (i := p1) hx hb hK hP (168 + (24 * b + (Int32.toNatClampNeg p0))) (161 + (24 * b + (Int32.toNatClampNeg p0))) (xgneedWords il9) (xtneedWords il9) (i_in (a := p1.toInt) rfl (by first | omega | ((try (have i_gjl := Imp.go gjl (by omega))); (try (have i_gkl := Imp.go gkl (by omega))); (try (have i_wh := Imp.go wh (by omega))); (try (have i_coc := Imp.go coc (by omega))); first | omega | ((try (have i_coc := Imp.go coc (by omega))); (try (have i_wh := Imp.go wh (by omega))); (try (have i_gkl := Imp.go gkl (by omega))); (try (have i_gjl := Imp.go gjl (by omega))); omega)))) dX0_candidates_28 ?_
  refine g_top (v := V 59 (8 * (24 * b + (Int32.toNatClampNeg p0)) + (Int32.toNatClampNeg p1))) (if_pos (by first | omega | ((try (have i_gjl := Imp.go gjl (by omega))); (try (have i_gkl := Imp.go gkl (by omega))); (try (have i_wh := Imp.go wh (by omega))); (try (have i_coc := Imp.go coc (by omega))); first | omega | ((try (have i_coc := Imp.go coc (by omega))); (try (have i_wh := Imp.go wh (by omega))); (try (have i_gkl := Imp.go gkl (by omega))); (try (have i_gjl := Imp.go gjl (by omega))); omega)))) ?_
  refine lv_istore (lv' := [(6, .int (V 59 (8 * (24 * b + (Int32.toNatClampNeg p0)) + (Int32.toNatClampNeg p1)))), (5, .int (V 58 (8 * (24 * b + (Int32.toNatClampNeg p0)) + (Int32.toNatClampNeg p1)))), (4, .int (V 60 (8 * (24 * b + (Int32.toNatClampNeg p0)) + (Int32.toNatClampNeg p1)))), (3, .ref (ad (72 + (24 * b + (Int32.toNatClampNeg p0))))), (0, .ref (ad (38 + b))), (1, .int p0), (2, .int p1)]) hx hb dX0_candidates_29 hl (by decide) rfl (fun ls hl => ?_)
  refine lv_iconst (v := 0) hx hb dX0_candidates_31 (by decide) ?_
  refine lv_istore (lv' := [(7, .int 0), (6, .int (V 59 (8 * (24 * b + (Int32.toNatClampNeg p0)) + (Int32.toNatClampNeg p1)))), (5, .int (V 58 (8 * (24 * b + (Int32.toNatClampNeg p0)) + (Int32.toNatClampNeg p1)))), (4, .int (V 60 (8 * (24 * b + (Int32.toNatClampNeg p0)) + (Int32.toNatClampNeg p1)))), (3, .ref (ad (72 + (24 * b + (Int32.toNatClampNeg p0))))), (0, .ref (ad (38 + b))), (1, .int p0), (2, .int p1)]) hx hb dX0_candidates_32 hl (by decide) rfl (fun ls hl => ?_)
  refine lv_iconst (v := 0) hx hb dX0_candidates_34 (by decide) ?_
  refine lv_istore (lv' := [(8, .int 0), (7, .int 0), (6, .int (V 59 (8 * (24 * b + (Int32.toNatClampNeg p0)) + (Int32.toNatClampNeg p1)))), (5, .int (V 58 (8 * (24 * b + (Int32.toNatClampNeg p0)) + (Int32.toNatClampNeg p1)))), (4, .int (V 60 (8 * (24 * b + (Int32.toNatClampNeg p0)) + (Int32.toNatClampNeg p1)))), (3, .ref (ad (72 + (24 * b + (Int32.toNatClampNeg p0))))), (0, .ref (ad (38 + b))), (1, .int p0), (2, .int p1)]) hx hb dX0_candidates_35 hl (by decide) rfl (fun ls hl => ?_)
  refine lv_iconst (v := 0) hx hb dX0_candidates_37 (by decide) ?_
  refine lv_istore (lv' := [(9, .int 0), (8, .int 0), (7, .int 0), (6, .int (V 59 (8 * (24 * b + (Int32.toNatClampNeg p0)) + (Int32.toNatClampNeg p1)))), (5, .int (V 58 (8 * (24 * b + (Int32.toNatClampNeg p0)) + (Int32.toNatClampNeg p1)))), (4, .int (V 60 (8 * (24 * b + (Int32.toNatClampNeg p0)) + (Int32.toNatClampNeg p1)))), (3, .ref (ad (72 + (24 * b + (Int32.toNatClampNeg p0))))), (0, .ref (ad (38 + b))), (1, .int p0), (2, .int p1)]) hx hb dX0_candidates_38 hl (by decide) rfl (fun ls hl => ?_)
  have lp13 : ∀ (fulp13 : Nat) (y10 : Int32) (y11 : Int32) (y12 : Int32) (H : Heap) (locs : List Loc) (ls : Array Slot), 0 ≤ y10.toInt ∧ y10.toInt ≤ 24 → 0 ≤ y12.toInt ∧ y12.toInt ≤ 16777215 → (FND y12 gs.1 (svc V b (gs.2.1 1).length) (gs.1 (301 + 32 * gk + 4 * gj)) (gs.1 (300 + 32 * gk + 4 * gj)) (gs.1 (302 + 32 * gk + 4 * gj)) y10.toInt.toNat) → ((gs.1 (301 + 32 * gk + 4 * gj)) ≠ 2 → y11.toInt = ((bsP gs.1 (svc V b (gs.2.1 1).length) (gs.1 (300 + 32 * gk + 4 * gj)) (gs.1 (302 + 32 * gk + 4 * gj)) y10.toInt.toNat : Nat) : Int)) → y10.toInt ≤ (((gs.2.1 2).length : Nat) : Int) → 24 - y10.toInt < (fulp13 : Int) → va_P D vwCl (xw ad kk V L Z) H → va_D A (xw ad kk V L Z) → va_S A s.heap H locs → lv_has ls 12 [(9, .int y10), (8, .int y11), (7, .int y12), (6, .int (V 59 (8 * (24 * b + (Int32.toNatClampNeg p0)) + (Int32.toNatClampNeg p1)))), (5, .int (V 58 (8 * (24 * b + (Int32.toNatClampNeg p0)) + (Int32.toNatClampNeg p1)))), (4, .int (V 60 (8 * (24 * b + (Int32.toNatClampNeg p0)) + (Int32.toNatClampNeg p1)))), (3, .ref (ad (72 + (24 * b + (Int32.toNatClampNeg p0))))), (0, .ref (ad (38 + b))), (1, .int p0), (2, .int p1)] → W p l e r_x_candidates5 s m ([.ref (ad (38 + b)), .int p0, .int p1] : List Value).toArray below meth c H locs 0 0 (MQ below (q_x_candidates5 D ks ad kk V L Z p0 p1 b gs gk gj A) ([.ref (ad (38 + b)), .int p0, .int p1] : List Value).toArray s 0 0 A) (F0 m 40 ls []) := by
    intro fulp13
    induction fulp13 with
    | zero =>
      intro y10 y11 y12 H locs ls klp13_0 klp13_1 xlp13_0 xlp13_1 xlp13_2 hn  hP hD hS hl
      exfalso; (first | exact om_9386ef0df612 klp13_0.2 hn | omega)
    | succ fulp13 ihlp13 =>
      intro y10 y11 y12 H locs ls klp13_0 klp13_1 xlp13_0 xlp13_1 xlp13_2 hn  hP hD hS hl
      refine lv_iload hx hb dX0_candidates_40 (lv_at hl 0 rfl) ?_
      refine lv_aload_n hx hb dX0_candidates_42 rfl (lv_at hl 7 rfl) ?_
      refine va_get (D := D) (ci := 0) (v := .ref (ad (40 + (5 * b + 2)))) (fs := (xfBook ad V b)) (C := RX0) (T := TX0) (N := 13) hx hb hg inX0 hown hK hP (38 + b) (xgBook hb2) rfl 2 (by decide) (hg _ w599) (fun _ h9 => h9) rfl dX0_candidates_43 ?_
      have il14 : (5 * b + 2) < 10 := by first | exact om_1478e52fbf50 hb2 | first | omega | ((try (have i_gjl := Imp.go gjl (by omega))); (try (have i_gkl := Imp.go gkl (by omega))); (try (have i_wh := Imp.go wh (by omega))); (try (have i_coc := Imp.go coc (by omega))); first | omega | ((try (have i_coc := Imp.go coc (by omega))); (try (have i_wh := Imp.go wh (by omega))); (try (have i_gkl := Imp.go gkl (by omega))); (try (have i_gjl := Imp.go gjl (by omega))); omega))
      refine va_getN (D := D) (ci := 6) (v := .int (V 43 (5 * b + 2))) (fs := (xfNames ad V (5 * b + 2))) (C := RX6) (T := TX6) (N := 2) hx hb hg inX6 hown hK hP (40 + (5 * b + 2)) (xgNames il14) rfl 1 (by decide) (hnw.use 481 n481 rfl) (fun _ h9 => h9) rfl dX0_candidates_46 ?_
      refine lv_icmp_ge (tgt := 171) hx hb dX0_candidates_49 (by decide) (fun c15 => ?_) (fun c15 => ?_)
      · skip
        have f16 : ((V 43 (5 * b + 2))).toInt ≤ y10.toInt := b_le rfl rfl c15
        refine lv_iload hx hb dX0_candidates_171 (lv_at hl 2 rfl) ?_
        exact W.iret (v := y12) hx hb hr (fun t ht hW => ⟨⟨y12, (), rfl, ⟨(show 0 ≤ y12.toInt ∧ y12.toInt ≤ 16777215 from by first | exact om_c51a6401fccc klp13_1.1 klp13_1.2 | first | omega | ((try (have i_gjl := Imp.go gjl (by omega))); (try (have i_gkl := Imp.go gkl (by omega))); (try (have i_wh := Imp.go wh (by omega))); (try (have i_coc := Imp.go coc (by omega))); first | omega | ((try (have i_coc := Imp.go coc (by omega))); (try (have i_wh := Imp.go wh (by omega))); (try (have i_gkl := Imp.go gkl (by omega))); (try (have i_gjl := Imp.go gjl (by omega))); omega))), (by have h9 := xlp13_0; rw [show y10.toInt.toNat = (gs.2.1 2).length from by omega] at h9; exact h9)⟩, by rw [ht]; exact hP, va_K.moved hW.alike hK, hD⟩, hS.F ht⟩) hS.2.2 dX0_candidates_173
      · skip
        have f17 : y10.toInt < ((V 43 (5 * b + 2))).toInt := b_nle rfl rfl c15
        have kk9 := i_clamp (x := y10) rfl (by (first | exact om_eafa9039069c klp13_0.1 | omega))
        have ck9 := coc (Int32.toNatClampNeg y10) (by omega)
        have h50 := ck9.1.1
        have h52 := ck9.1.2.2.1
        have h53 := ck9.1.2.2.2.1
        refine lv_aload_n hx hb dX0_candidates_52 rfl (lv_at hl 7 rfl) ?_
        refine va_get (D := D) (ci := 0) (v := .ref (ad (64 + b))) (fs := (xfBook ad V b)) (C := RX0) (T := TX0) (N := 13) hx hb hg inX0 hown hK hP (38 + b) (xgBook hb2) rfl 7 (by decide) (hg _ w614) (fun _ h9 => h9) rfl dX0_candidates_53 ?_
        refine lv_iload hx hb dX0_candidates_56 (lv_at hl 0 rfl) ?_
        refine va_aldq (D := D) (i := y10) hx hb hK hP (64 + b) (57 + b) (xgcomps il3) (xtcomps il3) (i_in (a := y10.toInt) rfl (by first | exact om_e05b3c169c68 r1.2 r2 klp13_0.1 f17 | first | omega | ((try (have i_gjl := Imp.go gjl (by omega))); (try (have i_gkl := Imp.go gkl (by omega))); (try (have i_wh := Imp.go wh (by omega))); (try (have i_coc := Imp.go coc (by omega))); first | omega | ((try (have i_coc := Imp.go coc (by omega))); (try (have i_wh := Imp.go wh (by omega))); (try (have i_gkl := Imp.go gkl (by omega))); (try (have i_gjl := Imp.go gjl (by omega))); omega)))) dX0_candidates_58 ?_
        have kc18 := i_clamp (x := y10) rfl (by first | exact om_eafa9039069c klp13_0.1 | first | omega | ((try (have i_gjl := Imp.go gjl (by omega))); (try (have i_gkl := Imp.go gkl (by omega))); (try (have i_wh := Imp.go wh (by omega))); (try (have i_coc := Imp.go coc (by omega))); first | omega | ((try (have i_coc := Imp.go coc (by omega))); (try (have i_wh := Imp.go wh (by omega))); (try (have i_gkl := Imp.go gkl (by omega))); (try (have i_gjl := Imp.go gjl (by omega))); omega)))
        refine g_topv (v := .ref (ad (72 + (24 * b + (Int32.toNatClampNeg y10))))) (congrArg va_rf (if_pos (by first | omega | ((try (have i_gjl := Imp.go gjl (by omega))); (try (have i_gkl := Imp.go gkl (by omega))); (try (have i_wh := Imp.go wh (by omega))); (try (have i_coc := Imp.go coc (by omega))); first | omega | ((try (have i_coc := Imp.go coc (by omega))); (try (have i_wh := Imp.go wh (by omega))); (try (have i_gkl := Imp.go gkl (by omega))); (try (have i_gjl := Imp.go gjl (by omega))); omega))))) ?_
        have il19 : (24 * b + (Int32.toNatClampNeg y10)) < 48 := by first | exact om_896e2f636ed1 hb2 r1.2 r2 f17 kc18 | first | omega | ((try (have i_gjl := Imp.go gjl (by omega))); (try (have i_gkl := Imp.go gkl (by omega))); (try (have i_wh := Imp.go wh (by omega))); (try (have i_coc := Imp.go coc (by omega))); first | omega | ((try (have i_coc := Imp.go coc (by omega))); (try (have i_wh := Imp.go wh (by omega))); (try (have i_gkl := Imp.go gkl (by omega))); (try (have i_gjl := Imp.go gjl (by omega))); omega))
        refine lv_astore (lv' := [(10, .ref (ad (72 + (24 * b + (Int32.toNatClampNeg y10))))), (9, .int y10), (8, .int y11), (7, .int y12), (6, .int (V 59 (8 * (24 * b + (Int32.toNatClampNeg p0)) + (Int32.toNatClampNeg p1)))), (5, .int (V 58 (8 * (24 * b + (Int32.toNatClampNeg p0)) + (Int32.toNatClampNeg p1)))), (4, .int (V 60 (8 * (24 * b + (Int32.toNatClampNeg p0)) + (Int32.toNatClampNeg p1)))), (3, .ref (ad (72 + (24 * b + (Int32.toNatClampNeg p0))))), (0, .ref (ad (38 + b))), (1, .int p0), (2, .int p1)]) hx hb dX0_candidates_59 hl (by decide) rfl (fun ls hl => ?_)
        refine lv_iload hx hb dX0_candidates_61 (lv_at hl 4 rfl) ?_
        refine lv_iconst (v := (-1)) hx hb dX0_candidates_63 (by decide) ?_
        refine lv_icmp_eq (tgt := 77) hx hb dX0_candidates_64 (by decide) (fun c20 => ?_) (fun c20 => ?_)
        · skip
          have f21 : ((V 59 (8 * (24 * b + (Int32.toNatClampNeg p0)) + (Int32.toNatClampNeg p1)))).toInt = (-1) := b_eq rfl (by decide) c20
          refine lv_iconst (v := 1) hx hb dX0_candidates_77 (by decide) ?_
          refine lv_goto (tgt := 82) hx hb dX0_candidates_78 (by decide) ?_
          refine lv_istore (lv' := [(11, .int 1), (10, .ref (ad (72 + (24 * b + (Int32.toNatClampNeg y10))))), (9, .int y10), (8, .int y11), (7, .int y12), (6, .int (V 59 (8 * (24 * b + (Int32.toNatClampNeg p0)) + (Int32.toNatClampNeg p1)))), (5, .int (V 58 (8 * (24 * b + (Int32.toNatClampNeg p0)) + (Int32.toNatClampNeg p1)))), (4, .int (V 60 (8 * (24 * b + (Int32.toNatClampNeg p0)) + (Int32.toNatClampNeg p1)))), (3, .ref (ad (72 + (24 * b + (Int32.toNatClampNeg p0))))), (0, .ref (ad (38 + b))), (1, .int p0), (2, .int p1)]) hx hb dX0_candidates_82 hl (by decide) rfl (fun ls hl => ?_)
          refine lv_aload hx hb dX0_candidates_84 (lv_at hl 1 rfl) ?_
          refine va_getN (D := D) (ci := 3) (v := .int (V 50 (24 * b + (Int32.toNatClampNeg y10)))) (fs := (xfComp ad V (24 * b + (Int32.toNatClampNeg y10)))) (C := RX3) (T := TX3) (N := 13) hx hb hg inX3 hown hK hP (72 + (24 * b + (Int32.toNatClampNeg y10))) (xgComp il19) rfl 5 (by decide) (hnw.use 517 n517 rfl) (fun _ h9 => h9) rfl dX0_candidates_86 ?_
          refine lv_iload hx hb dX0_candidates_89 (lv_at hl 6 rfl) ?_
          refine lv_ishr hx hb dX0_candidates_91 ?_
          refine lv_topi (fun z22 ez22 => ?_)
          refine lv_iconst (v := 1) hx hb dX0_candidates_92 (by decide) ?_
          refine lv_iand hx hb dX0_candidates_93 ?_
          refine lv_topi (fun z23 ez23 => ?_)
          have hz23 : 0 ≤ z23.toInt ∧ z23.toInt ≤ 1 := and_m ez23 (by decide)
          refine lv_if_eq (tgt := 165) hx hb dX0_candidates_94 (by decide) (fun c24 => ?_) (fun c24 => ?_)
          · skip
            have f25 : z23.toInt = 0 := b_eq rfl (by decide) c24
            obtain ⟨z26, ez26⟩ : ∃ y : Int32, y = y10 + 1 := ⟨_, rfl⟩
            have hz26 : z26.toInt = y10.toInt + 1 := i_add ez26 rfl (by decide) (by (first | exact om_2bedb82363d1 r1.2 r2 f17 kk9 | omega))
            refine lv_iinc (v := z26) (lv' := [(9, .int z26), (11, .int 1), (10, .ref (ad (72 + (24 * b + (Int32.toNatClampNeg y10))))), (8, .int y11), (7, .int y12), (6, .int (V 59 (8 * (24 * b + (Int32.toNatClampNeg p0)) + (Int32.toNatClampNeg p1)))), (5, .int (V 58 (8 * (24 * b + (Int32.toNatClampNeg p0)) + (Int32.toNatClampNeg p1)))), (4, .int (V 60 (8 * (24 * b + (Int32.toNatClampNeg p0)) + (Int32.toNatClampNeg p1)))), (3, .ref (ad (72 + (24 * b + (Int32.toNatClampNeg p0))))), (0, .ref (ad (38 + b))), (1, .int p0), (2, .int p1)]) hx hb dX0_candidates_165 hl (k := 2) rfl (by rw [ez26]; rfl) (by decide) rfl (fun ls hl => ?_)
            refine lv_goto (tgt := 40) hx hb dX0_candidates_168 (by decide) ?_
            have r27 : Int32.toInt 1 = 1 := by decide
            have su28 : suP gs.1 (svc V b (gs.2.1 1).length) (gs.1 (300 + 32 * gk + 4 * gj)) (gs.1 (302 + 32 * gk + 4 * gj)) (Int32.toNatClampNeg y10) = false := (suP_1 ((h50 (gs.1 (300 + 32 * gk + 4 * gj)) (by omega)).symm.trans ((lb_get (x := V 50 (24 * b + (Int32.toNatClampNeg y10))) (f := (gs.1 (300 + 32 * gk + 4 * gj))) ez22 ez23 (show ((V 58 (8 * (24 * b + (Int32.toNatClampNeg p0)) + (Int32.toNatClampNeg p1)))).toInt = (((gs.1 (300 + 32 * gk + 4 * gj)) : Nat) : Int) from by omega) (by omega)).mp (by omega))))
            have em9 : z26.toInt.toNat = (Int32.toNatClampNeg y10) + 1 := by (first | exact om_a1185fbb59ea kk9 kc18 hz26 | omega)
            have eo9 : y10.toInt.toNat = (Int32.toNatClampNeg y10) := rfl
            have b9 := xlp13_1
            rw [eo9] at b9
            have su29 : suP gs.1 (svc V b (gs.2.1 1).length) (gs.1 (300 + 32 * gk + 4 * gj)) (gs.1 (302 + 32 * gk + 4 * gj)) (Int32.toNatClampNeg y10) = false := (suP_1 ((h50 (gs.1 (300 + 32 * gk + 4 * gj)) (by omega)).symm.trans ((lb_get (x := V 50 (24 * b + (Int32.toNatClampNeg y10))) (f := (gs.1 (300 + 32 * gk + 4 * gj))) ez22 ez23 (show ((V 58 (8 * (24 * b + (Int32.toNatClampNeg p0)) + (Int32.toNatClampNeg p1)))).toInt = (((gs.1 (300 + 32 * gk + 4 * gj)) : Nat) : Int) from by omega) (by omega)).mp (by omega))))
            have em9 : z26.toInt.toNat = (Int32.toNatClampNeg y10) + 1 := by (first | exact om_26701d63f2fa em9 | omega)
            have eo9 : y10.toInt.toNat = (Int32.toNatClampNeg y10) := rfl
            have b9 := xlp13_1
            rw [eo9] at b9
            exact ihlp13 z26 y11 y12 H locs ls (by first | exact om_9500b6342cf6 r1.2 r2 f17 kk9 hz26 | first | omega | ((try (have i_gjl := Imp.go gjl (by omega))); (try (have i_gkl := Imp.go gkl (by omega))); (try (have i_wh := Imp.go wh (by omega))); (try (have i_coc := Imp.go coc (by omega))); first | omega | ((try (have i_coc := Imp.go coc (by omega))); (try (have i_wh := Imp.go wh (by omega))); (try (have i_gkl := Imp.go gkl (by omega))); (try (have i_gjl := Imp.go gjl (by omega))); omega))) (by first | exact om_c51a6401fccc klp13_1.1 klp13_1.2 | first | omega | ((try (have i_gjl := Imp.go gjl (by omega))); (try (have i_gkl := Imp.go gkl (by omega))); (try (have i_wh := Imp.go wh (by omega))); (try (have i_coc := Imp.go coc (by omega))); first | omega | ((try (have i_coc := Imp.go coc (by omega))); (try (have i_wh := Imp.go wh (by omega))); (try (have i_gkl := Imp.go gkl (by omega))); (try (have i_gjl := Imp.go gjl (by omega))); omega))) (by rw [em9]; exact FND.no (by have h9 := xlp13_0; rw [eo9] at h9; exact h9) su28) (fun h7 => by rw [em9]; exact (by have h8 := b9 h7; rw [bsP_n su29]; omega)) (show z26.toInt ≤ (((gs.2.1 2).length : Nat) : Int) from by first | exact om_bcda7a344117 ln f17 hz26 | first | omega | ((try (have i_gjl := Imp.go gjl (by omega))); (try (have i_gkl := Imp.go gkl (by omega))); (try (have i_wh := Imp.go wh (by omega))); (try (have i_coc := Imp.go coc (by omega))); first | omega | ((try (have i_coc := Imp.go coc (by omega))); (try (have i_wh := Imp.go wh (by omega))); (try (have i_gkl := Imp.go gkl (by omega))); (try (have i_gjl := Imp.go gjl (by omega))); omega))) (by first | exact om_9592d9319ffa hn hz26 | first | omega | ((try (have i_gjl := Imp.go gjl (by omega))); (try (have i_gkl := Imp.go gkl (by omega))); (try (have i_wh := Imp.go wh (by omega))); (try (have i_coc := Imp.go coc (by omega))); first | omega | ((try (have i_coc := Imp.go coc (by omega))); (try (have i_wh := Imp.go wh (by omega))); (try (have i_gkl := Imp.go gkl (by omega))); (try (have i_gjl := Imp.go gjl (by omega))); omega))) hP hD hS (lv_sub hl [0, 3, 4, 5, 6, 7, 8, 9, 10, 11] rfl)
          · skip
            have f30 : z23.toInt ≠ 0 := b_neq rfl (by decide) c24
            refine lv_iload hx hb dX0_candidates_97 (lv_at hl 0 rfl) ?_
            refine lv_if_eq (tgt := 165) hx hb dX0_candidates_99 (by decide) (fun q => absurd q (by decide)) (fun _ => ?_)
            have wk9 := wh (Int32.toNatClampNeg y10) (by omega)
            refine lv_aload_n hx hb dX0_candidates_102 rfl (lv_at hl 9 rfl) ?_
            refine lv_iload hx hb dX0_candidates_103 (lv_at hl 2 rfl) ?_
            refine gA_int (gA_runV (As := [.int y10]) (rest := []) (ci := 0) (q0 := (38 + b)) hx hb hml hown hg hP hD hK hS hA hnw hgk (x_isThere5 l D ks H.size ad kk V L Z y10 (b) (gs) ((Int32.toNatClampNeg y10)) hMV (by first | exact om_c40dd4f8ab88 r1.2 r2 f17 kk9 | first | omega | ((try (have i_gjl := Imp.go gjl (by omega))); (try (have i_gkl := Imp.go gkl (by omega))); (try (have i_wh := Imp.go wh (by omega))); (try (have i_coc := Imp.go coc (by omega))); first | omega | ((try (have i_coc := Imp.go coc (by omega))); (try (have i_wh := Imp.go wh (by omega))); (try (have i_gkl := Imp.go gkl (by omega))); (try (have i_gjl := Imp.go gjl (by omega))); omega))) (show b < 2 from by first | exact om_f940a4667dd6 hb2 | first | omega | ((try (have i_gjl := Imp.go gjl (by omega))); (try (have i_gkl := Imp.go gkl (by omega))); (try (have i_wh := Imp.go wh (by omega))); (try (have i_coc := Imp.go coc (by omega))); first | omega | ((try (have i_coc := Imp.go coc (by omega))); (try (have i_wh := Imp.go wh (by omega))); (try (have i_gkl := Imp.go gkl (by omega))); (try (have i_gjl := Imp.go gjl (by omega))); omega))) (show y10.toInt = ((Int32.toNatClampNeg y10) : Int) from by first | exact om_dadc9969542e kc18 | first | omega | ((try (have i_gjl := Imp.go gjl (by omega))); (try (have i_gkl := Imp.go gkl (by omega))); (try (have i_wh := Imp.go wh (by omega))); (try (have i_coc := Imp.go coc (by omega))); first | omega | ((try (have i_coc := Imp.go coc (by omega))); (try (have i_wh := Imp.go wh (by omega))); (try (have i_gkl := Imp.go gkl (by omega))); (try (have i_gjl := Imp.go gjl (by omega))); omega))) (coc (Int32.toNatClampNeg y10) (by omega)) (show gs.1 (64 + 8 * (Int32.toNatClampNeg y10)) ≤ (gs.2.1 1).length from by first | omega | ((try (have i_gjl := Imp.go gjl (by omega))); (try (have i_gkl := Imp.go gkl (by omega))); (try (have i_wh := Imp.go wh (by omega))); (try (have i_coc := Imp.go coc (by omega))); first | omega | ((try (have i_coc := Imp.go coc (by omega))); (try (have i_wh := Imp.go wh (by omega))); (try (have i_gkl := Imp.go gkl (by omega))); (try (have i_gjl := Imp.go gjl (by omega))); omega)))) w1085 w1070 w1071 w167 w1072 rfl (xgBook hb2) hdV_yX0_isThere ⟨Nat.le_of_ble_eq_true rfl, Nat.le_of_ble_eq_true rfl⟩ rfl hl.1 rfl (Nat.le_of_ble_eq_true rfl) dX0_candidates_105 ⟨Nat.le_of_ble_eq_true rfl, Nat.le_of_ble_eq_true rfl⟩) hP hD hK hS hA (fun z31 u32 H locs w33 hP hD hK hS => ?_)
            obtain ⟨rgz31, t34⟩ := w33
            replace rgz31 : 0 ≤ z31.toInt ∧ z31.toInt ≤ 1 := rgz31
            replace t34 : (z31.toInt = 1 ∧ thP gs.1 (svc V b (gs.2.1 1).length) (Int32.toNatClampNeg y10) = true) ∨ (z31.toInt = 0 ∧ thP gs.1 (svc V b (gs.2.1 1).length) (Int32.toNatClampNeg y10) = false) := t34
            refine lv_if_ne (tgt := 114) hx hb dX0_candidates_108 (by decide) (fun c35 => ?_) (fun c35 => ?_)
            · skip
              have f36 : z31.toInt ≠ 0 := b_neq rfl (by decide) c35
              refine lv_iload hx hb dX0_candidates_114 (lv_at hl 7 rfl) ?_
              refine lv_iconst (v := 2) hx hb dX0_candidates_116 (by decide) ?_
              refine lv_icmp_eq (tgt := 140) hx hb dX0_candidates_117 (by decide) (fun c37 => ?_) (fun c37 => ?_)
              · skip
                have f38 : ((V 60 (8 * (24 * b + (Int32.toNatClampNeg p0)) + (Int32.toNatClampNeg p1)))).toInt = 2 := b_eq rfl (by decide) c37
                refine lv_iload hx hb dX0_candidates_140 (lv_at hl 7 rfl) ?_
                refine lv_iconst (v := 2) hx hb dX0_candidates_142 (by decide) ?_
                refine lv_icmp_eq (tgt := 156) hx hb dX0_candidates_143 (by decide) (fun c39 => ?_) (fun c39 => ?_)
                · skip
                  have f40 : ((V 60 (8 * (24 * b + (Int32.toNatClampNeg p0)) + (Int32.toNatClampNeg p1)))).toInt = 2 := b_eq rfl (by decide) c39
                  refine lv_iload hx hb dX0_candidates_156 (lv_at hl 4 rfl) ?_
                  refine lv_iconst (v := 1) hx hb dX0_candidates_158 (by decide) ?_
                  refine lv_iload hx hb dX0_candidates_159 (lv_at hl 2 rfl) ?_
                  refine lv_ishl hx hb dX0_candidates_161 ?_
                  refine lv_topi (fun z41 ez41 => ?_)
                  have hz41 : 0 ≤ z41.toInt ∧ z41.toInt < 16777216 := shl1 ez41 (by first | omega | ((try (have i_gjl := Imp.go gjl (by omega))); (try (have i_gkl := Imp.go gkl (by omega))); (try (have i_wh := Imp.go wh (by omega))); (try (have i_coc := Imp.go coc (by omega))); first | omega | ((try (have i_coc := Imp.go coc (by omega))); (try (have i_wh := Imp.go wh (by omega))); (try (have i_gkl := Imp.go gkl (by omega))); (try (have i_gjl := Imp.go gjl (by omega))); omega)))
                  refine lv_ior hx hb dX0_candidates_162 ?_
                  refine lv_topi (fun z42 ez42 => ?_)
                  have hz42 : 0 ≤ z42.toInt ∧ z42.toInt < 16777216 := or24 ez42 (by first | omega | ((try (have i_gjl := Imp.go gjl (by omega))); (try (have i_gkl := Imp.go gkl (by omega))); (try (have i_wh := Imp.go wh (by omega))); (try (have i_coc := Imp.go coc (by omega))); first | omega | ((try (have i_coc := Imp.go coc (by omega))); (try (have i_wh := Imp.go wh (by omega))); (try (have i_gkl := Imp.go gkl (by omega))); (try (have i_gjl := Imp.go gjl (by omega))); omega))) (by first | omega | ((try (have i_gjl := Imp.go gjl (by omega))); (try (have i_gkl := Imp.go gkl (by omega))); (try (have i_wh := Imp.go wh (by omega))); (try (have i_coc := Imp.go coc (by omega))); first | omega | ((try (have i_coc := Imp.go coc (by omega))); (try (have i_wh := Imp.go wh (by omega))); (try (have i_gkl := Imp.go gkl (by omega))); (try (have i_gjl := Imp.go gjl (by omega))); omega)))
                  refine lv_istore (lv' := [(7, .int z42), (11, .int 1), (10, .ref (ad (72 + (24 * b + (Int32.toNatClampNeg y10))))), (9, .int y10), (8, .int y11), (6, .int (V 59 (8 * (24 * b + (Int32.toNatClampNeg p0)) + (Int32.toNatClampNeg p1)))), (5, .int (V 58 (8 * (24 * b + (Int32.toNatClampNeg p0)) + (Int32.toNatClampNeg p1)))), (4, .int (V 60 (8 * (24 * b + (Int32.toNatClampNeg p0)) + (Int32.toNatClampNeg p1)))), (3, .ref (ad (72 + (24 * b + (Int32.toNatClampNeg p0))))), (0, .ref (ad (38 + b))), (1, .int p0), (2, .int p1)]) hx hb dX0_candidates_163 hl (by decide) rfl (fun ls hl => ?_)
                  obtain ⟨z43, ez43⟩ : ∃ y : Int32, y = y10 + 1 := ⟨_, rfl⟩
                  have hz43 : z43.toInt = y10.toInt + 1 := i_add ez43 rfl (by decide) (by (first | exact om_2bedb82363d1 r1.2 r2 f17 kk9 | omega))
                  refine lv_iinc (v := z43) (lv' := [(9, .int z43), (7, .int z42), (11, .int 1), (10, .ref (ad (72 + (24 * b + (Int32.toNatClampNeg y10))))), (8, .int y11), (6, .int (V 59 (8 * (24 * b + (Int32.toNatClampNeg p0)) + (Int32.toNatClampNeg p1)))), (5, .int (V 58 (8 * (24 * b + (Int32.toNatClampNeg p0)) + (Int32.toNatClampNeg p1)))), (4, .int (V 60 (8 * (24 * b + (Int32.toNatClampNeg p0)) + (Int32.toNatClampNeg p1)))), (3, .ref (ad (72 + (24 * b + (Int32.toNatClampNeg p0))))), (0, .ref (ad (38 + b))), (1, .int p0), (2, .int p1)]) hx hb dX0_candidates_165 hl (k := 3) rfl (by rw [ez43]; rfl) (by decide) rfl (fun ls hl => ?_)
                  refine lv_goto (tgt := 40) hx hb dX0_candidates_168 (by decide) ?_
                  have r44 : Int32.toInt 1 = 1 := by decide
                  have su45 : suP gs.1 (svc V b (gs.2.1 1).length) (gs.1 (300 + 32 * gk + 4 * gj)) (gs.1 (302 + 32 * gk + 4 * gj)) (Int32.toNatClampNeg y10) = true := (suP_y ((h50 (gs.1 (300 + 32 * gk + 4 * gj)) (by omega)).symm.trans (by cases e9 : bt (V 50 (24 * b + (Int32.toNatClampNeg y10))) (gs.1 (300 + 32 * gk + 4 * gj)); exact absurd ((lb_get (x := V 50 (24 * b + (Int32.toNatClampNeg y10))) (f := (gs.1 (300 + 32 * gk + 4 * gj))) ez22 ez23 (show ((V 58 (8 * (24 * b + (Int32.toNatClampNeg p0)) + (Int32.toNatClampNeg p1)))).toInt = (((gs.1 (300 + 32 * gk + 4 * gj)) : Nat) : Int) from by omega) (by omega)).mpr e9) (by omega); rfl)) (by omega) (t34.resolve_right (fun h9 => by have h8 := h9.1; omega)).2)
                  have em9 : z43.toInt.toNat = (Int32.toNatClampNeg y10) + 1 := by (first | exact om_a1185fbb59ea kk9 kc18 hz43 | omega)
                  have eo9 : y10.toInt.toNat = (Int32.toNatClampNeg y10) := rfl
                  have b9 := xlp13_1
                  rw [eo9] at b9
                  have su46 : suP gs.1 (svc V b (gs.2.1 1).length) (gs.1 (300 + 32 * gk + 4 * gj)) (gs.1 (302 + 32 * gk + 4 * gj)) (Int32.toNatClampNeg y10) = true := (suP_y ((h50 (gs.1 (300 + 32 * gk + 4 * gj)) (by omega)).symm.trans (by cases e9 : bt (V 50 (24 * b + (Int32.toNatClampNeg y10))) (gs.1 (300 + 32 * gk + 4 * gj)); exact absurd ((lb_get (x := V 50 (24 * b + (Int32.toNatClampNeg y10))) (f := (gs.1 (300 + 32 * gk + 4 * gj))) ez22 ez23 (show ((V 58 (8 * (24 * b + (Int32.toNatClampNeg p0)) + (Int32.toNatClampNeg p1)))).toInt = (((gs.1 (300 + 32 * gk + 4 * gj)) : Nat) : Int) from by omega) (by omega)).mpr e9) (by omega); rfl)) (by omega) (t34.resolve_right (fun h9 => by have h8 := h9.1; omega)).2)
                  have em9 : z43.toInt.toNat = (Int32.toNatClampNeg y10) + 1 := by (first | exact om_26701d63f2fa em9 | omega)
                  have eo9 : y10.toInt.toNat = (Int32.toNatClampNeg y10) := rfl
                  have b9 := xlp13_1
                  rw [eo9] at b9
                  exact ihlp13 z43 y11 z42 H locs ls (by first | exact om_9500b6342cf6 r1.2 r2 f17 kk9 hz43 | first | omega | ((try (have i_gjl := Imp.go gjl (by omega))); (try (have i_gkl := Imp.go gkl (by omega))); (try (have i_wh := Imp.go wh (by omega))); (try (have i_coc := Imp.go coc (by omega))); first | omega | ((try (have i_coc := Imp.go coc (by omega))); (try (have i_wh := Imp.go wh (by omega))); (try (have i_gkl := Imp.go gkl (by omega))); (try (have i_gjl := Imp.go gjl (by omega))); omega))) (by first | exact om_8a0dcf576dcd hz42.1 hz42.2 | first | omega | ((try (have i_gjl := Imp.go gjl (by omega))); (try (have i_gkl := Imp.go gkl (by omega))); (try (have i_wh := Imp.go wh (by omega))); (try (have i_coc := Imp.go coc (by omega))); first | omega | ((try (have i_coc := Imp.go coc (by omega))); (try (have i_wh := Imp.go wh (by omega))); (try (have i_gkl := Imp.go gkl (by omega))); (try (have i_gjl := Imp.go gjl (by omega))); omega))) (by rw [em9]; exact FND.eq (by have h9 := xlp13_0; rw [eo9] at h9; exact h9) su45 (Or.inl ⟨by omega, trivial⟩) ez41 ez42 (show y10.toInt = (((Int32.toNatClampNeg y10) : Nat) : Int) from by (first | exact om_dadc9969542e kc18 | omega)) (by omega)) (fun h7 => by rw [em9]; exact (by exfalso; omega)) (show z43.toInt ≤ (((gs.2.1 2).length : Nat) : Int) from by first | exact om_bcda7a344117 ln f17 hz43 | first | omega | ((try (have i_gjl := Imp.go gjl (by omega))); (try (have i_gkl := Imp.go gkl (by omega))); (try (have i_wh := Imp.go wh (by omega))); (try (have i_coc := Imp.go coc (by omega))); first | omega | ((try (have i_coc := Imp.go coc (by omega))); (try (have i_wh := Imp.go wh (by omega))); (try (have i_gkl := Imp.go gkl (by omega))); (try (have i_gjl := Imp.go gjl (by omega))); omega))) (by first | exact om_9592d9319ffa hn hz43 | first | omega | ((try (have i_gjl := Imp.go gjl (by omega))); (try (have i_gkl := Imp.go gkl (by omega))); (try (have i_wh := Imp.go wh (by omega))); (try (have i_coc := Imp.go coc (by omega))); first | omega | ((try (have i_coc := Imp.go coc (by omega))); (try (have i_wh := Imp.go wh (by omega))); (try (have i_gkl := Imp.go gkl (by omega))); (try (have i_gjl := Imp.go gjl (by omega))); omega))) hP hD hS (lv_sub hl [0, 4, 1, 5, 6, 7, 8, 9, 10, 11] rfl)
                · skip
                  have f47 : ((V 60 (8 * (24 * b + (Int32.toNatClampNeg p0)) + (Int32.toNatClampNeg p1)))).toInt ≠ 2 := b_neq rfl (by decide) c39
                  exfalso; first | exact om_da4eef675bfb f38 f47 | first | omega | ((try (have i_gjl := Imp.go gjl (by omega))); (try (have i_gkl := Imp.go gkl (by omega))); (try (have i_wh := Imp.go wh (by omega))); (try (have i_coc := Imp.go coc (by omega))); first | omega | ((try (have i_coc := Imp.go coc (by omega))); (try (have i_wh := Imp.go wh (by omega))); (try (have i_gkl := Imp.go gkl (by omega))); (try (have i_gjl := Imp.go gjl (by omega))); omega))
              · skip
                have f48 : ((V 60 (8 * (24 * b + (Int32.toNatClampNeg p0)) + (Int32.toNatClampNeg p1)))).toInt ≠ 2 := b_neq rfl (by decide) c37
                refine lv_aload hx hb dX0_candidates_120 (lv_at hl 1 rfl) ?_
                refine va_getN (D := D) (ci := 3) (v := .int (V 53 (24 * b + (Int32.toNatClampNeg y10)))) (fs := (xfComp ad V (24 * b + (Int32.toNatClampNeg y10)))) (C := RX3) (T := TX3) (N := 13) hx hb hg inX3 hown hK hP (72 + (24 * b + (Int32.toNatClampNeg y10))) (xgComp il19) rfl 8 (by decide) (hnw.use 529 n529 rfl) (fun _ h9 => h9) rfl dX0_candidates_122 ?_
                refine lv_iload hx hb dX0_candidates_125 (lv_at hl 3 rfl) ?_
                refine lv_icmp_le (tgt := 140) hx hb dX0_candidates_127 (by decide) (fun c49 => ?_) (fun c49 => ?_)
                · skip
                  have f50 : ((V 53 (24 * b + (Int32.toNatClampNeg y10)))).toInt ≤ y11.toInt := b_le rfl rfl c49
                  refine lv_iload hx hb dX0_candidates_140 (lv_at hl 7 rfl) ?_
                  refine lv_iconst (v := 2) hx hb dX0_candidates_142 (by decide) ?_
                  refine lv_icmp_eq (tgt := 156) hx hb dX0_candidates_143 (by decide) (fun c51 => ?_) (fun c51 => ?_)
                  · skip
                    have f52 : ((V 60 (8 * (24 * b + (Int32.toNatClampNeg p0)) + (Int32.toNatClampNeg p1)))).toInt = 2 := b_eq rfl (by decide) c51
                    refine lv_iload hx hb dX0_candidates_156 (lv_at hl 4 rfl) ?_
                    refine lv_iconst (v := 1) hx hb dX0_candidates_158 (by decide) ?_
                    refine lv_iload hx hb dX0_candidates_159 (lv_at hl 2 rfl) ?_
                    refine lv_ishl hx hb dX0_candidates_161 ?_
                    refine lv_topi (fun z53 ez53 => ?_)
                    have hz53 : 0 ≤ z53.toInt ∧ z53.toInt < 16777216 := shl1 ez53 (by first | omega | ((try (have i_gjl := Imp.go gjl (by omega))); (try (have i_gkl := Imp.go gkl (by omega))); (try (have i_wh := Imp.go wh (by omega))); (try (have i_coc := Imp.go coc (by omega))); first | omega | ((try (have i_coc := Imp.go coc (by omega))); (try (have i_wh := Imp.go wh (by omega))); (try (have i_gkl := Imp.go gkl (by omega))); (try (have i_gjl := Imp.go gjl (by omega))); omega)))
                    refine lv_ior hx hb dX0_candidates_162 ?_
                    refine lv_topi (fun z54 ez54 => ?_)
                    have hz54 : 0 ≤ z54.toInt ∧ z54.toInt < 16777216 := or24 ez54 (by first | omega | ((try (have i_gjl := Imp.go gjl (by omega))); (try (have i_gkl := Imp.go gkl (by omega))); (try (have i_wh := Imp.go wh (by omega))); (try (have i_coc := Imp.go coc (by omega))); first | omega | ((try (have i_coc := Imp.go coc (by omega))); (try (have i_wh := Imp.go wh (by omega))); (try (have i_gkl := Imp.go gkl (by omega))); (try (have i_gjl := Imp.go gjl (by omega))); omega))) (by first | omega | ((try (have i_gjl := Imp.go gjl (by omega))); (try (have i_gkl := Imp.go gkl (by omega))); (try (have i_wh := Imp.go wh (by omega))); (try (have i_coc := Imp.go coc (by omega))); first | omega | ((try (have i_coc := Imp.go coc (by omega))); (try (have i_wh := Imp.go wh (by omega))); (try (have i_gkl := Imp.go gkl (by omega))); (try (have i_gjl := Imp.go gjl (by omega))); omega)))
                    refine lv_istore (lv' := [(7, .int z54), (11, .int 1), (10, .ref (ad (72 + (24 * b + (Int32.toNatClampNeg y10))))), (9, .int y10), (8, .int y11), (6, .int (V 59 (8 * (24 * b + (Int32.toNatClampNeg p0)) + (Int32.toNatClampNeg p1)))), (5, .int (V 58 (8 * (24 * b + (Int32.toNatClampNeg p0)) + (Int32.toNatClampNeg p1)))), (4, .int (V 60 (8 * (24 * b + (Int32.toNatClampNeg p0)) + (Int32.toNatClampNeg p1)))), (3, .ref (ad (72 + (24 * b + (Int32.toNatClampNeg p0))))), (0, .ref (ad (38 + b))), (1, .int p0), (2, .int p1)]) hx hb dX0_candidates_163 hl (by decide) rfl (fun ls hl => ?_)
                    obtain ⟨z55, ez55⟩ : ∃ y : Int32, y = y10 + 1 := ⟨_, rfl⟩
                    have hz55 : z55.toInt = y10.toInt + 1 := i_add ez55 rfl (by decide) (by omega)
                    refine lv_iinc (v := z55) (lv' := [(9, .int z55), (7, .int z54), (11, .int 1), (10, .ref (ad (72 + (24 * b + (Int32.toNatClampNeg y10))))), (8, .int y11), (6, .int (V 59 (8 * (24 * b + (Int32.toNatClampNeg p0)) + (Int32.toNatClampNeg p1)))), (5, .int (V 58 (8 * (24 * b + (Int32.toNatClampNeg p0)) + (Int32.toNatClampNeg p1)))), (4, .int (V 60 (8 * (24 * b + (Int32.toNatClampNeg p0)) + (Int32.toNatClampNeg p1)))), (3, .ref (ad (72 + (24 * b + (Int32.toNatClampNeg p0))))), (0, .ref (ad (38 + b))), (1, .int p0), (2, .int p1)]) hx hb dX0_candidates_165 hl (k := 3) rfl (by rw [ez55]; rfl) (by decide) rfl (fun ls hl => ?_)
                    refine lv_goto (tgt := 40) hx hb dX0_candidates_168 (by decide) ?_
                    have r56 : Int32.toInt 1 = 1 := by decide
                    have su57 : suP gs.1 (svc V b (gs.2.1 1).length) (gs.1 (300 + 32 * gk + 4 * gj)) (gs.1 (302 + 32 * gk + 4 * gj)) (Int32.toNatClampNeg y10) = true := (suP_y ((h50 (gs.1 (300 + 32 * gk + 4 * gj)) (by omega)).symm.trans (by cases e9 : bt (V 50 (24 * b + (Int32.toNatClampNeg y10))) (gs.1 (300 + 32 * gk + 4 * gj)); exact absurd ((lb_get (x := V 50 (24 * b + (Int32.toNatClampNeg y10))) (f := (gs.1 (300 + 32 * gk + 4 * gj))) ez22 ez23 (show ((V 58 (8 * (24 * b + (Int32.toNatClampNeg p0)) + (Int32.toNatClampNeg p1)))).toInt = (((gs.1 (300 + 32 * gk + 4 * gj)) : Nat) : Int) from by omega) (by omega)).mpr e9) (by omega); rfl)) (by omega) (t34.resolve_right (fun h9 => by have h8 := h9.1; omega)).2)
                    have em9 : z55.toInt.toNat = (Int32.toNatClampNeg y10) + 1 := by omega
                    have eo9 : y10.toInt.toNat = (Int32.toNatClampNeg y10) := rfl
                    have b9 := xlp13_1
                    rw [eo9] at b9
                    have su58 : suP gs.1 (svc V b (gs.2.1 1).length) (gs.1 (300 + 32 * gk + 4 * gj)) (gs.1 (302 + 32 * gk + 4 * gj)) (Int32.toNatClampNeg y10) = true := (suP_y ((h50 (gs.1 (300 + 32 * gk + 4 * gj)) (by omega)).symm.trans (by cases e9 : bt (V 50 (24 * b + (Int32.toNatClampNeg y10))) (gs.1 (300 + 32 * gk + 4 * gj)); exact absurd ((lb_get (x := V 50 (24 * b + (Int32.toNatClampNeg y10))) (f := (gs.1 (300 + 32 * gk + 4 * gj))) ez22 ez23 (show ((V 58 (8 * (24 * b + (Int32.toNatClampNeg p0)) + (Int32.toNatClampNeg p1)))).toInt = (((gs.1 (300 + 32 * gk + 4 * gj)) : Nat) : Int) from by omega) (by omega)).mpr e9) (by omega); rfl)) (by omega) (t34.resolve_right (fun h9 => by have h8 := h9.1; omega)).2)
                    have em9 : z55.toInt.toNat = (Int32.toNatClampNeg y10) + 1 := by omega
                    have eo9 : y10.toInt.toNat = (Int32.toNatClampNeg y10) := rfl
                    have b9 := xlp13_1
                    rw [eo9] at b9
                    exact ihlp13 z55 y11 z54 H locs ls (by first | omega | ((try (have i_gjl := Imp.go gjl (by omega))); (try (have i_gkl := Imp.go gkl (by omega))); (try (have i_wh := Imp.go wh (by omega))); (try (have i_coc := Imp.go coc (by omega))); first | omega | ((try (have i_coc := Imp.go coc (by omega))); (try (have i_wh := Imp.go wh (by omega))); (try (have i_gkl := Imp.go gkl (by omega))); (try (have i_gjl := Imp.go gjl (by omega))); omega))) (by first | omega | ((try (have i_gjl := Imp.go gjl (by omega))); (try (have i_gkl := Imp.go gkl (by omega))); (try (have i_wh := Imp.go wh (by omega))); (try (have i_coc := Imp.go coc (by omega))); first | omega | ((try (have i_coc := Imp.go coc (by omega))); (try (have i_wh := Imp.go wh (by omega))); (try (have i_gkl := Imp.go gkl (by omega))); (try (have i_gjl := Imp.go gjl (by omega))); omega))) (by rw [em9]; exact FND.eq (by have h9 := xlp13_0; rw [eo9] at h9; exact h9) su57 (Or.inr (by have h8 := b9 (by omega); omega)) ez53 ez54 (show y10.toInt = (((Int32.toNatClampNeg y10) : Nat) : Int) from by omega) (by omega)) (fun h7 => by rw [em9]; exact (by have h8 := b9 h7; rw [bsP_l (by omega)]; omega)) (show z55.toInt ≤ (((gs.2.1 2).length : Nat) : Int) from by first | omega | ((try (have i_gjl := Imp.go gjl (by omega))); (try (have i_gkl := Imp.go gkl (by omega))); (try (have i_wh := Imp.go wh (by omega))); (try (have i_coc := Imp.go coc (by omega))); first | omega | ((try (have i_coc := Imp.go coc (by omega))); (try (have i_wh := Imp.go wh (by omega))); (try (have i_gkl := Imp.go gkl (by omega))); (try (have i_gjl := Imp.go gjl (by omega))); omega))) (by first | omega | ((try (have i_gjl := Imp.go gjl (by omega))); (try (have i_gkl := Imp.go gkl (by omega))); (try (have i_wh := Imp.go wh (by omega))); (try (have i_coc := Imp.go coc (by omega))); first | omega | ((try (have i_coc := Imp.go coc (by omega))); (try (have i_wh := Imp.go wh (by omega))); (try (have i_gkl := Imp.go gkl (by omega))); (try (have i_gjl := Imp.go gjl (by omega))); omega))) hP hD hS (lv_sub hl [0, 4, 1, 5, 6, 7, 8, 9, 10, 11] rfl)
                  · skip
                    have f59 : ((V 60 (8 * (24 * b + (Int32.toNatClampNeg p0)) + (Int32.toNatClampNeg p1)))).toInt ≠ 2 := b_neq rfl (by decide) c51
                    refine lv_aload hx hb dX0_candidates_146 (lv_at hl 1 rfl) ?_
                    refine va_getN (D := D) (ci := 3) (v := .int (V 53 (24 * b + (Int32.toNatClampNeg y10)))) (fs := (xfComp ad V (24 * b + (Int32.toNatClampNeg y10)))) (C := RX3) (T := TX3) (N := 13) hx hb hg inX3 hown hK hP (72 + (24 * b + (Int32.toNatClampNeg y10))) (xgComp il19) rfl 8 (by decide) (hnw.use 529 n529 rfl) (fun _ h9 => h9) rfl dX0_candidates_148 ?_
                    refine lv_iload hx hb dX0_candidates_151 (lv_at hl 3 rfl) ?_
                    refine lv_icmp_ne (tgt := 165) hx hb dX0_candidates_153 (by decide) (fun c60 => ?_) (fun c60 => ?_)
                    · skip
                      have f61 : ((V 53 (24 * b + (Int32.toNatClampNeg y10)))).toInt ≠ y11.toInt := b_neq rfl rfl c60
                      obtain ⟨z62, ez62⟩ : ∃ y : Int32, y = y10 + 1 := ⟨_, rfl⟩
                      have hz62 : z62.toInt = y10.toInt + 1 := i_add ez62 rfl (by decide) (by (first | exact om_2bedb82363d1 r1.2 r2 f17 kk9 | omega))
                      refine lv_iinc (v := z62) (lv' := [(9, .int z62), (11, .int 1), (10, .ref (ad (72 + (24 * b + (Int32.toNatClampNeg y10))))), (8, .int y11), (7, .int y12), (6, .int (V 59 (8 * (24 * b + (Int32.toNatClampNeg p0)) + (Int32.toNatClampNeg p1)))), (5, .int (V 58 (8 * (24 * b + (Int32.toNatClampNeg p0)) + (Int32.toNatClampNeg p1)))), (4, .int (V 60 (8 * (24 * b + (Int32.toNatClampNeg p0)) + (Int32.toNatClampNeg p1)))), (3, .ref (ad (72 + (24 * b + (Int32.toNatClampNeg p0))))), (0, .ref (ad (38 + b))), (1, .int p0), (2, .int p1)]) hx hb dX0_candidates_165 hl (k := 2) rfl (by rw [ez62]; rfl) (by decide) rfl (fun ls hl => ?_)
                      refine lv_goto (tgt := 40) hx hb dX0_candidates_168 (by decide) ?_
                      have r63 : Int32.toInt 1 = 1 := by decide
                      have su64 : suP gs.1 (svc V b (gs.2.1 1).length) (gs.1 (300 + 32 * gk + 4 * gj)) (gs.1 (302 + 32 * gk + 4 * gj)) (Int32.toNatClampNeg y10) = true := (suP_y ((h50 (gs.1 (300 + 32 * gk + 4 * gj)) (by omega)).symm.trans (by cases e9 : bt (V 50 (24 * b + (Int32.toNatClampNeg y10))) (gs.1 (300 + 32 * gk + 4 * gj)); exact absurd ((lb_get (x := V 50 (24 * b + (Int32.toNatClampNeg y10))) (f := (gs.1 (300 + 32 * gk + 4 * gj))) ez22 ez23 (show ((V 58 (8 * (24 * b + (Int32.toNatClampNeg p0)) + (Int32.toNatClampNeg p1)))).toInt = (((gs.1 (300 + 32 * gk + 4 * gj)) : Nat) : Int) from by omega) (by omega)).mpr e9) (by omega); rfl)) (by omega) (t34.resolve_right (fun h9 => by have h8 := h9.1; omega)).2)
                      have em9 : z62.toInt.toNat = (Int32.toNatClampNeg y10) + 1 := by (first | exact om_a1185fbb59ea kk9 kc18 hz62 | omega)
                      have eo9 : y10.toInt.toNat = (Int32.toNatClampNeg y10) := rfl
                      have b9 := xlp13_1
                      rw [eo9] at b9
                      have su65 : suP gs.1 (svc V b (gs.2.1 1).length) (gs.1 (300 + 32 * gk + 4 * gj)) (gs.1 (302 + 32 * gk + 4 * gj)) (Int32.toNatClampNeg y10) = true := (suP_y ((h50 (gs.1 (300 + 32 * gk + 4 * gj)) (by omega)).symm.trans (by cases e9 : bt (V 50 (24 * b + (Int32.toNatClampNeg y10))) (gs.1 (300 + 32 * gk + 4 * gj)); exact absurd ((lb_get (x := V 50 (24 * b + (Int32.toNatClampNeg y10))) (f := (gs.1 (300 + 32 * gk + 4 * gj))) ez22 ez23 (show ((V 58 (8 * (24 * b + (Int32.toNatClampNeg p0)) + (Int32.toNatClampNeg p1)))).toInt = (((gs.1 (300 + 32 * gk + 4 * gj)) : Nat) : Int) from by omega) (by omega)).mpr e9) (by omega); rfl)) (by omega) (t34.resolve_right (fun h9 => by have h8 := h9.1; omega)).2)
                      have em9 : z62.toInt.toNat = (Int32.toNatClampNeg y10) + 1 := by (first | exact om_26701d63f2fa em9 | omega)
                      have eo9 : y10.toInt.toNat = (Int32.toNatClampNeg y10) := rfl
                      have b9 := xlp13_1
                      rw [eo9] at b9
                      exact ihlp13 z62 y11 y12 H locs ls (by first | exact om_9500b6342cf6 r1.2 r2 f17 kk9 hz62 | first | omega | ((try (have i_gjl := Imp.go gjl (by omega))); (try (have i_gkl := Imp.go gkl (by omega))); (try (have i_wh := Imp.go wh (by omega))); (try (have i_coc := Imp.go coc (by omega))); first | omega | ((try (have i_coc := Imp.go coc (by omega))); (try (have i_wh := Imp.go wh (by omega))); (try (have i_gkl := Imp.go gkl (by omega))); (try (have i_gjl := Imp.go gjl (by omega))); omega))) (by first | exact om_c51a6401fccc klp13_1.1 klp13_1.2 | first | omega | ((try (have i_gjl := Imp.go gjl (by omega))); (try (have i_gkl := Imp.go gkl (by omega))); (try (have i_wh := Imp.go wh (by omega))); (try (have i_coc := Imp.go coc (by omega))); first | omega | ((try (have i_coc := Imp.go coc (by omega))); (try (have i_wh := Imp.go wh (by omega))); (try (have i_gkl := Imp.go gkl (by omega))); (try (have i_gjl := Imp.go gjl (by omega))); omega))) (by rw [em9]; exact FND.lo (by have h9 := xlp13_0; rw [eo9] at h9; exact h9) (by have h8 := b9 (by omega); omega) (by omega)) (fun h7 => by rw [em9]; exact (by have h8 := b9 h7; rw [bsP_l (by omega)]; omega)) (show z62.toInt ≤ (((gs.2.1 2).length : Nat) : Int) from by first | exact om_bcda7a344117 ln f17 hz62 | first | omega | ((try (have i_gjl := Imp.go gjl (by omega))); (try (have i_gkl := Imp.go gkl (by omega))); (try (have i_wh := Imp.go wh (by omega))); (try (have i_coc := Imp.go coc (by omega))); first | omega | ((try (have i_coc := Imp.go coc (by omega))); (try (have i_wh := Imp.go wh (by omega))); (try (have i_gkl := Imp.go gkl (by omega))); (try (have i_gjl := Imp.go gjl (by omega))); omega))) (by first | exact om_9592d9319ffa hn hz62 | first | omega | ((try (have i_gjl := Imp.go gjl (by omega))); (try (have i_gkl := Imp.go gkl (by omega))); (try (have i_wh := Imp.go wh (by omega))); (try (have i_coc := Imp.go coc (by omega))); first | omega | ((try (have i_coc := Imp.go coc (by omega))); (try (have i_wh := Imp.go wh (by omega))); (try (have i_gkl := Imp.go gkl (by omega))); (try (have i_gjl := Imp.go gjl (by omega))); omega))) hP hD hS (lv_sub hl [0, 3, 4, 5, 6, 7, 8, 9, 10, 11] rfl)
                    · skip
                      have f66 : ((V 53 (24 * b + (Int32.toNatClampNeg y10)))).toInt = y11.toInt := b_eq rfl rfl c60
                      refine lv_iload hx hb dX0_candidates_156 (lv_at hl 4 rfl) ?_
                      refine lv_iconst (v := 1) hx hb dX0_candidates_158 (by decide) ?_
                      refine lv_iload hx hb dX0_candidates_159 (lv_at hl 2 rfl) ?_
                      refine lv_ishl hx hb dX0_candidates_161 ?_
                      refine lv_topi (fun z67 ez67 => ?_)
                      have hz67 : 0 ≤ z67.toInt ∧ z67.toInt < 16777216 := shl1 ez67 (by first | omega | ((try (have i_gjl := Imp.go gjl (by omega))); (try (have i_gkl := Imp.go gkl (by omega))); (try (have i_wh := Imp.go wh (by omega))); (try (have i_coc := Imp.go coc (by omega))); first | omega | ((try (have i_coc := Imp.go coc (by omega))); (try (have i_wh := Imp.go wh (by omega))); (try (have i_gkl := Imp.go gkl (by omega))); (try (have i_gjl := Imp.go gjl (by omega))); omega)))
                      refine lv_ior hx hb dX0_candidates_162 ?_
                      refine lv_topi (fun z68 ez68 => ?_)
                      have hz68 : 0 ≤ z68.toInt ∧ z68.toInt < 16777216 := or24 ez68 (by first | omega | ((try (have i_gjl := Imp.go gjl (by omega))); (try (have i_gkl := Imp.go gkl (by omega))); (try (have i_wh := Imp.go wh (by omega))); (try (have i_coc := Imp.go coc (by omega))); first | omega | ((try (have i_coc := Imp.go coc (by omega))); (try (have i_wh := Imp.go wh (by omega))); (try (have i_gkl := Imp.go gkl (by omega))); (try (have i_gjl := Imp.go gjl (by omega))); omega))) (by first | omega | ((try (have i_gjl := Imp.go gjl (by omega))); (try (have i_gkl := Imp.go gkl (by omega))); (try (have i_wh := Imp.go wh (by omega))); (try (have i_coc := Imp.go coc (by omega))); first | omega | ((try (have i_coc := Imp.go coc (by omega))); (try (have i_wh := Imp.go wh (by omega))); (try (have i_gkl := Imp.go gkl (by omega))); (try (have i_gjl := Imp.go gjl (by omega))); omega)))
                      refine lv_istore (lv' := [(7, .int z68), (11, .int 1), (10, .ref (ad (72 + (24 * b + (Int32.toNatClampNeg y10))))), (9, .int y10), (8, .int y11), (6, .int (V 59 (8 * (24 * b + (Int32.toNatClampNeg p0)) + (Int32.toNatClampNeg p1)))), (5, .int (V 58 (8 * (24 * b + (Int32.toNatClampNeg p0)) + (Int32.toNatClampNeg p1)))), (4, .int (V 60 (8 * (24 * b + (Int32.toNatClampNeg p0)) + (Int32.toNatClampNeg p1)))), (3, .ref (ad (72 + (24 * b + (Int32.toNatClampNeg p0))))), (0, .ref (ad (38 + b))), (1, .int p0), (2, .int p1)]) hx hb dX0_candidates_163 hl (by decide) rfl (fun ls hl => ?_)
                      obtain ⟨z69, ez69⟩ : ∃ y : Int32, y = y10 + 1 := ⟨_, rfl⟩
                      have hz69 : z69.toInt = y10.toInt + 1 := i_add ez69 rfl (by decide) (by (first | exact om_2bedb82363d1 r1.2 r2 f17 kk9 | omega))
                      refine lv_iinc (v := z69) (lv' := [(9, .int z69), (7, .int z68), (11, .int 1), (10, .ref (ad (72 + (24 * b + (Int32.toNatClampNeg y10))))), (8, .int y11), (6, .int (V 59 (8 * (24 * b + (Int32.toNatClampNeg p0)) + (Int32.toNatClampNeg p1)))), (5, .int (V 58 (8 * (24 * b + (Int32.toNatClampNeg p0)) + (Int32.toNatClampNeg p1)))), (4, .int (V 60 (8 * (24 * b + (Int32.toNatClampNeg p0)) + (Int32.toNatClampNeg p1)))), (3, .ref (ad (72 + (24 * b + (Int32.toNatClampNeg p0))))), (0, .ref (ad (38 + b))), (1, .int p0), (2, .int p1)]) hx hb dX0_candidates_165 hl (k := 3) rfl (by rw [ez69]; rfl) (by decide) rfl (fun ls hl => ?_)
                      refine lv_goto (tgt := 40) hx hb dX0_candidates_168 (by decide) ?_
                      have r70 : Int32.toInt 1 = 1 := by decide
                      have su71 : suP gs.1 (svc V b (gs.2.1 1).length) (gs.1 (300 + 32 * gk + 4 * gj)) (gs.1 (302 + 32 * gk + 4 * gj)) (Int32.toNatClampNeg y10) = true := (suP_y ((h50 (gs.1 (300 + 32 * gk + 4 * gj)) (by omega)).symm.trans (by cases e9 : bt (V 50 (24 * b + (Int32.toNatClampNeg y10))) (gs.1 (300 + 32 * gk + 4 * gj)); exact absurd ((lb_get (x := V 50 (24 * b + (Int32.toNatClampNeg y10))) (f := (gs.1 (300 + 32 * gk + 4 * gj))) ez22 ez23 (show ((V 58 (8 * (24 * b + (Int32.toNatClampNeg p0)) + (Int32.toNatClampNeg p1)))).toInt = (((gs.1 (300 + 32 * gk + 4 * gj)) : Nat) : Int) from by omega) (by omega)).mpr e9) (by omega); rfl)) (by omega) (t34.resolve_right (fun h9 => by have h8 := h9.1; omega)).2)
                      have em9 : z69.toInt.toNat = (Int32.toNatClampNeg y10) + 1 := by (first | exact om_a1185fbb59ea kk9 kc18 hz69 | omega)
                      have eo9 : y10.toInt.toNat = (Int32.toNatClampNeg y10) := rfl
                      have b9 := xlp13_1
                      rw [eo9] at b9
                      have su72 : suP gs.1 (svc V b (gs.2.1 1).length) (gs.1 (300 + 32 * gk + 4 * gj)) (gs.1 (302 + 32 * gk + 4 * gj)) (Int32.toNatClampNeg y10) = true := (suP_y ((h50 (gs.1 (300 + 32 * gk + 4 * gj)) (by omega)).symm.trans (by cases e9 : bt (V 50 (24 * b + (Int32.toNatClampNeg y10))) (gs.1 (300 + 32 * gk + 4 * gj)); exact absurd ((lb_get (x := V 50 (24 * b + (Int32.toNatClampNeg y10))) (f := (gs.1 (300 + 32 * gk + 4 * gj))) ez22 ez23 (show ((V 58 (8 * (24 * b + (Int32.toNatClampNeg p0)) + (Int32.toNatClampNeg p1)))).toInt = (((gs.1 (300 + 32 * gk + 4 * gj)) : Nat) : Int) from by omega) (by omega)).mpr e9) (by omega); rfl)) (by omega) (t34.resolve_right (fun h9 => by have h8 := h9.1; omega)).2)
                      have em9 : z69.toInt.toNat = (Int32.toNatClampNeg y10) + 1 := by (first | exact om_26701d63f2fa em9 | omega)
                      have eo9 : y10.toInt.toNat = (Int32.toNatClampNeg y10) := rfl
                      have b9 := xlp13_1
                      rw [eo9] at b9
                      exact ihlp13 z69 y11 z68 H locs ls (by first | exact om_9500b6342cf6 r1.2 r2 f17 kk9 hz69 | first | omega | ((try (have i_gjl := Imp.go gjl (by omega))); (try (have i_gkl := Imp.go gkl (by omega))); (try (have i_wh := Imp.go wh (by omega))); (try (have i_coc := Imp.go coc (by omega))); first | omega | ((try (have i_coc := Imp.go coc (by omega))); (try (have i_wh := Imp.go wh (by omega))); (try (have i_gkl := Imp.go gkl (by omega))); (try (have i_gjl := Imp.go gjl (by omega))); omega))) (by first | exact om_8a0dcf576dcd hz68.1 hz68.2 | first | omega | ((try (have i_gjl := Imp.go gjl (by omega))); (try (have i_gkl := Imp.go gkl (by omega))); (try (have i_wh := Imp.go wh (by omega))); (try (have i_coc := Imp.go coc (by omega))); first | omega | ((try (have i_coc := Imp.go coc (by omega))); (try (have i_wh := Imp.go wh (by omega))); (try (have i_gkl := Imp.go gkl (by omega))); (try (have i_gjl := Imp.go gjl (by omega))); omega))) (by rw [em9]; exact FND.eq (by have h9 := xlp13_0; rw [eo9] at h9; exact h9) su71 (Or.inr (by have h8 := b9 (by omega); omega)) ez67 ez68 (show y10.toInt = (((Int32.toNatClampNeg y10) : Nat) : Int) from by (first | exact om_dadc9969542e kc18 | omega)) (by omega)) (fun h7 => by rw [em9]; exact (by have h8 := b9 h7; rw [bsP_l (by omega)]; omega)) (show z69.toInt ≤ (((gs.2.1 2).length : Nat) : Int) from by first | exact om_bcda7a344117 ln f17 hz69 | first | omega | ((try (have i_gjl := Imp.go gjl (by omega))); (try (have i_gkl := Imp.go gkl (by omega))); (try (have i_wh := Imp.go wh (by omega))); (try (have i_coc := Imp.go coc (by omega))); first | omega | ((try (have i_coc := Imp.go coc (by omega))); (try (have i_wh := Imp.go wh (by omega))); (try (have i_gkl := Imp.go gkl (by omega))); (try (have i_gjl := Imp.go gjl (by omega))); omega))) (by first | exact om_9592d9319ffa hn hz69 | first | omega | ((try (have i_gjl := Imp.go gjl (by omega))); (try (have i_gkl := Imp.go gkl (by omega))); (try (have i_wh := Imp.go wh (by omega))); (try (have i_coc := Imp.go coc (by omega))); first | omega | ((try (have i_coc := Imp.go coc (by omega))); (try (have i_wh := Imp.go wh (by omega))); (try (have i_gkl := Imp.go gkl (by omega))); (try (have i_gjl := Imp.go gjl (by omega))); omega))) hP hD hS (lv_sub hl [0, 4, 1, 5, 6, 7, 8, 9, 10, 11] rfl)
                · skip
                  have f73 : y11.toInt < ((V 53 (24 * b + (Int32.toNatClampNeg y10)))).toInt := b_nle rfl rfl c49
                  refine lv_aload hx hb dX0_candidates_130 (lv_at hl 1 rfl) ?_
                  refine va_getN (D := D) (ci := 3) (v := .int (V 53 (24 * b + (Int32.toNatClampNeg y10)))) (fs := (xfComp ad V (24 * b + (Int32.toNatClampNeg y10)))) (C := RX3) (T := TX3) (N := 13) hx hb hg inX3 hown hK hP (72 + (24 * b + (Int32.toNatClampNeg y10))) (xgComp il19) rfl 8 (by decide) (hnw.use 529 n529 rfl) (fun _ h9 => h9) rfl dX0_candidates_132 ?_
                  refine lv_istore (lv' := [(8, .int (V 53 (24 * b + (Int32.toNatClampNeg y10)))), (11, .int 1), (10, .ref (ad (72 + (24 * b + (Int32.toNatClampNeg y10))))), (9, .int y10), (7, .int y12), (6, .int (V 59 (8 * (24 * b + (Int32.toNatClampNeg p0)) + (Int32.toNatClampNeg p1)))), (5, .int (V 58 (8 * (24 * b + (Int32.toNatClampNeg p0)) + (Int32.toNatClampNeg p1)))), (4, .int (V 60 (8 * (24 * b + (Int32.toNatClampNeg p0)) + (Int32.toNatClampNeg p1)))), (3, .ref (ad (72 + (24 * b + (Int32.toNatClampNeg p0))))), (0, .ref (ad (38 + b))), (1, .int p0), (2, .int p1)]) hx hb dX0_candidates_135 hl (by decide) rfl (fun ls hl => ?_)
                  refine lv_iconst (v := 0) hx hb dX0_candidates_137 (by decide) ?_
                  refine lv_istore (lv' := [(7, .int 0), (8, .int (V 53 (24 * b + (Int32.toNatClampNeg y10)))), (11, .int 1), (10, .ref (ad (72 + (24 * b + (Int32.toNatClampNeg y10))))), (9, .int y10), (6, .int (V 59 (8 * (24 * b + (Int32.toNatClampNeg p0)) + (Int32.toNatClampNeg p1)))), (5, .int (V 58 (8 * (24 * b + (Int32.toNatClampNeg p0)) + (Int32.toNatClampNeg p1)))), (4, .int (V 60 (8 * (24 * b + (Int32.toNatClampNeg p0)) + (Int32.toNatClampNeg p1)))), (3, .ref (ad (72 + (24 * b + (Int32.toNatClampNeg p0))))), (0, .ref (ad (38 + b))), (1, .int p0), (2, .int p1)]) hx hb dX0_candidates_138 hl (by decide) rfl (fun ls hl => ?_)
                  refine lv_iload hx hb dX0_candidates_140 (lv_at hl 7 rfl) ?_
                  refine lv_iconst (v := 2) hx hb dX0_candidates_142 (by decide) ?_
                  refine lv_icmp_eq (tgt := 156) hx hb dX0_candidates_143 (by decide) (fun c74 => ?_) (fun c74 => ?_)
                  · skip
                    have f75 : ((V 60 (8 * (24 * b + (Int32.toNatClampNeg p0)) + (Int32.toNatClampNeg p1)))).toInt = 2 := b_eq rfl (by decide) c74
                    refine lv_iload hx hb dX0_candidates_156 (lv_at hl 0 rfl) ?_
                    refine lv_iconst (v := 1) hx hb dX0_candidates_158 (by decide) ?_
                    refine lv_iload hx hb dX0_candidates_159 (lv_at hl 4 rfl) ?_
                    refine lv_ishl hx hb dX0_candidates_161 ?_
                    refine lv_topi (fun z76 ez76 => ?_)
                    have hz76 : 0 ≤ z76.toInt ∧ z76.toInt < 16777216 := shl1 ez76 (by first | omega | ((try (have i_gjl := Imp.go gjl (by omega))); (try (have i_gkl := Imp.go gkl (by omega))); (try (have i_wh := Imp.go wh (by omega))); (try (have i_coc := Imp.go coc (by omega))); first | omega | ((try (have i_coc := Imp.go coc (by omega))); (try (have i_wh := Imp.go wh (by omega))); (try (have i_gkl := Imp.go gkl (by omega))); (try (have i_gjl := Imp.go gjl (by omega))); omega)))
                    refine lv_ior hx hb dX0_candidates_162 ?_
                    refine lv_topi (fun z77 ez77 => ?_)
                    have hz77 : 0 ≤ z77.toInt ∧ z77.toInt < 16777216 := or24 ez77 (by decide) (by first | omega | ((try (have i_gjl := Imp.go gjl (by omega))); (try (have i_gkl := Imp.go gkl (by omega))); (try (have i_wh := Imp.go wh (by omega))); (try (have i_coc := Imp.go coc (by omega))); first | omega | ((try (have i_coc := Imp.go coc (by omega))); (try (have i_wh := Imp.go wh (by omega))); (try (have i_gkl := Imp.go gkl (by omega))); (try (have i_gjl := Imp.go gjl (by omega))); omega)))
                    refine lv_istore (lv' := [(7, .int z77), (8, .int (V 53 (24 * b + (Int32.toNatClampNeg y10)))), (11, .int 1), (10, .ref (ad (72 + (24 * b + (Int32.toNatClampNeg y10))))), (9, .int y10), (6, .int (V 59 (8 * (24 * b + (Int32.toNatClampNeg p0)) + (Int32.toNatClampNeg p1)))), (5, .int (V 58 (8 * (24 * b + (Int32.toNatClampNeg p0)) + (Int32.toNatClampNeg p1)))), (4, .int (V 60 (8 * (24 * b + (Int32.toNatClampNeg p0)) + (Int32.toNatClampNeg p1)))), (3, .ref (ad (72 + (24 * b + (Int32.toNatClampNeg p0))))), (0, .ref (ad (38 + b))), (1, .int p0), (2, .int p1)]) hx hb dX0_candidates_163 hl (by decide) rfl (fun ls hl => ?_)
                    obtain ⟨z78, ez78⟩ : ∃ y : Int32, y = y10 + 1 := ⟨_, rfl⟩
                    have hz78 : z78.toInt = y10.toInt + 1 := i_add ez78 rfl (by decide) (by omega)
                    refine lv_iinc (v := z78) (lv' := [(9, .int z78), (7, .int z77), (8, .int (V 53 (24 * b + (Int32.toNatClampNeg y10)))), (11, .int 1), (10, .ref (ad (72 + (24 * b + (Int32.toNatClampNeg y10))))), (6, .int (V 59 (8 * (24 * b + (Int32.toNatClampNeg p0)) + (Int32.toNatClampNeg p1)))), (5, .int (V 58 (8 * (24 * b + (Int32.toNatClampNeg p0)) + (Int32.toNatClampNeg p1)))), (4, .int (V 60 (8 * (24 * b + (Int32.toNatClampNeg p0)) + (Int32.toNatClampNeg p1)))), (3, .ref (ad (72 + (24 * b + (Int32.toNatClampNeg p0))))), (0, .ref (ad (38 + b))), (1, .int p0), (2, .int p1)]) hx hb dX0_candidates_165 hl (k := 4) rfl (by rw [ez78]; rfl) (by decide) rfl (fun ls hl => ?_)
                    refine lv_goto (tgt := 40) hx hb dX0_candidates_168 (by decide) ?_
                    have r79 : Int32.toInt 1 = 1 := by decide
                    have su80 : suP gs.1 (svc V b (gs.2.1 1).length) (gs.1 (300 + 32 * gk + 4 * gj)) (gs.1 (302 + 32 * gk + 4 * gj)) (Int32.toNatClampNeg y10) = true := (suP_y ((h50 (gs.1 (300 + 32 * gk + 4 * gj)) (by omega)).symm.trans (by cases e9 : bt (V 50 (24 * b + (Int32.toNatClampNeg y10))) (gs.1 (300 + 32 * gk + 4 * gj)); exact absurd ((lb_get (x := V 50 (24 * b + (Int32.toNatClampNeg y10))) (f := (gs.1 (300 + 32 * gk + 4 * gj))) ez22 ez23 (show ((V 58 (8 * (24 * b + (Int32.toNatClampNeg p0)) + (Int32.toNatClampNeg p1)))).toInt = (((gs.1 (300 + 32 * gk + 4 * gj)) : Nat) : Int) from by omega) (by omega)).mpr e9) (by omega); rfl)) (by omega) (t34.resolve_right (fun h9 => by have h8 := h9.1; omega)).2)
                    have em9 : z78.toInt.toNat = (Int32.toNatClampNeg y10) + 1 := by omega
                    have eo9 : y10.toInt.toNat = (Int32.toNatClampNeg y10) := rfl
                    have b9 := xlp13_1
                    rw [eo9] at b9
                    have su81 : suP gs.1 (svc V b (gs.2.1 1).length) (gs.1 (300 + 32 * gk + 4 * gj)) (gs.1 (302 + 32 * gk + 4 * gj)) (Int32.toNatClampNeg y10) = true := (suP_y ((h50 (gs.1 (300 + 32 * gk + 4 * gj)) (by omega)).symm.trans (by cases e9 : bt (V 50 (24 * b + (Int32.toNatClampNeg y10))) (gs.1 (300 + 32 * gk + 4 * gj)); exact absurd ((lb_get (x := V 50 (24 * b + (Int32.toNatClampNeg y10))) (f := (gs.1 (300 + 32 * gk + 4 * gj))) ez22 ez23 (show ((V 58 (8 * (24 * b + (Int32.toNatClampNeg p0)) + (Int32.toNatClampNeg p1)))).toInt = (((gs.1 (300 + 32 * gk + 4 * gj)) : Nat) : Int) from by omega) (by omega)).mpr e9) (by omega); rfl)) (by omega) (t34.resolve_right (fun h9 => by have h8 := h9.1; omega)).2)
                    have em9 : z78.toInt.toNat = (Int32.toNatClampNeg y10) + 1 := by omega
                    have eo9 : y10.toInt.toNat = (Int32.toNatClampNeg y10) := rfl
                    have b9 := xlp13_1
                    rw [eo9] at b9
                    exact ihlp13 z78 (V 53 (24 * b + (Int32.toNatClampNeg y10))) z77 H locs ls (by first | omega | ((try (have i_gjl := Imp.go gjl (by omega))); (try (have i_gkl := Imp.go gkl (by omega))); (try (have i_wh := Imp.go wh (by omega))); (try (have i_coc := Imp.go coc (by omega))); first | omega | ((try (have i_coc := Imp.go coc (by omega))); (try (have i_wh := Imp.go wh (by omega))); (try (have i_gkl := Imp.go gkl (by omega))); (try (have i_gjl := Imp.go gjl (by omega))); omega))) (by first | omega | ((try (have i_gjl := Imp.go gjl (by omega))); (try (have i_gkl := Imp.go gkl (by omega))); (try (have i_wh := Imp.go wh (by omega))); (try (have i_coc := Imp.go coc (by omega))); first | omega | ((try (have i_coc := Imp.go coc (by omega))); (try (have i_wh := Imp.go wh (by omega))); (try (have i_gkl := Imp.go gkl (by omega))); (try (have i_gjl := Imp.go gjl (by omega))); omega))) (by rw [em9]; exact FND.hi rfl su80 (by have h8 := b9 (by omega); omega) (by omega) ez76 ez77 (show y10.toInt = (((Int32.toNatClampNeg y10) : Nat) : Int) from by omega) (by omega)) (fun h7 => by rw [em9]; exact (by have h8 := b9 h7; rw [bsP_h su81 (by omega)]; omega)) (show z78.toInt ≤ (((gs.2.1 2).length : Nat) : Int) from by first | omega | ((try (have i_gjl := Imp.go gjl (by omega))); (try (have i_gkl := Imp.go gkl (by omega))); (try (have i_wh := Imp.go wh (by omega))); (try (have i_coc := Imp.go coc (by omega))); first | omega | ((try (have i_coc := Imp.go coc (by omega))); (try (have i_wh := Imp.go wh (by omega))); (try (have i_gkl := Imp.go gkl (by omega))); (try (have i_gjl := Imp.go gjl (by omega))); omega))) (by first | omega | ((try (have i_gjl := Imp.go gjl (by omega))); (try (have i_gkl := Imp.go gkl (by omega))); (try (have i_wh := Imp.go wh (by omega))); (try (have i_coc := Imp.go coc (by omega))); first | omega | ((try (have i_coc := Imp.go coc (by omega))); (try (have i_wh := Imp.go wh (by omega))); (try (have i_gkl := Imp.go gkl (by omega))); (try (have i_gjl := Imp.go gjl (by omega))); omega))) hP hD hS (lv_sub hl [0, 2, 1, 5, 6, 7, 8, 9, 10, 11] rfl)
                  · skip
                    have f82 : ((V 60 (8 * (24 * b + (Int32.toNatClampNeg p0)) + (Int32.toNatClampNeg p1)))).toInt ≠ 2 := b_neq rfl (by decide) c74
                    refine lv_aload hx hb dX0_candidates_146 (lv_at hl 3 rfl) ?_
                    refine va_getN (D := D) (ci := 3) (v := .int (V 53 (24 * b + (Int32.toNatClampNeg y10)))) (fs := (xfComp ad V (24 * b + (Int32.toNatClampNeg y10)))) (C := RX3) (T := TX3) (N := 13) hx hb hg inX3 hown hK hP (72 + (24 * b + (Int32.toNatClampNeg y10))) (xgComp il19) rfl 8 (by decide) (hnw.use 529 n529 rfl) (fun _ h9 => h9) rfl dX0_candidates_148 ?_
                    refine lv_iload hx hb dX0_candidates_151 (lv_at hl 1 rfl) ?_
                    refine lv_icmp_ne (tgt := 165) hx hb dX0_candidates_153 (by decide) (fun c83 => ?_) (fun c83 => ?_)
                    · skip
                      have f84 : ((V 53 (24 * b + (Int32.toNatClampNeg y10)))).toInt ≠ ((V 53 (24 * b + (Int32.toNatClampNeg y10)))).toInt := b_neq rfl rfl c83
                      obtain ⟨z85, ez85⟩ : ∃ y : Int32, y = y10 + 1 := ⟨_, rfl⟩
                      have hz85 : z85.toInt = y10.toInt + 1 := i_add ez85 rfl (by decide) (by (first | exact om_2bedb82363d1 r1.2 r2 f17 kk9 | omega))
                      refine lv_iinc (v := z85) (lv' := [(9, .int z85), (7, .int 0), (8, .int (V 53 (24 * b + (Int32.toNatClampNeg y10)))), (11, .int 1), (10, .ref (ad (72 + (24 * b + (Int32.toNatClampNeg y10))))), (6, .int (V 59 (8 * (24 * b + (Int32.toNatClampNeg p0)) + (Int32.toNatClampNeg p1)))), (5, .int (V 58 (8 * (24 * b + (Int32.toNatClampNeg p0)) + (Int32.toNatClampNeg p1)))), (4, .int (V 60 (8 * (24 * b + (Int32.toNatClampNeg p0)) + (Int32.toNatClampNeg p1)))), (3, .ref (ad (72 + (24 * b + (Int32.toNatClampNeg p0))))), (0, .ref (ad (38 + b))), (1, .int p0), (2, .int p1)]) hx hb dX0_candidates_165 hl (k := 4) rfl (by rw [ez85]; rfl) (by decide) rfl (fun ls hl => ?_)
                      refine lv_goto (tgt := 40) hx hb dX0_candidates_168 (by decide) ?_
                      have r86 : Int32.toInt 0 = 0 := by decide
                      have r87 : Int32.toInt 1 = 1 := by decide
                      have su88 : suP gs.1 (svc V b (gs.2.1 1).length) (gs.1 (300 + 32 * gk + 4 * gj)) (gs.1 (302 + 32 * gk + 4 * gj)) (Int32.toNatClampNeg y10) = true := (suP_y ((h50 (gs.1 (300 + 32 * gk + 4 * gj)) (by omega)).symm.trans (by cases e9 : bt (V 50 (24 * b + (Int32.toNatClampNeg y10))) (gs.1 (300 + 32 * gk + 4 * gj)); exact absurd ((lb_get (x := V 50 (24 * b + (Int32.toNatClampNeg y10))) (f := (gs.1 (300 + 32 * gk + 4 * gj))) ez22 ez23 (show ((V 58 (8 * (24 * b + (Int32.toNatClampNeg p0)) + (Int32.toNatClampNeg p1)))).toInt = (((gs.1 (300 + 32 * gk + 4 * gj)) : Nat) : Int) from by omega) (by omega)).mpr e9) (by omega); rfl)) (by omega) (t34.resolve_right (fun h9 => by have h8 := h9.1; omega)).2)
                      have em9 : z85.toInt.toNat = (Int32.toNatClampNeg y10) + 1 := by (first | exact om_a1185fbb59ea kk9 kc18 hz85 | omega)
                      have eo9 : y10.toInt.toNat = (Int32.toNatClampNeg y10) := rfl
                      have b9 := xlp13_1
                      rw [eo9] at b9
                      have su89 : suP gs.1 (svc V b (gs.2.1 1).length) (gs.1 (300 + 32 * gk + 4 * gj)) (gs.1 (302 + 32 * gk + 4 * gj)) (Int32.toNatClampNeg y10) = true := (suP_y ((h50 (gs.1 (300 + 32 * gk + 4 * gj)) (by omega)).symm.trans (by cases e9 : bt (V 50 (24 * b + (Int32.toNatClampNeg y10))) (gs.1 (300 + 32 * gk + 4 * gj)); exact absurd ((lb_get (x := V 50 (24 * b + (Int32.toNatClampNeg y10))) (f := (gs.1 (300 + 32 * gk + 4 * gj))) ez22 ez23 (show ((V 58 (8 * (24 * b + (Int32.toNatClampNeg p0)) + (Int32.toNatClampNeg p1)))).toInt = (((gs.1 (300 + 32 * gk + 4 * gj)) : Nat) : Int) from by omega) (by omega)).mpr e9) (by omega); rfl)) (by omega) (t34.resolve_right (fun h9 => by have h8 := h9.1; omega)).2)
                      have em9 : z85.toInt.toNat = (Int32.toNatClampNeg y10) + 1 := by (first | exact om_26701d63f2fa em9 | omega)
                      have eo9 : y10.toInt.toNat = (Int32.toNatClampNeg y10) := rfl
                      have b9 := xlp13_1
                      rw [eo9] at b9
                      exact ihlp13 z85 (V 53 (24 * b + (Int32.toNatClampNeg y10))) 0 H locs ls (by first | exact om_9500b6342cf6 r1.2 r2 f17 kk9 hz85 | first | omega | ((try (have i_gjl := Imp.go gjl (by omega))); (try (have i_gkl := Imp.go gkl (by omega))); (try (have i_wh := Imp.go wh (by omega))); (try (have i_coc := Imp.go coc (by omega))); first | omega | ((try (have i_coc := Imp.go coc (by omega))); (try (have i_wh := Imp.go wh (by omega))); (try (have i_gkl := Imp.go gkl (by omega))); (try (have i_gjl := Imp.go gjl (by omega))); omega))) (by decide) (by exfalso; omega) (fun h7 => by exfalso; omega) (show z85.toInt ≤ (((gs.2.1 2).length : Nat) : Int) from by first | exact om_bcda7a344117 ln f17 hz85 | first | omega | ((try (have i_gjl := Imp.go gjl (by omega))); (try (have i_gkl := Imp.go gkl (by omega))); (try (have i_wh := Imp.go wh (by omega))); (try (have i_coc := Imp.go coc (by omega))); first | omega | ((try (have i_coc := Imp.go coc (by omega))); (try (have i_wh := Imp.go wh (by omega))); (try (have i_gkl := Imp.go gkl (by omega))); (try (have i_gjl := Imp.go gjl (by omega))); omega))) (by first | exact om_9592d9319ffa hn hz85 | first | omega | ((try (have i_gjl := Imp.go gjl (by omega))); (try (have i_gkl := Imp.go gkl (by omega))); (try (have i_wh := Imp.go wh (by omega))); (try (have i_coc := Imp.go coc (by omega))); first | omega | ((try (have i_coc := Imp.go coc (by omega))); (try (have i_wh := Imp.go wh (by omega))); (try (have i_gkl := Imp.go gkl (by omega))); (try (have i_gjl := Imp.go gjl (by omega))); omega))) hP hD hS (lv_sub hl [0, 2, 1, 5, 6, 7, 8, 9, 10, 11] rfl)
                    · skip
                      have f90 : ((V 53 (24 * b + (Int32.toNatClampNeg y10)))).toInt = ((V 53 (24 * b + (Int32.toNatClampNeg y10)))).toInt := b_eq rfl rfl c83
                      refine lv_iload hx hb dX0_candidates_156 (lv_at hl 0 rfl) ?_
                      refine lv_iconst (v := 1) hx hb dX0_candidates_158 (by decide) ?_
                      refine lv_iload hx hb dX0_candidates_159 (lv_at hl 4 rfl) ?_
                      refine lv_ishl hx hb dX0_candidates_161 ?_
                      refine lv_topi (fun z91 ez91 => ?_)
                      have hz91 : 0 ≤ z91.toInt ∧ z91.toInt < 16777216 := shl1 ez91 (by first | omega | ((try (have i_gjl := Imp.go gjl (by omega))); (try (have i_gkl := Imp.go gkl (by omega))); (try (have i_wh := Imp.go wh (by omega))); (try (have i_coc := Imp.go coc (by omega))); first | omega | ((try (have i_coc := Imp.go coc (by omega))); (try (have i_wh := Imp.go wh (by omega))); (try (have i_gkl := Imp.go gkl (by omega))); (try (have i_gjl := Imp.go gjl (by omega))); omega)))
                      refine lv_ior hx hb dX0_candidates_162 ?_
                      refine lv_topi (fun z92 ez92 => ?_)
                      have hz92 : 0 ≤ z92.toInt ∧ z92.toInt < 16777216 := or24 ez92 (by decide) (by first | omega | ((try (have i_gjl := Imp.go gjl (by omega))); (try (have i_gkl := Imp.go gkl (by omega))); (try (have i_wh := Imp.go wh (by omega))); (try (have i_coc := Imp.go coc (by omega))); first | omega | ((try (have i_coc := Imp.go coc (by omega))); (try (have i_wh := Imp.go wh (by omega))); (try (have i_gkl := Imp.go gkl (by omega))); (try (have i_gjl := Imp.go gjl (by omega))); omega)))
                      refine lv_istore (lv' := [(7, .int z92), (8, .int (V 53 (24 * b + (Int32.toNatClampNeg y10)))), (11, .int 1), (10, .ref (ad (72 + (24 * b + (Int32.toNatClampNeg y10))))), (9, .int y10), (6, .int (V 59 (8 * (24 * b + (Int32.toNatClampNeg p0)) + (Int32.toNatClampNeg p1)))), (5, .int (V 58 (8 * (24 * b + (Int32.toNatClampNeg p0)) + (Int32.toNatClampNeg p1)))), (4, .int (V 60 (8 * (24 * b + (Int32.toNatClampNeg p0)) + (Int32.toNatClampNeg p1)))), (3, .ref (ad (72 + (24 * b + (Int32.toNatClampNeg p0))))), (0, .ref (ad (38 + b))), (1, .int p0), (2, .int p1)]) hx hb dX0_candidates_163 hl (by decide) rfl (fun ls hl => ?_)
                      obtain ⟨z93, ez93⟩ : ∃ y : Int32, y = y10 + 1 := ⟨_, rfl⟩
                      have hz93 : z93.toInt = y10.toInt + 1 := i_add ez93 rfl (by decide) (by (first | exact om_2bedb82363d1 r1.2 r2 f17 kk9 | omega))
                      refine lv_iinc (v := z93) (lv' := [(9, .int z93), (7, .int z92), (8, .int (V 53 (24 * b + (Int32.toNatClampNeg y10)))), (11, .int 1), (10, .ref (ad (72 + (24 * b + (Int32.toNatClampNeg y10))))), (6, .int (V 59 (8 * (24 * b + (Int32.toNatClampNeg p0)) + (Int32.toNatClampNeg p1)))), (5, .int (V 58 (8 * (24 * b + (Int32.toNatClampNeg p0)) + (Int32.toNatClampNeg p1)))), (4, .int (V 60 (8 * (24 * b + (Int32.toNatClampNeg p0)) + (Int32.toNatClampNeg p1)))), (3, .ref (ad (72 + (24 * b + (Int32.toNatClampNeg p0))))), (0, .ref (ad (38 + b))), (1, .int p0), (2, .int p1)]) hx hb dX0_candidates_165 hl (k := 4) rfl (by rw [ez93]; rfl) (by decide) rfl (fun ls hl => ?_)
                      refine lv_goto (tgt := 40) hx hb dX0_candidates_168 (by decide) ?_
                      have r94 : Int32.toInt 1 = 1 := by decide
                      have su95 : suP gs.1 (svc V b (gs.2.1 1).length) (gs.1 (300 + 32 * gk + 4 * gj)) (gs.1 (302 + 32 * gk + 4 * gj)) (Int32.toNatClampNeg y10) = true := (suP_y ((h50 (gs.1 (300 + 32 * gk + 4 * gj)) (by omega)).symm.trans (by cases e9 : bt (V 50 (24 * b + (Int32.toNatClampNeg y10))) (gs.1 (300 + 32 * gk + 4 * gj)); exact absurd ((lb_get (x := V 50 (24 * b + (Int32.toNatClampNeg y10))) (f := (gs.1 (300 + 32 * gk + 4 * gj))) ez22 ez23 (show ((V 58 (8 * (24 * b + (Int32.toNatClampNeg p0)) + (Int32.toNatClampNeg p1)))).toInt = (((gs.1 (300 + 32 * gk + 4 * gj)) : Nat) : Int) from by omega) (by omega)).mpr e9) (by omega); rfl)) (by omega) (t34.resolve_right (fun h9 => by have h8 := h9.1; omega)).2)
                      have em9 : z93.toInt.toNat = (Int32.toNatClampNeg y10) + 1 := by (first | exact om_a1185fbb59ea kk9 kc18 hz93 | omega)
                      have eo9 : y10.toInt.toNat = (Int32.toNatClampNeg y10) := rfl
                      have b9 := xlp13_1
                      rw [eo9] at b9
                      have su96 : suP gs.1 (svc V b (gs.2.1 1).length) (gs.1 (300 + 32 * gk + 4 * gj)) (gs.1 (302 + 32 * gk + 4 * gj)) (Int32.toNatClampNeg y10) = true := (suP_y ((h50 (gs.1 (300 + 32 * gk + 4 * gj)) (by omega)).symm.trans (by cases e9 : bt (V 50 (24 * b + (Int32.toNatClampNeg y10))) (gs.1 (300 + 32 * gk + 4 * gj)); exact absurd ((lb_get (x := V 50 (24 * b + (Int32.toNatClampNeg y10))) (f := (gs.1 (300 + 32 * gk + 4 * gj))) ez22 ez23 (show ((V 58 (8 * (24 * b + (Int32.toNatClampNeg p0)) + (Int32.toNatClampNeg p1)))).toInt = (((gs.1 (300 + 32 * gk + 4 * gj)) : Nat) : Int) from by omega) (by omega)).mpr e9) (by omega); rfl)) (by omega) (t34.resolve_right (fun h9 => by have h8 := h9.1; omega)).2)
                      have em9 : z93.toInt.toNat = (Int32.toNatClampNeg y10) + 1 := by (first | exact om_26701d63f2fa em9 | omega)
                      have eo9 : y10.toInt.toNat = (Int32.toNatClampNeg y10) := rfl
                      have b9 := xlp13_1
                      rw [eo9] at b9
                      exact ihlp13 z93 (V 53 (24 * b + (Int32.toNatClampNeg y10))) z92 H locs ls (by first | exact om_9500b6342cf6 r1.2 r2 f17 kk9 hz93 | first | omega | ((try (have i_gjl := Imp.go gjl (by omega))); (try (have i_gkl := Imp.go gkl (by omega))); (try (have i_wh := Imp.go wh (by omega))); (try (have i_coc := Imp.go coc (by omega))); first | omega | ((try (have i_coc := Imp.go coc (by omega))); (try (have i_wh := Imp.go wh (by omega))); (try (have i_gkl := Imp.go gkl (by omega))); (try (have i_gjl := Imp.go gjl (by omega))); omega))) (by first | exact om_8a0dcf576dcd hz92.1 hz92.2 | first | omega | ((try (have i_gjl := Imp.go gjl (by omega))); (try (have i_gkl := Imp.go gkl (by omega))); (try (have i_wh := Imp.go wh (by omega))); (try (have i_coc := Imp.go coc (by omega))); first | omega | ((try (have i_coc := Imp.go coc (by omega))); (try (have i_wh := Imp.go wh (by omega))); (try (have i_gkl := Imp.go gkl (by omega))); (try (have i_gjl := Imp.go gjl (by omega))); omega))) (by rw [em9]; exact FND.hi rfl su95 (by have h8 := b9 (by omega); omega) (by omega) ez91 ez92 (show y10.toInt = (((Int32.toNatClampNeg y10) : Nat) : Int) from by (first | exact om_dadc9969542e kc18 | omega)) (by omega)) (fun h7 => by rw [em9]; exact (by have h8 := b9 h7; rw [bsP_h su96 (by omega)]; omega)) (show z93.toInt ≤ (((gs.2.1 2).length : Nat) : Int) from by first | exact om_bcda7a344117 ln f17 hz93 | first | omega | ((try (have i_gjl := Imp.go gjl (by omega))); (try (have i_gkl := Imp.go gkl (by omega))); (try (have i_wh := Imp.go wh (by omega))); (try (have i_coc := Imp.go coc (by omega))); first | omega | ((try (have i_coc := Imp.go coc (by omega))); (try (have i_wh := Imp.go wh (by omega))); (try (have i_gkl := Imp.go gkl (by omega))); (try (have i_gjl := Imp.go gjl (by omega))); omega))) (by first | exact om_9592d9319ffa hn hz93 | first | omega | ((try (have i_gjl := Imp.go gjl (by omega))); (try (have i_gkl := Imp.go gkl (by omega))); (try (have i_wh := Imp.go wh (by omega))); (try (have i_coc := Imp.go coc (by omega))); first | omega | ((try (have i_coc := Imp.go coc (by omega))); (try (have i_wh := Imp.go wh (by omega))); (try (have i_gkl := Imp.go gkl (by omega))); (try (have i_gjl := Imp.go gjl (by omega))); omega))) hP hD hS (lv_sub hl [0, 2, 1, 5, 6, 7, 8, 9, 10, 11] rfl)
            · skip
              have f97 : z31.toInt = 0 := b_eq rfl (by decide) c35
              refine lv_goto (tgt := 165) hx hb dX0_candidates_111 (by decide) ?_
              obtain ⟨z98, ez98⟩ : ∃ y : Int32, y = y10 + 1 := ⟨_, rfl⟩
              have hz98 : z98.toInt = y10.toInt + 1 := i_add ez98 rfl (by decide) (by (first | exact om_2bedb82363d1 r1.2 r2 f17 kk9 | omega))
              refine lv_iinc (v := z98) (lv' := [(9, .int z98), (11, .int 1), (10, .ref (ad (72 + (24 * b + (Int32.toNatClampNeg y10))))), (8, .int y11), (7, .int y12), (6, .int (V 59 (8 * (24 * b + (Int32.toNatClampNeg p0)) + (Int32.toNatClampNeg p1)))), (5, .int (V 58 (8 * (24 * b + (Int32.toNatClampNeg p0)) + (Int32.toNatClampNeg p1)))), (4, .int (V 60 (8 * (24 * b + (Int32.toNatClampNeg p0)) + (Int32.toNatClampNeg p1)))), (3, .ref (ad (72 + (24 * b + (Int32.toNatClampNeg p0))))), (0, .ref (ad (38 + b))), (1, .int p0), (2, .int p1)]) hx hb dX0_candidates_165 hl (k := 2) rfl (by rw [ez98]; rfl) (by decide) rfl (fun ls hl => ?_)
              refine lv_goto (tgt := 40) hx hb dX0_candidates_168 (by decide) ?_
              have r99 : Int32.toInt 1 = 1 := by decide
              have su100 : suP gs.1 (svc V b (gs.2.1 1).length) (gs.1 (300 + 32 * gk + 4 * gj)) (gs.1 (302 + 32 * gk + 4 * gj)) (Int32.toNatClampNeg y10) = false := (suP_3 (t34.resolve_left (fun h9 => by have h8 := h9.1; omega)).2)
              have em9 : z98.toInt.toNat = (Int32.toNatClampNeg y10) + 1 := by (first | exact om_a1185fbb59ea kk9 kc18 hz98 | omega)
              have eo9 : y10.toInt.toNat = (Int32.toNatClampNeg y10) := rfl
              have b9 := xlp13_1
              rw [eo9] at b9
              have su101 : suP gs.1 (svc V b (gs.2.1 1).length) (gs.1 (300 + 32 * gk + 4 * gj)) (gs.1 (302 + 32 * gk + 4 * gj)) (Int32.toNatClampNeg y10) = false := (suP_3 (t34.resolve_left (fun h9 => by have h8 := h9.1; omega)).2)
              have em9 : z98.toInt.toNat = (Int32.toNatClampNeg y10) + 1 := by (first | exact om_26701d63f2fa em9 | omega)
              have eo9 : y10.toInt.toNat = (Int32.toNatClampNeg y10) := rfl
              have b9 := xlp13_1
              rw [eo9] at b9
              exact ihlp13 z98 y11 y12 H locs ls (by first | exact om_9500b6342cf6 r1.2 r2 f17 kk9 hz98 | first | omega | ((try (have i_gjl := Imp.go gjl (by omega))); (try (have i_gkl := Imp.go gkl (by omega))); (try (have i_wh := Imp.go wh (by omega))); (try (have i_coc := Imp.go coc (by omega))); first | omega | ((try (have i_coc := Imp.go coc (by omega))); (try (have i_wh := Imp.go wh (by omega))); (try (have i_gkl := Imp.go gkl (by omega))); (try (have i_gjl := Imp.go gjl (by omega))); omega))) (by first | exact om_c51a6401fccc klp13_1.1 klp13_1.2 | first | omega | ((try (have i_gjl := Imp.go gjl (by omega))); (try (have i_gkl := Imp.go gkl (by omega))); (try (have i_wh := Imp.go wh (by omega))); (try (have i_coc := Imp.go coc (by omega))); first | omega | ((try (have i_coc := Imp.go coc (by omega))); (try (have i_wh := Imp.go wh (by omega))); (try (have i_gkl := Imp.go gkl (by omega))); (try (have i_gjl := Imp.go gjl (by omega))); omega))) (by rw [em9]; exact FND.no (by have h9 := xlp13_0; rw [eo9] at h9; exact h9) su100) (fun h7 => by rw [em9]; exact (by have h8 := b9 h7; rw [bsP_n su101]; omega)) (show z98.toInt ≤ (((gs.2.1 2).length : Nat) : Int) from by first | exact om_bcda7a344117 ln f17 hz98 | first | omega | ((try (have i_gjl := Imp.go gjl (by omega))); (try (have i_gkl := Imp.go gkl (by omega))); (try (have i_wh := Imp.go wh (by omega))); (try (have i_coc := Imp.go coc (by omega))); first | omega | ((try (have i_coc := Imp.go coc (by omega))); (try (have i_wh := Imp.go wh (by omega))); (try (have i_gkl := Imp.go gkl (by omega))); (try (have i_gjl := Imp.go gjl (by omega))); omega))) (by first | exact om_9592d9319ffa hn hz98 | first | omega | ((try (have i_gjl := Imp.go gjl (by omega))); (try (have i_gkl := Imp.go gkl (by omega))); (try (have i_wh := Imp.go wh (by omega))); (try (have i_coc := Imp.go coc (by omega))); first | omega | ((try (have i_coc := Imp.go coc (by omega))); (try (have i_wh := Imp.go wh (by omega))); (try (have i_gkl := Imp.go gkl (by omega))); (try (have i_gjl := Imp.go gjl (by omega))); omega))) hP hD hS (lv_sub hl [0, 3, 4, 5, 6, 7, 8, 9, 10, 11] rfl)
        · skip
          have f102 : ((V 59 (8 * (24 * b + (Int32.toNatClampNeg p0)) + (Int32.toNatClampNeg p1)))).toInt ≠ (-1) := b_neq rfl (by decide) c20
          refine lv_aload hx hb dX0_candidates_67 (lv_at hl 0 rfl) ?_
          refine va_getN (D := D) (ci := 3) (v := .int (V 52 (24 * b + (Int32.toNatClampNeg y10)))) (fs := (xfComp ad V (24 * b + (Int32.toNatClampNeg y10)))) (C := RX3) (T := TX3) (N := 13) hx hb hg inX3 hown hK hP (72 + (24 * b + (Int32.toNatClampNeg y10))) (xgComp il19) rfl 7 (by decide) (hnw.use 525 n525 rfl) (fun _ h9 => h9) rfl dX0_candidates_69 ?_
          refine lv_iload hx hb dX0_candidates_72 (lv_at hl 4 rfl) ?_
          refine lv_icmp_ne (tgt := 81) hx hb dX0_candidates_74 (by decide) (fun c103 => ?_) (fun c103 => ?_)
          · skip
            have f104 : ((V 52 (24 * b + (Int32.toNatClampNeg y10)))).toInt ≠ ((V 59 (8 * (24 * b + (Int32.toNatClampNeg p0)) + (Int32.toNatClampNeg p1)))).toInt := b_neq rfl rfl c103
            refine lv_iconst (v := 0) hx hb dX0_candidates_81 (by decide) ?_
            refine lv_istore (lv' := [(11, .int 0), (10, .ref (ad (72 + (24 * b + (Int32.toNatClampNeg y10))))), (9, .int y10), (8, .int y11), (7, .int y12), (6, .int (V 59 (8 * (24 * b + (Int32.toNatClampNeg p0)) + (Int32.toNatClampNeg p1)))), (5, .int (V 58 (8 * (24 * b + (Int32.toNatClampNeg p0)) + (Int32.toNatClampNeg p1)))), (4, .int (V 60 (8 * (24 * b + (Int32.toNatClampNeg p0)) + (Int32.toNatClampNeg p1)))), (3, .ref (ad (72 + (24 * b + (Int32.toNatClampNeg p0))))), (0, .ref (ad (38 + b))), (1, .int p0), (2, .int p1)]) hx hb dX0_candidates_82 hl (by decide) rfl (fun ls hl => ?_)
            refine lv_aload hx hb dX0_candidates_84 (lv_at hl 1 rfl) ?_
            refine va_getN (D := D) (ci := 3) (v := .int (V 50 (24 * b + (Int32.toNatClampNeg y10)))) (fs := (xfComp ad V (24 * b + (Int32.toNatClampNeg y10)))) (C := RX3) (T := TX3) (N := 13) hx hb hg inX3 hown hK hP (72 + (24 * b + (Int32.toNatClampNeg y10))) (xgComp il19) rfl 5 (by decide) (hnw.use 517 n517 rfl) (fun _ h9 => h9) rfl dX0_candidates_86 ?_
            refine lv_iload hx hb dX0_candidates_89 (lv_at hl 6 rfl) ?_
            refine lv_ishr hx hb dX0_candidates_91 ?_
            refine lv_topi (fun z105 ez105 => ?_)
            refine lv_iconst (v := 1) hx hb dX0_candidates_92 (by decide) ?_
            refine lv_iand hx hb dX0_candidates_93 ?_
            refine lv_topi (fun z106 ez106 => ?_)
            have hz106 : 0 ≤ z106.toInt ∧ z106.toInt ≤ 1 := and_m ez106 (by decide)
            refine lv_if_eq (tgt := 165) hx hb dX0_candidates_94 (by decide) (fun c107 => ?_) (fun c107 => ?_)
            · skip
              have f108 : z106.toInt = 0 := b_eq rfl (by decide) c107
              obtain ⟨z109, ez109⟩ : ∃ y : Int32, y = y10 + 1 := ⟨_, rfl⟩
              have hz109 : z109.toInt = y10.toInt + 1 := i_add ez109 rfl (by decide) (by (first | exact om_2bedb82363d1 r1.2 r2 f17 kk9 | omega))
              refine lv_iinc (v := z109) (lv' := [(9, .int z109), (11, .int 0), (10, .ref (ad (72 + (24 * b + (Int32.toNatClampNeg y10))))), (8, .int y11), (7, .int y12), (6, .int (V 59 (8 * (24 * b + (Int32.toNatClampNeg p0)) + (Int32.toNatClampNeg p1)))), (5, .int (V 58 (8 * (24 * b + (Int32.toNatClampNeg p0)) + (Int32.toNatClampNeg p1)))), (4, .int (V 60 (8 * (24 * b + (Int32.toNatClampNeg p0)) + (Int32.toNatClampNeg p1)))), (3, .ref (ad (72 + (24 * b + (Int32.toNatClampNeg p0))))), (0, .ref (ad (38 + b))), (1, .int p0), (2, .int p1)]) hx hb dX0_candidates_165 hl (k := 2) rfl (by rw [ez109]; rfl) (by decide) rfl (fun ls hl => ?_)
              refine lv_goto (tgt := 40) hx hb dX0_candidates_168 (by decide) ?_
              have r110 : Int32.toInt 0 = 0 := by decide
              have su111 : suP gs.1 (svc V b (gs.2.1 1).length) (gs.1 (300 + 32 * gk + 4 * gj)) (gs.1 (302 + 32 * gk + 4 * gj)) (Int32.toNatClampNeg y10) = false := (suP_1 ((h50 (gs.1 (300 + 32 * gk + 4 * gj)) (by omega)).symm.trans ((lb_get (x := V 50 (24 * b + (Int32.toNatClampNeg y10))) (f := (gs.1 (300 + 32 * gk + 4 * gj))) ez105 ez106 (show ((V 58 (8 * (24 * b + (Int32.toNatClampNeg p0)) + (Int32.toNatClampNeg p1)))).toInt = (((gs.1 (300 + 32 * gk + 4 * gj)) : Nat) : Int) from by omega) (by omega)).mp (by omega))))
              have em9 : z109.toInt.toNat = (Int32.toNatClampNeg y10) + 1 := by (first | exact om_a1185fbb59ea kk9 kc18 hz109 | omega)
              have eo9 : y10.toInt.toNat = (Int32.toNatClampNeg y10) := rfl
              have b9 := xlp13_1
              rw [eo9] at b9
              have su112 : suP gs.1 (svc V b (gs.2.1 1).length) (gs.1 (300 + 32 * gk + 4 * gj)) (gs.1 (302 + 32 * gk + 4 * gj)) (Int32.toNatClampNeg y10) = false := (suP_1 ((h50 (gs.1 (300 + 32 * gk + 4 * gj)) (by omega)).symm.trans ((lb_get (x := V 50 (24 * b + (Int32.toNatClampNeg y10))) (f := (gs.1 (300 + 32 * gk + 4 * gj))) ez105 ez106 (show ((V 58 (8 * (24 * b + (Int32.toNatClampNeg p0)) + (Int32.toNatClampNeg p1)))).toInt = (((gs.1 (300 + 32 * gk + 4 * gj)) : Nat) : Int) from by omega) (by omega)).mp (by omega))))
              have em9 : z109.toInt.toNat = (Int32.toNatClampNeg y10) + 1 := by (first | exact om_26701d63f2fa em9 | omega)
              have eo9 : y10.toInt.toNat = (Int32.toNatClampNeg y10) := rfl
              have b9 := xlp13_1
              rw [eo9] at b9
              exact ihlp13 z109 y11 y12 H locs ls (by first | exact om_9500b6342cf6 r1.2 r2 f17 kk9 hz109 | first | omega | ((try (have i_gjl := Imp.go gjl (by omega))); (try (have i_gkl := Imp.go gkl (by omega))); (try (have i_wh := Imp.go wh (by omega))); (try (have i_coc := Imp.go coc (by omega))); first | omega | ((try (have i_coc := Imp.go coc (by omega))); (try (have i_wh := Imp.go wh (by omega))); (try (have i_gkl := Imp.go gkl (by omega))); (try (have i_gjl := Imp.go gjl (by omega))); omega))) (by first | exact om_c51a6401fccc klp13_1.1 klp13_1.2 | first | omega | ((try (have i_gjl := Imp.go gjl (by omega))); (try (have i_gkl := Imp.go gkl (by omega))); (try (have i_wh := Imp.go wh (by omega))); (try (have i_coc := Imp.go coc (by omega))); first | omega | ((try (have i_coc := Imp.go coc (by omega))); (try (have i_wh := Imp.go wh (by omega))); (try (have i_gkl := Imp.go gkl (by omega))); (try (have i_gjl := Imp.go gjl (by omega))); omega))) (by rw [em9]; exact FND.no (by have h9 := xlp13_0; rw [eo9] at h9; exact h9) su111) (fun h7 => by rw [em9]; exact (by have h8 := b9 h7; rw [bsP_n su112]; omega)) (show z109.toInt ≤ (((gs.2.1 2).length : Nat) : Int) from by first | exact om_bcda7a344117 ln f17 hz109 | first | omega | ((try (have i_gjl := Imp.go gjl (by omega))); (try (have i_gkl := Imp.go gkl (by omega))); (try (have i_wh := Imp.go wh (by omega))); (try (have i_coc := Imp.go coc (by omega))); first | omega | ((try (have i_coc := Imp.go coc (by omega))); (try (have i_wh := Imp.go wh (by omega))); (try (have i_gkl := Imp.go gkl (by omega))); (try (have i_gjl := Imp.go gjl (by omega))); omega))) (by first | exact om_9592d9319ffa hn hz109 | first | omega | ((try (have i_gjl := Imp.go gjl (by omega))); (try (have i_gkl := Imp.go gkl (by omega))); (try (have i_wh := Imp.go wh (by omega))); (try (have i_coc := Imp.go coc (by omega))); first | omega | ((try (have i_coc := Imp.go coc (by omega))); (try (have i_wh := Imp.go wh (by omega))); (try (have i_gkl := Imp.go gkl (by omega))); (try (have i_gjl := Imp.go gjl (by omega))); omega))) hP hD hS (lv_sub hl [0, 3, 4, 5, 6, 7, 8, 9, 10, 11] rfl)
            · skip
              have f113 : z106.toInt ≠ 0 := b_neq rfl (by decide) c107
              refine lv_iload hx hb dX0_candidates_97 (lv_at hl 0 rfl) ?_
              refine lv_if_eq (tgt := 165) hx hb dX0_candidates_99 (by decide) (fun _ => ?_) (fun q => absurd (by decide) q)
              obtain ⟨z114, ez114⟩ : ∃ y : Int32, y = y10 + 1 := ⟨_, rfl⟩
              have hz114 : z114.toInt = y10.toInt + 1 := i_add ez114 rfl (by decide) (by (first | exact om_2bedb82363d1 r1.2 r2 f17 kk9 | omega))
              refine lv_iinc (v := z114) (lv' := [(9, .int z114), (11, .int 0), (10, .ref (ad (72 + (24 * b + (Int32.toNatClampNeg y10))))), (8, .int y11), (7, .int y12), (6, .int (V 59 (8 * (24 * b + (Int32.toNatClampNeg p0)) + (Int32.toNatClampNeg p1)))), (5, .int (V 58 (8 * (24 * b + (Int32.toNatClampNeg p0)) + (Int32.toNatClampNeg p1)))), (4, .int (V 60 (8 * (24 * b + (Int32.toNatClampNeg p0)) + (Int32.toNatClampNeg p1)))), (3, .ref (ad (72 + (24 * b + (Int32.toNatClampNeg p0))))), (0, .ref (ad (38 + b))), (1, .int p0), (2, .int p1)]) hx hb dX0_candidates_165 hl (k := 2) rfl (by rw [ez114]; rfl) (by decide) rfl (fun ls hl => ?_)
              refine lv_goto (tgt := 40) hx hb dX0_candidates_168 (by decide) ?_
              have r115 : Int32.toInt 0 = 0 := by decide
              have su116 : suP gs.1 (svc V b (gs.2.1 1).length) (gs.1 (300 + 32 * gk + 4 * gj)) (gs.1 (302 + 32 * gk + 4 * gj)) (Int32.toNatClampNeg y10) = false := (suP_2 (by omega) (by omega))
              have em9 : z114.toInt.toNat = (Int32.toNatClampNeg y10) + 1 := by (first | exact om_a1185fbb59ea kk9 kc18 hz114 | omega)
              have eo9 : y10.toInt.toNat = (Int32.toNatClampNeg y10) := rfl
              have b9 := xlp13_1
              rw [eo9] at b9
              have su117 : suP gs.1 (svc V b (gs.2.1 1).length) (gs.1 (300 + 32 * gk + 4 * gj)) (gs.1 (302 + 32 * gk + 4 * gj)) (Int32.toNatClampNeg y10) = false := (suP_2 (by omega) (by omega))
              have em9 : z114.toInt.toNat = (Int32.toNatClampNeg y10) + 1 := by (first | exact om_26701d63f2fa em9 | omega)
              have eo9 : y10.toInt.toNat = (Int32.toNatClampNeg y10) := rfl
              have b9 := xlp13_1
              rw [eo9] at b9
              exact ihlp13 z114 y11 y12 H locs ls (by first | exact om_9500b6342cf6 r1.2 r2 f17 kk9 hz114 | first | omega | ((try (have i_gjl := Imp.go gjl (by omega))); (try (have i_gkl := Imp.go gkl (by omega))); (try (have i_wh := Imp.go wh (by omega))); (try (have i_coc := Imp.go coc (by omega))); first | omega | ((try (have i_coc := Imp.go coc (by omega))); (try (have i_wh := Imp.go wh (by omega))); (try (have i_gkl := Imp.go gkl (by omega))); (try (have i_gjl := Imp.go gjl (by omega))); omega))) (by first | exact om_c51a6401fccc klp13_1.1 klp13_1.2 | first | omega | ((try (have i_gjl := Imp.go gjl (by omega))); (try (have i_gkl := Imp.go gkl (by omega))); (try (have i_wh := Imp.go wh (by omega))); (try (have i_coc := Imp.go coc (by omega))); first | omega | ((try (have i_coc := Imp.go coc (by omega))); (try (have i_wh := Imp.go wh (by omega))); (try (have i_gkl := Imp.go gkl (by omega))); (try (have i_gjl := Imp.go gjl (by omega))); omega))) (by rw [em9]; exact FND.no (by have h9 := xlp13_0; rw [eo9] at h9; exact h9) su116) (fun h7 => by rw [em9]; exact (by have h8 := b9 h7; rw [bsP_n su117]; omega)) (show z114.toInt ≤ (((gs.2.1 2).length : Nat) : Int) from by first | exact om_bcda7a344117 ln f17 hz114 | first | omega | ((try (have i_gjl := Imp.go gjl (by omega))); (try (have i_gkl := Imp.go gkl (by omega))); (try (have i_wh := Imp.go wh (by omega))); (try (have i_coc := Imp.go coc (by omega))); first | omega | ((try (have i_coc := Imp.go coc (by omega))); (try (have i_wh := Imp.go wh (by omega))); (try (have i_gkl := Imp.go gkl (by omega))); (try (have i_gjl := Imp.go gjl (by omega))); omega))) (by first | exact om_9592d9319ffa hn hz114 | first | omega | ((try (have i_gjl := Imp.go gjl (by omega))); (try (have i_gkl := Imp.go gkl (by omega))); (try (have i_wh := Imp.go wh (by omega))); (try (have i_coc := Imp.go coc (by omega))); first | omega | ((try (have i_coc := Imp.go coc (by omega))); (try (have i_wh := Imp.go wh (by omega))); (try (have i_gkl := Imp.go gkl (by omega))); (try (have i_gjl := Imp.go gjl (by omega))); omega))) hP hD hS (lv_sub hl [0, 3, 4, 5, 6, 7, 8, 9, 10, 11] rfl)
          · skip
            have f118 : ((V 52 (24 * b + (Int32.toNatClampNeg y10)))).toInt = ((V 59 (8 * (24 * b + (Int32.toNatClampNeg p0)) + (Int32.toNatClampNeg p1)))).toInt := b_eq rfl rfl c103
            refine lv_iconst (v := 1) hx hb dX0_candidates_77 (by decide) ?_
            refine lv_goto (tgt := 82) hx hb dX0_candidates_78 (by decide) ?_
            refine lv_istore (lv' := [(11, .int 1), (10, .ref (ad (72 + (24 * b + (Int32.toNatClampNeg y10))))), (9, .int y10), (8, .int y11), (7, .int y12), (6, .int (V 59 (8 * (24 * b + (Int32.toNatClampNeg p0)) + (Int32.toNatClampNeg p1)))), (5, .int (V 58 (8 * (24 * b + (Int32.toNatClampNeg p0)) + (Int32.toNatClampNeg p1)))), (4, .int (V 60 (8 * (24 * b + (Int32.toNatClampNeg p0)) + (Int32.toNatClampNeg p1)))), (3, .ref (ad (72 + (24 * b + (Int32.toNatClampNeg p0))))), (0, .ref (ad (38 + b))), (1, .int p0), (2, .int p1)]) hx hb dX0_candidates_82 hl (by decide) rfl (fun ls hl => ?_)
            refine lv_aload hx hb dX0_candidates_84 (lv_at hl 1 rfl) ?_
            refine va_getN (D := D) (ci := 3) (v := .int (V 50 (24 * b + (Int32.toNatClampNeg y10)))) (fs := (xfComp ad V (24 * b + (Int32.toNatClampNeg y10)))) (C := RX3) (T := TX3) (N := 13) hx hb hg inX3 hown hK hP (72 + (24 * b + (Int32.toNatClampNeg y10))) (xgComp il19) rfl 5 (by decide) (hnw.use 517 n517 rfl) (fun _ h9 => h9) rfl dX0_candidates_86 ?_
            refine lv_iload hx hb dX0_candidates_89 (lv_at hl 6 rfl) ?_
            refine lv_ishr hx hb dX0_candidates_91 ?_
            refine lv_topi (fun z119 ez119 => ?_)
            refine lv_iconst (v := 1) hx hb dX0_candidates_92 (by decide) ?_
            refine lv_iand hx hb dX0_candidates_93 ?_
            refine lv_topi (fun z120 ez120 => ?_)
            have hz120 : 0 ≤ z120.toInt ∧ z120.toInt ≤ 1 := and_m ez120 (by decide)
            refine lv_if_eq (tgt := 165) hx hb dX0_candidates_94 (by decide) (fun c121 => ?_) (fun c121 => ?_)
            · skip
              have f122 : z120.toInt = 0 := b_eq rfl (by decide) c121
              obtain ⟨z123, ez123⟩ : ∃ y : Int32, y = y10 + 1 := ⟨_, rfl⟩
              have hz123 : z123.toInt = y10.toInt + 1 := i_add ez123 rfl (by decide) (by (first | exact om_2bedb82363d1 r1.2 r2 f17 kk9 | omega))
              refine lv_iinc (v := z123) (lv' := [(9, .int z123), (11, .int 1), (10, .ref (ad (72 + (24 * b + (Int32.toNatClampNeg y10))))), (8, .int y11), (7, .int y12), (6, .int (V 59 (8 * (24 * b + (Int32.toNatClampNeg p0)) + (Int32.toNatClampNeg p1)))), (5, .int (V 58 (8 * (24 * b + (Int32.toNatClampNeg p0)) + (Int32.toNatClampNeg p1)))), (4, .int (V 60 (8 * (24 * b + (Int32.toNatClampNeg p0)) + (Int32.toNatClampNeg p1)))), (3, .ref (ad (72 + (24 * b + (Int32.toNatClampNeg p0))))), (0, .ref (ad (38 + b))), (1, .int p0), (2, .int p1)]) hx hb dX0_candidates_165 hl (k := 2) rfl (by rw [ez123]; rfl) (by decide) rfl (fun ls hl => ?_)
              refine lv_goto (tgt := 40) hx hb dX0_candidates_168 (by decide) ?_
              have r124 : Int32.toInt 1 = 1 := by decide
              have su125 : suP gs.1 (svc V b (gs.2.1 1).length) (gs.1 (300 + 32 * gk + 4 * gj)) (gs.1 (302 + 32 * gk + 4 * gj)) (Int32.toNatClampNeg y10) = false := (suP_1 ((h50 (gs.1 (300 + 32 * gk + 4 * gj)) (by omega)).symm.trans ((lb_get (x := V 50 (24 * b + (Int32.toNatClampNeg y10))) (f := (gs.1 (300 + 32 * gk + 4 * gj))) ez119 ez120 (show ((V 58 (8 * (24 * b + (Int32.toNatClampNeg p0)) + (Int32.toNatClampNeg p1)))).toInt = (((gs.1 (300 + 32 * gk + 4 * gj)) : Nat) : Int) from by omega) (by omega)).mp (by omega))))
              have em9 : z123.toInt.toNat = (Int32.toNatClampNeg y10) + 1 := by (first | exact om_a1185fbb59ea kk9 kc18 hz123 | omega)
              have eo9 : y10.toInt.toNat = (Int32.toNatClampNeg y10) := rfl
              have b9 := xlp13_1
              rw [eo9] at b9
              have su126 : suP gs.1 (svc V b (gs.2.1 1).length) (gs.1 (300 + 32 * gk + 4 * gj)) (gs.1 (302 + 32 * gk + 4 * gj)) (Int32.toNatClampNeg y10) = false := (suP_1 ((h50 (gs.1 (300 + 32 * gk + 4 * gj)) (by omega)).symm.trans ((lb_get (x := V 50 (24 * b + (Int32.toNatClampNeg y10))) (f := (gs.1 (300 + 32 * gk + 4 * gj))) ez119 ez120 (show ((V 58 (8 * (24 * b + (Int32.toNatClampNeg p0)) + (Int32.toNatClampNeg p1)))).toInt = (((gs.1 (300 + 32 * gk + 4 * gj)) : Nat) : Int) from by omega) (by omega)).mp (by omega))))
              have em9 : z123.toInt.toNat = (Int32.toNatClampNeg y10) + 1 := by (first | exact om_26701d63f2fa em9 | omega)
              have eo9 : y10.toInt.toNat = (Int32.toNatClampNeg y10) := rfl
              have b9 := xlp13_1
              rw [eo9] at b9
              exact ihlp13 z123 y11 y12 H locs ls (by first | exact om_9500b6342cf6 r1.2 r2 f17 kk9 hz123 | first | omega | ((try (have i_gjl := Imp.go gjl (by omega))); (try (have i_gkl := Imp.go gkl (by omega))); (try (have i_wh := Imp.go wh (by omega))); (try (have i_coc := Imp.go coc (by omega))); first | omega | ((try (have i_coc := Imp.go coc (by omega))); (try (have i_wh := Imp.go wh (by omega))); (try (have i_gkl := Imp.go gkl (by omega))); (try (have i_gjl := Imp.go gjl (by omega))); omega))) (by first | exact om_c51a6401fccc klp13_1.1 klp13_1.2 | first | omega | ((try (have i_gjl := Imp.go gjl (by omega))); (try (have i_gkl := Imp.go gkl (by omega))); (try (have i_wh := Imp.go wh (by omega))); (try (have i_coc := Imp.go coc (by omega))); first | omega | ((try (have i_coc := Imp.go coc (by omega))); (try (have i_wh := Imp.go wh (by omega))); (try (have i_gkl := Imp.go gkl (by omega))); (try (have i_gjl := Imp.go gjl (by omega))); omega))) (by rw [em9]; exact FND.no (by have h9 := xlp13_0; rw [eo9] at h9; exact h9) su125) (fun h7 => by rw [em9]; exact (by have h8 := b9 h7; rw [bsP_n su126]; omega)) (show z123.toInt ≤ (((gs.2.1 2).length : Nat) : Int) from by first | exact om_bcda7a344117 ln f17 hz123 | first | omega | ((try (have i_gjl := Imp.go gjl (by omega))); (try (have i_gkl := Imp.go gkl (by omega))); (try (have i_wh := Imp.go wh (by omega))); (try (have i_coc := Imp.go coc (by omega))); first | omega | ((try (have i_coc := Imp.go coc (by omega))); (try (have i_wh := Imp.go wh (by omega))); (try (have i_gkl := Imp.go gkl (by omega))); (try (have i_gjl := Imp.go gjl (by omega))); omega))) (by first | exact om_9592d9319ffa hn hz123 | first | omega | ((try (have i_gjl := Imp.go gjl (by omega))); (try (have i_gkl := Imp.go gkl (by omega))); (try (have i_wh := Imp.go wh (by omega))); (try (have i_coc := Imp.go coc (by omega))); first | omega | ((try (have i_coc := Imp.go coc (by omega))); (try (have i_wh := Imp.go wh (by omega))); (try (have i_gkl := Imp.go gkl (by omega))); (try (have i_gjl := Imp.go gjl (by omega))); omega))) hP hD hS (lv_sub hl [0, 3, 4, 5, 6, 7, 8, 9, 10, 11] rfl)
            · skip
              have f127 : z120.toInt ≠ 0 := b_neq rfl (by decide) c121
              refine lv_iload hx hb dX0_candidates_97 (lv_at hl 0 rfl) ?_
              refine lv_if_eq (tgt := 165) hx hb dX0_candidates_99 (by decide) (fun q => absurd q (by decide)) (fun _ => ?_)
              have wk9 := wh (Int32.toNatClampNeg y10) (by omega)
              refine lv_aload_n hx hb dX0_candidates_102 rfl (lv_at hl 9 rfl) ?_
              refine lv_iload hx hb dX0_candidates_103 (lv_at hl 2 rfl) ?_
              refine gA_int (gA_runV (As := [.int y10]) (rest := []) (ci := 0) (q0 := (38 + b)) hx hb hml hown hg hP hD hK hS hA hnw hgk (x_isThere5 l D ks H.size ad kk V L Z y10 (b) (gs) ((Int32.toNatClampNeg y10)) hMV (by first | exact om_c40dd4f8ab88 r1.2 r2 f17 kk9 | first | omega | ((try (have i_gjl := Imp.go gjl (by omega))); (try (have i_gkl := Imp.go gkl (by omega))); (try (have i_wh := Imp.go wh (by omega))); (try (have i_coc := Imp.go coc (by omega))); first | omega | ((try (have i_coc := Imp.go coc (by omega))); (try (have i_wh := Imp.go wh (by omega))); (try (have i_gkl := Imp.go gkl (by omega))); (try (have i_gjl := Imp.go gjl (by omega))); omega))) (show b < 2 from by first | exact om_f940a4667dd6 hb2 | first | omega | ((try (have i_gjl := Imp.go gjl (by omega))); (try (have i_gkl := Imp.go gkl (by omega))); (try (have i_wh := Imp.go wh (by omega))); (try (have i_coc := Imp.go coc (by omega))); first | omega | ((try (have i_coc := Imp.go coc (by omega))); (try (have i_wh := Imp.go wh (by omega))); (try (have i_gkl := Imp.go gkl (by omega))); (try (have i_gjl := Imp.go gjl (by omega))); omega))) (show y10.toInt = ((Int32.toNatClampNeg y10) : Int) from by first | exact om_dadc9969542e kc18 | first | omega | ((try (have i_gjl := Imp.go gjl (by omega))); (try (have i_gkl := Imp.go gkl (by omega))); (try (have i_wh := Imp.go wh (by omega))); (try (have i_coc := Imp.go coc (by omega))); first | omega | ((try (have i_coc := Imp.go coc (by omega))); (try (have i_wh := Imp.go wh (by omega))); (try (have i_gkl := Imp.go gkl (by omega))); (try (have i_gjl := Imp.go gjl (by omega))); omega))) (coc (Int32.toNatClampNeg y10) (by omega)) (show gs.1 (64 + 8 * (Int32.toNatClampNeg y10)) ≤ (gs.2.1 1).length from by first | omega | ((try (have i_gjl := Imp.go gjl (by omega))); (try (have i_gkl := Imp.go gkl (by omega))); (try (have i_wh := Imp.go wh (by omega))); (try (have i_coc := Imp.go coc (by omega))); first | omega | ((try (have i_coc := Imp.go coc (by omega))); (try (have i_wh := Imp.go wh (by omega))); (try (have i_gkl := Imp.go gkl (by omega))); (try (have i_gjl := Imp.go gjl (by omega))); omega)))) w1085 w1070 w1071 w167 w1072 rfl (xgBook hb2) hdV_yX0_isThere ⟨Nat.le_of_ble_eq_true rfl, Nat.le_of_ble_eq_true rfl⟩ rfl hl.1 rfl (Nat.le_of_ble_eq_true rfl) dX0_candidates_105 ⟨Nat.le_of_ble_eq_true rfl, Nat.le_of_ble_eq_true rfl⟩) hP hD hK hS hA (fun z128 u129 H locs w130 hP hD hK hS => ?_)
              obtain ⟨rgz128, t131⟩ := w130
              replace rgz128 : 0 ≤ z128.toInt ∧ z128.toInt ≤ 1 := rgz128
              replace t131 : (z128.toInt = 1 ∧ thP gs.1 (svc V b (gs.2.1 1).length) (Int32.toNatClampNeg y10) = true) ∨ (z128.toInt = 0 ∧ thP gs.1 (svc V b (gs.2.1 1).length) (Int32.toNatClampNeg y10) = false) := t131
              refine lv_if_ne (tgt := 114) hx hb dX0_candidates_108 (by decide) (fun c132 => ?_) (fun c132 => ?_)
              · skip
                have f133 : z128.toInt ≠ 0 := b_neq rfl (by decide) c132
                refine lv_iload hx hb dX0_candidates_114 (lv_at hl 7 rfl) ?_
                refine lv_iconst (v := 2) hx hb dX0_candidates_116 (by decide) ?_
                refine lv_icmp_eq (tgt := 140) hx hb dX0_candidates_117 (by decide) (fun c134 => ?_) (fun c134 => ?_)
                · skip
                  have f135 : ((V 60 (8 * (24 * b + (Int32.toNatClampNeg p0)) + (Int32.toNatClampNeg p1)))).toInt = 2 := b_eq rfl (by decide) c134
                  refine lv_iload hx hb dX0_candidates_140 (lv_at hl 7 rfl) ?_
                  refine lv_iconst (v := 2) hx hb dX0_candidates_142 (by decide) ?_
                  refine lv_icmp_eq (tgt := 156) hx hb dX0_candidates_143 (by decide) (fun c136 => ?_) (fun c136 => ?_)
                  · skip
                    have f137 : ((V 60 (8 * (24 * b + (Int32.toNatClampNeg p0)) + (Int32.toNatClampNeg p1)))).toInt = 2 := b_eq rfl (by decide) c136
                    refine lv_iload hx hb dX0_candidates_156 (lv_at hl 4 rfl) ?_
                    refine lv_iconst (v := 1) hx hb dX0_candidates_158 (by decide) ?_
                    refine lv_iload hx hb dX0_candidates_159 (lv_at hl 2 rfl) ?_
                    refine lv_ishl hx hb dX0_candidates_161 ?_
                    refine lv_topi (fun z138 ez138 => ?_)
                    have hz138 : 0 ≤ z138.toInt ∧ z138.toInt < 16777216 := shl1 ez138 (by first | omega | ((try (have i_gjl := Imp.go gjl (by omega))); (try (have i_gkl := Imp.go gkl (by omega))); (try (have i_wh := Imp.go wh (by omega))); (try (have i_coc := Imp.go coc (by omega))); first | omega | ((try (have i_coc := Imp.go coc (by omega))); (try (have i_wh := Imp.go wh (by omega))); (try (have i_gkl := Imp.go gkl (by omega))); (try (have i_gjl := Imp.go gjl (by omega))); omega)))
                    refine lv_ior hx hb dX0_candidates_162 ?_
                    refine lv_topi (fun z139 ez139 => ?_)
                    have hz139 : 0 ≤ z139.toInt ∧ z139.toInt < 16777216 := or24 ez139 (by first | omega | ((try (have i_gjl := Imp.go gjl (by omega))); (try (have i_gkl := Imp.go gkl (by omega))); (try (have i_wh := Imp.go wh (by omega))); (try (have i_coc := Imp.go coc (by omega))); first | omega | ((try (have i_coc := Imp.go coc (by omega))); (try (have i_wh := Imp.go wh (by omega))); (try (have i_gkl := Imp.go gkl (by omega))); (try (have i_gjl := Imp.go gjl (by omega))); omega))) (by first | omega | ((try (have i_gjl := Imp.go gjl (by omega))); (try (have i_gkl := Imp.go gkl (by omega))); (try (have i_wh := Imp.go wh (by omega))); (try (have i_coc := Imp.go coc (by omega))); first | omega | ((try (have i_coc := Imp.go coc (by omega))); (try (have i_wh := Imp.go wh (by omega))); (try (have i_gkl := Imp.go gkl (by omega))); (try (have i_gjl := Imp.go gjl (by omega))); omega)))
                    refine lv_istore (lv' := [(7, .int z139), (11, .int 1), (10, .ref (ad (72 + (24 * b + (Int32.toNatClampNeg y10))))), (9, .int y10), (8, .int y11), (6, .int (V 59 (8 * (24 * b + (Int32.toNatClampNeg p0)) + (Int32.toNatClampNeg p1)))), (5, .int (V 58 (8 * (24 * b + (Int32.toNatClampNeg p0)) + (Int32.toNatClampNeg p1)))), (4, .int (V 60 (8 * (24 * b + (Int32.toNatClampNeg p0)) + (Int32.toNatClampNeg p1)))), (3, .ref (ad (72 + (24 * b + (Int32.toNatClampNeg p0))))), (0, .ref (ad (38 + b))), (1, .int p0), (2, .int p1)]) hx hb dX0_candidates_163 hl (by decide) rfl (fun ls hl => ?_)
                    obtain ⟨z140, ez140⟩ : ∃ y : Int32, y = y10 + 1 := ⟨_, rfl⟩
                    have hz140 : z140.toInt = y10.toInt + 1 := i_add ez140 rfl (by decide) (by (first | exact om_2bedb82363d1 r1.2 r2 f17 kk9 | omega))
                    refine lv_iinc (v := z140) (lv' := [(9, .int z140), (7, .int z139), (11, .int 1), (10, .ref (ad (72 + (24 * b + (Int32.toNatClampNeg y10))))), (8, .int y11), (6, .int (V 59 (8 * (24 * b + (Int32.toNatClampNeg p0)) + (Int32.toNatClampNeg p1)))), (5, .int (V 58 (8 * (24 * b + (Int32.toNatClampNeg p0)) + (Int32.toNatClampNeg p1)))), (4, .int (V 60 (8 * (24 * b + (Int32.toNatClampNeg p0)) + (Int32.toNatClampNeg p1)))), (3, .ref (ad (72 + (24 * b + (Int32.toNatClampNeg p0))))), (0, .ref (ad (38 + b))), (1, .int p0), (2, .int p1)]) hx hb dX0_candidates_165 hl (k := 3) rfl (by rw [ez140]; rfl) (by decide) rfl (fun ls hl => ?_)
                    refine lv_goto (tgt := 40) hx hb dX0_candidates_168 (by decide) ?_
                    have r141 : Int32.toInt 1 = 1 := by decide
                    have su142 : suP gs.1 (svc V b (gs.2.1 1).length) (gs.1 (300 + 32 * gk + 4 * gj)) (gs.1 (302 + 32 * gk + 4 * gj)) (Int32.toNatClampNeg y10) = true := (suP_y ((h50 (gs.1 (300 + 32 * gk + 4 * gj)) (by omega)).symm.trans (by cases e9 : bt (V 50 (24 * b + (Int32.toNatClampNeg y10))) (gs.1 (300 + 32 * gk + 4 * gj)); exact absurd ((lb_get (x := V 50 (24 * b + (Int32.toNatClampNeg y10))) (f := (gs.1 (300 + 32 * gk + 4 * gj))) ez119 ez120 (show ((V 58 (8 * (24 * b + (Int32.toNatClampNeg p0)) + (Int32.toNatClampNeg p1)))).toInt = (((gs.1 (300 + 32 * gk + 4 * gj)) : Nat) : Int) from by omega) (by omega)).mpr e9) (by omega); rfl)) (by omega) (t131.resolve_right (fun h9 => by have h8 := h9.1; omega)).2)
                    have em9 : z140.toInt.toNat = (Int32.toNatClampNeg y10) + 1 := by (first | exact om_a1185fbb59ea kk9 kc18 hz140 | omega)
                    have eo9 : y10.toInt.toNat = (Int32.toNatClampNeg y10) := rfl
                    have b9 := xlp13_1
                    rw [eo9] at b9
                    have su143 : suP gs.1 (svc V b (gs.2.1 1).length) (gs.1 (300 + 32 * gk + 4 * gj)) (gs.1 (302 + 32 * gk + 4 * gj)) (Int32.toNatClampNeg y10) = true := (suP_y ((h50 (gs.1 (300 + 32 * gk + 4 * gj)) (by omega)).symm.trans (by cases e9 : bt (V 50 (24 * b + (Int32.toNatClampNeg y10))) (gs.1 (300 + 32 * gk + 4 * gj)); exact absurd ((lb_get (x := V 50 (24 * b + (Int32.toNatClampNeg y10))) (f := (gs.1 (300 + 32 * gk + 4 * gj))) ez119 ez120 (show ((V 58 (8 * (24 * b + (Int32.toNatClampNeg p0)) + (Int32.toNatClampNeg p1)))).toInt = (((gs.1 (300 + 32 * gk + 4 * gj)) : Nat) : Int) from by omega) (by omega)).mpr e9) (by omega); rfl)) (by omega) (t131.resolve_right (fun h9 => by have h8 := h9.1; omega)).2)
                    have em9 : z140.toInt.toNat = (Int32.toNatClampNeg y10) + 1 := by (first | exact om_26701d63f2fa em9 | omega)
                    have eo9 : y10.toInt.toNat = (Int32.toNatClampNeg y10) := rfl
                    have b9 := xlp13_1
                    rw [eo9] at b9
                    exact ihlp13 z140 y11 z139 H locs ls (by first | exact om_9500b6342cf6 r1.2 r2 f17 kk9 hz140 | first | omega | ((try (have i_gjl := Imp.go gjl (by omega))); (try (have i_gkl := Imp.go gkl (by omega))); (try (have i_wh := Imp.go wh (by omega))); (try (have i_coc := Imp.go coc (by omega))); first | omega | ((try (have i_coc := Imp.go coc (by omega))); (try (have i_wh := Imp.go wh (by omega))); (try (have i_gkl := Imp.go gkl (by omega))); (try (have i_gjl := Imp.go gjl (by omega))); omega))) (by first | exact om_8a0dcf576dcd hz139.1 hz139.2 | first | omega | ((try (have i_gjl := Imp.go gjl (by omega))); (try (have i_gkl := Imp.go gkl (by omega))); (try (have i_wh := Imp.go wh (by omega))); (try (have i_coc := Imp.go coc (by omega))); first | omega | ((try (have i_coc := Imp.go coc (by omega))); (try (have i_wh := Imp.go wh (by omega))); (try (have i_gkl := Imp.go gkl (by omega))); (try (have i_gjl := Imp.go gjl (by omega))); omega))) (by rw [em9]; exact FND.eq (by have h9 := xlp13_0; rw [eo9] at h9; exact h9) su142 (Or.inl ⟨by omega, trivial⟩) ez138 ez139 (show y10.toInt = (((Int32.toNatClampNeg y10) : Nat) : Int) from by (first | exact om_dadc9969542e kc18 | omega)) (by omega)) (fun h7 => by rw [em9]; exact (by exfalso; omega)) (show z140.toInt ≤ (((gs.2.1 2).length : Nat) : Int) from by first | exact om_bcda7a344117 ln f17 hz140 | first | omega | ((try (have i_gjl := Imp.go gjl (by omega))); (try (have i_gkl := Imp.go gkl (by omega))); (try (have i_wh := Imp.go wh (by omega))); (try (have i_coc := Imp.go coc (by omega))); first | omega | ((try (have i_coc := Imp.go coc (by omega))); (try (have i_wh := Imp.go wh (by omega))); (try (have i_gkl := Imp.go gkl (by omega))); (try (have i_gjl := Imp.go gjl (by omega))); omega))) (by first | exact om_9592d9319ffa hn hz140 | first | omega | ((try (have i_gjl := Imp.go gjl (by omega))); (try (have i_gkl := Imp.go gkl (by omega))); (try (have i_wh := Imp.go wh (by omega))); (try (have i_coc := Imp.go coc (by omega))); first | omega | ((try (have i_coc := Imp.go coc (by omega))); (try (have i_wh := Imp.go wh (by omega))); (try (have i_gkl := Imp.go gkl (by omega))); (try (have i_gjl := Imp.go gjl (by omega))); omega))) hP hD hS (lv_sub hl [0, 4, 1, 5, 6, 7, 8, 9, 10, 11] rfl)
                  · skip
                    have f144 : ((V 60 (8 * (24 * b + (Int32.toNatClampNeg p0)) + (Int32.toNatClampNeg p1)))).toInt ≠ 2 := b_neq rfl (by decide) c136
                    exfalso; first | exact om_da4eef675bfb f135 f144 | first | omega | ((try (have i_gjl := Imp.go gjl (by omega))); (try (have i_gkl := Imp.go gkl (by omega))); (try (have i_wh := Imp.go wh (by omega))); (try (have i_coc := Imp.go coc (by omega))); first | omega | ((try (have i_coc := Imp.go coc (by omega))); (try (have i_wh := Imp.go wh (by omega))); (try (have i_gkl := Imp.go gkl (by omega))); (try (have i_gjl := Imp.go gjl (by omega))); omega))
                · skip
                  have f145 : ((V 60 (8 * (24 * b + (Int32.toNatClampNeg p0)) + (Int32.toNatClampNeg p1)))).toInt ≠ 2 := b_neq rfl (by decide) c134
                  refine lv_aload hx hb dX0_candidates_120 (lv_at hl 1 rfl) ?_
                  refine va_getN (D := D) (ci := 3) (v := .int (V 53 (24 * b + (Int32.toNatClampNeg y10)))) (fs := (xfComp ad V (24 * b + (Int32.toNatClampNeg y10)))) (C := RX3) (T := TX3) (N := 13) hx hb hg inX3 hown hK hP (72 + (24 * b + (Int32.toNatClampNeg y10))) (xgComp il19) rfl 8 (by decide) (hnw.use 529 n529 rfl) (fun _ h9 => h9) rfl dX0_candidates_122 ?_
                  refine lv_iload hx hb dX0_candidates_125 (lv_at hl 3 rfl) ?_
                  refine lv_icmp_le (tgt := 140) hx hb dX0_candidates_127 (by decide) (fun c146 => ?_) (fun c146 => ?_)
                  · skip
                    have f147 : ((V 53 (24 * b + (Int32.toNatClampNeg y10)))).toInt ≤ y11.toInt := b_le rfl rfl c146
                    refine lv_iload hx hb dX0_candidates_140 (lv_at hl 7 rfl) ?_
                    refine lv_iconst (v := 2) hx hb dX0_candidates_142 (by decide) ?_
                    refine lv_icmp_eq (tgt := 156) hx hb dX0_candidates_143 (by decide) (fun c148 => ?_) (fun c148 => ?_)
                    · skip
                      have f149 : ((V 60 (8 * (24 * b + (Int32.toNatClampNeg p0)) + (Int32.toNatClampNeg p1)))).toInt = 2 := b_eq rfl (by decide) c148
                      refine lv_iload hx hb dX0_candidates_156 (lv_at hl 4 rfl) ?_
                      refine lv_iconst (v := 1) hx hb dX0_candidates_158 (by decide) ?_
                      refine lv_iload hx hb dX0_candidates_159 (lv_at hl 2 rfl) ?_
                      refine lv_ishl hx hb dX0_candidates_161 ?_
                      refine lv_topi (fun z150 ez150 => ?_)
                      have hz150 : 0 ≤ z150.toInt ∧ z150.toInt < 16777216 := shl1 ez150 (by first | omega | ((try (have i_gjl := Imp.go gjl (by omega))); (try (have i_gkl := Imp.go gkl (by omega))); (try (have i_wh := Imp.go wh (by omega))); (try (have i_coc := Imp.go coc (by omega))); first | omega | ((try (have i_coc := Imp.go coc (by omega))); (try (have i_wh := Imp.go wh (by omega))); (try (have i_gkl := Imp.go gkl (by omega))); (try (have i_gjl := Imp.go gjl (by omega))); omega)))
                      refine lv_ior hx hb dX0_candidates_162 ?_
                      refine lv_topi (fun z151 ez151 => ?_)
                      have hz151 : 0 ≤ z151.toInt ∧ z151.toInt < 16777216 := or24 ez151 (by first | omega | ((try (have i_gjl := Imp.go gjl (by omega))); (try (have i_gkl := Imp.go gkl (by omega))); (try (have i_wh := Imp.go wh (by omega))); (try (have i_coc := Imp.go coc (by omega))); first | omega | ((try (have i_coc := Imp.go coc (by omega))); (try (have i_wh := Imp.go wh (by omega))); (try (have i_gkl := Imp.go gkl (by omega))); (try (have i_gjl := Imp.go gjl (by omega))); omega))) (by first | omega | ((try (have i_gjl := Imp.go gjl (by omega))); (try (have i_gkl := Imp.go gkl (by omega))); (try (have i_wh := Imp.go wh (by omega))); (try (have i_coc := Imp.go coc (by omega))); first | omega | ((try (have i_coc := Imp.go coc (by omega))); (try (have i_wh := Imp.go wh (by omega))); (try (have i_gkl := Imp.go gkl (by omega))); (try (have i_gjl := Imp.go gjl (by omega))); omega)))
                      refine lv_istore (lv' := [(7, .int z151), (11, .int 1), (10, .ref (ad (72 + (24 * b + (Int32.toNatClampNeg y10))))), (9, .int y10), (8, .int y11), (6, .int (V 59 (8 * (24 * b + (Int32.toNatClampNeg p0)) + (Int32.toNatClampNeg p1)))), (5, .int (V 58 (8 * (24 * b + (Int32.toNatClampNeg p0)) + (Int32.toNatClampNeg p1)))), (4, .int (V 60 (8 * (24 * b + (Int32.toNatClampNeg p0)) + (Int32.toNatClampNeg p1)))), (3, .ref (ad (72 + (24 * b + (Int32.toNatClampNeg p0))))), (0, .ref (ad (38 + b))), (1, .int p0), (2, .int p1)]) hx hb dX0_candidates_163 hl (by decide) rfl (fun ls hl => ?_)
                      obtain ⟨z152, ez152⟩ : ∃ y : Int32, y = y10 + 1 := ⟨_, rfl⟩
                      have hz152 : z152.toInt = y10.toInt + 1 := i_add ez152 rfl (by decide) (by omega)
                      refine lv_iinc (v := z152) (lv' := [(9, .int z152), (7, .int z151), (11, .int 1), (10, .ref (ad (72 + (24 * b + (Int32.toNatClampNeg y10))))), (8, .int y11), (6, .int (V 59 (8 * (24 * b + (Int32.toNatClampNeg p0)) + (Int32.toNatClampNeg p1)))), (5, .int (V 58 (8 * (24 * b + (Int32.toNatClampNeg p0)) + (Int32.toNatClampNeg p1)))), (4, .int (V 60 (8 * (24 * b + (Int32.toNatClampNeg p0)) + (Int32.toNatClampNeg p1)))), (3, .ref (ad (72 + (24 * b + (Int32.toNatClampNeg p0))))), (0, .ref (ad (38 + b))), (1, .int p0), (2, .int p1)]) hx hb dX0_candidates_165 hl (k := 3) rfl (by rw [ez152]; rfl) (by decide) rfl (fun ls hl => ?_)
                      refine lv_goto (tgt := 40) hx hb dX0_candidates_168 (by decide) ?_
                      have r153 : Int32.toInt 1 = 1 := by decide
                      have su154 : suP gs.1 (svc V b (gs.2.1 1).length) (gs.1 (300 + 32 * gk + 4 * gj)) (gs.1 (302 + 32 * gk + 4 * gj)) (Int32.toNatClampNeg y10) = true := (suP_y ((h50 (gs.1 (300 + 32 * gk + 4 * gj)) (by omega)).symm.trans (by cases e9 : bt (V 50 (24 * b + (Int32.toNatClampNeg y10))) (gs.1 (300 + 32 * gk + 4 * gj)); exact absurd ((lb_get (x := V 50 (24 * b + (Int32.toNatClampNeg y10))) (f := (gs.1 (300 + 32 * gk + 4 * gj))) ez119 ez120 (show ((V 58 (8 * (24 * b + (Int32.toNatClampNeg p0)) + (Int32.toNatClampNeg p1)))).toInt = (((gs.1 (300 + 32 * gk + 4 * gj)) : Nat) : Int) from by omega) (by omega)).mpr e9) (by omega); rfl)) (by omega) (t131.resolve_right (fun h9 => by have h8 := h9.1; omega)).2)
                      have em9 : z152.toInt.toNat = (Int32.toNatClampNeg y10) + 1 := by omega
                      have eo9 : y10.toInt.toNat = (Int32.toNatClampNeg y10) := rfl
                      have b9 := xlp13_1
                      rw [eo9] at b9
                      have su155 : suP gs.1 (svc V b (gs.2.1 1).length) (gs.1 (300 + 32 * gk + 4 * gj)) (gs.1 (302 + 32 * gk + 4 * gj)) (Int32.toNatClampNeg y10) = true := (suP_y ((h50 (gs.1 (300 + 32 * gk + 4 * gj)) (by omega)).symm.trans (by cases e9 : bt (V 50 (24 * b + (Int32.toNatClampNeg y10))) (gs.1 (300 + 32 * gk + 4 * gj)); exact absurd ((lb_get (x := V 50 (24 * b + (Int32.toNatClampNeg y10))) (f := (gs.1 (300 + 32 * gk + 4 * gj))) ez119 ez120 (show ((V 58 (8 * (24 * b + (Int32.toNatClampNeg p0)) + (Int32.toNatClampNeg p1)))).toInt = (((gs.1 (300 + 32 * gk + 4 * gj)) : Nat) : Int) from by omega) (by omega)).mpr e9) (by omega); rfl)) (by omega) (t131.resolve_right (fun h9 => by have h8 := h9.1; omega)).2)
                      have em9 : z152.toInt.toNat = (Int32.toNatClampNeg y10) + 1 := by omega
                      have eo9 : y10.toInt.toNat = (Int32.toNatClampNeg y10) := rfl
                      have b9 := xlp13_1
                      rw [eo9] at b9
                      exact ihlp13 z152 y11 z151 H locs ls (by first | omega | ((try (have i_gjl := Imp.go gjl (by omega))); (try (have i_gkl := Imp.go gkl (by omega))); (try (have i_wh := Imp.go wh (by omega))); (try (have i_coc := Imp.go coc (by omega))); first | omega | ((try (have i_coc := Imp.go coc (by omega))); (try (have i_wh := Imp.go wh (by omega))); (try (have i_gkl := Imp.go gkl (by omega))); (try (have i_gjl := Imp.go gjl (by omega))); omega))) (by first | omega | ((try (have i_gjl := Imp.go gjl (by omega))); (try (have i_gkl := Imp.go gkl (by omega))); (try (have i_wh := Imp.go wh (by omega))); (try (have i_coc := Imp.go coc (by omega))); first | omega | ((try (have i_coc := Imp.go coc (by omega))); (try (have i_wh := Imp.go wh (by omega))); (try (have i_gkl := Imp.go gkl (by omega))); (try (have i_gjl := Imp.go gjl (by omega))); omega))) (by rw [em9]; exact FND.eq (by have h9 := xlp13_0; rw [eo9] at h9; exact h9) su154 (Or.inr (by have h8 := b9 (by omega); omega)) ez150 ez151 (show y10.toInt = (((Int32.toNatClampNeg y10) : Nat) : Int) from by omega) (by omega)) (fun h7 => by rw [em9]; exact (by have h8 := b9 h7; rw [bsP_l (by omega)]; omega)) (show z152.toInt ≤ (((gs.2.1 2).length : Nat) : Int) from by first | omega | ((try (have i_gjl := Imp.go gjl (by omega))); (try (have i_gkl := Imp.go gkl (by omega))); (try (have i_wh := Imp.go wh (by omega))); (try (have i_coc := Imp.go coc (by omega))); first | omega | ((try (have i_coc := Imp.go coc (by omega))); (try (have i_wh := Imp.go wh (by omega))); (try (have i_gkl := Imp.go gkl (by omega))); (try (have i_gjl := Imp.go gjl (by omega))); omega))) (by first | omega | ((try (have i_gjl := Imp.go gjl (by omega))); (try (have i_gkl := Imp.go gkl (by omega))); (try (have i_wh := Imp.go wh (by omega))); (try (have i_coc := Imp.go coc (by omega))); first | omega | ((try (have i_coc := Imp.go coc (by omega))); (try (have i_wh := Imp.go wh (by omega))); (try (have i_gkl := Imp.go gkl (by omega))); (try (have i_gjl := Imp.go gjl (by omega))); omega))) hP hD hS (lv_sub hl [0, 4, 1, 5, 6, 7, 8, 9, 10, 11] rfl)
                    · skip
                      have f156 : ((V 60 (8 * (24 * b + (Int32.toNatClampNeg p0)) + (Int32.toNatClampNeg p1)))).toInt ≠ 2 := b_neq rfl (by decide) c148
                      refine lv_aload hx hb dX0_candidates_146 (lv_at hl 1 rfl) ?_
                      refine va_getN (D := D) (ci := 3) (v := .int (V 53 (24 * b + (Int32.toNatClampNeg y10)))) (fs := (xfComp ad V (24 * b + (Int32.toNatClampNeg y10)))) (C := RX3) (T := TX3) (N := 13) hx hb hg inX3 hown hK hP (72 + (24 * b + (Int32.toNatClampNeg y10))) (xgComp il19) rfl 8 (by decide) (hnw.use 529 n529 rfl) (fun _ h9 => h9) rfl dX0_candidates_148 ?_
                      refine lv_iload hx hb dX0_candidates_151 (lv_at hl 3 rfl) ?_
                      refine lv_icmp_ne (tgt := 165) hx hb dX0_candidates_153 (by decide) (fun c157 => ?_) (fun c157 => ?_)
                      · skip
                        have f158 : ((V 53 (24 * b + (Int32.toNatClampNeg y10)))).toInt ≠ y11.toInt := b_neq rfl rfl c157
                        obtain ⟨z159, ez159⟩ : ∃ y : Int32, y = y10 + 1 := ⟨_, rfl⟩
                        have hz159 : z159.toInt = y10.toInt + 1 := i_add ez159 rfl (by decide) (by (first | exact om_2bedb82363d1 r1.2 r2 f17 kk9 | omega))
                        refine lv_iinc (v := z159) (lv' := [(9, .int z159), (11, .int 1), (10, .ref (ad (72 + (24 * b + (Int32.toNatClampNeg y10))))), (8, .int y11), (7, .int y12), (6, .int (V 59 (8 * (24 * b + (Int32.toNatClampNeg p0)) + (Int32.toNatClampNeg p1)))), (5, .int (V 58 (8 * (24 * b + (Int32.toNatClampNeg p0)) + (Int32.toNatClampNeg p1)))), (4, .int (V 60 (8 * (24 * b + (Int32.toNatClampNeg p0)) + (Int32.toNatClampNeg p1)))), (3, .ref (ad (72 + (24 * b + (Int32.toNatClampNeg p0))))), (0, .ref (ad (38 + b))), (1, .int p0), (2, .int p1)]) hx hb dX0_candidates_165 hl (k := 2) rfl (by rw [ez159]; rfl) (by decide) rfl (fun ls hl => ?_)
                        refine lv_goto (tgt := 40) hx hb dX0_candidates_168 (by decide) ?_
                        have r160 : Int32.toInt 1 = 1 := by decide
                        have su161 : suP gs.1 (svc V b (gs.2.1 1).length) (gs.1 (300 + 32 * gk + 4 * gj)) (gs.1 (302 + 32 * gk + 4 * gj)) (Int32.toNatClampNeg y10) = true := (suP_y ((h50 (gs.1 (300 + 32 * gk + 4 * gj)) (by omega)).symm.trans (by cases e9 : bt (V 50 (24 * b + (Int32.toNatClampNeg y10))) (gs.1 (300 + 32 * gk + 4 * gj)); exact absurd ((lb_get (x := V 50 (24 * b + (Int32.toNatClampNeg y10))) (f := (gs.1 (300 + 32 * gk + 4 * gj))) ez119 ez120 (show ((V 58 (8 * (24 * b + (Int32.toNatClampNeg p0)) + (Int32.toNatClampNeg p1)))).toInt = (((gs.1 (300 + 32 * gk + 4 * gj)) : Nat) : Int) from by omega) (by omega)).mpr e9) (by omega); rfl)) (by omega) (t131.resolve_right (fun h9 => by have h8 := h9.1; omega)).2)
                        have em9 : z159.toInt.toNat = (Int32.toNatClampNeg y10) + 1 := by (first | exact om_a1185fbb59ea kk9 kc18 hz159 | omega)
                        have eo9 : y10.toInt.toNat = (Int32.toNatClampNeg y10) := rfl
                        have b9 := xlp13_1
                        rw [eo9] at b9
                        have su162 : suP gs.1 (svc V b (gs.2.1 1).length) (gs.1 (300 + 32 * gk + 4 * gj)) (gs.1 (302 + 32 * gk + 4 * gj)) (Int32.toNatClampNeg y10) = true := (suP_y ((h50 (gs.1 (300 + 32 * gk + 4 * gj)) (by omega)).symm.trans (by cases e9 : bt (V 50 (24 * b + (Int32.toNatClampNeg y10))) (gs.1 (300 + 32 * gk + 4 * gj)); exact absurd ((lb_get (x := V 50 (24 * b + (Int32.toNatClampNeg y10))) (f := (gs.1 (300 + 32 * gk + 4 * gj))) ez119 ez120 (show ((V 58 (8 * (24 * b + (Int32.toNatClampNeg p0)) + (Int32.toNatClampNeg p1)))).toInt = (((gs.1 (300 + 32 * gk + 4 * gj)) : Nat) : Int) from by omega) (by omega)).mpr e9) (by omega); rfl)) (by omega) (t131.resolve_right (fun h9 => by have h8 := h9.1; omega)).2)
                        have em9 : z159.toInt.toNat = (Int32.toNatClampNeg y10) + 1 := by (first | exact om_26701d63f2fa em9 | omega)
                        have eo9 : y10.toInt.toNat = (Int32.toNatClampNeg y10) := rfl
                        have b9 := xlp13_1
                        rw [eo9] at b9
                        exact ihlp13 z159 y11 y12 H locs ls (by first | exact om_9500b6342cf6 r1.2 r2 f17 kk9 hz159 | first | omega | ((try (have i_gjl := Imp.go gjl (by omega))); (try (have i_gkl := Imp.go gkl (by omega))); (try (have i_wh := Imp.go wh (by omega))); (try (have i_coc := Imp.go coc (by omega))); first | omega | ((try (have i_coc := Imp.go coc (by omega))); (try (have i_wh := Imp.go wh (by omega))); (try (have i_gkl := Imp.go gkl (by omega))); (try (have i_gjl := Imp.go gjl (by omega))); omega))) (by first | exact om_c51a6401fccc klp13_1.1 klp13_1.2 | first | omega | ((try (have i_gjl := Imp.go gjl (by omega))); (try (have i_gkl := Imp.go gkl (by omega))); (try (have i_wh := Imp.go wh (by omega))); (try (have i_coc := Imp.go coc (by omega))); first | omega | ((try (have i_coc := Imp.go coc (by omega))); (try (have i_wh := Imp.go wh (by omega))); (try (have i_gkl := Imp.go gkl (by omega))); (try (have i_gjl := Imp.go gjl (by omega))); omega))) (by rw [em9]; exact FND.lo (by have h9 := xlp13_0; rw [eo9] at h9; exact h9) (by have h8 := b9 (by omega); omega) (by omega)) (fun h7 => by rw [em9]; exact (by have h8 := b9 h7; rw [bsP_l (by omega)]; omega)) (show z159.toInt ≤ (((gs.2.1 2).length : Nat) : Int) from by first | exact om_bcda7a344117 ln f17 hz159 | first | omega | ((try (have i_gjl := Imp.go gjl (by omega))); (try (have i_gkl := Imp.go gkl (by omega))); (try (have i_wh := Imp.go wh (by omega))); (try (have i_coc := Imp.go coc (by omega))); first | omega | ((try (have i_coc := Imp.go coc (by omega))); (try (have i_wh := Imp.go wh (by omega))); (try (have i_gkl := Imp.go gkl (by omega))); (try (have i_gjl := Imp.go gjl (by omega))); omega))) (by first | exact om_9592d9319ffa hn hz159 | first | omega | ((try (have i_gjl := Imp.go gjl (by omega))); (try (have i_gkl := Imp.go gkl (by omega))); (try (have i_wh := Imp.go wh (by omega))); (try (have i_coc := Imp.go coc (by omega))); first | omega | ((try (have i_coc := Imp.go coc (by omega))); (try (have i_wh := Imp.go wh (by omega))); (try (have i_gkl := Imp.go gkl (by omega))); (try (have i_gjl := Imp.go gjl (by omega))); omega))) hP hD hS (lv_sub hl [0, 3, 4, 5, 6, 7, 8, 9, 10, 11] rfl)
                      · skip
                        have f163 : ((V 53 (24 * b + (Int32.toNatClampNeg y10)))).toInt = y11.toInt := b_eq rfl rfl c157
                        refine lv_iload hx hb dX0_candidates_156 (lv_at hl 4 rfl) ?_
                        refine lv_iconst (v := 1) hx hb dX0_candidates_158 (by decide) ?_
                        refine lv_iload hx hb dX0_candidates_159 (lv_at hl 2 rfl) ?_
                        refine lv_ishl hx hb dX0_candidates_161 ?_
                        refine lv_topi (fun z164 ez164 => ?_)
                        have hz164 : 0 ≤ z164.toInt ∧ z164.toInt < 16777216 := shl1 ez164 (by first | omega | ((try (have i_gjl := Imp.go gjl (by omega))); (try (have i_gkl := Imp.go gkl (by omega))); (try (have i_wh := Imp.go wh (by omega))); (try (have i_coc := Imp.go coc (by omega))); first | omega | ((try (have i_coc := Imp.go coc (by omega))); (try (have i_wh := Imp.go wh (by omega))); (try (have i_gkl := Imp.go gkl (by omega))); (try (have i_gjl := Imp.go gjl (by omega))); omega)))
                        refine lv_ior hx hb dX0_candidates_162 ?_
                        refine lv_topi (fun z165 ez165 => ?_)
                        have hz165 : 0 ≤ z165.toInt ∧ z165.toInt < 16777216 := or24 ez165 (by first | omega | ((try (have i_gjl := Imp.go gjl (by omega))); (try (have i_gkl := Imp.go gkl (by omega))); (try (have i_wh := Imp.go wh (by omega))); (try (have i_coc := Imp.go coc (by omega))); first | omega | ((try (have i_coc := Imp.go coc (by omega))); (try (have i_wh := Imp.go wh (by omega))); (try (have i_gkl := Imp.go gkl (by omega))); (try (have i_gjl := Imp.go gjl (by omega))); omega))) (by first | omega | ((try (have i_gjl := Imp.go gjl (by omega))); (try (have i_gkl := Imp.go gkl (by omega))); (try (have i_wh := Imp.go wh (by omega))); (try (have i_coc := Imp.go coc (by omega))); first | omega | ((try (have i_coc := Imp.go coc (by omega))); (try (have i_wh := Imp.go wh (by omega))); (try (have i_gkl := Imp.go gkl (by omega))); (try (have i_gjl := Imp.go gjl (by omega))); omega)))
                        refine lv_istore (lv' := [(7, .int z165), (11, .int 1), (10, .ref (ad (72 + (24 * b + (Int32.toNatClampNeg y10))))), (9, .int y10), (8, .int y11), (6, .int (V 59 (8 * (24 * b + (Int32.toNatClampNeg p0)) + (Int32.toNatClampNeg p1)))), (5, .int (V 58 (8 * (24 * b + (Int32.toNatClampNeg p0)) + (Int32.toNatClampNeg p1)))), (4, .int (V 60 (8 * (24 * b + (Int32.toNatClampNeg p0)) + (Int32.toNatClampNeg p1)))), (3, .ref (ad (72 + (24 * b + (Int32.toNatClampNeg p0))))), (0, .ref (ad (38 + b))), (1, .int p0), (2, .int p1)]) hx hb dX0_candidates_163 hl (by decide) rfl (fun ls hl => ?_)
                        obtain ⟨z166, ez166⟩ : ∃ y : Int32, y = y10 + 1 := ⟨_, rfl⟩
                        have hz166 : z166.toInt = y10.toInt + 1 := i_add ez166 rfl (by decide) (by (first | exact om_2bedb82363d1 r1.2 r2 f17 kk9 | omega))
                        refine lv_iinc (v := z166) (lv' := [(9, .int z166), (7, .int z165), (11, .int 1), (10, .ref (ad (72 + (24 * b + (Int32.toNatClampNeg y10))))), (8, .int y11), (6, .int (V 59 (8 * (24 * b + (Int32.toNatClampNeg p0)) + (Int32.toNatClampNeg p1)))), (5, .int (V 58 (8 * (24 * b + (Int32.toNatClampNeg p0)) + (Int32.toNatClampNeg p1)))), (4, .int (V 60 (8 * (24 * b + (Int32.toNatClampNeg p0)) + (Int32.toNatClampNeg p1)))), (3, .ref (ad (72 + (24 * b + (Int32.toNatClampNeg p0))))), (0, .ref (ad (38 + b))), (1, .int p0), (2, .int p1)]) hx hb dX0_candidates_165 hl (k := 3) rfl (by rw [ez166]; rfl) (by decide) rfl (fun ls hl => ?_)
                        refine lv_goto (tgt := 40) hx hb dX0_candidates_168 (by decide) ?_
                        have r167 : Int32.toInt 1 = 1 := by decide
                        have su168 : suP gs.1 (svc V b (gs.2.1 1).length) (gs.1 (300 + 32 * gk + 4 * gj)) (gs.1 (302 + 32 * gk + 4 * gj)) (Int32.toNatClampNeg y10) = true := (suP_y ((h50 (gs.1 (300 + 32 * gk + 4 * gj)) (by omega)).symm.trans (by cases e9 : bt (V 50 (24 * b + (Int32.toNatClampNeg y10))) (gs.1 (300 + 32 * gk + 4 * gj)); exact absurd ((lb_get (x := V 50 (24 * b + (Int32.toNatClampNeg y10))) (f := (gs.1 (300 + 32 * gk + 4 * gj))) ez119 ez120 (show ((V 58 (8 * (24 * b + (Int32.toNatClampNeg p0)) + (Int32.toNatClampNeg p1)))).toInt = (((gs.1 (300 + 32 * gk + 4 * gj)) : Nat) : Int) from by omega) (by omega)).mpr e9) (by omega); rfl)) (by omega) (t131.resolve_right (fun h9 => by have h8 := h9.1; omega)).2)
                        have em9 : z166.toInt.toNat = (Int32.toNatClampNeg y10) + 1 := by (first | exact om_a1185fbb59ea kk9 kc18 hz166 | omega)
                        have eo9 : y10.toInt.toNat = (Int32.toNatClampNeg y10) := rfl
                        have b9 := xlp13_1
                        rw [eo9] at b9
                        have su169 : suP gs.1 (svc V b (gs.2.1 1).length) (gs.1 (300 + 32 * gk + 4 * gj)) (gs.1 (302 + 32 * gk + 4 * gj)) (Int32.toNatClampNeg y10) = true := (suP_y ((h50 (gs.1 (300 + 32 * gk + 4 * gj)) (by omega)).symm.trans (by cases e9 : bt (V 50 (24 * b + (Int32.toNatClampNeg y10))) (gs.1 (300 + 32 * gk + 4 * gj)); exact absurd ((lb_get (x := V 50 (24 * b + (Int32.toNatClampNeg y10))) (f := (gs.1 (300 + 32 * gk + 4 * gj))) ez119 ez120 (show ((V 58 (8 * (24 * b + (Int32.toNatClampNeg p0)) + (Int32.toNatClampNeg p1)))).toInt = (((gs.1 (300 + 32 * gk + 4 * gj)) : Nat) : Int) from by omega) (by omega)).mpr e9) (by omega); rfl)) (by omega) (t131.resolve_right (fun h9 => by have h8 := h9.1; omega)).2)
                        have em9 : z166.toInt.toNat = (Int32.toNatClampNeg y10) + 1 := by (first | exact om_26701d63f2fa em9 | omega)
                        have eo9 : y10.toInt.toNat = (Int32.toNatClampNeg y10) := rfl
                        have b9 := xlp13_1
                        rw [eo9] at b9
                        exact ihlp13 z166 y11 z165 H locs ls (by first | exact om_9500b6342cf6 r1.2 r2 f17 kk9 hz166 | first | omega | ((try (have i_gjl := Imp.go gjl (by omega))); (try (have i_gkl := Imp.go gkl (by omega))); (try (have i_wh := Imp.go wh (by omega))); (try (have i_coc := Imp.go coc (by omega))); first | omega | ((try (have i_coc := Imp.go coc (by omega))); (try (have i_wh := Imp.go wh (by omega))); (try (have i_gkl := Imp.go gkl (by omega))); (try (have i_gjl := Imp.go gjl (by omega))); omega))) (by first | exact om_8a0dcf576dcd hz165.1 hz165.2 | first | omega | ((try (have i_gjl := Imp.go gjl (by omega))); (try (have i_gkl := Imp.go gkl (by omega))); (try (have i_wh := Imp.go wh (by omega))); (try (have i_coc := Imp.go coc (by omega))); first | omega | ((try (have i_coc := Imp.go coc (by omega))); (try (have i_wh := Imp.go wh (by omega))); (try (have i_gkl := Imp.go gkl (by omega))); (try (have i_gjl := Imp.go gjl (by omega))); omega))) (by rw [em9]; exact FND.eq (by have h9 := xlp13_0; rw [eo9] at h9; exact h9) su168 (Or.inr (by have h8 := b9 (by omega); omega)) ez164 ez165 (show y10.toInt = (((Int32.toNatClampNeg y10) : Nat) : Int) from by (first | exact om_dadc9969542e kc18 | omega)) (by omega)) (fun h7 => by rw [em9]; exact (by have h8 := b9 h7; rw [bsP_l (by omega)]; omega)) (show z166.toInt ≤ (((gs.2.1 2).length : Nat) : Int) from by first | exact om_bcda7a344117 ln f17 hz166 | first | omega | ((try (have i_gjl := Imp.go gjl (by omega))); (try (have i_gkl := Imp.go gkl (by omega))); (try (have i_wh := Imp.go wh (by omega))); (try (have i_coc := Imp.go coc (by omega))); first | omega | ((try (have i_coc := Imp.go coc (by omega))); (try (have i_wh := Imp.go wh (by omega))); (try (have i_gkl := Imp.go gkl (by omega))); (try (have i_gjl := Imp.go gjl (by omega))); omega))) (by first | exact om_9592d9319ffa hn hz166 | first | omega | ((try (have i_gjl := Imp.go gjl (by omega))); (try (have i_gkl := Imp.go gkl (by omega))); (try (have i_wh := Imp.go wh (by omega))); (try (have i_coc := Imp.go coc (by omega))); first | omega | ((try (have i_coc := Imp.go coc (by omega))); (try (have i_wh := Imp.go wh (by omega))); (try (have i_gkl := Imp.go gkl (by omega))); (try (have i_gjl := Imp.go gjl (by omega))); omega))) hP hD hS (lv_sub hl [0, 4, 1, 5, 6, 7, 8, 9, 10, 11] rfl)
                  · skip
                    have f170 : y11.toInt < ((V 53 (24 * b + (Int32.toNatClampNeg y10)))).toInt := b_nle rfl rfl c146
                    refine lv_aload hx hb dX0_candidates_130 (lv_at hl 1 rfl) ?_
                    refine va_getN (D := D) (ci := 3) (v := .int (V 53 (24 * b + (Int32.toNatClampNeg y10)))) (fs := (xfComp ad V (24 * b + (Int32.toNatClampNeg y10)))) (C := RX3) (T := TX3) (N := 13) hx hb hg inX3 hown hK hP (72 + (24 * b + (Int32.toNatClampNeg y10))) (xgComp il19) rfl 8 (by decide) (hnw.use 529 n529 rfl) (fun _ h9 => h9) rfl dX0_candidates_132 ?_
                    refine lv_istore (lv' := [(8, .int (V 53 (24 * b + (Int32.toNatClampNeg y10)))), (11, .int 1), (10, .ref (ad (72 + (24 * b + (Int32.toNatClampNeg y10))))), (9, .int y10), (7, .int y12), (6, .int (V 59 (8 * (24 * b + (Int32.toNatClampNeg p0)) + (Int32.toNatClampNeg p1)))), (5, .int (V 58 (8 * (24 * b + (Int32.toNatClampNeg p0)) + (Int32.toNatClampNeg p1)))), (4, .int (V 60 (8 * (24 * b + (Int32.toNatClampNeg p0)) + (Int32.toNatClampNeg p1)))), (3, .ref (ad (72 + (24 * b + (Int32.toNatClampNeg p0))))), (0, .ref (ad (38 + b))), (1, .int p0), (2, .int p1)]) hx hb dX0_candidates_135 hl (by decide) rfl (fun ls hl => ?_)
                    refine lv_iconst (v := 0) hx hb dX0_candidates_137 (by decide) ?_
                    refine lv_istore (lv' := [(7, .int 0), (8, .int (V 53 (24 * b + (Int32.toNatClampNeg y10)))), (11, .int 1), (10, .ref (ad (72 + (24 * b + (Int32.toNatClampNeg y10))))), (9, .int y10), (6, .int (V 59 (8 * (24 * b + (Int32.toNatClampNeg p0)) + (Int32.toNatClampNeg p1)))), (5, .int (V 58 (8 * (24 * b + (Int32.toNatClampNeg p0)) + (Int32.toNatClampNeg p1)))), (4, .int (V 60 (8 * (24 * b + (Int32.toNatClampNeg p0)) + (Int32.toNatClampNeg p1)))), (3, .ref (ad (72 + (24 * b + (Int32.toNatClampNeg p0))))), (0, .ref (ad (38 + b))), (1, .int p0), (2, .int p1)]) hx hb dX0_candidates_138 hl (by decide) rfl (fun ls hl => ?_)
                    refine lv_iload hx hb dX0_candidates_140 (lv_at hl 7 rfl) ?_
                    refine lv_iconst (v := 2) hx hb dX0_candidates_142 (by decide) ?_
                    refine lv_icmp_eq (tgt := 156) hx hb dX0_candidates_143 (by decide) (fun c171 => ?_) (fun c171 => ?_)
                    · skip
                      have f172 : ((V 60 (8 * (24 * b + (Int32.toNatClampNeg p0)) + (Int32.toNatClampNeg p1)))).toInt = 2 := b_eq rfl (by decide) c171
                      refine lv_iload hx hb dX0_candidates_156 (lv_at hl 0 rfl) ?_
                      refine lv_iconst (v := 1) hx hb dX0_candidates_158 (by decide) ?_
                      refine lv_iload hx hb dX0_candidates_159 (lv_at hl 4 rfl) ?_
                      refine lv_ishl hx hb dX0_candidates_161 ?_
                      refine lv_topi (fun z173 ez173 => ?_)
                      have hz173 : 0 ≤ z173.toInt ∧ z173.toInt < 16777216 := shl1 ez173 (by first | omega | ((try (have i_gjl := Imp.go gjl (by omega))); (try (have i_gkl := Imp.go gkl (by omega))); (try (have i_wh := Imp.go wh (by omega))); (try (have i_coc := Imp.go coc (by omega))); first | omega | ((try (have i_coc := Imp.go coc (by omega))); (try (have i_wh := Imp.go wh (by omega))); (try (have i_gkl := Imp.go gkl (by omega))); (try (have i_gjl := Imp.go gjl (by omega))); omega)))
                      refine lv_ior hx hb dX0_candidates_162 ?_
                      refine lv_topi (fun z174 ez174 => ?_)
                      have hz174 : 0 ≤ z174.toInt ∧ z174.toInt < 16777216 := or24 ez174 (by decide) (by first | omega | ((try (have i_gjl := Imp.go gjl (by omega))); (try (have i_gkl := Imp.go gkl (by omega))); (try (have i_wh := Imp.go wh (by omega))); (try (have i_coc := Imp.go coc (by omega))); first | omega | ((try (have i_coc := Imp.go coc (by omega))); (try (have i_wh := Imp.go wh (by omega))); (try (have i_gkl := Imp.go gkl (by omega))); (try (have i_gjl := Imp.go gjl (by omega))); omega)))
                      refine lv_istore (lv' := [(7, .int z174), (8, .int (V 53 (24 * b + (Int32.toNatClampNeg y10)))), (11, .int 1), (10, .ref (ad (72 + (24 * b + (Int32.toNatClampNeg y10))))), (9, .int y10), (6, .int (V 59 (8 * (24 * b + (Int32.toNatClampNeg p0)) + (Int32.toNatClampNeg p1)))), (5, .int (V 58 (8 * (24 * b + (Int32.toNatClampNeg p0)) + (Int32.toNatClampNeg p1)))), (4, .int (V 60 (8 * (24 * b + (Int32.toNatClampNeg p0)) + (Int32.toNatClampNeg p1)))), (3, .ref (ad (72 + (24 * b + (Int32.toNatClampNeg p0))))), (0, .ref (ad (38 + b))), (1, .int p0), (2, .int p1)]) hx hb dX0_candidates_163 hl (by decide) rfl (fun ls hl => ?_)
                      obtain ⟨z175, ez175⟩ : ∃ y : Int32, y = y10 + 1 := ⟨_, rfl⟩
                      have hz175 : z175.toInt = y10.toInt + 1 := i_add ez175 rfl (by decide) (by omega)
                      refine lv_iinc (v := z175) (lv' := [(9, .int z175), (7, .int z174), (8, .int (V 53 (24 * b + (Int32.toNatClampNeg y10)))), (11, .int 1), (10, .ref (ad (72 + (24 * b + (Int32.toNatClampNeg y10))))), (6, .int (V 59 (8 * (24 * b + (Int32.toNatClampNeg p0)) + (Int32.toNatClampNeg p1)))), (5, .int (V 58 (8 * (24 * b + (Int32.toNatClampNeg p0)) + (Int32.toNatClampNeg p1)))), (4, .int (V 60 (8 * (24 * b + (Int32.toNatClampNeg p0)) + (Int32.toNatClampNeg p1)))), (3, .ref (ad (72 + (24 * b + (Int32.toNatClampNeg p0))))), (0, .ref (ad (38 + b))), (1, .int p0), (2, .int p1)]) hx hb dX0_candidates_165 hl (k := 4) rfl (by rw [ez175]; rfl) (by decide) rfl (fun ls hl => ?_)
                      refine lv_goto (tgt := 40) hx hb dX0_candidates_168 (by decide) ?_
                      have r176 : Int32.toInt 1 = 1 := by decide
                      have su177 : suP gs.1 (svc V b (gs.2.1 1).length) (gs.1 (300 + 32 * gk + 4 * gj)) (gs.1 (302 + 32 * gk + 4 * gj)) (Int32.toNatClampNeg y10) = true := (suP_y ((h50 (gs.1 (300 + 32 * gk + 4 * gj)) (by omega)).symm.trans (by cases e9 : bt (V 50 (24 * b + (Int32.toNatClampNeg y10))) (gs.1 (300 + 32 * gk + 4 * gj)); exact absurd ((lb_get (x := V 50 (24 * b + (Int32.toNatClampNeg y10))) (f := (gs.1 (300 + 32 * gk + 4 * gj))) ez119 ez120 (show ((V 58 (8 * (24 * b + (Int32.toNatClampNeg p0)) + (Int32.toNatClampNeg p1)))).toInt = (((gs.1 (300 + 32 * gk + 4 * gj)) : Nat) : Int) from by omega) (by omega)).mpr e9) (by omega); rfl)) (by omega) (t131.resolve_right (fun h9 => by have h8 := h9.1; omega)).2)
                      have em9 : z175.toInt.toNat = (Int32.toNatClampNeg y10) + 1 := by omega
                      have eo9 : y10.toInt.toNat = (Int32.toNatClampNeg y10) := rfl
                      have b9 := xlp13_1
                      rw [eo9] at b9
                      have su178 : suP gs.1 (svc V b (gs.2.1 1).length) (gs.1 (300 + 32 * gk + 4 * gj)) (gs.1 (302 + 32 * gk + 4 * gj)) (Int32.toNatClampNeg y10) = true := (suP_y ((h50 (gs.1 (300 + 32 * gk + 4 * gj)) (by omega)).symm.trans (by cases e9 : bt (V 50 (24 * b + (Int32.toNatClampNeg y10))) (gs.1 (300 + 32 * gk + 4 * gj)); exact absurd ((lb_get (x := V 50 (24 * b + (Int32.toNatClampNeg y10))) (f := (gs.1 (300 + 32 * gk + 4 * gj))) ez119 ez120 (show ((V 58 (8 * (24 * b + (Int32.toNatClampNeg p0)) + (Int32.toNatClampNeg p1)))).toInt = (((gs.1 (300 + 32 * gk + 4 * gj)) : Nat) : Int) from by omega) (by omega)).mpr e9) (by omega); rfl)) (by omega) (t131.resolve_right (fun h9 => by have h8 := h9.1; omega)).2)
                      have em9 : z175.toInt.toNat = (Int32.toNatClampNeg y10) + 1 := by omega
                      have eo9 : y10.toInt.toNat = (Int32.toNatClampNeg y10) := rfl
                      have b9 := xlp13_1
                      rw [eo9] at b9
                      exact ihlp13 z175 (V 53 (24 * b + (Int32.toNatClampNeg y10))) z174 H locs ls (by first | omega | ((try (have i_gjl := Imp.go gjl (by omega))); (try (have i_gkl := Imp.go gkl (by omega))); (try (have i_wh := Imp.go wh (by omega))); (try (have i_coc := Imp.go coc (by omega))); first | omega | ((try (have i_coc := Imp.go coc (by omega))); (try (have i_wh := Imp.go wh (by omega))); (try (have i_gkl := Imp.go gkl (by omega))); (try (have i_gjl := Imp.go gjl (by omega))); omega))) (by first | omega | ((try (have i_gjl := Imp.go gjl (by omega))); (try (have i_gkl := Imp.go gkl (by omega))); (try (have i_wh := Imp.go wh (by omega))); (try (have i_coc := Imp.go coc (by omega))); first | omega | ((try (have i_coc := Imp.go coc (by omega))); (try (have i_wh := Imp.go wh (by omega))); (try (have i_gkl := Imp.go gkl (by omega))); (try (have i_gjl := Imp.go gjl (by omega))); omega))) (by rw [em9]; exact FND.hi rfl su177 (by have h8 := b9 (by omega); omega) (by omega) ez173 ez174 (show y10.toInt = (((Int32.toNatClampNeg y10) : Nat) : Int) from by omega) (by omega)) (fun h7 => by rw [em9]; exact (by have h8 := b9 h7; rw [bsP_h su178 (by omega)]; omega)) (show z175.toInt ≤ (((gs.2.1 2).length : Nat) : Int) from by first | omega | ((try (have i_gjl := Imp.go gjl (by omega))); (try (have i_gkl := Imp.go gkl (by omega))); (try (have i_wh := Imp.go wh (by omega))); (try (have i_coc := Imp.go coc (by omega))); first | omega | ((try (have i_coc := Imp.go coc (by omega))); (try (have i_wh := Imp.go wh (by omega))); (try (have i_gkl := Imp.go gkl (by omega))); (try (have i_gjl := Imp.go gjl (by omega))); omega))) (by first | omega | ((try (have i_gjl := Imp.go gjl (by omega))); (try (have i_gkl := Imp.go gkl (by omega))); (try (have i_wh := Imp.go wh (by omega))); (try (have i_coc := Imp.go coc (by omega))); first | omega | ((try (have i_coc := Imp.go coc (by omega))); (try (have i_wh := Imp.go wh (by omega))); (try (have i_gkl := Imp.go gkl (by omega))); (try (have i_gjl := Imp.go gjl (by omega))); omega))) hP hD hS (lv_sub hl [0, 2, 1, 5, 6, 7, 8, 9, 10, 11] rfl)
                    · skip
                      have f179 : ((V 60 (8 * (24 * b + (Int32.toNatClampNeg p0)) + (Int32.toNatClampNeg p1)))).toInt ≠ 2 := b_neq rfl (by decide) c171
                      refine lv_aload hx hb dX0_candidates_146 (lv_at hl 3 rfl) ?_
                      refine va_getN (D := D) (ci := 3) (v := .int (V 53 (24 * b + (Int32.toNatClampNeg y10)))) (fs := (xfComp ad V (24 * b + (Int32.toNatClampNeg y10)))) (C := RX3) (T := TX3) (N := 13) hx hb hg inX3 hown hK hP (72 + (24 * b + (Int32.toNatClampNeg y10))) (xgComp il19) rfl 8 (by decide) (hnw.use 529 n529 rfl) (fun _ h9 => h9) rfl dX0_candidates_148 ?_
                      refine lv_iload hx hb dX0_candidates_151 (lv_at hl 1 rfl) ?_
                      refine lv_icmp_ne (tgt := 165) hx hb dX0_candidates_153 (by decide) (fun c180 => ?_) (fun c180 => ?_)
                      · skip
                        have f181 : ((V 53 (24 * b + (Int32.toNatClampNeg y10)))).toInt ≠ ((V 53 (24 * b + (Int32.toNatClampNeg y10)))).toInt := b_neq rfl rfl c180
                        obtain ⟨z182, ez182⟩ : ∃ y : Int32, y = y10 + 1 := ⟨_, rfl⟩
                        have hz182 : z182.toInt = y10.toInt + 1 := i_add ez182 rfl (by decide) (by (first | exact om_2bedb82363d1 r1.2 r2 f17 kk9 | omega))
                        refine lv_iinc (v := z182) (lv' := [(9, .int z182), (7, .int 0), (8, .int (V 53 (24 * b + (Int32.toNatClampNeg y10)))), (11, .int 1), (10, .ref (ad (72 + (24 * b + (Int32.toNatClampNeg y10))))), (6, .int (V 59 (8 * (24 * b + (Int32.toNatClampNeg p0)) + (Int32.toNatClampNeg p1)))), (5, .int (V 58 (8 * (24 * b + (Int32.toNatClampNeg p0)) + (Int32.toNatClampNeg p1)))), (4, .int (V 60 (8 * (24 * b + (Int32.toNatClampNeg p0)) + (Int32.toNatClampNeg p1)))), (3, .ref (ad (72 + (24 * b + (Int32.toNatClampNeg p0))))), (0, .ref (ad (38 + b))), (1, .int p0), (2, .int p1)]) hx hb dX0_candidates_165 hl (k := 4) rfl (by rw [ez182]; rfl) (by decide) rfl (fun ls hl => ?_)
                        refine lv_goto (tgt := 40) hx hb dX0_candidates_168 (by decide) ?_
                        have r183 : Int32.toInt 0 = 0 := by decide
                        have r184 : Int32.toInt 1 = 1 := by decide
                        have su185 : suP gs.1 (svc V b (gs.2.1 1).length) (gs.1 (300 + 32 * gk + 4 * gj)) (gs.1 (302 + 32 * gk + 4 * gj)) (Int32.toNatClampNeg y10) = true := (suP_y ((h50 (gs.1 (300 + 32 * gk + 4 * gj)) (by omega)).symm.trans (by cases e9 : bt (V 50 (24 * b + (Int32.toNatClampNeg y10))) (gs.1 (300 + 32 * gk + 4 * gj)); exact absurd ((lb_get (x := V 50 (24 * b + (Int32.toNatClampNeg y10))) (f := (gs.1 (300 + 32 * gk + 4 * gj))) ez119 ez120 (show ((V 58 (8 * (24 * b + (Int32.toNatClampNeg p0)) + (Int32.toNatClampNeg p1)))).toInt = (((gs.1 (300 + 32 * gk + 4 * gj)) : Nat) : Int) from by omega) (by omega)).mpr e9) (by omega); rfl)) (by omega) (t131.resolve_right (fun h9 => by have h8 := h9.1; omega)).2)
                        have em9 : z182.toInt.toNat = (Int32.toNatClampNeg y10) + 1 := by (first | exact om_a1185fbb59ea kk9 kc18 hz182 | omega)
                        have eo9 : y10.toInt.toNat = (Int32.toNatClampNeg y10) := rfl
                        have b9 := xlp13_1
                        rw [eo9] at b9
                        have su186 : suP gs.1 (svc V b (gs.2.1 1).length) (gs.1 (300 + 32 * gk + 4 * gj)) (gs.1 (302 + 32 * gk + 4 * gj)) (Int32.toNatClampNeg y10) = true := (suP_y ((h50 (gs.1 (300 + 32 * gk + 4 * gj)) (by omega)).symm.trans (by cases e9 : bt (V 50 (24 * b + (Int32.toNatClampNeg y10))) (gs.1 (300 + 32 * gk + 4 * gj)); exact absurd ((lb_get (x := V 50 (24 * b + (Int32.toNatClampNeg y10))) (f := (gs.1 (300 + 32 * gk + 4 * gj))) ez119 ez120 (show ((V 58 (8 * (24 * b + (Int32.toNatClampNeg p0)) + (Int32.toNatClampNeg p1)))).toInt = (((gs.1 (300 + 32 * gk + 4 * gj)) : Nat) : Int) from by omega) (by omega)).mpr e9) (by omega); rfl)) (by omega) (t131.resolve_right (fun h9 => by have h8 := h9.1; omega)).2)
                        have em9 : z182.toInt.toNat = (Int32.toNatClampNeg y10) + 1 := by (first | exact om_26701d63f2fa em9 | omega)
                        have eo9 : y10.toInt.toNat = (Int32.toNatClampNeg y10) := rfl
                        have b9 := xlp13_1
                        rw [eo9] at b9
                        exact ihlp13 z182 (V 53 (24 * b + (Int32.toNatClampNeg y10))) 0 H locs ls (by first | exact om_9500b6342cf6 r1.2 r2 f17 kk9 hz182 | first | omega | ((try (have i_gjl := Imp.go gjl (by omega))); (try (have i_gkl := Imp.go gkl (by omega))); (try (have i_wh := Imp.go wh (by omega))); (try (have i_coc := Imp.go coc (by omega))); first | omega | ((try (have i_coc := Imp.go coc (by omega))); (try (have i_wh := Imp.go wh (by omega))); (try (have i_gkl := Imp.go gkl (by omega))); (try (have i_gjl := Imp.go gjl (by omega))); omega))) (by decide) (by exfalso; omega) (fun h7 => by exfalso; omega) (show z182.toInt ≤ (((gs.2.1 2).length : Nat) : Int) from by first | exact om_bcda7a344117 ln f17 hz182 | first | omega | ((try (have i_gjl := Imp.go gjl (by omega))); (try (have i_gkl := Imp.go gkl (by omega))); (try (have i_wh := Imp.go wh (by omega))); (try (have i_coc := Imp.go coc (by omega))); first | omega | ((try (have i_coc := Imp.go coc (by omega))); (try (have i_wh := Imp.go wh (by omega))); (try (have i_gkl := Imp.go gkl (by omega))); (try (have i_gjl := Imp.go gjl (by omega))); omega))) (by first | exact om_9592d9319ffa hn hz182 | first | omega | ((try (have i_gjl := Imp.go gjl (by omega))); (try (have i_gkl := Imp.go gkl (by omega))); (try (have i_wh := Imp.go wh (by omega))); (try (have i_coc := Imp.go coc (by omega))); first | omega | ((try (have i_coc := Imp.go coc (by omega))); (try (have i_wh := Imp.go wh (by omega))); (try (have i_gkl := Imp.go gkl (by omega))); (try (have i_gjl := Imp.go gjl (by omega))); omega))) hP hD hS (lv_sub hl [0, 2, 1, 5, 6, 7, 8, 9, 10, 11] rfl)
                      · skip
                        have f187 : ((V 53 (24 * b + (Int32.toNatClampNeg y10)))).toInt = ((V 53 (24 * b + (Int32.toNatClampNeg y10)))).toInt := b_eq rfl rfl c180
                        refine lv_iload hx hb dX0_candidates_156 (lv_at hl 0 rfl) ?_
                        refine lv_iconst (v := 1) hx hb dX0_candidates_158 (by decide) ?_
                        refine lv_iload hx hb dX0_candidates_159 (lv_at hl 4 rfl) ?_
                        refine lv_ishl hx hb dX0_candidates_161 ?_
                        refine lv_topi (fun z188 ez188 => ?_)
                        have hz188 : 0 ≤ z188.toInt ∧ z188.toInt < 16777216 := shl1 ez188 (by first | omega | ((try (have i_gjl := Imp.go gjl (by omega))); (try (have i_gkl := Imp.go gkl (by omega))); (try (have i_wh := Imp.go wh (by omega))); (try (have i_coc := Imp.go coc (by omega))); first | omega | ((try (have i_coc := Imp.go coc (by omega))); (try (have i_wh := Imp.go wh (by omega))); (try (have i_gkl := Imp.go gkl (by omega))); (try (have i_gjl := Imp.go gjl (by omega))); omega)))
                        refine lv_ior hx hb dX0_candidates_162 ?_
                        refine lv_topi (fun z189 ez189 => ?_)
                        have hz189 : 0 ≤ z189.toInt ∧ z189.toInt < 16777216 := or24 ez189 (by decide) (by first | omega | ((try (have i_gjl := Imp.go gjl (by omega))); (try (have i_gkl := Imp.go gkl (by omega))); (try (have i_wh := Imp.go wh (by omega))); (try (have i_coc := Imp.go coc (by omega))); first | omega | ((try (have i_coc := Imp.go coc (by omega))); (try (have i_wh := Imp.go wh (by omega))); (try (have i_gkl := Imp.go gkl (by omega))); (try (have i_gjl := Imp.go gjl (by omega))); omega)))
                        refine lv_istore (lv' := [(7, .int z189), (8, .int (V 53 (24 * b + (Int32.toNatClampNeg y10)))), (11, .int 1), (10, .ref (ad (72 + (24 * b + (Int32.toNatClampNeg y10))))), (9, .int y10), (6, .int (V 59 (8 * (24 * b + (Int32.toNatClampNeg p0)) + (Int32.toNatClampNeg p1)))), (5, .int (V 58 (8 * (24 * b + (Int32.toNatClampNeg p0)) + (Int32.toNatClampNeg p1)))), (4, .int (V 60 (8 * (24 * b + (Int32.toNatClampNeg p0)) + (Int32.toNatClampNeg p1)))), (3, .ref (ad (72 + (24 * b + (Int32.toNatClampNeg p0))))), (0, .ref (ad (38 + b))), (1, .int p0), (2, .int p1)]) hx hb dX0_candidates_163 hl (by decide) rfl (fun ls hl => ?_)
                        obtain ⟨z190, ez190⟩ : ∃ y : Int32, y = y10 + 1 := ⟨_, rfl⟩
                        have hz190 : z190.toInt = y10.toInt + 1 := i_add ez190 rfl (by decide) (by (first | exact om_2bedb82363d1 r1.2 r2 f17 kk9 | omega))
                        refine lv_iinc (v := z190) (lv' := [(9, .int z190), (7, .int z189), (8, .int (V 53 (24 * b + (Int32.toNatClampNeg y10)))), (11, .int 1), (10, .ref (ad (72 + (24 * b + (Int32.toNatClampNeg y10))))), (6, .int (V 59 (8 * (24 * b + (Int32.toNatClampNeg p0)) + (Int32.toNatClampNeg p1)))), (5, .int (V 58 (8 * (24 * b + (Int32.toNatClampNeg p0)) + (Int32.toNatClampNeg p1)))), (4, .int (V 60 (8 * (24 * b + (Int32.toNatClampNeg p0)) + (Int32.toNatClampNeg p1)))), (3, .ref (ad (72 + (24 * b + (Int32.toNatClampNeg p0))))), (0, .ref (ad (38 + b))), (1, .int p0), (2, .int p1)]) hx hb dX0_candidates_165 hl (k := 4) rfl (by rw [ez190]; rfl) (by decide) rfl (fun ls hl => ?_)
                        refine lv_goto (tgt := 40) hx hb dX0_candidates_168 (by decide) ?_
                        have r191 : Int32.toInt 1 = 1 := by decide
                        have su192 : suP gs.1 (svc V b (gs.2.1 1).length) (gs.1 (300 + 32 * gk + 4 * gj)) (gs.1 (302 + 32 * gk + 4 * gj)) (Int32.toNatClampNeg y10) = true := (suP_y ((h50 (gs.1 (300 + 32 * gk + 4 * gj)) (by omega)).symm.trans (by cases e9 : bt (V 50 (24 * b + (Int32.toNatClampNeg y10))) (gs.1 (300 + 32 * gk + 4 * gj)); exact absurd ((lb_get (x := V 50 (24 * b + (Int32.toNatClampNeg y10))) (f := (gs.1 (300 + 32 * gk + 4 * gj))) ez119 ez120 (show ((V 58 (8 * (24 * b + (Int32.toNatClampNeg p0)) + (Int32.toNatClampNeg p1)))).toInt = (((gs.1 (300 + 32 * gk + 4 * gj)) : Nat) : Int) from by omega) (by omega)).mpr e9) (by omega); rfl)) (by omega) (t131.resolve_right (fun h9 => by have h8 := h9.1; omega)).2)
                        have em9 : z190.toInt.toNat = (Int32.toNatClampNeg y10) + 1 := by (first | exact om_a1185fbb59ea kk9 kc18 hz190 | omega)
                        have eo9 : y10.toInt.toNat = (Int32.toNatClampNeg y10) := rfl
                        have b9 := xlp13_1
                        rw [eo9] at b9
                        have su193 : suP gs.1 (svc V b (gs.2.1 1).length) (gs.1 (300 + 32 * gk + 4 * gj)) (gs.1 (302 + 32 * gk + 4 * gj)) (Int32.toNatClampNeg y10) = true := (suP_y ((h50 (gs.1 (300 + 32 * gk + 4 * gj)) (by omega)).symm.trans (by cases e9 : bt (V 50 (24 * b + (Int32.toNatClampNeg y10))) (gs.1 (300 + 32 * gk + 4 * gj)); exact absurd ((lb_get (x := V 50 (24 * b + (Int32.toNatClampNeg y10))) (f := (gs.1 (300 + 32 * gk + 4 * gj))) ez119 ez120 (show ((V 58 (8 * (24 * b + (Int32.toNatClampNeg p0)) + (Int32.toNatClampNeg p1)))).toInt = (((gs.1 (300 + 32 * gk + 4 * gj)) : Nat) : Int) from by omega) (by omega)).mpr e9) (by omega); rfl)) (by omega) (t131.resolve_right (fun h9 => by have h8 := h9.1; omega)).2)
                        have em9 : z190.toInt.toNat = (Int32.toNatClampNeg y10) + 1 := by (first | exact om_26701d63f2fa em9 | omega)
                        have eo9 : y10.toInt.toNat = (Int32.toNatClampNeg y10) := rfl
                        have b9 := xlp13_1
                        rw [eo9] at b9
                        exact ihlp13 z190 (V 53 (24 * b + (Int32.toNatClampNeg y10))) z189 H locs ls (by first | exact om_9500b6342cf6 r1.2 r2 f17 kk9 hz190 | first | omega | ((try (have i_gjl := Imp.go gjl (by omega))); (try (have i_gkl := Imp.go gkl (by omega))); (try (have i_wh := Imp.go wh (by omega))); (try (have i_coc := Imp.go coc (by omega))); first | omega | ((try (have i_coc := Imp.go coc (by omega))); (try (have i_wh := Imp.go wh (by omega))); (try (have i_gkl := Imp.go gkl (by omega))); (try (have i_gjl := Imp.go gjl (by omega))); omega))) (by first | exact om_8a0dcf576dcd hz189.1 hz189.2 | first | omega | ((try (have i_gjl := Imp.go gjl (by omega))); (try (have i_gkl := Imp.go gkl (by omega))); (try (have i_wh := Imp.go wh (by omega))); (try (have i_coc := Imp.go coc (by omega))); first | omega | ((try (have i_coc := Imp.go coc (by omega))); (try (have i_wh := Imp.go wh (by omega))); (try (have i_gkl := Imp.go gkl (by omega))); (try (have i_gjl := Imp.go gjl (by omega))); omega))) (by rw [em9]; exact FND.hi rfl su192 (by have h8 := b9 (by omega); omega) (by omega) ez188 ez189 (show y10.toInt = (((Int32.toNatClampNeg y10) : Nat) : Int) from by (first | exact om_dadc9969542e kc18 | omega)) (by omega)) (fun h7 => by rw [em9]; exact (by have h8 := b9 h7; rw [bsP_h su193 (by omega)]; omega)) (show z190.toInt ≤ (((gs.2.1 2).length : Nat) : Int) from by first | exact om_bcda7a344117 ln f17 hz190 | first | omega | ((try (have i_gjl := Imp.go gjl (by omega))); (try (have i_gkl := Imp.go gkl (by omega))); (try (have i_wh := Imp.go wh (by omega))); (try (have i_coc := Imp.go coc (by omega))); first | omega | ((try (have i_coc := Imp.go coc (by omega))); (try (have i_wh := Imp.go wh (by omega))); (try (have i_gkl := Imp.go gkl (by omega))); (try (have i_gjl := Imp.go gjl (by omega))); omega))) (by first | exact om_9592d9319ffa hn hz190 | first | omega | ((try (have i_gjl := Imp.go gjl (by omega))); (try (have i_gkl := Imp.go gkl (by omega))); (try (have i_wh := Imp.go wh (by omega))); (try (have i_coc := Imp.go coc (by omega))); first | omega | ((try (have i_coc := Imp.go coc (by omega))); (try (have i_wh := Imp.go wh (by omega))); (try (have i_gkl := Imp.go gkl (by omega))); (try (have i_gjl := Imp.go gjl (by omega))); omega))) hP hD hS (lv_sub hl [0, 2, 1, 5, 6, 7, 8, 9, 10, 11] rfl)
              · skip
                have f194 : z128.toInt = 0 := b_eq rfl (by decide) c132
                refine lv_goto (tgt := 165) hx hb dX0_candidates_111 (by decide) ?_
                obtain ⟨z195, ez195⟩ : ∃ y : Int32, y = y10 + 1 := ⟨_, rfl⟩
                have hz195 : z195.toInt = y10.toInt + 1 := i_add ez195 rfl (by decide) (by (first | exact om_2bedb82363d1 r1.2 r2 f17 kk9 | omega))
                refine lv_iinc (v := z195) (lv' := [(9, .int z195), (11, .int 1), (10, .ref (ad (72 + (24 * b + (Int32.toNatClampNeg y10))))), (8, .int y11), (7, .int y12), (6, .int (V 59 (8 * (24 * b + (Int32.toNatClampNeg p0)) + (Int32.toNatClampNeg p1)))), (5, .int (V 58 (8 * (24 * b + (Int32.toNatClampNeg p0)) + (Int32.toNatClampNeg p1)))), (4, .int (V 60 (8 * (24 * b + (Int32.toNatClampNeg p0)) + (Int32.toNatClampNeg p1)))), (3, .ref (ad (72 + (24 * b + (Int32.toNatClampNeg p0))))), (0, .ref (ad (38 + b))), (1, .int p0), (2, .int p1)]) hx hb dX0_candidates_165 hl (k := 2) rfl (by rw [ez195]; rfl) (by decide) rfl (fun ls hl => ?_)
                refine lv_goto (tgt := 40) hx hb dX0_candidates_168 (by decide) ?_
                have r196 : Int32.toInt 1 = 1 := by decide
                have su197 : suP gs.1 (svc V b (gs.2.1 1).length) (gs.1 (300 + 32 * gk + 4 * gj)) (gs.1 (302 + 32 * gk + 4 * gj)) (Int32.toNatClampNeg y10) = false := (suP_3 (t131.resolve_left (fun h9 => by have h8 := h9.1; omega)).2)
                have em9 : z195.toInt.toNat = (Int32.toNatClampNeg y10) + 1 := by (first | exact om_a1185fbb59ea kk9 kc18 hz195 | omega)
                have eo9 : y10.toInt.toNat = (Int32.toNatClampNeg y10) := rfl
                have b9 := xlp13_1
                rw [eo9] at b9
                have su198 : suP gs.1 (svc V b (gs.2.1 1).length) (gs.1 (300 + 32 * gk + 4 * gj)) (gs.1 (302 + 32 * gk + 4 * gj)) (Int32.toNatClampNeg y10) = false := (suP_3 (t131.resolve_left (fun h9 => by have h8 := h9.1; omega)).2)
                have em9 : z195.toInt.toNat = (Int32.toNatClampNeg y10) + 1 := by (first | exact om_26701d63f2fa em9 | omega)
                have eo9 : y10.toInt.toNat = (Int32.toNatClampNeg y10) := rfl
                have b9 := xlp13_1
                rw [eo9] at b9
                exact ihlp13 z195 y11 y12 H locs ls (by first | exact om_9500b6342cf6 r1.2 r2 f17 kk9 hz195 | first | omega | ((try (have i_gjl := Imp.go gjl (by omega))); (try (have i_gkl := Imp.go gkl (by omega))); (try (have i_wh := Imp.go wh (by omega))); (try (have i_coc := Imp.go coc (by omega))); first | omega | ((try (have i_coc := Imp.go coc (by omega))); (try (have i_wh := Imp.go wh (by omega))); (try (have i_gkl := Imp.go gkl (by omega))); (try (have i_gjl := Imp.go gjl (by omega))); omega))) (by first | exact om_c51a6401fccc klp13_1.1 klp13_1.2 | first | omega | ((try (have i_gjl := Imp.go gjl (by omega))); (try (have i_gkl := Imp.go gkl (by omega))); (try (have i_wh := Imp.go wh (by omega))); (try (have i_coc := Imp.go coc (by omega))); first | omega | ((try (have i_coc := Imp.go coc (by omega))); (try (have i_wh := Imp.go wh (by omega))); (try (have i_gkl := Imp.go gkl (by omega))); (try (have i_gjl := Imp.go gjl (by omega))); omega))) (by rw [em9]; exact FND.no (by have h9 := xlp13_0; rw [eo9] at h9; exact h9) su197) (fun h7 => by rw [em9]; exact (by have h8 := b9 h7; rw [bsP_n su198]; omega)) (show z195.toInt ≤ (((gs.2.1 2).length : Nat) : Int) from by first | exact om_bcda7a344117 ln f17 hz195 | first | omega | ((try (have i_gjl := Imp.go gjl (by omega))); (try (have i_gkl := Imp.go gkl (by omega))); (try (have i_wh := Imp.go wh (by omega))); (try (have i_coc := Imp.go coc (by omega))); first | omega | ((try (have i_coc := Imp.go coc (by omega))); (try (have i_wh := Imp.go wh (by omega))); (try (have i_gkl := Imp.go gkl (by omega))); (try (have i_gjl := Imp.go gjl (by omega))); omega))) (by first | exact om_9592d9319ffa hn hz195 | first | omega | ((try (have i_gjl := Imp.go gjl (by omega))); (try (have i_gkl := Imp.go gkl (by omega))); (try (have i_wh := Imp.go wh (by omega))); (try (have i_coc := Imp.go coc (by omega))); first | omega | ((try (have i_coc := Imp.go coc (by omega))); (try (have i_wh := Imp.go wh (by omega))); (try (have i_gkl := Imp.go gkl (by omega))); (try (have i_gjl := Imp.go gjl (by omega))); omega))) hP hD hS (lv_sub hl [0, 3, 4, 5, 6, 7, 8, 9, 10, 11] rfl)
  have r199 : Int32.toInt 0 = 0 := by decide
  exact lp13 ((24 - (Int32.toInt 0) + 1 : Int).toNat) 0 0 0 H locs ls (by decide) (by decide) (by rw [show (Int32.toInt 0).toNat = 0 from by decide]; exact FND.z) (fun _ => by rw [show (Int32.toInt 0).toNat = 0 from by decide]; rfl) (show (Int32.toInt 0) ≤ (((gs.2.1 2).length : Nat) : Int) from by first | exact om_3f7d4d3a7b74 gkl r199 | first | omega | ((try (have i_gjl := Imp.go gjl (by omega))); (try (have i_gkl := Imp.go gkl (by omega))); (try (have i_wh := Imp.go wh (by omega))); (try (have i_coc := Imp.go coc (by omega))); first | omega | ((try (have i_coc := Imp.go coc (by omega))); (try (have i_wh := Imp.go wh (by omega))); (try (have i_gkl := Imp.go gkl (by omega))); (try (have i_gjl := Imp.go gjl (by omega))); omega))) (by first | exact om_817980d3aa47 | first | omega | ((try (have i_gjl := Imp.go gjl (by omega))); (try (have i_gkl := Imp.go gkl (by omega))); (try (have i_wh := Imp.go wh (by omega))); (try (have i_coc := Imp.go coc (by omega))); first | omega | ((try (have i_coc := Imp.go coc (by omega))); (try (have i_wh := Imp.go wh (by omega))); (try (have i_gkl := Imp.go gkl (by omega))); (try (have i_gjl := Imp.go gjl (by omega))); omega))) hP hD hS (lv_sub hl [0, 1, 2, 3, 4, 5, 6, 7, 8, 9] rfl)
