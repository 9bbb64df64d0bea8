section
/-! the E's of a BOOK pay for themselves: by how they were laid -/
section WFb
variable {V : Vf} {nx : Nat} {B : Bk}
theorem CEw.oq {nd : Int} {n9 : Nat} {ar : Bool} {a : Nat} (h : CEw nd ar V (10000 * nx) (10000 * nx + cl B.1) (10000 * nx + a)) (hn : nd ≤ (n9 : Int)) (cd : CDm V (10000 * nx) B.1) : OQ B n9 ar a 0 0 := by
  obtain ⟨h9, b, w, w0, w1, w2, w3⟩ := h
  have lt := w.lt
  obtain ⟨f, w⟩ := w
  obtain ⟨b2, rfl⟩ : ∃ b2, b = 10000 * nx + b2 := ⟨b - 10000 * nx, by omega⟩
  have hb : b2 < cl B.1 := by omega
  have ob : opf B.1 b2 = 0 := by
    have z := cd.ocT hb
    rw [w0] at z
    omega
  exact SEG hn cd f h9 _ _ w a b2 rfl rfl (by omega) 0 0 (by omega) ⟨1, hb, by omega, Or.inl ⟨ob, rfl⟩⟩
theorem WFB.of (tb : TBL V nx (10000 * nx + cl B.1)) (cd : CDm V (10000 * nx) B.1) (re : REm V nx B.1) (wm : WMm V nx B.1) (n19 : (V 19 nx).toInt = ((nC B : Nat) : Int)) (n39 : (V 39 nx).toInt = ((B.1.2.2.1.length : Nat) : Int)) (co : ∀ c, c < nC B → (V 27 (24 * nx + c)).toInt = ((bN B c : Nat) : Int)) : WFB B := by
  refine ⟨fun c k hb => ?_, fun i hi => ?_⟩
  · unfold bE at hb
    by_cases q : c < (B.1.2.1 2).length ∧ (k < 20 ∨ k = 30 ∨ k = 31)
    · rw [if_pos q] at hb
      rw [bE_i q.1 q.2]
      have z := re.2.1 c q.1 k q.2
      unfold rgm at z
      rw [if_neg hb] at z
      have t := tb.1 c (by rw [n19]; exact Int.ofNat_lt.mpr q.1)
      have go : ∀ x : Int32, x.toInt = ((10000 * nx : Nat) : Int) + ((nL B.1 (100 + 32 * c + k) - 1 : Nat) : Int) → stOK (V 27 (24 * nx + c)).toInt false V (10000 * nx) (10000 * nx + cl B.1) x → OQ B (bN B c) false (nL B.1 (100 + 32 * c + k) - 1) 0 0 := fun x hx st => by
        have ce := st (by omega)
        rw [show x.toInt.toNat = 10000 * nx + (nL B.1 (100 + 32 * c + k) - 1) from by omega] at ce
        exact CEw.oq ce.2.2 (by rw [co c q.1]; exact Int.le_refl _) cd
      unfold cM at z
      by_cases k20 : k < 20
      · rw [if_pos k20] at z
        exact go _ z (t.2.2.1 k k20)
      · rw [if_neg k20] at z
        by_cases k30 : k = 30
        · rw [if_pos k30] at z
          exact go _ z t.1
        · rw [if_neg k30] at z
          exact go _ z t.2.1
    · rw [if_neg q] at hb
      exact absurd rfl hb
  · have m : (bW B).getD i 0 ∈ bW B := by
      rw [gd_el hi]
      exact List.getElem_mem hi
    have hw := bW_mem m
    have hl : (bW B).getD i 0 < B.1.2.2.1.length := by
      unfold wN at hw
      omega
    have t := tb.2 _ (show (((bW B).getD i 0 : Nat) : Int) < (V 39 nx).toInt from by rw [n39]; exact Int.ofNat_lt.mpr hl)
    have r := wm.2 _ hl
    have ce := t.2.1
    have e44 := r.2.2.2.2
    have e43 := r.2.2.2.1
    rw [show (V 44 (12 * nx + (bW B).getD i 0)).toInt.toNat = 10000 * nx + wAt B i from by unfold wAt; omega, show decide ((V 43 (12 * nx + (bW B).getD i 0)).toInt = 1) = decide (nL B.1 (903 + 8 * (bW B).getD i 0) = 1) from decide_eq_decide.mpr (by omega)] at ce
    exact CEw.oq ce.2.2 (Int.le_refl _) cd
end WFb
/-! an E names settings that are there -/
def BGq (s : St) : Prop := 25 ≤ (s.2.1 2).length ∨ 13 ≤ s.2.2.1.length ∨ 21 ≤ (s.2.1 3).length
def okQs (s : St) (i : Nat) : Prop := i < cl s ∧ opf s i ≠ 11
def QIt (s : St) (i : It) : Prop := (i.1 = 42 → i.2.1 ≠ 11) ∧ (i.1 = 44 → okQs s (i.2.2.2.2.2.headD 0)) ∧ (i.1 = 45 → okQs s i.2.1)
def QIs (s : St) : List It → Prop
  | [] => True
  | i :: k => QIt s i ∧ QIs s k
def QS (s : St) : Prop := BGq s ∨ SEs s
def QK (s : St) (k : List It) : Prop := BGq s ∨ QIs s k
def QO (s : St) (i : It) : Prop := BGq s ∨ QIt s i
def QP : Cf → Prop
  | .inl (s, k) => QS s ∧ QK s k
  | .inr (.inl _) => True
  | .inr (.inr s) => QS s
def keepQ (s s' : St) : Prop := (BGq s → BGq s') ∧ (¬ BGq s → (∀ j, j = 5 ∨ 2000 ≤ j → s'.2.1 j = s.2.1 j) ∧ (s.2.1 1).length ≤ (s'.2.1 1).length)
section QPs
variable {T : Tk} {s s' : St} {k : List It}
theorem keepQ.sm (e : s'.2.1 = s.2.1) (e2 : s'.2.2.1 = s.2.2.1) : keepQ s s' := by
  refine ⟨fun h => ?_, fun _ => ⟨fun j _ => by rw [e], by rw [e]; exact Nat.le_refl _⟩⟩
  unfold BGq at h ⊢
  rw [e, e2]
  exact h
theorem keepQ.n1 {n : Nat} : keepQ s (nx s n) := keepQ.sm rfl rfl
theorem keepQ.sn {i v : Nat} : keepQ s (sN s i v) := keepQ.sm rfl rfl
theorem keepQ.st {l : List Nat} : keepQ s (sT s l) := keepQ.sm rfl rfl
theorem keepQ.sc : keepQ s (scopeS s) := keepQ.sm rfl rfl
theorem keepQ.nd {a : Int} {f ca : Nat} : keepQ s (ndS s a f ca) := keepQ.sm rfl rfl
theorem upB_ge (f : Nat → List Int64) (t : Nat) (w : Int64) (j : Nat) : (f j).length ≤ (upB f t w j).length := by
  by_cases q : j = t
  · rw [q, upB_l]
    omega
  · rw [upB_o _ _ _ q]
    exact Nat.le_refl _
theorem keepQ.ub {t : Nat} {w : Int64} (ht : t < 5) (e : s'.2.1 = upB s.2.1 t w) (e2 : s'.2.2.1 = s.2.2.1) : keepQ s s' := by
  refine ⟨fun h => ?_, fun _ => ⟨fun j hj => by rw [e, upB_o _ _ _ (by omega)], by rw [e]; exact upB_ge _ _ _ _⟩⟩
  unfold BGq at h ⊢
  rw [e, e2]
  have z2 := upB_ge s.2.1 t w 2
  have z3 := upB_ge s.2.1 t w 3
  omega
theorem keepQ.sa {j : Nat} {w : Int64} (hj : j < 5) : keepQ s (sA s j w) := keepQ.ub hj rfl rfl
theorem keepQ.ty {w : Int64} {l : List Nat} : keepQ s (tyS s w l) := keepQ.ub (t := 0) (by decide) rfl rfl
theorem keepQ.se {w : Int64} {v : Nat} : keepQ s (seS s w v) := keepQ.ub (t := 1) (by decide) rfl rfl
theorem keepQ.nm {m : Nat} {sc : Int} {w : Int64} {l : List Nat} : keepQ s (nmS s m sc w l) := keepQ.ub (t := 2) (by decide) rfl rfl
theorem keepQ.gl {j : Nat} {x : List Int64} (h5 : 5 ≤ j) (h : ¬ BGq s → j ≠ 5 ∧ j < 2000) : keepQ s (sLl s j x) := by
  refine ⟨fun b => ?_, fun b => ⟨fun i hi => sL_o s x (by have := h b; omega), by rw [sL_o s x (by omega)]; exact Nat.le_refl _⟩⟩
  unfold BGq at b ⊢
  rw [sL_o s x (by omega), sL_o s x (by omega)]
  exact b
theorem keepQ.wS {m : Nat} {a : Int} {l : List Nat} : keepQ s (wrS s m a l) := by
  have o : ∀ j, j < 900 → (wrS s m a l).2.1 j = s.2.1 j := fun j hj => if_neg (by omega)
  have lw : (wrS s m a l).2.2.1.length = s.2.2.1.length + 1 := by
    show (s.2.2.1 ++ [(m, decide (a = 1))]).length = _
    rw [List.length_append]
    rfl
  refine ⟨fun b => ?_, fun b => ⟨fun j hj => ?_, by rw [o 1 (by decide)]; exact Nat.le_refl _⟩⟩
  · unfold BGq at b ⊢
    rw [o 2 (by decide), o 3 (by decide), lw]
    omega
  · unfold BGq at b
    exact if_neg (by omega)
theorem QS.kq (h : QS s) (q : keepQ s s') : QS s' := by
  by_cases b : BGq s
  · exact Or.inl (q.1 b)
  · have h2 := h.resolve_left b
    have k := q.2 b
    refine Or.inr (fun i hi ho => ?_)
    have ec : cl s' = cl s := congrArg List.length (k.1 5 (Or.inl rfl))
    have eo : opf s' i = opf s i := congrArg List.length (k.1 (2000 + 3 * i) (Or.inr (by omega)))
    have ex : nL s' (2001 + 3 * i) = nL s (2001 + 3 * i) := congrArg List.length (k.1 (2001 + 3 * i) (Or.inr (by omega)))
    rw [ec] at hi
    rw [eo] at ho
    have z := h2 i hi ho
    rw [ex]
    exact Nat.lt_of_lt_of_le z k.2
theorem QIs.of (f : ∀ i, QIt s i → QIt s' i) : ∀ k, QIs s k → QIs s' k
  | [], _ => trivial
  | i :: k, h => ⟨f i h.1, QIs.of f k h.2⟩
theorem QIt.mv {i : It} (h : QIt s i) (f : ∀ j, okQs s j → okQs s' j) : QIt s' i := ⟨h.1, fun e => f _ (h.2.1 e), fun e => f _ (h.2.2 e)⟩
theorem QK.kq (h : QK s k) (q : keepQ s s') : QK s' k := by
  by_cases b : BGq s
  · exact Or.inl (q.1 b)
  · have h2 := h.resolve_left b
    have z := q.2 b
    refine Or.inr (QIs.of (fun i hi => hi.mv (fun j hj => ?_)) k h2)
    have ec : cl s' = cl s := congrArg List.length (z.1 5 (Or.inl rfl))
    have eo : opf s' j = opf s j := congrArg List.length (z.1 (2000 + 3 * j) (Or.inr (by omega)))
    exact ⟨by rw [ec]; exact hj.1, by rw [eo]; exact hj.2⟩
theorem QK.c {i : It} (hi : (i.1 == 42 || i.1 == 44 || i.1 == 45) = false) (h : QK s k) : QK s (i :: k) := by
  rw [Bool.or_eq_false_iff, Bool.or_eq_false_iff] at hi
  rcases h with h | h
  · exact Or.inl h
  · exact Or.inr ⟨⟨fun e => absurd e (ne_of_beq_false hi.1.1), fun e => absurd e (ne_of_beq_false hi.1.2), fun e => absurd e (ne_of_beq_false hi.2)⟩, h⟩
theorem QK.m {o : Nat} (ho : o ≠ 11) (h : QK s k) : QK s (Iem o :: k) := by
  rcases h with h | h
  · exact Or.inl h
  · exact Or.inr ⟨⟨fun _ => ho, fun e => absurd (show (42 : Nat) = 44 from e) (by decide), fun e => absurd (show (42 : Nat) = 45 from e) (by decide)⟩, h⟩
theorem QK.p2 {d i : Nat} (ho : okQs s i) (h : QK s k) : QK s (Ipk2 d i :: k) := by
  rcases h with h | h
  · exact Or.inl h
  · exact Or.inr ⟨⟨fun e => absurd (show (44 : Nat) = 42 from e) (by decide), fun _ => ho, fun e => absurd (show (44 : Nat) = 45 from e) (by decide)⟩, h⟩
theorem QK.p3 {i : Nat} (ho : okQs s i) (h : QK s k) : QK s (Ipk3 i :: k) := by
  rcases h with h | h
  · exact Or.inl h
  · exact Or.inr ⟨⟨fun e => absurd (show (45 : Nat) = 42 from e) (by decide), fun e => absurd (show (45 : Nat) = 44 from e) (by decide), fun _ => ho⟩, h⟩
theorem BGq.em {o : Nat} {x : List Int64} {y : Nat} (h : BGq s) : BGq (emL s o x y) := by
  unfold BGq at h ⊢
  rw [emS_5 s o x y 2 (by decide), emS_5 s o x y 3 (by decide)]
  exact h
theorem okQs.em {o i : Nat} {x : List Int64} {y : Nat} (h : okQs s i) : okQs (emL s o x y) i := ⟨by rw [cl_em]; have := h.1; omega, by rw [opf_em s o x y h.1]; exact h.2⟩
theorem QS.em9 {o : Nat} {x : List Int64} {y : Nat} (h : QS s) (ho : BGq s ∨ o ≠ 11) : QS (emL s o x y) := by
  by_cases b : BGq s
  · exact Or.inl b.em
  · have h2 := h.resolve_left b
    have ho := ho.resolve_left b
    refine Or.inr (fun i hi e => ?_)
    rw [cl_em] at hi
    by_cases q : i = cl s
    · rw [q] at e
      have e2 : nL (emL s o x y) (2000 + 3 * cl s) = 11 := e
      rw [op_em] at e2
      exact absurd e2 ho
    · rw [opf_em s o x y (show i < cl s from by omega)] at e
      rw [nL_em s o x y (by omega) (Or.inl (by omega)), emS_5 s o x y 1 (by decide)]
      exact h2 i (by omega) e
theorem QS.em {o : Nat} {x : List Int64} {y : Nat} (h : QS s) (ho : o ≠ 11) : QS (emL s o x y) := h.em9 (Or.inr ho)
theorem QS.e1 {f : Nat} (h : QS s) (hf : f < (s.2.1 1).length) : QS (emS s 11 f 0) := by
  by_cases b : BGq s
  · exact Or.inl b.em
  · have h2 := h.resolve_left b
    refine Or.inr (fun i hi e => ?_)
    rw [cl_em] at hi
    rw [emS_5 s 11 _ 0 1 (by decide)]
    by_cases q : i = cl s
    · rw [q, x_em, List.length_replicate]
      exact hf
    · rw [opf_em s 11 _ 0 (show i < cl s from by omega)] at e
      rw [nL_em s 11 _ 0 (by omega) (Or.inl (by omega))]
      exact h2 i (by omega) e
theorem QK.em {o : Nat} {x : List Int64} {y : Nat} (h : QK s k) : QK (emL s o x y) k := by
  rcases h with h | h
  · exact Or.inl h.em
  · exact Or.inr (QIs.of (fun i hi => hi.mv (fun j hj => hj.em)) k h)
theorem BGq.pt {i x : Nat} (h : BGq s) : BGq (ptS s i x) := by
  unfold BGq at h ⊢
  have e : ∀ j, j < 5 → (ptS s i x).2.1 j = s.2.1 j := fun j hj => sL_o s _ (by omega)
  rw [e 2 (by decide), e 3 (by decide)]
  exact h
theorem QS.pt {i x : Nat} (h : QS s) (ho : BGq s ∨ okQs s i) : QS (ptS s i x) := by
  by_cases b : BGq s
  · exact Or.inl b.pt
  · have h2 := h.resolve_left b
    have ho := ho.resolve_left b
    refine Or.inr (fun j hj e => ?_)
    rw [cl_pt] at hj
    rw [opf_pt] at e
    have e1 : (ptS s i x).2.1 1 = s.2.1 1 := sL_o s _ (by omega)
    have ne : j ≠ i := fun q => ho.2 (by rw [← q]; exact e)
    have ex : nL (ptS s i x) (2001 + 3 * j) = nL s (2001 + 3 * j) := nL_o s _ (by omega)
    rw [ex, e1]
    exact h2 j hj e
theorem QK.pt {i x : Nat} (h : QK s k) : QK (ptS s i x) k := by
  rcases h with h | h
  · exact Or.inl h.pt
  · exact Or.inr (QIs.of (fun j hj => hj.mv (fun t ht => ⟨by rw [cl_pt]; exact ht.1, by rw [opf_pt]; exact ht.2⟩)) k h)
theorem QO.em {o m : Nat} {sc x : Int} {w : Int64} {l : List Nat} {z : List Int64} {y : Nat} (h : QO s (44, m, sc, x, w, l)) : BGq (emL s o z y) ∨ okQs (emL s o z y) (l.headD 0) := by
  rcases h with h | h
  · exact Or.inl h.em
  · exact Or.inr (h.2.1 rfl).em
theorem okQs.n2 : okQs (emS s 12 0 0) (cl s) := ⟨by rw [cl_em]; omega, by rw [show opf (emS s 12 0 0) (cl s) = 12 from op_em s 12 _ 0]; decide⟩
theorem okQs.n3 {i x : Nat} : okQs (ptS (emS s 13 0 0) i x) (cl s) := ⟨by rw [cl_pt, cl_em]; omega, by rw [opf_pt, show opf (emS s 13 0 0) (cl s) = 13 from op_em s 13 _ 0]; decide⟩
theorem QP.i2 {p : Prop} [Decidable p] {a b : Cf} (ha : p → QP a) (hb : ¬ p → QP b) : QP (if p then a else b) := by
  split
  · exact ha ‹_›
  · exact hb ‹_›
theorem QP.lk {l : List Int64} {f : Nat → Cf} (h : ∀ x, fndI l (T.2.1 (s.1 0)) = some x → QP (f x)) : QP (look T s l f) := by
  unfold look
  refine QP.i2 (fun _ => trivial) (fun _ => ?_)
  split
  · exact trivial
  · rename_i x e
    exact h x e
theorem QP.nw {f : Int64 → Cf} (h : ∀ w, QP (f w)) : QP (newN T s f) := by
  unfold newN
  exact QP.i2 (fun _ => trivial) (fun _ => QP.i2 (fun _ => trivial) (fun _ => h _))
theorem QP.mw {j : Nat} {f : Nat × St → Cf} (hj : j = 3 ∨ j = 4) (hs : QS s) (hk : QK s k) (h : ∀ x : Nat × St, QS x.2 → QK x.2 k → (¬ BGq x.2 → j = 3 → x.1 ≤ 20) → x.2.2.1 2 = s.2.1 2 → QP (f x)) : QP (mthW T s j f) := by
  unfold mthW
  refine QP.i2 (fun _ => trivial) (fun _ => ?_)
  unfold nbrW
  split
  · rename_i x e
    refine h _ (hs.kq keepQ.n1) (hk.kq keepQ.n1) (fun b q => ?_) rfl
    have z := fnd_le e
    rw [q] at z
    have b : ¬ (25 ≤ (s.2.1 2).length ∨ 13 ≤ s.2.2.1.length ∨ 21 ≤ (s.2.1 3).length) := b
    show x ≤ 20
    omega
  · refine QP.i2 (fun _ => trivial) (fun q => h _ ((hs.kq keepQ.n1).kq (keepQ.sa (by omega))) ((hk.kq keepQ.n1).kq (keepQ.sa (by omega))) (fun _ _ => ?_) (upB_o _ _ _ (by omega)))
    show (s.2.1 j).length ≤ 20
    omega
theorem QP.mn {f : Nat × St → Cf} (hs : QS s) (hk : QK s k) (h : ∀ x : Nat × St, QS x.2 → QK x.2 k → (¬ BGq x.2 → (3 : Nat) = 3 → x.1 ≤ 20) → x.2.2.1 2 = s.2.1 2 → QP (f x)) : QP (mthN T s f) := by
  unfold mthN
  exact QP.i2 (fun _ => trivial) (fun _ => QP.mw (Or.inl rfl) hs hk h)
theorem QP.nu {lo hi : Int} {f : Nat → Cf} (h : ∀ v, QP (f v)) : QP (numW T s lo hi f) := by
  unfold numW
  exact QP.i2 (fun _ => trivial) (fun _ => QP.i2 (fun _ => trivial) (fun _ => h _))
theorem QP.it (h : QS s) (hk : QK s k) : (i : It) → QO s i → QP (itW T s k i)
  | (0, _, _, _, _, _), _ => QP.i2 (fun _ => ⟨h.kq keepQ.n1, (hk.kq keepQ.n1)⟩) (fun _ => trivial)
  | (1, _, _, _, _, _), _ => ⟨h, (QK.c rfl (QK.c rfl hk))⟩
  | (2, _, _, _, _, _), _ => QP.i2 (fun _ => ⟨h.kq keepQ.n1, (QK.c rfl (QK.m (by split <;> decide) (hk.kq keepQ.n1)))⟩) (fun _ => ⟨h, hk⟩)
  | (3, _, _, _, _, _), _ => ⟨h, (QK.c rfl (QK.c rfl hk))⟩
  | (4, _, _, _, _, _), _ => QP.i2 (fun _ => ⟨h.kq keepQ.n1, (QK.c rfl (QK.m (by split <;> decide) (QK.c rfl (hk.kq keepQ.n1))))⟩) (fun _ => ⟨h, hk⟩)
  | (5, _, _, _, _, _), _ => ⟨h, (QK.c rfl (QK.c rfl hk))⟩
  | (6, _, _, _, _, _), _ => QP.i2 (fun _ => ⟨h.kq keepQ.n1, (QK.c rfl (QK.m (by decide) (QK.c rfl (hk.kq keepQ.n1))))⟩) (fun _ => ⟨h, hk⟩)
  | (7, d, _, _, _, _), _ => by
    show QP (if ¬ bgP T s then fl T s 1 else if 8 ≤ d then fl T s 5 else partW T s d k)
    refine QP.i2 (fun _ => trivial) (fun _ => QP.i2 (fun _ => trivial) (fun _ => ?_))
    unfold partW
    exact QP.i2 (fun _ => ⟨((h.kq keepQ.n1).em (by decide)).em (by decide), ((hk.kq keepQ.n1).em).em⟩) (fun _ => QP.i2 (fun _ => ⟨(h.kq keepQ.n1).em (by decide), (QK.m (by decide) ((hk.kq keepQ.n1).em))⟩) (fun _ => QP.i2 (fun _ => ⟨(h.kq keepQ.n1).em (by decide), (QK.c rfl (QK.c rfl ((hk.kq keepQ.n1).em)))⟩) (fun _ => QP.i2 (fun _ => ⟨(h.kq keepQ.n1).em (by decide), (QK.c rfl (QK.m (by decide) ((hk.kq keepQ.n1).em)))⟩) (fun _ => QP.i2 (fun _ => ⟨(h.kq keepQ.n1).em (by decide), (QK.c rfl ((hk.kq keepQ.n1).em))⟩) (fun _ => QP.i2 (fun _ => ⟨(h.kq keepQ.n1).em (by decide), (QK.c rfl ((hk.kq keepQ.n1).em))⟩) (fun _ => QP.i2 (fun _ => ⟨(h.kq keepQ.n1).em (by decide), (QK.c rfl (QK.c rfl (QK.c rfl (QK.c rfl ((hk.kq keepQ.n1).em)))))⟩) (fun _ => QP.i2 (fun _ => ⟨(h.kq keepQ.n1).em (by decide), (QK.c rfl ((hk.kq keepQ.n1).em))⟩) (fun _ => ⟨(h.kq keepQ.n1).em (by decide), (QK.c rfl (QK.c rfl (QK.c rfl (QK.m (by decide) ((hk.kq keepQ.n1).em)))))⟩))))))))
  | (8, _, _, _, _, _), _ => QP.i2 (fun _ => trivial) (fun _ => QP.i2 (fun _ => trivial) (fun _ => ⟨h.kq keepQ.n1, (hk.kq keepQ.n1)⟩))
  | (9, _, _, _, _, _), _ => QP.lk (fun x hx => ⟨(h.kq keepQ.n1).e1 (show x < ((nx s 1).2.1 1).length from fnd_le hx), (hk.kq keepQ.n1).em⟩)
  | (10, _, _, _, _, _), _ => QP.mw (by decide) h hk (fun _ g gk _ _ => ⟨g, (QK.c rfl (QK.c rfl (QK.c rfl (QK.c rfl gk))))⟩)
  | (11, _, _, _, _, _), _ => QP.mw (by decide) h hk (fun _ g gk _ _ => ⟨g, (QK.c rfl (QK.c rfl (QK.c rfl gk)))⟩)
  | (12, _, _, _, _, _), _ => by
    show QP (stmtW T s k)
    unfold stmtW
    exact QP.i2 (fun _ => h) (fun _ => QP.i2 (fun _ => QP.i2 (fun _ => trivial) (fun _ => ⟨h.kq keepQ.n1, (QK.c rfl (hk.kq keepQ.n1))⟩)) (fun _ => QP.i2 (fun _ => QP.i2 (fun _ => trivial) (fun _ => ⟨h.kq keepQ.n1, (QK.c rfl (hk.kq keepQ.n1))⟩)) (fun _ => QP.i2 (fun _ => QP.i2 (fun _ => trivial) (fun _ => ⟨h.kq keepQ.n1, (QK.c rfl (hk.kq keepQ.n1))⟩)) (fun _ => QP.i2 (fun _ => QP.i2 (fun _ => trivial) (fun _ => ⟨h.kq keepQ.n1, (QK.c rfl (hk.kq keepQ.n1))⟩)) (fun _ => trivial)))))
  | (13, _, _, _, _, _), _ => QP.nw (f := fun w => Crun (nx s 1) (Ilike w :: k)) (fun _ => ⟨h.kq keepQ.n1, (QK.c rfl (hk.kq keepQ.n1))⟩)
  | (14, _, _, _, _, _), _ => QP.lk (fun _ _ => QP.i2 (fun _ => trivial) (fun _ => QP.i2 (fun _ => trivial) (fun _ => ⟨h.kq keepQ.n1, (QK.c rfl (hk.kq keepQ.n1))⟩)))
  | (15, _, _, _, _, _), _ => ⟨h.kq keepQ.ty, hk.kq keepQ.ty⟩
  | (16, _, _, _, _, _), _ => QP.nw (f := fun w => Crun (nx s 1) (IsetN w :: k)) (fun _ => ⟨h.kq keepQ.n1, (QK.c rfl (hk.kq keepQ.n1))⟩)
  | (17, _, _, _, _, _), _ => ⟨h.kq keepQ.se, hk.kq keepQ.se⟩
  | (18, _, _, _, _, _), _ => QP.nw (f := fun w => Crun (nx s 1) (Itake 132 :: Itypes 1 w 0 [] :: k)) (fun _ => ⟨h.kq keepQ.n1, (QK.c rfl (QK.c rfl (hk.kq keepQ.n1)))⟩)
  | (19, _, _, _, _, _), _ => QP.i2 (fun _ => trivial) (fun _ => ⟨h.kq keepQ.sc, (QK.c rfl (hk.kq keepQ.sc))⟩)
  | (20, _, _, _, _, _), _ => QP.i2 (fun _ => ⟨h.kq keepQ.n1, (QK.c rfl (hk.kq keepQ.n1))⟩) (fun _ => ⟨h, (QK.c rfl (QK.c rfl (QK.c rfl hk)))⟩)
  | (21, _, _, _, _, _), _ => QP.i2 (fun _ => ⟨h.kq keepQ.n1, (QK.c rfl (hk.kq keepQ.n1))⟩) (fun _ => ⟨h, (QK.c rfl hk)⟩)
  | (22, _, _, _, _, _), _ => QP.i2 (fun _ => ⟨h.kq keepQ.n1, (QK.c rfl (hk.kq keepQ.n1))⟩) (fun _ => ⟨h, (QK.c rfl (QK.c rfl (QK.c rfl hk)))⟩)
  | (23, _, _, _, _, _), _ => ⟨h.kq keepQ.nm, hk.kq keepQ.nm⟩
  | (24, _, _, _, _, _), _ => by
    show QP (memberW T s k)
    unfold memberW
    exact QP.i2 (fun _ => ⟨h.kq keepQ.n1, (QK.c rfl (hk.kq keepQ.n1))⟩) (fun _ => QP.i2 (fun _ => QP.i2 (fun _ => trivial) (fun _ => ⟨h.kq keepQ.n1, (QK.c rfl (hk.kq keepQ.n1))⟩)) (fun _ => QP.i2 (fun _ => QP.i2 (fun _ => trivial) (fun _ => ⟨((h.kq keepQ.sn).kq keepQ.n1).kq (keepQ.gl (by omega) (fun b9 => by unfold BGq at b9; have b8 : ¬ (25 ≤ (s.2.1 2).length ∨ 13 ≤ s.2.2.1.length ∨ 21 ≤ (s.2.1 3).length) := b9; omega)), (QK.c rfl (QK.m (by decide) (QK.c rfl (QK.c rfl (((hk.kq keepQ.sn).kq keepQ.n1).kq (keepQ.gl (by omega) (fun b9 => by unfold BGq at b9; have b8 : ¬ (25 ≤ (s.2.1 2).length ∨ 13 ≤ s.2.2.1.length ∨ 21 ≤ (s.2.1 3).length) := b9; omega)))))))⟩)) (fun _ => QP.i2 (fun _ => QP.i2 (fun _ => trivial) (fun _ => ⟨((h.kq keepQ.sn).kq keepQ.n1).kq (keepQ.gl (by omega) (fun b9 => by unfold BGq at b9; have b8 : ¬ (25 ≤ (s.2.1 2).length ∨ 13 ≤ s.2.2.1.length ∨ 21 ≤ (s.2.1 3).length) := b9; omega)), (QK.c rfl (QK.m (by decide) (QK.c rfl (QK.c rfl (((hk.kq keepQ.sn).kq keepQ.n1).kq (keepQ.gl (by omega) (fun b9 => by unfold BGq at b9; have b8 : ¬ (25 ≤ (s.2.1 2).length ∨ 13 ≤ s.2.2.1.length ∨ 21 ≤ (s.2.1 3).length) := b9; omega)))))))⟩)) (fun _ => QP.i2 (fun _ => ⟨h.kq keepQ.n1, (QK.c rfl (QK.c rfl (QK.m (by decide) (QK.c rfl (QK.c rfl (hk.kq keepQ.n1))))))⟩) (fun _ => trivial)))))
  | (25, _, _, _, _, _), _ => QP.lk (fun _ _ => QP.i2 (fun _ => ⟨h.kq keepQ.n1, (QK.c rfl (QK.c rfl (QK.c rfl (hk.kq keepQ.n1))))⟩) (fun _ => ⟨h.kq keepQ.n1, (QK.c rfl (hk.kq keepQ.n1))⟩))
  | (26, _, _, _, _, _), _ => ⟨h.kq keepQ.nd, hk.kq keepQ.nd⟩
  | (27, _, _, _, _, _), _ => QP.mn h hk (fun x g gk hx e2 => ⟨(g.kq keepQ.st).kq (keepQ.gl (by omega) (fun b9 => by have b8 : ¬ (25 ≤ (x.2.2.1 2).length ∨ 13 ≤ x.2.2.2.1.length ∨ 21 ≤ (x.2.2.1 3).length) := b9; have b7 := hx b9 rfl; rw [e2] at b8; omega)), (gk.kq keepQ.st).kq (keepQ.gl (by omega) (fun b9 => by have b8 : ¬ (25 ≤ (x.2.2.1 2).length ∨ 13 ≤ x.2.2.2.1.length ∨ 21 ≤ (x.2.2.1 3).length) := b9; have b7 := hx b9 rfl; rw [e2] at b8; omega))⟩)
  | (28, _, _, _, _, _), _ => QP.lk (fun _ _ => ⟨h.kq keepQ.n1, (QK.c rfl (QK.c rfl (hk.kq keepQ.n1)))⟩)
  | (29, _, _, _, _, _), _ => QP.mw (by decide) h hk (fun _ g gk _ _ => ⟨g, (QK.c rfl gk)⟩)
  | (30, _, _, _, _, _), _ => QP.i2 (fun _ => trivial) (fun _ => QP.i2 (fun _ => trivial) (fun _ => ⟨(h.kq keepQ.n1).kq keepQ.sn, (QK.c rfl (QK.m (by decide) (QK.c rfl (QK.c rfl (QK.c rfl ((hk.kq keepQ.n1).kq keepQ.sn))))))⟩))
  | (31, _, _, _, _, _), _ => ⟨h.kq keepQ.wS, hk.kq keepQ.wS⟩
  | (32, _, _, _, _, _), _ => QP.i2 (fun _ => ⟨h.kq keepQ.n1, (QK.c rfl (hk.kq keepQ.n1))⟩) (fun _ => ⟨h, (QK.c rfl (QK.c rfl (QK.c rfl hk)))⟩)
  | (33, _, _, _, _, _), _ => QP.i2 (fun _ => ⟨h.kq keepQ.n1, (QK.c rfl (hk.kq keepQ.n1))⟩) (fun _ => ⟨h, (QK.c rfl hk)⟩)
  | (34, _, _, _, _, _), _ => QP.i2 (fun _ => ⟨h.kq keepQ.n1, (QK.c rfl (hk.kq keepQ.n1))⟩) (fun _ => QP.i2 (fun _ => ⟨h.kq keepQ.n1, (QK.c rfl (hk.kq keepQ.n1))⟩) (fun _ => ⟨h, (QK.c rfl hk)⟩))
  | (35, _, _, _, _, _), _ => QP.i2 (fun _ => ⟨h, (QK.c rfl (QK.c rfl (QK.c rfl hk)))⟩) (fun _ => ⟨h, (QK.c rfl hk)⟩)
  | (36, _, _, _, w, _), _ => QP.nu (T := T) (s := s) (lo := 0) (hi := 999999999) (f := fun v => Crun (nx s 1) (Itake 59 :: IaddSe w v :: Istmt :: k)) (fun _ => ⟨h.kq keepQ.n1, (QK.c rfl (QK.c rfl (QK.c rfl (hk.kq keepQ.n1))))⟩)
  | (37, _, _, _, _, _), _ => QP.i2 (fun _ => ⟨h.kq keepQ.n1, (QK.c rfl (hk.kq keepQ.n1))⟩) (fun _ => ⟨h, (QK.c rfl hk)⟩)
  | (38, _, _, _, _, _), _ => QP.mw (by decide) h hk (fun _ g gk _ _ => ⟨g, (QK.c rfl gk)⟩)
  | (39, m, sc, _, w, l), _ => QP.nu (T := T) (s := s) (lo := 0) (hi := 9) (f := fun v => Crun (nx s 1) (IwhenI m sc w (v :: l) :: k)) (fun _ => ⟨h.kq keepQ.n1, (QK.c rfl (hk.kq keepQ.n1))⟩)
  | (40, _, _, _, _, _), _ => QP.lk (fun _ _ => ⟨h.kq keepQ.n1, (QK.c rfl (hk.kq keepQ.n1))⟩)
  | (41, m, sc, _, w, l), _ => QP.nu (T := T) (s := s) (lo := 0) (hi := 999999999) (f := fun v => Crun (nx s 1) (Itake 123 :: IaddNm m sc w (v :: l) :: Imember :: k)) (fun _ => ⟨h.kq keepQ.n1, (QK.c rfl (QK.c rfl (QK.c rfl (hk.kq keepQ.n1))))⟩)
  | (42, _, _, _, _, _), o => ⟨h.em9 (o.imp id (fun z => z.1 rfl)), hk.em⟩
  | (43, _, _, _, _, _), _ => ⟨h.em (by decide), QK.c rfl (QK.c rfl (QK.p2 okQs.n2 hk.em))⟩
  | (44, _, _, _, _, l), o => ⟨(h.em (by decide)).pt (QO.em o), QK.c rfl (QK.c rfl (QK.p3 okQs.n3 (hk.em.pt)))⟩
  | (45, _, _, _, _, _), o => ⟨h.pt (o.imp id (fun z => z.2.2 rfl)), hk.pt⟩
  | (46, d, _, _, _, _), _ => QP.nu (T := T) (s := s) (lo := 0) (hi := ((s.1 1 : Nat) : Int) - 1) (f := fun v => Crun (nx s 1) (Itake 46 :: IofM d v :: k)) (fun _ => ⟨h.kq keepQ.n1, (QK.c rfl (QK.c rfl (hk.kq keepQ.n1)))⟩)
  | (47, _, _, _, _, _), _ => ⟨h.em (by decide), hk.em⟩
  | (48, _, _, _, _, _), _ => QP.nu (T := T) (s := s) (lo := 1) (hi := 9) (f := fun v => Crun (emS (nx s 1) 10 v 0) k) (fun _ => ⟨(h.kq keepQ.n1).em (by decide), (hk.kq keepQ.n1).em⟩)
  | (49, f, _, _, _, l), _ => QP.nu (T := T) (s := s) (lo := 0) (hi := 99) (f := fun v => Crun (nx s 1) (Iphase (l.headD 0) [f, v] :: k)) (fun _ => ⟨h.kq keepQ.n1, (QK.c rfl (hk.kq keepQ.n1))⟩)
  | (_ + 50, _, _, _, _, _), _ => ⟨h, hk⟩
theorem QP.st {c : Cf} (h : QP c) : QP (mst T c) := by
  cases c with
  | inr c => exact h
  | inl c =>
    obtain ⟨s, k⟩ := c
    cases k with
    | nil => exact h
    | cons i k =>
      rcases h with ⟨h1, h2 | h2⟩
      · exact QP.it (s := s) h1 (Or.inl h2) i (Or.inl h2)
      · exact QP.it (s := s) h1 (Or.inr h2.2) i (Or.inr h2.1)
theorem QP.run (m : Nat) : ∀ {c : Cf}, QP c → QP (mrun T m c) := by
  induction m with
  | zero => exact fun h => h
  | succ m ih => exact fun h => ih (QP.st h)
end QPs
theorem Rc.se {T : Tk} {s' : St} (h : Rc T (Crun St0 [Istmt]) (Cdone s')) (l2 : (s'.2.1 2).length ≤ 24) (lw : s'.2.2.1.length ≤ 12) (l3 : (s'.2.1 3).length ≤ 20) : SEs s' := by
  obtain ⟨m, e⟩ := h
  have g : QP (mrun T m (Crun St0 [Istmt])) := QP.run m ⟨Or.inr (fun i hi => absurd hi (Nat.not_lt_zero _)), QK.c rfl (Or.inr trivial)⟩
  rw [e] at g
  rcases g with g | g
  · unfold BGq at g
    omega
  · exact g
/-! what is sure of a BOOK, from its reading on -/
def BKf (s : St) : Prop := (∀ v, WFB (s, v)) ∧ (∀ w, w < min 12 s.2.2.1.length → nL s (900 + 8 * w) < 24 ∧ nL s (902 + 8 * w) < 100) ∧ (∀ v c me i, cnP (isF (s, v) 1 c me) ((bW (s, v)).take i) ≤ 2) ∧ WHs s ∧ (T24 s ∧ SEs s) ∧ LNb s
theorem edJ_mem {f : Nat → Nat} {sv : Nat → Int} {m c d j : Nat} : ∀ {N : Nat}, j < N → d ∈ edC f sv m c j m → d ∈ edJ f sv m c N
  | 0, h, _ => absurd h (Nat.not_lt_zero _)
  | N + 1, h, hd => by
    show d ∈ edJ f sv m c N ++ edC f sv m c N m
    rw [List.mem_append]
    by_cases q : j = N
    · subst q
      exact Or.inr hd
    · exact Or.inl (edJ_mem (by omega) hd)
theorem BKr.of {s : St} {v : Nat → Int32} (f : BKf s) (ck : (CHK s.1 (svB (s, v)) (s.2.1 2).length).1 = 0) : ∃ g, BKr (s, v) g := by
  obtain ⟨f1, f2, f3, f4, f5, f6⟩ := f
  obtain ⟨g, hg⟩ := CHK_ok ck f6.2.2
  refine ⟨g, f1 v, fun w hw => (f2 w hw).2, fun c j hc ht hj => ?_, fun c hc ht => (hg c hc ht).1, fun c me i => f3 v c me i, f4, f5, f6⟩
  have ft := (hg c hc ht).2.1 j hj
  refine ⟨fun hk => ?_, fun d hd => ?_⟩
  · have hk : s.1 (301 + 32 * c + 4 * j) ≠ 2 := hk
    show (clF s.1 (svB (s, v)) (s.2.1 2).length c j).length = 1
    rcases Nat.lt_trichotomy (clF s.1 (svB (s, v)) (s.2.1 2).length c j).length 1 with q | q | q
    · have e := ft_1 (sv := svB (s, v)) (m := (s.2.1 2).length) hk (by omega)
      rw [e] at ft
      exact absurd ft (by decide)
    · exact q
    · have e := ft_2 (sv := svB (s, v)) (m := (s.2.1 2).length) hk q
      rw [e] at ft
      exact absurd ft (by decide)
  · have hd : d ∈ clF s.1 (svB (s, v)) (s.2.1 2).length c j := hd
    have hl := clF_lt hd
    refine ⟨hl, ?_, fun hk => ?_⟩
    · have z := (CLP_mem hl).mp hd
      unfold cdP at z
      rw [Bool.and_eq_true] at z
      have y := z.1
      unfold suP at y
      rw [Bool.and_eq_true] at y
      exact y.2
    · have hk : s.1 (301 + 32 * c + 4 * j) ≠ 1 := hk
      refine (hg c hc ht).2.2 d (edJ_mem hj ?_)
      have e : edC s.1 (svB (s, v)) (s.2.1 2).length c j (s.2.1 2).length = clF s.1 (svB (s, v)) (s.2.1 2).length c j := if_neg (fun q => by rcases q with q | q | q <;> omega)
      rw [e]
      exact hd
/-- at most two arounds of a METHOD -/
theorem rgf_le {α : Type} {L : List α} {P : Nat → Bool} {Q : α → Bool} (h : ∀ w (hw : w < L.length), P w = true → Q L[w] = true) : ∀ k, k ≤ L.length → ((List.range k).filter P).length ≤ ((L.take k).filter Q).length
  | 0, _ => Nat.zero_le _
  | k + 1, hk => by
    have ih := rgf_le h k (by omega)
    have hk2 : k < L.length := by omega
    rw [List.range_succ, List.filter_append, List.length_append, List.take_succ_eq_append_getElem hk2, List.filter_append, List.length_append]
    have z : (([k] : List Nat).filter P).length ≤ (([L[k]] : List α).filter Q).length := by
      by_cases q : P k = true
      · rw [List.filter_cons_of_pos q, List.filter_cons_of_pos (h k hk2 q)]
        exact Nat.le_refl _
      · rw [List.filter_cons_of_neg q]
        exact Nat.zero_le _
    omega
theorem ar_le {s : St} {v : Nat → Int32} {c me i : Nat} (ar : ARm s) (lk : ∀ w (h : w < s.2.2.1.length), s.2.2.1[w] = (nL s (901 + 8 * w), decide (nL s (903 + 8 * w) = 1))) (h100 : ∀ w, w < wN (s, v) → nL s (902 + 8 * w) < 100) : cnP (isF (s, v) 1 c me) ((bW (s, v)).take i) ≤ 2 := by
  have a1 : cnP (isF (s, v) 1 c me) ((bW (s, v)).take i) ≤ cnP (isF (s, v) 1 c me) (bW (s, v)) := ((List.take_sublist i (bW (s, v))).filter (isF (s, v) 1 c me)).length_le
  have a2 := cnP_bW (B := (s, v)) (P := isF (s, v) 1 c me) h100
  have a3 := rgf_le (L := s.2.2.1) (P := isF (s, v) 1 c me) (Q := fun x => x.1 == me && x.2) (fun w hw hp => by
    unfold isF at hp
    rw [Bool.and_eq_true, Bool.and_eq_true] at hp
    have p1 : nL s (903 + 8 * w) = 1 := eq_of_beq hp.1.1
    have p2 : nL s (901 + 8 * w) = me := eq_of_beq hp.1.2
    rw [lk w hw]
    show (nL s (901 + 8 * w) == me && decide (nL s (903 + 8 * w) = 1)) = true
    rw [p1, p2, beq_self_eq_true]
    rfl) (wN (s, v)) (by unfold wN; show min 12 s.2.2.1.length ≤ s.2.2.1.length; omega)
  have a4 : ((s.2.2.1.take (wN (s, v))).filter (fun x => x.1 == me && x.2)).length ≤ (s.2.2.1.filter (fun x => x.1 == me && x.2)).length := ((List.take_sublist _ _).filter _).length_le
  have a5 := ar me
  unfold arounds at a5
  omega
/-- by the reference's cells -/
theorem WM_lk {V : Vf} {q : Nat} {s : St} (wm : WMm V q s) (wr : WRm V q s) : ∀ w (h : w < s.2.2.1.length), s.2.2.1[w] = (nL s (901 + 8 * w), decide (nL s (903 + 8 * w) = 1)) := fun w h => by
  have z := wm.2 w h
  have y := wr.2 w h
  have e1 := z.2.1
  have e3 := z.2.2.2.1
  rw [y.2, show (V 41 (12 * q + w)).toInt.toNat = nL s (901 + 8 * w) from by omega, show decide ((V 43 (12 * q + w)).toInt = 1) = decide (nL s (903 + 8 * w) = 1) from decide_eq_decide.mpr (by omega)]
theorem BKf.of {V : Vf} {q : Nat} {s : St} (hM : rgd bM V) (tb : TBL V q (10000 * q + cl s)) (ce : CEm V q s) (wr : WRm V q s) (ar : ARm s) (n19 : (V 19 q).toInt = (((s.2.1 2).length : Nat) : Int)) (wh : WHs s) (t24 : T24 s) (se : SEs s) (ln : LNb s) (co : ∀ c, c < (s.2.1 2).length → (V 27 (24 * q + c)).toInt = ((s.1 (66 + 8 * c) : Nat) : Int)) : BKf s := by
  have h2 : ∀ w, w < min 12 s.2.2.1.length → nL s (900 + 8 * w) < 24 ∧ nL s (902 + 8 * w) < 100 := fun w hw => by
    have z := ce.2.2.2 w (by omega)
    have b1 : (-1) ≤ (V 40 (12 * q + w)).toInt ∧ (V 40 (12 * q + w)).toInt ≤ 23 := hM 40 _
    have b2 : 0 ≤ (V 42 (12 * q + w)).toInt ∧ (V 42 (12 * q + w)).toInt ≤ 99 := hM 42 _
    have e1 := z.1
    have e2 := z.2.2.1
    omega
  refine ⟨fun v => WFB.of (B := (s, v)) tb ce.1 ce.2.1 ce.2.2 n19 wr.1.symm co, h2, fun v c me i => ar_le ar (WM_lk ce.2.2 wr) (fun w hw => (h2 w hw).2), wh, ⟨t24, se⟩, ln⟩
/-- the class's cells of a BOOK that was read -/
theorem BKc.of {V : Vf} {b : Nat} {s : St} (ce : CEo V b s) (co : COc V b s) (tc : (V 43 (5 * b + 2)).toInt = (((s.2.1 2).length : Nat) : Int)) (wr : WRc V b s) (wo : WO V b) (f : BKf s) : BKc V b (s, fun i => V 46 (12 * b + i)) := by
  have n12 : s.2.2.1.length ≤ 12 := ce.2.2.1.1
  have en : wN (s, fun i => V 46 (12 * b + i)) = s.2.2.1.length := by
    unfold wN
    show min 12 s.2.2.1.length = s.2.2.1.length
    omega
  have h100 : ∀ w, w < s.2.2.1.length → nL s (902 + 8 * w) < 100 := fun w hw => (f.2.1 w (by omega)).2
  refine ⟨ce.1, ce.2.1, ⟨ce.2.2.1, wr.1.symm, fun i hi => ?_⟩, ⟨tc, f.2.2.2.2.2.2.2, co⟩, fun i _ => rfl, fun w hw => f.2.1 w hw, ⟨f.2.2.2.1, f.2.2.2.2.1.2⟩, f.2.2.2.2.2.2.1⟩
  have hl : i < s.2.2.1.length := by
    rw [bW_len (B := (s, fun i => V 46 (12 * b + i))) (fun w hw => h100 w (by rw [en] at hw; exact hw)), en] at hi
    exact hi
  rw [wo s.2.2.1.length wr.1.symm i hl]
  have e1 : srI (fun w => (V 64 (12 * b + w)).toInt) s.2.2.1.length = srI (fun w => ((nL s (902 + 8 * w) : Nat) : Int)) s.2.2.1.length := srI_ext _ (fun w hw => (ce.2.2.1.2 w hw).2.2.1)
  rw [e1, srI_bW (f := fun w => nL s (902 + 8 * w)) s.2.2.1.length h100]
  have e2 : bW (s, fun i => V 46 (12 * b + i)) = (List.range 100).flatMap (fun n => (List.range s.2.2.1.length).filter (fun w => nL s (902 + 8 * w) == n)) := by
    unfold bW
    rw [en]
  rw [e2]
/-! a new BOOK: nothing is made -/
def RST (V W : Vf) : Prop := ((W 3 12).toInt = 1 ∧ (W 3 13).toInt = 0 ∧ (W 3 14).toInt = 0) ∧ ((W 4 6).toInt = 0 ∧ (W 4 7).toInt = 0 ∧ (W 4 8).toInt = 0) ∧ ((W 5 13).toInt = 0 ∧ W 5 14 = V 5 14) ∧ (W 23 0).toInt = 1 ∧ (∀ s : Nat, s < 40 → W 24 s = 0) ∧ (∀ q : Nat, q < 960 → (W 25 q).toInt = -1) ∧ ∀ s : Nat, W 21 s = V 21 s ∧ W 22 s = V 22 s
def RSm (V W : Vf) : Prop := (W 0 68 = V 0 68 ∧ (W 0 69).toInt = 0 ∧ (W 0 60).toInt = 0 ∧ (W 0 65).toInt = 0 ∧ (W 0 73).toInt = 0) ∧ ((W 56 0).toInt = 1 ∧ (W 57 0).toInt = 0 ∧ ∀ s : Nat, s ≠ 0 → W 57 s = V 57 s) ∧ (∀ q : Nat, q < 960 → (W 59 q).toInt = 0) ∧ (W 0 55).toInt = 1
theorem RWn.new0 {V W Vm Wm : Vf} {ow : Nat → Nat} {B B2 : Bk} (h : RWn V ow B (mV Vm 0 0 0)) (c : RST V W) (r : RSm Vm Wm) (z57 : (Vm 57 0).toInt = 0) (n24 : nC B2 ≤ 24) : RWn W ow B2 (mV Wm 0 0 0) := by
  obtain ⟨⟨c1, c2, c3⟩, ⟨c4, _, _⟩, ⟨c6, c7⟩, c8, c9, c10, c11⟩ := c
  obtain ⟨⟨r1, r2, r3, r4, r5⟩, ⟨r6, r7, r8⟩, r9, r10⟩ := r
  obtain ⟨⟨⟨a0, _, _, _⟩, _, _⟩, _, _, ⟨_, hs2, _⟩, _⟩ := h
  have m02 : mV Wm 0 0 0 0 2 = 0 := r3
  refine ⟨⟨⟨?_, ?_, ?_, ?_⟩, ⟨?_, ?_⟩, fun i _ hi => ?_⟩, fun o ho => ?_, fun o k ho _ => ?_, ⟨⟨⟨by omega, by omega⟩, fun s _ hs => c9 s hs⟩, fun s hs => ?_, fun s hs => ?_⟩, fun pl c hpl hc _ => ?_, fun o p _ hp => ?_⟩
  · rw [c7]
    exact a0.trans (congrArg Int32.toInt r1).symm
  · exact c6.trans r2.symm
  · exact c2.trans r3.symm
  · exact c3.trans r4.symm
  · show (W 4 6).toInt = min 300 (Wm 0 73).toInt
    omega
  · show 0 ≤ (Wm 0 73).toInt
    omega
  · have hi : (i : Int) < (Wm 0 73).toInt := hi
    omega
  · rw [m02] at ho
    omega
  · rw [m02] at ho
    omega
  · rw [(c11 s).1, hs2 s hs]
    show (Vm 57 s).toInt = (Wm 57 s).toInt
    by_cases q : s = 0
    · rw [q, r7, z57]
    · rw [r8 s q]
  · have s0 : s = 0 := by omega
    subst s0
    refine ⟨c8.trans r6.symm, fun q => ?_, fun c hc => ?_⟩
    · have q : (Wm 57 0).toInt = 2 := q
      omega
    · rw [c9 0 (by decide), b_0]
      have z : (Wm 59 (24 * 0 + c)).toInt = 0 := r9 _ (by omega)
      exact ⟨fun h => absurd h (by decide), fun h => absurd z h⟩
  · rw [c10 _ (by omega), m02]
    rfl
  · rw [m02] at hp
    omega
theorem SCm.new {Vm Wm : Vf} (r : RSm Vm Wm) : SCm (mV Wm 0 0 0) (Wm 0 55).toInt.toNat := ⟨r.2.1.2.1, r.2.1.1, fun j h1 h2 => by
  have e := r.2.2.2
  omega⟩
theorem dzC.new {V W : Vf} (c : RST V W) : dzC W := fun s h1 h2 => by
  have e := c.1.1
  omega


abbrev r_x_sclear9 : Room := { frames := 1, cells := 0, slots := 0, locals := 23 }
abbrev q_x_sclear9 (D : va_G) (ks : KS) (ad : Nat → Nat) (kk : Nat → ClassId) (V : Vf) (L : Lf) (Z : XZ) (A : Nat → Prop) : Array Value → State → Outcome → State → Prop := va_Qv (fun (u : Vf × Lf) => rgd bX u.1 ∧ agr [(3, 12), (3, 13), (3, 14), (3, 15)] [23, 24, 25] V u.1 ∧ u.2 = L ∧ ((u.1 3 13).toInt = 0) ∧ ((u.1 3 15).toInt = 0) ∧ (∀ q : Nat, q < 960 → (u.1 25 q).toInt = -1) ∧ ((u.1 3 12).toInt = 1) ∧ ((u.1 3 14).toInt = 0) ∧ (∀ s9 : Nat, s9 < 40 → u.1 24 s9 = 0) ∧ ((u.1 23 0).toInt = 1)) (fun u t => gq D A (xw ad kk u.1 u.2 Z) (xty kk Z) t) A
set_option maxHeartbeats 4000000 in
set_option maxRecDepth 100000 in
theorem x_sclear9 (l : Launch) (D : va_G) (ks : KS) (sz : Nat) (ad : Nat → Nat) (kk : Nat → ClassId) (V : Vf) (L : Lf) (Z : XZ)  (hMV : rgd bX V)  : Met l yX8_clear (Cond.code yX8_clear cX8_clear 2 none :: GW) r_x_sclear9 (va_Pc [.ref (ad 3)] (gp D ks (xw ad kk V L Z) (xty kk Z) sz)) (q_x_sclear9 D ks ad kk V L Z  (va_A (xw ad kk V L Z) sz)) 0 0 (va_A (xw ad kk V L Z) sz) := by
  refine g_met (q_x_sclear9 D ks ad kk V L Z) (by decide) (Nat.le_of_ble_eq_true rfl) ?_
  intro p e s m below meth c A ls H locs hx hb hr hml hown hg hlocks hin hnw hgk hP hK hD hS hA hl
  have hown : s.vm.findClass RX8 = some m.cls := hown
  have hl : lv_has ls 2 [(0, .ref (ad 3))] := hl
  have hP : va_P D vwCl (xw ad kk V L Z) H := hP
  have hD : va_D A (xw ad kk V L Z) := hD
  have hK : va_K D vwCl (xty kk Z) s := hK
  have agV : agr [(3, 12), (3, 13), (3, 14), (3, 15)] [23, 24, 25] V V := agr.rf
  refine lv_aload_n hx hb dX8_clear_0 rfl (lv_at hl 0 rfl) ?_
  refine va_get (D := D) (ci := 8) (v := .ref (ad 22)) (fs := (xfStock ad V L Z)) (C := RX8) (T := TX8) (N := 16) hx hb hg inX8 hown hK hP 3 xgStock rfl 4 (by decide) (hg _ w378) (fun _ h9 => h9) rfl dX8_clear_1 ?_
  refine lv_iconst (v := (-1)) hx hb dX8_clear_4 (by decide) ?_
  have r1 : Int32.toInt (-1) = (-1) := by decide
  refine gA_void (gA_runS (As := [.ref (ad 22), .int (-1)]) (rest := []) hx hb hml hown hg hP hD hK hS hA hnw hgk (x_fillPresent l D ks H.size ad kk V L Z (-1) hMV (by decide)) w370 w371 w165 w372 hdS_yJ7_fill_53178 ⟨Nat.le_of_ble_eq_true rfl, Nat.le_of_ble_eq_true rfl⟩ rfl hl.1 rfl (Nat.le_of_ble_eq_true rfl) dX8_clear_5 ⟨Nat.le_of_ble_eq_true rfl, Nat.le_of_ble_eq_true rfl⟩) hP hD hK hS hA (fun u3 H locs w4 hP hD hK hS => ?_)
  obtain ⟨V7, L8⟩ := u3
  obtain ⟨hMV7, ajV7, axL8, t5, t6⟩ := w4
  have axL8 : L = L8 := Eq.symm axL8
  subst axL8
  have hP : va_P D vwCl (xw ad kk V7 L Z) H := hP
  have hD : va_D A (xw ad kk V7 L Z) := hD
  have hMV7 : rgd bX V7 := hMV7
  have ajV7 : agr [] [25] V V7 := ajV7
  have agV7 : agr [(3, 12), (3, 13), (3, 14), (3, 15)] [23, 24, 25] V V7 := agV.tr ajV7 (by decide) (by decide)
  have t5 : (∀ q : Nat, (q : Int) < 960 → V7 25 (q) = (-1)) := t5
  have t6 : (∀ q : Nat, ¬ (0 ≤ q ∧ q < 960) → V7 25 q = V 25 q) := t6
  refine lv_iconst (v := 0) hx hb dX8_clear_8 (by decide) ?_
  refine lv_istore_n (lv' := [(1, .int 0), (0, .ref (ad 3))]) hx hb dX8_clear_9 rfl hl (by decide) rfl (fun ls hl => ?_)
  have lp11 : ∀ (fulp11 : Nat) (y9 : Int32) (V10 : Vf) (H : Heap) (locs : List Loc) (ls : Array Slot), 0 ≤ y9.toInt ∧ y9.toInt ≤ 40 → (∀ s9 : Nat, (s9 : Int) < y9.toInt → V10 24 s9 = 0) → 40 - y9.toInt < (fulp11 : Int) → agr [] [23, 24] V7 V10 → rgd bX V10 → va_P D vwCl (xw ad kk V10 L Z) H → va_D A (xw ad kk V10 L Z) → va_S A s.heap H locs → lv_has ls 2 [(1, .int y9), (0, .ref (ad 3))] → W p l e r_x_sclear9 s m ([.ref (ad 3)] : List Value).toArray below meth c H locs 0 0 (MQ below (q_x_sclear9 D ks ad kk V L Z  A) ([.ref (ad 3)] : List Value).toArray s 0 0 A) (F0 m 10 ls []) := by
    intro fulp11
    induction fulp11 with
    | zero =>
      intro y9 V10 H locs ls klp11_0 xlp11_0 hn ajV10 hMV10 hP hD hS hl
      exfalso; (first | exact om_b4ce6ae7be49 klp11_0.2 hn | omega)
    | succ fulp11 ihlp11 =>
      intro y9 V10 H locs ls klp11_0 xlp11_0 hn ajV10 hMV10 hP hD hS hl
      have agV10 : agr [(3, 12), (3, 13), (3, 14), (3, 15)] [23, 24, 25] V V10 := agV7.tr ajV10 (by decide) (by decide)
      refine lv_iload_n hx hb dX8_clear_10 rfl (lv_at hl 0 rfl) ?_
      refine lv_bipush (v := 40) hx hb dX8_clear_11 (by decide) ?_
      refine lv_icmp_ge (tgt := 27) hx hb dX8_clear_13 (by decide) (fun c12 => ?_) (fun c12 => ?_)
      · skip
        have f13 : 40 ≤ y9.toInt := b_le (by decide) rfl c12
        refine lv_aload_n hx hb dX8_clear_27 rfl (lv_at hl 1 rfl) ?_
        refine va_get (D := D) (ci := 8) (v := .ref (ad 20)) (fs := (xfStock ad V10 L Z)) (C := RX8) (T := TX8) (N := 16) hx hb hg inX8 hown hK hP 3 xgStock rfl 2 (by decide) (hg _ w376) (fun _ h9 => h9) rfl dX8_clear_28 ?_
        refine lv_iconst (v := 0) hx hb dX8_clear_31 (by decide) ?_
        refine lv_iconst (v := 1) hx hb dX8_clear_32 (by decide) ?_
        refine va_zast (D := D) (i := 0) (x := 1) hx hb hK hP hD hS 20 13 rfl rfl (i_in (a := 0) (by decide) (by decide)) dX8_clear_33 (fun H locs hP hD hS => ?_)
        obtain ⟨V14, hV14⟩ : ∃ z, z = up2 V10 23 (Int32.toNatClampNeg 0) (vp_nar .boolean 1) := ⟨_, rfl⟩
        have ew15 : (xw ad kk V10 L Z).set 20 ((ad 20), .inl ((kk 20), 40, .inl (upd (V10 23) (Int32.toNatClampNeg 0) (vp_nar .boolean 1)))) = xw ad kk V14 L Z := by rw [hV14]; exact xw_ss (by decide) rfl (xb_si (by decide))
        have hP : va_P D vwCl (xw ad kk V14 L Z) H := by rw [← ew15]; exact hP
        have hD : va_D A (xw ad kk V14 L Z) := by rw [← ew15]; exact hD
        have hMV14 : rgd bX V14 := hMV10.put hV14 (nar_b _)
        have agV14 : agr [(3, 12), (3, 13), (3, 14), (3, 15)] [23, 24, 25] V V14 := agV10.up hV14 rfl
        refine lv_aload_n hx hb dX8_clear_34 rfl (lv_at hl 1 rfl) ?_
        refine lv_iconst (v := 1) hx hb dX8_clear_35 (by decide) ?_
        refine va_put (D := D) (ci := 8) (v := .int 1) (ty := tyX8 12) (fs := (xfStock ad V14 L Z)) (C := RX8) (T := TX8) (N := 16) hx hb hg inX8 tyX8 tyX8_ok nmX8 hown hK hP hD hS 3 xgStock rfl 12 (by decide) (hg _ w390) (fun _ h9 => h9) rfl (tyX8_ok 12 (by decide)) rfl rfl (Nat.le_of_ble_eq_true rfl) dX8_clear_36 (fun H locs hP hD hS => ?_)
        obtain ⟨V16, hV16⟩ : ∃ z, z = up2 V14 3 12 1 := ⟨_, rfl⟩
        have ew17 : (xw ad kk V14 L Z).set 3 ((ad 3), .inr (8, (xfStock ad V14 L Z).set 12 (.int 1))) = xw ad kk V16 L Z := by rw [hV16]; exact xw_ss (by decide) rfl (xb_si (by decide))
        have hP : va_P D vwCl (xw ad kk V16 L Z) H := by rw [← ew17]; exact hP
        have hD : va_D A (xw ad kk V16 L Z) := by rw [← ew17]; exact hD
        have hMV16 : rgd bX V16 := hMV14.put hV16 (by decide)
        have agV16 : agr [(3, 12), (3, 13), (3, 14), (3, 15)] [23, 24, 25] V V16 := agV14.up hV16 rfl
        refine lv_aload_n hx hb dX8_clear_39 rfl (lv_at hl 1 rfl) ?_
        refine lv_iconst (v := 0) hx hb dX8_clear_40 (by decide) ?_
        refine va_put (D := D) (ci := 8) (v := .int 0) (ty := tyX8 13) (fs := (xfStock ad V16 L Z)) (C := RX8) (T := TX8) (N := 16) hx hb hg inX8 tyX8 tyX8_ok nmX8 hown hK hP hD hS 3 xgStock rfl 13 (by decide) (hg _ w391) (fun _ h9 => h9) rfl (tyX8_ok 13 (by decide)) rfl rfl (Nat.le_of_ble_eq_true rfl) dX8_clear_41 (fun H locs hP hD hS => ?_)
        obtain ⟨V18, hV18⟩ : ∃ z, z = up2 V16 3 13 0 := ⟨_, rfl⟩
        have ew19 : (xw ad kk V16 L Z).set 3 ((ad 3), .inr (8, (xfStock ad V16 L Z).set 13 (.int 0))) = xw ad kk V18 L Z := by rw [hV18]; exact xw_ss (by decide) rfl (xb_si (by decide))
        have hP : va_P D vwCl (xw ad kk V18 L Z) H := by rw [← ew19]; exact hP
        have hD : va_D A (xw ad kk V18 L Z) := by rw [← ew19]; exact hD
        have hMV18 : rgd bX V18 := hMV16.put hV18 (by decide)
        have agV18 : agr [(3, 12), (3, 13), (3, 14), (3, 15)] [23, 24, 25] V V18 := agV16.up hV18 rfl
        refine lv_aload_n hx hb dX8_clear_44 rfl (lv_at hl 1 rfl) ?_
        refine lv_iconst (v := 0) hx hb dX8_clear_45 (by decide) ?_
        refine va_put (D := D) (ci := 8) (v := .int 0) (ty := tyX8 14) (fs := (xfStock ad V18 L Z)) (C := RX8) (T := TX8) (N := 16) hx hb hg inX8 tyX8 tyX8_ok nmX8 hown hK hP hD hS 3 xgStock rfl 14 (by decide) (hg _ w393) (fun _ h9 => h9) rfl (tyX8_ok 14 (by decide)) rfl rfl (Nat.le_of_ble_eq_true rfl) dX8_clear_46 (fun H locs hP hD hS => ?_)
        obtain ⟨V20, hV20⟩ : ∃ z, z = up2 V18 3 14 0 := ⟨_, rfl⟩
        have ew21 : (xw ad kk V18 L Z).set 3 ((ad 3), .inr (8, (xfStock ad V18 L Z).set 14 (.int 0))) = xw ad kk V20 L Z := by rw [hV20]; exact xw_ss (by decide) rfl (xb_si (by decide))
        have hP : va_P D vwCl (xw ad kk V20 L Z) H := by rw [← ew21]; exact hP
        have hD : va_D A (xw ad kk V20 L Z) := by rw [← ew21]; exact hD
        have hMV20 : rgd bX V20 := hMV18.put hV20 (i_full _)
        have agV20 : agr [(3, 12), (3, 13), (3, 14), (3, 15)] [23, 24, 25] V V20 := agV18.up hV20 rfl
        refine lv_aload_n hx hb dX8_clear_49 rfl (lv_at hl 1 rfl) ?_
        refine lv_iconst (v := 0) hx hb dX8_clear_50 (by decide) ?_
        refine va_put (D := D) (ci := 8) (v := .int 0) (ty := tyX8 15) (fs := (xfStock ad V20 L Z)) (C := RX8) (T := TX8) (N := 16) hx hb hg inX8 tyX8 tyX8_ok nmX8 hown hK hP hD hS 3 xgStock rfl 15 (by decide) (hg _ w394) (fun _ h9 => h9) rfl (tyX8_ok 15 (by decide)) rfl rfl (Nat.le_of_ble_eq_true rfl) dX8_clear_51 (fun H locs hP hD hS => ?_)
        obtain ⟨V22, hV22⟩ : ∃ z, z = up2 V20 3 15 0 := ⟨_, rfl⟩
        have ew23 : (xw ad kk V20 L Z).set 3 ((ad 3), .inr (8, (xfStock ad V20 L Z).set 15 (.int 0))) = xw ad kk V22 L Z := by rw [hV22]; exact xw_ss (by decide) rfl (xb_si (by decide))
        have hP : va_P D vwCl (xw ad kk V22 L Z) H := by rw [← ew23]; exact hP
        have hD : va_D A (xw ad kk V22 L Z) := by rw [← ew23]; exact hD
        have hMV22 : rgd bX V22 := hMV20.put hV22 (by decide)
        have agV22 : agr [(3, 12), (3, 13), (3, 14), (3, 15)] [23, 24, 25] V V22 := agV20.up hV22 rfl
        have pq24 : (V22 3 13).toInt = 0 := (congrArg Int32.toInt ((up2_k hV22 (by decide)).trans ((up2_k hV20 (by decide)).trans (up2_s hV18)))).trans (by decide)
        have pq25 : (V22 3 15).toInt = 0 := (congrArg Int32.toInt (up2_s hV22)).trans (by decide)
        have pq26 : (V22 3 12).toInt = 1 := (congrArg Int32.toInt ((up2_k hV22 (by decide)).trans ((up2_k hV20 (by decide)).trans ((up2_k hV18 (by decide)).trans (up2_s hV16))))).trans (by decide)
        have pq27 : (V22 3 14).toInt = 0 := (congrArg Int32.toInt ((up2_k hV22 (by decide)).trans (up2_s hV20))).trans (by decide)
        have rp28 : ∀ q : Nat, q < 960 → (V22 25 q).toInt = -1 := fun q hq => by rw [(show agr [(3, 12), (3, 13), (3, 14), (3, 15)] [23, 24] V7 V22 from (agr.up (agr.up (agr.up (agr.up (agr.up (agr.tr agr.rf ajV10 (by decide) (by decide)) hV14 rfl) hV16 rfl) hV18 rfl) hV20 rfl) hV22 rfl)) 25 _ rfl, t5 q (by omega)]; decide
        exact W.vret hx hb hr (fun t ht hW => ⟨⟨(V22, L), rfl, ⟨hMV22, agV22, rfl, (show (V22 3 13).toInt = 0 from by (first | exact om_b66ba74381d5 pq24 | omega)), (show (V22 3 15).toInt = 0 from by (first | exact om_b66ba74381d5 pq25 | omega)), rp28, (show (V22 3 12).toInt = 1 from by (first | exact om_710535a98d88 pq26 | omega)), (show (V22 3 14).toInt = 0 from by (first | exact om_b66ba74381d5 pq27 | omega)), (fun s9 h9 => ((show agr [(3, 12), (3, 13), (3, 14), (3, 15)] [23] V10 V22 from (agr.up (agr.up (agr.up (agr.up (agr.up agr.rf hV14 rfl) hV16 rfl) hV18 rfl) hV20 rfl) hV22 rfl)) 24 s9 rfl).trans (xlp11_0 s9 (by omega))), (by show (V22 23 0).toInt = 1; rw [show (0 : Nat) = Int32.toNatClampNeg 0 from by decide, ((up2_o hV22 (by decide)).trans ((up2_o hV20 (by decide)).trans ((up2_o hV18 (by decide)).trans ((up2_o hV16 (by decide)).trans (up2_s hV14)))))]; decide)⟩, by rw [ht]; exact hP, va_K.moved hW.alike hK, hD⟩, hS.F ht⟩) hS.2.2 dX8_clear_54
      · skip
        have f29 : y9.toInt < 40 := b_nle (by decide) rfl c12
        refine lv_aload_n hx hb dX8_clear_16 rfl (lv_at hl 1 rfl) ?_
        refine lv_iload_n hx hb dX8_clear_17 rfl (lv_at hl 0 rfl) ?_
        refine gA_void (gA_runV (As := [.int y9]) (rest := []) (ci := 8) (q0 := 3) hx hb hml hown hg hP hD hK hS hA hnw hgk (x_shut9 l D ks H.size ad kk V10 L Z y9 hMV10 (by (first | exact om_e2b7608b251c klp11_0.1 f29 | omega))) w1027 w1028 w1029 w164 w1030 rfl xgStock hdV_yX8_shut ⟨Nat.le_of_ble_eq_true rfl, Nat.le_of_ble_eq_true rfl⟩ rfl hl.1 rfl (Nat.le_of_ble_eq_true rfl) dX8_clear_18 ⟨Nat.le_of_ble_eq_true rfl, Nat.le_of_ble_eq_true rfl⟩) hP hD hK hS hA (fun u31 H locs w32 hP hD hK hS => ?_)
        obtain ⟨V34, L35⟩ := u31
        obtain ⟨hMV34, ajV34, axL35, t33⟩ := w32
        have axL35 : L = L35 := Eq.symm axL35
        subst axL35
        have hP : va_P D vwCl (xw ad kk V34 L Z) H := hP
        have hD : va_D A (xw ad kk V34 L Z) := hD
        have hMV34 : rgd bX V34 := hMV34
        have ajV34 : agr [] [23, 24] V10 V34 := ajV34
        have agV34 : agr [(3, 12), (3, 13), (3, 14), (3, 15)] [23, 24, 25] V V34 := agV10.tr ajV34 (by decide) (by decide)
        have t33 : ((True) ∧ V34 = (up2 (up2 V10 23 (Int32.toNatClampNeg y9) 0) 24 (Int32.toNatClampNeg y9) 0)) := t33
        have hw36 := t33.2
        obtain ⟨V37, hV37⟩ : ∃ z, z = up2 V10 23 (Int32.toNatClampNeg y9) 0 := ⟨_, rfl⟩
        have hV34 : V34 = up2 V37 24 (Int32.toNatClampNeg y9) 0 := by rw [hw36, hV37]
        obtain ⟨z38, ez38⟩ : ∃ y : Int32, y = y9 + 1 := ⟨_, rfl⟩
        have hz38 : z38.toInt = y9.toInt + 1 := i_add ez38 rfl (by decide) (by (first | exact om_f6338ed50341 klp11_0.1 f29 | omega))
        refine lv_iinc (v := z38) (lv' := [(1, .int z38), (0, .ref (ad 3))]) hx hb dX8_clear_21 hl (k := 0) rfl (by rw [ez38]; rfl) (by decide) rfl (fun ls hl => ?_)
        refine lv_goto (tgt := 10) hx hb dX8_clear_24 (by decide) ?_
        have ky9 := i_clamp (x := y9) rfl (by (first | exact om_eafa9039069c klp11_0.1 | omega))
        have sp39 : ∀ s9 : Nat, (s9 : Int) < z38.toInt → V34 24 s9 = 0 := fun s9 h9 => by
          by_cases q9 : s9 = (Int32.toNatClampNeg y9)
          · rw [q9]; exact up2_s hV34
          · exact (up2_k hV34 q9).trans ((up2_o hV37 (by decide)).trans (xlp11_0 s9 (by omega)))
        exact ihlp11 z38 V34 H locs ls (by (first | exact om_2a30a9e45e25 klp11_0.1 f29 hz38 | omega)) sp39 (by (first | exact om_3c70b874863d hn hz38 | omega)) (agr.up (agr.up (agr.tr agr.rf ajV10 (by decide) (by decide)) hV37 rfl) hV34 rfl) hMV34 hP hD hS (lv_sub hl [0, 1] rfl)
  have r40 : Int32.toInt 0 = 0 := by decide
  exact lp11 ((40 - (Int32.toInt 0) + 1 : Int).toNat) 0 V7 H locs ls (by decide) (fun s9 h9 => by have h8 : Int32.toInt 0 = 0 := (by decide); exfalso; omega) (by (first | exact om_4b52247ddc06 | omega)) agr.rf hMV7 hP hD hS (lv_sub hl [0, 1] rfl)
abbrev r_x_Nclear9 : Room := { frames := 0, cells := 0, slots := 0, locals := 0 }
abbrev q_x_Nclear9 (D : va_G) (ks : KS) (ad : Nat → Nat) (kk : Nat → ClassId) (V : Vf) (L : Lf) (Z : XZ) (A : Nat → Prop) : Array Value → State → Outcome → State → Prop := va_Qv (fun (u : Vf × Lf) => rgd bX u.1 ∧ agr [(4, 5), (4, 6), (4, 7), (4, 8)] [] V u.1 ∧ u.2 = L ∧ ((u.1 4 6).toInt = 0) ∧ ((u.1 4 7).toInt = 0) ∧ ((u.1 4 8).toInt = 0)) (fun u t => gq D A (xw ad kk u.1 u.2 Z) (xty kk Z) t) A
set_option maxHeartbeats 4000000 in
set_option maxRecDepth 100000 in
theorem x_Nclear9 (l : Launch) (D : va_G) (ks : KS) (sz : Nat) (ad : Nat → Nat) (kk : Nat → ClassId) (V : Vf) (L : Lf) (Z : XZ)  (hMV : rgd bX V)  : Met l yX7_clear (Cond.code yX7_clear cX7_clear 1 none :: GW) r_x_Nclear9 (va_Pc [.ref (ad 4)] (gp D ks (xw ad kk V L Z) (xty kk Z) sz)) (q_x_Nclear9 D ks ad kk V L Z  (va_A (xw ad kk V L Z) sz)) 0 0 (va_A (xw ad kk V L Z) sz) := by
  refine g_met (q_x_Nclear9 D ks ad kk V L Z) (by decide) (Nat.le_of_ble_eq_true rfl) ?_
  intro p e s m below meth c A ls H locs hx hb hr hml hown hg hlocks hin hnw hgk hP hK hD hS hA hl
  have hown : s.vm.findClass RX7 = some m.cls := hown
  have hl : lv_has ls 1 [(0, .ref (ad 4))] := hl
  have hP : va_P D vwCl (xw ad kk V L Z) H := hP
  have hD : va_D A (xw ad kk V L Z) := hD
  have hK : va_K D vwCl (xty kk Z) s := hK
  have agV : agr [(4, 5), (4, 6), (4, 7), (4, 8)] [] V V := agr.rf
  refine lv_aload_n hx hb dX7_clear_0 rfl (lv_at hl 0 rfl) ?_
  refine lv_iconst (v := 0) hx hb dX7_clear_1 (by decide) ?_
  refine va_put (D := D) (ci := 7) (v := .int 0) (ty := tyX7 5) (fs := (xfNotes ad V L Z)) (C := RX7) (T := TX7) (N := 10) hx hb hg inX7 tyX7 tyX7_ok nmX7 hown hK hP hD hS 4 xgNotes rfl 5 (by decide) (hg _ w440) (fun _ h9 => h9) rfl (tyX7_ok 5 (by decide)) rfl rfl (Nat.le_of_ble_eq_true rfl) dX7_clear_2 (fun H locs hP hD hS => ?_)
  obtain ⟨V1, hV1⟩ : ∃ z, z = up2 V 4 5 0 := ⟨_, rfl⟩
  have ew2 : (xw ad kk V L Z).set 4 ((ad 4), .inr (7, (xfNotes ad V L Z).set 5 (.int 0))) = xw ad kk V1 L Z := by rw [hV1]; exact xw_ss (by decide) rfl (xb_si (by decide))
  have hP : va_P D vwCl (xw ad kk V1 L Z) H := by rw [← ew2]; exact hP
  have hD : va_D A (xw ad kk V1 L Z) := by rw [← ew2]; exact hD
  have hMV1 : rgd bX V1 := hMV.put hV1 (by decide)
  have agV1 : agr [(4, 5), (4, 6), (4, 7), (4, 8)] [] V V1 := agV.up hV1 rfl
  refine lv_aload_n hx hb dX7_clear_5 rfl (lv_at hl 0 rfl) ?_
  refine lv_iconst (v := 0) hx hb dX7_clear_6 (by decide) ?_
  refine va_put (D := D) (ci := 7) (v := .int 0) (ty := tyX7 6) (fs := (xfNotes ad V1 L Z)) (C := RX7) (T := TX7) (N := 10) hx hb hg inX7 tyX7 tyX7_ok nmX7 hown hK hP hD hS 4 xgNotes rfl 6 (by decide) (hg _ w441) (fun _ h9 => h9) rfl (tyX7_ok 6 (by decide)) rfl rfl (Nat.le_of_ble_eq_true rfl) dX7_clear_7 (fun H locs hP hD hS => ?_)
  obtain ⟨V3, hV3⟩ : ∃ z, z = up2 V1 4 6 0 := ⟨_, rfl⟩
  have ew4 : (xw ad kk V1 L Z).set 4 ((ad 4), .inr (7, (xfNotes ad V1 L Z).set 6 (.int 0))) = xw ad kk V3 L Z := by rw [hV3]; exact xw_ss (by decide) rfl (xb_si (by decide))
  have hP : va_P D vwCl (xw ad kk V3 L Z) H := by rw [← ew4]; exact hP
  have hD : va_D A (xw ad kk V3 L Z) := by rw [← ew4]; exact hD
  have hMV3 : rgd bX V3 := hMV1.put hV3 (by decide)
  have agV3 : agr [(4, 5), (4, 6), (4, 7), (4, 8)] [] V V3 := agV1.up hV3 rfl
  refine lv_aload_n hx hb dX7_clear_10 rfl (lv_at hl 0 rfl) ?_
  refine lv_iconst (v := 0) hx hb dX7_clear_11 (by decide) ?_
  refine va_put (D := D) (ci := 7) (v := .int 0) (ty := tyX7 7) (fs := (xfNotes ad V3 L Z)) (C := RX7) (T := TX7) (N := 10) hx hb hg inX7 tyX7 tyX7_ok nmX7 hown hK hP hD hS 4 xgNotes rfl 7 (by decide) (hg _ w442) (fun _ h9 => h9) rfl (tyX7_ok 7 (by decide)) rfl rfl (Nat.le_of_ble_eq_true rfl) dX7_clear_12 (fun H locs hP hD hS => ?_)
  obtain ⟨V5, hV5⟩ : ∃ z, z = up2 V3 4 7 0 := ⟨_, rfl⟩
  have ew6 : (xw ad kk V3 L Z).set 4 ((ad 4), .inr (7, (xfNotes ad V3 L Z).set 7 (.int 0))) = xw ad kk V5 L Z := by rw [hV5]; exact xw_ss (by decide) rfl (xb_si (by decide))
  have hP : va_P D vwCl (xw ad kk V5 L Z) H := by rw [← ew6]; exact hP
  have hD : va_D A (xw ad kk V5 L Z) := by rw [← ew6]; exact hD
  have hMV5 : rgd bX V5 := hMV3.put hV5 (i_full _)
  have agV5 : agr [(4, 5), (4, 6), (4, 7), (4, 8)] [] V V5 := agV3.up hV5 rfl
  refine lv_aload_n hx hb dX7_clear_15 rfl (lv_at hl 0 rfl) ?_
  refine lv_iconst (v := 0) hx hb dX7_clear_16 (by decide) ?_
  refine va_put (D := D) (ci := 7) (v := .int 0) (ty := tyX7 8) (fs := (xfNotes ad V5 L Z)) (C := RX7) (T := TX7) (N := 10) hx hb hg inX7 tyX7 tyX7_ok nmX7 hown hK hP hD hS 4 xgNotes rfl 8 (by decide) (hg _ w443) (fun _ h9 => h9) rfl (tyX7_ok 8 (by decide)) rfl rfl (Nat.le_of_ble_eq_true rfl) dX7_clear_17 (fun H locs hP hD hS => ?_)
  obtain ⟨V7, hV7⟩ : ∃ z, z = up2 V5 4 8 0 := ⟨_, rfl⟩
  have ew8 : (xw ad kk V5 L Z).set 4 ((ad 4), .inr (7, (xfNotes ad V5 L Z).set 8 (.int 0))) = xw ad kk V7 L Z := by rw [hV7]; exact xw_ss (by decide) rfl (xb_si (by decide))
  have hP : va_P D vwCl (xw ad kk V7 L Z) H := by rw [← ew8]; exact hP
  have hD : va_D A (xw ad kk V7 L Z) := by rw [← ew8]; exact hD
  have hMV7 : rgd bX V7 := hMV5.put hV7 (i_full _)
  have agV7 : agr [(4, 5), (4, 6), (4, 7), (4, 8)] [] V V7 := agV5.up hV7 rfl
  have pq9 : (V7 4 6).toInt = 0 := (congrArg Int32.toInt ((up2_k hV7 (by decide)).trans ((up2_k hV5 (by decide)).trans (up2_s hV3)))).trans (by decide)
  have pq10 : (V7 4 7).toInt = 0 := (congrArg Int32.toInt ((up2_k hV7 (by decide)).trans (up2_s hV5))).trans (by decide)
  have pq11 : (V7 4 8).toInt = 0 := (congrArg Int32.toInt (up2_s hV7)).trans (by decide)
  exact W.vret hx hb hr (fun t ht hW => ⟨⟨(V7, L), rfl, ⟨hMV7, agV7, rfl, (show (V7 4 6).toInt = 0 from by (first | exact om_b66ba74381d5 pq9 | omega)), (show (V7 4 7).toInt = 0 from by (first | exact om_b66ba74381d5 pq10 | omega)), (show (V7 4 8).toInt = 0 from by (first | exact om_b66ba74381d5 pq11 | omega))⟩, by rw [ht]; exact hP, va_K.moved hW.alike hK, hD⟩, hS.F ht⟩) hS.2.2 dX7_clear_20
abbrev r_x_takeBook9 : Room := { frames := 1, cells := 0, slots := 0, locals := 20 }
abbrev q_x_takeBook9 (D : va_G) (ks : KS) (ad : Nat → Nat) (kk : Nat → ClassId) (V : Vf) (L : Lf) (Z : XZ) (b : Nat) (A : Nat → Prop) : Array Value → State → Outcome → State → Prop := va_Qv (fun (u : Vf × Lf) => rgd bX u.1 ∧ agr [(5, 5), (5, 6), (5, 7), (5, 8), (5, 9), (5, 13)] [] V u.1 ∧ u.2 = L ∧ ((u.1 5 5).toInt = (b : Int)) ∧ ((u.1 5 6).toInt = 0) ∧ ((u.1 5 13).toInt = 0)) (fun u t => gq D A (xw ad kk u.1 u.2 Z) (xty kk Z) t) A
set_option maxHeartbeats 4000000 in
set_option maxRecDepth 100000 in
theorem x_takeBook9 (l : Launch) (D : va_G) (ks : KS) (sz : Nat) (ad : Nat → Nat) (kk : Nat → ClassId) (V : Vf) (L : Lf) (Z : XZ) (b : Nat) (hMV : rgd bX V) (hb2 : b < 2)  : Met l yX5_takeBook (Cond.code yX5_takeBook cX5_takeBook 2 none :: GW) r_x_takeBook9 (va_Pc [.ref (ad 5), .ref (ad (38 + b))] (gp D ks (xw ad kk V L Z) (xty kk Z) sz)) (q_x_takeBook9 D ks ad kk V L Z  b (va_A (xw ad kk V L Z) sz)) 0 0 (va_A (xw ad kk V L Z) sz) := by
  refine g_met (q_x_takeBook9 D ks ad kk V L Z  b) (by decide) (Nat.le_of_ble_eq_true rfl) ?_
  intro p e s m below meth c A ls H locs hx hb hr hml hown hg hlocks hin hnw hgk hP hK hD hS hA hl
  have hown : s.vm.findClass RX5 = some m.cls := hown
  have hl : lv_has ls 2 [(0, .ref (ad 5)), (1, .ref (ad (38 + b)))] := hl
  have hP : va_P D vwCl (xw ad kk V L Z) H := hP
  have hD : va_D A (xw ad kk V L Z) := hD
  have hK : va_K D vwCl (xty kk Z) s := hK
  have agV : agr [(5, 5), (5, 6), (5, 7), (5, 8), (5, 9), (5, 13)] [] V V := agr.rf
  refine lv_aload_n hx hb dX5_takeBook_0 rfl (lv_at hl 0 rfl) ?_
  refine lv_aload_n hx hb dX5_takeBook_1 rfl (lv_at hl 1 rfl) ?_
  refine va_put (D := D) (ci := 5) (v := .ref (ad (38 + b))) (ty := tyX5 5) (fs := (xfMachine ad V L Z)) (C := RX5) (T := TX5) (N := 15) hx hb hg inX5 tyX5 tyX5_ok nmX5 hown hK hP hD hS 5 xgMachine rfl 5 (by decide) (hg _ w672) (fun _ h9 => h9) rfl (tyX5_ok 5 (by decide)) rfl rfl (Nat.le_of_ble_eq_true rfl) dX5_takeBook_2 (fun H locs hP hD hS => ?_)
  have il1 : b < 2 := by (first | exact om_f940a4667dd6 hb2 | omega)
  have r2 : (nI b).toInt = ((b : Nat) : Int) := nI_toInt (by omega)
  obtain ⟨V3, hV3⟩ : ∃ z, z = up2 V 5 5 (nI b) := ⟨_, rfl⟩
  have ew4 : (xw ad kk V L Z).set 5 ((ad 5), .inr (5, (xfMachine ad V L Z).set 5 (.ref (ad (38 + b))))) = xw ad kk V3 L Z := by rw [hV3]; exact xr_mbook il1
  have hP : va_P D vwCl (xw ad kk V3 L Z) H := by rw [← ew4]; exact hP
  have hD : va_D A (xw ad kk V3 L Z) := by rw [← ew4]; exact hD
  have hMV3 : rgd bX V3 := hMV.put hV3 (show 0 ≤ ((nI b)).toInt ∧ ((nI b)).toInt ≤ 1 from by (first | exact om_d98fff7a4861 hb2 r2 | omega))
  have agV3 : agr [(5, 5), (5, 6), (5, 7), (5, 8), (5, 9), (5, 13)] [] V V3 := agV.up hV3 rfl
  refine lv_aload_n hx hb dX5_takeBook_5 rfl (lv_at hl 0 rfl) ?_
  refine gA_void (gA_runV (As := []) (rest := []) (ci := 5) (q0 := 5) hx hb hml hown hg hP hD hK hS hA hnw hgk (x_restart l D ks H.size ad kk V3 L Z  hMV3 ) w1043 w1044 w1045 w171 w1046 rfl xgMachine hdV_yX5_restart ⟨Nat.le_of_ble_eq_true rfl, Nat.le_of_ble_eq_true rfl⟩ rfl hl.1 rfl (Nat.le_of_ble_eq_true rfl) dX5_takeBook_6 ⟨Nat.le_of_ble_eq_true rfl, Nat.le_of_ble_eq_true rfl⟩) hP hD hK hS hA (fun u6 H locs w7 hP hD hK hS => ?_)
  obtain ⟨V13, L14⟩ := u6
  obtain ⟨hMV13, ajV13, axL14, t8, t9, t10, t11, t12⟩ := w7
  have axL14 : L = L14 := Eq.symm axL14
  subst axL14
  have hP : va_P D vwCl (xw ad kk V13 L Z) H := hP
  have hD : va_D A (xw ad kk V13 L Z) := hD
  have hMV13 : rgd bX V13 := hMV13
  have ajV13 : agr [(5, 6), (5, 7), (5, 8), (5, 9), (5, 13)] [] V3 V13 := ajV13
  have agV13 : agr [(5, 5), (5, 6), (5, 7), (5, 8), (5, 9), (5, 13)] [] V V13 := agV3.tr ajV13 (by decide) (by decide)
  have t8 : (V13 5 6).toInt = 0 := t8
  have t9 : (V13 5 7).toInt = 0 := t9
  have t10 : (V13 5 8).toInt = 0 := t10
  have t11 : (V13 5 9).toInt = 0 := t11
  have t12 : (V13 5 13).toInt = 0 := t12
  have r15 : 0 ≤ ((V13 5 6)).toInt ∧ ((V13 5 6)).toInt ≤ 400 := hMV13 5 6
  have r16 : 0 ≤ ((V13 5 7)).toInt ∧ ((V13 5 7)).toInt ≤ 2048 := hMV13 5 7
  have r17 : 0 ≤ ((V13 5 8)).toInt ∧ ((V13 5 8)).toInt ≤ 300 := hMV13 5 8
  have r18 : 0 ≤ ((V13 5 9)).toInt ∧ ((V13 5 9)).toInt ≤ 3 := hMV13 5 9
  have r19 : 0 ≤ ((V13 5 13)).toInt ∧ ((V13 5 13)).toInt ≤ 3000 := hMV13 5 13
  have pq20 : (V13 5 5).toInt = ((nI b)).toInt := congrArg Int32.toInt ((ajV13 5 5 rfl).trans (up2_s hV3))
  exact W.vret hx hb hr (fun t ht hW => ⟨⟨(V13, L), rfl, ⟨hMV13, agV13, rfl, (show (V13 5 5).toInt = (b : Int) from by (first | exact om_adf531c77a0d r2 pq20 | omega)), (show (V13 5 6).toInt = 0 from by (first | exact om_b66ba74381d5 t8 | omega)), (show (V13 5 13).toInt = 0 from by (first | exact om_b66ba74381d5 t12 | omega))⟩, by rw [ht]; exact hP, va_K.moved hW.alike hK, hD⟩, hS.F ht⟩) hS.2.2 dX5_takeBook_9
abbrev r_x_h_bookN : Room := { frames := 94, cells := 0, slots := 0, locals := 2751 }
abbrev q_x_h_bookN (D : va_G) (ks : KS) (ad : Nat → Nat) (kk : Nat → ClassId) (V : Vf) (L : Lf) (Z : XZ) (b : Nat) (b1 : Nat) (A : Nat → Prop) : Array Value → State → Outcome → State → Prop := va_Qi (fun (r : Int32) (u : Vf × Lf) => rgd bX u.1 ∧ agr [(0, 6), (0, 7), (0, 8), (0, 9), (1, 1), (1, 2), (1, 3), (1, 4), (1, 6), (1, 7), (1, 8), (2, 7), (3, 12), (3, 13), (3, 14), (3, 15), (4, 5), (4, 6), (4, 7), (4, 8), (5, 5), (5, 6), (5, 7), (5, 8), (5, 9), (5, 13), (6, 5), (6, 6), (6, 7), (6, 8), (6, 9), (6, 10)] [12, 13, 14, 23, 24, 25, 41, 42, 43, 44, 45, 46, 47, 48, 49, 50, 51, 52, 53, 54, 55, 56, 57, 58, 59, 60, 61, 62, 63, 64, 65, 66] V u.1 ∧ agL [1, 6, 14, 44] L u.2 ∧ (Imp (r.toInt = 0) (HI u.1 Z b1)) ∧ (Imp (¬ r.toInt = 0) (HI u.1 Z b)) ∧ (Imp (r.toInt = 0) ((u.1 0 6).toInt = (b1 : Int) ∧ (u.1 0 7).toInt = (b : Int))) ∧ (Imp (¬ r.toInt = 0) ((u.1 0 6).toInt = (b : Int) ∧ (u.1 0 7).toInt = (b1 : Int))) ∧ ((u.1 44 0).toInt = (V 44 0).toInt) ∧ ((u.1 6 5).toInt = 0) ∧ (Imp (r.toInt = 0) (RST V u.1)) ∧ (Imp (¬ r.toInt = 0) (ESw V u.1 ∧ u.1 4 7 = V 4 7 ∧ u.1 4 8 = V 4 8 ∧ ∀ s9 : Nat, u.1 21 s9 = V 21 s9 ∧ u.1 22 s9 = V 22 s9))) (fun u t => gq D A (xw ad kk u.1 u.2 Z) (xty kk Z) t) A
set_option maxHeartbeats 4000000 in
set_option maxRecDepth 100000 in
theorem x_h_bookN (l : Launch) (D : va_G) (ks : KS) (sz : Nat) (ad : Nat → Nat) (kk : Nat → ClassId) (V : Vf) (L : Lf) (Z : XZ) (b : Nat) (b1 : Nat) (hMV : rgd bX V) (hb2 : b < 2) (hb1 : b1 < 2) (hbb : b + b1 = 1) (shk : (V 0 6).toInt = (b : Int)) (spk : (V 0 7).toInt = (b1 : Int)) (hi : HI V Z b) (h44 : 60900 ≤ (V 44 0).toInt ∧ (V 44 0).toInt ≤ 250000)  : Met l yX11_book (Cond.code yX11_book cX11_book 3 (some .int) :: GW) r_x_h_bookN (va_Pc [.ref (ad 0)] (gp D ks (xw ad kk V L Z) (xty kk Z) sz)) (q_x_h_bookN D ks ad kk V L Z  b b1 (va_A (xw ad kk V L Z) sz)) 0 0 (va_A (xw ad kk V L Z) sz) := by
  refine g_met (q_x_h_bookN D ks ad kk V L Z  b b1) (by decide) (Nat.le_of_ble_eq_true rfl) ?_
  intro p e s m below meth c A ls H locs hx hb hr hml hown hg hlocks hin hnw hgk hP hK hD hS hA hl
  have hown : s.vm.findClass RX11 = some m.cls := hown
  have hl : lv_has ls 3 [(0, .ref (ad 0))] := hl
  have hP : va_P D vwCl (xw ad kk V L Z) H := hP
  have hD : va_D A (xw ad kk V L Z) := hD
  have hK : va_K D vwCl (xty kk Z) s := hK
  have agV : agr [(0, 6), (0, 7), (0, 8), (0, 9), (1, 1), (1, 2), (1, 3), (1, 4), (1, 6), (1, 7), (1, 8), (2, 7), (3, 12), (3, 13), (3, 14), (3, 15), (4, 5), (4, 6), (4, 7), (4, 8), (5, 5), (5, 6), (5, 7), (5, 8), (5, 9), (5, 13), (6, 5), (6, 6), (6, 7), (6, 8), (6, 9), (6, 10)] [12, 13, 14, 23, 24, 25, 41, 42, 43, 44, 45, 46, 47, 48, 49, 50, 51, 52, 53, 54, 55, 56, 57, 58, 59, 60, 61, 62, 63, 64, 65, 66] V V := agr.rf
  have alL : agL [1, 6, 14, 44] L L := agL.rf
  have r1 : 0 ≤ ((V 0 6)).toInt ∧ ((V 0 6)).toInt ≤ 1 := hMV 0 6
  have r2 : 0 ≤ ((V 0 7)).toInt ∧ ((V 0 7)).toInt ≤ 1 := hMV 0 7
  refine lv_aload_n hx hb dX11_book_0 rfl (lv_at hl 0 rfl) ?_
  refine va_get (D := D) (ci := 11) (v := .ref (ad 1)) (fs := (xfHouse ad V L Z)) (C := RX11) (T := TX11) (N := 10) hx hb hg inX11 hown hK hP 0 xgHouse rfl 1 (by decide) (hg _ w716) (fun _ h9 => h9) rfl dX11_book_1 ?_
  refine lv_aload_n hx hb dX11_book_4 rfl (lv_at hl 0 rfl) ?_
  refine va_get (D := D) (ci := 11) (v := .ref (ad (38 + Int32.toNatClampNeg (V 0 7)))) (fs := (xfHouse ad V L Z)) (C := RX11) (T := TX11) (N := 10) hx hb hg inX11 hown hK hP 0 xgHouse rfl 7 (by decide) (hg _ w722) (fun _ h9 => h9) rfl dX11_book_5 ?_
  refine g_topv (v := .ref (ad (38 + b1))) (rfP (by first | omega | ((try (have i_hi := Imp.go hi (by omega))); omega))) ?_
  refine gA_int (gA_runV (As := [.ref (ad (38 + b1))]) (rest := []) (ci := 1) (q0 := 1) hx hb hml hown hg hP hD hK hS hA hnw hgk (x_read l D ks H.size ad kk V L Z (b1) hMV (show b1 < 2 from by first | exact om_f940a4667dd6 hb1 | first | omega | ((try (have i_hi := Imp.go hi (by omega))); omega))) w758 w759 w760 w162 w761 rfl xgReader hdV_yX1_read ⟨Nat.le_of_ble_eq_true rfl, Nat.le_of_ble_eq_true rfl⟩ rfl hl.1 rfl (Nat.le_of_ble_eq_true rfl) dX11_book_8 ⟨Nat.le_of_ble_eq_true rfl, Nat.le_of_ble_eq_true rfl⟩) hP hD hK hS hA (fun z3 u4 H locs w5 hP hD hK hS => ?_)
  obtain ⟨V7, L8⟩ := u4
  obtain ⟨hMV7, ajV7, axL8, fyV7, t6⟩ := w5
  have alL8 : agL [1, 6, 14, 44] L L8 := agL.tr alL axL8 (by decide)
  have hP : va_P D vwCl (xw ad kk V7 L8 Z) H := hP
  have hD : va_D A (xw ad kk V7 L8 Z) := hD
  have hMV7 : rgd bX V7 := hMV7
  have ajV7 : agr [(1, 1), (1, 2), (1, 3), (1, 4), (1, 6), (1, 7), (1, 8), (6, 6), (6, 7), (6, 8), (6, 9), (6, 10)] [12, 13, 14, 41, 42, 43, 44, 45, 46, 47, 48, 49, 50, 51, 52, 53, 54, 55, 56, 57, 58, 59, 60, 61, 62, 63, 64, 65, 66] V V7 := ajV7
  have agV7 : agr [(0, 6), (0, 7), (0, 8), (0, 9), (1, 1), (1, 2), (1, 3), (1, 4), (1, 6), (1, 7), (1, 8), (2, 7), (3, 12), (3, 13), (3, 14), (3, 15), (4, 5), (4, 6), (4, 7), (4, 8), (5, 5), (5, 6), (5, 7), (5, 8), (5, 9), (5, 13), (6, 5), (6, 6), (6, 7), (6, 8), (6, 9), (6, 10)] [12, 13, 14, 23, 24, 25, 41, 42, 43, 44, 45, 46, 47, 48, 49, 50, 51, 52, 53, 54, 55, 56, 57, 58, 59, 60, 61, 62, 63, 64, 65, 66] V V7 := agV.tr ajV7 (by decide) (by decide)
  have t6 : Imp (z3.toInt = 0) (CD V7 b1 ∧ TX V7 b1) := t6
  have e44r : (V7 44 0).toInt = (V 44 0).toInt := congrArg Int32.toInt (fyV7 44 0 ⟨by decide, by decide⟩ (Or.inr (Nat.le_refl 0)))
  refine lv_istore_n (lv' := [(1, .int z3), (0, .ref (ad 0))]) hx hb dX11_book_11 rfl hl (by decide) rfl (fun ls hl => ?_)
  refine lv_aload_n hx hb dX11_book_12 rfl (lv_at hl 1 rfl) ?_
  refine va_get (D := D) (ci := 11) (v := .ref (ad 6)) (fs := (xfHouse ad V7 L8 Z)) (C := RX11) (T := TX11) (N := 10) hx hb hg inX11 hown hK hP 0 xgHouse rfl 0 (by decide) (hg _ w715) (fun _ h9 => h9) rfl dX11_book_13 ?_
  refine gA_void (gA_runV (As := []) (rest := []) (ci := 9) (q0 := 6) hx hb hml hown hg hP hD hK hS hA hnw hgk (x_empty l D ks H.size ad kk V7 L8 Z  hMV7 ) w1019 w1020 w1021 w157 w1022 rfl xgTape hdV_yX9_empty ⟨Nat.le_of_ble_eq_true rfl, Nat.le_of_ble_eq_true rfl⟩ rfl hl.1 rfl (Nat.le_of_ble_eq_true rfl) dX11_book_16 ⟨Nat.le_of_ble_eq_true rfl, Nat.le_of_ble_eq_true rfl⟩) hP hD hK hS hA (fun u10 H locs w11 hP hD hK hS => ?_)
  obtain ⟨V13, L14⟩ := u10
  obtain ⟨hMV13, ajV13, axL14, t12⟩ := w11
  have axL14 : L8 = L14 := Eq.symm axL14
  subst axL14
  have hP : va_P D vwCl (xw ad kk V13 L8 Z) H := hP
  have hD : va_D A (xw ad kk V13 L8 Z) := hD
  have hMV13 : rgd bX V13 := hMV13
  have ajV13 : agr [(6, 5)] [] V7 V13 := ajV13
  have agV13 : agr [(0, 6), (0, 7), (0, 8), (0, 9), (1, 1), (1, 2), (1, 3), (1, 4), (1, 6), (1, 7), (1, 8), (2, 7), (3, 12), (3, 13), (3, 14), (3, 15), (4, 5), (4, 6), (4, 7), (4, 8), (5, 5), (5, 6), (5, 7), (5, 8), (5, 9), (5, 13), (6, 5), (6, 6), (6, 7), (6, 8), (6, 9), (6, 10)] [12, 13, 14, 23, 24, 25, 41, 42, 43, 44, 45, 46, 47, 48, 49, 50, 51, 52, 53, 54, 55, 56, 57, 58, 59, 60, 61, 62, 63, 64, 65, 66] V V13 := agV7.tr ajV13 (by decide) (by decide)
  have t12 : (V13 6 5).toInt = 0 := t12
  have r15 : 0 ≤ ((V13 6 5)).toInt ∧ ((V13 6 5)).toInt ≤ 4000 := hMV13 6 5
  refine lv_iload_n hx hb dX11_book_19 rfl (lv_at hl 0 rfl) ?_
  refine lv_if_eq (tgt := 25) hx hb dX11_book_20 (by decide) (fun c16 => ?_) (fun c16 => ?_)
  · skip
    have f17 : z3.toInt = 0 := b_eq rfl (by decide) c16
    refine lv_aload_n hx hb dX11_book_25 rfl (lv_at hl 1 rfl) ?_
    refine va_get (D := D) (ci := 11) (v := .ref (ad (38 + Int32.toNatClampNeg (V13 0 6)))) (fs := (xfHouse ad V13 L8 Z)) (C := RX11) (T := TX11) (N := 10) hx hb hg inX11 hown hK hP 0 xgHouse rfl 6 (by decide) (hg _ w721) (fun _ h9 => h9) rfl dX11_book_26 ?_
    have pq18 : (V13 0 6).toInt = ((V 0 6)).toInt := congrArg Int32.toInt ((ajV13 0 6 rfl).trans (ajV7 0 6 rfl))
    refine g_topv (v := .ref (ad (38 + b))) (rfP (by first | omega | ((try (have i_hi := Imp.go hi (by omega))); omega))) ?_
    refine lv_astore_n (lv' := [(2, .ref (ad (38 + b))), (1, .int z3), (0, .ref (ad 0))]) hx hb dX11_book_29 rfl hl (by decide) rfl (fun ls hl => ?_)
    refine lv_aload_n hx hb dX11_book_30 rfl (lv_at hl 2 rfl) ?_
    refine lv_aload_n hx hb dX11_book_31 rfl (lv_at hl 2 rfl) ?_
    refine va_get (D := D) (ci := 11) (v := .ref (ad (38 + Int32.toNatClampNeg (V13 0 7)))) (fs := (xfHouse ad V13 L8 Z)) (C := RX11) (T := TX11) (N := 10) hx hb hg inX11 hown hK hP 0 xgHouse rfl 7 (by decide) (hg _ w722) (fun _ h9 => h9) rfl dX11_book_32 ?_
    have pq19 : (V13 0 7).toInt = ((V 0 7)).toInt := congrArg Int32.toInt ((ajV13 0 7 rfl).trans (ajV7 0 7 rfl))
    refine g_topv (v := .ref (ad (38 + b1))) (rfP (by first | omega | ((try (have i_hi := Imp.go hi (by omega))); omega))) ?_
    refine va_put (D := D) (ci := 11) (v := .ref (ad (38 + b1))) (ty := tyX11 6) (fs := (xfHouse ad V13 L8 Z)) (C := RX11) (T := TX11) (N := 10) hx hb hg inX11 tyX11 tyX11_ok nmX11 hown hK hP hD hS 0 xgHouse rfl 6 (by decide) (hg _ w721) (fun _ h9 => h9) rfl (tyX11_ok 6 (by decide)) rfl rfl (Nat.le_of_ble_eq_true rfl) dX11_book_35 (fun H locs hP hD hS => ?_)
    have r20 : (nI b1).toInt = ((b1 : Nat) : Int) := nI_toInt (by omega)
    obtain ⟨V21, hV21⟩ : ∃ z, z = up2 V13 0 6 (nI b1) := ⟨_, rfl⟩
    have ew22 : (xw ad kk V13 L8 Z).set 0 ((ad 0), .inr (11, (xfHouse ad V13 L8 Z).set 6 (.ref (ad (38 + b1))))) = xw ad kk V21 L8 Z := by rw [hV21]; exact xr_shelf hb1
    have hP : va_P D vwCl (xw ad kk V21 L8 Z) H := by rw [← ew22]; exact hP
    have hD : va_D A (xw ad kk V21 L8 Z) := by rw [← ew22]; exact hD
    have hMV21 : rgd bX V21 := hMV13.put hV21 (show 0 ≤ ((nI b1)).toInt ∧ ((nI b1)).toInt ≤ 1 from by first | exact om_d98fff7a4861 hb1 r20 | first | omega | ((try (have i_hi := Imp.go hi (by omega))); omega))
    have agV21 : agr [(0, 6), (0, 7), (0, 8), (0, 9), (1, 1), (1, 2), (1, 3), (1, 4), (1, 6), (1, 7), (1, 8), (2, 7), (3, 12), (3, 13), (3, 14), (3, 15), (4, 5), (4, 6), (4, 7), (4, 8), (5, 5), (5, 6), (5, 7), (5, 8), (5, 9), (5, 13), (6, 5), (6, 6), (6, 7), (6, 8), (6, 9), (6, 10)] [12, 13, 14, 23, 24, 25, 41, 42, 43, 44, 45, 46, 47, 48, 49, 50, 51, 52, 53, 54, 55, 56, 57, 58, 59, 60, 61, 62, 63, 64, 65, 66] V V21 := agV13.up hV21 rfl
    refine lv_aload_n hx hb dX11_book_38 rfl (lv_at hl 2 rfl) ?_
    refine lv_aload_n hx hb dX11_book_39 rfl (lv_at hl 0 rfl) ?_
    refine va_put (D := D) (ci := 11) (v := .ref (ad (38 + b))) (ty := tyX11 7) (fs := (xfHouse ad V21 L8 Z)) (C := RX11) (T := TX11) (N := 10) hx hb hg inX11 tyX11 tyX11_ok nmX11 hown hK hP hD hS 0 xgHouse rfl 7 (by decide) (hg _ w722) (fun _ h9 => h9) rfl (tyX11_ok 7 (by decide)) rfl rfl (Nat.le_of_ble_eq_true rfl) dX11_book_40 (fun H locs hP hD hS => ?_)
    have r23 : (nI b).toInt = ((b : Nat) : Int) := nI_toInt (by omega)
    obtain ⟨V24, hV24⟩ : ∃ z, z = up2 V21 0 7 (nI b) := ⟨_, rfl⟩
    have ew25 : (xw ad kk V21 L8 Z).set 0 ((ad 0), .inr (11, (xfHouse ad V21 L8 Z).set 7 (.ref (ad (38 + b))))) = xw ad kk V24 L8 Z := by rw [hV24]; exact xr_spare hb2
    have hP : va_P D vwCl (xw ad kk V24 L8 Z) H := by rw [← ew25]; exact hP
    have hD : va_D A (xw ad kk V24 L8 Z) := by rw [← ew25]; exact hD
    have hMV24 : rgd bX V24 := hMV21.put hV24 (show 0 ≤ ((nI b)).toInt ∧ ((nI b)).toInt ≤ 1 from by first | exact om_cf08f328c789 hb1 hbb r23 | first | omega | ((try (have i_hi := Imp.go hi (by omega))); omega))
    have agV24 : agr [(0, 6), (0, 7), (0, 8), (0, 9), (1, 1), (1, 2), (1, 3), (1, 4), (1, 6), (1, 7), (1, 8), (2, 7), (3, 12), (3, 13), (3, 14), (3, 15), (4, 5), (4, 6), (4, 7), (4, 8), (5, 5), (5, 6), (5, 7), (5, 8), (5, 9), (5, 13), (6, 5), (6, 6), (6, 7), (6, 8), (6, 9), (6, 10)] [12, 13, 14, 23, 24, 25, 41, 42, 43, 44, 45, 46, 47, 48, 49, 50, 51, 52, 53, 54, 55, 56, 57, 58, 59, 60, 61, 62, 63, 64, 65, 66] V V24 := agV21.up hV24 rfl
    refine lv_aload_n hx hb dX11_book_43 rfl (lv_at hl 2 rfl) ?_
    refine va_get (D := D) (ci := 11) (v := .ref (ad 3)) (fs := (xfHouse ad V24 L8 Z)) (C := RX11) (T := TX11) (N := 10) hx hb hg inX11 hown hK hP 0 xgHouse rfl 3 (by decide) (hg _ w718) (fun _ h9 => h9) rfl dX11_book_44 ?_
    refine gA_void (gA_runV (As := []) (rest := []) (ci := 8) (q0 := 3) hx hb hml hown hg hP hD hK hS hA hnw hgk (x_sclear9 l D ks H.size ad kk V24 L8 Z  hMV24 ) w1023 w1024 w1025 w164 w1026 rfl xgStock hdV_yX8_clear ⟨Nat.le_of_ble_eq_true rfl, Nat.le_of_ble_eq_true rfl⟩ rfl hl.1 rfl (Nat.le_of_ble_eq_true rfl) dX11_book_47 ⟨Nat.le_of_ble_eq_true rfl, Nat.le_of_ble_eq_true rfl⟩) hP hD hK hS hA (fun u27 H locs w28 hP hD hK hS => ?_)
    obtain ⟨V36, L37⟩ := u27
    obtain ⟨hMV36, ajV36, axL37, t29, t30, t31, t32, t33, t34, t35⟩ := w28
    have axL37 : L8 = L37 := Eq.symm axL37
    subst axL37
    have hP : va_P D vwCl (xw ad kk V36 L8 Z) H := hP
    have hD : va_D A (xw ad kk V36 L8 Z) := hD
    have hMV36 : rgd bX V36 := hMV36
    have ajV36 : agr [(3, 12), (3, 13), (3, 14), (3, 15)] [23, 24, 25] V24 V36 := ajV36
    have agV36 : agr [(0, 6), (0, 7), (0, 8), (0, 9), (1, 1), (1, 2), (1, 3), (1, 4), (1, 6), (1, 7), (1, 8), (2, 7), (3, 12), (3, 13), (3, 14), (3, 15), (4, 5), (4, 6), (4, 7), (4, 8), (5, 5), (5, 6), (5, 7), (5, 8), (5, 9), (5, 13), (6, 5), (6, 6), (6, 7), (6, 8), (6, 9), (6, 10)] [12, 13, 14, 23, 24, 25, 41, 42, 43, 44, 45, 46, 47, 48, 49, 50, 51, 52, 53, 54, 55, 56, 57, 58, 59, 60, 61, 62, 63, 64, 65, 66] V V36 := agV24.tr ajV36 (by decide) (by decide)
    have t29 : (V36 3 13).toInt = 0 := t29
    have t30 : (V36 3 15).toInt = 0 := t30
    have t31 : ∀ q : Nat, q < 960 → (V36 25 q).toInt = -1 := t31
    have t32 : (V36 3 12).toInt = 1 := t32
    have t33 : (V36 3 14).toInt = 0 := t33
    have t34 : ∀ s9 : Nat, s9 < 40 → V36 24 s9 = 0 := t34
    have t35 : (V36 23 0).toInt = 1 := t35
    have r38 : 0 ≤ ((V36 3 13)).toInt ∧ ((V36 3 13)).toInt ≤ 300 := hMV36 3 13
    have r39 : 0 ≤ ((V36 3 15)).toInt ∧ ((V36 3 15)).toInt ≤ 262144 := hMV36 3 15
    have r40 : 1 ≤ ((V36 3 12)).toInt ∧ ((V36 3 12)).toInt ≤ 40 := hMV36 3 12
    refine lv_aload_n hx hb dX11_book_50 rfl (lv_at hl 2 rfl) ?_
    refine va_get (D := D) (ci := 11) (v := .ref (ad 4)) (fs := (xfHouse ad V36 L8 Z)) (C := RX11) (T := TX11) (N := 10) hx hb hg inX11 hown hK hP 0 xgHouse rfl 4 (by decide) (hg _ w719) (fun _ h9 => h9) rfl dX11_book_51 ?_
    refine gA_void (gA_runV (As := []) (rest := []) (ci := 7) (q0 := 4) hx hb hml hown hg hP hD hK hS hA hnw hgk (x_Nclear9 l D ks H.size ad kk V36 L8 Z  hMV36 ) w1031 w1032 w1033 w166 w1034 rfl xgNotes hdV_yX7_clear ⟨Nat.le_of_ble_eq_true rfl, Nat.le_of_ble_eq_true rfl⟩ rfl hl.1 rfl (Nat.le_of_ble_eq_true rfl) dX11_book_54 ⟨Nat.le_of_ble_eq_true rfl, Nat.le_of_ble_eq_true rfl⟩) hP hD hK hS hA (fun u42 H locs w43 hP hD hK hS => ?_)
    obtain ⟨V47, L48⟩ := u42
    obtain ⟨hMV47, ajV47, axL48, t44, t45, t46⟩ := w43
    have axL48 : L8 = L48 := Eq.symm axL48
    subst axL48
    have hP : va_P D vwCl (xw ad kk V47 L8 Z) H := hP
    have hD : va_D A (xw ad kk V47 L8 Z) := hD
    have hMV47 : rgd bX V47 := hMV47
    have ajV47 : agr [(4, 5), (4, 6), (4, 7), (4, 8)] [] V36 V47 := ajV47
    have agV47 : agr [(0, 6), (0, 7), (0, 8), (0, 9), (1, 1), (1, 2), (1, 3), (1, 4), (1, 6), (1, 7), (1, 8), (2, 7), (3, 12), (3, 13), (3, 14), (3, 15), (4, 5), (4, 6), (4, 7), (4, 8), (5, 5), (5, 6), (5, 7), (5, 8), (5, 9), (5, 13), (6, 5), (6, 6), (6, 7), (6, 8), (6, 9), (6, 10)] [12, 13, 14, 23, 24, 25, 41, 42, 43, 44, 45, 46, 47, 48, 49, 50, 51, 52, 53, 54, 55, 56, 57, 58, 59, 60, 61, 62, 63, 64, 65, 66] V V47 := agV36.tr ajV47 (by decide) (by decide)
    have t44 : (V47 4 6).toInt = 0 := t44
    have t45 : (V47 4 7).toInt = 0 := t45
    have t46 : (V47 4 8).toInt = 0 := t46
    have r49 : 0 ≤ ((V47 4 6)).toInt ∧ ((V47 4 6)).toInt ≤ 300 := hMV47 4 6
    refine lv_aload_n hx hb dX11_book_57 rfl (lv_at hl 2 rfl) ?_
    refine va_get (D := D) (ci := 11) (v := .ref (ad 2)) (fs := (xfHouse ad V47 L8 Z)) (C := RX11) (T := TX11) (N := 10) hx hb hg inX11 hown hK hP 0 xgHouse rfl 2 (by decide) (hg _ w717) (fun _ h9 => h9) rfl dX11_book_58 ?_
    refine gA_void (gA_runV (As := []) (rest := []) (ci := 2) (q0 := 2) hx hb hml hown hg hP hD hK hS hA hnw hgk (x_kclear l D ks H.size ad kk V47 L8 Z  hMV47 ) w1035 w1036 w1037 w163 w1038 rfl xgChecker hdV_yX2_clear ⟨Nat.le_of_ble_eq_true rfl, Nat.le_of_ble_eq_true rfl⟩ rfl hl.1 rfl (Nat.le_of_ble_eq_true rfl) dX11_book_61 ⟨Nat.le_of_ble_eq_true rfl, Nat.le_of_ble_eq_true rfl⟩) hP hD hK hS hA (fun u51 H locs w52 hP hD hK hS => ?_)
    obtain ⟨V53, L54⟩ := u51
    obtain ⟨hMV53, ajV53, axL54⟩ := w52
    have axL54 : L8 = L54 := Eq.symm axL54
    subst axL54
    have hP : va_P D vwCl (xw ad kk V53 L8 Z) H := hP
    have hD : va_D A (xw ad kk V53 L8 Z) := hD
    have hMV53 : rgd bX V53 := hMV53
    have ajV53 : agr [(2, 7)] [] V47 V53 := ajV53
    have agV53 : agr [(0, 6), (0, 7), (0, 8), (0, 9), (1, 1), (1, 2), (1, 3), (1, 4), (1, 6), (1, 7), (1, 8), (2, 7), (3, 12), (3, 13), (3, 14), (3, 15), (4, 5), (4, 6), (4, 7), (4, 8), (5, 5), (5, 6), (5, 7), (5, 8), (5, 9), (5, 13), (6, 5), (6, 6), (6, 7), (6, 8), (6, 9), (6, 10)] [12, 13, 14, 23, 24, 25, 41, 42, 43, 44, 45, 46, 47, 48, 49, 50, 51, 52, 53, 54, 55, 56, 57, 58, 59, 60, 61, 62, 63, 64, 65, 66] V V53 := agV47.tr ajV53 (by decide) (by decide)
    refine lv_aload_n hx hb dX11_book_64 rfl (lv_at hl 2 rfl) ?_
    refine va_get (D := D) (ci := 11) (v := .ref (ad 5)) (fs := (xfHouse ad V53 L8 Z)) (C := RX11) (T := TX11) (N := 10) hx hb hg inX11 hown hK hP 0 xgHouse rfl 5 (by decide) (hg _ w720) (fun _ h9 => h9) rfl dX11_book_65 ?_
    refine lv_aload_n hx hb dX11_book_68 rfl (lv_at hl 2 rfl) ?_
    refine va_get (D := D) (ci := 11) (v := .ref (ad (38 + Int32.toNatClampNeg (V53 0 6)))) (fs := (xfHouse ad V53 L8 Z)) (C := RX11) (T := TX11) (N := 10) hx hb hg inX11 hown hK hP 0 xgHouse rfl 6 (by decide) (hg _ w721) (fun _ h9 => h9) rfl dX11_book_69 ?_
    have pq55 : (V53 0 6).toInt = ((nI b1)).toInt := congrArg Int32.toInt ((ajV53 0 6 rfl).trans ((ajV47 0 6 rfl).trans ((ajV36 0 6 rfl).trans ((up2_k hV24 (by decide)).trans (up2_s hV21)))))
    refine g_topv (v := .ref (ad (38 + b1))) (rfP (by first | omega | ((try (have i_hi := Imp.go hi (by omega))); omega))) ?_
    refine gA_void (gA_runV (As := [.ref (ad (38 + b1))]) (rest := []) (ci := 5) (q0 := 5) hx hb hml hown hg hP hD hK hS hA hnw hgk (x_takeBook9 l D ks H.size ad kk V53 L8 Z (b1) hMV53 (show b1 < 2 from by first | exact om_f940a4667dd6 hb1 | first | omega | ((try (have i_hi := Imp.go hi (by omega))); omega))) w1039 w1040 w1041 w171 w1042 rfl xgMachine hdV_yX5_takeBook ⟨Nat.le_of_ble_eq_true rfl, Nat.le_of_ble_eq_true rfl⟩ rfl hl.1 rfl (Nat.le_of_ble_eq_true rfl) dX11_book_72 ⟨Nat.le_of_ble_eq_true rfl, Nat.le_of_ble_eq_true rfl⟩) hP hD hK hS hA (fun u57 H locs w58 hP hD hK hS => ?_)
    obtain ⟨V62, L63⟩ := u57
    obtain ⟨hMV62, ajV62, axL63, t59, t60, t61⟩ := w58
    have axL63 : L8 = L63 := Eq.symm axL63
    subst axL63
    have hP : va_P D vwCl (xw ad kk V62 L8 Z) H := hP
    have hD : va_D A (xw ad kk V62 L8 Z) := hD
    have hMV62 : rgd bX V62 := hMV62
    have ajV62 : agr [(5, 5), (5, 6), (5, 7), (5, 8), (5, 9), (5, 13)] [] V53 V62 := ajV62
    have agV62 : agr [(0, 6), (0, 7), (0, 8), (0, 9), (1, 1), (1, 2), (1, 3), (1, 4), (1, 6), (1, 7), (1, 8), (2, 7), (3, 12), (3, 13), (3, 14), (3, 15), (4, 5), (4, 6), (4, 7), (4, 8), (5, 5), (5, 6), (5, 7), (5, 8), (5, 9), (5, 13), (6, 5), (6, 6), (6, 7), (6, 8), (6, 9), (6, 10)] [12, 13, 14, 23, 24, 25, 41, 42, 43, 44, 45, 46, 47, 48, 49, 50, 51, 52, 53, 54, 55, 56, 57, 58, 59, 60, 61, 62, 63, 64, 65, 66] V V62 := agV53.tr ajV62 (by decide) (by decide)
    have t59 : (V62 5 5).toInt = (b1 : Int) := t59
    have t60 : (V62 5 6).toInt = 0 := t60
    have t61 : (V62 5 13).toInt = 0 := t61
    have r64 : 0 ≤ ((V62 5 5)).toInt ∧ ((V62 5 5)).toInt ≤ 1 := hMV62 5 5
    have r65 : 0 ≤ ((V62 5 6)).toInt ∧ ((V62 5 6)).toInt ≤ 400 := hMV62 5 6
    have r66 : 0 ≤ ((V62 5 13)).toInt ∧ ((V62 5 13)).toInt ≤ 3000 := hMV62 5 13
    refine lv_aload_n hx hb dX11_book_75 rfl (lv_at hl 2 rfl) ?_
    refine lv_iconst (v := 0) hx hb dX11_book_76 (by decide) ?_
    refine va_put (D := D) (ci := 11) (v := .int 0) (ty := tyX11 8) (fs := (xfHouse ad V62 L8 Z)) (C := RX11) (T := TX11) (N := 10) hx hb hg inX11 tyX11 tyX11_ok nmX11 hown hK hP hD hS 0 xgHouse rfl 8 (by decide) (hg _ w723) (fun _ h9 => h9) rfl (tyX11_ok 8 (by decide)) rfl rfl (Nat.le_of_ble_eq_true rfl) dX11_book_77 (fun H locs hP hD hS => ?_)
    obtain ⟨V67, hV67⟩ : ∃ z, z = up2 V62 0 8 0 := ⟨_, rfl⟩
    have ew68 : (xw ad kk V62 L8 Z).set 0 ((ad 0), .inr (11, (xfHouse ad V62 L8 Z).set 8 (.int 0))) = xw ad kk V67 L8 Z := by rw [hV67]; exact xw_ss (by decide) rfl (xb_si (by decide))
    have hP : va_P D vwCl (xw ad kk V67 L8 Z) H := by rw [← ew68]; exact hP
    have hD : va_D A (xw ad kk V67 L8 Z) := by rw [← ew68]; exact hD
    have hMV67 : rgd bX V67 := hMV62.put hV67 (by decide)
    have agV67 : agr [(0, 6), (0, 7), (0, 8), (0, 9), (1, 1), (1, 2), (1, 3), (1, 4), (1, 6), (1, 7), (1, 8), (2, 7), (3, 12), (3, 13), (3, 14), (3, 15), (4, 5), (4, 6), (4, 7), (4, 8), (5, 5), (5, 6), (5, 7), (5, 8), (5, 9), (5, 13), (6, 5), (6, 6), (6, 7), (6, 8), (6, 9), (6, 10)] [12, 13, 14, 23, 24, 25, 41, 42, 43, 44, 45, 46, 47, 48, 49, 50, 51, 52, 53, 54, 55, 56, 57, 58, 59, 60, 61, 62, 63, 64, 65, 66] V V67 := agV62.up hV67 rfl
    refine lv_aload_n hx hb dX11_book_80 rfl (lv_at hl 2 rfl) ?_
    refine lv_iconst (v := 0) hx hb dX11_book_81 (by decide) ?_
    refine va_put (D := D) (ci := 11) (v := .int 0) (ty := tyX11 9) (fs := (xfHouse ad V67 L8 Z)) (C := RX11) (T := TX11) (N := 10) hx hb hg inX11 tyX11 tyX11_ok nmX11 hown hK hP hD hS 0 xgHouse rfl 9 (by decide) (hg _ w724) (fun _ h9 => h9) rfl (tyX11_ok 9 (by decide)) rfl rfl (Nat.le_of_ble_eq_true rfl) dX11_book_82 (fun H locs hP hD hS => ?_)
    obtain ⟨V69, hV69⟩ : ∃ z, z = up2 V67 0 9 0 := ⟨_, rfl⟩
    have ew70 : (xw ad kk V67 L8 Z).set 0 ((ad 0), .inr (11, (xfHouse ad V67 L8 Z).set 9 (.int 0))) = xw ad kk V69 L8 Z := by rw [hV69]; exact xw_ss (by decide) rfl (xb_si (by decide))
    have hP : va_P D vwCl (xw ad kk V69 L8 Z) H := by rw [← ew70]; exact hP
    have hD : va_D A (xw ad kk V69 L8 Z) := by rw [← ew70]; exact hD
    have hMV69 : rgd bX V69 := hMV67.put hV69 (i_full _)
    have agV69 : agr [(0, 6), (0, 7), (0, 8), (0, 9), (1, 1), (1, 2), (1, 3), (1, 4), (1, 6), (1, 7), (1, 8), (2, 7), (3, 12), (3, 13), (3, 14), (3, 15), (4, 5), (4, 6), (4, 7), (4, 8), (5, 5), (5, 6), (5, 7), (5, 8), (5, 9), (5, 13), (6, 5), (6, 6), (6, 7), (6, 8), (6, 9), (6, 10)] [12, 13, 14, 23, 24, 25, 41, 42, 43, 44, 45, 46, 47, 48, 49, 50, 51, 52, 53, 54, 55, 56, 57, 58, 59, 60, 61, 62, 63, 64, 65, 66] V V69 := agV67.up hV69 rfl
    refine lv_iconst (v := 0) hx hb dX11_book_85 (by decide) ?_
    have pq71 : (V69 0 6).toInt = ((nI b1)).toInt := congrArg Int32.toInt ((up2_k hV69 (by decide)).trans ((up2_k hV67 (by decide)).trans ((ajV62 0 6 rfl).trans ((ajV53 0 6 rfl).trans ((ajV47 0 6 rfl).trans ((ajV36 0 6 rfl).trans ((up2_k hV24 (by decide)).trans (up2_s hV21))))))))
    have pq72 : (V69 0 7).toInt = ((nI b)).toInt := congrArg Int32.toInt ((up2_k hV69 (by decide)).trans ((up2_k hV67 (by decide)).trans ((ajV62 0 7 rfl).trans ((ajV53 0 7 rfl).trans ((ajV47 0 7 rfl).trans ((ajV36 0 7 rfl).trans (up2_s hV24)))))))
    have pq73 : (V69 44 0).toInt = ((V7 44 0)).toInt := congrArg Int32.toInt ((up2_o hV69 (by decide)).trans ((up2_o hV67 (by decide)).trans ((ajV62 44 0 rfl).trans ((ajV53 44 0 rfl).trans ((ajV47 44 0 rfl).trans ((ajV36 44 0 rfl).trans ((up2_o hV24 (by decide)).trans ((up2_o hV21 (by decide)).trans (ajV13 44 0 rfl)))))))))
    have pq74 : (V69 6 5).toInt = ((V13 6 5)).toInt := congrArg Int32.toInt ((up2_o hV69 (by decide)).trans ((up2_o hV67 (by decide)).trans ((ajV62 6 5 rfl).trans ((ajV53 6 5 rfl).trans ((ajV47 6 5 rfl).trans ((ajV36 6 5 rfl).trans ((up2_o hV24 (by decide)).trans (up2_o hV21 (by decide)))))))))
    have hcd := Imp.go t6 (by (first | exact om_b66ba74381d5 f17 | omega))
    have be75 : BE V7 V69 := (BE.tr (BE.tr (BE.tr (BE.tr (BE.tr (BE.tr (BE.tr (BE.tr (BE.tr BE.rf (BE.ag ajV13 (by decide) (by decide))) (BE.ag (agr.up (fs := [(0, 6)]) (cs := []) agr.rf hV21 rfl) (by decide) (by decide))) (BE.ag (agr.up (fs := [(0, 7)]) (cs := []) agr.rf hV24 rfl) (by decide) (by decide))) (BE.ag ajV36 (by decide) (by decide))) (BE.ag ajV47 (by decide) (by decide))) (BE.ag ajV53 (by decide) (by decide))) (BE.ag ajV62 (by decide) (by decide))) (BE.ag (agr.up (fs := [(0, 8)]) (cs := []) agr.rf hV67 rfl) (by decide) (by decide))) (BE.ag (agr.up (fs := [(0, 9)]) (cs := []) agr.rf hV69 rfl) (by decide) (by decide)))
    have pq76 : (V69 3 13).toInt = ((V36 3 13)).toInt := congrArg Int32.toInt ((up2_o hV69 (by decide)).trans ((up2_o hV67 (by decide)).trans ((ajV62 3 13 rfl).trans ((ajV53 3 13 rfl).trans (ajV47 3 13 rfl)))))
    have pq77 : (V69 3 15).toInt = ((V36 3 15)).toInt := congrArg Int32.toInt ((up2_o hV69 (by decide)).trans ((up2_o hV67 (by decide)).trans ((ajV62 3 15 rfl).trans ((ajV53 3 15 rfl).trans (ajV47 3 15 rfl)))))
    have pq78 : (V69 5 5).toInt = ((V62 5 5)).toInt := congrArg Int32.toInt ((up2_o hV69 (by decide)).trans (up2_o hV67 (by decide)))
    have pp79 : ∀ q : Nat, q < 960 → (V69 25 q).toInt = -1 := fun q hq => by rw [show V69 25 q = V67 25 q from up2_o hV69 (by decide)]; rw [show V67 25 q = V62 25 q from up2_o hV67 (by decide)]; rw [ajV62 25 q rfl]; rw [ajV53 25 q rfl]; rw [ajV47 25 q rfl]; exact t31 q hq
    have rp80 : HI V69 Z b1 := HI.new hi (TX.be hcd.2 be75) (CD.be hcd.1 be75) (by (first | exact om_36161e850215 t29 pq76 | omega)) (by (first | exact om_36161e850215 t30 pq77 | omega)) (by (first | exact om_07161d737d40 h44.1 h44.2 e44r pq73 | omega)) (by (first | exact om_adf531c77a0d t59 pq78 | omega)) pp79
    have pq82 : (V69 3 12).toInt = ((V36 3 12)).toInt := congrArg Int32.toInt ((up2_o hV69 (by decide)).trans ((up2_o hV67 (by decide)).trans ((ajV62 3 12 rfl).trans ((ajV53 3 12 rfl).trans (ajV47 3 12 rfl)))))
    have pq83 : (V69 3 14).toInt = ((V36 3 14)).toInt := congrArg Int32.toInt ((up2_o hV69 (by decide)).trans ((up2_o hV67 (by decide)).trans ((ajV62 3 14 rfl).trans ((ajV53 3 14 rfl).trans (ajV47 3 14 rfl)))))
    have pq84 : (V69 4 6).toInt = ((V47 4 6)).toInt := congrArg Int32.toInt ((up2_o hV69 (by decide)).trans ((up2_o hV67 (by decide)).trans ((ajV62 4 6 rfl).trans (ajV53 4 6 rfl))))
    have pq85 : (V69 4 7).toInt = ((V47 4 7)).toInt := congrArg Int32.toInt ((up2_o hV69 (by decide)).trans ((up2_o hV67 (by decide)).trans ((ajV62 4 7 rfl).trans (ajV53 4 7 rfl))))
    have pq86 : (V69 4 8).toInt = ((V47 4 8)).toInt := congrArg Int32.toInt ((up2_o hV69 (by decide)).trans ((up2_o hV67 (by decide)).trans ((ajV62 4 8 rfl).trans (ajV53 4 8 rfl))))
    have pq87 : (V69 5 13).toInt = ((V62 5 13)).toInt := congrArg Int32.toInt ((up2_o hV69 (by decide)).trans (up2_o hV67 (by decide)))
    have nb81 : RST V V69 := ⟨⟨by omega, by omega, by omega⟩, ⟨by omega, by omega, by omega⟩, ⟨by omega, ((up2_o hV69 (by decide)).trans ((up2_o hV67 (by decide)).trans ((ajV62 5 14 rfl).trans ((ajV53 5 14 rfl).trans ((ajV47 5 14 rfl).trans ((ajV36 5 14 rfl).trans ((up2_o hV24 (by decide)).trans ((up2_o hV21 (by decide)).trans ((ajV13 5 14 rfl).trans (ajV7 5 14 rfl))))))))))⟩, (by rw [(show agr [(0, 8), (0, 9), (2, 7), (4, 5), (4, 6), (4, 7), (4, 8), (5, 5), (5, 6), (5, 7), (5, 8), (5, 9), (5, 13)] [] V36 V69 from (agr.up (agr.up (agr.tr (agr.tr (agr.tr agr.rf ajV47 (by decide) (by decide)) ajV53 (by decide) (by decide)) ajV62 (by decide) (by decide)) hV67 rfl) hV69 rfl)) 23 0 rfl]; exact t35), (fun s9 h9 => ((show agr [(0, 8), (0, 9), (2, 7), (4, 5), (4, 6), (4, 7), (4, 8), (5, 5), (5, 6), (5, 7), (5, 8), (5, 9), (5, 13)] [] V36 V69 from (agr.up (agr.up (agr.tr (agr.tr (agr.tr agr.rf ajV47 (by decide) (by decide)) ajV53 (by decide) (by decide)) ajV62 (by decide) (by decide)) hV67 rfl) hV69 rfl)) 24 s9 rfl).trans (t34 s9 h9)), (fun q9 h9 => by rw [(show agr [(0, 8), (0, 9), (2, 7), (4, 5), (4, 6), (4, 7), (4, 8), (5, 5), (5, 6), (5, 7), (5, 8), (5, 9), (5, 13)] [] V36 V69 from (agr.up (agr.up (agr.tr (agr.tr (agr.tr agr.rf ajV47 (by decide) (by decide)) ajV53 (by decide) (by decide)) ajV62 (by decide) (by decide)) hV67 rfl) hV69 rfl)) 25 q9 rfl]; exact t31 q9 h9), (fun s9 => ⟨(show agr [(0, 6), (0, 7), (0, 8), (0, 9), (1, 1), (1, 2), (1, 3), (1, 4), (1, 6), (1, 7), (1, 8), (2, 7), (3, 12), (3, 13), (3, 14), (3, 15), (4, 5), (4, 6), (4, 7), (4, 8), (5, 5), (5, 6), (5, 7), (5, 8), (5, 9), (5, 13), (6, 5), (6, 6), (6, 7), (6, 8), (6, 9), (6, 10)] [12, 13, 14, 23, 24, 25, 41, 42, 43, 44, 45, 46, 47, 48, 49, 50, 51, 52, 53, 54, 55, 56, 57, 58, 59, 60, 61, 62, 63, 64, 65, 66] V V69 from (agr.up (agr.up (agr.tr (agr.tr (agr.tr (agr.tr (agr.up (agr.up (agr.tr (agr.tr agr.rf ajV7 (by decide) (by decide)) ajV13 (by decide) (by decide)) hV21 rfl) hV24 rfl) ajV36 (by decide) (by decide)) ajV47 (by decide) (by decide)) ajV53 (by decide) (by decide)) ajV62 (by decide) (by decide)) hV67 rfl) hV69 rfl)) 21 s9 rfl, (show agr [(0, 6), (0, 7), (0, 8), (0, 9), (1, 1), (1, 2), (1, 3), (1, 4), (1, 6), (1, 7), (1, 8), (2, 7), (3, 12), (3, 13), (3, 14), (3, 15), (4, 5), (4, 6), (4, 7), (4, 8), (5, 5), (5, 6), (5, 7), (5, 8), (5, 9), (5, 13), (6, 5), (6, 6), (6, 7), (6, 8), (6, 9), (6, 10)] [12, 13, 14, 23, 24, 25, 41, 42, 43, 44, 45, 46, 47, 48, 49, 50, 51, 52, 53, 54, 55, 56, 57, 58, 59, 60, 61, 62, 63, 64, 65, 66] V V69 from (agr.up (agr.up (agr.tr (agr.tr (agr.tr (agr.tr (agr.up (agr.up (agr.tr (agr.tr agr.rf ajV7 (by decide) (by decide)) ajV13 (by decide) (by decide)) hV21 rfl) hV24 rfl) ajV36 (by decide) (by decide)) ajV47 (by decide) (by decide)) ajV53 (by decide) (by decide)) ajV62 (by decide) (by decide)) hV67 rfl) hV69 rfl)) 22 s9 rfl⟩)⟩
    exact W.iret (v := 0) hx hb hr (fun t ht hW => ⟨⟨0, (V69, L8), rfl, ⟨hMV69, agV69, alL8, (Imp.mk (fun _ => rp80)), (Imp.mk (fun hp => absurd (show Int32.toInt 0 = 0 from by decide) hp)), (Imp.mk (fun _ => (show (V69 0 6).toInt = (b1 : Int) ∧ (V69 0 7).toInt = (b : Int) from by first | exact om_dc1ab77f9798 r20 r23 pq71 pq72 | first | omega | ((try (have i_hi := Imp.go hi (by omega))); omega)))), (Imp.mk (fun hp => absurd (show Int32.toInt 0 = 0 from by decide) hp)), (show (V69 44 0).toInt = (V 44 0).toInt from by first | exact om_cd7d0a6a31bc e44r pq73 | first | omega | ((try (have i_hi := Imp.go hi (by omega))); omega)), (show (V69 6 5).toInt = 0 from by first | exact om_36161e850215 t12 pq74 | first | omega | ((try (have i_hi := Imp.go hi (by omega))); omega)), (Imp.mk (fun _ => nb81)), (Imp.mk (fun hp => absurd (show Int32.toInt 0 = 0 from by decide) hp))⟩, by rw [ht]; exact hP, va_K.moved hW.alike hK, hD⟩, hS.F ht⟩) hS.2.2 dX11_book_86
  · skip
    have f88 : z3.toInt ≠ 0 := b_neq rfl (by decide) c16
    refine lv_iload_n hx hb dX11_book_23 rfl (lv_at hl 0 rfl) ?_
    have pq89 : (V13 0 6).toInt = ((V 0 6)).toInt := congrArg Int32.toInt ((ajV13 0 6 rfl).trans (ajV7 0 6 rfl))
    have pq90 : (V13 0 7).toInt = ((V 0 7)).toInt := congrArg Int32.toInt ((ajV13 0 7 rfl).trans (ajV7 0 7 rfl))
    have pq91 : (V13 44 0).toInt = ((V7 44 0)).toInt := congrArg Int32.toInt (ajV13 44 0 rfl)
    have hf92 : HI V7 Z b := HI.fr hi hbb hMV fyV7 (ajV7 3 13 rfl) (ajV7 3 15 rfl) (ajV7 5 5 rfl) (fun k => ajV7 26 k rfl) (fun k => ajV7 30 k rfl) (fun k => ajV7 32 k rfl) (fun k => ajV7 25 k rfl)
    exact W.iret (v := z3) hx hb hr (fun t ht hW => ⟨⟨z3, (V13, L8), rfl, ⟨hMV13, agV13, alL8, (Imp.mk (fun hp => by exfalso; omega)), (Imp.mk (fun _ => (HI.ag hf92 ajV13 (by decide)))), (Imp.mk (fun hp => have hp : z3.toInt = 0 := hp; (show (V13 0 6).toInt = (b1 : Int) ∧ (V13 0 7).toInt = (b : Int) from by first | omega | ((try (have i_hi := Imp.go hi (by omega))); omega)))), (Imp.mk (fun _ => ⟨by show (V13 0 6).toInt = (b : Int); (first | exact om_adf531c77a0d shk pq89 | omega), by show (V13 0 7).toInt = (b1 : Int); (first | exact om_adf531c77a0d spk pq90 | omega)⟩)), (show (V13 44 0).toInt = (V 44 0).toInt from by first | exact om_cd7d0a6a31bc e44r pq91 | first | omega | ((try (have i_hi := Imp.go hi (by omega))); omega)), (show (V13 6 5).toInt = 0 from by first | exact om_b66ba74381d5 t12 | first | omega | ((try (have i_hi := Imp.go hi (by omega))); omega)), (Imp.mk (fun hp => by exfalso; omega)), (Imp.mk (fun _ => ⟨ESw.ag (show agr [(1, 1), (1, 2), (1, 3), (1, 4), (1, 6), (1, 7), (1, 8), (6, 5), (6, 6), (6, 7), (6, 8), (6, 9), (6, 10)] [12, 13, 14, 41, 42, 43, 44, 45, 46, 47, 48, 49, 50, 51, 52, 53, 54, 55, 56, 57, 58, 59, 60, 61, 62, 63, 64, 65, 66] V V13 from (agr.tr (agr.tr agr.rf ajV7 (by decide) (by decide)) ajV13 (by decide) (by decide))) (by decide), (show agr [(1, 1), (1, 2), (1, 3), (1, 4), (1, 6), (1, 7), (1, 8), (6, 5), (6, 6), (6, 7), (6, 8), (6, 9), (6, 10)] [12, 13, 14, 41, 42, 43, 44, 45, 46, 47, 48, 49, 50, 51, 52, 53, 54, 55, 56, 57, 58, 59, 60, 61, 62, 63, 64, 65, 66] V V13 from (agr.tr (agr.tr agr.rf ajV7 (by decide) (by decide)) ajV13 (by decide) (by decide))) 4 7 rfl, (show agr [(1, 1), (1, 2), (1, 3), (1, 4), (1, 6), (1, 7), (1, 8), (6, 5), (6, 6), (6, 7), (6, 8), (6, 9), (6, 10)] [12, 13, 14, 41, 42, 43, 44, 45, 46, 47, 48, 49, 50, 51, 52, 53, 54, 55, 56, 57, 58, 59, 60, 61, 62, 63, 64, 65, 66] V V13 from (agr.tr (agr.tr agr.rf ajV7 (by decide) (by decide)) ajV13 (by decide) (by decide))) 4 8 rfl, fun s9 => ⟨(show agr [(1, 1), (1, 2), (1, 3), (1, 4), (1, 6), (1, 7), (1, 8), (6, 5), (6, 6), (6, 7), (6, 8), (6, 9), (6, 10)] [12, 13, 14, 41, 42, 43, 44, 45, 46, 47, 48, 49, 50, 51, 52, 53, 54, 55, 56, 57, 58, 59, 60, 61, 62, 63, 64, 65, 66] V V13 from (agr.tr (agr.tr agr.rf ajV7 (by decide) (by decide)) ajV13 (by decide) (by decide))) 21 s9 rfl, (show agr [(1, 1), (1, 2), (1, 3), (1, 4), (1, 6), (1, 7), (1, 8), (6, 5), (6, 6), (6, 7), (6, 8), (6, 9), (6, 10)] [12, 13, 14, 41, 42, 43, 44, 45, 46, 47, 48, 49, 50, 51, 52, 53, 54, 55, 56, 57, 58, 59, 60, 61, 62, 63, 64, 65, 66] V V13 from (agr.tr (agr.tr agr.rf ajV7 (by decide) (by decide)) ajV13 (by decide) (by decide))) 22 s9 rfl⟩⟩))⟩, by rw [ht]; exact hP, va_K.moved hW.alike hK, hD⟩, hS.F ht⟩) hS.2.2 dX11_book_24
end
section
/-! a scope is opened -/
def OPN (V W : Vf) (kd dy : Int) : Prop := ∃ n : Nat, (V 3 12).toInt = (n : Int) ∧ n < 40 ∧ (W 3 12).toInt = (n : Int) + 1 ∧ ((W 21 n).toInt = kd ∧ (W 22 n).toInt = dy ∧ (W 23 n).toInt = 1) ∧ (∀ s, s ≠ n → W 21 s = V 21 s ∧ W 22 s = V 22 s ∧ W 23 s = V 23 s) ∧ ∀ c k, ¬ (c = 3 ∧ k = 12) → c ≠ 21 → c ≠ 22 → c ≠ 23 → W c k = V c k
theorem OPN.of {V V1 V2 V3 W : Vf} {n : Nat} {k d z : Int32} (hn : (V 3 12).toInt = (n : Int)) (h40 : n < 40) (h1 : V1 = up2 V 21 n k) (h2 : V2 = up2 V1 22 n d) (h3 : V3 = up2 V2 23 n 1) (h4 : W = up2 V3 3 12 z) (hz : z.toInt = (n : Int) + 1) : OPN V W k.toInt d.toInt := by
  refine ⟨n, hn, h40, by rw [up2_s h4]; exact hz, ⟨?_, ?_, ?_⟩, fun s hs => ⟨?_, ?_, ?_⟩, fun c j q h21 h22 h23 => ?_⟩
  · rw [(up2_o h4 (by decide)).trans ((up2_o h3 (by decide)).trans ((up2_o h2 (by decide)).trans (up2_s h1)))]
  · rw [(up2_o h4 (by decide)).trans ((up2_o h3 (by decide)).trans (up2_s h2))]
  · rw [(up2_o h4 (by decide)).trans (up2_s h3)]
    decide
  · exact (up2_o h4 (by decide)).trans ((up2_o h3 (by decide)).trans ((up2_o h2 (by decide)).trans (up2_k h1 hs)))
  · exact (up2_o h4 (by decide)).trans ((up2_o h3 (by decide)).trans ((up2_k h2 hs).trans (up2_o h1 (by decide))))
  · exact (up2_o h4 (by decide)).trans ((up2_k h3 hs).trans ((up2_o h2 (by decide)).trans (up2_o h1 (by decide))))
  · have e4 : W c j = V3 c j := by rw [h4]; exact up2_pl q
    exact e4.trans ((up2_o h3 h23).trans ((up2_o h2 h22).trans (up2_o h1 h21)))
/-- .. in the reference -/
def OPM (V W : Vf) (kd dy : Int) : Prop := ∃ n : Nat, (V 0 55).toInt = (n : Int) ∧ n < 40 ∧ (W 0 55).toInt = (n : Int) + 1 ∧ ((W 57 n).toInt = kd ∧ (W 58 n).toInt = dy ∧ (W 56 n).toInt = 1) ∧ (∀ s, s ≠ n → W 57 s = V 57 s ∧ W 58 s = V 58 s ∧ W 56 s = V 56 s) ∧ (∀ j, 24 * n ≤ j → j < 24 * n + 24 → (W 59 j).toInt = 0) ∧ ∀ j, ¬ (24 * n ≤ j ∧ j < 24 * n + 24) → W 59 j = V 59 j
def mvO (fs : List (Nat × Nat)) (cs : List Nat) : Bool := fs.all (fun y => y.1 == 0 && !(mvF.contains y)) && cs.all (fun c => c != 0 && (c == 56 || c == 57 || c == 58 || c == 59 || !(mvK.contains c)))
theorem mvO_f {L : List (Nat × Nat)} {cs : List Nat} (q : mvO L cs = true) {k : Nat} (h : mvF.contains (0, k) = true) : wrL L cs 0 k = false := by
  unfold mvO at q
  rw [Bool.and_eq_true, List.all_eq_true, List.all_eq_true] at q
  unfold wrL
  rw [Bool.or_eq_false_iff]
  refine ⟨?_, ?_⟩
  · rw [← Bool.not_eq_true]
    intro z
    have y := q.1 _ (List.contains_iff_mem.mp z)
    rw [Bool.and_eq_true, h] at y
    exact absurd y.2 (by decide)
  · rw [← Bool.not_eq_true]
    intro z
    have y := q.2 _ (List.contains_iff_mem.mp z)
    rw [Bool.and_eq_true] at y
    exact absurd y.1 (by decide)
theorem mvO_k {L : List (Nat × Nat)} {cs : List Nat} (q : mvO L cs = true) {c k : Nat} (h0 : c ≠ 0) (h : mvK.contains c = true) (h6 : c ≠ 56) (h7 : c ≠ 57) (h8 : c ≠ 58) (h9 : c ≠ 59) : wrL L cs c k = false := by
  unfold mvO at q
  rw [Bool.and_eq_true, List.all_eq_true, List.all_eq_true] at q
  unfold wrL
  rw [Bool.or_eq_false_iff]
  refine ⟨?_, ?_⟩
  · rw [← Bool.not_eq_true]
    intro z
    have y := q.1 _ (List.contains_iff_mem.mp z)
    rw [Bool.and_eq_true] at y
    exact h0 (eq_of_beq y.1)
  · rw [← Bool.not_eq_true]
    intro z
    have y := q.2 _ (List.contains_iff_mem.mp z)
    rw [Bool.and_eq_true, h, beq_false_of_ne h6, beq_false_of_ne h7, beq_false_of_ne h8, beq_false_of_ne h9] at y
    exact absurd y.2 (by decide)
/-- the numbers, but for the scopes' rows -/
theorem mV_op {L : List (Nat × Nat)} {cs : List Nat} {V W : Vf} (g : agr L cs V W) (q : mvO L cs = true) {x j : Nat} (h11 : x ≠ 11) (h12 : x ≠ 12) (h13 : x ≠ 13) (h8 : x ≠ 8) : mV W 0 0 0 x j = mV V 0 0 0 x j := by
  cases x with
  | zero =>
    rcases (show j = 0 ∨ j = 1 ∨ j = 2 ∨ j = 3 ∨ j = 4 ∨ j = 5 ∨ j = 6 ∨ j = 7 ∨ j = 8 ∨ j = 9 ∨ 10 ≤ j from by omega) with e10 | e10 | e10 | e10 | e10 | e10 | e10 | e10 | e10 | e10 | e10
    · subst e10
      rw [mV_00, mV_00]
      exact congrArg Int32.toInt (g 0 68 (mvO_f q rfl))
    · subst e10
      rw [mV_01, mV_01]
      exact congrArg Int32.toInt (g 0 69 (mvO_f q rfl))
    · subst e10
      rw [mV_02, mV_02]
      exact congrArg Int32.toInt (g 0 60 (mvO_f q rfl))
    · subst e10
      rw [mV_03, mV_03]
      exact congrArg Int32.toInt (g 0 65 (mvO_f q rfl))
    · subst e10
      rw [mV_04, mV_04]
      exact congrArg Int32.toInt (g 0 95 (mvO_f q rfl))
    · subst e10
      rw [mV_05, mV_05]
      exact congrArg Int32.toInt (g 0 73 (mvO_f q rfl))
    · subst e10
      rw [mV_06, mV_06]
    · subst e10
      rw [mV_07, mV_07]
    · subst e10
      rw [mV_08, mV_08]
    · subst e10
      rw [mV_09, mV_09]
    · obtain ⟨y10, rfl⟩ : ∃ y, j = y + 10 := ⟨j - 10, by omega⟩
      rw [mV_0x, mV_0x]
  | succ y =>
    by_cases hy : y < 13
    · rw [mV_row hy, mV_row hy]
      refine congrArg Int32.toInt (g _ _ (mvO_k q (mvC_k hy).1 (mvC_k hy).2 ?_ ?_ ?_ ?_))
      all_goals
        rcases (show y = 0 ∨ y = 1 ∨ y = 2 ∨ y = 3 ∨ y = 4 ∨ y = 5 ∨ y = 6 ∨ y = 8 ∨ y = 9 from by omega) with e | e | e | e | e | e | e | e | e <;> (subst e; decide)
    · rw [mV_big (by omega), mV_big (by omega)]
theorem RWn.opn {V W Vm Wm : Vf} {ow : Nat → Nat} {B : Bk} {L : List (Nat × Nat)} {cs : List Nat} {kd dy dy2 : Int} (h : RWn V ow B (mV Vm 0 0 0)) (n24 : nC B ≤ 24) (c : OPN V W kd dy) (r : OPM Vm Wm kd dy2) (e12 : (V 3 12).toInt = (Vm 0 55).toInt) (hk : kd = 2 → dy = dy2 ∧ 0 ≤ dy ∧ dy < (V 3 12).toInt) (g : agr L cs Vm Wm) (q : mvO L cs = true) : RWn W ow B (mV Wm 0 0 0) := by
  obtain ⟨n, c1, c2, c3, ⟨c4, c5, c6⟩, c7, c8⟩ := c
  obtain ⟨n2, r1, r2, r3, ⟨r4, r5, r6⟩, r7, r8, r9⟩ := r
  obtain rfl : n = n2 := by omega
  obtain ⟨ha, hb, hj, ⟨⟨s1, s2⟩, s3, s4⟩, hp⟩ := h
  have ex : ∀ x j, x ≠ 11 → x ≠ 12 → x ≠ 13 → x ≠ 8 → mV Wm 0 0 0 x j = mV Vm 0 0 0 x j := fun x j a1 a2 a3 a4 => mV_op g q a1 a2 a3 a4
  have cc : ∀ a k, a ≤ 40 → ¬ (a = 3 ∧ k = 12) → a ≠ 21 → a ≠ 22 → a ≠ 23 → W a k = V a k := fun a k _ h1 h2 h3 h4 => c8 a k h1 h2 h3 h4
  have e02 := ex 0 2 (by decide) (by decide) (by decide) (by decide)
  refine ⟨?_, fun x hx => ?_, RWj.mv hj e02 (fun q => ex 6 q (by decide) (by decide) (by decide) (by decide)) (fun q => ex 7 q (by decide) (by decide) (by decide) (by decide)) (cc 3 15 (by decide) (by decide) (by decide) (by decide) (by decide)) (fun q => cc 30 q (by decide) (by omega) (by decide) (by decide) (by decide)) (fun q => cc 31 q (by decide) (by omega) (by decide) (by decide) (by decide)) (fun q => cc 32 q (by decide) (by omega) (by decide) (by decide) (by decide)), ⟨⟨⟨by omega, by omega⟩, fun s h1 h2 => ?_⟩, fun s hs => ?_, fun s hs => ?_⟩, ⟨fun pl c hpl hc hsh => ?_, fun x y hxy hy h1 h2 h3 h4 => ?_⟩⟩
  · obtain ⟨⟨a0, a1, a2, a3⟩, a4, a5⟩ := ha
    refine ⟨⟨by rw [ex 0 0 (by decide) (by decide) (by decide) (by decide), cc 5 14 (by decide) (by decide) (by decide) (by decide) (by decide)]; exact a0, by rw [ex 0 1 (by decide) (by decide) (by decide) (by decide), cc 5 13 (by decide) (by decide) (by decide) (by decide) (by decide)]; exact a1, by rw [e02, cc 3 13 (by decide) (by decide) (by decide) (by decide) (by decide)]; exact a2, by rw [ex 0 3 (by decide) (by decide) (by decide) (by decide), cc 3 14 (by decide) (by decide) (by decide) (by decide) (by decide)]; exact a3⟩, by rw [ex 0 5 (by decide) (by decide) (by decide) (by decide), cc 4 6 (by decide) (by decide) (by decide) (by decide) (by decide)]; exact a4, fun i h1 h2 => ?_⟩
    rw [ex 0 5 (by decide) (by decide) (by decide) (by decide)] at h2
    rw [ex 9 _ (by decide) (by decide) (by decide) (by decide), ex 10 _ (by decide) (by decide) (by decide) (by decide), cc 36 _ (by decide) (by omega) (by decide) (by decide) (by decide), cc 37 _ (by decide) (by omega) (by decide) (by decide) (by decide)]
    exact a5 i h1 h2
  · rw [e02] at hx
    have z := hb x hx
    rw [ex 1 x (by decide) (by decide) (by decide) (by decide), ex 2 x (by decide) (by decide) (by decide) (by decide), ex 3 x (by decide) (by decide) (by decide) (by decide), ex 4 x (by decide) (by decide) (by decide) (by decide), cc 26 _ (by decide) (by omega) (by decide) (by decide) (by decide), cc 27 _ (by decide) (by omega) (by decide) (by decide) (by decide), cc 28 _ (by decide) (by omega) (by decide) (by decide) (by decide), cc 29 _ (by decide) (by omega) (by decide) (by decide) (by decide)]
    exact ⟨z.1, z.2.1, z.2.2.1, ⟨z.2.2.2.1.1, by have := z.2.2.2.1.2; omega⟩, z.2.2.2.2⟩
  · rw [cc 24 _ (by decide) (by omega) (by decide) (by decide) (by decide)]
    exact s2 s (by omega) h2
  · by_cases e : s = n
    · rw [e, c4]
      exact r4.symm
    · rw [(c7 s e).1]
      exact (s3 s hs).trans (congrArg Int32.toInt (r7 s e).1).symm
  · by_cases e : s = n
    · subst e
      refine ⟨c6.trans r6.symm, fun k2 => ?_, fun c hc => ?_⟩
      · have k2 : (Wm 57 s).toInt = 2 := k2
        have hd := hk (by omega)
        show (W 22 s).toInt = (Wm 58 s).toInt ∧ 0 ≤ (Wm 58 s).toInt ∧ (Wm 58 s).toInt < (W 3 12).toInt
        omega
      · rw [cc 24 _ (by decide) (by omega) (by decide) (by decide) (by decide), s2 s (by omega) (by omega), b_0]
        have z : (Wm 59 (24 * s + c)).toInt = 0 := r8 _ (by omega) (by omega)
        exact ⟨fun h => absurd h (by decide), fun h => absurd z h⟩
    · have z := s4 s (by omega)
      have e11 : mV Wm 0 0 0 11 s = mV Vm 0 0 0 11 s := congrArg Int32.toInt (r7 s e).2.2
      have e12b : mV Wm 0 0 0 12 s = mV Vm 0 0 0 12 s := congrArg Int32.toInt (r7 s e).1
      have e13 : mV Wm 0 0 0 13 s = mV Vm 0 0 0 13 s := congrArg Int32.toInt (r7 s e).2.1
      rw [e11, e12b, e13, (c7 s e).2.1, (c7 s e).2.2, cc 24 _ (by decide) (by omega) (by decide) (by decide) (by decide)]
      refine ⟨z.1, fun k2 => ?_, fun c hc => ?_⟩
      · have y := z.2.1 k2
        exact ⟨y.1, y.2.1, by have := y.2.2; omega⟩
      · have e8 : mV Wm 0 0 0 8 (24 * s + c) = mV Vm 0 0 0 8 (24 * s + c) := congrArg Int32.toInt (r9 _ (by omega))
        rw [e8]
        exact z.2.2 c hc
  · rw [cc 25 _ (by decide) (by omega) (by decide) (by decide) (by decide), hp.1 pl c hpl hc hsh, e02]
    exact (prs_ext _ (fun x _ => by rw [ex 1 x (by decide) (by decide) (by decide) (by decide), ex 2 x (by decide) (by decide) (by decide) (by decide), ex 3 x (by decide) (by decide) (by decide) (by decide)])).symm
  · rw [e02] at hy
    rw [ex 1 x (by decide) (by decide) (by decide) (by decide), ex 1 y (by decide) (by decide) (by decide) (by decide)] at h1
    rw [ex 2 x (by decide) (by decide) (by decide) (by decide), ex 2 y (by decide) (by decide) (by decide) (by decide)] at h2
    rw [ex 1 x (by decide) (by decide) (by decide) (by decide)] at h3
    rw [ex 3 x (by decide) (by decide) (by decide) (by decide)] at h4
    rw [ex 3 y (by decide) (by decide) (by decide) (by decide)]
    exact hp.2 x y hxy hy h1 h2 h3 h4
theorem SCm.opn {Vm Wm : Vf} {kd dy : Int} (w : SCm (mV Vm 0 0 0) (Vm 0 55).toInt.toNat) (r : OPM Vm Wm kd dy) (hn : 1 ≤ (Vm 0 55).toInt) (hk : kd = 1 ∨ (kd = 2 ∧ 0 < dy ∧ dy < (Vm 0 55).toInt ∧ (Vm 57 dy.toNat).toInt = 1)) : SCm (mV Wm 0 0 0) (Wm 0 55).toInt.toNat := by
  obtain ⟨n, r1, r2, r3, ⟨r4, r5, r6⟩, r7, _, _⟩ := r
  have n1 : (Vm 0 55).toInt.toNat = n := by omega
  rw [n1] at w
  have e12 : ∀ s, s ≠ n → mV Wm 0 0 0 12 s = mV Vm 0 0 0 12 s := fun s hs => congrArg Int32.toInt (r7 s hs).1
  refine ⟨(e12 0 (by omega)).trans w.1, (congrArg Int32.toInt (r7 0 (by omega)).2.2).trans w.2.1, fun j h1 h2 => ?_⟩
  by_cases e : j = n
  · subst e
    rcases hk with hk | hk
    · exact Or.inl (r4.trans hk)
    · refine Or.inr ⟨r4.trans hk.1, ?_⟩
      show 0 < (Wm 58 j).toInt ∧ (Wm 58 j).toInt < _ ∧ mV Wm 0 0 0 12 (Wm 58 j).toInt.toNat = 1
      rw [r5]
      exact ⟨hk.2.1, by omega, (e12 dy.toNat (by omega)).trans hk.2.2.2⟩
  · have z := w.2.2 j h1 (by omega)
    have e13 : mV Wm 0 0 0 13 j = mV Vm 0 0 0 13 j := congrArg Int32.toInt (r7 j e).2.1
    rw [e12 j e, e13]
    rcases z with z | z
    · exact Or.inl z
    · exact Or.inr ⟨z.1, z.2.1, by have := z.2.2.1; omega, (e12 _ (by have := z.2.2.1; omega)).trans z.2.2.2⟩
theorem dzC.opn {V W : Vf} {kd dy : Int} (h : dzC V) (c : OPN V W kd dy) (hk : (kd = 1 ∧ dy = 0) ∨ kd = 2) : dzC W := fun s h1 h2 => by
  obtain ⟨n, c1, c2, c3, ⟨c4, c5, c6⟩, c7, _⟩ := c
  by_cases e : s = n
  · subst e
    omega
  · rw [(c7 s e).1, (c7 s e).2.1]
    exact h s h1 (by omega)


abbrev r_x_open9 : Room := { frames := 0, cells := 0, slots := 0, locals := 0 }
abbrev q_x_open9 (D : va_G) (ks : KS) (ad : Nat → Nat) (kk : Nat → ClassId) (V : Vf) (L : Lf) (Z : XZ) (p0 : Int32) (p1 : Int32) (A : Nat → Prop) : Array Value → State → Outcome → State → Prop := va_Qi (fun (r : Int32) (u : Vf × Lf) => rgd bX u.1 ∧ agr [(3, 12)] [21, 22, 23] V u.1 ∧ u.2 = L ∧ ((-1) ≤ r.toInt ∧ r.toInt ≤ 39) ∧ (((r.toInt = (V 3 12).toInt ∧ (V 3 12).toInt < 40) ∧ u.1 = (up2 (up2 (up2 (up2 V 21 (Int32.toNatClampNeg (V 3 12)) p0) 22 (Int32.toNatClampNeg (V 3 12)) p1) 23 (Int32.toNatClampNeg (V 3 12)) 1) 3 12 (V 3 12 + 1))) ∨ ((r.toInt = -1 ∧ 40 ≤ (V 3 12).toInt) ∧ u.1 = V))) (fun u t => gq D A (xw ad kk u.1 u.2 Z) (xty kk Z) t) A
set_option maxHeartbeats 4000000 in
set_option maxRecDepth 100000 in
theorem x_open9 (l : Launch) (D : va_G) (ks : KS) (sz : Nat) (ad : Nat → Nat) (kk : Nat → ClassId) (V : Vf) (L : Lf) (Z : XZ) (p0 : Int32) (p1 : Int32) (hMV : rgd bX V) (rg_p1 : 0 ≤ p1.toInt ∧ p1.toInt ≤ 39)  : Met l yX8_open (Cond.code yX8_open cX8_open 3 (some .int) :: GW) r_x_open9 (va_Pc [.ref (ad 3), .int p0, .int p1] (gp D ks (xw ad kk V L Z) (xty kk Z) sz)) (q_x_open9 D ks ad kk V L Z p0 p1 (va_A (xw ad kk V L Z) sz)) 0 0 (va_A (xw ad kk V L Z) sz) := by
  refine g_met (q_x_open9 D ks ad kk V L Z p0 p1) (by decide) (Nat.le_of_ble_eq_true rfl) ?_
  intro p e s m below meth c A ls H locs hx hb hr hml hown hg hlocks hin hnw hgk hP hK hD hS hA hl
  have hown : s.vm.findClass RX8 = some m.cls := hown
  have hl : lv_has ls 3 [(0, .ref (ad 3)), (1, .int p0), (2, .int p1)] := hl
  have hP : va_P D vwCl (xw ad kk V L Z) H := hP
  have hD : va_D A (xw ad kk V L Z) := hD
  have hK : va_K D vwCl (xty kk Z) s := hK
  have agV : agr [(3, 12)] [21, 22, 23] V V := agr.rf
  refine lv_aload_n hx hb dX8_open_0 rfl (lv_at hl 0 rfl) ?_
  refine va_get (D := D) (ci := 8) (v := .int (V 3 12)) (fs := (xfStock ad V L Z)) (C := RX8) (T := TX8) (N := 16) hx hb hg inX8 hown hK hP 3 xgStock rfl 12 (by decide) (hg _ w390) (fun _ h9 => h9) rfl dX8_open_1 ?_
  have r1 : 1 ≤ ((V 3 12)).toInt ∧ ((V 3 12)).toInt ≤ 40 := hMV 3 12
  refine lv_bipush (v := 40) hx hb dX8_open_4 (by decide) ?_
  refine lv_icmp_lt (tgt := 11) hx hb dX8_open_6 (by decide) (fun c2 => ?_) (fun c2 => ?_)
  · skip
    have f3 : ((V 3 12)).toInt < 40 := b_lt rfl (by decide) c2
    refine lv_aload_n hx hb dX8_open_11 rfl (lv_at hl 0 rfl) ?_
    refine va_get (D := D) (ci := 8) (v := .ref (ad 18)) (fs := (xfStock ad V L Z)) (C := RX8) (T := TX8) (N := 16) hx hb hg inX8 hown hK hP 3 xgStock rfl 0 (by decide) (hg _ w373) (fun _ h9 => h9) rfl dX8_open_12 ?_
    refine lv_aload_n hx hb dX8_open_15 rfl (lv_at hl 0 rfl) ?_
    refine va_get (D := D) (ci := 8) (v := .int (V 3 12)) (fs := (xfStock ad V L Z)) (C := RX8) (T := TX8) (N := 16) hx hb hg inX8 hown hK hP 3 xgStock rfl 12 (by decide) (hg _ w390) (fun _ h9 => h9) rfl dX8_open_16 ?_
    refine lv_iload_n hx hb dX8_open_19 rfl (lv_at hl 1 rfl) ?_
    refine va_iast (D := D) (i := (V 3 12)) (x := p0) hx hb hK hP hD hS 18 11 rfl rfl (i_in (a := ((V 3 12)).toInt) rfl (by (first | exact om_c9b7842ae8ee r1.1 f3 | omega))) dX8_open_20 (fun H locs hP hD hS => ?_)
    obtain ⟨V4, hV4⟩ : ∃ z, z = up2 V 21 (Int32.toNatClampNeg (V 3 12)) p0 := ⟨_, rfl⟩
    have ew5 : (xw ad kk V L Z).set 18 ((ad 18), .inl ((kk 18), 40, .inl (upd (V 21) (Int32.toNatClampNeg (V 3 12)) p0))) = xw ad kk V4 L Z := by rw [hV4]; exact xw_ss (by decide) rfl (xb_si (by decide))
    have hP : va_P D vwCl (xw ad kk V4 L Z) H := by rw [← ew5]; exact hP
    have hD : va_D A (xw ad kk V4 L Z) := by rw [← ew5]; exact hD
    have hMV4 : rgd bX V4 := hMV.put hV4 (i_full _)
    have agV4 : agr [(3, 12)] [21, 22, 23] V V4 := agV.up hV4 rfl
    refine lv_aload_n hx hb dX8_open_21 rfl (lv_at hl 0 rfl) ?_
    refine va_get (D := D) (ci := 8) (v := .ref (ad 19)) (fs := (xfStock ad V4 L Z)) (C := RX8) (T := TX8) (N := 16) hx hb hg inX8 hown hK hP 3 xgStock rfl 1 (by decide) (hg _ w375) (fun _ h9 => h9) rfl dX8_open_22 ?_
    refine lv_aload_n hx hb dX8_open_25 rfl (lv_at hl 0 rfl) ?_
    refine va_get (D := D) (ci := 8) (v := .int (V4 3 12)) (fs := (xfStock ad V4 L Z)) (C := RX8) (T := TX8) (N := 16) hx hb hg inX8 hown hK hP 3 xgStock rfl 12 (by decide) (hg _ w390) (fun _ h9 => h9) rfl dX8_open_26 ?_
    refine g_top (v := (V 3 12)) (up2_o hV4 (by decide)) ?_
    refine lv_iload_n hx hb dX8_open_29 rfl (lv_at hl 2 rfl) ?_
    refine va_iast (D := D) (i := (V 3 12)) (x := p1) hx hb hK hP hD hS 19 12 rfl rfl (i_in (a := ((V 3 12)).toInt) rfl (by (first | exact om_c9b7842ae8ee r1.1 f3 | omega))) dX8_open_30 (fun H locs hP hD hS => ?_)
    obtain ⟨V6, hV6⟩ : ∃ z, z = up2 V4 22 (Int32.toNatClampNeg (V 3 12)) p1 := ⟨_, rfl⟩
    have ew7 : (xw ad kk V4 L Z).set 19 ((ad 19), .inl ((kk 19), 40, .inl (upd (V4 22) (Int32.toNatClampNeg (V 3 12)) p1))) = xw ad kk V6 L Z := by rw [hV6]; exact xw_ss (by decide) rfl (xb_si (by decide))
    have hP : va_P D vwCl (xw ad kk V6 L Z) H := by rw [← ew7]; exact hP
    have hD : va_D A (xw ad kk V6 L Z) := by rw [← ew7]; exact hD
    have hMV6 : rgd bX V6 := hMV4.put hV6 (show 0 ≤ p1.toInt ∧ p1.toInt ≤ 39 from by (first | exact om_13ba01c174fe rg_p1.1 rg_p1.2 | omega))
    have agV6 : agr [(3, 12)] [21, 22, 23] V V6 := agV4.up hV6 rfl
    refine lv_aload_n hx hb dX8_open_31 rfl (lv_at hl 0 rfl) ?_
    refine va_get (D := D) (ci := 8) (v := .ref (ad 20)) (fs := (xfStock ad V6 L Z)) (C := RX8) (T := TX8) (N := 16) hx hb hg inX8 hown hK hP 3 xgStock rfl 2 (by decide) (hg _ w376) (fun _ h9 => h9) rfl dX8_open_32 ?_
    refine lv_aload_n hx hb dX8_open_35 rfl (lv_at hl 0 rfl) ?_
    refine va_get (D := D) (ci := 8) (v := .int (V6 3 12)) (fs := (xfStock ad V6 L Z)) (C := RX8) (T := TX8) (N := 16) hx hb hg inX8 hown hK hP 3 xgStock rfl 12 (by decide) (hg _ w390) (fun _ h9 => h9) rfl dX8_open_36 ?_
    refine g_top (v := (V 3 12)) ((up2_o hV6 (by decide)).trans (up2_o hV4 (by decide))) ?_
    refine lv_iconst (v := 1) hx hb dX8_open_39 (by decide) ?_
    refine va_zast (D := D) (i := (V 3 12)) (x := 1) hx hb hK hP hD hS 20 13 rfl rfl (i_in (a := ((V 3 12)).toInt) rfl (by (first | exact om_c9b7842ae8ee r1.1 f3 | omega))) dX8_open_40 (fun H locs hP hD hS => ?_)
    obtain ⟨V8, hV8⟩ : ∃ z, z = up2 V6 23 (Int32.toNatClampNeg (V 3 12)) (vp_nar .boolean 1) := ⟨_, rfl⟩
    have ew9 : (xw ad kk V6 L Z).set 20 ((ad 20), .inl ((kk 20), 40, .inl (upd (V6 23) (Int32.toNatClampNeg (V 3 12)) (vp_nar .boolean 1)))) = xw ad kk V8 L Z := by rw [hV8]; exact xw_ss (by decide) rfl (xb_si (by decide))
    have hP : va_P D vwCl (xw ad kk V8 L Z) H := by rw [← ew9]; exact hP
    have hD : va_D A (xw ad kk V8 L Z) := by rw [← ew9]; exact hD
    have hMV8 : rgd bX V8 := hMV6.put hV8 (nar_b _)
    have agV8 : agr [(3, 12)] [21, 22, 23] V V8 := agV6.up hV8 rfl
    refine lv_aload_n hx hb dX8_open_41 rfl (lv_at hl 0 rfl) ?_
    refine lv_dup hx hb dX8_open_42 rfl ?_
    refine va_get (D := D) (ci := 8) (v := .int (V8 3 12)) (fs := (xfStock ad V8 L Z)) (C := RX8) (T := TX8) (N := 16) hx hb hg inX8 hown hK hP 3 xgStock rfl 12 (by decide) (hg _ w390) (fun _ h9 => h9) rfl dX8_open_43 ?_
    refine g_top (v := (V 3 12)) ((up2_o hV8 (by decide)).trans ((up2_o hV6 (by decide)).trans (up2_o hV4 (by decide)))) ?_
    refine lv_dup_x1 hx hb dX8_open_46 rfl rfl ?_
    refine lv_iconst (v := 1) hx hb dX8_open_47 (by decide) ?_
    refine lv_iadd hx hb dX8_open_48 ?_
    refine lv_topi (fun z10 ez10 => ?_)
    have hz10 : z10.toInt = ((V 3 12)).toInt + 1 := i_add ez10 rfl (by decide) (by (first | exact om_eab13f2fe702 r1.1 f3 | omega))
    refine va_put (D := D) (ci := 8) (v := .int z10) (ty := tyX8 12) (fs := (xfStock ad V8 L Z)) (C := RX8) (T := TX8) (N := 16) hx hb hg inX8 tyX8 tyX8_ok nmX8 hown hK hP hD hS 3 xgStock rfl 12 (by decide) (hg _ w390) (fun _ h9 => h9) rfl (tyX8_ok 12 (by decide)) rfl rfl (Nat.le_of_ble_eq_true rfl) dX8_open_49 (fun H locs hP hD hS => ?_)
    obtain ⟨V11, hV11⟩ : ∃ z, z = up2 V8 3 12 z10 := ⟨_, rfl⟩
    have ew12 : (xw ad kk V8 L Z).set 3 ((ad 3), .inr (8, (xfStock ad V8 L Z).set 12 (.int z10))) = xw ad kk V11 L Z := by rw [hV11]; exact xw_ss (by decide) rfl (xb_si (by decide))
    have hP : va_P D vwCl (xw ad kk V11 L Z) H := by rw [← ew12]; exact hP
    have hD : va_D A (xw ad kk V11 L Z) := by rw [← ew12]; exact hD
    have hMV11 : rgd bX V11 := hMV8.put hV11 (show 1 ≤ z10.toInt ∧ z10.toInt ≤ 40 from by (first | exact om_389cffd2cbd4 r1.1 f3 hz10 | omega))
    have agV11 : agr [(3, 12)] [21, 22, 23] V V11 := agV8.up hV11 rfl
    exact W.iret (v := (V 3 12)) hx hb hr (fun t ht hW => ⟨⟨(V 3 12), (V11, L), rfl, ⟨hMV11, agV11, rfl, (show (-1) ≤ ((V 3 12)).toInt ∧ ((V 3 12)).toInt ≤ 39 from by (first | exact om_f4aee0b9a3d0 r1.1 f3 | omega)), (Or.inl ⟨⟨by omega, by omega⟩, by rw [hV11, hV8, hV6, hV4, ez10] <;> rfl⟩)⟩, by rw [ht]; exact hP, va_K.moved hW.alike hK, hD⟩, hS.F ht⟩) hS.2.2 dX8_open_52
  · skip
    have f13 : 40 ≤ ((V 3 12)).toInt := b_nlt rfl (by decide) c2
    refine lv_iconst (v := (-1)) hx hb dX8_open_9 (by decide) ?_
    exact W.iret (v := (-1)) hx hb hr (fun t ht hW => ⟨⟨(-1), (V, L), rfl, ⟨hMV, agV, rfl, (by decide), (Or.inr (⟨⟨by decide, by omega⟩, rfl⟩))⟩, by rw [ht]; exact hP, va_K.moved hW.alike hK, hD⟩, hS.F ht⟩) hS.2.2 dX8_open_10
abbrev r_x_h_day9 : Room := { frames := 1, cells := 0, slots := 0, locals := 22 }
abbrev q_x_h_day9 (D : va_G) (ks : KS) (ad : Nat → Nat) (kk : Nat → ClassId) (V : Vf) (L : Lf) (Z : XZ) (A : Nat → Prop) : Array Value → State → Outcome → State → Prop := va_Qi (fun (r : Int32) (u : Vf × Lf) => rgd bX u.1 ∧ agr [(3, 12)] [21, 22, 23] V u.1 ∧ u.2 = L ∧ (((V 0 8).toInt = 1 ∧ (V 3 12).toInt < 40) → r.toInt = (V 3 12).toInt ∧ OPN V u.1 1 0) ∧ (¬ ((V 0 8).toInt = 1 ∧ (V 3 12).toInt < 40) → r.toInt = -1 ∧ agr [] [] V u.1)) (fun u t => gq D A (xw ad kk u.1 u.2 Z) (xty kk Z) t) A
set_option maxHeartbeats 4000000 in
set_option maxRecDepth 100000 in
theorem x_h_day9 (l : Launch) (D : va_G) (ks : KS) (sz : Nat) (ad : Nat → Nat) (kk : Nat → ClassId) (V : Vf) (L : Lf) (Z : XZ)  (hMV : rgd bX V)  : Met l yX11_day (Cond.code yX11_day cX11_day 1 (some .int) :: GW) r_x_h_day9 (va_Pc [.ref (ad 0)] (gp D ks (xw ad kk V L Z) (xty kk Z) sz)) (q_x_h_day9 D ks ad kk V L Z  (va_A (xw ad kk V L Z) sz)) 0 0 (va_A (xw ad kk V L Z) sz) := by
  refine g_met (q_x_h_day9 D ks ad kk V L Z) (by decide) (Nat.le_of_ble_eq_true rfl) ?_
  intro p e s m below meth c A ls H locs hx hb hr hml hown hg hlocks hin hnw hgk hP hK hD hS hA hl
  have hown : s.vm.findClass RX11 = some m.cls := hown
  have hl : lv_has ls 1 [(0, .ref (ad 0))] := hl
  have hP : va_P D vwCl (xw ad kk V L Z) H := hP
  have hD : va_D A (xw ad kk V L Z) := hD
  have hK : va_K D vwCl (xty kk Z) s := hK
  have agV : agr [(3, 12)] [21, 22, 23] V V := agr.rf
  refine lv_aload_n hx hb dX11_day_0 rfl (lv_at hl 0 rfl) ?_
  refine va_get (D := D) (ci := 11) (v := .int (V 0 8)) (fs := (xfHouse ad V L Z)) (C := RX11) (T := TX11) (N := 10) hx hb hg inX11 hown hK hP 0 xgHouse rfl 8 (by decide) (hg _ w723) (fun _ h9 => h9) rfl dX11_day_1 ?_
  have r1 : 0 ≤ ((V 0 8)).toInt ∧ ((V 0 8)).toInt ≤ 1 := hMV 0 8
  refine lv_if_eq (tgt := 19) hx hb dX11_day_4 (by decide) (fun c2 => ?_) (fun c2 => ?_)
  · skip
    have f3 : ((V 0 8)).toInt = 0 := b_eq rfl (by decide) c2
    refine lv_iconst (v := (-1)) hx hb dX11_day_19 (by decide) ?_
    exact W.iret (v := (-1)) hx hb hr (fun t ht hW => ⟨⟨(-1), (V, L), rfl, ⟨hMV, agV, rfl, (fun h9 => by exfalso; omega), (fun _ => ⟨by decide, agr.rf⟩)⟩, by rw [ht]; exact hP, va_K.moved hW.alike hK, hD⟩, hS.F ht⟩) hS.2.2 dX11_day_20
  · skip
    have f4 : ((V 0 8)).toInt ≠ 0 := b_neq rfl (by decide) c2
    refine lv_aload_n hx hb dX11_day_7 rfl (lv_at hl 0 rfl) ?_
    refine va_get (D := D) (ci := 11) (v := .ref (ad 3)) (fs := (xfHouse ad V L Z)) (C := RX11) (T := TX11) (N := 10) hx hb hg inX11 hown hK hP 0 xgHouse rfl 3 (by decide) (hg _ w718) (fun _ h9 => h9) rfl dX11_day_8 ?_
    refine lv_iconst (v := 1) hx hb dX11_day_11 (by decide) ?_
    refine lv_iconst (v := 0) hx hb dX11_day_12 (by decide) ?_
    have r5 : Int32.toInt 1 = 1 := by decide
    have r6 : Int32.toInt 0 = 0 := by decide
    refine gA_int (gA_runV (As := [.int 1, .int 0]) (rest := []) (ci := 8) (q0 := 3) hx hb hml hown hg hP hD hK hS hA hnw hgk (x_open9 l D ks H.size ad kk V L Z 1 0 hMV (by decide)) w1150 w1151 w1152 w164 w1153 rfl xgStock hdV_yX8_open ⟨Nat.le_of_ble_eq_true rfl, Nat.le_of_ble_eq_true rfl⟩ rfl hl.1 rfl (Nat.le_of_ble_eq_true rfl) dX11_day_13 ⟨Nat.le_of_ble_eq_true rfl, Nat.le_of_ble_eq_true rfl⟩) hP hD hK hS hA (fun z7 u8 H locs w9 hP hD hK hS => ?_)
    obtain ⟨V11, L12⟩ := u8
    obtain ⟨hMV11, ajV11, axL12, rgz7, t10⟩ := w9
    have axL12 : L = L12 := Eq.symm axL12
    subst axL12
    have hP : va_P D vwCl (xw ad kk V11 L Z) H := hP
    have hD : va_D A (xw ad kk V11 L Z) := hD
    have hMV11 : rgd bX V11 := hMV11
    have ajV11 : agr [(3, 12)] [21, 22, 23] V V11 := ajV11
    have agV11 : agr [(3, 12)] [21, 22, 23] V V11 := agV.tr ajV11 (by decide) (by decide)
    have rgz7 : (-1) ≤ z7.toInt ∧ z7.toInt ≤ 39 := rgz7
    have t10 : ((z7.toInt = (V 3 12).toInt ∧ (V 3 12).toInt < 40) ∧ V11 = (up2 (up2 (up2 (up2 V 21 (Int32.toNatClampNeg (V 3 12)) 1) 22 (Int32.toNatClampNeg (V 3 12)) 0) 23 (Int32.toNatClampNeg (V 3 12)) 1) 3 12 (V 3 12 + 1))) ∨ ((z7.toInt = -1 ∧ 40 ≤ (V 3 12).toInt) ∧ V11 = V) := t10
    rcases t10 with ⟨hc13, hw14⟩ | ⟨hc15, hw16⟩
    · skip
      obtain ⟨V17, hV17⟩ : ∃ z, z = up2 V 21 (Int32.toNatClampNeg (V 3 12)) 1 := ⟨_, rfl⟩
      obtain ⟨V18, hV18⟩ : ∃ z, z = up2 V17 22 (Int32.toNatClampNeg (V 3 12)) 0 := ⟨_, rfl⟩
      obtain ⟨V19, hV19⟩ : ∃ z, z = up2 V18 23 (Int32.toNatClampNeg (V 3 12)) 1 := ⟨_, rfl⟩
      have r21 : 1 ≤ ((V 3 12)).toInt ∧ ((V 3 12)).toInt ≤ 40 := hMV 3 12
      obtain ⟨z20, ez20⟩ : ∃ y : Int32, y = V 3 12 + 1 := ⟨_, rfl⟩
      have hz20 : z20.toInt = (V 3 12).toInt + 1 := i_add ez20 rfl (by decide) (by (first | exact om_b118672944e8 r21.1 r21.2 | omega))
      have hV11 : V11 = up2 V19 3 12 z20 := by rw [hw14, hV19, hV18, hV17, ez20]
      refine lv_goto (tgt := 20) hx hb dX11_day_16 (by decide) ?_
      have k12 := i_clamp (x := V 3 12) rfl (by (first | exact om_c078ef78e547 r21.1 | omega))
      have d1 : Int32.toInt 1 = 1 := by decide
      have d2 : Int32.toInt 2 = 2 := by decide
      have d0 : Int32.toInt 0 = 0 := by decide
      have op22 : OPN V V11 (1) (0) := by have h9 := OPN.of (n := Int32.toNatClampNeg (V 3 12)) (by omega) (by omega) hV17 hV18 hV19 hV11 (by omega); simpa only [d0, d1, d2] using h9
      exact W.iret (v := z7) hx hb hr (fun t ht hW => ⟨⟨z7, (V11, L), rfl, ⟨hMV11, agV11, rfl, (fun _ => ⟨by have h8 := hc13; omega, op22⟩), (fun h9 => absurd ⟨by omega, by have h8 := hc13; omega⟩ h9)⟩, by rw [ht]; exact hP, va_K.moved hW.alike hK, hD⟩, hS.F ht⟩) hS.2.2 dX11_day_20
    · skip
      have ajV11 : agr [] [] V V11 := by rw [hw16]; exact agr.rf
      refine lv_goto (tgt := 20) hx hb dX11_day_16 (by decide) ?_
      exact W.iret (v := z7) hx hb hr (fun t ht hW => ⟨⟨z7, (V11, L), rfl, ⟨hMV11, agV11, rfl, (fun h9 => by exfalso; have h8 := hc15; omega), (fun _ => ⟨by have h8 := hc15; omega, ajV11⟩)⟩, by rw [ht]; exact hP, va_K.moved hW.alike hK, hD⟩, hS.F ht⟩) hS.2.2 dX11_day_20
abbrev r_x_h_meal9 : Room := { frames := 1, cells := 0, slots := 0, locals := 22 }
abbrev q_x_h_meal9 (D : va_G) (ks : KS) (ad : Nat → Nat) (kk : Nat → ClassId) (V : Vf) (L : Lf) (Z : XZ) (p0 : Int32) (A : Nat → Prop) : Array Value → State → Outcome → State → Prop := va_Qi (fun (r : Int32) (u : Vf × Lf) => rgd bX u.1 ∧ agr [(3, 12)] [21, 22, 23] V u.1 ∧ u.2 = L ∧ (((V 0 8).toInt = 1 ∧ (0 ≤ p0.toInt ∧ p0.toInt < (V 3 12).toInt ∧ (V 23 (Int32.toNatClampNeg p0)).toInt = 1) ∧ (V 21 (Int32.toNatClampNeg p0)).toInt = 1 ∧ (V 3 12).toInt < 40) → r.toInt = (V 3 12).toInt ∧ OPN V u.1 2 p0.toInt) ∧ (¬ ((V 0 8).toInt = 1 ∧ (0 ≤ p0.toInt ∧ p0.toInt < (V 3 12).toInt ∧ (V 23 (Int32.toNatClampNeg p0)).toInt = 1) ∧ (V 21 (Int32.toNatClampNeg p0)).toInt = 1 ∧ (V 3 12).toInt < 40) → r.toInt = -1 ∧ agr [] [] V u.1)) (fun u t => gq D A (xw ad kk u.1 u.2 Z) (xty kk Z) t) A
set_option maxHeartbeats 4000000 in
set_option maxRecDepth 100000 in
theorem x_h_meal9 (l : Launch) (D : va_G) (ks : KS) (sz : Nat) (ad : Nat → Nat) (kk : Nat → ClassId) (V : Vf) (L : Lf) (Z : XZ) (p0 : Int32) (hMV : rgd bX V)  : Met l yX11_meal (Cond.code yX11_meal cX11_meal 3 (some .int) :: GW) r_x_h_meal9 (va_Pc [.ref (ad 0), .int p0] (gp D ks (xw ad kk V L Z) (xty kk Z) sz)) (q_x_h_meal9 D ks ad kk V L Z p0 (va_A (xw ad kk V L Z) sz)) 0 0 (va_A (xw ad kk V L Z) sz) := by
  refine g_met (q_x_h_meal9 D ks ad kk V L Z p0) (by decide) (Nat.le_of_ble_eq_true rfl) ?_
  intro p e s m below meth c A ls H locs hx hb hr hml hown hg hlocks hin hnw hgk hP hK hD hS hA hl
  have hown : s.vm.findClass RX11 = some m.cls := hown
  have hl : lv_has ls 3 [(0, .ref (ad 0)), (1, .int p0)] := hl
  have hP : va_P D vwCl (xw ad kk V L Z) H := hP
  have hD : va_D A (xw ad kk V L Z) := hD
  have hK : va_K D vwCl (xty kk Z) s := hK
  have agV : agr [(3, 12)] [21, 22, 23] V V := agr.rf
  refine lv_aload_n hx hb dX11_meal_0 rfl (lv_at hl 0 rfl) ?_
  refine va_get (D := D) (ci := 11) (v := .ref (ad 3)) (fs := (xfHouse ad V L Z)) (C := RX11) (T := TX11) (N := 10) hx hb hg inX11 hown hK hP 0 xgHouse rfl 3 (by decide) (hg _ w718) (fun _ h9 => h9) rfl dX11_meal_1 ?_
  refine lv_iload_n hx hb dX11_meal_4 rfl (lv_at hl 1 rfl) ?_
  refine gA_int (gA_runV (As := [.int p0]) (rest := []) (ci := 8) (q0 := 3) hx hb hml hown hg hP hD hK hS hA hnw hgk (x_isOpen9 l D ks H.size ad kk V L Z p0 hMV ) w1158 w1159 w1160 w164 w1161 rfl xgStock hdV_yX8_isOpen ⟨Nat.le_of_ble_eq_true rfl, Nat.le_of_ble_eq_true rfl⟩ rfl hl.1 rfl (Nat.le_of_ble_eq_true rfl) dX11_meal_5 ⟨Nat.le_of_ble_eq_true rfl, Nat.le_of_ble_eq_true rfl⟩) hP hD hK hS hA (fun z1 u2 H locs w3 hP hD hK hS => ?_)
  obtain ⟨rgz1, t4, t5⟩ := w3
  have rgz1 : 0 ≤ z1.toInt ∧ z1.toInt ≤ 1 := rgz1
  have t4 : Imp (z1.toInt = 1) (0 ≤ p0.toInt ∧ p0.toInt < (V 3 12).toInt) := t4
  have t5 : (z1.toInt = 1 ∧ 0 ≤ p0.toInt ∧ p0.toInt < (V 3 12).toInt ∧ (V 23 (Int32.toNatClampNeg p0)).toInt = 1) ∨ (z1.toInt = 0 ∧ (p0.toInt < 0 ∨ (V 3 12).toInt ≤ p0.toInt ∨ (V 23 (Int32.toNatClampNeg p0)).toInt = 0)) := t5
  have r6 : 1 ≤ ((V 3 12)).toInt ∧ ((V 3 12)).toInt ≤ 40 := hMV 3 12
  refine lv_if_eq (tgt := 28) hx hb dX11_meal_8 (by decide) (fun c7 => ?_) (fun c7 => ?_)
  · skip
    have f8 : z1.toInt = 0 := b_eq rfl (by decide) c7
    refine lv_iconst (v := 0) hx hb dX11_meal_28 (by decide) ?_
    refine lv_istore_n (lv' := [(2, .int 0), (0, .ref (ad 0)), (1, .int p0)]) hx hb dX11_meal_29 rfl hl (by decide) rfl (fun ls hl => ?_)
    refine lv_aload_n hx hb dX11_meal_30 rfl (lv_at hl 1 rfl) ?_
    refine va_get (D := D) (ci := 11) (v := .int (V 0 8)) (fs := (xfHouse ad V L Z)) (C := RX11) (T := TX11) (N := 10) hx hb hg inX11 hown hK hP 0 xgHouse rfl 8 (by decide) (hg _ w723) (fun _ h9 => h9) rfl dX11_meal_31 ?_
    have r9 : 0 ≤ ((V 0 8)).toInt ∧ ((V 0 8)).toInt ≤ 1 := hMV 0 8
    refine lv_if_eq (tgt := 53) hx hb dX11_meal_34 (by decide) (fun c10 => ?_) (fun c10 => ?_)
    · skip
      have f11 : ((V 0 8)).toInt = 0 := b_eq rfl (by decide) c10
      refine lv_iconst (v := (-1)) hx hb dX11_meal_53 (by decide) ?_
      exact W.iret (v := (-1)) hx hb hr (fun t ht hW => ⟨⟨(-1), (V, L), rfl, ⟨hMV, agV, rfl, (fun h9 => by have h1 := h9.1; have h2 := h9.2.1.1; have h3 := h9.2.1.2.1; have h4 := h9.2.1.2.2; have h5 := h9.2.2.1; have h6 := h9.2.2.2; exfalso; omega), (fun _ => ⟨by decide, agr.rf⟩)⟩, by rw [ht]; exact hP, va_K.moved hW.alike hK, hD⟩, hS.F ht⟩) hS.2.2 dX11_meal_54
    · skip
      have f12 : ((V 0 8)).toInt ≠ 0 := b_neq rfl (by decide) c10
      refine lv_iload_n hx hb dX11_meal_37 rfl (lv_at hl 0 rfl) ?_
      refine lv_if_eq (tgt := 53) hx hb dX11_meal_38 (by decide) (fun _ => ?_) (fun q => absurd (by decide) q)
      refine lv_iconst (v := (-1)) hx hb dX11_meal_53 (by decide) ?_
      exact W.iret (v := (-1)) hx hb hr (fun t ht hW => ⟨⟨(-1), (V, L), rfl, ⟨hMV, agV, rfl, (fun h9 => by have h1 := h9.1; have h2 := h9.2.1.1; have h3 := h9.2.1.2.1; have h4 := h9.2.1.2.2; have h5 := h9.2.2.1; have h6 := h9.2.2.2; exfalso; omega), (fun _ => ⟨by decide, agr.rf⟩)⟩, by rw [ht]; exact hP, va_K.moved hW.alike hK, hD⟩, hS.F ht⟩) hS.2.2 dX11_meal_54
  · skip
    have f13 : z1.toInt ≠ 0 := b_neq rfl (by decide) c7
    have rh14 := Imp.go t4 (by (first | exact om_2ebe32d50835 rgz1.1 rgz1.2 f13 | omega))
    refine lv_aload_n hx hb dX11_meal_11 rfl (lv_at hl 0 rfl) ?_
    refine va_get (D := D) (ci := 11) (v := .ref (ad 3)) (fs := (xfHouse ad V L Z)) (C := RX11) (T := TX11) (N := 10) hx hb hg inX11 hown hK hP 0 xgHouse rfl 3 (by decide) (hg _ w718) (fun _ h9 => h9) rfl dX11_meal_12 ?_
    refine va_getN (D := D) (ci := 8) (v := .ref (ad 18)) (fs := (xfStock ad V L Z)) (C := RX8) (T := TX8) (N := 16) hx hb hg inX8 hown hK hP 3 xgStock rfl 0 (by decide) (hnw.use 374 n374 rfl) (fun _ h9 => h9) rfl dX11_meal_15 ?_
    refine lv_iload_n hx hb dX11_meal_18 rfl (lv_at hl 1 rfl) ?_
    refine va_iald (D := D) (i := p0) hx hb hK hP 18 11 rfl rfl (i_in (a := p0.toInt) rfl (by first | exact om_49f02bcec547 r6.2 rh14.1 ((Imp.go t4 (imp_a (rgz1.1) (rgz1.2) (f13))).2) | first | omega | ((try (have i_t4 := Imp.go t4 (by omega))); omega))) dX11_meal_19 ?_
    refine lv_iconst (v := 1) hx hb dX11_meal_20 (by decide) ?_
    refine lv_icmp_ne (tgt := 28) hx hb dX11_meal_21 (by decide) (fun c15 => ?_) (fun c15 => ?_)
    · skip
      have f16 : ((V 21 (Int32.toNatClampNeg p0))).toInt ≠ 1 := b_neq rfl (by decide) c15
      refine lv_iconst (v := 0) hx hb dX11_meal_28 (by decide) ?_
      refine lv_istore_n (lv' := [(2, .int 0), (0, .ref (ad 0)), (1, .int p0)]) hx hb dX11_meal_29 rfl hl (by decide) rfl (fun ls hl => ?_)
      refine lv_aload_n hx hb dX11_meal_30 rfl (lv_at hl 1 rfl) ?_
      refine va_get (D := D) (ci := 11) (v := .int (V 0 8)) (fs := (xfHouse ad V L Z)) (C := RX11) (T := TX11) (N := 10) hx hb hg inX11 hown hK hP 0 xgHouse rfl 8 (by decide) (hg _ w723) (fun _ h9 => h9) rfl dX11_meal_31 ?_
      have r17 : 0 ≤ ((V 0 8)).toInt ∧ ((V 0 8)).toInt ≤ 1 := hMV 0 8
      refine lv_if_eq (tgt := 53) hx hb dX11_meal_34 (by decide) (fun c18 => ?_) (fun c18 => ?_)
      · skip
        have f19 : ((V 0 8)).toInt = 0 := b_eq rfl (by decide) c18
        refine lv_iconst (v := (-1)) hx hb dX11_meal_53 (by decide) ?_
        exact W.iret (v := (-1)) hx hb hr (fun t ht hW => ⟨⟨(-1), (V, L), rfl, ⟨hMV, agV, rfl, (fun h9 => by have h1 := h9.1; have h2 := h9.2.1.1; have h3 := h9.2.1.2.1; have h4 := h9.2.1.2.2; have h5 := h9.2.2.1; have h6 := h9.2.2.2; exfalso; omega), (fun _ => ⟨by decide, agr.rf⟩)⟩, by rw [ht]; exact hP, va_K.moved hW.alike hK, hD⟩, hS.F ht⟩) hS.2.2 dX11_meal_54
      · skip
        have f20 : ((V 0 8)).toInt ≠ 0 := b_neq rfl (by decide) c18
        refine lv_iload_n hx hb dX11_meal_37 rfl (lv_at hl 0 rfl) ?_
        refine lv_if_eq (tgt := 53) hx hb dX11_meal_38 (by decide) (fun _ => ?_) (fun q => absurd (by decide) q)
        refine lv_iconst (v := (-1)) hx hb dX11_meal_53 (by decide) ?_
        exact W.iret (v := (-1)) hx hb hr (fun t ht hW => ⟨⟨(-1), (V, L), rfl, ⟨hMV, agV, rfl, (fun h9 => by have h1 := h9.1; have h2 := h9.2.1.1; have h3 := h9.2.1.2.1; have h4 := h9.2.1.2.2; have h5 := h9.2.2.1; have h6 := h9.2.2.2; exfalso; omega), (fun _ => ⟨by decide, agr.rf⟩)⟩, by rw [ht]; exact hP, va_K.moved hW.alike hK, hD⟩, hS.F ht⟩) hS.2.2 dX11_meal_54
    · skip
      have f21 : ((V 21 (Int32.toNatClampNeg p0))).toInt = 1 := b_eq rfl (by decide) c15
      refine lv_iconst (v := 1) hx hb dX11_meal_24 (by decide) ?_
      refine lv_goto (tgt := 29) hx hb dX11_meal_25 (by decide) ?_
      refine lv_istore_n (lv' := [(2, .int 1), (0, .ref (ad 0)), (1, .int p0)]) hx hb dX11_meal_29 rfl hl (by decide) rfl (fun ls hl => ?_)
      refine lv_aload_n hx hb dX11_meal_30 rfl (lv_at hl 1 rfl) ?_
      refine va_get (D := D) (ci := 11) (v := .int (V 0 8)) (fs := (xfHouse ad V L Z)) (C := RX11) (T := TX11) (N := 10) hx hb hg inX11 hown hK hP 0 xgHouse rfl 8 (by decide) (hg _ w723) (fun _ h9 => h9) rfl dX11_meal_31 ?_
      have r22 : 0 ≤ ((V 0 8)).toInt ∧ ((V 0 8)).toInt ≤ 1 := hMV 0 8
      refine lv_if_eq (tgt := 53) hx hb dX11_meal_34 (by decide) (fun c23 => ?_) (fun c23 => ?_)
      · skip
        have f24 : ((V 0 8)).toInt = 0 := b_eq rfl (by decide) c23
        refine lv_iconst (v := (-1)) hx hb dX11_meal_53 (by decide) ?_
        exact W.iret (v := (-1)) hx hb hr (fun t ht hW => ⟨⟨(-1), (V, L), rfl, ⟨hMV, agV, rfl, (fun h9 => by have h1 := h9.1; have h2 := h9.2.1.1; have h3 := h9.2.1.2.1; have h4 := h9.2.1.2.2; have h5 := h9.2.2.1; have h6 := h9.2.2.2; exfalso; omega), (fun _ => ⟨by decide, agr.rf⟩)⟩, by rw [ht]; exact hP, va_K.moved hW.alike hK, hD⟩, hS.F ht⟩) hS.2.2 dX11_meal_54
      · skip
        have f25 : ((V 0 8)).toInt ≠ 0 := b_neq rfl (by decide) c23
        refine lv_iload_n hx hb dX11_meal_37 rfl (lv_at hl 0 rfl) ?_
        refine lv_if_eq (tgt := 53) hx hb dX11_meal_38 (by decide) (fun q => absurd q (by decide)) (fun _ => ?_)
        refine lv_aload_n hx hb dX11_meal_41 rfl (lv_at hl 1 rfl) ?_
        refine va_get (D := D) (ci := 11) (v := .ref (ad 3)) (fs := (xfHouse ad V L Z)) (C := RX11) (T := TX11) (N := 10) hx hb hg inX11 hown hK hP 0 xgHouse rfl 3 (by decide) (hg _ w718) (fun _ h9 => h9) rfl dX11_meal_42 ?_
        refine lv_iconst (v := 2) hx hb dX11_meal_45 (by decide) ?_
        refine lv_iload_n hx hb dX11_meal_46 rfl (lv_at hl 2 rfl) ?_
        have r26 : Int32.toInt 2 = 2 := by decide
        refine gA_int (gA_runV (As := [.int 2, .int p0]) (rest := []) (ci := 8) (q0 := 3) hx hb hml hown hg hP hD hK hS hA hnw hgk (x_open9 l D ks H.size ad kk V L Z 2 p0 hMV (by first | exact om_cf6921065cda r6.2 ((Imp.go t4 (imp_a (rgz1.1) (rgz1.2) (f13))).1) ((Imp.go t4 (imp_a (rgz1.1) (rgz1.2) (f13))).2) | first | omega | ((try (have i_t4 := Imp.go t4 (by omega))); omega))) w1150 w1151 w1152 w164 w1153 rfl xgStock hdV_yX8_open ⟨Nat.le_of_ble_eq_true rfl, Nat.le_of_ble_eq_true rfl⟩ rfl hl.1 rfl (Nat.le_of_ble_eq_true rfl) dX11_meal_47 ⟨Nat.le_of_ble_eq_true rfl, Nat.le_of_ble_eq_true rfl⟩) hP hD hK hS hA (fun z27 u28 H locs w29 hP hD hK hS => ?_)
        obtain ⟨V31, L32⟩ := u28
        obtain ⟨hMV31, ajV31, axL32, rgz27, t30⟩ := w29
        have axL32 : L = L32 := Eq.symm axL32
        subst axL32
        have hP : va_P D vwCl (xw ad kk V31 L Z) H := hP
        have hD : va_D A (xw ad kk V31 L Z) := hD
        have hMV31 : rgd bX V31 := hMV31
        have ajV31 : agr [(3, 12)] [21, 22, 23] V V31 := ajV31
        have agV31 : agr [(3, 12)] [21, 22, 23] V V31 := agV.tr ajV31 (by decide) (by decide)
        have rgz27 : (-1) ≤ z27.toInt ∧ z27.toInt ≤ 39 := rgz27
        have t30 : ((z27.toInt = (V 3 12).toInt ∧ (V 3 12).toInt < 40) ∧ V31 = (up2 (up2 (up2 (up2 V 21 (Int32.toNatClampNeg (V 3 12)) 2) 22 (Int32.toNatClampNeg (V 3 12)) p0) 23 (Int32.toNatClampNeg (V 3 12)) 1) 3 12 (V 3 12 + 1))) ∨ ((z27.toInt = -1 ∧ 40 ≤ (V 3 12).toInt) ∧ V31 = V) := t30
        rcases t30 with ⟨hc33, hw34⟩ | ⟨hc35, hw36⟩
        · skip
          obtain ⟨V37, hV37⟩ : ∃ z, z = up2 V 21 (Int32.toNatClampNeg (V 3 12)) 2 := ⟨_, rfl⟩
          obtain ⟨V38, hV38⟩ : ∃ z, z = up2 V37 22 (Int32.toNatClampNeg (V 3 12)) p0 := ⟨_, rfl⟩
          obtain ⟨V39, hV39⟩ : ∃ z, z = up2 V38 23 (Int32.toNatClampNeg (V 3 12)) 1 := ⟨_, rfl⟩
          obtain ⟨z40, ez40⟩ : ∃ y : Int32, y = V 3 12 + 1 := ⟨_, rfl⟩
          have hz40 : z40.toInt = (V 3 12).toInt + 1 := i_add ez40 rfl (by decide) (by first | exact om_b118672944e8 r6.1 r6.2 | first | omega | ((try (have i_t4 := Imp.go t4 (by omega))); omega))
          have hV31 : V31 = up2 V39 3 12 z40 := by rw [hw34, hV39, hV38, hV37, ez40]
          refine lv_goto (tgt := 54) hx hb dX11_meal_50 (by decide) ?_
          have k12 := i_clamp (x := V 3 12) rfl (by (first | exact om_c078ef78e547 r6.1 | omega))
          have d1 : Int32.toInt 1 = 1 := by decide
          have d2 : Int32.toInt 2 = 2 := by decide
          have d0 : Int32.toInt 0 = 0 := by decide
          have op41 : OPN V V31 (2) (p0.toInt) := by have h9 := OPN.of (n := Int32.toNatClampNeg (V 3 12)) (by omega) (by omega) hV37 hV38 hV39 hV31 (by omega); simpa only [d0, d1, d2] using h9
          exact W.iret (v := z27) hx hb hr (fun t ht hW => ⟨⟨z27, (V31, L), rfl, ⟨hMV31, agV31, rfl, (fun _ => ⟨by have h8 := hc33; omega, op41⟩), (fun h9 => absurd ⟨by omega, ⟨by omega, by omega, by omega⟩, by omega, by have h8 := hc33; omega⟩ h9)⟩, by rw [ht]; exact hP, va_K.moved hW.alike hK, hD⟩, hS.F ht⟩) hS.2.2 dX11_meal_54
        · skip
          have ajV31 : agr [] [] V V31 := by rw [hw36]; exact agr.rf
          refine lv_goto (tgt := 54) hx hb dX11_meal_50 (by decide) ?_
          exact W.iret (v := z27) hx hb hr (fun t ht hW => ⟨⟨z27, (V31, L), rfl, ⟨hMV31, agV31, rfl, (fun h9 => by have h1 := h9.1; have h2 := h9.2.1.1; have h3 := h9.2.1.2.1; have h4 := h9.2.1.2.2; have h5 := h9.2.2.1; have h6 := h9.2.2.2; exfalso; have h8 := hc35; omega), (fun _ => ⟨by have h8 := hc35; omega, ajV31⟩)⟩, by rw [ht]; exact hP, va_K.moved hW.alike hK, hD⟩, hS.F ht⟩) hS.2.2 dX11_meal_54
abbrev r_s_scope3 : Room := { frames := 0, cells := 0, slots := 0, locals := 0 }
abbrev q_s_scope3 (D : va_G) (ks : KS) (ad : Nat → Nat) (kk : Nat → ClassId) (V : Vf) (L : Lf) (p0 : Int32) (p1 : Int32) (A : Nat → Prop) : Array Value → State → Outcome → State → Prop := va_Qi (fun (r : Int32) (u : Vf × Lf) => rgd bM u.1 ∧ agr [(0, 55)] [56, 57, 58, 59] V u.1 ∧ u.2 = L ∧ ((-1) ≤ r.toInt ∧ r.toInt ≤ 39) ∧ (((V 0 54).toInt = 1 ∧ (V 0 55).toInt < 40) → r.toInt = (V 0 55).toInt ∧ OPM V u.1 p0.toInt p1.toInt) ∧ (¬ ((V 0 54).toInt = 1 ∧ (V 0 55).toInt < 40) → r.toInt = -1 ∧ agr [] [] V u.1)) (fun u t => gq D A (mw ad kk ks.1 u.1 u.2) (mty kk) t) A
set_option maxHeartbeats 4000000 in
set_option maxRecDepth 100000 in
theorem s_scope3 (l : Launch) (D : va_G) (ks : KS) (sz : Nat) (ad : Nat → Nat) (kk : Nat → ClassId) (V : Vf) (L : Lf) (p0 : Int32) (p1 : Int32) (hMV : rgd bM V) (rg_p1 : (-1) ≤ p1.toInt ∧ p1.toInt ≤ 39)  : Met l yX12_scope (Cond.code yX12_scope cX12_scope 4 (some .int) :: GW) r_s_scope3 (va_Pc [.ref (ad 0), .int p0, .int p1] (gp D ks (mw ad kk ks.1 V L) (mty kk) sz)) (q_s_scope3 D ks ad kk V L p0 p1 (va_A (mw ad kk ks.1 V L) sz)) 0 0 (va_A (mw ad kk ks.1 V L) sz) := by
  refine g_met (q_s_scope3 D ks ad kk V L p0 p1) (by decide) (Nat.le_of_ble_eq_true rfl) ?_
  intro p e s m below meth c A ls H locs hx hb hr hml hown hg hlocks hin hnw hgk hP hK hD hS hA hl
  have hown : s.vm.findClass RX12 = some m.cls := hown
  have hl : lv_has ls 4 [(0, .ref (ad 0)), (1, .int p0), (2, .int p1)] := hl
  have hP : va_P D vwCl (mw ad kk ks.1 V L) H := hP
  have hD : va_D A (mw ad kk ks.1 V L) := hD
  have hK : va_K D vwCl (mty kk) s := hK
  have agV : agr [(0, 55)] [56, 57, 58, 59] V V := agr.rf
  refine lv_aload_n hx hb dX12_scope_0 rfl (lv_at hl 0 rfl) ?_
  refine va_get (D := D) (ci := 12) (v := .int (V 0 54)) (C := RX12) (T := TX12) (N := 100) hx hb hg inX12 hown hK hP 0 rfl rfl 54 (by decide) (hg _ w1760) (fun _ h9 => h9) rfl dX12_scope_1 ?_
  have r1 : 0 ≤ ((V 0 54)).toInt ∧ ((V 0 54)).toInt ≤ 1 := hMV 0 54
  refine lv_if_eq (tgt := 16) hx hb dX12_scope_4 (by decide) (fun c2 => ?_) (fun c2 => ?_)
  · skip
    have f3 : ((V 0 54)).toInt = 0 := b_eq rfl (by decide) c2
    refine lv_iconst (v := (-1)) hx hb dX12_scope_16 (by decide) ?_
    exact W.iret (v := (-1)) hx hb hr (fun t ht hW => ⟨⟨(-1), (V, L), rfl, ⟨hMV, agV, rfl, (by decide), (fun h9 => by have h1 := h9.1; have h2 := h9.2; exfalso; omega), (fun _ => ⟨by decide, agr.rf⟩)⟩, by rw [ht]; exact hP, va_K.moved hW.alike hK, hD⟩, hS.F ht⟩) hS.2.2 dX12_scope_17
  · skip
    have f4 : ((V 0 54)).toInt ≠ 0 := b_neq rfl (by decide) c2
    refine lv_aload_n hx hb dX12_scope_7 rfl (lv_at hl 0 rfl) ?_
    refine va_get (D := D) (ci := 12) (v := .int (V 0 55)) (C := RX12) (T := TX12) (N := 100) hx hb hg inX12 hown hK hP 0 rfl rfl 55 (by decide) (hg _ w1761) (fun _ h9 => h9) rfl dX12_scope_8 ?_
    have r5 : 1 ≤ ((V 0 55)).toInt ∧ ((V 0 55)).toInt ≤ 40 := hMV 0 55
    refine lv_bipush (v := 40) hx hb dX12_scope_11 (by decide) ?_
    refine lv_icmp_ne (tgt := 18) hx hb dX12_scope_13 (by decide) (fun c6 => ?_) (fun c6 => ?_)
    · skip
      have f7 : ((V 0 55)).toInt ≠ 40 := b_neq rfl (by decide) c6
      refine lv_aload_n hx hb dX12_scope_18 rfl (lv_at hl 0 rfl) ?_
      refine va_get (D := D) (ci := 12) (v := .ref (ad 56)) (C := RX12) (T := TX12) (N := 100) hx hb hg inX12 hown hK hP 0 rfl rfl 56 (by decide) (hg _ w1762) (fun _ h9 => h9) rfl dX12_scope_19 ?_
      refine lv_aload_n hx hb dX12_scope_22 rfl (lv_at hl 0 rfl) ?_
      refine va_get (D := D) (ci := 12) (v := .int (V 0 55)) (C := RX12) (T := TX12) (N := 100) hx hb hg inX12 hown hK hP 0 rfl rfl 55 (by decide) (hg _ w1761) (fun _ h9 => h9) rfl dX12_scope_23 ?_
      refine lv_iconst (v := 1) hx hb dX12_scope_26 (by decide) ?_
      refine va_zast (D := D) (i := (V 0 55)) (x := 1) hx hb hK hP hD hS 42 41 rfl rfl (i_in (a := ((V 0 55)).toInt) rfl (by (first | exact om_04eeaa0e380a r5.1 r5.2 f7 | omega))) dX12_scope_27 (fun H locs hP hD hS => ?_)
      obtain ⟨V8, hV8⟩ : ∃ z, z = up2 V 56 (Int32.toNatClampNeg (V 0 55)) (vp_nar .boolean 1) := ⟨_, rfl⟩
      have hP : va_P D vwCl (mw ad kk ks.1 V8 L) H := by rw [hV8]; exact hP
      have hD : va_D A (mw ad kk ks.1 V8 L) := by rw [hV8]; exact hD
      have hMV8 : rgd bM V8 := hMV.put hV8 (nar_b _)
      have agV8 : agr [(0, 55)] [56, 57, 58, 59] V V8 := agV.up hV8 rfl
      refine lv_aload_n hx hb dX12_scope_28 rfl (lv_at hl 0 rfl) ?_
      refine va_get (D := D) (ci := 12) (v := .ref (ad 57)) (C := RX12) (T := TX12) (N := 100) hx hb hg inX12 hown hK hP 0 rfl rfl 57 (by decide) (hg _ w1763) (fun _ h9 => h9) rfl dX12_scope_29 ?_
      refine lv_aload_n hx hb dX12_scope_32 rfl (lv_at hl 0 rfl) ?_
      refine va_get (D := D) (ci := 12) (v := .int (V8 0 55)) (C := RX12) (T := TX12) (N := 100) hx hb hg inX12 hown hK hP 0 rfl rfl 55 (by decide) (hg _ w1761) (fun _ h9 => h9) rfl dX12_scope_33 ?_
      refine g_top (v := (V 0 55)) (up2_o hV8 (by decide)) ?_
      refine lv_iload_n hx hb dX12_scope_36 rfl (lv_at hl 1 rfl) ?_
      refine va_iast (D := D) (i := (V 0 55)) (x := p0) hx hb hK hP hD hS 43 42 rfl rfl (i_in (a := ((V 0 55)).toInt) rfl (by (first | exact om_04eeaa0e380a r5.1 r5.2 f7 | omega))) dX12_scope_37 (fun H locs hP hD hS => ?_)
      obtain ⟨V9, hV9⟩ : ∃ z, z = up2 V8 57 (Int32.toNatClampNeg (V 0 55)) p0 := ⟨_, rfl⟩
      have hP : va_P D vwCl (mw ad kk ks.1 V9 L) H := by rw [hV9]; exact hP
      have hD : va_D A (mw ad kk ks.1 V9 L) := by rw [hV9]; exact hD
      have hMV9 : rgd bM V9 := hMV8.put hV9 (i_full _)
      have agV9 : agr [(0, 55)] [56, 57, 58, 59] V V9 := agV8.up hV9 rfl
      refine lv_aload_n hx hb dX12_scope_38 rfl (lv_at hl 0 rfl) ?_
      refine va_get (D := D) (ci := 12) (v := .ref (ad 58)) (C := RX12) (T := TX12) (N := 100) hx hb hg inX12 hown hK hP 0 rfl rfl 58 (by decide) (hg _ w1764) (fun _ h9 => h9) rfl dX12_scope_39 ?_
      refine lv_aload_n hx hb dX12_scope_42 rfl (lv_at hl 0 rfl) ?_
      refine va_get (D := D) (ci := 12) (v := .int (V9 0 55)) (C := RX12) (T := TX12) (N := 100) hx hb hg inX12 hown hK hP 0 rfl rfl 55 (by decide) (hg _ w1761) (fun _ h9 => h9) rfl dX12_scope_43 ?_
      refine g_top (v := (V 0 55)) ((up2_o hV9 (by decide)).trans (up2_o hV8 (by decide))) ?_
      refine lv_iload_n hx hb dX12_scope_46 rfl (lv_at hl 2 rfl) ?_
      refine va_iast (D := D) (i := (V 0 55)) (x := p1) hx hb hK hP hD hS 44 43 rfl rfl (i_in (a := ((V 0 55)).toInt) rfl (by (first | exact om_04eeaa0e380a r5.1 r5.2 f7 | omega))) dX12_scope_47 (fun H locs hP hD hS => ?_)
      obtain ⟨V10, hV10⟩ : ∃ z, z = up2 V9 58 (Int32.toNatClampNeg (V 0 55)) p1 := ⟨_, rfl⟩
      have hP : va_P D vwCl (mw ad kk ks.1 V10 L) H := by rw [hV10]; exact hP
      have hD : va_D A (mw ad kk ks.1 V10 L) := by rw [hV10]; exact hD
      have hMV10 : rgd bM V10 := hMV9.put hV10 (show (-1) ≤ p1.toInt ∧ p1.toInt ≤ 39 from by (first | exact om_f252d5c70457 rg_p1.1 rg_p1.2 | omega))
      have agV10 : agr [(0, 55)] [56, 57, 58, 59] V V10 := agV9.up hV10 rfl
      obtain ⟨gU, hgU⟩ : ∃ z, z = V10 := ⟨_, rfl⟩
      refine lv_iconst (v := 0) hx hb dX12_scope_48 (by decide) ?_
      refine lv_istore_n (lv' := [(3, .int 0), (0, .ref (ad 0)), (1, .int p0), (2, .int p1)]) hx hb dX12_scope_49 rfl hl (by decide) rfl (fun ls hl => ?_)
      have lp13 : ∀ (fulp13 : Nat) (y11 : Int32) (V12 : Vf) (H : Heap) (locs : List Loc) (ls : Array Slot), 0 ≤ y11.toInt ∧ y11.toInt ≤ 24 → ((∀ j : Nat, ¬ (24 * (Int32.toNatClampNeg (V 0 55)) ≤ j ∧ (j : Int) < 24 * (((Int32.toNatClampNeg (V 0 55)) : Nat) : Int) + y11.toInt) → V12 59 j = gU 59 j) ∧ (∀ j : Nat, 24 * (Int32.toNatClampNeg (V 0 55)) ≤ j → (j : Int) < 24 * (((Int32.toNatClampNeg (V 0 55)) : Nat) : Int) + y11.toInt → (V12 59 j).toInt = 0)) → 24 - y11.toInt < (fulp13 : Int) → agr [] [59] V10 V12 → rgd bM V12 → va_P D vwCl (mw ad kk ks.1 V12 L) H → va_D A (mw ad kk ks.1 V12 L) → va_S A s.heap H locs → lv_has ls 4 [(3, .int y11), (0, .ref (ad 0)), (1, .int p0), (2, .int p1)] → W p l e r_s_scope3 s m ([.ref (ad 0), .int p0, .int p1] : List Value).toArray below meth c H locs 0 0 (MQ below (q_s_scope3 D ks ad kk V L p0 p1 A) ([.ref (ad 0), .int p0, .int p1] : List Value).toArray s 0 0 A) (F0 m 50 ls []) := by
        intro fulp13
        induction fulp13 with
        | zero =>
          intro y11 V12 H locs ls klp13_0 xlp13_0 hn ajV12 hMV12 hP hD hS hl
          exfalso; (first | exact om_9386ef0df612 klp13_0.2 hn | omega)
        | succ fulp13 ihlp13 =>
          intro y11 V12 H locs ls klp13_0 xlp13_0 hn ajV12 hMV12 hP hD hS hl
          have agV12 : agr [(0, 55)] [56, 57, 58, 59] V V12 := agV10.tr ajV12 (by decide) (by decide)
          refine lv_iload_n hx hb dX12_scope_50 rfl (lv_at hl 0 rfl) ?_
          refine lv_bipush (v := 24) hx hb dX12_scope_51 (by decide) ?_
          refine lv_icmp_ge (tgt := 77) hx hb dX12_scope_53 (by decide) (fun c14 => ?_) (fun c14 => ?_)
          · skip
            have f15 : 24 ≤ y11.toInt := b_le (by decide) rfl c14
            refine lv_aload_n hx hb dX12_scope_77 rfl (lv_at hl 1 rfl) ?_
            refine lv_dup hx hb dX12_scope_78 rfl ?_
            refine va_get (D := D) (ci := 12) (v := .int (V12 0 55)) (C := RX12) (T := TX12) (N := 100) hx hb hg inX12 hown hK hP 0 rfl rfl 55 (by decide) (hg _ w1761) (fun _ h9 => h9) rfl dX12_scope_79 ?_
            refine g_top (v := (V 0 55)) ((ajV12 0 55 rfl).trans ((up2_o hV10 (by decide)).trans ((up2_o hV9 (by decide)).trans (up2_o hV8 (by decide))))) ?_
            refine lv_iconst (v := 1) hx hb dX12_scope_82 (by decide) ?_
            refine lv_iadd hx hb dX12_scope_83 ?_
            refine lv_topi (fun z16 ez16 => ?_)
            have hz16 : z16.toInt = ((V 0 55)).toInt + 1 := i_add ez16 rfl (by decide) (by (first | exact om_06e8b4467060 r5.1 r5.2 f7 | omega))
            refine va_put (D := D) (ci := 12) (v := .int z16) (ty := tyX12 55) (C := RX12) (T := TX12) (N := 100) hx hb hg inX12 tyX12 tyX12_ok nmX12 hown hK hP hD hS 0 rfl rfl 55 (by decide) (hg _ w1761) (fun _ h9 => h9) rfl (tyX12_ok 55 (by decide)) rfl rfl (Nat.le_of_ble_eq_true rfl) dX12_scope_84 (fun H locs hP hD hS => ?_)
            obtain ⟨V17, hV17⟩ : ∃ z, z = up2 V12 0 55 z16 := ⟨_, rfl⟩
            have hP : va_P D vwCl (mw ad kk ks.1 V17 L) H := by rw [hV17]; exact hP
            have hD : va_D A (mw ad kk ks.1 V17 L) := by rw [hV17]; exact hD
            have hMV17 : rgd bM V17 := hMV12.put hV17 (show 1 ≤ z16.toInt ∧ z16.toInt ≤ 40 from by (first | exact om_0d5c93fca766 r5.1 r5.2 f7 hz16 | omega))
            have agV17 : agr [(0, 55)] [56, 57, 58, 59] V V17 := agV12.up hV17 rfl
            refine lv_aload_n hx hb dX12_scope_87 rfl (lv_at hl 1 rfl) ?_
            refine va_get (D := D) (ci := 12) (v := .int (V17 0 55)) (C := RX12) (T := TX12) (N := 100) hx hb hg inX12 hown hK hP 0 rfl rfl 55 (by decide) (hg _ w1761) (fun _ h9 => h9) rfl dX12_scope_88 ?_
            refine g_top (v := z16) (up2_s hV17) ?_
            refine lv_iconst (v := 1) hx hb dX12_scope_91 (by decide) ?_
            refine lv_isub hx hb dX12_scope_92 ?_
            refine lv_topi (fun z18 ez18 => ?_)
            have hz18 : z18.toInt = z16.toInt - 1 := i_sub ez18 rfl (by decide) (by (first | exact om_c5e64f00e272 r5.1 r5.2 f7 hz16 | omega))
            have pq20 : (V17 0 55).toInt = z16.toInt := congrArg Int32.toInt (up2_s hV17)
            have k55 := i_clamp (x := V 0 55) rfl (by (first | exact om_c078ef78e547 r5.1 | omega))
            have g59 := xlp13_0
            have so19 : OPM V V17 p0.toInt p1.toInt := ⟨(Int32.toNatClampNeg (V 0 55)), by omega, by omega, by omega, ⟨by rw [((show agr [(0, 55)] [59] V10 V17 from (agr.up (agr.tr agr.rf ajV12 (by decide) (by decide)) hV17 rfl)) 57 _ rfl).trans ((up2_o hV10 (by decide)).trans (up2_s hV9))], by rw [((show agr [(0, 55)] [59] V10 V17 from (agr.up (agr.tr agr.rf ajV12 (by decide) (by decide)) hV17 rfl)) 58 _ rfl).trans (up2_s hV10)], by rw [((show agr [(0, 55)] [59] V10 V17 from (agr.up (agr.tr agr.rf ajV12 (by decide) (by decide)) hV17 rfl)) 56 _ rfl).trans ((up2_o hV10 (by decide)).trans ((up2_o hV9 (by decide)).trans (up2_s hV8)))]; decide⟩, fun s9 h9 => ⟨((show agr [(0, 55)] [59] V10 V17 from (agr.up (agr.tr agr.rf ajV12 (by decide) (by decide)) hV17 rfl)) 57 _ rfl).trans ((up2_o hV10 (by decide)).trans ((up2_k hV9 h9).trans (up2_o hV8 (by decide)))), ((show agr [(0, 55)] [59] V10 V17 from (agr.up (agr.tr agr.rf ajV12 (by decide) (by decide)) hV17 rfl)) 58 _ rfl).trans ((up2_k hV10 h9).trans ((up2_o hV9 (by decide)).trans (up2_o hV8 (by decide)))), ((show agr [(0, 55)] [59] V10 V17 from (agr.up (agr.tr agr.rf ajV12 (by decide) (by decide)) hV17 rfl)) 56 _ rfl).trans ((up2_o hV10 (by decide)).trans ((up2_o hV9 (by decide)).trans (up2_k hV8 h9)))⟩, fun j9 h1 h2 => by rw [(show agr [(0, 55)] [] V12 V17 from (agr.up agr.rf hV17 rfl)) 59 j9 rfl]; exact g59.2 j9 h1 (by omega), fun j9 h9 => ((show agr [(0, 55)] [] V12 V17 from (agr.up agr.rf hV17 rfl)) 59 j9 rfl).trans ((g59.1 j9 (by omega)).trans (by rw [hgU]; exact ((up2_o hV10 (by decide)).trans ((up2_o hV9 (by decide)).trans (up2_o hV8 (by decide))))))⟩
            exact W.iret (v := z18) hx hb hr (fun t ht hW => ⟨⟨z18, (V17, L), rfl, ⟨hMV17, agV17, rfl, (show (-1) ≤ z18.toInt ∧ z18.toInt ≤ 39 from by (first | exact om_182f93eac4c1 r5.1 r5.2 f7 hz16 hz18 | omega)), (fun _ => ⟨by omega, so19⟩), (fun h9 => absurd ⟨by omega, by omega⟩ h9)⟩, by rw [ht]; exact hP, va_K.moved hW.alike hK, hD⟩, hS.F ht⟩) hS.2.2 dX12_scope_93
          · skip
            have f21 : y11.toInt < 24 := b_nle (by decide) rfl c14
            refine lv_aload_n hx hb dX12_scope_56 rfl (lv_at hl 1 rfl) ?_
            refine va_get (D := D) (ci := 12) (v := .ref (ad 59)) (C := RX12) (T := TX12) (N := 100) hx hb hg inX12 hown hK hP 0 rfl rfl 59 (by decide) (hg _ w1765) (fun _ h9 => h9) rfl dX12_scope_57 ?_
            refine lv_bipush (v := 24) hx hb dX12_scope_60 (by decide) ?_
            refine lv_aload_n hx hb dX12_scope_62 rfl (lv_at hl 1 rfl) ?_
            refine va_get (D := D) (ci := 12) (v := .int (V12 0 55)) (C := RX12) (T := TX12) (N := 100) hx hb hg inX12 hown hK hP 0 rfl rfl 55 (by decide) (hg _ w1761) (fun _ h9 => h9) rfl dX12_scope_63 ?_
            refine g_top (v := (V 0 55)) ((ajV12 0 55 rfl).trans ((up2_o hV10 (by decide)).trans ((up2_o hV9 (by decide)).trans (up2_o hV8 (by decide))))) ?_
            refine lv_imul hx hb dX12_scope_66 ?_
            refine lv_topi (fun z22 ez22 => ?_)
            have hz22 : z22.toInt = 24 * ((V 0 55)).toInt := i_mul ez22 (by decide) rfl (by (first | exact om_40f2ea1c9679 r5.1 r5.2 f7 | omega))
            refine lv_iload_n hx hb dX12_scope_67 rfl (lv_at hl 0 rfl) ?_
            refine lv_iadd hx hb dX12_scope_68 ?_
            refine lv_topi (fun z23 ez23 => ?_)
            have hz23 : z23.toInt = z22.toInt + y11.toInt := i_add ez23 rfl rfl (by (first | exact om_bff1431baab4 r5.1 r5.2 f7 klp13_0.1 f21 hz22 | omega))
            refine lv_iconst (v := 0) hx hb dX12_scope_69 (by decide) ?_
            refine va_zast (D := D) (i := z23) (x := 0) hx hb hK hP hD hS 45 44 rfl rfl (i_in (a := z23.toInt) rfl (by (first | exact om_c1765e7d7775 r5.1 r5.2 f7 klp13_0.1 f21 hz22 hz23 | omega))) dX12_scope_70 (fun H locs hP hD hS => ?_)
            obtain ⟨V24, hV24⟩ : ∃ z, z = up2 V12 59 (Int32.toNatClampNeg z23) (vp_nar .boolean 0) := ⟨_, rfl⟩
            have hP : va_P D vwCl (mw ad kk ks.1 V24 L) H := by rw [hV24]; exact hP
            have hD : va_D A (mw ad kk ks.1 V24 L) := by rw [hV24]; exact hD
            have hMV24 : rgd bM V24 := hMV12.put hV24 (nar_b _)
            have agV24 : agr [(0, 55)] [56, 57, 58, 59] V V24 := agV12.up hV24 rfl
            obtain ⟨z25, ez25⟩ : ∃ y : Int32, y = y11 + 1 := ⟨_, rfl⟩
            have hz25 : z25.toInt = y11.toInt + 1 := i_add ez25 rfl (by decide) (by (first | exact om_bc9106cf44c9 klp13_0.1 f21 | omega))
            refine lv_iinc (v := z25) (lv' := [(3, .int z25), (0, .ref (ad 0)), (1, .int p0), (2, .int p1)]) hx hb dX12_scope_71 hl (k := 0) rfl (by rw [ez25]; rfl) (by decide) rfl (fun ls hl => ?_)
            refine lv_goto (tgt := 50) hx hb dX12_scope_74 (by decide) ?_
            have k55 := i_clamp (x := V 0 55) rfl (by (first | exact om_c078ef78e547 r5.1 | omega))
            have kz9 : (Int32.toNatClampNeg z23) = 24 * Int32.toNatClampNeg (V 0 55) + y11.toInt.toNat := by have h9 := i_clamp (x := z23) rfl (by (first | exact om_18d517c905c9 r5.1 klp13_0.1 hz22 hz23 | omega)); (first | exact om_56471a8a6542 klp13_0.1 hz22 hz23 k55 h9 | omega)
            have so26 : ((∀ j : Nat, ¬ (24 * (Int32.toNatClampNeg (V 0 55)) ≤ j ∧ (j : Int) < 24 * (((Int32.toNatClampNeg (V 0 55)) : Nat) : Int) + z25.toInt) → V24 59 j = gU 59 j) ∧ (∀ j : Nat, 24 * (Int32.toNatClampNeg (V 0 55)) ≤ j → (j : Int) < 24 * (((Int32.toNatClampNeg (V 0 55)) : Nat) : Int) + z25.toInt → (V24 59 j).toInt = 0)) := by
              refine ⟨fun j9 h9 => (up2_k hV24 (by rw [kz9]; omega)).trans (xlp13_0.1 j9 (by omega)), fun j9 h1 h2 => ?_⟩
              by_cases q9 : j9 = (Int32.toNatClampNeg z23)
              · rw [q9, up2_s hV24]; decide
              · rw [up2_k hV24 q9]; exact xlp13_0.2 j9 h1 (by omega)
            exact ihlp13 z25 V24 H locs ls (by (first | exact om_a5349b170263 klp13_0.1 f21 hz25 | omega)) so26 (by (first | exact om_9592d9319ffa hn hz25 | omega)) (agr.up (agr.tr agr.rf ajV12 (by decide) (by decide)) hV24 rfl) hMV24 hP hD hS (lv_sub hl [0, 1, 2, 3] rfl)
      have r27 : Int32.toInt 0 = 0 := by decide
      exact lp13 ((24 - (Int32.toInt 0) + 1 : Int).toNat) 0 V10 H locs ls (by decide) ⟨fun j9 _ => by rw [hgU], fun j9 h1 h2 => by have h9 : Int32.toInt 0 = 0 := (by decide); exfalso; omega⟩ (by (first | exact om_817980d3aa47 | omega)) agr.rf hMV10 hP hD hS (lv_sub hl [0, 1, 2, 3] rfl)
    · skip
      have f28 : ((V 0 55)).toInt = 40 := b_eq rfl (by decide) c6
      refine lv_iconst (v := (-1)) hx hb dX12_scope_16 (by decide) ?_
      exact W.iret (v := (-1)) hx hb hr (fun t ht hW => ⟨⟨(-1), (V, L), rfl, ⟨hMV, agV, rfl, (by decide), (fun h9 => by have h1 := h9.1; have h2 := h9.2; exfalso; omega), (fun _ => ⟨by decide, agr.rf⟩)⟩, by rw [ht]; exact hP, va_K.moved hW.alike hK, hD⟩, hS.F ht⟩) hS.2.2 dX12_scope_17
abbrev r_s_day3 : Room := { frames := 1, cells := 0, slots := 0, locals := 23 }
abbrev q_s_day3 (D : va_G) (ks : KS) (ad : Nat → Nat) (kk : Nat → ClassId) (V : Vf) (L : Lf) (A : Nat → Prop) : Array Value → State → Outcome → State → Prop := va_Qi (fun (r : Int32) (u : Vf × Lf) => rgd bM u.1 ∧ agr [(0, 0), (0, 55)] [56, 57, 58, 59] V u.1 ∧ u.2 = L ∧ ((-1) ≤ r.toInt ∧ r.toInt ≤ 39) ∧ (((V 0 54).toInt = 1 ∧ (V 0 55).toInt < 40) → r.toInt = (V 0 55).toInt ∧ OPM V u.1 1 (-1)) ∧ (¬ ((V 0 54).toInt = 1 ∧ (V 0 55).toInt < 40) → r.toInt = -1 ∧ agr [(0, 0)] [] V u.1)) (fun u t => gq D A (mw ad kk ks.1 u.1 u.2) (mty kk) t) A
set_option maxHeartbeats 4000000 in
set_option maxRecDepth 100000 in
theorem s_day3 (l : Launch) (D : va_G) (ks : KS) (sz : Nat) (ad : Nat → Nat) (kk : Nat → ClassId) (V : Vf) (L : Lf)  (hMV : rgd bM V)  : Met l yX12_day (Cond.code yX12_day cX12_day 1 (some .int) :: GW) r_s_day3 (va_Pc [.ref (ad 0)] (gp D ks (mw ad kk ks.1 V L) (mty kk) sz)) (q_s_day3 D ks ad kk V L  (va_A (mw ad kk ks.1 V L) sz)) 0 0 (va_A (mw ad kk ks.1 V L) sz) := by
  refine g_met (q_s_day3 D ks ad kk V L) (by decide) (Nat.le_of_ble_eq_true rfl) ?_
  intro p e s m below meth c A ls H locs hx hb hr hml hown hg hlocks hin hnw hgk hP hK hD hS hA hl
  have hown : s.vm.findClass RX12 = some m.cls := hown
  have hl : lv_has ls 1 [(0, .ref (ad 0))] := hl
  have hP : va_P D vwCl (mw ad kk ks.1 V L) H := hP
  have hD : va_D A (mw ad kk ks.1 V L) := hD
  have hK : va_K D vwCl (mty kk) s := hK
  have agV : agr [(0, 0), (0, 55)] [56, 57, 58, 59] V V := agr.rf
  refine lv_aload_n hx hb dX12_day_0 rfl (lv_at hl 0 rfl) ?_
  refine lv_iconst (v := 0) hx hb dX12_day_1 (by decide) ?_
  refine va_put (D := D) (ci := 12) (v := .int 0) (ty := tyX12 0) (C := RX12) (T := TX12) (N := 100) hx hb hg inX12 tyX12 tyX12_ok nmX12 hown hK hP hD hS 0 rfl rfl 0 (by decide) (hg _ w1706) (fun _ h9 => h9) rfl (tyX12_ok 0 (by decide)) rfl rfl (Nat.le_of_ble_eq_true rfl) dX12_day_2 (fun H locs hP hD hS => ?_)
  obtain ⟨V1, hV1⟩ : ∃ z, z = up2 V 0 0 0 := ⟨_, rfl⟩
  have hP : va_P D vwCl (mw ad kk ks.1 V1 L) H := by rw [hV1]; exact hP
  have hD : va_D A (mw ad kk ks.1 V1 L) := by rw [hV1]; exact hD
  have hMV1 : rgd bM V1 := hMV.put hV1 (i_full _)
  have agV1 : agr [(0, 0), (0, 55)] [56, 57, 58, 59] V V1 := agV.up hV1 rfl
  refine lv_aload_n hx hb dX12_day_5 rfl (lv_at hl 0 rfl) ?_
  refine lv_iconst (v := 1) hx hb dX12_day_6 (by decide) ?_
  refine lv_iconst (v := (-1)) hx hb dX12_day_7 (by decide) ?_
  have r2 : Int32.toInt 1 = 1 := by decide
  have r3 : Int32.toInt (-1) = (-1) := by decide
  refine gA_int (gA_runV (As := [.int 1, .int (-1)]) (rest := []) (ci := 12) (q0 := 0) hx hb hml hown hg hP hD hK hS hA hnw hgk (s_scope3 l D ks H.size ad kk V1 L 1 (-1) hMV1 (by decide)) w2215 w2217 w125 w172 w2218 rfl rfl hdV_yX12_scope ⟨Nat.le_of_ble_eq_true rfl, Nat.le_of_ble_eq_true rfl⟩ rfl hl.1 rfl (Nat.le_of_ble_eq_true rfl) dX12_day_8 ⟨Nat.le_of_ble_eq_true rfl, Nat.le_of_ble_eq_true rfl⟩) hP hD hK hS hA (fun z4 u5 H locs w6 hP hD hK hS => ?_)
  obtain ⟨V9, L10⟩ := u5
  obtain ⟨hMV9, ajV9, axL10, rgz4, t7, t8⟩ := w6
  have axL10 : L = L10 := Eq.symm axL10
  subst axL10
  have hP : va_P D vwCl (mw ad kk ks.1 V9 L) H := hP
  have hD : va_D A (mw ad kk ks.1 V9 L) := hD
  have hMV9 : rgd bM V9 := hMV9
  have ajV9 : agr [(0, 55)] [56, 57, 58, 59] V1 V9 := ajV9
  have agV9 : agr [(0, 0), (0, 55)] [56, 57, 58, 59] V V9 := agV1.tr ajV9 (by decide) (by decide)
  have rgz4 : (-1) ≤ z4.toInt ∧ z4.toInt ≤ 39 := rgz4
  have t7 : ((V1 0 54).toInt = 1 ∧ (V1 0 55).toInt < 40) → z4.toInt = (V1 0 55).toInt ∧ OPM V1 V9 (Int32.toInt 1) (Int32.toInt (-1)) := t7
  have t8 : ¬ ((V1 0 54).toInt = 1 ∧ (V1 0 55).toInt < 40) → z4.toInt = -1 ∧ agr [] [] V1 V9 := t8
  have pq12 : (V1 0 54).toInt = ((V 0 54)).toInt := congrArg Int32.toInt (up2_k hV1 (by decide))
  have r13 : 0 ≤ ((V 0 54)).toInt ∧ ((V 0 54)).toInt ≤ 1 := hMV 0 54
  have pq14 : (V1 0 55).toInt = ((V 0 55)).toInt := congrArg Int32.toInt (up2_k hV1 (by decide))
  have r15 : 1 ≤ ((V 0 55)).toInt ∧ ((V 0 55)).toInt ≤ 40 := hMV 0 55
  have d1 : Int32.toInt 1 = 1 := by decide
  have d2 : Int32.toInt 2 = 2 := by decide
  have dm : Int32.toInt (-1) = -1 := by decide
  have dm11 : ((V 0 54).toInt = 1 ∧ (V 0 55).toInt < 40) → z4.toInt = (V 0 55).toInt ∧ OPM V V9 1 (-1) := fun h9 => by
    have h8 := t7 ⟨by have h1 := h9.1; omega, by have h2 := h9.2; omega⟩
    refine ⟨by omega, ?_⟩
    obtain ⟨n9, r1, r2, r3, r4, r5, r6, r7⟩ := h8.2
    rw [d1, dm] at r4
    exact ⟨n9, by omega, r2, r3, r4, fun s9 h7 => ⟨(r5 s9 h7).1.trans ((show agr [(0, 0)] [] V V1 from (agr.up agr.rf hV1 rfl)) 57 _ rfl), (r5 s9 h7).2.1.trans ((show agr [(0, 0)] [] V V1 from (agr.up agr.rf hV1 rfl)) 58 _ rfl), (r5 s9 h7).2.2.trans ((show agr [(0, 0)] [] V V1 from (agr.up agr.rf hV1 rfl)) 56 _ rfl)⟩, r6, fun j9 h7 => (r7 j9 h7).trans ((show agr [(0, 0)] [] V V1 from (agr.up agr.rf hV1 rfl)) 59 _ rfl)⟩
  have dn16 : ¬ ((V 0 54).toInt = 1 ∧ (V 0 55).toInt < 40) → z4.toInt = -1 ∧ agr [(0, 0)] [] V V9 := fun h9 => by
    have h8 := t8 (fun h7 => h9 ⟨by have h1 := h7.1; omega, by have h2 := h7.2; omega⟩)
    exact ⟨by omega, agr.tr (show agr [(0, 0)] [] V V1 from (show agr [(0, 0)] [] V V1 from (agr.up agr.rf hV1 rfl))) h8.2 (by decide) (by decide)⟩
  exact W.iret (v := z4) hx hb hr (fun t ht hW => ⟨⟨z4, (V9, L), rfl, ⟨hMV9, agV9, rfl, (show (-1) ≤ z4.toInt ∧ z4.toInt ≤ 39 from by (first | exact om_f252d5c70457 rgz4.1 rgz4.2 | omega)), dm11, dn16⟩, by rw [ht]; exact hP, va_K.moved hW.alike hK, hD⟩, hS.F ht⟩) hS.2.2 dX12_day_11
abbrev r_s_meal3 : Room := { frames := 1, cells := 0, slots := 0, locals := 23 }
abbrev q_s_meal3 (D : va_G) (ks : KS) (ad : Nat → Nat) (kk : Nat → ClassId) (V : Vf) (L : Lf) (p0 : Int32) (A : Nat → Prop) : Array Value → State → Outcome → State → Prop := va_Qi (fun (r : Int32) (u : Vf × Lf) => rgd bM u.1 ∧ agr [(0, 0), (0, 55)] [56, 57, 58, 59] V u.1 ∧ u.2 = L ∧ ((-1) ≤ r.toInt ∧ r.toInt ≤ 39) ∧ (((V 0 54).toInt = 1 ∧ (0 ≤ p0.toInt ∧ p0.toInt < (V 0 55).toInt ∧ (V 56 (Int32.toNatClampNeg p0)).toInt = 1) ∧ (V 57 (Int32.toNatClampNeg p0)).toInt = 1 ∧ (V 0 55).toInt < 40) → r.toInt = (V 0 55).toInt ∧ OPM V u.1 2 p0.toInt) ∧ (¬ ((V 0 54).toInt = 1 ∧ (0 ≤ p0.toInt ∧ p0.toInt < (V 0 55).toInt ∧ (V 56 (Int32.toNatClampNeg p0)).toInt = 1) ∧ (V 57 (Int32.toNatClampNeg p0)).toInt = 1 ∧ (V 0 55).toInt < 40) → r.toInt = -1 ∧ agr [(0, 0)] [] V u.1)) (fun u t => gq D A (mw ad kk ks.1 u.1 u.2) (mty kk) t) A
set_option maxHeartbeats 4000000 in
set_option maxRecDepth 100000 in
theorem s_meal3 (l : Launch) (D : va_G) (ks : KS) (sz : Nat) (ad : Nat → Nat) (kk : Nat → ClassId) (V : Vf) (L : Lf) (p0 : Int32) (hMV : rgd bM V)  : Met l yX12_meal (Cond.code yX12_meal cX12_meal 2 (some .int) :: GW) r_s_meal3 (va_Pc [.ref (ad 0), .int p0] (gp D ks (mw ad kk ks.1 V L) (mty kk) sz)) (q_s_meal3 D ks ad kk V L p0 (va_A (mw ad kk ks.1 V L) sz)) 0 0 (va_A (mw ad kk ks.1 V L) sz) := by
  refine g_met (q_s_meal3 D ks ad kk V L p0) (by decide) (Nat.le_of_ble_eq_true rfl) ?_
  intro p e s m below meth c A ls H locs hx hb hr hml hown hg hlocks hin hnw hgk hP hK hD hS hA hl
  have hown : s.vm.findClass RX12 = some m.cls := hown
  have hl : lv_has ls 2 [(0, .ref (ad 0)), (1, .int p0)] := hl
  have hP : va_P D vwCl (mw ad kk ks.1 V L) H := hP
  have hD : va_D A (mw ad kk ks.1 V L) := hD
  have hK : va_K D vwCl (mty kk) s := hK
  have agV : agr [(0, 0), (0, 55)] [56, 57, 58, 59] V V := agr.rf
  refine lv_aload_n hx hb dX12_meal_0 rfl (lv_at hl 0 rfl) ?_
  refine lv_iconst (v := 0) hx hb dX12_meal_1 (by decide) ?_
  refine va_put (D := D) (ci := 12) (v := .int 0) (ty := tyX12 0) (C := RX12) (T := TX12) (N := 100) hx hb hg inX12 tyX12 tyX12_ok nmX12 hown hK hP hD hS 0 rfl rfl 0 (by decide) (hg _ w1706) (fun _ h9 => h9) rfl (tyX12_ok 0 (by decide)) rfl rfl (Nat.le_of_ble_eq_true rfl) dX12_meal_2 (fun H locs hP hD hS => ?_)
  obtain ⟨V1, hV1⟩ : ∃ z, z = up2 V 0 0 0 := ⟨_, rfl⟩
  have hP : va_P D vwCl (mw ad kk ks.1 V1 L) H := by rw [hV1]; exact hP
  have hD : va_D A (mw ad kk ks.1 V1 L) := by rw [hV1]; exact hD
  have hMV1 : rgd bM V1 := hMV.put hV1 (i_full _)
  have agV1 : agr [(0, 0), (0, 55)] [56, 57, 58, 59] V V1 := agV.up hV1 rfl
  refine lv_aload_n hx hb dX12_meal_5 rfl (lv_at hl 0 rfl) ?_
  refine lv_iload_n hx hb dX12_meal_6 rfl (lv_at hl 1 rfl) ?_
  refine gA_int (gA_runV (As := [.int p0]) (rest := []) (ci := 12) (q0 := 0) hx hb hml hown hg hP hD hK hS hA hnw hgk (s_isScope3 l D ks H.size ad kk V1 L p0 hMV1 ) w2223 w2225 w126 w172 w2226 rfl rfl hdV_yX12_isScope ⟨Nat.le_of_ble_eq_true rfl, Nat.le_of_ble_eq_true rfl⟩ rfl hl.1 rfl (Nat.le_of_ble_eq_true rfl) dX12_meal_7 ⟨Nat.le_of_ble_eq_true rfl, Nat.le_of_ble_eq_true rfl⟩) hP hD hK hS hA (fun z2 u3 H locs w4 hP hD hK hS => ?_)
  obtain ⟨rgz2, t5⟩ := w4
  have rgz2 : 0 ≤ z2.toInt ∧ z2.toInt ≤ 1 := rgz2
  have t5 : (z2.toInt = 1 ∧ 0 ≤ p0.toInt ∧ p0.toInt < (V1 0 55).toInt ∧ (V1 56 (Int32.toNatClampNeg p0)).toInt = 1) ∨ (z2.toInt = 0 ∧ (p0.toInt < 0 ∨ (V1 0 55).toInt ≤ p0.toInt ∨ (V1 56 (Int32.toNatClampNeg p0)).toInt = 0)) := t5
  have pq6 : (V1 0 55).toInt = ((V 0 55)).toInt := congrArg Int32.toInt (up2_k hV1 (by decide))
  have r7 : 1 ≤ ((V 0 55)).toInt ∧ ((V 0 55)).toInt ≤ 40 := hMV 0 55
  refine lv_if_eq (tgt := 32) hx hb dX12_meal_10 (by decide) (fun c8 => ?_) (fun c8 => ?_)
  · skip
    have f9 : z2.toInt = 0 := b_eq rfl (by decide) c8
    refine lv_iconst (v := (-1)) hx hb dX12_meal_32 (by decide) ?_
    have pq10 : (V1 56 (Int32.toNatClampNeg p0)).toInt = ((V 56 (Int32.toNatClampNeg p0))).toInt := congrArg Int32.toInt (up2_o hV1 (by decide))
    have r11 : 0 ≤ ((V 56 (Int32.toNatClampNeg p0))).toInt ∧ ((V 56 (Int32.toNatClampNeg p0))).toInt ≤ 1 := hMV 56 (Int32.toNatClampNeg p0)
    have pq12 : (V1 57 (Int32.toNatClampNeg p0)).toInt = ((V 57 (Int32.toNatClampNeg p0))).toInt := congrArg Int32.toInt (up2_o hV1 (by decide))
    exact W.iret (v := (-1)) hx hb hr (fun t ht hW => ⟨⟨(-1), (V1, L), rfl, ⟨hMV1, agV1, rfl, (by decide), (fun h9 => by have h1 := h9.1; have h2 := h9.2.1.1; have h3 := h9.2.1.2.1; have h4 := h9.2.1.2.2; have h5 := h9.2.2.1; have h6 := h9.2.2.2; exfalso; omega), (fun _ => ⟨by decide, (show agr [(0, 0)] [] V V1 from (agr.up agr.rf hV1 rfl))⟩)⟩, by rw [ht]; exact hP, va_K.moved hW.alike hK, hD⟩, hS.F ht⟩) hS.2.2 dX12_meal_33
  · skip
    have f13 : z2.toInt ≠ 0 := b_neq rfl (by decide) c8
    refine lv_aload_n hx hb dX12_meal_13 rfl (lv_at hl 0 rfl) ?_
    refine va_get (D := D) (ci := 12) (v := .ref (ad 57)) (C := RX12) (T := TX12) (N := 100) hx hb hg inX12 hown hK hP 0 rfl rfl 57 (by decide) (hg _ w1763) (fun _ h9 => h9) rfl dX12_meal_14 ?_
    refine lv_iload_n hx hb dX12_meal_17 rfl (lv_at hl 1 rfl) ?_
    refine va_iald (D := D) (i := p0) hx hb hK hP 43 42 rfl rfl (i_in (a := p0.toInt) rfl (by (first | exact om_5f3a60a49edd t5 pq6 r7.2 f13 | omega))) dX12_meal_18 ?_
    refine g_top (v := (V 57 (Int32.toNatClampNeg p0))) (up2_o hV1 (by decide)) ?_
    refine lv_iconst (v := 1) hx hb dX12_meal_19 (by decide) ?_
    refine lv_icmp_ne (tgt := 32) hx hb dX12_meal_20 (by decide) (fun c14 => ?_) (fun c14 => ?_)
    · skip
      have f15 : ((V 57 (Int32.toNatClampNeg p0))).toInt ≠ 1 := b_neq rfl (by decide) c14
      refine lv_iconst (v := (-1)) hx hb dX12_meal_32 (by decide) ?_
      have pq16 : (V1 56 (Int32.toNatClampNeg p0)).toInt = ((V 56 (Int32.toNatClampNeg p0))).toInt := congrArg Int32.toInt (up2_o hV1 (by decide))
      have r17 : 0 ≤ ((V 56 (Int32.toNatClampNeg p0))).toInt ∧ ((V 56 (Int32.toNatClampNeg p0))).toInt ≤ 1 := hMV 56 (Int32.toNatClampNeg p0)
      have pq18 : (V1 57 (Int32.toNatClampNeg p0)).toInt = ((V 57 (Int32.toNatClampNeg p0))).toInt := congrArg Int32.toInt (up2_o hV1 (by decide))
      exact W.iret (v := (-1)) hx hb hr (fun t ht hW => ⟨⟨(-1), (V1, L), rfl, ⟨hMV1, agV1, rfl, (by decide), (fun h9 => by have h1 := h9.1; have h2 := h9.2.1.1; have h3 := h9.2.1.2.1; have h4 := h9.2.1.2.2; have h5 := h9.2.2.1; have h6 := h9.2.2.2; exfalso; omega), (fun _ => ⟨by decide, (show agr [(0, 0)] [] V V1 from (agr.up agr.rf hV1 rfl))⟩)⟩, by rw [ht]; exact hP, va_K.moved hW.alike hK, hD⟩, hS.F ht⟩) hS.2.2 dX12_meal_33
    · skip
      have f19 : ((V 57 (Int32.toNatClampNeg p0))).toInt = 1 := b_eq rfl (by decide) c14
      refine lv_aload_n hx hb dX12_meal_23 rfl (lv_at hl 0 rfl) ?_
      refine lv_iconst (v := 2) hx hb dX12_meal_24 (by decide) ?_
      refine lv_iload_n hx hb dX12_meal_25 rfl (lv_at hl 1 rfl) ?_
      have r20 : Int32.toInt 2 = 2 := by decide
      refine gA_int (gA_runV (As := [.int 2, .int p0]) (rest := []) (ci := 12) (q0 := 0) hx hb hml hown hg hP hD hK hS hA hnw hgk (s_scope3 l D ks H.size ad kk V1 L 2 p0 hMV1 (by (first | exact om_9a8d7147d7d9 t5 pq6 r7.2 f13 | omega))) w2215 w2217 w125 w172 w2218 rfl rfl hdV_yX12_scope ⟨Nat.le_of_ble_eq_true rfl, Nat.le_of_ble_eq_true rfl⟩ rfl hl.1 rfl (Nat.le_of_ble_eq_true rfl) dX12_meal_26 ⟨Nat.le_of_ble_eq_true rfl, Nat.le_of_ble_eq_true rfl⟩) hP hD hK hS hA (fun z21 u22 H locs w23 hP hD hK hS => ?_)
      obtain ⟨V26, L27⟩ := u22
      obtain ⟨hMV26, ajV26, axL27, rgz21, t24, t25⟩ := w23
      have axL27 : L = L27 := Eq.symm axL27
      subst axL27
      have hP : va_P D vwCl (mw ad kk ks.1 V26 L) H := hP
      have hD : va_D A (mw ad kk ks.1 V26 L) := hD
      have hMV26 : rgd bM V26 := hMV26
      have ajV26 : agr [(0, 55)] [56, 57, 58, 59] V1 V26 := ajV26
      have agV26 : agr [(0, 0), (0, 55)] [56, 57, 58, 59] V V26 := agV1.tr ajV26 (by decide) (by decide)
      have rgz21 : (-1) ≤ z21.toInt ∧ z21.toInt ≤ 39 := rgz21
      have t24 : ((V1 0 54).toInt = 1 ∧ (V1 0 55).toInt < 40) → z21.toInt = (V1 0 55).toInt ∧ OPM V1 V26 (Int32.toInt 2) p0.toInt := t24
      have t25 : ¬ ((V1 0 54).toInt = 1 ∧ (V1 0 55).toInt < 40) → z21.toInt = -1 ∧ agr [] [] V1 V26 := t25
      refine lv_goto (tgt := 33) hx hb dX12_meal_29 (by decide) ?_
      have pq29 : (V1 0 54).toInt = ((V 0 54)).toInt := congrArg Int32.toInt (up2_k hV1 (by decide))
      have r30 : 0 ≤ ((V 0 54)).toInt ∧ ((V 0 54)).toInt ≤ 1 := hMV 0 54
      have pq31 : (V1 56 (Int32.toNatClampNeg p0)).toInt = ((V 56 (Int32.toNatClampNeg p0))).toInt := congrArg Int32.toInt (up2_o hV1 (by decide))
      have r32 : 0 ≤ ((V 56 (Int32.toNatClampNeg p0))).toInt ∧ ((V 56 (Int32.toNatClampNeg p0))).toInt ≤ 1 := hMV 56 (Int32.toNatClampNeg p0)
      have pq33 : (V1 57 (Int32.toNatClampNeg p0)).toInt = ((V 57 (Int32.toNatClampNeg p0))).toInt := congrArg Int32.toInt (up2_o hV1 (by decide))
      have d1 : Int32.toInt 1 = 1 := by decide
      have d2 : Int32.toInt 2 = 2 := by decide
      have dm : Int32.toInt (-1) = -1 := by decide
      have dm28 : ((V 0 54).toInt = 1 ∧ (0 ≤ p0.toInt ∧ p0.toInt < (V 0 55).toInt ∧ (V 56 (Int32.toNatClampNeg p0)).toInt = 1) ∧ (V 57 (Int32.toNatClampNeg p0)).toInt = 1 ∧ (V 0 55).toInt < 40) → z21.toInt = (V 0 55).toInt ∧ OPM V V26 2 p0.toInt := fun h9 => by
        have h8 := t24 ⟨by have h1 := h9.1; omega, by have h2 := h9.2.2.2; omega⟩
        refine ⟨by omega, ?_⟩
        obtain ⟨n9, r1, r2, r3, r4, r5, r6, r7⟩ := h8.2
        rw [d2] at r4
        exact ⟨n9, by omega, r2, r3, r4, fun s9 h7 => ⟨(r5 s9 h7).1.trans ((show agr [(0, 0)] [] V V1 from (agr.up agr.rf hV1 rfl)) 57 _ rfl), (r5 s9 h7).2.1.trans ((show agr [(0, 0)] [] V V1 from (agr.up agr.rf hV1 rfl)) 58 _ rfl), (r5 s9 h7).2.2.trans ((show agr [(0, 0)] [] V V1 from (agr.up agr.rf hV1 rfl)) 56 _ rfl)⟩, r6, fun j9 h7 => (r7 j9 h7).trans ((show agr [(0, 0)] [] V V1 from (agr.up agr.rf hV1 rfl)) 59 _ rfl)⟩
      have dn34 : ¬ ((V 0 54).toInt = 1 ∧ (0 ≤ p0.toInt ∧ p0.toInt < (V 0 55).toInt ∧ (V 56 (Int32.toNatClampNeg p0)).toInt = 1) ∧ (V 57 (Int32.toNatClampNeg p0)).toInt = 1 ∧ (V 0 55).toInt < 40) → z21.toInt = -1 ∧ agr [(0, 0)] [] V V26 := fun h9 => by
        have h8 := t25 (fun h7 => h9 ⟨by have h1 := h7.1; omega, ⟨by omega, by omega, by omega⟩, by omega, by have h2 := h7.2; omega⟩)
        exact ⟨by omega, agr.tr (show agr [(0, 0)] [] V V1 from (show agr [(0, 0)] [] V V1 from (agr.up agr.rf hV1 rfl))) h8.2 (by decide) (by decide)⟩
      exact W.iret (v := z21) hx hb hr (fun t ht hW => ⟨⟨z21, (V26, L), rfl, ⟨hMV26, agV26, rfl, (show (-1) ≤ z21.toInt ∧ z21.toInt ≤ 39 from by (first | exact om_f252d5c70457 rgz21.1 rgz21.2 | omega)), dm28, dn34⟩, by rw [ht]; exact hP, va_K.moved hW.alike hK, hD⟩, hS.F ht⟩) hS.2.2 dX12_meal_33
end
section
/-! two pictures of one heap: the class's code and wraps -/
def LKe (V V2 : Vf) : Prop := (∀ i, i < 2 → V2 41 i = V 41 i ∧ V2 42 i = V 42 i) ∧ (∀ i, i < 48 → V2 56 i = V 56 i ∧ V2 57 i = V 57 i) ∧ (∀ i k, i < 48 → k < 20 → V2 61 (20 * i + k) = V 61 (20 * i + k)) ∧ (∀ i, i < 24 → V2 62 i = V 62 i ∧ V2 63 i = V 63 i ∧ V2 64 i = V 64 i ∧ V2 65 i = V 65 i ∧ V2 66 i = V 66 i) ∧ (∀ i k, i < 2 → k < 12 → V2 47 (12 * i + k) = V 47 (12 * i + k)) ∧ ∀ i k, i < 2 → k < 8200 → V2 48 (8200 * i + k) = V 48 (8200 * i + k)
theorem LKe.of {D : va_G} {ad : Nat → Nat} {kk : Nat → ClassId} {V V2 : Vf} {L L2 : Lf} {Z : XZ} {H : Heap} (h : va_P D vwCl (xw ad kk V L Z) H) (h' : va_P D vwCl (xw ad kk V2 L2 Z) H) : LKe V V2 := by
  refine ⟨fun i hi => ?_, fun i hi => ?_, fun i k hi hk => ?_, fun i hi => ?_, fun i k hi hk => ?_, fun i k hi hk => ?_⟩
  · have f : ∀ k, k < 13 → vp_V (xfBook ad V2 i) k = vp_V (xfBook ad V i) k := fun k hk => at_o (h' _ _ (xgBook hi)) (h _ _ (xgBook hi)) (r := (RX0, TX0, 13)) rfl hk
    have z41 : Value.int (V2 41 i) = Value.int (V 41 i) := f 11 (by decide)
    injection z41 with z41
    have z42 : Value.int (V2 42 i) = Value.int (V 42 i) := f 12 (by decide)
    injection z42 with z42
    exact ⟨z41, z42⟩
  · have f : ∀ k, k < 13 → vp_V (xfComp ad V2 i) k = vp_V (xfComp ad V i) k := fun k hk => at_o (h' _ _ (xgComp hi)) (h _ _ (xgComp hi)) (r := (RX3, TX3, 13)) rfl hk
    have z56 : Value.int (V2 56 i) = Value.int (V 56 i) := f 11 (by decide)
    injection z56 with z56
    have z57 : Value.int (V2 57 i) = Value.int (V 57 i) := f 12 (by decide)
    injection z57 with z57
    exact ⟨z56, z57⟩
  · have z : (if k < 20 then V2 61 (20 * i + k) else 0) = (if k < 20 then V 61 (20 * i + k) else 0) := at_i (h' _ _ (xgmethodStarts hi)) (h _ _ (xgmethodStarts hi)) hk
    rw [if_pos hk, if_pos hk] at z
    exact z
  · have f : ∀ k, k < 5 → vp_V (xfWrap V2 i) k = vp_V (xfWrap V i) k := fun k hk => at_o (h' _ _ (xgWrap hi)) (h _ _ (xgWrap hi)) (r := (RX10, TX10, 5)) rfl hk
    have z62 : Value.int (V2 62 i) = Value.int (V 62 i) := f 0 (by decide)
    injection z62 with z62
    have z63 : Value.int (V2 63 i) = Value.int (V 63 i) := f 1 (by decide)
    injection z63 with z63
    have z64 : Value.int (V2 64 i) = Value.int (V 64 i) := f 2 (by decide)
    injection z64 with z64
    have z65 : Value.int (V2 65 i) = Value.int (V 65 i) := f 3 (by decide)
    injection z65 with z65
    have z66 : Value.int (V2 66 i) = Value.int (V 66 i) := f 4 (by decide)
    injection z66 with z66
    exact ⟨z62, z63, z64, z65, z66⟩
  · have z : (if k < 12 then V2 47 (12 * i + k) else 0) = (if k < 12 then V 47 (12 * i + k) else 0) := at_i (h' _ _ (xgwrapOrder hi)) (h _ _ (xgwrapOrder hi)) hk
    rw [if_pos hk, if_pos hk] at z
    exact z
  · have z : (if k < 8200 then V2 48 (8200 * i + k) else 0) = (if k < 8200 then V 48 (8200 * i + k) else 0) := at_i (h' _ _ (xgcode hi)) (h _ _ (xgcode hi)) hk
    rw [if_pos hk, if_pos hk] at z
    exact z
/-- .. scopes, objects, what is told -/
def LKs (V V2 : Vf) : Prop := (V2 3 12 = V 3 12 ∧ V2 3 13 = V 3 13 ∧ V2 3 14 = V 3 14 ∧ V2 3 15 = V 3 15) ∧ (V2 4 6 = V 4 6 ∧ V2 4 7 = V 4 7 ∧ V2 4 8 = V 4 8) ∧ (V2 5 13 = V 5 13 ∧ V2 5 14 = V 5 14) ∧ (∀ k, k < 40 → V2 21 k = V 21 k ∧ V2 22 k = V 22 k ∧ V2 23 k = V 23 k ∧ V2 24 k = V 24 k) ∧ ∀ k, k < 960 → V2 25 k = V 25 k
theorem LKs.of {D : va_G} {ad : Nat → Nat} {kk : Nat → ClassId} {V V2 : Vf} {L L2 : Lf} {Z : XZ} {H : Heap} (h : va_P D vwCl (xw ad kk V L Z) H) (h' : va_P D vwCl (xw ad kk V2 L2 Z) H) : LKs V V2 := by
  have fStock : ∀ k, k < 16 → vp_V (xfStock ad V2 L2 Z) k = vp_V (xfStock ad V L Z) k := fun k hk => at_o (h' _ _ xgStock) (h _ _ xgStock) (r := (RX8, TX8, 16)) rfl hk
  have z3_12 : Value.int (V2 3 12) = Value.int (V 3 12) := fStock 12 (by decide)
  injection z3_12 with z3_12
  have z3_13 : Value.int (V2 3 13) = Value.int (V 3 13) := fStock 13 (by decide)
  injection z3_13 with z3_13
  have z3_14 : Value.int (V2 3 14) = Value.int (V 3 14) := fStock 14 (by decide)
  injection z3_14 with z3_14
  have z3_15 : Value.int (V2 3 15) = Value.int (V 3 15) := fStock 15 (by decide)
  injection z3_15 with z3_15
  have fNotes : ∀ k, k < 10 → vp_V (xfNotes ad V2 L2 Z) k = vp_V (xfNotes ad V L Z) k := fun k hk => at_o (h' _ _ xgNotes) (h _ _ xgNotes) (r := (RX7, TX7, 10)) rfl hk
  have z4_6 : Value.int (V2 4 6) = Value.int (V 4 6) := fNotes 6 (by decide)
  injection z4_6 with z4_6
  have z4_7 : Value.int (V2 4 7) = Value.int (V 4 7) := fNotes 7 (by decide)
  injection z4_7 with z4_7
  have z4_8 : Value.int (V2 4 8) = Value.int (V 4 8) := fNotes 8 (by decide)
  injection z4_8 with z4_8
  have fMachine : ∀ k, k < 15 → vp_V (xfMachine ad V2 L2 Z) k = vp_V (xfMachine ad V L Z) k := fun k hk => at_o (h' _ _ xgMachine) (h _ _ xgMachine) (r := (RX5, TX5, 15)) rfl hk
  have z5_13 : Value.int (V2 5 13) = Value.int (V 5 13) := fMachine 13 (by decide)
  injection z5_13 with z5_13
  have z5_14 : Value.int (V2 5 14) = Value.int (V 5 14) := fMachine 14 (by decide)
  injection z5_14 with z5_14
  exact ⟨⟨z3_12, z3_13, z3_14, z3_15⟩, ⟨z4_6, z4_7, z4_8⟩, ⟨z5_13, z5_14⟩, fun k hk => ⟨at_i (h' 18 _ rfl) (h 18 _ rfl) hk, at_i (h' 19 _ rfl) (h 19 _ rfl) hk, at_i (h' 20 _ rfl) (h 20 _ rfl) hk, at_i (h' 21 _ rfl) (h 21 _ rfl) hk⟩, fun k hk => at_i (h' 22 _ rfl) (h 22 _ rfl) hk⟩
theorem CDc.lk {V V2 : Vf} {b : Nat} {s : St} (h : CDc V2 b s) (hM : rgd bX V2) (hb : b < 2) (l : LKe V V2) : CDc V b s := by
  have e42 := (l.1 b hb).2
  have bd : 0 ≤ (V2 42 b).toInt ∧ (V2 42 b).toInt ≤ 8200 := hM 42 b
  have c := h.1
  refine ⟨by rw [← e42]; exact h.1, fun i hi => ?_⟩
  have z := h.2 i hi
  have p1 : psz (opf s) i + szO (opf s i) ≤ wl s := psz_le hi
  have sb := szO_b (opf s i)
  have l48 := l.2.2.2.2.2
  unfold CDr at z ⊢
  refine ⟨by rw [← l48 b _ hb (by omega)]; exact z.1, fun q => ?_, z.2.2⟩
  have q2 : szO (opf s i) = 2 := q
  have e := l48 b (psz (opf s) i + 1) hb (by omega)
  rw [← Nat.add_assoc] at e
  rw [← e]
  exact z.2.1 q
theorem REc.lk {V V2 : Vf} {b : Nat} {s : St} (h : REc V2 b s) (hb : b < 2) (l : LKe V V2) : REc V b s := by
  refine ⟨h.1, fun c hc k hk => ?_, h.2.2⟩
  have n := h.1
  have e := l.2.1 (24 * b + c) (by omega)
  rw [← h.2.1 c hc k hk]
  exact (cR_e (fun k20 => l.2.2.1 (24 * b + c) k (by omega) k20) e.1 e.2).symm
theorem WWc.lk {V V2 : Vf} {b : Nat} {s : St} (h : WWc V2 b s) (hb : b < 2) (l : LKe V V2) : WWc V b s := by
  refine ⟨h.1, fun w hw => ?_⟩
  have n := h.1
  have z := h.2 w hw
  obtain ⟨e1, e2, e3, e4, e5⟩ := l.2.2.2.1 (12 * b + w) (by omega)
  unfold WWr at z ⊢
  rw [← e1, ← e2, ← e3, ← e4, ← e5]
  exact z
theorem CEo.lk {V V2 : Vf} {b : Nat} {s : St} (h : CEo V2 b s) (hM : rgd bX V2) (hb : b < 2) (l : LKe V V2) : CEo V b s := ⟨h.1.lk hM hb l, h.2.1.lk hb l, h.2.2.1.lk hb l, h.2.2.2⟩
theorem WRc.lk {V V2 : Vf} {b : Nat} {s : St} (h : WRc V2 b s) (n12 : s.2.2.1.length ≤ 12) (hb : b < 2) (l : LKe V V2) : WRc V b s := by
  refine ⟨by rw [← (l.1 b hb).1]; exact h.1, fun i hi => ?_⟩
  have z := h.2 i hi
  obtain ⟨_, e2, _, e4, _⟩ := l.2.2.2.1 (12 * b + i) (by omega)
  rw [← e2, ← e4]
  exact z
theorem WO.lk {V V2 : Vf} {b : Nat} (h : WO V2 b) (hM : rgd bX V2) (hb : b < 2) (l : LKe V V2) : WO V b := fun n hn i hi => by
  rw [← (l.1 b hb).1] at hn
  have bd : 0 ≤ (V2 41 b).toInt ∧ (V2 41 b).toInt ≤ 12 := hM 41 b
  have z := h n hn i hi
  rw [← l.2.2.2.2.1 b i hb (by omega), z, srI_ext (f := fun w => (V 64 (12 * b + w)).toInt) n (fun w hw => congrArg Int32.toInt (l.2.2.2.1 (12 * b + w) (by omega)).2.2.1)]
theorem RST.lk {V W W2 : Vf} (h : RST V W2) (l : LKs W W2) (a : ∀ s, W 21 s = V 21 s ∧ W 22 s = V 22 s) : RST V W := by
  obtain ⟨⟨c1, c2, c3⟩, ⟨c4, c5, c6⟩, ⟨c7, c8⟩, c9, c10, c11, _⟩ := h
  obtain ⟨⟨e1, e2, e3, _⟩, ⟨e4, e5, e6⟩, ⟨e7, e8⟩, e9, e10⟩ := l
  rw [e1] at c1
  rw [e2] at c2
  rw [e3] at c3
  rw [e4] at c4
  rw [e5] at c5
  rw [e6] at c6
  rw [e7] at c7
  rw [e8] at c8
  rw [(e9 0 (by decide)).2.2.1] at c9
  exact ⟨⟨c1, c2, c3⟩, ⟨c4, c5, c6⟩, ⟨c7, c8⟩, c9, fun s hs => by rw [← (e9 s hs).2.2.2]; exact c10 s hs, fun q hq => by rw [← e10 q hq]; exact c11 q hq, a⟩
/-! .. the reference's -/
def LKr (V V2 : Vf) : Prop := (∀ k, k < 48 → V2 32 k = V 32 k) ∧ (∀ k, k < 48 → V2 33 k = V 33 k) ∧ (∀ k, k < 960 → V2 34 k = V 34 k) ∧ (∀ k, k < 2 → V2 39 k = V 39 k) ∧ (∀ k, k < 24 → V2 40 k = V 40 k) ∧ (∀ k, k < 24 → V2 41 k = V 41 k) ∧ (∀ k, k < 24 → V2 42 k = V 42 k) ∧ (∀ k, k < 24 → V2 43 k = V 43 k) ∧ (∀ k, k < 24 → V2 44 k = V 44 k) ∧ (∀ k, k < 20000 → V2 45 k = V 45 k) ∧ (∀ k, k < 20000 → V2 46 k = V 46 k) ∧ (∀ k, k < 20000 → V2 47 k = V 47 k) ∧ V2 0 48 = V 0 48 ∧ V2 0 49 = V 0 49
theorem LKr.of {D : va_G} {ad : Nat → Nat} {kk : Nat → ClassId} {k1 : Nat} {V V2 : Vf} {L L2 : Lf} {H : Heap} (h : va_P D vwCl (mw ad kk k1 V L) H) (h' : va_P D vwCl (mw ad kk k1 V2 L2) H) : LKr V V2 := by
  have z48 : Value.int (V2 0 48) = Value.int (V 0 48) := at_o (h' 0 _ rfl) (h 0 _ rfl) (r := (RX12, TX12, 100)) rfl (k := 48) (by decide)
  injection z48 with z48
  have z49 : Value.int (V2 0 49) = Value.int (V 0 49) := at_o (h' 0 _ rfl) (h 0 _ rfl) (r := (RX12, TX12, 100)) rfl (k := 49) (by decide)
  injection z49 with z49
  exact ⟨fun k hk => at_i (h' 25 _ rfl) (h 25 _ rfl) hk, fun k hk => at_i (h' 26 _ rfl) (h 26 _ rfl) hk, fun k hk => at_i (h' 27 _ rfl) (h 27 _ rfl) hk, fun k hk => at_i (h' 32 _ rfl) (h 32 _ rfl) hk, fun k hk => at_i (h' 33 _ rfl) (h 33 _ rfl) hk, fun k hk => at_i (h' 34 _ rfl) (h 34 _ rfl) hk, fun k hk => at_i (h' 35 _ rfl) (h 35 _ rfl) hk, fun k hk => at_i (h' 36 _ rfl) (h 36 _ rfl) hk, fun k hk => at_i (h' 37 _ rfl) (h 37 _ rfl) hk, fun k hk => at_i (h' 38 _ rfl) (h 38 _ rfl) hk, fun k hk => at_i (h' 39 _ rfl) (h 39 _ rfl) hk, fun k hk => at_i (h' 40 _ rfl) (h 40 _ rfl) hk, z48, z49⟩
theorem CEm.lk {V V2 : Vf} {q : Nat} {s : St} (h : CEm V2 q s) (n : cl s ≤ 10000) (hq : q < 2) (l : LKr V V2) : CEm V q s := by
  obtain ⟨h1, h2, h3⟩ := h
  obtain ⟨l32, l33, l34, l39, l40, l41, l42, l43, l44, l45, l46, l47, l48, l49⟩ := l
  refine ⟨⟨by rw [← l48]; exact h1.1, by rw [← l49]; exact h1.2.1, fun i hi => ?_⟩, ⟨h2.1, fun c hc k hk => ?_, h2.2.2⟩, ⟨h3.1, fun w hw => ?_⟩⟩
  · have z := h1.2.2 i hi
    unfold CDmr at z ⊢
    rw [← l45 _ (by omega), ← l46 _ (by omega), ← l47 _ (by omega)]
    exact z
  · have z := h2.2.1 c hc k hk
    have n24 := h2.1
    rw [← z]
    unfold cM
    by_cases k20 : k < 20
    · rw [if_pos k20, if_pos k20, l34 _ (by omega)]
    · rw [if_neg k20, if_neg k20, l32 _ (by omega), l33 _ (by omega)]
  · have z := h3.2 w hw
    have n12 := h3.1
    unfold WMr at z ⊢
    rw [← l40 _ (by omega), ← l41 _ (by omega), ← l42 _ (by omega), ← l43 _ (by omega), ← l44 _ (by omega)]
    exact z
theorem WRm.lk {V V2 : Vf} {q : Nat} {s : St} (h : WRm V2 q s) (n12 : s.2.2.1.length ≤ 12) (hq : q < 2) (l : LKr V V2) : WRm V q s := by
  obtain ⟨_, _, _, l39, _, l41, _, l43, _⟩ := l
  refine ⟨by rw [← l39 q hq]; exact h.1, fun i hi => ?_⟩
  have z := h.2 i hi
  rw [← l41 _ (by omega), ← l43 _ (by omega)]
  exact z
/-! what the law keeps of the house at work -/
theorem Met.mono {l : Launch} {y : MethodName} {ws : List Cond} {rm : Room} {Pc : Array Value → State → Prop} {Q Q2 : Array Value → State → Outcome → State → Prop} {mc ms : Nat} {free : Addr → Prop} (h : Met l y ws rm Pc Q mc ms free) (f : ∀ a s o t, Q a s o t → Q2 a s o t) : Met l y ws rm Pc Q2 mc ms free := by
  unfold Met MetFree at h ⊢
  intro p e ha hf hc s m args below hfr hS hP hK
  obtain ⟨n, o, w, r, en, q, fr⟩ := h p e ha hf hc s m args below hfr hS hP hK
  exact ⟨n, o, w, r, en, f _ _ _ _ q, fr⟩
abbrev vS (V : Vf) (b : Nat) : Nat → Int32 := fun i => V 46 (12 * b + i)
def KMB (V : Vf) (b : Nat) (Vm : Vf) (s : St) : Prop := BKf s ∧ BKc V b (s, vS V b) ∧ BKm Vm (s, vS V b) ∧ (∃ ow, RWn V ow (s, vS V b) (mV Vm 0 0 0)) ∧ SCm (mV Vm 0 0 0) (Vm 0 55).toInt.toNat ∧ ((V 3 12).toInt = (Vm 0 55).toInt ∧ dzC V) ∧ ((V 4 7).toInt = (Vm 0 71).toInt ∧ (V 4 8).toInt = (Vm 0 72).toInt ∧ 0 ≤ (Vm 0 71).toInt) ∧ ((Vm 0 54).toInt = 1 → RJm Vm (s, vS V b))
/-- cells of the class that matter -/
def kmQ (fs : List (Nat × Nat)) (cs : List Nat) : Bool := fs.all (fun y => y.1 != 3 && !(([(4, 6), (4, 7), (4, 8), (5, 13), (5, 14)] : List (Nat × Nat)).contains y) && decide (y.1 < 21 ∨ y.1 = 44)) && cs.all (fun c => (c != 3 && c != 4 && c != 5) && decide (c < 21 ∨ (33 ≤ c ∧ c ≤ 35) ∨ (38 ≤ c ∧ c ≤ 40) ∨ 67 ≤ c))
theorem kmQ_k {fs : List (Nat × Nat)} {cs : List Nat} (q : kmQ fs cs = true) {c k : Nat} (h : c = 3 ∨ (c = 4 ∧ (k = 6 ∨ k = 7 ∨ k = 8)) ∨ (c = 5 ∧ (k = 13 ∨ k = 14)) ∨ (21 ≤ c ∧ c ≤ 37 ∧ (c < 33 ∨ 35 < c)) ∨ (41 ≤ c ∧ c ≤ 66 ∧ c ≠ 44)) : wrL fs cs c k = false := by
  unfold kmQ at q
  rw [Bool.and_eq_true, List.all_eq_true, List.all_eq_true] at q
  unfold wrL
  rw [Bool.or_eq_false_iff]
  refine ⟨?_, ?_⟩
  · rw [← Bool.not_eq_true]
    intro z
    have y := q.1 _ (List.contains_iff_mem.mp z)
    rw [Bool.and_eq_true, Bool.and_eq_true] at y
    have y1 : (c != 3) = true := y.1.1
    have y2 : (!(([(4, 6), (4, 7), (4, 8), (5, 13), (5, 14)] : List (Nat × Nat)).contains (c, k))) = true := y.1.2
    have y3 : c < 21 ∨ c = 44 := of_decide_eq_true y.2
    rcases h with h | ⟨h, h2⟩ | ⟨h, h2⟩ | h | h
    · rw [h] at y1
      exact absurd y1 (by decide)
    · rcases h2 with h2 | h2 | h2 <;> (rw [h, h2] at y2; exact absurd y2 (by decide))
    · rcases h2 with h2 | h2 <;> (rw [h, h2] at y2; exact absurd y2 (by decide))
    · omega
    · omega
  · rw [← Bool.not_eq_true]
    intro z
    have y := q.2 _ (List.contains_iff_mem.mp z)
    rw [Bool.and_eq_true, Bool.and_eq_true, Bool.and_eq_true] at y
    have y1 : c ≠ 3 := fun e => by rw [e] at y; exact absurd y.1.1.1 (by decide)
    have y2 : c ≠ 4 := fun e => by rw [e] at y; exact absurd y.1.1.2 (by decide)
    have y3 : c ≠ 5 := fun e => by rw [e] at y; exact absurd y.1.2 (by decide)
    have y4 := of_decide_eq_true y.2
    omega
theorem kmQ.be {fs : List (Nat × Nat)} {cs : List Nat} {V W : Vf} (a : agr fs cs V W) (q : kmQ fs cs = true) {c k : Nat} (h1 : 41 ≤ c) (h2 : c ≤ 66) (h3 : c ≠ 44) : W c k = V c k := a c k (kmQ_k q (by omega))
theorem BKc.mv {V W : Vf} {b : Nat} {s : St} (h : BKc V b (s, vS V b)) (e : ∀ c k, 41 ≤ c → c ≤ 66 → c ≠ 44 → W c k = V c k) : BKc W b (s, vS W b) := by
  have ev : vS W b = vS V b := funext fun i => e 46 _ (by decide) (by decide) (by decide)
  rw [ev]
  exact h.b4 e
def kmR (fs : List (Nat × Nat)) (cs : List Nat) : Bool := bkQ fs cs && mvQ fs cs && rjQ fs cs && fs.all (fun y => !(([(0, 54), (0, 55), (0, 71), (0, 72)] : List (Nat × Nat)).contains y)) && cs.all (fun c => c != 0)
theorem kmR_k {fs : List (Nat × Nat)} {cs : List Nat} (q : kmR fs cs = true) : bkQ fs cs = true ∧ mvQ fs cs = true ∧ rjQ fs cs = true ∧ ∀ k, ([(0, 54), (0, 55), (0, 71), (0, 72)] : List (Nat × Nat)).contains (0, k) = true → wrL fs cs 0 k = false := by
  unfold kmR at q
  rw [Bool.and_eq_true, Bool.and_eq_true, Bool.and_eq_true, Bool.and_eq_true, List.all_eq_true, List.all_eq_true] at q
  refine ⟨q.1.1.1.1, q.1.1.1.2, q.1.1.2, fun k hk => ?_⟩
  unfold wrL
  rw [Bool.or_eq_false_iff]
  refine ⟨?_, ?_⟩
  · rw [← Bool.not_eq_true]
    intro z
    have y := q.1.2 _ (List.contains_iff_mem.mp z)
    rw [hk] at y
    exact absurd y (by decide)
  · rw [← Bool.not_eq_true]
    intro z
    exact absurd (q.2 _ (List.contains_iff_mem.mp z)) (by decide)
section KMs
variable {V W Vm Wm : Vf} {b : Nat} {s : St} {fs fs2 : List (Nat × Nat)} {cs cs2 : List Nat}
theorem KMB.mv (h : KMB V b Vm s) (a : agr fs cs V W) (q : kmQ fs cs = true) (am : agr fs2 cs2 Vm Wm) (qm : kmR fs2 cs2 = true) : KMB W b Wm s := by
  obtain ⟨h1, h2, h3, ⟨ow, h4⟩, h5, ⟨h6, h7⟩, ⟨h8, h9, h10⟩, h11⟩ := h
  obtain ⟨m1, m2, m3, m4⟩ := kmR_k qm
  have e : ∀ c k, 41 ≤ c → c ≤ 66 → c ≠ 44 → W c k = V c k := fun c k a1 a2 a3 => kmQ.be a q a1 a2 a3
  have ev : vS W b = vS V b := funext fun i => e 46 _ (by decide) (by decide) (by decide)
  have em : mV Wm 0 0 0 = mV Vm 0 0 0 := mV_ag am m2
  have e54 : Wm 0 54 = Vm 0 54 := am 0 54 (m4 54 rfl)
  have e55 : Wm 0 55 = Vm 0 55 := am 0 55 (m4 55 rfl)
  have eT : Wm 0 71 = Vm 0 71 := am 0 71 (m4 71 rfl)
  have eK : Wm 0 72 = Vm 0 72 := am 0 72 (m4 72 rfl)
  have c3 : ∀ k, W 3 k = V 3 k := fun k => a 3 k (kmQ_k q (by omega))
  refine ⟨h1, h2.mv e, ?_, ⟨ow, ?_⟩, by rw [em, e55]; exact h5, ⟨by rw [c3, e55]; exact h6, h7.mv (c3 12) (fun i => a 21 i (kmQ_k q (by omega))) (fun i => a 22 i (kmQ_k q (by omega)))⟩, ⟨by rw [a 4 7 (kmQ_k q (by omega)), eT]; exact h8, by rw [a 4 8 (kmQ_k q (by omega)), eK]; exact h9, by rw [eT]; exact h10⟩, fun z => ?_⟩
  · rw [ev]
    exact BKm.ag h3 am m1
  · rw [ev, em]
    exact h4.mv (fun _ _ => rfl) (fun _ _ _ _ => rfl) c3 (a 4 6 (kmQ_k q (by omega))) (a 5 13 (kmQ_k q (by omega))) (a 5 14 (kmQ_k q (by omega))) (fun c k a1 a2 a3 => a c k (kmQ_k q (by omega)))
  · rw [e54] at z
    rw [ev]
    exact RJm.ag (h11 z) am m3
/-- how a get, a call ended on both sides -/
theorem EN_GE {B : Bk} {x : MS} {r rm no : Int} {n : Nat} (ed : (rnM B n x).2.2 = []) (en : ENc W (rnM B n x) r no) (ge : GEo B x Wm rm no) : r = rm ∧ ((W 4 7).toInt = (Wm 0 71).toInt ∧ (W 4 8).toInt = (Wm 0 72).toInt ∧ 0 ≤ (Wm 0 71).toInt) ∧ ∃ sg t k, (rnM B n x).1 = mV Wm sg t k := by
  obtain ⟨sg, t, k, a, ⟨n2, e2, _⟩, cs⟩ := ge
  have e := rn_end ed (show (rnM B n2 x).2.2 = [] from by rw [e2])
  rw [e2] at e
  rw [e] at en
  refine ⟨?_, ?_, sg, t, k, by rw [e]⟩
  · unfold ENc at en
    rcases en with ⟨a1, a2, a3, a4⟩ | ⟨a1, a2, a3, a4⟩ | ⟨a1, a2, a3, a4, a5⟩
    · have a1 : sg = 1 := a1
      have a2 : r = a.toInt := a2
      omega
    · have a1 : sg = 2 := a1
      omega
    · have a1 : sg ≠ 1 := a1
      have a2 : sg ≠ 2 := a2
      omega
  · unfold ENc at en
    rcases en with ⟨a1, a2, a3, a4⟩ | ⟨a1, a2, a3, a4⟩ | ⟨a1, a2, a3, a4, a5⟩
    · have a1 : sg = 1 := a1
      omega
    · have a1 : sg = 2 := a1
      have a3 : (W 4 7).toInt = t := a3
      have a4 : (W 4 8).toInt = k := a4
      omega
    · have a1 : sg ≠ 1 := a1
      have a2 : sg ≠ 2 := a2
      omega
theorem GEo.go {B : Bk} {x : MS} {rm no : Int} (ge : GEo B x Wm rm no) : GOs B x := by
  obtain ⟨sg, t, k, a, h, _⟩ := ge
  exact ⟨_, h, rfl⟩
theorem RWn.z0 {ow : Nat → Nat} {B : Bk} {sg t k : Int} (h : RWn W ow B (mV Wm sg t k)) : RWn W ow B (mV Wm 0 0 0) := by
  rw [← mZ_V (sg := sg) (t := t) (k := k)]
  exact h.z
/-- behind a get, a call -/
def kmC (fs : List (Nat × Nat)) (cs : List Nat) : Bool := fs.all (fun y => decide (y ≠ (3, 12) ∧ (y.1 < 21 ∨ y.1 = 44))) && cs.all (fun c => decide (c ≠ 3 ∧ c ≠ 21 ∧ c ≠ 22 ∧ (c < 41 ∨ 67 ≤ c)))
theorem kmC_k (q : kmC fs cs = true) {c k : Nat} (h : (c = 3 ∧ k = 12) ∨ c = 21 ∨ c = 22 ∨ (41 ≤ c ∧ c ≤ 66 ∧ c ≠ 44)) : wrL fs cs c k = false := by
  unfold kmC at q
  rw [Bool.and_eq_true, List.all_eq_true, List.all_eq_true] at q
  unfold wrL
  rw [Bool.or_eq_false_iff]
  refine ⟨?_, ?_⟩
  · rw [← Bool.not_eq_true]
    intro z
    have y := of_decide_eq_true (q.1 _ (List.contains_iff_mem.mp z))
    have y1 : c < 21 ∨ c = 44 := y.2
    rcases h with ⟨h, h2⟩ | h | h | h
    · exact y.1 (by rw [h, h2])
    · omega
    · omega
    · omega
  · rw [← Bool.not_eq_true]
    intro z
    have y := of_decide_eq_true (q.2 _ (List.contains_iff_mem.mp z))
    omega
def kmD (fs : List (Nat × Nat)) (cs : List Nat) : Bool := bkQ fs cs && fs.all (fun y => y.1 == 0 && y.2 != 55 && y.2 != 54) && cs.all (fun c => c != 0 && c != 56 && c != 57 && c != 58)
theorem kmD_k (q : kmD fs cs = true) : bkQ fs cs = true ∧ wrL fs cs 0 55 = false ∧ wrL fs cs 0 54 = false ∧ ∀ c k, c = 56 ∨ c = 57 ∨ c = 58 → wrL fs cs c k = false := by
  unfold kmD at q
  rw [Bool.and_eq_true, Bool.and_eq_true, List.all_eq_true, List.all_eq_true] at q
  have f : ∀ k, k = 55 ∨ k = 54 → wrL fs cs 0 k = false := fun k hk => by
    unfold wrL
    rw [Bool.or_eq_false_iff]
    refine ⟨?_, ?_⟩
    · rw [← Bool.not_eq_true]
      intro z
      have y := q.1.2 _ (List.contains_iff_mem.mp z)
      rw [Bool.and_eq_true, Bool.and_eq_true] at y
      rcases hk with hk | hk
      · rw [hk] at y
        exact absurd y.1.2 (by decide)
      · rw [hk] at y
        exact absurd y.2 (by decide)
    · rw [← Bool.not_eq_true]
      intro z
      have y := q.2 _ (List.contains_iff_mem.mp z)
      rw [Bool.and_eq_true, Bool.and_eq_true, Bool.and_eq_true] at y
      exact absurd y.1.1.1 (by decide)
  refine ⟨q.1.1, f 55 (Or.inl rfl), f 54 (Or.inr rfl), fun c k hc => ?_⟩
  unfold wrL
  rw [Bool.or_eq_false_iff]
  refine ⟨?_, ?_⟩
  · rw [← Bool.not_eq_true]
    intro z
    have y := q.1.2 _ (List.contains_iff_mem.mp z)
    rw [Bool.and_eq_true, Bool.and_eq_true] at y
    have y1 : c = 0 := eq_of_beq y.1.1
    omega
  · rw [← Bool.not_eq_true]
    intro z
    have y := q.2 _ (List.contains_iff_mem.mp z)
    rw [Bool.and_eq_true, Bool.and_eq_true, Bool.and_eq_true] at y
    rcases hc with hc | hc | hc
    · rw [hc] at y
      exact absurd y.1.1.2 (by decide)
    · rw [hc] at y
      exact absurd y.1.2 (by decide)
    · rw [hc] at y
      exact absurd y.2 (by decide)
theorem KMB.ran (h : KMB V b Vm s) (a : agr fs cs V W) (q : kmC fs cs = true) (am : agr fs2 cs2 Vm Wm) (qm : kmD fs2 cs2 = true) (rn : ∃ ow, RWn W ow (s, vS V b) (mV Wm 0 0 0)) (ca : (W 4 7).toInt = (Wm 0 71).toInt ∧ (W 4 8).toInt = (Wm 0 72).toInt ∧ 0 ≤ (Wm 0 71).toInt) (rj : (Wm 0 54).toInt = 1 → RJm Wm (s, vS V b)) : KMB W b Wm s := by
  obtain ⟨h1, h2, h3, _, h5, ⟨h6, h7⟩, _, _⟩ := h
  obtain ⟨m1, m2, _, m4⟩ := kmD_k qm
  have e : ∀ c k, 41 ≤ c → c ≤ 66 → c ≠ 44 → W c k = V c k := fun c k a1 a2 a3 => a c k (kmC_k q (by omega))
  have ev : vS W b = vS V b := funext fun i => e 46 _ (by decide) (by decide) (by decide)
  have e55 : Wm 0 55 = Vm 0 55 := am 0 55 m2
  refine ⟨h1, h2.mv e, by rw [ev]; exact BKm.ag h3 am m1, by rw [ev]; exact rn, by rw [e55]; exact SCm.eq h5 (fun j => congrArg Int32.toInt (am 56 j (m4 56 j (by omega)))) (fun j => congrArg Int32.toInt (am 57 j (m4 57 j (by omega)))) (fun j => congrArg Int32.toInt (am 58 j (m4 58 j (by omega)))), ⟨by rw [a 3 12 (kmC_k q (by omega)), e55]; exact h6, h7.mv (a 3 12 (kmC_k q (by omega))) (fun i => a 21 i (kmC_k q (by omega))) (fun i => a 22 i (kmC_k q (by omega)))⟩, ca, by rw [ev]; exact rj⟩
end KMs
theorem qZi.mono {D : va_G} {S : Type} {p1 p2 : Int32 → S → Prop} {w : S → va_W} {ty : S → List (ClassId × FieldType)} {c n : S → Nat} {A : Nat → Prop} {a : Array Value} {s : State} {o : Outcome} {t : State} (h : qZi D p1 w ty c n A a s o t) (f : ∀ r u, p1 r u → p2 r u) : qZi D p2 w ty c n A a s o t := by
  obtain ⟨⟨r, u, h1, h2, h3⟩, h4⟩ := h
  exact ⟨⟨r, u, h1, f r u h2, h3⟩, h4⟩


abbrev r_x_h_get10 (Z : XZ) : Room := { frames := 8, cells := zcc Z, slots := zss Z, locals := 181 }
abbrev q_x_h_get10 (D : va_G) (ks : KS) (ad : Nat → Nat) (kk : Nat → ClassId) (V : Vf) (L : Lf) (Z : XZ) (p0 : Int32) (p1 : Int32) (b : Nat) (gB : Bk) (gm : Mm) (A : Nat → Prop) : Array Value → State → Outcome → State → Prop := qZi D (fun (r : Int32) (u : Vf × Lf × XZ) => rgd bX u.1 ∧ agr [(0, 9), (3, 13), (3, 14), (3, 15), (4, 5), (4, 6), (4, 7), (4, 8), (5, 6), (5, 7), (5, 8), (5, 9), (5, 10), (5, 11), (5, 12), (5, 13), (5, 14)] [24, 25, 26, 27, 28, 29, 30, 31, 32, 33, 34, 35, 36, 37, 39, 40, 67, 68, 69, 70, 71, 72, 73, 74, 75, 76, 77, 78, 79, 80, 81, 82, 83, 84, 85] V u.1 ∧ u.2.1 = L ∧ ZL Z u.2.2 ∧ (HI u.1 u.2.2 b) ∧ (((V 0 8).toInt = 1 ∧ (0 ≤ p0.toInt ∧ p0.toInt < (V 3 12).toInt ∧ (V 23 (Int32.toNatClampNeg p0)).toInt = 1) ∧ (0 ≤ p1.toInt ∧ p1.toInt < ((nC gB : Nat) : Int) ∧ thP gB.1.1 (svB gB) p1.toInt.toNat = true)) → GOs gB (mU gm 0 1 0, 0, [Froot0 0 p1.toInt p0.toInt 0]) → ∃ n, (rnM gB n (mU gm 0 1 0, 0, [Froot0 0 p1.toInt p0.toInt 0])).2.2 = [] ∧ (∃ ow, RWn u.1 ow gB (rnM gB n (mU gm 0 1 0, 0, [Froot0 0 p1.toInt p0.toInt 0])).1) ∧ ENc u.1 (rnM gB n (mU gm 0 1 0, 0, [Froot0 0 p1.toInt p0.toInt 0])) r.toInt (-1)) ∧ (¬ ((V 0 8).toInt = 1 ∧ (0 ≤ p0.toInt ∧ p0.toInt < (V 3 12).toInt ∧ (V 23 (Int32.toNatClampNeg p0)).toInt = 1) ∧ (0 ≤ p1.toInt ∧ p1.toInt < ((nC gB : Nat) : Int) ∧ thP gB.1.1 (svB gB) p1.toInt.toNat = true)) → r.toInt = -1 ∧ (∃ ow, RWn u.1 ow gB (mU gm 0 1 0)) ∧ (u.1 4 7).toInt = 0 ∧ (u.1 4 8).toInt = 0)) (fun u => xw ad kk u.1 u.2.1 u.2.2) (fun u => xty kk u.2.2) (fun u => zcc Z - zcc u.2.2) (fun u => zss Z - zss u.2.2) A
theorem x_h_get10 (l : Launch) (D : va_G) (ks : KS) (sz : Nat) (ad : Nat → Nat) (kk : Nat → ClassId) (V : Vf) (L : Lf) (Z : XZ) (p0 : Int32) (p1 : Int32) (b : Nat) (gB : Bk) (gm : Mm) (hMV : rgd bX V) (hb2 : b < 2) (shk : (V 0 6).toInt = (b : Int)) (hi : HI V Z b) (rnq : ∃ ow, RWn V ow gB gm) (bc : BKc V b gB) (g46 : gm 0 4 = 0 ∧ gm 0 6 = 0) (wfq : (V 0 8).toInt = 1 → WFB gB) : Met l yX11_get (Cond.code yX11_get cX11_get 3 (some .int) :: GW) (r_x_h_get10 Z) (va_Pc [.ref (ad 0), .int p0, .int p1] (gp D ks (xw ad kk V L Z) (xty kk Z) sz)) (q_x_h_get10 D ks ad kk V L Z p0 p1 b gB gm (va_A (xw ad kk V L Z) sz)) (zcc Z) (zss Z) (va_A (xw ad kk V L Z) sz) := by
  by_cases g : ((V 0 8).toInt = 1 ∧ (0 ≤ p0.toInt ∧ p0.toInt < (V 3 12).toInt ∧ (V 23 (Int32.toNatClampNeg p0)).toInt = 1) ∧ (0 ≤ p1.toInt ∧ p1.toInt < ((nC gB : Nat) : Int) ∧ thP gB.1.1 (svB gB) p1.toInt.toNat = true)) → GOs gB (mU gm 0 1 0, 0, [Froot0 0 p1.toInt p0.toInt 0])
  · exact Met.mono (x_h_get9 l D ks sz ad kk V L Z p0 p1 b gB gm hMV hb2 shk hi rnq bc g46 wfq g) (fun a s o t q => qZi.mono q (fun r u h9 => ⟨h9.1, h9.2.1, h9.2.2.1, h9.2.2.2.1, h9.2.2.2.2.1, fun c9 _ => h9.2.2.2.2.2.1 c9, h9.2.2.2.2.2.2⟩))
  · exact Met.mono (x_h_get l D ks sz ad kk V L Z p0 p1 b hMV hb2 shk hi) (fun a s o t q => qZi.mono q (fun r u h9 => ⟨h9.1, h9.2.1, h9.2.2.1, h9.2.2.2.1, h9.2.2.2.2, fun c9 g9 => absurd (fun _ => g9) g, fun n9 => absurd (fun c9 => absurd c9 n9) g⟩))

abbrev r_x_h_call10 (Z : XZ) : Room := { frames := 8, cells := zcc Z, slots := zss Z, locals := 181 }
abbrev q_x_h_call10 (D : va_G) (ks : KS) (ad : Nat → Nat) (kk : Nat → ClassId) (V : Vf) (L : Lf) (Z : XZ) (p0 : Int32) (p1 : Int32) (p2 : Int32) (p3 : Int32) (b : Nat) (gB : Bk) (gm : Mm) (A : Nat → Prop) : Array Value → State → Outcome → State → Prop := qZi D (fun (r : Int32) (u : Vf × Lf × XZ) => rgd bX u.1 ∧ agr [(0, 9), (3, 13), (3, 14), (3, 15), (4, 5), (4, 6), (4, 7), (4, 8), (4, 9), (5, 6), (5, 7), (5, 8), (5, 9), (5, 10), (5, 11), (5, 12), (5, 13), (5, 14)] [24, 25, 26, 27, 28, 29, 30, 31, 32, 33, 34, 35, 36, 37, 39, 40, 67, 68, 69, 70, 71, 72, 73, 74, 75, 76, 77, 78, 79, 80, 81, 82, 83, 84, 85] V u.1 ∧ u.2.1 = L ∧ ZL Z u.2.2 ∧ (HI u.1 u.2.2 b) ∧ (((0 ≤ p0.toInt ∧ p0.toInt < (V 3 12).toInt ∧ (V 23 (Int32.toNatClampNeg p0)).toInt = 1) ∧ (0 ≤ p1.toInt ∧ p1.toInt < (V 3 13).toInt ∧ (V 28 (Int32.toNatClampNeg p1)).toInt = 1) ∧ 0 ≤ p2.toInt ∧ p2.toInt < (V 43 (5 * b + 3)).toInt) → GOs gB (mU gm 0 1 0, 0, [Fcall0 1 p1.toInt (gm 1 p1.toInt.toNat) p0.toInt p2.toInt p3]) → ∃ n, (rnM gB n (mU gm 0 1 0, 0, [Fcall0 1 p1.toInt (gm 1 p1.toInt.toNat) p0.toInt p2.toInt p3])).2.2 = [] ∧ (∃ ow, RWn u.1 ow gB (rnM gB n (mU gm 0 1 0, 0, [Fcall0 1 p1.toInt (gm 1 p1.toInt.toNat) p0.toInt p2.toInt p3])).1) ∧ ENc u.1 (rnM gB n (mU gm 0 1 0, 0, [Fcall0 1 p1.toInt (gm 1 p1.toInt.toNat) p0.toInt p2.toInt p3])) r.toInt (0)) ∧ (¬ ((0 ≤ p0.toInt ∧ p0.toInt < (V 3 12).toInt ∧ (V 23 (Int32.toNatClampNeg p0)).toInt = 1) ∧ (0 ≤ p1.toInt ∧ p1.toInt < (V 3 13).toInt ∧ (V 28 (Int32.toNatClampNeg p1)).toInt = 1) ∧ 0 ≤ p2.toInt ∧ p2.toInt < (V 43 (5 * b + 3)).toInt) → r.toInt = 0 ∧ (∃ ow, RWn u.1 ow gB (mU gm 0 1 0)) ∧ (u.1 4 7).toInt = 0 ∧ (u.1 4 8).toInt = 0)) (fun u => xw ad kk u.1 u.2.1 u.2.2) (fun u => xty kk u.2.2) (fun u => zcc Z - zcc u.2.2) (fun u => zss Z - zss u.2.2) A
theorem x_h_call10 (l : Launch) (D : va_G) (ks : KS) (sz : Nat) (ad : Nat → Nat) (kk : Nat → ClassId) (V : Vf) (L : Lf) (Z : XZ) (p0 : Int32) (p1 : Int32) (p2 : Int32) (p3 : Int32) (b : Nat) (gB : Bk) (gm : Mm) (hMV : rgd bX V) (hb2 : b < 2) (shk : (V 0 6).toInt = (b : Int)) (hi : HI V Z b) (rnq : ∃ ow, RWn V ow gB gm) (bc : BKc V b gB) (g46 : gm 0 4 = 0 ∧ gm 0 6 = 0) (wfo : 0 < (V 3 13).toInt → WFB gB) : Met l yX11_call (Cond.code yX11_call cX11_call 5 (some .int) :: GW) (r_x_h_call10 Z) (va_Pc [.ref (ad 0), .int p0, .int p1, .int p2, .int p3] (gp D ks (xw ad kk V L Z) (xty kk Z) sz)) (q_x_h_call10 D ks ad kk V L Z p0 p1 p2 p3 b gB gm (va_A (xw ad kk V L Z) sz)) (zcc Z) (zss Z) (va_A (xw ad kk V L Z) sz) := by
  by_cases g : ((0 ≤ p0.toInt ∧ p0.toInt < (V 3 12).toInt ∧ (V 23 (Int32.toNatClampNeg p0)).toInt = 1) ∧ (0 ≤ p1.toInt ∧ p1.toInt < (V 3 13).toInt ∧ (V 28 (Int32.toNatClampNeg p1)).toInt = 1) ∧ 0 ≤ p2.toInt ∧ p2.toInt < (V 43 (5 * b + 3)).toInt) → GOs gB (mU gm 0 1 0, 0, [Fcall0 1 p1.toInt (gm 1 p1.toInt.toNat) p0.toInt p2.toInt p3])
  · exact Met.mono (x_h_call9 l D ks sz ad kk V L Z p0 p1 p2 p3 b gB gm hMV hb2 shk hi rnq bc g46 wfo g) (fun a s o t q => qZi.mono q (fun r u h9 => ⟨h9.1, h9.2.1, h9.2.2.1, h9.2.2.2.1, h9.2.2.2.2.1, fun c9 _ => h9.2.2.2.2.2.1 c9, h9.2.2.2.2.2.2⟩))
  · exact Met.mono (x_h_call l D ks sz ad kk V L Z p0 p1 p2 p3 b hMV hb2 shk hi) (fun a s o t q => qZi.mono q (fun r u h9 => ⟨h9.1, h9.2.1, h9.2.2.1, h9.2.2.2.1, h9.2.2.2.2, fun c9 g9 => absurd (fun _ => g9) g, fun n9 => absurd (fun c9 => absurd c9 n9) g⟩))

abbrev r_x_h_close10 (Z : XZ) : Room := { frames := 8, cells := zcc Z, slots := zss Z, locals := 181 }
abbrev q_x_h_close10 (D : va_G) (ks : KS) (ad : Nat → Nat) (kk : Nat → ClassId) (V : Vf) (L : Lf) (Z : XZ) (p0 : Int32) (b : Nat) (gB : Bk) (gm : Mm) (A : Nat → Prop) : Array Value → State → Outcome → State → Prop := qZi D (fun (r : Int32) (u : Vf × Lf × XZ) => rgd bX u.1 ∧ agr [(0, 9), (3, 13), (3, 14), (3, 15), (4, 5), (4, 6), (5, 6), (5, 7), (5, 8), (5, 9), (5, 10), (5, 11), (5, 12), (5, 13), (5, 14), (44, 0)] [23, 24, 25, 26, 27, 28, 29, 30, 31, 32, 33, 34, 35, 36, 37, 39, 40, 67, 68, 69, 70, 71, 72, 73, 74, 75, 76, 77, 78, 79, 80, 81, 82, 83, 84, 85] V u.1 ∧ u.2.1 = L ∧ ZL Z u.2.2 ∧ (HI u.1 u.2.2 b) ∧ ((u.1 44 0).toInt ≤ (V 44 0).toInt + 340) ∧ ((0 ≤ p0.toInt ∧ p0.toInt < (V 3 12).toInt ∧ (V 23 (Int32.toNatClampNeg p0)).toInt = 1) → ∀ (gj : Nat) (gy : CS), CLs gB (V 3 12).toInt.toNat p0.toInt gj (mU gm 0 1 0, 0, 0) gy → gj ≤ 340 → gy.1 11 p0.toInt.toNat = 0 → (∃ ow, RWn u.1 ow gB (mU gy.1 11 0 1)) ∧ ((gy.2.1 = 0 ∧ r.toInt = gy.2.2) ∨ (gy.2.1 ≠ 0 ∧ r.toInt = -1))) ∧ (¬ (0 ≤ p0.toInt ∧ p0.toInt < (V 3 12).toInt ∧ (V 23 (Int32.toNatClampNeg p0)).toInt = 1) → r.toInt = -1 ∧ (∃ ow, RWn u.1 ow gB (mU gm 0 1 0))) ∧ ((u.1 4 7).toInt = (V 4 7).toInt ∧ (u.1 4 8).toInt = (V 4 8).toInt)) (fun u => xw ad kk u.1 u.2.1 u.2.2) (fun u => xty kk u.2.2) (fun u => zcc Z - zcc u.2.2) (fun u => zss Z - zss u.2.2) A
theorem x_h_close10 (l : Launch) (D : va_G) (ks : KS) (sz : Nat) (ad : Nat → Nat) (kk : Nat → ClassId) (V : Vf) (L : Lf) (Z : XZ) (p0 : Int32) (b : Nat) (gB : Bk) (gm : Mm) (hMV : rgd bX V) (hb2 : b < 2) (shk : (V 0 6).toInt = (b : Int)) (hi : HI V Z b) (h44 : (V 44 0).toInt + 340 ≤ 250000) (rnq : ∃ ow, RWn V ow gB gm) (bc : BKc V b gB) (g46 : gm 0 4 = 0 ∧ gm 0 6 = 0) (wfo : 0 < (V 3 13).toInt → WFB gB) (dzq : dzC V) : Met l yX11_close (Cond.code yX11_close cX11_close 7 (some .int) :: GW) (r_x_h_close10 Z) (va_Pc [.ref (ad 0), .int p0] (gp D ks (xw ad kk V L Z) (xty kk Z) sz)) (q_x_h_close10 D ks ad kk V L Z p0 b gB gm (va_A (xw ad kk V L Z) sz)) (zcc Z) (zss Z) (va_A (xw ad kk V L Z) sz) := by
  by_cases c : 0 ≤ p0.toInt ∧ p0.toInt < (V 3 12).toInt ∧ (V 23 (Int32.toNatClampNeg p0)).toInt = 1
  · by_cases g : ∃ gj gy, CLs gB (V 3 12).toInt.toNat p0.toInt gj (mU gm 0 1 0, 0, 0) gy ∧ gj ≤ 340 ∧ gy.1 11 p0.toInt.toNat = 0
    · obtain ⟨gj0, gy0, c1, c2, c3⟩ := g
      exact Met.mono (x_h_close9 l D ks sz ad kk V L Z p0 b gB gm gy0 gj0 hMV hb2 shk hi h44 rnq bc g46 wfo dzq (fun _ => ⟨c1, c2, c3⟩)) (fun a s o t q => qZi.mono q (fun r u h9 => ⟨h9.1, h9.2.1, h9.2.2.1, h9.2.2.2.1, h9.2.2.2.2.1, h9.2.2.2.2.2.1, fun c9 gj gy d1 d2 d3 => (by rw [CLs.uq gj gj0 _ gy gy0 d1 c1 d3 c3]; exact h9.2.2.2.2.2.2.1 c9), h9.2.2.2.2.2.2.2⟩))
    · exact Met.mono (x_h_close l D ks sz ad kk V L Z p0 b hMV hb2 shk hi h44) (fun a s o t q => qZi.mono q (fun r u h9 => ⟨h9.1, h9.2.1, h9.2.2.1, h9.2.2.2.1, h9.2.2.2.2.1, h9.2.2.2.2.2, fun c9 gj gy d1 d2 d3 => absurd ⟨gj, gy, d1, d2, d3⟩ g, fun n9 => absurd c n9, ⟨congrArg Int32.toInt (h9.2.1 4 7 rfl), congrArg Int32.toInt (h9.2.1 4 8 rfl)⟩⟩))
  · exact Met.mono (x_h_close9 l D ks sz ad kk V L Z p0 b gB gm (gm, 0, 0) 0 hMV hb2 shk hi h44 rnq bc g46 wfo dzq (fun h => absurd h c)) (fun a s o t q => qZi.mono q (fun r u h9 => ⟨h9.1, h9.2.1, h9.2.2.1, h9.2.2.2.1, h9.2.2.2.2.1, h9.2.2.2.2.2.1, fun c9 => absurd c9 c, h9.2.2.2.2.2.2.2⟩))
end
section
/-! the two sides, call by call -/
section KM2
variable {V W Vm Wm : Vf} {b : Nat} {s : St} {fs fs2 : List (Nat × Nat)} {cs cs2 : List Nat} {p0 p1 p2 p3 : Int32} {r rm : Int}
theorem KMB.op (h : KMB V b Vm s) : (0 ≤ p0.toInt ∧ p0.toInt < (V 3 12).toInt ∧ (V 23 (Int32.toNatClampNeg p0)).toInt = 1) ↔ (0 ≤ p0.toInt ∧ p0.toInt < (Vm 0 55).toInt ∧ (Vm 56 (Int32.toNatClampNeg p0)).toInt = 1) := by
  obtain ⟨_, _, _, ⟨ow, rn⟩, _, ⟨h6, _⟩, _, _⟩ := h
  have f : 0 ≤ p0.toInt → p0.toInt < (V 3 12).toInt → (V 23 (Int32.toNatClampNeg p0)).toInt = (Vm 56 (Int32.toNatClampNeg p0)).toInt := fun a1 a2 => by
    have k := i_clamp (x := p0) rfl a1
    exact (rn.2.2.2.1.2.2 (Int32.toNatClampNeg p0) (by omega)).1
  constructor
  · intro z
    exact ⟨z.1, by rw [← h6]; exact z.2.1, (f z.1 z.2.1).symm.trans z.2.2⟩
  · intro z
    have z2 : p0.toInt < (V 3 12).toInt := by rw [h6]; exact z.2.1
    exact ⟨z.1, z2, (f z.1 z2).trans z.2.2⟩
theorem KMB.there (h : KMB V b Vm s) : (0 ≤ p1.toInt ∧ p1.toInt < ((nC (s, vS V b) : Nat) : Int) ∧ thP s.1 (svB (s, vS V b)) p1.toInt.toNat = true) ↔ (0 ≤ p1.toInt ∧ th Vm (Int32.toNatClampNeg p1)) := by
  obtain ⟨h1, _, h3, _, _, _, _, _⟩ := h
  have wh : WHs (s, vS V b).1 := h1.2.2.2.1
  have ln := h1.2.2.2.2.2.2.1
  constructor
  · intro z
    exact ⟨z.1, BKm.thR h3 wh ln (show p1.toInt.toNat < nC (s, vS V b) by have := z.1; have := z.2.1; omega) z.2.2⟩
  · intro z
    have y := BKm.thI h3 wh ln z.2
    have y1 : p1.toInt.toNat < nC (s, vS V b) := y.1
    exact ⟨z.1, by have := z.1; omega, y.2⟩
theorem KMB.get (h : KMB V b Vm s) (rd : (V 0 8).toInt = (Vm 0 54).toInt)
    (c1 : ((V 0 8).toInt = 1 ∧ (0 ≤ p0.toInt ∧ p0.toInt < (V 3 12).toInt ∧ (V 23 (Int32.toNatClampNeg p0)).toInt = 1) ∧ (0 ≤ p1.toInt ∧ p1.toInt < ((nC (s, vS V b) : Nat) : Int) ∧ thP s.1 (svB (s, vS V b)) p1.toInt.toNat = true)) → GOs (s, vS V b) (mU (mV Vm 0 0 0) 0 1 0, 0, [Froot0 0 p1.toInt p0.toInt 0]) → ∃ n, (rnM (s, vS V b) n (mU (mV Vm 0 0 0) 0 1 0, 0, [Froot0 0 p1.toInt p0.toInt 0])).2.2 = [] ∧ (∃ ow, RWn W ow (s, vS V b) (rnM (s, vS V b) n (mU (mV Vm 0 0 0) 0 1 0, 0, [Froot0 0 p1.toInt p0.toInt 0])).1) ∧ ENc W (rnM (s, vS V b) n (mU (mV Vm 0 0 0) 0 1 0, 0, [Froot0 0 p1.toInt p0.toInt 0])) r (-1))
    (c2 : ¬ ((V 0 8).toInt = 1 ∧ (0 ≤ p0.toInt ∧ p0.toInt < (V 3 12).toInt ∧ (V 23 (Int32.toNatClampNeg p0)).toInt = 1) ∧ (0 ≤ p1.toInt ∧ p1.toInt < ((nC (s, vS V b) : Nat) : Int) ∧ thP s.1 (svB (s, vS V b)) p1.toInt.toNat = true)) → r = -1 ∧ (∃ ow, RWn W ow (s, vS V b) (mU (mV Vm 0 0 0) 0 1 0)) ∧ (W 4 7).toInt = 0 ∧ (W 4 8).toInt = 0)
    (r1 : ((Vm 0 54).toInt = 1 ∧ (0 ≤ p0.toInt ∧ p0.toInt < (Vm 0 55).toInt ∧ (Vm 56 (Int32.toNatClampNeg p0)).toInt = 1) ∧ (0 ≤ p1.toInt ∧ th Vm (Int32.toNatClampNeg p1))) → GEo (s, vS V b) (mU (mV Vm 0 0 0) 0 1 0, 0, [Froot0 0 p1.toInt p0.toInt 0]) Wm rm (-1))
    (r2 : ¬ ((Vm 0 54).toInt = 1 ∧ (0 ≤ p0.toInt ∧ p0.toInt < (Vm 0 55).toInt ∧ (Vm 56 (Int32.toNatClampNeg p0)).toInt = 1) ∧ (0 ≤ p1.toInt ∧ th Vm (Int32.toNatClampNeg p1))) → rm = -1 ∧ mV Wm 0 0 0 = mU (mV Vm 0 0 0) 0 1 0 ∧ (Wm 0 71).toInt = 0 ∧ (Wm 0 72).toInt = 0)
    (rj : (Wm 0 54).toInt = 1 → RJm Wm (s, vS V b)) (a : agr fs cs V W) (q : kmC fs cs = true) (am : agr fs2 cs2 Vm Wm) (qm : kmD fs2 cs2 = true) : r = rm ∧ KMB W b Wm s := by
  have o := KMB.op (p0 := p0) h
  have t := KMB.there (p1 := p1) h
  rw [rd, o, t] at c1 c2
  by_cases c : (Vm 0 54).toInt = 1 ∧ (0 ≤ p0.toInt ∧ p0.toInt < (Vm 0 55).toInt ∧ (Vm 56 (Int32.toNatClampNeg p0)).toInt = 1) ∧ (0 ≤ p1.toInt ∧ th Vm (Int32.toNatClampNeg p1))
  · have ge := r1 c
    obtain ⟨n, ed, ⟨ow, rn⟩, en⟩ := c1 c ge.go
    obtain ⟨z1, z2, sg, t9, k9, em⟩ := EN_GE ed en ge
    rw [em] at rn
    exact ⟨z1, KMB.ran h a q am qm ⟨ow, rn.z0⟩ z2 rj⟩
  · obtain ⟨x1, x2, x3, x4⟩ := r2 c
    obtain ⟨y1, y2, y3, y4⟩ := c2 c
    exact ⟨by rw [x1, y1], KMB.ran h a q am qm (by rw [x2]; exact y2) ⟨by omega, by omega, by omega⟩ rj⟩
theorem KMB.call (h : KMB V b Vm s) (rd : 0 < (Vm 0 60).toInt → (Vm 0 54).toInt = 1) (mt : (V 43 (5 * b + 3)).toInt = (Vm 35 (nwh Vm)).toInt)
    (c1 : ((0 ≤ p0.toInt ∧ p0.toInt < (V 3 12).toInt ∧ (V 23 (Int32.toNatClampNeg p0)).toInt = 1) ∧ (0 ≤ p1.toInt ∧ p1.toInt < (V 3 13).toInt ∧ (V 28 (Int32.toNatClampNeg p1)).toInt = 1) ∧ 0 ≤ p2.toInt ∧ p2.toInt < (V 43 (5 * b + 3)).toInt) → GOs (s, vS V b) (mU (mV Vm 0 0 0) 0 1 0, 0, [Fcall0 1 p1.toInt (mV Vm 0 0 0 1 p1.toInt.toNat) p0.toInt p2.toInt p3]) → ∃ n, (rnM (s, vS V b) n (mU (mV Vm 0 0 0) 0 1 0, 0, [Fcall0 1 p1.toInt (mV Vm 0 0 0 1 p1.toInt.toNat) p0.toInt p2.toInt p3])).2.2 = [] ∧ (∃ ow, RWn W ow (s, vS V b) (rnM (s, vS V b) n (mU (mV Vm 0 0 0) 0 1 0, 0, [Fcall0 1 p1.toInt (mV Vm 0 0 0 1 p1.toInt.toNat) p0.toInt p2.toInt p3])).1) ∧ ENc W (rnM (s, vS V b) n (mU (mV Vm 0 0 0) 0 1 0, 0, [Fcall0 1 p1.toInt (mV Vm 0 0 0 1 p1.toInt.toNat) p0.toInt p2.toInt p3])) r 0)
    (c2 : ¬ ((0 ≤ p0.toInt ∧ p0.toInt < (V 3 12).toInt ∧ (V 23 (Int32.toNatClampNeg p0)).toInt = 1) ∧ (0 ≤ p1.toInt ∧ p1.toInt < (V 3 13).toInt ∧ (V 28 (Int32.toNatClampNeg p1)).toInt = 1) ∧ 0 ≤ p2.toInt ∧ p2.toInt < (V 43 (5 * b + 3)).toInt) → r = 0 ∧ (∃ ow, RWn W ow (s, vS V b) (mU (mV Vm 0 0 0) 0 1 0)) ∧ (W 4 7).toInt = 0 ∧ (W 4 8).toInt = 0)
    (r1 : ((Vm 0 54).toInt = 1 ∧ (0 ≤ p0.toInt ∧ p0.toInt < (Vm 0 55).toInt ∧ (Vm 56 (Int32.toNatClampNeg p0)).toInt = 1) ∧ ((0 ≤ p1.toInt ∧ p1.toInt < (Vm 0 60).toInt ∧ (Vm 63 (Int32.toNatClampNeg p1)).toInt = 1) ∧ 0 ≤ p2.toInt ∧ p2.toInt < (Vm 35 (nwh Vm)).toInt)) → GEo (s, vS V b) (mU (mV Vm 0 0 0) 0 1 0, 0, [Fcall0 1 p1.toInt (Vm 61 (Int32.toNatClampNeg p1)).toInt p0.toInt p2.toInt p3]) Wm rm 0)
    (r2 : ¬ ((Vm 0 54).toInt = 1 ∧ (0 ≤ p0.toInt ∧ p0.toInt < (Vm 0 55).toInt ∧ (Vm 56 (Int32.toNatClampNeg p0)).toInt = 1) ∧ ((0 ≤ p1.toInt ∧ p1.toInt < (Vm 0 60).toInt ∧ (Vm 63 (Int32.toNatClampNeg p1)).toInt = 1) ∧ 0 ≤ p2.toInt ∧ p2.toInt < (Vm 35 (nwh Vm)).toInt)) → rm = 0 ∧ mV Wm 0 0 0 = mU (mV Vm 0 0 0) 0 1 0 ∧ (Wm 0 71).toInt = 0 ∧ (Wm 0 72).toInt = 0)
    (rj : (Wm 0 54).toInt = 1 → RJm Wm (s, vS V b)) (a : agr fs cs V W) (q : kmC fs cs = true) (am : agr fs2 cs2 Vm Wm) (qm : kmD fs2 cs2 = true) : r = rm ∧ KMB W b Wm s := by
  have o := KMB.op (p0 := p0) h
  obtain ⟨ow0, rn0⟩ := h.2.2.2.1
  have e13 : (V 3 13).toInt = (Vm 0 60).toInt := rn0.1.1.2.2.1
  have md : 0 ≤ p1.toInt → p1.toInt < (V 3 13).toInt → (V 28 (Int32.toNatClampNeg p1)).toInt = (Vm 63 (Int32.toNatClampNeg p1)).toInt := fun a1 a2 => by
    have k := i_clamp (x := p1) rfl a1
    exact (rn0.2.1 (Int32.toNatClampNeg p1) (show ((Int32.toNatClampNeg p1 : Nat) : Int) < (Vm 0 60).toInt by omega)).1.2.2
  by_cases c : (Vm 0 54).toInt = 1 ∧ (0 ≤ p0.toInt ∧ p0.toInt < (Vm 0 55).toInt ∧ (Vm 56 (Int32.toNatClampNeg p0)).toInt = 1) ∧ ((0 ≤ p1.toInt ∧ p1.toInt < (Vm 0 60).toInt ∧ (Vm 63 (Int32.toNatClampNeg p1)).toInt = 1) ∧ 0 ≤ p2.toInt ∧ p2.toInt < (Vm 35 (nwh Vm)).toInt)
  · have ge := r1 c
    have cc : (0 ≤ p0.toInt ∧ p0.toInt < (V 3 12).toInt ∧ (V 23 (Int32.toNatClampNeg p0)).toInt = 1) ∧ (0 ≤ p1.toInt ∧ p1.toInt < (V 3 13).toInt ∧ (V 28 (Int32.toNatClampNeg p1)).toInt = 1) ∧ 0 ≤ p2.toInt ∧ p2.toInt < (V 43 (5 * b + 3)).toInt := ⟨o.mpr c.2.1, ⟨c.2.2.1.1, by rw [e13]; exact c.2.2.1.2.1, (md c.2.2.1.1 (by rw [e13]; exact c.2.2.1.2.1)).trans c.2.2.1.2.2⟩, c.2.2.2.1, by rw [mt]; exact c.2.2.2.2⟩
    obtain ⟨n, ed, ⟨ow, rn⟩, en⟩ := c1 cc ge.go
    obtain ⟨z1, z2, sg, t9, k9, em⟩ := EN_GE ed en ge
    rw [em] at rn
    exact ⟨z1, KMB.ran h a q am qm ⟨ow, rn.z0⟩ z2 rj⟩
  · obtain ⟨x1, x2, x3, x4⟩ := r2 c
    obtain ⟨y1, y2, y3, y4⟩ := c2 (fun cc => c ⟨rd (by have := cc.2.1.1; have := cc.2.1.2.1; omega), o.mp cc.1, ⟨cc.2.1.1, by rw [← e13]; exact cc.2.1.2.1, (md cc.2.1.1 cc.2.1.2.1).symm.trans cc.2.1.2.2⟩, cc.2.2.1, by rw [← mt]; exact cc.2.2.2⟩)
    exact ⟨by rw [x1, y1], KMB.ran h a q am qm (by rw [x2]; exact y2) ⟨by omega, by omega, by omega⟩ rj⟩
theorem ym_1 {x : Nat} (w : (Wm 56 0).toInt = 1) : mU (ymW Wm x) 11 0 1 = mV Wm 0 0 0 := by
  funext c j
  by_cases e : c = 11 ∧ j = 0
  · rw [e.1, e.2, mU_s]
    exact w.symm
  · rw [mU_o _ _ e]
    unfold ymW
    split
    · rw [mU_o _ _ e]
    · rfl
theorem KMB.close (h : KMB V b Vm s)
    (c1 : (0 ≤ p0.toInt ∧ p0.toInt < (V 3 12).toInt ∧ (V 23 (Int32.toNatClampNeg p0)).toInt = 1) → ∀ (gj : Nat) (gy : CS), CLs (s, vS V b) (V 3 12).toInt.toNat p0.toInt gj (mU (mV Vm 0 0 0) 0 1 0, 0, 0) gy → gj ≤ 340 → gy.1 11 p0.toInt.toNat = 0 → (∃ ow, RWn W ow (s, vS V b) (mU gy.1 11 0 1)) ∧ ((gy.2.1 = 0 ∧ r = gy.2.2) ∨ (gy.2.1 ≠ 0 ∧ r = -1)))
    (c2 : ¬ (0 ≤ p0.toInt ∧ p0.toInt < (V 3 12).toInt ∧ (V 23 (Int32.toNatClampNeg p0)).toInt = 1) → r = -1 ∧ (∃ ow, RWn W ow (s, vS V b) (mU (mV Vm 0 0 0) 0 1 0)))
    (c3 : (W 4 7).toInt = (V 4 7).toInt ∧ (W 4 8).toInt = (V 4 8).toInt)
    (r1 : (0 ≤ p0.toInt ∧ p0.toInt < (Vm 0 55).toInt ∧ (Vm 56 (Int32.toNatClampNeg p0)).toInt = 1) → ∃ n, CLo (s, vS V b) (Vm 0 55).toInt.toNat p0.toInt (mU (mV Vm 0 0 0) 0 1 0) Wm (Wm 0 99).toInt n ∧ (((Wm 0 99).toInt = 0 ∧ rm = n) ∨ ((Wm 0 99).toInt ≠ 0 ∧ rm = -1)))
    (r2 : ¬ (0 ≤ p0.toInt ∧ p0.toInt < (Vm 0 55).toInt ∧ (Vm 56 (Int32.toNatClampNeg p0)).toInt = 1) → rm = -1 ∧ mV Wm 0 0 0 = mU (mV Vm 0 0 0) 0 1 0)
    (r3 : (Wm 0 71).toInt = (Vm 0 71).toInt ∧ (Wm 0 72).toInt = (Vm 0 72).toInt) (r4 : SCm (mV Wm 0 0 0) (Wm 0 55).toInt.toNat) (rj : (Wm 0 54).toInt = 1 → RJm Wm (s, vS V b)) (a : agr fs cs V W) (q : kmC fs cs = true) (am : agr fs2 cs2 Vm Wm) (qm : bkQ fs2 cs2 = true) (e55 : Wm 0 55 = Vm 0 55) : r = rm ∧ KMB W b Wm s := by
  have o := KMB.op (p0 := p0) h
  obtain ⟨h1, h2, h3, h4, h5, ⟨h6, h7⟩, ⟨h8, h9, h10⟩, h11⟩ := h
  have e : ∀ c k, 41 ≤ c → c ≤ 66 → c ≠ 44 → W c k = V c k := fun c k a1 a2 a3 => a c k (kmC_k q (by omega))
  have ev : vS W b = vS V b := funext fun i => e 46 _ (by decide) (by decide) (by decide)
  have fin : (∃ ow, RWn W ow (s, vS V b) (mV Wm 0 0 0)) → KMB W b Wm s := fun rn => ⟨h1, h2.mv e, by rw [ev]; exact BKm.ag h3 am qm, by rw [ev]; exact rn, r4, ⟨by rw [a 3 12 (kmC_k q (by omega)), e55]; exact h6, h7.mv (a 3 12 (kmC_k q (by omega))) (fun i => a 21 i (kmC_k q (by omega))) (fun i => a 22 i (kmC_k q (by omega)))⟩, ⟨by rw [c3.1, r3.1]; exact h8, by rw [c3.2, r3.2]; exact h9, by rw [r3.1]; exact h10⟩, by rw [ev]; exact rj⟩
  by_cases c : 0 ≤ p0.toInt ∧ p0.toInt < (Vm 0 55).toInt ∧ (Vm 56 (Int32.toNatClampNeg p0)).toInt = 1
  · obtain ⟨n, ⟨k9, l1, l2, l3⟩, l4⟩ := r1 c
    have z := c1 (o.mpr c) k9 (ymW Wm p0.toInt.toNat, (Wm 0 99).toInt, n) (by rw [h6]; exact l2) l1 l3
    obtain ⟨⟨ow, rn⟩, z2⟩ := z
    have rn : RWn W ow (s, vS V b) (mU (ymW Wm p0.toInt.toNat) 11 0 1) := rn
    rw [ym_1 r4.2.1] at rn
    have z2 : ((Wm 0 99).toInt = 0 ∧ r = n) ∨ ((Wm 0 99).toInt ≠ 0 ∧ r = -1) := z2
    exact ⟨by omega, fin ⟨ow, rn⟩⟩
  · obtain ⟨x1, x2⟩ := r2 c
    obtain ⟨y1, y2⟩ := c2 (fun z => c (o.mp z))
    exact ⟨by rw [x1, y1], fin (by rw [x2]; exact y2)⟩
end KM2
/-! scopes, settings, a check, a new BOOK: the two sides -/
section KM3
variable {V W Vm Wm : Vf} {b : Nat} {s : St} {fs fs2 : List (Nat × Nat)} {cs cs2 : List Nat} {p0 : Int32} {r rm : Int}
theorem RJm.z {B : Bk} (h0 : (Vm 0 60).toInt = 0) (f : (Vm 0 95).toInt = 0) : RJm Vm B := ⟨fun o _ ho => absurd ho (by omega), fun o _ _ ho => absurd ho (by omega), fun o ho => absurd ho (by omega), fun i hi => absurd hi (by omega)⟩
/-- a check: as KMB.mv, but who is READY may have changed -/
def kmS (fs : List (Nat × Nat)) (cs : List Nat) : Bool := bkQ fs cs && mvQ fs cs && fs.all (fun y => !(([(0, 55), (0, 71), (0, 72)] : List (Nat × Nat)).contains y)) && cs.all (fun c => c != 0)
theorem kmS_k (q : kmS fs cs = true) : bkQ fs cs = true ∧ mvQ fs cs = true ∧ ∀ k, ([(0, 55), (0, 71), (0, 72)] : List (Nat × Nat)).contains (0, k) = true → wrL fs cs 0 k = false := by
  unfold kmS at q
  rw [Bool.and_eq_true, Bool.and_eq_true, Bool.and_eq_true, List.all_eq_true, List.all_eq_true] at q
  refine ⟨q.1.1.1, q.1.1.2, fun k hk => ?_⟩
  unfold wrL
  rw [Bool.or_eq_false_iff]
  refine ⟨?_, ?_⟩
  · rw [← Bool.not_eq_true]
    intro z
    have y := q.1.2 _ (List.contains_iff_mem.mp z)
    rw [hk] at y
    exact absurd y (by decide)
  · rw [← Bool.not_eq_true]
    intro z
    exact absurd (q.2 _ (List.contains_iff_mem.mp z)) (by decide)
theorem KMB.chk (h : KMB V b Vm s) (a : agr fs cs V W) (q : kmQ fs cs = true) (am : agr fs2 cs2 Vm Wm) (qm : kmS fs2 cs2 = true) (rj : (Wm 0 54).toInt = 1 → RJm Wm (s, vS V b)) : KMB W b Wm s := by
  obtain ⟨h1, h2, h3, ⟨ow, h4⟩, h5, ⟨h6, h7⟩, ⟨h8, h9, h10⟩, _⟩ := h
  obtain ⟨m1, m2, m4⟩ := kmS_k qm
  have e : ∀ c k, 41 ≤ c → c ≤ 66 → c ≠ 44 → W c k = V c k := fun c k a1 a2 a3 => kmQ.be a q a1 a2 a3
  have ev : vS W b = vS V b := funext fun i => e 46 _ (by decide) (by decide) (by decide)
  have em : mV Wm 0 0 0 = mV Vm 0 0 0 := mV_ag am m2
  have e55 : Wm 0 55 = Vm 0 55 := am 0 55 (m4 55 rfl)
  have eT : Wm 0 71 = Vm 0 71 := am 0 71 (m4 71 rfl)
  have eK : Wm 0 72 = Vm 0 72 := am 0 72 (m4 72 rfl)
  have c3 : ∀ k, W 3 k = V 3 k := fun k => a 3 k (kmQ_k q (by omega))
  refine ⟨h1, h2.mv e, ?_, ⟨ow, ?_⟩, by rw [em, e55]; exact h5, ⟨by rw [c3, e55]; exact h6, h7.mv (c3 12) (fun i => a 21 i (kmQ_k q (by omega))) (fun i => a 22 i (kmQ_k q (by omega)))⟩, ⟨by rw [a 4 7 (kmQ_k q (by omega)), eT]; exact h8, by rw [a 4 8 (kmQ_k q (by omega)), eK]; exact h9, by rw [eT]; exact h10⟩, fun z => ?_⟩
  · rw [ev]
    exact BKm.ag h3 am m1
  · rw [ev, em]
    exact h4.mv (fun _ _ => rfl) (fun _ _ _ _ => rfl) c3 (a 4 6 (kmQ_k q (by omega))) (a 5 13 (kmQ_k q (by omega))) (a 5 14 (kmQ_k q (by omega))) (fun c k a1 a2 a3 => a c k (kmQ_k q (by omega)))
  · rw [ev]
    exact rj z
/-- a scope is opened on both sides -/
theorem KMB.opn {kd dy dy2 : Int} (h : KMB V b Vm s) (c : OPN V W kd dy) (m : OPM Vm Wm kd dy2) (k1 : kd = 2 → dy = dy2 ∧ 0 ≤ dy ∧ dy < (V 3 12).toInt) (k2 : kd = 1 ∨ (kd = 2 ∧ 0 < dy2 ∧ dy2 < (Vm 0 55).toInt ∧ (Vm 57 dy2.toNat).toInt = 1)) (k3 : (kd = 1 ∧ dy = 0) ∨ kd = 2) (am : agr fs2 cs2 Vm Wm) (q1 : mvO fs2 cs2 = true) (q2 : bkQ fs2 cs2 = true) (q3 : rjQ fs2 cs2 = true) (e54 : Wm 0 54 = Vm 0 54) (eT : Wm 0 71 = Vm 0 71) (eK : Wm 0 72 = Vm 0 72) : KMB W b Wm s := by
  obtain ⟨h1, h2, h3, ⟨ow, h4⟩, h5, ⟨h6, h7⟩, ⟨h8, h9, h10⟩, h11⟩ := h
  have n1 : 1 ≤ (V 3 12).toInt := h4.2.2.2.1.1.1.1
  have cc : ∀ x k, ¬ (x = 3 ∧ k = 12) → x ≠ 21 → x ≠ 22 → x ≠ 23 → W x k = V x k := by
    obtain ⟨n, _, _, _, _, _, c8⟩ := c
    exact c8
  have e : ∀ x k, 41 ≤ x → x ≤ 66 → x ≠ 44 → W x k = V x k := fun x k a1 a2 a3 => cc x k (by omega) (by omega) (by omega) (by omega)
  have ev : vS W b = vS V b := funext fun i => e 46 _ (by decide) (by decide) (by decide)
  have e12 : (W 3 12).toInt = (Wm 0 55).toInt := by
    obtain ⟨n, c1, _, c3, _⟩ := c
    obtain ⟨n2, r1, _, r3, _⟩ := m
    omega
  refine ⟨h1, h2.mv e, by rw [ev]; exact BKm.ag h3 am q2, ⟨ow, by rw [ev]; exact h4.opn h1.2.2.2.2.2.2.2 c m h6 k1 am q1⟩, h5.opn m (by omega) k2, ⟨e12, h7.opn c k3⟩, ⟨by rw [cc 4 7 (by omega) (by omega) (by omega) (by omega), eT]; exact h8, by rw [cc 4 8 (by omega) (by omega) (by omega) (by omega), eK]; exact h9, by rw [eT]; exact h10⟩, fun z => ?_⟩
  rw [e54] at z
  rw [ev]
  exact RJm.ag (h11 z) am q3
theorem KMB.day (h : KMB V b Vm s) (rd : (V 0 8).toInt = (Vm 0 54).toInt) (c1 : ((V 0 8).toInt = 1 ∧ (V 3 12).toInt < 40) → r = (V 3 12).toInt ∧ OPN V W 1 0) (c2 : ¬ ((V 0 8).toInt = 1 ∧ (V 3 12).toInt < 40) → r = -1 ∧ agr [] [] V W) (r1 : ((Vm 0 54).toInt = 1 ∧ (Vm 0 55).toInt < 40) → rm = (Vm 0 55).toInt ∧ OPM Vm Wm 1 (-1)) (r2 : ¬ ((Vm 0 54).toInt = 1 ∧ (Vm 0 55).toInt < 40) → rm = -1 ∧ agr [(0, 0)] [] Vm Wm) (am : agr fs2 cs2 Vm Wm) (q1 : mvO fs2 cs2 = true) (q2 : bkQ fs2 cs2 = true) (q3 : rjQ fs2 cs2 = true) (e54 : Wm 0 54 = Vm 0 54) (eT : Wm 0 71 = Vm 0 71) (eK : Wm 0 72 = Vm 0 72) : r = rm ∧ KMB W b Wm s := by
  have h6 := h.2.2.2.2.2.1.1
  by_cases c : (Vm 0 54).toInt = 1 ∧ (Vm 0 55).toInt < 40
  · obtain ⟨x1, x2⟩ := c1 ⟨by omega, by omega⟩
    obtain ⟨y1, y2⟩ := r1 c
    exact ⟨by omega, h.opn x2 y2 (fun z => absurd z (by decide)) (Or.inl rfl) (Or.inl ⟨rfl, rfl⟩) am q1 q2 q3 e54 eT eK⟩
  · obtain ⟨x1, x2⟩ := c2 (fun z => c ⟨by omega, by omega⟩)
    obtain ⟨y1, y2⟩ := r2 c
    exact ⟨by omega, h.mv x2 (by decide) y2 (by decide)⟩
theorem KMB.meal (h : KMB V b Vm s) (rd : (V 0 8).toInt = (Vm 0 54).toInt) (c1 : ((V 0 8).toInt = 1 ∧ (0 ≤ p0.toInt ∧ p0.toInt < (V 3 12).toInt ∧ (V 23 (Int32.toNatClampNeg p0)).toInt = 1) ∧ (V 21 (Int32.toNatClampNeg p0)).toInt = 1 ∧ (V 3 12).toInt < 40) → r = (V 3 12).toInt ∧ OPN V W 2 p0.toInt) (c2 : ¬ ((V 0 8).toInt = 1 ∧ (0 ≤ p0.toInt ∧ p0.toInt < (V 3 12).toInt ∧ (V 23 (Int32.toNatClampNeg p0)).toInt = 1) ∧ (V 21 (Int32.toNatClampNeg p0)).toInt = 1 ∧ (V 3 12).toInt < 40) → r = -1 ∧ agr [] [] V W) (r1 : ((Vm 0 54).toInt = 1 ∧ (0 ≤ p0.toInt ∧ p0.toInt < (Vm 0 55).toInt ∧ (Vm 56 (Int32.toNatClampNeg p0)).toInt = 1) ∧ (Vm 57 (Int32.toNatClampNeg p0)).toInt = 1 ∧ (Vm 0 55).toInt < 40) → rm = (Vm 0 55).toInt ∧ OPM Vm Wm 2 p0.toInt) (r2 : ¬ ((Vm 0 54).toInt = 1 ∧ (0 ≤ p0.toInt ∧ p0.toInt < (Vm 0 55).toInt ∧ (Vm 56 (Int32.toNatClampNeg p0)).toInt = 1) ∧ (Vm 57 (Int32.toNatClampNeg p0)).toInt = 1 ∧ (Vm 0 55).toInt < 40) → rm = -1 ∧ agr [(0, 0)] [] Vm Wm) (am : agr fs2 cs2 Vm Wm) (q1 : mvO fs2 cs2 = true) (q2 : bkQ fs2 cs2 = true) (q3 : rjQ fs2 cs2 = true) (e54 : Wm 0 54 = Vm 0 54) (eT : Wm 0 71 = Vm 0 71) (eK : Wm 0 72 = Vm 0 72) : r = rm ∧ KMB W b Wm s := by
  have o := KMB.op (p0 := p0) h
  have h6 := h.2.2.2.2.2.1.1
  obtain ⟨ow0, rn0⟩ := h.2.2.2.1
  have hs := rn0.2.2.2.1
  have n40 : (V 3 12).toInt ≤ 40 := hs.1.1.2
  have z0 : (Vm 57 0).toInt = 0 := h.2.2.2.2.1.1
  have dk : 0 ≤ p0.toInt → p0.toInt < (V 3 12).toInt → (V 21 (Int32.toNatClampNeg p0)).toInt = (Vm 57 (Int32.toNatClampNeg p0)).toInt := fun a1 a2 => by
    have k := i_clamp (x := p0) rfl a1
    exact hs.2.1 (Int32.toNatClampNeg p0) (by omega)
  by_cases c : (Vm 0 54).toInt = 1 ∧ (0 ≤ p0.toInt ∧ p0.toInt < (Vm 0 55).toInt ∧ (Vm 56 (Int32.toNatClampNeg p0)).toInt = 1) ∧ (Vm 57 (Int32.toNatClampNeg p0)).toInt = 1 ∧ (Vm 0 55).toInt < 40
  · have oc := o.mpr c.2.1
    have k := i_clamp (x := p0) rfl oc.1
    have d := dk oc.1 oc.2.1
    have c57 := c.2.2.1
    have c54 := c.1
    have c40 := c.2.2.2
    obtain ⟨x1, x2⟩ := c1 ⟨by omega, oc, by omega, by omega⟩
    obtain ⟨y1, y2⟩ := r1 c
    have p1 : 0 < p0.toInt := by
      have p2 := oc.1
      by_cases e : p0.toInt = 0
      · rw [show Int32.toNatClampNeg p0 = 0 from by omega] at c57
        omega
      · omega
    have et : p0.toInt.toNat = Int32.toNatClampNeg p0 := by omega
    exact ⟨by omega, h.opn x2 y2 (fun _ => ⟨rfl, oc.1, oc.2.1⟩) (Or.inr ⟨rfl, p1, c.2.1.2.1, by rw [et]; exact c57⟩) (Or.inr rfl) am q1 q2 q3 e54 eT eK⟩
  · obtain ⟨x1, x2⟩ := c2 (fun z => c ⟨by have := z.1; omega, o.mp z.2.1, by rw [← dk z.2.1.1 z.2.1.2.1]; exact z.2.2.1, by have := z.2.2.2; omega⟩)
    obtain ⟨y1, y2⟩ := r2 c
    exact ⟨by omega, h.mv x2 (by decide) y2 (by decide)⟩
/-- settings -/
theorem BKc.set {v : Nat → Int32} (h : BKc V b (s, v)) (e : ∀ c k, 41 ≤ c → c ≤ 66 → c ≠ 44 → c ≠ 46 → W c k = V c k) : BKc W b (s, vS W b) := by
  obtain ⟨h1, h2, ⟨h3, h4, h5⟩, ⟨h6, h7, h8⟩, _, h10, h11, h12⟩ := h
  refine ⟨⟨by rw [e 42 _ (by decide) (by decide) (by decide) (by decide)]; exact h1.1, fun i hi => ?_⟩, ⟨h2.1, fun c hc k hk => ?_, h2.2.2⟩, ⟨⟨h3.1, fun w hw => ?_⟩, by rw [e 41 _ (by decide) (by decide) (by decide) (by decide)]; exact h4, fun i hi => by rw [e 47 _ (by decide) (by decide) (by decide) (by decide)]; exact h5 i hi⟩, ⟨by rw [e 43 _ (by decide) (by decide) (by decide) (by decide)]; exact h6, h7, fun c hc => ?_⟩, fun i _ => rfl, h10, h11, h12⟩
  · have z := h1.2 i hi
    unfold CDr at z ⊢
    rw [e 48 _ (by decide) (by decide) (by decide) (by decide), e 48 _ (by decide) (by decide) (by decide) (by decide)]
    exact z
  · rw [← h2.2.1 c hc k hk]
    exact cR_e (fun _ => e 61 _ (by decide) (by decide) (by decide) (by decide)) (e 56 _ (by decide) (by decide) (by decide) (by decide)) (e 57 _ (by decide) (by decide) (by decide) (by decide))
  · have z := h3.2 w hw
    unfold WWr at z ⊢
    rw [e 62 _ (by decide) (by decide) (by decide) (by decide), e 63 _ (by decide) (by decide) (by decide) (by decide), e 64 _ (by decide) (by decide) (by decide) (by decide), e 65 _ (by decide) (by decide) (by decide) (by decide), e 66 _ (by decide) (by decide) (by decide) (by decide)]
    exact z
  · have z := h8 c hc
    unfold COr HDr at z ⊢
    rw [e 50 _ (by decide) (by decide) (by decide) (by decide), e 51 _ (by decide) (by decide) (by decide) (by decide), e 52 _ (by decide) (by decide) (by decide) (by decide), e 53 _ (by decide) (by decide) (by decide) (by decide), e 54 _ (by decide) (by decide) (by decide) (by decide), e 55 _ (by decide) (by decide) (by decide) (by decide), e 49 _ (by decide) (by decide) (by decide) (by decide)]
    refine ⟨z.1, z.2.1, z.2.2.1, fun j hj => ?_⟩
    have y := z.2.2.2 j hj
    unfold NEr at y ⊢
    rw [e 58 _ (by decide) (by decide) (by decide) (by decide), e 59 _ (by decide) (by decide) (by decide) (by decide), e 60 _ (by decide) (by decide) (by decide) (by decide)]
    exact y
theorem BKm.set {B : Bk} {v : Nat → Int32} (h : BKm Vm B) (e : ∀ c k, c ≠ 18 → ¬ (c = 0 ∧ k = 0) → Wm c k = Vm c k) (se : ∀ i, i < (B.1.2.1 1).length → Wm 18 (12 * nwh Vm + i) = v i) : BKm Wm (B.1, v) := by
  have en : nwh Wm = nwh Vm := by unfold nwh; rw [e 0 11 (by decide) (by decide)]
  have f : ∀ c k, c ≠ 18 → c ≠ 0 → Wm c k = Vm c k := fun c k h1 h2 => e c k h1 (fun z => h2 z.1)
  unfold BKm
  rw [en]
  refine ⟨fun i hi => ?_, fun c hc k hk => ?_, ⟨by rw [f 39 _ (by decide) (by decide)]; exact h.2.2.1.1, h.2.2.1.2.1, fun w hw => ?_⟩, ⟨by rw [f 19 _ (by decide) (by decide)]; exact h.2.2.2.1.1, h.2.2.2.1.2.1, fun c hc => ?_⟩, fun i hi => se i hi⟩
  · have z := h.1 i hi
    unfold CDmr at z ⊢
    rw [f 45 _ (by decide) (by decide), f 46 _ (by decide) (by decide), f 47 _ (by decide) (by decide)]
    exact z
  · have z := h.2.1 c hc k hk
    unfold cM at z ⊢
    rw [f 34 _ (by decide) (by decide), f 32 _ (by decide) (by decide), f 33 _ (by decide) (by decide)]
    exact z
  · have z := h.2.2.1.2.2 w hw
    unfold WMr at z ⊢
    rw [f 40 _ (by decide) (by decide), f 41 _ (by decide) (by decide), f 42 _ (by decide) (by decide), f 43 _ (by decide) (by decide), f 44 _ (by decide) (by decide)]
    exact z
  · have z := h.2.2.2.1.2.2 c hc
    unfold COm HDn BTm at z ⊢
    rw [f 22 _ (by decide) (by decide), f 23 _ (by decide) (by decide), f 24 _ (by decide) (by decide), f 25 _ (by decide) (by decide), f 26 _ (by decide) (by decide), f 27 _ (by decide) (by decide)]
    refine ⟨⟨fun g hg => ?_, z.1.2⟩, z.2.1, z.2.2.1, fun j hj => ?_⟩
    · rw [f 21 _ (by decide) (by decide)]
      exact z.1.1 g hg
    · have y := z.2.2.2 j hj
      unfold NEm at y ⊢
      rw [f 28 _ (by decide) (by decide), f 29 _ (by decide) (by decide), f 30 _ (by decide) (by decide), f 31 _ (by decide) (by decide)]
      exact y
theorem ag_not {L : List Nat} {c : Nat} (h : c ∉ L) : L.contains c = false := by
  rw [← Bool.not_eq_true]
  exact fun z => h (List.contains_iff_mem.mp z)
theorem KMB.set (h : KMB V b Vm s) (a : agr [] [46] V W) (am : agr [(0, 0)] [18] Vm Wm) (se : SEQ W b Wm (nwh Vm) (s.2.1 1).length) (nr : (Vm 0 54).toInt = 1 → W 46 = V 46) : KMB W b Wm s := by
  obtain ⟨h1, h2, h3, ⟨ow, h4⟩, h5, ⟨h6, h7⟩, ⟨h8, h9, h10⟩, h11⟩ := h
  have e : ∀ c k, c ≠ 46 → W c k = V c k := fun c k hc => a c k (show (([] : List (Nat × Nat)).contains (c, k) || ([46] : List Nat).contains c) = false from by rw [ag_not (L := [46]) (by rw [List.mem_singleton]; exact hc)]; rfl)
  have em : ∀ c k, c ≠ 18 → ¬ (c = 0 ∧ k = 0) → Wm c k = Vm c k := fun c k hc hk => am c k (by
    unfold wrL
    rw [ag_not (L := [18]) (by rw [List.mem_singleton]; exact hc), Bool.or_false, ← Bool.not_eq_true]
    intro z
    have y := List.contains_iff_mem.mp z
    rw [List.mem_singleton, Prod.mk.injEq] at y
    exact hk y)
  have emv : mV Wm 0 0 0 = mV Vm 0 0 0 := mV_ag am (by decide)
  refine ⟨h1, h2.set (fun c k _ _ _ hc => e c k hc), h3.set em (fun i hi => (se i hi).symm), ⟨ow, ?_⟩, by rw [emv, em 0 55 (by decide) (by decide)]; exact h5, ⟨by rw [e 3 12 (by decide), em 0 55 (by decide) (by decide)]; exact h6, h7.mv (e 3 12 (by decide)) (fun i => e 21 i (by decide)) (fun i => e 22 i (by decide))⟩, ⟨by rw [e 4 7 (by decide), em 0 71 (by decide) (by decide)]; exact h8, by rw [e 4 8 (by decide), em 0 72 (by decide) (by decide)]; exact h9, by rw [em 0 71 (by decide) (by decide)]; exact h10⟩, fun z => ?_⟩
  · rw [emv]
    have h4 : RWn V ow (s, vS W b) (mV Vm 0 0 0) := h4
    exact h4.mv (fun _ _ => rfl) (fun _ _ _ _ => rfl) (fun k => e 3 k (by decide)) (e 4 6 (by decide)) (e 5 13 (by decide)) (e 5 14 (by decide)) (fun c k a1 a2 a3 => e c k (by omega))
  · rw [em 0 54 (by decide) (by decide)] at z
    have ev : vS W b = vS V b := funext fun i => congrFun (nr z) _
    rw [ev]
    exact RJm.ag (h11 z) am (by decide)
/-- a BOOK that was read -/
theorem BKm.of {q : Nat} (hn : nwh Vm = q) (ce : CEm Vm q s) (wr : WRm Vm q s) (n19 : (Vm 19 q).toInt = (((s.2.1 2).length : Nat) : Int)) (ln : LNb s) (co : COM Vm q s) (se : SEQ V b Vm q (s.2.1 1).length) : BKm Vm (s, vS V b) := by
  subst hn
  exact ⟨ce.1.2.2, ce.2.1.2.1, ⟨wr.1.symm, ce.2.2.1, ce.2.2.2⟩, ⟨n19, ln.2.2, co⟩, fun i hi => (se i hi).symm⟩
theorem KMB.new {b2 : Nat} {s2 : St} (h : KMB V b Vm s) (f : BKf s2) (bc : BKc W b2 (s2, vS W b2)) (bm : BKm Wm (s2, vS W b2)) (c : RST V W) (m : RSm Vm Wm) (ca : (Wm 0 71).toInt = 0 ∧ (Wm 0 72).toInt = 0) (r54 : (Wm 0 54).toInt = 0) : KMB W b2 Wm s2 := by
  obtain ⟨_, _, _, ⟨ow, h4⟩, h5, ⟨h6, h7⟩, _, _⟩ := h
  exact ⟨f, bc, bm, ⟨ow, h4.new0 c m h5.1 f.2.2.2.2.2.2.2⟩, SCm.new m, ⟨by rw [c.1.1, m.2.2.2], dzC.new c⟩, ⟨by rw [c.2.1.2.1, ca.1], by rw [c.2.1.2.2, ca.2], by omega⟩, fun z => by omega⟩
/-! a BOOK that was refused: the cells of the old one's row stay -/
def SBk (b : Nat) (V W : Vf) : Prop := (W 41 b = V 41 b ∧ W 42 b = V 42 b ∧ W 43 (5 * b + 2) = V 43 (5 * b + 2)) ∧ (∀ k, k < 12 → W 46 (12 * b + k) = V 46 (12 * b + k) ∧ W 47 (12 * b + k) = V 47 (12 * b + k)) ∧ (∀ k, k < 8200 → W 48 (8200 * b + k) = V 48 (8200 * b + k)) ∧ (∀ x c, 49 ≤ x → x ≤ 57 → c < 24 → W x (24 * b + c) = V x (24 * b + c)) ∧ (∀ x c k, 58 ≤ x → x ≤ 60 → c < 24 → k < 8 → W x (8 * (24 * b + c) + k) = V x (8 * (24 * b + c) + k)) ∧ (∀ c k, c < 24 → k < 20 → W 61 (20 * (24 * b + c) + k) = V 61 (20 * (24 * b + c) + k)) ∧ ∀ x w, 62 ≤ x → x ≤ 66 → w < 12 → W x (12 * b + w) = V x (12 * b + w)
theorem xR_4 {b1 x : Nat} (h1 : 49 ≤ x) (h2 : x ≤ 57) : xR b1 x = (24 * b1, 24 * b1 + 24) := by
  unfold xR
  rw [if_neg (by omega), if_neg (by omega), if_neg (by omega), if_neg (by omega), if_neg (by omega), if_neg (by omega), if_pos (by omega)]
theorem xR_5 {b1 x : Nat} (h1 : 58 ≤ x) (h2 : x ≤ 60) : xR b1 x = (192 * b1, 192 * b1 + 192) := by
  unfold xR
  rw [if_neg (by omega), if_neg (by omega), if_neg (by omega), if_neg (by omega), if_neg (by omega), if_neg (by omega), if_neg (by omega), if_pos (by omega)]
theorem xR_6 {b1 x : Nat} (h1 : 62 ≤ x) : xR b1 x = (12 * b1, 12 * b1 + 12) := by
  unfold xR
  rw [if_neg (by omega), if_neg (by omega), if_neg (by omega), if_neg (by omega), if_neg (by omega), if_neg (by omega), if_neg (by omega), if_neg (by omega), if_neg (by omega)]
theorem SBk.of {U : Vf} {b1 : Nat} {L L2 : Lf} (f : frX (xR b1) V U) (hb : b + b1 = 1) (lc : LKc W L U L2) (ld : LKd W U) (le : LKe W U) : SBk b V W := by
  have g : ∀ x k, 41 ≤ x → x ≤ 66 → (k < (xR b1 x).1 ∨ (xR b1 x).2 ≤ k) → U x k = V x k := fun x k h1 h2 h3 => f x k ⟨h1, h2⟩ h3
  refine ⟨⟨?_, ?_, ?_⟩, fun k hk => ⟨?_, ?_⟩, fun k hk => ?_, fun x c h1 h2 hc => ?_, fun x c k h1 h2 hc hk => ?_, fun c k hc hk => ?_, fun x w h1 h2 hw => ?_⟩
  · exact (le.1 b (by omega)).1.symm.trans (g 41 b (by decide) (by decide) (show b < b1 ∨ b1 + 1 ≤ b by omega))
  · exact (le.1 b (by omega)).2.symm.trans (g 42 b (by decide) (by decide) (show b < b1 ∨ b1 + 1 ≤ b by omega))
  · exact (lc.1 (5 * b + 2) (by omega)).symm.trans (g 43 _ (by decide) (by decide) (show 5 * b + 2 < 5 * b1 ∨ 5 * b1 + 5 ≤ 5 * b + 2 by omega))
  · exact (ld.1 b k (by omega) hk).symm.trans (g 46 _ (by decide) (by decide) (show 12 * b + k < 12 * b1 ∨ 12 * b1 + 12 ≤ 12 * b + k by omega))
  · exact (le.2.2.2.2.1 b k (by omega) hk).symm.trans (g 47 _ (by decide) (by decide) (show 12 * b + k < 12 * b1 ∨ 12 * b1 + 12 ≤ 12 * b + k by omega))
  · exact (le.2.2.2.2.2 b k (by omega) hk).symm.trans (g 48 _ (by decide) (by decide) (show 8200 * b + k < 8200 * b1 ∨ 8200 * b1 + 8200 ≤ 8200 * b + k by omega))
  · have z : U x (24 * b + c) = V x (24 * b + c) := g x _ (by omega) (by omega) (by rw [xR_4 h1 h2]; show 24 * b + c < 24 * b1 ∨ 24 * b1 + 24 ≤ 24 * b + c; omega)
    refine Eq.trans (Eq.symm ?_) z
    have a := ld.2.1 (24 * b + c) (by omega)
    have d := le.2.1 (24 * b + c) (by omega)
    rcases (show x = 49 ∨ x = 50 ∨ x = 51 ∨ x = 52 ∨ x = 53 ∨ x = 54 ∨ x = 55 ∨ x = 56 ∨ x = 57 by omega) with e | e | e | e | e | e | e | e | e
    · rw [e]; exact a.1
    · rw [e]; exact a.2.1
    · rw [e]; exact a.2.2.1
    · rw [e]; exact a.2.2.2.1
    · rw [e]; exact a.2.2.2.2.1
    · rw [e]; exact a.2.2.2.2.2.1
    · rw [e]; exact a.2.2.2.2.2.2
    · rw [e]; exact d.1
    · rw [e]; exact d.2
  · have z : U x (8 * (24 * b + c) + k) = V x (8 * (24 * b + c) + k) := g x _ (by omega) (by omega) (by rw [xR_5 h1 h2]; show 8 * (24 * b + c) + k < 192 * b1 ∨ 192 * b1 + 192 ≤ 8 * (24 * b + c) + k; omega)
    refine Eq.trans (Eq.symm ?_) z
    have a := ld.2.2.1 (24 * b + c) k (by omega) hk
    rcases (show x = 58 ∨ x = 59 ∨ x = 60 by omega) with e | e | e
    · rw [e]; exact a.1
    · rw [e]; exact a.2.1
    · rw [e]; exact a.2.2
  · exact (le.2.2.1 (24 * b + c) k (by omega) hk).symm.trans (g 61 _ (by decide) (by decide) (show 20 * (24 * b + c) + k < 480 * b1 ∨ 480 * b1 + 480 ≤ 20 * (24 * b + c) + k by omega))
  · have z : U x (12 * b + w) = V x (12 * b + w) := g x _ (by omega) (by omega) (by rw [xR_6 h1]; show 12 * b + w < 12 * b1 ∨ 12 * b1 + 12 ≤ 12 * b + w; omega)
    refine Eq.trans (Eq.symm ?_) z
    have a := le.2.2.2.1 (12 * b + w) (by omega)
    rcases (show x = 62 ∨ x = 63 ∨ x = 64 ∨ x = 65 ∨ x = 66 by omega) with e | e | e | e | e
    · rw [e]; exact a.1
    · rw [e]; exact a.2.1
    · rw [e]; exact a.2.2.1
    · rw [e]; exact a.2.2.2.1
    · rw [e]; exact a.2.2.2.2
theorem psz_i {f : Nat → Nat} : ∀ i, i ≤ psz f i
  | 0 => Nat.zero_le _
  | i + 1 => by
    have a := psz_i (f := f) i
    have c : psz f i < psz f (i + 1) := psz_lt (Nat.lt_succ_self i)
    omega
theorem cl_wl : cl s ≤ wl s := psz_i (cl s)
theorem cl_BK (h : BKc V b (s, vS V b)) (hM : rgd bX V) : cl s ≤ 8200 := by
  have a := h.1.1
  have c : 0 ≤ (V 42 b).toInt ∧ (V 42 b).toInt ≤ 8200 := hM 42 b
  have a : (V 42 b).toInt = ((wl s : Nat) : Int) := a
  have d := cl_wl (s := s)
  omega
theorem CE_cl (h : CEo V b s) (hM : rgd bX V) : cl s ≤ 8200 := by
  have a : (V 42 b).toInt = ((wl s : Nat) : Int) := h.1.1
  have c : 0 ≤ (V 42 b).toInt ∧ (V 42 b).toInt ≤ 8200 := hM 42 b
  have d := cl_wl (s := s)
  omega
theorem BK_row (h : BKc V b (s, vS V b)) (hM : rgd bX V) (sb : SBk b V W) : BKc W b (s, vS W b) := by
  obtain ⟨h1, h2, ⟨h3, h4, h5⟩, ⟨h6, h7, h8⟩, h9, h10, h11, h12⟩ := h
  obtain ⟨⟨e41, e42, e43⟩, e46, e48, e49, e58, e61, e62⟩ := sb
  have wl8 : wl s ≤ 8200 := by
    have a := h1.1
    have c : 0 ≤ (V 42 b).toInt ∧ (V 42 b).toInt ≤ 8200 := hM 42 b
    have a : (V 42 b).toInt = ((wl s : Nat) : Int) := a
    omega
  have n12 : s.2.2.1.length ≤ 12 := h3.1
  have h7 : (s.2.1 2).length ≤ 24 := h7
  have h100 : ∀ w, w < wN (s, vS V b) → nL s (902 + 8 * w) < 100 := fun w hw => (h10 w hw).2
  refine ⟨⟨by rw [e42]; exact h1.1, fun i hi => ?_⟩, ⟨h2.1, fun c hc k hk => ?_, h2.2.2⟩, ⟨⟨h3.1, fun w hw => ?_⟩, by rw [e41]; exact h4, fun i hi => ?_⟩, ⟨by rw [e43]; exact h6, h7, fun c hc => ?_⟩, fun i _ => rfl, h10, h11, h12⟩
  · have z := h1.2 i hi
    have p1 : psz (opf s) i + szO (opf s i) ≤ wl s := psz_le hi
    have sb := szO_b (opf s i)
    unfold CDr at z ⊢
    refine ⟨by rw [show (s, vS W b).1 = s from rfl, e48 _ (show psz (opf s) i < 8200 by omega)]; exact z.1, fun q => ?_, z.2.2⟩
    have q2 : szO (opf s i) = 2 := q
    have e := e48 (psz (opf s) i + 1) (by omega)
    rw [← Nat.add_assoc] at e
    rw [e]
    exact z.2.1 q
  · have hc : c < (s.2.1 2).length := hc
    rw [← h2.2.1 c hc k hk]
    exact cR_e (fun k20 => e61 c k (by omega) k20) (e49 56 c (by decide) (by decide) (by omega)) (e49 57 c (by decide) (by decide) (by omega))
  · have z := h3.2 w hw
    have hw : w < s.2.2.1.length := hw
    unfold WWr at z ⊢
    rw [e62 62 w (by decide) (by decide) (by omega), e62 63 w (by decide) (by decide) (by omega), e62 64 w (by decide) (by decide) (by omega), e62 65 w (by decide) (by decide) (by omega), e62 66 w (by decide) (by decide) (by omega)]
    exact z
  · have hi : i < (bW (s, vS V b)).length := hi
    have z := h5 i hi
    rw [bW_len (B := (s, vS V b)) h100] at hi
    have w12 : wN (s, vS V b) ≤ 12 := by
      unfold wN
      omega
    rw [(e46 i (by omega)).2]
    exact z
  · have hc : c < (s.2.1 2).length := hc
    have z := h8 c hc
    unfold COr HDr at z ⊢
    rw [e49 50 c (by decide) (by decide) (by omega), e49 51 c (by decide) (by decide) (by omega), e49 52 c (by decide) (by decide) (by omega), e49 53 c (by decide) (by decide) (by omega), e49 54 c (by decide) (by decide) (by omega), e49 55 c (by decide) (by decide) (by omega), e49 49 c (by decide) (by decide) (by omega)]
    refine ⟨z.1, z.2.1, z.2.2.1, fun j hj => ?_⟩
    have y := z.2.2.2 j hj
    have n8 := z.2.2.1
    have hj : j < s.1 (66 + 8 * c) := hj
    have n8 : s.1 (66 + 8 * c) ≤ 8 := n8
    have hj8 : j < 8 := by omega
    unfold NEr at y ⊢
    rw [e58 58 c j (by decide) (by decide) (by omega) hj8, e58 59 c j (by decide) (by decide) (by omega) hj8, e58 60 c j (by decide) (by decide) (by omega) hj8]
    exact y
theorem BKm.row {B : Bk} {q nx : Nat} (h : BKm Vm B) (hn : nwh Vm = q) (hn2 : nwh Wm = q) (hq : q + nx = 1) (f : fr (tH nx) Vm Wm) (e22 : RoW 22 24 nx Vm Wm) (c10 : cl B.1 ≤ 10000) (n12 : (B.1.2.1 1).length ≤ 12) : BKm Wm B := by
  unfold BKm at h ⊢
  rw [hn] at h
  rw [hn2]
  obtain ⟨h1, h2, ⟨h3, h4, h5⟩, ⟨h6, h7, h8⟩, h9⟩ := h
  refine ⟨fun i hi => ?_, fun c hc k hk => ?_, ⟨by rw [f 39 q rfl (show q < nx ∨ nx + 1 ≤ q by omega)]; exact h3, h4, fun w hw => ?_⟩, ⟨by rw [f 19 q rfl (show q < nx ∨ nx + 1 ≤ q by omega)]; exact h6, h7, fun c hc => ?_⟩, fun i hi => ?_⟩
  · have z := h1 i hi
    have g : 10000 * q + i < 10000 * nx ∨ 10000 * nx + 10000 ≤ 10000 * q + i := by omega
    unfold CDmr at z ⊢
    rw [f 45 _ rfl g, f 46 _ rfl g, f 47 _ rfl g]
    exact z
  · have z := h2 c hc k hk
    have hc : c < nC B := hc
    have g : 24 * q + c < 24 * nx ∨ 24 * nx + 24 ≤ 24 * q + c := by omega
    rw [← z]
    refine cM_e (fun k20 => f 34 _ rfl (show 20 * (24 * q + c) + k < 480 * nx ∨ 480 * nx + 480 ≤ 20 * (24 * q + c) + k by omega)) (f 32 _ rfl g) (f 33 _ rfl g)
  · have z := h5 w hw
    have g : 12 * q + w < 12 * nx ∨ 12 * nx + 12 ≤ 12 * q + w := by omega
    unfold WMr at z ⊢
    rw [f 40 _ rfl g, f 41 _ rfl g, f 42 _ rfl g, f 43 _ rfl g, f 44 _ rfl g]
    exact z
  · have hc : c < nC B := hc
    have z := h8 c hc
    have g : 24 * q + c < 24 * nx ∨ 24 * nx + 24 ≤ 24 * q + c := by omega
    have n8 := z.2.2.1
    unfold COm HDn BTm at z ⊢
    rw [e22 (24 * q + c) (by omega), f 23 _ rfl g, f 24 _ rfl g, f 25 _ rfl g, f 26 _ rfl g, f 27 _ rfl g]
    refine ⟨⟨fun t ht => ?_, z.1.2⟩, z.2.1, z.2.2.1, fun j hj => ?_⟩
    · rw [f 21 _ rfl (show 24 * (24 * q + c) + t < 576 * nx ∨ 576 * nx + 576 ≤ 24 * (24 * q + c) + t by omega)]
      exact z.1.1 t ht
    · have y := z.2.2.2 j hj
      have g8 : 8 * (24 * q + c) + j < 192 * nx ∨ 192 * nx + 192 ≤ 8 * (24 * q + c) + j := by omega
      unfold NEm at y ⊢
      rw [f 28 _ rfl g8, f 29 _ rfl g8, f 30 _ rfl g8, f 31 _ rfl g8]
      exact y
  · rw [f 18 _ rfl (show 12 * q + i < 12 * nx ∨ 12 * nx + 12 ≤ 12 * q + i by omega)]
    exact h9 i hi
def m26Q (fs : List (Nat × Nat)) (cs : List Nat) : Bool := fs.all (fun y => decide (y.1 < 26 ∨ 37 < y.1)) && cs.all (fun c => decide (c < 26 ∨ 37 < c))
theorem agr.m26 (a : agr fs cs V W) (q : m26Q fs cs = true) {c k : Nat} (h1 : 26 ≤ c) (h2 : c ≤ 37) : W c k = V c k := by
  refine a c k ?_
  unfold m26Q at q
  rw [Bool.and_eq_true, List.all_eq_true, List.all_eq_true] at q
  unfold wrL
  rw [Bool.or_eq_false_iff]
  refine ⟨?_, ?_⟩
  · rw [← Bool.not_eq_true]
    intro z
    have y := of_decide_eq_true (q.1 _ (List.contains_iff_mem.mp z))
    have y : c < 26 ∨ 37 < c := y
    omega
  · rw [← Bool.not_eq_true]
    intro z
    have y := of_decide_eq_true (q.2 _ (List.contains_iff_mem.mp z))
    omega
theorem RWn.old {U : Vf} {ow : Nat → Nat} {B : Bk} {m : Mm} (h : RWn V ow B m) (n24 : nC B ≤ 24) (l : LKs W U) (e : ESw V U) (cc : ∀ c k, 26 ≤ c → c ≤ 37 → c < 33 ∨ 35 < c → W c k = V c k) : RWn W ow B m := by
  obtain ⟨⟨l12, l13, l14, l15⟩, ⟨l46, _, _⟩, ⟨l513, l514⟩, lr, l25⟩ := l
  obtain ⟨e3, e46, ⟨e513, e514, _⟩, er, _⟩ := e
  have w12 : W 3 12 = V 3 12 := l12.symm.trans (e3 12)
  have w13 : W 3 13 = V 3 13 := l13.symm.trans (e3 13)
  have w14 : W 3 14 = V 3 14 := l14.symm.trans (e3 14)
  have w15 : W 3 15 = V 3 15 := l15.symm.trans (e3 15)
  have w46 : W 4 6 = V 4 6 := l46.symm.trans e46
  have w513 : W 5 13 = V 5 13 := l513.symm.trans e513
  have w514 : W 5 14 = V 5 14 := l514.symm.trans e514
  have w21 : ∀ k, k < 40 → W 21 k = V 21 k := fun k hk => (lr k hk).1.symm.trans (er 21 k (by decide) (by decide) (by decide))
  have w22 : ∀ k, k < 40 → W 22 k = V 22 k := fun k hk => (lr k hk).2.1.symm.trans (er 22 k (by decide) (by decide) (by decide))
  have w23 : ∀ k, k < 40 → W 23 k = V 23 k := fun k hk => (lr k hk).2.2.1.symm.trans (er 23 k (by decide) (by decide) (by decide))
  have w24 : ∀ k, k < 40 → W 24 k = V 24 k := fun k hk => (lr k hk).2.2.2.symm.trans (er 24 k (by decide) (by decide) (by decide))
  have w25 : ∀ k, k < 960 → W 25 k = V 25 k := fun k hk => (l25 k hk).symm.trans (er 25 k (by decide) (by decide) (by decide))
  obtain ⟨⟨⟨a0, a1, a2, a3⟩, a4, a5⟩, hb, hj, ⟨⟨s1, s2⟩, s3, s4⟩, hp⟩ := h
  refine ⟨⟨⟨by rw [w514]; exact a0, by rw [w513]; exact a1, by rw [w13]; exact a2, by rw [w14]; exact a3⟩, by rw [w46]; exact a4, fun i h1 h2 => ?_⟩, fun x hx => ?_, RWj.mv hj rfl (fun _ => rfl) (fun _ => rfl) w15 (fun q => cc 30 q (by decide) (by decide) (by decide)) (fun q => cc 31 q (by decide) (by decide) (by decide)) (fun q => cc 32 q (by decide) (by decide) (by decide)), ⟨⟨by rw [w12]; exact s1, fun s h1 h2 => ?_⟩, fun s hs => by rw [w21 s hs]; exact s3 s hs, fun s hs => ?_⟩, fun pl c hpl hc hsh => ?_, hp.2⟩
  · rw [cc 36 _ (by decide) (by decide) (by decide), cc 37 _ (by decide) (by decide) (by decide)]
    exact a5 i h1 h2
  · rw [cc 26 _ (by decide) (by decide) (by decide), cc 27 _ (by decide) (by decide) (by decide), cc 28 _ (by decide) (by decide) (by decide), cc 29 _ (by decide) (by decide) (by decide), w12]
    exact hb x hx
  · rw [w12] at h1
    rw [w24 s h2]
    exact s2 s h1 h2
  · rw [w12] at hs
    have s40 : s < 40 := by omega
    rw [w23 s s40, w22 s s40, w24 s s40, w12]
    exact s4 s hs
  · rw [w25 _ (by omega)]
    exact hp.1 pl c hpl hc hsh
theorem RJm.sv9 {v v2 : Nat → Int32} (h : RJm Vm (s, v)) (ec : ∀ c j, bC (s, v2) c j = bC (s, v) c j) : RJm Vm (s, v2) := by
  obtain ⟨h1, h2, h3, h4⟩ := h
  have cm : ∀ o, CMPo Vm (s, v) o → CMPo Vm (s, v2) o := fun o ho k hk hn => by
    rw [ec]
    exact ho k hk hn
  refine ⟨fun o k a1 a2 a3 => ?_, h2, fun o a1 a2 => cm o (h3 o a1 a2), fun i hi => cm _ (h4 i hi)⟩
  rw [ec]
  exact h1 o k a1 a2 a3
theorem KMB.old {U : Vf} {q nx : Nat} (h : KMB V b Vm s) (hM : rgd bX V) (sb : SBk b V W) (l : LKs W U) (e : ESw V U ∧ U 4 7 = V 4 7 ∧ U 4 8 = V 4 8 ∧ ∀ s9 : Nat, U 21 s9 = V 21 s9 ∧ U 22 s9 = V 22 s9) (cc : ∀ c k, 26 ≤ c → c ≤ 37 → c < 33 ∨ 35 < c → W c k = V c k) (hn : nwh Vm = q) (hn2 : nwh Wm = q) (hq : q + nx = 1) (f : fr (tH nx) Vm Wm) (e22 : RoW 22 24 nx Vm Wm) (am : agr fs2 cs2 Vm Wm) (q1 : mvQ fs2 cs2 = true) (q2 : rjQ fs2 cs2 = true) (e54 : Wm 0 54 = Vm 0 54) (e55 : Wm 0 55 = Vm 0 55) (eT : Wm 0 71 = Vm 0 71) (eK : Wm 0 72 = Vm 0 72) : KMB W b Wm s := by
  obtain ⟨h1, h2, h3, ⟨ow, h4⟩, h5, ⟨h6, h7⟩, ⟨h8, h9, h10⟩, h11⟩ := h
  have c8 := cl_BK h2 hM
  have n12 : (s.2.1 1).length ≤ 12 := h1.2.2.2.2.2.2.1
  have ev : ∀ i, i < 12 → vS W b i = vS V b i := fun i hi => (sb.2.1 i hi).1
  have w12 : W 3 12 = V 3 12 := l.1.1.symm.trans (e.1.1 12)
  have w47 : W 4 7 = V 4 7 := l.2.1.2.1.symm.trans e.2.1
  have w48 : W 4 8 = V 4 8 := l.2.1.2.2.symm.trans e.2.2.1
  have em : mV Wm 0 0 0 = mV Vm 0 0 0 := mV_ag am q1
  have n40 : (V 3 12).toInt ≤ 40 := h4.2.2.2.1.1.1.2
  have bm := h3.row hn hn2 hq f e22 (show cl s ≤ 10000 by omega) n12
  refine ⟨h1, BK_row h2 hM sb, ?_, ⟨ow, ?_⟩, by rw [em, e55]; exact h5, ⟨by rw [w12, e55]; exact h6, fun x hx h2 => ?_⟩, ⟨by rw [w47, eT]; exact h8, by rw [w48, eK]; exact h9, by rw [eT]; exact h10⟩, fun z => ?_⟩
  · obtain ⟨b1, b2, b3, b4, b5⟩ := bm
    exact ⟨b1, b2, b3, b4, fun i hi => (b5 i hi).trans (ev i (by have hi : i < (s.2.1 1).length := hi; omega)).symm⟩
  · rw [em]
    have h4 : RWn V ow (s, vS W b) (mV Vm 0 0 0) := h4
    exact h4.old h1.2.2.2.2.2.2.2 l e.1 cc
  · rw [w12] at h2
    have y21 : W 21 x = V 21 x := (l.2.2.2.1 x (by omega)).1.symm.trans (e.2.2.2 x).1
    have y22 : W 22 x = V 22 x := (l.2.2.2.1 x (by omega)).2.1.symm.trans (e.2.2.2 x).2
    rw [y21, y22]
    exact h7 x hx h2
  · rw [e54] at z
    have r := RJm.ag (h11 z) am q2
    have es : svB (s, vS W b) = svB (s, vS V b) := by
      unfold svB
      funext i
      split
      · exact congrArg Int32.toInt (ev i (by have hi : i < (s.2.1 1).length := ‹_›; omega))
      · rfl
    have ec : ∀ c j, bC (s, vS W b) c j = bC (s, vS V b) c j := fun c j => by
      unfold bC
      rw [es]
    exact RJm.sv9 r ec
end KM3
/-! nobody is joined beyond a component's needs -/
def NJz (B : Bk) (m : Mm) : Prop := 0 ≤ m 0 2 ∧ (∀ o k : Nat, (o : Int) < m 0 2 → bN B (m 1 o).toNat ≤ k → k < 8 → m 6 (8 * o + k) = 0) ∧ ∀ i : Nat, (i : Int) < m 0 4 → 0 ≤ m 5 i ∧ m 5 i < m 0 2
/-- an object that something is under way for, and whose it is -/
def NJo (m : Mm) (o c : Int) : Prop := 0 ≤ o ∧ o < m 0 2 ∧ m 1 o.toNat = c
def NJf (B : Bk) (m : Mm) (f : Fr) : Prop := match f with
  | (0, [_, _, _, _], [], []) => True
  | (1, [_, _, _, _], [], []) => True
  | (2, [_, _, _, _, _], [], []) => True
  | (3, [_, o, c, _, ps, _], [], []) => NJo m o c ∧ ps.toNat < bN B c.toNat
  | (4, [_, o, c, _], [], []) => NJo m o c
  | (5, [_, o, c, _, _], [_], []) => 0 ≤ o → o < m 0 2 → NJo m o c
  | (6, [_, o, c, _, _], [], []) => NJo m o c
  | (7, [_, o, c, _, _, _, _, _], [], []) => NJo m o c
  | (8, [_, o, c, _, _, _], [_], []) => NJo m o c
  | (9, [_, o, c, _, _], [], []) => NJo m o c
  | (10, [_, o, c, _, _, _], [], []) => NJo m o c
  | (11, [_, o, c, _, _, _], [], []) => NJo m o c
  | (12, [_, o, c, _, _, _, _], [_], _) => NJo m o c
  | (13, [_, o, c, _, _, _, _], [_], _) => NJo m o c
  | (14, [_, o, c, _, _, _, _], [_, _], _) => NJo m o c
  | (15, [_, o, c, _, _, nd, _], [_, _], _) => NJo m o c ∧ nd.toNat < bN B c.toNat
  | (16, [_, o, c, _, _, _, _, _], [_, _, _], _) => NJo m o c
  | (17, [_, o, c, _], [], []) => NJo m o c
  | (18, [_, o, c, _], [], []) => NJo m o c
  | _ => False
/-- the one on top: a making that was just begun joins nobody -/
def NJt (B : Bk) (m : Mm) (f : Fr) : Prop := NJf B m f ∨ ∃ lv o c pl ps it, f = Fmake lv o c pl ps it ∧ NJo m o c ∧ m 0 6 ≠ 1
def NJr (B : Bk) (m : Mm) (r : List Fr) : Prop := ∀ f, f ∈ r → NJf B m f ∧ f.1 ≠ 5
def NJ (B : Bk) (x : MS) : Prop := NJz B x.1 ∧ (match x.2.2 with
  | [] => True
  | f :: r => NJt B x.1 f ∧ NJr B x.1 r)
def SMj (m m2 : Mm) : Prop := m2 0 2 = m 0 2 ∧ (∀ j, m2 1 j = m 1 j) ∧ (∀ j, m2 6 j = m 6 j) ∧ m2 0 4 ≤ m 0 4 ∧ ∀ j, m2 5 j = m 5 j
section NJs
variable {B : Bk} {m m2 : Mm} {a a2 : Int32} {f : Fr} {r fs : List Fr}
theorem SMj.rf : SMj m m := ⟨rfl, fun _ => rfl, fun _ => rfl, Int.le_refl _, fun _ => rfl⟩
theorem SMj.tr {m3 : Mm} (h : SMj m m2) (k : SMj m2 m3) : SMj m m3 := ⟨k.1.trans h.1, fun j => (k.2.1 j).trans (h.2.1 j), fun j => (k.2.2.1 j).trans (h.2.2.1 j), Int.le_trans k.2.2.2.1 h.2.2.2.1, fun j => (k.2.2.2.2 j).trans (h.2.2.2.2 j)⟩
theorem SMj.u0 {k : Nat} {v : Int} (h : k ≠ 2 ∧ k ≠ 4) : SMj m (mU m 0 k v) := ⟨mU_o _ _ (by omega), fun j => mU_o _ _ (by omega), fun j => mU_o _ _ (by omega), by rw [mU_o _ _ (by omega)]; exact Int.le_refl _, fun j => mU_o _ _ (by omega)⟩
theorem SMj.u4 {v : Int} (h : v ≤ m 0 4) : SMj m (mU m 0 4 v) := ⟨mU_o _ _ (by omega), fun j => mU_o _ _ (by omega), fun j => mU_o _ _ (by omega), by rw [mU_s]; exact h, fun j => mU_o _ _ (by omega)⟩
theorem SMj.ux {x k : Nat} {v : Int} (h : x ≠ 0 ∧ x ≠ 1 ∧ x ≠ 6 ∧ x ≠ 5) : SMj m (mU m x k v) := ⟨mU_o _ _ (by omega), fun j => mU_o _ _ (by omega), fun j => mU_o _ _ (by omega), by rw [mU_o _ _ (by omega)]; exact Int.le_refl _, fun j => mU_o _ _ (by omega)⟩
theorem SMj.stp : SMj m (mSt m) := SMj.tr (SMj.u0 (by decide)) (SMj.u0 (by decide))
theorem SMj.nt {o k : Int} : SMj m (mNote m o k) := by
  unfold mNote
  split
  · exact SMj.tr (SMj.ux (by decide)) (SMj.tr (SMj.ux (by decide)) (SMj.u0 (by decide)))
  · exact SMj.u0 (by decide)
theorem SMj.ab {o c pl : Int} : SMj m (mAb B m o c pl) := by
  unfold mAb
  split
  · exact SMj.tr (SMj.ux (by decide)) (SMj.ux (by decide))
  · exact SMj.ux (by decide)
theorem NJz.mv (h : NJz B m) (e : SMj m m2) : NJz B m2 := ⟨by rw [e.1]; exact h.1, fun o k ho hk k8 => by
  rw [e.1] at ho
  rw [e.2.1] at hk
  rw [e.2.2.1]
  exact h.2.1 o k ho hk k8, fun i hi => by
  rw [e.2.2.2.2, e.1]
  exact h.2.2 i (by have := e.2.2.2.1; omega)⟩
theorem NJo.mv {o c : Int} (h : NJo m o c) (e2 : m 0 2 ≤ m2 0 2) (e1 : ∀ j : Nat, (j : Int) < m 0 2 → m2 1 j = m 1 j) : NJo m2 o c := by
  obtain ⟨h0, h1, h2⟩ := h
  exact ⟨h0, by omega, by rw [e1 _ (by omega)]; exact h2⟩
theorem NJf.mv (h : NJf B m f) (e2 : m 0 2 ≤ m2 0 2) (e1 : ∀ j : Nat, (j : Int) < m 0 2 → m2 1 j = m 1 j) (e5 : m2 0 2 = m 0 2 ∨ f.1 ≠ 5) : NJf B m2 f := by
  unfold NJf at h ⊢
  split at h
  all_goals first
    | exact h
    | exact h.elim
    | exact NJo.mv h e2 e1
    | exact ⟨NJo.mv h.1 e2 e1, h.2⟩
    | (intro h0 h1
       rcases e5 with q | q
       · rw [q] at h1
         exact NJo.mv (h h0 h1) e2 e1
       · exact absurd rfl q)
theorem NJf.sm (h : NJf B m f) (e : SMj m m2) : NJf B m2 f := h.mv (by rw [e.1]; exact Int.le_refl _) (fun j _ => e.2.1 j) (Or.inl e.1)
theorem NJr.sm (h : NJr B m r) (e : SMj m m2) : NJr B m2 r := fun f hf => ⟨(h f hf).1.sm e, (h f hf).2⟩
theorem NJr.c (h : NJf B m f) (n : f.1 ≠ 5) (k : NJr B m r) : NJr B m (f :: r) := fun g hg => by
  rcases List.mem_cons.mp hg with e | e
  · rw [e]
    exact ⟨h, n⟩
  · exact k g e
theorem NJt.g (h : NJt B m f) (n : f.1 ≠ 3) : NJf B m f := by
  rcases h with h | ⟨lv, o, c, pl, ps, it, e, _⟩
  · exact h
  · rw [e] at n
    exact absurd rfl n
theorem NJ.g1 (z : NJz B m) (e : SMj m m2) (t : NJf B m f) (h : NJr B m r) : NJ B (m2, a2, f :: r) := ⟨z.mv e, Or.inl (t.sm e), h.sm e⟩
/-- nothing of it is another -/
theorem NJ.go (z : NJz B m) (e : SMj m m2) (h : NJr B m fs) : NJ B (m2, a2, fs) := by
  refine ⟨z.mv e, ?_⟩
  cases fs with
  | nil => exact trivial
  | cons f r => exact ⟨Or.inl ((h f List.mem_cons_self).1.sm e), NJr.sm (fun g hg => h g (List.mem_cons_of_mem _ hg)) e⟩
theorem SMj.an : SMj m (mU m 0 6 1) := SMj.u0 (by decide)
theorem NJ.an {v : Int32} (z : NJz B m) (h : NJr B m fs) : NJ B (mAns m v fs) := NJ.go z (SMj.u0 (by decide)) h
theorem NJ.fl {nd k : Int} (z : NJz B m) (h : NJr B m fs) : NJ B (mFail m a nd k fs) := NJ.go z (SMj.tr (SMj.u0 (by decide)) (SMj.tr (SMj.u0 (by decide)) (SMj.u0 (by decide)))) h
theorem NJ.sp (z : NJz B m) (h : NJr B m fs) : NJ B (mSpent m a fs) := NJ.go z (SMj.u0 (by decide)) h
theorem NJ.gg (z : NJz B m) (h : NJr B m fs) : NJ B (mGo m a fs) := NJ.go z (SMj.u0 (by decide)) h
theorem NJ.sk {c sc lv : Int} (z : NJz B m) (h : NJr B m fs) : NJ B (seekM B m a fs c sc lv) := by
  unfold seekM
  split
  · exact NJ.fl z h
  · split
    · exact NJ.fl z h
    · split
      · split
        · exact NJ.an z h
        · exact NJ.fl z h
      · unfold makeM
        split
        · exact NJ.sp z h
        · split
          · exact NJ.go z (SMj.tr SMj.stp (SMj.tr (SMj.u0 (by decide)) (SMj.tr (SMj.u0 (by decide)) (SMj.u0 (by decide))))) h
          · obtain ⟨pl9, hpl9⟩ : ∃ z, z = plc m (bS B c.toNat) sc := ⟨_, rfl⟩
            rw [← hpl9]
            have e2 : ∀ p : Int, mU (mNew (mSt m) c p) 0 6 0 0 2 = m 0 2 + 1 := fun p => rfl
            have e1 : ∀ (p : Int) (j : Nat), mU (mNew (mSt m) c p) 0 6 0 1 j = if j = (m 0 2).toNat then c else m 1 j := fun p j => by
              rw [mU_o _ _ (by omega)]
              unfold mNew
              rw [if_neg (by omega), mSt_o (by omega)]
              by_cases q : j = (m 0 2).toNat
              · rw [if_pos ⟨rfl, q⟩, if_pos q]
              · rw [if_neg (by omega), if_neg (by omega), if_neg (by omega), if_neg (by omega), mSt_o (by omega), if_neg q]
            have e6 : ∀ (p : Int) (j : Nat), mU (mNew (mSt m) c p) 0 6 0 6 j = if 8 * (m 0 2).toNat ≤ j ∧ j < 8 * (m 0 2).toNat + 8 then 0 else m 6 j := fun p j => by
              rw [mU_o _ _ (by omega)]
              unfold mNew
              rw [if_neg (by omega), if_neg (by omega), if_neg (by omega), if_neg (by omega), mSt_o (by omega)]
              by_cases q : 8 * (m 0 2).toNat ≤ j ∧ j < 8 * (m 0 2).toNat + 8
              · rw [if_pos ⟨rfl, q⟩, if_pos q]
              · rw [if_neg (fun y => q y.2), if_neg q, mSt_o (by omega)]
            have z0 := z.1
            refine ⟨⟨?_, ?_, ?_⟩, Or.inr ⟨_, _, _, _, _, _, rfl, ?_, ?_⟩, ?_⟩
            · show 0 ≤ mU (mNew (mSt m) c pl9) 0 6 0 0 2
              rw [e2]
              omega
            · intro o k ho hk k8
              have ho : (o : Int) < mU (mNew (mSt m) c pl9) 0 6 0 0 2 := ho
              have hk : bN B (mU (mNew (mSt m) c pl9) 0 6 0 1 o).toNat ≤ k := hk
              show mU (mNew (mSt m) c pl9) 0 6 0 6 (8 * o + k) = 0
              rw [e2] at ho
              rw [e1] at hk
              rw [e6]
              by_cases q : o = (m 0 2).toNat
              · rw [if_pos ⟨by omega, by omega⟩]
              · rw [if_neg q] at hk
                rw [if_neg (by omega)]
                exact z.2.1 o k (by omega) hk k8
            · intro i hi
              have hi : (i : Int) < m 0 4 := hi
              have q := z.2.2 i hi
              show 0 ≤ m 5 i ∧ m 5 i < mU (mNew (mSt m) c pl9) 0 6 0 0 2
              rw [e2]
              omega
            · show 0 ≤ m 0 2 ∧ m 0 2 < mU (mNew (mSt m) c pl9) 0 6 0 0 2 ∧ mU (mNew (mSt m) c pl9) 0 6 0 1 (m 0 2).toNat = c
              rw [e2, e1, if_pos rfl]
              exact ⟨z0, by omega, rfl⟩
            · show mU (mNew (mSt m) c pl9) 0 6 0 0 6 ≠ 1
              rw [mU_s]
              decide
            · intro g hg
              refine ⟨(h g hg).1.mv (show m 0 2 ≤ mU (mNew (mSt m) c pl9) 0 6 0 0 2 from by rw [e2]; omega) (fun j hj => ?_) (Or.inr (h g hg).2), (h g hg).2⟩
              show mU (mNew (mSt m) c pl9) 0 6 0 1 j = m 1 j
              rw [e1, if_neg (by omega)]
theorem nxC_q {c : Nat} : ∀ (f ps it : Nat) {p d : Nat}, nxC B c f ps it = some (p, d) → p < bN B c
  | 0, _, _, _, _, h => by cases h
  | f + 1, ps, it, p, d, h => by
    unfold nxC at h
    split at h
    · cases h
    · rename_i hc
      split at h
      · cases h
        omega
      · exact nxC_q f (ps + 1) 0 h
theorem mJn_6 {o k : Nat} {v : Int} {j : Nat} : mJoin m o k v 6 j = if j = 8 * o + k then m 6 (8 * o + k) + 1 else m 6 j := by
  unfold mJoin
  by_cases q : j = 8 * o + k
  · rw [if_pos q, q, mU_s]
  · rw [if_neg q, mU_o _ _ (by omega), mU_o _ _ (by omega)]
/-- one is joined to a need that there is -/
theorem NJz.jn {o c : Int} {k : Nat} {v : Int} (z : NJz B m) (h : NJo m o c) (hk : k < bN B c.toNat) (k8 : k < 8) : NJz B (mJoin m o.toNat k v) := by
  obtain ⟨h0, h1, h2⟩ := h
  refine ⟨by rw [mJn_o (by decide) (by decide)]; exact z.1, fun o2 k2 ho hk2 k82 => ?_, fun i hi => by rw [mJn_o (by decide) (by decide)] at hi; rw [mJn_o (by decide) (by decide), mJn_o (by decide) (by decide)]; exact z.2.2 i hi⟩
  rw [mJn_o (by decide) (by decide)] at ho hk2
  rw [mJn_6]
  by_cases q : 8 * o2 + k2 = 8 * o.toNat + k
  · have e1 : o2 = o.toNat := by omega
    have e2 : k2 = k := by omega
    rw [e1, h2] at hk2
    omega
  · rw [if_neg q]
    exact z.2.1 o2 k2 ho hk2 k82
theorem NJf.jn {o k : Nat} {v : Int} (h : NJf B m f) : NJf B (mJoin m o k v) f := h.mv (by rw [mJn_o (by decide) (by decide)]; exact Int.le_refl _) (fun j _ => mJn_o (by decide) (by decide)) (Or.inl (mJn_o (by decide) (by decide)))
theorem NJr.jn {o k : Nat} {v : Int} (h : NJr B m r) : NJr B (mJoin m o k v) r := fun f hf => ⟨(h f hf).1.jn, (h f hf).2⟩
theorem NJo.jn {o2 c : Int} {o k : Nat} {v : Int} (h : NJo m o2 c) : NJo (mJoin m o k v) o2 c := h.mv (by rw [mJn_o (by decide) (by decide)]; exact Int.le_refl _) (fun j _ => mJn_o (by decide) (by decide))
/-- a making ends well -/
theorem NJ.dn {o c : Int} {v : Int32} (z : NJz B m) (h : NJo m o c) (hr : NJr B m fs) : NJ B (mAns (mDone m o.toNat) v fs) := by
  obtain ⟨h0, h1, h2⟩ := h
  have e2 : mDone m o.toNat 0 2 = m 0 2 := rfl
  have e1 : ∀ j, mDone m o.toNat 1 j = m 1 j := fun j => rfl
  have e6 : ∀ j, mDone m o.toNat 6 j = m 6 j := fun j => rfl
  have e4 : mDone m o.toNat 0 4 = m 0 4 + 1 := rfl
  have e5 : ∀ j, mDone m o.toNat 5 j = if j = (m 0 4).toNat then ((o.toNat : Nat) : Int) else m 5 j := fun j => by
    unfold mDone
    rw [mU_o _ _ (by omega)]
    by_cases q : j = (m 0 4).toNat
    · rw [if_pos q, q, mU_s]
    · rw [if_neg q, mU_o _ _ (by omega), mU_o _ _ (by omega), mU_o _ _ (by omega), mU_o _ _ (by omega)]
  have zz : NJz B (mDone m o.toNat) := ⟨z.1, fun o2 k ho hk k8 => z.2.1 o2 k ho hk k8, fun i hi => by
    rw [e4] at hi
    rw [e5, e2]
    by_cases q : i = (m 0 4).toNat
    · rw [if_pos q]
      omega
    · rw [if_neg q]
      exact z.2.2 i (by omega)⟩
  have rr : NJr B (mDone m o.toNat) fs := fun f hf => ⟨(hr f hf).1.mv (Int.le_refl _) (fun j _ => rfl) (Or.inl rfl), (hr f hf).2⟩
  exact NJ.an zz rr
theorem NJ.un {lv mk9 nd fl sp : Int} (z : NJz B m) (h0 : 0 ≤ mk9) (h : NJr B m r) : NJ B (undoM m a r lv mk9 nd fl sp) := by
  unfold undoM
  split
  · rename_i q
    have y := z.2.2 (m 0 4 - 1).toNat (by omega)
    exact NJ.go z (SMj.tr (SMj.u4 (by omega)) (SMj.u0 (by decide))) (NJr.c (show NJo m _ _ from ⟨y.1, y.2, rfl⟩) (show (17 : Nat) ≠ 5 by decide) (NJr.c (show NJf B m (Froot2 lv mk9 nd fl sp) from trivial) (show (2 : Nat) ≠ 5 by decide) h))
  · split
    · exact NJ.go z (SMj.tr (SMj.u0 (by decide)) (SMj.tr (SMj.u0 (by decide)) (SMj.u0 (by decide)))) h
    · exact NJ.fl z h
theorem NJ.t0 {lv c sc mk9 : Int} (h : NJ B (m, a, Froot0 lv c sc mk9 :: r)) : NJ B (stM B (m, a, Froot0 lv c sc mk9 :: r)) := NJ.sk (fs := Froot1 lv c sc mk9 :: r) h.1 (NJr.c (show NJf B m (Froot1 lv c sc mk9) from trivial) (show (1 : Nat) ≠ 5 by decide) h.2.2)
theorem NJ.t1 {lv c sc mk9 : Int} (k : MKs (Froot1 lv c sc mk9 :: r) (m 0 4)) (h : NJ B (m, a, Froot1 lv c sc mk9 :: r)) : NJ B (stM B (m, a, Froot1 lv c sc mk9 :: r)) := by
  have k : mk9 ≤ m 0 4 ∧ MKs r mk9 := k
  show NJ B (if m 0 6 ≠ 2 then (mU m 0 4 mk9, a, r) else undoM m a r lv mk9 (m 0 8) (m 0 9) 0)
  split
  · exact NJ.go h.1 (SMj.u4 k.1) h.2.2
  · exact NJ.un h.1 k.2.nn h.2.2
theorem NJ.t2 {lv mk9 nd fl sp : Int} (k : MKs (Froot2 lv mk9 nd fl sp :: r) (m 0 4)) (h : NJ B (m, a, Froot2 lv mk9 nd fl sp :: r)) : NJ B (stM B (m, a, Froot2 lv mk9 nd fl sp :: r)) := by
  have k : mk9 ≤ m 0 4 ∧ MKs r mk9 := k
  exact NJ.un h.1 k.2.nn h.2.2
theorem NJt.o3 {lv o c pl ps it : Int} (h : NJt B m (Fmake lv o c pl ps it)) : NJo m o c ∧ (m 0 6 = 1 → ps.toNat < bN B c.toNat) := by
  rcases h with h | ⟨lv2, o2, c2, pl2, ps2, it2, e, y, n⟩
  · have h : NJo m o c ∧ ps.toNat < bN B c.toNat := h
    exact ⟨h.1, fun _ => h.2⟩
  · cases e
    exact ⟨y, fun q => absurd q n⟩
theorem NJ.t3 {lv o c pl ps it : Int} (s : m 0 6 = 1 → 0 ≤ ps ∧ ps ≤ 7) (h : NJ B (m, a, Fmake lv o c pl ps it :: r)) : NJ B (stM B (m, a, Fmake lv o c pl ps it :: r)) := by
  obtain ⟨z, t, hr⟩ := h
  obtain ⟨ho, hn⟩ := NJt.o3 t
  have z : NJz B m := z
  have hr : NJr B m r := hr
  have zj : NJz B (if m 0 6 = 1 then mJoin m o.toNat ps.toNat a.toInt else m) ∧ NJr B (if m 0 6 = 1 then mJoin m o.toNat ps.toNat a.toInt else m) r ∧ NJo (if m 0 6 = 1 then mJoin m o.toNat ps.toNat a.toInt else m) o c := by
    split
    · rename_i q
      have q8 := s q
      exact ⟨z.jn ho (hn q) (by omega), hr.jn, ho.jn⟩
    · exact ⟨z, hr, ho⟩
  show NJ B (if m 0 6 = 2 ∨ m 0 6 = 3 then (mAb B (mU m 0 8 (m 0 8 + 1)) o c pl, a, r)
    else match nxC B c.toNat 9 ps.toNat it.toNat with
    | some x => seekM B (if m 0 6 = 1 then mJoin m o.toNat ps.toNat a.toInt else m) a (Fmake lv o c pl (x.1 : Int) ((x.2 + 1 : Nat) : Int) :: r) (x.2 : Int) pl lv
    | none => if bE B c.toNat 30 ≠ 0 then mGo (if m 0 6 = 1 then mJoin m o.toNat ps.toNat a.toInt else m) a (Fwork lv o c pl 0 0 ((bE B c.toNat 30 - 1 : Nat) : Int) 0 [] :: Fopen lv o c pl :: r)
      else mAns (mDone (if m 0 6 = 1 then mJoin m o.toNat ps.toNat a.toInt else m) o.toNat) (nI o.toNat) r)
  split
  · exact NJ.go z (SMj.tr (SMj.u0 (by decide)) SMj.ab) hr
  · split
    · rename_i x2 e2
      have nb := nxC_q 9 ps.toNat it.toNat (p := x2.1) (d := x2.2) e2
      exact NJ.sk zj.1 (NJr.c (show NJo _ o c ∧ ((x2.1 : Nat) : Int).toNat < bN B c.toNat from ⟨zj.2.2, by omega⟩) (show (3 : Nat) ≠ 5 by decide) zj.2.1)
    · split
      · exact NJ.gg zj.1 (NJr.c (show NJo _ o c from zj.2.2) (show (12 : Nat) ≠ 5 by decide) (NJr.c (show NJo _ o c from zj.2.2) (show (4 : Nat) ≠ 5 by decide) zj.2.1))
      · exact NJ.dn zj.1 zj.2.2 zj.2.1
theorem NJ.t4 {lv o c pl : Int} (h : NJ B (m, a, Fopen lv o c pl :: r)) : NJ B (stM B (m, a, Fopen lv o c pl :: r)) := by
  have ho : NJo m o c := NJt.g h.2.1 (show (4 : Nat) ≠ 3 by decide)
  show NJ B (if m 0 6 = 2 ∨ m 0 6 = 3 then (mAb B m o c pl, a, r) else mAns (mDone m o.toNat) (nI o.toNat) r)
  split
  · exact NJ.go h.1 SMj.ab h.2.2
  · exact NJ.dn h.1 ho h.2.2
theorem NJ.t5 {lv o c sc me : Int} {v : Int32} (h : NJ B (m, a, Fcall0 lv o c sc me v :: r)) : NJ B (stM B (m, a, Fcall0 lv o c sc me v :: r)) := by
  have ho : 0 ≤ o → o < m 0 2 → NJo m o c := NJt.g h.2.1 (show (5 : Nat) ≠ 3 by decide)
  show NJ B (if ¬ mCan m then mSpent m a r else if 10 < lv then mFail (mSt m) a 0 13 r else if ¬ (0 ≤ o ∧ o < m 0 2 ∧ m 3 o.toNat = 1) then mFail (mSt m) a 0 17 r else mGo (mSt m) a (Fin0 lv o c sc me 0 v :: Fcall1 lv o c sc me :: r))
  have zs : NJz B (mSt m) := NJz.mv h.1 SMj.stp
  have rs : NJr B (mSt m) r := NJr.sm h.2.2 SMj.stp
  split
  · exact NJ.sp h.1 h.2.2
  · split
    · exact NJ.fl zs rs
    · split
      · exact NJ.fl zs rs
      · rename_i q
        have q : 0 ≤ o ∧ o < m 0 2 ∧ m 3 o.toNat = 1 := Decidable.of_not_not q
        have y : NJo (mSt m) o c := (ho q.1 q.2.1).mv (Int.le_refl _) (fun j _ => rfl)
        exact NJ.gg zs (NJr.c (show NJo _ o c from y) (show (8 : Nat) ≠ 5 by decide) (NJr.c (show NJo _ o c from y) (show (6 : Nat) ≠ 5 by decide) rs))
theorem NJ.rs {lv o c sc me ps nd fl : Int} (z : NJz B m) (ho : NJo m o c) (hr : NJr B m r) : NJ B (resM B m a r lv o c sc me ps nd fl) := by
  unfold resM
  split
  · exact NJ.fl z hr
  · exact NJ.gg z (NJr.c (show NJo _ o c from ho) (show (12 : Nat) ≠ 5 by decide) (NJr.c (show NJo _ o c from ho) (show (7 : Nat) ≠ 5 by decide) hr))
theorem NJ.t6 {lv o c sc me : Int} (h : NJ B (m, a, Fcall1 lv o c sc me :: r)) : NJ B (stM B (m, a, Fcall1 lv o c sc me :: r)) := by
  have ho : NJo m o c := NJt.g h.2.1 (show (6 : Nat) ≠ 3 by decide)
  show NJ B (if m 0 6 ≠ 2 then (m, a, r) else resM B m a r lv o c sc me ((wN B : Nat) : Int) (m 0 8) (m 0 9))
  split
  · exact NJ.go h.1 SMj.rf h.2.2
  · exact NJ.rs h.1 ho h.2.2
theorem NJ.t7 {lv o c sc me ps nd fl : Int} (h : NJ B (m, a, Fcall3 lv o c sc me ps nd fl :: r)) : NJ B (stM B (m, a, Fcall3 lv o c sc me ps nd fl :: r)) := by
  have ho : NJo m o c := NJt.g h.2.1 (show (7 : Nat) ≠ 3 by decide)
  show NJ B (if m 0 6 ≠ 2 then (m, a, r) else resM B m a r lv o c sc me ps nd fl)
  split
  · exact NJ.go h.1 SMj.rf h.2.2
  · exact NJ.rs h.1 ho h.2.2
theorem NJ.t8 {lv o c sc me ps : Int} {v : Int32} (h : NJ B (m, a, Fin0 lv o c sc me ps v :: r)) : NJ B (stM B (m, a, Fin0 lv o c sc me ps v :: r)) := by
  have ho : NJo m o c := NJt.g h.2.1 (show (8 : Nat) ≠ 3 by decide)
  show NJ B (match fF (bW B) (isF B 1 c.toNat me.toNat) ps.toNat with
    | some i => wrapM B m a (Fin1 lv o c sc me :: r) lv o c sc me ((i + 1 : Nat) : Int) i v
    | none => mAns m v (Fin4 lv o c sc me 0 :: r))
  split
  · exact NJ.gg h.1 (NJr.c (show NJo _ o c from ho) (show (12 : Nat) ≠ 5 by decide) (NJr.c (show NJo _ o c from ho) (show (9 : Nat) ≠ 5 by decide) h.2.2))
  · exact NJ.an h.1 (NJr.c (show NJo _ o c from ho) (show (10 : Nat) ≠ 5 by decide) h.2.2)
theorem NJ.t9 {lv o c sc me : Int} (h : NJ B (m, a, Fin1 lv o c sc me :: r)) : NJ B (stM B (m, a, Fin1 lv o c sc me :: r)) := NJ.go (m2 := m) (a2 := a) h.1 SMj.rf h.2.2
theorem NJ.t10 {lv o c sc me ps : Int} (h : NJ B (m, a, Fin4 lv o c sc me ps :: r)) : NJ B (stM B (m, a, Fin4 lv o c sc me ps :: r)) := by
  have ho : NJo m o c := NJt.g h.2.1 (show (10 : Nat) ≠ 3 by decide)
  show NJ B (if m 0 6 ≠ 1 then (m, a, r) else (match fF (bW B) (isF B 0 c.toNat me.toNat) ps.toNat with
    | some i => wrapM B m a (Fin4 lv o c sc me ((i + 1 : Nat) : Int) :: r) lv o c sc me 0 i a
    | none => if bE B c.toNat me.toNat = 0 then mFail m a 0 11 r else mGo m a (Fwork lv o c sc me 0 ((bE B c.toNat me.toNat - 1 : Nat) : Int) a [] :: Fin5 lv o c sc me ((wN B : Nat) : Int) :: r)))
  split
  · exact NJ.go h.1 SMj.rf h.2.2
  · split
    · exact NJ.gg h.1 (NJr.c (show NJo _ o c from ho) (show (12 : Nat) ≠ 5 by decide) (NJr.c (show NJo _ o c from ho) (show (10 : Nat) ≠ 5 by decide) h.2.2))
    · split
      · exact NJ.fl h.1 h.2.2
      · exact NJ.gg h.1 (NJr.c (show NJo _ o c from ho) (show (12 : Nat) ≠ 5 by decide) (NJr.c (show NJo _ o c from ho) (show (11 : Nat) ≠ 5 by decide) h.2.2))
theorem NJ.t11 {lv o c sc me ps : Int} (h : NJ B (m, a, Fin5 lv o c sc me ps :: r)) : NJ B (stM B (m, a, Fin5 lv o c sc me ps :: r)) := by
  have ho : NJo m o c := NJt.g h.2.1 (show (11 : Nat) ≠ 3 by decide)
  show NJ B (if m 0 6 ≠ 1 then (m, a, r) else (match fB (bW B) (isF B 2 c.toNat me.toNat) ps.toNat with
    | some i => wrapM B m a (Fin5 lv o c sc me (i : Int) :: r) lv o c sc me 0 i a
    | none => mAns m a r))
  split
  · exact NJ.go h.1 SMj.rf h.2.2
  · split
    · exact NJ.gg h.1 (NJr.c (show NJo _ o c from ho) (show (12 : Nat) ≠ 5 by decide) (NJr.c (show NJo _ o c from ho) (show (11 : Nat) ≠ 5 by decide) h.2.2))
    · exact NJ.an h.1 h.2.2
theorem NJ.t12 {lv o c sc me ps at9 : Int} {v : Int32} {p : List Int32} (h : NJ B (m, a, Fwork lv o c sc me ps at9 v p :: r)) : NJ B (stM B (m, a, Fwork lv o c sc me ps at9 v p :: r)) := by
  have ho : NJo m o c := NJt.g h.2.1 (show (12 : Nat) ≠ 3 by decide)
  have w : ∀ (at8 : Int) (v8 : Int32) (p8 : List Int32), NJ B (m, a, Fwork lv o c sc me ps at8 v8 p8 :: r) := fun at8 v8 p8 => NJ.g1 h.1 SMj.rf (show NJo m o c from ho) h.2.2
  show NJ B (ordM B m a r lv o c sc me ps at9.toNat v p)
  by_cases e0 : opf B.1 at9.toNat = 0
  · rw [or_0 e0]
    exact NJ.an h.1 h.2.2
  by_cases e1 : opf B.1 at9.toNat = 1
  · by_cases q : mCan m
    · rw [or_1y e1 q]
      exact NJ.g1 h.1 SMj.stp (show NJo m o c from ho) h.2.2
    · rw [or_1n e1 q]
      exact NJ.sp h.1 h.2.2
  by_cases e2 : opf B.1 at9.toNat = 2
  · rw [or_2 e2]
    exact w _ _ _
  by_cases e3 : opf B.1 at9.toNat = 3
  · rw [or_3 e3]
    exact w _ _ _
  by_cases e4 : opf B.1 at9.toNat = 4
  · rw [or_4 e4]
    exact w _ _ _
  by_cases e5 : opf B.1 at9.toNat = 5
  · rw [or_5 e5]
    exact w _ _ _
  by_cases e6 : opf B.1 at9.toNat = 6
  · rw [or_6 e6]
    exact w _ _ _
  by_cases e7 : opf B.1 at9.toNat = 7
  · rw [or_7 e7]
    exact w _ _ _
  by_cases e8 : opf B.1 at9.toNat = 8
  · rw [or_8 e8]
    exact w _ _ _
  by_cases e9 : opf B.1 at9.toNat = 9
  · rw [or_9 e9]
    exact w _ _ _
  by_cases e10 : opf B.1 at9.toNat = 10
  · rw [or_10 e10]
    exact NJ.fl h.1 h.2.2
  by_cases e11 : opf B.1 at9.toNat = 11
  · rw [or_11 e11]
    exact w _ _ _
  by_cases e12 : opf B.1 at9.toNat = 12
  · rw [or_12 e12]
    exact w _ _ _
  by_cases e13 : opf B.1 at9.toNat = 13
  · rw [or_13 e13]
    exact w _ _ _
  by_cases e14 : opf B.1 at9.toNat = 14
  · rw [or_14 e14]
    exact NJ.g1 h.1 SMj.rf (show NJo m o c from ho) h.2.2
  · unfold ordM
    rw [if_neg e0, if_neg e1, if_neg e2, if_neg e3, if_neg e4, if_neg e5, if_neg e6, if_neg e7, if_neg e8, if_neg e9, if_neg e10, if_neg e11, if_neg e12, if_neg e13, if_neg e14]
    exact NJ.gg h.1 (NJr.c (show NJo _ o c from ho) (show (8 : Nat) ≠ 5 by decide) (NJr.c (show NJo _ o c from ho) (show (13 : Nat) ≠ 5 by decide) h.2.2))
theorem NJ.t13 {lv o c sc me ps at9 : Int} {v : Int32} {p : List Int32} (h : NJ B (m, a, Fwait lv o c sc me ps at9 v p :: r)) : NJ B (stM B (m, a, Fwait lv o c sc me ps at9 v p :: r)) := by
  have ho : NJo m o c := NJt.g h.2.1 (show (13 : Nat) ≠ 3 by decide)
  show NJ B (if m 0 6 ≠ 1 then (m, a, r) else (m, a, Fwork lv o c sc me ps at9 v (a :: p) :: r))
  split
  · exact NJ.go h.1 SMj.rf h.2.2
  · exact NJ.g1 h.1 SMj.rf (show NJo m o c from ho) h.2.2
/-- whom a call reaches -/
theorem NJ.c5 {m3 : Mm} {lv x sc tg : Int} {g : Int32} {w : Fr} (z : NJz B m3) (hw : NJf B m3 w) (h5 : w.1 ≠ 5) (hr : NJr B m3 r) : NJ B (mGo m3 a (Fcall0 lv x (m3 1 x.toNat) sc tg g :: w :: r)) := NJ.g1 z (SMj.u0 (by decide)) (show 0 ≤ x → x < m3 0 2 → NJo m3 x (m3 1 x.toNat) from fun a b => ⟨a, b, rfl⟩) (NJr.c hw h5 hr)
theorem NJ.t14 {lv o c sc at9 nd tg : Int} {v g : Int32} {p : List Int32} (s : nd.toNat < bN B c.toNat) (h : NJ B (m, a, Fask lv o c sc at9 nd tg v g p :: r)) : NJ B (stM B (m, a, Fask lv o c sc at9 nd tg v g p :: r)) := by
  have ho : NJo m o c := NJt.g h.2.1 (show (14 : Nat) ≠ 3 by decide)
  show NJ B (if bK B c.toNat nd.toNat = 2 then mAns m 0 (Fsum lv o c sc at9 nd tg 0 v g 0 p :: r)
    else match jnd m o.toNat nd.toNat 0 with
    | none => if bK B c.toNat nd.toNat = 1 then (if 10 ≤ lv then mFail m a 0 13 (Fget lv o c sc at9 nd tg v g p :: r) else mGo m a (Froot0 (lv + 1) (((bC B c.toNat nd.toNat).headD 0 : Nat) : Int) sc (m 0 4) :: Fget lv o c sc at9 nd tg v g p :: r))
      else mGo m a (Fcall0 (lv + 1) (-1) 0 sc tg g :: Fwait lv o c sc 0 0 at9 v p :: r)
    | some x => mGo m a (Fcall0 (lv + 1) x (m 1 x.toNat) sc tg g :: Fwait lv o c sc 0 0 at9 v p :: r))
  have fg : NJr B m (Fget lv o c sc at9 nd tg v g p :: r) := NJr.c (show NJo m o c ∧ nd.toNat < bN B c.toNat from ⟨ho, s⟩) (show (15 : Nat) ≠ 5 by decide) h.2.2
  split
  · exact NJ.an h.1 (NJr.c (show NJo _ o c from ho) (show (16 : Nat) ≠ 5 by decide) h.2.2)
  · split
    · split
      · split
        · exact NJ.fl h.1 fg
        · exact NJ.gg h.1 (NJr.c (show NJf B m (Froot0 (lv + 1) (((bC B c.toNat nd.toNat).headD 0 : Nat) : Int) sc (m 0 4)) from trivial) (show (0 : Nat) ≠ 5 by decide) fg)
      · exact NJ.g1 h.1 (SMj.u0 (by decide)) (show (0 : Int) ≤ -1 → (-1 : Int) < m 0 2 → NJo m (-1) 0 from fun q => absurd q (by decide)) (NJr.c (show NJo _ o c from ho) (show (13 : Nat) ≠ 5 by decide) h.2.2)
    · exact NJ.c5 h.1 (show NJo _ o c from ho) (show (13 : Nat) ≠ 5 by decide) h.2.2
theorem NJ.t15 {lv o c sc at9 nd tg : Int} {v g : Int32} {p : List Int32} (s : m 0 6 = 1 → 0 ≤ nd ∧ nd ≤ 7) (h : NJ B (m, a, Fget lv o c sc at9 nd tg v g p :: r)) : NJ B (stM B (m, a, Fget lv o c sc at9 nd tg v g p :: r)) := by
  have ho : NJo m o c ∧ nd.toNat < bN B c.toNat := NJt.g h.2.1 (show (15 : Nat) ≠ 3 by decide)
  show NJ B (if m 0 6 ≠ 1 then (m, a, r) else mGo (if bS B (m 1 a.toInt.toNat).toNat = 3 ∧ jnd m o.toNat nd.toNat 0 = none then mJoin m o.toNat nd.toNat a.toInt else m) a (Fcall0 (lv + 1) a.toInt (m 1 a.toInt.toNat) sc tg g :: Fwait lv o c sc 0 0 at9 v p :: r))
  split
  · exact NJ.go h.1 SMj.rf h.2.2
  · rename_i q
    have q8 := s (Decidable.of_not_not q)
    by_cases hj : bS B (m 1 a.toInt.toNat).toNat = 3 ∧ jnd m o.toNat nd.toNat 0 = none
    · rw [if_pos hj]
      have e : m 1 a.toInt.toNat = mJoin m o.toNat nd.toNat a.toInt 1 a.toInt.toNat := (mJn_o (by decide) (by decide)).symm
      rw [e]
      exact NJ.c5 (NJz.jn h.1 ho.1 ho.2 (by omega)) (show NJo _ o c from ho.1.jn) (show (13 : Nat) ≠ 5 by decide) (NJr.jn h.2.2)
    · rw [if_neg hj]
      exact NJ.c5 h.1 (show NJo _ o c from ho.1) (show (13 : Nat) ≠ 5 by decide) h.2.2
theorem NJ.t16 {lv o c sc at9 nd tg it : Int} {v g u : Int32} {p : List Int32} (h : NJ B (m, a, Fsum lv o c sc at9 nd tg it v g u p :: r)) : NJ B (stM B (m, a, Fsum lv o c sc at9 nd tg it v g u p :: r)) := by
  have ho : NJo m o c := NJt.g h.2.1 (show (16 : Nat) ≠ 3 by decide)
  show NJ B (if m 0 6 ≠ 1 then (m, a, r) else (match jnd m o.toNat nd.toNat it with
    | none => (m, a, Fwork lv o c sc 0 0 at9 v ((u + a) :: p) :: r)
    | some x => mGo m a (Fcall0 (lv + 1) x (m 1 x.toNat) sc tg g :: Fsum lv o c sc at9 nd tg (it + 1) v g (u + a) p :: r)))
  split
  · exact NJ.go h.1 SMj.rf h.2.2
  · split
    · exact NJ.g1 h.1 SMj.rf (show NJo m o c from ho) h.2.2
    · exact NJ.c5 h.1 (show NJo _ o c from ho) (show (16 : Nat) ≠ 5 by decide) h.2.2
theorem NJ.cl {o : Int} (z : NJz B m) (h : NJr B m r) : NJ B (cloM m a r o) := by
  unfold cloM
  split
  · exact NJ.go z (SMj.tr SMj.nt (SMj.ux (by decide))) h
  · split
    · exact NJ.go z (SMj.tr SMj.nt (SMj.ux (by decide))) h
    · exact NJ.go z (SMj.tr (SMj.tr SMj.nt (SMj.ux (by decide))) (SMj.u0 (by decide))) h
theorem NJ.t17 {lv o c sc : Int} (h : NJ B (m, a, Fclo0 lv o c sc :: r)) : NJ B (stM B (m, a, Fclo0 lv o c sc :: r)) := by
  have ho : NJo m o c := NJt.g h.2.1 (show (17 : Nat) ≠ 3 by decide)
  show NJ B (if bE B c.toNat 31 ≠ 0 then mGo m a (Fwork lv o c sc 0 0 ((bE B c.toNat 31 - 1 : Nat) : Int) 0 [] :: Fclo1 lv o c sc :: r) else cloM m a r o)
  split
  · exact NJ.gg h.1 (NJr.c (show NJo _ o c from ho) (show (12 : Nat) ≠ 5 by decide) (NJr.c (show NJo _ o c from ho) (show (18 : Nat) ≠ 5 by decide) h.2.2))
  · exact NJ.cl h.1 h.2.2
theorem NJ.t18 {lv o c sc : Int} (h : NJ B (m, a, Fclo1 lv o c sc :: r)) : NJ B (stM B (m, a, Fclo1 lv o c sc :: r)) := NJ.cl h.1 h.2.2
/-- each step keeps it -/
theorem NJ.st (h : NJ B (m, a, f :: r)) (s : SF B (m, a, f :: r)) (k : MKs (f :: r) (m 0 4)) : NJ B (stM B (m, a, f :: r)) := by
  have st : SFt B m a f := s.2.2.2.2 f r rfl
  rcases h.2.1 with t | ⟨lv, o, c, pl, ps, it, e, _, _⟩
  · have t : NJf B m f := t
    unfold NJf at t
    split at t
    · exact h.t0
    · exact NJ.t1 k h
    · exact NJ.t2 k h
    · exact NJ.t3 (fun q => (st.2.1 q).1) h
    · exact h.t4
    · exact h.t5
    · exact h.t6
    · exact h.t7
    · exact h.t8
    · exact h.t9
    · exact h.t10
    · exact h.t11
    · exact h.t12
    · exact h.t13
    · exact NJ.t14 st.2.2.2.2.2.2.2 h
    · exact NJ.t15 (fun q => (st.2.2 q).1) h
    · exact h.t16
    · exact h.t17
    · exact h.t18
    · exact t.elim
  · subst e
    exact NJ.t3 (fun q => (st.2.1 q).1) h
end NJs
/-! what the law keeps -/
def LN11 (V : Vf) (L : Lf) (b : Nat) (Vm : Vf) (Lm : Lf) (q : Nat) : Prop := ∃ s : St, (TBc V L b s ∧ TBm Vm Lm q s (s.2.1 2) ∧ NKs s) ∧ KEP V b Vm q s ∧ KMB V b Vm s ∧ NJz (s, vS V b) (mV Vm 0 0 0)
theorem LN11.mv {V V1 Vm Vm1 : Vf} {L L1 Lm Lm1 : Lf} {b q : Nat} (h : LN11 V L b Vm Lm q) (t : ∀ s, (TBc V L b s ∧ TBm Vm Lm q s (s.2.1 2) ∧ NKs s) → TBc V1 L1 b s ∧ TBm Vm1 Lm1 q s (s.2.1 2) ∧ NKs s) (k : ∀ s, KEP V b Vm q s → KEP V1 b Vm1 q s) (m : ∀ s, (KMB V b Vm s ∧ NJz (s, vS V b) (mV Vm 0 0 0)) → KMB V1 b Vm1 s ∧ NJz (s, vS V1 b) (mV Vm1 0 0 0)) : LN11 V1 L1 b Vm1 Lm1 q := by
  obtain ⟨s, a, d, e⟩ := h
  exact ⟨s, t s a, k s d, m s e⟩


abbrev r_s_forget11 : Room := { frames := 0, cells := 0, slots := 0, locals := 0 }
abbrev q_s_forget11 (D : va_G) (ks : KS) (ad : Nat → Nat) (kk : Nat → ClassId) (V : Vf) (L : Lf) (A : Nat → Prop) : Array Value → State → Outcome → State → Prop := va_Qv (fun (u : Vf × Lf) => rgd bM u.1 ∧ agr [(0, 54), (0, 55), (0, 60), (0, 65), (0, 69), (0, 70), (0, 71), (0, 72), (0, 73), (0, 76), (0, 81)] [56, 57, 59] V u.1 ∧ u.2 = L ∧ ((u.1 0 60).toInt = 0 ∧ (u.1 0 54).toInt = 0 ∧ (u.1 0 65).toInt = 0 ∧ (u.1 0 73).toInt = 0 ∧ (u.1 0 76).toInt = 0) ∧ ((u.1 0 55).toInt = 1) ∧ ((u.1 0 81).toInt = 0) ∧ ((u.1 0 71).toInt = 0 ∧ (u.1 0 72).toInt = 0 ∧ (u.1 0 69).toInt = 0) ∧ ((u.1 56 0).toInt = 1 ∧ (u.1 57 0).toInt = 0 ∧ (∀ s9 : Nat, s9 ≠ 0 → u.1 57 s9 = V 57 s9) ∧ ∀ q9 : Nat, q9 < 960 → (u.1 59 q9).toInt = 0)) (fun u t => gq D A (mw ad kk ks.1 u.1 u.2) (mty kk) t) A
set_option maxHeartbeats 4000000 in
set_option maxRecDepth 100000 in
theorem s_forget11 (l : Launch) (D : va_G) (ks : KS) (sz : Nat) (ad : Nat → Nat) (kk : Nat → ClassId) (V : Vf) (L : Lf)  (hMV : rgd bM V)  : Met l yX12_forget (Cond.code yX12_forget cX12_forget 2 none :: GW) r_s_forget11 (va_Pc [.ref (ad 0)] (gp D ks (mw ad kk ks.1 V L) (mty kk) sz)) (q_s_forget11 D ks ad kk V L  (va_A (mw ad kk ks.1 V L) sz)) 0 0 (va_A (mw ad kk ks.1 V L) sz) := by
  refine g_met (q_s_forget11 D ks ad kk V L) (by decide) (Nat.le_of_ble_eq_true rfl) ?_
  intro p e s m below meth c A ls H locs hx hb hr hml hown hg hlocks hin hnw hgk hP hK hD hS hA hl
  replace hown : s.vm.findClass RX12 = some m.cls := hown
  replace hl : lv_has ls 2 [(0, .ref (ad 0))] := hl
  replace hP : va_P D vwCl (mw ad kk ks.1 V L) H := hP
  replace hD : va_D A (mw ad kk ks.1 V L) := hD
  replace hK : va_K D vwCl (mty kk) s := hK
  have agV : agr [(0, 54), (0, 55), (0, 60), (0, 65), (0, 69), (0, 70), (0, 71), (0, 72), (0, 73), (0, 76), (0, 81)] [56, 57, 59] V V := agr.rf
  refine lv_aload_n hx hb dX12_forget_0 rfl (lv_at hl 0 rfl) ?_
  refine lv_iconst (v := 0) hx hb dX12_forget_1 (by decide) ?_
  refine va_put (D := D) (ci := 12) (v := .int 0) (ty := tyX12 54) (C := RX12) (T := TX12) (N := 100) hx hb hg inX12 tyX12 tyX12_ok nmX12 hown hK hP hD hS 0 rfl rfl 54 (by decide) (hg _ w1760) (fun _ h9 => h9) rfl (tyX12_ok 54 (by decide)) rfl rfl (Nat.le_of_ble_eq_true rfl) dX12_forget_2 (fun H locs hP hD hS => ?_)
  obtain ⟨V1, hV1⟩ : ∃ z, z = up2 V 0 54 0 := ⟨_, rfl⟩
  have hP : va_P D vwCl (mw ad kk ks.1 V1 L) H := by rw [hV1]; exact hP
  have hD : va_D A (mw ad kk ks.1 V1 L) := by rw [hV1]; exact hD
  have hMV1 : rgd bM V1 := hMV.put hV1 (by decide)
  have agV1 : agr [(0, 54), (0, 55), (0, 60), (0, 65), (0, 69), (0, 70), (0, 71), (0, 72), (0, 73), (0, 76), (0, 81)] [56, 57, 59] V V1 := agV.up hV1 rfl
  refine lv_aload_n hx hb dX12_forget_5 rfl (lv_at hl 0 rfl) ?_
  refine lv_iconst (v := 1) hx hb dX12_forget_6 (by decide) ?_
  refine va_put (D := D) (ci := 12) (v := .int 1) (ty := tyX12 55) (C := RX12) (T := TX12) (N := 100) hx hb hg inX12 tyX12 tyX12_ok nmX12 hown hK hP hD hS 0 rfl rfl 55 (by decide) (hg _ w1761) (fun _ h9 => h9) rfl (tyX12_ok 55 (by decide)) rfl rfl (Nat.le_of_ble_eq_true rfl) dX12_forget_7 (fun H locs hP hD hS => ?_)
  obtain ⟨V2, hV2⟩ : ∃ z, z = up2 V1 0 55 1 := ⟨_, rfl⟩
  have hP : va_P D vwCl (mw ad kk ks.1 V2 L) H := by rw [hV2]; exact hP
  have hD : va_D A (mw ad kk ks.1 V2 L) := by rw [hV2]; exact hD
  have hMV2 : rgd bM V2 := hMV1.put hV2 (by decide)
  have agV2 : agr [(0, 54), (0, 55), (0, 60), (0, 65), (0, 69), (0, 70), (0, 71), (0, 72), (0, 73), (0, 76), (0, 81)] [56, 57, 59] V V2 := agV1.up hV2 rfl
  refine lv_aload_n hx hb dX12_forget_10 rfl (lv_at hl 0 rfl) ?_
  refine va_get (D := D) (ci := 12) (v := .ref (ad 56)) (C := RX12) (T := TX12) (N := 100) hx hb hg inX12 hown hK hP 0 rfl rfl 56 (by decide) (hg _ w1762) (fun _ h9 => h9) rfl dX12_forget_11 ?_
  refine lv_iconst (v := 0) hx hb dX12_forget_14 (by decide) ?_
  refine lv_iconst (v := 1) hx hb dX12_forget_15 (by decide) ?_
  refine va_zast (D := D) (i := 0) (x := 1) hx hb hK hP hD hS 42 41 rfl rfl (i_in (a := 0) (by decide) (by decide)) dX12_forget_16 (fun H locs hP hD hS => ?_)
  obtain ⟨V3, hV3⟩ : ∃ z, z = up2 V2 56 (Int32.toNatClampNeg 0) (vp_nar .boolean 1) := ⟨_, rfl⟩
  have hP : va_P D vwCl (mw ad kk ks.1 V3 L) H := by rw [hV3]; exact hP
  have hD : va_D A (mw ad kk ks.1 V3 L) := by rw [hV3]; exact hD
  have hMV3 : rgd bM V3 := hMV2.put hV3 (nar_b _)
  have agV3 : agr [(0, 54), (0, 55), (0, 60), (0, 65), (0, 69), (0, 70), (0, 71), (0, 72), (0, 73), (0, 76), (0, 81)] [56, 57, 59] V V3 := agV2.up hV3 rfl
  refine lv_aload_n hx hb dX12_forget_17 rfl (lv_at hl 0 rfl) ?_
  refine va_get (D := D) (ci := 12) (v := .ref (ad 57)) (C := RX12) (T := TX12) (N := 100) hx hb hg inX12 hown hK hP 0 rfl rfl 57 (by decide) (hg _ w1763) (fun _ h9 => h9) rfl dX12_forget_18 ?_
  refine lv_iconst (v := 0) hx hb dX12_forget_21 (by decide) ?_
  refine lv_iconst (v := 0) hx hb dX12_forget_22 (by decide) ?_
  refine va_iast (D := D) (i := 0) (x := 0) hx hb hK hP hD hS 43 42 rfl rfl (i_in (a := 0) (by decide) (by decide)) dX12_forget_23 (fun H locs hP hD hS => ?_)
  obtain ⟨V4, hV4⟩ : ∃ z, z = up2 V3 57 (Int32.toNatClampNeg 0) 0 := ⟨_, rfl⟩
  have hP : va_P D vwCl (mw ad kk ks.1 V4 L) H := by rw [hV4]; exact hP
  have hD : va_D A (mw ad kk ks.1 V4 L) := by rw [hV4]; exact hD
  have hMV4 : rgd bM V4 := hMV3.put hV4 (i_full _)
  have agV4 : agr [(0, 54), (0, 55), (0, 60), (0, 65), (0, 69), (0, 70), (0, 71), (0, 72), (0, 73), (0, 76), (0, 81)] [56, 57, 59] V V4 := agV3.up hV4 rfl
  refine lv_iconst (v := 0) hx hb dX12_forget_24 (by decide) ?_
  refine lv_istore_n (lv' := [(1, .int 0), (0, .ref (ad 0))]) hx hb dX12_forget_25 rfl hl (by decide) rfl (fun ls hl => ?_)
  have lp7 : ∀ (fulp7 : Nat) (y5 : Int32) (V6 : Vf) (H : Heap) (locs : List Loc) (ls : Array Slot), 0 ≤ y5.toInt ∧ y5.toInt ≤ 960 → (∀ j9 : Nat, (j9 : Int) < y5.toInt → (V6 59 j9).toInt = 0) → 960 - y5.toInt < (fulp7 : Int) → agr [] [59] V4 V6 → rgd bM V6 → va_P D vwCl (mw ad kk ks.1 V6 L) H → va_D A (mw ad kk ks.1 V6 L) → va_S A s.heap H locs → lv_has ls 2 [(1, .int y5), (0, .ref (ad 0))] → W p l e r_s_forget11 s m ([.ref (ad 0)] : List Value).toArray below meth c H locs 0 0 (MQ below (q_s_forget11 D ks ad kk V L  A) ([.ref (ad 0)] : List Value).toArray s 0 0 A) (F0 m 26 ls []) := by
    intro fulp7
    induction fulp7 with
    | zero =>
      intro y5 V6 H locs ls klp7_0 xlp7_0 hn ajV6 hMV6 hP hD hS hl
      exfalso; (first | exact om_c8d4dd19bb17 klp7_0.2 hn | omega)
    | succ fulp7 ihlp7 =>
      intro y5 V6 H locs ls klp7_0 xlp7_0 hn ajV6 hMV6 hP hD hS hl
      have agV6 : agr [(0, 54), (0, 55), (0, 60), (0, 65), (0, 69), (0, 70), (0, 71), (0, 72), (0, 73), (0, 76), (0, 81)] [56, 57, 59] V V6 := agV4.tr ajV6 (by decide) (by decide)
      refine lv_iload_n hx hb dX12_forget_26 rfl (lv_at hl 0 rfl) ?_
      refine lv_sipush (v := 960) hx hb dX12_forget_27 (by decide) ?_
      refine lv_icmp_ge (tgt := 46) hx hb dX12_forget_30 (by decide) (fun c8 => ?_) (fun c8 => ?_)
      · skip
        have f9 : 960 ≤ y5.toInt := b_le (by decide) rfl c8
        refine lv_aload_n hx hb dX12_forget_46 rfl (lv_at hl 1 rfl) ?_
        refine lv_iconst (v := 0) hx hb dX12_forget_47 (by decide) ?_
        refine va_put (D := D) (ci := 12) (v := .int 0) (ty := tyX12 60) (C := RX12) (T := TX12) (N := 100) hx hb hg inX12 tyX12 tyX12_ok nmX12 hown hK hP hD hS 0 rfl rfl 60 (by decide) (hg _ w1766) (fun _ h9 => h9) rfl (tyX12_ok 60 (by decide)) rfl rfl (Nat.le_of_ble_eq_true rfl) dX12_forget_48 (fun H locs hP hD hS => ?_)
        obtain ⟨V10, hV10⟩ : ∃ z, z = up2 V6 0 60 0 := ⟨_, rfl⟩
        have hP : va_P D vwCl (mw ad kk ks.1 V10 L) H := by rw [hV10]; exact hP
        have hD : va_D A (mw ad kk ks.1 V10 L) := by rw [hV10]; exact hD
        have hMV10 : rgd bM V10 := hMV6.put hV10 (by decide)
        have agV10 : agr [(0, 54), (0, 55), (0, 60), (0, 65), (0, 69), (0, 70), (0, 71), (0, 72), (0, 73), (0, 76), (0, 81)] [56, 57, 59] V V10 := agV6.up hV10 rfl
        refine lv_aload_n hx hb dX12_forget_51 rfl (lv_at hl 1 rfl) ?_
        refine lv_iconst (v := 0) hx hb dX12_forget_52 (by decide) ?_
        refine va_put (D := D) (ci := 12) (v := .int 0) (ty := tyX12 65) (C := RX12) (T := TX12) (N := 100) hx hb hg inX12 tyX12 tyX12_ok nmX12 hown hK hP hD hS 0 rfl rfl 65 (by decide) (hg _ w1771) (fun _ h9 => h9) rfl (tyX12_ok 65 (by decide)) rfl rfl (Nat.le_of_ble_eq_true rfl) dX12_forget_53 (fun H locs hP hD hS => ?_)
        obtain ⟨V11, hV11⟩ : ∃ z, z = up2 V10 0 65 0 := ⟨_, rfl⟩
        have hP : va_P D vwCl (mw ad kk ks.1 V11 L) H := by rw [hV11]; exact hP
        have hD : va_D A (mw ad kk ks.1 V11 L) := by rw [hV11]; exact hD
        have hMV11 : rgd bM V11 := hMV10.put hV11 (by decide)
        have agV11 : agr [(0, 54), (0, 55), (0, 60), (0, 65), (0, 69), (0, 70), (0, 71), (0, 72), (0, 73), (0, 76), (0, 81)] [56, 57, 59] V V11 := agV10.up hV11 rfl
        refine lv_aload_n hx hb dX12_forget_56 rfl (lv_at hl 1 rfl) ?_
        refine lv_iconst (v := 0) hx hb dX12_forget_57 (by decide) ?_
        refine va_put (D := D) (ci := 12) (v := .int 0) (ty := tyX12 73) (C := RX12) (T := TX12) (N := 100) hx hb hg inX12 tyX12 tyX12_ok nmX12 hown hK hP hD hS 0 rfl rfl 73 (by decide) (hg _ w1779) (fun _ h9 => h9) rfl (tyX12_ok 73 (by decide)) rfl rfl (Nat.le_of_ble_eq_true rfl) dX12_forget_58 (fun H locs hP hD hS => ?_)
        obtain ⟨V12, hV12⟩ : ∃ z, z = up2 V11 0 73 0 := ⟨_, rfl⟩
        have hP : va_P D vwCl (mw ad kk ks.1 V12 L) H := by rw [hV12]; exact hP
        have hD : va_D A (mw ad kk ks.1 V12 L) := by rw [hV12]; exact hD
        have hMV12 : rgd bM V12 := hMV11.put hV12 (by decide)
        have agV12 : agr [(0, 54), (0, 55), (0, 60), (0, 65), (0, 69), (0, 70), (0, 71), (0, 72), (0, 73), (0, 76), (0, 81)] [56, 57, 59] V V12 := agV11.up hV12 rfl
        refine lv_aload_n hx hb dX12_forget_61 rfl (lv_at hl 1 rfl) ?_
        refine lv_iconst (v := 0) hx hb dX12_forget_62 (by decide) ?_
        refine va_put (D := D) (ci := 12) (v := .int 0) (ty := tyX12 76) (C := RX12) (T := TX12) (N := 100) hx hb hg inX12 tyX12 tyX12_ok nmX12 hown hK hP hD hS 0 rfl rfl 76 (by decide) (hg _ w1782) (fun _ h9 => h9) rfl (tyX12_ok 76 (by decide)) rfl rfl (Nat.le_of_ble_eq_true rfl) dX12_forget_63 (fun H locs hP hD hS => ?_)
        obtain ⟨V13, hV13⟩ : ∃ z, z = up2 V12 0 76 0 := ⟨_, rfl⟩
        have hP : va_P D vwCl (mw ad kk ks.1 V13 L) H := by rw [hV13]; exact hP
        have hD : va_D A (mw ad kk ks.1 V13 L) := by rw [hV13]; exact hD
        have hMV13 : rgd bM V13 := hMV12.put hV13 (by decide)
        have agV13 : agr [(0, 54), (0, 55), (0, 60), (0, 65), (0, 69), (0, 70), (0, 71), (0, 72), (0, 73), (0, 76), (0, 81)] [56, 57, 59] V V13 := agV12.up hV13 rfl
        refine lv_aload_n hx hb dX12_forget_66 rfl (lv_at hl 1 rfl) ?_
        refine lv_iconst (v := 0) hx hb dX12_forget_67 (by decide) ?_
        refine va_put (D := D) (ci := 12) (v := .int 0) (ty := tyX12 70) (C := RX12) (T := TX12) (N := 100) hx hb hg inX12 tyX12 tyX12_ok nmX12 hown hK hP hD hS 0 rfl rfl 70 (by decide) (hg _ w1776) (fun _ h9 => h9) rfl (tyX12_ok 70 (by decide)) rfl rfl (Nat.le_of_ble_eq_true rfl) dX12_forget_68 (fun H locs hP hD hS => ?_)
        obtain ⟨V14, hV14⟩ : ∃ z, z = up2 V13 0 70 0 := ⟨_, rfl⟩
        have hP : va_P D vwCl (mw ad kk ks.1 V14 L) H := by rw [hV14]; exact hP
        have hD : va_D A (mw ad kk ks.1 V14 L) := by rw [hV14]; exact hD
        have hMV14 : rgd bM V14 := hMV13.put hV14 (i_full _)
        have agV14 : agr [(0, 54), (0, 55), (0, 60), (0, 65), (0, 69), (0, 70), (0, 71), (0, 72), (0, 73), (0, 76), (0, 81)] [56, 57, 59] V V14 := agV13.up hV14 rfl
        refine lv_aload_n hx hb dX12_forget_71 rfl (lv_at hl 1 rfl) ?_
        refine lv_iconst (v := 0) hx hb dX12_forget_72 (by decide) ?_
        refine va_put (D := D) (ci := 12) (v := .int 0) (ty := tyX12 71) (C := RX12) (T := TX12) (N := 100) hx hb hg inX12 tyX12 tyX12_ok nmX12 hown hK hP hD hS 0 rfl rfl 71 (by decide) (hg _ w1777) (fun _ h9 => h9) rfl (tyX12_ok 71 (by decide)) rfl rfl (Nat.le_of_ble_eq_true rfl) dX12_forget_73 (fun H locs hP hD hS => ?_)
        obtain ⟨V15, hV15⟩ : ∃ z, z = up2 V14 0 71 0 := ⟨_, rfl⟩
        have hP : va_P D vwCl (mw ad kk ks.1 V15 L) H := by rw [hV15]; exact hP
        have hD : va_D A (mw ad kk ks.1 V15 L) := by rw [hV15]; exact hD
        have hMV15 : rgd bM V15 := hMV14.put hV15 (i_full _)
        have agV15 : agr [(0, 54), (0, 55), (0, 60), (0, 65), (0, 69), (0, 70), (0, 71), (0, 72), (0, 73), (0, 76), (0, 81)] [56, 57, 59] V V15 := agV14.up hV15 rfl
        refine lv_aload_n hx hb dX12_forget_76 rfl (lv_at hl 1 rfl) ?_
        refine lv_iconst (v := 0) hx hb dX12_forget_77 (by decide) ?_
        refine va_put (D := D) (ci := 12) (v := .int 0) (ty := tyX12 72) (C := RX12) (T := TX12) (N := 100) hx hb hg inX12 tyX12 tyX12_ok nmX12 hown hK hP hD hS 0 rfl rfl 72 (by decide) (hg _ w1778) (fun _ h9 => h9) rfl (tyX12_ok 72 (by decide)) rfl rfl (Nat.le_of_ble_eq_true rfl) dX12_forget_78 (fun H locs hP hD hS => ?_)
        obtain ⟨V16, hV16⟩ : ∃ z, z = up2 V15 0 72 0 := ⟨_, rfl⟩
        have hP : va_P D vwCl (mw ad kk ks.1 V16 L) H := by rw [hV16]; exact hP
        have hD : va_D A (mw ad kk ks.1 V16 L) := by rw [hV16]; exact hD
        have hMV16 : rgd bM V16 := hMV15.put hV16 (i_full _)
        have agV16 : agr [(0, 54), (0, 55), (0, 60), (0, 65), (0, 69), (0, 70), (0, 71), (0, 72), (0, 73), (0, 76), (0, 81)] [56, 57, 59] V V16 := agV15.up hV16 rfl
        refine lv_aload_n hx hb dX12_forget_81 rfl (lv_at hl 1 rfl) ?_
        refine lv_iconst (v := 0) hx hb dX12_forget_82 (by decide) ?_
        refine va_put (D := D) (ci := 12) (v := .int 0) (ty := tyX12 69) (C := RX12) (T := TX12) (N := 100) hx hb hg inX12 tyX12 tyX12_ok nmX12 hown hK hP hD hS 0 rfl rfl 69 (by decide) (hg _ w1775) (fun _ h9 => h9) rfl (tyX12_ok 69 (by decide)) rfl rfl (Nat.le_of_ble_eq_true rfl) dX12_forget_83 (fun H locs hP hD hS => ?_)
        obtain ⟨V17, hV17⟩ : ∃ z, z = up2 V16 0 69 0 := ⟨_, rfl⟩
        have hP : va_P D vwCl (mw ad kk ks.1 V17 L) H := by rw [hV17]; exact hP
        have hD : va_D A (mw ad kk ks.1 V17 L) := by rw [hV17]; exact hD
        have hMV17 : rgd bM V17 := hMV16.put hV17 (by decide)
        have agV17 : agr [(0, 54), (0, 55), (0, 60), (0, 65), (0, 69), (0, 70), (0, 71), (0, 72), (0, 73), (0, 76), (0, 81)] [56, 57, 59] V V17 := agV16.up hV17 rfl
        refine lv_aload_n hx hb dX12_forget_86 rfl (lv_at hl 1 rfl) ?_
        refine lv_iconst (v := 0) hx hb dX12_forget_87 (by decide) ?_
        refine va_put (D := D) (ci := 12) (v := .int 0) (ty := tyX12 81) (C := RX12) (T := TX12) (N := 100) hx hb hg inX12 tyX12 tyX12_ok nmX12 hown hK hP hD hS 0 rfl rfl 81 (by decide) (hg _ w1787) (fun _ h9 => h9) rfl (tyX12_ok 81 (by decide)) rfl rfl (Nat.le_of_ble_eq_true rfl) dX12_forget_88 (fun H locs hP hD hS => ?_)
        obtain ⟨V18, hV18⟩ : ∃ z, z = up2 V17 0 81 0 := ⟨_, rfl⟩
        have hP : va_P D vwCl (mw ad kk ks.1 V18 L) H := by rw [hV18]; exact hP
        have hD : va_D A (mw ad kk ks.1 V18 L) := by rw [hV18]; exact hD
        have hMV18 : rgd bM V18 := hMV17.put hV18 (by decide)
        have agV18 : agr [(0, 54), (0, 55), (0, 60), (0, 65), (0, 69), (0, 70), (0, 71), (0, 72), (0, 73), (0, 76), (0, 81)] [56, 57, 59] V V18 := agV17.up hV18 rfl
        have pq19 : (V18 0 73).toInt = 0 := (congrArg Int32.toInt ((up2_k hV18 (by decide)).trans ((up2_k hV17 (by decide)).trans ((up2_k hV16 (by decide)).trans ((up2_k hV15 (by decide)).trans ((up2_k hV14 (by decide)).trans ((up2_k hV13 (by decide)).trans (up2_s hV12)))))))).trans (by decide)
        have pq20 : (V18 0 76).toInt = 0 := (congrArg Int32.toInt ((up2_k hV18 (by decide)).trans ((up2_k hV17 (by decide)).trans ((up2_k hV16 (by decide)).trans ((up2_k hV15 (by decide)).trans ((up2_k hV14 (by decide)).trans (up2_s hV13))))))).trans (by decide)
        have pq21 : (V18 0 54).toInt = 0 := (congrArg Int32.toInt ((up2_k hV18 (by decide)).trans ((up2_k hV17 (by decide)).trans ((up2_k hV16 (by decide)).trans ((up2_k hV15 (by decide)).trans ((up2_k hV14 (by decide)).trans ((up2_k hV13 (by decide)).trans ((up2_k hV12 (by decide)).trans ((up2_k hV11 (by decide)).trans ((up2_k hV10 (by decide)).trans ((ajV6 0 54 rfl).trans ((up2_o hV4 (by decide)).trans ((up2_o hV3 (by decide)).trans ((up2_k hV2 (by decide)).trans (up2_s hV1))))))))))))))).trans (by decide)
        have pq22 : (V18 0 65).toInt = 0 := (congrArg Int32.toInt ((up2_k hV18 (by decide)).trans ((up2_k hV17 (by decide)).trans ((up2_k hV16 (by decide)).trans ((up2_k hV15 (by decide)).trans ((up2_k hV14 (by decide)).trans ((up2_k hV13 (by decide)).trans ((up2_k hV12 (by decide)).trans (up2_s hV11))))))))).trans (by decide)
        have pq23 : (V18 0 60).toInt = 0 := (congrArg Int32.toInt ((up2_k hV18 (by decide)).trans ((up2_k hV17 (by decide)).trans ((up2_k hV16 (by decide)).trans ((up2_k hV15 (by decide)).trans ((up2_k hV14 (by decide)).trans ((up2_k hV13 (by decide)).trans ((up2_k hV12 (by decide)).trans ((up2_k hV11 (by decide)).trans (up2_s hV10)))))))))).trans (by decide)
        have pq24 : (V18 0 55).toInt = 1 := (congrArg Int32.toInt ((up2_k hV18 (by decide)).trans ((up2_k hV17 (by decide)).trans ((up2_k hV16 (by decide)).trans ((up2_k hV15 (by decide)).trans ((up2_k hV14 (by decide)).trans ((up2_k hV13 (by decide)).trans ((up2_k hV12 (by decide)).trans ((up2_k hV11 (by decide)).trans ((up2_k hV10 (by decide)).trans ((ajV6 0 55 rfl).trans ((up2_o hV4 (by decide)).trans ((up2_o hV3 (by decide)).trans (up2_s hV2)))))))))))))).trans (by decide)
        have pq25 : (V18 0 81).toInt = 0 := (congrArg Int32.toInt (up2_s hV18)).trans (by decide)
        have pq26 : (V18 0 72).toInt = 0 := (congrArg Int32.toInt ((up2_k hV18 (by decide)).trans ((up2_k hV17 (by decide)).trans (up2_s hV16)))).trans (by decide)
        have pq27 : (V18 0 71).toInt = 0 := (congrArg Int32.toInt ((up2_k hV18 (by decide)).trans ((up2_k hV17 (by decide)).trans ((up2_k hV16 (by decide)).trans (up2_s hV15))))).trans (by decide)
        have pq28 : (V18 0 69).toInt = 0 := (congrArg Int32.toInt ((up2_k hV18 (by decide)).trans (up2_s hV17))).trans (by decide)
        have z0 : Int32.toNatClampNeg 0 = 0 := by decide
        have f56 : (V4 56 0).toInt = 1 := by have h9 := (up2_o hV4 (by decide)).trans (up2_s hV3); rw [z0] at h9; rw [h9]; decide
        have f57 : (V4 57 0).toInt = 0 := by have h9 := up2_s hV4; rw [z0] at h9; rw [h9]; decide
        have f58 : ∀ s9 : Nat, s9 ≠ 0 → V4 57 s9 = V 57 s9 := fun s9 h9 => (up2_k hV4 (by rw [z0]; exact h9)).trans ((up2_o hV3 (by decide)).trans ((up2_o hV2 (by decide)).trans (up2_o hV1 (by decide))))
        exact W.vret hx hb hr (fun t ht hW => ⟨⟨(V18, L), rfl, ⟨hMV18, agV18, rfl, (show (V18 0 60).toInt = 0 ∧ (V18 0 54).toInt = 0 ∧ (V18 0 65).toInt = 0 ∧ (V18 0 73).toInt = 0 ∧ (V18 0 76).toInt = 0 from by (first | exact om_1eec92a7aae7 pq19 pq20 pq21 pq22 pq23 | omega)), (show (V18 0 55).toInt = 1 from by (first | exact om_710535a98d88 pq24 | omega)), (show (V18 0 81).toInt = 0 from by (first | exact om_b66ba74381d5 pq25 | omega)), (show (V18 0 71).toInt = 0 ∧ (V18 0 72).toInt = 0 ∧ (V18 0 69).toInt = 0 from by (first | exact om_3e4db5a3624c pq26 pq27 pq28 | omega)), ⟨by show (V18 56 0).toInt = 1; rw [(show agr [(0, 60), (0, 65), (0, 69), (0, 70), (0, 71), (0, 72), (0, 73), (0, 76), (0, 81)] [59] V4 V18 from (agr.up (agr.up (agr.up (agr.up (agr.up (agr.up (agr.up (agr.up (agr.up (agr.tr agr.rf ajV6 (by decide) (by decide)) hV10 rfl) hV11 rfl) hV12 rfl) hV13 rfl) hV14 rfl) hV15 rfl) hV16 rfl) hV17 rfl) hV18 rfl)) 56 0 rfl]; exact f56, by show (V18 57 0).toInt = 0; rw [(show agr [(0, 60), (0, 65), (0, 69), (0, 70), (0, 71), (0, 72), (0, 73), (0, 76), (0, 81)] [59] V4 V18 from (agr.up (agr.up (agr.up (agr.up (agr.up (agr.up (agr.up (agr.up (agr.up (agr.tr agr.rf ajV6 (by decide) (by decide)) hV10 rfl) hV11 rfl) hV12 rfl) hV13 rfl) hV14 rfl) hV15 rfl) hV16 rfl) hV17 rfl) hV18 rfl)) 57 0 rfl]; exact f57, fun s9 h9 => ((show agr [(0, 60), (0, 65), (0, 69), (0, 70), (0, 71), (0, 72), (0, 73), (0, 76), (0, 81)] [59] V4 V18 from (agr.up (agr.up (agr.up (agr.up (agr.up (agr.up (agr.up (agr.up (agr.up (agr.tr agr.rf ajV6 (by decide) (by decide)) hV10 rfl) hV11 rfl) hV12 rfl) hV13 rfl) hV14 rfl) hV15 rfl) hV16 rfl) hV17 rfl) hV18 rfl)) 57 s9 rfl).trans (f58 s9 h9), fun q9 h9 => by show (V18 59 q9).toInt = 0; rw [(show agr [(0, 60), (0, 65), (0, 69), (0, 70), (0, 71), (0, 72), (0, 73), (0, 76), (0, 81)] [] V6 V18 from (agr.up (agr.up (agr.up (agr.up (agr.up (agr.up (agr.up (agr.up (agr.up agr.rf hV10 rfl) hV11 rfl) hV12 rfl) hV13 rfl) hV14 rfl) hV15 rfl) hV16 rfl) hV17 rfl) hV18 rfl)) 59 q9 rfl]; exact xlp7_0 q9 (by omega)⟩⟩, by rw [ht]; exact hP, va_K.moved hW.alike hK, hD⟩, hS.F ht⟩) hS.2.2 dX12_forget_91
      · skip
        have f29 : y5.toInt < 960 := b_nle (by decide) rfl c8
        refine lv_aload_n hx hb dX12_forget_33 rfl (lv_at hl 1 rfl) ?_
        refine va_get (D := D) (ci := 12) (v := .ref (ad 59)) (C := RX12) (T := TX12) (N := 100) hx hb hg inX12 hown hK hP 0 rfl rfl 59 (by decide) (hg _ w1765) (fun _ h9 => h9) rfl dX12_forget_34 ?_
        refine lv_iload_n hx hb dX12_forget_37 rfl (lv_at hl 0 rfl) ?_
        refine lv_iconst (v := 0) hx hb dX12_forget_38 (by decide) ?_
        refine va_zast (D := D) (i := y5) (x := 0) hx hb hK hP hD hS 45 44 rfl rfl (i_in (a := y5.toInt) rfl (by (first | exact om_ed46e1c3cf09 klp7_0.1 f29 | omega))) dX12_forget_39 (fun H locs hP hD hS => ?_)
        obtain ⟨V30, hV30⟩ : ∃ z, z = up2 V6 59 (Int32.toNatClampNeg y5) (vp_nar .boolean 0) := ⟨_, rfl⟩
        have hP : va_P D vwCl (mw ad kk ks.1 V30 L) H := by rw [hV30]; exact hP
        have hD : va_D A (mw ad kk ks.1 V30 L) := by rw [hV30]; exact hD
        have hMV30 : rgd bM V30 := hMV6.put hV30 (nar_b _)
        have agV30 : agr [(0, 54), (0, 55), (0, 60), (0, 65), (0, 69), (0, 70), (0, 71), (0, 72), (0, 73), (0, 76), (0, 81)] [56, 57, 59] V V30 := agV6.up hV30 rfl
        obtain ⟨z31, ez31⟩ : ∃ y : Int32, y = y5 + 1 := ⟨_, rfl⟩
        have hz31 : z31.toInt = y5.toInt + 1 := i_add ez31 rfl (by decide) (by (first | exact om_1bb32e01d4a3 klp7_0.1 f29 | omega))
        refine lv_iinc (v := z31) (lv' := [(1, .int z31), (0, .ref (ad 0))]) hx hb dX12_forget_40 hl (k := 0) rfl (by rw [ez31]; rfl) (by decide) rfl (fun ls hl => ?_)
        refine lv_goto (tgt := 26) hx hb dX12_forget_43 (by decide) ?_
        have ky9 := i_clamp (x := y5) rfl (by (first | exact om_eafa9039069c klp7_0.1 | omega))
        have fg32 : (∀ j9 : Nat, (j9 : Int) < z31.toInt → (V30 59 j9).toInt = 0) := fun j9 h9 => by
          by_cases q9 : j9 = (Int32.toNatClampNeg y5)
          · rw [q9, up2_s hV30]; decide
          · rw [up2_k hV30 q9]; exact xlp7_0 j9 (by omega)
        exact ihlp7 z31 V30 H locs ls (by (first | exact om_7ce5d8ac6511 klp7_0.1 f29 hz31 | omega)) fg32 (by (first | exact om_b35da99adc69 hn hz31 | omega)) (agr.up (agr.tr agr.rf ajV6 (by decide) (by decide)) hV30 rfl) hMV30 hP hD hS (lv_sub hl [0, 1] rfl)
  have r33 : Int32.toInt 0 = 0 := by decide
  exact lp7 ((960 - (Int32.toInt 0) + 1 : Int).toNat) 0 V4 H locs ls (by decide) (fun j9 h9 => by have h8 : Int32.toInt 0 = 0 := (by decide); exfalso; omega) (by (first | exact om_2733943334af | omega)) agr.rf hMV4 hP hD hS (lv_sub hl [0, 1] rfl)
end
section
/-! what cause(), closed() tell: both the same -/
theorem KMB.cause {V Vm : Vf} {b : Nat} {s : St} {p r rm : Int} (h : KMB V b Vm s) (c : ((p < 0 ∨ (V 4 7).toInt < p) ∧ r = 0) ∨ (0 ≤ p ∧ p < (V 4 7).toInt ∧ r = 20) ∨ (p = (V 4 7).toInt ∧ 0 ≤ p ∧ r = (V 4 8).toInt)) (m : (0 ≤ p ∧ p < (Vm 0 71).toInt ∧ rm = 20) ∨ ((p < 0 ∨ (Vm 0 71).toInt ≤ p) ∧ p = (Vm 0 71).toInt ∧ rm = (Vm 0 72).toInt) ∨ ((p < 0 ∨ (Vm 0 71).toInt ≤ p) ∧ p ≠ (Vm 0 71).toInt ∧ rm = 0)) : r = rm := by
  obtain ⟨_, _, _, _, _, _, ⟨h8, h9, h10⟩, _⟩ := h
  omega
theorem KMB.closed {V Vm : Vf} {b : Nat} {s : St} {p : Int32} {w r rm : Int} (h : KMB V b Vm s) (c : ((p.toInt < 0 ∨ (V 4 6).toInt ≤ p.toInt) ∧ r = -1) ∨ ((0 ≤ p.toInt ∧ p.toInt < (V 4 6).toInt) ∧ ((w = 0 ∧ r = (V 36 (Int32.toNatClampNeg p)).toInt) ∨ (w = 1 ∧ r = (V 37 (Int32.toNatClampNeg p)).toInt) ∨ ((w < 0 ∨ 1 < w) ∧ r = -1)))) (m : ((p.toInt < 0 ∨ (Vm 0 73).toInt ≤ p.toInt ∨ 300 ≤ p.toInt) ∧ rm = -1) ∨ ((0 ≤ p.toInt ∧ p.toInt < (Vm 0 73).toInt ∧ p.toInt < 300) ∧ ((w = 0 ∧ rm = (Vm 74 (Int32.toNatClampNeg p)).toInt) ∨ (w = 1 ∧ rm = (Vm 75 (Int32.toNatClampNeg p)).toInt) ∨ ((w < 0 ∨ 1 < w) ∧ rm = -1)))) : r = rm := by
  obtain ⟨_, _, _, ⟨ow, h4⟩, _, _, _, _⟩ := h
  have a := h4.1.2.1.1
  have a : (V 4 6).toInt = min 300 (Vm 0 73).toInt := a
  have e : ∀ i : Nat, i < 300 → (i : Int) < (Vm 0 73).toInt → (V 36 i).toInt = (Vm 74 i).toInt ∧ (V 37 i).toInt = (Vm 75 i).toInt := h4.1.2.2
  by_cases q : 0 ≤ p.toInt ∧ p.toInt < (Vm 0 73).toInt ∧ p.toInt < 300
  · have k := i_clamp (x := p) rfl q.1
    have z := e (Int32.toNatClampNeg p) (by omega) (by omega)
    omega
  · omega


abbrev r_x_NkindOfCause12 : Room := { frames := 0, cells := 0, slots := 0, locals := 0 }
abbrev q_x_NkindOfCause12 (D : va_G) (ks : KS) (ad : Nat → Nat) (kk : Nat → ClassId) (V : Vf) (L : Lf) (Z : XZ) (p0 : Int32) (A : Nat → Prop) : Array Value → State → Outcome → State → Prop := va_Qi (fun (r : Int32) (_ : Unit) => (((p0.toInt < 0 ∨ (V 4 7).toInt < p0.toInt) ∧ r.toInt = 0) ∨ (0 ≤ p0.toInt ∧ p0.toInt < (V 4 7).toInt ∧ r.toInt = 20) ∨ (p0.toInt = (V 4 7).toInt ∧ 0 ≤ p0.toInt ∧ r.toInt = (V 4 8).toInt))) (fun _ t => gq D A (xw ad kk V L Z) (xty kk Z) t) A
set_option maxHeartbeats 4000000 in
set_option maxRecDepth 100000 in
theorem x_NkindOfCause12 (l : Launch) (D : va_G) (ks : KS) (sz : Nat) (ad : Nat → Nat) (kk : Nat → ClassId) (V : Vf) (L : Lf) (Z : XZ) (p0 : Int32) (hMV : rgd bX V)  : Met l yX7_kindOfCause (Cond.code yX7_kindOfCause cX7_kindOfCause 2 (some .int) :: GW) r_x_NkindOfCause12 (va_Pc [.ref (ad 4), .int p0] (gp D ks (xw ad kk V L Z) (xty kk Z) sz)) (q_x_NkindOfCause12 D ks ad kk V L Z p0 (va_A (xw ad kk V L Z) sz)) 0 0 (va_A (xw ad kk V L Z) sz) := by
  refine g_met (q_x_NkindOfCause12 D ks ad kk V L Z p0) (by decide) (Nat.le_of_ble_eq_true rfl) ?_
  intro p e s m below meth c A ls H locs hx hb hr hml hown hg hlocks hin hnw hgk hP hK hD hS hA hl
  replace hown : s.vm.findClass RX7 = some m.cls := hown
  replace hl : lv_has ls 2 [(0, .ref (ad 4)), (1, .int p0)] := hl
  replace hP : va_P D vwCl (xw ad kk V L Z) H := hP
  replace hD : va_D A (xw ad kk V L Z) := hD
  replace hK : va_K D vwCl (xty kk Z) s := hK
  refine lv_iload_n hx hb dX7_kindOfCause_0 rfl (lv_at hl 1 rfl) ?_
  refine lv_if_lt (tgt := 12) hx hb dX7_kindOfCause_1 (by decide) (fun c1 => ?_) (fun c1 => ?_)
  · skip
    have f2 : p0.toInt < 0 := b_lt rfl (by decide) c1
    refine lv_iconst (v := 0) hx hb dX7_kindOfCause_12 (by decide) ?_
    exact W.iret (v := 0) hx hb hr (fun t ht hW => ⟨⟨0, (), rfl, (show ((p0.toInt < 0 ∨ (V 4 7).toInt < p0.toInt) ∧ 0 = 0) ∨ (0 ≤ p0.toInt ∧ p0.toInt < (V 4 7).toInt ∧ 0 = 20) ∨ (p0.toInt = (V 4 7).toInt ∧ 0 ≤ p0.toInt ∧ 0 = (V 4 8).toInt) from by omega), by rw [ht]; exact hP, va_K.moved hW.alike hK, hD⟩, hS.F ht⟩) hS.2.2 dX7_kindOfCause_13
  · skip
    have f3 : 0 ≤ p0.toInt := b_nlt rfl (by decide) c1
    refine lv_iload_n hx hb dX7_kindOfCause_4 rfl (lv_at hl 1 rfl) ?_
    refine lv_aload_n hx hb dX7_kindOfCause_5 rfl (lv_at hl 0 rfl) ?_
    refine va_get (D := D) (ci := 7) (v := .int (V 4 7)) (fs := (xfNotes ad V L Z)) (C := RX7) (T := TX7) (N := 10) hx hb hg inX7 hown hK hP 4 xgNotes rfl 7 (by decide) (hg _ w442) (fun _ h9 => h9) rfl dX7_kindOfCause_6 ?_
    refine lv_icmp_le (tgt := 14) hx hb dX7_kindOfCause_9 (by decide) (fun c4 => ?_) (fun c4 => ?_)
    · skip
      have f5 : p0.toInt ≤ ((V 4 7)).toInt := b_le rfl rfl c4
      refine lv_iload_n hx hb dX7_kindOfCause_14 rfl (lv_at hl 1 rfl) ?_
      refine lv_aload_n hx hb dX7_kindOfCause_15 rfl (lv_at hl 0 rfl) ?_
      refine va_get (D := D) (ci := 7) (v := .int (V 4 7)) (fs := (xfNotes ad V L Z)) (C := RX7) (T := TX7) (N := 10) hx hb hg inX7 hown hK hP 4 xgNotes rfl 7 (by decide) (hg _ w442) (fun _ h9 => h9) rfl dX7_kindOfCause_16 ?_
      refine lv_icmp_ge (tgt := 27) hx hb dX7_kindOfCause_19 (by decide) (fun c6 => ?_) (fun c6 => ?_)
      · skip
        have f7 : ((V 4 7)).toInt ≤ p0.toInt := b_le rfl rfl c6
        refine lv_aload_n hx hb dX7_kindOfCause_27 rfl (lv_at hl 0 rfl) ?_
        refine va_get (D := D) (ci := 7) (v := .int (V 4 8)) (fs := (xfNotes ad V L Z)) (C := RX7) (T := TX7) (N := 10) hx hb hg inX7 hown hK hP 4 xgNotes rfl 8 (by decide) (hg _ w443) (fun _ h9 => h9) rfl dX7_kindOfCause_28 ?_
        exact W.iret (v := (V 4 8)) hx hb hr (fun t ht hW => ⟨⟨(V 4 8), (), rfl, (show ((p0.toInt < 0 ∨ (V 4 7).toInt < p0.toInt) ∧ ((V 4 8)).toInt = 0) ∨ (0 ≤ p0.toInt ∧ p0.toInt < (V 4 7).toInt ∧ ((V 4 8)).toInt = 20) ∨ (p0.toInt = (V 4 7).toInt ∧ 0 ≤ p0.toInt ∧ ((V 4 8)).toInt = (V 4 8).toInt) from by (first | exact om_a5b532a139c0 f3 f5 f7 | omega)), by rw [ht]; exact hP, va_K.moved hW.alike hK, hD⟩, hS.F ht⟩) hS.2.2 dX7_kindOfCause_31
      · skip
        have f8 : p0.toInt < ((V 4 7)).toInt := b_nle rfl rfl c6
        refine lv_bipush (v := 20) hx hb dX7_kindOfCause_22 (by decide) ?_
        refine lv_goto (tgt := 31) hx hb dX7_kindOfCause_24 (by decide) ?_
        exact W.iret (v := 20) hx hb hr (fun t ht hW => ⟨⟨20, (), rfl, (show ((p0.toInt < 0 ∨ (V 4 7).toInt < p0.toInt) ∧ 20 = 0) ∨ (0 ≤ p0.toInt ∧ p0.toInt < (V 4 7).toInt ∧ 20 = 20) ∨ (p0.toInt = (V 4 7).toInt ∧ 0 ≤ p0.toInt ∧ 20 = (V 4 8).toInt) from by omega), by rw [ht]; exact hP, va_K.moved hW.alike hK, hD⟩, hS.F ht⟩) hS.2.2 dX7_kindOfCause_31
    · skip
      have f9 : ((V 4 7)).toInt < p0.toInt := b_nle rfl rfl c4
      refine lv_iconst (v := 0) hx hb dX7_kindOfCause_12 (by decide) ?_
      exact W.iret (v := 0) hx hb hr (fun t ht hW => ⟨⟨0, (), rfl, (show ((p0.toInt < 0 ∨ (V 4 7).toInt < p0.toInt) ∧ 0 = 0) ∨ (0 ≤ p0.toInt ∧ p0.toInt < (V 4 7).toInt ∧ 0 = 20) ∨ (p0.toInt = (V 4 7).toInt ∧ 0 ≤ p0.toInt ∧ 0 = (V 4 8).toInt) from by omega), by rw [ht]; exact hP, va_K.moved hW.alike hK, hD⟩, hS.F ht⟩) hS.2.2 dX7_kindOfCause_13
abbrev r_x_h_cause12 : Room := { frames := 1, cells := 0, slots := 0, locals := 21 }
abbrev q_x_h_cause12 (D : va_G) (ks : KS) (ad : Nat → Nat) (kk : Nat → ClassId) (V : Vf) (L : Lf) (Z : XZ) (p0 : Int32) (A : Nat → Prop) : Array Value → State → Outcome → State → Prop := va_Qi (fun (r : Int32) (_ : Unit) => (((p0.toInt < 0 ∨ (V 4 7).toInt < p0.toInt) ∧ r.toInt = 0) ∨ (0 ≤ p0.toInt ∧ p0.toInt < (V 4 7).toInt ∧ r.toInt = 20) ∨ (p0.toInt = (V 4 7).toInt ∧ 0 ≤ p0.toInt ∧ r.toInt = (V 4 8).toInt))) (fun _ t => gq D A (xw ad kk V L Z) (xty kk Z) t) A
set_option maxHeartbeats 4000000 in
set_option maxRecDepth 100000 in
theorem x_h_cause12 (l : Launch) (D : va_G) (ks : KS) (sz : Nat) (ad : Nat → Nat) (kk : Nat → ClassId) (V : Vf) (L : Lf) (Z : XZ) (p0 : Int32) (hMV : rgd bX V)  : Met l yX11_cause (Cond.code yX11_cause cX11_cause 2 (some .int) :: GW) r_x_h_cause12 (va_Pc [.ref (ad 0), .int p0] (gp D ks (xw ad kk V L Z) (xty kk Z) sz)) (q_x_h_cause12 D ks ad kk V L Z p0 (va_A (xw ad kk V L Z) sz)) 0 0 (va_A (xw ad kk V L Z) sz) := by
  refine g_met (q_x_h_cause12 D ks ad kk V L Z p0) (by decide) (Nat.le_of_ble_eq_true rfl) ?_
  intro p e s m below meth c A ls H locs hx hb hr hml hown hg hlocks hin hnw hgk hP hK hD hS hA hl
  replace hown : s.vm.findClass RX11 = some m.cls := hown
  replace hl : lv_has ls 2 [(0, .ref (ad 0)), (1, .int p0)] := hl
  replace hP : va_P D vwCl (xw ad kk V L Z) H := hP
  replace hD : va_D A (xw ad kk V L Z) := hD
  replace hK : va_K D vwCl (xty kk Z) s := hK
  refine lv_aload_n hx hb dX11_cause_0 rfl (lv_at hl 0 rfl) ?_
  refine va_get (D := D) (ci := 11) (v := .ref (ad 4)) (fs := (xfHouse ad V L Z)) (C := RX11) (T := TX11) (N := 10) hx hb hg inX11 hown hK hP 0 xgHouse rfl 4 (by decide) (hg _ w719) (fun _ h9 => h9) rfl dX11_cause_1 ?_
  refine lv_iload_n hx hb dX11_cause_4 rfl (lv_at hl 1 rfl) ?_
  refine gA_int (gA_runV (As := [.int p0]) (rest := []) (ci := 7) (q0 := 4) hx hb hml hown hg hP hD hK hS hA hnw hgk (x_NkindOfCause12 l D ks H.size ad kk V L Z p0 hMV ) w1554 w1555 w1556 w166 w1557 rfl xgNotes hdV_yX7_kindOfCause ⟨Nat.le_of_ble_eq_true rfl, Nat.le_of_ble_eq_true rfl⟩ rfl hl.1 rfl (Nat.le_of_ble_eq_true rfl) dX11_cause_5 ⟨Nat.le_of_ble_eq_true rfl, Nat.le_of_ble_eq_true rfl⟩) hP hD hK hS hA (fun z1 u2 H locs w3 hP hD hK hS => ?_)
  have t4 := w3
  replace t4 : ((p0.toInt < 0 ∨ (V 4 7).toInt < p0.toInt) ∧ z1.toInt = 0) ∨ (0 ≤ p0.toInt ∧ p0.toInt < (V 4 7).toInt ∧ z1.toInt = 20) ∨ (p0.toInt = (V 4 7).toInt ∧ 0 ≤ p0.toInt ∧ z1.toInt = (V 4 8).toInt) := t4
  exact W.iret (v := z1) hx hb hr (fun t ht hW => ⟨⟨z1, (), rfl, (show ((p0.toInt < 0 ∨ (V 4 7).toInt < p0.toInt) ∧ z1.toInt = 0) ∨ (0 ≤ p0.toInt ∧ p0.toInt < (V 4 7).toInt ∧ z1.toInt = 20) ∨ (p0.toInt = (V 4 7).toInt ∧ 0 ≤ p0.toInt ∧ z1.toInt = (V 4 8).toInt) from by omega), by rw [ht]; exact hP, va_K.moved hW.alike hK, hD⟩, hS.F ht⟩) hS.2.2 dX11_cause_8
abbrev r_x_NofClosing12 : Room := { frames := 0, cells := 0, slots := 0, locals := 0 }
abbrev q_x_NofClosing12 (D : va_G) (ks : KS) (ad : Nat → Nat) (kk : Nat → ClassId) (V : Vf) (L : Lf) (Z : XZ) (p0 : Int32) (p1 : Int32) (A : Nat → Prop) : Array Value → State → Outcome → State → Prop := va_Qi (fun (r : Int32) (_ : Unit) => (((p0.toInt < 0 ∨ (V 4 6).toInt ≤ p0.toInt) ∧ r.toInt = -1) ∨ ((0 ≤ p0.toInt ∧ p0.toInt < (V 4 6).toInt) ∧ ((p1.toInt = 0 ∧ r.toInt = (V 36 (Int32.toNatClampNeg p0)).toInt) ∨ (p1.toInt = 1 ∧ r.toInt = (V 37 (Int32.toNatClampNeg p0)).toInt) ∨ ((p1.toInt < 0 ∨ 1 < p1.toInt) ∧ r.toInt = -1))))) (fun _ t => gq D A (xw ad kk V L Z) (xty kk Z) t) A
set_option maxHeartbeats 4000000 in
set_option maxRecDepth 100000 in
theorem x_NofClosing12 (l : Launch) (D : va_G) (ks : KS) (sz : Nat) (ad : Nat → Nat) (kk : Nat → ClassId) (V : Vf) (L : Lf) (Z : XZ) (p0 : Int32) (p1 : Int32) (hMV : rgd bX V)  : Met l yX7_ofClosing (Cond.code yX7_ofClosing cX7_ofClosing 3 (some .int) :: GW) r_x_NofClosing12 (va_Pc [.ref (ad 4), .int p0, .int p1] (gp D ks (xw ad kk V L Z) (xty kk Z) sz)) (q_x_NofClosing12 D ks ad kk V L Z p0 p1 (va_A (xw ad kk V L Z) sz)) 0 0 (va_A (xw ad kk V L Z) sz) := by
  refine g_met (q_x_NofClosing12 D ks ad kk V L Z p0 p1) (by decide) (Nat.le_of_ble_eq_true rfl) ?_
  intro p e s m below meth c A ls H locs hx hb hr hml hown hg hlocks hin hnw hgk hP hK hD hS hA hl
  replace hown : s.vm.findClass RX7 = some m.cls := hown
  replace hl : lv_has ls 3 [(0, .ref (ad 4)), (1, .int p0), (2, .int p1)] := hl
  replace hP : va_P D vwCl (xw ad kk V L Z) H := hP
  replace hD : va_D A (xw ad kk V L Z) := hD
  replace hK : va_K D vwCl (xty kk Z) s := hK
  refine lv_iload_n hx hb dX7_ofClosing_0 rfl (lv_at hl 1 rfl) ?_
  refine lv_if_lt (tgt := 12) hx hb dX7_ofClosing_1 (by decide) (fun c1 => ?_) (fun c1 => ?_)
  · skip
    have f2 : p0.toInt < 0 := b_lt rfl (by decide) c1
    refine lv_iconst (v := (-1)) hx hb dX7_ofClosing_12 (by decide) ?_
    exact W.iret (v := (-1)) hx hb hr (fun t ht hW => ⟨⟨(-1), (), rfl, (show ((p0.toInt < 0 ∨ (V 4 6).toInt ≤ p0.toInt) ∧ (-1) = -1) ∨ ((0 ≤ p0.toInt ∧ p0.toInt < (V 4 6).toInt) ∧ ((p1.toInt = 0 ∧ (-1) = (V 36 (Int32.toNatClampNeg p0)).toInt) ∨ (p1.toInt = 1 ∧ (-1) = (V 37 (Int32.toNatClampNeg p0)).toInt) ∨ ((p1.toInt < 0 ∨ 1 < p1.toInt) ∧ (-1) = -1))) from by omega), by rw [ht]; exact hP, va_K.moved hW.alike hK, hD⟩, hS.F ht⟩) hS.2.2 dX7_ofClosing_13
  · skip
    have f3 : 0 ≤ p0.toInt := b_nlt rfl (by decide) c1
    refine lv_iload_n hx hb dX7_ofClosing_4 rfl (lv_at hl 1 rfl) ?_
    refine lv_aload_n hx hb dX7_ofClosing_5 rfl (lv_at hl 0 rfl) ?_
    refine va_get (D := D) (ci := 7) (v := .int (V 4 6)) (fs := (xfNotes ad V L Z)) (C := RX7) (T := TX7) (N := 10) hx hb hg inX7 hown hK hP 4 xgNotes rfl 6 (by decide) (hg _ w441) (fun _ h9 => h9) rfl dX7_ofClosing_6 ?_
    have r4 : 0 ≤ ((V 4 6)).toInt ∧ ((V 4 6)).toInt ≤ 300 := hMV 4 6
    refine lv_icmp_lt (tgt := 14) hx hb dX7_ofClosing_9 (by decide) (fun c5 => ?_) (fun c5 => ?_)
    · skip
      have f6 : p0.toInt < ((V 4 6)).toInt := b_lt rfl rfl c5
      refine lv_iload_n hx hb dX7_ofClosing_14 rfl (lv_at hl 2 rfl) ?_
      refine lv_if_ne (tgt := 27) hx hb dX7_ofClosing_15 (by decide) (fun c7 => ?_) (fun c7 => ?_)
      · skip
        have f8 : p1.toInt ≠ 0 := b_neq rfl (by decide) c7
        refine lv_iload_n hx hb dX7_ofClosing_27 rfl (lv_at hl 2 rfl) ?_
        refine lv_iconst (v := 1) hx hb dX7_ofClosing_28 (by decide) ?_
        refine lv_icmp_ne (tgt := 41) hx hb dX7_ofClosing_29 (by decide) (fun c9 => ?_) (fun c9 => ?_)
        · skip
          have f10 : p1.toInt ≠ 1 := b_neq rfl (by decide) c9
          refine lv_iconst (v := (-1)) hx hb dX7_ofClosing_41 (by decide) ?_
          exact W.iret (v := (-1)) hx hb hr (fun t ht hW => ⟨⟨(-1), (), rfl, (show ((p0.toInt < 0 ∨ (V 4 6).toInt ≤ p0.toInt) ∧ (-1) = -1) ∨ ((0 ≤ p0.toInt ∧ p0.toInt < (V 4 6).toInt) ∧ ((p1.toInt = 0 ∧ (-1) = (V 36 (Int32.toNatClampNeg p0)).toInt) ∨ (p1.toInt = 1 ∧ (-1) = (V 37 (Int32.toNatClampNeg p0)).toInt) ∨ ((p1.toInt < 0 ∨ 1 < p1.toInt) ∧ (-1) = -1))) from by omega), by rw [ht]; exact hP, va_K.moved hW.alike hK, hD⟩, hS.F ht⟩) hS.2.2 dX7_ofClosing_42
        · skip
          have f11 : p1.toInt = 1 := b_eq rfl (by decide) c9
          refine lv_aload_n hx hb dX7_ofClosing_32 rfl (lv_at hl 0 rfl) ?_
          refine va_get (D := D) (ci := 7) (v := .ref (ad 34)) (fs := (xfNotes ad V L Z)) (C := RX7) (T := TX7) (N := 10) hx hb hg inX7 hown hK hP 4 xgNotes rfl 4 (by decide) (hg _ w439) (fun _ h9 => h9) rfl dX7_ofClosing_33 ?_
          refine lv_iload_n hx hb dX7_ofClosing_36 rfl (lv_at hl 1 rfl) ?_
          refine va_iald (D := D) (i := p0) hx hb hK hP 34 27 rfl rfl (i_in (a := p0.toInt) rfl (by (first | exact om_cd73be67f278 f3 r4.2 f6 | omega))) dX7_ofClosing_37 ?_
          refine lv_goto (tgt := 42) hx hb dX7_ofClosing_38 (by decide) ?_
          exact W.iret (v := (V 37 (Int32.toNatClampNeg p0))) hx hb hr (fun t ht hW => ⟨⟨(V 37 (Int32.toNatClampNeg p0)), (), rfl, (show ((p0.toInt < 0 ∨ (V 4 6).toInt ≤ p0.toInt) ∧ ((V 37 (Int32.toNatClampNeg p0))).toInt = -1) ∨ ((0 ≤ p0.toInt ∧ p0.toInt < (V 4 6).toInt) ∧ ((p1.toInt = 0 ∧ ((V 37 (Int32.toNatClampNeg p0))).toInt = (V 36 (Int32.toNatClampNeg p0)).toInt) ∨ (p1.toInt = 1 ∧ ((V 37 (Int32.toNatClampNeg p0))).toInt = (V 37 (Int32.toNatClampNeg p0)).toInt) ∨ ((p1.toInt < 0 ∨ 1 < p1.toInt) ∧ ((V 37 (Int32.toNatClampNeg p0))).toInt = -1))) from by omega), by rw [ht]; exact hP, va_K.moved hW.alike hK, hD⟩, hS.F ht⟩) hS.2.2 dX7_ofClosing_42
      · skip
        have f12 : p1.toInt = 0 := b_eq rfl (by decide) c7
        refine lv_aload_n hx hb dX7_ofClosing_18 rfl (lv_at hl 0 rfl) ?_
        refine va_get (D := D) (ci := 7) (v := .ref (ad 33)) (fs := (xfNotes ad V L Z)) (C := RX7) (T := TX7) (N := 10) hx hb hg inX7 hown hK hP 4 xgNotes rfl 3 (by decide) (hg _ w438) (fun _ h9 => h9) rfl dX7_ofClosing_19 ?_
        refine lv_iload_n hx hb dX7_ofClosing_22 rfl (lv_at hl 1 rfl) ?_
        refine va_iald (D := D) (i := p0) hx hb hK hP 33 26 rfl rfl (i_in (a := p0.toInt) rfl (by (first | exact om_cd73be67f278 f3 r4.2 f6 | omega))) dX7_ofClosing_23 ?_
        refine lv_goto (tgt := 42) hx hb dX7_ofClosing_24 (by decide) ?_
        exact W.iret (v := (V 36 (Int32.toNatClampNeg p0))) hx hb hr (fun t ht hW => ⟨⟨(V 36 (Int32.toNatClampNeg p0)), (), rfl, (show ((p0.toInt < 0 ∨ (V 4 6).toInt ≤ p0.toInt) ∧ ((V 36 (Int32.toNatClampNeg p0))).toInt = -1) ∨ ((0 ≤ p0.toInt ∧ p0.toInt < (V 4 6).toInt) ∧ ((p1.toInt = 0 ∧ ((V 36 (Int32.toNatClampNeg p0))).toInt = (V 36 (Int32.toNatClampNeg p0)).toInt) ∨ (p1.toInt = 1 ∧ ((V 36 (Int32.toNatClampNeg p0))).toInt = (V 37 (Int32.toNatClampNeg p0)).toInt) ∨ ((p1.toInt < 0 ∨ 1 < p1.toInt) ∧ ((V 36 (Int32.toNatClampNeg p0))).toInt = -1))) from by omega), by rw [ht]; exact hP, va_K.moved hW.alike hK, hD⟩, hS.F ht⟩) hS.2.2 dX7_ofClosing_42
    · skip
      have f13 : ((V 4 6)).toInt ≤ p0.toInt := b_nlt rfl rfl c5
      refine lv_iconst (v := (-1)) hx hb dX7_ofClosing_12 (by decide) ?_
      exact W.iret (v := (-1)) hx hb hr (fun t ht hW => ⟨⟨(-1), (), rfl, (show ((p0.toInt < 0 ∨ (V 4 6).toInt ≤ p0.toInt) ∧ (-1) = -1) ∨ ((0 ≤ p0.toInt ∧ p0.toInt < (V 4 6).toInt) ∧ ((p1.toInt = 0 ∧ (-1) = (V 36 (Int32.toNatClampNeg p0)).toInt) ∨ (p1.toInt = 1 ∧ (-1) = (V 37 (Int32.toNatClampNeg p0)).toInt) ∨ ((p1.toInt < 0 ∨ 1 < p1.toInt) ∧ (-1) = -1))) from by omega), by rw [ht]; exact hP, va_K.moved hW.alike hK, hD⟩, hS.F ht⟩) hS.2.2 dX7_ofClosing_13
abbrev r_x_h_closed12 : Room := { frames := 1, cells := 0, slots := 0, locals := 22 }
abbrev q_x_h_closed12 (D : va_G) (ks : KS) (ad : Nat → Nat) (kk : Nat → ClassId) (V : Vf) (L : Lf) (Z : XZ) (p0 : Int32) (p1 : Int32) (A : Nat → Prop) : Array Value → State → Outcome → State → Prop := va_Qi (fun (r : Int32) (_ : Unit) => (((p0.toInt < 0 ∨ (V 4 6).toInt ≤ p0.toInt) ∧ r.toInt = -1) ∨ ((0 ≤ p0.toInt ∧ p0.toInt < (V 4 6).toInt) ∧ ((p1.toInt = 0 ∧ r.toInt = (V 36 (Int32.toNatClampNeg p0)).toInt) ∨ (p1.toInt = 1 ∧ r.toInt = (V 37 (Int32.toNatClampNeg p0)).toInt) ∨ ((p1.toInt < 0 ∨ 1 < p1.toInt) ∧ r.toInt = -1))))) (fun _ t => gq D A (xw ad kk V L Z) (xty kk Z) t) A
set_option maxHeartbeats 4000000 in
set_option maxRecDepth 100000 in
theorem x_h_closed12 (l : Launch) (D : va_G) (ks : KS) (sz : Nat) (ad : Nat → Nat) (kk : Nat → ClassId) (V : Vf) (L : Lf) (Z : XZ) (p0 : Int32) (p1 : Int32) (hMV : rgd bX V)  : Met l yX11_closed (Cond.code yX11_closed cX11_closed 3 (some .int) :: GW) r_x_h_closed12 (va_Pc [.ref (ad 0), .int p0, .int p1] (gp D ks (xw ad kk V L Z) (xty kk Z) sz)) (q_x_h_closed12 D ks ad kk V L Z p0 p1 (va_A (xw ad kk V L Z) sz)) 0 0 (va_A (xw ad kk V L Z) sz) := by
  refine g_met (q_x_h_closed12 D ks ad kk V L Z p0 p1) (by decide) (Nat.le_of_ble_eq_true rfl) ?_
  intro p e s m below meth c A ls H locs hx hb hr hml hown hg hlocks hin hnw hgk hP hK hD hS hA hl
  replace hown : s.vm.findClass RX11 = some m.cls := hown
  replace hl : lv_has ls 3 [(0, .ref (ad 0)), (1, .int p0), (2, .int p1)] := hl
  replace hP : va_P D vwCl (xw ad kk V L Z) H := hP
  replace hD : va_D A (xw ad kk V L Z) := hD
  replace hK : va_K D vwCl (xty kk Z) s := hK
  refine lv_aload_n hx hb dX11_closed_0 rfl (lv_at hl 0 rfl) ?_
  refine va_get (D := D) (ci := 11) (v := .ref (ad 4)) (fs := (xfHouse ad V L Z)) (C := RX11) (T := TX11) (N := 10) hx hb hg inX11 hown hK hP 0 xgHouse rfl 4 (by decide) (hg _ w719) (fun _ h9 => h9) rfl dX11_closed_1 ?_
  refine lv_iload_n hx hb dX11_closed_4 rfl (lv_at hl 1 rfl) ?_
  refine lv_iload_n hx hb dX11_closed_5 rfl (lv_at hl 2 rfl) ?_
  refine gA_int (gA_runV (As := [.int p0, .int p1]) (rest := []) (ci := 7) (q0 := 4) hx hb hml hown hg hP hD hK hS hA hnw hgk (x_NofClosing12 l D ks H.size ad kk V L Z p0 p1 hMV ) w1567 w1568 w1569 w166 w1570 rfl xgNotes hdV_yX7_ofClosing ⟨Nat.le_of_ble_eq_true rfl, Nat.le_of_ble_eq_true rfl⟩ rfl hl.1 rfl (Nat.le_of_ble_eq_true rfl) dX11_closed_6 ⟨Nat.le_of_ble_eq_true rfl, Nat.le_of_ble_eq_true rfl⟩) hP hD hK hS hA (fun z1 u2 H locs w3 hP hD hK hS => ?_)
  have t4 := w3
  replace t4 : ((p0.toInt < 0 ∨ (V 4 6).toInt ≤ p0.toInt) ∧ z1.toInt = -1) ∨ ((0 ≤ p0.toInt ∧ p0.toInt < (V 4 6).toInt) ∧ ((p1.toInt = 0 ∧ z1.toInt = (V 36 (Int32.toNatClampNeg p0)).toInt) ∨ (p1.toInt = 1 ∧ z1.toInt = (V 37 (Int32.toNatClampNeg p0)).toInt) ∨ ((p1.toInt < 0 ∨ 1 < p1.toInt) ∧ z1.toInt = -1))) := t4
  exact W.iret (v := z1) hx hb hr (fun t ht hW => ⟨⟨z1, (), rfl, (show ((p0.toInt < 0 ∨ (V 4 6).toInt ≤ p0.toInt) ∧ z1.toInt = -1) ∨ ((0 ≤ p0.toInt ∧ p0.toInt < (V 4 6).toInt) ∧ ((p1.toInt = 0 ∧ z1.toInt = (V 36 (Int32.toNatClampNeg p0)).toInt) ∨ (p1.toInt = 1 ∧ z1.toInt = (V 37 (Int32.toNatClampNeg p0)).toInt) ∨ ((p1.toInt < 0 ∨ 1 < p1.toInt) ∧ z1.toInt = -1))) from by omega), by rw [ht]; exact hP, va_K.moved hW.alike hK, hD⟩, hS.F ht⟩) hS.2.2 dX11_closed_9
abbrev r_s_cause12 : Room := { frames := 0, cells := 0, slots := 0, locals := 0 }
abbrev q_s_cause12 (D : va_G) (ks : KS) (ad : Nat → Nat) (kk : Nat → ClassId) (V : Vf) (L : Lf) (p0 : Int32) (A : Nat → Prop) : Array Value → State → Outcome → State → Prop := va_Qi (fun (r : Int32) (u : Vf × Lf) => rgd bM u.1 ∧ agr [(0, 0)] [] V u.1 ∧ u.2 = L ∧ ((0 ≤ p0.toInt ∧ p0.toInt < (V 0 71).toInt ∧ r.toInt = 20) ∨ ((p0.toInt < 0 ∨ (V 0 71).toInt ≤ p0.toInt) ∧ p0.toInt = (V 0 71).toInt ∧ r.toInt = (V 0 72).toInt) ∨ ((p0.toInt < 0 ∨ (V 0 71).toInt ≤ p0.toInt) ∧ p0.toInt ≠ (V 0 71).toInt ∧ r.toInt = 0))) (fun u t => gq D A (mw ad kk ks.1 u.1 u.2) (mty kk) t) A
set_option maxHeartbeats 4000000 in
set_option maxRecDepth 100000 in
theorem s_cause12 (l : Launch) (D : va_G) (ks : KS) (sz : Nat) (ad : Nat → Nat) (kk : Nat → ClassId) (V : Vf) (L : Lf) (p0 : Int32) (hMV : rgd bM V)  : Met l yX12_cause (Cond.code yX12_cause cX12_cause 2 (some .int) :: GW) r_s_cause12 (va_Pc [.ref (ad 0), .int p0] (gp D ks (mw ad kk ks.1 V L) (mty kk) sz)) (q_s_cause12 D ks ad kk V L p0 (va_A (mw ad kk ks.1 V L) sz)) 0 0 (va_A (mw ad kk ks.1 V L) sz) := by
  refine g_met (q_s_cause12 D ks ad kk V L p0) (by decide) (Nat.le_of_ble_eq_true rfl) ?_
  intro p e s m below meth c A ls H locs hx hb hr hml hown hg hlocks hin hnw hgk hP hK hD hS hA hl
  replace hown : s.vm.findClass RX12 = some m.cls := hown
  replace hl : lv_has ls 2 [(0, .ref (ad 0)), (1, .int p0)] := hl
  replace hP : va_P D vwCl (mw ad kk ks.1 V L) H := hP
  replace hD : va_D A (mw ad kk ks.1 V L) := hD
  replace hK : va_K D vwCl (mty kk) s := hK
  have agV : agr [(0, 0)] [] V V := agr.rf
  refine lv_aload_n hx hb dX12_cause_0 rfl (lv_at hl 0 rfl) ?_
  refine lv_iconst (v := 0) hx hb dX12_cause_1 (by decide) ?_
  refine va_put (D := D) (ci := 12) (v := .int 0) (ty := tyX12 0) (C := RX12) (T := TX12) (N := 100) hx hb hg inX12 tyX12 tyX12_ok nmX12 hown hK hP hD hS 0 rfl rfl 0 (by decide) (hg _ w1706) (fun _ h9 => h9) rfl (tyX12_ok 0 (by decide)) rfl rfl (Nat.le_of_ble_eq_true rfl) dX12_cause_2 (fun H locs hP hD hS => ?_)
  obtain ⟨V1, hV1⟩ : ∃ z, z = up2 V 0 0 0 := ⟨_, rfl⟩
  have hP : va_P D vwCl (mw ad kk ks.1 V1 L) H := by rw [hV1]; exact hP
  have hD : va_D A (mw ad kk ks.1 V1 L) := by rw [hV1]; exact hD
  have hMV1 : rgd bM V1 := hMV.put hV1 (i_full _)
  have agV1 : agr [(0, 0)] [] V V1 := agV.up hV1 rfl
  refine lv_iload_n hx hb dX12_cause_5 rfl (lv_at hl 1 rfl) ?_
  refine lv_if_lt (tgt := 22) hx hb dX12_cause_6 (by decide) (fun c2 => ?_) (fun c2 => ?_)
  · skip
    have f3 : p0.toInt < 0 := b_lt rfl (by decide) c2
    refine lv_iload_n hx hb dX12_cause_22 rfl (lv_at hl 1 rfl) ?_
    refine lv_aload_n hx hb dX12_cause_23 rfl (lv_at hl 0 rfl) ?_
    refine va_get (D := D) (ci := 12) (v := .int (V1 0 71)) (C := RX12) (T := TX12) (N := 100) hx hb hg inX12 hown hK hP 0 rfl rfl 71 (by decide) (hg _ w1777) (fun _ h9 => h9) rfl dX12_cause_24 ?_
    refine g_top (v := (V 0 71)) (up2_k hV1 (by decide)) ?_
    refine lv_icmp_ne (tgt := 37) hx hb dX12_cause_27 (by decide) (fun c4 => ?_) (fun c4 => ?_)
    · skip
      have f5 : p0.toInt ≠ ((V 0 71)).toInt := b_neq rfl rfl c4
      refine lv_iconst (v := 0) hx hb dX12_cause_37 (by decide) ?_
      exact W.iret (v := 0) hx hb hr (fun t ht hW => ⟨⟨0, (V1, L), rfl, ⟨hMV1, agV1, rfl, (show (0 ≤ p0.toInt ∧ p0.toInt < (V 0 71).toInt ∧ 0 = 20) ∨ ((p0.toInt < 0 ∨ (V 0 71).toInt ≤ p0.toInt) ∧ p0.toInt = (V 0 71).toInt ∧ 0 = (V 0 72).toInt) ∨ ((p0.toInt < 0 ∨ (V 0 71).toInt ≤ p0.toInt) ∧ p0.toInt ≠ (V 0 71).toInt ∧ 0 = 0) from by omega)⟩, by rw [ht]; exact hP, va_K.moved hW.alike hK, hD⟩, hS.F ht⟩) hS.2.2 dX12_cause_38
    · skip
      have f6 : p0.toInt = ((V 0 71)).toInt := b_eq rfl rfl c4
      refine lv_aload_n hx hb dX12_cause_30 rfl (lv_at hl 0 rfl) ?_
      refine va_get (D := D) (ci := 12) (v := .int (V1 0 72)) (C := RX12) (T := TX12) (N := 100) hx hb hg inX12 hown hK hP 0 rfl rfl 72 (by decide) (hg _ w1778) (fun _ h9 => h9) rfl dX12_cause_31 ?_
      refine g_top (v := (V 0 72)) (up2_k hV1 (by decide)) ?_
      refine lv_goto (tgt := 38) hx hb dX12_cause_34 (by decide) ?_
      exact W.iret (v := (V 0 72)) hx hb hr (fun t ht hW => ⟨⟨(V 0 72), (V1, L), rfl, ⟨hMV1, agV1, rfl, (show (0 ≤ p0.toInt ∧ p0.toInt < (V 0 71).toInt ∧ ((V 0 72)).toInt = 20) ∨ ((p0.toInt < 0 ∨ (V 0 71).toInt ≤ p0.toInt) ∧ p0.toInt = (V 0 71).toInt ∧ ((V 0 72)).toInt = (V 0 72).toInt) ∨ ((p0.toInt < 0 ∨ (V 0 71).toInt ≤ p0.toInt) ∧ p0.toInt ≠ (V 0 71).toInt ∧ ((V 0 72)).toInt = 0) from by omega)⟩, by rw [ht]; exact hP, va_K.moved hW.alike hK, hD⟩, hS.F ht⟩) hS.2.2 dX12_cause_38
  · skip
    have f7 : 0 ≤ p0.toInt := b_nlt rfl (by decide) c2
    refine lv_iload_n hx hb dX12_cause_9 rfl (lv_at hl 1 rfl) ?_
    refine lv_aload_n hx hb dX12_cause_10 rfl (lv_at hl 0 rfl) ?_
    refine va_get (D := D) (ci := 12) (v := .int (V1 0 71)) (C := RX12) (T := TX12) (N := 100) hx hb hg inX12 hown hK hP 0 rfl rfl 71 (by decide) (hg _ w1777) (fun _ h9 => h9) rfl dX12_cause_11 ?_
    refine g_top (v := (V 0 71)) (up2_k hV1 (by decide)) ?_
    refine lv_icmp_ge (tgt := 22) hx hb dX12_cause_14 (by decide) (fun c8 => ?_) (fun c8 => ?_)
    · skip
      have f9 : ((V 0 71)).toInt ≤ p0.toInt := b_le rfl rfl c8
      refine lv_iload_n hx hb dX12_cause_22 rfl (lv_at hl 1 rfl) ?_
      refine lv_aload_n hx hb dX12_cause_23 rfl (lv_at hl 0 rfl) ?_
      refine va_get (D := D) (ci := 12) (v := .int (V1 0 71)) (C := RX12) (T := TX12) (N := 100) hx hb hg inX12 hown hK hP 0 rfl rfl 71 (by decide) (hg _ w1777) (fun _ h9 => h9) rfl dX12_cause_24 ?_
      refine g_top (v := (V 0 71)) (up2_k hV1 (by decide)) ?_
      refine lv_icmp_ne (tgt := 37) hx hb dX12_cause_27 (by decide) (fun c10 => ?_) (fun c10 => ?_)
      · skip
        have f11 : p0.toInt ≠ ((V 0 71)).toInt := b_neq rfl rfl c10
        refine lv_iconst (v := 0) hx hb dX12_cause_37 (by decide) ?_
        exact W.iret (v := 0) hx hb hr (fun t ht hW => ⟨⟨0, (V1, L), rfl, ⟨hMV1, agV1, rfl, (show (0 ≤ p0.toInt ∧ p0.toInt < (V 0 71).toInt ∧ 0 = 20) ∨ ((p0.toInt < 0 ∨ (V 0 71).toInt ≤ p0.toInt) ∧ p0.toInt = (V 0 71).toInt ∧ 0 = (V 0 72).toInt) ∨ ((p0.toInt < 0 ∨ (V 0 71).toInt ≤ p0.toInt) ∧ p0.toInt ≠ (V 0 71).toInt ∧ 0 = 0) from by omega)⟩, by rw [ht]; exact hP, va_K.moved hW.alike hK, hD⟩, hS.F ht⟩) hS.2.2 dX12_cause_38
      · skip
        have f12 : p0.toInt = ((V 0 71)).toInt := b_eq rfl rfl c10
        refine lv_aload_n hx hb dX12_cause_30 rfl (lv_at hl 0 rfl) ?_
        refine va_get (D := D) (ci := 12) (v := .int (V1 0 72)) (C := RX12) (T := TX12) (N := 100) hx hb hg inX12 hown hK hP 0 rfl rfl 72 (by decide) (hg _ w1778) (fun _ h9 => h9) rfl dX12_cause_31 ?_
        refine g_top (v := (V 0 72)) (up2_k hV1 (by decide)) ?_
        refine lv_goto (tgt := 38) hx hb dX12_cause_34 (by decide) ?_
        exact W.iret (v := (V 0 72)) hx hb hr (fun t ht hW => ⟨⟨(V 0 72), (V1, L), rfl, ⟨hMV1, agV1, rfl, (show (0 ≤ p0.toInt ∧ p0.toInt < (V 0 71).toInt ∧ ((V 0 72)).toInt = 20) ∨ ((p0.toInt < 0 ∨ (V 0 71).toInt ≤ p0.toInt) ∧ p0.toInt = (V 0 71).toInt ∧ ((V 0 72)).toInt = (V 0 72).toInt) ∨ ((p0.toInt < 0 ∨ (V 0 71).toInt ≤ p0.toInt) ∧ p0.toInt ≠ (V 0 71).toInt ∧ ((V 0 72)).toInt = 0) from by omega)⟩, by rw [ht]; exact hP, va_K.moved hW.alike hK, hD⟩, hS.F ht⟩) hS.2.2 dX12_cause_38
    · skip
      have f13 : p0.toInt < ((V 0 71)).toInt := b_nle rfl rfl c8
      refine lv_bipush (v := 20) hx hb dX12_cause_17 (by decide) ?_
      refine lv_goto (tgt := 38) hx hb dX12_cause_19 (by decide) ?_
      exact W.iret (v := 20) hx hb hr (fun t ht hW => ⟨⟨20, (V1, L), rfl, ⟨hMV1, agV1, rfl, (show (0 ≤ p0.toInt ∧ p0.toInt < (V 0 71).toInt ∧ 20 = 20) ∨ ((p0.toInt < 0 ∨ (V 0 71).toInt ≤ p0.toInt) ∧ p0.toInt = (V 0 71).toInt ∧ 20 = (V 0 72).toInt) ∨ ((p0.toInt < 0 ∨ (V 0 71).toInt ≤ p0.toInt) ∧ p0.toInt ≠ (V 0 71).toInt ∧ 20 = 0) from by omega)⟩, by rw [ht]; exact hP, va_K.moved hW.alike hK, hD⟩, hS.F ht⟩) hS.2.2 dX12_cause_38
abbrev r_s_closed12 : Room := { frames := 0, cells := 0, slots := 0, locals := 0 }
abbrev q_s_closed12 (D : va_G) (ks : KS) (ad : Nat → Nat) (kk : Nat → ClassId) (V : Vf) (L : Lf) (p0 : Int32) (p1 : Int32) (A : Nat → Prop) : Array Value → State → Outcome → State → Prop := va_Qi (fun (r : Int32) (u : Vf × Lf) => rgd bM u.1 ∧ agr [(0, 0)] [] V u.1 ∧ u.2 = L ∧ (((p0.toInt < 0 ∨ (V 0 73).toInt ≤ p0.toInt ∨ 300 ≤ p0.toInt) ∧ r.toInt = -1) ∨ ((0 ≤ p0.toInt ∧ p0.toInt < (V 0 73).toInt ∧ p0.toInt < 300) ∧ ((p1.toInt = 0 ∧ r.toInt = (V 74 (Int32.toNatClampNeg p0)).toInt) ∨ (p1.toInt = 1 ∧ r.toInt = (V 75 (Int32.toNatClampNeg p0)).toInt) ∨ ((p1.toInt < 0 ∨ 1 < p1.toInt) ∧ r.toInt = -1))))) (fun u t => gq D A (mw ad kk ks.1 u.1 u.2) (mty kk) t) A
set_option maxHeartbeats 4000000 in
set_option maxRecDepth 100000 in
theorem s_closed12 (l : Launch) (D : va_G) (ks : KS) (sz : Nat) (ad : Nat → Nat) (kk : Nat → ClassId) (V : Vf) (L : Lf) (p0 : Int32) (p1 : Int32) (hMV : rgd bM V)  : Met l yX12_closed (Cond.code yX12_closed cX12_closed 3 (some .int) :: GW) r_s_closed12 (va_Pc [.ref (ad 0), .int p0, .int p1] (gp D ks (mw ad kk ks.1 V L) (mty kk) sz)) (q_s_closed12 D ks ad kk V L p0 p1 (va_A (mw ad kk ks.1 V L) sz)) 0 0 (va_A (mw ad kk ks.1 V L) sz) := by
  refine g_met (q_s_closed12 D ks ad kk V L p0 p1) (by decide) (Nat.le_of_ble_eq_true rfl) ?_
  intro p e s m below meth c A ls H locs hx hb hr hml hown hg hlocks hin hnw hgk hP hK hD hS hA hl
  replace hown : s.vm.findClass RX12 = some m.cls := hown
  replace hl : lv_has ls 3 [(0, .ref (ad 0)), (1, .int p0), (2, .int p1)] := hl
  replace hP : va_P D vwCl (mw ad kk ks.1 V L) H := hP
  replace hD : va_D A (mw ad kk ks.1 V L) := hD
  replace hK : va_K D vwCl (mty kk) s := hK
  have agV : agr [(0, 0)] [] V V := agr.rf
  refine lv_aload_n hx hb dX12_closed_0 rfl (lv_at hl 0 rfl) ?_
  refine lv_iconst (v := 0) hx hb dX12_closed_1 (by decide) ?_
  refine va_put (D := D) (ci := 12) (v := .int 0) (ty := tyX12 0) (C := RX12) (T := TX12) (N := 100) hx hb hg inX12 tyX12 tyX12_ok nmX12 hown hK hP hD hS 0 rfl rfl 0 (by decide) (hg _ w1706) (fun _ h9 => h9) rfl (tyX12_ok 0 (by decide)) rfl rfl (Nat.le_of_ble_eq_true rfl) dX12_closed_2 (fun H locs hP hD hS => ?_)
  obtain ⟨V1, hV1⟩ : ∃ z, z = up2 V 0 0 0 := ⟨_, rfl⟩
  have hP : va_P D vwCl (mw ad kk ks.1 V1 L) H := by rw [hV1]; exact hP
  have hD : va_D A (mw ad kk ks.1 V1 L) := by rw [hV1]; exact hD
  have hMV1 : rgd bM V1 := hMV.put hV1 (i_full _)
  have agV1 : agr [(0, 0)] [] V V1 := agV.up hV1 rfl
  refine lv_iload_n hx hb dX12_closed_5 rfl (lv_at hl 1 rfl) ?_
  refine lv_if_lt (tgt := 24) hx hb dX12_closed_6 (by decide) (fun c2 => ?_) (fun c2 => ?_)
  · skip
    have f3 : p0.toInt < 0 := b_lt rfl (by decide) c2
    refine lv_iconst (v := (-1)) hx hb dX12_closed_24 (by decide) ?_
    exact W.iret (v := (-1)) hx hb hr (fun t ht hW => ⟨⟨(-1), (V1, L), rfl, ⟨hMV1, agV1, rfl, (show ((p0.toInt < 0 ∨ (V 0 73).toInt ≤ p0.toInt ∨ 300 ≤ p0.toInt) ∧ (-1) = -1) ∨ ((0 ≤ p0.toInt ∧ p0.toInt < (V 0 73).toInt ∧ p0.toInt < 300) ∧ ((p1.toInt = 0 ∧ (-1) = (V 74 (Int32.toNatClampNeg p0)).toInt) ∨ (p1.toInt = 1 ∧ (-1) = (V 75 (Int32.toNatClampNeg p0)).toInt) ∨ ((p1.toInt < 0 ∨ 1 < p1.toInt) ∧ (-1) = -1))) from by omega)⟩, by rw [ht]; exact hP, va_K.moved hW.alike hK, hD⟩, hS.F ht⟩) hS.2.2 dX12_closed_25
  · skip
    have f4 : 0 ≤ p0.toInt := b_nlt rfl (by decide) c2
    refine lv_iload_n hx hb dX12_closed_9 rfl (lv_at hl 1 rfl) ?_
    refine lv_aload_n hx hb dX12_closed_10 rfl (lv_at hl 0 rfl) ?_
    refine va_get (D := D) (ci := 12) (v := .int (V1 0 73)) (C := RX12) (T := TX12) (N := 100) hx hb hg inX12 hown hK hP 0 rfl rfl 73 (by decide) (hg _ w1779) (fun _ h9 => h9) rfl dX12_closed_11 ?_
    refine g_top (v := (V 0 73)) (up2_k hV1 (by decide)) ?_
    have r5 : 0 ≤ ((V 0 73)).toInt ∧ ((V 0 73)).toInt ≤ 1000000 := hMV 0 73
    refine lv_icmp_ge (tgt := 24) hx hb dX12_closed_14 (by decide) (fun c6 => ?_) (fun c6 => ?_)
    · skip
      have f7 : ((V 0 73)).toInt ≤ p0.toInt := b_le rfl rfl c6
      refine lv_iconst (v := (-1)) hx hb dX12_closed_24 (by decide) ?_
      exact W.iret (v := (-1)) hx hb hr (fun t ht hW => ⟨⟨(-1), (V1, L), rfl, ⟨hMV1, agV1, rfl, (show ((p0.toInt < 0 ∨ (V 0 73).toInt ≤ p0.toInt ∨ 300 ≤ p0.toInt) ∧ (-1) = -1) ∨ ((0 ≤ p0.toInt ∧ p0.toInt < (V 0 73).toInt ∧ p0.toInt < 300) ∧ ((p1.toInt = 0 ∧ (-1) = (V 74 (Int32.toNatClampNeg p0)).toInt) ∨ (p1.toInt = 1 ∧ (-1) = (V 75 (Int32.toNatClampNeg p0)).toInt) ∨ ((p1.toInt < 0 ∨ 1 < p1.toInt) ∧ (-1) = -1))) from by omega)⟩, by rw [ht]; exact hP, va_K.moved hW.alike hK, hD⟩, hS.F ht⟩) hS.2.2 dX12_closed_25
    · skip
      have f8 : p0.toInt < ((V 0 73)).toInt := b_nle rfl rfl c6
      refine lv_iload_n hx hb dX12_closed_17 rfl (lv_at hl 1 rfl) ?_
      refine lv_sipush (v := 300) hx hb dX12_closed_18 (by decide) ?_
      refine lv_icmp_lt (tgt := 26) hx hb dX12_closed_21 (by decide) (fun c9 => ?_) (fun c9 => ?_)
      · skip
        have f10 : p0.toInt < 300 := b_lt rfl (by decide) c9
        refine lv_iload_n hx hb dX12_closed_26 rfl (lv_at hl 2 rfl) ?_
        refine lv_if_ne (tgt := 39) hx hb dX12_closed_27 (by decide) (fun c11 => ?_) (fun c11 => ?_)
        · skip
          have f12 : p1.toInt ≠ 0 := b_neq rfl (by decide) c11
          refine lv_iload_n hx hb dX12_closed_39 rfl (lv_at hl 2 rfl) ?_
          refine lv_iconst (v := 1) hx hb dX12_closed_40 (by decide) ?_
          refine lv_icmp_ne (tgt := 53) hx hb dX12_closed_41 (by decide) (fun c13 => ?_) (fun c13 => ?_)
          · skip
            have f14 : p1.toInt ≠ 1 := b_neq rfl (by decide) c13
            refine lv_iconst (v := (-1)) hx hb dX12_closed_53 (by decide) ?_
            exact W.iret (v := (-1)) hx hb hr (fun t ht hW => ⟨⟨(-1), (V1, L), rfl, ⟨hMV1, agV1, rfl, (show ((p0.toInt < 0 ∨ (V 0 73).toInt ≤ p0.toInt ∨ 300 ≤ p0.toInt) ∧ (-1) = -1) ∨ ((0 ≤ p0.toInt ∧ p0.toInt < (V 0 73).toInt ∧ p0.toInt < 300) ∧ ((p1.toInt = 0 ∧ (-1) = (V 74 (Int32.toNatClampNeg p0)).toInt) ∨ (p1.toInt = 1 ∧ (-1) = (V 75 (Int32.toNatClampNeg p0)).toInt) ∨ ((p1.toInt < 0 ∨ 1 < p1.toInt) ∧ (-1) = -1))) from by omega)⟩, by rw [ht]; exact hP, va_K.moved hW.alike hK, hD⟩, hS.F ht⟩) hS.2.2 dX12_closed_54
          · skip
            have f15 : p1.toInt = 1 := b_eq rfl (by decide) c13
            refine lv_aload_n hx hb dX12_closed_44 rfl (lv_at hl 0 rfl) ?_
            refine va_get (D := D) (ci := 12) (v := .ref (ad 75)) (C := RX12) (T := TX12) (N := 100) hx hb hg inX12 hown hK hP 0 rfl rfl 75 (by decide) (hg _ w1781) (fun _ h9 => h9) rfl dX12_closed_45 ?_
            refine lv_iload_n hx hb dX12_closed_48 rfl (lv_at hl 1 rfl) ?_
            refine va_iald (D := D) (i := p0) hx hb hK hP 53 52 rfl rfl (i_in (a := p0.toInt) rfl (by (first | exact om_5b0e5b7d98b0 f4 f10 | omega))) dX12_closed_49 ?_
            refine g_top (v := (V 75 (Int32.toNatClampNeg p0))) (up2_o hV1 (by decide)) ?_
            refine lv_goto (tgt := 54) hx hb dX12_closed_50 (by decide) ?_
            exact W.iret (v := (V 75 (Int32.toNatClampNeg p0))) hx hb hr (fun t ht hW => ⟨⟨(V 75 (Int32.toNatClampNeg p0)), (V1, L), rfl, ⟨hMV1, agV1, rfl, (show ((p0.toInt < 0 ∨ (V 0 73).toInt ≤ p0.toInt ∨ 300 ≤ p0.toInt) ∧ ((V 75 (Int32.toNatClampNeg p0))).toInt = -1) ∨ ((0 ≤ p0.toInt ∧ p0.toInt < (V 0 73).toInt ∧ p0.toInt < 300) ∧ ((p1.toInt = 0 ∧ ((V 75 (Int32.toNatClampNeg p0))).toInt = (V 74 (Int32.toNatClampNeg p0)).toInt) ∨ (p1.toInt = 1 ∧ ((V 75 (Int32.toNatClampNeg p0))).toInt = (V 75 (Int32.toNatClampNeg p0)).toInt) ∨ ((p1.toInt < 0 ∨ 1 < p1.toInt) ∧ ((V 75 (Int32.toNatClampNeg p0))).toInt = -1))) from by omega)⟩, by rw [ht]; exact hP, va_K.moved hW.alike hK, hD⟩, hS.F ht⟩) hS.2.2 dX12_closed_54
        · skip
          have f16 : p1.toInt = 0 := b_eq rfl (by decide) c11
          refine lv_aload_n hx hb dX12_closed_30 rfl (lv_at hl 0 rfl) ?_
          refine va_get (D := D) (ci := 12) (v := .ref (ad 74)) (C := RX12) (T := TX12) (N := 100) hx hb hg inX12 hown hK hP 0 rfl rfl 74 (by decide) (hg _ w1780) (fun _ h9 => h9) rfl dX12_closed_31 ?_
          refine lv_iload_n hx hb dX12_closed_34 rfl (lv_at hl 1 rfl) ?_
          refine va_iald (D := D) (i := p0) hx hb hK hP 52 51 rfl rfl (i_in (a := p0.toInt) rfl (by (first | exact om_5b0e5b7d98b0 f4 f10 | omega))) dX12_closed_35 ?_
          refine g_top (v := (V 74 (Int32.toNatClampNeg p0))) (up2_o hV1 (by decide)) ?_
          refine lv_goto (tgt := 54) hx hb dX12_closed_36 (by decide) ?_
          exact W.iret (v := (V 74 (Int32.toNatClampNeg p0))) hx hb hr (fun t ht hW => ⟨⟨(V 74 (Int32.toNatClampNeg p0)), (V1, L), rfl, ⟨hMV1, agV1, rfl, (show ((p0.toInt < 0 ∨ (V 0 73).toInt ≤ p0.toInt ∨ 300 ≤ p0.toInt) ∧ ((V 74 (Int32.toNatClampNeg p0))).toInt = -1) ∨ ((0 ≤ p0.toInt ∧ p0.toInt < (V 0 73).toInt ∧ p0.toInt < 300) ∧ ((p1.toInt = 0 ∧ ((V 74 (Int32.toNatClampNeg p0))).toInt = (V 74 (Int32.toNatClampNeg p0)).toInt) ∨ (p1.toInt = 1 ∧ ((V 74 (Int32.toNatClampNeg p0))).toInt = (V 75 (Int32.toNatClampNeg p0)).toInt) ∨ ((p1.toInt < 0 ∨ 1 < p1.toInt) ∧ ((V 74 (Int32.toNatClampNeg p0))).toInt = -1))) from by omega)⟩, by rw [ht]; exact hP, va_K.moved hW.alike hK, hD⟩, hS.F ht⟩) hS.2.2 dX12_closed_54
      · skip
        have f17 : 300 ≤ p0.toInt := b_nlt rfl (by decide) c9
        refine lv_iconst (v := (-1)) hx hb dX12_closed_24 (by decide) ?_
        exact W.iret (v := (-1)) hx hb hr (fun t ht hW => ⟨⟨(-1), (V1, L), rfl, ⟨hMV1, agV1, rfl, (show ((p0.toInt < 0 ∨ (V 0 73).toInt ≤ p0.toInt ∨ 300 ≤ p0.toInt) ∧ (-1) = -1) ∨ ((0 ≤ p0.toInt ∧ p0.toInt < (V 0 73).toInt ∧ p0.toInt < 300) ∧ ((p1.toInt = 0 ∧ (-1) = (V 74 (Int32.toNatClampNeg p0)).toInt) ∨ (p1.toInt = 1 ∧ (-1) = (V 75 (Int32.toNatClampNeg p0)).toInt) ∨ ((p1.toInt < 0 ∨ 1 < p1.toInt) ∧ (-1) = -1))) from by omega)⟩, by rw [ht]; exact hP, va_K.moved hW.alike hK, hD⟩, hS.F ht⟩) hS.2.2 dX12_closed_25
end
