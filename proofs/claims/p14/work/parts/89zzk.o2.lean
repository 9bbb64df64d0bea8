/-! the E's of a BOOK pay for themselves: by how they were laid -/
section WFb
variable {V : Vf} {nx : Nat} {B : Bk}
theorem CEw.oq {nd : Int} {n9 : Nat} {ar : Bool} {a : Nat} (h : CEw nd ar V (10000 * nx) (10000 * nx + cl B.1) (10000 * nx + a)) (hn : nd ≤ (n9 : Int)) (cd : CDm V (10000 * nx) B.1) : OQ B n9 ar a 0 0 := by
  obtain ⟨h9, b, w, w0, w1, w2, w3⟩ := h
  have lt := w.lt
  obtain ⟨f, w⟩ := w
  obtain ⟨b2, rfl⟩ : ∃ b2, b = 10000 * nx + b2 := ⟨b - 10000 * nx, by omega⟩
  have hb : b2 < cl B.1 := by omega
  have ob : opf B.1 b2 = 0 := by
    have z := cd.ocT hb
    rw [w0] at z
    omega
  exact SEG hn cd f h9 _ _ w a b2 rfl rfl (by omega) 0 0 (by omega) ⟨1, hb, by omega, Or.inl ⟨ob, rfl⟩⟩
theorem WFB.of (tb : TBL V nx (10000 * nx + cl B.1)) (cd : CDm V (10000 * nx) B.1) (re : REm V nx B.1) (wm : WMm V nx B.1) (n19 : (V 19 nx).toInt = ((nC B : Nat) : Int)) (n39 : (V 39 nx).toInt = ((B.1.2.2.1.length : Nat) : Int)) (co : ∀ c, c < nC B → (V 27 (24 * nx + c)).toInt = ((bN B c : Nat) : Int)) : WFB B := by
  refine ⟨fun c k hb => ?_, fun i hi => ?_⟩
  · unfold bE at hb
    by_cases q : c < (B.1.2.1 2).length ∧ (k < 20 ∨ k = 30 ∨ k = 31)
    · rw [if_pos q] at hb
      rw [bE_i q.1 q.2]
      have z := re.2.1 c q.1 k q.2
      unfold rgm at z
      rw [if_neg hb] at z
      have t := tb.1 c (by rw [n19]; exact Int.ofNat_lt.mpr q.1)
      have go : ∀ x : Int32, x.toInt = ((10000 * nx : Nat) : Int) + ((nL B.1 (100 + 32 * c + k) - 1 : Nat) : Int) → stOK (V 27 (24 * nx + c)).toInt false V (10000 * nx) (10000 * nx + cl B.1) x → OQ B (bN B c) false (nL B.1 (100 + 32 * c + k) - 1) 0 0 := fun x hx st => by
        have ce := st (by omega)
        rw [show x.toInt.toNat = 10000 * nx + (nL B.1 (100 + 32 * c + k) - 1) from by omega] at ce
        exact CEw.oq ce.2.2 (by rw [co c q.1]; exact Int.le_refl _) cd
      unfold cM at z
      by_cases k20 : k < 20
      · rw [if_pos k20] at z
        exact go _ z (t.2.2.1 k k20)
      · rw [if_neg k20] at z
        by_cases k30 : k = 30
        · rw [if_pos k30] at z
          exact go _ z t.1
        · rw [if_neg k30] at z
          exact go _ z t.2.1
    · rw [if_neg q] at hb
      exact absurd rfl hb
  · have m : (bW B).getD i 0 ∈ bW B := by
      rw [gd_el hi]
      exact List.getElem_mem hi
    have hw := bW_mem m
    have hl : (bW B).getD i 0 < B.1.2.2.1.length := by
      unfold wN at hw
      omega
    have t := tb.2 _ (show (((bW B).getD i 0 : Nat) : Int) < (V 39 nx).toInt from by rw [n39]; exact Int.ofNat_lt.mpr hl)
    have r := wm.2 _ hl
    have ce := t.2.1
    have e44 := r.2.2.2.2
    have e43 := r.2.2.2.1
    rw [show (V 44 (12 * nx + (bW B).getD i 0)).toInt.toNat = 10000 * nx + wAt B i from by unfold wAt; omega, show decide ((V 43 (12 * nx + (bW B).getD i 0)).toInt = 1) = decide (nL B.1 (903 + 8 * (bW B).getD i 0) = 1) from decide_eq_decide.mpr (by omega)] at ce
    exact CEw.oq ce.2.2 (Int.le_refl _) cd
end WFb
/-! an E names settings that are there -/
def BGq (s : St) : Prop := 25 ≤ (s.2.1 2).length ∨ 13 ≤ s.2.2.1.length ∨ 21 ≤ (s.2.1 3).length
def okQs (s : St) (i : Nat) : Prop := i < cl s ∧ opf s i ≠ 11
def QIt (s : St) (i : It) : Prop := (i.1 = 42 → i.2.1 ≠ 11) ∧ (i.1 = 44 → okQs s (i.2.2.2.2.2.headD 0)) ∧ (i.1 = 45 → okQs s i.2.1)
def QIs (s : St) : List It → Prop
  | [] => True
  | i :: k => QIt s i ∧ QIs s k
def QS (s : St) : Prop := BGq s ∨ SEs s
def QK (s : St) (k : List It) : Prop := BGq s ∨ QIs s k
def QO (s : St) (i : It) : Prop := BGq s ∨ QIt s i
def QP : Cf → Prop
  | .inl (s, k) => QS s ∧ QK s k
  | .inr (.inl _) => True
  | .inr (.inr s) => QS s
def keepQ (s s' : St) : Prop := (BGq s → BGq s') ∧ (¬ BGq s → (∀ j, j = 5 ∨ 2000 ≤ j → s'.2.1 j = s.2.1 j) ∧ (s.2.1 1).length ≤ (s'.2.1 1).length)
section QPs
variable {T : Tk} {s s' : St} {k : List It}
theorem keepQ.sm (e : s'.2.1 = s.2.1) (e2 : s'.2.2.1 = s.2.2.1) : keepQ s s' := by
  refine ⟨fun h => ?_, fun _ => ⟨fun j _ => by rw [e], by rw [e]; exact Nat.le_refl _⟩⟩
  unfold BGq at h ⊢
  rw [e, e2]
  exact h
theorem keepQ.n1 {n : Nat} : keepQ s (nx s n) := keepQ.sm rfl rfl
theorem keepQ.sn {i v : Nat} : keepQ s (sN s i v) := keepQ.sm rfl rfl
theorem keepQ.st {l : List Nat} : keepQ s (sT s l) := keepQ.sm rfl rfl
theorem keepQ.sc : keepQ s (scopeS s) := keepQ.sm rfl rfl
theorem keepQ.nd {a : Int} {f ca : Nat} : keepQ s (ndS s a f ca) := keepQ.sm rfl rfl
theorem upB_ge (f : Nat → List Int64) (t : Nat) (w : Int64) (j : Nat) : (f j).length ≤ (upB f t w j).length := by
  by_cases q : j = t
  · rw [q, upB_l]
    omega
  · rw [upB_o _ _ _ q]
    exact Nat.le_refl _
theorem keepQ.ub {t : Nat} {w : Int64} (ht : t < 5) (e : s'.2.1 = upB s.2.1 t w) (e2 : s'.2.2.1 = s.2.2.1) : keepQ s s' := by
  refine ⟨fun h => ?_, fun _ => ⟨fun j hj => by rw [e, upB_o _ _ _ (by omega)], by rw [e]; exact upB_ge _ _ _ _⟩⟩
  unfold BGq at h ⊢
  rw [e, e2]
  have z2 := upB_ge s.2.1 t w 2
  have z3 := upB_ge s.2.1 t w 3
  omega
theorem keepQ.sa {j : Nat} {w : Int64} (hj : j < 5) : keepQ s (sA s j w) := keepQ.ub hj rfl rfl
theorem keepQ.ty {w : Int64} {l : List Nat} : keepQ s (tyS s w l) := keepQ.ub (t := 0) (by decide) rfl rfl
theorem keepQ.se {w : Int64} {v : Nat} : keepQ s (seS s w v) := keepQ.ub (t := 1) (by decide) rfl rfl
theorem keepQ.nm {m : Nat} {sc : Int} {w : Int64} {l : List Nat} : keepQ s (nmS s m sc w l) := keepQ.ub (t := 2) (by decide) rfl rfl
theorem keepQ.gl {j : Nat} {x : List Int64} (h5 : 5 ≤ j) (h : ¬ BGq s → j ≠ 5 ∧ j < 2000) : keepQ s (sLl s j x) := by
  refine ⟨fun b => ?_, fun b => ⟨fun i hi => sL_o s x (by have := h b; omega), by rw [sL_o s x (by omega)]; exact Nat.le_refl _⟩⟩
  unfold BGq at b ⊢
  rw [sL_o s x (by omega), sL_o s x (by omega)]
  exact b
theorem keepQ.wS {m : Nat} {a : Int} {l : List Nat} : keepQ s (wrS s m a l) := by
  have o : ∀ j, j < 900 → (wrS s m a l).2.1 j = s.2.1 j := fun j hj => if_neg (by omega)
  have lw : (wrS s m a l).2.2.1.length = s.2.2.1.length + 1 := by
    show (s.2.2.1 ++ [(m, decide (a = 1))]).length = _
    rw [List.length_append]
    rfl
  refine ⟨fun b => ?_, fun b => ⟨fun j hj => ?_, by rw [o 1 (by decide)]; exact Nat.le_refl _⟩⟩
  · unfold BGq at b ⊢
    rw [o 2 (by decide), o 3 (by decide), lw]
    omega
  · unfold BGq at b
    exact if_neg (by omega)
theorem QS.kq (h : QS s) (q : keepQ s s') : QS s' := by
  by_cases b : BGq s
  · exact Or.inl (q.1 b)
  · have h2 := h.resolve_left b
    have k := q.2 b
    refine Or.inr (fun i hi ho => ?_)
    have ec : cl s' = cl s := congrArg List.length (k.1 5 (Or.inl rfl))
    have eo : opf s' i = opf s i := congrArg List.length (k.1 (2000 + 3 * i) (Or.inr (by omega)))
    have ex : nL s' (2001 + 3 * i) = nL s (2001 + 3 * i) := congrArg List.length (k.1 (2001 + 3 * i) (Or.inr (by omega)))
    rw [ec] at hi
    rw [eo] at ho
    have z := h2 i hi ho
    rw [ex]
    exact Nat.lt_of_lt_of_le z k.2
theorem QIs.of (f : ∀ i, QIt s i → QIt s' i) : ∀ k, QIs s k → QIs s' k
  | [], _ => trivial
  | i :: k, h => ⟨f i h.1, QIs.of f k h.2⟩
theorem QIt.mv {i : It} (h : QIt s i) (f : ∀ j, okQs s j → okQs s' j) : QIt s' i := ⟨h.1, fun e => f _ (h.2.1 e), fun e => f _ (h.2.2 e)⟩
theorem QK.kq (h : QK s k) (q : keepQ s s') : QK s' k := by
  by_cases b : BGq s
  · exact Or.inl (q.1 b)
  · have h2 := h.resolve_left b
    have z := q.2 b
    refine Or.inr (QIs.of (fun i hi => hi.mv (fun j hj => ?_)) k h2)
    have ec : cl s' = cl s := congrArg List.length (z.1 5 (Or.inl rfl))
    have eo : opf s' j = opf s j := congrArg List.length (z.1 (2000 + 3 * j) (Or.inr (by omega)))
    exact ⟨by rw [ec]; exact hj.1, by rw [eo]; exact hj.2⟩
theorem QK.c {i : It} (hi : (i.1 == 42 || i.1 == 44 || i.1 == 45) = false) (h : QK s k) : QK s (i :: k) := by
  rw [Bool.or_eq_false_iff, Bool.or_eq_false_iff] at hi
  rcases h with h | h
  · exact Or.inl h
  · exact Or.inr ⟨⟨fun e => absurd e (ne_of_beq_false hi.1.1), fun e => absurd e (ne_of_beq_false hi.1.2), fun e => absurd e (ne_of_beq_false hi.2)⟩, h⟩
theorem QK.m {o : Nat} (ho : o ≠ 11) (h : QK s k) : QK s (Iem o :: k) := by
  rcases h with h | h
  · exact Or.inl h
  · exact Or.inr ⟨⟨fun _ => ho, fun e => absurd (show (42 : Nat) = 44 from e) (by decide), fun e => absurd (show (42 : Nat) = 45 from e) (by decide)⟩, h⟩
theorem QK.p2 {d i : Nat} (ho : okQs s i) (h : QK s k) : QK s (Ipk2 d i :: k) := by
  rcases h with h | h
  · exact Or.inl h
  · exact Or.inr ⟨⟨fun e => absurd (show (44 : Nat) = 42 from e) (by decide), fun _ => ho, fun e => absurd (show (44 : Nat) = 45 from e) (by decide)⟩, h⟩
theorem QK.p3 {i : Nat} (ho : okQs s i) (h : QK s k) : QK s (Ipk3 i :: k) := by
  rcases h with h | h
  · exact Or.inl h
  · exact Or.inr ⟨⟨fun e => absurd (show (45 : Nat) = 42 from e) (by decide), fun e => absurd (show (45 : Nat) = 44 from e) (by decide), fun _ => ho⟩, h⟩
theorem BGq.em {o : Nat} {x : List Int64} {y : Nat} (h : BGq s) : BGq (emL s o x y) := by
  unfold BGq at h ⊢
  rw [emS_5 s o x y 2 (by decide), emS_5 s o x y 3 (by decide)]
  exact h
theorem okQs.em {o i : Nat} {x : List Int64} {y : Nat} (h : okQs s i) : okQs (emL s o x y) i := ⟨by rw [cl_em]; have := h.1; omega, by rw [opf_em s o x y h.1]; exact h.2⟩
theorem QS.em9 {o : Nat} {x : List Int64} {y : Nat} (h : QS s) (ho : BGq s ∨ o ≠ 11) : QS (emL s o x y) := by
  by_cases b : BGq s
  · exact Or.inl b.em
  · have h2 := h.resolve_left b
    have ho := ho.resolve_left b
    refine Or.inr (fun i hi e => ?_)
    rw [cl_em] at hi
    by_cases q : i = cl s
    · rw [q] at e
      have e2 : nL (emL s o x y) (2000 + 3 * cl s) = 11 := e
      rw [op_em] at e2
      exact absurd e2 ho
    · rw [opf_em s o x y (show i < cl s from by omega)] at e
      rw [nL_em s o x y (by omega) (Or.inl (by omega)), emS_5 s o x y 1 (by decide)]
      exact h2 i (by omega) e
theorem QS.em {o : Nat} {x : List Int64} {y : Nat} (h : QS s) (ho : o ≠ 11) : QS (emL s o x y) := h.em9 (Or.inr ho)
theorem QS.e1 {f : Nat} (h : QS s) (hf : f < (s.2.1 1).length) : QS (emS s 11 f 0) := by
  by_cases b : BGq s
  · exact Or.inl b.em
  · have h2 := h.resolve_left b
    refine Or.inr (fun i hi e => ?_)
    rw [cl_em] at hi
    rw [emS_5 s 11 _ 0 1 (by decide)]
    by_cases q : i = cl s
    · rw [q, x_em, List.length_replicate]
      exact hf
    · rw [opf_em s 11 _ 0 (show i < cl s from by omega)] at e
      rw [nL_em s 11 _ 0 (by omega) (Or.inl (by omega))]
      exact h2 i (by omega) e
theorem QK.em {o : Nat} {x : List Int64} {y : Nat} (h : QK s k) : QK (emL s o x y) k := by
  rcases h with h | h
  · exact Or.inl h.em
  · exact Or.inr (QIs.of (fun i hi => hi.mv (fun j hj => hj.em)) k h)
theorem BGq.pt {i x : Nat} (h : BGq s) : BGq (ptS s i x) := by
  unfold BGq at h ⊢
  have e : ∀ j, j < 5 → (ptS s i x).2.1 j = s.2.1 j := fun j hj => sL_o s _ (by omega)
  rw [e 2 (by decide), e 3 (by decide)]
  exact h
theorem QS.pt {i x : Nat} (h : QS s) (ho : BGq s ∨ okQs s i) : QS (ptS s i x) := by
  by_cases b : BGq s
  · exact Or.inl b.pt
  · have h2 := h.resolve_left b
    have ho := ho.resolve_left b
    refine Or.inr (fun j hj e => ?_)
    rw [cl_pt] at hj
    rw [opf_pt] at e
    have e1 : (ptS s i x).2.1 1 = s.2.1 1 := sL_o s _ (by omega)
    have ne : j ≠ i := fun q => ho.2 (by rw [← q]; exact e)
    have ex : nL (ptS s i x) (2001 + 3 * j) = nL s (2001 + 3 * j) := nL_o s _ (by omega)
    rw [ex, e1]
    exact h2 j hj e
theorem QK.pt {i x : Nat} (h : QK s k) : QK (ptS s i x) k := by
  rcases h with h | h
  · exact Or.inl h.pt
  · exact Or.inr (QIs.of (fun j hj => hj.mv (fun t ht => ⟨by rw [cl_pt]; exact ht.1, by rw [opf_pt]; exact ht.2⟩)) k h)
theorem QO.em {o m : Nat} {sc x : Int} {w : Int64} {l : List Nat} {z : List Int64} {y : Nat} (h : QO s (44, m, sc, x, w, l)) : BGq (emL s o z y) ∨ okQs (emL s o z y) (l.headD 0) := by
  rcases h with h | h
  · exact Or.inl h.em
  · exact Or.inr (h.2.1 rfl).em
theorem okQs.n2 : okQs (emS s 12 0 0) (cl s) := ⟨by rw [cl_em]; omega, by rw [show opf (emS s 12 0 0) (cl s) = 12 from op_em s 12 _ 0]; decide⟩
theorem okQs.n3 {i x : Nat} : okQs (ptS (emS s 13 0 0) i x) (cl s) := ⟨by rw [cl_pt, cl_em]; omega, by rw [opf_pt, show opf (emS s 13 0 0) (cl s) = 13 from op_em s 13 _ 0]; decide⟩
theorem QP.i2 {p : Prop} [Decidable p] {a b : Cf} (ha : p → QP a) (hb : ¬ p → QP b) : QP (if p then a else b) := by
  split
  · exact ha ‹_›
  · exact hb ‹_›
theorem QP.lk {l : List Int64} {f : Nat → Cf} (h : ∀ x, fndI l (T.2.1 (s.1 0)) = some x → QP (f x)) : QP (look T s l f) := by
  unfold look
  refine QP.i2 (fun _ => trivial) (fun _ => ?_)
  split
  · exact trivial
  · rename_i x e
    exact h x e
theorem QP.nw {f : Int64 → Cf} (h : ∀ w, QP (f w)) : QP (newN T s f) := by
  unfold newN
  exact QP.i2 (fun _ => trivial) (fun _ => QP.i2 (fun _ => trivial) (fun _ => h _))
theorem QP.mw {j : Nat} {f : Nat × St → Cf} (hj : j = 3 ∨ j = 4) (hs : QS s) (hk : QK s k) (h : ∀ x : Nat × St, QS x.2 → QK x.2 k → (¬ BGq x.2 → j = 3 → x.1 ≤ 20) → x.2.2.1 2 = s.2.1 2 → QP (f x)) : QP (mthW T s j f) := by
  unfold mthW
  refine QP.i2 (fun _ => trivial) (fun _ => ?_)
  unfold nbrW
  split
  · rename_i x e
    refine h _ (hs.kq keepQ.n1) (hk.kq keepQ.n1) (fun b q => ?_) rfl
    have z := fnd_le e
    rw [q] at z
    have b : ¬ (25 ≤ (s.2.1 2).length ∨ 13 ≤ s.2.2.1.length ∨ 21 ≤ (s.2.1 3).length) := b
    show x ≤ 20
    omega
  · refine QP.i2 (fun _ => trivial) (fun q => h _ ((hs.kq keepQ.n1).kq (keepQ.sa (by omega))) ((hk.kq keepQ.n1).kq (keepQ.sa (by omega))) (fun _ _ => ?_) (upB_o _ _ _ (by omega)))
    show (s.2.1 j).length ≤ 20
    omega
theorem QP.mn {f : Nat × St → Cf} (hs : QS s) (hk : QK s k) (h : ∀ x : Nat × St, QS x.2 → QK x.2 k → (¬ BGq x.2 → (3 : Nat) = 3 → x.1 ≤ 20) → x.2.2.1 2 = s.2.1 2 → QP (f x)) : QP (mthN T s f) := by
  unfold mthN
  exact QP.i2 (fun _ => trivial) (fun _ => QP.mw (Or.inl rfl) hs hk h)
theorem QP.nu {lo hi : Int} {f : Nat → Cf} (h : ∀ v, QP (f v)) : QP (numW T s lo hi f) := by
  unfold numW
  exact QP.i2 (fun _ => trivial) (fun _ => QP.i2 (fun _ => trivial) (fun _ => h _))
theorem QP.it (h : QS s) (hk : QK s k) : (i : It) → QO s i → QP (itW T s k i)
  | (0, _, _, _, _, _), _ => QP.i2 (fun _ => ⟨h.kq keepQ.n1, (hk.kq keepQ.n1)⟩) (fun _ => trivial)
  | (1, _, _, _, _, _), _ => ⟨h, (QK.c rfl (QK.c rfl hk))⟩
  | (2, _, _, _, _, _), _ => QP.i2 (fun _ => ⟨h.kq keepQ.n1, (QK.c rfl (QK.m (by split <;> decide) (hk.kq keepQ.n1)))⟩) (fun _ => ⟨h, hk⟩)
  | (3, _, _, _, _, _), _ => ⟨h, (QK.c rfl (QK.c rfl hk))⟩
  | (4, _, _, _, _, _), _ => QP.i2 (fun _ => ⟨h.kq keepQ.n1, (QK.c rfl (QK.m (by split <;> decide) (QK.c rfl (hk.kq keepQ.n1))))⟩) (fun _ => ⟨h, hk⟩)
  | (5, _, _, _, _, _), _ => ⟨h, (QK.c rfl (QK.c rfl hk))⟩
  | (6, _, _, _, _, _), _ => QP.i2 (fun _ => ⟨h.kq keepQ.n1, (QK.c rfl (QK.m (by decide) (QK.c rfl (hk.kq keepQ.n1))))⟩) (fun _ => ⟨h, hk⟩)
  | (7, d, _, _, _, _), _ => by
    show QP (if ¬ bgP T s then fl T s 1 else if 8 ≤ d then fl T s 5 else partW T s d k)
    refine QP.i2 (fun _ => trivial) (fun _ => QP.i2 (fun _ => trivial) (fun _ => ?_))
    unfold partW
    exact QP.i2 (fun _ => ⟨((h.kq keepQ.n1).em (by decide)).em (by decide), ((hk.kq keepQ.n1).em).em⟩) (fun _ => QP.i2 (fun _ => ⟨(h.kq keepQ.n1).em (by decide), (QK.m (by decide) ((hk.kq keepQ.n1).em))⟩) (fun _ => QP.i2 (fun _ => ⟨(h.kq keepQ.n1).em (by decide), (QK.c rfl (QK.c rfl ((hk.kq keepQ.n1).em)))⟩) (fun _ => QP.i2 (fun _ => ⟨(h.kq keepQ.n1).em (by decide), (QK.c rfl (QK.m (by decide) ((hk.kq keepQ.n1).em)))⟩) (fun _ => QP.i2 (fun _ => ⟨(h.kq keepQ.n1).em (by decide), (QK.c rfl ((hk.kq keepQ.n1).em))⟩) (fun _ => QP.i2 (fun _ => ⟨(h.kq keepQ.n1).em (by decide), (QK.c rfl ((hk.kq keepQ.n1).em))⟩) (fun _ => QP.i2 (fun _ => ⟨(h.kq keepQ.n1).em (by decide), (QK.c rfl (QK.c rfl (QK.c rfl (QK.c rfl ((hk.kq keepQ.n1).em)))))⟩) (fun _ => QP.i2 (fun _ => ⟨(h.kq keepQ.n1).em (by decide), (QK.c rfl ((hk.kq keepQ.n1).em))⟩) (fun _ => ⟨(h.kq keepQ.n1).em (by decide), (QK.c rfl (QK.c rfl (QK.c rfl (QK.m (by decide) ((hk.kq keepQ.n1).em)))))⟩))))))))
  | (8, _, _, _, _, _), _ => QP.i2 (fun _ => trivial) (fun _ => QP.i2 (fun _ => trivial) (fun _ => ⟨h.kq keepQ.n1, (hk.kq keepQ.n1)⟩))
  | (9, _, _, _, _, _), _ => QP.lk (fun x hx => ⟨(h.kq keepQ.n1).e1 (show x < ((nx s 1).2.1 1).length from fnd_le hx), (hk.kq keepQ.n1).em⟩)
  | (10, _, _, _, _, _), _ => QP.mw (by decide) h hk (fun _ g gk _ _ => ⟨g, (QK.c rfl (QK.c rfl (QK.c rfl (QK.c rfl gk))))⟩)
  | (11, _, _, _, _, _), _ => QP.mw (by decide) h hk (fun _ g gk _ _ => ⟨g, (QK.c rfl (QK.c rfl (QK.c rfl gk)))⟩)
  | (12, _, _, _, _, _), _ => by
    show QP (stmtW T s k)
    unfold stmtW
    exact QP.i2 (fun _ => h) (fun _ => QP.i2 (fun _ => QP.i2 (fun _ => trivial) (fun _ => ⟨h.kq keepQ.n1, (QK.c rfl (hk.kq keepQ.n1))⟩)) (fun _ => QP.i2 (fun _ => QP.i2 (fun _ => trivial) (fun _ => ⟨h.kq keepQ.n1, (QK.c rfl (hk.kq keepQ.n1))⟩)) (fun _ => QP.i2 (fun _ => QP.i2 (fun _ => trivial) (fun _ => ⟨h.kq keepQ.n1, (QK.c rfl (hk.kq keepQ.n1))⟩)) (fun _ => QP.i2 (fun _ => QP.i2 (fun _ => trivial) (fun _ => ⟨h.kq keepQ.n1, (QK.c rfl (hk.kq keepQ.n1))⟩)) (fun _ => trivial)))))
  | (13, _, _, _, _, _), _ => QP.nw (f := fun w => Crun (nx s 1) (Ilike w :: k)) (fun _ => ⟨h.kq keepQ.n1, (QK.c rfl (hk.kq keepQ.n1))⟩)
  | (14, _, _, _, _, _), _ => QP.lk (fun _ _ => QP.i2 (fun _ => trivial) (fun _ => QP.i2 (fun _ => trivial) (fun _ => ⟨h.kq keepQ.n1, (QK.c rfl (hk.kq keepQ.n1))⟩)))
  | (15, _, _, _, _, _), _ => ⟨h.kq keepQ.ty, hk.kq keepQ.ty⟩
  | (16, _, _, _, _, _), _ => QP.nw (f := fun w => Crun (nx s 1) (IsetN w :: k)) (fun _ => ⟨h.kq keepQ.n1, (QK.c rfl (hk.kq keepQ.n1))⟩)
  | (17, _, _, _, _, _), _ => ⟨h.kq keepQ.se, hk.kq keepQ.se⟩
  | (18, _, _, _, _, _), _ => QP.nw (f := fun w => Crun (nx s 1) (Itake 132 :: Itypes 1 w 0 [] :: k)) (fun _ => ⟨h.kq keepQ.n1, (QK.c rfl (QK.c rfl (hk.kq keepQ.n1)))⟩)
  | (19, _, _, _, _, _), _ => QP.i2 (fun _ => trivial) (fun _ => ⟨h.kq keepQ.sc, (QK.c rfl (hk.kq keepQ.sc))⟩)
  | (20, _, _, _, _, _), _ => QP.i2 (fun _ => ⟨h.kq keepQ.n1, (QK.c rfl (hk.kq keepQ.n1))⟩) (fun _ => ⟨h, (QK.c rfl (QK.c rfl (QK.c rfl hk)))⟩)
  | (21, _, _, _, _, _), _ => QP.i2 (fun _ => ⟨h.kq keepQ.n1, (QK.c rfl (hk.kq keepQ.n1))⟩) (fun _ => ⟨h, (QK.c rfl hk)⟩)
  | (22, _, _, _, _, _), _ => QP.i2 (fun _ => ⟨h.kq keepQ.n1, (QK.c rfl (hk.kq keepQ.n1))⟩) (fun _ => ⟨h, (QK.c rfl (QK.c rfl (QK.c rfl hk)))⟩)
  | (23, _, _, _, _, _), _ => ⟨h.kq keepQ.nm, hk.kq keepQ.nm⟩
  | (24, _, _, _, _, _), _ => by
    show QP (memberW T s k)
    unfold memberW
    exact QP.i2 (fun _ => ⟨h.kq keepQ.n1, (QK.c rfl (hk.kq keepQ.n1))⟩) (fun _ => QP.i2 (fun _ => QP.i2 (fun _ => trivial) (fun _ => ⟨h.kq keepQ.n1, (QK.c rfl (hk.kq keepQ.n1))⟩)) (fun _ => QP.i2 (fun _ => QP.i2 (fun _ => trivial) (fun _ => ⟨((h.kq keepQ.sn).kq keepQ.n1).kq (keepQ.gl (by omega) (fun b9 => by unfold BGq at b9; have b8 : ¬ (25 ≤ (s.2.1 2).length ∨ 13 ≤ s.2.2.1.length ∨ 21 ≤ (s.2.1 3).length) := b9; omega)), (QK.c rfl (QK.m (by decide) (QK.c rfl (QK.c rfl (((hk.kq keepQ.sn).kq keepQ.n1).kq (keepQ.gl (by omega) (fun b9 => by unfold BGq at b9; have b8 : ¬ (25 ≤ (s.2.1 2).length ∨ 13 ≤ s.2.2.1.length ∨ 21 ≤ (s.2.1 3).length) := b9; omega)))))))⟩)) (fun _ => QP.i2 (fun _ => QP.i2 (fun _ => trivial) (fun _ => ⟨((h.kq keepQ.sn).kq keepQ.n1).kq (keepQ.gl (by omega) (fun b9 => by unfold BGq at b9; have b8 : ¬ (25 ≤ (s.2.1 2).length ∨ 13 ≤ s.2.2.1.length ∨ 21 ≤ (s.2.1 3).length) := b9; omega)), (QK.c rfl (QK.m (by decide) (QK.c rfl (QK.c rfl (((hk.kq keepQ.sn).kq keepQ.n1).kq (keepQ.gl (by omega) (fun b9 => by unfold BGq at b9; have b8 : ¬ (25 ≤ (s.2.1 2).length ∨ 13 ≤ s.2.2.1.length ∨ 21 ≤ (s.2.1 3).length) := b9; omega)))))))⟩)) (fun _ => QP.i2 (fun _ => ⟨h.kq keepQ.n1, (QK.c rfl (QK.c rfl (QK.m (by decide) (QK.c rfl (QK.c rfl (hk.kq keepQ.n1))))))⟩) (fun _ => trivial)))))
  | (25, _, _, _, _, _), _ => QP.lk (fun _ _ => QP.i2 (fun _ => ⟨h.kq keepQ.n1, (QK.c rfl (QK.c rfl (QK.c rfl (hk.kq keepQ.n1))))⟩) (fun _ => ⟨h.kq keepQ.n1, (QK.c rfl (hk.kq keepQ.n1))⟩))
  | (26, _, _, _, _, _), _ => ⟨h.kq keepQ.nd, hk.kq keepQ.nd⟩
  | (27, _, _, _, _, _), _ => QP.mn h hk (fun x g gk hx e2 => ⟨(g.kq keepQ.st).kq (keepQ.gl (by omega) (fun b9 => by have b8 : ¬ (25 ≤ (x.2.2.1 2).length ∨ 13 ≤ x.2.2.2.1.length ∨ 21 ≤ (x.2.2.1 3).length) := b9; have b7 := hx b9 rfl; rw [e2] at b8; omega)), (gk.kq keepQ.st).kq (keepQ.gl (by omega) (fun b9 => by have b8 : ¬ (25 ≤ (x.2.2.1 2).length ∨ 13 ≤ x.2.2.2.1.length ∨ 21 ≤ (x.2.2.1 3).length) := b9; have b7 := hx b9 rfl; rw [e2] at b8; omega))⟩)
  | (28, _, _, _, _, _), _ => QP.lk (fun _ _ => ⟨h.kq keepQ.n1, (QK.c rfl (QK.c rfl (hk.kq keepQ.n1)))⟩)
  | (29, _, _, _, _, _), _ => QP.mw (by decide) h hk (fun _ g gk _ _ => ⟨g, (QK.c rfl gk)⟩)
  | (30, _, _, _, _, _), _ => QP.i2 (fun _ => trivial) (fun _ => QP.i2 (fun _ => trivial) (fun _ => ⟨(h.kq keepQ.n1).kq keepQ.sn, (QK.c rfl (QK.m (by decide) (QK.c rfl (QK.c rfl (QK.c rfl ((hk.kq keepQ.n1).kq keepQ.sn))))))⟩))
  | (31, _, _, _, _, _), _ => ⟨h.kq keepQ.wS, hk.kq keepQ.wS⟩
  | (32, _, _, _, _, _), _ => QP.i2 (fun _ => ⟨h.kq keepQ.n1, (QK.c rfl (hk.kq keepQ.n1))⟩) (fun _ => ⟨h, (QK.c rfl (QK.c rfl (QK.c rfl hk)))⟩)
  | (33, _, _, _, _, _), _ => QP.i2 (fun _ => ⟨h.kq keepQ.n1, (QK.c rfl (hk.kq keepQ.n1))⟩) (fun _ => ⟨h, (QK.c rfl hk)⟩)
  | (34, _, _, _, _, _), _ => QP.i2 (fun _ => ⟨h.kq keepQ.n1, (QK.c rfl (hk.kq keepQ.n1))⟩) (fun _ => QP.i2 (fun _ => ⟨h.kq keepQ.n1, (QK.c rfl (hk.kq keepQ.n1))⟩) (fun _ => ⟨h, (QK.c rfl hk)⟩))
  | (35, _, _, _, _, _), _ => QP.i2 (fun _ => ⟨h, (QK.c rfl (QK.c rfl (QK.c rfl hk)))⟩) (fun _ => ⟨h, (QK.c rfl hk)⟩)
  | (36, _, _, _, w, _), _ => QP.nu (T := T) (s := s) (lo := 0) (hi := 999999999) (f := fun v => Crun (nx s 1) (Itake 59 :: IaddSe w v :: Istmt :: k)) (fun _ => ⟨h.kq keepQ.n1, (QK.c rfl (QK.c rfl (QK.c rfl (hk.kq keepQ.n1))))⟩)
  | (37, _, _, _, _, _), _ => QP.i2 (fun _ => ⟨h.kq keepQ.n1, (QK.c rfl (hk.kq keepQ.n1))⟩) (fun _ => ⟨h, (QK.c rfl hk)⟩)
  | (38, _, _, _, _, _), _ => QP.mw (by decide) h hk (fun _ g gk _ _ => ⟨g, (QK.c rfl gk)⟩)
  | (39, m, sc, _, w, l), _ => QP.nu (T := T) (s := s) (lo := 0) (hi := 9) (f := fun v => Crun (nx s 1) (IwhenI m sc w (v :: l) :: k)) (fun _ => ⟨h.kq keepQ.n1, (QK.c rfl (hk.kq keepQ.n1))⟩)
  | (40, _, _, _, _, _), _ => QP.lk (fun _ _ => ⟨h.kq keepQ.n1, (QK.c rfl (hk.kq keepQ.n1))⟩)
  | (41, m, sc, _, w, l), _ => QP.nu (T := T) (s := s) (lo := 0) (hi := 999999999) (f := fun v => Crun (nx s 1) (Itake 123 :: IaddNm m sc w (v :: l) :: Imember :: k)) (fun _ => ⟨h.kq keepQ.n1, (QK.c rfl (QK.c rfl (QK.c rfl (hk.kq keepQ.n1))))⟩)
  | (42, _, _, _, _, _), o => ⟨h.em9 (o.imp id (fun z => z.1 rfl)), hk.em⟩
  | (43, _, _, _, _, _), _ => ⟨h.em (by decide), QK.c rfl (QK.c rfl (QK.p2 okQs.n2 hk.em))⟩
  | (44, _, _, _, _, l), o => ⟨(h.em (by decide)).pt (QO.em o), QK.c rfl (QK.c rfl (QK.p3 okQs.n3 (hk.em.pt)))⟩
  | (45, _, _, _, _, _), o => ⟨h.pt (o.imp id (fun z => z.2.2 rfl)), hk.pt⟩
  | (46, d, _, _, _, _), _ => QP.nu (T := T) (s := s) (lo := 0) (hi := ((s.1 1 : Nat) : Int) - 1) (f := fun v => Crun (nx s 1) (Itake 46 :: IofM d v :: k)) (fun _ => ⟨h.kq keepQ.n1, (QK.c rfl (QK.c rfl (hk.kq keepQ.n1)))⟩)
  | (47, _, _, _, _, _), _ => ⟨h.em (by decide), hk.em⟩
  | (48, _, _, _, _, _), _ => QP.nu (T := T) (s := s) (lo := 1) (hi := 9) (f := fun v => Crun (emS (nx s 1) 10 v 0) k) (fun _ => ⟨(h.kq keepQ.n1).em (by decide), (hk.kq keepQ.n1).em⟩)
  | (49, f, _, _, _, l), _ => QP.nu (T := T) (s := s) (lo := 0) (hi := 99) (f := fun v => Crun (nx s 1) (Iphase (l.headD 0) [f, v] :: k)) (fun _ => ⟨h.kq keepQ.n1, (QK.c rfl (hk.kq keepQ.n1))⟩)
  | (_ + 50, _, _, _, _, _), _ => ⟨h, hk⟩
theorem QP.st {c : Cf} (h : QP c) : QP (mst T c) := by
  cases c with
  | inr c => exact h
  | inl c =>
    obtain ⟨s, k⟩ := c
    cases k with
    | nil => exact h
    | cons i k =>
      rcases h with ⟨h1, h2 | h2⟩
      · exact QP.it (s := s) h1 (Or.inl h2) i (Or.inl h2)
      · exact QP.it (s := s) h1 (Or.inr h2.2) i (Or.inr h2.1)
theorem QP.run (m : Nat) : ∀ {c : Cf}, QP c → QP (mrun T m c) := by
  induction m with
  | zero => exact fun h => h
  | succ m ih => exact fun h => ih (QP.st h)
end QPs
theorem Rc.se {T : Tk} {s' : St} (h : Rc T (Crun St0 [Istmt]) (Cdone s')) (l2 : (s'.2.1 2).length ≤ 24) (lw : s'.2.2.1.length ≤ 12) (l3 : (s'.2.1 3).length ≤ 20) : SEs s' := by
  obtain ⟨m, e⟩ := h
  have g : QP (mrun T m (Crun St0 [Istmt])) := QP.run m ⟨Or.inr (fun i hi => absurd hi (Nat.not_lt_zero _)), QK.c rfl (Or.inr trivial)⟩
  rw [e] at g
  rcases g with g | g
  · unfold BGq at g
    omega
  · exact g
/-! what is sure of a BOOK, from its reading on -/
def BKf (s : St) : Prop := (∀ v, WFB (s, v)) ∧ (∀ w, w < min 12 s.2.2.1.length → nL s (900 + 8 * w) < 24 ∧ nL s (902 + 8 * w) < 100) ∧ (∀ v c me i, cnP (isF (s, v) 1 c me) ((bW (s, v)).take i) ≤ 2) ∧ WHs s ∧ (T24 s ∧ SEs s) ∧ LNb s
theorem edJ_mem {f : Nat → Nat} {sv : Nat → Int} {m c d j : Nat} : ∀ {N : Nat}, j < N → d ∈ edC f sv m c j m → d ∈ edJ f sv m c N
  | 0, h, _ => absurd h (Nat.not_lt_zero _)
  | N + 1, h, hd => by
    show d ∈ edJ f sv m c N ++ edC f sv m c N m
    rw [List.mem_append]
    by_cases q : j = N
    · subst q
      exact Or.inr hd
    · exact Or.inl (edJ_mem (by omega) hd)
theorem BKr.of {s : St} {v : Nat → Int32} (f : BKf s) (ck : (CHK s.1 (svB (s, v)) (s.2.1 2).length).1 = 0) : ∃ g, BKr (s, v) g := by
  obtain ⟨f1, f2, f3, f4, f5, f6⟩ := f
  obtain ⟨g, hg⟩ := CHK_ok ck f6.2.2
  refine ⟨g, f1 v, fun w hw => (f2 w hw).2, fun c j hc ht hj => ?_, fun c hc ht => (hg c hc ht).1, fun c me i => f3 v c me i, f4, f5, f6⟩
  have ft := (hg c hc ht).2.1 j hj
  refine ⟨fun hk => ?_, fun d hd => ?_⟩
  · have hk : s.1 (301 + 32 * c + 4 * j) ≠ 2 := hk
    show (clF s.1 (svB (s, v)) (s.2.1 2).length c j).length = 1
    rcases Nat.lt_trichotomy (clF s.1 (svB (s, v)) (s.2.1 2).length c j).length 1 with q | q | q
    · have e := ft_1 (sv := svB (s, v)) (m := (s.2.1 2).length) hk (by omega)
      rw [e] at ft
      exact absurd ft (by decide)
    · exact q
    · have e := ft_2 (sv := svB (s, v)) (m := (s.2.1 2).length) hk q
      rw [e] at ft
      exact absurd ft (by decide)
  · have hd : d ∈ clF s.1 (svB (s, v)) (s.2.1 2).length c j := hd
    have hl := clF_lt hd
    refine ⟨hl, ?_, fun hk => ?_⟩
    · have z := (CLP_mem hl).mp hd
      unfold cdP at z
      rw [Bool.and_eq_true] at z
      have y := z.1
      unfold suP at y
      rw [Bool.and_eq_true] at y
      exact y.2
    · have hk : s.1 (301 + 32 * c + 4 * j) ≠ 1 := hk
      refine (hg c hc ht).2.2 d (edJ_mem hj ?_)
      have e : edC s.1 (svB (s, v)) (s.2.1 2).length c j (s.2.1 2).length = clF s.1 (svB (s, v)) (s.2.1 2).length c j := if_neg (fun q => by rcases q with q | q | q <;> omega)
      rw [e]
      exact hd
/-- at most two arounds of a METHOD -/
theorem rgf_le {α : Type} {L : List α} {P : Nat → Bool} {Q : α → Bool} (h : ∀ w (hw : w < L.length), P w = true → Q L[w] = true) : ∀ k, k ≤ L.length → ((List.range k).filter P).length ≤ ((L.take k).filter Q).length
  | 0, _ => Nat.zero_le _
  | k + 1, hk => by
    have ih := rgf_le h k (by omega)
    have hk2 : k < L.length := by omega
    rw [List.range_succ, List.filter_append, List.length_append, List.take_succ_eq_append_getElem hk2, List.filter_append, List.length_append]
    have z : (([k] : List Nat).filter P).length ≤ (([L[k]] : List α).filter Q).length := by
      by_cases q : P k = true
      · rw [List.filter_cons_of_pos q, List.filter_cons_of_pos (h k hk2 q)]
        exact Nat.le_refl _
      · rw [List.filter_cons_of_neg q]
        exact Nat.zero_le _
    omega
theorem ar_le {s : St} {v : Nat → Int32} {c me i : Nat} (ar : ARm s) (lk : ∀ w (h : w < s.2.2.1.length), s.2.2.1[w] = (nL s (901 + 8 * w), decide (nL s (903 + 8 * w) = 1))) (h100 : ∀ w, w < wN (s, v) → nL s (902 + 8 * w) < 100) : cnP (isF (s, v) 1 c me) ((bW (s, v)).take i) ≤ 2 := by
  have a1 : cnP (isF (s, v) 1 c me) ((bW (s, v)).take i) ≤ cnP (isF (s, v) 1 c me) (bW (s, v)) := ((List.take_sublist i (bW (s, v))).filter (isF (s, v) 1 c me)).length_le
  have a2 := cnP_bW (B := (s, v)) (P := isF (s, v) 1 c me) h100
  have a3 := rgf_le (L := s.2.2.1) (P := isF (s, v) 1 c me) (Q := fun x => x.1 == me && x.2) (fun w hw hp => by
    unfold isF at hp
    rw [Bool.and_eq_true, Bool.and_eq_true] at hp
    have p1 : nL s (903 + 8 * w) = 1 := eq_of_beq hp.1.1
    have p2 : nL s (901 + 8 * w) = me := eq_of_beq hp.1.2
    rw [lk w hw]
    show (nL s (901 + 8 * w) == me && decide (nL s (903 + 8 * w) = 1)) = true
    rw [p1, p2, beq_self_eq_true]
    rfl) (wN (s, v)) (by unfold wN; show min 12 s.2.2.1.length ≤ s.2.2.1.length; omega)
  have a4 : ((s.2.2.1.take (wN (s, v))).filter (fun x => x.1 == me && x.2)).length ≤ (s.2.2.1.filter (fun x => x.1 == me && x.2)).length := ((List.take_sublist _ _).filter _).length_le
  have a5 := ar me
  unfold arounds at a5
  omega
/-- by the reference's cells -/
theorem WM_lk {V : Vf} {q : Nat} {s : St} (wm : WMm V q s) (wr : WRm V q s) : ∀ w (h : w < s.2.2.1.length), s.2.2.1[w] = (nL s (901 + 8 * w), decide (nL s (903 + 8 * w) = 1)) := fun w h => by
  have z := wm.2 w h
  have y := wr.2 w h
  have e1 := z.2.1
  have e3 := z.2.2.2.1
  rw [y.2, show (V 41 (12 * q + w)).toInt.toNat = nL s (901 + 8 * w) from by omega, show decide ((V 43 (12 * q + w)).toInt = 1) = decide (nL s (903 + 8 * w) = 1) from decide_eq_decide.mpr (by omega)]
theorem BKf.of {V : Vf} {q : Nat} {s : St} (hM : rgd bM V) (tb : TBL V q (10000 * q + cl s)) (ce : CEm V q s) (wr : WRm V q s) (ar : ARm s) (n19 : (V 19 q).toInt = (((s.2.1 2).length : Nat) : Int)) (wh : WHs s) (t24 : T24 s) (se : SEs s) (ln : LNb s) (co : ∀ c, c < (s.2.1 2).length → (V 27 (24 * q + c)).toInt = ((s.1 (66 + 8 * c) : Nat) : Int)) : BKf s := by
  have h2 : ∀ w, w < min 12 s.2.2.1.length → nL s (900 + 8 * w) < 24 ∧ nL s (902 + 8 * w) < 100 := fun w hw => by
    have z := ce.2.2.2 w (by omega)
    have b1 : (-1) ≤ (V 40 (12 * q + w)).toInt ∧ (V 40 (12 * q + w)).toInt ≤ 23 := hM 40 _
    have b2 : 0 ≤ (V 42 (12 * q + w)).toInt ∧ (V 42 (12 * q + w)).toInt ≤ 99 := hM 42 _
    have e1 := z.1
    have e2 := z.2.2.1
    omega
  refine ⟨fun v => WFB.of (B := (s, v)) tb ce.1 ce.2.1 ce.2.2 n19 wr.1.symm co, h2, fun v c me i => ar_le ar (WM_lk ce.2.2 wr) (fun w hw => (h2 w hw).2), wh, ⟨t24, se⟩, ln⟩
/-- the class's cells of a BOOK that was read -/
theorem BKc.of {V : Vf} {b : Nat} {s : St} (ce : CEo V b s) (co : COc V b s) (tc : (V 43 (5 * b + 2)).toInt = (((s.2.1 2).length : Nat) : Int)) (wr : WRc V b s) (wo : WO V b) (f : BKf s) : BKc V b (s, fun i => V 46 (12 * b + i)) := by
  have n12 : s.2.2.1.length ≤ 12 := ce.2.2.1.1
  have en : wN (s, fun i => V 46 (12 * b + i)) = s.2.2.1.length := by
    unfold wN
    show min 12 s.2.2.1.length = s.2.2.1.length
    omega
  have h100 : ∀ w, w < s.2.2.1.length → nL s (902 + 8 * w) < 100 := fun w hw => (f.2.1 w (by omega)).2
  refine ⟨ce.1, ce.2.1, ⟨ce.2.2.1, wr.1.symm, fun i hi => ?_⟩, ⟨tc, f.2.2.2.2.2.2.2, co⟩, fun i _ => rfl, fun w hw => f.2.1 w hw, ⟨f.2.2.2.1, f.2.2.2.2.1.2⟩, f.2.2.2.2.2.2.1⟩
  have hl : i < s.2.2.1.length := by
    rw [bW_len (B := (s, fun i => V 46 (12 * b + i))) (fun w hw => h100 w (by rw [en] at hw; exact hw)), en] at hi
    exact hi
  rw [wo s.2.2.1.length wr.1.symm i hl]
  have e1 : srI (fun w => (V 64 (12 * b + w)).toInt) s.2.2.1.length = srI (fun w => ((nL s (902 + 8 * w) : Nat) : Int)) s.2.2.1.length := srI_ext _ (fun w hw => (ce.2.2.1.2 w hw).2.2.1)
  rw [e1, srI_bW (f := fun w => nL s (902 + 8 * w)) s.2.2.1.length h100]
  have e2 : bW (s, fun i => V 46 (12 * b + i)) = (List.range 100).flatMap (fun n => (List.range s.2.2.1.length).filter (fun w => nL s (902 + 8 * w) == n)) := by
    unfold bW
    rw [en]
  rw [e2]
/-! a new BOOK: nothing is made -/
def RST (V W : Vf) : Prop := ((W 3 12).toInt = 1 ∧ (W 3 13).toInt = 0 ∧ (W 3 14).toInt = 0) ∧ ((W 4 6).toInt = 0 ∧ (W 4 7).toInt = 0 ∧ (W 4 8).toInt = 0) ∧ ((W 5 13).toInt = 0 ∧ W 5 14 = V 5 14) ∧ (W 23 0).toInt = 1 ∧ (∀ s : Nat, s < 40 → W 24 s = 0) ∧ (∀ q : Nat, q < 960 → (W 25 q).toInt = -1) ∧ ∀ s : Nat, W 21 s = V 21 s ∧ W 22 s = V 22 s
def RSm (V W : Vf) : Prop := (W 0 68 = V 0 68 ∧ (W 0 69).toInt = 0 ∧ (W 0 60).toInt = 0 ∧ (W 0 65).toInt = 0 ∧ (W 0 73).toInt = 0) ∧ ((W 56 0).toInt = 1 ∧ (W 57 0).toInt = 0 ∧ ∀ s : Nat, s ≠ 0 → W 57 s = V 57 s) ∧ (∀ q : Nat, q < 960 → (W 59 q).toInt = 0) ∧ (W 0 55).toInt = 1
theorem RWn.new0 {V W Vm Wm : Vf} {ow : Nat → Nat} {B B2 : Bk} (h : RWn V ow B (mV Vm 0 0 0)) (c : RST V W) (r : RSm Vm Wm) (z57 : (Vm 57 0).toInt = 0) (n24 : nC B2 ≤ 24) : RWn W ow B2 (mV Wm 0 0 0) := by
  obtain ⟨⟨c1, c2, c3⟩, ⟨c4, _, _⟩, ⟨c6, c7⟩, c8, c9, c10, c11⟩ := c
  obtain ⟨⟨r1, r2, r3, r4, r5⟩, ⟨r6, r7, r8⟩, r9, r10⟩ := r
  obtain ⟨⟨⟨a0, _, _, _⟩, _, _⟩, _, _, ⟨_, hs2, _⟩, _⟩ := h
  have m02 : mV Wm 0 0 0 0 2 = 0 := r3
  refine ⟨⟨⟨?_, ?_, ?_, ?_⟩, ⟨?_, ?_⟩, fun i _ hi => ?_⟩, fun o ho => ?_, fun o k ho _ => ?_, ⟨⟨⟨by omega, by omega⟩, fun s _ hs => c9 s hs⟩, fun s hs => ?_, fun s hs => ?_⟩, fun pl c hpl hc _ => ?_, fun o p _ hp => ?_⟩
  · rw [c7]
    exact a0.trans (congrArg Int32.toInt r1).symm
  · exact c6.trans r2.symm
  · exact c2.trans r3.symm
  · exact c3.trans r4.symm
  · show (W 4 6).toInt = min 300 (Wm 0 73).toInt
    omega
  · show 0 ≤ (Wm 0 73).toInt
    omega
  · have hi : (i : Int) < (Wm 0 73).toInt := hi
    omega
  · rw [m02] at ho
    omega
  · rw [m02] at ho
    omega
  · rw [(c11 s).1, hs2 s hs]
    show (Vm 57 s).toInt = (Wm 57 s).toInt
    by_cases q : s = 0
    · rw [q, r7, z57]
    · rw [r8 s q]
  · have s0 : s = 0 := by omega
    subst s0
    refine ⟨c8.trans r6.symm, fun q => ?_, fun c hc => ?_⟩
    · have q : (Wm 57 0).toInt = 2 := q
      omega
    · rw [c9 0 (by decide), b_0]
      have z : (Wm 59 (24 * 0 + c)).toInt = 0 := r9 _ (by omega)
      exact ⟨fun h => absurd h (by decide), fun h => absurd z h⟩
  · rw [c10 _ (by omega), m02]
    rfl
  · rw [m02] at hp
    omega
theorem SCm.new {Vm Wm : Vf} (r : RSm Vm Wm) : SCm (mV Wm 0 0 0) (Wm 0 55).toInt.toNat := ⟨r.2.1.2.1, r.2.1.1, fun j h1 h2 => by
  have e := r.2.2.2
  omega⟩
theorem dzC.new {V W : Vf} (c : RST V W) : dzC W := fun s h1 h2 => by
  have e := c.1.1
  omega


abbrev r_x_sclear9 : Room := { frames := 1, cells := 0, slots := 0, locals := 23 }
abbrev q_x_sclear9 (D : va_G) (ks : KS) (ad : Nat → Nat) (kk : Nat → ClassId) (V : Vf) (L : Lf) (Z : XZ) (A : Nat → Prop) : Array Value → State → Outcome → State → Prop := va_Qv (fun (u : Vf × Lf) => rgd bX u.1 ∧ agr [(3, 12), (3, 13), (3, 14), (3, 15)] [23, 24, 25] V u.1 ∧ u.2 = L ∧ ((u.1 3 13).toInt = 0) ∧ ((u.1 3 15).toInt = 0) ∧ (∀ q : Nat, q < 960 → (u.1 25 q).toInt = -1) ∧ ((u.1 3 12).toInt = 1) ∧ ((u.1 3 14).toInt = 0) ∧ (∀ s9 : Nat, s9 < 40 → u.1 24 s9 = 0) ∧ ((u.1 23 0).toInt = 1)) (fun u t => gq D A (xw ad kk u.1 u.2 Z) (xty kk Z) t) A
set_option maxHeartbeats 4000000 in
set_option maxRecDepth 100000 in
theorem x_sclear9 (l : Launch) (D : va_G) (ks : KS) (sz : Nat) (ad : Nat → Nat) (kk : Nat → ClassId) (V : Vf) (L : Lf) (Z : XZ)  (hMV : rgd bX V)  : Met l yX8_clear (Cond.code yX8_clear cX8_clear 2 none :: GW) r_x_sclear9 (va_Pc [.ref (ad 3)] (gp D ks (xw ad kk V L Z) (xty kk Z) sz)) (q_x_sclear9 D ks ad kk V L Z  (va_A (xw ad kk V L Z) sz)) 0 0 (va_A (xw ad kk V L Z) sz) := by
  refine g_met (q_x_sclear9 D ks ad kk V L Z) (by decide) (Nat.le_of_ble_eq_true rfl) ?_
  intro p e s m below meth c A ls H locs hx hb hr hml hown hg hlocks hin hnw hgk hP hK hD hS hA hl
  have hown : s.vm.findClass RX8 = some m.cls := hown
  have hl : lv_has ls 2 [(0, .ref (ad 3))] := hl
  have hP : va_P D vwCl (xw ad kk V L Z) H := hP
  have hD : va_D A (xw ad kk V L Z) := hD
  have hK : va_K D vwCl (xty kk Z) s := hK
  have agV : agr [(3, 12), (3, 13), (3, 14), (3, 15)] [23, 24, 25] V V := agr.rf
  refine lv_aload_n hx hb dX8_clear_0 rfl (lv_at hl 0 rfl) ?_
  refine va_get (D := D) (ci := 8) (v := .ref (ad 22)) (fs := (xfStock ad V L Z)) (C := RX8) (T := TX8) (N := 16) hx hb hg inX8 hown hK hP 3 xgStock rfl 4 (by decide) (hg _ w378) (fun _ h9 => h9) rfl dX8_clear_1 ?_
  refine lv_iconst (v := (-1)) hx hb dX8_clear_4 (by decide) ?_
  have r1 : Int32.toInt (-1) = (-1) := by decide
  refine gA_void (gA_runS (As := [.ref (ad 22), .int (-1)]) (rest := []) hx hb hml hown hg hP hD hK hS hA hnw hgk (x_fillPresent l D ks H.size ad kk V L Z (-1) hMV (by decide)) w370 w371 w165 w372 hdS_yJ7_fill_53178 ⟨Nat.le_of_ble_eq_true rfl, Nat.le_of_ble_eq_true rfl⟩ rfl hl.1 rfl (Nat.le_of_ble_eq_true rfl) dX8_clear_5 ⟨Nat.le_of_ble_eq_true rfl, Nat.le_of_ble_eq_true rfl⟩) hP hD hK hS hA (fun u3 H locs w4 hP hD hK hS => ?_)
  obtain ⟨V7, L8⟩ := u3
  obtain ⟨hMV7, ajV7, axL8, t5, t6⟩ := w4
  have axL8 : L = L8 := Eq.symm axL8
  subst axL8
  have hP : va_P D vwCl (xw ad kk V7 L Z) H := hP
  have hD : va_D A (xw ad kk V7 L Z) := hD
  have hMV7 : rgd bX V7 := hMV7
  have ajV7 : agr [] [25] V V7 := ajV7
  have agV7 : agr [(3, 12), (3, 13), (3, 14), (3, 15)] [23, 24, 25] V V7 := agV.tr ajV7 (by decide) (by decide)
  have t5 : (∀ q : Nat, (q : Int) < 960 → V7 25 (q) = (-1)) := t5
  have t6 : (∀ q : Nat, ¬ (0 ≤ q ∧ q < 960) → V7 25 q = V 25 q) := t6
  refine lv_iconst (v := 0) hx hb dX8_clear_8 (by decide) ?_
  refine lv_istore_n (lv' := [(1, .int 0), (0, .ref (ad 3))]) hx hb dX8_clear_9 rfl hl (by decide) rfl (fun ls hl => ?_)
  have lp11 : ∀ (fulp11 : Nat) (y9 : Int32) (V10 : Vf) (H : Heap) (locs : List Loc) (ls : Array Slot), 0 ≤ y9.toInt ∧ y9.toInt ≤ 40 → (∀ s9 : Nat, (s9 : Int) < y9.toInt → V10 24 s9 = 0) → 40 - y9.toInt < (fulp11 : Int) → agr [] [23, 24] V7 V10 → rgd bX V10 → va_P D vwCl (xw ad kk V10 L Z) H → va_D A (xw ad kk V10 L Z) → va_S A s.heap H locs → lv_has ls 2 [(1, .int y9), (0, .ref (ad 3))] → W p l e r_x_sclear9 s m ([.ref (ad 3)] : List Value).toArray below meth c H locs 0 0 (MQ below (q_x_sclear9 D ks ad kk V L Z  A) ([.ref (ad 3)] : List Value).toArray s 0 0 A) (F0 m 10 ls []) := by
    intro fulp11
    induction fulp11 with
    | zero =>
      intro y9 V10 H locs ls klp11_0 xlp11_0 hn ajV10 hMV10 hP hD hS hl
      exfalso; (first | exact om_b4ce6ae7be49 klp11_0.2 hn | omega)
    | succ fulp11 ihlp11 =>
      intro y9 V10 H locs ls klp11_0 xlp11_0 hn ajV10 hMV10 hP hD hS hl
      have agV10 : agr [(3, 12), (3, 13), (3, 14), (3, 15)] [23, 24, 25] V V10 := agV7.tr ajV10 (by decide) (by decide)
      refine lv_iload_n hx hb dX8_clear_10 rfl (lv_at hl 0 rfl) ?_
      refine lv_bipush (v := 40) hx hb dX8_clear_11 (by decide) ?_
      refine lv_icmp_ge (tgt := 27) hx hb dX8_clear_13 (by decide) (fun c12 => ?_) (fun c12 => ?_)
      · skip
        have f13 : 40 ≤ y9.toInt := b_le (by decide) rfl c12
        refine lv_aload_n hx hb dX8_clear_27 rfl (lv_at hl 1 rfl) ?_
        refine va_get (D := D) (ci := 8) (v := .ref (ad 20)) (fs := (xfStock ad V10 L Z)) (C := RX8) (T := TX8) (N := 16) hx hb hg inX8 hown hK hP 3 xgStock rfl 2 (by decide) (hg _ w376) (fun _ h9 => h9) rfl dX8_clear_28 ?_
        refine lv_iconst (v := 0) hx hb dX8_clear_31 (by decide) ?_
        refine lv_iconst (v := 1) hx hb dX8_clear_32 (by decide) ?_
        refine va_zast (D := D) (i := 0) (x := 1) hx hb hK hP hD hS 20 13 rfl rfl (i_in (a := 0) (by decide) (by decide)) dX8_clear_33 (fun H locs hP hD hS => ?_)
        obtain ⟨V14, hV14⟩ : ∃ z, z = up2 V10 23 (Int32.toNatClampNeg 0) (vp_nar .boolean 1) := ⟨_, rfl⟩
        have ew15 : (xw ad kk V10 L Z).set 20 ((ad 20), .inl ((kk 20), 40, .inl (upd (V10 23) (Int32.toNatClampNeg 0) (vp_nar .boolean 1)))) = xw ad kk V14 L Z := by rw [hV14]; exact xw_ss (by decide) rfl (xb_si (by decide))
        have hP : va_P D vwCl (xw ad kk V14 L Z) H := by rw [← ew15]; exact hP
        have hD : va_D A (xw ad kk V14 L Z) := by rw [← ew15]; exact hD
        have hMV14 : rgd bX V14 := hMV10.put hV14 (nar_b _)
        have agV14 : agr [(3, 12), (3, 13), (3, 14), (3, 15)] [23, 24, 25] V V14 := agV10.up hV14 rfl
        refine lv_aload_n hx hb dX8_clear_34 rfl (lv_at hl 1 rfl) ?_
        refine lv_iconst (v := 1) hx hb dX8_clear_35 (by decide) ?_
        refine va_put (D := D) (ci := 8) (v := .int 1) (ty := tyX8 12) (fs := (xfStock ad V14 L Z)) (C := RX8) (T := TX8) (N := 16) hx hb hg inX8 tyX8 tyX8_ok nmX8 hown hK hP hD hS 3 xgStock rfl 12 (by decide) (hg _ w390) (fun _ h9 => h9) rfl (tyX8_ok 12 (by decide)) rfl rfl (Nat.le_of_ble_eq_true rfl) dX8_clear_36 (fun H locs hP hD hS => ?_)
        obtain ⟨V16, hV16⟩ : ∃ z, z = up2 V14 3 12 1 := ⟨_, rfl⟩
        have ew17 : (xw ad kk V14 L Z).set 3 ((ad 3), .inr (8, (xfStock ad V14 L Z).set 12 (.int 1))) = xw ad kk V16 L Z := by rw [hV16]; exact xw_ss (by decide) rfl (xb_si (by decide))
        have hP : va_P D vwCl (xw ad kk V16 L Z) H := by rw [← ew17]; exact hP
        have hD : va_D A (xw ad kk V16 L Z) := by rw [← ew17]; exact hD
        have hMV16 : rgd bX V16 := hMV14.put hV16 (by decide)
        have agV16 : agr [(3, 12), (3, 13), (3, 14), (3, 15)] [23, 24, 25] V V16 := agV14.up hV16 rfl
        refine lv_aload_n hx hb dX8_clear_39 rfl (lv_at hl 1 rfl) ?_
        refine lv_iconst (v := 0) hx hb dX8_clear_40 (by decide) ?_
        refine va_put (D := D) (ci := 8) (v := .int 0) (ty := tyX8 13) (fs := (xfStock ad V16 L Z)) (C := RX8) (T := TX8) (N := 16) hx hb hg inX8 tyX8 tyX8_ok nmX8 hown hK hP hD hS 3 xgStock rfl 13 (by decide) (hg _ w391) (fun _ h9 => h9) rfl (tyX8_ok 13 (by decide)) rfl rfl (Nat.le_of_ble_eq_true rfl) dX8_clear_41 (fun H locs hP hD hS => ?_)
        obtain ⟨V18, hV18⟩ : ∃ z, z = up2 V16 3 13 0 := ⟨_, rfl⟩
        have ew19 : (xw ad kk V16 L Z).set 3 ((ad 3), .inr (8, (xfStock ad V16 L Z).set 13 (.int 0))) = xw ad kk V18 L Z := by rw [hV18]; exact xw_ss (by decide) rfl (xb_si (by decide))
        have hP : va_P D vwCl (xw ad kk V18 L Z) H := by rw [← ew19]; exact hP
        have hD : va_D A (xw ad kk V18 L Z) := by rw [← ew19]; exact hD
        have hMV18 : rgd bX V18 := hMV16.put hV18 (by decide)
        have agV18 : agr [(3, 12), (3, 13), (3, 14), (3, 15)] [23, 24, 25] V V18 := agV16.up hV18 rfl
        refine lv_aload_n hx hb dX8_clear_44 rfl (lv_at hl 1 rfl) ?_
        refine lv_iconst (v := 0) hx hb dX8_clear_45 (by decide) ?_
        refine va_put (D := D) (ci := 8) (v := .int 0) (ty := tyX8 14) (fs := (xfStock ad V18 L Z)) (C := RX8) (T := TX8) (N := 16) hx hb hg inX8 tyX8 tyX8_ok nmX8 hown hK hP hD hS 3 xgStock rfl 14 (by decide) (hg _ w393) (fun _ h9 => h9) rfl (tyX8_ok 14 (by decide)) rfl rfl (Nat.le_of_ble_eq_true rfl) dX8_clear_46 (fun H locs hP hD hS => ?_)
        obtain ⟨V20, hV20⟩ : ∃ z, z = up2 V18 3 14 0 := ⟨_, rfl⟩
        have ew21 : (xw ad kk V18 L Z).set 3 ((ad 3), .inr (8, (xfStock ad V18 L Z).set 14 (.int 0))) = xw ad kk V20 L Z := by rw [hV20]; exact xw_ss (by decide) rfl (xb_si (by decide))
        have hP : va_P D vwCl (xw ad kk V20 L Z) H := by rw [← ew21]; exact hP
        have hD : va_D A (xw ad kk V20 L Z) := by rw [← ew21]; exact hD
        have hMV20 : rgd bX V20 := hMV18.put hV20 (i_full _)
        have agV20 : agr [(3, 12), (3, 13), (3, 14), (3, 15)] [23, 24, 25] V V20 := agV18.up hV20 rfl
        refine lv_aload_n hx hb dX8_clear_49 rfl (lv_at hl 1 rfl) ?_
        refine lv_iconst (v := 0) hx hb dX8_clear_50 (by decide) ?_
        refine va_put (D := D) (ci := 8) (v := .int 0) (ty := tyX8 15) (fs := (xfStock ad V20 L Z)) (C := RX8) (T := TX8) (N := 16) hx hb hg inX8 tyX8 tyX8_ok nmX8 hown hK hP hD hS 3 xgStock rfl 15 (by decide) (hg _ w394) (fun _ h9 => h9) rfl (tyX8_ok 15 (by decide)) rfl rfl (Nat.le_of_ble_eq_true rfl) dX8_clear_51 (fun H locs hP hD hS => ?_)
        obtain ⟨V22, hV22⟩ : ∃ z, z = up2 V20 3 15 0 := ⟨_, rfl⟩
        have ew23 : (xw ad kk V20 L Z).set 3 ((ad 3), .inr (8, (xfStock ad V20 L Z).set 15 (.int 0))) = xw ad kk V22 L Z := by rw [hV22]; exact xw_ss (by decide) rfl (xb_si (by decide))
        have hP : va_P D vwCl (xw ad kk V22 L Z) H := by rw [← ew23]; exact hP
        have hD : va_D A (xw ad kk V22 L Z) := by rw [← ew23]; exact hD
        have hMV22 : rgd bX V22 := hMV20.put hV22 (by decide)
        have agV22 : agr [(3, 12), (3, 13), (3, 14), (3, 15)] [23, 24, 25] V V22 := agV20.up hV22 rfl
        have pq24 : (V22 3 13).toInt = 0 := (congrArg Int32.toInt ((up2_k hV22 (by decide)).trans ((up2_k hV20 (by decide)).trans (up2_s hV18)))).trans (by decide)
        have pq25 : (V22 3 15).toInt = 0 := (congrArg Int32.toInt (up2_s hV22)).trans (by decide)
        have pq26 : (V22 3 12).toInt = 1 := (congrArg Int32.toInt ((up2_k hV22 (by decide)).trans ((up2_k hV20 (by decide)).trans ((up2_k hV18 (by decide)).trans (up2_s hV16))))).trans (by decide)
        have pq27 : (V22 3 14).toInt = 0 := (congrArg Int32.toInt ((up2_k hV22 (by decide)).trans (up2_s hV20))).trans (by decide)
        have rp28 : ∀ q : Nat, q < 960 → (V22 25 q).toInt = -1 := fun q hq => by rw [(show agr [(3, 12), (3, 13), (3, 14), (3, 15)] [23, 24] V7 V22 from (agr.up (agr.up (agr.up (agr.up (agr.up (agr.tr agr.rf ajV10 (by decide) (by decide)) hV14 rfl) hV16 rfl) hV18 rfl) hV20 rfl) hV22 rfl)) 25 _ rfl, t5 q (by omega)]; decide
        exact W.vret hx hb hr (fun t ht hW => ⟨⟨(V22, L), rfl, ⟨hMV22, agV22, rfl, (show (V22 3 13).toInt = 0 from by (first | exact om_b66ba74381d5 pq24 | omega)), (show (V22 3 15).toInt = 0 from by (first | exact om_b66ba74381d5 pq25 | omega)), rp28, (show (V22 3 12).toInt = 1 from by (first | exact om_710535a98d88 pq26 | omega)), (show (V22 3 14).toInt = 0 from by (first | exact om_b66ba74381d5 pq27 | omega)), (fun s9 h9 => ((show agr [(3, 12), (3, 13), (3, 14), (3, 15)] [23] V10 V22 from (agr.up (agr.up (agr.up (agr.up (agr.up agr.rf hV14 rfl) hV16 rfl) hV18 rfl) hV20 rfl) hV22 rfl)) 24 s9 rfl).trans (xlp11_0 s9 (by omega))), (by show (V22 23 0).toInt = 1; rw [show (0 : Nat) = Int32.toNatClampNeg 0 from by decide, ((up2_o hV22 (by decide)).trans ((up2_o hV20 (by decide)).trans ((up2_o hV18 (by decide)).trans ((up2_o hV16 (by decide)).trans (up2_s hV14)))))]; decide)⟩, by rw [ht]; exact hP, va_K.moved hW.alike hK, hD⟩, hS.F ht⟩) hS.2.2 dX8_clear_54
      · skip
        have f29 : y9.toInt < 40 := b_nle (by decide) rfl c12
        refine lv_aload_n hx hb dX8_clear_16 rfl (lv_at hl 1 rfl) ?_
        refine lv_iload_n hx hb dX8_clear_17 rfl (lv_at hl 0 rfl) ?_
        refine gA_void (gA_runV (As := [.int y9]) (rest := []) (ci := 8) (q0 := 3) hx hb hml hown hg hP hD hK hS hA hnw hgk (x_shut9 l D ks H.size ad kk V10 L Z y9 hMV10 (by (first | exact om_e2b7608b251c klp11_0.1 f29 | omega))) w1027 w1028 w1029 w164 w1030 rfl xgStock hdV_yX8_shut ⟨Nat.le_of_ble_eq_true rfl, Nat.le_of_ble_eq_true rfl⟩ rfl hl.1 rfl (Nat.le_of_ble_eq_true rfl) dX8_clear_18 ⟨Nat.le_of_ble_eq_true rfl, Nat.le_of_ble_eq_true rfl⟩) hP hD hK hS hA (fun u31 H locs w32 hP hD hK hS => ?_)
        obtain ⟨V34, L35⟩ := u31
        obtain ⟨hMV34, ajV34, axL35, t33⟩ := w32
        have axL35 : L = L35 := Eq.symm axL35
        subst axL35
        have hP : va_P D vwCl (xw ad kk V34 L Z) H := hP
        have hD : va_D A (xw ad kk V34 L Z) := hD
        have hMV34 : rgd bX V34 := hMV34
        have ajV34 : agr [] [23, 24] V10 V34 := ajV34
        have agV34 : agr [(3, 12), (3, 13), (3, 14), (3, 15)] [23, 24, 25] V V34 := agV10.tr ajV34 (by decide) (by decide)
        have t33 : ((True) ∧ V34 = (up2 (up2 V10 23 (Int32.toNatClampNeg y9) 0) 24 (Int32.toNatClampNeg y9) 0)) := t33
        have hw36 := t33.2
        obtain ⟨V37, hV37⟩ : ∃ z, z = up2 V10 23 (Int32.toNatClampNeg y9) 0 := ⟨_, rfl⟩
        have hV34 : V34 = up2 V37 24 (Int32.toNatClampNeg y9) 0 := by rw [hw36, hV37]
        obtain ⟨z38, ez38⟩ : ∃ y : Int32, y = y9 + 1 := ⟨_, rfl⟩
        have hz38 : z38.toInt = y9.toInt + 1 := i_add ez38 rfl (by decide) (by (first | exact om_f6338ed50341 klp11_0.1 f29 | omega))
        refine lv_iinc (v := z38) (lv' := [(1, .int z38), (0, .ref (ad 3))]) hx hb dX8_clear_21 hl (k := 0) rfl (by rw [ez38]; rfl) (by decide) rfl (fun ls hl => ?_)
        refine lv_goto (tgt := 10) hx hb dX8_clear_24 (by decide) ?_
        have ky9 := i_clamp (x := y9) rfl (by (first | exact om_eafa9039069c klp11_0.1 | omega))
        have sp39 : ∀ s9 : Nat, (s9 : Int) < z38.toInt → V34 24 s9 = 0 := fun s9 h9 => by
          by_cases q9 : s9 = (Int32.toNatClampNeg y9)
          · rw [q9]; exact up2_s hV34
          · exact (up2_k hV34 q9).trans ((up2_o hV37 (by decide)).trans (xlp11_0 s9 (by omega)))
        exact ihlp11 z38 V34 H locs ls (by (first | exact om_2a30a9e45e25 klp11_0.1 f29 hz38 | omega)) sp39 (by (first | exact om_3c70b874863d hn hz38 | omega)) (agr.up (agr.up (agr.tr agr.rf ajV10 (by decide) (by decide)) hV37 rfl) hV34 rfl) hMV34 hP hD hS (lv_sub hl [0, 1] rfl)
  have r40 : Int32.toInt 0 = 0 := by decide
  exact lp11 ((40 - (Int32.toInt 0) + 1 : Int).toNat) 0 V7 H locs ls (by decide) (fun s9 h9 => by have h8 : Int32.toInt 0 = 0 := (by decide); exfalso; omega) (by (first | exact om_4b52247ddc06 | omega)) agr.rf hMV7 hP hD hS (lv_sub hl [0, 1] rfl)
abbrev r_x_Nclear9 : Room := { frames := 0, cells := 0, slots := 0, locals := 0 }
abbrev q_x_Nclear9 (D : va_G) (ks : KS) (ad : Nat → Nat) (kk : Nat → ClassId) (V : Vf) (L : Lf) (Z : XZ) (A : Nat → Prop) : Array Value → State → Outcome → State → Prop := va_Qv (fun (u : Vf × Lf) => rgd bX u.1 ∧ agr [(4, 5), (4, 6), (4, 7), (4, 8)] [] V u.1 ∧ u.2 = L ∧ ((u.1 4 6).toInt = 0) ∧ ((u.1 4 7).toInt = 0) ∧ ((u.1 4 8).toInt = 0)) (fun u t => gq D A (xw ad kk u.1 u.2 Z) (xty kk Z) t) A
set_option maxHeartbeats 4000000 in
set_option maxRecDepth 100000 in
theorem x_Nclear9 (l : Launch) (D : va_G) (ks : KS) (sz : Nat) (ad : Nat → Nat) (kk : Nat → ClassId) (V : Vf) (L : Lf) (Z : XZ)  (hMV : rgd bX V)  : Met l yX7_clear (Cond.code yX7_clear cX7_clear 1 none :: GW) r_x_Nclear9 (va_Pc [.ref (ad 4)] (gp D ks (xw ad kk V L Z) (xty kk Z) sz)) (q_x_Nclear9 D ks ad kk V L Z  (va_A (xw ad kk V L Z) sz)) 0 0 (va_A (xw ad kk V L Z) sz) := by
  refine g_met (q_x_Nclear9 D ks ad kk V L Z) (by decide) (Nat.le_of_ble_eq_true rfl) ?_
  intro p e s m below meth c A ls H locs hx hb hr hml hown hg hlocks hin hnw hgk hP hK hD hS hA hl
  have hown : s.vm.findClass RX7 = some m.cls := hown
  have hl : lv_has ls 1 [(0, .ref (ad 4))] := hl
  have hP : va_P D vwCl (xw ad kk V L Z) H := hP
  have hD : va_D A (xw ad kk V L Z) := hD
  have hK : va_K D vwCl (xty kk Z) s := hK
  have agV : agr [(4, 5), (4, 6), (4, 7), (4, 8)] [] V V := agr.rf
  refine lv_aload_n hx hb dX7_clear_0 rfl (lv_at hl 0 rfl) ?_
  refine lv_iconst (v := 0) hx hb dX7_clear_1 (by decide) ?_
  refine va_put (D := D) (ci := 7) (v := .int 0) (ty := tyX7 5) (fs := (xfNotes ad V L Z)) (C := RX7) (T := TX7) (N := 10) hx hb hg inX7 tyX7 tyX7_ok nmX7 hown hK hP hD hS 4 xgNotes rfl 5 (by decide) (hg _ w440) (fun _ h9 => h9) rfl (tyX7_ok 5 (by decide)) rfl rfl (Nat.le_of_ble_eq_true rfl) dX7_clear_2 (fun H locs hP hD hS => ?_)
  obtain ⟨V1, hV1⟩ : ∃ z, z = up2 V 4 5 0 := ⟨_, rfl⟩
  have ew2 : (xw ad kk V L Z).set 4 ((ad 4), .inr (7, (xfNotes ad V L Z).set 5 (.int 0))) = xw ad kk V1 L Z := by rw [hV1]; exact xw_ss (by decide) rfl (xb_si (by decide))
  have hP : va_P D vwCl (xw ad kk V1 L Z) H := by rw [← ew2]; exact hP
  have hD : va_D A (xw ad kk V1 L Z) := by rw [← ew2]; exact hD
  have hMV1 : rgd bX V1 := hMV.put hV1 (by decide)
  have agV1 : agr [(4, 5), (4, 6), (4, 7), (4, 8)] [] V V1 := agV.up hV1 rfl
  refine lv_aload_n hx hb dX7_clear_5 rfl (lv_at hl 0 rfl) ?_
  refine lv_iconst (v := 0) hx hb dX7_clear_6 (by decide) ?_
  refine va_put (D := D) (ci := 7) (v := .int 0) (ty := tyX7 6) (fs := (xfNotes ad V1 L Z)) (C := RX7) (T := TX7) (N := 10) hx hb hg inX7 tyX7 tyX7_ok nmX7 hown hK hP hD hS 4 xgNotes rfl 6 (by decide) (hg _ w441) (fun _ h9 => h9) rfl (tyX7_ok 6 (by decide)) rfl rfl (Nat.le_of_ble_eq_true rfl) dX7_clear_7 (fun H locs hP hD hS => ?_)
  obtain ⟨V3, hV3⟩ : ∃ z, z = up2 V1 4 6 0 := ⟨_, rfl⟩
  have ew4 : (xw ad kk V1 L Z).set 4 ((ad 4), .inr (7, (xfNotes ad V1 L Z).set 6 (.int 0))) = xw ad kk V3 L Z := by rw [hV3]; exact xw_ss (by decide) rfl (xb_si (by decide))
  have hP : va_P D vwCl (xw ad kk V3 L Z) H := by rw [← ew4]; exact hP
  have hD : va_D A (xw ad kk V3 L Z) := by rw [← ew4]; exact hD
  have hMV3 : rgd bX V3 := hMV1.put hV3 (by decide)
  have agV3 : agr [(4, 5), (4, 6), (4, 7), (4, 8)] [] V V3 := agV1.up hV3 rfl
  refine lv_aload_n hx hb dX7_clear_10 rfl (lv_at hl 0 rfl) ?_
  refine lv_iconst (v := 0) hx hb dX7_clear_11 (by decide) ?_
  refine va_put (D := D) (ci := 7) (v := .int 0) (ty := tyX7 7) (fs := (xfNotes ad V3 L Z)) (C := RX7) (T := TX7) (N := 10) hx hb hg inX7 tyX7 tyX7_ok nmX7 hown hK hP hD hS 4 xgNotes rfl 7 (by decide) (hg _ w442) (fun _ h9 => h9) rfl (tyX7_ok 7 (by decide)) rfl rfl (Nat.le_of_ble_eq_true rfl) dX7_clear_12 (fun H locs hP hD hS => ?_)
  obtain ⟨V5, hV5⟩ : ∃ z, z = up2 V3 4 7 0 := ⟨_, rfl⟩
  have ew6 : (xw ad kk V3 L Z).set 4 ((ad 4), .inr (7, (xfNotes ad V3 L Z).set 7 (.int 0))) = xw ad kk V5 L Z := by rw [hV5]; exact xw_ss (by decide) rfl (xb_si (by decide))
  have hP : va_P D vwCl (xw ad kk V5 L Z) H := by rw [← ew6]; exact hP
  have hD : va_D A (xw ad kk V5 L Z) := by rw [← ew6]; exact hD
  have hMV5 : rgd bX V5 := hMV3.put hV5 (i_full _)
  have agV5 : agr [(4, 5), (4, 6), (4, 7), (4, 8)] [] V V5 := agV3.up hV5 rfl
  refine lv_aload_n hx hb dX7_clear_15 rfl (lv_at hl 0 rfl) ?_
  refine lv_iconst (v := 0) hx hb dX7_clear_16 (by decide) ?_
  refine va_put (D := D) (ci := 7) (v := .int 0) (ty := tyX7 8) (fs := (xfNotes ad V5 L Z)) (C := RX7) (T := TX7) (N := 10) hx hb hg inX7 tyX7 tyX7_ok nmX7 hown hK hP hD hS 4 xgNotes rfl 8 (by decide) (hg _ w443) (fun _ h9 => h9) rfl (tyX7_ok 8 (by decide)) rfl rfl (Nat.le_of_ble_eq_true rfl) dX7_clear_17 (fun H locs hP hD hS => ?_)
  obtain ⟨V7, hV7⟩ : ∃ z, z = up2 V5 4 8 0 := ⟨_, rfl⟩
  have ew8 : (xw ad kk V5 L Z).set 4 ((ad 4), .inr (7, (xfNotes ad V5 L Z).set 8 (.int 0))) = xw ad kk V7 L Z := by rw [hV7]; exact xw_ss (by decide) rfl (xb_si (by decide))
  have hP : va_P D vwCl (xw ad kk V7 L Z) H := by rw [← ew8]; exact hP
  have hD : va_D A (xw ad kk V7 L Z) := by rw [← ew8]; exact hD
  have hMV7 : rgd bX V7 := hMV5.put hV7 (i_full _)
  have agV7 : agr [(4, 5), (4, 6), (4, 7), (4, 8)] [] V V7 := agV5.up hV7 rfl
  have pq9 : (V7 4 6).toInt = 0 := (congrArg Int32.toInt ((up2_k hV7 (by decide)).trans ((up2_k hV5 (by decide)).trans (up2_s hV3)))).trans (by decide)
  have pq10 : (V7 4 7).toInt = 0 := (congrArg Int32.toInt ((up2_k hV7 (by decide)).trans (up2_s hV5))).trans (by decide)
  have pq11 : (V7 4 8).toInt = 0 := (congrArg Int32.toInt (up2_s hV7)).trans (by decide)
  exact W.vret hx hb hr (fun t ht hW => ⟨⟨(V7, L), rfl, ⟨hMV7, agV7, rfl, (show (V7 4 6).toInt = 0 from by (first | exact om_b66ba74381d5 pq9 | omega)), (show (V7 4 7).toInt = 0 from by (first | exact om_b66ba74381d5 pq10 | omega)), (show (V7 4 8).toInt = 0 from by (first | exact om_b66ba74381d5 pq11 | omega))⟩, by rw [ht]; exact hP, va_K.moved hW.alike hK, hD⟩, hS.F ht⟩) hS.2.2 dX7_clear_20
abbrev r_x_takeBook9 : Room := { frames := 1, cells := 0, slots := 0, locals := 20 }
abbrev q_x_takeBook9 (D : va_G) (ks : KS) (ad : Nat → Nat) (kk : Nat → ClassId) (V : Vf) (L : Lf) (Z : XZ) (b : Nat) (A : Nat → Prop) : Array Value → State → Outcome → State → Prop := va_Qv (fun (u : Vf × Lf) => rgd bX u.1 ∧ agr [(5, 5), (5, 6), (5, 7), (5, 8), (5, 9), (5, 13)] [] V u.1 ∧ u.2 = L ∧ ((u.1 5 5).toInt = (b : Int)) ∧ ((u.1 5 6).toInt = 0) ∧ ((u.1 5 13).toInt = 0)) (fun u t => gq D A (xw ad kk u.1 u.2 Z) (xty kk Z) t) A
set_option maxHeartbeats 4000000 in
set_option maxRecDepth 100000 in
theorem x_takeBook9 (l : Launch) (D : va_G) (ks : KS) (sz : Nat) (ad : Nat → Nat) (kk : Nat → ClassId) (V : Vf) (L : Lf) (Z : XZ) (b : Nat) (hMV : rgd bX V) (hb2 : b < 2)  : Met l yX5_takeBook (Cond.code yX5_takeBook cX5_takeBook 2 none :: GW) r_x_takeBook9 (va_Pc [.ref (ad 5), .ref (ad (38 + b))] (gp D ks (xw ad kk V L Z) (xty kk Z) sz)) (q_x_takeBook9 D ks ad kk V L Z  b (va_A (xw ad kk V L Z) sz)) 0 0 (va_A (xw ad kk V L Z) sz) := by
  refine g_met (q_x_takeBook9 D ks ad kk V L Z  b) (by decide) (Nat.le_of_ble_eq_true rfl) ?_
  intro p e s m below meth c A ls H locs hx hb hr hml hown hg hlocks hin hnw hgk hP hK hD hS hA hl
  have hown : s.vm.findClass RX5 = some m.cls := hown
  have hl : lv_has ls 2 [(0, .ref (ad 5)), (1, .ref (ad (38 + b)))] := hl
  have hP : va_P D vwCl (xw ad kk V L Z) H := hP
  have hD : va_D A (xw ad kk V L Z) := hD
  have hK : va_K D vwCl (xty kk Z) s := hK
  have agV : agr [(5, 5), (5, 6), (5, 7), (5, 8), (5, 9), (5, 13)] [] V V := agr.rf
  refine lv_aload_n hx hb dX5_takeBook_0 rfl (lv_at hl 0 rfl) ?_
  refine lv_aload_n hx hb dX5_takeBook_1 rfl (lv_at hl 1 rfl) ?_
  refine va_put (D := D) (ci := 5) (v := .ref (ad (38 + b))) (ty := tyX5 5) (fs := (xfMachine ad V L Z)) (C := RX5) (T := TX5) (N := 15) hx hb hg inX5 tyX5 tyX5_ok nmX5 hown hK hP hD hS 5 xgMachine rfl 5 (by decide) (hg _ w672) (fun _ h9 => h9) rfl (tyX5_ok 5 (by decide)) rfl rfl (Nat.le_of_ble_eq_true rfl) dX5_takeBook_2 (fun H locs hP hD hS => ?_)
  have il1 : b < 2 := by (first | exact om_f940a4667dd6 hb2 | omega)
  have r2 : (nI b).toInt = ((b : Nat) : Int) := nI_toInt (by omega)
  obtain ⟨V3, hV3⟩ : ∃ z, z = up2 V 5 5 (nI b) := ⟨_, rfl⟩
  have ew4 : (xw ad kk V L Z).set 5 ((ad 5), .inr (5, (xfMachine ad V L Z).set 5 (.ref (ad (38 + b))))) = xw ad kk V3 L Z := by rw [hV3]; exact xr_mbook il1
  have hP : va_P D vwCl (xw ad kk V3 L Z) H := by rw [← ew4]; exact hP
  have hD : va_D A (xw ad kk V3 L Z) := by rw [← ew4]; exact hD
  have hMV3 : rgd bX V3 := hMV.put hV3 (show 0 ≤ ((nI b)).toInt ∧ ((nI b)).toInt ≤ 1 from by (first | exact om_d98fff7a4861 hb2 r2 | omega))
  have agV3 : agr [(5, 5), (5, 6), (5, 7), (5, 8), (5, 9), (5, 13)] [] V V3 := agV.up hV3 rfl
  refine lv_aload_n hx hb dX5_takeBook_5 rfl (lv_at hl 0 rfl) ?_
  refine gA_void (gA_runV (As := []) (rest := []) (ci := 5) (q0 := 5) hx hb hml hown hg hP hD hK hS hA hnw hgk (x_restart l D ks H.size ad kk V3 L Z  hMV3 ) w1043 w1044 w1045 w171 w1046 rfl xgMachine hdV_yX5_restart ⟨Nat.le_of_ble_eq_true rfl, Nat.le_of_ble_eq_true rfl⟩ rfl hl.1 rfl (Nat.le_of_ble_eq_true rfl) dX5_takeBook_6 ⟨Nat.le_of_ble_eq_true rfl, Nat.le_of_ble_eq_true rfl⟩) hP hD hK hS hA (fun u6 H locs w7 hP hD hK hS => ?_)
  obtain ⟨V13, L14⟩ := u6
  obtain ⟨hMV13, ajV13, axL14, t8, t9, t10, t11, t12⟩ := w7
  have axL14 : L = L14 := Eq.symm axL14
  subst axL14
  have hP : va_P D vwCl (xw ad kk V13 L Z) H := hP
  have hD : va_D A (xw ad kk V13 L Z) := hD
  have hMV13 : rgd bX V13 := hMV13
  have ajV13 : agr [(5, 6), (5, 7), (5, 8), (5, 9), (5, 13)] [] V3 V13 := ajV13
  have agV13 : agr [(5, 5), (5, 6), (5, 7), (5, 8), (5, 9), (5, 13)] [] V V13 := agV3.tr ajV13 (by decide) (by decide)
  have t8 : (V13 5 6).toInt = 0 := t8
  have t9 : (V13 5 7).toInt = 0 := t9
  have t10 : (V13 5 8).toInt = 0 := t10
  have t11 : (V13 5 9).toInt = 0 := t11
  have t12 : (V13 5 13).toInt = 0 := t12
  have r15 : 0 ≤ ((V13 5 6)).toInt ∧ ((V13 5 6)).toInt ≤ 400 := hMV13 5 6
  have r16 : 0 ≤ ((V13 5 7)).toInt ∧ ((V13 5 7)).toInt ≤ 2048 := hMV13 5 7
  have r17 : 0 ≤ ((V13 5 8)).toInt ∧ ((V13 5 8)).toInt ≤ 300 := hMV13 5 8
  have r18 : 0 ≤ ((V13 5 9)).toInt ∧ ((V13 5 9)).toInt ≤ 3 := hMV13 5 9
  have r19 : 0 ≤ ((V13 5 13)).toInt ∧ ((V13 5 13)).toInt ≤ 3000 := hMV13 5 13
  have pq20 : (V13 5 5).toInt = ((nI b)).toInt := congrArg Int32.toInt ((ajV13 5 5 rfl).trans (up2_s hV3))
  exact W.vret hx hb hr (fun t ht hW => ⟨⟨(V13, L), rfl, ⟨hMV13, agV13, rfl, (show (V13 5 5).toInt = (b : Int) from by (first | exact om_adf531c77a0d r2 pq20 | omega)), (show (V13 5 6).toInt = 0 from by (first | exact om_b66ba74381d5 t8 | omega)), (show (V13 5 13).toInt = 0 from by (first | exact om_b66ba74381d5 t12 | omega))⟩, by rw [ht]; exact hP, va_K.moved hW.alike hK, hD⟩, hS.F ht⟩) hS.2.2 dX5_takeBook_9
abbrev r_x_h_bookN : Room := { frames := 94, cells := 0, slots := 0, locals := 2751 }
abbrev q_x_h_bookN (D : va_G) (ks : KS) (ad : Nat → Nat) (kk : Nat → ClassId) (V : Vf) (L : Lf) (Z : XZ) (b : Nat) (b1 : Nat) (A : Nat → Prop) : Array Value → State → Outcome → State → Prop := va_Qi (fun (r : Int32) (u : Vf × Lf) => rgd bX u.1 ∧ agr [(0, 6), (0, 7), (0, 8), (0, 9), (1, 1), (1, 2), (1, 3), (1, 4), (1, 6), (1, 7), (1, 8), (2, 7), (3, 12), (3, 13), (3, 14), (3, 15), (4, 5), (4, 6), (4, 7), (4, 8), (5, 5), (5, 6), (5, 7), (5, 8), (5, 9), (5, 13), (6, 5), (6, 6), (6, 7), (6, 8), (6, 9), (6, 10)] [12, 13, 14, 23, 24, 25, 41, 42, 43, 44, 45, 46, 47, 48, 49, 50, 51, 52, 53, 54, 55, 56, 57, 58, 59, 60, 61, 62, 63, 64, 65, 66] V u.1 ∧ agL [1, 6, 14, 44] L u.2 ∧ (Imp (r.toInt = 0) (HI u.1 Z b1)) ∧ (Imp (¬ r.toInt = 0) (HI u.1 Z b)) ∧ (Imp (r.toInt = 0) ((u.1 0 6).toInt = (b1 : Int) ∧ (u.1 0 7).toInt = (b : Int))) ∧ (Imp (¬ r.toInt = 0) ((u.1 0 6).toInt = (b : Int) ∧ (u.1 0 7).toInt = (b1 : Int))) ∧ ((u.1 44 0).toInt = (V 44 0).toInt) ∧ ((u.1 6 5).toInt = 0) ∧ (Imp (r.toInt = 0) (RST V u.1)) ∧ (Imp (¬ r.toInt = 0) (ESw V u.1 ∧ u.1 4 7 = V 4 7 ∧ u.1 4 8 = V 4 8 ∧ ∀ s9 : Nat, u.1 21 s9 = V 21 s9 ∧ u.1 22 s9 = V 22 s9))) (fun u t => gq D A (xw ad kk u.1 u.2 Z) (xty kk Z) t) A
set_option maxHeartbeats 4000000 in
set_option maxRecDepth 100000 in
theorem x_h_bookN (l : Launch) (D : va_G) (ks : KS) (sz : Nat) (ad : Nat → Nat) (kk : Nat → ClassId) (V : Vf) (L : Lf) (Z : XZ) (b : Nat) (b1 : Nat) (hMV : rgd bX V) (hb2 : b < 2) (hb1 : b1 < 2) (hbb : b + b1 = 1) (shk : (V 0 6).toInt = (b : Int)) (spk : (V 0 7).toInt = (b1 : Int)) (hi : HI V Z b) (h44 : 60900 ≤ (V 44 0).toInt ∧ (V 44 0).toInt ≤ 250000)  : Met l yX11_book (Cond.code yX11_book cX11_book 3 (some .int) :: GW) r_x_h_bookN (va_Pc [.ref (ad 0)] (gp D ks (xw ad kk V L Z) (xty kk Z) sz)) (q_x_h_bookN D ks ad kk V L Z  b b1 (va_A (xw ad kk V L Z) sz)) 0 0 (va_A (xw ad kk V L Z) sz) := by
  refine g_met (q_x_h_bookN D ks ad kk V L Z  b b1) (by decide) (Nat.le_of_ble_eq_true rfl) ?_
  intro p e s m below meth c A ls H locs hx hb hr hml hown hg hlocks hin hnw hgk hP hK hD hS hA hl
  have hown : s.vm.findClass RX11 = some m.cls := hown
  have hl : lv_has ls 3 [(0, .ref (ad 0))] := hl
  have hP : va_P D vwCl (xw ad kk V L Z) H := hP
  have hD : va_D A (xw ad kk V L Z) := hD
  have hK : va_K D vwCl (xty kk Z) s := hK
  have agV : agr [(0, 6), (0, 7), (0, 8), (0, 9), (1, 1), (1, 2), (1, 3), (1, 4), (1, 6), (1, 7), (1, 8), (2, 7), (3, 12), (3, 13), (3, 14), (3, 15), (4, 5), (4, 6), (4, 7), (4, 8), (5, 5), (5, 6), (5, 7), (5, 8), (5, 9), (5, 13), (6, 5), (6, 6), (6, 7), (6, 8), (6, 9), (6, 10)] [12, 13, 14, 23, 24, 25, 41, 42, 43, 44, 45, 46, 47, 48, 49, 50, 51, 52, 53, 54, 55, 56, 57, 58, 59, 60, 61, 62, 63, 64, 65, 66] V V := agr.rf
  have alL : agL [1, 6, 14, 44] L L := agL.rf
  have r1 : 0 ≤ ((V 0 6)).toInt ∧ ((V 0 6)).toInt ≤ 1 := hMV 0 6
  have r2 : 0 ≤ ((V 0 7)).toInt ∧ ((V 0 7)).toInt ≤ 1 := hMV 0 7
  refine lv_aload_n hx hb dX11_book_0 rfl (lv_at hl 0 rfl) ?_
  refine va_get (D := D) (ci := 11) (v := .ref (ad 1)) (fs := (xfHouse ad V L Z)) (C := RX11) (T := TX11) (N := 10) hx hb hg inX11 hown hK hP 0 xgHouse rfl 1 (by decide) (hg _ w716) (fun _ h9 => h9) rfl dX11_book_1 ?_
  refine lv_aload_n hx hb dX11_book_4 rfl (lv_at hl 0 rfl) ?_
  refine va_get (D := D) (ci := 11) (v := .ref (ad (38 + Int32.toNatClampNeg (V 0 7)))) (fs := (xfHouse ad V L Z)) (C := RX11) (T := TX11) (N := 10) hx hb hg inX11 hown hK hP 0 xgHouse rfl 7 (by decide) (hg _ w722) (fun _ h9 => h9) rfl dX11_book_5 ?_
  refine g_topv (v := .ref (ad (38 + b1))) (rfP (by first | omega | ((try (have i_hi := Imp.go hi (by omega))); omega))) ?_
  refine gA_int (gA_runV (As := [.ref (ad (38 + b1))]) (rest := []) (ci := 1) (q0 := 1) hx hb hml hown hg hP hD hK hS hA hnw hgk (x_read l D ks H.size ad kk V L Z (b1) hMV (show b1 < 2 from by first | exact om_f940a4667dd6 hb1 | first | omega | ((try (have i_hi := Imp.go hi (by omega))); omega))) w758 w759 w760 w162 w761 rfl xgReader hdV_yX1_read ⟨Nat.le_of_ble_eq_true rfl, Nat.le_of_ble_eq_true rfl⟩ rfl hl.1 rfl (Nat.le_of_ble_eq_true rfl) dX11_book_8 ⟨Nat.le_of_ble_eq_true rfl, Nat.le_of_ble_eq_true rfl⟩) hP hD hK hS hA (fun z3 u4 H locs w5 hP hD hK hS => ?_)
  obtain ⟨V7, L8⟩ := u4
  obtain ⟨hMV7, ajV7, axL8, fyV7, t6⟩ := w5
  have alL8 : agL [1, 6, 14, 44] L L8 := agL.tr alL axL8 (by decide)
  have hP : va_P D vwCl (xw ad kk V7 L8 Z) H := hP
  have hD : va_D A (xw ad kk V7 L8 Z) := hD
  have hMV7 : rgd bX V7 := hMV7
  have ajV7 : agr [(1, 1), (1, 2), (1, 3), (1, 4), (1, 6), (1, 7), (1, 8), (6, 6), (6, 7), (6, 8), (6, 9), (6, 10)] [12, 13, 14, 41, 42, 43, 44, 45, 46, 47, 48, 49, 50, 51, 52, 53, 54, 55, 56, 57, 58, 59, 60, 61, 62, 63, 64, 65, 66] V V7 := ajV7
  have agV7 : agr [(0, 6), (0, 7), (0, 8), (0, 9), (1, 1), (1, 2), (1, 3), (1, 4), (1, 6), (1, 7), (1, 8), (2, 7), (3, 12), (3, 13), (3, 14), (3, 15), (4, 5), (4, 6), (4, 7), (4, 8), (5, 5), (5, 6), (5, 7), (5, 8), (5, 9), (5, 13), (6, 5), (6, 6), (6, 7), (6, 8), (6, 9), (6, 10)] [12, 13, 14, 23, 24, 25, 41, 42, 43, 44, 45, 46, 47, 48, 49, 50, 51, 52, 53, 54, 55, 56, 57, 58, 59, 60, 61, 62, 63, 64, 65, 66] V V7 := agV.tr ajV7 (by decide) (by decide)
  have t6 : Imp (z3.toInt = 0) (CD V7 b1 ∧ TX V7 b1) := t6
  have e44r : (V7 44 0).toInt = (V 44 0).toInt := congrArg Int32.toInt (fyV7 44 0 ⟨by decide, by decide⟩ (Or.inr (Nat.le_refl 0)))
  refine lv_istore_n (lv' := [(1, .int z3), (0, .ref (ad 0))]) hx hb dX11_book_11 rfl hl (by decide) rfl (fun ls hl => ?_)
  refine lv_aload_n hx hb dX11_book_12 rfl (lv_at hl 1 rfl) ?_
  refine va_get (D := D) (ci := 11) (v := .ref (ad 6)) (fs := (xfHouse ad V7 L8 Z)) (C := RX11) (T := TX11) (N := 10) hx hb hg inX11 hown hK hP 0 xgHouse rfl 0 (by decide) (hg _ w715) (fun _ h9 => h9) rfl dX11_book_13 ?_
  refine gA_void (gA_runV (As := []) (rest := []) (ci := 9) (q0 := 6) hx hb hml hown hg hP hD hK hS hA hnw hgk (x_empty l D ks H.size ad kk V7 L8 Z  hMV7 ) w1019 w1020 w1021 w157 w1022 rfl xgTape hdV_yX9_empty ⟨Nat.le_of_ble_eq_true rfl, Nat.le_of_ble_eq_true rfl⟩ rfl hl.1 rfl (Nat.le_of_ble_eq_true rfl) dX11_book_16 ⟨Nat.le_of_ble_eq_true rfl, Nat.le_of_ble_eq_true rfl⟩) hP hD hK hS hA (fun u10 H locs w11 hP hD hK hS => ?_)
  obtain ⟨V13, L14⟩ := u10
  obtain ⟨hMV13, ajV13, axL14, t12⟩ := w11
  have axL14 : L8 = L14 := Eq.symm axL14
  subst axL14
  have hP : va_P D vwCl (xw ad kk V13 L8 Z) H := hP
  have hD : va_D A (xw ad kk V13 L8 Z) := hD
  have hMV13 : rgd bX V13 := hMV13
  have ajV13 : agr [(6, 5)] [] V7 V13 := ajV13
  have agV13 : agr [(0, 6), (0, 7), (0, 8), (0, 9), (1, 1), (1, 2), (1, 3), (1, 4), (1, 6), (1, 7), (1, 8), (2, 7), (3, 12), (3, 13), (3, 14), (3, 15), (4, 5), (4, 6), (4, 7), (4, 8), (5, 5), (5, 6), (5, 7), (5, 8), (5, 9), (5, 13), (6, 5), (6, 6), (6, 7), (6, 8), (6, 9), (6, 10)] [12, 13, 14, 23, 24, 25, 41, 42, 43, 44, 45, 46, 47, 48, 49, 50, 51, 52, 53, 54, 55, 56, 57, 58, 59, 60, 61, 62, 63, 64, 65, 66] V V13 := agV7.tr ajV13 (by decide) (by decide)
  have t12 : (V13 6 5).toInt = 0 := t12
  have r15 : 0 ≤ ((V13 6 5)).toInt ∧ ((V13 6 5)).toInt ≤ 4000 := hMV13 6 5
  refine lv_iload_n hx hb dX11_book_19 rfl (lv_at hl 0 rfl) ?_
  refine lv_if_eq (tgt := 25) hx hb dX11_book_20 (by decide) (fun c16 => ?_) (fun c16 => ?_)
  · skip
    have f17 : z3.toInt = 0 := b_eq rfl (by decide) c16
    refine lv_aload_n hx hb dX11_book_25 rfl (lv_at hl 1 rfl) ?_
    refine va_get (D := D) (ci := 11) (v := .ref (ad (38 + Int32.toNatClampNeg (V13 0 6)))) (fs := (xfHouse ad V13 L8 Z)) (C := RX11) (T := TX11) (N := 10) hx hb hg inX11 hown hK hP 0 xgHouse rfl 6 (by decide) (hg _ w721) (fun _ h9 => h9) rfl dX11_book_26 ?_
    have pq18 : (V13 0 6).toInt = ((V 0 6)).toInt := congrArg Int32.toInt ((ajV13 0 6 rfl).trans (ajV7 0 6 rfl))
    refine g_topv (v := .ref (ad (38 + b))) (rfP (by first | omega | ((try (have i_hi := Imp.go hi (by omega))); omega))) ?_
    refine lv_astore_n (lv' := [(2, .ref (ad (38 + b))), (1, .int z3), (0, .ref (ad 0))]) hx hb dX11_book_29 rfl hl (by decide) rfl (fun ls hl => ?_)
    refine lv_aload_n hx hb dX11_book_30 rfl (lv_at hl 2 rfl) ?_
    refine lv_aload_n hx hb dX11_book_31 rfl (lv_at hl 2 rfl) ?_
    refine va_get (D := D) (ci := 11) (v := .ref (ad (38 + Int32.toNatClampNeg (V13 0 7)))) (fs := (xfHouse ad V13 L8 Z)) (C := RX11) (T := TX11) (N := 10) hx hb hg inX11 hown hK hP 0 xgHouse rfl 7 (by decide) (hg _ w722) (fun _ h9 => h9) rfl dX11_book_32 ?_
    have pq19 : (V13 0 7).toInt = ((V 0 7)).toInt := congrArg Int32.toInt ((ajV13 0 7 rfl).trans (ajV7 0 7 rfl))
    refine g_topv (v := .ref (ad (38 + b1))) (rfP (by first | omega | ((try (have i_hi := Imp.go hi (by omega))); omega))) ?_
    refine va_put (D := D) (ci := 11) (v := .ref (ad (38 + b1))) (ty := tyX11 6) (fs := (xfHouse ad V13 L8 Z)) (C := RX11) (T := TX11) (N := 10) hx hb hg inX11 tyX11 tyX11_ok nmX11 hown hK hP hD hS 0 xgHouse rfl 6 (by decide) (hg _ w721) (fun _ h9 => h9) rfl (tyX11_ok 6 (by decide)) rfl rfl (Nat.le_of_ble_eq_true rfl) dX11_book_35 (fun H locs hP hD hS => ?_)
    have r20 : (nI b1).toInt = ((b1 : Nat) : Int) := nI_toInt (by omega)
    obtain ⟨V21, hV21⟩ : ∃ z, z = up2 V13 0 6 (nI b1) := ⟨_, rfl⟩
    have ew22 : (xw ad kk V13 L8 Z).set 0 ((ad 0), .inr (11, (xfHouse ad V13 L8 Z).set 6 (.ref (ad (38 + b1))))) = xw ad kk V21 L8 Z := by rw [hV21]; exact xr_shelf hb1
    have hP : va_P D vwCl (xw ad kk V21 L8 Z) H := by rw [← ew22]; exact hP
    have hD : va_D A (xw ad kk V21 L8 Z) := by rw [← ew22]; exact hD
    have hMV21 : rgd bX V21 := hMV13.put hV21 (show 0 ≤ ((nI b1)).toInt ∧ ((nI b1)).toInt ≤ 1 from by first | exact om_d98fff7a4861 hb1 r20 | first | omega | ((try (have i_hi := Imp.go hi (by omega))); omega))
    have agV21 : agr [(0, 6), (0, 7), (0, 8), (0, 9), (1, 1), (1, 2), (1, 3), (1, 4), (1, 6), (1, 7), (1, 8), (2, 7), (3, 12), (3, 13), (3, 14), (3, 15), (4, 5), (4, 6), (4, 7), (4, 8), (5, 5), (5, 6), (5, 7), (5, 8), (5, 9), (5, 13), (6, 5), (6, 6), (6, 7), (6, 8), (6, 9), (6, 10)] [12, 13, 14, 23, 24, 25, 41, 42, 43, 44, 45, 46, 47, 48, 49, 50, 51, 52, 53, 54, 55, 56, 57, 58, 59, 60, 61, 62, 63, 64, 65, 66] V V21 := agV13.up hV21 rfl
    refine lv_aload_n hx hb dX11_book_38 rfl (lv_at hl 2 rfl) ?_
    refine lv_aload_n hx hb dX11_book_39 rfl (lv_at hl 0 rfl) ?_
    refine va_put (D := D) (ci := 11) (v := .ref (ad (38 + b))) (ty := tyX11 7) (fs := (xfHouse ad V21 L8 Z)) (C := RX11) (T := TX11) (N := 10) hx hb hg inX11 tyX11 tyX11_ok nmX11 hown hK hP hD hS 0 xgHouse rfl 7 (by decide) (hg _ w722) (fun _ h9 => h9) rfl (tyX11_ok 7 (by decide)) rfl rfl (Nat.le_of_ble_eq_true rfl) dX11_book_40 (fun H locs hP hD hS => ?_)
    have r23 : (nI b).toInt = ((b : Nat) : Int) := nI_toInt (by omega)
    obtain ⟨V24, hV24⟩ : ∃ z, z = up2 V21 0 7 (nI b) := ⟨_, rfl⟩
    have ew25 : (xw ad kk V21 L8 Z).set 0 ((ad 0), .inr (11, (xfHouse ad V21 L8 Z).set 7 (.ref (ad (38 + b))))) = xw ad kk V24 L8 Z := by rw [hV24]; exact xr_spare hb2
    have hP : va_P D vwCl (xw ad kk V24 L8 Z) H := by rw [← ew25]; exact hP
    have hD : va_D A (xw ad kk V24 L8 Z) := by rw [← ew25]; exact hD
    have hMV24 : rgd bX V24 := hMV21.put hV24 (show 0 ≤ ((nI b)).toInt ∧ ((nI b)).toInt ≤ 1 from by first | exact om_cf08f328c789 hb1 hbb r23 | first | omega | ((try (have i_hi := Imp.go hi (by omega))); omega))
    have agV24 : agr [(0, 6), (0, 7), (0, 8), (0, 9), (1, 1), (1, 2), (1, 3), (1, 4), (1, 6), (1, 7), (1, 8), (2, 7), (3, 12), (3, 13), (3, 14), (3, 15), (4, 5), (4, 6), (4, 7), (4, 8), (5, 5), (5, 6), (5, 7), (5, 8), (5, 9), (5, 13), (6, 5), (6, 6), (6, 7), (6, 8), (6, 9), (6, 10)] [12, 13, 14, 23, 24, 25, 41, 42, 43, 44, 45, 46, 47, 48, 49, 50, 51, 52, 53, 54, 55, 56, 57, 58, 59, 60, 61, 62, 63, 64, 65, 66] V V24 := agV21.up hV24 rfl
    refine lv_aload_n hx hb dX11_book_43 rfl (lv_at hl 2 rfl) ?_
    refine va_get (D := D) (ci := 11) (v := .ref (ad 3)) (fs := (xfHouse ad V24 L8 Z)) (C := RX11) (T := TX11) (N := 10) hx hb hg inX11 hown hK hP 0 xgHouse rfl 3 (by decide) (hg _ w718) (fun _ h9 => h9) rfl dX11_book_44 ?_
    refine gA_void (gA_runV (As := []) (rest := []) (ci := 8) (q0 := 3) hx hb hml hown hg hP hD hK hS hA hnw hgk (x_sclear9 l D ks H.size ad kk V24 L8 Z  hMV24 ) w1023 w1024 w1025 w164 w1026 rfl xgStock hdV_yX8_clear ⟨Nat.le_of_ble_eq_true rfl, Nat.le_of_ble_eq_true rfl⟩ rfl hl.1 rfl (Nat.le_of_ble_eq_true rfl) dX11_book_47 ⟨Nat.le_of_ble_eq_true rfl, Nat.le_of_ble_eq_true rfl⟩) hP hD hK hS hA (fun u27 H locs w28 hP hD hK hS => ?_)
    obtain ⟨V36, L37⟩ := u27
    obtain ⟨hMV36, ajV36, axL37, t29, t30, t31, t32, t33, t34, t35⟩ := w28
    have axL37 : L8 = L37 := Eq.symm axL37
    subst axL37
    have hP : va_P D vwCl (xw ad kk V36 L8 Z) H := hP
    have hD : va_D A (xw ad kk V36 L8 Z) := hD
    have hMV36 : rgd bX V36 := hMV36
    have ajV36 : agr [(3, 12), (3, 13), (3, 14), (3, 15)] [23, 24, 25] V24 V36 := ajV36
    have agV36 : agr [(0, 6), (0, 7), (0, 8), (0, 9), (1, 1), (1, 2), (1, 3), (1, 4), (1, 6), (1, 7), (1, 8), (2, 7), (3, 12), (3, 13), (3, 14), (3, 15), (4, 5), (4, 6), (4, 7), (4, 8), (5, 5), (5, 6), (5, 7), (5, 8), (5, 9), (5, 13), (6, 5), (6, 6), (6, 7), (6, 8), (6, 9), (6, 10)] [12, 13, 14, 23, 24, 25, 41, 42, 43, 44, 45, 46, 47, 48, 49, 50, 51, 52, 53, 54, 55, 56, 57, 58, 59, 60, 61, 62, 63, 64, 65, 66] V V36 := agV24.tr ajV36 (by decide) (by decide)
    have t29 : (V36 3 13).toInt = 0 := t29
    have t30 : (V36 3 15).toInt = 0 := t30
    have t31 : ∀ q : Nat, q < 960 → (V36 25 q).toInt = -1 := t31
    have t32 : (V36 3 12).toInt = 1 := t32
    have t33 : (V36 3 14).toInt = 0 := t33
    have t34 : ∀ s9 : Nat, s9 < 40 → V36 24 s9 = 0 := t34
    have t35 : (V36 23 0).toInt = 1 := t35
    have r38 : 0 ≤ ((V36 3 13)).toInt ∧ ((V36 3 13)).toInt ≤ 300 := hMV36 3 13
    have r39 : 0 ≤ ((V36 3 15)).toInt ∧ ((V36 3 15)).toInt ≤ 262144 := hMV36 3 15
    have r40 : 1 ≤ ((V36 3 12)).toInt ∧ ((V36 3 12)).toInt ≤ 40 := hMV36 3 12
    refine lv_aload_n hx hb dX11_book_50 rfl (lv_at hl 2 rfl) ?_
    refine va_get (D := D) (ci := 11) (v := .ref (ad 4)) (fs := (xfHouse ad V36 L8 Z)) (C := RX11) (T := TX11) (N := 10) hx hb hg inX11 hown hK hP 0 xgHouse rfl 4 (by decide) (hg _ w719) (fun _ h9 => h9) rfl dX11_book_51 ?_
    refine gA_void (gA_runV (As := []) (rest := []) (ci := 7) (q0 := 4) hx hb hml hown hg hP hD hK hS hA hnw hgk (x_Nclear9 l D ks H.size ad kk V36 L8 Z  hMV36 ) w1031 w1032 w1033 w166 w1034 rfl xgNotes hdV_yX7_clear ⟨Nat.le_of_ble_eq_true rfl, Nat.le_of_ble_eq_true rfl⟩ rfl hl.1 rfl (Nat.le_of_ble_eq_true rfl) dX11_book_54 ⟨Nat.le_of_ble_eq_true rfl, Nat.le_of_ble_eq_true rfl⟩) hP hD hK hS hA (fun u42 H locs w43 hP hD hK hS => ?_)
    obtain ⟨V47, L48⟩ := u42
    obtain ⟨hMV47, ajV47, axL48, t44, t45, t46⟩ := w43
    have axL48 : L8 = L48 := Eq.symm axL48
    subst axL48
    have hP : va_P D vwCl (xw ad kk V47 L8 Z) H := hP
    have hD : va_D A (xw ad kk V47 L8 Z) := hD
    have hMV47 : rgd bX V47 := hMV47
    have ajV47 : agr [(4, 5), (4, 6), (4, 7), (4, 8)] [] V36 V47 := ajV47
    have agV47 : agr [(0, 6), (0, 7), (0, 8), (0, 9), (1, 1), (1, 2), (1, 3), (1, 4), (1, 6), (1, 7), (1, 8), (2, 7), (3, 12), (3, 13), (3, 14), (3, 15), (4, 5), (4, 6), (4, 7), (4, 8), (5, 5), (5, 6), (5, 7), (5, 8), (5, 9), (5, 13), (6, 5), (6, 6), (6, 7), (6, 8), (6, 9), (6, 10)] [12, 13, 14, 23, 24, 25, 41, 42, 43, 44, 45, 46, 47, 48, 49, 50, 51, 52, 53, 54, 55, 56, 57, 58, 59, 60, 61, 62, 63, 64, 65, 66] V V47 := agV36.tr ajV47 (by decide) (by decide)
    have t44 : (V47 4 6).toInt = 0 := t44
    have t45 : (V47 4 7).toInt = 0 := t45
    have t46 : (V47 4 8).toInt = 0 := t46
    have r49 : 0 ≤ ((V47 4 6)).toInt ∧ ((V47 4 6)).toInt ≤ 300 := hMV47 4 6
    refine lv_aload_n hx hb dX11_book_57 rfl (lv_at hl 2 rfl) ?_
    refine va_get (D := D) (ci := 11) (v := .ref (ad 2)) (fs := (xfHouse ad V47 L8 Z)) (C := RX11) (T := TX11) (N := 10) hx hb hg inX11 hown hK hP 0 xgHouse rfl 2 (by decide) (hg _ w717) (fun _ h9 => h9) rfl dX11_book_58 ?_
    refine gA_void (gA_runV (As := []) (rest := []) (ci := 2) (q0 := 2) hx hb hml hown hg hP hD hK hS hA hnw hgk (x_kclear l D ks H.size ad kk V47 L8 Z  hMV47 ) w1035 w1036 w1037 w163 w1038 rfl xgChecker hdV_yX2_clear ⟨Nat.le_of_ble_eq_true rfl, Nat.le_of_ble_eq_true rfl⟩ rfl hl.1 rfl (Nat.le_of_ble_eq_true rfl) dX11_book_61 ⟨Nat.le_of_ble_eq_true rfl, Nat.le_of_ble_eq_true rfl⟩) hP hD hK hS hA (fun u51 H locs w52 hP hD hK hS => ?_)
    obtain ⟨V53, L54⟩ := u51
    obtain ⟨hMV53, ajV53, axL54⟩ := w52
    have axL54 : L8 = L54 := Eq.symm axL54
    subst axL54
    have hP : va_P D vwCl (xw ad kk V53 L8 Z) H := hP
    have hD : va_D A (xw ad kk V53 L8 Z) := hD
    have hMV53 : rgd bX V53 := hMV53
    have ajV53 : agr [(2, 7)] [] V47 V53 := ajV53
    have agV53 : agr [(0, 6), (0, 7), (0, 8), (0, 9), (1, 1), (1, 2), (1, 3), (1, 4), (1, 6), (1, 7), (1, 8), (2, 7), (3, 12), (3, 13), (3, 14), (3, 15), (4, 5), (4, 6), (4, 7), (4, 8), (5, 5), (5, 6), (5, 7), (5, 8), (5, 9), (5, 13), (6, 5), (6, 6), (6, 7), (6, 8), (6, 9), (6, 10)] [12, 13, 14, 23, 24, 25, 41, 42, 43, 44, 45, 46, 47, 48, 49, 50, 51, 52, 53, 54, 55, 56, 57, 58, 59, 60, 61, 62, 63, 64, 65, 66] V V53 := agV47.tr ajV53 (by decide) (by decide)
    refine lv_aload_n hx hb dX11_book_64 rfl (lv_at hl 2 rfl) ?_
    refine va_get (D := D) (ci := 11) (v := .ref (ad 5)) (fs := (xfHouse ad V53 L8 Z)) (C := RX11) (T := TX11) (N := 10) hx hb hg inX11 hown hK hP 0 xgHouse rfl 5 (by decide) (hg _ w720) (fun _ h9 => h9) rfl dX11_book_65 ?_
    refine lv_aload_n hx hb dX11_book_68 rfl (lv_at hl 2 rfl) ?_
    refine va_get (D := D) (ci := 11) (v := .ref (ad (38 + Int32.toNatClampNeg (V53 0 6)))) (fs := (xfHouse ad V53 L8 Z)) (C := RX11) (T := TX11) (N := 10) hx hb hg inX11 hown hK hP 0 xgHouse rfl 6 (by decide) (hg _ w721) (fun _ h9 => h9) rfl dX11_book_69 ?_
    have pq55 : (V53 0 6).toInt = ((nI b1)).toInt := congrArg Int32.toInt ((ajV53 0 6 rfl).trans ((ajV47 0 6 rfl).trans ((ajV36 0 6 rfl).trans ((up2_k hV24 (by decide)).trans (up2_s hV21)))))
    refine g_topv (v := .ref (ad (38 + b1))) (rfP (by first | omega | ((try (have i_hi := Imp.go hi (by omega))); omega))) ?_
    refine gA_void (gA_runV (As := [.ref (ad (38 + b1))]) (rest := []) (ci := 5) (q0 := 5) hx hb hml hown hg hP hD hK hS hA hnw hgk (x_takeBook9 l D ks H.size ad kk V53 L8 Z (b1) hMV53 (show b1 < 2 from by first | exact om_f940a4667dd6 hb1 | first | omega | ((try (have i_hi := Imp.go hi (by omega))); omega))) w1039 w1040 w1041 w171 w1042 rfl xgMachine hdV_yX5_takeBook ⟨Nat.le_of_ble_eq_true rfl, Nat.le_of_ble_eq_true rfl⟩ rfl hl.1 rfl (Nat.le_of_ble_eq_true rfl) dX11_book_72 ⟨Nat.le_of_ble_eq_true rfl, Nat.le_of_ble_eq_true rfl⟩) hP hD hK hS hA (fun u57 H locs w58 hP hD hK hS => ?_)
    obtain ⟨V62, L63⟩ := u57
    obtain ⟨hMV62, ajV62, axL63, t59, t60, t61⟩ := w58
    have axL63 : L8 = L63 := Eq.symm axL63
    subst axL63
    have hP : va_P D vwCl (xw ad kk V62 L8 Z) H := hP
    have hD : va_D A (xw ad kk V62 L8 Z) := hD
    have hMV62 : rgd bX V62 := hMV62
    have ajV62 : agr [(5, 5), (5, 6), (5, 7), (5, 8), (5, 9), (5, 13)] [] V53 V62 := ajV62
    have agV62 : agr [(0, 6), (0, 7), (0, 8), (0, 9), (1, 1), (1, 2), (1, 3), (1, 4), (1, 6), (1, 7), (1, 8), (2, 7), (3, 12), (3, 13), (3, 14), (3, 15), (4, 5), (4, 6), (4, 7), (4, 8), (5, 5), (5, 6), (5, 7), (5, 8), (5, 9), (5, 13), (6, 5), (6, 6), (6, 7), (6, 8), (6, 9), (6, 10)] [12, 13, 14, 23, 24, 25, 41, 42, 43, 44, 45, 46, 47, 48, 49, 50, 51, 52, 53, 54, 55, 56, 57, 58, 59, 60, 61, 62, 63, 64, 65, 66] V V62 := agV53.tr ajV62 (by decide) (by decide)
    have t59 : (V62 5 5).toInt = (b1 : Int) := t59
    have t60 : (V62 5 6).toInt = 0 := t60
    have t61 : (V62 5 13).toInt = 0 := t61
    have r64 : 0 ≤ ((V62 5 5)).toInt ∧ ((V62 5 5)).toInt ≤ 1 := hMV62 5 5
    have r65 : 0 ≤ ((V62 5 6)).toInt ∧ ((V62 5 6)).toInt ≤ 400 := hMV62 5 6
    have r66 : 0 ≤ ((V62 5 13)).toInt ∧ ((V62 5 13)).toInt ≤ 3000 := hMV62 5 13
    refine lv_aload_n hx hb dX11_book_75 rfl (lv_at hl 2 rfl) ?_
    refine lv_iconst (v := 0) hx hb dX11_book_76 (by decide) ?_
    refine va_put (D := D) (ci := 11) (v := .int 0) (ty := tyX11 8) (fs := (xfHouse ad V62 L8 Z)) (C := RX11) (T := TX11) (N := 10) hx hb hg inX11 tyX11 tyX11_ok nmX11 hown hK hP hD hS 0 xgHouse rfl 8 (by decide) (hg _ w723) (fun _ h9 => h9) rfl (tyX11_ok 8 (by decide)) rfl rfl (Nat.le_of_ble_eq_true rfl) dX11_book_77 (fun H locs hP hD hS => ?_)
    obtain ⟨V67, hV67⟩ : ∃ z, z = up2 V62 0 8 0 := ⟨_, rfl⟩
    have ew68 : (xw ad kk V62 L8 Z).set 0 ((ad 0), .inr (11, (xfHouse ad V62 L8 Z).set 8 (.int 0))) = xw ad kk V67 L8 Z := by rw [hV67]; exact xw_ss (by decide) rfl (xb_si (by decide))
    have hP : va_P D vwCl (xw ad kk V67 L8 Z) H := by rw [← ew68]; exact hP
    have hD : va_D A (xw ad kk V67 L8 Z) := by rw [← ew68]; exact hD
    have hMV67 : rgd bX V67 := hMV62.put hV67 (by decide)
    have agV67 : agr [(0, 6), (0, 7), (0, 8), (0, 9), (1, 1), (1, 2), (1, 3), (1, 4), (1, 6), (1, 7), (1, 8), (2, 7), (3, 12), (3, 13), (3, 14), (3, 15), (4, 5), (4, 6), (4, 7), (4, 8), (5, 5), (5, 6), (5, 7), (5, 8), (5, 9), (5, 13), (6, 5), (6, 6), (6, 7), (6, 8), (6, 9), (6, 10)] [12, 13, 14, 23, 24, 25, 41, 42, 43, 44, 45, 46, 47, 48, 49, 50, 51, 52, 53, 54, 55, 56, 57, 58, 59, 60, 61, 62, 63, 64, 65, 66] V V67 := agV62.up hV67 rfl
    refine lv_aload_n hx hb dX11_book_80 rfl (lv_at hl 2 rfl) ?_
    refine lv_iconst (v := 0) hx hb dX11_book_81 (by decide) ?_
    refine va_put (D := D) (ci := 11) (v := .int 0) (ty := tyX11 9) (fs := (xfHouse ad V67 L8 Z)) (C := RX11) (T := TX11) (N := 10) hx hb hg inX11 tyX11 tyX11_ok nmX11 hown hK hP hD hS 0 xgHouse rfl 9 (by decide) (hg _ w724) (fun _ h9 => h9) rfl (tyX11_ok 9 (by decide)) rfl rfl (Nat.le_of_ble_eq_true rfl) dX11_book_82 (fun H locs hP hD hS => ?_)
    obtain ⟨V69, hV69⟩ : ∃ z, z = up2 V67 0 9 0 := ⟨_, rfl⟩
    have ew70 : (xw ad kk V67 L8 Z).set 0 ((ad 0), .inr (11, (xfHouse ad V67 L8 Z).set 9 (.int 0))) = xw ad kk V69 L8 Z := by rw [hV69]; exact xw_ss (by decide) rfl (xb_si (by decide))
    have hP : va_P D vwCl (xw ad kk V69 L8 Z) H := by rw [← ew70]; exact hP
    have hD : va_D A (xw ad kk V69 L8 Z) := by rw [← ew70]; exact hD
    have hMV69 : rgd bX V69 := hMV67.put hV69 (i_full _)
    have agV69 : agr [(0, 6), (0, 7), (0, 8), (0, 9), (1, 1), (1, 2), (1, 3), (1, 4), (1, 6), (1, 7), (1, 8), (2, 7), (3, 12), (3, 13), (3, 14), (3, 15), (4, 5), (4, 6), (4, 7), (4, 8), (5, 5), (5, 6), (5, 7), (5, 8), (5, 9), (5, 13), (6, 5), (6, 6), (6, 7), (6, 8), (6, 9), (6, 10)] [12, 13, 14, 23, 24, 25, 41, 42, 43, 44, 45, 46, 47, 48, 49, 50, 51, 52, 53, 54, 55, 56, 57, 58, 59, 60, 61, 62, 63, 64, 65, 66] V V69 := agV67.up hV69 rfl
    refine lv_iconst (v := 0) hx hb dX11_book_85 (by decide) ?_
    have pq71 : (V69 0 6).toInt = ((nI b1)).toInt := congrArg Int32.toInt ((up2_k hV69 (by decide)).trans ((up2_k hV67 (by decide)).trans ((ajV62 0 6 rfl).trans ((ajV53 0 6 rfl).trans ((ajV47 0 6 rfl).trans ((ajV36 0 6 rfl).trans ((up2_k hV24 (by decide)).trans (up2_s hV21))))))))
    have pq72 : (V69 0 7).toInt = ((nI b)).toInt := congrArg Int32.toInt ((up2_k hV69 (by decide)).trans ((up2_k hV67 (by decide)).trans ((ajV62 0 7 rfl).trans ((ajV53 0 7 rfl).trans ((ajV47 0 7 rfl).trans ((ajV36 0 7 rfl).trans (up2_s hV24)))))))
    have pq73 : (V69 44 0).toInt = ((V7 44 0)).toInt := congrArg Int32.toInt ((up2_o hV69 (by decide)).trans ((up2_o hV67 (by decide)).trans ((ajV62 44 0 rfl).trans ((ajV53 44 0 rfl).trans ((ajV47 44 0 rfl).trans ((ajV36 44 0 rfl).trans ((up2_o hV24 (by decide)).trans ((up2_o hV21 (by decide)).trans (ajV13 44 0 rfl)))))))))
    have pq74 : (V69 6 5).toInt = ((V13 6 5)).toInt := congrArg Int32.toInt ((up2_o hV69 (by decide)).trans ((up2_o hV67 (by decide)).trans ((ajV62 6 5 rfl).trans ((ajV53 6 5 rfl).trans ((ajV47 6 5 rfl).trans ((ajV36 6 5 rfl).trans ((up2_o hV24 (by decide)).trans (up2_o hV21 (by decide)))))))))
    have hcd := Imp.go t6 (by (first | exact om_b66ba74381d5 f17 | omega))
    have be75 : BE V7 V69 := (BE.tr (BE.tr (BE.tr (BE.tr (BE.tr (BE.tr (BE.tr (BE.tr (BE.tr BE.rf (BE.ag ajV13 (by decide) (by decide))) (BE.ag (agr.up (fs := [(0, 6)]) (cs := []) agr.rf hV21 rfl) (by decide) (by decide))) (BE.ag (agr.up (fs := [(0, 7)]) (cs := []) agr.rf hV24 rfl) (by decide) (by decide))) (BE.ag ajV36 (by decide) (by decide))) (BE.ag ajV47 (by decide) (by decide))) (BE.ag ajV53 (by decide) (by decide))) (BE.ag ajV62 (by decide) (by decide))) (BE.ag (agr.up (fs := [(0, 8)]) (cs := []) agr.rf hV67 rfl) (by decide) (by decide))) (BE.ag (agr.up (fs := [(0, 9)]) (cs := []) agr.rf hV69 rfl) (by decide) (by decide)))
    have pq76 : (V69 3 13).toInt = ((V36 3 13)).toInt := congrArg Int32.toInt ((up2_o hV69 (by decide)).trans ((up2_o hV67 (by decide)).trans ((ajV62 3 13 rfl).trans ((ajV53 3 13 rfl).trans (ajV47 3 13 rfl)))))
    have pq77 : (V69 3 15).toInt = ((V36 3 15)).toInt := congrArg Int32.toInt ((up2_o hV69 (by decide)).trans ((up2_o hV67 (by decide)).trans ((ajV62 3 15 rfl).trans ((ajV53 3 15 rfl).trans (ajV47 3 15 rfl)))))
    have pq78 : (V69 5 5).toInt = ((V62 5 5)).toInt := congrArg Int32.toInt ((up2_o hV69 (by decide)).trans (up2_o hV67 (by decide)))
    have pp79 : ∀ q : Nat, q < 960 → (V69 25 q).toInt = -1 := fun q hq => by rw [show V69 25 q = V67 25 q from up2_o hV69 (by decide)]; rw [show V67 25 q = V62 25 q from up2_o hV67 (by decide)]; rw [ajV62 25 q rfl]; rw [ajV53 25 q rfl]; rw [ajV47 25 q rfl]; exact t31 q hq
    have rp80 : HI V69 Z b1 := HI.new hi (TX.be hcd.2 be75) (CD.be hcd.1 be75) (by (first | exact om_36161e850215 t29 pq76 | omega)) (by (first | exact om_36161e850215 t30 pq77 | omega)) (by (first | exact om_07161d737d40 h44.1 h44.2 e44r pq73 | omega)) (by (first | exact om_adf531c77a0d t59 pq78 | omega)) pp79
    have pq82 : (V69 3 12).toInt = ((V36 3 12)).toInt := congrArg Int32.toInt ((up2_o hV69 (by decide)).trans ((up2_o hV67 (by decide)).trans ((ajV62 3 12 rfl).trans ((ajV53 3 12 rfl).trans (ajV47 3 12 rfl)))))
    have pq83 : (V69 3 14).toInt = ((V36 3 14)).toInt := congrArg Int32.toInt ((up2_o hV69 (by decide)).trans ((up2_o hV67 (by decide)).trans ((ajV62 3 14 rfl).trans ((ajV53 3 14 rfl).trans (ajV47 3 14 rfl)))))
    have pq84 : (V69 4 6).toInt = ((V47 4 6)).toInt := congrArg Int32.toInt ((up2_o hV69 (by decide)).trans ((up2_o hV67 (by decide)).trans ((ajV62 4 6 rfl).trans (ajV53 4 6 rfl))))
    have pq85 : (V69 4 7).toInt = ((V47 4 7)).toInt := congrArg Int32.toInt ((up2_o hV69 (by decide)).trans ((up2_o hV67 (by decide)).trans ((ajV62 4 7 rfl).trans (ajV53 4 7 rfl))))
    have pq86 : (V69 4 8).toInt = ((V47 4 8)).toInt := congrArg Int32.toInt ((up2_o hV69 (by decide)).trans ((up2_o hV67 (by decide)).trans ((ajV62 4 8 rfl).trans (ajV53 4 8 rfl))))
    have pq87 : (V69 5 13).toInt = ((V62 5 13)).toInt := congrArg Int32.toInt ((up2_o hV69 (by decide)).trans (up2_o hV67 (by decide)))
    have nb81 : RST V V69 := ⟨⟨by omega, by omega, by omega⟩, ⟨by omega, by omega, by omega⟩, ⟨by omega, ((up2_o hV69 (by decide)).trans ((up2_o hV67 (by decide)).trans ((ajV62 5 14 rfl).trans ((ajV53 5 14 rfl).trans ((ajV47 5 14 rfl).trans ((ajV36 5 14 rfl).trans ((up2_o hV24 (by decide)).trans ((up2_o hV21 (by decide)).trans ((ajV13 5 14 rfl).trans (ajV7 5 14 rfl))))))))))⟩, (by rw [(show agr [(0, 8), (0, 9), (2, 7), (4, 5), (4, 6), (4, 7), (4, 8), (5, 5), (5, 6), (5, 7), (5, 8), (5, 9), (5, 13)] [] V36 V69 from (agr.up (agr.up (agr.tr (agr.tr (agr.tr agr.rf ajV47 (by decide) (by decide)) ajV53 (by decide) (by decide)) ajV62 (by decide) (by decide)) hV67 rfl) hV69 rfl)) 23 0 rfl]; exact t35), (fun s9 h9 => ((show agr [(0, 8), (0, 9), (2, 7), (4, 5), (4, 6), (4, 7), (4, 8), (5, 5), (5, 6), (5, 7), (5, 8), (5, 9), (5, 13)] [] V36 V69 from (agr.up (agr.up (agr.tr (agr.tr (agr.tr agr.rf ajV47 (by decide) (by decide)) ajV53 (by decide) (by decide)) ajV62 (by decide) (by decide)) hV67 rfl) hV69 rfl)) 24 s9 rfl).trans (t34 s9 h9)), (fun q9 h9 => by rw [(show agr [(0, 8), (0, 9), (2, 7), (4, 5), (4, 6), (4, 7), (4, 8), (5, 5), (5, 6), (5, 7), (5, 8), (5, 9), (5, 13)] [] V36 V69 from (agr.up (agr.up (agr.tr (agr.tr (agr.tr agr.rf ajV47 (by decide) (by decide)) ajV53 (by decide) (by decide)) ajV62 (by decide) (by decide)) hV67 rfl) hV69 rfl)) 25 q9 rfl]; exact t31 q9 h9), (fun s9 => ⟨(show agr [(0, 6), (0, 7), (0, 8), (0, 9), (1, 1), (1, 2), (1, 3), (1, 4), (1, 6), (1, 7), (1, 8), (2, 7), (3, 12), (3, 13), (3, 14), (3, 15), (4, 5), (4, 6), (4, 7), (4, 8), (5, 5), (5, 6), (5, 7), (5, 8), (5, 9), (5, 13), (6, 5), (6, 6), (6, 7), (6, 8), (6, 9), (6, 10)] [12, 13, 14, 23, 24, 25, 41, 42, 43, 44, 45, 46, 47, 48, 49, 50, 51, 52, 53, 54, 55, 56, 57, 58, 59, 60, 61, 62, 63, 64, 65, 66] V V69 from (agr.up (agr.up (agr.tr (agr.tr (agr.tr (agr.tr (agr.up (agr.up (agr.tr (agr.tr agr.rf ajV7 (by decide) (by decide)) ajV13 (by decide) (by decide)) hV21 rfl) hV24 rfl) ajV36 (by decide) (by decide)) ajV47 (by decide) (by decide)) ajV53 (by decide) (by decide)) ajV62 (by decide) (by decide)) hV67 rfl) hV69 rfl)) 21 s9 rfl, (show agr [(0, 6), (0, 7), (0, 8), (0, 9), (1, 1), (1, 2), (1, 3), (1, 4), (1, 6), (1, 7), (1, 8), (2, 7), (3, 12), (3, 13), (3, 14), (3, 15), (4, 5), (4, 6), (4, 7), (4, 8), (5, 5), (5, 6), (5, 7), (5, 8), (5, 9), (5, 13), (6, 5), (6, 6), (6, 7), (6, 8), (6, 9), (6, 10)] [12, 13, 14, 23, 24, 25, 41, 42, 43, 44, 45, 46, 47, 48, 49, 50, 51, 52, 53, 54, 55, 56, 57, 58, 59, 60, 61, 62, 63, 64, 65, 66] V V69 from (agr.up (agr.up (agr.tr (agr.tr (agr.tr (agr.tr (agr.up (agr.up (agr.tr (agr.tr agr.rf ajV7 (by decide) (by decide)) ajV13 (by decide) (by decide)) hV21 rfl) hV24 rfl) ajV36 (by decide) (by decide)) ajV47 (by decide) (by decide)) ajV53 (by decide) (by decide)) ajV62 (by decide) (by decide)) hV67 rfl) hV69 rfl)) 22 s9 rfl⟩)⟩
    exact W.iret (v := 0) hx hb hr (fun t ht hW => ⟨⟨0, (V69, L8), rfl, ⟨hMV69, agV69, alL8, (Imp.mk (fun _ => rp80)), (Imp.mk (fun hp => absurd (show Int32.toInt 0 = 0 from by decide) hp)), (Imp.mk (fun _ => (show (V69 0 6).toInt = (b1 : Int) ∧ (V69 0 7).toInt = (b : Int) from by first | exact om_dc1ab77f9798 r20 r23 pq71 pq72 | first | omega | ((try (have i_hi := Imp.go hi (by omega))); omega)))), (Imp.mk (fun hp => absurd (show Int32.toInt 0 = 0 from by decide) hp)), (show (V69 44 0).toInt = (V 44 0).toInt from by first | exact om_cd7d0a6a31bc e44r pq73 | first | omega | ((try (have i_hi := Imp.go hi (by omega))); omega)), (show (V69 6 5).toInt = 0 from by first | exact om_36161e850215 t12 pq74 | first | omega | ((try (have i_hi := Imp.go hi (by omega))); omega)), (Imp.mk (fun _ => nb81)), (Imp.mk (fun hp => absurd (show Int32.toInt 0 = 0 from by decide) hp))⟩, by rw [ht]; exact hP, va_K.moved hW.alike hK, hD⟩, hS.F ht⟩) hS.2.2 dX11_book_86
  · skip
    have f88 : z3.toInt ≠ 0 := b_neq rfl (by decide) c16
    refine lv_iload_n hx hb dX11_book_23 rfl (lv_at hl 0 rfl) ?_
    have pq89 : (V13 0 6).toInt = ((V 0 6)).toInt := congrArg Int32.toInt ((ajV13 0 6 rfl).trans (ajV7 0 6 rfl))
    have pq90 : (V13 0 7).toInt = ((V 0 7)).toInt := congrArg Int32.toInt ((ajV13 0 7 rfl).trans (ajV7 0 7 rfl))
    have pq91 : (V13 44 0).toInt = ((V7 44 0)).toInt := congrArg Int32.toInt (ajV13 44 0 rfl)
    have hf92 : HI V7 Z b := HI.fr hi hbb hMV fyV7 (ajV7 3 13 rfl) (ajV7 3 15 rfl) (ajV7 5 5 rfl) (fun k => ajV7 26 k rfl) (fun k => ajV7 30 k rfl) (fun k => ajV7 32 k rfl) (fun k => ajV7 25 k rfl)
    exact W.iret (v := z3) hx hb hr (fun t ht hW => ⟨⟨z3, (V13, L8), rfl, ⟨hMV13, agV13, alL8, (Imp.mk (fun hp => by exfalso; omega)), (Imp.mk (fun _ => (HI.ag hf92 ajV13 (by decide)))), (Imp.mk (fun hp => have hp : z3.toInt = 0 := hp; (show (V13 0 6).toInt = (b1 : Int) ∧ (V13 0 7).toInt = (b : Int) from by first | omega | ((try (have i_hi := Imp.go hi (by omega))); omega)))), (Imp.mk (fun _ => ⟨by show (V13 0 6).toInt = (b : Int); (first | exact om_adf531c77a0d shk pq89 | omega), by show (V13 0 7).toInt = (b1 : Int); (first | exact om_adf531c77a0d spk pq90 | omega)⟩)), (show (V13 44 0).toInt = (V 44 0).toInt from by first | exact om_cd7d0a6a31bc e44r pq91 | first | omega | ((try (have i_hi := Imp.go hi (by omega))); omega)), (show (V13 6 5).toInt = 0 from by first | exact om_b66ba74381d5 t12 | first | omega | ((try (have i_hi := Imp.go hi (by omega))); omega)), (Imp.mk (fun hp => by exfalso; omega)), (Imp.mk (fun _ => ⟨ESw.ag (show agr [(1, 1), (1, 2), (1, 3), (1, 4), (1, 6), (1, 7), (1, 8), (6, 5), (6, 6), (6, 7), (6, 8), (6, 9), (6, 10)] [12, 13, 14, 41, 42, 43, 44, 45, 46, 47, 48, 49, 50, 51, 52, 53, 54, 55, 56, 57, 58, 59, 60, 61, 62, 63, 64, 65, 66] V V13 from (agr.tr (agr.tr agr.rf ajV7 (by decide) (by decide)) ajV13 (by decide) (by decide))) (by decide), (show agr [(1, 1), (1, 2), (1, 3), (1, 4), (1, 6), (1, 7), (1, 8), (6, 5), (6, 6), (6, 7), (6, 8), (6, 9), (6, 10)] [12, 13, 14, 41, 42, 43, 44, 45, 46, 47, 48, 49, 50, 51, 52, 53, 54, 55, 56, 57, 58, 59, 60, 61, 62, 63, 64, 65, 66] V V13 from (agr.tr (agr.tr agr.rf ajV7 (by decide) (by decide)) ajV13 (by decide) (by decide))) 4 7 rfl, (show agr [(1, 1), (1, 2), (1, 3), (1, 4), (1, 6), (1, 7), (1, 8), (6, 5), (6, 6), (6, 7), (6, 8), (6, 9), (6, 10)] [12, 13, 14, 41, 42, 43, 44, 45, 46, 47, 48, 49, 50, 51, 52, 53, 54, 55, 56, 57, 58, 59, 60, 61, 62, 63, 64, 65, 66] V V13 from (agr.tr (agr.tr agr.rf ajV7 (by decide) (by decide)) ajV13 (by decide) (by decide))) 4 8 rfl, fun s9 => ⟨(show agr [(1, 1), (1, 2), (1, 3), (1, 4), (1, 6), (1, 7), (1, 8), (6, 5), (6, 6), (6, 7), (6, 8), (6, 9), (6, 10)] [12, 13, 14, 41, 42, 43, 44, 45, 46, 47, 48, 49, 50, 51, 52, 53, 54, 55, 56, 57, 58, 59, 60, 61, 62, 63, 64, 65, 66] V V13 from (agr.tr (agr.tr agr.rf ajV7 (by decide) (by decide)) ajV13 (by decide) (by decide))) 21 s9 rfl, (show agr [(1, 1), (1, 2), (1, 3), (1, 4), (1, 6), (1, 7), (1, 8), (6, 5), (6, 6), (6, 7), (6, 8), (6, 9), (6, 10)] [12, 13, 14, 41, 42, 43, 44, 45, 46, 47, 48, 49, 50, 51, 52, 53, 54, 55, 56, 57, 58, 59, 60, 61, 62, 63, 64, 65, 66] V V13 from (agr.tr (agr.tr agr.rf ajV7 (by decide) (by decide)) ajV13 (by decide) (by decide))) 22 s9 rfl⟩⟩))⟩, by rw [ht]; exact hP, va_K.moved hW.alike hK, hD⟩, hS.F ht⟩) hS.2.2 dX11_book_24
