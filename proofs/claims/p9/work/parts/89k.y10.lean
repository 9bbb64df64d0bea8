/-! E's -/
theorem bg_ne {T : Tk} {s : St} (h : bgP T s) : T.1 (s.1 0) ≠ 0 := by
  unfold bgP at h
  omega
theorem bg_147 {T : Tk} {s : St} (h : bgP T s) (a : T.1 (s.1 0) ≠ 2) (a2 : T.1 (s.1 0) ≠ 40) (a3 : T.1 (s.1 0) ≠ 45) (a4 : T.1 (s.1 0) ≠ 130) (a5 : T.1 (s.1 0) ≠ 143) (a6 : T.1 (s.1 0) ≠ 144) (a7 : T.1 (s.1 0) ≠ 145) (a8 : T.1 (s.1 0) ≠ 146) : T.1 (s.1 0) = 147 := by
  unfold bgP at h
  omega
theorem bg_146 {T : Tk} {s : St} (h : bgP T s) (a : T.1 (s.1 0) = 146) : s.1 4 = 0 := by
  unfold bgP at h
  omega
theorem look_ne {T : Tk} {s : St} {l : List Int64} {f : Nat} (h : ∀ kk, look T s l kk = kk f) : T.1 (s.1 0) ≠ 0 := by
  intro q
  have z := (look_1 (l := l) (by rw [q]; decide) (fun _ => Cdone s)).symm.trans (h _)
  unfold fl at z
  exact absurd z (fun e => by cases e)
/-! the content of a BOOK (the reader's cells) beside the machine's numbers -/
theorem keepS.c {s s' : St} {n : Nat} (h : keepS s n s') : keepC s s' := ⟨fun i hi => h.2.1 i (by omega), h.2.2.1⟩
def UND (x : Int32) (f : Nat → Nat) (l : List Nat) : Prop := ∀ g, g < 24 → bt x g = (msk f l).testBit g
theorem UND.z (f : Nat → Nat) : UND 0 f [] := fun g _ => by
  rw [b_0]
  exact (Nat.zero_testBit g).symm
theorem UND.add {x y z : Int32} {f : Nat → Nat} {l : List Nat} {t : Nat} (h : UND x f l) (e : z = x ||| y) (hy : ∀ g, g < 24 → bt y g = (f (30 + t)).testBit g) : UND z f (t :: l) := fun g hg => by
  rw [e, b_or, h g hg, hy g hg, msk_cons, Nat.testBit_or, Bool.or_comm]
def SEc (V : Vf) (b : Nat) (s : St) : Prop := ∀ i, i < (s.2.1 1).length → (V 46 (12 * b + i)).toInt = ((s.1 (10 + i) : Nat) : Int)
def TYc (V : Vf) (b : Nat) (s : St) : Prop := ∀ t, t < (s.2.1 0).length → ∀ g, g < 24 → bt (V 45 (24 * b + t)) g = (s.1 (30 + t)).testBit g
def NEr (V : Vf) (o : Nat) (f : Nat → Nat) (c j : Nat) : Prop := (V 58 (8 * o + j)).toInt = ((f (300 + 32 * c + 4 * j) : Nat) : Int) ∧ (V 60 (8 * o + j)).toInt = ((f (301 + 32 * c + 4 * j) : Nat) : Int) ∧ (V 59 (8 * o + j)).toInt + 1 = ((f (302 + 32 * c + 4 * j) : Nat) : Int) ∧ f (300 + 32 * c + 4 * j) < 24
def HDr (V : Vf) (o m sc ca ra ws wv : Nat) : Prop := (∀ g, g < 24 → bt (V 50 o) g = m.testBit g) ∧ (V 51 o).toInt = (sc : Int) ∧ (V 52 o).toInt + 1 = (ca : Int) ∧ (V 53 o).toInt = (ra : Int) ∧ (V 54 o).toInt + 1 = (ws : Int) ∧ (ws ≠ 0 → (V 55 o).toInt = (wv : Int))
def COr (V : Vf) (o : Nat) (f : Nat → Nat) (c : Nat) : Prop := HDr V o (f (60 + 8 * c)) (f (61 + 8 * c)) (f (62 + 8 * c)) (f (63 + 8 * c)) (f (64 + 8 * c)) (f (65 + 8 * c)) ∧ (V 49 o).toInt = ((f (66 + 8 * c) : Nat) : Int) ∧ f (66 + 8 * c) ≤ 8 ∧ ∀ j, j < f (66 + 8 * c) → NEr V o f c j
def COc (V : Vf) (b : Nat) (s : St) : Prop := ∀ c, c < (s.2.1 2).length → COr V (24 * b + c) s.1 c
def LNb (s : St) : Prop := (s.2.1 0).length ≤ 24 ∧ (s.2.1 1).length ≤ 12 ∧ (s.2.1 2).length ≤ 24
def CNc (V : Vf) (b : Nat) (s : St) : Prop := LNb s ∧ SEc V b s ∧ TYc V b s ∧ COc V b s
/-- what of the cells is read -/
def rdd (b n0 n1 n2 x k : Nat) : Prop := (x = 45 ∧ 24 * b ≤ k ∧ k < 24 * b + n0) ∨ (x = 46 ∧ 12 * b ≤ k ∧ k < 12 * b + n1) ∨ (49 ≤ x ∧ x ≤ 55 ∧ 24 * b ≤ k ∧ k < 24 * b + n2) ∨ (58 ≤ x ∧ x ≤ 60 ∧ 192 * b ≤ k ∧ k < 192 * b + 8 * n2)
theorem HDr.mv {V W : Vf} {o m sc ca ra ws wv : Nat} (h : HDr V o m sc ca ra ws wv) (e : ∀ x, 49 ≤ x → x ≤ 55 → W x o = V x o) : HDr W o m sc ca ra ws wv := by
  unfold HDr at h ⊢
  rw [e 50 (by decide) (by decide), e 51 (by decide) (by decide), e 52 (by decide) (by decide), e 53 (by decide) (by decide), e 54 (by decide) (by decide), e 55 (by decide) (by decide)]
  exact h
theorem COr.mv {V W : Vf} {o c : Nat} {f g : Nat → Nat} (h : COr V o f c) (e : ∀ x, 49 ≤ x → x ≤ 55 → W x o = V x o) (e2 : ∀ x j, 58 ≤ x → x ≤ 60 → j < 8 → W x (8 * o + j) = V x (8 * o + j)) (k : ∀ i, 60 ≤ i → g i = f i) : COr W o g c := by
  obtain ⟨h1, h2, h3, h4⟩ := h
  have k6 := k (66 + 8 * c) (by omega)
  refine ⟨?_, by rw [e 49 (by decide) (by decide), k6]; exact h2, by rw [k6]; exact h3, fun j hj => ?_⟩
  · rw [k (60 + 8 * c) (by omega), k (61 + 8 * c) (by omega), k (62 + 8 * c) (by omega), k (63 + 8 * c) (by omega), k (64 + 8 * c) (by omega), k (65 + 8 * c) (by omega)]
    exact h1.mv e
  · rw [k6] at hj
    have z := h4 j hj
    unfold NEr at z ⊢
    rw [e2 58 j (by decide) (by decide) (by omega), e2 59 j (by decide) (by decide) (by omega), e2 60 j (by decide) (by decide) (by omega), k (300 + 32 * c + 4 * j) (by omega), k (301 + 32 * c + 4 * j) (by omega), k (302 + 32 * c + 4 * j) (by omega)]
    exact z
theorem CNc.mv {V W : Vf} {b : Nat} {s s' : St} (h : CNc V b s) (e : ∀ x k, rdd b (s.2.1 0).length (s.2.1 1).length (s.2.1 2).length x k → W x k = V x k) (k : keepC s s') : CNc W b s' := by
  obtain ⟨h0, h1, h2, h3⟩ := h
  unfold CNc LNb SEc TYc COc
  rw [k.2 0 (by decide), k.2 1 (by decide), k.2 2 (by decide)]
  refine ⟨h0, fun i hi => ?_, fun t ht g hg => ?_, fun c hc => ?_⟩
  · rw [e 46 _ (Or.inr (Or.inl ⟨rfl, by omega, by omega⟩)), k.1 _ (by omega)]
    exact h1 i hi
  · rw [e 45 _ (Or.inl ⟨rfl, by omega, by omega⟩), k.1 _ (by omega)]
    exact h2 t ht g hg
  · exact (h3 c hc).mv (fun x a1 a2 => e x _ (Or.inr (Or.inr (Or.inl ⟨a1, a2, by omega, by omega⟩)))) (fun x j a1 a2 hj => e x _ (Or.inr (Or.inr (Or.inr ⟨a1, a2, by omega, by omega⟩)))) (fun i hi => k.1 i (by omega))
def okK (fs : List (Nat × Nat)) (cs : List Nat) : Bool := cs.all (fun c => !([45, 46, 49, 50, 51, 52, 53, 54, 55, 58, 59, 60].contains c)) && fs.all (fun x => !(([] : List (Nat × Nat)).contains x) && decide (x.1 ≤ 6))
theorem rdd.in {b n0 n1 n2 x k : Nat} (h : rdd b n0 n1 n2 x k) : [45, 46, 49, 50, 51, 52, 53, 54, 55, 58, 59, 60].contains x = true ∧ 6 < x := by
  have z : x = 45 ∨ x = 46 ∨ x = 49 ∨ x = 50 ∨ x = 51 ∨ x = 52 ∨ x = 53 ∨ x = 54 ∨ x = 55 ∨ x = 58 ∨ x = 59 ∨ x = 60 := by
    unfold rdd at h
    omega
  rcases z with z | z | z | z | z | z | z | z | z | z | z | z <;> (subst z; exact ⟨by decide, by decide⟩)
theorem CNc.ag {V W : Vf} {b : Nat} {s s' : St} {fs : List (Nat × Nat)} {cs : List Nat} (h : CNc V b s) (a : agr fs cs V W) (o : okK fs cs = true) (k : keepC s s') : CNc W b s' :=
  h.mv (fun x i q => ok_use a o q.in.1 (Or.inl q.in.2)) k
/-- a place that no one reads yet -/
theorem CNc.up {V W : Vf} {b c p : Nat} {v : Int32} {s : St} (h : CNc V b s) (e : W = up2 V c p v) (hp : ¬ rdd b (s.2.1 0).length (s.2.1 1).length (s.2.1 2).length c p) : CNc W b s :=
  h.mv (fun x k q => by rw [e]; exact up2_pl (fun z => hp (by rw [z.1, z.2] at q; exact q))) keepC.rf
theorem CNc.fi {V W : Vf} {b o : Nat} {s : St} (h : CNc V b s) (f : frX (xI o) V W) (ho : 24 * b + (s.2.1 2).length ≤ o) : CNc W b s := by
  refine h.mv (fun x k q => f x k (by unfold rdd at q; omega) ?_) keepC.rf
  unfold xI
  unfold rdd at q
  by_cases c1 : 49 ≤ x ∧ x ≤ 57
  · rw [if_pos c1]
    left
    show k < o
    omega
  · rw [if_neg c1]
    by_cases c2 : 58 ≤ x ∧ x ≤ 60
    · rw [if_pos c2]
      left
      show k < 8 * o
      omega
    · rw [if_neg c2]
      by_cases c3 : x = 61
      · omega
      · rw [if_neg c3]
        exact Or.inr (Nat.zero_le _)
/-- the other BOOK -/
theorem CNc.fr {V W : Vf} {b b1 : Nat} {s : St} (h : CNc V b s) (f : frX (xR b1) V W) (hb : b ≠ b1) : CNc W b s := by
  have ln := h.1
  unfold LNb at ln
  refine h.mv (fun x k q => f x k (by unfold rdd at q; omega) ?_) keepC.rf
  unfold rdd at q
  unfold xR
  by_cases c1 : x = 45
  · rw [if_neg (by omega), if_neg (by omega), if_neg (by omega), if_pos c1]
    show k < 24 * b1 ∨ 24 * b1 + 24 ≤ k
    omega
  · by_cases c2 : x = 46 ∨ x = 47
    · rw [if_neg (by omega), if_neg (by omega), if_neg (by omega), if_neg c1, if_pos c2]
      show k < 12 * b1 ∨ 12 * b1 + 12 ≤ k
      omega
    · by_cases c3 : x ≤ 57
      · rw [if_neg (by omega), if_neg (by omega), if_neg (by omega), if_neg c1, if_neg c2, if_neg (by omega), if_pos c3]
        show k < 24 * b1 ∨ 24 * b1 + 24 ≤ k
        omega
      · rw [if_neg (by omega), if_neg (by omega), if_neg (by omega), if_neg c1, if_neg c2, if_neg (by omega), if_neg c3, if_pos (by omega)]
        show k < 192 * b1 ∨ 192 * b1 + 192 ≤ k
        omega
theorem lenB_s (f : Nat → List Int64) (t : Nat) (w : Int64) : (upB f t w t).length = (f t).length + 1 := by
  unfold upB
  rw [if_pos rfl, List.length_append]
  rfl
theorem lenB_o {f : Nat → List Int64} {t i : Nat} {w : Int64} (h : i ≠ t) : upB f t w i = f i := if_neg h
/-- a setting more -/
theorem CNc.se {V W : Vf} {b p v : Nat} {x : Int32} {s : St} {w : Int64} (h : CNc V b s) (e : W = up2 V 46 p x) (hp : p = 12 * b + (s.2.1 1).length) (hx : x.toInt = (v : Int)) (hl : (s.2.1 1).length < 12) : CNc W b (seS s w v) := by
  obtain ⟨h0, h1, h2, h3⟩ := h
  have l0 : ((seS s w v).2.1 0) = s.2.1 0 := (show upB s.2.1 1 w 0 = s.2.1 0 from lenB_o (by decide))
  have l1 : ((seS s w v).2.1 1).length = (s.2.1 1).length + 1 := (show (upB s.2.1 1 w 1).length = _ from lenB_s _ _ _)
  have l2 : ((seS s w v).2.1 2) = s.2.1 2 := (show upB s.2.1 1 w 2 = s.2.1 2 from lenB_o (by decide))
  have n : ∀ i, i ≠ 10 + (s.2.1 1).length → (seS s w v).1 i = s.1 i := fun i hi => upN_o _ _ _ hi
  have m : (seS s w v).1 (10 + (s.2.1 1).length) = v := upN_s _ _ _
  unfold LNb at h0
  unfold CNc LNb SEc TYc COc
  rw [l0, l1, l2]
  refine ⟨by omega, fun i hi => ?_, fun t ht g hg => ?_, fun c hc => ?_⟩
  · by_cases c : i = (s.2.1 1).length
    · subst c
      rw [m, ← hp, up2_s e]
      exact hx
    · rw [n _ (by omega), up2_k e (by omega)]
      exact h1 i (by omega)
  · rw [n _ (by omega), up2_o e (by decide)]
    exact h2 t ht g hg
  · exact (h3 c hc).mv (fun x a1 a2 => up2_o e (by omega)) (fun x j a1 a2 hj => up2_o e (by omega)) (fun i hi => n i (by omega))
/-- a type more -/
theorem CNc.ty {V W : Vf} {b p : Nat} {x : Int32} {s : St} {w : Int64} {l : List Nat} (h : CNc V b s) (e : W = up2 V 45 p x) (hp : p = 24 * b + (s.2.1 0).length) (hx : ∀ g, g < 24 → bt x g = (msk s.1 l ||| 2 ^ (s.2.1 0).length).testBit g) (hl : (s.2.1 0).length < 24) : CNc W b (tyS s w l) := by
  obtain ⟨h0, h1, h2, h3⟩ := h
  have l0 : ((tyS s w l).2.1 0).length = (s.2.1 0).length + 1 := (show (upB s.2.1 0 w 0).length = _ from lenB_s _ _ _)
  have l1 : ((tyS s w l).2.1 1) = s.2.1 1 := (show upB s.2.1 0 w 1 = s.2.1 1 from lenB_o (by decide))
  have l2 : ((tyS s w l).2.1 2) = s.2.1 2 := (show upB s.2.1 0 w 2 = s.2.1 2 from lenB_o (by decide))
  have n : ∀ i, i ≠ 30 + (s.2.1 0).length → (tyS s w l).1 i = s.1 i := fun i hi => upN_o _ _ _ hi
  have m : (tyS s w l).1 (30 + (s.2.1 0).length) = msk s.1 l ||| 2 ^ (s.2.1 0).length := upN_s _ _ _
  unfold LNb at h0
  unfold CNc LNb SEc TYc COc
  rw [l0, l1, l2]
  refine ⟨by omega, fun i hi => ?_, fun t ht g hg => ?_, fun c hc => ?_⟩
  · rw [n _ (by omega), up2_o e (by decide)]
    exact h1 i hi
  · by_cases c : t = (s.2.1 0).length
    · subst c
      rw [m, ← hp, up2_s e]
      exact hx g hg
    · rw [n _ (by omega), up2_k e (by omega)]
      exact h2 t (by omega) g hg
  · exact (h3 c hc).mv (fun x a1 a2 => up2_o e (by omega)) (fun x j a1 a2 hj => up2_o e (by omega)) (fun i hi => n i (by omega))
/-- its set -/
theorem UND.ty {x y z3 z4 : Int32} {f : Nat → Nat} {l : List Nat} {t : Nat} (h : UND x f l) (e3 : z3 = 1 <<< (y &&& 31)) (e4 : z4 = x ||| z3) (hy : y.toInt = (t : Int)) (ht : t < 24) : ∀ g, g < 24 → bt z4 g = (msk f l ||| 2 ^ t).testBit g := fun g hg => by
  rw [Nat.testBit_or, Nat.testBit_two_pow, ← h g hg]
  have z := lb_set e3 e4 hy ht hg
  cases c : bt z4 g with
  | true =>
    rcases z.mp c with d | d
    · rw [d, decide_eq_true rfl, Bool.or_true]
    · rw [d, Bool.true_or]
  | false =>
    have d1 : ¬ g = t := fun q => by rw [z.mpr (Or.inl q)] at c; cases c
    have d2 : bt x g = false := by
      cases d : bt x g with
      | true => rw [z.mpr (Or.inr d)] at c; cases c
      | false => rfl
    rw [d2, decide_eq_false (fun q => d1 q.symm)]
    rfl
/-- a component more -/
theorem CNc.nm {V : Vf} {b o m : Nat} {sc : Int} {ca ra ws wv : Nat} {s : St} {w : Int64} (h : CNc V b s) (ho : o = 24 * b + (s.2.1 2).length) (hd : HDr V o m sc.toNat ca ra ws wv) (n0 : (V 49 o).toInt = 0) (hl : (s.2.1 2).length < 24) : CNc V b (nmS s m sc w [wv, ws, ra, ca]) := by
  obtain ⟨h0, h1, h2, h3⟩ := h
  have l0 : ((nmS s m sc w [wv, ws, ra, ca]).2.1 0) = s.2.1 0 := (show upB s.2.1 2 w 0 = s.2.1 0 from lenB_o (by decide))
  have l1 : ((nmS s m sc w [wv, ws, ra, ca]).2.1 1) = s.2.1 1 := (show upB s.2.1 2 w 1 = s.2.1 1 from lenB_o (by decide))
  have l2 : ((nmS s m sc w [wv, ws, ra, ca]).2.1 2).length = (s.2.1 2).length + 1 := (show (upB s.2.1 2 w 2).length = _ from lenB_s _ _ _)
  have n : ∀ i, i < 60 + 8 * (s.2.1 2).length ∨ 68 + 8 * (s.2.1 2).length ≤ i → (nmS s m sc w [wv, ws, ra, ca]).1 i = s.1 i := fun i hi => hdr_o hi
  have q : ∀ r, r < 8 → (nmS s m sc w [wv, ws, ra, ca]).1 (60 + 8 * (s.2.1 2).length + r) = hvl m sc.toNat [wv, ws, ra, ca] r := fun r hr => hdr_i hr
  unfold LNb at h0
  unfold CNc LNb SEc TYc COc
  rw [l0, l1, l2]
  refine ⟨by omega, fun i hi => ?_, fun t ht g hg => ?_, fun c hc => ?_⟩
  · rw [n _ (by omega)]
    exact h1 i hi
  · rw [n _ (by omega)]
    exact h2 t ht g hg
  · by_cases e : c = (s.2.1 2).length
    · subst e
      have q0 := q 0 (by decide)
      have q1 := q 1 (by decide)
      have q2 := q 2 (by decide)
      have q3 := q 3 (by decide)
      have q4 := q 4 (by decide)
      have q5 := q 5 (by decide)
      have q6 := q 6 (by decide)
      unfold COr
      rw [show 60 + 8 * (s.2.1 2).length = 60 + 8 * (s.2.1 2).length + 0 from rfl, q0, show 61 + 8 * (s.2.1 2).length = 60 + 8 * (s.2.1 2).length + 1 from by omega, q1, show 62 + 8 * (s.2.1 2).length = 60 + 8 * (s.2.1 2).length + 2 from by omega, q2, show 63 + 8 * (s.2.1 2).length = 60 + 8 * (s.2.1 2).length + 3 from by omega, q3, show 64 + 8 * (s.2.1 2).length = 60 + 8 * (s.2.1 2).length + 4 from by omega, q4, show 65 + 8 * (s.2.1 2).length = 60 + 8 * (s.2.1 2).length + 5 from by omega, q5, show 66 + 8 * (s.2.1 2).length = 60 + 8 * (s.2.1 2).length + 6 from by omega, q6, ← ho]
      exact ⟨hd, n0, Nat.zero_le _, fun j hj => absurd hj (Nat.not_lt_zero _)⟩
    · have z := h3 c (by omega)
      have nn : ∀ i, (60 ≤ i ∧ i < 60 + 8 * (s.2.1 2).length ∨ 68 + 8 * (s.2.1 2).length ≤ i) → (nmS s m sc w [wv, ws, ra, ca]).1 i = s.1 i := fun i hi => n i (by omega)
      unfold COr at z ⊢
      rw [n _ (by omega), n _ (by omega), n _ (by omega), n _ (by omega), n _ (by omega), n _ (by omega), n _ (by omega)]
      refine ⟨z.1, z.2.1, z.2.2.1, fun j hj => ?_⟩
      have y := z.2.2.2 j hj
      have y3 := z.2.2.1
      unfold NEr at y ⊢
      rw [n (300 + 32 * c + 4 * j) (by omega), n (301 + 32 * c + 4 * j) (by omega), n (302 + 32 * c + 4 * j) (by omega)]
      exact y
/-- a need more -/
theorem CNc.nd {V W : Vf} {b o f ca : Nat} {a : Int} {s : St} (h : CNc V b s) (ho : o + 1 = 24 * b + (s.2.1 2).length) (hb : 24 * b ≤ o) (h1 : (V 49 o).toInt = ((s.1 1 : Nat) : Int)) (h8 : s.1 1 < 8) (e45 : W 45 = V 45) (e46 : W 46 = V 46) (e50 : ∀ x, 50 ≤ x → x ≤ 55 → W x = V x) (e49 : ∀ k, k ≠ o → W 49 k = V 49 k) (n49 : (W 49 o).toInt = (V 49 o).toInt + 1) (e58 : ∀ x k, 58 ≤ x → x ≤ 60 → k ≠ 8 * o + s.1 1 → W x k = V x k) (c58 : (W 58 (8 * o + s.1 1)).toInt = (f : Int)) (c60 : (W 60 (8 * o + s.1 1)).toInt = ((a.toNat : Nat) : Int)) (c59 : (W 59 (8 * o + s.1 1)).toInt + 1 = (ca : Int)) (hf : f < 24) : CNc W b (ndS s a f ca) := by
  obtain ⟨h0, hs, ht, hc⟩ := h
  have l24 := h0.2.2
  obtain ⟨c0, ec⟩ : ∃ c0, c0 + 1 = (s.2.1 2).length := ⟨(s.2.1 2).length - 1, by omega⟩
  have ec2 : (s.2.1 2).length - 1 = c0 := by omega
  have eo : o = 24 * b + c0 := by omega
  have e66 : s.1 (66 + 8 * c0) = s.1 1 := by
    have z := (hc c0 (by omega)).2.1
    rw [← eo] at z
    omega
  have num : ∀ i, (ndS s a f ca).1 i = ndf s.1 c0 a.toNat f ca i := fun i => by
    show ndf s.1 ((s.2.1 2).length - 1) a.toNat f ca i = _
    rw [ec2]
  refine ⟨h0, fun i hi => ?_, fun t ht' g hg => ?_, fun c hc' => ?_⟩
  · have l1 : i < 12 := Nat.lt_of_lt_of_le hi h0.2.1
    rw [num, ndf_lo (by omega) (by omega), e46]
    exact hs i hi
  · have l1 : t < 24 := Nat.lt_of_lt_of_le ht' h0.1
    rw [num, ndf_lo (by omega) (by omega), e45]
    exact ht t ht' g hg
  · have hc2 : c < (s.2.1 2).length := hc'
    have z := hc c hc2
    have hd : HDr W (24 * b + c) (s.1 (60 + 8 * c)) (s.1 (61 + 8 * c)) (s.1 (62 + 8 * c)) (s.1 (63 + 8 * c)) (s.1 (64 + 8 * c)) (s.1 (65 + 8 * c)) := by
      have z1 := z.1
      unfold HDr at z1 ⊢
      rw [e50 50 (by decide) (by decide), e50 51 (by decide) (by decide), e50 52 (by decide) (by decide), e50 53 (by decide) (by decide), e50 54 (by decide) (by decide), e50 55 (by decide) (by decide)]
      exact z1
    have hn : ∀ r, r < 6 → (ndS s a f ca).1 (60 + r + 8 * c) = s.1 (60 + r + 8 * c) := fun r hr => by
      rw [num, ndf_h (by omega) (by omega) (by omega)]
    have g0 : (ndS s a f ca).1 (60 + 8 * c) = s.1 (60 + 8 * c) := hn 0 (by decide)
    have g1 : (ndS s a f ca).1 (61 + 8 * c) = s.1 (61 + 8 * c) := hn 1 (by decide)
    have g2 : (ndS s a f ca).1 (62 + 8 * c) = s.1 (62 + 8 * c) := hn 2 (by decide)
    have g3 : (ndS s a f ca).1 (63 + 8 * c) = s.1 (63 + 8 * c) := hn 3 (by decide)
    have g4 : (ndS s a f ca).1 (64 + 8 * c) = s.1 (64 + 8 * c) := hn 4 (by decide)
    have g5 : (ndS s a f ca).1 (65 + 8 * c) = s.1 (65 + 8 * c) := hn 5 (by decide)
    unfold COr
    rw [g0, g1, g2, g3, g4, g5]
    refine ⟨hd, ?_⟩
    by_cases q : c = c0
    · subst q
      rw [num, ndf_n, ← eo]
      refine ⟨by rw [n49, h1]; omega, by omega, fun j hj => ?_⟩
      unfold NEr
      by_cases d : j = s.1 1
      · subst d
        rw [num, num, num, ndf_t (by omega), ndf_k (by omega), ndf_w (by omega)]
        exact ⟨c58, c60, c59, hf⟩
      · have y := z.2.2.2 j (by omega)
        unfold NEr at y
        rw [← eo] at y
        rw [num (300 + 32 * c + 4 * j), num (301 + 32 * c + 4 * j), num (302 + 32 * c + 4 * j), ndf_o (i := 300 + 32 * c + 4 * j) (by omega) (by omega) (by omega), ndf_o (i := 301 + 32 * c + 4 * j) (by omega) (by omega) (by omega), ndf_o (i := 302 + 32 * c + 4 * j) (by omega) (by omega) (by omega), e58 58 _ (by decide) (by decide) (by omega), e58 59 _ (by decide) (by decide) (by omega), e58 60 _ (by decide) (by decide) (by omega)]
        exact y
    · have k6 : (ndS s a f ca).1 (66 + 8 * c) = s.1 (66 + 8 * c) := by
        rw [num, ndf_h (by omega) (by omega) (by omega)]
      rw [k6, e49 _ (by omega)]
      refine ⟨z.2.1, z.2.2.1, fun j hj => ?_⟩
      have y := z.2.2.2 j hj
      have y3 := z.2.2.1
      unfold NEr at y ⊢
      rw [num (300 + 32 * c + 4 * j), num (301 + 32 * c + 4 * j), num (302 + 32 * c + 4 * j), ndf_o (i := 300 + 32 * c + 4 * j) (by omega) (by omega) (by omega), ndf_o (i := 301 + 32 * c + 4 * j) (by omega) (by omega) (by omega), ndf_o (i := 302 + 32 * c + 4 * j) (by omega) (by omega) (by omega), e58 58 _ (by decide) (by decide) (by omega), e58 59 _ (by decide) (by decide) (by omega), e58 60 _ (by decide) (by decide) (by omega)]
      exact y
/-- numbers from 5 on are no matter of the relation -/
theorem RelC.nu {V : Vf} {L : Lf} {b : Nat} {T : Tk} {s s' : St} (h : RelC V L b T s) (e : ∀ i, i < 5 → s'.1 i = s.1 i) (e2 : s'.2 = s.2) : RelC V L b T s' := by
  obtain ⟨a, c⟩ := s
  obtain ⟨a', c'⟩ := s'
  have e3 : c' = c := e2
  subst e3
  refine ⟨?_, h.2.1, h.2.2.1, h.2.2.2.1, fun q => ?_⟩
  · have z := h.1
    rw [← e 0 (by decide)] at z
    exact z
  · have z := h.2.2.2.2 q
    refine ⟨?_, ?_, ?_, ?_, z.2.2.2.2⟩
    · rw [e 1 (by decide)]
      exact z.1
    · rw [e 2 (by decide)]
      exact z.2.1
    · rw [e 3 (by decide)]
      exact z.2.2.1
    · rw [e 4 (by decide)]
      exact z.2.2.2.1
theorem OWr.nu {V : Vf} {o : Nat} {s s' : St} (h : OWr V o s) (e : ∀ i, i < 5 → s'.1 i = s.1 i) (e2 : s'.2 = s.2) : OWr V o s' := by
  unfold OWr at h ⊢
  rw [e 1 (by decide), e 2 (by decide), e 3 (by decide), e 4 (by decide), e2]
  exact h
theorem tyS_5 {s : St} {w : Int64} {l : List Nat} : ∀ i, i < 5 → (tyS s w l).1 i = (sA s 0 w).1 i := fun i hi => upN_o _ _ _ (by omega)
theorem seS_5 {s : St} {w : Int64} {v : Nat} : ∀ i, i < 5 → (seS s w v).1 i = (sA s 1 w).1 i := fun i hi => upN_o _ _ _ (by omega)
theorem nmS_5 {s : St} {m : Nat} {sc : Int} {w : Int64} {l : List Nat} : ∀ i, i < 5 → (nmS s m sc w l).1 i = (sA s 2 w).1 i := fun i hi => hdr_o (by omega)
theorem ndS_5 {s : St} {a : Int} {f ca : Nat} : ∀ i, i < 5 → (ndS s a f ca).1 i = (sN s 1 (s.1 1 + 1)).1 i := fun i hi => by
  by_cases c : i = 1
  · subst c
    show ndf s.1 ((s.2.1 2).length - 1) a.toNat f ca 1 = upN s.1 1 (s.1 1 + 1) 1
    rw [ndf_1, upN_s]
  · show ndf s.1 ((s.2.1 2).length - 1) a.toNat f ca i = upN s.1 1 (s.1 1 + 1) i
    rw [ndf_lo c (by omega), upN_o _ _ _ c]
/-- a list of types was read -/
abbrev RdT (T : Tk) (s : St) (c : Int) (w : Int64) (r flt : Int) (P : St → List Nat → Prop) : Prop := (r = 1 ∧ ∃ (s' : St) (sn : List Nat), (∀ k, Rc T (Crun s (Itypes c w 0 [] :: k)) (Crun s' (ItyD c w sn :: k))) ∧ P s' sn) ∨ (r = 0 ∧ ∀ k, Rc T (Crun s (Itypes c w 0 [] :: k)) (Cbad flt))
/-- a component's head was read: called, rank, when -/
abbrev RdH (T : Tk) (s : St) (m : Nat) (sc : Int) (w : Int64) (r flt : Int) (P : St → Nat → Nat → Nat → Nat → Prop) : Prop := (r = 1 ∧ ∃ (s' : St) (ca ra ws wv : Nat), (∀ k, Rc T (Crun s (IcalledH m sc w :: k)) (Crun s' (Itake 123 :: IaddNm m sc w [wv, ws, ra, ca] :: Imember :: k))) ∧ P s' ca ra ws wv) ∨ (r = 0 ∧ ∀ k, Rc T (Crun s (IcalledH m sc w :: k)) (Cbad flt))
/-- the owner is the last -/
def OWl (V : Vf) (b : Nat) (s : St) : Prop := 0 ≤ (V 1 2).toInt → (V 1 2).toInt + 1 = 24 * (b : Int) + (((s.2.1 2).length : Nat) : Int)
def CNo (V : Vf) (b : Nat) (s : St) : Prop := CNc V b s ∧ OWl V b s
theorem OWl.mv {V W : Vf} {b : Nat} {s s' : St} (h : OWl V b s) (e : W 1 2 = V 1 2) (k : keepC s s') : OWl W b s' := by
  unfold OWl at h ⊢
  rw [e, k.2 2 (by decide)]
  exact h
theorem OWl.n {V : Vf} {b : Nat} {s : St} (h : (V 1 2).toInt < 0) : OWl V b s := fun q => absurd q (by omega)


abbrev r_x_takeTypes3 : Room := { frames := 2, cells := 0, slots := 0, locals := 43 }
abbrev q_x_takeTypes3 (D : va_G) (ks : KS) (ad : Nat → Nat) (kk : Nat → ClassId) (V : Vf) (L : Lf) (Z : XZ) (b : Nat) (gT : Tk) (gs : St) (gy : Int) (gw : Int64) (A : Nat → Prop) : Array Value → State → Outcome → State → Prop := va_Qi (fun (r : Int32) (u : Vf × Lf) => rgd bX u.1 ∧ agr [(1, 3), (1, 6), (1, 7), (6, 8), (6, 9), (6, 10)] [] V u.1 ∧ agL [6] L u.2 ∧ (0 ≤ r.toInt ∧ r.toInt ≤ 1) ∧ (RdT gT gs gy gw r.toInt (u.1 1 3).toInt (fun s9 sn => RelC u.1 u.2 b gT s9 ∧ keepS gs 1 s9 ∧ UND (u.1 1 7) gs.1 sn))) (fun u t => gq D A (xw ad kk u.1 u.2 Z) (xty kk Z) t) A
set_option maxHeartbeats 4000000 in
set_option maxRecDepth 100000 in
theorem x_takeTypes3 (l : Launch) (D : va_G) (ks : KS) (sz : Nat) (ad : Nat → Nat) (kk : Nat → ClassId) (V : Vf) (L : Lf) (Z : XZ) (b : Nat) (gT : Tk) (gs : St) (gy : Int) (gw : Int64) (hMV : rgd bX V) (hb2 : b < 2) (rbk : (V 1 1).toInt = (b : Int)) (rel : RelC V L b gT gs) (tyc : TYc V b gs)  : Met l yX1_takeTypes (Cond.code yX1_takeTypes cX1_takeTypes 3 (some .boolean) :: GW) r_x_takeTypes3 (va_Pc [.ref (ad 1)] (gp D ks (xw ad kk V L Z) (xty kk Z) sz)) (q_x_takeTypes3 D ks ad kk V L Z  b gT gs gy gw (va_A (xw ad kk V L Z) sz)) 0 0 (va_A (xw ad kk V L Z) sz) := by
  refine g_met (q_x_takeTypes3 D ks ad kk V L Z  b gT gs gy gw) (by decide) (Nat.le_of_ble_eq_true rfl) ?_
  intro p e s m below meth c A ls H locs hx hb hr hml hown hg hlocks hin hnw hgk hP hK hD hS hA hl
  have hown : s.vm.findClass RX1 = some m.cls := hown
  have hl : lv_has ls 3 [(0, .ref (ad 1))] := hl
  have hP : va_P D vwCl (xw ad kk V L Z) H := hP
  have hD : va_D A (xw ad kk V L Z) := hD
  have hK : va_K D vwCl (xty kk Z) s := hK
  have agV : agr [(1, 3), (1, 6), (1, 7), (6, 8), (6, 9), (6, 10)] [] V V := agr.rf
  have alL : agL [6] L L := agL.rf
  have r1 : (-1) ≤ ((V 1 1)).toInt ∧ ((V 1 1)).toInt ≤ 1 := hMV 1 1
  refine lv_iconst (v := 0) hx hb dX1_takeTypes_0 (by decide) ?_
  refine lv_istore_n (lv' := [(1, .int 0), (0, .ref (ad 1))]) hx hb dX1_takeTypes_1 rfl hl (by decide) rfl (fun ls hl => ?_)
  refine lv_aload_n hx hb dX1_takeTypes_2 rfl (lv_at hl 1 rfl) ?_
  refine lv_iconst (v := 0) hx hb dX1_takeTypes_3 (by decide) ?_
  refine va_put (D := D) (ci := 1) (v := .int 0) (ty := tyX1 7) (fs := (xfReader ad V L Z)) (C := RX1) (T := TX1) (N := 9) hx hb hg inX1 tyX1 tyX1_ok nmX1 hown hK hP hD hS 1 xgReader rfl 7 (by decide) (hg _ w311) (fun _ h9 => h9) rfl (tyX1_ok 7 (by decide)) rfl rfl (Nat.le_of_ble_eq_true rfl) dX1_takeTypes_4 (fun H locs hP hD hS => ?_)
  obtain ⟨V2, hV2⟩ : ∃ z, z = up2 V 1 7 0 := ⟨_, rfl⟩
  have ew3 : (xw ad kk V L Z).set 1 ((ad 1), .inr (1, (xfReader ad V L Z).set 7 (.int 0))) = xw ad kk V2 L Z := by rw [hV2]; exact xw_ss (by decide) rfl (xb_si (by decide))
  have hP : va_P D vwCl (xw ad kk V2 L Z) H := by rw [← ew3]; exact hP
  have hD : va_D A (xw ad kk V2 L Z) := by rw [← ew3]; exact hD
  have hMV2 : rgd bX V2 := hMV.put hV2 (i_full _)
  have agV2 : agr [(1, 3), (1, 6), (1, 7), (6, 8), (6, 9), (6, 10)] [] V V2 := agV.up hV2 rfl
  refine lv_iconst (v := 0) hx hb dX1_takeTypes_7 (by decide) ?_
  refine lv_istore_n (lv' := [(2, .int 0), (1, .int 0), (0, .ref (ad 1))]) hx hb dX1_takeTypes_8 rfl hl (by decide) rfl (fun ls hl => ?_)
  have lp8 : ∀ (fulp8 : Nat) (y4 : Int32) (y5 : Int32) (V6 : Vf) (L7 : Lf) (H : Heap) (locs : List Loc) (ls : Array Slot), 0 ≤ y4.toInt ∧ y4.toInt ≤ 6 → (∃ (s1 : St) (sn : List Nat), (∀ k, Rc gT (Crun gs (Itypes gy gw 0 [] :: k)) (Crun s1 (Itypes gy gw y4.toInt.toNat sn :: k))) ∧ RelC V6 L7 b gT s1 ∧ keepS gs 0 s1 ∧ SEEN y5 sn ∧ UND (V6 1 7) gs.1 sn) → (V6 1 1).toInt = (b : Int) → 7 - y4.toInt < (fulp8 : Int) → agL [6] L L7 → agr [(1, 3), (1, 6), (1, 7), (6, 8), (6, 9), (6, 10)] [] V2 V6 → rgd bX V6 → va_P D vwCl (xw ad kk V6 L7 Z) H → va_D A (xw ad kk V6 L7 Z) → va_S A s.heap H locs → lv_has ls 3 [(2, .int y4), (1, .int y5), (0, .ref (ad 1))] → W p l e r_x_takeTypes3 s m ([.ref (ad 1)] : List Value).toArray below meth c H locs 0 0 (MQ below (q_x_takeTypes3 D ks ad kk V L Z  b gT gs gy gw A) ([.ref (ad 1)] : List Value).toArray s 0 0 A) (F0 m 9 ls []) := by
    intro fulp8
    induction fulp8 with
    | zero =>
      intro y4 y5 V6 L7 H locs ls klp8_0 xlp8_0 xlp8_1 hn alL7 ajV6 hMV6 hP hD hS hl
      exfalso; omega
    | succ fulp8 ihlp8 =>
      intro y4 y5 V6 L7 H locs ls klp8_0 xlp8_0 xlp8_1 hn alL7 ajV6 hMV6 hP hD hS hl
      have agV6 : agr [(1, 3), (1, 6), (1, 7), (6, 8), (6, 9), (6, 10)] [] V V6 := agV2.tr ajV6 (by decide) (by decide)
      have pq9 : (V6 1 1).toInt = ((V 1 1)).toInt := congrArg Int32.toInt ((ajV6 1 1 rfl).trans (up2_k hV2 (by decide)))
      refine lv_iload_n hx hb dX1_takeTypes_9 rfl (lv_at hl 0 rfl) ?_
      obtain ⟨s1, sn, hq, rq, kq, sq, uq⟩ := xlp8_0
      refine lv_bipush (v := 6) hx hb dX1_takeTypes_10 (by decide) ?_
      refine lv_icmp_gt (tgt := 117) hx hb dX1_takeTypes_12 (by decide) (fun c10 => ?_) (fun c10 => ?_)
      · skip
        have f11 : 6 < y4.toInt := b_lt (by decide) rfl c10
        exfalso; omega
      · skip
        have f12 : y4.toInt ≤ 6 := b_nlt (by decide) rfl c10
        refine lv_aload_n hx hb dX1_takeTypes_15 rfl (lv_at hl 2 rfl) ?_
        refine gA_int (gA_runV (As := []) (rest := []) (ci := 1) (q0 := 1) hx hb hml hown hg hP hD hK hS hA hnw hgk (x_isToldType3 l D ks H.size ad kk V6 L7 Z (b) (gT) (s1) hMV6 (show b < 2 from by omega) (show (V6 1 1).toInt = (b : Int) from by omega) rq) w888 w890 w9 w162 w891 rfl xgReader hdV_yX1_isToldType ⟨Nat.le_of_ble_eq_true rfl, Nat.le_of_ble_eq_true rfl⟩ rfl hl.1 rfl (Nat.le_of_ble_eq_true rfl) dX1_takeTypes_16 ⟨Nat.le_of_ble_eq_true rfl, Nat.le_of_ble_eq_true rfl⟩) hP hD hK hS hA (fun z13 u14 H locs w15 hP hD hK hS => ?_)
        obtain ⟨V17, L18⟩ := u14
        obtain ⟨hMV17, ajV17, axL18, rgz13, t16⟩ := w15
        have axL18 : L7 = L18 := Eq.symm axL18
        subst axL18
        have hP : va_P D vwCl (xw ad kk V17 L7 Z) H := hP
        have hD : va_D A (xw ad kk V17 L7 Z) := hD
        have hMV17 : rgd bX V17 := hMV17
        have ajV17 : agr [(1, 3), (1, 6)] [] V6 V17 := ajV17
        have agV17 : agr [(1, 3), (1, 6), (1, 7), (6, 8), (6, 9), (6, 10)] [] V V17 := agV6.tr ajV17 (by decide) (by decide)
        have rgz13 : 0 ≤ z13.toInt ∧ z13.toInt ≤ 1 := rgz13
        have t16 : KcN (look gT s1 (s1.2.1 0)) z13.toInt (V17 1 3).toInt (fun f9 => RelC V17 L7 b gT s1 ∧ (V17 1 6).toInt = ((f9 : Nat) : Int) ∧ f9 < 24) := t16
        rcases t16 with ⟨q19, fx20, h21, rl22, hf23, hb24⟩ | ⟨q19, h21⟩
        · skip
          have kn25 := look_ne h21
          have kd26 : gT.1 (s1.1 0) = ((V6 6 9)).toInt := (RelC.kd rl22).trans (congrArg Int32.toInt (ajV17 6 9 rfl))
          refine lv_if_ne (tgt := 24) hx hb dX1_takeTypes_19 (by decide) (fun c27 => ?_) (fun c27 => ?_)
          · skip
            have f28 : z13.toInt ≠ 0 := b_neq rfl (by decide) c27
            refine lv_iload_n hx hb dX1_takeTypes_24 rfl (lv_at hl 1 rfl) ?_
            refine lv_aload_n hx hb dX1_takeTypes_25 rfl (lv_at hl 2 rfl) ?_
            refine va_get (D := D) (ci := 1) (v := .int (V17 1 6)) (fs := (xfReader ad V17 L7 Z)) (C := RX1) (T := TX1) (N := 9) hx hb hg inX1 hown hK hP 1 xgReader rfl 6 (by decide) (hg _ w310) (fun _ h9 => h9) rfl dX1_takeTypes_26 ?_
            have r29 : (-1) ≤ ((V17 1 6)).toInt ∧ ((V17 1 6)).toInt ≤ 23 := hMV17 1 6
            refine lv_ishr hx hb dX1_takeTypes_29 ?_
            refine lv_topi (fun z30 ez30 => ?_)
            refine lv_iconst (v := 1) hx hb dX1_takeTypes_30 (by decide) ?_
            refine lv_iand hx hb dX1_takeTypes_31 ?_
            refine lv_topi (fun z31 ez31 => ?_)
            have hz31 : 0 ≤ z31.toInt ∧ z31.toInt ≤ 1 := and_m ez31 (by decide)
            refine lv_if_eq (tgt := 41) hx hb dX1_takeTypes_32 (by decide) (fun c32 => ?_) (fun c32 => ?_)
            · skip
              have f33 : z31.toInt = 0 := b_eq rfl (by decide) c32
              refine lv_iload_n hx hb dX1_takeTypes_41 rfl (lv_at hl 0 rfl) ?_
              refine lv_bipush (v := 6) hx hb dX1_takeTypes_42 (by decide) ?_
              refine lv_icmp_ne (tgt := 53) hx hb dX1_takeTypes_44 (by decide) (fun c34 => ?_) (fun c34 => ?_)
              · skip
                have f35 : y4.toInt ≠ 6 := b_neq rfl (by decide) c34
                have nn36 : fx20 ∉ sn := (SEEN.no sq ez30 ez31 hf23 hb24 (by omega))
                have hr37 : ∀ k, Rc gT (Crun gs (Itypes gy gw 0 [] :: k)) (Crun (nx s1 1) (Imore gy gw (y4.toInt.toNat + 1) (fx20 :: sn) :: k)) := fun k => Rc.go1 (hq k) (ty_y h21 nn36 (by omega))
                refine lv_iload_n hx hb dX1_takeTypes_53 rfl (lv_at hl 1 rfl) ?_
                refine lv_iconst (v := 1) hx hb dX1_takeTypes_54 (by decide) ?_
                refine lv_aload_n hx hb dX1_takeTypes_55 rfl (lv_at hl 2 rfl) ?_
                refine va_get (D := D) (ci := 1) (v := .int (V17 1 6)) (fs := (xfReader ad V17 L7 Z)) (C := RX1) (T := TX1) (N := 9) hx hb hg inX1 hown hK hP 1 xgReader rfl 6 (by decide) (hg _ w310) (fun _ h9 => h9) rfl dX1_takeTypes_56 ?_
                refine lv_ishl hx hb dX1_takeTypes_59 ?_
                refine lv_topi (fun z38 ez38 => ?_)
                refine lv_ior hx hb dX1_takeTypes_60 ?_
                refine lv_topi (fun z39 ez39 => ?_)
                refine lv_istore_n (lv' := [(1, .int z39), (2, .int y4), (0, .ref (ad 1))]) hx hb dX1_takeTypes_61 rfl hl (by decide) rfl (fun ls hl => ?_)
                refine lv_aload_n hx hb dX1_takeTypes_62 rfl (lv_at hl 2 rfl) ?_
                refine lv_dup hx hb dX1_takeTypes_63 rfl ?_
                refine va_get (D := D) (ci := 1) (v := .int (V17 1 7)) (fs := (xfReader ad V17 L7 Z)) (C := RX1) (T := TX1) (N := 9) hx hb hg inX1 hown hK hP 1 xgReader rfl 7 (by decide) (hg _ w311) (fun _ h9 => h9) rfl dX1_takeTypes_64 ?_
                refine g_top (v := (V6 1 7)) (ajV17 1 7 rfl) ?_
                refine lv_aload_n hx hb dX1_takeTypes_67 rfl (lv_at hl 2 rfl) ?_
                refine va_get (D := D) (ci := 1) (v := rfN ad 38 (V17 1 1)) (fs := (xfReader ad V17 L7 Z)) (C := RX1) (T := TX1) (N := 9) hx hb hg inX1 hown hK hP 1 xgReader rfl 1 (by decide) (hg _ w305) (fun _ h9 => h9) rfl dX1_takeTypes_68 ?_
                have pq40 : (V17 1 1).toInt = ((V 1 1)).toInt := congrArg Int32.toInt ((ajV17 1 1 rfl).trans ((ajV6 1 1 rfl).trans (up2_k hV2 (by decide))))
                refine g_topv (v := .ref (ad (38 + b))) (rfN_r (by omega)) ?_
                refine va_getN (D := D) (ci := 0) (v := .ref (ad (60 + b))) (fs := (xfBook ad V17 b)) (C := RX0) (T := TX0) (N := 13) hx hb hg inX0 hown hK hP (38 + b) (xgBook hb2) rfl 5 (by decide) (hnw.use 609 n609 rfl) (fun _ h9 => h9) rfl dX1_takeTypes_71 ?_
                refine lv_aload_n hx hb dX1_takeTypes_74 rfl (lv_at hl 2 rfl) ?_
                refine va_get (D := D) (ci := 1) (v := .int (V17 1 6)) (fs := (xfReader ad V17 L7 Z)) (C := RX1) (T := TX1) (N := 9) hx hb hg inX1 hown hK hP 1 xgReader rfl 6 (by decide) (hg _ w310) (fun _ h9 => h9) rfl dX1_takeTypes_75 ?_
                have il41 : b < 2 := by omega
                refine va_iald (D := D) (i := (V17 1 6)) hx hb hK hP (60 + b) (53 + b) (xgtypeUnder il41) (xttypeUnder il41) (i_in (a := ((V17 1 6)).toInt) rfl (by omega)) dX1_takeTypes_78 ?_
                have kc42 := i_clamp (x := (V17 1 6)) rfl (by omega)
                refine g_top (v := V17 45 (24 * b + (Int32.toNatClampNeg (V17 1 6)))) (if_pos (by omega)) ?_
                refine g_top (v := (V 45 (24 * b + (Int32.toNatClampNeg (V17 1 6))))) ((ajV17 45 (24 * b + (Int32.toNatClampNeg (V17 1 6))) rfl).trans ((ajV6 45 (24 * b + (Int32.toNatClampNeg (V17 1 6))) rfl).trans (up2_o hV2 (by decide)))) ?_
                refine lv_ior hx hb dX1_takeTypes_79 ?_
                refine lv_topi (fun z43 ez43 => ?_)
                have lt9 : fx20 < (gs.2.1 0).length := by have h9 := look_lt h21; rw [((keepS.tr (keepS.rf : keepS gs 0 gs) kq)).2.2.1 0 (by decide)] at h9; exact h9
                have kf9 : Int32.toNatClampNeg (V17 1 6) = fx20 := by have h9 := i_clamp (x := (V17 1 6)) rfl (by omega); omega
                have un44 : UND z43 gs.1 (fx20 :: sn) := UND.add (t := fx20) (uq) ez43 (fun g hg => by rw [kf9]; exact tyc fx20 lt9 g hg)
                refine va_put (D := D) (ci := 1) (v := .int z43) (ty := tyX1 7) (fs := (xfReader ad V17 L7 Z)) (C := RX1) (T := TX1) (N := 9) hx hb hg inX1 tyX1 tyX1_ok nmX1 hown hK hP hD hS 1 xgReader rfl 7 (by decide) (hg _ w311) (fun _ h9 => h9) rfl (tyX1_ok 7 (by decide)) rfl rfl (Nat.le_of_ble_eq_true rfl) dX1_takeTypes_80 (fun H locs hP hD hS => ?_)
                obtain ⟨V45, hV45⟩ : ∃ z, z = up2 V17 1 7 z43 := ⟨_, rfl⟩
                have ew46 : (xw ad kk V17 L7 Z).set 1 ((ad 1), .inr (1, (xfReader ad V17 L7 Z).set 7 (.int z43))) = xw ad kk V45 L7 Z := by rw [hV45]; exact xw_ss (by decide) rfl (xb_si (by decide))
                have hP : va_P D vwCl (xw ad kk V45 L7 Z) H := by rw [← ew46]; exact hP
                have hD : va_D A (xw ad kk V45 L7 Z) := by rw [← ew46]; exact hD
                have hMV45 : rgd bX V45 := hMV17.put hV45 (i_full _)
                have agV45 : agr [(1, 3), (1, 6), (1, 7), (6, 8), (6, 9), (6, 10)] [] V V45 := agV17.up hV45 rfl
                refine lv_aload_n hx hb dX1_takeTypes_83 rfl (lv_at hl 2 rfl) ?_
                refine va_get (D := D) (ci := 1) (v := .ref (ad 6)) (fs := (xfReader ad V45 L7 Z)) (C := RX1) (T := TX1) (N := 9) hx hb hg inX1 hown hK hP 1 xgReader rfl 0 (by decide) (hg _ w304) (fun _ h9 => h9) rfl dX1_takeTypes_84 ?_
                have rl47 : RelC V45 L7 b gT s1 := RelC.ag rl22 (show agr [(1, 7)] [] V17 V45 from (agr.up agr.rf hV45 rfl)) (by decide) (show agL [] L7 L7 from agL.rf) (by decide)
                have l848 := RelC.l8 rl47
                have pq49 : (V45 6 8).toInt = ((V6 6 8)).toInt := congrArg Int32.toInt ((up2_o hV45 (by decide)).trans (ajV17 6 8 rfl))
                have r50 : 0 ≤ ((V6 6 8)).toInt ∧ ((V6 6 8)).toInt ≤ 4000 := hMV6 6 8
                have pq51 : (V45 6 7).toInt = ((V 6 7)).toInt := congrArg Int32.toInt ((up2_o hV45 (by decide)).trans ((ajV17 6 7 rfl).trans ((ajV6 6 7 rfl).trans (up2_o hV2 (by decide)))))
                have r52 : 0 ≤ ((V 6 7)).toInt ∧ ((V 6 7)).toInt ≤ 4000 := hMV 6 7
                have pq53 : (V45 6 9).toInt = ((V6 6 9)).toInt := congrArg Int32.toInt ((up2_o hV45 (by decide)).trans (ajV17 6 9 rfl))
                have lk54 := RelC.lk rl47 (show (V45 6 9).toInt ≠ 0 from by omega)
                refine gA_void (gA_runV (As := []) (rest := []) (ci := 9) (q0 := 6) hx hb hml hown hg hP hD hK hS hA hnw hgk (x_next2 l D ks H.size ad kk V45 L7 Z  hMV45 (show (V45 6 8).toInt ≤ (V45 6 7).toInt from by omega)) w871 w852 w853 w157 w854 rfl xgTape hdV_yX9_next ⟨Nat.le_of_ble_eq_true rfl, Nat.le_of_ble_eq_true rfl⟩ rfl hl.1 rfl (Nat.le_of_ble_eq_true rfl) dX1_takeTypes_87 ⟨Nat.le_of_ble_eq_true rfl, Nat.le_of_ble_eq_true rfl⟩) hP hD hK hS hA (fun u56 H locs w57 hP hD hK hS => ?_)
                obtain ⟨V60, L61⟩ := u56
                obtain ⟨hMV60, ajV60, axL61, t58, t59⟩ := w57
                have alL61 : agL [6] L L61 := agL.tr alL7 axL61 (by decide)
                have hP : va_P D vwCl (xw ad kk V60 L61 Z) H := hP
                have hD : va_D A (xw ad kk V60 L61 Z) := hD
                have hMV60 : rgd bX V60 := hMV60
                have ajV60 : agr [(6, 8), (6, 9), (6, 10)] [] V45 V60 := ajV60
                have agV60 : agr [(1, 3), (1, 6), (1, 7), (6, 8), (6, 9), (6, 10)] [] V V60 := agV45.tr ajV60 (by decide) (by decide)
                have t58 : (V60 6 8).toInt ≤ (V60 6 7).toInt := t58
                have t59 : CUR V60 L61 (Int32.toNatClampNeg (V45 6 8)) := t59
                have r62 : 0 ≤ ((V60 6 8)).toInt ∧ ((V60 6 8)).toInt ≤ 4000 := hMV60 6 8
                have pq63 : (V60 6 7).toInt = ((V 6 7)).toInt := congrArg Int32.toInt ((ajV60 6 7 rfl).trans ((up2_o hV45 (by decide)).trans ((ajV17 6 7 rfl).trans ((ajV6 6 7 rfl).trans (up2_o hV2 (by decide))))))
                have rl64 : RelC V60 L61 b gT (nx s1 1) := RelC.nx1 rl47 ajV60 (by decide) axL61 (by decide) (by rw [← lk54]; exact t59) (ajV60 1 3 rfl)
                refine lv_aload_n hx hb dX1_takeTypes_90 rfl (lv_at hl 2 rfl) ?_
                refine va_get (D := D) (ci := 1) (v := .ref (ad 6)) (fs := (xfReader ad V60 L61 Z)) (C := RX1) (T := TX1) (N := 9) hx hb hg inX1 hown hK hP 1 xgReader rfl 0 (by decide) (hg _ w304) (fun _ h9 => h9) rfl dX1_takeTypes_91 ?_
                refine va_getN (D := D) (ci := 9) (v := .int (V60 6 9)) (fs := (xfTape ad V60 L61 Z)) (C := RX9) (T := TX9) (N := 12) hx hb hg inX9 hown hK hP 6 xgTape rfl 9 (by decide) (hnw.use 262 n262 rfl) (fun _ h9 => h9) rfl dX1_takeTypes_94 ?_
                refine lv_bipush (v := 44) hx hb dX1_takeTypes_97 (by decide) ?_
                refine lv_icmp_eq (tgt := 104) hx hb dX1_takeTypes_99 (by decide) (fun c65 => ?_) (fun c65 => ?_)
                · skip
                  have f66 : ((V60 6 9)).toInt = 44 := b_eq rfl (by decide) c65
                  refine lv_aload_n hx hb dX1_takeTypes_104 rfl (lv_at hl 2 rfl) ?_
                  refine va_get (D := D) (ci := 1) (v := .ref (ad 6)) (fs := (xfReader ad V60 L61 Z)) (C := RX1) (T := TX1) (N := 9) hx hb hg inX1 hown hK hP 1 xgReader rfl 0 (by decide) (hg _ w304) (fun _ h9 => h9) rfl dX1_takeTypes_105 ?_
                  have kd67 : gT.1 ((nx s1 1).1 0) = ((V60 6 9)).toInt := RelC.kd rl64
                  have hr68 : ∀ k, Rc gT (Crun gs (Itypes gy gw 0 [] :: k)) (Crun (nx (nx s1 1) 1) (Itypes gy gw (y4.toInt.toNat + 1) (fx20 :: sn) :: k)) := fun k => Rc.go1 (hr37 k) (more_y gy gw (y4.toInt.toNat + 1) (fx20 :: sn) (kd67.trans f66))
                  have l869 := RelC.l8 rl64
                  have lk70 := RelC.lk rl64 (show (V60 6 9).toInt ≠ 0 from by omega)
                  refine gA_void (gA_runV (As := []) (rest := []) (ci := 9) (q0 := 6) hx hb hml hown hg hP hD hK hS hA hnw hgk (x_next2 l D ks H.size ad kk V60 L61 Z  hMV60 (show (V60 6 8).toInt ≤ (V60 6 7).toInt from by omega)) w871 w852 w853 w157 w854 rfl xgTape hdV_yX9_next ⟨Nat.le_of_ble_eq_true rfl, Nat.le_of_ble_eq_true rfl⟩ rfl hl.1 rfl (Nat.le_of_ble_eq_true rfl) dX1_takeTypes_108 ⟨Nat.le_of_ble_eq_true rfl, Nat.le_of_ble_eq_true rfl⟩) hP hD hK hS hA (fun u72 H locs w73 hP hD hK hS => ?_)
                  obtain ⟨V76, L77⟩ := u72
                  obtain ⟨hMV76, ajV76, axL77, t74, t75⟩ := w73
                  have alL77 : agL [6] L L77 := agL.tr alL61 axL77 (by decide)
                  have hP : va_P D vwCl (xw ad kk V76 L77 Z) H := hP
                  have hD : va_D A (xw ad kk V76 L77 Z) := hD
                  have hMV76 : rgd bX V76 := hMV76
                  have ajV76 : agr [(6, 8), (6, 9), (6, 10)] [] V60 V76 := ajV76
                  have agV76 : agr [(1, 3), (1, 6), (1, 7), (6, 8), (6, 9), (6, 10)] [] V V76 := agV60.tr ajV76 (by decide) (by decide)
                  have t74 : (V76 6 8).toInt ≤ (V76 6 7).toInt := t74
                  have t75 : CUR V76 L77 (Int32.toNatClampNeg (V60 6 8)) := t75
                  have r78 : 0 ≤ ((V76 6 8)).toInt ∧ ((V76 6 8)).toInt ≤ 4000 := hMV76 6 8
                  have pq79 : (V76 6 7).toInt = ((V 6 7)).toInt := congrArg Int32.toInt ((ajV76 6 7 rfl).trans ((ajV60 6 7 rfl).trans ((up2_o hV45 (by decide)).trans ((ajV17 6 7 rfl).trans ((ajV6 6 7 rfl).trans (up2_o hV2 (by decide)))))))
                  have rl80 : RelC V76 L77 b gT (nx (nx s1 1) 1) := RelC.nx1 rl64 ajV76 (by decide) axL77 (by decide) (by rw [← lk70]; exact t75) (ajV76 1 3 rfl)
                  obtain ⟨z81, ez81⟩ : ∃ y : Int32, y = y4 + 1 := ⟨_, rfl⟩
                  have hz81 : z81.toInt = y4.toInt + 1 := i_add ez81 rfl (by decide) (by omega)
                  refine lv_iinc (v := z81) (lv' := [(2, .int z81), (1, .int z39), (0, .ref (ad 1))]) hx hb dX1_takeTypes_111 hl (k := 1) rfl (by rw [ez81]; rfl) (by decide) rfl (fun ls hl => ?_)
                  refine lv_goto (tgt := 9) hx hb dX1_takeTypes_114 (by decide) ?_
                  have pq82 : (V76 1 1).toInt = ((V 1 1)).toInt := congrArg Int32.toInt ((ajV76 1 1 rfl).trans ((ajV60 1 1 rfl).trans ((up2_k hV45 (by decide)).trans ((ajV17 1 1 rfl).trans ((ajV6 1 1 rfl).trans (up2_k hV2 (by decide)))))))
                  exact ihlp8 z81 z39 V76 L77 H locs ls (by omega) ⟨(nx (nx s1 1) 1), (fx20 :: sn), (by rw [show z81.toInt.toNat = (y4.toInt.toNat + 1) from by omega]; exact hr68), rl80, keepS.le (keepS.tr (keepS.tr (keepS.tr (keepS.rf : keepS gs 0 gs) kq) (keepS.n1 1)) (keepS.n1 1)) (by decide), SEEN.add sq ez38 ez39 hf23 hb24, (show UND (V76 1 7) gs.1 _ from by rw [show V76 1 7 = z43 from ((ajV76 1 7 rfl).trans ((ajV60 1 7 rfl).trans (up2_s hV45)))]; exact un44)⟩ (show (V76 1 1).toInt = (b : Int) from by omega) (by omega) alL77 (agr.tr (agr.tr (agr.up (agr.tr (agr.tr agr.rf ajV6 (by decide) (by decide)) ajV17 (by decide) (by decide)) hV45 rfl) ajV60 (by decide) (by decide)) ajV76 (by decide) (by decide)) hMV76 hP hD hS (lv_sub hl [0, 1, 2] rfl)
                · skip
                  have f83 : ((V60 6 9)).toInt ≠ 44 := b_neq rfl (by decide) c65
                  refine lv_iconst (v := 1) hx hb dX1_takeTypes_102 (by decide) ?_
                  have kd84 : gT.1 ((nx s1 1).1 0) = ((V60 6 9)).toInt := RelC.kd rl64
                  have hr85 : ∀ k, Rc gT (Crun gs (Itypes gy gw 0 [] :: k)) (Crun (nx s1 1) (ItyD gy gw (fx20 :: sn) :: k)) := fun k => Rc.go1 (hr37 k) (more_n gy gw (y4.toInt.toNat + 1) (fx20 :: sn) (fun h9 => f83 (kd84.symm.trans h9)))
                  exact W.zret (v := 1) hx hb hr rfl (fun t ht hW => ⟨⟨1, (V60, L61), rfl, ⟨hMV60, agV60, alL61, (by decide), (Or.inl ⟨rfl, (nx s1 1), (fx20 :: sn), hr85, rl64, keepS.le (keepS.tr (keepS.tr (keepS.rf : keepS gs 0 gs) kq) (keepS.n1 1)) (by decide), (show UND (V60 1 7) gs.1 _ from by rw [show V60 1 7 = z43 from ((ajV60 1 7 rfl).trans (up2_s hV45))]; exact un44)⟩)⟩, by rw [ht]; exact hP, va_K.moved hW.alike hK, hD⟩, hS.F ht⟩) hS.2.2 dX1_takeTypes_103
              · skip
                have f86 : y4.toInt = 6 := b_eq rfl (by decide) c34
                refine lv_aload_n hx hb dX1_takeTypes_47 rfl (lv_at hl 2 rfl) ?_
                refine lv_iconst (v := 5) hx hb dX1_takeTypes_48 (by decide) ?_
                have r87 : Int32.toInt 5 = 5 := by decide
                refine gA_int (gA_runV (As := [.int 5]) (rest := []) (ci := 1) (q0 := 1) hx hb hml hown hg hP hD hK hS hA hnw hgk (x_wrong2 l D ks H.size ad kk V17 L7 Z 5 hMV17 (by decide)) w867 w869 w6 w162 w870 rfl xgReader hdV_yX1_wrong ⟨Nat.le_of_ble_eq_true rfl, Nat.le_of_ble_eq_true rfl⟩ rfl hl.1 rfl (Nat.le_of_ble_eq_true rfl) dX1_takeTypes_49 ⟨Nat.le_of_ble_eq_true rfl, Nat.le_of_ble_eq_true rfl⟩) hP hD hK hS hA (fun z88 u89 H locs w90 hP hD hK hS => ?_)
                obtain ⟨V93, L94⟩ := u89
                obtain ⟨hMV93, ajV93, axL94, rgz88, t91, t92⟩ := w90
                have axL94 : L7 = L94 := Eq.symm axL94
                subst axL94
                have hP : va_P D vwCl (xw ad kk V93 L7 Z) H := hP
                have hD : va_D A (xw ad kk V93 L7 Z) := hD
                have hMV93 : rgd bX V93 := hMV93
                have ajV93 : agr [(1, 3)] [] V17 V93 := ajV93
                have agV93 : agr [(1, 3), (1, 6), (1, 7), (6, 8), (6, 9), (6, 10)] [] V V93 := agV17.tr ajV93 (by decide) (by decide)
                have rgz88 : 0 ≤ z88.toInt ∧ z88.toInt ≤ 0 := rgz88
                have t91 : 1 ≤ (V93 1 3).toInt := t91
                have t92 : (V93 1 3).toInt = (Int32.toInt 5) + 16 * (V17 6 10).toInt := t92
                have pq95 : (V17 6 10).toInt = ((V6 6 10)).toInt := congrArg Int32.toInt (ajV17 6 10 rfl)
                have r96 : 0 ≤ ((V6 6 10)).toInt ∧ ((V6 6 10)).toInt ≤ 4000 := hMV6 6 10
                have hb97 : ∀ k, Rc gT (Crun gs (Itypes gy gw 0 [] :: k)) (Cbad (V93 1 3).toInt) := fun k => Rc.go1 (hq k) ((ty_5 h21 (SEEN.no sq ez30 ez31 hf23 hb24 (by omega)) (by omega)).trans (fl_eq (RelC.st rl22) (show (V93 1 3).toInt = 5 + 16 * (V17 6 10).toInt from by omega)))
                exact W.zret (v := z88) hx hb hr (nb_ok (by omega)) (fun t ht hW => ⟨⟨z88, (V93, L7), rfl, ⟨hMV93, agV93, alL7, (show 0 ≤ z88.toInt ∧ z88.toInt ≤ 1 from by omega), (Or.inr ⟨(by omega), hb97⟩)⟩, by rw [ht]; exact hP, va_K.moved hW.alike hK, hD⟩, hS.F ht⟩) hS.2.2 dX1_takeTypes_52
            · skip
              have f98 : z31.toInt ≠ 0 := b_neq rfl (by decide) c32
              refine lv_aload_n hx hb dX1_takeTypes_35 rfl (lv_at hl 2 rfl) ?_
              refine lv_iconst (v := 3) hx hb dX1_takeTypes_36 (by decide) ?_
              have r99 : Int32.toInt 3 = 3 := by decide
              refine gA_int (gA_runV (As := [.int 3]) (rest := []) (ci := 1) (q0 := 1) hx hb hml hown hg hP hD hK hS hA hnw hgk (x_wrong2 l D ks H.size ad kk V17 L7 Z 3 hMV17 (by decide)) w867 w869 w6 w162 w870 rfl xgReader hdV_yX1_wrong ⟨Nat.le_of_ble_eq_true rfl, Nat.le_of_ble_eq_true rfl⟩ rfl hl.1 rfl (Nat.le_of_ble_eq_true rfl) dX1_takeTypes_37 ⟨Nat.le_of_ble_eq_true rfl, Nat.le_of_ble_eq_true rfl⟩) hP hD hK hS hA (fun z100 u101 H locs w102 hP hD hK hS => ?_)
              obtain ⟨V105, L106⟩ := u101
              obtain ⟨hMV105, ajV105, axL106, rgz100, t103, t104⟩ := w102
              have axL106 : L7 = L106 := Eq.symm axL106
              subst axL106
              have hP : va_P D vwCl (xw ad kk V105 L7 Z) H := hP
              have hD : va_D A (xw ad kk V105 L7 Z) := hD
              have hMV105 : rgd bX V105 := hMV105
              have ajV105 : agr [(1, 3)] [] V17 V105 := ajV105
              have agV105 : agr [(1, 3), (1, 6), (1, 7), (6, 8), (6, 9), (6, 10)] [] V V105 := agV17.tr ajV105 (by decide) (by decide)
              have rgz100 : 0 ≤ z100.toInt ∧ z100.toInt ≤ 0 := rgz100
              have t103 : 1 ≤ (V105 1 3).toInt := t103
              have t104 : (V105 1 3).toInt = (Int32.toInt 3) + 16 * (V17 6 10).toInt := t104
              have pq107 : (V17 6 10).toInt = ((V6 6 10)).toInt := congrArg Int32.toInt (ajV17 6 10 rfl)
              have r108 : 0 ≤ ((V6 6 10)).toInt ∧ ((V6 6 10)).toInt ≤ 4000 := hMV6 6 10
              have hb109 : ∀ k, Rc gT (Crun gs (Itypes gy gw 0 [] :: k)) (Cbad (V105 1 3).toInt) := fun k => Rc.go1 (hq k) ((ty_3 h21 (SEEN.yes sq ez30 ez31 hf23 hb24 (by omega))).trans (fl_eq (RelC.st rl22) (show (V105 1 3).toInt = 3 + 16 * (V17 6 10).toInt from by omega)))
              exact W.zret (v := z100) hx hb hr (nb_ok (by omega)) (fun t ht hW => ⟨⟨z100, (V105, L7), rfl, ⟨hMV105, agV105, alL7, (show 0 ≤ z100.toInt ∧ z100.toInt ≤ 1 from by omega), (Or.inr ⟨(by omega), hb109⟩)⟩, by rw [ht]; exact hP, va_K.moved hW.alike hK, hD⟩, hS.F ht⟩) hS.2.2 dX1_takeTypes_40
          · skip
            have f110 : z13.toInt = 0 := b_eq rfl (by decide) c27
            exfalso; omega
        · skip
          have hb111 : ∀ k, Rc gT (Crun gs (Itypes gy gw 0 [] :: k)) (Cbad (V17 1 3).toInt) := fun k => Rc.go1 (hq k) (ty_b h21)
          refine lv_if_ne (tgt := 24) hx hb dX1_takeTypes_19 (by decide) (fun c112 => ?_) (fun c112 => ?_)
          · skip
            have f113 : z13.toInt ≠ 0 := b_neq rfl (by decide) c112
            exfalso; omega
          · skip
            have f114 : z13.toInt = 0 := b_eq rfl (by decide) c112
            refine lv_iconst (v := 0) hx hb dX1_takeTypes_22 (by decide) ?_
            exact W.zret (v := 0) hx hb hr rfl (fun t ht hW => ⟨⟨0, (V17, L7), rfl, ⟨hMV17, agV17, alL7, (by decide), (Or.inr ⟨rfl, hb111⟩)⟩, by rw [ht]; exact hP, va_K.moved hW.alike hK, hD⟩, hS.F ht⟩) hS.2.2 dX1_takeTypes_23
  have r115 : Int32.toInt 0 = 0 := by decide
  have pq116 : (V2 1 1).toInt = ((V 1 1)).toInt := congrArg Int32.toInt (up2_k hV2 (by decide))
  have rl117 : RelC V2 L b gT gs := RelC.ag rel (show agr [(1, 7)] [] V V2 from (agr.up agr.rf hV2 rfl)) (by decide) (show agL [] L L from agL.rf) (by decide)
  exact lp8 ((7 - (Int32.toInt 0) + 1 : Int).toNat) 0 0 V2 L H locs ls (by decide) ⟨gs, [], (by rw [show (Int32.toInt 0).toNat = 0 from by decide]; exact fun k => Rc.rf), rl117, keepS.rf, SEEN.z, (show UND (V2 1 7) gs.1 [] from by rw [show V2 1 7 = 0 from (up2_s hV2)]; exact UND.z _)⟩ (show (V2 1 1).toInt = (b : Int) from by omega) (by omega) alL agr.rf hMV2 hP hD hS (lv_sub hl [0, 1, 2] rfl)
abbrev r_x_putAlone3 : Room := { frames := 1, cells := 0, slots := 0, locals := 21 }
abbrev q_x_putAlone3 (D : va_G) (ks : KS) (ad : Nat → Nat) (kk : Nat → ClassId) (V : Vf) (L : Lf) (Z : XZ) (p0 : Int32) (b : Nat) (A : Nat → Prop) : Array Value → State → Outcome → State → Prop := va_Qi (fun (r : Int32) (u : Vf × Lf) => rgd bX u.1 ∧ agr [] [42, 48] V u.1 ∧ u.2 = L ∧ (1 ≤ r.toInt ∧ r.toInt ≤ 1)) (fun u t => gq D A (xw ad kk u.1 u.2 Z) (xty kk Z) t) A
set_option maxHeartbeats 4000000 in
set_option maxRecDepth 100000 in
theorem x_putAlone3 (l : Launch) (D : va_G) (ks : KS) (sz : Nat) (ad : Nat → Nat) (kk : Nat → ClassId) (V : Vf) (L : Lf) (Z : XZ) (p0 : Int32) (b : Nat) (hMV : rgd bX V) (hb2 : b < 2) (rbk : (V 1 1).toInt = (b : Int))  : Met l yX1_putAlone (Cond.code yX1_putAlone cX1_putAlone 2 (some .boolean) :: GW) r_x_putAlone3 (va_Pc [.ref (ad 1), .int p0] (gp D ks (xw ad kk V L Z) (xty kk Z) sz)) (q_x_putAlone3 D ks ad kk V L Z p0 b (va_A (xw ad kk V L Z) sz)) 0 0 (va_A (xw ad kk V L Z) sz) := by
  refine g_met (q_x_putAlone3 D ks ad kk V L Z p0 b) (by decide) (Nat.le_of_ble_eq_true rfl) ?_
  intro p e s m below meth c A ls H locs hx hb hr hml hown hg hlocks hin hnw hgk hP hK hD hS hA hl
  have hown : s.vm.findClass RX1 = some m.cls := hown
  have hl : lv_has ls 2 [(0, .ref (ad 1)), (1, .int p0)] := hl
  have hP : va_P D vwCl (xw ad kk V L Z) H := hP
  have hD : va_D A (xw ad kk V L Z) := hD
  have hK : va_K D vwCl (xty kk Z) s := hK
  have agV : agr [] [42, 48] V V := agr.rf
  have r1 : (-1) ≤ ((V 1 1)).toInt ∧ ((V 1 1)).toInt ≤ 1 := hMV 1 1
  refine lv_aload_n hx hb dX1_putAlone_0 rfl (lv_at hl 0 rfl) ?_
  refine va_get (D := D) (ci := 1) (v := rfN ad 38 (V 1 1)) (fs := (xfReader ad V L Z)) (C := RX1) (T := TX1) (N := 9) hx hb hg inX1 hown hK hP 1 xgReader rfl 1 (by decide) (hg _ w305) (fun _ h9 => h9) rfl dX1_putAlone_1 ?_
  refine g_topv (v := .ref (ad (38 + b))) (rfN_r (by omega)) ?_
  refine lv_iload_n hx hb dX1_putAlone_4 rfl (lv_at hl 1 rfl) ?_
  refine gA_void (gA_runV (As := [.int p0]) (rest := []) (ci := 0) (q0 := (38 + b)) hx hb hml hown hg hP hD hK hS hA hnw hgk (x_emit l D ks H.size ad kk V L Z p0 (b) hMV (show b < 2 from by omega)) w971 w972 w973 w167 w974 rfl (xgBook hb2) hdV_yX0_emit ⟨Nat.le_of_ble_eq_true rfl, Nat.le_of_ble_eq_true rfl⟩ rfl hl.1 rfl (Nat.le_of_ble_eq_true rfl) dX1_putAlone_5 ⟨Nat.le_of_ble_eq_true rfl, Nat.le_of_ble_eq_true rfl⟩) hP hD hK hS hA (fun u3 H locs w4 hP hD hK hS => ?_)
  obtain ⟨V6, L7⟩ := u3
  obtain ⟨hMV6, ajV6, axL7, fyV6, t5⟩ := w4
  have axL7 : L = L7 := Eq.symm axL7
  subst axL7
  have hP : va_P D vwCl (xw ad kk V6 L Z) H := hP
  have hD : va_D A (xw ad kk V6 L Z) := hD
  have hMV6 : rgd bX V6 := hMV6
  have ajV6 : agr [] [42, 48] V V6 := ajV6
  have agV6 : agr [] [42, 48] V V6 := agV.tr ajV6 (by decide) (by decide)
  have t5 : emX V V6 b p0 := t5
  refine lv_iconst (v := 1) hx hb dX1_putAlone_8 (by decide) ?_
  exact W.zret (v := 1) hx hb hr rfl (fun t ht hW => ⟨⟨1, (V6, L), rfl, ⟨hMV6, agV6, rfl, (by decide)⟩, by rw [ht]; exact hP, va_K.moved hW.alike hK, hD⟩, hS.F ht⟩) hS.2.2 dX1_putAlone_9
abbrev r_x_put3 : Room := { frames := 1, cells := 0, slots := 0, locals := 21 }
abbrev q_x_put3 (D : va_G) (ks : KS) (ad : Nat → Nat) (kk : Nat → ClassId) (V : Vf) (L : Lf) (Z : XZ) (p0 : Int32) (p1 : Int32) (b : Nat) (A : Nat → Prop) : Array Value → State → Outcome → State → Prop := va_Qi (fun (r : Int32) (u : Vf × Lf) => rgd bX u.1 ∧ agr [] [42, 48] V u.1 ∧ u.2 = L ∧ (1 ≤ r.toInt ∧ r.toInt ≤ 1)) (fun u t => gq D A (xw ad kk u.1 u.2 Z) (xty kk Z) t) A
set_option maxHeartbeats 4000000 in
set_option maxRecDepth 100000 in
theorem x_put3 (l : Launch) (D : va_G) (ks : KS) (sz : Nat) (ad : Nat → Nat) (kk : Nat → ClassId) (V : Vf) (L : Lf) (Z : XZ) (p0 : Int32) (p1 : Int32) (b : Nat) (hMV : rgd bX V) (hb2 : b < 2) (rbk : (V 1 1).toInt = (b : Int))  : Met l yX1_put (Cond.code yX1_put cX1_put 3 (some .boolean) :: GW) r_x_put3 (va_Pc [.ref (ad 1), .int p0, .int p1] (gp D ks (xw ad kk V L Z) (xty kk Z) sz)) (q_x_put3 D ks ad kk V L Z p0 p1 b (va_A (xw ad kk V L Z) sz)) 0 0 (va_A (xw ad kk V L Z) sz) := by
  refine g_met (q_x_put3 D ks ad kk V L Z p0 p1 b) (by decide) (Nat.le_of_ble_eq_true rfl) ?_
  intro p e s m below meth c A ls H locs hx hb hr hml hown hg hlocks hin hnw hgk hP hK hD hS hA hl
  have hown : s.vm.findClass RX1 = some m.cls := hown
  have hl : lv_has ls 3 [(0, .ref (ad 1)), (1, .int p0), (2, .int p1)] := hl
  have hP : va_P D vwCl (xw ad kk V L Z) H := hP
  have hD : va_D A (xw ad kk V L Z) := hD
  have hK : va_K D vwCl (xty kk Z) s := hK
  have agV : agr [] [42, 48] V V := agr.rf
  have r1 : (-1) ≤ ((V 1 1)).toInt ∧ ((V 1 1)).toInt ≤ 1 := hMV 1 1
  refine lv_aload_n hx hb dX1_put_0 rfl (lv_at hl 0 rfl) ?_
  refine va_get (D := D) (ci := 1) (v := rfN ad 38 (V 1 1)) (fs := (xfReader ad V L Z)) (C := RX1) (T := TX1) (N := 9) hx hb hg inX1 hown hK hP 1 xgReader rfl 1 (by decide) (hg _ w305) (fun _ h9 => h9) rfl dX1_put_1 ?_
  refine g_topv (v := .ref (ad (38 + b))) (rfN_r (by omega)) ?_
  refine lv_iload_n hx hb dX1_put_4 rfl (lv_at hl 1 rfl) ?_
  refine gA_void (gA_runV (As := [.int p0]) (rest := []) (ci := 0) (q0 := (38 + b)) hx hb hml hown hg hP hD hK hS hA hnw hgk (x_emit l D ks H.size ad kk V L Z p0 (b) hMV (show b < 2 from by omega)) w971 w972 w973 w167 w974 rfl (xgBook hb2) hdV_yX0_emit ⟨Nat.le_of_ble_eq_true rfl, Nat.le_of_ble_eq_true rfl⟩ rfl hl.1 rfl (Nat.le_of_ble_eq_true rfl) dX1_put_5 ⟨Nat.le_of_ble_eq_true rfl, Nat.le_of_ble_eq_true rfl⟩) hP hD hK hS hA (fun u3 H locs w4 hP hD hK hS => ?_)
  obtain ⟨V6, L7⟩ := u3
  obtain ⟨hMV6, ajV6, axL7, fyV6, t5⟩ := w4
  have axL7 : L = L7 := Eq.symm axL7
  subst axL7
  have hP : va_P D vwCl (xw ad kk V6 L Z) H := hP
  have hD : va_D A (xw ad kk V6 L Z) := hD
  have hMV6 : rgd bX V6 := hMV6
  have ajV6 : agr [] [42, 48] V V6 := ajV6
  have agV6 : agr [] [42, 48] V V6 := agV.tr ajV6 (by decide) (by decide)
  have t5 : emX V V6 b p0 := t5
  refine lv_aload_n hx hb dX1_put_8 rfl (lv_at hl 0 rfl) ?_
  refine va_get (D := D) (ci := 1) (v := rfN ad 38 (V6 1 1)) (fs := (xfReader ad V6 L Z)) (C := RX1) (T := TX1) (N := 9) hx hb hg inX1 hown hK hP 1 xgReader rfl 1 (by decide) (hg _ w305) (fun _ h9 => h9) rfl dX1_put_9 ?_
  have pq8 : (V6 1 1).toInt = ((V 1 1)).toInt := congrArg Int32.toInt (ajV6 1 1 rfl)
  refine g_topv (v := .ref (ad (38 + b))) (rfN_r (by omega)) ?_
  refine lv_iload_n hx hb dX1_put_12 rfl (lv_at hl 2 rfl) ?_
  refine gA_void (gA_runV (As := [.int p1]) (rest := []) (ci := 0) (q0 := (38 + b)) hx hb hml hown hg hP hD hK hS hA hnw hgk (x_emit l D ks H.size ad kk V6 L Z p1 (b) hMV6 (show b < 2 from by omega)) w971 w972 w973 w167 w974 rfl (xgBook hb2) hdV_yX0_emit ⟨Nat.le_of_ble_eq_true rfl, Nat.le_of_ble_eq_true rfl⟩ rfl hl.1 rfl (Nat.le_of_ble_eq_true rfl) dX1_put_13 ⟨Nat.le_of_ble_eq_true rfl, Nat.le_of_ble_eq_true rfl⟩) hP hD hK hS hA (fun u10 H locs w11 hP hD hK hS => ?_)
  obtain ⟨V13, L14⟩ := u10
  obtain ⟨hMV13, ajV13, axL14, fyV13, t12⟩ := w11
  have axL14 : L = L14 := Eq.symm axL14
  subst axL14
  have hP : va_P D vwCl (xw ad kk V13 L Z) H := hP
  have hD : va_D A (xw ad kk V13 L Z) := hD
  have hMV13 : rgd bX V13 := hMV13
  have ajV13 : agr [] [42, 48] V6 V13 := ajV13
  have agV13 : agr [] [42, 48] V V13 := agV6.tr ajV13 (by decide) (by decide)
  have t12 : emX V6 V13 b p1 := t12
  refine lv_iconst (v := 1) hx hb dX1_put_16 (by decide) ?_
  exact W.zret (v := 1) hx hb hr rfl (fun t ht hW => ⟨⟨1, (V13, L), rfl, ⟨hMV13, agV13, rfl, (by decide)⟩, by rw [ht]; exact hP, va_K.moved hW.alike hK, hD⟩, hS.F ht⟩) hS.2.2 dX1_put_17
abbrev r_x_beginsPart3 : Room := { frames := 0, cells := 0, slots := 0, locals := 0 }
abbrev q_x_beginsPart3 (D : va_G) (ks : KS) (ad : Nat → Nat) (kk : Nat → ClassId) (V : Vf) (L : Lf) (Z : XZ) (b : Nat) (gT : Tk) (gs : St) (A : Nat → Prop) : Array Value → State → Outcome → State → Prop := va_Qi (fun (r : Int32) (_ : Unit) => (0 ≤ r.toInt ∧ r.toInt ≤ 1) ∧ ((r.toInt = 1 ∧ bgP gT gs) ∨ (r.toInt = 0 ∧ ¬ bgP gT gs))) (fun _ t => gq D A (xw ad kk V L Z) (xty kk Z) t) A
set_option maxHeartbeats 4000000 in
set_option maxRecDepth 100000 in
theorem x_beginsPart3 (l : Launch) (D : va_G) (ks : KS) (sz : Nat) (ad : Nat → Nat) (kk : Nat → ClassId) (V : Vf) (L : Lf) (Z : XZ) (b : Nat) (gT : Tk) (gs : St) (hMV : rgd bX V) (hb2 : b < 2) (rbk : (V 1 1).toInt = (b : Int)) (rel : RelC V L b gT gs) (wh : (V 1 4).toInt = ((gs.1 4 : Nat) : Int))  : Met l yX1_beginsPart (Cond.code yX1_beginsPart cX1_beginsPart 1 (some .boolean) :: GW) r_x_beginsPart3 (va_Pc [.ref (ad 1)] (gp D ks (xw ad kk V L Z) (xty kk Z) sz)) (q_x_beginsPart3 D ks ad kk V L Z  b gT gs (va_A (xw ad kk V L Z) sz)) 0 0 (va_A (xw ad kk V L Z) sz) := by
  refine g_met (q_x_beginsPart3 D ks ad kk V L Z  b gT gs) (by decide) (Nat.le_of_ble_eq_true rfl) ?_
  intro p e s m below meth c A ls H locs hx hb hr hml hown hg hlocks hin hnw hgk hP hK hD hS hA hl
  have hown : s.vm.findClass RX1 = some m.cls := hown
  have hl : lv_has ls 1 [(0, .ref (ad 1))] := hl
  have hP : va_P D vwCl (xw ad kk V L Z) H := hP
  have hD : va_D A (xw ad kk V L Z) := hD
  have hK : va_K D vwCl (xty kk Z) s := hK
  have r1 : (-1) ≤ ((V 1 1)).toInt ∧ ((V 1 1)).toInt ≤ 1 := hMV 1 1
  refine lv_aload_n hx hb dX1_beginsPart_0 rfl (lv_at hl 0 rfl) ?_
  refine va_get (D := D) (ci := 1) (v := .ref (ad 6)) (fs := (xfReader ad V L Z)) (C := RX1) (T := TX1) (N := 9) hx hb hg inX1 hown hK hP 1 xgReader rfl 0 (by decide) (hg _ w304) (fun _ h9 => h9) rfl dX1_beginsPart_1 ?_
  refine va_getN (D := D) (ci := 9) (v := .int (V 6 9)) (fs := (xfTape ad V L Z)) (C := RX9) (T := TX9) (N := 12) hx hb hg inX9 hown hK hP 6 xgTape rfl 9 (by decide) (hnw.use 262 n262 rfl) (fun _ h9 => h9) rfl dX1_beginsPart_4 ?_
  by_cases q2 : (V 6 9) = 2
  · refine g_top (v := 2) q2 ?_
    have fq2 : ((V 6 9)).toInt = 2 := b_eq rfl (by decide) q2
    refine lv_lookup (x := 2) (off := 81) (tgt := 88) hx hb dX1_beginsPart_7 (by decide) (by decide) (by decide) ?_
    refine lv_iconst (v := 1) hx hb dX1_beginsPart_88 (by decide) ?_
    have kd3 : gT.1 (gs.1 0) = ((V 6 9)).toInt := RelC.kd rel
    have r4 : 0 ≤ ((V 1 4)).toInt ∧ ((V 1 4)).toInt ≤ 2 := hMV 1 4
    exact W.zret (v := 1) hx hb hr rfl (fun t ht hW => ⟨⟨1, (), rfl, ⟨(by decide), (Or.inl ⟨rfl, Or.inl (kd3.trans fq2)⟩)⟩, by rw [ht]; exact hP, va_K.moved hW.alike hK, hD⟩, hS.F ht⟩) hS.2.2 dX1_beginsPart_89
  have gq2 : ((V 6 9)).toInt ≠ 2 := b_neq rfl (by decide) q2
  by_cases q5 : (V 6 9) = 40
  · refine g_top (v := 40) q5 ?_
    have fq5 : ((V 6 9)).toInt = 40 := b_eq rfl (by decide) q5
    refine lv_lookup (x := 40) (off := 81) (tgt := 88) hx hb dX1_beginsPart_7 (by decide) (by decide) (by decide) ?_
    refine lv_iconst (v := 1) hx hb dX1_beginsPart_88 (by decide) ?_
    have kd6 : gT.1 (gs.1 0) = ((V 6 9)).toInt := RelC.kd rel
    have r7 : 0 ≤ ((V 1 4)).toInt ∧ ((V 1 4)).toInt ≤ 2 := hMV 1 4
    exact W.zret (v := 1) hx hb hr rfl (fun t ht hW => ⟨⟨1, (), rfl, ⟨(by decide), (Or.inl ⟨rfl, Or.inr (Or.inr (Or.inl (kd6.trans fq5)))⟩)⟩, by rw [ht]; exact hP, va_K.moved hW.alike hK, hD⟩, hS.F ht⟩) hS.2.2 dX1_beginsPart_89
  have gq5 : ((V 6 9)).toInt ≠ 40 := b_neq rfl (by decide) q5
  by_cases q8 : (V 6 9) = 45
  · refine g_top (v := 45) q8 ?_
    have fq8 : ((V 6 9)).toInt = 45 := b_eq rfl (by decide) q8
    refine lv_lookup (x := 45) (off := 81) (tgt := 88) hx hb dX1_beginsPart_7 (by decide) (by decide) (by decide) ?_
    refine lv_iconst (v := 1) hx hb dX1_beginsPart_88 (by decide) ?_
    have kd9 : gT.1 (gs.1 0) = ((V 6 9)).toInt := RelC.kd rel
    have r10 : 0 ≤ ((V 1 4)).toInt ∧ ((V 1 4)).toInt ≤ 2 := hMV 1 4
    exact W.zret (v := 1) hx hb hr rfl (fun t ht hW => ⟨⟨1, (), rfl, ⟨(by decide), (Or.inl ⟨rfl, Or.inr (Or.inr (Or.inr (Or.inl (kd9.trans fq8))))⟩)⟩, by rw [ht]; exact hP, va_K.moved hW.alike hK, hD⟩, hS.F ht⟩) hS.2.2 dX1_beginsPart_89
  have gq8 : ((V 6 9)).toInt ≠ 45 := b_neq rfl (by decide) q8
  by_cases q11 : (V 6 9) = 130
  · refine g_top (v := 130) q11 ?_
    have fq11 : ((V 6 9)).toInt = 130 := b_eq rfl (by decide) q11
    refine lv_lookup (x := 130) (off := 81) (tgt := 88) hx hb dX1_beginsPart_7 (by decide) (by decide) (by decide) ?_
    refine lv_iconst (v := 1) hx hb dX1_beginsPart_88 (by decide) ?_
    have kd12 : gT.1 (gs.1 0) = ((V 6 9)).toInt := RelC.kd rel
    have r13 : 0 ≤ ((V 1 4)).toInt ∧ ((V 1 4)).toInt ≤ 2 := hMV 1 4
    exact W.zret (v := 1) hx hb hr rfl (fun t ht hW => ⟨⟨1, (), rfl, ⟨(by decide), (Or.inl ⟨rfl, Or.inr (Or.inr (Or.inr (Or.inr (Or.inr (Or.inl (kd12.trans fq11))))))⟩)⟩, by rw [ht]; exact hP, va_K.moved hW.alike hK, hD⟩, hS.F ht⟩) hS.2.2 dX1_beginsPart_89
  have gq11 : ((V 6 9)).toInt ≠ 130 := b_neq rfl (by decide) q11
  by_cases q14 : (V 6 9) = 143
  · refine g_top (v := 143) q14 ?_
    have fq14 : ((V 6 9)).toInt = 143 := b_eq rfl (by decide) q14
    refine lv_lookup (x := 143) (off := 81) (tgt := 88) hx hb dX1_beginsPart_7 (by decide) (by decide) (by decide) ?_
    refine lv_iconst (v := 1) hx hb dX1_beginsPart_88 (by decide) ?_
    have kd15 : gT.1 (gs.1 0) = ((V 6 9)).toInt := RelC.kd rel
    have r16 : 0 ≤ ((V 1 4)).toInt ∧ ((V 1 4)).toInt ≤ 2 := hMV 1 4
    exact W.zret (v := 1) hx hb hr rfl (fun t ht hW => ⟨⟨1, (), rfl, ⟨(by decide), (Or.inl ⟨rfl, Or.inr (Or.inl (kd15.trans fq14))⟩)⟩, by rw [ht]; exact hP, va_K.moved hW.alike hK, hD⟩, hS.F ht⟩) hS.2.2 dX1_beginsPart_89
  have gq14 : ((V 6 9)).toInt ≠ 143 := b_neq rfl (by decide) q14
  by_cases q17 : (V 6 9) = 144
  · refine g_top (v := 144) q17 ?_
    have fq17 : ((V 6 9)).toInt = 144 := b_eq rfl (by decide) q17
    refine lv_lookup (x := 144) (off := 81) (tgt := 88) hx hb dX1_beginsPart_7 (by decide) (by decide) (by decide) ?_
    refine lv_iconst (v := 1) hx hb dX1_beginsPart_88 (by decide) ?_
    have kd18 : gT.1 (gs.1 0) = ((V 6 9)).toInt := RelC.kd rel
    have r19 : 0 ≤ ((V 1 4)).toInt ∧ ((V 1 4)).toInt ≤ 2 := hMV 1 4
    exact W.zret (v := 1) hx hb hr rfl (fun t ht hW => ⟨⟨1, (), rfl, ⟨(by decide), (Or.inl ⟨rfl, Or.inr (Or.inr (Or.inr (Or.inr (Or.inl (kd18.trans fq17)))))⟩)⟩, by rw [ht]; exact hP, va_K.moved hW.alike hK, hD⟩, hS.F ht⟩) hS.2.2 dX1_beginsPart_89
  have gq17 : ((V 6 9)).toInt ≠ 144 := b_neq rfl (by decide) q17
  by_cases q20 : (V 6 9) = 145
  · refine g_top (v := 145) q20 ?_
    have fq20 : ((V 6 9)).toInt = 145 := b_eq rfl (by decide) q20
    refine lv_lookup (x := 145) (off := 81) (tgt := 88) hx hb dX1_beginsPart_7 (by decide) (by decide) (by decide) ?_
    refine lv_iconst (v := 1) hx hb dX1_beginsPart_88 (by decide) ?_
    have kd21 : gT.1 (gs.1 0) = ((V 6 9)).toInt := RelC.kd rel
    have r22 : 0 ≤ ((V 1 4)).toInt ∧ ((V 1 4)).toInt ≤ 2 := hMV 1 4
    exact W.zret (v := 1) hx hb hr rfl (fun t ht hW => ⟨⟨1, (), rfl, ⟨(by decide), (Or.inl ⟨rfl, Or.inr (Or.inr (Or.inr (Or.inr (Or.inr (Or.inr (Or.inl (kd21.trans fq20)))))))⟩)⟩, by rw [ht]; exact hP, va_K.moved hW.alike hK, hD⟩, hS.F ht⟩) hS.2.2 dX1_beginsPart_89
  have gq20 : ((V 6 9)).toInt ≠ 145 := b_neq rfl (by decide) q20
  by_cases q23 : (V 6 9) = 146
  · refine g_top (v := 146) q23 ?_
    have fq23 : ((V 6 9)).toInt = 146 := b_eq rfl (by decide) q23
    refine lv_lookup (x := 146) (off := 83) (tgt := 90) hx hb dX1_beginsPart_7 (by decide) (by decide) (by decide) ?_
    refine lv_aload_n hx hb dX1_beginsPart_90 rfl (lv_at hl 0 rfl) ?_
    refine va_get (D := D) (ci := 1) (v := .int (V 1 4)) (fs := (xfReader ad V L Z)) (C := RX1) (T := TX1) (N := 9) hx hb hg inX1 hown hK hP 1 xgReader rfl 4 (by decide) (hg _ w308) (fun _ h9 => h9) rfl dX1_beginsPart_91 ?_
    have r24 : 0 ≤ ((V 1 4)).toInt ∧ ((V 1 4)).toInt ≤ 2 := hMV 1 4
    refine lv_if_ne (tgt := 101) hx hb dX1_beginsPart_94 (by decide) (fun c25 => ?_) (fun c25 => ?_)
    · skip
      have f26 : ((V 1 4)).toInt ≠ 0 := b_neq rfl (by decide) c25
      refine lv_iconst (v := 0) hx hb dX1_beginsPart_101 (by decide) ?_
      have kd27 : gT.1 (gs.1 0) = ((V 6 9)).toInt := RelC.kd rel
      exact W.zret (v := 0) hx hb hr rfl (fun t ht hW => ⟨⟨0, (), rfl, ⟨(by decide), (Or.inr ⟨rfl, fun h9 => by have h8 := kd27.trans fq23; unfold bgP at h9; omega⟩)⟩, by rw [ht]; exact hP, va_K.moved hW.alike hK, hD⟩, hS.F ht⟩) hS.2.2 dX1_beginsPart_102
    · skip
      have f28 : ((V 1 4)).toInt = 0 := b_eq rfl (by decide) c25
      refine lv_iconst (v := 1) hx hb dX1_beginsPart_97 (by decide) ?_
      refine lv_goto (tgt := 102) hx hb dX1_beginsPart_98 (by decide) ?_
      have kd29 : gT.1 (gs.1 0) = ((V 6 9)).toInt := RelC.kd rel
      exact W.zret (v := 1) hx hb hr rfl (fun t ht hW => ⟨⟨1, (), rfl, ⟨(by decide), (Or.inl ⟨rfl, by have h9 := kd29.trans fq23; unfold bgP; omega⟩)⟩, by rw [ht]; exact hP, va_K.moved hW.alike hK, hD⟩, hS.F ht⟩) hS.2.2 dX1_beginsPart_102
  have gq23 : ((V 6 9)).toInt ≠ 146 := b_neq rfl (by decide) q23
  by_cases q30 : (V 6 9) = 147
  · refine g_top (v := 147) q30 ?_
    have fq30 : ((V 6 9)).toInt = 147 := b_eq rfl (by decide) q30
    refine lv_lookup (x := 147) (off := 96) (tgt := 103) hx hb dX1_beginsPart_7 (by decide) (by decide) (by decide) ?_
    refine lv_aload_n hx hb dX1_beginsPart_103 rfl (lv_at hl 0 rfl) ?_
    refine va_get (D := D) (ci := 1) (v := .int (V 1 4)) (fs := (xfReader ad V L Z)) (C := RX1) (T := TX1) (N := 9) hx hb hg inX1 hown hK hP 1 xgReader rfl 4 (by decide) (hg _ w308) (fun _ h9 => h9) rfl dX1_beginsPart_104 ?_
    have r31 : 0 ≤ ((V 1 4)).toInt ∧ ((V 1 4)).toInt ≤ 2 := hMV 1 4
    refine lv_iconst (v := 2) hx hb dX1_beginsPart_107 (by decide) ?_
    refine lv_icmp_ne (tgt := 115) hx hb dX1_beginsPart_108 (by decide) (fun c32 => ?_) (fun c32 => ?_)
    · skip
      have f33 : ((V 1 4)).toInt ≠ 2 := b_neq rfl (by decide) c32
      refine lv_iconst (v := 0) hx hb dX1_beginsPart_115 (by decide) ?_
      have kd34 : gT.1 (gs.1 0) = ((V 6 9)).toInt := RelC.kd rel
      exact W.zret (v := 0) hx hb hr rfl (fun t ht hW => ⟨⟨0, (), rfl, ⟨(by decide), (Or.inr ⟨rfl, fun h9 => by have h8 := kd34.trans fq30; unfold bgP at h9; omega⟩)⟩, by rw [ht]; exact hP, va_K.moved hW.alike hK, hD⟩, hS.F ht⟩) hS.2.2 dX1_beginsPart_116
    · skip
      have f35 : ((V 1 4)).toInt = 2 := b_eq rfl (by decide) c32
      refine lv_iconst (v := 1) hx hb dX1_beginsPart_111 (by decide) ?_
      refine lv_goto (tgt := 116) hx hb dX1_beginsPart_112 (by decide) ?_
      have kd36 : gT.1 (gs.1 0) = ((V 6 9)).toInt := RelC.kd rel
      exact W.zret (v := 1) hx hb hr rfl (fun t ht hW => ⟨⟨1, (), rfl, ⟨(by decide), (Or.inl ⟨rfl, by have h9 := kd36.trans fq30; unfold bgP; omega⟩)⟩, by rw [ht]; exact hP, va_K.moved hW.alike hK, hD⟩, hS.F ht⟩) hS.2.2 dX1_beginsPart_116
  have gq30 : ((V 6 9)).toInt ≠ 147 := b_neq rfl (by decide) q30
  refine lv_lookup (x := (V 6 9)) (off := 110) (tgt := 117) hx hb dX1_beginsPart_7 (by decide) ((lv_osw q2 (by decide)).trans ((lv_osw q5 (by decide)).trans ((lv_osw q8 (by decide)).trans ((lv_osw q11 (by decide)).trans ((lv_osw q14 (by decide)).trans ((lv_osw q17 (by decide)).trans ((lv_osw q20 (by decide)).trans ((lv_osw q23 (by decide)).trans ((lv_osw q30 (by decide)).trans rfl))))))))) (by decide) ?_
  refine lv_iconst (v := 0) hx hb dX1_beginsPart_117 (by decide) ?_
  have kd37 : gT.1 (gs.1 0) = ((V 6 9)).toInt := RelC.kd rel
  have r38 : 0 ≤ ((V 1 4)).toInt ∧ ((V 1 4)).toInt ≤ 2 := hMV 1 4
  exact W.zret (v := 0) hx hb hr rfl (fun t ht hW => ⟨⟨0, (), rfl, ⟨(by decide), (Or.inr ⟨rfl, fun h9 => by unfold bgP at h9; omega⟩)⟩, by rw [ht]; exact hP, va_K.moved hW.alike hK, hD⟩, hS.F ht⟩) hS.2.2 dX1_beginsPart_118
abbrev q_x_readExpression3 (D : va_G) (ks : KS) (ad : Nat → Nat) (kk : Nat → ClassId) (V : Vf) (L : Lf) (Z : XZ) (p0 : Int32) (b : Nat) (gT : Tk) (gs : St) (gd : Nat) (A : Nat → Prop) : Array Value → State → Outcome → State → Prop := va_Qi (fun (r : Int32) (u : Vf × Lf) => rgd bX u.1 ∧ agr [(1, 3), (1, 6), (1, 8), (6, 8), (6, 9), (6, 10)] [42, 43, 44, 48] V u.1 ∧ agL [6, 44] L u.2 ∧ (0 ≤ r.toInt ∧ r.toInt ≤ 1) ∧ (Rd gT gs (fun k => Iexpr gd :: k) (fun k => k) r.toInt (u.1 1 3).toInt (fun s9 => RelC u.1 u.2 b gT s9 ∧ keepS gs 1 s9)) ∧ (ROWL b L u.2)) (fun u t => gq D A (xw ad kk u.1 u.2 Z) (xty kk Z) t) A
def K_x_readExpression3 (l : Launch) (D : va_G) (ks : KS) (dd : Nat) : Prop := ∀ (sz : Nat) (ad : Nat → Nat) (kk : Nat → ClassId) (V : Vf) (L : Lf) (Z : XZ) (p0 : Int32) (b : Nat) (gT : Tk) (gs : St) (gd : Nat) (hMV : rgd bX V) (rg_p0 : 0 ≤ p0.toInt ∧ p0.toInt ≤ 8) (hb2 : b < 2) (rbk : (V 1 1).toInt = (b : Int)) (rel : RelC V L b gT gs) (yd : p0.toInt = (gd : Int)) (wh : (V 1 4).toInt = ((gs.1 4 : Nat) : Int)) (ow : ((V 1 4).toInt = 0 → 0 ≤ (V 1 2).toInt)) (y1 : 8 - p0.toInt ≤ (dd : Int)) , Met l yX1_readExpression (Cond.code yX1_readExpression cX1_readExpression 3 (some .boolean) :: GW) (rK 9 240 dd) (va_Pc [.ref (ad 1), .int p0] (gp D ks (xw ad kk V L Z) (xty kk Z) sz)) (q_x_readExpression3 D ks ad kk V L Z p0 b gT gs gd (va_A (xw ad kk V L Z) sz)) 0 0 (va_A (xw ad kk V L Z) sz)
abbrev q_x_readSum3 (D : va_G) (ks : KS) (ad : Nat → Nat) (kk : Nat → ClassId) (V : Vf) (L : Lf) (Z : XZ) (p0 : Int32) (b : Nat) (gT : Tk) (gs : St) (gd : Nat) (A : Nat → Prop) : Array Value → State → Outcome → State → Prop := va_Qi (fun (r : Int32) (u : Vf × Lf) => rgd bX u.1 ∧ agr [(1, 3), (1, 6), (1, 8), (6, 8), (6, 9), (6, 10)] [42, 43, 44, 48] V u.1 ∧ agL [6, 44] L u.2 ∧ (0 ≤ r.toInt ∧ r.toInt ≤ 1) ∧ (Rd gT gs (fun k => Isum gd :: k) (fun k => k) r.toInt (u.1 1 3).toInt (fun s9 => RelC u.1 u.2 b gT s9 ∧ keepS gs 1 s9)) ∧ (ROWL b L u.2)) (fun u t => gq D A (xw ad kk u.1 u.2 Z) (xty kk Z) t) A
def K_x_readSum3 (l : Launch) (D : va_G) (ks : KS) (dd : Nat) : Prop := ∀ (sz : Nat) (ad : Nat → Nat) (kk : Nat → ClassId) (V : Vf) (L : Lf) (Z : XZ) (p0 : Int32) (b : Nat) (gT : Tk) (gs : St) (gd : Nat) (hMV : rgd bX V) (rg_p0 : 0 ≤ p0.toInt ∧ p0.toInt ≤ 8) (hb2 : b < 2) (rbk : (V 1 1).toInt = (b : Int)) (rel : RelC V L b gT gs) (yd : p0.toInt = (gd : Int)) (wh : (V 1 4).toInt = ((gs.1 4 : Nat) : Int)) (ow : ((V 1 4).toInt = 0 → 0 ≤ (V 1 2).toInt)) (y1 : 8 - p0.toInt ≤ (dd : Int)) , Met l yX1_readSum (Cond.code yX1_readSum cX1_readSum 4 (some .boolean) :: GW) (rK 8 210 dd) (va_Pc [.ref (ad 1), .int p0] (gp D ks (xw ad kk V L Z) (xty kk Z) sz)) (q_x_readSum3 D ks ad kk V L Z p0 b gT gs gd (va_A (xw ad kk V L Z) sz)) 0 0 (va_A (xw ad kk V L Z) sz)
abbrev q_x_readProduct3 (D : va_G) (ks : KS) (ad : Nat → Nat) (kk : Nat → ClassId) (V : Vf) (L : Lf) (Z : XZ) (p0 : Int32) (b : Nat) (gT : Tk) (gs : St) (gd : Nat) (A : Nat → Prop) : Array Value → State → Outcome → State → Prop := va_Qi (fun (r : Int32) (u : Vf × Lf) => rgd bX u.1 ∧ agr [(1, 3), (1, 6), (1, 8), (6, 8), (6, 9), (6, 10)] [42, 43, 44, 48] V u.1 ∧ agL [6, 44] L u.2 ∧ (0 ≤ r.toInt ∧ r.toInt ≤ 1) ∧ (Rd gT gs (fun k => Iprod gd :: k) (fun k => k) r.toInt (u.1 1 3).toInt (fun s9 => RelC u.1 u.2 b gT s9 ∧ keepS gs 1 s9)) ∧ (ROWL b L u.2)) (fun u t => gq D A (xw ad kk u.1 u.2 Z) (xty kk Z) t) A
def K_x_readProduct3 (l : Launch) (D : va_G) (ks : KS) (dd : Nat) : Prop := ∀ (sz : Nat) (ad : Nat → Nat) (kk : Nat → ClassId) (V : Vf) (L : Lf) (Z : XZ) (p0 : Int32) (b : Nat) (gT : Tk) (gs : St) (gd : Nat) (hMV : rgd bX V) (rg_p0 : 0 ≤ p0.toInt ∧ p0.toInt ≤ 8) (hb2 : b < 2) (rbk : (V 1 1).toInt = (b : Int)) (rel : RelC V L b gT gs) (yd : p0.toInt = (gd : Int)) (wh : (V 1 4).toInt = ((gs.1 4 : Nat) : Int)) (ow : ((V 1 4).toInt = 0 → 0 ≤ (V 1 2).toInt)) (y1 : 8 - p0.toInt ≤ (dd : Int)) , Met l yX1_readProduct (Cond.code yX1_readProduct cX1_readProduct 3 (some .boolean) :: GW) (rK 7 180 dd) (va_Pc [.ref (ad 1), .int p0] (gp D ks (xw ad kk V L Z) (xty kk Z) sz)) (q_x_readProduct3 D ks ad kk V L Z p0 b gT gs gd (va_A (xw ad kk V L Z) sz)) 0 0 (va_A (xw ad kk V L Z) sz)
abbrev q_x_readPart3 (D : va_G) (ks : KS) (ad : Nat → Nat) (kk : Nat → ClassId) (V : Vf) (L : Lf) (Z : XZ) (p0 : Int32) (b : Nat) (gT : Tk) (gs : St) (gd : Nat) (A : Nat → Prop) : Array Value → State → Outcome → State → Prop := va_Qi (fun (r : Int32) (u : Vf × Lf) => rgd bX u.1 ∧ agr [(1, 3), (1, 6), (1, 8), (6, 8), (6, 9), (6, 10)] [42, 43, 44, 48] V u.1 ∧ agL [6, 44] L u.2 ∧ (0 ≤ r.toInt ∧ r.toInt ≤ 1) ∧ (Rd gT gs (fun k => Ipart gd :: k) (fun k => k) r.toInt (u.1 1 3).toInt (fun s9 => RelC u.1 u.2 b gT s9 ∧ keepS gs 1 s9)) ∧ (ROWL b L u.2)) (fun u t => gq D A (xw ad kk u.1 u.2 Z) (xty kk Z) t) A
def K_x_readPart3 (l : Launch) (D : va_G) (ks : KS) (dd : Nat) : Prop := ∀ (sz : Nat) (ad : Nat → Nat) (kk : Nat → ClassId) (V : Vf) (L : Lf) (Z : XZ) (p0 : Int32) (b : Nat) (gT : Tk) (gs : St) (gd : Nat) (hMV : rgd bX V) (rg_p0 : 0 ≤ p0.toInt ∧ p0.toInt ≤ 8) (hb2 : b < 2) (rbk : (V 1 1).toInt = (b : Int)) (rel : RelC V L b gT gs) (yd : p0.toInt = (gd : Int)) (wh : (V 1 4).toInt = ((gs.1 4 : Nat) : Int)) (ow : ((V 1 4).toInt = 0 → 0 ≤ (V 1 2).toInt)) (y1 : 8 - p0.toInt ≤ (dd : Int)) , Met l yX1_readPart (Cond.code yX1_readPart cX1_readPart 5 (some .boolean) :: GW) (rK 6 150 dd) (va_Pc [.ref (ad 1), .int p0] (gp D ks (xw ad kk V L Z) (xty kk Z) sz)) (q_x_readPart3 D ks ad kk V L Z p0 b gT gs gd (va_A (xw ad kk V L Z) sz)) 0 0 (va_A (xw ad kk V L Z) sz)
abbrev q_x_readWithin3 (D : va_G) (ks : KS) (ad : Nat → Nat) (kk : Nat → ClassId) (V : Vf) (L : Lf) (Z : XZ) (p0 : Int32) (b : Nat) (gT : Tk) (gs : St) (gd : Nat) (A : Nat → Prop) : Array Value → State → Outcome → State → Prop := va_Qi (fun (r : Int32) (u : Vf × Lf) => rgd bX u.1 ∧ agr [(1, 3), (1, 6), (1, 8), (6, 8), (6, 9), (6, 10)] [42, 43, 44, 48] V u.1 ∧ agL [6, 44] L u.2 ∧ (0 ≤ r.toInt ∧ r.toInt ≤ 1) ∧ (Rd gT gs (fun k => Itake 40 :: Iexpr (gd + 1) :: Itake 41 :: k) (fun k => k) r.toInt (u.1 1 3).toInt (fun s9 => RelC u.1 u.2 b gT s9 ∧ keepS gs 1 s9)) ∧ (ROWL b L u.2)) (fun u t => gq D A (xw ad kk u.1 u.2 Z) (xty kk Z) t) A
def K_x_readWithin3 (l : Launch) (D : va_G) (ks : KS) (dd : Nat) : Prop := ∀ (sz : Nat) (ad : Nat → Nat) (kk : Nat → ClassId) (V : Vf) (L : Lf) (Z : XZ) (p0 : Int32) (b : Nat) (gT : Tk) (gs : St) (gd : Nat) (hMV : rgd bX V) (rg_p0 : 0 ≤ p0.toInt ∧ p0.toInt ≤ 7) (hb2 : b < 2) (rbk : (V 1 1).toInt = (b : Int)) (rel : RelC V L b gT gs) (yd : p0.toInt = (gd : Int)) (wh : (V 1 4).toInt = ((gs.1 4 : Nat) : Int)) (ow : ((V 1 4).toInt = 0 → 0 ≤ (V 1 2).toInt)) (y1 : 7 - p0.toInt ≤ (dd : Int)) , Met l yX1_readWithin (Cond.code yX1_readWithin cX1_readWithin 2 (some .boolean) :: GW) (rK 10 265 dd) (va_Pc [.ref (ad 1), .int p0] (gp D ks (xw ad kk V L Z) (xty kk Z) sz)) (q_x_readWithin3 D ks ad kk V L Z p0 b gT gs gd (va_A (xw ad kk V L Z) sz)) 0 0 (va_A (xw ad kk V L Z) sz)
abbrev q_x_readPick3 (D : va_G) (ks : KS) (ad : Nat → Nat) (kk : Nat → ClassId) (V : Vf) (L : Lf) (Z : XZ) (p0 : Int32) (b : Nat) (gT : Tk) (gs : St) (gd : Nat) (A : Nat → Prop) : Array Value → State → Outcome → State → Prop := va_Qi (fun (r : Int32) (u : Vf × Lf) => rgd bX u.1 ∧ agr [(1, 3), (1, 6), (1, 8), (6, 8), (6, 9), (6, 10)] [42, 43, 44, 48] V u.1 ∧ agL [6, 44] L u.2 ∧ (0 ≤ r.toInt ∧ r.toInt ≤ 1) ∧ (Rd gT gs (fun k => Itake 40 :: Iexpr (gd + 1) :: Itake 44 :: Iexpr (gd + 1) :: Itake 44 :: Iexpr (gd + 1) :: Itake 41 :: k) (fun k => k) r.toInt (u.1 1 3).toInt (fun s9 => RelC u.1 u.2 b gT s9 ∧ keepS gs 1 s9)) ∧ (ROWL b L u.2)) (fun u t => gq D A (xw ad kk u.1 u.2 Z) (xty kk Z) t) A
def K_x_readPick3 (l : Launch) (D : va_G) (ks : KS) (dd : Nat) : Prop := ∀ (sz : Nat) (ad : Nat → Nat) (kk : Nat → ClassId) (V : Vf) (L : Lf) (Z : XZ) (p0 : Int32) (b : Nat) (gT : Tk) (gs : St) (gd : Nat) (hMV : rgd bX V) (rg_p0 : 0 ≤ p0.toInt ∧ p0.toInt ≤ 7) (hb2 : b < 2) (rbk : (V 1 1).toInt = (b : Int)) (rel : RelC V L b gT gs) (yd : p0.toInt = (gd : Int)) (wh : (V 1 4).toInt = ((gs.1 4 : Nat) : Int)) (ow : ((V 1 4).toInt = 0 → 0 ≤ (V 1 2).toInt)) (y1 : 7 - p0.toInt ≤ (dd : Int)) , Met l yX1_readPick (Cond.code yX1_readPick cX1_readPick 4 (some .boolean) :: GW) (rK 10 265 dd) (va_Pc [.ref (ad 1), .int p0] (gp D ks (xw ad kk V L Z) (xty kk Z) sz)) (q_x_readPick3 D ks ad kk V L Z p0 b gT gs gd (va_A (xw ad kk V L Z) sz)) 0 0 (va_A (xw ad kk V L Z) sz)
abbrev q_x_readOf3 (D : va_G) (ks : KS) (ad : Nat → Nat) (kk : Nat → ClassId) (V : Vf) (L : Lf) (Z : XZ) (p0 : Int32) (b : Nat) (gT : Tk) (gs : St) (gd : Nat) (A : Nat → Prop) : Array Value → State → Outcome → State → Prop := va_Qi (fun (r : Int32) (u : Vf × Lf) => rgd bX u.1 ∧ agr [(1, 3), (1, 6), (1, 8), (6, 8), (6, 9), (6, 10)] [42, 43, 44, 48] V u.1 ∧ agL [6, 44] L u.2 ∧ (0 ≤ r.toInt ∧ r.toInt ≤ 1) ∧ (Rd gT gs (fun k => Inum 0 (((gs.1 1 : Nat) : Int) - 1) :: Itake 46 :: Imeth :: Itake 40 :: Iexpr (gd + 1) :: Itake 41 :: k) (fun k => k) r.toInt (u.1 1 3).toInt (fun s9 => RelC u.1 u.2 b gT s9 ∧ keepS gs 1 s9)) ∧ (ROWL b L u.2)) (fun u t => gq D A (xw ad kk u.1 u.2 Z) (xty kk Z) t) A
def K_x_readOf3 (l : Launch) (D : va_G) (ks : KS) (dd : Nat) : Prop := ∀ (sz : Nat) (ad : Nat → Nat) (kk : Nat → ClassId) (V : Vf) (L : Lf) (Z : XZ) (p0 : Int32) (b : Nat) (gT : Tk) (gs : St) (gd : Nat) (hMV : rgd bX V) (rg_p0 : 0 ≤ p0.toInt ∧ p0.toInt ≤ 7) (hb2 : b < 2) (rbk : (V 1 1).toInt = (b : Int)) (rel : RelC V L b gT gs) (yd : p0.toInt = (gd : Int)) (wh : (V 1 4).toInt = ((gs.1 4 : Nat) : Int)) (ow : ((V 1 4).toInt = 0 → 0 ≤ (V 1 2).toInt)) (y1 : 7 - p0.toInt ≤ (dd : Int)) (owz : 0 ≤ (V 1 2).toInt) , Met l yX1_readOf (Cond.code yX1_readOf cX1_readOf 4 (some .boolean) :: GW) (rK 11 290 dd) (va_Pc [.ref (ad 1), .int p0] (gp D ks (xw ad kk V L Z) (xty kk Z) sz)) (q_x_readOf3 D ks ad kk V L Z p0 b gT gs gd (va_A (xw ad kk V L Z) sz)) 0 0 (va_A (xw ad kk V L Z) sz)
set_option maxHeartbeats 4000000 in
set_option maxRecDepth 100000 in
theorem x_readExpression3 {l : Launch} {D : va_G} {ks : KS} {dd : Nat} (hk_x_readSum3 : K_x_readSum3 l D ks dd) : K_x_readExpression3 l D ks dd := by
  intro sz ad kk V L Z p0 b gT gs gd hMV rg_p0 hb2 rbk rel yd wh ow y1
  refine g_met (q_x_readExpression3 D ks ad kk V L Z p0 b gT gs gd) (by decide) (Nat.le_of_ble_eq_true rfl) ?_
  intro p e s m below meth c A ls H locs hx hb hr hml hown hg hlocks hin hnw hgk hP hK hD hS hA hl
  have hown : s.vm.findClass RX1 = some m.cls := hown
  have hl : lv_has ls 3 [(0, .ref (ad 1)), (1, .int p0)] := hl
  have hP : va_P D vwCl (xw ad kk V L Z) H := hP
  have hD : va_D A (xw ad kk V L Z) := hD
  have hK : va_K D vwCl (xty kk Z) s := hK
  have agV : agr [(1, 3), (1, 6), (1, 8), (6, 8), (6, 9), (6, 10)] [42, 43, 44, 48] V V := agr.rf
  have alL : agL [6, 44] L L := agL.rf
  have rf_p0 := i_full p0
  have r1 : (-1) ≤ ((V 1 1)).toInt ∧ ((V 1 1)).toInt ≤ 1 := hMV 1 1
  refine lv_aload_n hx hb dX1_readExpression_0 rfl (lv_at hl 0 rfl) ?_
  refine lv_iload_n hx hb dX1_readExpression_1 rfl (lv_at hl 1 rfl) ?_
  have hr2 : ∀ k, Rc gT (Crun gs (Iexpr gd :: k)) (Crun gs (Iexpr gd :: k)) := fun k => Rc.rf
  have hr3 : ∀ k, Rc gT (Crun gs (Iexpr gd :: k)) (Crun gs (Isum gd :: Icmp gd :: k)) := fun k => Rc.go1 (hr2 k) (m_expr gd)
  refine gA_int (gA_runV (As := [.int p0]) (rest := []) (ci := 1) (q0 := 1) hx hb hml hown hg hP hD hK hS hA hnw hgk (hk_x_readSum3 H.size ad kk V L Z p0 (b) (gT) (gs) (gd) hMV (by omega) (show b < 2 from by omega) (show (V 1 1).toInt = (b : Int) from by omega) rel (show p0.toInt = (gd : Int) from by omega) wh (fun h9 => by exact ow (h9)) (show 8 - p0.toInt ≤ (dd : Int) from by omega)) w955 w957 w22 w162 w958 rfl xgReader hdV_yX1_readSum ⟨(by show 10 * dd + 8 + 1 ≤ 10 * dd + 9; omega), (by show 8 + (4 + 11) + (300 * dd + 210) ≤ 300 * dd + 240; omega)⟩ rfl hl.1 rfl (Nat.le_of_ble_eq_true rfl) dX1_readExpression_2 ⟨Nat.le_of_ble_eq_true rfl, Nat.le_of_ble_eq_true rfl⟩) hP hD hK hS hA (fun z4 u5 H locs w6 hP hD hK hS => ?_)
  obtain ⟨V9, L10⟩ := u5
  obtain ⟨hMV9, ajV9, axL10, rgz4, t7, t8⟩ := w6
  have alL10 : agL [6, 44] L L10 := agL.tr alL axL10 (by decide)
  have hP : va_P D vwCl (xw ad kk V9 L10 Z) H := hP
  have hD : va_D A (xw ad kk V9 L10 Z) := hD
  have hMV9 : rgd bX V9 := hMV9
  have ajV9 : agr [(1, 3), (1, 6), (1, 8), (6, 8), (6, 9), (6, 10)] [42, 43, 44, 48] V V9 := ajV9
  have agV9 : agr [(1, 3), (1, 6), (1, 8), (6, 8), (6, 9), (6, 10)] [42, 43, 44, 48] V V9 := agV.tr ajV9 (by decide) (by decide)
  have rgz4 : 0 ≤ z4.toInt ∧ z4.toInt ≤ 1 := rgz4
  have t7 : Rd gT gs (fun k => Isum gd :: k) (fun k => k) z4.toInt (V9 1 3).toInt (fun s9 => RelC V9 L10 b gT s9 ∧ keepS gs 1 s9) := t7
  have t8 : ROWL b L L10 := t8
  rcases t7 with ⟨q11, sx12, h13, rl14, kp15⟩ | ⟨q11, h13⟩
  · skip
    have hr16 : ∀ k, Rc gT (Crun gs (Iexpr gd :: k)) (Crun sx12 (Icmp gd :: k)) := fun k => (hr3 k).tr (h13 (Icmp gd :: k))
    refine lv_if_ne (tgt := 10) hx hb dX1_readExpression_5 (by decide) (fun c17 => ?_) (fun c17 => ?_)
    · skip
      have f18 : z4.toInt ≠ 0 := b_neq rfl (by decide) c17
      refine lv_aload_n hx hb dX1_readExpression_10 rfl (lv_at hl 0 rfl) ?_
      refine va_get (D := D) (ci := 1) (v := .ref (ad 6)) (fs := (xfReader ad V9 L10 Z)) (C := RX1) (T := TX1) (N := 9) hx hb hg inX1 hown hK hP 1 xgReader rfl 0 (by decide) (hg _ w304) (fun _ h9 => h9) rfl dX1_readExpression_11 ?_
      refine va_getN (D := D) (ci := 9) (v := .int (V9 6 9)) (fs := (xfTape ad V9 L10 Z)) (C := RX9) (T := TX9) (N := 12) hx hb hg inX9 hown hK hP 6 xgTape rfl 9 (by decide) (hnw.use 262 n262 rfl) (fun _ h9 => h9) rfl dX1_readExpression_14 ?_
      refine lv_istore_n (lv' := [(2, .int (V9 6 9)), (0, .ref (ad 1)), (1, .int p0)]) hx hb dX1_readExpression_17 rfl hl (by decide) rfl (fun ls hl => ?_)
      refine lv_iload_n hx hb dX1_readExpression_18 rfl (lv_at hl 0 rfl) ?_
      refine lv_bipush (v := 60) hx hb dX1_readExpression_19 (by decide) ?_
      refine lv_icmp_eq (tgt := 32) hx hb dX1_readExpression_21 (by decide) (fun c19 => ?_) (fun c19 => ?_)
      · skip
        have f20 : ((V9 6 9)).toInt = 60 := b_eq rfl (by decide) c19
        refine lv_aload_n hx hb dX1_readExpression_32 rfl (lv_at hl 1 rfl) ?_
        refine va_get (D := D) (ci := 1) (v := .ref (ad 6)) (fs := (xfReader ad V9 L10 Z)) (C := RX1) (T := TX1) (N := 9) hx hb hg inX1 hown hK hP 1 xgReader rfl 0 (by decide) (hg _ w304) (fun _ h9 => h9) rfl dX1_readExpression_33 ?_
        have kd21 : gT.1 (sx12.1 0) = ((V9 6 9)).toInt := RelC.kd rl14
        have hr22 : ∀ k, Rc gT (Crun gs (Iexpr gd :: k)) (Crun (nx sx12 1) (Isum gd :: k)) := fun k => Rc.go1 (hr16 k) (cmp_y gd (Or.inl (kd21.trans f20)))
        have l823 := RelC.l8 rl14
        have r24 : 0 ≤ ((V9 6 8)).toInt ∧ ((V9 6 8)).toInt ≤ 4000 := hMV9 6 8
        have pq25 : (V9 6 7).toInt = ((V 6 7)).toInt := congrArg Int32.toInt (ajV9 6 7 rfl)
        have r26 : 0 ≤ ((V 6 7)).toInt ∧ ((V 6 7)).toInt ≤ 4000 := hMV 6 7
        have lk27 := RelC.lk rl14 (show (V9 6 9).toInt ≠ 0 from by omega)
        refine gA_void (gA_runV (As := []) (rest := []) (ci := 9) (q0 := 6) hx hb hml hown hg hP hD hK hS hA hnw hgk (x_next2 l D ks H.size ad kk V9 L10 Z  hMV9 (show (V9 6 8).toInt ≤ (V9 6 7).toInt from by omega)) w871 w852 w853 w157 w854 rfl xgTape hdV_yX9_next ⟨(by show 0 + 1 ≤ 10 * dd + 9; omega), (by show 8 + (1 + 11) + (0) ≤ 300 * dd + 240; omega)⟩ rfl hl.1 rfl (Nat.le_of_ble_eq_true rfl) dX1_readExpression_36 ⟨Nat.le_of_ble_eq_true rfl, Nat.le_of_ble_eq_true rfl⟩) hP hD hK hS hA (fun u29 H locs w30 hP hD hK hS => ?_)
        obtain ⟨V33, L34⟩ := u29
        obtain ⟨hMV33, ajV33, axL34, t31, t32⟩ := w30
        have alL34 : agL [6, 44] L L34 := agL.tr alL10 axL34 (by decide)
        have hP : va_P D vwCl (xw ad kk V33 L34 Z) H := hP
        have hD : va_D A (xw ad kk V33 L34 Z) := hD
        have hMV33 : rgd bX V33 := hMV33
        have ajV33 : agr [(6, 8), (6, 9), (6, 10)] [] V9 V33 := ajV33
        have agV33 : agr [(1, 3), (1, 6), (1, 8), (6, 8), (6, 9), (6, 10)] [42, 43, 44, 48] V V33 := agV9.tr ajV33 (by decide) (by decide)
        have t31 : (V33 6 8).toInt ≤ (V33 6 7).toInt := t31
        have t32 : CUR V33 L34 (Int32.toNatClampNeg (V9 6 8)) := t32
        have r35 : 0 ≤ ((V33 6 8)).toInt ∧ ((V33 6 8)).toInt ≤ 4000 := hMV33 6 8
        have pq36 : (V33 6 7).toInt = ((V 6 7)).toInt := congrArg Int32.toInt ((ajV33 6 7 rfl).trans (ajV9 6 7 rfl))
        have rl37 : RelC V33 L34 b gT (nx sx12 1) := RelC.nx1 rl14 ajV33 (by decide) axL34 (by decide) (by rw [← lk27]; exact t32) (ajV33 1 3 rfl)
        refine lv_aload_n hx hb dX1_readExpression_39 rfl (lv_at hl 1 rfl) ?_
        refine lv_iload_n hx hb dX1_readExpression_40 rfl (lv_at hl 2 rfl) ?_
        have pq38 : (V33 1 1).toInt = ((V 1 1)).toInt := congrArg Int32.toInt ((ajV33 1 1 rfl).trans (ajV9 1 1 rfl))
        refine gA_int (gA_runV (As := [.int p0]) (rest := []) (ci := 1) (q0 := 1) hx hb hml hown hg hP hD hK hS hA hnw hgk (hk_x_readSum3 H.size ad kk V33 L34 Z p0 (b) (gT) ((nx sx12 1)) (gd) hMV33 (by omega) (show b < 2 from by omega) (show (V33 1 1).toInt = (b : Int) from by omega) rl37 (show p0.toInt = (gd : Int) from by omega) (((congrArg Int32.toInt ((ajV33 1 4 rfl).trans (ajV9 1 4 rfl))).trans wh).trans (congrArg (fun n9 : Nat => (n9 : Int)) (((keepS.tr (keepS.tr (keepS.rf : keepS gs 0 gs) kp15) (keepS.n1 1))).2.1 4 (by decide)).symm)) (fun h9 => by rw [((ajV33 1 2 rfl).trans (ajV9 1 2 rfl))]; exact ow ((congrArg Int32.toInt ((ajV33 1 4 rfl).trans (ajV9 1 4 rfl))).symm.trans h9)) (show 8 - p0.toInt ≤ (dd : Int) from by omega)) w955 w957 w22 w162 w958 rfl xgReader hdV_yX1_readSum ⟨(by show 10 * dd + 8 + 1 ≤ 10 * dd + 9; omega), (by show 8 + (4 + 11) + (300 * dd + 210) ≤ 300 * dd + 240; omega)⟩ rfl hl.1 rfl (Nat.le_of_ble_eq_true rfl) dX1_readExpression_41 ⟨Nat.le_of_ble_eq_true rfl, Nat.le_of_ble_eq_true rfl⟩) hP hD hK hS hA (fun z39 u40 H locs w41 hP hD hK hS => ?_)
        obtain ⟨V44, L45⟩ := u40
        obtain ⟨hMV44, ajV44, axL45, rgz39, t42, t43⟩ := w41
        have alL45 : agL [6, 44] L L45 := agL.tr alL34 axL45 (by decide)
        have hP : va_P D vwCl (xw ad kk V44 L45 Z) H := hP
        have hD : va_D A (xw ad kk V44 L45 Z) := hD
        have hMV44 : rgd bX V44 := hMV44
        have ajV44 : agr [(1, 3), (1, 6), (1, 8), (6, 8), (6, 9), (6, 10)] [42, 43, 44, 48] V33 V44 := ajV44
        have agV44 : agr [(1, 3), (1, 6), (1, 8), (6, 8), (6, 9), (6, 10)] [42, 43, 44, 48] V V44 := agV33.tr ajV44 (by decide) (by decide)
        have rgz39 : 0 ≤ z39.toInt ∧ z39.toInt ≤ 1 := rgz39
        have t42 : Rd gT (nx sx12 1) (fun k => Isum gd :: k) (fun k => k) z39.toInt (V44 1 3).toInt (fun s9 => RelC V44 L45 b gT s9 ∧ keepS (nx sx12 1) 1 s9) := t42
        have t43 : ROWL b L34 L45 := t43
        rcases t42 with ⟨q46, sx47, h48, rl49, kp50⟩ | ⟨q46, h48⟩
        · skip
          have hr51 : ∀ k, Rc gT (Crun gs (Iexpr gd :: k)) (Crun sx47 (k)) := fun k => (hr22 k).tr (h48 (k))
          refine lv_if_ne (tgt := 49) hx hb dX1_readExpression_44 (by decide) (fun c52 => ?_) (fun c52 => ?_)
          · skip
            have f53 : z39.toInt ≠ 0 := b_neq rfl (by decide) c52
            refine lv_aload_n hx hb dX1_readExpression_49 rfl (lv_at hl 1 rfl) ?_
            refine va_get (D := D) (ci := 1) (v := rfN ad 38 (V44 1 1)) (fs := (xfReader ad V44 L45 Z)) (C := RX1) (T := TX1) (N := 9) hx hb hg inX1 hown hK hP 1 xgReader rfl 1 (by decide) (hg _ w305) (fun _ h9 => h9) rfl dX1_readExpression_50 ?_
            have pq54 : (V44 1 1).toInt = ((V 1 1)).toInt := congrArg Int32.toInt ((ajV44 1 1 rfl).trans ((ajV33 1 1 rfl).trans (ajV9 1 1 rfl)))
            refine g_topv (v := .ref (ad (38 + b))) (rfN_r (by omega)) ?_
            refine lv_iload_n hx hb dX1_readExpression_53 rfl (lv_at hl 0 rfl) ?_
            refine lv_bipush (v := 60) hx hb dX1_readExpression_54 (by decide) ?_
            refine lv_icmp_ne (tgt := 64) hx hb dX1_readExpression_56 (by decide) (fun c55 => ?_) (fun c55 => ?_)
            · skip
              have f56 : ((V9 6 9)).toInt ≠ 60 := b_neq rfl (by decide) c55
              exfalso; omega
            · skip
              have f57 : ((V9 6 9)).toInt = 60 := b_eq rfl (by decide) c55
              refine lv_bipush (v := 8) hx hb dX1_readExpression_59 (by decide) ?_
              refine lv_goto (tgt := 66) hx hb dX1_readExpression_61 (by decide) ?_
              have r58 : Int32.toInt 8 = 8 := by decide
              refine gA_void (gA_runV (As := [.int 8]) (rest := []) (ci := 0) (q0 := (38 + b)) hx hb hml hown hg hP hD hK hS hA hnw hgk (x_emit l D ks H.size ad kk V44 L45 Z 8 (b) hMV44 (show b < 2 from by omega)) w971 w972 w973 w167 w974 rfl (xgBook hb2) hdV_yX0_emit ⟨(by show 0 + 1 ≤ 10 * dd + 9; omega), (by show 8 + (2 + 11) + (0) ≤ 300 * dd + 240; omega)⟩ rfl hl.1 rfl (Nat.le_of_ble_eq_true rfl) dX1_readExpression_66 ⟨Nat.le_of_ble_eq_true rfl, Nat.le_of_ble_eq_true rfl⟩) hP hD hK hS hA (fun u60 H locs w61 hP hD hK hS => ?_)
              obtain ⟨V63, L64⟩ := u60
              obtain ⟨hMV63, ajV63, axL64, fyV63, t62⟩ := w61
              have axL64 : L45 = L64 := Eq.symm axL64
              subst axL64
              have hP : va_P D vwCl (xw ad kk V63 L45 Z) H := hP
              have hD : va_D A (xw ad kk V63 L45 Z) := hD
              have hMV63 : rgd bX V63 := hMV63
              have ajV63 : agr [] [42, 48] V44 V63 := ajV63
              have agV63 : agr [(1, 3), (1, 6), (1, 8), (6, 8), (6, 9), (6, 10)] [42, 43, 44, 48] V V63 := agV44.tr ajV63 (by decide) (by decide)
              have t62 : emX V44 V63 b 8 := t62
              refine lv_iconst (v := 1) hx hb dX1_readExpression_69 (by decide) ?_
              have rl65 : RelC V63 L45 b gT sx47 := RelC.ag rl49 (show agr [] [42, 48] V44 V63 from (agr.tr agr.rf ajV63 (by decide) (by decide))) (by decide) (show agL [] L45 L45 from agL.rf) (by decide)
              have rw66 : ROWL b L L45 := (fun k hk => ((t43 k hk).trans ((axL34 44 k rfl).trans ((t8 k hk).trans rfl))))
              exact W.zret (v := 1) hx hb hr rfl (fun t ht hW => ⟨⟨1, (V63, L45), rfl, ⟨hMV63, agV63, alL45, (by decide), (Or.inl ⟨rfl, sx47, hr51, rl65, keepS.le (keepS.tr (keepS.tr (keepS.tr (keepS.rf : keepS gs 0 gs) kp15) (keepS.n1 1)) kp50) (by decide)⟩), rw66⟩, by rw [ht]; exact hP, va_K.moved hW.alike hK, hD⟩, hS.F ht⟩) hS.2.2 dX1_readExpression_70
          · skip
            have f67 : z39.toInt = 0 := b_eq rfl (by decide) c52
            exfalso; omega
        · skip
          have hb68 : ∀ k, Rc gT (Crun gs (Iexpr gd :: k)) (Cbad (V44 1 3).toInt) := fun k => (hr22 k).tr (h48 (k))
          refine lv_if_ne (tgt := 49) hx hb dX1_readExpression_44 (by decide) (fun c69 => ?_) (fun c69 => ?_)
          · skip
            have f70 : z39.toInt ≠ 0 := b_neq rfl (by decide) c69
            exfalso; omega
          · skip
            have f71 : z39.toInt = 0 := b_eq rfl (by decide) c69
            refine lv_iconst (v := 0) hx hb dX1_readExpression_47 (by decide) ?_
            have rw72 : ROWL b L L45 := (fun k hk => ((t43 k hk).trans ((axL34 44 k rfl).trans ((t8 k hk).trans rfl))))
            exact W.zret (v := 0) hx hb hr rfl (fun t ht hW => ⟨⟨0, (V44, L45), rfl, ⟨hMV44, agV44, alL45, (by decide), (Or.inr ⟨rfl, hb68⟩), rw72⟩, by rw [ht]; exact hP, va_K.moved hW.alike hK, hD⟩, hS.F ht⟩) hS.2.2 dX1_readExpression_48
      · skip
        have f73 : ((V9 6 9)).toInt ≠ 60 := b_neq rfl (by decide) c19
        refine lv_iload_n hx hb dX1_readExpression_24 rfl (lv_at hl 0 rfl) ?_
        refine lv_bipush (v := 61) hx hb dX1_readExpression_25 (by decide) ?_
        refine lv_icmp_eq (tgt := 32) hx hb dX1_readExpression_27 (by decide) (fun c74 => ?_) (fun c74 => ?_)
        · skip
          have f75 : ((V9 6 9)).toInt = 61 := b_eq rfl (by decide) c74
          refine lv_aload_n hx hb dX1_readExpression_32 rfl (lv_at hl 1 rfl) ?_
          refine va_get (D := D) (ci := 1) (v := .ref (ad 6)) (fs := (xfReader ad V9 L10 Z)) (C := RX1) (T := TX1) (N := 9) hx hb hg inX1 hown hK hP 1 xgReader rfl 0 (by decide) (hg _ w304) (fun _ h9 => h9) rfl dX1_readExpression_33 ?_
          have kd76 : gT.1 (sx12.1 0) = ((V9 6 9)).toInt := RelC.kd rl14
          have hr77 : ∀ k, Rc gT (Crun gs (Iexpr gd :: k)) (Crun (nx sx12 1) (Isum gd :: k)) := fun k => Rc.go1 (hr16 k) (cmp_y gd (Or.inr (kd76.trans f75)))
          have l878 := RelC.l8 rl14
          have r79 : 0 ≤ ((V9 6 8)).toInt ∧ ((V9 6 8)).toInt ≤ 4000 := hMV9 6 8
          have pq80 : (V9 6 7).toInt = ((V 6 7)).toInt := congrArg Int32.toInt (ajV9 6 7 rfl)
          have r81 : 0 ≤ ((V 6 7)).toInt ∧ ((V 6 7)).toInt ≤ 4000 := hMV 6 7
          have lk82 := RelC.lk rl14 (show (V9 6 9).toInt ≠ 0 from by omega)
          refine gA_void (gA_runV (As := []) (rest := []) (ci := 9) (q0 := 6) hx hb hml hown hg hP hD hK hS hA hnw hgk (x_next2 l D ks H.size ad kk V9 L10 Z  hMV9 (show (V9 6 8).toInt ≤ (V9 6 7).toInt from by omega)) w871 w852 w853 w157 w854 rfl xgTape hdV_yX9_next ⟨(by show 0 + 1 ≤ 10 * dd + 9; omega), (by show 8 + (1 + 11) + (0) ≤ 300 * dd + 240; omega)⟩ rfl hl.1 rfl (Nat.le_of_ble_eq_true rfl) dX1_readExpression_36 ⟨Nat.le_of_ble_eq_true rfl, Nat.le_of_ble_eq_true rfl⟩) hP hD hK hS hA (fun u84 H locs w85 hP hD hK hS => ?_)
          obtain ⟨V88, L89⟩ := u84
          obtain ⟨hMV88, ajV88, axL89, t86, t87⟩ := w85
          have alL89 : agL [6, 44] L L89 := agL.tr alL10 axL89 (by decide)
          have hP : va_P D vwCl (xw ad kk V88 L89 Z) H := hP
          have hD : va_D A (xw ad kk V88 L89 Z) := hD
          have hMV88 : rgd bX V88 := hMV88
          have ajV88 : agr [(6, 8), (6, 9), (6, 10)] [] V9 V88 := ajV88
          have agV88 : agr [(1, 3), (1, 6), (1, 8), (6, 8), (6, 9), (6, 10)] [42, 43, 44, 48] V V88 := agV9.tr ajV88 (by decide) (by decide)
          have t86 : (V88 6 8).toInt ≤ (V88 6 7).toInt := t86
          have t87 : CUR V88 L89 (Int32.toNatClampNeg (V9 6 8)) := t87
          have r90 : 0 ≤ ((V88 6 8)).toInt ∧ ((V88 6 8)).toInt ≤ 4000 := hMV88 6 8
          have pq91 : (V88 6 7).toInt = ((V 6 7)).toInt := congrArg Int32.toInt ((ajV88 6 7 rfl).trans (ajV9 6 7 rfl))
          have rl92 : RelC V88 L89 b gT (nx sx12 1) := RelC.nx1 rl14 ajV88 (by decide) axL89 (by decide) (by rw [← lk82]; exact t87) (ajV88 1 3 rfl)
          refine lv_aload_n hx hb dX1_readExpression_39 rfl (lv_at hl 1 rfl) ?_
          refine lv_iload_n hx hb dX1_readExpression_40 rfl (lv_at hl 2 rfl) ?_
          have pq93 : (V88 1 1).toInt = ((V 1 1)).toInt := congrArg Int32.toInt ((ajV88 1 1 rfl).trans (ajV9 1 1 rfl))
          refine gA_int (gA_runV (As := [.int p0]) (rest := []) (ci := 1) (q0 := 1) hx hb hml hown hg hP hD hK hS hA hnw hgk (hk_x_readSum3 H.size ad kk V88 L89 Z p0 (b) (gT) ((nx sx12 1)) (gd) hMV88 (by omega) (show b < 2 from by omega) (show (V88 1 1).toInt = (b : Int) from by omega) rl92 (show p0.toInt = (gd : Int) from by omega) (((congrArg Int32.toInt ((ajV88 1 4 rfl).trans (ajV9 1 4 rfl))).trans wh).trans (congrArg (fun n9 : Nat => (n9 : Int)) (((keepS.tr (keepS.tr (keepS.rf : keepS gs 0 gs) kp15) (keepS.n1 1))).2.1 4 (by decide)).symm)) (fun h9 => by rw [((ajV88 1 2 rfl).trans (ajV9 1 2 rfl))]; exact ow ((congrArg Int32.toInt ((ajV88 1 4 rfl).trans (ajV9 1 4 rfl))).symm.trans h9)) (show 8 - p0.toInt ≤ (dd : Int) from by omega)) w955 w957 w22 w162 w958 rfl xgReader hdV_yX1_readSum ⟨(by show 10 * dd + 8 + 1 ≤ 10 * dd + 9; omega), (by show 8 + (4 + 11) + (300 * dd + 210) ≤ 300 * dd + 240; omega)⟩ rfl hl.1 rfl (Nat.le_of_ble_eq_true rfl) dX1_readExpression_41 ⟨Nat.le_of_ble_eq_true rfl, Nat.le_of_ble_eq_true rfl⟩) hP hD hK hS hA (fun z94 u95 H locs w96 hP hD hK hS => ?_)
          obtain ⟨V99, L100⟩ := u95
          obtain ⟨hMV99, ajV99, axL100, rgz94, t97, t98⟩ := w96
          have alL100 : agL [6, 44] L L100 := agL.tr alL89 axL100 (by decide)
          have hP : va_P D vwCl (xw ad kk V99 L100 Z) H := hP
          have hD : va_D A (xw ad kk V99 L100 Z) := hD
          have hMV99 : rgd bX V99 := hMV99
          have ajV99 : agr [(1, 3), (1, 6), (1, 8), (6, 8), (6, 9), (6, 10)] [42, 43, 44, 48] V88 V99 := ajV99
          have agV99 : agr [(1, 3), (1, 6), (1, 8), (6, 8), (6, 9), (6, 10)] [42, 43, 44, 48] V V99 := agV88.tr ajV99 (by decide) (by decide)
          have rgz94 : 0 ≤ z94.toInt ∧ z94.toInt ≤ 1 := rgz94
          have t97 : Rd gT (nx sx12 1) (fun k => Isum gd :: k) (fun k => k) z94.toInt (V99 1 3).toInt (fun s9 => RelC V99 L100 b gT s9 ∧ keepS (nx sx12 1) 1 s9) := t97
          have t98 : ROWL b L89 L100 := t98
          rcases t97 with ⟨q101, sx102, h103, rl104, kp105⟩ | ⟨q101, h103⟩
          · skip
            have hr106 : ∀ k, Rc gT (Crun gs (Iexpr gd :: k)) (Crun sx102 (k)) := fun k => (hr77 k).tr (h103 (k))
            refine lv_if_ne (tgt := 49) hx hb dX1_readExpression_44 (by decide) (fun c107 => ?_) (fun c107 => ?_)
            · skip
              have f108 : z94.toInt ≠ 0 := b_neq rfl (by decide) c107
              refine lv_aload_n hx hb dX1_readExpression_49 rfl (lv_at hl 1 rfl) ?_
              refine va_get (D := D) (ci := 1) (v := rfN ad 38 (V99 1 1)) (fs := (xfReader ad V99 L100 Z)) (C := RX1) (T := TX1) (N := 9) hx hb hg inX1 hown hK hP 1 xgReader rfl 1 (by decide) (hg _ w305) (fun _ h9 => h9) rfl dX1_readExpression_50 ?_
              have pq109 : (V99 1 1).toInt = ((V 1 1)).toInt := congrArg Int32.toInt ((ajV99 1 1 rfl).trans ((ajV88 1 1 rfl).trans (ajV9 1 1 rfl)))
              refine g_topv (v := .ref (ad (38 + b))) (rfN_r (by omega)) ?_
              refine lv_iload_n hx hb dX1_readExpression_53 rfl (lv_at hl 0 rfl) ?_
              refine lv_bipush (v := 60) hx hb dX1_readExpression_54 (by decide) ?_
              refine lv_icmp_ne (tgt := 64) hx hb dX1_readExpression_56 (by decide) (fun c110 => ?_) (fun c110 => ?_)
              · skip
                have f111 : ((V9 6 9)).toInt ≠ 60 := b_neq rfl (by decide) c110
                refine lv_bipush (v := 9) hx hb dX1_readExpression_64 (by decide) ?_
                have r112 : Int32.toInt 9 = 9 := by decide
                refine gA_void (gA_runV (As := [.int 9]) (rest := []) (ci := 0) (q0 := (38 + b)) hx hb hml hown hg hP hD hK hS hA hnw hgk (x_emit l D ks H.size ad kk V99 L100 Z 9 (b) hMV99 (show b < 2 from by omega)) w971 w972 w973 w167 w974 rfl (xgBook hb2) hdV_yX0_emit ⟨(by show 0 + 1 ≤ 10 * dd + 9; omega), (by show 8 + (2 + 11) + (0) ≤ 300 * dd + 240; omega)⟩ rfl hl.1 rfl (Nat.le_of_ble_eq_true rfl) dX1_readExpression_66 ⟨Nat.le_of_ble_eq_true rfl, Nat.le_of_ble_eq_true rfl⟩) hP hD hK hS hA (fun u114 H locs w115 hP hD hK hS => ?_)
                obtain ⟨V117, L118⟩ := u114
                obtain ⟨hMV117, ajV117, axL118, fyV117, t116⟩ := w115
                have axL118 : L100 = L118 := Eq.symm axL118
                subst axL118
                have hP : va_P D vwCl (xw ad kk V117 L100 Z) H := hP
                have hD : va_D A (xw ad kk V117 L100 Z) := hD
                have hMV117 : rgd bX V117 := hMV117
                have ajV117 : agr [] [42, 48] V99 V117 := ajV117
                have agV117 : agr [(1, 3), (1, 6), (1, 8), (6, 8), (6, 9), (6, 10)] [42, 43, 44, 48] V V117 := agV99.tr ajV117 (by decide) (by decide)
                have t116 : emX V99 V117 b 9 := t116
                refine lv_iconst (v := 1) hx hb dX1_readExpression_69 (by decide) ?_
                have rl119 : RelC V117 L100 b gT sx102 := RelC.ag rl104 (show agr [] [42, 48] V99 V117 from (agr.tr agr.rf ajV117 (by decide) (by decide))) (by decide) (show agL [] L100 L100 from agL.rf) (by decide)
                have rw120 : ROWL b L L100 := (fun k hk => ((t98 k hk).trans ((axL89 44 k rfl).trans ((t8 k hk).trans rfl))))
                exact W.zret (v := 1) hx hb hr rfl (fun t ht hW => ⟨⟨1, (V117, L100), rfl, ⟨hMV117, agV117, alL100, (by decide), (Or.inl ⟨rfl, sx102, hr106, rl119, keepS.le (keepS.tr (keepS.tr (keepS.tr (keepS.rf : keepS gs 0 gs) kp15) (keepS.n1 1)) kp105) (by decide)⟩), rw120⟩, by rw [ht]; exact hP, va_K.moved hW.alike hK, hD⟩, hS.F ht⟩) hS.2.2 dX1_readExpression_70
              · skip
                have f121 : ((V9 6 9)).toInt = 60 := b_eq rfl (by decide) c110
                exfalso; omega
            · skip
              have f122 : z94.toInt = 0 := b_eq rfl (by decide) c107
              exfalso; omega
          · skip
            have hb123 : ∀ k, Rc gT (Crun gs (Iexpr gd :: k)) (Cbad (V99 1 3).toInt) := fun k => (hr77 k).tr (h103 (k))
            refine lv_if_ne (tgt := 49) hx hb dX1_readExpression_44 (by decide) (fun c124 => ?_) (fun c124 => ?_)
            · skip
              have f125 : z94.toInt ≠ 0 := b_neq rfl (by decide) c124
              exfalso; omega
            · skip
              have f126 : z94.toInt = 0 := b_eq rfl (by decide) c124
              refine lv_iconst (v := 0) hx hb dX1_readExpression_47 (by decide) ?_
              have rw127 : ROWL b L L100 := (fun k hk => ((t98 k hk).trans ((axL89 44 k rfl).trans ((t8 k hk).trans rfl))))
              exact W.zret (v := 0) hx hb hr rfl (fun t ht hW => ⟨⟨0, (V99, L100), rfl, ⟨hMV99, agV99, alL100, (by decide), (Or.inr ⟨rfl, hb123⟩), rw127⟩, by rw [ht]; exact hP, va_K.moved hW.alike hK, hD⟩, hS.F ht⟩) hS.2.2 dX1_readExpression_48
        · skip
          have f128 : ((V9 6 9)).toInt ≠ 61 := b_neq rfl (by decide) c74
          refine lv_iconst (v := 1) hx hb dX1_readExpression_30 (by decide) ?_
          have kd129 : gT.1 (sx12.1 0) = ((V9 6 9)).toInt := RelC.kd rl14
          have hr130 : ∀ k, Rc gT (Crun gs (Iexpr gd :: k)) (Crun sx12 (k)) := fun k => Rc.go1 (hr16 k) (cmp_n gd (fun h9 => f73 (kd129.symm.trans h9)) (fun h9 => f128 (kd129.symm.trans h9)))
          have rw131 : ROWL b L L10 := (fun k hk => ((t8 k hk).trans rfl))
          exact W.zret (v := 1) hx hb hr rfl (fun t ht hW => ⟨⟨1, (V9, L10), rfl, ⟨hMV9, agV9, alL10, (by decide), (Or.inl ⟨rfl, sx12, hr130, rl14, keepS.le (keepS.tr (keepS.rf : keepS gs 0 gs) kp15) (by decide)⟩), rw131⟩, by rw [ht]; exact hP, va_K.moved hW.alike hK, hD⟩, hS.F ht⟩) hS.2.2 dX1_readExpression_31
    · skip
      have f132 : z4.toInt = 0 := b_eq rfl (by decide) c17
      exfalso; omega
  · skip
    have hb133 : ∀ k, Rc gT (Crun gs (Iexpr gd :: k)) (Cbad (V9 1 3).toInt) := fun k => (hr3 k).tr (h13 (Icmp gd :: k))
    refine lv_if_ne (tgt := 10) hx hb dX1_readExpression_5 (by decide) (fun c134 => ?_) (fun c134 => ?_)
    · skip
      have f135 : z4.toInt ≠ 0 := b_neq rfl (by decide) c134
      exfalso; omega
    · skip
      have f136 : z4.toInt = 0 := b_eq rfl (by decide) c134
      refine lv_iconst (v := 0) hx hb dX1_readExpression_8 (by decide) ?_
      have rw137 : ROWL b L L10 := (fun k hk => ((t8 k hk).trans rfl))
      exact W.zret (v := 0) hx hb hr rfl (fun t ht hW => ⟨⟨0, (V9, L10), rfl, ⟨hMV9, agV9, alL10, (by decide), (Or.inr ⟨rfl, hb133⟩), rw137⟩, by rw [ht]; exact hP, va_K.moved hW.alike hK, hD⟩, hS.F ht⟩) hS.2.2 dX1_readExpression_9
set_option maxHeartbeats 4000000 in
set_option maxRecDepth 100000 in
theorem x_readSum3 {l : Launch} {D : va_G} {ks : KS} {dd : Nat} (hk_x_readProduct3 : K_x_readProduct3 l D ks dd) : K_x_readSum3 l D ks dd := by
  intro sz ad kk V L Z p0 b gT gs gd hMV rg_p0 hb2 rbk rel yd wh ow y1
  refine g_met (q_x_readSum3 D ks ad kk V L Z p0 b gT gs gd) (by decide) (Nat.le_of_ble_eq_true rfl) ?_
  intro p e s m below meth c A ls H locs hx hb hr hml hown hg hlocks hin hnw hgk hP hK hD hS hA hl
  have hown : s.vm.findClass RX1 = some m.cls := hown
  have hl : lv_has ls 4 [(0, .ref (ad 1)), (1, .int p0)] := hl
  have hP : va_P D vwCl (xw ad kk V L Z) H := hP
  have hD : va_D A (xw ad kk V L Z) := hD
  have hK : va_K D vwCl (xty kk Z) s := hK
  have agV : agr [(1, 3), (1, 6), (1, 8), (6, 8), (6, 9), (6, 10)] [42, 43, 44, 48] V V := agr.rf
  have alL : agL [6, 44] L L := agL.rf
  have rf_p0 := i_full p0
  have r1 : (-1) ≤ ((V 1 1)).toInt ∧ ((V 1 1)).toInt ≤ 1 := hMV 1 1
  refine lv_aload_n hx hb dX1_readSum_0 rfl (lv_at hl 0 rfl) ?_
  refine lv_iload_n hx hb dX1_readSum_1 rfl (lv_at hl 1 rfl) ?_
  have hr2 : ∀ k, Rc gT (Crun gs (Isum gd :: k)) (Crun gs (Isum gd :: k)) := fun k => Rc.rf
  have hr3 : ∀ k, Rc gT (Crun gs (Isum gd :: k)) (Crun gs (Iprod gd :: IsumR gd :: k)) := fun k => Rc.go1 (hr2 k) (m_sum gd)
  refine gA_int (gA_runV (As := [.int p0]) (rest := []) (ci := 1) (q0 := 1) hx hb hml hown hg hP hD hK hS hA hnw hgk (hk_x_readProduct3 H.size ad kk V L Z p0 (b) (gT) (gs) (gd) hMV (by omega) (show b < 2 from by omega) (show (V 1 1).toInt = (b : Int) from by omega) rel (show p0.toInt = (gd : Int) from by omega) wh (fun h9 => by exact ow (h9)) (show 8 - p0.toInt ≤ (dd : Int) from by omega)) w959 w961 w23 w162 w962 rfl xgReader hdV_yX1_readProduct ⟨(by show 10 * dd + 7 + 1 ≤ 10 * dd + 8; omega), (by show 8 + (3 + 11) + (300 * dd + 180) ≤ 300 * dd + 210; omega)⟩ rfl hl.1 rfl (Nat.le_of_ble_eq_true rfl) dX1_readSum_2 ⟨Nat.le_of_ble_eq_true rfl, Nat.le_of_ble_eq_true rfl⟩) hP hD hK hS hA (fun z4 u5 H locs w6 hP hD hK hS => ?_)
  obtain ⟨V9, L10⟩ := u5
  obtain ⟨hMV9, ajV9, axL10, rgz4, t7, t8⟩ := w6
  have alL10 : agL [6, 44] L L10 := agL.tr alL axL10 (by decide)
  have hP : va_P D vwCl (xw ad kk V9 L10 Z) H := hP
  have hD : va_D A (xw ad kk V9 L10 Z) := hD
  have hMV9 : rgd bX V9 := hMV9
  have ajV9 : agr [(1, 3), (1, 6), (1, 8), (6, 8), (6, 9), (6, 10)] [42, 43, 44, 48] V V9 := ajV9
  have agV9 : agr [(1, 3), (1, 6), (1, 8), (6, 8), (6, 9), (6, 10)] [42, 43, 44, 48] V V9 := agV.tr ajV9 (by decide) (by decide)
  have rgz4 : 0 ≤ z4.toInt ∧ z4.toInt ≤ 1 := rgz4
  have t7 : Rd gT gs (fun k => Iprod gd :: k) (fun k => k) z4.toInt (V9 1 3).toInt (fun s9 => RelC V9 L10 b gT s9 ∧ keepS gs 1 s9) := t7
  have t8 : ROWL b L L10 := t8
  rcases t7 with ⟨q11, sx12, h13, rl14, kp15⟩ | ⟨q11, h13⟩
  · skip
    have hr16 : ∀ k, Rc gT (Crun gs (Isum gd :: k)) (Crun sx12 (IsumR gd :: k)) := fun k => (hr3 k).tr (h13 (IsumR gd :: k))
    refine lv_if_ne (tgt := 10) hx hb dX1_readSum_5 (by decide) (fun c17 => ?_) (fun c17 => ?_)
    · skip
      have f18 : z4.toInt ≠ 0 := b_neq rfl (by decide) c17
      refine lv_iconst (v := 0) hx hb dX1_readSum_10 (by decide) ?_
      refine lv_istore_n (lv' := [(2, .int 0), (0, .ref (ad 1)), (1, .int p0)]) hx hb dX1_readSum_11 rfl hl (by decide) rfl (fun ls hl => ?_)
      have lp22 : ∀ (fulp22 : Nat) (y19 : Int32) (V20 : Vf) (L21 : Lf) (H : Heap) (locs : List Loc) (ls : Array Slot), 0 ≤ y19.toInt ∧ y19.toInt ≤ 4000 → (∃ s1 : St, (∀ k, Rc gT (Crun gs (Isum gd :: k)) (Crun s1 (IsumR gd :: k))) ∧ RelC V20 L21 b gT s1 ∧ keepS gs 1 s1 ∧ y19.toInt ≤ ((s1.1 0 : Nat) : Int)) → (V20 1 1).toInt = (b : Int) → (ROWL b L L21) → 4000 - y19.toInt < (fulp22 : Int) → agL [6, 44] L L21 → agr [(1, 3), (1, 6), (1, 8), (6, 8), (6, 9), (6, 10)] [42, 43, 44, 48] V9 V20 → rgd bX V20 → va_P D vwCl (xw ad kk V20 L21 Z) H → va_D A (xw ad kk V20 L21 Z) → va_S A s.heap H locs → lv_has ls 4 [(2, .int y19), (0, .ref (ad 1)), (1, .int p0)] → W p l e (rK 8 210 dd) s m ([.ref (ad 1), .int p0] : List Value).toArray below meth c H locs 0 0 (MQ below (q_x_readSum3 D ks ad kk V L Z p0 b gT gs gd A) ([.ref (ad 1), .int p0] : List Value).toArray s 0 0 A) (F0 m 12 ls []) := by
        intro fulp22
        induction fulp22 with
        | zero =>
          intro y19 V20 L21 H locs ls klp22_0 xlp22_0 xlp22_1 xlp22_2 hn alL21 ajV20 hMV20 hP hD hS hl
          exfalso; omega
        | succ fulp22 ihlp22 =>
          intro y19 V20 L21 H locs ls klp22_0 xlp22_0 xlp22_1 xlp22_2 hn alL21 ajV20 hMV20 hP hD hS hl
          have agV20 : agr [(1, 3), (1, 6), (1, 8), (6, 8), (6, 9), (6, 10)] [42, 43, 44, 48] V V20 := agV9.tr ajV20 (by decide) (by decide)
          have pq23 : (V20 1 1).toInt = ((V 1 1)).toInt := congrArg Int32.toInt ((ajV20 1 1 rfl).trans (ajV9 1 1 rfl))
          refine lv_iload_n hx hb dX1_readSum_12 rfl (lv_at hl 0 rfl) ?_
          obtain ⟨s1, hq, rq, kq, iq⟩ := xlp22_0
          refine lv_sipush (v := 4000) hx hb dX1_readSum_13 (by decide) ?_
          refine lv_icmp_ge (tgt := 93) hx hb dX1_readSum_16 (by decide) (fun c24 => ?_) (fun c24 => ?_)
          · skip
            have f25 : 4000 ≤ y19.toInt := b_le (by decide) rfl c24
            refine lv_iconst (v := 1) hx hb dX1_readSum_93 (by decide) ?_
            have kd26 : gT.1 (s1.1 0) = ((V20 6 9)).toInt := RelC.kd rq
            have kz27 : gT.1 (s1.1 0) = 0 := RelC.e4 rq (show 0 ≤ (V20 6 7).toInt ∧ (V20 6 7).toInt ≤ 4000 from hMV20 6 7).2 (by omega)
            have hr28 : ∀ k, Rc gT (Crun gs (Isum gd :: k)) (Crun s1 (k)) := fun k => Rc.go1 (hq k) (sumR_n gd (fun h9 => absurd (h9.symm.trans kz27) (by decide)) (fun h9 => absurd (h9.symm.trans kz27) (by decide)))
            have rw29 : ROWL b L L21 := (fun k hk => (xlp22_2 k hk))
            exact W.zret (v := 1) hx hb hr rfl (fun t ht hW => ⟨⟨1, (V20, L21), rfl, ⟨hMV20, agV20, alL21, (by decide), (Or.inl ⟨rfl, s1, hr28, rq, keepS.le (keepS.tr (keepS.rf : keepS gs 0 gs) kq) (by decide)⟩), rw29⟩, by rw [ht]; exact hP, va_K.moved hW.alike hK, hD⟩, hS.F ht⟩) hS.2.2 dX1_readSum_94
          · skip
            have f30 : y19.toInt < 4000 := b_nle (by decide) rfl c24
            refine lv_aload_n hx hb dX1_readSum_19 rfl (lv_at hl 1 rfl) ?_
            refine va_get (D := D) (ci := 1) (v := .ref (ad 6)) (fs := (xfReader ad V20 L21 Z)) (C := RX1) (T := TX1) (N := 9) hx hb hg inX1 hown hK hP 1 xgReader rfl 0 (by decide) (hg _ w304) (fun _ h9 => h9) rfl dX1_readSum_20 ?_
            refine va_getN (D := D) (ci := 9) (v := .int (V20 6 9)) (fs := (xfTape ad V20 L21 Z)) (C := RX9) (T := TX9) (N := 12) hx hb hg inX9 hown hK hP 6 xgTape rfl 9 (by decide) (hnw.use 262 n262 rfl) (fun _ h9 => h9) rfl dX1_readSum_23 ?_
            refine lv_bipush (v := 43) hx hb dX1_readSum_26 (by decide) ?_
            refine lv_icmp_eq (tgt := 43) hx hb dX1_readSum_28 (by decide) (fun c31 => ?_) (fun c31 => ?_)
            · skip
              have f32 : ((V20 6 9)).toInt = 43 := b_eq rfl (by decide) c31
              refine lv_aload_n hx hb dX1_readSum_43 rfl (lv_at hl 1 rfl) ?_
              refine va_get (D := D) (ci := 1) (v := .ref (ad 6)) (fs := (xfReader ad V20 L21 Z)) (C := RX1) (T := TX1) (N := 9) hx hb hg inX1 hown hK hP 1 xgReader rfl 0 (by decide) (hg _ w304) (fun _ h9 => h9) rfl dX1_readSum_44 ?_
              refine va_getN (D := D) (ci := 9) (v := .int (V20 6 9)) (fs := (xfTape ad V20 L21 Z)) (C := RX9) (T := TX9) (N := 12) hx hb hg inX9 hown hK hP 6 xgTape rfl 9 (by decide) (hnw.use 262 n262 rfl) (fun _ h9 => h9) rfl dX1_readSum_47 ?_
              refine lv_bipush (v := 43) hx hb dX1_readSum_50 (by decide) ?_
              refine lv_icmp_ne (tgt := 59) hx hb dX1_readSum_52 (by decide) (fun c33 => ?_) (fun c33 => ?_)
              · skip
                have f34 : ((V20 6 9)).toInt ≠ 43 := b_neq rfl (by decide) c33
                exfalso; omega
              · skip
                have f35 : ((V20 6 9)).toInt = 43 := b_eq rfl (by decide) c33
                refine lv_iconst (v := 5) hx hb dX1_readSum_55 (by decide) ?_
                refine lv_goto (tgt := 61) hx hb dX1_readSum_56 (by decide) ?_
                refine lv_istore_n (lv' := [(3, .int 5), (2, .int y19), (0, .ref (ad 1)), (1, .int p0)]) hx hb dX1_readSum_61 rfl hl (by decide) rfl (fun ls hl => ?_)
                refine lv_aload_n hx hb dX1_readSum_62 rfl (lv_at hl 2 rfl) ?_
                refine va_get (D := D) (ci := 1) (v := .ref (ad 6)) (fs := (xfReader ad V20 L21 Z)) (C := RX1) (T := TX1) (N := 9) hx hb hg inX1 hown hK hP 1 xgReader rfl 0 (by decide) (hg _ w304) (fun _ h9 => h9) rfl dX1_readSum_63 ?_
                have kd36 : gT.1 (s1.1 0) = ((V20 6 9)).toInt := RelC.kd rq
                have hr37 : ∀ k, Rc gT (Crun gs (Isum gd :: k)) (Crun (nx s1 1) (Iprod gd :: IsumR gd :: k)) := fun k => Rc.go1 (hq k) (sumR_y gd (Or.inl (kd36.trans f35)))
                have l838 := RelC.l8 rq
                have r39 : 0 ≤ ((V20 6 8)).toInt ∧ ((V20 6 8)).toInt ≤ 4000 := hMV20 6 8
                have pq40 : (V20 6 7).toInt = ((V 6 7)).toInt := congrArg Int32.toInt ((ajV20 6 7 rfl).trans (ajV9 6 7 rfl))
                have r41 : 0 ≤ ((V 6 7)).toInt ∧ ((V 6 7)).toInt ≤ 4000 := hMV 6 7
                have lk42 := RelC.lk rq (show (V20 6 9).toInt ≠ 0 from by omega)
                refine gA_void (gA_runV (As := []) (rest := []) (ci := 9) (q0 := 6) hx hb hml hown hg hP hD hK hS hA hnw hgk (x_next2 l D ks H.size ad kk V20 L21 Z  hMV20 (show (V20 6 8).toInt ≤ (V20 6 7).toInt from by omega)) w871 w852 w853 w157 w854 rfl xgTape hdV_yX9_next ⟨(by show 0 + 1 ≤ 10 * dd + 8; omega), (by show 8 + (1 + 11) + (0) ≤ 300 * dd + 210; omega)⟩ rfl hl.1 rfl (Nat.le_of_ble_eq_true rfl) dX1_readSum_66 ⟨Nat.le_of_ble_eq_true rfl, Nat.le_of_ble_eq_true rfl⟩) hP hD hK hS hA (fun u44 H locs w45 hP hD hK hS => ?_)
                obtain ⟨V48, L49⟩ := u44
                obtain ⟨hMV48, ajV48, axL49, t46, t47⟩ := w45
                have alL49 : agL [6, 44] L L49 := agL.tr alL21 axL49 (by decide)
                have hP : va_P D vwCl (xw ad kk V48 L49 Z) H := hP
                have hD : va_D A (xw ad kk V48 L49 Z) := hD
                have hMV48 : rgd bX V48 := hMV48
                have ajV48 : agr [(6, 8), (6, 9), (6, 10)] [] V20 V48 := ajV48
                have agV48 : agr [(1, 3), (1, 6), (1, 8), (6, 8), (6, 9), (6, 10)] [42, 43, 44, 48] V V48 := agV20.tr ajV48 (by decide) (by decide)
                have t46 : (V48 6 8).toInt ≤ (V48 6 7).toInt := t46
                have t47 : CUR V48 L49 (Int32.toNatClampNeg (V20 6 8)) := t47
                have r50 : 0 ≤ ((V48 6 8)).toInt ∧ ((V48 6 8)).toInt ≤ 4000 := hMV48 6 8
                have pq51 : (V48 6 7).toInt = ((V 6 7)).toInt := congrArg Int32.toInt ((ajV48 6 7 rfl).trans ((ajV20 6 7 rfl).trans (ajV9 6 7 rfl)))
                have rl52 : RelC V48 L49 b gT (nx s1 1) := RelC.nx1 rq ajV48 (by decide) axL49 (by decide) (by rw [← lk42]; exact t47) (ajV48 1 3 rfl)
                refine lv_aload_n hx hb dX1_readSum_69 rfl (lv_at hl 2 rfl) ?_
                refine lv_iload_n hx hb dX1_readSum_70 rfl (lv_at hl 3 rfl) ?_
                have pq53 : (V48 1 1).toInt = ((V 1 1)).toInt := congrArg Int32.toInt ((ajV48 1 1 rfl).trans ((ajV20 1 1 rfl).trans (ajV9 1 1 rfl)))
                refine gA_int (gA_runV (As := [.int p0]) (rest := []) (ci := 1) (q0 := 1) hx hb hml hown hg hP hD hK hS hA hnw hgk (hk_x_readProduct3 H.size ad kk V48 L49 Z p0 (b) (gT) ((nx s1 1)) (gd) hMV48 (by omega) (show b < 2 from by omega) (show (V48 1 1).toInt = (b : Int) from by omega) rl52 (show p0.toInt = (gd : Int) from by omega) (((congrArg Int32.toInt ((ajV48 1 4 rfl).trans ((ajV20 1 4 rfl).trans (ajV9 1 4 rfl)))).trans wh).trans (congrArg (fun n9 : Nat => (n9 : Int)) (((keepS.tr (keepS.tr (keepS.rf : keepS gs 0 gs) kq) (keepS.n1 1))).2.1 4 (by decide)).symm)) (fun h9 => by rw [((ajV48 1 2 rfl).trans ((ajV20 1 2 rfl).trans (ajV9 1 2 rfl)))]; exact ow ((congrArg Int32.toInt ((ajV48 1 4 rfl).trans ((ajV20 1 4 rfl).trans (ajV9 1 4 rfl)))).symm.trans h9)) (show 8 - p0.toInt ≤ (dd : Int) from by omega)) w959 w961 w23 w162 w962 rfl xgReader hdV_yX1_readProduct ⟨(by show 10 * dd + 7 + 1 ≤ 10 * dd + 8; omega), (by show 8 + (3 + 11) + (300 * dd + 180) ≤ 300 * dd + 210; omega)⟩ rfl hl.1 rfl (Nat.le_of_ble_eq_true rfl) dX1_readSum_71 ⟨Nat.le_of_ble_eq_true rfl, Nat.le_of_ble_eq_true rfl⟩) hP hD hK hS hA (fun z54 u55 H locs w56 hP hD hK hS => ?_)
                obtain ⟨V59, L60⟩ := u55
                obtain ⟨hMV59, ajV59, axL60, rgz54, t57, t58⟩ := w56
                have alL60 : agL [6, 44] L L60 := agL.tr alL49 axL60 (by decide)
                have hP : va_P D vwCl (xw ad kk V59 L60 Z) H := hP
                have hD : va_D A (xw ad kk V59 L60 Z) := hD
                have hMV59 : rgd bX V59 := hMV59
                have ajV59 : agr [(1, 3), (1, 6), (1, 8), (6, 8), (6, 9), (6, 10)] [42, 43, 44, 48] V48 V59 := ajV59
                have agV59 : agr [(1, 3), (1, 6), (1, 8), (6, 8), (6, 9), (6, 10)] [42, 43, 44, 48] V V59 := agV48.tr ajV59 (by decide) (by decide)
                have rgz54 : 0 ≤ z54.toInt ∧ z54.toInt ≤ 1 := rgz54
                have t57 : Rd gT (nx s1 1) (fun k => Iprod gd :: k) (fun k => k) z54.toInt (V59 1 3).toInt (fun s9 => RelC V59 L60 b gT s9 ∧ keepS (nx s1 1) 1 s9) := t57
                have t58 : ROWL b L49 L60 := t58
                rcases t57 with ⟨q61, sx62, h63, rl64, kp65⟩ | ⟨q61, h63⟩
                · skip
                  have hr66 : ∀ k, Rc gT (Crun gs (Isum gd :: k)) (Crun sx62 (IsumR gd :: k)) := fun k => (hr37 k).tr (h63 (IsumR gd :: k))
                  refine lv_if_ne (tgt := 79) hx hb dX1_readSum_74 (by decide) (fun c67 => ?_) (fun c67 => ?_)
                  · skip
                    have f68 : z54.toInt ≠ 0 := b_neq rfl (by decide) c67
                    refine lv_aload_n hx hb dX1_readSum_79 rfl (lv_at hl 2 rfl) ?_
                    refine va_get (D := D) (ci := 1) (v := rfN ad 38 (V59 1 1)) (fs := (xfReader ad V59 L60 Z)) (C := RX1) (T := TX1) (N := 9) hx hb hg inX1 hown hK hP 1 xgReader rfl 1 (by decide) (hg _ w305) (fun _ h9 => h9) rfl dX1_readSum_80 ?_
                    have pq69 : (V59 1 1).toInt = ((V 1 1)).toInt := congrArg Int32.toInt ((ajV59 1 1 rfl).trans ((ajV48 1 1 rfl).trans ((ajV20 1 1 rfl).trans (ajV9 1 1 rfl))))
                    refine g_topv (v := .ref (ad (38 + b))) (rfN_r (by omega)) ?_
                    refine lv_iload_n hx hb dX1_readSum_83 rfl (lv_at hl 0 rfl) ?_
                    have r70 : Int32.toInt 5 = 5 := by decide
                    refine gA_void (gA_runV (As := [.int 5]) (rest := []) (ci := 0) (q0 := (38 + b)) hx hb hml hown hg hP hD hK hS hA hnw hgk (x_emit l D ks H.size ad kk V59 L60 Z 5 (b) hMV59 (show b < 2 from by omega)) w971 w972 w973 w167 w974 rfl (xgBook hb2) hdV_yX0_emit ⟨(by show 0 + 1 ≤ 10 * dd + 8; omega), (by show 8 + (2 + 11) + (0) ≤ 300 * dd + 210; omega)⟩ rfl hl.1 rfl (Nat.le_of_ble_eq_true rfl) dX1_readSum_84 ⟨Nat.le_of_ble_eq_true rfl, Nat.le_of_ble_eq_true rfl⟩) hP hD hK hS hA (fun u72 H locs w73 hP hD hK hS => ?_)
                    obtain ⟨V75, L76⟩ := u72
                    obtain ⟨hMV75, ajV75, axL76, fyV75, t74⟩ := w73
                    have axL76 : L60 = L76 := Eq.symm axL76
                    subst axL76
                    have hP : va_P D vwCl (xw ad kk V75 L60 Z) H := hP
                    have hD : va_D A (xw ad kk V75 L60 Z) := hD
                    have hMV75 : rgd bX V75 := hMV75
                    have ajV75 : agr [] [42, 48] V59 V75 := ajV75
                    have agV75 : agr [(1, 3), (1, 6), (1, 8), (6, 8), (6, 9), (6, 10)] [42, 43, 44, 48] V V75 := agV59.tr ajV75 (by decide) (by decide)
                    have t74 : emX V59 V75 b 5 := t74
                    obtain ⟨z77, ez77⟩ : ∃ y : Int32, y = y19 + 1 := ⟨_, rfl⟩
                    have hz77 : z77.toInt = y19.toInt + 1 := i_add ez77 rfl (by decide) (by omega)
                    refine lv_iinc (v := z77) (lv' := [(2, .int z77), (3, .int 5), (0, .ref (ad 1)), (1, .int p0)]) hx hb dX1_readSum_87 hl (k := 1) rfl (by rw [ez77]; rfl) (by decide) rfl (fun ls hl => ?_)
                    refine lv_goto (tgt := 12) hx hb dX1_readSum_90 (by decide) ?_
                    have pq78 : (V75 1 1).toInt = ((V 1 1)).toInt := congrArg Int32.toInt ((ajV75 1 1 rfl).trans ((ajV59 1 1 rfl).trans ((ajV48 1 1 rfl).trans ((ajV20 1 1 rfl).trans (ajV9 1 1 rfl)))))
                    have rl79 : RelC V75 L60 b gT sx62 := RelC.ag rl64 (show agr [] [42, 48] V59 V75 from (agr.tr agr.rf ajV75 (by decide) (by decide))) (by decide) (show agL [] L60 L60 from agL.rf) (by decide)
                    have rw80 : ROWL b L L60 := (fun k hk => ((t58 k hk).trans ((axL49 44 k rfl).trans (xlp22_2 k hk))))
                    exact ihlp22 z77 V75 L60 H locs ls (by omega) ⟨sx62, hr66, rl79, keepS.le (keepS.tr (keepS.tr (keepS.tr (keepS.rf : keepS gs 0 gs) kq) (keepS.n1 1)) kp65) (by decide), (by have h9 := ((keepS.tr (keepS.tr (keepS.rf : keepS s1 0 s1) (keepS.n1 1)) kp65)).1; omega)⟩ (show (V75 1 1).toInt = (b : Int) from by omega) rw80 (by omega) alL60 (agr.tr (agr.tr (agr.tr (agr.tr agr.rf ajV20 (by decide) (by decide)) ajV48 (by decide) (by decide)) ajV59 (by decide) (by decide)) ajV75 (by decide) (by decide)) hMV75 hP hD hS (lv_sub hl [0, 2, 3] rfl)
                  · skip
                    have f81 : z54.toInt = 0 := b_eq rfl (by decide) c67
                    exfalso; omega
                · skip
                  have hb82 : ∀ k, Rc gT (Crun gs (Isum gd :: k)) (Cbad (V59 1 3).toInt) := fun k => (hr37 k).tr (h63 (IsumR gd :: k))
                  refine lv_if_ne (tgt := 79) hx hb dX1_readSum_74 (by decide) (fun c83 => ?_) (fun c83 => ?_)
                  · skip
                    have f84 : z54.toInt ≠ 0 := b_neq rfl (by decide) c83
                    exfalso; omega
                  · skip
                    have f85 : z54.toInt = 0 := b_eq rfl (by decide) c83
                    refine lv_iconst (v := 0) hx hb dX1_readSum_77 (by decide) ?_
                    have rw86 : ROWL b L L60 := (fun k hk => ((t58 k hk).trans ((axL49 44 k rfl).trans (xlp22_2 k hk))))
                    exact W.zret (v := 0) hx hb hr rfl (fun t ht hW => ⟨⟨0, (V59, L60), rfl, ⟨hMV59, agV59, alL60, (by decide), (Or.inr ⟨rfl, hb82⟩), rw86⟩, by rw [ht]; exact hP, va_K.moved hW.alike hK, hD⟩, hS.F ht⟩) hS.2.2 dX1_readSum_78
            · skip
              have f87 : ((V20 6 9)).toInt ≠ 43 := b_neq rfl (by decide) c31
              refine lv_aload_n hx hb dX1_readSum_31 rfl (lv_at hl 1 rfl) ?_
              refine va_get (D := D) (ci := 1) (v := .ref (ad 6)) (fs := (xfReader ad V20 L21 Z)) (C := RX1) (T := TX1) (N := 9) hx hb hg inX1 hown hK hP 1 xgReader rfl 0 (by decide) (hg _ w304) (fun _ h9 => h9) rfl dX1_readSum_32 ?_
              refine va_getN (D := D) (ci := 9) (v := .int (V20 6 9)) (fs := (xfTape ad V20 L21 Z)) (C := RX9) (T := TX9) (N := 12) hx hb hg inX9 hown hK hP 6 xgTape rfl 9 (by decide) (hnw.use 262 n262 rfl) (fun _ h9 => h9) rfl dX1_readSum_35 ?_
              refine lv_bipush (v := 45) hx hb dX1_readSum_38 (by decide) ?_
              refine lv_icmp_ne (tgt := 93) hx hb dX1_readSum_40 (by decide) (fun c88 => ?_) (fun c88 => ?_)
              · skip
                have f89 : ((V20 6 9)).toInt ≠ 45 := b_neq rfl (by decide) c88
                refine lv_iconst (v := 1) hx hb dX1_readSum_93 (by decide) ?_
                have kd90 : gT.1 (s1.1 0) = ((V20 6 9)).toInt := RelC.kd rq
                have hr91 : ∀ k, Rc gT (Crun gs (Isum gd :: k)) (Crun s1 (k)) := fun k => Rc.go1 (hq k) (sumR_n gd (fun h9 => f87 (kd90.symm.trans h9)) (fun h9 => f89 (kd90.symm.trans h9)))
                have rw92 : ROWL b L L21 := (fun k hk => (xlp22_2 k hk))
                exact W.zret (v := 1) hx hb hr rfl (fun t ht hW => ⟨⟨1, (V20, L21), rfl, ⟨hMV20, agV20, alL21, (by decide), (Or.inl ⟨rfl, s1, hr91, rq, keepS.le (keepS.tr (keepS.rf : keepS gs 0 gs) kq) (by decide)⟩), rw92⟩, by rw [ht]; exact hP, va_K.moved hW.alike hK, hD⟩, hS.F ht⟩) hS.2.2 dX1_readSum_94
              · skip
                have f93 : ((V20 6 9)).toInt = 45 := b_eq rfl (by decide) c88
                refine lv_aload_n hx hb dX1_readSum_43 rfl (lv_at hl 1 rfl) ?_
                refine va_get (D := D) (ci := 1) (v := .ref (ad 6)) (fs := (xfReader ad V20 L21 Z)) (C := RX1) (T := TX1) (N := 9) hx hb hg inX1 hown hK hP 1 xgReader rfl 0 (by decide) (hg _ w304) (fun _ h9 => h9) rfl dX1_readSum_44 ?_
                refine va_getN (D := D) (ci := 9) (v := .int (V20 6 9)) (fs := (xfTape ad V20 L21 Z)) (C := RX9) (T := TX9) (N := 12) hx hb hg inX9 hown hK hP 6 xgTape rfl 9 (by decide) (hnw.use 262 n262 rfl) (fun _ h9 => h9) rfl dX1_readSum_47 ?_
                refine lv_bipush (v := 43) hx hb dX1_readSum_50 (by decide) ?_
                refine lv_icmp_ne (tgt := 59) hx hb dX1_readSum_52 (by decide) (fun c94 => ?_) (fun c94 => ?_)
                · skip
                  have f95 : ((V20 6 9)).toInt ≠ 43 := b_neq rfl (by decide) c94
                  refine lv_bipush (v := 6) hx hb dX1_readSum_59 (by decide) ?_
                  refine lv_istore_n (lv' := [(3, .int 6), (2, .int y19), (0, .ref (ad 1)), (1, .int p0)]) hx hb dX1_readSum_61 rfl hl (by decide) rfl (fun ls hl => ?_)
                  refine lv_aload_n hx hb dX1_readSum_62 rfl (lv_at hl 2 rfl) ?_
                  refine va_get (D := D) (ci := 1) (v := .ref (ad 6)) (fs := (xfReader ad V20 L21 Z)) (C := RX1) (T := TX1) (N := 9) hx hb hg inX1 hown hK hP 1 xgReader rfl 0 (by decide) (hg _ w304) (fun _ h9 => h9) rfl dX1_readSum_63 ?_
                  have kd96 : gT.1 (s1.1 0) = ((V20 6 9)).toInt := RelC.kd rq
                  have hr97 : ∀ k, Rc gT (Crun gs (Isum gd :: k)) (Crun (nx s1 1) (Iprod gd :: IsumR gd :: k)) := fun k => Rc.go1 (hq k) (sumR_y gd (Or.inr (kd96.trans f93)))
                  have l898 := RelC.l8 rq
                  have r99 : 0 ≤ ((V20 6 8)).toInt ∧ ((V20 6 8)).toInt ≤ 4000 := hMV20 6 8
                  have pq100 : (V20 6 7).toInt = ((V 6 7)).toInt := congrArg Int32.toInt ((ajV20 6 7 rfl).trans (ajV9 6 7 rfl))
                  have r101 : 0 ≤ ((V 6 7)).toInt ∧ ((V 6 7)).toInt ≤ 4000 := hMV 6 7
                  have lk102 := RelC.lk rq (show (V20 6 9).toInt ≠ 0 from by omega)
                  refine gA_void (gA_runV (As := []) (rest := []) (ci := 9) (q0 := 6) hx hb hml hown hg hP hD hK hS hA hnw hgk (x_next2 l D ks H.size ad kk V20 L21 Z  hMV20 (show (V20 6 8).toInt ≤ (V20 6 7).toInt from by omega)) w871 w852 w853 w157 w854 rfl xgTape hdV_yX9_next ⟨(by show 0 + 1 ≤ 10 * dd + 8; omega), (by show 8 + (1 + 11) + (0) ≤ 300 * dd + 210; omega)⟩ rfl hl.1 rfl (Nat.le_of_ble_eq_true rfl) dX1_readSum_66 ⟨Nat.le_of_ble_eq_true rfl, Nat.le_of_ble_eq_true rfl⟩) hP hD hK hS hA (fun u104 H locs w105 hP hD hK hS => ?_)
                  obtain ⟨V108, L109⟩ := u104
                  obtain ⟨hMV108, ajV108, axL109, t106, t107⟩ := w105
                  have alL109 : agL [6, 44] L L109 := agL.tr alL21 axL109 (by decide)
                  have hP : va_P D vwCl (xw ad kk V108 L109 Z) H := hP
                  have hD : va_D A (xw ad kk V108 L109 Z) := hD
                  have hMV108 : rgd bX V108 := hMV108
                  have ajV108 : agr [(6, 8), (6, 9), (6, 10)] [] V20 V108 := ajV108
                  have agV108 : agr [(1, 3), (1, 6), (1, 8), (6, 8), (6, 9), (6, 10)] [42, 43, 44, 48] V V108 := agV20.tr ajV108 (by decide) (by decide)
                  have t106 : (V108 6 8).toInt ≤ (V108 6 7).toInt := t106
                  have t107 : CUR V108 L109 (Int32.toNatClampNeg (V20 6 8)) := t107
                  have r110 : 0 ≤ ((V108 6 8)).toInt ∧ ((V108 6 8)).toInt ≤ 4000 := hMV108 6 8
                  have pq111 : (V108 6 7).toInt = ((V 6 7)).toInt := congrArg Int32.toInt ((ajV108 6 7 rfl).trans ((ajV20 6 7 rfl).trans (ajV9 6 7 rfl)))
                  have rl112 : RelC V108 L109 b gT (nx s1 1) := RelC.nx1 rq ajV108 (by decide) axL109 (by decide) (by rw [← lk102]; exact t107) (ajV108 1 3 rfl)
                  refine lv_aload_n hx hb dX1_readSum_69 rfl (lv_at hl 2 rfl) ?_
                  refine lv_iload_n hx hb dX1_readSum_70 rfl (lv_at hl 3 rfl) ?_
                  have pq113 : (V108 1 1).toInt = ((V 1 1)).toInt := congrArg Int32.toInt ((ajV108 1 1 rfl).trans ((ajV20 1 1 rfl).trans (ajV9 1 1 rfl)))
                  refine gA_int (gA_runV (As := [.int p0]) (rest := []) (ci := 1) (q0 := 1) hx hb hml hown hg hP hD hK hS hA hnw hgk (hk_x_readProduct3 H.size ad kk V108 L109 Z p0 (b) (gT) ((nx s1 1)) (gd) hMV108 (by omega) (show b < 2 from by omega) (show (V108 1 1).toInt = (b : Int) from by omega) rl112 (show p0.toInt = (gd : Int) from by omega) (((congrArg Int32.toInt ((ajV108 1 4 rfl).trans ((ajV20 1 4 rfl).trans (ajV9 1 4 rfl)))).trans wh).trans (congrArg (fun n9 : Nat => (n9 : Int)) (((keepS.tr (keepS.tr (keepS.rf : keepS gs 0 gs) kq) (keepS.n1 1))).2.1 4 (by decide)).symm)) (fun h9 => by rw [((ajV108 1 2 rfl).trans ((ajV20 1 2 rfl).trans (ajV9 1 2 rfl)))]; exact ow ((congrArg Int32.toInt ((ajV108 1 4 rfl).trans ((ajV20 1 4 rfl).trans (ajV9 1 4 rfl)))).symm.trans h9)) (show 8 - p0.toInt ≤ (dd : Int) from by omega)) w959 w961 w23 w162 w962 rfl xgReader hdV_yX1_readProduct ⟨(by show 10 * dd + 7 + 1 ≤ 10 * dd + 8; omega), (by show 8 + (3 + 11) + (300 * dd + 180) ≤ 300 * dd + 210; omega)⟩ rfl hl.1 rfl (Nat.le_of_ble_eq_true rfl) dX1_readSum_71 ⟨Nat.le_of_ble_eq_true rfl, Nat.le_of_ble_eq_true rfl⟩) hP hD hK hS hA (fun z114 u115 H locs w116 hP hD hK hS => ?_)
                  obtain ⟨V119, L120⟩ := u115
                  obtain ⟨hMV119, ajV119, axL120, rgz114, t117, t118⟩ := w116
                  have alL120 : agL [6, 44] L L120 := agL.tr alL109 axL120 (by decide)
                  have hP : va_P D vwCl (xw ad kk V119 L120 Z) H := hP
                  have hD : va_D A (xw ad kk V119 L120 Z) := hD
                  have hMV119 : rgd bX V119 := hMV119
                  have ajV119 : agr [(1, 3), (1, 6), (1, 8), (6, 8), (6, 9), (6, 10)] [42, 43, 44, 48] V108 V119 := ajV119
                  have agV119 : agr [(1, 3), (1, 6), (1, 8), (6, 8), (6, 9), (6, 10)] [42, 43, 44, 48] V V119 := agV108.tr ajV119 (by decide) (by decide)
                  have rgz114 : 0 ≤ z114.toInt ∧ z114.toInt ≤ 1 := rgz114
                  have t117 : Rd gT (nx s1 1) (fun k => Iprod gd :: k) (fun k => k) z114.toInt (V119 1 3).toInt (fun s9 => RelC V119 L120 b gT s9 ∧ keepS (nx s1 1) 1 s9) := t117
                  have t118 : ROWL b L109 L120 := t118
                  rcases t117 with ⟨q121, sx122, h123, rl124, kp125⟩ | ⟨q121, h123⟩
                  · skip
                    have hr126 : ∀ k, Rc gT (Crun gs (Isum gd :: k)) (Crun sx122 (IsumR gd :: k)) := fun k => (hr97 k).tr (h123 (IsumR gd :: k))
                    refine lv_if_ne (tgt := 79) hx hb dX1_readSum_74 (by decide) (fun c127 => ?_) (fun c127 => ?_)
                    · skip
                      have f128 : z114.toInt ≠ 0 := b_neq rfl (by decide) c127
                      refine lv_aload_n hx hb dX1_readSum_79 rfl (lv_at hl 2 rfl) ?_
                      refine va_get (D := D) (ci := 1) (v := rfN ad 38 (V119 1 1)) (fs := (xfReader ad V119 L120 Z)) (C := RX1) (T := TX1) (N := 9) hx hb hg inX1 hown hK hP 1 xgReader rfl 1 (by decide) (hg _ w305) (fun _ h9 => h9) rfl dX1_readSum_80 ?_
                      have pq129 : (V119 1 1).toInt = ((V 1 1)).toInt := congrArg Int32.toInt ((ajV119 1 1 rfl).trans ((ajV108 1 1 rfl).trans ((ajV20 1 1 rfl).trans (ajV9 1 1 rfl))))
                      refine g_topv (v := .ref (ad (38 + b))) (rfN_r (by omega)) ?_
                      refine lv_iload_n hx hb dX1_readSum_83 rfl (lv_at hl 0 rfl) ?_
                      have r130 : Int32.toInt 6 = 6 := by decide
                      refine gA_void (gA_runV (As := [.int 6]) (rest := []) (ci := 0) (q0 := (38 + b)) hx hb hml hown hg hP hD hK hS hA hnw hgk (x_emit l D ks H.size ad kk V119 L120 Z 6 (b) hMV119 (show b < 2 from by omega)) w971 w972 w973 w167 w974 rfl (xgBook hb2) hdV_yX0_emit ⟨(by show 0 + 1 ≤ 10 * dd + 8; omega), (by show 8 + (2 + 11) + (0) ≤ 300 * dd + 210; omega)⟩ rfl hl.1 rfl (Nat.le_of_ble_eq_true rfl) dX1_readSum_84 ⟨Nat.le_of_ble_eq_true rfl, Nat.le_of_ble_eq_true rfl⟩) hP hD hK hS hA (fun u132 H locs w133 hP hD hK hS => ?_)
                      obtain ⟨V135, L136⟩ := u132
                      obtain ⟨hMV135, ajV135, axL136, fyV135, t134⟩ := w133
                      have axL136 : L120 = L136 := Eq.symm axL136
                      subst axL136
                      have hP : va_P D vwCl (xw ad kk V135 L120 Z) H := hP
                      have hD : va_D A (xw ad kk V135 L120 Z) := hD
                      have hMV135 : rgd bX V135 := hMV135
                      have ajV135 : agr [] [42, 48] V119 V135 := ajV135
                      have agV135 : agr [(1, 3), (1, 6), (1, 8), (6, 8), (6, 9), (6, 10)] [42, 43, 44, 48] V V135 := agV119.tr ajV135 (by decide) (by decide)
                      have t134 : emX V119 V135 b 6 := t134
                      obtain ⟨z137, ez137⟩ : ∃ y : Int32, y = y19 + 1 := ⟨_, rfl⟩
                      have hz137 : z137.toInt = y19.toInt + 1 := i_add ez137 rfl (by decide) (by omega)
                      refine lv_iinc (v := z137) (lv' := [(2, .int z137), (3, .int 6), (0, .ref (ad 1)), (1, .int p0)]) hx hb dX1_readSum_87 hl (k := 1) rfl (by rw [ez137]; rfl) (by decide) rfl (fun ls hl => ?_)
                      refine lv_goto (tgt := 12) hx hb dX1_readSum_90 (by decide) ?_
                      have pq138 : (V135 1 1).toInt = ((V 1 1)).toInt := congrArg Int32.toInt ((ajV135 1 1 rfl).trans ((ajV119 1 1 rfl).trans ((ajV108 1 1 rfl).trans ((ajV20 1 1 rfl).trans (ajV9 1 1 rfl)))))
                      have rl139 : RelC V135 L120 b gT sx122 := RelC.ag rl124 (show agr [] [42, 48] V119 V135 from (agr.tr agr.rf ajV135 (by decide) (by decide))) (by decide) (show agL [] L120 L120 from agL.rf) (by decide)
                      have rw140 : ROWL b L L120 := (fun k hk => ((t118 k hk).trans ((axL109 44 k rfl).trans (xlp22_2 k hk))))
                      exact ihlp22 z137 V135 L120 H locs ls (by omega) ⟨sx122, hr126, rl139, keepS.le (keepS.tr (keepS.tr (keepS.tr (keepS.rf : keepS gs 0 gs) kq) (keepS.n1 1)) kp125) (by decide), (by have h9 := ((keepS.tr (keepS.tr (keepS.rf : keepS s1 0 s1) (keepS.n1 1)) kp125)).1; omega)⟩ (show (V135 1 1).toInt = (b : Int) from by omega) rw140 (by omega) alL120 (agr.tr (agr.tr (agr.tr (agr.tr agr.rf ajV20 (by decide) (by decide)) ajV108 (by decide) (by decide)) ajV119 (by decide) (by decide)) ajV135 (by decide) (by decide)) hMV135 hP hD hS (lv_sub hl [0, 2, 3] rfl)
                    · skip
                      have f141 : z114.toInt = 0 := b_eq rfl (by decide) c127
                      exfalso; omega
                  · skip
                    have hb142 : ∀ k, Rc gT (Crun gs (Isum gd :: k)) (Cbad (V119 1 3).toInt) := fun k => (hr97 k).tr (h123 (IsumR gd :: k))
                    refine lv_if_ne (tgt := 79) hx hb dX1_readSum_74 (by decide) (fun c143 => ?_) (fun c143 => ?_)
                    · skip
                      have f144 : z114.toInt ≠ 0 := b_neq rfl (by decide) c143
                      exfalso; omega
                    · skip
                      have f145 : z114.toInt = 0 := b_eq rfl (by decide) c143
                      refine lv_iconst (v := 0) hx hb dX1_readSum_77 (by decide) ?_
                      have rw146 : ROWL b L L120 := (fun k hk => ((t118 k hk).trans ((axL109 44 k rfl).trans (xlp22_2 k hk))))
                      exact W.zret (v := 0) hx hb hr rfl (fun t ht hW => ⟨⟨0, (V119, L120), rfl, ⟨hMV119, agV119, alL120, (by decide), (Or.inr ⟨rfl, hb142⟩), rw146⟩, by rw [ht]; exact hP, va_K.moved hW.alike hK, hD⟩, hS.F ht⟩) hS.2.2 dX1_readSum_78
                · skip
                  have f147 : ((V20 6 9)).toInt = 43 := b_eq rfl (by decide) c94
                  exfalso; omega
      have r148 : Int32.toInt 0 = 0 := by decide
      have pq149 : (V9 1 1).toInt = ((V 1 1)).toInt := congrArg Int32.toInt (ajV9 1 1 rfl)
      have rw150 : ROWL b L L10 := (fun k hk => ((t8 k hk).trans rfl))
      exact lp22 ((4000 - (Int32.toInt 0) + 1 : Int).toNat) 0 V9 L10 H locs ls (by decide) ⟨sx12, hr16, rl14, keepS.le (keepS.tr (keepS.rf : keepS gs 0 gs) kp15) (by decide), (by omega)⟩ (show (V9 1 1).toInt = (b : Int) from by omega) rw150 (by omega) alL10 agr.rf hMV9 hP hD hS (lv_sub hl [0, 1, 2] rfl)
    · skip
      have f151 : z4.toInt = 0 := b_eq rfl (by decide) c17
      exfalso; omega
  · skip
    have hb152 : ∀ k, Rc gT (Crun gs (Isum gd :: k)) (Cbad (V9 1 3).toInt) := fun k => (hr3 k).tr (h13 (IsumR gd :: k))
    refine lv_if_ne (tgt := 10) hx hb dX1_readSum_5 (by decide) (fun c153 => ?_) (fun c153 => ?_)
    · skip
      have f154 : z4.toInt ≠ 0 := b_neq rfl (by decide) c153
      exfalso; omega
    · skip
      have f155 : z4.toInt = 0 := b_eq rfl (by decide) c153
      refine lv_iconst (v := 0) hx hb dX1_readSum_8 (by decide) ?_
      have rw156 : ROWL b L L10 := (fun k hk => ((t8 k hk).trans rfl))
      exact W.zret (v := 0) hx hb hr rfl (fun t ht hW => ⟨⟨0, (V9, L10), rfl, ⟨hMV9, agV9, alL10, (by decide), (Or.inr ⟨rfl, hb152⟩), rw156⟩, by rw [ht]; exact hP, va_K.moved hW.alike hK, hD⟩, hS.F ht⟩) hS.2.2 dX1_readSum_9
set_option maxHeartbeats 4000000 in
set_option maxRecDepth 100000 in
theorem x_readProduct3 {l : Launch} {D : va_G} {ks : KS} {dd : Nat} (hk_x_readPart3 : K_x_readPart3 l D ks dd) : K_x_readProduct3 l D ks dd := by
  intro sz ad kk V L Z p0 b gT gs gd hMV rg_p0 hb2 rbk rel yd wh ow y1
  refine g_met (q_x_readProduct3 D ks ad kk V L Z p0 b gT gs gd) (by decide) (Nat.le_of_ble_eq_true rfl) ?_
  intro p e s m below meth c A ls H locs hx hb hr hml hown hg hlocks hin hnw hgk hP hK hD hS hA hl
  have hown : s.vm.findClass RX1 = some m.cls := hown
  have hl : lv_has ls 3 [(0, .ref (ad 1)), (1, .int p0)] := hl
  have hP : va_P D vwCl (xw ad kk V L Z) H := hP
  have hD : va_D A (xw ad kk V L Z) := hD
  have hK : va_K D vwCl (xty kk Z) s := hK
  have agV : agr [(1, 3), (1, 6), (1, 8), (6, 8), (6, 9), (6, 10)] [42, 43, 44, 48] V V := agr.rf
  have alL : agL [6, 44] L L := agL.rf
  have rf_p0 := i_full p0
  have r1 : (-1) ≤ ((V 1 1)).toInt ∧ ((V 1 1)).toInt ≤ 1 := hMV 1 1
  refine lv_aload_n hx hb dX1_readProduct_0 rfl (lv_at hl 0 rfl) ?_
  refine lv_iload_n hx hb dX1_readProduct_1 rfl (lv_at hl 1 rfl) ?_
  have hr2 : ∀ k, Rc gT (Crun gs (Iprod gd :: k)) (Crun gs (Iprod gd :: k)) := fun k => Rc.rf
  have hr3 : ∀ k, Rc gT (Crun gs (Iprod gd :: k)) (Crun gs (Ipart gd :: IprodR gd :: k)) := fun k => Rc.go1 (hr2 k) (m_prod gd)
  refine gA_int (gA_runV (As := [.int p0]) (rest := []) (ci := 1) (q0 := 1) hx hb hml hown hg hP hD hK hS hA hnw hgk (hk_x_readPart3 H.size ad kk V L Z p0 (b) (gT) (gs) (gd) hMV (by omega) (show b < 2 from by omega) (show (V 1 1).toInt = (b : Int) from by omega) rel (show p0.toInt = (gd : Int) from by omega) wh (fun h9 => by exact ow (h9)) (show 8 - p0.toInt ≤ (dd : Int) from by omega)) w963 w965 w24 w162 w966 rfl xgReader hdV_yX1_readPart ⟨(by show 10 * dd + 6 + 1 ≤ 10 * dd + 7; omega), (by show 8 + (5 + 11) + (300 * dd + 150) ≤ 300 * dd + 180; omega)⟩ rfl hl.1 rfl (Nat.le_of_ble_eq_true rfl) dX1_readProduct_2 ⟨Nat.le_of_ble_eq_true rfl, Nat.le_of_ble_eq_true rfl⟩) hP hD hK hS hA (fun z4 u5 H locs w6 hP hD hK hS => ?_)
  obtain ⟨V9, L10⟩ := u5
  obtain ⟨hMV9, ajV9, axL10, rgz4, t7, t8⟩ := w6
  have alL10 : agL [6, 44] L L10 := agL.tr alL axL10 (by decide)
  have hP : va_P D vwCl (xw ad kk V9 L10 Z) H := hP
  have hD : va_D A (xw ad kk V9 L10 Z) := hD
  have hMV9 : rgd bX V9 := hMV9
  have ajV9 : agr [(1, 3), (1, 6), (1, 8), (6, 8), (6, 9), (6, 10)] [42, 43, 44, 48] V V9 := ajV9
  have agV9 : agr [(1, 3), (1, 6), (1, 8), (6, 8), (6, 9), (6, 10)] [42, 43, 44, 48] V V9 := agV.tr ajV9 (by decide) (by decide)
  have rgz4 : 0 ≤ z4.toInt ∧ z4.toInt ≤ 1 := rgz4
  have t7 : Rd gT gs (fun k => Ipart gd :: k) (fun k => k) z4.toInt (V9 1 3).toInt (fun s9 => RelC V9 L10 b gT s9 ∧ keepS gs 1 s9) := t7
  have t8 : ROWL b L L10 := t8
  rcases t7 with ⟨q11, sx12, h13, rl14, kp15⟩ | ⟨q11, h13⟩
  · skip
    have hr16 : ∀ k, Rc gT (Crun gs (Iprod gd :: k)) (Crun sx12 (IprodR gd :: k)) := fun k => (hr3 k).tr (h13 (IprodR gd :: k))
    refine lv_if_ne (tgt := 10) hx hb dX1_readProduct_5 (by decide) (fun c17 => ?_) (fun c17 => ?_)
    · skip
      have f18 : z4.toInt ≠ 0 := b_neq rfl (by decide) c17
      refine lv_iconst (v := 0) hx hb dX1_readProduct_10 (by decide) ?_
      refine lv_istore_n (lv' := [(2, .int 0), (0, .ref (ad 1)), (1, .int p0)]) hx hb dX1_readProduct_11 rfl hl (by decide) rfl (fun ls hl => ?_)
      have lp22 : ∀ (fulp22 : Nat) (y19 : Int32) (V20 : Vf) (L21 : Lf) (H : Heap) (locs : List Loc) (ls : Array Slot), 0 ≤ y19.toInt ∧ y19.toInt ≤ 4000 → (∃ s1 : St, (∀ k, Rc gT (Crun gs (Iprod gd :: k)) (Crun s1 (IprodR gd :: k))) ∧ RelC V20 L21 b gT s1 ∧ keepS gs 1 s1 ∧ y19.toInt ≤ ((s1.1 0 : Nat) : Int)) → (V20 1 1).toInt = (b : Int) → (ROWL b L L21) → 4000 - y19.toInt < (fulp22 : Int) → agL [6, 44] L L21 → agr [(1, 3), (1, 6), (1, 8), (6, 8), (6, 9), (6, 10)] [42, 43, 44, 48] V9 V20 → rgd bX V20 → va_P D vwCl (xw ad kk V20 L21 Z) H → va_D A (xw ad kk V20 L21 Z) → va_S A s.heap H locs → lv_has ls 3 [(2, .int y19), (0, .ref (ad 1)), (1, .int p0)] → W p l e (rK 7 180 dd) s m ([.ref (ad 1), .int p0] : List Value).toArray below meth c H locs 0 0 (MQ below (q_x_readProduct3 D ks ad kk V L Z p0 b gT gs gd A) ([.ref (ad 1), .int p0] : List Value).toArray s 0 0 A) (F0 m 12 ls []) := by
        intro fulp22
        induction fulp22 with
        | zero =>
          intro y19 V20 L21 H locs ls klp22_0 xlp22_0 xlp22_1 xlp22_2 hn alL21 ajV20 hMV20 hP hD hS hl
          exfalso; omega
        | succ fulp22 ihlp22 =>
          intro y19 V20 L21 H locs ls klp22_0 xlp22_0 xlp22_1 xlp22_2 hn alL21 ajV20 hMV20 hP hD hS hl
          have agV20 : agr [(1, 3), (1, 6), (1, 8), (6, 8), (6, 9), (6, 10)] [42, 43, 44, 48] V V20 := agV9.tr ajV20 (by decide) (by decide)
          have pq23 : (V20 1 1).toInt = ((V 1 1)).toInt := congrArg Int32.toInt ((ajV20 1 1 rfl).trans (ajV9 1 1 rfl))
          refine lv_iload_n hx hb dX1_readProduct_12 rfl (lv_at hl 0 rfl) ?_
          obtain ⟨s1, hq, rq, kq, iq⟩ := xlp22_0
          refine lv_sipush (v := 4000) hx hb dX1_readProduct_13 (by decide) ?_
          refine lv_icmp_ge (tgt := 63) hx hb dX1_readProduct_16 (by decide) (fun c24 => ?_) (fun c24 => ?_)
          · skip
            have f25 : 4000 ≤ y19.toInt := b_le (by decide) rfl c24
            refine lv_iconst (v := 1) hx hb dX1_readProduct_63 (by decide) ?_
            have kd26 : gT.1 (s1.1 0) = ((V20 6 9)).toInt := RelC.kd rq
            have kz27 : gT.1 (s1.1 0) = 0 := RelC.e4 rq (show 0 ≤ (V20 6 7).toInt ∧ (V20 6 7).toInt ≤ 4000 from hMV20 6 7).2 (by omega)
            have hr28 : ∀ k, Rc gT (Crun gs (Iprod gd :: k)) (Crun s1 (k)) := fun k => Rc.go1 (hq k) (prodR_n gd (fun h9 => absurd (h9.symm.trans kz27) (by decide)))
            have rw29 : ROWL b L L21 := (fun k hk => (xlp22_2 k hk))
            exact W.zret (v := 1) hx hb hr rfl (fun t ht hW => ⟨⟨1, (V20, L21), rfl, ⟨hMV20, agV20, alL21, (by decide), (Or.inl ⟨rfl, s1, hr28, rq, keepS.le (keepS.tr (keepS.rf : keepS gs 0 gs) kq) (by decide)⟩), rw29⟩, by rw [ht]; exact hP, va_K.moved hW.alike hK, hD⟩, hS.F ht⟩) hS.2.2 dX1_readProduct_64
          · skip
            have f30 : y19.toInt < 4000 := b_nle (by decide) rfl c24
            refine lv_aload_n hx hb dX1_readProduct_19 rfl (lv_at hl 1 rfl) ?_
            refine va_get (D := D) (ci := 1) (v := .ref (ad 6)) (fs := (xfReader ad V20 L21 Z)) (C := RX1) (T := TX1) (N := 9) hx hb hg inX1 hown hK hP 1 xgReader rfl 0 (by decide) (hg _ w304) (fun _ h9 => h9) rfl dX1_readProduct_20 ?_
            refine va_getN (D := D) (ci := 9) (v := .int (V20 6 9)) (fs := (xfTape ad V20 L21 Z)) (C := RX9) (T := TX9) (N := 12) hx hb hg inX9 hown hK hP 6 xgTape rfl 9 (by decide) (hnw.use 262 n262 rfl) (fun _ h9 => h9) rfl dX1_readProduct_23 ?_
            refine lv_bipush (v := 42) hx hb dX1_readProduct_26 (by decide) ?_
            refine lv_icmp_ne (tgt := 63) hx hb dX1_readProduct_28 (by decide) (fun c31 => ?_) (fun c31 => ?_)
            · skip
              have f32 : ((V20 6 9)).toInt ≠ 42 := b_neq rfl (by decide) c31
              refine lv_iconst (v := 1) hx hb dX1_readProduct_63 (by decide) ?_
              have kd33 : gT.1 (s1.1 0) = ((V20 6 9)).toInt := RelC.kd rq
              have hr34 : ∀ k, Rc gT (Crun gs (Iprod gd :: k)) (Crun s1 (k)) := fun k => Rc.go1 (hq k) (prodR_n gd (fun h9 => f32 (kd33.symm.trans h9)))
              have rw35 : ROWL b L L21 := (fun k hk => (xlp22_2 k hk))
              exact W.zret (v := 1) hx hb hr rfl (fun t ht hW => ⟨⟨1, (V20, L21), rfl, ⟨hMV20, agV20, alL21, (by decide), (Or.inl ⟨rfl, s1, hr34, rq, keepS.le (keepS.tr (keepS.rf : keepS gs 0 gs) kq) (by decide)⟩), rw35⟩, by rw [ht]; exact hP, va_K.moved hW.alike hK, hD⟩, hS.F ht⟩) hS.2.2 dX1_readProduct_64
            · skip
              have f36 : ((V20 6 9)).toInt = 42 := b_eq rfl (by decide) c31
              refine lv_aload_n hx hb dX1_readProduct_31 rfl (lv_at hl 1 rfl) ?_
              refine va_get (D := D) (ci := 1) (v := .ref (ad 6)) (fs := (xfReader ad V20 L21 Z)) (C := RX1) (T := TX1) (N := 9) hx hb hg inX1 hown hK hP 1 xgReader rfl 0 (by decide) (hg _ w304) (fun _ h9 => h9) rfl dX1_readProduct_32 ?_
              have kd37 : gT.1 (s1.1 0) = ((V20 6 9)).toInt := RelC.kd rq
              have hr38 : ∀ k, Rc gT (Crun gs (Iprod gd :: k)) (Crun (nx s1 1) (Ipart gd :: IprodR gd :: k)) := fun k => Rc.go1 (hq k) (prodR_y gd (kd37.trans f36))
              have l839 := RelC.l8 rq
              have r40 : 0 ≤ ((V20 6 8)).toInt ∧ ((V20 6 8)).toInt ≤ 4000 := hMV20 6 8
              have pq41 : (V20 6 7).toInt = ((V 6 7)).toInt := congrArg Int32.toInt ((ajV20 6 7 rfl).trans (ajV9 6 7 rfl))
              have r42 : 0 ≤ ((V 6 7)).toInt ∧ ((V 6 7)).toInt ≤ 4000 := hMV 6 7
              have lk43 := RelC.lk rq (show (V20 6 9).toInt ≠ 0 from by omega)
              refine gA_void (gA_runV (As := []) (rest := []) (ci := 9) (q0 := 6) hx hb hml hown hg hP hD hK hS hA hnw hgk (x_next2 l D ks H.size ad kk V20 L21 Z  hMV20 (show (V20 6 8).toInt ≤ (V20 6 7).toInt from by omega)) w871 w852 w853 w157 w854 rfl xgTape hdV_yX9_next ⟨(by show 0 + 1 ≤ 10 * dd + 7; omega), (by show 8 + (1 + 11) + (0) ≤ 300 * dd + 180; omega)⟩ rfl hl.1 rfl (Nat.le_of_ble_eq_true rfl) dX1_readProduct_35 ⟨Nat.le_of_ble_eq_true rfl, Nat.le_of_ble_eq_true rfl⟩) hP hD hK hS hA (fun u45 H locs w46 hP hD hK hS => ?_)
              obtain ⟨V49, L50⟩ := u45
              obtain ⟨hMV49, ajV49, axL50, t47, t48⟩ := w46
              have alL50 : agL [6, 44] L L50 := agL.tr alL21 axL50 (by decide)
              have hP : va_P D vwCl (xw ad kk V49 L50 Z) H := hP
              have hD : va_D A (xw ad kk V49 L50 Z) := hD
              have hMV49 : rgd bX V49 := hMV49
              have ajV49 : agr [(6, 8), (6, 9), (6, 10)] [] V20 V49 := ajV49
              have agV49 : agr [(1, 3), (1, 6), (1, 8), (6, 8), (6, 9), (6, 10)] [42, 43, 44, 48] V V49 := agV20.tr ajV49 (by decide) (by decide)
              have t47 : (V49 6 8).toInt ≤ (V49 6 7).toInt := t47
              have t48 : CUR V49 L50 (Int32.toNatClampNeg (V20 6 8)) := t48
              have r51 : 0 ≤ ((V49 6 8)).toInt ∧ ((V49 6 8)).toInt ≤ 4000 := hMV49 6 8
              have pq52 : (V49 6 7).toInt = ((V 6 7)).toInt := congrArg Int32.toInt ((ajV49 6 7 rfl).trans ((ajV20 6 7 rfl).trans (ajV9 6 7 rfl)))
              have rl53 : RelC V49 L50 b gT (nx s1 1) := RelC.nx1 rq ajV49 (by decide) axL50 (by decide) (by rw [← lk43]; exact t48) (ajV49 1 3 rfl)
              refine lv_aload_n hx hb dX1_readProduct_38 rfl (lv_at hl 1 rfl) ?_
              refine lv_iload_n hx hb dX1_readProduct_39 rfl (lv_at hl 2 rfl) ?_
              have pq54 : (V49 1 1).toInt = ((V 1 1)).toInt := congrArg Int32.toInt ((ajV49 1 1 rfl).trans ((ajV20 1 1 rfl).trans (ajV9 1 1 rfl)))
              refine gA_int (gA_runV (As := [.int p0]) (rest := []) (ci := 1) (q0 := 1) hx hb hml hown hg hP hD hK hS hA hnw hgk (hk_x_readPart3 H.size ad kk V49 L50 Z p0 (b) (gT) ((nx s1 1)) (gd) hMV49 (by omega) (show b < 2 from by omega) (show (V49 1 1).toInt = (b : Int) from by omega) rl53 (show p0.toInt = (gd : Int) from by omega) (((congrArg Int32.toInt ((ajV49 1 4 rfl).trans ((ajV20 1 4 rfl).trans (ajV9 1 4 rfl)))).trans wh).trans (congrArg (fun n9 : Nat => (n9 : Int)) (((keepS.tr (keepS.tr (keepS.rf : keepS gs 0 gs) kq) (keepS.n1 1))).2.1 4 (by decide)).symm)) (fun h9 => by rw [((ajV49 1 2 rfl).trans ((ajV20 1 2 rfl).trans (ajV9 1 2 rfl)))]; exact ow ((congrArg Int32.toInt ((ajV49 1 4 rfl).trans ((ajV20 1 4 rfl).trans (ajV9 1 4 rfl)))).symm.trans h9)) (show 8 - p0.toInt ≤ (dd : Int) from by omega)) w963 w965 w24 w162 w966 rfl xgReader hdV_yX1_readPart ⟨(by show 10 * dd + 6 + 1 ≤ 10 * dd + 7; omega), (by show 8 + (5 + 11) + (300 * dd + 150) ≤ 300 * dd + 180; omega)⟩ rfl hl.1 rfl (Nat.le_of_ble_eq_true rfl) dX1_readProduct_40 ⟨Nat.le_of_ble_eq_true rfl, Nat.le_of_ble_eq_true rfl⟩) hP hD hK hS hA (fun z55 u56 H locs w57 hP hD hK hS => ?_)
              obtain ⟨V60, L61⟩ := u56
              obtain ⟨hMV60, ajV60, axL61, rgz55, t58, t59⟩ := w57
              have alL61 : agL [6, 44] L L61 := agL.tr alL50 axL61 (by decide)
              have hP : va_P D vwCl (xw ad kk V60 L61 Z) H := hP
              have hD : va_D A (xw ad kk V60 L61 Z) := hD
              have hMV60 : rgd bX V60 := hMV60
              have ajV60 : agr [(1, 3), (1, 6), (1, 8), (6, 8), (6, 9), (6, 10)] [42, 43, 44, 48] V49 V60 := ajV60
              have agV60 : agr [(1, 3), (1, 6), (1, 8), (6, 8), (6, 9), (6, 10)] [42, 43, 44, 48] V V60 := agV49.tr ajV60 (by decide) (by decide)
              have rgz55 : 0 ≤ z55.toInt ∧ z55.toInt ≤ 1 := rgz55
              have t58 : Rd gT (nx s1 1) (fun k => Ipart gd :: k) (fun k => k) z55.toInt (V60 1 3).toInt (fun s9 => RelC V60 L61 b gT s9 ∧ keepS (nx s1 1) 1 s9) := t58
              have t59 : ROWL b L50 L61 := t59
              rcases t58 with ⟨q62, sx63, h64, rl65, kp66⟩ | ⟨q62, h64⟩
              · skip
                have hr67 : ∀ k, Rc gT (Crun gs (Iprod gd :: k)) (Crun sx63 (IprodR gd :: k)) := fun k => (hr38 k).tr (h64 (IprodR gd :: k))
                refine lv_if_ne (tgt := 48) hx hb dX1_readProduct_43 (by decide) (fun c68 => ?_) (fun c68 => ?_)
                · skip
                  have f69 : z55.toInt ≠ 0 := b_neq rfl (by decide) c68
                  refine lv_aload_n hx hb dX1_readProduct_48 rfl (lv_at hl 1 rfl) ?_
                  refine va_get (D := D) (ci := 1) (v := rfN ad 38 (V60 1 1)) (fs := (xfReader ad V60 L61 Z)) (C := RX1) (T := TX1) (N := 9) hx hb hg inX1 hown hK hP 1 xgReader rfl 1 (by decide) (hg _ w305) (fun _ h9 => h9) rfl dX1_readProduct_49 ?_
                  have pq70 : (V60 1 1).toInt = ((V 1 1)).toInt := congrArg Int32.toInt ((ajV60 1 1 rfl).trans ((ajV49 1 1 rfl).trans ((ajV20 1 1 rfl).trans (ajV9 1 1 rfl))))
                  refine g_topv (v := .ref (ad (38 + b))) (rfN_r (by omega)) ?_
                  refine lv_bipush (v := 7) hx hb dX1_readProduct_52 (by decide) ?_
                  have r71 : Int32.toInt 7 = 7 := by decide
                  refine gA_void (gA_runV (As := [.int 7]) (rest := []) (ci := 0) (q0 := (38 + b)) hx hb hml hown hg hP hD hK hS hA hnw hgk (x_emit l D ks H.size ad kk V60 L61 Z 7 (b) hMV60 (show b < 2 from by omega)) w971 w972 w973 w167 w974 rfl (xgBook hb2) hdV_yX0_emit ⟨(by show 0 + 1 ≤ 10 * dd + 7; omega), (by show 8 + (2 + 11) + (0) ≤ 300 * dd + 180; omega)⟩ rfl hl.1 rfl (Nat.le_of_ble_eq_true rfl) dX1_readProduct_54 ⟨Nat.le_of_ble_eq_true rfl, Nat.le_of_ble_eq_true rfl⟩) hP hD hK hS hA (fun u73 H locs w74 hP hD hK hS => ?_)
                  obtain ⟨V76, L77⟩ := u73
                  obtain ⟨hMV76, ajV76, axL77, fyV76, t75⟩ := w74
                  have axL77 : L61 = L77 := Eq.symm axL77
                  subst axL77
                  have hP : va_P D vwCl (xw ad kk V76 L61 Z) H := hP
                  have hD : va_D A (xw ad kk V76 L61 Z) := hD
                  have hMV76 : rgd bX V76 := hMV76
                  have ajV76 : agr [] [42, 48] V60 V76 := ajV76
                  have agV76 : agr [(1, 3), (1, 6), (1, 8), (6, 8), (6, 9), (6, 10)] [42, 43, 44, 48] V V76 := agV60.tr ajV76 (by decide) (by decide)
                  have t75 : emX V60 V76 b 7 := t75
                  obtain ⟨z78, ez78⟩ : ∃ y : Int32, y = y19 + 1 := ⟨_, rfl⟩
                  have hz78 : z78.toInt = y19.toInt + 1 := i_add ez78 rfl (by decide) (by omega)
                  refine lv_iinc (v := z78) (lv' := [(2, .int z78), (0, .ref (ad 1)), (1, .int p0)]) hx hb dX1_readProduct_57 hl (k := 0) rfl (by rw [ez78]; rfl) (by decide) rfl (fun ls hl => ?_)
                  refine lv_goto (tgt := 12) hx hb dX1_readProduct_60 (by decide) ?_
                  have pq79 : (V76 1 1).toInt = ((V 1 1)).toInt := congrArg Int32.toInt ((ajV76 1 1 rfl).trans ((ajV60 1 1 rfl).trans ((ajV49 1 1 rfl).trans ((ajV20 1 1 rfl).trans (ajV9 1 1 rfl)))))
                  have rl80 : RelC V76 L61 b gT sx63 := RelC.ag rl65 (show agr [] [42, 48] V60 V76 from (agr.tr agr.rf ajV76 (by decide) (by decide))) (by decide) (show agL [] L61 L61 from agL.rf) (by decide)
                  have rw81 : ROWL b L L61 := (fun k hk => ((t59 k hk).trans ((axL50 44 k rfl).trans (xlp22_2 k hk))))
                  exact ihlp22 z78 V76 L61 H locs ls (by omega) ⟨sx63, hr67, rl80, keepS.le (keepS.tr (keepS.tr (keepS.tr (keepS.rf : keepS gs 0 gs) kq) (keepS.n1 1)) kp66) (by decide), (by have h9 := ((keepS.tr (keepS.tr (keepS.rf : keepS s1 0 s1) (keepS.n1 1)) kp66)).1; omega)⟩ (show (V76 1 1).toInt = (b : Int) from by omega) rw81 (by omega) alL61 (agr.tr (agr.tr (agr.tr (agr.tr agr.rf ajV20 (by decide) (by decide)) ajV49 (by decide) (by decide)) ajV60 (by decide) (by decide)) ajV76 (by decide) (by decide)) hMV76 hP hD hS (lv_sub hl [0, 1, 2] rfl)
                · skip
                  have f82 : z55.toInt = 0 := b_eq rfl (by decide) c68
                  exfalso; omega
              · skip
                have hb83 : ∀ k, Rc gT (Crun gs (Iprod gd :: k)) (Cbad (V60 1 3).toInt) := fun k => (hr38 k).tr (h64 (IprodR gd :: k))
                refine lv_if_ne (tgt := 48) hx hb dX1_readProduct_43 (by decide) (fun c84 => ?_) (fun c84 => ?_)
                · skip
                  have f85 : z55.toInt ≠ 0 := b_neq rfl (by decide) c84
                  exfalso; omega
                · skip
                  have f86 : z55.toInt = 0 := b_eq rfl (by decide) c84
                  refine lv_iconst (v := 0) hx hb dX1_readProduct_46 (by decide) ?_
                  have rw87 : ROWL b L L61 := (fun k hk => ((t59 k hk).trans ((axL50 44 k rfl).trans (xlp22_2 k hk))))
                  exact W.zret (v := 0) hx hb hr rfl (fun t ht hW => ⟨⟨0, (V60, L61), rfl, ⟨hMV60, agV60, alL61, (by decide), (Or.inr ⟨rfl, hb83⟩), rw87⟩, by rw [ht]; exact hP, va_K.moved hW.alike hK, hD⟩, hS.F ht⟩) hS.2.2 dX1_readProduct_47
      have r88 : Int32.toInt 0 = 0 := by decide
      have pq89 : (V9 1 1).toInt = ((V 1 1)).toInt := congrArg Int32.toInt (ajV9 1 1 rfl)
      have rw90 : ROWL b L L10 := (fun k hk => ((t8 k hk).trans rfl))
      exact lp22 ((4000 - (Int32.toInt 0) + 1 : Int).toNat) 0 V9 L10 H locs ls (by decide) ⟨sx12, hr16, rl14, keepS.le (keepS.tr (keepS.rf : keepS gs 0 gs) kp15) (by decide), (by omega)⟩ (show (V9 1 1).toInt = (b : Int) from by omega) rw90 (by omega) alL10 agr.rf hMV9 hP hD hS (lv_sub hl [0, 1, 2] rfl)
    · skip
      have f91 : z4.toInt = 0 := b_eq rfl (by decide) c17
      exfalso; omega
  · skip
    have hb92 : ∀ k, Rc gT (Crun gs (Iprod gd :: k)) (Cbad (V9 1 3).toInt) := fun k => (hr3 k).tr (h13 (IprodR gd :: k))
    refine lv_if_ne (tgt := 10) hx hb dX1_readProduct_5 (by decide) (fun c93 => ?_) (fun c93 => ?_)
    · skip
      have f94 : z4.toInt ≠ 0 := b_neq rfl (by decide) c93
      exfalso; omega
    · skip
      have f95 : z4.toInt = 0 := b_eq rfl (by decide) c93
      refine lv_iconst (v := 0) hx hb dX1_readProduct_8 (by decide) ?_
      have rw96 : ROWL b L L10 := (fun k hk => ((t8 k hk).trans rfl))
      exact W.zret (v := 0) hx hb hr rfl (fun t ht hW => ⟨⟨0, (V9, L10), rfl, ⟨hMV9, agV9, alL10, (by decide), (Or.inr ⟨rfl, hb92⟩), rw96⟩, by rw [ht]; exact hP, va_K.moved hW.alike hK, hD⟩, hS.F ht⟩) hS.2.2 dX1_readProduct_9
set_option maxHeartbeats 4000000 in
set_option maxRecDepth 100000 in
theorem x_readWithin3 {l : Launch} {D : va_G} {ks : KS} {dd : Nat} (hk_x_readExpression3 : K_x_readExpression3 l D ks dd) : K_x_readWithin3 l D ks dd := by
  intro sz ad kk V L Z p0 b gT gs gd hMV rg_p0 hb2 rbk rel yd wh ow y1
  refine g_met (q_x_readWithin3 D ks ad kk V L Z p0 b gT gs gd) (by decide) (Nat.le_of_ble_eq_true rfl) ?_
  intro p e s m below meth c A ls H locs hx hb hr hml hown hg hlocks hin hnw hgk hP hK hD hS hA hl
  have hown : s.vm.findClass RX1 = some m.cls := hown
  have hl : lv_has ls 2 [(0, .ref (ad 1)), (1, .int p0)] := hl
  have hP : va_P D vwCl (xw ad kk V L Z) H := hP
  have hD : va_D A (xw ad kk V L Z) := hD
  have hK : va_K D vwCl (xty kk Z) s := hK
  have agV : agr [(1, 3), (1, 6), (1, 8), (6, 8), (6, 9), (6, 10)] [42, 43, 44, 48] V V := agr.rf
  have alL : agL [6, 44] L L := agL.rf
  have rf_p0 := i_full p0
  have r1 : (-1) ≤ ((V 1 1)).toInt ∧ ((V 1 1)).toInt ≤ 1 := hMV 1 1
  refine lv_aload_n hx hb dX1_readWithin_0 rfl (lv_at hl 0 rfl) ?_
  refine lv_bipush (v := 40) hx hb dX1_readWithin_1 (by decide) ?_
  have hr2 : ∀ k, Rc gT (Crun gs (Itake 40 :: Iexpr (gd + 1) :: Itake 41 :: k)) (Crun gs (Itake 40 :: Iexpr (gd + 1) :: Itake 41 :: k)) := fun k => Rc.rf
  have r3 : Int32.toInt 40 = 40 := by decide
  refine gA_int (gA_runV (As := [.int 40]) (rest := []) (ci := 1) (q0 := 1) hx hb hml hown hg hP hD hK hS hA hnw hgk (x_take2 l D ks H.size ad kk V L Z 40 ((gs.1 0)) hMV (rel).1 (rel).2.1.1 (show 1 ≤ (Int32.toInt 40) from by omega)) w893 w895 w10 w162 w896 rfl xgReader hdV_yX1_take ⟨(by show 1 + 1 ≤ 10 * dd + 10; omega), (by show 8 + (2 + 11) + (21) ≤ 300 * dd + 265; omega)⟩ rfl hl.1 rfl (Nat.le_of_ble_eq_true rfl) dX1_readWithin_3 ⟨Nat.le_of_ble_eq_true rfl, Nat.le_of_ble_eq_true rfl⟩) hP hD hK hS hA (fun z4 u5 H locs w6 hP hD hK hS => ?_)
  obtain ⟨V9, L10⟩ := u5
  obtain ⟨hMV9, ajV9, axL10, rgz4, t7, t8⟩ := w6
  have alL10 : agL [6, 44] L L10 := agL.tr alL axL10 (by decide)
  have hP : va_P D vwCl (xw ad kk V9 L10 Z) H := hP
  have hD : va_D A (xw ad kk V9 L10 Z) := hD
  have hMV9 : rgd bX V9 := hMV9
  have ajV9 : agr [(1, 3), (6, 8), (6, 9), (6, 10)] [] V V9 := ajV9
  have agV9 : agr [(1, 3), (1, 6), (1, 8), (6, 8), (6, 9), (6, 10)] [42, 43, 44, 48] V V9 := agV.tr ajV9 (by decide) (by decide)
  have rgz4 : 0 ≤ z4.toInt ∧ z4.toInt ≤ 1 := rgz4
  have t7 : Imp (z4.toInt = 0) (1 ≤ (V9 1 3).toInt) := t7
  have t8 : (z4.toInt = 1 ∧ (V 12 (gs.1 0)).toInt = (Int32.toInt 40) ∧ CUR V9 L10 ((gs.1 0) + 1) ∧ V9 1 3 = V 1 3) ∨ (z4.toInt = 0 ∧ (V 12 (gs.1 0)).toInt ≠ (Int32.toInt 40) ∧ (V9 1 3).toInt = 1 + 16 * (V 13 (gs.1 0)).toInt) := t8
  rcases t8 with ⟨q11, h12, k13, k14⟩ | ⟨q11, h12, k13⟩
  · skip
    have rl15 : RelC V9 L10 b gT (nx gs 1) := RelC.nx1 rel ajV9 (by decide) axL10 (by decide) k13 k14
    have hr16 : ∀ k, Rc gT (Crun gs (Itake 40 :: Iexpr (gd + 1) :: Itake 41 :: k)) (Crun (nx gs 1) (Iexpr (gd + 1) :: Itake 41 :: k)) := fun k => Rc.go1 (hr2 k) (tk_y (rel.tok.1.trans (h12.trans (by decide))))
    refine lv_if_eq (tgt := 32) hx hb dX1_readWithin_6 (by decide) (fun c17 => ?_) (fun c17 => ?_)
    · skip
      have f18 : z4.toInt = 0 := b_eq rfl (by decide) c17
      exfalso; first | omega | ((try (have i_t7 := Imp.go t7 (by omega))); omega)
    · skip
      have f19 : z4.toInt ≠ 0 := b_neq rfl (by decide) c17
      refine lv_aload_n hx hb dX1_readWithin_9 rfl (lv_at hl 0 rfl) ?_
      refine lv_iload_n hx hb dX1_readWithin_10 rfl (lv_at hl 1 rfl) ?_
      refine lv_iconst (v := 1) hx hb dX1_readWithin_11 (by decide) ?_
      refine lv_iadd hx hb dX1_readWithin_12 ?_
      refine lv_topi (fun z20 ez20 => ?_)
      have hz20 : z20.toInt = p0.toInt + 1 := i_add ez20 rfl (by decide) (by omega)
      have pq21 : (V9 1 1).toInt = ((V 1 1)).toInt := congrArg Int32.toInt (ajV9 1 1 rfl)
      refine gA_int (gA_runV (As := [.int z20]) (rest := []) (ci := 1) (q0 := 1) hx hb hml hown hg hP hD hK hS hA hnw hgk (hk_x_readExpression3 H.size ad kk V9 L10 Z z20 (b) (gT) ((nx gs 1)) ((gd + 1)) hMV9 (by first | omega | ((try (have i_t7 := Imp.go t7 (by omega))); omega)) (show b < 2 from by first | omega | ((try (have i_t7 := Imp.go t7 (by omega))); omega)) (show (V9 1 1).toInt = (b : Int) from by first | omega | ((try (have i_t7 := Imp.go t7 (by omega))); omega)) rl15 (show z20.toInt = ((gd + 1) : Int) from by first | omega | ((try (have i_t7 := Imp.go t7 (by omega))); omega)) (((congrArg Int32.toInt (ajV9 1 4 rfl)).trans wh).trans (congrArg (fun n9 : Nat => (n9 : Int)) (((keepS.tr (keepS.rf : keepS gs 0 gs) (keepS.n1 1))).2.1 4 (by decide)).symm)) (fun h9 => by rw [(ajV9 1 2 rfl)]; exact ow ((congrArg Int32.toInt (ajV9 1 4 rfl)).symm.trans h9)) (show 8 - z20.toInt ≤ (dd : Int) from by first | omega | ((try (have i_t7 := Imp.go t7 (by omega))); omega))) w951 w953 w21 w162 w954 rfl xgReader hdV_yX1_readExpression ⟨(by show 10 * dd + 9 + 1 ≤ 10 * dd + 10; omega), (by show 8 + (3 + 11) + (300 * dd + 240) ≤ 300 * dd + 265; omega)⟩ rfl hl.1 rfl (Nat.le_of_ble_eq_true rfl) dX1_readWithin_13 ⟨Nat.le_of_ble_eq_true rfl, Nat.le_of_ble_eq_true rfl⟩) hP hD hK hS hA (fun z22 u23 H locs w24 hP hD hK hS => ?_)
      obtain ⟨V27, L28⟩ := u23
      obtain ⟨hMV27, ajV27, axL28, rgz22, t25, t26⟩ := w24
      have alL28 : agL [6, 44] L L28 := agL.tr alL10 axL28 (by decide)
      have hP : va_P D vwCl (xw ad kk V27 L28 Z) H := hP
      have hD : va_D A (xw ad kk V27 L28 Z) := hD
      have hMV27 : rgd bX V27 := hMV27
      have ajV27 : agr [(1, 3), (1, 6), (1, 8), (6, 8), (6, 9), (6, 10)] [42, 43, 44, 48] V9 V27 := ajV27
      have agV27 : agr [(1, 3), (1, 6), (1, 8), (6, 8), (6, 9), (6, 10)] [42, 43, 44, 48] V V27 := agV9.tr ajV27 (by decide) (by decide)
      have rgz22 : 0 ≤ z22.toInt ∧ z22.toInt ≤ 1 := rgz22
      have t25 : Rd gT (nx gs 1) (fun k => Iexpr (gd + 1) :: k) (fun k => k) z22.toInt (V27 1 3).toInt (fun s9 => RelC V27 L28 b gT s9 ∧ keepS (nx gs 1) 1 s9) := t25
      have t26 : ROWL b L10 L28 := t26
      rcases t25 with ⟨q29, sx30, h31, rl32, kp33⟩ | ⟨q29, h31⟩
      · skip
        have hr34 : ∀ k, Rc gT (Crun gs (Itake 40 :: Iexpr (gd + 1) :: Itake 41 :: k)) (Crun sx30 (Itake 41 :: k)) := fun k => (hr16 k).tr (h31 (Itake 41 :: k))
        refine lv_if_eq (tgt := 32) hx hb dX1_readWithin_16 (by decide) (fun c35 => ?_) (fun c35 => ?_)
        · skip
          have f36 : z22.toInt = 0 := b_eq rfl (by decide) c35
          exfalso; first | omega | ((try (have i_t7 := Imp.go t7 (by omega))); omega)
        · skip
          have f37 : z22.toInt ≠ 0 := b_neq rfl (by decide) c35
          refine lv_aload_n hx hb dX1_readWithin_19 rfl (lv_at hl 0 rfl) ?_
          refine lv_bipush (v := 41) hx hb dX1_readWithin_20 (by decide) ?_
          have r38 : Int32.toInt 41 = 41 := by decide
          refine gA_int (gA_runV (As := [.int 41]) (rest := []) (ci := 1) (q0 := 1) hx hb hml hown hg hP hD hK hS hA hnw hgk (x_take2 l D ks H.size ad kk V27 L28 Z 41 ((sx30.1 0)) hMV27 (rl32).1 (rl32).2.1.1 (show 1 ≤ (Int32.toInt 41) from by first | omega | ((try (have i_t7 := Imp.go t7 (by omega))); omega))) w893 w895 w10 w162 w896 rfl xgReader hdV_yX1_take ⟨(by show 1 + 1 ≤ 10 * dd + 10; omega), (by show 8 + (2 + 11) + (21) ≤ 300 * dd + 265; omega)⟩ rfl hl.1 rfl (Nat.le_of_ble_eq_true rfl) dX1_readWithin_22 ⟨Nat.le_of_ble_eq_true rfl, Nat.le_of_ble_eq_true rfl⟩) hP hD hK hS hA (fun z39 u40 H locs w41 hP hD hK hS => ?_)
          obtain ⟨V44, L45⟩ := u40
          obtain ⟨hMV44, ajV44, axL45, rgz39, t42, t43⟩ := w41
          have alL45 : agL [6, 44] L L45 := agL.tr alL28 axL45 (by decide)
          have hP : va_P D vwCl (xw ad kk V44 L45 Z) H := hP
          have hD : va_D A (xw ad kk V44 L45 Z) := hD
          have hMV44 : rgd bX V44 := hMV44
          have ajV44 : agr [(1, 3), (6, 8), (6, 9), (6, 10)] [] V27 V44 := ajV44
          have agV44 : agr [(1, 3), (1, 6), (1, 8), (6, 8), (6, 9), (6, 10)] [42, 43, 44, 48] V V44 := agV27.tr ajV44 (by decide) (by decide)
          have rgz39 : 0 ≤ z39.toInt ∧ z39.toInt ≤ 1 := rgz39
          have t42 : Imp (z39.toInt = 0) (1 ≤ (V44 1 3).toInt) := t42
          have t43 : (z39.toInt = 1 ∧ (V27 12 (sx30.1 0)).toInt = (Int32.toInt 41) ∧ CUR V44 L45 ((sx30.1 0) + 1) ∧ V44 1 3 = V27 1 3) ∨ (z39.toInt = 0 ∧ (V27 12 (sx30.1 0)).toInt ≠ (Int32.toInt 41) ∧ (V44 1 3).toInt = 1 + 16 * (V27 13 (sx30.1 0)).toInt) := t43
          rcases t43 with ⟨q46, h47, k48, k49⟩ | ⟨q46, h47, k48⟩
          · skip
            have rl50 : RelC V44 L45 b gT (nx sx30 1) := RelC.nx1 rl32 ajV44 (by decide) axL45 (by decide) k48 k49
            have hr51 : ∀ k, Rc gT (Crun gs (Itake 40 :: Iexpr (gd + 1) :: Itake 41 :: k)) (Crun (nx sx30 1) (k)) := fun k => Rc.go1 (hr34 k) (tk_y (rl32.tok.1.trans (h47.trans (by decide))))
            refine lv_if_eq (tgt := 32) hx hb dX1_readWithin_25 (by decide) (fun c52 => ?_) (fun c52 => ?_)
            · skip
              have f53 : z39.toInt = 0 := b_eq rfl (by decide) c52
              exfalso; first | omega | ((try (have i_t42 := Imp.go t42 (by omega))); (try (have i_t7 := Imp.go t7 (by omega))); (try (have i_t7 := Imp.go t7 (by omega))); (try (have i_t42 := Imp.go t42 (by omega))); omega)
            · skip
              have f54 : z39.toInt ≠ 0 := b_neq rfl (by decide) c52
              refine lv_iconst (v := 1) hx hb dX1_readWithin_28 (by decide) ?_
              refine lv_goto (tgt := 33) hx hb dX1_readWithin_29 (by decide) ?_
              have rw55 : ROWL b L L45 := (fun k hk => ((axL45 44 k rfl).trans ((t26 k hk).trans ((axL10 44 k rfl).trans rfl))))
              exact W.zret (v := 1) hx hb hr rfl (fun t ht hW => ⟨⟨1, (V44, L45), rfl, ⟨hMV44, agV44, alL45, (by decide), (Or.inl ⟨rfl, (nx sx30 1), hr51, rl50, keepS.le (keepS.tr (keepS.tr (keepS.tr (keepS.rf : keepS gs 0 gs) (keepS.n1 1)) kp33) (keepS.n1 1)) (by decide)⟩), rw55⟩, by rw [ht]; exact hP, va_K.moved hW.alike hK, hD⟩, hS.F ht⟩) hS.2.2 dX1_readWithin_33
          · skip
            have hb56 : ∀ k, Rc gT (Crun gs (Itake 40 :: Iexpr (gd + 1) :: Itake 41 :: k)) (Cbad (V44 1 3).toInt) := fun k => Rc.go1 (hr34 k) ((tk_n (fun h9 => h47 (rl32.tok.1.symm.trans (h9.trans (by decide))))).trans (fl_eq rl32.tok.2.2 k48))
            refine lv_if_eq (tgt := 32) hx hb dX1_readWithin_25 (by decide) (fun c57 => ?_) (fun c57 => ?_)
            · skip
              have f58 : z39.toInt = 0 := b_eq rfl (by decide) c57
              refine lv_iconst (v := 0) hx hb dX1_readWithin_32 (by decide) ?_
              have rw59 : ROWL b L L45 := (fun k hk => ((axL45 44 k rfl).trans ((t26 k hk).trans ((axL10 44 k rfl).trans rfl))))
              exact W.zret (v := 0) hx hb hr rfl (fun t ht hW => ⟨⟨0, (V44, L45), rfl, ⟨hMV44, agV44, alL45, (by decide), (Or.inr ⟨rfl, hb56⟩), rw59⟩, by rw [ht]; exact hP, va_K.moved hW.alike hK, hD⟩, hS.F ht⟩) hS.2.2 dX1_readWithin_33
            · skip
              have f60 : z39.toInt ≠ 0 := b_neq rfl (by decide) c57
              exfalso; first | omega | ((try (have i_t42 := Imp.go t42 (by omega))); (try (have i_t7 := Imp.go t7 (by omega))); (try (have i_t7 := Imp.go t7 (by omega))); (try (have i_t42 := Imp.go t42 (by omega))); omega)
      · skip
        have hb61 : ∀ k, Rc gT (Crun gs (Itake 40 :: Iexpr (gd + 1) :: Itake 41 :: k)) (Cbad (V27 1 3).toInt) := fun k => (hr16 k).tr (h31 (Itake 41 :: k))
        refine lv_if_eq (tgt := 32) hx hb dX1_readWithin_16 (by decide) (fun c62 => ?_) (fun c62 => ?_)
        · skip
          have f63 : z22.toInt = 0 := b_eq rfl (by decide) c62
          refine lv_iconst (v := 0) hx hb dX1_readWithin_32 (by decide) ?_
          have rw64 : ROWL b L L28 := (fun k hk => ((t26 k hk).trans ((axL10 44 k rfl).trans rfl)))
          exact W.zret (v := 0) hx hb hr rfl (fun t ht hW => ⟨⟨0, (V27, L28), rfl, ⟨hMV27, agV27, alL28, (by decide), (Or.inr ⟨rfl, hb61⟩), rw64⟩, by rw [ht]; exact hP, va_K.moved hW.alike hK, hD⟩, hS.F ht⟩) hS.2.2 dX1_readWithin_33
        · skip
          have f65 : z22.toInt ≠ 0 := b_neq rfl (by decide) c62
          exfalso; first | omega | ((try (have i_t7 := Imp.go t7 (by omega))); omega)
  · skip
    have hb66 : ∀ k, Rc gT (Crun gs (Itake 40 :: Iexpr (gd + 1) :: Itake 41 :: k)) (Cbad (V9 1 3).toInt) := fun k => Rc.go1 (hr2 k) ((tk_n (fun h9 => h12 (rel.tok.1.symm.trans (h9.trans (by decide))))).trans (fl_eq rel.tok.2.2 k13))
    refine lv_if_eq (tgt := 32) hx hb dX1_readWithin_6 (by decide) (fun c67 => ?_) (fun c67 => ?_)
    · skip
      have f68 : z4.toInt = 0 := b_eq rfl (by decide) c67
      refine lv_iconst (v := 0) hx hb dX1_readWithin_32 (by decide) ?_
      have rw69 : ROWL b L L10 := (fun k hk => ((axL10 44 k rfl).trans rfl))
      exact W.zret (v := 0) hx hb hr rfl (fun t ht hW => ⟨⟨0, (V9, L10), rfl, ⟨hMV9, agV9, alL10, (by decide), (Or.inr ⟨rfl, hb66⟩), rw69⟩, by rw [ht]; exact hP, va_K.moved hW.alike hK, hD⟩, hS.F ht⟩) hS.2.2 dX1_readWithin_33
    · skip
      have f70 : z4.toInt ≠ 0 := b_neq rfl (by decide) c67
      exfalso; first | omega | ((try (have i_t7 := Imp.go t7 (by omega))); omega)
set_option maxHeartbeats 4000000 in
set_option maxRecDepth 100000 in
theorem x_readPart3 {l : Launch} {D : va_G} {ks : KS} {dd : Nat} (hk_x_readExpression3 : ∀ d9, dd = d9 + 1 → K_x_readExpression3 l D ks d9) (hk_x_readPart3 : ∀ d9, dd = d9 + 1 → K_x_readPart3 l D ks d9) (hk_x_readPick3 : ∀ d9, dd = d9 + 1 → K_x_readPick3 l D ks d9) (hk_x_readOf3 : ∀ d9, dd = d9 + 1 → K_x_readOf3 l D ks d9) (hk_x_readWithin3 : ∀ d9, dd = d9 + 1 → K_x_readWithin3 l D ks d9) : K_x_readPart3 l D ks dd := by
  intro sz ad kk V L Z p0 b gT gs gd hMV rg_p0 hb2 rbk rel yd wh ow y1
  refine g_met (q_x_readPart3 D ks ad kk V L Z p0 b gT gs gd) (by decide) (Nat.le_of_ble_eq_true rfl) ?_
  intro p e s m below meth c A ls H locs hx hb hr hml hown hg hlocks hin hnw hgk hP hK hD hS hA hl
  have hown : s.vm.findClass RX1 = some m.cls := hown
  have hl : lv_has ls 5 [(0, .ref (ad 1)), (1, .int p0)] := hl
  have hP : va_P D vwCl (xw ad kk V L Z) H := hP
  have hD : va_D A (xw ad kk V L Z) := hD
  have hK : va_K D vwCl (xty kk Z) s := hK
  have agV : agr [(1, 3), (1, 6), (1, 8), (6, 8), (6, 9), (6, 10)] [42, 43, 44, 48] V V := agr.rf
  have alL : agL [6, 44] L L := agL.rf
  have rf_p0 := i_full p0
  have r1 : (-1) ≤ ((V 1 1)).toInt ∧ ((V 1 1)).toInt ≤ 1 := hMV 1 1
  refine lv_aload_n hx hb dX1_readPart_0 rfl (lv_at hl 0 rfl) ?_
  refine gA_int (gA_runV (As := []) (rest := []) (ci := 1) (q0 := 1) hx hb hml hown hg hP hD hK hS hA hnw hgk (x_beginsPart3 l D ks H.size ad kk V L Z (b) (gT) (gs) hMV (show b < 2 from by omega) (show (V 1 1).toInt = (b : Int) from by omega) rel wh) w967 w969 w25 w162 w970 rfl xgReader hdV_yX1_beginsPart ⟨(by show 0 + 1 ≤ 10 * dd + 6; omega), (by show 8 + (1 + 11) + (0) ≤ 300 * dd + 150; omega)⟩ rfl hl.1 rfl (Nat.le_of_ble_eq_true rfl) dX1_readPart_1 ⟨Nat.le_of_ble_eq_true rfl, Nat.le_of_ble_eq_true rfl⟩) hP hD hK hS hA (fun z2 u3 H locs w4 hP hD hK hS => ?_)
  obtain ⟨rgz2, t5⟩ := w4
  have rgz2 : 0 ≤ z2.toInt ∧ z2.toInt ≤ 1 := rgz2
  have t5 : (z2.toInt = 1 ∧ bgP gT gs) ∨ (z2.toInt = 0 ∧ ¬ bgP gT gs) := t5
  rcases t5 with ⟨q6, h7⟩ | ⟨q6, h7⟩
  · skip
    refine lv_if_ne (tgt := 13) hx hb dX1_readPart_4 (by decide) (fun c8 => ?_) (fun c8 => ?_)
    · skip
      have f9 : z2.toInt ≠ 0 := b_neq rfl (by decide) c8
      refine lv_iload_n hx hb dX1_readPart_13 rfl (lv_at hl 1 rfl) ?_
      refine lv_bipush (v := 8) hx hb dX1_readPart_14 (by decide) ?_
      refine lv_icmp_lt (tgt := 25) hx hb dX1_readPart_16 (by decide) (fun c10 => ?_) (fun c10 => ?_)
      · skip
        have f11 : p0.toInt < 8 := b_lt rfl (by decide) c10
        refine lv_aload_n hx hb dX1_readPart_25 rfl (lv_at hl 0 rfl) ?_
        obtain ⟨d9, rfl⟩ : ∃ d9, dd = d9 + 1 := ⟨dd - 1, by omega⟩
        refine va_get (D := D) (ci := 1) (v := .ref (ad 6)) (fs := (xfReader ad V L Z)) (C := RX1) (T := TX1) (N := 9) hx hb hg inX1 hown hK hP 1 xgReader rfl 0 (by decide) (hg _ w304) (fun _ h9 => h9) rfl dX1_readPart_26 ?_
        refine va_getN (D := D) (ci := 9) (v := .int (V 6 9)) (fs := (xfTape ad V L Z)) (C := RX9) (T := TX9) (N := 12) hx hb hg inX9 hown hK hP 6 xgTape rfl 9 (by decide) (hnw.use 262 n262 rfl) (fun _ h9 => h9) rfl dX1_readPart_29 ?_
        refine lv_istore_n (lv' := [(2, .int (V 6 9)), (0, .ref (ad 1)), (1, .int p0)]) hx hb dX1_readPart_32 rfl hl (by decide) rfl (fun ls hl => ?_)
        refine lv_aload_n hx hb dX1_readPart_33 rfl (lv_at hl 1 rfl) ?_
        refine va_get (D := D) (ci := 1) (v := .ref (ad 6)) (fs := (xfReader ad V L Z)) (C := RX1) (T := TX1) (N := 9) hx hb hg inX1 hown hK hP 1 xgReader rfl 0 (by decide) (hg _ w304) (fun _ h9 => h9) rfl dX1_readPart_34 ?_
        refine va_getN (D := D) (ci := 9) (v := .long (L 6 11)) (fs := (xfTape ad V L Z)) (C := RX9) (T := TX9) (N := 12) hx hb hg inX9 hown hK hP 6 xgTape rfl 11 (by decide) (hnw.use 269 n269 rfl) (fun _ h9 => h9) rfl dX1_readPart_37 ?_
        refine lv_lstore_n (lv' := [(3, .long (L 6 11)), (2, .int (V 6 9)), (0, .ref (ad 1)), (1, .int p0)]) hx hb dX1_readPart_40 rfl hl (by decide) rfl (fun ls hl => ?_)
        refine lv_aload_n hx hb dX1_readPart_41 rfl (lv_at hl 2 rfl) ?_
        refine va_get (D := D) (ci := 1) (v := rfN ad 38 (V 1 1)) (fs := (xfReader ad V L Z)) (C := RX1) (T := TX1) (N := 9) hx hb hg inX1 hown hK hP 1 xgReader rfl 1 (by decide) (hg _ w305) (fun _ h9 => h9) rfl dX1_readPart_42 ?_
        refine g_topv (v := .ref (ad (38 + b))) (rfN_r (by omega)) ?_
        refine lv_iconst (v := 1) hx hb dX1_readPart_45 (by decide) ?_
        have r12 : Int32.toInt 1 = 1 := by decide
        refine gA_void (gA_runV (As := [.int 1]) (rest := []) (ci := 0) (q0 := (38 + b)) hx hb hml hown hg hP hD hK hS hA hnw hgk (x_emit l D ks H.size ad kk V L Z 1 (b) hMV (show b < 2 from by omega)) w971 w972 w973 w167 w974 rfl (xgBook hb2) hdV_yX0_emit ⟨(by show 0 + 1 ≤ 10 * (d9 + 1) + 6; omega), (by show 8 + (2 + 11) + (0) ≤ 300 * (d9 + 1) + 150; omega)⟩ rfl hl.1 rfl (Nat.le_of_ble_eq_true rfl) dX1_readPart_46 ⟨Nat.le_of_ble_eq_true rfl, Nat.le_of_ble_eq_true rfl⟩) hP hD hK hS hA (fun u14 H locs w15 hP hD hK hS => ?_)
        obtain ⟨V17, L18⟩ := u14
        obtain ⟨hMV17, ajV17, axL18, fyV17, t16⟩ := w15
        have axL18 : L = L18 := Eq.symm axL18
        subst axL18
        have hP : va_P D vwCl (xw ad kk V17 L Z) H := hP
        have hD : va_D A (xw ad kk V17 L Z) := hD
        have hMV17 : rgd bX V17 := hMV17
        have ajV17 : agr [] [42, 48] V V17 := ajV17
        have agV17 : agr [(1, 3), (1, 6), (1, 8), (6, 8), (6, 9), (6, 10)] [42, 43, 44, 48] V V17 := agV.tr ajV17 (by decide) (by decide)
        have t16 : emX V V17 b 1 := t16
        have rl19 : RelC V17 L b gT gs := RelC.ag rel (show agr [] [42, 48] V V17 from (agr.tr agr.rf ajV17 (by decide) (by decide))) (by decide) (show agL [] L L from agL.rf) (by decide)
        have kd20 : gT.1 (gs.1 0) = ((V 6 9)).toInt := (RelC.kd rl19).trans (congrArg Int32.toInt (ajV17 6 9 rfl))
        have kn9 := bg_ne h7
        refine lv_aload_n hx hb dX1_readPart_49 rfl (lv_at hl 2 rfl) ?_
        refine va_get (D := D) (ci := 1) (v := .ref (ad 6)) (fs := (xfReader ad V17 L Z)) (C := RX1) (T := TX1) (N := 9) hx hb hg inX1 hown hK hP 1 xgReader rfl 0 (by decide) (hg _ w304) (fun _ h9 => h9) rfl dX1_readPart_50 ?_
        have l821 := RelC.l8 rl19
        have pq22 : (V17 6 8).toInt = ((V 6 8)).toInt := congrArg Int32.toInt (ajV17 6 8 rfl)
        have r23 : 0 ≤ ((V 6 8)).toInt ∧ ((V 6 8)).toInt ≤ 4000 := hMV 6 8
        have pq24 : (V17 6 7).toInt = ((V 6 7)).toInt := congrArg Int32.toInt (ajV17 6 7 rfl)
        have r25 : 0 ≤ ((V 6 7)).toInt ∧ ((V 6 7)).toInt ≤ 4000 := hMV 6 7
        have pq26 : (V17 6 9).toInt = ((V 6 9)).toInt := congrArg Int32.toInt (ajV17 6 9 rfl)
        have lk27 := RelC.lk rl19 (show (V17 6 9).toInt ≠ 0 from by omega)
        refine gA_void (gA_runV (As := []) (rest := []) (ci := 9) (q0 := 6) hx hb hml hown hg hP hD hK hS hA hnw hgk (x_next2 l D ks H.size ad kk V17 L Z  hMV17 (show (V17 6 8).toInt ≤ (V17 6 7).toInt from by omega)) w871 w852 w853 w157 w854 rfl xgTape hdV_yX9_next ⟨(by show 0 + 1 ≤ 10 * (d9 + 1) + 6; omega), (by show 8 + (1 + 11) + (0) ≤ 300 * (d9 + 1) + 150; omega)⟩ rfl hl.1 rfl (Nat.le_of_ble_eq_true rfl) dX1_readPart_53 ⟨Nat.le_of_ble_eq_true rfl, Nat.le_of_ble_eq_true rfl⟩) hP hD hK hS hA (fun u29 H locs w30 hP hD hK hS => ?_)
        obtain ⟨V33, L34⟩ := u29
        obtain ⟨hMV33, ajV33, axL34, t31, t32⟩ := w30
        have alL34 : agL [6, 44] L L34 := agL.tr alL axL34 (by decide)
        have hP : va_P D vwCl (xw ad kk V33 L34 Z) H := hP
        have hD : va_D A (xw ad kk V33 L34 Z) := hD
        have hMV33 : rgd bX V33 := hMV33
        have ajV33 : agr [(6, 8), (6, 9), (6, 10)] [] V17 V33 := ajV33
        have agV33 : agr [(1, 3), (1, 6), (1, 8), (6, 8), (6, 9), (6, 10)] [42, 43, 44, 48] V V33 := agV17.tr ajV33 (by decide) (by decide)
        have t31 : (V33 6 8).toInt ≤ (V33 6 7).toInt := t31
        have t32 : CUR V33 L34 (Int32.toNatClampNeg (V17 6 8)) := t32
        have r35 : 0 ≤ ((V33 6 8)).toInt ∧ ((V33 6 8)).toInt ≤ 4000 := hMV33 6 8
        have pq36 : (V33 6 7).toInt = ((V 6 7)).toInt := congrArg Int32.toInt ((ajV33 6 7 rfl).trans (ajV17 6 7 rfl))
        have rl37 : RelC V33 L34 b gT (nx gs 1) := RelC.nx1 rl19 ajV33 (by decide) axL34 (by decide) (by rw [← lk27]; exact t32) (ajV33 1 3 rfl)
        refine lv_iload_n hx hb dX1_readPart_56 rfl (lv_at hl 1 rfl) ?_
        by_cases q38 : (V 6 9) = 2
        · refine g_top (v := 2) q38 ?_
          have fq38 : ((V 6 9)).toInt = 2 := b_eq rfl (by decide) q38
          refine lv_lookup (x := 2) (off := 75) (tgt := 132) hx hb dX1_readPart_57 (by decide) (by decide) (by decide) ?_
          have hr39 : ∀ k, Rc gT (Crun gs (Ipart gd :: k)) (Crun gs (Ipart gd :: k)) := fun k => Rc.rf
          have hr40 : ∀ k, Rc gT (Crun gs (Ipart gd :: k)) (Crun (nx gs 1) (k)) := fun k => Rc.go1 (hr39 k) (pw_2 gd h7 (by omega) (kd20.trans fq38))
          refine lv_aload_n hx hb dX1_readPart_132 rfl (lv_at hl 2 rfl) ?_
          refine lv_bipush (v := 10) hx hb dX1_readPart_133 (by decide) ?_
          refine lv_lload_n hx hb dX1_readPart_135 rfl (lv_at hl 0 rfl) ?_
          refine lv_l2i hx hb dX1_readPart_136 rfl ?_
          refine lv_topi (fun z41 ez41 => ?_)
          have hz41 := l2i_f ez41
          have r42 : Int32.toInt 10 = 10 := by decide
          have pq43 : (V33 1 1).toInt = ((V 1 1)).toInt := congrArg Int32.toInt ((ajV33 1 1 rfl).trans (ajV17 1 1 rfl))
          refine gA_int (gA_runV (As := [.int 10, .int z41]) (rest := []) (ci := 1) (q0 := 1) hx hb hml hown hg hP hD hK hS hA hnw hgk (x_put3 l D ks H.size ad kk V33 L34 Z 10 z41 (b) hMV33 (show b < 2 from by first | omega | ((try (have i_hz41 := Imp.go hz41 (by omega))); omega)) (show (V33 1 1).toInt = (b : Int) from by first | omega | ((try (have i_hz41 := Imp.go hz41 (by omega))); omega))) w975 w977 w26 w162 w978 rfl xgReader hdV_yX1_put ⟨(by show 1 + 1 ≤ 10 * (d9 + 1) + 6; omega), (by show 8 + (3 + 11) + (21) ≤ 300 * (d9 + 1) + 150; omega)⟩ rfl hl.1 rfl (Nat.le_of_ble_eq_true rfl) dX1_readPart_137 ⟨Nat.le_of_ble_eq_true rfl, Nat.le_of_ble_eq_true rfl⟩) hP hD hK hS hA (fun z44 u45 H locs w46 hP hD hK hS => ?_)
          obtain ⟨V47, L48⟩ := u45
          obtain ⟨hMV47, ajV47, axL48, rgz44⟩ := w46
          have axL48 : L34 = L48 := Eq.symm axL48
          subst axL48
          have hP : va_P D vwCl (xw ad kk V47 L34 Z) H := hP
          have hD : va_D A (xw ad kk V47 L34 Z) := hD
          have hMV47 : rgd bX V47 := hMV47
          have ajV47 : agr [] [42, 48] V33 V47 := ajV47
          have agV47 : agr [(1, 3), (1, 6), (1, 8), (6, 8), (6, 9), (6, 10)] [42, 43, 44, 48] V V47 := agV33.tr ajV47 (by decide) (by decide)
          have rgz44 : 1 ≤ z44.toInt ∧ z44.toInt ≤ 1 := rgz44
          have rl49 : RelC V47 L34 b gT (nx gs 1) := RelC.ag rl37 (show agr [] [42, 48] V33 V47 from (agr.tr agr.rf ajV47 (by decide) (by decide))) (by decide) (show agL [] L34 L34 from agL.rf) (by decide)
          have rw50 : ROWL b L L34 := (fun k hk => ((axL34 44 k rfl).trans rfl))
          exact W.zret (v := z44) hx hb hr (nb_ok (by omega)) (fun t ht hW => ⟨⟨z44, (V47, L34), rfl, ⟨hMV47, agV47, alL34, (show 0 ≤ z44.toInt ∧ z44.toInt ≤ 1 from by first | omega | ((try (have i_hz41 := Imp.go hz41 (by omega))); omega)), (Or.inl ⟨(by omega), (nx gs 1), hr40, rl49, keepS.le (keepS.tr (keepS.rf : keepS gs 0 gs) (keepS.n1 1)) (by decide)⟩), rw50⟩, by rw [ht]; exact hP, va_K.moved hW.alike hK, hD⟩, hS.F ht⟩) hS.2.2 dX1_readPart_140
        have gq38 : ((V 6 9)).toInt ≠ 2 := b_neq rfl (by decide) q38
        by_cases q51 : (V 6 9) = 40
        · refine g_top (v := 40) q51 ?_
          have fq51 : ((V 6 9)).toInt = 40 := b_eq rfl (by decide) q51
          refine lv_lookup (x := 40) (off := 90) (tgt := 147) hx hb dX1_readPart_57 (by decide) (by decide) (by decide) ?_
          have hr52 : ∀ k, Rc gT (Crun gs (Ipart gd :: k)) (Crun gs (Ipart gd :: k)) := fun k => Rc.rf
          have hr53 : ∀ k, Rc gT (Crun gs (Ipart gd :: k)) (Crun (nx gs 1) (Iexpr (gd + 1) :: Itake 41 :: k)) := fun k => Rc.go1 (hr52 k) (pw_40 gd h7 (by omega) (kd20.trans fq51))
          refine lv_aload_n hx hb dX1_readPart_147 rfl (lv_at hl 2 rfl) ?_
          refine lv_iload_n hx hb dX1_readPart_148 rfl (lv_at hl 3 rfl) ?_
          refine lv_iconst (v := 1) hx hb dX1_readPart_149 (by decide) ?_
          refine lv_iadd hx hb dX1_readPart_150 ?_
          refine lv_topi (fun z54 ez54 => ?_)
          have hz54 : z54.toInt = p0.toInt + 1 := i_add ez54 rfl (by decide) (by omega)
          have pq55 : (V33 1 1).toInt = ((V 1 1)).toInt := congrArg Int32.toInt ((ajV33 1 1 rfl).trans (ajV17 1 1 rfl))
          refine gA_int (gA_runV (As := [.int z54]) (rest := []) (ci := 1) (q0 := 1) hx hb hml hown hg hP hD hK hS hA hnw hgk ((hk_x_readExpression3 d9 rfl) H.size ad kk V33 L34 Z z54 (b) (gT) ((nx gs 1)) ((gd + 1)) hMV33 (by omega) (show b < 2 from by omega) (show (V33 1 1).toInt = (b : Int) from by omega) rl37 (show z54.toInt = ((gd + 1) : Int) from by omega) (((congrArg Int32.toInt ((ajV33 1 4 rfl).trans (ajV17 1 4 rfl))).trans wh).trans (congrArg (fun n9 : Nat => (n9 : Int)) (((keepS.tr (keepS.rf : keepS gs 0 gs) (keepS.n1 1))).2.1 4 (by decide)).symm)) (fun h9 => by rw [((ajV33 1 2 rfl).trans (ajV17 1 2 rfl))]; exact ow ((congrArg Int32.toInt ((ajV33 1 4 rfl).trans (ajV17 1 4 rfl))).symm.trans h9)) (show 8 - z54.toInt ≤ ((d9 : Nat) : Int) from by omega)) w951 w953 w21 w162 w954 rfl xgReader hdV_yX1_readExpression ⟨(by show 10 * d9 + 9 + 1 ≤ 10 * (d9 + 1) + 6; omega), (by show 8 + (3 + 11) + (300 * d9 + 240) ≤ 300 * (d9 + 1) + 150; omega)⟩ rfl hl.1 rfl (Nat.le_of_ble_eq_true rfl) dX1_readPart_151 ⟨Nat.le_of_ble_eq_true rfl, Nat.le_of_ble_eq_true rfl⟩) hP hD hK hS hA (fun z56 u57 H locs w58 hP hD hK hS => ?_)
          obtain ⟨V61, L62⟩ := u57
          obtain ⟨hMV61, ajV61, axL62, rgz56, t59, t60⟩ := w58
          have alL62 : agL [6, 44] L L62 := agL.tr alL34 axL62 (by decide)
          have hP : va_P D vwCl (xw ad kk V61 L62 Z) H := hP
          have hD : va_D A (xw ad kk V61 L62 Z) := hD
          have hMV61 : rgd bX V61 := hMV61
          have ajV61 : agr [(1, 3), (1, 6), (1, 8), (6, 8), (6, 9), (6, 10)] [42, 43, 44, 48] V33 V61 := ajV61
          have agV61 : agr [(1, 3), (1, 6), (1, 8), (6, 8), (6, 9), (6, 10)] [42, 43, 44, 48] V V61 := agV33.tr ajV61 (by decide) (by decide)
          have rgz56 : 0 ≤ z56.toInt ∧ z56.toInt ≤ 1 := rgz56
          have t59 : Rd gT (nx gs 1) (fun k => Iexpr (gd + 1) :: k) (fun k => k) z56.toInt (V61 1 3).toInt (fun s9 => RelC V61 L62 b gT s9 ∧ keepS (nx gs 1) 1 s9) := t59
          have t60 : ROWL b L34 L62 := t60
          rcases t59 with ⟨q63, sx64, h65, rl66, kp67⟩ | ⟨q63, h65⟩
          · skip
            have hr68 : ∀ k, Rc gT (Crun gs (Ipart gd :: k)) (Crun sx64 (Itake 41 :: k)) := fun k => (hr53 k).tr (h65 (Itake 41 :: k))
            refine lv_if_eq (tgt := 170) hx hb dX1_readPart_154 (by decide) (fun c69 => ?_) (fun c69 => ?_)
            · skip
              have f70 : z56.toInt = 0 := b_eq rfl (by decide) c69
              exfalso; omega
            · skip
              have f71 : z56.toInt ≠ 0 := b_neq rfl (by decide) c69
              refine lv_aload_n hx hb dX1_readPart_157 rfl (lv_at hl 2 rfl) ?_
              refine lv_bipush (v := 41) hx hb dX1_readPart_158 (by decide) ?_
              have r72 : Int32.toInt 41 = 41 := by decide
              refine gA_int (gA_runV (As := [.int 41]) (rest := []) (ci := 1) (q0 := 1) hx hb hml hown hg hP hD hK hS hA hnw hgk (x_take2 l D ks H.size ad kk V61 L62 Z 41 ((sx64.1 0)) hMV61 (rl66).1 (rl66).2.1.1 (show 1 ≤ (Int32.toInt 41) from by omega)) w893 w895 w10 w162 w896 rfl xgReader hdV_yX1_take ⟨(by show 1 + 1 ≤ 10 * (d9 + 1) + 6; omega), (by show 8 + (2 + 11) + (21) ≤ 300 * (d9 + 1) + 150; omega)⟩ rfl hl.1 rfl (Nat.le_of_ble_eq_true rfl) dX1_readPart_160 ⟨Nat.le_of_ble_eq_true rfl, Nat.le_of_ble_eq_true rfl⟩) hP hD hK hS hA (fun z73 u74 H locs w75 hP hD hK hS => ?_)
              obtain ⟨V78, L79⟩ := u74
              obtain ⟨hMV78, ajV78, axL79, rgz73, t76, t77⟩ := w75
              have alL79 : agL [6, 44] L L79 := agL.tr alL62 axL79 (by decide)
              have hP : va_P D vwCl (xw ad kk V78 L79 Z) H := hP
              have hD : va_D A (xw ad kk V78 L79 Z) := hD
              have hMV78 : rgd bX V78 := hMV78
              have ajV78 : agr [(1, 3), (6, 8), (6, 9), (6, 10)] [] V61 V78 := ajV78
              have agV78 : agr [(1, 3), (1, 6), (1, 8), (6, 8), (6, 9), (6, 10)] [42, 43, 44, 48] V V78 := agV61.tr ajV78 (by decide) (by decide)
              have rgz73 : 0 ≤ z73.toInt ∧ z73.toInt ≤ 1 := rgz73
              have t76 : Imp (z73.toInt = 0) (1 ≤ (V78 1 3).toInt) := t76
              have t77 : (z73.toInt = 1 ∧ (V61 12 (sx64.1 0)).toInt = (Int32.toInt 41) ∧ CUR V78 L79 ((sx64.1 0) + 1) ∧ V78 1 3 = V61 1 3) ∨ (z73.toInt = 0 ∧ (V61 12 (sx64.1 0)).toInt ≠ (Int32.toInt 41) ∧ (V78 1 3).toInt = 1 + 16 * (V61 13 (sx64.1 0)).toInt) := t77
              rcases t77 with ⟨q80, h81, k82, k83⟩ | ⟨q80, h81, k82⟩
              · skip
                have rl84 : RelC V78 L79 b gT (nx sx64 1) := RelC.nx1 rl66 ajV78 (by decide) axL79 (by decide) k82 k83
                have hr85 : ∀ k, Rc gT (Crun gs (Ipart gd :: k)) (Crun (nx sx64 1) (k)) := fun k => Rc.go1 (hr68 k) (tk_y (rl66.tok.1.trans (h81.trans (by decide))))
                refine lv_if_eq (tgt := 170) hx hb dX1_readPart_163 (by decide) (fun c86 => ?_) (fun c86 => ?_)
                · skip
                  have f87 : z73.toInt = 0 := b_eq rfl (by decide) c86
                  exfalso; first | omega | ((try (have i_t76 := Imp.go t76 (by omega))); omega)
                · skip
                  have f88 : z73.toInt ≠ 0 := b_neq rfl (by decide) c86
                  refine lv_iconst (v := 1) hx hb dX1_readPart_166 (by decide) ?_
                  refine lv_goto (tgt := 171) hx hb dX1_readPart_167 (by decide) ?_
                  have rw89 : ROWL b L L79 := (fun k hk => ((axL79 44 k rfl).trans ((t60 k hk).trans ((axL34 44 k rfl).trans rfl))))
                  exact W.zret (v := 1) hx hb hr rfl (fun t ht hW => ⟨⟨1, (V78, L79), rfl, ⟨hMV78, agV78, alL79, (by decide), (Or.inl ⟨rfl, (nx sx64 1), hr85, rl84, keepS.le (keepS.tr (keepS.tr (keepS.tr (keepS.rf : keepS gs 0 gs) (keepS.n1 1)) kp67) (keepS.n1 1)) (by decide)⟩), rw89⟩, by rw [ht]; exact hP, va_K.moved hW.alike hK, hD⟩, hS.F ht⟩) hS.2.2 dX1_readPart_171
              · skip
                have hb90 : ∀ k, Rc gT (Crun gs (Ipart gd :: k)) (Cbad (V78 1 3).toInt) := fun k => Rc.go1 (hr68 k) ((tk_n (fun h9 => h81 (rl66.tok.1.symm.trans (h9.trans (by decide))))).trans (fl_eq rl66.tok.2.2 k82))
                refine lv_if_eq (tgt := 170) hx hb dX1_readPart_163 (by decide) (fun c91 => ?_) (fun c91 => ?_)
                · skip
                  have f92 : z73.toInt = 0 := b_eq rfl (by decide) c91
                  refine lv_iconst (v := 0) hx hb dX1_readPart_170 (by decide) ?_
                  have rw93 : ROWL b L L79 := (fun k hk => ((axL79 44 k rfl).trans ((t60 k hk).trans ((axL34 44 k rfl).trans rfl))))
                  exact W.zret (v := 0) hx hb hr rfl (fun t ht hW => ⟨⟨0, (V78, L79), rfl, ⟨hMV78, agV78, alL79, (by decide), (Or.inr ⟨rfl, hb90⟩), rw93⟩, by rw [ht]; exact hP, va_K.moved hW.alike hK, hD⟩, hS.F ht⟩) hS.2.2 dX1_readPart_171
                · skip
                  have f94 : z73.toInt ≠ 0 := b_neq rfl (by decide) c91
                  exfalso; first | omega | ((try (have i_t76 := Imp.go t76 (by omega))); omega)
          · skip
            have hb95 : ∀ k, Rc gT (Crun gs (Ipart gd :: k)) (Cbad (V61 1 3).toInt) := fun k => (hr53 k).tr (h65 (Itake 41 :: k))
            refine lv_if_eq (tgt := 170) hx hb dX1_readPart_154 (by decide) (fun c96 => ?_) (fun c96 => ?_)
            · skip
              have f97 : z56.toInt = 0 := b_eq rfl (by decide) c96
              refine lv_iconst (v := 0) hx hb dX1_readPart_170 (by decide) ?_
              have rw98 : ROWL b L L62 := (fun k hk => ((t60 k hk).trans ((axL34 44 k rfl).trans rfl)))
              exact W.zret (v := 0) hx hb hr rfl (fun t ht hW => ⟨⟨0, (V61, L62), rfl, ⟨hMV61, agV61, alL62, (by decide), (Or.inr ⟨rfl, hb95⟩), rw98⟩, by rw [ht]; exact hP, va_K.moved hW.alike hK, hD⟩, hS.F ht⟩) hS.2.2 dX1_readPart_171
            · skip
              have f99 : z56.toInt ≠ 0 := b_neq rfl (by decide) c96
              exfalso; omega
        have gq51 : ((V 6 9)).toInt ≠ 40 := b_neq rfl (by decide) q51
        by_cases q100 : (V 6 9) = 45
        · refine g_top (v := 45) q100 ?_
          have fq100 : ((V 6 9)).toInt = 45 := b_eq rfl (by decide) q100
          refine lv_lookup (x := 45) (off := 115) (tgt := 172) hx hb dX1_readPart_57 (by decide) (by decide) (by decide) ?_
          have hr101 : ∀ k, Rc gT (Crun gs (Ipart gd :: k)) (Crun gs (Ipart gd :: k)) := fun k => Rc.rf
          have hr102 : ∀ k, Rc gT (Crun gs (Ipart gd :: k)) (Crun (nx gs 1) (Ipart (gd + 1) :: k)) := fun k => Rc.go1 (hr101 k) (pw_45 gd h7 (by omega) (kd20.trans fq100))
          refine lv_aload_n hx hb dX1_readPart_172 rfl (lv_at hl 2 rfl) ?_
          refine lv_iload_n hx hb dX1_readPart_173 rfl (lv_at hl 3 rfl) ?_
          refine lv_iconst (v := 1) hx hb dX1_readPart_174 (by decide) ?_
          refine lv_iadd hx hb dX1_readPart_175 ?_
          refine lv_topi (fun z103 ez103 => ?_)
          have hz103 : z103.toInt = p0.toInt + 1 := i_add ez103 rfl (by decide) (by omega)
          have pq104 : (V33 1 1).toInt = ((V 1 1)).toInt := congrArg Int32.toInt ((ajV33 1 1 rfl).trans (ajV17 1 1 rfl))
          refine gA_int (gA_runV (As := [.int z103]) (rest := []) (ci := 1) (q0 := 1) hx hb hml hown hg hP hD hK hS hA hnw hgk ((hk_x_readPart3 d9 rfl) H.size ad kk V33 L34 Z z103 (b) (gT) ((nx gs 1)) ((gd + 1)) hMV33 (by omega) (show b < 2 from by omega) (show (V33 1 1).toInt = (b : Int) from by omega) rl37 (show z103.toInt = ((gd + 1) : Int) from by omega) (((congrArg Int32.toInt ((ajV33 1 4 rfl).trans (ajV17 1 4 rfl))).trans wh).trans (congrArg (fun n9 : Nat => (n9 : Int)) (((keepS.tr (keepS.rf : keepS gs 0 gs) (keepS.n1 1))).2.1 4 (by decide)).symm)) (fun h9 => by rw [((ajV33 1 2 rfl).trans (ajV17 1 2 rfl))]; exact ow ((congrArg Int32.toInt ((ajV33 1 4 rfl).trans (ajV17 1 4 rfl))).symm.trans h9)) (show 8 - z103.toInt ≤ ((d9 : Nat) : Int) from by omega)) w963 w965 w24 w162 w966 rfl xgReader hdV_yX1_readPart ⟨(by show 10 * d9 + 6 + 1 ≤ 10 * (d9 + 1) + 6; omega), (by show 8 + (5 + 11) + (300 * d9 + 150) ≤ 300 * (d9 + 1) + 150; omega)⟩ rfl hl.1 rfl (Nat.le_of_ble_eq_true rfl) dX1_readPart_176 ⟨Nat.le_of_ble_eq_true rfl, Nat.le_of_ble_eq_true rfl⟩) hP hD hK hS hA (fun z105 u106 H locs w107 hP hD hK hS => ?_)
          obtain ⟨V110, L111⟩ := u106
          obtain ⟨hMV110, ajV110, axL111, rgz105, t108, t109⟩ := w107
          have alL111 : agL [6, 44] L L111 := agL.tr alL34 axL111 (by decide)
          have hP : va_P D vwCl (xw ad kk V110 L111 Z) H := hP
          have hD : va_D A (xw ad kk V110 L111 Z) := hD
          have hMV110 : rgd bX V110 := hMV110
          have ajV110 : agr [(1, 3), (1, 6), (1, 8), (6, 8), (6, 9), (6, 10)] [42, 43, 44, 48] V33 V110 := ajV110
          have agV110 : agr [(1, 3), (1, 6), (1, 8), (6, 8), (6, 9), (6, 10)] [42, 43, 44, 48] V V110 := agV33.tr ajV110 (by decide) (by decide)
          have rgz105 : 0 ≤ z105.toInt ∧ z105.toInt ≤ 1 := rgz105
          have t108 : Rd gT (nx gs 1) (fun k => Ipart (gd + 1) :: k) (fun k => k) z105.toInt (V110 1 3).toInt (fun s9 => RelC V110 L111 b gT s9 ∧ keepS (nx gs 1) 1 s9) := t108
          have t109 : ROWL b L34 L111 := t109
          rcases t108 with ⟨q112, sx113, h114, rl115, kp116⟩ | ⟨q112, h114⟩
          · skip
            have hr117 : ∀ k, Rc gT (Crun gs (Ipart gd :: k)) (Crun sx113 (k)) := fun k => (hr102 k).tr (h114 (k))
            refine lv_if_eq (tgt := 194) hx hb dX1_readPart_179 (by decide) (fun c118 => ?_) (fun c118 => ?_)
            · skip
              have f119 : z105.toInt = 0 := b_eq rfl (by decide) c118
              exfalso; omega
            · skip
              have f120 : z105.toInt ≠ 0 := b_neq rfl (by decide) c118
              refine lv_aload_n hx hb dX1_readPart_182 rfl (lv_at hl 2 rfl) ?_
              refine lv_iconst (v := 3) hx hb dX1_readPart_183 (by decide) ?_
              have r121 : Int32.toInt 3 = 3 := by decide
              have pq122 : (V110 1 1).toInt = ((V 1 1)).toInt := congrArg Int32.toInt ((ajV110 1 1 rfl).trans ((ajV33 1 1 rfl).trans (ajV17 1 1 rfl)))
              refine gA_int (gA_runV (As := [.int 3]) (rest := []) (ci := 1) (q0 := 1) hx hb hml hown hg hP hD hK hS hA hnw hgk (x_putAlone3 l D ks H.size ad kk V110 L111 Z 3 (b) hMV110 (show b < 2 from by omega) (show (V110 1 1).toInt = (b : Int) from by omega)) w979 w981 w27 w162 w982 rfl xgReader hdV_yX1_putAlone ⟨(by show 1 + 1 ≤ 10 * (d9 + 1) + 6; omega), (by show 8 + (2 + 11) + (21) ≤ 300 * (d9 + 1) + 150; omega)⟩ rfl hl.1 rfl (Nat.le_of_ble_eq_true rfl) dX1_readPart_184 ⟨Nat.le_of_ble_eq_true rfl, Nat.le_of_ble_eq_true rfl⟩) hP hD hK hS hA (fun z123 u124 H locs w125 hP hD hK hS => ?_)
              obtain ⟨V126, L127⟩ := u124
              obtain ⟨hMV126, ajV126, axL127, rgz123⟩ := w125
              have axL127 : L111 = L127 := Eq.symm axL127
              subst axL127
              have hP : va_P D vwCl (xw ad kk V126 L111 Z) H := hP
              have hD : va_D A (xw ad kk V126 L111 Z) := hD
              have hMV126 : rgd bX V126 := hMV126
              have ajV126 : agr [] [42, 48] V110 V126 := ajV126
              have agV126 : agr [(1, 3), (1, 6), (1, 8), (6, 8), (6, 9), (6, 10)] [42, 43, 44, 48] V V126 := agV110.tr ajV126 (by decide) (by decide)
              have rgz123 : 1 ≤ z123.toInt ∧ z123.toInt ≤ 1 := rgz123
              refine lv_if_eq (tgt := 194) hx hb dX1_readPart_187 (by decide) (fun c128 => ?_) (fun c128 => ?_)
              · skip
                have f129 : z123.toInt = 0 := b_eq rfl (by decide) c128
                exfalso; omega
              · skip
                have f130 : z123.toInt ≠ 0 := b_neq rfl (by decide) c128
                refine lv_iconst (v := 1) hx hb dX1_readPart_190 (by decide) ?_
                refine lv_goto (tgt := 195) hx hb dX1_readPart_191 (by decide) ?_
                have rl131 : RelC V126 L111 b gT sx113 := RelC.ag rl115 (show agr [] [42, 48] V110 V126 from (agr.tr agr.rf ajV126 (by decide) (by decide))) (by decide) (show agL [] L111 L111 from agL.rf) (by decide)
                have rw132 : ROWL b L L111 := (fun k hk => ((t109 k hk).trans ((axL34 44 k rfl).trans rfl)))
                exact W.zret (v := 1) hx hb hr rfl (fun t ht hW => ⟨⟨1, (V126, L111), rfl, ⟨hMV126, agV126, alL111, (by decide), (Or.inl ⟨rfl, sx113, hr117, rl131, keepS.le (keepS.tr (keepS.tr (keepS.rf : keepS gs 0 gs) (keepS.n1 1)) kp116) (by decide)⟩), rw132⟩, by rw [ht]; exact hP, va_K.moved hW.alike hK, hD⟩, hS.F ht⟩) hS.2.2 dX1_readPart_195
          · skip
            have hb133 : ∀ k, Rc gT (Crun gs (Ipart gd :: k)) (Cbad (V110 1 3).toInt) := fun k => (hr102 k).tr (h114 (k))
            refine lv_if_eq (tgt := 194) hx hb dX1_readPart_179 (by decide) (fun c134 => ?_) (fun c134 => ?_)
            · skip
              have f135 : z105.toInt = 0 := b_eq rfl (by decide) c134
              refine lv_iconst (v := 0) hx hb dX1_readPart_194 (by decide) ?_
              have rw136 : ROWL b L L111 := (fun k hk => ((t109 k hk).trans ((axL34 44 k rfl).trans rfl)))
              exact W.zret (v := 0) hx hb hr rfl (fun t ht hW => ⟨⟨0, (V110, L111), rfl, ⟨hMV110, agV110, alL111, (by decide), (Or.inr ⟨rfl, hb133⟩), rw136⟩, by rw [ht]; exact hP, va_K.moved hW.alike hK, hD⟩, hS.F ht⟩) hS.2.2 dX1_readPart_195
            · skip
              have f137 : z105.toInt ≠ 0 := b_neq rfl (by decide) c134
              exfalso; omega
        have gq100 : ((V 6 9)).toInt ≠ 45 := b_neq rfl (by decide) q100
        by_cases q138 : (V 6 9) = 130
        · refine g_top (v := 130) q138 ?_
          have fq138 : ((V 6 9)).toInt = 130 := b_eq rfl (by decide) q138
          refine lv_lookup (x := 130) (off := 168) (tgt := 225) hx hb dX1_readPart_57 (by decide) (by decide) (by decide) ?_
          have hr139 : ∀ k, Rc gT (Crun gs (Ipart gd :: k)) (Crun gs (Ipart gd :: k)) := fun k => Rc.rf
          have hr140 : ∀ k, Rc gT (Crun gs (Ipart gd :: k)) (Crun (nx gs 1) (Isetting :: k)) := fun k => Rc.go1 (hr139 k) (pw_130 gd h7 (by omega) (kd20.trans fq138))
          refine lv_aload_n hx hb dX1_readPart_225 rfl (lv_at hl 2 rfl) ?_
          have pq141 : (V33 1 1).toInt = ((V 1 1)).toInt := congrArg Int32.toInt ((ajV33 1 1 rfl).trans (ajV17 1 1 rfl))
          refine gA_int (gA_runV (As := []) (rest := []) (ci := 1) (q0 := 1) hx hb hml hown hg hP hD hK hS hA hnw hgk (x_takeSetting3 l D ks H.size ad kk V33 L34 Z (b) (gT) ((nx gs 1)) hMV33 (show b < 2 from by omega) (show (V33 1 1).toInt = (b : Int) from by omega) rl37) w931 w933 w17 w162 w934 rfl xgReader hdV_yX1_takeSetting ⟨(by show 1 + 1 ≤ 10 * (d9 + 1) + 6; omega), (by show 8 + (1 + 11) + (23) ≤ 300 * (d9 + 1) + 150; omega)⟩ rfl hl.1 rfl (Nat.le_of_ble_eq_true rfl) dX1_readPart_226 ⟨Nat.le_of_ble_eq_true rfl, Nat.le_of_ble_eq_true rfl⟩) hP hD hK hS hA (fun z142 u143 H locs w144 hP hD hK hS => ?_)
          obtain ⟨V146, L147⟩ := u143
          obtain ⟨hMV146, ajV146, axL147, rgz142, t145⟩ := w144
          have alL147 : agL [6, 44] L L147 := agL.tr alL34 axL147 (by decide)
          have hP : va_P D vwCl (xw ad kk V146 L147 Z) H := hP
          have hD : va_D A (xw ad kk V146 L147 Z) := hD
          have hMV146 : rgd bX V146 := hMV146
          have ajV146 : agr [(1, 3), (1, 6), (6, 8), (6, 9), (6, 10)] [] V33 V146 := ajV146
          have agV146 : agr [(1, 3), (1, 6), (1, 8), (6, 8), (6, 9), (6, 10)] [42, 43, 44, 48] V V146 := agV33.tr ajV146 (by decide) (by decide)
          have rgz142 : 0 ≤ z142.toInt ∧ z142.toInt ≤ 1 := rgz142
          have t145 : KcN (look gT (nx gs 1) ((nx gs 1).2.1 1)) z142.toInt (V146 1 3).toInt (fun f9 => RelC V146 L147 b gT (nx (nx gs 1) 1) ∧ (V146 1 6).toInt = ((f9 : Nat) : Int) ∧ f9 < 12) := t145
          rcases t145 with ⟨q148, fx149, h150, rl151, hf152, hb153⟩ | ⟨q148, h150⟩
          · skip
            have hr154 : ∀ k, Rc gT (Crun gs (Ipart gd :: k)) (Crun (nx (nx gs 1) 1) (k)) := fun k => Rc.go1 (hr140 k) (se_y h150)
            refine lv_if_eq (tgt := 249) hx hb dX1_readPart_229 (by decide) (fun c155 => ?_) (fun c155 => ?_)
            · skip
              have f156 : z142.toInt = 0 := b_eq rfl (by decide) c155
              exfalso; omega
            · skip
              have f157 : z142.toInt ≠ 0 := b_neq rfl (by decide) c155
              refine lv_aload_n hx hb dX1_readPart_232 rfl (lv_at hl 2 rfl) ?_
              refine lv_bipush (v := 11) hx hb dX1_readPart_233 (by decide) ?_
              refine lv_aload_n hx hb dX1_readPart_235 rfl (lv_at hl 2 rfl) ?_
              refine va_get (D := D) (ci := 1) (v := .int (V146 1 6)) (fs := (xfReader ad V146 L147 Z)) (C := RX1) (T := TX1) (N := 9) hx hb hg inX1 hown hK hP 1 xgReader rfl 6 (by decide) (hg _ w310) (fun _ h9 => h9) rfl dX1_readPart_236 ?_
              have r158 : (-1) ≤ ((V146 1 6)).toInt ∧ ((V146 1 6)).toInt ≤ 23 := hMV146 1 6
              have r159 : Int32.toInt 11 = 11 := by decide
              have pq160 : (V146 1 1).toInt = ((V 1 1)).toInt := congrArg Int32.toInt ((ajV146 1 1 rfl).trans ((ajV33 1 1 rfl).trans (ajV17 1 1 rfl)))
              refine gA_int (gA_runV (As := [.int 11, .int (V146 1 6)]) (rest := []) (ci := 1) (q0 := 1) hx hb hml hown hg hP hD hK hS hA hnw hgk (x_put3 l D ks H.size ad kk V146 L147 Z 11 (V146 1 6) (b) hMV146 (show b < 2 from by omega) (show (V146 1 1).toInt = (b : Int) from by omega)) w975 w977 w26 w162 w978 rfl xgReader hdV_yX1_put ⟨(by show 1 + 1 ≤ 10 * (d9 + 1) + 6; omega), (by show 8 + (3 + 11) + (21) ≤ 300 * (d9 + 1) + 150; omega)⟩ rfl hl.1 rfl (Nat.le_of_ble_eq_true rfl) dX1_readPart_239 ⟨Nat.le_of_ble_eq_true rfl, Nat.le_of_ble_eq_true rfl⟩) hP hD hK hS hA (fun z161 u162 H locs w163 hP hD hK hS => ?_)
              obtain ⟨V164, L165⟩ := u162
              obtain ⟨hMV164, ajV164, axL165, rgz161⟩ := w163
              have axL165 : L147 = L165 := Eq.symm axL165
              subst axL165
              have hP : va_P D vwCl (xw ad kk V164 L147 Z) H := hP
              have hD : va_D A (xw ad kk V164 L147 Z) := hD
              have hMV164 : rgd bX V164 := hMV164
              have ajV164 : agr [] [42, 48] V146 V164 := ajV164
              have agV164 : agr [(1, 3), (1, 6), (1, 8), (6, 8), (6, 9), (6, 10)] [42, 43, 44, 48] V V164 := agV146.tr ajV164 (by decide) (by decide)
              have rgz161 : 1 ≤ z161.toInt ∧ z161.toInt ≤ 1 := rgz161
              refine lv_if_eq (tgt := 249) hx hb dX1_readPart_242 (by decide) (fun c166 => ?_) (fun c166 => ?_)
              · skip
                have f167 : z161.toInt = 0 := b_eq rfl (by decide) c166
                exfalso; omega
              · skip
                have f168 : z161.toInt ≠ 0 := b_neq rfl (by decide) c166
                refine lv_iconst (v := 1) hx hb dX1_readPart_245 (by decide) ?_
                refine lv_goto (tgt := 250) hx hb dX1_readPart_246 (by decide) ?_
                have rl169 : RelC V164 L147 b gT (nx (nx gs 1) 1) := RelC.ag rl151 (show agr [] [42, 48] V146 V164 from (agr.tr agr.rf ajV164 (by decide) (by decide))) (by decide) (show agL [] L147 L147 from agL.rf) (by decide)
                have rw170 : ROWL b L L147 := (fun k hk => ((axL147 44 k rfl).trans ((axL34 44 k rfl).trans rfl)))
                exact W.zret (v := 1) hx hb hr rfl (fun t ht hW => ⟨⟨1, (V164, L147), rfl, ⟨hMV164, agV164, alL147, (by decide), (Or.inl ⟨rfl, (nx (nx gs 1) 1), hr154, rl169, keepS.le (keepS.tr (keepS.tr (keepS.rf : keepS gs 0 gs) (keepS.n1 1)) (keepS.n1 1)) (by decide)⟩), rw170⟩, by rw [ht]; exact hP, va_K.moved hW.alike hK, hD⟩, hS.F ht⟩) hS.2.2 dX1_readPart_250
          · skip
            have hb171 : ∀ k, Rc gT (Crun gs (Ipart gd :: k)) (Cbad (V146 1 3).toInt) := fun k => Rc.go1 (hr140 k) (se_b h150)
            refine lv_if_eq (tgt := 249) hx hb dX1_readPart_229 (by decide) (fun c172 => ?_) (fun c172 => ?_)
            · skip
              have f173 : z142.toInt = 0 := b_eq rfl (by decide) c172
              refine lv_iconst (v := 0) hx hb dX1_readPart_249 (by decide) ?_
              have rw174 : ROWL b L L147 := (fun k hk => ((axL147 44 k rfl).trans ((axL34 44 k rfl).trans rfl)))
              exact W.zret (v := 0) hx hb hr rfl (fun t ht hW => ⟨⟨0, (V146, L147), rfl, ⟨hMV146, agV146, alL147, (by decide), (Or.inr ⟨rfl, hb171⟩), rw174⟩, by rw [ht]; exact hP, va_K.moved hW.alike hK, hD⟩, hS.F ht⟩) hS.2.2 dX1_readPart_250
            · skip
              have f175 : z142.toInt ≠ 0 := b_neq rfl (by decide) c172
              exfalso; omega
        have gq138 : ((V 6 9)).toInt ≠ 130 := b_neq rfl (by decide) q138
        by_cases q176 : (V 6 9) = 143
        · refine g_top (v := 143) q176 ?_
          have fq176 : ((V 6 9)).toInt = 143 := b_eq rfl (by decide) q176
          refine lv_lookup (x := 143) (off := 84) (tgt := 141) hx hb dX1_readPart_57 (by decide) (by decide) (by decide) ?_
          have hr177 : ∀ k, Rc gT (Crun gs (Ipart gd :: k)) (Crun gs (Ipart gd :: k)) := fun k => Rc.rf
          have hr178 : ∀ k, Rc gT (Crun gs (Ipart gd :: k)) (Crun (nx gs 1) (k)) := fun k => Rc.go1 (hr177 k) (pw_143 gd h7 (by omega) (kd20.trans fq176))
          refine lv_aload_n hx hb dX1_readPart_141 rfl (lv_at hl 2 rfl) ?_
          refine lv_iconst (v := 2) hx hb dX1_readPart_142 (by decide) ?_
          have r179 : Int32.toInt 2 = 2 := by decide
          have pq180 : (V33 1 1).toInt = ((V 1 1)).toInt := congrArg Int32.toInt ((ajV33 1 1 rfl).trans (ajV17 1 1 rfl))
          refine gA_int (gA_runV (As := [.int 2]) (rest := []) (ci := 1) (q0 := 1) hx hb hml hown hg hP hD hK hS hA hnw hgk (x_putAlone3 l D ks H.size ad kk V33 L34 Z 2 (b) hMV33 (show b < 2 from by omega) (show (V33 1 1).toInt = (b : Int) from by omega)) w979 w981 w27 w162 w982 rfl xgReader hdV_yX1_putAlone ⟨(by show 1 + 1 ≤ 10 * (d9 + 1) + 6; omega), (by show 8 + (2 + 11) + (21) ≤ 300 * (d9 + 1) + 150; omega)⟩ rfl hl.1 rfl (Nat.le_of_ble_eq_true rfl) dX1_readPart_143 ⟨Nat.le_of_ble_eq_true rfl, Nat.le_of_ble_eq_true rfl⟩) hP hD hK hS hA (fun z181 u182 H locs w183 hP hD hK hS => ?_)
          obtain ⟨V184, L185⟩ := u182
          obtain ⟨hMV184, ajV184, axL185, rgz181⟩ := w183
          have axL185 : L34 = L185 := Eq.symm axL185
          subst axL185
          have hP : va_P D vwCl (xw ad kk V184 L34 Z) H := hP
          have hD : va_D A (xw ad kk V184 L34 Z) := hD
          have hMV184 : rgd bX V184 := hMV184
          have ajV184 : agr [] [42, 48] V33 V184 := ajV184
          have agV184 : agr [(1, 3), (1, 6), (1, 8), (6, 8), (6, 9), (6, 10)] [42, 43, 44, 48] V V184 := agV33.tr ajV184 (by decide) (by decide)
          have rgz181 : 1 ≤ z181.toInt ∧ z181.toInt ≤ 1 := rgz181
          have rl186 : RelC V184 L34 b gT (nx gs 1) := RelC.ag rl37 (show agr [] [42, 48] V33 V184 from (agr.tr agr.rf ajV184 (by decide) (by decide))) (by decide) (show agL [] L34 L34 from agL.rf) (by decide)
          have rw187 : ROWL b L L34 := (fun k hk => ((axL34 44 k rfl).trans rfl))
          exact W.zret (v := z181) hx hb hr (nb_ok (by omega)) (fun t ht hW => ⟨⟨z181, (V184, L34), rfl, ⟨hMV184, agV184, alL34, (show 0 ≤ z181.toInt ∧ z181.toInt ≤ 1 from by omega), (Or.inl ⟨(by omega), (nx gs 1), hr178, rl186, keepS.le (keepS.tr (keepS.rf : keepS gs 0 gs) (keepS.n1 1)) (by decide)⟩), rw187⟩, by rw [ht]; exact hP, va_K.moved hW.alike hK, hD⟩, hS.F ht⟩) hS.2.2 dX1_readPart_146
        have gq176 : ((V 6 9)).toInt ≠ 143 := b_neq rfl (by decide) q176
        by_cases q188 : (V 6 9) = 144
        · refine g_top (v := 144) q188 ?_
          have fq188 : ((V 6 9)).toInt = 144 := b_eq rfl (by decide) q188
          refine lv_lookup (x := 144) (off := 139) (tgt := 196) hx hb dX1_readPart_57 (by decide) (by decide) (by decide) ?_
          have hr189 : ∀ k, Rc gT (Crun gs (Ipart gd :: k)) (Crun gs (Ipart gd :: k)) := fun k => Rc.rf
          have hr190 : ∀ k, Rc gT (Crun gs (Ipart gd :: k)) (Crun (nx gs 1) (Inum 1 9 :: k)) := fun k => Rc.go1 (hr189 k) (pw_144 gd h7 (by omega) (kd20.trans fq188))
          refine lv_aload_n hx hb dX1_readPart_196 rfl (lv_at hl 2 rfl) ?_
          refine lv_iconst (v := 1) hx hb dX1_readPart_197 (by decide) ?_
          refine lv_bipush (v := 9) hx hb dX1_readPart_198 (by decide) ?_
          have r191 : Int32.toInt 9 = 9 := by decide
          refine gA_int (gA_runV (As := [.int 1, .int 9]) (rest := []) (ci := 1) (q0 := 1) hx hb hml hown hg hP hD hK hS hA hnw hgk (x_takeNumber2 l D ks H.size ad kk V33 L34 Z 1 9 (((nx gs 1).1 0)) hMV33 (rl37).1 (rl37).2.1.1 (show 0 ≤ (Int32.toInt 1) from by omega) (show (Int32.toInt 9) ≤ 999999999 from by omega)) w906 w908 w12 w162 w909 rfl xgReader hdV_yX1_takeNumber ⟨(by show 1 + 1 ≤ 10 * (d9 + 1) + 6; omega), (by show 8 + (3 + 11) + (21) ≤ 300 * (d9 + 1) + 150; omega)⟩ rfl hl.1 rfl (Nat.le_of_ble_eq_true rfl) dX1_readPart_200 ⟨Nat.le_of_ble_eq_true rfl, Nat.le_of_ble_eq_true rfl⟩) hP hD hK hS hA (fun z192 u193 H locs w194 hP hD hK hS => ?_)
          obtain ⟨V198, L199⟩ := u193
          obtain ⟨hMV198, ajV198, axL199, rgz192, t195, t196, t197⟩ := w194
          have alL199 : agL [6, 44] L L199 := agL.tr alL34 axL199 (by decide)
          have hP : va_P D vwCl (xw ad kk V198 L199 Z) H := hP
          have hD : va_D A (xw ad kk V198 L199 Z) := hD
          have hMV198 : rgd bX V198 := hMV198
          have ajV198 : agr [(1, 3), (1, 8), (6, 8), (6, 9), (6, 10)] [] V33 V198 := ajV198
          have agV198 : agr [(1, 3), (1, 6), (1, 8), (6, 8), (6, 9), (6, 10)] [42, 43, 44, 48] V V198 := agV33.tr ajV198 (by decide) (by decide)
          have rgz192 : 0 ≤ z192.toInt ∧ z192.toInt ≤ 1 := rgz192
          have t195 : Imp (z192.toInt = 1) ((Int32.toInt 1) ≤ (V198 1 8).toInt ∧ (V198 1 8).toInt ≤ (Int32.toInt 9)) := t195
          have t196 : Imp (z192.toInt = 0) (1 ≤ (V198 1 3).toInt) := t196
          have t197 : (z192.toInt = 1 ∧ (V33 12 ((nx gs 1).1 0)).toInt = 2 ∧ (Int32.toInt 1) ≤ (L34 14 ((nx gs 1).1 0)).toInt ∧ (L34 14 ((nx gs 1).1 0)).toInt ≤ (Int32.toInt 9) ∧ CUR V198 L199 (((nx gs 1).1 0) + 1) ∧ (V198 1 8).toInt = (L34 14 ((nx gs 1).1 0)).toInt ∧ V198 1 3 = V33 1 3) ∨ (z192.toInt = 0 ∧ (((V33 12 ((nx gs 1).1 0)).toInt ≠ 2 ∧ (V198 1 3).toInt = 1 + 16 * (V33 13 ((nx gs 1).1 0)).toInt) ∨ ((V33 12 ((nx gs 1).1 0)).toInt = 2 ∧ ((L34 14 ((nx gs 1).1 0)).toInt < (Int32.toInt 1) ∨ (Int32.toInt 9) < (L34 14 ((nx gs 1).1 0)).toInt) ∧ (V198 1 3).toInt = 4 + 16 * (V33 13 ((nx gs 1).1 0)).toInt))) := t197
          have r200 : 0 ≤ ((V198 1 8)).toInt ∧ ((V198 1 8)).toInt ≤ 999999999 := hMV198 1 8
          have nv208 := congrArg Int64.toInt rl37.tok.2.1
          rcases t197 with ⟨q201, h202, h203, h204, k205, k206, k207⟩ | ⟨q201, ⟨h202, k205⟩ | ⟨h202, h203, k205⟩⟩
          · skip
            have rl209 : RelC V198 L199 b gT (nx (nx gs 1) 1) := RelC.nx1 rl37 ajV198 (by decide) axL199 (by decide) k205 k207
            have hr210 : ∀ k, Rc gT (Crun gs (Ipart gd :: k)) (Crun (nx (nx gs 1) 1) (k)) := fun k => Rc.go1 (hr190 k) (nm_y (rl37.tok.1.trans h202) (by omega) (by omega))
            refine lv_if_eq (tgt := 223) hx hb dX1_readPart_203 (by decide) (fun c212 => ?_) (fun c212 => ?_)
            · skip
              have f213 : z192.toInt = 0 := b_eq rfl (by decide) c212
              exfalso; first | omega | ((try (have i_t196 := Imp.go t196 (by omega))); (try (have i_t195 := Imp.go t195 (by omega))); (try (have i_t195 := Imp.go t195 (by omega))); (try (have i_t196 := Imp.go t196 (by omega))); omega)
            · skip
              have f214 : z192.toInt ≠ 0 := b_neq rfl (by decide) c212
              refine lv_aload_n hx hb dX1_readPart_206 rfl (lv_at hl 2 rfl) ?_
              refine lv_bipush (v := 12) hx hb dX1_readPart_207 (by decide) ?_
              refine lv_aload_n hx hb dX1_readPart_209 rfl (lv_at hl 2 rfl) ?_
              refine va_get (D := D) (ci := 1) (v := .int (V198 1 8)) (fs := (xfReader ad V198 L199 Z)) (C := RX1) (T := TX1) (N := 9) hx hb hg inX1 hown hK hP 1 xgReader rfl 8 (by decide) (hg _ w312) (fun _ h9 => h9) rfl dX1_readPart_210 ?_
              have r215 : Int32.toInt 12 = 12 := by decide
              have pq216 : (V198 1 1).toInt = ((V 1 1)).toInt := congrArg Int32.toInt ((ajV198 1 1 rfl).trans ((ajV33 1 1 rfl).trans (ajV17 1 1 rfl)))
              refine gA_int (gA_runV (As := [.int 12, .int (V198 1 8)]) (rest := []) (ci := 1) (q0 := 1) hx hb hml hown hg hP hD hK hS hA hnw hgk (x_put3 l D ks H.size ad kk V198 L199 Z 12 (V198 1 8) (b) hMV198 (show b < 2 from by first | omega | ((try (have i_t196 := Imp.go t196 (by omega))); (try (have i_t195 := Imp.go t195 (by omega))); (try (have i_t195 := Imp.go t195 (by omega))); (try (have i_t196 := Imp.go t196 (by omega))); omega)) (show (V198 1 1).toInt = (b : Int) from by first | omega | ((try (have i_t196 := Imp.go t196 (by omega))); (try (have i_t195 := Imp.go t195 (by omega))); (try (have i_t195 := Imp.go t195 (by omega))); (try (have i_t196 := Imp.go t196 (by omega))); omega))) w975 w977 w26 w162 w978 rfl xgReader hdV_yX1_put ⟨(by show 1 + 1 ≤ 10 * (d9 + 1) + 6; omega), (by show 8 + (3 + 11) + (21) ≤ 300 * (d9 + 1) + 150; omega)⟩ rfl hl.1 rfl (Nat.le_of_ble_eq_true rfl) dX1_readPart_213 ⟨Nat.le_of_ble_eq_true rfl, Nat.le_of_ble_eq_true rfl⟩) hP hD hK hS hA (fun z217 u218 H locs w219 hP hD hK hS => ?_)
              obtain ⟨V220, L221⟩ := u218
              obtain ⟨hMV220, ajV220, axL221, rgz217⟩ := w219
              have axL221 : L199 = L221 := Eq.symm axL221
              subst axL221
              have hP : va_P D vwCl (xw ad kk V220 L199 Z) H := hP
              have hD : va_D A (xw ad kk V220 L199 Z) := hD
              have hMV220 : rgd bX V220 := hMV220
              have ajV220 : agr [] [42, 48] V198 V220 := ajV220
              have agV220 : agr [(1, 3), (1, 6), (1, 8), (6, 8), (6, 9), (6, 10)] [42, 43, 44, 48] V V220 := agV198.tr ajV220 (by decide) (by decide)
              have rgz217 : 1 ≤ z217.toInt ∧ z217.toInt ≤ 1 := rgz217
              refine lv_if_eq (tgt := 223) hx hb dX1_readPart_216 (by decide) (fun c222 => ?_) (fun c222 => ?_)
              · skip
                have f223 : z217.toInt = 0 := b_eq rfl (by decide) c222
                exfalso; first | omega | ((try (have i_t196 := Imp.go t196 (by omega))); (try (have i_t195 := Imp.go t195 (by omega))); (try (have i_t195 := Imp.go t195 (by omega))); (try (have i_t196 := Imp.go t196 (by omega))); omega)
              · skip
                have f224 : z217.toInt ≠ 0 := b_neq rfl (by decide) c222
                refine lv_iconst (v := 1) hx hb dX1_readPart_219 (by decide) ?_
                refine lv_goto (tgt := 224) hx hb dX1_readPart_220 (by decide) ?_
                have rl225 : RelC V220 L199 b gT (nx (nx gs 1) 1) := RelC.ag rl209 (show agr [] [42, 48] V198 V220 from (agr.tr agr.rf ajV220 (by decide) (by decide))) (by decide) (show agL [] L199 L199 from agL.rf) (by decide)
                have rw226 : ROWL b L L199 := (fun k hk => ((axL199 44 k rfl).trans ((axL34 44 k rfl).trans rfl)))
                exact W.zret (v := 1) hx hb hr rfl (fun t ht hW => ⟨⟨1, (V220, L199), rfl, ⟨hMV220, agV220, alL199, (by decide), (Or.inl ⟨rfl, (nx (nx gs 1) 1), hr210, rl225, keepS.le (keepS.tr (keepS.tr (keepS.rf : keepS gs 0 gs) (keepS.n1 1)) (keepS.n1 1)) (by decide)⟩), rw226⟩, by rw [ht]; exact hP, va_K.moved hW.alike hK, hD⟩, hS.F ht⟩) hS.2.2 dX1_readPart_224
          · skip
            have hb227 : ∀ k, Rc gT (Crun gs (Ipart gd :: k)) (Cbad (V198 1 3).toInt) := fun k => Rc.go1 (hr190 k) ((nm_1 (fun h9 => h202 (rl37.tok.1.symm.trans h9))).trans (fl_eq rl37.tok.2.2 k205))
            refine lv_if_eq (tgt := 223) hx hb dX1_readPart_203 (by decide) (fun c228 => ?_) (fun c228 => ?_)
            · skip
              have f229 : z192.toInt = 0 := b_eq rfl (by decide) c228
              refine lv_iconst (v := 0) hx hb dX1_readPart_223 (by decide) ?_
              have rw230 : ROWL b L L199 := (fun k hk => ((axL199 44 k rfl).trans ((axL34 44 k rfl).trans rfl)))
              exact W.zret (v := 0) hx hb hr rfl (fun t ht hW => ⟨⟨0, (V198, L199), rfl, ⟨hMV198, agV198, alL199, (by decide), (Or.inr ⟨rfl, hb227⟩), rw230⟩, by rw [ht]; exact hP, va_K.moved hW.alike hK, hD⟩, hS.F ht⟩) hS.2.2 dX1_readPart_224
            · skip
              have f231 : z192.toInt ≠ 0 := b_neq rfl (by decide) c228
              exfalso; first | omega | ((try (have i_t196 := Imp.go t196 (by omega))); (try (have i_t195 := Imp.go t195 (by omega))); (try (have i_t195 := Imp.go t195 (by omega))); (try (have i_t196 := Imp.go t196 (by omega))); omega)
          · skip
            have hb232 : ∀ k, Rc gT (Crun gs (Ipart gd :: k)) (Cbad (V198 1 3).toInt) := fun k => Rc.go1 (hr190 k) ((nm_4 (rl37.tok.1.trans h202) (by omega)).trans (fl_eq rl37.tok.2.2 k205))
            refine lv_if_eq (tgt := 223) hx hb dX1_readPart_203 (by decide) (fun c233 => ?_) (fun c233 => ?_)
            · skip
              have f234 : z192.toInt = 0 := b_eq rfl (by decide) c233
              refine lv_iconst (v := 0) hx hb dX1_readPart_223 (by decide) ?_
              have rw235 : ROWL b L L199 := (fun k hk => ((axL199 44 k rfl).trans ((axL34 44 k rfl).trans rfl)))
              exact W.zret (v := 0) hx hb hr rfl (fun t ht hW => ⟨⟨0, (V198, L199), rfl, ⟨hMV198, agV198, alL199, (by decide), (Or.inr ⟨rfl, hb232⟩), rw235⟩, by rw [ht]; exact hP, va_K.moved hW.alike hK, hD⟩, hS.F ht⟩) hS.2.2 dX1_readPart_224
            · skip
              have f236 : z192.toInt ≠ 0 := b_neq rfl (by decide) c233
              exfalso; first | omega | ((try (have i_t196 := Imp.go t196 (by omega))); (try (have i_t195 := Imp.go t195 (by omega))); (try (have i_t195 := Imp.go t195 (by omega))); (try (have i_t196 := Imp.go t196 (by omega))); omega)
        have gq188 : ((V 6 9)).toInt ≠ 144 := b_neq rfl (by decide) q188
        by_cases q237 : (V 6 9) = 145
        · refine g_top (v := 145) q237 ?_
          have fq237 : ((V 6 9)).toInt = 145 := b_eq rfl (by decide) q237
          refine lv_lookup (x := 145) (off := 194) (tgt := 251) hx hb dX1_readPart_57 (by decide) (by decide) (by decide) ?_
          have hr238 : ∀ k, Rc gT (Crun gs (Ipart gd :: k)) (Crun gs (Ipart gd :: k)) := fun k => Rc.rf
          have hr239 : ∀ k, Rc gT (Crun gs (Ipart gd :: k)) (Crun (nx gs 1) (Itake 40 :: Iexpr (gd + 1) :: Itake 44 :: Iexpr (gd + 1) :: Itake 44 :: Iexpr (gd + 1) :: Itake 41 :: k)) := fun k => Rc.go1 (hr238 k) (pw_145 gd h7 (by omega) (kd20.trans fq237))
          refine lv_aload_n hx hb dX1_readPart_251 rfl (lv_at hl 2 rfl) ?_
          refine lv_iload_n hx hb dX1_readPart_252 rfl (lv_at hl 3 rfl) ?_
          have pq240 : (V33 1 1).toInt = ((V 1 1)).toInt := congrArg Int32.toInt ((ajV33 1 1 rfl).trans (ajV17 1 1 rfl))
          refine gA_int (gA_runV (As := [.int p0]) (rest := []) (ci := 1) (q0 := 1) hx hb hml hown hg hP hD hK hS hA hnw hgk ((hk_x_readPick3 d9 rfl) H.size ad kk V33 L34 Z p0 (b) (gT) ((nx gs 1)) (gd) hMV33 (by omega) (show b < 2 from by omega) (show (V33 1 1).toInt = (b : Int) from by omega) rl37 (show p0.toInt = (gd : Int) from by omega) (((congrArg Int32.toInt ((ajV33 1 4 rfl).trans (ajV17 1 4 rfl))).trans wh).trans (congrArg (fun n9 : Nat => (n9 : Int)) (((keepS.tr (keepS.rf : keepS gs 0 gs) (keepS.n1 1))).2.1 4 (by decide)).symm)) (fun h9 => by rw [((ajV33 1 2 rfl).trans (ajV17 1 2 rfl))]; exact ow ((congrArg Int32.toInt ((ajV33 1 4 rfl).trans (ajV17 1 4 rfl))).symm.trans h9)) (show 7 - p0.toInt ≤ ((d9 : Nat) : Int) from by omega)) w983 w985 w28 w162 w986 rfl xgReader hdV_yX1_readPick ⟨(by show 10 * d9 + 10 + 1 ≤ 10 * (d9 + 1) + 6; omega), (by show 8 + (4 + 11) + (300 * d9 + 265) ≤ 300 * (d9 + 1) + 150; omega)⟩ rfl hl.1 rfl (Nat.le_of_ble_eq_true rfl) dX1_readPart_253 ⟨Nat.le_of_ble_eq_true rfl, Nat.le_of_ble_eq_true rfl⟩) hP hD hK hS hA (fun z241 u242 H locs w243 hP hD hK hS => ?_)
          obtain ⟨V246, L247⟩ := u242
          obtain ⟨hMV246, ajV246, axL247, rgz241, t244, t245⟩ := w243
          have alL247 : agL [6, 44] L L247 := agL.tr alL34 axL247 (by decide)
          have hP : va_P D vwCl (xw ad kk V246 L247 Z) H := hP
          have hD : va_D A (xw ad kk V246 L247 Z) := hD
          have hMV246 : rgd bX V246 := hMV246
          have ajV246 : agr [(1, 3), (1, 6), (1, 8), (6, 8), (6, 9), (6, 10)] [42, 43, 44, 48] V33 V246 := ajV246
          have agV246 : agr [(1, 3), (1, 6), (1, 8), (6, 8), (6, 9), (6, 10)] [42, 43, 44, 48] V V246 := agV33.tr ajV246 (by decide) (by decide)
          have rgz241 : 0 ≤ z241.toInt ∧ z241.toInt ≤ 1 := rgz241
          have t244 : Rd gT (nx gs 1) (fun k => Itake 40 :: Iexpr (gd + 1) :: Itake 44 :: Iexpr (gd + 1) :: Itake 44 :: Iexpr (gd + 1) :: Itake 41 :: k) (fun k => k) z241.toInt (V246 1 3).toInt (fun s9 => RelC V246 L247 b gT s9 ∧ keepS (nx gs 1) 1 s9) := t244
          have t245 : ROWL b L34 L247 := t245
          rcases t244 with ⟨q248, sx249, h250, rl251, kp252⟩ | ⟨q248, h250⟩
          · skip
            have hr253 : ∀ k, Rc gT (Crun gs (Ipart gd :: k)) (Crun sx249 (k)) := fun k => (hr239 k).tr (h250 (k))
            have rw254 : ROWL b L L247 := (fun k hk => ((t245 k hk).trans ((axL34 44 k rfl).trans rfl)))
            exact W.zret (v := z241) hx hb hr (nb_ok (by omega)) (fun t ht hW => ⟨⟨z241, (V246, L247), rfl, ⟨hMV246, agV246, alL247, (show 0 ≤ z241.toInt ∧ z241.toInt ≤ 1 from by omega), (Or.inl ⟨(by omega), sx249, hr253, rl251, keepS.le (keepS.tr (keepS.tr (keepS.rf : keepS gs 0 gs) (keepS.n1 1)) kp252) (by decide)⟩), rw254⟩, by rw [ht]; exact hP, va_K.moved hW.alike hK, hD⟩, hS.F ht⟩) hS.2.2 dX1_readPart_256
          · skip
            have hb255 : ∀ k, Rc gT (Crun gs (Ipart gd :: k)) (Cbad (V246 1 3).toInt) := fun k => (hr239 k).tr (h250 (k))
            have rw256 : ROWL b L L247 := (fun k hk => ((t245 k hk).trans ((axL34 44 k rfl).trans rfl)))
            exact W.zret (v := z241) hx hb hr (nb_ok (by omega)) (fun t ht hW => ⟨⟨z241, (V246, L247), rfl, ⟨hMV246, agV246, alL247, (show 0 ≤ z241.toInt ∧ z241.toInt ≤ 1 from by omega), (Or.inr ⟨(by omega), hb255⟩), rw256⟩, by rw [ht]; exact hP, va_K.moved hW.alike hK, hD⟩, hS.F ht⟩) hS.2.2 dX1_readPart_256
        have gq237 : ((V 6 9)).toInt ≠ 145 := b_neq rfl (by decide) q237
        by_cases q257 : (V 6 9) = 146
        · refine g_top (v := 146) q257 ?_
          have fq257 : ((V 6 9)).toInt = 146 := b_eq rfl (by decide) q257
          refine lv_lookup (x := 146) (off := 200) (tgt := 257) hx hb dX1_readPart_57 (by decide) (by decide) (by decide) ?_
          have w146 := bg_146 h7 (kd20.trans fq257)
          have ow6 := ow (wh.trans (by omega))
          have pq258 : (V33 1 2).toInt = ((V 1 2)).toInt := congrArg Int32.toInt ((ajV33 1 2 rfl).trans (ajV17 1 2 rfl))
          have r259 : (-1) ≤ ((V 1 2)).toInt ∧ ((V 1 2)).toInt ≤ 47 := hMV 1 2
          have hr260 : ∀ k, Rc gT (Crun gs (Ipart gd :: k)) (Crun gs (Ipart gd :: k)) := fun k => Rc.rf
          have hr261 : ∀ k, Rc gT (Crun gs (Ipart gd :: k)) (Crun (nx gs 1) (Inum 0 ((((nx gs 1).1 1 : Nat) : Int) - 1) :: Itake 46 :: Imeth :: Itake 40 :: Iexpr (gd + 1) :: Itake 41 :: k)) := fun k => Rc.go1 (hr260 k) (pw_146 gd h7 (by omega) (kd20.trans fq257))
          refine lv_aload_n hx hb dX1_readPart_257 rfl (lv_at hl 2 rfl) ?_
          refine lv_iload_n hx hb dX1_readPart_258 rfl (lv_at hl 3 rfl) ?_
          have pq262 : (V33 1 1).toInt = ((V 1 1)).toInt := congrArg Int32.toInt ((ajV33 1 1 rfl).trans (ajV17 1 1 rfl))
          refine gA_int (gA_runV (As := [.int p0]) (rest := []) (ci := 1) (q0 := 1) hx hb hml hown hg hP hD hK hS hA hnw hgk ((hk_x_readOf3 d9 rfl) H.size ad kk V33 L34 Z p0 (b) (gT) ((nx gs 1)) (gd) hMV33 (by omega) (show b < 2 from by omega) (show (V33 1 1).toInt = (b : Int) from by omega) rl37 (show p0.toInt = (gd : Int) from by omega) (((congrArg Int32.toInt ((ajV33 1 4 rfl).trans (ajV17 1 4 rfl))).trans wh).trans (congrArg (fun n9 : Nat => (n9 : Int)) (((keepS.tr (keepS.rf : keepS gs 0 gs) (keepS.n1 1))).2.1 4 (by decide)).symm)) (fun h9 => by rw [((ajV33 1 2 rfl).trans (ajV17 1 2 rfl))]; exact ow ((congrArg Int32.toInt ((ajV33 1 4 rfl).trans (ajV17 1 4 rfl))).symm.trans h9)) (show 7 - p0.toInt ≤ ((d9 : Nat) : Int) from by omega) (show 0 ≤ (V33 1 2).toInt from by omega)) w991 w993 w29 w162 w994 rfl xgReader hdV_yX1_readOf ⟨(by show 10 * d9 + 11 + 1 ≤ 10 * (d9 + 1) + 6; omega), (by show 8 + (4 + 11) + (300 * d9 + 290) ≤ 300 * (d9 + 1) + 150; omega)⟩ rfl hl.1 rfl (Nat.le_of_ble_eq_true rfl) dX1_readPart_259 ⟨Nat.le_of_ble_eq_true rfl, Nat.le_of_ble_eq_true rfl⟩) hP hD hK hS hA (fun z263 u264 H locs w265 hP hD hK hS => ?_)
          obtain ⟨V268, L269⟩ := u264
          obtain ⟨hMV268, ajV268, axL269, rgz263, t266, t267⟩ := w265
          have alL269 : agL [6, 44] L L269 := agL.tr alL34 axL269 (by decide)
          have hP : va_P D vwCl (xw ad kk V268 L269 Z) H := hP
          have hD : va_D A (xw ad kk V268 L269 Z) := hD
          have hMV268 : rgd bX V268 := hMV268
          have ajV268 : agr [(1, 3), (1, 6), (1, 8), (6, 8), (6, 9), (6, 10)] [42, 43, 44, 48] V33 V268 := ajV268
          have agV268 : agr [(1, 3), (1, 6), (1, 8), (6, 8), (6, 9), (6, 10)] [42, 43, 44, 48] V V268 := agV33.tr ajV268 (by decide) (by decide)
          have rgz263 : 0 ≤ z263.toInt ∧ z263.toInt ≤ 1 := rgz263
          have t266 : Rd gT (nx gs 1) (fun k => Inum 0 ((((nx gs 1).1 1 : Nat) : Int) - 1) :: Itake 46 :: Imeth :: Itake 40 :: Iexpr (gd + 1) :: Itake 41 :: k) (fun k => k) z263.toInt (V268 1 3).toInt (fun s9 => RelC V268 L269 b gT s9 ∧ keepS (nx gs 1) 1 s9) := t266
          have t267 : ROWL b L34 L269 := t267
          rcases t266 with ⟨q270, sx271, h272, rl273, kp274⟩ | ⟨q270, h272⟩
          · skip
            have hr275 : ∀ k, Rc gT (Crun gs (Ipart gd :: k)) (Crun sx271 (k)) := fun k => (hr261 k).tr (h272 (k))
            have rw276 : ROWL b L L269 := (fun k hk => ((t267 k hk).trans ((axL34 44 k rfl).trans rfl)))
            exact W.zret (v := z263) hx hb hr (nb_ok (by omega)) (fun t ht hW => ⟨⟨z263, (V268, L269), rfl, ⟨hMV268, agV268, alL269, (show 0 ≤ z263.toInt ∧ z263.toInt ≤ 1 from by omega), (Or.inl ⟨(by omega), sx271, hr275, rl273, keepS.le (keepS.tr (keepS.tr (keepS.rf : keepS gs 0 gs) (keepS.n1 1)) kp274) (by decide)⟩), rw276⟩, by rw [ht]; exact hP, va_K.moved hW.alike hK, hD⟩, hS.F ht⟩) hS.2.2 dX1_readPart_262
          · skip
            have hb277 : ∀ k, Rc gT (Crun gs (Ipart gd :: k)) (Cbad (V268 1 3).toInt) := fun k => (hr261 k).tr (h272 (k))
            have rw278 : ROWL b L L269 := (fun k hk => ((t267 k hk).trans ((axL34 44 k rfl).trans rfl)))
            exact W.zret (v := z263) hx hb hr (nb_ok (by omega)) (fun t ht hW => ⟨⟨z263, (V268, L269), rfl, ⟨hMV268, agV268, alL269, (show 0 ≤ z263.toInt ∧ z263.toInt ≤ 1 from by omega), (Or.inr ⟨(by omega), hb277⟩), rw278⟩, by rw [ht]; exact hP, va_K.moved hW.alike hK, hD⟩, hS.F ht⟩) hS.2.2 dX1_readPart_262
        have gq257 : ((V 6 9)).toInt ≠ 146 := b_neq rfl (by decide) q257
        refine lv_lookup (x := (V 6 9)) (off := 206) (tgt := 263) hx hb dX1_readPart_57 (by decide) ((lv_osw q38 (by decide)).trans ((lv_osw q51 (by decide)).trans ((lv_osw q100 (by decide)).trans ((lv_osw q138 (by decide)).trans ((lv_osw q176 (by decide)).trans ((lv_osw q188 (by decide)).trans ((lv_osw q237 (by decide)).trans ((lv_osw q257 (by decide)).trans rfl)))))))) (by decide) ?_
        have k147 : gT.1 (gs.1 0) = 147 := bg_147 h7 (fun h9 => gq38 (kd20.symm.trans h9)) (fun h9 => gq51 (kd20.symm.trans h9)) (fun h9 => gq100 (kd20.symm.trans h9)) (fun h9 => gq138 (kd20.symm.trans h9)) (fun h9 => gq176 (kd20.symm.trans h9)) (fun h9 => gq188 (kd20.symm.trans h9)) (fun h9 => gq237 (kd20.symm.trans h9)) (fun h9 => gq257 (kd20.symm.trans h9))
        have hr279 : ∀ k, Rc gT (Crun gs (Ipart gd :: k)) (Crun gs (Ipart gd :: k)) := fun k => Rc.rf
        have hr280 : ∀ k, Rc gT (Crun gs (Ipart gd :: k)) (Crun (nx gs 1) (Itake 40 :: Iexpr (gd + 1) :: Itake 41 :: k)) := fun k => Rc.go1 (hr279 k) (pw_147 gd h7 (by omega) k147)
        refine lv_aload_n hx hb dX1_readPart_263 rfl (lv_at hl 2 rfl) ?_
        refine lv_iload_n hx hb dX1_readPart_264 rfl (lv_at hl 3 rfl) ?_
        have pq281 : (V33 1 1).toInt = ((V 1 1)).toInt := congrArg Int32.toInt ((ajV33 1 1 rfl).trans (ajV17 1 1 rfl))
        refine gA_int (gA_runV (As := [.int p0]) (rest := []) (ci := 1) (q0 := 1) hx hb hml hown hg hP hD hK hS hA hnw hgk ((hk_x_readWithin3 d9 rfl) H.size ad kk V33 L34 Z p0 (b) (gT) ((nx gs 1)) (gd) hMV33 (by omega) (show b < 2 from by omega) (show (V33 1 1).toInt = (b : Int) from by omega) rl37 (show p0.toInt = (gd : Int) from by omega) (((congrArg Int32.toInt ((ajV33 1 4 rfl).trans (ajV17 1 4 rfl))).trans wh).trans (congrArg (fun n9 : Nat => (n9 : Int)) (((keepS.tr (keepS.rf : keepS gs 0 gs) (keepS.n1 1))).2.1 4 (by decide)).symm)) (fun h9 => by rw [((ajV33 1 2 rfl).trans (ajV17 1 2 rfl))]; exact ow ((congrArg Int32.toInt ((ajV33 1 4 rfl).trans (ajV17 1 4 rfl))).symm.trans h9)) (show 7 - p0.toInt ≤ ((d9 : Nat) : Int) from by omega)) w995 w997 w30 w162 w998 rfl xgReader hdV_yX1_readWithin ⟨(by show 10 * d9 + 10 + 1 ≤ 10 * (d9 + 1) + 6; omega), (by show 8 + (2 + 11) + (300 * d9 + 265) ≤ 300 * (d9 + 1) + 150; omega)⟩ rfl hl.1 rfl (Nat.le_of_ble_eq_true rfl) dX1_readPart_265 ⟨Nat.le_of_ble_eq_true rfl, Nat.le_of_ble_eq_true rfl⟩) hP hD hK hS hA (fun z282 u283 H locs w284 hP hD hK hS => ?_)
        obtain ⟨V287, L288⟩ := u283
        obtain ⟨hMV287, ajV287, axL288, rgz282, t285, t286⟩ := w284
        have alL288 : agL [6, 44] L L288 := agL.tr alL34 axL288 (by decide)
        have hP : va_P D vwCl (xw ad kk V287 L288 Z) H := hP
        have hD : va_D A (xw ad kk V287 L288 Z) := hD
        have hMV287 : rgd bX V287 := hMV287
        have ajV287 : agr [(1, 3), (1, 6), (1, 8), (6, 8), (6, 9), (6, 10)] [42, 43, 44, 48] V33 V287 := ajV287
        have agV287 : agr [(1, 3), (1, 6), (1, 8), (6, 8), (6, 9), (6, 10)] [42, 43, 44, 48] V V287 := agV33.tr ajV287 (by decide) (by decide)
        have rgz282 : 0 ≤ z282.toInt ∧ z282.toInt ≤ 1 := rgz282
        have t285 : Rd gT (nx gs 1) (fun k => Itake 40 :: Iexpr (gd + 1) :: Itake 41 :: k) (fun k => k) z282.toInt (V287 1 3).toInt (fun s9 => RelC V287 L288 b gT s9 ∧ keepS (nx gs 1) 1 s9) := t285
        have t286 : ROWL b L34 L288 := t286
        rcases t285 with ⟨q289, sx290, h291, rl292, kp293⟩ | ⟨q289, h291⟩
        · skip
          have hr294 : ∀ k, Rc gT (Crun gs (Ipart gd :: k)) (Crun sx290 (k)) := fun k => (hr280 k).tr (h291 (k))
          refine lv_if_eq (tgt := 283) hx hb dX1_readPart_268 (by decide) (fun c295 => ?_) (fun c295 => ?_)
          · skip
            have f296 : z282.toInt = 0 := b_eq rfl (by decide) c295
            exfalso; omega
          · skip
            have f297 : z282.toInt ≠ 0 := b_neq rfl (by decide) c295
            refine lv_aload_n hx hb dX1_readPart_271 rfl (lv_at hl 2 rfl) ?_
            refine lv_iconst (v := 4) hx hb dX1_readPart_272 (by decide) ?_
            have r298 : Int32.toInt 4 = 4 := by decide
            have pq299 : (V287 1 1).toInt = ((V 1 1)).toInt := congrArg Int32.toInt ((ajV287 1 1 rfl).trans ((ajV33 1 1 rfl).trans (ajV17 1 1 rfl)))
            refine gA_int (gA_runV (As := [.int 4]) (rest := []) (ci := 1) (q0 := 1) hx hb hml hown hg hP hD hK hS hA hnw hgk (x_putAlone3 l D ks H.size ad kk V287 L288 Z 4 (b) hMV287 (show b < 2 from by omega) (show (V287 1 1).toInt = (b : Int) from by omega)) w979 w981 w27 w162 w982 rfl xgReader hdV_yX1_putAlone ⟨(by show 1 + 1 ≤ 10 * (d9 + 1) + 6; omega), (by show 8 + (2 + 11) + (21) ≤ 300 * (d9 + 1) + 150; omega)⟩ rfl hl.1 rfl (Nat.le_of_ble_eq_true rfl) dX1_readPart_273 ⟨Nat.le_of_ble_eq_true rfl, Nat.le_of_ble_eq_true rfl⟩) hP hD hK hS hA (fun z300 u301 H locs w302 hP hD hK hS => ?_)
            obtain ⟨V303, L304⟩ := u301
            obtain ⟨hMV303, ajV303, axL304, rgz300⟩ := w302
            have axL304 : L288 = L304 := Eq.symm axL304
            subst axL304
            have hP : va_P D vwCl (xw ad kk V303 L288 Z) H := hP
            have hD : va_D A (xw ad kk V303 L288 Z) := hD
            have hMV303 : rgd bX V303 := hMV303
            have ajV303 : agr [] [42, 48] V287 V303 := ajV303
            have agV303 : agr [(1, 3), (1, 6), (1, 8), (6, 8), (6, 9), (6, 10)] [42, 43, 44, 48] V V303 := agV287.tr ajV303 (by decide) (by decide)
            have rgz300 : 1 ≤ z300.toInt ∧ z300.toInt ≤ 1 := rgz300
            refine lv_if_eq (tgt := 283) hx hb dX1_readPart_276 (by decide) (fun c305 => ?_) (fun c305 => ?_)
            · skip
              have f306 : z300.toInt = 0 := b_eq rfl (by decide) c305
              exfalso; omega
            · skip
              have f307 : z300.toInt ≠ 0 := b_neq rfl (by decide) c305
              refine lv_iconst (v := 1) hx hb dX1_readPart_279 (by decide) ?_
              refine lv_goto (tgt := 284) hx hb dX1_readPart_280 (by decide) ?_
              have rl308 : RelC V303 L288 b gT sx290 := RelC.ag rl292 (show agr [] [42, 48] V287 V303 from (agr.tr agr.rf ajV303 (by decide) (by decide))) (by decide) (show agL [] L288 L288 from agL.rf) (by decide)
              have rw309 : ROWL b L L288 := (fun k hk => ((t286 k hk).trans ((axL34 44 k rfl).trans rfl)))
              exact W.zret (v := 1) hx hb hr rfl (fun t ht hW => ⟨⟨1, (V303, L288), rfl, ⟨hMV303, agV303, alL288, (by decide), (Or.inl ⟨rfl, sx290, hr294, rl308, keepS.le (keepS.tr (keepS.tr (keepS.rf : keepS gs 0 gs) (keepS.n1 1)) kp293) (by decide)⟩), rw309⟩, by rw [ht]; exact hP, va_K.moved hW.alike hK, hD⟩, hS.F ht⟩) hS.2.2 dX1_readPart_284
        · skip
          have hb310 : ∀ k, Rc gT (Crun gs (Ipart gd :: k)) (Cbad (V287 1 3).toInt) := fun k => (hr280 k).tr (h291 (k))
          refine lv_if_eq (tgt := 283) hx hb dX1_readPart_268 (by decide) (fun c311 => ?_) (fun c311 => ?_)
          · skip
            have f312 : z282.toInt = 0 := b_eq rfl (by decide) c311
            refine lv_iconst (v := 0) hx hb dX1_readPart_283 (by decide) ?_
            have rw313 : ROWL b L L288 := (fun k hk => ((t286 k hk).trans ((axL34 44 k rfl).trans rfl)))
            exact W.zret (v := 0) hx hb hr rfl (fun t ht hW => ⟨⟨0, (V287, L288), rfl, ⟨hMV287, agV287, alL288, (by decide), (Or.inr ⟨rfl, hb310⟩), rw313⟩, by rw [ht]; exact hP, va_K.moved hW.alike hK, hD⟩, hS.F ht⟩) hS.2.2 dX1_readPart_284
          · skip
            have f314 : z282.toInt ≠ 0 := b_neq rfl (by decide) c311
            exfalso; omega
      · skip
        have f315 : 8 ≤ p0.toInt := b_nlt rfl (by decide) c10
        refine lv_aload_n hx hb dX1_readPart_19 rfl (lv_at hl 0 rfl) ?_
        refine lv_iconst (v := 5) hx hb dX1_readPart_20 (by decide) ?_
        have kd316 : gT.1 (gs.1 0) = ((V 6 9)).toInt := RelC.kd rel
        have r317 : Int32.toInt 5 = 5 := by decide
        refine gA_int (gA_runV (As := [.int 5]) (rest := []) (ci := 1) (q0 := 1) hx hb hml hown hg hP hD hK hS hA hnw hgk (x_wrong2 l D ks H.size ad kk V L Z 5 hMV (by decide)) w867 w869 w6 w162 w870 rfl xgReader hdV_yX1_wrong ⟨(by show 0 + 1 ≤ 10 * dd + 6; omega), (by show 8 + (2 + 11) + (0) ≤ 300 * dd + 150; omega)⟩ rfl hl.1 rfl (Nat.le_of_ble_eq_true rfl) dX1_readPart_21 ⟨Nat.le_of_ble_eq_true rfl, Nat.le_of_ble_eq_true rfl⟩) hP hD hK hS hA (fun z318 u319 H locs w320 hP hD hK hS => ?_)
        obtain ⟨V323, L324⟩ := u319
        obtain ⟨hMV323, ajV323, axL324, rgz318, t321, t322⟩ := w320
        have axL324 : L = L324 := Eq.symm axL324
        subst axL324
        have hP : va_P D vwCl (xw ad kk V323 L Z) H := hP
        have hD : va_D A (xw ad kk V323 L Z) := hD
        have hMV323 : rgd bX V323 := hMV323
        have ajV323 : agr [(1, 3)] [] V V323 := ajV323
        have agV323 : agr [(1, 3), (1, 6), (1, 8), (6, 8), (6, 9), (6, 10)] [42, 43, 44, 48] V V323 := agV.tr ajV323 (by decide) (by decide)
        have rgz318 : 0 ≤ z318.toInt ∧ z318.toInt ≤ 0 := rgz318
        have t321 : 1 ≤ (V323 1 3).toInt := t321
        have t322 : (V323 1 3).toInt = (Int32.toInt 5) + 16 * (V 6 10).toInt := t322
        have r325 : 0 ≤ ((V 6 10)).toInt ∧ ((V 6 10)).toInt ≤ 4000 := hMV 6 10
        have hr326 : ∀ k, Rc gT (Crun gs (Ipart gd :: k)) (Crun gs (Ipart gd :: k)) := fun k => Rc.rf
        have hb327 : ∀ k, Rc gT (Crun gs (Ipart gd :: k)) (Cbad (V323 1 3).toInt) := fun k => Rc.go1 (hr326 k) ((part_5 gd h7 (by omega)).trans (fl_eq (RelC.st rel) (show (V323 1 3).toInt = 5 + 16 * (V 6 10).toInt from by omega)))
        have rw328 : ROWL b L L := (fun k hk => rfl)
        exact W.zret (v := z318) hx hb hr (nb_ok (by omega)) (fun t ht hW => ⟨⟨z318, (V323, L), rfl, ⟨hMV323, agV323, alL, (show 0 ≤ z318.toInt ∧ z318.toInt ≤ 1 from by omega), (Or.inr ⟨(by omega), hb327⟩), rw328⟩, by rw [ht]; exact hP, va_K.moved hW.alike hK, hD⟩, hS.F ht⟩) hS.2.2 dX1_readPart_24
    · skip
      have f329 : z2.toInt = 0 := b_eq rfl (by decide) c8
      exfalso; omega
  · skip
    refine lv_if_ne (tgt := 13) hx hb dX1_readPart_4 (by decide) (fun c330 => ?_) (fun c330 => ?_)
    · skip
      have f331 : z2.toInt ≠ 0 := b_neq rfl (by decide) c330
      exfalso; omega
    · skip
      have f332 : z2.toInt = 0 := b_eq rfl (by decide) c330
      refine lv_aload_n hx hb dX1_readPart_7 rfl (lv_at hl 0 rfl) ?_
      refine lv_iconst (v := 1) hx hb dX1_readPart_8 (by decide) ?_
      have kd333 : gT.1 (gs.1 0) = ((V 6 9)).toInt := RelC.kd rel
      have r334 : Int32.toInt 1 = 1 := by decide
      refine gA_int (gA_runV (As := [.int 1]) (rest := []) (ci := 1) (q0 := 1) hx hb hml hown hg hP hD hK hS hA hnw hgk (x_wrong2 l D ks H.size ad kk V L Z 1 hMV (by decide)) w867 w869 w6 w162 w870 rfl xgReader hdV_yX1_wrong ⟨(by show 0 + 1 ≤ 10 * dd + 6; omega), (by show 8 + (2 + 11) + (0) ≤ 300 * dd + 150; omega)⟩ rfl hl.1 rfl (Nat.le_of_ble_eq_true rfl) dX1_readPart_9 ⟨Nat.le_of_ble_eq_true rfl, Nat.le_of_ble_eq_true rfl⟩) hP hD hK hS hA (fun z335 u336 H locs w337 hP hD hK hS => ?_)
      obtain ⟨V340, L341⟩ := u336
      obtain ⟨hMV340, ajV340, axL341, rgz335, t338, t339⟩ := w337
      have axL341 : L = L341 := Eq.symm axL341
      subst axL341
      have hP : va_P D vwCl (xw ad kk V340 L Z) H := hP
      have hD : va_D A (xw ad kk V340 L Z) := hD
      have hMV340 : rgd bX V340 := hMV340
      have ajV340 : agr [(1, 3)] [] V V340 := ajV340
      have agV340 : agr [(1, 3), (1, 6), (1, 8), (6, 8), (6, 9), (6, 10)] [42, 43, 44, 48] V V340 := agV.tr ajV340 (by decide) (by decide)
      have rgz335 : 0 ≤ z335.toInt ∧ z335.toInt ≤ 0 := rgz335
      have t338 : 1 ≤ (V340 1 3).toInt := t338
      have t339 : (V340 1 3).toInt = (Int32.toInt 1) + 16 * (V 6 10).toInt := t339
      have r342 : 0 ≤ ((V 6 10)).toInt ∧ ((V 6 10)).toInt ≤ 4000 := hMV 6 10
      have hr343 : ∀ k, Rc gT (Crun gs (Ipart gd :: k)) (Crun gs (Ipart gd :: k)) := fun k => Rc.rf
      have hb344 : ∀ k, Rc gT (Crun gs (Ipart gd :: k)) (Cbad (V340 1 3).toInt) := fun k => Rc.go1 (hr343 k) ((part_1 gd h7).trans (fl_eq (RelC.st rel) (show (V340 1 3).toInt = 1 + 16 * (V 6 10).toInt from by omega)))
      have rw345 : ROWL b L L := (fun k hk => rfl)
      exact W.zret (v := z335) hx hb hr (nb_ok (by omega)) (fun t ht hW => ⟨⟨z335, (V340, L), rfl, ⟨hMV340, agV340, alL, (show 0 ≤ z335.toInt ∧ z335.toInt ≤ 1 from by omega), (Or.inr ⟨(by omega), hb344⟩), rw345⟩, by rw [ht]; exact hP, va_K.moved hW.alike hK, hD⟩, hS.F ht⟩) hS.2.2 dX1_readPart_12
set_option maxHeartbeats 4000000 in
set_option maxRecDepth 100000 in
theorem x_readPick3 {l : Launch} {D : va_G} {ks : KS} {dd : Nat} (hk_x_readExpression3 : K_x_readExpression3 l D ks dd) : K_x_readPick3 l D ks dd := by
  intro sz ad kk V L Z p0 b gT gs gd hMV rg_p0 hb2 rbk rel yd wh ow y1
  refine g_met (q_x_readPick3 D ks ad kk V L Z p0 b gT gs gd) (by decide) (Nat.le_of_ble_eq_true rfl) ?_
  intro p e s m below meth c A ls H locs hx hb hr hml hown hg hlocks hin hnw hgk hP hK hD hS hA hl
  have hown : s.vm.findClass RX1 = some m.cls := hown
  have hl : lv_has ls 4 [(0, .ref (ad 1)), (1, .int p0)] := hl
  have hP : va_P D vwCl (xw ad kk V L Z) H := hP
  have hD : va_D A (xw ad kk V L Z) := hD
  have hK : va_K D vwCl (xty kk Z) s := hK
  have agV : agr [(1, 3), (1, 6), (1, 8), (6, 8), (6, 9), (6, 10)] [42, 43, 44, 48] V V := agr.rf
  have alL : agL [6, 44] L L := agL.rf
  have rf_p0 := i_full p0
  have r1 : (-1) ≤ ((V 1 1)).toInt ∧ ((V 1 1)).toInt ≤ 1 := hMV 1 1
  refine lv_aload_n hx hb dX1_readPick_0 rfl (lv_at hl 0 rfl) ?_
  refine lv_bipush (v := 40) hx hb dX1_readPick_1 (by decide) ?_
  have hr2 : ∀ k, Rc gT (Crun gs (Itake 40 :: Iexpr (gd + 1) :: Itake 44 :: Iexpr (gd + 1) :: Itake 44 :: Iexpr (gd + 1) :: Itake 41 :: k)) (Crun gs (Itake 40 :: Iexpr (gd + 1) :: Itake 44 :: Iexpr (gd + 1) :: Itake 44 :: Iexpr (gd + 1) :: Itake 41 :: k)) := fun k => Rc.rf
  have r3 : Int32.toInt 40 = 40 := by decide
  refine gA_int (gA_runV (As := [.int 40]) (rest := []) (ci := 1) (q0 := 1) hx hb hml hown hg hP hD hK hS hA hnw hgk (x_take2 l D ks H.size ad kk V L Z 40 ((gs.1 0)) hMV (rel).1 (rel).2.1.1 (show 1 ≤ (Int32.toInt 40) from by omega)) w893 w895 w10 w162 w896 rfl xgReader hdV_yX1_take ⟨(by show 1 + 1 ≤ 10 * dd + 10; omega), (by show 8 + (2 + 11) + (21) ≤ 300 * dd + 265; omega)⟩ rfl hl.1 rfl (Nat.le_of_ble_eq_true rfl) dX1_readPick_3 ⟨Nat.le_of_ble_eq_true rfl, Nat.le_of_ble_eq_true rfl⟩) hP hD hK hS hA (fun z4 u5 H locs w6 hP hD hK hS => ?_)
  obtain ⟨V9, L10⟩ := u5
  obtain ⟨hMV9, ajV9, axL10, rgz4, t7, t8⟩ := w6
  have alL10 : agL [6, 44] L L10 := agL.tr alL axL10 (by decide)
  have hP : va_P D vwCl (xw ad kk V9 L10 Z) H := hP
  have hD : va_D A (xw ad kk V9 L10 Z) := hD
  have hMV9 : rgd bX V9 := hMV9
  have ajV9 : agr [(1, 3), (6, 8), (6, 9), (6, 10)] [] V V9 := ajV9
  have agV9 : agr [(1, 3), (1, 6), (1, 8), (6, 8), (6, 9), (6, 10)] [42, 43, 44, 48] V V9 := agV.tr ajV9 (by decide) (by decide)
  have rgz4 : 0 ≤ z4.toInt ∧ z4.toInt ≤ 1 := rgz4
  have t7 : Imp (z4.toInt = 0) (1 ≤ (V9 1 3).toInt) := t7
  have t8 : (z4.toInt = 1 ∧ (V 12 (gs.1 0)).toInt = (Int32.toInt 40) ∧ CUR V9 L10 ((gs.1 0) + 1) ∧ V9 1 3 = V 1 3) ∨ (z4.toInt = 0 ∧ (V 12 (gs.1 0)).toInt ≠ (Int32.toInt 40) ∧ (V9 1 3).toInt = 1 + 16 * (V 13 (gs.1 0)).toInt) := t8
  rcases t8 with ⟨q11, h12, k13, k14⟩ | ⟨q11, h12, k13⟩
  · skip
    have rl15 : RelC V9 L10 b gT (nx gs 1) := RelC.nx1 rel ajV9 (by decide) axL10 (by decide) k13 k14
    have hr16 : ∀ k, Rc gT (Crun gs (Itake 40 :: Iexpr (gd + 1) :: Itake 44 :: Iexpr (gd + 1) :: Itake 44 :: Iexpr (gd + 1) :: Itake 41 :: k)) (Crun (nx gs 1) (Iexpr (gd + 1) :: Itake 44 :: Iexpr (gd + 1) :: Itake 44 :: Iexpr (gd + 1) :: Itake 41 :: k)) := fun k => Rc.go1 (hr2 k) (tk_y (rel.tok.1.trans (h12.trans (by decide))))
    refine lv_if_eq (tgt := 28) hx hb dX1_readPick_6 (by decide) (fun c17 => ?_) (fun c17 => ?_)
    · skip
      have f18 : z4.toInt = 0 := b_eq rfl (by decide) c17
      exfalso; first | omega | ((try (have i_t7 := Imp.go t7 (by omega))); omega)
    · skip
      have f19 : z4.toInt ≠ 0 := b_neq rfl (by decide) c17
      refine lv_aload_n hx hb dX1_readPick_9 rfl (lv_at hl 0 rfl) ?_
      refine lv_iload_n hx hb dX1_readPick_10 rfl (lv_at hl 1 rfl) ?_
      refine lv_iconst (v := 1) hx hb dX1_readPick_11 (by decide) ?_
      refine lv_iadd hx hb dX1_readPick_12 ?_
      refine lv_topi (fun z20 ez20 => ?_)
      have hz20 : z20.toInt = p0.toInt + 1 := i_add ez20 rfl (by decide) (by omega)
      have pq21 : (V9 1 1).toInt = ((V 1 1)).toInt := congrArg Int32.toInt (ajV9 1 1 rfl)
      refine gA_int (gA_runV (As := [.int z20]) (rest := []) (ci := 1) (q0 := 1) hx hb hml hown hg hP hD hK hS hA hnw hgk (hk_x_readExpression3 H.size ad kk V9 L10 Z z20 (b) (gT) ((nx gs 1)) ((gd + 1)) hMV9 (by first | omega | ((try (have i_t7 := Imp.go t7 (by omega))); omega)) (show b < 2 from by first | omega | ((try (have i_t7 := Imp.go t7 (by omega))); omega)) (show (V9 1 1).toInt = (b : Int) from by first | omega | ((try (have i_t7 := Imp.go t7 (by omega))); omega)) rl15 (show z20.toInt = ((gd + 1) : Int) from by first | omega | ((try (have i_t7 := Imp.go t7 (by omega))); omega)) (((congrArg Int32.toInt (ajV9 1 4 rfl)).trans wh).trans (congrArg (fun n9 : Nat => (n9 : Int)) (((keepS.tr (keepS.rf : keepS gs 0 gs) (keepS.n1 1))).2.1 4 (by decide)).symm)) (fun h9 => by rw [(ajV9 1 2 rfl)]; exact ow ((congrArg Int32.toInt (ajV9 1 4 rfl)).symm.trans h9)) (show 8 - z20.toInt ≤ (dd : Int) from by first | omega | ((try (have i_t7 := Imp.go t7 (by omega))); omega))) w951 w953 w21 w162 w954 rfl xgReader hdV_yX1_readExpression ⟨(by show 10 * dd + 9 + 1 ≤ 10 * dd + 10; omega), (by show 8 + (3 + 11) + (300 * dd + 240) ≤ 300 * dd + 265; omega)⟩ rfl hl.1 rfl (Nat.le_of_ble_eq_true rfl) dX1_readPick_13 ⟨Nat.le_of_ble_eq_true rfl, Nat.le_of_ble_eq_true rfl⟩) hP hD hK hS hA (fun z22 u23 H locs w24 hP hD hK hS => ?_)
      obtain ⟨V27, L28⟩ := u23
      obtain ⟨hMV27, ajV27, axL28, rgz22, t25, t26⟩ := w24
      have alL28 : agL [6, 44] L L28 := agL.tr alL10 axL28 (by decide)
      have hP : va_P D vwCl (xw ad kk V27 L28 Z) H := hP
      have hD : va_D A (xw ad kk V27 L28 Z) := hD
      have hMV27 : rgd bX V27 := hMV27
      have ajV27 : agr [(1, 3), (1, 6), (1, 8), (6, 8), (6, 9), (6, 10)] [42, 43, 44, 48] V9 V27 := ajV27
      have agV27 : agr [(1, 3), (1, 6), (1, 8), (6, 8), (6, 9), (6, 10)] [42, 43, 44, 48] V V27 := agV9.tr ajV27 (by decide) (by decide)
      have rgz22 : 0 ≤ z22.toInt ∧ z22.toInt ≤ 1 := rgz22
      have t25 : Rd gT (nx gs 1) (fun k => Iexpr (gd + 1) :: k) (fun k => k) z22.toInt (V27 1 3).toInt (fun s9 => RelC V27 L28 b gT s9 ∧ keepS (nx gs 1) 1 s9) := t25
      have t26 : ROWL b L10 L28 := t26
      rcases t25 with ⟨q29, sx30, h31, rl32, kp33⟩ | ⟨q29, h31⟩
      · skip
        have hr34 : ∀ k, Rc gT (Crun gs (Itake 40 :: Iexpr (gd + 1) :: Itake 44 :: Iexpr (gd + 1) :: Itake 44 :: Iexpr (gd + 1) :: Itake 41 :: k)) (Crun sx30 (Itake 44 :: Iexpr (gd + 1) :: Itake 44 :: Iexpr (gd + 1) :: Itake 41 :: k)) := fun k => (hr16 k).tr (h31 (Itake 44 :: Iexpr (gd + 1) :: Itake 44 :: Iexpr (gd + 1) :: Itake 41 :: k))
        refine lv_if_eq (tgt := 28) hx hb dX1_readPick_16 (by decide) (fun c35 => ?_) (fun c35 => ?_)
        · skip
          have f36 : z22.toInt = 0 := b_eq rfl (by decide) c35
          exfalso; first | omega | ((try (have i_t7 := Imp.go t7 (by omega))); omega)
        · skip
          have f37 : z22.toInt ≠ 0 := b_neq rfl (by decide) c35
          refine lv_aload_n hx hb dX1_readPick_19 rfl (lv_at hl 0 rfl) ?_
          refine lv_bipush (v := 44) hx hb dX1_readPick_20 (by decide) ?_
          have r38 : Int32.toInt 44 = 44 := by decide
          refine gA_int (gA_runV (As := [.int 44]) (rest := []) (ci := 1) (q0 := 1) hx hb hml hown hg hP hD hK hS hA hnw hgk (x_take2 l D ks H.size ad kk V27 L28 Z 44 ((sx30.1 0)) hMV27 (rl32).1 (rl32).2.1.1 (show 1 ≤ (Int32.toInt 44) from by first | omega | ((try (have i_t7 := Imp.go t7 (by omega))); omega))) w893 w895 w10 w162 w896 rfl xgReader hdV_yX1_take ⟨(by show 1 + 1 ≤ 10 * dd + 10; omega), (by show 8 + (2 + 11) + (21) ≤ 300 * dd + 265; omega)⟩ rfl hl.1 rfl (Nat.le_of_ble_eq_true rfl) dX1_readPick_22 ⟨Nat.le_of_ble_eq_true rfl, Nat.le_of_ble_eq_true rfl⟩) hP hD hK hS hA (fun z39 u40 H locs w41 hP hD hK hS => ?_)
          obtain ⟨V44, L45⟩ := u40
          obtain ⟨hMV44, ajV44, axL45, rgz39, t42, t43⟩ := w41
          have alL45 : agL [6, 44] L L45 := agL.tr alL28 axL45 (by decide)
          have hP : va_P D vwCl (xw ad kk V44 L45 Z) H := hP
          have hD : va_D A (xw ad kk V44 L45 Z) := hD
          have hMV44 : rgd bX V44 := hMV44
          have ajV44 : agr [(1, 3), (6, 8), (6, 9), (6, 10)] [] V27 V44 := ajV44
          have agV44 : agr [(1, 3), (1, 6), (1, 8), (6, 8), (6, 9), (6, 10)] [42, 43, 44, 48] V V44 := agV27.tr ajV44 (by decide) (by decide)
          have rgz39 : 0 ≤ z39.toInt ∧ z39.toInt ≤ 1 := rgz39
          have t42 : Imp (z39.toInt = 0) (1 ≤ (V44 1 3).toInt) := t42
          have t43 : (z39.toInt = 1 ∧ (V27 12 (sx30.1 0)).toInt = (Int32.toInt 44) ∧ CUR V44 L45 ((sx30.1 0) + 1) ∧ V44 1 3 = V27 1 3) ∨ (z39.toInt = 0 ∧ (V27 12 (sx30.1 0)).toInt ≠ (Int32.toInt 44) ∧ (V44 1 3).toInt = 1 + 16 * (V27 13 (sx30.1 0)).toInt) := t43
          rcases t43 with ⟨q46, h47, k48, k49⟩ | ⟨q46, h47, k48⟩
          · skip
            have rl50 : RelC V44 L45 b gT (nx sx30 1) := RelC.nx1 rl32 ajV44 (by decide) axL45 (by decide) k48 k49
            have hr51 : ∀ k, Rc gT (Crun gs (Itake 40 :: Iexpr (gd + 1) :: Itake 44 :: Iexpr (gd + 1) :: Itake 44 :: Iexpr (gd + 1) :: Itake 41 :: k)) (Crun (nx sx30 1) (Iexpr (gd + 1) :: Itake 44 :: Iexpr (gd + 1) :: Itake 41 :: k)) := fun k => Rc.go1 (hr34 k) (tk_y (rl32.tok.1.trans (h47.trans (by decide))))
            refine lv_if_ne (tgt := 30) hx hb dX1_readPick_25 (by decide) (fun c52 => ?_) (fun c52 => ?_)
            · skip
              have f53 : z39.toInt ≠ 0 := b_neq rfl (by decide) c52
              refine lv_aload_n hx hb dX1_readPick_30 rfl (lv_at hl 0 rfl) ?_
              refine va_get (D := D) (ci := 1) (v := rfN ad 38 (V44 1 1)) (fs := (xfReader ad V44 L45 Z)) (C := RX1) (T := TX1) (N := 9) hx hb hg inX1 hown hK hP 1 xgReader rfl 1 (by decide) (hg _ w305) (fun _ h9 => h9) rfl dX1_readPick_31 ?_
              have pq54 : (V44 1 1).toInt = ((V 1 1)).toInt := congrArg Int32.toInt ((ajV44 1 1 rfl).trans ((ajV27 1 1 rfl).trans (ajV9 1 1 rfl)))
              refine g_topv (v := .ref (ad (38 + b))) (rfN_r (by first | omega | ((try (have i_t42 := Imp.go t42 (by omega))); (try (have i_t7 := Imp.go t7 (by omega))); (try (have i_t7 := Imp.go t7 (by omega))); (try (have i_t42 := Imp.go t42 (by omega))); omega))) ?_
              refine va_getN (D := D) (ci := 0) (v := .int (V44 42 b)) (fs := (xfBook ad V44 b)) (C := RX0) (T := TX0) (N := 13) hx hb hg inX0 hown hK hP (38 + b) (xgBook hb2) rfl 12 (by decide) (hnw.use 630 n630 rfl) (fun _ h9 => h9) rfl dX1_readPick_34 ?_
              refine g_top (v := (V27 42 b)) (ajV44 42 b rfl) ?_
              have r55 : 0 ≤ ((V27 42 b)).toInt ∧ ((V27 42 b)).toInt ≤ 8200 := hMV27 42 b
              refine lv_iconst (v := 1) hx hb dX1_readPick_37 (by decide) ?_
              refine lv_iadd hx hb dX1_readPick_38 ?_
              refine lv_topi (fun z56 ez56 => ?_)
              have hz56 : z56.toInt = ((V27 42 b)).toInt + 1 := i_add ez56 rfl (by decide) (by omega)
              refine lv_istore_n (lv' := [(2, .int z56), (0, .ref (ad 1)), (1, .int p0)]) hx hb dX1_readPick_39 rfl hl (by decide) rfl (fun ls hl => ?_)
              refine lv_aload_n hx hb dX1_readPick_40 rfl (lv_at hl 1 rfl) ?_
              refine lv_bipush (v := 13) hx hb dX1_readPick_41 (by decide) ?_
              refine lv_iconst (v := 0) hx hb dX1_readPick_43 (by decide) ?_
              have r57 : Int32.toInt 13 = 13 := by decide
              have r58 : Int32.toInt 0 = 0 := by decide
              refine gA_int (gA_runV (As := [.int 13, .int 0]) (rest := []) (ci := 1) (q0 := 1) hx hb hml hown hg hP hD hK hS hA hnw hgk (x_put3 l D ks H.size ad kk V44 L45 Z 13 0 (b) hMV44 (show b < 2 from by first | omega | ((try (have i_t42 := Imp.go t42 (by omega))); (try (have i_t7 := Imp.go t7 (by omega))); (try (have i_t7 := Imp.go t7 (by omega))); (try (have i_t42 := Imp.go t42 (by omega))); omega)) (show (V44 1 1).toInt = (b : Int) from by first | omega | ((try (have i_t42 := Imp.go t42 (by omega))); (try (have i_t7 := Imp.go t7 (by omega))); (try (have i_t7 := Imp.go t7 (by omega))); (try (have i_t42 := Imp.go t42 (by omega))); omega))) w975 w977 w26 w162 w978 rfl xgReader hdV_yX1_put ⟨(by show 1 + 1 ≤ 10 * dd + 10; omega), (by show 8 + (3 + 11) + (21) ≤ 300 * dd + 265; omega)⟩ rfl hl.1 rfl (Nat.le_of_ble_eq_true rfl) dX1_readPick_44 ⟨Nat.le_of_ble_eq_true rfl, Nat.le_of_ble_eq_true rfl⟩) hP hD hK hS hA (fun z59 u60 H locs w61 hP hD hK hS => ?_)
              obtain ⟨V62, L63⟩ := u60
              obtain ⟨hMV62, ajV62, axL63, rgz59⟩ := w61
              have axL63 : L45 = L63 := Eq.symm axL63
              subst axL63
              have hP : va_P D vwCl (xw ad kk V62 L45 Z) H := hP
              have hD : va_D A (xw ad kk V62 L45 Z) := hD
              have hMV62 : rgd bX V62 := hMV62
              have ajV62 : agr [] [42, 48] V44 V62 := ajV62
              have agV62 : agr [(1, 3), (1, 6), (1, 8), (6, 8), (6, 9), (6, 10)] [42, 43, 44, 48] V V62 := agV44.tr ajV62 (by decide) (by decide)
              have rgz59 : 1 ≤ z59.toInt ∧ z59.toInt ≤ 1 := rgz59
              refine lv_pop hx hb dX1_readPick_47 rfl ?_
              refine lv_aload_n hx hb dX1_readPick_48 rfl (lv_at hl 1 rfl) ?_
              refine lv_iload_n hx hb dX1_readPick_49 rfl (lv_at hl 2 rfl) ?_
              refine lv_iconst (v := 1) hx hb dX1_readPick_50 (by decide) ?_
              refine lv_iadd hx hb dX1_readPick_51 ?_
              refine lv_topi (fun z64 ez64 => ?_)
              have hz64 : z64.toInt = p0.toInt + 1 := i_add ez64 rfl (by decide) (by omega)
              have rl65 : RelC V62 L45 b gT (nx sx30 1) := RelC.ag rl50 (show agr [] [42, 48] V44 V62 from (agr.tr agr.rf ajV62 (by decide) (by decide))) (by decide) (show agL [] L45 L45 from agL.rf) (by decide)
              have pq66 : (V62 1 1).toInt = ((V 1 1)).toInt := congrArg Int32.toInt ((ajV62 1 1 rfl).trans ((ajV44 1 1 rfl).trans ((ajV27 1 1 rfl).trans (ajV9 1 1 rfl))))
              refine gA_int (gA_runV (As := [.int z64]) (rest := []) (ci := 1) (q0 := 1) hx hb hml hown hg hP hD hK hS hA hnw hgk (hk_x_readExpression3 H.size ad kk V62 L45 Z z64 (b) (gT) ((nx sx30 1)) ((gd + 1)) hMV62 (by first | omega | ((try (have i_t42 := Imp.go t42 (by omega))); (try (have i_t7 := Imp.go t7 (by omega))); (try (have i_t7 := Imp.go t7 (by omega))); (try (have i_t42 := Imp.go t42 (by omega))); omega)) (show b < 2 from by first | omega | ((try (have i_t42 := Imp.go t42 (by omega))); (try (have i_t7 := Imp.go t7 (by omega))); (try (have i_t7 := Imp.go t7 (by omega))); (try (have i_t42 := Imp.go t42 (by omega))); omega)) (show (V62 1 1).toInt = (b : Int) from by first | omega | ((try (have i_t42 := Imp.go t42 (by omega))); (try (have i_t7 := Imp.go t7 (by omega))); (try (have i_t7 := Imp.go t7 (by omega))); (try (have i_t42 := Imp.go t42 (by omega))); omega)) rl65 (show z64.toInt = ((gd + 1) : Int) from by first | omega | ((try (have i_t42 := Imp.go t42 (by omega))); (try (have i_t7 := Imp.go t7 (by omega))); (try (have i_t7 := Imp.go t7 (by omega))); (try (have i_t42 := Imp.go t42 (by omega))); omega)) (((congrArg Int32.toInt ((ajV62 1 4 rfl).trans ((ajV44 1 4 rfl).trans ((ajV27 1 4 rfl).trans (ajV9 1 4 rfl))))).trans wh).trans (congrArg (fun n9 : Nat => (n9 : Int)) (((keepS.tr (keepS.tr (keepS.tr (keepS.rf : keepS gs 0 gs) (keepS.n1 1)) kp33) (keepS.n1 1))).2.1 4 (by decide)).symm)) (fun h9 => by rw [((ajV62 1 2 rfl).trans ((ajV44 1 2 rfl).trans ((ajV27 1 2 rfl).trans (ajV9 1 2 rfl))))]; exact ow ((congrArg Int32.toInt ((ajV62 1 4 rfl).trans ((ajV44 1 4 rfl).trans ((ajV27 1 4 rfl).trans (ajV9 1 4 rfl))))).symm.trans h9)) (show 8 - z64.toInt ≤ (dd : Int) from by first | omega | ((try (have i_t42 := Imp.go t42 (by omega))); (try (have i_t7 := Imp.go t7 (by omega))); (try (have i_t7 := Imp.go t7 (by omega))); (try (have i_t42 := Imp.go t42 (by omega))); omega))) w951 w953 w21 w162 w954 rfl xgReader hdV_yX1_readExpression ⟨(by show 10 * dd + 9 + 1 ≤ 10 * dd + 10; omega), (by show 8 + (3 + 11) + (300 * dd + 240) ≤ 300 * dd + 265; omega)⟩ rfl hl.1 rfl (Nat.le_of_ble_eq_true rfl) dX1_readPick_52 ⟨Nat.le_of_ble_eq_true rfl, Nat.le_of_ble_eq_true rfl⟩) hP hD hK hS hA (fun z67 u68 H locs w69 hP hD hK hS => ?_)
              obtain ⟨V72, L73⟩ := u68
              obtain ⟨hMV72, ajV72, axL73, rgz67, t70, t71⟩ := w69
              have alL73 : agL [6, 44] L L73 := agL.tr alL45 axL73 (by decide)
              have hP : va_P D vwCl (xw ad kk V72 L73 Z) H := hP
              have hD : va_D A (xw ad kk V72 L73 Z) := hD
              have hMV72 : rgd bX V72 := hMV72
              have ajV72 : agr [(1, 3), (1, 6), (1, 8), (6, 8), (6, 9), (6, 10)] [42, 43, 44, 48] V62 V72 := ajV72
              have agV72 : agr [(1, 3), (1, 6), (1, 8), (6, 8), (6, 9), (6, 10)] [42, 43, 44, 48] V V72 := agV62.tr ajV72 (by decide) (by decide)
              have rgz67 : 0 ≤ z67.toInt ∧ z67.toInt ≤ 1 := rgz67
              have t70 : Rd gT (nx sx30 1) (fun k => Iexpr (gd + 1) :: k) (fun k => k) z67.toInt (V72 1 3).toInt (fun s9 => RelC V72 L73 b gT s9 ∧ keepS (nx sx30 1) 1 s9) := t70
              have t71 : ROWL b L45 L73 := t71
              rcases t70 with ⟨q74, sx75, h76, rl77, kp78⟩ | ⟨q74, h76⟩
              · skip
                have hr79 : ∀ k, Rc gT (Crun gs (Itake 40 :: Iexpr (gd + 1) :: Itake 44 :: Iexpr (gd + 1) :: Itake 44 :: Iexpr (gd + 1) :: Itake 41 :: k)) (Crun sx75 (Itake 44 :: Iexpr (gd + 1) :: Itake 41 :: k)) := fun k => (hr51 k).tr (h76 (Itake 44 :: Iexpr (gd + 1) :: Itake 41 :: k))
                refine lv_if_eq (tgt := 67) hx hb dX1_readPick_55 (by decide) (fun c80 => ?_) (fun c80 => ?_)
                · skip
                  have f81 : z67.toInt = 0 := b_eq rfl (by decide) c80
                  exfalso; first | omega | ((try (have i_t42 := Imp.go t42 (by omega))); (try (have i_t7 := Imp.go t7 (by omega))); (try (have i_t7 := Imp.go t7 (by omega))); (try (have i_t42 := Imp.go t42 (by omega))); omega)
                · skip
                  have f82 : z67.toInt ≠ 0 := b_neq rfl (by decide) c80
                  refine lv_aload_n hx hb dX1_readPick_58 rfl (lv_at hl 1 rfl) ?_
                  refine lv_bipush (v := 44) hx hb dX1_readPick_59 (by decide) ?_
                  refine gA_int (gA_runV (As := [.int 44]) (rest := []) (ci := 1) (q0 := 1) hx hb hml hown hg hP hD hK hS hA hnw hgk (x_take2 l D ks H.size ad kk V72 L73 Z 44 ((sx75.1 0)) hMV72 (rl77).1 (rl77).2.1.1 (show 1 ≤ (Int32.toInt 44) from by first | omega | ((try (have i_t42 := Imp.go t42 (by omega))); (try (have i_t7 := Imp.go t7 (by omega))); (try (have i_t7 := Imp.go t7 (by omega))); (try (have i_t42 := Imp.go t42 (by omega))); omega))) w893 w895 w10 w162 w896 rfl xgReader hdV_yX1_take ⟨(by show 1 + 1 ≤ 10 * dd + 10; omega), (by show 8 + (2 + 11) + (21) ≤ 300 * dd + 265; omega)⟩ rfl hl.1 rfl (Nat.le_of_ble_eq_true rfl) dX1_readPick_61 ⟨Nat.le_of_ble_eq_true rfl, Nat.le_of_ble_eq_true rfl⟩) hP hD hK hS hA (fun z83 u84 H locs w85 hP hD hK hS => ?_)
                  obtain ⟨V88, L89⟩ := u84
                  obtain ⟨hMV88, ajV88, axL89, rgz83, t86, t87⟩ := w85
                  have alL89 : agL [6, 44] L L89 := agL.tr alL73 axL89 (by decide)
                  have hP : va_P D vwCl (xw ad kk V88 L89 Z) H := hP
                  have hD : va_D A (xw ad kk V88 L89 Z) := hD
                  have hMV88 : rgd bX V88 := hMV88
                  have ajV88 : agr [(1, 3), (6, 8), (6, 9), (6, 10)] [] V72 V88 := ajV88
                  have agV88 : agr [(1, 3), (1, 6), (1, 8), (6, 8), (6, 9), (6, 10)] [42, 43, 44, 48] V V88 := agV72.tr ajV88 (by decide) (by decide)
                  have rgz83 : 0 ≤ z83.toInt ∧ z83.toInt ≤ 1 := rgz83
                  have t86 : Imp (z83.toInt = 0) (1 ≤ (V88 1 3).toInt) := t86
                  have t87 : (z83.toInt = 1 ∧ (V72 12 (sx75.1 0)).toInt = (Int32.toInt 44) ∧ CUR V88 L89 ((sx75.1 0) + 1) ∧ V88 1 3 = V72 1 3) ∨ (z83.toInt = 0 ∧ (V72 12 (sx75.1 0)).toInt ≠ (Int32.toInt 44) ∧ (V88 1 3).toInt = 1 + 16 * (V72 13 (sx75.1 0)).toInt) := t87
                  rcases t87 with ⟨q90, h91, k92, k93⟩ | ⟨q90, h91, k92⟩
                  · skip
                    have rl94 : RelC V88 L89 b gT (nx sx75 1) := RelC.nx1 rl77 ajV88 (by decide) axL89 (by decide) k92 k93
                    have hr95 : ∀ k, Rc gT (Crun gs (Itake 40 :: Iexpr (gd + 1) :: Itake 44 :: Iexpr (gd + 1) :: Itake 44 :: Iexpr (gd + 1) :: Itake 41 :: k)) (Crun (nx sx75 1) (Iexpr (gd + 1) :: Itake 41 :: k)) := fun k => Rc.go1 (hr79 k) (tk_y (rl77.tok.1.trans (h91.trans (by decide))))
                    refine lv_if_ne (tgt := 69) hx hb dX1_readPick_64 (by decide) (fun c96 => ?_) (fun c96 => ?_)
                    · skip
                      have f97 : z83.toInt ≠ 0 := b_neq rfl (by decide) c96
                      refine lv_aload_n hx hb dX1_readPick_69 rfl (lv_at hl 1 rfl) ?_
                      refine va_get (D := D) (ci := 1) (v := rfN ad 38 (V88 1 1)) (fs := (xfReader ad V88 L89 Z)) (C := RX1) (T := TX1) (N := 9) hx hb hg inX1 hown hK hP 1 xgReader rfl 1 (by decide) (hg _ w305) (fun _ h9 => h9) rfl dX1_readPick_70 ?_
                      have pq98 : (V88 1 1).toInt = ((V 1 1)).toInt := congrArg Int32.toInt ((ajV88 1 1 rfl).trans ((ajV72 1 1 rfl).trans ((ajV62 1 1 rfl).trans ((ajV44 1 1 rfl).trans ((ajV27 1 1 rfl).trans (ajV9 1 1 rfl))))))
                      refine g_topv (v := .ref (ad (38 + b))) (rfN_r (by first | omega | ((try (have i_t86 := Imp.go t86 (by omega))); (try (have i_t42 := Imp.go t42 (by omega))); (try (have i_t7 := Imp.go t7 (by omega))); (try (have i_t7 := Imp.go t7 (by omega))); (try (have i_t42 := Imp.go t42 (by omega))); (try (have i_t86 := Imp.go t86 (by omega))); omega))) ?_
                      refine va_getN (D := D) (ci := 0) (v := .int (V88 42 b)) (fs := (xfBook ad V88 b)) (C := RX0) (T := TX0) (N := 13) hx hb hg inX0 hown hK hP (38 + b) (xgBook hb2) rfl 12 (by decide) (hnw.use 630 n630 rfl) (fun _ h9 => h9) rfl dX1_readPick_73 ?_
                      refine g_top (v := (V72 42 b)) (ajV88 42 b rfl) ?_
                      have r99 : 0 ≤ ((V72 42 b)).toInt ∧ ((V72 42 b)).toInt ≤ 8200 := hMV72 42 b
                      refine lv_iconst (v := 1) hx hb dX1_readPick_76 (by decide) ?_
                      refine lv_iadd hx hb dX1_readPick_77 ?_
                      refine lv_topi (fun z100 ez100 => ?_)
                      have hz100 : z100.toInt = ((V72 42 b)).toInt + 1 := i_add ez100 rfl (by decide) (by omega)
                      refine lv_istore_n (lv' := [(3, .int z100), (2, .int z56), (0, .ref (ad 1)), (1, .int p0)]) hx hb dX1_readPick_78 rfl hl (by decide) rfl (fun ls hl => ?_)
                      refine lv_aload_n hx hb dX1_readPick_79 rfl (lv_at hl 2 rfl) ?_
                      refine lv_bipush (v := 14) hx hb dX1_readPick_80 (by decide) ?_
                      refine lv_iconst (v := 0) hx hb dX1_readPick_82 (by decide) ?_
                      have r101 : Int32.toInt 14 = 14 := by decide
                      refine gA_int (gA_runV (As := [.int 14, .int 0]) (rest := []) (ci := 1) (q0 := 1) hx hb hml hown hg hP hD hK hS hA hnw hgk (x_put3 l D ks H.size ad kk V88 L89 Z 14 0 (b) hMV88 (show b < 2 from by first | omega | ((try (have i_t86 := Imp.go t86 (by omega))); (try (have i_t42 := Imp.go t42 (by omega))); (try (have i_t7 := Imp.go t7 (by omega))); (try (have i_t7 := Imp.go t7 (by omega))); (try (have i_t42 := Imp.go t42 (by omega))); (try (have i_t86 := Imp.go t86 (by omega))); omega)) (show (V88 1 1).toInt = (b : Int) from by first | omega | ((try (have i_t86 := Imp.go t86 (by omega))); (try (have i_t42 := Imp.go t42 (by omega))); (try (have i_t7 := Imp.go t7 (by omega))); (try (have i_t7 := Imp.go t7 (by omega))); (try (have i_t42 := Imp.go t42 (by omega))); (try (have i_t86 := Imp.go t86 (by omega))); omega))) w975 w977 w26 w162 w978 rfl xgReader hdV_yX1_put ⟨(by show 1 + 1 ≤ 10 * dd + 10; omega), (by show 8 + (3 + 11) + (21) ≤ 300 * dd + 265; omega)⟩ rfl hl.1 rfl (Nat.le_of_ble_eq_true rfl) dX1_readPick_83 ⟨Nat.le_of_ble_eq_true rfl, Nat.le_of_ble_eq_true rfl⟩) hP hD hK hS hA (fun z102 u103 H locs w104 hP hD hK hS => ?_)
                      obtain ⟨V105, L106⟩ := u103
                      obtain ⟨hMV105, ajV105, axL106, rgz102⟩ := w104
                      have axL106 : L89 = L106 := Eq.symm axL106
                      subst axL106
                      have hP : va_P D vwCl (xw ad kk V105 L89 Z) H := hP
                      have hD : va_D A (xw ad kk V105 L89 Z) := hD
                      have hMV105 : rgd bX V105 := hMV105
                      have ajV105 : agr [] [42, 48] V88 V105 := ajV105
                      have agV105 : agr [(1, 3), (1, 6), (1, 8), (6, 8), (6, 9), (6, 10)] [42, 43, 44, 48] V V105 := agV88.tr ajV105 (by decide) (by decide)
                      have rgz102 : 1 ≤ z102.toInt ∧ z102.toInt ≤ 1 := rgz102
                      refine lv_pop hx hb dX1_readPick_86 rfl ?_
                      refine lv_aload_n hx hb dX1_readPick_87 rfl (lv_at hl 2 rfl) ?_
                      refine va_get (D := D) (ci := 1) (v := rfN ad 38 (V105 1 1)) (fs := (xfReader ad V105 L89 Z)) (C := RX1) (T := TX1) (N := 9) hx hb hg inX1 hown hK hP 1 xgReader rfl 1 (by decide) (hg _ w305) (fun _ h9 => h9) rfl dX1_readPick_88 ?_
                      have pq107 : (V105 1 1).toInt = ((V 1 1)).toInt := congrArg Int32.toInt ((ajV105 1 1 rfl).trans ((ajV88 1 1 rfl).trans ((ajV72 1 1 rfl).trans ((ajV62 1 1 rfl).trans ((ajV44 1 1 rfl).trans ((ajV27 1 1 rfl).trans (ajV9 1 1 rfl)))))))
                      refine g_topv (v := .ref (ad (38 + b))) (rfN_r (by first | omega | ((try (have i_t86 := Imp.go t86 (by omega))); (try (have i_t42 := Imp.go t42 (by omega))); (try (have i_t7 := Imp.go t7 (by omega))); (try (have i_t7 := Imp.go t7 (by omega))); (try (have i_t42 := Imp.go t42 (by omega))); (try (have i_t86 := Imp.go t86 (by omega))); omega))) ?_
                      refine lv_iload_n hx hb dX1_readPick_91 rfl (lv_at hl 1 rfl) ?_
                      refine lv_aload_n hx hb dX1_readPick_92 rfl (lv_at hl 2 rfl) ?_
                      refine va_get (D := D) (ci := 1) (v := rfN ad 38 (V105 1 1)) (fs := (xfReader ad V105 L89 Z)) (C := RX1) (T := TX1) (N := 9) hx hb hg inX1 hown hK hP 1 xgReader rfl 1 (by decide) (hg _ w305) (fun _ h9 => h9) rfl dX1_readPick_93 ?_
                      refine g_topv (v := .ref (ad (38 + b))) (rfN_r (by first | omega | ((try (have i_t86 := Imp.go t86 (by omega))); (try (have i_t42 := Imp.go t42 (by omega))); (try (have i_t7 := Imp.go t7 (by omega))); (try (have i_t7 := Imp.go t7 (by omega))); (try (have i_t42 := Imp.go t42 (by omega))); (try (have i_t86 := Imp.go t86 (by omega))); omega))) ?_
                      refine va_getN (D := D) (ci := 0) (v := .int (V105 42 b)) (fs := (xfBook ad V105 b)) (C := RX0) (T := TX0) (N := 13) hx hb hg inX0 hown hK hP (38 + b) (xgBook hb2) rfl 12 (by decide) (hnw.use 630 n630 rfl) (fun _ h9 => h9) rfl dX1_readPick_96 ?_
                      have r108 : 0 ≤ ((V105 42 b)).toInt ∧ ((V105 42 b)).toInt ≤ 8200 := hMV105 42 b
                      refine gA_void (gA_runV (As := [.int z56, .int (V105 42 b)]) (rest := []) (ci := 0) (q0 := (38 + b)) hx hb hml hown hg hP hD hK hS hA hnw hgk (x_patch l D ks H.size ad kk V105 L89 Z z56 (V105 42 b) (b) hMV105 (show b < 2 from by first | omega | ((try (have i_t86 := Imp.go t86 (by omega))); (try (have i_t42 := Imp.go t42 (by omega))); (try (have i_t7 := Imp.go t7 (by omega))); (try (have i_t7 := Imp.go t7 (by omega))); (try (have i_t42 := Imp.go t42 (by omega))); (try (have i_t86 := Imp.go t86 (by omega))); omega))) w987 w988 w989 w167 w990 rfl (xgBook hb2) hdV_yX0_patch ⟨(by show 0 + 1 ≤ 10 * dd + 10; omega), (by show 8 + (3 + 11) + (0) ≤ 300 * dd + 265; omega)⟩ rfl hl.1 rfl (Nat.le_of_ble_eq_true rfl) dX1_readPick_99 ⟨Nat.le_of_ble_eq_true rfl, Nat.le_of_ble_eq_true rfl⟩) hP hD hK hS hA (fun u110 H locs w111 hP hD hK hS => ?_)
                      obtain ⟨V113, L114⟩ := u110
                      obtain ⟨hMV113, ajV113, axL114, fyV113, t112⟩ := w111
                      have axL114 : L89 = L114 := Eq.symm axL114
                      subst axL114
                      have hP : va_P D vwCl (xw ad kk V113 L89 Z) H := hP
                      have hD : va_D A (xw ad kk V113 L89 Z) := hD
                      have hMV113 : rgd bX V113 := hMV113
                      have ajV113 : agr [] [48] V105 V113 := ajV113
                      have agV113 : agr [(1, 3), (1, 6), (1, 8), (6, 8), (6, 9), (6, 10)] [42, 43, 44, 48] V V113 := agV105.tr ajV113 (by decide) (by decide)
                      have t112 : (z56.toInt < 0 ∨ 8200 ≤ z56.toInt) ∧ V113 = V105 ∨ (0 ≤ z56.toInt ∧ z56.toInt < 8200 ∧ V113 = up2 V105 48 (8200 * b + Int32.toNatClampNeg z56) (V105 42 b)) := t112
                      refine lv_aload_n hx hb dX1_readPick_102 rfl (lv_at hl 2 rfl) ?_
                      refine lv_iload_n hx hb dX1_readPick_103 rfl (lv_at hl 3 rfl) ?_
                      refine lv_iconst (v := 1) hx hb dX1_readPick_104 (by decide) ?_
                      refine lv_iadd hx hb dX1_readPick_105 ?_
                      refine lv_topi (fun z115 ez115 => ?_)
                      have hz115 : z115.toInt = p0.toInt + 1 := i_add ez115 rfl (by decide) (by omega)
                      have rl116 : RelC V113 L89 b gT (nx sx75 1) := RelC.ag rl94 (show agr [] [42, 48] V88 V113 from (agr.tr (agr.tr agr.rf ajV105 (by decide) (by decide)) ajV113 (by decide) (by decide))) (by decide) (show agL [] L89 L89 from agL.rf) (by decide)
                      have pq117 : (V113 1 1).toInt = ((V 1 1)).toInt := congrArg Int32.toInt ((ajV113 1 1 rfl).trans ((ajV105 1 1 rfl).trans ((ajV88 1 1 rfl).trans ((ajV72 1 1 rfl).trans ((ajV62 1 1 rfl).trans ((ajV44 1 1 rfl).trans ((ajV27 1 1 rfl).trans (ajV9 1 1 rfl))))))))
                      refine gA_int (gA_runV (As := [.int z115]) (rest := []) (ci := 1) (q0 := 1) hx hb hml hown hg hP hD hK hS hA hnw hgk (hk_x_readExpression3 H.size ad kk V113 L89 Z z115 (b) (gT) ((nx sx75 1)) ((gd + 1)) hMV113 (by first | omega | ((try (have i_t86 := Imp.go t86 (by omega))); (try (have i_t42 := Imp.go t42 (by omega))); (try (have i_t7 := Imp.go t7 (by omega))); (try (have i_t7 := Imp.go t7 (by omega))); (try (have i_t42 := Imp.go t42 (by omega))); (try (have i_t86 := Imp.go t86 (by omega))); omega)) (show b < 2 from by first | omega | ((try (have i_t86 := Imp.go t86 (by omega))); (try (have i_t42 := Imp.go t42 (by omega))); (try (have i_t7 := Imp.go t7 (by omega))); (try (have i_t7 := Imp.go t7 (by omega))); (try (have i_t42 := Imp.go t42 (by omega))); (try (have i_t86 := Imp.go t86 (by omega))); omega)) (show (V113 1 1).toInt = (b : Int) from by first | omega | ((try (have i_t86 := Imp.go t86 (by omega))); (try (have i_t42 := Imp.go t42 (by omega))); (try (have i_t7 := Imp.go t7 (by omega))); (try (have i_t7 := Imp.go t7 (by omega))); (try (have i_t42 := Imp.go t42 (by omega))); (try (have i_t86 := Imp.go t86 (by omega))); omega)) rl116 (show z115.toInt = ((gd + 1) : Int) from by first | omega | ((try (have i_t86 := Imp.go t86 (by omega))); (try (have i_t42 := Imp.go t42 (by omega))); (try (have i_t7 := Imp.go t7 (by omega))); (try (have i_t7 := Imp.go t7 (by omega))); (try (have i_t42 := Imp.go t42 (by omega))); (try (have i_t86 := Imp.go t86 (by omega))); omega)) (((congrArg Int32.toInt ((ajV113 1 4 rfl).trans ((ajV105 1 4 rfl).trans ((ajV88 1 4 rfl).trans ((ajV72 1 4 rfl).trans ((ajV62 1 4 rfl).trans ((ajV44 1 4 rfl).trans ((ajV27 1 4 rfl).trans (ajV9 1 4 rfl))))))))).trans wh).trans (congrArg (fun n9 : Nat => (n9 : Int)) (((keepS.tr (keepS.tr (keepS.tr (keepS.tr (keepS.tr (keepS.rf : keepS gs 0 gs) (keepS.n1 1)) kp33) (keepS.n1 1)) kp78) (keepS.n1 1))).2.1 4 (by decide)).symm)) (fun h9 => by rw [((ajV113 1 2 rfl).trans ((ajV105 1 2 rfl).trans ((ajV88 1 2 rfl).trans ((ajV72 1 2 rfl).trans ((ajV62 1 2 rfl).trans ((ajV44 1 2 rfl).trans ((ajV27 1 2 rfl).trans (ajV9 1 2 rfl))))))))]; exact ow ((congrArg Int32.toInt ((ajV113 1 4 rfl).trans ((ajV105 1 4 rfl).trans ((ajV88 1 4 rfl).trans ((ajV72 1 4 rfl).trans ((ajV62 1 4 rfl).trans ((ajV44 1 4 rfl).trans ((ajV27 1 4 rfl).trans (ajV9 1 4 rfl))))))))).symm.trans h9)) (show 8 - z115.toInt ≤ (dd : Int) from by first | omega | ((try (have i_t86 := Imp.go t86 (by omega))); (try (have i_t42 := Imp.go t42 (by omega))); (try (have i_t7 := Imp.go t7 (by omega))); (try (have i_t7 := Imp.go t7 (by omega))); (try (have i_t42 := Imp.go t42 (by omega))); (try (have i_t86 := Imp.go t86 (by omega))); omega))) w951 w953 w21 w162 w954 rfl xgReader hdV_yX1_readExpression ⟨(by show 10 * dd + 9 + 1 ≤ 10 * dd + 10; omega), (by show 8 + (3 + 11) + (300 * dd + 240) ≤ 300 * dd + 265; omega)⟩ rfl hl.1 rfl (Nat.le_of_ble_eq_true rfl) dX1_readPick_106 ⟨Nat.le_of_ble_eq_true rfl, Nat.le_of_ble_eq_true rfl⟩) hP hD hK hS hA (fun z118 u119 H locs w120 hP hD hK hS => ?_)
                      obtain ⟨V123, L124⟩ := u119
                      obtain ⟨hMV123, ajV123, axL124, rgz118, t121, t122⟩ := w120
                      have alL124 : agL [6, 44] L L124 := agL.tr alL89 axL124 (by decide)
                      have hP : va_P D vwCl (xw ad kk V123 L124 Z) H := hP
                      have hD : va_D A (xw ad kk V123 L124 Z) := hD
                      have hMV123 : rgd bX V123 := hMV123
                      have ajV123 : agr [(1, 3), (1, 6), (1, 8), (6, 8), (6, 9), (6, 10)] [42, 43, 44, 48] V113 V123 := ajV123
                      have agV123 : agr [(1, 3), (1, 6), (1, 8), (6, 8), (6, 9), (6, 10)] [42, 43, 44, 48] V V123 := agV113.tr ajV123 (by decide) (by decide)
                      have rgz118 : 0 ≤ z118.toInt ∧ z118.toInt ≤ 1 := rgz118
                      have t121 : Rd gT (nx sx75 1) (fun k => Iexpr (gd + 1) :: k) (fun k => k) z118.toInt (V123 1 3).toInt (fun s9 => RelC V123 L124 b gT s9 ∧ keepS (nx sx75 1) 1 s9) := t121
                      have t122 : ROWL b L89 L124 := t122
                      rcases t121 with ⟨q125, sx126, h127, rl128, kp129⟩ | ⟨q125, h127⟩
                      · skip
                        have hr130 : ∀ k, Rc gT (Crun gs (Itake 40 :: Iexpr (gd + 1) :: Itake 44 :: Iexpr (gd + 1) :: Itake 44 :: Iexpr (gd + 1) :: Itake 41 :: k)) (Crun sx126 (Itake 41 :: k)) := fun k => (hr95 k).tr (h127 (Itake 41 :: k))
                        refine lv_if_eq (tgt := 121) hx hb dX1_readPick_109 (by decide) (fun c131 => ?_) (fun c131 => ?_)
                        · skip
                          have f132 : z118.toInt = 0 := b_eq rfl (by decide) c131
                          exfalso; first | omega | ((try (have i_t86 := Imp.go t86 (by omega))); (try (have i_t42 := Imp.go t42 (by omega))); (try (have i_t7 := Imp.go t7 (by omega))); (try (have i_t7 := Imp.go t7 (by omega))); (try (have i_t42 := Imp.go t42 (by omega))); (try (have i_t86 := Imp.go t86 (by omega))); omega)
                        · skip
                          have f133 : z118.toInt ≠ 0 := b_neq rfl (by decide) c131
                          refine lv_aload_n hx hb dX1_readPick_112 rfl (lv_at hl 2 rfl) ?_
                          refine lv_bipush (v := 41) hx hb dX1_readPick_113 (by decide) ?_
                          have r134 : Int32.toInt 41 = 41 := by decide
                          refine gA_int (gA_runV (As := [.int 41]) (rest := []) (ci := 1) (q0 := 1) hx hb hml hown hg hP hD hK hS hA hnw hgk (x_take2 l D ks H.size ad kk V123 L124 Z 41 ((sx126.1 0)) hMV123 (rl128).1 (rl128).2.1.1 (show 1 ≤ (Int32.toInt 41) from by first | omega | ((try (have i_t86 := Imp.go t86 (by omega))); (try (have i_t42 := Imp.go t42 (by omega))); (try (have i_t7 := Imp.go t7 (by omega))); (try (have i_t7 := Imp.go t7 (by omega))); (try (have i_t42 := Imp.go t42 (by omega))); (try (have i_t86 := Imp.go t86 (by omega))); omega))) w893 w895 w10 w162 w896 rfl xgReader hdV_yX1_take ⟨(by show 1 + 1 ≤ 10 * dd + 10; omega), (by show 8 + (2 + 11) + (21) ≤ 300 * dd + 265; omega)⟩ rfl hl.1 rfl (Nat.le_of_ble_eq_true rfl) dX1_readPick_115 ⟨Nat.le_of_ble_eq_true rfl, Nat.le_of_ble_eq_true rfl⟩) hP hD hK hS hA (fun z135 u136 H locs w137 hP hD hK hS => ?_)
                          obtain ⟨V140, L141⟩ := u136
                          obtain ⟨hMV140, ajV140, axL141, rgz135, t138, t139⟩ := w137
                          have alL141 : agL [6, 44] L L141 := agL.tr alL124 axL141 (by decide)
                          have hP : va_P D vwCl (xw ad kk V140 L141 Z) H := hP
                          have hD : va_D A (xw ad kk V140 L141 Z) := hD
                          have hMV140 : rgd bX V140 := hMV140
                          have ajV140 : agr [(1, 3), (6, 8), (6, 9), (6, 10)] [] V123 V140 := ajV140
                          have agV140 : agr [(1, 3), (1, 6), (1, 8), (6, 8), (6, 9), (6, 10)] [42, 43, 44, 48] V V140 := agV123.tr ajV140 (by decide) (by decide)
                          have rgz135 : 0 ≤ z135.toInt ∧ z135.toInt ≤ 1 := rgz135
                          have t138 : Imp (z135.toInt = 0) (1 ≤ (V140 1 3).toInt) := t138
                          have t139 : (z135.toInt = 1 ∧ (V123 12 (sx126.1 0)).toInt = (Int32.toInt 41) ∧ CUR V140 L141 ((sx126.1 0) + 1) ∧ V140 1 3 = V123 1 3) ∨ (z135.toInt = 0 ∧ (V123 12 (sx126.1 0)).toInt ≠ (Int32.toInt 41) ∧ (V140 1 3).toInt = 1 + 16 * (V123 13 (sx126.1 0)).toInt) := t139
                          rcases t139 with ⟨q142, h143, k144, k145⟩ | ⟨q142, h143, k144⟩
                          · skip
                            have rl146 : RelC V140 L141 b gT (nx sx126 1) := RelC.nx1 rl128 ajV140 (by decide) axL141 (by decide) k144 k145
                            have hr147 : ∀ k, Rc gT (Crun gs (Itake 40 :: Iexpr (gd + 1) :: Itake 44 :: Iexpr (gd + 1) :: Itake 44 :: Iexpr (gd + 1) :: Itake 41 :: k)) (Crun (nx sx126 1) (k)) := fun k => Rc.go1 (hr130 k) (tk_y (rl128.tok.1.trans (h143.trans (by decide))))
                            refine lv_if_ne (tgt := 123) hx hb dX1_readPick_118 (by decide) (fun c148 => ?_) (fun c148 => ?_)
                            · skip
                              have f149 : z135.toInt ≠ 0 := b_neq rfl (by decide) c148
                              refine lv_aload_n hx hb dX1_readPick_123 rfl (lv_at hl 2 rfl) ?_
                              refine va_get (D := D) (ci := 1) (v := rfN ad 38 (V140 1 1)) (fs := (xfReader ad V140 L141 Z)) (C := RX1) (T := TX1) (N := 9) hx hb hg inX1 hown hK hP 1 xgReader rfl 1 (by decide) (hg _ w305) (fun _ h9 => h9) rfl dX1_readPick_124 ?_
                              have pq150 : (V140 1 1).toInt = ((V 1 1)).toInt := congrArg Int32.toInt ((ajV140 1 1 rfl).trans ((ajV123 1 1 rfl).trans ((ajV113 1 1 rfl).trans ((ajV105 1 1 rfl).trans ((ajV88 1 1 rfl).trans ((ajV72 1 1 rfl).trans ((ajV62 1 1 rfl).trans ((ajV44 1 1 rfl).trans ((ajV27 1 1 rfl).trans (ajV9 1 1 rfl))))))))))
                              refine g_topv (v := .ref (ad (38 + b))) (rfN_r (by first | omega | ((try (have i_t138 := Imp.go t138 (by omega))); (try (have i_t86 := Imp.go t86 (by omega))); (try (have i_t42 := Imp.go t42 (by omega))); (try (have i_t7 := Imp.go t7 (by omega))); (try (have i_t7 := Imp.go t7 (by omega))); (try (have i_t42 := Imp.go t42 (by omega))); (try (have i_t86 := Imp.go t86 (by omega))); (try (have i_t138 := Imp.go t138 (by omega))); omega))) ?_
                              refine lv_iload_n hx hb dX1_readPick_127 rfl (lv_at hl 0 rfl) ?_
                              refine lv_aload_n hx hb dX1_readPick_128 rfl (lv_at hl 2 rfl) ?_
                              refine va_get (D := D) (ci := 1) (v := rfN ad 38 (V140 1 1)) (fs := (xfReader ad V140 L141 Z)) (C := RX1) (T := TX1) (N := 9) hx hb hg inX1 hown hK hP 1 xgReader rfl 1 (by decide) (hg _ w305) (fun _ h9 => h9) rfl dX1_readPick_129 ?_
                              refine g_topv (v := .ref (ad (38 + b))) (rfN_r (by first | omega | ((try (have i_t138 := Imp.go t138 (by omega))); (try (have i_t86 := Imp.go t86 (by omega))); (try (have i_t42 := Imp.go t42 (by omega))); (try (have i_t7 := Imp.go t7 (by omega))); (try (have i_t7 := Imp.go t7 (by omega))); (try (have i_t42 := Imp.go t42 (by omega))); (try (have i_t86 := Imp.go t86 (by omega))); (try (have i_t138 := Imp.go t138 (by omega))); omega))) ?_
                              refine va_getN (D := D) (ci := 0) (v := .int (V140 42 b)) (fs := (xfBook ad V140 b)) (C := RX0) (T := TX0) (N := 13) hx hb hg inX0 hown hK hP (38 + b) (xgBook hb2) rfl 12 (by decide) (hnw.use 630 n630 rfl) (fun _ h9 => h9) rfl dX1_readPick_132 ?_
                              refine g_top (v := (V123 42 b)) (ajV140 42 b rfl) ?_
                              have r151 : 0 ≤ ((V123 42 b)).toInt ∧ ((V123 42 b)).toInt ≤ 8200 := hMV123 42 b
                              refine gA_void (gA_runV (As := [.int z100, .int (V123 42 b)]) (rest := []) (ci := 0) (q0 := (38 + b)) hx hb hml hown hg hP hD hK hS hA hnw hgk (x_patch l D ks H.size ad kk V140 L141 Z z100 (V123 42 b) (b) hMV140 (show b < 2 from by first | omega | ((try (have i_t138 := Imp.go t138 (by omega))); (try (have i_t86 := Imp.go t86 (by omega))); (try (have i_t42 := Imp.go t42 (by omega))); (try (have i_t7 := Imp.go t7 (by omega))); (try (have i_t7 := Imp.go t7 (by omega))); (try (have i_t42 := Imp.go t42 (by omega))); (try (have i_t86 := Imp.go t86 (by omega))); (try (have i_t138 := Imp.go t138 (by omega))); omega))) w987 w988 w989 w167 w990 rfl (xgBook hb2) hdV_yX0_patch ⟨(by show 0 + 1 ≤ 10 * dd + 10; omega), (by show 8 + (3 + 11) + (0) ≤ 300 * dd + 265; omega)⟩ rfl hl.1 rfl (Nat.le_of_ble_eq_true rfl) dX1_readPick_135 ⟨Nat.le_of_ble_eq_true rfl, Nat.le_of_ble_eq_true rfl⟩) hP hD hK hS hA (fun u153 H locs w154 hP hD hK hS => ?_)
                              obtain ⟨V156, L157⟩ := u153
                              obtain ⟨hMV156, ajV156, axL157, fyV156, t155⟩ := w154
                              have axL157 : L141 = L157 := Eq.symm axL157
                              subst axL157
                              have hP : va_P D vwCl (xw ad kk V156 L141 Z) H := hP
                              have hD : va_D A (xw ad kk V156 L141 Z) := hD
                              have hMV156 : rgd bX V156 := hMV156
                              have ajV156 : agr [] [48] V140 V156 := ajV156
                              have agV156 : agr [(1, 3), (1, 6), (1, 8), (6, 8), (6, 9), (6, 10)] [42, 43, 44, 48] V V156 := agV140.tr ajV156 (by decide) (by decide)
                              have t155 : (z100.toInt < 0 ∨ 8200 ≤ z100.toInt) ∧ V156 = V140 ∨ (0 ≤ z100.toInt ∧ z100.toInt < 8200 ∧ V156 = up2 V140 48 (8200 * b + Int32.toNatClampNeg z100) (V123 42 b)) := t155
                              refine lv_iconst (v := 1) hx hb dX1_readPick_138 (by decide) ?_
                              have rl158 : RelC V156 L141 b gT (nx sx126 1) := RelC.ag rl146 (show agr [] [48] V140 V156 from (agr.tr agr.rf ajV156 (by decide) (by decide))) (by decide) (show agL [] L141 L141 from agL.rf) (by decide)
                              have rw159 : ROWL b L L141 := (fun k hk => ((axL141 44 k rfl).trans ((t122 k hk).trans ((axL89 44 k rfl).trans ((t71 k hk).trans ((axL45 44 k rfl).trans ((t26 k hk).trans ((axL10 44 k rfl).trans rfl))))))))
                              exact W.zret (v := 1) hx hb hr rfl (fun t ht hW => ⟨⟨1, (V156, L141), rfl, ⟨hMV156, agV156, alL141, (by decide), (Or.inl ⟨rfl, (nx sx126 1), hr147, rl158, keepS.le (keepS.tr (keepS.tr (keepS.tr (keepS.tr (keepS.tr (keepS.tr (keepS.tr (keepS.rf : keepS gs 0 gs) (keepS.n1 1)) kp33) (keepS.n1 1)) kp78) (keepS.n1 1)) kp129) (keepS.n1 1)) (by decide)⟩), rw159⟩, by rw [ht]; exact hP, va_K.moved hW.alike hK, hD⟩, hS.F ht⟩) hS.2.2 dX1_readPick_139
                            · skip
                              have f160 : z135.toInt = 0 := b_eq rfl (by decide) c148
                              exfalso; first | omega | ((try (have i_t138 := Imp.go t138 (by omega))); (try (have i_t86 := Imp.go t86 (by omega))); (try (have i_t42 := Imp.go t42 (by omega))); (try (have i_t7 := Imp.go t7 (by omega))); (try (have i_t7 := Imp.go t7 (by omega))); (try (have i_t42 := Imp.go t42 (by omega))); (try (have i_t86 := Imp.go t86 (by omega))); (try (have i_t138 := Imp.go t138 (by omega))); omega)
                          · skip
                            have hb161 : ∀ k, Rc gT (Crun gs (Itake 40 :: Iexpr (gd + 1) :: Itake 44 :: Iexpr (gd + 1) :: Itake 44 :: Iexpr (gd + 1) :: Itake 41 :: k)) (Cbad (V140 1 3).toInt) := fun k => Rc.go1 (hr130 k) ((tk_n (fun h9 => h143 (rl128.tok.1.symm.trans (h9.trans (by decide))))).trans (fl_eq rl128.tok.2.2 k144))
                            refine lv_if_ne (tgt := 123) hx hb dX1_readPick_118 (by decide) (fun c162 => ?_) (fun c162 => ?_)
                            · skip
                              have f163 : z135.toInt ≠ 0 := b_neq rfl (by decide) c162
                              exfalso; first | omega | ((try (have i_t138 := Imp.go t138 (by omega))); (try (have i_t86 := Imp.go t86 (by omega))); (try (have i_t42 := Imp.go t42 (by omega))); (try (have i_t7 := Imp.go t7 (by omega))); (try (have i_t7 := Imp.go t7 (by omega))); (try (have i_t42 := Imp.go t42 (by omega))); (try (have i_t86 := Imp.go t86 (by omega))); (try (have i_t138 := Imp.go t138 (by omega))); omega)
                            · skip
                              have f164 : z135.toInt = 0 := b_eq rfl (by decide) c162
                              refine lv_iconst (v := 0) hx hb dX1_readPick_121 (by decide) ?_
                              have rw165 : ROWL b L L141 := (fun k hk => ((axL141 44 k rfl).trans ((t122 k hk).trans ((axL89 44 k rfl).trans ((t71 k hk).trans ((axL45 44 k rfl).trans ((t26 k hk).trans ((axL10 44 k rfl).trans rfl))))))))
                              exact W.zret (v := 0) hx hb hr rfl (fun t ht hW => ⟨⟨0, (V140, L141), rfl, ⟨hMV140, agV140, alL141, (by decide), (Or.inr ⟨rfl, hb161⟩), rw165⟩, by rw [ht]; exact hP, va_K.moved hW.alike hK, hD⟩, hS.F ht⟩) hS.2.2 dX1_readPick_122
                      · skip
                        have hb166 : ∀ k, Rc gT (Crun gs (Itake 40 :: Iexpr (gd + 1) :: Itake 44 :: Iexpr (gd + 1) :: Itake 44 :: Iexpr (gd + 1) :: Itake 41 :: k)) (Cbad (V123 1 3).toInt) := fun k => (hr95 k).tr (h127 (Itake 41 :: k))
                        refine lv_if_eq (tgt := 121) hx hb dX1_readPick_109 (by decide) (fun c167 => ?_) (fun c167 => ?_)
                        · skip
                          have f168 : z118.toInt = 0 := b_eq rfl (by decide) c167
                          refine lv_iconst (v := 0) hx hb dX1_readPick_121 (by decide) ?_
                          have rw169 : ROWL b L L124 := (fun k hk => ((t122 k hk).trans ((axL89 44 k rfl).trans ((t71 k hk).trans ((axL45 44 k rfl).trans ((t26 k hk).trans ((axL10 44 k rfl).trans rfl)))))))
                          exact W.zret (v := 0) hx hb hr rfl (fun t ht hW => ⟨⟨0, (V123, L124), rfl, ⟨hMV123, agV123, alL124, (by decide), (Or.inr ⟨rfl, hb166⟩), rw169⟩, by rw [ht]; exact hP, va_K.moved hW.alike hK, hD⟩, hS.F ht⟩) hS.2.2 dX1_readPick_122
                        · skip
                          have f170 : z118.toInt ≠ 0 := b_neq rfl (by decide) c167
                          exfalso; first | omega | ((try (have i_t86 := Imp.go t86 (by omega))); (try (have i_t42 := Imp.go t42 (by omega))); (try (have i_t7 := Imp.go t7 (by omega))); (try (have i_t7 := Imp.go t7 (by omega))); (try (have i_t42 := Imp.go t42 (by omega))); (try (have i_t86 := Imp.go t86 (by omega))); omega)
                    · skip
                      have f171 : z83.toInt = 0 := b_eq rfl (by decide) c96
                      exfalso; first | omega | ((try (have i_t86 := Imp.go t86 (by omega))); (try (have i_t42 := Imp.go t42 (by omega))); (try (have i_t7 := Imp.go t7 (by omega))); (try (have i_t7 := Imp.go t7 (by omega))); (try (have i_t42 := Imp.go t42 (by omega))); (try (have i_t86 := Imp.go t86 (by omega))); omega)
                  · skip
                    have hb172 : ∀ k, Rc gT (Crun gs (Itake 40 :: Iexpr (gd + 1) :: Itake 44 :: Iexpr (gd + 1) :: Itake 44 :: Iexpr (gd + 1) :: Itake 41 :: k)) (Cbad (V88 1 3).toInt) := fun k => Rc.go1 (hr79 k) ((tk_n (fun h9 => h91 (rl77.tok.1.symm.trans (h9.trans (by decide))))).trans (fl_eq rl77.tok.2.2 k92))
                    refine lv_if_ne (tgt := 69) hx hb dX1_readPick_64 (by decide) (fun c173 => ?_) (fun c173 => ?_)
                    · skip
                      have f174 : z83.toInt ≠ 0 := b_neq rfl (by decide) c173
                      exfalso; first | omega | ((try (have i_t86 := Imp.go t86 (by omega))); (try (have i_t42 := Imp.go t42 (by omega))); (try (have i_t7 := Imp.go t7 (by omega))); (try (have i_t7 := Imp.go t7 (by omega))); (try (have i_t42 := Imp.go t42 (by omega))); (try (have i_t86 := Imp.go t86 (by omega))); omega)
                    · skip
                      have f175 : z83.toInt = 0 := b_eq rfl (by decide) c173
                      refine lv_iconst (v := 0) hx hb dX1_readPick_67 (by decide) ?_
                      have rw176 : ROWL b L L89 := (fun k hk => ((axL89 44 k rfl).trans ((t71 k hk).trans ((axL45 44 k rfl).trans ((t26 k hk).trans ((axL10 44 k rfl).trans rfl))))))
                      exact W.zret (v := 0) hx hb hr rfl (fun t ht hW => ⟨⟨0, (V88, L89), rfl, ⟨hMV88, agV88, alL89, (by decide), (Or.inr ⟨rfl, hb172⟩), rw176⟩, by rw [ht]; exact hP, va_K.moved hW.alike hK, hD⟩, hS.F ht⟩) hS.2.2 dX1_readPick_68
              · skip
                have hb177 : ∀ k, Rc gT (Crun gs (Itake 40 :: Iexpr (gd + 1) :: Itake 44 :: Iexpr (gd + 1) :: Itake 44 :: Iexpr (gd + 1) :: Itake 41 :: k)) (Cbad (V72 1 3).toInt) := fun k => (hr51 k).tr (h76 (Itake 44 :: Iexpr (gd + 1) :: Itake 41 :: k))
                refine lv_if_eq (tgt := 67) hx hb dX1_readPick_55 (by decide) (fun c178 => ?_) (fun c178 => ?_)
                · skip
                  have f179 : z67.toInt = 0 := b_eq rfl (by decide) c178
                  refine lv_iconst (v := 0) hx hb dX1_readPick_67 (by decide) ?_
                  have rw180 : ROWL b L L73 := (fun k hk => ((t71 k hk).trans ((axL45 44 k rfl).trans ((t26 k hk).trans ((axL10 44 k rfl).trans rfl)))))
                  exact W.zret (v := 0) hx hb hr rfl (fun t ht hW => ⟨⟨0, (V72, L73), rfl, ⟨hMV72, agV72, alL73, (by decide), (Or.inr ⟨rfl, hb177⟩), rw180⟩, by rw [ht]; exact hP, va_K.moved hW.alike hK, hD⟩, hS.F ht⟩) hS.2.2 dX1_readPick_68
                · skip
                  have f181 : z67.toInt ≠ 0 := b_neq rfl (by decide) c178
                  exfalso; first | omega | ((try (have i_t42 := Imp.go t42 (by omega))); (try (have i_t7 := Imp.go t7 (by omega))); (try (have i_t7 := Imp.go t7 (by omega))); (try (have i_t42 := Imp.go t42 (by omega))); omega)
            · skip
              have f182 : z39.toInt = 0 := b_eq rfl (by decide) c52
              exfalso; first | omega | ((try (have i_t42 := Imp.go t42 (by omega))); (try (have i_t7 := Imp.go t7 (by omega))); (try (have i_t7 := Imp.go t7 (by omega))); (try (have i_t42 := Imp.go t42 (by omega))); omega)
          · skip
            have hb183 : ∀ k, Rc gT (Crun gs (Itake 40 :: Iexpr (gd + 1) :: Itake 44 :: Iexpr (gd + 1) :: Itake 44 :: Iexpr (gd + 1) :: Itake 41 :: k)) (Cbad (V44 1 3).toInt) := fun k => Rc.go1 (hr34 k) ((tk_n (fun h9 => h47 (rl32.tok.1.symm.trans (h9.trans (by decide))))).trans (fl_eq rl32.tok.2.2 k48))
            refine lv_if_ne (tgt := 30) hx hb dX1_readPick_25 (by decide) (fun c184 => ?_) (fun c184 => ?_)
            · skip
              have f185 : z39.toInt ≠ 0 := b_neq rfl (by decide) c184
              exfalso; first | omega | ((try (have i_t42 := Imp.go t42 (by omega))); (try (have i_t7 := Imp.go t7 (by omega))); (try (have i_t7 := Imp.go t7 (by omega))); (try (have i_t42 := Imp.go t42 (by omega))); omega)
            · skip
              have f186 : z39.toInt = 0 := b_eq rfl (by decide) c184
              refine lv_iconst (v := 0) hx hb dX1_readPick_28 (by decide) ?_
              have rw187 : ROWL b L L45 := (fun k hk => ((axL45 44 k rfl).trans ((t26 k hk).trans ((axL10 44 k rfl).trans rfl))))
              exact W.zret (v := 0) hx hb hr rfl (fun t ht hW => ⟨⟨0, (V44, L45), rfl, ⟨hMV44, agV44, alL45, (by decide), (Or.inr ⟨rfl, hb183⟩), rw187⟩, by rw [ht]; exact hP, va_K.moved hW.alike hK, hD⟩, hS.F ht⟩) hS.2.2 dX1_readPick_29
      · skip
        have hb188 : ∀ k, Rc gT (Crun gs (Itake 40 :: Iexpr (gd + 1) :: Itake 44 :: Iexpr (gd + 1) :: Itake 44 :: Iexpr (gd + 1) :: Itake 41 :: k)) (Cbad (V27 1 3).toInt) := fun k => (hr16 k).tr (h31 (Itake 44 :: Iexpr (gd + 1) :: Itake 44 :: Iexpr (gd + 1) :: Itake 41 :: k))
        refine lv_if_eq (tgt := 28) hx hb dX1_readPick_16 (by decide) (fun c189 => ?_) (fun c189 => ?_)
        · skip
          have f190 : z22.toInt = 0 := b_eq rfl (by decide) c189
          refine lv_iconst (v := 0) hx hb dX1_readPick_28 (by decide) ?_
          have rw191 : ROWL b L L28 := (fun k hk => ((t26 k hk).trans ((axL10 44 k rfl).trans rfl)))
          exact W.zret (v := 0) hx hb hr rfl (fun t ht hW => ⟨⟨0, (V27, L28), rfl, ⟨hMV27, agV27, alL28, (by decide), (Or.inr ⟨rfl, hb188⟩), rw191⟩, by rw [ht]; exact hP, va_K.moved hW.alike hK, hD⟩, hS.F ht⟩) hS.2.2 dX1_readPick_29
        · skip
          have f192 : z22.toInt ≠ 0 := b_neq rfl (by decide) c189
          exfalso; first | omega | ((try (have i_t7 := Imp.go t7 (by omega))); omega)
  · skip
    have hb193 : ∀ k, Rc gT (Crun gs (Itake 40 :: Iexpr (gd + 1) :: Itake 44 :: Iexpr (gd + 1) :: Itake 44 :: Iexpr (gd + 1) :: Itake 41 :: k)) (Cbad (V9 1 3).toInt) := fun k => Rc.go1 (hr2 k) ((tk_n (fun h9 => h12 (rel.tok.1.symm.trans (h9.trans (by decide))))).trans (fl_eq rel.tok.2.2 k13))
    refine lv_if_eq (tgt := 28) hx hb dX1_readPick_6 (by decide) (fun c194 => ?_) (fun c194 => ?_)
    · skip
      have f195 : z4.toInt = 0 := b_eq rfl (by decide) c194
      refine lv_iconst (v := 0) hx hb dX1_readPick_28 (by decide) ?_
      have rw196 : ROWL b L L10 := (fun k hk => ((axL10 44 k rfl).trans rfl))
      exact W.zret (v := 0) hx hb hr rfl (fun t ht hW => ⟨⟨0, (V9, L10), rfl, ⟨hMV9, agV9, alL10, (by decide), (Or.inr ⟨rfl, hb193⟩), rw196⟩, by rw [ht]; exact hP, va_K.moved hW.alike hK, hD⟩, hS.F ht⟩) hS.2.2 dX1_readPick_29
    · skip
      have f197 : z4.toInt ≠ 0 := b_neq rfl (by decide) c194
      exfalso; first | omega | ((try (have i_t7 := Imp.go t7 (by omega))); omega)
set_option maxHeartbeats 4000000 in
set_option maxRecDepth 100000 in
theorem x_readOf3 {l : Launch} {D : va_G} {ks : KS} {dd : Nat} (hk_x_readWithin3 : K_x_readWithin3 l D ks dd) : K_x_readOf3 l D ks dd := by
  intro sz ad kk V L Z p0 b gT gs gd hMV rg_p0 hb2 rbk rel yd wh ow y1 owz
  refine g_met (q_x_readOf3 D ks ad kk V L Z p0 b gT gs gd) (by decide) (Nat.le_of_ble_eq_true rfl) ?_
  intro p e s m below meth c A ls H locs hx hb hr hml hown hg hlocks hin hnw hgk hP hK hD hS hA hl
  have hown : s.vm.findClass RX1 = some m.cls := hown
  have hl : lv_has ls 4 [(0, .ref (ad 1)), (1, .int p0)] := hl
  have hP : va_P D vwCl (xw ad kk V L Z) H := hP
  have hD : va_D A (xw ad kk V L Z) := hD
  have hK : va_K D vwCl (xty kk Z) s := hK
  have agV : agr [(1, 3), (1, 6), (1, 8), (6, 8), (6, 9), (6, 10)] [42, 43, 44, 48] V V := agr.rf
  have alL : agL [6, 44] L L := agL.rf
  have rf_p0 := i_full p0
  have r1 : (-1) ≤ ((V 1 1)).toInt ∧ ((V 1 1)).toInt ≤ 1 := hMV 1 1
  have r2 : (-1) ≤ ((V 1 2)).toInt ∧ ((V 1 2)).toInt ≤ 47 := hMV 1 2
  have ko := i_clamp (x := V 1 2) rfl (by omega)
  have ro9 : -1 ≤ (V 1 2).toInt ∧ (V 1 2).toInt ≤ 47 := hMV 1 2
  have ow49 := (rel.2.2.2.2 (by omega)).1
  refine lv_aload_n hx hb dX1_readOf_0 rfl (lv_at hl 0 rfl) ?_
  refine lv_iconst (v := 0) hx hb dX1_readOf_1 (by decide) ?_
  refine lv_aload_n hx hb dX1_readOf_2 rfl (lv_at hl 0 rfl) ?_
  refine va_get (D := D) (ci := 1) (v := rfN ad 72 (V 1 2)) (fs := (xfReader ad V L Z)) (C := RX1) (T := TX1) (N := 9) hx hb hg inX1 hown hK hP 1 xgReader rfl 2 (by decide) (hg _ w306) (fun _ h9 => h9) rfl dX1_readOf_3 ?_
  refine g_topv (v := .ref (ad (72 + (Int32.toNatClampNeg (V 1 2))))) (rfN_r (by omega)) ?_
  refine lv_ifnonnull (tgt := 13) hx hb dX1_readOf_6 (by decide) ?_
  refine lv_aload_n hx hb dX1_readOf_13 rfl (lv_at hl 0 rfl) ?_
  refine va_get (D := D) (ci := 1) (v := rfN ad 72 (V 1 2)) (fs := (xfReader ad V L Z)) (C := RX1) (T := TX1) (N := 9) hx hb hg inX1 hown hK hP 1 xgReader rfl 2 (by decide) (hg _ w306) (fun _ h9 => h9) rfl dX1_readOf_14 ?_
  refine g_topv (v := .ref (ad (72 + (Int32.toNatClampNeg (V 1 2))))) (rfN_r (by omega)) ?_
  have il3 : (Int32.toNatClampNeg (V 1 2)) < 48 := by omega
  refine va_getN (D := D) (ci := 3) (v := .int (V 49 (Int32.toNatClampNeg (V 1 2)))) (fs := (xfComp ad V (Int32.toNatClampNeg (V 1 2)))) (C := RX3) (T := TX3) (N := 13) hx hb hg inX3 hown hK hP (72 + (Int32.toNatClampNeg (V 1 2))) (xgComp il3) rfl 4 (by decide) (hnw.use 513 n513 rfl) (fun _ h9 => h9) rfl dX1_readOf_17 ?_
  have r4 : 0 ≤ ((V 49 (Int32.toNatClampNeg (V 1 2)))).toInt ∧ ((V 49 (Int32.toNatClampNeg (V 1 2)))).toInt ≤ 8 := hMV 49 (Int32.toNatClampNeg (V 1 2))
  refine lv_iconst (v := 1) hx hb dX1_readOf_20 (by decide) ?_
  refine lv_isub hx hb dX1_readOf_21 ?_
  refine lv_topi (fun z5 ez5 => ?_)
  have hz5 : z5.toInt = ((V 49 (Int32.toNatClampNeg (V 1 2)))).toInt - 1 := i_sub ez5 rfl (by decide) (by omega)
  have hr6 : ∀ k, Rc gT (Crun gs (Inum 0 (((gs.1 1 : Nat) : Int) - 1) :: Itake 46 :: Imeth :: Itake 40 :: Iexpr (gd + 1) :: Itake 41 :: k)) (Crun gs (Inum 0 (((gs.1 1 : Nat) : Int) - 1) :: Itake 46 :: Imeth :: Itake 40 :: Iexpr (gd + 1) :: Itake 41 :: k)) := fun k => Rc.rf
  have r7 : Int32.toInt 0 = 0 := by decide
  refine gA_int (gA_runV (As := [.int 0, .int z5]) (rest := []) (ci := 1) (q0 := 1) hx hb hml hown hg hP hD hK hS hA hnw hgk (x_takeNumber2 l D ks H.size ad kk V L Z 0 z5 ((gs.1 0)) hMV (rel).1 (rel).2.1.1 (show 0 ≤ (Int32.toInt 0) from by omega) (show z5.toInt ≤ 999999999 from by omega)) w906 w908 w12 w162 w909 rfl xgReader hdV_yX1_takeNumber ⟨(by show 1 + 1 ≤ 10 * dd + 11; omega), (by show 8 + (3 + 11) + (21) ≤ 300 * dd + 290; omega)⟩ rfl hl.1 rfl (Nat.le_of_ble_eq_true rfl) dX1_readOf_22 ⟨Nat.le_of_ble_eq_true rfl, Nat.le_of_ble_eq_true rfl⟩) hP hD hK hS hA (fun z8 u9 H locs w10 hP hD hK hS => ?_)
  obtain ⟨V14, L15⟩ := u9
  obtain ⟨hMV14, ajV14, axL15, rgz8, t11, t12, t13⟩ := w10
  have alL15 : agL [6, 44] L L15 := agL.tr alL axL15 (by decide)
  have hP : va_P D vwCl (xw ad kk V14 L15 Z) H := hP
  have hD : va_D A (xw ad kk V14 L15 Z) := hD
  have hMV14 : rgd bX V14 := hMV14
  have ajV14 : agr [(1, 3), (1, 8), (6, 8), (6, 9), (6, 10)] [] V V14 := ajV14
  have agV14 : agr [(1, 3), (1, 6), (1, 8), (6, 8), (6, 9), (6, 10)] [42, 43, 44, 48] V V14 := agV.tr ajV14 (by decide) (by decide)
  have rgz8 : 0 ≤ z8.toInt ∧ z8.toInt ≤ 1 := rgz8
  have t11 : Imp (z8.toInt = 1) ((Int32.toInt 0) ≤ (V14 1 8).toInt ∧ (V14 1 8).toInt ≤ z5.toInt) := t11
  have t12 : Imp (z8.toInt = 0) (1 ≤ (V14 1 3).toInt) := t12
  have t13 : (z8.toInt = 1 ∧ (V 12 (gs.1 0)).toInt = 2 ∧ (Int32.toInt 0) ≤ (L 14 (gs.1 0)).toInt ∧ (L 14 (gs.1 0)).toInt ≤ z5.toInt ∧ CUR V14 L15 ((gs.1 0) + 1) ∧ (V14 1 8).toInt = (L 14 (gs.1 0)).toInt ∧ V14 1 3 = V 1 3) ∨ (z8.toInt = 0 ∧ (((V 12 (gs.1 0)).toInt ≠ 2 ∧ (V14 1 3).toInt = 1 + 16 * (V 13 (gs.1 0)).toInt) ∨ ((V 12 (gs.1 0)).toInt = 2 ∧ ((L 14 (gs.1 0)).toInt < (Int32.toInt 0) ∨ z5.toInt < (L 14 (gs.1 0)).toInt) ∧ (V14 1 3).toInt = 4 + 16 * (V 13 (gs.1 0)).toInt))) := t13
  have r16 : 0 ≤ ((V14 1 8)).toInt ∧ ((V14 1 8)).toInt ≤ 999999999 := hMV14 1 8
  have nv24 := congrArg Int64.toInt rel.tok.2.1
  rcases t13 with ⟨q17, h18, h19, h20, k21, k22, k23⟩ | ⟨q17, ⟨h18, k21⟩ | ⟨h18, h19, k21⟩⟩
  · skip
    have rl25 : RelC V14 L15 b gT (nx gs 1) := RelC.nx1 rel ajV14 (by decide) axL15 (by decide) k21 k23
    have hr26 : ∀ k, Rc gT (Crun gs (Inum 0 (((gs.1 1 : Nat) : Int) - 1) :: Itake 46 :: Imeth :: Itake 40 :: Iexpr (gd + 1) :: Itake 41 :: k)) (Crun (nx gs 1) (Itake 46 :: Imeth :: Itake 40 :: Iexpr (gd + 1) :: Itake 41 :: k)) := fun k => Rc.go1 (hr6 k) (nm_y (rel.tok.1.trans h18) (by omega) (by omega))
    refine lv_if_ne (tgt := 30) hx hb dX1_readOf_25 (by decide) (fun c28 => ?_) (fun c28 => ?_)
    · skip
      have f29 : z8.toInt ≠ 0 := b_neq rfl (by decide) c28
      refine lv_aload_n hx hb dX1_readOf_30 rfl (lv_at hl 0 rfl) ?_
      refine va_get (D := D) (ci := 1) (v := .int (V14 1 8)) (fs := (xfReader ad V14 L15 Z)) (C := RX1) (T := TX1) (N := 9) hx hb hg inX1 hown hK hP 1 xgReader rfl 8 (by decide) (hg _ w312) (fun _ h9 => h9) rfl dX1_readOf_31 ?_
      refine lv_istore_n (lv' := [(2, .int (V14 1 8)), (0, .ref (ad 1)), (1, .int p0)]) hx hb dX1_readOf_34 rfl hl (by decide) rfl (fun ls hl => ?_)
      refine lv_aload_n hx hb dX1_readOf_35 rfl (lv_at hl 1 rfl) ?_
      refine lv_bipush (v := 46) hx hb dX1_readOf_36 (by decide) ?_
      have r30 : Int32.toInt 46 = 46 := by decide
      refine gA_int (gA_runV (As := [.int 46]) (rest := []) (ci := 1) (q0 := 1) hx hb hml hown hg hP hD hK hS hA hnw hgk (x_take2 l D ks H.size ad kk V14 L15 Z 46 (((nx gs 1).1 0)) hMV14 (rl25).1 (rl25).2.1.1 (show 1 ≤ (Int32.toInt 46) from by first | omega | ((try (have i_t12 := Imp.go t12 (by omega))); (try (have i_t11 := Imp.go t11 (by omega))); (try (have i_t11 := Imp.go t11 (by omega))); (try (have i_t12 := Imp.go t12 (by omega))); omega))) w893 w895 w10 w162 w896 rfl xgReader hdV_yX1_take ⟨(by show 1 + 1 ≤ 10 * dd + 11; omega), (by show 8 + (2 + 11) + (21) ≤ 300 * dd + 290; omega)⟩ rfl hl.1 rfl (Nat.le_of_ble_eq_true rfl) dX1_readOf_38 ⟨Nat.le_of_ble_eq_true rfl, Nat.le_of_ble_eq_true rfl⟩) hP hD hK hS hA (fun z31 u32 H locs w33 hP hD hK hS => ?_)
      obtain ⟨V36, L37⟩ := u32
      obtain ⟨hMV36, ajV36, axL37, rgz31, t34, t35⟩ := w33
      have alL37 : agL [6, 44] L L37 := agL.tr alL15 axL37 (by decide)
      have hP : va_P D vwCl (xw ad kk V36 L37 Z) H := hP
      have hD : va_D A (xw ad kk V36 L37 Z) := hD
      have hMV36 : rgd bX V36 := hMV36
      have ajV36 : agr [(1, 3), (6, 8), (6, 9), (6, 10)] [] V14 V36 := ajV36
      have agV36 : agr [(1, 3), (1, 6), (1, 8), (6, 8), (6, 9), (6, 10)] [42, 43, 44, 48] V V36 := agV14.tr ajV36 (by decide) (by decide)
      have rgz31 : 0 ≤ z31.toInt ∧ z31.toInt ≤ 1 := rgz31
      have t34 : Imp (z31.toInt = 0) (1 ≤ (V36 1 3).toInt) := t34
      have t35 : (z31.toInt = 1 ∧ (V14 12 ((nx gs 1).1 0)).toInt = (Int32.toInt 46) ∧ CUR V36 L37 (((nx gs 1).1 0) + 1) ∧ V36 1 3 = V14 1 3) ∨ (z31.toInt = 0 ∧ (V14 12 ((nx gs 1).1 0)).toInt ≠ (Int32.toInt 46) ∧ (V36 1 3).toInt = 1 + 16 * (V14 13 ((nx gs 1).1 0)).toInt) := t35
      rcases t35 with ⟨q38, h39, k40, k41⟩ | ⟨q38, h39, k40⟩
      · skip
        have rl42 : RelC V36 L37 b gT (nx (nx gs 1) 1) := RelC.nx1 rl25 ajV36 (by decide) axL37 (by decide) k40 k41
        have hr43 : ∀ k, Rc gT (Crun gs (Inum 0 (((gs.1 1 : Nat) : Int) - 1) :: Itake 46 :: Imeth :: Itake 40 :: Iexpr (gd + 1) :: Itake 41 :: k)) (Crun (nx (nx gs 1) 1) (Imeth :: Itake 40 :: Iexpr (gd + 1) :: Itake 41 :: k)) := fun k => Rc.go1 (hr26 k) (tk_y (rl25.tok.1.trans (h39.trans (by decide))))
        refine lv_if_eq (tgt := 52) hx hb dX1_readOf_41 (by decide) (fun c44 => ?_) (fun c44 => ?_)
        · skip
          have f45 : z31.toInt = 0 := b_eq rfl (by decide) c44
          exfalso; first | omega | ((try (have i_t34 := Imp.go t34 (by omega))); (try (have i_t12 := Imp.go t12 (by omega))); (try (have i_t11 := Imp.go t11 (by omega))); (try (have i_t11 := Imp.go t11 (by omega))); (try (have i_t12 := Imp.go t12 (by omega))); (try (have i_t34 := Imp.go t34 (by omega))); omega)
        · skip
          have f46 : z31.toInt ≠ 0 := b_neq rfl (by decide) c44
          refine lv_aload_n hx hb dX1_readOf_44 rfl (lv_at hl 1 rfl) ?_
          refine lv_null hx hb dX1_readOf_45 ?_
          have pq47 : (V36 1 1).toInt = ((V 1 1)).toInt := congrArg Int32.toInt ((ajV36 1 1 rfl).trans (ajV14 1 1 rfl))
          refine gA_int (gA_runV (As := [.null]) (rest := []) (ci := 1) (q0 := 1) hx hb hml hown hg hP hD hK hS hA hnw hgk (x_takeMethodN3 l D ks H.size ad kk V36 L37 Z (b) (gT) ((nx (nx gs 1) 1)) hMV36 (show b < 2 from by first | omega | ((try (have i_t34 := Imp.go t34 (by omega))); (try (have i_t12 := Imp.go t12 (by omega))); (try (have i_t11 := Imp.go t11 (by omega))); (try (have i_t11 := Imp.go t11 (by omega))); (try (have i_t12 := Imp.go t12 (by omega))); (try (have i_t34 := Imp.go t34 (by omega))); omega)) (show (V36 1 1).toInt = (b : Int) from by first | omega | ((try (have i_t34 := Imp.go t34 (by omega))); (try (have i_t12 := Imp.go t12 (by omega))); (try (have i_t11 := Imp.go t11 (by omega))); (try (have i_t11 := Imp.go t11 (by omega))); (try (have i_t12 := Imp.go t12 (by omega))); (try (have i_t34 := Imp.go t34 (by omega))); omega)) rl42) w939 w941 w19 w162 w942 rfl xgReader hdV_yX1_takeMethod ⟨(by show 2 + 1 ≤ 10 * dd + 11; omega), (by show 8 + (3 + 11) + (44) ≤ 300 * dd + 290; omega)⟩ rfl hl.1 rfl (Nat.le_of_ble_eq_true rfl) dX1_readOf_46 ⟨Nat.le_of_ble_eq_true rfl, Nat.le_of_ble_eq_true rfl⟩) hP hD hK hS hA (fun z48 u49 H locs w50 hP hD hK hS => ?_)
          obtain ⟨V53, L54⟩ := u49
          obtain ⟨hMV53, ajV53, axL54, rgz48, t51, t52⟩ := w50
          have alL54 : agL [6, 44] L L54 := agL.tr alL37 axL54 (by decide)
          have hP : va_P D vwCl (xw ad kk V53 L54 Z) H := hP
          have hD : va_D A (xw ad kk V53 L54 Z) := hD
          have hMV53 : rgd bX V53 := hMV53
          have ajV53 : agr [(1, 3), (1, 6), (6, 8), (6, 9), (6, 10)] [43, 44] V36 V53 := ajV53
          have agV53 : agr [(1, 3), (1, 6), (1, 8), (6, 8), (6, 9), (6, 10)] [42, 43, 44, 48] V V53 := agV36.tr ajV53 (by decide) (by decide)
          have rgz48 : 0 ≤ z48.toInt ∧ z48.toInt ≤ 1 := rgz48
          have t51 : KcS (mthW gT (nx (nx gs 1) 1) 3) z48.toInt (V53 1 3).toInt (fun x9 => RelC V53 L54 b gT x9.2 ∧ (V53 1 6).toInt = ((x9.1 : Nat) : Int) ∧ x9.1 < 20 ∧ keepS (nx (nx gs 1) 1) 1 x9.2) := t51
          have t52 : ROWL b L37 L54 := t52
          rcases t51 with ⟨q55, mx56, h57, rl58, hf59, hb60, kp61⟩ | ⟨q55, h57⟩
          · skip
            have hr62 : ∀ k, Rc gT (Crun gs (Inum 0 (((gs.1 1 : Nat) : Int) - 1) :: Itake 46 :: Imeth :: Itake 40 :: Iexpr (gd + 1) :: Itake 41 :: k)) (Crun mx56.2 (Itake 40 :: Iexpr (gd + 1) :: Itake 41 :: k)) := fun k => Rc.go1 (hr43 k) (me_y h57)
            refine lv_if_ne (tgt := 54) hx hb dX1_readOf_49 (by decide) (fun c63 => ?_) (fun c63 => ?_)
            · skip
              have f64 : z48.toInt ≠ 0 := b_neq rfl (by decide) c63
              refine lv_aload_n hx hb dX1_readOf_54 rfl (lv_at hl 1 rfl) ?_
              refine va_get (D := D) (ci := 1) (v := .int (V53 1 6)) (fs := (xfReader ad V53 L54 Z)) (C := RX1) (T := TX1) (N := 9) hx hb hg inX1 hown hK hP 1 xgReader rfl 6 (by decide) (hg _ w310) (fun _ h9 => h9) rfl dX1_readOf_55 ?_
              have r65 : (-1) ≤ ((V53 1 6)).toInt ∧ ((V53 1 6)).toInt ≤ 23 := hMV53 1 6
              refine lv_istore_n (lv' := [(3, .int (V53 1 6)), (2, .int (V14 1 8)), (0, .ref (ad 1)), (1, .int p0)]) hx hb dX1_readOf_58 rfl hl (by decide) rfl (fun ls hl => ?_)
              refine lv_aload_n hx hb dX1_readOf_59 rfl (lv_at hl 2 rfl) ?_
              refine lv_iload_n hx hb dX1_readOf_60 rfl (lv_at hl 3 rfl) ?_
              have pq66 : (V53 1 1).toInt = ((V 1 1)).toInt := congrArg Int32.toInt ((ajV53 1 1 rfl).trans ((ajV36 1 1 rfl).trans (ajV14 1 1 rfl)))
              refine gA_int (gA_runV (As := [.int p0]) (rest := []) (ci := 1) (q0 := 1) hx hb hml hown hg hP hD hK hS hA hnw hgk (hk_x_readWithin3 H.size ad kk V53 L54 Z p0 (b) (gT) (mx56.2) (gd) hMV53 (by first | omega | ((try (have i_t34 := Imp.go t34 (by omega))); (try (have i_t12 := Imp.go t12 (by omega))); (try (have i_t11 := Imp.go t11 (by omega))); (try (have i_t11 := Imp.go t11 (by omega))); (try (have i_t12 := Imp.go t12 (by omega))); (try (have i_t34 := Imp.go t34 (by omega))); omega)) (show b < 2 from by first | omega | ((try (have i_t34 := Imp.go t34 (by omega))); (try (have i_t12 := Imp.go t12 (by omega))); (try (have i_t11 := Imp.go t11 (by omega))); (try (have i_t11 := Imp.go t11 (by omega))); (try (have i_t12 := Imp.go t12 (by omega))); (try (have i_t34 := Imp.go t34 (by omega))); omega)) (show (V53 1 1).toInt = (b : Int) from by first | omega | ((try (have i_t34 := Imp.go t34 (by omega))); (try (have i_t12 := Imp.go t12 (by omega))); (try (have i_t11 := Imp.go t11 (by omega))); (try (have i_t11 := Imp.go t11 (by omega))); (try (have i_t12 := Imp.go t12 (by omega))); (try (have i_t34 := Imp.go t34 (by omega))); omega)) rl58 (show p0.toInt = (gd : Int) from by first | omega | ((try (have i_t34 := Imp.go t34 (by omega))); (try (have i_t12 := Imp.go t12 (by omega))); (try (have i_t11 := Imp.go t11 (by omega))); (try (have i_t11 := Imp.go t11 (by omega))); (try (have i_t12 := Imp.go t12 (by omega))); (try (have i_t34 := Imp.go t34 (by omega))); omega)) (((congrArg Int32.toInt ((ajV53 1 4 rfl).trans ((ajV36 1 4 rfl).trans (ajV14 1 4 rfl)))).trans wh).trans (congrArg (fun n9 : Nat => (n9 : Int)) (((keepS.tr (keepS.tr (keepS.tr (keepS.rf : keepS gs 0 gs) (keepS.n1 1)) (keepS.n1 1)) kp61)).2.1 4 (by decide)).symm)) (fun h9 => by rw [((ajV53 1 2 rfl).trans ((ajV36 1 2 rfl).trans (ajV14 1 2 rfl)))]; exact ow ((congrArg Int32.toInt ((ajV53 1 4 rfl).trans ((ajV36 1 4 rfl).trans (ajV14 1 4 rfl)))).symm.trans h9)) (show 7 - p0.toInt ≤ (dd : Int) from by first | omega | ((try (have i_t34 := Imp.go t34 (by omega))); (try (have i_t12 := Imp.go t12 (by omega))); (try (have i_t11 := Imp.go t11 (by omega))); (try (have i_t11 := Imp.go t11 (by omega))); (try (have i_t12 := Imp.go t12 (by omega))); (try (have i_t34 := Imp.go t34 (by omega))); omega))) w995 w997 w30 w162 w998 rfl xgReader hdV_yX1_readWithin ⟨(by show 10 * dd + 10 + 1 ≤ 10 * dd + 11; omega), (by show 8 + (2 + 11) + (300 * dd + 265) ≤ 300 * dd + 290; omega)⟩ rfl hl.1 rfl (Nat.le_of_ble_eq_true rfl) dX1_readOf_61 ⟨Nat.le_of_ble_eq_true rfl, Nat.le_of_ble_eq_true rfl⟩) hP hD hK hS hA (fun z67 u68 H locs w69 hP hD hK hS => ?_)
              obtain ⟨V72, L73⟩ := u68
              obtain ⟨hMV72, ajV72, axL73, rgz67, t70, t71⟩ := w69
              have alL73 : agL [6, 44] L L73 := agL.tr alL54 axL73 (by decide)
              have hP : va_P D vwCl (xw ad kk V72 L73 Z) H := hP
              have hD : va_D A (xw ad kk V72 L73 Z) := hD
              have hMV72 : rgd bX V72 := hMV72
              have ajV72 : agr [(1, 3), (1, 6), (1, 8), (6, 8), (6, 9), (6, 10)] [42, 43, 44, 48] V53 V72 := ajV72
              have agV72 : agr [(1, 3), (1, 6), (1, 8), (6, 8), (6, 9), (6, 10)] [42, 43, 44, 48] V V72 := agV53.tr ajV72 (by decide) (by decide)
              have rgz67 : 0 ≤ z67.toInt ∧ z67.toInt ≤ 1 := rgz67
              have t70 : Rd gT (mx56.2) (fun k => Itake 40 :: Iexpr (gd + 1) :: Itake 41 :: k) (fun k => k) z67.toInt (V72 1 3).toInt (fun s9 => RelC V72 L73 b gT s9 ∧ keepS (mx56.2) 1 s9) := t70
              have t71 : ROWL b L54 L73 := t71
              rcases t70 with ⟨q74, sx75, h76, rl77, kp78⟩ | ⟨q74, h76⟩
              · skip
                have hr79 : ∀ k, Rc gT (Crun gs (Inum 0 (((gs.1 1 : Nat) : Int) - 1) :: Itake 46 :: Imeth :: Itake 40 :: Iexpr (gd + 1) :: Itake 41 :: k)) (Crun sx75 (k)) := fun k => (hr62 k).tr (h76 (k))
                refine lv_if_ne (tgt := 69) hx hb dX1_readOf_64 (by decide) (fun c80 => ?_) (fun c80 => ?_)
                · skip
                  have f81 : z67.toInt ≠ 0 := b_neq rfl (by decide) c80
                  refine lv_aload_n hx hb dX1_readOf_69 rfl (lv_at hl 2 rfl) ?_
                  refine lv_bipush (v := 15) hx hb dX1_readOf_70 (by decide) ?_
                  refine lv_iload_n hx hb dX1_readOf_72 rfl (lv_at hl 1 rfl) ?_
                  refine lv_bipush (v := 20) hx hb dX1_readOf_73 (by decide) ?_
                  refine lv_imul hx hb dX1_readOf_75 ?_
                  refine lv_topi (fun z82 ez82 => ?_)
                  refine lv_iload_n hx hb dX1_readOf_76 rfl (lv_at hl 0 rfl) ?_
                  refine lv_iadd hx hb dX1_readOf_77 ?_
                  have r83 := i_full z82
                  refine lv_topi (fun z84 ez84 => ?_)
                  have hz84 : Imp (-2147483648 ≤ z82.toInt + ((V53 1 6)).toInt ∧ z82.toInt + ((V53 1 6)).toInt ≤ 2147483647) (z84.toInt = z82.toInt + ((V53 1 6)).toInt) := Imp.mk (fun hp => i_add ez84 rfl rfl hp)
                  have r85 : Int32.toInt 15 = 15 := by decide
                  have pq86 : (V72 1 1).toInt = ((V 1 1)).toInt := congrArg Int32.toInt ((ajV72 1 1 rfl).trans ((ajV53 1 1 rfl).trans ((ajV36 1 1 rfl).trans (ajV14 1 1 rfl))))
                  refine gA_int (gA_runV (As := [.int 15, .int z84]) (rest := []) (ci := 1) (q0 := 1) hx hb hml hown hg hP hD hK hS hA hnw hgk (x_put3 l D ks H.size ad kk V72 L73 Z 15 z84 (b) hMV72 (show b < 2 from by first | omega | ((try (have i_hz84 := Imp.go hz84 (by omega))); (try (have i_t34 := Imp.go t34 (by omega))); (try (have i_t12 := Imp.go t12 (by omega))); (try (have i_t11 := Imp.go t11 (by omega))); (try (have i_t11 := Imp.go t11 (by omega))); (try (have i_t12 := Imp.go t12 (by omega))); (try (have i_t34 := Imp.go t34 (by omega))); (try (have i_hz84 := Imp.go hz84 (by omega))); omega)) (show (V72 1 1).toInt = (b : Int) from by first | omega | ((try (have i_hz84 := Imp.go hz84 (by omega))); (try (have i_t34 := Imp.go t34 (by omega))); (try (have i_t12 := Imp.go t12 (by omega))); (try (have i_t11 := Imp.go t11 (by omega))); (try (have i_t11 := Imp.go t11 (by omega))); (try (have i_t12 := Imp.go t12 (by omega))); (try (have i_t34 := Imp.go t34 (by omega))); (try (have i_hz84 := Imp.go hz84 (by omega))); omega))) w975 w977 w26 w162 w978 rfl xgReader hdV_yX1_put ⟨(by show 1 + 1 ≤ 10 * dd + 11; omega), (by show 8 + (3 + 11) + (21) ≤ 300 * dd + 290; omega)⟩ rfl hl.1 rfl (Nat.le_of_ble_eq_true rfl) dX1_readOf_78 ⟨Nat.le_of_ble_eq_true rfl, Nat.le_of_ble_eq_true rfl⟩) hP hD hK hS hA (fun z87 u88 H locs w89 hP hD hK hS => ?_)
                  obtain ⟨V90, L91⟩ := u88
                  obtain ⟨hMV90, ajV90, axL91, rgz87⟩ := w89
                  have axL91 : L73 = L91 := Eq.symm axL91
                  subst axL91
                  have hP : va_P D vwCl (xw ad kk V90 L73 Z) H := hP
                  have hD : va_D A (xw ad kk V90 L73 Z) := hD
                  have hMV90 : rgd bX V90 := hMV90
                  have ajV90 : agr [] [42, 48] V72 V90 := ajV90
                  have agV90 : agr [(1, 3), (1, 6), (1, 8), (6, 8), (6, 9), (6, 10)] [42, 43, 44, 48] V V90 := agV72.tr ajV90 (by decide) (by decide)
                  have rgz87 : 1 ≤ z87.toInt ∧ z87.toInt ≤ 1 := rgz87
                  have rl92 : RelC V90 L73 b gT sx75 := RelC.ag rl77 (show agr [] [42, 48] V72 V90 from (agr.tr agr.rf ajV90 (by decide) (by decide))) (by decide) (show agL [] L73 L73 from agL.rf) (by decide)
                  have rw93 : ROWL b L L73 := (fun k hk => ((t71 k hk).trans ((t52 k hk).trans ((axL37 44 k rfl).trans ((axL15 44 k rfl).trans rfl)))))
                  exact W.zret (v := z87) hx hb hr (nb_ok (by omega)) (fun t ht hW => ⟨⟨z87, (V90, L73), rfl, ⟨hMV90, agV90, alL73, (show 0 ≤ z87.toInt ∧ z87.toInt ≤ 1 from by first | omega | ((try (have i_hz84 := Imp.go hz84 (by omega))); (try (have i_t34 := Imp.go t34 (by omega))); (try (have i_t12 := Imp.go t12 (by omega))); (try (have i_t11 := Imp.go t11 (by omega))); (try (have i_t11 := Imp.go t11 (by omega))); (try (have i_t12 := Imp.go t12 (by omega))); (try (have i_t34 := Imp.go t34 (by omega))); (try (have i_hz84 := Imp.go hz84 (by omega))); omega)), (Or.inl ⟨(by omega), sx75, hr79, rl92, keepS.le (keepS.tr (keepS.tr (keepS.tr (keepS.tr (keepS.rf : keepS gs 0 gs) (keepS.n1 1)) (keepS.n1 1)) kp61) kp78) (by decide)⟩), rw93⟩, by rw [ht]; exact hP, va_K.moved hW.alike hK, hD⟩, hS.F ht⟩) hS.2.2 dX1_readOf_81
                · skip
                  have f94 : z67.toInt = 0 := b_eq rfl (by decide) c80
                  exfalso; first | omega | ((try (have i_t34 := Imp.go t34 (by omega))); (try (have i_t12 := Imp.go t12 (by omega))); (try (have i_t11 := Imp.go t11 (by omega))); (try (have i_t11 := Imp.go t11 (by omega))); (try (have i_t12 := Imp.go t12 (by omega))); (try (have i_t34 := Imp.go t34 (by omega))); omega)
              · skip
                have hb95 : ∀ k, Rc gT (Crun gs (Inum 0 (((gs.1 1 : Nat) : Int) - 1) :: Itake 46 :: Imeth :: Itake 40 :: Iexpr (gd + 1) :: Itake 41 :: k)) (Cbad (V72 1 3).toInt) := fun k => (hr62 k).tr (h76 (k))
                refine lv_if_ne (tgt := 69) hx hb dX1_readOf_64 (by decide) (fun c96 => ?_) (fun c96 => ?_)
                · skip
                  have f97 : z67.toInt ≠ 0 := b_neq rfl (by decide) c96
                  exfalso; first | omega | ((try (have i_t34 := Imp.go t34 (by omega))); (try (have i_t12 := Imp.go t12 (by omega))); (try (have i_t11 := Imp.go t11 (by omega))); (try (have i_t11 := Imp.go t11 (by omega))); (try (have i_t12 := Imp.go t12 (by omega))); (try (have i_t34 := Imp.go t34 (by omega))); omega)
                · skip
                  have f98 : z67.toInt = 0 := b_eq rfl (by decide) c96
                  refine lv_iconst (v := 0) hx hb dX1_readOf_67 (by decide) ?_
                  have rw99 : ROWL b L L73 := (fun k hk => ((t71 k hk).trans ((t52 k hk).trans ((axL37 44 k rfl).trans ((axL15 44 k rfl).trans rfl)))))
                  exact W.zret (v := 0) hx hb hr rfl (fun t ht hW => ⟨⟨0, (V72, L73), rfl, ⟨hMV72, agV72, alL73, (by decide), (Or.inr ⟨rfl, hb95⟩), rw99⟩, by rw [ht]; exact hP, va_K.moved hW.alike hK, hD⟩, hS.F ht⟩) hS.2.2 dX1_readOf_68
            · skip
              have f100 : z48.toInt = 0 := b_eq rfl (by decide) c63
              exfalso; first | omega | ((try (have i_t34 := Imp.go t34 (by omega))); (try (have i_t12 := Imp.go t12 (by omega))); (try (have i_t11 := Imp.go t11 (by omega))); (try (have i_t11 := Imp.go t11 (by omega))); (try (have i_t12 := Imp.go t12 (by omega))); (try (have i_t34 := Imp.go t34 (by omega))); omega)
          · skip
            have hb101 : ∀ k, Rc gT (Crun gs (Inum 0 (((gs.1 1 : Nat) : Int) - 1) :: Itake 46 :: Imeth :: Itake 40 :: Iexpr (gd + 1) :: Itake 41 :: k)) (Cbad (V53 1 3).toInt) := fun k => Rc.go1 (hr43 k) (me_b h57)
            refine lv_if_ne (tgt := 54) hx hb dX1_readOf_49 (by decide) (fun c102 => ?_) (fun c102 => ?_)
            · skip
              have f103 : z48.toInt ≠ 0 := b_neq rfl (by decide) c102
              exfalso; first | omega | ((try (have i_t34 := Imp.go t34 (by omega))); (try (have i_t12 := Imp.go t12 (by omega))); (try (have i_t11 := Imp.go t11 (by omega))); (try (have i_t11 := Imp.go t11 (by omega))); (try (have i_t12 := Imp.go t12 (by omega))); (try (have i_t34 := Imp.go t34 (by omega))); omega)
            · skip
              have f104 : z48.toInt = 0 := b_eq rfl (by decide) c102
              refine lv_iconst (v := 0) hx hb dX1_readOf_52 (by decide) ?_
              have rw105 : ROWL b L L54 := (fun k hk => ((t52 k hk).trans ((axL37 44 k rfl).trans ((axL15 44 k rfl).trans rfl))))
              exact W.zret (v := 0) hx hb hr rfl (fun t ht hW => ⟨⟨0, (V53, L54), rfl, ⟨hMV53, agV53, alL54, (by decide), (Or.inr ⟨rfl, hb101⟩), rw105⟩, by rw [ht]; exact hP, va_K.moved hW.alike hK, hD⟩, hS.F ht⟩) hS.2.2 dX1_readOf_53
      · skip
        have hb106 : ∀ k, Rc gT (Crun gs (Inum 0 (((gs.1 1 : Nat) : Int) - 1) :: Itake 46 :: Imeth :: Itake 40 :: Iexpr (gd + 1) :: Itake 41 :: k)) (Cbad (V36 1 3).toInt) := fun k => Rc.go1 (hr26 k) ((tk_n (fun h9 => h39 (rl25.tok.1.symm.trans (h9.trans (by decide))))).trans (fl_eq rl25.tok.2.2 k40))
        refine lv_if_eq (tgt := 52) hx hb dX1_readOf_41 (by decide) (fun c107 => ?_) (fun c107 => ?_)
        · skip
          have f108 : z31.toInt = 0 := b_eq rfl (by decide) c107
          refine lv_iconst (v := 0) hx hb dX1_readOf_52 (by decide) ?_
          have rw109 : ROWL b L L37 := (fun k hk => ((axL37 44 k rfl).trans ((axL15 44 k rfl).trans rfl)))
          exact W.zret (v := 0) hx hb hr rfl (fun t ht hW => ⟨⟨0, (V36, L37), rfl, ⟨hMV36, agV36, alL37, (by decide), (Or.inr ⟨rfl, hb106⟩), rw109⟩, by rw [ht]; exact hP, va_K.moved hW.alike hK, hD⟩, hS.F ht⟩) hS.2.2 dX1_readOf_53
        · skip
          have f110 : z31.toInt ≠ 0 := b_neq rfl (by decide) c107
          exfalso; first | omega | ((try (have i_t34 := Imp.go t34 (by omega))); (try (have i_t12 := Imp.go t12 (by omega))); (try (have i_t11 := Imp.go t11 (by omega))); (try (have i_t11 := Imp.go t11 (by omega))); (try (have i_t12 := Imp.go t12 (by omega))); (try (have i_t34 := Imp.go t34 (by omega))); omega)
    · skip
      have f111 : z8.toInt = 0 := b_eq rfl (by decide) c28
      exfalso; first | omega | ((try (have i_t12 := Imp.go t12 (by omega))); (try (have i_t11 := Imp.go t11 (by omega))); (try (have i_t11 := Imp.go t11 (by omega))); (try (have i_t12 := Imp.go t12 (by omega))); omega)
  · skip
    have hb112 : ∀ k, Rc gT (Crun gs (Inum 0 (((gs.1 1 : Nat) : Int) - 1) :: Itake 46 :: Imeth :: Itake 40 :: Iexpr (gd + 1) :: Itake 41 :: k)) (Cbad (V14 1 3).toInt) := fun k => Rc.go1 (hr6 k) ((nm_1 (fun h9 => h18 (rel.tok.1.symm.trans h9))).trans (fl_eq rel.tok.2.2 k21))
    refine lv_if_ne (tgt := 30) hx hb dX1_readOf_25 (by decide) (fun c113 => ?_) (fun c113 => ?_)
    · skip
      have f114 : z8.toInt ≠ 0 := b_neq rfl (by decide) c113
      exfalso; first | omega | ((try (have i_t12 := Imp.go t12 (by omega))); (try (have i_t11 := Imp.go t11 (by omega))); (try (have i_t11 := Imp.go t11 (by omega))); (try (have i_t12 := Imp.go t12 (by omega))); omega)
    · skip
      have f115 : z8.toInt = 0 := b_eq rfl (by decide) c113
      refine lv_iconst (v := 0) hx hb dX1_readOf_28 (by decide) ?_
      have rw116 : ROWL b L L15 := (fun k hk => ((axL15 44 k rfl).trans rfl))
      exact W.zret (v := 0) hx hb hr rfl (fun t ht hW => ⟨⟨0, (V14, L15), rfl, ⟨hMV14, agV14, alL15, (by decide), (Or.inr ⟨rfl, hb112⟩), rw116⟩, by rw [ht]; exact hP, va_K.moved hW.alike hK, hD⟩, hS.F ht⟩) hS.2.2 dX1_readOf_29
  · skip
    have hb117 : ∀ k, Rc gT (Crun gs (Inum 0 (((gs.1 1 : Nat) : Int) - 1) :: Itake 46 :: Imeth :: Itake 40 :: Iexpr (gd + 1) :: Itake 41 :: k)) (Cbad (V14 1 3).toInt) := fun k => Rc.go1 (hr6 k) ((nm_4 (rel.tok.1.trans h18) (by omega)).trans (fl_eq rel.tok.2.2 k21))
    refine lv_if_ne (tgt := 30) hx hb dX1_readOf_25 (by decide) (fun c118 => ?_) (fun c118 => ?_)
    · skip
      have f119 : z8.toInt ≠ 0 := b_neq rfl (by decide) c118
      exfalso; first | omega | ((try (have i_t12 := Imp.go t12 (by omega))); (try (have i_t11 := Imp.go t11 (by omega))); (try (have i_t11 := Imp.go t11 (by omega))); (try (have i_t12 := Imp.go t12 (by omega))); omega)
    · skip
      have f120 : z8.toInt = 0 := b_eq rfl (by decide) c118
      refine lv_iconst (v := 0) hx hb dX1_readOf_28 (by decide) ?_
      have rw121 : ROWL b L L15 := (fun k hk => ((axL15 44 k rfl).trans rfl))
      exact W.zret (v := 0) hx hb hr rfl (fun t ht hW => ⟨⟨0, (V14, L15), rfl, ⟨hMV14, agV14, alL15, (by decide), (Or.inr ⟨rfl, hb117⟩), rw121⟩, by rw [ht]; exact hP, va_K.moved hW.alike hK, hD⟩, hS.F ht⟩) hS.2.2 dX1_readOf_29
theorem K_xpart3 {l : Launch} {D : va_G} {ks : KS} : ∀ dd, K_x_readPart3 l D ks dd
  | 0 => x_readPart3 (fun d9 h => absurd h (by omega)) (fun d9 h => absurd h (by omega)) (fun d9 h => absurd h (by omega)) (fun d9 h => absurd h (by omega)) (fun d9 h => absurd h (by omega))
  | d + 1 => by
    have k1 := K_xpart3 (l := l) (D := D) (ks := ks) d
    have k4 := x_readExpression3 (x_readSum3 (x_readProduct3 k1))
    have kw := x_readWithin3 k4
    refine x_readPart3 (fun d9 h => ?_) (fun d9 h => ?_) (fun d9 h => ?_) (fun d9 h => ?_) (fun d9 h => ?_)
    all_goals (have e : d9 = d := by omega)
    all_goals subst e
    · exact k4
    · exact k1
    · exact x_readPick3 k4
    · exact x_readOf3 kw
    · exact kw
theorem K_xexpr3 {l : Launch} {D : va_G} {ks : KS} (dd : Nat) : K_x_readExpression3 l D ks dd := x_readExpression3 (x_readSum3 (x_readProduct3 (K_xpart3 dd)))
