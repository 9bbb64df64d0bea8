/-! settingValues may change -/
def BS (V W : Vf) : Prop := ∀ c k : Nat, 41 ≤ c → c ≤ 66 → c ≠ 46 ∧ c ≠ 44 → W c k = V c k
theorem BS.p0 {V W : Vf} {b : Nat} (h : BS V W) : p0x V W b := ⟨by rw [h 42 b (by decide) (by decide) (by decide)]; exact Int.le_refl _, fun k _ => h 48 _ (by decide) (by decide) (by decide)⟩
theorem BS.bd {V W : Vf} {b : Nat} (h : BS V W) (p : Nat) : bdp W b p = bdp V b p := bd_ext p (fun k _ => h 48 _ (by decide) (by decide) (by decide))
theorem TX.bs {V W : Vf} {b : Nat} (h : TX V b) (e : BS V W) : TX W b := by
  refine ⟨fun c hc => ?_, fun w hw => ?_, fun x hx => ?_⟩
  · rw [e 43 _ (by decide) (by decide) (by decide)] at hc
    have z := h.1 c hc
    rw [e 56 _ (by decide) (by decide) (by decide), e 57 _ (by decide) (by decide) (by decide)]
    refine ⟨z.1.up e.p0, z.2.1.up e.p0, fun m hm => ?_⟩
    rw [e 61 _ (by decide) (by decide) (by decide)]
    exact (z.2.2 m hm).up e.p0
  · rw [e 41 _ (by decide) (by decide) (by decide)] at hw
    rw [e 66 _ (by decide) (by decide) (by decide)]
    exact (h.2.1 w hw).up e.p0
  · rw [e 41 _ (by decide) (by decide) (by decide)] at hx ⊢
    rw [e 47 _ (by decide) (by decide) (by decide)]
    exact h.2.2 x hx
theorem CD.bs {V W : Vf} {b : Nat} (h : CD V b) (e : BS V W) : CD W b := by
  have e42 := e 42 b (by decide) (by decide) (by decide)
  have e48 : ∀ k, W 48 k = V 48 k := fun k => e 48 k (by decide) (by decide) (by decide)
  have eo : ∀ x y, okO V b x y → okO W b x y := fun x y z => by
    unfold okO at z ⊢
    rw [e42]
    first | exact z | (simp only [e.bd]; exact z)
  refine ⟨⟨?_, ?_⟩, ?_⟩
  · rw [e42, e.bd]
    exact h.1.1
  · intro p hp hb
    rw [e42] at hp
    rw [e.bd] at hb
    rw [e48, e48]
    exact eo _ _ (h.1.2 p hp hb)
  · intro p hp hb
    rw [e42] at hp
    rw [e.bd] at hb
    rw [e48]
    exact h.2 p hp hb
def hrs (fs : List (Nat × Nat)) (cs : List Nat) : Bool := fs.all (fun y => decide (y.1 ≤ 6) && !([(3, 13), (3, 15), (5, 5)].contains y)) && cs.all (fun c => decide (c = 46))
theorem hrs_no {fs : List (Nat × Nat)} {cs : List Nat} (q : hrs fs cs = true) {c k : Nat} (h : c ≠ 46) (h2 : 7 ≤ c ∨ (c, k) = (3, 13) ∨ (c, k) = (3, 15) ∨ (c, k) = (5, 5)) : wrL fs cs c k = false := by
  unfold hrs at q
  rw [Bool.and_eq_true, List.all_eq_true, List.all_eq_true] at q
  unfold wrL
  rw [Bool.or_eq_false_iff]
  refine ⟨?_, ?_⟩
  · rw [← Bool.not_eq_true]
    intro z
    have y := q.1 _ (List.contains_iff_mem.mp z)
    rw [Bool.and_eq_true] at y
    have y1 : c ≤ 6 := of_decide_eq_true y.1
    have y2 := y.2
    rcases h2 with h | h | h | h
    · omega
    all_goals (rw [h] at y2; exact absurd y2 (by decide))
  · rw [← Bool.not_eq_true]
    intro z
    exact h (of_decide_eq_true (q.2 _ (List.contains_iff_mem.mp z)))
theorem HI.st {fs : List (Nat × Nat)} {cs : List Nat} {V W : Vf} {Z : XZ} {b : Nat} (h : HI V Z b) (a : agr fs cs V W) (q : hrs fs cs = true) : HI W Z b := by
  have hB : BS V W := fun c k a1 a2 a3 => a c k (hrs_no q a3.1 (Or.inl (by omega)))
  have o : ∀ c k, c ≠ 46 → 7 ≤ c → W c k = V c k := fun c k a1 a2 => a c k (hrs_no q a1 (Or.inl a2))
  have e13 : W 3 13 = V 3 13 := a _ _ (hrs_no q (by decide) (by simp))
  have e15 : W 3 15 = V 3 15 := a _ _ (hrs_no q (by decide) (by simp))
  have e5 : W 5 5 = V 5 5 := a _ _ (hrs_no q (by decide) (by simp))
  have e43 := hB 43 (5 * b + 2) (by decide) (by decide) (by decide)
  refine ⟨?_, h.2.1, ?_, by rw [e13, e15]; exact h.2.2.2.1, by rw [e13, e15, o 44 0 (by decide) (by decide)]; exact h.2.2.2.2.1, h.2.2.2.2.2.1.bs hB, h.2.2.2.2.2.2.1.bs hB, by rw [e5]; exact h.2.2.2.2.2.2.2.1, h.2.2.2.2.2.2.2.2.1, ?_⟩
  · unfold SL
    rw [e15, e13]
    exact ⟨h.1.1, h.1.2.1, fun o' k a1 a2 => by rw [o 30 _ (by decide) (by decide)]; exact h.1.2.2.1 o' k a1 a2, fun i a1 => by rw [o 32 _ (by decide) (by decide)]; exact h.1.2.2.2 i a1⟩
  · intro o' ho
    rw [e13] at ho
    rw [o 26 _ (by decide) (by decide), e43]
    exact h.2.2.1 o' ho
  · intro k hk
    rw [o 25 _ (by decide) (by decide), e13]
    refine ⟨(h.2.2.2.2.2.2.2.2.2 k hk).1, fun o' h1 => ?_⟩
    rw [o 26 _ (by decide) (by decide)]
    exact (h.2.2.2.2.2.2.2.2.2 k hk).2 o' h1



