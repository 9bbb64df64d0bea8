theorem tg9 {h k s a b c : Nat} (y : h ≤ k + (b - c)) (q : k ≤ s + (a - b)) (h1 : c ≤ b) (h2 : b ≤ a) : h ≤ s + (a - c) := by omega
/-! counts of what was made may be lowered where the heap says so -/
def tot (H : Heap) : Nat := H.foldl (fun n c => n + c.slots.size) 0
section TI
variable {p : Program} {l : Launch} {e : Env} {R : Room} {s : State} {m : MethodId} {args : Array Value} {below : List Frame} {meth : Method} {c : Code} {H : Heap} {locs : List Loc} {cells slots : Nat} {Q : State → Prop}
theorem stand_tots {T : State} (X : Stand p l e R s m args below meth c T locs cells slots) : T.slotsUsed = tot T.heap ∧ s.slotsUsed = tot s.heap := by
  have h1 : T.slotsTrue = true := X.book
  have h2 : s.slotsTrue = true := by
    have h := X.room
    simp only [State.hasRoom, Bool.and_eq_true] at h
    exact h.2
  exact ⟨eq_of_beq h1, eq_of_beq h2⟩
theorem W.know {g : JFrame} (kk : H.size ≤ s.heap.size + cells → tot H ≤ tot s.heap + slots → W p l e R s m args below meth c H locs cells slots Q g) : W p l e R s m args below meth c H locs cells slots Q g := by
  intro T hT X
  have t := stand_tots X
  have u := X.used
  have z := X.heapSize
  rw [t.1, t.2, hT] at u
  rw [hT] at z
  exact kk z u T hT X
theorem W.tight {g : JFrame} {k n : Nat} (h1 : H.size ≤ s.heap.size + k) (h2 : tot H ≤ tot s.heap + n) (kk : W p l e R s m args below meth c H locs k n Q g) : W p l e R s m args below meth c H locs cells slots Q g := by
  intro T hT X
  refine kk T hT { X with same := ?_ }
  have t := stand_tots X
  obtain ⟨a1, a2, a3, a4, a5, a6⟩ := X.same
  refine ⟨a1, a2, ?_, a4, ?_, a6⟩
  · show T.heap.size ≤ s.heap.size + k
    rw [hT]
    exact h1
  · have a4' : T.slotsUsed = s.slotsUsed + _ := a4
    rw [t.1, t.2, hT] at a4'
    omega
end TI
/-! a frame more -/
def frz (V : Vf) (n : Nat) : Vf := fun c k => if (67 ≤ c ∧ c ≤ 85) ∧ k = n then 0 else V c k
def XZ.more (Z : XZ) (q : Nat) : XZ := (fun i => if i = Z.nf then q else Z.fa i, Z.nf + 1, Z.2.2)
theorem frz_lo {V : Vf} {n c : Nat} (h : ¬ (67 ≤ c ∧ c ≤ 85)) : frz V n c = V c := by
  funext k
  unfold frz
  rw [if_neg (fun a => h a.1)]
theorem frz_k {V : Vf} {n c k : Nat} (h : k ≠ n) : frz V n c k = V c k := by
  unfold frz
  rw [if_neg (fun a => h a.2)]



