/-! how many bits: in blocks of eight -/
theorem blk_and {a m r M : Nat} (ha : a < 256) (hm : m < 256) : (a + 256 * r) &&& (m + 256 * M) = (a &&& m) + 256 * (r &&& M) := by
  have e : ∀ (u v : Nat), u < 256 → ∀ i, (u + 256 * v).testBit i = if i < 8 then u.testBit i else v.testBit (i - 8) := fun u v hu i => by
    rw [Nat.add_comm, show (256 : Nat) = 2 ^ 8 from rfl]
    exact Nat.testBit_two_pow_mul_add v hu i
  have ham : a &&& m < 256 := Nat.lt_of_le_of_lt Nat.and_le_left ha
  apply Nat.eq_of_testBit_eq
  intro i
  rw [Nat.testBit_and, e a r ha, e m M hm, e _ _ ham]
  split
  · rw [Nat.testBit_and]
  · rw [Nat.testBit_and]
theorem pc_1 : ∀ a, a < 256 → ∀ c, c < 2 → (a / 2 + 128 * c) &&& 85 = (a / 2) &&& 85 := by decide +kernel
def pcb (a : Nat) : Nat := ((List.range 8).filter (fun i => a.testBit i)).length
def pq1 (a : Nat) : Nat := a - (a / 2 &&& 85)
def pq2 (a : Nat) : Nat := (pq1 a &&& 51) + (pq1 a / 4 &&& 51)
def pq3 (a : Nat) : Nat := (pq2 a + pq2 a / 16) &&& 15
theorem pc_b : ∀ a, a < 256 → pq3 a = pcb a := by decide +kernel
theorem pc_q1 : ∀ a, a < 256 → (a / 2 &&& 85) ≤ a ∧ pq1 a < 256 := by decide +kernel
theorem pc_q2 : ∀ a, a < 256 → pq2 a < 69 ∧ pq2 a % 16 ≤ 4 ∧ pcb a ≤ 8 := by decide +kernel
theorem pc_2 : ∀ a, a < 256 → ∀ c, c < 4 → (a / 4 + 64 * c) &&& 51 = (a / 4) &&& 51 := by decide +kernel
theorem pc_3 : ∀ a, a < 69 → ∀ c, c < 5 → (a + a / 16 + 16 * c) &&& 15 = (a + a / 16) &&& 15 := by decide +kernel
section POP
variable {a b c : Nat}
theorem pop_1 (ha : a < 256) (hb : b < 256) (hc : c < 256) : (a + 256 * (b + 256 * c)) / 2 &&& 1431655765 = (a / 2 &&& 85) + 256 * ((b / 2 &&& 85) + 256 * (c / 2 &&& 85)) := by
  rw [show (a + 256 * (b + 256 * c)) / 2 = (a / 2 + 128 * (b % 2)) + 256 * ((b / 2 + 128 * (c % 2)) + 256 * (c / 2 + 256 * 0)) from by omega, show (1431655765 : Nat) = 85 + 256 * (85 + 256 * (85 + 256 * 85)) from rfl, blk_and (by omega) (by decide), blk_and (by omega) (by decide), blk_and (by omega) (by decide), Nat.zero_and, Nat.mul_zero, Nat.add_zero, pc_1 a ha _ (by omega), pc_1 b hb _ (by omega)]
theorem pop_2a (ha : a < 256) (hb : b < 256) (hc : c < 256) : (a + 256 * (b + 256 * c)) &&& 858993459 = (a &&& 51) + 256 * ((b &&& 51) + 256 * (c &&& 51)) := by
  rw [show a + 256 * (b + 256 * c) = a + 256 * (b + 256 * (c + 256 * 0)) from by omega, show (858993459 : Nat) = 51 + 256 * (51 + 256 * (51 + 256 * 51)) from rfl, blk_and ha (by decide), blk_and hb (by decide), blk_and hc (by decide), Nat.zero_and, Nat.mul_zero, Nat.add_zero]
theorem pop_2b (ha : a < 256) (hb : b < 256) (hc : c < 256) : (a + 256 * (b + 256 * c)) / 4 &&& 858993459 = (a / 4 &&& 51) + 256 * ((b / 4 &&& 51) + 256 * (c / 4 &&& 51)) := by
  rw [show (a + 256 * (b + 256 * c)) / 4 = (a / 4 + 64 * (b % 4)) + 256 * ((b / 4 + 64 * (c % 4)) + 256 * (c / 4 + 256 * 0)) from by omega, show (858993459 : Nat) = 51 + 256 * (51 + 256 * (51 + 256 * 51)) from rfl, blk_and (by omega) (by decide), blk_and (by omega) (by decide), blk_and (by omega) (by decide), Nat.zero_and, Nat.mul_zero, Nat.add_zero, pc_2 a ha _ (by omega), pc_2 b hb _ (by omega)]
theorem pop_3 (ha : a < 69 ∧ a % 16 ≤ 4) (hb : b < 69 ∧ b % 16 ≤ 4) (hc : c < 69 ∧ c % 16 ≤ 4) : (a + 256 * (b + 256 * c)) + (a + 256 * (b + 256 * c)) / 16 &&& 252645135 = ((a + a / 16) &&& 15) + 256 * (((b + b / 16) &&& 15) + 256 * ((c + c / 16) &&& 15)) := by
  rw [show (a + 256 * (b + 256 * c)) + (a + 256 * (b + 256 * c)) / 16 = (a + a / 16 + 16 * (b % 16)) + 256 * ((b + b / 16 + 16 * (c % 16)) + 256 * (c + c / 16 + 256 * 0)) from by omega, show (252645135 : Nat) = 15 + 256 * (15 + 256 * (15 + 256 * 15)) from rfl, blk_and (by omega) (by decide), blk_and (by omega) (by decide), blk_and (by omega) (by decide), Nat.zero_and, Nat.mul_zero, Nat.add_zero, pc_3 a ha.1 _ (by omega), pc_3 b hb.1 _ (by omega)]
/-- JDK's steps, in Nat -/
def popN (x : Nat) : Nat :=
  let y := x - (x / 2 &&& 1431655765)
  let z := (y &&& 858993459) + (y / 4 &&& 858993459)
  let u := (z + z / 16) &&& 252645135
  let v := u + u / 256
  (v + v / 65536) &&& 63
theorem popN_b (ha : a < 256) (hb : b < 256) (hc : c < 256) : popN (a + 256 * (b + 256 * c)) = pcb a + pcb b + pcb c := by
  have a1 := pc_q1 a ha
  have b1 := pc_q1 b hb
  have c1 := pc_q1 c hc
  have a2 := pc_q2 a ha
  have b2 := pc_q2 b hb
  have c2 := pc_q2 c hc
  have e1 : (a + 256 * (b + 256 * c)) - ((a + 256 * (b + 256 * c)) / 2 &&& 1431655765) = pq1 a + 256 * (pq1 b + 256 * pq1 c) := by
    rw [pop_1 ha hb hc]
    unfold pq1
    omega
  have e2 : ((pq1 a + 256 * (pq1 b + 256 * pq1 c)) &&& 858993459) + ((pq1 a + 256 * (pq1 b + 256 * pq1 c)) / 4 &&& 858993459) = pq2 a + 256 * (pq2 b + 256 * pq2 c) := by
    rw [pop_2a a1.2 b1.2 c1.2, pop_2b a1.2 b1.2 c1.2]
    unfold pq2
    omega
  have e3 : ((pq2 a + 256 * (pq2 b + 256 * pq2 c)) + (pq2 a + 256 * (pq2 b + 256 * pq2 c)) / 16) &&& 252645135 = pcb a + 256 * (pcb b + 256 * pcb c) := by
    rw [pop_3 ⟨a2.1, a2.2.1⟩ ⟨b2.1, b2.2.1⟩ ⟨c2.1, c2.2.1⟩, ← pc_b a ha, ← pc_b b hb, ← pc_b c hc]
    rfl
  unfold popN
  simp only [e1, e2, e3]
  have e4 : (pcb a + 256 * (pcb b + 256 * pcb c)) + (pcb a + 256 * (pcb b + 256 * pcb c)) / 256 + ((pcb a + 256 * (pcb b + 256 * pcb c)) + (pcb a + 256 * (pcb b + 256 * pcb c)) / 256) / 65536 = (pcb a + pcb b + pcb c) + 256 * (pcb b + pcb c + 256 * pcb c) := by omega
  rw [e4, show (63 : Nat) = 63 + 256 * 0 from rfl, blk_and (by omega) (by decide), Nat.and_zero, Nat.mul_zero, Nat.add_zero, show (63 : Nat) = 2 ^ 6 - 1 from rfl, Nat.and_two_pow_sub_one_eq_mod]
  omega
end POP
