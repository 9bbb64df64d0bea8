/-! the Machine: what a run keeps -/
def BE (V W : Vf) : Prop := ∀ c k : Nat, 41 ≤ c → c ≤ 66 → W c k = V c k
theorem BE.p0 {V W : Vf} {b : Nat} (h : BE V W) : p0x V W b := ⟨by rw [h 42 b (by decide) (by decide)]; exact Int.le_refl _, fun k _ => h 48 _ (by decide) (by decide)⟩
theorem BE.bd {V W : Vf} {b : Nat} (h : BE V W) (p : Nat) : bdp W b p = bdp V b p := bd_ext p (fun k _ => h 48 _ (by decide) (by decide))
theorem TX.be {V W : Vf} {b : Nat} (h : TX V b) (e : BE V W) : TX W b := by
  refine ⟨fun c hc => ?_, fun w hw => ?_, fun x hx => ?_⟩
  · rw [e 43 _ (by decide) (by decide)] at hc
    have z := h.1 c hc
    rw [e 56 _ (by decide) (by decide), e 57 _ (by decide) (by decide)]
    refine ⟨z.1.up e.p0, z.2.1.up e.p0, fun m hm => ?_⟩
    rw [e 61 _ (by decide) (by decide)]
    exact (z.2.2 m hm).up e.p0
  · rw [e 41 _ (by decide) (by decide)] at hw
    rw [e 66 _ (by decide) (by decide)]
    exact (h.2.1 w hw).up e.p0
  · rw [e 41 _ (by decide) (by decide)] at hx ⊢
    rw [e 47 _ (by decide) (by decide)]
    exact h.2.2 x hx
theorem CD.be {V W : Vf} {b : Nat} (h : CD V b) (e : BE V W) : CD W b := by
  have e42 := e 42 b (by decide) (by decide)
  have e48 : ∀ k, W 48 k = V 48 k := fun k => e 48 k (by decide) (by decide)
  have eo : ∀ x y, okO V b x y → okO W b x y := fun x y z => by
    unfold okO at z ⊢
    rw [e42]
    first | exact z | (simp only [e.bd]; exact z)
  refine ⟨⟨?_, ?_⟩, ?_⟩
  · rw [e42, e.bd]
    exact h.1.1
  · intro p hp hb
    rw [e42] at hp
    rw [e.bd] at hb
    rw [e48, e48]
    exact eo _ _ (h.1.2 p hp hb)
  · intro p hp hb
    rw [e42] at hp
    rw [e.bd] at hb
    rw [e48]
    exact h.2 p hp hb
def sm (g : Nat → Nat) : Nat → Nat
  | 0 => 0
  | n + 1 => sm g n + g n
theorem sm_ext {g f : Nat → Nat} : ∀ n, (∀ k, k < n → f k = g k) → sm f n = sm g n
  | 0, _ => rfl
  | n + 1, h => by
    show sm f n + f n = sm g n + g n
    rw [sm_ext n (fun k hk => h k (by omega)), h n (by omega)]
/-- a late need that waits; the answer is an object whose component is not made anew -/
def W7 (V : Vf) (i : Nat) : Prop := (V 67 i).toInt = 4 ∧ (V 68 i).toInt = 7
def NN (V : Vf) (b : Nat) : Prop := ∃ o : Nat, (V 5 10).toInt = (o : Int) ∧ (o : Int) < (V 3 13).toInt ∧ (V 51 (24 * b + Int32.toNatClampNeg (V 26 o))).toInt ≠ 3
def QN (V : Vf) (b : Nat) : Prop := (V 5 9).toInt = 1 ∧ ¬ NN V b
def PT (V : Vf) : Prop := ∀ k : Nat, k < 960 → (V 25 k).toInt < (V 3 13).toInt ∧ ∀ o : Nat, (V 25 k).toInt = (o : Int) → (V 26 o).toInt = ((k % 24 : Nat) : Int)
theorem QN.eq {V W : Vf} {b : Nat} (e9 : W 5 9 = V 5 9) (e10 : W 5 10 = V 5 10) (e13 : W 3 13 = V 3 13) (e26 : ∀ k, W 26 k = V 26 k) (eB : BE V W) (h : QN W b) : QN V b := by
  refine ⟨by rw [← e9]; exact h.1, fun n => h.2 ?_⟩
  obtain ⟨o, a1, a2, a3⟩ := n
  exact ⟨o, by rw [e10]; exact a1, by rw [e13]; exact a2, by rw [e26, eB 51 _ (by decide) (by decide)]; exact a3⟩
/-- a frame's row; x: how many links it may still make -/
def FK (V : Vf) (b : Nat) (x : Nat) (i : Nat) (w v : Prop) : Prop :=
  ((V 67 i).toInt ≠ 0 → 0 ≤ (V 71 i).toInt ∧ (V 71 i).toInt < (V 43 (5 * b + 2)).toInt) ∧
  ((V 67 i).toInt ≠ 0 → ¬ ((V 67 i).toInt = 2 ∧ (V 68 i).toInt = 0) → 0 ≤ (V 70 i).toInt ∧ (V 70 i).toInt < (V 3 13).toInt) ∧
  ((V 67 i).toInt = 4 → (V 42 b).toInt ≤ (V 84 i).toInt ∨ (bdp V b (V 84 i).toInt.toNat).1 = true) ∧
  ((V 67 i).toInt = 4 → ((V 68 i).toInt = 6 ∨ (V 68 i).toInt = 7) → (V 75 i).toInt ≤ 7) ∧
  ((V 67 i).toInt = 1 → 0 ≤ (V 76 i).toInt ∧ (V 76 i).toInt ≤ 25 ∧ (V 75 i).toInt ≤ 8) ∧
  ((V 67 i).toInt = 1 → 1 ≤ (x : Int) ∧ ((V 68 i).toInt ≠ 1 → 25 * (8 - (V 75 i).toInt) - (V 76 i).toInt + 1 ≤ (x : Int) ∧ (w → (V 75 i).toInt ≤ 7 ∧ 25 * (8 - (V 75 i).toInt) - (V 76 i).toInt + 2 ≤ (x : Int)))) ∧
  ((V 67 i).toInt = 0 → (V 80 i).toInt ≤ (V 5 8).toInt) ∧
  ((V 67 i).toInt = 2 → (V 68 i).toInt = 0 ∨ (V 68 i).toInt = 1 ∨ (V 75 i).toInt ≤ (V 41 b).toInt) ∧
  ((V 67 i).toInt = 3 → (V 68 i).toInt = 0 ∨ (V 68 i).toInt = 1 ∨ (V 68 i).toInt = 4 ∨ (V 75 i).toInt ≤ (V 41 b).toInt) ∧
  ((V 67 i).toInt = 4 → (V 68 i).toInt = 7 → v → 1 ≤ x)
/-- of which rows a late need that waits has a credit -/
def vI (V : Vf) (n : Nat) (v u : Prop) (i : Nat) : Prop := (i + 1 < n ∧ (i + 2 = n → (V 67 (n - 1)).toInt ≠ 0 ∨ u)) ∨ (i + 1 = n ∧ v)
def LN (n : Nat) : Prop := n = 512 ∨ n = 1024 ∨ n = 2048 ∨ n = 4096 ∨ n = 8192 ∨ n = 16384 ∨ n = 32768 ∨ n = 65536 ∨ n = 131072 ∨ n = 262144
def MI (V : Vf) (Z : XZ) (b : Nat) (g : Nat → Nat) (n r : Nat) (w v u : Prop) : Prop :=
  (SL V Z) ∧
  (Z.nf ≤ 400) ∧
  (n ≤ Z.nf) ∧
  (0 < (V 43 (5 * b + 2)).toInt) ∧
  (∀ o : Nat, (o : Int) < (V 3 13).toInt → (V 26 o).toInt < (V 43 (5 * b + 2)).toInt) ∧
  (∀ i : Nat, (i : Int) < (V 5 8).toInt → (V 40 i).toInt < (V 3 13).toInt) ∧
  (∀ i j : Nat, i < j → j < n → (V 67 i).toInt = 0 → (V 67 j).toInt = 0 → (V 80 i).toInt ≤ (V 80 j).toInt) ∧
  (∀ i, i < n → FK V b (g i) i (i + 1 < n ∨ w) (vI V n v u i)) ∧
  ((0 ≤ (V 3 13).toInt ∧ (V 3 13).toInt ≤ 300) ∧ 0 ≤ (V 3 15).toInt ∧ 0 ≤ (V 5 8).toInt) ∧
  ((V 3 15).toInt + (V 5 8).toInt + (sm g n + r : Nat) + 203 * (300 - (V 3 13).toInt) ≤ (V 44 0).toInt ∧ (V 44 0).toInt ≤ 250000) ∧
  (TX V b) ∧
  (CD V b) ∧
  ((V 5 5).toInt = (b : Int)) ∧
  (LN Z.ln) ∧
  (PT V)
theorem MI.sl {V : Vf} {Z : XZ} {b : Nat} {g : Nat → Nat} {n r : Nat} {w v u : Prop} (h : MI V Z b g n r w v u) : SL V Z := h.1
theorem MI.nf {V : Vf} {Z : XZ} {b : Nat} {g : Nat → Nat} {n r : Nat} {w v u : Prop} (h : MI V Z b g n r w v u) : Z.nf ≤ 400 := h.2.1
theorem MI.dn {V : Vf} {Z : XZ} {b : Nat} {g : Nat → Nat} {n r : Nat} {w v u : Prop} (h : MI V Z b g n r w v u) : n ≤ Z.nf := h.2.2.1
theorem MI.sz {V : Vf} {Z : XZ} {b : Nat} {g : Nat → Nat} {n r : Nat} {w v u : Prop} (h : MI V Z b g n r w v u) : 0 < (V 43 (5 * b + 2)).toInt := h.2.2.2.1
theorem MI.oc {V : Vf} {Z : XZ} {b : Nat} {g : Nat → Nat} {n r : Nat} {w v u : Prop} (h : MI V Z b g n r w v u) : ∀ o : Nat, (o : Int) < (V 3 13).toInt → (V 26 o).toInt < (V 43 (5 * b + 2)).toInt := h.2.2.2.2.1
theorem MI.md {V : Vf} {Z : XZ} {b : Nat} {g : Nat → Nat} {n r : Nat} {w v u : Prop} (h : MI V Z b g n r w v u) : ∀ i : Nat, (i : Int) < (V 5 8).toInt → (V 40 i).toInt < (V 3 13).toInt := h.2.2.2.2.2.1
theorem MI.mk2 {V : Vf} {Z : XZ} {b : Nat} {g : Nat → Nat} {n r : Nat} {w v u : Prop} (h : MI V Z b g n r w v u) : ∀ i j : Nat, i < j → j < n → (V 67 i).toInt = 0 → (V 67 j).toInt = 0 → (V 80 i).toInt ≤ (V 80 j).toInt := h.2.2.2.2.2.2.1
theorem MI.fk {V : Vf} {Z : XZ} {b : Nat} {g : Nat → Nat} {n r : Nat} {w v u : Prop} (h : MI V Z b g n r w v u) : ∀ i, i < n → FK V b (g i) i (i + 1 < n ∨ w) (vI V n v u i) := h.2.2.2.2.2.2.2.1
theorem MI.o0 {V : Vf} {Z : XZ} {b : Nat} {g : Nat → Nat} {n r : Nat} {w v u : Prop} (h : MI V Z b g n r w v u) : (0 ≤ (V 3 13).toInt ∧ (V 3 13).toInt ≤ 300) ∧ 0 ≤ (V 3 15).toInt ∧ 0 ≤ (V 5 8).toInt := h.2.2.2.2.2.2.2.2.1
theorem MI.pot {V : Vf} {Z : XZ} {b : Nat} {g : Nat → Nat} {n r : Nat} {w v u : Prop} (h : MI V Z b g n r w v u) : (V 3 15).toInt + (V 5 8).toInt + (sm g n + r : Nat) + 203 * (300 - (V 3 13).toInt) ≤ (V 44 0).toInt ∧ (V 44 0).toInt ≤ 250000 := h.2.2.2.2.2.2.2.2.2.1
theorem MI.tx {V : Vf} {Z : XZ} {b : Nat} {g : Nat → Nat} {n r : Nat} {w v u : Prop} (h : MI V Z b g n r w v u) : TX V b := h.2.2.2.2.2.2.2.2.2.2.1
theorem MI.cd {V : Vf} {Z : XZ} {b : Nat} {g : Nat → Nat} {n r : Nat} {w v u : Prop} (h : MI V Z b g n r w v u) : CD V b := h.2.2.2.2.2.2.2.2.2.2.2.1
theorem MI.mb {V : Vf} {Z : XZ} {b : Nat} {g : Nat → Nat} {n r : Nat} {w v u : Prop} (h : MI V Z b g n r w v u) : (V 5 5).toInt = (b : Int) := h.2.2.2.2.2.2.2.2.2.2.2.2.1
theorem MI.ln {V : Vf} {Z : XZ} {b : Nat} {g : Nat → Nat} {n r : Nat} {w v u : Prop} (h : MI V Z b g n r w v u) : LN Z.ln := h.2.2.2.2.2.2.2.2.2.2.2.2.2.1
theorem MI.pt {V : Vf} {Z : XZ} {b : Nat} {g : Nat → Nat} {n r : Nat} {w v u : Prop} (h : MI V Z b g n r w v u) : PT V := h.2.2.2.2.2.2.2.2.2.2.2.2.2.2
/-- what does not matter to it has changed -/
def ME (V W : Vf) (n : Nat) : Prop := BE V W ∧ (∀ c k : Nat, 67 ≤ c → c ≤ 85 → k < n → W c k = V c k) ∧ (W 3 13 = V 3 13 ∧ W 3 15 = V 3 15 ∧ W 5 5 = V 5 5 ∧ W 5 8 = V 5 8) ∧ (∀ k, W 26 k = V 26 k) ∧ (∀ k, W 30 k = V 30 k) ∧ (∀ k, W 32 k = V 32 k) ∧ (∀ k, W 40 k = V 40 k) ∧ (∀ k, W 25 k = V 25 k ∨ (W 25 k).toInt = -1)
theorem ME.rf {V : Vf} {n : Nat} : ME V V n := ⟨fun _ _ _ _ => rfl, fun _ _ _ _ _ => rfl, ⟨rfl, rfl, rfl, rfl⟩, fun _ => rfl, fun _ => rfl, fun _ => rfl, fun _ => rfl, fun _ => Or.inl rfl⟩
theorem ME.tr {V W X : Vf} {n : Nat} (h : ME V W n) (k : ME W X n) : ME V X n :=
  ⟨fun c i a q => (k.1 c i a q).trans (h.1 c i a q), fun c i a q z => (k.2.1 c i a q z).trans (h.2.1 c i a q z), ⟨k.2.2.1.1.trans h.2.2.1.1, k.2.2.1.2.1.trans h.2.2.1.2.1, k.2.2.1.2.2.1.trans h.2.2.1.2.2.1, k.2.2.1.2.2.2.trans h.2.2.1.2.2.2⟩, fun i => (k.2.2.2.1 i).trans (h.2.2.2.1 i), fun i => (k.2.2.2.2.1 i).trans (h.2.2.2.2.1 i), fun i => (k.2.2.2.2.2.1 i).trans (h.2.2.2.2.2.1 i), fun i => (k.2.2.2.2.2.2.1 i).trans (h.2.2.2.2.2.2.1 i), fun i => by
    rcases k.2.2.2.2.2.2.2 i with a | a
    · rcases h.2.2.2.2.2.2.2 i with c | c
      · exact Or.inl (a.trans c)
      · exact Or.inr (by rw [a]; exact c)
    · exact Or.inr a⟩
theorem ME.up {V V1 W : Vf} {c k n : Nat} {x : Int32} (h : ME V V1 n) (e : W = up2 V1 c k x) (q : (67 ≤ c ∧ c ≤ 85 ∧ n ≤ k) ∨ (c ≤ 40 ∧ (c = 25 → x.toInt = -1) ∧ c ≠ 26 ∧ c ≠ 30 ∧ c ≠ 32 ∧ c ≠ 40 ∧ ¬ (c = 3 ∧ k = 13) ∧ ¬ (c = 3 ∧ k = 15) ∧ ¬ (c = 5 ∧ k = 5) ∧ ¬ (c = 5 ∧ k = 8))) : ME V W n := by
  have o : ∀ c' k', ¬ (c' = c ∧ k' = k) → W c' k' = V1 c' k' := fun c' k' hn => by rw [e]; exact up2_pl hn
  refine h.tr ⟨fun c' k' a1 a2 => o c' k' (by omega), fun c' k' a1 a2 a3 => o c' k' (by omega), ⟨o _ _ (by omega), o _ _ (by omega), o _ _ (by omega), o _ _ (by omega)⟩, fun k' => o _ _ (by omega), fun k' => o _ _ (by omega), fun k' => o _ _ (by omega), fun k' => o _ _ (by omega), fun k' => ?_⟩
  by_cases z : 25 = c ∧ k' = k
  · right
    rw [e, z.1, z.2, up2_ss]
    omega
  · exact Or.inl (o _ _ z)
def mrl (fs : List (Nat × Nat)) (cs : List Nat) : Bool := fs.all (fun y => decide (y.1 ≤ 6) && !([(3, 13), (3, 15), (5, 5), (5, 8)].contains y)) && cs.all (fun c => decide (7 ≤ c) && decide (c ≤ 40) && !([25, 26, 30, 32, 40].contains c))
theorem mrl_no {fs : List (Nat × Nat)} {cs : List Nat} (q : mrl fs cs = true) {c k : Nat} (h : (41 ≤ c) ∨ (c = 25 ∨ c = 26 ∨ c = 30 ∨ c = 32 ∨ c = 40) ∨ (c, k) = (3, 13) ∨ (c, k) = (3, 15) ∨ (c, k) = (5, 5) ∨ (c, k) = (5, 8)) : wrL fs cs c k = false := by
  unfold mrl at q
  rw [Bool.and_eq_true, List.all_eq_true, List.all_eq_true] at q
  unfold wrL
  rw [Bool.or_eq_false_iff]
  refine ⟨?_, ?_⟩
  · rw [← Bool.not_eq_true]
    intro z
    have y := q.1 _ (List.contains_iff_mem.mp z)
    rw [Bool.and_eq_true] at y
    have y1 : c ≤ 6 := of_decide_eq_true y.1
    have y2 := y.2
    rcases h with h | h | h | h | h | h
    · omega
    · omega
    all_goals (rw [h] at y2; exact absurd y2 (by decide))
  · rw [← Bool.not_eq_true]
    intro z
    have y := q.2 _ (List.contains_iff_mem.mp z)
    rw [Bool.and_eq_true, Bool.and_eq_true] at y
    have y1 : c ≤ 40 := of_decide_eq_true y.1.2
    have y0 : 7 ≤ c := of_decide_eq_true y.1.1
    have y2 := y.2
    rcases h with h | h | h | h | h | h
    · omega
    · rcases h with h | h | h | h | h <;> (rw [h] at y2; exact absurd y2 (by decide))
    all_goals (have := congrArg Prod.fst h; simp only at this; omega)
theorem ME.ag {fs : List (Nat × Nat)} {cs : List Nat} {V W : Vf} {n : Nat} (a : agr fs cs V W) (q : mrl fs cs = true) : ME V W n :=
  ⟨fun c k h1 _ => a c k (mrl_no q (Or.inl h1)), fun c k h1 _ _ => a c k (mrl_no q (Or.inl (by omega))), ⟨a _ _ (mrl_no q (by simp)), a _ _ (mrl_no q (by simp)), a _ _ (mrl_no q (by simp)), a _ _ (mrl_no q (by simp))⟩, fun k => a _ _ (mrl_no q (by simp)), fun k => a _ _ (mrl_no q (by simp)), fun k => a _ _ (mrl_no q (by simp)), fun k => a _ _ (mrl_no q (by simp)), fun k => Or.inl (a _ _ (mrl_no q (by simp)))⟩
theorem ME.lo {V W : Vf} {n m : Nat} (h : ME V W n) (q : m ≤ n) : ME V W m := ⟨h.1, fun c k a1 a2 a3 => h.2.1 c k a1 a2 (by omega), h.2.2⟩
theorem FK.cg {V W : Vf} {b x i : Nat} {w v : Prop} (h : FK V b x i w v) (hB : BE V W) (e : ∀ c, 67 ≤ c → c ≤ 85 → W c i = V c i) (e13 : W 3 13 = V 3 13) (e8 : W 5 8 = V 5 8) : FK W b x i w v := by
  unfold FK
  rw [e 67 (by decide) (by decide), e 68 (by decide) (by decide), e 70 (by decide) (by decide), e 71 (by decide) (by decide), e 75 (by decide) (by decide), e 76 (by decide) (by decide), e 80 (by decide) (by decide), e 84 (by decide) (by decide), hB 43 _ (by decide) (by decide), hB 42 _ (by decide) (by decide), hB 41 _ (by decide) (by decide), e13, e8, hB.bd]
  exact h
theorem FK.me {V W : Vf} {b x i n : Nat} {w v : Prop} (h : FK V b x i w v) (m : ME V W n) (hi : i < n) : FK W b x i w v := h.cg m.1 (fun c a1 a2 => m.2.1 c i a1 a2 hi) m.2.2.1.1 m.2.2.1.2.2.2
theorem FK.w {V : Vf} {b x y i : Nat} {w v w' v' : Prop} (h : FK V b x i w v) (q1 : w' → w) (q2 : v' → v) (q : x ≤ y) : FK V b y i w' v' :=
  ⟨h.1, h.2.1, h.2.2.1, h.2.2.2.1, h.2.2.2.2.1, fun a1 => ⟨by have := (h.2.2.2.2.2.1 a1).1; omega, fun a2 => ⟨by have := ((h.2.2.2.2.2.1 a1).2 a2).1; omega, fun z => ⟨(((h.2.2.2.2.2.1 a1).2 a2).2 (q1 z)).1, by have := (((h.2.2.2.2.2.1 a1).2 a2).2 (q1 z)).2; omega⟩⟩⟩, h.2.2.2.2.2.2.1, h.2.2.2.2.2.2.2.1, h.2.2.2.2.2.2.2.2.1, fun a1 a2 z => Nat.le_trans (h.2.2.2.2.2.2.2.2.2 a1 a2 (q2 z)) q⟩
theorem MI.me {V W : Vf} {Z : XZ} {b n r : Nat} {g : Nat → Nat} {w v u : Prop} (h : MI V Z b g n r w v u) (m : ME V W n) : MI W Z b g n r w v u := by
  obtain ⟨mB, mR, ⟨m13, m15, m5, m8⟩, m26, m30, m32, m40, m25⟩ := id m
  have e43 := mB 43 (5 * b + 2) (by decide) (by decide)
  refine ⟨?_, h.nf, h.dn, by rw [e43]; exact h.sz, ?_, ?_, ?_, fun i hi => ?_, by rw [m13, m15, m8]; exact h.o0, ?_, h.tx.be mB, h.cd.be mB, by rw [m5]; exact h.mb, h.ln, ?_⟩
  · unfold SL
    rw [m15, m13]
    exact ⟨h.sl.1, h.sl.2.1, fun o k a1 a2 => by rw [m30]; exact h.sl.2.2.1 o k a1 a2, fun i a1 => by rw [m32]; exact h.sl.2.2.2 i a1⟩
  · intro o ho
    rw [m13] at ho
    rw [m26, e43]
    exact h.oc o ho
  · intro i hi
    rw [m8] at hi
    rw [m40, m13]
    exact h.md i hi
  · intro i j hij hj
    rw [mR 67 i (by decide) (by decide) (by omega), mR 67 j (by decide) (by decide) hj, mR 80 i (by decide) (by decide) (by omega), mR 80 j (by decide) (by decide) hj]
    exact h.mk2 i j hij hj
  · have e : vI W n v u i = vI V n v u i := by unfold vI; rw [mR 67 (n - 1) (by decide) (by decide) (by omega)]
    rw [e]
    exact (h.fk i hi).me m hi
  · rw [m15, m13, m8, mB 44 0 (by decide) (by decide)]
    exact h.pot
  · intro k hk
    rw [m13]
    rcases m25 k with a | a
    · rw [a]
      refine ⟨(h.pt k hk).1, fun o h1 => ?_⟩
      rw [m26]
      exact (h.pt k hk).2 o h1
    · refine ⟨by have := h.o0; omega, fun o h1 => ?_⟩
      omega
theorem MI.z {V : Vf} {Z Z' : XZ} {b n r : Nat} {g : Nat → Nat} {w v u : Prop} (h : MI V Z b g n r w v u) (e : Z'.ln = Z.ln) (h1 : n ≤ Z'.nf) (h2 : Z'.nf ≤ 400) : MI V Z' b g n r w v u :=
  ⟨by unfold SL; rw [e]; exact h.sl, h2, h1, h.sz, h.oc, h.md, h.mk2, h.fk, h.o0, h.pot, h.tx, h.cd, h.mb, by rw [e]; exact h.ln, h.pt⟩
theorem MI.w {V : Vf} {Z : XZ} {b n r r' : Nat} {g : Nat → Nat} {w v u w' v' u' : Prop} (h : MI V Z b g n r w v u) (q1 : w' → w) (q2 : v' → v) (q3 : u' → u) (q : r' ≤ r) : MI V Z b g n r' w' v' u' :=
  ⟨h.sl, h.nf, h.dn, h.sz, h.oc, h.md, h.mk2, fun i hi => (h.fk i hi).w (fun z => z.elim Or.inl (fun a => Or.inr (q1 a))) (fun z => z.elim (fun a => Or.inl ⟨a.1, fun e => (a.2 e).elim Or.inl (fun c => Or.inr (q3 c))⟩) (fun a => Or.inr ⟨a.1, q2 a.2⟩)) (Nat.le_refl _), h.o0, by have := h.pot; omega, h.tx, h.cd, h.mb, h.ln, h.pt⟩
theorem MI.pop {V : Vf} {Z : XZ} {b n r : Nat} {g : Nat → Nat} {w v u : Prop} (h : MI V Z b g (n + 1) r w v u) : MI V Z b g n (r + g n) True ((V 67 n).toInt ≠ 0 ∨ u) True :=
  ⟨h.sl, h.nf, by have := h.dn; omega, h.sz, h.oc, h.md, fun i j a1 a2 => h.mk2 i j a1 (by omega), fun i hi => (h.fk i (by omega)).w (fun _ => Or.inl (by omega)) (fun z => Or.inl ⟨by omega, fun e => by
    rcases z with z | z
    · omega
    · exact z.2⟩) (Nat.le_refl _), h.o0, by
    have p := h.pot
    have e : sm g (n + 1) = sm g n + g n := rfl
    omega, h.tx, h.cd, h.mb, h.ln, h.pt⟩
theorem MI.row {V : Vf} {Z : XZ} {b n r x : Nat} {g : Nat → Nat} {w v u : Prop} (h : MI V Z b g n r True ((V 67 n).toInt ≠ 0 ∨ u) True) (hx : x ≤ r) (hn : n + 1 ≤ Z.nf) (f : FK V b x n w v) (hm : (V 67 n).toInt = 0 → ∀ i, i < n → (V 67 i).toInt = 0 → (V 80 i).toInt ≤ (V 80 n).toInt) : MI V Z b (fun i => if i = n then x else g i) (n + 1) (r - x) w v u := by
  refine ⟨h.sl, h.nf, hn, h.sz, h.oc, h.md, ?_, ?_, h.o0, ?_, h.tx, h.cd, h.mb, h.ln, h.pt⟩
  · intro i j a1 a2 k1 k2
    by_cases e : j = n
    · subst e
      exact hm k2 i a1 k1
    · exact h.mk2 i j a1 (by omega) k1 k2
  · intro i hi
    show FK V b (if i = n then x else g i) i (i + 1 < n + 1 ∨ w) (vI V (n + 1) v u i)
    by_cases e : i = n
    · rw [if_pos e, e]
      refine f.w (fun z => z.elim (fun q => absurd q (by omega)) id) (fun z => ?_) (Nat.le_refl _)
      rcases z with z | z
      · exact absurd z.1 (by omega)
      · exact z.2
    · rw [if_neg e]
      refine (h.fk i (by omega)).w (fun _ => Or.inr trivial) (fun z => ?_) (Nat.le_refl _)
      rcases z with z | z
      · by_cases e2 : i + 1 = n
        · exact Or.inr ⟨e2, z.2 (by omega)⟩
        · exact Or.inl ⟨by omega, fun _ => Or.inr trivial⟩
      · omega
  · have p := h.pot
    have e : sm (fun i => if i = n then x else g i) (n + 1) = sm g n + x := by
      show sm (fun i => if i = n then x else g i) n + (if n = n then x else g n) = sm g n + x
      rw [if_pos rfl, sm_ext n (fun k hk => if_neg (by omega))]
    rw [e]
    omega
theorem sm_bump {g : Nat → Nat} (m : Nat) : ∀ n, sm (fun i => if i + 2 = m then g i + 1 else g i) n ≤ sm g n + (if m < n + 2 then 1 else 0)
  | 0 => Nat.zero_le _
  | n + 1 => by
    have ih := sm_bump (g := g) m n
    show sm (fun i => if i + 2 = m then g i + 1 else g i) n + (if n + 2 = m then g n + 1 else g n) ≤ sm g n + g n + _
    by_cases h : n + 2 = m
    · rw [if_pos h, if_pos (by omega)]
      rw [if_neg (by omega)] at ih
      omega
    · rw [if_neg h]
      by_cases h2 : m < n + 2
      · rw [if_pos h2] at ih
        rw [if_pos (by omega)]
        omega
      · rw [if_neg h2] at ih
        rw [if_neg (by omega)]
        omega
/-- the one below the top gets a credit -/
theorem MI.bump {V : Vf} {Z : XZ} {b n r : Nat} {g : Nat → Nat} {w v u : Prop} (h : MI V Z b g n r w v u) (hr : 1 ≤ r) : MI V Z b (fun i => if i + 2 = n then g i + 1 else g i) n (r - 1) w v True := by
  refine ⟨h.sl, h.nf, h.dn, h.sz, h.oc, h.md, h.mk2, ?_, h.o0, ?_, h.tx, h.cd, h.mb, h.ln, h.pt⟩
  · intro i hi
    show FK V b (if i + 2 = n then g i + 1 else g i) i (i + 1 < n ∨ w) (vI V n v True i)
    have f := h.fk i hi
    by_cases e : i + 2 = n
    · rw [if_pos e]
      have f2 := f.w (y := g i + 1) (w' := i + 1 < n ∨ w) (v' := False) id False.elim (Nat.le_succ _)
      exact ⟨f2.1, f2.2.1, f2.2.2.1, f2.2.2.2.1, f2.2.2.2.2.1, f2.2.2.2.2.2.1, f2.2.2.2.2.2.2.1, f2.2.2.2.2.2.2.2.1, f2.2.2.2.2.2.2.2.2.1, fun _ _ _ => Nat.succ_le_succ (Nat.zero_le _)⟩
    · rw [if_neg e]
      exact f.w id (fun z => z.elim (fun a => Or.inl ⟨a.1, fun q => absurd q e⟩) Or.inr) (Nat.le_refl _)
  · have p := h.pot
    have s := sm_bump (g := g) n n
    have : (if n < n + 2 then 1 else 0) = 1 := if_pos (by omega)
    omega
def MJ (V : Vf) (Z : XZ) (b : Nat) : Prop := ∃ g r, MI V Z b g (V 5 6).toInt.toNat r True (QN V b) (QN V b)
def MT (V : Vf) (Z : XZ) (b : Nat) : Prop := ∃ g r, MI V Z b g (V 5 6).toInt.toNat r True True True
def MTr (V : Vf) (Z : XZ) (b : Nat) : Prop := ∃ g r, MI V Z b g (V 5 6).toInt.toNat r True False True
def MTw (V : Vf) (Z : XZ) (b : Nat) : Prop := ∃ g r, MI V Z b g (V 5 6).toInt.toNat r True True False
/-- the top frame, and what lies under it -/
def MO (V : Vf) (Z : XZ) (b d : Nat) (w v u : Prop) : Prop := ∃ g r x, MI V Z b g d r True ((V 67 d).toInt ≠ 0 ∨ u) True ∧ x ≤ r ∧ FK V b x d w v ∧ ((V 67 d).toInt = 0 → ∀ i, i < d → (V 67 i).toInt = 0 → (V 80 i).toInt ≤ (V 80 d).toInt)
theorem MI.op {V : Vf} {Z : XZ} {b d r : Nat} {g : Nat → Nat} {w v u : Prop} (h : MI V Z b g (d + 1) r w v u) : MO V Z b d w v u :=
  ⟨g, r + g d, g d, h.pop, by omega, (h.fk d (by omega)).w Or.inr (fun z => Or.inr ⟨rfl, z⟩) (Nat.le_refl _), fun k i a1 a2 => h.mk2 i d a1 (by omega) a2 k⟩
theorem MJ.op {V : Vf} {Z : XZ} {b d : Nat} (h : MJ V Z b) (e : (V 5 6).toInt = (d : Int) + 1) : MO V Z b d True (QN V b) (QN V b) := by
  obtain ⟨g, r, h⟩ := h
  rw [show (V 5 6).toInt.toNat = d + 1 from by omega] at h
  exact h.op
theorem MO.w {V : Vf} {Z : XZ} {b d : Nat} {w v u w' v' u' : Prop} (h : MO V Z b d w v u) (q1 : w' → w) (q2 : v' → v) (q3 : u' → (V 67 d).toInt ≠ 0 ∨ u) : MO V Z b d w' v' u' := by
  obtain ⟨g, r, x, h1, h2, h3, h4⟩ := h
  exact ⟨g, r, x, h1.w id (fun z => z.elim Or.inl q3) id (Nat.le_refl _), h2, h3.w q1 q2 (Nat.le_refl _), h4⟩
/-- the top frame's row has changed -/
theorem MO.ch {V W : Vf} {Z : XZ} {b d : Nat} {w v u w' v' u' : Prop} (h : MO V Z b d w v u) (m : ME V W d) (e67 : W 67 d = V 67 d) (e80 : W 80 d = V 80 d) (q3 : u' → (V 67 d).toInt ≠ 0 ∨ u) (f : ∀ x, FK V b x d w v → FK W b x d w' v') : MO W Z b d w' v' u' := by
  obtain ⟨g, r, x, h1, h2, h3, h4⟩ := h
  refine ⟨g, r, x, ?_, h2, f x h3, fun k i a1 a2 => ?_⟩
  · rw [e67]
    exact (h1.me m).w id (fun z => z.elim Or.inl q3) id (Nat.le_refl _)
  · rw [e80, m.2.1 80 i (by decide) (by decide) a1]
    rw [e67] at k
    rw [m.2.1 67 i (by decide) (by decide) a1] at a2
    exact h4 k i a1 a2
theorem MO.cl {V : Vf} {Z : XZ} {b d : Nat} {w v u : Prop} (h : MO V Z b d w v u) (hn : d + 1 ≤ Z.nf) : ∃ g r, MI V Z b g (d + 1) r w v u := by
  obtain ⟨g, r, x, h1, h2, h3, h4⟩ := h
  exact ⟨_, _, h1.row h2 hn h3 h4⟩
theorem MO.cl2 {V : Vf} {Z : XZ} {b d : Nat} {w v u : Prop} (h : MO V Z b d w v u) (hn : d + 1 ≤ Z.nf) (e : (V 5 6).toInt = (d : Int) + 1) : ∃ g r, MI V Z b g (V 5 6).toInt.toNat r w v u := by
  rw [show (V 5 6).toInt.toNat = d + 1 from by omega]
  exact h.cl hn
theorem MO.mj {V : Vf} {Z : XZ} {b d : Nat} {w v u : Prop} (h : MO V Z b d w v u) (hn : d + 1 ≤ Z.nf) (e : (V 5 6).toInt = (d : Int) + 1) (q1 : True → w) (q2 : QN V b → v) (q3 : QN V b → (V 67 d).toInt ≠ 0 ∨ u) : MJ V Z b := (h.w q1 q2 q3).cl2 hn e
theorem MO.mt {V : Vf} {Z : XZ} {b d : Nat} (h : MO V Z b d True True True) (hn : d + 1 ≤ Z.nf) (e : (V 5 6).toInt = (d : Int) + 1) : MT V Z b := h.cl2 hn e
theorem MO.mtr {V : Vf} {Z : XZ} {b d : Nat} (h : MO V Z b d True False True) (hn : d + 1 ≤ Z.nf) (e : (V 5 6).toInt = (d : Int) + 1) : MTr V Z b := h.cl2 hn e
theorem MO.mtw {V : Vf} {Z : XZ} {b d : Nat} (h : MO V Z b d True True False) (hn : d + 1 ≤ Z.nf) (e : (V 5 6).toInt = (d : Int) + 1) : MTw V Z b := h.cl2 hn e
/-- what lies under the top -/
def MP (V : Vf) (Z : XZ) (b d : Nat) (v : Prop) : Prop := ∃ g r, MI V Z b g d r True v True
theorem MO.mp {V : Vf} {Z : XZ} {b d : Nat} {w v u : Prop} (h : MO V Z b d w v u) : MP V Z b d ((V 67 d).toInt ≠ 0 ∨ u) := by
  obtain ⟨g, r, x, h1, _⟩ := h
  exact ⟨g, r, h1⟩
/-- the top frame is left -/
theorem MP.lv {V W : Vf} {Z : XZ} {b d : Nat} {v : Prop} (h : MP V Z b d v) (m : ME V W d) (e : (W 5 6).toInt = (d : Int)) (q : QN W b → v) : MJ W Z b := by
  obtain ⟨g, r, h1⟩ := h
  exact ⟨g, r, by rw [show (W 5 6).toInt.toNat = d from by omega]; exact (h1.me m).w (fun _ => trivial) q (fun _ => trivial) (Nat.le_refl _)⟩
/-- a frame is put on it -/
theorem MI.pu {V W : Vf} {Z Z' : XZ} {b f r x : Nat} {g : Nat → Nat} {w v v0 : Prop} (h : MI V Z b g (V 5 6).toInt.toNat r True v0 True) (hxr : x ≤ r) (hf : (f : Int) ≤ (V 5 6).toInt ∧ (V 5 6).toInt ≤ (f : Int) + 1) (m : ME V W f) (ez : Z'.ln = Z.ln) (h1 : f + 1 ≤ Z'.nf) (h2 : Z'.nf ≤ 400) (hx : FK W b x f w v) (hm : (W 67 f).toInt = 0 → W 80 f = W 5 8) (e : (W 5 6).toInt = (f : Int) + 1) (q1 : w) (q2 : QN W b → v) (q3 : (W 67 f).toInt ≠ 0 ∨ QN W b → v0) : MJ W Z' b := by
  have h' : ∃ r, x ≤ r ∧ MI V Z b g f r True ((W 67 f).toInt ≠ 0 ∨ QN W b) True := by
    by_cases e : (V 5 6).toInt.toNat = f
    · rw [e] at h; exact ⟨r, hxr, h.w id q3 id (Nat.le_refl _)⟩
    · rw [show (V 5 6).toInt.toNat = f + 1 from by omega] at h; exact ⟨_, by omega, h.pop.w id (fun _ => Or.inr trivial) id (Nat.le_refl _)⟩
  obtain ⟨r, hxr, h'⟩ := h'
  have h3 := (h'.me m).z ez (by omega) h2
  refine MO.mj ⟨g, r, x, h3, hxr, hx, fun k i a1 a2 => ?_⟩ h1 e (fun _ => q1) q2 Or.inr
  rw [hm k]
  exact (h3.fk i a1).2.2.2.2.2.2.1 a2
theorem MT.pu {V W : Vf} {Z Z' : XZ} {b f : Nat} {v : Prop} (h : MT V Z b) (hf : (f : Int) ≤ (V 5 6).toInt ∧ (V 5 6).toInt ≤ (f : Int) + 1) (m : ME V W f) (ez : Z'.ln = Z.ln) (h1 : f + 1 ≤ Z'.nf) (h2 : Z'.nf ≤ 400) (hx : FK W b 0 f True v) (hm : (W 67 f).toInt = 0 → W 80 f = W 5 8) (e : (W 5 6).toInt = (f : Int) + 1) (q : ¬ (W 5 9).toInt = 1) : MJ W Z' b := by
  obtain ⟨g, r, h⟩ := h
  exact h.pu (Nat.zero_le _) hf m ez h1 h2 hx hm e trivial (fun z => absurd z.1 q) (fun _ => trivial)
/-- a ROOT is put on it -/
theorem MTr.pu {V W : Vf} {Z Z' : XZ} {b f : Nat} {v : Prop} (h : MTr V Z b) (hf : (f : Int) ≤ (V 5 6).toInt ∧ (V 5 6).toInt ≤ (f : Int) + 1) (m : ME V W f) (ez : Z'.ln = Z.ln) (h1 : f + 1 ≤ Z'.nf) (h2 : Z'.nf ≤ 400) (hx : FK W b 0 f True v) (hm : (W 67 f).toInt = 0 → W 80 f = W 5 8) (e : (W 5 6).toInt = (f : Int) + 1) (q : ¬ (W 5 9).toInt = 1) (h0 : (W 67 f).toInt = 0) : MJ W Z' b := by
  obtain ⟨g, r, h⟩ := h
  exact h.pu (Nat.zero_le _) hf m ez h1 h2 hx hm e trivial (fun z => absurd z.1 q) (fun z => z.elim (fun a => a h0) (fun a => q a.1))
theorem ME.zz {V : Vf} {n f : Nat} (h : f ≤ n) : ME V (frz V n) f := by
  have lo : ∀ c k, ¬ (67 ≤ c ∧ c ≤ 85) → frz V n c k = V c k := fun c k q => congrFun (frz_lo q) k
  exact ⟨fun c k a1 a2 => lo c k (by omega), fun c k a1 a2 a3 => frz_k (by omega), ⟨lo _ _ (by decide), lo _ _ (by decide), lo _ _ (by decide), lo _ _ (by decide)⟩, fun k => lo _ _ (by decide), fun k => lo _ _ (by decide), fun k => lo _ _ (by decide), fun k => lo _ _ (by decide), fun k => Or.inl (lo _ _ (by decide))⟩
theorem FK.k0 {V : Vf} {b x i : Nat} {w v : Prop} (hk : (V 67 i).toInt = 0) (hm : (V 80 i).toInt ≤ (V 5 8).toInt) : FK V b x i w v :=
  ⟨fun h => absurd hk h, fun h => absurd hk h, fun h => absurd h (by omega), fun h => absurd h (by omega), fun h => absurd h (by omega), fun h => absurd h (by omega), fun _ => hm, fun h => absurd h (by omega), fun h => absurd h (by omega), fun h _ _ => absurd h (by omega)⟩
theorem FK.k3 {V : Vf} {b x i : Nat} {w v : Prop} (hk : (V 67 i).toInt = 3) (h1 : 0 ≤ (V 71 i).toInt ∧ (V 71 i).toInt < (V 43 (5 * b + 2)).toInt) (h2 : 0 ≤ (V 70 i).toInt ∧ (V 70 i).toInt < (V 3 13).toInt) (h3 : (V 68 i).toInt = 0 ∨ (V 68 i).toInt = 1 ∨ (V 68 i).toInt = 4 ∨ (V 75 i).toInt ≤ (V 41 b).toInt) : FK V b x i w v :=
  ⟨fun _ => h1, fun _ _ => h2, fun h => absurd h (by omega), fun h => absurd h (by omega), fun h => absurd h (by omega), fun h => absurd h (by omega), fun h => absurd h (by omega), fun h => absurd h (by omega), fun _ => h3, fun h _ _ => absurd h (by omega)⟩
theorem FK.k5 {V : Vf} {b x i : Nat} {w v : Prop} (hk : (V 67 i).toInt ≠ 0 ∧ (V 67 i).toInt ≠ 1 ∧ (V 67 i).toInt ≠ 2 ∧ (V 67 i).toInt ≠ 3 ∧ (V 67 i).toInt ≠ 4) (h1 : 0 ≤ (V 71 i).toInt ∧ (V 71 i).toInt < (V 43 (5 * b + 2)).toInt) (h2 : 0 ≤ (V 70 i).toInt ∧ (V 70 i).toInt < (V 3 13).toInt) : FK V b x i w v :=
  ⟨fun _ => h1, fun _ _ => h2, fun h => absurd h (by omega), fun h => absurd h (by omega), fun h => absurd h (by omega), fun h => absurd h (by omega), fun h => absurd h (by omega), fun h => absurd h (by omega), fun h => absurd h (by omega), fun h _ _ => absurd h (by omega)⟩
theorem FK.k2 {V : Vf} {b x i : Nat} {w v : Prop} (hk : (V 67 i).toInt = 2) (h1 : 0 ≤ (V 71 i).toInt ∧ (V 71 i).toInt < (V 43 (5 * b + 2)).toInt) (h2 : (V 68 i).toInt = 0 ∨ (0 ≤ (V 70 i).toInt ∧ (V 70 i).toInt < (V 3 13).toInt)) (h3 : (V 68 i).toInt = 0 ∨ (V 68 i).toInt = 1 ∨ (V 75 i).toInt ≤ (V 41 b).toInt) : FK V b x i w v :=
  ⟨fun _ => h1, fun _ q => by rcases h2 with h2 | h2; exact absurd ⟨hk, h2⟩ q; exact h2, fun h => absurd h (by omega), fun h => absurd h (by omega), fun h => absurd h (by omega), fun h => absurd h (by omega), fun h => absurd h (by omega), fun _ => h3, fun h => absurd h (by omega), fun h _ _ => absurd h (by omega)⟩
theorem FK.k4 {V : Vf} {b x i : Nat} {w v : Prop} (hk : (V 67 i).toInt = 4) (h1 : 0 ≤ (V 71 i).toInt ∧ (V 71 i).toInt < (V 43 (5 * b + 2)).toInt) (h2 : 0 ≤ (V 70 i).toInt ∧ (V 70 i).toInt < (V 3 13).toInt) (h3 : (V 42 b).toInt ≤ (V 84 i).toInt ∨ (bdp V b (V 84 i).toInt.toNat).1 = true) (h4 : ((V 68 i).toInt = 6 ∨ (V 68 i).toInt = 7) → (V 75 i).toInt ≤ 7) (h5 : (V 68 i).toInt = 7 → v → 1 ≤ x) : FK V b x i w v :=
  ⟨fun _ => h1, fun _ _ => h2, fun _ => h3, fun _ => h4, fun h => absurd h (by omega), fun h => absurd h (by omega), fun h => absurd h (by omega), fun h => absurd h (by omega), fun h => absurd h (by omega), fun _ => h5⟩
theorem FK.k1 {V : Vf} {b x i : Nat} {w v : Prop} (hk : (V 67 i).toInt = 1) (h1 : 0 ≤ (V 71 i).toInt ∧ (V 71 i).toInt < (V 43 (5 * b + 2)).toInt) (h2 : 0 ≤ (V 70 i).toInt ∧ (V 70 i).toInt < (V 3 13).toInt) (h3 : 0 ≤ (V 76 i).toInt ∧ (V 76 i).toInt ≤ 25 ∧ (V 75 i).toInt ≤ 8) (h0 : 1 ≤ (x : Int)) (h4 : (V 68 i).toInt ≠ 1 → 25 * (8 - (V 75 i).toInt) - (V 76 i).toInt + 1 ≤ (x : Int) ∧ (w → (V 75 i).toInt ≤ 7 ∧ 25 * (8 - (V 75 i).toInt) - (V 76 i).toInt + 2 ≤ (x : Int))) : FK V b x i w v :=
  ⟨fun _ => h1, fun _ _ => h2, fun h => absurd h (by omega), fun h => absurd h (by omega), fun _ => h3, fun _ => ⟨h0, h4⟩, fun h => absurd h (by omega), fun h => absurd h (by omega), fun h => absurd h (by omega), fun h _ _ => absurd h (by omega)⟩
theorem MI.dn2 {V : Vf} {Z : XZ} {b n r : Nat} {g : Nat → Nat} {w v u : Prop} (h : MI V Z b g n r w v u) (e : n = (V 5 6).toInt.toNat) (h0 : 0 ≤ (V 5 6).toInt) : (V 5 6).toInt ≤ (Z.nf : Int) ∧ (Z.nf : Int) ≤ 400 := by
  have a := h.dn
  have b := h.nf
  omega
theorem MI.up {V : Vf} {Z : XZ} {b n r : Nat} {g : Nat → Nat} {w v u : Prop} (h : MI V Z b g n r w v u) : 0 < (V 43 (5 * b + 2)).toInt ∧ TX V b ∧ CD V b ∧ (V 5 5).toInt = (b : Int) ∧ SL V Z ∧ (∀ o : Nat, (o : Int) < (V 3 13).toInt → (V 26 o).toInt < (V 43 (5 * b + 2)).toInt) ∧ (∀ i : Nat, (i : Int) < (V 5 8).toInt → (V 40 i).toInt < (V 3 13).toInt) ∧ PT V ∧ (V 3 15).toInt ≤ 250000 ∧ LN Z.ln := ⟨h.sz, h.tx, h.cd, h.mb, h.sl, h.oc, h.md, h.pt, by have := h.pot; have := h.o0; omega, h.ln⟩
theorem MT.dn {V : Vf} {Z : XZ} {b : Nat} (h : MT V Z b) (h0 : 0 ≤ (V 5 6).toInt) : (V 5 6).toInt ≤ (Z.nf : Int) ∧ (Z.nf : Int) ≤ 400 := by
  obtain ⟨g, r, h⟩ := h
  exact h.dn2 rfl h0
theorem MT.up {V : Vf} {Z : XZ} {b : Nat} (h : MT V Z b) : 0 < (V 43 (5 * b + 2)).toInt ∧ TX V b ∧ CD V b ∧ (V 5 5).toInt = (b : Int) ∧ SL V Z ∧ (∀ o : Nat, (o : Int) < (V 3 13).toInt → (V 26 o).toInt < (V 43 (5 * b + 2)).toInt) ∧ (∀ i : Nat, (i : Int) < (V 5 8).toInt → (V 40 i).toInt < (V 3 13).toInt) ∧ PT V ∧ (V 3 15).toInt ≤ 250000 ∧ LN Z.ln := by
  obtain ⟨g, r, h⟩ := h
  exact h.up
theorem MTr.dn {V : Vf} {Z : XZ} {b : Nat} (h : MTr V Z b) (h0 : 0 ≤ (V 5 6).toInt) : (V 5 6).toInt ≤ (Z.nf : Int) ∧ (Z.nf : Int) ≤ 400 := by
  obtain ⟨g, r, h⟩ := h
  exact h.dn2 rfl h0
theorem MTr.up {V : Vf} {Z : XZ} {b : Nat} (h : MTr V Z b) : 0 < (V 43 (5 * b + 2)).toInt ∧ TX V b ∧ CD V b ∧ (V 5 5).toInt = (b : Int) ∧ SL V Z ∧ (∀ o : Nat, (o : Int) < (V 3 13).toInt → (V 26 o).toInt < (V 43 (5 * b + 2)).toInt) ∧ (∀ i : Nat, (i : Int) < (V 5 8).toInt → (V 40 i).toInt < (V 3 13).toInt) ∧ PT V ∧ (V 3 15).toInt ≤ 250000 ∧ LN Z.ln := by
  obtain ⟨g, r, h⟩ := h
  exact h.up
theorem MTw.dn {V : Vf} {Z : XZ} {b : Nat} (h : MTw V Z b) (h0 : 0 ≤ (V 5 6).toInt) : (V 5 6).toInt ≤ (Z.nf : Int) ∧ (Z.nf : Int) ≤ 400 := by
  obtain ⟨g, r, h⟩ := h
  exact h.dn2 rfl h0
theorem MTw.up {V : Vf} {Z : XZ} {b : Nat} (h : MTw V Z b) : 0 < (V 43 (5 * b + 2)).toInt ∧ TX V b ∧ CD V b ∧ (V 5 5).toInt = (b : Int) ∧ SL V Z ∧ (∀ o : Nat, (o : Int) < (V 3 13).toInt → (V 26 o).toInt < (V 43 (5 * b + 2)).toInt) ∧ (∀ i : Nat, (i : Int) < (V 5 8).toInt → (V 40 i).toInt < (V 3 13).toInt) ∧ PT V ∧ (V 3 15).toInt ≤ 250000 ∧ LN Z.ln := by
  obtain ⟨g, r, h⟩ := h
  exact h.up
theorem MJ.dn {V : Vf} {Z : XZ} {b : Nat} (h : MJ V Z b) (h0 : 0 ≤ (V 5 6).toInt) : (V 5 6).toInt ≤ (Z.nf : Int) ∧ (Z.nf : Int) ≤ 400 := by
  obtain ⟨g, r, h⟩ := h
  exact h.dn2 rfl h0
theorem MJ.up {V : Vf} {Z : XZ} {b : Nat} (h : MJ V Z b) : 0 < (V 43 (5 * b + 2)).toInt ∧ TX V b ∧ CD V b ∧ (V 5 5).toInt = (b : Int) ∧ SL V Z ∧ (∀ o : Nat, (o : Int) < (V 3 13).toInt → (V 26 o).toInt < (V 43 (5 * b + 2)).toInt) ∧ (∀ i : Nat, (i : Int) < (V 5 8).toInt → (V 40 i).toInt < (V 3 13).toInt) ∧ PT V ∧ (V 3 15).toInt ≤ 250000 ∧ LN Z.ln := by
  obtain ⟨g, r, h⟩ := h
  exact h.up
theorem MT.me {V W : Vf} {Z : XZ} {b : Nat} (h : MT V Z b) (m : ME V W 400) (e : W 5 6 = V 5 6) : MT W Z b := by
  obtain ⟨g, r, h⟩ := h
  have := h.dn
  have := h.nf
  exact ⟨g, r, by rw [e]; exact h.me (m.lo (by omega))⟩
theorem MTr.me {V W : Vf} {Z : XZ} {b : Nat} (h : MTr V Z b) (m : ME V W 400) (e : W 5 6 = V 5 6) : MTr W Z b := by
  obtain ⟨g, r, h⟩ := h
  have := h.dn
  have := h.nf
  exact ⟨g, r, by rw [e]; exact h.me (m.lo (by omega))⟩
theorem MTw.me {V W : Vf} {Z : XZ} {b : Nat} (h : MTw V Z b) (m : ME V W 400) (e : W 5 6 = V 5 6) : MTw W Z b := by
  obtain ⟨g, r, h⟩ := h
  have := h.dn
  have := h.nf
  exact ⟨g, r, by rw [e]; exact h.me (m.lo (by omega))⟩
theorem MT.mj {V : Vf} {Z : XZ} {b : Nat} (h : MT V Z b) : MJ V Z b := by
  obtain ⟨g, r, h⟩ := h
  exact ⟨g, r, h.w (fun _ => trivial) (fun _ => trivial) (fun _ => trivial) (Nat.le_refl _)⟩
theorem MTw.mj {V : Vf} {Z : XZ} {b : Nat} (h : MTw V Z b) (q : ¬ QN V b) : MJ V Z b := by
  obtain ⟨g, r, h⟩ := h
  exact ⟨g, r, h.w (fun _ => trivial) (fun _ => trivial) (fun z => q z) (Nat.le_refl _)⟩
/-- what is known of the top frame -/
theorem MO.fk {V : Vf} {Z : XZ} {b d : Nat} {w v u : Prop} (h : MO V Z b d w v u) : ∃ x, FK V b x d w v := by
  obtain ⟨g, r, x, _, _, h3, _⟩ := h
  exact ⟨x, h3⟩
theorem MO.up {V : Vf} {Z : XZ} {b d : Nat} {w v u : Prop} (h : MO V Z b d w v u) : 0 < (V 43 (5 * b + 2)).toInt ∧ TX V b ∧ CD V b ∧ (V 5 5).toInt = (b : Int) ∧ SL V Z ∧ (∀ o : Nat, (o : Int) < (V 3 13).toInt → (V 26 o).toInt < (V 43 (5 * b + 2)).toInt) ∧ (∀ i : Nat, (i : Int) < (V 5 8).toInt → (V 40 i).toInt < (V 3 13).toInt) ∧ PT V ∧ (V 3 15).toInt ≤ 250000 ∧ LN Z.ln := by
  obtain ⟨g, r, x, h, _⟩ := h
  exact h.up
theorem gs.fk {V : Vf} {b : Nat} {s : Int} (h : gs V b s) (h8 : (V 42 b).toInt ≤ 8200) : (V 42 b).toInt ≤ s ∨ (bdp V b s.toNat).1 = true := by
  rcases h with h | h
  · exact Or.inl (by omega)
  · exact Or.inr h.2.2

theorem w669 : Cond.fieldLink RX5 13 "WiringHouse$Machine" "frames" "[LWiringHouse$Frame;" ∈ GW := gw_k tk9_3 34 (by decide +kernel) rfl
theorem n1189 : lw_tbl[1189]? = some (Cond.fieldLinkNest RX5 71 "WiringHouse$Frame" "kind" "I" "WiringHouse") := la9 (n := 155) (i := 1034) lz9 (la9 (n := 240) (i := 794) ln9_1 (la9 (n := 240) (i := 554) ln9_2 (la9 (n := 240) (i := 314) ln9_3 (la9 (n := 240) (i := 74) ln9_4 (lb9 (i := 74) (by decide +kernel))))))
theorem n1190 : lw_tbl[1190]? = some (Cond.fieldLinkNest RX5 94 "WiringHouse$Frame" "phase" "I" "WiringHouse") := la9 (n := 155) (i := 1035) lz9 (la9 (n := 240) (i := 795) ln9_1 (la9 (n := 240) (i := 555) ln9_2 (la9 (n := 240) (i := 315) ln9_3 (la9 (n := 240) (i := 75) ln9_4 (lb9 (i := 75) (by decide +kernel))))))
theorem n1191 : lw_tbl[1191]? = some (Cond.fieldLinkNest RX5 97 "WiringHouse$Frame" "level" "I" "WiringHouse") := la9 (n := 155) (i := 1036) lz9 (la9 (n := 240) (i := 796) ln9_1 (la9 (n := 240) (i := 556) ln9_2 (la9 (n := 240) (i := 316) ln9_3 (la9 (n := 240) (i := 76) ln9_4 (lb9 (i := 76) (by decide +kernel))))))
theorem n1197 : lw_tbl[1197]? = some (Cond.fieldLinkNest RX5 109 "WiringHouse$Frame" "position" "I" "WiringHouse") := la9 (n := 155) (i := 1042) lz9 (la9 (n := 240) (i := 802) ln9_1 (la9 (n := 240) (i := 562) ln9_2 (la9 (n := 240) (i := 322) ln9_3 (la9 (n := 240) (i := 82) ln9_4 (lb9 (i := 82) (by decide +kernel))))))
theorem n1198 : lw_tbl[1198]? = some (Cond.fieldLinkNest RX5 112 "WiringHouse$Frame" "item" "I" "WiringHouse") := la9 (n := 155) (i := 1043) lz9 (la9 (n := 240) (i := 803) ln9_1 (la9 (n := 240) (i := 563) ln9_2 (la9 (n := 240) (i := 323) ln9_3 (la9 (n := 240) (i := 83) ln9_4 (lb9 (i := 83) (by decide +kernel))))))
theorem n1205 : lw_tbl[1205]? = some (Cond.fieldLinkNest RX5 115 "WiringHouse$Frame" "spent" "Z" "WiringHouse") := la9 (n := 155) (i := 1050) lz9 (la9 (n := 240) (i := 810) ln9_1 (la9 (n := 240) (i := 570) ln9_2 (la9 (n := 240) (i := 330) ln9_3 (la9 (n := 240) (i := 90) ln9_4 (lb9 (i := 90) (by decide +kernel))))))
theorem nfX4 : ∀ j, j < 19 → defaultValue (tyX4 j) = vp_V [.int 0, .int 0, .int 0, .int 0, .int 0, .int 0, .int 0, .int 0, .int 0, .int 0, .int 0, .int 0, .int 0, .int 0, .int 0, .int 0, .int 0, .int 0, .int 0] j := by decide +kernel
theorem w665 : Cond.classLink RX5 11 "WiringHouse$Frame" ∈ GW := gw_k tk9_3 30 (by decide +kernel) rfl
theorem w1184 : Cond.instantiable RX4 19 ∈ GW := gw_k tk9_5 69 (by decide +kernel) rfl
theorem w180 : Cond.initialized RX4 ∈ GW := gw_k tk9_1 25 (by decide +kernel) rfl
theorem w1187 : Cond.code yX4_init cX4_init 1 none ∈ GW := gw_k tk9_5 72 (rfl) rfl
theorem w1186 : Cond.instanceMethod yX4_init ∈ GW := gw_k tk9_5 71 (by decide +kernel) rfl
theorem n1185 : lw_tbl[1185]? = some (Cond.methodLinkNest RX5 93 yX4_init "WiringHouse") := la9 (n := 155) (i := 1030) lz9 (la9 (n := 240) (i := 790) ln9_1 (la9 (n := 240) (i := 550) ln9_2 (la9 (n := 240) (i := 310) ln9_3 (la9 (n := 240) (i := 70) ln9_4 (lb9 (i := 70) (by decide +kernel))))))
theorem hdS_yX4_init : yX4_init.cls ≠ "java/lang/invoke/MethodHandle" ∧ yX4_init.cls ≠ "java/lang/invoke/VarHandle" ∧ (parseMethodDescriptor yX4_init.desc).map (fun d => d.parameters.length) = some 0 := by decide +kernel
theorem dk9_dX5_push_0_0 : dOk cX5_push [(0, .aload_n 0, 1), (1, .getfield 39, 3), (4, .sipush 400, 3), (7, .if_icmp .ge 31, 3), (38, .aload_n 0, 1), (39, .getfield 13, 3), (42, .aload_n 0, 1), (43, .getfield 39, 3), (46, .sipush 400, 3), (49, .if_icmp .ge 17, 3), (66, .sipush 399, 3), (69, .aaload, 1), (70, .astore 6, 2), (72, .aload 6, 2), (74, .iload_n 1, 1), (75, .putfield 71, 3), (78, .aload 6, 2), (80, .iconst 0, 1), (81, .putfield 94, 3), (84, .aload 6, 2), (86, .iload_n 2, 1), (87, .putfield 97, 3), (90, .aload 6, 2), (92, .iload_n 3, 1)] = true ∧ dOk cX5_push [(93, .putfield 100, 3), (96, .aload 6, 2), (98, .iload 4, 2), (100, .putfield 103, 3), (103, .aload 6, 2), (105, .iload 5, 2), (107, .putfield 106, 3), (110, .aload 6, 2), (112, .iconst 0, 1), (113, .putfield 109, 3), (116, .aload 6, 2), (118, .iconst 0, 1), (119, .putfield 112, 3), (122, .aload 6, 2), (124, .iconst 0, 1), (125, .putfield 115, 3), (128, .aload_n 0, 1), (129, .iconst 0, 1), (130, .putfield 49, 3), (133, .aload 6, 2), (135, .areturn, 1), (10, .aload_n 0, 1), (11, .getfield 13, 3), (14, .aload_n 0, 1)] = true ∧ dOk cX5_push [(15, .getfield 39, 3), (18, .aaload, 1), (19, .ifnonnull 19, 3), (52, .aload_n 0, 1), (53, .dup, 1), (54, .getfield 39, 3), (57, .dup_x1, 1), (58, .iconst 1, 1), (59, .iadd, 1), (60, .putfield 39, 3), (63, .goto 6, 3), (22, .aload_n 0, 1), (23, .getfield 13, 3), (26, .aload_n 0, 1), (27, .getfield 39, 3), (30, .new 11, 3), (33, .dup, 1), (34, .invokespecial 93, 3), (37, .aastore, 1)] = true := by decide +kernel
theorem dX5_push_0 : decode cX5_push 0 = .ok (.aload_n 0, 1) := dr9 dk9_dX5_push_0_0.1 0 (0, .aload_n 0, 1) rfl
theorem dX5_push_1 : decode cX5_push 1 = .ok (.getfield 39, 3) := dr9 dk9_dX5_push_0_0.1 1 (1, .getfield 39, 3) rfl
theorem dX5_push_4 : decode cX5_push 4 = .ok (.sipush 400, 3) := dr9 dk9_dX5_push_0_0.1 2 (4, .sipush 400, 3) rfl
theorem dX5_push_7 : decode cX5_push 7 = .ok (.if_icmp .ge 31, 3) := dr9 dk9_dX5_push_0_0.1 3 (7, .if_icmp .ge 31, 3) rfl
theorem dX5_push_38 : decode cX5_push 38 = .ok (.aload_n 0, 1) := dr9 dk9_dX5_push_0_0.1 4 (38, .aload_n 0, 1) rfl
theorem dX5_push_39 : decode cX5_push 39 = .ok (.getfield 13, 3) := dr9 dk9_dX5_push_0_0.1 5 (39, .getfield 13, 3) rfl
theorem dX5_push_42 : decode cX5_push 42 = .ok (.aload_n 0, 1) := dr9 dk9_dX5_push_0_0.1 6 (42, .aload_n 0, 1) rfl
theorem dX5_push_43 : decode cX5_push 43 = .ok (.getfield 39, 3) := dr9 dk9_dX5_push_0_0.1 7 (43, .getfield 39, 3) rfl
theorem dX5_push_46 : decode cX5_push 46 = .ok (.sipush 400, 3) := dr9 dk9_dX5_push_0_0.1 8 (46, .sipush 400, 3) rfl
theorem dX5_push_49 : decode cX5_push 49 = .ok (.if_icmp .ge 17, 3) := dr9 dk9_dX5_push_0_0.1 9 (49, .if_icmp .ge 17, 3) rfl
theorem dX5_push_66 : decode cX5_push 66 = .ok (.sipush 399, 3) := dr9 dk9_dX5_push_0_0.1 10 (66, .sipush 399, 3) rfl
theorem dX5_push_69 : decode cX5_push 69 = .ok (.aaload, 1) := dr9 dk9_dX5_push_0_0.1 11 (69, .aaload, 1) rfl
theorem dX5_push_70 : decode cX5_push 70 = .ok (.astore 6, 2) := dr9 dk9_dX5_push_0_0.1 12 (70, .astore 6, 2) rfl
theorem dX5_push_72 : decode cX5_push 72 = .ok (.aload 6, 2) := dr9 dk9_dX5_push_0_0.1 13 (72, .aload 6, 2) rfl
theorem dX5_push_74 : decode cX5_push 74 = .ok (.iload_n 1, 1) := dr9 dk9_dX5_push_0_0.1 14 (74, .iload_n 1, 1) rfl
theorem dX5_push_75 : decode cX5_push 75 = .ok (.putfield 71, 3) := dr9 dk9_dX5_push_0_0.1 15 (75, .putfield 71, 3) rfl
theorem dX5_push_78 : decode cX5_push 78 = .ok (.aload 6, 2) := dr9 dk9_dX5_push_0_0.1 16 (78, .aload 6, 2) rfl
theorem dX5_push_80 : decode cX5_push 80 = .ok (.iconst 0, 1) := dr9 dk9_dX5_push_0_0.1 17 (80, .iconst 0, 1) rfl
theorem dX5_push_81 : decode cX5_push 81 = .ok (.putfield 94, 3) := dr9 dk9_dX5_push_0_0.1 18 (81, .putfield 94, 3) rfl
theorem dX5_push_84 : decode cX5_push 84 = .ok (.aload 6, 2) := dr9 dk9_dX5_push_0_0.1 19 (84, .aload 6, 2) rfl
theorem dX5_push_86 : decode cX5_push 86 = .ok (.iload_n 2, 1) := dr9 dk9_dX5_push_0_0.1 20 (86, .iload_n 2, 1) rfl
theorem dX5_push_87 : decode cX5_push 87 = .ok (.putfield 97, 3) := dr9 dk9_dX5_push_0_0.1 21 (87, .putfield 97, 3) rfl
theorem dX5_push_90 : decode cX5_push 90 = .ok (.aload 6, 2) := dr9 dk9_dX5_push_0_0.1 22 (90, .aload 6, 2) rfl
theorem dX5_push_92 : decode cX5_push 92 = .ok (.iload_n 3, 1) := dr9 dk9_dX5_push_0_0.1 23 (92, .iload_n 3, 1) rfl
theorem dX5_push_93 : decode cX5_push 93 = .ok (.putfield 100, 3) := dr9 dk9_dX5_push_0_0.2.1 0 (93, .putfield 100, 3) rfl
theorem dX5_push_96 : decode cX5_push 96 = .ok (.aload 6, 2) := dr9 dk9_dX5_push_0_0.2.1 1 (96, .aload 6, 2) rfl
theorem dX5_push_98 : decode cX5_push 98 = .ok (.iload 4, 2) := dr9 dk9_dX5_push_0_0.2.1 2 (98, .iload 4, 2) rfl
theorem dX5_push_100 : decode cX5_push 100 = .ok (.putfield 103, 3) := dr9 dk9_dX5_push_0_0.2.1 3 (100, .putfield 103, 3) rfl
theorem dX5_push_103 : decode cX5_push 103 = .ok (.aload 6, 2) := dr9 dk9_dX5_push_0_0.2.1 4 (103, .aload 6, 2) rfl
theorem dX5_push_105 : decode cX5_push 105 = .ok (.iload 5, 2) := dr9 dk9_dX5_push_0_0.2.1 5 (105, .iload 5, 2) rfl
theorem dX5_push_107 : decode cX5_push 107 = .ok (.putfield 106, 3) := dr9 dk9_dX5_push_0_0.2.1 6 (107, .putfield 106, 3) rfl
theorem dX5_push_110 : decode cX5_push 110 = .ok (.aload 6, 2) := dr9 dk9_dX5_push_0_0.2.1 7 (110, .aload 6, 2) rfl
theorem dX5_push_112 : decode cX5_push 112 = .ok (.iconst 0, 1) := dr9 dk9_dX5_push_0_0.2.1 8 (112, .iconst 0, 1) rfl
theorem dX5_push_113 : decode cX5_push 113 = .ok (.putfield 109, 3) := dr9 dk9_dX5_push_0_0.2.1 9 (113, .putfield 109, 3) rfl
theorem dX5_push_116 : decode cX5_push 116 = .ok (.aload 6, 2) := dr9 dk9_dX5_push_0_0.2.1 10 (116, .aload 6, 2) rfl
theorem dX5_push_118 : decode cX5_push 118 = .ok (.iconst 0, 1) := dr9 dk9_dX5_push_0_0.2.1 11 (118, .iconst 0, 1) rfl
theorem dX5_push_119 : decode cX5_push 119 = .ok (.putfield 112, 3) := dr9 dk9_dX5_push_0_0.2.1 12 (119, .putfield 112, 3) rfl
theorem dX5_push_122 : decode cX5_push 122 = .ok (.aload 6, 2) := dr9 dk9_dX5_push_0_0.2.1 13 (122, .aload 6, 2) rfl
theorem dX5_push_124 : decode cX5_push 124 = .ok (.iconst 0, 1) := dr9 dk9_dX5_push_0_0.2.1 14 (124, .iconst 0, 1) rfl
theorem dX5_push_125 : decode cX5_push 125 = .ok (.putfield 115, 3) := dr9 dk9_dX5_push_0_0.2.1 15 (125, .putfield 115, 3) rfl
theorem dX5_push_128 : decode cX5_push 128 = .ok (.aload_n 0, 1) := dr9 dk9_dX5_push_0_0.2.1 16 (128, .aload_n 0, 1) rfl
theorem dX5_push_129 : decode cX5_push 129 = .ok (.iconst 0, 1) := dr9 dk9_dX5_push_0_0.2.1 17 (129, .iconst 0, 1) rfl
theorem dX5_push_130 : decode cX5_push 130 = .ok (.putfield 49, 3) := dr9 dk9_dX5_push_0_0.2.1 18 (130, .putfield 49, 3) rfl
theorem dX5_push_133 : decode cX5_push 133 = .ok (.aload 6, 2) := dr9 dk9_dX5_push_0_0.2.1 19 (133, .aload 6, 2) rfl
theorem dX5_push_135 : decode cX5_push 135 = .ok (.areturn, 1) := dr9 dk9_dX5_push_0_0.2.1 20 (135, .areturn, 1) rfl
theorem dX5_push_10 : decode cX5_push 10 = .ok (.aload_n 0, 1) := dr9 dk9_dX5_push_0_0.2.1 21 (10, .aload_n 0, 1) rfl
theorem dX5_push_11 : decode cX5_push 11 = .ok (.getfield 13, 3) := dr9 dk9_dX5_push_0_0.2.1 22 (11, .getfield 13, 3) rfl
theorem dX5_push_14 : decode cX5_push 14 = .ok (.aload_n 0, 1) := dr9 dk9_dX5_push_0_0.2.1 23 (14, .aload_n 0, 1) rfl
theorem dX5_push_15 : decode cX5_push 15 = .ok (.getfield 39, 3) := dr9 dk9_dX5_push_0_0.2.2 0 (15, .getfield 39, 3) rfl
theorem dX5_push_18 : decode cX5_push 18 = .ok (.aaload, 1) := dr9 dk9_dX5_push_0_0.2.2 1 (18, .aaload, 1) rfl
theorem dX5_push_19 : decode cX5_push 19 = .ok (.ifnonnull 19, 3) := dr9 dk9_dX5_push_0_0.2.2 2 (19, .ifnonnull 19, 3) rfl
theorem dX5_push_52 : decode cX5_push 52 = .ok (.aload_n 0, 1) := dr9 dk9_dX5_push_0_0.2.2 3 (52, .aload_n 0, 1) rfl
theorem dX5_push_53 : decode cX5_push 53 = .ok (.dup, 1) := dr9 dk9_dX5_push_0_0.2.2 4 (53, .dup, 1) rfl
theorem dX5_push_54 : decode cX5_push 54 = .ok (.getfield 39, 3) := dr9 dk9_dX5_push_0_0.2.2 5 (54, .getfield 39, 3) rfl
theorem dX5_push_57 : decode cX5_push 57 = .ok (.dup_x1, 1) := dr9 dk9_dX5_push_0_0.2.2 6 (57, .dup_x1, 1) rfl
theorem dX5_push_58 : decode cX5_push 58 = .ok (.iconst 1, 1) := dr9 dk9_dX5_push_0_0.2.2 7 (58, .iconst 1, 1) rfl
theorem dX5_push_59 : decode cX5_push 59 = .ok (.iadd, 1) := dr9 dk9_dX5_push_0_0.2.2 8 (59, .iadd, 1) rfl
theorem dX5_push_60 : decode cX5_push 60 = .ok (.putfield 39, 3) := dr9 dk9_dX5_push_0_0.2.2 9 (60, .putfield 39, 3) rfl
theorem dX5_push_63 : decode cX5_push 63 = .ok (.goto 6, 3) := dr9 dk9_dX5_push_0_0.2.2 10 (63, .goto 6, 3) rfl
theorem dX5_push_22 : decode cX5_push 22 = .ok (.aload_n 0, 1) := dr9 dk9_dX5_push_0_0.2.2 11 (22, .aload_n 0, 1) rfl
theorem dX5_push_23 : decode cX5_push 23 = .ok (.getfield 13, 3) := dr9 dk9_dX5_push_0_0.2.2 12 (23, .getfield 13, 3) rfl
theorem dX5_push_26 : decode cX5_push 26 = .ok (.aload_n 0, 1) := dr9 dk9_dX5_push_0_0.2.2 13 (26, .aload_n 0, 1) rfl
theorem dX5_push_27 : decode cX5_push 27 = .ok (.getfield 39, 3) := dr9 dk9_dX5_push_0_0.2.2 14 (27, .getfield 39, 3) rfl
theorem dX5_push_30 : decode cX5_push 30 = .ok (.new 11, 3) := dr9 dk9_dX5_push_0_0.2.2 15 (30, .new 11, 3) rfl
theorem dX5_push_33 : decode cX5_push 33 = .ok (.dup, 1) := dr9 dk9_dX5_push_0_0.2.2 16 (33, .dup, 1) rfl
theorem dX5_push_34 : decode cX5_push 34 = .ok (.invokespecial 93, 3) := dr9 dk9_dX5_push_0_0.2.2 17 (34, .invokespecial 93, 3) rfl
theorem dX5_push_37 : decode cX5_push 37 = .ok (.aastore, 1) := dr9 dk9_dX5_push_0_0.2.2 18 (37, .aastore, 1) rfl
abbrev r_x_push (Z : XZ) : Room := { frames := 2, cells := zcc Z, slots := zss Z, locals := 40 }
abbrev q_x_push (D : va_G) (ks : KS) (ad : Nat → Nat) (kk : Nat → ClassId) (V : Vf) (L : Lf) (Z : XZ) (p0 : Int32) (p1 : Int32) (p2 : Int32) (p3 : Int32) (p4 : Int32) (A : Nat → Prop) : Array Value → State → Outcome → State → Prop := qZr D (fun (u : Vf × Lf × XZ × Nat) => rgd bX u.1 ∧ agr [(5, 6), (5, 9)] [67, 68, 69, 70, 71, 72, 73, 74, 75, 76, 77, 78, 79, 80, 81, 82, 83, 84, 85] V u.1 ∧ u.2.1 = L ∧ ZL Z u.2.2.1 ∧ (u.2.2.2 < u.2.2.1.nf) ∧ (ME V u.1 u.2.2.2) ∧ (u.1 67 u.2.2.2 = p0 ∧ u.1 68 u.2.2.2 = 0 ∧ u.1 70 u.2.2.2 = p2 ∧ u.1 71 u.2.2.2 = p3 ∧ u.1 75 u.2.2.2 = 0 ∧ u.1 76 u.2.2.2 = 0) ∧ ((u.2.2.2 : Int) + 1 = (u.1 5 6).toInt) ∧ ((u.2.2.2 : Int) ≤ (V 5 6).toInt ∧ (V 5 6).toInt ≤ (u.2.2.2 : Int) + 1) ∧ ((u.1 5 9).toInt = 0) ∧ (u.2.2.1.ln = Z.ln ∧ u.2.2.1.nf ≤ 400)) (fun u => u.2.2.1.fa u.2.2.2) (fun u => xw ad kk u.1 u.2.1 u.2.2.1) (fun u => xty kk u.2.2.1) (fun u => zcc Z - zcc u.2.2.1) (fun u => zss Z - zss u.2.2.1) A
set_option maxHeartbeats 4000000 in
set_option maxRecDepth 100000 in
theorem x_push (l : Launch) (D : va_G) (ks : KS) (sz : Nat) (ad : Nat → Nat) (kk : Nat → ClassId) (V : Vf) (L : Lf) (Z : XZ) (p0 : Int32) (p1 : Int32) (p2 : Int32) (p3 : Int32) (p4 : Int32) (hMV : rgd bX V) (rg_p3 : (-1) ≤ p3.toInt ∧ p3.toInt ≤ 23) (rg_p4 : 0 ≤ p4.toInt ∧ p4.toInt ≤ 39) (hdn : (V 5 6).toInt ≤ (Z.nf : Int)) (hnf : (Z.nf : Int) ≤ 400)  : Met l yX5_push (Cond.code yX5_push cX5_push 7 (some (.object "WiringHouse$Frame")) :: GW) (r_x_push Z) (va_Pc [.ref (ad 5), .int p0, .int p1, .int p2, .int p3, .int p4] (gp D ks (xw ad kk V L Z) (xty kk Z) sz)) (q_x_push D ks ad kk V L Z p0 p1 p2 p3 p4 (va_A (xw ad kk V L Z) sz)) (zcc Z) (zss Z) (va_A (xw ad kk V L Z) sz) := by
  refine g_met (q_x_push D ks ad kk V L Z p0 p1 p2 p3 p4) (by decide) (Nat.le_of_ble_eq_true rfl) ?_
  intro p e s m below meth c A ls H locs hx hb hr hml hown hg hlocks hin hnw hgk hP hK hD hS hA hl
  have hown : s.vm.findClass RX5 = some m.cls := hown
  have hl : lv_has ls 7 [(0, .ref (ad 5)), (1, .int p0), (2, .int p1), (3, .int p2), (4, .int p3), (5, .int p4)] := hl
  have hP : va_P D vwCl (xw ad kk V L Z) H := hP
  have hD : va_D A (xw ad kk V L Z) := hD
  have hK : va_K D vwCl (xty kk Z) s := hK
  have agV : agr [(5, 6), (5, 9)] [67, 68, 69, 70, 71, 72, 73, 74, 75, 76, 77, 78, 79, 80, 81, 82, 83, 84, 85] V V := agr.rf
  have zoZ : ZL Z Z := ZL.rf
  refine W.know (fun ka kb => ?_)
  refine W.tight (k := zcc Z - zcc Z) (n := zss Z - zss Z) (by omega) (by omega) ?_
  have r1 : 0 ≤ ((V 5 6)).toInt ∧ ((V 5 6)).toInt ≤ 400 := hMV 5 6
  have kdp := i_clamp (x := V 5 6) rfl (by omega)
  refine lv_aload_n hx hb dX5_push_0 rfl (lv_at hl 0 rfl) ?_
  refine va_get (D := D) (ci := 5) (v := .int (V 5 6)) (fs := (xfMachine ad V L Z)) (C := RX5) (T := TX5) (N := 15) hx hb hg inX5 hown hK hP 5 xgMachine rfl 6 (by decide) (hg _ w673) (fun _ h9 => h9) rfl dX5_push_1 ?_
  refine lv_sipush (v := 400) hx hb dX5_push_4 (by decide) ?_
  refine lv_icmp_ge (tgt := 38) hx hb dX5_push_7 (by decide) (fun c2 => ?_) (fun c2 => ?_)
  · skip
    have f3 : 400 ≤ ((V 5 6)).toInt := b_le (by decide) rfl c2
    refine lv_aload_n hx hb dX5_push_38 rfl (lv_at hl 0 rfl) ?_
    refine va_get (D := D) (ci := 5) (v := .ref (ad 35)) (fs := (xfMachine ad V L Z)) (C := RX5) (T := TX5) (N := 15) hx hb hg inX5 hown hK hP 5 xgMachine rfl 2 (by decide) (hg _ w669) (fun _ h9 => h9) rfl dX5_push_39 ?_
    refine lv_aload_n hx hb dX5_push_42 rfl (lv_at hl 0 rfl) ?_
    refine va_get (D := D) (ci := 5) (v := .int (V 5 6)) (fs := (xfMachine ad V L Z)) (C := RX5) (T := TX5) (N := 15) hx hb hg inX5 hown hK hP 5 xgMachine rfl 6 (by decide) (hg _ w673) (fun _ h9 => h9) rfl dX5_push_43 ?_
    refine lv_sipush (v := 400) hx hb dX5_push_46 (by decide) ?_
    refine lv_icmp_ge (tgt := 66) hx hb dX5_push_49 (by decide) (fun c4 => ?_) (fun c4 => ?_)
    · skip
      have f5 : 400 ≤ ((V 5 6)).toInt := b_le (by decide) rfl c4
      refine lv_sipush (v := 399) hx hb dX5_push_66 (by decide) ?_
      refine va_aldq (D := D) (i := 399) hx hb hK hP 35 28 rfl rfl (i_in (a := 399) (by decide) (by decide)) dX5_push_69 ?_
      refine g_topv (v := .ref (Z.fa 399)) (by rw [show Int32.toNatClampNeg 399 = 399 from by decide]; exact congrArg va_rf (if_pos (by omega))) ?_
      have il6 : 399 < Z.nf := by omega
      refine lv_astore (lv' := [(6, .ref (Z.fa 399)), (0, .ref (ad 5)), (1, .int p0), (2, .int p1), (3, .int p2), (4, .int p3), (5, .int p4)]) hx hb dX5_push_70 hl (by decide) rfl (fun ls hl => ?_)
      refine lv_aload hx hb dX5_push_72 (lv_at hl 0 rfl) ?_
      refine lv_iload_n hx hb dX5_push_74 rfl (lv_at hl 2 rfl) ?_
      refine va_putN (D := D) (ci := 4) (v := .int p0) (ty := tyX4 0) (fs := (xfFrame V 399)) (C := RX4) (T := TX4) (N := 19) hx hb hg inX4 tyX4 tyX4_ok nmX4 hown hK hP hD hS (336 + 399) (xgFrame il6) rfl 0 (by decide) (hnw.use 1189 n1189 rfl) (fun _ h9 => h9) rfl (tyX4_ok 0 (by decide)) rfl rfl (Nat.le_of_ble_eq_true rfl) dX5_push_75 (fun H locs hP hD hS => ?_)
      obtain ⟨V7, hV7⟩ : ∃ z, z = up2 V 67 399 p0 := ⟨_, rfl⟩
      have ew8 : (xw ad kk V L Z).set (336 + 399) ((Z.fa 399), .inr (4, (xfFrame V 399).set 0 (.int p0))) = xw ad kk V7 L Z := by rw [hV7]; exact xpFrame_kind il6
      have hP : va_P D vwCl (xw ad kk V7 L Z) H := by rw [← ew8]; exact hP
      have hD : va_D A (xw ad kk V7 L Z) := by rw [← ew8]; exact hD
      have hMV7 : rgd bX V7 := hMV.put hV7 (i_full _)
      have agV7 : agr [(5, 6), (5, 9)] [67, 68, 69, 70, 71, 72, 73, 74, 75, 76, 77, 78, 79, 80, 81, 82, 83, 84, 85] V V7 := agV.up hV7 rfl
      refine lv_aload hx hb dX5_push_78 (lv_at hl 0 rfl) ?_
      refine lv_iconst (v := 0) hx hb dX5_push_80 (by decide) ?_
      refine va_putN (D := D) (ci := 4) (v := .int 0) (ty := tyX4 1) (fs := (xfFrame V7 399)) (C := RX4) (T := TX4) (N := 19) hx hb hg inX4 tyX4 tyX4_ok nmX4 hown hK hP hD hS (336 + 399) (xgFrame il6) rfl 1 (by decide) (hnw.use 1190 n1190 rfl) (fun _ h9 => h9) rfl (tyX4_ok 1 (by decide)) rfl rfl (Nat.le_of_ble_eq_true rfl) dX5_push_81 (fun H locs hP hD hS => ?_)
      obtain ⟨V9, hV9⟩ : ∃ z, z = up2 V7 68 399 0 := ⟨_, rfl⟩
      have ew10 : (xw ad kk V7 L Z).set (336 + 399) ((Z.fa 399), .inr (4, (xfFrame V7 399).set 1 (.int 0))) = xw ad kk V9 L Z := by rw [hV9]; exact xpFrame_phase il6
      have hP : va_P D vwCl (xw ad kk V9 L Z) H := by rw [← ew10]; exact hP
      have hD : va_D A (xw ad kk V9 L Z) := by rw [← ew10]; exact hD
      have hMV9 : rgd bX V9 := hMV7.put hV9 (i_full _)
      have agV9 : agr [(5, 6), (5, 9)] [67, 68, 69, 70, 71, 72, 73, 74, 75, 76, 77, 78, 79, 80, 81, 82, 83, 84, 85] V V9 := agV7.up hV9 rfl
      refine lv_aload hx hb dX5_push_84 (lv_at hl 0 rfl) ?_
      refine lv_iload_n hx hb dX5_push_86 rfl (lv_at hl 3 rfl) ?_
      refine va_putN (D := D) (ci := 4) (v := .int p1) (ty := tyX4 2) (fs := (xfFrame V9 399)) (C := RX4) (T := TX4) (N := 19) hx hb hg inX4 tyX4 tyX4_ok nmX4 hown hK hP hD hS (336 + 399) (xgFrame il6) rfl 2 (by decide) (hnw.use 1191 n1191 rfl) (fun _ h9 => h9) rfl (tyX4_ok 2 (by decide)) rfl rfl (Nat.le_of_ble_eq_true rfl) dX5_push_87 (fun H locs hP hD hS => ?_)
      obtain ⟨V11, hV11⟩ : ∃ z, z = up2 V9 69 399 p1 := ⟨_, rfl⟩
      have ew12 : (xw ad kk V9 L Z).set (336 + 399) ((Z.fa 399), .inr (4, (xfFrame V9 399).set 2 (.int p1))) = xw ad kk V11 L Z := by rw [hV11]; exact xpFrame_level il6
      have hP : va_P D vwCl (xw ad kk V11 L Z) H := by rw [← ew12]; exact hP
      have hD : va_D A (xw ad kk V11 L Z) := by rw [← ew12]; exact hD
      have hMV11 : rgd bX V11 := hMV9.put hV11 (i_full _)
      have agV11 : agr [(5, 6), (5, 9)] [67, 68, 69, 70, 71, 72, 73, 74, 75, 76, 77, 78, 79, 80, 81, 82, 83, 84, 85] V V11 := agV9.up hV11 rfl
      refine lv_aload hx hb dX5_push_90 (lv_at hl 0 rfl) ?_
      refine lv_iload_n hx hb dX5_push_92 rfl (lv_at hl 4 rfl) ?_
      refine va_putN (D := D) (ci := 4) (v := .int p2) (ty := tyX4 3) (fs := (xfFrame V11 399)) (C := RX4) (T := TX4) (N := 19) hx hb hg inX4 tyX4 tyX4_ok nmX4 hown hK hP hD hS (336 + 399) (xgFrame il6) rfl 3 (by decide) (hnw.use 1192 n1192 rfl) (fun _ h9 => h9) rfl (tyX4_ok 3 (by decide)) rfl rfl (Nat.le_of_ble_eq_true rfl) dX5_push_93 (fun H locs hP hD hS => ?_)
      obtain ⟨V13, hV13⟩ : ∃ z, z = up2 V11 70 399 p2 := ⟨_, rfl⟩
      have ew14 : (xw ad kk V11 L Z).set (336 + 399) ((Z.fa 399), .inr (4, (xfFrame V11 399).set 3 (.int p2))) = xw ad kk V13 L Z := by rw [hV13]; exact xpFrame_object il6
      have hP : va_P D vwCl (xw ad kk V13 L Z) H := by rw [← ew14]; exact hP
      have hD : va_D A (xw ad kk V13 L Z) := by rw [← ew14]; exact hD
      have hMV13 : rgd bX V13 := hMV11.put hV13 (i_full _)
      have agV13 : agr [(5, 6), (5, 9)] [67, 68, 69, 70, 71, 72, 73, 74, 75, 76, 77, 78, 79, 80, 81, 82, 83, 84, 85] V V13 := agV11.up hV13 rfl
      refine lv_aload hx hb dX5_push_96 (lv_at hl 0 rfl) ?_
      refine lv_iload hx hb dX5_push_98 (lv_at hl 5 rfl) ?_
      refine va_putN (D := D) (ci := 4) (v := .int p3) (ty := tyX4 4) (fs := (xfFrame V13 399)) (C := RX4) (T := TX4) (N := 19) hx hb hg inX4 tyX4 tyX4_ok nmX4 hown hK hP hD hS (336 + 399) (xgFrame il6) rfl 4 (by decide) (hnw.use 1193 n1193 rfl) (fun _ h9 => h9) rfl (tyX4_ok 4 (by decide)) rfl rfl (Nat.le_of_ble_eq_true rfl) dX5_push_100 (fun H locs hP hD hS => ?_)
      obtain ⟨V15, hV15⟩ : ∃ z, z = up2 V13 71 399 p3 := ⟨_, rfl⟩
      have ew16 : (xw ad kk V13 L Z).set (336 + 399) ((Z.fa 399), .inr (4, (xfFrame V13 399).set 4 (.int p3))) = xw ad kk V15 L Z := by rw [hV15]; exact xpFrame_component il6
      have hP : va_P D vwCl (xw ad kk V15 L Z) H := by rw [← ew16]; exact hP
      have hD : va_D A (xw ad kk V15 L Z) := by rw [← ew16]; exact hD
      have hMV15 : rgd bX V15 := hMV13.put hV15 (show (-1) ≤ p3.toInt ∧ p3.toInt ≤ 23 from by omega)
      have agV15 : agr [(5, 6), (5, 9)] [67, 68, 69, 70, 71, 72, 73, 74, 75, 76, 77, 78, 79, 80, 81, 82, 83, 84, 85] V V15 := agV13.up hV15 rfl
      refine lv_aload hx hb dX5_push_103 (lv_at hl 0 rfl) ?_
      refine lv_iload hx hb dX5_push_105 (lv_at hl 6 rfl) ?_
      refine va_putN (D := D) (ci := 4) (v := .int p4) (ty := tyX4 5) (fs := (xfFrame V15 399)) (C := RX4) (T := TX4) (N := 19) hx hb hg inX4 tyX4 tyX4_ok nmX4 hown hK hP hD hS (336 + 399) (xgFrame il6) rfl 5 (by decide) (hnw.use 1194 n1194 rfl) (fun _ h9 => h9) rfl (tyX4_ok 5 (by decide)) rfl rfl (Nat.le_of_ble_eq_true rfl) dX5_push_107 (fun H locs hP hD hS => ?_)
      obtain ⟨V17, hV17⟩ : ∃ z, z = up2 V15 72 399 p4 := ⟨_, rfl⟩
      have ew18 : (xw ad kk V15 L Z).set (336 + 399) ((Z.fa 399), .inr (4, (xfFrame V15 399).set 5 (.int p4))) = xw ad kk V17 L Z := by rw [hV17]; exact xpFrame_scope il6
      have hP : va_P D vwCl (xw ad kk V17 L Z) H := by rw [← ew18]; exact hP
      have hD : va_D A (xw ad kk V17 L Z) := by rw [← ew18]; exact hD
      have hMV17 : rgd bX V17 := hMV15.put hV17 (show 0 ≤ p4.toInt ∧ p4.toInt ≤ 39 from by omega)
      have agV17 : agr [(5, 6), (5, 9)] [67, 68, 69, 70, 71, 72, 73, 74, 75, 76, 77, 78, 79, 80, 81, 82, 83, 84, 85] V V17 := agV15.up hV17 rfl
      refine lv_aload hx hb dX5_push_110 (lv_at hl 0 rfl) ?_
      refine lv_iconst (v := 0) hx hb dX5_push_112 (by decide) ?_
      refine va_putN (D := D) (ci := 4) (v := .int 0) (ty := tyX4 8) (fs := (xfFrame V17 399)) (C := RX4) (T := TX4) (N := 19) hx hb hg inX4 tyX4 tyX4_ok nmX4 hown hK hP hD hS (336 + 399) (xgFrame il6) rfl 8 (by decide) (hnw.use 1197 n1197 rfl) (fun _ h9 => h9) rfl (tyX4_ok 8 (by decide)) rfl rfl (Nat.le_of_ble_eq_true rfl) dX5_push_113 (fun H locs hP hD hS => ?_)
      obtain ⟨V19, hV19⟩ : ∃ z, z = up2 V17 75 399 0 := ⟨_, rfl⟩
      have ew20 : (xw ad kk V17 L Z).set (336 + 399) ((Z.fa 399), .inr (4, (xfFrame V17 399).set 8 (.int 0))) = xw ad kk V19 L Z := by rw [hV19]; exact xpFrame_position il6
      have hP : va_P D vwCl (xw ad kk V19 L Z) H := by rw [← ew20]; exact hP
      have hD : va_D A (xw ad kk V19 L Z) := by rw [← ew20]; exact hD
      have hMV19 : rgd bX V19 := hMV17.put hV19 (show 0 ≤ Int32.toInt 0 ∧ Int32.toInt 0 ≤ 12 from by decide)
      have agV19 : agr [(5, 6), (5, 9)] [67, 68, 69, 70, 71, 72, 73, 74, 75, 76, 77, 78, 79, 80, 81, 82, 83, 84, 85] V V19 := agV17.up hV19 rfl
      refine lv_aload hx hb dX5_push_116 (lv_at hl 0 rfl) ?_
      refine lv_iconst (v := 0) hx hb dX5_push_118 (by decide) ?_
      refine va_putN (D := D) (ci := 4) (v := .int 0) (ty := tyX4 9) (fs := (xfFrame V19 399)) (C := RX4) (T := TX4) (N := 19) hx hb hg inX4 tyX4 tyX4_ok nmX4 hown hK hP hD hS (336 + 399) (xgFrame il6) rfl 9 (by decide) (hnw.use 1198 n1198 rfl) (fun _ h9 => h9) rfl (tyX4_ok 9 (by decide)) rfl rfl (Nat.le_of_ble_eq_true rfl) dX5_push_119 (fun H locs hP hD hS => ?_)
      obtain ⟨V21, hV21⟩ : ∃ z, z = up2 V19 76 399 0 := ⟨_, rfl⟩
      have ew22 : (xw ad kk V19 L Z).set (336 + 399) ((Z.fa 399), .inr (4, (xfFrame V19 399).set 9 (.int 0))) = xw ad kk V21 L Z := by rw [hV21]; exact xpFrame_item il6
      have hP : va_P D vwCl (xw ad kk V21 L Z) H := by rw [← ew22]; exact hP
      have hD : va_D A (xw ad kk V21 L Z) := by rw [← ew22]; exact hD
      have hMV21 : rgd bX V21 := hMV19.put hV21 (i_full _)
      have agV21 : agr [(5, 6), (5, 9)] [67, 68, 69, 70, 71, 72, 73, 74, 75, 76, 77, 78, 79, 80, 81, 82, 83, 84, 85] V V21 := agV19.up hV21 rfl
      refine lv_aload hx hb dX5_push_122 (lv_at hl 0 rfl) ?_
      refine lv_iconst (v := 0) hx hb dX5_push_124 (by decide) ?_
      refine va_putN (D := D) (ci := 4) (v := .int 0) (ty := tyX4 16) (fs := (xfFrame V21 399)) (C := RX4) (T := TX4) (N := 19) hx hb hg inX4 tyX4 tyX4_ok nmX4 hown hK hP hD hS (336 + 399) (xgFrame il6) rfl 16 (by decide) (hnw.use 1205 n1205 rfl) (fun _ h9 => h9) rfl (tyX4_ok 16 (by decide)) rfl rfl (Nat.le_of_ble_eq_true rfl) dX5_push_125 (fun H locs hP hD hS => ?_)
      obtain ⟨V23, hV23⟩ : ∃ z, z = up2 V21 83 399 0 := ⟨_, rfl⟩
      have ew24 : (xw ad kk V21 L Z).set (336 + 399) ((Z.fa 399), .inr (4, (xfFrame V21 399).set 16 (.int 0))) = xw ad kk V23 L Z := by rw [hV23]; exact xpFrame_spent il6
      have hP : va_P D vwCl (xw ad kk V23 L Z) H := by rw [← ew24]; exact hP
      have hD : va_D A (xw ad kk V23 L Z) := by rw [← ew24]; exact hD
      have hMV23 : rgd bX V23 := hMV21.put hV23 (show 0 ≤ Int32.toInt 0 ∧ Int32.toInt 0 ≤ 1 from by decide)
      have agV23 : agr [(5, 6), (5, 9)] [67, 68, 69, 70, 71, 72, 73, 74, 75, 76, 77, 78, 79, 80, 81, 82, 83, 84, 85] V V23 := agV21.up hV23 rfl
      refine lv_aload_n hx hb dX5_push_128 rfl (lv_at hl 1 rfl) ?_
      refine lv_iconst (v := 0) hx hb dX5_push_129 (by decide) ?_
      refine va_put (D := D) (ci := 5) (v := .int 0) (ty := tyX5 9) (fs := (xfMachine ad V23 L Z)) (C := RX5) (T := TX5) (N := 15) hx hb hg inX5 tyX5 tyX5_ok nmX5 hown hK hP hD hS 5 xgMachine rfl 9 (by decide) (hg _ w676) (fun _ h9 => h9) rfl (tyX5_ok 9 (by decide)) rfl rfl (Nat.le_of_ble_eq_true rfl) dX5_push_130 (fun H locs hP hD hS => ?_)
      obtain ⟨V25, hV25⟩ : ∃ z, z = up2 V23 5 9 0 := ⟨_, rfl⟩
      have ew26 : (xw ad kk V23 L Z).set 5 ((ad 5), .inr (5, (xfMachine ad V23 L Z).set 9 (.int 0))) = xw ad kk V25 L Z := by rw [hV25]; exact xw_ss (by decide) rfl (xb_si (by decide))
      have hP : va_P D vwCl (xw ad kk V25 L Z) H := by rw [← ew26]; exact hP
      have hD : va_D A (xw ad kk V25 L Z) := by rw [← ew26]; exact hD
      have hMV25 : rgd bX V25 := hMV23.put hV25 (by decide)
      have agV25 : agr [(5, 6), (5, 9)] [67, 68, 69, 70, 71, 72, 73, 74, 75, 76, 77, 78, 79, 80, 81, 82, 83, 84, 85] V V25 := agV23.up hV25 rfl
      refine lv_aload hx hb dX5_push_133 (lv_at hl 0 rfl) ?_
      have pq27 : (V25 5 6).toInt = ((V 5 6)).toInt := congrArg Int32.toInt ((up2_k hV25 (by decide)).trans ((up2_o hV23 (by decide)).trans ((up2_o hV21 (by decide)).trans ((up2_o hV19 (by decide)).trans ((up2_o hV17 (by decide)).trans ((up2_o hV15 (by decide)).trans ((up2_o hV13 (by decide)).trans ((up2_o hV11 (by decide)).trans ((up2_o hV9 (by decide)).trans (up2_o hV7 (by decide)))))))))))
      have pq28 : (V25 5 9).toInt = 0 := (congrArg Int32.toInt (up2_s hV25)).trans (by decide)
      have me29 : ME V V25 399 := (ME.up (ME.up (ME.up (ME.up (ME.up (ME.up (ME.up (ME.up (ME.up (ME.up ME.rf hV7 (Or.inl ⟨by decide, by decide, Nat.le_refl _⟩)) hV9 (Or.inl ⟨by decide, by decide, Nat.le_refl _⟩)) hV11 (Or.inl ⟨by decide, by decide, Nat.le_refl _⟩)) hV13 (Or.inl ⟨by decide, by decide, Nat.le_refl _⟩)) hV15 (Or.inl ⟨by decide, by decide, Nat.le_refl _⟩)) hV17 (Or.inl ⟨by decide, by decide, Nat.le_refl _⟩)) hV19 (Or.inl ⟨by decide, by decide, Nat.le_refl _⟩)) hV21 (Or.inl ⟨by decide, by decide, Nat.le_refl _⟩)) hV23 (Or.inl ⟨by decide, by decide, Nat.le_refl _⟩)) hV25 (Or.inr (by omega)))
      have rp30 : Z.ln = Z.ln ∧ Z.nf ≤ 400 := ⟨rfl, by omega⟩
      refine W.know (fun kr1 kr2 => ?_)
      refine W.widen (k := zcc Z) (n := zss Z) (Nat.sub_le _ _) (Nat.sub_le _ _) ?_
      exact W.aret (v := .ref (Z.fa 399)) hx hb hr (Or.inl ⟨_, rfl⟩) (Or.inr ⟨_, rfl⟩) (fun t ht hW => ⟨⟨(V25, L, Z, 399), rfl, ⟨hMV25, agV25, rfl, zoZ, il6, me29, ⟨((up2_o hV25 (by decide)).trans ((up2_o hV23 (by decide)).trans ((up2_o hV21 (by decide)).trans ((up2_o hV19 (by decide)).trans ((up2_o hV17 (by decide)).trans ((up2_o hV15 (by decide)).trans ((up2_o hV13 (by decide)).trans ((up2_o hV11 (by decide)).trans ((up2_o hV9 (by decide)).trans (up2_s hV7)))))))))), ((up2_o hV25 (by decide)).trans ((up2_o hV23 (by decide)).trans ((up2_o hV21 (by decide)).trans ((up2_o hV19 (by decide)).trans ((up2_o hV17 (by decide)).trans ((up2_o hV15 (by decide)).trans ((up2_o hV13 (by decide)).trans ((up2_o hV11 (by decide)).trans (up2_s hV9))))))))), ((up2_o hV25 (by decide)).trans ((up2_o hV23 (by decide)).trans ((up2_o hV21 (by decide)).trans ((up2_o hV19 (by decide)).trans ((up2_o hV17 (by decide)).trans ((up2_o hV15 (by decide)).trans (up2_s hV13))))))), ((up2_o hV25 (by decide)).trans ((up2_o hV23 (by decide)).trans ((up2_o hV21 (by decide)).trans ((up2_o hV19 (by decide)).trans ((up2_o hV17 (by decide)).trans (up2_s hV15)))))), ((up2_o hV25 (by decide)).trans ((up2_o hV23 (by decide)).trans ((up2_o hV21 (by decide)).trans (up2_s hV19)))), ((up2_o hV25 (by decide)).trans ((up2_o hV23 (by decide)).trans (up2_s hV21)))⟩, (show (399 : Int) + 1 = (V25 5 6).toInt from by omega), (show (399 : Int) ≤ (V 5 6).toInt ∧ (V 5 6).toInt ≤ (399 : Int) + 1 from by omega), (show (V25 5 9).toInt = 0 from by omega), rp30⟩, ⟨by rw [ht]; exact hP, va_K.moved hW.alike hK, hD⟩, by rw [ht]; exact kr1, by rw [ht]; exact kr2⟩, hS.F ht⟩) hS.2.2 dX5_push_135
    · skip
      have f31 : ((V 5 6)).toInt < 400 := b_nle (by decide) rfl c4
      exfalso; omega
  · skip
    have f32 : ((V 5 6)).toInt < 400 := b_nle (by decide) rfl c2
    refine lv_aload_n hx hb dX5_push_10 rfl (lv_at hl 0 rfl) ?_
    refine va_get (D := D) (ci := 5) (v := .ref (ad 35)) (fs := (xfMachine ad V L Z)) (C := RX5) (T := TX5) (N := 15) hx hb hg inX5 hown hK hP 5 xgMachine rfl 2 (by decide) (hg _ w669) (fun _ h9 => h9) rfl dX5_push_11 ?_
    refine lv_aload_n hx hb dX5_push_14 rfl (lv_at hl 0 rfl) ?_
    refine va_get (D := D) (ci := 5) (v := .int (V 5 6)) (fs := (xfMachine ad V L Z)) (C := RX5) (T := TX5) (N := 15) hx hb hg inX5 hown hK hP 5 xgMachine rfl 6 (by decide) (hg _ w673) (fun _ h9 => h9) rfl dX5_push_15 ?_
    refine va_aldq (D := D) (i := (V 5 6)) hx hb hK hP 35 28 rfl rfl (i_in (a := ((V 5 6)).toInt) rfl (by omega)) dX5_push_18 ?_
    have kc33 := i_clamp (x := (V 5 6)) rfl (by omega)
    by_cases hfn : (Int32.toNatClampNeg (V 5 6)) < Z.nf
    · skip
      refine g_topv (v := .ref (Z.fa (Int32.toNatClampNeg (V 5 6)))) (congrArg va_rf (if_pos hfn)) ?_
      refine lv_ifnonnull (tgt := 38) hx hb dX5_push_19 (by decide) ?_
      refine lv_aload_n hx hb dX5_push_38 rfl (lv_at hl 0 rfl) ?_
      refine va_get (D := D) (ci := 5) (v := .ref (ad 35)) (fs := (xfMachine ad V L Z)) (C := RX5) (T := TX5) (N := 15) hx hb hg inX5 hown hK hP 5 xgMachine rfl 2 (by decide) (hg _ w669) (fun _ h9 => h9) rfl dX5_push_39 ?_
      refine lv_aload_n hx hb dX5_push_42 rfl (lv_at hl 0 rfl) ?_
      refine va_get (D := D) (ci := 5) (v := .int (V 5 6)) (fs := (xfMachine ad V L Z)) (C := RX5) (T := TX5) (N := 15) hx hb hg inX5 hown hK hP 5 xgMachine rfl 6 (by decide) (hg _ w673) (fun _ h9 => h9) rfl dX5_push_43 ?_
      refine lv_sipush (v := 400) hx hb dX5_push_46 (by decide) ?_
      refine lv_icmp_ge (tgt := 66) hx hb dX5_push_49 (by decide) (fun c34 => ?_) (fun c34 => ?_)
      · skip
        have f35 : 400 ≤ ((V 5 6)).toInt := b_le (by decide) rfl c34
        exfalso; omega
      · skip
        have f36 : ((V 5 6)).toInt < 400 := b_nle (by decide) rfl c34
        refine lv_aload_n hx hb dX5_push_52 rfl (lv_at hl 0 rfl) ?_
        refine lv_dup hx hb dX5_push_53 rfl ?_
        refine va_get (D := D) (ci := 5) (v := .int (V 5 6)) (fs := (xfMachine ad V L Z)) (C := RX5) (T := TX5) (N := 15) hx hb hg inX5 hown hK hP 5 xgMachine rfl 6 (by decide) (hg _ w673) (fun _ h9 => h9) rfl dX5_push_54 ?_
        refine lv_dup_x1 hx hb dX5_push_57 rfl rfl ?_
        refine lv_iconst (v := 1) hx hb dX5_push_58 (by decide) ?_
        refine lv_iadd hx hb dX5_push_59 ?_
        refine lv_topi (fun z37 ez37 => ?_)
        have hz37 : z37.toInt = ((V 5 6)).toInt + 1 := i_add ez37 rfl (by decide) (by omega)
        refine va_put (D := D) (ci := 5) (v := .int z37) (ty := tyX5 6) (fs := (xfMachine ad V L Z)) (C := RX5) (T := TX5) (N := 15) hx hb hg inX5 tyX5 tyX5_ok nmX5 hown hK hP hD hS 5 xgMachine rfl 6 (by decide) (hg _ w673) (fun _ h9 => h9) rfl (tyX5_ok 6 (by decide)) rfl rfl (Nat.le_of_ble_eq_true rfl) dX5_push_60 (fun H locs hP hD hS => ?_)
        obtain ⟨V38, hV38⟩ : ∃ z, z = up2 V 5 6 z37 := ⟨_, rfl⟩
        have ew39 : (xw ad kk V L Z).set 5 ((ad 5), .inr (5, (xfMachine ad V L Z).set 6 (.int z37))) = xw ad kk V38 L Z := by rw [hV38]; exact xw_ss (by decide) rfl (xb_si (by decide))
        have hP : va_P D vwCl (xw ad kk V38 L Z) H := by rw [← ew39]; exact hP
        have hD : va_D A (xw ad kk V38 L Z) := by rw [← ew39]; exact hD
        have hMV38 : rgd bX V38 := hMV.put hV38 (show 0 ≤ z37.toInt ∧ z37.toInt ≤ 400 from by omega)
        have agV38 : agr [(5, 6), (5, 9)] [67, 68, 69, 70, 71, 72, 73, 74, 75, 76, 77, 78, 79, 80, 81, 82, 83, 84, 85] V V38 := agV.up hV38 rfl
        refine lv_goto (tgt := 69) hx hb dX5_push_63 (by decide) ?_
        refine va_aldq (D := D) (i := (V 5 6)) hx hb hK hP 35 28 rfl rfl (i_in (a := ((V 5 6)).toInt) rfl (by omega)) dX5_push_69 ?_
        refine g_topv (v := .ref (Z.fa (Int32.toNatClampNeg (V 5 6)))) (by exact congrArg va_rf (if_pos (by omega))) ?_
        have il40 : (Int32.toNatClampNeg (V 5 6)) < Z.nf := by omega
        refine lv_astore (lv' := [(6, .ref (Z.fa (Int32.toNatClampNeg (V 5 6)))), (0, .ref (ad 5)), (1, .int p0), (2, .int p1), (3, .int p2), (4, .int p3), (5, .int p4)]) hx hb dX5_push_70 hl (by decide) rfl (fun ls hl => ?_)
        refine lv_aload hx hb dX5_push_72 (lv_at hl 0 rfl) ?_
        refine lv_iload_n hx hb dX5_push_74 rfl (lv_at hl 2 rfl) ?_
        refine va_putN (D := D) (ci := 4) (v := .int p0) (ty := tyX4 0) (fs := (xfFrame V38 (Int32.toNatClampNeg (V 5 6)))) (C := RX4) (T := TX4) (N := 19) hx hb hg inX4 tyX4 tyX4_ok nmX4 hown hK hP hD hS (336 + (Int32.toNatClampNeg (V 5 6))) (xgFrame il40) rfl 0 (by decide) (hnw.use 1189 n1189 rfl) (fun _ h9 => h9) rfl (tyX4_ok 0 (by decide)) rfl rfl (Nat.le_of_ble_eq_true rfl) dX5_push_75 (fun H locs hP hD hS => ?_)
        obtain ⟨V41, hV41⟩ : ∃ z, z = up2 V38 67 (Int32.toNatClampNeg (V 5 6)) p0 := ⟨_, rfl⟩
        have ew42 : (xw ad kk V38 L Z).set (336 + (Int32.toNatClampNeg (V 5 6))) ((Z.fa (Int32.toNatClampNeg (V 5 6))), .inr (4, (xfFrame V38 (Int32.toNatClampNeg (V 5 6))).set 0 (.int p0))) = xw ad kk V41 L Z := by rw [hV41]; exact xpFrame_kind il40
        have hP : va_P D vwCl (xw ad kk V41 L Z) H := by rw [← ew42]; exact hP
        have hD : va_D A (xw ad kk V41 L Z) := by rw [← ew42]; exact hD
        have hMV41 : rgd bX V41 := hMV38.put hV41 (i_full _)
        have agV41 : agr [(5, 6), (5, 9)] [67, 68, 69, 70, 71, 72, 73, 74, 75, 76, 77, 78, 79, 80, 81, 82, 83, 84, 85] V V41 := agV38.up hV41 rfl
        refine lv_aload hx hb dX5_push_78 (lv_at hl 0 rfl) ?_
        refine lv_iconst (v := 0) hx hb dX5_push_80 (by decide) ?_
        refine va_putN (D := D) (ci := 4) (v := .int 0) (ty := tyX4 1) (fs := (xfFrame V41 (Int32.toNatClampNeg (V 5 6)))) (C := RX4) (T := TX4) (N := 19) hx hb hg inX4 tyX4 tyX4_ok nmX4 hown hK hP hD hS (336 + (Int32.toNatClampNeg (V 5 6))) (xgFrame il40) rfl 1 (by decide) (hnw.use 1190 n1190 rfl) (fun _ h9 => h9) rfl (tyX4_ok 1 (by decide)) rfl rfl (Nat.le_of_ble_eq_true rfl) dX5_push_81 (fun H locs hP hD hS => ?_)
        obtain ⟨V43, hV43⟩ : ∃ z, z = up2 V41 68 (Int32.toNatClampNeg (V 5 6)) 0 := ⟨_, rfl⟩
        have ew44 : (xw ad kk V41 L Z).set (336 + (Int32.toNatClampNeg (V 5 6))) ((Z.fa (Int32.toNatClampNeg (V 5 6))), .inr (4, (xfFrame V41 (Int32.toNatClampNeg (V 5 6))).set 1 (.int 0))) = xw ad kk V43 L Z := by rw [hV43]; exact xpFrame_phase il40
        have hP : va_P D vwCl (xw ad kk V43 L Z) H := by rw [← ew44]; exact hP
        have hD : va_D A (xw ad kk V43 L Z) := by rw [← ew44]; exact hD
        have hMV43 : rgd bX V43 := hMV41.put hV43 (i_full _)
        have agV43 : agr [(5, 6), (5, 9)] [67, 68, 69, 70, 71, 72, 73, 74, 75, 76, 77, 78, 79, 80, 81, 82, 83, 84, 85] V V43 := agV41.up hV43 rfl
        refine lv_aload hx hb dX5_push_84 (lv_at hl 0 rfl) ?_
        refine lv_iload_n hx hb dX5_push_86 rfl (lv_at hl 3 rfl) ?_
        refine va_putN (D := D) (ci := 4) (v := .int p1) (ty := tyX4 2) (fs := (xfFrame V43 (Int32.toNatClampNeg (V 5 6)))) (C := RX4) (T := TX4) (N := 19) hx hb hg inX4 tyX4 tyX4_ok nmX4 hown hK hP hD hS (336 + (Int32.toNatClampNeg (V 5 6))) (xgFrame il40) rfl 2 (by decide) (hnw.use 1191 n1191 rfl) (fun _ h9 => h9) rfl (tyX4_ok 2 (by decide)) rfl rfl (Nat.le_of_ble_eq_true rfl) dX5_push_87 (fun H locs hP hD hS => ?_)
        obtain ⟨V45, hV45⟩ : ∃ z, z = up2 V43 69 (Int32.toNatClampNeg (V 5 6)) p1 := ⟨_, rfl⟩
        have ew46 : (xw ad kk V43 L Z).set (336 + (Int32.toNatClampNeg (V 5 6))) ((Z.fa (Int32.toNatClampNeg (V 5 6))), .inr (4, (xfFrame V43 (Int32.toNatClampNeg (V 5 6))).set 2 (.int p1))) = xw ad kk V45 L Z := by rw [hV45]; exact xpFrame_level il40
        have hP : va_P D vwCl (xw ad kk V45 L Z) H := by rw [← ew46]; exact hP
        have hD : va_D A (xw ad kk V45 L Z) := by rw [← ew46]; exact hD
        have hMV45 : rgd bX V45 := hMV43.put hV45 (i_full _)
        have agV45 : agr [(5, 6), (5, 9)] [67, 68, 69, 70, 71, 72, 73, 74, 75, 76, 77, 78, 79, 80, 81, 82, 83, 84, 85] V V45 := agV43.up hV45 rfl
        refine lv_aload hx hb dX5_push_90 (lv_at hl 0 rfl) ?_
        refine lv_iload_n hx hb dX5_push_92 rfl (lv_at hl 4 rfl) ?_
        refine va_putN (D := D) (ci := 4) (v := .int p2) (ty := tyX4 3) (fs := (xfFrame V45 (Int32.toNatClampNeg (V 5 6)))) (C := RX4) (T := TX4) (N := 19) hx hb hg inX4 tyX4 tyX4_ok nmX4 hown hK hP hD hS (336 + (Int32.toNatClampNeg (V 5 6))) (xgFrame il40) rfl 3 (by decide) (hnw.use 1192 n1192 rfl) (fun _ h9 => h9) rfl (tyX4_ok 3 (by decide)) rfl rfl (Nat.le_of_ble_eq_true rfl) dX5_push_93 (fun H locs hP hD hS => ?_)
        obtain ⟨V47, hV47⟩ : ∃ z, z = up2 V45 70 (Int32.toNatClampNeg (V 5 6)) p2 := ⟨_, rfl⟩
        have ew48 : (xw ad kk V45 L Z).set (336 + (Int32.toNatClampNeg (V 5 6))) ((Z.fa (Int32.toNatClampNeg (V 5 6))), .inr (4, (xfFrame V45 (Int32.toNatClampNeg (V 5 6))).set 3 (.int p2))) = xw ad kk V47 L Z := by rw [hV47]; exact xpFrame_object il40
        have hP : va_P D vwCl (xw ad kk V47 L Z) H := by rw [← ew48]; exact hP
        have hD : va_D A (xw ad kk V47 L Z) := by rw [← ew48]; exact hD
        have hMV47 : rgd bX V47 := hMV45.put hV47 (i_full _)
        have agV47 : agr [(5, 6), (5, 9)] [67, 68, 69, 70, 71, 72, 73, 74, 75, 76, 77, 78, 79, 80, 81, 82, 83, 84, 85] V V47 := agV45.up hV47 rfl
        refine lv_aload hx hb dX5_push_96 (lv_at hl 0 rfl) ?_
        refine lv_iload hx hb dX5_push_98 (lv_at hl 5 rfl) ?_
        refine va_putN (D := D) (ci := 4) (v := .int p3) (ty := tyX4 4) (fs := (xfFrame V47 (Int32.toNatClampNeg (V 5 6)))) (C := RX4) (T := TX4) (N := 19) hx hb hg inX4 tyX4 tyX4_ok nmX4 hown hK hP hD hS (336 + (Int32.toNatClampNeg (V 5 6))) (xgFrame il40) rfl 4 (by decide) (hnw.use 1193 n1193 rfl) (fun _ h9 => h9) rfl (tyX4_ok 4 (by decide)) rfl rfl (Nat.le_of_ble_eq_true rfl) dX5_push_100 (fun H locs hP hD hS => ?_)
        obtain ⟨V49, hV49⟩ : ∃ z, z = up2 V47 71 (Int32.toNatClampNeg (V 5 6)) p3 := ⟨_, rfl⟩
        have ew50 : (xw ad kk V47 L Z).set (336 + (Int32.toNatClampNeg (V 5 6))) ((Z.fa (Int32.toNatClampNeg (V 5 6))), .inr (4, (xfFrame V47 (Int32.toNatClampNeg (V 5 6))).set 4 (.int p3))) = xw ad kk V49 L Z := by rw [hV49]; exact xpFrame_component il40
        have hP : va_P D vwCl (xw ad kk V49 L Z) H := by rw [← ew50]; exact hP
        have hD : va_D A (xw ad kk V49 L Z) := by rw [← ew50]; exact hD
        have hMV49 : rgd bX V49 := hMV47.put hV49 (show (-1) ≤ p3.toInt ∧ p3.toInt ≤ 23 from by omega)
        have agV49 : agr [(5, 6), (5, 9)] [67, 68, 69, 70, 71, 72, 73, 74, 75, 76, 77, 78, 79, 80, 81, 82, 83, 84, 85] V V49 := agV47.up hV49 rfl
        refine lv_aload hx hb dX5_push_103 (lv_at hl 0 rfl) ?_
        refine lv_iload hx hb dX5_push_105 (lv_at hl 6 rfl) ?_
        refine va_putN (D := D) (ci := 4) (v := .int p4) (ty := tyX4 5) (fs := (xfFrame V49 (Int32.toNatClampNeg (V 5 6)))) (C := RX4) (T := TX4) (N := 19) hx hb hg inX4 tyX4 tyX4_ok nmX4 hown hK hP hD hS (336 + (Int32.toNatClampNeg (V 5 6))) (xgFrame il40) rfl 5 (by decide) (hnw.use 1194 n1194 rfl) (fun _ h9 => h9) rfl (tyX4_ok 5 (by decide)) rfl rfl (Nat.le_of_ble_eq_true rfl) dX5_push_107 (fun H locs hP hD hS => ?_)
        obtain ⟨V51, hV51⟩ : ∃ z, z = up2 V49 72 (Int32.toNatClampNeg (V 5 6)) p4 := ⟨_, rfl⟩
        have ew52 : (xw ad kk V49 L Z).set (336 + (Int32.toNatClampNeg (V 5 6))) ((Z.fa (Int32.toNatClampNeg (V 5 6))), .inr (4, (xfFrame V49 (Int32.toNatClampNeg (V 5 6))).set 5 (.int p4))) = xw ad kk V51 L Z := by rw [hV51]; exact xpFrame_scope il40
        have hP : va_P D vwCl (xw ad kk V51 L Z) H := by rw [← ew52]; exact hP
        have hD : va_D A (xw ad kk V51 L Z) := by rw [← ew52]; exact hD
        have hMV51 : rgd bX V51 := hMV49.put hV51 (show 0 ≤ p4.toInt ∧ p4.toInt ≤ 39 from by omega)
        have agV51 : agr [(5, 6), (5, 9)] [67, 68, 69, 70, 71, 72, 73, 74, 75, 76, 77, 78, 79, 80, 81, 82, 83, 84, 85] V V51 := agV49.up hV51 rfl
        refine lv_aload hx hb dX5_push_110 (lv_at hl 0 rfl) ?_
        refine lv_iconst (v := 0) hx hb dX5_push_112 (by decide) ?_
        refine va_putN (D := D) (ci := 4) (v := .int 0) (ty := tyX4 8) (fs := (xfFrame V51 (Int32.toNatClampNeg (V 5 6)))) (C := RX4) (T := TX4) (N := 19) hx hb hg inX4 tyX4 tyX4_ok nmX4 hown hK hP hD hS (336 + (Int32.toNatClampNeg (V 5 6))) (xgFrame il40) rfl 8 (by decide) (hnw.use 1197 n1197 rfl) (fun _ h9 => h9) rfl (tyX4_ok 8 (by decide)) rfl rfl (Nat.le_of_ble_eq_true rfl) dX5_push_113 (fun H locs hP hD hS => ?_)
        obtain ⟨V53, hV53⟩ : ∃ z, z = up2 V51 75 (Int32.toNatClampNeg (V 5 6)) 0 := ⟨_, rfl⟩
        have ew54 : (xw ad kk V51 L Z).set (336 + (Int32.toNatClampNeg (V 5 6))) ((Z.fa (Int32.toNatClampNeg (V 5 6))), .inr (4, (xfFrame V51 (Int32.toNatClampNeg (V 5 6))).set 8 (.int 0))) = xw ad kk V53 L Z := by rw [hV53]; exact xpFrame_position il40
        have hP : va_P D vwCl (xw ad kk V53 L Z) H := by rw [← ew54]; exact hP
        have hD : va_D A (xw ad kk V53 L Z) := by rw [← ew54]; exact hD
        have hMV53 : rgd bX V53 := hMV51.put hV53 (show 0 ≤ Int32.toInt 0 ∧ Int32.toInt 0 ≤ 12 from by decide)
        have agV53 : agr [(5, 6), (5, 9)] [67, 68, 69, 70, 71, 72, 73, 74, 75, 76, 77, 78, 79, 80, 81, 82, 83, 84, 85] V V53 := agV51.up hV53 rfl
        refine lv_aload hx hb dX5_push_116 (lv_at hl 0 rfl) ?_
        refine lv_iconst (v := 0) hx hb dX5_push_118 (by decide) ?_
        refine va_putN (D := D) (ci := 4) (v := .int 0) (ty := tyX4 9) (fs := (xfFrame V53 (Int32.toNatClampNeg (V 5 6)))) (C := RX4) (T := TX4) (N := 19) hx hb hg inX4 tyX4 tyX4_ok nmX4 hown hK hP hD hS (336 + (Int32.toNatClampNeg (V 5 6))) (xgFrame il40) rfl 9 (by decide) (hnw.use 1198 n1198 rfl) (fun _ h9 => h9) rfl (tyX4_ok 9 (by decide)) rfl rfl (Nat.le_of_ble_eq_true rfl) dX5_push_119 (fun H locs hP hD hS => ?_)
        obtain ⟨V55, hV55⟩ : ∃ z, z = up2 V53 76 (Int32.toNatClampNeg (V 5 6)) 0 := ⟨_, rfl⟩
        have ew56 : (xw ad kk V53 L Z).set (336 + (Int32.toNatClampNeg (V 5 6))) ((Z.fa (Int32.toNatClampNeg (V 5 6))), .inr (4, (xfFrame V53 (Int32.toNatClampNeg (V 5 6))).set 9 (.int 0))) = xw ad kk V55 L Z := by rw [hV55]; exact xpFrame_item il40
        have hP : va_P D vwCl (xw ad kk V55 L Z) H := by rw [← ew56]; exact hP
        have hD : va_D A (xw ad kk V55 L Z) := by rw [← ew56]; exact hD
        have hMV55 : rgd bX V55 := hMV53.put hV55 (i_full _)
        have agV55 : agr [(5, 6), (5, 9)] [67, 68, 69, 70, 71, 72, 73, 74, 75, 76, 77, 78, 79, 80, 81, 82, 83, 84, 85] V V55 := agV53.up hV55 rfl
        refine lv_aload hx hb dX5_push_122 (lv_at hl 0 rfl) ?_
        refine lv_iconst (v := 0) hx hb dX5_push_124 (by decide) ?_
        refine va_putN (D := D) (ci := 4) (v := .int 0) (ty := tyX4 16) (fs := (xfFrame V55 (Int32.toNatClampNeg (V 5 6)))) (C := RX4) (T := TX4) (N := 19) hx hb hg inX4 tyX4 tyX4_ok nmX4 hown hK hP hD hS (336 + (Int32.toNatClampNeg (V 5 6))) (xgFrame il40) rfl 16 (by decide) (hnw.use 1205 n1205 rfl) (fun _ h9 => h9) rfl (tyX4_ok 16 (by decide)) rfl rfl (Nat.le_of_ble_eq_true rfl) dX5_push_125 (fun H locs hP hD hS => ?_)
        obtain ⟨V57, hV57⟩ : ∃ z, z = up2 V55 83 (Int32.toNatClampNeg (V 5 6)) 0 := ⟨_, rfl⟩
        have ew58 : (xw ad kk V55 L Z).set (336 + (Int32.toNatClampNeg (V 5 6))) ((Z.fa (Int32.toNatClampNeg (V 5 6))), .inr (4, (xfFrame V55 (Int32.toNatClampNeg (V 5 6))).set 16 (.int 0))) = xw ad kk V57 L Z := by rw [hV57]; exact xpFrame_spent il40
        have hP : va_P D vwCl (xw ad kk V57 L Z) H := by rw [← ew58]; exact hP
        have hD : va_D A (xw ad kk V57 L Z) := by rw [← ew58]; exact hD
        have hMV57 : rgd bX V57 := hMV55.put hV57 (show 0 ≤ Int32.toInt 0 ∧ Int32.toInt 0 ≤ 1 from by decide)
        have agV57 : agr [(5, 6), (5, 9)] [67, 68, 69, 70, 71, 72, 73, 74, 75, 76, 77, 78, 79, 80, 81, 82, 83, 84, 85] V V57 := agV55.up hV57 rfl
        refine lv_aload_n hx hb dX5_push_128 rfl (lv_at hl 1 rfl) ?_
        refine lv_iconst (v := 0) hx hb dX5_push_129 (by decide) ?_
        refine va_put (D := D) (ci := 5) (v := .int 0) (ty := tyX5 9) (fs := (xfMachine ad V57 L Z)) (C := RX5) (T := TX5) (N := 15) hx hb hg inX5 tyX5 tyX5_ok nmX5 hown hK hP hD hS 5 xgMachine rfl 9 (by decide) (hg _ w676) (fun _ h9 => h9) rfl (tyX5_ok 9 (by decide)) rfl rfl (Nat.le_of_ble_eq_true rfl) dX5_push_130 (fun H locs hP hD hS => ?_)
        obtain ⟨V59, hV59⟩ : ∃ z, z = up2 V57 5 9 0 := ⟨_, rfl⟩
        have ew60 : (xw ad kk V57 L Z).set 5 ((ad 5), .inr (5, (xfMachine ad V57 L Z).set 9 (.int 0))) = xw ad kk V59 L Z := by rw [hV59]; exact xw_ss (by decide) rfl (xb_si (by decide))
        have hP : va_P D vwCl (xw ad kk V59 L Z) H := by rw [← ew60]; exact hP
        have hD : va_D A (xw ad kk V59 L Z) := by rw [← ew60]; exact hD
        have hMV59 : rgd bX V59 := hMV57.put hV59 (by decide)
        have agV59 : agr [(5, 6), (5, 9)] [67, 68, 69, 70, 71, 72, 73, 74, 75, 76, 77, 78, 79, 80, 81, 82, 83, 84, 85] V V59 := agV57.up hV59 rfl
        refine lv_aload hx hb dX5_push_133 (lv_at hl 0 rfl) ?_
        have pq61 : (V59 5 6).toInt = z37.toInt := congrArg Int32.toInt ((up2_k hV59 (by decide)).trans ((up2_o hV57 (by decide)).trans ((up2_o hV55 (by decide)).trans ((up2_o hV53 (by decide)).trans ((up2_o hV51 (by decide)).trans ((up2_o hV49 (by decide)).trans ((up2_o hV47 (by decide)).trans ((up2_o hV45 (by decide)).trans ((up2_o hV43 (by decide)).trans ((up2_o hV41 (by decide)).trans (up2_s hV38)))))))))))
        have pq62 : (V59 5 9).toInt = 0 := (congrArg Int32.toInt (up2_s hV59)).trans (by decide)
        have me63 : ME V V59 (Int32.toNatClampNeg (V 5 6)) := (ME.up (ME.up (ME.up (ME.up (ME.up (ME.up (ME.up (ME.up (ME.up (ME.up (ME.up ME.rf hV38 (Or.inr (by omega))) hV41 (Or.inl ⟨by decide, by decide, Nat.le_refl _⟩)) hV43 (Or.inl ⟨by decide, by decide, Nat.le_refl _⟩)) hV45 (Or.inl ⟨by decide, by decide, Nat.le_refl _⟩)) hV47 (Or.inl ⟨by decide, by decide, Nat.le_refl _⟩)) hV49 (Or.inl ⟨by decide, by decide, Nat.le_refl _⟩)) hV51 (Or.inl ⟨by decide, by decide, Nat.le_refl _⟩)) hV53 (Or.inl ⟨by decide, by decide, Nat.le_refl _⟩)) hV55 (Or.inl ⟨by decide, by decide, Nat.le_refl _⟩)) hV57 (Or.inl ⟨by decide, by decide, Nat.le_refl _⟩)) hV59 (Or.inr (by omega)))
        have rp64 : Z.ln = Z.ln ∧ Z.nf ≤ 400 := ⟨rfl, by omega⟩
        refine W.know (fun kr1 kr2 => ?_)
        refine W.widen (k := zcc Z) (n := zss Z) (Nat.sub_le _ _) (Nat.sub_le _ _) ?_
        exact W.aret (v := .ref (Z.fa (Int32.toNatClampNeg (V 5 6)))) hx hb hr (Or.inl ⟨_, rfl⟩) (Or.inr ⟨_, rfl⟩) (fun t ht hW => ⟨⟨(V59, L, Z, (Int32.toNatClampNeg (V 5 6))), rfl, ⟨hMV59, agV59, rfl, zoZ, il40, me63, ⟨((up2_o hV59 (by decide)).trans ((up2_o hV57 (by decide)).trans ((up2_o hV55 (by decide)).trans ((up2_o hV53 (by decide)).trans ((up2_o hV51 (by decide)).trans ((up2_o hV49 (by decide)).trans ((up2_o hV47 (by decide)).trans ((up2_o hV45 (by decide)).trans ((up2_o hV43 (by decide)).trans (up2_s hV41)))))))))), ((up2_o hV59 (by decide)).trans ((up2_o hV57 (by decide)).trans ((up2_o hV55 (by decide)).trans ((up2_o hV53 (by decide)).trans ((up2_o hV51 (by decide)).trans ((up2_o hV49 (by decide)).trans ((up2_o hV47 (by decide)).trans ((up2_o hV45 (by decide)).trans (up2_s hV43))))))))), ((up2_o hV59 (by decide)).trans ((up2_o hV57 (by decide)).trans ((up2_o hV55 (by decide)).trans ((up2_o hV53 (by decide)).trans ((up2_o hV51 (by decide)).trans ((up2_o hV49 (by decide)).trans (up2_s hV47))))))), ((up2_o hV59 (by decide)).trans ((up2_o hV57 (by decide)).trans ((up2_o hV55 (by decide)).trans ((up2_o hV53 (by decide)).trans ((up2_o hV51 (by decide)).trans (up2_s hV49)))))), ((up2_o hV59 (by decide)).trans ((up2_o hV57 (by decide)).trans ((up2_o hV55 (by decide)).trans (up2_s hV53)))), ((up2_o hV59 (by decide)).trans ((up2_o hV57 (by decide)).trans (up2_s hV55)))⟩, (show ((Int32.toNatClampNeg (V 5 6)) : Int) + 1 = (V59 5 6).toInt from by omega), (show ((Int32.toNatClampNeg (V 5 6)) : Int) ≤ (V 5 6).toInt ∧ (V 5 6).toInt ≤ ((Int32.toNatClampNeg (V 5 6)) : Int) + 1 from by omega), (show (V59 5 9).toInt = 0 from by omega), rp64⟩, ⟨by rw [ht]; exact hP, va_K.moved hW.alike hK, hD⟩, by rw [ht]; exact kr1, by rw [ht]; exact kr2⟩, hS.F ht⟩) hS.2.2 dX5_push_135
    · skip
      refine g_topv (v := .null) (congrArg va_rf (if_neg hfn)) ?_
      refine lv_ifnonnullN hx hb dX5_push_19 ?_
      refine lv_aload_n hx hb dX5_push_22 rfl (lv_at hl 0 rfl) ?_
      refine va_get (D := D) (ci := 5) (v := .ref (ad 35)) (fs := (xfMachine ad V L Z)) (C := RX5) (T := TX5) (N := 15) hx hb hg inX5 hown hK hP 5 xgMachine rfl 2 (by decide) (hg _ w669) (fun _ h9 => h9) rfl dX5_push_23 ?_
      refine lv_aload_n hx hb dX5_push_26 rfl (lv_at hl 0 rfl) ?_
      refine va_get (D := D) (ci := 5) (v := .int (V 5 6)) (fs := (xfMachine ad V L Z)) (C := RX5) (T := TX5) (N := 15) hx hb hg inX5 hown hK hP 5 xgMachine rfl 6 (by decide) (hg _ w673) (fun _ h9 => h9) rfl dX5_push_27 ?_
      have zm := zc_more (Z := Z) (by omega)
      have zm0 := zm 0
      refine va_new (ci := 4) (fs := [.int 0, .int 0, .int 0, .int 0, .int 0, .int 0, .int 0, .int 0, .int 0, .int 0, .int 0, .int 0, .int 0, .int 0, .int 0, .int 0, .int 0, .int 0, .int 0]) (C := RX4) (T := TX4) (N := 19) hx hb hg inX4 tyX4 tyX4_ok hown (hg _ w665) (hg _ w1184) (hg _ w180) hK hP hD hS hA rfl nfX4 (by show zcc Z - zcc Z + 1 ≤ zcc Z; omega) (by show zss Z - zss Z + 19 ≤ zss Z; omega) dX5_push_30 (fun qn H hP hD hS => ?_)
      refine lv_dup hx hb dX5_push_33 rfl ?_
      refine gE_void (g_runIN (As := []) (rest := [.ref qn, .int (V 5 6), .ref (ad 35)]) (wc := []) (tc := []) hx hb hml hown hg gw_self hP hD hK hS hA hnw hgk [] [] (by decide) rfl rfl (c_Frame_init l D ks H.size qn) n1185 w1186 w180 w1187 rfl hdS_yX4_init ⟨Nat.le_of_ble_eq_true rfl, Nat.le_of_ble_eq_true rfl⟩ rfl hl.1 rfl (Nat.le_of_ble_eq_true rfl) dX5_push_34 ⟨(by show zcc Z - zcc Z + 1 + 0 ≤ zcc Z; omega), (by show zss Z - zss Z + 19 + 0 ≤ zss Z; omega)⟩) hP hD hK hS hA (fun _ H locs _ hP hD hK hS => ?_)
      have kcn : (Int32.toNatClampNeg (V 5 6)) = Z.nf := by omega
      refine va_astq (D := D) (i := (V 5 6)) (v := qn) (r := (RX4, TX4, 19)) hx hb hK hP hD hS 35 28 (336 + Z.nf) 4 rfl rfl xw_new rfl (i_in (a := ((V 5 6)).toInt) rfl (by omega)) dX5_push_37 (fun H locs hP hD hS => ?_)
      obtain ⟨Z66, hZ66⟩ : ∃ z, z = Z.more qn := ⟨_, rfl⟩
      obtain ⟨V65, hV65⟩ : ∃ z, z = frz V Z.nf := ⟨_, rfl⟩
      have hP : va_P D vwCl (xw ad kk V65 L Z66) H := by rw [hZ66, hV65, ← xw_frz2 kcn]; exact hP
      have hD : va_D A (xw ad kk V65 L Z66) := by rw [hZ66, hV65, ← xw_frz2 kcn]; exact hD
      have hK : va_K D vwCl (xty kk Z66) s := by rw [hZ66]; exact hK
      have hMV65 : rgd bX V65 := by rw [hV65]; exact rgd_frz hMV
      have ajV65 : agr [] [67, 68, 69, 70, 71, 72, 73, 74, 75, 76, 77, 78, 79, 80, 81, 82, 83, 84, 85] V V65 := by rw [hV65]; exact frz_ag
      have agV65 : agr [(5, 6), (5, 9)] [67, 68, 69, 70, 71, 72, 73, 74, 75, 76, 77, 78, 79, 80, 81, 82, 83, 84, 85] V V65 := agV.tr ajV65 (by decide) (by decide)
      have zmq := zm qn
      have zcZ66 : zcc Z66 + 1 = zcc Z := by rw [hZ66]; exact zmq.1
      have zsZ66 : zss Z66 + 19 = zss Z := by rw [hZ66]; exact zmq.2
      have zlZ66 : ZL Z Z66 := by rw [hZ66]; exact ZL.more (by omega)
      have zoZ66 : ZL Z Z66 := zlZ66
      have zkZ66 : Z66.nf = Z.nf + 1 := by rw [hZ66]; rfl
      have zgZ66 : Z66.ln = Z.ln := by rw [hZ66]; rfl
      refine W.know (fun kx1 kx2 => ?_)
      have kx1 : H.size ≤ s.heap.size + (zcc Z - zcc Z + 1) := kx1
      have kx2 : tot H ≤ tot s.heap + (zss Z - zss Z + 19) := kx2
      refine W.tight (k := zcc Z - zcc Z66) (n := zss Z - zss Z66) (by omega) (by omega) ?_
      refine lv_aload_n hx hb dX5_push_38 rfl (lv_at hl 0 rfl) ?_
      refine va_get (D := D) (ci := 5) (v := .ref (ad 35)) (fs := (xfMachine ad V65 L Z66)) (C := RX5) (T := TX5) (N := 15) hx hb hg inX5 hown hK hP 5 xgMachine rfl 2 (by decide) (hg _ w669) (fun _ h9 => h9) rfl dX5_push_39 ?_
      refine lv_aload_n hx hb dX5_push_42 rfl (lv_at hl 0 rfl) ?_
      refine va_get (D := D) (ci := 5) (v := .int (V65 5 6)) (fs := (xfMachine ad V65 L Z66)) (C := RX5) (T := TX5) (N := 15) hx hb hg inX5 hown hK hP 5 xgMachine rfl 6 (by decide) (hg _ w673) (fun _ h9 => h9) rfl dX5_push_43 ?_
      refine g_top (v := (V 5 6)) (ajV65 5 6 rfl) ?_
      refine lv_sipush (v := 400) hx hb dX5_push_46 (by decide) ?_
      refine lv_icmp_ge (tgt := 66) hx hb dX5_push_49 (by decide) (fun c67 => ?_) (fun c67 => ?_)
      · skip
        have f68 : 400 ≤ ((V 5 6)).toInt := b_le (by decide) rfl c67
        exfalso; omega
      · skip
        have f69 : ((V 5 6)).toInt < 400 := b_nle (by decide) rfl c67
        refine lv_aload_n hx hb dX5_push_52 rfl (lv_at hl 0 rfl) ?_
        refine lv_dup hx hb dX5_push_53 rfl ?_
        refine va_get (D := D) (ci := 5) (v := .int (V65 5 6)) (fs := (xfMachine ad V65 L Z66)) (C := RX5) (T := TX5) (N := 15) hx hb hg inX5 hown hK hP 5 xgMachine rfl 6 (by decide) (hg _ w673) (fun _ h9 => h9) rfl dX5_push_54 ?_
        refine g_top (v := (V 5 6)) (ajV65 5 6 rfl) ?_
        refine lv_dup_x1 hx hb dX5_push_57 rfl rfl ?_
        refine lv_iconst (v := 1) hx hb dX5_push_58 (by decide) ?_
        refine lv_iadd hx hb dX5_push_59 ?_
        refine lv_topi (fun z70 ez70 => ?_)
        have hz70 : z70.toInt = ((V 5 6)).toInt + 1 := i_add ez70 rfl (by decide) (by omega)
        refine va_put (D := D) (ci := 5) (v := .int z70) (ty := tyX5 6) (fs := (xfMachine ad V65 L Z66)) (C := RX5) (T := TX5) (N := 15) hx hb hg inX5 tyX5 tyX5_ok nmX5 hown hK hP hD hS 5 xgMachine rfl 6 (by decide) (hg _ w673) (fun _ h9 => h9) rfl (tyX5_ok 6 (by decide)) rfl rfl (Nat.le_of_ble_eq_true rfl) dX5_push_60 (fun H locs hP hD hS => ?_)
        obtain ⟨V71, hV71⟩ : ∃ z, z = up2 V65 5 6 z70 := ⟨_, rfl⟩
        have ew72 : (xw ad kk V65 L Z66).set 5 ((ad 5), .inr (5, (xfMachine ad V65 L Z66).set 6 (.int z70))) = xw ad kk V71 L Z66 := by rw [hV71]; exact xw_ss (by decide) rfl (xb_si (by decide))
        have hP : va_P D vwCl (xw ad kk V71 L Z66) H := by rw [← ew72]; exact hP
        have hD : va_D A (xw ad kk V71 L Z66) := by rw [← ew72]; exact hD
        have hMV71 : rgd bX V71 := hMV65.put hV71 (show 0 ≤ z70.toInt ∧ z70.toInt ≤ 400 from by omega)
        have agV71 : agr [(5, 6), (5, 9)] [67, 68, 69, 70, 71, 72, 73, 74, 75, 76, 77, 78, 79, 80, 81, 82, 83, 84, 85] V V71 := agV65.up hV71 rfl
        refine lv_goto (tgt := 69) hx hb dX5_push_63 (by decide) ?_
        refine va_aldq (D := D) (i := (V 5 6)) hx hb hK hP 35 28 rfl rfl (i_in (a := ((V 5 6)).toInt) rfl (by omega)) dX5_push_69 ?_
        refine g_topv (v := .ref (Z66.fa (Int32.toNatClampNeg (V 5 6)))) (by exact congrArg va_rf (if_pos (by omega))) ?_
        have il73 : (Int32.toNatClampNeg (V 5 6)) < Z66.nf := by omega
        refine lv_astore (lv' := [(6, .ref (Z66.fa (Int32.toNatClampNeg (V 5 6)))), (0, .ref (ad 5)), (1, .int p0), (2, .int p1), (3, .int p2), (4, .int p3), (5, .int p4)]) hx hb dX5_push_70 hl (by decide) rfl (fun ls hl => ?_)
        refine lv_aload hx hb dX5_push_72 (lv_at hl 0 rfl) ?_
        refine lv_iload_n hx hb dX5_push_74 rfl (lv_at hl 2 rfl) ?_
        refine va_putN (D := D) (ci := 4) (v := .int p0) (ty := tyX4 0) (fs := (xfFrame V71 (Int32.toNatClampNeg (V 5 6)))) (C := RX4) (T := TX4) (N := 19) hx hb hg inX4 tyX4 tyX4_ok nmX4 hown hK hP hD hS (336 + (Int32.toNatClampNeg (V 5 6))) (xgFrame il73) rfl 0 (by decide) (hnw.use 1189 n1189 rfl) (fun _ h9 => h9) rfl (tyX4_ok 0 (by decide)) rfl rfl (Nat.le_of_ble_eq_true rfl) dX5_push_75 (fun H locs hP hD hS => ?_)
        obtain ⟨V74, hV74⟩ : ∃ z, z = up2 V71 67 (Int32.toNatClampNeg (V 5 6)) p0 := ⟨_, rfl⟩
        have ew75 : (xw ad kk V71 L Z66).set (336 + (Int32.toNatClampNeg (V 5 6))) ((Z66.fa (Int32.toNatClampNeg (V 5 6))), .inr (4, (xfFrame V71 (Int32.toNatClampNeg (V 5 6))).set 0 (.int p0))) = xw ad kk V74 L Z66 := by rw [hV74]; exact xpFrame_kind il73
        have hP : va_P D vwCl (xw ad kk V74 L Z66) H := by rw [← ew75]; exact hP
        have hD : va_D A (xw ad kk V74 L Z66) := by rw [← ew75]; exact hD
        have hMV74 : rgd bX V74 := hMV71.put hV74 (i_full _)
        have agV74 : agr [(5, 6), (5, 9)] [67, 68, 69, 70, 71, 72, 73, 74, 75, 76, 77, 78, 79, 80, 81, 82, 83, 84, 85] V V74 := agV71.up hV74 rfl
        refine lv_aload hx hb dX5_push_78 (lv_at hl 0 rfl) ?_
        refine lv_iconst (v := 0) hx hb dX5_push_80 (by decide) ?_
        refine va_putN (D := D) (ci := 4) (v := .int 0) (ty := tyX4 1) (fs := (xfFrame V74 (Int32.toNatClampNeg (V 5 6)))) (C := RX4) (T := TX4) (N := 19) hx hb hg inX4 tyX4 tyX4_ok nmX4 hown hK hP hD hS (336 + (Int32.toNatClampNeg (V 5 6))) (xgFrame il73) rfl 1 (by decide) (hnw.use 1190 n1190 rfl) (fun _ h9 => h9) rfl (tyX4_ok 1 (by decide)) rfl rfl (Nat.le_of_ble_eq_true rfl) dX5_push_81 (fun H locs hP hD hS => ?_)
        obtain ⟨V76, hV76⟩ : ∃ z, z = up2 V74 68 (Int32.toNatClampNeg (V 5 6)) 0 := ⟨_, rfl⟩
        have ew77 : (xw ad kk V74 L Z66).set (336 + (Int32.toNatClampNeg (V 5 6))) ((Z66.fa (Int32.toNatClampNeg (V 5 6))), .inr (4, (xfFrame V74 (Int32.toNatClampNeg (V 5 6))).set 1 (.int 0))) = xw ad kk V76 L Z66 := by rw [hV76]; exact xpFrame_phase il73
        have hP : va_P D vwCl (xw ad kk V76 L Z66) H := by rw [← ew77]; exact hP
        have hD : va_D A (xw ad kk V76 L Z66) := by rw [← ew77]; exact hD
        have hMV76 : rgd bX V76 := hMV74.put hV76 (i_full _)
        have agV76 : agr [(5, 6), (5, 9)] [67, 68, 69, 70, 71, 72, 73, 74, 75, 76, 77, 78, 79, 80, 81, 82, 83, 84, 85] V V76 := agV74.up hV76 rfl
        refine lv_aload hx hb dX5_push_84 (lv_at hl 0 rfl) ?_
        refine lv_iload_n hx hb dX5_push_86 rfl (lv_at hl 3 rfl) ?_
        refine va_putN (D := D) (ci := 4) (v := .int p1) (ty := tyX4 2) (fs := (xfFrame V76 (Int32.toNatClampNeg (V 5 6)))) (C := RX4) (T := TX4) (N := 19) hx hb hg inX4 tyX4 tyX4_ok nmX4 hown hK hP hD hS (336 + (Int32.toNatClampNeg (V 5 6))) (xgFrame il73) rfl 2 (by decide) (hnw.use 1191 n1191 rfl) (fun _ h9 => h9) rfl (tyX4_ok 2 (by decide)) rfl rfl (Nat.le_of_ble_eq_true rfl) dX5_push_87 (fun H locs hP hD hS => ?_)
        obtain ⟨V78, hV78⟩ : ∃ z, z = up2 V76 69 (Int32.toNatClampNeg (V 5 6)) p1 := ⟨_, rfl⟩
        have ew79 : (xw ad kk V76 L Z66).set (336 + (Int32.toNatClampNeg (V 5 6))) ((Z66.fa (Int32.toNatClampNeg (V 5 6))), .inr (4, (xfFrame V76 (Int32.toNatClampNeg (V 5 6))).set 2 (.int p1))) = xw ad kk V78 L Z66 := by rw [hV78]; exact xpFrame_level il73
        have hP : va_P D vwCl (xw ad kk V78 L Z66) H := by rw [← ew79]; exact hP
        have hD : va_D A (xw ad kk V78 L Z66) := by rw [← ew79]; exact hD
        have hMV78 : rgd bX V78 := hMV76.put hV78 (i_full _)
        have agV78 : agr [(5, 6), (5, 9)] [67, 68, 69, 70, 71, 72, 73, 74, 75, 76, 77, 78, 79, 80, 81, 82, 83, 84, 85] V V78 := agV76.up hV78 rfl
        refine lv_aload hx hb dX5_push_90 (lv_at hl 0 rfl) ?_
        refine lv_iload_n hx hb dX5_push_92 rfl (lv_at hl 4 rfl) ?_
        refine va_putN (D := D) (ci := 4) (v := .int p2) (ty := tyX4 3) (fs := (xfFrame V78 (Int32.toNatClampNeg (V 5 6)))) (C := RX4) (T := TX4) (N := 19) hx hb hg inX4 tyX4 tyX4_ok nmX4 hown hK hP hD hS (336 + (Int32.toNatClampNeg (V 5 6))) (xgFrame il73) rfl 3 (by decide) (hnw.use 1192 n1192 rfl) (fun _ h9 => h9) rfl (tyX4_ok 3 (by decide)) rfl rfl (Nat.le_of_ble_eq_true rfl) dX5_push_93 (fun H locs hP hD hS => ?_)
        obtain ⟨V80, hV80⟩ : ∃ z, z = up2 V78 70 (Int32.toNatClampNeg (V 5 6)) p2 := ⟨_, rfl⟩
        have ew81 : (xw ad kk V78 L Z66).set (336 + (Int32.toNatClampNeg (V 5 6))) ((Z66.fa (Int32.toNatClampNeg (V 5 6))), .inr (4, (xfFrame V78 (Int32.toNatClampNeg (V 5 6))).set 3 (.int p2))) = xw ad kk V80 L Z66 := by rw [hV80]; exact xpFrame_object il73
        have hP : va_P D vwCl (xw ad kk V80 L Z66) H := by rw [← ew81]; exact hP
        have hD : va_D A (xw ad kk V80 L Z66) := by rw [← ew81]; exact hD
        have hMV80 : rgd bX V80 := hMV78.put hV80 (i_full _)
        have agV80 : agr [(5, 6), (5, 9)] [67, 68, 69, 70, 71, 72, 73, 74, 75, 76, 77, 78, 79, 80, 81, 82, 83, 84, 85] V V80 := agV78.up hV80 rfl
        refine lv_aload hx hb dX5_push_96 (lv_at hl 0 rfl) ?_
        refine lv_iload hx hb dX5_push_98 (lv_at hl 5 rfl) ?_
        refine va_putN (D := D) (ci := 4) (v := .int p3) (ty := tyX4 4) (fs := (xfFrame V80 (Int32.toNatClampNeg (V 5 6)))) (C := RX4) (T := TX4) (N := 19) hx hb hg inX4 tyX4 tyX4_ok nmX4 hown hK hP hD hS (336 + (Int32.toNatClampNeg (V 5 6))) (xgFrame il73) rfl 4 (by decide) (hnw.use 1193 n1193 rfl) (fun _ h9 => h9) rfl (tyX4_ok 4 (by decide)) rfl rfl (Nat.le_of_ble_eq_true rfl) dX5_push_100 (fun H locs hP hD hS => ?_)
        obtain ⟨V82, hV82⟩ : ∃ z, z = up2 V80 71 (Int32.toNatClampNeg (V 5 6)) p3 := ⟨_, rfl⟩
        have ew83 : (xw ad kk V80 L Z66).set (336 + (Int32.toNatClampNeg (V 5 6))) ((Z66.fa (Int32.toNatClampNeg (V 5 6))), .inr (4, (xfFrame V80 (Int32.toNatClampNeg (V 5 6))).set 4 (.int p3))) = xw ad kk V82 L Z66 := by rw [hV82]; exact xpFrame_component il73
        have hP : va_P D vwCl (xw ad kk V82 L Z66) H := by rw [← ew83]; exact hP
        have hD : va_D A (xw ad kk V82 L Z66) := by rw [← ew83]; exact hD
        have hMV82 : rgd bX V82 := hMV80.put hV82 (show (-1) ≤ p3.toInt ∧ p3.toInt ≤ 23 from by omega)
        have agV82 : agr [(5, 6), (5, 9)] [67, 68, 69, 70, 71, 72, 73, 74, 75, 76, 77, 78, 79, 80, 81, 82, 83, 84, 85] V V82 := agV80.up hV82 rfl
        refine lv_aload hx hb dX5_push_103 (lv_at hl 0 rfl) ?_
        refine lv_iload hx hb dX5_push_105 (lv_at hl 6 rfl) ?_
        refine va_putN (D := D) (ci := 4) (v := .int p4) (ty := tyX4 5) (fs := (xfFrame V82 (Int32.toNatClampNeg (V 5 6)))) (C := RX4) (T := TX4) (N := 19) hx hb hg inX4 tyX4 tyX4_ok nmX4 hown hK hP hD hS (336 + (Int32.toNatClampNeg (V 5 6))) (xgFrame il73) rfl 5 (by decide) (hnw.use 1194 n1194 rfl) (fun _ h9 => h9) rfl (tyX4_ok 5 (by decide)) rfl rfl (Nat.le_of_ble_eq_true rfl) dX5_push_107 (fun H locs hP hD hS => ?_)
        obtain ⟨V84, hV84⟩ : ∃ z, z = up2 V82 72 (Int32.toNatClampNeg (V 5 6)) p4 := ⟨_, rfl⟩
        have ew85 : (xw ad kk V82 L Z66).set (336 + (Int32.toNatClampNeg (V 5 6))) ((Z66.fa (Int32.toNatClampNeg (V 5 6))), .inr (4, (xfFrame V82 (Int32.toNatClampNeg (V 5 6))).set 5 (.int p4))) = xw ad kk V84 L Z66 := by rw [hV84]; exact xpFrame_scope il73
        have hP : va_P D vwCl (xw ad kk V84 L Z66) H := by rw [← ew85]; exact hP
        have hD : va_D A (xw ad kk V84 L Z66) := by rw [← ew85]; exact hD
        have hMV84 : rgd bX V84 := hMV82.put hV84 (show 0 ≤ p4.toInt ∧ p4.toInt ≤ 39 from by omega)
        have agV84 : agr [(5, 6), (5, 9)] [67, 68, 69, 70, 71, 72, 73, 74, 75, 76, 77, 78, 79, 80, 81, 82, 83, 84, 85] V V84 := agV82.up hV84 rfl
        refine lv_aload hx hb dX5_push_110 (lv_at hl 0 rfl) ?_
        refine lv_iconst (v := 0) hx hb dX5_push_112 (by decide) ?_
        refine va_putN (D := D) (ci := 4) (v := .int 0) (ty := tyX4 8) (fs := (xfFrame V84 (Int32.toNatClampNeg (V 5 6)))) (C := RX4) (T := TX4) (N := 19) hx hb hg inX4 tyX4 tyX4_ok nmX4 hown hK hP hD hS (336 + (Int32.toNatClampNeg (V 5 6))) (xgFrame il73) rfl 8 (by decide) (hnw.use 1197 n1197 rfl) (fun _ h9 => h9) rfl (tyX4_ok 8 (by decide)) rfl rfl (Nat.le_of_ble_eq_true rfl) dX5_push_113 (fun H locs hP hD hS => ?_)
        obtain ⟨V86, hV86⟩ : ∃ z, z = up2 V84 75 (Int32.toNatClampNeg (V 5 6)) 0 := ⟨_, rfl⟩
        have ew87 : (xw ad kk V84 L Z66).set (336 + (Int32.toNatClampNeg (V 5 6))) ((Z66.fa (Int32.toNatClampNeg (V 5 6))), .inr (4, (xfFrame V84 (Int32.toNatClampNeg (V 5 6))).set 8 (.int 0))) = xw ad kk V86 L Z66 := by rw [hV86]; exact xpFrame_position il73
        have hP : va_P D vwCl (xw ad kk V86 L Z66) H := by rw [← ew87]; exact hP
        have hD : va_D A (xw ad kk V86 L Z66) := by rw [← ew87]; exact hD
        have hMV86 : rgd bX V86 := hMV84.put hV86 (show 0 ≤ Int32.toInt 0 ∧ Int32.toInt 0 ≤ 12 from by decide)
        have agV86 : agr [(5, 6), (5, 9)] [67, 68, 69, 70, 71, 72, 73, 74, 75, 76, 77, 78, 79, 80, 81, 82, 83, 84, 85] V V86 := agV84.up hV86 rfl
        refine lv_aload hx hb dX5_push_116 (lv_at hl 0 rfl) ?_
        refine lv_iconst (v := 0) hx hb dX5_push_118 (by decide) ?_
        refine va_putN (D := D) (ci := 4) (v := .int 0) (ty := tyX4 9) (fs := (xfFrame V86 (Int32.toNatClampNeg (V 5 6)))) (C := RX4) (T := TX4) (N := 19) hx hb hg inX4 tyX4 tyX4_ok nmX4 hown hK hP hD hS (336 + (Int32.toNatClampNeg (V 5 6))) (xgFrame il73) rfl 9 (by decide) (hnw.use 1198 n1198 rfl) (fun _ h9 => h9) rfl (tyX4_ok 9 (by decide)) rfl rfl (Nat.le_of_ble_eq_true rfl) dX5_push_119 (fun H locs hP hD hS => ?_)
        obtain ⟨V88, hV88⟩ : ∃ z, z = up2 V86 76 (Int32.toNatClampNeg (V 5 6)) 0 := ⟨_, rfl⟩
        have ew89 : (xw ad kk V86 L Z66).set (336 + (Int32.toNatClampNeg (V 5 6))) ((Z66.fa (Int32.toNatClampNeg (V 5 6))), .inr (4, (xfFrame V86 (Int32.toNatClampNeg (V 5 6))).set 9 (.int 0))) = xw ad kk V88 L Z66 := by rw [hV88]; exact xpFrame_item il73
        have hP : va_P D vwCl (xw ad kk V88 L Z66) H := by rw [← ew89]; exact hP
        have hD : va_D A (xw ad kk V88 L Z66) := by rw [← ew89]; exact hD
        have hMV88 : rgd bX V88 := hMV86.put hV88 (i_full _)
        have agV88 : agr [(5, 6), (5, 9)] [67, 68, 69, 70, 71, 72, 73, 74, 75, 76, 77, 78, 79, 80, 81, 82, 83, 84, 85] V V88 := agV86.up hV88 rfl
        refine lv_aload hx hb dX5_push_122 (lv_at hl 0 rfl) ?_
        refine lv_iconst (v := 0) hx hb dX5_push_124 (by decide) ?_
        refine va_putN (D := D) (ci := 4) (v := .int 0) (ty := tyX4 16) (fs := (xfFrame V88 (Int32.toNatClampNeg (V 5 6)))) (C := RX4) (T := TX4) (N := 19) hx hb hg inX4 tyX4 tyX4_ok nmX4 hown hK hP hD hS (336 + (Int32.toNatClampNeg (V 5 6))) (xgFrame il73) rfl 16 (by decide) (hnw.use 1205 n1205 rfl) (fun _ h9 => h9) rfl (tyX4_ok 16 (by decide)) rfl rfl (Nat.le_of_ble_eq_true rfl) dX5_push_125 (fun H locs hP hD hS => ?_)
        obtain ⟨V90, hV90⟩ : ∃ z, z = up2 V88 83 (Int32.toNatClampNeg (V 5 6)) 0 := ⟨_, rfl⟩
        have ew91 : (xw ad kk V88 L Z66).set (336 + (Int32.toNatClampNeg (V 5 6))) ((Z66.fa (Int32.toNatClampNeg (V 5 6))), .inr (4, (xfFrame V88 (Int32.toNatClampNeg (V 5 6))).set 16 (.int 0))) = xw ad kk V90 L Z66 := by rw [hV90]; exact xpFrame_spent il73
        have hP : va_P D vwCl (xw ad kk V90 L Z66) H := by rw [← ew91]; exact hP
        have hD : va_D A (xw ad kk V90 L Z66) := by rw [← ew91]; exact hD
        have hMV90 : rgd bX V90 := hMV88.put hV90 (show 0 ≤ Int32.toInt 0 ∧ Int32.toInt 0 ≤ 1 from by decide)
        have agV90 : agr [(5, 6), (5, 9)] [67, 68, 69, 70, 71, 72, 73, 74, 75, 76, 77, 78, 79, 80, 81, 82, 83, 84, 85] V V90 := agV88.up hV90 rfl
        refine lv_aload_n hx hb dX5_push_128 rfl (lv_at hl 1 rfl) ?_
        refine lv_iconst (v := 0) hx hb dX5_push_129 (by decide) ?_
        refine va_put (D := D) (ci := 5) (v := .int 0) (ty := tyX5 9) (fs := (xfMachine ad V90 L Z66)) (C := RX5) (T := TX5) (N := 15) hx hb hg inX5 tyX5 tyX5_ok nmX5 hown hK hP hD hS 5 xgMachine rfl 9 (by decide) (hg _ w676) (fun _ h9 => h9) rfl (tyX5_ok 9 (by decide)) rfl rfl (Nat.le_of_ble_eq_true rfl) dX5_push_130 (fun H locs hP hD hS => ?_)
        obtain ⟨V92, hV92⟩ : ∃ z, z = up2 V90 5 9 0 := ⟨_, rfl⟩
        have ew93 : (xw ad kk V90 L Z66).set 5 ((ad 5), .inr (5, (xfMachine ad V90 L Z66).set 9 (.int 0))) = xw ad kk V92 L Z66 := by rw [hV92]; exact xw_ss (by decide) rfl (xb_si (by decide))
        have hP : va_P D vwCl (xw ad kk V92 L Z66) H := by rw [← ew93]; exact hP
        have hD : va_D A (xw ad kk V92 L Z66) := by rw [← ew93]; exact hD
        have hMV92 : rgd bX V92 := hMV90.put hV92 (by decide)
        have agV92 : agr [(5, 6), (5, 9)] [67, 68, 69, 70, 71, 72, 73, 74, 75, 76, 77, 78, 79, 80, 81, 82, 83, 84, 85] V V92 := agV90.up hV92 rfl
        refine lv_aload hx hb dX5_push_133 (lv_at hl 0 rfl) ?_
        have pq94 : (V92 5 6).toInt = z70.toInt := congrArg Int32.toInt ((up2_k hV92 (by decide)).trans ((up2_o hV90 (by decide)).trans ((up2_o hV88 (by decide)).trans ((up2_o hV86 (by decide)).trans ((up2_o hV84 (by decide)).trans ((up2_o hV82 (by decide)).trans ((up2_o hV80 (by decide)).trans ((up2_o hV78 (by decide)).trans ((up2_o hV76 (by decide)).trans ((up2_o hV74 (by decide)).trans (up2_s hV71)))))))))))
        have pq95 : (V92 5 9).toInt = 0 := (congrArg Int32.toInt (up2_s hV92)).trans (by decide)
        have me96 : ME V V92 (Int32.toNatClampNeg (V 5 6)) := (ME.up (ME.up (ME.up (ME.up (ME.up (ME.up (ME.up (ME.up (ME.up (ME.up (ME.up (ME.tr ME.rf (by rw [hV65]; exact ME.zz (by omega))) hV71 (Or.inr (by omega))) hV74 (Or.inl ⟨by decide, by decide, Nat.le_refl _⟩)) hV76 (Or.inl ⟨by decide, by decide, Nat.le_refl _⟩)) hV78 (Or.inl ⟨by decide, by decide, Nat.le_refl _⟩)) hV80 (Or.inl ⟨by decide, by decide, Nat.le_refl _⟩)) hV82 (Or.inl ⟨by decide, by decide, Nat.le_refl _⟩)) hV84 (Or.inl ⟨by decide, by decide, Nat.le_refl _⟩)) hV86 (Or.inl ⟨by decide, by decide, Nat.le_refl _⟩)) hV88 (Or.inl ⟨by decide, by decide, Nat.le_refl _⟩)) hV90 (Or.inl ⟨by decide, by decide, Nat.le_refl _⟩)) hV92 (Or.inr (by omega)))
        have rp97 : Z66.ln = Z.ln ∧ Z66.nf ≤ 400 := ⟨zgZ66, by omega⟩
        refine W.know (fun kr1 kr2 => ?_)
        refine W.widen (k := zcc Z) (n := zss Z) (Nat.sub_le _ _) (Nat.sub_le _ _) ?_
        exact W.aret (v := .ref (Z66.fa (Int32.toNatClampNeg (V 5 6)))) hx hb hr (Or.inl ⟨_, rfl⟩) (Or.inr ⟨_, rfl⟩) (fun t ht hW => ⟨⟨(V92, L, Z66, (Int32.toNatClampNeg (V 5 6))), rfl, ⟨hMV92, agV92, rfl, zoZ66, il73, me96, ⟨((up2_o hV92 (by decide)).trans ((up2_o hV90 (by decide)).trans ((up2_o hV88 (by decide)).trans ((up2_o hV86 (by decide)).trans ((up2_o hV84 (by decide)).trans ((up2_o hV82 (by decide)).trans ((up2_o hV80 (by decide)).trans ((up2_o hV78 (by decide)).trans ((up2_o hV76 (by decide)).trans (up2_s hV74)))))))))), ((up2_o hV92 (by decide)).trans ((up2_o hV90 (by decide)).trans ((up2_o hV88 (by decide)).trans ((up2_o hV86 (by decide)).trans ((up2_o hV84 (by decide)).trans ((up2_o hV82 (by decide)).trans ((up2_o hV80 (by decide)).trans ((up2_o hV78 (by decide)).trans (up2_s hV76))))))))), ((up2_o hV92 (by decide)).trans ((up2_o hV90 (by decide)).trans ((up2_o hV88 (by decide)).trans ((up2_o hV86 (by decide)).trans ((up2_o hV84 (by decide)).trans ((up2_o hV82 (by decide)).trans (up2_s hV80))))))), ((up2_o hV92 (by decide)).trans ((up2_o hV90 (by decide)).trans ((up2_o hV88 (by decide)).trans ((up2_o hV86 (by decide)).trans ((up2_o hV84 (by decide)).trans (up2_s hV82)))))), ((up2_o hV92 (by decide)).trans ((up2_o hV90 (by decide)).trans ((up2_o hV88 (by decide)).trans (up2_s hV86)))), ((up2_o hV92 (by decide)).trans ((up2_o hV90 (by decide)).trans (up2_s hV88)))⟩, (show ((Int32.toNatClampNeg (V 5 6)) : Int) + 1 = (V92 5 6).toInt from by omega), (show ((Int32.toNatClampNeg (V 5 6)) : Int) ≤ (V 5 6).toInt ∧ (V 5 6).toInt ≤ ((Int32.toNatClampNeg (V 5 6)) : Int) + 1 from by omega), (show (V92 5 9).toInt = 0 from by omega), rp97⟩, ⟨by rw [ht]; exact hP, va_K.moved hW.alike hK, hD⟩, by rw [ht]; exact kr1, by rw [ht]; exact kr2⟩, hS.F ht⟩) hS.2.2 dX5_push_135
