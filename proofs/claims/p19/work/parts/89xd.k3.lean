/-! bits and numbers -/
theorem and_n {x y z : Int32} {M : Nat} (e : z = x &&& y) (hx : 0 ≤ x.toInt) (hM : y.toBitVec.toNat = M) : z.toInt.toNat = x.toInt.toNat &&& M ∧ 0 ≤ z.toInt ∧ z.toInt ≤ x.toInt ∧ z.toInt ≤ (M : Int) := by
  have f := i_full x
  have ax := bn_of (x := x) (n := 2147483648) ⟨hx, by omega⟩
  have az : z.toBitVec.toNat = x.toBitVec.toNat &&& M := by
    rw [e]
    show (x.toBitVec &&& y.toBitVec).toNat = _
    rw [BitVec.toNat_and, hM]
  have a1 : x.toBitVec.toNat &&& M ≤ x.toBitVec.toNat := Nat.and_le_left
  have a2 : x.toBitVec.toNat &&& M ≤ M := Nat.and_le_right
  have b := bn_to (x := z) (n := 2147483648) (by omega) (by decide)
  rw [show x.toInt.toNat = x.toBitVec.toNat from by omega]
  refine ⟨by omega, b.1, by omega, by omega⟩
theorem popN_c {n a y b c z u v w : Nat} (h1 : a = n / 2 &&& 1431655765) (h2 : y = n - a) (h3 : b = y &&& 858993459) (h4 : c = y / 4 &&& 858993459) (h5 : z = b + c) (h6 : u = (z + z / 16) &&& 252645135) (h7 : v = u + u / 256) (h8 : w = (v + v / 65536) &&& 63) : w = popN n := by
  subst h1 h2 h3 h4 h5 h6 h7 h8
  rfl
theorem bt_n {x : Int32} (h : 0 ≤ x.toInt ∧ x.toInt < 16777216) (i : Nat) : bt x i = x.toInt.toNat.testBit i := by
  have a := bn_of (x := x) (n := 16777216) h
  unfold bt
  rw [show x.toInt.toNat = x.toBitVec.toNat from by omega]
  rfl
theorem fl_len {p q : Nat → Bool} {m : Nat} : ∀ k, (∀ i, i < m → p i = q i) → (∀ i, m ≤ i → i < k → p i = false) → m ≤ k → (List.range k).filter p = (List.range m).filter q
  | 0, _, _, hm => by
    have e : m = 0 := by omega
    subst e
    rfl
  | k + 1, h1, h2, hm => by
    rcases Nat.lt_or_eq_of_le hm with c | c
    · rw [List.range_succ, List.filter_append, fl_len k h1 (fun i a b => h2 i a (by omega)) (by omega), List.filter_cons_of_neg (by rw [h2 k (by omega) (by omega)]; exact Bool.false_ne_true)]
      exact List.append_nil _
    · subst c
      exact List.filter_congr (fun i hi => h1 i (List.mem_range.mp hi))
theorem pcl {n : Nat} (h : n < 16777216) : popN n = ((List.range 24).filter (fun i => n.testBit i)).length := by
  have e : popN n = popN (n % 256 + 256 * (n / 256 % 256 + 256 * (n / 65536))) := congrArg popN (by omega)
  have q1 : ∀ i, i < 8 → (n % 256).testBit i = n.testBit i := fun i hi => by
    rw [show (256 : Nat) = 2 ^ 8 from rfl, Nat.testBit_mod_two_pow, decide_eq_true hi, Bool.true_and]
  have q2 : ∀ i, i < 8 → (n / 256 % 256).testBit i = n.testBit (8 + i) := fun i hi => by
    rw [show (256 : Nat) = 2 ^ 8 from rfl, Nat.testBit_mod_two_pow, decide_eq_true hi, Bool.true_and, Nat.testBit_div_two_pow, Nat.add_comm]
  have q3 : ∀ i, i < 8 → (n / 65536).testBit i = n.testBit (16 + i) := fun i hi => by
    rw [show (65536 : Nat) = 2 ^ 16 from rfl, Nat.testBit_div_two_pow, Nat.add_comm]
  have r : List.range 24 = List.range 8 ++ ((List.range 8).map (fun i => 8 + i) ++ (List.range 8).map (fun i => 16 + i)) := by decide
  rw [e, popN_b (by omega) (by omega) (by omega), r, List.filter_append, List.filter_append, List.filter_map, List.filter_map, List.length_append, List.length_append, List.length_map, List.length_map]
  unfold pcb
  rw [List.filter_congr (fun i hi => q1 i (List.mem_range.mp hi)), List.filter_congr (fun i hi => q2 i (List.mem_range.mp hi)), List.filter_congr (fun i hi => q3 i (List.mem_range.mp hi)), Nat.add_assoc]
  rfl
section FLs
variable {f : Nat → Nat} {sv : Nat → Int} {kd t ca m k c j g : Nat} {x : Int32}
theorem FND.len (h : FND x f sv kd t ca m) (hx : 0 ≤ x.toInt ∧ x.toInt < 16777216) (hm : m ≤ 24) : popN x.toInt.toNat = (CLP f sv kd t ca m m).length := by
  rw [pcl (by omega)]
  unfold CLP
  refine congrArg List.length (fl_len 24 (fun i hi => ?_) (fun i a b => ?_) hm)
  · show x.toInt.toNat.testBit i = _
    rw [← bt_n hx]
    have z := h i (by omega)
    exact Bool.eq_iff_iff.mpr ⟨fun q => (z.mp q).2, fun q => z.mpr ⟨hi, q⟩⟩
  · show x.toInt.toNat.testBit i = false
    rw [← bt_n hx]
    have z := h i b
    cases e : bt x i
    · rfl
    · exact absurd (z.mp e).1 (by omega)
theorem FND.mem (h : FND x f sv kd t ca m) (hm : m ≤ 24) (hg : g < m) : bt x g = true ↔ g ∈ CLP f sv kd t ca m m := by
  unfold CLP
  rw [List.mem_filter, List.mem_range]
  exact h g (by omega)
theorem FND.nil (h : FND x f sv kd t ca m) (hx : 0 ≤ x.toInt ∧ x.toInt < 16777216) (hm : m ≤ 24) : x.toInt = 0 ↔ (CLP f sv kd t ca m m).length = 0 := by
  constructor
  · intro q
    rw [← h.len hx hm, q]
    decide
  · intro q
    have z : x.toInt.toNat = 0 := by
      apply Nat.eq_of_testBit_eq
      intro i
      rw [Nat.zero_testBit]
      rcases Nat.lt_or_ge i 24 with a | a
      · rw [← bt_n hx]
        cases e : bt x i
        · rfl
        · have y := (h i a).mp e
          have w := (h.mem hm y.1).mp e
          rw [List.length_eq_zero_iff.mp q] at w
          exact absurd w List.not_mem_nil
      · exact Nat.testBit_lt_two_pow (Nat.lt_of_lt_of_le (show x.toInt.toNat < 2 ^ 24 from by omega) (Nat.pow_le_pow_right (by decide) a))
    omega
/-! a need's FAULT -/
def clF (f : Nat → Nat) (sv : Nat → Int) (m c j : Nat) : List Nat := CLP f sv (f (301 + 32 * c + 4 * j)) (f (300 + 32 * c + 4 * j)) (f (302 + 32 * c + 4 * j)) m m
def shP (f : Nat → Nat) (c g : Nat) : Bool := decide (f (61 + 8 * g) ≠ 3 ∧ min (f (61 + 8 * c)) 2 < f (61 + 8 * g))
def ftP (f : Nat → Nat) (sv : Nat → Int) (m c j : Nat) : Nat :=
  if f (301 + 32 * c + 4 * j) ≠ 2 ∧ (clF f sv m c j).length = 0 then 1 else if f (301 + 32 * c + 4 * j) ≠ 2 ∧ 1 < (clF f sv m c j).length then 2 else if f (301 + 32 * c + 4 * j) ≠ 1 ∧ (∃ g, g ∈ clF f sv m c j ∧ shP f c g = true) then 4 else 0
theorem ft_1 (h : f (301 + 32 * c + 4 * j) ≠ 2) (n : (clF f sv m c j).length = 0) : ftP f sv m c j = 1 := if_pos ⟨h, n⟩
theorem ft_2 (h : f (301 + 32 * c + 4 * j) ≠ 2) (n : 1 < (clF f sv m c j).length) : ftP f sv m c j = 2 := (if_neg (fun q => by omega)).trans (if_pos ⟨h, n⟩)
theorem ft_n (h : f (301 + 32 * c + 4 * j) = 2 ∨ (clF f sv m c j).length = 1) : ftP f sv m c j = if f (301 + 32 * c + 4 * j) ≠ 1 ∧ (∃ g, g ∈ clF f sv m c j ∧ shP f c g = true) then 4 else 0 := (if_neg (fun q => by omega)).trans (if_neg (fun q => by omega))
theorem ft_4 (h : f (301 + 32 * c + 4 * j) = 2 ∨ (clF f sv m c j).length = 1) (n : f (301 + 32 * c + 4 * j) ≠ 1) (q : g ∈ clF f sv m c j) (s : shP f c g = true) : ftP f sv m c j = 4 := (ft_n h).trans (if_pos ⟨n, g, q, s⟩)
theorem ft_0 (h : f (301 + 32 * c + 4 * j) = 2 ∨ (clF f sv m c j).length = 1) (n : f (301 + 32 * c + 4 * j) = 1 ∨ ∀ g, g ∈ clF f sv m c j → shP f c g = false) : ftP f sv m c j = 0 := (ft_n h).trans (if_neg (fun q => by
  obtain ⟨a, g, b, d⟩ := q
  rcases n with n | n
  · exact a n
  · rw [n g b] at d
    exact absurd d Bool.false_ne_true))
theorem clF_lt (h : g ∈ clF f sv m c j) : g < m := by
  unfold clF CLP at h
  exact List.mem_range.mp (List.mem_filter.mp h).1
theorem shP_y (a : f (61 + 8 * g) ≠ 3) (b : min (f (61 + 8 * c)) 2 < f (61 + 8 * g)) : shP f c g = true := decide_eq_true ⟨a, b⟩
theorem shP_n (a : f (61 + 8 * g) = 3 ∨ f (61 + 8 * g) ≤ min (f (61 + 8 * c)) 2) : shP f c g = false := decide_eq_false (fun q => by omega)
/-! the FAULTS: how many, and of each kind, component, need, ring -/
abbrev FSt := Nat × (Nat → Nat → Nat)
def adF (F : FSt) (k c d : Nat) (R : Nat → Nat) : FSt := (F.1 + 1, fun i a => if i = F.1 then (if a = 0 then k else if a = 1 then c else if a = 2 then d else R (a - 3)) else F.2 i a)
def FLT (n : Int32) (K O D R : Nat → Int32) (F : FSt) : Prop := n.toInt = ((F.1 : Nat) : Int) ∧ ∀ i, i < F.1 → i < 100 → (K i).toInt = ((F.2 i 0 : Nat) : Int) ∧ (O i).toInt = ((F.2 i 1 : Nat) : Int) ∧ (D i).toInt = ((F.2 i 2 : Nat) : Int) ∧ (F.2 i 0 = 3 → ∀ q, q < F.2 i 2 → (R (24 * i + q)).toInt = ((F.2 i (3 + q) : Nat) : Int))
theorem FLT.z {n : Int32} {K O D R : Nat → Int32} {G : Nat → Nat → Nat} (h : n.toInt = 0) : FLT n K O D R (0, G) := ⟨h, fun i a _ => absurd a (Nat.not_lt_zero _)⟩
/-- one more -/
theorem FLT.ad {n n' : Int32} {K O D R K' O' D' R' : Nat → Int32} {F : FSt} {k c d : Nat} {Q : Nat → Nat} (h : FLT n K O D R F) (e : n'.toInt = n.toInt + 1)
    (old : ∀ i, i < F.1 → i < 100 → K' i = K i ∧ O' i = O i ∧ D' i = D i ∧ ∀ q, q < 24 → R' (24 * i + q) = R (24 * i + q)) (r24 : ∀ i, i < F.1 → i < 100 → F.2 i 0 = 3 → F.2 i 2 ≤ 24)
    (new : F.1 < 100 → (K' F.1).toInt = (k : Int) ∧ (O' F.1).toInt = (c : Int) ∧ (D' F.1).toInt = (d : Int) ∧ (k = 3 → ∀ q, q < d → (R' (24 * F.1 + q)).toInt = ((Q q : Nat) : Int))) : FLT n' K' O' D' R' (adF F k c d Q) := by
  refine ⟨by rw [e, h.1]; rfl, fun i a b => ?_⟩
  by_cases c0 : i = F.1
  · subst c0
    have z := new b
    show _ = ((if F.1 = F.1 then _ else _ : Nat) : Int) ∧ _ = ((if F.1 = F.1 then _ else _ : Nat) : Int) ∧ _ = ((if F.1 = F.1 then _ else _ : Nat) : Int) ∧ ((if F.1 = F.1 then _ else _ : Nat) = 3 → ∀ q, q < (if F.1 = F.1 then _ else _ : Nat) → _ = ((if F.1 = F.1 then _ else _ : Nat) : Int))
    simp only [if_true]
    refine ⟨z.1, z.2.1, z.2.2.1, fun w q hq => ?_⟩
    have y := z.2.2.2 w q hq
    rw [if_neg (by omega), if_neg (by omega), if_neg (by omega), show 3 + q - 3 = q from by omega]
    exact y
  · have a' : i < F.1 := by
      have a2 : i < F.1 + 1 := a
      omega
    have o := old i a' b
    have z := h.2 i a' b
    show _ = ((if i = F.1 then _ else _ : Nat) : Int) ∧ _ = ((if i = F.1 then _ else _ : Nat) : Int) ∧ _ = ((if i = F.1 then _ else _ : Nat) : Int) ∧ ((if i = F.1 then _ else _ : Nat) = 3 → ∀ q, q < (if i = F.1 then _ else _ : Nat) → _ = ((if i = F.1 then _ else _ : Nat) : Int))
    simp only [if_neg c0]
    rw [o.1, o.2.1, o.2.2.1]
    exact ⟨z.1, z.2.1, z.2.2.1, fun w q hq => by rw [o.2.2.2 q (by have y := r24 i a' b w; omega)]; exact z.2.2.2 w q hq⟩
/-- rings are no longer than 24 -/
def F24 (F : FSt) : Prop := ∀ i, i < F.1 → F.2 i 0 = 3 → F.2 i 2 ≤ 24
theorem F24.z {G : Nat → Nat → Nat} : F24 (0, G) := fun i a => absurd a (Nat.not_lt_zero _)
theorem F24.ad {F : FSt} {d : Nat} {Q : Nat → Nat} (h : F24 F) (hd : k = 3 → d ≤ 24) : F24 (adF F k c d Q) := fun i a q => by
  have a2 : i < F.1 + 1 := a
  by_cases c0 : i = F.1
  · have e0 : (adF F k c d Q).2 i 0 = k := if_pos c0
    have e2 : (adF F k c d Q).2 i 2 = d := if_pos c0
    rw [e2]
    rw [e0] at q
    exact hd q
  · have e0 : (adF F k c d Q).2 i 0 = F.2 i 0 := if_neg c0
    have e2 : (adF F k c d Q).2 i 2 = F.2 i 2 := if_neg c0
    rw [e2]
    rw [e0] at q
    exact h i (by omega) q
def ndO (f : Nat → Nat) (sv : Nat → Int) (m c j : Nat) (F : FSt) : FSt := if ftP f sv m c j = 0 then F else adF F (ftP f sv m c j) c j (fun _ => 0)
theorem ndO_0 {F : FSt} (h : ftP f sv m c j = 0) : ndO f sv m c j F = F := if_pos h
theorem ndO_1 {F : FSt} (h : ftP f sv m c j ≠ 0) : ndO f sv m c j F = adF F (ftP f sv m c j) c j (fun _ => 0) := if_neg h
def ndF (f : Nat → Nat) (sv : Nat → Int) (m c : Nat) : Nat → FSt → FSt
  | 0, F => F
  | j + 1, F => if ftP f sv m c j = 0 then ndF f sv m c j F else adF (ndF f sv m c j F) (ftP f sv m c j) c j (fun _ => 0)
theorem ndF_0 {F : FSt} (h : ftP f sv m c j = 0) : ndF f sv m c (j + 1) F = ndF f sv m c j F := if_pos h
theorem ndF_1 {F : FSt} (h : ftP f sv m c j ≠ 0) : ndF f sv m c (j + 1) F = adF (ndF f sv m c j F) (ftP f sv m c j) c j (fun _ => 0) := if_neg h
theorem ndF_s {F : FSt} : ndF f sv m c (j + 1) F = ndO f sv m c j (ndF f sv m c j F) := rfl
theorem ft_ne3 : ftP f sv m c j ≠ 3 := by
  unfold ftP
  split
  · decide
  · split
    · decide
    · split
      · decide
      · decide
def alF (f : Nat → Nat) (sv : Nat → Int) (m : Nat) : Nat → FSt → FSt
  | 0, F => F
  | c + 1, F => if thP f sv c = true then ndF f sv m c (f (66 + 8 * c)) (alF f sv m c F) else alF f sv m c F
theorem alF_y {F : FSt} (h : thP f sv c = true) : alF f sv m (c + 1) F = ndF f sv m c (f (66 + 8 * c)) (alF f sv m c F) := if_pos h
theorem alF_n {F : FSt} (h : thP f sv c = false) : alF f sv m (c + 1) F = alF f sv m c F := if_neg (by rw [h]; exact Bool.false_ne_true)
/-- the numbers' bounds -/
def T24 (s : St) : Prop := ∀ c, c < (s.2.1 2).length → s.1 (61 + 8 * c) ≤ 3 ∧ s.1 (66 + 8 * c) ≤ 8 ∧ ∀ j, j < s.1 (66 + 8 * c) → s.1 (300 + 32 * c + 4 * j) < 24
/-- a need's candidates are lacking or too many: told in a row -/
def WRG (x : Int32) (f : Nat → Nat) (sv : Nat → Int) (m c j : Nat) : Prop := (x.toInt = 1 ∧ (ftP f sv m c j = 1 ∨ ftP f sv m c j = 2)) ∨ (x.toInt = 0 ∧ ftP f sv m c j ≠ 1 ∧ ftP f sv m c j ≠ 2)
theorem mem_at {l : List Nat} (h : ∀ i (q : i < l.length), l[i] ≠ g) : ¬ g ∈ l := fun q => by
  obtain ⟨i, hi, e⟩ := List.mem_iff_getElem.mp q
  exact h i hi e
theorem CLP_mem (hk : k < m) : k ∈ CLP f sv kd t ca m m ↔ cdP f sv kd t ca m k = true := by
  unfold CLP
  rw [List.mem_filter, List.mem_range]
  exact ⟨fun q => q.2, fun q => ⟨hk, q⟩⟩
/-! the search for rings -/
def upn (g : Nat → Nat) (k v : Nat) : Nat → Nat := fun i => if i = k then v else g i
theorem upn_s {g : Nat → Nat} {k v : Nat} : upn g k v k = v := if_pos rfl
theorem upn_o {g : Nat → Nat} {k v i : Nat} (h : i ≠ k) : upn g k v i = g i := if_neg h
def edC (f : Nat → Nat) (sv : Nat → Int) (m c j k : Nat) : List Nat := if f (301 + 32 * c + 4 * j) = 1 ∨ ftP f sv m c j = 1 ∨ ftP f sv m c j = 2 then [] else CLP f sv (f (301 + 32 * c + 4 * j)) (f (300 + 32 * c + 4 * j)) (f (302 + 32 * c + 4 * j)) m k
def edJ (f : Nat → Nat) (sv : Nat → Int) (m c : Nat) : Nat → List Nat
  | 0 => []
  | j + 1 => edJ f sv m c j ++ edC f sv m c j m
theorem edC_0 : edC f sv m c j 0 = [] := by
  unfold edC
  split
  · rfl
  · rfl
theorem edC_x (h : f (301 + 32 * c + 4 * j) = 1 ∨ ftP f sv m c j = 1 ∨ ftP f sv m c j = 2) : edC f sv m c j k = [] := if_pos h
theorem edC_n (h : cdP f sv (f (301 + 32 * c + 4 * j)) (f (300 + 32 * c + 4 * j)) (f (302 + 32 * c + 4 * j)) m k = false) : edC f sv m c j (k + 1) = edC f sv m c j k := by
  unfold edC
  split
  · rfl
  · exact CLP_n h
theorem edC_y (n : ¬ (f (301 + 32 * c + 4 * j) = 1 ∨ ftP f sv m c j = 1 ∨ ftP f sv m c j = 2)) (h : cdP f sv (f (301 + 32 * c + 4 * j)) (f (300 + 32 * c + 4 * j)) (f (302 + 32 * c + 4 * j)) m k = true) : edC f sv m c j (k + 1) = edC f sv m c j k ++ [k] := by
  unfold edC
  rw [if_neg n, if_neg n]
  exact CLP_y h
abbrev MSt := (Nat → Nat) × FSt
/-- an edge to d, from the end of the path P of length p -/
def stE (K : Nat → MSt → MSt) (p : Nat) (P : Nat → Nat) (s : MSt) (d : Nat) : MSt := if s.1 d = 0 then K d s else if s.1 d = 1 then s else (s.1, adF s.2 3 d (p - (s.1 d - 2)) (fun k => P (s.1 d - 2 + k)))
def VIS (f : Nat → Nat) (sv : Nat → Int) (m : Nat) : Nat → Nat → (Nat → Nat) → Nat → MSt → MSt
  | 0, _, _, _, s => s
  | h + 1, p, P, c, s =>
    let t := List.foldl (stE (VIS f sv m h (p + 1) (upn P p c)) (p + 1) (upn P p c)) (upn s.1 c (2 + p), s.2) (edJ f sv m c (f (66 + 8 * c)))
    (upn t.1 c 1, t.2)
/-- so far, among the edges -/
def VFO (f : Nat → Nat) (sv : Nat → Int) (m h p : Nat) (P : Nat → Nat) (c : Nat) (s : MSt) (l : List Nat) : MSt := List.foldl (stE (VIS f sv m h (p + 1) (upn P p c)) (p + 1) (upn P p c)) (upn s.1 c (2 + p), s.2) l
theorem VIS_e {h p : Nat} {P : Nat → Nat} {s : MSt} : VIS f sv m (h + 1) p P c s = (upn (VFO f sv m h p P c s (edJ f sv m c (f (66 + 8 * c)))).1 c 1, (VFO f sv m h p P c s (edJ f sv m c (f (66 + 8 * c)))).2) := rfl
theorem VFO_a {h p d : Nat} {P : Nat → Nat} {s : MSt} {l : List Nat} : VFO f sv m h p P c s (l ++ [d]) = stE (VIS f sv m h (p + 1) (upn P p c)) (p + 1) (upn P p c) (VFO f sv m h p P c s l) d := List.foldl_append
theorem stE_0 {K : Nat → MSt → MSt} {p d : Nat} {P : Nat → Nat} {s : MSt} (h : s.1 d = 0) : stE K p P s d = K d s := if_pos h
theorem stE_1 {K : Nat → MSt → MSt} {p d : Nat} {P : Nat → Nat} {s : MSt} (h : s.1 d = 1) : stE K p P s d = s := (if_neg (by omega)).trans (if_pos h)
theorem stE_2 {K : Nat → MSt → MSt} {p d : Nat} {P : Nat → Nat} {s : MSt} (h : 2 ≤ s.1 d) : stE K p P s d = (s.1, adF s.2 3 d (p - (s.1 d - 2)) (fun k => P (s.1 d - 2 + k))) := (if_neg (by omega)).trans (if_neg (by omega))
/-- the marks 2 + k are those of the path -/
def PWF (M P : Nat → Nat) (p : Nat) : Prop := (∀ d, 2 ≤ M d → M d ≤ 1 + p ∧ P (M d - 2) = d) ∧ ∀ k, k < p → M (P k) = 2 + k
theorem PWF.z {P : Nat → Nat} : PWF (fun _ => 0) P 0 := ⟨fun d h => absurd h (show ¬ 2 ≤ 0 from by decide), fun k h => absurd h (Nat.not_lt_zero _)⟩
theorem PWF.en {M P : Nat → Nat} {p : Nat} (h : PWF M P p) (h0 : M c = 0) : PWF (upn M c (2 + p)) (upn P p c) (p + 1) := by
  constructor
  · intro d hd
    by_cases q : d = c
    · subst q
      rw [upn_s, show 2 + p - 2 = p from by omega, upn_s]
      exact ⟨by omega, rfl⟩
    · rw [upn_o q] at hd ⊢
      have z := h.1 d hd
      rw [upn_o (by omega)]
      exact ⟨by omega, z.2⟩
  · intro k hk
    by_cases q : k = p
    · subst q
      rw [upn_s, upn_s]
    · rw [upn_o q]
      have z := h.2 k (by omega)
      rw [upn_o (fun w => by rw [w, h0] at z; omega)]
      exact z
theorem PWF.lv {M P : Nat → Nat} {p : Nat} (h : PWF M (upn P p c) (p + 1)) : PWF (upn M c 1) P p := by
  have hc : M c = 2 + p := by
    have z := h.2 p (by omega)
    rw [upn_s] at z
    exact z
  constructor
  · intro d hd
    by_cases q : d = c
    · subst q
      rw [upn_s] at hd
      omega
    · rw [upn_o q] at hd ⊢
      have z := h.1 d hd
      have y : M d - 2 ≠ p := fun w => by
        rw [w, upn_s] at z
        exact q z.2.symm
      rw [upn_o y] at z
      exact ⟨by omega, z.2⟩
  · intro k hk
    have z := h.2 k (by omega)
    rw [upn_o (by omega)] at z
    rw [upn_o (fun w => by rw [w] at z; omega)]
    exact z
/-- the search as a whole -/
def tpV (f : Nat → Nat) (sv : Nat → Int) (m : Nat) : Nat → MSt → MSt
  | 0, s => s
  | c + 1, s => if thP f sv c = true ∧ (tpV f sv m c s).1 c = 0 then VIS f sv m 24 0 (fun _ => 0) c (tpV f sv m c s) else tpV f sv m c s
theorem tpV_y {s : MSt} (h : thP f sv c = true) (q : (tpV f sv m c s).1 c = 0) : tpV f sv m (c + 1) s = VIS f sv m 24 0 (fun _ => 0) c (tpV f sv m c s) := if_pos ⟨h, q⟩
theorem tpV_n {s : MSt} (h : thP f sv c = false ∨ (tpV f sv m c s).1 c ≠ 0) : tpV f sv m (c + 1) s = tpV f sv m c s := if_neg (fun q => by
  rcases h with h | h
  · rw [h] at q
    exact absurd q.1 Bool.false_ne_true
  · exact h q.2)
def CHK (f : Nat → Nat) (sv : Nat → Int) (m : Nat) : FSt := (tpV f sv m m (fun _ => 0, alF f sv m m (0, fun _ _ => 0))).2
end FLs
/-! the FAULTS in the cells (c) -/
def FLc (V : Vf) (F : FSt) : Prop := FLT (V 2 7) (V 15) (V 16) (V 17) (V 18) F ∧ F24 F
section FLcS
variable {V W V1 V2 V3 : Vf} {F : FSt} {k c d i1 i2 i3 p m : Nat} {a b g z : Int32} {Q P : Nat → Nat} {M : MSt}
theorem FLc.n (h : FLc V F) : (V 2 7).toInt = ((F.1 : Nat) : Int) := h.1.1
theorem FLc.fo (h : FLc V F) (e0 : W 2 7 = V 2 7) (e1 : W 15 = V 15) (e2 : W 16 = V 16) (e3 : W 17 = V 17) (e4 : W 18 = V 18) : FLc W F := by
  unfold FLc at h ⊢
  rw [e0, e1, e2, e3, e4]
  exact h
theorem FLc.n0 (h : FLc V F) (e : W = up2 V 2 7 z) (hz : z.toInt = (V 2 7).toInt + 1) (h1 : 100 ≤ (V 2 7).toInt) (h24 : k = 3 → d ≤ 24) : FLc W (adF F k c d Q) :=
  ⟨FLT.ad h.1 (by rw [up2_s e]; exact hz) (fun i _ _ => ⟨up2_o e (by decide), up2_o e (by decide), up2_o e (by decide), fun q _ => up2_o e (by decide)⟩) (fun i a _ => h.2 i a) (fun a => absurd h.1.1 (by omega)), h.2.ad h24⟩
theorem FLc.n1 (h : FLc V F) (e1 : V1 = up2 V 15 i1 a) (e2 : V2 = up2 V1 16 i2 b) (e3 : V3 = up2 V2 17 i3 g) (e4 : W = up2 V3 2 7 z) (hi1 : i1 = F.1) (hi2 : i2 = F.1) (hi3 : i3 = F.1) (hz : z.toInt = (V 2 7).toInt + 1) (ha : a.toInt = (k : Int)) (hb : b.toInt = (c : Int)) (hg : g.toInt = (d : Int)) (hr : k = 3 → ∀ q, q < d → (V 18 (24 * F.1 + q)).toInt = ((Q q : Nat) : Int)) (h24 : k = 3 → d ≤ 24) : FLc W (adF F k c d Q) := by
  subst hi1 hi2 hi3
  have eR : ∀ q, W 18 q = V 18 q := fun q => by rw [up2_o e4 (by decide), up2_o e3 (by decide), up2_o e2 (by decide), up2_o e1 (by decide)]
  refine ⟨FLT.ad h.1 (by rw [up2_s e4]; exact hz) (fun i hi _ => ⟨?_, ?_, ?_, fun q _ => eR _⟩) (fun i a _ => h.2 i a) (fun _ => ⟨?_, ?_, ?_, fun h3 q hq => by rw [eR]; exact hr h3 q hq⟩), h.2.ad h24⟩
  · rw [up2_o e4 (by decide), up2_o e3 (by decide), up2_o e2 (by decide), up2_k e1 (by omega)]
  · rw [up2_o e4 (by decide), up2_o e3 (by decide), up2_k e2 (by omega), up2_o e1 (by decide)]
  · rw [up2_o e4 (by decide), up2_k e3 (by omega), up2_o e2 (by decide), up2_o e1 (by decide)]
  · rw [up2_o e4 (by decide), up2_o e3 (by decide), up2_o e2 (by decide), up2_s e1]
    exact ha
  · rw [up2_o e4 (by decide), up2_o e3 (by decide), up2_s e2]
    exact hb
  · rw [up2_o e4 (by decide), up2_s e3]
    exact hg
/-- rows of rings that are not told yet may change -/
theorem FLc.rg (h : FLc V F) (e0 : W 2 7 = V 2 7) (e1 : W 15 = V 15) (e2 : W 16 = V 16) (e3 : W 17 = V 17) (e4 : ∀ q, q < 24 * F.1 → W 18 q = V 18 q) : FLc W F := by
  unfold FLc at h ⊢
  rw [e0, e1, e2, e3]
  exact ⟨⟨h.1.1, fun i a b => ⟨(h.1.2 i a b).1, (h.1.2 i a b).2.1, (h.1.2 i a b).2.2.1, fun w q hq => by
    have y := h.2 i a w
    rw [e4 _ (by omega)]
    exact (h.1.2 i a b).2.2.2 w q hq⟩⟩, h.2⟩
def MKc (x : Int32) (n : Nat) : Prop := (n = 0 → x.toInt = -1) ∧ (n = 1 → x.toInt = -2) ∧ (2 ≤ n → x.toInt + 2 = (n : Int))
def RFc (V : Vf) (m : Nat) (M : MSt) (P : Nat → Nat) (p : Nat) : Prop := FLc V M.2 ∧ (∀ d, d < m → MKc (V 20 d) (M.1 d)) ∧ (∀ k, k < p → (V 19 k).toInt = ((P k : Nat) : Int)) ∧ PWF M.1 P p
theorem RFc.rg (h : RFc V m M P p) (f : FLc W F) (e1 : W 20 = V 20) (e2 : W 19 = V 19) : RFc W m (M.1, F) P p := by
  refine ⟨f, ?_, ?_, h.2.2.2⟩
  · rw [e1]
    exact h.2.1
  · rw [e2]
    exact h.2.2.1
theorem RFc.fo (h : RFc V m M P p) (e0 : W 2 7 = V 2 7) (e1 : W 15 = V 15) (e2 : W 16 = V 16) (e3 : W 17 = V 17) (e4 : W 18 = V 18) (e5 : W 20 = V 20) (e6 : W 19 = V 19) : RFc W m M P p := h.rg (h.1.fo e0 e1 e2 e3 e4) e5 e6
theorem RFc.en {j i : Nat} {v w : Int32} (h : RFc V m M P p) (e1 : V1 = up2 V 19 i w) (e2 : W = up2 V1 20 j v) (hi : i = p) (hw : w.toInt = (c : Int)) (hj : j = c) (hv : v.toInt = (p : Int)) (h0 : M.1 c = 0) : RFc W m (upn M.1 c (2 + p), M.2) (upn P p c) (p + 1) := by
  subst hi hj
  refine ⟨h.1.fo ?_ ?_ ?_ ?_ ?_, fun d hd => ?_, fun k hk => ?_, h.2.2.2.en h0⟩
  · rw [up2_o e2 (by decide), up2_o e1 (by decide)]
  · rw [up2_fo e2 (by decide), up2_fo e1 (by decide)]
  · rw [up2_fo e2 (by decide), up2_fo e1 (by decide)]
  · rw [up2_fo e2 (by decide), up2_fo e1 (by decide)]
  · rw [up2_fo e2 (by decide), up2_fo e1 (by decide)]
  · show MKc (W 20 d) (upn M.1 j (2 + i) d)
    by_cases q : d = j
    · subst q
      rw [up2_s e2, upn_s]
      unfold MKc
      omega
    · rw [up2_k e2 q, up2_o e1 (by decide), upn_o q]
      exact h.2.1 d hd
  · by_cases q : k = i
    · subst q
      rw [up2_o e2 (by decide), up2_s e1, upn_s]
      exact hw
    · rw [up2_o e2 (by decide), up2_k e1 q, upn_o q]
      exact h.2.2.1 k (by omega)
theorem RFc.lv {j : Nat} {v : Int32} (h : RFc V m M (upn P p c) (p + 1)) (e2 : W = up2 V 20 j v) (hj : j = c) (hv : v.toInt = -2) : RFc W m (upn M.1 c 1, M.2) P p := by
  subst hj
  refine ⟨h.1.fo ?_ ?_ ?_ ?_ ?_, fun d hd => ?_, fun k hk => ?_, h.2.2.2.lv⟩
  · rw [up2_o e2 (by decide)]
  · rw [up2_fo e2 (by decide)]
  · rw [up2_fo e2 (by decide)]
  · rw [up2_fo e2 (by decide)]
  · rw [up2_fo e2 (by decide)]
  · show MKc (W 20 d) (upn M.1 j 1 d)
    by_cases q : d = j
    · subst q
      rw [up2_s e2, upn_s]
      unfold MKc
      omega
    · rw [up2_k e2 q, upn_o q]
      exact h.2.1 d hd
  · have z := h.2.2.1 k (by omega)
    rw [upn_o (by omega)] at z
    rw [up2_o e2 (by decide)]
    exact z
theorem COc.ag {b : Nat} {s : St} (h : COc V b s) (e49 : W 49 = V 49) (e50 : W 50 = V 50) (e51 : W 51 = V 51) (e52 : W 52 = V 52) (e53 : W 53 = V 53) (e54 : W 54 = V 54) (e55 : W 55 = V 55) (e58 : W 58 = V 58) (e59 : W 59 = V 59) (e60 : W 60 = V 60) : COc W b s := fun c hc => by
  have z := h c hc
  unfold COr HDr NEr at z ⊢
  rw [e49, e50, e51, e52, e53, e54, e55, e58, e59, e60]
  exact z
theorem COc.t24 {b : Nat} {s : St} (hM : rgd bX V) (h : COc V b s) : T24 s := fun c hc => by
  have z := h c hc
  have r : 0 ≤ (V 51 (24 * b + c)).toInt ∧ (V 51 (24 * b + c)).toInt ≤ 3 := hM 51 (24 * b + c)
  have e := z.1.2.1
  exact ⟨by omega, z.2.2.1, fun j hj => (z.2.2.2 j hj).2.2.2⟩
theorem svc_fo {b n : Nat} {sv : Nat → Int} (h : svc V b n = sv) (e : W 46 = V 46) : svc W b n = sv := by
  rw [← h]
  unfold svc
  rw [e]
end FLcS
/-- the edges of a need, as a set -/
def EFD (x : Int32) (f : Nat → Nat) (sv : Nat → Int) (m c j : Nat) : Prop := ∀ g, g < m → (bt x g = true ↔ (¬ (f (301 + 32 * c + 4 * j) = 1 ∨ ftP f sv m c j = 1 ∨ ftP f sv m c j = 2) ∧ cdP f sv (f (301 + 32 * c + 4 * j)) (f (300 + 32 * c + 4 * j)) (f (302 + 32 * c + 4 * j)) m g = true))
theorem EFD.z {f : Nat → Nat} {sv : Nat → Int} {m c j : Nat} (h : f (301 + 32 * c + 4 * j) = 1 ∨ ftP f sv m c j = 1 ∨ ftP f sv m c j = 2) : EFD 0 f sv m c j := fun g _ => by
  rw [b_0]
  exact ⟨fun q => absurd q Bool.false_ne_true, fun q => absurd h q.1⟩
theorem EFD.of {x : Int32} {f : Nat → Nat} {sv : Nat → Int} {m c j : Nat} (h : FND x f sv (f (301 + 32 * c + 4 * j)) (f (300 + 32 * c + 4 * j)) (f (302 + 32 * c + 4 * j)) m) (hm : m ≤ 24) (n : ¬ (f (301 + 32 * c + 4 * j) = 1 ∨ ftP f sv m c j = 1 ∨ ftP f sv m c j = 2)) : EFD x f sv m c j := fun g hg => by
  rw [h g (by omega)]
  exact ⟨fun q => ⟨n, q.2⟩, fun q => ⟨hg, q.2⟩⟩
theorem EFD.n {x : Int32} {f : Nat → Nat} {sv : Nat → Int} {m c j g : Nat} (h : EFD x f sv m c j) (hg : g < m) (b : bt x g = false) : edC f sv m c j (g + 1) = edC f sv m c j g := by
  by_cases q : f (301 + 32 * c + 4 * j) = 1 ∨ ftP f sv m c j = 1 ∨ ftP f sv m c j = 2
  · rw [edC_x q, edC_x q]
  · refine edC_n ?_
    cases e : cdP f sv (f (301 + 32 * c + 4 * j)) (f (300 + 32 * c + 4 * j)) (f (302 + 32 * c + 4 * j)) m g
    · rfl
    · rw [(h g hg).mpr ⟨q, e⟩] at b
      exact absurd b.symm Bool.false_ne_true
theorem EFD.y {x : Int32} {f : Nat → Nat} {sv : Nat → Int} {m c j g : Nat} (h : EFD x f sv m c j) (hg : g < m) (b : bt x g = true) : edC f sv m c j (g + 1) = edC f sv m c j g ++ [g] := by
  have z := (h g hg).mp b
  exact edC_y z.1 z.2


abbrev r_x_bitCount7 : Room := { frames := 0, cells := 0, slots := 0, locals := 0 }
abbrev q_x_bitCount7 (D : va_G) (p0 : Int32) (A : Nat → Prop) : Array Value → State → Outcome → State → Prop := va_Qi (fun (r : Int32) (_ : Unit) => (0 ≤ r.toInt ∧ r.toInt ≤ 63) ∧ (r.toInt = ((popN p0.toInt.toNat : Nat) : Int))) (fun _ t => gq D A [] [] t) A
set_option maxHeartbeats 4000000 in
set_option maxRecDepth 100000 in
theorem x_bitCount7 (l : Launch) (D : va_G) (ks : KS) (sz : Nat) (p0 : Int32) (rg_p0 : 0 ≤ p0.toInt ∧ p0.toInt ≤ 16777215)  : Met l yJ6_bitCount_0f7a4 (Cond.code yJ6_bitCount_0f7a4 cJ6_bitCount_0f7a4 1 (some .int) :: GW) r_x_bitCount7 (va_Pc [.int p0] (gp D ks ([]) ([]) sz)) (q_x_bitCount7 D p0 (va_A ([]) sz)) 0 0 (va_A ([]) sz) := by
  refine g_met (q_x_bitCount7 D p0) (by decide) (Nat.le_of_ble_eq_true rfl) ?_
  intro p e s m below meth c A ls H locs hx hb hr hml hown hg hlocks hin hnw hgk hP hK hD hS hA hl
  have hown : s.vm.findClass RJ6 = some m.cls := hown
  have hl : lv_has ls 1 [(0, .int p0)] := hl
  refine lv_iload_n hx hb dJ6_bitCount_0f7a4_0 rfl (lv_at hl 0 rfl) ?_
  refine lv_iload_n hx hb dJ6_bitCount_0f7a4_1 rfl (lv_at hl 0 rfl) ?_
  refine lv_iconst (v := 1) hx hb dJ6_bitCount_0f7a4_2 (by decide) ?_
  refine lv_iushr hx hb dJ6_bitCount_0f7a4_3 rfl ?_
  refine lv_topi (fun z1 ez1 => ?_)
  have hz1 : z1.toInt = p0.toInt / 2 := ushr_l (P := 2) (k := 1) ez1 (by omega) (by decide) (by decide) (by decide)
  refine lv_ldcw (v := 1431655765) hx hb hown (hg _ w1089) dJ6_bitCount_0f7a4_4 ?_
  refine lv_iand hx hb dJ6_bitCount_0f7a4_7 ?_
  refine lv_topi (fun z2 ez2 => ?_)
  have nz2 := and_n (M := 1431655765) ez2 (by omega) (by decide)
  have bz2 := nz2.2
  refine lv_isub hx hb dJ6_bitCount_0f7a4_8 ?_
  refine lv_topi (fun z3 ez3 => ?_)
  have hz3 : z3.toInt = p0.toInt - z2.toInt := i_sub ez3 rfl rfl (by omega)
  refine lv_istore_n (lv' := [(0, .int z3)]) hx hb dJ6_bitCount_0f7a4_9 rfl hl (by decide) rfl (fun ls hl => ?_)
  refine lv_iload_n hx hb dJ6_bitCount_0f7a4_10 rfl (lv_at hl 0 rfl) ?_
  refine lv_ldcw (v := 858993459) hx hb hown (hg _ w1090) dJ6_bitCount_0f7a4_11 ?_
  refine lv_iand hx hb dJ6_bitCount_0f7a4_14 ?_
  refine lv_topi (fun z4 ez4 => ?_)
  have nz4 := and_n (M := 858993459) ez4 (by omega) (by decide)
  have bz4 := nz4.2
  refine lv_iload_n hx hb dJ6_bitCount_0f7a4_15 rfl (lv_at hl 0 rfl) ?_
  refine lv_iconst (v := 2) hx hb dJ6_bitCount_0f7a4_16 (by decide) ?_
  refine lv_iushr hx hb dJ6_bitCount_0f7a4_17 rfl ?_
  refine lv_topi (fun z5 ez5 => ?_)
  have hz5 : z5.toInt = z3.toInt / 4 := ushr_l (P := 4) (k := 2) ez5 (by omega) (by decide) (by decide) (by decide)
  refine lv_ldcw (v := 858993459) hx hb hown (hg _ w1090) dJ6_bitCount_0f7a4_18 ?_
  refine lv_iand hx hb dJ6_bitCount_0f7a4_21 ?_
  refine lv_topi (fun z6 ez6 => ?_)
  have nz6 := and_n (M := 858993459) ez6 (by omega) (by decide)
  have bz6 := nz6.2
  refine lv_iadd hx hb dJ6_bitCount_0f7a4_22 ?_
  refine lv_topi (fun z7 ez7 => ?_)
  have hz7 : z7.toInt = z4.toInt + z6.toInt := i_add ez7 rfl rfl (by omega)
  refine lv_istore_n (lv' := [(0, .int z7)]) hx hb dJ6_bitCount_0f7a4_23 rfl hl (by decide) rfl (fun ls hl => ?_)
  refine lv_iload_n hx hb dJ6_bitCount_0f7a4_24 rfl (lv_at hl 0 rfl) ?_
  refine lv_iload_n hx hb dJ6_bitCount_0f7a4_25 rfl (lv_at hl 0 rfl) ?_
  refine lv_iconst (v := 4) hx hb dJ6_bitCount_0f7a4_26 (by decide) ?_
  refine lv_iushr hx hb dJ6_bitCount_0f7a4_27 rfl ?_
  refine lv_topi (fun z8 ez8 => ?_)
  have hz8 : z8.toInt = z7.toInt / 16 := ushr_l (P := 16) (k := 4) ez8 (by omega) (by decide) (by decide) (by decide)
  refine lv_iadd hx hb dJ6_bitCount_0f7a4_28 ?_
  refine lv_topi (fun z9 ez9 => ?_)
  have hz9 : z9.toInt = z7.toInt + z8.toInt := i_add ez9 rfl rfl (by omega)
  refine lv_ldcw (v := 252645135) hx hb hown (hg _ w1091) dJ6_bitCount_0f7a4_29 ?_
  refine lv_iand hx hb dJ6_bitCount_0f7a4_32 ?_
  refine lv_topi (fun z10 ez10 => ?_)
  have nz10 := and_n (M := 252645135) ez10 (by omega) (by decide)
  have bz10 := nz10.2
  refine lv_istore_n (lv' := [(0, .int z10)]) hx hb dJ6_bitCount_0f7a4_33 rfl hl (by decide) rfl (fun ls hl => ?_)
  refine lv_iload_n hx hb dJ6_bitCount_0f7a4_34 rfl (lv_at hl 0 rfl) ?_
  refine lv_iload_n hx hb dJ6_bitCount_0f7a4_35 rfl (lv_at hl 0 rfl) ?_
  refine lv_bipush (v := 8) hx hb dJ6_bitCount_0f7a4_36 (by decide) ?_
  refine lv_iushr hx hb dJ6_bitCount_0f7a4_38 rfl ?_
  refine lv_topi (fun z11 ez11 => ?_)
  have hz11 : z11.toInt = z10.toInt / 256 := ushr_l (P := 256) (k := 8) ez11 (by omega) (by decide) (by decide) (by decide)
  refine lv_iadd hx hb dJ6_bitCount_0f7a4_39 ?_
  refine lv_topi (fun z12 ez12 => ?_)
  have hz12 : z12.toInt = z10.toInt + z11.toInt := i_add ez12 rfl rfl (by omega)
  refine lv_istore_n (lv' := [(0, .int z12)]) hx hb dJ6_bitCount_0f7a4_40 rfl hl (by decide) rfl (fun ls hl => ?_)
  refine lv_iload_n hx hb dJ6_bitCount_0f7a4_41 rfl (lv_at hl 0 rfl) ?_
  refine lv_iload_n hx hb dJ6_bitCount_0f7a4_42 rfl (lv_at hl 0 rfl) ?_
  refine lv_bipush (v := 16) hx hb dJ6_bitCount_0f7a4_43 (by decide) ?_
  refine lv_iushr hx hb dJ6_bitCount_0f7a4_45 rfl ?_
  refine lv_topi (fun z13 ez13 => ?_)
  have hz13 : z13.toInt = z12.toInt / 65536 := ushr_l (P := 65536) (k := 16) ez13 (by omega) (by decide) (by decide) (by decide)
  refine lv_iadd hx hb dJ6_bitCount_0f7a4_46 ?_
  refine lv_topi (fun z14 ez14 => ?_)
  have hz14 : z14.toInt = z12.toInt + z13.toInt := i_add ez14 rfl rfl (by omega)
  refine lv_istore_n (lv' := [(0, .int z14)]) hx hb dJ6_bitCount_0f7a4_47 rfl hl (by decide) rfl (fun ls hl => ?_)
  refine lv_iload_n hx hb dJ6_bitCount_0f7a4_48 rfl (lv_at hl 0 rfl) ?_
  refine lv_bipush (v := 63) hx hb dJ6_bitCount_0f7a4_49 (by decide) ?_
  refine lv_iand hx hb dJ6_bitCount_0f7a4_51 ?_
  refine lv_topi (fun z15 ez15 => ?_)
  have hz15 : 0 ≤ z15.toInt ∧ z15.toInt ≤ 63 := and_m ez15 (by decide)
  have nz15 := and_n (M := 63) ez15 (by omega) (by decide)
  have bz15 := nz15.2
  have pn9 : z15.toInt.toNat = popN p0.toInt.toNat := popN_c (show z2.toInt.toNat = p0.toInt.toNat / 2 &&& 1431655765 from by have h9 := nz2.1; rw [h9, show z1.toInt.toNat = p0.toInt.toNat / 2 from by omega])
      (show z3.toInt.toNat = p0.toInt.toNat - z2.toInt.toNat from by omega)
      nz4.1
      (show z6.toInt.toNat = z3.toInt.toNat / 4 &&& 858993459 from by have h9 := nz6.1; rw [h9, show z5.toInt.toNat = z3.toInt.toNat / 4 from by omega])
      (show z7.toInt.toNat = z4.toInt.toNat + z6.toInt.toNat from by omega)
      (show z10.toInt.toNat = (z7.toInt.toNat + z7.toInt.toNat / 16) &&& 252645135 from by have h9 := nz10.1; rw [h9, show z9.toInt.toNat = z7.toInt.toNat + z7.toInt.toNat / 16 from by omega])
      (show z12.toInt.toNat = z10.toInt.toNat + z10.toInt.toNat / 256 from by omega)
      (show z15.toInt.toNat = (z12.toInt.toNat + z12.toInt.toNat / 65536) &&& 63 from by have h9 := nz15.1; rw [h9, show z14.toInt.toNat = z12.toInt.toNat + z12.toInt.toNat / 65536 from by omega])
  exact W.iret (v := z15) hx hb hr (fun t ht hW => ⟨⟨z15, (), rfl, ⟨(show 0 ≤ z15.toInt ∧ z15.toInt ≤ 63 from by (first | exact om_22ab7d39b2a2 hz15.1 hz15.2 | omega)), (by rw [← pn9]; omega)⟩, by rw [ht]; exact hP, va_K.moved hW.alike hK, hD⟩, hS.F ht⟩) hS.2.2 dJ6_bitCount_0f7a4_52
abbrev r_x_hasShorter5 : Room := { frames := 0, cells := 0, slots := 0, locals := 0 }
abbrev q_x_hasShorter5 (D : va_G) (ks : KS) (ad : Nat → Nat) (kk : Nat → ClassId) (V : Vf) (L : Lf) (Z : XZ) (p0 : Int32) (p1 : Int32) (b : Nat) (gs : St) (gk : Nat) (A : Nat → Prop) : Array Value → State → Outcome → State → Prop := va_Qi (fun (r : Int32) (_ : Unit) => (0 ≤ r.toInt ∧ r.toInt ≤ 1) ∧ ((r.toInt = 1 ∧ ∃ g, g < (gs.2.1 2).length ∧ bt p0 g = true ∧ shP gs.1 gk g = true) ∨ (r.toInt = 0 ∧ ∀ g, g < (gs.2.1 2).length → bt p0 g = true → shP gs.1 gk g = false))) (fun _ t => gq D A (xw ad kk V L Z) (xty kk Z) t) A
set_option maxHeartbeats 4000000 in
set_option maxRecDepth 100000 in
theorem x_hasShorter5 (l : Launch) (D : va_G) (ks : KS) (sz : Nat) (ad : Nat → Nat) (kk : Nat → ClassId) (V : Vf) (L : Lf) (Z : XZ) (p0 : Int32) (p1 : Int32) (b : Nat) (gs : St) (gk : Nat) (hMV : rgd bX V) (rg_p1 : 0 ≤ p1.toInt ∧ p1.toInt ≤ 3) (hb2 : b < 2) (cbk : (V 2 6).toInt = (b : Int)) (coc : COc V b gs) (ln : (V 43 (5 * b + 2)).toInt = (((gs.2.1 2).length : Nat) : Int)) (ln2 : (gs.2.1 2).length ≤ 24) (gkl : gk < (gs.2.1 2).length) (ps : p1.toInt = ((gs.1 (61 + 8 * gk) : Nat) : Int))  : Met l yX2_hasShorter (Cond.code yX2_hasShorter cX2_hasShorter 6 (some .boolean) :: GW) r_x_hasShorter5 (va_Pc [.ref (ad 2), .int p0, .int p1] (gp D ks (xw ad kk V L Z) (xty kk Z) sz)) (q_x_hasShorter5 D ks ad kk V L Z p0 p1 b gs gk (va_A (xw ad kk V L Z) sz)) 0 0 (va_A (xw ad kk V L Z) sz) := by
  refine g_met (q_x_hasShorter5 D ks ad kk V L Z p0 p1 b gs gk) (by decide) (Nat.le_of_ble_eq_true rfl) ?_
  intro p e s m below meth c A ls H locs hx hb hr hml hown hg hlocks hin hnw hgk hP hK hD hS hA hl
  have hown : s.vm.findClass RX2 = some m.cls := hown
  have hl : lv_has ls 6 [(0, .ref (ad 2)), (1, .int p0), (2, .int p1)] := hl
  have hP : va_P D vwCl (xw ad kk V L Z) H := hP
  have hD : va_D A (xw ad kk V L Z) := hD
  have hK : va_K D vwCl (xty kk Z) s := hK
  have r1 : (-1) ≤ ((V 2 6)).toInt ∧ ((V 2 6)).toInt ≤ 1 := hMV 2 6
  have r2 : 0 ≤ ((V 43 (5 * b + 2))).toInt ∧ ((V 43 (5 * b + 2))).toInt ≤ ((xcap (5 * b + 2) : Nat) : Int) := hMV 43 (5 * b + 2)
  have r3 : xcap (5 * b + 2) = 24 := xcap_2
  refine lv_iload_n hx hb dX2_hasShorter_0 rfl (lv_at hl 2 rfl) ?_
  refine lv_iconst (v := 3) hx hb dX2_hasShorter_1 (by decide) ?_
  refine lv_icmp_ne (tgt := 9) hx hb dX2_hasShorter_2 (by decide) (fun c4 => ?_) (fun c4 => ?_)
  · skip
    have f5 : p1.toInt ≠ 3 := b_neq rfl (by decide) c4
    refine lv_iload_n hx hb dX2_hasShorter_9 rfl (lv_at hl 2 rfl) ?_
    refine lv_istore_n (lv' := [(3, .int p1), (0, .ref (ad 2)), (1, .int p0), (2, .int p1)]) hx hb dX2_hasShorter_10 rfl hl (by decide) rfl (fun ls hl => ?_)
    refine lv_iconst (v := 0) hx hb dX2_hasShorter_11 (by decide) ?_
    refine lv_istore (lv' := [(4, .int 0), (3, .int p1), (0, .ref (ad 2)), (1, .int p0), (2, .int p1)]) hx hb dX2_hasShorter_12 hl (by decide) rfl (fun ls hl => ?_)
    have lp7 : ∀ (fulp7 : Nat) (y6 : Int32) (H : Heap) (locs : List Loc) (ls : Array Slot), 0 ≤ y6.toInt ∧ y6.toInt ≤ 24 → (∀ g : Nat, g < y6.toInt.toNat → bt p0 g = true → shP gs.1 gk g = false) → y6.toInt ≤ (((gs.2.1 2).length : Nat) : Int) → 24 - y6.toInt < (fulp7 : Int) → va_P D vwCl (xw ad kk V L Z) H → va_D A (xw ad kk V L Z) → va_S A s.heap H locs → lv_has ls 6 [(4, .int y6), (3, .int p1), (0, .ref (ad 2)), (1, .int p0), (2, .int p1)] → W p l e r_x_hasShorter5 s m ([.ref (ad 2), .int p0, .int p1] : List Value).toArray below meth c H locs 0 0 (MQ below (q_x_hasShorter5 D ks ad kk V L Z p0 p1 b gs gk A) ([.ref (ad 2), .int p0, .int p1] : List Value).toArray s 0 0 A) (F0 m 14 ls []) := by
      intro fulp7
      induction fulp7 with
      | zero =>
        intro y6 H locs ls klp7_0 xlp7_0 xlp7_1 hn  hP hD hS hl
        exfalso; (first | exact om_9386ef0df612 klp7_0.2 hn | omega)
      | succ fulp7 ihlp7 =>
        intro y6 H locs ls klp7_0 xlp7_0 xlp7_1 hn  hP hD hS hl
        refine lv_iload hx hb dX2_hasShorter_14 (lv_at hl 0 rfl) ?_
        refine lv_aload_n hx hb dX2_hasShorter_16 rfl (lv_at hl 2 rfl) ?_
        refine va_get (D := D) (ci := 2) (v := rfN ad 38 (V 2 6)) (fs := (xfChecker ad V L Z)) (C := RX2) (T := TX2) (N := 8) hx hb hg inX2 hown hK hP 2 xgChecker rfl 6 (by decide) (hg _ w344) (fun _ h9 => h9) rfl dX2_hasShorter_17 ?_
        refine g_topv (v := .ref (ad (38 + b))) (rfN_r (by first | omega | ((try (have i_gkl := Imp.go gkl (by omega))); (try (have i_coc := Imp.go coc (by omega))); (try (have i_coc := Imp.go coc (by omega))); (try (have i_gkl := Imp.go gkl (by omega))); omega))) ?_
        refine va_getN (D := D) (ci := 0) (v := .ref (ad (40 + (5 * b + 2)))) (fs := (xfBook ad V b)) (C := RX0) (T := TX0) (N := 13) hx hb hg inX0 hown hK hP (38 + b) (xgBook hb2) rfl 2 (by decide) (hnw.use 600 n600 rfl) (fun _ h9 => h9) rfl dX2_hasShorter_20 ?_
        have il8 : (5 * b + 2) < 10 := by first | exact om_1478e52fbf50 hb2 | first | omega | ((try (have i_gkl := Imp.go gkl (by omega))); (try (have i_coc := Imp.go coc (by omega))); (try (have i_coc := Imp.go coc (by omega))); (try (have i_gkl := Imp.go gkl (by omega))); omega)
        refine va_getN (D := D) (ci := 6) (v := .int (V 43 (5 * b + 2))) (fs := (xfNames ad V (5 * b + 2))) (C := RX6) (T := TX6) (N := 2) hx hb hg inX6 hown hK hP (40 + (5 * b + 2)) (xgNames il8) rfl 1 (by decide) (hnw.use 482 n482 rfl) (fun _ h9 => h9) rfl dX2_hasShorter_23 ?_
        refine lv_icmp_ge (tgt := 73) hx hb dX2_hasShorter_26 (by decide) (fun c9 => ?_) (fun c9 => ?_)
        · skip
          have f10 : ((V 43 (5 * b + 2))).toInt ≤ y6.toInt := b_le rfl rfl c9
          refine lv_iconst (v := 0) hx hb dX2_hasShorter_73 (by decide) ?_
          exact W.zret (v := 0) hx hb hr rfl (fun t ht hW => ⟨⟨0, (), rfl, ⟨(by decide), (Or.inr ⟨rfl, fun g hg hb => xlp7_0 g (by omega) hb⟩)⟩, by rw [ht]; exact hP, va_K.moved hW.alike hK, hD⟩, hS.F ht⟩) hS.2.2 dX2_hasShorter_74
        · skip
          have f11 : y6.toInt < ((V 43 (5 * b + 2))).toInt := b_nle rfl rfl c9
          refine lv_aload_n hx hb dX2_hasShorter_29 rfl (lv_at hl 2 rfl) ?_
          refine va_get (D := D) (ci := 2) (v := rfN ad 38 (V 2 6)) (fs := (xfChecker ad V L Z)) (C := RX2) (T := TX2) (N := 8) hx hb hg inX2 hown hK hP 2 xgChecker rfl 6 (by decide) (hg _ w344) (fun _ h9 => h9) rfl dX2_hasShorter_30 ?_
          refine g_topv (v := .ref (ad (38 + b))) (rfN_r (by first | omega | ((try (have i_gkl := Imp.go gkl (by omega))); (try (have i_coc := Imp.go coc (by omega))); (try (have i_coc := Imp.go coc (by omega))); (try (have i_gkl := Imp.go gkl (by omega))); omega))) ?_
          refine va_getN (D := D) (ci := 0) (v := .ref (ad (64 + b))) (fs := (xfBook ad V b)) (C := RX0) (T := TX0) (N := 13) hx hb hg inX0 hown hK hP (38 + b) (xgBook hb2) rfl 7 (by decide) (hnw.use 615 n615 rfl) (fun _ h9 => h9) rfl dX2_hasShorter_33 ?_
          refine lv_iload hx hb dX2_hasShorter_36 (lv_at hl 0 rfl) ?_
          have il12 : b < 2 := by first | exact om_f940a4667dd6 hb2 | first | omega | ((try (have i_gkl := Imp.go gkl (by omega))); (try (have i_coc := Imp.go coc (by omega))); (try (have i_coc := Imp.go coc (by omega))); (try (have i_gkl := Imp.go gkl (by omega))); omega)
          refine va_aldq (D := D) (i := y6) hx hb hK hP (64 + b) (57 + b) (xgcomps il12) (xtcomps il12) (i_in (a := y6.toInt) rfl (by first | exact om_67de8ba3d9bb ln ln2 klp7_0.1 f11 | first | omega | ((try (have i_gkl := Imp.go gkl (by omega))); (try (have i_coc := Imp.go coc (by omega))); (try (have i_coc := Imp.go coc (by omega))); (try (have i_gkl := Imp.go gkl (by omega))); omega))) dX2_hasShorter_38 ?_
          have kc13 := i_clamp (x := y6) rfl (by first | exact om_eafa9039069c klp7_0.1 | first | omega | ((try (have i_gkl := Imp.go gkl (by omega))); (try (have i_coc := Imp.go coc (by omega))); (try (have i_coc := Imp.go coc (by omega))); (try (have i_gkl := Imp.go gkl (by omega))); omega))
          refine g_topv (v := .ref (ad (72 + (24 * b + (Int32.toNatClampNeg y6))))) (congrArg va_rf (if_pos (by first | omega | ((try (have i_gkl := Imp.go gkl (by omega))); (try (have i_coc := Imp.go coc (by omega))); (try (have i_coc := Imp.go coc (by omega))); (try (have i_gkl := Imp.go gkl (by omega))); omega)))) ?_
          have il14 : (24 * b + (Int32.toNatClampNeg y6)) < 48 := by first | exact om_fc1487c5ce99 hb2 ln ln2 f11 kc13 | first | omega | ((try (have i_gkl := Imp.go gkl (by omega))); (try (have i_coc := Imp.go coc (by omega))); (try (have i_coc := Imp.go coc (by omega))); (try (have i_gkl := Imp.go gkl (by omega))); omega)
          refine va_getN (D := D) (ci := 3) (v := .int (V 51 (24 * b + (Int32.toNatClampNeg y6)))) (fs := (xfComp ad V (24 * b + (Int32.toNatClampNeg y6)))) (C := RX3) (T := TX3) (N := 13) hx hb hg inX3 hown hK hP (72 + (24 * b + (Int32.toNatClampNeg y6))) (xgComp il14) rfl 6 (by decide) (hnw.use 519 n519 rfl) (fun _ h9 => h9) rfl dX2_hasShorter_39 ?_
          have r15 : 0 ≤ ((V 51 (24 * b + (Int32.toNatClampNeg y6)))).toInt ∧ ((V 51 (24 * b + (Int32.toNatClampNeg y6)))).toInt ≤ 3 := hMV 51 (24 * b + (Int32.toNatClampNeg y6))
          refine lv_istore (lv' := [(5, .int (V 51 (24 * b + (Int32.toNatClampNeg y6)))), (4, .int y6), (3, .int p1), (0, .ref (ad 2)), (1, .int p0), (2, .int p1)]) hx hb dX2_hasShorter_42 hl (by decide) rfl (fun ls hl => ?_)
          have kk9 := i_clamp (x := y6) rfl (by (first | exact om_eafa9039069c klp7_0.1 | omega))
          have h51 := (coc (Int32.toNatClampNeg y6) (by omega)).1.2.1
          refine lv_iload_n hx hb dX2_hasShorter_44 rfl (lv_at hl 4 rfl) ?_
          refine lv_iload hx hb dX2_hasShorter_45 (lv_at hl 1 rfl) ?_
          refine lv_ishr hx hb dX2_hasShorter_47 ?_
          refine lv_topi (fun z16 ez16 => ?_)
          refine lv_iconst (v := 1) hx hb dX2_hasShorter_48 (by decide) ?_
          refine lv_iand hx hb dX2_hasShorter_49 ?_
          refine lv_topi (fun z17 ez17 => ?_)
          have hz17 : 0 ≤ z17.toInt ∧ z17.toInt ≤ 1 := and_m ez17 (by decide)
          have lb9 : z17.toInt = 0 ↔ bt p0 (Int32.toNatClampNeg y6) = false := lb_get ez16 ez17 (show y6.toInt = (((Int32.toNatClampNeg y6) : Nat) : Int) from by (first | exact om_dadc9969542e kc13 | omega)) (by omega)
          refine lv_if_eq (tgt := 67) hx hb dX2_hasShorter_50 (by decide) (fun c18 => ?_) (fun c18 => ?_)
          · skip
            have f19 : z17.toInt = 0 := b_eq rfl (by decide) c18
            obtain ⟨z20, ez20⟩ : ∃ y : Int32, y = y6 + 1 := ⟨_, rfl⟩
            have hz20 : z20.toInt = y6.toInt + 1 := i_add ez20 rfl (by decide) (by (first | exact om_1496522b7eb5 ln ln2 klp7_0.1 f11 | omega))
            refine lv_iinc (v := z20) (lv' := [(4, .int z20), (5, .int (V 51 (24 * b + (Int32.toNatClampNeg y6)))), (3, .int p1), (0, .ref (ad 2)), (1, .int p0), (2, .int p1)]) hx hb dX2_hasShorter_67 hl (k := 1) rfl (by rw [ez20]; rfl) (by decide) rfl (fun ls hl => ?_)
            refine lv_goto (tgt := 14) hx hb dX2_hasShorter_70 (by decide) ?_
            exact ihlp7 z20 H locs ls (by first | exact om_71a9c3e930b1 ln ln2 klp7_0.1 f11 hz20 | first | omega | ((try (have i_gkl := Imp.go gkl (by omega))); (try (have i_coc := Imp.go coc (by omega))); (try (have i_coc := Imp.go coc (by omega))); (try (have i_gkl := Imp.go gkl (by omega))); omega)) (fun g hg hb => by rcases Decidable.em (g = (Int32.toNatClampNeg y6)) with h9 | h9; (rcases Decidable.em (z17.toInt = 0) with h8 | h8; (have h7 := lb9.mp h8; rw [h9, h7] at hb; exact absurd hb Bool.false_ne_true); (rw [h9]; exact shP_n (by omega))); exact xlp7_0 g (by omega) hb) (show z20.toInt ≤ (((gs.2.1 2).length : Nat) : Int) from by first | exact om_bcda7a344117 ln f11 hz20 | first | omega | ((try (have i_gkl := Imp.go gkl (by omega))); (try (have i_coc := Imp.go coc (by omega))); (try (have i_coc := Imp.go coc (by omega))); (try (have i_gkl := Imp.go gkl (by omega))); omega)) (by first | exact om_9592d9319ffa hn hz20 | first | omega | ((try (have i_gkl := Imp.go gkl (by omega))); (try (have i_coc := Imp.go coc (by omega))); (try (have i_coc := Imp.go coc (by omega))); (try (have i_gkl := Imp.go gkl (by omega))); omega)) hP hD hS (lv_sub hl [0, 2, 3, 4, 5] rfl)
          · skip
            have f21 : z17.toInt ≠ 0 := b_neq rfl (by decide) c18
            refine lv_iload hx hb dX2_hasShorter_53 (lv_at hl 0 rfl) ?_
            refine lv_iconst (v := 3) hx hb dX2_hasShorter_55 (by decide) ?_
            refine lv_icmp_eq (tgt := 67) hx hb dX2_hasShorter_56 (by decide) (fun c22 => ?_) (fun c22 => ?_)
            · skip
              have f23 : ((V 51 (24 * b + (Int32.toNatClampNeg y6)))).toInt = 3 := b_eq rfl (by decide) c22
              obtain ⟨z24, ez24⟩ : ∃ y : Int32, y = y6 + 1 := ⟨_, rfl⟩
              have hz24 : z24.toInt = y6.toInt + 1 := i_add ez24 rfl (by decide) (by (first | exact om_1496522b7eb5 ln ln2 klp7_0.1 f11 | omega))
              refine lv_iinc (v := z24) (lv' := [(4, .int z24), (5, .int (V 51 (24 * b + (Int32.toNatClampNeg y6)))), (3, .int p1), (0, .ref (ad 2)), (1, .int p0), (2, .int p1)]) hx hb dX2_hasShorter_67 hl (k := 1) rfl (by rw [ez24]; rfl) (by decide) rfl (fun ls hl => ?_)
              refine lv_goto (tgt := 14) hx hb dX2_hasShorter_70 (by decide) ?_
              exact ihlp7 z24 H locs ls (by first | exact om_71a9c3e930b1 ln ln2 klp7_0.1 f11 hz24 | first | omega | ((try (have i_gkl := Imp.go gkl (by omega))); (try (have i_coc := Imp.go coc (by omega))); (try (have i_coc := Imp.go coc (by omega))); (try (have i_gkl := Imp.go gkl (by omega))); omega)) (fun g hg hb => by rcases Decidable.em (g = (Int32.toNatClampNeg y6)) with h9 | h9; (rcases Decidable.em (z17.toInt = 0) with h8 | h8; (have h7 := lb9.mp h8; rw [h9, h7] at hb; exact absurd hb Bool.false_ne_true); (rw [h9]; exact shP_n (by omega))); exact xlp7_0 g (by omega) hb) (show z24.toInt ≤ (((gs.2.1 2).length : Nat) : Int) from by first | exact om_bcda7a344117 ln f11 hz24 | first | omega | ((try (have i_gkl := Imp.go gkl (by omega))); (try (have i_coc := Imp.go coc (by omega))); (try (have i_coc := Imp.go coc (by omega))); (try (have i_gkl := Imp.go gkl (by omega))); omega)) (by first | exact om_9592d9319ffa hn hz24 | first | omega | ((try (have i_gkl := Imp.go gkl (by omega))); (try (have i_coc := Imp.go coc (by omega))); (try (have i_coc := Imp.go coc (by omega))); (try (have i_gkl := Imp.go gkl (by omega))); omega)) hP hD hS (lv_sub hl [0, 2, 3, 4, 5] rfl)
            · skip
              have f25 : ((V 51 (24 * b + (Int32.toNatClampNeg y6)))).toInt ≠ 3 := b_neq rfl (by decide) c22
              refine lv_iload hx hb dX2_hasShorter_59 (lv_at hl 0 rfl) ?_
              refine lv_iload_n hx hb dX2_hasShorter_61 rfl (lv_at hl 2 rfl) ?_
              refine lv_icmp_le (tgt := 67) hx hb dX2_hasShorter_62 (by decide) (fun c26 => ?_) (fun c26 => ?_)
              · skip
                have f27 : ((V 51 (24 * b + (Int32.toNatClampNeg y6)))).toInt ≤ p1.toInt := b_le rfl rfl c26
                obtain ⟨z28, ez28⟩ : ∃ y : Int32, y = y6 + 1 := ⟨_, rfl⟩
                have hz28 : z28.toInt = y6.toInt + 1 := i_add ez28 rfl (by decide) (by (first | exact om_1496522b7eb5 ln ln2 klp7_0.1 f11 | omega))
                refine lv_iinc (v := z28) (lv' := [(4, .int z28), (5, .int (V 51 (24 * b + (Int32.toNatClampNeg y6)))), (3, .int p1), (0, .ref (ad 2)), (1, .int p0), (2, .int p1)]) hx hb dX2_hasShorter_67 hl (k := 1) rfl (by rw [ez28]; rfl) (by decide) rfl (fun ls hl => ?_)
                refine lv_goto (tgt := 14) hx hb dX2_hasShorter_70 (by decide) ?_
                exact ihlp7 z28 H locs ls (by first | exact om_71a9c3e930b1 ln ln2 klp7_0.1 f11 hz28 | first | omega | ((try (have i_gkl := Imp.go gkl (by omega))); (try (have i_coc := Imp.go coc (by omega))); (try (have i_coc := Imp.go coc (by omega))); (try (have i_gkl := Imp.go gkl (by omega))); omega)) (fun g hg hb => by rcases Decidable.em (g = (Int32.toNatClampNeg y6)) with h9 | h9; (rcases Decidable.em (z17.toInt = 0) with h8 | h8; (have h7 := lb9.mp h8; rw [h9, h7] at hb; exact absurd hb Bool.false_ne_true); (rw [h9]; exact shP_n (by omega))); exact xlp7_0 g (by omega) hb) (show z28.toInt ≤ (((gs.2.1 2).length : Nat) : Int) from by first | exact om_bcda7a344117 ln f11 hz28 | first | omega | ((try (have i_gkl := Imp.go gkl (by omega))); (try (have i_coc := Imp.go coc (by omega))); (try (have i_coc := Imp.go coc (by omega))); (try (have i_gkl := Imp.go gkl (by omega))); omega)) (by first | exact om_9592d9319ffa hn hz28 | first | omega | ((try (have i_gkl := Imp.go gkl (by omega))); (try (have i_coc := Imp.go coc (by omega))); (try (have i_coc := Imp.go coc (by omega))); (try (have i_gkl := Imp.go gkl (by omega))); omega)) hP hD hS (lv_sub hl [0, 2, 3, 4, 5] rfl)
              · skip
                have f29 : p1.toInt < ((V 51 (24 * b + (Int32.toNatClampNeg y6)))).toInt := b_nle rfl rfl c26
                refine lv_iconst (v := 1) hx hb dX2_hasShorter_65 (by decide) ?_
                exact W.zret (v := 1) hx hb hr rfl (fun t ht hW => ⟨⟨1, (), rfl, ⟨(by decide), (Or.inl ⟨rfl, (Int32.toNatClampNeg y6), by omega, by cases e9 : bt p0 (Int32.toNatClampNeg y6); exact absurd (lb9.mpr e9) (by omega); rfl, shP_y (by omega) (by omega)⟩)⟩, by rw [ht]; exact hP, va_K.moved hW.alike hK, hD⟩, hS.F ht⟩) hS.2.2 dX2_hasShorter_66
    have r30 : Int32.toInt 0 = 0 := by decide
    exact lp7 ((24 - (Int32.toInt 0) + 1 : Int).toNat) 0 H locs ls (by decide) (fun g hg _ => absurd hg (by rw [show (Int32.toInt 0).toNat = 0 from by decide]; exact Nat.not_lt_zero _)) (show (Int32.toInt 0) ≤ (((gs.2.1 2).length : Nat) : Int) from by first | exact om_3f7d4d3a7b74 gkl r30 | first | omega | ((try (have i_gkl := Imp.go gkl (by omega))); (try (have i_coc := Imp.go coc (by omega))); (try (have i_coc := Imp.go coc (by omega))); (try (have i_gkl := Imp.go gkl (by omega))); omega)) (by first | exact om_817980d3aa47 | first | omega | ((try (have i_gkl := Imp.go gkl (by omega))); (try (have i_coc := Imp.go coc (by omega))); (try (have i_coc := Imp.go coc (by omega))); (try (have i_gkl := Imp.go gkl (by omega))); omega)) hP hD hS (lv_sub hl [0, 1, 2, 3, 4] rfl)
  · skip
    have f31 : p1.toInt = 3 := b_eq rfl (by decide) c4
    refine lv_iconst (v := 2) hx hb dX2_hasShorter_5 (by decide) ?_
    refine lv_goto (tgt := 10) hx hb dX2_hasShorter_6 (by decide) ?_
    refine lv_istore_n (lv' := [(3, .int 2), (0, .ref (ad 2)), (1, .int p0), (2, .int p1)]) hx hb dX2_hasShorter_10 rfl hl (by decide) rfl (fun ls hl => ?_)
    refine lv_iconst (v := 0) hx hb dX2_hasShorter_11 (by decide) ?_
    refine lv_istore (lv' := [(4, .int 0), (3, .int 2), (0, .ref (ad 2)), (1, .int p0), (2, .int p1)]) hx hb dX2_hasShorter_12 hl (by decide) rfl (fun ls hl => ?_)
    have lp33 : ∀ (fulp33 : Nat) (y32 : Int32) (H : Heap) (locs : List Loc) (ls : Array Slot), 0 ≤ y32.toInt ∧ y32.toInt ≤ 24 → (∀ g : Nat, g < y32.toInt.toNat → bt p0 g = true → shP gs.1 gk g = false) → y32.toInt ≤ (((gs.2.1 2).length : Nat) : Int) → 24 - y32.toInt < (fulp33 : Int) → va_P D vwCl (xw ad kk V L Z) H → va_D A (xw ad kk V L Z) → va_S A s.heap H locs → lv_has ls 6 [(4, .int y32), (3, .int 2), (0, .ref (ad 2)), (1, .int p0), (2, .int p1)] → W p l e r_x_hasShorter5 s m ([.ref (ad 2), .int p0, .int p1] : List Value).toArray below meth c H locs 0 0 (MQ below (q_x_hasShorter5 D ks ad kk V L Z p0 p1 b gs gk A) ([.ref (ad 2), .int p0, .int p1] : List Value).toArray s 0 0 A) (F0 m 14 ls []) := by
      intro fulp33
      induction fulp33 with
      | zero =>
        intro y32 H locs ls klp33_0 xlp33_0 xlp33_1 hn  hP hD hS hl
        exfalso; (first | exact om_9386ef0df612 klp33_0.2 hn | omega)
      | succ fulp33 ihlp33 =>
        intro y32 H locs ls klp33_0 xlp33_0 xlp33_1 hn  hP hD hS hl
        refine lv_iload hx hb dX2_hasShorter_14 (lv_at hl 0 rfl) ?_
        refine lv_aload_n hx hb dX2_hasShorter_16 rfl (lv_at hl 2 rfl) ?_
        refine va_get (D := D) (ci := 2) (v := rfN ad 38 (V 2 6)) (fs := (xfChecker ad V L Z)) (C := RX2) (T := TX2) (N := 8) hx hb hg inX2 hown hK hP 2 xgChecker rfl 6 (by decide) (hg _ w344) (fun _ h9 => h9) rfl dX2_hasShorter_17 ?_
        refine g_topv (v := .ref (ad (38 + b))) (rfN_r (by first | omega | ((try (have i_gkl := Imp.go gkl (by omega))); (try (have i_coc := Imp.go coc (by omega))); (try (have i_coc := Imp.go coc (by omega))); (try (have i_gkl := Imp.go gkl (by omega))); omega))) ?_
        refine va_getN (D := D) (ci := 0) (v := .ref (ad (40 + (5 * b + 2)))) (fs := (xfBook ad V b)) (C := RX0) (T := TX0) (N := 13) hx hb hg inX0 hown hK hP (38 + b) (xgBook hb2) rfl 2 (by decide) (hnw.use 600 n600 rfl) (fun _ h9 => h9) rfl dX2_hasShorter_20 ?_
        have il34 : (5 * b + 2) < 10 := by first | exact om_1478e52fbf50 hb2 | first | omega | ((try (have i_gkl := Imp.go gkl (by omega))); (try (have i_coc := Imp.go coc (by omega))); (try (have i_coc := Imp.go coc (by omega))); (try (have i_gkl := Imp.go gkl (by omega))); omega)
        refine va_getN (D := D) (ci := 6) (v := .int (V 43 (5 * b + 2))) (fs := (xfNames ad V (5 * b + 2))) (C := RX6) (T := TX6) (N := 2) hx hb hg inX6 hown hK hP (40 + (5 * b + 2)) (xgNames il34) rfl 1 (by decide) (hnw.use 482 n482 rfl) (fun _ h9 => h9) rfl dX2_hasShorter_23 ?_
        refine lv_icmp_ge (tgt := 73) hx hb dX2_hasShorter_26 (by decide) (fun c35 => ?_) (fun c35 => ?_)
        · skip
          have f36 : ((V 43 (5 * b + 2))).toInt ≤ y32.toInt := b_le rfl rfl c35
          refine lv_iconst (v := 0) hx hb dX2_hasShorter_73 (by decide) ?_
          exact W.zret (v := 0) hx hb hr rfl (fun t ht hW => ⟨⟨0, (), rfl, ⟨(by decide), (Or.inr ⟨rfl, fun g hg hb => xlp33_0 g (by omega) hb⟩)⟩, by rw [ht]; exact hP, va_K.moved hW.alike hK, hD⟩, hS.F ht⟩) hS.2.2 dX2_hasShorter_74
        · skip
          have f37 : y32.toInt < ((V 43 (5 * b + 2))).toInt := b_nle rfl rfl c35
          refine lv_aload_n hx hb dX2_hasShorter_29 rfl (lv_at hl 2 rfl) ?_
          refine va_get (D := D) (ci := 2) (v := rfN ad 38 (V 2 6)) (fs := (xfChecker ad V L Z)) (C := RX2) (T := TX2) (N := 8) hx hb hg inX2 hown hK hP 2 xgChecker rfl 6 (by decide) (hg _ w344) (fun _ h9 => h9) rfl dX2_hasShorter_30 ?_
          refine g_topv (v := .ref (ad (38 + b))) (rfN_r (by first | omega | ((try (have i_gkl := Imp.go gkl (by omega))); (try (have i_coc := Imp.go coc (by omega))); (try (have i_coc := Imp.go coc (by omega))); (try (have i_gkl := Imp.go gkl (by omega))); omega))) ?_
          refine va_getN (D := D) (ci := 0) (v := .ref (ad (64 + b))) (fs := (xfBook ad V b)) (C := RX0) (T := TX0) (N := 13) hx hb hg inX0 hown hK hP (38 + b) (xgBook hb2) rfl 7 (by decide) (hnw.use 615 n615 rfl) (fun _ h9 => h9) rfl dX2_hasShorter_33 ?_
          refine lv_iload hx hb dX2_hasShorter_36 (lv_at hl 0 rfl) ?_
          have il38 : b < 2 := by first | exact om_f940a4667dd6 hb2 | first | omega | ((try (have i_gkl := Imp.go gkl (by omega))); (try (have i_coc := Imp.go coc (by omega))); (try (have i_coc := Imp.go coc (by omega))); (try (have i_gkl := Imp.go gkl (by omega))); omega)
          refine va_aldq (D := D) (i := y32) hx hb hK hP (64 + b) (57 + b) (xgcomps il38) (xtcomps il38) (i_in (a := y32.toInt) rfl (by first | exact om_67de8ba3d9bb ln ln2 klp33_0.1 f37 | first | omega | ((try (have i_gkl := Imp.go gkl (by omega))); (try (have i_coc := Imp.go coc (by omega))); (try (have i_coc := Imp.go coc (by omega))); (try (have i_gkl := Imp.go gkl (by omega))); omega))) dX2_hasShorter_38 ?_
          have kc39 := i_clamp (x := y32) rfl (by first | exact om_eafa9039069c klp33_0.1 | first | omega | ((try (have i_gkl := Imp.go gkl (by omega))); (try (have i_coc := Imp.go coc (by omega))); (try (have i_coc := Imp.go coc (by omega))); (try (have i_gkl := Imp.go gkl (by omega))); omega))
          refine g_topv (v := .ref (ad (72 + (24 * b + (Int32.toNatClampNeg y32))))) (congrArg va_rf (if_pos (by first | omega | ((try (have i_gkl := Imp.go gkl (by omega))); (try (have i_coc := Imp.go coc (by omega))); (try (have i_coc := Imp.go coc (by omega))); (try (have i_gkl := Imp.go gkl (by omega))); omega)))) ?_
          have il40 : (24 * b + (Int32.toNatClampNeg y32)) < 48 := by first | exact om_fc1487c5ce99 hb2 ln ln2 f37 kc39 | first | omega | ((try (have i_gkl := Imp.go gkl (by omega))); (try (have i_coc := Imp.go coc (by omega))); (try (have i_coc := Imp.go coc (by omega))); (try (have i_gkl := Imp.go gkl (by omega))); omega)
          refine va_getN (D := D) (ci := 3) (v := .int (V 51 (24 * b + (Int32.toNatClampNeg y32)))) (fs := (xfComp ad V (24 * b + (Int32.toNatClampNeg y32)))) (C := RX3) (T := TX3) (N := 13) hx hb hg inX3 hown hK hP (72 + (24 * b + (Int32.toNatClampNeg y32))) (xgComp il40) rfl 6 (by decide) (hnw.use 519 n519 rfl) (fun _ h9 => h9) rfl dX2_hasShorter_39 ?_
          have r41 : 0 ≤ ((V 51 (24 * b + (Int32.toNatClampNeg y32)))).toInt ∧ ((V 51 (24 * b + (Int32.toNatClampNeg y32)))).toInt ≤ 3 := hMV 51 (24 * b + (Int32.toNatClampNeg y32))
          refine lv_istore (lv' := [(5, .int (V 51 (24 * b + (Int32.toNatClampNeg y32)))), (4, .int y32), (3, .int 2), (0, .ref (ad 2)), (1, .int p0), (2, .int p1)]) hx hb dX2_hasShorter_42 hl (by decide) rfl (fun ls hl => ?_)
          have kk9 := i_clamp (x := y32) rfl (by (first | exact om_eafa9039069c klp33_0.1 | omega))
          have h51 := (coc (Int32.toNatClampNeg y32) (by omega)).1.2.1
          refine lv_iload_n hx hb dX2_hasShorter_44 rfl (lv_at hl 4 rfl) ?_
          refine lv_iload hx hb dX2_hasShorter_45 (lv_at hl 1 rfl) ?_
          refine lv_ishr hx hb dX2_hasShorter_47 ?_
          refine lv_topi (fun z42 ez42 => ?_)
          refine lv_iconst (v := 1) hx hb dX2_hasShorter_48 (by decide) ?_
          refine lv_iand hx hb dX2_hasShorter_49 ?_
          refine lv_topi (fun z43 ez43 => ?_)
          have hz43 : 0 ≤ z43.toInt ∧ z43.toInt ≤ 1 := and_m ez43 (by decide)
          have lb9 : z43.toInt = 0 ↔ bt p0 (Int32.toNatClampNeg y32) = false := lb_get ez42 ez43 (show y32.toInt = (((Int32.toNatClampNeg y32) : Nat) : Int) from by (first | exact om_dadc9969542e kc39 | omega)) (by omega)
          refine lv_if_eq (tgt := 67) hx hb dX2_hasShorter_50 (by decide) (fun c44 => ?_) (fun c44 => ?_)
          · skip
            have f45 : z43.toInt = 0 := b_eq rfl (by decide) c44
            obtain ⟨z46, ez46⟩ : ∃ y : Int32, y = y32 + 1 := ⟨_, rfl⟩
            have hz46 : z46.toInt = y32.toInt + 1 := i_add ez46 rfl (by decide) (by (first | exact om_1496522b7eb5 ln ln2 klp33_0.1 f37 | omega))
            refine lv_iinc (v := z46) (lv' := [(4, .int z46), (5, .int (V 51 (24 * b + (Int32.toNatClampNeg y32)))), (3, .int 2), (0, .ref (ad 2)), (1, .int p0), (2, .int p1)]) hx hb dX2_hasShorter_67 hl (k := 1) rfl (by rw [ez46]; rfl) (by decide) rfl (fun ls hl => ?_)
            refine lv_goto (tgt := 14) hx hb dX2_hasShorter_70 (by decide) ?_
            have r47 : Int32.toInt 2 = 2 := by decide
            exact ihlp33 z46 H locs ls (by first | exact om_71a9c3e930b1 ln ln2 klp33_0.1 f37 hz46 | first | omega | ((try (have i_gkl := Imp.go gkl (by omega))); (try (have i_coc := Imp.go coc (by omega))); (try (have i_coc := Imp.go coc (by omega))); (try (have i_gkl := Imp.go gkl (by omega))); omega)) (fun g hg hb => by rcases Decidable.em (g = (Int32.toNatClampNeg y32)) with h9 | h9; (rcases Decidable.em (z43.toInt = 0) with h8 | h8; (have h7 := lb9.mp h8; rw [h9, h7] at hb; exact absurd hb Bool.false_ne_true); (rw [h9]; exact shP_n (by omega))); exact xlp33_0 g (by omega) hb) (show z46.toInt ≤ (((gs.2.1 2).length : Nat) : Int) from by first | exact om_bcda7a344117 ln f37 hz46 | first | omega | ((try (have i_gkl := Imp.go gkl (by omega))); (try (have i_coc := Imp.go coc (by omega))); (try (have i_coc := Imp.go coc (by omega))); (try (have i_gkl := Imp.go gkl (by omega))); omega)) (by first | exact om_9592d9319ffa hn hz46 | first | omega | ((try (have i_gkl := Imp.go gkl (by omega))); (try (have i_coc := Imp.go coc (by omega))); (try (have i_coc := Imp.go coc (by omega))); (try (have i_gkl := Imp.go gkl (by omega))); omega)) hP hD hS (lv_sub hl [0, 2, 3, 4, 5] rfl)
          · skip
            have f48 : z43.toInt ≠ 0 := b_neq rfl (by decide) c44
            refine lv_iload hx hb dX2_hasShorter_53 (lv_at hl 0 rfl) ?_
            refine lv_iconst (v := 3) hx hb dX2_hasShorter_55 (by decide) ?_
            refine lv_icmp_eq (tgt := 67) hx hb dX2_hasShorter_56 (by decide) (fun c49 => ?_) (fun c49 => ?_)
            · skip
              have f50 : ((V 51 (24 * b + (Int32.toNatClampNeg y32)))).toInt = 3 := b_eq rfl (by decide) c49
              obtain ⟨z51, ez51⟩ : ∃ y : Int32, y = y32 + 1 := ⟨_, rfl⟩
              have hz51 : z51.toInt = y32.toInt + 1 := i_add ez51 rfl (by decide) (by (first | exact om_1496522b7eb5 ln ln2 klp33_0.1 f37 | omega))
              refine lv_iinc (v := z51) (lv' := [(4, .int z51), (5, .int (V 51 (24 * b + (Int32.toNatClampNeg y32)))), (3, .int 2), (0, .ref (ad 2)), (1, .int p0), (2, .int p1)]) hx hb dX2_hasShorter_67 hl (k := 1) rfl (by rw [ez51]; rfl) (by decide) rfl (fun ls hl => ?_)
              refine lv_goto (tgt := 14) hx hb dX2_hasShorter_70 (by decide) ?_
              have r52 : Int32.toInt 2 = 2 := by decide
              exact ihlp33 z51 H locs ls (by first | exact om_71a9c3e930b1 ln ln2 klp33_0.1 f37 hz51 | first | omega | ((try (have i_gkl := Imp.go gkl (by omega))); (try (have i_coc := Imp.go coc (by omega))); (try (have i_coc := Imp.go coc (by omega))); (try (have i_gkl := Imp.go gkl (by omega))); omega)) (fun g hg hb => by rcases Decidable.em (g = (Int32.toNatClampNeg y32)) with h9 | h9; (rcases Decidable.em (z43.toInt = 0) with h8 | h8; (have h7 := lb9.mp h8; rw [h9, h7] at hb; exact absurd hb Bool.false_ne_true); (rw [h9]; exact shP_n (by omega))); exact xlp33_0 g (by omega) hb) (show z51.toInt ≤ (((gs.2.1 2).length : Nat) : Int) from by first | exact om_bcda7a344117 ln f37 hz51 | first | omega | ((try (have i_gkl := Imp.go gkl (by omega))); (try (have i_coc := Imp.go coc (by omega))); (try (have i_coc := Imp.go coc (by omega))); (try (have i_gkl := Imp.go gkl (by omega))); omega)) (by first | exact om_9592d9319ffa hn hz51 | first | omega | ((try (have i_gkl := Imp.go gkl (by omega))); (try (have i_coc := Imp.go coc (by omega))); (try (have i_coc := Imp.go coc (by omega))); (try (have i_gkl := Imp.go gkl (by omega))); omega)) hP hD hS (lv_sub hl [0, 2, 3, 4, 5] rfl)
            · skip
              have f53 : ((V 51 (24 * b + (Int32.toNatClampNeg y32)))).toInt ≠ 3 := b_neq rfl (by decide) c49
              refine lv_iload hx hb dX2_hasShorter_59 (lv_at hl 0 rfl) ?_
              refine lv_iload_n hx hb dX2_hasShorter_61 rfl (lv_at hl 2 rfl) ?_
              refine lv_icmp_le (tgt := 67) hx hb dX2_hasShorter_62 (by decide) (fun c54 => ?_) (fun c54 => ?_)
              · skip
                have f55 : ((V 51 (24 * b + (Int32.toNatClampNeg y32)))).toInt ≤ 2 := b_le rfl (by decide) c54
                obtain ⟨z56, ez56⟩ : ∃ y : Int32, y = y32 + 1 := ⟨_, rfl⟩
                have hz56 : z56.toInt = y32.toInt + 1 := i_add ez56 rfl (by decide) (by (first | exact om_1496522b7eb5 ln ln2 klp33_0.1 f37 | omega))
                refine lv_iinc (v := z56) (lv' := [(4, .int z56), (5, .int (V 51 (24 * b + (Int32.toNatClampNeg y32)))), (3, .int 2), (0, .ref (ad 2)), (1, .int p0), (2, .int p1)]) hx hb dX2_hasShorter_67 hl (k := 1) rfl (by rw [ez56]; rfl) (by decide) rfl (fun ls hl => ?_)
                refine lv_goto (tgt := 14) hx hb dX2_hasShorter_70 (by decide) ?_
                have r57 : Int32.toInt 2 = 2 := by decide
                exact ihlp33 z56 H locs ls (by first | exact om_71a9c3e930b1 ln ln2 klp33_0.1 f37 hz56 | first | omega | ((try (have i_gkl := Imp.go gkl (by omega))); (try (have i_coc := Imp.go coc (by omega))); (try (have i_coc := Imp.go coc (by omega))); (try (have i_gkl := Imp.go gkl (by omega))); omega)) (fun g hg hb => by rcases Decidable.em (g = (Int32.toNatClampNeg y32)) with h9 | h9; (rcases Decidable.em (z43.toInt = 0) with h8 | h8; (have h7 := lb9.mp h8; rw [h9, h7] at hb; exact absurd hb Bool.false_ne_true); (rw [h9]; exact shP_n (by omega))); exact xlp33_0 g (by omega) hb) (show z56.toInt ≤ (((gs.2.1 2).length : Nat) : Int) from by first | exact om_bcda7a344117 ln f37 hz56 | first | omega | ((try (have i_gkl := Imp.go gkl (by omega))); (try (have i_coc := Imp.go coc (by omega))); (try (have i_coc := Imp.go coc (by omega))); (try (have i_gkl := Imp.go gkl (by omega))); omega)) (by first | exact om_9592d9319ffa hn hz56 | first | omega | ((try (have i_gkl := Imp.go gkl (by omega))); (try (have i_coc := Imp.go coc (by omega))); (try (have i_coc := Imp.go coc (by omega))); (try (have i_gkl := Imp.go gkl (by omega))); omega)) hP hD hS (lv_sub hl [0, 2, 3, 4, 5] rfl)
              · skip
                have f58 : 2 < ((V 51 (24 * b + (Int32.toNatClampNeg y32)))).toInt := b_nle rfl (by decide) c54
                exfalso; first | exact om_da8f1a918998 r41.2 f53 f58 | first | omega | ((try (have i_gkl := Imp.go gkl (by omega))); (try (have i_coc := Imp.go coc (by omega))); (try (have i_coc := Imp.go coc (by omega))); (try (have i_gkl := Imp.go gkl (by omega))); omega)
    have r59 : Int32.toInt 0 = 0 := by decide
    have r60 : Int32.toInt 2 = 2 := by decide
    exact lp33 ((24 - (Int32.toInt 0) + 1 : Int).toNat) 0 H locs ls (by decide) (fun g hg _ => absurd hg (by rw [show (Int32.toInt 0).toNat = 0 from by decide]; exact Nat.not_lt_zero _)) (show (Int32.toInt 0) ≤ (((gs.2.1 2).length : Nat) : Int) from by first | exact om_3f7d4d3a7b74 gkl r59 | first | omega | ((try (have i_gkl := Imp.go gkl (by omega))); (try (have i_coc := Imp.go coc (by omega))); (try (have i_coc := Imp.go coc (by omega))); (try (have i_gkl := Imp.go gkl (by omega))); omega)) (by first | exact om_817980d3aa47 | first | omega | ((try (have i_gkl := Imp.go gkl (by omega))); (try (have i_coc := Imp.go coc (by omega))); (try (have i_coc := Imp.go coc (by omega))); (try (have i_gkl := Imp.go gkl (by omega))); omega)) hP hD hS (lv_sub hl [0, 1, 2, 3, 4] rfl)
abbrev r_x_faultOf5 : Room := { frames := 2, cells := 0, slots := 0, locals := 53 }
abbrev q_x_faultOf5 (D : va_G) (ks : KS) (ad : Nat → Nat) (kk : Nat → ClassId) (V : Vf) (L : Lf) (Z : XZ) (p0 : Int32) (p1 : Int32) (b : Nat) (gs : St) (gk : Nat) (gj : Nat) (gv : Nat → Int) (A : Nat → Prop) : Array Value → State → Outcome → State → Prop := va_Qi (fun (r : Int32) (_ : Unit) => (0 ≤ r.toInt ∧ r.toInt ≤ 4) ∧ (r.toInt = ((ftP gs.1 gv (gs.2.1 2).length gk gj : Nat) : Int))) (fun _ t => gq D A (xw ad kk V L Z) (xty kk Z) t) A
set_option maxHeartbeats 4000000 in
set_option maxRecDepth 100000 in
theorem x_faultOf5 (l : Launch) (D : va_G) (ks : KS) (sz : Nat) (ad : Nat → Nat) (kk : Nat → ClassId) (V : Vf) (L : Lf) (Z : XZ) (p0 : Int32) (p1 : Int32) (b : Nat) (gs : St) (gk : Nat) (gj : Nat) (gv : Nat → Int) (hMV : rgd bX V) (rg_p0 : 0 ≤ p0.toInt ∧ p0.toInt ≤ 23) (rg_p1 : 0 ≤ p1.toInt ∧ p1.toInt ≤ 7) (hb2 : b < 2) (cbk : (V 2 6).toInt = (b : Int)) (pk : p0.toInt = ((gk : Nat) : Int)) (pj : p1.toInt = ((gj : Nat) : Int)) (coc : COc V b gs) (wh : WHs gs) (gkl : gk < (gs.2.1 2).length) (gjl : gj < gs.1 (66 + 8 * gk)) (ln : (V 43 (5 * b + 2)).toInt = (((gs.2.1 2).length : Nat) : Int)) (ln2 : (gs.2.1 2).length ≤ 24) (hsv : svc V b (gs.2.1 1).length = gv)  : Met l yX2_faultOf (Cond.code yX2_faultOf cX2_faultOf 6 (some .int) :: GW) r_x_faultOf5 (va_Pc [.ref (ad 2), .int p0, .int p1] (gp D ks (xw ad kk V L Z) (xty kk Z) sz)) (q_x_faultOf5 D ks ad kk V L Z p0 p1 b gs gk gj gv (va_A (xw ad kk V L Z) sz)) 0 0 (va_A (xw ad kk V L Z) sz) := by
  refine g_met (q_x_faultOf5 D ks ad kk V L Z p0 p1 b gs gk gj gv) (by decide) (Nat.le_of_ble_eq_true rfl) ?_
  intro p e s m below meth c A ls H locs hx hb hr hml hown hg hlocks hin hnw hgk hP hK hD hS hA hl
  have hown : s.vm.findClass RX2 = some m.cls := hown
  have hl : lv_has ls 6 [(0, .ref (ad 2)), (1, .int p0), (2, .int p1)] := hl
  have hP : va_P D vwCl (xw ad kk V L Z) H := hP
  have hD : va_D A (xw ad kk V L Z) := hD
  have hK : va_K D vwCl (xty kk Z) s := hK
  have r1 : (-1) ≤ ((V 2 6)).toInt ∧ ((V 2 6)).toInt ≤ 1 := hMV 2 6
  have r2 : 0 ≤ ((V 43 (5 * b + 2))).toInt ∧ ((V 43 (5 * b + 2))).toInt ≤ ((xcap (5 * b + 2) : Nat) : Int) := hMV 43 (5 * b + 2)
  have r3 : xcap (5 * b + 2) = 24 := xcap_2
  have kc0 : Int32.toNatClampNeg p0 = gk := by have h9 := i_clamp (x := p0) rfl (by (first | exact om_c441fb90eac3 pk | omega)); (first | exact om_c4e1e142d663 pk h9 | omega)
  have kc1 : Int32.toNatClampNeg p1 = gj := by have h9 := i_clamp (x := p1) rfl (by (first | exact om_eafa9039069c rg_p1.1 | omega)); (first | exact om_c4e1e142d663 pj h9 | omega)
  have ne9 := (coc gk gkl).2.2.2 gj gjl
  unfold NEr at ne9
  rw [show 8 * (24 * b + gk) + gj = 8 * (24 * b + (Int32.toNatClampNeg p0)) + (Int32.toNatClampNeg p1) from by rw [kc0, kc1]] at ne9
  have n58 := ne9.1
  have n60 := ne9.2.1
  have n59 := ne9.2.2.1
  have n24 := ne9.2.2.2
  have h51 : (V 51 (24 * b + (Int32.toNatClampNeg p0))).toInt = ((gs.1 (61 + 8 * gk) : Nat) : Int) := by rw [kc0]; exact (coc gk gkl).1.2.1
  refine lv_aload_n hx hb dX2_faultOf_0 rfl (lv_at hl 0 rfl) ?_
  refine va_get (D := D) (ci := 2) (v := rfN ad 38 (V 2 6)) (fs := (xfChecker ad V L Z)) (C := RX2) (T := TX2) (N := 8) hx hb hg inX2 hown hK hP 2 xgChecker rfl 6 (by decide) (hg _ w344) (fun _ h9 => h9) rfl dX2_faultOf_1 ?_
  refine g_topv (v := .ref (ad (38 + b))) (rfN_r (by first | omega | ((try (have i_hsv := Imp.go hsv (by omega))); (try (have i_gjl := Imp.go gjl (by omega))); (try (have i_gkl := Imp.go gkl (by omega))); (try (have i_wh := Imp.go wh (by omega))); first | omega | ((try (have i_coc := Imp.go coc (by omega))); (try (have i_coc := Imp.go coc (by omega))); (try (have i_wh := Imp.go wh (by omega))); (try (have i_gkl := Imp.go gkl (by omega))); (try (have i_gjl := Imp.go gjl (by omega))); (try (have i_hsv := Imp.go hsv (by omega))); omega)))) ?_
  refine va_getN (D := D) (ci := 0) (v := .ref (ad (64 + b))) (fs := (xfBook ad V b)) (C := RX0) (T := TX0) (N := 13) hx hb hg inX0 hown hK hP (38 + b) (xgBook hb2) rfl 7 (by decide) (hnw.use 615 n615 rfl) (fun _ h9 => h9) rfl dX2_faultOf_4 ?_
  refine lv_iload_n hx hb dX2_faultOf_7 rfl (lv_at hl 1 rfl) ?_
  have il4 : b < 2 := by first | exact om_f940a4667dd6 hb2 | first | omega | ((try (have i_hsv := Imp.go hsv (by omega))); (try (have i_gjl := Imp.go gjl (by omega))); (try (have i_gkl := Imp.go gkl (by omega))); (try (have i_wh := Imp.go wh (by omega))); first | omega | ((try (have i_coc := Imp.go coc (by omega))); (try (have i_coc := Imp.go coc (by omega))); (try (have i_wh := Imp.go wh (by omega))); (try (have i_gkl := Imp.go gkl (by omega))); (try (have i_gjl := Imp.go gjl (by omega))); (try (have i_hsv := Imp.go hsv (by omega))); omega))
  refine va_aldq (D := D) (i := p0) hx hb hK hP (64 + b) (57 + b) (xgcomps il4) (xtcomps il4) (i_in (a := p0.toInt) rfl (by first | exact om_ddec85ab1900 rg_p0.2 pk | first | omega | ((try (have i_hsv := Imp.go hsv (by omega))); (try (have i_gjl := Imp.go gjl (by omega))); (try (have i_gkl := Imp.go gkl (by omega))); (try (have i_wh := Imp.go wh (by omega))); first | omega | ((try (have i_coc := Imp.go coc (by omega))); (try (have i_coc := Imp.go coc (by omega))); (try (have i_wh := Imp.go wh (by omega))); (try (have i_gkl := Imp.go gkl (by omega))); (try (have i_gjl := Imp.go gjl (by omega))); (try (have i_hsv := Imp.go hsv (by omega))); omega)))) dX2_faultOf_8 ?_
  have kc5 := i_clamp (x := p0) rfl (by first | exact om_c441fb90eac3 pk | first | omega | ((try (have i_hsv := Imp.go hsv (by omega))); (try (have i_gjl := Imp.go gjl (by omega))); (try (have i_gkl := Imp.go gkl (by omega))); (try (have i_wh := Imp.go wh (by omega))); first | omega | ((try (have i_coc := Imp.go coc (by omega))); (try (have i_coc := Imp.go coc (by omega))); (try (have i_wh := Imp.go wh (by omega))); (try (have i_gkl := Imp.go gkl (by omega))); (try (have i_gjl := Imp.go gjl (by omega))); (try (have i_hsv := Imp.go hsv (by omega))); omega)))
  refine g_topv (v := .ref (ad (72 + (24 * b + (Int32.toNatClampNeg p0))))) (congrArg va_rf (if_pos (by first | omega | ((try (have i_hsv := Imp.go hsv (by omega))); (try (have i_gjl := Imp.go gjl (by omega))); (try (have i_gkl := Imp.go gkl (by omega))); (try (have i_wh := Imp.go wh (by omega))); first | omega | ((try (have i_coc := Imp.go coc (by omega))); (try (have i_coc := Imp.go coc (by omega))); (try (have i_wh := Imp.go wh (by omega))); (try (have i_gkl := Imp.go gkl (by omega))); (try (have i_gjl := Imp.go gjl (by omega))); (try (have i_hsv := Imp.go hsv (by omega))); omega))))) ?_
  have il6 : (24 * b + (Int32.toNatClampNeg p0)) < 48 := by first | exact om_6c55e7c13eef rg_p0.2 hb2 pk kc0 | first | omega | ((try (have i_hsv := Imp.go hsv (by omega))); (try (have i_gjl := Imp.go gjl (by omega))); (try (have i_gkl := Imp.go gkl (by omega))); (try (have i_wh := Imp.go wh (by omega))); first | omega | ((try (have i_coc := Imp.go coc (by omega))); (try (have i_coc := Imp.go coc (by omega))); (try (have i_wh := Imp.go wh (by omega))); (try (have i_gkl := Imp.go gkl (by omega))); (try (have i_gjl := Imp.go gjl (by omega))); (try (have i_hsv := Imp.go hsv (by omega))); omega))
  refine lv_astore_n (lv' := [(3, .ref (ad (72 + (24 * b + (Int32.toNatClampNeg p0))))), (0, .ref (ad 2)), (1, .int p0), (2, .int p1)]) hx hb dX2_faultOf_9 rfl hl (by decide) rfl (fun ls hl => ?_)
  refine lv_aload_n hx hb dX2_faultOf_10 rfl (lv_at hl 0 rfl) ?_
  refine va_getN (D := D) (ci := 3) (v := .ref (ad (216 + (24 * b + (Int32.toNatClampNeg p0))))) (fs := (xfComp ad V (24 * b + (Int32.toNatClampNeg p0)))) (C := RX3) (T := TX3) (N := 13) hx hb hg inX3 hown hK hP (72 + (24 * b + (Int32.toNatClampNeg p0))) (xgComp il6) rfl 2 (by decide) (hnw.use 504 n504 rfl) (fun _ h9 => h9) rfl dX2_faultOf_11 ?_
  refine lv_iload_n hx hb dX2_faultOf_14 rfl (lv_at hl 3 rfl) ?_
  have il7 : (24 * b + (Int32.toNatClampNeg p0)) < 48 := by first | exact om_6c55e7c13eef rg_p0.2 hb2 pk kc0 | first | omega | ((try (have i_hsv := Imp.go hsv (by omega))); (try (have i_gjl := Imp.go gjl (by omega))); (try (have i_gkl := Imp.go gkl (by omega))); (try (have i_wh := Imp.go wh (by omega))); first | omega | ((try (have i_coc := Imp.go coc (by omega))); (try (have i_coc := Imp.go coc (by omega))); (try (have i_wh := Imp.go wh (by omega))); (try (have i_gkl := Imp.go gkl (by omega))); (try (have i_gjl := Imp.go gjl (by omega))); (try (have i_hsv := Imp.go hsv (by omega))); omega))
  refine va_iald (D := D) (i := p1) hx hb hK hP (216 + (24 * b + (Int32.toNatClampNeg p0))) (209 + (24 * b + (Int32.toNatClampNeg p0))) (xgneedKinds il7) (xtneedKinds il7) (i_in (a := p1.toInt) rfl (by first | omega | ((try (have i_hsv := Imp.go hsv (by omega))); (try (have i_gjl := Imp.go gjl (by omega))); (try (have i_gkl := Imp.go gkl (by omega))); (try (have i_wh := Imp.go wh (by omega))); first | omega | ((try (have i_coc := Imp.go coc (by omega))); (try (have i_coc := Imp.go coc (by omega))); (try (have i_wh := Imp.go wh (by omega))); (try (have i_gkl := Imp.go gkl (by omega))); (try (have i_gjl := Imp.go gjl (by omega))); (try (have i_hsv := Imp.go hsv (by omega))); omega)))) dX2_faultOf_15 ?_
  have kc8 := i_clamp (x := p1) rfl (by first | exact om_eafa9039069c rg_p1.1 | first | omega | ((try (have i_hsv := Imp.go hsv (by omega))); (try (have i_gjl := Imp.go gjl (by omega))); (try (have i_gkl := Imp.go gkl (by omega))); (try (have i_wh := Imp.go wh (by omega))); first | omega | ((try (have i_coc := Imp.go coc (by omega))); (try (have i_coc := Imp.go coc (by omega))); (try (have i_wh := Imp.go wh (by omega))); (try (have i_gkl := Imp.go gkl (by omega))); (try (have i_gjl := Imp.go gjl (by omega))); (try (have i_hsv := Imp.go hsv (by omega))); omega)))
  refine g_top (v := V 60 (8 * (24 * b + (Int32.toNatClampNeg p0)) + (Int32.toNatClampNeg p1))) (if_pos (by first | omega | ((try (have i_hsv := Imp.go hsv (by omega))); (try (have i_gjl := Imp.go gjl (by omega))); (try (have i_gkl := Imp.go gkl (by omega))); (try (have i_wh := Imp.go wh (by omega))); first | omega | ((try (have i_coc := Imp.go coc (by omega))); (try (have i_coc := Imp.go coc (by omega))); (try (have i_wh := Imp.go wh (by omega))); (try (have i_gkl := Imp.go gkl (by omega))); (try (have i_gjl := Imp.go gjl (by omega))); (try (have i_hsv := Imp.go hsv (by omega))); omega)))) ?_
  refine lv_istore (lv' := [(4, .int (V 60 (8 * (24 * b + (Int32.toNatClampNeg p0)) + (Int32.toNatClampNeg p1)))), (3, .ref (ad (72 + (24 * b + (Int32.toNatClampNeg p0))))), (0, .ref (ad 2)), (1, .int p0), (2, .int p1)]) hx hb dX2_faultOf_16 hl (by decide) rfl (fun ls hl => ?_)
  refine lv_aload_n hx hb dX2_faultOf_18 rfl (lv_at hl 2 rfl) ?_
  refine va_get (D := D) (ci := 2) (v := rfN ad 38 (V 2 6)) (fs := (xfChecker ad V L Z)) (C := RX2) (T := TX2) (N := 8) hx hb hg inX2 hown hK hP 2 xgChecker rfl 6 (by decide) (hg _ w344) (fun _ h9 => h9) rfl dX2_faultOf_19 ?_
  refine g_topv (v := .ref (ad (38 + b))) (rfN_r (by first | omega | ((try (have i_hsv := Imp.go hsv (by omega))); (try (have i_gjl := Imp.go gjl (by omega))); (try (have i_gkl := Imp.go gkl (by omega))); (try (have i_wh := Imp.go wh (by omega))); first | omega | ((try (have i_coc := Imp.go coc (by omega))); (try (have i_coc := Imp.go coc (by omega))); (try (have i_wh := Imp.go wh (by omega))); (try (have i_gkl := Imp.go gkl (by omega))); (try (have i_gjl := Imp.go gjl (by omega))); (try (have i_hsv := Imp.go hsv (by omega))); omega)))) ?_
  refine lv_iload_n hx hb dX2_faultOf_22 rfl (lv_at hl 3 rfl) ?_
  refine lv_iload_n hx hb dX2_faultOf_23 rfl (lv_at hl 4 rfl) ?_
  refine gA_int (gA_runV (As := [.int p0, .int p1]) (rest := []) (ci := 0) (q0 := (38 + b)) hx hb hml hown hg hP hD hK hS hA hnw hgk (x_candidates5 l D ks H.size ad kk V L Z p0 p1 (b) (gs) (gk) (gj) hMV (by first | exact om_b2cf528f38f4 rg_p0.2 pk | first | omega | ((try (have i_hsv := Imp.go hsv (by omega))); (try (have i_gjl := Imp.go gjl (by omega))); (try (have i_gkl := Imp.go gkl (by omega))); (try (have i_wh := Imp.go wh (by omega))); first | omega | ((try (have i_coc := Imp.go coc (by omega))); (try (have i_coc := Imp.go coc (by omega))); (try (have i_wh := Imp.go wh (by omega))); (try (have i_gkl := Imp.go gkl (by omega))); (try (have i_gjl := Imp.go gjl (by omega))); (try (have i_hsv := Imp.go hsv (by omega))); omega))) (by first | exact om_8da659b97699 rg_p1.1 rg_p1.2 | first | omega | ((try (have i_hsv := Imp.go hsv (by omega))); (try (have i_gjl := Imp.go gjl (by omega))); (try (have i_gkl := Imp.go gkl (by omega))); (try (have i_wh := Imp.go wh (by omega))); first | omega | ((try (have i_coc := Imp.go coc (by omega))); (try (have i_coc := Imp.go coc (by omega))); (try (have i_wh := Imp.go wh (by omega))); (try (have i_gkl := Imp.go gkl (by omega))); (try (have i_gjl := Imp.go gjl (by omega))); (try (have i_hsv := Imp.go hsv (by omega))); omega))) (show b < 2 from by first | exact om_f940a4667dd6 hb2 | first | omega | ((try (have i_hsv := Imp.go hsv (by omega))); (try (have i_gjl := Imp.go gjl (by omega))); (try (have i_gkl := Imp.go gkl (by omega))); (try (have i_wh := Imp.go wh (by omega))); first | omega | ((try (have i_coc := Imp.go coc (by omega))); (try (have i_coc := Imp.go coc (by omega))); (try (have i_wh := Imp.go wh (by omega))); (try (have i_gkl := Imp.go gkl (by omega))); (try (have i_gjl := Imp.go gjl (by omega))); (try (have i_hsv := Imp.go hsv (by omega))); omega))) (show p0.toInt = (gk : Int) from by first | exact om_08e0c9701055 pk | first | omega | ((try (have i_hsv := Imp.go hsv (by omega))); (try (have i_gjl := Imp.go gjl (by omega))); (try (have i_gkl := Imp.go gkl (by omega))); (try (have i_wh := Imp.go wh (by omega))); first | omega | ((try (have i_coc := Imp.go coc (by omega))); (try (have i_coc := Imp.go coc (by omega))); (try (have i_wh := Imp.go wh (by omega))); (try (have i_gkl := Imp.go gkl (by omega))); (try (have i_gjl := Imp.go gjl (by omega))); (try (have i_hsv := Imp.go hsv (by omega))); omega))) (show p1.toInt = (gj : Int) from by first | exact om_08e0c9701055 pj | first | omega | ((try (have i_hsv := Imp.go hsv (by omega))); (try (have i_gjl := Imp.go gjl (by omega))); (try (have i_gkl := Imp.go gkl (by omega))); (try (have i_wh := Imp.go wh (by omega))); first | omega | ((try (have i_coc := Imp.go coc (by omega))); (try (have i_coc := Imp.go coc (by omega))); (try (have i_wh := Imp.go wh (by omega))); (try (have i_gkl := Imp.go gkl (by omega))); (try (have i_gjl := Imp.go gjl (by omega))); (try (have i_hsv := Imp.go hsv (by omega))); omega))) coc wh gkl gjl (show (V 43 (5 * b + 2)).toInt = (((gs.2.1 2).length : Nat) : Int) from by first | exact om_08e0c9701055 ln | first | omega | ((try (have i_hsv := Imp.go hsv (by omega))); (try (have i_gjl := Imp.go gjl (by omega))); (try (have i_gkl := Imp.go gkl (by omega))); (try (have i_wh := Imp.go wh (by omega))); first | omega | ((try (have i_coc := Imp.go coc (by omega))); (try (have i_coc := Imp.go coc (by omega))); (try (have i_wh := Imp.go wh (by omega))); (try (have i_gkl := Imp.go gkl (by omega))); (try (have i_gjl := Imp.go gjl (by omega))); (try (have i_hsv := Imp.go hsv (by omega))); omega)))) w1081 w1082 w1083 w167 w1084 rfl (xgBook hb2) hdV_yX0_candidates ⟨Nat.le_of_ble_eq_true rfl, Nat.le_of_ble_eq_true rfl⟩ rfl hl.1 rfl (Nat.le_of_ble_eq_true rfl) dX2_faultOf_24 ⟨Nat.le_of_ble_eq_true rfl, Nat.le_of_ble_eq_true rfl⟩) hP hD hK hS hA (fun z9 u10 H locs w11 hP hD hK hS => ?_)
  obtain ⟨rgz9, t12⟩ := w11
  have rgz9 : 0 ≤ z9.toInt ∧ z9.toInt ≤ 16777215 := rgz9
  have t12 : FND z9 gs.1 (svc V b (gs.2.1 1).length) (gs.1 (301 + 32 * gk + 4 * gj)) (gs.1 (300 + 32 * gk + 4 * gj)) (gs.1 (302 + 32 * gk + 4 * gj)) (gs.2.1 2).length := t12
  refine lv_istore (lv' := [(5, .int z9), (4, .int (V 60 (8 * (24 * b + (Int32.toNatClampNeg p0)) + (Int32.toNatClampNeg p1)))), (3, .ref (ad (72 + (24 * b + (Int32.toNatClampNeg p0))))), (0, .ref (ad 2)), (1, .int p0), (2, .int p1)]) hx hb dX2_faultOf_27 hl (by decide) rfl (fun ls hl => ?_)
  have fn9 : FND z9 gs.1 gv (gs.1 (301 + 32 * gk + 4 * gj)) (gs.1 (300 + 32 * gk + 4 * gj)) (gs.1 (302 + 32 * gk + 4 * gj)) (gs.2.1 2).length := by have h9 := t12; rw [hsv] at h9; exact h9
  have fz9 : z9.toInt = 0 ↔ (clF gs.1 gv (gs.2.1 2).length gk gj).length = 0 := FND.nil fn9 (by (first | exact om_3142f42e06e3 rgz9.1 rgz9.2 | omega)) ln2
  have fl9 : popN z9.toInt.toNat = (clF gs.1 gv (gs.2.1 2).length gk gj).length := FND.len fn9 (by (first | exact om_3142f42e06e3 rgz9.1 rgz9.2 | omega)) ln2
  refine lv_iload hx hb dX2_faultOf_29 (lv_at hl 1 rfl) ?_
  refine lv_iconst (v := 2) hx hb dX2_faultOf_31 (by decide) ?_
  refine lv_icmp_eq (tgt := 42) hx hb dX2_faultOf_32 (by decide) (fun c13 => ?_) (fun c13 => ?_)
  · skip
    have f14 : ((V 60 (8 * (24 * b + (Int32.toNatClampNeg p0)) + (Int32.toNatClampNeg p1)))).toInt = 2 := b_eq rfl (by decide) c13
    refine lv_iload hx hb dX2_faultOf_42 (lv_at hl 1 rfl) ?_
    refine lv_iconst (v := 2) hx hb dX2_faultOf_44 (by decide) ?_
    refine lv_icmp_eq (tgt := 59) hx hb dX2_faultOf_45 (by decide) (fun c15 => ?_) (fun c15 => ?_)
    · skip
      have f16 : ((V 60 (8 * (24 * b + (Int32.toNatClampNeg p0)) + (Int32.toNatClampNeg p1)))).toInt = 2 := b_eq rfl (by decide) c15
      refine lv_iload hx hb dX2_faultOf_59 (lv_at hl 1 rfl) ?_
      refine lv_iconst (v := 1) hx hb dX2_faultOf_61 (by decide) ?_
      refine lv_icmp_eq (tgt := 82) hx hb dX2_faultOf_62 (by decide) (fun c17 => ?_) (fun c17 => ?_)
      · skip
        have f18 : ((V 60 (8 * (24 * b + (Int32.toNatClampNeg p0)) + (Int32.toNatClampNeg p1)))).toInt = 1 := b_eq rfl (by decide) c17
        exfalso; first | exact om_36fb4cdadc8e f14 f18 | first | omega | ((try (have i_hsv := Imp.go hsv (by omega))); (try (have i_gjl := Imp.go gjl (by omega))); (try (have i_gkl := Imp.go gkl (by omega))); (try (have i_wh := Imp.go wh (by omega))); first | omega | ((try (have i_coc := Imp.go coc (by omega))); (try (have i_coc := Imp.go coc (by omega))); (try (have i_wh := Imp.go wh (by omega))); (try (have i_gkl := Imp.go gkl (by omega))); (try (have i_gjl := Imp.go gjl (by omega))); (try (have i_hsv := Imp.go hsv (by omega))); omega))
      · skip
        have f19 : ((V 60 (8 * (24 * b + (Int32.toNatClampNeg p0)) + (Int32.toNatClampNeg p1)))).toInt ≠ 1 := b_neq rfl (by decide) c17
        have hh4 : (gs.1 (301 + 32 * gk + 4 * gj)) = 2 ∨ (clF gs.1 gv (gs.2.1 2).length gk gj).length = 1 := by omega
        have hk4 : (gs.1 (301 + 32 * gk + 4 * gj)) ≠ 1 := by omega
        refine lv_aload_n hx hb dX2_faultOf_65 rfl (lv_at hl 3 rfl) ?_
        refine lv_iload hx hb dX2_faultOf_66 (lv_at hl 0 rfl) ?_
        refine lv_aload_n hx hb dX2_faultOf_68 rfl (lv_at hl 2 rfl) ?_
        refine va_getN (D := D) (ci := 3) (v := .int (V 51 (24 * b + (Int32.toNatClampNeg p0)))) (fs := (xfComp ad V (24 * b + (Int32.toNatClampNeg p0)))) (C := RX3) (T := TX3) (N := 13) hx hb hg inX3 hown hK hP (72 + (24 * b + (Int32.toNatClampNeg p0))) (xgComp il6) rfl 6 (by decide) (hnw.use 519 n519 rfl) (fun _ h9 => h9) rfl dX2_faultOf_69 ?_
        have r20 : 0 ≤ ((V 51 (24 * b + (Int32.toNatClampNeg p0)))).toInt ∧ ((V 51 (24 * b + (Int32.toNatClampNeg p0)))).toInt ≤ 3 := hMV 51 (24 * b + (Int32.toNatClampNeg p0))
        refine gA_int (gA_runV (As := [.int z9, .int (V 51 (24 * b + (Int32.toNatClampNeg p0)))]) (rest := []) (ci := 2) (q0 := 2) hx hb hml hown hg hP hD hK hS hA hnw hgk (x_hasShorter5 l D ks H.size ad kk V L Z z9 (V 51 (24 * b + (Int32.toNatClampNeg p0))) (b) (gs) (gk) hMV (by first | exact om_e192ddde0c43 r20.1 r20.2 | first | omega | ((try (have i_hsv := Imp.go hsv (by omega))); (try (have i_gjl := Imp.go gjl (by omega))); (try (have i_gkl := Imp.go gkl (by omega))); (try (have i_wh := Imp.go wh (by omega))); first | omega | ((try (have i_coc := Imp.go coc (by omega))); (try (have i_coc := Imp.go coc (by omega))); (try (have i_wh := Imp.go wh (by omega))); (try (have i_gkl := Imp.go gkl (by omega))); (try (have i_gjl := Imp.go gjl (by omega))); (try (have i_hsv := Imp.go hsv (by omega))); omega))) (show b < 2 from by first | exact om_f940a4667dd6 hb2 | first | omega | ((try (have i_hsv := Imp.go hsv (by omega))); (try (have i_gjl := Imp.go gjl (by omega))); (try (have i_gkl := Imp.go gkl (by omega))); (try (have i_wh := Imp.go wh (by omega))); first | omega | ((try (have i_coc := Imp.go coc (by omega))); (try (have i_coc := Imp.go coc (by omega))); (try (have i_wh := Imp.go wh (by omega))); (try (have i_gkl := Imp.go gkl (by omega))); (try (have i_gjl := Imp.go gjl (by omega))); (try (have i_hsv := Imp.go hsv (by omega))); omega))) (show (V 2 6).toInt = (b : Int) from by first | exact om_08e0c9701055 cbk | first | omega | ((try (have i_hsv := Imp.go hsv (by omega))); (try (have i_gjl := Imp.go gjl (by omega))); (try (have i_gkl := Imp.go gkl (by omega))); (try (have i_wh := Imp.go wh (by omega))); first | omega | ((try (have i_coc := Imp.go coc (by omega))); (try (have i_coc := Imp.go coc (by omega))); (try (have i_wh := Imp.go wh (by omega))); (try (have i_gkl := Imp.go gkl (by omega))); (try (have i_gjl := Imp.go gjl (by omega))); (try (have i_hsv := Imp.go hsv (by omega))); omega))) coc (show (V 43 (5 * b + 2)).toInt = (((gs.2.1 2).length : Nat) : Int) from by first | exact om_08e0c9701055 ln | first | omega | ((try (have i_hsv := Imp.go hsv (by omega))); (try (have i_gjl := Imp.go gjl (by omega))); (try (have i_gkl := Imp.go gkl (by omega))); (try (have i_wh := Imp.go wh (by omega))); first | omega | ((try (have i_coc := Imp.go coc (by omega))); (try (have i_coc := Imp.go coc (by omega))); (try (have i_wh := Imp.go wh (by omega))); (try (have i_gkl := Imp.go gkl (by omega))); (try (have i_gjl := Imp.go gjl (by omega))); (try (have i_hsv := Imp.go hsv (by omega))); omega))) (show (gs.2.1 2).length ≤ 24 from by first | exact om_6e1dcbb49536 ln2 | first | omega | ((try (have i_hsv := Imp.go hsv (by omega))); (try (have i_gjl := Imp.go gjl (by omega))); (try (have i_gkl := Imp.go gkl (by omega))); (try (have i_wh := Imp.go wh (by omega))); first | omega | ((try (have i_coc := Imp.go coc (by omega))); (try (have i_coc := Imp.go coc (by omega))); (try (have i_wh := Imp.go wh (by omega))); (try (have i_gkl := Imp.go gkl (by omega))); (try (have i_gjl := Imp.go gjl (by omega))); (try (have i_hsv := Imp.go hsv (by omega))); omega))) gkl (show ((V 51 (24 * b + (Int32.toNatClampNeg p0)))).toInt = ((gs.1 (61 + 8 * gk) : Nat) : Int) from by first | exact om_08e0c9701055 h51 | first | omega | ((try (have i_hsv := Imp.go hsv (by omega))); (try (have i_gjl := Imp.go gjl (by omega))); (try (have i_gkl := Imp.go gkl (by omega))); (try (have i_wh := Imp.go wh (by omega))); first | omega | ((try (have i_coc := Imp.go coc (by omega))); (try (have i_coc := Imp.go coc (by omega))); (try (have i_wh := Imp.go wh (by omega))); (try (have i_gkl := Imp.go gkl (by omega))); (try (have i_gjl := Imp.go gjl (by omega))); (try (have i_hsv := Imp.go hsv (by omega))); omega)))) w1092 w1094 w36 w163 w1095 rfl xgChecker hdV_yX2_hasShorter ⟨Nat.le_of_ble_eq_true rfl, Nat.le_of_ble_eq_true rfl⟩ rfl hl.1 rfl (Nat.le_of_ble_eq_true rfl) dX2_faultOf_72 ⟨Nat.le_of_ble_eq_true rfl, Nat.le_of_ble_eq_true rfl⟩) hP hD hK hS hA (fun z21 u22 H locs w23 hP hD hK hS => ?_)
        obtain ⟨rgz21, t24⟩ := w23
        have rgz21 : 0 ≤ z21.toInt ∧ z21.toInt ≤ 1 := rgz21
        have t24 : (z21.toInt = 1 ∧ ∃ g, g < (gs.2.1 2).length ∧ bt z9 g = true ∧ shP gs.1 gk g = true) ∨ (z21.toInt = 0 ∧ ∀ g, g < (gs.2.1 2).length → bt z9 g = true → shP gs.1 gk g = false) := t24
        refine lv_if_eq (tgt := 82) hx hb dX2_faultOf_75 (by decide) (fun c25 => ?_) (fun c25 => ?_)
        · skip
          have f26 : z21.toInt = 0 := b_eq rfl (by decide) c25
          refine lv_iconst (v := 0) hx hb dX2_faultOf_82 (by decide) ?_
          exact W.iret (v := 0) hx hb hr (fun t ht hW => ⟨⟨0, (), rfl, ⟨(by decide), (by rw [ft_0 hh4 (Or.inr (fun g9 m9 => (t24.resolve_left (fun h9 => by have h8 := h9.1; omega)).2 g9 (clF_lt m9) ((FND.mem fn9 ln2 (clF_lt m9)).mpr m9)))]; rfl)⟩, by rw [ht]; exact hP, va_K.moved hW.alike hK, hD⟩, hS.F ht⟩) hS.2.2 dX2_faultOf_83
        · skip
          have f27 : z21.toInt ≠ 0 := b_neq rfl (by decide) c25
          refine lv_iconst (v := 4) hx hb dX2_faultOf_78 (by decide) ?_
          refine lv_goto (tgt := 83) hx hb dX2_faultOf_79 (by decide) ?_
          exact W.iret (v := 4) hx hb hr (fun t ht hW => ⟨⟨4, (), rfl, ⟨(by decide), (by obtain ⟨g9, a9, b9, c9⟩ := (t24.resolve_right (fun h9 => by have h8 := h9.1; omega)).2; rw [ft_4 hh4 hk4 ((FND.mem fn9 ln2 a9).mp b9) c9]; rfl)⟩, by rw [ht]; exact hP, va_K.moved hW.alike hK, hD⟩, hS.F ht⟩) hS.2.2 dX2_faultOf_83
    · skip
      have f28 : ((V 60 (8 * (24 * b + (Int32.toNatClampNeg p0)) + (Int32.toNatClampNeg p1)))).toInt ≠ 2 := b_neq rfl (by decide) c15
      exfalso; first | exact om_da4eef675bfb f14 f28 | first | omega | ((try (have i_hsv := Imp.go hsv (by omega))); (try (have i_gjl := Imp.go gjl (by omega))); (try (have i_gkl := Imp.go gkl (by omega))); (try (have i_wh := Imp.go wh (by omega))); first | omega | ((try (have i_coc := Imp.go coc (by omega))); (try (have i_coc := Imp.go coc (by omega))); (try (have i_wh := Imp.go wh (by omega))); (try (have i_gkl := Imp.go gkl (by omega))); (try (have i_gjl := Imp.go gjl (by omega))); (try (have i_hsv := Imp.go hsv (by omega))); omega))
  · skip
    have f29 : ((V 60 (8 * (24 * b + (Int32.toNatClampNeg p0)) + (Int32.toNatClampNeg p1)))).toInt ≠ 2 := b_neq rfl (by decide) c13
    refine lv_iload hx hb dX2_faultOf_35 (lv_at hl 0 rfl) ?_
    refine lv_if_ne (tgt := 42) hx hb dX2_faultOf_37 (by decide) (fun c30 => ?_) (fun c30 => ?_)
    · skip
      have f31 : z9.toInt ≠ 0 := b_neq rfl (by decide) c30
      refine lv_iload hx hb dX2_faultOf_42 (lv_at hl 1 rfl) ?_
      refine lv_iconst (v := 2) hx hb dX2_faultOf_44 (by decide) ?_
      refine lv_icmp_eq (tgt := 59) hx hb dX2_faultOf_45 (by decide) (fun c32 => ?_) (fun c32 => ?_)
      · skip
        have f33 : ((V 60 (8 * (24 * b + (Int32.toNatClampNeg p0)) + (Int32.toNatClampNeg p1)))).toInt = 2 := b_eq rfl (by decide) c32
        refine lv_iload hx hb dX2_faultOf_59 (lv_at hl 1 rfl) ?_
        refine lv_iconst (v := 1) hx hb dX2_faultOf_61 (by decide) ?_
        refine lv_icmp_eq (tgt := 82) hx hb dX2_faultOf_62 (by decide) (fun c34 => ?_) (fun c34 => ?_)
        · skip
          have f35 : ((V 60 (8 * (24 * b + (Int32.toNatClampNeg p0)) + (Int32.toNatClampNeg p1)))).toInt = 1 := b_eq rfl (by decide) c34
          exfalso; first | exact om_29df28a178d1 f29 f33 f35 | first | omega | ((try (have i_hsv := Imp.go hsv (by omega))); (try (have i_gjl := Imp.go gjl (by omega))); (try (have i_gkl := Imp.go gkl (by omega))); (try (have i_wh := Imp.go wh (by omega))); first | omega | ((try (have i_coc := Imp.go coc (by omega))); (try (have i_coc := Imp.go coc (by omega))); (try (have i_wh := Imp.go wh (by omega))); (try (have i_gkl := Imp.go gkl (by omega))); (try (have i_gjl := Imp.go gjl (by omega))); (try (have i_hsv := Imp.go hsv (by omega))); omega))
        · skip
          have f36 : ((V 60 (8 * (24 * b + (Int32.toNatClampNeg p0)) + (Int32.toNatClampNeg p1)))).toInt ≠ 1 := b_neq rfl (by decide) c34
          have hh4 : (gs.1 (301 + 32 * gk + 4 * gj)) = 2 ∨ (clF gs.1 gv (gs.2.1 2).length gk gj).length = 1 := by omega
          have hk4 : (gs.1 (301 + 32 * gk + 4 * gj)) ≠ 1 := by omega
          refine lv_aload_n hx hb dX2_faultOf_65 rfl (lv_at hl 3 rfl) ?_
          refine lv_iload hx hb dX2_faultOf_66 (lv_at hl 0 rfl) ?_
          refine lv_aload_n hx hb dX2_faultOf_68 rfl (lv_at hl 2 rfl) ?_
          refine va_getN (D := D) (ci := 3) (v := .int (V 51 (24 * b + (Int32.toNatClampNeg p0)))) (fs := (xfComp ad V (24 * b + (Int32.toNatClampNeg p0)))) (C := RX3) (T := TX3) (N := 13) hx hb hg inX3 hown hK hP (72 + (24 * b + (Int32.toNatClampNeg p0))) (xgComp il6) rfl 6 (by decide) (hnw.use 519 n519 rfl) (fun _ h9 => h9) rfl dX2_faultOf_69 ?_
          have r37 : 0 ≤ ((V 51 (24 * b + (Int32.toNatClampNeg p0)))).toInt ∧ ((V 51 (24 * b + (Int32.toNatClampNeg p0)))).toInt ≤ 3 := hMV 51 (24 * b + (Int32.toNatClampNeg p0))
          refine gA_int (gA_runV (As := [.int z9, .int (V 51 (24 * b + (Int32.toNatClampNeg p0)))]) (rest := []) (ci := 2) (q0 := 2) hx hb hml hown hg hP hD hK hS hA hnw hgk (x_hasShorter5 l D ks H.size ad kk V L Z z9 (V 51 (24 * b + (Int32.toNatClampNeg p0))) (b) (gs) (gk) hMV (by first | omega | ((try (have i_hsv := Imp.go hsv (by omega))); (try (have i_gjl := Imp.go gjl (by omega))); (try (have i_gkl := Imp.go gkl (by omega))); (try (have i_wh := Imp.go wh (by omega))); first | omega | ((try (have i_coc := Imp.go coc (by omega))); (try (have i_coc := Imp.go coc (by omega))); (try (have i_wh := Imp.go wh (by omega))); (try (have i_gkl := Imp.go gkl (by omega))); (try (have i_gjl := Imp.go gjl (by omega))); (try (have i_hsv := Imp.go hsv (by omega))); omega))) (show b < 2 from by first | omega | ((try (have i_hsv := Imp.go hsv (by omega))); (try (have i_gjl := Imp.go gjl (by omega))); (try (have i_gkl := Imp.go gkl (by omega))); (try (have i_wh := Imp.go wh (by omega))); first | omega | ((try (have i_coc := Imp.go coc (by omega))); (try (have i_coc := Imp.go coc (by omega))); (try (have i_wh := Imp.go wh (by omega))); (try (have i_gkl := Imp.go gkl (by omega))); (try (have i_gjl := Imp.go gjl (by omega))); (try (have i_hsv := Imp.go hsv (by omega))); omega))) (show (V 2 6).toInt = (b : Int) from by first | omega | ((try (have i_hsv := Imp.go hsv (by omega))); (try (have i_gjl := Imp.go gjl (by omega))); (try (have i_gkl := Imp.go gkl (by omega))); (try (have i_wh := Imp.go wh (by omega))); first | omega | ((try (have i_coc := Imp.go coc (by omega))); (try (have i_coc := Imp.go coc (by omega))); (try (have i_wh := Imp.go wh (by omega))); (try (have i_gkl := Imp.go gkl (by omega))); (try (have i_gjl := Imp.go gjl (by omega))); (try (have i_hsv := Imp.go hsv (by omega))); omega))) coc (show (V 43 (5 * b + 2)).toInt = (((gs.2.1 2).length : Nat) : Int) from by first | omega | ((try (have i_hsv := Imp.go hsv (by omega))); (try (have i_gjl := Imp.go gjl (by omega))); (try (have i_gkl := Imp.go gkl (by omega))); (try (have i_wh := Imp.go wh (by omega))); first | omega | ((try (have i_coc := Imp.go coc (by omega))); (try (have i_coc := Imp.go coc (by omega))); (try (have i_wh := Imp.go wh (by omega))); (try (have i_gkl := Imp.go gkl (by omega))); (try (have i_gjl := Imp.go gjl (by omega))); (try (have i_hsv := Imp.go hsv (by omega))); omega))) (show (gs.2.1 2).length ≤ 24 from by first | omega | ((try (have i_hsv := Imp.go hsv (by omega))); (try (have i_gjl := Imp.go gjl (by omega))); (try (have i_gkl := Imp.go gkl (by omega))); (try (have i_wh := Imp.go wh (by omega))); first | omega | ((try (have i_coc := Imp.go coc (by omega))); (try (have i_coc := Imp.go coc (by omega))); (try (have i_wh := Imp.go wh (by omega))); (try (have i_gkl := Imp.go gkl (by omega))); (try (have i_gjl := Imp.go gjl (by omega))); (try (have i_hsv := Imp.go hsv (by omega))); omega))) gkl (show ((V 51 (24 * b + (Int32.toNatClampNeg p0)))).toInt = ((gs.1 (61 + 8 * gk) : Nat) : Int) from by first | omega | ((try (have i_hsv := Imp.go hsv (by omega))); (try (have i_gjl := Imp.go gjl (by omega))); (try (have i_gkl := Imp.go gkl (by omega))); (try (have i_wh := Imp.go wh (by omega))); first | omega | ((try (have i_coc := Imp.go coc (by omega))); (try (have i_coc := Imp.go coc (by omega))); (try (have i_wh := Imp.go wh (by omega))); (try (have i_gkl := Imp.go gkl (by omega))); (try (have i_gjl := Imp.go gjl (by omega))); (try (have i_hsv := Imp.go hsv (by omega))); omega)))) w1092 w1094 w36 w163 w1095 rfl xgChecker hdV_yX2_hasShorter ⟨Nat.le_of_ble_eq_true rfl, Nat.le_of_ble_eq_true rfl⟩ rfl hl.1 rfl (Nat.le_of_ble_eq_true rfl) dX2_faultOf_72 ⟨Nat.le_of_ble_eq_true rfl, Nat.le_of_ble_eq_true rfl⟩) hP hD hK hS hA (fun z38 u39 H locs w40 hP hD hK hS => ?_)
          obtain ⟨rgz38, t41⟩ := w40
          have rgz38 : 0 ≤ z38.toInt ∧ z38.toInt ≤ 1 := rgz38
          have t41 : (z38.toInt = 1 ∧ ∃ g, g < (gs.2.1 2).length ∧ bt z9 g = true ∧ shP gs.1 gk g = true) ∨ (z38.toInt = 0 ∧ ∀ g, g < (gs.2.1 2).length → bt z9 g = true → shP gs.1 gk g = false) := t41
          refine lv_if_eq (tgt := 82) hx hb dX2_faultOf_75 (by decide) (fun c42 => ?_) (fun c42 => ?_)
          · skip
            have f43 : z38.toInt = 0 := b_eq rfl (by decide) c42
            refine lv_iconst (v := 0) hx hb dX2_faultOf_82 (by decide) ?_
            exact W.iret (v := 0) hx hb hr (fun t ht hW => ⟨⟨0, (), rfl, ⟨(by decide), (by rw [ft_0 hh4 (Or.inr (fun g9 m9 => (t41.resolve_left (fun h9 => by have h8 := h9.1; omega)).2 g9 (clF_lt m9) ((FND.mem fn9 ln2 (clF_lt m9)).mpr m9)))]; rfl)⟩, by rw [ht]; exact hP, va_K.moved hW.alike hK, hD⟩, hS.F ht⟩) hS.2.2 dX2_faultOf_83
          · skip
            have f44 : z38.toInt ≠ 0 := b_neq rfl (by decide) c42
            refine lv_iconst (v := 4) hx hb dX2_faultOf_78 (by decide) ?_
            refine lv_goto (tgt := 83) hx hb dX2_faultOf_79 (by decide) ?_
            exact W.iret (v := 4) hx hb hr (fun t ht hW => ⟨⟨4, (), rfl, ⟨(by decide), (by obtain ⟨g9, a9, b9, c9⟩ := (t41.resolve_right (fun h9 => by have h8 := h9.1; omega)).2; rw [ft_4 hh4 hk4 ((FND.mem fn9 ln2 a9).mp b9) c9]; rfl)⟩, by rw [ht]; exact hP, va_K.moved hW.alike hK, hD⟩, hS.F ht⟩) hS.2.2 dX2_faultOf_83
      · skip
        have f45 : ((V 60 (8 * (24 * b + (Int32.toNatClampNeg p0)) + (Int32.toNatClampNeg p1)))).toInt ≠ 2 := b_neq rfl (by decide) c32
        refine lv_iload hx hb dX2_faultOf_48 (lv_at hl 0 rfl) ?_
        refine gE_int (g_runS (As := [.int z9]) (rest := []) (wc := []) (tc := []) hx hb hml hown hg gw_self hP hD hK hS hA hnw hgk [] [] (by decide) rfl rfl (x_bitCount7 l D ks H.size z9 (by first | exact om_c168f93d3c44 rgz9.1 rgz9.2 f31 | first | omega | ((try (have i_hsv := Imp.go hsv (by omega))); (try (have i_gjl := Imp.go gjl (by omega))); (try (have i_gkl := Imp.go gkl (by omega))); (try (have i_wh := Imp.go wh (by omega))); first | omega | ((try (have i_coc := Imp.go coc (by omega))); (try (have i_coc := Imp.go coc (by omega))); (try (have i_wh := Imp.go wh (by omega))); (try (have i_gkl := Imp.go gkl (by omega))); (try (have i_gjl := Imp.go gjl (by omega))); (try (have i_hsv := Imp.go hsv (by omega))); omega)))) w1086 w1087 w175 w1088 hdS_yJ6_bitCount_0f7a4 ⟨Nat.le_of_ble_eq_true rfl, Nat.le_of_ble_eq_true rfl⟩ rfl hl.1 rfl (Nat.le_of_ble_eq_true rfl) dX2_faultOf_50 ⟨Nat.le_of_ble_eq_true rfl, Nat.le_of_ble_eq_true rfl⟩) hP hD hK hS hA (fun z46 u47 H locs w48 hP hD hK hS => ?_)
        obtain ⟨rgz46, t49⟩ := w48
        have rgz46 : 0 ≤ z46.toInt ∧ z46.toInt ≤ 63 := rgz46
        have t49 : z46.toInt = ((popN z9.toInt.toNat : Nat) : Int) := t49
        refine lv_iconst (v := 1) hx hb dX2_faultOf_53 (by decide) ?_
        refine lv_icmp_le (tgt := 59) hx hb dX2_faultOf_54 (by decide) (fun c50 => ?_) (fun c50 => ?_)
        · skip
          have f51 : z46.toInt ≤ 1 := b_le rfl (by decide) c50
          refine lv_iload hx hb dX2_faultOf_59 (lv_at hl 1 rfl) ?_
          refine lv_iconst (v := 1) hx hb dX2_faultOf_61 (by decide) ?_
          refine lv_icmp_eq (tgt := 82) hx hb dX2_faultOf_62 (by decide) (fun c52 => ?_) (fun c52 => ?_)
          · skip
            have f53 : ((V 60 (8 * (24 * b + (Int32.toNatClampNeg p0)) + (Int32.toNatClampNeg p1)))).toInt = 1 := b_eq rfl (by decide) c52
            refine lv_iconst (v := 0) hx hb dX2_faultOf_82 (by decide) ?_
            exact W.iret (v := 0) hx hb hr (fun t ht hW => ⟨⟨0, (), rfl, ⟨(by decide), (by rw [ft_0 (by omega) (Or.inl (by omega))]; rfl)⟩, by rw [ht]; exact hP, va_K.moved hW.alike hK, hD⟩, hS.F ht⟩) hS.2.2 dX2_faultOf_83
          · skip
            have f54 : ((V 60 (8 * (24 * b + (Int32.toNatClampNeg p0)) + (Int32.toNatClampNeg p1)))).toInt ≠ 1 := b_neq rfl (by decide) c52
            have hh4 : (gs.1 (301 + 32 * gk + 4 * gj)) = 2 ∨ (clF gs.1 gv (gs.2.1 2).length gk gj).length = 1 := by omega
            have hk4 : (gs.1 (301 + 32 * gk + 4 * gj)) ≠ 1 := by omega
            refine lv_aload_n hx hb dX2_faultOf_65 rfl (lv_at hl 3 rfl) ?_
            refine lv_iload hx hb dX2_faultOf_66 (lv_at hl 0 rfl) ?_
            refine lv_aload_n hx hb dX2_faultOf_68 rfl (lv_at hl 2 rfl) ?_
            refine va_getN (D := D) (ci := 3) (v := .int (V 51 (24 * b + (Int32.toNatClampNeg p0)))) (fs := (xfComp ad V (24 * b + (Int32.toNatClampNeg p0)))) (C := RX3) (T := TX3) (N := 13) hx hb hg inX3 hown hK hP (72 + (24 * b + (Int32.toNatClampNeg p0))) (xgComp il6) rfl 6 (by decide) (hnw.use 519 n519 rfl) (fun _ h9 => h9) rfl dX2_faultOf_69 ?_
            have r55 : 0 ≤ ((V 51 (24 * b + (Int32.toNatClampNeg p0)))).toInt ∧ ((V 51 (24 * b + (Int32.toNatClampNeg p0)))).toInt ≤ 3 := hMV 51 (24 * b + (Int32.toNatClampNeg p0))
            refine gA_int (gA_runV (As := [.int z9, .int (V 51 (24 * b + (Int32.toNatClampNeg p0)))]) (rest := []) (ci := 2) (q0 := 2) hx hb hml hown hg hP hD hK hS hA hnw hgk (x_hasShorter5 l D ks H.size ad kk V L Z z9 (V 51 (24 * b + (Int32.toNatClampNeg p0))) (b) (gs) (gk) hMV (by first | exact om_e192ddde0c43 r55.1 r55.2 | first | omega | ((try (have i_hsv := Imp.go hsv (by omega))); (try (have i_gjl := Imp.go gjl (by omega))); (try (have i_gkl := Imp.go gkl (by omega))); (try (have i_wh := Imp.go wh (by omega))); first | omega | ((try (have i_coc := Imp.go coc (by omega))); (try (have i_coc := Imp.go coc (by omega))); (try (have i_wh := Imp.go wh (by omega))); (try (have i_gkl := Imp.go gkl (by omega))); (try (have i_gjl := Imp.go gjl (by omega))); (try (have i_hsv := Imp.go hsv (by omega))); omega))) (show b < 2 from by first | exact om_f940a4667dd6 hb2 | first | omega | ((try (have i_hsv := Imp.go hsv (by omega))); (try (have i_gjl := Imp.go gjl (by omega))); (try (have i_gkl := Imp.go gkl (by omega))); (try (have i_wh := Imp.go wh (by omega))); first | omega | ((try (have i_coc := Imp.go coc (by omega))); (try (have i_coc := Imp.go coc (by omega))); (try (have i_wh := Imp.go wh (by omega))); (try (have i_gkl := Imp.go gkl (by omega))); (try (have i_gjl := Imp.go gjl (by omega))); (try (have i_hsv := Imp.go hsv (by omega))); omega))) (show (V 2 6).toInt = (b : Int) from by first | exact om_08e0c9701055 cbk | first | omega | ((try (have i_hsv := Imp.go hsv (by omega))); (try (have i_gjl := Imp.go gjl (by omega))); (try (have i_gkl := Imp.go gkl (by omega))); (try (have i_wh := Imp.go wh (by omega))); first | omega | ((try (have i_coc := Imp.go coc (by omega))); (try (have i_coc := Imp.go coc (by omega))); (try (have i_wh := Imp.go wh (by omega))); (try (have i_gkl := Imp.go gkl (by omega))); (try (have i_gjl := Imp.go gjl (by omega))); (try (have i_hsv := Imp.go hsv (by omega))); omega))) coc (show (V 43 (5 * b + 2)).toInt = (((gs.2.1 2).length : Nat) : Int) from by first | exact om_08e0c9701055 ln | first | omega | ((try (have i_hsv := Imp.go hsv (by omega))); (try (have i_gjl := Imp.go gjl (by omega))); (try (have i_gkl := Imp.go gkl (by omega))); (try (have i_wh := Imp.go wh (by omega))); first | omega | ((try (have i_coc := Imp.go coc (by omega))); (try (have i_coc := Imp.go coc (by omega))); (try (have i_wh := Imp.go wh (by omega))); (try (have i_gkl := Imp.go gkl (by omega))); (try (have i_gjl := Imp.go gjl (by omega))); (try (have i_hsv := Imp.go hsv (by omega))); omega))) (show (gs.2.1 2).length ≤ 24 from by first | exact om_6e1dcbb49536 ln2 | first | omega | ((try (have i_hsv := Imp.go hsv (by omega))); (try (have i_gjl := Imp.go gjl (by omega))); (try (have i_gkl := Imp.go gkl (by omega))); (try (have i_wh := Imp.go wh (by omega))); first | omega | ((try (have i_coc := Imp.go coc (by omega))); (try (have i_coc := Imp.go coc (by omega))); (try (have i_wh := Imp.go wh (by omega))); (try (have i_gkl := Imp.go gkl (by omega))); (try (have i_gjl := Imp.go gjl (by omega))); (try (have i_hsv := Imp.go hsv (by omega))); omega))) gkl (show ((V 51 (24 * b + (Int32.toNatClampNeg p0)))).toInt = ((gs.1 (61 + 8 * gk) : Nat) : Int) from by first | exact om_08e0c9701055 h51 | first | omega | ((try (have i_hsv := Imp.go hsv (by omega))); (try (have i_gjl := Imp.go gjl (by omega))); (try (have i_gkl := Imp.go gkl (by omega))); (try (have i_wh := Imp.go wh (by omega))); first | omega | ((try (have i_coc := Imp.go coc (by omega))); (try (have i_coc := Imp.go coc (by omega))); (try (have i_wh := Imp.go wh (by omega))); (try (have i_gkl := Imp.go gkl (by omega))); (try (have i_gjl := Imp.go gjl (by omega))); (try (have i_hsv := Imp.go hsv (by omega))); omega)))) w1092 w1094 w36 w163 w1095 rfl xgChecker hdV_yX2_hasShorter ⟨Nat.le_of_ble_eq_true rfl, Nat.le_of_ble_eq_true rfl⟩ rfl hl.1 rfl (Nat.le_of_ble_eq_true rfl) dX2_faultOf_72 ⟨Nat.le_of_ble_eq_true rfl, Nat.le_of_ble_eq_true rfl⟩) hP hD hK hS hA (fun z56 u57 H locs w58 hP hD hK hS => ?_)
            obtain ⟨rgz56, t59⟩ := w58
            have rgz56 : 0 ≤ z56.toInt ∧ z56.toInt ≤ 1 := rgz56
            have t59 : (z56.toInt = 1 ∧ ∃ g, g < (gs.2.1 2).length ∧ bt z9 g = true ∧ shP gs.1 gk g = true) ∨ (z56.toInt = 0 ∧ ∀ g, g < (gs.2.1 2).length → bt z9 g = true → shP gs.1 gk g = false) := t59
            refine lv_if_eq (tgt := 82) hx hb dX2_faultOf_75 (by decide) (fun c60 => ?_) (fun c60 => ?_)
            · skip
              have f61 : z56.toInt = 0 := b_eq rfl (by decide) c60
              refine lv_iconst (v := 0) hx hb dX2_faultOf_82 (by decide) ?_
              exact W.iret (v := 0) hx hb hr (fun t ht hW => ⟨⟨0, (), rfl, ⟨(by decide), (by rw [ft_0 hh4 (Or.inr (fun g9 m9 => (t59.resolve_left (fun h9 => by have h8 := h9.1; omega)).2 g9 (clF_lt m9) ((FND.mem fn9 ln2 (clF_lt m9)).mpr m9)))]; rfl)⟩, by rw [ht]; exact hP, va_K.moved hW.alike hK, hD⟩, hS.F ht⟩) hS.2.2 dX2_faultOf_83
            · skip
              have f62 : z56.toInt ≠ 0 := b_neq rfl (by decide) c60
              refine lv_iconst (v := 4) hx hb dX2_faultOf_78 (by decide) ?_
              refine lv_goto (tgt := 83) hx hb dX2_faultOf_79 (by decide) ?_
              exact W.iret (v := 4) hx hb hr (fun t ht hW => ⟨⟨4, (), rfl, ⟨(by decide), (by obtain ⟨g9, a9, b9, c9⟩ := (t59.resolve_right (fun h9 => by have h8 := h9.1; omega)).2; rw [ft_4 hh4 hk4 ((FND.mem fn9 ln2 a9).mp b9) c9]; rfl)⟩, by rw [ht]; exact hP, va_K.moved hW.alike hK, hD⟩, hS.F ht⟩) hS.2.2 dX2_faultOf_83
        · skip
          have f63 : 1 < z46.toInt := b_nle rfl (by decide) c50
          refine lv_iconst (v := 2) hx hb dX2_faultOf_57 (by decide) ?_
          exact W.iret (v := 2) hx hb hr (fun t ht hW => ⟨⟨2, (), rfl, ⟨(by decide), (by rw [ft_2 (by omega) (by omega)]; rfl)⟩, by rw [ht]; exact hP, va_K.moved hW.alike hK, hD⟩, hS.F ht⟩) hS.2.2 dX2_faultOf_58
    · skip
      have f64 : z9.toInt = 0 := b_eq rfl (by decide) c30
      refine lv_iconst (v := 1) hx hb dX2_faultOf_40 (by decide) ?_
      exact W.iret (v := 1) hx hb hr (fun t ht hW => ⟨⟨1, (), rfl, ⟨(by decide), (by rw [ft_1 (by omega) (by omega)]; rfl)⟩, by rw [ht]; exact hP, va_K.moved hW.alike hK, hD⟩, hS.F ht⟩) hS.2.2 dX2_faultOf_41
abbrev r_x_followed5 : Room := { frames := 3, cells := 0, slots := 0, locals := 78 }
abbrev q_x_followed5 (D : va_G) (ks : KS) (ad : Nat → Nat) (kk : Nat → ClassId) (V : Vf) (L : Lf) (Z : XZ) (p0 : Int32) (p1 : Int32) (b : Nat) (gs : St) (gk : Nat) (gj : Nat) (gv : Nat → Int) (A : Nat → Prop) : Array Value → State → Outcome → State → Prop := va_Qi (fun (r : Int32) (_ : Unit) => (0 ≤ r.toInt ∧ r.toInt ≤ 16777215) ∧ (EFD r gs.1 gv (gs.2.1 2).length gk gj)) (fun _ t => gq D A (xw ad kk V L Z) (xty kk Z) t) A
set_option maxHeartbeats 4000000 in
set_option maxRecDepth 100000 in
theorem x_followed5 (l : Launch) (D : va_G) (ks : KS) (sz : Nat) (ad : Nat → Nat) (kk : Nat → ClassId) (V : Vf) (L : Lf) (Z : XZ) (p0 : Int32) (p1 : Int32) (b : Nat) (gs : St) (gk : Nat) (gj : Nat) (gv : Nat → Int) (hMV : rgd bX V) (rg_p0 : 0 ≤ p0.toInt ∧ p0.toInt ≤ 23) (rg_p1 : 0 ≤ p1.toInt ∧ p1.toInt ≤ 7) (hb2 : b < 2) (cbk : (V 2 6).toInt = (b : Int)) (pk : p0.toInt = ((gk : Nat) : Int)) (pj : p1.toInt = ((gj : Nat) : Int)) (coc : COc V b gs) (wh : WHs gs) (gkl : gk < (gs.2.1 2).length) (gjl : gj < gs.1 (66 + 8 * gk)) (ln : (V 43 (5 * b + 2)).toInt = (((gs.2.1 2).length : Nat) : Int)) (ln2 : (gs.2.1 2).length ≤ 24) (hsv : svc V b (gs.2.1 1).length = gv) (kn1 : gs.1 (301 + 32 * gk + 4 * gj) ≠ 1)  : Met l yX2_followed (Cond.code yX2_followed cX2_followed 4 (some .int) :: GW) r_x_followed5 (va_Pc [.ref (ad 2), .int p0, .int p1] (gp D ks (xw ad kk V L Z) (xty kk Z) sz)) (q_x_followed5 D ks ad kk V L Z p0 p1 b gs gk gj gv (va_A (xw ad kk V L Z) sz)) 0 0 (va_A (xw ad kk V L Z) sz) := by
  refine g_met (q_x_followed5 D ks ad kk V L Z p0 p1 b gs gk gj gv) (by decide) (Nat.le_of_ble_eq_true rfl) ?_
  intro p e s m below meth c A ls H locs hx hb hr hml hown hg hlocks hin hnw hgk hP hK hD hS hA hl
  have hown : s.vm.findClass RX2 = some m.cls := hown
  have hl : lv_has ls 4 [(0, .ref (ad 2)), (1, .int p0), (2, .int p1)] := hl
  have hP : va_P D vwCl (xw ad kk V L Z) H := hP
  have hD : va_D A (xw ad kk V L Z) := hD
  have hK : va_K D vwCl (xty kk Z) s := hK
  have r1 : (-1) ≤ ((V 2 6)).toInt ∧ ((V 2 6)).toInt ≤ 1 := hMV 2 6
  have r2 : 0 ≤ ((V 43 (5 * b + 2))).toInt ∧ ((V 43 (5 * b + 2))).toInt ≤ ((xcap (5 * b + 2) : Nat) : Int) := hMV 43 (5 * b + 2)
  have r3 : xcap (5 * b + 2) = 24 := xcap_2
  refine lv_aload_n hx hb dX2_followed_0 rfl (lv_at hl 0 rfl) ?_
  refine lv_iload_n hx hb dX2_followed_1 rfl (lv_at hl 1 rfl) ?_
  refine lv_iload_n hx hb dX2_followed_2 rfl (lv_at hl 2 rfl) ?_
  refine gA_int (gA_runV (As := [.int p0, .int p1]) (rest := []) (ci := 2) (q0 := 2) hx hb hml hown hg hP hD hK hS hA hnw hgk (x_faultOf5 l D ks H.size ad kk V L Z p0 p1 (b) (gs) (gk) (gj) (gv) hMV (by first | exact om_b2cf528f38f4 rg_p0.2 pk | first | omega | ((try (have i_hsv := Imp.go hsv (by omega))); (try (have i_gjl := Imp.go gjl (by omega))); (try (have i_gkl := Imp.go gkl (by omega))); (try (have i_wh := Imp.go wh (by omega))); first | omega | ((try (have i_coc := Imp.go coc (by omega))); (try (have i_coc := Imp.go coc (by omega))); (try (have i_wh := Imp.go wh (by omega))); (try (have i_gkl := Imp.go gkl (by omega))); (try (have i_gjl := Imp.go gjl (by omega))); (try (have i_hsv := Imp.go hsv (by omega))); omega))) (by first | exact om_8da659b97699 rg_p1.1 rg_p1.2 | first | omega | ((try (have i_hsv := Imp.go hsv (by omega))); (try (have i_gjl := Imp.go gjl (by omega))); (try (have i_gkl := Imp.go gkl (by omega))); (try (have i_wh := Imp.go wh (by omega))); first | omega | ((try (have i_coc := Imp.go coc (by omega))); (try (have i_coc := Imp.go coc (by omega))); (try (have i_wh := Imp.go wh (by omega))); (try (have i_gkl := Imp.go gkl (by omega))); (try (have i_gjl := Imp.go gjl (by omega))); (try (have i_hsv := Imp.go hsv (by omega))); omega))) (show b < 2 from by first | exact om_f940a4667dd6 hb2 | first | omega | ((try (have i_hsv := Imp.go hsv (by omega))); (try (have i_gjl := Imp.go gjl (by omega))); (try (have i_gkl := Imp.go gkl (by omega))); (try (have i_wh := Imp.go wh (by omega))); first | omega | ((try (have i_coc := Imp.go coc (by omega))); (try (have i_coc := Imp.go coc (by omega))); (try (have i_wh := Imp.go wh (by omega))); (try (have i_gkl := Imp.go gkl (by omega))); (try (have i_gjl := Imp.go gjl (by omega))); (try (have i_hsv := Imp.go hsv (by omega))); omega))) (show (V 2 6).toInt = (b : Int) from by first | exact om_08e0c9701055 cbk | first | omega | ((try (have i_hsv := Imp.go hsv (by omega))); (try (have i_gjl := Imp.go gjl (by omega))); (try (have i_gkl := Imp.go gkl (by omega))); (try (have i_wh := Imp.go wh (by omega))); first | omega | ((try (have i_coc := Imp.go coc (by omega))); (try (have i_coc := Imp.go coc (by omega))); (try (have i_wh := Imp.go wh (by omega))); (try (have i_gkl := Imp.go gkl (by omega))); (try (have i_gjl := Imp.go gjl (by omega))); (try (have i_hsv := Imp.go hsv (by omega))); omega))) (show p0.toInt = ((gk : Nat) : Int) from by first | exact om_08e0c9701055 pk | first | omega | ((try (have i_hsv := Imp.go hsv (by omega))); (try (have i_gjl := Imp.go gjl (by omega))); (try (have i_gkl := Imp.go gkl (by omega))); (try (have i_wh := Imp.go wh (by omega))); first | omega | ((try (have i_coc := Imp.go coc (by omega))); (try (have i_coc := Imp.go coc (by omega))); (try (have i_wh := Imp.go wh (by omega))); (try (have i_gkl := Imp.go gkl (by omega))); (try (have i_gjl := Imp.go gjl (by omega))); (try (have i_hsv := Imp.go hsv (by omega))); omega))) (show p1.toInt = ((gj : Nat) : Int) from by first | exact om_08e0c9701055 pj | first | omega | ((try (have i_hsv := Imp.go hsv (by omega))); (try (have i_gjl := Imp.go gjl (by omega))); (try (have i_gkl := Imp.go gkl (by omega))); (try (have i_wh := Imp.go wh (by omega))); first | omega | ((try (have i_coc := Imp.go coc (by omega))); (try (have i_coc := Imp.go coc (by omega))); (try (have i_wh := Imp.go wh (by omega))); (try (have i_gkl := Imp.go gkl (by omega))); (try (have i_gjl := Imp.go gjl (by omega))); (try (have i_hsv := Imp.go hsv (by omega))); omega))) coc wh gkl gjl (show (V 43 (5 * b + 2)).toInt = (((gs.2.1 2).length : Nat) : Int) from by first | exact om_08e0c9701055 ln | first | omega | ((try (have i_hsv := Imp.go hsv (by omega))); (try (have i_gjl := Imp.go gjl (by omega))); (try (have i_gkl := Imp.go gkl (by omega))); (try (have i_wh := Imp.go wh (by omega))); first | omega | ((try (have i_coc := Imp.go coc (by omega))); (try (have i_coc := Imp.go coc (by omega))); (try (have i_wh := Imp.go wh (by omega))); (try (have i_gkl := Imp.go gkl (by omega))); (try (have i_gjl := Imp.go gjl (by omega))); (try (have i_hsv := Imp.go hsv (by omega))); omega))) (show (gs.2.1 2).length ≤ 24 from by first | exact om_6e1dcbb49536 ln2 | first | omega | ((try (have i_hsv := Imp.go hsv (by omega))); (try (have i_gjl := Imp.go gjl (by omega))); (try (have i_gkl := Imp.go gkl (by omega))); (try (have i_wh := Imp.go wh (by omega))); first | omega | ((try (have i_coc := Imp.go coc (by omega))); (try (have i_coc := Imp.go coc (by omega))); (try (have i_wh := Imp.go wh (by omega))); (try (have i_gkl := Imp.go gkl (by omega))); (try (have i_gjl := Imp.go gjl (by omega))); (try (have i_hsv := Imp.go hsv (by omega))); omega))) hsv) w1077 w1079 w35 w163 w1080 rfl xgChecker hdV_yX2_faultOf ⟨Nat.le_of_ble_eq_true rfl, Nat.le_of_ble_eq_true rfl⟩ rfl hl.1 rfl (Nat.le_of_ble_eq_true rfl) dX2_followed_3 ⟨Nat.le_of_ble_eq_true rfl, Nat.le_of_ble_eq_true rfl⟩) hP hD hK hS hA (fun z4 u5 H locs w6 hP hD hK hS => ?_)
  obtain ⟨rgz4, t7⟩ := w6
  have rgz4 : 0 ≤ z4.toInt ∧ z4.toInt ≤ 4 := rgz4
  have t7 : z4.toInt = ((ftP gs.1 gv (gs.2.1 2).length gk gj : Nat) : Int) := t7
  refine lv_istore_n (lv' := [(3, .int z4), (0, .ref (ad 2)), (1, .int p0), (2, .int p1)]) hx hb dX2_followed_6 rfl hl (by decide) rfl (fun ls hl => ?_)
  refine lv_iload_n hx hb dX2_followed_7 rfl (lv_at hl 0 rfl) ?_
  refine lv_iconst (v := 1) hx hb dX2_followed_8 (by decide) ?_
  refine lv_icmp_eq (tgt := 17) hx hb dX2_followed_9 (by decide) (fun c8 => ?_) (fun c8 => ?_)
  · skip
    have f9 : z4.toInt = 1 := b_eq rfl (by decide) c8
    refine lv_iconst (v := 0) hx hb dX2_followed_17 (by decide) ?_
    refine lv_goto (tgt := 30) hx hb dX2_followed_18 (by decide) ?_
    exact W.iret (v := 0) hx hb hr (fun t ht hW => ⟨⟨0, (), rfl, ⟨(by decide), (EFD.z (Or.inr (by omega)))⟩, by rw [ht]; exact hP, va_K.moved hW.alike hK, hD⟩, hS.F ht⟩) hS.2.2 dX2_followed_30
  · skip
    have f10 : z4.toInt ≠ 1 := b_neq rfl (by decide) c8
    refine lv_iload_n hx hb dX2_followed_12 rfl (lv_at hl 0 rfl) ?_
    refine lv_iconst (v := 2) hx hb dX2_followed_13 (by decide) ?_
    refine lv_icmp_ne (tgt := 21) hx hb dX2_followed_14 (by decide) (fun c11 => ?_) (fun c11 => ?_)
    · skip
      have f12 : z4.toInt ≠ 2 := b_neq rfl (by decide) c11
      refine lv_aload_n hx hb dX2_followed_21 rfl (lv_at hl 1 rfl) ?_
      refine va_get (D := D) (ci := 2) (v := rfN ad 38 (V 2 6)) (fs := (xfChecker ad V L Z)) (C := RX2) (T := TX2) (N := 8) hx hb hg inX2 hown hK hP 2 xgChecker rfl 6 (by decide) (hg _ w344) (fun _ h9 => h9) rfl dX2_followed_22 ?_
      refine g_topv (v := .ref (ad (38 + b))) (rfN_r (by first | omega | ((try (have i_hsv := Imp.go hsv (by omega))); (try (have i_gjl := Imp.go gjl (by omega))); (try (have i_gkl := Imp.go gkl (by omega))); (try (have i_wh := Imp.go wh (by omega))); first | omega | ((try (have i_coc := Imp.go coc (by omega))); (try (have i_coc := Imp.go coc (by omega))); (try (have i_wh := Imp.go wh (by omega))); (try (have i_gkl := Imp.go gkl (by omega))); (try (have i_gjl := Imp.go gjl (by omega))); (try (have i_hsv := Imp.go hsv (by omega))); omega)))) ?_
      refine lv_iload_n hx hb dX2_followed_25 rfl (lv_at hl 2 rfl) ?_
      refine lv_iload_n hx hb dX2_followed_26 rfl (lv_at hl 3 rfl) ?_
      refine gA_int (gA_runV (As := [.int p0, .int p1]) (rest := []) (ci := 0) (q0 := (38 + b)) hx hb hml hown hg hP hD hK hS hA hnw hgk (x_candidates5 l D ks H.size ad kk V L Z p0 p1 (b) (gs) (gk) (gj) hMV (by first | exact om_b2cf528f38f4 rg_p0.2 pk | first | omega | ((try (have i_hsv := Imp.go hsv (by omega))); (try (have i_gjl := Imp.go gjl (by omega))); (try (have i_gkl := Imp.go gkl (by omega))); (try (have i_wh := Imp.go wh (by omega))); first | omega | ((try (have i_coc := Imp.go coc (by omega))); (try (have i_coc := Imp.go coc (by omega))); (try (have i_wh := Imp.go wh (by omega))); (try (have i_gkl := Imp.go gkl (by omega))); (try (have i_gjl := Imp.go gjl (by omega))); (try (have i_hsv := Imp.go hsv (by omega))); omega))) (by first | exact om_8da659b97699 rg_p1.1 rg_p1.2 | first | omega | ((try (have i_hsv := Imp.go hsv (by omega))); (try (have i_gjl := Imp.go gjl (by omega))); (try (have i_gkl := Imp.go gkl (by omega))); (try (have i_wh := Imp.go wh (by omega))); first | omega | ((try (have i_coc := Imp.go coc (by omega))); (try (have i_coc := Imp.go coc (by omega))); (try (have i_wh := Imp.go wh (by omega))); (try (have i_gkl := Imp.go gkl (by omega))); (try (have i_gjl := Imp.go gjl (by omega))); (try (have i_hsv := Imp.go hsv (by omega))); omega))) (show b < 2 from by first | exact om_f940a4667dd6 hb2 | first | omega | ((try (have i_hsv := Imp.go hsv (by omega))); (try (have i_gjl := Imp.go gjl (by omega))); (try (have i_gkl := Imp.go gkl (by omega))); (try (have i_wh := Imp.go wh (by omega))); first | omega | ((try (have i_coc := Imp.go coc (by omega))); (try (have i_coc := Imp.go coc (by omega))); (try (have i_wh := Imp.go wh (by omega))); (try (have i_gkl := Imp.go gkl (by omega))); (try (have i_gjl := Imp.go gjl (by omega))); (try (have i_hsv := Imp.go hsv (by omega))); omega))) (show p0.toInt = (gk : Int) from by first | exact om_08e0c9701055 pk | first | omega | ((try (have i_hsv := Imp.go hsv (by omega))); (try (have i_gjl := Imp.go gjl (by omega))); (try (have i_gkl := Imp.go gkl (by omega))); (try (have i_wh := Imp.go wh (by omega))); first | omega | ((try (have i_coc := Imp.go coc (by omega))); (try (have i_coc := Imp.go coc (by omega))); (try (have i_wh := Imp.go wh (by omega))); (try (have i_gkl := Imp.go gkl (by omega))); (try (have i_gjl := Imp.go gjl (by omega))); (try (have i_hsv := Imp.go hsv (by omega))); omega))) (show p1.toInt = (gj : Int) from by first | exact om_08e0c9701055 pj | first | omega | ((try (have i_hsv := Imp.go hsv (by omega))); (try (have i_gjl := Imp.go gjl (by omega))); (try (have i_gkl := Imp.go gkl (by omega))); (try (have i_wh := Imp.go wh (by omega))); first | omega | ((try (have i_coc := Imp.go coc (by omega))); (try (have i_coc := Imp.go coc (by omega))); (try (have i_wh := Imp.go wh (by omega))); (try (have i_gkl := Imp.go gkl (by omega))); (try (have i_gjl := Imp.go gjl (by omega))); (try (have i_hsv := Imp.go hsv (by omega))); omega))) coc wh gkl gjl (show (V 43 (5 * b + 2)).toInt = (((gs.2.1 2).length : Nat) : Int) from by first | exact om_08e0c9701055 ln | first | omega | ((try (have i_hsv := Imp.go hsv (by omega))); (try (have i_gjl := Imp.go gjl (by omega))); (try (have i_gkl := Imp.go gkl (by omega))); (try (have i_wh := Imp.go wh (by omega))); first | omega | ((try (have i_coc := Imp.go coc (by omega))); (try (have i_coc := Imp.go coc (by omega))); (try (have i_wh := Imp.go wh (by omega))); (try (have i_gkl := Imp.go gkl (by omega))); (try (have i_gjl := Imp.go gjl (by omega))); (try (have i_hsv := Imp.go hsv (by omega))); omega)))) w1081 w1082 w1083 w167 w1084 rfl (xgBook hb2) hdV_yX0_candidates ⟨Nat.le_of_ble_eq_true rfl, Nat.le_of_ble_eq_true rfl⟩ rfl hl.1 rfl (Nat.le_of_ble_eq_true rfl) dX2_followed_27 ⟨Nat.le_of_ble_eq_true rfl, Nat.le_of_ble_eq_true rfl⟩) hP hD hK hS hA (fun z13 u14 H locs w15 hP hD hK hS => ?_)
      obtain ⟨rgz13, t16⟩ := w15
      have rgz13 : 0 ≤ z13.toInt ∧ z13.toInt ≤ 16777215 := rgz13
      have t16 : FND z13 gs.1 (svc V b (gs.2.1 1).length) (gs.1 (301 + 32 * gk + 4 * gj)) (gs.1 (300 + 32 * gk + 4 * gj)) (gs.1 (302 + 32 * gk + 4 * gj)) (gs.2.1 2).length := t16
      exact W.iret (v := z13) hx hb hr (fun t ht hW => ⟨⟨z13, (), rfl, ⟨(show 0 ≤ z13.toInt ∧ z13.toInt ≤ 16777215 from by first | exact om_c51a6401fccc rgz13.1 rgz13.2 | first | omega | ((try (have i_hsv := Imp.go hsv (by omega))); (try (have i_gjl := Imp.go gjl (by omega))); (try (have i_gkl := Imp.go gkl (by omega))); (try (have i_wh := Imp.go wh (by omega))); first | omega | ((try (have i_coc := Imp.go coc (by omega))); (try (have i_coc := Imp.go coc (by omega))); (try (have i_wh := Imp.go wh (by omega))); (try (have i_gkl := Imp.go gkl (by omega))); (try (have i_gjl := Imp.go gjl (by omega))); (try (have i_hsv := Imp.go hsv (by omega))); omega))), (EFD.of (by have h9 := t16; rw [hsv] at h9; exact h9) ln2 (by omega))⟩, by rw [ht]; exact hP, va_K.moved hW.alike hK, hD⟩, hS.F ht⟩) hS.2.2 dX2_followed_30
    · skip
      have f17 : z4.toInt = 2 := b_eq rfl (by decide) c11
      refine lv_iconst (v := 0) hx hb dX2_followed_17 (by decide) ?_
      refine lv_goto (tgt := 30) hx hb dX2_followed_18 (by decide) ?_
      exact W.iret (v := 0) hx hb hr (fun t ht hW => ⟨⟨0, (), rfl, ⟨(by decide), (EFD.z (Or.inr (by omega)))⟩, by rw [ht]; exact hP, va_K.moved hW.alike hK, hD⟩, hS.F ht⟩) hS.2.2 dX2_followed_30
abbrev r_x_note5 : Room := { frames := 0, cells := 0, slots := 0, locals := 0 }
abbrev q_x_note5 (D : va_G) (ks : KS) (ad : Nat → Nat) (kk : Nat → ClassId) (V : Vf) (L : Lf) (Z : XZ) (p0 : Int32) (p1 : Int32) (p2 : Int32) (gF : FSt) (nk : Nat) (nc : Nat) (nd : Nat) (nR : Nat → Nat) (A : Nat → Prop) : Array Value → State → Outcome → State → Prop := va_Qv (fun (u : Vf × Lf) => rgd bX u.1 ∧ agr [(2, 7)] [15, 16, 17] V u.1 ∧ u.2 = L ∧ ((u.1 2 7).toInt = (V 2 7).toInt + 1) ∧ (FLc u.1 (adF gF nk nc nd nR))) (fun u t => gq D A (xw ad kk u.1 u.2 Z) (xty kk Z) t) A
set_option maxHeartbeats 4000000 in
set_option maxRecDepth 100000 in
theorem x_note5 (l : Launch) (D : va_G) (ks : KS) (sz : Nat) (ad : Nat → Nat) (kk : Nat → ClassId) (V : Vf) (L : Lf) (Z : XZ) (p0 : Int32) (p1 : Int32) (p2 : Int32) (gF : FSt) (nk : Nat) (nc : Nat) (nd : Nat) (nR : Nat → Nat) (hMV : rgd bX V) (rg_p2 : (-100) ≤ p2.toInt ∧ p2.toInt ≤ 24) (y1 : (V 2 7).toInt ≤ 999999) (pa : p0.toInt = ((nk : Nat) : Int)) (pb : p1.toInt = ((nc : Nat) : Int)) (pc : p2.toInt = ((nd : Nat) : Int)) (flq : FLc V gF) (rq : nk = 3 → gF.1 < 100 → ∀ q, q < nd → (V 18 (24 * gF.1 + q)).toInt = ((nR q : Nat) : Int)) (n24 : nk = 3 → nd ≤ 24)  : Met l yX2_note (Cond.code yX2_note cX2_note 4 none :: GW) r_x_note5 (va_Pc [.ref (ad 2), .int p0, .int p1, .int p2] (gp D ks (xw ad kk V L Z) (xty kk Z) sz)) (q_x_note5 D ks ad kk V L Z p0 p1 p2 gF nk nc nd nR (va_A (xw ad kk V L Z) sz)) 0 0 (va_A (xw ad kk V L Z) sz) := by
  refine g_met (q_x_note5 D ks ad kk V L Z p0 p1 p2 gF nk nc nd nR) (by decide) (Nat.le_of_ble_eq_true rfl) ?_
  intro p e s m below meth c A ls H locs hx hb hr hml hown hg hlocks hin hnw hgk hP hK hD hS hA hl
  have hown : s.vm.findClass RX2 = some m.cls := hown
  have hl : lv_has ls 4 [(0, .ref (ad 2)), (1, .int p0), (2, .int p1), (3, .int p2)] := hl
  have hP : va_P D vwCl (xw ad kk V L Z) H := hP
  have hD : va_D A (xw ad kk V L Z) := hD
  have hK : va_K D vwCl (xty kk Z) s := hK
  have agV : agr [(2, 7)] [15, 16, 17] V V := agr.rf
  have r1 : 0 ≤ ((V 2 7)).toInt ∧ ((V 2 7)).toInt ≤ 1000000 := hMV 2 7
  refine lv_aload_n hx hb dX2_note_0 rfl (lv_at hl 0 rfl) ?_
  refine va_get (D := D) (ci := 2) (v := .int (V 2 7)) (fs := (xfChecker ad V L Z)) (C := RX2) (T := TX2) (N := 8) hx hb hg inX2 hown hK hP 2 xgChecker rfl 7 (by decide) (hg _ w345) (fun _ h9 => h9) rfl dX2_note_1 ?_
  refine lv_bipush (v := 100) hx hb dX2_note_4 (by decide) ?_
  refine lv_icmp_ge (tgt := 39) hx hb dX2_note_6 (by decide) (fun c2 => ?_) (fun c2 => ?_)
  · skip
    have f3 : 100 ≤ ((V 2 7)).toInt := b_le (by decide) rfl c2
    refine lv_aload_n hx hb dX2_note_39 rfl (lv_at hl 0 rfl) ?_
    refine lv_dup hx hb dX2_note_40 rfl ?_
    refine va_get (D := D) (ci := 2) (v := .int (V 2 7)) (fs := (xfChecker ad V L Z)) (C := RX2) (T := TX2) (N := 8) hx hb hg inX2 hown hK hP 2 xgChecker rfl 7 (by decide) (hg _ w345) (fun _ h9 => h9) rfl dX2_note_41 ?_
    refine lv_iconst (v := 1) hx hb dX2_note_44 (by decide) ?_
    refine lv_iadd hx hb dX2_note_45 ?_
    refine lv_topi (fun z4 ez4 => ?_)
    have hz4 : z4.toInt = ((V 2 7)).toInt + 1 := i_add ez4 rfl (by decide) (by (first | exact om_318db15b188c y1 f3 | omega))
    refine va_put (D := D) (ci := 2) (v := .int z4) (ty := tyX2 7) (fs := (xfChecker ad V L Z)) (C := RX2) (T := TX2) (N := 8) hx hb hg inX2 tyX2 tyX2_ok nmX2 hown hK hP hD hS 2 xgChecker rfl 7 (by decide) (hg _ w345) (fun _ h9 => h9) rfl (tyX2_ok 7 (by decide)) rfl rfl (Nat.le_of_ble_eq_true rfl) dX2_note_46 (fun H locs hP hD hS => ?_)
    obtain ⟨V5, hV5⟩ : ∃ z, z = up2 V 2 7 z4 := ⟨_, rfl⟩
    have ew6 : (xw ad kk V L Z).set 2 ((ad 2), .inr (2, (xfChecker ad V L Z).set 7 (.int z4))) = xw ad kk V5 L Z := by rw [hV5]; exact xw_ss (by decide) rfl (xb_si (by decide))
    have hP : va_P D vwCl (xw ad kk V5 L Z) H := by rw [← ew6]; exact hP
    have hD : va_D A (xw ad kk V5 L Z) := by rw [← ew6]; exact hD
    have hMV5 : rgd bX V5 := hMV.put hV5 (show 0 ≤ z4.toInt ∧ z4.toInt ≤ 1000000 from by first | exact om_cd1275f5679f y1 f3 hz4 | first | omega | ((try (have i_n24 := Imp.go n24 (by omega))); (try (have i_rq := Imp.go rq (by omega))); (try (have i_flq := Imp.go flq (by omega))); (try (have i_flq := Imp.go flq (by omega))); (try (have i_rq := Imp.go rq (by omega))); (try (have i_n24 := Imp.go n24 (by omega))); omega))
    have agV5 : agr [(2, 7)] [15, 16, 17] V V5 := agV.up hV5 rfl
    have pq7 : (V5 2 7).toInt = z4.toInt := congrArg Int32.toInt (up2_s hV5)
    exact W.vret hx hb hr (fun t ht hW => ⟨⟨(V5, L), rfl, ⟨hMV5, agV5, rfl, (show (V5 2 7).toInt = (V 2 7).toInt + 1 from by first | exact om_689eeacb6d53 hz4 pq7 | first | omega | ((try (have i_n24 := Imp.go n24 (by omega))); (try (have i_rq := Imp.go rq (by omega))); (try (have i_flq := Imp.go flq (by omega))); (try (have i_flq := Imp.go flq (by omega))); (try (have i_rq := Imp.go rq (by omega))); (try (have i_n24 := Imp.go n24 (by omega))); omega)), (FLc.n0 flq hV5 (by (first | exact om_55c67efb91e5 hz4 | omega)) (by (first | exact om_39cf4630b81f f3 | omega)) n24)⟩, by rw [ht]; exact hP, va_K.moved hW.alike hK, hD⟩, hS.F ht⟩) hS.2.2 dX2_note_49
  · skip
    have f8 : ((V 2 7)).toInt < 100 := b_nle (by decide) rfl c2
    refine lv_aload_n hx hb dX2_note_9 rfl (lv_at hl 0 rfl) ?_
    refine va_get (D := D) (ci := 2) (v := .ref (ad 12)) (fs := (xfChecker ad V L Z)) (C := RX2) (T := TX2) (N := 8) hx hb hg inX2 hown hK hP 2 xgChecker rfl 0 (by decide) (hg _ w338) (fun _ h9 => h9) rfl dX2_note_10 ?_
    refine lv_aload_n hx hb dX2_note_13 rfl (lv_at hl 0 rfl) ?_
    refine va_get (D := D) (ci := 2) (v := .int (V 2 7)) (fs := (xfChecker ad V L Z)) (C := RX2) (T := TX2) (N := 8) hx hb hg inX2 hown hK hP 2 xgChecker rfl 7 (by decide) (hg _ w345) (fun _ h9 => h9) rfl dX2_note_14 ?_
    refine lv_iload_n hx hb dX2_note_17 rfl (lv_at hl 1 rfl) ?_
    refine va_iast (D := D) (i := (V 2 7)) (x := p0) hx hb hK hP hD hS 12 5 rfl rfl (i_in (a := ((V 2 7)).toInt) rfl (by first | exact om_84fa328245f5 r1.1 f8 | first | omega | ((try (have i_n24 := Imp.go n24 (by omega))); (try (have i_rq := Imp.go rq (by omega))); (try (have i_flq := Imp.go flq (by omega))); (try (have i_flq := Imp.go flq (by omega))); (try (have i_rq := Imp.go rq (by omega))); (try (have i_n24 := Imp.go n24 (by omega))); omega))) dX2_note_18 (fun H locs hP hD hS => ?_)
    obtain ⟨V9, hV9⟩ : ∃ z, z = up2 V 15 (Int32.toNatClampNeg (V 2 7)) p0 := ⟨_, rfl⟩
    have ew10 : (xw ad kk V L Z).set 12 ((ad 12), .inl ((kk 12), 100, .inl (upd (V 15) (Int32.toNatClampNeg (V 2 7)) p0))) = xw ad kk V9 L Z := by rw [hV9]; exact xw_ss (by decide) rfl (xb_si (by decide))
    have hP : va_P D vwCl (xw ad kk V9 L Z) H := by rw [← ew10]; exact hP
    have hD : va_D A (xw ad kk V9 L Z) := by rw [← ew10]; exact hD
    have hMV9 : rgd bX V9 := hMV.put hV9 (i_full _)
    have agV9 : agr [(2, 7)] [15, 16, 17] V V9 := agV.up hV9 rfl
    refine lv_aload_n hx hb dX2_note_19 rfl (lv_at hl 0 rfl) ?_
    refine va_get (D := D) (ci := 2) (v := .ref (ad 13)) (fs := (xfChecker ad V9 L Z)) (C := RX2) (T := TX2) (N := 8) hx hb hg inX2 hown hK hP 2 xgChecker rfl 1 (by decide) (hg _ w339) (fun _ h9 => h9) rfl dX2_note_20 ?_
    refine lv_aload_n hx hb dX2_note_23 rfl (lv_at hl 0 rfl) ?_
    refine va_get (D := D) (ci := 2) (v := .int (V9 2 7)) (fs := (xfChecker ad V9 L Z)) (C := RX2) (T := TX2) (N := 8) hx hb hg inX2 hown hK hP 2 xgChecker rfl 7 (by decide) (hg _ w345) (fun _ h9 => h9) rfl dX2_note_24 ?_
    refine g_top (v := (V 2 7)) (up2_o hV9 (by decide)) ?_
    refine lv_iload_n hx hb dX2_note_27 rfl (lv_at hl 2 rfl) ?_
    refine va_iast (D := D) (i := (V 2 7)) (x := p1) hx hb hK hP hD hS 13 6 rfl rfl (i_in (a := ((V 2 7)).toInt) rfl (by first | exact om_84fa328245f5 r1.1 f8 | first | omega | ((try (have i_n24 := Imp.go n24 (by omega))); (try (have i_rq := Imp.go rq (by omega))); (try (have i_flq := Imp.go flq (by omega))); (try (have i_flq := Imp.go flq (by omega))); (try (have i_rq := Imp.go rq (by omega))); (try (have i_n24 := Imp.go n24 (by omega))); omega))) dX2_note_28 (fun H locs hP hD hS => ?_)
    obtain ⟨V11, hV11⟩ : ∃ z, z = up2 V9 16 (Int32.toNatClampNeg (V 2 7)) p1 := ⟨_, rfl⟩
    have ew12 : (xw ad kk V9 L Z).set 13 ((ad 13), .inl ((kk 13), 100, .inl (upd (V9 16) (Int32.toNatClampNeg (V 2 7)) p1))) = xw ad kk V11 L Z := by rw [hV11]; exact xw_ss (by decide) rfl (xb_si (by decide))
    have hP : va_P D vwCl (xw ad kk V11 L Z) H := by rw [← ew12]; exact hP
    have hD : va_D A (xw ad kk V11 L Z) := by rw [← ew12]; exact hD
    have hMV11 : rgd bX V11 := hMV9.put hV11 (i_full _)
    have agV11 : agr [(2, 7)] [15, 16, 17] V V11 := agV9.up hV11 rfl
    refine lv_aload_n hx hb dX2_note_29 rfl (lv_at hl 0 rfl) ?_
    refine va_get (D := D) (ci := 2) (v := .ref (ad 14)) (fs := (xfChecker ad V11 L Z)) (C := RX2) (T := TX2) (N := 8) hx hb hg inX2 hown hK hP 2 xgChecker rfl 2 (by decide) (hg _ w340) (fun _ h9 => h9) rfl dX2_note_30 ?_
    refine lv_aload_n hx hb dX2_note_33 rfl (lv_at hl 0 rfl) ?_
    refine va_get (D := D) (ci := 2) (v := .int (V11 2 7)) (fs := (xfChecker ad V11 L Z)) (C := RX2) (T := TX2) (N := 8) hx hb hg inX2 hown hK hP 2 xgChecker rfl 7 (by decide) (hg _ w345) (fun _ h9 => h9) rfl dX2_note_34 ?_
    refine g_top (v := (V 2 7)) ((up2_o hV11 (by decide)).trans (up2_o hV9 (by decide))) ?_
    refine lv_iload_n hx hb dX2_note_37 rfl (lv_at hl 3 rfl) ?_
    refine va_iast (D := D) (i := (V 2 7)) (x := p2) hx hb hK hP hD hS 14 7 rfl rfl (i_in (a := ((V 2 7)).toInt) rfl (by first | exact om_84fa328245f5 r1.1 f8 | first | omega | ((try (have i_n24 := Imp.go n24 (by omega))); (try (have i_rq := Imp.go rq (by omega))); (try (have i_flq := Imp.go flq (by omega))); (try (have i_flq := Imp.go flq (by omega))); (try (have i_rq := Imp.go rq (by omega))); (try (have i_n24 := Imp.go n24 (by omega))); omega))) dX2_note_38 (fun H locs hP hD hS => ?_)
    obtain ⟨V13, hV13⟩ : ∃ z, z = up2 V11 17 (Int32.toNatClampNeg (V 2 7)) p2 := ⟨_, rfl⟩
    have ew14 : (xw ad kk V11 L Z).set 14 ((ad 14), .inl ((kk 14), 100, .inl (upd (V11 17) (Int32.toNatClampNeg (V 2 7)) p2))) = xw ad kk V13 L Z := by rw [hV13]; exact xw_ss (by decide) rfl (xb_si (by decide))
    have hP : va_P D vwCl (xw ad kk V13 L Z) H := by rw [← ew14]; exact hP
    have hD : va_D A (xw ad kk V13 L Z) := by rw [← ew14]; exact hD
    have hMV13 : rgd bX V13 := hMV11.put hV13 (show (-100) ≤ p2.toInt ∧ p2.toInt ≤ 24 from by first | exact om_c81a6e99e33f rg_p2.2 pc | first | omega | ((try (have i_n24 := Imp.go n24 (by omega))); (try (have i_rq := Imp.go rq (by omega))); (try (have i_flq := Imp.go flq (by omega))); (try (have i_flq := Imp.go flq (by omega))); (try (have i_rq := Imp.go rq (by omega))); (try (have i_n24 := Imp.go n24 (by omega))); omega))
    have agV13 : agr [(2, 7)] [15, 16, 17] V V13 := agV11.up hV13 rfl
    refine lv_aload_n hx hb dX2_note_39 rfl (lv_at hl 0 rfl) ?_
    refine lv_dup hx hb dX2_note_40 rfl ?_
    refine va_get (D := D) (ci := 2) (v := .int (V13 2 7)) (fs := (xfChecker ad V13 L Z)) (C := RX2) (T := TX2) (N := 8) hx hb hg inX2 hown hK hP 2 xgChecker rfl 7 (by decide) (hg _ w345) (fun _ h9 => h9) rfl dX2_note_41 ?_
    refine g_top (v := (V 2 7)) ((up2_o hV13 (by decide)).trans ((up2_o hV11 (by decide)).trans (up2_o hV9 (by decide)))) ?_
    refine lv_iconst (v := 1) hx hb dX2_note_44 (by decide) ?_
    refine lv_iadd hx hb dX2_note_45 ?_
    refine lv_topi (fun z15 ez15 => ?_)
    have hz15 : z15.toInt = ((V 2 7)).toInt + 1 := i_add ez15 rfl (by decide) (by (first | exact om_607e1c2a08b1 r1.1 f8 | omega))
    refine va_put (D := D) (ci := 2) (v := .int z15) (ty := tyX2 7) (fs := (xfChecker ad V13 L Z)) (C := RX2) (T := TX2) (N := 8) hx hb hg inX2 tyX2 tyX2_ok nmX2 hown hK hP hD hS 2 xgChecker rfl 7 (by decide) (hg _ w345) (fun _ h9 => h9) rfl (tyX2_ok 7 (by decide)) rfl rfl (Nat.le_of_ble_eq_true rfl) dX2_note_46 (fun H locs hP hD hS => ?_)
    obtain ⟨V16, hV16⟩ : ∃ z, z = up2 V13 2 7 z15 := ⟨_, rfl⟩
    have ew17 : (xw ad kk V13 L Z).set 2 ((ad 2), .inr (2, (xfChecker ad V13 L Z).set 7 (.int z15))) = xw ad kk V16 L Z := by rw [hV16]; exact xw_ss (by decide) rfl (xb_si (by decide))
    have hP : va_P D vwCl (xw ad kk V16 L Z) H := by rw [← ew17]; exact hP
    have hD : va_D A (xw ad kk V16 L Z) := by rw [← ew17]; exact hD
    have hMV16 : rgd bX V16 := hMV13.put hV16 (show 0 ≤ z15.toInt ∧ z15.toInt ≤ 1000000 from by first | exact om_8f7de699279a r1.1 f8 hz15 | first | omega | ((try (have i_n24 := Imp.go n24 (by omega))); (try (have i_rq := Imp.go rq (by omega))); (try (have i_flq := Imp.go flq (by omega))); (try (have i_flq := Imp.go flq (by omega))); (try (have i_rq := Imp.go rq (by omega))); (try (have i_n24 := Imp.go n24 (by omega))); omega))
    have agV16 : agr [(2, 7)] [15, 16, 17] V V16 := agV13.up hV16 rfl
    have pq18 : (V16 2 7).toInt = z15.toInt := congrArg Int32.toInt (up2_s hV16)
    exact W.vret hx hb hr (fun t ht hW => ⟨⟨(V16, L), rfl, ⟨hMV16, agV16, rfl, (show (V16 2 7).toInt = (V 2 7).toInt + 1 from by first | exact om_689eeacb6d53 hz15 pq18 | first | omega | ((try (have i_n24 := Imp.go n24 (by omega))); (try (have i_rq := Imp.go rq (by omega))); (try (have i_flq := Imp.go flq (by omega))); (try (have i_flq := Imp.go flq (by omega))); (try (have i_rq := Imp.go rq (by omega))); (try (have i_n24 := Imp.go n24 (by omega))); omega)), (FLc.n1 flq hV9 hV11 hV13 hV16 (by have h9 := i_clamp (x := (V 2 7)) rfl (by (first | exact om_eafa9039069c r1.1 | omega)); have h8 := flq.n; omega) (by have h9 := i_clamp (x := (V 2 7)) rfl (by (first | exact om_eafa9039069c r1.1 | omega)); have h8 := flq.n; omega) (by have h9 := i_clamp (x := (V 2 7)) rfl (by (first | exact om_eafa9039069c r1.1 | omega)); have h8 := flq.n; omega) (by (first | exact om_55c67efb91e5 hz15 | omega)) (by omega) (by omega) (by omega) (fun h3 => rq h3 (by have h8 := flq.n; omega)) n24)⟩, by rw [ht]; exact hP, va_K.moved hW.alike hK, hD⟩, hS.F ht⟩) hS.2.2 dX2_note_49
abbrev r_x_noteRing5 : Room := { frames := 1, cells := 0, slots := 0, locals := 23 }
abbrev q_x_noteRing5 (D : va_G) (ks : KS) (ad : Nat → Nat) (kk : Nat → ClassId) (V : Vf) (L : Lf) (Z : XZ) (p0 : Int32) (p1 : Int32) (gF : FSt) (gP : Nat → Nat) (gi : Nat) (gt : Nat) (gd : Nat) (A : Nat → Prop) : Array Value → State → Outcome → State → Prop := va_Qv (fun (u : Vf × Lf) => rgd bX u.1 ∧ agr [(2, 7)] [15, 16, 17, 18] V u.1 ∧ u.2 = L ∧ ((u.1 2 7).toInt = (V 2 7).toInt + 1) ∧ (FLc u.1 (adF gF 3 gd (gt + 1 - gi) (fun k9 => gP (gi + k9))))) (fun u t => gq D A (xw ad kk u.1 u.2 Z) (xty kk Z) t) A
set_option maxHeartbeats 4000000 in
set_option maxRecDepth 100000 in
theorem x_noteRing5 (l : Launch) (D : va_G) (ks : KS) (sz : Nat) (ad : Nat → Nat) (kk : Nat → ClassId) (V : Vf) (L : Lf) (Z : XZ) (p0 : Int32) (p1 : Int32) (gF : FSt) (gP : Nat → Nat) (gi : Nat) (gt : Nat) (gd : Nat) (hMV : rgd bX V) (rg_p0 : 0 ≤ p0.toInt ∧ p0.toInt ≤ 23) (rg_p1 : 0 ≤ p1.toInt ∧ p1.toInt ≤ 23) (y1 : (V 2 7).toInt ≤ 999999) (pi : p0.toInt = ((gi : Nat) : Int)) (pt : p1.toInt = ((gt : Nat) : Int)) (git : gi ≤ gt) (flq : FLc V gF) (ptq : ∀ k, k < gt + 1 → (V 19 k).toInt = ((gP k : Nat) : Int)) (pgd : gP gi = gd)  : Met l yX2_noteRing (Cond.code yX2_noteRing cX2_noteRing 4 none :: GW) r_x_noteRing5 (va_Pc [.ref (ad 2), .int p0, .int p1] (gp D ks (xw ad kk V L Z) (xty kk Z) sz)) (q_x_noteRing5 D ks ad kk V L Z p0 p1 gF gP gi gt gd (va_A (xw ad kk V L Z) sz)) 0 0 (va_A (xw ad kk V L Z) sz) := by
  refine g_met (q_x_noteRing5 D ks ad kk V L Z p0 p1 gF gP gi gt gd) (by decide) (Nat.le_of_ble_eq_true rfl) ?_
  intro p e s m below meth c A ls H locs hx hb hr hml hown hg hlocks hin hnw hgk hP hK hD hS hA hl
  have hown : s.vm.findClass RX2 = some m.cls := hown
  have hl : lv_has ls 4 [(0, .ref (ad 2)), (1, .int p0), (2, .int p1)] := hl
  have hP : va_P D vwCl (xw ad kk V L Z) H := hP
  have hD : va_D A (xw ad kk V L Z) := hD
  have hK : va_K D vwCl (xty kk Z) s := hK
  have agV : agr [(2, 7)] [15, 16, 17, 18] V V := agr.rf
  have r1 : 0 ≤ ((V 2 7)).toInt ∧ ((V 2 7)).toInt ≤ 1000000 := hMV 2 7
  have kc0 : Int32.toNatClampNeg p0 = gi := by have h9 := i_clamp (x := p0) rfl (by (first | exact om_eafa9039069c rg_p0.1 | omega)); (first | exact om_c4e1e142d663 pi h9 | omega)
  have h19 : (V 19 (Int32.toNatClampNeg p0)).toInt = ((gd : Nat) : Int) := by rw [kc0, ptq gi (by omega), pgd]
  have fn0 := flq.n
  refine lv_aload_n hx hb dX2_noteRing_0 rfl (lv_at hl 0 rfl) ?_
  refine va_get (D := D) (ci := 2) (v := .int (V 2 7)) (fs := (xfChecker ad V L Z)) (C := RX2) (T := TX2) (N := 8) hx hb hg inX2 hown hK hP 2 xgChecker rfl 7 (by decide) (hg _ w345) (fun _ h9 => h9) rfl dX2_noteRing_1 ?_
  refine lv_bipush (v := 100) hx hb dX2_noteRing_4 (by decide) ?_
  refine lv_icmp_ge (tgt := 44) hx hb dX2_noteRing_6 (by decide) (fun c2 => ?_) (fun c2 => ?_)
  · skip
    have f3 : 100 ≤ ((V 2 7)).toInt := b_le (by decide) rfl c2
    refine lv_aload_n hx hb dX2_noteRing_44 rfl (lv_at hl 0 rfl) ?_
    refine lv_iconst (v := 3) hx hb dX2_noteRing_45 (by decide) ?_
    refine lv_aload_n hx hb dX2_noteRing_46 rfl (lv_at hl 0 rfl) ?_
    refine va_get (D := D) (ci := 2) (v := .ref (ad 16)) (fs := (xfChecker ad V L Z)) (C := RX2) (T := TX2) (N := 8) hx hb hg inX2 hown hK hP 2 xgChecker rfl 4 (by decide) (hg _ w342) (fun _ h9 => h9) rfl dX2_noteRing_47 ?_
    refine lv_iload_n hx hb dX2_noteRing_50 rfl (lv_at hl 1 rfl) ?_
    refine va_iald (D := D) (i := p0) hx hb hK hP 16 9 rfl rfl (i_in (a := p0.toInt) rfl (by first | exact om_dbb25e99819b rg_p0.1 rg_p0.2 | first | omega | ((try (have i_pgd := Imp.go pgd (by omega))); (try (have i_ptq := Imp.go ptq (by omega))); (try (have i_flq := Imp.go flq (by omega))); (try (have i_flq := Imp.go flq (by omega))); (try (have i_ptq := Imp.go ptq (by omega))); (try (have i_pgd := Imp.go pgd (by omega))); omega))) dX2_noteRing_51 ?_
    have r4 : 0 ≤ ((V 19 (Int32.toNatClampNeg p0))).toInt ∧ ((V 19 (Int32.toNatClampNeg p0))).toInt ≤ 23 := hMV 19 (Int32.toNatClampNeg p0)
    refine lv_iload_n hx hb dX2_noteRing_52 rfl (lv_at hl 2 rfl) ?_
    refine lv_iload_n hx hb dX2_noteRing_53 rfl (lv_at hl 1 rfl) ?_
    refine lv_isub hx hb dX2_noteRing_54 ?_
    refine lv_topi (fun z5 ez5 => ?_)
    have hz5 : z5.toInt = p1.toInt - p0.toInt := i_sub ez5 rfl rfl (by (first | exact om_5e116a307a42 rg_p0.1 rg_p1.2 pi pt git | omega))
    refine lv_iconst (v := 1) hx hb dX2_noteRing_55 (by decide) ?_
    refine lv_iadd hx hb dX2_noteRing_56 ?_
    refine lv_topi (fun z6 ez6 => ?_)
    have hz6 : z6.toInt = z5.toInt + 1 := i_add ez6 rfl (by decide) (by (first | exact om_32d4cda3f1ef rg_p0.1 rg_p1.2 pi pt git hz5 | omega))
    have r7 : Int32.toInt 3 = 3 := by decide
    refine gA_void (gA_runV (As := [.int 3, .int (V 19 (Int32.toNatClampNeg p0)), .int z6]) (rest := []) (ci := 2) (q0 := 2) hx hb hml hown hg hP hD hK hS hA hnw hgk (x_note5 l D ks H.size ad kk V L Z 3 (V 19 (Int32.toNatClampNeg p0)) z6 (gF) (3) (gd) (gt + 1 - gi) (fun k9 => gP (gi + k9)) hMV (by first | exact om_c42a938ab22c rg_p0.1 rg_p1.2 pi pt git hz5 hz6 | first | omega | ((try (have i_pgd := Imp.go pgd (by omega))); (try (have i_ptq := Imp.go ptq (by omega))); (try (have i_flq := Imp.go flq (by omega))); (try (have i_flq := Imp.go flq (by omega))); (try (have i_ptq := Imp.go ptq (by omega))); (try (have i_pgd := Imp.go pgd (by omega))); omega)) (show (V 2 7).toInt ≤ 999999 from by first | exact om_f76bf361f956 y1 | first | omega | ((try (have i_pgd := Imp.go pgd (by omega))); (try (have i_ptq := Imp.go ptq (by omega))); (try (have i_flq := Imp.go flq (by omega))); (try (have i_flq := Imp.go flq (by omega))); (try (have i_ptq := Imp.go ptq (by omega))); (try (have i_pgd := Imp.go pgd (by omega))); omega)) (show (Int32.toInt 3) = ((3 : Nat) : Int) from by first | exact om_8d33b021ea99 r7 | first | omega | ((try (have i_pgd := Imp.go pgd (by omega))); (try (have i_ptq := Imp.go ptq (by omega))); (try (have i_flq := Imp.go flq (by omega))); (try (have i_flq := Imp.go flq (by omega))); (try (have i_ptq := Imp.go ptq (by omega))); (try (have i_pgd := Imp.go pgd (by omega))); omega)) (show ((V 19 (Int32.toNatClampNeg p0))).toInt = ((gd : Nat) : Int) from by first | exact om_08e0c9701055 h19 | first | omega | ((try (have i_pgd := Imp.go pgd (by omega))); (try (have i_ptq := Imp.go ptq (by omega))); (try (have i_flq := Imp.go flq (by omega))); (try (have i_flq := Imp.go flq (by omega))); (try (have i_ptq := Imp.go ptq (by omega))); (try (have i_pgd := Imp.go pgd (by omega))); omega)) (show z6.toInt = (((gt + 1 - gi) : Nat) : Int) from by first | omega | ((try (have i_pgd := Imp.go pgd (by omega))); (try (have i_ptq := Imp.go ptq (by omega))); (try (have i_flq := Imp.go flq (by omega))); (try (have i_flq := Imp.go flq (by omega))); (try (have i_ptq := Imp.go ptq (by omega))); (try (have i_pgd := Imp.go pgd (by omega))); omega)) flq (fun _ h100 => absurd h100 (by omega)) (fun _ => by omega)) w1096 w1098 w37 w163 w1099 rfl xgChecker hdV_yX2_note ⟨Nat.le_of_ble_eq_true rfl, Nat.le_of_ble_eq_true rfl⟩ rfl hl.1 rfl (Nat.le_of_ble_eq_true rfl) dX2_noteRing_57 ⟨Nat.le_of_ble_eq_true rfl, Nat.le_of_ble_eq_true rfl⟩) hP hD hK hS hA (fun u9 H locs w10 hP hD hK hS => ?_)
    obtain ⟨V13, L14⟩ := u9
    obtain ⟨hMV13, ajV13, axL14, t11, t12⟩ := w10
    have axL14 : L = L14 := Eq.symm axL14
    subst axL14
    have hP : va_P D vwCl (xw ad kk V13 L Z) H := hP
    have hD : va_D A (xw ad kk V13 L Z) := hD
    have hMV13 : rgd bX V13 := hMV13
    have ajV13 : agr [(2, 7)] [15, 16, 17] V V13 := ajV13
    have agV13 : agr [(2, 7)] [15, 16, 17, 18] V V13 := agV.tr ajV13 (by decide) (by decide)
    have t11 : (V13 2 7).toInt = (V 2 7).toInt + 1 := t11
    have t12 : FLc V13 (adF gF 3 gd (gt + 1 - gi) (fun k9 => gP (gi + k9))) := t12
    have r15 : 0 ≤ ((V13 2 7)).toInt ∧ ((V13 2 7)).toInt ≤ 1000000 := hMV13 2 7
    exact W.vret hx hb hr (fun t ht hW => ⟨⟨(V13, L), rfl, ⟨hMV13, agV13, rfl, (show (V13 2 7).toInt = (V 2 7).toInt + 1 from by first | exact om_55c67efb91e5 t11 | first | omega | ((try (have i_pgd := Imp.go pgd (by omega))); (try (have i_ptq := Imp.go ptq (by omega))); (try (have i_flq := Imp.go flq (by omega))); (try (have i_flq := Imp.go flq (by omega))); (try (have i_ptq := Imp.go ptq (by omega))); (try (have i_pgd := Imp.go pgd (by omega))); omega)), t12⟩, by rw [ht]; exact hP, va_K.moved hW.alike hK, hD⟩, hS.F ht⟩) hS.2.2 dX2_noteRing_60
  · skip
    have f16 : ((V 2 7)).toInt < 100 := b_nle (by decide) rfl c2
    refine lv_iload_n hx hb dX2_noteRing_9 rfl (lv_at hl 1 rfl) ?_
    refine lv_istore_n (lv' := [(3, .int p0), (0, .ref (ad 2)), (1, .int p0), (2, .int p1)]) hx hb dX2_noteRing_10 rfl hl (by decide) rfl (fun ls hl => ?_)
    have lp19 : ∀ (fulp19 : Nat) (y17 : Int32) (V18 : Vf) (H : Heap) (locs : List Loc) (ls : Array Slot), 0 ≤ y17.toInt ∧ y17.toInt ≤ 24 → p0.toInt ≤ y17.toInt → y17.toInt ≤ p1.toInt + 1 → (∀ q : Nat, (q : Int) < y17.toInt - p0.toInt → (V18 18 (24 * gF.1 + q)).toInt = ((gP (gi + q) : Nat) : Int)) → (∀ q : Nat, q < 24 * gF.1 → V18 18 q = V 18 q) → 24 - y17.toInt < (fulp19 : Int) → agr [] [18] V V18 → rgd bX V18 → va_P D vwCl (xw ad kk V18 L Z) H → va_D A (xw ad kk V18 L Z) → va_S A s.heap H locs → lv_has ls 4 [(3, .int y17), (0, .ref (ad 2)), (1, .int p0), (2, .int p1)] → W p l e r_x_noteRing5 s m ([.ref (ad 2), .int p0, .int p1] : List Value).toArray below meth c H locs 0 0 (MQ below (q_x_noteRing5 D ks ad kk V L Z p0 p1 gF gP gi gt gd A) ([.ref (ad 2), .int p0, .int p1] : List Value).toArray s 0 0 A) (F0 m 11 ls []) := by
      intro fulp19
      induction fulp19 with
      | zero =>
        intro y17 V18 H locs ls klp19_0 xlp19_0 xlp19_1 xlp19_2 xlp19_3 hn ajV18 hMV18 hP hD hS hl
        exfalso; (first | exact om_9386ef0df612 klp19_0.2 hn | omega)
      | succ fulp19 ihlp19 =>
        intro y17 V18 H locs ls klp19_0 xlp19_0 xlp19_1 xlp19_2 xlp19_3 hn ajV18 hMV18 hP hD hS hl
        have agV18 : agr [(2, 7)] [15, 16, 17, 18] V V18 := agV.tr ajV18 (by decide) (by decide)
        refine lv_iload_n hx hb dX2_noteRing_11 rfl (lv_at hl 0 rfl) ?_
        refine lv_iload_n hx hb dX2_noteRing_12 rfl (lv_at hl 3 rfl) ?_
        refine lv_icmp_gt (tgt := 44) hx hb dX2_noteRing_13 (by decide) (fun c20 => ?_) (fun c20 => ?_)
        · skip
          have f21 : p1.toInt < y17.toInt := b_lt rfl rfl c20
          have pq22 : (V18 19 (Int32.toNatClampNeg p0)).toInt = ((V 19 (Int32.toNatClampNeg p0))).toInt := congrArg Int32.toInt (ajV18 19 (Int32.toNatClampNeg p0) rfl)
          have r23 : 0 ≤ ((V 19 (Int32.toNatClampNeg p0))).toInt ∧ ((V 19 (Int32.toNatClampNeg p0))).toInt ≤ 23 := hMV 19 (Int32.toNatClampNeg p0)
          refine lv_aload_n hx hb dX2_noteRing_44 rfl (lv_at hl 1 rfl) ?_
          refine lv_iconst (v := 3) hx hb dX2_noteRing_45 (by decide) ?_
          refine lv_aload_n hx hb dX2_noteRing_46 rfl (lv_at hl 1 rfl) ?_
          refine va_get (D := D) (ci := 2) (v := .ref (ad 16)) (fs := (xfChecker ad V18 L Z)) (C := RX2) (T := TX2) (N := 8) hx hb hg inX2 hown hK hP 2 xgChecker rfl 4 (by decide) (hg _ w342) (fun _ h9 => h9) rfl dX2_noteRing_47 ?_
          refine lv_iload_n hx hb dX2_noteRing_50 rfl (lv_at hl 2 rfl) ?_
          refine va_iald (D := D) (i := p0) hx hb hK hP 16 9 rfl rfl (i_in (a := p0.toInt) rfl (by first | exact om_dbb25e99819b rg_p0.1 rg_p0.2 | first | omega | ((try (have i_pgd := Imp.go pgd (by omega))); (try (have i_ptq := Imp.go ptq (by omega))); (try (have i_flq := Imp.go flq (by omega))); (try (have i_flq := Imp.go flq (by omega))); (try (have i_ptq := Imp.go ptq (by omega))); (try (have i_pgd := Imp.go pgd (by omega))); omega))) dX2_noteRing_51 ?_
          refine g_top (v := (V 19 (Int32.toNatClampNeg p0))) (ajV18 19 (Int32.toNatClampNeg p0) rfl) ?_
          refine lv_iload_n hx hb dX2_noteRing_52 rfl (lv_at hl 3 rfl) ?_
          refine lv_iload_n hx hb dX2_noteRing_53 rfl (lv_at hl 2 rfl) ?_
          refine lv_isub hx hb dX2_noteRing_54 ?_
          refine lv_topi (fun z24 ez24 => ?_)
          have hz24 : z24.toInt = p1.toInt - p0.toInt := i_sub ez24 rfl rfl (by (first | exact om_43f41a040878 rg_p0.1 pi pt git klp19_0.2 f21 | omega))
          refine lv_iconst (v := 1) hx hb dX2_noteRing_55 (by decide) ?_
          refine lv_iadd hx hb dX2_noteRing_56 ?_
          refine lv_topi (fun z25 ez25 => ?_)
          have hz25 : z25.toInt = z24.toInt + 1 := i_add ez25 rfl (by decide) (by (first | exact om_412a49c7d1d3 rg_p0.1 pi pt git klp19_0.2 f21 hz24 | omega))
          have r26 : Int32.toInt 3 = 3 := by decide
          have pq27 : (V18 2 7).toInt = ((V 2 7)).toInt := congrArg Int32.toInt (ajV18 2 7 rfl)
          refine gA_void (gA_runV (As := [.int 3, .int (V 19 (Int32.toNatClampNeg p0)), .int z25]) (rest := []) (ci := 2) (q0 := 2) hx hb hml hown hg hP hD hK hS hA hnw hgk (x_note5 l D ks H.size ad kk V18 L Z 3 (V 19 (Int32.toNatClampNeg p0)) z25 (gF) (3) (gd) (gt + 1 - gi) (fun k9 => gP (gi + k9)) hMV18 (by first | exact om_c3827059abd0 rg_p0.1 pi pt git klp19_0.2 f21 hz24 hz25 | first | omega | ((try (have i_pgd := Imp.go pgd (by omega))); (try (have i_ptq := Imp.go ptq (by omega))); (try (have i_flq := Imp.go flq (by omega))); (try (have i_flq := Imp.go flq (by omega))); (try (have i_ptq := Imp.go ptq (by omega))); (try (have i_pgd := Imp.go pgd (by omega))); omega)) (show (V18 2 7).toInt ≤ 999999 from by first | exact om_16fa535973f3 f16 pq27 | first | omega | ((try (have i_pgd := Imp.go pgd (by omega))); (try (have i_ptq := Imp.go ptq (by omega))); (try (have i_flq := Imp.go flq (by omega))); (try (have i_flq := Imp.go flq (by omega))); (try (have i_ptq := Imp.go ptq (by omega))); (try (have i_pgd := Imp.go pgd (by omega))); omega)) (show (Int32.toInt 3) = ((3 : Nat) : Int) from by first | exact om_8d33b021ea99 r26 | first | omega | ((try (have i_pgd := Imp.go pgd (by omega))); (try (have i_ptq := Imp.go ptq (by omega))); (try (have i_flq := Imp.go flq (by omega))); (try (have i_flq := Imp.go flq (by omega))); (try (have i_ptq := Imp.go ptq (by omega))); (try (have i_pgd := Imp.go pgd (by omega))); omega)) (show ((V 19 (Int32.toNatClampNeg p0))).toInt = ((gd : Nat) : Int) from by first | exact om_08e0c9701055 h19 | first | omega | ((try (have i_pgd := Imp.go pgd (by omega))); (try (have i_ptq := Imp.go ptq (by omega))); (try (have i_flq := Imp.go flq (by omega))); (try (have i_flq := Imp.go flq (by omega))); (try (have i_ptq := Imp.go ptq (by omega))); (try (have i_pgd := Imp.go pgd (by omega))); omega)) (show z25.toInt = (((gt + 1 - gi) : Nat) : Int) from by first | omega | ((try (have i_pgd := Imp.go pgd (by omega))); (try (have i_ptq := Imp.go ptq (by omega))); (try (have i_flq := Imp.go flq (by omega))); (try (have i_flq := Imp.go flq (by omega))); (try (have i_ptq := Imp.go ptq (by omega))); (try (have i_pgd := Imp.go pgd (by omega))); omega)) (FLc.rg flq (congrFun (by rw [(funext (fun q => ajV18 2 q rfl) : V18 2 = V 2)] : V18 2 = V 2) 7) (by rw [(funext (fun q => ajV18 15 q rfl) : V18 15 = V 15)] : V18 15 = V 15) (by rw [(funext (fun q => ajV18 16 q rfl) : V18 16 = V 16)] : V18 16 = V 16) (by rw [(funext (fun q => ajV18 17 q rfl) : V18 17 = V 17)] : V18 17 = V 17) xlp19_3) (fun _ _ q9 hq => xlp19_2 q9 (by omega)) (fun _ => by omega)) w1096 w1098 w37 w163 w1099 rfl xgChecker hdV_yX2_note ⟨Nat.le_of_ble_eq_true rfl, Nat.le_of_ble_eq_true rfl⟩ rfl hl.1 rfl (Nat.le_of_ble_eq_true rfl) dX2_noteRing_57 ⟨Nat.le_of_ble_eq_true rfl, Nat.le_of_ble_eq_true rfl⟩) hP hD hK hS hA (fun u29 H locs w30 hP hD hK hS => ?_)
          obtain ⟨V33, L34⟩ := u29
          obtain ⟨hMV33, ajV33, axL34, t31, t32⟩ := w30
          have axL34 : L = L34 := Eq.symm axL34
          subst axL34
          have hP : va_P D vwCl (xw ad kk V33 L Z) H := hP
          have hD : va_D A (xw ad kk V33 L Z) := hD
          have hMV33 : rgd bX V33 := hMV33
          have ajV33 : agr [(2, 7)] [15, 16, 17] V18 V33 := ajV33
          have agV33 : agr [(2, 7)] [15, 16, 17, 18] V V33 := agV18.tr ajV33 (by decide) (by decide)
          have t31 : (V33 2 7).toInt = (V18 2 7).toInt + 1 := t31
          have t32 : FLc V33 (adF gF 3 gd (gt + 1 - gi) (fun k9 => gP (gi + k9))) := t32
          have r35 : 0 ≤ ((V33 2 7)).toInt ∧ ((V33 2 7)).toInt ≤ 1000000 := hMV33 2 7
          exact W.vret hx hb hr (fun t ht hW => ⟨⟨(V33, L), rfl, ⟨hMV33, agV33, rfl, (show (V33 2 7).toInt = (V 2 7).toInt + 1 from by first | exact om_03bf848abeb4 pq27 t31 | first | omega | ((try (have i_pgd := Imp.go pgd (by omega))); (try (have i_ptq := Imp.go ptq (by omega))); (try (have i_flq := Imp.go flq (by omega))); (try (have i_flq := Imp.go flq (by omega))); (try (have i_ptq := Imp.go ptq (by omega))); (try (have i_pgd := Imp.go pgd (by omega))); omega)), t32⟩, by rw [ht]; exact hP, va_K.moved hW.alike hK, hD⟩, hS.F ht⟩) hS.2.2 dX2_noteRing_60
        · skip
          have f36 : y17.toInt ≤ p1.toInt := b_nlt rfl rfl c20
          refine lv_aload_n hx hb dX2_noteRing_16 rfl (lv_at hl 1 rfl) ?_
          refine va_get (D := D) (ci := 2) (v := .ref (ad 15)) (fs := (xfChecker ad V18 L Z)) (C := RX2) (T := TX2) (N := 8) hx hb hg inX2 hown hK hP 2 xgChecker rfl 3 (by decide) (hg _ w341) (fun _ h9 => h9) rfl dX2_noteRing_17 ?_
          refine lv_aload_n hx hb dX2_noteRing_20 rfl (lv_at hl 1 rfl) ?_
          refine va_get (D := D) (ci := 2) (v := .int (V18 2 7)) (fs := (xfChecker ad V18 L Z)) (C := RX2) (T := TX2) (N := 8) hx hb hg inX2 hown hK hP 2 xgChecker rfl 7 (by decide) (hg _ w345) (fun _ h9 => h9) rfl dX2_noteRing_21 ?_
          refine g_top (v := (V 2 7)) (ajV18 2 7 rfl) ?_
          refine lv_bipush (v := 24) hx hb dX2_noteRing_24 (by decide) ?_
          refine lv_imul hx hb dX2_noteRing_26 ?_
          refine lv_topi (fun z37 ez37 => ?_)
          have hz37 : z37.toInt = ((V 2 7)).toInt * 24 := i_mul ez37 rfl (by decide) (by (first | exact om_dbeffe03d2f6 r1.1 f16 | omega))
          refine lv_iload_n hx hb dX2_noteRing_27 rfl (lv_at hl 0 rfl) ?_
          refine lv_iadd hx hb dX2_noteRing_28 ?_
          refine lv_topi (fun z38 ez38 => ?_)
          have hz38 : z38.toInt = z37.toInt + y17.toInt := i_add ez38 rfl rfl (by (first | exact om_d200bc902a62 rg_p0.1 rg_p1.2 r1.1 f16 xlp19_0 f36 hz37 | omega))
          refine lv_iload_n hx hb dX2_noteRing_29 rfl (lv_at hl 2 rfl) ?_
          refine lv_isub hx hb dX2_noteRing_30 ?_
          refine lv_topi (fun z39 ez39 => ?_)
          have hz39 : z39.toInt = z38.toInt - p0.toInt := i_sub ez39 rfl rfl (by (first | exact om_122f9e27b6dc rg_p0.1 rg_p1.2 r1.1 f16 xlp19_0 f36 hz37 hz38 | omega))
          refine lv_aload_n hx hb dX2_noteRing_31 rfl (lv_at hl 1 rfl) ?_
          refine va_get (D := D) (ci := 2) (v := .ref (ad 16)) (fs := (xfChecker ad V18 L Z)) (C := RX2) (T := TX2) (N := 8) hx hb hg inX2 hown hK hP 2 xgChecker rfl 4 (by decide) (hg _ w342) (fun _ h9 => h9) rfl dX2_noteRing_32 ?_
          refine lv_iload_n hx hb dX2_noteRing_35 rfl (lv_at hl 0 rfl) ?_
          refine va_iald (D := D) (i := y17) hx hb hK hP 16 9 rfl rfl (i_in (a := y17.toInt) rfl (by first | exact om_053b054100ad rg_p0.1 rg_p1.2 xlp19_0 f36 | first | omega | ((try (have i_pgd := Imp.go pgd (by omega))); (try (have i_ptq := Imp.go ptq (by omega))); (try (have i_flq := Imp.go flq (by omega))); (try (have i_flq := Imp.go flq (by omega))); (try (have i_ptq := Imp.go ptq (by omega))); (try (have i_pgd := Imp.go pgd (by omega))); omega))) dX2_noteRing_36 ?_
          refine g_top (v := (V 19 (Int32.toNatClampNeg y17))) (ajV18 19 (Int32.toNatClampNeg y17) rfl) ?_
          have r40 : 0 ≤ ((V 19 (Int32.toNatClampNeg y17))).toInt ∧ ((V 19 (Int32.toNatClampNeg y17))).toInt ≤ 23 := hMV 19 (Int32.toNatClampNeg y17)
          refine va_iast (D := D) (i := z39) (x := (V 19 (Int32.toNatClampNeg y17))) hx hb hK hP hD hS 15 8 rfl rfl (i_in (a := z39.toInt) rfl (by first | exact om_12a91f38e8be rg_p0.1 rg_p1.2 r1.1 f16 xlp19_0 f36 hz37 hz38 hz39 | first | omega | ((try (have i_pgd := Imp.go pgd (by omega))); (try (have i_ptq := Imp.go ptq (by omega))); (try (have i_flq := Imp.go flq (by omega))); (try (have i_flq := Imp.go flq (by omega))); (try (have i_ptq := Imp.go ptq (by omega))); (try (have i_pgd := Imp.go pgd (by omega))); omega))) dX2_noteRing_37 (fun H locs hP hD hS => ?_)
          obtain ⟨V41, hV41⟩ : ∃ z, z = up2 V18 18 (Int32.toNatClampNeg z39) (V 19 (Int32.toNatClampNeg y17)) := ⟨_, rfl⟩
          have ew42 : (xw ad kk V18 L Z).set 15 ((ad 15), .inl ((kk 15), 2400, .inl (upd (V18 18) (Int32.toNatClampNeg z39) (V 19 (Int32.toNatClampNeg y17))))) = xw ad kk V41 L Z := by rw [hV41]; exact xw_ss (by decide) rfl (xb_si (by decide))
          have hP : va_P D vwCl (xw ad kk V41 L Z) H := by rw [← ew42]; exact hP
          have hD : va_D A (xw ad kk V41 L Z) := by rw [← ew42]; exact hD
          have hMV41 : rgd bX V41 := hMV18.put hV41 (i_full _)
          have agV41 : agr [(2, 7)] [15, 16, 17, 18] V V41 := agV18.up hV41 rfl
          obtain ⟨z43, ez43⟩ : ∃ y : Int32, y = y17 + 1 := ⟨_, rfl⟩
          have hz43 : z43.toInt = y17.toInt + 1 := i_add ez43 rfl (by decide) (by (first | exact om_8673f16bd2c3 rg_p0.1 rg_p1.2 xlp19_0 f36 | omega))
          refine lv_iinc (v := z43) (lv' := [(3, .int z43), (0, .ref (ad 2)), (1, .int p0), (2, .int p1)]) hx hb dX2_noteRing_38 hl (k := 0) rfl (by rw [ez43]; rfl) (by decide) rfl (fun ls hl => ?_)
          refine lv_goto (tgt := 11) hx hb dX2_noteRing_41 (by decide) ?_
          have kp9 := i_clamp (x := z39) rfl (by (first | exact om_fcc611ecf7b0 r1.1 xlp19_0 hz37 hz38 hz39 | omega))
          have ky9 := i_clamp (x := y17) rfl (by (first | exact om_eafa9039069c klp19_0.1 | omega))
          have hp9 := ptq (Int32.toNatClampNeg y17) (by omega)
          have pq44 : (V18 19 (Int32.toNatClampNeg y17)).toInt = ((V 19 (Int32.toNatClampNeg y17))).toInt := congrArg Int32.toInt (ajV18 19 (Int32.toNatClampNeg y17) rfl)
          exact ihlp19 z43 V41 H locs ls (by first | exact om_43983c34cf22 rg_p1.2 klp19_0.1 f36 hz43 | first | omega | ((try (have i_pgd := Imp.go pgd (by omega))); (try (have i_ptq := Imp.go ptq (by omega))); (try (have i_flq := Imp.go flq (by omega))); (try (have i_flq := Imp.go flq (by omega))); (try (have i_ptq := Imp.go ptq (by omega))); (try (have i_pgd := Imp.go pgd (by omega))); omega)) (show p0.toInt ≤ z43.toInt from by first | exact om_f75a30b4c815 xlp19_0 hz43 | first | omega | ((try (have i_pgd := Imp.go pgd (by omega))); (try (have i_ptq := Imp.go ptq (by omega))); (try (have i_flq := Imp.go flq (by omega))); (try (have i_flq := Imp.go flq (by omega))); (try (have i_ptq := Imp.go ptq (by omega))); (try (have i_pgd := Imp.go pgd (by omega))); omega)) (show z43.toInt ≤ p1.toInt + 1 from by first | exact om_bcdf06409ba2 f36 hz43 | first | omega | ((try (have i_pgd := Imp.go pgd (by omega))); (try (have i_ptq := Imp.go ptq (by omega))); (try (have i_flq := Imp.go flq (by omega))); (try (have i_flq := Imp.go flq (by omega))); (try (have i_ptq := Imp.go ptq (by omega))); (try (have i_pgd := Imp.go pgd (by omega))); omega)) (fun q hq => by rcases Decidable.em (24 * gF.1 + q = (Int32.toNatClampNeg z39)) with h9 | h9; (rw [h9, up2_s hV41, show gi + q = Int32.toNatClampNeg y17 from by omega]; omega); (rw [up2_k hV41 h9]; exact xlp19_2 q (by omega))) (fun q hq => (up2_k hV41 (by omega)).trans (xlp19_3 q hq)) (by first | exact om_9592d9319ffa hn hz43 | first | omega | ((try (have i_pgd := Imp.go pgd (by omega))); (try (have i_ptq := Imp.go ptq (by omega))); (try (have i_flq := Imp.go flq (by omega))); (try (have i_flq := Imp.go flq (by omega))); (try (have i_ptq := Imp.go ptq (by omega))); (try (have i_pgd := Imp.go pgd (by omega))); omega)) (agr.up (agr.tr agr.rf ajV18 (by decide) (by decide)) hV41 rfl) hMV41 hP hD hS (lv_sub hl [0, 1, 2, 3] rfl)
    exact lp19 ((24 - p0.toInt + 1 : Int).toNat) p0 V H locs ls (by first | exact om_a1266343c2df rg_p0.1 rg_p0.2 | first | omega | ((try (have i_pgd := Imp.go pgd (by omega))); (try (have i_ptq := Imp.go ptq (by omega))); (try (have i_flq := Imp.go flq (by omega))); (try (have i_flq := Imp.go flq (by omega))); (try (have i_ptq := Imp.go ptq (by omega))); (try (have i_pgd := Imp.go pgd (by omega))); omega)) (show p0.toInt ≤ p0.toInt from by first | exact om_5977f3d8a10f | first | omega | ((try (have i_pgd := Imp.go pgd (by omega))); (try (have i_ptq := Imp.go ptq (by omega))); (try (have i_flq := Imp.go flq (by omega))); (try (have i_flq := Imp.go flq (by omega))); (try (have i_ptq := Imp.go ptq (by omega))); (try (have i_pgd := Imp.go pgd (by omega))); omega)) (show p0.toInt ≤ p1.toInt + 1 from by first | exact om_9e74629b553d pi pt git | first | omega | ((try (have i_pgd := Imp.go pgd (by omega))); (try (have i_ptq := Imp.go ptq (by omega))); (try (have i_flq := Imp.go flq (by omega))); (try (have i_flq := Imp.go flq (by omega))); (try (have i_ptq := Imp.go ptq (by omega))); (try (have i_pgd := Imp.go pgd (by omega))); omega)) (fun q hq => absurd hq (by omega)) (fun q hq => rfl) (by first | exact om_817980d3aa47 | first | omega | ((try (have i_pgd := Imp.go pgd (by omega))); (try (have i_ptq := Imp.go ptq (by omega))); (try (have i_flq := Imp.go flq (by omega))); (try (have i_flq := Imp.go flq (by omega))); (try (have i_ptq := Imp.go ptq (by omega))); (try (have i_pgd := Imp.go pgd (by omega))); omega)) agr.rf hMV hP hD hS (lv_sub hl [0, 1, 2, 3] rfl)
abbrev r_x_examineNeeds5 : Room := { frames := 3, cells := 0, slots := 0, locals := 78 }
abbrev q_x_examineNeeds5 (D : va_G) (ks : KS) (ad : Nat → Nat) (kk : Nat → ClassId) (V : Vf) (L : Lf) (Z : XZ) (p0 : Int32) (b : Nat) (gs : St) (gk : Nat) (gv : Nat → Int) (gF : FSt) (A : Nat → Prop) : Array Value → State → Outcome → State → Prop := va_Qv (fun (u : Vf × Lf) => rgd bX u.1 ∧ agr [(2, 7)] [15, 16, 17] V u.1 ∧ u.2 = L ∧ ((u.1 2 7).toInt ≤ (V 2 7).toInt + 8) ∧ (FLc u.1 (ndF gs.1 gv (gs.2.1 2).length gk (gs.1 (66 + 8 * gk)) gF))) (fun u t => gq D A (xw ad kk u.1 u.2 Z) (xty kk Z) t) A
set_option maxHeartbeats 4000000 in
set_option maxRecDepth 100000 in
theorem x_examineNeeds5 (l : Launch) (D : va_G) (ks : KS) (sz : Nat) (ad : Nat → Nat) (kk : Nat → ClassId) (V : Vf) (L : Lf) (Z : XZ) (p0 : Int32) (b : Nat) (gs : St) (gk : Nat) (gv : Nat → Int) (gF : FSt) (hMV : rgd bX V) (rg_p0 : 0 ≤ p0.toInt ∧ p0.toInt ≤ 23) (hb2 : b < 2) (cbk : (V 2 6).toInt = (b : Int)) (pk : p0.toInt = ((gk : Nat) : Int)) (coc : COc V b gs) (wh : WHs gs) (gkl : gk < (gs.2.1 2).length) (ln : (V 43 (5 * b + 2)).toInt = (((gs.2.1 2).length : Nat) : Int)) (ln2 : (gs.2.1 2).length ≤ 24) (hsv : svc V b (gs.2.1 1).length = gv) (g8 : gs.1 (66 + 8 * gk) ≤ 8) (y1 : (V 2 7).toInt ≤ 999000) (flq : FLc V gF)  : Met l yX2_examineNeeds (Cond.code yX2_examineNeeds cX2_examineNeeds 4 none :: GW) r_x_examineNeeds5 (va_Pc [.ref (ad 2), .int p0] (gp D ks (xw ad kk V L Z) (xty kk Z) sz)) (q_x_examineNeeds5 D ks ad kk V L Z p0 b gs gk gv gF (va_A (xw ad kk V L Z) sz)) 0 0 (va_A (xw ad kk V L Z) sz) := by
  refine g_met (q_x_examineNeeds5 D ks ad kk V L Z p0 b gs gk gv gF) (by decide) (Nat.le_of_ble_eq_true rfl) ?_
  intro p e s m below meth c A ls H locs hx hb hr hml hown hg hlocks hin hnw hgk hP hK hD hS hA hl
  have hown : s.vm.findClass RX2 = some m.cls := hown
  have hl : lv_has ls 4 [(0, .ref (ad 2)), (1, .int p0)] := hl
  have hP : va_P D vwCl (xw ad kk V L Z) H := hP
  have hD : va_D A (xw ad kk V L Z) := hD
  have hK : va_K D vwCl (xty kk Z) s := hK
  have agV : agr [(2, 7)] [15, 16, 17] V V := agr.rf
  have r1 : (-1) ≤ ((V 2 6)).toInt ∧ ((V 2 6)).toInt ≤ 1 := hMV 2 6
  have r2 : 0 ≤ ((V 43 (5 * b + 2))).toInt ∧ ((V 43 (5 * b + 2))).toInt ≤ ((xcap (5 * b + 2) : Nat) : Int) := hMV 43 (5 * b + 2)
  have r3 : xcap (5 * b + 2) = 24 := xcap_2
  have r4 : 0 ≤ ((V 2 7)).toInt ∧ ((V 2 7)).toInt ≤ 1000000 := hMV 2 7
  have kc0 : Int32.toNatClampNeg p0 = gk := by have h9 := i_clamp (x := p0) rfl (by (first | exact om_c441fb90eac3 pk | omega)); (first | exact om_c4e1e142d663 pk h9 | omega)
  have h49 : (V 49 (24 * b + (Int32.toNatClampNeg p0))).toInt = ((gs.1 (66 + 8 * gk) : Nat) : Int) := by rw [kc0]; exact (coc gk gkl).2.1
  refine lv_iconst (v := 0) hx hb dX2_examineNeeds_0 (by decide) ?_
  refine lv_istore_n (lv' := [(2, .int 0), (0, .ref (ad 2)), (1, .int p0)]) hx hb dX2_examineNeeds_1 rfl hl (by decide) rfl (fun ls hl => ?_)
  have lp7 : ∀ (fulp7 : Nat) (y5 : Int32) (V6 : Vf) (H : Heap) (locs : List Loc) (ls : Array Slot), 0 ≤ y5.toInt ∧ y5.toInt ≤ 8 → (V6 2 7).toInt ≤ (V 2 7).toInt + y5.toInt → (FLc V6 (ndF gs.1 gv (gs.2.1 2).length gk y5.toInt.toNat gF)) → y5.toInt ≤ ((gs.1 (66 + 8 * gk) : Nat) : Int) → 8 - y5.toInt < (fulp7 : Int) → agr [(2, 7)] [15, 16, 17] V V6 → rgd bX V6 → va_P D vwCl (xw ad kk V6 L Z) H → va_D A (xw ad kk V6 L Z) → va_S A s.heap H locs → lv_has ls 4 [(2, .int y5), (0, .ref (ad 2)), (1, .int p0)] → W p l e r_x_examineNeeds5 s m ([.ref (ad 2), .int p0] : List Value).toArray below meth c H locs 0 0 (MQ below (q_x_examineNeeds5 D ks ad kk V L Z p0 b gs gk gv gF A) ([.ref (ad 2), .int p0] : List Value).toArray s 0 0 A) (F0 m 2 ls []) := by
    intro fulp7
    induction fulp7 with
    | zero =>
      intro y5 V6 H locs ls klp7_0 xlp7_0 xlp7_1 xlp7_2 hn ajV6 hMV6 hP hD hS hl
      exfalso; (first | exact om_e2d570575604 klp7_0.2 hn | omega)
    | succ fulp7 ihlp7 =>
      intro y5 V6 H locs ls klp7_0 xlp7_0 xlp7_1 xlp7_2 hn ajV6 hMV6 hP hD hS hl
      have agV6 : agr [(2, 7)] [15, 16, 17] V V6 := agV.tr ajV6 (by decide) (by decide)
      have r8 : 0 ≤ ((V6 2 7)).toInt ∧ ((V6 2 7)).toInt ≤ 1000000 := hMV6 2 7
      refine lv_iload_n hx hb dX2_examineNeeds_2 rfl (lv_at hl 0 rfl) ?_
      refine lv_aload_n hx hb dX2_examineNeeds_3 rfl (lv_at hl 1 rfl) ?_
      refine va_get (D := D) (ci := 2) (v := rfN ad 38 (V6 2 6)) (fs := (xfChecker ad V6 L Z)) (C := RX2) (T := TX2) (N := 8) hx hb hg inX2 hown hK hP 2 xgChecker rfl 6 (by decide) (hg _ w344) (fun _ h9 => h9) rfl dX2_examineNeeds_4 ?_
      have pq9 : (V6 2 6).toInt = ((V 2 6)).toInt := congrArg Int32.toInt (ajV6 2 6 rfl)
      refine g_topv (v := .ref (ad (38 + b))) (rfN_r (by first | omega | ((try (have i_flq := Imp.go flq (by omega))); (try (have i_hsv := Imp.go hsv (by omega))); (try (have i_gkl := Imp.go gkl (by omega))); (try (have i_wh := Imp.go wh (by omega))); first | omega | ((try (have i_coc := Imp.go coc (by omega))); (try (have i_coc := Imp.go coc (by omega))); (try (have i_wh := Imp.go wh (by omega))); (try (have i_gkl := Imp.go gkl (by omega))); (try (have i_hsv := Imp.go hsv (by omega))); (try (have i_flq := Imp.go flq (by omega))); omega)))) ?_
      refine va_getN (D := D) (ci := 0) (v := .ref (ad (64 + b))) (fs := (xfBook ad V6 b)) (C := RX0) (T := TX0) (N := 13) hx hb hg inX0 hown hK hP (38 + b) (xgBook hb2) rfl 7 (by decide) (hnw.use 615 n615 rfl) (fun _ h9 => h9) rfl dX2_examineNeeds_7 ?_
      refine lv_iload_n hx hb dX2_examineNeeds_10 rfl (lv_at hl 2 rfl) ?_
      have il10 : b < 2 := by first | exact om_f940a4667dd6 hb2 | first | omega | ((try (have i_flq := Imp.go flq (by omega))); (try (have i_hsv := Imp.go hsv (by omega))); (try (have i_gkl := Imp.go gkl (by omega))); (try (have i_wh := Imp.go wh (by omega))); first | omega | ((try (have i_coc := Imp.go coc (by omega))); (try (have i_coc := Imp.go coc (by omega))); (try (have i_wh := Imp.go wh (by omega))); (try (have i_gkl := Imp.go gkl (by omega))); (try (have i_hsv := Imp.go hsv (by omega))); (try (have i_flq := Imp.go flq (by omega))); omega))
      refine va_aldq (D := D) (i := p0) hx hb hK hP (64 + b) (57 + b) (xgcomps il10) (xtcomps il10) (i_in (a := p0.toInt) rfl (by first | exact om_ddec85ab1900 rg_p0.2 pk | first | omega | ((try (have i_flq := Imp.go flq (by omega))); (try (have i_hsv := Imp.go hsv (by omega))); (try (have i_gkl := Imp.go gkl (by omega))); (try (have i_wh := Imp.go wh (by omega))); first | omega | ((try (have i_coc := Imp.go coc (by omega))); (try (have i_coc := Imp.go coc (by omega))); (try (have i_wh := Imp.go wh (by omega))); (try (have i_gkl := Imp.go gkl (by omega))); (try (have i_hsv := Imp.go hsv (by omega))); (try (have i_flq := Imp.go flq (by omega))); omega)))) dX2_examineNeeds_11 ?_
      have kc11 := i_clamp (x := p0) rfl (by first | exact om_c441fb90eac3 pk | first | omega | ((try (have i_flq := Imp.go flq (by omega))); (try (have i_hsv := Imp.go hsv (by omega))); (try (have i_gkl := Imp.go gkl (by omega))); (try (have i_wh := Imp.go wh (by omega))); first | omega | ((try (have i_coc := Imp.go coc (by omega))); (try (have i_coc := Imp.go coc (by omega))); (try (have i_wh := Imp.go wh (by omega))); (try (have i_gkl := Imp.go gkl (by omega))); (try (have i_hsv := Imp.go hsv (by omega))); (try (have i_flq := Imp.go flq (by omega))); omega)))
      refine g_topv (v := .ref (ad (72 + (24 * b + (Int32.toNatClampNeg p0))))) (congrArg va_rf (if_pos (by first | omega | ((try (have i_flq := Imp.go flq (by omega))); (try (have i_hsv := Imp.go hsv (by omega))); (try (have i_gkl := Imp.go gkl (by omega))); (try (have i_wh := Imp.go wh (by omega))); first | omega | ((try (have i_coc := Imp.go coc (by omega))); (try (have i_coc := Imp.go coc (by omega))); (try (have i_wh := Imp.go wh (by omega))); (try (have i_gkl := Imp.go gkl (by omega))); (try (have i_hsv := Imp.go hsv (by omega))); (try (have i_flq := Imp.go flq (by omega))); omega))))) ?_
      have il12 : (24 * b + (Int32.toNatClampNeg p0)) < 48 := by first | exact om_6c55e7c13eef rg_p0.2 hb2 pk kc0 | first | omega | ((try (have i_flq := Imp.go flq (by omega))); (try (have i_hsv := Imp.go hsv (by omega))); (try (have i_gkl := Imp.go gkl (by omega))); (try (have i_wh := Imp.go wh (by omega))); first | omega | ((try (have i_coc := Imp.go coc (by omega))); (try (have i_coc := Imp.go coc (by omega))); (try (have i_wh := Imp.go wh (by omega))); (try (have i_gkl := Imp.go gkl (by omega))); (try (have i_hsv := Imp.go hsv (by omega))); (try (have i_flq := Imp.go flq (by omega))); omega))
      refine va_getN (D := D) (ci := 3) (v := .int (V6 49 (24 * b + (Int32.toNatClampNeg p0)))) (fs := (xfComp ad V6 (24 * b + (Int32.toNatClampNeg p0)))) (C := RX3) (T := TX3) (N := 13) hx hb hg inX3 hown hK hP (72 + (24 * b + (Int32.toNatClampNeg p0))) (xgComp il12) rfl 4 (by decide) (hnw.use 511 n511 rfl) (fun _ h9 => h9) rfl dX2_examineNeeds_12 ?_
      refine g_top (v := (V 49 (24 * b + (Int32.toNatClampNeg p0)))) (ajV6 49 (24 * b + (Int32.toNatClampNeg p0)) rfl) ?_
      have r13 : 0 ≤ ((V 49 (24 * b + (Int32.toNatClampNeg p0)))).toInt ∧ ((V 49 (24 * b + (Int32.toNatClampNeg p0)))).toInt ≤ 8 := hMV 49 (24 * b + (Int32.toNatClampNeg p0))
      refine lv_icmp_ge (tgt := 42) hx hb dX2_examineNeeds_15 (by decide) (fun c14 => ?_) (fun c14 => ?_)
      · skip
        have f15 : ((V 49 (24 * b + (Int32.toNatClampNeg p0)))).toInt ≤ y5.toInt := b_le rfl rfl c14
        exact W.vret hx hb hr (fun t ht hW => ⟨⟨(V6, L), rfl, ⟨hMV6, agV6, rfl, (show (V6 2 7).toInt ≤ (V 2 7).toInt + 8 from by first | exact om_89d974c8c1eb klp7_0.2 xlp7_0 | first | omega | ((try (have i_flq := Imp.go flq (by omega))); (try (have i_hsv := Imp.go hsv (by omega))); (try (have i_gkl := Imp.go gkl (by omega))); (try (have i_wh := Imp.go wh (by omega))); first | omega | ((try (have i_coc := Imp.go coc (by omega))); (try (have i_coc := Imp.go coc (by omega))); (try (have i_wh := Imp.go wh (by omega))); (try (have i_gkl := Imp.go gkl (by omega))); (try (have i_hsv := Imp.go hsv (by omega))); (try (have i_flq := Imp.go flq (by omega))); omega))), (by have h9 := xlp7_1; rw [show y5.toInt.toNat = gs.1 (66 + 8 * gk) from by omega] at h9; exact h9)⟩, by rw [ht]; exact hP, va_K.moved hW.alike hK, hD⟩, hS.F ht⟩) hS.2.2 dX2_examineNeeds_42
      · skip
        have f16 : y5.toInt < ((V 49 (24 * b + (Int32.toNatClampNeg p0)))).toInt := b_nle rfl rfl c14
        have kk9 := i_clamp (x := y5) rfl (by (first | exact om_eafa9039069c klp7_0.1 | omega))
        refine lv_aload_n hx hb dX2_examineNeeds_18 rfl (lv_at hl 1 rfl) ?_
        refine lv_iload_n hx hb dX2_examineNeeds_19 rfl (lv_at hl 2 rfl) ?_
        refine lv_iload_n hx hb dX2_examineNeeds_20 rfl (lv_at hl 0 rfl) ?_
        have pq17 : (V6 43 (5 * b + 2)).toInt = ((V 43 (5 * b + 2))).toInt := congrArg Int32.toInt (ajV6 43 (5 * b + 2) rfl)
        refine gA_int (gA_runV (As := [.int p0, .int y5]) (rest := []) (ci := 2) (q0 := 2) hx hb hml hown hg hP hD hK hS hA hnw hgk (x_faultOf5 l D ks H.size ad kk V6 L Z p0 y5 (b) (gs) (gk) ((Int32.toNatClampNeg y5)) (gv) hMV6 (by first | exact om_b2cf528f38f4 rg_p0.2 pk | first | omega | ((try (have i_flq := Imp.go flq (by omega))); (try (have i_hsv := Imp.go hsv (by omega))); (try (have i_gkl := Imp.go gkl (by omega))); (try (have i_wh := Imp.go wh (by omega))); first | omega | ((try (have i_coc := Imp.go coc (by omega))); (try (have i_coc := Imp.go coc (by omega))); (try (have i_wh := Imp.go wh (by omega))); (try (have i_gkl := Imp.go gkl (by omega))); (try (have i_hsv := Imp.go hsv (by omega))); (try (have i_flq := Imp.go flq (by omega))); omega))) (by first | exact om_45aa31722d3e klp7_0.1 r13.2 f16 | first | omega | ((try (have i_flq := Imp.go flq (by omega))); (try (have i_hsv := Imp.go hsv (by omega))); (try (have i_gkl := Imp.go gkl (by omega))); (try (have i_wh := Imp.go wh (by omega))); first | omega | ((try (have i_coc := Imp.go coc (by omega))); (try (have i_coc := Imp.go coc (by omega))); (try (have i_wh := Imp.go wh (by omega))); (try (have i_gkl := Imp.go gkl (by omega))); (try (have i_hsv := Imp.go hsv (by omega))); (try (have i_flq := Imp.go flq (by omega))); omega))) (show b < 2 from by first | exact om_f940a4667dd6 hb2 | first | omega | ((try (have i_flq := Imp.go flq (by omega))); (try (have i_hsv := Imp.go hsv (by omega))); (try (have i_gkl := Imp.go gkl (by omega))); (try (have i_wh := Imp.go wh (by omega))); first | omega | ((try (have i_coc := Imp.go coc (by omega))); (try (have i_coc := Imp.go coc (by omega))); (try (have i_wh := Imp.go wh (by omega))); (try (have i_gkl := Imp.go gkl (by omega))); (try (have i_hsv := Imp.go hsv (by omega))); (try (have i_flq := Imp.go flq (by omega))); omega))) (show (V6 2 6).toInt = (b : Int) from by first | exact om_adf531c77a0d cbk pq9 | first | omega | ((try (have i_flq := Imp.go flq (by omega))); (try (have i_hsv := Imp.go hsv (by omega))); (try (have i_gkl := Imp.go gkl (by omega))); (try (have i_wh := Imp.go wh (by omega))); first | omega | ((try (have i_coc := Imp.go coc (by omega))); (try (have i_coc := Imp.go coc (by omega))); (try (have i_wh := Imp.go wh (by omega))); (try (have i_gkl := Imp.go gkl (by omega))); (try (have i_hsv := Imp.go hsv (by omega))); (try (have i_flq := Imp.go flq (by omega))); omega))) (show p0.toInt = ((gk : Nat) : Int) from by first | exact om_08e0c9701055 pk | first | omega | ((try (have i_flq := Imp.go flq (by omega))); (try (have i_hsv := Imp.go hsv (by omega))); (try (have i_gkl := Imp.go gkl (by omega))); (try (have i_wh := Imp.go wh (by omega))); first | omega | ((try (have i_coc := Imp.go coc (by omega))); (try (have i_coc := Imp.go coc (by omega))); (try (have i_wh := Imp.go wh (by omega))); (try (have i_gkl := Imp.go gkl (by omega))); (try (have i_hsv := Imp.go hsv (by omega))); (try (have i_flq := Imp.go flq (by omega))); omega))) (show y5.toInt = (((Int32.toNatClampNeg y5) : Nat) : Int) from by first | exact om_dadc9969542e kk9 | first | omega | ((try (have i_flq := Imp.go flq (by omega))); (try (have i_hsv := Imp.go hsv (by omega))); (try (have i_gkl := Imp.go gkl (by omega))); (try (have i_wh := Imp.go wh (by omega))); first | omega | ((try (have i_coc := Imp.go coc (by omega))); (try (have i_coc := Imp.go coc (by omega))); (try (have i_wh := Imp.go wh (by omega))); (try (have i_gkl := Imp.go gkl (by omega))); (try (have i_hsv := Imp.go hsv (by omega))); (try (have i_flq := Imp.go flq (by omega))); omega))) (COc.ag coc (by rw [(funext (fun q => ajV6 49 q rfl) : V6 49 = V 49)] : V6 49 = V 49) (by rw [(funext (fun q => ajV6 50 q rfl) : V6 50 = V 50)] : V6 50 = V 50) (by rw [(funext (fun q => ajV6 51 q rfl) : V6 51 = V 51)] : V6 51 = V 51) (by rw [(funext (fun q => ajV6 52 q rfl) : V6 52 = V 52)] : V6 52 = V 52) (by rw [(funext (fun q => ajV6 53 q rfl) : V6 53 = V 53)] : V6 53 = V 53) (by rw [(funext (fun q => ajV6 54 q rfl) : V6 54 = V 54)] : V6 54 = V 54) (by rw [(funext (fun q => ajV6 55 q rfl) : V6 55 = V 55)] : V6 55 = V 55) (by rw [(funext (fun q => ajV6 58 q rfl) : V6 58 = V 58)] : V6 58 = V 58) (by rw [(funext (fun q => ajV6 59 q rfl) : V6 59 = V 59)] : V6 59 = V 59) (by rw [(funext (fun q => ajV6 60 q rfl) : V6 60 = V 60)] : V6 60 = V 60)) wh gkl (show (Int32.toNatClampNeg y5) < gs.1 (66 + 8 * gk) from by omega) (show (V6 43 (5 * b + 2)).toInt = (((gs.2.1 2).length : Nat) : Int) from by first | exact om_adf531c77a0d ln pq17 | first | omega | ((try (have i_flq := Imp.go flq (by omega))); (try (have i_hsv := Imp.go hsv (by omega))); (try (have i_gkl := Imp.go gkl (by omega))); (try (have i_wh := Imp.go wh (by omega))); first | omega | ((try (have i_coc := Imp.go coc (by omega))); (try (have i_coc := Imp.go coc (by omega))); (try (have i_wh := Imp.go wh (by omega))); (try (have i_gkl := Imp.go gkl (by omega))); (try (have i_hsv := Imp.go hsv (by omega))); (try (have i_flq := Imp.go flq (by omega))); omega))) (show (gs.2.1 2).length ≤ 24 from by first | exact om_6e1dcbb49536 ln2 | first | omega | ((try (have i_flq := Imp.go flq (by omega))); (try (have i_hsv := Imp.go hsv (by omega))); (try (have i_gkl := Imp.go gkl (by omega))); (try (have i_wh := Imp.go wh (by omega))); first | omega | ((try (have i_coc := Imp.go coc (by omega))); (try (have i_coc := Imp.go coc (by omega))); (try (have i_wh := Imp.go wh (by omega))); (try (have i_gkl := Imp.go gkl (by omega))); (try (have i_hsv := Imp.go hsv (by omega))); (try (have i_flq := Imp.go flq (by omega))); omega))) (svc_fo hsv (by rw [(funext (fun q => ajV6 46 q rfl) : V6 46 = V 46)] : V6 46 = V 46))) w1077 w1079 w35 w163 w1080 rfl xgChecker hdV_yX2_faultOf ⟨Nat.le_of_ble_eq_true rfl, Nat.le_of_ble_eq_true rfl⟩ rfl hl.1 rfl (Nat.le_of_ble_eq_true rfl) dX2_examineNeeds_21 ⟨Nat.le_of_ble_eq_true rfl, Nat.le_of_ble_eq_true rfl⟩) hP hD hK hS hA (fun z18 u19 H locs w20 hP hD hK hS => ?_)
        obtain ⟨rgz18, t21⟩ := w20
        have rgz18 : 0 ≤ z18.toInt ∧ z18.toInt ≤ 4 := rgz18
        have t21 : z18.toInt = ((ftP gs.1 gv (gs.2.1 2).length gk (Int32.toNatClampNeg y5) : Nat) : Int) := t21
        refine lv_istore_n (lv' := [(3, .int z18), (2, .int y5), (0, .ref (ad 2)), (1, .int p0)]) hx hb dX2_examineNeeds_24 rfl hl (by decide) rfl (fun ls hl => ?_)
        refine lv_iload_n hx hb dX2_examineNeeds_25 rfl (lv_at hl 0 rfl) ?_
        refine lv_if_eq (tgt := 36) hx hb dX2_examineNeeds_26 (by decide) (fun c22 => ?_) (fun c22 => ?_)
        · skip
          have f23 : z18.toInt = 0 := b_eq rfl (by decide) c22
          obtain ⟨z24, ez24⟩ : ∃ y : Int32, y = y5 + 1 := ⟨_, rfl⟩
          have hz24 : z24.toInt = y5.toInt + 1 := i_add ez24 rfl (by decide) (by (first | exact om_56ff1e099a1d klp7_0.1 r13.2 f16 | omega))
          refine lv_iinc (v := z24) (lv' := [(2, .int z24), (3, .int z18), (0, .ref (ad 2)), (1, .int p0)]) hx hb dX2_examineNeeds_36 hl (k := 1) rfl (by rw [ez24]; rfl) (by decide) rfl (fun ls hl => ?_)
          refine lv_goto (tgt := 2) hx hb dX2_examineNeeds_39 (by decide) ?_
          have em9 : z24.toInt.toNat = (Int32.toNatClampNeg y5) + 1 := by (first | exact om_e74b57b43c73 klp7_0.1 kk9 hz24 | omega)
          exact ihlp7 z24 V6 H locs ls (by first | exact om_7c19206264d1 klp7_0.1 r13.2 f16 hz24 | first | omega | ((try (have i_flq := Imp.go flq (by omega))); (try (have i_hsv := Imp.go hsv (by omega))); (try (have i_gkl := Imp.go gkl (by omega))); (try (have i_wh := Imp.go wh (by omega))); first | omega | ((try (have i_coc := Imp.go coc (by omega))); (try (have i_coc := Imp.go coc (by omega))); (try (have i_wh := Imp.go wh (by omega))); (try (have i_gkl := Imp.go gkl (by omega))); (try (have i_hsv := Imp.go hsv (by omega))); (try (have i_flq := Imp.go flq (by omega))); omega))) (show (V6 2 7).toInt ≤ (V 2 7).toInt + z24.toInt from by first | exact om_59b81ba22281 xlp7_0 hz24 | first | omega | ((try (have i_flq := Imp.go flq (by omega))); (try (have i_hsv := Imp.go hsv (by omega))); (try (have i_gkl := Imp.go gkl (by omega))); (try (have i_wh := Imp.go wh (by omega))); first | omega | ((try (have i_coc := Imp.go coc (by omega))); (try (have i_coc := Imp.go coc (by omega))); (try (have i_wh := Imp.go wh (by omega))); (try (have i_gkl := Imp.go gkl (by omega))); (try (have i_hsv := Imp.go hsv (by omega))); (try (have i_flq := Imp.go flq (by omega))); omega))) (by rw [em9, ndF_0 (by omega)]; exact xlp7_1) (show z24.toInt ≤ ((gs.1 (66 + 8 * gk) : Nat) : Int) from by first | exact om_bcda7a344117 h49 f16 hz24 | first | omega | ((try (have i_flq := Imp.go flq (by omega))); (try (have i_hsv := Imp.go hsv (by omega))); (try (have i_gkl := Imp.go gkl (by omega))); (try (have i_wh := Imp.go wh (by omega))); first | omega | ((try (have i_coc := Imp.go coc (by omega))); (try (have i_coc := Imp.go coc (by omega))); (try (have i_wh := Imp.go wh (by omega))); (try (have i_gkl := Imp.go gkl (by omega))); (try (have i_hsv := Imp.go hsv (by omega))); (try (have i_flq := Imp.go flq (by omega))); omega))) (by first | exact om_b0e3ceac5369 hn hz24 | first | omega | ((try (have i_flq := Imp.go flq (by omega))); (try (have i_hsv := Imp.go hsv (by omega))); (try (have i_gkl := Imp.go gkl (by omega))); (try (have i_wh := Imp.go wh (by omega))); first | omega | ((try (have i_coc := Imp.go coc (by omega))); (try (have i_coc := Imp.go coc (by omega))); (try (have i_wh := Imp.go wh (by omega))); (try (have i_gkl := Imp.go gkl (by omega))); (try (have i_hsv := Imp.go hsv (by omega))); (try (have i_flq := Imp.go flq (by omega))); omega))) (agr.tr agr.rf ajV6 (by decide) (by decide)) hMV6 hP hD hS (lv_sub hl [0, 2, 3] rfl)
        · skip
          have f25 : z18.toInt ≠ 0 := b_neq rfl (by decide) c22
          refine lv_aload_n hx hb dX2_examineNeeds_29 rfl (lv_at hl 2 rfl) ?_
          refine lv_iload_n hx hb dX2_examineNeeds_30 rfl (lv_at hl 0 rfl) ?_
          refine lv_iload_n hx hb dX2_examineNeeds_31 rfl (lv_at hl 3 rfl) ?_
          refine lv_iload_n hx hb dX2_examineNeeds_32 rfl (lv_at hl 1 rfl) ?_
          refine gA_void (gA_runV (As := [.int z18, .int p0, .int y5]) (rest := []) (ci := 2) (q0 := 2) hx hb hml hown hg hP hD hK hS hA hnw hgk (x_note5 l D ks H.size ad kk V6 L Z z18 p0 y5 ((ndF gs.1 gv (gs.2.1 2).length gk (Int32.toNatClampNeg y5) gF)) (ftP gs.1 gv (gs.2.1 2).length gk (Int32.toNatClampNeg y5)) (gk) ((Int32.toNatClampNeg y5)) (fun _ => 0) hMV6 (by first | exact om_b21fd9b9d06d klp7_0.1 r13.2 f16 | first | omega | ((try (have i_flq := Imp.go flq (by omega))); (try (have i_hsv := Imp.go hsv (by omega))); (try (have i_gkl := Imp.go gkl (by omega))); (try (have i_wh := Imp.go wh (by omega))); first | omega | ((try (have i_coc := Imp.go coc (by omega))); (try (have i_coc := Imp.go coc (by omega))); (try (have i_wh := Imp.go wh (by omega))); (try (have i_gkl := Imp.go gkl (by omega))); (try (have i_hsv := Imp.go hsv (by omega))); (try (have i_flq := Imp.go flq (by omega))); omega))) (show (V6 2 7).toInt ≤ 999999 from by first | exact om_7758acaab0c9 y1 xlp7_0 r13.2 f16 | first | omega | ((try (have i_flq := Imp.go flq (by omega))); (try (have i_hsv := Imp.go hsv (by omega))); (try (have i_gkl := Imp.go gkl (by omega))); (try (have i_wh := Imp.go wh (by omega))); first | omega | ((try (have i_coc := Imp.go coc (by omega))); (try (have i_coc := Imp.go coc (by omega))); (try (have i_wh := Imp.go wh (by omega))); (try (have i_gkl := Imp.go gkl (by omega))); (try (have i_hsv := Imp.go hsv (by omega))); (try (have i_flq := Imp.go flq (by omega))); omega))) (show z18.toInt = (((ftP gs.1 gv (gs.2.1 2).length gk (Int32.toNatClampNeg y5)) : Nat) : Int) from by first | exact om_08e0c9701055 t21 | first | omega | ((try (have i_flq := Imp.go flq (by omega))); (try (have i_hsv := Imp.go hsv (by omega))); (try (have i_gkl := Imp.go gkl (by omega))); (try (have i_wh := Imp.go wh (by omega))); first | omega | ((try (have i_coc := Imp.go coc (by omega))); (try (have i_coc := Imp.go coc (by omega))); (try (have i_wh := Imp.go wh (by omega))); (try (have i_gkl := Imp.go gkl (by omega))); (try (have i_hsv := Imp.go hsv (by omega))); (try (have i_flq := Imp.go flq (by omega))); omega))) (show p0.toInt = ((gk : Nat) : Int) from by first | exact om_08e0c9701055 pk | first | omega | ((try (have i_flq := Imp.go flq (by omega))); (try (have i_hsv := Imp.go hsv (by omega))); (try (have i_gkl := Imp.go gkl (by omega))); (try (have i_wh := Imp.go wh (by omega))); first | omega | ((try (have i_coc := Imp.go coc (by omega))); (try (have i_coc := Imp.go coc (by omega))); (try (have i_wh := Imp.go wh (by omega))); (try (have i_gkl := Imp.go gkl (by omega))); (try (have i_hsv := Imp.go hsv (by omega))); (try (have i_flq := Imp.go flq (by omega))); omega))) (show y5.toInt = (((Int32.toNatClampNeg y5) : Nat) : Int) from by first | exact om_dadc9969542e kk9 | first | omega | ((try (have i_flq := Imp.go flq (by omega))); (try (have i_hsv := Imp.go hsv (by omega))); (try (have i_gkl := Imp.go gkl (by omega))); (try (have i_wh := Imp.go wh (by omega))); first | omega | ((try (have i_coc := Imp.go coc (by omega))); (try (have i_coc := Imp.go coc (by omega))); (try (have i_wh := Imp.go wh (by omega))); (try (have i_gkl := Imp.go gkl (by omega))); (try (have i_hsv := Imp.go hsv (by omega))); (try (have i_flq := Imp.go flq (by omega))); omega))) xlp7_1 (fun h3 => absurd h3 ft_ne3) (fun h3 => absurd h3 ft_ne3)) w1096 w1098 w37 w163 w1099 rfl xgChecker hdV_yX2_note ⟨Nat.le_of_ble_eq_true rfl, Nat.le_of_ble_eq_true rfl⟩ rfl hl.1 rfl (Nat.le_of_ble_eq_true rfl) dX2_examineNeeds_33 ⟨Nat.le_of_ble_eq_true rfl, Nat.le_of_ble_eq_true rfl⟩) hP hD hK hS hA (fun u27 H locs w28 hP hD hK hS => ?_)
          obtain ⟨V31, L32⟩ := u27
          obtain ⟨hMV31, ajV31, axL32, t29, t30⟩ := w28
          have axL32 : L = L32 := Eq.symm axL32
          subst axL32
          have hP : va_P D vwCl (xw ad kk V31 L Z) H := hP
          have hD : va_D A (xw ad kk V31 L Z) := hD
          have hMV31 : rgd bX V31 := hMV31
          have ajV31 : agr [(2, 7)] [15, 16, 17] V6 V31 := ajV31
          have agV31 : agr [(2, 7)] [15, 16, 17] V V31 := agV6.tr ajV31 (by decide) (by decide)
          have t29 : (V31 2 7).toInt = (V6 2 7).toInt + 1 := t29
          have t30 : FLc V31 (adF (ndF gs.1 gv (gs.2.1 2).length gk (Int32.toNatClampNeg y5) gF) (ftP gs.1 gv (gs.2.1 2).length gk (Int32.toNatClampNeg y5)) gk (Int32.toNatClampNeg y5) (fun _ => 0)) := t30
          have r33 : 0 ≤ ((V31 2 7)).toInt ∧ ((V31 2 7)).toInt ≤ 1000000 := hMV31 2 7
          obtain ⟨z34, ez34⟩ : ∃ y : Int32, y = y5 + 1 := ⟨_, rfl⟩
          have hz34 : z34.toInt = y5.toInt + 1 := i_add ez34 rfl (by decide) (by (first | exact om_56ff1e099a1d klp7_0.1 r13.2 f16 | omega))
          refine lv_iinc (v := z34) (lv' := [(2, .int z34), (3, .int z18), (0, .ref (ad 2)), (1, .int p0)]) hx hb dX2_examineNeeds_36 hl (k := 1) rfl (by rw [ez34]; rfl) (by decide) rfl (fun ls hl => ?_)
          refine lv_goto (tgt := 2) hx hb dX2_examineNeeds_39 (by decide) ?_
          have em9 : z34.toInt.toNat = (Int32.toNatClampNeg y5) + 1 := by (first | exact om_e74b57b43c73 klp7_0.1 kk9 hz34 | omega)
          exact ihlp7 z34 V31 H locs ls (by first | exact om_7c19206264d1 klp7_0.1 r13.2 f16 hz34 | first | omega | ((try (have i_flq := Imp.go flq (by omega))); (try (have i_hsv := Imp.go hsv (by omega))); (try (have i_gkl := Imp.go gkl (by omega))); (try (have i_wh := Imp.go wh (by omega))); first | omega | ((try (have i_coc := Imp.go coc (by omega))); (try (have i_coc := Imp.go coc (by omega))); (try (have i_wh := Imp.go wh (by omega))); (try (have i_gkl := Imp.go gkl (by omega))); (try (have i_hsv := Imp.go hsv (by omega))); (try (have i_flq := Imp.go flq (by omega))); omega))) (show (V31 2 7).toInt ≤ (V 2 7).toInt + z34.toInt from by first | exact om_ec9c604ded94 xlp7_0 t29 hz34 | first | omega | ((try (have i_flq := Imp.go flq (by omega))); (try (have i_hsv := Imp.go hsv (by omega))); (try (have i_gkl := Imp.go gkl (by omega))); (try (have i_wh := Imp.go wh (by omega))); first | omega | ((try (have i_coc := Imp.go coc (by omega))); (try (have i_coc := Imp.go coc (by omega))); (try (have i_wh := Imp.go wh (by omega))); (try (have i_gkl := Imp.go gkl (by omega))); (try (have i_hsv := Imp.go hsv (by omega))); (try (have i_flq := Imp.go flq (by omega))); omega))) (by rw [em9, ndF_1 (by omega)]; exact t30) (show z34.toInt ≤ ((gs.1 (66 + 8 * gk) : Nat) : Int) from by first | exact om_bcda7a344117 h49 f16 hz34 | first | omega | ((try (have i_flq := Imp.go flq (by omega))); (try (have i_hsv := Imp.go hsv (by omega))); (try (have i_gkl := Imp.go gkl (by omega))); (try (have i_wh := Imp.go wh (by omega))); first | omega | ((try (have i_coc := Imp.go coc (by omega))); (try (have i_coc := Imp.go coc (by omega))); (try (have i_wh := Imp.go wh (by omega))); (try (have i_gkl := Imp.go gkl (by omega))); (try (have i_hsv := Imp.go hsv (by omega))); (try (have i_flq := Imp.go flq (by omega))); omega))) (by first | exact om_b0e3ceac5369 hn hz34 | first | omega | ((try (have i_flq := Imp.go flq (by omega))); (try (have i_hsv := Imp.go hsv (by omega))); (try (have i_gkl := Imp.go gkl (by omega))); (try (have i_wh := Imp.go wh (by omega))); first | omega | ((try (have i_coc := Imp.go coc (by omega))); (try (have i_coc := Imp.go coc (by omega))); (try (have i_wh := Imp.go wh (by omega))); (try (have i_gkl := Imp.go gkl (by omega))); (try (have i_hsv := Imp.go hsv (by omega))); (try (have i_flq := Imp.go flq (by omega))); omega))) (agr.tr (agr.tr agr.rf ajV6 (by decide) (by decide)) ajV31 (by decide) (by decide)) hMV31 hP hD hS (lv_sub hl [0, 2, 3] rfl)
  have r35 : Int32.toInt 0 = 0 := by decide
  exact lp7 ((8 - (Int32.toInt 0) + 1 : Int).toNat) 0 V H locs ls (by decide) (show (V 2 7).toInt ≤ (V 2 7).toInt + (Int32.toInt 0) from by first | exact om_6014ad50b290 r35 | first | omega | ((try (have i_flq := Imp.go flq (by omega))); (try (have i_hsv := Imp.go hsv (by omega))); (try (have i_gkl := Imp.go gkl (by omega))); (try (have i_wh := Imp.go wh (by omega))); first | omega | ((try (have i_coc := Imp.go coc (by omega))); (try (have i_coc := Imp.go coc (by omega))); (try (have i_wh := Imp.go wh (by omega))); (try (have i_gkl := Imp.go gkl (by omega))); (try (have i_hsv := Imp.go hsv (by omega))); (try (have i_flq := Imp.go flq (by omega))); omega))) (by rw [show (Int32.toInt 0).toNat = 0 from by decide]; exact flq) (show (Int32.toInt 0) ≤ ((gs.1 (66 + 8 * gk) : Nat) : Int) from by first | exact om_f8f531ed37ab r35 | first | omega | ((try (have i_flq := Imp.go flq (by omega))); (try (have i_hsv := Imp.go hsv (by omega))); (try (have i_gkl := Imp.go gkl (by omega))); (try (have i_wh := Imp.go wh (by omega))); first | omega | ((try (have i_coc := Imp.go coc (by omega))); (try (have i_coc := Imp.go coc (by omega))); (try (have i_wh := Imp.go wh (by omega))); (try (have i_gkl := Imp.go gkl (by omega))); (try (have i_hsv := Imp.go hsv (by omega))); (try (have i_flq := Imp.go flq (by omega))); omega))) (by first | exact om_a4cbf953e09c | first | omega | ((try (have i_flq := Imp.go flq (by omega))); (try (have i_hsv := Imp.go hsv (by omega))); (try (have i_gkl := Imp.go gkl (by omega))); (try (have i_wh := Imp.go wh (by omega))); first | omega | ((try (have i_coc := Imp.go coc (by omega))); (try (have i_coc := Imp.go coc (by omega))); (try (have i_wh := Imp.go wh (by omega))); (try (have i_gkl := Imp.go gkl (by omega))); (try (have i_hsv := Imp.go hsv (by omega))); (try (have i_flq := Imp.go flq (by omega))); omega))) agr.rf hMV hP hD hS (lv_sub hl [0, 1, 2] rfl)
