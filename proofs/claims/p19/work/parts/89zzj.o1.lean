/-! the wraps' order: by rising numbers, of one number as told -/
def srI (f : Nat → Int) : Nat → List Nat
  | 0 => []
  | n + 1 => (srI f n).filter (fun w => decide (f w ≤ f n)) ++ n :: (srI f n).filter (fun w => decide (f n < f w))
section SRs
variable {f g : Nat → Int} {v : Int}
theorem flt_y {a : Nat} {l : List Nat} (q : f a ≤ v) : (a :: l).filter (fun w => decide (f w ≤ v)) = a :: l.filter (fun w => decide (f w ≤ v)) ∧ (a :: l).filter (fun w => decide (v < f w)) = l.filter (fun w => decide (v < f w)) :=
  ⟨List.filter_cons_of_pos (decide_eq_true q), List.filter_cons_of_neg (fun h => by have h := of_decide_eq_true h; omega)⟩
theorem flt_n {a : Nat} {l : List Nat} (q : ¬ f a ≤ v) : (a :: l).filter (fun w => decide (f w ≤ v)) = l.filter (fun w => decide (f w ≤ v)) ∧ (a :: l).filter (fun w => decide (v < f w)) = a :: l.filter (fun w => decide (v < f w)) :=
  ⟨List.filter_cons_of_neg (fun h => q (of_decide_eq_true h)), List.filter_cons_of_pos (decide_eq_true (by omega))⟩
theorem flt_len : ∀ l : List Nat, (l.filter (fun w => decide (f w ≤ v))).length + (l.filter (fun w => decide (v < f w))).length = l.length
  | [] => rfl
  | a :: l => by
    have ih := flt_len l
    by_cases q : f a ≤ v
    · rw [(flt_y q).1, (flt_y q).2, List.length_cons, List.length_cons]
      omega
    · rw [(flt_n q).1, (flt_n q).2, List.length_cons, List.length_cons]
      omega
theorem srI_lt : ∀ (n : Nat) {w : Nat}, w ∈ srI f n → w < n
  | 0, w, h => absurd h List.not_mem_nil
  | n + 1, w, h => by
    have h : w ∈ (srI f n).filter (fun w => decide (f w ≤ f n)) ++ n :: (srI f n).filter (fun w => decide (f n < f w)) := h
    rw [List.mem_append, List.mem_cons] at h
    rcases h with h | h | h
    · have := srI_lt n (List.mem_filter.mp h).1
      omega
    · omega
    · have := srI_lt n (List.mem_filter.mp h).1
      omega
theorem srI_len : ∀ n, (srI f n).length = n
  | 0 => rfl
  | n + 1 => by
    have ih := srI_len n
    have e := flt_len (f := f) (v := f n) (srI f n)
    show ((srI f n).filter (fun w => decide (f w ≤ f n)) ++ n :: (srI f n).filter (fun w => decide (f n < f w))).length = n + 1
    rw [List.length_append, List.length_cons]
    omega
theorem srI_so : ∀ n, (srI f n).Pairwise (fun a b => f a ≤ f b)
  | 0 => List.Pairwise.nil
  | n + 1 => by
    have ih := srI_so n
    show ((srI f n).filter (fun w => decide (f w ≤ f n)) ++ n :: (srI f n).filter (fun w => decide (f n < f w))).Pairwise (fun a b => f a ≤ f b)
    rw [List.pairwise_append, List.pairwise_cons]
    refine ⟨ih.filter _, ⟨fun a ha => ?_, ih.filter _⟩, fun a ha b hb => ?_⟩
    · have := of_decide_eq_true (List.mem_filter.mp ha).2
      omega
    · have h1 := of_decide_eq_true (List.mem_filter.mp ha).2
      rw [List.mem_cons] at hb
      rcases hb with hb | hb
      · rw [hb]
        exact h1
      · have h2 := of_decide_eq_true (List.mem_filter.mp hb).2
        omega
theorem flt_pre : ∀ l : List Nat, l.Pairwise (fun a b => f a ≤ f b) → l = l.filter (fun w => decide (f w ≤ v)) ++ l.filter (fun w => decide (v < f w))
  | [], _ => rfl
  | a :: l, h => by
    rw [List.pairwise_cons] at h
    by_cases q : f a ≤ v
    · rw [(flt_y q).1, (flt_y q).2, List.cons_append, ← flt_pre l h.2]
    · rw [(flt_n q).1, (flt_n q).2, List.filter_eq_nil_iff.mpr (fun b hb h9 => q (by have h1 := h.1 b hb; have h2 := of_decide_eq_true h9; omega)), List.nil_append, List.filter_eq_self.mpr (fun b hb => decide_eq_true (by have h1 := h.1 b hb; omega))]
theorem srI_ext : ∀ n, (∀ w, w < n → g w = f w) → srI g n = srI f n
  | 0, _ => rfl
  | n + 1, h => by
    have ih := srI_ext n (fun w hw => h w (by omega))
    show (srI g n).filter (fun w => decide (g w ≤ g n)) ++ n :: (srI g n).filter (fun w => decide (g n < g w)) = (srI f n).filter (fun w => decide (f w ≤ f n)) ++ n :: (srI f n).filter (fun w => decide (f n < f w))
    rw [ih, h n (by omega)]
    rw [List.filter_congr (p := fun w => decide (g w ≤ f n)) (q := fun w => decide (f w ≤ f n)) (fun w hw => by rw [h w (by have := srI_lt n hw; omega)])]
    rw [List.filter_congr (p := fun w => decide (f n < g w)) (q := fun w => decide (f n < f w)) (fun w hw => by rw [h w (by have := srI_lt n hw; omega)])]
/-- where the next one goes -/
def srK (f : Nat → Int) (n : Nat) : Nat := ((srI f n).filter (fun w => decide (f w ≤ f n))).length
theorem srK_le {n : Nat} : srK f n ≤ n := by
  have e := flt_len (f := f) (v := f n) (srI f n)
  rw [srI_len] at e
  unfold srK
  omega
theorem srK_lo {n i : Nat} (hi : i < srK f n) : f ((srI f n).getD i 0) ≤ f n ∧ (srI f (n + 1)).getD i 0 = (srI f n).getD i 0 := by
  have hi2 : i < ((srI f n).filter (fun w => decide (f w ≤ f n))).length := hi
  have e := flt_pre (f := f) (v := f n) (srI f n) (srI_so n)
  have e1 : (srI f n).getD i 0 = ((srI f n).filter (fun w => decide (f w ≤ f n)))[i] := by
    rw [List.getD_eq_getElem?_getD]
    conv => lhs; rw [e]
    rw [List.getElem?_append_left hi2, List.getElem?_eq_getElem hi2]
    rfl
  refine ⟨?_, ?_⟩
  · rw [e1]
    exact of_decide_eq_true (List.mem_filter.mp (List.getElem_mem hi2)).2
  · rw [e1]
    show ((srI f n).filter (fun w => decide (f w ≤ f n)) ++ n :: (srI f n).filter (fun w => decide (f n < f w))).getD i 0 = _
    rw [List.getD_eq_getElem?_getD, List.getElem?_append_left hi2, List.getElem?_eq_getElem hi2]
    rfl
theorem srK_at {n : Nat} : (srI f (n + 1)).getD (srK f n) 0 = n := by
  show ((srI f n).filter (fun w => decide (f w ≤ f n)) ++ n :: (srI f n).filter (fun w => decide (f n < f w))).getD ((srI f n).filter (fun w => decide (f w ≤ f n))).length 0 = n
  rw [List.getD_eq_getElem?_getD, List.getElem?_append_right (Nat.le_refl _), Nat.sub_self]
  rfl
theorem srK_hi {n i : Nat} (hk : srK f n ≤ i) (hi : i < n) : f n < f ((srI f n).getD i 0) ∧ (srI f (n + 1)).getD (i + 1) 0 = (srI f n).getD i 0 := by
  have hk2 : ((srI f n).filter (fun w => decide (f w ≤ f n))).length ≤ i := hk
  have e := flt_pre (f := f) (v := f n) (srI f n) (srI_so n)
  have le := flt_len (f := f) (v := f n) (srI f n)
  rw [srI_len] at le
  have hj : i - ((srI f n).filter (fun w => decide (f w ≤ f n))).length < ((srI f n).filter (fun w => decide (f n < f w))).length := by omega
  have e1 : (srI f n).getD i 0 = ((srI f n).filter (fun w => decide (f n < f w)))[i - ((srI f n).filter (fun w => decide (f w ≤ f n))).length] := by
    rw [List.getD_eq_getElem?_getD]
    conv => lhs; rw [e]
    rw [List.getElem?_append_right hk2, List.getElem?_eq_getElem hj]
    rfl
  refine ⟨?_, ?_⟩
  · rw [e1]
    exact of_decide_eq_true (List.mem_filter.mp (List.getElem_mem hj)).2
  · rw [e1]
    show ((srI f n).filter (fun w => decide (f w ≤ f n)) ++ n :: (srI f n).filter (fun w => decide (f n < f w))).getD (i + 1) 0 = _
    rw [List.getD_eq_getElem?_getD, List.getElem?_append_right (by omega), show i + 1 - ((srI f n).filter (fun w => decide (f w ≤ f n))).length = (i - ((srI f n).filter (fun w => decide (f w ≤ f n))).length) + 1 from by omega, List.getElem?_cons_succ, List.getElem?_eq_getElem hj]
    rfl
end SRs
/-- the class's row of them -/
def WO (V : Vf) (b : Nat) : Prop := ∀ n : Nat, (V 41 b).toInt = (n : Int) → ∀ i, i < n → (V 47 (12 * b + i)).toInt = (((srI (fun w => (V 64 (12 * b + w)).toInt) n).getD i 0 : Nat) : Int)
theorem WO.z {V : Vf} {b : Nat} (h : (V 41 b).toInt = 0) : WO V b := fun n hn i hi => by
  exfalso
  omega
theorem WO.mv {V W : Vf} {b : Nat} (h : WO V b) (e41 : W 41 b = V 41 b) (e47 : ∀ k, W 47 k = V 47 k) (e64 : ∀ k, W 64 k = V 64 k) : WO W b := fun n hn i hi => by
  rw [e41] at hn
  rw [e47, srI_ext (f := fun w => (V 64 (12 * b + w)).toInt) n (fun w _ => congrArg Int32.toInt (e64 _))]
  exact h n hn i hi
theorem WO.add {V W : Vf} {b n at9 : Nat} {p : Int} (h : WO V b) (hn : (V 41 b).toInt = (n : Int)) (hat : at9 ≤ n) (c41 : (W 41 b).toInt = (n : Int) + 1) (c64 : ∀ w, w < n → W 64 (12 * b + w) = V 64 (12 * b + w)) (n64 : (W 64 (12 * b + n)).toInt = p) (o1 : ∀ i, i < at9 → W 47 (12 * b + i) = V 47 (12 * b + i)) (o2 : (W 47 (12 * b + at9)).toInt = (n : Int)) (o3 : ∀ i, at9 < i → i ≤ n → W 47 (12 * b + i) = V 47 (12 * b + (i - 1))) (g : ∀ i, at9 ≤ i → i < n → p < (V 64 (12 * b + (V 47 (12 * b + i)).toInt.toNat)).toInt) (e : ∀ i, i + 1 = at9 → (V 64 (12 * b + (V 47 (12 * b + i)).toInt.toNat)).toInt ≤ p) : WO W b := by
  have ex : srI (fun w => (W 64 (12 * b + w)).toInt) n = srI (fun w => (V 64 (12 * b + w)).toInt) n := srI_ext n (fun w hw => congrArg Int32.toInt (c64 w hw))
  have hl := srI_len (f := fun w => (W 64 (12 * b + w)).toInt) n
  have ent : ∀ i, i < n → (V 47 (12 * b + i)).toInt = (((srI (fun w => (W 64 (12 * b + w)).toInt) n).getD i 0 : Nat) : Int) := fun i hi => by
    rw [ex]
    exact h n hn i hi
  have num : ∀ i, i < n → (V 64 (12 * b + (V 47 (12 * b + i)).toInt.toNat)).toInt = (W 64 (12 * b + (srI (fun w => (W 64 (12 * b + w)).toInt) n).getD i 0)).toInt := fun i hi => by
    have e1 := ent i hi
    rw [show (V 47 (12 * b + i)).toInt.toNat = (srI (fun w => (W 64 (12 * b + w)).toInt) n).getD i 0 from by omega]
    have lt : (srI (fun w => (W 64 (12 * b + w)).toInt) n).getD i 0 < n := by
      rw [gd_el (l := srI (fun w => (W 64 (12 * b + w)).toInt) n) (show i < _ by rw [hl]; exact hi)]
      exact srI_lt n (List.getElem_mem _)
    rw [c64 _ lt]
  have kle := srK_le (f := fun w => (W 64 (12 * b + w)).toInt) (n := n)
  have fn : (fun w => (W 64 (12 * b + w)).toInt) n = p := n64
  have ek : at9 = srK (fun w => (W 64 (12 * b + w)).toInt) n := by
    rcases Nat.lt_trichotomy at9 (srK (fun w => (W 64 (12 * b + w)).toInt) n) with q | q | q
    · exfalso
      have z := (srK_lo q).1
      have z : (W 64 (12 * b + (srI (fun w => (W 64 (12 * b + w)).toInt) n).getD at9 0)).toInt ≤ (W 64 (12 * b + n)).toInt := z
      have y := g at9 (Nat.le_refl _) (by omega)
      rw [num at9 (by omega)] at y
      have fn : (W 64 (12 * b + n)).toInt = p := n64
      rw [fn] at z
      have z : (W 64 (12 * b + (srI (fun w => (W 64 (12 * b + w)).toInt) n).getD at9 0)).toInt ≤ p := z
      omega
    · exact q
    · exfalso
      have z := (srK_hi (f := fun w => (W 64 (12 * b + w)).toInt) (n := n) (i := at9 - 1) (by omega) (by omega)).1
      have y := e (at9 - 1) (by omega)
      rw [num (at9 - 1) (by omega)] at y
      have fn : (W 64 (12 * b + n)).toInt = p := n64
      have z : (W 64 (12 * b + n)).toInt < (W 64 (12 * b + (srI (fun w => (W 64 (12 * b + w)).toInt) n).getD (at9 - 1) 0)).toInt := z
      rw [fn] at z
      have z : p < (W 64 (12 * b + (srI (fun w => (W 64 (12 * b + w)).toInt) n).getD (at9 - 1) 0)).toInt := z
      omega
  intro n2 hn2 i hi
  obtain rfl : n2 = n + 1 := by omega
  rcases Nat.lt_trichotomy i at9 with q | q | q
  · rw [o1 i q, (srK_lo (show i < srK (fun w => (W 64 (12 * b + w)).toInt) n from by omega)).2]
    exact ent i (by omega)
  · rw [q, o2, ek, srK_at]
  · rw [o3 i q (by omega)]
    have z := (srK_hi (f := fun w => (W 64 (12 * b + w)).toInt) (n := n) (i := i - 1) (by omega) (by omega)).2
    rw [show i - 1 + 1 = i from by omega] at z
    rw [z]
    exact ent (i - 1) (by omega)
/-- by the numbers of the machine: the same order -/
theorem srI_bW {f : Nat → Nat} : ∀ n, (∀ w, w < n → f w < 100) → srI (fun w => ((f w : Nat) : Int)) n = (List.range 100).flatMap (fun u => (List.range n).filter (fun w => f w == u))
  | 0, _ => by
    show [] = (List.range 100).flatMap (fun u => ([] : List Nat).filter (fun w => f w == u))
    rw [show (fun u => ([] : List Nat).filter (fun w => f w == u)) = (fun _ => []) from rfl]
    exact (List.flatMap_eq_nil_iff.mpr (fun _ _ => rfl)).symm
  | n + 1, h => by
    have ih := srI_bW n (fun w hw => h w (by omega))
    have hv := h n (by omega)
    have er : List.range 100 = List.range (f n) ++ (f n) :: (List.range (99 - f n)).map (fun x => f n + 1 + x) := by
      rw [show 100 = f n + (99 - f n + 1) from by omega, List.range_add, show (fun x => f n + x) = (f n + ·) from rfl, List.range_succ_eq_map, List.map_cons, List.map_map]
      congr 2
      apply List.map_congr_left
      intro x _
      show f n + (x + 1) = f n + 1 + x
      omega
    have fl : ∀ u, (List.range (n + 1)).filter (fun w => f w == u) = (List.range n).filter (fun w => f w == u) ++ (if f n = u then [n] else []) := fun u => by
      rw [List.range_succ, List.filter_append]
      congr 1
      by_cases q : f n = u
      · rw [if_pos q, List.filter_cons_of_pos (p := fun w => f w == u) (beq_iff_eq.mpr q)]
        rfl
      · rw [if_neg q, List.filter_cons_of_neg (p := fun w => f w == u) (fun h => q (beq_iff_eq.mp h))]
        rfl
    have mem : ∀ u w, w ∈ (List.range n).filter (fun w => f w == u) → f w = u := fun u w hw => beq_iff_eq.mp (List.mem_filter.mp hw).2
    have lo : ∀ l : List Nat, (∀ u, u ∈ l → u < f n) → l.flatMap (fun u => (List.range (n + 1)).filter (fun w => f w == u)) = l.flatMap (fun u => (List.range n).filter (fun w => f w == u)) := fun l hl => by
      induction l with
      | nil => rfl
      | cons a l ihl =>
        rw [List.flatMap_cons, List.flatMap_cons, ihl (fun u hu => hl u (List.mem_cons_of_mem _ hu)), fl a, if_neg (by have := hl a List.mem_cons_self; omega), List.append_nil]
    have hi : ∀ l : List Nat, (∀ u, u ∈ l → f n < u) → l.flatMap (fun u => (List.range (n + 1)).filter (fun w => f w == u)) = l.flatMap (fun u => (List.range n).filter (fun w => f w == u)) := fun l hl => by
      induction l with
      | nil => rfl
      | cons a l ihl =>
        rw [List.flatMap_cons, List.flatMap_cons, ihl (fun u hu => hl u (List.mem_cons_of_mem _ hu)), fl a, if_neg (by have := hl a List.mem_cons_self; omega), List.append_nil]
    have fA : ∀ l : List Nat, (∀ u, u ∈ l → u ≤ f n) → (l.flatMap (fun u => (List.range n).filter (fun w => f w == u))).filter (fun w => decide (((f w : Nat) : Int) ≤ ((f n : Nat) : Int))) = l.flatMap (fun u => (List.range n).filter (fun w => f w == u)) ∧ (l.flatMap (fun u => (List.range n).filter (fun w => f w == u))).filter (fun w => decide (((f n : Nat) : Int) < ((f w : Nat) : Int))) = [] := fun l hl =>
      ⟨List.filter_eq_self.mpr (fun w hw => by
        obtain ⟨u, hu, hwu⟩ := List.mem_flatMap.mp hw
        have := mem u w hwu
        have := hl u hu
        exact decide_eq_true (by omega)), List.filter_eq_nil_iff.mpr (fun w hw h9 => by
        obtain ⟨u, hu, hwu⟩ := List.mem_flatMap.mp hw
        have := mem u w hwu
        have := hl u hu
        have := of_decide_eq_true h9
        omega)⟩
    have fC : ∀ l : List Nat, (∀ u, u ∈ l → f n < u) → (l.flatMap (fun u => (List.range n).filter (fun w => f w == u))).filter (fun w => decide (((f w : Nat) : Int) ≤ ((f n : Nat) : Int))) = [] ∧ (l.flatMap (fun u => (List.range n).filter (fun w => f w == u))).filter (fun w => decide (((f n : Nat) : Int) < ((f w : Nat) : Int))) = l.flatMap (fun u => (List.range n).filter (fun w => f w == u)) := fun l hl =>
      ⟨List.filter_eq_nil_iff.mpr (fun w hw h9 => by
        obtain ⟨u, hu, hwu⟩ := List.mem_flatMap.mp hw
        have := mem u w hwu
        have := hl u hu
        have := of_decide_eq_true h9
        omega), List.filter_eq_self.mpr (fun w hw => by
        obtain ⟨u, hu, hwu⟩ := List.mem_flatMap.mp hw
        have := mem u w hwu
        have := hl u hu
        exact decide_eq_true (by omega))⟩
    have hA : ∀ u, u ∈ List.range (f n) ++ [f n] → u ≤ f n := fun u hu => by
      rw [List.mem_append, List.mem_range, List.mem_singleton] at hu
      omega
    have hC : ∀ u, u ∈ (List.range (99 - f n)).map (fun x => f n + 1 + x) → f n < u := fun u hu => by
      obtain ⟨x, _, hx⟩ := List.mem_map.mp hu
      omega
    have spl : (List.range 100).flatMap (fun u => (List.range n).filter (fun w => f w == u)) = (List.range (f n) ++ [f n]).flatMap (fun u => (List.range n).filter (fun w => f w == u)) ++ ((List.range (99 - f n)).map (fun x => f n + 1 + x)).flatMap (fun u => (List.range n).filter (fun w => f w == u)) := by
      rw [er, ← List.flatMap_append, List.append_assoc]
      rfl
    show (srI (fun w => ((f w : Nat) : Int)) n).filter (fun w => decide (((f w : Nat) : Int) ≤ ((f n : Nat) : Int))) ++ n :: (srI (fun w => ((f w : Nat) : Int)) n).filter (fun w => decide (((f n : Nat) : Int) < ((f w : Nat) : Int))) = _
    rw [ih, spl, List.filter_append, List.filter_append, (fA _ hA).1, (fA _ hA).2, (fC _ hC).1, (fC _ hC).2, List.append_nil, List.nil_append, er]
    have r1 : (List.range (f n) ++ f n :: (List.range (99 - f n)).map (fun x => f n + 1 + x)).flatMap (fun u => (List.range (n + 1)).filter (fun w => f w == u)) = (List.range (f n)).flatMap (fun u => (List.range n).filter (fun w => f w == u)) ++ (((List.range n).filter (fun w => f w == f n) ++ [n]) ++ ((List.range (99 - f n)).map (fun x => f n + 1 + x)).flatMap (fun u => (List.range n).filter (fun w => f w == u))) := by
      rw [List.flatMap_append, List.flatMap_cons, lo _ (fun u hu => List.mem_range.mp hu), hi _ hC, fl (f n), if_pos rfl]
    have r2 : (List.range (f n) ++ [f n]).flatMap (fun u => (List.range n).filter (fun w => f w == u)) = (List.range (f n)).flatMap (fun u => (List.range n).filter (fun w => f w == u)) ++ (List.range n).filter (fun w => f w == f n) := by
      rw [List.flatMap_append, List.flatMap_cons, List.flatMap_nil, List.append_nil]
    rw [r1, r2, List.append_assoc, List.append_assoc]
    rfl


abbrev r_x_addWrap9 : Room := { frames := 0, cells := 0, slots := 0, locals := 0 }
abbrev q_x_addWrap9 (D : va_G) (ks : KS) (ad : Nat → Nat) (kk : Nat → ClassId) (V : Vf) (L : Lf) (Z : XZ) (p0 : Int32) (p1 : Int32) (p2 : Int32) (p3 : Int32) (p4 : Int32) (b : Nat) (A : Nat → Prop) : Array Value → State → Outcome → State → Prop := va_Qv (fun (u : Vf × Lf) => rgd bX u.1 ∧ agr [] [41, 47, 62, 63, 64, 65, 66] V u.1 ∧ u.2 = L ∧ frX (xR b) V u.1 ∧ (Imp ((V 41 b).toInt < 12) ((u.1 41 b).toInt = (V 41 b).toInt + 1)) ∧ (Imp ((V 41 b).toInt < 12) (∀ a : Nat, (a : Int) ≤ (V 41 b).toInt → (u.1 47 (12 * b + a)).toInt ≤ (V 41 b).toInt)) ∧ (Imp ((V 41 b).toInt < 12) (∀ q : Nat, ¬ q = 12 * b + Int32.toNatClampNeg (V 41 b) → u.1 66 q = V 66 q)) ∧ (Imp ((V 41 b).toInt < 12) (u.1 66 (12 * b + Int32.toNatClampNeg (V 41 b)) = p4)) ∧ (Imp ((V 41 b).toInt < 12) (WO u.1 b))) (fun u t => gq D A (xw ad kk u.1 u.2 Z) (xty kk Z) t) A
set_option maxHeartbeats 4000000 in
set_option maxRecDepth 100000 in
theorem x_addWrap9 (l : Launch) (D : va_G) (ks : KS) (sz : Nat) (ad : Nat → Nat) (kk : Nat → ClassId) (V : Vf) (L : Lf) (Z : XZ) (p0 : Int32) (p1 : Int32) (p2 : Int32) (p3 : Int32) (p4 : Int32) (b : Nat) (hMV : rgd bX V) (rg_p4 : 0 ≤ p4.toInt ∧ p4.toInt ≤ 8200) (hb2 : b < 2) (tw : (∀ a : Nat, (a : Int) < (V 41 b).toInt → (V 47 (12 * b + a)).toInt < (V 41 b).toInt)) (woq : WO V b)  : Met l yX0_addWrap (Cond.code yX0_addWrap cX0_addWrap 8 none :: GW) r_x_addWrap9 (va_Pc [.ref (ad (38 + b)), .int p0, .int p1, .int p2, .int p3, .int p4] (gp D ks (xw ad kk V L Z) (xty kk Z) sz)) (q_x_addWrap9 D ks ad kk V L Z p0 p1 p2 p3 p4 b (va_A (xw ad kk V L Z) sz)) 0 0 (va_A (xw ad kk V L Z) sz) := by
  refine g_met (q_x_addWrap9 D ks ad kk V L Z p0 p1 p2 p3 p4 b) (by decide) (Nat.le_of_ble_eq_true rfl) ?_
  intro p e s m below meth c A ls H locs hx hb hr hml hown hg hlocks hin hnw hgk hP hK hD hS hA hl
  have hown : s.vm.findClass RX0 = some m.cls := hown
  have hl : lv_has ls 8 [(0, .ref (ad (38 + b))), (1, .int p0), (2, .int p1), (3, .int p2), (4, .int p3), (5, .int p4)] := hl
  have hP : va_P D vwCl (xw ad kk V L Z) H := hP
  have hD : va_D A (xw ad kk V L Z) := hD
  have hK : va_K D vwCl (xty kk Z) s := hK
  have agV : agr [] [41, 47, 62, 63, 64, 65, 66] V V := agr.rf
  have fwV : frX (xR b) V V := frX.rf
  refine lv_aload_n hx hb dX0_addWrap_0 rfl (lv_at hl 0 rfl) ?_
  refine va_get (D := D) (ci := 0) (v := .int (V 41 b)) (fs := (xfBook ad V b)) (C := RX0) (T := TX0) (N := 13) hx hb hg inX0 hown hK hP (38 + b) (xgBook hb2) rfl 11 (by decide) (hg _ w625) (fun _ h9 => h9) rfl dX0_addWrap_1 ?_
  have r1 : 0 ≤ ((V 41 b)).toInt ∧ ((V 41 b)).toInt ≤ 12 := hMV 41 b
  refine lv_bipush (v := 12) hx hb dX0_addWrap_4 (by decide) ?_
  refine lv_icmp_lt (tgt := 10) hx hb dX0_addWrap_6 (by decide) (fun c2 => ?_) (fun c2 => ?_)
  · skip
    have f3 : ((V 41 b)).toInt < 12 := b_lt rfl (by decide) c2
    refine lv_aload_n hx hb dX0_addWrap_10 rfl (lv_at hl 0 rfl) ?_
    refine va_get (D := D) (ci := 0) (v := .ref (ad (66 + b))) (fs := (xfBook ad V b)) (C := RX0) (T := TX0) (N := 13) hx hb hg inX0 hown hK hP (38 + b) (xgBook hb2) rfl 8 (by decide) (hg _ w619) (fun _ h9 => h9) rfl dX0_addWrap_11 ?_
    refine lv_aload_n hx hb dX0_addWrap_14 rfl (lv_at hl 0 rfl) ?_
    refine va_get (D := D) (ci := 0) (v := .int (V 41 b)) (fs := (xfBook ad V b)) (C := RX0) (T := TX0) (N := 13) hx hb hg inX0 hown hK hP (38 + b) (xgBook hb2) rfl 11 (by decide) (hg _ w625) (fun _ h9 => h9) rfl dX0_addWrap_15 ?_
    have il4 : b < 2 := by first | exact om_f940a4667dd6 hb2 | first | omega | ((try (have i_woq := Imp.go woq (by omega))); (try (have i_tw := Imp.go tw (by omega))); (try (have i_tw := Imp.go tw (by omega))); (try (have i_woq := Imp.go woq (by omega))); omega)
    refine va_aldq (D := D) (i := (V 41 b)) hx hb hK hP (66 + b) (59 + b) (xgwrapsA il4) (xtwrapsA il4) (i_in (a := ((V 41 b)).toInt) rfl (by first | exact om_d4ab6ce6d2bb r1.1 f3 | first | omega | ((try (have i_woq := Imp.go woq (by omega))); (try (have i_tw := Imp.go tw (by omega))); (try (have i_tw := Imp.go tw (by omega))); (try (have i_woq := Imp.go woq (by omega))); omega))) dX0_addWrap_18 ?_
    have kc5 := i_clamp (x := (V 41 b)) rfl (by first | exact om_eafa9039069c r1.1 | first | omega | ((try (have i_woq := Imp.go woq (by omega))); (try (have i_tw := Imp.go tw (by omega))); (try (have i_tw := Imp.go tw (by omega))); (try (have i_woq := Imp.go woq (by omega))); omega))
    refine g_topv (v := .ref (ad (312 + (12 * b + (Int32.toNatClampNeg (V 41 b)))))) (congrArg va_rf (if_pos (by first | omega | ((try (have i_woq := Imp.go woq (by omega))); (try (have i_tw := Imp.go tw (by omega))); (try (have i_tw := Imp.go tw (by omega))); (try (have i_woq := Imp.go woq (by omega))); omega)))) ?_
    have il6 : (12 * b + (Int32.toNatClampNeg (V 41 b))) < 24 := by first | exact om_29112faea521 hb2 f3 kc5 | first | omega | ((try (have i_woq := Imp.go woq (by omega))); (try (have i_tw := Imp.go tw (by omega))); (try (have i_tw := Imp.go tw (by omega))); (try (have i_woq := Imp.go woq (by omega))); omega)
    refine lv_astore (lv' := [(6, .ref (ad (312 + (12 * b + (Int32.toNatClampNeg (V 41 b)))))), (0, .ref (ad (38 + b))), (1, .int p0), (2, .int p1), (3, .int p2), (4, .int p3), (5, .int p4)]) hx hb dX0_addWrap_19 hl (by decide) rfl (fun ls hl => ?_)
    refine lv_aload hx hb dX0_addWrap_21 (lv_at hl 0 rfl) ?_
    refine lv_iload_n hx hb dX0_addWrap_23 rfl (lv_at hl 2 rfl) ?_
    refine va_putN (D := D) (ci := 10) (v := .int p0) (ty := tyX10 0) (fs := (xfWrap V (12 * b + (Int32.toNatClampNeg (V 41 b))))) (C := RX10) (T := TX10) (N := 5) hx hb hg inX10 tyX10 tyX10_ok nmX10 hown hK hP hD hS (312 + (12 * b + (Int32.toNatClampNeg (V 41 b)))) (xgWrap il6) rfl 0 (by decide) (hnw.use 575 n575 rfl) (fun _ h9 => h9) rfl (tyX10_ok 0 (by decide)) rfl rfl (Nat.le_of_ble_eq_true rfl) dX0_addWrap_24 (fun H locs hP hD hS => ?_)
    obtain ⟨V7, hV7⟩ : ∃ z, z = up2 V 62 (12 * b + (Int32.toNatClampNeg (V 41 b))) p0 := ⟨_, rfl⟩
    have ew8 : (xw ad kk V L Z).set (312 + (12 * b + (Int32.toNatClampNeg (V 41 b)))) ((ad (312 + (12 * b + (Int32.toNatClampNeg (V 41 b))))), .inr (10, (xfWrap V (12 * b + (Int32.toNatClampNeg (V 41 b)))).set 0 (.int p0))) = xw ad kk V7 L Z := by rw [hV7]; exact xpWrap_type il6
    have hP : va_P D vwCl (xw ad kk V7 L Z) H := by rw [← ew8]; exact hP
    have hD : va_D A (xw ad kk V7 L Z) := by rw [← ew8]; exact hD
    have hMV7 : rgd bX V7 := hMV.put hV7 (i_full _)
    have agV7 : agr [] [41, 47, 62, 63, 64, 65, 66] V V7 := agV.up hV7 rfl
    have fwV7 : frX (xR b) V V7 := frX.up fwV hV7 (Or.inr ⟨(by show 12 * b ≤ (12 * b + (Int32.toNatClampNeg (V 41 b))); first | exact om_bc4eeef16aa3 | first | omega | ((try (have i_woq := Imp.go woq (by omega))); (try (have i_tw := Imp.go tw (by omega))); (try (have i_tw := Imp.go tw (by omega))); (try (have i_woq := Imp.go woq (by omega))); omega)), (by show (12 * b + (Int32.toNatClampNeg (V 41 b))) < 12 * b + 12; first | exact om_5a4487e59699 f3 kc5 | first | omega | ((try (have i_woq := Imp.go woq (by omega))); (try (have i_tw := Imp.go tw (by omega))); (try (have i_tw := Imp.go tw (by omega))); (try (have i_woq := Imp.go woq (by omega))); omega))⟩)
    refine lv_aload hx hb dX0_addWrap_27 (lv_at hl 0 rfl) ?_
    refine lv_iload_n hx hb dX0_addWrap_29 rfl (lv_at hl 3 rfl) ?_
    refine va_putN (D := D) (ci := 10) (v := .int p1) (ty := tyX10 1) (fs := (xfWrap V7 (12 * b + (Int32.toNatClampNeg (V 41 b))))) (C := RX10) (T := TX10) (N := 5) hx hb hg inX10 tyX10 tyX10_ok nmX10 hown hK hP hD hS (312 + (12 * b + (Int32.toNatClampNeg (V 41 b)))) (xgWrap il6) rfl 1 (by decide) (hnw.use 576 n576 rfl) (fun _ h9 => h9) rfl (tyX10_ok 1 (by decide)) rfl rfl (Nat.le_of_ble_eq_true rfl) dX0_addWrap_30 (fun H locs hP hD hS => ?_)
    obtain ⟨V9, hV9⟩ : ∃ z, z = up2 V7 63 (12 * b + (Int32.toNatClampNeg (V 41 b))) p1 := ⟨_, rfl⟩
    have ew10 : (xw ad kk V7 L Z).set (312 + (12 * b + (Int32.toNatClampNeg (V 41 b)))) ((ad (312 + (12 * b + (Int32.toNatClampNeg (V 41 b))))), .inr (10, (xfWrap V7 (12 * b + (Int32.toNatClampNeg (V 41 b)))).set 1 (.int p1))) = xw ad kk V9 L Z := by rw [hV9]; exact xpWrap_method il6
    have hP : va_P D vwCl (xw ad kk V9 L Z) H := by rw [← ew10]; exact hP
    have hD : va_D A (xw ad kk V9 L Z) := by rw [← ew10]; exact hD
    have hMV9 : rgd bX V9 := hMV7.put hV9 (i_full _)
    have agV9 : agr [] [41, 47, 62, 63, 64, 65, 66] V V9 := agV7.up hV9 rfl
    have fwV9 : frX (xR b) V V9 := frX.up fwV7 hV9 (Or.inr ⟨(by show 12 * b ≤ (12 * b + (Int32.toNatClampNeg (V 41 b))); first | exact om_bc4eeef16aa3 | first | omega | ((try (have i_woq := Imp.go woq (by omega))); (try (have i_tw := Imp.go tw (by omega))); (try (have i_tw := Imp.go tw (by omega))); (try (have i_woq := Imp.go woq (by omega))); omega)), (by show (12 * b + (Int32.toNatClampNeg (V 41 b))) < 12 * b + 12; first | exact om_5a4487e59699 f3 kc5 | first | omega | ((try (have i_woq := Imp.go woq (by omega))); (try (have i_tw := Imp.go tw (by omega))); (try (have i_tw := Imp.go tw (by omega))); (try (have i_woq := Imp.go woq (by omega))); omega))⟩)
    refine lv_aload hx hb dX0_addWrap_33 (lv_at hl 0 rfl) ?_
    refine lv_iload_n hx hb dX0_addWrap_35 rfl (lv_at hl 4 rfl) ?_
    refine va_putN (D := D) (ci := 10) (v := .int p2) (ty := tyX10 2) (fs := (xfWrap V9 (12 * b + (Int32.toNatClampNeg (V 41 b))))) (C := RX10) (T := TX10) (N := 5) hx hb hg inX10 tyX10 tyX10_ok nmX10 hown hK hP hD hS (312 + (12 * b + (Int32.toNatClampNeg (V 41 b)))) (xgWrap il6) rfl 2 (by decide) (hnw.use 577 n577 rfl) (fun _ h9 => h9) rfl (tyX10_ok 2 (by decide)) rfl rfl (Nat.le_of_ble_eq_true rfl) dX0_addWrap_36 (fun H locs hP hD hS => ?_)
    obtain ⟨V11, hV11⟩ : ∃ z, z = up2 V9 64 (12 * b + (Int32.toNatClampNeg (V 41 b))) p2 := ⟨_, rfl⟩
    have ew12 : (xw ad kk V9 L Z).set (312 + (12 * b + (Int32.toNatClampNeg (V 41 b)))) ((ad (312 + (12 * b + (Int32.toNatClampNeg (V 41 b))))), .inr (10, (xfWrap V9 (12 * b + (Int32.toNatClampNeg (V 41 b)))).set 2 (.int p2))) = xw ad kk V11 L Z := by rw [hV11]; exact xpWrap_number il6
    have hP : va_P D vwCl (xw ad kk V11 L Z) H := by rw [← ew12]; exact hP
    have hD : va_D A (xw ad kk V11 L Z) := by rw [← ew12]; exact hD
    have hMV11 : rgd bX V11 := hMV9.put hV11 (i_full _)
    have agV11 : agr [] [41, 47, 62, 63, 64, 65, 66] V V11 := agV9.up hV11 rfl
    have fwV11 : frX (xR b) V V11 := frX.up fwV9 hV11 (Or.inr ⟨(by show 12 * b ≤ (12 * b + (Int32.toNatClampNeg (V 41 b))); first | exact om_bc4eeef16aa3 | first | omega | ((try (have i_woq := Imp.go woq (by omega))); (try (have i_tw := Imp.go tw (by omega))); (try (have i_tw := Imp.go tw (by omega))); (try (have i_woq := Imp.go woq (by omega))); omega)), (by show (12 * b + (Int32.toNatClampNeg (V 41 b))) < 12 * b + 12; first | exact om_5a4487e59699 f3 kc5 | first | omega | ((try (have i_woq := Imp.go woq (by omega))); (try (have i_tw := Imp.go tw (by omega))); (try (have i_tw := Imp.go tw (by omega))); (try (have i_woq := Imp.go woq (by omega))); omega))⟩)
    refine lv_aload hx hb dX0_addWrap_39 (lv_at hl 0 rfl) ?_
    refine lv_iload hx hb dX0_addWrap_41 (lv_at hl 5 rfl) ?_
    refine va_putN (D := D) (ci := 10) (v := .int p3) (ty := tyX10 3) (fs := (xfWrap V11 (12 * b + (Int32.toNatClampNeg (V 41 b))))) (C := RX10) (T := TX10) (N := 5) hx hb hg inX10 tyX10 tyX10_ok nmX10 hown hK hP hD hS (312 + (12 * b + (Int32.toNatClampNeg (V 41 b)))) (xgWrap il6) rfl 3 (by decide) (hnw.use 578 n578 rfl) (fun _ h9 => h9) rfl (tyX10_ok 3 (by decide)) rfl rfl (Nat.le_of_ble_eq_true rfl) dX0_addWrap_43 (fun H locs hP hD hS => ?_)
    obtain ⟨V13, hV13⟩ : ∃ z, z = up2 V11 65 (12 * b + (Int32.toNatClampNeg (V 41 b))) p3 := ⟨_, rfl⟩
    have ew14 : (xw ad kk V11 L Z).set (312 + (12 * b + (Int32.toNatClampNeg (V 41 b)))) ((ad (312 + (12 * b + (Int32.toNatClampNeg (V 41 b))))), .inr (10, (xfWrap V11 (12 * b + (Int32.toNatClampNeg (V 41 b)))).set 3 (.int p3))) = xw ad kk V13 L Z := by rw [hV13]; exact xpWrap_phase il6
    have hP : va_P D vwCl (xw ad kk V13 L Z) H := by rw [← ew14]; exact hP
    have hD : va_D A (xw ad kk V13 L Z) := by rw [← ew14]; exact hD
    have hMV13 : rgd bX V13 := hMV11.put hV13 (i_full _)
    have agV13 : agr [] [41, 47, 62, 63, 64, 65, 66] V V13 := agV11.up hV13 rfl
    have fwV13 : frX (xR b) V V13 := frX.up fwV11 hV13 (Or.inr ⟨(by show 12 * b ≤ (12 * b + (Int32.toNatClampNeg (V 41 b))); first | exact om_bc4eeef16aa3 | first | omega | ((try (have i_woq := Imp.go woq (by omega))); (try (have i_tw := Imp.go tw (by omega))); (try (have i_tw := Imp.go tw (by omega))); (try (have i_woq := Imp.go woq (by omega))); omega)), (by show (12 * b + (Int32.toNatClampNeg (V 41 b))) < 12 * b + 12; first | exact om_5a4487e59699 f3 kc5 | first | omega | ((try (have i_woq := Imp.go woq (by omega))); (try (have i_tw := Imp.go tw (by omega))); (try (have i_tw := Imp.go tw (by omega))); (try (have i_woq := Imp.go woq (by omega))); omega))⟩)
    refine lv_aload hx hb dX0_addWrap_46 (lv_at hl 0 rfl) ?_
    refine lv_iload hx hb dX0_addWrap_48 (lv_at hl 6 rfl) ?_
    refine va_putN (D := D) (ci := 10) (v := .int p4) (ty := tyX10 4) (fs := (xfWrap V13 (12 * b + (Int32.toNatClampNeg (V 41 b))))) (C := RX10) (T := TX10) (N := 5) hx hb hg inX10 tyX10 tyX10_ok nmX10 hown hK hP hD hS (312 + (12 * b + (Int32.toNatClampNeg (V 41 b)))) (xgWrap il6) rfl 4 (by decide) (hnw.use 580 n580 rfl) (fun _ h9 => h9) rfl (tyX10_ok 4 (by decide)) rfl rfl (Nat.le_of_ble_eq_true rfl) dX0_addWrap_50 (fun H locs hP hD hS => ?_)
    obtain ⟨V15, hV15⟩ : ∃ z, z = up2 V13 66 (12 * b + (Int32.toNatClampNeg (V 41 b))) p4 := ⟨_, rfl⟩
    have ew16 : (xw ad kk V13 L Z).set (312 + (12 * b + (Int32.toNatClampNeg (V 41 b)))) ((ad (312 + (12 * b + (Int32.toNatClampNeg (V 41 b))))), .inr (10, (xfWrap V13 (12 * b + (Int32.toNatClampNeg (V 41 b)))).set 4 (.int p4))) = xw ad kk V15 L Z := by rw [hV15]; exact xpWrap_start il6
    have hP : va_P D vwCl (xw ad kk V15 L Z) H := by rw [← ew16]; exact hP
    have hD : va_D A (xw ad kk V15 L Z) := by rw [← ew16]; exact hD
    have hMV15 : rgd bX V15 := hMV13.put hV15 (show 0 ≤ p4.toInt ∧ p4.toInt ≤ 8200 from by first | exact om_827712d37f0f rg_p4.1 rg_p4.2 | first | omega | ((try (have i_woq := Imp.go woq (by omega))); (try (have i_tw := Imp.go tw (by omega))); (try (have i_tw := Imp.go tw (by omega))); (try (have i_woq := Imp.go woq (by omega))); omega))
    have agV15 : agr [] [41, 47, 62, 63, 64, 65, 66] V V15 := agV13.up hV15 rfl
    have fwV15 : frX (xR b) V V15 := frX.up fwV13 hV15 (Or.inr ⟨(by show 12 * b ≤ (12 * b + (Int32.toNatClampNeg (V 41 b))); first | exact om_bc4eeef16aa3 | first | omega | ((try (have i_woq := Imp.go woq (by omega))); (try (have i_tw := Imp.go tw (by omega))); (try (have i_tw := Imp.go tw (by omega))); (try (have i_woq := Imp.go woq (by omega))); omega)), (by show (12 * b + (Int32.toNatClampNeg (V 41 b))) < 12 * b + 12; first | exact om_5a4487e59699 f3 kc5 | first | omega | ((try (have i_woq := Imp.go woq (by omega))); (try (have i_tw := Imp.go tw (by omega))); (try (have i_tw := Imp.go tw (by omega))); (try (have i_woq := Imp.go woq (by omega))); omega))⟩)
    refine lv_aload_n hx hb dX0_addWrap_53 rfl (lv_at hl 1 rfl) ?_
    refine va_get (D := D) (ci := 0) (v := .int (V15 41 b)) (fs := (xfBook ad V15 b)) (C := RX0) (T := TX0) (N := 13) hx hb hg inX0 hown hK hP (38 + b) (xgBook hb2) rfl 11 (by decide) (hg _ w625) (fun _ h9 => h9) rfl dX0_addWrap_54 ?_
    refine g_top (v := (V 41 b)) ((up2_o hV15 (by decide)).trans ((up2_o hV13 (by decide)).trans ((up2_o hV11 (by decide)).trans ((up2_o hV9 (by decide)).trans (up2_o hV7 (by decide)))))) ?_
    refine lv_istore (lv' := [(7, .int (V 41 b)), (6, .ref (ad (312 + (12 * b + (Int32.toNatClampNeg (V 41 b)))))), (0, .ref (ad (38 + b))), (1, .int p0), (2, .int p1), (3, .int p2), (4, .int p3), (5, .int p4)]) hx hb dX0_addWrap_57 hl (by decide) rfl (fun ls hl => ?_)
    have lp19 : ∀ (fulp19 : Nat) (y17 : Int32) (V18 : Vf) (H : Heap) (locs : List Loc) (ls : Array Slot), 0 ≤ y17.toInt ∧ y17.toInt ≤ 11 → y17.toInt ≤ (V 41 b).toInt → 0 ≤ y17.toInt → (∀ a : Nat, (a : Int) ≤ (V 41 b).toInt → (a : Int) ≠ y17.toInt → (V18 47 (12 * b + a)).toInt < (V 41 b).toInt) → ((∀ i : Nat, (i : Int) < y17.toInt → V18 47 (12 * b + i) = V 47 (12 * b + i)) ∧ (∀ i : Nat, y17.toInt < (i : Int) → (i : Int) ≤ (V 41 b).toInt → V18 47 (12 * b + i) = V 47 (12 * b + (i - 1))) ∧ (∀ i : Nat, y17.toInt ≤ (i : Int) → (i : Int) < (V 41 b).toInt → p2.toInt < (V 64 (12 * b + (V 47 (12 * b + i)).toInt.toNat)).toInt)) → y17.toInt < (fulp19 : Int) → agr [] [47] V15 V18 → rgd bX V18 → frX (xR b) V V18 → va_P D vwCl (xw ad kk V18 L Z) H → va_D A (xw ad kk V18 L Z) → va_S A s.heap H locs → lv_has ls 8 [(7, .int y17), (6, .ref (ad (312 + (12 * b + (Int32.toNatClampNeg (V 41 b)))))), (0, .ref (ad (38 + b))), (1, .int p0), (2, .int p1), (3, .int p2), (4, .int p3), (5, .int p4)] → W p l e r_x_addWrap9 s m ([.ref (ad (38 + b)), .int p0, .int p1, .int p2, .int p3, .int p4] : List Value).toArray below meth c H locs 0 0 (MQ below (q_x_addWrap9 D ks ad kk V L Z p0 p1 p2 p3 p4 b A) ([.ref (ad (38 + b)), .int p0, .int p1, .int p2, .int p3, .int p4] : List Value).toArray s 0 0 A) (F0 m 59 ls []) := by
      intro fulp19
      induction fulp19 with
      | zero =>
        intro y17 V18 H locs ls klp19_0 xlp19_0 xlp19_1 xlp19_2 xlp19_3 hn ajV18 hMV18 fwV18 hP hD hS hl
        exfalso; (first | exact om_21e89d3d06d7 klp19_0.1 hn | omega)
      | succ fulp19 ihlp19 =>
        intro y17 V18 H locs ls klp19_0 xlp19_0 xlp19_1 xlp19_2 xlp19_3 hn ajV18 hMV18 fwV18 hP hD hS hl
        have agV18 : agr [] [41, 47, 62, 63, 64, 65, 66] V V18 := agV15.tr ajV18 (by decide) (by decide)
        refine lv_iload hx hb dX0_addWrap_59 (lv_at hl 0 rfl) ?_
        refine lv_if_le (tgt := 107) hx hb dX0_addWrap_61 (by decide) (fun c20 => ?_) (fun c20 => ?_)
        · skip
          have f21 : y17.toInt ≤ 0 := b_le rfl (by decide) c20
          refine lv_aload_n hx hb dX0_addWrap_107 rfl (lv_at hl 2 rfl) ?_
          refine va_get (D := D) (ci := 0) (v := .ref (ad (68 + b))) (fs := (xfBook ad V18 b)) (C := RX0) (T := TX0) (N := 13) hx hb hg inX0 hown hK hP (38 + b) (xgBook hb2) rfl 9 (by decide) (hg _ w621) (fun _ h9 => h9) rfl dX0_addWrap_108 ?_
          refine lv_iload hx hb dX0_addWrap_111 (lv_at hl 0 rfl) ?_
          refine lv_aload_n hx hb dX0_addWrap_113 rfl (lv_at hl 2 rfl) ?_
          refine va_get (D := D) (ci := 0) (v := .int (V18 41 b)) (fs := (xfBook ad V18 b)) (C := RX0) (T := TX0) (N := 13) hx hb hg inX0 hown hK hP (38 + b) (xgBook hb2) rfl 11 (by decide) (hg _ w625) (fun _ h9 => h9) rfl dX0_addWrap_114 ?_
          refine g_top (v := (V 41 b)) ((ajV18 41 b rfl).trans ((up2_o hV15 (by decide)).trans ((up2_o hV13 (by decide)).trans ((up2_o hV11 (by decide)).trans ((up2_o hV9 (by decide)).trans (up2_o hV7 (by decide))))))) ?_
          have il22 : b < 2 := by first | exact om_f940a4667dd6 hb2 | first | omega | ((try (have i_woq := Imp.go woq (by omega))); (try (have i_tw := Imp.go tw (by omega))); (try (have i_tw := Imp.go tw (by omega))); (try (have i_woq := Imp.go woq (by omega))); omega)
          refine va_iast (D := D) (i := y17) (x := (V 41 b)) hx hb hK hP hD hS (68 + b) (61 + b) (xgwrapOrder il22) (xtwrapOrder il22) (i_in (a := y17.toInt) rfl (by first | exact om_992dabb1eca5 klp19_0.1 f21 | first | omega | ((try (have i_woq := Imp.go woq (by omega))); (try (have i_tw := Imp.go tw (by omega))); (try (have i_tw := Imp.go tw (by omega))); (try (have i_woq := Imp.go woq (by omega))); omega))) dX0_addWrap_117 (fun H locs hP hD hS => ?_)
          have kc23 := i_clamp (x := y17) rfl (by first | exact om_eafa9039069c klp19_0.1 | first | omega | ((try (have i_woq := Imp.go woq (by omega))); (try (have i_tw := Imp.go tw (by omega))); (try (have i_tw := Imp.go tw (by omega))); (try (have i_woq := Imp.go woq (by omega))); omega))
          have kl24 : (Int32.toNatClampNeg y17) < 12 := by first | exact om_0e62abf75189 f21 kc23 | first | omega | ((try (have i_woq := Imp.go woq (by omega))); (try (have i_tw := Imp.go tw (by omega))); (try (have i_tw := Imp.go tw (by omega))); (try (have i_woq := Imp.go woq (by omega))); omega)
          obtain ⟨V25, hV25⟩ : ∃ z, z = up2 V18 47 (12 * b + (Int32.toNatClampNeg y17)) (V 41 b) := ⟨_, rfl⟩
          have ew26 : (xw ad kk V18 L Z).set (68 + b) ((ad (68 + b)), .inl ((kk (68 + b)), 12, .inl (upd (fun q => if q < 12 then V18 47 (12 * b + q) else 0) (Int32.toNatClampNeg y17) (V 41 b)))) = xw ad kk V25 L Z := by rw [hV25]; exact xpwrapOrder il22 kl24
          have hP : va_P D vwCl (xw ad kk V25 L Z) H := by rw [← ew26]; exact hP
          have hD : va_D A (xw ad kk V25 L Z) := by rw [← ew26]; exact hD
          have hMV25 : rgd bX V25 := hMV18.put hV25 (show 0 ≤ ((V 41 b)).toInt ∧ ((V 41 b)).toInt ≤ 11 from by first | exact om_08e1aa59793b r1.1 f3 | first | omega | ((try (have i_woq := Imp.go woq (by omega))); (try (have i_tw := Imp.go tw (by omega))); (try (have i_tw := Imp.go tw (by omega))); (try (have i_woq := Imp.go woq (by omega))); omega))
          have agV25 : agr [] [41, 47, 62, 63, 64, 65, 66] V V25 := agV18.up hV25 rfl
          have fwV25 : frX (xR b) V V25 := frX.up fwV18 hV25 (Or.inr ⟨(by show 12 * b ≤ (12 * b + (Int32.toNatClampNeg y17)); first | exact om_fdad02d66478 klp19_0.1 kc23 | first | omega | ((try (have i_woq := Imp.go woq (by omega))); (try (have i_tw := Imp.go tw (by omega))); (try (have i_tw := Imp.go tw (by omega))); (try (have i_woq := Imp.go woq (by omega))); omega)), (by show (12 * b + (Int32.toNatClampNeg y17)) < 12 * b + 12; first | exact om_9e3f6311c4ce f21 kc23 | first | omega | ((try (have i_woq := Imp.go woq (by omega))); (try (have i_tw := Imp.go tw (by omega))); (try (have i_tw := Imp.go tw (by omega))); (try (have i_woq := Imp.go woq (by omega))); omega))⟩)
          refine lv_aload_n hx hb dX0_addWrap_118 rfl (lv_at hl 2 rfl) ?_
          refine lv_dup hx hb dX0_addWrap_119 rfl ?_
          refine va_get (D := D) (ci := 0) (v := .int (V25 41 b)) (fs := (xfBook ad V25 b)) (C := RX0) (T := TX0) (N := 13) hx hb hg inX0 hown hK hP (38 + b) (xgBook hb2) rfl 11 (by decide) (hg _ w625) (fun _ h9 => h9) rfl dX0_addWrap_120 ?_
          refine g_top (v := (V 41 b)) ((up2_o hV25 (by decide)).trans ((ajV18 41 b rfl).trans ((up2_o hV15 (by decide)).trans ((up2_o hV13 (by decide)).trans ((up2_o hV11 (by decide)).trans ((up2_o hV9 (by decide)).trans (up2_o hV7 (by decide)))))))) ?_
          refine lv_iconst (v := 1) hx hb dX0_addWrap_123 (by decide) ?_
          refine lv_iadd hx hb dX0_addWrap_124 ?_
          refine lv_topi (fun z27 ez27 => ?_)
          have hz27 : z27.toInt = ((V 41 b)).toInt + 1 := i_add ez27 rfl (by decide) (by (first | exact om_4464765f026c r1.1 f3 | omega))
          refine va_put (D := D) (ci := 0) (v := .int z27) (ty := tyX0 11) (fs := (xfBook ad V25 b)) (C := RX0) (T := TX0) (N := 13) hx hb hg inX0 tyX0 tyX0_ok nmX0 hown hK hP hD hS (38 + b) (xgBook hb2) rfl 11 (by decide) (hg _ w625) (fun _ h9 => h9) rfl (tyX0_ok 11 (by decide)) rfl rfl (Nat.le_of_ble_eq_true rfl) dX0_addWrap_125 (fun H locs hP hD hS => ?_)
          obtain ⟨V28, hV28⟩ : ∃ z, z = up2 V25 41 b z27 := ⟨_, rfl⟩
          have ew29 : (xw ad kk V25 L Z).set (38 + b) ((ad (38 + b)), .inr (0, (xfBook ad V25 b).set 11 (.int z27))) = xw ad kk V28 L Z := by rw [hV28]; exact xpBook_wrapCount hb2
          have hP : va_P D vwCl (xw ad kk V28 L Z) H := by rw [← ew29]; exact hP
          have hD : va_D A (xw ad kk V28 L Z) := by rw [← ew29]; exact hD
          have hMV28 : rgd bX V28 := hMV25.put hV28 (show 0 ≤ z27.toInt ∧ z27.toInt ≤ 12 from by first | exact om_b1c60bcb684f r1.1 f3 hz27 | first | omega | ((try (have i_woq := Imp.go woq (by omega))); (try (have i_tw := Imp.go tw (by omega))); (try (have i_tw := Imp.go tw (by omega))); (try (have i_woq := Imp.go woq (by omega))); omega))
          have agV28 : agr [] [41, 47, 62, 63, 64, 65, 66] V V28 := agV25.up hV28 rfl
          have fwV28 : frX (xR b) V V28 := frX.up fwV25 hV28 (Or.inr ⟨(by show b ≤ b; first | exact om_36cf446a3c95 | first | omega | ((try (have i_woq := Imp.go woq (by omega))); (try (have i_tw := Imp.go tw (by omega))); (try (have i_tw := Imp.go tw (by omega))); (try (have i_woq := Imp.go woq (by omega))); omega)), (by show b < b + 1; first | exact om_0bb971ab4ffe | first | omega | ((try (have i_woq := Imp.go woq (by omega))); (try (have i_tw := Imp.go tw (by omega))); (try (have i_tw := Imp.go tw (by omega))); (try (have i_woq := Imp.go woq (by omega))); omega))⟩)
          have pq30 : (V28 41 b).toInt = z27.toInt := congrArg Int32.toInt (up2_s hV28)
          have k41 := i_clamp (x := V 41 b) rfl (by (first | exact om_eafa9039069c r1.1 | omega))
          have rp31 : Imp ((V 41 b).toInt < 12) (∀ a : Nat, (a : Int) ≤ (V 41 b).toInt → (V28 47 (12 * b + a)).toInt ≤ (V 41 b).toInt) := Imp.mk (fun _ a ha => by rw [up2_o hV28 (show ¬ 47 = 41 from by decide)]; rcases Decidable.em (12 * b + a = (12 * b + (Int32.toNatClampNeg y17))) with h9 | h9; (rw [h9, up2_s hV25]; omega); (rw [up2_k hV25 h9]; have h8 := xlp19_2 a ha (by omega); omega))
          have rp32 : Imp ((V 41 b).toInt < 12) (∀ q : Nat, ¬ q = 12 * b + Int32.toNatClampNeg (V 41 b) → V28 66 q = V 66 q) := Imp.mk (fun _ q hq => ((((((((up2_o hV28 (by decide)).trans (up2_o hV25 (by decide))).trans (ajV18 66 _ rfl)).trans (up2_k hV15 (by omega))).trans (up2_o hV13 (by decide))).trans (up2_o hV11 (by decide))).trans (up2_o hV9 (by decide))).trans (up2_o hV7 (by decide))))
          have rp33 : Imp ((V 41 b).toInt < 12) (V28 66 (12 * b + Int32.toNatClampNeg (V 41 b)) = p4) := Imp.mk (fun _ => ((((up2_o hV28 (by decide)).trans (up2_o hV25 (by decide))).trans (ajV18 66 _ rfl)).trans (up2_s hV15)))
          have k41 := i_clamp (x := V 41 b) rfl (by (first | exact om_eafa9039069c r1.1 | omega))
          have k79 := i_clamp (x := y17) rfl (by (first | exact om_eafa9039069c klp19_0.1 | omega))
          have ar34 : WO V28 b := WO.add (n := (Int32.toNatClampNeg (V 41 b))) (at9 := (Int32.toNatClampNeg y17)) (p := p2.toInt) woq (by omega) (by omega) (by omega) (fun w9 h9 => ((up2_o hV28 (by decide)).trans ((up2_o hV25 (by decide)).trans ((ajV18 64 (12 * b + w9) rfl).trans ((up2_o hV15 (by decide)).trans ((up2_o hV13 (by decide)).trans ((up2_k hV11 (by omega)).trans ((up2_o hV9 (by decide)).trans (up2_o hV7 (by decide)))))))))) (by rw [((up2_o hV28 (by decide)).trans ((up2_o hV25 (by decide)).trans ((ajV18 64 (12 * b + (Int32.toNatClampNeg (V 41 b))) rfl).trans ((up2_o hV15 (by decide)).trans (up2_o hV13 (by decide)))))).trans (up2_s hV11)]) (fun i9 h9 => (up2_o hV28 (by decide)).trans ((up2_k hV25 (by omega)).trans (xlp19_3.1 i9 (by omega)))) (by rw [(up2_o hV28 (by decide)).trans (up2_s hV25)]; omega) (fun i9 h1 h2 => (up2_o hV28 (by decide)).trans ((up2_k hV25 (by omega)).trans (xlp19_3.2.1 i9 (by omega) (by omega)))) (fun i9 h1 h2 => xlp19_3.2.2 i9 (by omega) (by omega)) (fun i9 h9 => by exfalso; omega)
          exact W.vret hx hb hr (fun t ht hW => ⟨⟨(V28, L), rfl, ⟨hMV28, agV28, rfl, fwV28, (Imp.mk (fun hp => have hp : (V 41 b).toInt < 12 := hp; (show (V28 41 b).toInt = (V 41 b).toInt + 1 from by first | exact om_689eeacb6d53 hz27 pq30 | first | omega | ((try (have i_woq := Imp.go woq (by omega))); (try (have i_tw := Imp.go tw (by omega))); (try (have i_tw := Imp.go tw (by omega))); (try (have i_woq := Imp.go woq (by omega))); omega)))), rp31, rp32, rp33, (Imp.mk (fun _ => ar34))⟩, by rw [ht]; exact hP, va_K.moved hW.alike hK, hD⟩, hS.F ht⟩) hS.2.2 dX0_addWrap_128
        · skip
          have f35 : 0 < y17.toInt := b_nle rfl (by decide) c20
          refine lv_aload_n hx hb dX0_addWrap_64 rfl (lv_at hl 2 rfl) ?_
          refine va_get (D := D) (ci := 0) (v := .ref (ad (66 + b))) (fs := (xfBook ad V18 b)) (C := RX0) (T := TX0) (N := 13) hx hb hg inX0 hown hK hP (38 + b) (xgBook hb2) rfl 8 (by decide) (hg _ w619) (fun _ h9 => h9) rfl dX0_addWrap_65 ?_
          refine lv_aload_n hx hb dX0_addWrap_68 rfl (lv_at hl 2 rfl) ?_
          refine va_get (D := D) (ci := 0) (v := .ref (ad (68 + b))) (fs := (xfBook ad V18 b)) (C := RX0) (T := TX0) (N := 13) hx hb hg inX0 hown hK hP (38 + b) (xgBook hb2) rfl 9 (by decide) (hg _ w621) (fun _ h9 => h9) rfl dX0_addWrap_69 ?_
          refine lv_iload hx hb dX0_addWrap_72 (lv_at hl 0 rfl) ?_
          refine lv_iconst (v := 1) hx hb dX0_addWrap_74 (by decide) ?_
          refine lv_isub hx hb dX0_addWrap_75 ?_
          refine lv_topi (fun z36 ez36 => ?_)
          have hz36 : z36.toInt = y17.toInt - 1 := i_sub ez36 rfl (by decide) (by (first | exact om_7f4f78fac172 f3 xlp19_0 f35 | omega))
          have il37 : b < 2 := by first | exact om_f940a4667dd6 hb2 | first | omega | ((try (have i_woq := Imp.go woq (by omega))); (try (have i_tw := Imp.go tw (by omega))); (try (have i_tw := Imp.go tw (by omega))); (try (have i_woq := Imp.go woq (by omega))); omega)
          refine va_iald (D := D) (i := z36) hx hb hK hP (68 + b) (61 + b) (xgwrapOrder il37) (xtwrapOrder il37) (i_in (a := z36.toInt) rfl (by first | exact om_f5d89ef8e173 f3 xlp19_0 f35 hz36 | first | omega | ((try (have i_woq := Imp.go woq (by omega))); (try (have i_tw := Imp.go tw (by omega))); (try (have i_tw := Imp.go tw (by omega))); (try (have i_woq := Imp.go woq (by omega))); omega))) dX0_addWrap_76 ?_
          have kc38 := i_clamp (x := z36) rfl (by first | exact om_9271d0948665 f35 hz36 | first | omega | ((try (have i_woq := Imp.go woq (by omega))); (try (have i_tw := Imp.go tw (by omega))); (try (have i_tw := Imp.go tw (by omega))); (try (have i_woq := Imp.go woq (by omega))); omega))
          refine g_top (v := V18 47 (12 * b + (Int32.toNatClampNeg z36))) (if_pos (by first | omega | ((try (have i_woq := Imp.go woq (by omega))); (try (have i_tw := Imp.go tw (by omega))); (try (have i_tw := Imp.go tw (by omega))); (try (have i_woq := Imp.go woq (by omega))); omega))) ?_
          have r39 : 0 ≤ ((V18 47 (12 * b + (Int32.toNatClampNeg z36)))).toInt ∧ ((V18 47 (12 * b + (Int32.toNatClampNeg z36)))).toInt ≤ 11 := hMV18 47 (12 * b + (Int32.toNatClampNeg z36))
          refine va_aldq (D := D) (i := (V18 47 (12 * b + (Int32.toNatClampNeg z36)))) hx hb hK hP (66 + b) (59 + b) (xgwrapsA il4) (xtwrapsA il4) (i_in (a := ((V18 47 (12 * b + (Int32.toNatClampNeg z36)))).toInt) rfl (by first | exact om_da83cce65d18 r39.1 r39.2 | first | omega | ((try (have i_woq := Imp.go woq (by omega))); (try (have i_tw := Imp.go tw (by omega))); (try (have i_tw := Imp.go tw (by omega))); (try (have i_woq := Imp.go woq (by omega))); omega))) dX0_addWrap_77 ?_
          have kc40 := i_clamp (x := (V18 47 (12 * b + (Int32.toNatClampNeg z36)))) rfl (by first | exact om_eafa9039069c r39.1 | first | omega | ((try (have i_woq := Imp.go woq (by omega))); (try (have i_tw := Imp.go tw (by omega))); (try (have i_tw := Imp.go tw (by omega))); (try (have i_woq := Imp.go woq (by omega))); omega))
          refine g_topv (v := .ref (ad (312 + (12 * b + (Int32.toNatClampNeg (V18 47 (12 * b + (Int32.toNatClampNeg z36)))))))) (congrArg va_rf (if_pos (by first | omega | ((try (have i_woq := Imp.go woq (by omega))); (try (have i_tw := Imp.go tw (by omega))); (try (have i_tw := Imp.go tw (by omega))); (try (have i_woq := Imp.go woq (by omega))); omega)))) ?_
          have il41 : (12 * b + (Int32.toNatClampNeg (V18 47 (12 * b + (Int32.toNatClampNeg z36))))) < 24 := by first | exact om_a98cd8d2da4e hb2 r39.2 kc40 | first | omega | ((try (have i_woq := Imp.go woq (by omega))); (try (have i_tw := Imp.go tw (by omega))); (try (have i_tw := Imp.go tw (by omega))); (try (have i_woq := Imp.go woq (by omega))); omega)
          refine va_getN (D := D) (ci := 10) (v := .int (V18 64 (12 * b + (Int32.toNatClampNeg (V18 47 (12 * b + (Int32.toNatClampNeg z36))))))) (fs := (xfWrap V18 (12 * b + (Int32.toNatClampNeg (V18 47 (12 * b + (Int32.toNatClampNeg z36))))))) (C := RX10) (T := TX10) (N := 5) hx hb hg inX10 hown hK hP (312 + (12 * b + (Int32.toNatClampNeg (V18 47 (12 * b + (Int32.toNatClampNeg z36)))))) (xgWrap il41) rfl 2 (by decide) (hnw.use 577 n577 rfl) (fun _ h9 => h9) rfl dX0_addWrap_78 ?_
          refine g_top (v := (V11 64 (12 * b + (Int32.toNatClampNeg (V18 47 (12 * b + (Int32.toNatClampNeg z36))))))) ((ajV18 64 (12 * b + (Int32.toNatClampNeg (V18 47 (12 * b + (Int32.toNatClampNeg z36))))) rfl).trans ((up2_o hV15 (by decide)).trans (up2_o hV13 (by decide)))) ?_
          have kz9 := i_clamp (x := z36) rfl (by (first | exact om_9271d0948665 f35 hz36 | omega))
          have k79 := i_clamp (x := y17) rfl (by (first | exact om_610a4af05d44 f35 | omega))
          have tq9 := tw (Int32.toNatClampNeg z36) (by omega)
          have k49 := i_clamp (x := V 47 (12 * b + (Int32.toNatClampNeg z36))) rfl (hMV 47 _).1
          have k41 := i_clamp (x := V 41 b) rfl (by (first | exact om_788bec03cc2a xlp19_0 f35 | omega))
          have nq9 : (V11 64 (12 * b + (Int32.toNatClampNeg (V18 47 (12 * b + (Int32.toNatClampNeg z36)))))).toInt = (V 64 (12 * b + (V 47 (12 * b + (Int32.toNatClampNeg z36))).toInt.toNat)).toInt := by rw [show V18 47 (12 * b + (Int32.toNatClampNeg z36)) = V 47 (12 * b + (Int32.toNatClampNeg z36)) from xlp19_3.1 (Int32.toNatClampNeg z36) (by omega), show V11 64 (12 * b + (Int32.toNatClampNeg (V 47 (12 * b + (Int32.toNatClampNeg z36))))) = V 64 (12 * b + (Int32.toNatClampNeg (V 47 (12 * b + (Int32.toNatClampNeg z36))))) from ((up2_k hV11 (by omega)).trans ((up2_o hV9 (by decide)).trans (up2_o hV7 (by decide))))]; rfl
          refine lv_iload_n hx hb dX0_addWrap_81 rfl (lv_at hl 5 rfl) ?_
          refine lv_icmp_le (tgt := 107) hx hb dX0_addWrap_82 (by decide) (fun c42 => ?_) (fun c42 => ?_)
          · skip
            have f43 : ((V11 64 (12 * b + (Int32.toNatClampNeg (V18 47 (12 * b + (Int32.toNatClampNeg z36))))))).toInt ≤ p2.toInt := b_le rfl rfl c42
            refine lv_aload_n hx hb dX0_addWrap_107 rfl (lv_at hl 2 rfl) ?_
            refine va_get (D := D) (ci := 0) (v := .ref (ad (68 + b))) (fs := (xfBook ad V18 b)) (C := RX0) (T := TX0) (N := 13) hx hb hg inX0 hown hK hP (38 + b) (xgBook hb2) rfl 9 (by decide) (hg _ w621) (fun _ h9 => h9) rfl dX0_addWrap_108 ?_
            refine lv_iload hx hb dX0_addWrap_111 (lv_at hl 0 rfl) ?_
            refine lv_aload_n hx hb dX0_addWrap_113 rfl (lv_at hl 2 rfl) ?_
            refine va_get (D := D) (ci := 0) (v := .int (V18 41 b)) (fs := (xfBook ad V18 b)) (C := RX0) (T := TX0) (N := 13) hx hb hg inX0 hown hK hP (38 + b) (xgBook hb2) rfl 11 (by decide) (hg _ w625) (fun _ h9 => h9) rfl dX0_addWrap_114 ?_
            refine g_top (v := (V 41 b)) ((ajV18 41 b rfl).trans ((up2_o hV15 (by decide)).trans ((up2_o hV13 (by decide)).trans ((up2_o hV11 (by decide)).trans ((up2_o hV9 (by decide)).trans (up2_o hV7 (by decide))))))) ?_
            refine va_iast (D := D) (i := y17) (x := (V 41 b)) hx hb hK hP hD hS (68 + b) (61 + b) (xgwrapOrder il37) (xtwrapOrder il37) (i_in (a := y17.toInt) rfl (by first | exact om_e96f9555304e klp19_0.2 f35 | first | omega | ((try (have i_woq := Imp.go woq (by omega))); (try (have i_tw := Imp.go tw (by omega))); (try (have i_tw := Imp.go tw (by omega))); (try (have i_woq := Imp.go woq (by omega))); omega))) dX0_addWrap_117 (fun H locs hP hD hS => ?_)
            have kc44 := i_clamp (x := y17) rfl (by first | exact om_610a4af05d44 f35 | first | omega | ((try (have i_woq := Imp.go woq (by omega))); (try (have i_tw := Imp.go tw (by omega))); (try (have i_tw := Imp.go tw (by omega))); (try (have i_woq := Imp.go woq (by omega))); omega))
            have kl45 : (Int32.toNatClampNeg y17) < 12 := by first | exact om_004b84c8d7e3 klp19_0.2 k79 | first | omega | ((try (have i_woq := Imp.go woq (by omega))); (try (have i_tw := Imp.go tw (by omega))); (try (have i_tw := Imp.go tw (by omega))); (try (have i_woq := Imp.go woq (by omega))); omega)
            obtain ⟨V46, hV46⟩ : ∃ z, z = up2 V18 47 (12 * b + (Int32.toNatClampNeg y17)) (V 41 b) := ⟨_, rfl⟩
            have ew47 : (xw ad kk V18 L Z).set (68 + b) ((ad (68 + b)), .inl ((kk (68 + b)), 12, .inl (upd (fun q => if q < 12 then V18 47 (12 * b + q) else 0) (Int32.toNatClampNeg y17) (V 41 b)))) = xw ad kk V46 L Z := by rw [hV46]; exact xpwrapOrder il37 kl45
            have hP : va_P D vwCl (xw ad kk V46 L Z) H := by rw [← ew47]; exact hP
            have hD : va_D A (xw ad kk V46 L Z) := by rw [← ew47]; exact hD
            have hMV46 : rgd bX V46 := hMV18.put hV46 (show 0 ≤ ((V 41 b)).toInt ∧ ((V 41 b)).toInt ≤ 11 from by first | exact om_ac45556e949d f3 xlp19_0 f35 | first | omega | ((try (have i_woq := Imp.go woq (by omega))); (try (have i_tw := Imp.go tw (by omega))); (try (have i_tw := Imp.go tw (by omega))); (try (have i_woq := Imp.go woq (by omega))); omega))
            have agV46 : agr [] [41, 47, 62, 63, 64, 65, 66] V V46 := agV18.up hV46 rfl
            have fwV46 : frX (xR b) V V46 := frX.up fwV18 hV46 (Or.inr ⟨(by show 12 * b ≤ (12 * b + (Int32.toNatClampNeg y17)); first | exact om_7de1662b5bb9 f35 k79 | first | omega | ((try (have i_woq := Imp.go woq (by omega))); (try (have i_tw := Imp.go tw (by omega))); (try (have i_tw := Imp.go tw (by omega))); (try (have i_woq := Imp.go woq (by omega))); omega)), (by show (12 * b + (Int32.toNatClampNeg y17)) < 12 * b + 12; first | exact om_85aa1aec5418 klp19_0.2 k79 | first | omega | ((try (have i_woq := Imp.go woq (by omega))); (try (have i_tw := Imp.go tw (by omega))); (try (have i_tw := Imp.go tw (by omega))); (try (have i_woq := Imp.go woq (by omega))); omega))⟩)
            refine lv_aload_n hx hb dX0_addWrap_118 rfl (lv_at hl 2 rfl) ?_
            refine lv_dup hx hb dX0_addWrap_119 rfl ?_
            refine va_get (D := D) (ci := 0) (v := .int (V46 41 b)) (fs := (xfBook ad V46 b)) (C := RX0) (T := TX0) (N := 13) hx hb hg inX0 hown hK hP (38 + b) (xgBook hb2) rfl 11 (by decide) (hg _ w625) (fun _ h9 => h9) rfl dX0_addWrap_120 ?_
            refine g_top (v := (V 41 b)) ((up2_o hV46 (by decide)).trans ((ajV18 41 b rfl).trans ((up2_o hV15 (by decide)).trans ((up2_o hV13 (by decide)).trans ((up2_o hV11 (by decide)).trans ((up2_o hV9 (by decide)).trans (up2_o hV7 (by decide)))))))) ?_
            refine lv_iconst (v := 1) hx hb dX0_addWrap_123 (by decide) ?_
            refine lv_iadd hx hb dX0_addWrap_124 ?_
            refine lv_topi (fun z48 ez48 => ?_)
            have hz48 : z48.toInt = ((V 41 b)).toInt + 1 := i_add ez48 rfl (by decide) (by (first | exact om_03da05c7c545 f3 xlp19_0 f35 | omega))
            refine va_put (D := D) (ci := 0) (v := .int z48) (ty := tyX0 11) (fs := (xfBook ad V46 b)) (C := RX0) (T := TX0) (N := 13) hx hb hg inX0 tyX0 tyX0_ok nmX0 hown hK hP hD hS (38 + b) (xgBook hb2) rfl 11 (by decide) (hg _ w625) (fun _ h9 => h9) rfl (tyX0_ok 11 (by decide)) rfl rfl (Nat.le_of_ble_eq_true rfl) dX0_addWrap_125 (fun H locs hP hD hS => ?_)
            obtain ⟨V49, hV49⟩ : ∃ z, z = up2 V46 41 b z48 := ⟨_, rfl⟩
            have ew50 : (xw ad kk V46 L Z).set (38 + b) ((ad (38 + b)), .inr (0, (xfBook ad V46 b).set 11 (.int z48))) = xw ad kk V49 L Z := by rw [hV49]; exact xpBook_wrapCount hb2
            have hP : va_P D vwCl (xw ad kk V49 L Z) H := by rw [← ew50]; exact hP
            have hD : va_D A (xw ad kk V49 L Z) := by rw [← ew50]; exact hD
            have hMV49 : rgd bX V49 := hMV46.put hV49 (show 0 ≤ z48.toInt ∧ z48.toInt ≤ 12 from by first | exact om_371d5b098a1c f3 xlp19_0 f35 hz48 | first | omega | ((try (have i_woq := Imp.go woq (by omega))); (try (have i_tw := Imp.go tw (by omega))); (try (have i_tw := Imp.go tw (by omega))); (try (have i_woq := Imp.go woq (by omega))); omega))
            have agV49 : agr [] [41, 47, 62, 63, 64, 65, 66] V V49 := agV46.up hV49 rfl
            have fwV49 : frX (xR b) V V49 := frX.up fwV46 hV49 (Or.inr ⟨(by show b ≤ b; first | exact om_36cf446a3c95 | first | omega | ((try (have i_woq := Imp.go woq (by omega))); (try (have i_tw := Imp.go tw (by omega))); (try (have i_tw := Imp.go tw (by omega))); (try (have i_woq := Imp.go woq (by omega))); omega)), (by show b < b + 1; first | exact om_0bb971ab4ffe | first | omega | ((try (have i_woq := Imp.go woq (by omega))); (try (have i_tw := Imp.go tw (by omega))); (try (have i_tw := Imp.go tw (by omega))); (try (have i_woq := Imp.go woq (by omega))); omega))⟩)
            have pq51 : (V49 41 b).toInt = z48.toInt := congrArg Int32.toInt (up2_s hV49)
            have k41 := i_clamp (x := V 41 b) rfl (by (first | exact om_788bec03cc2a xlp19_0 f35 | omega))
            have rp52 : Imp ((V 41 b).toInt < 12) (∀ a : Nat, (a : Int) ≤ (V 41 b).toInt → (V49 47 (12 * b + a)).toInt ≤ (V 41 b).toInt) := Imp.mk (fun _ a ha => by rw [up2_o hV49 (show ¬ 47 = 41 from by decide)]; rcases Decidable.em (12 * b + a = (12 * b + (Int32.toNatClampNeg y17))) with h9 | h9; (rw [h9, up2_s hV46]; omega); (rw [up2_k hV46 h9]; have h8 := xlp19_2 a ha (by omega); omega))
            have rp53 : Imp ((V 41 b).toInt < 12) (∀ q : Nat, ¬ q = 12 * b + Int32.toNatClampNeg (V 41 b) → V49 66 q = V 66 q) := Imp.mk (fun _ q hq => ((((((((up2_o hV49 (by decide)).trans (up2_o hV46 (by decide))).trans (ajV18 66 _ rfl)).trans (up2_k hV15 (by omega))).trans (up2_o hV13 (by decide))).trans (up2_o hV11 (by decide))).trans (up2_o hV9 (by decide))).trans (up2_o hV7 (by decide))))
            have rp54 : Imp ((V 41 b).toInt < 12) (V49 66 (12 * b + Int32.toNatClampNeg (V 41 b)) = p4) := Imp.mk (fun _ => ((((up2_o hV49 (by decide)).trans (up2_o hV46 (by decide))).trans (ajV18 66 _ rfl)).trans (up2_s hV15)))
            have k41 := i_clamp (x := V 41 b) rfl (by (first | exact om_788bec03cc2a xlp19_0 f35 | omega))
            have k79 := i_clamp (x := y17) rfl (by (first | exact om_610a4af05d44 f35 | omega))
            have ar55 : WO V49 b := WO.add (n := (Int32.toNatClampNeg (V 41 b))) (at9 := (Int32.toNatClampNeg y17)) (p := p2.toInt) woq (by omega) (by omega) (by omega) (fun w9 h9 => ((up2_o hV49 (by decide)).trans ((up2_o hV46 (by decide)).trans ((ajV18 64 (12 * b + w9) rfl).trans ((up2_o hV15 (by decide)).trans ((up2_o hV13 (by decide)).trans ((up2_k hV11 (by omega)).trans ((up2_o hV9 (by decide)).trans (up2_o hV7 (by decide)))))))))) (by rw [((up2_o hV49 (by decide)).trans ((up2_o hV46 (by decide)).trans ((ajV18 64 (12 * b + (Int32.toNatClampNeg (V 41 b))) rfl).trans ((up2_o hV15 (by decide)).trans (up2_o hV13 (by decide)))))).trans (up2_s hV11)]) (fun i9 h9 => (up2_o hV49 (by decide)).trans ((up2_k hV46 (by omega)).trans (xlp19_3.1 i9 (by omega)))) (by rw [(up2_o hV49 (by decide)).trans (up2_s hV46)]; omega) (fun i9 h1 h2 => (up2_o hV49 (by decide)).trans ((up2_k hV46 (by omega)).trans (xlp19_3.2.1 i9 (by omega) (by omega)))) (fun i9 h1 h2 => xlp19_3.2.2 i9 (by omega) (by omega)) (fun i9 h9 => by rw [show i9 = (Int32.toNatClampNeg z36) from by omega, ← nq9]; omega)
            exact W.vret hx hb hr (fun t ht hW => ⟨⟨(V49, L), rfl, ⟨hMV49, agV49, rfl, fwV49, (Imp.mk (fun hp => have hp : (V 41 b).toInt < 12 := hp; (show (V49 41 b).toInt = (V 41 b).toInt + 1 from by first | exact om_689eeacb6d53 hz48 pq51 | first | omega | ((try (have i_woq := Imp.go woq (by omega))); (try (have i_tw := Imp.go tw (by omega))); (try (have i_tw := Imp.go tw (by omega))); (try (have i_woq := Imp.go woq (by omega))); omega)))), rp52, rp53, rp54, (Imp.mk (fun _ => ar55))⟩, by rw [ht]; exact hP, va_K.moved hW.alike hK, hD⟩, hS.F ht⟩) hS.2.2 dX0_addWrap_128
          · skip
            have f56 : p2.toInt < ((V11 64 (12 * b + (Int32.toNatClampNeg (V18 47 (12 * b + (Int32.toNatClampNeg z36))))))).toInt := b_nle rfl rfl c42
            refine lv_aload_n hx hb dX0_addWrap_85 rfl (lv_at hl 2 rfl) ?_
            refine va_get (D := D) (ci := 0) (v := .ref (ad (68 + b))) (fs := (xfBook ad V18 b)) (C := RX0) (T := TX0) (N := 13) hx hb hg inX0 hown hK hP (38 + b) (xgBook hb2) rfl 9 (by decide) (hg _ w621) (fun _ h9 => h9) rfl dX0_addWrap_86 ?_
            refine lv_iload hx hb dX0_addWrap_89 (lv_at hl 0 rfl) ?_
            refine lv_aload_n hx hb dX0_addWrap_91 rfl (lv_at hl 2 rfl) ?_
            refine va_get (D := D) (ci := 0) (v := .ref (ad (68 + b))) (fs := (xfBook ad V18 b)) (C := RX0) (T := TX0) (N := 13) hx hb hg inX0 hown hK hP (38 + b) (xgBook hb2) rfl 9 (by decide) (hg _ w621) (fun _ h9 => h9) rfl dX0_addWrap_92 ?_
            refine lv_iload hx hb dX0_addWrap_95 (lv_at hl 0 rfl) ?_
            refine lv_iconst (v := 1) hx hb dX0_addWrap_97 (by decide) ?_
            refine lv_isub hx hb dX0_addWrap_98 ?_
            refine lv_topi (fun z57 ez57 => ?_)
            have hz57 : z57.toInt = y17.toInt - 1 := i_sub ez57 rfl (by decide) (by (first | exact om_d4dc5fc28acf klp19_0.2 f35 | omega))
            refine va_iald (D := D) (i := z57) hx hb hK hP (68 + b) (61 + b) (xgwrapOrder il37) (xtwrapOrder il37) (i_in (a := z57.toInt) rfl (by first | exact om_cb4190bf021a klp19_0.2 f35 hz57 | first | omega | ((try (have i_woq := Imp.go woq (by omega))); (try (have i_tw := Imp.go tw (by omega))); (try (have i_tw := Imp.go tw (by omega))); (try (have i_woq := Imp.go woq (by omega))); omega))) dX0_addWrap_99 ?_
            have kc58 := i_clamp (x := z57) rfl (by first | exact om_9271d0948665 f35 hz57 | first | omega | ((try (have i_woq := Imp.go woq (by omega))); (try (have i_tw := Imp.go tw (by omega))); (try (have i_tw := Imp.go tw (by omega))); (try (have i_woq := Imp.go woq (by omega))); omega))
            refine g_top (v := V18 47 (12 * b + (Int32.toNatClampNeg z57))) (if_pos (by first | omega | ((try (have i_woq := Imp.go woq (by omega))); (try (have i_tw := Imp.go tw (by omega))); (try (have i_tw := Imp.go tw (by omega))); (try (have i_woq := Imp.go woq (by omega))); omega))) ?_
            have r59 : 0 ≤ ((V18 47 (12 * b + (Int32.toNatClampNeg z57)))).toInt ∧ ((V18 47 (12 * b + (Int32.toNatClampNeg z57)))).toInt ≤ 11 := hMV18 47 (12 * b + (Int32.toNatClampNeg z57))
            have kz9 := i_clamp (x := z57) rfl (by (first | exact om_9271d0948665 f35 hz57 | omega))
            have k79 := i_clamp (x := y17) rfl (by (first | exact om_610a4af05d44 f35 | omega))
            have aw7 : (V18 47 (12 * b + (Int32.toNatClampNeg z57))).toInt < (V 41 b).toInt := xlp19_2 (Int32.toNatClampNeg z57) (by omega) (by omega)
            refine va_iast (D := D) (i := y17) (x := (V18 47 (12 * b + (Int32.toNatClampNeg z57)))) hx hb hK hP hD hS (68 + b) (61 + b) (xgwrapOrder il37) (xtwrapOrder il37) (i_in (a := y17.toInt) rfl (by first | exact om_e96f9555304e klp19_0.2 f35 | first | omega | ((try (have i_woq := Imp.go woq (by omega))); (try (have i_tw := Imp.go tw (by omega))); (try (have i_tw := Imp.go tw (by omega))); (try (have i_woq := Imp.go woq (by omega))); omega))) dX0_addWrap_100 (fun H locs hP hD hS => ?_)
            have kc60 := i_clamp (x := y17) rfl (by first | exact om_610a4af05d44 f35 | first | omega | ((try (have i_woq := Imp.go woq (by omega))); (try (have i_tw := Imp.go tw (by omega))); (try (have i_tw := Imp.go tw (by omega))); (try (have i_woq := Imp.go woq (by omega))); omega))
            have kl61 : (Int32.toNatClampNeg y17) < 12 := by first | exact om_004b84c8d7e3 klp19_0.2 k79 | first | omega | ((try (have i_woq := Imp.go woq (by omega))); (try (have i_tw := Imp.go tw (by omega))); (try (have i_tw := Imp.go tw (by omega))); (try (have i_woq := Imp.go woq (by omega))); omega)
            obtain ⟨V62, hV62⟩ : ∃ z, z = up2 V18 47 (12 * b + (Int32.toNatClampNeg y17)) (V18 47 (12 * b + (Int32.toNatClampNeg z57))) := ⟨_, rfl⟩
            have ew63 : (xw ad kk V18 L Z).set (68 + b) ((ad (68 + b)), .inl ((kk (68 + b)), 12, .inl (upd (fun q => if q < 12 then V18 47 (12 * b + q) else 0) (Int32.toNatClampNeg y17) (V18 47 (12 * b + (Int32.toNatClampNeg z57)))))) = xw ad kk V62 L Z := by rw [hV62]; exact xpwrapOrder il37 kl61
            have hP : va_P D vwCl (xw ad kk V62 L Z) H := by rw [← ew63]; exact hP
            have hD : va_D A (xw ad kk V62 L Z) := by rw [← ew63]; exact hD
            have hMV62 : rgd bX V62 := hMV18.put hV62 (show 0 ≤ ((V18 47 (12 * b + (Int32.toNatClampNeg z57)))).toInt ∧ ((V18 47 (12 * b + (Int32.toNatClampNeg z57)))).toInt ≤ 11 from by first | exact om_137426e8bfd2 f3 r59.1 aw7 | first | omega | ((try (have i_woq := Imp.go woq (by omega))); (try (have i_tw := Imp.go tw (by omega))); (try (have i_tw := Imp.go tw (by omega))); (try (have i_woq := Imp.go woq (by omega))); omega))
            have agV62 : agr [] [41, 47, 62, 63, 64, 65, 66] V V62 := agV18.up hV62 rfl
            have fwV62 : frX (xR b) V V62 := frX.up fwV18 hV62 (Or.inr ⟨(by show 12 * b ≤ (12 * b + (Int32.toNatClampNeg y17)); first | exact om_7de1662b5bb9 f35 k79 | first | omega | ((try (have i_woq := Imp.go woq (by omega))); (try (have i_tw := Imp.go tw (by omega))); (try (have i_tw := Imp.go tw (by omega))); (try (have i_woq := Imp.go woq (by omega))); omega)), (by show (12 * b + (Int32.toNatClampNeg y17)) < 12 * b + 12; first | exact om_85aa1aec5418 klp19_0.2 k79 | first | omega | ((try (have i_woq := Imp.go woq (by omega))); (try (have i_tw := Imp.go tw (by omega))); (try (have i_tw := Imp.go tw (by omega))); (try (have i_woq := Imp.go woq (by omega))); omega))⟩)
            obtain ⟨z64, ez64⟩ : ∃ y : Int32, y = y17 + (-1) := ⟨_, rfl⟩
            have hz64 : z64.toInt = y17.toInt + (-1) := i_add ez64 rfl (by decide) (by (first | exact om_7b3ad48442a9 klp19_0.2 f35 | omega))
            refine lv_iinc (v := z64) (lv' := [(7, .int z64), (6, .ref (ad (312 + (12 * b + (Int32.toNatClampNeg (V 41 b)))))), (0, .ref (ad (38 + b))), (1, .int p0), (2, .int p1), (3, .int p2), (4, .int p3), (5, .int p4)]) hx hb dX0_addWrap_101 hl (k := 0) rfl (by rw [ez64]; rfl) (by decide) rfl (fun ls hl => ?_)
            refine lv_goto (tgt := 59) hx hb dX0_addWrap_104 (by decide) ?_
            have af65 : ((∀ i : Nat, (i : Int) < z64.toInt → V62 47 (12 * b + i) = V 47 (12 * b + i)) ∧ (∀ i : Nat, z64.toInt < (i : Int) → (i : Int) ≤ (V 41 b).toInt → V62 47 (12 * b + i) = V 47 (12 * b + (i - 1))) ∧ (∀ i : Nat, z64.toInt ≤ (i : Int) → (i : Int) < (V 41 b).toInt → p2.toInt < (V 64 (12 * b + (V 47 (12 * b + i)).toInt.toNat)).toInt)) := by
              refine ⟨fun i9 h1 => (up2_k hV62 (by omega)).trans (xlp19_3.1 i9 (by omega)), fun i9 h1 h2 => ?_, fun i9 h1 h2 => ?_⟩
              · by_cases q9 : (i9 : Int) = y17.toInt
                · rw [show 12 * b + i9 = (12 * b + (Int32.toNatClampNeg y17)) from by omega, up2_s hV62, show i9 - 1 = (Int32.toNatClampNeg z57) from by have h8 := i_clamp (x := z57) rfl (by (first | exact om_9271d0948665 f35 hz57 | omega)); omega]; exact xlp19_3.1 _ (by omega)
                · exact (up2_k hV62 (by omega)).trans (xlp19_3.2.1 i9 (by omega) h2)
              · by_cases q9 : i9 = (Int32.toNatClampNeg z36)
                · rw [q9, ← nq9]; omega
                · exact xlp19_3.2.2 i9 (by omega) h2
            exact ihlp19 z64 V62 H locs ls (by first | exact om_69b3a1170d24 klp19_0.2 f35 hz64 | first | omega | ((try (have i_woq := Imp.go woq (by omega))); (try (have i_tw := Imp.go tw (by omega))); (try (have i_tw := Imp.go tw (by omega))); (try (have i_woq := Imp.go woq (by omega))); omega)) (show z64.toInt ≤ (V 41 b).toInt from by first | exact om_e74f64d2f8f5 xlp19_0 hz64 | first | omega | ((try (have i_woq := Imp.go woq (by omega))); (try (have i_tw := Imp.go tw (by omega))); (try (have i_tw := Imp.go tw (by omega))); (try (have i_woq := Imp.go woq (by omega))); omega)) (show 0 ≤ z64.toInt from by first | exact om_8bedd7f35e90 f35 hz64 | first | omega | ((try (have i_woq := Imp.go woq (by omega))); (try (have i_tw := Imp.go tw (by omega))); (try (have i_tw := Imp.go tw (by omega))); (try (have i_woq := Imp.go woq (by omega))); omega)) (fun a h1 h2 => by rcases Decidable.em (12 * b + a = (12 * b + (Int32.toNatClampNeg y17))) with h9 | h9; (rw [h9, up2_s hV62]; exact aw7); (rw [up2_k hV62 h9]; exact xlp19_2 a h1 (by omega))) af65 (by first | exact om_46f113951c8c hn hz64 | first | omega | ((try (have i_woq := Imp.go woq (by omega))); (try (have i_tw := Imp.go tw (by omega))); (try (have i_tw := Imp.go tw (by omega))); (try (have i_woq := Imp.go woq (by omega))); omega)) (agr.up (agr.tr agr.rf ajV18 (by decide) (by decide)) hV62 rfl) hMV62 fwV62 hP hD hS (lv_sub hl [0, 1, 2, 3, 4, 5, 6, 7] rfl)
    exact lp19 ((((V 41 b)).toInt + 1 : Int).toNat) (V 41 b) V15 H locs ls (by first | exact om_08e1aa59793b r1.1 f3 | first | omega | ((try (have i_woq := Imp.go woq (by omega))); (try (have i_tw := Imp.go tw (by omega))); (try (have i_tw := Imp.go tw (by omega))); (try (have i_woq := Imp.go woq (by omega))); omega)) (show ((V 41 b)).toInt ≤ (V 41 b).toInt from by first | exact om_5977f3d8a10f | first | omega | ((try (have i_woq := Imp.go woq (by omega))); (try (have i_tw := Imp.go tw (by omega))); (try (have i_tw := Imp.go tw (by omega))); (try (have i_woq := Imp.go woq (by omega))); omega)) (show 0 ≤ ((V 41 b)).toInt from by first | exact om_eafa9039069c r1.1 | first | omega | ((try (have i_woq := Imp.go woq (by omega))); (try (have i_tw := Imp.go tw (by omega))); (try (have i_tw := Imp.go tw (by omega))); (try (have i_woq := Imp.go woq (by omega))); omega)) (fun a h1 h2 => by rw [(show agr [] [62, 63, 64, 65, 66] V V15 from (agr.up (agr.up (agr.up (agr.up (agr.up agr.rf hV7 rfl) hV9 rfl) hV11 rfl) hV13 rfl) hV15 rfl)) 47 _ rfl]; exact tw a (by omega)) ⟨fun i9 h1 => (show agr [] [62, 63, 64, 65, 66] V V15 from (agr.up (agr.up (agr.up (agr.up (agr.up agr.rf hV7 rfl) hV9 rfl) hV11 rfl) hV13 rfl) hV15 rfl)) 47 _ rfl, fun i9 h1 h2 => by exfalso; omega, fun i9 h1 h2 => by exfalso; omega⟩ (by first | exact om_9011110baf36 | first | omega | ((try (have i_woq := Imp.go woq (by omega))); (try (have i_tw := Imp.go tw (by omega))); (try (have i_tw := Imp.go tw (by omega))); (try (have i_woq := Imp.go woq (by omega))); omega)) agr.rf hMV15 fwV15 hP hD hS (lv_sub hl [0, 1, 2, 3, 4, 5, 6, 7] rfl)
  · skip
    have f66 : 12 ≤ ((V 41 b)).toInt := b_nlt rfl (by decide) c2
    exact W.vret hx hb hr (fun t ht hW => ⟨⟨(V, L), rfl, ⟨hMV, agV, rfl, fwV, (Imp.mk (fun hp => have hp : (V 41 b).toInt < 12 := hp; (show (V 41 b).toInt = (V 41 b).toInt + 1 from by first | omega | ((try (have i_woq := Imp.go woq (by omega))); (try (have i_tw := Imp.go tw (by omega))); (try (have i_tw := Imp.go tw (by omega))); (try (have i_woq := Imp.go woq (by omega))); omega)))), (Imp.mk (fun hp => by exfalso; omega)), (Imp.mk (fun hp => by exfalso; omega)), (Imp.mk (fun hp => by exfalso; omega)), (Imp.mk (fun hp => by exfalso; omega))⟩, by rw [ht]; exact hP, va_K.moved hW.alike hK, hD⟩, hS.F ht⟩) hS.2.2 dX0_addWrap_9
abbrev r_x_readWrap9 : Room := { frames := 91, cells := 0, slots := 0, locals := 2683 }
abbrev q_x_readWrap9 (D : va_G) (ks : KS) (ad : Nat → Nat) (kk : Nat → ClassId) (V : Vf) (L : Lf) (Z : XZ) (b : Nat) (A : Nat → Prop) : Array Value → State → Outcome → State → Prop := va_Qi (fun (r : Int32) (u : Vf × Lf) => rgd bX u.1 ∧ agr [(1, 3), (1, 4), (1, 6), (1, 8), (6, 8), (6, 9), (6, 10)] [41, 42, 43, 44, 47, 48, 62, 63, 64, 65, 66] V u.1 ∧ agL [6, 44] L u.2 ∧ frX (xR b) V u.1 ∧ (0 ≤ r.toInt ∧ r.toInt ≤ 1) ∧ (TX u.1 b) ∧ (CD u.1 b) ∧ (px V u.1 b) ∧ (Imp (r.toInt = 0) (1 ≤ (u.1 1 3).toInt)) ∧ (WO u.1 b)) (fun u t => gq D A (xw ad kk u.1 u.2 Z) (xty kk Z) t) A
set_option maxHeartbeats 4000000 in
set_option maxRecDepth 100000 in
theorem x_readWrap9 (l : Launch) (D : va_G) (ks : KS) (sz : Nat) (ad : Nat → Nat) (kk : Nat → ClassId) (V : Vf) (L : Lf) (Z : XZ) (b : Nat) (hMV : rgd bX V) (hb2 : b < 2) (rbk : (V 1 1).toInt = (b : Int)) (cd : CD V b) (tx : TX V b) (woq : WO V b)  : Met l yX1_readWrap (Cond.code yX1_readWrap cX1_readWrap 6 (some .boolean) :: GW) r_x_readWrap9 (va_Pc [.ref (ad 1)] (gp D ks (xw ad kk V L Z) (xty kk Z) sz)) (q_x_readWrap9 D ks ad kk V L Z  b (va_A (xw ad kk V L Z) sz)) 0 0 (va_A (xw ad kk V L Z) sz) := by
  refine g_met (q_x_readWrap9 D ks ad kk V L Z  b) (by decide) (Nat.le_of_ble_eq_true rfl) ?_
  intro p e s m below meth c A ls H locs hx hb hr hml hown hg hlocks hin hnw hgk hP hK hD hS hA hl
  have hown : s.vm.findClass RX1 = some m.cls := hown
  have hl : lv_has ls 6 [(0, .ref (ad 1))] := hl
  have hP : va_P D vwCl (xw ad kk V L Z) H := hP
  have hD : va_D A (xw ad kk V L Z) := hD
  have hK : va_K D vwCl (xty kk Z) s := hK
  have agV : agr [(1, 3), (1, 4), (1, 6), (1, 8), (6, 8), (6, 9), (6, 10)] [41, 42, 43, 44, 47, 48, 62, 63, 64, 65, 66] V V := agr.rf
  have alL : agL [6, 44] L L := agL.rf
  have fwV : frX (xR b) V V := frX.rf
  have r1 : (-1) ≤ ((V 1 1)).toInt ∧ ((V 1 1)).toInt ≤ 1 := hMV 1 1
  refine lv_aload_n hx hb dX1_readWrap_0 rfl (lv_at hl 0 rfl) ?_
  refine va_get (D := D) (ci := 1) (v := rfN ad 38 (V 1 1)) (fs := (xfReader ad V L Z)) (C := RX1) (T := TX1) (N := 9) hx hb hg inX1 hown hK hP 1 xgReader rfl 1 (by decide) (hg _ w305) (fun _ h9 => h9) rfl dX1_readWrap_1 ?_
  refine g_topv (v := .ref (ad (38 + b))) (rfN_r (by first | omega | ((try (have i_woq := Imp.go woq (by omega))); (try (have i_tx := Imp.go tx (by omega))); (try (have i_cd := Imp.go cd (by omega))); (try (have i_cd := Imp.go cd (by omega))); (try (have i_tx := Imp.go tx (by omega))); (try (have i_woq := Imp.go woq (by omega))); omega))) ?_
  refine va_getN (D := D) (ci := 0) (v := .int (V 41 b)) (fs := (xfBook ad V b)) (C := RX0) (T := TX0) (N := 13) hx hb hg inX0 hown hK hP (38 + b) (xgBook hb2) rfl 11 (by decide) (hnw.use 626 n626 rfl) (fun _ h9 => h9) rfl dX1_readWrap_4 ?_
  have r2 : 0 ≤ ((V 41 b)).toInt ∧ ((V 41 b)).toInt ≤ 12 := hMV 41 b
  refine lv_bipush (v := 12) hx hb dX1_readWrap_7 (by decide) ?_
  refine lv_icmp_lt (tgt := 18) hx hb dX1_readWrap_9 (by decide) (fun c3 => ?_) (fun c3 => ?_)
  · skip
    have f4 : ((V 41 b)).toInt < 12 := b_lt rfl (by decide) c3
    refine lv_aload_n hx hb dX1_readWrap_18 rfl (lv_at hl 0 rfl) ?_
    refine va_get (D := D) (ci := 1) (v := .ref (ad 6)) (fs := (xfReader ad V L Z)) (C := RX1) (T := TX1) (N := 9) hx hb hg inX1 hown hK hP 1 xgReader rfl 0 (by decide) (hg _ w304) (fun _ h9 => h9) rfl dX1_readWrap_19 ?_
    refine gA_void (gA_runV (As := []) (rest := []) (ci := 9) (q0 := 6) hx hb hml hown hg hP hD hK hS hA hnw hgk (x_next l D ks H.size ad kk V L Z  hMV ) w871 w852 w853 w157 w854 rfl xgTape hdV_yX9_next ⟨Nat.le_of_ble_eq_true rfl, Nat.le_of_ble_eq_true rfl⟩ rfl hl.1 rfl (Nat.le_of_ble_eq_true rfl) dX1_readWrap_22 ⟨Nat.le_of_ble_eq_true rfl, Nat.le_of_ble_eq_true rfl⟩) hP hD hK hS hA (fun u6 H locs w7 hP hD hK hS => ?_)
    obtain ⟨V8, L9⟩ := u6
    obtain ⟨hMV8, ajV8, axL9⟩ := w7
    have alL9 : agL [6, 44] L L9 := agL.tr alL axL9 (by decide)
    have hP : va_P D vwCl (xw ad kk V8 L9 Z) H := hP
    have hD : va_D A (xw ad kk V8 L9 Z) := hD
    have hMV8 : rgd bX V8 := hMV8
    have ajV8 : agr [(6, 8), (6, 9), (6, 10)] [] V V8 := ajV8
    have agV8 : agr [(1, 3), (1, 4), (1, 6), (1, 8), (6, 8), (6, 9), (6, 10)] [41, 42, 43, 44, 47, 48, 62, 63, 64, 65, 66] V V8 := agV.tr ajV8 (by decide) (by decide)
    have fwV8 : frX (xR b) V V8 := frX.tr fwV (frX.ag ajV8 (by decide) (by decide))
    refine lv_aload_n hx hb dX1_readWrap_25 rfl (lv_at hl 0 rfl) ?_
    have pq10 : (V8 1 1).toInt = ((V 1 1)).toInt := congrArg Int32.toInt (ajV8 1 1 rfl)
    refine gA_int (gA_runV (As := []) (rest := []) (ci := 1) (q0 := 1) hx hb hml hown hg hP hD hK hS hA hnw hgk (x_isToldType l D ks H.size ad kk V8 L9 Z (b) hMV8 (show b < 2 from by first | exact om_f940a4667dd6 hb2 | first | omega | ((try (have i_woq := Imp.go woq (by omega))); (try (have i_tx := Imp.go tx (by omega))); (try (have i_cd := Imp.go cd (by omega))); (try (have i_cd := Imp.go cd (by omega))); (try (have i_tx := Imp.go tx (by omega))); (try (have i_woq := Imp.go woq (by omega))); omega)) (show (V8 1 1).toInt = (b : Int) from by first | exact om_adf531c77a0d rbk pq10 | first | omega | ((try (have i_woq := Imp.go woq (by omega))); (try (have i_tx := Imp.go tx (by omega))); (try (have i_cd := Imp.go cd (by omega))); (try (have i_cd := Imp.go cd (by omega))); (try (have i_tx := Imp.go tx (by omega))); (try (have i_woq := Imp.go woq (by omega))); omega))) w888 w890 w9 w162 w891 rfl xgReader hdV_yX1_isToldType ⟨Nat.le_of_ble_eq_true rfl, Nat.le_of_ble_eq_true rfl⟩ rfl hl.1 rfl (Nat.le_of_ble_eq_true rfl) dX1_readWrap_26 ⟨Nat.le_of_ble_eq_true rfl, Nat.le_of_ble_eq_true rfl⟩) hP hD hK hS hA (fun z11 u12 H locs w13 hP hD hK hS => ?_)
    obtain ⟨V16, L17⟩ := u12
    obtain ⟨hMV16, ajV16, axL17, rgz11, t14, t15⟩ := w13
    have axL17 : L9 = L17 := Eq.symm axL17
    subst axL17
    have hP : va_P D vwCl (xw ad kk V16 L9 Z) H := hP
    have hD : va_D A (xw ad kk V16 L9 Z) := hD
    have hMV16 : rgd bX V16 := hMV16
    have ajV16 : agr [(1, 3), (1, 6)] [] V8 V16 := ajV16
    have agV16 : agr [(1, 3), (1, 4), (1, 6), (1, 8), (6, 8), (6, 9), (6, 10)] [41, 42, 43, 44, 47, 48, 62, 63, 64, 65, 66] V V16 := agV8.tr ajV16 (by decide) (by decide)
    have fwV16 : frX (xR b) V V16 := frX.tr fwV8 (frX.ag ajV16 (by decide) (by decide))
    have rgz11 : 0 ≤ z11.toInt ∧ z11.toInt ≤ 1 := rgz11
    have t14 : Imp (z11.toInt = 1) (0 ≤ (V16 1 6).toInt ∧ (V16 1 6).toInt ≤ 23) := t14
    have t15 : Imp (z11.toInt = 0) (1 ≤ (V16 1 3).toInt) := t15
    have r18 : (-1) ≤ ((V16 1 6)).toInt ∧ ((V16 1 6)).toInt ≤ 23 := hMV16 1 6
    refine lv_if_ne (tgt := 34) hx hb dX1_readWrap_29 (by decide) (fun c19 => ?_) (fun c19 => ?_)
    · skip
      have f20 : z11.toInt ≠ 0 := b_neq rfl (by decide) c19
      refine lv_aload_n hx hb dX1_readWrap_34 rfl (lv_at hl 0 rfl) ?_
      refine va_get (D := D) (ci := 1) (v := .int (V16 1 6)) (fs := (xfReader ad V16 L9 Z)) (C := RX1) (T := TX1) (N := 9) hx hb hg inX1 hown hK hP 1 xgReader rfl 6 (by decide) (hg _ w310) (fun _ h9 => h9) rfl dX1_readWrap_35 ?_
      refine lv_istore_n (lv' := [(1, .int (V16 1 6)), (0, .ref (ad 1))]) hx hb dX1_readWrap_38 rfl hl (by decide) rfl (fun ls hl => ?_)
      refine lv_aload_n hx hb dX1_readWrap_39 rfl (lv_at hl 1 rfl) ?_
      refine va_get (D := D) (ci := 1) (v := .ref (ad 6)) (fs := (xfReader ad V16 L9 Z)) (C := RX1) (T := TX1) (N := 9) hx hb hg inX1 hown hK hP 1 xgReader rfl 0 (by decide) (hg _ w304) (fun _ h9 => h9) rfl dX1_readWrap_40 ?_
      refine gA_void (gA_runV (As := []) (rest := []) (ci := 9) (q0 := 6) hx hb hml hown hg hP hD hK hS hA hnw hgk (x_next l D ks H.size ad kk V16 L9 Z  hMV16 ) w871 w852 w853 w157 w854 rfl xgTape hdV_yX9_next ⟨Nat.le_of_ble_eq_true rfl, Nat.le_of_ble_eq_true rfl⟩ rfl hl.1 rfl (Nat.le_of_ble_eq_true rfl) dX1_readWrap_43 ⟨Nat.le_of_ble_eq_true rfl, Nat.le_of_ble_eq_true rfl⟩) hP hD hK hS hA (fun u22 H locs w23 hP hD hK hS => ?_)
      obtain ⟨V24, L25⟩ := u22
      obtain ⟨hMV24, ajV24, axL25⟩ := w23
      have alL25 : agL [6, 44] L L25 := agL.tr alL9 axL25 (by decide)
      have hP : va_P D vwCl (xw ad kk V24 L25 Z) H := hP
      have hD : va_D A (xw ad kk V24 L25 Z) := hD
      have hMV24 : rgd bX V24 := hMV24
      have ajV24 : agr [(6, 8), (6, 9), (6, 10)] [] V16 V24 := ajV24
      have agV24 : agr [(1, 3), (1, 4), (1, 6), (1, 8), (6, 8), (6, 9), (6, 10)] [41, 42, 43, 44, 47, 48, 62, 63, 64, 65, 66] V V24 := agV16.tr ajV24 (by decide) (by decide)
      have fwV24 : frX (xR b) V V24 := frX.tr fwV16 (frX.ag ajV24 (by decide) (by decide))
      refine lv_aload_n hx hb dX1_readWrap_46 rfl (lv_at hl 1 rfl) ?_
      refine lv_bipush (v := 46) hx hb dX1_readWrap_47 (by decide) ?_
      have r26 : Int32.toInt 46 = 46 := by decide
      refine gA_int (gA_runV (As := [.int 46]) (rest := []) (ci := 1) (q0 := 1) hx hb hml hown hg hP hD hK hS hA hnw hgk (x_take l D ks H.size ad kk V24 L25 Z 46 hMV24 ) w893 w895 w10 w162 w896 rfl xgReader hdV_yX1_take ⟨Nat.le_of_ble_eq_true rfl, Nat.le_of_ble_eq_true rfl⟩ rfl hl.1 rfl (Nat.le_of_ble_eq_true rfl) dX1_readWrap_49 ⟨Nat.le_of_ble_eq_true rfl, Nat.le_of_ble_eq_true rfl⟩) hP hD hK hS hA (fun z27 u28 H locs w29 hP hD hK hS => ?_)
      obtain ⟨V31, L32⟩ := u28
      obtain ⟨hMV31, ajV31, axL32, rgz27, t30⟩ := w29
      have alL32 : agL [6, 44] L L32 := agL.tr alL25 axL32 (by decide)
      have hP : va_P D vwCl (xw ad kk V31 L32 Z) H := hP
      have hD : va_D A (xw ad kk V31 L32 Z) := hD
      have hMV31 : rgd bX V31 := hMV31
      have ajV31 : agr [(1, 3), (6, 8), (6, 9), (6, 10)] [] V24 V31 := ajV31
      have agV31 : agr [(1, 3), (1, 4), (1, 6), (1, 8), (6, 8), (6, 9), (6, 10)] [41, 42, 43, 44, 47, 48, 62, 63, 64, 65, 66] V V31 := agV24.tr ajV31 (by decide) (by decide)
      have fwV31 : frX (xR b) V V31 := frX.tr fwV24 (frX.ag ajV31 (by decide) (by decide))
      have rgz27 : 0 ≤ z27.toInt ∧ z27.toInt ≤ 1 := rgz27
      have t30 : Imp (z27.toInt = 0) (1 ≤ (V31 1 3).toInt) := t30
      refine lv_if_eq (tgt := 63) hx hb dX1_readWrap_52 (by decide) (fun c33 => ?_) (fun c33 => ?_)
      · skip
        have f34 : z27.toInt = 0 := b_eq rfl (by decide) c33
        refine lv_iconst (v := 0) hx hb dX1_readWrap_63 (by decide) ?_
        have px35 : px V V31 b := px.tr (px.rf : px V V b) (px.ag (show agr [(1, 3), (1, 6), (6, 8), (6, 9), (6, 10)] [] V V31 from (agr.tr (agr.tr (agr.tr (agr.tr agr.rf ajV8 (by decide) (by decide)) ajV16 (by decide) (by decide)) ajV24 (by decide) (by decide)) ajV31 (by decide) (by decide))) (fun _ => rfl) (fun _ => rfl) (fun _ => rfl))
        have tx36 : TX V31 b := TX.ag tx (show agr [(1, 3), (1, 6), (6, 8), (6, 9), (6, 10)] [] V V31 from (agr.tr (agr.tr (agr.tr (agr.tr agr.rf ajV8 (by decide) (by decide)) ajV16 (by decide) (by decide)) ajV24 (by decide) (by decide)) ajV31 (by decide) (by decide))) px35 (fun _ => rfl) (fun _ => rfl) (fun _ => rfl) (fun _ => rfl) (fun _ => rfl) (fun _ => rfl)
        have cd37 : CD V31 b := ⟨CB.ag cd.1 (show agr [(1, 3), (1, 6), (6, 8), (6, 9), (6, 10)] [] V V31 from (agr.tr (agr.tr (agr.tr (agr.tr agr.rf ajV8 (by decide) (by decide)) ajV16 (by decide) (by decide)) ajV24 (by decide) (by decide)) ajV31 (by decide) (by decide))) (fun _ => rfl) (fun _ => rfl), CO.ag cd.2 (show agr [(1, 3), (1, 6), (6, 8), (6, 9), (6, 10)] [] V V31 from (agr.tr (agr.tr (agr.tr (agr.tr agr.rf ajV8 (by decide) (by decide)) ajV16 (by decide) (by decide)) ajV24 (by decide) (by decide)) ajV31 (by decide) (by decide))) (fun _ => rfl) (fun _ => rfl)⟩
        have px38 : px V V31 b := px.tr (px.rf : px V V b) (px.ag (show agr [(1, 3), (1, 6), (6, 8), (6, 9), (6, 10)] [] V V31 from (agr.tr (agr.tr (agr.tr (agr.tr agr.rf ajV8 (by decide) (by decide)) ajV16 (by decide) (by decide)) ajV24 (by decide) (by decide)) ajV31 (by decide) (by decide))) (fun _ => rfl) (fun _ => rfl) (fun _ => rfl))
        have wo39 : WO V31 b := WO.mv woq ((show agr [(1, 3), (1, 6), (6, 8), (6, 9), (6, 10)] [] V V31 from (agr.tr (agr.tr (agr.tr (agr.tr agr.rf ajV8 (by decide) (by decide)) ajV16 (by decide) (by decide)) ajV24 (by decide) (by decide)) ajV31 (by decide) (by decide))) 41 b rfl) (fun k9 => (show agr [(1, 3), (1, 6), (6, 8), (6, 9), (6, 10)] [] V V31 from (agr.tr (agr.tr (agr.tr (agr.tr agr.rf ajV8 (by decide) (by decide)) ajV16 (by decide) (by decide)) ajV24 (by decide) (by decide)) ajV31 (by decide) (by decide))) 47 k9 rfl) (fun k9 => (show agr [(1, 3), (1, 6), (6, 8), (6, 9), (6, 10)] [] V V31 from (agr.tr (agr.tr (agr.tr (agr.tr agr.rf ajV8 (by decide) (by decide)) ajV16 (by decide) (by decide)) ajV24 (by decide) (by decide)) ajV31 (by decide) (by decide))) 64 k9 rfl)
        exact W.zret (v := 0) hx hb hr rfl (fun t ht hW => ⟨⟨0, (V31, L32), rfl, ⟨hMV31, agV31, alL32, fwV31, (by decide), tx36, cd37, px38, (Imp.mk (fun _ => (show 1 ≤ (V31 1 3).toInt from by first | exact om_f8d8213eda45 ((Imp.go t30 (f34))) | first | omega | ((try (have i_t30 := Imp.go t30 (f34))); (try (have i_t14 := Imp.go t14 (imp_a (rgz11.1) (rgz11.2) (f20)))); omega) | ((try (have i_t30 := Imp.go t30 (by omega))); (try (have i_t15 := Imp.go t15 (by omega))); (try (have i_t14 := Imp.go t14 (by omega))); (try (have i_woq := Imp.go woq (by omega))); first | omega | ((try (have i_tx := Imp.go tx (by omega))); (try (have i_cd := Imp.go cd (by omega))); (try (have i_cd := Imp.go cd (by omega))); (try (have i_tx := Imp.go tx (by omega))); first | omega | ((try (have i_woq := Imp.go woq (by omega))); (try (have i_t14 := Imp.go t14 (by omega))); (try (have i_t15 := Imp.go t15 (by omega))); (try (have i_t30 := Imp.go t30 (by omega))); omega)))))), wo39⟩, by rw [ht]; exact hP, va_K.moved hW.alike hK, hD⟩, hS.F ht⟩) hS.2.2 dX1_readWrap_64
      · skip
        have f40 : z27.toInt ≠ 0 := b_neq rfl (by decide) c33
        refine lv_aload_n hx hb dX1_readWrap_55 rfl (lv_at hl 1 rfl) ?_
        refine lv_null hx hb dX1_readWrap_56 ?_
        have pq41 : (V31 1 1).toInt = ((V 1 1)).toInt := congrArg Int32.toInt ((ajV31 1 1 rfl).trans ((ajV24 1 1 rfl).trans ((ajV16 1 1 rfl).trans (ajV8 1 1 rfl))))
        refine gA_int (gA_runV (As := [.null]) (rest := []) (ci := 1) (q0 := 1) hx hb hml hown hg hP hD hK hS hA hnw hgk (x_takeMethodN l D ks H.size ad kk V31 L32 Z (b) hMV31 (show b < 2 from by first | exact om_f940a4667dd6 hb2 | first | omega | ((try (have i_t14 := Imp.go t14 (imp_a (rgz11.1) (rgz11.2) (f20)))); omega) | ((try (have i_t30 := Imp.go t30 (by omega))); (try (have i_t15 := Imp.go t15 (by omega))); (try (have i_t14 := Imp.go t14 (by omega))); (try (have i_woq := Imp.go woq (by omega))); first | omega | ((try (have i_tx := Imp.go tx (by omega))); (try (have i_cd := Imp.go cd (by omega))); (try (have i_cd := Imp.go cd (by omega))); (try (have i_tx := Imp.go tx (by omega))); first | omega | ((try (have i_woq := Imp.go woq (by omega))); (try (have i_t14 := Imp.go t14 (by omega))); (try (have i_t15 := Imp.go t15 (by omega))); (try (have i_t30 := Imp.go t30 (by omega))); omega)))) (show (V31 1 1).toInt = (b : Int) from by first | exact om_adf531c77a0d rbk pq41 | first | omega | ((try (have i_t14 := Imp.go t14 (imp_a (rgz11.1) (rgz11.2) (f20)))); omega) | ((try (have i_t30 := Imp.go t30 (by omega))); (try (have i_t15 := Imp.go t15 (by omega))); (try (have i_t14 := Imp.go t14 (by omega))); (try (have i_woq := Imp.go woq (by omega))); first | omega | ((try (have i_tx := Imp.go tx (by omega))); (try (have i_cd := Imp.go cd (by omega))); (try (have i_cd := Imp.go cd (by omega))); (try (have i_tx := Imp.go tx (by omega))); first | omega | ((try (have i_woq := Imp.go woq (by omega))); (try (have i_t14 := Imp.go t14 (by omega))); (try (have i_t15 := Imp.go t15 (by omega))); (try (have i_t30 := Imp.go t30 (by omega))); omega))))) w939 w941 w19 w162 w942 rfl xgReader hdV_yX1_takeMethod ⟨Nat.le_of_ble_eq_true rfl, Nat.le_of_ble_eq_true rfl⟩ rfl hl.1 rfl (Nat.le_of_ble_eq_true rfl) dX1_readWrap_57 ⟨Nat.le_of_ble_eq_true rfl, Nat.le_of_ble_eq_true rfl⟩) hP hD hK hS hA (fun z42 u43 H locs w44 hP hD hK hS => ?_)
        obtain ⟨V48, L49⟩ := u43
        obtain ⟨hMV48, ajV48, axL49, fyV48, rgz42, t45, t46, t47⟩ := w44
        have alL49 : agL [6, 44] L L49 := agL.tr alL32 axL49 (by decide)
        have hP : va_P D vwCl (xw ad kk V48 L49 Z) H := hP
        have hD : va_D A (xw ad kk V48 L49 Z) := hD
        have hMV48 : rgd bX V48 := hMV48
        have ajV48 : agr [(1, 3), (1, 6), (6, 8), (6, 9), (6, 10)] [43, 44] V31 V48 := ajV48
        have agV48 : agr [(1, 3), (1, 4), (1, 6), (1, 8), (6, 8), (6, 9), (6, 10)] [41, 42, 43, 44, 47, 48, 62, 63, 64, 65, 66] V V48 := agV31.tr ajV48 (by decide) (by decide)
        have fwV48 : frX (xR b) V V48 := frX.tr fwV31 (fyV48)
        have rgz42 : 0 ≤ z42.toInt ∧ z42.toInt ≤ 1 := rgz42
        have t45 : Imp (z42.toInt = 1) (0 ≤ (V48 1 6).toInt ∧ (V48 1 6).toInt ≤ 19) := t45
        have t46 : px V31 V48 b := t46
        have t47 : Imp (z42.toInt = 0) (1 ≤ (V48 1 3).toInt) := t47
        have r50 : (-1) ≤ ((V48 1 6)).toInt ∧ ((V48 1 6)).toInt ≤ 23 := hMV48 1 6
        refine lv_if_ne (tgt := 65) hx hb dX1_readWrap_60 (by decide) (fun c51 => ?_) (fun c51 => ?_)
        · skip
          have f52 : z42.toInt ≠ 0 := b_neq rfl (by decide) c51
          refine lv_aload_n hx hb dX1_readWrap_65 rfl (lv_at hl 1 rfl) ?_
          refine va_get (D := D) (ci := 1) (v := .int (V48 1 6)) (fs := (xfReader ad V48 L49 Z)) (C := RX1) (T := TX1) (N := 9) hx hb hg inX1 hown hK hP 1 xgReader rfl 6 (by decide) (hg _ w310) (fun _ h9 => h9) rfl dX1_readWrap_66 ?_
          refine lv_istore_n (lv' := [(2, .int (V48 1 6)), (1, .int (V16 1 6)), (0, .ref (ad 1))]) hx hb dX1_readWrap_69 rfl hl (by decide) rfl (fun ls hl => ?_)
          refine lv_aload_n hx hb dX1_readWrap_70 rfl (lv_at hl 2 rfl) ?_
          refine lv_iconst (v := 0) hx hb dX1_readWrap_71 (by decide) ?_
          refine lv_bipush (v := 99) hx hb dX1_readWrap_72 (by decide) ?_
          have r53 : Int32.toInt 0 = 0 := by decide
          have r54 : Int32.toInt 99 = 99 := by decide
          refine gA_int (gA_runV (As := [.int 0, .int 99]) (rest := []) (ci := 1) (q0 := 1) hx hb hml hown hg hP hD hK hS hA hnw hgk (x_takeNumber l D ks H.size ad kk V48 L49 Z 0 99 hMV48 (show 0 ≤ (Int32.toInt 0) from by first | exact om_1531b20f57e1 r53 | first | omega | ((try (have i_t45 := Imp.go t45 (imp_a (rgz42.1) (rgz42.2) (f52)))); (try (have i_t14 := Imp.go t14 (imp_a (rgz11.1) (rgz11.2) (f20)))); omega) | ((try (have i_t47 := Imp.go t47 (by omega))); (try (have i_t45 := Imp.go t45 (by omega))); (try (have i_t30 := Imp.go t30 (by omega))); (try (have i_t15 := Imp.go t15 (by omega))); first | omega | ((try (have i_t14 := Imp.go t14 (by omega))); (try (have i_woq := Imp.go woq (by omega))); (try (have i_tx := Imp.go tx (by omega))); (try (have i_cd := Imp.go cd (by omega))); first | omega | ((try (have i_cd := Imp.go cd (by omega))); (try (have i_tx := Imp.go tx (by omega))); (try (have i_woq := Imp.go woq (by omega))); (try (have i_t14 := Imp.go t14 (by omega))); first | omega | ((try (have i_t15 := Imp.go t15 (by omega))); (try (have i_t30 := Imp.go t30 (by omega))); (try (have i_t45 := Imp.go t45 (by omega))); (try (have i_t47 := Imp.go t47 (by omega))); omega))))) (show (Int32.toInt 99) ≤ 999999999 from by first | exact om_abbf7292d199 r54 | first | omega | ((try (have i_t45 := Imp.go t45 (imp_a (rgz42.1) (rgz42.2) (f52)))); (try (have i_t14 := Imp.go t14 (imp_a (rgz11.1) (rgz11.2) (f20)))); omega) | ((try (have i_t47 := Imp.go t47 (by omega))); (try (have i_t45 := Imp.go t45 (by omega))); (try (have i_t30 := Imp.go t30 (by omega))); (try (have i_t15 := Imp.go t15 (by omega))); first | omega | ((try (have i_t14 := Imp.go t14 (by omega))); (try (have i_woq := Imp.go woq (by omega))); (try (have i_tx := Imp.go tx (by omega))); (try (have i_cd := Imp.go cd (by omega))); first | omega | ((try (have i_cd := Imp.go cd (by omega))); (try (have i_tx := Imp.go tx (by omega))); (try (have i_woq := Imp.go woq (by omega))); (try (have i_t14 := Imp.go t14 (by omega))); first | omega | ((try (have i_t15 := Imp.go t15 (by omega))); (try (have i_t30 := Imp.go t30 (by omega))); (try (have i_t45 := Imp.go t45 (by omega))); (try (have i_t47 := Imp.go t47 (by omega))); omega)))))) w906 w908 w12 w162 w909 rfl xgReader hdV_yX1_takeNumber ⟨Nat.le_of_ble_eq_true rfl, Nat.le_of_ble_eq_true rfl⟩ rfl hl.1 rfl (Nat.le_of_ble_eq_true rfl) dX1_readWrap_74 ⟨Nat.le_of_ble_eq_true rfl, Nat.le_of_ble_eq_true rfl⟩) hP hD hK hS hA (fun z55 u56 H locs w57 hP hD hK hS => ?_)
          obtain ⟨V60, L61⟩ := u56
          obtain ⟨hMV60, ajV60, axL61, rgz55, t58, t59⟩ := w57
          have alL61 : agL [6, 44] L L61 := agL.tr alL49 axL61 (by decide)
          have hP : va_P D vwCl (xw ad kk V60 L61 Z) H := hP
          have hD : va_D A (xw ad kk V60 L61 Z) := hD
          have hMV60 : rgd bX V60 := hMV60
          have ajV60 : agr [(1, 3), (1, 8), (6, 8), (6, 9), (6, 10)] [] V48 V60 := ajV60
          have agV60 : agr [(1, 3), (1, 4), (1, 6), (1, 8), (6, 8), (6, 9), (6, 10)] [41, 42, 43, 44, 47, 48, 62, 63, 64, 65, 66] V V60 := agV48.tr ajV60 (by decide) (by decide)
          have fwV60 : frX (xR b) V V60 := frX.tr fwV48 (frX.ag ajV60 (by decide) (by decide))
          have rgz55 : 0 ≤ z55.toInt ∧ z55.toInt ≤ 1 := rgz55
          have t58 : Imp (z55.toInt = 1) ((Int32.toInt 0) ≤ (V60 1 8).toInt ∧ (V60 1 8).toInt ≤ (Int32.toInt 99)) := t58
          have t59 : Imp (z55.toInt = 0) (1 ≤ (V60 1 3).toInt) := t59
          have r62 : 0 ≤ ((V60 1 8)).toInt ∧ ((V60 1 8)).toInt ≤ 999999999 := hMV60 1 8
          refine lv_if_ne (tgt := 82) hx hb dX1_readWrap_77 (by decide) (fun c63 => ?_) (fun c63 => ?_)
          · skip
            have f64 : z55.toInt ≠ 0 := b_neq rfl (by decide) c63
            refine lv_aload_n hx hb dX1_readWrap_82 rfl (lv_at hl 2 rfl) ?_
            refine va_get (D := D) (ci := 1) (v := .int (V60 1 8)) (fs := (xfReader ad V60 L61 Z)) (C := RX1) (T := TX1) (N := 9) hx hb hg inX1 hown hK hP 1 xgReader rfl 8 (by decide) (hg _ w312) (fun _ h9 => h9) rfl dX1_readWrap_83 ?_
            refine lv_istore_n (lv' := [(3, .int (V60 1 8)), (2, .int (V48 1 6)), (1, .int (V16 1 6)), (0, .ref (ad 1))]) hx hb dX1_readWrap_86 rfl hl (by decide) rfl (fun ls hl => ?_)
            refine lv_aload_n hx hb dX1_readWrap_87 rfl (lv_at hl 3 rfl) ?_
            refine va_get (D := D) (ci := 1) (v := .ref (ad 6)) (fs := (xfReader ad V60 L61 Z)) (C := RX1) (T := TX1) (N := 9) hx hb hg inX1 hown hK hP 1 xgReader rfl 0 (by decide) (hg _ w304) (fun _ h9 => h9) rfl dX1_readWrap_88 ?_
            refine va_getN (D := D) (ci := 9) (v := .int (V60 6 9)) (fs := (xfTape ad V60 L61 Z)) (C := RX9) (T := TX9) (N := 12) hx hb hg inX9 hown hK hP 6 xgTape rfl 9 (by decide) (hnw.use 262 n262 rfl) (fun _ h9 => h9) rfl dX1_readWrap_91 ?_
            refine lv_sipush (v := 152) hx hb dX1_readWrap_94 (by decide) ?_
            refine lv_icmp_lt (tgt := 113) hx hb dX1_readWrap_97 (by decide) (fun c65 => ?_) (fun c65 => ?_)
            · skip
              have f66 : ((V60 6 9)).toInt < 152 := b_lt rfl (by decide) c65
              refine lv_aload_n hx hb dX1_readWrap_113 rfl (lv_at hl 3 rfl) ?_
              refine lv_iconst (v := 1) hx hb dX1_readWrap_114 (by decide) ?_
              have r67 : Int32.toInt 1 = 1 := by decide
              refine gA_int (gA_runV (As := [.int 1]) (rest := []) (ci := 1) (q0 := 1) hx hb hml hown hg hP hD hK hS hA hnw hgk (x_wrong l D ks H.size ad kk V60 L61 Z 1 hMV60 (by decide)) w867 w869 w6 w162 w870 rfl xgReader hdV_yX1_wrong ⟨Nat.le_of_ble_eq_true rfl, Nat.le_of_ble_eq_true rfl⟩ rfl hl.1 rfl (Nat.le_of_ble_eq_true rfl) dX1_readWrap_115 ⟨Nat.le_of_ble_eq_true rfl, Nat.le_of_ble_eq_true rfl⟩) hP hD hK hS hA (fun z68 u69 H locs w70 hP hD hK hS => ?_)
              obtain ⟨V72, L73⟩ := u69
              obtain ⟨hMV72, ajV72, axL73, rgz68, t71⟩ := w70
              have axL73 : L61 = L73 := Eq.symm axL73
              subst axL73
              have hP : va_P D vwCl (xw ad kk V72 L61 Z) H := hP
              have hD : va_D A (xw ad kk V72 L61 Z) := hD
              have hMV72 : rgd bX V72 := hMV72
              have ajV72 : agr [(1, 3)] [] V60 V72 := ajV72
              have agV72 : agr [(1, 3), (1, 4), (1, 6), (1, 8), (6, 8), (6, 9), (6, 10)] [41, 42, 43, 44, 47, 48, 62, 63, 64, 65, 66] V V72 := agV60.tr ajV72 (by decide) (by decide)
              have fwV72 : frX (xR b) V V72 := frX.tr fwV60 (frX.ag ajV72 (by decide) (by decide))
              have rgz68 : 0 ≤ z68.toInt ∧ z68.toInt ≤ 0 := rgz68
              have t71 : 1 ≤ (V72 1 3).toInt := t71
              have px74 : px V V31 b := px.tr (px.rf : px V V b) (px.ag (show agr [(1, 3), (1, 6), (6, 8), (6, 9), (6, 10)] [] V V31 from (agr.tr (agr.tr (agr.tr (agr.tr agr.rf ajV8 (by decide) (by decide)) ajV16 (by decide) (by decide)) ajV24 (by decide) (by decide)) ajV31 (by decide) (by decide))) (fun _ => rfl) (fun _ => rfl) (fun _ => rfl))
              have px75 : px V V48 b := px.tr px74 t46
              have px76 : px V V72 b := px.tr px75 (px.ag (show agr [(1, 3), (1, 8), (6, 8), (6, 9), (6, 10)] [] V48 V72 from (agr.tr (agr.tr agr.rf ajV60 (by decide) (by decide)) ajV72 (by decide) (by decide))) (fun _ => rfl) (fun _ => rfl) (fun _ => rfl))
              have tx77 : TX V72 b := TX.ag tx (show agr [(1, 3), (1, 6), (1, 8), (6, 8), (6, 9), (6, 10)] [43, 44] V V72 from (agr.tr (agr.tr (agr.tr (agr.tr (agr.tr (agr.tr (agr.tr agr.rf ajV8 (by decide) (by decide)) ajV16 (by decide) (by decide)) ajV24 (by decide) (by decide)) ajV31 (by decide) (by decide)) ajV48 (by decide) (by decide)) ajV60 (by decide) (by decide)) ajV72 (by decide) (by decide))) px76 (fun _ => rfl) (fun _ => rfl) (fun _ => rfl) (fun _ => rfl) (fun _ => rfl) (fun _ => rfl)
              have cd78 : CD V72 b := ⟨CB.ag cd.1 (show agr [(1, 3), (1, 6), (1, 8), (6, 8), (6, 9), (6, 10)] [43, 44] V V72 from (agr.tr (agr.tr (agr.tr (agr.tr (agr.tr (agr.tr (agr.tr agr.rf ajV8 (by decide) (by decide)) ajV16 (by decide) (by decide)) ajV24 (by decide) (by decide)) ajV31 (by decide) (by decide)) ajV48 (by decide) (by decide)) ajV60 (by decide) (by decide)) ajV72 (by decide) (by decide))) (fun _ => rfl) (fun _ => rfl), CO.ag cd.2 (show agr [(1, 3), (1, 6), (1, 8), (6, 8), (6, 9), (6, 10)] [43, 44] V V72 from (agr.tr (agr.tr (agr.tr (agr.tr (agr.tr (agr.tr (agr.tr agr.rf ajV8 (by decide) (by decide)) ajV16 (by decide) (by decide)) ajV24 (by decide) (by decide)) ajV31 (by decide) (by decide)) ajV48 (by decide) (by decide)) ajV60 (by decide) (by decide)) ajV72 (by decide) (by decide))) (fun _ => rfl) (fun _ => rfl)⟩
              have px79 : px V V31 b := px.tr (px.rf : px V V b) (px.ag (show agr [(1, 3), (1, 6), (6, 8), (6, 9), (6, 10)] [] V V31 from (agr.tr (agr.tr (agr.tr (agr.tr agr.rf ajV8 (by decide) (by decide)) ajV16 (by decide) (by decide)) ajV24 (by decide) (by decide)) ajV31 (by decide) (by decide))) (fun _ => rfl) (fun _ => rfl) (fun _ => rfl))
              have px80 : px V V48 b := px.tr px79 t46
              have px81 : px V V72 b := px.tr px80 (px.ag (show agr [(1, 3), (1, 8), (6, 8), (6, 9), (6, 10)] [] V48 V72 from (agr.tr (agr.tr agr.rf ajV60 (by decide) (by decide)) ajV72 (by decide) (by decide))) (fun _ => rfl) (fun _ => rfl) (fun _ => rfl))
              have wo82 : WO V72 b := WO.mv woq ((show agr [(1, 3), (1, 6), (1, 8), (6, 8), (6, 9), (6, 10)] [43, 44] V V72 from (agr.tr (agr.tr (agr.tr (agr.tr (agr.tr (agr.tr (agr.tr agr.rf ajV8 (by decide) (by decide)) ajV16 (by decide) (by decide)) ajV24 (by decide) (by decide)) ajV31 (by decide) (by decide)) ajV48 (by decide) (by decide)) ajV60 (by decide) (by decide)) ajV72 (by decide) (by decide))) 41 b rfl) (fun k9 => (show agr [(1, 3), (1, 6), (1, 8), (6, 8), (6, 9), (6, 10)] [43, 44] V V72 from (agr.tr (agr.tr (agr.tr (agr.tr (agr.tr (agr.tr (agr.tr agr.rf ajV8 (by decide) (by decide)) ajV16 (by decide) (by decide)) ajV24 (by decide) (by decide)) ajV31 (by decide) (by decide)) ajV48 (by decide) (by decide)) ajV60 (by decide) (by decide)) ajV72 (by decide) (by decide))) 47 k9 rfl) (fun k9 => (show agr [(1, 3), (1, 6), (1, 8), (6, 8), (6, 9), (6, 10)] [43, 44] V V72 from (agr.tr (agr.tr (agr.tr (agr.tr (agr.tr (agr.tr (agr.tr agr.rf ajV8 (by decide) (by decide)) ajV16 (by decide) (by decide)) ajV24 (by decide) (by decide)) ajV31 (by decide) (by decide)) ajV48 (by decide) (by decide)) ajV60 (by decide) (by decide)) ajV72 (by decide) (by decide))) 64 k9 rfl)
              exact W.zret (v := z68) hx hb hr (nb_ok (by omega)) (fun t ht hW => ⟨⟨z68, (V72, L61), rfl, ⟨hMV72, agV72, alL61, fwV72, (show 0 ≤ z68.toInt ∧ z68.toInt ≤ 1 from by first | exact om_641b3f05f166 rgz68.1 rgz68.2 | first | omega | ((try (have i_t58 := Imp.go t58 (imp_a (rgz55.1) (rgz55.2) (f64)))); (try (have i_t45 := Imp.go t45 (imp_a (rgz42.1) (rgz42.2) (f52)))); (try (have i_t14 := Imp.go t14 (imp_a (rgz11.1) (rgz11.2) (f20)))); omega) | ((try (have i_t59 := Imp.go t59 (by omega))); (try (have i_t58 := Imp.go t58 (by omega))); (try (have i_t47 := Imp.go t47 (by omega))); (try (have i_t45 := Imp.go t45 (by omega))); first | omega | ((try (have i_t30 := Imp.go t30 (by omega))); (try (have i_t15 := Imp.go t15 (by omega))); (try (have i_t14 := Imp.go t14 (by omega))); (try (have i_woq := Imp.go woq (by omega))); first | omega | ((try (have i_tx := Imp.go tx (by omega))); (try (have i_cd := Imp.go cd (by omega))); (try (have i_cd := Imp.go cd (by omega))); (try (have i_tx := Imp.go tx (by omega))); (try (have i_woq := Imp.go woq (by omega))); (try (have i_t14 := Imp.go t14 (by omega))); (try (have i_t15 := Imp.go t15 (by omega))); (try (have i_t30 := Imp.go t30 (by omega))); first | omega | ((try (have i_t45 := Imp.go t45 (by omega))); (try (have i_t47 := Imp.go t47 (by omega))); (try (have i_t58 := Imp.go t58 (by omega))); (try (have i_t59 := Imp.go t59 (by omega))); omega))))), tx77, cd78, px81, (Imp.mk (fun hp => have hp : z68.toInt = 0 := hp; (show 1 ≤ (V72 1 3).toInt from by first | exact om_f8d8213eda45 t71 | first | omega | ((try (have i_t58 := Imp.go t58 (imp_a (rgz55.1) (rgz55.2) (f64)))); (try (have i_t45 := Imp.go t45 (imp_a (rgz42.1) (rgz42.2) (f52)))); (try (have i_t14 := Imp.go t14 (imp_a (rgz11.1) (rgz11.2) (f20)))); omega) | ((try (have i_t59 := Imp.go t59 (by omega))); (try (have i_t58 := Imp.go t58 (by omega))); (try (have i_t47 := Imp.go t47 (by omega))); (try (have i_t45 := Imp.go t45 (by omega))); first | omega | ((try (have i_t30 := Imp.go t30 (by omega))); (try (have i_t15 := Imp.go t15 (by omega))); (try (have i_t14 := Imp.go t14 (by omega))); (try (have i_woq := Imp.go woq (by omega))); first | omega | ((try (have i_tx := Imp.go tx (by omega))); (try (have i_cd := Imp.go cd (by omega))); (try (have i_cd := Imp.go cd (by omega))); (try (have i_tx := Imp.go tx (by omega))); (try (have i_woq := Imp.go woq (by omega))); (try (have i_t14 := Imp.go t14 (by omega))); (try (have i_t15 := Imp.go t15 (by omega))); (try (have i_t30 := Imp.go t30 (by omega))); first | omega | ((try (have i_t45 := Imp.go t45 (by omega))); (try (have i_t47 := Imp.go t47 (by omega))); (try (have i_t58 := Imp.go t58 (by omega))); (try (have i_t59 := Imp.go t59 (by omega))); omega))))))), wo82⟩, by rw [ht]; exact hP, va_K.moved hW.alike hK, hD⟩, hS.F ht⟩) hS.2.2 dX1_readWrap_118
            · skip
              have f83 : 152 ≤ ((V60 6 9)).toInt := b_nlt rfl (by decide) c65
              refine lv_aload_n hx hb dX1_readWrap_100 rfl (lv_at hl 3 rfl) ?_
              refine va_get (D := D) (ci := 1) (v := .ref (ad 6)) (fs := (xfReader ad V60 L61 Z)) (C := RX1) (T := TX1) (N := 9) hx hb hg inX1 hown hK hP 1 xgReader rfl 0 (by decide) (hg _ w304) (fun _ h9 => h9) rfl dX1_readWrap_101 ?_
              refine va_getN (D := D) (ci := 9) (v := .int (V60 6 9)) (fs := (xfTape ad V60 L61 Z)) (C := RX9) (T := TX9) (N := 12) hx hb hg inX9 hown hK hP 6 xgTape rfl 9 (by decide) (hnw.use 262 n262 rfl) (fun _ h9 => h9) rfl dX1_readWrap_104 ?_
              refine lv_sipush (v := 155) hx hb dX1_readWrap_107 (by decide) ?_
              refine lv_icmp_le (tgt := 119) hx hb dX1_readWrap_110 (by decide) (fun c84 => ?_) (fun c84 => ?_)
              · skip
                have f85 : ((V60 6 9)).toInt ≤ 155 := b_le rfl (by decide) c84
                refine lv_aload_n hx hb dX1_readWrap_119 rfl (lv_at hl 3 rfl) ?_
                refine va_get (D := D) (ci := 1) (v := .ref (ad 6)) (fs := (xfReader ad V60 L61 Z)) (C := RX1) (T := TX1) (N := 9) hx hb hg inX1 hown hK hP 1 xgReader rfl 0 (by decide) (hg _ w304) (fun _ h9 => h9) rfl dX1_readWrap_120 ?_
                refine va_getN (D := D) (ci := 9) (v := .int (V60 6 9)) (fs := (xfTape ad V60 L61 Z)) (C := RX9) (T := TX9) (N := 12) hx hb hg inX9 hown hK hP 6 xgTape rfl 9 (by decide) (hnw.use 262 n262 rfl) (fun _ h9 => h9) rfl dX1_readWrap_123 ?_
                refine lv_sipush (v := 152) hx hb dX1_readWrap_126 (by decide) ?_
                refine lv_isub hx hb dX1_readWrap_129 ?_
                refine lv_topi (fun z86 ez86 => ?_)
                have hz86 : z86.toInt = ((V60 6 9)).toInt - 152 := i_sub ez86 rfl (by decide) (by (first | exact om_b3898fa3e17b f83 f85 | omega))
                refine lv_istore (lv' := [(4, .int z86), (3, .int (V60 1 8)), (2, .int (V48 1 6)), (1, .int (V16 1 6)), (0, .ref (ad 1))]) hx hb dX1_readWrap_130 hl (by decide) rfl (fun ls hl => ?_)
                refine lv_iload hx hb dX1_readWrap_132 (lv_at hl 0 rfl) ?_
                refine lv_iconst (v := 1) hx hb dX1_readWrap_134 (by decide) ?_
                refine lv_icmp_ne (tgt := 156) hx hb dX1_readWrap_135 (by decide) (fun c87 => ?_) (fun c87 => ?_)
                · skip
                  have f88 : z86.toInt ≠ 1 := b_neq rfl (by decide) c87
                  refine lv_aload_n hx hb dX1_readWrap_156 rfl (lv_at hl 4 rfl) ?_
                  have cd89 : CD V60 b := ⟨CB.ag cd.1 (show agr [(1, 3), (1, 6), (1, 8), (6, 8), (6, 9), (6, 10)] [43, 44] V V60 from (agr.tr (agr.tr (agr.tr (agr.tr (agr.tr (agr.tr agr.rf ajV8 (by decide) (by decide)) ajV16 (by decide) (by decide)) ajV24 (by decide) (by decide)) ajV31 (by decide) (by decide)) ajV48 (by decide) (by decide)) ajV60 (by decide) (by decide))) (fun _ => rfl) (fun _ => rfl), CO.ag cd.2 (show agr [(1, 3), (1, 6), (1, 8), (6, 8), (6, 9), (6, 10)] [43, 44] V V60 from (agr.tr (agr.tr (agr.tr (agr.tr (agr.tr (agr.tr agr.rf ajV8 (by decide) (by decide)) ajV16 (by decide) (by decide)) ajV24 (by decide) (by decide)) ajV31 (by decide) (by decide)) ajV48 (by decide) (by decide)) ajV60 (by decide) (by decide))) (fun _ => rfl) (fun _ => rfl)⟩
                  refine va_get (D := D) (ci := 1) (v := rfN ad 38 (V60 1 1)) (fs := (xfReader ad V60 L61 Z)) (C := RX1) (T := TX1) (N := 9) hx hb hg inX1 hown hK hP 1 xgReader rfl 1 (by decide) (hg _ w305) (fun _ h9 => h9) rfl dX1_readWrap_157 ?_
                  have pq90 : (V60 1 1).toInt = ((V 1 1)).toInt := congrArg Int32.toInt ((ajV60 1 1 rfl).trans ((ajV48 1 1 rfl).trans ((ajV31 1 1 rfl).trans ((ajV24 1 1 rfl).trans ((ajV16 1 1 rfl).trans (ajV8 1 1 rfl))))))
                  refine g_topv (v := .ref (ad (38 + b))) (rfN_r (by first | omega | ((try (have i_t58 := Imp.go t58 (imp_a (rgz55.1) (rgz55.2) (f64)))); (try (have i_t45 := Imp.go t45 (imp_a (rgz42.1) (rgz42.2) (f52)))); (try (have i_t14 := Imp.go t14 (imp_a (rgz11.1) (rgz11.2) (f20)))); omega) | ((try (have i_t59 := Imp.go t59 (by omega))); (try (have i_t58 := Imp.go t58 (by omega))); (try (have i_t47 := Imp.go t47 (by omega))); (try (have i_t45 := Imp.go t45 (by omega))); first | omega | ((try (have i_t30 := Imp.go t30 (by omega))); (try (have i_t15 := Imp.go t15 (by omega))); (try (have i_t14 := Imp.go t14 (by omega))); (try (have i_woq := Imp.go woq (by omega))); first | omega | ((try (have i_tx := Imp.go tx (by omega))); (try (have i_cd := Imp.go cd (by omega))); (try (have i_cd := Imp.go cd (by omega))); (try (have i_tx := Imp.go tx (by omega))); (try (have i_woq := Imp.go woq (by omega))); (try (have i_t14 := Imp.go t14 (by omega))); (try (have i_t15 := Imp.go t15 (by omega))); (try (have i_t30 := Imp.go t30 (by omega))); first | omega | ((try (have i_t45 := Imp.go t45 (by omega))); (try (have i_t47 := Imp.go t47 (by omega))); (try (have i_t58 := Imp.go t58 (by omega))); (try (have i_t59 := Imp.go t59 (by omega))); omega)))))) ?_
                  refine va_getN (D := D) (ci := 0) (v := .int (V60 42 b)) (fs := (xfBook ad V60 b)) (C := RX0) (T := TX0) (N := 13) hx hb hg inX0 hown hK hP (38 + b) (xgBook hb2) rfl 12 (by decide) (hnw.use 630 n630 rfl) (fun _ h9 => h9) rfl dX1_readWrap_160 ?_
                  refine g_top (v := (V 42 b)) ((ajV60 42 b rfl).trans ((ajV48 42 b rfl).trans ((ajV31 42 b rfl).trans ((ajV24 42 b rfl).trans ((ajV16 42 b rfl).trans (ajV8 42 b rfl)))))) ?_
                  have r91 : 0 ≤ ((V 42 b)).toInt ∧ ((V 42 b)).toInt ≤ 8200 := hMV 42 b
                  refine lv_istore (lv' := [(5, .int (V 42 b)), (4, .int z86), (3, .int (V60 1 8)), (2, .int (V48 1 6)), (1, .int (V16 1 6)), (0, .ref (ad 1))]) hx hb dX1_readWrap_163 hl (by decide) rfl (fun ls hl => ?_)
                  refine lv_aload_n hx hb dX1_readWrap_165 rfl (lv_at hl 5 rfl) ?_
                  refine va_get (D := D) (ci := 1) (v := .ref (ad 6)) (fs := (xfReader ad V60 L61 Z)) (C := RX1) (T := TX1) (N := 9) hx hb hg inX1 hown hK hP 1 xgReader rfl 0 (by decide) (hg _ w304) (fun _ h9 => h9) rfl dX1_readWrap_166 ?_
                  refine gA_void (gA_runV (As := []) (rest := []) (ci := 9) (q0 := 6) hx hb hml hown hg hP hD hK hS hA hnw hgk (x_next l D ks H.size ad kk V60 L61 Z  hMV60 ) w871 w852 w853 w157 w854 rfl xgTape hdV_yX9_next ⟨Nat.le_of_ble_eq_true rfl, Nat.le_of_ble_eq_true rfl⟩ rfl hl.1 rfl (Nat.le_of_ble_eq_true rfl) dX1_readWrap_169 ⟨Nat.le_of_ble_eq_true rfl, Nat.le_of_ble_eq_true rfl⟩) hP hD hK hS hA (fun u93 H locs w94 hP hD hK hS => ?_)
                  obtain ⟨V95, L96⟩ := u93
                  obtain ⟨hMV95, ajV95, axL96⟩ := w94
                  have alL96 : agL [6, 44] L L96 := agL.tr alL61 axL96 (by decide)
                  have hP : va_P D vwCl (xw ad kk V95 L96 Z) H := hP
                  have hD : va_D A (xw ad kk V95 L96 Z) := hD
                  have hMV95 : rgd bX V95 := hMV95
                  have ajV95 : agr [(6, 8), (6, 9), (6, 10)] [] V60 V95 := ajV95
                  have agV95 : agr [(1, 3), (1, 4), (1, 6), (1, 8), (6, 8), (6, 9), (6, 10)] [41, 42, 43, 44, 47, 48, 62, 63, 64, 65, 66] V V95 := agV60.tr ajV95 (by decide) (by decide)
                  have fwV95 : frX (xR b) V V95 := frX.tr fwV60 (frX.ag ajV95 (by decide) (by decide))
                  refine lv_aload_n hx hb dX1_readWrap_172 rfl (lv_at hl 5 rfl) ?_
                  refine lv_iload hx hb dX1_readWrap_173 (lv_at hl 1 rfl) ?_
                  refine lv_iconst (v := 1) hx hb dX1_readWrap_175 (by decide) ?_
                  refine lv_icmp_ne (tgt := 183) hx hb dX1_readWrap_176 (by decide) (fun c97 => ?_) (fun c97 => ?_)
                  · skip
                    have f98 : z86.toInt ≠ 1 := b_neq rfl (by decide) c97
                    refine lv_iconst (v := 1) hx hb dX1_readWrap_183 (by decide) ?_
                    have r99 : Int32.toInt 1 = 1 := by decide
                    have pq100 : (V95 1 1).toInt = ((V 1 1)).toInt := congrArg Int32.toInt ((ajV95 1 1 rfl).trans ((ajV60 1 1 rfl).trans ((ajV48 1 1 rfl).trans ((ajV31 1 1 rfl).trans ((ajV24 1 1 rfl).trans ((ajV16 1 1 rfl).trans (ajV8 1 1 rfl)))))))
                    have cd101 : CD V95 b := ⟨CB.ag cd.1 (show agr [(1, 3), (1, 6), (1, 8), (6, 8), (6, 9), (6, 10)] [43, 44] V V95 from (agr.tr (agr.tr (agr.tr (agr.tr (agr.tr (agr.tr (agr.tr agr.rf ajV8 (by decide) (by decide)) ajV16 (by decide) (by decide)) ajV24 (by decide) (by decide)) ajV31 (by decide) (by decide)) ajV48 (by decide) (by decide)) ajV60 (by decide) (by decide)) ajV95 (by decide) (by decide))) (fun _ => rfl) (fun _ => rfl), CO.ag cd.2 (show agr [(1, 3), (1, 6), (1, 8), (6, 8), (6, 9), (6, 10)] [43, 44] V V95 from (agr.tr (agr.tr (agr.tr (agr.tr (agr.tr (agr.tr (agr.tr agr.rf ajV8 (by decide) (by decide)) ajV16 (by decide) (by decide)) ajV24 (by decide) (by decide)) ajV31 (by decide) (by decide)) ajV48 (by decide) (by decide)) ajV60 (by decide) (by decide)) ajV95 (by decide) (by decide))) (fun _ => rfl) (fun _ => rfl)⟩
                    have px102 : px V V31 b := px.tr (px.rf : px V V b) (px.ag (show agr [(1, 3), (1, 6), (6, 8), (6, 9), (6, 10)] [] V V31 from (agr.tr (agr.tr (agr.tr (agr.tr agr.rf ajV8 (by decide) (by decide)) ajV16 (by decide) (by decide)) ajV24 (by decide) (by decide)) ajV31 (by decide) (by decide))) (fun _ => rfl) (fun _ => rfl) (fun _ => rfl))
                    have px103 : px V V48 b := px.tr px102 t46
                    have px104 : px V V95 b := px.tr px103 (px.ag (show agr [(1, 3), (1, 8), (6, 8), (6, 9), (6, 10)] [] V48 V95 from (agr.tr (agr.tr agr.rf ajV60 (by decide) (by decide)) ajV95 (by decide) (by decide))) (fun _ => rfl) (fun _ => rfl) (fun _ => rfl))
                    have tx105 : TX V95 b := TX.ag tx (show agr [(1, 3), (1, 6), (1, 8), (6, 8), (6, 9), (6, 10)] [43, 44] V V95 from (agr.tr (agr.tr (agr.tr (agr.tr (agr.tr (agr.tr (agr.tr agr.rf ajV8 (by decide) (by decide)) ajV16 (by decide) (by decide)) ajV24 (by decide) (by decide)) ajV31 (by decide) (by decide)) ajV48 (by decide) (by decide)) ajV60 (by decide) (by decide)) ajV95 (by decide) (by decide))) px104 (fun _ => rfl) (fun _ => rfl) (fun _ => rfl) (fun _ => rfl) (fun _ => rfl) (fun _ => rfl)
                    refine gA_int (gA_runV (As := [.int 1]) (rest := []) (ci := 1) (q0 := 1) hx hb hml hown hg hP hD hK hS hA hnw hgk (x_readE l D ks H.size ad kk V95 L96 Z 1 (b) hMV95 (by decide) (show b < 2 from by first | exact om_f940a4667dd6 hb2 | first | omega | ((try (have i_t58 := Imp.go t58 (imp_a (rgz55.1) (rgz55.2) (f64)))); (try (have i_t45 := Imp.go t45 (imp_a (rgz42.1) (rgz42.2) (f52)))); (try (have i_t14 := Imp.go t14 (imp_a (rgz11.1) (rgz11.2) (f20)))); omega) | ((try (have i_t59 := Imp.go t59 (by omega))); (try (have i_t58 := Imp.go t58 (by omega))); (try (have i_t47 := Imp.go t47 (by omega))); (try (have i_t45 := Imp.go t45 (by omega))); first | omega | ((try (have i_t30 := Imp.go t30 (by omega))); (try (have i_t15 := Imp.go t15 (by omega))); (try (have i_t14 := Imp.go t14 (by omega))); (try (have i_woq := Imp.go woq (by omega))); first | omega | ((try (have i_tx := Imp.go tx (by omega))); (try (have i_cd := Imp.go cd (by omega))); (try (have i_cd := Imp.go cd (by omega))); (try (have i_tx := Imp.go tx (by omega))); (try (have i_woq := Imp.go woq (by omega))); (try (have i_t14 := Imp.go t14 (by omega))); (try (have i_t15 := Imp.go t15 (by omega))); (try (have i_t30 := Imp.go t30 (by omega))); first | omega | ((try (have i_t45 := Imp.go t45 (by omega))); (try (have i_t47 := Imp.go t47 (by omega))); (try (have i_t58 := Imp.go t58 (by omega))); (try (have i_t59 := Imp.go t59 (by omega))); omega))))) (show (V95 1 1).toInt = (b : Int) from by first | exact om_adf531c77a0d rbk pq100 | first | omega | ((try (have i_t58 := Imp.go t58 (imp_a (rgz55.1) (rgz55.2) (f64)))); (try (have i_t45 := Imp.go t45 (imp_a (rgz42.1) (rgz42.2) (f52)))); (try (have i_t14 := Imp.go t14 (imp_a (rgz11.1) (rgz11.2) (f20)))); omega) | ((try (have i_t59 := Imp.go t59 (by omega))); (try (have i_t58 := Imp.go t58 (by omega))); (try (have i_t47 := Imp.go t47 (by omega))); (try (have i_t45 := Imp.go t45 (by omega))); first | omega | ((try (have i_t30 := Imp.go t30 (by omega))); (try (have i_t15 := Imp.go t15 (by omega))); (try (have i_t14 := Imp.go t14 (by omega))); (try (have i_woq := Imp.go woq (by omega))); first | omega | ((try (have i_tx := Imp.go tx (by omega))); (try (have i_cd := Imp.go cd (by omega))); (try (have i_cd := Imp.go cd (by omega))); (try (have i_tx := Imp.go tx (by omega))); (try (have i_woq := Imp.go woq (by omega))); (try (have i_t14 := Imp.go t14 (by omega))); (try (have i_t15 := Imp.go t15 (by omega))); (try (have i_t30 := Imp.go t30 (by omega))); first | omega | ((try (have i_t45 := Imp.go t45 (by omega))); (try (have i_t47 := Imp.go t47 (by omega))); (try (have i_t58 := Imp.go t58 (by omega))); (try (have i_t59 := Imp.go t59 (by omega))); omega))))) cd101 tx105) w947 w949 w20 w162 w950 rfl xgReader hdV_yX1_readE ⟨Nat.le_of_ble_eq_true rfl, Nat.le_of_ble_eq_true rfl⟩ rfl hl.1 rfl (Nat.le_of_ble_eq_true rfl) dX1_readWrap_184 ⟨Nat.le_of_ble_eq_true rfl, Nat.le_of_ble_eq_true rfl⟩) hP hD hK hS hA (fun z106 u107 H locs w108 hP hD hK hS => ?_)
                    obtain ⟨V113, L114⟩ := u107
                    obtain ⟨hMV113, ajV113, axL114, fyV113, rgz106, t109, t110, t111, t112⟩ := w108
                    have alL114 : agL [6, 44] L L114 := agL.tr alL96 axL114 (by decide)
                    have hP : va_P D vwCl (xw ad kk V113 L114 Z) H := hP
                    have hD : va_D A (xw ad kk V113 L114 Z) := hD
                    have hMV113 : rgd bX V113 := hMV113
                    have ajV113 : agr [(1, 3), (1, 4), (1, 6), (1, 8), (6, 8), (6, 9), (6, 10)] [42, 43, 44, 48] V95 V113 := ajV113
                    have agV113 : agr [(1, 3), (1, 4), (1, 6), (1, 8), (6, 8), (6, 9), (6, 10)] [41, 42, 43, 44, 47, 48, 62, 63, 64, 65, 66] V V113 := agV95.tr ajV113 (by decide) (by decide)
                    have fwV113 : frX (xR b) V V113 := frX.tr fwV95 (fyV113)
                    have rgz106 : 0 ≤ z106.toInt ∧ z106.toInt ≤ 1 := rgz106
                    have t109 : TX V113 b := t109
                    have t110 : CD V113 b := t110
                    have t111 : px V95 V113 b := t111
                    have t112 : Imp (z106.toInt = 0) (1 ≤ (V113 1 3).toInt) := t112
                    refine lv_if_ne (tgt := 192) hx hb dX1_readWrap_187 (by decide) (fun c115 => ?_) (fun c115 => ?_)
                    · skip
                      have f116 : z106.toInt ≠ 0 := b_neq rfl (by decide) c115
                      refine lv_aload_n hx hb dX1_readWrap_192 rfl (lv_at hl 5 rfl) ?_
                      refine va_get (D := D) (ci := 1) (v := rfN ad 38 (V113 1 1)) (fs := (xfReader ad V113 L114 Z)) (C := RX1) (T := TX1) (N := 9) hx hb hg inX1 hown hK hP 1 xgReader rfl 1 (by decide) (hg _ w305) (fun _ h9 => h9) rfl dX1_readWrap_193 ?_
                      have pq117 : (V113 1 1).toInt = ((V 1 1)).toInt := congrArg Int32.toInt ((ajV113 1 1 rfl).trans ((ajV95 1 1 rfl).trans ((ajV60 1 1 rfl).trans ((ajV48 1 1 rfl).trans ((ajV31 1 1 rfl).trans ((ajV24 1 1 rfl).trans ((ajV16 1 1 rfl).trans (ajV8 1 1 rfl))))))))
                      refine g_topv (v := .ref (ad (38 + b))) (rfN_r (by first | omega | ((try (have i_t58 := Imp.go t58 (imp_a (rgz55.1) (rgz55.2) (f64)))); (try (have i_t45 := Imp.go t45 (imp_a (rgz42.1) (rgz42.2) (f52)))); (try (have i_t14 := Imp.go t14 (imp_a (rgz11.1) (rgz11.2) (f20)))); omega) | ((try (have i_t112 := Imp.go t112 (by omega))); (try (have i_t59 := Imp.go t59 (by omega))); (try (have i_t58 := Imp.go t58 (by omega))); (try (have i_t47 := Imp.go t47 (by omega))); first | omega | ((try (have i_t45 := Imp.go t45 (by omega))); (try (have i_t30 := Imp.go t30 (by omega))); (try (have i_t15 := Imp.go t15 (by omega))); (try (have i_t14 := Imp.go t14 (by omega))); first | omega | ((try (have i_woq := Imp.go woq (by omega))); (try (have i_tx := Imp.go tx (by omega))); (try (have i_cd := Imp.go cd (by omega))); (try (have i_cd := Imp.go cd (by omega))); (try (have i_tx := Imp.go tx (by omega))); (try (have i_woq := Imp.go woq (by omega))); (try (have i_t14 := Imp.go t14 (by omega))); (try (have i_t15 := Imp.go t15 (by omega))); first | omega | ((try (have i_t30 := Imp.go t30 (by omega))); (try (have i_t45 := Imp.go t45 (by omega))); (try (have i_t47 := Imp.go t47 (by omega))); (try (have i_t58 := Imp.go t58 (by omega))); (try (have i_t59 := Imp.go t59 (by omega))); (try (have i_t112 := Imp.go t112 (by omega))); omega)))))) ?_
                      refine lv_iload_n hx hb dX1_readWrap_196 rfl (lv_at hl 4 rfl) ?_
                      refine lv_iload_n hx hb dX1_readWrap_197 rfl (lv_at hl 3 rfl) ?_
                      refine lv_iload_n hx hb dX1_readWrap_198 rfl (lv_at hl 2 rfl) ?_
                      refine lv_iload hx hb dX1_readWrap_199 (lv_at hl 1 rfl) ?_
                      refine lv_iload hx hb dX1_readWrap_201 (lv_at hl 0 rfl) ?_
                      have wo118 : WO V113 b := WO.mv woq ((show agr [(1, 3), (1, 4), (1, 6), (1, 8), (6, 8), (6, 9), (6, 10)] [42, 43, 44, 48] V V113 from (agr.tr (agr.tr (agr.tr (agr.tr (agr.tr (agr.tr (agr.tr (agr.tr agr.rf ajV8 (by decide) (by decide)) ajV16 (by decide) (by decide)) ajV24 (by decide) (by decide)) ajV31 (by decide) (by decide)) ajV48 (by decide) (by decide)) ajV60 (by decide) (by decide)) ajV95 (by decide) (by decide)) ajV113 (by decide) (by decide))) 41 b rfl) (fun k9 => (show agr [(1, 3), (1, 4), (1, 6), (1, 8), (6, 8), (6, 9), (6, 10)] [42, 43, 44, 48] V V113 from (agr.tr (agr.tr (agr.tr (agr.tr (agr.tr (agr.tr (agr.tr (agr.tr agr.rf ajV8 (by decide) (by decide)) ajV16 (by decide) (by decide)) ajV24 (by decide) (by decide)) ajV31 (by decide) (by decide)) ajV48 (by decide) (by decide)) ajV60 (by decide) (by decide)) ajV95 (by decide) (by decide)) ajV113 (by decide) (by decide))) 47 k9 rfl) (fun k9 => (show agr [(1, 3), (1, 4), (1, 6), (1, 8), (6, 8), (6, 9), (6, 10)] [42, 43, 44, 48] V V113 from (agr.tr (agr.tr (agr.tr (agr.tr (agr.tr (agr.tr (agr.tr (agr.tr agr.rf ajV8 (by decide) (by decide)) ajV16 (by decide) (by decide)) ajV24 (by decide) (by decide)) ajV31 (by decide) (by decide)) ajV48 (by decide) (by decide)) ajV60 (by decide) (by decide)) ajV95 (by decide) (by decide)) ajV113 (by decide) (by decide))) 64 k9 rfl)
                      refine gA_void (gA_runV (As := [.int (V16 1 6), .int (V48 1 6), .int (V60 1 8), .int z86, .int (V 42 b)]) (rest := []) (ci := 0) (q0 := (38 + b)) hx hb hml hown hg hP hD hK hS hA hnw hgk (x_addWrap9 l D ks H.size ad kk V113 L114 Z (V16 1 6) (V48 1 6) (V60 1 8) z86 (V 42 b) (b) hMV113 (by first | exact om_827712d37f0f r91.1 r91.2 | first | omega | ((try (have i_t58 := Imp.go t58 (imp_a (rgz55.1) (rgz55.2) (f64)))); (try (have i_t45 := Imp.go t45 (imp_a (rgz42.1) (rgz42.2) (f52)))); (try (have i_t14 := Imp.go t14 (imp_a (rgz11.1) (rgz11.2) (f20)))); omega) | ((try (have i_t112 := Imp.go t112 (by omega))); (try (have i_t59 := Imp.go t59 (by omega))); (try (have i_t58 := Imp.go t58 (by omega))); (try (have i_t47 := Imp.go t47 (by omega))); first | omega | ((try (have i_t45 := Imp.go t45 (by omega))); (try (have i_t30 := Imp.go t30 (by omega))); (try (have i_t15 := Imp.go t15 (by omega))); (try (have i_t14 := Imp.go t14 (by omega))); first | omega | ((try (have i_woq := Imp.go woq (by omega))); (try (have i_tx := Imp.go tx (by omega))); (try (have i_cd := Imp.go cd (by omega))); (try (have i_cd := Imp.go cd (by omega))); (try (have i_tx := Imp.go tx (by omega))); (try (have i_woq := Imp.go woq (by omega))); (try (have i_t14 := Imp.go t14 (by omega))); (try (have i_t15 := Imp.go t15 (by omega))); first | omega | ((try (have i_t30 := Imp.go t30 (by omega))); (try (have i_t45 := Imp.go t45 (by omega))); (try (have i_t47 := Imp.go t47 (by omega))); (try (have i_t58 := Imp.go t58 (by omega))); (try (have i_t59 := Imp.go t59 (by omega))); (try (have i_t112 := Imp.go t112 (by omega))); omega))))) (show b < 2 from by first | exact om_f940a4667dd6 hb2 | first | omega | ((try (have i_t58 := Imp.go t58 (imp_a (rgz55.1) (rgz55.2) (f64)))); (try (have i_t45 := Imp.go t45 (imp_a (rgz42.1) (rgz42.2) (f52)))); (try (have i_t14 := Imp.go t14 (imp_a (rgz11.1) (rgz11.2) (f20)))); omega) | ((try (have i_t112 := Imp.go t112 (by omega))); (try (have i_t59 := Imp.go t59 (by omega))); (try (have i_t58 := Imp.go t58 (by omega))); (try (have i_t47 := Imp.go t47 (by omega))); first | omega | ((try (have i_t45 := Imp.go t45 (by omega))); (try (have i_t30 := Imp.go t30 (by omega))); (try (have i_t15 := Imp.go t15 (by omega))); (try (have i_t14 := Imp.go t14 (by omega))); first | omega | ((try (have i_woq := Imp.go woq (by omega))); (try (have i_tx := Imp.go tx (by omega))); (try (have i_cd := Imp.go cd (by omega))); (try (have i_cd := Imp.go cd (by omega))); (try (have i_tx := Imp.go tx (by omega))); (try (have i_woq := Imp.go woq (by omega))); (try (have i_t14 := Imp.go t14 (by omega))); (try (have i_t15 := Imp.go t15 (by omega))); first | omega | ((try (have i_t30 := Imp.go t30 (by omega))); (try (have i_t45 := Imp.go t45 (by omega))); (try (have i_t47 := Imp.go t47 (by omega))); (try (have i_t58 := Imp.go t58 (by omega))); (try (have i_t59 := Imp.go t59 (by omega))); (try (have i_t112 := Imp.go t112 (by omega))); omega))))) t109.2.2 wo118) w999 w1000 w1001 w167 w1002 rfl (xgBook hb2) hdV_yX0_addWrap ⟨Nat.le_of_ble_eq_true rfl, Nat.le_of_ble_eq_true rfl⟩ rfl hl.1 rfl (Nat.le_of_ble_eq_true rfl) dX1_readWrap_203 ⟨Nat.le_of_ble_eq_true rfl, Nat.le_of_ble_eq_true rfl⟩) hP hD hK hS hA (fun u120 H locs w121 hP hD hK hS => ?_)
                      obtain ⟨V127, L128⟩ := u120
                      obtain ⟨hMV127, ajV127, axL128, fyV127, t122, t123, t124, t125, t126⟩ := w121
                      have axL128 : L114 = L128 := Eq.symm axL128
                      subst axL128
                      have hP : va_P D vwCl (xw ad kk V127 L114 Z) H := hP
                      have hD : va_D A (xw ad kk V127 L114 Z) := hD
                      have hMV127 : rgd bX V127 := hMV127
                      have ajV127 : agr [] [41, 47, 62, 63, 64, 65, 66] V113 V127 := ajV127
                      have agV127 : agr [(1, 3), (1, 4), (1, 6), (1, 8), (6, 8), (6, 9), (6, 10)] [41, 42, 43, 44, 47, 48, 62, 63, 64, 65, 66] V V127 := agV113.tr ajV127 (by decide) (by decide)
                      have fwV127 : frX (xR b) V V127 := frX.tr fwV113 (fyV127)
                      have t122 : Imp ((V113 41 b).toInt < 12) ((V127 41 b).toInt = (V113 41 b).toInt + 1) := t122
                      have t123 : Imp ((V113 41 b).toInt < 12) (∀ a : Nat, (a : Int) ≤ (V113 41 b).toInt → (V127 47 (12 * b + a)).toInt ≤ (V113 41 b).toInt) := t123
                      have t124 : Imp ((V113 41 b).toInt < 12) (∀ q : Nat, ¬ q = 12 * b + Int32.toNatClampNeg (V113 41 b) → V127 66 q = V113 66 q) := t124
                      have t125 : Imp ((V113 41 b).toInt < 12) (V127 66 (12 * b + Int32.toNatClampNeg (V113 41 b)) = (V 42 b)) := t125
                      have t126 : Imp ((V113 41 b).toInt < 12) (WO V127 b) := t126
                      have pq129 : (V113 41 b).toInt = ((V 41 b)).toInt := congrArg Int32.toInt ((ajV113 41 b rfl).trans ((ajV95 41 b rfl).trans ((ajV60 41 b rfl).trans ((ajV48 41 b rfl).trans ((ajV31 41 b rfl).trans ((ajV24 41 b rfl).trans ((ajV16 41 b rfl).trans (ajV8 41 b rfl))))))))
                      have k41 := i_clamp (x := V113 41 b) rfl (by have h9 : 0 ≤ (V113 41 b).toInt := (hMV113 41 b).1; omega)
                      have l41 : (V113 41 b).toInt < 12 := by (first | exact om_21343706aabc f4 pq129 | omega)
                      have cl130 : 0 ≤ (V60 42 b).toInt ∧ (V60 42 b).toInt ≤ 8200 := hMV60 42 b
                      have px131 : px V60 V95 b := px.tr (px.rf : px V60 V60 b) (px.ag (show agr [(6, 8), (6, 9), (6, 10)] [] V60 V95 from (agr.tr agr.rf ajV95 (by decide) (by decide))) (fun _ => rfl) (fun _ => rfl) (fun _ => rfl))
                      have px132 : px V60 V113 b := px.tr px131 t111
                      have g5 : gs V113 b (V60 42 b).toInt := (CB.gs cd89.1 (by omega)).up px132.1
                      have pq133 : (V60 42 b).toInt = ((V 42 b)).toInt := congrArg Int32.toInt ((ajV60 42 b rfl).trans ((ajV48 42 b rfl).trans ((ajV31 42 b rfl).trans ((ajV24 42 b rfl).trans ((ajV16 42 b rfl).trans (ajV8 42 b rfl))))))
                      have e5 := congrArg Int32.toInt (Imp.go t125 l41)
                      have tx134 : TX V127 b := TX.wrap (n := Int32.toNatClampNeg (V113 41 b)) t109 k41 (Imp.go t122 l41) (px.ag ajV127 (fun _ => rfl) (fun _ => rfl) (fun _ => rfl)) (fun _ => ajV127 56 _ rfl) (fun _ => ajV127 57 _ rfl) (fun _ => ajV127 61 _ rfl) (Imp.go t124 l41) (by rw [e5, show ((V 42 b)).toInt = (V60 42 b).toInt from by omega]; exact g5) (fun a ha => by have h9 := Imp.go t123 l41 a (by omega); omega)
                      refine lv_iconst (v := 1) hx hb dX1_readWrap_206 (by decide) ?_
                      have pq135 : (V127 1 3).toInt = ((V113 1 3)).toInt := congrArg Int32.toInt (ajV127 1 3 rfl)
                      have cd136 : CD V127 b := ⟨CB.ag t110.1 (show agr [] [41, 47, 62, 63, 64, 65, 66] V113 V127 from (agr.tr agr.rf ajV127 (by decide) (by decide))) (fun _ => rfl) (fun _ => rfl), CO.ag t110.2 (show agr [] [41, 47, 62, 63, 64, 65, 66] V113 V127 from (agr.tr agr.rf ajV127 (by decide) (by decide))) (fun _ => rfl) (fun _ => rfl)⟩
                      have px137 : px V V31 b := px.tr (px.rf : px V V b) (px.ag (show agr [(1, 3), (1, 6), (6, 8), (6, 9), (6, 10)] [] V V31 from (agr.tr (agr.tr (agr.tr (agr.tr agr.rf ajV8 (by decide) (by decide)) ajV16 (by decide) (by decide)) ajV24 (by decide) (by decide)) ajV31 (by decide) (by decide))) (fun _ => rfl) (fun _ => rfl) (fun _ => rfl))
                      have px138 : px V V48 b := px.tr px137 t46
                      have px139 : px V V95 b := px.tr px138 (px.ag (show agr [(1, 3), (1, 8), (6, 8), (6, 9), (6, 10)] [] V48 V95 from (agr.tr (agr.tr agr.rf ajV60 (by decide) (by decide)) ajV95 (by decide) (by decide))) (fun _ => rfl) (fun _ => rfl) (fun _ => rfl))
                      have px140 : px V V113 b := px.tr px139 t111
                      have px141 : px V V127 b := px.tr px140 (px.ag (show agr [] [41, 47, 62, 63, 64, 65, 66] V113 V127 from (agr.tr agr.rf ajV127 (by decide) (by decide))) (fun _ => rfl) (fun _ => rfl) (fun _ => rfl))
                      exact W.zret (v := 1) hx hb hr rfl (fun t ht hW => ⟨⟨1, (V127, L114), rfl, ⟨hMV127, agV127, alL114, fwV127, (by decide), tx134, cd136, px141, (Imp.mk (fun hp => absurd hp (by decide))), (Imp.go t126 l41)⟩, by rw [ht]; exact hP, va_K.moved hW.alike hK, hD⟩, hS.F ht⟩) hS.2.2 dX1_readWrap_207
                    · skip
                      have f142 : z106.toInt = 0 := b_eq rfl (by decide) c115
                      refine lv_iconst (v := 0) hx hb dX1_readWrap_190 (by decide) ?_
                      have px143 : px V V31 b := px.tr (px.rf : px V V b) (px.ag (show agr [(1, 3), (1, 6), (6, 8), (6, 9), (6, 10)] [] V V31 from (agr.tr (agr.tr (agr.tr (agr.tr agr.rf ajV8 (by decide) (by decide)) ajV16 (by decide) (by decide)) ajV24 (by decide) (by decide)) ajV31 (by decide) (by decide))) (fun _ => rfl) (fun _ => rfl) (fun _ => rfl))
                      have px144 : px V V48 b := px.tr px143 t46
                      have px145 : px V V95 b := px.tr px144 (px.ag (show agr [(1, 3), (1, 8), (6, 8), (6, 9), (6, 10)] [] V48 V95 from (agr.tr (agr.tr agr.rf ajV60 (by decide) (by decide)) ajV95 (by decide) (by decide))) (fun _ => rfl) (fun _ => rfl) (fun _ => rfl))
                      have px146 : px V V113 b := px.tr px145 t111
                      have wo147 : WO V113 b := WO.mv woq ((show agr [(1, 3), (1, 4), (1, 6), (1, 8), (6, 8), (6, 9), (6, 10)] [42, 43, 44, 48] V V113 from (agr.tr (agr.tr (agr.tr (agr.tr (agr.tr (agr.tr (agr.tr (agr.tr agr.rf ajV8 (by decide) (by decide)) ajV16 (by decide) (by decide)) ajV24 (by decide) (by decide)) ajV31 (by decide) (by decide)) ajV48 (by decide) (by decide)) ajV60 (by decide) (by decide)) ajV95 (by decide) (by decide)) ajV113 (by decide) (by decide))) 41 b rfl) (fun k9 => (show agr [(1, 3), (1, 4), (1, 6), (1, 8), (6, 8), (6, 9), (6, 10)] [42, 43, 44, 48] V V113 from (agr.tr (agr.tr (agr.tr (agr.tr (agr.tr (agr.tr (agr.tr (agr.tr agr.rf ajV8 (by decide) (by decide)) ajV16 (by decide) (by decide)) ajV24 (by decide) (by decide)) ajV31 (by decide) (by decide)) ajV48 (by decide) (by decide)) ajV60 (by decide) (by decide)) ajV95 (by decide) (by decide)) ajV113 (by decide) (by decide))) 47 k9 rfl) (fun k9 => (show agr [(1, 3), (1, 4), (1, 6), (1, 8), (6, 8), (6, 9), (6, 10)] [42, 43, 44, 48] V V113 from (agr.tr (agr.tr (agr.tr (agr.tr (agr.tr (agr.tr (agr.tr (agr.tr agr.rf ajV8 (by decide) (by decide)) ajV16 (by decide) (by decide)) ajV24 (by decide) (by decide)) ajV31 (by decide) (by decide)) ajV48 (by decide) (by decide)) ajV60 (by decide) (by decide)) ajV95 (by decide) (by decide)) ajV113 (by decide) (by decide))) 64 k9 rfl)
                      exact W.zret (v := 0) hx hb hr rfl (fun t ht hW => ⟨⟨0, (V113, L114), rfl, ⟨hMV113, agV113, alL114, fwV113, (by decide), t109, t110, px146, (Imp.mk (fun _ => (show 1 ≤ (V113 1 3).toInt from by first | exact om_f8d8213eda45 ((Imp.go t112 (f142))) | first | omega | ((try (have i_t112 := Imp.go t112 (f142))); (try (have i_t58 := Imp.go t58 (imp_a (rgz55.1) (rgz55.2) (f64)))); (try (have i_t45 := Imp.go t45 (imp_a (rgz42.1) (rgz42.2) (f52)))); (try (have i_t14 := Imp.go t14 (imp_a (rgz11.1) (rgz11.2) (f20)))); omega) | ((try (have i_t112 := Imp.go t112 (by omega))); (try (have i_t59 := Imp.go t59 (by omega))); (try (have i_t58 := Imp.go t58 (by omega))); (try (have i_t47 := Imp.go t47 (by omega))); first | omega | ((try (have i_t45 := Imp.go t45 (by omega))); (try (have i_t30 := Imp.go t30 (by omega))); (try (have i_t15 := Imp.go t15 (by omega))); (try (have i_t14 := Imp.go t14 (by omega))); first | omega | ((try (have i_woq := Imp.go woq (by omega))); (try (have i_tx := Imp.go tx (by omega))); (try (have i_cd := Imp.go cd (by omega))); (try (have i_cd := Imp.go cd (by omega))); (try (have i_tx := Imp.go tx (by omega))); (try (have i_woq := Imp.go woq (by omega))); (try (have i_t14 := Imp.go t14 (by omega))); (try (have i_t15 := Imp.go t15 (by omega))); first | omega | ((try (have i_t30 := Imp.go t30 (by omega))); (try (have i_t45 := Imp.go t45 (by omega))); (try (have i_t47 := Imp.go t47 (by omega))); (try (have i_t58 := Imp.go t58 (by omega))); (try (have i_t59 := Imp.go t59 (by omega))); (try (have i_t112 := Imp.go t112 (by omega))); omega))))))), wo147⟩, by rw [ht]; exact hP, va_K.moved hW.alike hK, hD⟩, hS.F ht⟩) hS.2.2 dX1_readWrap_191
                  · skip
                    have f148 : z86.toInt = 1 := b_eq rfl (by decide) c97
                    refine lv_iconst (v := 2) hx hb dX1_readWrap_179 (by decide) ?_
                    refine lv_goto (tgt := 184) hx hb dX1_readWrap_180 (by decide) ?_
                    have r149 : Int32.toInt 2 = 2 := by decide
                    have pq150 : (V95 1 1).toInt = ((V 1 1)).toInt := congrArg Int32.toInt ((ajV95 1 1 rfl).trans ((ajV60 1 1 rfl).trans ((ajV48 1 1 rfl).trans ((ajV31 1 1 rfl).trans ((ajV24 1 1 rfl).trans ((ajV16 1 1 rfl).trans (ajV8 1 1 rfl)))))))
                    have cd151 : CD V95 b := ⟨CB.ag cd.1 (show agr [(1, 3), (1, 6), (1, 8), (6, 8), (6, 9), (6, 10)] [43, 44] V V95 from (agr.tr (agr.tr (agr.tr (agr.tr (agr.tr (agr.tr (agr.tr agr.rf ajV8 (by decide) (by decide)) ajV16 (by decide) (by decide)) ajV24 (by decide) (by decide)) ajV31 (by decide) (by decide)) ajV48 (by decide) (by decide)) ajV60 (by decide) (by decide)) ajV95 (by decide) (by decide))) (fun _ => rfl) (fun _ => rfl), CO.ag cd.2 (show agr [(1, 3), (1, 6), (1, 8), (6, 8), (6, 9), (6, 10)] [43, 44] V V95 from (agr.tr (agr.tr (agr.tr (agr.tr (agr.tr (agr.tr (agr.tr agr.rf ajV8 (by decide) (by decide)) ajV16 (by decide) (by decide)) ajV24 (by decide) (by decide)) ajV31 (by decide) (by decide)) ajV48 (by decide) (by decide)) ajV60 (by decide) (by decide)) ajV95 (by decide) (by decide))) (fun _ => rfl) (fun _ => rfl)⟩
                    have px152 : px V V31 b := px.tr (px.rf : px V V b) (px.ag (show agr [(1, 3), (1, 6), (6, 8), (6, 9), (6, 10)] [] V V31 from (agr.tr (agr.tr (agr.tr (agr.tr agr.rf ajV8 (by decide) (by decide)) ajV16 (by decide) (by decide)) ajV24 (by decide) (by decide)) ajV31 (by decide) (by decide))) (fun _ => rfl) (fun _ => rfl) (fun _ => rfl))
                    have px153 : px V V48 b := px.tr px152 t46
                    have px154 : px V V95 b := px.tr px153 (px.ag (show agr [(1, 3), (1, 8), (6, 8), (6, 9), (6, 10)] [] V48 V95 from (agr.tr (agr.tr agr.rf ajV60 (by decide) (by decide)) ajV95 (by decide) (by decide))) (fun _ => rfl) (fun _ => rfl) (fun _ => rfl))
                    have tx155 : TX V95 b := TX.ag tx (show agr [(1, 3), (1, 6), (1, 8), (6, 8), (6, 9), (6, 10)] [43, 44] V V95 from (agr.tr (agr.tr (agr.tr (agr.tr (agr.tr (agr.tr (agr.tr agr.rf ajV8 (by decide) (by decide)) ajV16 (by decide) (by decide)) ajV24 (by decide) (by decide)) ajV31 (by decide) (by decide)) ajV48 (by decide) (by decide)) ajV60 (by decide) (by decide)) ajV95 (by decide) (by decide))) px154 (fun _ => rfl) (fun _ => rfl) (fun _ => rfl) (fun _ => rfl) (fun _ => rfl) (fun _ => rfl)
                    refine gA_int (gA_runV (As := [.int 2]) (rest := []) (ci := 1) (q0 := 1) hx hb hml hown hg hP hD hK hS hA hnw hgk (x_readE l D ks H.size ad kk V95 L96 Z 2 (b) hMV95 (by decide) (show b < 2 from by first | omega | ((try (have i_t58 := Imp.go t58 (imp_a (rgz55.1) (rgz55.2) (f64)))); (try (have i_t45 := Imp.go t45 (imp_a (rgz42.1) (rgz42.2) (f52)))); (try (have i_t14 := Imp.go t14 (imp_a (rgz11.1) (rgz11.2) (f20)))); omega) | ((try (have i_t59 := Imp.go t59 (by omega))); (try (have i_t58 := Imp.go t58 (by omega))); (try (have i_t47 := Imp.go t47 (by omega))); (try (have i_t45 := Imp.go t45 (by omega))); first | omega | ((try (have i_t30 := Imp.go t30 (by omega))); (try (have i_t15 := Imp.go t15 (by omega))); (try (have i_t14 := Imp.go t14 (by omega))); (try (have i_woq := Imp.go woq (by omega))); first | omega | ((try (have i_tx := Imp.go tx (by omega))); (try (have i_cd := Imp.go cd (by omega))); (try (have i_cd := Imp.go cd (by omega))); (try (have i_tx := Imp.go tx (by omega))); (try (have i_woq := Imp.go woq (by omega))); (try (have i_t14 := Imp.go t14 (by omega))); (try (have i_t15 := Imp.go t15 (by omega))); (try (have i_t30 := Imp.go t30 (by omega))); first | omega | ((try (have i_t45 := Imp.go t45 (by omega))); (try (have i_t47 := Imp.go t47 (by omega))); (try (have i_t58 := Imp.go t58 (by omega))); (try (have i_t59 := Imp.go t59 (by omega))); omega))))) (show (V95 1 1).toInt = (b : Int) from by first | omega | ((try (have i_t58 := Imp.go t58 (imp_a (rgz55.1) (rgz55.2) (f64)))); (try (have i_t45 := Imp.go t45 (imp_a (rgz42.1) (rgz42.2) (f52)))); (try (have i_t14 := Imp.go t14 (imp_a (rgz11.1) (rgz11.2) (f20)))); omega) | ((try (have i_t59 := Imp.go t59 (by omega))); (try (have i_t58 := Imp.go t58 (by omega))); (try (have i_t47 := Imp.go t47 (by omega))); (try (have i_t45 := Imp.go t45 (by omega))); first | omega | ((try (have i_t30 := Imp.go t30 (by omega))); (try (have i_t15 := Imp.go t15 (by omega))); (try (have i_t14 := Imp.go t14 (by omega))); (try (have i_woq := Imp.go woq (by omega))); first | omega | ((try (have i_tx := Imp.go tx (by omega))); (try (have i_cd := Imp.go cd (by omega))); (try (have i_cd := Imp.go cd (by omega))); (try (have i_tx := Imp.go tx (by omega))); (try (have i_woq := Imp.go woq (by omega))); (try (have i_t14 := Imp.go t14 (by omega))); (try (have i_t15 := Imp.go t15 (by omega))); (try (have i_t30 := Imp.go t30 (by omega))); first | omega | ((try (have i_t45 := Imp.go t45 (by omega))); (try (have i_t47 := Imp.go t47 (by omega))); (try (have i_t58 := Imp.go t58 (by omega))); (try (have i_t59 := Imp.go t59 (by omega))); omega))))) cd151 tx155) w947 w949 w20 w162 w950 rfl xgReader hdV_yX1_readE ⟨Nat.le_of_ble_eq_true rfl, Nat.le_of_ble_eq_true rfl⟩ rfl hl.1 rfl (Nat.le_of_ble_eq_true rfl) dX1_readWrap_184 ⟨Nat.le_of_ble_eq_true rfl, Nat.le_of_ble_eq_true rfl⟩) hP hD hK hS hA (fun z156 u157 H locs w158 hP hD hK hS => ?_)
                    obtain ⟨V163, L164⟩ := u157
                    obtain ⟨hMV163, ajV163, axL164, fyV163, rgz156, t159, t160, t161, t162⟩ := w158
                    have alL164 : agL [6, 44] L L164 := agL.tr alL96 axL164 (by decide)
                    have hP : va_P D vwCl (xw ad kk V163 L164 Z) H := hP
                    have hD : va_D A (xw ad kk V163 L164 Z) := hD
                    have hMV163 : rgd bX V163 := hMV163
                    have ajV163 : agr [(1, 3), (1, 4), (1, 6), (1, 8), (6, 8), (6, 9), (6, 10)] [42, 43, 44, 48] V95 V163 := ajV163
                    have agV163 : agr [(1, 3), (1, 4), (1, 6), (1, 8), (6, 8), (6, 9), (6, 10)] [41, 42, 43, 44, 47, 48, 62, 63, 64, 65, 66] V V163 := agV95.tr ajV163 (by decide) (by decide)
                    have fwV163 : frX (xR b) V V163 := frX.tr fwV95 (fyV163)
                    have rgz156 : 0 ≤ z156.toInt ∧ z156.toInt ≤ 1 := rgz156
                    have t159 : TX V163 b := t159
                    have t160 : CD V163 b := t160
                    have t161 : px V95 V163 b := t161
                    have t162 : Imp (z156.toInt = 0) (1 ≤ (V163 1 3).toInt) := t162
                    refine lv_if_ne (tgt := 192) hx hb dX1_readWrap_187 (by decide) (fun c165 => ?_) (fun c165 => ?_)
                    · skip
                      have f166 : z156.toInt ≠ 0 := b_neq rfl (by decide) c165
                      refine lv_aload_n hx hb dX1_readWrap_192 rfl (lv_at hl 5 rfl) ?_
                      refine va_get (D := D) (ci := 1) (v := rfN ad 38 (V163 1 1)) (fs := (xfReader ad V163 L164 Z)) (C := RX1) (T := TX1) (N := 9) hx hb hg inX1 hown hK hP 1 xgReader rfl 1 (by decide) (hg _ w305) (fun _ h9 => h9) rfl dX1_readWrap_193 ?_
                      have pq167 : (V163 1 1).toInt = ((V 1 1)).toInt := congrArg Int32.toInt ((ajV163 1 1 rfl).trans ((ajV95 1 1 rfl).trans ((ajV60 1 1 rfl).trans ((ajV48 1 1 rfl).trans ((ajV31 1 1 rfl).trans ((ajV24 1 1 rfl).trans ((ajV16 1 1 rfl).trans (ajV8 1 1 rfl))))))))
                      refine g_topv (v := .ref (ad (38 + b))) (rfN_r (by first | omega | ((try (have i_t58 := Imp.go t58 (imp_a (rgz55.1) (rgz55.2) (f64)))); (try (have i_t45 := Imp.go t45 (imp_a (rgz42.1) (rgz42.2) (f52)))); (try (have i_t14 := Imp.go t14 (imp_a (rgz11.1) (rgz11.2) (f20)))); omega) | ((try (have i_t162 := Imp.go t162 (by omega))); (try (have i_t59 := Imp.go t59 (by omega))); (try (have i_t58 := Imp.go t58 (by omega))); (try (have i_t47 := Imp.go t47 (by omega))); first | omega | ((try (have i_t45 := Imp.go t45 (by omega))); (try (have i_t30 := Imp.go t30 (by omega))); (try (have i_t15 := Imp.go t15 (by omega))); (try (have i_t14 := Imp.go t14 (by omega))); first | omega | ((try (have i_woq := Imp.go woq (by omega))); (try (have i_tx := Imp.go tx (by omega))); (try (have i_cd := Imp.go cd (by omega))); (try (have i_cd := Imp.go cd (by omega))); (try (have i_tx := Imp.go tx (by omega))); (try (have i_woq := Imp.go woq (by omega))); (try (have i_t14 := Imp.go t14 (by omega))); (try (have i_t15 := Imp.go t15 (by omega))); first | omega | ((try (have i_t30 := Imp.go t30 (by omega))); (try (have i_t45 := Imp.go t45 (by omega))); (try (have i_t47 := Imp.go t47 (by omega))); (try (have i_t58 := Imp.go t58 (by omega))); (try (have i_t59 := Imp.go t59 (by omega))); (try (have i_t162 := Imp.go t162 (by omega))); omega)))))) ?_
                      refine lv_iload_n hx hb dX1_readWrap_196 rfl (lv_at hl 4 rfl) ?_
                      refine lv_iload_n hx hb dX1_readWrap_197 rfl (lv_at hl 3 rfl) ?_
                      refine lv_iload_n hx hb dX1_readWrap_198 rfl (lv_at hl 2 rfl) ?_
                      refine lv_iload hx hb dX1_readWrap_199 (lv_at hl 1 rfl) ?_
                      refine lv_iload hx hb dX1_readWrap_201 (lv_at hl 0 rfl) ?_
                      have wo168 : WO V163 b := WO.mv woq ((show agr [(1, 3), (1, 4), (1, 6), (1, 8), (6, 8), (6, 9), (6, 10)] [42, 43, 44, 48] V V163 from (agr.tr (agr.tr (agr.tr (agr.tr (agr.tr (agr.tr (agr.tr (agr.tr agr.rf ajV8 (by decide) (by decide)) ajV16 (by decide) (by decide)) ajV24 (by decide) (by decide)) ajV31 (by decide) (by decide)) ajV48 (by decide) (by decide)) ajV60 (by decide) (by decide)) ajV95 (by decide) (by decide)) ajV163 (by decide) (by decide))) 41 b rfl) (fun k9 => (show agr [(1, 3), (1, 4), (1, 6), (1, 8), (6, 8), (6, 9), (6, 10)] [42, 43, 44, 48] V V163 from (agr.tr (agr.tr (agr.tr (agr.tr (agr.tr (agr.tr (agr.tr (agr.tr agr.rf ajV8 (by decide) (by decide)) ajV16 (by decide) (by decide)) ajV24 (by decide) (by decide)) ajV31 (by decide) (by decide)) ajV48 (by decide) (by decide)) ajV60 (by decide) (by decide)) ajV95 (by decide) (by decide)) ajV163 (by decide) (by decide))) 47 k9 rfl) (fun k9 => (show agr [(1, 3), (1, 4), (1, 6), (1, 8), (6, 8), (6, 9), (6, 10)] [42, 43, 44, 48] V V163 from (agr.tr (agr.tr (agr.tr (agr.tr (agr.tr (agr.tr (agr.tr (agr.tr agr.rf ajV8 (by decide) (by decide)) ajV16 (by decide) (by decide)) ajV24 (by decide) (by decide)) ajV31 (by decide) (by decide)) ajV48 (by decide) (by decide)) ajV60 (by decide) (by decide)) ajV95 (by decide) (by decide)) ajV163 (by decide) (by decide))) 64 k9 rfl)
                      refine gA_void (gA_runV (As := [.int (V16 1 6), .int (V48 1 6), .int (V60 1 8), .int z86, .int (V 42 b)]) (rest := []) (ci := 0) (q0 := (38 + b)) hx hb hml hown hg hP hD hK hS hA hnw hgk (x_addWrap9 l D ks H.size ad kk V163 L164 Z (V16 1 6) (V48 1 6) (V60 1 8) z86 (V 42 b) (b) hMV163 (by first | omega | ((try (have i_t58 := Imp.go t58 (imp_a (rgz55.1) (rgz55.2) (f64)))); (try (have i_t45 := Imp.go t45 (imp_a (rgz42.1) (rgz42.2) (f52)))); (try (have i_t14 := Imp.go t14 (imp_a (rgz11.1) (rgz11.2) (f20)))); omega) | ((try (have i_t162 := Imp.go t162 (by omega))); (try (have i_t59 := Imp.go t59 (by omega))); (try (have i_t58 := Imp.go t58 (by omega))); (try (have i_t47 := Imp.go t47 (by omega))); first | omega | ((try (have i_t45 := Imp.go t45 (by omega))); (try (have i_t30 := Imp.go t30 (by omega))); (try (have i_t15 := Imp.go t15 (by omega))); (try (have i_t14 := Imp.go t14 (by omega))); first | omega | ((try (have i_woq := Imp.go woq (by omega))); (try (have i_tx := Imp.go tx (by omega))); (try (have i_cd := Imp.go cd (by omega))); (try (have i_cd := Imp.go cd (by omega))); (try (have i_tx := Imp.go tx (by omega))); (try (have i_woq := Imp.go woq (by omega))); (try (have i_t14 := Imp.go t14 (by omega))); (try (have i_t15 := Imp.go t15 (by omega))); first | omega | ((try (have i_t30 := Imp.go t30 (by omega))); (try (have i_t45 := Imp.go t45 (by omega))); (try (have i_t47 := Imp.go t47 (by omega))); (try (have i_t58 := Imp.go t58 (by omega))); (try (have i_t59 := Imp.go t59 (by omega))); (try (have i_t162 := Imp.go t162 (by omega))); omega))))) (show b < 2 from by first | omega | ((try (have i_t58 := Imp.go t58 (imp_a (rgz55.1) (rgz55.2) (f64)))); (try (have i_t45 := Imp.go t45 (imp_a (rgz42.1) (rgz42.2) (f52)))); (try (have i_t14 := Imp.go t14 (imp_a (rgz11.1) (rgz11.2) (f20)))); omega) | ((try (have i_t162 := Imp.go t162 (by omega))); (try (have i_t59 := Imp.go t59 (by omega))); (try (have i_t58 := Imp.go t58 (by omega))); (try (have i_t47 := Imp.go t47 (by omega))); first | omega | ((try (have i_t45 := Imp.go t45 (by omega))); (try (have i_t30 := Imp.go t30 (by omega))); (try (have i_t15 := Imp.go t15 (by omega))); (try (have i_t14 := Imp.go t14 (by omega))); first | omega | ((try (have i_woq := Imp.go woq (by omega))); (try (have i_tx := Imp.go tx (by omega))); (try (have i_cd := Imp.go cd (by omega))); (try (have i_cd := Imp.go cd (by omega))); (try (have i_tx := Imp.go tx (by omega))); (try (have i_woq := Imp.go woq (by omega))); (try (have i_t14 := Imp.go t14 (by omega))); (try (have i_t15 := Imp.go t15 (by omega))); first | omega | ((try (have i_t30 := Imp.go t30 (by omega))); (try (have i_t45 := Imp.go t45 (by omega))); (try (have i_t47 := Imp.go t47 (by omega))); (try (have i_t58 := Imp.go t58 (by omega))); (try (have i_t59 := Imp.go t59 (by omega))); (try (have i_t162 := Imp.go t162 (by omega))); omega))))) t159.2.2 wo168) w999 w1000 w1001 w167 w1002 rfl (xgBook hb2) hdV_yX0_addWrap ⟨Nat.le_of_ble_eq_true rfl, Nat.le_of_ble_eq_true rfl⟩ rfl hl.1 rfl (Nat.le_of_ble_eq_true rfl) dX1_readWrap_203 ⟨Nat.le_of_ble_eq_true rfl, Nat.le_of_ble_eq_true rfl⟩) hP hD hK hS hA (fun u170 H locs w171 hP hD hK hS => ?_)
                      obtain ⟨V177, L178⟩ := u170
                      obtain ⟨hMV177, ajV177, axL178, fyV177, t172, t173, t174, t175, t176⟩ := w171
                      have axL178 : L164 = L178 := Eq.symm axL178
                      subst axL178
                      have hP : va_P D vwCl (xw ad kk V177 L164 Z) H := hP
                      have hD : va_D A (xw ad kk V177 L164 Z) := hD
                      have hMV177 : rgd bX V177 := hMV177
                      have ajV177 : agr [] [41, 47, 62, 63, 64, 65, 66] V163 V177 := ajV177
                      have agV177 : agr [(1, 3), (1, 4), (1, 6), (1, 8), (6, 8), (6, 9), (6, 10)] [41, 42, 43, 44, 47, 48, 62, 63, 64, 65, 66] V V177 := agV163.tr ajV177 (by decide) (by decide)
                      have fwV177 : frX (xR b) V V177 := frX.tr fwV163 (fyV177)
                      have t172 : Imp ((V163 41 b).toInt < 12) ((V177 41 b).toInt = (V163 41 b).toInt + 1) := t172
                      have t173 : Imp ((V163 41 b).toInt < 12) (∀ a : Nat, (a : Int) ≤ (V163 41 b).toInt → (V177 47 (12 * b + a)).toInt ≤ (V163 41 b).toInt) := t173
                      have t174 : Imp ((V163 41 b).toInt < 12) (∀ q : Nat, ¬ q = 12 * b + Int32.toNatClampNeg (V163 41 b) → V177 66 q = V163 66 q) := t174
                      have t175 : Imp ((V163 41 b).toInt < 12) (V177 66 (12 * b + Int32.toNatClampNeg (V163 41 b)) = (V 42 b)) := t175
                      have t176 : Imp ((V163 41 b).toInt < 12) (WO V177 b) := t176
                      have pq179 : (V163 41 b).toInt = ((V 41 b)).toInt := congrArg Int32.toInt ((ajV163 41 b rfl).trans ((ajV95 41 b rfl).trans ((ajV60 41 b rfl).trans ((ajV48 41 b rfl).trans ((ajV31 41 b rfl).trans ((ajV24 41 b rfl).trans ((ajV16 41 b rfl).trans (ajV8 41 b rfl))))))))
                      have k41 := i_clamp (x := V163 41 b) rfl (by have h9 : 0 ≤ (V163 41 b).toInt := (hMV163 41 b).1; omega)
                      have l41 : (V163 41 b).toInt < 12 := by omega
                      have cl180 : 0 ≤ (V60 42 b).toInt ∧ (V60 42 b).toInt ≤ 8200 := hMV60 42 b
                      have px181 : px V60 V95 b := px.tr (px.rf : px V60 V60 b) (px.ag (show agr [(6, 8), (6, 9), (6, 10)] [] V60 V95 from (agr.tr agr.rf ajV95 (by decide) (by decide))) (fun _ => rfl) (fun _ => rfl) (fun _ => rfl))
                      have px182 : px V60 V163 b := px.tr px181 t161
                      have g5 : gs V163 b (V60 42 b).toInt := (CB.gs cd89.1 (by omega)).up px182.1
                      have pq183 : (V60 42 b).toInt = ((V 42 b)).toInt := congrArg Int32.toInt ((ajV60 42 b rfl).trans ((ajV48 42 b rfl).trans ((ajV31 42 b rfl).trans ((ajV24 42 b rfl).trans ((ajV16 42 b rfl).trans (ajV8 42 b rfl))))))
                      have e5 := congrArg Int32.toInt (Imp.go t175 l41)
                      have tx184 : TX V177 b := TX.wrap (n := Int32.toNatClampNeg (V163 41 b)) t159 k41 (Imp.go t172 l41) (px.ag ajV177 (fun _ => rfl) (fun _ => rfl) (fun _ => rfl)) (fun _ => ajV177 56 _ rfl) (fun _ => ajV177 57 _ rfl) (fun _ => ajV177 61 _ rfl) (Imp.go t174 l41) (by rw [e5, show ((V 42 b)).toInt = (V60 42 b).toInt from by omega]; exact g5) (fun a ha => by have h9 := Imp.go t173 l41 a (by omega); omega)
                      refine lv_iconst (v := 1) hx hb dX1_readWrap_206 (by decide) ?_
                      have pq185 : (V177 1 3).toInt = ((V163 1 3)).toInt := congrArg Int32.toInt (ajV177 1 3 rfl)
                      have cd186 : CD V177 b := ⟨CB.ag t160.1 (show agr [] [41, 47, 62, 63, 64, 65, 66] V163 V177 from (agr.tr agr.rf ajV177 (by decide) (by decide))) (fun _ => rfl) (fun _ => rfl), CO.ag t160.2 (show agr [] [41, 47, 62, 63, 64, 65, 66] V163 V177 from (agr.tr agr.rf ajV177 (by decide) (by decide))) (fun _ => rfl) (fun _ => rfl)⟩
                      have px187 : px V V31 b := px.tr (px.rf : px V V b) (px.ag (show agr [(1, 3), (1, 6), (6, 8), (6, 9), (6, 10)] [] V V31 from (agr.tr (agr.tr (agr.tr (agr.tr agr.rf ajV8 (by decide) (by decide)) ajV16 (by decide) (by decide)) ajV24 (by decide) (by decide)) ajV31 (by decide) (by decide))) (fun _ => rfl) (fun _ => rfl) (fun _ => rfl))
                      have px188 : px V V48 b := px.tr px187 t46
                      have px189 : px V V95 b := px.tr px188 (px.ag (show agr [(1, 3), (1, 8), (6, 8), (6, 9), (6, 10)] [] V48 V95 from (agr.tr (agr.tr agr.rf ajV60 (by decide) (by decide)) ajV95 (by decide) (by decide))) (fun _ => rfl) (fun _ => rfl) (fun _ => rfl))
                      have px190 : px V V163 b := px.tr px189 t161
                      have px191 : px V V177 b := px.tr px190 (px.ag (show agr [] [41, 47, 62, 63, 64, 65, 66] V163 V177 from (agr.tr agr.rf ajV177 (by decide) (by decide))) (fun _ => rfl) (fun _ => rfl) (fun _ => rfl))
                      exact W.zret (v := 1) hx hb hr rfl (fun t ht hW => ⟨⟨1, (V177, L164), rfl, ⟨hMV177, agV177, alL164, fwV177, (by decide), tx184, cd186, px191, (Imp.mk (fun hp => absurd hp (by decide))), (Imp.go t176 l41)⟩, by rw [ht]; exact hP, va_K.moved hW.alike hK, hD⟩, hS.F ht⟩) hS.2.2 dX1_readWrap_207
                    · skip
                      have f192 : z156.toInt = 0 := b_eq rfl (by decide) c165
                      refine lv_iconst (v := 0) hx hb dX1_readWrap_190 (by decide) ?_
                      have px193 : px V V31 b := px.tr (px.rf : px V V b) (px.ag (show agr [(1, 3), (1, 6), (6, 8), (6, 9), (6, 10)] [] V V31 from (agr.tr (agr.tr (agr.tr (agr.tr agr.rf ajV8 (by decide) (by decide)) ajV16 (by decide) (by decide)) ajV24 (by decide) (by decide)) ajV31 (by decide) (by decide))) (fun _ => rfl) (fun _ => rfl) (fun _ => rfl))
                      have px194 : px V V48 b := px.tr px193 t46
                      have px195 : px V V95 b := px.tr px194 (px.ag (show agr [(1, 3), (1, 8), (6, 8), (6, 9), (6, 10)] [] V48 V95 from (agr.tr (agr.tr agr.rf ajV60 (by decide) (by decide)) ajV95 (by decide) (by decide))) (fun _ => rfl) (fun _ => rfl) (fun _ => rfl))
                      have px196 : px V V163 b := px.tr px195 t161
                      have wo197 : WO V163 b := WO.mv woq ((show agr [(1, 3), (1, 4), (1, 6), (1, 8), (6, 8), (6, 9), (6, 10)] [42, 43, 44, 48] V V163 from (agr.tr (agr.tr (agr.tr (agr.tr (agr.tr (agr.tr (agr.tr (agr.tr agr.rf ajV8 (by decide) (by decide)) ajV16 (by decide) (by decide)) ajV24 (by decide) (by decide)) ajV31 (by decide) (by decide)) ajV48 (by decide) (by decide)) ajV60 (by decide) (by decide)) ajV95 (by decide) (by decide)) ajV163 (by decide) (by decide))) 41 b rfl) (fun k9 => (show agr [(1, 3), (1, 4), (1, 6), (1, 8), (6, 8), (6, 9), (6, 10)] [42, 43, 44, 48] V V163 from (agr.tr (agr.tr (agr.tr (agr.tr (agr.tr (agr.tr (agr.tr (agr.tr agr.rf ajV8 (by decide) (by decide)) ajV16 (by decide) (by decide)) ajV24 (by decide) (by decide)) ajV31 (by decide) (by decide)) ajV48 (by decide) (by decide)) ajV60 (by decide) (by decide)) ajV95 (by decide) (by decide)) ajV163 (by decide) (by decide))) 47 k9 rfl) (fun k9 => (show agr [(1, 3), (1, 4), (1, 6), (1, 8), (6, 8), (6, 9), (6, 10)] [42, 43, 44, 48] V V163 from (agr.tr (agr.tr (agr.tr (agr.tr (agr.tr (agr.tr (agr.tr (agr.tr agr.rf ajV8 (by decide) (by decide)) ajV16 (by decide) (by decide)) ajV24 (by decide) (by decide)) ajV31 (by decide) (by decide)) ajV48 (by decide) (by decide)) ajV60 (by decide) (by decide)) ajV95 (by decide) (by decide)) ajV163 (by decide) (by decide))) 64 k9 rfl)
                      exact W.zret (v := 0) hx hb hr rfl (fun t ht hW => ⟨⟨0, (V163, L164), rfl, ⟨hMV163, agV163, alL164, fwV163, (by decide), t159, t160, px196, (Imp.mk (fun _ => (show 1 ≤ (V163 1 3).toInt from by first | omega | ((try (have i_t162 := Imp.go t162 (f192))); (try (have i_t58 := Imp.go t58 (imp_a (rgz55.1) (rgz55.2) (f64)))); (try (have i_t45 := Imp.go t45 (imp_a (rgz42.1) (rgz42.2) (f52)))); (try (have i_t14 := Imp.go t14 (imp_a (rgz11.1) (rgz11.2) (f20)))); omega) | ((try (have i_t162 := Imp.go t162 (by omega))); (try (have i_t59 := Imp.go t59 (by omega))); (try (have i_t58 := Imp.go t58 (by omega))); (try (have i_t47 := Imp.go t47 (by omega))); first | omega | ((try (have i_t45 := Imp.go t45 (by omega))); (try (have i_t30 := Imp.go t30 (by omega))); (try (have i_t15 := Imp.go t15 (by omega))); (try (have i_t14 := Imp.go t14 (by omega))); first | omega | ((try (have i_woq := Imp.go woq (by omega))); (try (have i_tx := Imp.go tx (by omega))); (try (have i_cd := Imp.go cd (by omega))); (try (have i_cd := Imp.go cd (by omega))); (try (have i_tx := Imp.go tx (by omega))); (try (have i_woq := Imp.go woq (by omega))); (try (have i_t14 := Imp.go t14 (by omega))); (try (have i_t15 := Imp.go t15 (by omega))); first | omega | ((try (have i_t30 := Imp.go t30 (by omega))); (try (have i_t45 := Imp.go t45 (by omega))); (try (have i_t47 := Imp.go t47 (by omega))); (try (have i_t58 := Imp.go t58 (by omega))); (try (have i_t59 := Imp.go t59 (by omega))); (try (have i_t162 := Imp.go t162 (by omega))); omega))))))), wo197⟩, by rw [ht]; exact hP, va_K.moved hW.alike hK, hD⟩, hS.F ht⟩) hS.2.2 dX1_readWrap_191
                · skip
                  have f198 : z86.toInt = 1 := b_eq rfl (by decide) c87
                  refine lv_aload_n hx hb dX1_readWrap_138 rfl (lv_at hl 4 rfl) ?_
                  refine va_get (D := D) (ci := 1) (v := rfN ad 38 (V60 1 1)) (fs := (xfReader ad V60 L61 Z)) (C := RX1) (T := TX1) (N := 9) hx hb hg inX1 hown hK hP 1 xgReader rfl 1 (by decide) (hg _ w305) (fun _ h9 => h9) rfl dX1_readWrap_139 ?_
                  have pq199 : (V60 1 1).toInt = ((V 1 1)).toInt := congrArg Int32.toInt ((ajV60 1 1 rfl).trans ((ajV48 1 1 rfl).trans ((ajV31 1 1 rfl).trans ((ajV24 1 1 rfl).trans ((ajV16 1 1 rfl).trans (ajV8 1 1 rfl))))))
                  refine g_topv (v := .ref (ad (38 + b))) (rfN_r (by first | omega | ((try (have i_t58 := Imp.go t58 (imp_a (rgz55.1) (rgz55.2) (f64)))); (try (have i_t45 := Imp.go t45 (imp_a (rgz42.1) (rgz42.2) (f52)))); (try (have i_t14 := Imp.go t14 (imp_a (rgz11.1) (rgz11.2) (f20)))); omega) | ((try (have i_t59 := Imp.go t59 (by omega))); (try (have i_t58 := Imp.go t58 (by omega))); (try (have i_t47 := Imp.go t47 (by omega))); (try (have i_t45 := Imp.go t45 (by omega))); first | omega | ((try (have i_t30 := Imp.go t30 (by omega))); (try (have i_t15 := Imp.go t15 (by omega))); (try (have i_t14 := Imp.go t14 (by omega))); (try (have i_woq := Imp.go woq (by omega))); first | omega | ((try (have i_tx := Imp.go tx (by omega))); (try (have i_cd := Imp.go cd (by omega))); (try (have i_cd := Imp.go cd (by omega))); (try (have i_tx := Imp.go tx (by omega))); (try (have i_woq := Imp.go woq (by omega))); (try (have i_t14 := Imp.go t14 (by omega))); (try (have i_t15 := Imp.go t15 (by omega))); (try (have i_t30 := Imp.go t30 (by omega))); first | omega | ((try (have i_t45 := Imp.go t45 (by omega))); (try (have i_t47 := Imp.go t47 (by omega))); (try (have i_t58 := Imp.go t58 (by omega))); (try (have i_t59 := Imp.go t59 (by omega))); omega)))))) ?_
                  refine lv_iload_n hx hb dX1_readWrap_142 rfl (lv_at hl 2 rfl) ?_
                  refine gA_int (gA_runV (As := [.int (V48 1 6)]) (rest := []) (ci := 0) (q0 := (38 + b)) hx hb hml hown hg hP hD hK hS hA hnw hgk (x_aroundsOf l D ks H.size ad kk V60 L61 Z (V48 1 6) (b) hMV60 (show b < 2 from by first | exact om_f940a4667dd6 hb2 | first | omega | ((try (have i_t58 := Imp.go t58 (imp_a (rgz55.1) (rgz55.2) (f64)))); (try (have i_t45 := Imp.go t45 (imp_a (rgz42.1) (rgz42.2) (f52)))); (try (have i_t14 := Imp.go t14 (imp_a (rgz11.1) (rgz11.2) (f20)))); omega) | ((try (have i_t59 := Imp.go t59 (by omega))); (try (have i_t58 := Imp.go t58 (by omega))); (try (have i_t47 := Imp.go t47 (by omega))); (try (have i_t45 := Imp.go t45 (by omega))); first | omega | ((try (have i_t30 := Imp.go t30 (by omega))); (try (have i_t15 := Imp.go t15 (by omega))); (try (have i_t14 := Imp.go t14 (by omega))); (try (have i_woq := Imp.go woq (by omega))); first | omega | ((try (have i_tx := Imp.go tx (by omega))); (try (have i_cd := Imp.go cd (by omega))); (try (have i_cd := Imp.go cd (by omega))); (try (have i_tx := Imp.go tx (by omega))); (try (have i_woq := Imp.go woq (by omega))); (try (have i_t14 := Imp.go t14 (by omega))); (try (have i_t15 := Imp.go t15 (by omega))); (try (have i_t30 := Imp.go t30 (by omega))); first | omega | ((try (have i_t45 := Imp.go t45 (by omega))); (try (have i_t47 := Imp.go t47 (by omega))); (try (have i_t58 := Imp.go t58 (by omega))); (try (have i_t59 := Imp.go t59 (by omega))); omega)))))) w943 w944 w945 w167 w946 rfl (xgBook hb2) hdV_yX0_aroundsOf ⟨Nat.le_of_ble_eq_true rfl, Nat.le_of_ble_eq_true rfl⟩ rfl hl.1 rfl (Nat.le_of_ble_eq_true rfl) dX1_readWrap_143 ⟨Nat.le_of_ble_eq_true rfl, Nat.le_of_ble_eq_true rfl⟩) hP hD hK hS hA (fun z200 u201 H locs w202 hP hD hK hS => ?_)
                  refine lv_iconst (v := 2) hx hb dX1_readWrap_146 (by decide) ?_
                  refine lv_icmp_lt (tgt := 156) hx hb dX1_readWrap_147 (by decide) (fun c203 => ?_) (fun c203 => ?_)
                  · skip
                    have f204 : z200.toInt < 2 := b_lt rfl (by decide) c203
                    refine lv_aload_n hx hb dX1_readWrap_156 rfl (lv_at hl 4 rfl) ?_
                    have cd205 : CD V60 b := ⟨CB.ag cd.1 (show agr [(1, 3), (1, 6), (1, 8), (6, 8), (6, 9), (6, 10)] [43, 44] V V60 from (agr.tr (agr.tr (agr.tr (agr.tr (agr.tr (agr.tr agr.rf ajV8 (by decide) (by decide)) ajV16 (by decide) (by decide)) ajV24 (by decide) (by decide)) ajV31 (by decide) (by decide)) ajV48 (by decide) (by decide)) ajV60 (by decide) (by decide))) (fun _ => rfl) (fun _ => rfl), CO.ag cd.2 (show agr [(1, 3), (1, 6), (1, 8), (6, 8), (6, 9), (6, 10)] [43, 44] V V60 from (agr.tr (agr.tr (agr.tr (agr.tr (agr.tr (agr.tr agr.rf ajV8 (by decide) (by decide)) ajV16 (by decide) (by decide)) ajV24 (by decide) (by decide)) ajV31 (by decide) (by decide)) ajV48 (by decide) (by decide)) ajV60 (by decide) (by decide))) (fun _ => rfl) (fun _ => rfl)⟩
                    refine va_get (D := D) (ci := 1) (v := rfN ad 38 (V60 1 1)) (fs := (xfReader ad V60 L61 Z)) (C := RX1) (T := TX1) (N := 9) hx hb hg inX1 hown hK hP 1 xgReader rfl 1 (by decide) (hg _ w305) (fun _ h9 => h9) rfl dX1_readWrap_157 ?_
                    refine g_topv (v := .ref (ad (38 + b))) (rfN_r (by first | omega | ((try (have i_t58 := Imp.go t58 (imp_a (rgz55.1) (rgz55.2) (f64)))); (try (have i_t45 := Imp.go t45 (imp_a (rgz42.1) (rgz42.2) (f52)))); (try (have i_t14 := Imp.go t14 (imp_a (rgz11.1) (rgz11.2) (f20)))); omega) | ((try (have i_t59 := Imp.go t59 (by omega))); (try (have i_t58 := Imp.go t58 (by omega))); (try (have i_t47 := Imp.go t47 (by omega))); (try (have i_t45 := Imp.go t45 (by omega))); first | omega | ((try (have i_t30 := Imp.go t30 (by omega))); (try (have i_t15 := Imp.go t15 (by omega))); (try (have i_t14 := Imp.go t14 (by omega))); (try (have i_woq := Imp.go woq (by omega))); first | omega | ((try (have i_tx := Imp.go tx (by omega))); (try (have i_cd := Imp.go cd (by omega))); (try (have i_cd := Imp.go cd (by omega))); (try (have i_tx := Imp.go tx (by omega))); (try (have i_woq := Imp.go woq (by omega))); (try (have i_t14 := Imp.go t14 (by omega))); (try (have i_t15 := Imp.go t15 (by omega))); (try (have i_t30 := Imp.go t30 (by omega))); first | omega | ((try (have i_t45 := Imp.go t45 (by omega))); (try (have i_t47 := Imp.go t47 (by omega))); (try (have i_t58 := Imp.go t58 (by omega))); (try (have i_t59 := Imp.go t59 (by omega))); omega)))))) ?_
                    refine va_getN (D := D) (ci := 0) (v := .int (V60 42 b)) (fs := (xfBook ad V60 b)) (C := RX0) (T := TX0) (N := 13) hx hb hg inX0 hown hK hP (38 + b) (xgBook hb2) rfl 12 (by decide) (hnw.use 630 n630 rfl) (fun _ h9 => h9) rfl dX1_readWrap_160 ?_
                    refine g_top (v := (V 42 b)) ((ajV60 42 b rfl).trans ((ajV48 42 b rfl).trans ((ajV31 42 b rfl).trans ((ajV24 42 b rfl).trans ((ajV16 42 b rfl).trans (ajV8 42 b rfl)))))) ?_
                    have r206 : 0 ≤ ((V 42 b)).toInt ∧ ((V 42 b)).toInt ≤ 8200 := hMV 42 b
                    refine lv_istore (lv' := [(5, .int (V 42 b)), (4, .int z86), (3, .int (V60 1 8)), (2, .int (V48 1 6)), (1, .int (V16 1 6)), (0, .ref (ad 1))]) hx hb dX1_readWrap_163 hl (by decide) rfl (fun ls hl => ?_)
                    refine lv_aload_n hx hb dX1_readWrap_165 rfl (lv_at hl 5 rfl) ?_
                    refine va_get (D := D) (ci := 1) (v := .ref (ad 6)) (fs := (xfReader ad V60 L61 Z)) (C := RX1) (T := TX1) (N := 9) hx hb hg inX1 hown hK hP 1 xgReader rfl 0 (by decide) (hg _ w304) (fun _ h9 => h9) rfl dX1_readWrap_166 ?_
                    refine gA_void (gA_runV (As := []) (rest := []) (ci := 9) (q0 := 6) hx hb hml hown hg hP hD hK hS hA hnw hgk (x_next l D ks H.size ad kk V60 L61 Z  hMV60 ) w871 w852 w853 w157 w854 rfl xgTape hdV_yX9_next ⟨Nat.le_of_ble_eq_true rfl, Nat.le_of_ble_eq_true rfl⟩ rfl hl.1 rfl (Nat.le_of_ble_eq_true rfl) dX1_readWrap_169 ⟨Nat.le_of_ble_eq_true rfl, Nat.le_of_ble_eq_true rfl⟩) hP hD hK hS hA (fun u208 H locs w209 hP hD hK hS => ?_)
                    obtain ⟨V210, L211⟩ := u208
                    obtain ⟨hMV210, ajV210, axL211⟩ := w209
                    have alL211 : agL [6, 44] L L211 := agL.tr alL61 axL211 (by decide)
                    have hP : va_P D vwCl (xw ad kk V210 L211 Z) H := hP
                    have hD : va_D A (xw ad kk V210 L211 Z) := hD
                    have hMV210 : rgd bX V210 := hMV210
                    have ajV210 : agr [(6, 8), (6, 9), (6, 10)] [] V60 V210 := ajV210
                    have agV210 : agr [(1, 3), (1, 4), (1, 6), (1, 8), (6, 8), (6, 9), (6, 10)] [41, 42, 43, 44, 47, 48, 62, 63, 64, 65, 66] V V210 := agV60.tr ajV210 (by decide) (by decide)
                    have fwV210 : frX (xR b) V V210 := frX.tr fwV60 (frX.ag ajV210 (by decide) (by decide))
                    refine lv_aload_n hx hb dX1_readWrap_172 rfl (lv_at hl 5 rfl) ?_
                    refine lv_iload hx hb dX1_readWrap_173 (lv_at hl 1 rfl) ?_
                    refine lv_iconst (v := 1) hx hb dX1_readWrap_175 (by decide) ?_
                    refine lv_icmp_ne (tgt := 183) hx hb dX1_readWrap_176 (by decide) (fun c212 => ?_) (fun c212 => ?_)
                    · skip
                      have f213 : z86.toInt ≠ 1 := b_neq rfl (by decide) c212
                      exfalso; first | exact om_b36fcf15d462 f198 f213 | first | omega | ((try (have i_t58 := Imp.go t58 (imp_a (rgz55.1) (rgz55.2) (f64)))); (try (have i_t45 := Imp.go t45 (imp_a (rgz42.1) (rgz42.2) (f52)))); (try (have i_t14 := Imp.go t14 (imp_a (rgz11.1) (rgz11.2) (f20)))); omega) | ((try (have i_t59 := Imp.go t59 (by omega))); (try (have i_t58 := Imp.go t58 (by omega))); (try (have i_t47 := Imp.go t47 (by omega))); (try (have i_t45 := Imp.go t45 (by omega))); first | omega | ((try (have i_t30 := Imp.go t30 (by omega))); (try (have i_t15 := Imp.go t15 (by omega))); (try (have i_t14 := Imp.go t14 (by omega))); (try (have i_woq := Imp.go woq (by omega))); first | omega | ((try (have i_tx := Imp.go tx (by omega))); (try (have i_cd := Imp.go cd (by omega))); (try (have i_cd := Imp.go cd (by omega))); (try (have i_tx := Imp.go tx (by omega))); (try (have i_woq := Imp.go woq (by omega))); (try (have i_t14 := Imp.go t14 (by omega))); (try (have i_t15 := Imp.go t15 (by omega))); (try (have i_t30 := Imp.go t30 (by omega))); first | omega | ((try (have i_t45 := Imp.go t45 (by omega))); (try (have i_t47 := Imp.go t47 (by omega))); (try (have i_t58 := Imp.go t58 (by omega))); (try (have i_t59 := Imp.go t59 (by omega))); omega))))
                    · skip
                      have f214 : z86.toInt = 1 := b_eq rfl (by decide) c212
                      refine lv_iconst (v := 2) hx hb dX1_readWrap_179 (by decide) ?_
                      refine lv_goto (tgt := 184) hx hb dX1_readWrap_180 (by decide) ?_
                      have r215 : Int32.toInt 2 = 2 := by decide
                      have pq216 : (V210 1 1).toInt = ((V 1 1)).toInt := congrArg Int32.toInt ((ajV210 1 1 rfl).trans ((ajV60 1 1 rfl).trans ((ajV48 1 1 rfl).trans ((ajV31 1 1 rfl).trans ((ajV24 1 1 rfl).trans ((ajV16 1 1 rfl).trans (ajV8 1 1 rfl)))))))
                      have cd217 : CD V210 b := ⟨CB.ag cd.1 (show agr [(1, 3), (1, 6), (1, 8), (6, 8), (6, 9), (6, 10)] [43, 44] V V210 from (agr.tr (agr.tr (agr.tr (agr.tr (agr.tr (agr.tr (agr.tr agr.rf ajV8 (by decide) (by decide)) ajV16 (by decide) (by decide)) ajV24 (by decide) (by decide)) ajV31 (by decide) (by decide)) ajV48 (by decide) (by decide)) ajV60 (by decide) (by decide)) ajV210 (by decide) (by decide))) (fun _ => rfl) (fun _ => rfl), CO.ag cd.2 (show agr [(1, 3), (1, 6), (1, 8), (6, 8), (6, 9), (6, 10)] [43, 44] V V210 from (agr.tr (agr.tr (agr.tr (agr.tr (agr.tr (agr.tr (agr.tr agr.rf ajV8 (by decide) (by decide)) ajV16 (by decide) (by decide)) ajV24 (by decide) (by decide)) ajV31 (by decide) (by decide)) ajV48 (by decide) (by decide)) ajV60 (by decide) (by decide)) ajV210 (by decide) (by decide))) (fun _ => rfl) (fun _ => rfl)⟩
                      have px218 : px V V31 b := px.tr (px.rf : px V V b) (px.ag (show agr [(1, 3), (1, 6), (6, 8), (6, 9), (6, 10)] [] V V31 from (agr.tr (agr.tr (agr.tr (agr.tr agr.rf ajV8 (by decide) (by decide)) ajV16 (by decide) (by decide)) ajV24 (by decide) (by decide)) ajV31 (by decide) (by decide))) (fun _ => rfl) (fun _ => rfl) (fun _ => rfl))
                      have px219 : px V V48 b := px.tr px218 t46
                      have px220 : px V V210 b := px.tr px219 (px.ag (show agr [(1, 3), (1, 8), (6, 8), (6, 9), (6, 10)] [] V48 V210 from (agr.tr (agr.tr agr.rf ajV60 (by decide) (by decide)) ajV210 (by decide) (by decide))) (fun _ => rfl) (fun _ => rfl) (fun _ => rfl))
                      have tx221 : TX V210 b := TX.ag tx (show agr [(1, 3), (1, 6), (1, 8), (6, 8), (6, 9), (6, 10)] [43, 44] V V210 from (agr.tr (agr.tr (agr.tr (agr.tr (agr.tr (agr.tr (agr.tr agr.rf ajV8 (by decide) (by decide)) ajV16 (by decide) (by decide)) ajV24 (by decide) (by decide)) ajV31 (by decide) (by decide)) ajV48 (by decide) (by decide)) ajV60 (by decide) (by decide)) ajV210 (by decide) (by decide))) px220 (fun _ => rfl) (fun _ => rfl) (fun _ => rfl) (fun _ => rfl) (fun _ => rfl) (fun _ => rfl)
                      refine gA_int (gA_runV (As := [.int 2]) (rest := []) (ci := 1) (q0 := 1) hx hb hml hown hg hP hD hK hS hA hnw hgk (x_readE l D ks H.size ad kk V210 L211 Z 2 (b) hMV210 (by decide) (show b < 2 from by first | exact om_f940a4667dd6 hb2 | first | omega | ((try (have i_t58 := Imp.go t58 (imp_a (rgz55.1) (rgz55.2) (f64)))); (try (have i_t45 := Imp.go t45 (imp_a (rgz42.1) (rgz42.2) (f52)))); (try (have i_t14 := Imp.go t14 (imp_a (rgz11.1) (rgz11.2) (f20)))); omega) | ((try (have i_t59 := Imp.go t59 (by omega))); (try (have i_t58 := Imp.go t58 (by omega))); (try (have i_t47 := Imp.go t47 (by omega))); (try (have i_t45 := Imp.go t45 (by omega))); first | omega | ((try (have i_t30 := Imp.go t30 (by omega))); (try (have i_t15 := Imp.go t15 (by omega))); (try (have i_t14 := Imp.go t14 (by omega))); (try (have i_woq := Imp.go woq (by omega))); first | omega | ((try (have i_tx := Imp.go tx (by omega))); (try (have i_cd := Imp.go cd (by omega))); (try (have i_cd := Imp.go cd (by omega))); (try (have i_tx := Imp.go tx (by omega))); (try (have i_woq := Imp.go woq (by omega))); (try (have i_t14 := Imp.go t14 (by omega))); (try (have i_t15 := Imp.go t15 (by omega))); (try (have i_t30 := Imp.go t30 (by omega))); first | omega | ((try (have i_t45 := Imp.go t45 (by omega))); (try (have i_t47 := Imp.go t47 (by omega))); (try (have i_t58 := Imp.go t58 (by omega))); (try (have i_t59 := Imp.go t59 (by omega))); omega))))) (show (V210 1 1).toInt = (b : Int) from by first | exact om_adf531c77a0d rbk pq216 | first | omega | ((try (have i_t58 := Imp.go t58 (imp_a (rgz55.1) (rgz55.2) (f64)))); (try (have i_t45 := Imp.go t45 (imp_a (rgz42.1) (rgz42.2) (f52)))); (try (have i_t14 := Imp.go t14 (imp_a (rgz11.1) (rgz11.2) (f20)))); omega) | ((try (have i_t59 := Imp.go t59 (by omega))); (try (have i_t58 := Imp.go t58 (by omega))); (try (have i_t47 := Imp.go t47 (by omega))); (try (have i_t45 := Imp.go t45 (by omega))); first | omega | ((try (have i_t30 := Imp.go t30 (by omega))); (try (have i_t15 := Imp.go t15 (by omega))); (try (have i_t14 := Imp.go t14 (by omega))); (try (have i_woq := Imp.go woq (by omega))); first | omega | ((try (have i_tx := Imp.go tx (by omega))); (try (have i_cd := Imp.go cd (by omega))); (try (have i_cd := Imp.go cd (by omega))); (try (have i_tx := Imp.go tx (by omega))); (try (have i_woq := Imp.go woq (by omega))); (try (have i_t14 := Imp.go t14 (by omega))); (try (have i_t15 := Imp.go t15 (by omega))); (try (have i_t30 := Imp.go t30 (by omega))); first | omega | ((try (have i_t45 := Imp.go t45 (by omega))); (try (have i_t47 := Imp.go t47 (by omega))); (try (have i_t58 := Imp.go t58 (by omega))); (try (have i_t59 := Imp.go t59 (by omega))); omega))))) cd217 tx221) w947 w949 w20 w162 w950 rfl xgReader hdV_yX1_readE ⟨Nat.le_of_ble_eq_true rfl, Nat.le_of_ble_eq_true rfl⟩ rfl hl.1 rfl (Nat.le_of_ble_eq_true rfl) dX1_readWrap_184 ⟨Nat.le_of_ble_eq_true rfl, Nat.le_of_ble_eq_true rfl⟩) hP hD hK hS hA (fun z222 u223 H locs w224 hP hD hK hS => ?_)
                      obtain ⟨V229, L230⟩ := u223
                      obtain ⟨hMV229, ajV229, axL230, fyV229, rgz222, t225, t226, t227, t228⟩ := w224
                      have alL230 : agL [6, 44] L L230 := agL.tr alL211 axL230 (by decide)
                      have hP : va_P D vwCl (xw ad kk V229 L230 Z) H := hP
                      have hD : va_D A (xw ad kk V229 L230 Z) := hD
                      have hMV229 : rgd bX V229 := hMV229
                      have ajV229 : agr [(1, 3), (1, 4), (1, 6), (1, 8), (6, 8), (6, 9), (6, 10)] [42, 43, 44, 48] V210 V229 := ajV229
                      have agV229 : agr [(1, 3), (1, 4), (1, 6), (1, 8), (6, 8), (6, 9), (6, 10)] [41, 42, 43, 44, 47, 48, 62, 63, 64, 65, 66] V V229 := agV210.tr ajV229 (by decide) (by decide)
                      have fwV229 : frX (xR b) V V229 := frX.tr fwV210 (fyV229)
                      have rgz222 : 0 ≤ z222.toInt ∧ z222.toInt ≤ 1 := rgz222
                      have t225 : TX V229 b := t225
                      have t226 : CD V229 b := t226
                      have t227 : px V210 V229 b := t227
                      have t228 : Imp (z222.toInt = 0) (1 ≤ (V229 1 3).toInt) := t228
                      refine lv_if_ne (tgt := 192) hx hb dX1_readWrap_187 (by decide) (fun c231 => ?_) (fun c231 => ?_)
                      · skip
                        have f232 : z222.toInt ≠ 0 := b_neq rfl (by decide) c231
                        refine lv_aload_n hx hb dX1_readWrap_192 rfl (lv_at hl 5 rfl) ?_
                        refine va_get (D := D) (ci := 1) (v := rfN ad 38 (V229 1 1)) (fs := (xfReader ad V229 L230 Z)) (C := RX1) (T := TX1) (N := 9) hx hb hg inX1 hown hK hP 1 xgReader rfl 1 (by decide) (hg _ w305) (fun _ h9 => h9) rfl dX1_readWrap_193 ?_
                        have pq233 : (V229 1 1).toInt = ((V 1 1)).toInt := congrArg Int32.toInt ((ajV229 1 1 rfl).trans ((ajV210 1 1 rfl).trans ((ajV60 1 1 rfl).trans ((ajV48 1 1 rfl).trans ((ajV31 1 1 rfl).trans ((ajV24 1 1 rfl).trans ((ajV16 1 1 rfl).trans (ajV8 1 1 rfl))))))))
                        refine g_topv (v := .ref (ad (38 + b))) (rfN_r (by first | omega | ((try (have i_t58 := Imp.go t58 (imp_a (rgz55.1) (rgz55.2) (f64)))); (try (have i_t45 := Imp.go t45 (imp_a (rgz42.1) (rgz42.2) (f52)))); (try (have i_t14 := Imp.go t14 (imp_a (rgz11.1) (rgz11.2) (f20)))); omega) | ((try (have i_t228 := Imp.go t228 (by omega))); (try (have i_t59 := Imp.go t59 (by omega))); (try (have i_t58 := Imp.go t58 (by omega))); (try (have i_t47 := Imp.go t47 (by omega))); first | omega | ((try (have i_t45 := Imp.go t45 (by omega))); (try (have i_t30 := Imp.go t30 (by omega))); (try (have i_t15 := Imp.go t15 (by omega))); (try (have i_t14 := Imp.go t14 (by omega))); first | omega | ((try (have i_woq := Imp.go woq (by omega))); (try (have i_tx := Imp.go tx (by omega))); (try (have i_cd := Imp.go cd (by omega))); (try (have i_cd := Imp.go cd (by omega))); (try (have i_tx := Imp.go tx (by omega))); (try (have i_woq := Imp.go woq (by omega))); (try (have i_t14 := Imp.go t14 (by omega))); (try (have i_t15 := Imp.go t15 (by omega))); first | omega | ((try (have i_t30 := Imp.go t30 (by omega))); (try (have i_t45 := Imp.go t45 (by omega))); (try (have i_t47 := Imp.go t47 (by omega))); (try (have i_t58 := Imp.go t58 (by omega))); (try (have i_t59 := Imp.go t59 (by omega))); (try (have i_t228 := Imp.go t228 (by omega))); omega)))))) ?_
                        refine lv_iload_n hx hb dX1_readWrap_196 rfl (lv_at hl 4 rfl) ?_
                        refine lv_iload_n hx hb dX1_readWrap_197 rfl (lv_at hl 3 rfl) ?_
                        refine lv_iload_n hx hb dX1_readWrap_198 rfl (lv_at hl 2 rfl) ?_
                        refine lv_iload hx hb dX1_readWrap_199 (lv_at hl 1 rfl) ?_
                        refine lv_iload hx hb dX1_readWrap_201 (lv_at hl 0 rfl) ?_
                        have wo234 : WO V229 b := WO.mv woq ((show agr [(1, 3), (1, 4), (1, 6), (1, 8), (6, 8), (6, 9), (6, 10)] [42, 43, 44, 48] V V229 from (agr.tr (agr.tr (agr.tr (agr.tr (agr.tr (agr.tr (agr.tr (agr.tr agr.rf ajV8 (by decide) (by decide)) ajV16 (by decide) (by decide)) ajV24 (by decide) (by decide)) ajV31 (by decide) (by decide)) ajV48 (by decide) (by decide)) ajV60 (by decide) (by decide)) ajV210 (by decide) (by decide)) ajV229 (by decide) (by decide))) 41 b rfl) (fun k9 => (show agr [(1, 3), (1, 4), (1, 6), (1, 8), (6, 8), (6, 9), (6, 10)] [42, 43, 44, 48] V V229 from (agr.tr (agr.tr (agr.tr (agr.tr (agr.tr (agr.tr (agr.tr (agr.tr agr.rf ajV8 (by decide) (by decide)) ajV16 (by decide) (by decide)) ajV24 (by decide) (by decide)) ajV31 (by decide) (by decide)) ajV48 (by decide) (by decide)) ajV60 (by decide) (by decide)) ajV210 (by decide) (by decide)) ajV229 (by decide) (by decide))) 47 k9 rfl) (fun k9 => (show agr [(1, 3), (1, 4), (1, 6), (1, 8), (6, 8), (6, 9), (6, 10)] [42, 43, 44, 48] V V229 from (agr.tr (agr.tr (agr.tr (agr.tr (agr.tr (agr.tr (agr.tr (agr.tr agr.rf ajV8 (by decide) (by decide)) ajV16 (by decide) (by decide)) ajV24 (by decide) (by decide)) ajV31 (by decide) (by decide)) ajV48 (by decide) (by decide)) ajV60 (by decide) (by decide)) ajV210 (by decide) (by decide)) ajV229 (by decide) (by decide))) 64 k9 rfl)
                        refine gA_void (gA_runV (As := [.int (V16 1 6), .int (V48 1 6), .int (V60 1 8), .int z86, .int (V 42 b)]) (rest := []) (ci := 0) (q0 := (38 + b)) hx hb hml hown hg hP hD hK hS hA hnw hgk (x_addWrap9 l D ks H.size ad kk V229 L230 Z (V16 1 6) (V48 1 6) (V60 1 8) z86 (V 42 b) (b) hMV229 (by first | exact om_827712d37f0f r206.1 r206.2 | first | omega | ((try (have i_t58 := Imp.go t58 (imp_a (rgz55.1) (rgz55.2) (f64)))); (try (have i_t45 := Imp.go t45 (imp_a (rgz42.1) (rgz42.2) (f52)))); (try (have i_t14 := Imp.go t14 (imp_a (rgz11.1) (rgz11.2) (f20)))); omega) | ((try (have i_t228 := Imp.go t228 (by omega))); (try (have i_t59 := Imp.go t59 (by omega))); (try (have i_t58 := Imp.go t58 (by omega))); (try (have i_t47 := Imp.go t47 (by omega))); first | omega | ((try (have i_t45 := Imp.go t45 (by omega))); (try (have i_t30 := Imp.go t30 (by omega))); (try (have i_t15 := Imp.go t15 (by omega))); (try (have i_t14 := Imp.go t14 (by omega))); first | omega | ((try (have i_woq := Imp.go woq (by omega))); (try (have i_tx := Imp.go tx (by omega))); (try (have i_cd := Imp.go cd (by omega))); (try (have i_cd := Imp.go cd (by omega))); (try (have i_tx := Imp.go tx (by omega))); (try (have i_woq := Imp.go woq (by omega))); (try (have i_t14 := Imp.go t14 (by omega))); (try (have i_t15 := Imp.go t15 (by omega))); first | omega | ((try (have i_t30 := Imp.go t30 (by omega))); (try (have i_t45 := Imp.go t45 (by omega))); (try (have i_t47 := Imp.go t47 (by omega))); (try (have i_t58 := Imp.go t58 (by omega))); (try (have i_t59 := Imp.go t59 (by omega))); (try (have i_t228 := Imp.go t228 (by omega))); omega))))) (show b < 2 from by first | exact om_f940a4667dd6 hb2 | first | omega | ((try (have i_t58 := Imp.go t58 (imp_a (rgz55.1) (rgz55.2) (f64)))); (try (have i_t45 := Imp.go t45 (imp_a (rgz42.1) (rgz42.2) (f52)))); (try (have i_t14 := Imp.go t14 (imp_a (rgz11.1) (rgz11.2) (f20)))); omega) | ((try (have i_t228 := Imp.go t228 (by omega))); (try (have i_t59 := Imp.go t59 (by omega))); (try (have i_t58 := Imp.go t58 (by omega))); (try (have i_t47 := Imp.go t47 (by omega))); first | omega | ((try (have i_t45 := Imp.go t45 (by omega))); (try (have i_t30 := Imp.go t30 (by omega))); (try (have i_t15 := Imp.go t15 (by omega))); (try (have i_t14 := Imp.go t14 (by omega))); first | omega | ((try (have i_woq := Imp.go woq (by omega))); (try (have i_tx := Imp.go tx (by omega))); (try (have i_cd := Imp.go cd (by omega))); (try (have i_cd := Imp.go cd (by omega))); (try (have i_tx := Imp.go tx (by omega))); (try (have i_woq := Imp.go woq (by omega))); (try (have i_t14 := Imp.go t14 (by omega))); (try (have i_t15 := Imp.go t15 (by omega))); first | omega | ((try (have i_t30 := Imp.go t30 (by omega))); (try (have i_t45 := Imp.go t45 (by omega))); (try (have i_t47 := Imp.go t47 (by omega))); (try (have i_t58 := Imp.go t58 (by omega))); (try (have i_t59 := Imp.go t59 (by omega))); (try (have i_t228 := Imp.go t228 (by omega))); omega))))) t225.2.2 wo234) w999 w1000 w1001 w167 w1002 rfl (xgBook hb2) hdV_yX0_addWrap ⟨Nat.le_of_ble_eq_true rfl, Nat.le_of_ble_eq_true rfl⟩ rfl hl.1 rfl (Nat.le_of_ble_eq_true rfl) dX1_readWrap_203 ⟨Nat.le_of_ble_eq_true rfl, Nat.le_of_ble_eq_true rfl⟩) hP hD hK hS hA (fun u236 H locs w237 hP hD hK hS => ?_)
                        obtain ⟨V243, L244⟩ := u236
                        obtain ⟨hMV243, ajV243, axL244, fyV243, t238, t239, t240, t241, t242⟩ := w237
                        have axL244 : L230 = L244 := Eq.symm axL244
                        subst axL244
                        have hP : va_P D vwCl (xw ad kk V243 L230 Z) H := hP
                        have hD : va_D A (xw ad kk V243 L230 Z) := hD
                        have hMV243 : rgd bX V243 := hMV243
                        have ajV243 : agr [] [41, 47, 62, 63, 64, 65, 66] V229 V243 := ajV243
                        have agV243 : agr [(1, 3), (1, 4), (1, 6), (1, 8), (6, 8), (6, 9), (6, 10)] [41, 42, 43, 44, 47, 48, 62, 63, 64, 65, 66] V V243 := agV229.tr ajV243 (by decide) (by decide)
                        have fwV243 : frX (xR b) V V243 := frX.tr fwV229 (fyV243)
                        have t238 : Imp ((V229 41 b).toInt < 12) ((V243 41 b).toInt = (V229 41 b).toInt + 1) := t238
                        have t239 : Imp ((V229 41 b).toInt < 12) (∀ a : Nat, (a : Int) ≤ (V229 41 b).toInt → (V243 47 (12 * b + a)).toInt ≤ (V229 41 b).toInt) := t239
                        have t240 : Imp ((V229 41 b).toInt < 12) (∀ q : Nat, ¬ q = 12 * b + Int32.toNatClampNeg (V229 41 b) → V243 66 q = V229 66 q) := t240
                        have t241 : Imp ((V229 41 b).toInt < 12) (V243 66 (12 * b + Int32.toNatClampNeg (V229 41 b)) = (V 42 b)) := t241
                        have t242 : Imp ((V229 41 b).toInt < 12) (WO V243 b) := t242
                        have pq245 : (V229 41 b).toInt = ((V 41 b)).toInt := congrArg Int32.toInt ((ajV229 41 b rfl).trans ((ajV210 41 b rfl).trans ((ajV60 41 b rfl).trans ((ajV48 41 b rfl).trans ((ajV31 41 b rfl).trans ((ajV24 41 b rfl).trans ((ajV16 41 b rfl).trans (ajV8 41 b rfl))))))))
                        have k41 := i_clamp (x := V229 41 b) rfl (by have h9 : 0 ≤ (V229 41 b).toInt := (hMV229 41 b).1; omega)
                        have l41 : (V229 41 b).toInt < 12 := by (first | exact om_21343706aabc f4 pq245 | omega)
                        have cl246 : 0 ≤ (V60 42 b).toInt ∧ (V60 42 b).toInt ≤ 8200 := hMV60 42 b
                        have px247 : px V60 V210 b := px.tr (px.rf : px V60 V60 b) (px.ag (show agr [(6, 8), (6, 9), (6, 10)] [] V60 V210 from (agr.tr agr.rf ajV210 (by decide) (by decide))) (fun _ => rfl) (fun _ => rfl) (fun _ => rfl))
                        have px248 : px V60 V229 b := px.tr px247 t227
                        have g5 : gs V229 b (V60 42 b).toInt := (CB.gs cd205.1 (by omega)).up px248.1
                        have pq249 : (V60 42 b).toInt = ((V 42 b)).toInt := congrArg Int32.toInt ((ajV60 42 b rfl).trans ((ajV48 42 b rfl).trans ((ajV31 42 b rfl).trans ((ajV24 42 b rfl).trans ((ajV16 42 b rfl).trans (ajV8 42 b rfl))))))
                        have e5 := congrArg Int32.toInt (Imp.go t241 l41)
                        have tx250 : TX V243 b := TX.wrap (n := Int32.toNatClampNeg (V229 41 b)) t225 k41 (Imp.go t238 l41) (px.ag ajV243 (fun _ => rfl) (fun _ => rfl) (fun _ => rfl)) (fun _ => ajV243 56 _ rfl) (fun _ => ajV243 57 _ rfl) (fun _ => ajV243 61 _ rfl) (Imp.go t240 l41) (by rw [e5, show ((V 42 b)).toInt = (V60 42 b).toInt from by omega]; exact g5) (fun a ha => by have h9 := Imp.go t239 l41 a (by omega); omega)
                        refine lv_iconst (v := 1) hx hb dX1_readWrap_206 (by decide) ?_
                        have pq251 : (V243 1 3).toInt = ((V229 1 3)).toInt := congrArg Int32.toInt (ajV243 1 3 rfl)
                        have cd252 : CD V243 b := ⟨CB.ag t226.1 (show agr [] [41, 47, 62, 63, 64, 65, 66] V229 V243 from (agr.tr agr.rf ajV243 (by decide) (by decide))) (fun _ => rfl) (fun _ => rfl), CO.ag t226.2 (show agr [] [41, 47, 62, 63, 64, 65, 66] V229 V243 from (agr.tr agr.rf ajV243 (by decide) (by decide))) (fun _ => rfl) (fun _ => rfl)⟩
                        have px253 : px V V31 b := px.tr (px.rf : px V V b) (px.ag (show agr [(1, 3), (1, 6), (6, 8), (6, 9), (6, 10)] [] V V31 from (agr.tr (agr.tr (agr.tr (agr.tr agr.rf ajV8 (by decide) (by decide)) ajV16 (by decide) (by decide)) ajV24 (by decide) (by decide)) ajV31 (by decide) (by decide))) (fun _ => rfl) (fun _ => rfl) (fun _ => rfl))
                        have px254 : px V V48 b := px.tr px253 t46
                        have px255 : px V V210 b := px.tr px254 (px.ag (show agr [(1, 3), (1, 8), (6, 8), (6, 9), (6, 10)] [] V48 V210 from (agr.tr (agr.tr agr.rf ajV60 (by decide) (by decide)) ajV210 (by decide) (by decide))) (fun _ => rfl) (fun _ => rfl) (fun _ => rfl))
                        have px256 : px V V229 b := px.tr px255 t227
                        have px257 : px V V243 b := px.tr px256 (px.ag (show agr [] [41, 47, 62, 63, 64, 65, 66] V229 V243 from (agr.tr agr.rf ajV243 (by decide) (by decide))) (fun _ => rfl) (fun _ => rfl) (fun _ => rfl))
                        exact W.zret (v := 1) hx hb hr rfl (fun t ht hW => ⟨⟨1, (V243, L230), rfl, ⟨hMV243, agV243, alL230, fwV243, (by decide), tx250, cd252, px257, (Imp.mk (fun hp => absurd hp (by decide))), (Imp.go t242 l41)⟩, by rw [ht]; exact hP, va_K.moved hW.alike hK, hD⟩, hS.F ht⟩) hS.2.2 dX1_readWrap_207
                      · skip
                        have f258 : z222.toInt = 0 := b_eq rfl (by decide) c231
                        refine lv_iconst (v := 0) hx hb dX1_readWrap_190 (by decide) ?_
                        have px259 : px V V31 b := px.tr (px.rf : px V V b) (px.ag (show agr [(1, 3), (1, 6), (6, 8), (6, 9), (6, 10)] [] V V31 from (agr.tr (agr.tr (agr.tr (agr.tr agr.rf ajV8 (by decide) (by decide)) ajV16 (by decide) (by decide)) ajV24 (by decide) (by decide)) ajV31 (by decide) (by decide))) (fun _ => rfl) (fun _ => rfl) (fun _ => rfl))
                        have px260 : px V V48 b := px.tr px259 t46
                        have px261 : px V V210 b := px.tr px260 (px.ag (show agr [(1, 3), (1, 8), (6, 8), (6, 9), (6, 10)] [] V48 V210 from (agr.tr (agr.tr agr.rf ajV60 (by decide) (by decide)) ajV210 (by decide) (by decide))) (fun _ => rfl) (fun _ => rfl) (fun _ => rfl))
                        have px262 : px V V229 b := px.tr px261 t227
                        have wo263 : WO V229 b := WO.mv woq ((show agr [(1, 3), (1, 4), (1, 6), (1, 8), (6, 8), (6, 9), (6, 10)] [42, 43, 44, 48] V V229 from (agr.tr (agr.tr (agr.tr (agr.tr (agr.tr (agr.tr (agr.tr (agr.tr agr.rf ajV8 (by decide) (by decide)) ajV16 (by decide) (by decide)) ajV24 (by decide) (by decide)) ajV31 (by decide) (by decide)) ajV48 (by decide) (by decide)) ajV60 (by decide) (by decide)) ajV210 (by decide) (by decide)) ajV229 (by decide) (by decide))) 41 b rfl) (fun k9 => (show agr [(1, 3), (1, 4), (1, 6), (1, 8), (6, 8), (6, 9), (6, 10)] [42, 43, 44, 48] V V229 from (agr.tr (agr.tr (agr.tr (agr.tr (agr.tr (agr.tr (agr.tr (agr.tr agr.rf ajV8 (by decide) (by decide)) ajV16 (by decide) (by decide)) ajV24 (by decide) (by decide)) ajV31 (by decide) (by decide)) ajV48 (by decide) (by decide)) ajV60 (by decide) (by decide)) ajV210 (by decide) (by decide)) ajV229 (by decide) (by decide))) 47 k9 rfl) (fun k9 => (show agr [(1, 3), (1, 4), (1, 6), (1, 8), (6, 8), (6, 9), (6, 10)] [42, 43, 44, 48] V V229 from (agr.tr (agr.tr (agr.tr (agr.tr (agr.tr (agr.tr (agr.tr (agr.tr agr.rf ajV8 (by decide) (by decide)) ajV16 (by decide) (by decide)) ajV24 (by decide) (by decide)) ajV31 (by decide) (by decide)) ajV48 (by decide) (by decide)) ajV60 (by decide) (by decide)) ajV210 (by decide) (by decide)) ajV229 (by decide) (by decide))) 64 k9 rfl)
                        exact W.zret (v := 0) hx hb hr rfl (fun t ht hW => ⟨⟨0, (V229, L230), rfl, ⟨hMV229, agV229, alL230, fwV229, (by decide), t225, t226, px262, (Imp.mk (fun _ => (show 1 ≤ (V229 1 3).toInt from by first | exact om_f8d8213eda45 ((Imp.go t228 (f258))) | first | omega | ((try (have i_t228 := Imp.go t228 (f258))); (try (have i_t58 := Imp.go t58 (imp_a (rgz55.1) (rgz55.2) (f64)))); (try (have i_t45 := Imp.go t45 (imp_a (rgz42.1) (rgz42.2) (f52)))); (try (have i_t14 := Imp.go t14 (imp_a (rgz11.1) (rgz11.2) (f20)))); omega) | ((try (have i_t228 := Imp.go t228 (by omega))); (try (have i_t59 := Imp.go t59 (by omega))); (try (have i_t58 := Imp.go t58 (by omega))); (try (have i_t47 := Imp.go t47 (by omega))); first | omega | ((try (have i_t45 := Imp.go t45 (by omega))); (try (have i_t30 := Imp.go t30 (by omega))); (try (have i_t15 := Imp.go t15 (by omega))); (try (have i_t14 := Imp.go t14 (by omega))); first | omega | ((try (have i_woq := Imp.go woq (by omega))); (try (have i_tx := Imp.go tx (by omega))); (try (have i_cd := Imp.go cd (by omega))); (try (have i_cd := Imp.go cd (by omega))); (try (have i_tx := Imp.go tx (by omega))); (try (have i_woq := Imp.go woq (by omega))); (try (have i_t14 := Imp.go t14 (by omega))); (try (have i_t15 := Imp.go t15 (by omega))); first | omega | ((try (have i_t30 := Imp.go t30 (by omega))); (try (have i_t45 := Imp.go t45 (by omega))); (try (have i_t47 := Imp.go t47 (by omega))); (try (have i_t58 := Imp.go t58 (by omega))); (try (have i_t59 := Imp.go t59 (by omega))); (try (have i_t228 := Imp.go t228 (by omega))); omega))))))), wo263⟩, by rw [ht]; exact hP, va_K.moved hW.alike hK, hD⟩, hS.F ht⟩) hS.2.2 dX1_readWrap_191
                  · skip
                    have f264 : 2 ≤ z200.toInt := b_nlt rfl (by decide) c203
                    refine lv_aload_n hx hb dX1_readWrap_150 rfl (lv_at hl 4 rfl) ?_
                    refine lv_iconst (v := 5) hx hb dX1_readWrap_151 (by decide) ?_
                    have r265 : Int32.toInt 5 = 5 := by decide
                    refine gA_int (gA_runV (As := [.int 5]) (rest := []) (ci := 1) (q0 := 1) hx hb hml hown hg hP hD hK hS hA hnw hgk (x_wrong l D ks H.size ad kk V60 L61 Z 5 hMV60 (by decide)) w867 w869 w6 w162 w870 rfl xgReader hdV_yX1_wrong ⟨Nat.le_of_ble_eq_true rfl, Nat.le_of_ble_eq_true rfl⟩ rfl hl.1 rfl (Nat.le_of_ble_eq_true rfl) dX1_readWrap_152 ⟨Nat.le_of_ble_eq_true rfl, Nat.le_of_ble_eq_true rfl⟩) hP hD hK hS hA (fun z266 u267 H locs w268 hP hD hK hS => ?_)
                    obtain ⟨V270, L271⟩ := u267
                    obtain ⟨hMV270, ajV270, axL271, rgz266, t269⟩ := w268
                    have axL271 : L61 = L271 := Eq.symm axL271
                    subst axL271
                    have hP : va_P D vwCl (xw ad kk V270 L61 Z) H := hP
                    have hD : va_D A (xw ad kk V270 L61 Z) := hD
                    have hMV270 : rgd bX V270 := hMV270
                    have ajV270 : agr [(1, 3)] [] V60 V270 := ajV270
                    have agV270 : agr [(1, 3), (1, 4), (1, 6), (1, 8), (6, 8), (6, 9), (6, 10)] [41, 42, 43, 44, 47, 48, 62, 63, 64, 65, 66] V V270 := agV60.tr ajV270 (by decide) (by decide)
                    have fwV270 : frX (xR b) V V270 := frX.tr fwV60 (frX.ag ajV270 (by decide) (by decide))
                    have rgz266 : 0 ≤ z266.toInt ∧ z266.toInt ≤ 0 := rgz266
                    have t269 : 1 ≤ (V270 1 3).toInt := t269
                    have px272 : px V V31 b := px.tr (px.rf : px V V b) (px.ag (show agr [(1, 3), (1, 6), (6, 8), (6, 9), (6, 10)] [] V V31 from (agr.tr (agr.tr (agr.tr (agr.tr agr.rf ajV8 (by decide) (by decide)) ajV16 (by decide) (by decide)) ajV24 (by decide) (by decide)) ajV31 (by decide) (by decide))) (fun _ => rfl) (fun _ => rfl) (fun _ => rfl))
                    have px273 : px V V48 b := px.tr px272 t46
                    have px274 : px V V270 b := px.tr px273 (px.ag (show agr [(1, 3), (1, 8), (6, 8), (6, 9), (6, 10)] [] V48 V270 from (agr.tr (agr.tr agr.rf ajV60 (by decide) (by decide)) ajV270 (by decide) (by decide))) (fun _ => rfl) (fun _ => rfl) (fun _ => rfl))
                    have tx275 : TX V270 b := TX.ag tx (show agr [(1, 3), (1, 6), (1, 8), (6, 8), (6, 9), (6, 10)] [43, 44] V V270 from (agr.tr (agr.tr (agr.tr (agr.tr (agr.tr (agr.tr (agr.tr agr.rf ajV8 (by decide) (by decide)) ajV16 (by decide) (by decide)) ajV24 (by decide) (by decide)) ajV31 (by decide) (by decide)) ajV48 (by decide) (by decide)) ajV60 (by decide) (by decide)) ajV270 (by decide) (by decide))) px274 (fun _ => rfl) (fun _ => rfl) (fun _ => rfl) (fun _ => rfl) (fun _ => rfl) (fun _ => rfl)
                    have cd276 : CD V270 b := ⟨CB.ag cd.1 (show agr [(1, 3), (1, 6), (1, 8), (6, 8), (6, 9), (6, 10)] [43, 44] V V270 from (agr.tr (agr.tr (agr.tr (agr.tr (agr.tr (agr.tr (agr.tr agr.rf ajV8 (by decide) (by decide)) ajV16 (by decide) (by decide)) ajV24 (by decide) (by decide)) ajV31 (by decide) (by decide)) ajV48 (by decide) (by decide)) ajV60 (by decide) (by decide)) ajV270 (by decide) (by decide))) (fun _ => rfl) (fun _ => rfl), CO.ag cd.2 (show agr [(1, 3), (1, 6), (1, 8), (6, 8), (6, 9), (6, 10)] [43, 44] V V270 from (agr.tr (agr.tr (agr.tr (agr.tr (agr.tr (agr.tr (agr.tr agr.rf ajV8 (by decide) (by decide)) ajV16 (by decide) (by decide)) ajV24 (by decide) (by decide)) ajV31 (by decide) (by decide)) ajV48 (by decide) (by decide)) ajV60 (by decide) (by decide)) ajV270 (by decide) (by decide))) (fun _ => rfl) (fun _ => rfl)⟩
                    have px277 : px V V31 b := px.tr (px.rf : px V V b) (px.ag (show agr [(1, 3), (1, 6), (6, 8), (6, 9), (6, 10)] [] V V31 from (agr.tr (agr.tr (agr.tr (agr.tr agr.rf ajV8 (by decide) (by decide)) ajV16 (by decide) (by decide)) ajV24 (by decide) (by decide)) ajV31 (by decide) (by decide))) (fun _ => rfl) (fun _ => rfl) (fun _ => rfl))
                    have px278 : px V V48 b := px.tr px277 t46
                    have px279 : px V V270 b := px.tr px278 (px.ag (show agr [(1, 3), (1, 8), (6, 8), (6, 9), (6, 10)] [] V48 V270 from (agr.tr (agr.tr agr.rf ajV60 (by decide) (by decide)) ajV270 (by decide) (by decide))) (fun _ => rfl) (fun _ => rfl) (fun _ => rfl))
                    have wo280 : WO V270 b := WO.mv woq ((show agr [(1, 3), (1, 6), (1, 8), (6, 8), (6, 9), (6, 10)] [43, 44] V V270 from (agr.tr (agr.tr (agr.tr (agr.tr (agr.tr (agr.tr (agr.tr agr.rf ajV8 (by decide) (by decide)) ajV16 (by decide) (by decide)) ajV24 (by decide) (by decide)) ajV31 (by decide) (by decide)) ajV48 (by decide) (by decide)) ajV60 (by decide) (by decide)) ajV270 (by decide) (by decide))) 41 b rfl) (fun k9 => (show agr [(1, 3), (1, 6), (1, 8), (6, 8), (6, 9), (6, 10)] [43, 44] V V270 from (agr.tr (agr.tr (agr.tr (agr.tr (agr.tr (agr.tr (agr.tr agr.rf ajV8 (by decide) (by decide)) ajV16 (by decide) (by decide)) ajV24 (by decide) (by decide)) ajV31 (by decide) (by decide)) ajV48 (by decide) (by decide)) ajV60 (by decide) (by decide)) ajV270 (by decide) (by decide))) 47 k9 rfl) (fun k9 => (show agr [(1, 3), (1, 6), (1, 8), (6, 8), (6, 9), (6, 10)] [43, 44] V V270 from (agr.tr (agr.tr (agr.tr (agr.tr (agr.tr (agr.tr (agr.tr agr.rf ajV8 (by decide) (by decide)) ajV16 (by decide) (by decide)) ajV24 (by decide) (by decide)) ajV31 (by decide) (by decide)) ajV48 (by decide) (by decide)) ajV60 (by decide) (by decide)) ajV270 (by decide) (by decide))) 64 k9 rfl)
                    exact W.zret (v := z266) hx hb hr (nb_ok (by omega)) (fun t ht hW => ⟨⟨z266, (V270, L61), rfl, ⟨hMV270, agV270, alL61, fwV270, (show 0 ≤ z266.toInt ∧ z266.toInt ≤ 1 from by first | exact om_641b3f05f166 rgz266.1 rgz266.2 | first | omega | ((try (have i_t58 := Imp.go t58 (imp_a (rgz55.1) (rgz55.2) (f64)))); (try (have i_t45 := Imp.go t45 (imp_a (rgz42.1) (rgz42.2) (f52)))); (try (have i_t14 := Imp.go t14 (imp_a (rgz11.1) (rgz11.2) (f20)))); omega) | ((try (have i_t59 := Imp.go t59 (by omega))); (try (have i_t58 := Imp.go t58 (by omega))); (try (have i_t47 := Imp.go t47 (by omega))); (try (have i_t45 := Imp.go t45 (by omega))); first | omega | ((try (have i_t30 := Imp.go t30 (by omega))); (try (have i_t15 := Imp.go t15 (by omega))); (try (have i_t14 := Imp.go t14 (by omega))); (try (have i_woq := Imp.go woq (by omega))); first | omega | ((try (have i_tx := Imp.go tx (by omega))); (try (have i_cd := Imp.go cd (by omega))); (try (have i_cd := Imp.go cd (by omega))); (try (have i_tx := Imp.go tx (by omega))); (try (have i_woq := Imp.go woq (by omega))); (try (have i_t14 := Imp.go t14 (by omega))); (try (have i_t15 := Imp.go t15 (by omega))); (try (have i_t30 := Imp.go t30 (by omega))); first | omega | ((try (have i_t45 := Imp.go t45 (by omega))); (try (have i_t47 := Imp.go t47 (by omega))); (try (have i_t58 := Imp.go t58 (by omega))); (try (have i_t59 := Imp.go t59 (by omega))); omega))))), tx275, cd276, px279, (Imp.mk (fun hp => have hp : z266.toInt = 0 := hp; (show 1 ≤ (V270 1 3).toInt from by first | exact om_f8d8213eda45 t269 | first | omega | ((try (have i_t58 := Imp.go t58 (imp_a (rgz55.1) (rgz55.2) (f64)))); (try (have i_t45 := Imp.go t45 (imp_a (rgz42.1) (rgz42.2) (f52)))); (try (have i_t14 := Imp.go t14 (imp_a (rgz11.1) (rgz11.2) (f20)))); omega) | ((try (have i_t59 := Imp.go t59 (by omega))); (try (have i_t58 := Imp.go t58 (by omega))); (try (have i_t47 := Imp.go t47 (by omega))); (try (have i_t45 := Imp.go t45 (by omega))); first | omega | ((try (have i_t30 := Imp.go t30 (by omega))); (try (have i_t15 := Imp.go t15 (by omega))); (try (have i_t14 := Imp.go t14 (by omega))); (try (have i_woq := Imp.go woq (by omega))); first | omega | ((try (have i_tx := Imp.go tx (by omega))); (try (have i_cd := Imp.go cd (by omega))); (try (have i_cd := Imp.go cd (by omega))); (try (have i_tx := Imp.go tx (by omega))); (try (have i_woq := Imp.go woq (by omega))); (try (have i_t14 := Imp.go t14 (by omega))); (try (have i_t15 := Imp.go t15 (by omega))); (try (have i_t30 := Imp.go t30 (by omega))); first | omega | ((try (have i_t45 := Imp.go t45 (by omega))); (try (have i_t47 := Imp.go t47 (by omega))); (try (have i_t58 := Imp.go t58 (by omega))); (try (have i_t59 := Imp.go t59 (by omega))); omega))))))), wo280⟩, by rw [ht]; exact hP, va_K.moved hW.alike hK, hD⟩, hS.F ht⟩) hS.2.2 dX1_readWrap_155
              · skip
                have f281 : 155 < ((V60 6 9)).toInt := b_nle rfl (by decide) c84
                refine lv_aload_n hx hb dX1_readWrap_113 rfl (lv_at hl 3 rfl) ?_
                refine lv_iconst (v := 1) hx hb dX1_readWrap_114 (by decide) ?_
                have r282 : Int32.toInt 1 = 1 := by decide
                refine gA_int (gA_runV (As := [.int 1]) (rest := []) (ci := 1) (q0 := 1) hx hb hml hown hg hP hD hK hS hA hnw hgk (x_wrong l D ks H.size ad kk V60 L61 Z 1 hMV60 (by decide)) w867 w869 w6 w162 w870 rfl xgReader hdV_yX1_wrong ⟨Nat.le_of_ble_eq_true rfl, Nat.le_of_ble_eq_true rfl⟩ rfl hl.1 rfl (Nat.le_of_ble_eq_true rfl) dX1_readWrap_115 ⟨Nat.le_of_ble_eq_true rfl, Nat.le_of_ble_eq_true rfl⟩) hP hD hK hS hA (fun z283 u284 H locs w285 hP hD hK hS => ?_)
                obtain ⟨V287, L288⟩ := u284
                obtain ⟨hMV287, ajV287, axL288, rgz283, t286⟩ := w285
                have axL288 : L61 = L288 := Eq.symm axL288
                subst axL288
                have hP : va_P D vwCl (xw ad kk V287 L61 Z) H := hP
                have hD : va_D A (xw ad kk V287 L61 Z) := hD
                have hMV287 : rgd bX V287 := hMV287
                have ajV287 : agr [(1, 3)] [] V60 V287 := ajV287
                have agV287 : agr [(1, 3), (1, 4), (1, 6), (1, 8), (6, 8), (6, 9), (6, 10)] [41, 42, 43, 44, 47, 48, 62, 63, 64, 65, 66] V V287 := agV60.tr ajV287 (by decide) (by decide)
                have fwV287 : frX (xR b) V V287 := frX.tr fwV60 (frX.ag ajV287 (by decide) (by decide))
                have rgz283 : 0 ≤ z283.toInt ∧ z283.toInt ≤ 0 := rgz283
                have t286 : 1 ≤ (V287 1 3).toInt := t286
                have px289 : px V V31 b := px.tr (px.rf : px V V b) (px.ag (show agr [(1, 3), (1, 6), (6, 8), (6, 9), (6, 10)] [] V V31 from (agr.tr (agr.tr (agr.tr (agr.tr agr.rf ajV8 (by decide) (by decide)) ajV16 (by decide) (by decide)) ajV24 (by decide) (by decide)) ajV31 (by decide) (by decide))) (fun _ => rfl) (fun _ => rfl) (fun _ => rfl))
                have px290 : px V V48 b := px.tr px289 t46
                have px291 : px V V287 b := px.tr px290 (px.ag (show agr [(1, 3), (1, 8), (6, 8), (6, 9), (6, 10)] [] V48 V287 from (agr.tr (agr.tr agr.rf ajV60 (by decide) (by decide)) ajV287 (by decide) (by decide))) (fun _ => rfl) (fun _ => rfl) (fun _ => rfl))
                have tx292 : TX V287 b := TX.ag tx (show agr [(1, 3), (1, 6), (1, 8), (6, 8), (6, 9), (6, 10)] [43, 44] V V287 from (agr.tr (agr.tr (agr.tr (agr.tr (agr.tr (agr.tr (agr.tr agr.rf ajV8 (by decide) (by decide)) ajV16 (by decide) (by decide)) ajV24 (by decide) (by decide)) ajV31 (by decide) (by decide)) ajV48 (by decide) (by decide)) ajV60 (by decide) (by decide)) ajV287 (by decide) (by decide))) px291 (fun _ => rfl) (fun _ => rfl) (fun _ => rfl) (fun _ => rfl) (fun _ => rfl) (fun _ => rfl)
                have cd293 : CD V287 b := ⟨CB.ag cd.1 (show agr [(1, 3), (1, 6), (1, 8), (6, 8), (6, 9), (6, 10)] [43, 44] V V287 from (agr.tr (agr.tr (agr.tr (agr.tr (agr.tr (agr.tr (agr.tr agr.rf ajV8 (by decide) (by decide)) ajV16 (by decide) (by decide)) ajV24 (by decide) (by decide)) ajV31 (by decide) (by decide)) ajV48 (by decide) (by decide)) ajV60 (by decide) (by decide)) ajV287 (by decide) (by decide))) (fun _ => rfl) (fun _ => rfl), CO.ag cd.2 (show agr [(1, 3), (1, 6), (1, 8), (6, 8), (6, 9), (6, 10)] [43, 44] V V287 from (agr.tr (agr.tr (agr.tr (agr.tr (agr.tr (agr.tr (agr.tr agr.rf ajV8 (by decide) (by decide)) ajV16 (by decide) (by decide)) ajV24 (by decide) (by decide)) ajV31 (by decide) (by decide)) ajV48 (by decide) (by decide)) ajV60 (by decide) (by decide)) ajV287 (by decide) (by decide))) (fun _ => rfl) (fun _ => rfl)⟩
                have px294 : px V V31 b := px.tr (px.rf : px V V b) (px.ag (show agr [(1, 3), (1, 6), (6, 8), (6, 9), (6, 10)] [] V V31 from (agr.tr (agr.tr (agr.tr (agr.tr agr.rf ajV8 (by decide) (by decide)) ajV16 (by decide) (by decide)) ajV24 (by decide) (by decide)) ajV31 (by decide) (by decide))) (fun _ => rfl) (fun _ => rfl) (fun _ => rfl))
                have px295 : px V V48 b := px.tr px294 t46
                have px296 : px V V287 b := px.tr px295 (px.ag (show agr [(1, 3), (1, 8), (6, 8), (6, 9), (6, 10)] [] V48 V287 from (agr.tr (agr.tr agr.rf ajV60 (by decide) (by decide)) ajV287 (by decide) (by decide))) (fun _ => rfl) (fun _ => rfl) (fun _ => rfl))
                have wo297 : WO V287 b := WO.mv woq ((show agr [(1, 3), (1, 6), (1, 8), (6, 8), (6, 9), (6, 10)] [43, 44] V V287 from (agr.tr (agr.tr (agr.tr (agr.tr (agr.tr (agr.tr (agr.tr agr.rf ajV8 (by decide) (by decide)) ajV16 (by decide) (by decide)) ajV24 (by decide) (by decide)) ajV31 (by decide) (by decide)) ajV48 (by decide) (by decide)) ajV60 (by decide) (by decide)) ajV287 (by decide) (by decide))) 41 b rfl) (fun k9 => (show agr [(1, 3), (1, 6), (1, 8), (6, 8), (6, 9), (6, 10)] [43, 44] V V287 from (agr.tr (agr.tr (agr.tr (agr.tr (agr.tr (agr.tr (agr.tr agr.rf ajV8 (by decide) (by decide)) ajV16 (by decide) (by decide)) ajV24 (by decide) (by decide)) ajV31 (by decide) (by decide)) ajV48 (by decide) (by decide)) ajV60 (by decide) (by decide)) ajV287 (by decide) (by decide))) 47 k9 rfl) (fun k9 => (show agr [(1, 3), (1, 6), (1, 8), (6, 8), (6, 9), (6, 10)] [43, 44] V V287 from (agr.tr (agr.tr (agr.tr (agr.tr (agr.tr (agr.tr (agr.tr agr.rf ajV8 (by decide) (by decide)) ajV16 (by decide) (by decide)) ajV24 (by decide) (by decide)) ajV31 (by decide) (by decide)) ajV48 (by decide) (by decide)) ajV60 (by decide) (by decide)) ajV287 (by decide) (by decide))) 64 k9 rfl)
                exact W.zret (v := z283) hx hb hr (nb_ok (by omega)) (fun t ht hW => ⟨⟨z283, (V287, L61), rfl, ⟨hMV287, agV287, alL61, fwV287, (show 0 ≤ z283.toInt ∧ z283.toInt ≤ 1 from by first | exact om_641b3f05f166 rgz283.1 rgz283.2 | first | omega | ((try (have i_t58 := Imp.go t58 (imp_a (rgz55.1) (rgz55.2) (f64)))); (try (have i_t45 := Imp.go t45 (imp_a (rgz42.1) (rgz42.2) (f52)))); (try (have i_t14 := Imp.go t14 (imp_a (rgz11.1) (rgz11.2) (f20)))); omega) | ((try (have i_t59 := Imp.go t59 (by omega))); (try (have i_t58 := Imp.go t58 (by omega))); (try (have i_t47 := Imp.go t47 (by omega))); (try (have i_t45 := Imp.go t45 (by omega))); first | omega | ((try (have i_t30 := Imp.go t30 (by omega))); (try (have i_t15 := Imp.go t15 (by omega))); (try (have i_t14 := Imp.go t14 (by omega))); (try (have i_woq := Imp.go woq (by omega))); first | omega | ((try (have i_tx := Imp.go tx (by omega))); (try (have i_cd := Imp.go cd (by omega))); (try (have i_cd := Imp.go cd (by omega))); (try (have i_tx := Imp.go tx (by omega))); (try (have i_woq := Imp.go woq (by omega))); (try (have i_t14 := Imp.go t14 (by omega))); (try (have i_t15 := Imp.go t15 (by omega))); (try (have i_t30 := Imp.go t30 (by omega))); first | omega | ((try (have i_t45 := Imp.go t45 (by omega))); (try (have i_t47 := Imp.go t47 (by omega))); (try (have i_t58 := Imp.go t58 (by omega))); (try (have i_t59 := Imp.go t59 (by omega))); omega))))), tx292, cd293, px296, (Imp.mk (fun hp => have hp : z283.toInt = 0 := hp; (show 1 ≤ (V287 1 3).toInt from by first | exact om_f8d8213eda45 t286 | first | omega | ((try (have i_t58 := Imp.go t58 (imp_a (rgz55.1) (rgz55.2) (f64)))); (try (have i_t45 := Imp.go t45 (imp_a (rgz42.1) (rgz42.2) (f52)))); (try (have i_t14 := Imp.go t14 (imp_a (rgz11.1) (rgz11.2) (f20)))); omega) | ((try (have i_t59 := Imp.go t59 (by omega))); (try (have i_t58 := Imp.go t58 (by omega))); (try (have i_t47 := Imp.go t47 (by omega))); (try (have i_t45 := Imp.go t45 (by omega))); first | omega | ((try (have i_t30 := Imp.go t30 (by omega))); (try (have i_t15 := Imp.go t15 (by omega))); (try (have i_t14 := Imp.go t14 (by omega))); (try (have i_woq := Imp.go woq (by omega))); first | omega | ((try (have i_tx := Imp.go tx (by omega))); (try (have i_cd := Imp.go cd (by omega))); (try (have i_cd := Imp.go cd (by omega))); (try (have i_tx := Imp.go tx (by omega))); (try (have i_woq := Imp.go woq (by omega))); (try (have i_t14 := Imp.go t14 (by omega))); (try (have i_t15 := Imp.go t15 (by omega))); (try (have i_t30 := Imp.go t30 (by omega))); first | omega | ((try (have i_t45 := Imp.go t45 (by omega))); (try (have i_t47 := Imp.go t47 (by omega))); (try (have i_t58 := Imp.go t58 (by omega))); (try (have i_t59 := Imp.go t59 (by omega))); omega))))))), wo297⟩, by rw [ht]; exact hP, va_K.moved hW.alike hK, hD⟩, hS.F ht⟩) hS.2.2 dX1_readWrap_118
          · skip
            have f298 : z55.toInt = 0 := b_eq rfl (by decide) c63
            refine lv_iconst (v := 0) hx hb dX1_readWrap_80 (by decide) ?_
            have px299 : px V V31 b := px.tr (px.rf : px V V b) (px.ag (show agr [(1, 3), (1, 6), (6, 8), (6, 9), (6, 10)] [] V V31 from (agr.tr (agr.tr (agr.tr (agr.tr agr.rf ajV8 (by decide) (by decide)) ajV16 (by decide) (by decide)) ajV24 (by decide) (by decide)) ajV31 (by decide) (by decide))) (fun _ => rfl) (fun _ => rfl) (fun _ => rfl))
            have px300 : px V V48 b := px.tr px299 t46
            have px301 : px V V60 b := px.tr px300 (px.ag (show agr [(1, 3), (1, 8), (6, 8), (6, 9), (6, 10)] [] V48 V60 from (agr.tr agr.rf ajV60 (by decide) (by decide))) (fun _ => rfl) (fun _ => rfl) (fun _ => rfl))
            have tx302 : TX V60 b := TX.ag tx (show agr [(1, 3), (1, 6), (1, 8), (6, 8), (6, 9), (6, 10)] [43, 44] V V60 from (agr.tr (agr.tr (agr.tr (agr.tr (agr.tr (agr.tr agr.rf ajV8 (by decide) (by decide)) ajV16 (by decide) (by decide)) ajV24 (by decide) (by decide)) ajV31 (by decide) (by decide)) ajV48 (by decide) (by decide)) ajV60 (by decide) (by decide))) px301 (fun _ => rfl) (fun _ => rfl) (fun _ => rfl) (fun _ => rfl) (fun _ => rfl) (fun _ => rfl)
            have cd303 : CD V60 b := ⟨CB.ag cd.1 (show agr [(1, 3), (1, 6), (1, 8), (6, 8), (6, 9), (6, 10)] [43, 44] V V60 from (agr.tr (agr.tr (agr.tr (agr.tr (agr.tr (agr.tr agr.rf ajV8 (by decide) (by decide)) ajV16 (by decide) (by decide)) ajV24 (by decide) (by decide)) ajV31 (by decide) (by decide)) ajV48 (by decide) (by decide)) ajV60 (by decide) (by decide))) (fun _ => rfl) (fun _ => rfl), CO.ag cd.2 (show agr [(1, 3), (1, 6), (1, 8), (6, 8), (6, 9), (6, 10)] [43, 44] V V60 from (agr.tr (agr.tr (agr.tr (agr.tr (agr.tr (agr.tr agr.rf ajV8 (by decide) (by decide)) ajV16 (by decide) (by decide)) ajV24 (by decide) (by decide)) ajV31 (by decide) (by decide)) ajV48 (by decide) (by decide)) ajV60 (by decide) (by decide))) (fun _ => rfl) (fun _ => rfl)⟩
            have px304 : px V V31 b := px.tr (px.rf : px V V b) (px.ag (show agr [(1, 3), (1, 6), (6, 8), (6, 9), (6, 10)] [] V V31 from (agr.tr (agr.tr (agr.tr (agr.tr agr.rf ajV8 (by decide) (by decide)) ajV16 (by decide) (by decide)) ajV24 (by decide) (by decide)) ajV31 (by decide) (by decide))) (fun _ => rfl) (fun _ => rfl) (fun _ => rfl))
            have px305 : px V V48 b := px.tr px304 t46
            have px306 : px V V60 b := px.tr px305 (px.ag (show agr [(1, 3), (1, 8), (6, 8), (6, 9), (6, 10)] [] V48 V60 from (agr.tr agr.rf ajV60 (by decide) (by decide))) (fun _ => rfl) (fun _ => rfl) (fun _ => rfl))
            have wo307 : WO V60 b := WO.mv woq ((show agr [(1, 3), (1, 6), (1, 8), (6, 8), (6, 9), (6, 10)] [43, 44] V V60 from (agr.tr (agr.tr (agr.tr (agr.tr (agr.tr (agr.tr agr.rf ajV8 (by decide) (by decide)) ajV16 (by decide) (by decide)) ajV24 (by decide) (by decide)) ajV31 (by decide) (by decide)) ajV48 (by decide) (by decide)) ajV60 (by decide) (by decide))) 41 b rfl) (fun k9 => (show agr [(1, 3), (1, 6), (1, 8), (6, 8), (6, 9), (6, 10)] [43, 44] V V60 from (agr.tr (agr.tr (agr.tr (agr.tr (agr.tr (agr.tr agr.rf ajV8 (by decide) (by decide)) ajV16 (by decide) (by decide)) ajV24 (by decide) (by decide)) ajV31 (by decide) (by decide)) ajV48 (by decide) (by decide)) ajV60 (by decide) (by decide))) 47 k9 rfl) (fun k9 => (show agr [(1, 3), (1, 6), (1, 8), (6, 8), (6, 9), (6, 10)] [43, 44] V V60 from (agr.tr (agr.tr (agr.tr (agr.tr (agr.tr (agr.tr agr.rf ajV8 (by decide) (by decide)) ajV16 (by decide) (by decide)) ajV24 (by decide) (by decide)) ajV31 (by decide) (by decide)) ajV48 (by decide) (by decide)) ajV60 (by decide) (by decide))) 64 k9 rfl)
            exact W.zret (v := 0) hx hb hr rfl (fun t ht hW => ⟨⟨0, (V60, L61), rfl, ⟨hMV60, agV60, alL61, fwV60, (by decide), tx302, cd303, px306, (Imp.mk (fun _ => (show 1 ≤ (V60 1 3).toInt from by first | exact om_f8d8213eda45 ((Imp.go t59 (f298))) | first | omega | ((try (have i_t59 := Imp.go t59 (f298))); (try (have i_t45 := Imp.go t45 (imp_a (rgz42.1) (rgz42.2) (f52)))); (try (have i_t14 := Imp.go t14 (imp_a (rgz11.1) (rgz11.2) (f20)))); omega) | ((try (have i_t59 := Imp.go t59 (by omega))); (try (have i_t58 := Imp.go t58 (by omega))); (try (have i_t47 := Imp.go t47 (by omega))); (try (have i_t45 := Imp.go t45 (by omega))); first | omega | ((try (have i_t30 := Imp.go t30 (by omega))); (try (have i_t15 := Imp.go t15 (by omega))); (try (have i_t14 := Imp.go t14 (by omega))); (try (have i_woq := Imp.go woq (by omega))); first | omega | ((try (have i_tx := Imp.go tx (by omega))); (try (have i_cd := Imp.go cd (by omega))); (try (have i_cd := Imp.go cd (by omega))); (try (have i_tx := Imp.go tx (by omega))); (try (have i_woq := Imp.go woq (by omega))); (try (have i_t14 := Imp.go t14 (by omega))); (try (have i_t15 := Imp.go t15 (by omega))); (try (have i_t30 := Imp.go t30 (by omega))); first | omega | ((try (have i_t45 := Imp.go t45 (by omega))); (try (have i_t47 := Imp.go t47 (by omega))); (try (have i_t58 := Imp.go t58 (by omega))); (try (have i_t59 := Imp.go t59 (by omega))); omega))))))), wo307⟩, by rw [ht]; exact hP, va_K.moved hW.alike hK, hD⟩, hS.F ht⟩) hS.2.2 dX1_readWrap_81
        · skip
          have f308 : z42.toInt = 0 := b_eq rfl (by decide) c51
          refine lv_iconst (v := 0) hx hb dX1_readWrap_63 (by decide) ?_
          have px309 : px V V31 b := px.tr (px.rf : px V V b) (px.ag (show agr [(1, 3), (1, 6), (6, 8), (6, 9), (6, 10)] [] V V31 from (agr.tr (agr.tr (agr.tr (agr.tr agr.rf ajV8 (by decide) (by decide)) ajV16 (by decide) (by decide)) ajV24 (by decide) (by decide)) ajV31 (by decide) (by decide))) (fun _ => rfl) (fun _ => rfl) (fun _ => rfl))
          have px310 : px V V48 b := px.tr px309 t46
          have tx311 : TX V48 b := TX.ag tx (show agr [(1, 3), (1, 6), (6, 8), (6, 9), (6, 10)] [43, 44] V V48 from (agr.tr (agr.tr (agr.tr (agr.tr (agr.tr agr.rf ajV8 (by decide) (by decide)) ajV16 (by decide) (by decide)) ajV24 (by decide) (by decide)) ajV31 (by decide) (by decide)) ajV48 (by decide) (by decide))) px310 (fun _ => rfl) (fun _ => rfl) (fun _ => rfl) (fun _ => rfl) (fun _ => rfl) (fun _ => rfl)
          have cd312 : CD V48 b := ⟨CB.ag cd.1 (show agr [(1, 3), (1, 6), (6, 8), (6, 9), (6, 10)] [43, 44] V V48 from (agr.tr (agr.tr (agr.tr (agr.tr (agr.tr agr.rf ajV8 (by decide) (by decide)) ajV16 (by decide) (by decide)) ajV24 (by decide) (by decide)) ajV31 (by decide) (by decide)) ajV48 (by decide) (by decide))) (fun _ => rfl) (fun _ => rfl), CO.ag cd.2 (show agr [(1, 3), (1, 6), (6, 8), (6, 9), (6, 10)] [43, 44] V V48 from (agr.tr (agr.tr (agr.tr (agr.tr (agr.tr agr.rf ajV8 (by decide) (by decide)) ajV16 (by decide) (by decide)) ajV24 (by decide) (by decide)) ajV31 (by decide) (by decide)) ajV48 (by decide) (by decide))) (fun _ => rfl) (fun _ => rfl)⟩
          have px313 : px V V31 b := px.tr (px.rf : px V V b) (px.ag (show agr [(1, 3), (1, 6), (6, 8), (6, 9), (6, 10)] [] V V31 from (agr.tr (agr.tr (agr.tr (agr.tr agr.rf ajV8 (by decide) (by decide)) ajV16 (by decide) (by decide)) ajV24 (by decide) (by decide)) ajV31 (by decide) (by decide))) (fun _ => rfl) (fun _ => rfl) (fun _ => rfl))
          have px314 : px V V48 b := px.tr px313 t46
          have wo315 : WO V48 b := WO.mv woq ((show agr [(1, 3), (1, 6), (6, 8), (6, 9), (6, 10)] [43, 44] V V48 from (agr.tr (agr.tr (agr.tr (agr.tr (agr.tr agr.rf ajV8 (by decide) (by decide)) ajV16 (by decide) (by decide)) ajV24 (by decide) (by decide)) ajV31 (by decide) (by decide)) ajV48 (by decide) (by decide))) 41 b rfl) (fun k9 => (show agr [(1, 3), (1, 6), (6, 8), (6, 9), (6, 10)] [43, 44] V V48 from (agr.tr (agr.tr (agr.tr (agr.tr (agr.tr agr.rf ajV8 (by decide) (by decide)) ajV16 (by decide) (by decide)) ajV24 (by decide) (by decide)) ajV31 (by decide) (by decide)) ajV48 (by decide) (by decide))) 47 k9 rfl) (fun k9 => (show agr [(1, 3), (1, 6), (6, 8), (6, 9), (6, 10)] [43, 44] V V48 from (agr.tr (agr.tr (agr.tr (agr.tr (agr.tr agr.rf ajV8 (by decide) (by decide)) ajV16 (by decide) (by decide)) ajV24 (by decide) (by decide)) ajV31 (by decide) (by decide)) ajV48 (by decide) (by decide))) 64 k9 rfl)
          exact W.zret (v := 0) hx hb hr rfl (fun t ht hW => ⟨⟨0, (V48, L49), rfl, ⟨hMV48, agV48, alL49, fwV48, (by decide), tx311, cd312, px314, (Imp.mk (fun _ => (show 1 ≤ (V48 1 3).toInt from by first | exact om_f8d8213eda45 ((Imp.go t47 (f308))) | first | omega | ((try (have i_t47 := Imp.go t47 (f308))); (try (have i_t14 := Imp.go t14 (imp_a (rgz11.1) (rgz11.2) (f20)))); omega) | ((try (have i_t47 := Imp.go t47 (by omega))); (try (have i_t45 := Imp.go t45 (by omega))); (try (have i_t30 := Imp.go t30 (by omega))); (try (have i_t15 := Imp.go t15 (by omega))); first | omega | ((try (have i_t14 := Imp.go t14 (by omega))); (try (have i_woq := Imp.go woq (by omega))); (try (have i_tx := Imp.go tx (by omega))); (try (have i_cd := Imp.go cd (by omega))); first | omega | ((try (have i_cd := Imp.go cd (by omega))); (try (have i_tx := Imp.go tx (by omega))); (try (have i_woq := Imp.go woq (by omega))); (try (have i_t14 := Imp.go t14 (by omega))); first | omega | ((try (have i_t15 := Imp.go t15 (by omega))); (try (have i_t30 := Imp.go t30 (by omega))); (try (have i_t45 := Imp.go t45 (by omega))); (try (have i_t47 := Imp.go t47 (by omega))); omega))))))), wo315⟩, by rw [ht]; exact hP, va_K.moved hW.alike hK, hD⟩, hS.F ht⟩) hS.2.2 dX1_readWrap_64
    · skip
      have f316 : z11.toInt = 0 := b_eq rfl (by decide) c19
      refine lv_iconst (v := 0) hx hb dX1_readWrap_32 (by decide) ?_
      have px317 : px V V16 b := px.tr (px.rf : px V V b) (px.ag (show agr [(1, 3), (1, 6), (6, 8), (6, 9), (6, 10)] [] V V16 from (agr.tr (agr.tr agr.rf ajV8 (by decide) (by decide)) ajV16 (by decide) (by decide))) (fun _ => rfl) (fun _ => rfl) (fun _ => rfl))
      have tx318 : TX V16 b := TX.ag tx (show agr [(1, 3), (1, 6), (6, 8), (6, 9), (6, 10)] [] V V16 from (agr.tr (agr.tr agr.rf ajV8 (by decide) (by decide)) ajV16 (by decide) (by decide))) px317 (fun _ => rfl) (fun _ => rfl) (fun _ => rfl) (fun _ => rfl) (fun _ => rfl) (fun _ => rfl)
      have cd319 : CD V16 b := ⟨CB.ag cd.1 (show agr [(1, 3), (1, 6), (6, 8), (6, 9), (6, 10)] [] V V16 from (agr.tr (agr.tr agr.rf ajV8 (by decide) (by decide)) ajV16 (by decide) (by decide))) (fun _ => rfl) (fun _ => rfl), CO.ag cd.2 (show agr [(1, 3), (1, 6), (6, 8), (6, 9), (6, 10)] [] V V16 from (agr.tr (agr.tr agr.rf ajV8 (by decide) (by decide)) ajV16 (by decide) (by decide))) (fun _ => rfl) (fun _ => rfl)⟩
      have px320 : px V V16 b := px.tr (px.rf : px V V b) (px.ag (show agr [(1, 3), (1, 6), (6, 8), (6, 9), (6, 10)] [] V V16 from (agr.tr (agr.tr agr.rf ajV8 (by decide) (by decide)) ajV16 (by decide) (by decide))) (fun _ => rfl) (fun _ => rfl) (fun _ => rfl))
      have wo321 : WO V16 b := WO.mv woq ((show agr [(1, 3), (1, 6), (6, 8), (6, 9), (6, 10)] [] V V16 from (agr.tr (agr.tr agr.rf ajV8 (by decide) (by decide)) ajV16 (by decide) (by decide))) 41 b rfl) (fun k9 => (show agr [(1, 3), (1, 6), (6, 8), (6, 9), (6, 10)] [] V V16 from (agr.tr (agr.tr agr.rf ajV8 (by decide) (by decide)) ajV16 (by decide) (by decide))) 47 k9 rfl) (fun k9 => (show agr [(1, 3), (1, 6), (6, 8), (6, 9), (6, 10)] [] V V16 from (agr.tr (agr.tr agr.rf ajV8 (by decide) (by decide)) ajV16 (by decide) (by decide))) 64 k9 rfl)
      exact W.zret (v := 0) hx hb hr rfl (fun t ht hW => ⟨⟨0, (V16, L9), rfl, ⟨hMV16, agV16, alL9, fwV16, (by decide), tx318, cd319, px320, (Imp.mk (fun _ => (show 1 ≤ (V16 1 3).toInt from by first | exact om_f8d8213eda45 ((Imp.go t15 (f316))) | first | omega | ((try (have i_t15 := Imp.go t15 (f316))); omega) | ((try (have i_t15 := Imp.go t15 (by omega))); (try (have i_t14 := Imp.go t14 (by omega))); (try (have i_woq := Imp.go woq (by omega))); (try (have i_tx := Imp.go tx (by omega))); first | omega | ((try (have i_cd := Imp.go cd (by omega))); (try (have i_cd := Imp.go cd (by omega))); (try (have i_tx := Imp.go tx (by omega))); (try (have i_woq := Imp.go woq (by omega))); (try (have i_t14 := Imp.go t14 (by omega))); (try (have i_t15 := Imp.go t15 (by omega))); omega))))), wo321⟩, by rw [ht]; exact hP, va_K.moved hW.alike hK, hD⟩, hS.F ht⟩) hS.2.2 dX1_readWrap_33
  · skip
    have f322 : 12 ≤ ((V 41 b)).toInt := b_nlt rfl (by decide) c3
    refine lv_aload_n hx hb dX1_readWrap_12 rfl (lv_at hl 0 rfl) ?_
    refine lv_iconst (v := 5) hx hb dX1_readWrap_13 (by decide) ?_
    have r323 : Int32.toInt 5 = 5 := by decide
    refine gA_int (gA_runV (As := [.int 5]) (rest := []) (ci := 1) (q0 := 1) hx hb hml hown hg hP hD hK hS hA hnw hgk (x_wrong l D ks H.size ad kk V L Z 5 hMV (by decide)) w867 w869 w6 w162 w870 rfl xgReader hdV_yX1_wrong ⟨Nat.le_of_ble_eq_true rfl, Nat.le_of_ble_eq_true rfl⟩ rfl hl.1 rfl (Nat.le_of_ble_eq_true rfl) dX1_readWrap_14 ⟨Nat.le_of_ble_eq_true rfl, Nat.le_of_ble_eq_true rfl⟩) hP hD hK hS hA (fun z324 u325 H locs w326 hP hD hK hS => ?_)
    obtain ⟨V328, L329⟩ := u325
    obtain ⟨hMV328, ajV328, axL329, rgz324, t327⟩ := w326
    have axL329 : L = L329 := Eq.symm axL329
    subst axL329
    have hP : va_P D vwCl (xw ad kk V328 L Z) H := hP
    have hD : va_D A (xw ad kk V328 L Z) := hD
    have hMV328 : rgd bX V328 := hMV328
    have ajV328 : agr [(1, 3)] [] V V328 := ajV328
    have agV328 : agr [(1, 3), (1, 4), (1, 6), (1, 8), (6, 8), (6, 9), (6, 10)] [41, 42, 43, 44, 47, 48, 62, 63, 64, 65, 66] V V328 := agV.tr ajV328 (by decide) (by decide)
    have fwV328 : frX (xR b) V V328 := frX.tr fwV (frX.ag ajV328 (by decide) (by decide))
    have rgz324 : 0 ≤ z324.toInt ∧ z324.toInt ≤ 0 := rgz324
    have t327 : 1 ≤ (V328 1 3).toInt := t327
    have px330 : px V V328 b := px.tr (px.rf : px V V b) (px.ag (show agr [(1, 3)] [] V V328 from (agr.tr agr.rf ajV328 (by decide) (by decide))) (fun _ => rfl) (fun _ => rfl) (fun _ => rfl))
    have tx331 : TX V328 b := TX.ag tx (show agr [(1, 3)] [] V V328 from (agr.tr agr.rf ajV328 (by decide) (by decide))) px330 (fun _ => rfl) (fun _ => rfl) (fun _ => rfl) (fun _ => rfl) (fun _ => rfl) (fun _ => rfl)
    have cd332 : CD V328 b := ⟨CB.ag cd.1 (show agr [(1, 3)] [] V V328 from (agr.tr agr.rf ajV328 (by decide) (by decide))) (fun _ => rfl) (fun _ => rfl), CO.ag cd.2 (show agr [(1, 3)] [] V V328 from (agr.tr agr.rf ajV328 (by decide) (by decide))) (fun _ => rfl) (fun _ => rfl)⟩
    have px333 : px V V328 b := px.tr (px.rf : px V V b) (px.ag (show agr [(1, 3)] [] V V328 from (agr.tr agr.rf ajV328 (by decide) (by decide))) (fun _ => rfl) (fun _ => rfl) (fun _ => rfl))
    have wo334 : WO V328 b := WO.mv woq ((show agr [(1, 3)] [] V V328 from (agr.tr agr.rf ajV328 (by decide) (by decide))) 41 b rfl) (fun k9 => (show agr [(1, 3)] [] V V328 from (agr.tr agr.rf ajV328 (by decide) (by decide))) 47 k9 rfl) (fun k9 => (show agr [(1, 3)] [] V V328 from (agr.tr agr.rf ajV328 (by decide) (by decide))) 64 k9 rfl)
    exact W.zret (v := z324) hx hb hr (nb_ok (by omega)) (fun t ht hW => ⟨⟨z324, (V328, L), rfl, ⟨hMV328, agV328, alL, fwV328, (show 0 ≤ z324.toInt ∧ z324.toInt ≤ 1 from by first | exact om_641b3f05f166 rgz324.1 rgz324.2 | first | omega | ((try (have i_woq := Imp.go woq (by omega))); (try (have i_tx := Imp.go tx (by omega))); (try (have i_cd := Imp.go cd (by omega))); (try (have i_cd := Imp.go cd (by omega))); (try (have i_tx := Imp.go tx (by omega))); (try (have i_woq := Imp.go woq (by omega))); omega)), tx331, cd332, px333, (Imp.mk (fun hp => have hp : z324.toInt = 0 := hp; (show 1 ≤ (V328 1 3).toInt from by first | exact om_f8d8213eda45 t327 | first | omega | ((try (have i_woq := Imp.go woq (by omega))); (try (have i_tx := Imp.go tx (by omega))); (try (have i_cd := Imp.go cd (by omega))); (try (have i_cd := Imp.go cd (by omega))); (try (have i_tx := Imp.go tx (by omega))); (try (have i_woq := Imp.go woq (by omega))); omega)))), wo334⟩, by rw [ht]; exact hP, va_K.moved hW.alike hK, hD⟩, hS.F ht⟩) hS.2.2 dX1_readWrap_17
abbrev r_x_readStatement9 : Room := { frames := 92, cells := 0, slots := 0, locals := 2708 }
abbrev q_x_readStatement9 (D : va_G) (ks : KS) (ad : Nat → Nat) (kk : Nat → ClassId) (V : Vf) (L : Lf) (Z : XZ) (b : Nat) (A : Nat → Prop) : Array Value → State → Outcome → State → Prop := va_Qi (fun (r : Int32) (u : Vf × Lf) => rgd bX u.1 ∧ agr [(1, 2), (1, 3), (1, 4), (1, 6), (1, 7), (1, 8), (6, 8), (6, 9), (6, 10)] [41, 42, 43, 44, 45, 46, 47, 48, 49, 50, 51, 52, 53, 54, 55, 56, 57, 61, 62, 63, 64, 65, 66] V u.1 ∧ agL [1, 6, 44] L u.2 ∧ frX (xR b) V u.1 ∧ (0 ≤ r.toInt ∧ r.toInt ≤ 1) ∧ (Imp (r.toInt = 1) (TX u.1 b)) ∧ (CD u.1 b) ∧ (p0x V u.1 b) ∧ ((u.1 1 2).toInt = (V 1 2).toInt ∨ (24 * (b : Int) ≤ (u.1 1 2).toInt ∧ (u.1 1 2).toInt < 24 * (b : Int) + 24)) ∧ (Imp (r.toInt = 0) (1 ≤ (u.1 1 3).toInt)) ∧ (WO u.1 b)) (fun u t => gq D A (xw ad kk u.1 u.2 Z) (xty kk Z) t) A
set_option maxHeartbeats 4000000 in
set_option maxRecDepth 100000 in
theorem x_readStatement9 (l : Launch) (D : va_G) (ks : KS) (sz : Nat) (ad : Nat → Nat) (kk : Nat → ClassId) (V : Vf) (L : Lf) (Z : XZ) (b : Nat) (hMV : rgd bX V) (hb2 : b < 2) (rbk : (V 1 1).toInt = (b : Int)) (own : (V 1 2).toInt = -1) (cd : CD V b) (tx : TX V b) (woq : WO V b)  : Met l yX1_readStatement (Cond.code yX1_readStatement cX1_readStatement 1 (some .boolean) :: GW) r_x_readStatement9 (va_Pc [.ref (ad 1)] (gp D ks (xw ad kk V L Z) (xty kk Z) sz)) (q_x_readStatement9 D ks ad kk V L Z  b (va_A (xw ad kk V L Z) sz)) 0 0 (va_A (xw ad kk V L Z) sz) := by
  refine g_met (q_x_readStatement9 D ks ad kk V L Z  b) (by decide) (Nat.le_of_ble_eq_true rfl) ?_
  intro p e s m below meth c A ls H locs hx hb hr hml hown hg hlocks hin hnw hgk hP hK hD hS hA hl
  have hown : s.vm.findClass RX1 = some m.cls := hown
  have hl : lv_has ls 1 [(0, .ref (ad 1))] := hl
  have hP : va_P D vwCl (xw ad kk V L Z) H := hP
  have hD : va_D A (xw ad kk V L Z) := hD
  have hK : va_K D vwCl (xty kk Z) s := hK
  have agV : agr [(1, 2), (1, 3), (1, 4), (1, 6), (1, 7), (1, 8), (6, 8), (6, 9), (6, 10)] [41, 42, 43, 44, 45, 46, 47, 48, 49, 50, 51, 52, 53, 54, 55, 56, 57, 61, 62, 63, 64, 65, 66] V V := agr.rf
  have alL : agL [1, 6, 44] L L := agL.rf
  have fwV : frX (xR b) V V := frX.rf
  have r1 : (-1) ≤ ((V 1 1)).toInt ∧ ((V 1 1)).toInt ≤ 1 := hMV 1 1
  have r2 : (-1) ≤ ((V 1 2)).toInt ∧ ((V 1 2)).toInt ≤ 47 := hMV 1 2
  refine lv_aload_n hx hb dX1_readStatement_0 rfl (lv_at hl 0 rfl) ?_
  refine va_get (D := D) (ci := 1) (v := .ref (ad 6)) (fs := (xfReader ad V L Z)) (C := RX1) (T := TX1) (N := 9) hx hb hg inX1 hown hK hP 1 xgReader rfl 0 (by decide) (hg _ w304) (fun _ h9 => h9) rfl dX1_readStatement_1 ?_
  refine va_getN (D := D) (ci := 9) (v := .int (V 6 9)) (fs := (xfTape ad V L Z)) (C := RX9) (T := TX9) (N := 12) hx hb hg inX9 hown hK hP 6 xgTape rfl 9 (by decide) (hnw.use 262 n262 rfl) (fun _ h9 => h9) rfl dX1_readStatement_4 ?_
  by_cases q3 : (V 6 9) = 128
  · refine g_top (v := 128) q3 ?_
    have fq3 : ((V 6 9)).toInt = 128 := b_eq rfl (by decide) q3
    refine lv_tableIn (x := 128) (off := 49) (tgt := 56) hx hb dX1_readStatement_7 (by decide) (by decide) (by decide) (by decide) ?_
    refine lv_aload_n hx hb dX1_readStatement_56 rfl (lv_at hl 0 rfl) ?_
    refine gA_int (gA_runV (As := []) (rest := []) (ci := 1) (q0 := 1) hx hb hml hown hg hP hD hK hS hA hnw hgk (x_readType l D ks H.size ad kk V L Z (b) hMV (show b < 2 from by first | exact om_f940a4667dd6 hb2 | first | omega | ((try (have i_woq := Imp.go woq (by omega))); (try (have i_tx := Imp.go tx (by omega))); (try (have i_cd := Imp.go cd (by omega))); (try (have i_cd := Imp.go cd (by omega))); (try (have i_tx := Imp.go tx (by omega))); (try (have i_woq := Imp.go woq (by omega))); omega)) (show (V 1 1).toInt = (b : Int) from by first | exact om_08e0c9701055 rbk | first | omega | ((try (have i_woq := Imp.go woq (by omega))); (try (have i_tx := Imp.go tx (by omega))); (try (have i_cd := Imp.go cd (by omega))); (try (have i_cd := Imp.go cd (by omega))); (try (have i_tx := Imp.go tx (by omega))); (try (have i_woq := Imp.go woq (by omega))); omega)) cd tx) w859 w861 w5 w162 w862 rfl xgReader hdV_yX1_readType ⟨Nat.le_of_ble_eq_true rfl, Nat.le_of_ble_eq_true rfl⟩ rfl hl.1 rfl (Nat.le_of_ble_eq_true rfl) dX1_readStatement_57 ⟨Nat.le_of_ble_eq_true rfl, Nat.le_of_ble_eq_true rfl⟩) hP hD hK hS hA (fun z4 u5 H locs w6 hP hD hK hS => ?_)
    obtain ⟨V11, L12⟩ := u5
    obtain ⟨hMV11, ajV11, axL12, fyV11, rgz4, t7, t8, t9, t10⟩ := w6
    have alL12 : agL [1, 6, 44] L L12 := agL.tr alL axL12 (by decide)
    have hP : va_P D vwCl (xw ad kk V11 L12 Z) H := hP
    have hD : va_D A (xw ad kk V11 L12 Z) := hD
    have hMV11 : rgd bX V11 := hMV11
    have ajV11 : agr [(1, 3), (1, 6), (1, 7), (6, 8), (6, 9), (6, 10)] [43, 44, 45] V V11 := ajV11
    have agV11 : agr [(1, 2), (1, 3), (1, 4), (1, 6), (1, 7), (1, 8), (6, 8), (6, 9), (6, 10)] [41, 42, 43, 44, 45, 46, 47, 48, 49, 50, 51, 52, 53, 54, 55, 56, 57, 61, 62, 63, 64, 65, 66] V V11 := agV.tr ajV11 (by decide) (by decide)
    have fwV11 : frX (xR b) V V11 := frX.tr fwV (fyV11)
    have rgz4 : 0 ≤ z4.toInt ∧ z4.toInt ≤ 1 := rgz4
    have t7 : TX V11 b := t7
    have t8 : CD V11 b := t8
    have t9 : px V V11 b := t9
    have t10 : Imp (z4.toInt = 0) (1 ≤ (V11 1 3).toInt) := t10
    have pq13 : (V11 1 2).toInt = ((V 1 2)).toInt := congrArg Int32.toInt (ajV11 1 2 rfl)
    have p014 : p0x V V11 b := p0x.tr (p0x.rf : p0x V V b) t9.1
    have wo15 : WO V11 b := WO.mv woq ((show agr [(1, 3), (1, 6), (1, 7), (6, 8), (6, 9), (6, 10)] [43, 44, 45] V V11 from (agr.tr agr.rf ajV11 (by decide) (by decide))) 41 b rfl) (fun k9 => (show agr [(1, 3), (1, 6), (1, 7), (6, 8), (6, 9), (6, 10)] [43, 44, 45] V V11 from (agr.tr agr.rf ajV11 (by decide) (by decide))) 47 k9 rfl) (fun k9 => (show agr [(1, 3), (1, 6), (1, 7), (6, 8), (6, 9), (6, 10)] [43, 44, 45] V V11 from (agr.tr agr.rf ajV11 (by decide) (by decide))) 64 k9 rfl)
    exact W.zret (v := z4) hx hb hr (nb_ok (by omega)) (fun t ht hW => ⟨⟨z4, (V11, L12), rfl, ⟨hMV11, agV11, alL12, fwV11, (show 0 ≤ z4.toInt ∧ z4.toInt ≤ 1 from by first | exact om_eb7af9d60398 rgz4.1 rgz4.2 | first | omega | ((try (have i_t10 := Imp.go t10 (by omega))); (try (have i_woq := Imp.go woq (by omega))); (try (have i_tx := Imp.go tx (by omega))); (try (have i_cd := Imp.go cd (by omega))); first | omega | ((try (have i_cd := Imp.go cd (by omega))); (try (have i_tx := Imp.go tx (by omega))); (try (have i_woq := Imp.go woq (by omega))); (try (have i_t10 := Imp.go t10 (by omega))); omega))), (Imp.mk (fun _ => t7)), t8, p014, (show (V11 1 2).toInt = (V 1 2).toInt ∨ (24 * (b : Int) ≤ (V11 1 2).toInt ∧ (V11 1 2).toInt < 24 * (b : Int) + 24) from by first | exact om_a7db56e9fc7a pq13 | first | omega | ((try (have i_t10 := Imp.go t10 (by omega))); (try (have i_woq := Imp.go woq (by omega))); (try (have i_tx := Imp.go tx (by omega))); (try (have i_cd := Imp.go cd (by omega))); first | omega | ((try (have i_cd := Imp.go cd (by omega))); (try (have i_tx := Imp.go tx (by omega))); (try (have i_woq := Imp.go woq (by omega))); (try (have i_t10 := Imp.go t10 (by omega))); omega))), (Imp.mk (fun hp => have hp : z4.toInt = 0 := hp; (show 1 ≤ (V11 1 3).toInt from by first | exact om_f8d8213eda45 ((Imp.go t10 (hp))) | first | omega | ((try (have i_t10 := Imp.go t10 (hp))); omega) | ((try (have i_t10 := Imp.go t10 (by omega))); (try (have i_woq := Imp.go woq (by omega))); (try (have i_tx := Imp.go tx (by omega))); (try (have i_cd := Imp.go cd (by omega))); first | omega | ((try (have i_cd := Imp.go cd (by omega))); (try (have i_tx := Imp.go tx (by omega))); (try (have i_woq := Imp.go woq (by omega))); (try (have i_t10 := Imp.go t10 (by omega))); omega))))), wo15⟩, by rw [ht]; exact hP, va_K.moved hW.alike hK, hD⟩, hS.F ht⟩) hS.2.2 dX1_readStatement_60
  have gq3 : ((V 6 9)).toInt ≠ 128 := b_neq rfl (by decide) q3
  by_cases q16 : (V 6 9) = 129
  · refine g_top (v := 129) q16 ?_
    have fq16 : ((V 6 9)).toInt = 129 := b_eq rfl (by decide) q16
    refine lv_tableIn (x := 129) (off := 69) (tgt := 76) hx hb dX1_readStatement_7 (by decide) (by decide) (by decide) (by decide) ?_
    refine lv_aload_n hx hb dX1_readStatement_76 rfl (lv_at hl 0 rfl) ?_
    refine lv_iconst (v := 1) hx hb dX1_readStatement_77 (by decide) ?_
    have r17 : Int32.toInt 1 = 1 := by decide
    refine gA_int (gA_runV (As := [.int 1]) (rest := []) (ci := 1) (q0 := 1) hx hb hml hown hg hP hD hK hS hA hnw hgk (x_wrong l D ks H.size ad kk V L Z 1 hMV (by decide)) w867 w869 w6 w162 w870 rfl xgReader hdV_yX1_wrong ⟨Nat.le_of_ble_eq_true rfl, Nat.le_of_ble_eq_true rfl⟩ rfl hl.1 rfl (Nat.le_of_ble_eq_true rfl) dX1_readStatement_78 ⟨Nat.le_of_ble_eq_true rfl, Nat.le_of_ble_eq_true rfl⟩) hP hD hK hS hA (fun z18 u19 H locs w20 hP hD hK hS => ?_)
    obtain ⟨V22, L23⟩ := u19
    obtain ⟨hMV22, ajV22, axL23, rgz18, t21⟩ := w20
    have axL23 : L = L23 := Eq.symm axL23
    subst axL23
    have hP : va_P D vwCl (xw ad kk V22 L Z) H := hP
    have hD : va_D A (xw ad kk V22 L Z) := hD
    have hMV22 : rgd bX V22 := hMV22
    have ajV22 : agr [(1, 3)] [] V V22 := ajV22
    have agV22 : agr [(1, 2), (1, 3), (1, 4), (1, 6), (1, 7), (1, 8), (6, 8), (6, 9), (6, 10)] [41, 42, 43, 44, 45, 46, 47, 48, 49, 50, 51, 52, 53, 54, 55, 56, 57, 61, 62, 63, 64, 65, 66] V V22 := agV.tr ajV22 (by decide) (by decide)
    have fwV22 : frX (xR b) V V22 := frX.tr fwV (frX.ag ajV22 (by decide) (by decide))
    have rgz18 : 0 ≤ z18.toInt ∧ z18.toInt ≤ 0 := rgz18
    have t21 : 1 ≤ (V22 1 3).toInt := t21
    have pq24 : (V22 1 2).toInt = ((V 1 2)).toInt := congrArg Int32.toInt (ajV22 1 2 rfl)
    have cd25 : CD V22 b := ⟨CB.ag cd.1 (show agr [(1, 3)] [] V V22 from (agr.tr agr.rf ajV22 (by decide) (by decide))) (fun _ => rfl) (fun _ => rfl), CO.ag cd.2 (show agr [(1, 3)] [] V V22 from (agr.tr agr.rf ajV22 (by decide) (by decide))) (fun _ => rfl) (fun _ => rfl)⟩
    have p026 : p0x V V22 b := p0x.tr (p0x.rf : p0x V V b) (p0x.ag (show agr [(1, 3)] [] V V22 from (agr.tr agr.rf ajV22 (by decide) (by decide))) (fun _ => rfl) (fun _ => rfl))
    have wo27 : WO V22 b := WO.mv woq ((show agr [(1, 3)] [] V V22 from (agr.tr agr.rf ajV22 (by decide) (by decide))) 41 b rfl) (fun k9 => (show agr [(1, 3)] [] V V22 from (agr.tr agr.rf ajV22 (by decide) (by decide))) 47 k9 rfl) (fun k9 => (show agr [(1, 3)] [] V V22 from (agr.tr agr.rf ajV22 (by decide) (by decide))) 64 k9 rfl)
    exact W.zret (v := z18) hx hb hr (nb_ok (by omega)) (fun t ht hW => ⟨⟨z18, (V22, L), rfl, ⟨hMV22, agV22, alL, fwV22, (show 0 ≤ z18.toInt ∧ z18.toInt ≤ 1 from by first | exact om_641b3f05f166 rgz18.1 rgz18.2 | first | omega | ((try (have i_woq := Imp.go woq (by omega))); (try (have i_tx := Imp.go tx (by omega))); (try (have i_cd := Imp.go cd (by omega))); (try (have i_cd := Imp.go cd (by omega))); (try (have i_tx := Imp.go tx (by omega))); (try (have i_woq := Imp.go woq (by omega))); omega)), (Imp.mk (fun hp => by exfalso; omega)), cd25, p026, (show (V22 1 2).toInt = (V 1 2).toInt ∨ (24 * (b : Int) ≤ (V22 1 2).toInt ∧ (V22 1 2).toInt < 24 * (b : Int) + 24) from by first | exact om_a7db56e9fc7a pq24 | first | omega | ((try (have i_woq := Imp.go woq (by omega))); (try (have i_tx := Imp.go tx (by omega))); (try (have i_cd := Imp.go cd (by omega))); (try (have i_cd := Imp.go cd (by omega))); (try (have i_tx := Imp.go tx (by omega))); (try (have i_woq := Imp.go woq (by omega))); omega)), (Imp.mk (fun hp => have hp : z18.toInt = 0 := hp; (show 1 ≤ (V22 1 3).toInt from by first | exact om_f8d8213eda45 t21 | first | omega | ((try (have i_woq := Imp.go woq (by omega))); (try (have i_tx := Imp.go tx (by omega))); (try (have i_cd := Imp.go cd (by omega))); (try (have i_cd := Imp.go cd (by omega))); (try (have i_tx := Imp.go tx (by omega))); (try (have i_woq := Imp.go woq (by omega))); omega)))), wo27⟩, by rw [ht]; exact hP, va_K.moved hW.alike hK, hD⟩, hS.F ht⟩) hS.2.2 dX1_readStatement_81
  have gq16 : ((V 6 9)).toInt ≠ 129 := b_neq rfl (by decide) q16
  by_cases q28 : (V 6 9) = 130
  · refine g_top (v := 130) q28 ?_
    have fq28 : ((V 6 9)).toInt = 130 := b_eq rfl (by decide) q28
    refine lv_tableIn (x := 130) (off := 54) (tgt := 61) hx hb dX1_readStatement_7 (by decide) (by decide) (by decide) (by decide) ?_
    refine lv_aload_n hx hb dX1_readStatement_61 rfl (lv_at hl 0 rfl) ?_
    refine gA_int (gA_runV (As := []) (rest := []) (ci := 1) (q0 := 1) hx hb hml hown hg hP hD hK hS hA hnw hgk (x_readSetting l D ks H.size ad kk V L Z (b) hMV (show b < 2 from by first | exact om_f940a4667dd6 hb2 | first | omega | ((try (have i_woq := Imp.go woq (by omega))); (try (have i_tx := Imp.go tx (by omega))); (try (have i_cd := Imp.go cd (by omega))); (try (have i_cd := Imp.go cd (by omega))); (try (have i_tx := Imp.go tx (by omega))); (try (have i_woq := Imp.go woq (by omega))); omega)) (show (V 1 1).toInt = (b : Int) from by first | exact om_08e0c9701055 rbk | first | omega | ((try (have i_woq := Imp.go woq (by omega))); (try (have i_tx := Imp.go tx (by omega))); (try (have i_cd := Imp.go cd (by omega))); (try (have i_cd := Imp.go cd (by omega))); (try (have i_tx := Imp.go tx (by omega))); (try (have i_woq := Imp.go woq (by omega))); omega)) cd tx) w901 w903 w11 w162 w904 rfl xgReader hdV_yX1_readSetting ⟨Nat.le_of_ble_eq_true rfl, Nat.le_of_ble_eq_true rfl⟩ rfl hl.1 rfl (Nat.le_of_ble_eq_true rfl) dX1_readStatement_62 ⟨Nat.le_of_ble_eq_true rfl, Nat.le_of_ble_eq_true rfl⟩) hP hD hK hS hA (fun z29 u30 H locs w31 hP hD hK hS => ?_)
    obtain ⟨V36, L37⟩ := u30
    obtain ⟨hMV36, ajV36, axL37, fyV36, rgz29, t32, t33, t34, t35⟩ := w31
    have alL37 : agL [1, 6, 44] L L37 := agL.tr alL axL37 (by decide)
    have hP : va_P D vwCl (xw ad kk V36 L37 Z) H := hP
    have hD : va_D A (xw ad kk V36 L37 Z) := hD
    have hMV36 : rgd bX V36 := hMV36
    have ajV36 : agr [(1, 3), (1, 8), (6, 8), (6, 9), (6, 10)] [43, 44, 46] V V36 := ajV36
    have agV36 : agr [(1, 2), (1, 3), (1, 4), (1, 6), (1, 7), (1, 8), (6, 8), (6, 9), (6, 10)] [41, 42, 43, 44, 45, 46, 47, 48, 49, 50, 51, 52, 53, 54, 55, 56, 57, 61, 62, 63, 64, 65, 66] V V36 := agV.tr ajV36 (by decide) (by decide)
    have fwV36 : frX (xR b) V V36 := frX.tr fwV (fyV36)
    have rgz29 : 0 ≤ z29.toInt ∧ z29.toInt ≤ 1 := rgz29
    have t32 : TX V36 b := t32
    have t33 : CD V36 b := t33
    have t34 : px V V36 b := t34
    have t35 : Imp (z29.toInt = 0) (1 ≤ (V36 1 3).toInt) := t35
    have pq38 : (V36 1 2).toInt = ((V 1 2)).toInt := congrArg Int32.toInt (ajV36 1 2 rfl)
    have p039 : p0x V V36 b := p0x.tr (p0x.rf : p0x V V b) t34.1
    have wo40 : WO V36 b := WO.mv woq ((show agr [(1, 3), (1, 8), (6, 8), (6, 9), (6, 10)] [43, 44, 46] V V36 from (agr.tr agr.rf ajV36 (by decide) (by decide))) 41 b rfl) (fun k9 => (show agr [(1, 3), (1, 8), (6, 8), (6, 9), (6, 10)] [43, 44, 46] V V36 from (agr.tr agr.rf ajV36 (by decide) (by decide))) 47 k9 rfl) (fun k9 => (show agr [(1, 3), (1, 8), (6, 8), (6, 9), (6, 10)] [43, 44, 46] V V36 from (agr.tr agr.rf ajV36 (by decide) (by decide))) 64 k9 rfl)
    exact W.zret (v := z29) hx hb hr (nb_ok (by omega)) (fun t ht hW => ⟨⟨z29, (V36, L37), rfl, ⟨hMV36, agV36, alL37, fwV36, (show 0 ≤ z29.toInt ∧ z29.toInt ≤ 1 from by first | exact om_eb7af9d60398 rgz29.1 rgz29.2 | first | omega | ((try (have i_t35 := Imp.go t35 (by omega))); (try (have i_woq := Imp.go woq (by omega))); (try (have i_tx := Imp.go tx (by omega))); (try (have i_cd := Imp.go cd (by omega))); first | omega | ((try (have i_cd := Imp.go cd (by omega))); (try (have i_tx := Imp.go tx (by omega))); (try (have i_woq := Imp.go woq (by omega))); (try (have i_t35 := Imp.go t35 (by omega))); omega))), (Imp.mk (fun _ => t32)), t33, p039, (show (V36 1 2).toInt = (V 1 2).toInt ∨ (24 * (b : Int) ≤ (V36 1 2).toInt ∧ (V36 1 2).toInt < 24 * (b : Int) + 24) from by first | exact om_a7db56e9fc7a pq38 | first | omega | ((try (have i_t35 := Imp.go t35 (by omega))); (try (have i_woq := Imp.go woq (by omega))); (try (have i_tx := Imp.go tx (by omega))); (try (have i_cd := Imp.go cd (by omega))); first | omega | ((try (have i_cd := Imp.go cd (by omega))); (try (have i_tx := Imp.go tx (by omega))); (try (have i_woq := Imp.go woq (by omega))); (try (have i_t35 := Imp.go t35 (by omega))); omega))), (Imp.mk (fun hp => have hp : z29.toInt = 0 := hp; (show 1 ≤ (V36 1 3).toInt from by first | exact om_f8d8213eda45 ((Imp.go t35 (hp))) | first | omega | ((try (have i_t35 := Imp.go t35 (hp))); omega) | ((try (have i_t35 := Imp.go t35 (by omega))); (try (have i_woq := Imp.go woq (by omega))); (try (have i_tx := Imp.go tx (by omega))); (try (have i_cd := Imp.go cd (by omega))); first | omega | ((try (have i_cd := Imp.go cd (by omega))); (try (have i_tx := Imp.go tx (by omega))); (try (have i_woq := Imp.go woq (by omega))); (try (have i_t35 := Imp.go t35 (by omega))); omega))))), wo40⟩, by rw [ht]; exact hP, va_K.moved hW.alike hK, hD⟩, hS.F ht⟩) hS.2.2 dX1_readStatement_65
  have gq28 : ((V 6 9)).toInt ≠ 130 := b_neq rfl (by decide) q28
  by_cases q41 : (V 6 9) = 131
  · refine g_top (v := 131) q41 ?_
    have fq41 : ((V 6 9)).toInt = 131 := b_eq rfl (by decide) q41
    refine lv_tableIn (x := 131) (off := 59) (tgt := 66) hx hb dX1_readStatement_7 (by decide) (by decide) (by decide) (by decide) ?_
    refine lv_aload_n hx hb dX1_readStatement_66 rfl (lv_at hl 0 rfl) ?_
    refine gA_int (gA_runV (As := []) (rest := []) (ci := 1) (q0 := 1) hx hb hml hown hg hP hD hK hS hA hnw hgk (x_readComponent l D ks H.size ad kk V L Z (b) hMV (show b < 2 from by first | exact om_f940a4667dd6 hb2 | first | omega | ((try (have i_woq := Imp.go woq (by omega))); (try (have i_tx := Imp.go tx (by omega))); (try (have i_cd := Imp.go cd (by omega))); (try (have i_cd := Imp.go cd (by omega))); (try (have i_tx := Imp.go tx (by omega))); (try (have i_woq := Imp.go woq (by omega))); omega)) (show (V 1 1).toInt = (b : Int) from by first | exact om_08e0c9701055 rbk | first | omega | ((try (have i_woq := Imp.go woq (by omega))); (try (have i_tx := Imp.go tx (by omega))); (try (have i_cd := Imp.go cd (by omega))); (try (have i_cd := Imp.go cd (by omega))); (try (have i_tx := Imp.go tx (by omega))); (try (have i_woq := Imp.go woq (by omega))); omega)) cd tx) w910 w912 w13 w162 w913 rfl xgReader hdV_yX1_readComponent ⟨Nat.le_of_ble_eq_true rfl, Nat.le_of_ble_eq_true rfl⟩ rfl hl.1 rfl (Nat.le_of_ble_eq_true rfl) dX1_readStatement_67 ⟨Nat.le_of_ble_eq_true rfl, Nat.le_of_ble_eq_true rfl⟩) hP hD hK hS hA (fun z42 u43 H locs w44 hP hD hK hS => ?_)
    obtain ⟨V50, L51⟩ := u43
    obtain ⟨hMV50, ajV50, axL51, fyV50, rgz42, t45, t46, t47, t48, t49⟩ := w44
    have alL51 : agL [1, 6, 44] L L51 := agL.tr alL axL51 (by decide)
    have hP : va_P D vwCl (xw ad kk V50 L51 Z) H := hP
    have hD : va_D A (xw ad kk V50 L51 Z) := hD
    have hMV50 : rgd bX V50 := hMV50
    have ajV50 : agr [(1, 2), (1, 3), (1, 6), (1, 7), (1, 8), (6, 8), (6, 9), (6, 10)] [43, 44, 49, 50, 51, 52, 53, 54, 55, 56, 57, 61] V V50 := ajV50
    have agV50 : agr [(1, 2), (1, 3), (1, 4), (1, 6), (1, 7), (1, 8), (6, 8), (6, 9), (6, 10)] [41, 42, 43, 44, 45, 46, 47, 48, 49, 50, 51, 52, 53, 54, 55, 56, 57, 61, 62, 63, 64, 65, 66] V V50 := agV.tr ajV50 (by decide) (by decide)
    have fwV50 : frX (xR b) V V50 := frX.tr fwV (fyV50)
    have rgz42 : 0 ≤ z42.toInt ∧ z42.toInt ≤ 1 := rgz42
    have t45 : Imp (z42.toInt = 1) (TX V50 b) := t45
    have t46 : CD V50 b := t46
    have t47 : p0x V V50 b := t47
    have t48 : (V50 1 2).toInt = (V 1 2).toInt ∨ (24 * (b : Int) ≤ (V50 1 2).toInt ∧ (V50 1 2).toInt < 24 * (b : Int) + 24) := t48
    have t49 : Imp (z42.toInt = 0) (1 ≤ (V50 1 3).toInt) := t49
    have r52 : (-1) ≤ ((V50 1 2)).toInt ∧ ((V50 1 2)).toInt ≤ 47 := hMV50 1 2
    have p053 : p0x V V50 b := p0x.tr (p0x.rf : p0x V V b) t47
    have wo54 : WO V50 b := WO.mv woq ((show agr [(1, 2), (1, 3), (1, 6), (1, 7), (1, 8), (6, 8), (6, 9), (6, 10)] [43, 44, 49, 50, 51, 52, 53, 54, 55, 56, 57, 61] V V50 from (agr.tr agr.rf ajV50 (by decide) (by decide))) 41 b rfl) (fun k9 => (show agr [(1, 2), (1, 3), (1, 6), (1, 7), (1, 8), (6, 8), (6, 9), (6, 10)] [43, 44, 49, 50, 51, 52, 53, 54, 55, 56, 57, 61] V V50 from (agr.tr agr.rf ajV50 (by decide) (by decide))) 47 k9 rfl) (fun k9 => (show agr [(1, 2), (1, 3), (1, 6), (1, 7), (1, 8), (6, 8), (6, 9), (6, 10)] [43, 44, 49, 50, 51, 52, 53, 54, 55, 56, 57, 61] V V50 from (agr.tr agr.rf ajV50 (by decide) (by decide))) 64 k9 rfl)
    exact W.zret (v := z42) hx hb hr (nb_ok (by omega)) (fun t ht hW => ⟨⟨z42, (V50, L51), rfl, ⟨hMV50, agV50, alL51, fwV50, (show 0 ≤ z42.toInt ∧ z42.toInt ≤ 1 from by first | exact om_eb7af9d60398 rgz42.1 rgz42.2 | first | omega | ((try (have i_t49 := Imp.go t49 (by omega))); (try (have i_woq := Imp.go woq (by omega))); (try (have i_tx := Imp.go tx (by omega))); (try (have i_cd := Imp.go cd (by omega))); first | omega | ((try (have i_cd := Imp.go cd (by omega))); (try (have i_tx := Imp.go tx (by omega))); (try (have i_woq := Imp.go woq (by omega))); (try (have i_t49 := Imp.go t49 (by omega))); omega))), t45, t46, p053, (show (V50 1 2).toInt = (V 1 2).toInt ∨ (24 * (b : Int) ≤ (V50 1 2).toInt ∧ (V50 1 2).toInt < 24 * (b : Int) + 24) from by first | omega | ((try (have i_t49 := Imp.go t49 (by omega))); (try (have i_woq := Imp.go woq (by omega))); (try (have i_tx := Imp.go tx (by omega))); (try (have i_cd := Imp.go cd (by omega))); first | omega | ((try (have i_cd := Imp.go cd (by omega))); (try (have i_tx := Imp.go tx (by omega))); (try (have i_woq := Imp.go woq (by omega))); (try (have i_t49 := Imp.go t49 (by omega))); omega))), (Imp.mk (fun hp => have hp : z42.toInt = 0 := hp; (show 1 ≤ (V50 1 3).toInt from by first | exact om_f8d8213eda45 ((Imp.go t49 (hp))) | first | omega | ((try (have i_t49 := Imp.go t49 (hp))); omega) | ((try (have i_t49 := Imp.go t49 (by omega))); (try (have i_woq := Imp.go woq (by omega))); (try (have i_tx := Imp.go tx (by omega))); (try (have i_cd := Imp.go cd (by omega))); first | omega | ((try (have i_cd := Imp.go cd (by omega))); (try (have i_tx := Imp.go tx (by omega))); (try (have i_woq := Imp.go woq (by omega))); (try (have i_t49 := Imp.go t49 (by omega))); omega))))), wo54⟩, by rw [ht]; exact hP, va_K.moved hW.alike hK, hD⟩, hS.F ht⟩) hS.2.2 dX1_readStatement_70
  have gq41 : ((V 6 9)).toInt ≠ 131 := b_neq rfl (by decide) q41
  by_cases q55 : (V 6 9) = 132
  · refine g_top (v := 132) q55 ?_
    have fq55 : ((V 6 9)).toInt = 132 := b_eq rfl (by decide) q55
    refine lv_tableIn (x := 132) (off := 69) (tgt := 76) hx hb dX1_readStatement_7 (by decide) (by decide) (by decide) (by decide) ?_
    refine lv_aload_n hx hb dX1_readStatement_76 rfl (lv_at hl 0 rfl) ?_
    refine lv_iconst (v := 1) hx hb dX1_readStatement_77 (by decide) ?_
    have r56 : Int32.toInt 1 = 1 := by decide
    refine gA_int (gA_runV (As := [.int 1]) (rest := []) (ci := 1) (q0 := 1) hx hb hml hown hg hP hD hK hS hA hnw hgk (x_wrong l D ks H.size ad kk V L Z 1 hMV (by decide)) w867 w869 w6 w162 w870 rfl xgReader hdV_yX1_wrong ⟨Nat.le_of_ble_eq_true rfl, Nat.le_of_ble_eq_true rfl⟩ rfl hl.1 rfl (Nat.le_of_ble_eq_true rfl) dX1_readStatement_78 ⟨Nat.le_of_ble_eq_true rfl, Nat.le_of_ble_eq_true rfl⟩) hP hD hK hS hA (fun z57 u58 H locs w59 hP hD hK hS => ?_)
    obtain ⟨V61, L62⟩ := u58
    obtain ⟨hMV61, ajV61, axL62, rgz57, t60⟩ := w59
    have axL62 : L = L62 := Eq.symm axL62
    subst axL62
    have hP : va_P D vwCl (xw ad kk V61 L Z) H := hP
    have hD : va_D A (xw ad kk V61 L Z) := hD
    have hMV61 : rgd bX V61 := hMV61
    have ajV61 : agr [(1, 3)] [] V V61 := ajV61
    have agV61 : agr [(1, 2), (1, 3), (1, 4), (1, 6), (1, 7), (1, 8), (6, 8), (6, 9), (6, 10)] [41, 42, 43, 44, 45, 46, 47, 48, 49, 50, 51, 52, 53, 54, 55, 56, 57, 61, 62, 63, 64, 65, 66] V V61 := agV.tr ajV61 (by decide) (by decide)
    have fwV61 : frX (xR b) V V61 := frX.tr fwV (frX.ag ajV61 (by decide) (by decide))
    have rgz57 : 0 ≤ z57.toInt ∧ z57.toInt ≤ 0 := rgz57
    have t60 : 1 ≤ (V61 1 3).toInt := t60
    have pq63 : (V61 1 2).toInt = ((V 1 2)).toInt := congrArg Int32.toInt (ajV61 1 2 rfl)
    have cd64 : CD V61 b := ⟨CB.ag cd.1 (show agr [(1, 3)] [] V V61 from (agr.tr agr.rf ajV61 (by decide) (by decide))) (fun _ => rfl) (fun _ => rfl), CO.ag cd.2 (show agr [(1, 3)] [] V V61 from (agr.tr agr.rf ajV61 (by decide) (by decide))) (fun _ => rfl) (fun _ => rfl)⟩
    have p065 : p0x V V61 b := p0x.tr (p0x.rf : p0x V V b) (p0x.ag (show agr [(1, 3)] [] V V61 from (agr.tr agr.rf ajV61 (by decide) (by decide))) (fun _ => rfl) (fun _ => rfl))
    have wo66 : WO V61 b := WO.mv woq ((show agr [(1, 3)] [] V V61 from (agr.tr agr.rf ajV61 (by decide) (by decide))) 41 b rfl) (fun k9 => (show agr [(1, 3)] [] V V61 from (agr.tr agr.rf ajV61 (by decide) (by decide))) 47 k9 rfl) (fun k9 => (show agr [(1, 3)] [] V V61 from (agr.tr agr.rf ajV61 (by decide) (by decide))) 64 k9 rfl)
    exact W.zret (v := z57) hx hb hr (nb_ok (by omega)) (fun t ht hW => ⟨⟨z57, (V61, L), rfl, ⟨hMV61, agV61, alL, fwV61, (show 0 ≤ z57.toInt ∧ z57.toInt ≤ 1 from by first | exact om_641b3f05f166 rgz57.1 rgz57.2 | first | omega | ((try (have i_woq := Imp.go woq (by omega))); (try (have i_tx := Imp.go tx (by omega))); (try (have i_cd := Imp.go cd (by omega))); (try (have i_cd := Imp.go cd (by omega))); (try (have i_tx := Imp.go tx (by omega))); (try (have i_woq := Imp.go woq (by omega))); omega)), (Imp.mk (fun hp => by exfalso; omega)), cd64, p065, (show (V61 1 2).toInt = (V 1 2).toInt ∨ (24 * (b : Int) ≤ (V61 1 2).toInt ∧ (V61 1 2).toInt < 24 * (b : Int) + 24) from by first | exact om_a7db56e9fc7a pq63 | first | omega | ((try (have i_woq := Imp.go woq (by omega))); (try (have i_tx := Imp.go tx (by omega))); (try (have i_cd := Imp.go cd (by omega))); (try (have i_cd := Imp.go cd (by omega))); (try (have i_tx := Imp.go tx (by omega))); (try (have i_woq := Imp.go woq (by omega))); omega)), (Imp.mk (fun hp => have hp : z57.toInt = 0 := hp; (show 1 ≤ (V61 1 3).toInt from by first | exact om_f8d8213eda45 t60 | first | omega | ((try (have i_woq := Imp.go woq (by omega))); (try (have i_tx := Imp.go tx (by omega))); (try (have i_cd := Imp.go cd (by omega))); (try (have i_cd := Imp.go cd (by omega))); (try (have i_tx := Imp.go tx (by omega))); (try (have i_woq := Imp.go woq (by omega))); omega)))), wo66⟩, by rw [ht]; exact hP, va_K.moved hW.alike hK, hD⟩, hS.F ht⟩) hS.2.2 dX1_readStatement_81
  have gq55 : ((V 6 9)).toInt ≠ 132 := b_neq rfl (by decide) q55
  by_cases q67 : (V 6 9) = 133
  · refine g_top (v := 133) q67 ?_
    have fq67 : ((V 6 9)).toInt = 133 := b_eq rfl (by decide) q67
    refine lv_tableIn (x := 133) (off := 69) (tgt := 76) hx hb dX1_readStatement_7 (by decide) (by decide) (by decide) (by decide) ?_
    refine lv_aload_n hx hb dX1_readStatement_76 rfl (lv_at hl 0 rfl) ?_
    refine lv_iconst (v := 1) hx hb dX1_readStatement_77 (by decide) ?_
    have r68 : Int32.toInt 1 = 1 := by decide
    refine gA_int (gA_runV (As := [.int 1]) (rest := []) (ci := 1) (q0 := 1) hx hb hml hown hg hP hD hK hS hA hnw hgk (x_wrong l D ks H.size ad kk V L Z 1 hMV (by decide)) w867 w869 w6 w162 w870 rfl xgReader hdV_yX1_wrong ⟨Nat.le_of_ble_eq_true rfl, Nat.le_of_ble_eq_true rfl⟩ rfl hl.1 rfl (Nat.le_of_ble_eq_true rfl) dX1_readStatement_78 ⟨Nat.le_of_ble_eq_true rfl, Nat.le_of_ble_eq_true rfl⟩) hP hD hK hS hA (fun z69 u70 H locs w71 hP hD hK hS => ?_)
    obtain ⟨V73, L74⟩ := u70
    obtain ⟨hMV73, ajV73, axL74, rgz69, t72⟩ := w71
    have axL74 : L = L74 := Eq.symm axL74
    subst axL74
    have hP : va_P D vwCl (xw ad kk V73 L Z) H := hP
    have hD : va_D A (xw ad kk V73 L Z) := hD
    have hMV73 : rgd bX V73 := hMV73
    have ajV73 : agr [(1, 3)] [] V V73 := ajV73
    have agV73 : agr [(1, 2), (1, 3), (1, 4), (1, 6), (1, 7), (1, 8), (6, 8), (6, 9), (6, 10)] [41, 42, 43, 44, 45, 46, 47, 48, 49, 50, 51, 52, 53, 54, 55, 56, 57, 61, 62, 63, 64, 65, 66] V V73 := agV.tr ajV73 (by decide) (by decide)
    have fwV73 : frX (xR b) V V73 := frX.tr fwV (frX.ag ajV73 (by decide) (by decide))
    have rgz69 : 0 ≤ z69.toInt ∧ z69.toInt ≤ 0 := rgz69
    have t72 : 1 ≤ (V73 1 3).toInt := t72
    have pq75 : (V73 1 2).toInt = ((V 1 2)).toInt := congrArg Int32.toInt (ajV73 1 2 rfl)
    have cd76 : CD V73 b := ⟨CB.ag cd.1 (show agr [(1, 3)] [] V V73 from (agr.tr agr.rf ajV73 (by decide) (by decide))) (fun _ => rfl) (fun _ => rfl), CO.ag cd.2 (show agr [(1, 3)] [] V V73 from (agr.tr agr.rf ajV73 (by decide) (by decide))) (fun _ => rfl) (fun _ => rfl)⟩
    have p077 : p0x V V73 b := p0x.tr (p0x.rf : p0x V V b) (p0x.ag (show agr [(1, 3)] [] V V73 from (agr.tr agr.rf ajV73 (by decide) (by decide))) (fun _ => rfl) (fun _ => rfl))
    have wo78 : WO V73 b := WO.mv woq ((show agr [(1, 3)] [] V V73 from (agr.tr agr.rf ajV73 (by decide) (by decide))) 41 b rfl) (fun k9 => (show agr [(1, 3)] [] V V73 from (agr.tr agr.rf ajV73 (by decide) (by decide))) 47 k9 rfl) (fun k9 => (show agr [(1, 3)] [] V V73 from (agr.tr agr.rf ajV73 (by decide) (by decide))) 64 k9 rfl)
    exact W.zret (v := z69) hx hb hr (nb_ok (by omega)) (fun t ht hW => ⟨⟨z69, (V73, L), rfl, ⟨hMV73, agV73, alL, fwV73, (show 0 ≤ z69.toInt ∧ z69.toInt ≤ 1 from by first | exact om_641b3f05f166 rgz69.1 rgz69.2 | first | omega | ((try (have i_woq := Imp.go woq (by omega))); (try (have i_tx := Imp.go tx (by omega))); (try (have i_cd := Imp.go cd (by omega))); (try (have i_cd := Imp.go cd (by omega))); (try (have i_tx := Imp.go tx (by omega))); (try (have i_woq := Imp.go woq (by omega))); omega)), (Imp.mk (fun hp => by exfalso; omega)), cd76, p077, (show (V73 1 2).toInt = (V 1 2).toInt ∨ (24 * (b : Int) ≤ (V73 1 2).toInt ∧ (V73 1 2).toInt < 24 * (b : Int) + 24) from by first | exact om_a7db56e9fc7a pq75 | first | omega | ((try (have i_woq := Imp.go woq (by omega))); (try (have i_tx := Imp.go tx (by omega))); (try (have i_cd := Imp.go cd (by omega))); (try (have i_cd := Imp.go cd (by omega))); (try (have i_tx := Imp.go tx (by omega))); (try (have i_woq := Imp.go woq (by omega))); omega)), (Imp.mk (fun hp => have hp : z69.toInt = 0 := hp; (show 1 ≤ (V73 1 3).toInt from by first | exact om_f8d8213eda45 t72 | first | omega | ((try (have i_woq := Imp.go woq (by omega))); (try (have i_tx := Imp.go tx (by omega))); (try (have i_cd := Imp.go cd (by omega))); (try (have i_cd := Imp.go cd (by omega))); (try (have i_tx := Imp.go tx (by omega))); (try (have i_woq := Imp.go woq (by omega))); omega)))), wo78⟩, by rw [ht]; exact hP, va_K.moved hW.alike hK, hD⟩, hS.F ht⟩) hS.2.2 dX1_readStatement_81
  have gq67 : ((V 6 9)).toInt ≠ 133 := b_neq rfl (by decide) q67
  by_cases q79 : (V 6 9) = 134
  · refine g_top (v := 134) q79 ?_
    have fq79 : ((V 6 9)).toInt = 134 := b_eq rfl (by decide) q79
    refine lv_tableIn (x := 134) (off := 69) (tgt := 76) hx hb dX1_readStatement_7 (by decide) (by decide) (by decide) (by decide) ?_
    refine lv_aload_n hx hb dX1_readStatement_76 rfl (lv_at hl 0 rfl) ?_
    refine lv_iconst (v := 1) hx hb dX1_readStatement_77 (by decide) ?_
    have r80 : Int32.toInt 1 = 1 := by decide
    refine gA_int (gA_runV (As := [.int 1]) (rest := []) (ci := 1) (q0 := 1) hx hb hml hown hg hP hD hK hS hA hnw hgk (x_wrong l D ks H.size ad kk V L Z 1 hMV (by decide)) w867 w869 w6 w162 w870 rfl xgReader hdV_yX1_wrong ⟨Nat.le_of_ble_eq_true rfl, Nat.le_of_ble_eq_true rfl⟩ rfl hl.1 rfl (Nat.le_of_ble_eq_true rfl) dX1_readStatement_78 ⟨Nat.le_of_ble_eq_true rfl, Nat.le_of_ble_eq_true rfl⟩) hP hD hK hS hA (fun z81 u82 H locs w83 hP hD hK hS => ?_)
    obtain ⟨V85, L86⟩ := u82
    obtain ⟨hMV85, ajV85, axL86, rgz81, t84⟩ := w83
    have axL86 : L = L86 := Eq.symm axL86
    subst axL86
    have hP : va_P D vwCl (xw ad kk V85 L Z) H := hP
    have hD : va_D A (xw ad kk V85 L Z) := hD
    have hMV85 : rgd bX V85 := hMV85
    have ajV85 : agr [(1, 3)] [] V V85 := ajV85
    have agV85 : agr [(1, 2), (1, 3), (1, 4), (1, 6), (1, 7), (1, 8), (6, 8), (6, 9), (6, 10)] [41, 42, 43, 44, 45, 46, 47, 48, 49, 50, 51, 52, 53, 54, 55, 56, 57, 61, 62, 63, 64, 65, 66] V V85 := agV.tr ajV85 (by decide) (by decide)
    have fwV85 : frX (xR b) V V85 := frX.tr fwV (frX.ag ajV85 (by decide) (by decide))
    have rgz81 : 0 ≤ z81.toInt ∧ z81.toInt ≤ 0 := rgz81
    have t84 : 1 ≤ (V85 1 3).toInt := t84
    have pq87 : (V85 1 2).toInt = ((V 1 2)).toInt := congrArg Int32.toInt (ajV85 1 2 rfl)
    have cd88 : CD V85 b := ⟨CB.ag cd.1 (show agr [(1, 3)] [] V V85 from (agr.tr agr.rf ajV85 (by decide) (by decide))) (fun _ => rfl) (fun _ => rfl), CO.ag cd.2 (show agr [(1, 3)] [] V V85 from (agr.tr agr.rf ajV85 (by decide) (by decide))) (fun _ => rfl) (fun _ => rfl)⟩
    have p089 : p0x V V85 b := p0x.tr (p0x.rf : p0x V V b) (p0x.ag (show agr [(1, 3)] [] V V85 from (agr.tr agr.rf ajV85 (by decide) (by decide))) (fun _ => rfl) (fun _ => rfl))
    have wo90 : WO V85 b := WO.mv woq ((show agr [(1, 3)] [] V V85 from (agr.tr agr.rf ajV85 (by decide) (by decide))) 41 b rfl) (fun k9 => (show agr [(1, 3)] [] V V85 from (agr.tr agr.rf ajV85 (by decide) (by decide))) 47 k9 rfl) (fun k9 => (show agr [(1, 3)] [] V V85 from (agr.tr agr.rf ajV85 (by decide) (by decide))) 64 k9 rfl)
    exact W.zret (v := z81) hx hb hr (nb_ok (by omega)) (fun t ht hW => ⟨⟨z81, (V85, L), rfl, ⟨hMV85, agV85, alL, fwV85, (show 0 ≤ z81.toInt ∧ z81.toInt ≤ 1 from by first | exact om_641b3f05f166 rgz81.1 rgz81.2 | first | omega | ((try (have i_woq := Imp.go woq (by omega))); (try (have i_tx := Imp.go tx (by omega))); (try (have i_cd := Imp.go cd (by omega))); (try (have i_cd := Imp.go cd (by omega))); (try (have i_tx := Imp.go tx (by omega))); (try (have i_woq := Imp.go woq (by omega))); omega)), (Imp.mk (fun hp => by exfalso; omega)), cd88, p089, (show (V85 1 2).toInt = (V 1 2).toInt ∨ (24 * (b : Int) ≤ (V85 1 2).toInt ∧ (V85 1 2).toInt < 24 * (b : Int) + 24) from by first | exact om_a7db56e9fc7a pq87 | first | omega | ((try (have i_woq := Imp.go woq (by omega))); (try (have i_tx := Imp.go tx (by omega))); (try (have i_cd := Imp.go cd (by omega))); (try (have i_cd := Imp.go cd (by omega))); (try (have i_tx := Imp.go tx (by omega))); (try (have i_woq := Imp.go woq (by omega))); omega)), (Imp.mk (fun hp => have hp : z81.toInt = 0 := hp; (show 1 ≤ (V85 1 3).toInt from by first | exact om_f8d8213eda45 t84 | first | omega | ((try (have i_woq := Imp.go woq (by omega))); (try (have i_tx := Imp.go tx (by omega))); (try (have i_cd := Imp.go cd (by omega))); (try (have i_cd := Imp.go cd (by omega))); (try (have i_tx := Imp.go tx (by omega))); (try (have i_woq := Imp.go woq (by omega))); omega)))), wo90⟩, by rw [ht]; exact hP, va_K.moved hW.alike hK, hD⟩, hS.F ht⟩) hS.2.2 dX1_readStatement_81
  have gq79 : ((V 6 9)).toInt ≠ 134 := b_neq rfl (by decide) q79
  by_cases q91 : (V 6 9) = 135
  · refine g_top (v := 135) q91 ?_
    have fq91 : ((V 6 9)).toInt = 135 := b_eq rfl (by decide) q91
    refine lv_tableIn (x := 135) (off := 69) (tgt := 76) hx hb dX1_readStatement_7 (by decide) (by decide) (by decide) (by decide) ?_
    refine lv_aload_n hx hb dX1_readStatement_76 rfl (lv_at hl 0 rfl) ?_
    refine lv_iconst (v := 1) hx hb dX1_readStatement_77 (by decide) ?_
    have r92 : Int32.toInt 1 = 1 := by decide
    refine gA_int (gA_runV (As := [.int 1]) (rest := []) (ci := 1) (q0 := 1) hx hb hml hown hg hP hD hK hS hA hnw hgk (x_wrong l D ks H.size ad kk V L Z 1 hMV (by decide)) w867 w869 w6 w162 w870 rfl xgReader hdV_yX1_wrong ⟨Nat.le_of_ble_eq_true rfl, Nat.le_of_ble_eq_true rfl⟩ rfl hl.1 rfl (Nat.le_of_ble_eq_true rfl) dX1_readStatement_78 ⟨Nat.le_of_ble_eq_true rfl, Nat.le_of_ble_eq_true rfl⟩) hP hD hK hS hA (fun z93 u94 H locs w95 hP hD hK hS => ?_)
    obtain ⟨V97, L98⟩ := u94
    obtain ⟨hMV97, ajV97, axL98, rgz93, t96⟩ := w95
    have axL98 : L = L98 := Eq.symm axL98
    subst axL98
    have hP : va_P D vwCl (xw ad kk V97 L Z) H := hP
    have hD : va_D A (xw ad kk V97 L Z) := hD
    have hMV97 : rgd bX V97 := hMV97
    have ajV97 : agr [(1, 3)] [] V V97 := ajV97
    have agV97 : agr [(1, 2), (1, 3), (1, 4), (1, 6), (1, 7), (1, 8), (6, 8), (6, 9), (6, 10)] [41, 42, 43, 44, 45, 46, 47, 48, 49, 50, 51, 52, 53, 54, 55, 56, 57, 61, 62, 63, 64, 65, 66] V V97 := agV.tr ajV97 (by decide) (by decide)
    have fwV97 : frX (xR b) V V97 := frX.tr fwV (frX.ag ajV97 (by decide) (by decide))
    have rgz93 : 0 ≤ z93.toInt ∧ z93.toInt ≤ 0 := rgz93
    have t96 : 1 ≤ (V97 1 3).toInt := t96
    have pq99 : (V97 1 2).toInt = ((V 1 2)).toInt := congrArg Int32.toInt (ajV97 1 2 rfl)
    have cd100 : CD V97 b := ⟨CB.ag cd.1 (show agr [(1, 3)] [] V V97 from (agr.tr agr.rf ajV97 (by decide) (by decide))) (fun _ => rfl) (fun _ => rfl), CO.ag cd.2 (show agr [(1, 3)] [] V V97 from (agr.tr agr.rf ajV97 (by decide) (by decide))) (fun _ => rfl) (fun _ => rfl)⟩
    have p0101 : p0x V V97 b := p0x.tr (p0x.rf : p0x V V b) (p0x.ag (show agr [(1, 3)] [] V V97 from (agr.tr agr.rf ajV97 (by decide) (by decide))) (fun _ => rfl) (fun _ => rfl))
    have wo102 : WO V97 b := WO.mv woq ((show agr [(1, 3)] [] V V97 from (agr.tr agr.rf ajV97 (by decide) (by decide))) 41 b rfl) (fun k9 => (show agr [(1, 3)] [] V V97 from (agr.tr agr.rf ajV97 (by decide) (by decide))) 47 k9 rfl) (fun k9 => (show agr [(1, 3)] [] V V97 from (agr.tr agr.rf ajV97 (by decide) (by decide))) 64 k9 rfl)
    exact W.zret (v := z93) hx hb hr (nb_ok (by omega)) (fun t ht hW => ⟨⟨z93, (V97, L), rfl, ⟨hMV97, agV97, alL, fwV97, (show 0 ≤ z93.toInt ∧ z93.toInt ≤ 1 from by first | exact om_641b3f05f166 rgz93.1 rgz93.2 | first | omega | ((try (have i_woq := Imp.go woq (by omega))); (try (have i_tx := Imp.go tx (by omega))); (try (have i_cd := Imp.go cd (by omega))); (try (have i_cd := Imp.go cd (by omega))); (try (have i_tx := Imp.go tx (by omega))); (try (have i_woq := Imp.go woq (by omega))); omega)), (Imp.mk (fun hp => by exfalso; omega)), cd100, p0101, (show (V97 1 2).toInt = (V 1 2).toInt ∨ (24 * (b : Int) ≤ (V97 1 2).toInt ∧ (V97 1 2).toInt < 24 * (b : Int) + 24) from by first | exact om_a7db56e9fc7a pq99 | first | omega | ((try (have i_woq := Imp.go woq (by omega))); (try (have i_tx := Imp.go tx (by omega))); (try (have i_cd := Imp.go cd (by omega))); (try (have i_cd := Imp.go cd (by omega))); (try (have i_tx := Imp.go tx (by omega))); (try (have i_woq := Imp.go woq (by omega))); omega)), (Imp.mk (fun hp => have hp : z93.toInt = 0 := hp; (show 1 ≤ (V97 1 3).toInt from by first | exact om_f8d8213eda45 t96 | first | omega | ((try (have i_woq := Imp.go woq (by omega))); (try (have i_tx := Imp.go tx (by omega))); (try (have i_cd := Imp.go cd (by omega))); (try (have i_cd := Imp.go cd (by omega))); (try (have i_tx := Imp.go tx (by omega))); (try (have i_woq := Imp.go woq (by omega))); omega)))), wo102⟩, by rw [ht]; exact hP, va_K.moved hW.alike hK, hD⟩, hS.F ht⟩) hS.2.2 dX1_readStatement_81
  have gq91 : ((V 6 9)).toInt ≠ 135 := b_neq rfl (by decide) q91
  by_cases q103 : (V 6 9) = 136
  · refine g_top (v := 136) q103 ?_
    have fq103 : ((V 6 9)).toInt = 136 := b_eq rfl (by decide) q103
    refine lv_tableIn (x := 136) (off := 64) (tgt := 71) hx hb dX1_readStatement_7 (by decide) (by decide) (by decide) (by decide) ?_
    refine lv_aload_n hx hb dX1_readStatement_71 rfl (lv_at hl 0 rfl) ?_
    refine gA_int (gA_runV (As := []) (rest := []) (ci := 1) (q0 := 1) hx hb hml hown hg hP hD hK hS hA hnw hgk (x_readWrap9 l D ks H.size ad kk V L Z (b) hMV (show b < 2 from by first | exact om_f940a4667dd6 hb2 | first | omega | ((try (have i_woq := Imp.go woq (by omega))); (try (have i_tx := Imp.go tx (by omega))); (try (have i_cd := Imp.go cd (by omega))); (try (have i_cd := Imp.go cd (by omega))); (try (have i_tx := Imp.go tx (by omega))); (try (have i_woq := Imp.go woq (by omega))); omega)) (show (V 1 1).toInt = (b : Int) from by first | exact om_08e0c9701055 rbk | first | omega | ((try (have i_woq := Imp.go woq (by omega))); (try (have i_tx := Imp.go tx (by omega))); (try (have i_cd := Imp.go cd (by omega))); (try (have i_cd := Imp.go cd (by omega))); (try (have i_tx := Imp.go tx (by omega))); (try (have i_woq := Imp.go woq (by omega))); omega)) cd tx woq) w935 w937 w18 w162 w938 rfl xgReader hdV_yX1_readWrap ⟨Nat.le_of_ble_eq_true rfl, Nat.le_of_ble_eq_true rfl⟩ rfl hl.1 rfl (Nat.le_of_ble_eq_true rfl) dX1_readStatement_72 ⟨Nat.le_of_ble_eq_true rfl, Nat.le_of_ble_eq_true rfl⟩) hP hD hK hS hA (fun z104 u105 H locs w106 hP hD hK hS => ?_)
    obtain ⟨V112, L113⟩ := u105
    obtain ⟨hMV112, ajV112, axL113, fyV112, rgz104, t107, t108, t109, t110, t111⟩ := w106
    have alL113 : agL [1, 6, 44] L L113 := agL.tr alL axL113 (by decide)
    have hP : va_P D vwCl (xw ad kk V112 L113 Z) H := hP
    have hD : va_D A (xw ad kk V112 L113 Z) := hD
    have hMV112 : rgd bX V112 := hMV112
    have ajV112 : agr [(1, 3), (1, 4), (1, 6), (1, 8), (6, 8), (6, 9), (6, 10)] [41, 42, 43, 44, 47, 48, 62, 63, 64, 65, 66] V V112 := ajV112
    have agV112 : agr [(1, 2), (1, 3), (1, 4), (1, 6), (1, 7), (1, 8), (6, 8), (6, 9), (6, 10)] [41, 42, 43, 44, 45, 46, 47, 48, 49, 50, 51, 52, 53, 54, 55, 56, 57, 61, 62, 63, 64, 65, 66] V V112 := agV.tr ajV112 (by decide) (by decide)
    have fwV112 : frX (xR b) V V112 := frX.tr fwV (fyV112)
    have rgz104 : 0 ≤ z104.toInt ∧ z104.toInt ≤ 1 := rgz104
    have t107 : TX V112 b := t107
    have t108 : CD V112 b := t108
    have t109 : px V V112 b := t109
    have t110 : Imp (z104.toInt = 0) (1 ≤ (V112 1 3).toInt) := t110
    have t111 : WO V112 b := t111
    have pq114 : (V112 1 2).toInt = ((V 1 2)).toInt := congrArg Int32.toInt (ajV112 1 2 rfl)
    have p0115 : p0x V V112 b := p0x.tr (p0x.rf : p0x V V b) t109.1
    exact W.zret (v := z104) hx hb hr (nb_ok (by omega)) (fun t ht hW => ⟨⟨z104, (V112, L113), rfl, ⟨hMV112, agV112, alL113, fwV112, (show 0 ≤ z104.toInt ∧ z104.toInt ≤ 1 from by first | exact om_eb7af9d60398 rgz104.1 rgz104.2 | first | omega | ((try (have i_t110 := Imp.go t110 (by omega))); (try (have i_woq := Imp.go woq (by omega))); (try (have i_tx := Imp.go tx (by omega))); (try (have i_cd := Imp.go cd (by omega))); first | omega | ((try (have i_cd := Imp.go cd (by omega))); (try (have i_tx := Imp.go tx (by omega))); (try (have i_woq := Imp.go woq (by omega))); (try (have i_t110 := Imp.go t110 (by omega))); omega))), (Imp.mk (fun _ => t107)), t108, p0115, (show (V112 1 2).toInt = (V 1 2).toInt ∨ (24 * (b : Int) ≤ (V112 1 2).toInt ∧ (V112 1 2).toInt < 24 * (b : Int) + 24) from by first | exact om_a7db56e9fc7a pq114 | first | omega | ((try (have i_t110 := Imp.go t110 (by omega))); (try (have i_woq := Imp.go woq (by omega))); (try (have i_tx := Imp.go tx (by omega))); (try (have i_cd := Imp.go cd (by omega))); first | omega | ((try (have i_cd := Imp.go cd (by omega))); (try (have i_tx := Imp.go tx (by omega))); (try (have i_woq := Imp.go woq (by omega))); (try (have i_t110 := Imp.go t110 (by omega))); omega))), (Imp.mk (fun hp => have hp : z104.toInt = 0 := hp; (show 1 ≤ (V112 1 3).toInt from by first | exact om_f8d8213eda45 ((Imp.go t110 (hp))) | first | omega | ((try (have i_t110 := Imp.go t110 (hp))); omega) | ((try (have i_t110 := Imp.go t110 (by omega))); (try (have i_woq := Imp.go woq (by omega))); (try (have i_tx := Imp.go tx (by omega))); (try (have i_cd := Imp.go cd (by omega))); first | omega | ((try (have i_cd := Imp.go cd (by omega))); (try (have i_tx := Imp.go tx (by omega))); (try (have i_woq := Imp.go woq (by omega))); (try (have i_t110 := Imp.go t110 (by omega))); omega))))), t111⟩, by rw [ht]; exact hP, va_K.moved hW.alike hK, hD⟩, hS.F ht⟩) hS.2.2 dX1_readStatement_75
  have gq103 : ((V 6 9)).toInt ≠ 136 := b_neq rfl (by decide) q103
  refine lv_tableOut (x := (V 6 9)) (tgt := 76) hx hb dX1_readStatement_7 (by omega) (by decide) ?_
  refine lv_aload_n hx hb dX1_readStatement_76 rfl (lv_at hl 0 rfl) ?_
  refine lv_iconst (v := 1) hx hb dX1_readStatement_77 (by decide) ?_
  have r116 : Int32.toInt 1 = 1 := by decide
  refine gA_int (gA_runV (As := [.int 1]) (rest := []) (ci := 1) (q0 := 1) hx hb hml hown hg hP hD hK hS hA hnw hgk (x_wrong l D ks H.size ad kk V L Z 1 hMV (by decide)) w867 w869 w6 w162 w870 rfl xgReader hdV_yX1_wrong ⟨Nat.le_of_ble_eq_true rfl, Nat.le_of_ble_eq_true rfl⟩ rfl hl.1 rfl (Nat.le_of_ble_eq_true rfl) dX1_readStatement_78 ⟨Nat.le_of_ble_eq_true rfl, Nat.le_of_ble_eq_true rfl⟩) hP hD hK hS hA (fun z117 u118 H locs w119 hP hD hK hS => ?_)
  obtain ⟨V121, L122⟩ := u118
  obtain ⟨hMV121, ajV121, axL122, rgz117, t120⟩ := w119
  have axL122 : L = L122 := Eq.symm axL122
  subst axL122
  have hP : va_P D vwCl (xw ad kk V121 L Z) H := hP
  have hD : va_D A (xw ad kk V121 L Z) := hD
  have hMV121 : rgd bX V121 := hMV121
  have ajV121 : agr [(1, 3)] [] V V121 := ajV121
  have agV121 : agr [(1, 2), (1, 3), (1, 4), (1, 6), (1, 7), (1, 8), (6, 8), (6, 9), (6, 10)] [41, 42, 43, 44, 45, 46, 47, 48, 49, 50, 51, 52, 53, 54, 55, 56, 57, 61, 62, 63, 64, 65, 66] V V121 := agV.tr ajV121 (by decide) (by decide)
  have fwV121 : frX (xR b) V V121 := frX.tr fwV (frX.ag ajV121 (by decide) (by decide))
  have rgz117 : 0 ≤ z117.toInt ∧ z117.toInt ≤ 0 := rgz117
  have t120 : 1 ≤ (V121 1 3).toInt := t120
  have pq123 : (V121 1 2).toInt = ((V 1 2)).toInt := congrArg Int32.toInt (ajV121 1 2 rfl)
  have cd124 : CD V121 b := ⟨CB.ag cd.1 (show agr [(1, 3)] [] V V121 from (agr.tr agr.rf ajV121 (by decide) (by decide))) (fun _ => rfl) (fun _ => rfl), CO.ag cd.2 (show agr [(1, 3)] [] V V121 from (agr.tr agr.rf ajV121 (by decide) (by decide))) (fun _ => rfl) (fun _ => rfl)⟩
  have p0125 : p0x V V121 b := p0x.tr (p0x.rf : p0x V V b) (p0x.ag (show agr [(1, 3)] [] V V121 from (agr.tr agr.rf ajV121 (by decide) (by decide))) (fun _ => rfl) (fun _ => rfl))
  have wo126 : WO V121 b := WO.mv woq ((show agr [(1, 3)] [] V V121 from (agr.tr agr.rf ajV121 (by decide) (by decide))) 41 b rfl) (fun k9 => (show agr [(1, 3)] [] V V121 from (agr.tr agr.rf ajV121 (by decide) (by decide))) 47 k9 rfl) (fun k9 => (show agr [(1, 3)] [] V V121 from (agr.tr agr.rf ajV121 (by decide) (by decide))) 64 k9 rfl)
  exact W.zret (v := z117) hx hb hr (nb_ok (by omega)) (fun t ht hW => ⟨⟨z117, (V121, L), rfl, ⟨hMV121, agV121, alL, fwV121, (show 0 ≤ z117.toInt ∧ z117.toInt ≤ 1 from by first | exact om_641b3f05f166 rgz117.1 rgz117.2 | first | omega | ((try (have i_woq := Imp.go woq (by omega))); (try (have i_tx := Imp.go tx (by omega))); (try (have i_cd := Imp.go cd (by omega))); (try (have i_cd := Imp.go cd (by omega))); (try (have i_tx := Imp.go tx (by omega))); (try (have i_woq := Imp.go woq (by omega))); omega)), (Imp.mk (fun hp => by exfalso; omega)), cd124, p0125, (show (V121 1 2).toInt = (V 1 2).toInt ∨ (24 * (b : Int) ≤ (V121 1 2).toInt ∧ (V121 1 2).toInt < 24 * (b : Int) + 24) from by first | exact om_a7db56e9fc7a pq123 | first | omega | ((try (have i_woq := Imp.go woq (by omega))); (try (have i_tx := Imp.go tx (by omega))); (try (have i_cd := Imp.go cd (by omega))); (try (have i_cd := Imp.go cd (by omega))); (try (have i_tx := Imp.go tx (by omega))); (try (have i_woq := Imp.go woq (by omega))); omega)), (Imp.mk (fun hp => have hp : z117.toInt = 0 := hp; (show 1 ≤ (V121 1 3).toInt from by first | exact om_f8d8213eda45 t120 | first | omega | ((try (have i_woq := Imp.go woq (by omega))); (try (have i_tx := Imp.go tx (by omega))); (try (have i_cd := Imp.go cd (by omega))); (try (have i_cd := Imp.go cd (by omega))); (try (have i_tx := Imp.go tx (by omega))); (try (have i_woq := Imp.go woq (by omega))); omega)))), wo126⟩, by rw [ht]; exact hP, va_K.moved hW.alike hK, hD⟩, hS.F ht⟩) hS.2.2 dX1_readStatement_81
abbrev r_x_read9 : Room := { frames := 93, cells := 0, slots := 0, locals := 2728 }
abbrev q_x_read9 (D : va_G) (ks : KS) (ad : Nat → Nat) (kk : Nat → ClassId) (V : Vf) (L : Lf) (Z : XZ) (b : Nat) (A : Nat → Prop) : Array Value → State → Outcome → State → Prop := va_Qi (fun (r : Int32) (u : Vf × Lf) => rgd bX u.1 ∧ agr [(1, 1), (1, 2), (1, 3), (1, 4), (1, 6), (1, 7), (1, 8), (6, 6), (6, 7), (6, 8), (6, 9), (6, 10)] [12, 13, 14, 41, 42, 43, 44, 45, 46, 47, 48, 49, 50, 51, 52, 53, 54, 55, 56, 57, 58, 59, 60, 61, 62, 63, 64, 65, 66] V u.1 ∧ agL [1, 6, 14, 44] L u.2 ∧ frX (xR b) V u.1 ∧ (Imp (r.toInt = 0) (CD u.1 b ∧ TX u.1 b)) ∧ (Imp (r.toInt = 0) (WO u.1 b))) (fun u t => gq D A (xw ad kk u.1 u.2 Z) (xty kk Z) t) A
set_option maxHeartbeats 4000000 in
set_option maxRecDepth 100000 in
theorem x_read9 (l : Launch) (D : va_G) (ks : KS) (sz : Nat) (ad : Nat → Nat) (kk : Nat → ClassId) (V : Vf) (L : Lf) (Z : XZ) (b : Nat) (hMV : rgd bX V) (hb2 : b < 2)  : Met l yX1_read (Cond.code yX1_read cX1_read 4 (some .int) :: GW) r_x_read9 (va_Pc [.ref (ad 1), .ref (ad (38 + b))] (gp D ks (xw ad kk V L Z) (xty kk Z) sz)) (q_x_read9 D ks ad kk V L Z  b (va_A (xw ad kk V L Z) sz)) 0 0 (va_A (xw ad kk V L Z) sz) := by
  refine g_met (q_x_read9 D ks ad kk V L Z  b) (by decide) (Nat.le_of_ble_eq_true rfl) ?_
  intro p e s m below meth c A ls H locs hx hb hr hml hown hg hlocks hin hnw hgk hP hK hD hS hA hl
  have hown : s.vm.findClass RX1 = some m.cls := hown
  have hl : lv_has ls 4 [(0, .ref (ad 1)), (1, .ref (ad (38 + b)))] := hl
  have hP : va_P D vwCl (xw ad kk V L Z) H := hP
  have hD : va_D A (xw ad kk V L Z) := hD
  have hK : va_K D vwCl (xty kk Z) s := hK
  have agV : agr [(1, 1), (1, 2), (1, 3), (1, 4), (1, 6), (1, 7), (1, 8), (6, 6), (6, 7), (6, 8), (6, 9), (6, 10)] [12, 13, 14, 41, 42, 43, 44, 45, 46, 47, 48, 49, 50, 51, 52, 53, 54, 55, 56, 57, 58, 59, 60, 61, 62, 63, 64, 65, 66] V V := agr.rf
  have alL : agL [1, 6, 14, 44] L L := agL.rf
  have fwV : frX (xR b) V V := frX.rf
  refine lv_aload_n hx hb dX1_read_0 rfl (lv_at hl 0 rfl) ?_
  refine lv_aload_n hx hb dX1_read_1 rfl (lv_at hl 1 rfl) ?_
  refine va_put (D := D) (ci := 1) (v := .ref (ad (38 + b))) (ty := tyX1 1) (fs := (xfReader ad V L Z)) (C := RX1) (T := TX1) (N := 9) hx hb hg inX1 tyX1 tyX1_ok nmX1 hown hK hP hD hS 1 xgReader rfl 1 (by decide) (hg _ w305) (fun _ h9 => h9) rfl (tyX1_ok 1 (by decide)) rfl rfl (Nat.le_of_ble_eq_true rfl) dX1_read_2 (fun H locs hP hD hS => ?_)
  have r1 : (nI b).toInt = ((b : Nat) : Int) := nI_toInt (by omega)
  obtain ⟨V2, hV2⟩ : ∃ z, z = up2 V 1 1 (nI b) := ⟨_, rfl⟩
  have ew3 : (xw ad kk V L Z).set 1 ((ad 1), .inr (1, (xfReader ad V L Z).set 1 (.ref (ad (38 + b))))) = xw ad kk V2 L Z := by rw [hV2]; exact xr_rbook hb2
  have hP : va_P D vwCl (xw ad kk V2 L Z) H := by rw [← ew3]; exact hP
  have hD : va_D A (xw ad kk V2 L Z) := by rw [← ew3]; exact hD
  have hMV2 : rgd bX V2 := hMV.put hV2 (show (-1) ≤ ((nI b)).toInt ∧ ((nI b)).toInt ≤ 1 from by (first | exact om_42efdf012c14 hb2 r1 | omega))
  have agV2 : agr [(1, 1), (1, 2), (1, 3), (1, 4), (1, 6), (1, 7), (1, 8), (6, 6), (6, 7), (6, 8), (6, 9), (6, 10)] [12, 13, 14, 41, 42, 43, 44, 45, 46, 47, 48, 49, 50, 51, 52, 53, 54, 55, 56, 57, 58, 59, 60, 61, 62, 63, 64, 65, 66] V V2 := agV.up hV2 rfl
  have fwV2 : frX (xR b) V V2 := frX.up fwV hV2 (Or.inl (by decide))
  refine lv_aload_n hx hb dX1_read_5 rfl (lv_at hl 0 rfl) ?_
  refine va_get (D := D) (ci := 1) (v := rfN ad 38 (V2 1 1)) (fs := (xfReader ad V2 L Z)) (C := RX1) (T := TX1) (N := 9) hx hb hg inX1 hown hK hP 1 xgReader rfl 1 (by decide) (hg _ w305) (fun _ h9 => h9) rfl dX1_read_6 ?_
  have pq4 : (V2 1 1).toInt = ((nI b)).toInt := congrArg Int32.toInt (up2_s hV2)
  refine g_topv (v := .ref (ad (38 + b))) (rfN_r (by omega)) ?_
  refine gA_void (gA_runV (As := []) (rest := []) (ci := 0) (q0 := (38 + b)) hx hb hml hown hg hP hD hK hS hA hnw hgk (x_bclear l D ks H.size ad kk V2 L Z (b) hMV2 (show b < 2 from by (first | exact om_f940a4667dd6 hb2 | omega))) w762 w763 w764 w167 w765 rfl (xgBook hb2) hdV_yX0_clear ⟨Nat.le_of_ble_eq_true rfl, Nat.le_of_ble_eq_true rfl⟩ rfl hl.1 rfl (Nat.le_of_ble_eq_true rfl) dX1_read_9 ⟨Nat.le_of_ble_eq_true rfl, Nat.le_of_ble_eq_true rfl⟩) hP hD hK hS hA (fun u6 H locs w7 hP hD hK hS => ?_)
  obtain ⟨V11, L12⟩ := u6
  obtain ⟨hMV11, ajV11, axL12, fyV11, t8, t9, t10⟩ := w7
  have axL12 : L = L12 := Eq.symm axL12
  subst axL12
  have hP : va_P D vwCl (xw ad kk V11 L Z) H := hP
  have hD : va_D A (xw ad kk V11 L Z) := hD
  have hMV11 : rgd bX V11 := hMV11
  have ajV11 : agr [] [41, 42, 43] V2 V11 := ajV11
  have agV11 : agr [(1, 1), (1, 2), (1, 3), (1, 4), (1, 6), (1, 7), (1, 8), (6, 6), (6, 7), (6, 8), (6, 9), (6, 10)] [12, 13, 14, 41, 42, 43, 44, 45, 46, 47, 48, 49, 50, 51, 52, 53, 54, 55, 56, 57, 58, 59, 60, 61, 62, 63, 64, 65, 66] V V11 := agV2.tr ajV11 (by decide) (by decide)
  have fwV11 : frX (xR b) V V11 := frX.tr fwV2 (fyV11)
  have t8 : (V11 42 b).toInt = 0 := t8
  have t9 : (V11 41 b).toInt = 0 := t9
  have t10 : (V11 43 (5 * b + 2)).toInt = 0 := t10
  have cd13 : CD V11 b := CD.zero t8
  have tx14 : TX V11 b := TX.zero t10 t9
  have wo15 : WO V11 b := WO.z t9
  refine lv_aload_n hx hb dX1_read_12 rfl (lv_at hl 0 rfl) ?_
  refine lv_null hx hb dX1_read_13 ?_
  refine va_put (D := D) (ci := 1) (v := .null) (ty := tyX1 2) (fs := (xfReader ad V11 L Z)) (C := RX1) (T := TX1) (N := 9) hx hb hg inX1 tyX1 tyX1_ok nmX1 hown hK hP hD hS 1 xgReader rfl 2 (by decide) (hg _ w306) (fun _ h9 => h9) rfl (tyX1_ok 2 (by decide)) rfl rfl (Nat.le_of_ble_eq_true rfl) dX1_read_14 (fun H locs hP hD hS => ?_)
  obtain ⟨V16, hV16⟩ : ∃ z, z = up2 V11 1 2 (-1) := ⟨_, rfl⟩
  have ew17 : (xw ad kk V11 L Z).set 1 ((ad 1), .inr (1, (xfReader ad V11 L Z).set 2 (.null))) = xw ad kk V16 L Z := by rw [hV16]; exact xr_owner_n
  have hP : va_P D vwCl (xw ad kk V16 L Z) H := by rw [← ew17]; exact hP
  have hD : va_D A (xw ad kk V16 L Z) := by rw [← ew17]; exact hD
  have hMV16 : rgd bX V16 := hMV11.put hV16 (by decide)
  have agV16 : agr [(1, 1), (1, 2), (1, 3), (1, 4), (1, 6), (1, 7), (1, 8), (6, 6), (6, 7), (6, 8), (6, 9), (6, 10)] [12, 13, 14, 41, 42, 43, 44, 45, 46, 47, 48, 49, 50, 51, 52, 53, 54, 55, 56, 57, 58, 59, 60, 61, 62, 63, 64, 65, 66] V V16 := agV11.up hV16 rfl
  have fwV16 : frX (xR b) V V16 := frX.up fwV11 hV16 (Or.inl (by decide))
  refine lv_aload_n hx hb dX1_read_17 rfl (lv_at hl 0 rfl) ?_
  refine lv_iconst (v := 0) hx hb dX1_read_18 (by decide) ?_
  refine va_put (D := D) (ci := 1) (v := .int 0) (ty := tyX1 3) (fs := (xfReader ad V16 L Z)) (C := RX1) (T := TX1) (N := 9) hx hb hg inX1 tyX1 tyX1_ok nmX1 hown hK hP hD hS 1 xgReader rfl 3 (by decide) (hg _ w307) (fun _ h9 => h9) rfl (tyX1_ok 3 (by decide)) rfl rfl (Nat.le_of_ble_eq_true rfl) dX1_read_19 (fun H locs hP hD hS => ?_)
  obtain ⟨V18, hV18⟩ : ∃ z, z = up2 V16 1 3 0 := ⟨_, rfl⟩
  have ew19 : (xw ad kk V16 L Z).set 1 ((ad 1), .inr (1, (xfReader ad V16 L Z).set 3 (.int 0))) = xw ad kk V18 L Z := by rw [hV18]; exact xw_ss (by decide) rfl (xb_si (by decide))
  have hP : va_P D vwCl (xw ad kk V18 L Z) H := by rw [← ew19]; exact hP
  have hD : va_D A (xw ad kk V18 L Z) := by rw [← ew19]; exact hD
  have hMV18 : rgd bX V18 := hMV16.put hV18 (i_full _)
  have agV18 : agr [(1, 1), (1, 2), (1, 3), (1, 4), (1, 6), (1, 7), (1, 8), (6, 6), (6, 7), (6, 8), (6, 9), (6, 10)] [12, 13, 14, 41, 42, 43, 44, 45, 46, 47, 48, 49, 50, 51, 52, 53, 54, 55, 56, 57, 58, 59, 60, 61, 62, 63, 64, 65, 66] V V18 := agV16.up hV18 rfl
  have fwV18 : frX (xR b) V V18 := frX.up fwV16 hV18 (Or.inl (by decide))
  refine lv_aload_n hx hb dX1_read_22 rfl (lv_at hl 0 rfl) ?_
  refine va_get (D := D) (ci := 1) (v := .ref (ad 6)) (fs := (xfReader ad V18 L Z)) (C := RX1) (T := TX1) (N := 9) hx hb hg inX1 hown hK hP 1 xgReader rfl 0 (by decide) (hg _ w304) (fun _ h9 => h9) rfl dX1_read_23 ?_
  refine gA_void (gA_runV (As := []) (rest := []) (ci := 9) (q0 := 6) hx hb hml hown hg hP hD hK hS hA hnw hgk (x_begin l D ks H.size ad kk V18 L Z  hMV18 ) w766 w767 w768 w157 w769 rfl xgTape hdV_yX9_begin ⟨Nat.le_of_ble_eq_true rfl, Nat.le_of_ble_eq_true rfl⟩ rfl hl.1 rfl (Nat.le_of_ble_eq_true rfl) dX1_read_26 ⟨Nat.le_of_ble_eq_true rfl, Nat.le_of_ble_eq_true rfl⟩) hP hD hK hS hA (fun u21 H locs w22 hP hD hK hS => ?_)
  obtain ⟨V23, L24⟩ := u21
  obtain ⟨hMV23, ajV23, axL24⟩ := w22
  have alL24 : agL [1, 6, 14, 44] L L24 := agL.tr alL axL24 (by decide)
  have hP : va_P D vwCl (xw ad kk V23 L24 Z) H := hP
  have hD : va_D A (xw ad kk V23 L24 Z) := hD
  have hMV23 : rgd bX V23 := hMV23
  have ajV23 : agr [(6, 6), (6, 7), (6, 8), (6, 9), (6, 10)] [12, 13, 14] V18 V23 := ajV23
  have agV23 : agr [(1, 1), (1, 2), (1, 3), (1, 4), (1, 6), (1, 7), (1, 8), (6, 6), (6, 7), (6, 8), (6, 9), (6, 10)] [12, 13, 14, 41, 42, 43, 44, 45, 46, 47, 48, 49, 50, 51, 52, 53, 54, 55, 56, 57, 58, 59, 60, 61, 62, 63, 64, 65, 66] V V23 := agV18.tr ajV23 (by decide) (by decide)
  have fwV23 : frX (xR b) V V23 := frX.tr fwV18 (frX.ag ajV23 (by decide) (by decide))
  refine lv_iconst (v := 0) hx hb dX1_read_29 (by decide) ?_
  refine lv_istore_n (lv' := [(2, .int 0), (0, .ref (ad 1)), (1, .ref (ad (38 + b)))]) hx hb dX1_read_30 rfl hl (by decide) rfl (fun ls hl => ?_)
  have lp28 : ∀ (fulp28 : Nat) (y25 : Int32) (V26 : Vf) (L27 : Lf) (H : Heap) (locs : List Loc) (ls : Array Slot), 0 ≤ y25.toInt ∧ y25.toInt ≤ 4000 → CD V26 b → TX V26 b → (V26 1 2).toInt = -1 ∨ (24 * (b : Int) ≤ (V26 1 2).toInt ∧ (V26 1 2).toInt < 24 * (b : Int) + 24) → (V26 1 1).toInt = (b : Int) → WO V26 b → 4000 - y25.toInt < (fulp28 : Int) → agL [1, 6, 14, 44] L L27 → agr [(1, 2), (1, 3), (1, 4), (1, 6), (1, 7), (1, 8), (6, 8), (6, 9), (6, 10)] [41, 42, 43, 44, 45, 46, 47, 48, 49, 50, 51, 52, 53, 54, 55, 56, 57, 58, 59, 60, 61, 62, 63, 64, 65, 66] V23 V26 → rgd bX V26 → frX (xR b) V V26 → va_P D vwCl (xw ad kk V26 L27 Z) H → va_D A (xw ad kk V26 L27 Z) → va_S A s.heap H locs → lv_has ls 4 [(2, .int y25), (0, .ref (ad 1)), (1, .ref (ad (38 + b)))] → W p l e r_x_read9 s m ([.ref (ad 1), .ref (ad (38 + b))] : List Value).toArray below meth c H locs 0 0 (MQ below (q_x_read9 D ks ad kk V L Z  b A) ([.ref (ad 1), .ref (ad (38 + b))] : List Value).toArray s 0 0 A) (F0 m 31 ls []) := by
    intro fulp28
    induction fulp28 with
    | zero =>
      intro y25 V26 L27 H locs ls klp28_0 xlp28_0 xlp28_1 xlp28_2 xlp28_3 xlp28_4 hn alL27 ajV26 hMV26 fwV26 hP hD hS hl
      exfalso; (first | exact om_03b755d7679e klp28_0.2 hn | omega)
    | succ fulp28 ihlp28 =>
      intro y25 V26 L27 H locs ls klp28_0 xlp28_0 xlp28_1 xlp28_2 xlp28_3 xlp28_4 hn alL27 ajV26 hMV26 fwV26 hP hD hS hl
      have agV26 : agr [(1, 1), (1, 2), (1, 3), (1, 4), (1, 6), (1, 7), (1, 8), (6, 6), (6, 7), (6, 8), (6, 9), (6, 10)] [12, 13, 14, 41, 42, 43, 44, 45, 46, 47, 48, 49, 50, 51, 52, 53, 54, 55, 56, 57, 58, 59, 60, 61, 62, 63, 64, 65, 66] V V26 := agV23.tr ajV26 (by decide) (by decide)
      have r29 : (-1) ≤ ((V26 1 2)).toInt ∧ ((V26 1 2)).toInt ≤ 47 := hMV26 1 2
      have pq30 : (V26 1 1).toInt = ((nI b)).toInt := congrArg Int32.toInt ((ajV26 1 1 rfl).trans ((ajV23 1 1 rfl).trans ((up2_k hV18 (by decide)).trans ((up2_k hV16 (by decide)).trans ((ajV11 1 1 rfl).trans (up2_s hV2))))))
      refine lv_iload_n hx hb dX1_read_31 rfl (lv_at hl 0 rfl) ?_
      refine lv_sipush (v := 4000) hx hb dX1_read_32 (by decide) ?_
      refine lv_icmp_ge (tgt := 82) hx hb dX1_read_35 (by decide) (fun c31 => ?_) (fun c31 => ?_)
      · skip
        have f32 : 4000 ≤ y25.toInt := b_le (by decide) rfl c31
        by_cases hon : (V26 1 2).toInt < 0
        · skip
          have ow1 : (V26 1 2).toInt = -1 := by omega
          refine lv_aload_n hx hb dX1_read_82 rfl (lv_at hl 1 rfl) ?_
          refine va_get (D := D) (ci := 1) (v := rfN ad 72 (V26 1 2)) (fs := (xfReader ad V26 L27 Z)) (C := RX1) (T := TX1) (N := 9) hx hb hg inX1 hown hK hP 1 xgReader rfl 2 (by decide) (hg _ w306) (fun _ h9 => h9) rfl dX1_read_83 ?_
          refine g_topv (v := .null) (rfN_n (by omega)) ?_
          refine lv_ifnullN (tgt := 95) hx hb dX1_read_86 (by decide) ?_
          refine lv_aload_n hx hb dX1_read_95 rfl (lv_at hl 1 rfl) ?_
          refine va_get (D := D) (ci := 1) (v := .int (V26 1 3)) (fs := (xfReader ad V26 L27 Z)) (C := RX1) (T := TX1) (N := 9) hx hb hg inX1 hown hK hP 1 xgReader rfl 3 (by decide) (hg _ w307) (fun _ h9 => h9) rfl dX1_read_96 ?_
          exact W.iret (v := (V26 1 3)) hx hb hr (fun t ht hW => ⟨⟨(V26 1 3), (V26, L27), rfl, ⟨hMV26, agV26, alL27, fwV26, (Imp.mk (fun _ => ⟨xlp28_0, xlp28_1⟩)), (Imp.mk (fun _ => xlp28_4))⟩, by rw [ht]; exact hP, va_K.moved hW.alike hK, hD⟩, hS.F ht⟩) hS.2.2 dX1_read_99
        · skip
          have ko := i_clamp (x := V26 1 2) rfl (by omega)
          refine lv_aload_n hx hb dX1_read_82 rfl (lv_at hl 1 rfl) ?_
          refine va_get (D := D) (ci := 1) (v := rfN ad 72 (V26 1 2)) (fs := (xfReader ad V26 L27 Z)) (C := RX1) (T := TX1) (N := 9) hx hb hg inX1 hown hK hP 1 xgReader rfl 2 (by decide) (hg _ w306) (fun _ h9 => h9) rfl dX1_read_83 ?_
          refine g_topv (v := .ref (ad (72 + (Int32.toNatClampNeg (V26 1 2))))) (rfN_r (by omega)) ?_
          refine lv_ifnull hx hb dX1_read_86 ?_
          refine lv_aload_n hx hb dX1_read_89 rfl (lv_at hl 1 rfl) ?_
          refine lv_iconst (v := 1) hx hb dX1_read_90 (by decide) ?_
          have r33 : Int32.toInt 1 = 1 := by decide
          refine gA_int (gA_runV (As := [.int 1]) (rest := []) (ci := 1) (q0 := 1) hx hb hml hown hg hP hD hK hS hA hnw hgk (x_wrong l D ks H.size ad kk V26 L27 Z 1 hMV26 (by decide)) w867 w869 w6 w162 w870 rfl xgReader hdV_yX1_wrong ⟨Nat.le_of_ble_eq_true rfl, Nat.le_of_ble_eq_true rfl⟩ rfl hl.1 rfl (Nat.le_of_ble_eq_true rfl) dX1_read_91 ⟨Nat.le_of_ble_eq_true rfl, Nat.le_of_ble_eq_true rfl⟩) hP hD hK hS hA (fun z34 u35 H locs w36 hP hD hK hS => ?_)
          obtain ⟨V38, L39⟩ := u35
          obtain ⟨hMV38, ajV38, axL39, rgz34, t37⟩ := w36
          have axL39 : L27 = L39 := Eq.symm axL39
          subst axL39
          have hP : va_P D vwCl (xw ad kk V38 L27 Z) H := hP
          have hD : va_D A (xw ad kk V38 L27 Z) := hD
          have hMV38 : rgd bX V38 := hMV38
          have ajV38 : agr [(1, 3)] [] V26 V38 := ajV38
          have agV38 : agr [(1, 1), (1, 2), (1, 3), (1, 4), (1, 6), (1, 7), (1, 8), (6, 6), (6, 7), (6, 8), (6, 9), (6, 10)] [12, 13, 14, 41, 42, 43, 44, 45, 46, 47, 48, 49, 50, 51, 52, 53, 54, 55, 56, 57, 58, 59, 60, 61, 62, 63, 64, 65, 66] V V38 := agV26.tr ajV38 (by decide) (by decide)
          have fwV38 : frX (xR b) V V38 := frX.tr fwV26 (frX.ag ajV38 (by decide) (by decide))
          have rgz34 : 0 ≤ z34.toInt ∧ z34.toInt ≤ 0 := rgz34
          have t37 : 1 ≤ (V38 1 3).toInt := t37
          refine lv_pop hx hb dX1_read_94 rfl ?_
          refine lv_aload_n hx hb dX1_read_95 rfl (lv_at hl 1 rfl) ?_
          refine va_get (D := D) (ci := 1) (v := .int (V38 1 3)) (fs := (xfReader ad V38 L27 Z)) (C := RX1) (T := TX1) (N := 9) hx hb hg inX1 hown hK hP 1 xgReader rfl 3 (by decide) (hg _ w307) (fun _ h9 => h9) rfl dX1_read_96 ?_
          exact W.iret (v := (V38 1 3)) hx hb hr (fun t ht hW => ⟨⟨(V38 1 3), (V38, L27), rfl, ⟨hMV38, agV38, alL27, fwV38, (Imp.mk (fun hp => by exfalso; omega)), (Imp.mk (fun hp => by exfalso; omega))⟩, by rw [ht]; exact hP, va_K.moved hW.alike hK, hD⟩, hS.F ht⟩) hS.2.2 dX1_read_99
      · skip
        have f40 : y25.toInt < 4000 := b_nle (by decide) rfl c31
        refine lv_aload_n hx hb dX1_read_38 rfl (lv_at hl 1 rfl) ?_
        refine va_get (D := D) (ci := 1) (v := .ref (ad 6)) (fs := (xfReader ad V26 L27 Z)) (C := RX1) (T := TX1) (N := 9) hx hb hg inX1 hown hK hP 1 xgReader rfl 0 (by decide) (hg _ w304) (fun _ h9 => h9) rfl dX1_read_39 ?_
        refine va_getN (D := D) (ci := 9) (v := .int (V26 6 9)) (fs := (xfTape ad V26 L27 Z)) (C := RX9) (T := TX9) (N := 12) hx hb hg inX9 hown hK hP 6 xgTape rfl 9 (by decide) (hnw.use 262 n262 rfl) (fun _ h9 => h9) rfl dX1_read_42 ?_
        refine lv_if_eq (tgt := 82) hx hb dX1_read_45 (by decide) (fun c41 => ?_) (fun c41 => ?_)
        · skip
          have f42 : ((V26 6 9)).toInt = 0 := b_eq rfl (by decide) c41
          by_cases hon : (V26 1 2).toInt < 0
          · skip
            have ow1 : (V26 1 2).toInt = -1 := by omega
            refine lv_aload_n hx hb dX1_read_82 rfl (lv_at hl 1 rfl) ?_
            refine va_get (D := D) (ci := 1) (v := rfN ad 72 (V26 1 2)) (fs := (xfReader ad V26 L27 Z)) (C := RX1) (T := TX1) (N := 9) hx hb hg inX1 hown hK hP 1 xgReader rfl 2 (by decide) (hg _ w306) (fun _ h9 => h9) rfl dX1_read_83 ?_
            refine g_topv (v := .null) (rfN_n (by omega)) ?_
            refine lv_ifnullN (tgt := 95) hx hb dX1_read_86 (by decide) ?_
            refine lv_aload_n hx hb dX1_read_95 rfl (lv_at hl 1 rfl) ?_
            refine va_get (D := D) (ci := 1) (v := .int (V26 1 3)) (fs := (xfReader ad V26 L27 Z)) (C := RX1) (T := TX1) (N := 9) hx hb hg inX1 hown hK hP 1 xgReader rfl 3 (by decide) (hg _ w307) (fun _ h9 => h9) rfl dX1_read_96 ?_
            exact W.iret (v := (V26 1 3)) hx hb hr (fun t ht hW => ⟨⟨(V26 1 3), (V26, L27), rfl, ⟨hMV26, agV26, alL27, fwV26, (Imp.mk (fun _ => ⟨xlp28_0, xlp28_1⟩)), (Imp.mk (fun _ => xlp28_4))⟩, by rw [ht]; exact hP, va_K.moved hW.alike hK, hD⟩, hS.F ht⟩) hS.2.2 dX1_read_99
          · skip
            have ko := i_clamp (x := V26 1 2) rfl (by omega)
            refine lv_aload_n hx hb dX1_read_82 rfl (lv_at hl 1 rfl) ?_
            refine va_get (D := D) (ci := 1) (v := rfN ad 72 (V26 1 2)) (fs := (xfReader ad V26 L27 Z)) (C := RX1) (T := TX1) (N := 9) hx hb hg inX1 hown hK hP 1 xgReader rfl 2 (by decide) (hg _ w306) (fun _ h9 => h9) rfl dX1_read_83 ?_
            refine g_topv (v := .ref (ad (72 + (Int32.toNatClampNeg (V26 1 2))))) (rfN_r (by omega)) ?_
            refine lv_ifnull hx hb dX1_read_86 ?_
            refine lv_aload_n hx hb dX1_read_89 rfl (lv_at hl 1 rfl) ?_
            refine lv_iconst (v := 1) hx hb dX1_read_90 (by decide) ?_
            have r43 : Int32.toInt 1 = 1 := by decide
            refine gA_int (gA_runV (As := [.int 1]) (rest := []) (ci := 1) (q0 := 1) hx hb hml hown hg hP hD hK hS hA hnw hgk (x_wrong l D ks H.size ad kk V26 L27 Z 1 hMV26 (by decide)) w867 w869 w6 w162 w870 rfl xgReader hdV_yX1_wrong ⟨Nat.le_of_ble_eq_true rfl, Nat.le_of_ble_eq_true rfl⟩ rfl hl.1 rfl (Nat.le_of_ble_eq_true rfl) dX1_read_91 ⟨Nat.le_of_ble_eq_true rfl, Nat.le_of_ble_eq_true rfl⟩) hP hD hK hS hA (fun z44 u45 H locs w46 hP hD hK hS => ?_)
            obtain ⟨V48, L49⟩ := u45
            obtain ⟨hMV48, ajV48, axL49, rgz44, t47⟩ := w46
            have axL49 : L27 = L49 := Eq.symm axL49
            subst axL49
            have hP : va_P D vwCl (xw ad kk V48 L27 Z) H := hP
            have hD : va_D A (xw ad kk V48 L27 Z) := hD
            have hMV48 : rgd bX V48 := hMV48
            have ajV48 : agr [(1, 3)] [] V26 V48 := ajV48
            have agV48 : agr [(1, 1), (1, 2), (1, 3), (1, 4), (1, 6), (1, 7), (1, 8), (6, 6), (6, 7), (6, 8), (6, 9), (6, 10)] [12, 13, 14, 41, 42, 43, 44, 45, 46, 47, 48, 49, 50, 51, 52, 53, 54, 55, 56, 57, 58, 59, 60, 61, 62, 63, 64, 65, 66] V V48 := agV26.tr ajV48 (by decide) (by decide)
            have fwV48 : frX (xR b) V V48 := frX.tr fwV26 (frX.ag ajV48 (by decide) (by decide))
            have rgz44 : 0 ≤ z44.toInt ∧ z44.toInt ≤ 0 := rgz44
            have t47 : 1 ≤ (V48 1 3).toInt := t47
            refine lv_pop hx hb dX1_read_94 rfl ?_
            refine lv_aload_n hx hb dX1_read_95 rfl (lv_at hl 1 rfl) ?_
            refine va_get (D := D) (ci := 1) (v := .int (V48 1 3)) (fs := (xfReader ad V48 L27 Z)) (C := RX1) (T := TX1) (N := 9) hx hb hg inX1 hown hK hP 1 xgReader rfl 3 (by decide) (hg _ w307) (fun _ h9 => h9) rfl dX1_read_96 ?_
            exact W.iret (v := (V48 1 3)) hx hb hr (fun t ht hW => ⟨⟨(V48 1 3), (V48, L27), rfl, ⟨hMV48, agV48, alL27, fwV48, (Imp.mk (fun hp => by exfalso; omega)), (Imp.mk (fun hp => by exfalso; omega))⟩, by rw [ht]; exact hP, va_K.moved hW.alike hK, hD⟩, hS.F ht⟩) hS.2.2 dX1_read_99
        · skip
          have f50 : ((V26 6 9)).toInt ≠ 0 := b_neq rfl (by decide) c41
          by_cases hon : (V26 1 2).toInt < 0
          · skip
            have ow1 : (V26 1 2).toInt = -1 := by omega
            refine lv_aload_n hx hb dX1_read_48 rfl (lv_at hl 1 rfl) ?_
            refine va_get (D := D) (ci := 1) (v := rfN ad 72 (V26 1 2)) (fs := (xfReader ad V26 L27 Z)) (C := RX1) (T := TX1) (N := 9) hx hb hg inX1 hown hK hP 1 xgReader rfl 2 (by decide) (hg _ w306) (fun _ h9 => h9) rfl dX1_read_49 ?_
            refine g_topv (v := .null) (rfN_n (by omega)) ?_
            refine lv_ifnonnullN hx hb dX1_read_52 ?_
            refine lv_aload_n hx hb dX1_read_55 rfl (lv_at hl 1 rfl) ?_
            refine gA_int (gA_runV (As := []) (rest := []) (ci := 1) (q0 := 1) hx hb hml hown hg hP hD hK hS hA hnw hgk (x_readStatement9 l D ks H.size ad kk V26 L27 Z (b) hMV26 (show b < 2 from by (first | exact om_f940a4667dd6 hb2 | omega)) (show (V26 1 1).toInt = (b : Int) from by (first | exact om_adf531c77a0d r1 pq30 | omega)) (show (V26 1 2).toInt = -1 from by (first | exact om_8809abba85b8 r29.1 ow1 | omega)) xlp28_0 xlp28_1 xlp28_4) w855 w857 w4 w162 w858 rfl xgReader hdV_yX1_readStatement ⟨Nat.le_of_ble_eq_true rfl, Nat.le_of_ble_eq_true rfl⟩ rfl hl.1 rfl (Nat.le_of_ble_eq_true rfl) dX1_read_56 ⟨Nat.le_of_ble_eq_true rfl, Nat.le_of_ble_eq_true rfl⟩) hP hD hK hS hA (fun z51 u52 H locs w53 hP hD hK hS => ?_)
            obtain ⟨V60, L61⟩ := u52
            obtain ⟨hMV60, ajV60, axL61, fyV60, rgz51, t54, t55, t56, t57, t58, t59⟩ := w53
            have alL61 : agL [1, 6, 14, 44] L L61 := agL.tr alL27 axL61 (by decide)
            have hP : va_P D vwCl (xw ad kk V60 L61 Z) H := hP
            have hD : va_D A (xw ad kk V60 L61 Z) := hD
            have hMV60 : rgd bX V60 := hMV60
            have ajV60 : agr [(1, 2), (1, 3), (1, 4), (1, 6), (1, 7), (1, 8), (6, 8), (6, 9), (6, 10)] [41, 42, 43, 44, 45, 46, 47, 48, 49, 50, 51, 52, 53, 54, 55, 56, 57, 61, 62, 63, 64, 65, 66] V26 V60 := ajV60
            have agV60 : agr [(1, 1), (1, 2), (1, 3), (1, 4), (1, 6), (1, 7), (1, 8), (6, 6), (6, 7), (6, 8), (6, 9), (6, 10)] [12, 13, 14, 41, 42, 43, 44, 45, 46, 47, 48, 49, 50, 51, 52, 53, 54, 55, 56, 57, 58, 59, 60, 61, 62, 63, 64, 65, 66] V V60 := agV26.tr ajV60 (by decide) (by decide)
            have fwV60 : frX (xR b) V V60 := frX.tr fwV26 (fyV60)
            have rgz51 : 0 ≤ z51.toInt ∧ z51.toInt ≤ 1 := rgz51
            have t54 : Imp (z51.toInt = 1) (TX V60 b) := t54
            have t55 : CD V60 b := t55
            have t56 : p0x V26 V60 b := t56
            have t57 : (V60 1 2).toInt = (V26 1 2).toInt ∨ (24 * (b : Int) ≤ (V60 1 2).toInt ∧ (V60 1 2).toInt < 24 * (b : Int) + 24) := t57
            have t58 : Imp (z51.toInt = 0) (1 ≤ (V60 1 3).toInt) := t58
            have t59 : WO V60 b := t59
            have r62 : (-1) ≤ ((V60 1 2)).toInt ∧ ((V60 1 2)).toInt ≤ 47 := hMV60 1 2
            refine lv_goto (tgt := 66) hx hb dX1_read_59 (by decide) ?_
            refine lv_istore_n (lv' := [(3, .int z51), (2, .int y25), (0, .ref (ad 1)), (1, .ref (ad (38 + b)))]) hx hb dX1_read_66 rfl hl (by decide) rfl (fun ls hl => ?_)
            refine lv_iload_n hx hb dX1_read_67 rfl (lv_at hl 0 rfl) ?_
            refine lv_if_ne (tgt := 76) hx hb dX1_read_68 (by decide) (fun c63 => ?_) (fun c63 => ?_)
            · skip
              have f64 : z51.toInt ≠ 0 := b_neq rfl (by decide) c63
              obtain ⟨z65, ez65⟩ : ∃ y : Int32, y = y25 + 1 := ⟨_, rfl⟩
              have hz65 : z65.toInt = y25.toInt + 1 := i_add ez65 rfl (by decide) (by (first | exact om_67c6ad613360 klp28_0.1 f40 | omega))
              refine lv_iinc (v := z65) (lv' := [(2, .int z65), (3, .int z51), (0, .ref (ad 1)), (1, .ref (ad (38 + b)))]) hx hb dX1_read_76 hl (k := 1) rfl (by rw [ez65]; rfl) (by decide) rfl (fun ls hl => ?_)
              refine lv_goto (tgt := 31) hx hb dX1_read_79 (by decide) ?_
              have pq66 : (V60 1 1).toInt = ((nI b)).toInt := congrArg Int32.toInt ((ajV60 1 1 rfl).trans ((ajV26 1 1 rfl).trans ((ajV23 1 1 rfl).trans ((up2_k hV18 (by decide)).trans ((up2_k hV16 (by decide)).trans ((ajV11 1 1 rfl).trans (up2_s hV2)))))))
              exact ihlp28 z65 V60 L61 H locs ls (by first | exact om_44a0a3faffcf klp28_0.1 f40 hz65 | first | omega | ((try (have i_t58 := Imp.go t58 (by omega))); omega)) t55 (Imp.go t54 (by (first | exact om_2ebe32d50835 rgz51.1 rgz51.2 f64 | omega))) (show (V60 1 2).toInt = -1 ∨ (24 * (b : Int) ≤ (V60 1 2).toInt ∧ (V60 1 2).toInt < 24 * (b : Int) + 24) from by first | omega | ((try (have i_t58 := Imp.go t58 (by omega))); omega)) (show (V60 1 1).toInt = (b : Int) from by first | exact om_adf531c77a0d r1 pq66 | first | omega | ((try (have i_t58 := Imp.go t58 (by omega))); omega)) t59 (by first | exact om_7390df9cc880 hn hz65 | first | omega | ((try (have i_t58 := Imp.go t58 (by omega))); omega)) alL61 (agr.tr (agr.tr agr.rf ajV26 (by decide) (by decide)) ajV60 (by decide) (by decide)) hMV60 fwV60 hP hD hS (lv_sub hl [0, 2, 3] rfl)
            · skip
              have f67 : z51.toInt = 0 := b_eq rfl (by decide) c63
              refine lv_aload_n hx hb dX1_read_71 rfl (lv_at hl 2 rfl) ?_
              refine va_get (D := D) (ci := 1) (v := .int (V60 1 3)) (fs := (xfReader ad V60 L61 Z)) (C := RX1) (T := TX1) (N := 9) hx hb hg inX1 hown hK hP 1 xgReader rfl 3 (by decide) (hg _ w307) (fun _ h9 => h9) rfl dX1_read_72 ?_
              exact W.iret (v := (V60 1 3)) hx hb hr (fun t ht hW => ⟨⟨(V60 1 3), (V60, L61), rfl, ⟨hMV60, agV60, alL61, fwV60, (Imp.mk (fun hp => by exfalso; first | omega | ((try (have i_t58 := Imp.go t58 (by omega))); omega))), (Imp.mk (fun hp => by exfalso; first | omega | ((try (have i_t58 := Imp.go t58 (by omega))); omega)))⟩, by rw [ht]; exact hP, va_K.moved hW.alike hK, hD⟩, hS.F ht⟩) hS.2.2 dX1_read_75
          · skip
            have ko := i_clamp (x := V26 1 2) rfl (by omega)
            refine lv_aload_n hx hb dX1_read_48 rfl (lv_at hl 1 rfl) ?_
            refine va_get (D := D) (ci := 1) (v := rfN ad 72 (V26 1 2)) (fs := (xfReader ad V26 L27 Z)) (C := RX1) (T := TX1) (N := 9) hx hb hg inX1 hown hK hP 1 xgReader rfl 2 (by decide) (hg _ w306) (fun _ h9 => h9) rfl dX1_read_49 ?_
            refine g_topv (v := .ref (ad (72 + (Int32.toNatClampNeg (V26 1 2))))) (rfN_r (by omega)) ?_
            refine lv_ifnonnull (tgt := 62) hx hb dX1_read_52 (by decide) ?_
            refine lv_aload_n hx hb dX1_read_62 rfl (lv_at hl 1 rfl) ?_
            refine gA_int (gA_runV (As := []) (rest := []) (ci := 1) (q0 := 1) hx hb hml hown hg hP hD hK hS hA hnw hgk (x_readMember l D ks H.size ad kk V26 L27 Z (b) ((Int32.toNatClampNeg (V26 1 2))) hMV26 (show b < 2 from by (first | exact om_f940a4667dd6 hb2 | omega)) (show (V26 1 1).toInt = (b : Int) from by (first | exact om_adf531c77a0d r1 pq30 | omega)) (show (V26 1 2).toInt = ((Int32.toNatClampNeg (V26 1 2)) : Int) from by (first | exact om_dadc9969542e ko | omega)) (show (Int32.toNatClampNeg (V26 1 2)) < 48 from by (first | exact om_755bf3536861 r29.2 ko | omega)) (show 24 * b ≤ (Int32.toNatClampNeg (V26 1 2)) from by (first | exact om_517a17f752ef xlp28_2 ko | omega)) (show (Int32.toNatClampNeg (V26 1 2)) < 24 * b + 24 from by (first | exact om_23a284822e24 xlp28_2 ko | omega)) xlp28_0 xlp28_1) w1003 w1005 w31 w162 w1006 rfl xgReader hdV_yX1_readMember ⟨Nat.le_of_ble_eq_true rfl, Nat.le_of_ble_eq_true rfl⟩ rfl hl.1 rfl (Nat.le_of_ble_eq_true rfl) dX1_read_63 ⟨Nat.le_of_ble_eq_true rfl, Nat.le_of_ble_eq_true rfl⟩) hP hD hK hS hA (fun z68 u69 H locs w70 hP hD hK hS => ?_)
            obtain ⟨V76, L77⟩ := u69
            obtain ⟨hMV76, ajV76, axL77, fyV76, rgz68, t71, t72, t73, t74, t75⟩ := w70
            have alL77 : agL [1, 6, 14, 44] L L77 := agL.tr alL27 axL77 (by decide)
            have hP : va_P D vwCl (xw ad kk V76 L77 Z) H := hP
            have hD : va_D A (xw ad kk V76 L77 Z) := hD
            have hMV76 : rgd bX V76 := hMV76
            have ajV76 : agr [(1, 2), (1, 3), (1, 4), (1, 6), (1, 8), (6, 8), (6, 9), (6, 10)] [42, 43, 44, 48, 49, 56, 57, 58, 59, 60, 61] V26 V76 := ajV76
            have agV76 : agr [(1, 1), (1, 2), (1, 3), (1, 4), (1, 6), (1, 7), (1, 8), (6, 6), (6, 7), (6, 8), (6, 9), (6, 10)] [12, 13, 14, 41, 42, 43, 44, 45, 46, 47, 48, 49, 50, 51, 52, 53, 54, 55, 56, 57, 58, 59, 60, 61, 62, 63, 64, 65, 66] V V76 := agV26.tr ajV76 (by decide) (by decide)
            have fwV76 : frX (xR b) V V76 := frX.tr fwV26 (fyV76)
            have rgz68 : 0 ≤ z68.toInt ∧ z68.toInt ≤ 1 := rgz68
            have t71 : TX V76 b := t71
            have t72 : (V76 1 2).toInt = (V26 1 2).toInt ∨ (V76 1 2).toInt = -1 := t72
            have t73 : CD V76 b := t73
            have t74 : px V26 V76 b := t74
            have t75 : Imp (z68.toInt = 0) (1 ≤ (V76 1 3).toInt) := t75
            have r78 : (-1) ≤ ((V76 1 2)).toInt ∧ ((V76 1 2)).toInt ≤ 47 := hMV76 1 2
            refine lv_istore_n (lv' := [(3, .int z68), (2, .int y25), (0, .ref (ad 1)), (1, .ref (ad (38 + b)))]) hx hb dX1_read_66 rfl hl (by decide) rfl (fun ls hl => ?_)
            refine lv_iload_n hx hb dX1_read_67 rfl (lv_at hl 0 rfl) ?_
            refine lv_if_ne (tgt := 76) hx hb dX1_read_68 (by decide) (fun c79 => ?_) (fun c79 => ?_)
            · skip
              have f80 : z68.toInt ≠ 0 := b_neq rfl (by decide) c79
              obtain ⟨z81, ez81⟩ : ∃ y : Int32, y = y25 + 1 := ⟨_, rfl⟩
              have hz81 : z81.toInt = y25.toInt + 1 := i_add ez81 rfl (by decide) (by (first | exact om_67c6ad613360 klp28_0.1 f40 | omega))
              refine lv_iinc (v := z81) (lv' := [(2, .int z81), (3, .int z68), (0, .ref (ad 1)), (1, .ref (ad (38 + b)))]) hx hb dX1_read_76 hl (k := 1) rfl (by rw [ez81]; rfl) (by decide) rfl (fun ls hl => ?_)
              refine lv_goto (tgt := 31) hx hb dX1_read_79 (by decide) ?_
              have pq82 : (V76 1 1).toInt = ((nI b)).toInt := congrArg Int32.toInt ((ajV76 1 1 rfl).trans ((ajV26 1 1 rfl).trans ((ajV23 1 1 rfl).trans ((up2_k hV18 (by decide)).trans ((up2_k hV16 (by decide)).trans ((ajV11 1 1 rfl).trans (up2_s hV2)))))))
              have wo83 : WO V76 b := WO.mv xlp28_4 ((show agr [(1, 2), (1, 3), (1, 4), (1, 6), (1, 8), (6, 8), (6, 9), (6, 10)] [42, 43, 44, 48, 49, 56, 57, 58, 59, 60, 61] V26 V76 from (agr.tr agr.rf ajV76 (by decide) (by decide))) 41 b rfl) (fun k9 => (show agr [(1, 2), (1, 3), (1, 4), (1, 6), (1, 8), (6, 8), (6, 9), (6, 10)] [42, 43, 44, 48, 49, 56, 57, 58, 59, 60, 61] V26 V76 from (agr.tr agr.rf ajV76 (by decide) (by decide))) 47 k9 rfl) (fun k9 => (show agr [(1, 2), (1, 3), (1, 4), (1, 6), (1, 8), (6, 8), (6, 9), (6, 10)] [42, 43, 44, 48, 49, 56, 57, 58, 59, 60, 61] V26 V76 from (agr.tr agr.rf ajV76 (by decide) (by decide))) 64 k9 rfl)
              exact ihlp28 z81 V76 L77 H locs ls (by first | exact om_44a0a3faffcf klp28_0.1 f40 hz81 | first | omega | ((try (have i_t75 := Imp.go t75 (by omega))); omega)) t73 t71 (show (V76 1 2).toInt = -1 ∨ (24 * (b : Int) ≤ (V76 1 2).toInt ∧ (V76 1 2).toInt < 24 * (b : Int) + 24) from by first | omega | ((try (have i_t75 := Imp.go t75 (by omega))); omega)) (show (V76 1 1).toInt = (b : Int) from by first | exact om_adf531c77a0d r1 pq82 | first | omega | ((try (have i_t75 := Imp.go t75 (by omega))); omega)) wo83 (by first | exact om_7390df9cc880 hn hz81 | first | omega | ((try (have i_t75 := Imp.go t75 (by omega))); omega)) alL77 (agr.tr (agr.tr agr.rf ajV26 (by decide) (by decide)) ajV76 (by decide) (by decide)) hMV76 fwV76 hP hD hS (lv_sub hl [0, 2, 3] rfl)
            · skip
              have f84 : z68.toInt = 0 := b_eq rfl (by decide) c79
              refine lv_aload_n hx hb dX1_read_71 rfl (lv_at hl 2 rfl) ?_
              refine va_get (D := D) (ci := 1) (v := .int (V76 1 3)) (fs := (xfReader ad V76 L77 Z)) (C := RX1) (T := TX1) (N := 9) hx hb hg inX1 hown hK hP 1 xgReader rfl 3 (by decide) (hg _ w307) (fun _ h9 => h9) rfl dX1_read_72 ?_
              exact W.iret (v := (V76 1 3)) hx hb hr (fun t ht hW => ⟨⟨(V76 1 3), (V76, L77), rfl, ⟨hMV76, agV76, alL77, fwV76, (Imp.mk (fun hp => by exfalso; first | omega | ((try (have i_t75 := Imp.go t75 (by omega))); omega))), (Imp.mk (fun hp => by exfalso; first | omega | ((try (have i_t75 := Imp.go t75 (by omega))); omega)))⟩, by rw [ht]; exact hP, va_K.moved hW.alike hK, hD⟩, hS.F ht⟩) hS.2.2 dX1_read_75
  have r85 : Int32.toInt 0 = 0 := by decide
  have pq86 : (V23 1 2).toInt = (-1) := (congrArg Int32.toInt ((ajV23 1 2 rfl).trans ((up2_k hV18 (by decide)).trans (up2_s hV16)))).trans (by decide)
  have pq87 : (V23 1 1).toInt = ((nI b)).toInt := congrArg Int32.toInt ((ajV23 1 1 rfl).trans ((up2_k hV18 (by decide)).trans ((up2_k hV16 (by decide)).trans ((ajV11 1 1 rfl).trans (up2_s hV2)))))
  have cd88 : CD V23 b := ⟨CB.ag cd13.1 (show agr [(1, 2), (1, 3), (6, 6), (6, 7), (6, 8), (6, 9), (6, 10)] [12, 13, 14] V11 V23 from (agr.tr (agr.up (agr.up agr.rf hV16 rfl) hV18 rfl) ajV23 (by decide) (by decide))) (fun _ => rfl) (fun _ => rfl), CO.ag cd13.2 (show agr [(1, 2), (1, 3), (6, 6), (6, 7), (6, 8), (6, 9), (6, 10)] [12, 13, 14] V11 V23 from (agr.tr (agr.up (agr.up agr.rf hV16 rfl) hV18 rfl) ajV23 (by decide) (by decide))) (fun _ => rfl) (fun _ => rfl)⟩
  have px89 : px V11 V23 b := px.tr (px.rf : px V11 V11 b) (px.ag (show agr [(1, 2), (1, 3), (6, 6), (6, 7), (6, 8), (6, 9), (6, 10)] [12, 13, 14] V11 V23 from (agr.tr (agr.up (agr.up agr.rf hV16 rfl) hV18 rfl) ajV23 (by decide) (by decide))) (fun _ => rfl) (fun _ => rfl) (fun _ => rfl))
  have tx90 : TX V23 b := TX.ag tx14 (show agr [(1, 2), (1, 3), (6, 6), (6, 7), (6, 8), (6, 9), (6, 10)] [12, 13, 14] V11 V23 from (agr.tr (agr.up (agr.up agr.rf hV16 rfl) hV18 rfl) ajV23 (by decide) (by decide))) px89 (fun _ => rfl) (fun _ => rfl) (fun _ => rfl) (fun _ => rfl) (fun _ => rfl) (fun _ => rfl)
  have wo91 : WO V23 b := WO.mv wo15 ((show agr [(1, 2), (1, 3), (6, 6), (6, 7), (6, 8), (6, 9), (6, 10)] [12, 13, 14] V11 V23 from (agr.tr (agr.up (agr.up agr.rf hV16 rfl) hV18 rfl) ajV23 (by decide) (by decide))) 41 b rfl) (fun k9 => (show agr [(1, 2), (1, 3), (6, 6), (6, 7), (6, 8), (6, 9), (6, 10)] [12, 13, 14] V11 V23 from (agr.tr (agr.up (agr.up agr.rf hV16 rfl) hV18 rfl) ajV23 (by decide) (by decide))) 47 k9 rfl) (fun k9 => (show agr [(1, 2), (1, 3), (6, 6), (6, 7), (6, 8), (6, 9), (6, 10)] [12, 13, 14] V11 V23 from (agr.tr (agr.up (agr.up agr.rf hV16 rfl) hV18 rfl) ajV23 (by decide) (by decide))) 64 k9 rfl)
  exact lp28 ((4000 - (Int32.toInt 0) + 1 : Int).toNat) 0 V23 L24 H locs ls (by decide) cd88 tx90 (show (V23 1 2).toInt = -1 ∨ (24 * (b : Int) ≤ (V23 1 2).toInt ∧ (V23 1 2).toInt < 24 * (b : Int) + 24) from by (first | exact om_0c2f92bdcdac pq86 | omega)) (show (V23 1 1).toInt = (b : Int) from by (first | exact om_adf531c77a0d r1 pq87 | omega)) wo91 (by (first | exact om_be7e3b1de7fd | omega)) alL24 agr.rf hMV23 fwV23 hP hD hS (lv_sub hl [0, 1, 2] rfl)
abbrev r_x_h_book9 : Room := { frames := 94, cells := 0, slots := 0, locals := 2751 }
abbrev q_x_h_book9 (D : va_G) (ks : KS) (ad : Nat → Nat) (kk : Nat → ClassId) (V : Vf) (L : Lf) (Z : XZ) (b : Nat) (b1 : Nat) (A : Nat → Prop) : Array Value → State → Outcome → State → Prop := va_Qi (fun (r : Int32) (u : Vf × Lf) => rgd bX u.1 ∧ agr [(0, 6), (0, 7), (0, 8), (0, 9), (1, 1), (1, 2), (1, 3), (1, 4), (1, 6), (1, 7), (1, 8), (2, 7), (3, 12), (3, 13), (3, 14), (3, 15), (4, 5), (4, 6), (4, 7), (4, 8), (5, 5), (5, 6), (5, 7), (5, 8), (5, 9), (5, 13), (6, 5), (6, 6), (6, 7), (6, 8), (6, 9), (6, 10)] [12, 13, 14, 23, 24, 25, 41, 42, 43, 44, 45, 46, 47, 48, 49, 50, 51, 52, 53, 54, 55, 56, 57, 58, 59, 60, 61, 62, 63, 64, 65, 66] V u.1 ∧ agL [1, 6, 14, 44] L u.2 ∧ (Imp (r.toInt = 0) (HI u.1 Z b1)) ∧ (Imp (¬ r.toInt = 0) (HI u.1 Z b)) ∧ (Imp (r.toInt = 0) ((u.1 0 6).toInt = (b1 : Int) ∧ (u.1 0 7).toInt = (b : Int))) ∧ (Imp (¬ r.toInt = 0) ((u.1 0 6).toInt = (b : Int) ∧ (u.1 0 7).toInt = (b1 : Int))) ∧ ((u.1 44 0).toInt = (V 44 0).toInt) ∧ ((u.1 6 5).toInt = 0) ∧ (Imp (r.toInt = 0) (WO u.1 b1))) (fun u t => gq D A (xw ad kk u.1 u.2 Z) (xty kk Z) t) A
set_option maxHeartbeats 4000000 in
set_option maxRecDepth 100000 in
theorem x_h_book9 (l : Launch) (D : va_G) (ks : KS) (sz : Nat) (ad : Nat → Nat) (kk : Nat → ClassId) (V : Vf) (L : Lf) (Z : XZ) (b : Nat) (b1 : Nat) (hMV : rgd bX V) (hb2 : b < 2) (hb1 : b1 < 2) (hbb : b + b1 = 1) (shk : (V 0 6).toInt = (b : Int)) (spk : (V 0 7).toInt = (b1 : Int)) (hi : HI V Z b) (h44 : 60900 ≤ (V 44 0).toInt ∧ (V 44 0).toInt ≤ 250000)  : Met l yX11_book (Cond.code yX11_book cX11_book 3 (some .int) :: GW) r_x_h_book9 (va_Pc [.ref (ad 0)] (gp D ks (xw ad kk V L Z) (xty kk Z) sz)) (q_x_h_book9 D ks ad kk V L Z  b b1 (va_A (xw ad kk V L Z) sz)) 0 0 (va_A (xw ad kk V L Z) sz) := by
  refine g_met (q_x_h_book9 D ks ad kk V L Z  b b1) (by decide) (Nat.le_of_ble_eq_true rfl) ?_
  intro p e s m below meth c A ls H locs hx hb hr hml hown hg hlocks hin hnw hgk hP hK hD hS hA hl
  have hown : s.vm.findClass RX11 = some m.cls := hown
  have hl : lv_has ls 3 [(0, .ref (ad 0))] := hl
  have hP : va_P D vwCl (xw ad kk V L Z) H := hP
  have hD : va_D A (xw ad kk V L Z) := hD
  have hK : va_K D vwCl (xty kk Z) s := hK
  have agV : agr [(0, 6), (0, 7), (0, 8), (0, 9), (1, 1), (1, 2), (1, 3), (1, 4), (1, 6), (1, 7), (1, 8), (2, 7), (3, 12), (3, 13), (3, 14), (3, 15), (4, 5), (4, 6), (4, 7), (4, 8), (5, 5), (5, 6), (5, 7), (5, 8), (5, 9), (5, 13), (6, 5), (6, 6), (6, 7), (6, 8), (6, 9), (6, 10)] [12, 13, 14, 23, 24, 25, 41, 42, 43, 44, 45, 46, 47, 48, 49, 50, 51, 52, 53, 54, 55, 56, 57, 58, 59, 60, 61, 62, 63, 64, 65, 66] V V := agr.rf
  have alL : agL [1, 6, 14, 44] L L := agL.rf
  have r1 : 0 ≤ ((V 0 6)).toInt ∧ ((V 0 6)).toInt ≤ 1 := hMV 0 6
  have r2 : 0 ≤ ((V 0 7)).toInt ∧ ((V 0 7)).toInt ≤ 1 := hMV 0 7
  refine lv_aload_n hx hb dX11_book_0 rfl (lv_at hl 0 rfl) ?_
  refine va_get (D := D) (ci := 11) (v := .ref (ad 1)) (fs := (xfHouse ad V L Z)) (C := RX11) (T := TX11) (N := 10) hx hb hg inX11 hown hK hP 0 xgHouse rfl 1 (by decide) (hg _ w716) (fun _ h9 => h9) rfl dX11_book_1 ?_
  refine lv_aload_n hx hb dX11_book_4 rfl (lv_at hl 0 rfl) ?_
  refine va_get (D := D) (ci := 11) (v := .ref (ad (38 + Int32.toNatClampNeg (V 0 7)))) (fs := (xfHouse ad V L Z)) (C := RX11) (T := TX11) (N := 10) hx hb hg inX11 hown hK hP 0 xgHouse rfl 7 (by decide) (hg _ w722) (fun _ h9 => h9) rfl dX11_book_5 ?_
  refine g_topv (v := .ref (ad (38 + b1))) (rfP (by first | omega | ((try (have i_hi := Imp.go hi (by omega))); omega))) ?_
  refine gA_int (gA_runV (As := [.ref (ad (38 + b1))]) (rest := []) (ci := 1) (q0 := 1) hx hb hml hown hg hP hD hK hS hA hnw hgk (x_read9 l D ks H.size ad kk V L Z (b1) hMV (show b1 < 2 from by first | exact om_f940a4667dd6 hb1 | first | omega | ((try (have i_hi := Imp.go hi (by omega))); omega))) w758 w759 w760 w162 w761 rfl xgReader hdV_yX1_read ⟨Nat.le_of_ble_eq_true rfl, Nat.le_of_ble_eq_true rfl⟩ rfl hl.1 rfl (Nat.le_of_ble_eq_true rfl) dX11_book_8 ⟨Nat.le_of_ble_eq_true rfl, Nat.le_of_ble_eq_true rfl⟩) hP hD hK hS hA (fun z3 u4 H locs w5 hP hD hK hS => ?_)
  obtain ⟨V8, L9⟩ := u4
  obtain ⟨hMV8, ajV8, axL9, fyV8, t6, t7⟩ := w5
  have alL9 : agL [1, 6, 14, 44] L L9 := agL.tr alL axL9 (by decide)
  have hP : va_P D vwCl (xw ad kk V8 L9 Z) H := hP
  have hD : va_D A (xw ad kk V8 L9 Z) := hD
  have hMV8 : rgd bX V8 := hMV8
  have ajV8 : agr [(1, 1), (1, 2), (1, 3), (1, 4), (1, 6), (1, 7), (1, 8), (6, 6), (6, 7), (6, 8), (6, 9), (6, 10)] [12, 13, 14, 41, 42, 43, 44, 45, 46, 47, 48, 49, 50, 51, 52, 53, 54, 55, 56, 57, 58, 59, 60, 61, 62, 63, 64, 65, 66] V V8 := ajV8
  have agV8 : agr [(0, 6), (0, 7), (0, 8), (0, 9), (1, 1), (1, 2), (1, 3), (1, 4), (1, 6), (1, 7), (1, 8), (2, 7), (3, 12), (3, 13), (3, 14), (3, 15), (4, 5), (4, 6), (4, 7), (4, 8), (5, 5), (5, 6), (5, 7), (5, 8), (5, 9), (5, 13), (6, 5), (6, 6), (6, 7), (6, 8), (6, 9), (6, 10)] [12, 13, 14, 23, 24, 25, 41, 42, 43, 44, 45, 46, 47, 48, 49, 50, 51, 52, 53, 54, 55, 56, 57, 58, 59, 60, 61, 62, 63, 64, 65, 66] V V8 := agV.tr ajV8 (by decide) (by decide)
  have t6 : Imp (z3.toInt = 0) (CD V8 b1 ∧ TX V8 b1) := t6
  have t7 : Imp (z3.toInt = 0) (WO V8 b1) := t7
  have e44r : (V8 44 0).toInt = (V 44 0).toInt := congrArg Int32.toInt (fyV8 44 0 ⟨by decide, by decide⟩ (Or.inr (Nat.le_refl 0)))
  refine lv_istore_n (lv' := [(1, .int z3), (0, .ref (ad 0))]) hx hb dX11_book_11 rfl hl (by decide) rfl (fun ls hl => ?_)
  refine lv_aload_n hx hb dX11_book_12 rfl (lv_at hl 1 rfl) ?_
  refine va_get (D := D) (ci := 11) (v := .ref (ad 6)) (fs := (xfHouse ad V8 L9 Z)) (C := RX11) (T := TX11) (N := 10) hx hb hg inX11 hown hK hP 0 xgHouse rfl 0 (by decide) (hg _ w715) (fun _ h9 => h9) rfl dX11_book_13 ?_
  refine gA_void (gA_runV (As := []) (rest := []) (ci := 9) (q0 := 6) hx hb hml hown hg hP hD hK hS hA hnw hgk (x_empty l D ks H.size ad kk V8 L9 Z  hMV8 ) w1019 w1020 w1021 w157 w1022 rfl xgTape hdV_yX9_empty ⟨Nat.le_of_ble_eq_true rfl, Nat.le_of_ble_eq_true rfl⟩ rfl hl.1 rfl (Nat.le_of_ble_eq_true rfl) dX11_book_16 ⟨Nat.le_of_ble_eq_true rfl, Nat.le_of_ble_eq_true rfl⟩) hP hD hK hS hA (fun u11 H locs w12 hP hD hK hS => ?_)
  obtain ⟨V14, L15⟩ := u11
  obtain ⟨hMV14, ajV14, axL15, t13⟩ := w12
  have axL15 : L9 = L15 := Eq.symm axL15
  subst axL15
  have hP : va_P D vwCl (xw ad kk V14 L9 Z) H := hP
  have hD : va_D A (xw ad kk V14 L9 Z) := hD
  have hMV14 : rgd bX V14 := hMV14
  have ajV14 : agr [(6, 5)] [] V8 V14 := ajV14
  have agV14 : agr [(0, 6), (0, 7), (0, 8), (0, 9), (1, 1), (1, 2), (1, 3), (1, 4), (1, 6), (1, 7), (1, 8), (2, 7), (3, 12), (3, 13), (3, 14), (3, 15), (4, 5), (4, 6), (4, 7), (4, 8), (5, 5), (5, 6), (5, 7), (5, 8), (5, 9), (5, 13), (6, 5), (6, 6), (6, 7), (6, 8), (6, 9), (6, 10)] [12, 13, 14, 23, 24, 25, 41, 42, 43, 44, 45, 46, 47, 48, 49, 50, 51, 52, 53, 54, 55, 56, 57, 58, 59, 60, 61, 62, 63, 64, 65, 66] V V14 := agV8.tr ajV14 (by decide) (by decide)
  have t13 : (V14 6 5).toInt = 0 := t13
  have r16 : 0 ≤ ((V14 6 5)).toInt ∧ ((V14 6 5)).toInt ≤ 4000 := hMV14 6 5
  refine lv_iload_n hx hb dX11_book_19 rfl (lv_at hl 0 rfl) ?_
  refine lv_if_eq (tgt := 25) hx hb dX11_book_20 (by decide) (fun c17 => ?_) (fun c17 => ?_)
  · skip
    have f18 : z3.toInt = 0 := b_eq rfl (by decide) c17
    refine lv_aload_n hx hb dX11_book_25 rfl (lv_at hl 1 rfl) ?_
    refine va_get (D := D) (ci := 11) (v := .ref (ad (38 + Int32.toNatClampNeg (V14 0 6)))) (fs := (xfHouse ad V14 L9 Z)) (C := RX11) (T := TX11) (N := 10) hx hb hg inX11 hown hK hP 0 xgHouse rfl 6 (by decide) (hg _ w721) (fun _ h9 => h9) rfl dX11_book_26 ?_
    have pq19 : (V14 0 6).toInt = ((V 0 6)).toInt := congrArg Int32.toInt ((ajV14 0 6 rfl).trans (ajV8 0 6 rfl))
    refine g_topv (v := .ref (ad (38 + b))) (rfP (by first | omega | ((try (have i_hi := Imp.go hi (by omega))); omega))) ?_
    refine lv_astore_n (lv' := [(2, .ref (ad (38 + b))), (1, .int z3), (0, .ref (ad 0))]) hx hb dX11_book_29 rfl hl (by decide) rfl (fun ls hl => ?_)
    refine lv_aload_n hx hb dX11_book_30 rfl (lv_at hl 2 rfl) ?_
    refine lv_aload_n hx hb dX11_book_31 rfl (lv_at hl 2 rfl) ?_
    refine va_get (D := D) (ci := 11) (v := .ref (ad (38 + Int32.toNatClampNeg (V14 0 7)))) (fs := (xfHouse ad V14 L9 Z)) (C := RX11) (T := TX11) (N := 10) hx hb hg inX11 hown hK hP 0 xgHouse rfl 7 (by decide) (hg _ w722) (fun _ h9 => h9) rfl dX11_book_32 ?_
    have pq20 : (V14 0 7).toInt = ((V 0 7)).toInt := congrArg Int32.toInt ((ajV14 0 7 rfl).trans (ajV8 0 7 rfl))
    refine g_topv (v := .ref (ad (38 + b1))) (rfP (by first | omega | ((try (have i_hi := Imp.go hi (by omega))); omega))) ?_
    refine va_put (D := D) (ci := 11) (v := .ref (ad (38 + b1))) (ty := tyX11 6) (fs := (xfHouse ad V14 L9 Z)) (C := RX11) (T := TX11) (N := 10) hx hb hg inX11 tyX11 tyX11_ok nmX11 hown hK hP hD hS 0 xgHouse rfl 6 (by decide) (hg _ w721) (fun _ h9 => h9) rfl (tyX11_ok 6 (by decide)) rfl rfl (Nat.le_of_ble_eq_true rfl) dX11_book_35 (fun H locs hP hD hS => ?_)
    have r21 : (nI b1).toInt = ((b1 : Nat) : Int) := nI_toInt (by omega)
    obtain ⟨V22, hV22⟩ : ∃ z, z = up2 V14 0 6 (nI b1) := ⟨_, rfl⟩
    have ew23 : (xw ad kk V14 L9 Z).set 0 ((ad 0), .inr (11, (xfHouse ad V14 L9 Z).set 6 (.ref (ad (38 + b1))))) = xw ad kk V22 L9 Z := by rw [hV22]; exact xr_shelf hb1
    have hP : va_P D vwCl (xw ad kk V22 L9 Z) H := by rw [← ew23]; exact hP
    have hD : va_D A (xw ad kk V22 L9 Z) := by rw [← ew23]; exact hD
    have hMV22 : rgd bX V22 := hMV14.put hV22 (show 0 ≤ ((nI b1)).toInt ∧ ((nI b1)).toInt ≤ 1 from by first | exact om_d98fff7a4861 hb1 r21 | first | omega | ((try (have i_hi := Imp.go hi (by omega))); omega))
    have agV22 : agr [(0, 6), (0, 7), (0, 8), (0, 9), (1, 1), (1, 2), (1, 3), (1, 4), (1, 6), (1, 7), (1, 8), (2, 7), (3, 12), (3, 13), (3, 14), (3, 15), (4, 5), (4, 6), (4, 7), (4, 8), (5, 5), (5, 6), (5, 7), (5, 8), (5, 9), (5, 13), (6, 5), (6, 6), (6, 7), (6, 8), (6, 9), (6, 10)] [12, 13, 14, 23, 24, 25, 41, 42, 43, 44, 45, 46, 47, 48, 49, 50, 51, 52, 53, 54, 55, 56, 57, 58, 59, 60, 61, 62, 63, 64, 65, 66] V V22 := agV14.up hV22 rfl
    refine lv_aload_n hx hb dX11_book_38 rfl (lv_at hl 2 rfl) ?_
    refine lv_aload_n hx hb dX11_book_39 rfl (lv_at hl 0 rfl) ?_
    refine va_put (D := D) (ci := 11) (v := .ref (ad (38 + b))) (ty := tyX11 7) (fs := (xfHouse ad V22 L9 Z)) (C := RX11) (T := TX11) (N := 10) hx hb hg inX11 tyX11 tyX11_ok nmX11 hown hK hP hD hS 0 xgHouse rfl 7 (by decide) (hg _ w722) (fun _ h9 => h9) rfl (tyX11_ok 7 (by decide)) rfl rfl (Nat.le_of_ble_eq_true rfl) dX11_book_40 (fun H locs hP hD hS => ?_)
    have r24 : (nI b).toInt = ((b : Nat) : Int) := nI_toInt (by omega)
    obtain ⟨V25, hV25⟩ : ∃ z, z = up2 V22 0 7 (nI b) := ⟨_, rfl⟩
    have ew26 : (xw ad kk V22 L9 Z).set 0 ((ad 0), .inr (11, (xfHouse ad V22 L9 Z).set 7 (.ref (ad (38 + b))))) = xw ad kk V25 L9 Z := by rw [hV25]; exact xr_spare hb2
    have hP : va_P D vwCl (xw ad kk V25 L9 Z) H := by rw [← ew26]; exact hP
    have hD : va_D A (xw ad kk V25 L9 Z) := by rw [← ew26]; exact hD
    have hMV25 : rgd bX V25 := hMV22.put hV25 (show 0 ≤ ((nI b)).toInt ∧ ((nI b)).toInt ≤ 1 from by first | exact om_cf08f328c789 hb1 hbb r24 | first | omega | ((try (have i_hi := Imp.go hi (by omega))); omega))
    have agV25 : agr [(0, 6), (0, 7), (0, 8), (0, 9), (1, 1), (1, 2), (1, 3), (1, 4), (1, 6), (1, 7), (1, 8), (2, 7), (3, 12), (3, 13), (3, 14), (3, 15), (4, 5), (4, 6), (4, 7), (4, 8), (5, 5), (5, 6), (5, 7), (5, 8), (5, 9), (5, 13), (6, 5), (6, 6), (6, 7), (6, 8), (6, 9), (6, 10)] [12, 13, 14, 23, 24, 25, 41, 42, 43, 44, 45, 46, 47, 48, 49, 50, 51, 52, 53, 54, 55, 56, 57, 58, 59, 60, 61, 62, 63, 64, 65, 66] V V25 := agV22.up hV25 rfl
    refine lv_aload_n hx hb dX11_book_43 rfl (lv_at hl 2 rfl) ?_
    refine va_get (D := D) (ci := 11) (v := .ref (ad 3)) (fs := (xfHouse ad V25 L9 Z)) (C := RX11) (T := TX11) (N := 10) hx hb hg inX11 hown hK hP 0 xgHouse rfl 3 (by decide) (hg _ w718) (fun _ h9 => h9) rfl dX11_book_44 ?_
    refine gA_void (gA_runV (As := []) (rest := []) (ci := 8) (q0 := 3) hx hb hml hown hg hP hD hK hS hA hnw hgk (x_sclear2 l D ks H.size ad kk V25 L9 Z  hMV25 ) w1023 w1024 w1025 w164 w1026 rfl xgStock hdV_yX8_clear ⟨Nat.le_of_ble_eq_true rfl, Nat.le_of_ble_eq_true rfl⟩ rfl hl.1 rfl (Nat.le_of_ble_eq_true rfl) dX11_book_47 ⟨Nat.le_of_ble_eq_true rfl, Nat.le_of_ble_eq_true rfl⟩) hP hD hK hS hA (fun u28 H locs w29 hP hD hK hS => ?_)
    obtain ⟨V33, L34⟩ := u28
    obtain ⟨hMV33, ajV33, axL34, t30, t31, t32⟩ := w29
    have axL34 : L9 = L34 := Eq.symm axL34
    subst axL34
    have hP : va_P D vwCl (xw ad kk V33 L9 Z) H := hP
    have hD : va_D A (xw ad kk V33 L9 Z) := hD
    have hMV33 : rgd bX V33 := hMV33
    have ajV33 : agr [(3, 12), (3, 13), (3, 14), (3, 15)] [23, 24, 25] V25 V33 := ajV33
    have agV33 : agr [(0, 6), (0, 7), (0, 8), (0, 9), (1, 1), (1, 2), (1, 3), (1, 4), (1, 6), (1, 7), (1, 8), (2, 7), (3, 12), (3, 13), (3, 14), (3, 15), (4, 5), (4, 6), (4, 7), (4, 8), (5, 5), (5, 6), (5, 7), (5, 8), (5, 9), (5, 13), (6, 5), (6, 6), (6, 7), (6, 8), (6, 9), (6, 10)] [12, 13, 14, 23, 24, 25, 41, 42, 43, 44, 45, 46, 47, 48, 49, 50, 51, 52, 53, 54, 55, 56, 57, 58, 59, 60, 61, 62, 63, 64, 65, 66] V V33 := agV25.tr ajV33 (by decide) (by decide)
    have t30 : (V33 3 13).toInt = 0 := t30
    have t31 : (V33 3 15).toInt = 0 := t31
    have t32 : ∀ q : Nat, q < 960 → (V33 25 q).toInt = -1 := t32
    have r35 : 0 ≤ ((V33 3 13)).toInt ∧ ((V33 3 13)).toInt ≤ 300 := hMV33 3 13
    have r36 : 0 ≤ ((V33 3 15)).toInt ∧ ((V33 3 15)).toInt ≤ 262144 := hMV33 3 15
    refine lv_aload_n hx hb dX11_book_50 rfl (lv_at hl 2 rfl) ?_
    refine va_get (D := D) (ci := 11) (v := .ref (ad 4)) (fs := (xfHouse ad V33 L9 Z)) (C := RX11) (T := TX11) (N := 10) hx hb hg inX11 hown hK hP 0 xgHouse rfl 4 (by decide) (hg _ w719) (fun _ h9 => h9) rfl dX11_book_51 ?_
    refine gA_void (gA_runV (As := []) (rest := []) (ci := 7) (q0 := 4) hx hb hml hown hg hP hD hK hS hA hnw hgk (x_Nclear l D ks H.size ad kk V33 L9 Z  hMV33 ) w1031 w1032 w1033 w166 w1034 rfl xgNotes hdV_yX7_clear ⟨Nat.le_of_ble_eq_true rfl, Nat.le_of_ble_eq_true rfl⟩ rfl hl.1 rfl (Nat.le_of_ble_eq_true rfl) dX11_book_54 ⟨Nat.le_of_ble_eq_true rfl, Nat.le_of_ble_eq_true rfl⟩) hP hD hK hS hA (fun u38 H locs w39 hP hD hK hS => ?_)
    obtain ⟨V40, L41⟩ := u38
    obtain ⟨hMV40, ajV40, axL41⟩ := w39
    have axL41 : L9 = L41 := Eq.symm axL41
    subst axL41
    have hP : va_P D vwCl (xw ad kk V40 L9 Z) H := hP
    have hD : va_D A (xw ad kk V40 L9 Z) := hD
    have hMV40 : rgd bX V40 := hMV40
    have ajV40 : agr [(4, 5), (4, 6), (4, 7), (4, 8)] [] V33 V40 := ajV40
    have agV40 : agr [(0, 6), (0, 7), (0, 8), (0, 9), (1, 1), (1, 2), (1, 3), (1, 4), (1, 6), (1, 7), (1, 8), (2, 7), (3, 12), (3, 13), (3, 14), (3, 15), (4, 5), (4, 6), (4, 7), (4, 8), (5, 5), (5, 6), (5, 7), (5, 8), (5, 9), (5, 13), (6, 5), (6, 6), (6, 7), (6, 8), (6, 9), (6, 10)] [12, 13, 14, 23, 24, 25, 41, 42, 43, 44, 45, 46, 47, 48, 49, 50, 51, 52, 53, 54, 55, 56, 57, 58, 59, 60, 61, 62, 63, 64, 65, 66] V V40 := agV33.tr ajV40 (by decide) (by decide)
    refine lv_aload_n hx hb dX11_book_57 rfl (lv_at hl 2 rfl) ?_
    refine va_get (D := D) (ci := 11) (v := .ref (ad 2)) (fs := (xfHouse ad V40 L9 Z)) (C := RX11) (T := TX11) (N := 10) hx hb hg inX11 hown hK hP 0 xgHouse rfl 2 (by decide) (hg _ w717) (fun _ h9 => h9) rfl dX11_book_58 ?_
    refine gA_void (gA_runV (As := []) (rest := []) (ci := 2) (q0 := 2) hx hb hml hown hg hP hD hK hS hA hnw hgk (x_kclear l D ks H.size ad kk V40 L9 Z  hMV40 ) w1035 w1036 w1037 w163 w1038 rfl xgChecker hdV_yX2_clear ⟨Nat.le_of_ble_eq_true rfl, Nat.le_of_ble_eq_true rfl⟩ rfl hl.1 rfl (Nat.le_of_ble_eq_true rfl) dX11_book_61 ⟨Nat.le_of_ble_eq_true rfl, Nat.le_of_ble_eq_true rfl⟩) hP hD hK hS hA (fun u43 H locs w44 hP hD hK hS => ?_)
    obtain ⟨V45, L46⟩ := u43
    obtain ⟨hMV45, ajV45, axL46⟩ := w44
    have axL46 : L9 = L46 := Eq.symm axL46
    subst axL46
    have hP : va_P D vwCl (xw ad kk V45 L9 Z) H := hP
    have hD : va_D A (xw ad kk V45 L9 Z) := hD
    have hMV45 : rgd bX V45 := hMV45
    have ajV45 : agr [(2, 7)] [] V40 V45 := ajV45
    have agV45 : agr [(0, 6), (0, 7), (0, 8), (0, 9), (1, 1), (1, 2), (1, 3), (1, 4), (1, 6), (1, 7), (1, 8), (2, 7), (3, 12), (3, 13), (3, 14), (3, 15), (4, 5), (4, 6), (4, 7), (4, 8), (5, 5), (5, 6), (5, 7), (5, 8), (5, 9), (5, 13), (6, 5), (6, 6), (6, 7), (6, 8), (6, 9), (6, 10)] [12, 13, 14, 23, 24, 25, 41, 42, 43, 44, 45, 46, 47, 48, 49, 50, 51, 52, 53, 54, 55, 56, 57, 58, 59, 60, 61, 62, 63, 64, 65, 66] V V45 := agV40.tr ajV45 (by decide) (by decide)
    refine lv_aload_n hx hb dX11_book_64 rfl (lv_at hl 2 rfl) ?_
    refine va_get (D := D) (ci := 11) (v := .ref (ad 5)) (fs := (xfHouse ad V45 L9 Z)) (C := RX11) (T := TX11) (N := 10) hx hb hg inX11 hown hK hP 0 xgHouse rfl 5 (by decide) (hg _ w720) (fun _ h9 => h9) rfl dX11_book_65 ?_
    refine lv_aload_n hx hb dX11_book_68 rfl (lv_at hl 2 rfl) ?_
    refine va_get (D := D) (ci := 11) (v := .ref (ad (38 + Int32.toNatClampNeg (V45 0 6)))) (fs := (xfHouse ad V45 L9 Z)) (C := RX11) (T := TX11) (N := 10) hx hb hg inX11 hown hK hP 0 xgHouse rfl 6 (by decide) (hg _ w721) (fun _ h9 => h9) rfl dX11_book_69 ?_
    have pq47 : (V45 0 6).toInt = ((nI b1)).toInt := congrArg Int32.toInt ((ajV45 0 6 rfl).trans ((ajV40 0 6 rfl).trans ((ajV33 0 6 rfl).trans ((up2_k hV25 (by decide)).trans (up2_s hV22)))))
    refine g_topv (v := .ref (ad (38 + b1))) (rfP (by first | omega | ((try (have i_hi := Imp.go hi (by omega))); omega))) ?_
    refine gA_void (gA_runV (As := [.ref (ad (38 + b1))]) (rest := []) (ci := 5) (q0 := 5) hx hb hml hown hg hP hD hK hS hA hnw hgk (x_takeBook l D ks H.size ad kk V45 L9 Z (b1) hMV45 (show b1 < 2 from by first | exact om_f940a4667dd6 hb1 | first | omega | ((try (have i_hi := Imp.go hi (by omega))); omega))) w1039 w1040 w1041 w171 w1042 rfl xgMachine hdV_yX5_takeBook ⟨Nat.le_of_ble_eq_true rfl, Nat.le_of_ble_eq_true rfl⟩ rfl hl.1 rfl (Nat.le_of_ble_eq_true rfl) dX11_book_72 ⟨Nat.le_of_ble_eq_true rfl, Nat.le_of_ble_eq_true rfl⟩) hP hD hK hS hA (fun u49 H locs w50 hP hD hK hS => ?_)
    obtain ⟨V53, L54⟩ := u49
    obtain ⟨hMV53, ajV53, axL54, t51, t52⟩ := w50
    have axL54 : L9 = L54 := Eq.symm axL54
    subst axL54
    have hP : va_P D vwCl (xw ad kk V53 L9 Z) H := hP
    have hD : va_D A (xw ad kk V53 L9 Z) := hD
    have hMV53 : rgd bX V53 := hMV53
    have ajV53 : agr [(5, 5), (5, 6), (5, 7), (5, 8), (5, 9), (5, 13)] [] V45 V53 := ajV53
    have agV53 : agr [(0, 6), (0, 7), (0, 8), (0, 9), (1, 1), (1, 2), (1, 3), (1, 4), (1, 6), (1, 7), (1, 8), (2, 7), (3, 12), (3, 13), (3, 14), (3, 15), (4, 5), (4, 6), (4, 7), (4, 8), (5, 5), (5, 6), (5, 7), (5, 8), (5, 9), (5, 13), (6, 5), (6, 6), (6, 7), (6, 8), (6, 9), (6, 10)] [12, 13, 14, 23, 24, 25, 41, 42, 43, 44, 45, 46, 47, 48, 49, 50, 51, 52, 53, 54, 55, 56, 57, 58, 59, 60, 61, 62, 63, 64, 65, 66] V V53 := agV45.tr ajV53 (by decide) (by decide)
    have t51 : (V53 5 5).toInt = (b1 : Int) := t51
    have t52 : (V53 5 6).toInt = 0 := t52
    have r55 : 0 ≤ ((V53 5 5)).toInt ∧ ((V53 5 5)).toInt ≤ 1 := hMV53 5 5
    have r56 : 0 ≤ ((V53 5 6)).toInt ∧ ((V53 5 6)).toInt ≤ 400 := hMV53 5 6
    refine lv_aload_n hx hb dX11_book_75 rfl (lv_at hl 2 rfl) ?_
    refine lv_iconst (v := 0) hx hb dX11_book_76 (by decide) ?_
    refine va_put (D := D) (ci := 11) (v := .int 0) (ty := tyX11 8) (fs := (xfHouse ad V53 L9 Z)) (C := RX11) (T := TX11) (N := 10) hx hb hg inX11 tyX11 tyX11_ok nmX11 hown hK hP hD hS 0 xgHouse rfl 8 (by decide) (hg _ w723) (fun _ h9 => h9) rfl (tyX11_ok 8 (by decide)) rfl rfl (Nat.le_of_ble_eq_true rfl) dX11_book_77 (fun H locs hP hD hS => ?_)
    obtain ⟨V57, hV57⟩ : ∃ z, z = up2 V53 0 8 0 := ⟨_, rfl⟩
    have ew58 : (xw ad kk V53 L9 Z).set 0 ((ad 0), .inr (11, (xfHouse ad V53 L9 Z).set 8 (.int 0))) = xw ad kk V57 L9 Z := by rw [hV57]; exact xw_ss (by decide) rfl (xb_si (by decide))
    have hP : va_P D vwCl (xw ad kk V57 L9 Z) H := by rw [← ew58]; exact hP
    have hD : va_D A (xw ad kk V57 L9 Z) := by rw [← ew58]; exact hD
    have hMV57 : rgd bX V57 := hMV53.put hV57 (by decide)
    have agV57 : agr [(0, 6), (0, 7), (0, 8), (0, 9), (1, 1), (1, 2), (1, 3), (1, 4), (1, 6), (1, 7), (1, 8), (2, 7), (3, 12), (3, 13), (3, 14), (3, 15), (4, 5), (4, 6), (4, 7), (4, 8), (5, 5), (5, 6), (5, 7), (5, 8), (5, 9), (5, 13), (6, 5), (6, 6), (6, 7), (6, 8), (6, 9), (6, 10)] [12, 13, 14, 23, 24, 25, 41, 42, 43, 44, 45, 46, 47, 48, 49, 50, 51, 52, 53, 54, 55, 56, 57, 58, 59, 60, 61, 62, 63, 64, 65, 66] V V57 := agV53.up hV57 rfl
    refine lv_aload_n hx hb dX11_book_80 rfl (lv_at hl 2 rfl) ?_
    refine lv_iconst (v := 0) hx hb dX11_book_81 (by decide) ?_
    refine va_put (D := D) (ci := 11) (v := .int 0) (ty := tyX11 9) (fs := (xfHouse ad V57 L9 Z)) (C := RX11) (T := TX11) (N := 10) hx hb hg inX11 tyX11 tyX11_ok nmX11 hown hK hP hD hS 0 xgHouse rfl 9 (by decide) (hg _ w724) (fun _ h9 => h9) rfl (tyX11_ok 9 (by decide)) rfl rfl (Nat.le_of_ble_eq_true rfl) dX11_book_82 (fun H locs hP hD hS => ?_)
    obtain ⟨V59, hV59⟩ : ∃ z, z = up2 V57 0 9 0 := ⟨_, rfl⟩
    have ew60 : (xw ad kk V57 L9 Z).set 0 ((ad 0), .inr (11, (xfHouse ad V57 L9 Z).set 9 (.int 0))) = xw ad kk V59 L9 Z := by rw [hV59]; exact xw_ss (by decide) rfl (xb_si (by decide))
    have hP : va_P D vwCl (xw ad kk V59 L9 Z) H := by rw [← ew60]; exact hP
    have hD : va_D A (xw ad kk V59 L9 Z) := by rw [← ew60]; exact hD
    have hMV59 : rgd bX V59 := hMV57.put hV59 (i_full _)
    have agV59 : agr [(0, 6), (0, 7), (0, 8), (0, 9), (1, 1), (1, 2), (1, 3), (1, 4), (1, 6), (1, 7), (1, 8), (2, 7), (3, 12), (3, 13), (3, 14), (3, 15), (4, 5), (4, 6), (4, 7), (4, 8), (5, 5), (5, 6), (5, 7), (5, 8), (5, 9), (5, 13), (6, 5), (6, 6), (6, 7), (6, 8), (6, 9), (6, 10)] [12, 13, 14, 23, 24, 25, 41, 42, 43, 44, 45, 46, 47, 48, 49, 50, 51, 52, 53, 54, 55, 56, 57, 58, 59, 60, 61, 62, 63, 64, 65, 66] V V59 := agV57.up hV59 rfl
    refine lv_iconst (v := 0) hx hb dX11_book_85 (by decide) ?_
    have pq61 : (V59 0 6).toInt = ((nI b1)).toInt := congrArg Int32.toInt ((up2_k hV59 (by decide)).trans ((up2_k hV57 (by decide)).trans ((ajV53 0 6 rfl).trans ((ajV45 0 6 rfl).trans ((ajV40 0 6 rfl).trans ((ajV33 0 6 rfl).trans ((up2_k hV25 (by decide)).trans (up2_s hV22))))))))
    have pq62 : (V59 0 7).toInt = ((nI b)).toInt := congrArg Int32.toInt ((up2_k hV59 (by decide)).trans ((up2_k hV57 (by decide)).trans ((ajV53 0 7 rfl).trans ((ajV45 0 7 rfl).trans ((ajV40 0 7 rfl).trans ((ajV33 0 7 rfl).trans (up2_s hV25)))))))
    have pq63 : (V59 44 0).toInt = ((V8 44 0)).toInt := congrArg Int32.toInt ((up2_o hV59 (by decide)).trans ((up2_o hV57 (by decide)).trans ((ajV53 44 0 rfl).trans ((ajV45 44 0 rfl).trans ((ajV40 44 0 rfl).trans ((ajV33 44 0 rfl).trans ((up2_o hV25 (by decide)).trans ((up2_o hV22 (by decide)).trans (ajV14 44 0 rfl)))))))))
    have pq64 : (V59 6 5).toInt = ((V14 6 5)).toInt := congrArg Int32.toInt ((up2_o hV59 (by decide)).trans ((up2_o hV57 (by decide)).trans ((ajV53 6 5 rfl).trans ((ajV45 6 5 rfl).trans ((ajV40 6 5 rfl).trans ((ajV33 6 5 rfl).trans ((up2_o hV25 (by decide)).trans (up2_o hV22 (by decide)))))))))
    have hcd := Imp.go t6 (by (first | exact om_b66ba74381d5 f18 | omega))
    have be65 : BE V8 V59 := (BE.tr (BE.tr (BE.tr (BE.tr (BE.tr (BE.tr (BE.tr (BE.tr (BE.tr BE.rf (BE.ag ajV14 (by decide) (by decide))) (BE.ag (agr.up (fs := [(0, 6)]) (cs := []) agr.rf hV22 rfl) (by decide) (by decide))) (BE.ag (agr.up (fs := [(0, 7)]) (cs := []) agr.rf hV25 rfl) (by decide) (by decide))) (BE.ag ajV33 (by decide) (by decide))) (BE.ag ajV40 (by decide) (by decide))) (BE.ag ajV45 (by decide) (by decide))) (BE.ag ajV53 (by decide) (by decide))) (BE.ag (agr.up (fs := [(0, 8)]) (cs := []) agr.rf hV57 rfl) (by decide) (by decide))) (BE.ag (agr.up (fs := [(0, 9)]) (cs := []) agr.rf hV59 rfl) (by decide) (by decide)))
    have pq66 : (V59 3 13).toInt = ((V33 3 13)).toInt := congrArg Int32.toInt ((up2_o hV59 (by decide)).trans ((up2_o hV57 (by decide)).trans ((ajV53 3 13 rfl).trans ((ajV45 3 13 rfl).trans (ajV40 3 13 rfl)))))
    have pq67 : (V59 3 15).toInt = ((V33 3 15)).toInt := congrArg Int32.toInt ((up2_o hV59 (by decide)).trans ((up2_o hV57 (by decide)).trans ((ajV53 3 15 rfl).trans ((ajV45 3 15 rfl).trans (ajV40 3 15 rfl)))))
    have pq68 : (V59 5 5).toInt = ((V53 5 5)).toInt := congrArg Int32.toInt ((up2_o hV59 (by decide)).trans (up2_o hV57 (by decide)))
    have pp69 : ∀ q : Nat, q < 960 → (V59 25 q).toInt = -1 := fun q hq => by rw [show V59 25 q = V57 25 q from up2_o hV59 (by decide)]; rw [show V57 25 q = V53 25 q from up2_o hV57 (by decide)]; rw [ajV53 25 q rfl]; rw [ajV45 25 q rfl]; rw [ajV40 25 q rfl]; exact t32 q hq
    have rp70 : HI V59 Z b1 := HI.new hi (TX.be hcd.2 be65) (CD.be hcd.1 be65) (by (first | exact om_36161e850215 t30 pq66 | omega)) (by (first | exact om_36161e850215 t31 pq67 | omega)) (by (first | exact om_07161d737d40 h44.1 h44.2 e44r pq63 | omega)) (by (first | exact om_adf531c77a0d t51 pq68 | omega)) pp69
    exact W.iret (v := 0) hx hb hr (fun t ht hW => ⟨⟨0, (V59, L9), rfl, ⟨hMV59, agV59, alL9, (Imp.mk (fun _ => rp70)), (Imp.mk (fun hp => absurd (show Int32.toInt 0 = 0 from by decide) hp)), (Imp.mk (fun _ => (show (V59 0 6).toInt = (b1 : Int) ∧ (V59 0 7).toInt = (b : Int) from by first | exact om_dc1ab77f9798 r21 r24 pq61 pq62 | first | omega | ((try (have i_hi := Imp.go hi (by omega))); omega)))), (Imp.mk (fun hp => absurd (show Int32.toInt 0 = 0 from by decide) hp)), (show (V59 44 0).toInt = (V 44 0).toInt from by first | exact om_cd7d0a6a31bc e44r pq63 | first | omega | ((try (have i_hi := Imp.go hi (by omega))); omega)), (show (V59 6 5).toInt = 0 from by first | exact om_36161e850215 t13 pq64 | first | omega | ((try (have i_hi := Imp.go hi (by omega))); omega)), (Imp.mk (fun _ => WO.mv (Imp.go t7 (by (first | exact om_b66ba74381d5 f18 | omega))) ((show agr [(0, 6), (0, 7), (0, 8), (0, 9), (2, 7), (3, 12), (3, 13), (3, 14), (3, 15), (4, 5), (4, 6), (4, 7), (4, 8), (5, 5), (5, 6), (5, 7), (5, 8), (5, 9), (5, 13), (6, 5)] [23, 24, 25] V8 V59 from (agr.up (agr.up (agr.tr (agr.tr (agr.tr (agr.tr (agr.up (agr.up (agr.tr agr.rf ajV14 (by decide) (by decide)) hV22 rfl) hV25 rfl) ajV33 (by decide) (by decide)) ajV40 (by decide) (by decide)) ajV45 (by decide) (by decide)) ajV53 (by decide) (by decide)) hV57 rfl) hV59 rfl)) 41 b1 rfl) (fun k9 => (show agr [(0, 6), (0, 7), (0, 8), (0, 9), (2, 7), (3, 12), (3, 13), (3, 14), (3, 15), (4, 5), (4, 6), (4, 7), (4, 8), (5, 5), (5, 6), (5, 7), (5, 8), (5, 9), (5, 13), (6, 5)] [23, 24, 25] V8 V59 from (agr.up (agr.up (agr.tr (agr.tr (agr.tr (agr.tr (agr.up (agr.up (agr.tr agr.rf ajV14 (by decide) (by decide)) hV22 rfl) hV25 rfl) ajV33 (by decide) (by decide)) ajV40 (by decide) (by decide)) ajV45 (by decide) (by decide)) ajV53 (by decide) (by decide)) hV57 rfl) hV59 rfl)) 47 k9 rfl) (fun k9 => (show agr [(0, 6), (0, 7), (0, 8), (0, 9), (2, 7), (3, 12), (3, 13), (3, 14), (3, 15), (4, 5), (4, 6), (4, 7), (4, 8), (5, 5), (5, 6), (5, 7), (5, 8), (5, 9), (5, 13), (6, 5)] [23, 24, 25] V8 V59 from (agr.up (agr.up (agr.tr (agr.tr (agr.tr (agr.tr (agr.up (agr.up (agr.tr agr.rf ajV14 (by decide) (by decide)) hV22 rfl) hV25 rfl) ajV33 (by decide) (by decide)) ajV40 (by decide) (by decide)) ajV45 (by decide) (by decide)) ajV53 (by decide) (by decide)) hV57 rfl) hV59 rfl)) 64 k9 rfl)))⟩, by rw [ht]; exact hP, va_K.moved hW.alike hK, hD⟩, hS.F ht⟩) hS.2.2 dX11_book_86
  · skip
    have f71 : z3.toInt ≠ 0 := b_neq rfl (by decide) c17
    refine lv_iload_n hx hb dX11_book_23 rfl (lv_at hl 0 rfl) ?_
    have pq72 : (V14 0 6).toInt = ((V 0 6)).toInt := congrArg Int32.toInt ((ajV14 0 6 rfl).trans (ajV8 0 6 rfl))
    have pq73 : (V14 0 7).toInt = ((V 0 7)).toInt := congrArg Int32.toInt ((ajV14 0 7 rfl).trans (ajV8 0 7 rfl))
    have pq74 : (V14 44 0).toInt = ((V8 44 0)).toInt := congrArg Int32.toInt (ajV14 44 0 rfl)
    have hf75 : HI V8 Z b := HI.fr hi hbb hMV fyV8 (ajV8 3 13 rfl) (ajV8 3 15 rfl) (ajV8 5 5 rfl) (fun k => ajV8 26 k rfl) (fun k => ajV8 30 k rfl) (fun k => ajV8 32 k rfl) (fun k => ajV8 25 k rfl)
    exact W.iret (v := z3) hx hb hr (fun t ht hW => ⟨⟨z3, (V14, L9), rfl, ⟨hMV14, agV14, alL9, (Imp.mk (fun hp => by exfalso; omega)), (Imp.mk (fun _ => (HI.ag hf75 ajV14 (by decide)))), (Imp.mk (fun hp => have hp : z3.toInt = 0 := hp; (show (V14 0 6).toInt = (b1 : Int) ∧ (V14 0 7).toInt = (b : Int) from by first | omega | ((try (have i_hi := Imp.go hi (by omega))); omega)))), (Imp.mk (fun _ => ⟨by show (V14 0 6).toInt = (b : Int); (first | exact om_adf531c77a0d shk pq72 | omega), by show (V14 0 7).toInt = (b1 : Int); (first | exact om_adf531c77a0d spk pq73 | omega)⟩)), (show (V14 44 0).toInt = (V 44 0).toInt from by first | exact om_cd7d0a6a31bc e44r pq74 | first | omega | ((try (have i_hi := Imp.go hi (by omega))); omega)), (show (V14 6 5).toInt = 0 from by first | exact om_b66ba74381d5 t13 | first | omega | ((try (have i_hi := Imp.go hi (by omega))); omega)), (Imp.mk (fun hp => by exfalso; omega))⟩, by rw [ht]; exact hP, va_K.moved hW.alike hK, hD⟩, hS.F ht⟩) hS.2.2 dX11_book_24
