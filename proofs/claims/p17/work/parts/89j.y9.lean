def bt (x : Int32) (i : Nat) : Bool := x.toBitVec.getLsbD i
theorem b_ext {x y : Int32} (h : ∀ i, i < 32 → bt x i = bt y i) : x = y := Int32.toBitVec_inj.mp (BitVec.eq_of_getLsbD_eq (fun i hi => h i hi))
theorem b_or (x y : Int32) (i : Nat) : bt (x ||| y) i = (bt x i || bt y i) := by unfold bt; rw [Int32.toBitVec_or, BitVec.getLsbD_or]
theorem b_and (x y : Int32) (i : Nat) : bt (x &&& y) i = (bt x i && bt y i) := by unfold bt; rw [Int32.toBitVec_and, BitVec.getLsbD_and]
theorem b_0 (i : Nat) : bt 0 i = false := BitVec.getLsbD_zero
theorem s_l : ∀ n, n < 32 → ((nI n &&& 31).toBitVec.smod 32).toNat = n := by decide +kernel
theorem b_shl (n : Nat) (hn : n < 32) (x : Int32) {i : Nat} (hi : i < 32) : bt (x <<< (nI n &&& 31)) i = (decide (n ≤ i) && bt x (i - n)) := by
  unfold bt
  rw [Int32.toBitVec_shiftLeft]
  show (x.toBitVec <<< ((nI n &&& 31).toBitVec.smod 32).toNat).getLsbD i = _
  rw [s_l n hn, BitVec.getLsbD_shiftLeft]
  rcases Nat.lt_or_ge i n with h | h
  · simp [h, Nat.not_le.mpr h]
  · simp [hi, h, Nat.not_lt.mpr h]
theorem b_sshr (n : Nat) (hn : n < 32) (x : Int32) {i : Nat} (hi : i < 32) : bt (x >>> (nI n &&& 31)) i = if n + i < 32 then bt x (n + i) else bt x 31 := by
  unfold bt
  rw [Int32.toBitVec_shiftRight]
  show (x.toBitVec.sshiftRight ((nI n &&& 31).toBitVec.smod 32).toNat).getLsbD i = _
  rw [s_l n hn, BitVec.getLsbD_sshiftRight, BitVec.msb_eq_getLsbD_last]
  simp [hi]
/-! the class's reader beside the machine -/
def TkC (V : Vf) (L : Lf) (T : Tk) : Prop := (V 12 (V 6 7).toInt.toNat).toInt = 0 ∧ (∀ j, T.1 j = (V 12 j).toInt) ∧ (∀ j, T.2.1 j = L 14 j) ∧ (∀ j, T.2.2 j = (V 13 j).toInt) ∧ (V 1 3).toInt = 0
def TBc (V : Vf) (L : Lf) (b : Nat) (s : St) : Prop := ∀ j, j < 5 → LSw (s.2.1 j) (fun i => L 44 (24 * (5 * b + j) + i)) (V 43 (5 * b + j)).toInt
def WRc (V : Vf) (b : Nat) (s : St) : Prop := (s.2.2.1.length : Int) = (V 41 b).toInt ∧ ∀ i (h : i < s.2.2.1.length), 0 ≤ (V 63 (12 * b + i)).toInt ∧ s.2.2.1[i] = ((V 63 (12 * b + i)).toInt.toNat, decide ((V 65 (12 * b + i)).toInt = 1))
def OWr (V : Vf) (o : Nat) (s : St) : Prop := (V 49 o).toInt = ((s.1 1 : Nat) : Int) ∧ ((V 56 o).toInt = -1 ↔ s.1 2 ≠ 1) ∧ ((V 57 o).toInt = -1 ↔ s.1 3 ≠ 1) ∧ s.1 4 = 0 ∧ ∀ f, f < 20 → ((V 61 (20 * o + f)).toInt ≠ -1 ↔ f ∈ s.2.2.2)
def OWc (V : Vf) (s : St) : Prop := 0 ≤ (V 1 2).toInt → OWr V (Int32.toNatClampNeg (V 1 2)) s
def RelC (V : Vf) (L : Lf) (b : Nat) (T : Tk) (s : St) : Prop := CUR V L (s.1 0) ∧ TkC V L T ∧ TBc V L b s ∧ WRc V b s ∧ OWc V s
theorem RelC.kd {V : Vf} {L : Lf} {b : Nat} {T : Tk} {s : St} (h : RelC V L b T s) : T.1 (s.1 0) = (V 6 9).toInt := by rw [h.2.1.2.1, h.1.2.1]
theorem RelC.st {V : Vf} {L : Lf} {b : Nat} {T : Tk} {s : St} (h : RelC V L b T s) : T.2.2 (s.1 0) = (V 6 10).toInt := by rw [h.2.1.2.2.2.1, h.1.2.2.1]
theorem RelC.vl {V : Vf} {L : Lf} {b : Nat} {T : Tk} {s : St} (h : RelC V L b T s) : T.2.1 (s.1 0) = L 6 11 := by rw [h.2.1.2.2.1, h.1.2.2.2.1]
theorem RelC.e4 {V : Vf} {L : Lf} {b : Nat} {T : Tk} {s : St} (h : RelC V L b T s) (m : (V 6 7).toInt ≤ 4000) (k : (4000 : Int) ≤ ((s.1 0 : Nat) : Int)) : T.1 (s.1 0) = 0 := by
  have a := h.1.1
  have e : s.1 0 = (V 6 7).toInt.toNat := by omega
  rw [h.2.1.2.1, e]
  exact h.2.1.1
/-- which cells may be written while nothing of the above changes -/
def okC (fs : List (Nat × Nat)) (cs : List Nat) : Bool := cs.all (fun c => !([1, 6, 12, 13, 41, 43, 49, 56, 57, 61, 63, 65].contains c)) && fs.all (fun x => !([(6, 7), (6, 8), (6, 9), (6, 10), (1, 2), (1, 3)].contains x) && decide (x.1 ≤ 6))
/-- .. but the token at hand -/
def okN (fs : List (Nat × Nat)) (cs : List Nat) : Bool := cs.all (fun c => !([1, 6, 12, 13, 41, 43, 49, 56, 57, 61, 63, 65].contains c)) && fs.all (fun x => !([(6, 7), (1, 2)].contains x) && decide (x.1 ≤ 6))
/-- .. but the sizes of tables -/
def okA (fs : List (Nat × Nat)) (cs : List Nat) : Bool := cs.all (fun c => !([1, 6, 12, 13, 41, 49, 56, 57, 61, 63, 65].contains c)) && fs.all (fun x => !([(6, 7), (6, 8), (6, 9), (6, 10), (1, 2), (1, 3)].contains x) && decide (x.1 ≤ 6))
theorem ok_use {fs : List (Nat × Nat)} {cs : List Nat} {V W : Vf} {X : List Nat} {Y : List (Nat × Nat)} (a : agr fs cs V W) (h : (cs.all (fun c => !(X.contains c)) && fs.all (fun x => !(Y.contains x) && decide (x.1 ≤ 6))) = true) {x k : Nat} (hx : X.contains x = true) (hy : 6 < x ∨ Y.contains (x, k) = true) : W x k = V x k := by
  refine a x k ?_
  unfold wrL
  rw [Bool.and_eq_true, List.all_eq_true, List.all_eq_true] at h
  rw [Bool.or_eq_false_iff]
  refine ⟨?_, ?_⟩
  · rw [← Bool.not_eq_true]
    intro q
    have z := h.2 _ (List.contains_iff_mem.mp q)
    rw [Bool.and_eq_true] at z
    have z2 : x ≤ 6 := of_decide_eq_true z.2
    rcases hy with hy | hy
    · omega
    · have z1 := z.1
      rw [hy] at z1
      exact absurd z1 (by decide)
  · rw [← Bool.not_eq_true]
    intro q
    have z := h.1 _ (List.contains_iff_mem.mp q)
    rw [hx] at z
    exact absurd z (by decide)
def okLs (ls : List Nat) : Bool := !ls.contains 6 && !ls.contains 14 && !ls.contains 44
def okM (ls : List Nat) : Bool := !ls.contains 14 && !ls.contains 44
theorem okLs.use {ls : List Nat} {L M : Lf} (a : agL ls L M) (h : okLs ls = true) : M 6 = L 6 ∧ M 14 = L 14 ∧ M 44 = L 44 := by
  unfold okLs at h
  rw [Bool.and_eq_true, Bool.and_eq_true, Bool.not_eq_true', Bool.not_eq_true', Bool.not_eq_true'] at h
  exact ⟨funext (fun k => a 6 k h.1.1), funext (fun k => a 14 k h.1.2), funext (fun k => a 44 k h.2)⟩
theorem okM.use {ls : List Nat} {L M : Lf} (a : agL ls L M) (h : okM ls = true) : M 14 = L 14 ∧ M 44 = L 44 := by
  unfold okM at h
  rw [Bool.and_eq_true, Bool.not_eq_true', Bool.not_eq_true'] at h
  exact ⟨funext (fun k => a 14 k h.1), funext (fun k => a 44 k h.2)⟩
theorem CUR.ag {V W : Vf} {L M : Lf} {c : Nat} (h : CUR V L c) (e7 : W 6 7 = V 6 7) (e8 : W 6 8 = V 6 8) (e9 : W 6 9 = V 6 9) (e10 : W 6 10 = V 6 10) (e12 : W 12 = V 12) (e13 : W 13 = V 13) (m6 : M 6 = L 6) (m14 : M 14 = L 14) : CUR W M c := by
  unfold CUR at h ⊢
  rw [e7, e8, e9, e10, e12, e13, m6, m14]
  exact h
theorem TkC.ag {V W : Vf} {L M : Lf} {T : Tk} (h : TkC V L T) (e7 : W 6 7 = V 6 7) (e12 : W 12 = V 12) (e13 : W 13 = V 13) (m14 : M 14 = L 14) (e3 : W 1 3 = V 1 3) : TkC W M T := by
  unfold TkC at h ⊢
  rw [e7, e12, e13, m14, e3]
  exact h
theorem TBc.ag {V W : Vf} {L M : Lf} {b : Nat} {s s' : St} (h : TBc V L b s) (e43 : W 43 = V 43) (m44 : M 44 = L 44) (es : s'.2.1 = s.2.1) : TBc W M b s' := by
  unfold TBc at h ⊢
  rw [e43, m44, es]
  exact h
theorem WRc.ag {V W : Vf} {b : Nat} {s s' : St} (h : WRc V b s) (e41 : W 41 = V 41) (e63 : W 63 = V 63) (e65 : W 65 = V 65) (es : s'.2.2.1 = s.2.2.1) : WRc W b s' := by
  unfold WRc at h ⊢
  rw [e41, e63, e65]
  obtain ⟨a, b1, l, d⟩ := s
  obtain ⟨a', b1', l', d'⟩ := s'
  have e : l' = l := es
  subst e
  exact h
theorem OWr.ag {V W : Vf} {o : Nat} {s s' : St} (h : OWr V o s) (e49 : W 49 = V 49) (e56 : W 56 = V 56) (e57 : W 57 = V 57) (e61 : W 61 = V 61) (es : ∀ i, 1 ≤ i → s'.1 i = s.1 i) (et : s'.2.2.2 = s.2.2.2) : OWr W o s' := by
  unfold OWr at h ⊢
  rw [e49, e56, e57, e61, es 1 (by decide), es 2 (by decide), es 3 (by decide), es 4 (by decide), et]
  exact h
theorem RelC.ag {V W : Vf} {L M : Lf} {b : Nat} {T : Tk} {s : St} {fs : List (Nat × Nat)} {cs ls : List Nat} (h : RelC V L b T s) (a : agr fs cs V W) (k : okC fs cs = true) (m : agL ls L M) (j : okLs ls = true) : RelC W M b T s := by
  have u := okLs.use m j
  have e12 : W 12 = V 12 := funext fun q => ok_use a k (x := 12) rfl (Or.inl (by decide))
  have e13 : W 13 = V 13 := funext fun q => ok_use a k (x := 13) rfl (Or.inl (by decide))
  have e7 : W 6 7 = V 6 7 := ok_use a k rfl (Or.inr rfl)
  have e2 : W 1 2 = V 1 2 := ok_use a k rfl (Or.inr rfl)
  refine ⟨h.1.ag e7 (ok_use a k rfl (Or.inr rfl)) (ok_use a k rfl (Or.inr rfl)) (ok_use a k rfl (Or.inr rfl)) e12 e13 u.1 u.2.1, h.2.1.ag e7 e12 e13 u.2.1 (ok_use a k rfl (Or.inr rfl)), h.2.2.1.ag (funext fun q => ok_use a k (x := 43) rfl (Or.inl (by decide))) u.2.2 rfl, h.2.2.2.1.ag (funext fun q => ok_use a k (x := 41) rfl (Or.inl (by decide))) (funext fun q => ok_use a k (x := 63) rfl (Or.inl (by decide))) (funext fun q => ok_use a k (x := 65) rfl (Or.inl (by decide))) rfl, ?_⟩
  intro q
  rw [e2] at q ⊢
  exact (h.2.2.2.2 q).ag (funext fun q => ok_use a k (x := 49) rfl (Or.inl (by decide))) (funext fun q => ok_use a k (x := 56) rfl (Or.inl (by decide))) (funext fun q => ok_use a k (x := 57) rfl (Or.inl (by decide))) (funext fun q => ok_use a k (x := 61) rfl (Or.inl (by decide))) (fun _ _ => rfl) rfl
/-- what the takers and the readers of E's leave -/
def keepS (s : St) (n : Nat) (s' : St) : Prop := s.1 0 + n ≤ s'.1 0 ∧ (∀ i, 1 ≤ i → s'.1 i = s.1 i) ∧ (∀ j, j < 3 → s'.2.1 j = s.2.1 j) ∧ s'.2.2 = s.2.2
theorem keepS.rf {s : St} : keepS s 0 s := ⟨Nat.le_refl _, fun _ _ => rfl, fun _ _ => rfl, rfl⟩
theorem keepS.tr {s a c : St} {n m : Nat} (h : keepS s n a) (k : keepS a m c) : keepS s (n + m) c :=
  ⟨by have := h.1; have := k.1; omega, fun i hi => (k.2.1 i hi).trans (h.2.1 i hi), fun j hj => (k.2.2.1 j hj).trans (h.2.2.1 j hj), k.2.2.2.trans h.2.2.2⟩
theorem keepS.le {s a : St} {n m : Nat} (h : keepS s n a) (k : m ≤ n) : keepS s m a := ⟨by have := h.1; omega, h.2⟩
theorem nx_i (s : St) (n : Nat) {i : Nat} (h : 1 ≤ i) : (nx s n).1 i = s.1 i := upN_o _ _ _ (by omega)
theorem keepS.n1 {s : St} (n : Nat) : keepS s n (nx s n) := ⟨Nat.le_refl _, fun _ hi => nx_i s n hi, fun _ _ => rfl, rfl⟩
theorem keepS.nA {s : St} {j : Nat} {w : Int64} (h : 3 ≤ j) : keepS s 1 (sA (nx s 1) j w) := ⟨Nat.le_refl _, fun _ hi => nx_i s 1 hi, fun i hi => if_neg (by omega), rfl⟩
theorem RelC.nx1 {V W : Vf} {L M : Lf} {b : Nat} {T : Tk} {s : St} {fs : List (Nat × Nat)} {cs ls : List Nat} (h : RelC V L b T s) (a : agr fs cs V W) (k : okN fs cs = true) (m : agL ls L M) (j : okM ls = true) (c : CUR W M (s.1 0 + 1)) (e3 : W 1 3 = V 1 3) : RelC W M b T (nx s 1) := by
  have u := okM.use m j
  have e12 : W 12 = V 12 := funext fun q => ok_use a k (x := 12) rfl (Or.inl (by decide))
  have e13 : W 13 = V 13 := funext fun q => ok_use a k (x := 13) rfl (Or.inl (by decide))
  have e7 : W 6 7 = V 6 7 := ok_use a k rfl (Or.inr rfl)
  have e2 : W 1 2 = V 1 2 := ok_use a k rfl (Or.inr rfl)
  refine ⟨c, h.2.1.ag e7 e12 e13 u.1 e3, h.2.2.1.ag (funext fun q => ok_use a k (x := 43) rfl (Or.inl (by decide))) u.2 rfl, h.2.2.2.1.ag (funext fun q => ok_use a k (x := 41) rfl (Or.inl (by decide))) (funext fun q => ok_use a k (x := 63) rfl (Or.inl (by decide))) (funext fun q => ok_use a k (x := 65) rfl (Or.inl (by decide))) rfl, ?_⟩
  intro q
  rw [e2] at q ⊢
  exact (h.2.2.2.2 q).ag (funext fun q => ok_use a k (x := 49) rfl (Or.inl (by decide))) (funext fun q => ok_use a k (x := 56) rfl (Or.inl (by decide))) (funext fun q => ok_use a k (x := 57) rfl (Or.inl (by decide))) (funext fun q => ok_use a k (x := 61) rfl (Or.inl (by decide))) (fun _ hi => nx_i s 1 hi) rfl
/-- the token at hand isn't the end: the next one is the next -/
theorem RelC.lk {V : Vf} {L : Lf} {b : Nat} {T : Tk} {s : St} (h : RelC V L b T s) (kn : (V 6 9).toInt ≠ 0) : Int32.toNatClampNeg (V 6 8) = s.1 0 + 1 := by
  have a := h.1
  have n1 : ((s.1 0 : Nat) : Int) < (V 6 7).toInt := by
    have z := a.1
    rcases Int.lt_or_eq_of_le z with q | q
    · exact q
    · exfalso
      apply kn
      have e : s.1 0 = (V 6 7).toInt.toNat := by omega
      rw [a.2.1, e]
      exact h.2.1.1
  have z := a.2.2.2.2
  rw [if_pos n1] at z
  have := i_clamp (x := V 6 8) rfl (by omega)
  omega
theorem RelC.tok {V : Vf} {L : Lf} {b : Nat} {T : Tk} {s : St} (h : RelC V L b T s) : T.1 (s.1 0) = (V 12 (s.1 0)).toInt ∧ T.2.1 (s.1 0) = L 14 (s.1 0) ∧ T.2.2 (s.1 0) = (V 13 (s.1 0)).toInt := ⟨h.2.1.2.1 _, h.2.1.2.2.1 _, h.2.1.2.2.2.1 _⟩
/-- a name more -/
theorem RelC.add {V W : Vf} {L M : Lf} {b : Nat} {T : Tk} {s : St} {fs : List (Nat × Nat)} {cs : List Nat} {j : Nat} {w : Int64} (h : RelC V L b T s) (hj : j < 5) (a : agr fs cs V W) (k : okA fs cs = true) (o : ∀ n : Nat, ¬ n = 5 * b + j → W 43 n = V 43 n) (n1 : (W 43 (5 * b + j)).toInt = (V 43 (5 * b + j)).toInt + 1) (e : M = upL L 44 (24 * (5 * b + j) + Int32.toNatClampNeg (V 43 (5 * b + j))) w) (hc : ∀ n, 0 ≤ (V 43 n).toInt ∧ (V 43 n).toInt ≤ 24) (hl : (V 43 (5 * b + j)).toInt < 24) : RelC W M b T (sA s j w) := by
  have e12 : W 12 = V 12 := funext fun q => ok_use a k (x := 12) rfl (Or.inl (by decide))
  have e13 : W 13 = V 13 := funext fun q => ok_use a k (x := 13) rfl (Or.inl (by decide))
  have e7 : W 6 7 = V 6 7 := ok_use a k rfl (Or.inr rfl)
  have e2 : W 1 2 = V 1 2 := ok_use a k rfl (Or.inr rfl)
  have m6 : M 6 = L 6 := upL_o e (by decide)
  have m14 : M 14 = L 14 := upL_o e (by decide)
  have kc := i_clamp (x := V 43 (5 * b + j)) rfl (hc _).1
  refine ⟨h.1.ag e7 (ok_use a k rfl (Or.inr rfl)) (ok_use a k rfl (Or.inr rfl)) (ok_use a k rfl (Or.inr rfl)) e12 e13 m6 m14, h.2.1.ag e7 e12 e13 m14 (ok_use a k rfl (Or.inr rfl)), ?_, h.2.2.2.1.ag (funext fun q => ok_use a k (x := 41) rfl (Or.inl (by decide))) (funext fun q => ok_use a k (x := 63) rfl (Or.inl (by decide))) (funext fun q => ok_use a k (x := 65) rfl (Or.inl (by decide))) rfl, ?_⟩
  · intro i hi
    have t := h.2.2.1 i hi
    by_cases q : i = j
    · subst q
      show LSw (if i = i then s.2.1 i ++ [w] else s.2.1 i) _ _
      rw [if_pos rfl]
      refine t.add n1 ?_ (fun x hx => ?_)
      · have ex : 24 * (5 * b + i) + (V 43 (5 * b + i)).toInt.toNat = 24 * (5 * b + i) + Int32.toNatClampNeg (V 43 (5 * b + i)) := by omega
        show M 44 (24 * (5 * b + i) + (V 43 (5 * b + i)).toInt.toNat) = w
        rw [ex]
        exact upL_s e
      · show M 44 (24 * (5 * b + i) + x) = L 44 (24 * (5 * b + i) + x)
        rw [e]
        unfold upL vp_updL
        rw [if_pos rfl, if_neg (by omega)]
    · show LSw (if i = j then s.2.1 i ++ [w] else s.2.1 i) _ _
      rw [if_neg q, o (5 * b + i) (by omega)]
      refine ⟨t.1, fun x hx => ?_⟩
      have z := t.1
      have z2 := hc (5 * b + i)
      rw [t.2 x hx]
      show L 44 (24 * (5 * b + i) + x) = M 44 (24 * (5 * b + i) + x)
      rw [e]
      unfold upL vp_updL
      rw [if_pos rfl, if_neg (by omega)]
  · intro q
    rw [e2] at q ⊢
    exact (h.2.2.2.2 q).ag (funext fun q => ok_use a k (x := 49) rfl (Or.inl (by decide))) (funext fun q => ok_use a k (x := 56) rfl (Or.inl (by decide))) (funext fun q => ok_use a k (x := 57) rfl (Or.inl (by decide))) (funext fun q => ok_use a k (x := 61) rfl (Or.inl (by decide))) (fun _ _ => rfl) rfl
/-! what a reading method answers -/
abbrev Rd (T : Tk) (s : St) (inn out : List It → List It) (r flt : Int) (P : St → Prop) : Prop := (r = 1 ∧ ∃ s' : St, (∀ k, Rc T (Crun s (inn k)) (Crun s' (out k))) ∧ P s') ∨ (r = 0 ∧ ∀ k, Rc T (Crun s (inn k)) (Cbad flt))
abbrev KcN (F : (Nat → Cf) → Cf) (r flt : Int) (P : Nat → Prop) : Prop := (r = 1 ∧ ∃ x : Nat, (∀ kk, F kk = kk x) ∧ P x) ∨ (r = 0 ∧ ∀ kk, F kk = Cbad flt)
abbrev KcW (F : (Int64 → Cf) → Cf) (r flt : Int) (P : Int64 → Prop) : Prop := (r = 1 ∧ ∃ x : Int64, (∀ kk, F kk = kk x) ∧ P x) ∨ (r = 0 ∧ ∀ kk, F kk = Cbad flt)
abbrev KcS (F : (Nat × St → Cf) → Cf) (r flt : Int) (P : Nat × St → Prop) : Prop := (r = 1 ∧ ∃ x : Nat × St, (∀ kk, F kk = kk x) ∧ P x) ∨ (r = 0 ∧ ∀ kk, F kk = Cbad flt)
theorem fl_eq {T : Tk} {s : St} {c F x : Int} (h : T.2.2 (s.1 0) = x) (e : F = c + 16 * x) : fl T s c = Cbad F := by
  unfold fl
  rw [h, e]
theorem Rc.go1 {T : Tk} {a b c : Cf} (h : Rc T a b) (e : mst T b = c) : Rc T a c := h.tr (Rc.one e Rc.rf)
theorem RelC.l8 {V : Vf} {L : Lf} {b : Nat} {T : Tk} {s : St} (h : RelC V L b T s) : (V 6 8).toInt ≤ (V 6 7).toInt := by
  have a := h.1.1
  have z := h.1.2.2.2.2
  by_cases c : ((s.1 0 : Nat) : Int) < (V 6 7).toInt
  · rw [if_pos c] at z
    omega
  · rw [if_neg c] at z
    omega
theorem fnd_y {V : Vf} {L : Lf} {b j : Nat} {s : St} {w : Int64} {r : Int} (hb : TBc V L b s) (h : NF (fun i => L 44 (24 * (5 * b + j) + i)) (V 43 (5 * b + j)).toInt w r) (hj : j < 5) (q : 0 ≤ r) : fndI (s.2.1 j) w = some r.toNat := h.yes (hb j hj) q
theorem fnd_n {V : Vf} {L : Lf} {b j : Nat} {s : St} {w : Int64} {r : Int} (hb : TBc V L b s) (h : NF (fun i => L 44 (24 * (5 * b + j) + i)) (V 43 (5 * b + j)).toInt w r) (hj : j < 5) (q : r = -1) : fndI (s.2.1 j) w = none := h.no (hb j hj) q
theorem told_0 {s : St} {w : Int64} (a : fndI (s.2.1 0) w = none) (c : fndI (s.2.1 1) w = none) (d : fndI (s.2.1 2) w = none) : isTold s w = false := by unfold isTold; rw [a, c, d]; rfl
theorem told_1 {s : St} {w : Int64} {f : Nat} (a : fndI (s.2.1 0) w = some f) : isTold s w = true := by unfold isTold; rw [a]; rfl
theorem told_2 {s : St} {w : Int64} {f : Nat} (a : fndI (s.2.1 0) w = none) (c : fndI (s.2.1 1) w = some f) : isTold s w = true := by unfold isTold; rw [a, c]; rfl
theorem told_3 {s : St} {w : Int64} {f : Nat} (a : fndI (s.2.1 0) w = none) (c : fndI (s.2.1 1) w = none) (d : fndI (s.2.1 2) w = some f) : isTold s w = true := by unfold isTold; rw [a, c, d]; rfl
theorem RelC.add0 {V W : Vf} {L M : Lf} {b : Nat} {T : Tk} {s : St} {fs : List (Nat × Nat)} {cs : List Nat} {gn : Nat} (h : RelC V L b T s) (a : agr fs cs V W) (k : okA fs cs = true) (o : ∀ n : Nat, ¬ n = gn → W 43 n = V 43 n) (n1 : (W 43 gn).toInt = (V 43 gn).toInt) (e : M = L) : RelC W M b T s := by
  have e12 : W 12 = V 12 := funext fun q => ok_use a k (x := 12) rfl (Or.inl (by decide))
  have e13 : W 13 = V 13 := funext fun q => ok_use a k (x := 13) rfl (Or.inl (by decide))
  have e43 : W 43 = V 43 := funext fun q => by
    by_cases c : q = gn
    · rw [c]
      exact Int32.toInt_inj.mp n1
    · exact o q c
  have e7 : W 6 7 = V 6 7 := ok_use a k rfl (Or.inr rfl)
  have e2 : W 1 2 = V 1 2 := ok_use a k rfl (Or.inr rfl)
  subst e
  refine ⟨h.1.ag e7 (ok_use a k rfl (Or.inr rfl)) (ok_use a k rfl (Or.inr rfl)) (ok_use a k rfl (Or.inr rfl)) e12 e13 rfl rfl, h.2.1.ag e7 e12 e13 rfl (ok_use a k rfl (Or.inr rfl)), h.2.2.1.ag e43 rfl rfl, h.2.2.2.1.ag (funext fun q => ok_use a k (x := 41) rfl (Or.inl (by decide))) (funext fun q => ok_use a k (x := 63) rfl (Or.inl (by decide))) (funext fun q => ok_use a k (x := 65) rfl (Or.inl (by decide))) rfl, ?_⟩
  intro q
  rw [e2] at q ⊢
  exact (h.2.2.2.2 q).ag (funext fun q => ok_use a k (x := 49) rfl (Or.inl (by decide))) (funext fun q => ok_use a k (x := 56) rfl (Or.inl (by decide))) (funext fun q => ok_use a k (x := 57) rfl (Or.inl (by decide))) (funext fun q => ok_use a k (x := 61) rfl (Or.inl (by decide))) (fun _ _ => rfl) rfl
theorem RelC.addg {V W : Vf} {L M : Lf} {b : Nat} {T : Tk} {s : St} {fs : List (Nat × Nat)} {cs : List Nat} {j gn : Nat} {w : Int64} (h : RelC V L b T s) (hg : gn = 5 * b + j) (hj : j < 5) (a : agr fs cs V W) (k : okA fs cs = true) (o : ∀ n : Nat, ¬ n = gn → W 43 n = V 43 n) (n1 : (W 43 gn).toInt = (V 43 gn).toInt + 1) (e : M = upL L 44 (24 * gn + Int32.toNatClampNeg (V 43 gn)) w) (hc : ∀ n, 0 ≤ (V 43 n).toInt ∧ (V 43 n).toInt ≤ 24) (hl : (V 43 gn).toInt < 24) : RelC W M b T (sA s j w) := by
  subst hg
  exact h.add hj a k o n1 e hc hl
theorem sz24 {V : Vf} (h : rgd bX V) (n : Nat) : 0 ≤ (V 43 n).toInt ∧ (V 43 n).toInt ≤ 24 := by
  have a : 0 ≤ (V 43 n).toInt ∧ (V 43 n).toInt ≤ ((xcap n : Nat) : Int) := h 43 n
  have c := xcap_le n
  omega
theorem fnd_yg {V : Vf} {L : Lf} {b j gn : Nat} {s : St} {w : Int64} {r : Int} (hb : TBc V L b s) (hg : gn = 5 * b + j) (h : NF (fun i => L 44 (24 * gn + i)) (V 43 gn).toInt w r) (hj : j < 5) (q : 0 ≤ r) : fndI (s.2.1 j) w = some r.toNat := by
  subst hg
  exact h.yes (hb j hj) q
theorem fnd_ng {V : Vf} {L : Lf} {b j gn : Nat} {s : St} {w : Int64} {r : Int} (hb : TBc V L b s) (hg : gn = 5 * b + j) (h : NF (fun i => L 44 (24 * gn + i)) (V 43 gn).toInt w r) (hj : j < 5) (q : r = -1) : fndI (s.2.1 j) w = none := by
  subst hg
  exact h.no (hb j hj) q
theorem len_g {V : Vf} {L : Lf} {b j gn : Nat} {s : St} (hb : TBc V L b s) (hg : gn = 5 * b + j) (hj : j < 5) : ((s.2.1 j).length : Int) = (V 43 gn).toInt := by
  subst hg
  exact (hb j hj).1
theorem Kc_mth {T : Tk} {s : St} {j : Nat} {r F : Int} {P : Nat × St → Prop} (h3 : T.1 (s.1 0) = 3) (t : KcS (nbrW T s j) r F P) : KcS (mthW T s j) r F P :=
  t.elim (fun q => Or.inl ⟨q.1, q.2.elim (fun x h => ⟨x, fun kk => (mth_y h3 kk).trans (h.1 kk), h.2⟩)⟩) (fun q => Or.inr ⟨q.1, fun kk => (mth_y h3 kk).trans (q.2 kk)⟩)
theorem Kc_mthN {T : Tk} {s : St} {r F : Int} {P : Nat × St → Prop} (h3 : T.1 (s.1 0) = 3) (hn : mTold s (T.2.1 (s.1 0)) = false) (t : KcS (nbrW T s 3) r F P) : KcS (mthN T s) r F P :=
  have e : ∀ kk, mthN T s kk = nbrW T s 3 kk := fun kk => (mthN_y (fun q => by rw [hn] at q; exact absurd q.2 (by decide)) kk).trans (mth_y h3 kk)
  t.elim (fun q => Or.inl ⟨q.1, q.2.elim (fun x h => ⟨x, fun kk => (e kk).trans (h.1 kk), h.2⟩)⟩) (fun q => Or.inr ⟨q.1, fun kk => (e kk).trans (q.2 kk)⟩)
theorem Kc_im {F : (Nat × St → Cf) → Cf} {r f : Int} {P Q : Nat × St → Prop} (t : KcS F r f P) (h : ∀ x, P x → Q x) : KcS F r f Q :=
  t.elim (fun q => Or.inl ⟨q.1, q.2.elim (fun x k => ⟨x, k.1, h x k.2⟩)⟩) (fun q => Or.inr q)
/-! bits of a list of types -/
theorem b_one : ∀ i, i < 32 → i ≠ 0 → bt 1 i = false := by decide +kernel
theorem b_and1 (x : Int32) : (x &&& 1) = 0 ↔ bt x 0 = false := by
  constructor
  · intro h
    have z := b_and x 1 0
    rw [h, b_0, show bt 1 0 = true from by decide, Bool.and_true] at z
    exact z.symm
  · intro h
    refine b_ext (fun i hi => ?_)
    rw [b_and, b_0]
    by_cases c : i = 0
    · rw [c, h]
      rfl
    · rw [b_one i hi c, Bool.and_false]
theorem y_nI {y : Int32} {f : Nat} (hy : y.toInt = (f : Int)) (hf : f < 24) : y = nI f := Int32.toInt_inj.mp (by rw [nI_toInt (by omega)]; exact hy)
theorem lb_get {x y z1 z2 : Int32} {f : Nat} (e1 : z1 = x >>> (y &&& 31)) (e2 : z2 = z1 &&& 1) (hy : y.toInt = (f : Int)) (hf : f < 24) : z2.toInt = 0 ↔ bt x f = false := by
  have a : bt z1 0 = bt x f := by
    rw [e1, y_nI hy hf, b_sshr f (by omega) x (by decide), Nat.add_zero, if_pos (by omega)]
  have d := b_and1 z1
  rw [← e2, a] at d
  rw [← d]
  exact ⟨fun h => Int32.toInt_inj.mp h, fun h => by rw [h]; rfl⟩
theorem lb_set {x y z3 z4 : Int32} {f : Nat} (e3 : z3 = 1 <<< (y &&& 31)) (e4 : z4 = x ||| z3) (hy : y.toInt = (f : Int)) (hf : f < 24) {g : Nat} (hg : g < 24) : bt z4 g = true ↔ (g = f ∨ bt x g = true) := by
  rw [e4, b_or, e3, y_nI hy hf, b_shl f (by omega) 1 (by omega), Bool.or_eq_true, Bool.and_eq_true, decide_eq_true_iff]
  constructor
  · rintro (h | h)
    · exact Or.inr h
    · left
      rcases Nat.eq_zero_or_pos (g - f) with c | c
      · omega
      · have z := b_one (g - f) (by omega) (by omega)
        rw [z] at h
        exact absurd h.2 (by decide)
  · rintro (h | h)
    · right
      rw [h, Nat.sub_self]
      exact ⟨Nat.le_refl _, by decide⟩
    · exact Or.inl h
/-- what was listed is in the bits -/
def SEEN (x : Int32) (seen : List Nat) : Prop := ∀ g, g < 24 → (bt x g = true ↔ g ∈ seen)
theorem SEEN.z : SEEN 0 [] := fun g _ => ⟨fun h => by rw [b_0] at h; exact absurd h (by decide), fun h => absurd h List.not_mem_nil⟩
theorem SEEN.add {x y z3 z4 : Int32} {f : Nat} {l : List Nat} (h : SEEN x l) (e3 : z3 = 1 <<< (y &&& 31)) (e4 : z4 = x ||| z3) (hy : y.toInt = (f : Int)) (hf : f < 24) : SEEN z4 (f :: l) := fun g hg => by
  rw [lb_set e3 e4 hy hf hg, List.mem_cons, h g hg]
theorem SEEN.no {x y z1 z2 : Int32} {f : Nat} {l : List Nat} (h : SEEN x l) (e1 : z1 = x >>> (y &&& 31)) (e2 : z2 = z1 &&& 1) (hy : y.toInt = (f : Int)) (hf : f < 24) (q : z2.toInt = 0) : f ∉ l := fun m => by
  have a := (lb_get e1 e2 hy hf).mp q
  rw [(h f hf).mpr m] at a
  exact absurd a (by decide)
theorem SEEN.yes {x y z1 z2 : Int32} {f : Nat} {l : List Nat} (h : SEEN x l) (e1 : z1 = x >>> (y &&& 31)) (e2 : z2 = z1 &&& 1) (hy : y.toInt = (f : Int)) (hf : f < 24) (q : z2.toInt ≠ 0) : f ∈ l := by
  by_cases c : bt x f = true
  · exact (h f hf).mp c
  · exact absurd ((lb_get e1 e2 hy hf).mpr (by cases e : bt x f; rfl; exact absurd e c)) q
/-! the other BOOK's names stay -/
def ROWL (b : Nat) (L M : Lf) : Prop := ∀ k, ¬ (120 * b ≤ k ∧ k < 120 * b + 120) → M 44 k = L 44 k
theorem ROWL.ad {V : Vf} {L M : Lf} {b gn k : Nat} {p : Int64} {r : Int} {X : Prop} (h : (r = -1 ∧ M = L) ∨ (0 ≤ r ∧ M = upL L 44 (24 * gn + Int32.toNatClampNeg (V 43 gn)) p)) (i : Imp (((xcap gn : Nat) : Int) ≤ (V 43 gn).toInt) (r = -1 ∧ X)) (h0 : 0 ≤ (V 43 gn).toInt) (hg : 5 * b ≤ gn ∧ gn < 5 * b + 5) (hk : ¬ (120 * b ≤ k ∧ k < 120 * b + 120)) : M 44 k = L 44 k := by
  rcases h with ⟨_, e⟩ | ⟨q, e⟩
  · rw [e]
  · have c := (xcap_le gn).2
    have z : (V 43 gn).toInt < 24 := by
      by_cases d : ((xcap gn : Nat) : Int) ≤ (V 43 gn).toInt
      · have y := (Imp.go i d).1
        omega
      · omega
    have kc := i_clamp (x := V 43 gn) rfl h0
    rw [e]
    unfold upL vp_updL
    rw [if_pos rfl, if_neg (by omega)]


abbrev r_x_isTold3 : Room := { frames := 1, cells := 0, slots := 0, locals := 23 }
abbrev q_x_isTold3 (D : va_G) (ks : KS) (ad : Nat → Nat) (kk : Nat → ClassId) (V : Vf) (L : Lf) (Z : XZ) (p0 : Int64) (b : Nat) (gs : St) (A : Nat → Prop) : Array Value → State → Outcome → State → Prop := va_Qi (fun (r : Int32) (_ : Unit) => (0 ≤ r.toInt ∧ r.toInt ≤ 1) ∧ ((r.toInt = 1 ∧ isTold gs p0 = true) ∨ (r.toInt = 0 ∧ isTold gs p0 = false))) (fun _ t => gq D A (xw ad kk V L Z) (xty kk Z) t) A
set_option maxHeartbeats 4000000 in
set_option maxRecDepth 100000 in
theorem x_isTold3 (l : Launch) (D : va_G) (ks : KS) (sz : Nat) (ad : Nat → Nat) (kk : Nat → ClassId) (V : Vf) (L : Lf) (Z : XZ) (p0 : Int64) (b : Nat) (gs : St) (hMV : rgd bX V) (hb2 : b < 2) (tb : TBc V L b gs)  : Met l yX0_isTold (Cond.code yX0_isTold cX0_isTold 3 (some .boolean) :: GW) r_x_isTold3 (va_Pc [.ref (ad (38 + b)), .long p0] (gp D ks (xw ad kk V L Z) (xty kk Z) sz)) (q_x_isTold3 D ks ad kk V L Z p0 b gs (va_A (xw ad kk V L Z) sz)) 0 0 (va_A (xw ad kk V L Z) sz) := by
  refine g_met (q_x_isTold3 D ks ad kk V L Z p0 b gs) (by decide) (Nat.le_of_ble_eq_true rfl) ?_
  intro p e s m below meth c A ls H locs hx hb hr hml hown hg hlocks hin hnw hgk hP hK hD hS hA hl
  have hown : s.vm.findClass RX0 = some m.cls := hown
  have hl : lv_has ls 3 [(0, .ref (ad (38 + b))), (1, .long p0)] := hl
  have hP : va_P D vwCl (xw ad kk V L Z) H := hP
  have hD : va_D A (xw ad kk V L Z) := hD
  have hK : va_K D vwCl (xty kk Z) s := hK
  refine lv_aload_n hx hb dX0_isTold_0 rfl (lv_at hl 0 rfl) ?_
  refine va_get (D := D) (ci := 0) (v := .ref (ad (40 + (5 * b + 0)))) (fs := (xfBook ad V b)) (C := RX0) (T := TX0) (N := 13) hx hb hg inX0 hown hK hP (38 + b) (xgBook hb2) rfl 0 (by decide) (hg _ w593) (fun _ h9 => h9) rfl dX0_isTold_1 ?_
  refine lv_lload_n hx hb dX0_isTold_4 rfl (lv_at hl 1 rfl) ?_
  have il1 : (5 * b + 0) < 10 := by first | exact om_99c4753a5d76 hb2 | first | omega | ((try (have i_tb := Imp.go tb (by omega))); omega)
  refine gA_int (gA_runV (As := [.long p0]) (rest := []) (ci := 6) (q0 := (40 + (5 * b + 0))) hx hb hml hown hg hP hD hK hS hA hnw hgk (x_find2 l D ks H.size ad kk V L Z p0 ((5 * b + 0)) hMV (show (5 * b + 0) < 10 from by first | exact om_99c4753a5d76 hb2 | first | omega | ((try (have i_tb := Imp.go tb (by omega))); omega))) w880 w881 w882 w168 w883 rfl (xgNames il1) hdV_yX6_find ⟨Nat.le_of_ble_eq_true rfl, Nat.le_of_ble_eq_true rfl⟩ rfl hl.1 rfl (Nat.le_of_ble_eq_true rfl) dX0_isTold_5 ⟨Nat.le_of_ble_eq_true rfl, Nat.le_of_ble_eq_true rfl⟩) hP hD hK hS hA (fun z2 u3 H locs w4 hP hD hK hS => ?_)
  obtain ⟨rgz2, t5, t6⟩ := w4
  have rgz2 : (-1) ≤ z2.toInt ∧ z2.toInt ≤ 23 := rgz2
  have t5 : z2.toInt < (V 43 (5 * b + 0)).toInt := t5
  have t6 : NF (fun i => L 44 (24 * (5 * b + 0) + i)) (V 43 (5 * b + 0)).toInt p0 z2.toInt := t6
  refine lv_iconst (v := (-1)) hx hb dX0_isTold_8 (by decide) ?_
  refine lv_icmp_ne (tgt := 36) hx hb dX0_isTold_9 (by decide) (fun c7 => ?_) (fun c7 => ?_)
  · skip
    have f8 : z2.toInt ≠ (-1) := b_neq rfl (by decide) c7
    refine lv_iconst (v := 1) hx hb dX0_isTold_36 (by decide) ?_
    refine lv_goto (tgt := 41) hx hb dX0_isTold_37 (by decide) ?_
    exact W.zret (v := 1) hx hb hr rfl (fun t ht hW => ⟨⟨1, (), rfl, ⟨(by decide), (Or.inl ⟨rfl, told_1 (fnd_y tb t6 (by decide) (by (first | exact om_e3b1d6ac9ce8 rgz2.1 f8 | omega)))⟩)⟩, by rw [ht]; exact hP, va_K.moved hW.alike hK, hD⟩, hS.F ht⟩) hS.2.2 dX0_isTold_41
  · skip
    have f9 : z2.toInt = (-1) := b_eq rfl (by decide) c7
    refine lv_aload_n hx hb dX0_isTold_12 rfl (lv_at hl 0 rfl) ?_
    refine va_get (D := D) (ci := 0) (v := .ref (ad (40 + (5 * b + 1)))) (fs := (xfBook ad V b)) (C := RX0) (T := TX0) (N := 13) hx hb hg inX0 hown hK hP (38 + b) (xgBook hb2) rfl 1 (by decide) (hg _ w596) (fun _ h9 => h9) rfl dX0_isTold_13 ?_
    refine lv_lload_n hx hb dX0_isTold_16 rfl (lv_at hl 1 rfl) ?_
    have il10 : (5 * b + 1) < 10 := by first | exact om_3891d7acfde9 hb2 | first | omega | ((try (have i_tb := Imp.go tb (by omega))); omega)
    refine gA_int (gA_runV (As := [.long p0]) (rest := []) (ci := 6) (q0 := (40 + (5 * b + 1))) hx hb hml hown hg hP hD hK hS hA hnw hgk (x_find2 l D ks H.size ad kk V L Z p0 ((5 * b + 1)) hMV (show (5 * b + 1) < 10 from by first | exact om_3891d7acfde9 hb2 | first | omega | ((try (have i_tb := Imp.go tb (by omega))); omega))) w880 w881 w882 w168 w883 rfl (xgNames il10) hdV_yX6_find ⟨Nat.le_of_ble_eq_true rfl, Nat.le_of_ble_eq_true rfl⟩ rfl hl.1 rfl (Nat.le_of_ble_eq_true rfl) dX0_isTold_17 ⟨Nat.le_of_ble_eq_true rfl, Nat.le_of_ble_eq_true rfl⟩) hP hD hK hS hA (fun z11 u12 H locs w13 hP hD hK hS => ?_)
    obtain ⟨rgz11, t14, t15⟩ := w13
    have rgz11 : (-1) ≤ z11.toInt ∧ z11.toInt ≤ 23 := rgz11
    have t14 : z11.toInt < (V 43 (5 * b + 1)).toInt := t14
    have t15 : NF (fun i => L 44 (24 * (5 * b + 1) + i)) (V 43 (5 * b + 1)).toInt p0 z11.toInt := t15
    refine lv_iconst (v := (-1)) hx hb dX0_isTold_20 (by decide) ?_
    refine lv_icmp_ne (tgt := 36) hx hb dX0_isTold_21 (by decide) (fun c16 => ?_) (fun c16 => ?_)
    · skip
      have f17 : z11.toInt ≠ (-1) := b_neq rfl (by decide) c16
      refine lv_iconst (v := 1) hx hb dX0_isTold_36 (by decide) ?_
      refine lv_goto (tgt := 41) hx hb dX0_isTold_37 (by decide) ?_
      exact W.zret (v := 1) hx hb hr rfl (fun t ht hW => ⟨⟨1, (), rfl, ⟨(by decide), (Or.inl ⟨rfl, told_2 (fnd_n tb t6 (by decide) (by (first | exact om_8809abba85b8 rgz2.1 f9 | omega))) (fnd_y tb t15 (by decide) (by (first | exact om_e3b1d6ac9ce8 rgz11.1 f17 | omega)))⟩)⟩, by rw [ht]; exact hP, va_K.moved hW.alike hK, hD⟩, hS.F ht⟩) hS.2.2 dX0_isTold_41
    · skip
      have f18 : z11.toInt = (-1) := b_eq rfl (by decide) c16
      refine lv_aload_n hx hb dX0_isTold_24 rfl (lv_at hl 0 rfl) ?_
      refine va_get (D := D) (ci := 0) (v := .ref (ad (40 + (5 * b + 2)))) (fs := (xfBook ad V b)) (C := RX0) (T := TX0) (N := 13) hx hb hg inX0 hown hK hP (38 + b) (xgBook hb2) rfl 2 (by decide) (hg _ w599) (fun _ h9 => h9) rfl dX0_isTold_25 ?_
      refine lv_lload_n hx hb dX0_isTold_28 rfl (lv_at hl 1 rfl) ?_
      have il19 : (5 * b + 2) < 10 := by first | exact om_1478e52fbf50 hb2 | first | omega | ((try (have i_tb := Imp.go tb (by omega))); omega)
      refine gA_int (gA_runV (As := [.long p0]) (rest := []) (ci := 6) (q0 := (40 + (5 * b + 2))) hx hb hml hown hg hP hD hK hS hA hnw hgk (x_find2 l D ks H.size ad kk V L Z p0 ((5 * b + 2)) hMV (show (5 * b + 2) < 10 from by first | exact om_1478e52fbf50 hb2 | first | omega | ((try (have i_tb := Imp.go tb (by omega))); omega))) w880 w881 w882 w168 w883 rfl (xgNames il19) hdV_yX6_find ⟨Nat.le_of_ble_eq_true rfl, Nat.le_of_ble_eq_true rfl⟩ rfl hl.1 rfl (Nat.le_of_ble_eq_true rfl) dX0_isTold_29 ⟨Nat.le_of_ble_eq_true rfl, Nat.le_of_ble_eq_true rfl⟩) hP hD hK hS hA (fun z20 u21 H locs w22 hP hD hK hS => ?_)
      obtain ⟨rgz20, t23, t24⟩ := w22
      have rgz20 : (-1) ≤ z20.toInt ∧ z20.toInt ≤ 23 := rgz20
      have t23 : z20.toInt < (V 43 (5 * b + 2)).toInt := t23
      have t24 : NF (fun i => L 44 (24 * (5 * b + 2) + i)) (V 43 (5 * b + 2)).toInt p0 z20.toInt := t24
      refine lv_iconst (v := (-1)) hx hb dX0_isTold_32 (by decide) ?_
      refine lv_icmp_eq (tgt := 40) hx hb dX0_isTold_33 (by decide) (fun c25 => ?_) (fun c25 => ?_)
      · skip
        have f26 : z20.toInt = (-1) := b_eq rfl (by decide) c25
        refine lv_iconst (v := 0) hx hb dX0_isTold_40 (by decide) ?_
        exact W.zret (v := 0) hx hb hr rfl (fun t ht hW => ⟨⟨0, (), rfl, ⟨(by decide), (Or.inr ⟨rfl, told_0 (fnd_n tb t6 (by decide) (by (first | exact om_8809abba85b8 rgz2.1 f9 | omega))) (fnd_n tb t15 (by decide) (by (first | exact om_8809abba85b8 rgz11.1 f18 | omega))) (fnd_n tb t24 (by decide) (by (first | exact om_8809abba85b8 rgz20.1 f26 | omega)))⟩)⟩, by rw [ht]; exact hP, va_K.moved hW.alike hK, hD⟩, hS.F ht⟩) hS.2.2 dX0_isTold_41
      · skip
        have f27 : z20.toInt ≠ (-1) := b_neq rfl (by decide) c25
        refine lv_iconst (v := 1) hx hb dX0_isTold_36 (by decide) ?_
        refine lv_goto (tgt := 41) hx hb dX0_isTold_37 (by decide) ?_
        exact W.zret (v := 1) hx hb hr rfl (fun t ht hW => ⟨⟨1, (), rfl, ⟨(by decide), (Or.inl ⟨rfl, told_3 (fnd_n tb t6 (by decide) (by (first | exact om_8809abba85b8 rgz2.1 f9 | omega))) (fnd_n tb t15 (by decide) (by (first | exact om_8809abba85b8 rgz11.1 f18 | omega))) (fnd_y tb t24 (by decide) (by (first | exact om_e3b1d6ac9ce8 rgz20.1 f27 | omega)))⟩)⟩, by rw [ht]; exact hP, va_K.moved hW.alike hK, hD⟩, hS.F ht⟩) hS.2.2 dX0_isTold_41
abbrev r_x_takeNewName3 : Room := { frames := 2, cells := 0, slots := 0, locals := 45 }
abbrev q_x_takeNewName3 (D : va_G) (ks : KS) (ad : Nat → Nat) (kk : Nat → ClassId) (V : Vf) (L : Lf) (Z : XZ) (b : Nat) (gT : Tk) (gs : St) (A : Nat → Prop) : Array Value → State → Outcome → State → Prop := va_Qi (fun (r : Int32) (u : Vf × Lf) => rgd bX u.1 ∧ agr [(1, 3), (6, 8), (6, 9), (6, 10)] [] V u.1 ∧ agL [1, 6] L u.2 ∧ (0 ≤ r.toInt ∧ r.toInt ≤ 1) ∧ (KcW (newN gT gs) r.toInt (u.1 1 3).toInt (fun w9 => RelC u.1 u.2 b gT (nx gs 1) ∧ u.2 1 5 = w9))) (fun u t => gq D A (xw ad kk u.1 u.2 Z) (xty kk Z) t) A
set_option maxHeartbeats 4000000 in
set_option maxRecDepth 100000 in
theorem x_takeNewName3 (l : Launch) (D : va_G) (ks : KS) (sz : Nat) (ad : Nat → Nat) (kk : Nat → ClassId) (V : Vf) (L : Lf) (Z : XZ) (b : Nat) (gT : Tk) (gs : St) (hMV : rgd bX V) (hb2 : b < 2) (rbk : (V 1 1).toInt = (b : Int)) (rel : RelC V L b gT gs)  : Met l yX1_takeNewName (Cond.code yX1_takeNewName cX1_takeNewName 1 (some .boolean) :: GW) r_x_takeNewName3 (va_Pc [.ref (ad 1)] (gp D ks (xw ad kk V L Z) (xty kk Z) sz)) (q_x_takeNewName3 D ks ad kk V L Z  b gT gs (va_A (xw ad kk V L Z) sz)) 0 0 (va_A (xw ad kk V L Z) sz) := by
  refine g_met (q_x_takeNewName3 D ks ad kk V L Z  b gT gs) (by decide) (Nat.le_of_ble_eq_true rfl) ?_
  intro p e s m below meth c A ls H locs hx hb hr hml hown hg hlocks hin hnw hgk hP hK hD hS hA hl
  have hown : s.vm.findClass RX1 = some m.cls := hown
  have hl : lv_has ls 1 [(0, .ref (ad 1))] := hl
  have hP : va_P D vwCl (xw ad kk V L Z) H := hP
  have hD : va_D A (xw ad kk V L Z) := hD
  have hK : va_K D vwCl (xty kk Z) s := hK
  have agV : agr [(1, 3), (6, 8), (6, 9), (6, 10)] [] V V := agr.rf
  have alL : agL [1, 6] L L := agL.rf
  have r1 : (-1) ≤ ((V 1 1)).toInt ∧ ((V 1 1)).toInt ≤ 1 := hMV 1 1
  refine lv_aload_n hx hb dX1_takeNewName_0 rfl (lv_at hl 0 rfl) ?_
  refine va_get (D := D) (ci := 1) (v := .ref (ad 6)) (fs := (xfReader ad V L Z)) (C := RX1) (T := TX1) (N := 9) hx hb hg inX1 hown hK hP 1 xgReader rfl 0 (by decide) (hg _ w304) (fun _ h9 => h9) rfl dX1_takeNewName_1 ?_
  refine va_getN (D := D) (ci := 9) (v := .int (V 6 9)) (fs := (xfTape ad V L Z)) (C := RX9) (T := TX9) (N := 12) hx hb hg inX9 hown hK hP 6 xgTape rfl 9 (by decide) (hnw.use 262 n262 rfl) (fun _ h9 => h9) rfl dX1_takeNewName_4 ?_
  refine lv_iconst (v := 3) hx hb dX1_takeNewName_7 (by decide) ?_
  refine lv_icmp_eq (tgt := 17) hx hb dX1_takeNewName_8 (by decide) (fun c2 => ?_) (fun c2 => ?_)
  · skip
    have f3 : ((V 6 9)).toInt = 3 := b_eq rfl (by decide) c2
    have kd4 : gT.1 (gs.1 0) = ((V 6 9)).toInt := RelC.kd rel
    refine lv_aload_n hx hb dX1_takeNewName_17 rfl (lv_at hl 0 rfl) ?_
    refine va_get (D := D) (ci := 1) (v := rfN ad 38 (V 1 1)) (fs := (xfReader ad V L Z)) (C := RX1) (T := TX1) (N := 9) hx hb hg inX1 hown hK hP 1 xgReader rfl 1 (by decide) (hg _ w305) (fun _ h9 => h9) rfl dX1_takeNewName_18 ?_
    refine g_topv (v := .ref (ad (38 + b))) (rfN_r (by omega)) ?_
    refine lv_aload_n hx hb dX1_takeNewName_21 rfl (lv_at hl 0 rfl) ?_
    refine va_get (D := D) (ci := 1) (v := .ref (ad 6)) (fs := (xfReader ad V L Z)) (C := RX1) (T := TX1) (N := 9) hx hb hg inX1 hown hK hP 1 xgReader rfl 0 (by decide) (hg _ w304) (fun _ h9 => h9) rfl dX1_takeNewName_22 ?_
    refine va_getN (D := D) (ci := 9) (v := .long (L 6 11)) (fs := (xfTape ad V L Z)) (C := RX9) (T := TX9) (N := 12) hx hb hg inX9 hown hK hP 6 xgTape rfl 11 (by decide) (hnw.use 269 n269 rfl) (fun _ h9 => h9) rfl dX1_takeNewName_25 ?_
    refine gA_int (gA_runV (As := [.long (L 6 11)]) (rest := []) (ci := 0) (q0 := (38 + b)) hx hb hml hown hg hP hD hK hS hA hnw hgk (x_isTold3 l D ks H.size ad kk V L Z (L 6 11) (b) (gs) hMV (show b < 2 from by (first | exact om_f940a4667dd6 hb2 | omega)) (rel).2.2.1) w876 w877 w878 w167 w879 rfl (xgBook hb2) hdV_yX0_isTold ⟨Nat.le_of_ble_eq_true rfl, Nat.le_of_ble_eq_true rfl⟩ rfl hl.1 rfl (Nat.le_of_ble_eq_true rfl) dX1_takeNewName_28 ⟨Nat.le_of_ble_eq_true rfl, Nat.le_of_ble_eq_true rfl⟩) hP hD hK hS hA (fun z5 u6 H locs w7 hP hD hK hS => ?_)
    obtain ⟨rgz5, t8⟩ := w7
    have rgz5 : 0 ≤ z5.toInt ∧ z5.toInt ≤ 1 := rgz5
    have t8 : (z5.toInt = 1 ∧ isTold gs (L 6 11) = true) ∨ (z5.toInt = 0 ∧ isTold gs (L 6 11) = false) := t8
    rcases t8 with ⟨q9, h10⟩ | ⟨q9, h10⟩
    · skip
      refine lv_if_eq (tgt := 40) hx hb dX1_takeNewName_31 (by decide) (fun c11 => ?_) (fun c11 => ?_)
      · skip
        have f12 : z5.toInt = 0 := b_eq rfl (by decide) c11
        exfalso; (first | exact om_495ee03a60ae q9 f12 | omega)
      · skip
        have f13 : z5.toInt ≠ 0 := b_neq rfl (by decide) c11
        refine lv_aload_n hx hb dX1_takeNewName_34 rfl (lv_at hl 0 rfl) ?_
        refine lv_iconst (v := 3) hx hb dX1_takeNewName_35 (by decide) ?_
        have r14 : Int32.toInt 3 = 3 := by decide
        refine gA_int (gA_runV (As := [.int 3]) (rest := []) (ci := 1) (q0 := 1) hx hb hml hown hg hP hD hK hS hA hnw hgk (x_wrong2 l D ks H.size ad kk V L Z 3 hMV (by decide)) w867 w869 w6 w162 w870 rfl xgReader hdV_yX1_wrong ⟨Nat.le_of_ble_eq_true rfl, Nat.le_of_ble_eq_true rfl⟩ rfl hl.1 rfl (Nat.le_of_ble_eq_true rfl) dX1_takeNewName_36 ⟨Nat.le_of_ble_eq_true rfl, Nat.le_of_ble_eq_true rfl⟩) hP hD hK hS hA (fun z15 u16 H locs w17 hP hD hK hS => ?_)
        obtain ⟨V20, L21⟩ := u16
        obtain ⟨hMV20, ajV20, axL21, rgz15, t18, t19⟩ := w17
        have axL21 : L = L21 := Eq.symm axL21
        subst axL21
        have hP : va_P D vwCl (xw ad kk V20 L Z) H := hP
        have hD : va_D A (xw ad kk V20 L Z) := hD
        have hMV20 : rgd bX V20 := hMV20
        have ajV20 : agr [(1, 3)] [] V V20 := ajV20
        have agV20 : agr [(1, 3), (6, 8), (6, 9), (6, 10)] [] V V20 := agV.tr ajV20 (by decide) (by decide)
        have rgz15 : 0 ≤ z15.toInt ∧ z15.toInt ≤ 0 := rgz15
        have t18 : 1 ≤ (V20 1 3).toInt := t18
        have t19 : (V20 1 3).toInt = (Int32.toInt 3) + 16 * (V 6 10).toInt := t19
        have r22 : 0 ≤ ((V 6 10)).toInt ∧ ((V 6 10)).toInt ≤ 4000 := hMV 6 10
        exact W.zret (v := z15) hx hb hr (nb_ok (by omega)) (fun t ht hW => ⟨⟨z15, (V20, L), rfl, ⟨hMV20, agV20, alL, (show 0 ≤ z15.toInt ∧ z15.toInt ≤ 1 from by (first | exact om_641b3f05f166 rgz15.1 rgz15.2 | omega)), (Or.inr ⟨(by omega), fun kk => (newN_3 (kd4.trans f3) (by rw [(RelC.vl rel)]; exact h10) kk).trans (fl_eq (RelC.st rel) (show (V20 1 3).toInt = 3 + 16 * (V 6 10).toInt from by (first | exact om_b430a26e4567 r14 t19 | omega)))⟩)⟩, by rw [ht]; exact hP, va_K.moved hW.alike hK, hD⟩, hS.F ht⟩) hS.2.2 dX1_takeNewName_39
    · skip
      refine lv_if_eq (tgt := 40) hx hb dX1_takeNewName_31 (by decide) (fun c23 => ?_) (fun c23 => ?_)
      · skip
        have f24 : z5.toInt = 0 := b_eq rfl (by decide) c23
        refine lv_aload_n hx hb dX1_takeNewName_40 rfl (lv_at hl 0 rfl) ?_
        refine lv_aload_n hx hb dX1_takeNewName_41 rfl (lv_at hl 0 rfl) ?_
        refine va_get (D := D) (ci := 1) (v := .ref (ad 6)) (fs := (xfReader ad V L Z)) (C := RX1) (T := TX1) (N := 9) hx hb hg inX1 hown hK hP 1 xgReader rfl 0 (by decide) (hg _ w304) (fun _ h9 => h9) rfl dX1_takeNewName_42 ?_
        refine va_getN (D := D) (ci := 9) (v := .long (L 6 11)) (fs := (xfTape ad V L Z)) (C := RX9) (T := TX9) (N := 12) hx hb hg inX9 hown hK hP 6 xgTape rfl 11 (by decide) (hnw.use 269 n269 rfl) (fun _ h9 => h9) rfl dX1_takeNewName_45 ?_
        refine va_put (D := D) (ci := 1) (v := .long (L 6 11)) (ty := tyX1 5) (fs := (xfReader ad V L Z)) (C := RX1) (T := TX1) (N := 9) hx hb hg inX1 tyX1 tyX1_ok nmX1 hown hK hP hD hS 1 xgReader rfl 5 (by decide) (hg _ w309) (fun _ h9 => h9) rfl (tyX1_ok 5 (by decide)) rfl rfl (Nat.le_of_ble_eq_true rfl) dX1_takeNewName_48 (fun H locs hP hD hS => ?_)
        obtain ⟨L25, hL25⟩ : ∃ z, z = upL L 1 5 (L 6 11) := ⟨_, rfl⟩
        have ew26 : (xw ad kk V L Z).set 1 ((ad 1), .inr (1, (xfReader ad V L Z).set 5 (.long (L 6 11)))) = xw ad kk V L25 Z := by rw [hL25]; exact xw_ss (by decide) rfl (fun j => xe_L (fun a => absurd a.1 (by decide)))
        have hP : va_P D vwCl (xw ad kk V L25 Z) H := by rw [← ew26]; exact hP
        have hD : va_D A (xw ad kk V L25 Z) := by rw [← ew26]; exact hD
        have alL25 : agL [1, 6] L L25 := agL.up alL hL25 rfl
        refine lv_aload_n hx hb dX1_takeNewName_51 rfl (lv_at hl 0 rfl) ?_
        refine va_get (D := D) (ci := 1) (v := .ref (ad 6)) (fs := (xfReader ad V L25 Z)) (C := RX1) (T := TX1) (N := 9) hx hb hg inX1 hown hK hP 1 xgReader rfl 0 (by decide) (hg _ w304) (fun _ h9 => h9) rfl dX1_takeNewName_52 ?_
        have rl27 : RelC V L25 b gT gs := RelC.ag rel (show agr [] [] V V from agr.rf) (by decide) (show agL [1] L L25 from (agL.up agL.rf hL25 rfl)) (by decide)
        have l828 := RelC.l8 rl27
        have r29 : 0 ≤ ((V 6 8)).toInt ∧ ((V 6 8)).toInt ≤ 4000 := hMV 6 8
        have r30 : 0 ≤ ((V 6 7)).toInt ∧ ((V 6 7)).toInt ≤ 4000 := hMV 6 7
        have lk31 := RelC.lk rl27 (show (V 6 9).toInt ≠ 0 from by (first | exact om_19a2929b0700 f3 | omega))
        refine gA_void (gA_runV (As := []) (rest := []) (ci := 9) (q0 := 6) hx hb hml hown hg hP hD hK hS hA hnw hgk (x_next2 l D ks H.size ad kk V L25 Z  hMV (show (V 6 8).toInt ≤ (V 6 7).toInt from by (first | exact om_f4906d00fa52 l828 | omega))) w871 w852 w853 w157 w854 rfl xgTape hdV_yX9_next ⟨Nat.le_of_ble_eq_true rfl, Nat.le_of_ble_eq_true rfl⟩ rfl hl.1 rfl (Nat.le_of_ble_eq_true rfl) dX1_takeNewName_55 ⟨Nat.le_of_ble_eq_true rfl, Nat.le_of_ble_eq_true rfl⟩) hP hD hK hS hA (fun u33 H locs w34 hP hD hK hS => ?_)
        obtain ⟨V37, L38⟩ := u33
        obtain ⟨hMV37, ajV37, axL38, t35, t36⟩ := w34
        have alL38 : agL [1, 6] L L38 := agL.tr alL25 axL38 (by decide)
        have hP : va_P D vwCl (xw ad kk V37 L38 Z) H := hP
        have hD : va_D A (xw ad kk V37 L38 Z) := hD
        have hMV37 : rgd bX V37 := hMV37
        have ajV37 : agr [(6, 8), (6, 9), (6, 10)] [] V V37 := ajV37
        have agV37 : agr [(1, 3), (6, 8), (6, 9), (6, 10)] [] V V37 := agV.tr ajV37 (by decide) (by decide)
        have t35 : (V37 6 8).toInt ≤ (V37 6 7).toInt := t35
        have t36 : CUR V37 L38 (Int32.toNatClampNeg (V 6 8)) := t36
        have r39 : 0 ≤ ((V37 6 8)).toInt ∧ ((V37 6 8)).toInt ≤ 4000 := hMV37 6 8
        have pq40 : (V37 6 7).toInt = ((V 6 7)).toInt := congrArg Int32.toInt (ajV37 6 7 rfl)
        have rl41 : RelC V37 L38 b gT (nx gs 1) := RelC.nx1 rl27 ajV37 (by decide) axL38 (by decide) (by rw [← lk31]; exact t36) (ajV37 1 3 rfl)
        refine lv_iconst (v := 1) hx hb dX1_takeNewName_58 (by decide) ?_
        exact W.zret (v := 1) hx hb hr rfl (fun t ht hW => ⟨⟨1, (V37, L38), rfl, ⟨hMV37, agV37, alL38, (by decide), (Or.inl ⟨rfl, gT.2.1 (gs.1 0), fun kk => newN_y (kd4.trans f3) (by rw [(RelC.vl rel), h10]; decide) kk, rl41, ((axL38 1 5 rfl).trans (upL_s hL25)).trans (RelC.vl rel).symm⟩)⟩, by rw [ht]; exact hP, va_K.moved hW.alike hK, hD⟩, hS.F ht⟩) hS.2.2 dX1_takeNewName_59
      · skip
        have f42 : z5.toInt ≠ 0 := b_neq rfl (by decide) c23
        exfalso; (first | exact om_fb320d7600b7 rgz5.1 q9 f42 | omega)
  · skip
    have f43 : ((V 6 9)).toInt ≠ 3 := b_neq rfl (by decide) c2
    refine lv_aload_n hx hb dX1_takeNewName_11 rfl (lv_at hl 0 rfl) ?_
    refine lv_iconst (v := 1) hx hb dX1_takeNewName_12 (by decide) ?_
    have kd44 : gT.1 (gs.1 0) = ((V 6 9)).toInt := RelC.kd rel
    have r45 : Int32.toInt 1 = 1 := by decide
    refine gA_int (gA_runV (As := [.int 1]) (rest := []) (ci := 1) (q0 := 1) hx hb hml hown hg hP hD hK hS hA hnw hgk (x_wrong2 l D ks H.size ad kk V L Z 1 hMV (by decide)) w867 w869 w6 w162 w870 rfl xgReader hdV_yX1_wrong ⟨Nat.le_of_ble_eq_true rfl, Nat.le_of_ble_eq_true rfl⟩ rfl hl.1 rfl (Nat.le_of_ble_eq_true rfl) dX1_takeNewName_13 ⟨Nat.le_of_ble_eq_true rfl, Nat.le_of_ble_eq_true rfl⟩) hP hD hK hS hA (fun z46 u47 H locs w48 hP hD hK hS => ?_)
    obtain ⟨V51, L52⟩ := u47
    obtain ⟨hMV51, ajV51, axL52, rgz46, t49, t50⟩ := w48
    have axL52 : L = L52 := Eq.symm axL52
    subst axL52
    have hP : va_P D vwCl (xw ad kk V51 L Z) H := hP
    have hD : va_D A (xw ad kk V51 L Z) := hD
    have hMV51 : rgd bX V51 := hMV51
    have ajV51 : agr [(1, 3)] [] V V51 := ajV51
    have agV51 : agr [(1, 3), (6, 8), (6, 9), (6, 10)] [] V V51 := agV.tr ajV51 (by decide) (by decide)
    have rgz46 : 0 ≤ z46.toInt ∧ z46.toInt ≤ 0 := rgz46
    have t49 : 1 ≤ (V51 1 3).toInt := t49
    have t50 : (V51 1 3).toInt = (Int32.toInt 1) + 16 * (V 6 10).toInt := t50
    have r53 : 0 ≤ ((V 6 10)).toInt ∧ ((V 6 10)).toInt ≤ 4000 := hMV 6 10
    exact W.zret (v := z46) hx hb hr (nb_ok (by omega)) (fun t ht hW => ⟨⟨z46, (V51, L), rfl, ⟨hMV51, agV51, alL, (show 0 ≤ z46.toInt ∧ z46.toInt ≤ 1 from by (first | exact om_641b3f05f166 rgz46.1 rgz46.2 | omega)), (Or.inr ⟨(by omega), fun kk => (newN_1 (fun h9 => f43 (kd44.symm.trans h9)) kk).trans (fl_eq (RelC.st rel) (show (V51 1 3).toInt = 1 + 16 * (V 6 10).toInt from by (first | exact om_f884d2586d25 r45 t50 | omega)))⟩)⟩, by rw [ht]; exact hP, va_K.moved hW.alike hK, hD⟩, hS.F ht⟩) hS.2.2 dX1_takeNewName_16
abbrev r_x_isToldType3 : Room := { frames := 1, cells := 0, slots := 0, locals := 23 }
abbrev q_x_isToldType3 (D : va_G) (ks : KS) (ad : Nat → Nat) (kk : Nat → ClassId) (V : Vf) (L : Lf) (Z : XZ) (b : Nat) (gT : Tk) (gs : St) (A : Nat → Prop) : Array Value → State → Outcome → State → Prop := va_Qi (fun (r : Int32) (u : Vf × Lf) => rgd bX u.1 ∧ agr [(1, 3), (1, 6)] [] V u.1 ∧ u.2 = L ∧ (0 ≤ r.toInt ∧ r.toInt ≤ 1) ∧ (KcN (look gT gs (gs.2.1 0)) r.toInt (u.1 1 3).toInt (fun f9 => RelC u.1 u.2 b gT gs ∧ (u.1 1 6).toInt = ((f9 : Nat) : Int) ∧ f9 < 24))) (fun u t => gq D A (xw ad kk u.1 u.2 Z) (xty kk Z) t) A
set_option maxHeartbeats 4000000 in
set_option maxRecDepth 100000 in
theorem x_isToldType3 (l : Launch) (D : va_G) (ks : KS) (sz : Nat) (ad : Nat → Nat) (kk : Nat → ClassId) (V : Vf) (L : Lf) (Z : XZ) (b : Nat) (gT : Tk) (gs : St) (hMV : rgd bX V) (hb2 : b < 2) (rbk : (V 1 1).toInt = (b : Int)) (rel : RelC V L b gT gs)  : Met l yX1_isToldType (Cond.code yX1_isToldType cX1_isToldType 1 (some .boolean) :: GW) r_x_isToldType3 (va_Pc [.ref (ad 1)] (gp D ks (xw ad kk V L Z) (xty kk Z) sz)) (q_x_isToldType3 D ks ad kk V L Z  b gT gs (va_A (xw ad kk V L Z) sz)) 0 0 (va_A (xw ad kk V L Z) sz) := by
  refine g_met (q_x_isToldType3 D ks ad kk V L Z  b gT gs) (by decide) (Nat.le_of_ble_eq_true rfl) ?_
  intro p e s m below meth c A ls H locs hx hb hr hml hown hg hlocks hin hnw hgk hP hK hD hS hA hl
  have hown : s.vm.findClass RX1 = some m.cls := hown
  have hl : lv_has ls 1 [(0, .ref (ad 1))] := hl
  have hP : va_P D vwCl (xw ad kk V L Z) H := hP
  have hD : va_D A (xw ad kk V L Z) := hD
  have hK : va_K D vwCl (xty kk Z) s := hK
  have agV : agr [(1, 3), (1, 6)] [] V V := agr.rf
  have r1 : (-1) ≤ ((V 1 1)).toInt ∧ ((V 1 1)).toInt ≤ 1 := hMV 1 1
  refine lv_aload_n hx hb dX1_isToldType_0 rfl (lv_at hl 0 rfl) ?_
  refine va_get (D := D) (ci := 1) (v := .ref (ad 6)) (fs := (xfReader ad V L Z)) (C := RX1) (T := TX1) (N := 9) hx hb hg inX1 hown hK hP 1 xgReader rfl 0 (by decide) (hg _ w304) (fun _ h9 => h9) rfl dX1_isToldType_1 ?_
  refine va_getN (D := D) (ci := 9) (v := .int (V 6 9)) (fs := (xfTape ad V L Z)) (C := RX9) (T := TX9) (N := 12) hx hb hg inX9 hown hK hP 6 xgTape rfl 9 (by decide) (hnw.use 262 n262 rfl) (fun _ h9 => h9) rfl dX1_isToldType_4 ?_
  refine lv_iconst (v := 3) hx hb dX1_isToldType_7 (by decide) ?_
  refine lv_icmp_eq (tgt := 17) hx hb dX1_isToldType_8 (by decide) (fun c2 => ?_) (fun c2 => ?_)
  · skip
    have f3 : ((V 6 9)).toInt = 3 := b_eq rfl (by decide) c2
    have kd4 : gT.1 (gs.1 0) = ((V 6 9)).toInt := RelC.kd rel
    refine lv_aload_n hx hb dX1_isToldType_17 rfl (lv_at hl 0 rfl) ?_
    refine lv_aload_n hx hb dX1_isToldType_18 rfl (lv_at hl 0 rfl) ?_
    refine va_get (D := D) (ci := 1) (v := rfN ad 38 (V 1 1)) (fs := (xfReader ad V L Z)) (C := RX1) (T := TX1) (N := 9) hx hb hg inX1 hown hK hP 1 xgReader rfl 1 (by decide) (hg _ w305) (fun _ h9 => h9) rfl dX1_isToldType_19 ?_
    refine g_topv (v := .ref (ad (38 + b))) (rfN_r (by omega)) ?_
    refine va_getN (D := D) (ci := 0) (v := .ref (ad (40 + (5 * b + 0)))) (fs := (xfBook ad V b)) (C := RX0) (T := TX0) (N := 13) hx hb hg inX0 hown hK hP (38 + b) (xgBook hb2) rfl 0 (by decide) (hnw.use 594 n594 rfl) (fun _ h9 => h9) rfl dX1_isToldType_22 ?_
    refine lv_aload_n hx hb dX1_isToldType_25 rfl (lv_at hl 0 rfl) ?_
    refine va_get (D := D) (ci := 1) (v := .ref (ad 6)) (fs := (xfReader ad V L Z)) (C := RX1) (T := TX1) (N := 9) hx hb hg inX1 hown hK hP 1 xgReader rfl 0 (by decide) (hg _ w304) (fun _ h9 => h9) rfl dX1_isToldType_26 ?_
    refine va_getN (D := D) (ci := 9) (v := .long (L 6 11)) (fs := (xfTape ad V L Z)) (C := RX9) (T := TX9) (N := 12) hx hb hg inX9 hown hK hP 6 xgTape rfl 11 (by decide) (hnw.use 269 n269 rfl) (fun _ h9 => h9) rfl dX1_isToldType_29 ?_
    have il5 : (5 * b + 0) < 10 := by (first | exact om_99c4753a5d76 hb2 | omega)
    refine gA_int (gA_runV (As := [.long (L 6 11)]) (rest := [.ref (ad 1)]) (ci := 6) (q0 := (40 + (5 * b + 0))) hx hb hml hown hg hP hD hK hS hA hnw hgk (x_find2 l D ks H.size ad kk V L Z (L 6 11) ((5 * b + 0)) hMV (show (5 * b + 0) < 10 from by (first | exact om_99c4753a5d76 hb2 | omega))) w892 w881 w882 w168 w883 rfl (xgNames il5) hdV_yX6_find ⟨Nat.le_of_ble_eq_true rfl, Nat.le_of_ble_eq_true rfl⟩ rfl hl.1 rfl (Nat.le_of_ble_eq_true rfl) dX1_isToldType_32 ⟨Nat.le_of_ble_eq_true rfl, Nat.le_of_ble_eq_true rfl⟩) hP hD hK hS hA (fun z6 u7 H locs w8 hP hD hK hS => ?_)
    obtain ⟨rgz6, t9, t10⟩ := w8
    have rgz6 : (-1) ≤ z6.toInt ∧ z6.toInt ≤ 23 := rgz6
    have t9 : z6.toInt < (V 43 (5 * b + 0)).toInt := t9
    have t10 : NF (fun i => L 44 (24 * (5 * b + 0) + i)) (V 43 (5 * b + 0)).toInt (L 6 11) z6.toInt := t10
    refine va_put (D := D) (ci := 1) (v := .int z6) (ty := tyX1 6) (fs := (xfReader ad V L Z)) (C := RX1) (T := TX1) (N := 9) hx hb hg inX1 tyX1 tyX1_ok nmX1 hown hK hP hD hS 1 xgReader rfl 6 (by decide) (hg _ w310) (fun _ h9 => h9) rfl (tyX1_ok 6 (by decide)) rfl rfl (Nat.le_of_ble_eq_true rfl) dX1_isToldType_35 (fun H locs hP hD hS => ?_)
    obtain ⟨V11, hV11⟩ : ∃ z, z = up2 V 1 6 z6 := ⟨_, rfl⟩
    have ew12 : (xw ad kk V L Z).set 1 ((ad 1), .inr (1, (xfReader ad V L Z).set 6 (.int z6))) = xw ad kk V11 L Z := by rw [hV11]; exact xw_ss (by decide) rfl (xb_si (by decide))
    have hP : va_P D vwCl (xw ad kk V11 L Z) H := by rw [← ew12]; exact hP
    have hD : va_D A (xw ad kk V11 L Z) := by rw [← ew12]; exact hD
    have hMV11 : rgd bX V11 := hMV.put hV11 (show (-1) ≤ z6.toInt ∧ z6.toInt ≤ 23 from by (first | exact om_b5ea211f5a81 rgz6.1 rgz6.2 | omega))
    have agV11 : agr [(1, 3), (1, 6)] [] V V11 := agV.up hV11 rfl
    refine lv_aload_n hx hb dX1_isToldType_38 rfl (lv_at hl 0 rfl) ?_
    refine va_get (D := D) (ci := 1) (v := .int (V11 1 6)) (fs := (xfReader ad V11 L Z)) (C := RX1) (T := TX1) (N := 9) hx hb hg inX1 hown hK hP 1 xgReader rfl 6 (by decide) (hg _ w310) (fun _ h9 => h9) rfl dX1_isToldType_39 ?_
    refine g_top (v := z6) (up2_s hV11) ?_
    refine lv_iconst (v := (-1)) hx hb dX1_isToldType_42 (by decide) ?_
    refine lv_icmp_ne (tgt := 54) hx hb dX1_isToldType_43 (by decide) (fun c13 => ?_) (fun c13 => ?_)
    · skip
      have f14 : z6.toInt ≠ (-1) := b_neq rfl (by decide) c13
      refine lv_iconst (v := 1) hx hb dX1_isToldType_54 (by decide) ?_
      refine lv_goto (tgt := 59) hx hb dX1_isToldType_55 (by decide) ?_
      have pq15 : (V11 1 6).toInt = z6.toInt := congrArg Int32.toInt (up2_s hV11)
      have rl16 : RelC V11 L b gT gs := RelC.ag rel (show agr [(1, 6)] [] V V11 from (agr.up agr.rf hV11 rfl)) (by decide) (show agL [] L L from agL.rf) (by decide)
      exact W.zret (v := 1) hx hb hr rfl (fun t ht hW => ⟨⟨1, (V11, L), rfl, ⟨hMV11, agV11, rfl, (by decide), (Or.inl ⟨rfl, z6.toInt.toNat, fun kk => look_y (kd4.trans f3) (by rw [(RelC.vl rel)]; exact fnd_y rel.2.2.1 t10 (by decide) (by omega)) kk, rl16, (show (V11 1 6).toInt = ((z6.toInt.toNat : Nat) : Int) from by (first | exact om_9c959d5ccbf0 rgz6.1 f14 pq15 | omega)), (by omega)⟩)⟩, by rw [ht]; exact hP, va_K.moved hW.alike hK, hD⟩, hS.F ht⟩) hS.2.2 dX1_isToldType_59
    · skip
      have f17 : z6.toInt = (-1) := b_eq rfl (by decide) c13
      refine lv_aload_n hx hb dX1_isToldType_46 rfl (lv_at hl 0 rfl) ?_
      refine lv_iconst (v := 2) hx hb dX1_isToldType_47 (by decide) ?_
      have rl18 : RelC V11 L b gT gs := RelC.ag rel (show agr [(1, 6)] [] V V11 from (agr.up agr.rf hV11 rfl)) (by decide) (show agL [] L L from agL.rf) (by decide)
      have r19 : Int32.toInt 2 = 2 := by decide
      refine gA_int (gA_runV (As := [.int 2]) (rest := []) (ci := 1) (q0 := 1) hx hb hml hown hg hP hD hK hS hA hnw hgk (x_wrong2 l D ks H.size ad kk V11 L Z 2 hMV11 (by decide)) w867 w869 w6 w162 w870 rfl xgReader hdV_yX1_wrong ⟨Nat.le_of_ble_eq_true rfl, Nat.le_of_ble_eq_true rfl⟩ rfl hl.1 rfl (Nat.le_of_ble_eq_true rfl) dX1_isToldType_48 ⟨Nat.le_of_ble_eq_true rfl, Nat.le_of_ble_eq_true rfl⟩) hP hD hK hS hA (fun z20 u21 H locs w22 hP hD hK hS => ?_)
      obtain ⟨V25, L26⟩ := u21
      obtain ⟨hMV25, ajV25, axL26, rgz20, t23, t24⟩ := w22
      have axL26 : L = L26 := Eq.symm axL26
      subst axL26
      have hP : va_P D vwCl (xw ad kk V25 L Z) H := hP
      have hD : va_D A (xw ad kk V25 L Z) := hD
      have hMV25 : rgd bX V25 := hMV25
      have ajV25 : agr [(1, 3)] [] V11 V25 := ajV25
      have agV25 : agr [(1, 3), (1, 6)] [] V V25 := agV11.tr ajV25 (by decide) (by decide)
      have rgz20 : 0 ≤ z20.toInt ∧ z20.toInt ≤ 0 := rgz20
      have t23 : 1 ≤ (V25 1 3).toInt := t23
      have t24 : (V25 1 3).toInt = (Int32.toInt 2) + 16 * (V11 6 10).toInt := t24
      have pq27 : (V11 6 10).toInt = ((V 6 10)).toInt := congrArg Int32.toInt (up2_o hV11 (by decide))
      have r28 : 0 ≤ ((V 6 10)).toInt ∧ ((V 6 10)).toInt ≤ 4000 := hMV 6 10
      refine lv_if_eq (tgt := 58) hx hb dX1_isToldType_51 (by decide) (fun c29 => ?_) (fun c29 => ?_)
      · skip
        have f30 : z20.toInt = 0 := b_eq rfl (by decide) c29
        refine lv_iconst (v := 0) hx hb dX1_isToldType_58 (by decide) ?_
        exact W.zret (v := 0) hx hb hr rfl (fun t ht hW => ⟨⟨0, (V25, L), rfl, ⟨hMV25, agV25, rfl, (by decide), (Or.inr ⟨rfl, fun kk => (look_2 (kd4.trans f3) (by rw [(RelC.vl rel)]; exact fnd_n rel.2.2.1 t10 (by decide) (by omega)) kk).trans (fl_eq (RelC.st rl18) (show (V25 1 3).toInt = 2 + 16 * (V11 6 10).toInt from by (first | exact om_b40e2b615867 r19 t24 | omega)))⟩)⟩, by rw [ht]; exact hP, va_K.moved hW.alike hK, hD⟩, hS.F ht⟩) hS.2.2 dX1_isToldType_59
      · skip
        have f31 : z20.toInt ≠ 0 := b_neq rfl (by decide) c29
        exfalso; (first | exact om_0e608cc4b4f6 rgz20.1 rgz20.2 f31 | omega)
  · skip
    have f32 : ((V 6 9)).toInt ≠ 3 := b_neq rfl (by decide) c2
    refine lv_aload_n hx hb dX1_isToldType_11 rfl (lv_at hl 0 rfl) ?_
    refine lv_iconst (v := 1) hx hb dX1_isToldType_12 (by decide) ?_
    have kd33 : gT.1 (gs.1 0) = ((V 6 9)).toInt := RelC.kd rel
    have r34 : Int32.toInt 1 = 1 := by decide
    refine gA_int (gA_runV (As := [.int 1]) (rest := []) (ci := 1) (q0 := 1) hx hb hml hown hg hP hD hK hS hA hnw hgk (x_wrong2 l D ks H.size ad kk V L Z 1 hMV (by decide)) w867 w869 w6 w162 w870 rfl xgReader hdV_yX1_wrong ⟨Nat.le_of_ble_eq_true rfl, Nat.le_of_ble_eq_true rfl⟩ rfl hl.1 rfl (Nat.le_of_ble_eq_true rfl) dX1_isToldType_13 ⟨Nat.le_of_ble_eq_true rfl, Nat.le_of_ble_eq_true rfl⟩) hP hD hK hS hA (fun z35 u36 H locs w37 hP hD hK hS => ?_)
    obtain ⟨V40, L41⟩ := u36
    obtain ⟨hMV40, ajV40, axL41, rgz35, t38, t39⟩ := w37
    have axL41 : L = L41 := Eq.symm axL41
    subst axL41
    have hP : va_P D vwCl (xw ad kk V40 L Z) H := hP
    have hD : va_D A (xw ad kk V40 L Z) := hD
    have hMV40 : rgd bX V40 := hMV40
    have ajV40 : agr [(1, 3)] [] V V40 := ajV40
    have agV40 : agr [(1, 3), (1, 6)] [] V V40 := agV.tr ajV40 (by decide) (by decide)
    have rgz35 : 0 ≤ z35.toInt ∧ z35.toInt ≤ 0 := rgz35
    have t38 : 1 ≤ (V40 1 3).toInt := t38
    have t39 : (V40 1 3).toInt = (Int32.toInt 1) + 16 * (V 6 10).toInt := t39
    have r42 : 0 ≤ ((V 6 10)).toInt ∧ ((V 6 10)).toInt ≤ 4000 := hMV 6 10
    exact W.zret (v := z35) hx hb hr (nb_ok (by omega)) (fun t ht hW => ⟨⟨z35, (V40, L), rfl, ⟨hMV40, agV40, rfl, (show 0 ≤ z35.toInt ∧ z35.toInt ≤ 1 from by (first | exact om_641b3f05f166 rgz35.1 rgz35.2 | omega)), (Or.inr ⟨(by omega), fun kk => (look_1 (fun h9 => f32 (kd33.symm.trans h9)) kk).trans (fl_eq (RelC.st rel) (show (V40 1 3).toInt = 1 + 16 * (V 6 10).toInt from by (first | exact om_f884d2586d25 r34 t39 | omega)))⟩)⟩, by rw [ht]; exact hP, va_K.moved hW.alike hK, hD⟩, hS.F ht⟩) hS.2.2 dX1_isToldType_16
abbrev r_x_takeSetting3 : Room := { frames := 1, cells := 0, slots := 0, locals := 23 }
abbrev q_x_takeSetting3 (D : va_G) (ks : KS) (ad : Nat → Nat) (kk : Nat → ClassId) (V : Vf) (L : Lf) (Z : XZ) (b : Nat) (gT : Tk) (gs : St) (A : Nat → Prop) : Array Value → State → Outcome → State → Prop := va_Qi (fun (r : Int32) (u : Vf × Lf) => rgd bX u.1 ∧ agr [(1, 3), (1, 6), (6, 8), (6, 9), (6, 10)] [] V u.1 ∧ agL [6] L u.2 ∧ (0 ≤ r.toInt ∧ r.toInt ≤ 1) ∧ (KcN (look gT gs (gs.2.1 1)) r.toInt (u.1 1 3).toInt (fun f9 => RelC u.1 u.2 b gT (nx gs 1) ∧ (u.1 1 6).toInt = ((f9 : Nat) : Int) ∧ f9 < 12))) (fun u t => gq D A (xw ad kk u.1 u.2 Z) (xty kk Z) t) A
set_option maxHeartbeats 4000000 in
set_option maxRecDepth 100000 in
theorem x_takeSetting3 (l : Launch) (D : va_G) (ks : KS) (sz : Nat) (ad : Nat → Nat) (kk : Nat → ClassId) (V : Vf) (L : Lf) (Z : XZ) (b : Nat) (gT : Tk) (gs : St) (hMV : rgd bX V) (hb2 : b < 2) (rbk : (V 1 1).toInt = (b : Int)) (rel : RelC V L b gT gs)  : Met l yX1_takeSetting (Cond.code yX1_takeSetting cX1_takeSetting 1 (some .boolean) :: GW) r_x_takeSetting3 (va_Pc [.ref (ad 1)] (gp D ks (xw ad kk V L Z) (xty kk Z) sz)) (q_x_takeSetting3 D ks ad kk V L Z  b gT gs (va_A (xw ad kk V L Z) sz)) 0 0 (va_A (xw ad kk V L Z) sz) := by
  refine g_met (q_x_takeSetting3 D ks ad kk V L Z  b gT gs) (by decide) (Nat.le_of_ble_eq_true rfl) ?_
  intro p e s m below meth c A ls H locs hx hb hr hml hown hg hlocks hin hnw hgk hP hK hD hS hA hl
  have hown : s.vm.findClass RX1 = some m.cls := hown
  have hl : lv_has ls 1 [(0, .ref (ad 1))] := hl
  have hP : va_P D vwCl (xw ad kk V L Z) H := hP
  have hD : va_D A (xw ad kk V L Z) := hD
  have hK : va_K D vwCl (xty kk Z) s := hK
  have agV : agr [(1, 3), (1, 6), (6, 8), (6, 9), (6, 10)] [] V V := agr.rf
  have alL : agL [6] L L := agL.rf
  have r1 : (-1) ≤ ((V 1 1)).toInt ∧ ((V 1 1)).toInt ≤ 1 := hMV 1 1
  refine lv_aload_n hx hb dX1_takeSetting_0 rfl (lv_at hl 0 rfl) ?_
  refine va_get (D := D) (ci := 1) (v := .ref (ad 6)) (fs := (xfReader ad V L Z)) (C := RX1) (T := TX1) (N := 9) hx hb hg inX1 hown hK hP 1 xgReader rfl 0 (by decide) (hg _ w304) (fun _ h9 => h9) rfl dX1_takeSetting_1 ?_
  refine va_getN (D := D) (ci := 9) (v := .int (V 6 9)) (fs := (xfTape ad V L Z)) (C := RX9) (T := TX9) (N := 12) hx hb hg inX9 hown hK hP 6 xgTape rfl 9 (by decide) (hnw.use 262 n262 rfl) (fun _ h9 => h9) rfl dX1_takeSetting_4 ?_
  refine lv_iconst (v := 3) hx hb dX1_takeSetting_7 (by decide) ?_
  refine lv_icmp_eq (tgt := 17) hx hb dX1_takeSetting_8 (by decide) (fun c2 => ?_) (fun c2 => ?_)
  · skip
    have f3 : ((V 6 9)).toInt = 3 := b_eq rfl (by decide) c2
    have kd4 : gT.1 (gs.1 0) = ((V 6 9)).toInt := RelC.kd rel
    refine lv_aload_n hx hb dX1_takeSetting_17 rfl (lv_at hl 0 rfl) ?_
    refine lv_aload_n hx hb dX1_takeSetting_18 rfl (lv_at hl 0 rfl) ?_
    refine va_get (D := D) (ci := 1) (v := rfN ad 38 (V 1 1)) (fs := (xfReader ad V L Z)) (C := RX1) (T := TX1) (N := 9) hx hb hg inX1 hown hK hP 1 xgReader rfl 1 (by decide) (hg _ w305) (fun _ h9 => h9) rfl dX1_takeSetting_19 ?_
    refine g_topv (v := .ref (ad (38 + b))) (rfN_r (by omega)) ?_
    refine va_getN (D := D) (ci := 0) (v := .ref (ad (40 + (5 * b + 1)))) (fs := (xfBook ad V b)) (C := RX0) (T := TX0) (N := 13) hx hb hg inX0 hown hK hP (38 + b) (xgBook hb2) rfl 1 (by decide) (hnw.use 597 n597 rfl) (fun _ h9 => h9) rfl dX1_takeSetting_22 ?_
    refine lv_aload_n hx hb dX1_takeSetting_25 rfl (lv_at hl 0 rfl) ?_
    refine va_get (D := D) (ci := 1) (v := .ref (ad 6)) (fs := (xfReader ad V L Z)) (C := RX1) (T := TX1) (N := 9) hx hb hg inX1 hown hK hP 1 xgReader rfl 0 (by decide) (hg _ w304) (fun _ h9 => h9) rfl dX1_takeSetting_26 ?_
    refine va_getN (D := D) (ci := 9) (v := .long (L 6 11)) (fs := (xfTape ad V L Z)) (C := RX9) (T := TX9) (N := 12) hx hb hg inX9 hown hK hP 6 xgTape rfl 11 (by decide) (hnw.use 269 n269 rfl) (fun _ h9 => h9) rfl dX1_takeSetting_29 ?_
    have il5 : (5 * b + 1) < 10 := by (first | exact om_3891d7acfde9 hb2 | omega)
    refine gA_int (gA_runV (As := [.long (L 6 11)]) (rest := [.ref (ad 1)]) (ci := 6) (q0 := (40 + (5 * b + 1))) hx hb hml hown hg hP hD hK hS hA hnw hgk (x_find2 l D ks H.size ad kk V L Z (L 6 11) ((5 * b + 1)) hMV (show (5 * b + 1) < 10 from by (first | exact om_3891d7acfde9 hb2 | omega))) w892 w881 w882 w168 w883 rfl (xgNames il5) hdV_yX6_find ⟨Nat.le_of_ble_eq_true rfl, Nat.le_of_ble_eq_true rfl⟩ rfl hl.1 rfl (Nat.le_of_ble_eq_true rfl) dX1_takeSetting_32 ⟨Nat.le_of_ble_eq_true rfl, Nat.le_of_ble_eq_true rfl⟩) hP hD hK hS hA (fun z6 u7 H locs w8 hP hD hK hS => ?_)
    obtain ⟨rgz6, t9, t10⟩ := w8
    have rgz6 : (-1) ≤ z6.toInt ∧ z6.toInt ≤ 23 := rgz6
    have t9 : z6.toInt < (V 43 (5 * b + 1)).toInt := t9
    have t10 : NF (fun i => L 44 (24 * (5 * b + 1) + i)) (V 43 (5 * b + 1)).toInt (L 6 11) z6.toInt := t10
    have r11 : 0 ≤ ((V 43 (5 * b + 1))).toInt ∧ ((V 43 (5 * b + 1))).toInt ≤ ((xcap (5 * b + 1) : Nat) : Int) := hMV 43 (5 * b + 1)
    have r12 : xcap (5 * b + 1) = 12 := xcap_1
    refine va_put (D := D) (ci := 1) (v := .int z6) (ty := tyX1 6) (fs := (xfReader ad V L Z)) (C := RX1) (T := TX1) (N := 9) hx hb hg inX1 tyX1 tyX1_ok nmX1 hown hK hP hD hS 1 xgReader rfl 6 (by decide) (hg _ w310) (fun _ h9 => h9) rfl (tyX1_ok 6 (by decide)) rfl rfl (Nat.le_of_ble_eq_true rfl) dX1_takeSetting_35 (fun H locs hP hD hS => ?_)
    obtain ⟨V13, hV13⟩ : ∃ z, z = up2 V 1 6 z6 := ⟨_, rfl⟩
    have ew14 : (xw ad kk V L Z).set 1 ((ad 1), .inr (1, (xfReader ad V L Z).set 6 (.int z6))) = xw ad kk V13 L Z := by rw [hV13]; exact xw_ss (by decide) rfl (xb_si (by decide))
    have hP : va_P D vwCl (xw ad kk V13 L Z) H := by rw [← ew14]; exact hP
    have hD : va_D A (xw ad kk V13 L Z) := by rw [← ew14]; exact hD
    have hMV13 : rgd bX V13 := hMV.put hV13 (show (-1) ≤ z6.toInt ∧ z6.toInt ≤ 23 from by (first | exact om_764b853ca1c3 rgz6.1 t9 r11.2 r12 | omega))
    have agV13 : agr [(1, 3), (1, 6), (6, 8), (6, 9), (6, 10)] [] V V13 := agV.up hV13 rfl
    refine lv_aload_n hx hb dX1_takeSetting_38 rfl (lv_at hl 0 rfl) ?_
    refine va_get (D := D) (ci := 1) (v := .int (V13 1 6)) (fs := (xfReader ad V13 L Z)) (C := RX1) (T := TX1) (N := 9) hx hb hg inX1 hown hK hP 1 xgReader rfl 6 (by decide) (hg _ w310) (fun _ h9 => h9) rfl dX1_takeSetting_39 ?_
    refine g_top (v := z6) (up2_s hV13) ?_
    refine lv_iconst (v := (-1)) hx hb dX1_takeSetting_42 (by decide) ?_
    refine lv_icmp_ne (tgt := 52) hx hb dX1_takeSetting_43 (by decide) (fun c15 => ?_) (fun c15 => ?_)
    · skip
      have f16 : z6.toInt ≠ (-1) := b_neq rfl (by decide) c15
      refine lv_aload_n hx hb dX1_takeSetting_52 rfl (lv_at hl 0 rfl) ?_
      refine va_get (D := D) (ci := 1) (v := .ref (ad 6)) (fs := (xfReader ad V13 L Z)) (C := RX1) (T := TX1) (N := 9) hx hb hg inX1 hown hK hP 1 xgReader rfl 0 (by decide) (hg _ w304) (fun _ h9 => h9) rfl dX1_takeSetting_53 ?_
      have rl17 : RelC V13 L b gT gs := RelC.ag rel (show agr [(1, 6)] [] V V13 from (agr.up agr.rf hV13 rfl)) (by decide) (show agL [] L L from agL.rf) (by decide)
      have l818 := RelC.l8 rl17
      have pq19 : (V13 6 8).toInt = ((V 6 8)).toInt := congrArg Int32.toInt (up2_o hV13 (by decide))
      have r20 : 0 ≤ ((V 6 8)).toInt ∧ ((V 6 8)).toInt ≤ 4000 := hMV 6 8
      have pq21 : (V13 6 7).toInt = ((V 6 7)).toInt := congrArg Int32.toInt (up2_o hV13 (by decide))
      have r22 : 0 ≤ ((V 6 7)).toInt ∧ ((V 6 7)).toInt ≤ 4000 := hMV 6 7
      have pq23 : (V13 6 9).toInt = ((V 6 9)).toInt := congrArg Int32.toInt (up2_o hV13 (by decide))
      have lk24 := RelC.lk rl17 (show (V13 6 9).toInt ≠ 0 from by (first | exact om_bdb438930895 f3 pq23 | omega))
      refine gA_void (gA_runV (As := []) (rest := []) (ci := 9) (q0 := 6) hx hb hml hown hg hP hD hK hS hA hnw hgk (x_next2 l D ks H.size ad kk V13 L Z  hMV13 (show (V13 6 8).toInt ≤ (V13 6 7).toInt from by (first | exact om_f4906d00fa52 l818 | omega))) w871 w852 w853 w157 w854 rfl xgTape hdV_yX9_next ⟨Nat.le_of_ble_eq_true rfl, Nat.le_of_ble_eq_true rfl⟩ rfl hl.1 rfl (Nat.le_of_ble_eq_true rfl) dX1_takeSetting_56 ⟨Nat.le_of_ble_eq_true rfl, Nat.le_of_ble_eq_true rfl⟩) hP hD hK hS hA (fun u26 H locs w27 hP hD hK hS => ?_)
      obtain ⟨V30, L31⟩ := u26
      obtain ⟨hMV30, ajV30, axL31, t28, t29⟩ := w27
      have alL31 : agL [6] L L31 := agL.tr alL axL31 (by decide)
      have hP : va_P D vwCl (xw ad kk V30 L31 Z) H := hP
      have hD : va_D A (xw ad kk V30 L31 Z) := hD
      have hMV30 : rgd bX V30 := hMV30
      have ajV30 : agr [(6, 8), (6, 9), (6, 10)] [] V13 V30 := ajV30
      have agV30 : agr [(1, 3), (1, 6), (6, 8), (6, 9), (6, 10)] [] V V30 := agV13.tr ajV30 (by decide) (by decide)
      have t28 : (V30 6 8).toInt ≤ (V30 6 7).toInt := t28
      have t29 : CUR V30 L31 (Int32.toNatClampNeg (V13 6 8)) := t29
      have r32 : 0 ≤ ((V30 6 8)).toInt ∧ ((V30 6 8)).toInt ≤ 4000 := hMV30 6 8
      have pq33 : (V30 6 7).toInt = ((V 6 7)).toInt := congrArg Int32.toInt ((ajV30 6 7 rfl).trans (up2_o hV13 (by decide)))
      have rl34 : RelC V30 L31 b gT (nx gs 1) := RelC.nx1 rl17 ajV30 (by decide) axL31 (by decide) (by rw [← lk24]; exact t29) (ajV30 1 3 rfl)
      refine lv_iconst (v := 1) hx hb dX1_takeSetting_59 (by decide) ?_
      have pq35 : (V30 1 6).toInt = z6.toInt := congrArg Int32.toInt ((ajV30 1 6 rfl).trans (up2_s hV13))
      exact W.zret (v := 1) hx hb hr rfl (fun t ht hW => ⟨⟨1, (V30, L31), rfl, ⟨hMV30, agV30, alL31, (by decide), (Or.inl ⟨rfl, z6.toInt.toNat, fun kk => look_y (kd4.trans f3) (by rw [(RelC.vl rel)]; exact fnd_y rel.2.2.1 t10 (by decide) (by omega)) kk, rl34, (show (V30 1 6).toInt = ((z6.toInt.toNat : Nat) : Int) from by (first | exact om_9c959d5ccbf0 rgz6.1 f16 pq35 | omega)), (by omega)⟩)⟩, by rw [ht]; exact hP, va_K.moved hW.alike hK, hD⟩, hS.F ht⟩) hS.2.2 dX1_takeSetting_60
    · skip
      have f36 : z6.toInt = (-1) := b_eq rfl (by decide) c15
      refine lv_aload_n hx hb dX1_takeSetting_46 rfl (lv_at hl 0 rfl) ?_
      refine lv_iconst (v := 2) hx hb dX1_takeSetting_47 (by decide) ?_
      have rl37 : RelC V13 L b gT gs := RelC.ag rel (show agr [(1, 6)] [] V V13 from (agr.up agr.rf hV13 rfl)) (by decide) (show agL [] L L from agL.rf) (by decide)
      have r38 : Int32.toInt 2 = 2 := by decide
      refine gA_int (gA_runV (As := [.int 2]) (rest := []) (ci := 1) (q0 := 1) hx hb hml hown hg hP hD hK hS hA hnw hgk (x_wrong2 l D ks H.size ad kk V13 L Z 2 hMV13 (by decide)) w867 w869 w6 w162 w870 rfl xgReader hdV_yX1_wrong ⟨Nat.le_of_ble_eq_true rfl, Nat.le_of_ble_eq_true rfl⟩ rfl hl.1 rfl (Nat.le_of_ble_eq_true rfl) dX1_takeSetting_48 ⟨Nat.le_of_ble_eq_true rfl, Nat.le_of_ble_eq_true rfl⟩) hP hD hK hS hA (fun z39 u40 H locs w41 hP hD hK hS => ?_)
      obtain ⟨V44, L45⟩ := u40
      obtain ⟨hMV44, ajV44, axL45, rgz39, t42, t43⟩ := w41
      have axL45 : L = L45 := Eq.symm axL45
      subst axL45
      have hP : va_P D vwCl (xw ad kk V44 L Z) H := hP
      have hD : va_D A (xw ad kk V44 L Z) := hD
      have hMV44 : rgd bX V44 := hMV44
      have ajV44 : agr [(1, 3)] [] V13 V44 := ajV44
      have agV44 : agr [(1, 3), (1, 6), (6, 8), (6, 9), (6, 10)] [] V V44 := agV13.tr ajV44 (by decide) (by decide)
      have rgz39 : 0 ≤ z39.toInt ∧ z39.toInt ≤ 0 := rgz39
      have t42 : 1 ≤ (V44 1 3).toInt := t42
      have t43 : (V44 1 3).toInt = (Int32.toInt 2) + 16 * (V13 6 10).toInt := t43
      have pq46 : (V13 6 10).toInt = ((V 6 10)).toInt := congrArg Int32.toInt (up2_o hV13 (by decide))
      have r47 : 0 ≤ ((V 6 10)).toInt ∧ ((V 6 10)).toInt ≤ 4000 := hMV 6 10
      exact W.zret (v := z39) hx hb hr (nb_ok (by omega)) (fun t ht hW => ⟨⟨z39, (V44, L), rfl, ⟨hMV44, agV44, alL, (show 0 ≤ z39.toInt ∧ z39.toInt ≤ 1 from by (first | exact om_641b3f05f166 rgz39.1 rgz39.2 | omega)), (Or.inr ⟨(by omega), fun kk => (look_2 (kd4.trans f3) (by rw [(RelC.vl rel)]; exact fnd_n rel.2.2.1 t10 (by decide) (by omega)) kk).trans (fl_eq (RelC.st rl37) (show (V44 1 3).toInt = 2 + 16 * (V13 6 10).toInt from by (first | exact om_b40e2b615867 r38 t43 | omega)))⟩)⟩, by rw [ht]; exact hP, va_K.moved hW.alike hK, hD⟩, hS.F ht⟩) hS.2.2 dX1_takeSetting_51
  · skip
    have f48 : ((V 6 9)).toInt ≠ 3 := b_neq rfl (by decide) c2
    refine lv_aload_n hx hb dX1_takeSetting_11 rfl (lv_at hl 0 rfl) ?_
    refine lv_iconst (v := 1) hx hb dX1_takeSetting_12 (by decide) ?_
    have kd49 : gT.1 (gs.1 0) = ((V 6 9)).toInt := RelC.kd rel
    have r50 : Int32.toInt 1 = 1 := by decide
    refine gA_int (gA_runV (As := [.int 1]) (rest := []) (ci := 1) (q0 := 1) hx hb hml hown hg hP hD hK hS hA hnw hgk (x_wrong2 l D ks H.size ad kk V L Z 1 hMV (by decide)) w867 w869 w6 w162 w870 rfl xgReader hdV_yX1_wrong ⟨Nat.le_of_ble_eq_true rfl, Nat.le_of_ble_eq_true rfl⟩ rfl hl.1 rfl (Nat.le_of_ble_eq_true rfl) dX1_takeSetting_13 ⟨Nat.le_of_ble_eq_true rfl, Nat.le_of_ble_eq_true rfl⟩) hP hD hK hS hA (fun z51 u52 H locs w53 hP hD hK hS => ?_)
    obtain ⟨V56, L57⟩ := u52
    obtain ⟨hMV56, ajV56, axL57, rgz51, t54, t55⟩ := w53
    have axL57 : L = L57 := Eq.symm axL57
    subst axL57
    have hP : va_P D vwCl (xw ad kk V56 L Z) H := hP
    have hD : va_D A (xw ad kk V56 L Z) := hD
    have hMV56 : rgd bX V56 := hMV56
    have ajV56 : agr [(1, 3)] [] V V56 := ajV56
    have agV56 : agr [(1, 3), (1, 6), (6, 8), (6, 9), (6, 10)] [] V V56 := agV.tr ajV56 (by decide) (by decide)
    have rgz51 : 0 ≤ z51.toInt ∧ z51.toInt ≤ 0 := rgz51
    have t54 : 1 ≤ (V56 1 3).toInt := t54
    have t55 : (V56 1 3).toInt = (Int32.toInt 1) + 16 * (V 6 10).toInt := t55
    have r58 : 0 ≤ ((V 6 10)).toInt ∧ ((V 6 10)).toInt ≤ 4000 := hMV 6 10
    exact W.zret (v := z51) hx hb hr (nb_ok (by omega)) (fun t ht hW => ⟨⟨z51, (V56, L), rfl, ⟨hMV56, agV56, alL, (show 0 ≤ z51.toInt ∧ z51.toInt ≤ 1 from by (first | exact om_641b3f05f166 rgz51.1 rgz51.2 | omega)), (Or.inr ⟨(by omega), fun kk => (look_1 (fun h9 => f48 (kd49.symm.trans h9)) kk).trans (fl_eq (RelC.st rel) (show (V56 1 3).toInt = 1 + 16 * (V 6 10).toInt from by (first | exact om_f884d2586d25 r50 t55 | omega)))⟩)⟩, by rw [ht]; exact hP, va_K.moved hW.alike hK, hD⟩, hS.F ht⟩) hS.2.2 dX1_takeSetting_16
abbrev r_x_takeNumbered3 : Room := { frames := 1, cells := 0, slots := 0, locals := 22 }
abbrev q_x_takeNumbered3 (D : va_G) (ks : KS) (ad : Nat → Nat) (kk : Nat → ClassId) (V : Vf) (L : Lf) (Z : XZ) (p1 : Int32) (b : Nat) (gT : Tk) (gs : St) (gn : Nat) (gj : Nat) (A : Nat → Prop) : Array Value → State → Outcome → State → Prop := va_Qi (fun (r : Int32) (u : Vf × Lf) => rgd bX u.1 ∧ agr [(1, 3), (1, 6), (6, 8), (6, 9), (6, 10)] [43, 44] V u.1 ∧ agL [6, 44] L u.2 ∧ (0 ≤ r.toInt ∧ r.toInt ≤ 1) ∧ (KcS (nbrW gT gs gj) r.toInt (u.1 1 3).toInt (fun x9 => RelC u.1 u.2 b gT x9.2 ∧ (u.1 1 6).toInt = ((x9.1 : Nat) : Int) ∧ x9.1 < 20 ∧ keepS gs 1 x9.2)) ∧ (ROWL b L u.2)) (fun u t => gq D A (xw ad kk u.1 u.2 Z) (xty kk Z) t) A
set_option maxHeartbeats 4000000 in
set_option maxRecDepth 100000 in
theorem x_takeNumbered3 (l : Launch) (D : va_G) (ks : KS) (sz : Nat) (ad : Nat → Nat) (kk : Nat → ClassId) (V : Vf) (L : Lf) (Z : XZ) (p1 : Int32) (b : Nat) (gT : Tk) (gs : St) (gn : Nat) (gj : Nat) (hMV : rgd bX V) (rg_p1 : (-1) ≤ p1.toInt ∧ p1.toInt ≤ 19) (hb2 : b < 2) (rbk : (V 1 1).toInt = (b : Int)) (rel : RelC V L b gT gs) (hgn : gn < 10) (gnj : gn = 5 * b + gj) (gj3 : 3 ≤ gj) (gj5 : gj < 5) (cap9 : xcap gn = 20) (y1 : p1.toInt < (V 43 gn).toInt) (kd3 : (V 6 9).toInt = 3) (nf : NF (fun i => L 44 (24 * gn + i)) (V 43 gn).toInt (L 6 11) p1.toInt)  : Met l yX1_takeNumbered (Cond.code yX1_takeNumbered cX1_takeNumbered 3 (some .boolean) :: GW) r_x_takeNumbered3 (va_Pc [.ref (ad 1), .ref (ad (40 + gn)), .int p1] (gp D ks (xw ad kk V L Z) (xty kk Z) sz)) (q_x_takeNumbered3 D ks ad kk V L Z p1 b gT gs gn gj (va_A (xw ad kk V L Z) sz)) 0 0 (va_A (xw ad kk V L Z) sz) := by
  refine g_met (q_x_takeNumbered3 D ks ad kk V L Z p1 b gT gs gn gj) (by decide) (Nat.le_of_ble_eq_true rfl) ?_
  intro p e s m below meth c A ls H locs hx hb hr hml hown hg hlocks hin hnw hgk hP hK hD hS hA hl
  have hown : s.vm.findClass RX1 = some m.cls := hown
  have hl : lv_has ls 3 [(0, .ref (ad 1)), (1, .ref (ad (40 + gn))), (2, .int p1)] := hl
  have hP : va_P D vwCl (xw ad kk V L Z) H := hP
  have hD : va_D A (xw ad kk V L Z) := hD
  have hK : va_K D vwCl (xty kk Z) s := hK
  have agV : agr [(1, 3), (1, 6), (6, 8), (6, 9), (6, 10)] [43, 44] V V := agr.rf
  have alL : agL [6, 44] L L := agL.rf
  have rf_p1 := i_full p1
  have r1 : (-1) ≤ ((V 1 1)).toInt ∧ ((V 1 1)).toInt ≤ 1 := hMV 1 1
  have r2 : 0 ≤ ((V 43 gn)).toInt ∧ ((V 43 gn)).toInt ≤ ((xcap gn : Nat) : Int) := hMV 43 gn
  have r3 := xcap_le gn
  refine lv_aload_n hx hb dX1_takeNumbered_0 rfl (lv_at hl 0 rfl) ?_
  refine lv_iload_n hx hb dX1_takeNumbered_1 rfl (lv_at hl 2 rfl) ?_
  refine lv_iconst (v := (-1)) hx hb dX1_takeNumbered_2 (by decide) ?_
  refine lv_icmp_eq (tgt := 10) hx hb dX1_takeNumbered_3 (by decide) (fun c4 => ?_) (fun c4 => ?_)
  · skip
    have f5 : p1.toInt = (-1) := b_eq rfl (by decide) c4
    refine lv_aload_n hx hb dX1_takeNumbered_10 rfl (lv_at hl 1 rfl) ?_
    refine lv_aload_n hx hb dX1_takeNumbered_11 rfl (lv_at hl 0 rfl) ?_
    refine va_get (D := D) (ci := 1) (v := .ref (ad 6)) (fs := (xfReader ad V L Z)) (C := RX1) (T := TX1) (N := 9) hx hb hg inX1 hown hK hP 1 xgReader rfl 0 (by decide) (hg _ w304) (fun _ h9 => h9) rfl dX1_takeNumbered_12 ?_
    refine va_getN (D := D) (ci := 9) (v := .long (L 6 11)) (fs := (xfTape ad V L Z)) (C := RX9) (T := TX9) (N := 12) hx hb hg inX9 hown hK hP 6 xgTape rfl 11 (by decide) (hnw.use 269 n269 rfl) (fun _ h9 => h9) rfl dX1_takeNumbered_15 ?_
    refine gA_int (gA_runV (As := [.long (L 6 11)]) (rest := [.ref (ad 1)]) (ci := 6) (q0 := (40 + gn)) hx hb hml hown hg hP hD hK hS hA hnw hgk (x_add2 l D ks H.size ad kk V L Z (L 6 11) (gn) hMV (show gn < 10 from by (first | exact om_0e975414c0c5 hb2 gnj gj5 | omega))) w897 w898 w899 w168 w900 rfl (xgNames hgn) hdV_yX6_add ⟨Nat.le_of_ble_eq_true rfl, Nat.le_of_ble_eq_true rfl⟩ rfl hl.1 rfl (Nat.le_of_ble_eq_true rfl) dX1_takeNumbered_18 ⟨Nat.le_of_ble_eq_true rfl, Nat.le_of_ble_eq_true rfl⟩) hP hD hK hS hA (fun z6 u7 H locs w8 hP hD hK hS => ?_)
    obtain ⟨V14, L15⟩ := u7
    obtain ⟨hMV14, ajV14, axL15, fyV14, rgz6, t9, t10, t11, t12, t13⟩ := w8
    have alL15 : agL [6, 44] L L15 := agL.tr alL axL15 (by decide)
    have hP : va_P D vwCl (xw ad kk V14 L15 Z) H := hP
    have hD : va_D A (xw ad kk V14 L15 Z) := hD
    have hMV14 : rgd bX V14 := hMV14
    have ajV14 : agr [] [43, 44] V V14 := ajV14
    have agV14 : agr [(1, 3), (1, 6), (6, 8), (6, 9), (6, 10)] [43, 44] V V14 := agV.tr ajV14 (by decide) (by decide)
    have rgz6 : (-1) ≤ z6.toInt ∧ z6.toInt ≤ 23 := rgz6
    have t9 : z6.toInt < (V14 43 gn).toInt := t9
    have t10 : Imp ((V 43 gn).toInt < ((xcap gn : Nat) : Int)) (z6.toInt = (V 43 gn).toInt ∧ (V14 43 gn).toInt = (V 43 gn).toInt + 1) := t10
    have t11 : Imp (((xcap gn : Nat) : Int) ≤ (V 43 gn).toInt) (z6.toInt = -1 ∧ (V14 43 gn).toInt = (V 43 gn).toInt) := t11
    have t12 : ∀ n : Nat, ¬ n = gn → V14 43 n = V 43 n := t12
    have t13 : (z6.toInt = -1 ∧ L15 = L) ∨ (0 ≤ z6.toInt ∧ L15 = upL L 44 (24 * gn + Int32.toNatClampNeg (V 43 gn)) (L 6 11)) := t13
    have r20 : 0 ≤ (V 43 gn).toInt ∧ (V 43 gn).toInt ≤ ((xcap gn : Nat) : Int) := hMV 43 gn
    rcases t13 with ⟨q16, h17⟩ | ⟨q16, h17⟩
    · skip
      rcases Int.lt_or_le (V 43 gn).toInt ((xcap gn : Nat) : Int) with hc9 | hc9
      · skip
        have ig21 := Imp.go t10 hc9
        exfalso; (first | exact om_685a66b17c3d r2.1 q16 ig21.1 | omega)
      · skip
        have ig22 := Imp.go t11 hc9
        have rl23 : RelC V14 L15 b gT gs := RelC.add0 (gn := gn) rel ajV14 (by decide) t12 (by omega) h17
        refine va_put (D := D) (ci := 1) (v := .int z6) (ty := tyX1 6) (fs := (xfReader ad V14 L15 Z)) (C := RX1) (T := TX1) (N := 9) hx hb hg inX1 tyX1 tyX1_ok nmX1 hown hK hP hD hS 1 xgReader rfl 6 (by decide) (hg _ w310) (fun _ h9 => h9) rfl (tyX1_ok 6 (by decide)) rfl rfl (Nat.le_of_ble_eq_true rfl) dX1_takeNumbered_21 (fun H locs hP hD hS => ?_)
        obtain ⟨V24, hV24⟩ : ∃ z, z = up2 V14 1 6 z6 := ⟨_, rfl⟩
        have ew25 : (xw ad kk V14 L15 Z).set 1 ((ad 1), .inr (1, (xfReader ad V14 L15 Z).set 6 (.int z6))) = xw ad kk V24 L15 Z := by rw [hV24]; exact xw_ss (by decide) rfl (xb_si (by decide))
        have hP : va_P D vwCl (xw ad kk V24 L15 Z) H := by rw [← ew25]; exact hP
        have hD : va_D A (xw ad kk V24 L15 Z) := by rw [← ew25]; exact hD
        have hMV24 : rgd bX V24 := hMV14.put hV24 (show (-1) ≤ z6.toInt ∧ z6.toInt ≤ 23 from by first | exact om_b5ea211f5a81 rgz6.1 rgz6.2 | first | omega | ((try (have i_t11 := Imp.go t11 (by omega))); (try (have i_t10 := Imp.go t10 (by omega))); (try (have i_t10 := Imp.go t10 (by omega))); (try (have i_t11 := Imp.go t11 (by omega))); omega))
        have agV24 : agr [(1, 3), (1, 6), (6, 8), (6, 9), (6, 10)] [43, 44] V V24 := agV14.up hV24 rfl
        refine lv_aload_n hx hb dX1_takeNumbered_24 rfl (lv_at hl 0 rfl) ?_
        refine va_get (D := D) (ci := 1) (v := .int (V24 1 6)) (fs := (xfReader ad V24 L15 Z)) (C := RX1) (T := TX1) (N := 9) hx hb hg inX1 hown hK hP 1 xgReader rfl 6 (by decide) (hg _ w310) (fun _ h9 => h9) rfl dX1_takeNumbered_25 ?_
        refine g_top (v := z6) (up2_s hV24) ?_
        refine lv_iconst (v := (-1)) hx hb dX1_takeNumbered_28 (by decide) ?_
        refine lv_icmp_ne (tgt := 38) hx hb dX1_takeNumbered_29 (by decide) (fun c26 => ?_) (fun c26 => ?_)
        · skip
          have f27 : z6.toInt ≠ (-1) := b_neq rfl (by decide) c26
          exfalso; first | exact om_e12999c70aea rgz6.1 ig22.1 f27 | first | omega | ((try (have i_t11 := Imp.go t11 (by omega))); (try (have i_t10 := Imp.go t10 (by omega))); (try (have i_t10 := Imp.go t10 (by omega))); (try (have i_t11 := Imp.go t11 (by omega))); omega)
        · skip
          have f28 : z6.toInt = (-1) := b_eq rfl (by decide) c26
          refine lv_aload_n hx hb dX1_takeNumbered_32 rfl (lv_at hl 0 rfl) ?_
          refine lv_iconst (v := 5) hx hb dX1_takeNumbered_33 (by decide) ?_
          have rl29 : RelC V24 L15 b gT gs := RelC.ag rl23 (show agr [(1, 6)] [] V14 V24 from (agr.up agr.rf hV24 rfl)) (by decide) (show agL [] L15 L15 from agL.rf) (by decide)
          have kd30 : gT.1 (gs.1 0) = ((V 6 9)).toInt := (RelC.kd rl29).trans (congrArg Int32.toInt ((up2_o hV24 (by decide)).trans (ajV14 6 9 rfl)))
          have r31 : Int32.toInt 5 = 5 := by decide
          refine gA_int (gA_runV (As := [.int 5]) (rest := []) (ci := 1) (q0 := 1) hx hb hml hown hg hP hD hK hS hA hnw hgk (x_wrong2 l D ks H.size ad kk V24 L15 Z 5 hMV24 (by decide)) w867 w869 w6 w162 w870 rfl xgReader hdV_yX1_wrong ⟨Nat.le_of_ble_eq_true rfl, Nat.le_of_ble_eq_true rfl⟩ rfl hl.1 rfl (Nat.le_of_ble_eq_true rfl) dX1_takeNumbered_34 ⟨Nat.le_of_ble_eq_true rfl, Nat.le_of_ble_eq_true rfl⟩) hP hD hK hS hA (fun z32 u33 H locs w34 hP hD hK hS => ?_)
          obtain ⟨V37, L38⟩ := u33
          obtain ⟨hMV37, ajV37, axL38, rgz32, t35, t36⟩ := w34
          have axL38 : L15 = L38 := Eq.symm axL38
          subst axL38
          have hP : va_P D vwCl (xw ad kk V37 L15 Z) H := hP
          have hD : va_D A (xw ad kk V37 L15 Z) := hD
          have hMV37 : rgd bX V37 := hMV37
          have ajV37 : agr [(1, 3)] [] V24 V37 := ajV37
          have agV37 : agr [(1, 3), (1, 6), (6, 8), (6, 9), (6, 10)] [43, 44] V V37 := agV24.tr ajV37 (by decide) (by decide)
          have rgz32 : 0 ≤ z32.toInt ∧ z32.toInt ≤ 0 := rgz32
          have t35 : 1 ≤ (V37 1 3).toInt := t35
          have t36 : (V37 1 3).toInt = (Int32.toInt 5) + 16 * (V24 6 10).toInt := t36
          have pq39 : (V24 6 10).toInt = ((V 6 10)).toInt := congrArg Int32.toInt ((up2_o hV24 (by decide)).trans (ajV14 6 10 rfl))
          have r40 : 0 ≤ ((V 6 10)).toInt ∧ ((V 6 10)).toInt ≤ 4000 := hMV 6 10
          have rw41 : ROWL b L L15 := (fun k hk => ((ROWL.ad t13 t11 (hMV 43 _).1 (by omega) hk).trans rfl))
          exact W.zret (v := z32) hx hb hr (nb_ok (by omega)) (fun t ht hW => ⟨⟨z32, (V37, L15), rfl, ⟨hMV37, agV37, alL15, (show 0 ≤ z32.toInt ∧ z32.toInt ≤ 1 from by first | exact om_641b3f05f166 rgz32.1 rgz32.2 | first | omega | ((try (have i_t11 := Imp.go t11 (by omega))); (try (have i_t10 := Imp.go t10 (by omega))); (try (have i_t10 := Imp.go t10 (by omega))); (try (have i_t11 := Imp.go t11 (by omega))); omega)), (Or.inr ⟨(by omega), fun kk => (nbr_5 (by rw [RelC.vl rel]; exact fnd_ng rel.2.2.1 gnj nf gj5 (by omega)) (by have h9 := len_g rel.2.2.1 gnj gj5; omega) kk).trans (fl_eq (RelC.st rl29) (show (V37 1 3).toInt = 5 + 16 * (V24 6 10).toInt from by (first | exact om_fd8d4a8321fd r31 t36 | omega)))⟩), rw41⟩, by rw [ht]; exact hP, va_K.moved hW.alike hK, hD⟩, hS.F ht⟩) hS.2.2 dX1_takeNumbered_37
    · skip
      rcases Int.lt_or_le (V 43 gn).toInt ((xcap gn : Nat) : Int) with hc9 | hc9
      · skip
        have ig42 := Imp.go t10 hc9
        have rl43 : RelC V14 L15 b gT (sA gs gj (gT.2.1 (gs.1 0))) := RelC.addg (gn := gn) rel gnj (by omega) ajV14 (by decide) t12 (by omega) (by rw [RelC.vl rel]; exact h17) (sz24 hMV) (by omega)
        refine va_put (D := D) (ci := 1) (v := .int z6) (ty := tyX1 6) (fs := (xfReader ad V14 L15 Z)) (C := RX1) (T := TX1) (N := 9) hx hb hg inX1 tyX1 tyX1_ok nmX1 hown hK hP hD hS 1 xgReader rfl 6 (by decide) (hg _ w310) (fun _ h9 => h9) rfl (tyX1_ok 6 (by decide)) rfl rfl (Nat.le_of_ble_eq_true rfl) dX1_takeNumbered_21 (fun H locs hP hD hS => ?_)
        obtain ⟨V44, hV44⟩ : ∃ z, z = up2 V14 1 6 z6 := ⟨_, rfl⟩
        have ew45 : (xw ad kk V14 L15 Z).set 1 ((ad 1), .inr (1, (xfReader ad V14 L15 Z).set 6 (.int z6))) = xw ad kk V44 L15 Z := by rw [hV44]; exact xw_ss (by decide) rfl (xb_si (by decide))
        have hP : va_P D vwCl (xw ad kk V44 L15 Z) H := by rw [← ew45]; exact hP
        have hD : va_D A (xw ad kk V44 L15 Z) := by rw [← ew45]; exact hD
        have hMV44 : rgd bX V44 := hMV14.put hV44 (show (-1) ≤ z6.toInt ∧ z6.toInt ≤ 23 from by first | exact om_b5ea211f5a81 rgz6.1 rgz6.2 | first | omega | ((try (have i_t11 := Imp.go t11 (by omega))); (try (have i_t10 := Imp.go t10 (by omega))); (try (have i_t10 := Imp.go t10 (by omega))); (try (have i_t11 := Imp.go t11 (by omega))); omega))
        have agV44 : agr [(1, 3), (1, 6), (6, 8), (6, 9), (6, 10)] [43, 44] V V44 := agV14.up hV44 rfl
        refine lv_aload_n hx hb dX1_takeNumbered_24 rfl (lv_at hl 0 rfl) ?_
        refine va_get (D := D) (ci := 1) (v := .int (V44 1 6)) (fs := (xfReader ad V44 L15 Z)) (C := RX1) (T := TX1) (N := 9) hx hb hg inX1 hown hK hP 1 xgReader rfl 6 (by decide) (hg _ w310) (fun _ h9 => h9) rfl dX1_takeNumbered_25 ?_
        refine g_top (v := z6) (up2_s hV44) ?_
        refine lv_iconst (v := (-1)) hx hb dX1_takeNumbered_28 (by decide) ?_
        refine lv_icmp_ne (tgt := 38) hx hb dX1_takeNumbered_29 (by decide) (fun c46 => ?_) (fun c46 => ?_)
        · skip
          have f47 : z6.toInt ≠ (-1) := b_neq rfl (by decide) c46
          refine lv_aload_n hx hb dX1_takeNumbered_38 rfl (lv_at hl 0 rfl) ?_
          refine va_get (D := D) (ci := 1) (v := .ref (ad 6)) (fs := (xfReader ad V44 L15 Z)) (C := RX1) (T := TX1) (N := 9) hx hb hg inX1 hown hK hP 1 xgReader rfl 0 (by decide) (hg _ w304) (fun _ h9 => h9) rfl dX1_takeNumbered_39 ?_
          have rl48 : RelC V44 L15 b gT (sA gs gj (gT.2.1 (gs.1 0))) := RelC.ag rl43 (show agr [(1, 6)] [] V14 V44 from (agr.up agr.rf hV44 rfl)) (by decide) (show agL [] L15 L15 from agL.rf) (by decide)
          have l849 := RelC.l8 rl48
          have pq50 : (V44 6 8).toInt = ((V 6 8)).toInt := congrArg Int32.toInt ((up2_o hV44 (by decide)).trans (ajV14 6 8 rfl))
          have r51 : 0 ≤ ((V 6 8)).toInt ∧ ((V 6 8)).toInt ≤ 4000 := hMV 6 8
          have pq52 : (V44 6 7).toInt = ((V 6 7)).toInt := congrArg Int32.toInt ((up2_o hV44 (by decide)).trans (ajV14 6 7 rfl))
          have r53 : 0 ≤ ((V 6 7)).toInt ∧ ((V 6 7)).toInt ≤ 4000 := hMV 6 7
          have pq54 : (V44 6 9).toInt = ((V 6 9)).toInt := congrArg Int32.toInt ((up2_o hV44 (by decide)).trans (ajV14 6 9 rfl))
          have lk55 := RelC.lk rl48 (show (V44 6 9).toInt ≠ 0 from by (first | exact om_bdb438930895 kd3 pq54 | omega))
          refine gA_void (gA_runV (As := []) (rest := []) (ci := 9) (q0 := 6) hx hb hml hown hg hP hD hK hS hA hnw hgk (x_next2 l D ks H.size ad kk V44 L15 Z  hMV44 (show (V44 6 8).toInt ≤ (V44 6 7).toInt from by first | exact om_f4906d00fa52 l849 | first | omega | ((try (have i_t11 := Imp.go t11 (by omega))); (try (have i_t10 := Imp.go t10 (by omega))); (try (have i_t10 := Imp.go t10 (by omega))); (try (have i_t11 := Imp.go t11 (by omega))); omega))) w871 w852 w853 w157 w854 rfl xgTape hdV_yX9_next ⟨Nat.le_of_ble_eq_true rfl, Nat.le_of_ble_eq_true rfl⟩ rfl hl.1 rfl (Nat.le_of_ble_eq_true rfl) dX1_takeNumbered_42 ⟨Nat.le_of_ble_eq_true rfl, Nat.le_of_ble_eq_true rfl⟩) hP hD hK hS hA (fun u57 H locs w58 hP hD hK hS => ?_)
          obtain ⟨V61, L62⟩ := u57
          obtain ⟨hMV61, ajV61, axL62, t59, t60⟩ := w58
          have alL62 : agL [6, 44] L L62 := agL.tr alL15 axL62 (by decide)
          have hP : va_P D vwCl (xw ad kk V61 L62 Z) H := hP
          have hD : va_D A (xw ad kk V61 L62 Z) := hD
          have hMV61 : rgd bX V61 := hMV61
          have ajV61 : agr [(6, 8), (6, 9), (6, 10)] [] V44 V61 := ajV61
          have agV61 : agr [(1, 3), (1, 6), (6, 8), (6, 9), (6, 10)] [43, 44] V V61 := agV44.tr ajV61 (by decide) (by decide)
          have t59 : (V61 6 8).toInt ≤ (V61 6 7).toInt := t59
          have t60 : CUR V61 L62 (Int32.toNatClampNeg (V44 6 8)) := t60
          have r63 : 0 ≤ ((V61 6 8)).toInt ∧ ((V61 6 8)).toInt ≤ 4000 := hMV61 6 8
          have pq64 : (V61 6 7).toInt = ((V 6 7)).toInt := congrArg Int32.toInt ((ajV61 6 7 rfl).trans ((up2_o hV44 (by decide)).trans (ajV14 6 7 rfl)))
          have rl65 : RelC V61 L62 b gT (nx (sA gs gj (gT.2.1 (gs.1 0))) 1) := RelC.nx1 rl48 ajV61 (by decide) axL62 (by decide) (by rw [← lk55]; exact t60) (ajV61 1 3 rfl)
          refine lv_iconst (v := 1) hx hb dX1_takeNumbered_45 (by decide) ?_
          have pq66 : (V61 1 6).toInt = z6.toInt := congrArg Int32.toInt ((ajV61 1 6 rfl).trans (up2_s hV44))
          have lg9 := len_g rel.2.2.1 gnj gj5
          have rw67 : ROWL b L L62 := (fun k hk => ((axL62 44 k rfl).trans ((ROWL.ad t13 t11 (hMV 43 _).1 (by omega) hk).trans rfl)))
          exact W.zret (v := 1) hx hb hr rfl (fun t ht hW => ⟨⟨1, (V61, L62), rfl, ⟨hMV61, agV61, alL62, (by decide), (Or.inl ⟨rfl, ((gs.2.1 gj).length, sA (nx gs 1) gj (gT.2.1 (gs.1 0))), fun kk => nbr_n (by rw [RelC.vl rel]; exact fnd_ng rel.2.2.1 gnj nf gj5 (by omega)) (by omega) kk, (show RelC V61 L62 b gT (sA (nx gs 1) gj (gT.2.1 (gs.1 0))) from rl65), (show (V61 1 6).toInt = (((gs.2.1 gj).length : Nat) : Int) from by omega), (show (gs.2.1 gj).length < 20 from by omega), keepS.nA gj3⟩), rw67⟩, by rw [ht]; exact hP, va_K.moved hW.alike hK, hD⟩, hS.F ht⟩) hS.2.2 dX1_takeNumbered_46
        · skip
          have f68 : z6.toInt = (-1) := b_eq rfl (by decide) c46
          exfalso; first | exact om_99ddcb2137f1 r2.1 ig42.1 f68 | first | omega | ((try (have i_t11 := Imp.go t11 (by omega))); (try (have i_t10 := Imp.go t10 (by omega))); (try (have i_t10 := Imp.go t10 (by omega))); (try (have i_t11 := Imp.go t11 (by omega))); omega)
      · skip
        have ig69 := Imp.go t11 hc9
        exfalso; (first | exact om_336fd5583133 q16 ig69.1 | omega)
  · skip
    have f70 : p1.toInt ≠ (-1) := b_neq rfl (by decide) c4
    refine lv_iload_n hx hb dX1_takeNumbered_6 rfl (lv_at hl 2 rfl) ?_
    refine lv_goto (tgt := 21) hx hb dX1_takeNumbered_7 (by decide) ?_
    refine va_put (D := D) (ci := 1) (v := .int p1) (ty := tyX1 6) (fs := (xfReader ad V L Z)) (C := RX1) (T := TX1) (N := 9) hx hb hg inX1 tyX1 tyX1_ok nmX1 hown hK hP hD hS 1 xgReader rfl 6 (by decide) (hg _ w310) (fun _ h9 => h9) rfl (tyX1_ok 6 (by decide)) rfl rfl (Nat.le_of_ble_eq_true rfl) dX1_takeNumbered_21 (fun H locs hP hD hS => ?_)
    obtain ⟨V71, hV71⟩ : ∃ z, z = up2 V 1 6 p1 := ⟨_, rfl⟩
    have ew72 : (xw ad kk V L Z).set 1 ((ad 1), .inr (1, (xfReader ad V L Z).set 6 (.int p1))) = xw ad kk V71 L Z := by rw [hV71]; exact xw_ss (by decide) rfl (xb_si (by decide))
    have hP : va_P D vwCl (xw ad kk V71 L Z) H := by rw [← ew72]; exact hP
    have hD : va_D A (xw ad kk V71 L Z) := by rw [← ew72]; exact hD
    have hMV71 : rgd bX V71 := hMV.put hV71 (show (-1) ≤ p1.toInt ∧ p1.toInt ≤ 23 from by (first | exact om_b2b5778913cf rg_p1.1 rg_p1.2 f70 | omega))
    have agV71 : agr [(1, 3), (1, 6), (6, 8), (6, 9), (6, 10)] [43, 44] V V71 := agV.up hV71 rfl
    refine lv_aload_n hx hb dX1_takeNumbered_24 rfl (lv_at hl 0 rfl) ?_
    refine va_get (D := D) (ci := 1) (v := .int (V71 1 6)) (fs := (xfReader ad V71 L Z)) (C := RX1) (T := TX1) (N := 9) hx hb hg inX1 hown hK hP 1 xgReader rfl 6 (by decide) (hg _ w310) (fun _ h9 => h9) rfl dX1_takeNumbered_25 ?_
    refine g_top (v := p1) (up2_s hV71) ?_
    refine lv_iconst (v := (-1)) hx hb dX1_takeNumbered_28 (by decide) ?_
    refine lv_icmp_ne (tgt := 38) hx hb dX1_takeNumbered_29 (by decide) (fun c73 => ?_) (fun c73 => ?_)
    · skip
      have f74 : p1.toInt ≠ (-1) := b_neq rfl (by decide) c73
      refine lv_aload_n hx hb dX1_takeNumbered_38 rfl (lv_at hl 0 rfl) ?_
      refine va_get (D := D) (ci := 1) (v := .ref (ad 6)) (fs := (xfReader ad V71 L Z)) (C := RX1) (T := TX1) (N := 9) hx hb hg inX1 hown hK hP 1 xgReader rfl 0 (by decide) (hg _ w304) (fun _ h9 => h9) rfl dX1_takeNumbered_39 ?_
      have rl75 : RelC V71 L b gT gs := RelC.ag rel (show agr [(1, 6)] [] V V71 from (agr.up agr.rf hV71 rfl)) (by decide) (show agL [] L L from agL.rf) (by decide)
      have l876 := RelC.l8 rl75
      have pq77 : (V71 6 8).toInt = ((V 6 8)).toInt := congrArg Int32.toInt (up2_o hV71 (by decide))
      have r78 : 0 ≤ ((V 6 8)).toInt ∧ ((V 6 8)).toInt ≤ 4000 := hMV 6 8
      have pq79 : (V71 6 7).toInt = ((V 6 7)).toInt := congrArg Int32.toInt (up2_o hV71 (by decide))
      have r80 : 0 ≤ ((V 6 7)).toInt ∧ ((V 6 7)).toInt ≤ 4000 := hMV 6 7
      have pq81 : (V71 6 9).toInt = ((V 6 9)).toInt := congrArg Int32.toInt (up2_o hV71 (by decide))
      have lk82 := RelC.lk rl75 (show (V71 6 9).toInt ≠ 0 from by (first | exact om_bdb438930895 kd3 pq81 | omega))
      refine gA_void (gA_runV (As := []) (rest := []) (ci := 9) (q0 := 6) hx hb hml hown hg hP hD hK hS hA hnw hgk (x_next2 l D ks H.size ad kk V71 L Z  hMV71 (show (V71 6 8).toInt ≤ (V71 6 7).toInt from by (first | exact om_f4906d00fa52 l876 | omega))) w871 w852 w853 w157 w854 rfl xgTape hdV_yX9_next ⟨Nat.le_of_ble_eq_true rfl, Nat.le_of_ble_eq_true rfl⟩ rfl hl.1 rfl (Nat.le_of_ble_eq_true rfl) dX1_takeNumbered_42 ⟨Nat.le_of_ble_eq_true rfl, Nat.le_of_ble_eq_true rfl⟩) hP hD hK hS hA (fun u84 H locs w85 hP hD hK hS => ?_)
      obtain ⟨V88, L89⟩ := u84
      obtain ⟨hMV88, ajV88, axL89, t86, t87⟩ := w85
      have alL89 : agL [6, 44] L L89 := agL.tr alL axL89 (by decide)
      have hP : va_P D vwCl (xw ad kk V88 L89 Z) H := hP
      have hD : va_D A (xw ad kk V88 L89 Z) := hD
      have hMV88 : rgd bX V88 := hMV88
      have ajV88 : agr [(6, 8), (6, 9), (6, 10)] [] V71 V88 := ajV88
      have agV88 : agr [(1, 3), (1, 6), (6, 8), (6, 9), (6, 10)] [43, 44] V V88 := agV71.tr ajV88 (by decide) (by decide)
      have t86 : (V88 6 8).toInt ≤ (V88 6 7).toInt := t86
      have t87 : CUR V88 L89 (Int32.toNatClampNeg (V71 6 8)) := t87
      have r90 : 0 ≤ ((V88 6 8)).toInt ∧ ((V88 6 8)).toInt ≤ 4000 := hMV88 6 8
      have pq91 : (V88 6 7).toInt = ((V 6 7)).toInt := congrArg Int32.toInt ((ajV88 6 7 rfl).trans (up2_o hV71 (by decide)))
      have rl92 : RelC V88 L89 b gT (nx gs 1) := RelC.nx1 rl75 ajV88 (by decide) axL89 (by decide) (by rw [← lk82]; exact t87) (ajV88 1 3 rfl)
      refine lv_iconst (v := 1) hx hb dX1_takeNumbered_45 (by decide) ?_
      have pq93 : (V88 1 6).toInt = p1.toInt := congrArg Int32.toInt ((ajV88 1 6 rfl).trans (up2_s hV71))
      have rw94 : ROWL b L L89 := (fun k hk => ((axL89 44 k rfl).trans rfl))
      exact W.zret (v := 1) hx hb hr rfl (fun t ht hW => ⟨⟨1, (V88, L89), rfl, ⟨hMV88, agV88, alL89, (by decide), (Or.inl ⟨rfl, (p1.toInt.toNat, nx gs 1), fun kk => nbr_y (by rw [RelC.vl rel]; exact fnd_yg rel.2.2.1 gnj nf gj5 (by omega)) kk, rl92, (show (V88 1 6).toInt = ((p1.toInt.toNat : Nat) : Int) from by (first | exact om_9c959d5ccbf0 rg_p1.1 f70 pq93 | omega)), (show p1.toInt.toNat < 20 from by (first | exact om_d0b97c48bf8f rg_p1.1 rg_p1.2 f70 | omega)), keepS.n1 1⟩), rw94⟩, by rw [ht]; exact hP, va_K.moved hW.alike hK, hD⟩, hS.F ht⟩) hS.2.2 dX1_takeNumbered_46
    · skip
      have f95 : p1.toInt = (-1) := b_eq rfl (by decide) c73
      exfalso; (first | exact om_9038406c8093 rg_p1.1 f70 f95 | omega)
abbrev r_x_takeMethodN3 : Room := { frames := 2, cells := 0, slots := 0, locals := 44 }
abbrev q_x_takeMethodN3 (D : va_G) (ks : KS) (ad : Nat → Nat) (kk : Nat → ClassId) (V : Vf) (L : Lf) (Z : XZ) (b : Nat) (gT : Tk) (gs : St) (A : Nat → Prop) : Array Value → State → Outcome → State → Prop := va_Qi (fun (r : Int32) (u : Vf × Lf) => rgd bX u.1 ∧ agr [(1, 3), (1, 6), (6, 8), (6, 9), (6, 10)] [43, 44] V u.1 ∧ agL [6, 44] L u.2 ∧ (0 ≤ r.toInt ∧ r.toInt ≤ 1) ∧ (KcS (mthW gT gs 3) r.toInt (u.1 1 3).toInt (fun x9 => RelC u.1 u.2 b gT x9.2 ∧ (u.1 1 6).toInt = ((x9.1 : Nat) : Int) ∧ x9.1 < 20 ∧ keepS gs 1 x9.2)) ∧ (ROWL b L u.2)) (fun u t => gq D A (xw ad kk u.1 u.2 Z) (xty kk Z) t) A
set_option maxHeartbeats 4000000 in
set_option maxRecDepth 100000 in
theorem x_takeMethodN3 (l : Launch) (D : va_G) (ks : KS) (sz : Nat) (ad : Nat → Nat) (kk : Nat → ClassId) (V : Vf) (L : Lf) (Z : XZ) (b : Nat) (gT : Tk) (gs : St) (hMV : rgd bX V) (hb2 : b < 2) (rbk : (V 1 1).toInt = (b : Int)) (rel : RelC V L b gT gs)  : Met l yX1_takeMethod (Cond.code yX1_takeMethod cX1_takeMethod 3 (some .boolean) :: GW) r_x_takeMethodN3 (va_Pc [.ref (ad 1), .null] (gp D ks (xw ad kk V L Z) (xty kk Z) sz)) (q_x_takeMethodN3 D ks ad kk V L Z  b gT gs (va_A (xw ad kk V L Z) sz)) 0 0 (va_A (xw ad kk V L Z) sz) := by
  refine g_met (q_x_takeMethodN3 D ks ad kk V L Z  b gT gs) (by decide) (Nat.le_of_ble_eq_true rfl) ?_
  intro p e s m below meth c A ls H locs hx hb hr hml hown hg hlocks hin hnw hgk hP hK hD hS hA hl
  have hown : s.vm.findClass RX1 = some m.cls := hown
  have hl : lv_has ls 3 [(0, .ref (ad 1)), (1, .null)] := hl
  have hP : va_P D vwCl (xw ad kk V L Z) H := hP
  have hD : va_D A (xw ad kk V L Z) := hD
  have hK : va_K D vwCl (xty kk Z) s := hK
  have agV : agr [(1, 3), (1, 6), (6, 8), (6, 9), (6, 10)] [43, 44] V V := agr.rf
  have alL : agL [6, 44] L L := agL.rf
  have r1 : (-1) ≤ ((V 1 1)).toInt ∧ ((V 1 1)).toInt ≤ 1 := hMV 1 1
  refine lv_aload_n hx hb dX1_takeMethod_0 rfl (lv_at hl 0 rfl) ?_
  refine va_get (D := D) (ci := 1) (v := .ref (ad 6)) (fs := (xfReader ad V L Z)) (C := RX1) (T := TX1) (N := 9) hx hb hg inX1 hown hK hP 1 xgReader rfl 0 (by decide) (hg _ w304) (fun _ h9 => h9) rfl dX1_takeMethod_1 ?_
  refine va_getN (D := D) (ci := 9) (v := .int (V 6 9)) (fs := (xfTape ad V L Z)) (C := RX9) (T := TX9) (N := 12) hx hb hg inX9 hown hK hP 6 xgTape rfl 9 (by decide) (hnw.use 262 n262 rfl) (fun _ h9 => h9) rfl dX1_takeMethod_4 ?_
  refine lv_iconst (v := 3) hx hb dX1_takeMethod_7 (by decide) ?_
  refine lv_icmp_eq (tgt := 17) hx hb dX1_takeMethod_8 (by decide) (fun c2 => ?_) (fun c2 => ?_)
  · skip
    have f3 : ((V 6 9)).toInt = 3 := b_eq rfl (by decide) c2
    have kd4 : gT.1 (gs.1 0) = ((V 6 9)).toInt := RelC.kd rel
    refine lv_aload_n hx hb dX1_takeMethod_17 rfl (lv_at hl 0 rfl) ?_
    refine va_get (D := D) (ci := 1) (v := rfN ad 38 (V 1 1)) (fs := (xfReader ad V L Z)) (C := RX1) (T := TX1) (N := 9) hx hb hg inX1 hown hK hP 1 xgReader rfl 1 (by decide) (hg _ w305) (fun _ h9 => h9) rfl dX1_takeMethod_18 ?_
    refine g_topv (v := .ref (ad (38 + b))) (rfN_r (by omega)) ?_
    refine va_getN (D := D) (ci := 0) (v := .ref (ad (40 + (5 * b + 3)))) (fs := (xfBook ad V b)) (C := RX0) (T := TX0) (N := 13) hx hb hg inX0 hown hK hP (38 + b) (xgBook hb2) rfl 3 (by decide) (hnw.use 605 n605 rfl) (fun _ h9 => h9) rfl dX1_takeMethod_21 ?_
    refine lv_aload_n hx hb dX1_takeMethod_24 rfl (lv_at hl 0 rfl) ?_
    refine va_get (D := D) (ci := 1) (v := .ref (ad 6)) (fs := (xfReader ad V L Z)) (C := RX1) (T := TX1) (N := 9) hx hb hg inX1 hown hK hP 1 xgReader rfl 0 (by decide) (hg _ w304) (fun _ h9 => h9) rfl dX1_takeMethod_25 ?_
    refine va_getN (D := D) (ci := 9) (v := .long (L 6 11)) (fs := (xfTape ad V L Z)) (C := RX9) (T := TX9) (N := 12) hx hb hg inX9 hown hK hP 6 xgTape rfl 11 (by decide) (hnw.use 269 n269 rfl) (fun _ h9 => h9) rfl dX1_takeMethod_28 ?_
    have il5 : (5 * b + 3) < 10 := by (first | exact om_a4f98a710256 hb2 | omega)
    refine gA_int (gA_runV (As := [.long (L 6 11)]) (rest := []) (ci := 6) (q0 := (40 + (5 * b + 3))) hx hb hml hown hg hP hD hK hS hA hnw hgk (x_find2 l D ks H.size ad kk V L Z (L 6 11) ((5 * b + 3)) hMV (show (5 * b + 3) < 10 from by (first | exact om_a4f98a710256 hb2 | omega))) w892 w881 w882 w168 w883 rfl (xgNames il5) hdV_yX6_find ⟨Nat.le_of_ble_eq_true rfl, Nat.le_of_ble_eq_true rfl⟩ rfl hl.1 rfl (Nat.le_of_ble_eq_true rfl) dX1_takeMethod_31 ⟨Nat.le_of_ble_eq_true rfl, Nat.le_of_ble_eq_true rfl⟩) hP hD hK hS hA (fun z6 u7 H locs w8 hP hD hK hS => ?_)
    obtain ⟨rgz6, t9, t10⟩ := w8
    have rgz6 : (-1) ≤ z6.toInt ∧ z6.toInt ≤ 23 := rgz6
    have t9 : z6.toInt < (V 43 (5 * b + 3)).toInt := t9
    have t10 : NF (fun i => L 44 (24 * (5 * b + 3) + i)) (V 43 (5 * b + 3)).toInt (L 6 11) z6.toInt := t10
    refine lv_istore_n (lv' := [(2, .int z6), (0, .ref (ad 1)), (1, .null)]) hx hb dX1_takeMethod_34 rfl hl (by decide) rfl (fun ls hl => ?_)
    have r11 : xcap (5 * b + 3) = 20 := xcap_3
    refine lv_iload_n hx hb dX1_takeMethod_35 rfl (lv_at hl 0 rfl) ?_
    refine lv_iconst (v := (-1)) hx hb dX1_takeMethod_36 (by decide) ?_
    refine lv_icmp_eq (tgt := 60) hx hb dX1_takeMethod_37 (by decide) (fun c12 => ?_) (fun c12 => ?_)
    · skip
      have f13 : z6.toInt = (-1) := b_eq rfl (by decide) c12
      refine lv_aload_n hx hb dX1_takeMethod_60 rfl (lv_at hl 1 rfl) ?_
      refine lv_aload_n hx hb dX1_takeMethod_61 rfl (lv_at hl 1 rfl) ?_
      refine va_get (D := D) (ci := 1) (v := rfN ad 38 (V 1 1)) (fs := (xfReader ad V L Z)) (C := RX1) (T := TX1) (N := 9) hx hb hg inX1 hown hK hP 1 xgReader rfl 1 (by decide) (hg _ w305) (fun _ h9 => h9) rfl dX1_takeMethod_62 ?_
      refine g_topv (v := .ref (ad (38 + b))) (rfN_r (by omega)) ?_
      refine va_getN (D := D) (ci := 0) (v := .ref (ad (40 + (5 * b + 3)))) (fs := (xfBook ad V b)) (C := RX0) (T := TX0) (N := 13) hx hb hg inX0 hown hK hP (38 + b) (xgBook hb2) rfl 3 (by decide) (hnw.use 605 n605 rfl) (fun _ h9 => h9) rfl dX1_takeMethod_65 ?_
      refine lv_iload_n hx hb dX1_takeMethod_68 rfl (lv_at hl 0 rfl) ?_
      have r14 : 0 ≤ ((V 43 (5 * b + 3))).toInt ∧ ((V 43 (5 * b + 3))).toInt ≤ ((xcap (5 * b + 3) : Nat) : Int) := hMV 43 (5 * b + 3)
      refine gA_int (gA_runV (As := [.ref (ad (40 + (5 * b + 3))), .int z6]) (rest := []) (ci := 1) (q0 := 1) hx hb hml hown hg hP hD hK hS hA hnw hgk (x_takeNumbered3 l D ks H.size ad kk V L Z z6 (b) (gT) (gs) ((5 * b + 3)) (3) hMV (by (first | exact om_dd34aae1cbce rgz6.1 f13 | omega)) (show b < 2 from by (first | exact om_f940a4667dd6 hb2 | omega)) (show (V 1 1).toInt = (b : Int) from by (first | exact om_08e0c9701055 rbk | omega)) rel (show (5 * b + 3) < 10 from by (first | exact om_a4f98a710256 hb2 | omega)) (show (5 * b + 3) = 5 * b + 3 from by (first | exact om_dfbd6d18b5e3 | omega)) (show 3 ≤ 3 from by omega) (show 3 < 5 from by omega) (show xcap (5 * b + 3) = 20 from by (first | exact om_08a271bb3383 r11 | omega)) (show z6.toInt < (V 43 (5 * b + 3)).toInt from by (first | exact om_3e9fea077503 f13 r14.1 | omega)) (show (V 6 9).toInt = 3 from by (first | exact om_395e3da5ee0d f3 | omega)) t10) w927 w929 w16 w162 w930 rfl xgReader hdV_yX1_takeNumbered ⟨Nat.le_of_ble_eq_true rfl, Nat.le_of_ble_eq_true rfl⟩ rfl hl.1 rfl (Nat.le_of_ble_eq_true rfl) dX1_takeMethod_69 ⟨Nat.le_of_ble_eq_true rfl, Nat.le_of_ble_eq_true rfl⟩) hP hD hK hS hA (fun z15 u16 H locs w17 hP hD hK hS => ?_)
      obtain ⟨V20, L21⟩ := u16
      obtain ⟨hMV20, ajV20, axL21, rgz15, t18, t19⟩ := w17
      have alL21 : agL [6, 44] L L21 := agL.tr alL axL21 (by decide)
      have hP : va_P D vwCl (xw ad kk V20 L21 Z) H := hP
      have hD : va_D A (xw ad kk V20 L21 Z) := hD
      have hMV20 : rgd bX V20 := hMV20
      have ajV20 : agr [(1, 3), (1, 6), (6, 8), (6, 9), (6, 10)] [43, 44] V V20 := ajV20
      have agV20 : agr [(1, 3), (1, 6), (6, 8), (6, 9), (6, 10)] [43, 44] V V20 := agV.tr ajV20 (by decide) (by decide)
      have rgz15 : 0 ≤ z15.toInt ∧ z15.toInt ≤ 1 := rgz15
      have t18 : KcS (nbrW gT gs 3) z15.toInt (V20 1 3).toInt (fun x9 => RelC V20 L21 b gT x9.2 ∧ (V20 1 6).toInt = ((x9.1 : Nat) : Int) ∧ x9.1 < 20 ∧ keepS gs 1 x9.2) := t18
      have t19 : ROWL b L L21 := t19
      have rw22 : ROWL b L L21 := (fun k hk => ((t19 k hk).trans rfl))
      exact W.zret (v := z15) hx hb hr (nb_ok (by omega)) (fun t ht hW => ⟨⟨z15, (V20, L21), rfl, ⟨hMV20, agV20, alL21, (show 0 ≤ z15.toInt ∧ z15.toInt ≤ 1 from by (first | exact om_eb7af9d60398 rgz15.1 rgz15.2 | omega)), (Kc_mth (kd4.trans f3) t18), rw22⟩, by rw [ht]; exact hP, va_K.moved hW.alike hK, hD⟩, hS.F ht⟩) hS.2.2 dX1_takeMethod_72
    · skip
      have f23 : z6.toInt ≠ (-1) := b_neq rfl (by decide) c12
      refine lv_aload_nN hx hb dX1_takeMethod_40 rfl (lv_at hl 2 rfl) ?_
      refine lv_ifnullN (tgt := 60) hx hb dX1_takeMethod_41 (by decide) ?_
      refine lv_aload_n hx hb dX1_takeMethod_60 rfl (lv_at hl 1 rfl) ?_
      refine lv_aload_n hx hb dX1_takeMethod_61 rfl (lv_at hl 1 rfl) ?_
      refine va_get (D := D) (ci := 1) (v := rfN ad 38 (V 1 1)) (fs := (xfReader ad V L Z)) (C := RX1) (T := TX1) (N := 9) hx hb hg inX1 hown hK hP 1 xgReader rfl 1 (by decide) (hg _ w305) (fun _ h9 => h9) rfl dX1_takeMethod_62 ?_
      refine g_topv (v := .ref (ad (38 + b))) (rfN_r (by omega)) ?_
      refine va_getN (D := D) (ci := 0) (v := .ref (ad (40 + (5 * b + 3)))) (fs := (xfBook ad V b)) (C := RX0) (T := TX0) (N := 13) hx hb hg inX0 hown hK hP (38 + b) (xgBook hb2) rfl 3 (by decide) (hnw.use 605 n605 rfl) (fun _ h9 => h9) rfl dX1_takeMethod_65 ?_
      refine lv_iload_n hx hb dX1_takeMethod_68 rfl (lv_at hl 0 rfl) ?_
      have r24 : 0 ≤ ((V 43 (5 * b + 3))).toInt ∧ ((V 43 (5 * b + 3))).toInt ≤ ((xcap (5 * b + 3) : Nat) : Int) := hMV 43 (5 * b + 3)
      refine gA_int (gA_runV (As := [.ref (ad (40 + (5 * b + 3))), .int z6]) (rest := []) (ci := 1) (q0 := 1) hx hb hml hown hg hP hD hK hS hA hnw hgk (x_takeNumbered3 l D ks H.size ad kk V L Z z6 (b) (gT) (gs) ((5 * b + 3)) (3) hMV (by (first | exact om_14f593a12ed5 rgz6.1 t9 r11 f23 r24.2 | omega)) (show b < 2 from by (first | exact om_f940a4667dd6 hb2 | omega)) (show (V 1 1).toInt = (b : Int) from by (first | exact om_08e0c9701055 rbk | omega)) rel (show (5 * b + 3) < 10 from by (first | exact om_a4f98a710256 hb2 | omega)) (show (5 * b + 3) = 5 * b + 3 from by (first | exact om_dfbd6d18b5e3 | omega)) (show 3 ≤ 3 from by omega) (show 3 < 5 from by omega) (show xcap (5 * b + 3) = 20 from by (first | exact om_08a271bb3383 r11 | omega)) (show z6.toInt < (V 43 (5 * b + 3)).toInt from by (first | exact om_0e9116797efb t9 | omega)) (show (V 6 9).toInt = 3 from by (first | exact om_395e3da5ee0d f3 | omega)) t10) w927 w929 w16 w162 w930 rfl xgReader hdV_yX1_takeNumbered ⟨Nat.le_of_ble_eq_true rfl, Nat.le_of_ble_eq_true rfl⟩ rfl hl.1 rfl (Nat.le_of_ble_eq_true rfl) dX1_takeMethod_69 ⟨Nat.le_of_ble_eq_true rfl, Nat.le_of_ble_eq_true rfl⟩) hP hD hK hS hA (fun z25 u26 H locs w27 hP hD hK hS => ?_)
      obtain ⟨V30, L31⟩ := u26
      obtain ⟨hMV30, ajV30, axL31, rgz25, t28, t29⟩ := w27
      have alL31 : agL [6, 44] L L31 := agL.tr alL axL31 (by decide)
      have hP : va_P D vwCl (xw ad kk V30 L31 Z) H := hP
      have hD : va_D A (xw ad kk V30 L31 Z) := hD
      have hMV30 : rgd bX V30 := hMV30
      have ajV30 : agr [(1, 3), (1, 6), (6, 8), (6, 9), (6, 10)] [43, 44] V V30 := ajV30
      have agV30 : agr [(1, 3), (1, 6), (6, 8), (6, 9), (6, 10)] [43, 44] V V30 := agV.tr ajV30 (by decide) (by decide)
      have rgz25 : 0 ≤ z25.toInt ∧ z25.toInt ≤ 1 := rgz25
      have t28 : KcS (nbrW gT gs 3) z25.toInt (V30 1 3).toInt (fun x9 => RelC V30 L31 b gT x9.2 ∧ (V30 1 6).toInt = ((x9.1 : Nat) : Int) ∧ x9.1 < 20 ∧ keepS gs 1 x9.2) := t28
      have t29 : ROWL b L L31 := t29
      have rw32 : ROWL b L L31 := (fun k hk => ((t29 k hk).trans rfl))
      exact W.zret (v := z25) hx hb hr (nb_ok (by omega)) (fun t ht hW => ⟨⟨z25, (V30, L31), rfl, ⟨hMV30, agV30, alL31, (show 0 ≤ z25.toInt ∧ z25.toInt ≤ 1 from by (first | exact om_eb7af9d60398 rgz25.1 rgz25.2 | omega)), (Kc_mth (kd4.trans f3) t28), rw32⟩, by rw [ht]; exact hP, va_K.moved hW.alike hK, hD⟩, hS.F ht⟩) hS.2.2 dX1_takeMethod_72
  · skip
    have f33 : ((V 6 9)).toInt ≠ 3 := b_neq rfl (by decide) c2
    refine lv_aload_n hx hb dX1_takeMethod_11 rfl (lv_at hl 0 rfl) ?_
    refine lv_iconst (v := 1) hx hb dX1_takeMethod_12 (by decide) ?_
    have kd34 : gT.1 (gs.1 0) = ((V 6 9)).toInt := RelC.kd rel
    have r35 : Int32.toInt 1 = 1 := by decide
    refine gA_int (gA_runV (As := [.int 1]) (rest := []) (ci := 1) (q0 := 1) hx hb hml hown hg hP hD hK hS hA hnw hgk (x_wrong2 l D ks H.size ad kk V L Z 1 hMV (by decide)) w867 w869 w6 w162 w870 rfl xgReader hdV_yX1_wrong ⟨Nat.le_of_ble_eq_true rfl, Nat.le_of_ble_eq_true rfl⟩ rfl hl.1 rfl (Nat.le_of_ble_eq_true rfl) dX1_takeMethod_13 ⟨Nat.le_of_ble_eq_true rfl, Nat.le_of_ble_eq_true rfl⟩) hP hD hK hS hA (fun z36 u37 H locs w38 hP hD hK hS => ?_)
    obtain ⟨V41, L42⟩ := u37
    obtain ⟨hMV41, ajV41, axL42, rgz36, t39, t40⟩ := w38
    have axL42 : L = L42 := Eq.symm axL42
    subst axL42
    have hP : va_P D vwCl (xw ad kk V41 L Z) H := hP
    have hD : va_D A (xw ad kk V41 L Z) := hD
    have hMV41 : rgd bX V41 := hMV41
    have ajV41 : agr [(1, 3)] [] V V41 := ajV41
    have agV41 : agr [(1, 3), (1, 6), (6, 8), (6, 9), (6, 10)] [43, 44] V V41 := agV.tr ajV41 (by decide) (by decide)
    have rgz36 : 0 ≤ z36.toInt ∧ z36.toInt ≤ 0 := rgz36
    have t39 : 1 ≤ (V41 1 3).toInt := t39
    have t40 : (V41 1 3).toInt = (Int32.toInt 1) + 16 * (V 6 10).toInt := t40
    have r43 : 0 ≤ ((V 6 10)).toInt ∧ ((V 6 10)).toInt ≤ 4000 := hMV 6 10
    have rw44 : ROWL b L L := (fun k hk => rfl)
    exact W.zret (v := z36) hx hb hr (nb_ok (by omega)) (fun t ht hW => ⟨⟨z36, (V41, L), rfl, ⟨hMV41, agV41, alL, (show 0 ≤ z36.toInt ∧ z36.toInt ≤ 1 from by (first | exact om_641b3f05f166 rgz36.1 rgz36.2 | omega)), (Or.inr ⟨(by omega), fun kk => (mth_1 (fun h9 => f33 (kd34.symm.trans h9)) kk).trans (fl_eq (RelC.st rel) (show (V41 1 3).toInt = 1 + 16 * (V 6 10).toInt from by (first | exact om_f884d2586d25 r35 t40 | omega)))⟩), rw44⟩, by rw [ht]; exact hP, va_K.moved hW.alike hK, hD⟩, hS.F ht⟩) hS.2.2 dX1_takeMethod_16
abbrev r_x_takeMethodO3 : Room := { frames := 2, cells := 0, slots := 0, locals := 44 }
abbrev q_x_takeMethodO3 (D : va_G) (ks : KS) (ad : Nat → Nat) (kk : Nat → ClassId) (V : Vf) (L : Lf) (Z : XZ) (b : Nat) (gT : Tk) (gs : St) (go : Nat) (A : Nat → Prop) : Array Value → State → Outcome → State → Prop := va_Qi (fun (r : Int32) (u : Vf × Lf) => rgd bX u.1 ∧ agr [(1, 3), (1, 6), (6, 8), (6, 9), (6, 10)] [43, 44] V u.1 ∧ agL [6, 44] L u.2 ∧ (0 ≤ r.toInt ∧ r.toInt ≤ 1) ∧ (KcS (mthN gT gs) r.toInt (u.1 1 3).toInt (fun x9 => RelC u.1 u.2 b gT x9.2 ∧ (u.1 1 6).toInt = ((x9.1 : Nat) : Int) ∧ x9.1 < 20 ∧ keepS gs 1 x9.2)) ∧ (ROWL b L u.2)) (fun u t => gq D A (xw ad kk u.1 u.2 Z) (xty kk Z) t) A
set_option maxHeartbeats 4000000 in
set_option maxRecDepth 100000 in
theorem x_takeMethodO3 (l : Launch) (D : va_G) (ks : KS) (sz : Nat) (ad : Nat → Nat) (kk : Nat → ClassId) (V : Vf) (L : Lf) (Z : XZ) (b : Nat) (gT : Tk) (gs : St) (go : Nat) (hMV : rgd bX V) (hb2 : b < 2) (rbk : (V 1 1).toInt = (b : Int)) (own : (V 1 2).toInt = (go : Int)) (hgo : go < 48) (hgl : 24 * b ≤ go) (hgh : go < 24 * b + 24) (rel : RelC V L b gT gs)  : Met l yX1_takeMethod (Cond.code yX1_takeMethod cX1_takeMethod 3 (some .boolean) :: GW) r_x_takeMethodO3 (va_Pc [.ref (ad 1), .ref (ad (72 + go))] (gp D ks (xw ad kk V L Z) (xty kk Z) sz)) (q_x_takeMethodO3 D ks ad kk V L Z  b gT gs go (va_A (xw ad kk V L Z) sz)) 0 0 (va_A (xw ad kk V L Z) sz) := by
  refine g_met (q_x_takeMethodO3 D ks ad kk V L Z  b gT gs go) (by decide) (Nat.le_of_ble_eq_true rfl) ?_
  intro p e s m below meth c A ls H locs hx hb hr hml hown hg hlocks hin hnw hgk hP hK hD hS hA hl
  have hown : s.vm.findClass RX1 = some m.cls := hown
  have hl : lv_has ls 3 [(0, .ref (ad 1)), (1, .ref (ad (72 + go)))] := hl
  have hP : va_P D vwCl (xw ad kk V L Z) H := hP
  have hD : va_D A (xw ad kk V L Z) := hD
  have hK : va_K D vwCl (xty kk Z) s := hK
  have agV : agr [(1, 3), (1, 6), (6, 8), (6, 9), (6, 10)] [43, 44] V V := agr.rf
  have alL : agL [6, 44] L L := agL.rf
  have r1 : (-1) ≤ ((V 1 1)).toInt ∧ ((V 1 1)).toInt ≤ 1 := hMV 1 1
  have r2 : (-1) ≤ ((V 1 2)).toInt ∧ ((V 1 2)).toInt ≤ 47 := hMV 1 2
  have otd : ∀ f : Nat, f < 20 → ((V 61 (20 * go + f)).toInt ≠ -1 ↔ f ∈ gs.2.2.2) := by have z := rel.2.2.2.2 (by omega); have e : Int32.toNatClampNeg (V 1 2) = go := (by have q9 := i_clamp (x := V 1 2) rfl (by (first | exact om_011bccdb17d5 own hgl | omega)); omega); rw [e] at z; exact z.2.2.2.2
  refine lv_aload_n hx hb dX1_takeMethod_0 rfl (lv_at hl 0 rfl) ?_
  refine va_get (D := D) (ci := 1) (v := .ref (ad 6)) (fs := (xfReader ad V L Z)) (C := RX1) (T := TX1) (N := 9) hx hb hg inX1 hown hK hP 1 xgReader rfl 0 (by decide) (hg _ w304) (fun _ h9 => h9) rfl dX1_takeMethod_1 ?_
  refine va_getN (D := D) (ci := 9) (v := .int (V 6 9)) (fs := (xfTape ad V L Z)) (C := RX9) (T := TX9) (N := 12) hx hb hg inX9 hown hK hP 6 xgTape rfl 9 (by decide) (hnw.use 262 n262 rfl) (fun _ h9 => h9) rfl dX1_takeMethod_4 ?_
  refine lv_iconst (v := 3) hx hb dX1_takeMethod_7 (by decide) ?_
  refine lv_icmp_eq (tgt := 17) hx hb dX1_takeMethod_8 (by decide) (fun c3 => ?_) (fun c3 => ?_)
  · skip
    have f4 : ((V 6 9)).toInt = 3 := b_eq rfl (by decide) c3
    have kd5 : gT.1 (gs.1 0) = ((V 6 9)).toInt := RelC.kd rel
    refine lv_aload_n hx hb dX1_takeMethod_17 rfl (lv_at hl 0 rfl) ?_
    refine va_get (D := D) (ci := 1) (v := rfN ad 38 (V 1 1)) (fs := (xfReader ad V L Z)) (C := RX1) (T := TX1) (N := 9) hx hb hg inX1 hown hK hP 1 xgReader rfl 1 (by decide) (hg _ w305) (fun _ h9 => h9) rfl dX1_takeMethod_18 ?_
    refine g_topv (v := .ref (ad (38 + b))) (rfN_r (by omega)) ?_
    refine va_getN (D := D) (ci := 0) (v := .ref (ad (40 + (5 * b + 3)))) (fs := (xfBook ad V b)) (C := RX0) (T := TX0) (N := 13) hx hb hg inX0 hown hK hP (38 + b) (xgBook hb2) rfl 3 (by decide) (hnw.use 605 n605 rfl) (fun _ h9 => h9) rfl dX1_takeMethod_21 ?_
    refine lv_aload_n hx hb dX1_takeMethod_24 rfl (lv_at hl 0 rfl) ?_
    refine va_get (D := D) (ci := 1) (v := .ref (ad 6)) (fs := (xfReader ad V L Z)) (C := RX1) (T := TX1) (N := 9) hx hb hg inX1 hown hK hP 1 xgReader rfl 0 (by decide) (hg _ w304) (fun _ h9 => h9) rfl dX1_takeMethod_25 ?_
    refine va_getN (D := D) (ci := 9) (v := .long (L 6 11)) (fs := (xfTape ad V L Z)) (C := RX9) (T := TX9) (N := 12) hx hb hg inX9 hown hK hP 6 xgTape rfl 11 (by decide) (hnw.use 269 n269 rfl) (fun _ h9 => h9) rfl dX1_takeMethod_28 ?_
    have il6 : (5 * b + 3) < 10 := by (first | exact om_a4f98a710256 hb2 | omega)
    refine gA_int (gA_runV (As := [.long (L 6 11)]) (rest := []) (ci := 6) (q0 := (40 + (5 * b + 3))) hx hb hml hown hg hP hD hK hS hA hnw hgk (x_find2 l D ks H.size ad kk V L Z (L 6 11) ((5 * b + 3)) hMV (show (5 * b + 3) < 10 from by (first | exact om_a4f98a710256 hb2 | omega))) w892 w881 w882 w168 w883 rfl (xgNames il6) hdV_yX6_find ⟨Nat.le_of_ble_eq_true rfl, Nat.le_of_ble_eq_true rfl⟩ rfl hl.1 rfl (Nat.le_of_ble_eq_true rfl) dX1_takeMethod_31 ⟨Nat.le_of_ble_eq_true rfl, Nat.le_of_ble_eq_true rfl⟩) hP hD hK hS hA (fun z7 u8 H locs w9 hP hD hK hS => ?_)
    obtain ⟨rgz7, t10, t11⟩ := w9
    have rgz7 : (-1) ≤ z7.toInt ∧ z7.toInt ≤ 23 := rgz7
    have t10 : z7.toInt < (V 43 (5 * b + 3)).toInt := t10
    have t11 : NF (fun i => L 44 (24 * (5 * b + 3) + i)) (V 43 (5 * b + 3)).toInt (L 6 11) z7.toInt := t11
    have r12 : 0 ≤ ((V 43 (5 * b + 3))).toInt ∧ ((V 43 (5 * b + 3))).toInt ≤ ((xcap (5 * b + 3) : Nat) : Int) := hMV 43 (5 * b + 3)
    have r13 : xcap (5 * b + 3) = 20 := xcap_3
    refine lv_istore_n (lv' := [(2, .int z7), (0, .ref (ad 1)), (1, .ref (ad (72 + go)))]) hx hb dX1_takeMethod_34 rfl hl (by decide) rfl (fun ls hl => ?_)
    refine lv_iload_n hx hb dX1_takeMethod_35 rfl (lv_at hl 0 rfl) ?_
    refine lv_iconst (v := (-1)) hx hb dX1_takeMethod_36 (by decide) ?_
    refine lv_icmp_eq (tgt := 60) hx hb dX1_takeMethod_37 (by decide) (fun c14 => ?_) (fun c14 => ?_)
    · skip
      have f15 : z7.toInt = (-1) := b_eq rfl (by decide) c14
      refine lv_aload_n hx hb dX1_takeMethod_60 rfl (lv_at hl 1 rfl) ?_
      refine lv_aload_n hx hb dX1_takeMethod_61 rfl (lv_at hl 1 rfl) ?_
      refine va_get (D := D) (ci := 1) (v := rfN ad 38 (V 1 1)) (fs := (xfReader ad V L Z)) (C := RX1) (T := TX1) (N := 9) hx hb hg inX1 hown hK hP 1 xgReader rfl 1 (by decide) (hg _ w305) (fun _ h9 => h9) rfl dX1_takeMethod_62 ?_
      refine g_topv (v := .ref (ad (38 + b))) (rfN_r (by omega)) ?_
      refine va_getN (D := D) (ci := 0) (v := .ref (ad (40 + (5 * b + 3)))) (fs := (xfBook ad V b)) (C := RX0) (T := TX0) (N := 13) hx hb hg inX0 hown hK hP (38 + b) (xgBook hb2) rfl 3 (by decide) (hnw.use 605 n605 rfl) (fun _ h9 => h9) rfl dX1_takeMethod_65 ?_
      refine lv_iload_n hx hb dX1_takeMethod_68 rfl (lv_at hl 0 rfl) ?_
      refine gA_int (gA_runV (As := [.ref (ad (40 + (5 * b + 3))), .int z7]) (rest := []) (ci := 1) (q0 := 1) hx hb hml hown hg hP hD hK hS hA hnw hgk (x_takeNumbered3 l D ks H.size ad kk V L Z z7 (b) (gT) (gs) ((5 * b + 3)) (3) hMV (by (first | exact om_dd34aae1cbce rgz7.1 f15 | omega)) (show b < 2 from by (first | exact om_f940a4667dd6 hb2 | omega)) (show (V 1 1).toInt = (b : Int) from by (first | exact om_08e0c9701055 rbk | omega)) rel (show (5 * b + 3) < 10 from by (first | exact om_a4f98a710256 hb2 | omega)) (show (5 * b + 3) = 5 * b + 3 from by (first | exact om_dfbd6d18b5e3 | omega)) (show 3 ≤ 3 from by omega) (show 3 < 5 from by omega) (show xcap (5 * b + 3) = 20 from by (first | exact om_08a271bb3383 r13 | omega)) (show z7.toInt < (V 43 (5 * b + 3)).toInt from by (first | exact om_0520d8737a12 r12.1 f15 | omega)) (show (V 6 9).toInt = 3 from by (first | exact om_395e3da5ee0d f4 | omega)) t11) w927 w929 w16 w162 w930 rfl xgReader hdV_yX1_takeNumbered ⟨Nat.le_of_ble_eq_true rfl, Nat.le_of_ble_eq_true rfl⟩ rfl hl.1 rfl (Nat.le_of_ble_eq_true rfl) dX1_takeMethod_69 ⟨Nat.le_of_ble_eq_true rfl, Nat.le_of_ble_eq_true rfl⟩) hP hD hK hS hA (fun z16 u17 H locs w18 hP hD hK hS => ?_)
      obtain ⟨V21, L22⟩ := u17
      obtain ⟨hMV21, ajV21, axL22, rgz16, t19, t20⟩ := w18
      have alL22 : agL [6, 44] L L22 := agL.tr alL axL22 (by decide)
      have hP : va_P D vwCl (xw ad kk V21 L22 Z) H := hP
      have hD : va_D A (xw ad kk V21 L22 Z) := hD
      have hMV21 : rgd bX V21 := hMV21
      have ajV21 : agr [(1, 3), (1, 6), (6, 8), (6, 9), (6, 10)] [43, 44] V V21 := ajV21
      have agV21 : agr [(1, 3), (1, 6), (6, 8), (6, 9), (6, 10)] [43, 44] V V21 := agV.tr ajV21 (by decide) (by decide)
      have rgz16 : 0 ≤ z16.toInt ∧ z16.toInt ≤ 1 := rgz16
      have t19 : KcS (nbrW gT gs 3) z16.toInt (V21 1 3).toInt (fun x9 => RelC V21 L22 b gT x9.2 ∧ (V21 1 6).toInt = ((x9.1 : Nat) : Int) ∧ x9.1 < 20 ∧ keepS gs 1 x9.2) := t19
      have t20 : ROWL b L L22 := t20
      have rw23 : ROWL b L L22 := (fun k hk => ((t20 k hk).trans rfl))
      exact W.zret (v := z16) hx hb hr (nb_ok (by omega)) (fun t ht hW => ⟨⟨z16, (V21, L22), rfl, ⟨hMV21, agV21, alL22, (show 0 ≤ z16.toInt ∧ z16.toInt ≤ 1 from by (first | exact om_eb7af9d60398 rgz16.1 rgz16.2 | omega)), (Kc_mthN (kd5.trans f4) (mTold_n (by rw [(RelC.vl rel)]; exact fnd_n rel.2.2.1 t11 (by decide) (by omega))) t19), rw23⟩, by rw [ht]; exact hP, va_K.moved hW.alike hK, hD⟩, hS.F ht⟩) hS.2.2 dX1_takeMethod_72
    · skip
      have f24 : z7.toInt ≠ (-1) := b_neq rfl (by decide) c14
      refine lv_aload_n hx hb dX1_takeMethod_40 rfl (lv_at hl 2 rfl) ?_
      refine lv_ifnull hx hb dX1_takeMethod_41 ?_
      refine lv_aload_n hx hb dX1_takeMethod_44 rfl (lv_at hl 2 rfl) ?_
      refine va_getN (D := D) (ci := 3) (v := .ref (ad (264 + go))) (fs := (xfComp ad V go)) (C := RX3) (T := TX3) (N := 13) hx hb hg inX3 hown hK hP (72 + go) (xgComp hgo) rfl 3 (by decide) (hnw.use 508 n508 rfl) (fun _ h9 => h9) rfl dX1_takeMethod_45 ?_
      refine lv_iload_n hx hb dX1_takeMethod_48 rfl (lv_at hl 0 rfl) ?_
      refine va_iald (D := D) (i := z7) hx hb hK hP (264 + go) (257 + go) (xgmethodStarts hgo) (xtmethodStarts hgo) (i_in (a := z7.toInt) rfl (by (first | exact om_2e6b8401580f rgz7.1 t10 r12.2 r13 f24 | omega))) dX1_takeMethod_49 ?_
      have kc25 := i_clamp (x := z7) rfl (by (first | exact om_e3b1d6ac9ce8 rgz7.1 f24 | omega))
      refine g_top (v := V 61 (20 * go + (Int32.toNatClampNeg z7))) (if_pos (by omega)) ?_
      have r26 : (-1) ≤ ((V 61 (20 * go + (Int32.toNatClampNeg z7)))).toInt ∧ ((V 61 (20 * go + (Int32.toNatClampNeg z7)))).toInt ≤ 8200 := hMV 61 (20 * go + (Int32.toNatClampNeg z7))
      have ms27 : 20 * go + z7.toInt.toNat = 20 * go + Int32.toNatClampNeg z7 := rfl
      refine lv_iconst (v := (-1)) hx hb dX1_takeMethod_50 (by decide) ?_
      refine lv_icmp_eq (tgt := 60) hx hb dX1_takeMethod_51 (by decide) (fun c28 => ?_) (fun c28 => ?_)
      · skip
        have f29 : ((V 61 (20 * go + (Int32.toNatClampNeg z7)))).toInt = (-1) := b_eq rfl (by decide) c28
        refine lv_aload_n hx hb dX1_takeMethod_60 rfl (lv_at hl 1 rfl) ?_
        refine lv_aload_n hx hb dX1_takeMethod_61 rfl (lv_at hl 1 rfl) ?_
        refine va_get (D := D) (ci := 1) (v := rfN ad 38 (V 1 1)) (fs := (xfReader ad V L Z)) (C := RX1) (T := TX1) (N := 9) hx hb hg inX1 hown hK hP 1 xgReader rfl 1 (by decide) (hg _ w305) (fun _ h9 => h9) rfl dX1_takeMethod_62 ?_
        refine g_topv (v := .ref (ad (38 + b))) (rfN_r (by omega)) ?_
        refine va_getN (D := D) (ci := 0) (v := .ref (ad (40 + (5 * b + 3)))) (fs := (xfBook ad V b)) (C := RX0) (T := TX0) (N := 13) hx hb hg inX0 hown hK hP (38 + b) (xgBook hb2) rfl 3 (by decide) (hnw.use 605 n605 rfl) (fun _ h9 => h9) rfl dX1_takeMethod_65 ?_
        refine lv_iload_n hx hb dX1_takeMethod_68 rfl (lv_at hl 0 rfl) ?_
        refine gA_int (gA_runV (As := [.ref (ad (40 + (5 * b + 3))), .int z7]) (rest := []) (ci := 1) (q0 := 1) hx hb hml hown hg hP hD hK hS hA hnw hgk (x_takeNumbered3 l D ks H.size ad kk V L Z z7 (b) (gT) (gs) ((5 * b + 3)) (3) hMV (by (first | exact om_67af15a4007a rgz7.1 t10 r12.2 r13 f24 | omega)) (show b < 2 from by (first | exact om_f940a4667dd6 hb2 | omega)) (show (V 1 1).toInt = (b : Int) from by (first | exact om_08e0c9701055 rbk | omega)) rel (show (5 * b + 3) < 10 from by (first | exact om_a4f98a710256 hb2 | omega)) (show (5 * b + 3) = 5 * b + 3 from by (first | exact om_dfbd6d18b5e3 | omega)) (show 3 ≤ 3 from by omega) (show 3 < 5 from by omega) (show xcap (5 * b + 3) = 20 from by (first | exact om_08a271bb3383 r13 | omega)) (show z7.toInt < (V 43 (5 * b + 3)).toInt from by (first | exact om_0e9116797efb t10 | omega)) (show (V 6 9).toInt = 3 from by (first | exact om_395e3da5ee0d f4 | omega)) t11) w927 w929 w16 w162 w930 rfl xgReader hdV_yX1_takeNumbered ⟨Nat.le_of_ble_eq_true rfl, Nat.le_of_ble_eq_true rfl⟩ rfl hl.1 rfl (Nat.le_of_ble_eq_true rfl) dX1_takeMethod_69 ⟨Nat.le_of_ble_eq_true rfl, Nat.le_of_ble_eq_true rfl⟩) hP hD hK hS hA (fun z30 u31 H locs w32 hP hD hK hS => ?_)
        obtain ⟨V35, L36⟩ := u31
        obtain ⟨hMV35, ajV35, axL36, rgz30, t33, t34⟩ := w32
        have alL36 : agL [6, 44] L L36 := agL.tr alL axL36 (by decide)
        have hP : va_P D vwCl (xw ad kk V35 L36 Z) H := hP
        have hD : va_D A (xw ad kk V35 L36 Z) := hD
        have hMV35 : rgd bX V35 := hMV35
        have ajV35 : agr [(1, 3), (1, 6), (6, 8), (6, 9), (6, 10)] [43, 44] V V35 := ajV35
        have agV35 : agr [(1, 3), (1, 6), (6, 8), (6, 9), (6, 10)] [43, 44] V V35 := agV.tr ajV35 (by decide) (by decide)
        have rgz30 : 0 ≤ z30.toInt ∧ z30.toInt ≤ 1 := rgz30
        have t33 : KcS (nbrW gT gs 3) z30.toInt (V35 1 3).toInt (fun x9 => RelC V35 L36 b gT x9.2 ∧ (V35 1 6).toInt = ((x9.1 : Nat) : Int) ∧ x9.1 < 20 ∧ keepS gs 1 x9.2) := t33
        have t34 : ROWL b L L36 := t34
        have rw37 : ROWL b L L36 := (fun k hk => ((t34 k hk).trans rfl))
        exact W.zret (v := z30) hx hb hr (nb_ok (by omega)) (fun t ht hW => ⟨⟨z30, (V35, L36), rfl, ⟨hMV35, agV35, alL36, (show 0 ≤ z30.toInt ∧ z30.toInt ≤ 1 from by (first | exact om_eb7af9d60398 rgz30.1 rgz30.2 | omega)), (Kc_mthN (kd5.trans f4) ((mTold_s (by rw [(RelC.vl rel)]; exact fnd_y rel.2.2.1 t11 (by decide) (by omega))).trans (Bool.eq_false_iff.mpr (fun q => absurd (List.contains_iff_mem.mp q) (fun q2 => absurd ((otd z7.toInt.toNat (by omega)).mpr q2) (by rw [show V 61 (20 * go + z7.toInt.toNat) = V 61 (20 * go + Int32.toNatClampNeg z7) from rfl]; omega))))) t33), rw37⟩, by rw [ht]; exact hP, va_K.moved hW.alike hK, hD⟩, hS.F ht⟩) hS.2.2 dX1_takeMethod_72
      · skip
        have f38 : ((V 61 (20 * go + (Int32.toNatClampNeg z7)))).toInt ≠ (-1) := b_neq rfl (by decide) c28
        refine lv_aload_n hx hb dX1_takeMethod_54 rfl (lv_at hl 1 rfl) ?_
        refine lv_iconst (v := 3) hx hb dX1_takeMethod_55 (by decide) ?_
        have r39 : Int32.toInt 3 = 3 := by decide
        refine gA_int (gA_runV (As := [.int 3]) (rest := []) (ci := 1) (q0 := 1) hx hb hml hown hg hP hD hK hS hA hnw hgk (x_wrong2 l D ks H.size ad kk V L Z 3 hMV (by decide)) w867 w869 w6 w162 w870 rfl xgReader hdV_yX1_wrong ⟨Nat.le_of_ble_eq_true rfl, Nat.le_of_ble_eq_true rfl⟩ rfl hl.1 rfl (Nat.le_of_ble_eq_true rfl) dX1_takeMethod_56 ⟨Nat.le_of_ble_eq_true rfl, Nat.le_of_ble_eq_true rfl⟩) hP hD hK hS hA (fun z40 u41 H locs w42 hP hD hK hS => ?_)
        obtain ⟨V45, L46⟩ := u41
        obtain ⟨hMV45, ajV45, axL46, rgz40, t43, t44⟩ := w42
        have axL46 : L = L46 := Eq.symm axL46
        subst axL46
        have hP : va_P D vwCl (xw ad kk V45 L Z) H := hP
        have hD : va_D A (xw ad kk V45 L Z) := hD
        have hMV45 : rgd bX V45 := hMV45
        have ajV45 : agr [(1, 3)] [] V V45 := ajV45
        have agV45 : agr [(1, 3), (1, 6), (6, 8), (6, 9), (6, 10)] [43, 44] V V45 := agV.tr ajV45 (by decide) (by decide)
        have rgz40 : 0 ≤ z40.toInt ∧ z40.toInt ≤ 0 := rgz40
        have t43 : 1 ≤ (V45 1 3).toInt := t43
        have t44 : (V45 1 3).toInt = (Int32.toInt 3) + 16 * (V 6 10).toInt := t44
        have r47 : 0 ≤ ((V 6 10)).toInt ∧ ((V 6 10)).toInt ≤ 4000 := hMV 6 10
        have rw48 : ROWL b L L := (fun k hk => rfl)
        exact W.zret (v := z40) hx hb hr (nb_ok (by omega)) (fun t ht hW => ⟨⟨z40, (V45, L), rfl, ⟨hMV45, agV45, alL, (show 0 ≤ z40.toInt ∧ z40.toInt ≤ 1 from by (first | exact om_641b3f05f166 rgz40.1 rgz40.2 | omega)), (Or.inr ⟨(by omega), fun kk => (mthN_3 (kd5.trans f4) ((mTold_s (by rw [(RelC.vl rel)]; exact fnd_y rel.2.2.1 t11 (by decide) (by omega))).trans (List.contains_iff_mem.mpr ((otd z7.toInt.toNat (by omega)).mp (by rw [show V 61 (20 * go + z7.toInt.toNat) = V 61 (20 * go + Int32.toNatClampNeg z7) from rfl]; omega)))) kk).trans (fl_eq (RelC.st rel) (show (V45 1 3).toInt = 3 + 16 * (V 6 10).toInt from by (first | exact om_b430a26e4567 r39 t44 | omega)))⟩), rw48⟩, by rw [ht]; exact hP, va_K.moved hW.alike hK, hD⟩, hS.F ht⟩) hS.2.2 dX1_takeMethod_59
  · skip
    have f49 : ((V 6 9)).toInt ≠ 3 := b_neq rfl (by decide) c3
    refine lv_aload_n hx hb dX1_takeMethod_11 rfl (lv_at hl 0 rfl) ?_
    refine lv_iconst (v := 1) hx hb dX1_takeMethod_12 (by decide) ?_
    have kd50 : gT.1 (gs.1 0) = ((V 6 9)).toInt := RelC.kd rel
    have r51 : Int32.toInt 1 = 1 := by decide
    refine gA_int (gA_runV (As := [.int 1]) (rest := []) (ci := 1) (q0 := 1) hx hb hml hown hg hP hD hK hS hA hnw hgk (x_wrong2 l D ks H.size ad kk V L Z 1 hMV (by decide)) w867 w869 w6 w162 w870 rfl xgReader hdV_yX1_wrong ⟨Nat.le_of_ble_eq_true rfl, Nat.le_of_ble_eq_true rfl⟩ rfl hl.1 rfl (Nat.le_of_ble_eq_true rfl) dX1_takeMethod_13 ⟨Nat.le_of_ble_eq_true rfl, Nat.le_of_ble_eq_true rfl⟩) hP hD hK hS hA (fun z52 u53 H locs w54 hP hD hK hS => ?_)
    obtain ⟨V57, L58⟩ := u53
    obtain ⟨hMV57, ajV57, axL58, rgz52, t55, t56⟩ := w54
    have axL58 : L = L58 := Eq.symm axL58
    subst axL58
    have hP : va_P D vwCl (xw ad kk V57 L Z) H := hP
    have hD : va_D A (xw ad kk V57 L Z) := hD
    have hMV57 : rgd bX V57 := hMV57
    have ajV57 : agr [(1, 3)] [] V V57 := ajV57
    have agV57 : agr [(1, 3), (1, 6), (6, 8), (6, 9), (6, 10)] [43, 44] V V57 := agV.tr ajV57 (by decide) (by decide)
    have rgz52 : 0 ≤ z52.toInt ∧ z52.toInt ≤ 0 := rgz52
    have t55 : 1 ≤ (V57 1 3).toInt := t55
    have t56 : (V57 1 3).toInt = (Int32.toInt 1) + 16 * (V 6 10).toInt := t56
    have r59 : 0 ≤ ((V 6 10)).toInt ∧ ((V 6 10)).toInt ≤ 4000 := hMV 6 10
    have rw60 : ROWL b L L := (fun k hk => rfl)
    exact W.zret (v := z52) hx hb hr (nb_ok (by omega)) (fun t ht hW => ⟨⟨z52, (V57, L), rfl, ⟨hMV57, agV57, alL, (show 0 ≤ z52.toInt ∧ z52.toInt ≤ 1 from by (first | exact om_641b3f05f166 rgz52.1 rgz52.2 | omega)), (Or.inr ⟨(by omega), fun kk => ((mthN_y (fun q => (fun h9 => f49 (kd50.symm.trans h9)) q.1) kk).trans (mth_1 (fun h9 => f49 (kd50.symm.trans h9)) kk)).trans (fl_eq (RelC.st rel) (show (V57 1 3).toInt = 1 + 16 * (V 6 10).toInt from by (first | exact om_f884d2586d25 r51 t56 | omega)))⟩), rw60⟩, by rw [ht]; exact hP, va_K.moved hW.alike hK, hD⟩, hS.F ht⟩) hS.2.2 dX1_takeMethod_16
abbrev r_x_takeCalled3 : Room := { frames := 2, cells := 0, slots := 0, locals := 44 }
abbrev q_x_takeCalled3 (D : va_G) (ks : KS) (ad : Nat → Nat) (kk : Nat → ClassId) (V : Vf) (L : Lf) (Z : XZ) (b : Nat) (gT : Tk) (gs : St) (A : Nat → Prop) : Array Value → State → Outcome → State → Prop := va_Qi (fun (r : Int32) (u : Vf × Lf) => rgd bX u.1 ∧ agr [(1, 3), (1, 6), (6, 8), (6, 9), (6, 10)] [43, 44] V u.1 ∧ agL [6, 44] L u.2 ∧ (0 ≤ r.toInt ∧ r.toInt ≤ 1) ∧ (KcS (mthW gT (nx gs 1) 4) r.toInt (u.1 1 3).toInt (fun x9 => RelC u.1 u.2 b gT x9.2 ∧ (u.1 1 6).toInt = ((x9.1 : Nat) : Int) ∧ x9.1 < 20 ∧ keepS gs 2 x9.2)) ∧ (ROWL b L u.2)) (fun u t => gq D A (xw ad kk u.1 u.2 Z) (xty kk Z) t) A
set_option maxHeartbeats 4000000 in
set_option maxRecDepth 100000 in
theorem x_takeCalled3 (l : Launch) (D : va_G) (ks : KS) (sz : Nat) (ad : Nat → Nat) (kk : Nat → ClassId) (V : Vf) (L : Lf) (Z : XZ) (b : Nat) (gT : Tk) (gs : St) (hMV : rgd bX V) (hb2 : b < 2) (rbk : (V 1 1).toInt = (b : Int)) (rel : RelC V L b gT gs) (kd9 : (V 6 9).toInt = 133)  : Met l yX1_takeCalled (Cond.code yX1_takeCalled cX1_takeCalled 1 (some .boolean) :: GW) r_x_takeCalled3 (va_Pc [.ref (ad 1)] (gp D ks (xw ad kk V L Z) (xty kk Z) sz)) (q_x_takeCalled3 D ks ad kk V L Z  b gT gs (va_A (xw ad kk V L Z) sz)) 0 0 (va_A (xw ad kk V L Z) sz) := by
  refine g_met (q_x_takeCalled3 D ks ad kk V L Z  b gT gs) (by decide) (Nat.le_of_ble_eq_true rfl) ?_
  intro p e s m below meth c A ls H locs hx hb hr hml hown hg hlocks hin hnw hgk hP hK hD hS hA hl
  have hown : s.vm.findClass RX1 = some m.cls := hown
  have hl : lv_has ls 1 [(0, .ref (ad 1))] := hl
  have hP : va_P D vwCl (xw ad kk V L Z) H := hP
  have hD : va_D A (xw ad kk V L Z) := hD
  have hK : va_K D vwCl (xty kk Z) s := hK
  have agV : agr [(1, 3), (1, 6), (6, 8), (6, 9), (6, 10)] [43, 44] V V := agr.rf
  have alL : agL [6, 44] L L := agL.rf
  have r1 : (-1) ≤ ((V 1 1)).toInt ∧ ((V 1 1)).toInt ≤ 1 := hMV 1 1
  refine lv_aload_n hx hb dX1_takeCalled_0 rfl (lv_at hl 0 rfl) ?_
  refine va_get (D := D) (ci := 1) (v := .ref (ad 6)) (fs := (xfReader ad V L Z)) (C := RX1) (T := TX1) (N := 9) hx hb hg inX1 hown hK hP 1 xgReader rfl 0 (by decide) (hg _ w304) (fun _ h9 => h9) rfl dX1_takeCalled_1 ?_
  have l82 := RelC.l8 rel
  have r3 : 0 ≤ ((V 6 8)).toInt ∧ ((V 6 8)).toInt ≤ 4000 := hMV 6 8
  have r4 : 0 ≤ ((V 6 7)).toInt ∧ ((V 6 7)).toInt ≤ 4000 := hMV 6 7
  have lk5 := RelC.lk rel (show (V 6 9).toInt ≠ 0 from by (first | exact om_68a684ae2781 kd9 | omega))
  refine gA_void (gA_runV (As := []) (rest := []) (ci := 9) (q0 := 6) hx hb hml hown hg hP hD hK hS hA hnw hgk (x_next2 l D ks H.size ad kk V L Z  hMV (show (V 6 8).toInt ≤ (V 6 7).toInt from by (first | exact om_f4906d00fa52 l82 | omega))) w871 w852 w853 w157 w854 rfl xgTape hdV_yX9_next ⟨Nat.le_of_ble_eq_true rfl, Nat.le_of_ble_eq_true rfl⟩ rfl hl.1 rfl (Nat.le_of_ble_eq_true rfl) dX1_takeCalled_4 ⟨Nat.le_of_ble_eq_true rfl, Nat.le_of_ble_eq_true rfl⟩) hP hD hK hS hA (fun u7 H locs w8 hP hD hK hS => ?_)
  obtain ⟨V11, L12⟩ := u7
  obtain ⟨hMV11, ajV11, axL12, t9, t10⟩ := w8
  have alL12 : agL [6, 44] L L12 := agL.tr alL axL12 (by decide)
  have hP : va_P D vwCl (xw ad kk V11 L12 Z) H := hP
  have hD : va_D A (xw ad kk V11 L12 Z) := hD
  have hMV11 : rgd bX V11 := hMV11
  have ajV11 : agr [(6, 8), (6, 9), (6, 10)] [] V V11 := ajV11
  have agV11 : agr [(1, 3), (1, 6), (6, 8), (6, 9), (6, 10)] [43, 44] V V11 := agV.tr ajV11 (by decide) (by decide)
  have t9 : (V11 6 8).toInt ≤ (V11 6 7).toInt := t9
  have t10 : CUR V11 L12 (Int32.toNatClampNeg (V 6 8)) := t10
  have r13 : 0 ≤ ((V11 6 8)).toInt ∧ ((V11 6 8)).toInt ≤ 4000 := hMV11 6 8
  have pq14 : (V11 6 7).toInt = ((V 6 7)).toInt := congrArg Int32.toInt (ajV11 6 7 rfl)
  have rl15 : RelC V11 L12 b gT (nx gs 1) := RelC.nx1 rel ajV11 (by decide) axL12 (by decide) (by rw [← lk5]; exact t10) (ajV11 1 3 rfl)
  refine lv_aload_n hx hb dX1_takeCalled_7 rfl (lv_at hl 0 rfl) ?_
  refine va_get (D := D) (ci := 1) (v := .ref (ad 6)) (fs := (xfReader ad V11 L12 Z)) (C := RX1) (T := TX1) (N := 9) hx hb hg inX1 hown hK hP 1 xgReader rfl 0 (by decide) (hg _ w304) (fun _ h9 => h9) rfl dX1_takeCalled_8 ?_
  refine va_getN (D := D) (ci := 9) (v := .int (V11 6 9)) (fs := (xfTape ad V11 L12 Z)) (C := RX9) (T := TX9) (N := 12) hx hb hg inX9 hown hK hP 6 xgTape rfl 9 (by decide) (hnw.use 262 n262 rfl) (fun _ h9 => h9) rfl dX1_takeCalled_11 ?_
  refine lv_iconst (v := 3) hx hb dX1_takeCalled_14 (by decide) ?_
  refine lv_icmp_eq (tgt := 24) hx hb dX1_takeCalled_15 (by decide) (fun c16 => ?_) (fun c16 => ?_)
  · skip
    have f17 : ((V11 6 9)).toInt = 3 := b_eq rfl (by decide) c16
    have kd18 : gT.1 ((nx gs 1).1 0) = ((V11 6 9)).toInt := RelC.kd rl15
    refine lv_aload_n hx hb dX1_takeCalled_24 rfl (lv_at hl 0 rfl) ?_
    refine lv_aload_n hx hb dX1_takeCalled_25 rfl (lv_at hl 0 rfl) ?_
    refine va_get (D := D) (ci := 1) (v := rfN ad 38 (V11 1 1)) (fs := (xfReader ad V11 L12 Z)) (C := RX1) (T := TX1) (N := 9) hx hb hg inX1 hown hK hP 1 xgReader rfl 1 (by decide) (hg _ w305) (fun _ h9 => h9) rfl dX1_takeCalled_26 ?_
    have pq19 : (V11 1 1).toInt = ((V 1 1)).toInt := congrArg Int32.toInt (ajV11 1 1 rfl)
    refine g_topv (v := .ref (ad (38 + b))) (rfN_r (by omega)) ?_
    refine va_getN (D := D) (ci := 0) (v := .ref (ad (40 + (5 * b + 4)))) (fs := (xfBook ad V11 b)) (C := RX0) (T := TX0) (N := 13) hx hb hg inX0 hown hK hP (38 + b) (xgBook hb2) rfl 4 (by decide) (hnw.use 607 n607 rfl) (fun _ h9 => h9) rfl dX1_takeCalled_29 ?_
    refine lv_aload_n hx hb dX1_takeCalled_32 rfl (lv_at hl 0 rfl) ?_
    refine va_get (D := D) (ci := 1) (v := rfN ad 38 (V11 1 1)) (fs := (xfReader ad V11 L12 Z)) (C := RX1) (T := TX1) (N := 9) hx hb hg inX1 hown hK hP 1 xgReader rfl 1 (by decide) (hg _ w305) (fun _ h9 => h9) rfl dX1_takeCalled_33 ?_
    refine g_topv (v := .ref (ad (38 + b))) (rfN_r (by omega)) ?_
    refine va_getN (D := D) (ci := 0) (v := .ref (ad (40 + (5 * b + 4)))) (fs := (xfBook ad V11 b)) (C := RX0) (T := TX0) (N := 13) hx hb hg inX0 hown hK hP (38 + b) (xgBook hb2) rfl 4 (by decide) (hnw.use 607 n607 rfl) (fun _ h9 => h9) rfl dX1_takeCalled_36 ?_
    refine lv_aload_n hx hb dX1_takeCalled_39 rfl (lv_at hl 0 rfl) ?_
    refine va_get (D := D) (ci := 1) (v := .ref (ad 6)) (fs := (xfReader ad V11 L12 Z)) (C := RX1) (T := TX1) (N := 9) hx hb hg inX1 hown hK hP 1 xgReader rfl 0 (by decide) (hg _ w304) (fun _ h9 => h9) rfl dX1_takeCalled_40 ?_
    refine va_getN (D := D) (ci := 9) (v := .long (L12 6 11)) (fs := (xfTape ad V11 L12 Z)) (C := RX9) (T := TX9) (N := 12) hx hb hg inX9 hown hK hP 6 xgTape rfl 11 (by decide) (hnw.use 269 n269 rfl) (fun _ h9 => h9) rfl dX1_takeCalled_43 ?_
    have il20 : (5 * b + 4) < 10 := by (first | exact om_3aaf7229373d hb2 | omega)
    refine gA_int (gA_runV (As := [.long (L12 6 11)]) (rest := [.ref (ad (40 + (5 * b + 4))), .ref (ad 1)]) (ci := 6) (q0 := (40 + (5 * b + 4))) hx hb hml hown hg hP hD hK hS hA hnw hgk (x_find2 l D ks H.size ad kk V11 L12 Z (L12 6 11) ((5 * b + 4)) hMV11 (show (5 * b + 4) < 10 from by (first | exact om_3aaf7229373d hb2 | omega))) w892 w881 w882 w168 w883 rfl (xgNames il20) hdV_yX6_find ⟨Nat.le_of_ble_eq_true rfl, Nat.le_of_ble_eq_true rfl⟩ rfl hl.1 rfl (Nat.le_of_ble_eq_true rfl) dX1_takeCalled_46 ⟨Nat.le_of_ble_eq_true rfl, Nat.le_of_ble_eq_true rfl⟩) hP hD hK hS hA (fun z21 u22 H locs w23 hP hD hK hS => ?_)
    obtain ⟨rgz21, t24, t25⟩ := w23
    have rgz21 : (-1) ≤ z21.toInt ∧ z21.toInt ≤ 23 := rgz21
    have t24 : z21.toInt < (V11 43 (5 * b + 4)).toInt := t24
    have t25 : NF (fun i => L12 44 (24 * (5 * b + 4) + i)) (V11 43 (5 * b + 4)).toInt (L12 6 11) z21.toInt := t25
    have r26 : xcap (5 * b + 4) = 20 := xcap_4
    have pq27 : (V11 43 (5 * b + 4)).toInt = ((V 43 (5 * b + 4))).toInt := congrArg Int32.toInt (ajV11 43 (5 * b + 4) rfl)
    have r28 : 0 ≤ ((V 43 (5 * b + 4))).toInt ∧ ((V 43 (5 * b + 4))).toInt ≤ ((xcap (5 * b + 4) : Nat) : Int) := hMV 43 (5 * b + 4)
    refine gA_int (gA_runV (As := [.ref (ad (40 + (5 * b + 4))), .int z21]) (rest := []) (ci := 1) (q0 := 1) hx hb hml hown hg hP hD hK hS hA hnw hgk (x_takeNumbered3 l D ks H.size ad kk V11 L12 Z z21 (b) (gT) ((nx gs 1)) ((5 * b + 4)) (4) hMV11 (by (first | exact om_743871df72dc rgz21.1 t24 r26 pq27 r28.2 | omega)) (show b < 2 from by (first | exact om_f940a4667dd6 hb2 | omega)) (show (V11 1 1).toInt = (b : Int) from by (first | exact om_adf531c77a0d rbk pq19 | omega)) rl15 (show (5 * b + 4) < 10 from by (first | exact om_3aaf7229373d hb2 | omega)) (show (5 * b + 4) = 5 * b + 4 from by (first | exact om_3c0129424134 | omega)) (show 3 ≤ 4 from by omega) (show 4 < 5 from by omega) (show xcap (5 * b + 4) = 20 from by (first | exact om_08a271bb3383 r26 | omega)) (show z21.toInt < (V11 43 (5 * b + 4)).toInt from by (first | exact om_0e9116797efb t24 | omega)) (show (V11 6 9).toInt = 3 from by (first | exact om_395e3da5ee0d f17 | omega)) t25) w927 w929 w16 w162 w930 rfl xgReader hdV_yX1_takeNumbered ⟨Nat.le_of_ble_eq_true rfl, Nat.le_of_ble_eq_true rfl⟩ rfl hl.1 rfl (Nat.le_of_ble_eq_true rfl) dX1_takeCalled_49 ⟨Nat.le_of_ble_eq_true rfl, Nat.le_of_ble_eq_true rfl⟩) hP hD hK hS hA (fun z29 u30 H locs w31 hP hD hK hS => ?_)
    obtain ⟨V34, L35⟩ := u30
    obtain ⟨hMV34, ajV34, axL35, rgz29, t32, t33⟩ := w31
    have alL35 : agL [6, 44] L L35 := agL.tr alL12 axL35 (by decide)
    have hP : va_P D vwCl (xw ad kk V34 L35 Z) H := hP
    have hD : va_D A (xw ad kk V34 L35 Z) := hD
    have hMV34 : rgd bX V34 := hMV34
    have ajV34 : agr [(1, 3), (1, 6), (6, 8), (6, 9), (6, 10)] [43, 44] V11 V34 := ajV34
    have agV34 : agr [(1, 3), (1, 6), (6, 8), (6, 9), (6, 10)] [43, 44] V V34 := agV11.tr ajV34 (by decide) (by decide)
    have rgz29 : 0 ≤ z29.toInt ∧ z29.toInt ≤ 1 := rgz29
    have t32 : KcS (nbrW gT (nx gs 1) 4) z29.toInt (V34 1 3).toInt (fun x9 => RelC V34 L35 b gT x9.2 ∧ (V34 1 6).toInt = ((x9.1 : Nat) : Int) ∧ x9.1 < 20 ∧ keepS (nx gs 1) 1 x9.2) := t32
    have t33 : ROWL b L12 L35 := t33
    have rw36 : ROWL b L L35 := (fun k hk => ((t33 k hk).trans ((axL12 44 k rfl).trans rfl)))
    exact W.zret (v := z29) hx hb hr (nb_ok (by omega)) (fun t ht hW => ⟨⟨z29, (V34, L35), rfl, ⟨hMV34, agV34, alL35, (show 0 ≤ z29.toInt ∧ z29.toInt ≤ 1 from by (first | exact om_eb7af9d60398 rgz29.1 rgz29.2 | omega)), (Kc_im (Kc_mth (kd18.trans f17) t32) (fun x h => ⟨h.1, h.2.1, h.2.2.1, keepS.tr (keepS.n1 1) h.2.2.2⟩)), rw36⟩, by rw [ht]; exact hP, va_K.moved hW.alike hK, hD⟩, hS.F ht⟩) hS.2.2 dX1_takeCalled_52
  · skip
    have f37 : ((V11 6 9)).toInt ≠ 3 := b_neq rfl (by decide) c16
    refine lv_aload_n hx hb dX1_takeCalled_18 rfl (lv_at hl 0 rfl) ?_
    refine lv_iconst (v := 1) hx hb dX1_takeCalled_19 (by decide) ?_
    have kd38 : gT.1 ((nx gs 1).1 0) = ((V11 6 9)).toInt := RelC.kd rl15
    have r39 : Int32.toInt 1 = 1 := by decide
    refine gA_int (gA_runV (As := [.int 1]) (rest := []) (ci := 1) (q0 := 1) hx hb hml hown hg hP hD hK hS hA hnw hgk (x_wrong2 l D ks H.size ad kk V11 L12 Z 1 hMV11 (by decide)) w867 w869 w6 w162 w870 rfl xgReader hdV_yX1_wrong ⟨Nat.le_of_ble_eq_true rfl, Nat.le_of_ble_eq_true rfl⟩ rfl hl.1 rfl (Nat.le_of_ble_eq_true rfl) dX1_takeCalled_20 ⟨Nat.le_of_ble_eq_true rfl, Nat.le_of_ble_eq_true rfl⟩) hP hD hK hS hA (fun z40 u41 H locs w42 hP hD hK hS => ?_)
    obtain ⟨V45, L46⟩ := u41
    obtain ⟨hMV45, ajV45, axL46, rgz40, t43, t44⟩ := w42
    have axL46 : L12 = L46 := Eq.symm axL46
    subst axL46
    have hP : va_P D vwCl (xw ad kk V45 L12 Z) H := hP
    have hD : va_D A (xw ad kk V45 L12 Z) := hD
    have hMV45 : rgd bX V45 := hMV45
    have ajV45 : agr [(1, 3)] [] V11 V45 := ajV45
    have agV45 : agr [(1, 3), (1, 6), (6, 8), (6, 9), (6, 10)] [43, 44] V V45 := agV11.tr ajV45 (by decide) (by decide)
    have rgz40 : 0 ≤ z40.toInt ∧ z40.toInt ≤ 0 := rgz40
    have t43 : 1 ≤ (V45 1 3).toInt := t43
    have t44 : (V45 1 3).toInt = (Int32.toInt 1) + 16 * (V11 6 10).toInt := t44
    have r47 : 0 ≤ ((V11 6 10)).toInt ∧ ((V11 6 10)).toInt ≤ 4000 := hMV11 6 10
    have rw48 : ROWL b L L12 := (fun k hk => ((axL12 44 k rfl).trans rfl))
    exact W.zret (v := z40) hx hb hr (nb_ok (by omega)) (fun t ht hW => ⟨⟨z40, (V45, L12), rfl, ⟨hMV45, agV45, alL12, (show 0 ≤ z40.toInt ∧ z40.toInt ≤ 1 from by (first | exact om_641b3f05f166 rgz40.1 rgz40.2 | omega)), (Or.inr ⟨(by omega), fun kk => (mth_1 (fun h9 => f37 (kd38.symm.trans h9)) kk).trans (fl_eq (RelC.st rl15) (show (V45 1 3).toInt = 1 + 16 * (V11 6 10).toInt from by (first | exact om_f884d2586d25 r39 t44 | omega)))⟩), rw48⟩, by rw [ht]; exact hP, va_K.moved hW.alike hK, hD⟩, hS.F ht⟩) hS.2.2 dX1_takeCalled_23
