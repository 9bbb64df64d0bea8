/-! the reference's reader beside the machine -/
def TkM (V : Vf) (L : Lf) (T : Tk) (n : Nat) : Prop := n ≤ 4000 ∧ (∀ j, j < n → KR (T.1 j) (T.2.1 j) (V 4 j).toInt (L 6 j) ∧ T.2.2 j = (V 5 j).toInt) ∧ T.1 n = 0 ∧ (V 4 n).toInt = 0 ∧ T.2.2 n = (V 5 n).toInt ∧ ∀ k, k < 28 → L 10 k = kg 155 k
def NDl (l : List Int64) : Prop := ∀ i j (hi : i < l.length) (hj : j < l.length), l[i] = l[j] → i = j
def TBm (V : Vf) (L : Lf) (q : Nat) (s : St) (l2 : List Int64) : Prop := (LSw (s.2.1 0) (fun i => L 14 (24 * q + i)) (V 13 q).toInt ∧ NDl (s.2.1 0)) ∧ (LSw (s.2.1 1) (fun i => L 17 (12 * q + i)) (V 16 q).toInt ∧ NDl (s.2.1 1)) ∧ (LSw l2 (fun i => L 20 (24 * q + i)) (V 19 q).toInt ∧ NDl l2) ∧ (LSw (s.2.1 3) (fun i => L 36 (20 * q + i)) (V 35 q).toInt ∧ NDl (s.2.1 3)) ∧ (LSw (s.2.1 4) (fun i => L 38 (20 * q + i)) (V 37 q).toInt ∧ NDl (s.2.1 4))
def WRm (V : Vf) (q : Nat) (s : St) : Prop := (s.2.2.1.length : Int) = (V 39 q).toInt ∧ ∀ i (h : i < s.2.2.1.length), 0 ≤ (V 41 (12 * q + i)).toInt ∧ s.2.2.1[i] = ((V 41 (12 * q + i)).toInt.toNat, decide ((V 43 (12 * q + i)).toInt = 1))
def HDm (V : Vf) (q n : Nat) (s : St) : Prop := (V 0 7).toInt = ((s.1 0 : Nat) : Int) ∧ s.1 0 ≤ n ∧ (V 0 8).toInt = 0 ∧ (V 0 12).toInt = (q : Int) ∧ q < 2
def RelM (V : Vf) (L : Lf) (q n : Nat) (T : Tk) (s : St) (l2 : List Int64) : Prop := HDm V q n s ∧ TkM V L T n ∧ TBm V L q s l2 ∧ WRm V q s
def okm (fs : List (Nat × Nat)) (cs : List Nat) : Bool := cs.all (fun c => !([0, 4, 5, 13, 16, 19, 35, 37, 39, 41, 43].contains c)) && fs.all (fun x => !([(0, 7), (0, 8), (0, 12)].contains x) && decide (x.1 ≤ 0))
def okmL (ls : List Nat) : Bool := !ls.contains 6 && !ls.contains 10 && !ls.contains 14 && !ls.contains 17 && !ls.contains 20 && !ls.contains 36 && !ls.contains 38
theorem okm_use {fs : List (Nat × Nat)} {cs : List Nat} {V W : Vf} {X : List Nat} {Y : List (Nat × Nat)} (a : agr fs cs V W) (h : (cs.all (fun c => !(X.contains c)) && fs.all (fun x => !(Y.contains x) && decide (x.1 ≤ 0))) = true) {x k : Nat} (hx : X.contains x = true) (hy : 0 < x ∨ Y.contains (x, k) = true) : W x k = V x k := by
  refine a x k ?_
  unfold wrL
  rw [Bool.and_eq_true, List.all_eq_true, List.all_eq_true] at h
  rw [Bool.or_eq_false_iff]
  refine ⟨?_, ?_⟩
  · rw [← Bool.not_eq_true]
    intro q
    have z := h.2 _ (List.contains_iff_mem.mp q)
    rw [Bool.and_eq_true] at z
    have z2 : x ≤ 0 := of_decide_eq_true z.2
    rcases hy with hy | hy
    · omega
    · have z1 := z.1
      rw [hy] at z1
      exact absurd z1 (by decide)
  · rw [← Bool.not_eq_true]
    intro q
    have z := h.1 _ (List.contains_iff_mem.mp q)
    rw [hx] at z
    exact absurd z (by decide)
theorem okmL.use {ls : List Nat} {L M : Lf} (a : agL ls L M) (h : okmL ls = true) : M 6 = L 6 ∧ M 10 = L 10 ∧ M 14 = L 14 ∧ M 17 = L 17 ∧ M 20 = L 20 ∧ M 36 = L 36 ∧ M 38 = L 38 := by
  unfold okmL at h
  simp only [Bool.and_eq_true, Bool.not_eq_true'] at h
  exact ⟨funext (fun k => a 6 k h.1.1.1.1.1.1), funext (fun k => a 10 k h.1.1.1.1.1.2), funext (fun k => a 14 k h.1.1.1.1.2), funext (fun k => a 17 k h.1.1.1.2), funext (fun k => a 20 k h.1.1.2), funext (fun k => a 36 k h.1.2), funext (fun k => a 38 k h.2)⟩
theorem TkM.ag {V W : Vf} {L M : Lf} {T : Tk} {n : Nat} (h : TkM V L T n) (e4 : W 4 = V 4) (e5 : W 5 = V 5) (m6 : M 6 = L 6) (m10 : M 10 = L 10) : TkM W M T n := by
  unfold TkM at h ⊢
  rw [e4, e5, m6, m10]
  exact h
theorem TBm.ag {V W : Vf} {L M : Lf} {q : Nat} {s s' : St} {l2 : List Int64} (h : TBm V L q s l2) (e13 : W 13 q = V 13 q) (e16 : W 16 q = V 16 q) (e19 : W 19 q = V 19 q) (e35 : W 35 q = V 35 q) (e37 : W 37 q = V 37 q) (m14 : M 14 = L 14) (m17 : M 17 = L 17) (m20 : M 20 = L 20) (m36 : M 36 = L 36) (m38 : M 38 = L 38) (es : s'.2.1 = s.2.1) : TBm W M q s' l2 := by
  unfold TBm at h ⊢
  rw [e13, e16, e19, e35, e37, m14, m17, m20, m36, m38, es]
  exact h
theorem WRm.ag {V W : Vf} {q : Nat} {s s' : St} (h : WRm V q s) (e39 : W 39 = V 39) (e41 : W 41 = V 41) (e43 : W 43 = V 43) (es : s'.2.2.1 = s.2.2.1) : WRm W q s' := by
  unfold WRm at h ⊢
  rw [e39, e41, e43]
  obtain ⟨a, b1, l, d⟩ := s
  obtain ⟨a', b1', l', d'⟩ := s'
  have e : l' = l := es
  subst e
  exact h
theorem RelM.ag {V W : Vf} {L M : Lf} {q n : Nat} {T : Tk} {s : St} {l2 : List Int64} {fs : List (Nat × Nat)} {cs ls : List Nat} (h : RelM V L q n T s l2) (a : agr fs cs V W) (k : okm fs cs = true) (m : agL ls L M) (j : okmL ls = true) : RelM W M q n T s l2 := by
  have u := okmL.use m j
  have e7 : W 0 7 = V 0 7 := okm_use a k rfl (Or.inr rfl)
  have e8 : W 0 8 = V 0 8 := okm_use a k rfl (Or.inr rfl)
  have e12 : W 0 12 = V 0 12 := okm_use a k rfl (Or.inr rfl)
  refine ⟨by unfold HDm; rw [e7, e8, e12]; exact h.1, h.2.1.ag (funext fun q => okm_use a k (x := 4) rfl (Or.inl (by decide))) (funext fun q => okm_use a k (x := 5) rfl (Or.inl (by decide))) u.1 u.2.1, h.2.2.1.ag (okm_use a k (x := 13) rfl (Or.inl (by decide))) (okm_use a k (x := 16) rfl (Or.inl (by decide))) (okm_use a k (x := 19) rfl (Or.inl (by decide))) (okm_use a k (x := 35) rfl (Or.inl (by decide))) (okm_use a k (x := 37) rfl (Or.inl (by decide))) u.2.2.1 u.2.2.2.1 u.2.2.2.2.1 u.2.2.2.2.2.1 u.2.2.2.2.2.2 rfl, h.2.2.2.ag (funext fun q => okm_use a k (x := 39) rfl (Or.inl (by decide))) (funext fun q => okm_use a k (x := 41) rfl (Or.inl (by decide))) (funext fun q => okm_use a k (x := 43) rfl (Or.inl (by decide))) rfl⟩
theorem RelM.lt {V : Vf} {L : Lf} {q n : Nat} {T : Tk} {s : St} {l2 : List Int64} (h : RelM V L q n T s l2) (hk : T.1 (s.1 0) ≠ 0) : s.1 0 < n := by
  rcases Nat.lt_or_eq_of_le h.1.2.1 with c | c
  · exact c
  · rw [c, h.2.1.2.2.1] at hk
    exact absurd rfl hk
/-- one token on, one back -/
theorem RelM.mv {V W : Vf} {L : Lf} {q n : Nat} {T : Tk} {s s' : St} {l2 : List Int64} {z : Int32} (h : RelM V L q n T s l2) (e : W = up2 V 0 7 z) (hz : z.toInt = ((s'.1 0 : Nat) : Int)) (hn : s'.1 0 ≤ n) (e1 : s'.2.1 = s.2.1) (e2 : s'.2.2.1 = s.2.2.1) : RelM W L q n T s' l2 := by
  have f : ∀ x, ¬ x = 0 → W x = V x := fun x hx => up2_fo e hx
  have e7 : W 0 7 = z := up2_s e
  have e8 : W 0 8 = V 0 8 := up2_k e (by decide)
  have e12 : W 0 12 = V 0 12 := up2_k e (by decide)
  refine ⟨⟨by rw [e7]; exact hz, hn, by rw [e8]; exact h.1.2.2.1, by rw [e12]; exact h.1.2.2.2.1, h.1.2.2.2.2⟩, h.2.1.ag (f 4 (by decide)) (f 5 (by decide)) rfl rfl, h.2.2.1.ag (congrFun (f 13 (by decide)) _) (congrFun (f 16 (by decide)) _) (congrFun (f 19 (by decide)) _) (congrFun (f 35 (by decide)) _) (congrFun (f 37 (by decide)) _) rfl rfl rfl rfl rfl e1, h.2.2.2.ag (f 39 (by decide)) (f 41 (by decide)) (f 43 (by decide)) e2⟩
theorem RelM.n1 {V W : Vf} {L : Lf} {q n : Nat} {T : Tk} {s : St} {l2 : List Int64} {z : Int32} (h : RelM V L q n T s l2) (e : W = up2 V 0 7 z) (hz : z.toInt = (V 0 7).toInt + 1) (hk : T.1 (s.1 0) ≠ 0) : RelM W L q n T (nx s 1) l2 :=
  h.mv e (by rw [hz, h.1.1]; show _ = ((s.1 0 + 1 : Nat) : Int); omega) (h.lt hk) rfl rfl
theorem RelM.rg {V : Vf} {L : Lf} {q n : Nat} {T : Tk} {s : St} {l2 : List Int64} (h : RelM V L q n T s l2) : (V 0 7).toInt = ((s.1 0 : Nat) : Int) ∧ s.1 0 ≤ n ∧ (V 0 8).toInt = 0 ∧ (V 0 12).toInt = (q : Int) ∧ q < 2 ∧ n ≤ 4000 := ⟨h.1.1, h.1.2.1, h.1.2.2.1, h.1.2.2.2.1, h.1.2.2.2.2, h.2.1.1⟩
theorem RelM.cl {V : Vf} {L : Lf} {q n : Nat} {T : Tk} {s : St} {l2 : List Int64} (h : RelM V L q n T s l2) : Int32.toNatClampNeg (V 0 7) = s.1 0 := by
  have a := h.1.1
  have := i_clamp (x := V 0 7) rfl (by omega)
  omega
theorem RelM.cq {V : Vf} {L : Lf} {q n : Nat} {T : Tk} {s : St} {l2 : List Int64} (h : RelM V L q n T s l2) : Int32.toNatClampNeg (V 0 12) = q := by
  have a := h.1.2.2.2.1
  have := i_clamp (x := V 0 12) rfl (by omega)
  omega
/-- the start of the token at hand -/
theorem RelM.st {V : Vf} {L : Lf} {q n : Nat} {T : Tk} {s : St} {l2 : List Int64} (h : RelM V L q n T s l2) : T.2.2 (s.1 0) = (V 5 (s.1 0)).toInt := by
  rcases Nat.lt_or_eq_of_le h.1.2.1 with c | c
  · exact (h.2.1.2.1 _ c).2
  · rw [c]
    exact h.2.1.2.2.2.2.1
/-- a sign -/
theorem RelM.sg {V : Vf} {L : Lf} {q n : Nat} {T : Tk} {s : St} {l2 : List Int64} {c : Int32} (h : RelM V L q n T s l2) (hc : isSg c) : ((V 4 (s.1 0)).toInt = 3 ∧ L 6 (s.1 0) = c.toInt64) ↔ T.1 (s.1 0) = c.toInt := by
  have z := sg_rg hc
  rcases Nat.lt_or_eq_of_le h.1.2.1 with d | d
  · exact (h.2.1.2.1 _ d).1.sg hc
  · have a := h.2.1.2.2.1
    have b := h.2.1.2.2.2.1
    rw [d]
    exact ⟨fun x => by omega, fun x => by omega⟩
/-- a keyword -/
theorem RelM.kw {V : Vf} {L : Lf} {q n w : Nat} {T : Tk} {s : St} {l2 : List Int64} (h : RelM V L q n T s l2) (hw : w < 28) : ((V 4 (s.1 0)).toInt = 1 ∧ L 6 (s.1 0) = L 10 w) ↔ T.1 (s.1 0) = 128 + (w : Int) := by
  rw [h.2.1.2.2.2.2.2 w hw]
  rcases Nat.lt_or_eq_of_le h.1.2.1 with d | d
  · exact (h.2.1.2.1 _ d).1.kw hw
  · have a := h.2.1.2.2.1
    have b := h.2.1.2.2.2.1
    rw [d]
    exact ⟨fun x => by omega, fun x => by omega⟩
/-- a name -/
theorem RelM.nm {V : Vf} {L : Lf} {q n : Nat} {T : Tk} {s : St} {l2 : List Int64} (h : RelM V L q n T s l2) : ((V 4 (s.1 0)).toInt = 1 ∧ ∀ k : Nat, k < 28 → L 6 (s.1 0) ≠ L 10 k) ↔ T.1 (s.1 0) = 3 := by
  have e : (∀ k : Nat, k < 28 → L 6 (s.1 0) ≠ L 10 k) ↔ ∀ k : Nat, k < 28 → L 6 (s.1 0) ≠ kg 155 k := ⟨fun x k hk => by rw [← h.2.1.2.2.2.2.2 k hk]; exact x k hk, fun x k hk => by rw [h.2.1.2.2.2.2.2 k hk]; exact x k hk⟩
  rw [e]
  rcases Nat.lt_or_eq_of_le h.1.2.1 with d | d
  · exact (h.2.1.2.1 _ d).1.nm
  · have a := h.2.1.2.2.1
    have b := h.2.1.2.2.2.1
    rw [d]
    exact ⟨fun x => by omega, fun x => by omega⟩
/-- a number -/
theorem RelM.nb {V : Vf} {L : Lf} {q n : Nat} {T : Tk} {s : St} {l2 : List Int64} (h : RelM V L q n T s l2) : (V 4 (s.1 0)).toInt = 2 ↔ T.1 (s.1 0) = 2 := by
  rcases Nat.lt_or_eq_of_le h.1.2.1 with d | d
  · exact (h.2.1.2.1 _ d).1.nb
  · have a := h.2.1.2.2.1
    have b := h.2.1.2.2.2.1
    rw [d]
    exact ⟨fun x => by omega, fun x => by omega⟩
theorem RelM.vl {V : Vf} {L : Lf} {q n : Nat} {T : Tk} {s : St} {l2 : List Int64} (h : RelM V L q n T s l2) (k : T.1 (s.1 0) = 2 ∨ T.1 (s.1 0) = 3) : T.2.1 (s.1 0) = L 6 (s.1 0) := (h.2.1.2.1 _ (h.lt (by omega))).1.vl k
/-! the reference's table of names: the last place -/
def LF (f : Nat → Int64) (n : Int) (w : Int64) (r : Int) : Prop := (r = -1 ∧ ∀ i : Nat, (i : Int) < n → f i ≠ w) ∨ ∃ i : Nat, r = (i : Int) ∧ (i : Int) < n ∧ f i = w
theorem LF.no {f : Nat → Int64} {n : Int} {w : Int64} {r : Int} {l : List Int64} (h : LF f n w r) (k : LSw l f n) (hr : r = -1) : fndI l w = none := by
  unfold fndI
  rw [List.findIdx?_eq_none_iff]
  intro x hx
  obtain ⟨i, hi, e⟩ := List.getElem_of_mem hx
  rcases h with ⟨_, h⟩ | ⟨i, h, _⟩
  · have z := h i (by have := k.1; omega)
    rw [← k.2 i hi, e] at z
    exact beq_false_of_ne z
  · omega
theorem LF.yes {f : Nat → Int64} {n : Int} {w : Int64} {r : Int} {l : List Int64} (h : LF f n w r) (k : LSw l f n) (d : NDl l) (hr : 0 ≤ r) : fndI l w = some r.toNat := by
  unfold fndI
  rcases h with ⟨h, _⟩ | ⟨i, h, a, b⟩
  · omega
  · have hi : i < l.length := by have := k.1; omega
    rw [h, Int.toNat_natCast, List.findIdx?_eq_some_iff_getElem]
    refine ⟨hi, ?_, fun j hj => ?_⟩
    · rw [k.2 i hi, b]
      exact beq_self_eq_true w
    · have z : l[j] ≠ w := fun q => by
        have e := d j i (by omega) hi (by rw [q, k.2 i hi, b])
        omega
      rw [beq_false_of_ne z]
      exact Bool.false_ne_true
theorem NDl.add {l : List Int64} {w : Int64} (d : NDl l) (h : fndI l w = none) : NDl (l ++ [w]) := by
  have hn : ∀ i (hi : i < l.length), l[i] ≠ w := fun i hi q => by
    unfold fndI at h
    rw [List.findIdx?_eq_none_iff] at h
    have z := h l[i] (List.getElem_mem hi)
    rw [q] at z
    rw [beq_self_eq_true] at z
    exact absurd z (by decide)
  intro i j hi hj e
  rw [List.length_append] at hi hj
  have hi2 : i < l.length + 1 := hi
  have hj2 : j < l.length + 1 := hj
  by_cases ci : i < l.length
  · rw [List.getElem_append_left ci] at e
    by_cases cj : j < l.length
    · rw [List.getElem_append_left cj] at e
      exact d i j ci cj e
    · rw [List.getElem_append_right (by omega)] at e
      exact absurd (e.trans (List.getElem_singleton _)) (hn i ci)
  · rw [List.getElem_append_right (by omega)] at e
    by_cases cj : j < l.length
    · rw [List.getElem_append_left cj] at e
      exact absurd (e.symm.trans (List.getElem_singleton _)) (hn j cj)
    · omega
/-! E's of the reference: where it stands -/
def EM (V : Vf) (s : St) : Prop := (0 ≤ (V 0 51).toInt ↔ s.1 4 = 0) ∧ ((V 0 52).toInt = 1 ↔ s.1 4 = 2) ∧ (0 ≤ (V 0 51).toInt → (V 27 (Int32.toNatClampNeg (V 0 51))).toInt = ((s.1 1 : Nat) : Int))
theorem EM.mv {V W : Vf} {s s' : St} (h : EM V s) (e51 : W 0 51 = V 0 51) (e52 : W 0 52 = V 0 52) (e27 : W 27 = V 27) (k : ∀ i, 1 ≤ i → s'.1 i = s.1 i) : EM W s' := by
  unfold EM at h ⊢
  rw [e51, e52, e27, k 1 (by decide), k 4 (by decide)]
  exact h
abbrev RdM (T : Tk) (s : St) (inn out : List It → List It) (flt : Int) (P : St → Prop) : Prop := (flt = 0 ∧ ∃ s' : St, (∀ k, Rc T (Crun s (inn k)) (Crun s' (out k))) ∧ P s') ∨ (1 ≤ flt ∧ ∀ k, Rc T (Crun s (inn k)) (Cbad flt))
abbrev KmN (F : (Nat → Cf) → Cf) (flt : Int) (P : Nat → Prop) : Prop := (flt = 0 ∧ ∃ x : Nat, (∀ kk, F kk = kk x) ∧ P x) ∨ (1 ≤ flt ∧ ∀ kk, F kk = Cbad flt)
abbrev KmW (F : (Int64 → Cf) → Cf) (flt : Int) (P : Int64 → Prop) : Prop := (flt = 0 ∧ ∃ x : Int64, (∀ kk, F kk = kk x) ∧ P x) ∨ (1 ≤ flt ∧ ∀ kk, F kk = Cbad flt)
abbrev KmS (F : (Nat × St → Cf) → Cf) (flt : Int) (P : Nat × St → Prop) : Prop := (flt = 0 ∧ ∃ x : Nat × St, (∀ kk, F kk = kk x) ∧ P x) ∨ (1 ≤ flt ∧ ∀ kk, F kk = Cbad flt)
/-- a METHOD or WORD was found, or is new -/
def MTX (T : Tk) (s : St) (j : Nat) (x : Nat × St) : Prop := (fndI (s.2.1 j) (T.2.1 (s.1 0)) = some x.1 ∧ x.2 = nx s 1) ∨ (fndI (s.2.1 j) (T.2.1 (s.1 0)) = none ∧ x.1 = (s.2.1 j).length ∧ x.2 = sA (nx s 1) j (T.2.1 (s.1 0)))
theorem W0 {V : Vf} {L : Lf} {q n : Nat} {T : Tk} {s : St} {l2 : List Int64} (h : RelM V L q n T s l2) : (V 0 8).toInt = 0 := h.1.2.2.1
theorem RelM.len {V : Vf} {L : Lf} {q n : Nat} {T : Tk} {s : St} {l2 : List Int64} (h : RelM V L q n T s l2) : ((s.2.1 0).length : Int) = (V 13 q).toInt ∧ ((s.2.1 1).length : Int) = (V 16 q).toInt ∧ (l2.length : Int) = (V 19 q).toInt ∧ ((s.2.1 3).length : Int) = (V 35 q).toInt ∧ ((s.2.1 4).length : Int) = (V 37 q).toInt ∧ (s.2.2.1.length : Int) = (V 39 q).toInt := ⟨h.2.2.1.1.1.1, h.2.2.1.2.1.1.1, h.2.2.1.2.2.1.1.1, h.2.2.1.2.2.2.1.1.1, h.2.2.1.2.2.2.2.1.1, h.2.2.2.1⟩
/-- a METHOD more, a WORD more -/
theorem LSw.ad {l : List Int64} {L M : Lf} {c q m : Nat} {a x x' : Int} {w : Int64} (h : LSw l (fun i => L c (m * q + i)) x) (e : M = upL L c a.toNat w) (ha : a = ((m * q : Nat) : Int) + x) (hx0 : 0 ≤ x) (hx : x' = x + 1) : LSw (l ++ [w]) (fun i => M c (m * q + i)) x' := by
  have h1 := h.1
  refine h.add hx ?_ (fun i hi => ?_)
  · show M c (m * q + x.toNat) = w
    have ea : m * q + x.toNat = a.toNat := by omega
    rw [ea]
    exact upL_s e
  · show M c (m * q + i) = L c (m * q + i)
    rw [e]
    unfold upL vp_updL
    rw [if_pos rfl, if_neg (by omega)]
theorem RelM.a3 {V W : Vf} {L M : Lf} {q n : Nat} {T : Tk} {s : St} {l2 : List Int64} {w : Int64} {a z : Int32} (h : RelM V L q n T s l2) (f : fndI (s.2.1 3) w = none) (e : M = upL L 36 (Int32.toNatClampNeg a) w) (ha : a.toInt = ((20 * q : Nat) : Int) + (V 35 q).toInt) (ev : W = up2 V 35 q z) (hz : z.toInt = (V 35 q).toInt + 1) (h0 : 0 ≤ (V 35 q).toInt) : RelM W M q n T (sA s 3 w) l2 := by
  have g : ∀ x, ¬ x = 35 → W x = V x := fun x hx => up2_fo ev hx
  have m : ∀ x, x ≠ 36 → M x = L x := fun x hx => upL_o e hx
  have w35 : W 35 q = z := up2_s ev
  have t := h.2.2.1
  refine ⟨by unfold HDm; rw [g 0 (by decide)]; exact h.1, h.2.1.ag (g 4 (by decide)) (g 5 (by decide)) (m 6 (by decide)) (m 10 (by decide)), ⟨?_, ?_, ?_, ?_, ?_⟩, h.2.2.2.ag (g 39 (by decide)) (g 41 (by decide)) (g 43 (by decide)) rfl⟩
  · rw [g 13 (by decide), m 14 (by decide)]
    exact t.1
  · rw [g 16 (by decide), m 17 (by decide)]
    exact t.2.1
  · rw [g 19 (by decide), m 20 (by decide)]
    exact t.2.2.1
  · rw [w35]
    exact ⟨LSw.ad (a := a.toInt) t.2.2.2.1.1 e ha h0 hz, t.2.2.2.1.2.add f⟩
  · rw [g 37 (by decide), m 38 (by decide)]
    exact t.2.2.2.2
theorem RelM.a4 {V W : Vf} {L M : Lf} {q n : Nat} {T : Tk} {s : St} {l2 : List Int64} {w : Int64} {a z : Int32} (h : RelM V L q n T s l2) (f : fndI (s.2.1 4) w = none) (e : M = upL L 38 (Int32.toNatClampNeg a) w) (ha : a.toInt = ((20 * q : Nat) : Int) + (V 37 q).toInt) (ev : W = up2 V 37 q z) (hz : z.toInt = (V 37 q).toInt + 1) (h0 : 0 ≤ (V 37 q).toInt) : RelM W M q n T (sA s 4 w) l2 := by
  have g : ∀ x, ¬ x = 37 → W x = V x := fun x hx => up2_fo ev hx
  have m : ∀ x, x ≠ 38 → M x = L x := fun x hx => upL_o e hx
  have w37 : W 37 q = z := up2_s ev
  have t := h.2.2.1
  refine ⟨by unfold HDm; rw [g 0 (by decide)]; exact h.1, h.2.1.ag (g 4 (by decide)) (g 5 (by decide)) (m 6 (by decide)) (m 10 (by decide)), ⟨?_, ?_, ?_, ?_, ?_⟩, h.2.2.2.ag (g 39 (by decide)) (g 41 (by decide)) (g 43 (by decide)) rfl⟩
  · rw [g 13 (by decide), m 14 (by decide)]
    exact t.1
  · rw [g 16 (by decide), m 17 (by decide)]
    exact t.2.1
  · rw [g 19 (by decide), m 20 (by decide)]
    exact t.2.2.1
  · rw [g 35 (by decide), m 36 (by decide)]
    exact t.2.2.2.1
  · rw [w37]
    exact ⟨LSw.ad (a := a.toInt) t.2.2.2.2.1 e ha h0 hz, t.2.2.2.2.2.add f⟩
/-! the code, as the reference holds it -/
def onM (p : Nat) (s : St) (i : Nat) (x : Int32) : Prop := (nL s (2000 + 3 * i) = 2 → x = ((s.2.1 (2001 + 3 * i)).headD 0).toInt32) ∧ (nL s (2000 + 3 * i) = 12 ∨ nL s (2000 + 3 * i) = 13 → x.toInt = if nL s (2001 + 3 * i) = 0 then 0 else (p : Int) + ((nL s (2001 + 3 * i) : Nat) : Int)) ∧ (nL s (2000 + 3 * i) ≠ 2 → ¬ (nL s (2000 + 3 * i) = 12 ∨ nL s (2000 + 3 * i) = 13) → x.toInt = ((nL s (2001 + 3 * i) : Nat) : Int))
def CDmr (V : Vf) (p : Nat) (s : St) (i : Nat) : Prop := (V 45 (p + i)).toInt = ((nL s (2000 + 3 * i) : Nat) : Int) ∧ onM p s i (V 46 (p + i)) ∧ (V 47 (p + i)).toInt = ((nL s (2002 + 3 * i) : Nat) : Int)
def CDm (V : Vf) (p : Nat) (s : St) : Prop := (V 0 48).toInt = ((cl s : Nat) : Int) ∧ (V 0 49).toInt = (p : Int) ∧ ∀ i, i < cl s → CDmr V p s i
theorem CDmr.mv {V W : Vf} {p i : Nat} {s s' : St} (h : CDmr V p s i) (e : ∀ x, 45 ≤ x → x ≤ 47 → W x (p + i) = V x (p + i)) (n0 : nL s' (2000 + 3 * i) = nL s (2000 + 3 * i)) (l1 : s'.2.1 (2001 + 3 * i) = s.2.1 (2001 + 3 * i)) (n2 : nL s' (2002 + 3 * i) = nL s (2002 + 3 * i)) : CDmr W p s' i := by
  have n1 : nL s' (2001 + 3 * i) = nL s (2001 + 3 * i) := congrArg List.length l1
  unfold CDmr onM at h ⊢
  rw [e 45 (by decide) (by decide), e 46 (by decide) (by decide), e 47 (by decide) (by decide), n0, n1, n2, l1]
  exact h
theorem CDm.ag {fs : List (Nat × Nat)} {cs : List Nat} {V W : Vf} {p : Nat} {s : St} (h : CDm V p s) (a : agr fs cs V W) (q : wrL fs cs 0 48 = false ∧ wrL fs cs 0 49 = false ∧ ∀ k, wrL fs cs 45 k = false ∧ wrL fs cs 46 k = false ∧ wrL fs cs 47 k = false) : CDm W p s := by
  refine ⟨by rw [a _ _ q.1]; exact h.1, by rw [a _ _ q.2.1]; exact h.2.1, fun i hi => (h.2.2 i hi).mv (fun x h1 h2 => a _ _ ?_) rfl rfl rfl⟩
  have z := q.2.2 (p + i)
  rcases (show x = 45 ∨ x = 46 ∨ x = 47 from by omega) with r | r | r <;> rw [r]
  · exact z.1
  · exact z.2.1
  · exact z.2.2
theorem CDm.mv {V : Vf} {p : Nat} {s s' : St} (h : CDm V p s) (e : ∀ j, j = 5 ∨ 2000 ≤ j → s'.2.1 j = s.2.1 j) : CDm V p s' := by
  have ec : cl s' = cl s := congrArg List.length (e 5 (by decide))
  refine ⟨by rw [ec]; exact h.1, h.2.1, fun i hi => ?_⟩
  rw [ec] at hi
  exact (h.2.2 i hi).mv (fun _ _ _ => rfl) (congrArg List.length (e _ (by omega))) (e _ (by omega)) (congrArg List.length (e _ (by omega)))
theorem CDm.em {V W : Vf} {p : Nat} {s : St} {c a d : Int32} {o : Nat} {x : List Int64} {y : Nat} (h : CDm V p s) (n1 : (W 0 48).toInt = (V 0 48).toInt + 1) (n2 : W 0 49 = V 0 49) (e : emitted V W (pA V) c a d) (hc : c.toInt = (o : Int)) (ha : o = 2 → a = (x.headD 0).toInt32) (hj : o = 12 ∨ o = 13 → x = [] ∧ a.toInt = 0) (hx : o ≠ 2 → ¬ (o = 12 ∨ o = 13) → a.toInt = (x.length : Int)) (hd : d.toInt = (y : Int)) : CDm W p (emL s o x y) := by
  have c1 := h.1
  have c2 := h.2.1
  have pe : pA V = p + cl s := by
    unfold pA
    omega
  rw [pe] at e
  refine ⟨by rw [cl_em]; omega, by rw [n2]; exact c2, fun i hi => ?_⟩
  rw [cl_em] at hi
  by_cases q : i = cl s
  · rw [q]
    unfold CDmr onM
    rw [xl_em, op_em, x_em, y_em, e.1.1, e.1.2.1, e.1.2.2]
    refine ⟨hc, ⟨ha, fun j => ?_, hx⟩, hd⟩
    rw [(hj j).1, (hj j).2]
    rfl
  · refine (h.2.2 i (by omega)).mv (fun x9 h1 h2 => ?_) (nL_em s o x y (by omega) (Or.inl (by omega))) (emS_o s o x y (by omega) (Or.inl (by omega))) (nL_em s o x y (by omega) (Or.inl (by omega)))
    have z := e.2 (p + i) (by omega)
    rcases (show x9 = 45 ∨ x9 = 46 ∨ x9 = 47 from by omega) with r | r | r <;> rw [r]
    · exact z.1
    · exact z.2.1
    · exact z.2.2
theorem CDm.e0 {V W : Vf} {p : Nat} {s : St} {c a d : Int32} {o : Nat} (h : CDm V p s) (n1 : (W 0 48).toInt = (V 0 48).toInt + 1) (n2 : W 0 49 = V 0 49) (e : emitted V W (pA V) c a d) (hc : c.toInt = (o : Int)) (o2 : ¬ o = 2) (ha : a.toInt = 0) (hd : d.toInt = 0) : CDm W p (emS s o 0 0) :=
  h.em n1 n2 e hc (fun q => absurd q o2) (fun _ => ⟨rfl, ha⟩) (fun _ _ => ha) hd
theorem CDm.e2 {V W : Vf} {p : Nat} {s : St} {c a d : Int32} {o x y : Nat} (h : CDm V p s) (n1 : (W 0 48).toInt = (V 0 48).toInt + 1) (n2 : W 0 49 = V 0 49) (e : emitted V W (pA V) c a d) (hc : c.toInt = (o : Int)) (o2 : ¬ o = 2) (oj : ¬ (o = 12 ∨ o = 13)) (ha : a.toInt = (x : Int)) (hd : d.toInt = (y : Int)) : CDm W p (emS s o x y) :=
  h.em n1 n2 e hc (fun q => absurd q o2) (fun q => absurd q oj) (fun _ _ => by rw [List.length_replicate]; exact ha) hd
theorem CDm.ew {V W : Vf} {p : Nat} {s : St} {c a d : Int32} {v : Int64} (h : CDm V p s) (n1 : (W 0 48).toInt = (V 0 48).toInt + 1) (n2 : W 0 49 = V 0 49) (e : emitted V W (pA V) c a d) (hc : c.toInt = ((2 : Nat) : Int)) (ha : a = v.toInt32) (hd : d.toInt = 0) : CDm W p (emL s 2 [v] 0) :=
  h.em n1 n2 e hc (fun _ => ha) (fun q => by omega) (fun q => absurd rfl q) hd
theorem CDm.pt {V W : Vf} {p i k : Nat} {s : St} {z : Int32} (h : CDm V p s) (e : W = up2 V 46 k z) (hk : k = p + i) (hi : i < cl s) (ho : nL s (2000 + 3 * i) = 12 ∨ nL s (2000 + 3 * i) = 13) (hz : z.toInt = (p : Int) + ((cl s : Nat) : Int)) : CDm W p (ptS s i (cl s)) := by
  refine ⟨by rw [up2_o e (by decide), cl_pt]; exact h.1, by rw [up2_o e (by decide)]; exact h.2.1, fun j hj => ?_⟩
  rw [cl_pt] at hj
  have y := h.2.2 j hj
  have n0 : nL (ptS s i (cl s)) (2000 + 3 * j) = nL s (2000 + 3 * j) := nL_o s _ (by omega)
  have n2 : nL (ptS s i (cl s)) (2002 + 3 * j) = nL s (2002 + 3 * j) := nL_o s _ (by omega)
  by_cases q : j = i
  · rw [q] at y n0 n2 ⊢
    have n1 : nL (ptS s i (cl s)) (2001 + 3 * i) = cl s := nL_s s _ _
    unfold CDmr onM at y ⊢
    have e45 : W 45 (p + i) = V 45 (p + i) := up2_o e (by decide)
    have e47 : W 47 (p + i) = V 47 (p + i) := up2_o e (by decide)
    have e46 : W 46 (p + i) = z := by rw [← hk]; exact up2_s e
    rw [n0, n1, n2, e45, e46, e47]
    refine ⟨y.1, ⟨fun q2 => by omega, fun _ => ?_, fun _ q2 => absurd ho q2⟩, y.2.2⟩
    rw [if_neg (by omega)]
    exact hz
  · refine y.mv (fun x h1 h2 => ?_) n0 (sL_o s _ (by omega)) n2
    by_cases r : x = 46
    · rw [r]
      exact up2_k e (by omega)
    · exact up2_o e r
theorem CDm.ptk {V W : Vf} {p i k : Nat} {a s : St} {z : Int32} (h : CDm V p s) (e : W = up2 V 46 k z) (hk : k = p + i) (t : keepE a s) (hi : i < cl a) (ho : nL a (2000 + 3 * i) = 12 ∨ nL a (2000 + 3 * i) = 13) (hz : z.toInt = (p : Int) + ((cl s : Nat) : Int)) : CDm W p (ptS s i (cl s)) :=
  h.pt e hk (Nat.lt_of_lt_of_le hi t.1) (by rw [t.op hi]; exact ho) hz
theorem RelM.sl {V : Vf} {L : Lf} {q n : Nat} {T : Tk} {s s' : St} {l2 : List Int64} (h : RelM V L q n T s l2) (e1 : s'.1 0 = s.1 0) (e2 : ∀ j, j < 5 → s'.2.1 j = s.2.1 j) (e3 : s'.2.2 = s.2.2) : RelM V L q n T s' l2 := by
  unfold RelM HDm TBm WRm at h ⊢
  rw [e1, e2 0 (by decide), e2 1 (by decide), e2 3 (by decide), e2 4 (by decide), e3]
  exact h
theorem RelM.em {V : Vf} {L : Lf} {q n : Nat} {T : Tk} {s : St} {l2 : List Int64} {o : Nat} {x : List Int64} {y : Nat} (h : RelM V L q n T s l2) : RelM V L q n T (emL s o x y) l2 := h.sl rfl (fun j hj => emS_5 s o x y j hj) rfl
theorem RelM.gl {V : Vf} {L : Lf} {q n : Nat} {T : Tk} {s : St} {l2 : List Int64} {k : Nat} {x : List Int64} (h : RelM V L q n T s l2) (hk : 5 ≤ k) : RelM V L q n T (sLl s k x) l2 := h.sl rfl (fun j hj => sL_o s x (by omega)) rfl
/-! the other half's names stay -/
def RoV (c q : Nat) (V W : Vf) : Prop := ∀ k, ¬ k = q → W c k = V c k
def NoV (c : Nat) (V W : Vf) : Prop := ∀ k, W c k = V c k
def RoW (c n q : Nat) (V W : Vf) : Prop := ∀ k, ¬ (n * q ≤ k ∧ k < n * q + n) → W c k = V c k
def RoL (c n q : Nat) (L M : Lf) : Prop := ∀ k, ¬ (n * q ≤ k ∧ k < n * q + n) → M c k = L c k
def NoL (c : Nat) (L M : Lf) : Prop := ∀ k, M c k = L c k
theorem upL_k {L M : Lf} {c k k' : Nat} {v : Int64} (h : M = upL L c k v) (n : ¬ k' = k) : M c k' = L c k' := by
  rw [h]
  unfold upL vp_updL
  rw [if_pos rfl, if_neg n]
theorem upL_x {L M : Lf} {c c' k k' : Nat} {v : Int64} (h : M = upL L c k v) (n : ¬ c' = c) : M c' k' = L c' k' := by
  rw [h]
  unfold upL
  rw [if_neg n]


abbrev r_s_wrongA : Room := { frames := 0, cells := 0, slots := 0, locals := 0 }
abbrev q_s_wrongA (D : va_G) (ks : KS) (ad : Nat → Nat) (kk : Nat → ClassId) (V : Vf) (L : Lf) (p0 : Int32) (bq : Nat) (gn : Nat) (gT : Tk) (gs : St) (gl : List Int64) (A : Nat → Prop) : Array Value → State → Outcome → State → Prop := va_Qv (fun (u : Vf × Lf) => rgd bM u.1 ∧ agr [(0, 8)] [] V u.1 ∧ u.2 = L ∧ (1 ≤ (u.1 0 8).toInt) ∧ ((u.1 0 8).toInt = p0.toInt + 16 * gT.2.2 (gs.1 0))) (fun u t => gq D A (mw ad kk ks.1 u.1 u.2) (mty kk) t) A
set_option maxHeartbeats 4000000 in
set_option maxRecDepth 100000 in
theorem s_wrongA (l : Launch) (D : va_G) (ks : KS) (sz : Nat) (ad : Nat → Nat) (kk : Nat → ClassId) (V : Vf) (L : Lf) (p0 : Int32) (bq : Nat) (gn : Nat) (gT : Tk) (gs : St) (gl : List Int64) (hMV : rgd bM V) (rg_p0 : 1 ≤ p0.toInt ∧ p0.toInt ≤ 5) (rel : RelM V L bq gn gT gs gl)  : Met l yX12_wrong (Cond.code yX12_wrong cX12_wrong 2 none :: GW) r_s_wrongA (va_Pc [.ref (ad 0), .int p0] (gp D ks (mw ad kk ks.1 V L) (mty kk) sz)) (q_s_wrongA D ks ad kk V L p0 bq gn gT gs gl (va_A (mw ad kk ks.1 V L) sz)) 0 0 (va_A (mw ad kk ks.1 V L) sz) := by
  refine g_met (q_s_wrongA D ks ad kk V L p0 bq gn gT gs gl) (by decide) (Nat.le_of_ble_eq_true rfl) ?_
  intro p e s m below meth c A ls H locs hx hb hr hml hown hg hlocks hin hnw hgk hP hK hD hS hA hl
  have hown : s.vm.findClass RX12 = some m.cls := hown
  have hl : lv_has ls 2 [(0, .ref (ad 0)), (1, .int p0)] := hl
  have hP : va_P D vwCl (mw ad kk ks.1 V L) H := hP
  have hD : va_D A (mw ad kk ks.1 V L) := hD
  have hK : va_K D vwCl (mty kk) s := hK
  have agV : agr [(0, 8)] [] V V := agr.rf
  have rf_p0 := i_full p0
  have rg0 := RelM.rg rel
  have cl0 := RelM.cl rel
  have cq0 := RelM.cq rel
  refine lv_aload_n hx hb dX12_wrong_0 rfl (lv_at hl 0 rfl) ?_
  refine va_get (D := D) (ci := 12) (v := .int (V 0 8)) (C := RX12) (T := TX12) (N := 100) hx hb hg inX12 hown hK hP 0 rfl rfl 8 (by decide) (hg _ w1714) (fun _ h9 => h9) rfl dX12_wrong_1 ?_
  have r1 : 0 ≤ ((V 0 8)).toInt ∧ ((V 0 8)).toInt ≤ 70000 := hMV 0 8
  refine lv_if_ne (tgt := 25) hx hb dX12_wrong_4 (by decide) (fun c2 => ?_) (fun c2 => ?_)
  · skip
    have f3 : ((V 0 8)).toInt ≠ 0 := b_neq rfl (by decide) c2
    exfalso; (first | exact om_0b51723c7ef6 rg0.2.2.1 f3 | omega)
  · skip
    have f4 : ((V 0 8)).toInt = 0 := b_eq rfl (by decide) c2
    refine lv_aload_n hx hb dX12_wrong_7 rfl (lv_at hl 0 rfl) ?_
    refine lv_iload_n hx hb dX12_wrong_8 rfl (lv_at hl 1 rfl) ?_
    refine lv_bipush (v := 16) hx hb dX12_wrong_9 (by decide) ?_
    refine lv_aload_n hx hb dX12_wrong_11 rfl (lv_at hl 0 rfl) ?_
    refine va_get (D := D) (ci := 12) (v := .ref (ad 5)) (C := RX12) (T := TX12) (N := 100) hx hb hg inX12 hown hK hP 0 rfl rfl 5 (by decide) (hg _ w1711) (fun _ h9 => h9) rfl dX12_wrong_12 ?_
    refine lv_aload_n hx hb dX12_wrong_15 rfl (lv_at hl 0 rfl) ?_
    refine va_get (D := D) (ci := 12) (v := .int (V 0 7)) (C := RX12) (T := TX12) (N := 100) hx hb hg inX12 hown hK hP 0 rfl rfl 7 (by decide) (hg _ w1713) (fun _ h9 => h9) rfl dX12_wrong_16 ?_
    refine va_iald (D := D) (i := (V 0 7)) hx hb hK hP 3 2 rfl rfl (i_in (a := ((V 0 7)).toInt) rfl (by omega)) dX12_wrong_19 ?_
    have r5 : 0 ≤ ((V 5 (Int32.toNatClampNeg (V 0 7)))).toInt ∧ ((V 5 (Int32.toNatClampNeg (V 0 7)))).toInt ≤ 4000 := hMV 5 (Int32.toNatClampNeg (V 0 7))
    refine lv_imul hx hb dX12_wrong_20 ?_
    refine lv_topi (fun z6 ez6 => ?_)
    have hz6 : z6.toInt = 16 * ((V 5 (Int32.toNatClampNeg (V 0 7)))).toInt := i_mul ez6 (by decide) rfl (by (first | exact om_6843b3d39a18 r5.1 r5.2 | omega))
    refine lv_iadd hx hb dX12_wrong_21 ?_
    refine lv_topi (fun z7 ez7 => ?_)
    have hz7 : z7.toInt = p0.toInt + z6.toInt := i_add ez7 rfl rfl (by (first | exact om_ddbdbfc8487c rg_p0.1 rg_p0.2 r5.1 r5.2 hz6 | omega))
    refine va_put (D := D) (ci := 12) (v := .int z7) (ty := tyX12 8) (C := RX12) (T := TX12) (N := 100) hx hb hg inX12 tyX12 tyX12_ok nmX12 hown hK hP hD hS 0 rfl rfl 8 (by decide) (hg _ w1714) (fun _ h9 => h9) rfl (tyX12_ok 8 (by decide)) rfl rfl (Nat.le_of_ble_eq_true rfl) dX12_wrong_22 (fun H locs hP hD hS => ?_)
    obtain ⟨V8, hV8⟩ : ∃ z, z = up2 V 0 8 z7 := ⟨_, rfl⟩
    have hP : va_P D vwCl (mw ad kk ks.1 V8 L) H := by rw [hV8]; exact hP
    have hD : va_D A (mw ad kk ks.1 V8 L) := by rw [hV8]; exact hD
    have hMV8 : rgd bM V8 := hMV.put hV8 (show 0 ≤ z7.toInt ∧ z7.toInt ≤ 70000 from by (first | exact om_eaaaa04a7877 rg_p0.1 rg_p0.2 r5.1 r5.2 hz6 hz7 | omega))
    have agV8 : agr [(0, 8)] [] V V8 := agV.up hV8 rfl
    have pq9 : (V8 0 8).toInt = z7.toInt := congrArg Int32.toInt (up2_s hV8)
    exact W.vret hx hb hr (fun t ht hW => ⟨⟨(V8, L), rfl, ⟨hMV8, agV8, rfl, (show 1 ≤ (V8 0 8).toInt from by (first | exact om_48d376e72754 rg_p0.1 r5.1 hz6 hz7 pq9 | omega)), (by rw [RelM.st rel, ← cl0]; show (V8 0 8).toInt = _; omega)⟩, by rw [ht]; exact hP, va_K.moved hW.alike hK, hD⟩, hS.F ht⟩) hS.2.2 dX12_wrong_25
abbrev r_s_wrongB : Room := { frames := 0, cells := 0, slots := 0, locals := 0 }
abbrev q_s_wrongB (D : va_G) (ks : KS) (ad : Nat → Nat) (kk : Nat → ClassId) (V : Vf) (L : Lf) (p0 : Int32) (A : Nat → Prop) : Array Value → State → Outcome → State → Prop := va_Qv (fun (u : Vf × Lf) => rgd bM u.1 ∧ agr [(0, 8)] [] V u.1 ∧ u.2 = L ∧ ((u.1 0 8).toInt = (V 0 8).toInt)) (fun u t => gq D A (mw ad kk ks.1 u.1 u.2) (mty kk) t) A
set_option maxHeartbeats 4000000 in
set_option maxRecDepth 100000 in
theorem s_wrongB (l : Launch) (D : va_G) (ks : KS) (sz : Nat) (ad : Nat → Nat) (kk : Nat → ClassId) (V : Vf) (L : Lf) (p0 : Int32) (hMV : rgd bM V) (bf : 1 ≤ (V 0 8).toInt)  : Met l yX12_wrong (Cond.code yX12_wrong cX12_wrong 2 none :: GW) r_s_wrongB (va_Pc [.ref (ad 0), .int p0] (gp D ks (mw ad kk ks.1 V L) (mty kk) sz)) (q_s_wrongB D ks ad kk V L p0 (va_A (mw ad kk ks.1 V L) sz)) 0 0 (va_A (mw ad kk ks.1 V L) sz) := by
  refine g_met (q_s_wrongB D ks ad kk V L p0) (by decide) (Nat.le_of_ble_eq_true rfl) ?_
  intro p e s m below meth c A ls H locs hx hb hr hml hown hg hlocks hin hnw hgk hP hK hD hS hA hl
  have hown : s.vm.findClass RX12 = some m.cls := hown
  have hl : lv_has ls 2 [(0, .ref (ad 0)), (1, .int p0)] := hl
  have hP : va_P D vwCl (mw ad kk ks.1 V L) H := hP
  have hD : va_D A (mw ad kk ks.1 V L) := hD
  have hK : va_K D vwCl (mty kk) s := hK
  have agV : agr [(0, 8)] [] V V := agr.rf
  have rf_p0 := i_full p0
  have r1 : 0 ≤ ((V 0 8)).toInt ∧ ((V 0 8)).toInt ≤ 70000 := hMV 0 8
  refine lv_aload_n hx hb dX12_wrong_0 rfl (lv_at hl 0 rfl) ?_
  refine va_get (D := D) (ci := 12) (v := .int (V 0 8)) (C := RX12) (T := TX12) (N := 100) hx hb hg inX12 hown hK hP 0 rfl rfl 8 (by decide) (hg _ w1714) (fun _ h9 => h9) rfl dX12_wrong_1 ?_
  refine lv_if_ne (tgt := 25) hx hb dX12_wrong_4 (by decide) (fun c2 => ?_) (fun c2 => ?_)
  · skip
    have f3 : ((V 0 8)).toInt ≠ 0 := b_neq rfl (by decide) c2
    exact W.vret hx hb hr (fun t ht hW => ⟨⟨(V, L), rfl, ⟨hMV, agV, rfl, (show (V 0 8).toInt = (V 0 8).toInt from by (first | exact om_4c2c879c4424 | omega))⟩, by rw [ht]; exact hP, va_K.moved hW.alike hK, hD⟩, hS.F ht⟩) hS.2.2 dX12_wrong_25
  · skip
    have f4 : ((V 0 8)).toInt = 0 := b_eq rfl (by decide) c2
    exfalso; (first | exact om_09885ab343b9 bf f4 | omega)
abbrev r_s_isSignA : Room := { frames := 0, cells := 0, slots := 0, locals := 0 }
abbrev q_s_isSignA (D : va_G) (ks : KS) (ad : Nat → Nat) (kk : Nat → ClassId) (V : Vf) (L : Lf) (p0 : Int32) (bq : Nat) (gn : Nat) (gT : Tk) (gs : St) (gl : List Int64) (A : Nat → Prop) : Array Value → State → Outcome → State → Prop := va_Qi (fun (r : Int32) (_ : Unit) => (0 ≤ r.toInt ∧ r.toInt ≤ 1) ∧ ((r.toInt = 1 ∧ gT.1 (gs.1 0) = p0.toInt) ∨ (r.toInt = 0 ∧ gT.1 (gs.1 0) ≠ p0.toInt))) (fun _ t => gq D A (mw ad kk ks.1 V L) (mty kk) t) A
set_option maxHeartbeats 4000000 in
set_option maxRecDepth 100000 in
theorem s_isSignA (l : Launch) (D : va_G) (ks : KS) (sz : Nat) (ad : Nat → Nat) (kk : Nat → ClassId) (V : Vf) (L : Lf) (p0 : Int32) (bq : Nat) (gn : Nat) (gT : Tk) (gs : St) (gl : List Int64) (hMV : rgd bM V) (rel : RelM V L bq gn gT gs gl) (sg : isSg p0)  : Met l yX12_isSign (Cond.code yX12_isSign cX12_isSign 2 (some .boolean) :: GW) r_s_isSignA (va_Pc [.ref (ad 0), .int p0] (gp D ks (mw ad kk ks.1 V L) (mty kk) sz)) (q_s_isSignA D ks ad kk V L p0 bq gn gT gs gl (va_A (mw ad kk ks.1 V L) sz)) 0 0 (va_A (mw ad kk ks.1 V L) sz) := by
  refine g_met (q_s_isSignA D ks ad kk V L p0 bq gn gT gs gl) (by decide) (Nat.le_of_ble_eq_true rfl) ?_
  intro p e s m below meth c A ls H locs hx hb hr hml hown hg hlocks hin hnw hgk hP hK hD hS hA hl
  have hown : s.vm.findClass RX12 = some m.cls := hown
  have hl : lv_has ls 2 [(0, .ref (ad 0)), (1, .int p0)] := hl
  have hP : va_P D vwCl (mw ad kk ks.1 V L) H := hP
  have hD : va_D A (mw ad kk ks.1 V L) := hD
  have hK : va_K D vwCl (mty kk) s := hK
  have rf_p0 := i_full p0
  have rg0 := RelM.rg rel
  have cl0 := RelM.cl rel
  have cq0 := RelM.cq rel
  refine lv_aload_n hx hb dX12_isSign_0 rfl (lv_at hl 0 rfl) ?_
  refine va_get (D := D) (ci := 12) (v := .int (V 0 8)) (C := RX12) (T := TX12) (N := 100) hx hb hg inX12 hown hK hP 0 rfl rfl 8 (by decide) (hg _ w1714) (fun _ h9 => h9) rfl dX12_isSign_1 ?_
  have r1 : 0 ≤ ((V 0 8)).toInt ∧ ((V 0 8)).toInt ≤ 70000 := hMV 0 8
  refine lv_if_ne (tgt := 39) hx hb dX12_isSign_4 (by decide) (fun c2 => ?_) (fun c2 => ?_)
  · skip
    have f3 : ((V 0 8)).toInt ≠ 0 := b_neq rfl (by decide) c2
    exfalso; (first | exact om_0b51723c7ef6 rg0.2.2.1 f3 | omega)
  · skip
    have f4 : ((V 0 8)).toInt = 0 := b_eq rfl (by decide) c2
    refine lv_aload_n hx hb dX12_isSign_7 rfl (lv_at hl 0 rfl) ?_
    refine va_get (D := D) (ci := 12) (v := .ref (ad 4)) (C := RX12) (T := TX12) (N := 100) hx hb hg inX12 hown hK hP 0 rfl rfl 4 (by decide) (hg _ w1710) (fun _ h9 => h9) rfl dX12_isSign_8 ?_
    refine lv_aload_n hx hb dX12_isSign_11 rfl (lv_at hl 0 rfl) ?_
    refine va_get (D := D) (ci := 12) (v := .int (V 0 7)) (C := RX12) (T := TX12) (N := 100) hx hb hg inX12 hown hK hP 0 rfl rfl 7 (by decide) (hg _ w1713) (fun _ h9 => h9) rfl dX12_isSign_12 ?_
    refine va_iald (D := D) (i := (V 0 7)) hx hb hK hP 2 1 rfl rfl (i_in (a := ((V 0 7)).toInt) rfl (by omega)) dX12_isSign_15 ?_
    refine lv_iconst (v := 3) hx hb dX12_isSign_16 (by decide) ?_
    refine lv_icmp_ne (tgt := 39) hx hb dX12_isSign_17 (by decide) (fun c5 => ?_) (fun c5 => ?_)
    · skip
      have f6 : ((V 4 (Int32.toNatClampNeg (V 0 7)))).toInt ≠ 3 := b_neq rfl (by decide) c5
      refine lv_iconst (v := 0) hx hb dX12_isSign_39 (by decide) ?_
      exact W.zret (v := 0) hx hb hr rfl (fun t ht hW => ⟨⟨0, (), rfl, ⟨(by decide), (Or.inr ⟨rfl, fun h9 => by have q := (RelM.sg rel sg).mpr h9; rw [← cl0] at q; have q1 := q.1; have q2 := congrArg Int64.toInt q.2; rw [Int32.toInt_toInt64] at q2; omega⟩)⟩, by rw [ht]; exact hP, va_K.moved hW.alike hK, hD⟩, hS.F ht⟩) hS.2.2 dX12_isSign_40
    · skip
      have f7 : ((V 4 (Int32.toNatClampNeg (V 0 7)))).toInt = 3 := b_eq rfl (by decide) c5
      refine lv_aload_n hx hb dX12_isSign_20 rfl (lv_at hl 0 rfl) ?_
      refine va_get (D := D) (ci := 12) (v := .ref (ad 6)) (C := RX12) (T := TX12) (N := 100) hx hb hg inX12 hown hK hP 0 rfl rfl 6 (by decide) (hg _ w1712) (fun _ h9 => h9) rfl dX12_isSign_21 ?_
      refine lv_aload_n hx hb dX12_isSign_24 rfl (lv_at hl 0 rfl) ?_
      refine va_get (D := D) (ci := 12) (v := .int (V 0 7)) (C := RX12) (T := TX12) (N := 100) hx hb hg inX12 hown hK hP 0 rfl rfl 7 (by decide) (hg _ w1713) (fun _ h9 => h9) rfl dX12_isSign_25 ?_
      refine va_lald (D := D) (i := (V 0 7)) hx hb hK hP 4 3 rfl rfl (i_in (a := ((V 0 7)).toInt) rfl (by omega)) dX12_isSign_28 ?_
      refine lv_iload_n hx hb dX12_isSign_29 rfl (lv_at hl 1 rfl) ?_
      refine lv_i2l hx hb dX12_isSign_30 rfl ?_
      refine lv_topl (fun w8 ew8 => ?_)
      have hw8 : w8.toInt = p0.toInt := i2l_f ew8 rfl
      refine W.lcmp hx hb dX12_isSign_31 ?_
      refine lv_topi (fun z9 ez9 => ?_)
      have hz9 := lcmp_f ez9
      refine lv_if_ne (tgt := 39) hx hb dX12_isSign_32 (by decide) (fun c10 => ?_) (fun c10 => ?_)
      · skip
        have f11 : z9.toInt ≠ 0 := b_neq rfl (by decide) c10
        refine lv_iconst (v := 0) hx hb dX12_isSign_39 (by decide) ?_
        exact W.zret (v := 0) hx hb hr rfl (fun t ht hW => ⟨⟨0, (), rfl, ⟨(by decide), (Or.inr ⟨rfl, fun h9 => by have q := (RelM.sg rel sg).mpr h9; rw [← cl0] at q; have q1 := q.1; have q2 := congrArg Int64.toInt q.2; rw [Int32.toInt_toInt64] at q2; omega⟩)⟩, by rw [ht]; exact hP, va_K.moved hW.alike hK, hD⟩, hS.F ht⟩) hS.2.2 dX12_isSign_40
      · skip
        have f12 : z9.toInt = 0 := b_eq rfl (by decide) c10
        refine lv_iconst (v := 1) hx hb dX12_isSign_35 (by decide) ?_
        refine lv_goto (tgt := 40) hx hb dX12_isSign_36 (by decide) ?_
        exact W.zret (v := 1) hx hb hr rfl (fun t ht hW => ⟨⟨1, (), rfl, ⟨(by decide), (Or.inl ⟨rfl, (RelM.sg rel sg).mp ⟨(by rw [← cl0]; omega), Int64.toInt_inj.mp (by rw [Int32.toInt_toInt64, ← cl0]; omega)⟩⟩)⟩, by rw [ht]; exact hP, va_K.moved hW.alike hK, hD⟩, hS.F ht⟩) hS.2.2 dX12_isSign_40
abbrev r_s_isSignB : Room := { frames := 0, cells := 0, slots := 0, locals := 0 }
abbrev q_s_isSignB (D : va_G) (ks : KS) (ad : Nat → Nat) (kk : Nat → ClassId) (V : Vf) (L : Lf) (p0 : Int32) (A : Nat → Prop) : Array Value → State → Outcome → State → Prop := va_Qi (fun (r : Int32) (_ : Unit) => (0 ≤ r.toInt ∧ r.toInt ≤ 0)) (fun _ t => gq D A (mw ad kk ks.1 V L) (mty kk) t) A
set_option maxHeartbeats 4000000 in
set_option maxRecDepth 100000 in
theorem s_isSignB (l : Launch) (D : va_G) (ks : KS) (sz : Nat) (ad : Nat → Nat) (kk : Nat → ClassId) (V : Vf) (L : Lf) (p0 : Int32) (hMV : rgd bM V) (bf : 1 ≤ (V 0 8).toInt)  : Met l yX12_isSign (Cond.code yX12_isSign cX12_isSign 2 (some .boolean) :: GW) r_s_isSignB (va_Pc [.ref (ad 0), .int p0] (gp D ks (mw ad kk ks.1 V L) (mty kk) sz)) (q_s_isSignB D ks ad kk V L p0 (va_A (mw ad kk ks.1 V L) sz)) 0 0 (va_A (mw ad kk ks.1 V L) sz) := by
  refine g_met (q_s_isSignB D ks ad kk V L p0) (by decide) (Nat.le_of_ble_eq_true rfl) ?_
  intro p e s m below meth c A ls H locs hx hb hr hml hown hg hlocks hin hnw hgk hP hK hD hS hA hl
  have hown : s.vm.findClass RX12 = some m.cls := hown
  have hl : lv_has ls 2 [(0, .ref (ad 0)), (1, .int p0)] := hl
  have hP : va_P D vwCl (mw ad kk ks.1 V L) H := hP
  have hD : va_D A (mw ad kk ks.1 V L) := hD
  have hK : va_K D vwCl (mty kk) s := hK
  have rf_p0 := i_full p0
  have r1 : 0 ≤ ((V 0 8)).toInt ∧ ((V 0 8)).toInt ≤ 70000 := hMV 0 8
  refine lv_aload_n hx hb dX12_isSign_0 rfl (lv_at hl 0 rfl) ?_
  refine va_get (D := D) (ci := 12) (v := .int (V 0 8)) (C := RX12) (T := TX12) (N := 100) hx hb hg inX12 hown hK hP 0 rfl rfl 8 (by decide) (hg _ w1714) (fun _ h9 => h9) rfl dX12_isSign_1 ?_
  refine lv_if_ne (tgt := 39) hx hb dX12_isSign_4 (by decide) (fun c2 => ?_) (fun c2 => ?_)
  · skip
    have f3 : ((V 0 8)).toInt ≠ 0 := b_neq rfl (by decide) c2
    refine lv_iconst (v := 0) hx hb dX12_isSign_39 (by decide) ?_
    exact W.zret (v := 0) hx hb hr rfl (fun t ht hW => ⟨⟨0, (), rfl, (by decide), by rw [ht]; exact hP, va_K.moved hW.alike hK, hD⟩, hS.F ht⟩) hS.2.2 dX12_isSign_40
  · skip
    have f4 : ((V 0 8)).toInt = 0 := b_eq rfl (by decide) c2
    exfalso; (first | exact om_09885ab343b9 bf f4 | omega)
abbrev r_s_isWordA : Room := { frames := 0, cells := 0, slots := 0, locals := 0 }
abbrev q_s_isWordA (D : va_G) (ks : KS) (ad : Nat → Nat) (kk : Nat → ClassId) (V : Vf) (L : Lf) (p0 : Int32) (bq : Nat) (gn : Nat) (gT : Tk) (gs : St) (gl : List Int64) (A : Nat → Prop) : Array Value → State → Outcome → State → Prop := va_Qi (fun (r : Int32) (_ : Unit) => (0 ≤ r.toInt ∧ r.toInt ≤ 1) ∧ ((r.toInt = 1 ∧ gT.1 (gs.1 0) = 128 + p0.toInt) ∨ (r.toInt = 0 ∧ gT.1 (gs.1 0) ≠ 128 + p0.toInt))) (fun _ t => gq D A (mw ad kk ks.1 V L) (mty kk) t) A
set_option maxHeartbeats 4000000 in
set_option maxRecDepth 100000 in
theorem s_isWordA (l : Launch) (D : va_G) (ks : KS) (sz : Nat) (ad : Nat → Nat) (kk : Nat → ClassId) (V : Vf) (L : Lf) (p0 : Int32) (bq : Nat) (gn : Nat) (gT : Tk) (gs : St) (gl : List Int64) (hMV : rgd bM V) (rg_p0 : 0 ≤ p0.toInt ∧ p0.toInt ≤ 27) (rel : RelM V L bq gn gT gs gl)  : Met l yX12_isWord (Cond.code yX12_isWord cX12_isWord 2 (some .boolean) :: GW) r_s_isWordA (va_Pc [.ref (ad 0), .int p0] (gp D ks (mw ad kk ks.1 V L) (mty kk) sz)) (q_s_isWordA D ks ad kk V L p0 bq gn gT gs gl (va_A (mw ad kk ks.1 V L) sz)) 0 0 (va_A (mw ad kk ks.1 V L) sz) := by
  refine g_met (q_s_isWordA D ks ad kk V L p0 bq gn gT gs gl) (by decide) (Nat.le_of_ble_eq_true rfl) ?_
  intro p e s m below meth c A ls H locs hx hb hr hml hown hg hlocks hin hnw hgk hP hK hD hS hA hl
  have hown : s.vm.findClass RX12 = some m.cls := hown
  have hl : lv_has ls 2 [(0, .ref (ad 0)), (1, .int p0)] := hl
  have hP : va_P D vwCl (mw ad kk ks.1 V L) H := hP
  have hD : va_D A (mw ad kk ks.1 V L) := hD
  have hK : va_K D vwCl (mty kk) s := hK
  have rf_p0 := i_full p0
  have rg0 := RelM.rg rel
  have cl0 := RelM.cl rel
  have cq0 := RelM.cq rel
  refine lv_aload_n hx hb dX12_isWord_0 rfl (lv_at hl 0 rfl) ?_
  refine va_get (D := D) (ci := 12) (v := .int (V 0 8)) (C := RX12) (T := TX12) (N := 100) hx hb hg inX12 hown hK hP 0 rfl rfl 8 (by decide) (hg _ w1714) (fun _ h9 => h9) rfl dX12_isWord_1 ?_
  have r1 : 0 ≤ ((V 0 8)).toInt ∧ ((V 0 8)).toInt ≤ 70000 := hMV 0 8
  refine lv_if_ne (tgt := 43) hx hb dX12_isWord_4 (by decide) (fun c2 => ?_) (fun c2 => ?_)
  · skip
    have f3 : ((V 0 8)).toInt ≠ 0 := b_neq rfl (by decide) c2
    exfalso; (first | exact om_0b51723c7ef6 rg0.2.2.1 f3 | omega)
  · skip
    have f4 : ((V 0 8)).toInt = 0 := b_eq rfl (by decide) c2
    refine lv_aload_n hx hb dX12_isWord_7 rfl (lv_at hl 0 rfl) ?_
    refine va_get (D := D) (ci := 12) (v := .ref (ad 4)) (C := RX12) (T := TX12) (N := 100) hx hb hg inX12 hown hK hP 0 rfl rfl 4 (by decide) (hg _ w1710) (fun _ h9 => h9) rfl dX12_isWord_8 ?_
    refine lv_aload_n hx hb dX12_isWord_11 rfl (lv_at hl 0 rfl) ?_
    refine va_get (D := D) (ci := 12) (v := .int (V 0 7)) (C := RX12) (T := TX12) (N := 100) hx hb hg inX12 hown hK hP 0 rfl rfl 7 (by decide) (hg _ w1713) (fun _ h9 => h9) rfl dX12_isWord_12 ?_
    refine va_iald (D := D) (i := (V 0 7)) hx hb hK hP 2 1 rfl rfl (i_in (a := ((V 0 7)).toInt) rfl (by omega)) dX12_isWord_15 ?_
    refine lv_iconst (v := 1) hx hb dX12_isWord_16 (by decide) ?_
    refine lv_icmp_ne (tgt := 43) hx hb dX12_isWord_17 (by decide) (fun c5 => ?_) (fun c5 => ?_)
    · skip
      have f6 : ((V 4 (Int32.toNatClampNeg (V 0 7)))).toInt ≠ 1 := b_neq rfl (by decide) c5
      refine lv_iconst (v := 0) hx hb dX12_isWord_43 (by decide) ?_
      have kc7 := i_clamp (x := p0) rfl (by (first | exact om_eafa9039069c rg_p0.1 | omega))
      exact W.zret (v := 0) hx hb hr rfl (fun t ht hW => ⟨⟨0, (), rfl, ⟨(by decide), (Or.inr ⟨rfl, fun h9 => by have q := (RelM.kw rel (w := Int32.toNatClampNeg p0) (by omega)).mpr (by omega); rw [← cl0] at q; have q1 := q.1; have q2 := congrArg Int64.toInt q.2; omega⟩)⟩, by rw [ht]; exact hP, va_K.moved hW.alike hK, hD⟩, hS.F ht⟩) hS.2.2 dX12_isWord_44
    · skip
      have f8 : ((V 4 (Int32.toNatClampNeg (V 0 7)))).toInt = 1 := b_eq rfl (by decide) c5
      refine lv_aload_n hx hb dX12_isWord_20 rfl (lv_at hl 0 rfl) ?_
      refine va_get (D := D) (ci := 12) (v := .ref (ad 6)) (C := RX12) (T := TX12) (N := 100) hx hb hg inX12 hown hK hP 0 rfl rfl 6 (by decide) (hg _ w1712) (fun _ h9 => h9) rfl dX12_isWord_21 ?_
      refine lv_aload_n hx hb dX12_isWord_24 rfl (lv_at hl 0 rfl) ?_
      refine va_get (D := D) (ci := 12) (v := .int (V 0 7)) (C := RX12) (T := TX12) (N := 100) hx hb hg inX12 hown hK hP 0 rfl rfl 7 (by decide) (hg _ w1713) (fun _ h9 => h9) rfl dX12_isWord_25 ?_
      refine va_lald (D := D) (i := (V 0 7)) hx hb hK hP 4 3 rfl rfl (i_in (a := ((V 0 7)).toInt) rfl (by omega)) dX12_isWord_28 ?_
      refine lv_aload_n hx hb dX12_isWord_29 rfl (lv_at hl 0 rfl) ?_
      refine va_get (D := D) (ci := 12) (v := .ref (ad 10)) (C := RX12) (T := TX12) (N := 100) hx hb hg inX12 hown hK hP 0 rfl rfl 10 (by decide) (hg _ w1716) (fun _ h9 => h9) rfl dX12_isWord_30 ?_
      refine lv_iload_n hx hb dX12_isWord_33 rfl (lv_at hl 1 rfl) ?_
      refine va_lald (D := D) (i := p0) hx hb hK hP 5 4 rfl rfl (i_in (a := p0.toInt) rfl (by (first | exact om_d6b6c74373fd rg_p0.1 rg_p0.2 | omega))) dX12_isWord_34 ?_
      refine W.lcmp hx hb dX12_isWord_35 ?_
      refine lv_topi (fun z9 ez9 => ?_)
      have hz9 := lcmp_f ez9
      refine lv_if_ne (tgt := 43) hx hb dX12_isWord_36 (by decide) (fun c10 => ?_) (fun c10 => ?_)
      · skip
        have f11 : z9.toInt ≠ 0 := b_neq rfl (by decide) c10
        refine lv_iconst (v := 0) hx hb dX12_isWord_43 (by decide) ?_
        have kc12 := i_clamp (x := p0) rfl (by (first | exact om_eafa9039069c rg_p0.1 | omega))
        exact W.zret (v := 0) hx hb hr rfl (fun t ht hW => ⟨⟨0, (), rfl, ⟨(by decide), (Or.inr ⟨rfl, fun h9 => by have q := (RelM.kw rel (w := Int32.toNatClampNeg p0) (by omega)).mpr (by omega); rw [← cl0] at q; have q1 := q.1; have q2 := congrArg Int64.toInt q.2; omega⟩)⟩, by rw [ht]; exact hP, va_K.moved hW.alike hK, hD⟩, hS.F ht⟩) hS.2.2 dX12_isWord_44
      · skip
        have f13 : z9.toInt = 0 := b_eq rfl (by decide) c10
        refine lv_iconst (v := 1) hx hb dX12_isWord_39 (by decide) ?_
        refine lv_goto (tgt := 44) hx hb dX12_isWord_40 (by decide) ?_
        have kc14 := i_clamp (x := p0) rfl (by (first | exact om_eafa9039069c rg_p0.1 | omega))
        exact W.zret (v := 1) hx hb hr rfl (fun t ht hW => ⟨⟨1, (), rfl, ⟨(by decide), (Or.inl ⟨rfl, by have q := (RelM.kw rel (w := Int32.toNatClampNeg p0) (by omega)).mp ⟨(by rw [← cl0]; omega), Int64.toInt_inj.mp (by rw [← cl0]; omega)⟩; omega⟩)⟩, by rw [ht]; exact hP, va_K.moved hW.alike hK, hD⟩, hS.F ht⟩) hS.2.2 dX12_isWord_44
abbrev r_s_isWordB : Room := { frames := 0, cells := 0, slots := 0, locals := 0 }
abbrev q_s_isWordB (D : va_G) (ks : KS) (ad : Nat → Nat) (kk : Nat → ClassId) (V : Vf) (L : Lf) (p0 : Int32) (A : Nat → Prop) : Array Value → State → Outcome → State → Prop := va_Qi (fun (r : Int32) (_ : Unit) => (0 ≤ r.toInt ∧ r.toInt ≤ 0)) (fun _ t => gq D A (mw ad kk ks.1 V L) (mty kk) t) A
set_option maxHeartbeats 4000000 in
set_option maxRecDepth 100000 in
theorem s_isWordB (l : Launch) (D : va_G) (ks : KS) (sz : Nat) (ad : Nat → Nat) (kk : Nat → ClassId) (V : Vf) (L : Lf) (p0 : Int32) (hMV : rgd bM V) (rg_p0 : 0 ≤ p0.toInt ∧ p0.toInt ≤ 29) (bf : 1 ≤ (V 0 8).toInt)  : Met l yX12_isWord (Cond.code yX12_isWord cX12_isWord 2 (some .boolean) :: GW) r_s_isWordB (va_Pc [.ref (ad 0), .int p0] (gp D ks (mw ad kk ks.1 V L) (mty kk) sz)) (q_s_isWordB D ks ad kk V L p0 (va_A (mw ad kk ks.1 V L) sz)) 0 0 (va_A (mw ad kk ks.1 V L) sz) := by
  refine g_met (q_s_isWordB D ks ad kk V L p0) (by decide) (Nat.le_of_ble_eq_true rfl) ?_
  intro p e s m below meth c A ls H locs hx hb hr hml hown hg hlocks hin hnw hgk hP hK hD hS hA hl
  have hown : s.vm.findClass RX12 = some m.cls := hown
  have hl : lv_has ls 2 [(0, .ref (ad 0)), (1, .int p0)] := hl
  have hP : va_P D vwCl (mw ad kk ks.1 V L) H := hP
  have hD : va_D A (mw ad kk ks.1 V L) := hD
  have hK : va_K D vwCl (mty kk) s := hK
  have rf_p0 := i_full p0
  have r1 : 0 ≤ ((V 0 8)).toInt ∧ ((V 0 8)).toInt ≤ 70000 := hMV 0 8
  refine lv_aload_n hx hb dX12_isWord_0 rfl (lv_at hl 0 rfl) ?_
  refine va_get (D := D) (ci := 12) (v := .int (V 0 8)) (C := RX12) (T := TX12) (N := 100) hx hb hg inX12 hown hK hP 0 rfl rfl 8 (by decide) (hg _ w1714) (fun _ h9 => h9) rfl dX12_isWord_1 ?_
  refine lv_if_ne (tgt := 43) hx hb dX12_isWord_4 (by decide) (fun c2 => ?_) (fun c2 => ?_)
  · skip
    have f3 : ((V 0 8)).toInt ≠ 0 := b_neq rfl (by decide) c2
    refine lv_iconst (v := 0) hx hb dX12_isWord_43 (by decide) ?_
    exact W.zret (v := 0) hx hb hr rfl (fun t ht hW => ⟨⟨0, (), rfl, (by decide), by rw [ht]; exact hP, va_K.moved hW.alike hK, hD⟩, hS.F ht⟩) hS.2.2 dX12_isWord_44
  · skip
    have f4 : ((V 0 8)).toInt = 0 := b_eq rfl (by decide) c2
    exfalso; (first | exact om_09885ab343b9 bf f4 | omega)
abbrev r_s_hasSignA : Room := { frames := 1, cells := 0, slots := 0, locals := 21 }
abbrev q_s_hasSignA (D : va_G) (ks : KS) (ad : Nat → Nat) (kk : Nat → ClassId) (V : Vf) (L : Lf) (p0 : Int32) (bq : Nat) (gn : Nat) (gT : Tk) (gs : St) (gl : List Int64) (A : Nat → Prop) : Array Value → State → Outcome → State → Prop := va_Qi (fun (r : Int32) (u : Vf × Lf) => rgd bM u.1 ∧ agr [(0, 7)] [] V u.1 ∧ u.2 = L ∧ (0 ≤ r.toInt ∧ r.toInt ≤ 1) ∧ ((r.toInt = 1 ∧ gT.1 (gs.1 0) = p0.toInt ∧ RelM u.1 u.2 bq gn gT (nx gs 1) gl) ∨ (r.toInt = 0 ∧ gT.1 (gs.1 0) ≠ p0.toInt ∧ RelM u.1 u.2 bq gn gT gs gl))) (fun u t => gq D A (mw ad kk ks.1 u.1 u.2) (mty kk) t) A
set_option maxHeartbeats 4000000 in
set_option maxRecDepth 100000 in
theorem s_hasSignA (l : Launch) (D : va_G) (ks : KS) (sz : Nat) (ad : Nat → Nat) (kk : Nat → ClassId) (V : Vf) (L : Lf) (p0 : Int32) (bq : Nat) (gn : Nat) (gT : Tk) (gs : St) (gl : List Int64) (hMV : rgd bM V) (rel : RelM V L bq gn gT gs gl) (sg : isSg p0)  : Met l yX12_hasSign (Cond.code yX12_hasSign cX12_hasSign 3 (some .boolean) :: GW) r_s_hasSignA (va_Pc [.ref (ad 0), .int p0] (gp D ks (mw ad kk ks.1 V L) (mty kk) sz)) (q_s_hasSignA D ks ad kk V L p0 bq gn gT gs gl (va_A (mw ad kk ks.1 V L) sz)) 0 0 (va_A (mw ad kk ks.1 V L) sz) := by
  refine g_met (q_s_hasSignA D ks ad kk V L p0 bq gn gT gs gl) (by decide) (Nat.le_of_ble_eq_true rfl) ?_
  intro p e s m below meth c A ls H locs hx hb hr hml hown hg hlocks hin hnw hgk hP hK hD hS hA hl
  have hown : s.vm.findClass RX12 = some m.cls := hown
  have hl : lv_has ls 3 [(0, .ref (ad 0)), (1, .int p0)] := hl
  have hP : va_P D vwCl (mw ad kk ks.1 V L) H := hP
  have hD : va_D A (mw ad kk ks.1 V L) := hD
  have hK : va_K D vwCl (mty kk) s := hK
  have agV : agr [(0, 7)] [] V V := agr.rf
  have rf_p0 := i_full p0
  have rg0 := RelM.rg rel
  have cl0 := RelM.cl rel
  have cq0 := RelM.cq rel
  refine lv_aload_n hx hb dX12_hasSign_0 rfl (lv_at hl 0 rfl) ?_
  refine lv_iload_n hx hb dX12_hasSign_1 rfl (lv_at hl 1 rfl) ?_
  refine gA_int (gA_runV (As := [.int p0]) (rest := []) (ci := 12) (q0 := 0) hx hb hml hown hg hP hD hK hS hA hnw hgk (s_isSignA l D ks H.size ad kk V L p0 (bq) (gn) (gT) (gs) (gl) hMV rel sg) w2071 w2073 w95 w172 w2074 rfl rfl hdV_yX12_isSign ⟨Nat.le_of_ble_eq_true rfl, Nat.le_of_ble_eq_true rfl⟩ rfl hl.1 rfl (Nat.le_of_ble_eq_true rfl) dX12_hasSign_2 ⟨Nat.le_of_ble_eq_true rfl, Nat.le_of_ble_eq_true rfl⟩) hP hD hK hS hA (fun z1 u2 H locs w3 hP hD hK hS => ?_)
  obtain ⟨rgz1, t4⟩ := w3
  have rgz1 : 0 ≤ z1.toInt ∧ z1.toInt ≤ 1 := rgz1
  have t4 : (z1.toInt = 1 ∧ (gT).1 ((gs).1 0) = p0.toInt) ∨ (z1.toInt = 0 ∧ (gT).1 ((gs).1 0) ≠ p0.toInt) := t4
  rcases t4 with ⟨q5, h6⟩ | ⟨q5, h6⟩
  · skip
    refine lv_istore_n (lv' := [(2, .int z1), (0, .ref (ad 0)), (1, .int p0)]) hx hb dX12_hasSign_5 rfl hl (by decide) rfl (fun ls hl => ?_)
    refine lv_aload_n hx hb dX12_hasSign_6 rfl (lv_at hl 1 rfl) ?_
    refine lv_dup hx hb dX12_hasSign_7 rfl ?_
    refine va_get (D := D) (ci := 12) (v := .int (V 0 7)) (C := RX12) (T := TX12) (N := 100) hx hb hg inX12 hown hK hP 0 rfl rfl 7 (by decide) (hg _ w1713) (fun _ h9 => h9) rfl dX12_hasSign_8 ?_
    refine lv_iload_n hx hb dX12_hasSign_11 rfl (lv_at hl 0 rfl) ?_
    refine lv_if_eq (tgt := 19) hx hb dX12_hasSign_12 (by decide) (fun c7 => ?_) (fun c7 => ?_)
    · skip
      have f8 : z1.toInt = 0 := b_eq rfl (by decide) c7
      exfalso; (first | exact om_495ee03a60ae q5 f8 | omega)
    · skip
      have f9 : z1.toInt ≠ 0 := b_neq rfl (by decide) c7
      refine lv_iconst (v := 1) hx hb dX12_hasSign_15 (by decide) ?_
      refine lv_goto (tgt := 20) hx hb dX12_hasSign_16 (by decide) ?_
      refine lv_iadd hx hb dX12_hasSign_20 ?_
      refine lv_topi (fun z10 ez10 => ?_)
      have hz10 : z10.toInt = ((V 0 7)).toInt + 1 := i_add ez10 rfl (by decide) (by omega)
      refine va_put (D := D) (ci := 12) (v := .int z10) (ty := tyX12 7) (C := RX12) (T := TX12) (N := 100) hx hb hg inX12 tyX12 tyX12_ok nmX12 hown hK hP hD hS 0 rfl rfl 7 (by decide) (hg _ w1713) (fun _ h9 => h9) rfl (tyX12_ok 7 (by decide)) rfl rfl (Nat.le_of_ble_eq_true rfl) dX12_hasSign_21 (fun H locs hP hD hS => ?_)
      obtain ⟨V11, hV11⟩ : ∃ z, z = up2 V 0 7 z10 := ⟨_, rfl⟩
      have hP : va_P D vwCl (mw ad kk ks.1 V11 L) H := by rw [hV11]; exact hP
      have hD : va_D A (mw ad kk ks.1 V11 L) := by rw [hV11]; exact hD
      have hMV11 : rgd bM V11 := hMV.put hV11 (i_full _)
      have agV11 : agr [(0, 7)] [] V V11 := agV.up hV11 rfl
      refine lv_iload_n hx hb dX12_hasSign_24 rfl (lv_at hl 0 rfl) ?_
      exact W.zret (v := z1) hx hb hr (nb_ok (by omega)) (fun t ht hW => ⟨⟨z1, (V11, L), rfl, ⟨hMV11, agV11, rfl, (show 0 ≤ z1.toInt ∧ z1.toInt ≤ 1 from by (first | exact om_a5282aae22c7 rgz1.1 rgz1.2 f9 | omega)), (Or.inl ⟨q5, h6, RelM.n1 rel hV11 (by omega) (fun h9 => by have z9 := sg_rg sg; omega)⟩)⟩, by rw [ht]; exact hP, va_K.moved hW.alike hK, hD⟩, hS.F ht⟩) hS.2.2 dX12_hasSign_25
  · skip
    refine lv_istore_n (lv' := [(2, .int z1), (0, .ref (ad 0)), (1, .int p0)]) hx hb dX12_hasSign_5 rfl hl (by decide) rfl (fun ls hl => ?_)
    refine lv_aload_n hx hb dX12_hasSign_6 rfl (lv_at hl 1 rfl) ?_
    refine lv_dup hx hb dX12_hasSign_7 rfl ?_
    refine va_get (D := D) (ci := 12) (v := .int (V 0 7)) (C := RX12) (T := TX12) (N := 100) hx hb hg inX12 hown hK hP 0 rfl rfl 7 (by decide) (hg _ w1713) (fun _ h9 => h9) rfl dX12_hasSign_8 ?_
    refine lv_iload_n hx hb dX12_hasSign_11 rfl (lv_at hl 0 rfl) ?_
    refine lv_if_eq (tgt := 19) hx hb dX12_hasSign_12 (by decide) (fun c12 => ?_) (fun c12 => ?_)
    · skip
      have f13 : z1.toInt = 0 := b_eq rfl (by decide) c12
      refine lv_iconst (v := 0) hx hb dX12_hasSign_19 (by decide) ?_
      refine lv_iadd hx hb dX12_hasSign_20 ?_
      refine lv_topi (fun z14 ez14 => ?_)
      have hz14 : z14.toInt = ((V 0 7)).toInt + 0 := i_add ez14 rfl (by decide) (by omega)
      refine va_put (D := D) (ci := 12) (v := .int z14) (ty := tyX12 7) (C := RX12) (T := TX12) (N := 100) hx hb hg inX12 tyX12 tyX12_ok nmX12 hown hK hP hD hS 0 rfl rfl 7 (by decide) (hg _ w1713) (fun _ h9 => h9) rfl (tyX12_ok 7 (by decide)) rfl rfl (Nat.le_of_ble_eq_true rfl) dX12_hasSign_21 (fun H locs hP hD hS => ?_)
      obtain ⟨V15, hV15⟩ : ∃ z, z = up2 V 0 7 z14 := ⟨_, rfl⟩
      have hP : va_P D vwCl (mw ad kk ks.1 V15 L) H := by rw [hV15]; exact hP
      have hD : va_D A (mw ad kk ks.1 V15 L) := by rw [hV15]; exact hD
      have hMV15 : rgd bM V15 := hMV.put hV15 (i_full _)
      have agV15 : agr [(0, 7)] [] V V15 := agV.up hV15 rfl
      refine lv_iload_n hx hb dX12_hasSign_24 rfl (lv_at hl 0 rfl) ?_
      exact W.zret (v := z1) hx hb hr (nb_ok (by omega)) (fun t ht hW => ⟨⟨z1, (V15, L), rfl, ⟨hMV15, agV15, rfl, (show 0 ≤ z1.toInt ∧ z1.toInt ≤ 1 from by (first | exact om_85296d547285 rgz1.1 f13 | omega)), (Or.inr ⟨q5, h6, RelM.mv rel hV15 (by omega) (by omega) rfl rfl⟩)⟩, by rw [ht]; exact hP, va_K.moved hW.alike hK, hD⟩, hS.F ht⟩) hS.2.2 dX12_hasSign_25
    · skip
      have f16 : z1.toInt ≠ 0 := b_neq rfl (by decide) c12
      exfalso; (first | exact om_fb320d7600b7 rgz1.1 q5 f16 | omega)
abbrev r_s_hasWordA : Room := { frames := 1, cells := 0, slots := 0, locals := 21 }
abbrev q_s_hasWordA (D : va_G) (ks : KS) (ad : Nat → Nat) (kk : Nat → ClassId) (V : Vf) (L : Lf) (p0 : Int32) (bq : Nat) (gn : Nat) (gT : Tk) (gs : St) (gl : List Int64) (A : Nat → Prop) : Array Value → State → Outcome → State → Prop := va_Qi (fun (r : Int32) (u : Vf × Lf) => rgd bM u.1 ∧ agr [(0, 7)] [] V u.1 ∧ u.2 = L ∧ (0 ≤ r.toInt ∧ r.toInt ≤ 1) ∧ ((r.toInt = 1 ∧ gT.1 (gs.1 0) = 128 + p0.toInt ∧ RelM u.1 u.2 bq gn gT (nx gs 1) gl) ∨ (r.toInt = 0 ∧ gT.1 (gs.1 0) ≠ 128 + p0.toInt ∧ RelM u.1 u.2 bq gn gT gs gl))) (fun u t => gq D A (mw ad kk ks.1 u.1 u.2) (mty kk) t) A
set_option maxHeartbeats 4000000 in
set_option maxRecDepth 100000 in
theorem s_hasWordA (l : Launch) (D : va_G) (ks : KS) (sz : Nat) (ad : Nat → Nat) (kk : Nat → ClassId) (V : Vf) (L : Lf) (p0 : Int32) (bq : Nat) (gn : Nat) (gT : Tk) (gs : St) (gl : List Int64) (hMV : rgd bM V) (rg_p0 : 0 ≤ p0.toInt ∧ p0.toInt ≤ 27) (rel : RelM V L bq gn gT gs gl)  : Met l yX12_hasWord (Cond.code yX12_hasWord cX12_hasWord 3 (some .boolean) :: GW) r_s_hasWordA (va_Pc [.ref (ad 0), .int p0] (gp D ks (mw ad kk ks.1 V L) (mty kk) sz)) (q_s_hasWordA D ks ad kk V L p0 bq gn gT gs gl (va_A (mw ad kk ks.1 V L) sz)) 0 0 (va_A (mw ad kk ks.1 V L) sz) := by
  refine g_met (q_s_hasWordA D ks ad kk V L p0 bq gn gT gs gl) (by decide) (Nat.le_of_ble_eq_true rfl) ?_
  intro p e s m below meth c A ls H locs hx hb hr hml hown hg hlocks hin hnw hgk hP hK hD hS hA hl
  have hown : s.vm.findClass RX12 = some m.cls := hown
  have hl : lv_has ls 3 [(0, .ref (ad 0)), (1, .int p0)] := hl
  have hP : va_P D vwCl (mw ad kk ks.1 V L) H := hP
  have hD : va_D A (mw ad kk ks.1 V L) := hD
  have hK : va_K D vwCl (mty kk) s := hK
  have agV : agr [(0, 7)] [] V V := agr.rf
  have rf_p0 := i_full p0
  have rg0 := RelM.rg rel
  have cl0 := RelM.cl rel
  have cq0 := RelM.cq rel
  refine lv_aload_n hx hb dX12_hasWord_0 rfl (lv_at hl 0 rfl) ?_
  refine lv_iload_n hx hb dX12_hasWord_1 rfl (lv_at hl 1 rfl) ?_
  refine gA_int (gA_runV (As := [.int p0]) (rest := []) (ci := 12) (q0 := 0) hx hb hml hown hg hP hD hK hS hA hnw hgk (s_isWordA l D ks H.size ad kk V L p0 (bq) (gn) (gT) (gs) (gl) hMV (by (first | exact om_295b1bd8a48b rg_p0.1 rg_p0.2 | omega)) rel) w2023 w2025 w83 w172 w2026 rfl rfl hdV_yX12_isWord ⟨Nat.le_of_ble_eq_true rfl, Nat.le_of_ble_eq_true rfl⟩ rfl hl.1 rfl (Nat.le_of_ble_eq_true rfl) dX12_hasWord_2 ⟨Nat.le_of_ble_eq_true rfl, Nat.le_of_ble_eq_true rfl⟩) hP hD hK hS hA (fun z1 u2 H locs w3 hP hD hK hS => ?_)
  obtain ⟨rgz1, t4⟩ := w3
  have rgz1 : 0 ≤ z1.toInt ∧ z1.toInt ≤ 1 := rgz1
  have t4 : (z1.toInt = 1 ∧ (gT).1 ((gs).1 0) = 128 + p0.toInt) ∨ (z1.toInt = 0 ∧ (gT).1 ((gs).1 0) ≠ 128 + p0.toInt) := t4
  rcases t4 with ⟨q5, h6⟩ | ⟨q5, h6⟩
  · skip
    refine lv_istore_n (lv' := [(2, .int z1), (0, .ref (ad 0)), (1, .int p0)]) hx hb dX12_hasWord_5 rfl hl (by decide) rfl (fun ls hl => ?_)
    refine lv_aload_n hx hb dX12_hasWord_6 rfl (lv_at hl 1 rfl) ?_
    refine lv_dup hx hb dX12_hasWord_7 rfl ?_
    refine va_get (D := D) (ci := 12) (v := .int (V 0 7)) (C := RX12) (T := TX12) (N := 100) hx hb hg inX12 hown hK hP 0 rfl rfl 7 (by decide) (hg _ w1713) (fun _ h9 => h9) rfl dX12_hasWord_8 ?_
    refine lv_iload_n hx hb dX12_hasWord_11 rfl (lv_at hl 0 rfl) ?_
    refine lv_if_eq (tgt := 19) hx hb dX12_hasWord_12 (by decide) (fun c7 => ?_) (fun c7 => ?_)
    · skip
      have f8 : z1.toInt = 0 := b_eq rfl (by decide) c7
      exfalso; (first | exact om_495ee03a60ae q5 f8 | omega)
    · skip
      have f9 : z1.toInt ≠ 0 := b_neq rfl (by decide) c7
      refine lv_iconst (v := 1) hx hb dX12_hasWord_15 (by decide) ?_
      refine lv_goto (tgt := 20) hx hb dX12_hasWord_16 (by decide) ?_
      refine lv_iadd hx hb dX12_hasWord_20 ?_
      refine lv_topi (fun z10 ez10 => ?_)
      have hz10 : z10.toInt = ((V 0 7)).toInt + 1 := i_add ez10 rfl (by decide) (by omega)
      refine va_put (D := D) (ci := 12) (v := .int z10) (ty := tyX12 7) (C := RX12) (T := TX12) (N := 100) hx hb hg inX12 tyX12 tyX12_ok nmX12 hown hK hP hD hS 0 rfl rfl 7 (by decide) (hg _ w1713) (fun _ h9 => h9) rfl (tyX12_ok 7 (by decide)) rfl rfl (Nat.le_of_ble_eq_true rfl) dX12_hasWord_21 (fun H locs hP hD hS => ?_)
      obtain ⟨V11, hV11⟩ : ∃ z, z = up2 V 0 7 z10 := ⟨_, rfl⟩
      have hP : va_P D vwCl (mw ad kk ks.1 V11 L) H := by rw [hV11]; exact hP
      have hD : va_D A (mw ad kk ks.1 V11 L) := by rw [hV11]; exact hD
      have hMV11 : rgd bM V11 := hMV.put hV11 (i_full _)
      have agV11 : agr [(0, 7)] [] V V11 := agV.up hV11 rfl
      refine lv_iload_n hx hb dX12_hasWord_24 rfl (lv_at hl 0 rfl) ?_
      exact W.zret (v := z1) hx hb hr (nb_ok (by omega)) (fun t ht hW => ⟨⟨z1, (V11, L), rfl, ⟨hMV11, agV11, rfl, (show 0 ≤ z1.toInt ∧ z1.toInt ≤ 1 from by (first | exact om_a5282aae22c7 rgz1.1 rgz1.2 f9 | omega)), (Or.inl ⟨q5, h6, RelM.n1 rel hV11 (by omega) (fun h9 => by omega)⟩)⟩, by rw [ht]; exact hP, va_K.moved hW.alike hK, hD⟩, hS.F ht⟩) hS.2.2 dX12_hasWord_25
  · skip
    refine lv_istore_n (lv' := [(2, .int z1), (0, .ref (ad 0)), (1, .int p0)]) hx hb dX12_hasWord_5 rfl hl (by decide) rfl (fun ls hl => ?_)
    refine lv_aload_n hx hb dX12_hasWord_6 rfl (lv_at hl 1 rfl) ?_
    refine lv_dup hx hb dX12_hasWord_7 rfl ?_
    refine va_get (D := D) (ci := 12) (v := .int (V 0 7)) (C := RX12) (T := TX12) (N := 100) hx hb hg inX12 hown hK hP 0 rfl rfl 7 (by decide) (hg _ w1713) (fun _ h9 => h9) rfl dX12_hasWord_8 ?_
    refine lv_iload_n hx hb dX12_hasWord_11 rfl (lv_at hl 0 rfl) ?_
    refine lv_if_eq (tgt := 19) hx hb dX12_hasWord_12 (by decide) (fun c12 => ?_) (fun c12 => ?_)
    · skip
      have f13 : z1.toInt = 0 := b_eq rfl (by decide) c12
      refine lv_iconst (v := 0) hx hb dX12_hasWord_19 (by decide) ?_
      refine lv_iadd hx hb dX12_hasWord_20 ?_
      refine lv_topi (fun z14 ez14 => ?_)
      have hz14 : z14.toInt = ((V 0 7)).toInt + 0 := i_add ez14 rfl (by decide) (by omega)
      refine va_put (D := D) (ci := 12) (v := .int z14) (ty := tyX12 7) (C := RX12) (T := TX12) (N := 100) hx hb hg inX12 tyX12 tyX12_ok nmX12 hown hK hP hD hS 0 rfl rfl 7 (by decide) (hg _ w1713) (fun _ h9 => h9) rfl (tyX12_ok 7 (by decide)) rfl rfl (Nat.le_of_ble_eq_true rfl) dX12_hasWord_21 (fun H locs hP hD hS => ?_)
      obtain ⟨V15, hV15⟩ : ∃ z, z = up2 V 0 7 z14 := ⟨_, rfl⟩
      have hP : va_P D vwCl (mw ad kk ks.1 V15 L) H := by rw [hV15]; exact hP
      have hD : va_D A (mw ad kk ks.1 V15 L) := by rw [hV15]; exact hD
      have hMV15 : rgd bM V15 := hMV.put hV15 (i_full _)
      have agV15 : agr [(0, 7)] [] V V15 := agV.up hV15 rfl
      refine lv_iload_n hx hb dX12_hasWord_24 rfl (lv_at hl 0 rfl) ?_
      exact W.zret (v := z1) hx hb hr (nb_ok (by omega)) (fun t ht hW => ⟨⟨z1, (V15, L), rfl, ⟨hMV15, agV15, rfl, (show 0 ≤ z1.toInt ∧ z1.toInt ≤ 1 from by (first | exact om_85296d547285 rgz1.1 f13 | omega)), (Or.inr ⟨q5, h6, RelM.mv rel hV15 (by omega) (by omega) rfl rfl⟩)⟩, by rw [ht]; exact hP, va_K.moved hW.alike hK, hD⟩, hS.F ht⟩) hS.2.2 dX12_hasWord_25
    · skip
      have f16 : z1.toInt ≠ 0 := b_neq rfl (by decide) c12
      exfalso; (first | exact om_fb320d7600b7 rgz1.1 q5 f16 | omega)
abbrev r_s_hasSignB : Room := { frames := 1, cells := 0, slots := 0, locals := 21 }
abbrev q_s_hasSignB (D : va_G) (ks : KS) (ad : Nat → Nat) (kk : Nat → ClassId) (V : Vf) (L : Lf) (p0 : Int32) (A : Nat → Prop) : Array Value → State → Outcome → State → Prop := va_Qi (fun (r : Int32) (u : Vf × Lf) => rgd bM u.1 ∧ agr [(0, 7)] [] V u.1 ∧ u.2 = L ∧ (0 ≤ r.toInt ∧ r.toInt ≤ 0) ∧ ((u.1 0 8).toInt = (V 0 8).toInt)) (fun u t => gq D A (mw ad kk ks.1 u.1 u.2) (mty kk) t) A
set_option maxHeartbeats 4000000 in
set_option maxRecDepth 100000 in
theorem s_hasSignB (l : Launch) (D : va_G) (ks : KS) (sz : Nat) (ad : Nat → Nat) (kk : Nat → ClassId) (V : Vf) (L : Lf) (p0 : Int32) (hMV : rgd bM V) (bf : 1 ≤ (V 0 8).toInt)  : Met l yX12_hasSign (Cond.code yX12_hasSign cX12_hasSign 3 (some .boolean) :: GW) r_s_hasSignB (va_Pc [.ref (ad 0), .int p0] (gp D ks (mw ad kk ks.1 V L) (mty kk) sz)) (q_s_hasSignB D ks ad kk V L p0 (va_A (mw ad kk ks.1 V L) sz)) 0 0 (va_A (mw ad kk ks.1 V L) sz) := by
  refine g_met (q_s_hasSignB D ks ad kk V L p0) (by decide) (Nat.le_of_ble_eq_true rfl) ?_
  intro p e s m below meth c A ls H locs hx hb hr hml hown hg hlocks hin hnw hgk hP hK hD hS hA hl
  have hown : s.vm.findClass RX12 = some m.cls := hown
  have hl : lv_has ls 3 [(0, .ref (ad 0)), (1, .int p0)] := hl
  have hP : va_P D vwCl (mw ad kk ks.1 V L) H := hP
  have hD : va_D A (mw ad kk ks.1 V L) := hD
  have hK : va_K D vwCl (mty kk) s := hK
  have agV : agr [(0, 7)] [] V V := agr.rf
  have rf_p0 := i_full p0
  have r1 : 0 ≤ ((V 0 8)).toInt ∧ ((V 0 8)).toInt ≤ 70000 := hMV 0 8
  refine lv_aload_n hx hb dX12_hasSign_0 rfl (lv_at hl 0 rfl) ?_
  refine lv_iload_n hx hb dX12_hasSign_1 rfl (lv_at hl 1 rfl) ?_
  refine gA_int (gA_runV (As := [.int p0]) (rest := []) (ci := 12) (q0 := 0) hx hb hml hown hg hP hD hK hS hA hnw hgk (s_isSignB l D ks H.size ad kk V L p0 hMV (show 1 ≤ (V 0 8).toInt from by (first | exact om_f8d8213eda45 bf | omega))) w2071 w2073 w95 w172 w2074 rfl rfl hdV_yX12_isSign ⟨Nat.le_of_ble_eq_true rfl, Nat.le_of_ble_eq_true rfl⟩ rfl hl.1 rfl (Nat.le_of_ble_eq_true rfl) dX12_hasSign_2 ⟨Nat.le_of_ble_eq_true rfl, Nat.le_of_ble_eq_true rfl⟩) hP hD hK hS hA (fun z2 u3 H locs w4 hP hD hK hS => ?_)
  have rgz2 := w4
  have rgz2 : 0 ≤ z2.toInt ∧ z2.toInt ≤ 0 := rgz2
  refine lv_istore_n (lv' := [(2, .int z2), (0, .ref (ad 0)), (1, .int p0)]) hx hb dX12_hasSign_5 rfl hl (by decide) rfl (fun ls hl => ?_)
  refine lv_aload_n hx hb dX12_hasSign_6 rfl (lv_at hl 1 rfl) ?_
  refine lv_dup hx hb dX12_hasSign_7 rfl ?_
  refine va_get (D := D) (ci := 12) (v := .int (V 0 7)) (C := RX12) (T := TX12) (N := 100) hx hb hg inX12 hown hK hP 0 rfl rfl 7 (by decide) (hg _ w1713) (fun _ h9 => h9) rfl dX12_hasSign_8 ?_
  refine lv_iload_n hx hb dX12_hasSign_11 rfl (lv_at hl 0 rfl) ?_
  refine lv_if_eq (tgt := 19) hx hb dX12_hasSign_12 (by decide) (fun c5 => ?_) (fun c5 => ?_)
  · skip
    have f6 : z2.toInt = 0 := b_eq rfl (by decide) c5
    refine lv_iconst (v := 0) hx hb dX12_hasSign_19 (by decide) ?_
    refine lv_iadd hx hb dX12_hasSign_20 ?_
    have r7 := i_full (V 0 7)
    refine lv_topi (fun z8 ez8 => ?_)
    have hz8 : z8.toInt = ((V 0 7)).toInt + 0 := i_add ez8 rfl (by decide) (by (first | exact om_1db51938ff5e r7.1 r7.2 | omega))
    refine va_put (D := D) (ci := 12) (v := .int z8) (ty := tyX12 7) (C := RX12) (T := TX12) (N := 100) hx hb hg inX12 tyX12 tyX12_ok nmX12 hown hK hP hD hS 0 rfl rfl 7 (by decide) (hg _ w1713) (fun _ h9 => h9) rfl (tyX12_ok 7 (by decide)) rfl rfl (Nat.le_of_ble_eq_true rfl) dX12_hasSign_21 (fun H locs hP hD hS => ?_)
    obtain ⟨V9, hV9⟩ : ∃ z, z = up2 V 0 7 z8 := ⟨_, rfl⟩
    have hP : va_P D vwCl (mw ad kk ks.1 V9 L) H := by rw [hV9]; exact hP
    have hD : va_D A (mw ad kk ks.1 V9 L) := by rw [hV9]; exact hD
    have hMV9 : rgd bM V9 := hMV.put hV9 (i_full _)
    have agV9 : agr [(0, 7)] [] V V9 := agV.up hV9 rfl
    refine lv_iload_n hx hb dX12_hasSign_24 rfl (lv_at hl 0 rfl) ?_
    have pq10 : (V9 0 8).toInt = ((V 0 8)).toInt := congrArg Int32.toInt (up2_k hV9 (by decide))
    exact W.zret (v := z2) hx hb hr (nb_ok (by omega)) (fun t ht hW => ⟨⟨z2, (V9, L), rfl, ⟨hMV9, agV9, rfl, (show 0 ≤ z2.toInt ∧ z2.toInt ≤ 0 from by (first | exact om_5ef01dcf7d58 rgz2.1 rgz2.2 | omega)), (show (V9 0 8).toInt = (V 0 8).toInt from by (first | exact om_570b691c1130 pq10 | omega))⟩, by rw [ht]; exact hP, va_K.moved hW.alike hK, hD⟩, hS.F ht⟩) hS.2.2 dX12_hasSign_25
  · skip
    have f11 : z2.toInt ≠ 0 := b_neq rfl (by decide) c5
    exfalso; (first | exact om_0e608cc4b4f6 rgz2.1 rgz2.2 f11 | omega)
abbrev r_s_hasWordB : Room := { frames := 1, cells := 0, slots := 0, locals := 21 }
abbrev q_s_hasWordB (D : va_G) (ks : KS) (ad : Nat → Nat) (kk : Nat → ClassId) (V : Vf) (L : Lf) (p0 : Int32) (A : Nat → Prop) : Array Value → State → Outcome → State → Prop := va_Qi (fun (r : Int32) (u : Vf × Lf) => rgd bM u.1 ∧ agr [(0, 7)] [] V u.1 ∧ u.2 = L ∧ (0 ≤ r.toInt ∧ r.toInt ≤ 0) ∧ ((u.1 0 8).toInt = (V 0 8).toInt)) (fun u t => gq D A (mw ad kk ks.1 u.1 u.2) (mty kk) t) A
set_option maxHeartbeats 4000000 in
set_option maxRecDepth 100000 in
theorem s_hasWordB (l : Launch) (D : va_G) (ks : KS) (sz : Nat) (ad : Nat → Nat) (kk : Nat → ClassId) (V : Vf) (L : Lf) (p0 : Int32) (hMV : rgd bM V) (rg_p0 : 0 ≤ p0.toInt ∧ p0.toInt ≤ 29) (bf : 1 ≤ (V 0 8).toInt)  : Met l yX12_hasWord (Cond.code yX12_hasWord cX12_hasWord 3 (some .boolean) :: GW) r_s_hasWordB (va_Pc [.ref (ad 0), .int p0] (gp D ks (mw ad kk ks.1 V L) (mty kk) sz)) (q_s_hasWordB D ks ad kk V L p0 (va_A (mw ad kk ks.1 V L) sz)) 0 0 (va_A (mw ad kk ks.1 V L) sz) := by
  refine g_met (q_s_hasWordB D ks ad kk V L p0) (by decide) (Nat.le_of_ble_eq_true rfl) ?_
  intro p e s m below meth c A ls H locs hx hb hr hml hown hg hlocks hin hnw hgk hP hK hD hS hA hl
  have hown : s.vm.findClass RX12 = some m.cls := hown
  have hl : lv_has ls 3 [(0, .ref (ad 0)), (1, .int p0)] := hl
  have hP : va_P D vwCl (mw ad kk ks.1 V L) H := hP
  have hD : va_D A (mw ad kk ks.1 V L) := hD
  have hK : va_K D vwCl (mty kk) s := hK
  have agV : agr [(0, 7)] [] V V := agr.rf
  have rf_p0 := i_full p0
  have r1 : 0 ≤ ((V 0 8)).toInt ∧ ((V 0 8)).toInt ≤ 70000 := hMV 0 8
  refine lv_aload_n hx hb dX12_hasWord_0 rfl (lv_at hl 0 rfl) ?_
  refine lv_iload_n hx hb dX12_hasWord_1 rfl (lv_at hl 1 rfl) ?_
  refine gA_int (gA_runV (As := [.int p0]) (rest := []) (ci := 12) (q0 := 0) hx hb hml hown hg hP hD hK hS hA hnw hgk (s_isWordB l D ks H.size ad kk V L p0 hMV (by (first | exact om_dcb26408844e rg_p0.1 rg_p0.2 | omega)) (show 1 ≤ (V 0 8).toInt from by (first | exact om_f8d8213eda45 bf | omega))) w2023 w2025 w83 w172 w2026 rfl rfl hdV_yX12_isWord ⟨Nat.le_of_ble_eq_true rfl, Nat.le_of_ble_eq_true rfl⟩ rfl hl.1 rfl (Nat.le_of_ble_eq_true rfl) dX12_hasWord_2 ⟨Nat.le_of_ble_eq_true rfl, Nat.le_of_ble_eq_true rfl⟩) hP hD hK hS hA (fun z2 u3 H locs w4 hP hD hK hS => ?_)
  have rgz2 := w4
  have rgz2 : 0 ≤ z2.toInt ∧ z2.toInt ≤ 0 := rgz2
  refine lv_istore_n (lv' := [(2, .int z2), (0, .ref (ad 0)), (1, .int p0)]) hx hb dX12_hasWord_5 rfl hl (by decide) rfl (fun ls hl => ?_)
  refine lv_aload_n hx hb dX12_hasWord_6 rfl (lv_at hl 1 rfl) ?_
  refine lv_dup hx hb dX12_hasWord_7 rfl ?_
  refine va_get (D := D) (ci := 12) (v := .int (V 0 7)) (C := RX12) (T := TX12) (N := 100) hx hb hg inX12 hown hK hP 0 rfl rfl 7 (by decide) (hg _ w1713) (fun _ h9 => h9) rfl dX12_hasWord_8 ?_
  refine lv_iload_n hx hb dX12_hasWord_11 rfl (lv_at hl 0 rfl) ?_
  refine lv_if_eq (tgt := 19) hx hb dX12_hasWord_12 (by decide) (fun c5 => ?_) (fun c5 => ?_)
  · skip
    have f6 : z2.toInt = 0 := b_eq rfl (by decide) c5
    refine lv_iconst (v := 0) hx hb dX12_hasWord_19 (by decide) ?_
    refine lv_iadd hx hb dX12_hasWord_20 ?_
    have r7 := i_full (V 0 7)
    refine lv_topi (fun z8 ez8 => ?_)
    have hz8 : z8.toInt = ((V 0 7)).toInt + 0 := i_add ez8 rfl (by decide) (by (first | exact om_1db51938ff5e r7.1 r7.2 | omega))
    refine va_put (D := D) (ci := 12) (v := .int z8) (ty := tyX12 7) (C := RX12) (T := TX12) (N := 100) hx hb hg inX12 tyX12 tyX12_ok nmX12 hown hK hP hD hS 0 rfl rfl 7 (by decide) (hg _ w1713) (fun _ h9 => h9) rfl (tyX12_ok 7 (by decide)) rfl rfl (Nat.le_of_ble_eq_true rfl) dX12_hasWord_21 (fun H locs hP hD hS => ?_)
    obtain ⟨V9, hV9⟩ : ∃ z, z = up2 V 0 7 z8 := ⟨_, rfl⟩
    have hP : va_P D vwCl (mw ad kk ks.1 V9 L) H := by rw [hV9]; exact hP
    have hD : va_D A (mw ad kk ks.1 V9 L) := by rw [hV9]; exact hD
    have hMV9 : rgd bM V9 := hMV.put hV9 (i_full _)
    have agV9 : agr [(0, 7)] [] V V9 := agV.up hV9 rfl
    refine lv_iload_n hx hb dX12_hasWord_24 rfl (lv_at hl 0 rfl) ?_
    have pq10 : (V9 0 8).toInt = ((V 0 8)).toInt := congrArg Int32.toInt (up2_k hV9 (by decide))
    exact W.zret (v := z2) hx hb hr (nb_ok (by omega)) (fun t ht hW => ⟨⟨z2, (V9, L), rfl, ⟨hMV9, agV9, rfl, (show 0 ≤ z2.toInt ∧ z2.toInt ≤ 0 from by (first | exact om_5ef01dcf7d58 rgz2.1 rgz2.2 | omega)), (show (V9 0 8).toInt = (V 0 8).toInt from by (first | exact om_570b691c1130 pq10 | omega))⟩, by rw [ht]; exact hP, va_K.moved hW.alike hK, hD⟩, hS.F ht⟩) hS.2.2 dX12_hasWord_25
  · skip
    have f11 : z2.toInt ≠ 0 := b_neq rfl (by decide) c5
    exfalso; (first | exact om_0e608cc4b4f6 rgz2.1 rgz2.2 f11 | omega)
abbrev r_s_takeSignA : Room := { frames := 1, cells := 0, slots := 0, locals := 21 }
abbrev q_s_takeSignA (D : va_G) (ks : KS) (ad : Nat → Nat) (kk : Nat → ClassId) (V : Vf) (L : Lf) (p0 : Int32) (bq : Nat) (gn : Nat) (gT : Tk) (gs : St) (gl : List Int64) (A : Nat → Prop) : Array Value → State → Outcome → State → Prop := va_Qv (fun (u : Vf × Lf) => rgd bM u.1 ∧ agr [(0, 7), (0, 8)] [] V u.1 ∧ u.2 = L ∧ (((u.1 0 8).toInt = 0 ∧ gT.1 (gs.1 0) = p0.toInt ∧ RelM u.1 u.2 bq gn gT (nx gs 1) gl) ∨ (1 ≤ (u.1 0 8).toInt ∧ gT.1 (gs.1 0) ≠ p0.toInt ∧ (u.1 0 8).toInt = 1 + 16 * gT.2.2 (gs.1 0)))) (fun u t => gq D A (mw ad kk ks.1 u.1 u.2) (mty kk) t) A
set_option maxHeartbeats 4000000 in
set_option maxRecDepth 100000 in
theorem s_takeSignA (l : Launch) (D : va_G) (ks : KS) (sz : Nat) (ad : Nat → Nat) (kk : Nat → ClassId) (V : Vf) (L : Lf) (p0 : Int32) (bq : Nat) (gn : Nat) (gT : Tk) (gs : St) (gl : List Int64) (hMV : rgd bM V) (rel : RelM V L bq gn gT gs gl) (sg : isSg p0)  : Met l yX12_takeSign (Cond.code yX12_takeSign cX12_takeSign 2 none :: GW) r_s_takeSignA (va_Pc [.ref (ad 0), .int p0] (gp D ks (mw ad kk ks.1 V L) (mty kk) sz)) (q_s_takeSignA D ks ad kk V L p0 bq gn gT gs gl (va_A (mw ad kk ks.1 V L) sz)) 0 0 (va_A (mw ad kk ks.1 V L) sz) := by
  refine g_met (q_s_takeSignA D ks ad kk V L p0 bq gn gT gs gl) (by decide) (Nat.le_of_ble_eq_true rfl) ?_
  intro p e s m below meth c A ls H locs hx hb hr hml hown hg hlocks hin hnw hgk hP hK hD hS hA hl
  have hown : s.vm.findClass RX12 = some m.cls := hown
  have hl : lv_has ls 2 [(0, .ref (ad 0)), (1, .int p0)] := hl
  have hP : va_P D vwCl (mw ad kk ks.1 V L) H := hP
  have hD : va_D A (mw ad kk ks.1 V L) := hD
  have hK : va_K D vwCl (mty kk) s := hK
  have agV : agr [(0, 7), (0, 8)] [] V V := agr.rf
  have rf_p0 := i_full p0
  have rg0 := RelM.rg rel
  have cl0 := RelM.cl rel
  have cq0 := RelM.cq rel
  refine lv_aload_n hx hb dX12_takeSign_0 rfl (lv_at hl 0 rfl) ?_
  refine lv_iload_n hx hb dX12_takeSign_1 rfl (lv_at hl 1 rfl) ?_
  refine gA_int (gA_runV (As := [.int p0]) (rest := []) (ci := 12) (q0 := 0) hx hb hml hown hg hP hD hK hS hA hnw hgk (s_isSignA l D ks H.size ad kk V L p0 (bq) (gn) (gT) (gs) (gl) hMV rel sg) w2071 w2073 w95 w172 w2074 rfl rfl hdV_yX12_isSign ⟨Nat.le_of_ble_eq_true rfl, Nat.le_of_ble_eq_true rfl⟩ rfl hl.1 rfl (Nat.le_of_ble_eq_true rfl) dX12_takeSign_2 ⟨Nat.le_of_ble_eq_true rfl, Nat.le_of_ble_eq_true rfl⟩) hP hD hK hS hA (fun z1 u2 H locs w3 hP hD hK hS => ?_)
  obtain ⟨rgz1, t4⟩ := w3
  have rgz1 : 0 ≤ z1.toInt ∧ z1.toInt ≤ 1 := rgz1
  have t4 : (z1.toInt = 1 ∧ (gT).1 ((gs).1 0) = p0.toInt) ∨ (z1.toInt = 0 ∧ (gT).1 ((gs).1 0) ≠ p0.toInt) := t4
  rcases t4 with ⟨q5, h6⟩ | ⟨q5, h6⟩
  · skip
    refine lv_if_eq (tgt := 21) hx hb dX12_takeSign_5 (by decide) (fun c7 => ?_) (fun c7 => ?_)
    · skip
      have f8 : z1.toInt = 0 := b_eq rfl (by decide) c7
      exfalso; (first | exact om_495ee03a60ae q5 f8 | omega)
    · skip
      have f9 : z1.toInt ≠ 0 := b_neq rfl (by decide) c7
      refine lv_aload_n hx hb dX12_takeSign_8 rfl (lv_at hl 0 rfl) ?_
      refine lv_dup hx hb dX12_takeSign_9 rfl ?_
      refine va_get (D := D) (ci := 12) (v := .int (V 0 7)) (C := RX12) (T := TX12) (N := 100) hx hb hg inX12 hown hK hP 0 rfl rfl 7 (by decide) (hg _ w1713) (fun _ h9 => h9) rfl dX12_takeSign_10 ?_
      refine lv_iconst (v := 1) hx hb dX12_takeSign_13 (by decide) ?_
      refine lv_iadd hx hb dX12_takeSign_14 ?_
      refine lv_topi (fun z10 ez10 => ?_)
      have hz10 : z10.toInt = ((V 0 7)).toInt + 1 := i_add ez10 rfl (by decide) (by omega)
      refine va_put (D := D) (ci := 12) (v := .int z10) (ty := tyX12 7) (C := RX12) (T := TX12) (N := 100) hx hb hg inX12 tyX12 tyX12_ok nmX12 hown hK hP hD hS 0 rfl rfl 7 (by decide) (hg _ w1713) (fun _ h9 => h9) rfl (tyX12_ok 7 (by decide)) rfl rfl (Nat.le_of_ble_eq_true rfl) dX12_takeSign_15 (fun H locs hP hD hS => ?_)
      obtain ⟨V11, hV11⟩ : ∃ z, z = up2 V 0 7 z10 := ⟨_, rfl⟩
      have hP : va_P D vwCl (mw ad kk ks.1 V11 L) H := by rw [hV11]; exact hP
      have hD : va_D A (mw ad kk ks.1 V11 L) := by rw [hV11]; exact hD
      have hMV11 : rgd bM V11 := hMV.put hV11 (i_full _)
      have agV11 : agr [(0, 7), (0, 8)] [] V V11 := agV.up hV11 rfl
      refine lv_goto (tgt := 26) hx hb dX12_takeSign_18 (by decide) ?_
      exact W.vret hx hb hr (fun t ht hW => ⟨⟨(V11, L), rfl, ⟨hMV11, agV11, rfl, (Or.inl ⟨W0 (RelM.n1 rel hV11 (by (first | exact om_55c67efb91e5 hz10 | omega)) (fun h9 => by have z9 := sg_rg sg; omega)), h6, (RelM.n1 rel hV11 (by (first | exact om_55c67efb91e5 hz10 | omega)) (fun h9 => by have z9 := sg_rg sg; omega))⟩)⟩, by rw [ht]; exact hP, va_K.moved hW.alike hK, hD⟩, hS.F ht⟩) hS.2.2 dX12_takeSign_26
  · skip
    refine lv_if_eq (tgt := 21) hx hb dX12_takeSign_5 (by decide) (fun c12 => ?_) (fun c12 => ?_)
    · skip
      have f13 : z1.toInt = 0 := b_eq rfl (by decide) c12
      refine lv_aload_n hx hb dX12_takeSign_21 rfl (lv_at hl 0 rfl) ?_
      refine lv_iconst (v := 1) hx hb dX12_takeSign_22 (by decide) ?_
      have r14 : Int32.toInt 1 = 1 := by decide
      refine gA_void (gA_runV (As := [.int 1]) (rest := []) (ci := 12) (q0 := 0) hx hb hml hown hg hP hD hK hS hA hnw hgk (s_wrongA l D ks H.size ad kk V L 1 (bq) (gn) (gT) (gs) (gl) hMV (by decide) rel) w2035 w2037 w86 w172 w2038 rfl rfl hdV_yX12_wrong ⟨Nat.le_of_ble_eq_true rfl, Nat.le_of_ble_eq_true rfl⟩ rfl hl.1 rfl (Nat.le_of_ble_eq_true rfl) dX12_takeSign_23 ⟨Nat.le_of_ble_eq_true rfl, Nat.le_of_ble_eq_true rfl⟩) hP hD hK hS hA (fun u16 H locs w17 hP hD hK hS => ?_)
      obtain ⟨V20, L21⟩ := u16
      obtain ⟨hMV20, ajV20, axL21, t18, t19⟩ := w17
      have axL21 : L = L21 := Eq.symm axL21
      subst axL21
      have hP : va_P D vwCl (mw ad kk ks.1 V20 L) H := hP
      have hD : va_D A (mw ad kk ks.1 V20 L) := hD
      have hMV20 : rgd bM V20 := hMV20
      have ajV20 : agr [(0, 8)] [] V V20 := ajV20
      have agV20 : agr [(0, 7), (0, 8)] [] V V20 := agV.tr ajV20 (by decide) (by decide)
      have t18 : 1 ≤ (V20 0 8).toInt := t18
      have t19 : (V20 0 8).toInt = (Int32.toInt 1) + 16 * (gT).2.2 ((gs).1 0) := t19
      have r22 : 0 ≤ ((V20 0 8)).toInt ∧ ((V20 0 8)).toInt ≤ 70000 := hMV20 0 8
      exact W.vret hx hb hr (fun t ht hW => ⟨⟨(V20, L), rfl, ⟨hMV20, agV20, rfl, (Or.inr ⟨(show 1 ≤ (V20 0 8).toInt from by (first | exact om_f8d8213eda45 t18 | omega)), h6, (show (V20 0 8).toInt = 1 + 16 * gT.2.2 (gs.1 0) from by omega)⟩)⟩, by rw [ht]; exact hP, va_K.moved hW.alike hK, hD⟩, hS.F ht⟩) hS.2.2 dX12_takeSign_26
    · skip
      have f23 : z1.toInt ≠ 0 := b_neq rfl (by decide) c12
      exfalso; (first | exact om_fb320d7600b7 rgz1.1 q5 f23 | omega)
abbrev r_s_takeWordA : Room := { frames := 2, cells := 0, slots := 0, locals := 43 }
abbrev q_s_takeWordA (D : va_G) (ks : KS) (ad : Nat → Nat) (kk : Nat → ClassId) (V : Vf) (L : Lf) (p0 : Int32) (bq : Nat) (gn : Nat) (gT : Tk) (gs : St) (gl : List Int64) (A : Nat → Prop) : Array Value → State → Outcome → State → Prop := va_Qv (fun (u : Vf × Lf) => rgd bM u.1 ∧ agr [(0, 7), (0, 8)] [] V u.1 ∧ u.2 = L ∧ (((u.1 0 8).toInt = 0 ∧ gT.1 (gs.1 0) = 128 + p0.toInt ∧ RelM u.1 u.2 bq gn gT (nx gs 1) gl) ∨ (1 ≤ (u.1 0 8).toInt ∧ gT.1 (gs.1 0) ≠ 128 + p0.toInt ∧ (u.1 0 8).toInt = 1 + 16 * gT.2.2 (gs.1 0)))) (fun u t => gq D A (mw ad kk ks.1 u.1 u.2) (mty kk) t) A
set_option maxHeartbeats 4000000 in
set_option maxRecDepth 100000 in
theorem s_takeWordA (l : Launch) (D : va_G) (ks : KS) (sz : Nat) (ad : Nat → Nat) (kk : Nat → ClassId) (V : Vf) (L : Lf) (p0 : Int32) (bq : Nat) (gn : Nat) (gT : Tk) (gs : St) (gl : List Int64) (hMV : rgd bM V) (rg_p0 : 0 ≤ p0.toInt ∧ p0.toInt ≤ 27) (rel : RelM V L bq gn gT gs gl)  : Met l yX12_takeWord (Cond.code yX12_takeWord cX12_takeWord 2 none :: GW) r_s_takeWordA (va_Pc [.ref (ad 0), .int p0] (gp D ks (mw ad kk ks.1 V L) (mty kk) sz)) (q_s_takeWordA D ks ad kk V L p0 bq gn gT gs gl (va_A (mw ad kk ks.1 V L) sz)) 0 0 (va_A (mw ad kk ks.1 V L) sz) := by
  refine g_met (q_s_takeWordA D ks ad kk V L p0 bq gn gT gs gl) (by decide) (Nat.le_of_ble_eq_true rfl) ?_
  intro p e s m below meth c A ls H locs hx hb hr hml hown hg hlocks hin hnw hgk hP hK hD hS hA hl
  have hown : s.vm.findClass RX12 = some m.cls := hown
  have hl : lv_has ls 2 [(0, .ref (ad 0)), (1, .int p0)] := hl
  have hP : va_P D vwCl (mw ad kk ks.1 V L) H := hP
  have hD : va_D A (mw ad kk ks.1 V L) := hD
  have hK : va_K D vwCl (mty kk) s := hK
  have agV : agr [(0, 7), (0, 8)] [] V V := agr.rf
  have rf_p0 := i_full p0
  have rg0 := RelM.rg rel
  have cl0 := RelM.cl rel
  have cq0 := RelM.cq rel
  refine lv_aload_n hx hb dX12_takeWord_0 rfl (lv_at hl 0 rfl) ?_
  refine lv_iload_n hx hb dX12_takeWord_1 rfl (lv_at hl 1 rfl) ?_
  refine gA_int (gA_runV (As := [.int p0]) (rest := []) (ci := 12) (q0 := 0) hx hb hml hown hg hP hD hK hS hA hnw hgk (s_hasWordA l D ks H.size ad kk V L p0 (bq) (gn) (gT) (gs) (gl) hMV (by (first | exact om_295b1bd8a48b rg_p0.1 rg_p0.2 | omega)) rel) w2051 w2053 w90 w172 w2054 rfl rfl hdV_yX12_hasWord ⟨Nat.le_of_ble_eq_true rfl, Nat.le_of_ble_eq_true rfl⟩ rfl hl.1 rfl (Nat.le_of_ble_eq_true rfl) dX12_takeWord_2 ⟨Nat.le_of_ble_eq_true rfl, Nat.le_of_ble_eq_true rfl⟩) hP hD hK hS hA (fun z1 u2 H locs w3 hP hD hK hS => ?_)
  obtain ⟨V5, L6⟩ := u2
  obtain ⟨hMV5, ajV5, axL6, rgz1, t4⟩ := w3
  have axL6 : L = L6 := Eq.symm axL6
  subst axL6
  have hP : va_P D vwCl (mw ad kk ks.1 V5 L) H := hP
  have hD : va_D A (mw ad kk ks.1 V5 L) := hD
  have hMV5 : rgd bM V5 := hMV5
  have ajV5 : agr [(0, 7)] [] V V5 := ajV5
  have agV5 : agr [(0, 7), (0, 8)] [] V V5 := agV.tr ajV5 (by decide) (by decide)
  have rgz1 : 0 ≤ z1.toInt ∧ z1.toInt ≤ 1 := rgz1
  have t4 : (z1.toInt = 1 ∧ (gT).1 ((gs).1 0) = 128 + p0.toInt ∧ RelM V5 L (bq) (gn) (gT) (nx (gs) 1) (gl)) ∨ (z1.toInt = 0 ∧ (gT).1 ((gs).1 0) ≠ 128 + p0.toInt ∧ RelM V5 L (bq) (gn) (gT) (gs) (gl)) := t4
  rcases t4 with ⟨q7, h8, rl9⟩ | ⟨q7, h8, rl9⟩
  · skip
    have ps10 : (nx gs 1).1 0 = gs.1 0 + 1 := rfl
    have fz11 := RelM.rg rl9
    have pq12 : (V5 0 8).toInt = ((V 0 8)).toInt := congrArg Int32.toInt (ajV5 0 8 rfl)
    have r13 : 0 ≤ ((V 0 8)).toInt ∧ ((V 0 8)).toInt ≤ 70000 := hMV 0 8
    refine lv_if_ne (tgt := 13) hx hb dX12_takeWord_5 (by decide) (fun c14 => ?_) (fun c14 => ?_)
    · skip
      have f15 : z1.toInt ≠ 0 := b_neq rfl (by decide) c14
      exact W.vret hx hb hr (fun t ht hW => ⟨⟨(V5, L), rfl, ⟨hMV5, agV5, rfl, (Or.inl ⟨W0 rl9, h8, rl9⟩)⟩, by rw [ht]; exact hP, va_K.moved hW.alike hK, hD⟩, hS.F ht⟩) hS.2.2 dX12_takeWord_13
    · skip
      have f16 : z1.toInt = 0 := b_eq rfl (by decide) c14
      exfalso; (first | exact om_495ee03a60ae q7 f16 | omega)
  · skip
    have fz17 := RelM.rg rl9
    have pq18 : (V5 0 8).toInt = ((V 0 8)).toInt := congrArg Int32.toInt (ajV5 0 8 rfl)
    have r19 : 0 ≤ ((V 0 8)).toInt ∧ ((V 0 8)).toInt ≤ 70000 := hMV 0 8
    refine lv_if_ne (tgt := 13) hx hb dX12_takeWord_5 (by decide) (fun c20 => ?_) (fun c20 => ?_)
    · skip
      have f21 : z1.toInt ≠ 0 := b_neq rfl (by decide) c20
      exfalso; (first | exact om_fb320d7600b7 rgz1.1 q7 f21 | omega)
    · skip
      have f22 : z1.toInt = 0 := b_eq rfl (by decide) c20
      refine lv_aload_n hx hb dX12_takeWord_8 rfl (lv_at hl 0 rfl) ?_
      refine lv_iconst (v := 1) hx hb dX12_takeWord_9 (by decide) ?_
      have r23 : Int32.toInt 1 = 1 := by decide
      refine gA_void (gA_runV (As := [.int 1]) (rest := []) (ci := 12) (q0 := 0) hx hb hml hown hg hP hD hK hS hA hnw hgk (s_wrongA l D ks H.size ad kk V5 L 1 (bq) (gn) (gT) (gs) (gl) hMV5 (by decide) rl9) w2035 w2037 w86 w172 w2038 rfl rfl hdV_yX12_wrong ⟨Nat.le_of_ble_eq_true rfl, Nat.le_of_ble_eq_true rfl⟩ rfl hl.1 rfl (Nat.le_of_ble_eq_true rfl) dX12_takeWord_10 ⟨Nat.le_of_ble_eq_true rfl, Nat.le_of_ble_eq_true rfl⟩) hP hD hK hS hA (fun u25 H locs w26 hP hD hK hS => ?_)
      obtain ⟨V29, L30⟩ := u25
      obtain ⟨hMV29, ajV29, axL30, t27, t28⟩ := w26
      have axL30 : L = L30 := Eq.symm axL30
      subst axL30
      have hP : va_P D vwCl (mw ad kk ks.1 V29 L) H := hP
      have hD : va_D A (mw ad kk ks.1 V29 L) := hD
      have hMV29 : rgd bM V29 := hMV29
      have ajV29 : agr [(0, 8)] [] V5 V29 := ajV29
      have agV29 : agr [(0, 7), (0, 8)] [] V V29 := agV5.tr ajV29 (by decide) (by decide)
      have t27 : 1 ≤ (V29 0 8).toInt := t27
      have t28 : (V29 0 8).toInt = (Int32.toInt 1) + 16 * (gT).2.2 ((gs).1 0) := t28
      have r31 : 0 ≤ ((V29 0 8)).toInt ∧ ((V29 0 8)).toInt ≤ 70000 := hMV29 0 8
      exact W.vret hx hb hr (fun t ht hW => ⟨⟨(V29, L), rfl, ⟨hMV29, agV29, rfl, (Or.inr ⟨(show 1 ≤ (V29 0 8).toInt from by (first | exact om_f8d8213eda45 t27 | omega)), h8, (show (V29 0 8).toInt = 1 + 16 * gT.2.2 (gs.1 0) from by omega)⟩)⟩, by rw [ht]; exact hP, va_K.moved hW.alike hK, hD⟩, hS.F ht⟩) hS.2.2 dX12_takeWord_13
abbrev r_s_takeSignB : Room := { frames := 1, cells := 0, slots := 0, locals := 21 }
abbrev q_s_takeSignB (D : va_G) (ks : KS) (ad : Nat → Nat) (kk : Nat → ClassId) (V : Vf) (L : Lf) (p0 : Int32) (A : Nat → Prop) : Array Value → State → Outcome → State → Prop := va_Qv (fun (u : Vf × Lf) => rgd bM u.1 ∧ agr [(0, 7), (0, 8)] [] V u.1 ∧ u.2 = L ∧ ((u.1 0 8).toInt = (V 0 8).toInt)) (fun u t => gq D A (mw ad kk ks.1 u.1 u.2) (mty kk) t) A
set_option maxHeartbeats 4000000 in
set_option maxRecDepth 100000 in
theorem s_takeSignB (l : Launch) (D : va_G) (ks : KS) (sz : Nat) (ad : Nat → Nat) (kk : Nat → ClassId) (V : Vf) (L : Lf) (p0 : Int32) (hMV : rgd bM V) (bf : 1 ≤ (V 0 8).toInt)  : Met l yX12_takeSign (Cond.code yX12_takeSign cX12_takeSign 2 none :: GW) r_s_takeSignB (va_Pc [.ref (ad 0), .int p0] (gp D ks (mw ad kk ks.1 V L) (mty kk) sz)) (q_s_takeSignB D ks ad kk V L p0 (va_A (mw ad kk ks.1 V L) sz)) 0 0 (va_A (mw ad kk ks.1 V L) sz) := by
  refine g_met (q_s_takeSignB D ks ad kk V L p0) (by decide) (Nat.le_of_ble_eq_true rfl) ?_
  intro p e s m below meth c A ls H locs hx hb hr hml hown hg hlocks hin hnw hgk hP hK hD hS hA hl
  have hown : s.vm.findClass RX12 = some m.cls := hown
  have hl : lv_has ls 2 [(0, .ref (ad 0)), (1, .int p0)] := hl
  have hP : va_P D vwCl (mw ad kk ks.1 V L) H := hP
  have hD : va_D A (mw ad kk ks.1 V L) := hD
  have hK : va_K D vwCl (mty kk) s := hK
  have agV : agr [(0, 7), (0, 8)] [] V V := agr.rf
  have rf_p0 := i_full p0
  have r1 : 0 ≤ ((V 0 8)).toInt ∧ ((V 0 8)).toInt ≤ 70000 := hMV 0 8
  refine lv_aload_n hx hb dX12_takeSign_0 rfl (lv_at hl 0 rfl) ?_
  refine lv_iload_n hx hb dX12_takeSign_1 rfl (lv_at hl 1 rfl) ?_
  refine gA_int (gA_runV (As := [.int p0]) (rest := []) (ci := 12) (q0 := 0) hx hb hml hown hg hP hD hK hS hA hnw hgk (s_isSignB l D ks H.size ad kk V L p0 hMV (show 1 ≤ (V 0 8).toInt from by (first | exact om_f8d8213eda45 bf | omega))) w2071 w2073 w95 w172 w2074 rfl rfl hdV_yX12_isSign ⟨Nat.le_of_ble_eq_true rfl, Nat.le_of_ble_eq_true rfl⟩ rfl hl.1 rfl (Nat.le_of_ble_eq_true rfl) dX12_takeSign_2 ⟨Nat.le_of_ble_eq_true rfl, Nat.le_of_ble_eq_true rfl⟩) hP hD hK hS hA (fun z2 u3 H locs w4 hP hD hK hS => ?_)
  have rgz2 := w4
  have rgz2 : 0 ≤ z2.toInt ∧ z2.toInt ≤ 0 := rgz2
  refine lv_if_eq (tgt := 21) hx hb dX12_takeSign_5 (by decide) (fun c5 => ?_) (fun c5 => ?_)
  · skip
    have f6 : z2.toInt = 0 := b_eq rfl (by decide) c5
    refine lv_aload_n hx hb dX12_takeSign_21 rfl (lv_at hl 0 rfl) ?_
    refine lv_iconst (v := 1) hx hb dX12_takeSign_22 (by decide) ?_
    have r7 : Int32.toInt 1 = 1 := by decide
    refine gA_void (gA_runV (As := [.int 1]) (rest := []) (ci := 12) (q0 := 0) hx hb hml hown hg hP hD hK hS hA hnw hgk (s_wrongB l D ks H.size ad kk V L 1 hMV (show 1 ≤ (V 0 8).toInt from by (first | exact om_f8d8213eda45 bf | omega))) w2035 w2037 w86 w172 w2038 rfl rfl hdV_yX12_wrong ⟨Nat.le_of_ble_eq_true rfl, Nat.le_of_ble_eq_true rfl⟩ rfl hl.1 rfl (Nat.le_of_ble_eq_true rfl) dX12_takeSign_23 ⟨Nat.le_of_ble_eq_true rfl, Nat.le_of_ble_eq_true rfl⟩) hP hD hK hS hA (fun u9 H locs w10 hP hD hK hS => ?_)
    obtain ⟨V12, L13⟩ := u9
    obtain ⟨hMV12, ajV12, axL13, t11⟩ := w10
    have axL13 : L = L13 := Eq.symm axL13
    subst axL13
    have hP : va_P D vwCl (mw ad kk ks.1 V12 L) H := hP
    have hD : va_D A (mw ad kk ks.1 V12 L) := hD
    have hMV12 : rgd bM V12 := hMV12
    have ajV12 : agr [(0, 8)] [] V V12 := ajV12
    have agV12 : agr [(0, 7), (0, 8)] [] V V12 := agV.tr ajV12 (by decide) (by decide)
    have t11 : (V12 0 8).toInt = (V 0 8).toInt := t11
    have r14 : 0 ≤ ((V12 0 8)).toInt ∧ ((V12 0 8)).toInt ≤ 70000 := hMV12 0 8
    exact W.vret hx hb hr (fun t ht hW => ⟨⟨(V12, L), rfl, ⟨hMV12, agV12, rfl, (show (V12 0 8).toInt = (V 0 8).toInt from by (first | exact om_570b691c1130 t11 | omega))⟩, by rw [ht]; exact hP, va_K.moved hW.alike hK, hD⟩, hS.F ht⟩) hS.2.2 dX12_takeSign_26
  · skip
    have f15 : z2.toInt ≠ 0 := b_neq rfl (by decide) c5
    exfalso; (first | exact om_0e608cc4b4f6 rgz2.1 rgz2.2 f15 | omega)
abbrev r_s_takeWordB : Room := { frames := 2, cells := 0, slots := 0, locals := 43 }
abbrev q_s_takeWordB (D : va_G) (ks : KS) (ad : Nat → Nat) (kk : Nat → ClassId) (V : Vf) (L : Lf) (p0 : Int32) (A : Nat → Prop) : Array Value → State → Outcome → State → Prop := va_Qv (fun (u : Vf × Lf) => rgd bM u.1 ∧ agr [(0, 7), (0, 8)] [] V u.1 ∧ u.2 = L ∧ ((u.1 0 8).toInt = (V 0 8).toInt)) (fun u t => gq D A (mw ad kk ks.1 u.1 u.2) (mty kk) t) A
set_option maxHeartbeats 4000000 in
set_option maxRecDepth 100000 in
theorem s_takeWordB (l : Launch) (D : va_G) (ks : KS) (sz : Nat) (ad : Nat → Nat) (kk : Nat → ClassId) (V : Vf) (L : Lf) (p0 : Int32) (hMV : rgd bM V) (rg_p0 : 0 ≤ p0.toInt ∧ p0.toInt ≤ 29) (bf : 1 ≤ (V 0 8).toInt)  : Met l yX12_takeWord (Cond.code yX12_takeWord cX12_takeWord 2 none :: GW) r_s_takeWordB (va_Pc [.ref (ad 0), .int p0] (gp D ks (mw ad kk ks.1 V L) (mty kk) sz)) (q_s_takeWordB D ks ad kk V L p0 (va_A (mw ad kk ks.1 V L) sz)) 0 0 (va_A (mw ad kk ks.1 V L) sz) := by
  refine g_met (q_s_takeWordB D ks ad kk V L p0) (by decide) (Nat.le_of_ble_eq_true rfl) ?_
  intro p e s m below meth c A ls H locs hx hb hr hml hown hg hlocks hin hnw hgk hP hK hD hS hA hl
  have hown : s.vm.findClass RX12 = some m.cls := hown
  have hl : lv_has ls 2 [(0, .ref (ad 0)), (1, .int p0)] := hl
  have hP : va_P D vwCl (mw ad kk ks.1 V L) H := hP
  have hD : va_D A (mw ad kk ks.1 V L) := hD
  have hK : va_K D vwCl (mty kk) s := hK
  have agV : agr [(0, 7), (0, 8)] [] V V := agr.rf
  have rf_p0 := i_full p0
  have r1 : 0 ≤ ((V 0 8)).toInt ∧ ((V 0 8)).toInt ≤ 70000 := hMV 0 8
  refine lv_aload_n hx hb dX12_takeWord_0 rfl (lv_at hl 0 rfl) ?_
  refine lv_iload_n hx hb dX12_takeWord_1 rfl (lv_at hl 1 rfl) ?_
  refine gA_int (gA_runV (As := [.int p0]) (rest := []) (ci := 12) (q0 := 0) hx hb hml hown hg hP hD hK hS hA hnw hgk (s_hasWordB l D ks H.size ad kk V L p0 hMV (by (first | exact om_dcb26408844e rg_p0.1 rg_p0.2 | omega)) (show 1 ≤ (V 0 8).toInt from by (first | exact om_f8d8213eda45 bf | omega))) w2051 w2053 w90 w172 w2054 rfl rfl hdV_yX12_hasWord ⟨Nat.le_of_ble_eq_true rfl, Nat.le_of_ble_eq_true rfl⟩ rfl hl.1 rfl (Nat.le_of_ble_eq_true rfl) dX12_takeWord_2 ⟨Nat.le_of_ble_eq_true rfl, Nat.le_of_ble_eq_true rfl⟩) hP hD hK hS hA (fun z2 u3 H locs w4 hP hD hK hS => ?_)
  obtain ⟨V6, L7⟩ := u3
  obtain ⟨hMV6, ajV6, axL7, rgz2, t5⟩ := w4
  have axL7 : L = L7 := Eq.symm axL7
  subst axL7
  have hP : va_P D vwCl (mw ad kk ks.1 V6 L) H := hP
  have hD : va_D A (mw ad kk ks.1 V6 L) := hD
  have hMV6 : rgd bM V6 := hMV6
  have ajV6 : agr [(0, 7)] [] V V6 := ajV6
  have agV6 : agr [(0, 7), (0, 8)] [] V V6 := agV.tr ajV6 (by decide) (by decide)
  have rgz2 : 0 ≤ z2.toInt ∧ z2.toInt ≤ 0 := rgz2
  have t5 : (V6 0 8).toInt = (V 0 8).toInt := t5
  have pq8 : (V6 0 8).toInt = ((V 0 8)).toInt := congrArg Int32.toInt (ajV6 0 8 rfl)
  refine lv_if_ne (tgt := 13) hx hb dX12_takeWord_5 (by decide) (fun c9 => ?_) (fun c9 => ?_)
  · skip
    have f10 : z2.toInt ≠ 0 := b_neq rfl (by decide) c9
    exfalso; (first | exact om_0e608cc4b4f6 rgz2.1 rgz2.2 f10 | omega)
  · skip
    have f11 : z2.toInt = 0 := b_eq rfl (by decide) c9
    refine lv_aload_n hx hb dX12_takeWord_8 rfl (lv_at hl 0 rfl) ?_
    refine lv_iconst (v := 1) hx hb dX12_takeWord_9 (by decide) ?_
    have r12 : Int32.toInt 1 = 1 := by decide
    refine gA_void (gA_runV (As := [.int 1]) (rest := []) (ci := 12) (q0 := 0) hx hb hml hown hg hP hD hK hS hA hnw hgk (s_wrongB l D ks H.size ad kk V6 L 1 hMV6 (show 1 ≤ (V6 0 8).toInt from by (first | exact om_e3c391a03e81 bf pq8 | omega))) w2035 w2037 w86 w172 w2038 rfl rfl hdV_yX12_wrong ⟨Nat.le_of_ble_eq_true rfl, Nat.le_of_ble_eq_true rfl⟩ rfl hl.1 rfl (Nat.le_of_ble_eq_true rfl) dX12_takeWord_10 ⟨Nat.le_of_ble_eq_true rfl, Nat.le_of_ble_eq_true rfl⟩) hP hD hK hS hA (fun u14 H locs w15 hP hD hK hS => ?_)
    obtain ⟨V17, L18⟩ := u14
    obtain ⟨hMV17, ajV17, axL18, t16⟩ := w15
    have axL18 : L = L18 := Eq.symm axL18
    subst axL18
    have hP : va_P D vwCl (mw ad kk ks.1 V17 L) H := hP
    have hD : va_D A (mw ad kk ks.1 V17 L) := hD
    have hMV17 : rgd bM V17 := hMV17
    have ajV17 : agr [(0, 8)] [] V6 V17 := ajV17
    have agV17 : agr [(0, 7), (0, 8)] [] V V17 := agV6.tr ajV17 (by decide) (by decide)
    have t16 : (V17 0 8).toInt = (V6 0 8).toInt := t16
    have r19 : 0 ≤ ((V17 0 8)).toInt ∧ ((V17 0 8)).toInt ≤ 70000 := hMV17 0 8
    exact W.vret hx hb hr (fun t ht hW => ⟨⟨(V17, L), rfl, ⟨hMV17, agV17, rfl, (show (V17 0 8).toInt = (V 0 8).toInt from by (first | exact om_cd7d0a6a31bc t5 t16 | omega))⟩, by rw [ht]; exact hP, va_K.moved hW.alike hK, hD⟩, hS.F ht⟩) hS.2.2 dX12_takeWord_13
abbrev r_s_isNameA : Room := { frames := 0, cells := 0, slots := 0, locals := 0 }
abbrev q_s_isNameA (D : va_G) (ks : KS) (ad : Nat → Nat) (kk : Nat → ClassId) (V : Vf) (L : Lf) (bq : Nat) (gn : Nat) (gT : Tk) (gs : St) (gl : List Int64) (A : Nat → Prop) : Array Value → State → Outcome → State → Prop := va_Qi (fun (r : Int32) (_ : Unit) => (0 ≤ r.toInt ∧ r.toInt ≤ 1) ∧ ((r.toInt = 1 ∧ gT.1 (gs.1 0) = 3) ∨ (r.toInt = 0 ∧ gT.1 (gs.1 0) ≠ 3))) (fun _ t => gq D A (mw ad kk ks.1 V L) (mty kk) t) A
set_option maxHeartbeats 4000000 in
set_option maxRecDepth 100000 in
theorem s_isNameA (l : Launch) (D : va_G) (ks : KS) (sz : Nat) (ad : Nat → Nat) (kk : Nat → ClassId) (V : Vf) (L : Lf) (bq : Nat) (gn : Nat) (gT : Tk) (gs : St) (gl : List Int64) (hMV : rgd bM V) (rel : RelM V L bq gn gT gs gl)  : Met l yX12_isName (Cond.code yX12_isName cX12_isName 3 (some .boolean) :: GW) r_s_isNameA (va_Pc [.ref (ad 0)] (gp D ks (mw ad kk ks.1 V L) (mty kk) sz)) (q_s_isNameA D ks ad kk V L  bq gn gT gs gl (va_A (mw ad kk ks.1 V L) sz)) 0 0 (va_A (mw ad kk ks.1 V L) sz) := by
  refine g_met (q_s_isNameA D ks ad kk V L  bq gn gT gs gl) (by decide) (Nat.le_of_ble_eq_true rfl) ?_
  intro p e s m below meth c A ls H locs hx hb hr hml hown hg hlocks hin hnw hgk hP hK hD hS hA hl
  have hown : s.vm.findClass RX12 = some m.cls := hown
  have hl : lv_has ls 3 [(0, .ref (ad 0))] := hl
  have hP : va_P D vwCl (mw ad kk ks.1 V L) H := hP
  have hD : va_D A (mw ad kk ks.1 V L) := hD
  have hK : va_K D vwCl (mty kk) s := hK
  have rg0 := RelM.rg rel
  have cl0 := RelM.cl rel
  have cq0 := RelM.cq rel
  refine lv_aload_n hx hb dX12_isName_0 rfl (lv_at hl 0 rfl) ?_
  refine va_get (D := D) (ci := 12) (v := .int (V 0 8)) (C := RX12) (T := TX12) (N := 100) hx hb hg inX12 hown hK hP 0 rfl rfl 8 (by decide) (hg _ w1714) (fun _ h9 => h9) rfl dX12_isName_1 ?_
  have r1 : 0 ≤ ((V 0 8)).toInt ∧ ((V 0 8)).toInt ≤ 70000 := hMV 0 8
  refine lv_if_ne (tgt := 24) hx hb dX12_isName_4 (by decide) (fun c2 => ?_) (fun c2 => ?_)
  · skip
    have f3 : ((V 0 8)).toInt ≠ 0 := b_neq rfl (by decide) c2
    exfalso; (first | exact om_0b51723c7ef6 rg0.2.2.1 f3 | omega)
  · skip
    have f4 : ((V 0 8)).toInt = 0 := b_eq rfl (by decide) c2
    refine lv_aload_n hx hb dX12_isName_7 rfl (lv_at hl 0 rfl) ?_
    refine va_get (D := D) (ci := 12) (v := .ref (ad 4)) (C := RX12) (T := TX12) (N := 100) hx hb hg inX12 hown hK hP 0 rfl rfl 4 (by decide) (hg _ w1710) (fun _ h9 => h9) rfl dX12_isName_8 ?_
    refine lv_aload_n hx hb dX12_isName_11 rfl (lv_at hl 0 rfl) ?_
    refine va_get (D := D) (ci := 12) (v := .int (V 0 7)) (C := RX12) (T := TX12) (N := 100) hx hb hg inX12 hown hK hP 0 rfl rfl 7 (by decide) (hg _ w1713) (fun _ h9 => h9) rfl dX12_isName_12 ?_
    refine va_iald (D := D) (i := (V 0 7)) hx hb hK hP 2 1 rfl rfl (i_in (a := ((V 0 7)).toInt) rfl (by omega)) dX12_isName_15 ?_
    refine lv_iconst (v := 1) hx hb dX12_isName_16 (by decide) ?_
    refine lv_icmp_ne (tgt := 24) hx hb dX12_isName_17 (by decide) (fun c5 => ?_) (fun c5 => ?_)
    · skip
      have f6 : ((V 4 (Int32.toNatClampNeg (V 0 7)))).toInt ≠ 1 := b_neq rfl (by decide) c5
      refine lv_iconst (v := 0) hx hb dX12_isName_24 (by decide) ?_
      refine lv_istore_n (lv' := [(1, .int 0), (0, .ref (ad 0))]) hx hb dX12_isName_25 rfl hl (by decide) rfl (fun ls hl => ?_)
      refine lv_iconst (v := 0) hx hb dX12_isName_26 (by decide) ?_
      refine lv_istore_n (lv' := [(2, .int 0), (1, .int 0), (0, .ref (ad 0))]) hx hb dX12_isName_27 rfl hl (by decide) rfl (fun ls hl => ?_)
      have lp9 : ∀ (fulp9 : Nat) (y7 : Int32) (y8 : Int32) (H : Heap) (locs : List Loc) (ls : Array Slot), 0 ≤ y7.toInt ∧ y7.toInt ≤ 28 → 0 ≤ y8.toInt ∧ y8.toInt ≤ 1 → ((y8.toInt = 1 → (V 4 (gs.1 0)).toInt = 1 ∧ ∀ k : Nat, (k : Int) < y7.toInt → L 6 (gs.1 0) ≠ L 10 k) ∧ (y8.toInt = 0 → ((V 4 (gs.1 0)).toInt ≠ 1 ∨ ∃ k : Nat, k < 28 ∧ L 6 (gs.1 0) = L 10 k))) → Imp (y8.toInt = 1) (0 ≤ y7.toInt) → 28 - y7.toInt < (fulp9 : Int) → va_P D vwCl (mw ad kk ks.1 V L) H → va_D A (mw ad kk ks.1 V L) → va_S A s.heap H locs → lv_has ls 3 [(2, .int y7), (1, .int y8), (0, .ref (ad 0))] → W p l e r_s_isNameA s m ([.ref (ad 0)] : List Value).toArray below meth c H locs 0 0 (MQ below (q_s_isNameA D ks ad kk V L  bq gn gT gs gl A) ([.ref (ad 0)] : List Value).toArray s 0 0 A) (F0 m 28 ls []) := by
        intro fulp9
        induction fulp9 with
        | zero =>
          intro y7 y8 H locs ls klp9_0 klp9_1 xlp9_0 xlp9_1 hn  hP hD hS hl
          exfalso; (first | exact om_8009d6250780 klp9_0.2 hn | omega)
        | succ fulp9 ihlp9 =>
          intro y7 y8 H locs ls klp9_0 klp9_1 xlp9_0 xlp9_1 hn  hP hD hS hl
          refine lv_iload_n hx hb dX12_isName_28 rfl (lv_at hl 0 rfl) ?_
          refine lv_bipush (v := 28) hx hb dX12_isName_29 (by decide) ?_
          refine lv_icmp_ge (tgt := 69) hx hb dX12_isName_31 (by decide) (fun c10 => ?_) (fun c10 => ?_)
          · skip
            have f11 : 28 ≤ y7.toInt := b_le (by decide) rfl c10
            refine lv_iload_n hx hb dX12_isName_69 rfl (lv_at hl 1 rfl) ?_
            exact W.zret (v := y8) hx hb hr (nb_ok (by omega)) (fun t ht hW => ⟨⟨y8, (), rfl, ⟨(show 0 ≤ y8.toInt ∧ y8.toInt ≤ 1 from by first | exact om_eb7af9d60398 klp9_1.1 klp9_1.2 | first | omega | ((try (have i_xlp9_1 := Imp.go xlp9_1 (by omega))); omega)), (by rcases (show y8.toInt = 0 ∨ y8.toInt = 1 from by omega) with h01 | h01; exact Or.inr ⟨h01, fun h9 => by have z := (RelM.nm rel).mpr h9; rcases xlp9_0.2 h01 with z1 | ⟨k, z1, z2⟩; exact z1 z.1; exact z.2 k z1 z2⟩; exact Or.inl ⟨h01, (RelM.nm rel).mp ⟨(xlp9_0.1 h01).1, fun k hk => (xlp9_0.1 h01).2 k (by omega)⟩⟩)⟩, by rw [ht]; exact hP, va_K.moved hW.alike hK, hD⟩, hS.F ht⟩) hS.2.2 dX12_isName_70
          · skip
            have f12 : y7.toInt < 28 := b_nle (by decide) rfl c10
            refine lv_iload_n hx hb dX12_isName_34 rfl (lv_at hl 1 rfl) ?_
            refine lv_if_eq (tgt := 69) hx hb dX12_isName_35 (by decide) (fun c13 => ?_) (fun c13 => ?_)
            · skip
              have f14 : y8.toInt = 0 := b_eq rfl (by decide) c13
              refine lv_iload_n hx hb dX12_isName_69 rfl (lv_at hl 1 rfl) ?_
              exact W.zret (v := y8) hx hb hr (nb_ok (by omega)) (fun t ht hW => ⟨⟨y8, (), rfl, ⟨(show 0 ≤ y8.toInt ∧ y8.toInt ≤ 1 from by first | exact om_85296d547285 klp9_1.1 f14 | first | omega | ((try (have i_xlp9_1 := Imp.go xlp9_1 (by omega))); omega)), (by rcases (show y8.toInt = 0 ∨ y8.toInt = 1 from by omega) with h01 | h01; exact Or.inr ⟨h01, fun h9 => by have z := (RelM.nm rel).mpr h9; rcases xlp9_0.2 h01 with z1 | ⟨k, z1, z2⟩; exact z1 z.1; exact z.2 k z1 z2⟩; exact Or.inl ⟨h01, (RelM.nm rel).mp ⟨(xlp9_0.1 h01).1, fun k hk => (xlp9_0.1 h01).2 k (by omega)⟩⟩)⟩, by rw [ht]; exact hP, va_K.moved hW.alike hK, hD⟩, hS.F ht⟩) hS.2.2 dX12_isName_70
            · skip
              have f15 : y8.toInt ≠ 0 := b_neq rfl (by decide) c13
              refine lv_aload_n hx hb dX12_isName_38 rfl (lv_at hl 2 rfl) ?_
              refine va_get (D := D) (ci := 12) (v := .ref (ad 6)) (C := RX12) (T := TX12) (N := 100) hx hb hg inX12 hown hK hP 0 rfl rfl 6 (by decide) (hg _ w1712) (fun _ h9 => h9) rfl dX12_isName_39 ?_
              refine lv_aload_n hx hb dX12_isName_42 rfl (lv_at hl 2 rfl) ?_
              refine va_get (D := D) (ci := 12) (v := .int (V 0 7)) (C := RX12) (T := TX12) (N := 100) hx hb hg inX12 hown hK hP 0 rfl rfl 7 (by decide) (hg _ w1713) (fun _ h9 => h9) rfl dX12_isName_43 ?_
              refine va_lald (D := D) (i := (V 0 7)) hx hb hK hP 4 3 rfl rfl (i_in (a := ((V 0 7)).toInt) rfl (by first | omega | ((try (have i_xlp9_1 := Imp.go xlp9_1 (by omega))); omega))) dX12_isName_46 ?_
              refine lv_aload_n hx hb dX12_isName_47 rfl (lv_at hl 2 rfl) ?_
              refine va_get (D := D) (ci := 12) (v := .ref (ad 10)) (C := RX12) (T := TX12) (N := 100) hx hb hg inX12 hown hK hP 0 rfl rfl 10 (by decide) (hg _ w1716) (fun _ h9 => h9) rfl dX12_isName_48 ?_
              refine lv_iload_n hx hb dX12_isName_51 rfl (lv_at hl 0 rfl) ?_
              refine va_lald (D := D) (i := y7) hx hb hK hP 5 4 rfl rfl (i_in (a := y7.toInt) rfl (by first | exact om_045cd12c16f0 klp9_0.1 f12 | first | omega | ((try (have i_xlp9_1 := Imp.go xlp9_1 (by omega))); omega))) dX12_isName_52 ?_
              refine W.lcmp hx hb dX12_isName_53 ?_
              refine lv_topi (fun z16 ez16 => ?_)
              have hz16 := lcmp_f ez16
              refine lv_if_eq (tgt := 61) hx hb dX12_isName_54 (by decide) (fun c17 => ?_) (fun c17 => ?_)
              · skip
                have f18 : z16.toInt = 0 := b_eq rfl (by decide) c17
                refine lv_iconst (v := 0) hx hb dX12_isName_61 (by decide) ?_
                refine lv_istore_n (lv' := [(1, .int 0), (2, .int y7), (0, .ref (ad 0))]) hx hb dX12_isName_62 rfl hl (by decide) rfl (fun ls hl => ?_)
                obtain ⟨z19, ez19⟩ : ∃ y : Int32, y = y7 + 1 := ⟨_, rfl⟩
                have hz19 : z19.toInt = y7.toInt + 1 := i_add ez19 rfl (by decide) (by (first | exact om_5bde2511380b klp9_0.1 f12 | omega))
                refine lv_iinc (v := z19) (lv' := [(2, .int z19), (1, .int 0), (0, .ref (ad 0))]) hx hb dX12_isName_63 hl (k := 1) rfl (by rw [ez19]; rfl) (by decide) rfl (fun ls hl => ?_)
                refine lv_goto (tgt := 28) hx hb dX12_isName_66 (by decide) ?_
                have r20 : Int32.toInt 0 = 0 := by decide
                have kc21 := i_clamp (x := y7) rfl (by (first | exact om_eafa9039069c klp9_0.1 | omega))
                exact ihlp9 z19 0 H locs ls (by first | exact om_e53fff2320c6 klp9_0.1 f12 hz19 | first | omega | ((try (have i_xlp9_1 := Imp.go xlp9_1 (by omega))); omega)) (by decide) ⟨fun h9 => by exfalso; omega, fun _ => Or.inr ⟨Int32.toNatClampNeg y7, by omega, Int64.toInt_inj.mp (by rw [← cl0]; omega)⟩⟩ (Imp.mk (fun hp => absurd hp (by decide))) (by first | exact om_e591ec508e02 hn hz19 | first | omega | ((try (have i_xlp9_1 := Imp.go xlp9_1 (by omega))); omega)) hP hD hS (lv_sub hl [0, 1, 2] rfl)
              · skip
                have f22 : z16.toInt ≠ 0 := b_neq rfl (by decide) c17
                refine lv_iconst (v := 1) hx hb dX12_isName_57 (by decide) ?_
                refine lv_goto (tgt := 62) hx hb dX12_isName_58 (by decide) ?_
                refine lv_istore_n (lv' := [(1, .int 1), (2, .int y7), (0, .ref (ad 0))]) hx hb dX12_isName_62 rfl hl (by decide) rfl (fun ls hl => ?_)
                obtain ⟨z23, ez23⟩ : ∃ y : Int32, y = y7 + 1 := ⟨_, rfl⟩
                have hz23 : z23.toInt = y7.toInt + 1 := i_add ez23 rfl (by decide) (by (first | exact om_5bde2511380b klp9_0.1 f12 | omega))
                refine lv_iinc (v := z23) (lv' := [(2, .int z23), (1, .int 1), (0, .ref (ad 0))]) hx hb dX12_isName_63 hl (k := 1) rfl (by rw [ez23]; rfl) (by decide) rfl (fun ls hl => ?_)
                refine lv_goto (tgt := 28) hx hb dX12_isName_66 (by decide) ?_
                have r24 : Int32.toInt 1 = 1 := by decide
                have kc25 := i_clamp (x := y7) rfl (by (first | exact om_eafa9039069c klp9_0.1 | omega))
                exact ihlp9 z23 1 H locs ls (by first | exact om_e53fff2320c6 klp9_0.1 f12 hz23 | first | omega | ((try (have i_xlp9_1 := Imp.go xlp9_1 (by omega))); omega)) (by decide) ⟨fun _ => ⟨(xlp9_0.1 (by omega)).1, fun k hk => by by_cases c9 : (k : Int) < y7.toInt; exact (xlp9_0.1 (by omega)).2 k c9; have ek : k = Int32.toNatClampNeg y7 := (by omega); rw [ek, ← cl0]; intro q9; have q8 := congrArg Int64.toInt q9; omega⟩, fun h9 => by exfalso; omega⟩ (Imp.mk (fun _ => (show 0 ≤ z23.toInt from by first | exact om_5ed16a07bd2d klp9_0.1 hz23 | first | omega | ((try (have i_xlp9_1 := Imp.go xlp9_1 (by omega))); omega)))) (by first | exact om_e591ec508e02 hn hz23 | first | omega | ((try (have i_xlp9_1 := Imp.go xlp9_1 (by omega))); omega)) hP hD hS (lv_sub hl [0, 1, 2] rfl)
      have r26 : Int32.toInt 0 = 0 := by decide
      exact lp9 ((28 - (Int32.toInt 0) + 1 : Int).toNat) 0 0 H locs ls (by decide) (by decide) ⟨fun h9 => by exfalso; omega, fun _ => Or.inl (by rw [← cl0]; omega)⟩ (Imp.mk (fun hp => absurd hp (by decide))) (by (first | exact om_8d46326cbfc1 | omega)) hP hD hS (lv_sub hl [0, 1, 2] rfl)
    · skip
      have f27 : ((V 4 (Int32.toNatClampNeg (V 0 7)))).toInt = 1 := b_eq rfl (by decide) c5
      refine lv_iconst (v := 1) hx hb dX12_isName_20 (by decide) ?_
      refine lv_goto (tgt := 25) hx hb dX12_isName_21 (by decide) ?_
      refine lv_istore_n (lv' := [(1, .int 1), (0, .ref (ad 0))]) hx hb dX12_isName_25 rfl hl (by decide) rfl (fun ls hl => ?_)
      refine lv_iconst (v := 0) hx hb dX12_isName_26 (by decide) ?_
      refine lv_istore_n (lv' := [(2, .int 0), (1, .int 1), (0, .ref (ad 0))]) hx hb dX12_isName_27 rfl hl (by decide) rfl (fun ls hl => ?_)
      have lp30 : ∀ (fulp30 : Nat) (y28 : Int32) (y29 : Int32) (H : Heap) (locs : List Loc) (ls : Array Slot), 0 ≤ y28.toInt ∧ y28.toInt ≤ 28 → 0 ≤ y29.toInt ∧ y29.toInt ≤ 1 → ((y29.toInt = 1 → (V 4 (gs.1 0)).toInt = 1 ∧ ∀ k : Nat, (k : Int) < y28.toInt → L 6 (gs.1 0) ≠ L 10 k) ∧ (y29.toInt = 0 → ((V 4 (gs.1 0)).toInt ≠ 1 ∨ ∃ k : Nat, k < 28 ∧ L 6 (gs.1 0) = L 10 k))) → Imp (y29.toInt = 1) (0 ≤ y28.toInt) → 28 - y28.toInt < (fulp30 : Int) → va_P D vwCl (mw ad kk ks.1 V L) H → va_D A (mw ad kk ks.1 V L) → va_S A s.heap H locs → lv_has ls 3 [(2, .int y28), (1, .int y29), (0, .ref (ad 0))] → W p l e r_s_isNameA s m ([.ref (ad 0)] : List Value).toArray below meth c H locs 0 0 (MQ below (q_s_isNameA D ks ad kk V L  bq gn gT gs gl A) ([.ref (ad 0)] : List Value).toArray s 0 0 A) (F0 m 28 ls []) := by
        intro fulp30
        induction fulp30 with
        | zero =>
          intro y28 y29 H locs ls klp30_0 klp30_1 xlp30_0 xlp30_1 hn  hP hD hS hl
          exfalso; (first | exact om_8009d6250780 klp30_0.2 hn | omega)
        | succ fulp30 ihlp30 =>
          intro y28 y29 H locs ls klp30_0 klp30_1 xlp30_0 xlp30_1 hn  hP hD hS hl
          refine lv_iload_n hx hb dX12_isName_28 rfl (lv_at hl 0 rfl) ?_
          refine lv_bipush (v := 28) hx hb dX12_isName_29 (by decide) ?_
          refine lv_icmp_ge (tgt := 69) hx hb dX12_isName_31 (by decide) (fun c31 => ?_) (fun c31 => ?_)
          · skip
            have f32 : 28 ≤ y28.toInt := b_le (by decide) rfl c31
            refine lv_iload_n hx hb dX12_isName_69 rfl (lv_at hl 1 rfl) ?_
            exact W.zret (v := y29) hx hb hr (nb_ok (by omega)) (fun t ht hW => ⟨⟨y29, (), rfl, ⟨(show 0 ≤ y29.toInt ∧ y29.toInt ≤ 1 from by first | exact om_eb7af9d60398 klp30_1.1 klp30_1.2 | first | omega | ((try (have i_xlp30_1 := Imp.go xlp30_1 (by omega))); omega)), (by rcases (show y29.toInt = 0 ∨ y29.toInt = 1 from by omega) with h01 | h01; exact Or.inr ⟨h01, fun h9 => by have z := (RelM.nm rel).mpr h9; rcases xlp30_0.2 h01 with z1 | ⟨k, z1, z2⟩; exact z1 z.1; exact z.2 k z1 z2⟩; exact Or.inl ⟨h01, (RelM.nm rel).mp ⟨(xlp30_0.1 h01).1, fun k hk => (xlp30_0.1 h01).2 k (by omega)⟩⟩)⟩, by rw [ht]; exact hP, va_K.moved hW.alike hK, hD⟩, hS.F ht⟩) hS.2.2 dX12_isName_70
          · skip
            have f33 : y28.toInt < 28 := b_nle (by decide) rfl c31
            refine lv_iload_n hx hb dX12_isName_34 rfl (lv_at hl 1 rfl) ?_
            refine lv_if_eq (tgt := 69) hx hb dX12_isName_35 (by decide) (fun c34 => ?_) (fun c34 => ?_)
            · skip
              have f35 : y29.toInt = 0 := b_eq rfl (by decide) c34
              refine lv_iload_n hx hb dX12_isName_69 rfl (lv_at hl 1 rfl) ?_
              exact W.zret (v := y29) hx hb hr (nb_ok (by omega)) (fun t ht hW => ⟨⟨y29, (), rfl, ⟨(show 0 ≤ y29.toInt ∧ y29.toInt ≤ 1 from by first | exact om_85296d547285 klp30_1.1 f35 | first | omega | ((try (have i_xlp30_1 := Imp.go xlp30_1 (by omega))); omega)), (by rcases (show y29.toInt = 0 ∨ y29.toInt = 1 from by omega) with h01 | h01; exact Or.inr ⟨h01, fun h9 => by have z := (RelM.nm rel).mpr h9; rcases xlp30_0.2 h01 with z1 | ⟨k, z1, z2⟩; exact z1 z.1; exact z.2 k z1 z2⟩; exact Or.inl ⟨h01, (RelM.nm rel).mp ⟨(xlp30_0.1 h01).1, fun k hk => (xlp30_0.1 h01).2 k (by omega)⟩⟩)⟩, by rw [ht]; exact hP, va_K.moved hW.alike hK, hD⟩, hS.F ht⟩) hS.2.2 dX12_isName_70
            · skip
              have f36 : y29.toInt ≠ 0 := b_neq rfl (by decide) c34
              refine lv_aload_n hx hb dX12_isName_38 rfl (lv_at hl 2 rfl) ?_
              refine va_get (D := D) (ci := 12) (v := .ref (ad 6)) (C := RX12) (T := TX12) (N := 100) hx hb hg inX12 hown hK hP 0 rfl rfl 6 (by decide) (hg _ w1712) (fun _ h9 => h9) rfl dX12_isName_39 ?_
              refine lv_aload_n hx hb dX12_isName_42 rfl (lv_at hl 2 rfl) ?_
              refine va_get (D := D) (ci := 12) (v := .int (V 0 7)) (C := RX12) (T := TX12) (N := 100) hx hb hg inX12 hown hK hP 0 rfl rfl 7 (by decide) (hg _ w1713) (fun _ h9 => h9) rfl dX12_isName_43 ?_
              refine va_lald (D := D) (i := (V 0 7)) hx hb hK hP 4 3 rfl rfl (i_in (a := ((V 0 7)).toInt) rfl (by first | omega | ((try (have i_xlp30_1 := Imp.go xlp30_1 (by omega))); omega))) dX12_isName_46 ?_
              refine lv_aload_n hx hb dX12_isName_47 rfl (lv_at hl 2 rfl) ?_
              refine va_get (D := D) (ci := 12) (v := .ref (ad 10)) (C := RX12) (T := TX12) (N := 100) hx hb hg inX12 hown hK hP 0 rfl rfl 10 (by decide) (hg _ w1716) (fun _ h9 => h9) rfl dX12_isName_48 ?_
              refine lv_iload_n hx hb dX12_isName_51 rfl (lv_at hl 0 rfl) ?_
              refine va_lald (D := D) (i := y28) hx hb hK hP 5 4 rfl rfl (i_in (a := y28.toInt) rfl (by first | exact om_045cd12c16f0 klp30_0.1 f33 | first | omega | ((try (have i_xlp30_1 := Imp.go xlp30_1 (by omega))); omega))) dX12_isName_52 ?_
              refine W.lcmp hx hb dX12_isName_53 ?_
              refine lv_topi (fun z37 ez37 => ?_)
              have hz37 := lcmp_f ez37
              refine lv_if_eq (tgt := 61) hx hb dX12_isName_54 (by decide) (fun c38 => ?_) (fun c38 => ?_)
              · skip
                have f39 : z37.toInt = 0 := b_eq rfl (by decide) c38
                refine lv_iconst (v := 0) hx hb dX12_isName_61 (by decide) ?_
                refine lv_istore_n (lv' := [(1, .int 0), (2, .int y28), (0, .ref (ad 0))]) hx hb dX12_isName_62 rfl hl (by decide) rfl (fun ls hl => ?_)
                obtain ⟨z40, ez40⟩ : ∃ y : Int32, y = y28 + 1 := ⟨_, rfl⟩
                have hz40 : z40.toInt = y28.toInt + 1 := i_add ez40 rfl (by decide) (by (first | exact om_5bde2511380b klp30_0.1 f33 | omega))
                refine lv_iinc (v := z40) (lv' := [(2, .int z40), (1, .int 0), (0, .ref (ad 0))]) hx hb dX12_isName_63 hl (k := 1) rfl (by rw [ez40]; rfl) (by decide) rfl (fun ls hl => ?_)
                refine lv_goto (tgt := 28) hx hb dX12_isName_66 (by decide) ?_
                have r41 : Int32.toInt 0 = 0 := by decide
                have kc42 := i_clamp (x := y28) rfl (by (first | exact om_eafa9039069c klp30_0.1 | omega))
                exact ihlp30 z40 0 H locs ls (by first | exact om_e53fff2320c6 klp30_0.1 f33 hz40 | first | omega | ((try (have i_xlp30_1 := Imp.go xlp30_1 (by omega))); omega)) (by decide) ⟨fun h9 => by exfalso; omega, fun _ => Or.inr ⟨Int32.toNatClampNeg y28, by omega, Int64.toInt_inj.mp (by rw [← cl0]; omega)⟩⟩ (Imp.mk (fun hp => absurd hp (by decide))) (by first | exact om_e591ec508e02 hn hz40 | first | omega | ((try (have i_xlp30_1 := Imp.go xlp30_1 (by omega))); omega)) hP hD hS (lv_sub hl [0, 1, 2] rfl)
              · skip
                have f43 : z37.toInt ≠ 0 := b_neq rfl (by decide) c38
                refine lv_iconst (v := 1) hx hb dX12_isName_57 (by decide) ?_
                refine lv_goto (tgt := 62) hx hb dX12_isName_58 (by decide) ?_
                refine lv_istore_n (lv' := [(1, .int 1), (2, .int y28), (0, .ref (ad 0))]) hx hb dX12_isName_62 rfl hl (by decide) rfl (fun ls hl => ?_)
                obtain ⟨z44, ez44⟩ : ∃ y : Int32, y = y28 + 1 := ⟨_, rfl⟩
                have hz44 : z44.toInt = y28.toInt + 1 := i_add ez44 rfl (by decide) (by (first | exact om_5bde2511380b klp30_0.1 f33 | omega))
                refine lv_iinc (v := z44) (lv' := [(2, .int z44), (1, .int 1), (0, .ref (ad 0))]) hx hb dX12_isName_63 hl (k := 1) rfl (by rw [ez44]; rfl) (by decide) rfl (fun ls hl => ?_)
                refine lv_goto (tgt := 28) hx hb dX12_isName_66 (by decide) ?_
                have r45 : Int32.toInt 1 = 1 := by decide
                have kc46 := i_clamp (x := y28) rfl (by (first | exact om_eafa9039069c klp30_0.1 | omega))
                exact ihlp30 z44 1 H locs ls (by first | exact om_e53fff2320c6 klp30_0.1 f33 hz44 | first | omega | ((try (have i_xlp30_1 := Imp.go xlp30_1 (by omega))); omega)) (by decide) ⟨fun _ => ⟨(xlp30_0.1 (by omega)).1, fun k hk => by by_cases c9 : (k : Int) < y28.toInt; exact (xlp30_0.1 (by omega)).2 k c9; have ek : k = Int32.toNatClampNeg y28 := (by omega); rw [ek, ← cl0]; intro q9; have q8 := congrArg Int64.toInt q9; omega⟩, fun h9 => by exfalso; omega⟩ (Imp.mk (fun _ => (show 0 ≤ z44.toInt from by first | exact om_5ed16a07bd2d klp30_0.1 hz44 | first | omega | ((try (have i_xlp30_1 := Imp.go xlp30_1 (by omega))); omega)))) (by first | exact om_e591ec508e02 hn hz44 | first | omega | ((try (have i_xlp30_1 := Imp.go xlp30_1 (by omega))); omega)) hP hD hS (lv_sub hl [0, 1, 2] rfl)
      have r47 : Int32.toInt 0 = 0 := by decide
      have r48 : Int32.toInt 1 = 1 := by decide
      exact lp30 ((28 - (Int32.toInt 0) + 1 : Int).toNat) 0 1 H locs ls (by decide) (by decide) ⟨fun _ => ⟨by rw [← cl0]; omega, fun k hk => by exfalso; omega⟩, fun h9 => by exfalso; omega⟩ (Imp.mk (fun _ => (show 0 ≤ (Int32.toInt 0) from by (first | exact om_1531b20f57e1 r47 | omega)))) (by (first | exact om_8d46326cbfc1 | omega)) hP hD hS (lv_sub hl [0, 1, 2] rfl)
abbrev r_s_takeNumberA : Room := { frames := 1, cells := 0, slots := 0, locals := 21 }
abbrev q_s_takeNumberA (D : va_G) (ks : KS) (ad : Nat → Nat) (kk : Nat → ClassId) (V : Vf) (L : Lf) (p0 : Int32) (p1 : Int32) (bq : Nat) (gn : Nat) (gT : Tk) (gs : St) (gl : List Int64) (A : Nat → Prop) : Array Value → State → Outcome → State → Prop := va_Qi (fun (r : Int32) (u : Vf × Lf) => rgd bM u.1 ∧ agr [(0, 7), (0, 8)] [] V u.1 ∧ u.2 = L ∧ (((u.1 0 8).toInt = 0 ∧ gT.1 (gs.1 0) = 2 ∧ p0.toInt ≤ (gT.2.1 (gs.1 0)).toInt ∧ (gT.2.1 (gs.1 0)).toInt ≤ p1.toInt ∧ RelM u.1 u.2 bq gn gT (nx gs 1) gl) ∨ (1 ≤ (u.1 0 8).toInt ∧ ((gT.1 (gs.1 0) ≠ 2 ∧ (u.1 0 8).toInt = 1 + 16 * gT.2.2 (gs.1 0)) ∨ (gT.1 (gs.1 0) = 2 ∧ ((gT.2.1 (gs.1 0)).toInt < p0.toInt ∨ p1.toInt < (gT.2.1 (gs.1 0)).toInt) ∧ (u.1 0 8).toInt = 4 + 16 * gT.2.2 (gs.1 0))))) ∧ (Imp ((u.1 0 8).toInt = 0) (p0.toInt ≤ r.toInt ∧ r.toInt ≤ p1.toInt)) ∧ (Imp (1 ≤ (u.1 0 8).toInt) (r.toInt = 0)) ∧ (Imp ((u.1 0 8).toInt = 0) (r.toInt = (gT.2.1 (gs.1 0)).toInt))) (fun u t => gq D A (mw ad kk ks.1 u.1 u.2) (mty kk) t) A
set_option maxHeartbeats 4000000 in
set_option maxRecDepth 100000 in
theorem s_takeNumberA (l : Launch) (D : va_G) (ks : KS) (sz : Nat) (ad : Nat → Nat) (kk : Nat → ClassId) (V : Vf) (L : Lf) (p0 : Int32) (p1 : Int32) (bq : Nat) (gn : Nat) (gT : Tk) (gs : St) (gl : List Int64) (hMV : rgd bM V) (rel : RelM V L bq gn gT gs gl) (y1 : -1 ≤ p1.toInt ∧ p1.toInt ≤ 999999999) (y0 : 0 ≤ p0.toInt)  : Met l yX12_takeNumber (Cond.code yX12_takeNumber cX12_takeNumber 3 (some .int) :: GW) r_s_takeNumberA (va_Pc [.ref (ad 0), .int p0, .int p1] (gp D ks (mw ad kk ks.1 V L) (mty kk) sz)) (q_s_takeNumberA D ks ad kk V L p0 p1 bq gn gT gs gl (va_A (mw ad kk ks.1 V L) sz)) 0 0 (va_A (mw ad kk ks.1 V L) sz) := by
  refine g_met (q_s_takeNumberA D ks ad kk V L p0 p1 bq gn gT gs gl) (by decide) (Nat.le_of_ble_eq_true rfl) ?_
  intro p e s m below meth c A ls H locs hx hb hr hml hown hg hlocks hin hnw hgk hP hK hD hS hA hl
  have hown : s.vm.findClass RX12 = some m.cls := hown
  have hl : lv_has ls 3 [(0, .ref (ad 0)), (1, .int p0), (2, .int p1)] := hl
  have hP : va_P D vwCl (mw ad kk ks.1 V L) H := hP
  have hD : va_D A (mw ad kk ks.1 V L) := hD
  have hK : va_K D vwCl (mty kk) s := hK
  have agV : agr [(0, 7), (0, 8)] [] V V := agr.rf
  have rf_p0 := i_full p0
  have rf_p1 := i_full p1
  have rg0 := RelM.rg rel
  have cl0 := RelM.cl rel
  have cq0 := RelM.cq rel
  refine lv_aload_n hx hb dX12_takeNumber_0 rfl (lv_at hl 0 rfl) ?_
  refine va_get (D := D) (ci := 12) (v := .int (V 0 8)) (C := RX12) (T := TX12) (N := 100) hx hb hg inX12 hown hK hP 0 rfl rfl 8 (by decide) (hg _ w1714) (fun _ h9 => h9) rfl dX12_takeNumber_1 ?_
  have r1 : 0 ≤ ((V 0 8)).toInt ∧ ((V 0 8)).toInt ≤ 70000 := hMV 0 8
  refine lv_if_ne (tgt := 28) hx hb dX12_takeNumber_4 (by decide) (fun c2 => ?_) (fun c2 => ?_)
  · skip
    have f3 : ((V 0 8)).toInt ≠ 0 := b_neq rfl (by decide) c2
    exfalso; (first | exact om_0b51723c7ef6 rg0.2.2.1 f3 | omega)
  · skip
    have f4 : ((V 0 8)).toInt = 0 := b_eq rfl (by decide) c2
    refine lv_aload_n hx hb dX12_takeNumber_7 rfl (lv_at hl 0 rfl) ?_
    refine va_get (D := D) (ci := 12) (v := .ref (ad 4)) (C := RX12) (T := TX12) (N := 100) hx hb hg inX12 hown hK hP 0 rfl rfl 4 (by decide) (hg _ w1710) (fun _ h9 => h9) rfl dX12_takeNumber_8 ?_
    refine lv_aload_n hx hb dX12_takeNumber_11 rfl (lv_at hl 0 rfl) ?_
    refine va_get (D := D) (ci := 12) (v := .int (V 0 7)) (C := RX12) (T := TX12) (N := 100) hx hb hg inX12 hown hK hP 0 rfl rfl 7 (by decide) (hg _ w1713) (fun _ h9 => h9) rfl dX12_takeNumber_12 ?_
    refine va_iald (D := D) (i := (V 0 7)) hx hb hK hP 2 1 rfl rfl (i_in (a := ((V 0 7)).toInt) rfl (by omega)) dX12_takeNumber_15 ?_
    refine lv_iconst (v := 2) hx hb dX12_takeNumber_16 (by decide) ?_
    refine lv_icmp_eq (tgt := 28) hx hb dX12_takeNumber_17 (by decide) (fun c5 => ?_) (fun c5 => ?_)
    · skip
      have f6 : ((V 4 (Int32.toNatClampNeg (V 0 7)))).toInt = 2 := b_eq rfl (by decide) c5
      have k2n : gT.1 (gs.1 0) = 2 := (RelM.nb rel).mp (by rw [← cl0]; omega)
      have vln := RelM.vl rel (Or.inl k2n)
      refine lv_aload_n hx hb dX12_takeNumber_28 rfl (lv_at hl 0 rfl) ?_
      refine va_get (D := D) (ci := 12) (v := .int (V 0 8)) (C := RX12) (T := TX12) (N := 100) hx hb hg inX12 hown hK hP 0 rfl rfl 8 (by decide) (hg _ w1714) (fun _ h9 => h9) rfl dX12_takeNumber_29 ?_
      refine lv_if_ne (tgt := 70) hx hb dX12_takeNumber_32 (by decide) (fun c7 => ?_) (fun c7 => ?_)
      · skip
        have f8 : ((V 0 8)).toInt ≠ 0 := b_neq rfl (by decide) c7
        exfalso; (first | exact om_fb320d7600b7 r1.1 f4 f8 | omega)
      · skip
        have f9 : ((V 0 8)).toInt = 0 := b_eq rfl (by decide) c7
        refine lv_aload_n hx hb dX12_takeNumber_35 rfl (lv_at hl 0 rfl) ?_
        refine va_get (D := D) (ci := 12) (v := .ref (ad 6)) (C := RX12) (T := TX12) (N := 100) hx hb hg inX12 hown hK hP 0 rfl rfl 6 (by decide) (hg _ w1712) (fun _ h9 => h9) rfl dX12_takeNumber_36 ?_
        refine lv_aload_n hx hb dX12_takeNumber_39 rfl (lv_at hl 0 rfl) ?_
        refine va_get (D := D) (ci := 12) (v := .int (V 0 7)) (C := RX12) (T := TX12) (N := 100) hx hb hg inX12 hown hK hP 0 rfl rfl 7 (by decide) (hg _ w1713) (fun _ h9 => h9) rfl dX12_takeNumber_40 ?_
        refine va_lald (D := D) (i := (V 0 7)) hx hb hK hP 4 3 rfl rfl (i_in (a := ((V 0 7)).toInt) rfl (by omega)) dX12_takeNumber_43 ?_
        refine lv_iload_n hx hb dX12_takeNumber_44 rfl (lv_at hl 1 rfl) ?_
        refine lv_i2l hx hb dX12_takeNumber_45 rfl ?_
        refine lv_topl (fun w10 ew10 => ?_)
        have hw10 : w10.toInt = p0.toInt := i2l_f ew10 rfl
        refine W.lcmp hx hb dX12_takeNumber_46 ?_
        refine lv_topi (fun z11 ez11 => ?_)
        have hz11 := lcmp_f ez11
        refine lv_if_lt (tgt := 65) hx hb dX12_takeNumber_47 (by decide) (fun c12 => ?_) (fun c12 => ?_)
        · skip
          have f13 : z11.toInt < 0 := b_lt rfl (by decide) c12
          refine lv_aload_n hx hb dX12_takeNumber_65 rfl (lv_at hl 0 rfl) ?_
          refine lv_iconst (v := 4) hx hb dX12_takeNumber_66 (by decide) ?_
          have r14 : Int32.toInt 4 = 4 := by decide
          refine gA_void (gA_runV (As := [.int 4]) (rest := []) (ci := 12) (q0 := 0) hx hb hml hown hg hP hD hK hS hA hnw hgk (s_wrongA l D ks H.size ad kk V L 4 (bq) (gn) (gT) (gs) (gl) hMV (by decide) rel) w2035 w2037 w86 w172 w2038 rfl rfl hdV_yX12_wrong ⟨Nat.le_of_ble_eq_true rfl, Nat.le_of_ble_eq_true rfl⟩ rfl hl.1 rfl (Nat.le_of_ble_eq_true rfl) dX12_takeNumber_67 ⟨Nat.le_of_ble_eq_true rfl, Nat.le_of_ble_eq_true rfl⟩) hP hD hK hS hA (fun u16 H locs w17 hP hD hK hS => ?_)
          obtain ⟨V20, L21⟩ := u16
          obtain ⟨hMV20, ajV20, axL21, t18, t19⟩ := w17
          have axL21 : L = L21 := Eq.symm axL21
          subst axL21
          have hP : va_P D vwCl (mw ad kk ks.1 V20 L) H := hP
          have hD : va_D A (mw ad kk ks.1 V20 L) := hD
          have hMV20 : rgd bM V20 := hMV20
          have ajV20 : agr [(0, 8)] [] V V20 := ajV20
          have agV20 : agr [(0, 7), (0, 8)] [] V V20 := agV.tr ajV20 (by decide) (by decide)
          have t18 : 1 ≤ (V20 0 8).toInt := t18
          have t19 : (V20 0 8).toInt = (Int32.toInt 4) + 16 * (gT).2.2 ((gs).1 0) := t19
          have r22 : 0 ≤ ((V20 0 8)).toInt ∧ ((V20 0 8)).toInt ≤ 70000 := hMV20 0 8
          refine lv_aload_n hx hb dX12_takeNumber_70 rfl (lv_at hl 0 rfl) ?_
          refine lv_dup hx hb dX12_takeNumber_71 rfl ?_
          refine va_get (D := D) (ci := 12) (v := .int (V20 0 7)) (C := RX12) (T := TX12) (N := 100) hx hb hg inX12 hown hK hP 0 rfl rfl 7 (by decide) (hg _ w1713) (fun _ h9 => h9) rfl dX12_takeNumber_72 ?_
          refine g_top (v := (V 0 7)) (ajV20 0 7 rfl) ?_
          refine lv_iconst (v := 1) hx hb dX12_takeNumber_75 (by decide) ?_
          refine lv_iadd hx hb dX12_takeNumber_76 ?_
          refine lv_topi (fun z23 ez23 => ?_)
          have hz23 : z23.toInt = ((V 0 7)).toInt + 1 := i_add ez23 rfl (by decide) (by omega)
          refine va_put (D := D) (ci := 12) (v := .int z23) (ty := tyX12 7) (C := RX12) (T := TX12) (N := 100) hx hb hg inX12 tyX12 tyX12_ok nmX12 hown hK hP hD hS 0 rfl rfl 7 (by decide) (hg _ w1713) (fun _ h9 => h9) rfl (tyX12_ok 7 (by decide)) rfl rfl (Nat.le_of_ble_eq_true rfl) dX12_takeNumber_77 (fun H locs hP hD hS => ?_)
          obtain ⟨V24, hV24⟩ : ∃ z, z = up2 V20 0 7 z23 := ⟨_, rfl⟩
          have hP : va_P D vwCl (mw ad kk ks.1 V24 L) H := by rw [hV24]; exact hP
          have hD : va_D A (mw ad kk ks.1 V24 L) := by rw [hV24]; exact hD
          have hMV24 : rgd bM V24 := hMV20.put hV24 (i_full _)
          have agV24 : agr [(0, 7), (0, 8)] [] V V24 := agV20.up hV24 rfl
          refine lv_aload_n hx hb dX12_takeNumber_80 rfl (lv_at hl 0 rfl) ?_
          refine va_get (D := D) (ci := 12) (v := .int (V24 0 8)) (C := RX12) (T := TX12) (N := 100) hx hb hg inX12 hown hK hP 0 rfl rfl 8 (by decide) (hg _ w1714) (fun _ h9 => h9) rfl dX12_takeNumber_81 ?_
          refine g_top (v := (V20 0 8)) (up2_k hV24 (by decide)) ?_
          refine lv_if_le (tgt := 91) hx hb dX12_takeNumber_84 (by decide) (fun c25 => ?_) (fun c25 => ?_)
          · skip
            have f26 : ((V20 0 8)).toInt ≤ 0 := b_le rfl (by decide) c25
            exfalso; (first | exact om_f4ec09d15507 t18 f26 | omega)
          · skip
            have f27 : 0 < ((V20 0 8)).toInt := b_nle rfl (by decide) c25
            refine lv_iconst (v := 0) hx hb dX12_takeNumber_87 (by decide) ?_
            refine lv_goto (tgt := 103) hx hb dX12_takeNumber_88 (by decide) ?_
            have pq28 : (V24 0 8).toInt = ((V20 0 8)).toInt := congrArg Int32.toInt (up2_k hV24 (by decide))
            exact W.iret (v := 0) hx hb hr (fun t ht hW => ⟨⟨0, (V24, L), rfl, ⟨hMV24, agV24, rfl, (Or.inr ⟨(show 1 ≤ (V24 0 8).toInt from by (first | exact om_e3c391a03e81 t18 pq28 | omega)), Or.inr ⟨k2n, (by rw [vln, ← cl0]; omega), (show (V24 0 8).toInt = 4 + 16 * gT.2.2 (gs.1 0) from by omega)⟩⟩), (Imp.mk (fun hp => have hp : (V24 0 8).toInt = 0 := hp; (show p0.toInt ≤ 0 ∧ 0 ≤ p1.toInt from by omega))), (Imp.mk (fun hp => have hp : 1 ≤ (V24 0 8).toInt := hp; (show 0 = 0 from by omega))), (Imp.mk (fun h9 => by have h8 : (V24 0 8).toInt = 0 := h9; exfalso; omega))⟩, by rw [ht]; exact hP, va_K.moved hW.alike hK, hD⟩, hS.F ht⟩) hS.2.2 dX12_takeNumber_103
        · skip
          have f29 : 0 ≤ z11.toInt := b_nlt rfl (by decide) c12
          refine lv_aload_n hx hb dX12_takeNumber_50 rfl (lv_at hl 0 rfl) ?_
          refine va_get (D := D) (ci := 12) (v := .ref (ad 6)) (C := RX12) (T := TX12) (N := 100) hx hb hg inX12 hown hK hP 0 rfl rfl 6 (by decide) (hg _ w1712) (fun _ h9 => h9) rfl dX12_takeNumber_51 ?_
          refine lv_aload_n hx hb dX12_takeNumber_54 rfl (lv_at hl 0 rfl) ?_
          refine va_get (D := D) (ci := 12) (v := .int (V 0 7)) (C := RX12) (T := TX12) (N := 100) hx hb hg inX12 hown hK hP 0 rfl rfl 7 (by decide) (hg _ w1713) (fun _ h9 => h9) rfl dX12_takeNumber_55 ?_
          refine va_lald (D := D) (i := (V 0 7)) hx hb hK hP 4 3 rfl rfl (i_in (a := ((V 0 7)).toInt) rfl (by omega)) dX12_takeNumber_58 ?_
          refine lv_iload_n hx hb dX12_takeNumber_59 rfl (lv_at hl 2 rfl) ?_
          refine lv_i2l hx hb dX12_takeNumber_60 rfl ?_
          refine lv_topl (fun w30 ew30 => ?_)
          have hw30 : w30.toInt = p1.toInt := i2l_f ew30 rfl
          refine W.lcmp hx hb dX12_takeNumber_61 ?_
          refine lv_topi (fun z31 ez31 => ?_)
          have hz31 := lcmp_f ez31
          refine lv_if_le (tgt := 70) hx hb dX12_takeNumber_62 (by decide) (fun c32 => ?_) (fun c32 => ?_)
          · skip
            have f33 : z31.toInt ≤ 0 := b_le rfl (by decide) c32
            refine lv_aload_n hx hb dX12_takeNumber_70 rfl (lv_at hl 0 rfl) ?_
            refine lv_dup hx hb dX12_takeNumber_71 rfl ?_
            refine va_get (D := D) (ci := 12) (v := .int (V 0 7)) (C := RX12) (T := TX12) (N := 100) hx hb hg inX12 hown hK hP 0 rfl rfl 7 (by decide) (hg _ w1713) (fun _ h9 => h9) rfl dX12_takeNumber_72 ?_
            refine lv_iconst (v := 1) hx hb dX12_takeNumber_75 (by decide) ?_
            refine lv_iadd hx hb dX12_takeNumber_76 ?_
            refine lv_topi (fun z34 ez34 => ?_)
            have hz34 : z34.toInt = ((V 0 7)).toInt + 1 := i_add ez34 rfl (by decide) (by omega)
            refine va_put (D := D) (ci := 12) (v := .int z34) (ty := tyX12 7) (C := RX12) (T := TX12) (N := 100) hx hb hg inX12 tyX12 tyX12_ok nmX12 hown hK hP hD hS 0 rfl rfl 7 (by decide) (hg _ w1713) (fun _ h9 => h9) rfl (tyX12_ok 7 (by decide)) rfl rfl (Nat.le_of_ble_eq_true rfl) dX12_takeNumber_77 (fun H locs hP hD hS => ?_)
            obtain ⟨V35, hV35⟩ : ∃ z, z = up2 V 0 7 z34 := ⟨_, rfl⟩
            have hP : va_P D vwCl (mw ad kk ks.1 V35 L) H := by rw [hV35]; exact hP
            have hD : va_D A (mw ad kk ks.1 V35 L) := by rw [hV35]; exact hD
            have hMV35 : rgd bM V35 := hMV.put hV35 (i_full _)
            have agV35 : agr [(0, 7), (0, 8)] [] V V35 := agV.up hV35 rfl
            refine lv_aload_n hx hb dX12_takeNumber_80 rfl (lv_at hl 0 rfl) ?_
            refine va_get (D := D) (ci := 12) (v := .int (V35 0 8)) (C := RX12) (T := TX12) (N := 100) hx hb hg inX12 hown hK hP 0 rfl rfl 8 (by decide) (hg _ w1714) (fun _ h9 => h9) rfl dX12_takeNumber_81 ?_
            refine g_top (v := (V 0 8)) (up2_k hV35 (by decide)) ?_
            refine lv_if_le (tgt := 91) hx hb dX12_takeNumber_84 (by decide) (fun c36 => ?_) (fun c36 => ?_)
            · skip
              have f37 : ((V 0 8)).toInt ≤ 0 := b_le rfl (by decide) c36
              refine lv_aload_n hx hb dX12_takeNumber_91 rfl (lv_at hl 0 rfl) ?_
              refine va_get (D := D) (ci := 12) (v := .ref (ad 6)) (C := RX12) (T := TX12) (N := 100) hx hb hg inX12 hown hK hP 0 rfl rfl 6 (by decide) (hg _ w1712) (fun _ h9 => h9) rfl dX12_takeNumber_92 ?_
              refine lv_aload_n hx hb dX12_takeNumber_95 rfl (lv_at hl 0 rfl) ?_
              refine va_get (D := D) (ci := 12) (v := .int (V35 0 7)) (C := RX12) (T := TX12) (N := 100) hx hb hg inX12 hown hK hP 0 rfl rfl 7 (by decide) (hg _ w1713) (fun _ h9 => h9) rfl dX12_takeNumber_96 ?_
              refine g_top (v := z34) (up2_s hV35) ?_
              refine lv_iconst (v := 1) hx hb dX12_takeNumber_99 (by decide) ?_
              refine lv_isub hx hb dX12_takeNumber_100 ?_
              refine lv_topi (fun z38 ez38 => ?_)
              have hz38 : z38.toInt = z34.toInt - 1 := i_sub ez38 rfl (by decide) (by omega)
              have q39 : z38 = (V 0 7) := Int32.toInt_inj.mp (by omega)
              rw [q39]
              refine va_lald (D := D) (i := (V 0 7)) hx hb hK hP 4 3 rfl rfl (i_in (a := ((V 0 7)).toInt) rfl (by omega)) dX12_takeNumber_101 ?_
              refine lv_l2i hx hb dX12_takeNumber_102 rfl ?_
              refine lv_topi (fun z40 ez40 => ?_)
              have hz40 := l2i_f ez40
              have pq41 : (V35 0 8).toInt = ((V 0 8)).toInt := congrArg Int32.toInt (up2_k hV35 (by decide))
              exact W.iret (v := z40) hx hb hr (fun t ht hW => ⟨⟨z40, (V35, L), rfl, ⟨hMV35, agV35, rfl, (Or.inl ⟨W0 (RelM.n1 rel hV35 (by (first | exact om_55c67efb91e5 hz34 | omega)) (by rw [k2n]; decide)), k2n, (by rw [vln, ← cl0]; omega), (by rw [vln, ← cl0]; omega), (RelM.n1 rel hV35 (by (first | exact om_55c67efb91e5 hz34 | omega)) (by rw [k2n]; decide))⟩), (Imp.mk (fun hp => have hp : (V35 0 8).toInt = 0 := hp; (show p0.toInt ≤ z40.toInt ∧ z40.toInt ≤ p1.toInt from by first | omega | ((try (have i_hz40 := Imp.go hz40 (by omega))); omega)))), (Imp.mk (fun hp => have hp : 1 ≤ (V35 0 8).toInt := hp; (show z40.toInt = 0 from by first | omega | ((try (have i_hz40 := Imp.go hz40 (by omega))); omega)))), (Imp.mk (fun _ => by rw [vln, ← cl0]; show z40.toInt = _; first | omega | ((try (have i_hz40 := Imp.go hz40 (by omega))); omega)))⟩, by rw [ht]; exact hP, va_K.moved hW.alike hK, hD⟩, hS.F ht⟩) hS.2.2 dX12_takeNumber_103
            · skip
              have f42 : 0 < ((V 0 8)).toInt := b_nle rfl (by decide) c36
              exfalso; (first | exact om_bf2beb62232e f4 f42 | omega)
          · skip
            have f43 : 0 < z31.toInt := b_nle rfl (by decide) c32
            refine lv_aload_n hx hb dX12_takeNumber_65 rfl (lv_at hl 0 rfl) ?_
            refine lv_iconst (v := 4) hx hb dX12_takeNumber_66 (by decide) ?_
            have r44 : Int32.toInt 4 = 4 := by decide
            refine gA_void (gA_runV (As := [.int 4]) (rest := []) (ci := 12) (q0 := 0) hx hb hml hown hg hP hD hK hS hA hnw hgk (s_wrongA l D ks H.size ad kk V L 4 (bq) (gn) (gT) (gs) (gl) hMV (by decide) rel) w2035 w2037 w86 w172 w2038 rfl rfl hdV_yX12_wrong ⟨Nat.le_of_ble_eq_true rfl, Nat.le_of_ble_eq_true rfl⟩ rfl hl.1 rfl (Nat.le_of_ble_eq_true rfl) dX12_takeNumber_67 ⟨Nat.le_of_ble_eq_true rfl, Nat.le_of_ble_eq_true rfl⟩) hP hD hK hS hA (fun u46 H locs w47 hP hD hK hS => ?_)
            obtain ⟨V50, L51⟩ := u46
            obtain ⟨hMV50, ajV50, axL51, t48, t49⟩ := w47
            have axL51 : L = L51 := Eq.symm axL51
            subst axL51
            have hP : va_P D vwCl (mw ad kk ks.1 V50 L) H := hP
            have hD : va_D A (mw ad kk ks.1 V50 L) := hD
            have hMV50 : rgd bM V50 := hMV50
            have ajV50 : agr [(0, 8)] [] V V50 := ajV50
            have agV50 : agr [(0, 7), (0, 8)] [] V V50 := agV.tr ajV50 (by decide) (by decide)
            have t48 : 1 ≤ (V50 0 8).toInt := t48
            have t49 : (V50 0 8).toInt = (Int32.toInt 4) + 16 * (gT).2.2 ((gs).1 0) := t49
            have r52 : 0 ≤ ((V50 0 8)).toInt ∧ ((V50 0 8)).toInt ≤ 70000 := hMV50 0 8
            refine lv_aload_n hx hb dX12_takeNumber_70 rfl (lv_at hl 0 rfl) ?_
            refine lv_dup hx hb dX12_takeNumber_71 rfl ?_
            refine va_get (D := D) (ci := 12) (v := .int (V50 0 7)) (C := RX12) (T := TX12) (N := 100) hx hb hg inX12 hown hK hP 0 rfl rfl 7 (by decide) (hg _ w1713) (fun _ h9 => h9) rfl dX12_takeNumber_72 ?_
            refine g_top (v := (V 0 7)) (ajV50 0 7 rfl) ?_
            refine lv_iconst (v := 1) hx hb dX12_takeNumber_75 (by decide) ?_
            refine lv_iadd hx hb dX12_takeNumber_76 ?_
            refine lv_topi (fun z53 ez53 => ?_)
            have hz53 : z53.toInt = ((V 0 7)).toInt + 1 := i_add ez53 rfl (by decide) (by omega)
            refine va_put (D := D) (ci := 12) (v := .int z53) (ty := tyX12 7) (C := RX12) (T := TX12) (N := 100) hx hb hg inX12 tyX12 tyX12_ok nmX12 hown hK hP hD hS 0 rfl rfl 7 (by decide) (hg _ w1713) (fun _ h9 => h9) rfl (tyX12_ok 7 (by decide)) rfl rfl (Nat.le_of_ble_eq_true rfl) dX12_takeNumber_77 (fun H locs hP hD hS => ?_)
            obtain ⟨V54, hV54⟩ : ∃ z, z = up2 V50 0 7 z53 := ⟨_, rfl⟩
            have hP : va_P D vwCl (mw ad kk ks.1 V54 L) H := by rw [hV54]; exact hP
            have hD : va_D A (mw ad kk ks.1 V54 L) := by rw [hV54]; exact hD
            have hMV54 : rgd bM V54 := hMV50.put hV54 (i_full _)
            have agV54 : agr [(0, 7), (0, 8)] [] V V54 := agV50.up hV54 rfl
            refine lv_aload_n hx hb dX12_takeNumber_80 rfl (lv_at hl 0 rfl) ?_
            refine va_get (D := D) (ci := 12) (v := .int (V54 0 8)) (C := RX12) (T := TX12) (N := 100) hx hb hg inX12 hown hK hP 0 rfl rfl 8 (by decide) (hg _ w1714) (fun _ h9 => h9) rfl dX12_takeNumber_81 ?_
            refine g_top (v := (V50 0 8)) (up2_k hV54 (by decide)) ?_
            refine lv_if_le (tgt := 91) hx hb dX12_takeNumber_84 (by decide) (fun c55 => ?_) (fun c55 => ?_)
            · skip
              have f56 : ((V50 0 8)).toInt ≤ 0 := b_le rfl (by decide) c55
              exfalso; (first | exact om_f4ec09d15507 t48 f56 | omega)
            · skip
              have f57 : 0 < ((V50 0 8)).toInt := b_nle rfl (by decide) c55
              refine lv_iconst (v := 0) hx hb dX12_takeNumber_87 (by decide) ?_
              refine lv_goto (tgt := 103) hx hb dX12_takeNumber_88 (by decide) ?_
              have pq58 : (V54 0 8).toInt = ((V50 0 8)).toInt := congrArg Int32.toInt (up2_k hV54 (by decide))
              exact W.iret (v := 0) hx hb hr (fun t ht hW => ⟨⟨0, (V54, L), rfl, ⟨hMV54, agV54, rfl, (Or.inr ⟨(show 1 ≤ (V54 0 8).toInt from by (first | exact om_e3c391a03e81 t48 pq58 | omega)), Or.inr ⟨k2n, (by rw [vln, ← cl0]; omega), (show (V54 0 8).toInt = 4 + 16 * gT.2.2 (gs.1 0) from by omega)⟩⟩), (Imp.mk (fun hp => have hp : (V54 0 8).toInt = 0 := hp; (show p0.toInt ≤ 0 ∧ 0 ≤ p1.toInt from by omega))), (Imp.mk (fun hp => have hp : 1 ≤ (V54 0 8).toInt := hp; (show 0 = 0 from by omega))), (Imp.mk (fun h9 => by have h8 : (V54 0 8).toInt = 0 := h9; exfalso; omega))⟩, by rw [ht]; exact hP, va_K.moved hW.alike hK, hD⟩, hS.F ht⟩) hS.2.2 dX12_takeNumber_103
    · skip
      have f59 : ((V 4 (Int32.toNatClampNeg (V 0 7)))).toInt ≠ 2 := b_neq rfl (by decide) c5
      refine lv_aload_n hx hb dX12_takeNumber_20 rfl (lv_at hl 0 rfl) ?_
      refine lv_iconst (v := 1) hx hb dX12_takeNumber_21 (by decide) ?_
      have r60 : Int32.toInt 1 = 1 := by decide
      refine gA_void (gA_runV (As := [.int 1]) (rest := []) (ci := 12) (q0 := 0) hx hb hml hown hg hP hD hK hS hA hnw hgk (s_wrongA l D ks H.size ad kk V L 1 (bq) (gn) (gT) (gs) (gl) hMV (by decide) rel) w2035 w2037 w86 w172 w2038 rfl rfl hdV_yX12_wrong ⟨Nat.le_of_ble_eq_true rfl, Nat.le_of_ble_eq_true rfl⟩ rfl hl.1 rfl (Nat.le_of_ble_eq_true rfl) dX12_takeNumber_22 ⟨Nat.le_of_ble_eq_true rfl, Nat.le_of_ble_eq_true rfl⟩) hP hD hK hS hA (fun u62 H locs w63 hP hD hK hS => ?_)
      obtain ⟨V66, L67⟩ := u62
      obtain ⟨hMV66, ajV66, axL67, t64, t65⟩ := w63
      have axL67 : L = L67 := Eq.symm axL67
      subst axL67
      have hP : va_P D vwCl (mw ad kk ks.1 V66 L) H := hP
      have hD : va_D A (mw ad kk ks.1 V66 L) := hD
      have hMV66 : rgd bM V66 := hMV66
      have ajV66 : agr [(0, 8)] [] V V66 := ajV66
      have agV66 : agr [(0, 7), (0, 8)] [] V V66 := agV.tr ajV66 (by decide) (by decide)
      have t64 : 1 ≤ (V66 0 8).toInt := t64
      have t65 : (V66 0 8).toInt = (Int32.toInt 1) + 16 * (gT).2.2 ((gs).1 0) := t65
      have r68 : 0 ≤ ((V66 0 8)).toInt ∧ ((V66 0 8)).toInt ≤ 70000 := hMV66 0 8
      refine lv_goto (tgt := 70) hx hb dX12_takeNumber_25 (by decide) ?_
      refine lv_aload_n hx hb dX12_takeNumber_70 rfl (lv_at hl 0 rfl) ?_
      refine lv_dup hx hb dX12_takeNumber_71 rfl ?_
      refine va_get (D := D) (ci := 12) (v := .int (V66 0 7)) (C := RX12) (T := TX12) (N := 100) hx hb hg inX12 hown hK hP 0 rfl rfl 7 (by decide) (hg _ w1713) (fun _ h9 => h9) rfl dX12_takeNumber_72 ?_
      refine g_top (v := (V 0 7)) (ajV66 0 7 rfl) ?_
      refine lv_iconst (v := 1) hx hb dX12_takeNumber_75 (by decide) ?_
      refine lv_iadd hx hb dX12_takeNumber_76 ?_
      refine lv_topi (fun z69 ez69 => ?_)
      have hz69 : z69.toInt = ((V 0 7)).toInt + 1 := i_add ez69 rfl (by decide) (by omega)
      refine va_put (D := D) (ci := 12) (v := .int z69) (ty := tyX12 7) (C := RX12) (T := TX12) (N := 100) hx hb hg inX12 tyX12 tyX12_ok nmX12 hown hK hP hD hS 0 rfl rfl 7 (by decide) (hg _ w1713) (fun _ h9 => h9) rfl (tyX12_ok 7 (by decide)) rfl rfl (Nat.le_of_ble_eq_true rfl) dX12_takeNumber_77 (fun H locs hP hD hS => ?_)
      obtain ⟨V70, hV70⟩ : ∃ z, z = up2 V66 0 7 z69 := ⟨_, rfl⟩
      have hP : va_P D vwCl (mw ad kk ks.1 V70 L) H := by rw [hV70]; exact hP
      have hD : va_D A (mw ad kk ks.1 V70 L) := by rw [hV70]; exact hD
      have hMV70 : rgd bM V70 := hMV66.put hV70 (i_full _)
      have agV70 : agr [(0, 7), (0, 8)] [] V V70 := agV66.up hV70 rfl
      refine lv_aload_n hx hb dX12_takeNumber_80 rfl (lv_at hl 0 rfl) ?_
      refine va_get (D := D) (ci := 12) (v := .int (V70 0 8)) (C := RX12) (T := TX12) (N := 100) hx hb hg inX12 hown hK hP 0 rfl rfl 8 (by decide) (hg _ w1714) (fun _ h9 => h9) rfl dX12_takeNumber_81 ?_
      refine g_top (v := (V66 0 8)) (up2_k hV70 (by decide)) ?_
      refine lv_if_le (tgt := 91) hx hb dX12_takeNumber_84 (by decide) (fun c71 => ?_) (fun c71 => ?_)
      · skip
        have f72 : ((V66 0 8)).toInt ≤ 0 := b_le rfl (by decide) c71
        exfalso; (first | exact om_f4ec09d15507 t64 f72 | omega)
      · skip
        have f73 : 0 < ((V66 0 8)).toInt := b_nle rfl (by decide) c71
        refine lv_iconst (v := 0) hx hb dX12_takeNumber_87 (by decide) ?_
        refine lv_goto (tgt := 103) hx hb dX12_takeNumber_88 (by decide) ?_
        have pq74 : (V70 0 8).toInt = ((V66 0 8)).toInt := congrArg Int32.toInt (up2_k hV70 (by decide))
        exact W.iret (v := 0) hx hb hr (fun t ht hW => ⟨⟨0, (V70, L), rfl, ⟨hMV70, agV70, rfl, (Or.inr ⟨(show 1 ≤ (V70 0 8).toInt from by (first | exact om_e3c391a03e81 t64 pq74 | omega)), Or.inl ⟨fun h9 => by have z := (RelM.nb rel).mpr h9; rw [← cl0] at z; omega, (show (V70 0 8).toInt = 1 + 16 * gT.2.2 (gs.1 0) from by omega)⟩⟩), (Imp.mk (fun hp => have hp : (V70 0 8).toInt = 0 := hp; (show p0.toInt ≤ 0 ∧ 0 ≤ p1.toInt from by omega))), (Imp.mk (fun hp => have hp : 1 ≤ (V70 0 8).toInt := hp; (show 0 = 0 from by omega))), (Imp.mk (fun h9 => by have h8 : (V70 0 8).toInt = 0 := h9; exfalso; omega))⟩, by rw [ht]; exact hP, va_K.moved hW.alike hK, hD⟩, hS.F ht⟩) hS.2.2 dX12_takeNumber_103
abbrev r_s_takeNumberB : Room := { frames := 0, cells := 0, slots := 0, locals := 0 }
abbrev q_s_takeNumberB (D : va_G) (ks : KS) (ad : Nat → Nat) (kk : Nat → ClassId) (V : Vf) (L : Lf) (p0 : Int32) (p1 : Int32) (A : Nat → Prop) : Array Value → State → Outcome → State → Prop := va_Qi (fun (r : Int32) (u : Vf × Lf) => rgd bM u.1 ∧ agr [(0, 7), (0, 8)] [] V u.1 ∧ u.2 = L ∧ (0 ≤ r.toInt ∧ r.toInt ≤ 0) ∧ ((u.1 0 8).toInt = (V 0 8).toInt)) (fun u t => gq D A (mw ad kk ks.1 u.1 u.2) (mty kk) t) A
set_option maxHeartbeats 4000000 in
set_option maxRecDepth 100000 in
theorem s_takeNumberB (l : Launch) (D : va_G) (ks : KS) (sz : Nat) (ad : Nat → Nat) (kk : Nat → ClassId) (V : Vf) (L : Lf) (p0 : Int32) (p1 : Int32) (hMV : rgd bM V) (bf : 1 ≤ (V 0 8).toInt)  : Met l yX12_takeNumber (Cond.code yX12_takeNumber cX12_takeNumber 3 (some .int) :: GW) r_s_takeNumberB (va_Pc [.ref (ad 0), .int p0, .int p1] (gp D ks (mw ad kk ks.1 V L) (mty kk) sz)) (q_s_takeNumberB D ks ad kk V L p0 p1 (va_A (mw ad kk ks.1 V L) sz)) 0 0 (va_A (mw ad kk ks.1 V L) sz) := by
  refine g_met (q_s_takeNumberB D ks ad kk V L p0 p1) (by decide) (Nat.le_of_ble_eq_true rfl) ?_
  intro p e s m below meth c A ls H locs hx hb hr hml hown hg hlocks hin hnw hgk hP hK hD hS hA hl
  have hown : s.vm.findClass RX12 = some m.cls := hown
  have hl : lv_has ls 3 [(0, .ref (ad 0)), (1, .int p0), (2, .int p1)] := hl
  have hP : va_P D vwCl (mw ad kk ks.1 V L) H := hP
  have hD : va_D A (mw ad kk ks.1 V L) := hD
  have hK : va_K D vwCl (mty kk) s := hK
  have agV : agr [(0, 7), (0, 8)] [] V V := agr.rf
  have rf_p0 := i_full p0
  have rf_p1 := i_full p1
  have r1 : 0 ≤ ((V 0 8)).toInt ∧ ((V 0 8)).toInt ≤ 70000 := hMV 0 8
  refine lv_aload_n hx hb dX12_takeNumber_0 rfl (lv_at hl 0 rfl) ?_
  refine va_get (D := D) (ci := 12) (v := .int (V 0 8)) (C := RX12) (T := TX12) (N := 100) hx hb hg inX12 hown hK hP 0 rfl rfl 8 (by decide) (hg _ w1714) (fun _ h9 => h9) rfl dX12_takeNumber_1 ?_
  refine lv_if_ne (tgt := 28) hx hb dX12_takeNumber_4 (by decide) (fun c2 => ?_) (fun c2 => ?_)
  · skip
    have f3 : ((V 0 8)).toInt ≠ 0 := b_neq rfl (by decide) c2
    refine lv_aload_n hx hb dX12_takeNumber_28 rfl (lv_at hl 0 rfl) ?_
    refine va_get (D := D) (ci := 12) (v := .int (V 0 8)) (C := RX12) (T := TX12) (N := 100) hx hb hg inX12 hown hK hP 0 rfl rfl 8 (by decide) (hg _ w1714) (fun _ h9 => h9) rfl dX12_takeNumber_29 ?_
    refine lv_if_ne (tgt := 70) hx hb dX12_takeNumber_32 (by decide) (fun c4 => ?_) (fun c4 => ?_)
    · skip
      have f5 : ((V 0 8)).toInt ≠ 0 := b_neq rfl (by decide) c4
      refine lv_aload_n hx hb dX12_takeNumber_70 rfl (lv_at hl 0 rfl) ?_
      refine lv_dup hx hb dX12_takeNumber_71 rfl ?_
      refine va_get (D := D) (ci := 12) (v := .int (V 0 7)) (C := RX12) (T := TX12) (N := 100) hx hb hg inX12 hown hK hP 0 rfl rfl 7 (by decide) (hg _ w1713) (fun _ h9 => h9) rfl dX12_takeNumber_72 ?_
      refine lv_iconst (v := 1) hx hb dX12_takeNumber_75 (by decide) ?_
      refine lv_iadd hx hb dX12_takeNumber_76 ?_
      have r6 := i_full (V 0 7)
      refine lv_topi (fun z7 ez7 => ?_)
      have hz7 : Imp (-2147483648 ≤ ((V 0 7)).toInt + 1 ∧ ((V 0 7)).toInt + 1 ≤ 2147483647) (z7.toInt = ((V 0 7)).toInt + 1) := Imp.mk (fun hp => i_add ez7 rfl (by decide) hp)
      refine va_put (D := D) (ci := 12) (v := .int z7) (ty := tyX12 7) (C := RX12) (T := TX12) (N := 100) hx hb hg inX12 tyX12 tyX12_ok nmX12 hown hK hP hD hS 0 rfl rfl 7 (by decide) (hg _ w1713) (fun _ h9 => h9) rfl (tyX12_ok 7 (by decide)) rfl rfl (Nat.le_of_ble_eq_true rfl) dX12_takeNumber_77 (fun H locs hP hD hS => ?_)
      obtain ⟨V8, hV8⟩ : ∃ z, z = up2 V 0 7 z7 := ⟨_, rfl⟩
      have hP : va_P D vwCl (mw ad kk ks.1 V8 L) H := by rw [hV8]; exact hP
      have hD : va_D A (mw ad kk ks.1 V8 L) := by rw [hV8]; exact hD
      have hMV8 : rgd bM V8 := hMV.put hV8 (i_full _)
      have agV8 : agr [(0, 7), (0, 8)] [] V V8 := agV.up hV8 rfl
      refine lv_aload_n hx hb dX12_takeNumber_80 rfl (lv_at hl 0 rfl) ?_
      refine va_get (D := D) (ci := 12) (v := .int (V8 0 8)) (C := RX12) (T := TX12) (N := 100) hx hb hg inX12 hown hK hP 0 rfl rfl 8 (by decide) (hg _ w1714) (fun _ h9 => h9) rfl dX12_takeNumber_81 ?_
      refine g_top (v := (V 0 8)) (up2_k hV8 (by decide)) ?_
      refine lv_if_le (tgt := 91) hx hb dX12_takeNumber_84 (by decide) (fun c9 => ?_) (fun c9 => ?_)
      · skip
        have f10 : ((V 0 8)).toInt ≤ 0 := b_le rfl (by decide) c9
        exfalso; first | exact om_99ccff514471 bf f3 f10 | first | omega | ((try (have i_hz7 := Imp.go hz7 (by omega))); omega)
      · skip
        have f11 : 0 < ((V 0 8)).toInt := b_nle rfl (by decide) c9
        refine lv_iconst (v := 0) hx hb dX12_takeNumber_87 (by decide) ?_
        refine lv_goto (tgt := 103) hx hb dX12_takeNumber_88 (by decide) ?_
        have pq12 : (V8 0 8).toInt = ((V 0 8)).toInt := congrArg Int32.toInt (up2_k hV8 (by decide))
        exact W.iret (v := 0) hx hb hr (fun t ht hW => ⟨⟨0, (V8, L), rfl, ⟨hMV8, agV8, rfl, (by decide), (show (V8 0 8).toInt = (V 0 8).toInt from by first | exact om_570b691c1130 pq12 | first | omega | ((try (have i_hz7 := Imp.go hz7 (by omega))); omega))⟩, by rw [ht]; exact hP, va_K.moved hW.alike hK, hD⟩, hS.F ht⟩) hS.2.2 dX12_takeNumber_103
    · skip
      have f13 : ((V 0 8)).toInt = 0 := b_eq rfl (by decide) c4
      exfalso; (first | exact om_b02ddf2a5870 bf f3 f13 | omega)
  · skip
    have f14 : ((V 0 8)).toInt = 0 := b_eq rfl (by decide) c2
    exfalso; (first | exact om_09885ab343b9 bf f14 | omega)
abbrev r_s_find2_typeName : Room := { frames := 0, cells := 0, slots := 0, locals := 0 }
abbrev q_s_find2_typeName (D : va_G) (ks : KS) (ad : Nat → Nat) (kk : Nat → ClassId) (V : Vf) (L : Lf) (p1 : Int32) (p2 : Int32) (p3 : Int64) (A : Nat → Prop) : Array Value → State → Outcome → State → Prop := va_Qi (fun (r : Int32) (_ : Unit) => ((-1) ≤ r.toInt ∧ r.toInt ≤ 47) ∧ (r.toInt < p2.toInt) ∧ (LF (fun i => L 14 (p1.toInt.toNat + i)) p2.toInt p3 r.toInt)) (fun _ t => gq D A (mw ad kk ks.1 V L) (mty kk) t) A
set_option maxHeartbeats 4000000 in
set_option maxRecDepth 100000 in
theorem s_find2_typeName (l : Launch) (D : va_G) (ks : KS) (sz : Nat) (ad : Nat → Nat) (kk : Nat → ClassId) (V : Vf) (L : Lf) (p1 : Int32) (p2 : Int32) (p3 : Int64) (hMV : rgd bM V) (rg_p1 : 0 ≤ p1.toInt ∧ p1.toInt ≤ 24) (rg_p2 : 0 ≤ p2.toInt ∧ p2.toInt ≤ 24) (y1 : p1.toInt + p2.toInt ≤ 48)  : Met l yX12_find (Cond.code yX12_find cX12_find 8 (some .int) :: GW) r_s_find2_typeName (va_Pc [.ref (ad 0), .ref (ad 14), .int p1, .int p2, .long p3] (gp D ks (mw ad kk ks.1 V L) (mty kk) sz)) (q_s_find2_typeName D ks ad kk V L p1 p2 p3 (va_A (mw ad kk ks.1 V L) sz)) 0 0 (va_A (mw ad kk ks.1 V L) sz) := by
  refine g_met (q_s_find2_typeName D ks ad kk V L p1 p2 p3) (by decide) (Nat.le_of_ble_eq_true rfl) ?_
  intro p e s m below meth c A ls H locs hx hb hr hml hown hg hlocks hin hnw hgk hP hK hD hS hA hl
  have hown : s.vm.findClass RX12 = some m.cls := hown
  have hl : lv_has ls 8 [(0, .ref (ad 0)), (1, .ref (ad 14)), (2, .int p1), (3, .int p2), (4, .long p3)] := hl
  have hP : va_P D vwCl (mw ad kk ks.1 V L) H := hP
  have hD : va_D A (mw ad kk ks.1 V L) := hD
  have hK : va_K D vwCl (mty kk) s := hK
  have rf_p1 := i_full p1
  have rf_p2 := i_full p2
  refine lv_iconst (v := (-1)) hx hb dX12_find_0 (by decide) ?_
  refine lv_istore (lv' := [(6, .int (-1)), (0, .ref (ad 0)), (1, .ref (ad 14)), (2, .int p1), (3, .int p2), (4, .long p3)]) hx hb dX12_find_1 hl (by decide) rfl (fun ls hl => ?_)
  refine lv_iconst (v := 0) hx hb dX12_find_3 (by decide) ?_
  refine lv_istore (lv' := [(7, .int 0), (6, .int (-1)), (0, .ref (ad 0)), (1, .ref (ad 14)), (2, .int p1), (3, .int p2), (4, .long p3)]) hx hb dX12_find_4 hl (by decide) rfl (fun ls hl => ?_)
  have lp3 : ∀ (fulp3 : Nat) (y1 : Int32) (y2 : Int32) (H : Heap) (locs : List Loc) (ls : Array Slot), 0 ≤ y1.toInt ∧ y1.toInt ≤ 48 → (-1) ≤ y2.toInt ∧ y2.toInt ≤ 47 → y1.toInt ≤ p2.toInt → y2.toInt < p2.toInt → LF (fun i => L 14 (p1.toInt.toNat + i)) y1.toInt p3 y2.toInt → p2.toInt - y1.toInt < (fulp3 : Int) → va_P D vwCl (mw ad kk ks.1 V L) H → va_D A (mw ad kk ks.1 V L) → va_S A s.heap H locs → lv_has ls 8 [(7, .int y1), (6, .int y2), (0, .ref (ad 0)), (1, .ref (ad 14)), (2, .int p1), (3, .int p2), (4, .long p3)] → W p l e r_s_find2_typeName s m ([.ref (ad 0), .ref (ad 14), .int p1, .int p2, .long p3] : List Value).toArray below meth c H locs 0 0 (MQ below (q_s_find2_typeName D ks ad kk V L p1 p2 p3 A) ([.ref (ad 0), .ref (ad 14), .int p1, .int p2, .long p3] : List Value).toArray s 0 0 A) (F0 m 6 ls []) := by
    intro fulp3
    induction fulp3 with
    | zero =>
      intro y1 y2 H locs ls klp3_0 klp3_1 xlp3_0 xlp3_1 xlp3_2 hn  hP hD hS hl
      exfalso; (first | exact om_4634b1278845 xlp3_0 hn | omega)
    | succ fulp3 ihlp3 =>
      intro y1 y2 H locs ls klp3_0 klp3_1 xlp3_0 xlp3_1 xlp3_2 hn  hP hD hS hl
      refine lv_iload hx hb dX12_find_6 (lv_at hl 0 rfl) ?_
      refine lv_iload_n hx hb dX12_find_8 rfl (lv_at hl 5 rfl) ?_
      refine lv_icmp_ge (tgt := 39) hx hb dX12_find_9 (by decide) (fun c4 => ?_) (fun c4 => ?_)
      · skip
        have f5 : p2.toInt ≤ y1.toInt := b_le rfl rfl c4
        refine lv_iload hx hb dX12_find_39 (lv_at hl 1 rfl) ?_
        exact W.iret (v := y2) hx hb hr (fun t ht hW => ⟨⟨y2, (), rfl, ⟨(show (-1) ≤ y2.toInt ∧ y2.toInt ≤ 47 from by (first | exact om_ada4133e811d rg_p2.2 klp3_1.1 xlp3_1 | omega)), (show y2.toInt < p2.toInt from by (first | exact om_0e9116797efb xlp3_1 | omega)), (by rw [show p2.toInt = y1.toInt from by omega]; exact xlp3_2)⟩, by rw [ht]; exact hP, va_K.moved hW.alike hK, hD⟩, hS.F ht⟩) hS.2.2 dX12_find_41
      · skip
        have f6 : y1.toInt < p2.toInt := b_nle rfl rfl c4
        refine lv_aload_n hx hb dX12_find_12 rfl (lv_at hl 3 rfl) ?_
        refine lv_iload_n hx hb dX12_find_13 rfl (lv_at hl 4 rfl) ?_
        refine lv_iload hx hb dX12_find_14 (lv_at hl 0 rfl) ?_
        refine lv_iadd hx hb dX12_find_16 ?_
        refine lv_topi (fun z7 ez7 => ?_)
        have hz7 : z7.toInt = p1.toInt + y1.toInt := i_add ez7 rfl rfl (by (first | exact om_5d4bd373b16a rg_p1.1 rg_p1.2 rg_p2.2 klp3_0.1 f6 | omega))
        refine va_lald (D := D) (i := z7) hx hb hK hP 7 6 rfl rfl (i_in (a := z7.toInt) rfl (by (first | exact om_8185df881766 rg_p1.1 rg_p1.2 rg_p2.2 klp3_0.1 f6 hz7 | omega))) dX12_find_17 ?_
        refine lv_lload hx hb dX12_find_18 (lv_at hl 6 rfl) ?_
        refine W.lcmp hx hb dX12_find_20 ?_
        refine lv_topi (fun z8 ez8 => ?_)
        have hz8 := lcmp_f ez8
        refine lv_if_ne (tgt := 29) hx hb dX12_find_21 (by decide) (fun c9 => ?_) (fun c9 => ?_)
        · skip
          have f10 : z8.toInt ≠ 0 := b_neq rfl (by decide) c9
          refine lv_iload hx hb dX12_find_29 (lv_at hl 1 rfl) ?_
          refine lv_istore (lv' := [(6, .int y2), (7, .int y1), (0, .ref (ad 0)), (1, .ref (ad 14)), (2, .int p1), (3, .int p2), (4, .long p3)]) hx hb dX12_find_31 hl (by decide) rfl (fun ls hl => ?_)
          obtain ⟨z11, ez11⟩ : ∃ y : Int32, y = y1 + 1 := ⟨_, rfl⟩
          have hz11 : z11.toInt = y1.toInt + 1 := i_add ez11 rfl (by decide) (by (first | exact om_ef5c713ba60b rg_p2.2 klp3_0.1 f6 | omega))
          refine lv_iinc (v := z11) (lv' := [(7, .int z11), (6, .int y2), (0, .ref (ad 0)), (1, .ref (ad 14)), (2, .int p1), (3, .int p2), (4, .long p3)]) hx hb dX12_find_33 hl (k := 1) rfl (by rw [ez11]; rfl) (by decide) rfl (fun ls hl => ?_)
          refine lv_goto (tgt := 6) hx hb dX12_find_36 (by decide) ?_
          have kc12 := i_clamp (x := y1) rfl (by (first | exact om_eafa9039069c klp3_0.1 | omega))
          have kc13 : Int32.toNatClampNeg z7 = p1.toInt.toNat + Int32.toNatClampNeg y1 := by have h9 := i_clamp (x := z7) rfl (by (first | exact om_052587c8d6bd rg_p1.1 klp3_0.1 hz7 | omega)); (first | exact om_061ff4870277 rg_p1.1 hz7 kc12 h9 | omega)
          exact ihlp3 z11 y2 H locs ls (by (first | exact om_fd99fc2c0081 rg_p2.2 klp3_0.1 f6 hz11 | omega)) (by (first | exact om_ada4133e811d rg_p2.2 klp3_1.1 xlp3_1 | omega)) (show z11.toInt ≤ p2.toInt from by (first | exact om_7fe9249fc074 f6 hz11 | omega)) (show y2.toInt < p2.toInt from by (first | exact om_0e9116797efb xlp3_1 | omega)) (xlp3_2.elim (fun q => Or.inl ⟨q.1, fun i h => by by_cases c9 : (i : Int) < y1.toInt; exact q.2 i c9; have ei : i = Int32.toNatClampNeg y1 := (by omega); rw [ei]; show L 14 (p1.toInt.toNat + Int32.toNatClampNeg y1) ≠ p3; rw [← kc13]; intro q9; have q8 := congrArg Int64.toInt q9; omega⟩) (fun q => q.elim (fun i h => Or.inr ⟨i, h.1, by have h1 := h.2.1; omega, h.2.2⟩))) (by (first | exact om_9e7d2b874257 hn hz11 | omega)) hP hD hS (lv_sub hl [0, 1, 2, 3, 4, 5, 6] rfl)
        · skip
          have f14 : z8.toInt = 0 := b_eq rfl (by decide) c9
          refine lv_iload hx hb dX12_find_24 (lv_at hl 0 rfl) ?_
          refine lv_goto (tgt := 31) hx hb dX12_find_26 (by decide) ?_
          refine lv_istore (lv' := [(6, .int y1), (7, .int y1), (0, .ref (ad 0)), (1, .ref (ad 14)), (2, .int p1), (3, .int p2), (4, .long p3)]) hx hb dX12_find_31 hl (by decide) rfl (fun ls hl => ?_)
          obtain ⟨z15, ez15⟩ : ∃ y : Int32, y = y1 + 1 := ⟨_, rfl⟩
          have hz15 : z15.toInt = y1.toInt + 1 := i_add ez15 rfl (by decide) (by (first | exact om_ef5c713ba60b rg_p2.2 klp3_0.1 f6 | omega))
          refine lv_iinc (v := z15) (lv' := [(7, .int z15), (6, .int y1), (0, .ref (ad 0)), (1, .ref (ad 14)), (2, .int p1), (3, .int p2), (4, .long p3)]) hx hb dX12_find_33 hl (k := 1) rfl (by rw [ez15]; rfl) (by decide) rfl (fun ls hl => ?_)
          refine lv_goto (tgt := 6) hx hb dX12_find_36 (by decide) ?_
          have kc16 := i_clamp (x := y1) rfl (by (first | exact om_eafa9039069c klp3_0.1 | omega))
          have kc17 : Int32.toNatClampNeg z7 = p1.toInt.toNat + Int32.toNatClampNeg y1 := by have h9 := i_clamp (x := z7) rfl (by (first | exact om_052587c8d6bd rg_p1.1 klp3_0.1 hz7 | omega)); (first | exact om_061ff4870277 rg_p1.1 hz7 kc16 h9 | omega)
          exact ihlp3 z15 y1 H locs ls (by (first | exact om_fd99fc2c0081 rg_p2.2 klp3_0.1 f6 hz15 | omega)) (by (first | exact om_80d701c7d15f rg_p2.2 klp3_0.1 f6 | omega)) (show z15.toInt ≤ p2.toInt from by (first | exact om_7fe9249fc074 f6 hz15 | omega)) (show y1.toInt < p2.toInt from by (first | exact om_0e9116797efb f6 | omega)) (Or.inr ⟨Int32.toNatClampNeg y1, by omega, by omega, Int64.toInt_inj.mp (by show (L 14 (p1.toInt.toNat + Int32.toNatClampNeg y1)).toInt = p3.toInt; rw [← kc17]; omega)⟩) (by (first | exact om_9e7d2b874257 hn hz15 | omega)) hP hD hS (lv_sub hl [0, 1, 2, 3, 4, 5, 6] rfl)
  have r18 : Int32.toInt 0 = 0 := by decide
  have r19 : Int32.toInt (-1) = (-1) := by decide
  exact lp3 ((p2.toInt - (Int32.toInt 0) + 1 : Int).toNat) 0 (-1) H locs ls (by decide) (by decide) (show (Int32.toInt 0) ≤ p2.toInt from by (first | exact om_6f9bb8cf3bec rg_p2.1 r18 | omega)) (show (Int32.toInt (-1)) < p2.toInt from by (first | exact om_0520d8737a12 rg_p2.1 r19 | omega)) (Or.inl ⟨by decide, fun i h => by exfalso; omega⟩) (by (first | exact om_7441a7786481 | omega)) hP hD hS (lv_sub hl [0, 1, 2, 3, 4, 5, 6] rfl)
abbrev r_s_find2_settingName : Room := { frames := 0, cells := 0, slots := 0, locals := 0 }
abbrev q_s_find2_settingName (D : va_G) (ks : KS) (ad : Nat → Nat) (kk : Nat → ClassId) (V : Vf) (L : Lf) (p1 : Int32) (p2 : Int32) (p3 : Int64) (A : Nat → Prop) : Array Value → State → Outcome → State → Prop := va_Qi (fun (r : Int32) (_ : Unit) => ((-1) ≤ r.toInt ∧ r.toInt ≤ 47) ∧ (r.toInt < p2.toInt) ∧ (LF (fun i => L 17 (p1.toInt.toNat + i)) p2.toInt p3 r.toInt)) (fun _ t => gq D A (mw ad kk ks.1 V L) (mty kk) t) A
set_option maxHeartbeats 4000000 in
set_option maxRecDepth 100000 in
theorem s_find2_settingName (l : Launch) (D : va_G) (ks : KS) (sz : Nat) (ad : Nat → Nat) (kk : Nat → ClassId) (V : Vf) (L : Lf) (p1 : Int32) (p2 : Int32) (p3 : Int64) (hMV : rgd bM V) (rg_p1 : 0 ≤ p1.toInt ∧ p1.toInt ≤ 24) (rg_p2 : 0 ≤ p2.toInt ∧ p2.toInt ≤ 24) (y1 : p1.toInt + p2.toInt ≤ 24)  : Met l yX12_find (Cond.code yX12_find cX12_find 8 (some .int) :: GW) r_s_find2_settingName (va_Pc [.ref (ad 0), .ref (ad 17), .int p1, .int p2, .long p3] (gp D ks (mw ad kk ks.1 V L) (mty kk) sz)) (q_s_find2_settingName D ks ad kk V L p1 p2 p3 (va_A (mw ad kk ks.1 V L) sz)) 0 0 (va_A (mw ad kk ks.1 V L) sz) := by
  refine g_met (q_s_find2_settingName D ks ad kk V L p1 p2 p3) (by decide) (Nat.le_of_ble_eq_true rfl) ?_
  intro p e s m below meth c A ls H locs hx hb hr hml hown hg hlocks hin hnw hgk hP hK hD hS hA hl
  have hown : s.vm.findClass RX12 = some m.cls := hown
  have hl : lv_has ls 8 [(0, .ref (ad 0)), (1, .ref (ad 17)), (2, .int p1), (3, .int p2), (4, .long p3)] := hl
  have hP : va_P D vwCl (mw ad kk ks.1 V L) H := hP
  have hD : va_D A (mw ad kk ks.1 V L) := hD
  have hK : va_K D vwCl (mty kk) s := hK
  have rf_p1 := i_full p1
  have rf_p2 := i_full p2
  refine lv_iconst (v := (-1)) hx hb dX12_find_0 (by decide) ?_
  refine lv_istore (lv' := [(6, .int (-1)), (0, .ref (ad 0)), (1, .ref (ad 17)), (2, .int p1), (3, .int p2), (4, .long p3)]) hx hb dX12_find_1 hl (by decide) rfl (fun ls hl => ?_)
  refine lv_iconst (v := 0) hx hb dX12_find_3 (by decide) ?_
  refine lv_istore (lv' := [(7, .int 0), (6, .int (-1)), (0, .ref (ad 0)), (1, .ref (ad 17)), (2, .int p1), (3, .int p2), (4, .long p3)]) hx hb dX12_find_4 hl (by decide) rfl (fun ls hl => ?_)
  have lp3 : ∀ (fulp3 : Nat) (y1 : Int32) (y2 : Int32) (H : Heap) (locs : List Loc) (ls : Array Slot), 0 ≤ y1.toInt ∧ y1.toInt ≤ 48 → (-1) ≤ y2.toInt ∧ y2.toInt ≤ 47 → y1.toInt ≤ p2.toInt → y2.toInt < p2.toInt → LF (fun i => L 17 (p1.toInt.toNat + i)) y1.toInt p3 y2.toInt → p2.toInt - y1.toInt < (fulp3 : Int) → va_P D vwCl (mw ad kk ks.1 V L) H → va_D A (mw ad kk ks.1 V L) → va_S A s.heap H locs → lv_has ls 8 [(7, .int y1), (6, .int y2), (0, .ref (ad 0)), (1, .ref (ad 17)), (2, .int p1), (3, .int p2), (4, .long p3)] → W p l e r_s_find2_settingName s m ([.ref (ad 0), .ref (ad 17), .int p1, .int p2, .long p3] : List Value).toArray below meth c H locs 0 0 (MQ below (q_s_find2_settingName D ks ad kk V L p1 p2 p3 A) ([.ref (ad 0), .ref (ad 17), .int p1, .int p2, .long p3] : List Value).toArray s 0 0 A) (F0 m 6 ls []) := by
    intro fulp3
    induction fulp3 with
    | zero =>
      intro y1 y2 H locs ls klp3_0 klp3_1 xlp3_0 xlp3_1 xlp3_2 hn  hP hD hS hl
      exfalso; (first | exact om_4634b1278845 xlp3_0 hn | omega)
    | succ fulp3 ihlp3 =>
      intro y1 y2 H locs ls klp3_0 klp3_1 xlp3_0 xlp3_1 xlp3_2 hn  hP hD hS hl
      refine lv_iload hx hb dX12_find_6 (lv_at hl 0 rfl) ?_
      refine lv_iload_n hx hb dX12_find_8 rfl (lv_at hl 5 rfl) ?_
      refine lv_icmp_ge (tgt := 39) hx hb dX12_find_9 (by decide) (fun c4 => ?_) (fun c4 => ?_)
      · skip
        have f5 : p2.toInt ≤ y1.toInt := b_le rfl rfl c4
        refine lv_iload hx hb dX12_find_39 (lv_at hl 1 rfl) ?_
        exact W.iret (v := y2) hx hb hr (fun t ht hW => ⟨⟨y2, (), rfl, ⟨(show (-1) ≤ y2.toInt ∧ y2.toInt ≤ 47 from by (first | exact om_ada4133e811d rg_p2.2 klp3_1.1 xlp3_1 | omega)), (show y2.toInt < p2.toInt from by (first | exact om_0e9116797efb xlp3_1 | omega)), (by rw [show p2.toInt = y1.toInt from by omega]; exact xlp3_2)⟩, by rw [ht]; exact hP, va_K.moved hW.alike hK, hD⟩, hS.F ht⟩) hS.2.2 dX12_find_41
      · skip
        have f6 : y1.toInt < p2.toInt := b_nle rfl rfl c4
        refine lv_aload_n hx hb dX12_find_12 rfl (lv_at hl 3 rfl) ?_
        refine lv_iload_n hx hb dX12_find_13 rfl (lv_at hl 4 rfl) ?_
        refine lv_iload hx hb dX12_find_14 (lv_at hl 0 rfl) ?_
        refine lv_iadd hx hb dX12_find_16 ?_
        refine lv_topi (fun z7 ez7 => ?_)
        have hz7 : z7.toInt = p1.toInt + y1.toInt := i_add ez7 rfl rfl (by (first | exact om_348456f2348a rg_p1.1 y1 klp3_0.1 f6 | omega))
        refine va_lald (D := D) (i := z7) hx hb hK hP 10 9 rfl rfl (i_in (a := z7.toInt) rfl (by (first | exact om_46c5c27a88fc rg_p1.1 y1 klp3_0.1 f6 hz7 | omega))) dX12_find_17 ?_
        refine lv_lload hx hb dX12_find_18 (lv_at hl 6 rfl) ?_
        refine W.lcmp hx hb dX12_find_20 ?_
        refine lv_topi (fun z8 ez8 => ?_)
        have hz8 := lcmp_f ez8
        refine lv_if_ne (tgt := 29) hx hb dX12_find_21 (by decide) (fun c9 => ?_) (fun c9 => ?_)
        · skip
          have f10 : z8.toInt ≠ 0 := b_neq rfl (by decide) c9
          refine lv_iload hx hb dX12_find_29 (lv_at hl 1 rfl) ?_
          refine lv_istore (lv' := [(6, .int y2), (7, .int y1), (0, .ref (ad 0)), (1, .ref (ad 17)), (2, .int p1), (3, .int p2), (4, .long p3)]) hx hb dX12_find_31 hl (by decide) rfl (fun ls hl => ?_)
          obtain ⟨z11, ez11⟩ : ∃ y : Int32, y = y1 + 1 := ⟨_, rfl⟩
          have hz11 : z11.toInt = y1.toInt + 1 := i_add ez11 rfl (by decide) (by (first | exact om_ef5c713ba60b rg_p2.2 klp3_0.1 f6 | omega))
          refine lv_iinc (v := z11) (lv' := [(7, .int z11), (6, .int y2), (0, .ref (ad 0)), (1, .ref (ad 17)), (2, .int p1), (3, .int p2), (4, .long p3)]) hx hb dX12_find_33 hl (k := 1) rfl (by rw [ez11]; rfl) (by decide) rfl (fun ls hl => ?_)
          refine lv_goto (tgt := 6) hx hb dX12_find_36 (by decide) ?_
          have kc12 := i_clamp (x := y1) rfl (by (first | exact om_eafa9039069c klp3_0.1 | omega))
          have kc13 : Int32.toNatClampNeg z7 = p1.toInt.toNat + Int32.toNatClampNeg y1 := by have h9 := i_clamp (x := z7) rfl (by (first | exact om_052587c8d6bd rg_p1.1 klp3_0.1 hz7 | omega)); (first | exact om_061ff4870277 rg_p1.1 hz7 kc12 h9 | omega)
          exact ihlp3 z11 y2 H locs ls (by (first | exact om_fd99fc2c0081 rg_p2.2 klp3_0.1 f6 hz11 | omega)) (by (first | exact om_ada4133e811d rg_p2.2 klp3_1.1 xlp3_1 | omega)) (show z11.toInt ≤ p2.toInt from by (first | exact om_7fe9249fc074 f6 hz11 | omega)) (show y2.toInt < p2.toInt from by (first | exact om_0e9116797efb xlp3_1 | omega)) (xlp3_2.elim (fun q => Or.inl ⟨q.1, fun i h => by by_cases c9 : (i : Int) < y1.toInt; exact q.2 i c9; have ei : i = Int32.toNatClampNeg y1 := (by omega); rw [ei]; show L 17 (p1.toInt.toNat + Int32.toNatClampNeg y1) ≠ p3; rw [← kc13]; intro q9; have q8 := congrArg Int64.toInt q9; omega⟩) (fun q => q.elim (fun i h => Or.inr ⟨i, h.1, by have h1 := h.2.1; omega, h.2.2⟩))) (by (first | exact om_9e7d2b874257 hn hz11 | omega)) hP hD hS (lv_sub hl [0, 1, 2, 3, 4, 5, 6] rfl)
        · skip
          have f14 : z8.toInt = 0 := b_eq rfl (by decide) c9
          refine lv_iload hx hb dX12_find_24 (lv_at hl 0 rfl) ?_
          refine lv_goto (tgt := 31) hx hb dX12_find_26 (by decide) ?_
          refine lv_istore (lv' := [(6, .int y1), (7, .int y1), (0, .ref (ad 0)), (1, .ref (ad 17)), (2, .int p1), (3, .int p2), (4, .long p3)]) hx hb dX12_find_31 hl (by decide) rfl (fun ls hl => ?_)
          obtain ⟨z15, ez15⟩ : ∃ y : Int32, y = y1 + 1 := ⟨_, rfl⟩
          have hz15 : z15.toInt = y1.toInt + 1 := i_add ez15 rfl (by decide) (by (first | exact om_ef5c713ba60b rg_p2.2 klp3_0.1 f6 | omega))
          refine lv_iinc (v := z15) (lv' := [(7, .int z15), (6, .int y1), (0, .ref (ad 0)), (1, .ref (ad 17)), (2, .int p1), (3, .int p2), (4, .long p3)]) hx hb dX12_find_33 hl (k := 1) rfl (by rw [ez15]; rfl) (by decide) rfl (fun ls hl => ?_)
          refine lv_goto (tgt := 6) hx hb dX12_find_36 (by decide) ?_
          have kc16 := i_clamp (x := y1) rfl (by (first | exact om_eafa9039069c klp3_0.1 | omega))
          have kc17 : Int32.toNatClampNeg z7 = p1.toInt.toNat + Int32.toNatClampNeg y1 := by have h9 := i_clamp (x := z7) rfl (by (first | exact om_052587c8d6bd rg_p1.1 klp3_0.1 hz7 | omega)); (first | exact om_061ff4870277 rg_p1.1 hz7 kc16 h9 | omega)
          exact ihlp3 z15 y1 H locs ls (by (first | exact om_fd99fc2c0081 rg_p2.2 klp3_0.1 f6 hz15 | omega)) (by (first | exact om_80d701c7d15f rg_p2.2 klp3_0.1 f6 | omega)) (show z15.toInt ≤ p2.toInt from by (first | exact om_7fe9249fc074 f6 hz15 | omega)) (show y1.toInt < p2.toInt from by (first | exact om_0e9116797efb f6 | omega)) (Or.inr ⟨Int32.toNatClampNeg y1, by omega, by omega, Int64.toInt_inj.mp (by show (L 17 (p1.toInt.toNat + Int32.toNatClampNeg y1)).toInt = p3.toInt; rw [← kc17]; omega)⟩) (by (first | exact om_9e7d2b874257 hn hz15 | omega)) hP hD hS (lv_sub hl [0, 1, 2, 3, 4, 5, 6] rfl)
  have r18 : Int32.toInt 0 = 0 := by decide
  have r19 : Int32.toInt (-1) = (-1) := by decide
  exact lp3 ((p2.toInt - (Int32.toInt 0) + 1 : Int).toNat) 0 (-1) H locs ls (by decide) (by decide) (show (Int32.toInt 0) ≤ p2.toInt from by (first | exact om_6f9bb8cf3bec rg_p2.1 r18 | omega)) (show (Int32.toInt (-1)) < p2.toInt from by (first | exact om_0520d8737a12 rg_p2.1 r19 | omega)) (Or.inl ⟨by decide, fun i h => by exfalso; omega⟩) (by (first | exact om_7441a7786481 | omega)) hP hD hS (lv_sub hl [0, 1, 2, 3, 4, 5, 6] rfl)
abbrev r_s_find2_componentName : Room := { frames := 0, cells := 0, slots := 0, locals := 0 }
abbrev q_s_find2_componentName (D : va_G) (ks : KS) (ad : Nat → Nat) (kk : Nat → ClassId) (V : Vf) (L : Lf) (p1 : Int32) (p2 : Int32) (p3 : Int64) (A : Nat → Prop) : Array Value → State → Outcome → State → Prop := va_Qi (fun (r : Int32) (_ : Unit) => ((-1) ≤ r.toInt ∧ r.toInt ≤ 47) ∧ (r.toInt < p2.toInt) ∧ (LF (fun i => L 20 (p1.toInt.toNat + i)) p2.toInt p3 r.toInt)) (fun _ t => gq D A (mw ad kk ks.1 V L) (mty kk) t) A
set_option maxHeartbeats 4000000 in
set_option maxRecDepth 100000 in
theorem s_find2_componentName (l : Launch) (D : va_G) (ks : KS) (sz : Nat) (ad : Nat → Nat) (kk : Nat → ClassId) (V : Vf) (L : Lf) (p1 : Int32) (p2 : Int32) (p3 : Int64) (hMV : rgd bM V) (rg_p1 : 0 ≤ p1.toInt ∧ p1.toInt ≤ 24) (rg_p2 : 0 ≤ p2.toInt ∧ p2.toInt ≤ 24) (y1 : p1.toInt + p2.toInt ≤ 48)  : Met l yX12_find (Cond.code yX12_find cX12_find 8 (some .int) :: GW) r_s_find2_componentName (va_Pc [.ref (ad 0), .ref (ad 20), .int p1, .int p2, .long p3] (gp D ks (mw ad kk ks.1 V L) (mty kk) sz)) (q_s_find2_componentName D ks ad kk V L p1 p2 p3 (va_A (mw ad kk ks.1 V L) sz)) 0 0 (va_A (mw ad kk ks.1 V L) sz) := by
  refine g_met (q_s_find2_componentName D ks ad kk V L p1 p2 p3) (by decide) (Nat.le_of_ble_eq_true rfl) ?_
  intro p e s m below meth c A ls H locs hx hb hr hml hown hg hlocks hin hnw hgk hP hK hD hS hA hl
  have hown : s.vm.findClass RX12 = some m.cls := hown
  have hl : lv_has ls 8 [(0, .ref (ad 0)), (1, .ref (ad 20)), (2, .int p1), (3, .int p2), (4, .long p3)] := hl
  have hP : va_P D vwCl (mw ad kk ks.1 V L) H := hP
  have hD : va_D A (mw ad kk ks.1 V L) := hD
  have hK : va_K D vwCl (mty kk) s := hK
  have rf_p1 := i_full p1
  have rf_p2 := i_full p2
  refine lv_iconst (v := (-1)) hx hb dX12_find_0 (by decide) ?_
  refine lv_istore (lv' := [(6, .int (-1)), (0, .ref (ad 0)), (1, .ref (ad 20)), (2, .int p1), (3, .int p2), (4, .long p3)]) hx hb dX12_find_1 hl (by decide) rfl (fun ls hl => ?_)
  refine lv_iconst (v := 0) hx hb dX12_find_3 (by decide) ?_
  refine lv_istore (lv' := [(7, .int 0), (6, .int (-1)), (0, .ref (ad 0)), (1, .ref (ad 20)), (2, .int p1), (3, .int p2), (4, .long p3)]) hx hb dX12_find_4 hl (by decide) rfl (fun ls hl => ?_)
  have lp3 : ∀ (fulp3 : Nat) (y1 : Int32) (y2 : Int32) (H : Heap) (locs : List Loc) (ls : Array Slot), 0 ≤ y1.toInt ∧ y1.toInt ≤ 48 → (-1) ≤ y2.toInt ∧ y2.toInt ≤ 47 → y1.toInt ≤ p2.toInt → y2.toInt < p2.toInt → LF (fun i => L 20 (p1.toInt.toNat + i)) y1.toInt p3 y2.toInt → p2.toInt - y1.toInt < (fulp3 : Int) → va_P D vwCl (mw ad kk ks.1 V L) H → va_D A (mw ad kk ks.1 V L) → va_S A s.heap H locs → lv_has ls 8 [(7, .int y1), (6, .int y2), (0, .ref (ad 0)), (1, .ref (ad 20)), (2, .int p1), (3, .int p2), (4, .long p3)] → W p l e r_s_find2_componentName s m ([.ref (ad 0), .ref (ad 20), .int p1, .int p2, .long p3] : List Value).toArray below meth c H locs 0 0 (MQ below (q_s_find2_componentName D ks ad kk V L p1 p2 p3 A) ([.ref (ad 0), .ref (ad 20), .int p1, .int p2, .long p3] : List Value).toArray s 0 0 A) (F0 m 6 ls []) := by
    intro fulp3
    induction fulp3 with
    | zero =>
      intro y1 y2 H locs ls klp3_0 klp3_1 xlp3_0 xlp3_1 xlp3_2 hn  hP hD hS hl
      exfalso; (first | exact om_4634b1278845 xlp3_0 hn | omega)
    | succ fulp3 ihlp3 =>
      intro y1 y2 H locs ls klp3_0 klp3_1 xlp3_0 xlp3_1 xlp3_2 hn  hP hD hS hl
      refine lv_iload hx hb dX12_find_6 (lv_at hl 0 rfl) ?_
      refine lv_iload_n hx hb dX12_find_8 rfl (lv_at hl 5 rfl) ?_
      refine lv_icmp_ge (tgt := 39) hx hb dX12_find_9 (by decide) (fun c4 => ?_) (fun c4 => ?_)
      · skip
        have f5 : p2.toInt ≤ y1.toInt := b_le rfl rfl c4
        refine lv_iload hx hb dX12_find_39 (lv_at hl 1 rfl) ?_
        exact W.iret (v := y2) hx hb hr (fun t ht hW => ⟨⟨y2, (), rfl, ⟨(show (-1) ≤ y2.toInt ∧ y2.toInt ≤ 47 from by (first | exact om_ada4133e811d rg_p2.2 klp3_1.1 xlp3_1 | omega)), (show y2.toInt < p2.toInt from by (first | exact om_0e9116797efb xlp3_1 | omega)), (by rw [show p2.toInt = y1.toInt from by omega]; exact xlp3_2)⟩, by rw [ht]; exact hP, va_K.moved hW.alike hK, hD⟩, hS.F ht⟩) hS.2.2 dX12_find_41
      · skip
        have f6 : y1.toInt < p2.toInt := b_nle rfl rfl c4
        refine lv_aload_n hx hb dX12_find_12 rfl (lv_at hl 3 rfl) ?_
        refine lv_iload_n hx hb dX12_find_13 rfl (lv_at hl 4 rfl) ?_
        refine lv_iload hx hb dX12_find_14 (lv_at hl 0 rfl) ?_
        refine lv_iadd hx hb dX12_find_16 ?_
        refine lv_topi (fun z7 ez7 => ?_)
        have hz7 : z7.toInt = p1.toInt + y1.toInt := i_add ez7 rfl rfl (by (first | exact om_5d4bd373b16a rg_p1.1 rg_p1.2 rg_p2.2 klp3_0.1 f6 | omega))
        refine va_lald (D := D) (i := z7) hx hb hK hP 13 12 rfl rfl (i_in (a := z7.toInt) rfl (by (first | exact om_8185df881766 rg_p1.1 rg_p1.2 rg_p2.2 klp3_0.1 f6 hz7 | omega))) dX12_find_17 ?_
        refine lv_lload hx hb dX12_find_18 (lv_at hl 6 rfl) ?_
        refine W.lcmp hx hb dX12_find_20 ?_
        refine lv_topi (fun z8 ez8 => ?_)
        have hz8 := lcmp_f ez8
        refine lv_if_ne (tgt := 29) hx hb dX12_find_21 (by decide) (fun c9 => ?_) (fun c9 => ?_)
        · skip
          have f10 : z8.toInt ≠ 0 := b_neq rfl (by decide) c9
          refine lv_iload hx hb dX12_find_29 (lv_at hl 1 rfl) ?_
          refine lv_istore (lv' := [(6, .int y2), (7, .int y1), (0, .ref (ad 0)), (1, .ref (ad 20)), (2, .int p1), (3, .int p2), (4, .long p3)]) hx hb dX12_find_31 hl (by decide) rfl (fun ls hl => ?_)
          obtain ⟨z11, ez11⟩ : ∃ y : Int32, y = y1 + 1 := ⟨_, rfl⟩
          have hz11 : z11.toInt = y1.toInt + 1 := i_add ez11 rfl (by decide) (by (first | exact om_ef5c713ba60b rg_p2.2 klp3_0.1 f6 | omega))
          refine lv_iinc (v := z11) (lv' := [(7, .int z11), (6, .int y2), (0, .ref (ad 0)), (1, .ref (ad 20)), (2, .int p1), (3, .int p2), (4, .long p3)]) hx hb dX12_find_33 hl (k := 1) rfl (by rw [ez11]; rfl) (by decide) rfl (fun ls hl => ?_)
          refine lv_goto (tgt := 6) hx hb dX12_find_36 (by decide) ?_
          have kc12 := i_clamp (x := y1) rfl (by (first | exact om_eafa9039069c klp3_0.1 | omega))
          have kc13 : Int32.toNatClampNeg z7 = p1.toInt.toNat + Int32.toNatClampNeg y1 := by have h9 := i_clamp (x := z7) rfl (by (first | exact om_052587c8d6bd rg_p1.1 klp3_0.1 hz7 | omega)); (first | exact om_061ff4870277 rg_p1.1 hz7 kc12 h9 | omega)
          exact ihlp3 z11 y2 H locs ls (by (first | exact om_fd99fc2c0081 rg_p2.2 klp3_0.1 f6 hz11 | omega)) (by (first | exact om_ada4133e811d rg_p2.2 klp3_1.1 xlp3_1 | omega)) (show z11.toInt ≤ p2.toInt from by (first | exact om_7fe9249fc074 f6 hz11 | omega)) (show y2.toInt < p2.toInt from by (first | exact om_0e9116797efb xlp3_1 | omega)) (xlp3_2.elim (fun q => Or.inl ⟨q.1, fun i h => by by_cases c9 : (i : Int) < y1.toInt; exact q.2 i c9; have ei : i = Int32.toNatClampNeg y1 := (by omega); rw [ei]; show L 20 (p1.toInt.toNat + Int32.toNatClampNeg y1) ≠ p3; rw [← kc13]; intro q9; have q8 := congrArg Int64.toInt q9; omega⟩) (fun q => q.elim (fun i h => Or.inr ⟨i, h.1, by have h1 := h.2.1; omega, h.2.2⟩))) (by (first | exact om_9e7d2b874257 hn hz11 | omega)) hP hD hS (lv_sub hl [0, 1, 2, 3, 4, 5, 6] rfl)
        · skip
          have f14 : z8.toInt = 0 := b_eq rfl (by decide) c9
          refine lv_iload hx hb dX12_find_24 (lv_at hl 0 rfl) ?_
          refine lv_goto (tgt := 31) hx hb dX12_find_26 (by decide) ?_
          refine lv_istore (lv' := [(6, .int y1), (7, .int y1), (0, .ref (ad 0)), (1, .ref (ad 20)), (2, .int p1), (3, .int p2), (4, .long p3)]) hx hb dX12_find_31 hl (by decide) rfl (fun ls hl => ?_)
          obtain ⟨z15, ez15⟩ : ∃ y : Int32, y = y1 + 1 := ⟨_, rfl⟩
          have hz15 : z15.toInt = y1.toInt + 1 := i_add ez15 rfl (by decide) (by (first | exact om_ef5c713ba60b rg_p2.2 klp3_0.1 f6 | omega))
          refine lv_iinc (v := z15) (lv' := [(7, .int z15), (6, .int y1), (0, .ref (ad 0)), (1, .ref (ad 20)), (2, .int p1), (3, .int p2), (4, .long p3)]) hx hb dX12_find_33 hl (k := 1) rfl (by rw [ez15]; rfl) (by decide) rfl (fun ls hl => ?_)
          refine lv_goto (tgt := 6) hx hb dX12_find_36 (by decide) ?_
          have kc16 := i_clamp (x := y1) rfl (by (first | exact om_eafa9039069c klp3_0.1 | omega))
          have kc17 : Int32.toNatClampNeg z7 = p1.toInt.toNat + Int32.toNatClampNeg y1 := by have h9 := i_clamp (x := z7) rfl (by (first | exact om_052587c8d6bd rg_p1.1 klp3_0.1 hz7 | omega)); (first | exact om_061ff4870277 rg_p1.1 hz7 kc16 h9 | omega)
          exact ihlp3 z15 y1 H locs ls (by (first | exact om_fd99fc2c0081 rg_p2.2 klp3_0.1 f6 hz15 | omega)) (by (first | exact om_80d701c7d15f rg_p2.2 klp3_0.1 f6 | omega)) (show z15.toInt ≤ p2.toInt from by (first | exact om_7fe9249fc074 f6 hz15 | omega)) (show y1.toInt < p2.toInt from by (first | exact om_0e9116797efb f6 | omega)) (Or.inr ⟨Int32.toNatClampNeg y1, by omega, by omega, Int64.toInt_inj.mp (by show (L 20 (p1.toInt.toNat + Int32.toNatClampNeg y1)).toInt = p3.toInt; rw [← kc17]; omega)⟩) (by (first | exact om_9e7d2b874257 hn hz15 | omega)) hP hD hS (lv_sub hl [0, 1, 2, 3, 4, 5, 6] rfl)
  have r18 : Int32.toInt 0 = 0 := by decide
  have r19 : Int32.toInt (-1) = (-1) := by decide
  exact lp3 ((p2.toInt - (Int32.toInt 0) + 1 : Int).toNat) 0 (-1) H locs ls (by decide) (by decide) (show (Int32.toInt 0) ≤ p2.toInt from by (first | exact om_6f9bb8cf3bec rg_p2.1 r18 | omega)) (show (Int32.toInt (-1)) < p2.toInt from by (first | exact om_0520d8737a12 rg_p2.1 r19 | omega)) (Or.inl ⟨by decide, fun i h => by exfalso; omega⟩) (by (first | exact om_7441a7786481 | omega)) hP hD hS (lv_sub hl [0, 1, 2, 3, 4, 5, 6] rfl)
abbrev r_s_find2_methodName : Room := { frames := 0, cells := 0, slots := 0, locals := 0 }
abbrev q_s_find2_methodName (D : va_G) (ks : KS) (ad : Nat → Nat) (kk : Nat → ClassId) (V : Vf) (L : Lf) (p1 : Int32) (p2 : Int32) (p3 : Int64) (A : Nat → Prop) : Array Value → State → Outcome → State → Prop := va_Qi (fun (r : Int32) (_ : Unit) => ((-1) ≤ r.toInt ∧ r.toInt ≤ 47) ∧ (r.toInt < p2.toInt) ∧ (LF (fun i => L 36 (p1.toInt.toNat + i)) p2.toInt p3 r.toInt)) (fun _ t => gq D A (mw ad kk ks.1 V L) (mty kk) t) A
set_option maxHeartbeats 4000000 in
set_option maxRecDepth 100000 in
theorem s_find2_methodName (l : Launch) (D : va_G) (ks : KS) (sz : Nat) (ad : Nat → Nat) (kk : Nat → ClassId) (V : Vf) (L : Lf) (p1 : Int32) (p2 : Int32) (p3 : Int64) (hMV : rgd bM V) (rg_p1 : 0 ≤ p1.toInt ∧ p1.toInt ≤ 24) (rg_p2 : 0 ≤ p2.toInt ∧ p2.toInt ≤ 24) (y1 : p1.toInt + p2.toInt ≤ 40)  : Met l yX12_find (Cond.code yX12_find cX12_find 8 (some .int) :: GW) r_s_find2_methodName (va_Pc [.ref (ad 0), .ref (ad 36), .int p1, .int p2, .long p3] (gp D ks (mw ad kk ks.1 V L) (mty kk) sz)) (q_s_find2_methodName D ks ad kk V L p1 p2 p3 (va_A (mw ad kk ks.1 V L) sz)) 0 0 (va_A (mw ad kk ks.1 V L) sz) := by
  refine g_met (q_s_find2_methodName D ks ad kk V L p1 p2 p3) (by decide) (Nat.le_of_ble_eq_true rfl) ?_
  intro p e s m below meth c A ls H locs hx hb hr hml hown hg hlocks hin hnw hgk hP hK hD hS hA hl
  have hown : s.vm.findClass RX12 = some m.cls := hown
  have hl : lv_has ls 8 [(0, .ref (ad 0)), (1, .ref (ad 36)), (2, .int p1), (3, .int p2), (4, .long p3)] := hl
  have hP : va_P D vwCl (mw ad kk ks.1 V L) H := hP
  have hD : va_D A (mw ad kk ks.1 V L) := hD
  have hK : va_K D vwCl (mty kk) s := hK
  have rf_p1 := i_full p1
  have rf_p2 := i_full p2
  refine lv_iconst (v := (-1)) hx hb dX12_find_0 (by decide) ?_
  refine lv_istore (lv' := [(6, .int (-1)), (0, .ref (ad 0)), (1, .ref (ad 36)), (2, .int p1), (3, .int p2), (4, .long p3)]) hx hb dX12_find_1 hl (by decide) rfl (fun ls hl => ?_)
  refine lv_iconst (v := 0) hx hb dX12_find_3 (by decide) ?_
  refine lv_istore (lv' := [(7, .int 0), (6, .int (-1)), (0, .ref (ad 0)), (1, .ref (ad 36)), (2, .int p1), (3, .int p2), (4, .long p3)]) hx hb dX12_find_4 hl (by decide) rfl (fun ls hl => ?_)
  have lp3 : ∀ (fulp3 : Nat) (y1 : Int32) (y2 : Int32) (H : Heap) (locs : List Loc) (ls : Array Slot), 0 ≤ y1.toInt ∧ y1.toInt ≤ 48 → (-1) ≤ y2.toInt ∧ y2.toInt ≤ 47 → y1.toInt ≤ p2.toInt → y2.toInt < p2.toInt → LF (fun i => L 36 (p1.toInt.toNat + i)) y1.toInt p3 y2.toInt → p2.toInt - y1.toInt < (fulp3 : Int) → va_P D vwCl (mw ad kk ks.1 V L) H → va_D A (mw ad kk ks.1 V L) → va_S A s.heap H locs → lv_has ls 8 [(7, .int y1), (6, .int y2), (0, .ref (ad 0)), (1, .ref (ad 36)), (2, .int p1), (3, .int p2), (4, .long p3)] → W p l e r_s_find2_methodName s m ([.ref (ad 0), .ref (ad 36), .int p1, .int p2, .long p3] : List Value).toArray below meth c H locs 0 0 (MQ below (q_s_find2_methodName D ks ad kk V L p1 p2 p3 A) ([.ref (ad 0), .ref (ad 36), .int p1, .int p2, .long p3] : List Value).toArray s 0 0 A) (F0 m 6 ls []) := by
    intro fulp3
    induction fulp3 with
    | zero =>
      intro y1 y2 H locs ls klp3_0 klp3_1 xlp3_0 xlp3_1 xlp3_2 hn  hP hD hS hl
      exfalso; (first | exact om_4634b1278845 xlp3_0 hn | omega)
    | succ fulp3 ihlp3 =>
      intro y1 y2 H locs ls klp3_0 klp3_1 xlp3_0 xlp3_1 xlp3_2 hn  hP hD hS hl
      refine lv_iload hx hb dX12_find_6 (lv_at hl 0 rfl) ?_
      refine lv_iload_n hx hb dX12_find_8 rfl (lv_at hl 5 rfl) ?_
      refine lv_icmp_ge (tgt := 39) hx hb dX12_find_9 (by decide) (fun c4 => ?_) (fun c4 => ?_)
      · skip
        have f5 : p2.toInt ≤ y1.toInt := b_le rfl rfl c4
        refine lv_iload hx hb dX12_find_39 (lv_at hl 1 rfl) ?_
        exact W.iret (v := y2) hx hb hr (fun t ht hW => ⟨⟨y2, (), rfl, ⟨(show (-1) ≤ y2.toInt ∧ y2.toInt ≤ 47 from by (first | exact om_ada4133e811d rg_p2.2 klp3_1.1 xlp3_1 | omega)), (show y2.toInt < p2.toInt from by (first | exact om_0e9116797efb xlp3_1 | omega)), (by rw [show p2.toInt = y1.toInt from by omega]; exact xlp3_2)⟩, by rw [ht]; exact hP, va_K.moved hW.alike hK, hD⟩, hS.F ht⟩) hS.2.2 dX12_find_41
      · skip
        have f6 : y1.toInt < p2.toInt := b_nle rfl rfl c4
        refine lv_aload_n hx hb dX12_find_12 rfl (lv_at hl 3 rfl) ?_
        refine lv_iload_n hx hb dX12_find_13 rfl (lv_at hl 4 rfl) ?_
        refine lv_iload hx hb dX12_find_14 (lv_at hl 0 rfl) ?_
        refine lv_iadd hx hb dX12_find_16 ?_
        refine lv_topi (fun z7 ez7 => ?_)
        have hz7 : z7.toInt = p1.toInt + y1.toInt := i_add ez7 rfl rfl (by (first | exact om_e600b20a033e rg_p1.1 y1 klp3_0.1 f6 | omega))
        refine va_lald (D := D) (i := z7) hx hb hK hP 29 28 rfl rfl (i_in (a := z7.toInt) rfl (by (first | exact om_5dbe2c5fe856 rg_p1.1 y1 klp3_0.1 f6 hz7 | omega))) dX12_find_17 ?_
        refine lv_lload hx hb dX12_find_18 (lv_at hl 6 rfl) ?_
        refine W.lcmp hx hb dX12_find_20 ?_
        refine lv_topi (fun z8 ez8 => ?_)
        have hz8 := lcmp_f ez8
        refine lv_if_ne (tgt := 29) hx hb dX12_find_21 (by decide) (fun c9 => ?_) (fun c9 => ?_)
        · skip
          have f10 : z8.toInt ≠ 0 := b_neq rfl (by decide) c9
          refine lv_iload hx hb dX12_find_29 (lv_at hl 1 rfl) ?_
          refine lv_istore (lv' := [(6, .int y2), (7, .int y1), (0, .ref (ad 0)), (1, .ref (ad 36)), (2, .int p1), (3, .int p2), (4, .long p3)]) hx hb dX12_find_31 hl (by decide) rfl (fun ls hl => ?_)
          obtain ⟨z11, ez11⟩ : ∃ y : Int32, y = y1 + 1 := ⟨_, rfl⟩
          have hz11 : z11.toInt = y1.toInt + 1 := i_add ez11 rfl (by decide) (by (first | exact om_ef5c713ba60b rg_p2.2 klp3_0.1 f6 | omega))
          refine lv_iinc (v := z11) (lv' := [(7, .int z11), (6, .int y2), (0, .ref (ad 0)), (1, .ref (ad 36)), (2, .int p1), (3, .int p2), (4, .long p3)]) hx hb dX12_find_33 hl (k := 1) rfl (by rw [ez11]; rfl) (by decide) rfl (fun ls hl => ?_)
          refine lv_goto (tgt := 6) hx hb dX12_find_36 (by decide) ?_
          have kc12 := i_clamp (x := y1) rfl (by (first | exact om_eafa9039069c klp3_0.1 | omega))
          have kc13 : Int32.toNatClampNeg z7 = p1.toInt.toNat + Int32.toNatClampNeg y1 := by have h9 := i_clamp (x := z7) rfl (by (first | exact om_052587c8d6bd rg_p1.1 klp3_0.1 hz7 | omega)); (first | exact om_061ff4870277 rg_p1.1 hz7 kc12 h9 | omega)
          exact ihlp3 z11 y2 H locs ls (by (first | exact om_fd99fc2c0081 rg_p2.2 klp3_0.1 f6 hz11 | omega)) (by (first | exact om_ada4133e811d rg_p2.2 klp3_1.1 xlp3_1 | omega)) (show z11.toInt ≤ p2.toInt from by (first | exact om_7fe9249fc074 f6 hz11 | omega)) (show y2.toInt < p2.toInt from by (first | exact om_0e9116797efb xlp3_1 | omega)) (xlp3_2.elim (fun q => Or.inl ⟨q.1, fun i h => by by_cases c9 : (i : Int) < y1.toInt; exact q.2 i c9; have ei : i = Int32.toNatClampNeg y1 := (by omega); rw [ei]; show L 36 (p1.toInt.toNat + Int32.toNatClampNeg y1) ≠ p3; rw [← kc13]; intro q9; have q8 := congrArg Int64.toInt q9; omega⟩) (fun q => q.elim (fun i h => Or.inr ⟨i, h.1, by have h1 := h.2.1; omega, h.2.2⟩))) (by (first | exact om_9e7d2b874257 hn hz11 | omega)) hP hD hS (lv_sub hl [0, 1, 2, 3, 4, 5, 6] rfl)
        · skip
          have f14 : z8.toInt = 0 := b_eq rfl (by decide) c9
          refine lv_iload hx hb dX12_find_24 (lv_at hl 0 rfl) ?_
          refine lv_goto (tgt := 31) hx hb dX12_find_26 (by decide) ?_
          refine lv_istore (lv' := [(6, .int y1), (7, .int y1), (0, .ref (ad 0)), (1, .ref (ad 36)), (2, .int p1), (3, .int p2), (4, .long p3)]) hx hb dX12_find_31 hl (by decide) rfl (fun ls hl => ?_)
          obtain ⟨z15, ez15⟩ : ∃ y : Int32, y = y1 + 1 := ⟨_, rfl⟩
          have hz15 : z15.toInt = y1.toInt + 1 := i_add ez15 rfl (by decide) (by (first | exact om_ef5c713ba60b rg_p2.2 klp3_0.1 f6 | omega))
          refine lv_iinc (v := z15) (lv' := [(7, .int z15), (6, .int y1), (0, .ref (ad 0)), (1, .ref (ad 36)), (2, .int p1), (3, .int p2), (4, .long p3)]) hx hb dX12_find_33 hl (k := 1) rfl (by rw [ez15]; rfl) (by decide) rfl (fun ls hl => ?_)
          refine lv_goto (tgt := 6) hx hb dX12_find_36 (by decide) ?_
          have kc16 := i_clamp (x := y1) rfl (by (first | exact om_eafa9039069c klp3_0.1 | omega))
          have kc17 : Int32.toNatClampNeg z7 = p1.toInt.toNat + Int32.toNatClampNeg y1 := by have h9 := i_clamp (x := z7) rfl (by (first | exact om_052587c8d6bd rg_p1.1 klp3_0.1 hz7 | omega)); (first | exact om_061ff4870277 rg_p1.1 hz7 kc16 h9 | omega)
          exact ihlp3 z15 y1 H locs ls (by (first | exact om_fd99fc2c0081 rg_p2.2 klp3_0.1 f6 hz15 | omega)) (by (first | exact om_80d701c7d15f rg_p2.2 klp3_0.1 f6 | omega)) (show z15.toInt ≤ p2.toInt from by (first | exact om_7fe9249fc074 f6 hz15 | omega)) (show y1.toInt < p2.toInt from by (first | exact om_0e9116797efb f6 | omega)) (Or.inr ⟨Int32.toNatClampNeg y1, by omega, by omega, Int64.toInt_inj.mp (by show (L 36 (p1.toInt.toNat + Int32.toNatClampNeg y1)).toInt = p3.toInt; rw [← kc17]; omega)⟩) (by (first | exact om_9e7d2b874257 hn hz15 | omega)) hP hD hS (lv_sub hl [0, 1, 2, 3, 4, 5, 6] rfl)
  have r18 : Int32.toInt 0 = 0 := by decide
  have r19 : Int32.toInt (-1) = (-1) := by decide
  exact lp3 ((p2.toInt - (Int32.toInt 0) + 1 : Int).toNat) 0 (-1) H locs ls (by decide) (by decide) (show (Int32.toInt 0) ≤ p2.toInt from by (first | exact om_6f9bb8cf3bec rg_p2.1 r18 | omega)) (show (Int32.toInt (-1)) < p2.toInt from by (first | exact om_0520d8737a12 rg_p2.1 r19 | omega)) (Or.inl ⟨by decide, fun i h => by exfalso; omega⟩) (by (first | exact om_7441a7786481 | omega)) hP hD hS (lv_sub hl [0, 1, 2, 3, 4, 5, 6] rfl)
abbrev r_s_find2_callName : Room := { frames := 0, cells := 0, slots := 0, locals := 0 }
abbrev q_s_find2_callName (D : va_G) (ks : KS) (ad : Nat → Nat) (kk : Nat → ClassId) (V : Vf) (L : Lf) (p1 : Int32) (p2 : Int32) (p3 : Int64) (A : Nat → Prop) : Array Value → State → Outcome → State → Prop := va_Qi (fun (r : Int32) (_ : Unit) => ((-1) ≤ r.toInt ∧ r.toInt ≤ 47) ∧ (r.toInt < p2.toInt) ∧ (LF (fun i => L 38 (p1.toInt.toNat + i)) p2.toInt p3 r.toInt)) (fun _ t => gq D A (mw ad kk ks.1 V L) (mty kk) t) A
set_option maxHeartbeats 4000000 in
set_option maxRecDepth 100000 in
theorem s_find2_callName (l : Launch) (D : va_G) (ks : KS) (sz : Nat) (ad : Nat → Nat) (kk : Nat → ClassId) (V : Vf) (L : Lf) (p1 : Int32) (p2 : Int32) (p3 : Int64) (hMV : rgd bM V) (rg_p1 : 0 ≤ p1.toInt ∧ p1.toInt ≤ 24) (rg_p2 : 0 ≤ p2.toInt ∧ p2.toInt ≤ 24) (y1 : p1.toInt + p2.toInt ≤ 40)  : Met l yX12_find (Cond.code yX12_find cX12_find 8 (some .int) :: GW) r_s_find2_callName (va_Pc [.ref (ad 0), .ref (ad 38), .int p1, .int p2, .long p3] (gp D ks (mw ad kk ks.1 V L) (mty kk) sz)) (q_s_find2_callName D ks ad kk V L p1 p2 p3 (va_A (mw ad kk ks.1 V L) sz)) 0 0 (va_A (mw ad kk ks.1 V L) sz) := by
  refine g_met (q_s_find2_callName D ks ad kk V L p1 p2 p3) (by decide) (Nat.le_of_ble_eq_true rfl) ?_
  intro p e s m below meth c A ls H locs hx hb hr hml hown hg hlocks hin hnw hgk hP hK hD hS hA hl
  have hown : s.vm.findClass RX12 = some m.cls := hown
  have hl : lv_has ls 8 [(0, .ref (ad 0)), (1, .ref (ad 38)), (2, .int p1), (3, .int p2), (4, .long p3)] := hl
  have hP : va_P D vwCl (mw ad kk ks.1 V L) H := hP
  have hD : va_D A (mw ad kk ks.1 V L) := hD
  have hK : va_K D vwCl (mty kk) s := hK
  have rf_p1 := i_full p1
  have rf_p2 := i_full p2
  refine lv_iconst (v := (-1)) hx hb dX12_find_0 (by decide) ?_
  refine lv_istore (lv' := [(6, .int (-1)), (0, .ref (ad 0)), (1, .ref (ad 38)), (2, .int p1), (3, .int p2), (4, .long p3)]) hx hb dX12_find_1 hl (by decide) rfl (fun ls hl => ?_)
  refine lv_iconst (v := 0) hx hb dX12_find_3 (by decide) ?_
  refine lv_istore (lv' := [(7, .int 0), (6, .int (-1)), (0, .ref (ad 0)), (1, .ref (ad 38)), (2, .int p1), (3, .int p2), (4, .long p3)]) hx hb dX12_find_4 hl (by decide) rfl (fun ls hl => ?_)
  have lp3 : ∀ (fulp3 : Nat) (y1 : Int32) (y2 : Int32) (H : Heap) (locs : List Loc) (ls : Array Slot), 0 ≤ y1.toInt ∧ y1.toInt ≤ 48 → (-1) ≤ y2.toInt ∧ y2.toInt ≤ 47 → y1.toInt ≤ p2.toInt → y2.toInt < p2.toInt → LF (fun i => L 38 (p1.toInt.toNat + i)) y1.toInt p3 y2.toInt → p2.toInt - y1.toInt < (fulp3 : Int) → va_P D vwCl (mw ad kk ks.1 V L) H → va_D A (mw ad kk ks.1 V L) → va_S A s.heap H locs → lv_has ls 8 [(7, .int y1), (6, .int y2), (0, .ref (ad 0)), (1, .ref (ad 38)), (2, .int p1), (3, .int p2), (4, .long p3)] → W p l e r_s_find2_callName s m ([.ref (ad 0), .ref (ad 38), .int p1, .int p2, .long p3] : List Value).toArray below meth c H locs 0 0 (MQ below (q_s_find2_callName D ks ad kk V L p1 p2 p3 A) ([.ref (ad 0), .ref (ad 38), .int p1, .int p2, .long p3] : List Value).toArray s 0 0 A) (F0 m 6 ls []) := by
    intro fulp3
    induction fulp3 with
    | zero =>
      intro y1 y2 H locs ls klp3_0 klp3_1 xlp3_0 xlp3_1 xlp3_2 hn  hP hD hS hl
      exfalso; (first | exact om_4634b1278845 xlp3_0 hn | omega)
    | succ fulp3 ihlp3 =>
      intro y1 y2 H locs ls klp3_0 klp3_1 xlp3_0 xlp3_1 xlp3_2 hn  hP hD hS hl
      refine lv_iload hx hb dX12_find_6 (lv_at hl 0 rfl) ?_
      refine lv_iload_n hx hb dX12_find_8 rfl (lv_at hl 5 rfl) ?_
      refine lv_icmp_ge (tgt := 39) hx hb dX12_find_9 (by decide) (fun c4 => ?_) (fun c4 => ?_)
      · skip
        have f5 : p2.toInt ≤ y1.toInt := b_le rfl rfl c4
        refine lv_iload hx hb dX12_find_39 (lv_at hl 1 rfl) ?_
        exact W.iret (v := y2) hx hb hr (fun t ht hW => ⟨⟨y2, (), rfl, ⟨(show (-1) ≤ y2.toInt ∧ y2.toInt ≤ 47 from by (first | exact om_ada4133e811d rg_p2.2 klp3_1.1 xlp3_1 | omega)), (show y2.toInt < p2.toInt from by (first | exact om_0e9116797efb xlp3_1 | omega)), (by rw [show p2.toInt = y1.toInt from by omega]; exact xlp3_2)⟩, by rw [ht]; exact hP, va_K.moved hW.alike hK, hD⟩, hS.F ht⟩) hS.2.2 dX12_find_41
      · skip
        have f6 : y1.toInt < p2.toInt := b_nle rfl rfl c4
        refine lv_aload_n hx hb dX12_find_12 rfl (lv_at hl 3 rfl) ?_
        refine lv_iload_n hx hb dX12_find_13 rfl (lv_at hl 4 rfl) ?_
        refine lv_iload hx hb dX12_find_14 (lv_at hl 0 rfl) ?_
        refine lv_iadd hx hb dX12_find_16 ?_
        refine lv_topi (fun z7 ez7 => ?_)
        have hz7 : z7.toInt = p1.toInt + y1.toInt := i_add ez7 rfl rfl (by (first | exact om_e600b20a033e rg_p1.1 y1 klp3_0.1 f6 | omega))
        refine va_lald (D := D) (i := z7) hx hb hK hP 31 30 rfl rfl (i_in (a := z7.toInt) rfl (by (first | exact om_5dbe2c5fe856 rg_p1.1 y1 klp3_0.1 f6 hz7 | omega))) dX12_find_17 ?_
        refine lv_lload hx hb dX12_find_18 (lv_at hl 6 rfl) ?_
        refine W.lcmp hx hb dX12_find_20 ?_
        refine lv_topi (fun z8 ez8 => ?_)
        have hz8 := lcmp_f ez8
        refine lv_if_ne (tgt := 29) hx hb dX12_find_21 (by decide) (fun c9 => ?_) (fun c9 => ?_)
        · skip
          have f10 : z8.toInt ≠ 0 := b_neq rfl (by decide) c9
          refine lv_iload hx hb dX12_find_29 (lv_at hl 1 rfl) ?_
          refine lv_istore (lv' := [(6, .int y2), (7, .int y1), (0, .ref (ad 0)), (1, .ref (ad 38)), (2, .int p1), (3, .int p2), (4, .long p3)]) hx hb dX12_find_31 hl (by decide) rfl (fun ls hl => ?_)
          obtain ⟨z11, ez11⟩ : ∃ y : Int32, y = y1 + 1 := ⟨_, rfl⟩
          have hz11 : z11.toInt = y1.toInt + 1 := i_add ez11 rfl (by decide) (by (first | exact om_ef5c713ba60b rg_p2.2 klp3_0.1 f6 | omega))
          refine lv_iinc (v := z11) (lv' := [(7, .int z11), (6, .int y2), (0, .ref (ad 0)), (1, .ref (ad 38)), (2, .int p1), (3, .int p2), (4, .long p3)]) hx hb dX12_find_33 hl (k := 1) rfl (by rw [ez11]; rfl) (by decide) rfl (fun ls hl => ?_)
          refine lv_goto (tgt := 6) hx hb dX12_find_36 (by decide) ?_
          have kc12 := i_clamp (x := y1) rfl (by (first | exact om_eafa9039069c klp3_0.1 | omega))
          have kc13 : Int32.toNatClampNeg z7 = p1.toInt.toNat + Int32.toNatClampNeg y1 := by have h9 := i_clamp (x := z7) rfl (by (first | exact om_052587c8d6bd rg_p1.1 klp3_0.1 hz7 | omega)); (first | exact om_061ff4870277 rg_p1.1 hz7 kc12 h9 | omega)
          exact ihlp3 z11 y2 H locs ls (by (first | exact om_fd99fc2c0081 rg_p2.2 klp3_0.1 f6 hz11 | omega)) (by (first | exact om_ada4133e811d rg_p2.2 klp3_1.1 xlp3_1 | omega)) (show z11.toInt ≤ p2.toInt from by (first | exact om_7fe9249fc074 f6 hz11 | omega)) (show y2.toInt < p2.toInt from by (first | exact om_0e9116797efb xlp3_1 | omega)) (xlp3_2.elim (fun q => Or.inl ⟨q.1, fun i h => by by_cases c9 : (i : Int) < y1.toInt; exact q.2 i c9; have ei : i = Int32.toNatClampNeg y1 := (by omega); rw [ei]; show L 38 (p1.toInt.toNat + Int32.toNatClampNeg y1) ≠ p3; rw [← kc13]; intro q9; have q8 := congrArg Int64.toInt q9; omega⟩) (fun q => q.elim (fun i h => Or.inr ⟨i, h.1, by have h1 := h.2.1; omega, h.2.2⟩))) (by (first | exact om_9e7d2b874257 hn hz11 | omega)) hP hD hS (lv_sub hl [0, 1, 2, 3, 4, 5, 6] rfl)
        · skip
          have f14 : z8.toInt = 0 := b_eq rfl (by decide) c9
          refine lv_iload hx hb dX12_find_24 (lv_at hl 0 rfl) ?_
          refine lv_goto (tgt := 31) hx hb dX12_find_26 (by decide) ?_
          refine lv_istore (lv' := [(6, .int y1), (7, .int y1), (0, .ref (ad 0)), (1, .ref (ad 38)), (2, .int p1), (3, .int p2), (4, .long p3)]) hx hb dX12_find_31 hl (by decide) rfl (fun ls hl => ?_)
          obtain ⟨z15, ez15⟩ : ∃ y : Int32, y = y1 + 1 := ⟨_, rfl⟩
          have hz15 : z15.toInt = y1.toInt + 1 := i_add ez15 rfl (by decide) (by (first | exact om_ef5c713ba60b rg_p2.2 klp3_0.1 f6 | omega))
          refine lv_iinc (v := z15) (lv' := [(7, .int z15), (6, .int y1), (0, .ref (ad 0)), (1, .ref (ad 38)), (2, .int p1), (3, .int p2), (4, .long p3)]) hx hb dX12_find_33 hl (k := 1) rfl (by rw [ez15]; rfl) (by decide) rfl (fun ls hl => ?_)
          refine lv_goto (tgt := 6) hx hb dX12_find_36 (by decide) ?_
          have kc16 := i_clamp (x := y1) rfl (by (first | exact om_eafa9039069c klp3_0.1 | omega))
          have kc17 : Int32.toNatClampNeg z7 = p1.toInt.toNat + Int32.toNatClampNeg y1 := by have h9 := i_clamp (x := z7) rfl (by (first | exact om_052587c8d6bd rg_p1.1 klp3_0.1 hz7 | omega)); (first | exact om_061ff4870277 rg_p1.1 hz7 kc16 h9 | omega)
          exact ihlp3 z15 y1 H locs ls (by (first | exact om_fd99fc2c0081 rg_p2.2 klp3_0.1 f6 hz15 | omega)) (by (first | exact om_80d701c7d15f rg_p2.2 klp3_0.1 f6 | omega)) (show z15.toInt ≤ p2.toInt from by (first | exact om_7fe9249fc074 f6 hz15 | omega)) (show y1.toInt < p2.toInt from by (first | exact om_0e9116797efb f6 | omega)) (Or.inr ⟨Int32.toNatClampNeg y1, by omega, by omega, Int64.toInt_inj.mp (by show (L 38 (p1.toInt.toNat + Int32.toNatClampNeg y1)).toInt = p3.toInt; rw [← kc17]; omega)⟩) (by (first | exact om_9e7d2b874257 hn hz15 | omega)) hP hD hS (lv_sub hl [0, 1, 2, 3, 4, 5, 6] rfl)
  have r18 : Int32.toInt 0 = 0 := by decide
  have r19 : Int32.toInt (-1) = (-1) := by decide
  exact lp3 ((p2.toInt - (Int32.toInt 0) + 1 : Int).toNat) 0 (-1) H locs ls (by decide) (by decide) (show (Int32.toInt 0) ≤ p2.toInt from by (first | exact om_6f9bb8cf3bec rg_p2.1 r18 | omega)) (show (Int32.toInt (-1)) < p2.toInt from by (first | exact om_0520d8737a12 rg_p2.1 r19 | omega)) (Or.inl ⟨by decide, fun i h => by exfalso; omega⟩) (by (first | exact om_7441a7786481 | omega)) hP hD hS (lv_sub hl [0, 1, 2, 3, 4, 5, 6] rfl)
