/-! members and statements -/
def nxI (x : Int32) (k : List It) : List It := if x.toInt < 0 then Istmt :: k else Imember :: k
theorem nxI_s {x : Int32} {k : List It} (h : x.toInt < 0) : nxI x k = Istmt :: k := if_pos h
theorem nxI_m {x : Int32} {k : List It} (h : 0 ≤ x.toInt) : nxI x k = Imember :: k := if_neg (by omega)
theorem own_e {V : Vf} {o : Nat} (h : (V 1 2).toInt = (o : Int)) : Int32.toNatClampNeg (V 1 2) = o := by
  have := i_clamp (x := V 1 2) rfl (by omega)
  omega
theorem RelC.ow {V : Vf} {L : Lf} {b : Nat} {T : Tk} {s : St} {o : Nat} (h : RelC V L b T s) (ho : (V 1 2).toInt = (o : Int)) : OWr V o s := by
  have z := h.2.2.2.2 (by omega)
  rw [own_e ho] at z
  exact z
/-- all but what the owner has -/
theorem RelC.w1 {V W : Vf} {L : Lf} {b c k : Nat} {v : Int32} {T : Tk} {s s' : St} (h : RelC V L b T s) (e : W = up2 V c k v) (hc : ¬ c = 12 ∧ ¬ c = 13 ∧ ¬ c = 41 ∧ ¬ c = 43 ∧ ¬ c = 63 ∧ ¬ c = 65 ∧ ¬ c = 6) (h3 : ¬ (c = 1 ∧ k = 3)) (e1 : s'.1 0 = s.1 0) (e2 : s'.2.1 = s.2.1) (e4 : s'.2.2.1 = s.2.2.1) (ow : OWc W s') : RelC W L b T s' := by
  have f : ∀ x, ¬ c = x → W x = V x := fun x hx => up2_fo e (fun q => hx q.symm)
  have e6 : W 6 = V 6 := f 6 hc.2.2.2.2.2.2
  have e3 : W 1 3 = V 1 3 := by
    by_cases q : c = 1
    · subst q
      exact up2_k e (fun z => h3 ⟨rfl, z.symm⟩)
    · rw [f 1 q]
  refine ⟨?_, h.2.1.ag (by rw [e6]) (f 12 hc.1) (f 13 hc.2.1) rfl e3, h.2.2.1.ag (f 43 hc.2.2.2.1) rfl e2, h.2.2.2.1.ag (f 41 hc.2.2.1) (f 63 hc.2.2.2.2.1) (f 65 hc.2.2.2.2.2.1) e4, ow⟩
  rw [e1]
  exact h.1.ag (by rw [e6]) (by rw [e6]) (by rw [e6]) (by rw [e6]) (f 12 hc.1) (f 13 hc.2.1) rfl rfl
theorem RelC.mt {V W : Vf} {L : Lf} {b o f : Nat} {v : Int32} {T : Tk} {s : St} {l : List Nat} (h : RelC V L b T s) (ho : (V 1 2).toInt = (o : Int)) (e : W = up2 V 61 (20 * o + f) v) (hv : v.toInt ≠ -1) (hl : l = s.2.2.2) : RelC W L b T (sT s (f :: l)) := by
  have z := h.ow ho
  have e2 : W 1 2 = V 1 2 := up2_o e (by decide)
  refine h.w1 e (by decide) (fun q => absurd q.1 (by decide)) rfl rfl rfl (fun _ => ?_)
  rw [e2, own_e ho]
  refine ⟨by rw [up2_fo e (by decide)]; exact z.1, by rw [up2_fo e (by decide)]; exact z.2.1, by rw [up2_fo e (by decide)]; exact z.2.2.1, z.2.2.2.1, fun g hg => ?_⟩
  show _ ↔ g ∈ f :: l
  rw [List.mem_cons, hl]
  by_cases q : g = f
  · subst q
    rw [up2_s e]
    exact ⟨fun _ => Or.inl rfl, fun _ => hv⟩
  · rw [up2_k e (by omega), z.2.2.2.2 g hg]
    exact ⟨fun x => Or.inr x, fun x => x.elim (fun y => absurd y q) id⟩
theorem RelC.op {V W : Vf} {L : Lf} {b o : Nat} {v : Int32} {T : Tk} {s : St} (h : RelC V L b T s) (ho : (V 1 2).toInt = (o : Int)) (e : W = up2 V 56 o v) (hv : v.toInt ≠ -1) : RelC W L b T (sN s 2 1) := by
  have z := h.ow ho
  have e2 : W 1 2 = V 1 2 := up2_o e (by decide)
  refine h.w1 e (by decide) (fun q => absurd q.1 (by decide)) rfl rfl rfl (fun _ => ?_)
  rw [e2, own_e ho]
  refine ⟨by rw [up2_fo e (by decide)]; exact z.1, ?_, by rw [up2_fo e (by decide)]; exact z.2.2.1, z.2.2.2.1, by rw [up2_fo e (by decide)]; exact z.2.2.2.2⟩
  rw [up2_s e]
  exact ⟨fun q => absurd q hv, fun q => absurd rfl q⟩
theorem RelC.cl {V W : Vf} {L : Lf} {b o : Nat} {v : Int32} {T : Tk} {s : St} (h : RelC V L b T s) (ho : (V 1 2).toInt = (o : Int)) (e : W = up2 V 57 o v) (hv : v.toInt ≠ -1) : RelC W L b T (sN s 3 1) := by
  have z := h.ow ho
  have e2 : W 1 2 = V 1 2 := up2_o e (by decide)
  refine h.w1 e (by decide) (fun q => absurd q.1 (by decide)) rfl rfl rfl (fun _ => ?_)
  rw [e2, own_e ho]
  refine ⟨by rw [up2_fo e (by decide)]; exact z.1, by rw [up2_fo e (by decide)]; exact z.2.1, ?_, z.2.2.2.1, by rw [up2_fo e (by decide)]; exact z.2.2.2.2⟩
  rw [up2_s e]
  exact ⟨fun q => absurd q hv, fun q => absurd rfl q⟩
/-- the owner is set, is taken away -/
theorem RelC.os {V W : Vf} {L : Lf} {b o : Nat} {x : Int32} {T : Tk} {s : St} (h : RelC V L b T s) (e : W = up2 V 1 2 x) (hx : x.toInt = (o : Int)) (ow : OWr V o s) : RelC W L b T s := by
  refine h.w1 e (by decide) (fun q => absurd q.2 (by decide)) rfl rfl rfl (fun _ => ?_)
  have e1 : W 1 2 = x := up2_s e
  have e2 : Int32.toNatClampNeg (W 1 2) = o := own_e (by rw [e1]; exact hx)
  rw [e2]
  exact ow.ag (up2_fo e (by decide)) (up2_fo e (by decide)) (up2_fo e (by decide)) (up2_fo e (by decide)) (fun _ _ => rfl) rfl
theorem RelC.on {V W : Vf} {L : Lf} {b : Nat} {x : Int32} {T : Tk} {s : St} (h : RelC V L b T s) (e : W = up2 V 1 2 x) (hx : x.toInt < 0) : RelC W L b T s :=
  h.w1 e (by decide) (fun q => absurd q.2 (by decide)) rfl rfl rfl (fun q => by
    have e1 : W 1 2 = x := up2_s e
    rw [e1] at q
    omega)
/-- there is no owner: his places may be written -/
def okE (fs : List (Nat × Nat)) (cs : List Nat) : Bool := cs.all (fun c => !([1, 6, 12, 13, 41, 43, 63, 65].contains c)) && fs.all (fun x => !([(6, 7), (6, 8), (6, 9), (6, 10), (1, 2), (1, 3)].contains x) && decide (x.1 ≤ 6))
theorem RelC.agn {V W : Vf} {L M : Lf} {b : Nat} {T : Tk} {s : St} {fs : List (Nat × Nat)} {cs ls : List Nat} (h : RelC V L b T s) (hn : (V 1 2).toInt < 0) (a : agr fs cs V W) (k : okE fs cs = true) (m : agL ls L M) (j : okLs ls = true) : RelC W M b T s := by
  have u := okLs.use m j
  have e12 : W 12 = V 12 := funext fun q => ok_use a k (x := 12) rfl (Or.inl (by decide))
  have e13 : W 13 = V 13 := funext fun q => ok_use a k (x := 13) rfl (Or.inl (by decide))
  have e7 : W 6 7 = V 6 7 := ok_use a k rfl (Or.inr rfl)
  have e2 : W 1 2 = V 1 2 := ok_use a k rfl (Or.inr rfl)
  refine ⟨h.1.ag e7 (ok_use a k rfl (Or.inr rfl)) (ok_use a k rfl (Or.inr rfl)) (ok_use a k rfl (Or.inr rfl)) e12 e13 u.1 u.2.1, h.2.1.ag e7 e12 e13 u.2.1 (ok_use a k rfl (Or.inr rfl)), h.2.2.1.ag (funext fun q => ok_use a k (x := 43) rfl (Or.inl (by decide))) u.2.2 rfl, h.2.2.2.1.ag (funext fun q => ok_use a k (x := 41) rfl (Or.inl (by decide))) (funext fun q => ok_use a k (x := 63) rfl (Or.inl (by decide))) (funext fun q => ok_use a k (x := 65) rfl (Or.inl (by decide))) rfl, ?_⟩
  intro q
  rw [e2] at q
  omega
/-- a need more -/
def okD (fs : List (Nat × Nat)) (cs : List Nat) : Bool := cs.all (fun c => !([1, 6, 12, 13, 41, 43, 56, 57, 61, 63, 65].contains c)) && fs.all (fun x => !([(6, 7), (6, 8), (6, 9), (6, 10), (1, 2), (1, 3)].contains x) && decide (x.1 ≤ 6))
theorem RelC.nd {V W : Vf} {L : Lf} {b o : Nat} {T : Tk} {s : St} {fs : List (Nat × Nat)} {cs : List Nat} (h : RelC V L b T s) (ho : (V 1 2).toInt = (o : Int)) (a : agr fs cs V W) (k : okD fs cs = true) (n1 : (W 49 o).toInt = (V 49 o).toInt + 1) : RelC W L b T (sN s 1 (s.1 1 + 1)) := by
  have e12 : W 12 = V 12 := funext fun q => ok_use a k (x := 12) rfl (Or.inl (by decide))
  have e13 : W 13 = V 13 := funext fun q => ok_use a k (x := 13) rfl (Or.inl (by decide))
  have e7 : W 6 7 = V 6 7 := ok_use a k rfl (Or.inr rfl)
  have e2 : W 1 2 = V 1 2 := ok_use a k rfl (Or.inr rfl)
  have z := h.ow ho
  refine ⟨h.1.ag e7 (ok_use a k rfl (Or.inr rfl)) (ok_use a k rfl (Or.inr rfl)) (ok_use a k rfl (Or.inr rfl)) e12 e13 rfl rfl, h.2.1.ag e7 e12 e13 rfl (ok_use a k rfl (Or.inr rfl)), h.2.2.1.ag (funext fun q => ok_use a k (x := 43) rfl (Or.inl (by decide))) rfl rfl, h.2.2.2.1.ag (funext fun q => ok_use a k (x := 41) rfl (Or.inl (by decide))) (funext fun q => ok_use a k (x := 63) rfl (Or.inl (by decide))) (funext fun q => ok_use a k (x := 65) rfl (Or.inl (by decide))) rfl, fun _ => ?_⟩
  rw [e2, own_e ho]
  have e56 : W 56 = V 56 := funext fun q => ok_use a k (x := 56) rfl (Or.inl (by decide))
  have e57 : W 57 = V 57 := funext fun q => ok_use a k (x := 57) rfl (Or.inl (by decide))
  have e61 : W 61 = V 61 := funext fun q => ok_use a k (x := 61) rfl (Or.inl (by decide))
  refine ⟨?_, by rw [e56]; exact z.2.1, by rw [e57]; exact z.2.2.1, z.2.2.2.1, by rw [e61]; exact z.2.2.2.2⟩
  rw [n1, z.1]
  show ((s.1 1 : Nat) : Int) + 1 = ((s.1 1 + 1 : Nat) : Int)
  omega
theorem OWr.fresh {V : Vf} {o n : Nat} {s s' : St} (k : keepS (scopeS s) n s') (c49 : (V 49 o).toInt = 0) (c56 : (V 56 o).toInt = -1) (c57 : (V 57 o).toInt = -1) (c61 : ∀ q : Nat, (q : Int) < 20 → (V 61 (20 * o + q)).toInt = -1) (w : Int64) : OWr V o (sA s' 2 w) := by
  refine ⟨?_, ⟨fun _ => ?_, fun _ => c56⟩, ⟨fun _ => ?_, fun _ => c57⟩, ?_, fun f hf => ?_⟩
  · show _ = ((s'.1 1 : Nat) : Int)
    rw [c49, k.2.1 1 (by decide)]
    rfl
  · show s'.1 2 ≠ 1
    rw [k.2.1 2 (by decide)]
    show (0 : Nat) ≠ 1
    decide
  · show s'.1 3 ≠ 1
    rw [k.2.1 3 (by decide)]
    show (0 : Nat) ≠ 1
    decide
  · show s'.1 4 = 0
    rw [k.2.1 4 (by decide)]
    rfl
  · show _ ↔ f ∈ s'.2.2.2
    rw [k.2.2.2]
    exact ⟨fun q => absurd (c61 f (by omega)) q, fun q => absurd q List.not_mem_nil⟩
/-! wraps -/
theorem take_s {α : Type} : ∀ (l : List α) (i : Nat) (h : i < l.length), l.take (i + 1) = l.take i ++ [l[i]]
  | [], i, h => absurd h (Nat.not_lt_zero _)
  | a :: l, 0, h => rfl
  | a :: l, i + 1, h => congrArg (List.cons a) (take_s l i (Nat.lt_of_succ_lt_succ h))
theorem ar_app (l : List (Nat × Bool)) (x : Nat × Bool) (f : Nat) : arounds (l ++ [x]) f = arounds l f + (if x.1 = f ∧ x.2 = true then 1 else 0) := by
  unfold arounds
  rw [List.filter_append, List.length_append]
  by_cases c : x.1 = f ∧ x.2 = true
  · rw [if_pos c, List.filter_cons_of_pos (by rw [c.1, c.2]; simp)]
    rfl
  · rw [if_neg c, List.filter_cons_of_neg (by intro q; rw [Bool.and_eq_true, beq_iff_eq] at q; exact c q)]
    rfl
theorem WRc.st {V : Vf} {b i f : Nat} {s : St} (h : WRc V b s) (hi : (i : Int) < (V 41 b).toInt) : arounds (s.2.2.1.take (i + 1)) f = arounds (s.2.2.1.take i) f + (if (V 65 (12 * b + i)).toInt = 1 ∧ (V 63 (12 * b + i)).toInt = (f : Int) then 1 else 0) := by
  have hl : i < s.2.2.1.length := by have := h.1; omega
  have z := h.2 i hl
  rw [take_s _ i hl, ar_app, z.2]
  congr 1
  by_cases c : (V 65 (12 * b + i)).toInt = 1 ∧ (V 63 (12 * b + i)).toInt = (f : Int)
  · rw [if_pos c, if_pos ⟨by show (V 63 (12 * b + i)).toInt.toNat = f; omega, decide_eq_true c.1⟩]
  · rw [if_neg c, if_neg (fun q => c ⟨of_decide_eq_true q.2, by have q1 : (V 63 (12 * b + i)).toInt.toNat = f := q.1; omega⟩)]
theorem WRc.all {V : Vf} {b i f : Nat} {s : St} (h : WRc V b s) (hi : (i : Int) = (V 41 b).toInt) : arounds (s.2.2.1.take i) f = arounds s.2.2.1 f := by
  rw [List.take_of_length_le (by have := h.1; omega)]
def okW (fs : List (Nat × Nat)) (cs : List Nat) : Bool := cs.all (fun c => !([1, 6, 12, 13, 43, 49, 56, 57, 61].contains c)) && fs.all (fun x => !([(6, 7), (6, 8), (6, 9), (6, 10), (1, 2), (1, 3)].contains x) && decide (x.1 ≤ 6))
theorem RelC.wr {V W : Vf} {L : Lf} {b f : Nat} {m q9 : Int32} {T : Tk} {s : St} {fs : List (Nat × Nat)} {cs : List Nat} (h : RelC V L b T s) (a : agr fs cs V W) (k : okW fs cs = true) (h0 : 0 ≤ (V 41 b).toInt) (n1 : (W 41 b).toInt = (V 41 b).toInt + 1) (e63 : W 63 = upd (V 63) (12 * b + Int32.toNatClampNeg (V 41 b)) m) (e65 : W 65 = upd (V 65) (12 * b + Int32.toNatClampNeg (V 41 b)) q9) (hm : m.toInt = (f : Int)) : RelC W L b T (sW s (f, decide (q9.toInt = 1))) := by
  have e12 : W 12 = V 12 := funext fun q => ok_use a k (x := 12) rfl (Or.inl (by decide))
  have e13 : W 13 = V 13 := funext fun q => ok_use a k (x := 13) rfl (Or.inl (by decide))
  have e7 : W 6 7 = V 6 7 := ok_use a k rfl (Or.inr rfl)
  have e2 : W 1 2 = V 1 2 := ok_use a k rfl (Or.inr rfl)
  have kc := i_clamp (x := V 41 b) rfl h0
  have w := h.2.2.2.1
  have wl := w.1
  refine ⟨h.1.ag e7 (ok_use a k rfl (Or.inr rfl)) (ok_use a k rfl (Or.inr rfl)) (ok_use a k rfl (Or.inr rfl)) e12 e13 rfl rfl, h.2.1.ag e7 e12 e13 rfl (ok_use a k rfl (Or.inr rfl)), h.2.2.1.ag (funext fun q => ok_use a k (x := 43) rfl (Or.inl (by decide))) rfl rfl, ⟨?_, ?_⟩, ?_⟩
  · show ((s.2.2.1 ++ [(f, decide (q9.toInt = 1))]).length : Int) = _
    rw [List.length_append, n1]
    show ((s.2.2.1.length + 1 : Nat) : Int) = _
    omega
  · show ∀ i (hi : i < (s.2.2.1 ++ [(f, decide (q9.toInt = 1))]).length), 0 ≤ (W 63 (12 * b + i)).toInt ∧ (s.2.2.1 ++ [(f, decide (q9.toInt = 1))])[i] = ((W 63 (12 * b + i)).toInt.toNat, decide ((W 65 (12 * b + i)).toInt = 1))
    intro i hi
    rw [e63, e65]
    have hi2 : i < s.2.2.1.length + 1 := by rw [List.length_append] at hi; exact hi
    by_cases c : i < s.2.2.1.length
    · have u1 : upd (V 63) (12 * b + Int32.toNatClampNeg (V 41 b)) m (12 * b + i) = V 63 (12 * b + i) := if_neg (by omega)
      have u2 : upd (V 65) (12 * b + Int32.toNatClampNeg (V 41 b)) q9 (12 * b + i) = V 65 (12 * b + i) := if_neg (by omega)
      rw [u1, u2, List.getElem_append_left c]
      exact w.2 i c
    · have ei : i = s.2.2.1.length := by omega
      have u1 : upd (V 63) (12 * b + Int32.toNatClampNeg (V 41 b)) m (12 * b + i) = m := if_pos (by omega)
      have u2 : upd (V 65) (12 * b + Int32.toNatClampNeg (V 41 b)) q9 (12 * b + i) = q9 := if_pos (by omega)
      rw [u1, u2, List.getElem_append_right (by omega), hm]
      refine ⟨by omega, ?_⟩
      rw [Int.toNat_natCast]
      exact List.getElem_singleton _
  · intro q
    rw [e2] at q ⊢
    exact (h.2.2.2.2 q).ag (funext fun q => ok_use a k (x := 49) rfl (Or.inl (by decide))) (funext fun q => ok_use a k (x := 56) rfl (Or.inl (by decide))) (funext fun q => ok_use a k (x := 57) rfl (Or.inl (by decide))) (funext fun q => ok_use a k (x := 61) rfl (Or.inl (by decide))) (fun _ _ => rfl) rfl
theorem RelC.s4 {V : Vf} {L : Lf} {b v : Nat} {T : Tk} {s : St} (h : RelC V L b T s) (hn : (V 1 2).toInt < 0) : RelC V L b T (sN s 4 v) := ⟨h.1, h.2.1, h.2.2.1, h.2.2.2.1, fun q => absurd q (by omega)⟩
/-! a need more: as the cells are written -/
def okQ (fs : List (Nat × Nat)) (cs : List Nat) : Bool := cs.all (fun c => !([45, 46, 50, 51, 52, 53, 54, 55].contains c)) && fs.all (fun x => !(([] : List (Nat × Nat)).contains x) && decide (x.1 ≤ 6))
theorem CNc.nd2 {V W : Vf} {b o p f ca : Nat} {a : Int} {x0 x1 x2 : Int32} {s : St} {fs : List (Nat × Nat)} {cs : List Nat} (h : CNc V b s) (ho : o + 1 = 24 * b + (s.2.1 2).length) (hb : 24 * b ≤ o) (h1 : (V 49 o).toInt = ((s.1 1 : Nat) : Int)) (h8 : s.1 1 < 8) (ag : agr fs cs V W) (k : okQ fs cs = true) (e49 : ∀ k, k ≠ o → W 49 k = V 49 k) (n49 : (W 49 o).toInt = (V 49 o).toInt + 1) (e58 : W 58 = upd (V 58) p x1) (e59 : W 59 = upd (V 59) p x2) (e60 : W 60 = upd (V 60) p x0) (hp : p = 8 * o + s.1 1) (hx1 : x1.toInt = (f : Int)) (hx0 : x0.toInt = ((a.toNat : Nat) : Int)) (hx2 : x2.toInt + 1 = (ca : Int)) (hf : f < 24) : CNc W b (ndS s a f ca) := by
  subst hp
  have us : ∀ (g : Nat → Int32) (v : Int32), upd g (8 * o + s.1 1) v (8 * o + s.1 1) = v := fun g v => if_pos rfl
  refine h.nd ho hb h1 h8 (funext fun q => ok_use ag k (x := 45) rfl (Or.inl (by decide))) (funext fun q => ok_use ag k (x := 46) rfl (Or.inl (by decide))) (fun x a1 a2 => ?_) e49 n49 (fun x k a1 a2 hk => ?_) (by rw [e58, us]; exact hx1) (by rw [e60, us]; exact hx0) (by rw [e59, us]; exact hx2) hf
  · have z : x = 50 ∨ x = 51 ∨ x = 52 ∨ x = 53 ∨ x = 54 ∨ x = 55 := by omega
    rcases z with z | z | z | z | z | z <;> (subst z; exact funext fun q => ok_use ag k rfl (Or.inl (by decide)))
  · have z : x = 58 ∨ x = 59 ∨ x = 60 := by omega
    rcases z with z | z | z
    · subst z
      rw [e58]
      exact if_neg hk
    · subst z
      rw [e59]
      exact if_neg hk
    · subst z
      rw [e60]
      exact if_neg hk
theorem UND.mv {x : Int32} {f g : Nat → Nat} {l : List Nat} (h : UND x f l) (e : ∀ i, 10 ≤ i → g i = f i) : UND x g l := by
  unfold UND at h ⊢
  rw [msk_eq e]
  exact h


abbrev r_x_readExpression38 : Room := { frames := 89, cells := 0, slots := 0, locals := 2640 }
abbrev q_x_readExpression38 (D : va_G) (ks : KS) (ad : Nat → Nat) (kk : Nat → ClassId) (V : Vf) (L : Lf) (Z : XZ) (p0 : Int32) (b : Nat) (gT : Tk) (gs : St) (gd : Nat) (A : Nat → Prop) : Array Value → State → Outcome → State → Prop := q_x_readExpression3 D ks ad kk V L Z p0 b gT gs gd A
theorem x_readExpression38 (l : Launch) (D : va_G) (ks : KS) (sz : Nat) (ad : Nat → Nat) (kk : Nat → ClassId) (V : Vf) (L : Lf) (Z : XZ) (p0 : Int32) (b : Nat) (gT : Tk) (gs : St) (gd : Nat) (hMV : rgd bX V) (rg_p0 : 0 ≤ p0.toInt ∧ p0.toInt ≤ 0) (hb2 : b < 2) (rbk : (V 1 1).toInt = (b : Int)) (rel : RelC V L b gT gs) (yd : p0.toInt = (gd : Int)) (wh : (V 1 4).toInt = ((gs.1 4 : Nat) : Int)) (ow : ((V 1 4).toInt = 0 → 0 ≤ (V 1 2).toInt)) : Met l yX1_readExpression (Cond.code yX1_readExpression cX1_readExpression 3 (some .boolean) :: GW) r_x_readExpression38 (va_Pc [.ref (ad 1), .int p0] (gp D ks (xw ad kk V L Z) (xty kk Z) sz)) (q_x_readExpression38 D ks ad kk V L Z p0 b gT gs gd (va_A (xw ad kk V L Z) sz)) 0 0 (va_A (xw ad kk V L Z) sz) :=
  K_xexpr3 8 sz ad kk V L Z p0 b gT gs gd hMV (by omega) hb2 rbk rel yd wh ow (by omega)

abbrev r_x_readE3 : Room := { frames := 90, cells := 0, slots := 0, locals := 2662 }
abbrev q_x_readE3 (D : va_G) (ks : KS) (ad : Nat → Nat) (kk : Nat → ClassId) (V : Vf) (L : Lf) (Z : XZ) (p0 : Int32) (b : Nat) (gT : Tk) (gs : St) (A : Nat → Prop) : Array Value → State → Outcome → State → Prop := va_Qi (fun (r : Int32) (u : Vf × Lf) => rgd bX u.1 ∧ agr [(1, 3), (1, 4), (1, 6), (1, 8), (6, 8), (6, 9), (6, 10)] [42, 43, 44, 48] V u.1 ∧ agL [6, 44] L u.2 ∧ (0 ≤ r.toInt ∧ r.toInt ≤ 1) ∧ (Rd gT gs (fun k => Iexpr 0 :: Itake 59 :: k) (fun k => k) r.toInt (u.1 1 3).toInt (fun s9 => RelC u.1 u.2 b gT s9 ∧ keepS gs 2 s9)) ∧ (ROWL b L u.2)) (fun u t => gq D A (xw ad kk u.1 u.2 Z) (xty kk Z) t) A
set_option maxHeartbeats 4000000 in
set_option maxRecDepth 100000 in
theorem x_readE3 (l : Launch) (D : va_G) (ks : KS) (sz : Nat) (ad : Nat → Nat) (kk : Nat → ClassId) (V : Vf) (L : Lf) (Z : XZ) (p0 : Int32) (b : Nat) (gT : Tk) (gs : St) (hMV : rgd bX V) (rg_p0 : 0 ≤ p0.toInt ∧ p0.toInt ≤ 2) (hb2 : b < 2) (rbk : (V 1 1).toInt = (b : Int)) (rel : RelC V L b gT gs) (pw : p0.toInt = ((gs.1 4 : Nat) : Int)) (owp : (p0.toInt = 0 → 0 ≤ (V 1 2).toInt))  : Met l yX1_readE (Cond.code yX1_readE cX1_readE 2 (some .boolean) :: GW) r_x_readE3 (va_Pc [.ref (ad 1), .int p0] (gp D ks (xw ad kk V L Z) (xty kk Z) sz)) (q_x_readE3 D ks ad kk V L Z p0 b gT gs (va_A (xw ad kk V L Z) sz)) 0 0 (va_A (xw ad kk V L Z) sz) := by
  refine g_met (q_x_readE3 D ks ad kk V L Z p0 b gT gs) (by decide) (Nat.le_of_ble_eq_true rfl) ?_
  intro p e s m below meth c A ls H locs hx hb hr hml hown hg hlocks hin hnw hgk hP hK hD hS hA hl
  have hown : s.vm.findClass RX1 = some m.cls := hown
  have hl : lv_has ls 2 [(0, .ref (ad 1)), (1, .int p0)] := hl
  have hP : va_P D vwCl (xw ad kk V L Z) H := hP
  have hD : va_D A (xw ad kk V L Z) := hD
  have hK : va_K D vwCl (xty kk Z) s := hK
  have agV : agr [(1, 3), (1, 4), (1, 6), (1, 8), (6, 8), (6, 9), (6, 10)] [42, 43, 44, 48] V V := agr.rf
  have alL : agL [6, 44] L L := agL.rf
  have rf_p0 := i_full p0
  have r1 : (-1) ≤ ((V 1 1)).toInt ∧ ((V 1 1)).toInt ≤ 1 := hMV 1 1
  refine lv_aload_n hx hb dX1_readE_0 rfl (lv_at hl 0 rfl) ?_
  refine lv_iload_n hx hb dX1_readE_1 rfl (lv_at hl 1 rfl) ?_
  refine va_put (D := D) (ci := 1) (v := .int p0) (ty := tyX1 4) (fs := (xfReader ad V L Z)) (C := RX1) (T := TX1) (N := 9) hx hb hg inX1 tyX1 tyX1_ok nmX1 hown hK hP hD hS 1 xgReader rfl 4 (by decide) (hg _ w308) (fun _ h9 => h9) rfl (tyX1_ok 4 (by decide)) rfl rfl (Nat.le_of_ble_eq_true rfl) dX1_readE_2 (fun H locs hP hD hS => ?_)
  obtain ⟨V2, hV2⟩ : ∃ z, z = up2 V 1 4 p0 := ⟨_, rfl⟩
  have ew3 : (xw ad kk V L Z).set 1 ((ad 1), .inr (1, (xfReader ad V L Z).set 4 (.int p0))) = xw ad kk V2 L Z := by rw [hV2]; exact xw_ss (by decide) rfl (xb_si (by decide))
  have hP : va_P D vwCl (xw ad kk V2 L Z) H := by rw [← ew3]; exact hP
  have hD : va_D A (xw ad kk V2 L Z) := by rw [← ew3]; exact hD
  have hMV2 : rgd bX V2 := hMV.put hV2 (show 0 ≤ p0.toInt ∧ p0.toInt ≤ 2 from by omega)
  have agV2 : agr [(1, 3), (1, 4), (1, 6), (1, 8), (6, 8), (6, 9), (6, 10)] [42, 43, 44, 48] V V2 := agV.up hV2 rfl
  refine lv_aload_n hx hb dX1_readE_5 rfl (lv_at hl 0 rfl) ?_
  refine lv_iconst (v := 0) hx hb dX1_readE_6 (by decide) ?_
  have rl4 : RelC V2 L b gT gs := RelC.ag rel (show agr [(1, 4)] [] V V2 from (agr.up agr.rf hV2 rfl)) (by decide) (show agL [] L L from agL.rf) (by decide)
  have hr5 : ∀ k, Rc gT (Crun gs (Iexpr 0 :: Itake 59 :: k)) (Crun gs (Iexpr 0 :: Itake 59 :: k)) := fun k => Rc.rf
  have r6 : Int32.toInt 0 = 0 := by decide
  have pq7 : (V2 1 1).toInt = ((V 1 1)).toInt := congrArg Int32.toInt (up2_k hV2 (by decide))
  refine gA_int (gA_runV (As := [.int 0]) (rest := []) (ci := 1) (q0 := 1) hx hb hml hown hg hP hD hK hS hA hnw hgk (x_readExpression38 l D ks H.size ad kk V2 L Z 0 (b) (gT) (gs) (0) hMV2 (by decide) (show b < 2 from by omega) (show (V2 1 1).toInt = (b : Int) from by omega) rl4 (show (Int32.toInt 0) = (0 : Int) from by omega) ((congrArg Int32.toInt (up2_s hV2)).trans pw) (fun h9 => by rw [(up2_k hV2 (by decide))]; exact owp ((congrArg Int32.toInt (up2_s hV2)).symm.trans h9))) w951 w953 w21 w162 w954 rfl xgReader hdV_yX1_readExpression ⟨Nat.le_of_ble_eq_true rfl, Nat.le_of_ble_eq_true rfl⟩ rfl hl.1 rfl (Nat.le_of_ble_eq_true rfl) dX1_readE_7 ⟨Nat.le_of_ble_eq_true rfl, Nat.le_of_ble_eq_true rfl⟩) hP hD hK hS hA (fun z8 u9 H locs w10 hP hD hK hS => ?_)
  obtain ⟨V13, L14⟩ := u9
  obtain ⟨hMV13, ajV13, axL14, rgz8, t11, t12⟩ := w10
  have alL14 : agL [6, 44] L L14 := agL.tr alL axL14 (by decide)
  have hP : va_P D vwCl (xw ad kk V13 L14 Z) H := hP
  have hD : va_D A (xw ad kk V13 L14 Z) := hD
  have hMV13 : rgd bX V13 := hMV13
  have ajV13 : agr [(1, 3), (1, 6), (1, 8), (6, 8), (6, 9), (6, 10)] [42, 43, 44, 48] V2 V13 := ajV13
  have agV13 : agr [(1, 3), (1, 4), (1, 6), (1, 8), (6, 8), (6, 9), (6, 10)] [42, 43, 44, 48] V V13 := agV2.tr ajV13 (by decide) (by decide)
  have rgz8 : 0 ≤ z8.toInt ∧ z8.toInt ≤ 1 := rgz8
  have t11 : Rd gT gs (fun k => Iexpr 0 :: k) (fun k => k) z8.toInt (V13 1 3).toInt (fun s9 => RelC V13 L14 b gT s9 ∧ keepS gs 1 s9) := t11
  have t12 : ROWL b L L14 := t12
  rcases t11 with ⟨q15, sx16, h17, rl18, kp19⟩ | ⟨q15, h17⟩
  · skip
    have hr20 : ∀ k, Rc gT (Crun gs (Iexpr 0 :: Itake 59 :: k)) (Crun sx16 (Itake 59 :: k)) := fun k => (hr5 k).tr (h17 (Itake 59 :: k))
    refine lv_if_ne (tgt := 15) hx hb dX1_readE_10 (by decide) (fun c21 => ?_) (fun c21 => ?_)
    · skip
      have f22 : z8.toInt ≠ 0 := b_neq rfl (by decide) c21
      refine lv_aload_n hx hb dX1_readE_15 rfl (lv_at hl 0 rfl) ?_
      refine va_get (D := D) (ci := 1) (v := rfN ad 38 (V13 1 1)) (fs := (xfReader ad V13 L14 Z)) (C := RX1) (T := TX1) (N := 9) hx hb hg inX1 hown hK hP 1 xgReader rfl 1 (by decide) (hg _ w305) (fun _ h9 => h9) rfl dX1_readE_16 ?_
      have pq23 : (V13 1 1).toInt = ((V 1 1)).toInt := congrArg Int32.toInt ((ajV13 1 1 rfl).trans (up2_k hV2 (by decide)))
      refine g_topv (v := .ref (ad (38 + b))) (rfN_r (by omega)) ?_
      refine lv_iconst (v := 0) hx hb dX1_readE_19 (by decide) ?_
      refine gA_void (gA_runV (As := [.int 0]) (rest := []) (ci := 0) (q0 := (38 + b)) hx hb hml hown hg hP hD hK hS hA hnw hgk (x_emit l D ks H.size ad kk V13 L14 Z 0 (b) hMV13 (show b < 2 from by omega)) w971 w972 w973 w167 w974 rfl (xgBook hb2) hdV_yX0_emit ⟨Nat.le_of_ble_eq_true rfl, Nat.le_of_ble_eq_true rfl⟩ rfl hl.1 rfl (Nat.le_of_ble_eq_true rfl) dX1_readE_20 ⟨Nat.le_of_ble_eq_true rfl, Nat.le_of_ble_eq_true rfl⟩) hP hD hK hS hA (fun u25 H locs w26 hP hD hK hS => ?_)
      obtain ⟨V28, L29⟩ := u25
      obtain ⟨hMV28, ajV28, axL29, fyV28, t27⟩ := w26
      have axL29 : L14 = L29 := Eq.symm axL29
      subst axL29
      have hP : va_P D vwCl (xw ad kk V28 L14 Z) H := hP
      have hD : va_D A (xw ad kk V28 L14 Z) := hD
      have hMV28 : rgd bX V28 := hMV28
      have ajV28 : agr [] [42, 48] V13 V28 := ajV28
      have agV28 : agr [(1, 3), (1, 4), (1, 6), (1, 8), (6, 8), (6, 9), (6, 10)] [42, 43, 44, 48] V V28 := agV13.tr ajV28 (by decide) (by decide)
      have t27 : emX V13 V28 b 0 := t27
      refine lv_aload_n hx hb dX1_readE_23 rfl (lv_at hl 0 rfl) ?_
      refine lv_bipush (v := 59) hx hb dX1_readE_24 (by decide) ?_
      have rl30 : RelC V28 L14 b gT sx16 := RelC.ag rl18 (show agr [] [42, 48] V13 V28 from (agr.tr agr.rf ajV28 (by decide) (by decide))) (by decide) (show agL [] L14 L14 from agL.rf) (by decide)
      have r31 : Int32.toInt 59 = 59 := by decide
      refine gA_int (gA_runV (As := [.int 59]) (rest := []) (ci := 1) (q0 := 1) hx hb hml hown hg hP hD hK hS hA hnw hgk (x_take2 l D ks H.size ad kk V28 L14 Z 59 ((sx16.1 0)) hMV28 (rl30).1 (rl30).2.1.1 (show 1 ≤ (Int32.toInt 59) from by omega)) w893 w895 w10 w162 w896 rfl xgReader hdV_yX1_take ⟨Nat.le_of_ble_eq_true rfl, Nat.le_of_ble_eq_true rfl⟩ rfl hl.1 rfl (Nat.le_of_ble_eq_true rfl) dX1_readE_26 ⟨Nat.le_of_ble_eq_true rfl, Nat.le_of_ble_eq_true rfl⟩) hP hD hK hS hA (fun z32 u33 H locs w34 hP hD hK hS => ?_)
      obtain ⟨V37, L38⟩ := u33
      obtain ⟨hMV37, ajV37, axL38, rgz32, t35, t36⟩ := w34
      have alL38 : agL [6, 44] L L38 := agL.tr alL14 axL38 (by decide)
      have hP : va_P D vwCl (xw ad kk V37 L38 Z) H := hP
      have hD : va_D A (xw ad kk V37 L38 Z) := hD
      have hMV37 : rgd bX V37 := hMV37
      have ajV37 : agr [(1, 3), (6, 8), (6, 9), (6, 10)] [] V28 V37 := ajV37
      have agV37 : agr [(1, 3), (1, 4), (1, 6), (1, 8), (6, 8), (6, 9), (6, 10)] [42, 43, 44, 48] V V37 := agV28.tr ajV37 (by decide) (by decide)
      have rgz32 : 0 ≤ z32.toInt ∧ z32.toInt ≤ 1 := rgz32
      have t35 : Imp (z32.toInt = 0) (1 ≤ (V37 1 3).toInt) := t35
      have t36 : (z32.toInt = 1 ∧ (V28 12 (sx16.1 0)).toInt = (Int32.toInt 59) ∧ CUR V37 L38 ((sx16.1 0) + 1) ∧ V37 1 3 = V28 1 3) ∨ (z32.toInt = 0 ∧ (V28 12 (sx16.1 0)).toInt ≠ (Int32.toInt 59) ∧ (V37 1 3).toInt = 1 + 16 * (V28 13 (sx16.1 0)).toInt) := t36
      rcases t36 with ⟨q39, h40, k41, k42⟩ | ⟨q39, h40, k41⟩
      · skip
        have rl43 : RelC V37 L38 b gT (nx sx16 1) := RelC.nx1 rl30 ajV37 (by decide) axL38 (by decide) k41 k42
        have hr44 : ∀ k, Rc gT (Crun gs (Iexpr 0 :: Itake 59 :: k)) (Crun (nx sx16 1) (k)) := fun k => Rc.go1 (hr20 k) (tk_y (rl30.tok.1.trans (h40.trans (by decide))))
        have rw45 : ROWL b L L38 := (fun k hk => ((axL38 44 k rfl).trans ((t12 k hk).trans rfl)))
        exact W.zret (v := z32) hx hb hr (nb_ok (by omega)) (fun t ht hW => ⟨⟨z32, (V37, L38), rfl, ⟨hMV37, agV37, alL38, (show 0 ≤ z32.toInt ∧ z32.toInt ≤ 1 from by first | omega | ((try (have i_t35 := Imp.go t35 (by omega))); omega)), (Or.inl ⟨(by omega), (nx sx16 1), hr44, rl43, keepS.le (keepS.tr (keepS.tr (keepS.rf : keepS gs 0 gs) kp19) (keepS.n1 1)) (by decide)⟩), rw45⟩, by rw [ht]; exact hP, va_K.moved hW.alike hK, hD⟩, hS.F ht⟩) hS.2.2 dX1_readE_29
      · skip
        have hb46 : ∀ k, Rc gT (Crun gs (Iexpr 0 :: Itake 59 :: k)) (Cbad (V37 1 3).toInt) := fun k => Rc.go1 (hr20 k) ((tk_n (fun h9 => h40 (rl30.tok.1.symm.trans (h9.trans (by decide))))).trans (fl_eq rl30.tok.2.2 k41))
        have rw47 : ROWL b L L38 := (fun k hk => ((axL38 44 k rfl).trans ((t12 k hk).trans rfl)))
        exact W.zret (v := z32) hx hb hr (nb_ok (by omega)) (fun t ht hW => ⟨⟨z32, (V37, L38), rfl, ⟨hMV37, agV37, alL38, (show 0 ≤ z32.toInt ∧ z32.toInt ≤ 1 from by first | omega | ((try (have i_t35 := Imp.go t35 (by omega))); omega)), (Or.inr ⟨(by omega), hb46⟩), rw47⟩, by rw [ht]; exact hP, va_K.moved hW.alike hK, hD⟩, hS.F ht⟩) hS.2.2 dX1_readE_29
    · skip
      have f48 : z8.toInt = 0 := b_eq rfl (by decide) c21
      exfalso; omega
  · skip
    have hb49 : ∀ k, Rc gT (Crun gs (Iexpr 0 :: Itake 59 :: k)) (Cbad (V13 1 3).toInt) := fun k => (hr5 k).tr (h17 (Itake 59 :: k))
    refine lv_if_ne (tgt := 15) hx hb dX1_readE_10 (by decide) (fun c50 => ?_) (fun c50 => ?_)
    · skip
      have f51 : z8.toInt ≠ 0 := b_neq rfl (by decide) c50
      exfalso; omega
    · skip
      have f52 : z8.toInt = 0 := b_eq rfl (by decide) c50
      refine lv_iconst (v := 0) hx hb dX1_readE_13 (by decide) ?_
      have rw53 : ROWL b L L14 := (fun k hk => ((t12 k hk).trans rfl))
      exact W.zret (v := 0) hx hb hr rfl (fun t ht hW => ⟨⟨0, (V13, L14), rfl, ⟨hMV13, agV13, alL14, (by decide), (Or.inr ⟨rfl, hb49⟩), rw53⟩, by rw [ht]; exact hP, va_K.moved hW.alike hK, hD⟩, hS.F ht⟩) hS.2.2 dX1_readE_14
abbrev r_x_addNeed3 : Room := { frames := 0, cells := 0, slots := 0, locals := 0 }
abbrev q_x_addNeed3 (D : va_G) (ks : KS) (ad : Nat → Nat) (kk : Nat → ClassId) (V : Vf) (L : Lf) (Z : XZ) (p0 : Int32) (p1 : Int32) (p2 : Int32) (gi : Nat) (A : Nat → Prop) : Array Value → State → Outcome → State → Prop := va_Qv (fun (u : Vf × Lf) => rgd bX u.1 ∧ agr [] [49, 58, 59, 60] V u.1 ∧ u.2 = L ∧ frX (xI gi) V u.1 ∧ (Imp ((V 49 gi).toInt < 8) ((u.1 49 gi).toInt = (V 49 gi).toInt + 1)) ∧ (Imp ((V 49 gi).toInt < 8) (u.1 58 = upd (V 58) (8 * gi + Int32.toNatClampNeg (V 49 gi)) p1)) ∧ (Imp ((V 49 gi).toInt < 8) (u.1 59 = upd (V 59) (8 * gi + Int32.toNatClampNeg (V 49 gi)) p2)) ∧ (Imp ((V 49 gi).toInt < 8) (u.1 60 = upd (V 60) (8 * gi + Int32.toNatClampNeg (V 49 gi)) p0))) (fun u t => gq D A (xw ad kk u.1 u.2 Z) (xty kk Z) t) A
set_option maxHeartbeats 4000000 in
set_option maxRecDepth 100000 in
theorem x_addNeed3 (l : Launch) (D : va_G) (ks : KS) (sz : Nat) (ad : Nat → Nat) (kk : Nat → ClassId) (V : Vf) (L : Lf) (Z : XZ) (p0 : Int32) (p1 : Int32) (p2 : Int32) (gi : Nat) (hMV : rgd bX V) (hgi : gi < 48)  : Met l yX3_addNeed (Cond.code yX3_addNeed cX3_addNeed 4 none :: GW) r_x_addNeed3 (va_Pc [.ref (ad (72 + gi)), .int p0, .int p1, .int p2] (gp D ks (xw ad kk V L Z) (xty kk Z) sz)) (q_x_addNeed3 D ks ad kk V L Z p0 p1 p2 gi (va_A (xw ad kk V L Z) sz)) 0 0 (va_A (xw ad kk V L Z) sz) := by
  refine g_met (q_x_addNeed3 D ks ad kk V L Z p0 p1 p2 gi) (by decide) (Nat.le_of_ble_eq_true rfl) ?_
  intro p e s m below meth c A ls H locs hx hb hr hml hown hg hlocks hin hnw hgk hP hK hD hS hA hl
  have hown : s.vm.findClass RX3 = some m.cls := hown
  have hl : lv_has ls 4 [(0, .ref (ad (72 + gi))), (1, .int p0), (2, .int p1), (3, .int p2)] := hl
  have hP : va_P D vwCl (xw ad kk V L Z) H := hP
  have hD : va_D A (xw ad kk V L Z) := hD
  have hK : va_K D vwCl (xty kk Z) s := hK
  have agV : agr [] [49, 58, 59, 60] V V := agr.rf
  have fwV : frX (xI gi) V V := frX.rf
  refine lv_aload_n hx hb dX3_addNeed_0 rfl (lv_at hl 0 rfl) ?_
  refine va_get (D := D) (ci := 3) (v := .int (V 49 gi)) (fs := (xfComp ad V gi)) (C := RX3) (T := TX3) (N := 13) hx hb hg inX3 hown hK hP (72 + gi) (xgComp hgi) rfl 4 (by decide) (hg _ w510) (fun _ h9 => h9) rfl dX3_addNeed_1 ?_
  have r1 : 0 ≤ ((V 49 gi)).toInt ∧ ((V 49 gi)).toInt ≤ 8 := hMV 49 gi
  refine lv_bipush (v := 8) hx hb dX3_addNeed_4 (by decide) ?_
  refine lv_icmp_ge (tgt := 49) hx hb dX3_addNeed_6 (by decide) (fun c2 => ?_) (fun c2 => ?_)
  · skip
    have f3 : 8 ≤ ((V 49 gi)).toInt := b_le (by decide) rfl c2
    exact W.vret hx hb hr (fun t ht hW => ⟨⟨(V, L), rfl, ⟨hMV, agV, rfl, fwV, (Imp.mk (fun hp => have hp : (V 49 gi).toInt < 8 := hp; (show (V 49 gi).toInt = (V 49 gi).toInt + 1 from by omega))), (Imp.mk (fun hp => by exfalso; omega)), (Imp.mk (fun hp => by exfalso; omega)), (Imp.mk (fun hp => by exfalso; omega))⟩, by rw [ht]; exact hP, va_K.moved hW.alike hK, hD⟩, hS.F ht⟩) hS.2.2 dX3_addNeed_49
  · skip
    have f4 : ((V 49 gi)).toInt < 8 := b_nle (by decide) rfl c2
    refine lv_aload_n hx hb dX3_addNeed_9 rfl (lv_at hl 0 rfl) ?_
    refine va_get (D := D) (ci := 3) (v := .ref (ad (216 + gi))) (fs := (xfComp ad V gi)) (C := RX3) (T := TX3) (N := 13) hx hb hg inX3 hown hK hP (72 + gi) (xgComp hgi) rfl 2 (by decide) (hg _ w503) (fun _ h9 => h9) rfl dX3_addNeed_10 ?_
    refine lv_aload_n hx hb dX3_addNeed_13 rfl (lv_at hl 0 rfl) ?_
    refine va_get (D := D) (ci := 3) (v := .int (V 49 gi)) (fs := (xfComp ad V gi)) (C := RX3) (T := TX3) (N := 13) hx hb hg inX3 hown hK hP (72 + gi) (xgComp hgi) rfl 4 (by decide) (hg _ w510) (fun _ h9 => h9) rfl dX3_addNeed_14 ?_
    refine lv_iload_n hx hb dX3_addNeed_17 rfl (lv_at hl 1 rfl) ?_
    refine va_iast (D := D) (i := (V 49 gi)) (x := p0) hx hb hK hP hD hS (216 + gi) (209 + gi) (xgneedKinds hgi) (xtneedKinds hgi) (i_in (a := ((V 49 gi)).toInt) rfl (by omega)) dX3_addNeed_18 (fun H locs hP hD hS => ?_)
    have kc5 := i_clamp (x := (V 49 gi)) rfl (by omega)
    have kl6 : (Int32.toNatClampNeg (V 49 gi)) < 8 := by omega
    obtain ⟨V7, hV7⟩ : ∃ z, z = up2 V 60 (8 * gi + (Int32.toNatClampNeg (V 49 gi))) p0 := ⟨_, rfl⟩
    have ew8 : (xw ad kk V L Z).set (216 + gi) ((ad (216 + gi)), .inl ((kk (216 + gi)), 8, .inl (upd (fun q => if q < 8 then V 60 (8 * gi + q) else 0) (Int32.toNatClampNeg (V 49 gi)) p0))) = xw ad kk V7 L Z := by rw [hV7]; exact xpneedKinds hgi kl6
    have hP : va_P D vwCl (xw ad kk V7 L Z) H := by rw [← ew8]; exact hP
    have hD : va_D A (xw ad kk V7 L Z) := by rw [← ew8]; exact hD
    have hMV7 : rgd bX V7 := hMV.put hV7 (i_full _)
    have agV7 : agr [] [49, 58, 59, 60] V V7 := agV.up hV7 rfl
    have fwV7 : frX (xI gi) V V7 := frX.up fwV hV7 (Or.inr ⟨(by show 8 * gi ≤ (8 * gi + (Int32.toNatClampNeg (V 49 gi))); omega), (by show (8 * gi + (Int32.toNatClampNeg (V 49 gi))) < 8 * gi + 8; omega)⟩)
    refine lv_aload_n hx hb dX3_addNeed_19 rfl (lv_at hl 0 rfl) ?_
    refine va_get (D := D) (ci := 3) (v := .ref (ad (120 + gi))) (fs := (xfComp ad V7 gi)) (C := RX3) (T := TX3) (N := 13) hx hb hg inX3 hown hK hP (72 + gi) (xgComp hgi) rfl 0 (by decide) (hg _ w499) (fun _ h9 => h9) rfl dX3_addNeed_20 ?_
    refine lv_aload_n hx hb dX3_addNeed_23 rfl (lv_at hl 0 rfl) ?_
    refine va_get (D := D) (ci := 3) (v := .int (V7 49 gi)) (fs := (xfComp ad V7 gi)) (C := RX3) (T := TX3) (N := 13) hx hb hg inX3 hown hK hP (72 + gi) (xgComp hgi) rfl 4 (by decide) (hg _ w510) (fun _ h9 => h9) rfl dX3_addNeed_24 ?_
    refine g_top (v := (V 49 gi)) (up2_o hV7 (by decide)) ?_
    refine lv_iload_n hx hb dX3_addNeed_27 rfl (lv_at hl 2 rfl) ?_
    refine va_iast (D := D) (i := (V 49 gi)) (x := p1) hx hb hK hP hD hS (120 + gi) (113 + gi) (xgneedTypes hgi) (xtneedTypes hgi) (i_in (a := ((V 49 gi)).toInt) rfl (by omega)) dX3_addNeed_28 (fun H locs hP hD hS => ?_)
    have kl9 : (Int32.toNatClampNeg (V 49 gi)) < 8 := by omega
    obtain ⟨V10, hV10⟩ : ∃ z, z = up2 V7 58 (8 * gi + (Int32.toNatClampNeg (V 49 gi))) p1 := ⟨_, rfl⟩
    have ew11 : (xw ad kk V7 L Z).set (120 + gi) ((ad (120 + gi)), .inl ((kk (120 + gi)), 8, .inl (upd (fun q => if q < 8 then V7 58 (8 * gi + q) else 0) (Int32.toNatClampNeg (V 49 gi)) p1))) = xw ad kk V10 L Z := by rw [hV10]; exact xpneedTypes hgi kl9
    have hP : va_P D vwCl (xw ad kk V10 L Z) H := by rw [← ew11]; exact hP
    have hD : va_D A (xw ad kk V10 L Z) := by rw [← ew11]; exact hD
    have hMV10 : rgd bX V10 := hMV7.put hV10 (i_full _)
    have agV10 : agr [] [49, 58, 59, 60] V V10 := agV7.up hV10 rfl
    have fwV10 : frX (xI gi) V V10 := frX.up fwV7 hV10 (Or.inr ⟨(by show 8 * gi ≤ (8 * gi + (Int32.toNatClampNeg (V 49 gi))); omega), (by show (8 * gi + (Int32.toNatClampNeg (V 49 gi))) < 8 * gi + 8; omega)⟩)
    refine lv_aload_n hx hb dX3_addNeed_29 rfl (lv_at hl 0 rfl) ?_
    refine va_get (D := D) (ci := 3) (v := .ref (ad (168 + gi))) (fs := (xfComp ad V10 gi)) (C := RX3) (T := TX3) (N := 13) hx hb hg inX3 hown hK hP (72 + gi) (xgComp hgi) rfl 1 (by decide) (hg _ w501) (fun _ h9 => h9) rfl dX3_addNeed_30 ?_
    refine lv_aload_n hx hb dX3_addNeed_33 rfl (lv_at hl 0 rfl) ?_
    refine va_get (D := D) (ci := 3) (v := .int (V10 49 gi)) (fs := (xfComp ad V10 gi)) (C := RX3) (T := TX3) (N := 13) hx hb hg inX3 hown hK hP (72 + gi) (xgComp hgi) rfl 4 (by decide) (hg _ w510) (fun _ h9 => h9) rfl dX3_addNeed_34 ?_
    refine g_top (v := (V 49 gi)) ((up2_o hV10 (by decide)).trans (up2_o hV7 (by decide))) ?_
    refine lv_iload_n hx hb dX3_addNeed_37 rfl (lv_at hl 3 rfl) ?_
    refine va_iast (D := D) (i := (V 49 gi)) (x := p2) hx hb hK hP hD hS (168 + gi) (161 + gi) (xgneedWords hgi) (xtneedWords hgi) (i_in (a := ((V 49 gi)).toInt) rfl (by omega)) dX3_addNeed_38 (fun H locs hP hD hS => ?_)
    have kl12 : (Int32.toNatClampNeg (V 49 gi)) < 8 := by omega
    obtain ⟨V13, hV13⟩ : ∃ z, z = up2 V10 59 (8 * gi + (Int32.toNatClampNeg (V 49 gi))) p2 := ⟨_, rfl⟩
    have ew14 : (xw ad kk V10 L Z).set (168 + gi) ((ad (168 + gi)), .inl ((kk (168 + gi)), 8, .inl (upd (fun q => if q < 8 then V10 59 (8 * gi + q) else 0) (Int32.toNatClampNeg (V 49 gi)) p2))) = xw ad kk V13 L Z := by rw [hV13]; exact xpneedWords hgi kl12
    have hP : va_P D vwCl (xw ad kk V13 L Z) H := by rw [← ew14]; exact hP
    have hD : va_D A (xw ad kk V13 L Z) := by rw [← ew14]; exact hD
    have hMV13 : rgd bX V13 := hMV10.put hV13 (i_full _)
    have agV13 : agr [] [49, 58, 59, 60] V V13 := agV10.up hV13 rfl
    have fwV13 : frX (xI gi) V V13 := frX.up fwV10 hV13 (Or.inr ⟨(by show 8 * gi ≤ (8 * gi + (Int32.toNatClampNeg (V 49 gi))); omega), (by show (8 * gi + (Int32.toNatClampNeg (V 49 gi))) < 8 * gi + 8; omega)⟩)
    refine lv_aload_n hx hb dX3_addNeed_39 rfl (lv_at hl 0 rfl) ?_
    refine lv_dup hx hb dX3_addNeed_40 rfl ?_
    refine va_get (D := D) (ci := 3) (v := .int (V13 49 gi)) (fs := (xfComp ad V13 gi)) (C := RX3) (T := TX3) (N := 13) hx hb hg inX3 hown hK hP (72 + gi) (xgComp hgi) rfl 4 (by decide) (hg _ w510) (fun _ h9 => h9) rfl dX3_addNeed_41 ?_
    refine g_top (v := (V 49 gi)) ((up2_o hV13 (by decide)).trans ((up2_o hV10 (by decide)).trans (up2_o hV7 (by decide)))) ?_
    refine lv_iconst (v := 1) hx hb dX3_addNeed_44 (by decide) ?_
    refine lv_iadd hx hb dX3_addNeed_45 ?_
    refine lv_topi (fun z15 ez15 => ?_)
    have hz15 : z15.toInt = ((V 49 gi)).toInt + 1 := i_add ez15 rfl (by decide) (by omega)
    refine va_put (D := D) (ci := 3) (v := .int z15) (ty := tyX3 4) (fs := (xfComp ad V13 gi)) (C := RX3) (T := TX3) (N := 13) hx hb hg inX3 tyX3 tyX3_ok nmX3 hown hK hP hD hS (72 + gi) (xgComp hgi) rfl 4 (by decide) (hg _ w510) (fun _ h9 => h9) rfl (tyX3_ok 4 (by decide)) rfl rfl (Nat.le_of_ble_eq_true rfl) dX3_addNeed_46 (fun H locs hP hD hS => ?_)
    obtain ⟨V16, hV16⟩ : ∃ z, z = up2 V13 49 gi z15 := ⟨_, rfl⟩
    have ew17 : (xw ad kk V13 L Z).set (72 + gi) ((ad (72 + gi)), .inr (3, (xfComp ad V13 gi).set 4 (.int z15))) = xw ad kk V16 L Z := by rw [hV16]; exact xpComp_needs hgi
    have hP : va_P D vwCl (xw ad kk V16 L Z) H := by rw [← ew17]; exact hP
    have hD : va_D A (xw ad kk V16 L Z) := by rw [← ew17]; exact hD
    have hMV16 : rgd bX V16 := hMV13.put hV16 (show 0 ≤ z15.toInt ∧ z15.toInt ≤ 8 from by omega)
    have agV16 : agr [] [49, 58, 59, 60] V V16 := agV13.up hV16 rfl
    have fwV16 : frX (xI gi) V V16 := frX.up fwV13 hV16 (Or.inr ⟨(by show gi ≤ gi; omega), (by show gi < gi + 1; omega)⟩)
    have pq18 : (V16 49 gi).toInt = z15.toInt := congrArg Int32.toInt (up2_s hV16)
    have rp19 : Imp ((V 49 gi).toInt < 8) (V16 58 = upd (V 58) (8 * gi + Int32.toNatClampNeg (V 49 gi)) p1) := Imp.mk (fun _ => by rw [(by rw [(up2_fo hV16 (by decide) : V16 58 = V13 58), (up2_fo hV13 (by decide) : V13 58 = V10 58)] : V16 58 = V10 58), up2_fn hV10, (by rw [(up2_fo hV7 (by decide) : V7 58 = V 58)] : V7 58 = V 58)])
    have rp20 : Imp ((V 49 gi).toInt < 8) (V16 59 = upd (V 59) (8 * gi + Int32.toNatClampNeg (V 49 gi)) p2) := Imp.mk (fun _ => by rw [(by rw [(up2_fo hV16 (by decide) : V16 59 = V13 59)] : V16 59 = V13 59), up2_fn hV13, (by rw [(up2_fo hV10 (by decide) : V10 59 = V7 59), (up2_fo hV7 (by decide) : V7 59 = V 59)] : V10 59 = V 59)])
    have rp21 : Imp ((V 49 gi).toInt < 8) (V16 60 = upd (V 60) (8 * gi + Int32.toNatClampNeg (V 49 gi)) p0) := Imp.mk (fun _ => by rw [(by rw [(up2_fo hV16 (by decide) : V16 60 = V13 60), (up2_fo hV13 (by decide) : V13 60 = V10 60), (up2_fo hV10 (by decide) : V10 60 = V7 60)] : V16 60 = V7 60), up2_fn hV7, (rfl : V 60 = V 60)])
    exact W.vret hx hb hr (fun t ht hW => ⟨⟨(V16, L), rfl, ⟨hMV16, agV16, rfl, fwV16, (Imp.mk (fun hp => have hp : (V 49 gi).toInt < 8 := hp; (show (V16 49 gi).toInt = (V 49 gi).toInt + 1 from by omega))), rp19, rp20, rp21⟩, by rw [ht]; exact hP, va_K.moved hW.alike hK, hD⟩, hS.F ht⟩) hS.2.2 dX3_addNeed_49
abbrev r_x_readNeed3 : Room := { frames := 3, cells := 0, slots := 0, locals := 64 }
abbrev q_x_readNeed3 (D : va_G) (ks : KS) (ad : Nat → Nat) (kk : Nat → ClassId) (V : Vf) (L : Lf) (Z : XZ) (b : Nat) (gT : Tk) (gs : St) (go : Nat) (A : Nat → Prop) : Array Value → State → Outcome → State → Prop := va_Qi (fun (r : Int32) (u : Vf × Lf) => rgd bX u.1 ∧ agr [(1, 3), (1, 6), (6, 8), (6, 9), (6, 10)] [43, 44, 49, 58, 59, 60] V u.1 ∧ agL [6, 44] L u.2 ∧ (0 ≤ r.toInt ∧ r.toInt ≤ 1) ∧ (Rd gT gs (fun k => Imember :: k) (fun k => Imember :: k) r.toInt (u.1 1 3).toInt (fun s9 => RelC u.1 u.2 b gT s9 ∧ gs.1 0 + 1 ≤ s9.1 0 ∧ CNo u.1 b s9)) ∧ (ROWL b L u.2)) (fun u t => gq D A (xw ad kk u.1 u.2 Z) (xty kk Z) t) A
set_option maxHeartbeats 4000000 in
set_option maxRecDepth 100000 in
theorem x_readNeed3 (l : Launch) (D : va_G) (ks : KS) (sz : Nat) (ad : Nat → Nat) (kk : Nat → ClassId) (V : Vf) (L : Lf) (Z : XZ) (b : Nat) (gT : Tk) (gs : St) (go : Nat) (hMV : rgd bX V) (hb2 : b < 2) (rbk : (V 1 1).toInt = (b : Int)) (own : (V 1 2).toInt = (go : Int)) (hgo : go < 48) (hgl : 24 * b ≤ go) (hgh : go < 24 * b + 24) (rel : RelC V L b gT gs) (cno : CNo V b gs) (kd9 : (V 6 9).toInt = 137)  : Met l yX1_readNeed (Cond.code yX1_readNeed cX1_readNeed 4 (some .boolean) :: GW) r_x_readNeed3 (va_Pc [.ref (ad 1)] (gp D ks (xw ad kk V L Z) (xty kk Z) sz)) (q_x_readNeed3 D ks ad kk V L Z  b gT gs go (va_A (xw ad kk V L Z) sz)) 0 0 (va_A (xw ad kk V L Z) sz) := by
  refine g_met (q_x_readNeed3 D ks ad kk V L Z  b gT gs go) (by decide) (Nat.le_of_ble_eq_true rfl) ?_
  intro p e s m below meth c A ls H locs hx hb hr hml hown hg hlocks hin hnw hgk hP hK hD hS hA hl
  have hown : s.vm.findClass RX1 = some m.cls := hown
  have hl : lv_has ls 4 [(0, .ref (ad 1))] := hl
  have hP : va_P D vwCl (xw ad kk V L Z) H := hP
  have hD : va_D A (xw ad kk V L Z) := hD
  have hK : va_K D vwCl (xty kk Z) s := hK
  have agV : agr [(1, 3), (1, 6), (6, 8), (6, 9), (6, 10)] [43, 44, 49, 58, 59, 60] V V := agr.rf
  have alL : agL [6, 44] L L := agL.rf
  have r1 : (-1) ≤ ((V 1 1)).toInt ∧ ((V 1 1)).toInt ≤ 1 := hMV 1 1
  have r2 : (-1) ≤ ((V 1 2)).toInt ∧ ((V 1 2)).toInt ≤ 47 := hMV 1 2
  have ow0 := RelC.ow rel own
  have gol : go + 1 = 24 * b + (gs.2.1 2).length := by have h9 := cno.2 (by omega); omega
  refine lv_aload_n hx hb dX1_readNeed_0 rfl (lv_at hl 0 rfl) ?_
  refine va_get (D := D) (ci := 1) (v := rfN ad 72 (V 1 2)) (fs := (xfReader ad V L Z)) (C := RX1) (T := TX1) (N := 9) hx hb hg inX1 hown hK hP 1 xgReader rfl 2 (by decide) (hg _ w306) (fun _ h9 => h9) rfl dX1_readNeed_1 ?_
  refine g_topv (v := .ref (ad (72 + go))) (rfN_r (by omega)) ?_
  refine va_getN (D := D) (ci := 3) (v := .int (V 49 go)) (fs := (xfComp ad V go)) (C := RX3) (T := TX3) (N := 13) hx hb hg inX3 hown hK hP (72 + go) (xgComp hgo) rfl 4 (by decide) (hnw.use 513 n513 rfl) (fun _ h9 => h9) rfl dX1_readNeed_4 ?_
  have r3 : 0 ≤ ((V 49 go)).toInt ∧ ((V 49 go)).toInt ≤ 8 := hMV 49 go
  refine lv_bipush (v := 8) hx hb dX1_readNeed_7 (by decide) ?_
  refine lv_icmp_lt (tgt := 18) hx hb dX1_readNeed_9 (by decide) (fun c4 => ?_) (fun c4 => ?_)
  · skip
    have f5 : ((V 49 go)).toInt < 8 := b_lt rfl (by decide) c4
    refine lv_aload_n hx hb dX1_readNeed_18 rfl (lv_at hl 0 rfl) ?_
    refine va_get (D := D) (ci := 1) (v := .ref (ad 6)) (fs := (xfReader ad V L Z)) (C := RX1) (T := TX1) (N := 9) hx hb hg inX1 hown hK hP 1 xgReader rfl 0 (by decide) (hg _ w304) (fun _ h9 => h9) rfl dX1_readNeed_19 ?_
    have hr6 : ∀ k, Rc gT (Crun gs (Imember :: k)) (Crun gs (Imember :: k)) := fun k => Rc.rf
    have kd7 : gT.1 (gs.1 0) = ((V 6 9)).toInt := RelC.kd rel
    have hr8 : ∀ k, Rc gT (Crun gs (Imember :: k)) (Crun (nx gs 1) (IneedK :: k)) := fun k => Rc.go1 (hr6 k) (mb_137 (kd7.trans kd9) (by have h9 := ow0.1; omega))
    have l89 := RelC.l8 rel
    have r10 : 0 ≤ ((V 6 8)).toInt ∧ ((V 6 8)).toInt ≤ 4000 := hMV 6 8
    have r11 : 0 ≤ ((V 6 7)).toInt ∧ ((V 6 7)).toInt ≤ 4000 := hMV 6 7
    have lk12 := RelC.lk rel (show (V 6 9).toInt ≠ 0 from by omega)
    refine gA_void (gA_runV (As := []) (rest := []) (ci := 9) (q0 := 6) hx hb hml hown hg hP hD hK hS hA hnw hgk (x_next2 l D ks H.size ad kk V L Z  hMV (show (V 6 8).toInt ≤ (V 6 7).toInt from by omega)) w871 w852 w853 w157 w854 rfl xgTape hdV_yX9_next ⟨Nat.le_of_ble_eq_true rfl, Nat.le_of_ble_eq_true rfl⟩ rfl hl.1 rfl (Nat.le_of_ble_eq_true rfl) dX1_readNeed_22 ⟨Nat.le_of_ble_eq_true rfl, Nat.le_of_ble_eq_true rfl⟩) hP hD hK hS hA (fun u14 H locs w15 hP hD hK hS => ?_)
    obtain ⟨V18, L19⟩ := u14
    obtain ⟨hMV18, ajV18, axL19, t16, t17⟩ := w15
    have alL19 : agL [6, 44] L L19 := agL.tr alL axL19 (by decide)
    have hP : va_P D vwCl (xw ad kk V18 L19 Z) H := hP
    have hD : va_D A (xw ad kk V18 L19 Z) := hD
    have hMV18 : rgd bX V18 := hMV18
    have ajV18 : agr [(6, 8), (6, 9), (6, 10)] [] V V18 := ajV18
    have agV18 : agr [(1, 3), (1, 6), (6, 8), (6, 9), (6, 10)] [43, 44, 49, 58, 59, 60] V V18 := agV.tr ajV18 (by decide) (by decide)
    have t16 : (V18 6 8).toInt ≤ (V18 6 7).toInt := t16
    have t17 : CUR V18 L19 (Int32.toNatClampNeg (V 6 8)) := t17
    have r20 : 0 ≤ ((V18 6 8)).toInt ∧ ((V18 6 8)).toInt ≤ 4000 := hMV18 6 8
    have pq21 : (V18 6 7).toInt = ((V 6 7)).toInt := congrArg Int32.toInt (ajV18 6 7 rfl)
    have rl22 : RelC V18 L19 b gT (nx gs 1) := RelC.nx1 rel ajV18 (by decide) axL19 (by decide) (by rw [← lk12]; exact t17) (ajV18 1 3 rfl)
    refine lv_aload_n hx hb dX1_readNeed_25 rfl (lv_at hl 0 rfl) ?_
    refine va_get (D := D) (ci := 1) (v := .ref (ad 6)) (fs := (xfReader ad V18 L19 Z)) (C := RX1) (T := TX1) (N := 9) hx hb hg inX1 hown hK hP 1 xgReader rfl 0 (by decide) (hg _ w304) (fun _ h9 => h9) rfl dX1_readNeed_26 ?_
    refine va_getN (D := D) (ci := 9) (v := .int (V18 6 9)) (fs := (xfTape ad V18 L19 Z)) (C := RX9) (T := TX9) (N := 12) hx hb hg inX9 hown hK hP 6 xgTape rfl 9 (by decide) (hnw.use 262 n262 rfl) (fun _ h9 => h9) rfl dX1_readNeed_29 ?_
    refine lv_sipush (v := 138) hx hb dX1_readNeed_32 (by decide) ?_
    refine lv_icmp_ne (tgt := 42) hx hb dX1_readNeed_35 (by decide) (fun c23 => ?_) (fun c23 => ?_)
    · skip
      have f24 : ((V18 6 9)).toInt ≠ 138 := b_neq rfl (by decide) c23
      refine lv_aload_n hx hb dX1_readNeed_42 rfl (lv_at hl 0 rfl) ?_
      refine va_get (D := D) (ci := 1) (v := .ref (ad 6)) (fs := (xfReader ad V18 L19 Z)) (C := RX1) (T := TX1) (N := 9) hx hb hg inX1 hown hK hP 1 xgReader rfl 0 (by decide) (hg _ w304) (fun _ h9 => h9) rfl dX1_readNeed_43 ?_
      refine va_getN (D := D) (ci := 9) (v := .int (V18 6 9)) (fs := (xfTape ad V18 L19 Z)) (C := RX9) (T := TX9) (N := 12) hx hb hg inX9 hown hK hP 6 xgTape rfl 9 (by decide) (hnw.use 262 n262 rfl) (fun _ h9 => h9) rfl dX1_readNeed_46 ?_
      refine lv_sipush (v := 139) hx hb dX1_readNeed_49 (by decide) ?_
      refine lv_icmp_ne (tgt := 59) hx hb dX1_readNeed_52 (by decide) (fun c25 => ?_) (fun c25 => ?_)
      · skip
        have f26 : ((V18 6 9)).toInt ≠ 139 := b_neq rfl (by decide) c25
        refine lv_iconst (v := 0) hx hb dX1_readNeed_59 (by decide) ?_
        refine lv_istore_n (lv' := [(1, .int 0), (0, .ref (ad 1))]) hx hb dX1_readNeed_60 rfl hl (by decide) rfl (fun ls hl => ?_)
        refine lv_iload_n hx hb dX1_readNeed_61 rfl (lv_at hl 0 rfl) ?_
        refine lv_if_eq (tgt := 72) hx hb dX1_readNeed_62 (by decide) (fun _ => ?_) (fun q => absurd (by decide) q)
        refine lv_aload_n hx hb dX1_readNeed_72 rfl (lv_at hl 1 rfl) ?_
        have kd27 : gT.1 ((nx gs 1).1 0) = ((V18 6 9)).toInt := RelC.kd rl22
        have hr28 : ∀ k, Rc gT (Crun gs (Imember :: k)) (Crun (nx gs 1) (IneedT 0 :: k)) := fun k => Rc.go1 (hr8 k) (needK_n (fun h9 => f24 (kd27.symm.trans h9)) (fun h9 => f26 (kd27.symm.trans h9)))
        have pq29 : (V18 1 1).toInt = ((V 1 1)).toInt := congrArg Int32.toInt (ajV18 1 1 rfl)
        refine gA_int (gA_runV (As := []) (rest := []) (ci := 1) (q0 := 1) hx hb hml hown hg hP hD hK hS hA hnw hgk (x_isToldType3 l D ks H.size ad kk V18 L19 Z (b) (gT) ((nx gs 1)) hMV18 (show b < 2 from by omega) (show (V18 1 1).toInt = (b : Int) from by omega) rl22) w888 w890 w9 w162 w891 rfl xgReader hdV_yX1_isToldType ⟨Nat.le_of_ble_eq_true rfl, Nat.le_of_ble_eq_true rfl⟩ rfl hl.1 rfl (Nat.le_of_ble_eq_true rfl) dX1_readNeed_73 ⟨Nat.le_of_ble_eq_true rfl, Nat.le_of_ble_eq_true rfl⟩) hP hD hK hS hA (fun z30 u31 H locs w32 hP hD hK hS => ?_)
        obtain ⟨V34, L35⟩ := u31
        obtain ⟨hMV34, ajV34, axL35, rgz30, t33⟩ := w32
        have axL35 : L19 = L35 := Eq.symm axL35
        subst axL35
        have hP : va_P D vwCl (xw ad kk V34 L19 Z) H := hP
        have hD : va_D A (xw ad kk V34 L19 Z) := hD
        have hMV34 : rgd bX V34 := hMV34
        have ajV34 : agr [(1, 3), (1, 6)] [] V18 V34 := ajV34
        have agV34 : agr [(1, 3), (1, 6), (6, 8), (6, 9), (6, 10)] [43, 44, 49, 58, 59, 60] V V34 := agV18.tr ajV34 (by decide) (by decide)
        have rgz30 : 0 ≤ z30.toInt ∧ z30.toInt ≤ 1 := rgz30
        have t33 : KcN (look gT (nx gs 1) ((nx gs 1).2.1 0)) z30.toInt (V34 1 3).toInt (fun f9 => RelC V34 L19 b gT (nx gs 1) ∧ (V34 1 6).toInt = ((f9 : Nat) : Int) ∧ f9 < 24) := t33
        rcases t33 with ⟨q36, fx37, h38, rl39, hf40, hb41⟩ | ⟨q36, h38⟩
        · skip
          have kn42 := look_ne h38
          refine lv_if_ne (tgt := 81) hx hb dX1_readNeed_76 (by decide) (fun c43 => ?_) (fun c43 => ?_)
          · skip
            have f44 : z30.toInt ≠ 0 := b_neq rfl (by decide) c43
            refine lv_aload_n hx hb dX1_readNeed_81 rfl (lv_at hl 1 rfl) ?_
            refine va_get (D := D) (ci := 1) (v := .int (V34 1 6)) (fs := (xfReader ad V34 L19 Z)) (C := RX1) (T := TX1) (N := 9) hx hb hg inX1 hown hK hP 1 xgReader rfl 6 (by decide) (hg _ w310) (fun _ h9 => h9) rfl dX1_readNeed_82 ?_
            have r45 : (-1) ≤ ((V34 1 6)).toInt ∧ ((V34 1 6)).toInt ≤ 23 := hMV34 1 6
            refine lv_istore_n (lv' := [(2, .int (V34 1 6)), (1, .int 0), (0, .ref (ad 1))]) hx hb dX1_readNeed_85 rfl hl (by decide) rfl (fun ls hl => ?_)
            refine lv_iconst (v := (-1)) hx hb dX1_readNeed_86 (by decide) ?_
            refine lv_istore_n (lv' := [(3, .int (-1)), (2, .int (V34 1 6)), (1, .int 0), (0, .ref (ad 1))]) hx hb dX1_readNeed_87 rfl hl (by decide) rfl (fun ls hl => ?_)
            refine lv_aload_n hx hb dX1_readNeed_88 rfl (lv_at hl 3 rfl) ?_
            refine va_get (D := D) (ci := 1) (v := .ref (ad 6)) (fs := (xfReader ad V34 L19 Z)) (C := RX1) (T := TX1) (N := 9) hx hb hg inX1 hown hK hP 1 xgReader rfl 0 (by decide) (hg _ w304) (fun _ h9 => h9) rfl dX1_readNeed_89 ?_
            have hr46 : ∀ k, Rc gT (Crun gs (Imember :: k)) (Crun (nx (nx gs 1) 1) (Icalled 0 fx37 :: k)) := fun k => Rc.go1 (hr28 k) (nd_0 h38)
            have l847 := RelC.l8 rl39
            have pq48 : (V34 6 8).toInt = ((V18 6 8)).toInt := congrArg Int32.toInt (ajV34 6 8 rfl)
            have pq49 : (V34 6 7).toInt = ((V 6 7)).toInt := congrArg Int32.toInt ((ajV34 6 7 rfl).trans (ajV18 6 7 rfl))
            have pq50 : (V34 6 9).toInt = ((V18 6 9)).toInt := congrArg Int32.toInt (ajV34 6 9 rfl)
            have lk51 := RelC.lk rl39 (show (V34 6 9).toInt ≠ 0 from by omega)
            refine gA_void (gA_runV (As := []) (rest := []) (ci := 9) (q0 := 6) hx hb hml hown hg hP hD hK hS hA hnw hgk (x_next2 l D ks H.size ad kk V34 L19 Z  hMV34 (show (V34 6 8).toInt ≤ (V34 6 7).toInt from by omega)) w871 w852 w853 w157 w854 rfl xgTape hdV_yX9_next ⟨Nat.le_of_ble_eq_true rfl, Nat.le_of_ble_eq_true rfl⟩ rfl hl.1 rfl (Nat.le_of_ble_eq_true rfl) dX1_readNeed_92 ⟨Nat.le_of_ble_eq_true rfl, Nat.le_of_ble_eq_true rfl⟩) hP hD hK hS hA (fun u53 H locs w54 hP hD hK hS => ?_)
            obtain ⟨V57, L58⟩ := u53
            obtain ⟨hMV57, ajV57, axL58, t55, t56⟩ := w54
            have alL58 : agL [6, 44] L L58 := agL.tr alL19 axL58 (by decide)
            have hP : va_P D vwCl (xw ad kk V57 L58 Z) H := hP
            have hD : va_D A (xw ad kk V57 L58 Z) := hD
            have hMV57 : rgd bX V57 := hMV57
            have ajV57 : agr [(6, 8), (6, 9), (6, 10)] [] V34 V57 := ajV57
            have agV57 : agr [(1, 3), (1, 6), (6, 8), (6, 9), (6, 10)] [43, 44, 49, 58, 59, 60] V V57 := agV34.tr ajV57 (by decide) (by decide)
            have t55 : (V57 6 8).toInt ≤ (V57 6 7).toInt := t55
            have t56 : CUR V57 L58 (Int32.toNatClampNeg (V34 6 8)) := t56
            have r59 : 0 ≤ ((V57 6 8)).toInt ∧ ((V57 6 8)).toInt ≤ 4000 := hMV57 6 8
            have pq60 : (V57 6 7).toInt = ((V 6 7)).toInt := congrArg Int32.toInt ((ajV57 6 7 rfl).trans ((ajV34 6 7 rfl).trans (ajV18 6 7 rfl)))
            have rl61 : RelC V57 L58 b gT (nx (nx gs 1) 1) := RelC.nx1 rl39 ajV57 (by decide) axL58 (by decide) (by rw [← lk51]; exact t56) (ajV57 1 3 rfl)
            refine lv_iload_n hx hb dX1_readNeed_95 rfl (lv_at hl 2 rfl) ?_
            refine lv_iconst (v := 2) hx hb dX1_readNeed_96 (by decide) ?_
            refine lv_icmp_eq (tgt := 127) hx hb dX1_readNeed_97 (by decide) (fun q => absurd q (by decide)) (fun _ => ?_)
            refine lv_aload_n hx hb dX1_readNeed_100 rfl (lv_at hl 3 rfl) ?_
            refine va_get (D := D) (ci := 1) (v := .ref (ad 6)) (fs := (xfReader ad V57 L58 Z)) (C := RX1) (T := TX1) (N := 9) hx hb hg inX1 hown hK hP 1 xgReader rfl 0 (by decide) (hg _ w304) (fun _ h9 => h9) rfl dX1_readNeed_101 ?_
            refine va_getN (D := D) (ci := 9) (v := .int (V57 6 9)) (fs := (xfTape ad V57 L58 Z)) (C := RX9) (T := TX9) (N := 12) hx hb hg inX9 hown hK hP 6 xgTape rfl 9 (by decide) (hnw.use 262 n262 rfl) (fun _ h9 => h9) rfl dX1_readNeed_104 ?_
            refine lv_sipush (v := 133) hx hb dX1_readNeed_107 (by decide) ?_
            refine lv_icmp_ne (tgt := 127) hx hb dX1_readNeed_110 (by decide) (fun c62 => ?_) (fun c62 => ?_)
            · skip
              have f63 : ((V57 6 9)).toInt ≠ 133 := b_neq rfl (by decide) c62
              refine lv_aload_n hx hb dX1_readNeed_127 rfl (lv_at hl 3 rfl) ?_
              refine lv_bipush (v := 59) hx hb dX1_readNeed_128 (by decide) ?_
              have kd64 : gT.1 ((nx (nx gs 1) 1).1 0) = ((V57 6 9)).toInt := RelC.kd rl61
              have hr65 : ∀ k, Rc gT (Crun gs (Imember :: k)) (Crun (nx (nx gs 1) 1) (Itake 59 :: IaddNeed 0 fx37 0 :: Imember :: k)) := fun k => Rc.go1 (hr46 k) (called_n 0 fx37 (fun h9 => f63 (kd64.symm.trans h9)))
              have r66 : Int32.toInt 59 = 59 := by decide
              refine gA_int (gA_runV (As := [.int 59]) (rest := []) (ci := 1) (q0 := 1) hx hb hml hown hg hP hD hK hS hA hnw hgk (x_take2 l D ks H.size ad kk V57 L58 Z 59 (((nx (nx gs 1) 1).1 0)) hMV57 (rl61).1 (rl61).2.1.1 (show 1 ≤ (Int32.toInt 59) from by omega)) w893 w895 w10 w162 w896 rfl xgReader hdV_yX1_take ⟨Nat.le_of_ble_eq_true rfl, Nat.le_of_ble_eq_true rfl⟩ rfl hl.1 rfl (Nat.le_of_ble_eq_true rfl) dX1_readNeed_130 ⟨Nat.le_of_ble_eq_true rfl, Nat.le_of_ble_eq_true rfl⟩) hP hD hK hS hA (fun z67 u68 H locs w69 hP hD hK hS => ?_)
              obtain ⟨V72, L73⟩ := u68
              obtain ⟨hMV72, ajV72, axL73, rgz67, t70, t71⟩ := w69
              have alL73 : agL [6, 44] L L73 := agL.tr alL58 axL73 (by decide)
              have hP : va_P D vwCl (xw ad kk V72 L73 Z) H := hP
              have hD : va_D A (xw ad kk V72 L73 Z) := hD
              have hMV72 : rgd bX V72 := hMV72
              have ajV72 : agr [(1, 3), (6, 8), (6, 9), (6, 10)] [] V57 V72 := ajV72
              have agV72 : agr [(1, 3), (1, 6), (6, 8), (6, 9), (6, 10)] [43, 44, 49, 58, 59, 60] V V72 := agV57.tr ajV72 (by decide) (by decide)
              have rgz67 : 0 ≤ z67.toInt ∧ z67.toInt ≤ 1 := rgz67
              have t70 : Imp (z67.toInt = 0) (1 ≤ (V72 1 3).toInt) := t70
              have t71 : (z67.toInt = 1 ∧ (V57 12 ((nx (nx gs 1) 1).1 0)).toInt = (Int32.toInt 59) ∧ CUR V72 L73 (((nx (nx gs 1) 1).1 0) + 1) ∧ V72 1 3 = V57 1 3) ∨ (z67.toInt = 0 ∧ (V57 12 ((nx (nx gs 1) 1).1 0)).toInt ≠ (Int32.toInt 59) ∧ (V72 1 3).toInt = 1 + 16 * (V57 13 ((nx (nx gs 1) 1).1 0)).toInt) := t71
              rcases t71 with ⟨q74, h75, k76, k77⟩ | ⟨q74, h75, k76⟩
              · skip
                have rl78 : RelC V72 L73 b gT (nx (nx (nx gs 1) 1) 1) := RelC.nx1 rl61 ajV72 (by decide) axL73 (by decide) k76 k77
                have hr79 : ∀ k, Rc gT (Crun gs (Imember :: k)) (Crun (nx (nx (nx gs 1) 1) 1) (IaddNeed 0 fx37 0 :: Imember :: k)) := fun k => Rc.go1 (hr65 k) (tk_y (rl61.tok.1.trans (h75.trans (by decide))))
                refine lv_if_ne (tgt := 138) hx hb dX1_readNeed_133 (by decide) (fun c80 => ?_) (fun c80 => ?_)
                · skip
                  have f81 : z67.toInt ≠ 0 := b_neq rfl (by decide) c80
                  refine lv_aload_n hx hb dX1_readNeed_138 rfl (lv_at hl 3 rfl) ?_
                  refine va_get (D := D) (ci := 1) (v := rfN ad 72 (V72 1 2)) (fs := (xfReader ad V72 L73 Z)) (C := RX1) (T := TX1) (N := 9) hx hb hg inX1 hown hK hP 1 xgReader rfl 2 (by decide) (hg _ w306) (fun _ h9 => h9) rfl dX1_readNeed_139 ?_
                  have pq82 : (V72 1 2).toInt = ((V 1 2)).toInt := congrArg Int32.toInt ((ajV72 1 2 rfl).trans ((ajV57 1 2 rfl).trans ((ajV34 1 2 rfl).trans (ajV18 1 2 rfl))))
                  refine g_topv (v := .ref (ad (72 + go))) (rfN_r (by first | omega | ((try (have i_t70 := Imp.go t70 (by omega))); omega))) ?_
                  refine lv_iload_n hx hb dX1_readNeed_142 rfl (lv_at hl 2 rfl) ?_
                  refine lv_iload_n hx hb dX1_readNeed_143 rfl (lv_at hl 1 rfl) ?_
                  refine lv_iload_n hx hb dX1_readNeed_144 rfl (lv_at hl 0 rfl) ?_
                  have r83 : Int32.toInt 0 = 0 := by decide
                  have r84 : Int32.toInt (-1) = (-1) := by decide
                  refine gA_void (gA_runV (As := [.int 0, .int (V34 1 6), .int (-1)]) (rest := []) (ci := 3) (q0 := (72 + go)) hx hb hml hown hg hP hD hK hS hA hnw hgk (x_addNeed3 l D ks H.size ad kk V72 L73 Z 0 (V34 1 6) (-1) (go) hMV72 (show go < 48 from by first | omega | ((try (have i_t70 := Imp.go t70 (by omega))); omega))) w1011 w1012 w1013 w169 w1014 rfl (xgComp hgo) hdV_yX3_addNeed ⟨Nat.le_of_ble_eq_true rfl, Nat.le_of_ble_eq_true rfl⟩ rfl hl.1 rfl (Nat.le_of_ble_eq_true rfl) dX1_readNeed_145 ⟨Nat.le_of_ble_eq_true rfl, Nat.le_of_ble_eq_true rfl⟩) hP hD hK hS hA (fun u86 H locs w87 hP hD hK hS => ?_)
                  obtain ⟨V92, L93⟩ := u86
                  obtain ⟨hMV92, ajV92, axL93, fyV92, t88, t89, t90, t91⟩ := w87
                  have axL93 : L73 = L93 := Eq.symm axL93
                  subst axL93
                  have hP : va_P D vwCl (xw ad kk V92 L73 Z) H := hP
                  have hD : va_D A (xw ad kk V92 L73 Z) := hD
                  have hMV92 : rgd bX V92 := hMV92
                  have ajV92 : agr [] [49, 58, 59, 60] V72 V92 := ajV92
                  have agV92 : agr [(1, 3), (1, 6), (6, 8), (6, 9), (6, 10)] [43, 44, 49, 58, 59, 60] V V92 := agV72.tr ajV92 (by decide) (by decide)
                  have t88 : Imp ((V72 49 go).toInt < 8) ((V92 49 go).toInt = (V72 49 go).toInt + 1) := t88
                  have t89 : Imp ((V72 49 go).toInt < 8) (V92 58 = upd (V72 58) (8 * go + Int32.toNatClampNeg (V72 49 go)) (V34 1 6)) := t89
                  have t90 : Imp ((V72 49 go).toInt < 8) (V92 59 = upd (V72 59) (8 * go + Int32.toNatClampNeg (V72 49 go)) (-1)) := t90
                  have t91 : Imp ((V72 49 go).toInt < 8) (V92 60 = upd (V72 60) (8 * go + Int32.toNatClampNeg (V72 49 go)) 0) := t91
                  have pq94 : (V72 49 go).toInt = ((V 49 go)).toInt := congrArg Int32.toInt ((ajV72 49 go rfl).trans ((ajV57 49 go rfl).trans ((ajV34 49 go rfl).trans (ajV18 49 go rfl))))
                  have ng97 : (V72 49 go).toInt < 8 := by omega
                  have rl95 : RelC V92 L73 b gT (sN (nx (nx (nx gs 1) 1) 1) 1 ((nx (nx (nx gs 1) 1) 1).1 1 + 1)) := RelC.nd rl78 (show (V72 1 2).toInt = ((go : Nat) : Int) from by omega) ajV92 (by decide) (Imp.go t88 (by omega))
                  have rl96 : RelC V92 L73 b gT (ndS (nx (nx (nx gs 1) 1) 1) 0 fx37 0) := RelC.nu rl95 ndS_5 rfl
                  have cn98 : CNc V72 b gs := CNc.ag cno.1 (show agr [(1, 3), (1, 6), (6, 8), (6, 9), (6, 10)] [] V V72 from (agr.tr (agr.tr (agr.tr (agr.tr agr.rf ajV18 (by decide) (by decide)) ajV34 (by decide) (by decide)) ajV57 (by decide) (by decide)) ajV72 (by decide) (by decide))) (by decide) keepC.rf
                  have cn99 : CNc V72 b (nx (nx (nx gs 1) 1) 1) := CNc.mv cn98 (fun _ _ _ => rfl) (keepC.tr (keepC.tr (keepC.tr (keepC.rf : keepC gs gs) (keepS.c (keepS.n1 1))) (keepS.c (keepS.n1 1))) (keepS.c (keepS.n1 1)))
                  have ow100 := (RelC.ow rl78 (show (V72 1 2).toInt = ((go : Nat) : Int) from by omega)).1
                  have pn9 : 8 * go + Int32.toNatClampNeg (V72 49 go) = 8 * go + (nx (nx (nx gs 1) 1) 1).1 1 := by have h9 := i_clamp (x := V72 49 go) rfl (by omega); omega
                  have cn101 : CNc V92 b (ndS (nx (nx (nx gs 1) 1) 1) 0 fx37 0) := CNc.nd2 cn99 (by rw [((keepC.tr (keepC.tr (keepC.tr (keepC.rf : keepC gs gs) (keepS.c (keepS.n1 1))) (keepS.c (keepS.n1 1))) (keepS.c (keepS.n1 1)))).2 2 (by decide)]; exact gol) hgl ow100 (by omega) ajV92 (by decide) (fun k hk => fyV92 49 k ⟨by decide, by decide⟩ (show k < go ∨ go + 1 ≤ k from by omega)) (Imp.go t88 ng97) (Imp.go t89 ng97) (Imp.go t90 ng97) (Imp.go t91 ng97) pn9 (show ((V34 1 6)).toInt = ((fx37 : Nat) : Int) from by omega) (show Int32.toInt 0 = (((0 : Int).toNat : Nat) : Int) from by decide) (show Int32.toInt (-1) + 1 = ((0 : Nat) : Int) from by omega) hb41
                  have hr102 : ∀ k, Rc gT (Crun gs (Imember :: k)) (Crun (ndS (nx (nx (nx gs 1) 1) 1) 0 fx37 0) (Imember :: k)) := fun k => Rc.go1 (hr79 k) (m_addNeed 0 fx37 0)
                  refine lv_iconst (v := 1) hx hb dX1_readNeed_148 (by decide) ?_
                  have pq103 : (V92 1 2).toInt = ((V 1 2)).toInt := congrArg Int32.toInt ((ajV92 1 2 rfl).trans ((ajV72 1 2 rfl).trans ((ajV57 1 2 rfl).trans ((ajV34 1 2 rfl).trans (ajV18 1 2 rfl)))))
                  have ps104 : gs.1 0 + 1 ≤ (nx gs 1).1 0 := ((keepS.n1 1)).1
                  have ps105 : (nx gs 1).1 0 + 1 ≤ (nx (nx gs 1) 1).1 0 := ((keepS.n1 1)).1
                  have ps106 : (nx (nx gs 1) 1).1 0 + 1 ≤ (nx (nx (nx gs 1) 1) 1).1 0 := ((keepS.n1 1)).1
                  have ps107 : (ndS (nx (nx (nx gs 1) 1) 1) 0 fx37 0).1 0 = (nx (nx (nx gs 1) 1) 1).1 0 := ndS_5 0 (by decide)
                  have rw108 : ROWL b L L73 := (fun k hk => ((axL73 44 k rfl).trans ((axL58 44 k rfl).trans ((axL19 44 k rfl).trans rfl))))
                  exact W.zret (v := 1) hx hb hr rfl (fun t ht hW => ⟨⟨1, (V92, L73), rfl, ⟨hMV92, agV92, alL73, (by decide), (Or.inl ⟨rfl, (ndS (nx (nx (nx gs 1) 1) 1) 0 fx37 0), hr102, rl96, (by omega), ⟨cn101, (show OWl V92 b (nx (nx (nx gs 1) 1) 1) from OWl.mv cno.2 (show V92 1 2 = V 1 2 from ((ajV92 1 2 rfl).trans ((ajV72 1 2 rfl).trans ((ajV57 1 2 rfl).trans ((ajV34 1 2 rfl).trans (ajV18 1 2 rfl)))))) (keepC.tr (keepC.tr (keepC.tr (keepC.rf : keepC gs gs) (keepS.c (keepS.n1 1))) (keepS.c (keepS.n1 1))) (keepS.c (keepS.n1 1))))⟩⟩), rw108⟩, by rw [ht]; exact hP, va_K.moved hW.alike hK, hD⟩, hS.F ht⟩) hS.2.2 dX1_readNeed_149
                · skip
                  have f109 : z67.toInt = 0 := b_eq rfl (by decide) c80
                  exfalso; first | omega | ((try (have i_t70 := Imp.go t70 (by omega))); omega)
              · skip
                have hb110 : ∀ k, Rc gT (Crun gs (Imember :: k)) (Cbad (V72 1 3).toInt) := fun k => Rc.go1 (hr65 k) ((tk_n (fun h9 => h75 (rl61.tok.1.symm.trans (h9.trans (by decide))))).trans (fl_eq rl61.tok.2.2 k76))
                refine lv_if_ne (tgt := 138) hx hb dX1_readNeed_133 (by decide) (fun c111 => ?_) (fun c111 => ?_)
                · skip
                  have f112 : z67.toInt ≠ 0 := b_neq rfl (by decide) c111
                  exfalso; first | omega | ((try (have i_t70 := Imp.go t70 (by omega))); omega)
                · skip
                  have f113 : z67.toInt = 0 := b_eq rfl (by decide) c111
                  refine lv_iconst (v := 0) hx hb dX1_readNeed_136 (by decide) ?_
                  have rw114 : ROWL b L L73 := (fun k hk => ((axL73 44 k rfl).trans ((axL58 44 k rfl).trans ((axL19 44 k rfl).trans rfl))))
                  exact W.zret (v := 0) hx hb hr rfl (fun t ht hW => ⟨⟨0, (V72, L73), rfl, ⟨hMV72, agV72, alL73, (by decide), (Or.inr ⟨rfl, hb110⟩), rw114⟩, by rw [ht]; exact hP, va_K.moved hW.alike hK, hD⟩, hS.F ht⟩) hS.2.2 dX1_readNeed_137
            · skip
              have f115 : ((V57 6 9)).toInt = 133 := b_eq rfl (by decide) c62
              refine lv_aload_n hx hb dX1_readNeed_113 rfl (lv_at hl 3 rfl) ?_
              have kd116 : gT.1 ((nx (nx gs 1) 1).1 0) = ((V57 6 9)).toInt := RelC.kd rl61
              have hr117 : ∀ k, Rc gT (Crun gs (Imember :: k)) (Crun (nx (nx (nx gs 1) 1) 1) (Iword 0 fx37 :: k)) := fun k => Rc.go1 (hr46 k) (called_y 0 fx37 (kd116.trans f115))
              have pq118 : (V57 1 1).toInt = ((V 1 1)).toInt := congrArg Int32.toInt ((ajV57 1 1 rfl).trans ((ajV34 1 1 rfl).trans (ajV18 1 1 rfl)))
              refine gA_int (gA_runV (As := []) (rest := []) (ci := 1) (q0 := 1) hx hb hml hown hg hP hD hK hS hA hnw hgk (x_takeCalled3 l D ks H.size ad kk V57 L58 Z (b) (gT) ((nx (nx gs 1) 1)) hMV57 (show b < 2 from by omega) (show (V57 1 1).toInt = (b : Int) from by omega) rl61 (show (V57 6 9).toInt = 133 from by omega)) w923 w925 w15 w162 w926 rfl xgReader hdV_yX1_takeCalled ⟨Nat.le_of_ble_eq_true rfl, Nat.le_of_ble_eq_true rfl⟩ rfl hl.1 rfl (Nat.le_of_ble_eq_true rfl) dX1_readNeed_114 ⟨Nat.le_of_ble_eq_true rfl, Nat.le_of_ble_eq_true rfl⟩) hP hD hK hS hA (fun z119 u120 H locs w121 hP hD hK hS => ?_)
              obtain ⟨V124, L125⟩ := u120
              obtain ⟨hMV124, ajV124, axL125, rgz119, t122, t123⟩ := w121
              have alL125 : agL [6, 44] L L125 := agL.tr alL58 axL125 (by decide)
              have hP : va_P D vwCl (xw ad kk V124 L125 Z) H := hP
              have hD : va_D A (xw ad kk V124 L125 Z) := hD
              have hMV124 : rgd bX V124 := hMV124
              have ajV124 : agr [(1, 3), (1, 6), (6, 8), (6, 9), (6, 10)] [43, 44] V57 V124 := ajV124
              have agV124 : agr [(1, 3), (1, 6), (6, 8), (6, 9), (6, 10)] [43, 44, 49, 58, 59, 60] V V124 := agV57.tr ajV124 (by decide) (by decide)
              have rgz119 : 0 ≤ z119.toInt ∧ z119.toInt ≤ 1 := rgz119
              have t122 : KcS (mthW gT (nx (nx (nx gs 1) 1) 1) 4) z119.toInt (V124 1 3).toInt (fun x9 => RelC V124 L125 b gT x9.2 ∧ (V124 1 6).toInt = ((x9.1 : Nat) : Int) ∧ x9.1 < 20 ∧ keepS (nx (nx gs 1) 1) 2 x9.2) := t122
              have t123 : ROWL b L58 L125 := t123
              rcases t122 with ⟨q126, mx127, h128, rl129, hf130, hb131, kp132⟩ | ⟨q126, h128⟩
              · skip
                have hr133 : ∀ k, Rc gT (Crun gs (Imember :: k)) (Crun mx127.2 (Itake 59 :: IaddNeed 0 fx37 (mx127.1 + 1) :: Imember :: k)) := fun k => Rc.go1 (hr117 k) (wo_y h128)
                refine lv_if_ne (tgt := 122) hx hb dX1_readNeed_117 (by decide) (fun c134 => ?_) (fun c134 => ?_)
                · skip
                  have f135 : z119.toInt ≠ 0 := b_neq rfl (by decide) c134
                  refine lv_aload_n hx hb dX1_readNeed_122 rfl (lv_at hl 3 rfl) ?_
                  refine va_get (D := D) (ci := 1) (v := .int (V124 1 6)) (fs := (xfReader ad V124 L125 Z)) (C := RX1) (T := TX1) (N := 9) hx hb hg inX1 hown hK hP 1 xgReader rfl 6 (by decide) (hg _ w310) (fun _ h9 => h9) rfl dX1_readNeed_123 ?_
                  have r136 : (-1) ≤ ((V124 1 6)).toInt ∧ ((V124 1 6)).toInt ≤ 23 := hMV124 1 6
                  refine lv_istore_n (lv' := [(3, .int (V124 1 6)), (2, .int (V34 1 6)), (1, .int 0), (0, .ref (ad 1))]) hx hb dX1_readNeed_126 rfl hl (by decide) rfl (fun ls hl => ?_)
                  refine lv_aload_n hx hb dX1_readNeed_127 rfl (lv_at hl 3 rfl) ?_
                  refine lv_bipush (v := 59) hx hb dX1_readNeed_128 (by decide) ?_
                  have r137 : Int32.toInt 59 = 59 := by decide
                  refine gA_int (gA_runV (As := [.int 59]) (rest := []) (ci := 1) (q0 := 1) hx hb hml hown hg hP hD hK hS hA hnw hgk (x_take2 l D ks H.size ad kk V124 L125 Z 59 ((mx127.2.1 0)) hMV124 (rl129).1 (rl129).2.1.1 (show 1 ≤ (Int32.toInt 59) from by omega)) w893 w895 w10 w162 w896 rfl xgReader hdV_yX1_take ⟨Nat.le_of_ble_eq_true rfl, Nat.le_of_ble_eq_true rfl⟩ rfl hl.1 rfl (Nat.le_of_ble_eq_true rfl) dX1_readNeed_130 ⟨Nat.le_of_ble_eq_true rfl, Nat.le_of_ble_eq_true rfl⟩) hP hD hK hS hA (fun z138 u139 H locs w140 hP hD hK hS => ?_)
                  obtain ⟨V143, L144⟩ := u139
                  obtain ⟨hMV143, ajV143, axL144, rgz138, t141, t142⟩ := w140
                  have alL144 : agL [6, 44] L L144 := agL.tr alL125 axL144 (by decide)
                  have hP : va_P D vwCl (xw ad kk V143 L144 Z) H := hP
                  have hD : va_D A (xw ad kk V143 L144 Z) := hD
                  have hMV143 : rgd bX V143 := hMV143
                  have ajV143 : agr [(1, 3), (6, 8), (6, 9), (6, 10)] [] V124 V143 := ajV143
                  have agV143 : agr [(1, 3), (1, 6), (6, 8), (6, 9), (6, 10)] [43, 44, 49, 58, 59, 60] V V143 := agV124.tr ajV143 (by decide) (by decide)
                  have rgz138 : 0 ≤ z138.toInt ∧ z138.toInt ≤ 1 := rgz138
                  have t141 : Imp (z138.toInt = 0) (1 ≤ (V143 1 3).toInt) := t141
                  have t142 : (z138.toInt = 1 ∧ (V124 12 (mx127.2.1 0)).toInt = (Int32.toInt 59) ∧ CUR V143 L144 ((mx127.2.1 0) + 1) ∧ V143 1 3 = V124 1 3) ∨ (z138.toInt = 0 ∧ (V124 12 (mx127.2.1 0)).toInt ≠ (Int32.toInt 59) ∧ (V143 1 3).toInt = 1 + 16 * (V124 13 (mx127.2.1 0)).toInt) := t142
                  rcases t142 with ⟨q145, h146, k147, k148⟩ | ⟨q145, h146, k147⟩
                  · skip
                    have rl149 : RelC V143 L144 b gT (nx mx127.2 1) := RelC.nx1 rl129 ajV143 (by decide) axL144 (by decide) k147 k148
                    have hr150 : ∀ k, Rc gT (Crun gs (Imember :: k)) (Crun (nx mx127.2 1) (IaddNeed 0 fx37 (mx127.1 + 1) :: Imember :: k)) := fun k => Rc.go1 (hr133 k) (tk_y (rl129.tok.1.trans (h146.trans (by decide))))
                    refine lv_if_ne (tgt := 138) hx hb dX1_readNeed_133 (by decide) (fun c151 => ?_) (fun c151 => ?_)
                    · skip
                      have f152 : z138.toInt ≠ 0 := b_neq rfl (by decide) c151
                      refine lv_aload_n hx hb dX1_readNeed_138 rfl (lv_at hl 3 rfl) ?_
                      refine va_get (D := D) (ci := 1) (v := rfN ad 72 (V143 1 2)) (fs := (xfReader ad V143 L144 Z)) (C := RX1) (T := TX1) (N := 9) hx hb hg inX1 hown hK hP 1 xgReader rfl 2 (by decide) (hg _ w306) (fun _ h9 => h9) rfl dX1_readNeed_139 ?_
                      have pq153 : (V143 1 2).toInt = ((V 1 2)).toInt := congrArg Int32.toInt ((ajV143 1 2 rfl).trans ((ajV124 1 2 rfl).trans ((ajV57 1 2 rfl).trans ((ajV34 1 2 rfl).trans (ajV18 1 2 rfl)))))
                      refine g_topv (v := .ref (ad (72 + go))) (rfN_r (by first | omega | ((try (have i_t141 := Imp.go t141 (by omega))); omega))) ?_
                      refine lv_iload_n hx hb dX1_readNeed_142 rfl (lv_at hl 2 rfl) ?_
                      refine lv_iload_n hx hb dX1_readNeed_143 rfl (lv_at hl 1 rfl) ?_
                      refine lv_iload_n hx hb dX1_readNeed_144 rfl (lv_at hl 0 rfl) ?_
                      have r154 : Int32.toInt 0 = 0 := by decide
                      refine gA_void (gA_runV (As := [.int 0, .int (V34 1 6), .int (V124 1 6)]) (rest := []) (ci := 3) (q0 := (72 + go)) hx hb hml hown hg hP hD hK hS hA hnw hgk (x_addNeed3 l D ks H.size ad kk V143 L144 Z 0 (V34 1 6) (V124 1 6) (go) hMV143 (show go < 48 from by first | omega | ((try (have i_t141 := Imp.go t141 (by omega))); omega))) w1011 w1012 w1013 w169 w1014 rfl (xgComp hgo) hdV_yX3_addNeed ⟨Nat.le_of_ble_eq_true rfl, Nat.le_of_ble_eq_true rfl⟩ rfl hl.1 rfl (Nat.le_of_ble_eq_true rfl) dX1_readNeed_145 ⟨Nat.le_of_ble_eq_true rfl, Nat.le_of_ble_eq_true rfl⟩) hP hD hK hS hA (fun u156 H locs w157 hP hD hK hS => ?_)
                      obtain ⟨V162, L163⟩ := u156
                      obtain ⟨hMV162, ajV162, axL163, fyV162, t158, t159, t160, t161⟩ := w157
                      have axL163 : L144 = L163 := Eq.symm axL163
                      subst axL163
                      have hP : va_P D vwCl (xw ad kk V162 L144 Z) H := hP
                      have hD : va_D A (xw ad kk V162 L144 Z) := hD
                      have hMV162 : rgd bX V162 := hMV162
                      have ajV162 : agr [] [49, 58, 59, 60] V143 V162 := ajV162
                      have agV162 : agr [(1, 3), (1, 6), (6, 8), (6, 9), (6, 10)] [43, 44, 49, 58, 59, 60] V V162 := agV143.tr ajV162 (by decide) (by decide)
                      have t158 : Imp ((V143 49 go).toInt < 8) ((V162 49 go).toInt = (V143 49 go).toInt + 1) := t158
                      have t159 : Imp ((V143 49 go).toInt < 8) (V162 58 = upd (V143 58) (8 * go + Int32.toNatClampNeg (V143 49 go)) (V34 1 6)) := t159
                      have t160 : Imp ((V143 49 go).toInt < 8) (V162 59 = upd (V143 59) (8 * go + Int32.toNatClampNeg (V143 49 go)) (V124 1 6)) := t160
                      have t161 : Imp ((V143 49 go).toInt < 8) (V162 60 = upd (V143 60) (8 * go + Int32.toNatClampNeg (V143 49 go)) 0) := t161
                      have pq164 : (V143 49 go).toInt = ((V 49 go)).toInt := congrArg Int32.toInt ((ajV143 49 go rfl).trans ((ajV124 49 go rfl).trans ((ajV57 49 go rfl).trans ((ajV34 49 go rfl).trans (ajV18 49 go rfl)))))
                      have ng167 : (V143 49 go).toInt < 8 := by omega
                      have rl165 : RelC V162 L144 b gT (sN (nx mx127.2 1) 1 ((nx mx127.2 1).1 1 + 1)) := RelC.nd rl149 (show (V143 1 2).toInt = ((go : Nat) : Int) from by omega) ajV162 (by decide) (Imp.go t158 (by omega))
                      have rl166 : RelC V162 L144 b gT (ndS (nx mx127.2 1) 0 fx37 (mx127.1 + 1)) := RelC.nu rl165 ndS_5 rfl
                      have cn168 : CNc V143 b gs := CNc.ag cno.1 (show agr [(1, 3), (1, 6), (6, 8), (6, 9), (6, 10)] [43, 44] V V143 from (agr.tr (agr.tr (agr.tr (agr.tr (agr.tr agr.rf ajV18 (by decide) (by decide)) ajV34 (by decide) (by decide)) ajV57 (by decide) (by decide)) ajV124 (by decide) (by decide)) ajV143 (by decide) (by decide))) (by decide) keepC.rf
                      have cn169 : CNc V143 b (nx mx127.2 1) := CNc.mv cn168 (fun _ _ _ => rfl) (keepC.tr (keepC.tr (keepC.tr (keepC.tr (keepC.rf : keepC gs gs) (keepS.c (keepS.n1 1))) (keepS.c (keepS.n1 1))) (keepS.c kp132)) (keepS.c (keepS.n1 1)))
                      have ow170 := (RelC.ow rl149 (show (V143 1 2).toInt = ((go : Nat) : Int) from by omega)).1
                      have pn9 : 8 * go + Int32.toNatClampNeg (V143 49 go) = 8 * go + (nx mx127.2 1).1 1 := by have h9 := i_clamp (x := V143 49 go) rfl (by omega); omega
                      have cn171 : CNc V162 b (ndS (nx mx127.2 1) 0 fx37 (mx127.1 + 1)) := CNc.nd2 cn169 (by rw [((keepC.tr (keepC.tr (keepC.tr (keepC.tr (keepC.rf : keepC gs gs) (keepS.c (keepS.n1 1))) (keepS.c (keepS.n1 1))) (keepS.c kp132)) (keepS.c (keepS.n1 1)))).2 2 (by decide)]; exact gol) hgl ow170 (by omega) ajV162 (by decide) (fun k hk => fyV162 49 k ⟨by decide, by decide⟩ (show k < go ∨ go + 1 ≤ k from by omega)) (Imp.go t158 ng167) (Imp.go t159 ng167) (Imp.go t160 ng167) (Imp.go t161 ng167) pn9 (show ((V34 1 6)).toInt = ((fx37 : Nat) : Int) from by omega) (show Int32.toInt 0 = (((0 : Int).toNat : Nat) : Int) from by decide) (show ((V124 1 6)).toInt + 1 = (((mx127.1 + 1) : Nat) : Int) from by omega) hb41
                      have hr172 : ∀ k, Rc gT (Crun gs (Imember :: k)) (Crun (ndS (nx mx127.2 1) 0 fx37 (mx127.1 + 1)) (Imember :: k)) := fun k => Rc.go1 (hr150 k) (m_addNeed 0 fx37 (mx127.1 + 1))
                      refine lv_iconst (v := 1) hx hb dX1_readNeed_148 (by decide) ?_
                      have pq173 : (V162 1 2).toInt = ((V 1 2)).toInt := congrArg Int32.toInt ((ajV162 1 2 rfl).trans ((ajV143 1 2 rfl).trans ((ajV124 1 2 rfl).trans ((ajV57 1 2 rfl).trans ((ajV34 1 2 rfl).trans (ajV18 1 2 rfl))))))
                      have ps174 : gs.1 0 + 1 ≤ (nx gs 1).1 0 := ((keepS.n1 1)).1
                      have ps175 : (nx gs 1).1 0 + 1 ≤ (nx (nx gs 1) 1).1 0 := ((keepS.n1 1)).1
                      have ps176 : (nx (nx gs 1) 1).1 0 + 2 ≤ mx127.2.1 0 := (kp132).1
                      have ps177 : mx127.2.1 0 + 1 ≤ (nx mx127.2 1).1 0 := ((keepS.n1 1)).1
                      have ps178 : (ndS (nx mx127.2 1) 0 fx37 (mx127.1 + 1)).1 0 = (nx mx127.2 1).1 0 := ndS_5 0 (by decide)
                      have rw179 : ROWL b L L144 := (fun k hk => ((axL144 44 k rfl).trans ((t123 k hk).trans ((axL58 44 k rfl).trans ((axL19 44 k rfl).trans rfl)))))
                      exact W.zret (v := 1) hx hb hr rfl (fun t ht hW => ⟨⟨1, (V162, L144), rfl, ⟨hMV162, agV162, alL144, (by decide), (Or.inl ⟨rfl, (ndS (nx mx127.2 1) 0 fx37 (mx127.1 + 1)), hr172, rl166, (by omega), ⟨cn171, (show OWl V162 b (nx mx127.2 1) from OWl.mv cno.2 (show V162 1 2 = V 1 2 from ((ajV162 1 2 rfl).trans ((ajV143 1 2 rfl).trans ((ajV124 1 2 rfl).trans ((ajV57 1 2 rfl).trans ((ajV34 1 2 rfl).trans (ajV18 1 2 rfl))))))) (keepC.tr (keepC.tr (keepC.tr (keepC.tr (keepC.rf : keepC gs gs) (keepS.c (keepS.n1 1))) (keepS.c (keepS.n1 1))) (keepS.c kp132)) (keepS.c (keepS.n1 1))))⟩⟩), rw179⟩, by rw [ht]; exact hP, va_K.moved hW.alike hK, hD⟩, hS.F ht⟩) hS.2.2 dX1_readNeed_149
                    · skip
                      have f180 : z138.toInt = 0 := b_eq rfl (by decide) c151
                      exfalso; first | omega | ((try (have i_t141 := Imp.go t141 (by omega))); omega)
                  · skip
                    have hb181 : ∀ k, Rc gT (Crun gs (Imember :: k)) (Cbad (V143 1 3).toInt) := fun k => Rc.go1 (hr133 k) ((tk_n (fun h9 => h146 (rl129.tok.1.symm.trans (h9.trans (by decide))))).trans (fl_eq rl129.tok.2.2 k147))
                    refine lv_if_ne (tgt := 138) hx hb dX1_readNeed_133 (by decide) (fun c182 => ?_) (fun c182 => ?_)
                    · skip
                      have f183 : z138.toInt ≠ 0 := b_neq rfl (by decide) c182
                      exfalso; first | omega | ((try (have i_t141 := Imp.go t141 (by omega))); omega)
                    · skip
                      have f184 : z138.toInt = 0 := b_eq rfl (by decide) c182
                      refine lv_iconst (v := 0) hx hb dX1_readNeed_136 (by decide) ?_
                      have rw185 : ROWL b L L144 := (fun k hk => ((axL144 44 k rfl).trans ((t123 k hk).trans ((axL58 44 k rfl).trans ((axL19 44 k rfl).trans rfl)))))
                      exact W.zret (v := 0) hx hb hr rfl (fun t ht hW => ⟨⟨0, (V143, L144), rfl, ⟨hMV143, agV143, alL144, (by decide), (Or.inr ⟨rfl, hb181⟩), rw185⟩, by rw [ht]; exact hP, va_K.moved hW.alike hK, hD⟩, hS.F ht⟩) hS.2.2 dX1_readNeed_137
                · skip
                  have f186 : z119.toInt = 0 := b_eq rfl (by decide) c134
                  exfalso; omega
              · skip
                have hb187 : ∀ k, Rc gT (Crun gs (Imember :: k)) (Cbad (V124 1 3).toInt) := fun k => Rc.go1 (hr117 k) (wo_b h128)
                refine lv_if_ne (tgt := 122) hx hb dX1_readNeed_117 (by decide) (fun c188 => ?_) (fun c188 => ?_)
                · skip
                  have f189 : z119.toInt ≠ 0 := b_neq rfl (by decide) c188
                  exfalso; omega
                · skip
                  have f190 : z119.toInt = 0 := b_eq rfl (by decide) c188
                  refine lv_iconst (v := 0) hx hb dX1_readNeed_120 (by decide) ?_
                  have rw191 : ROWL b L L125 := (fun k hk => ((t123 k hk).trans ((axL58 44 k rfl).trans ((axL19 44 k rfl).trans rfl))))
                  exact W.zret (v := 0) hx hb hr rfl (fun t ht hW => ⟨⟨0, (V124, L125), rfl, ⟨hMV124, agV124, alL125, (by decide), (Or.inr ⟨rfl, hb187⟩), rw191⟩, by rw [ht]; exact hP, va_K.moved hW.alike hK, hD⟩, hS.F ht⟩) hS.2.2 dX1_readNeed_121
          · skip
            have f192 : z30.toInt = 0 := b_eq rfl (by decide) c43
            exfalso; omega
        · skip
          have hb193 : ∀ k, Rc gT (Crun gs (Imember :: k)) (Cbad (V34 1 3).toInt) := fun k => Rc.go1 (hr28 k) (nd_b h38)
          refine lv_if_ne (tgt := 81) hx hb dX1_readNeed_76 (by decide) (fun c194 => ?_) (fun c194 => ?_)
          · skip
            have f195 : z30.toInt ≠ 0 := b_neq rfl (by decide) c194
            exfalso; omega
          · skip
            have f196 : z30.toInt = 0 := b_eq rfl (by decide) c194
            refine lv_iconst (v := 0) hx hb dX1_readNeed_79 (by decide) ?_
            have rw197 : ROWL b L L19 := (fun k hk => ((axL19 44 k rfl).trans rfl))
            exact W.zret (v := 0) hx hb hr rfl (fun t ht hW => ⟨⟨0, (V34, L19), rfl, ⟨hMV34, agV34, alL19, (by decide), (Or.inr ⟨rfl, hb193⟩), rw197⟩, by rw [ht]; exact hP, va_K.moved hW.alike hK, hD⟩, hS.F ht⟩) hS.2.2 dX1_readNeed_80
      · skip
        have f198 : ((V18 6 9)).toInt = 139 := b_eq rfl (by decide) c25
        refine lv_iconst (v := 2) hx hb dX1_readNeed_55 (by decide) ?_
        refine lv_goto (tgt := 60) hx hb dX1_readNeed_56 (by decide) ?_
        refine lv_istore_n (lv' := [(1, .int 2), (0, .ref (ad 1))]) hx hb dX1_readNeed_60 rfl hl (by decide) rfl (fun ls hl => ?_)
        refine lv_iload_n hx hb dX1_readNeed_61 rfl (lv_at hl 0 rfl) ?_
        refine lv_if_eq (tgt := 72) hx hb dX1_readNeed_62 (by decide) (fun q => absurd q (by decide)) (fun _ => ?_)
        refine lv_aload_n hx hb dX1_readNeed_65 rfl (lv_at hl 1 rfl) ?_
        refine va_get (D := D) (ci := 1) (v := .ref (ad 6)) (fs := (xfReader ad V18 L19 Z)) (C := RX1) (T := TX1) (N := 9) hx hb hg inX1 hown hK hP 1 xgReader rfl 0 (by decide) (hg _ w304) (fun _ h9 => h9) rfl dX1_readNeed_66 ?_
        have kd199 : gT.1 ((nx gs 1).1 0) = ((V18 6 9)).toInt := RelC.kd rl22
        have hr200 : ∀ k, Rc gT (Crun gs (Imember :: k)) (Crun (nx (nx gs 1) 1) (IneedT 2 :: k)) := fun k => Rc.go1 (hr8 k) (needK_a (kd199.trans f198))
        have l8201 := RelC.l8 rl22
        have lk202 := RelC.lk rl22 (show (V18 6 9).toInt ≠ 0 from by omega)
        refine gA_void (gA_runV (As := []) (rest := []) (ci := 9) (q0 := 6) hx hb hml hown hg hP hD hK hS hA hnw hgk (x_next2 l D ks H.size ad kk V18 L19 Z  hMV18 (show (V18 6 8).toInt ≤ (V18 6 7).toInt from by omega)) w871 w852 w853 w157 w854 rfl xgTape hdV_yX9_next ⟨Nat.le_of_ble_eq_true rfl, Nat.le_of_ble_eq_true rfl⟩ rfl hl.1 rfl (Nat.le_of_ble_eq_true rfl) dX1_readNeed_69 ⟨Nat.le_of_ble_eq_true rfl, Nat.le_of_ble_eq_true rfl⟩) hP hD hK hS hA (fun u204 H locs w205 hP hD hK hS => ?_)
        obtain ⟨V208, L209⟩ := u204
        obtain ⟨hMV208, ajV208, axL209, t206, t207⟩ := w205
        have alL209 : agL [6, 44] L L209 := agL.tr alL19 axL209 (by decide)
        have hP : va_P D vwCl (xw ad kk V208 L209 Z) H := hP
        have hD : va_D A (xw ad kk V208 L209 Z) := hD
        have hMV208 : rgd bX V208 := hMV208
        have ajV208 : agr [(6, 8), (6, 9), (6, 10)] [] V18 V208 := ajV208
        have agV208 : agr [(1, 3), (1, 6), (6, 8), (6, 9), (6, 10)] [43, 44, 49, 58, 59, 60] V V208 := agV18.tr ajV208 (by decide) (by decide)
        have t206 : (V208 6 8).toInt ≤ (V208 6 7).toInt := t206
        have t207 : CUR V208 L209 (Int32.toNatClampNeg (V18 6 8)) := t207
        have r210 : 0 ≤ ((V208 6 8)).toInt ∧ ((V208 6 8)).toInt ≤ 4000 := hMV208 6 8
        have pq211 : (V208 6 7).toInt = ((V 6 7)).toInt := congrArg Int32.toInt ((ajV208 6 7 rfl).trans (ajV18 6 7 rfl))
        have rl212 : RelC V208 L209 b gT (nx (nx gs 1) 1) := RelC.nx1 rl22 ajV208 (by decide) axL209 (by decide) (by rw [← lk202]; exact t207) (ajV208 1 3 rfl)
        refine lv_aload_n hx hb dX1_readNeed_72 rfl (lv_at hl 1 rfl) ?_
        have pq213 : (V208 1 1).toInt = ((V 1 1)).toInt := congrArg Int32.toInt ((ajV208 1 1 rfl).trans (ajV18 1 1 rfl))
        refine gA_int (gA_runV (As := []) (rest := []) (ci := 1) (q0 := 1) hx hb hml hown hg hP hD hK hS hA hnw hgk (x_isToldType3 l D ks H.size ad kk V208 L209 Z (b) (gT) ((nx (nx gs 1) 1)) hMV208 (show b < 2 from by omega) (show (V208 1 1).toInt = (b : Int) from by omega) rl212) w888 w890 w9 w162 w891 rfl xgReader hdV_yX1_isToldType ⟨Nat.le_of_ble_eq_true rfl, Nat.le_of_ble_eq_true rfl⟩ rfl hl.1 rfl (Nat.le_of_ble_eq_true rfl) dX1_readNeed_73 ⟨Nat.le_of_ble_eq_true rfl, Nat.le_of_ble_eq_true rfl⟩) hP hD hK hS hA (fun z214 u215 H locs w216 hP hD hK hS => ?_)
        obtain ⟨V218, L219⟩ := u215
        obtain ⟨hMV218, ajV218, axL219, rgz214, t217⟩ := w216
        have axL219 : L209 = L219 := Eq.symm axL219
        subst axL219
        have hP : va_P D vwCl (xw ad kk V218 L209 Z) H := hP
        have hD : va_D A (xw ad kk V218 L209 Z) := hD
        have hMV218 : rgd bX V218 := hMV218
        have ajV218 : agr [(1, 3), (1, 6)] [] V208 V218 := ajV218
        have agV218 : agr [(1, 3), (1, 6), (6, 8), (6, 9), (6, 10)] [43, 44, 49, 58, 59, 60] V V218 := agV208.tr ajV218 (by decide) (by decide)
        have rgz214 : 0 ≤ z214.toInt ∧ z214.toInt ≤ 1 := rgz214
        have t217 : KcN (look gT (nx (nx gs 1) 1) ((nx (nx gs 1) 1).2.1 0)) z214.toInt (V218 1 3).toInt (fun f9 => RelC V218 L209 b gT (nx (nx gs 1) 1) ∧ (V218 1 6).toInt = ((f9 : Nat) : Int) ∧ f9 < 24) := t217
        rcases t217 with ⟨q220, fx221, h222, rl223, hf224, hb225⟩ | ⟨q220, h222⟩
        · skip
          have kn226 := look_ne h222
          have kd227 : gT.1 ((nx (nx gs 1) 1).1 0) = ((V208 6 9)).toInt := (RelC.kd rl223).trans (congrArg Int32.toInt (ajV218 6 9 rfl))
          refine lv_if_ne (tgt := 81) hx hb dX1_readNeed_76 (by decide) (fun c228 => ?_) (fun c228 => ?_)
          · skip
            have f229 : z214.toInt ≠ 0 := b_neq rfl (by decide) c228
            refine lv_aload_n hx hb dX1_readNeed_81 rfl (lv_at hl 1 rfl) ?_
            refine va_get (D := D) (ci := 1) (v := .int (V218 1 6)) (fs := (xfReader ad V218 L209 Z)) (C := RX1) (T := TX1) (N := 9) hx hb hg inX1 hown hK hP 1 xgReader rfl 6 (by decide) (hg _ w310) (fun _ h9 => h9) rfl dX1_readNeed_82 ?_
            have r230 : (-1) ≤ ((V218 1 6)).toInt ∧ ((V218 1 6)).toInt ≤ 23 := hMV218 1 6
            refine lv_istore_n (lv' := [(2, .int (V218 1 6)), (1, .int 2), (0, .ref (ad 1))]) hx hb dX1_readNeed_85 rfl hl (by decide) rfl (fun ls hl => ?_)
            refine lv_iconst (v := (-1)) hx hb dX1_readNeed_86 (by decide) ?_
            refine lv_istore_n (lv' := [(3, .int (-1)), (2, .int (V218 1 6)), (1, .int 2), (0, .ref (ad 1))]) hx hb dX1_readNeed_87 rfl hl (by decide) rfl (fun ls hl => ?_)
            refine lv_aload_n hx hb dX1_readNeed_88 rfl (lv_at hl 3 rfl) ?_
            refine va_get (D := D) (ci := 1) (v := .ref (ad 6)) (fs := (xfReader ad V218 L209 Z)) (C := RX1) (T := TX1) (N := 9) hx hb hg inX1 hown hK hP 1 xgReader rfl 0 (by decide) (hg _ w304) (fun _ h9 => h9) rfl dX1_readNeed_89 ?_
            have hr231 : ∀ k, Rc gT (Crun gs (Imember :: k)) (Crun (nx (nx (nx gs 1) 1) 1) (Itake 59 :: IaddNeed 2 fx221 0 :: Imember :: k)) := fun k => Rc.go1 (hr200 k) (nd_2 h222)
            have l8232 := RelC.l8 rl223
            have pq233 : (V218 6 8).toInt = ((V208 6 8)).toInt := congrArg Int32.toInt (ajV218 6 8 rfl)
            have pq234 : (V218 6 7).toInt = ((V 6 7)).toInt := congrArg Int32.toInt ((ajV218 6 7 rfl).trans ((ajV208 6 7 rfl).trans (ajV18 6 7 rfl)))
            have pq235 : (V218 6 9).toInt = ((V208 6 9)).toInt := congrArg Int32.toInt (ajV218 6 9 rfl)
            have lk236 := RelC.lk rl223 (show (V218 6 9).toInt ≠ 0 from by omega)
            refine gA_void (gA_runV (As := []) (rest := []) (ci := 9) (q0 := 6) hx hb hml hown hg hP hD hK hS hA hnw hgk (x_next2 l D ks H.size ad kk V218 L209 Z  hMV218 (show (V218 6 8).toInt ≤ (V218 6 7).toInt from by omega)) w871 w852 w853 w157 w854 rfl xgTape hdV_yX9_next ⟨Nat.le_of_ble_eq_true rfl, Nat.le_of_ble_eq_true rfl⟩ rfl hl.1 rfl (Nat.le_of_ble_eq_true rfl) dX1_readNeed_92 ⟨Nat.le_of_ble_eq_true rfl, Nat.le_of_ble_eq_true rfl⟩) hP hD hK hS hA (fun u238 H locs w239 hP hD hK hS => ?_)
            obtain ⟨V242, L243⟩ := u238
            obtain ⟨hMV242, ajV242, axL243, t240, t241⟩ := w239
            have alL243 : agL [6, 44] L L243 := agL.tr alL209 axL243 (by decide)
            have hP : va_P D vwCl (xw ad kk V242 L243 Z) H := hP
            have hD : va_D A (xw ad kk V242 L243 Z) := hD
            have hMV242 : rgd bX V242 := hMV242
            have ajV242 : agr [(6, 8), (6, 9), (6, 10)] [] V218 V242 := ajV242
            have agV242 : agr [(1, 3), (1, 6), (6, 8), (6, 9), (6, 10)] [43, 44, 49, 58, 59, 60] V V242 := agV218.tr ajV242 (by decide) (by decide)
            have t240 : (V242 6 8).toInt ≤ (V242 6 7).toInt := t240
            have t241 : CUR V242 L243 (Int32.toNatClampNeg (V218 6 8)) := t241
            have r244 : 0 ≤ ((V242 6 8)).toInt ∧ ((V242 6 8)).toInt ≤ 4000 := hMV242 6 8
            have pq245 : (V242 6 7).toInt = ((V 6 7)).toInt := congrArg Int32.toInt ((ajV242 6 7 rfl).trans ((ajV218 6 7 rfl).trans ((ajV208 6 7 rfl).trans (ajV18 6 7 rfl))))
            have rl246 : RelC V242 L243 b gT (nx (nx (nx gs 1) 1) 1) := RelC.nx1 rl223 ajV242 (by decide) axL243 (by decide) (by rw [← lk236]; exact t241) (ajV242 1 3 rfl)
            refine lv_iload_n hx hb dX1_readNeed_95 rfl (lv_at hl 2 rfl) ?_
            refine lv_iconst (v := 2) hx hb dX1_readNeed_96 (by decide) ?_
            refine lv_icmp_eq (tgt := 127) hx hb dX1_readNeed_97 (by decide) (fun _ => ?_) (fun q => absurd (by decide) q)
            refine lv_aload_n hx hb dX1_readNeed_127 rfl (lv_at hl 3 rfl) ?_
            refine lv_bipush (v := 59) hx hb dX1_readNeed_128 (by decide) ?_
            have r247 : Int32.toInt 59 = 59 := by decide
            refine gA_int (gA_runV (As := [.int 59]) (rest := []) (ci := 1) (q0 := 1) hx hb hml hown hg hP hD hK hS hA hnw hgk (x_take2 l D ks H.size ad kk V242 L243 Z 59 (((nx (nx (nx gs 1) 1) 1).1 0)) hMV242 (rl246).1 (rl246).2.1.1 (show 1 ≤ (Int32.toInt 59) from by omega)) w893 w895 w10 w162 w896 rfl xgReader hdV_yX1_take ⟨Nat.le_of_ble_eq_true rfl, Nat.le_of_ble_eq_true rfl⟩ rfl hl.1 rfl (Nat.le_of_ble_eq_true rfl) dX1_readNeed_130 ⟨Nat.le_of_ble_eq_true rfl, Nat.le_of_ble_eq_true rfl⟩) hP hD hK hS hA (fun z248 u249 H locs w250 hP hD hK hS => ?_)
            obtain ⟨V253, L254⟩ := u249
            obtain ⟨hMV253, ajV253, axL254, rgz248, t251, t252⟩ := w250
            have alL254 : agL [6, 44] L L254 := agL.tr alL243 axL254 (by decide)
            have hP : va_P D vwCl (xw ad kk V253 L254 Z) H := hP
            have hD : va_D A (xw ad kk V253 L254 Z) := hD
            have hMV253 : rgd bX V253 := hMV253
            have ajV253 : agr [(1, 3), (6, 8), (6, 9), (6, 10)] [] V242 V253 := ajV253
            have agV253 : agr [(1, 3), (1, 6), (6, 8), (6, 9), (6, 10)] [43, 44, 49, 58, 59, 60] V V253 := agV242.tr ajV253 (by decide) (by decide)
            have rgz248 : 0 ≤ z248.toInt ∧ z248.toInt ≤ 1 := rgz248
            have t251 : Imp (z248.toInt = 0) (1 ≤ (V253 1 3).toInt) := t251
            have t252 : (z248.toInt = 1 ∧ (V242 12 ((nx (nx (nx gs 1) 1) 1).1 0)).toInt = (Int32.toInt 59) ∧ CUR V253 L254 (((nx (nx (nx gs 1) 1) 1).1 0) + 1) ∧ V253 1 3 = V242 1 3) ∨ (z248.toInt = 0 ∧ (V242 12 ((nx (nx (nx gs 1) 1) 1).1 0)).toInt ≠ (Int32.toInt 59) ∧ (V253 1 3).toInt = 1 + 16 * (V242 13 ((nx (nx (nx gs 1) 1) 1).1 0)).toInt) := t252
            rcases t252 with ⟨q255, h256, k257, k258⟩ | ⟨q255, h256, k257⟩
            · skip
              have rl259 : RelC V253 L254 b gT (nx (nx (nx (nx gs 1) 1) 1) 1) := RelC.nx1 rl246 ajV253 (by decide) axL254 (by decide) k257 k258
              have hr260 : ∀ k, Rc gT (Crun gs (Imember :: k)) (Crun (nx (nx (nx (nx gs 1) 1) 1) 1) (IaddNeed 2 fx221 0 :: Imember :: k)) := fun k => Rc.go1 (hr231 k) (tk_y (rl246.tok.1.trans (h256.trans (by decide))))
              refine lv_if_ne (tgt := 138) hx hb dX1_readNeed_133 (by decide) (fun c261 => ?_) (fun c261 => ?_)
              · skip
                have f262 : z248.toInt ≠ 0 := b_neq rfl (by decide) c261
                refine lv_aload_n hx hb dX1_readNeed_138 rfl (lv_at hl 3 rfl) ?_
                refine va_get (D := D) (ci := 1) (v := rfN ad 72 (V253 1 2)) (fs := (xfReader ad V253 L254 Z)) (C := RX1) (T := TX1) (N := 9) hx hb hg inX1 hown hK hP 1 xgReader rfl 2 (by decide) (hg _ w306) (fun _ h9 => h9) rfl dX1_readNeed_139 ?_
                have pq263 : (V253 1 2).toInt = ((V 1 2)).toInt := congrArg Int32.toInt ((ajV253 1 2 rfl).trans ((ajV242 1 2 rfl).trans ((ajV218 1 2 rfl).trans ((ajV208 1 2 rfl).trans (ajV18 1 2 rfl)))))
                refine g_topv (v := .ref (ad (72 + go))) (rfN_r (by first | omega | ((try (have i_t251 := Imp.go t251 (by omega))); omega))) ?_
                refine lv_iload_n hx hb dX1_readNeed_142 rfl (lv_at hl 2 rfl) ?_
                refine lv_iload_n hx hb dX1_readNeed_143 rfl (lv_at hl 1 rfl) ?_
                refine lv_iload_n hx hb dX1_readNeed_144 rfl (lv_at hl 0 rfl) ?_
                have r264 : Int32.toInt 2 = 2 := by decide
                have r265 : Int32.toInt (-1) = (-1) := by decide
                refine gA_void (gA_runV (As := [.int 2, .int (V218 1 6), .int (-1)]) (rest := []) (ci := 3) (q0 := (72 + go)) hx hb hml hown hg hP hD hK hS hA hnw hgk (x_addNeed3 l D ks H.size ad kk V253 L254 Z 2 (V218 1 6) (-1) (go) hMV253 (show go < 48 from by first | omega | ((try (have i_t251 := Imp.go t251 (by omega))); omega))) w1011 w1012 w1013 w169 w1014 rfl (xgComp hgo) hdV_yX3_addNeed ⟨Nat.le_of_ble_eq_true rfl, Nat.le_of_ble_eq_true rfl⟩ rfl hl.1 rfl (Nat.le_of_ble_eq_true rfl) dX1_readNeed_145 ⟨Nat.le_of_ble_eq_true rfl, Nat.le_of_ble_eq_true rfl⟩) hP hD hK hS hA (fun u267 H locs w268 hP hD hK hS => ?_)
                obtain ⟨V273, L274⟩ := u267
                obtain ⟨hMV273, ajV273, axL274, fyV273, t269, t270, t271, t272⟩ := w268
                have axL274 : L254 = L274 := Eq.symm axL274
                subst axL274
                have hP : va_P D vwCl (xw ad kk V273 L254 Z) H := hP
                have hD : va_D A (xw ad kk V273 L254 Z) := hD
                have hMV273 : rgd bX V273 := hMV273
                have ajV273 : agr [] [49, 58, 59, 60] V253 V273 := ajV273
                have agV273 : agr [(1, 3), (1, 6), (6, 8), (6, 9), (6, 10)] [43, 44, 49, 58, 59, 60] V V273 := agV253.tr ajV273 (by decide) (by decide)
                have t269 : Imp ((V253 49 go).toInt < 8) ((V273 49 go).toInt = (V253 49 go).toInt + 1) := t269
                have t270 : Imp ((V253 49 go).toInt < 8) (V273 58 = upd (V253 58) (8 * go + Int32.toNatClampNeg (V253 49 go)) (V218 1 6)) := t270
                have t271 : Imp ((V253 49 go).toInt < 8) (V273 59 = upd (V253 59) (8 * go + Int32.toNatClampNeg (V253 49 go)) (-1)) := t271
                have t272 : Imp ((V253 49 go).toInt < 8) (V273 60 = upd (V253 60) (8 * go + Int32.toNatClampNeg (V253 49 go)) 2) := t272
                have pq275 : (V253 49 go).toInt = ((V 49 go)).toInt := congrArg Int32.toInt ((ajV253 49 go rfl).trans ((ajV242 49 go rfl).trans ((ajV218 49 go rfl).trans ((ajV208 49 go rfl).trans (ajV18 49 go rfl)))))
                have ng278 : (V253 49 go).toInt < 8 := by omega
                have rl276 : RelC V273 L254 b gT (sN (nx (nx (nx (nx gs 1) 1) 1) 1) 1 ((nx (nx (nx (nx gs 1) 1) 1) 1).1 1 + 1)) := RelC.nd rl259 (show (V253 1 2).toInt = ((go : Nat) : Int) from by omega) ajV273 (by decide) (Imp.go t269 (by omega))
                have rl277 : RelC V273 L254 b gT (ndS (nx (nx (nx (nx gs 1) 1) 1) 1) 2 fx221 0) := RelC.nu rl276 ndS_5 rfl
                have cn279 : CNc V253 b gs := CNc.ag cno.1 (show agr [(1, 3), (1, 6), (6, 8), (6, 9), (6, 10)] [] V V253 from (agr.tr (agr.tr (agr.tr (agr.tr (agr.tr agr.rf ajV18 (by decide) (by decide)) ajV208 (by decide) (by decide)) ajV218 (by decide) (by decide)) ajV242 (by decide) (by decide)) ajV253 (by decide) (by decide))) (by decide) keepC.rf
                have cn280 : CNc V253 b (nx (nx (nx (nx gs 1) 1) 1) 1) := CNc.mv cn279 (fun _ _ _ => rfl) (keepC.tr (keepC.tr (keepC.tr (keepC.tr (keepC.rf : keepC gs gs) (keepS.c (keepS.n1 1))) (keepS.c (keepS.n1 1))) (keepS.c (keepS.n1 1))) (keepS.c (keepS.n1 1)))
                have ow281 := (RelC.ow rl259 (show (V253 1 2).toInt = ((go : Nat) : Int) from by omega)).1
                have pn9 : 8 * go + Int32.toNatClampNeg (V253 49 go) = 8 * go + (nx (nx (nx (nx gs 1) 1) 1) 1).1 1 := by have h9 := i_clamp (x := V253 49 go) rfl (by omega); omega
                have cn282 : CNc V273 b (ndS (nx (nx (nx (nx gs 1) 1) 1) 1) 2 fx221 0) := CNc.nd2 cn280 (by rw [((keepC.tr (keepC.tr (keepC.tr (keepC.tr (keepC.rf : keepC gs gs) (keepS.c (keepS.n1 1))) (keepS.c (keepS.n1 1))) (keepS.c (keepS.n1 1))) (keepS.c (keepS.n1 1)))).2 2 (by decide)]; exact gol) hgl ow281 (by omega) ajV273 (by decide) (fun k hk => fyV273 49 k ⟨by decide, by decide⟩ (show k < go ∨ go + 1 ≤ k from by omega)) (Imp.go t269 ng278) (Imp.go t270 ng278) (Imp.go t271 ng278) (Imp.go t272 ng278) pn9 (show ((V218 1 6)).toInt = ((fx221 : Nat) : Int) from by omega) (show Int32.toInt 2 = (((2 : Int).toNat : Nat) : Int) from by decide) (show Int32.toInt (-1) + 1 = ((0 : Nat) : Int) from by omega) hb225
                have hr283 : ∀ k, Rc gT (Crun gs (Imember :: k)) (Crun (ndS (nx (nx (nx (nx gs 1) 1) 1) 1) 2 fx221 0) (Imember :: k)) := fun k => Rc.go1 (hr260 k) (m_addNeed 2 fx221 0)
                refine lv_iconst (v := 1) hx hb dX1_readNeed_148 (by decide) ?_
                have pq284 : (V273 1 2).toInt = ((V 1 2)).toInt := congrArg Int32.toInt ((ajV273 1 2 rfl).trans ((ajV253 1 2 rfl).trans ((ajV242 1 2 rfl).trans ((ajV218 1 2 rfl).trans ((ajV208 1 2 rfl).trans (ajV18 1 2 rfl))))))
                have ps285 : gs.1 0 + 1 ≤ (nx gs 1).1 0 := ((keepS.n1 1)).1
                have ps286 : (nx gs 1).1 0 + 1 ≤ (nx (nx gs 1) 1).1 0 := ((keepS.n1 1)).1
                have ps287 : (nx (nx gs 1) 1).1 0 + 1 ≤ (nx (nx (nx gs 1) 1) 1).1 0 := ((keepS.n1 1)).1
                have ps288 : (nx (nx (nx gs 1) 1) 1).1 0 + 1 ≤ (nx (nx (nx (nx gs 1) 1) 1) 1).1 0 := ((keepS.n1 1)).1
                have ps289 : (ndS (nx (nx (nx (nx gs 1) 1) 1) 1) 2 fx221 0).1 0 = (nx (nx (nx (nx gs 1) 1) 1) 1).1 0 := ndS_5 0 (by decide)
                have rw290 : ROWL b L L254 := (fun k hk => ((axL254 44 k rfl).trans ((axL243 44 k rfl).trans ((axL209 44 k rfl).trans ((axL19 44 k rfl).trans rfl)))))
                exact W.zret (v := 1) hx hb hr rfl (fun t ht hW => ⟨⟨1, (V273, L254), rfl, ⟨hMV273, agV273, alL254, (by decide), (Or.inl ⟨rfl, (ndS (nx (nx (nx (nx gs 1) 1) 1) 1) 2 fx221 0), hr283, rl277, (by omega), ⟨cn282, (show OWl V273 b (nx (nx (nx (nx gs 1) 1) 1) 1) from OWl.mv cno.2 (show V273 1 2 = V 1 2 from ((ajV273 1 2 rfl).trans ((ajV253 1 2 rfl).trans ((ajV242 1 2 rfl).trans ((ajV218 1 2 rfl).trans ((ajV208 1 2 rfl).trans (ajV18 1 2 rfl))))))) (keepC.tr (keepC.tr (keepC.tr (keepC.tr (keepC.rf : keepC gs gs) (keepS.c (keepS.n1 1))) (keepS.c (keepS.n1 1))) (keepS.c (keepS.n1 1))) (keepS.c (keepS.n1 1))))⟩⟩), rw290⟩, by rw [ht]; exact hP, va_K.moved hW.alike hK, hD⟩, hS.F ht⟩) hS.2.2 dX1_readNeed_149
              · skip
                have f291 : z248.toInt = 0 := b_eq rfl (by decide) c261
                exfalso; first | omega | ((try (have i_t251 := Imp.go t251 (by omega))); omega)
            · skip
              have hb292 : ∀ k, Rc gT (Crun gs (Imember :: k)) (Cbad (V253 1 3).toInt) := fun k => Rc.go1 (hr231 k) ((tk_n (fun h9 => h256 (rl246.tok.1.symm.trans (h9.trans (by decide))))).trans (fl_eq rl246.tok.2.2 k257))
              refine lv_if_ne (tgt := 138) hx hb dX1_readNeed_133 (by decide) (fun c293 => ?_) (fun c293 => ?_)
              · skip
                have f294 : z248.toInt ≠ 0 := b_neq rfl (by decide) c293
                exfalso; first | omega | ((try (have i_t251 := Imp.go t251 (by omega))); omega)
              · skip
                have f295 : z248.toInt = 0 := b_eq rfl (by decide) c293
                refine lv_iconst (v := 0) hx hb dX1_readNeed_136 (by decide) ?_
                have rw296 : ROWL b L L254 := (fun k hk => ((axL254 44 k rfl).trans ((axL243 44 k rfl).trans ((axL209 44 k rfl).trans ((axL19 44 k rfl).trans rfl)))))
                exact W.zret (v := 0) hx hb hr rfl (fun t ht hW => ⟨⟨0, (V253, L254), rfl, ⟨hMV253, agV253, alL254, (by decide), (Or.inr ⟨rfl, hb292⟩), rw296⟩, by rw [ht]; exact hP, va_K.moved hW.alike hK, hD⟩, hS.F ht⟩) hS.2.2 dX1_readNeed_137
          · skip
            have f297 : z214.toInt = 0 := b_eq rfl (by decide) c228
            exfalso; omega
        · skip
          have hb298 : ∀ k, Rc gT (Crun gs (Imember :: k)) (Cbad (V218 1 3).toInt) := fun k => Rc.go1 (hr200 k) (nd_b h222)
          refine lv_if_ne (tgt := 81) hx hb dX1_readNeed_76 (by decide) (fun c299 => ?_) (fun c299 => ?_)
          · skip
            have f300 : z214.toInt ≠ 0 := b_neq rfl (by decide) c299
            exfalso; omega
          · skip
            have f301 : z214.toInt = 0 := b_eq rfl (by decide) c299
            refine lv_iconst (v := 0) hx hb dX1_readNeed_79 (by decide) ?_
            have rw302 : ROWL b L L209 := (fun k hk => ((axL209 44 k rfl).trans ((axL19 44 k rfl).trans rfl)))
            exact W.zret (v := 0) hx hb hr rfl (fun t ht hW => ⟨⟨0, (V218, L209), rfl, ⟨hMV218, agV218, alL209, (by decide), (Or.inr ⟨rfl, hb298⟩), rw302⟩, by rw [ht]; exact hP, va_K.moved hW.alike hK, hD⟩, hS.F ht⟩) hS.2.2 dX1_readNeed_80
    · skip
      have f303 : ((V18 6 9)).toInt = 138 := b_eq rfl (by decide) c23
      refine lv_iconst (v := 1) hx hb dX1_readNeed_38 (by decide) ?_
      refine lv_goto (tgt := 60) hx hb dX1_readNeed_39 (by decide) ?_
      refine lv_istore_n (lv' := [(1, .int 1), (0, .ref (ad 1))]) hx hb dX1_readNeed_60 rfl hl (by decide) rfl (fun ls hl => ?_)
      refine lv_iload_n hx hb dX1_readNeed_61 rfl (lv_at hl 0 rfl) ?_
      refine lv_if_eq (tgt := 72) hx hb dX1_readNeed_62 (by decide) (fun q => absurd q (by decide)) (fun _ => ?_)
      refine lv_aload_n hx hb dX1_readNeed_65 rfl (lv_at hl 1 rfl) ?_
      refine va_get (D := D) (ci := 1) (v := .ref (ad 6)) (fs := (xfReader ad V18 L19 Z)) (C := RX1) (T := TX1) (N := 9) hx hb hg inX1 hown hK hP 1 xgReader rfl 0 (by decide) (hg _ w304) (fun _ h9 => h9) rfl dX1_readNeed_66 ?_
      have kd304 : gT.1 ((nx gs 1).1 0) = ((V18 6 9)).toInt := RelC.kd rl22
      have hr305 : ∀ k, Rc gT (Crun gs (Imember :: k)) (Crun (nx (nx gs 1) 1) (IneedT 1 :: k)) := fun k => Rc.go1 (hr8 k) (needK_l (kd304.trans f303))
      have l8306 := RelC.l8 rl22
      have lk307 := RelC.lk rl22 (show (V18 6 9).toInt ≠ 0 from by omega)
      refine gA_void (gA_runV (As := []) (rest := []) (ci := 9) (q0 := 6) hx hb hml hown hg hP hD hK hS hA hnw hgk (x_next2 l D ks H.size ad kk V18 L19 Z  hMV18 (show (V18 6 8).toInt ≤ (V18 6 7).toInt from by omega)) w871 w852 w853 w157 w854 rfl xgTape hdV_yX9_next ⟨Nat.le_of_ble_eq_true rfl, Nat.le_of_ble_eq_true rfl⟩ rfl hl.1 rfl (Nat.le_of_ble_eq_true rfl) dX1_readNeed_69 ⟨Nat.le_of_ble_eq_true rfl, Nat.le_of_ble_eq_true rfl⟩) hP hD hK hS hA (fun u309 H locs w310 hP hD hK hS => ?_)
      obtain ⟨V313, L314⟩ := u309
      obtain ⟨hMV313, ajV313, axL314, t311, t312⟩ := w310
      have alL314 : agL [6, 44] L L314 := agL.tr alL19 axL314 (by decide)
      have hP : va_P D vwCl (xw ad kk V313 L314 Z) H := hP
      have hD : va_D A (xw ad kk V313 L314 Z) := hD
      have hMV313 : rgd bX V313 := hMV313
      have ajV313 : agr [(6, 8), (6, 9), (6, 10)] [] V18 V313 := ajV313
      have agV313 : agr [(1, 3), (1, 6), (6, 8), (6, 9), (6, 10)] [43, 44, 49, 58, 59, 60] V V313 := agV18.tr ajV313 (by decide) (by decide)
      have t311 : (V313 6 8).toInt ≤ (V313 6 7).toInt := t311
      have t312 : CUR V313 L314 (Int32.toNatClampNeg (V18 6 8)) := t312
      have r315 : 0 ≤ ((V313 6 8)).toInt ∧ ((V313 6 8)).toInt ≤ 4000 := hMV313 6 8
      have pq316 : (V313 6 7).toInt = ((V 6 7)).toInt := congrArg Int32.toInt ((ajV313 6 7 rfl).trans (ajV18 6 7 rfl))
      have rl317 : RelC V313 L314 b gT (nx (nx gs 1) 1) := RelC.nx1 rl22 ajV313 (by decide) axL314 (by decide) (by rw [← lk307]; exact t312) (ajV313 1 3 rfl)
      refine lv_aload_n hx hb dX1_readNeed_72 rfl (lv_at hl 1 rfl) ?_
      have pq318 : (V313 1 1).toInt = ((V 1 1)).toInt := congrArg Int32.toInt ((ajV313 1 1 rfl).trans (ajV18 1 1 rfl))
      refine gA_int (gA_runV (As := []) (rest := []) (ci := 1) (q0 := 1) hx hb hml hown hg hP hD hK hS hA hnw hgk (x_isToldType3 l D ks H.size ad kk V313 L314 Z (b) (gT) ((nx (nx gs 1) 1)) hMV313 (show b < 2 from by omega) (show (V313 1 1).toInt = (b : Int) from by omega) rl317) w888 w890 w9 w162 w891 rfl xgReader hdV_yX1_isToldType ⟨Nat.le_of_ble_eq_true rfl, Nat.le_of_ble_eq_true rfl⟩ rfl hl.1 rfl (Nat.le_of_ble_eq_true rfl) dX1_readNeed_73 ⟨Nat.le_of_ble_eq_true rfl, Nat.le_of_ble_eq_true rfl⟩) hP hD hK hS hA (fun z319 u320 H locs w321 hP hD hK hS => ?_)
      obtain ⟨V323, L324⟩ := u320
      obtain ⟨hMV323, ajV323, axL324, rgz319, t322⟩ := w321
      have axL324 : L314 = L324 := Eq.symm axL324
      subst axL324
      have hP : va_P D vwCl (xw ad kk V323 L314 Z) H := hP
      have hD : va_D A (xw ad kk V323 L314 Z) := hD
      have hMV323 : rgd bX V323 := hMV323
      have ajV323 : agr [(1, 3), (1, 6)] [] V313 V323 := ajV323
      have agV323 : agr [(1, 3), (1, 6), (6, 8), (6, 9), (6, 10)] [43, 44, 49, 58, 59, 60] V V323 := agV313.tr ajV323 (by decide) (by decide)
      have rgz319 : 0 ≤ z319.toInt ∧ z319.toInt ≤ 1 := rgz319
      have t322 : KcN (look gT (nx (nx gs 1) 1) ((nx (nx gs 1) 1).2.1 0)) z319.toInt (V323 1 3).toInt (fun f9 => RelC V323 L314 b gT (nx (nx gs 1) 1) ∧ (V323 1 6).toInt = ((f9 : Nat) : Int) ∧ f9 < 24) := t322
      rcases t322 with ⟨q325, fx326, h327, rl328, hf329, hb330⟩ | ⟨q325, h327⟩
      · skip
        have kn331 := look_ne h327
        have kd332 : gT.1 ((nx (nx gs 1) 1).1 0) = ((V313 6 9)).toInt := (RelC.kd rl328).trans (congrArg Int32.toInt (ajV323 6 9 rfl))
        refine lv_if_ne (tgt := 81) hx hb dX1_readNeed_76 (by decide) (fun c333 => ?_) (fun c333 => ?_)
        · skip
          have f334 : z319.toInt ≠ 0 := b_neq rfl (by decide) c333
          refine lv_aload_n hx hb dX1_readNeed_81 rfl (lv_at hl 1 rfl) ?_
          refine va_get (D := D) (ci := 1) (v := .int (V323 1 6)) (fs := (xfReader ad V323 L314 Z)) (C := RX1) (T := TX1) (N := 9) hx hb hg inX1 hown hK hP 1 xgReader rfl 6 (by decide) (hg _ w310) (fun _ h9 => h9) rfl dX1_readNeed_82 ?_
          have r335 : (-1) ≤ ((V323 1 6)).toInt ∧ ((V323 1 6)).toInt ≤ 23 := hMV323 1 6
          refine lv_istore_n (lv' := [(2, .int (V323 1 6)), (1, .int 1), (0, .ref (ad 1))]) hx hb dX1_readNeed_85 rfl hl (by decide) rfl (fun ls hl => ?_)
          refine lv_iconst (v := (-1)) hx hb dX1_readNeed_86 (by decide) ?_
          refine lv_istore_n (lv' := [(3, .int (-1)), (2, .int (V323 1 6)), (1, .int 1), (0, .ref (ad 1))]) hx hb dX1_readNeed_87 rfl hl (by decide) rfl (fun ls hl => ?_)
          refine lv_aload_n hx hb dX1_readNeed_88 rfl (lv_at hl 3 rfl) ?_
          refine va_get (D := D) (ci := 1) (v := .ref (ad 6)) (fs := (xfReader ad V323 L314 Z)) (C := RX1) (T := TX1) (N := 9) hx hb hg inX1 hown hK hP 1 xgReader rfl 0 (by decide) (hg _ w304) (fun _ h9 => h9) rfl dX1_readNeed_89 ?_
          have hr336 : ∀ k, Rc gT (Crun gs (Imember :: k)) (Crun (nx (nx (nx gs 1) 1) 1) (Icalled 1 fx326 :: k)) := fun k => Rc.go1 (hr305 k) (nd_1 h327)
          have l8337 := RelC.l8 rl328
          have pq338 : (V323 6 8).toInt = ((V313 6 8)).toInt := congrArg Int32.toInt (ajV323 6 8 rfl)
          have pq339 : (V323 6 7).toInt = ((V 6 7)).toInt := congrArg Int32.toInt ((ajV323 6 7 rfl).trans ((ajV313 6 7 rfl).trans (ajV18 6 7 rfl)))
          have pq340 : (V323 6 9).toInt = ((V313 6 9)).toInt := congrArg Int32.toInt (ajV323 6 9 rfl)
          have lk341 := RelC.lk rl328 (show (V323 6 9).toInt ≠ 0 from by omega)
          refine gA_void (gA_runV (As := []) (rest := []) (ci := 9) (q0 := 6) hx hb hml hown hg hP hD hK hS hA hnw hgk (x_next2 l D ks H.size ad kk V323 L314 Z  hMV323 (show (V323 6 8).toInt ≤ (V323 6 7).toInt from by omega)) w871 w852 w853 w157 w854 rfl xgTape hdV_yX9_next ⟨Nat.le_of_ble_eq_true rfl, Nat.le_of_ble_eq_true rfl⟩ rfl hl.1 rfl (Nat.le_of_ble_eq_true rfl) dX1_readNeed_92 ⟨Nat.le_of_ble_eq_true rfl, Nat.le_of_ble_eq_true rfl⟩) hP hD hK hS hA (fun u343 H locs w344 hP hD hK hS => ?_)
          obtain ⟨V347, L348⟩ := u343
          obtain ⟨hMV347, ajV347, axL348, t345, t346⟩ := w344
          have alL348 : agL [6, 44] L L348 := agL.tr alL314 axL348 (by decide)
          have hP : va_P D vwCl (xw ad kk V347 L348 Z) H := hP
          have hD : va_D A (xw ad kk V347 L348 Z) := hD
          have hMV347 : rgd bX V347 := hMV347
          have ajV347 : agr [(6, 8), (6, 9), (6, 10)] [] V323 V347 := ajV347
          have agV347 : agr [(1, 3), (1, 6), (6, 8), (6, 9), (6, 10)] [43, 44, 49, 58, 59, 60] V V347 := agV323.tr ajV347 (by decide) (by decide)
          have t345 : (V347 6 8).toInt ≤ (V347 6 7).toInt := t345
          have t346 : CUR V347 L348 (Int32.toNatClampNeg (V323 6 8)) := t346
          have r349 : 0 ≤ ((V347 6 8)).toInt ∧ ((V347 6 8)).toInt ≤ 4000 := hMV347 6 8
          have pq350 : (V347 6 7).toInt = ((V 6 7)).toInt := congrArg Int32.toInt ((ajV347 6 7 rfl).trans ((ajV323 6 7 rfl).trans ((ajV313 6 7 rfl).trans (ajV18 6 7 rfl))))
          have rl351 : RelC V347 L348 b gT (nx (nx (nx gs 1) 1) 1) := RelC.nx1 rl328 ajV347 (by decide) axL348 (by decide) (by rw [← lk341]; exact t346) (ajV347 1 3 rfl)
          refine lv_iload_n hx hb dX1_readNeed_95 rfl (lv_at hl 2 rfl) ?_
          refine lv_iconst (v := 2) hx hb dX1_readNeed_96 (by decide) ?_
          refine lv_icmp_eq (tgt := 127) hx hb dX1_readNeed_97 (by decide) (fun q => absurd q (by decide)) (fun _ => ?_)
          refine lv_aload_n hx hb dX1_readNeed_100 rfl (lv_at hl 3 rfl) ?_
          refine va_get (D := D) (ci := 1) (v := .ref (ad 6)) (fs := (xfReader ad V347 L348 Z)) (C := RX1) (T := TX1) (N := 9) hx hb hg inX1 hown hK hP 1 xgReader rfl 0 (by decide) (hg _ w304) (fun _ h9 => h9) rfl dX1_readNeed_101 ?_
          refine va_getN (D := D) (ci := 9) (v := .int (V347 6 9)) (fs := (xfTape ad V347 L348 Z)) (C := RX9) (T := TX9) (N := 12) hx hb hg inX9 hown hK hP 6 xgTape rfl 9 (by decide) (hnw.use 262 n262 rfl) (fun _ h9 => h9) rfl dX1_readNeed_104 ?_
          refine lv_sipush (v := 133) hx hb dX1_readNeed_107 (by decide) ?_
          refine lv_icmp_ne (tgt := 127) hx hb dX1_readNeed_110 (by decide) (fun c352 => ?_) (fun c352 => ?_)
          · skip
            have f353 : ((V347 6 9)).toInt ≠ 133 := b_neq rfl (by decide) c352
            refine lv_aload_n hx hb dX1_readNeed_127 rfl (lv_at hl 3 rfl) ?_
            refine lv_bipush (v := 59) hx hb dX1_readNeed_128 (by decide) ?_
            have kd354 : gT.1 ((nx (nx (nx gs 1) 1) 1).1 0) = ((V347 6 9)).toInt := RelC.kd rl351
            have hr355 : ∀ k, Rc gT (Crun gs (Imember :: k)) (Crun (nx (nx (nx gs 1) 1) 1) (Itake 59 :: IaddNeed 1 fx326 0 :: Imember :: k)) := fun k => Rc.go1 (hr336 k) (called_n 1 fx326 (fun h9 => f353 (kd354.symm.trans h9)))
            have r356 : Int32.toInt 59 = 59 := by decide
            refine gA_int (gA_runV (As := [.int 59]) (rest := []) (ci := 1) (q0 := 1) hx hb hml hown hg hP hD hK hS hA hnw hgk (x_take2 l D ks H.size ad kk V347 L348 Z 59 (((nx (nx (nx gs 1) 1) 1).1 0)) hMV347 (rl351).1 (rl351).2.1.1 (show 1 ≤ (Int32.toInt 59) from by omega)) w893 w895 w10 w162 w896 rfl xgReader hdV_yX1_take ⟨Nat.le_of_ble_eq_true rfl, Nat.le_of_ble_eq_true rfl⟩ rfl hl.1 rfl (Nat.le_of_ble_eq_true rfl) dX1_readNeed_130 ⟨Nat.le_of_ble_eq_true rfl, Nat.le_of_ble_eq_true rfl⟩) hP hD hK hS hA (fun z357 u358 H locs w359 hP hD hK hS => ?_)
            obtain ⟨V362, L363⟩ := u358
            obtain ⟨hMV362, ajV362, axL363, rgz357, t360, t361⟩ := w359
            have alL363 : agL [6, 44] L L363 := agL.tr alL348 axL363 (by decide)
            have hP : va_P D vwCl (xw ad kk V362 L363 Z) H := hP
            have hD : va_D A (xw ad kk V362 L363 Z) := hD
            have hMV362 : rgd bX V362 := hMV362
            have ajV362 : agr [(1, 3), (6, 8), (6, 9), (6, 10)] [] V347 V362 := ajV362
            have agV362 : agr [(1, 3), (1, 6), (6, 8), (6, 9), (6, 10)] [43, 44, 49, 58, 59, 60] V V362 := agV347.tr ajV362 (by decide) (by decide)
            have rgz357 : 0 ≤ z357.toInt ∧ z357.toInt ≤ 1 := rgz357
            have t360 : Imp (z357.toInt = 0) (1 ≤ (V362 1 3).toInt) := t360
            have t361 : (z357.toInt = 1 ∧ (V347 12 ((nx (nx (nx gs 1) 1) 1).1 0)).toInt = (Int32.toInt 59) ∧ CUR V362 L363 (((nx (nx (nx gs 1) 1) 1).1 0) + 1) ∧ V362 1 3 = V347 1 3) ∨ (z357.toInt = 0 ∧ (V347 12 ((nx (nx (nx gs 1) 1) 1).1 0)).toInt ≠ (Int32.toInt 59) ∧ (V362 1 3).toInt = 1 + 16 * (V347 13 ((nx (nx (nx gs 1) 1) 1).1 0)).toInt) := t361
            rcases t361 with ⟨q364, h365, k366, k367⟩ | ⟨q364, h365, k366⟩
            · skip
              have rl368 : RelC V362 L363 b gT (nx (nx (nx (nx gs 1) 1) 1) 1) := RelC.nx1 rl351 ajV362 (by decide) axL363 (by decide) k366 k367
              have hr369 : ∀ k, Rc gT (Crun gs (Imember :: k)) (Crun (nx (nx (nx (nx gs 1) 1) 1) 1) (IaddNeed 1 fx326 0 :: Imember :: k)) := fun k => Rc.go1 (hr355 k) (tk_y (rl351.tok.1.trans (h365.trans (by decide))))
              refine lv_if_ne (tgt := 138) hx hb dX1_readNeed_133 (by decide) (fun c370 => ?_) (fun c370 => ?_)
              · skip
                have f371 : z357.toInt ≠ 0 := b_neq rfl (by decide) c370
                refine lv_aload_n hx hb dX1_readNeed_138 rfl (lv_at hl 3 rfl) ?_
                refine va_get (D := D) (ci := 1) (v := rfN ad 72 (V362 1 2)) (fs := (xfReader ad V362 L363 Z)) (C := RX1) (T := TX1) (N := 9) hx hb hg inX1 hown hK hP 1 xgReader rfl 2 (by decide) (hg _ w306) (fun _ h9 => h9) rfl dX1_readNeed_139 ?_
                have pq372 : (V362 1 2).toInt = ((V 1 2)).toInt := congrArg Int32.toInt ((ajV362 1 2 rfl).trans ((ajV347 1 2 rfl).trans ((ajV323 1 2 rfl).trans ((ajV313 1 2 rfl).trans (ajV18 1 2 rfl)))))
                refine g_topv (v := .ref (ad (72 + go))) (rfN_r (by first | omega | ((try (have i_t360 := Imp.go t360 (by omega))); omega))) ?_
                refine lv_iload_n hx hb dX1_readNeed_142 rfl (lv_at hl 2 rfl) ?_
                refine lv_iload_n hx hb dX1_readNeed_143 rfl (lv_at hl 1 rfl) ?_
                refine lv_iload_n hx hb dX1_readNeed_144 rfl (lv_at hl 0 rfl) ?_
                have r373 : Int32.toInt 1 = 1 := by decide
                have r374 : Int32.toInt (-1) = (-1) := by decide
                refine gA_void (gA_runV (As := [.int 1, .int (V323 1 6), .int (-1)]) (rest := []) (ci := 3) (q0 := (72 + go)) hx hb hml hown hg hP hD hK hS hA hnw hgk (x_addNeed3 l D ks H.size ad kk V362 L363 Z 1 (V323 1 6) (-1) (go) hMV362 (show go < 48 from by first | omega | ((try (have i_t360 := Imp.go t360 (by omega))); omega))) w1011 w1012 w1013 w169 w1014 rfl (xgComp hgo) hdV_yX3_addNeed ⟨Nat.le_of_ble_eq_true rfl, Nat.le_of_ble_eq_true rfl⟩ rfl hl.1 rfl (Nat.le_of_ble_eq_true rfl) dX1_readNeed_145 ⟨Nat.le_of_ble_eq_true rfl, Nat.le_of_ble_eq_true rfl⟩) hP hD hK hS hA (fun u376 H locs w377 hP hD hK hS => ?_)
                obtain ⟨V382, L383⟩ := u376
                obtain ⟨hMV382, ajV382, axL383, fyV382, t378, t379, t380, t381⟩ := w377
                have axL383 : L363 = L383 := Eq.symm axL383
                subst axL383
                have hP : va_P D vwCl (xw ad kk V382 L363 Z) H := hP
                have hD : va_D A (xw ad kk V382 L363 Z) := hD
                have hMV382 : rgd bX V382 := hMV382
                have ajV382 : agr [] [49, 58, 59, 60] V362 V382 := ajV382
                have agV382 : agr [(1, 3), (1, 6), (6, 8), (6, 9), (6, 10)] [43, 44, 49, 58, 59, 60] V V382 := agV362.tr ajV382 (by decide) (by decide)
                have t378 : Imp ((V362 49 go).toInt < 8) ((V382 49 go).toInt = (V362 49 go).toInt + 1) := t378
                have t379 : Imp ((V362 49 go).toInt < 8) (V382 58 = upd (V362 58) (8 * go + Int32.toNatClampNeg (V362 49 go)) (V323 1 6)) := t379
                have t380 : Imp ((V362 49 go).toInt < 8) (V382 59 = upd (V362 59) (8 * go + Int32.toNatClampNeg (V362 49 go)) (-1)) := t380
                have t381 : Imp ((V362 49 go).toInt < 8) (V382 60 = upd (V362 60) (8 * go + Int32.toNatClampNeg (V362 49 go)) 1) := t381
                have pq384 : (V362 49 go).toInt = ((V 49 go)).toInt := congrArg Int32.toInt ((ajV362 49 go rfl).trans ((ajV347 49 go rfl).trans ((ajV323 49 go rfl).trans ((ajV313 49 go rfl).trans (ajV18 49 go rfl)))))
                have ng387 : (V362 49 go).toInt < 8 := by omega
                have rl385 : RelC V382 L363 b gT (sN (nx (nx (nx (nx gs 1) 1) 1) 1) 1 ((nx (nx (nx (nx gs 1) 1) 1) 1).1 1 + 1)) := RelC.nd rl368 (show (V362 1 2).toInt = ((go : Nat) : Int) from by omega) ajV382 (by decide) (Imp.go t378 (by omega))
                have rl386 : RelC V382 L363 b gT (ndS (nx (nx (nx (nx gs 1) 1) 1) 1) 1 fx326 0) := RelC.nu rl385 ndS_5 rfl
                have cn388 : CNc V362 b gs := CNc.ag cno.1 (show agr [(1, 3), (1, 6), (6, 8), (6, 9), (6, 10)] [] V V362 from (agr.tr (agr.tr (agr.tr (agr.tr (agr.tr agr.rf ajV18 (by decide) (by decide)) ajV313 (by decide) (by decide)) ajV323 (by decide) (by decide)) ajV347 (by decide) (by decide)) ajV362 (by decide) (by decide))) (by decide) keepC.rf
                have cn389 : CNc V362 b (nx (nx (nx (nx gs 1) 1) 1) 1) := CNc.mv cn388 (fun _ _ _ => rfl) (keepC.tr (keepC.tr (keepC.tr (keepC.tr (keepC.rf : keepC gs gs) (keepS.c (keepS.n1 1))) (keepS.c (keepS.n1 1))) (keepS.c (keepS.n1 1))) (keepS.c (keepS.n1 1)))
                have ow390 := (RelC.ow rl368 (show (V362 1 2).toInt = ((go : Nat) : Int) from by omega)).1
                have pn9 : 8 * go + Int32.toNatClampNeg (V362 49 go) = 8 * go + (nx (nx (nx (nx gs 1) 1) 1) 1).1 1 := by have h9 := i_clamp (x := V362 49 go) rfl (by omega); omega
                have cn391 : CNc V382 b (ndS (nx (nx (nx (nx gs 1) 1) 1) 1) 1 fx326 0) := CNc.nd2 cn389 (by rw [((keepC.tr (keepC.tr (keepC.tr (keepC.tr (keepC.rf : keepC gs gs) (keepS.c (keepS.n1 1))) (keepS.c (keepS.n1 1))) (keepS.c (keepS.n1 1))) (keepS.c (keepS.n1 1)))).2 2 (by decide)]; exact gol) hgl ow390 (by omega) ajV382 (by decide) (fun k hk => fyV382 49 k ⟨by decide, by decide⟩ (show k < go ∨ go + 1 ≤ k from by omega)) (Imp.go t378 ng387) (Imp.go t379 ng387) (Imp.go t380 ng387) (Imp.go t381 ng387) pn9 (show ((V323 1 6)).toInt = ((fx326 : Nat) : Int) from by omega) (show Int32.toInt 1 = (((1 : Int).toNat : Nat) : Int) from by decide) (show Int32.toInt (-1) + 1 = ((0 : Nat) : Int) from by omega) hb330
                have hr392 : ∀ k, Rc gT (Crun gs (Imember :: k)) (Crun (ndS (nx (nx (nx (nx gs 1) 1) 1) 1) 1 fx326 0) (Imember :: k)) := fun k => Rc.go1 (hr369 k) (m_addNeed 1 fx326 0)
                refine lv_iconst (v := 1) hx hb dX1_readNeed_148 (by decide) ?_
                have pq393 : (V382 1 2).toInt = ((V 1 2)).toInt := congrArg Int32.toInt ((ajV382 1 2 rfl).trans ((ajV362 1 2 rfl).trans ((ajV347 1 2 rfl).trans ((ajV323 1 2 rfl).trans ((ajV313 1 2 rfl).trans (ajV18 1 2 rfl))))))
                have ps394 : gs.1 0 + 1 ≤ (nx gs 1).1 0 := ((keepS.n1 1)).1
                have ps395 : (nx gs 1).1 0 + 1 ≤ (nx (nx gs 1) 1).1 0 := ((keepS.n1 1)).1
                have ps396 : (nx (nx gs 1) 1).1 0 + 1 ≤ (nx (nx (nx gs 1) 1) 1).1 0 := ((keepS.n1 1)).1
                have ps397 : (nx (nx (nx gs 1) 1) 1).1 0 + 1 ≤ (nx (nx (nx (nx gs 1) 1) 1) 1).1 0 := ((keepS.n1 1)).1
                have ps398 : (ndS (nx (nx (nx (nx gs 1) 1) 1) 1) 1 fx326 0).1 0 = (nx (nx (nx (nx gs 1) 1) 1) 1).1 0 := ndS_5 0 (by decide)
                have rw399 : ROWL b L L363 := (fun k hk => ((axL363 44 k rfl).trans ((axL348 44 k rfl).trans ((axL314 44 k rfl).trans ((axL19 44 k rfl).trans rfl)))))
                exact W.zret (v := 1) hx hb hr rfl (fun t ht hW => ⟨⟨1, (V382, L363), rfl, ⟨hMV382, agV382, alL363, (by decide), (Or.inl ⟨rfl, (ndS (nx (nx (nx (nx gs 1) 1) 1) 1) 1 fx326 0), hr392, rl386, (by omega), ⟨cn391, (show OWl V382 b (nx (nx (nx (nx gs 1) 1) 1) 1) from OWl.mv cno.2 (show V382 1 2 = V 1 2 from ((ajV382 1 2 rfl).trans ((ajV362 1 2 rfl).trans ((ajV347 1 2 rfl).trans ((ajV323 1 2 rfl).trans ((ajV313 1 2 rfl).trans (ajV18 1 2 rfl))))))) (keepC.tr (keepC.tr (keepC.tr (keepC.tr (keepC.rf : keepC gs gs) (keepS.c (keepS.n1 1))) (keepS.c (keepS.n1 1))) (keepS.c (keepS.n1 1))) (keepS.c (keepS.n1 1))))⟩⟩), rw399⟩, by rw [ht]; exact hP, va_K.moved hW.alike hK, hD⟩, hS.F ht⟩) hS.2.2 dX1_readNeed_149
              · skip
                have f400 : z357.toInt = 0 := b_eq rfl (by decide) c370
                exfalso; first | omega | ((try (have i_t360 := Imp.go t360 (by omega))); omega)
            · skip
              have hb401 : ∀ k, Rc gT (Crun gs (Imember :: k)) (Cbad (V362 1 3).toInt) := fun k => Rc.go1 (hr355 k) ((tk_n (fun h9 => h365 (rl351.tok.1.symm.trans (h9.trans (by decide))))).trans (fl_eq rl351.tok.2.2 k366))
              refine lv_if_ne (tgt := 138) hx hb dX1_readNeed_133 (by decide) (fun c402 => ?_) (fun c402 => ?_)
              · skip
                have f403 : z357.toInt ≠ 0 := b_neq rfl (by decide) c402
                exfalso; first | omega | ((try (have i_t360 := Imp.go t360 (by omega))); omega)
              · skip
                have f404 : z357.toInt = 0 := b_eq rfl (by decide) c402
                refine lv_iconst (v := 0) hx hb dX1_readNeed_136 (by decide) ?_
                have rw405 : ROWL b L L363 := (fun k hk => ((axL363 44 k rfl).trans ((axL348 44 k rfl).trans ((axL314 44 k rfl).trans ((axL19 44 k rfl).trans rfl)))))
                exact W.zret (v := 0) hx hb hr rfl (fun t ht hW => ⟨⟨0, (V362, L363), rfl, ⟨hMV362, agV362, alL363, (by decide), (Or.inr ⟨rfl, hb401⟩), rw405⟩, by rw [ht]; exact hP, va_K.moved hW.alike hK, hD⟩, hS.F ht⟩) hS.2.2 dX1_readNeed_137
          · skip
            have f406 : ((V347 6 9)).toInt = 133 := b_eq rfl (by decide) c352
            refine lv_aload_n hx hb dX1_readNeed_113 rfl (lv_at hl 3 rfl) ?_
            have kd407 : gT.1 ((nx (nx (nx gs 1) 1) 1).1 0) = ((V347 6 9)).toInt := RelC.kd rl351
            have hr408 : ∀ k, Rc gT (Crun gs (Imember :: k)) (Crun (nx (nx (nx (nx gs 1) 1) 1) 1) (Iword 1 fx326 :: k)) := fun k => Rc.go1 (hr336 k) (called_y 1 fx326 (kd407.trans f406))
            have pq409 : (V347 1 1).toInt = ((V 1 1)).toInt := congrArg Int32.toInt ((ajV347 1 1 rfl).trans ((ajV323 1 1 rfl).trans ((ajV313 1 1 rfl).trans (ajV18 1 1 rfl))))
            refine gA_int (gA_runV (As := []) (rest := []) (ci := 1) (q0 := 1) hx hb hml hown hg hP hD hK hS hA hnw hgk (x_takeCalled3 l D ks H.size ad kk V347 L348 Z (b) (gT) ((nx (nx (nx gs 1) 1) 1)) hMV347 (show b < 2 from by omega) (show (V347 1 1).toInt = (b : Int) from by omega) rl351 (show (V347 6 9).toInt = 133 from by omega)) w923 w925 w15 w162 w926 rfl xgReader hdV_yX1_takeCalled ⟨Nat.le_of_ble_eq_true rfl, Nat.le_of_ble_eq_true rfl⟩ rfl hl.1 rfl (Nat.le_of_ble_eq_true rfl) dX1_readNeed_114 ⟨Nat.le_of_ble_eq_true rfl, Nat.le_of_ble_eq_true rfl⟩) hP hD hK hS hA (fun z410 u411 H locs w412 hP hD hK hS => ?_)
            obtain ⟨V415, L416⟩ := u411
            obtain ⟨hMV415, ajV415, axL416, rgz410, t413, t414⟩ := w412
            have alL416 : agL [6, 44] L L416 := agL.tr alL348 axL416 (by decide)
            have hP : va_P D vwCl (xw ad kk V415 L416 Z) H := hP
            have hD : va_D A (xw ad kk V415 L416 Z) := hD
            have hMV415 : rgd bX V415 := hMV415
            have ajV415 : agr [(1, 3), (1, 6), (6, 8), (6, 9), (6, 10)] [43, 44] V347 V415 := ajV415
            have agV415 : agr [(1, 3), (1, 6), (6, 8), (6, 9), (6, 10)] [43, 44, 49, 58, 59, 60] V V415 := agV347.tr ajV415 (by decide) (by decide)
            have rgz410 : 0 ≤ z410.toInt ∧ z410.toInt ≤ 1 := rgz410
            have t413 : KcS (mthW gT (nx (nx (nx (nx gs 1) 1) 1) 1) 4) z410.toInt (V415 1 3).toInt (fun x9 => RelC V415 L416 b gT x9.2 ∧ (V415 1 6).toInt = ((x9.1 : Nat) : Int) ∧ x9.1 < 20 ∧ keepS (nx (nx (nx gs 1) 1) 1) 2 x9.2) := t413
            have t414 : ROWL b L348 L416 := t414
            rcases t413 with ⟨q417, mx418, h419, rl420, hf421, hb422, kp423⟩ | ⟨q417, h419⟩
            · skip
              have hr424 : ∀ k, Rc gT (Crun gs (Imember :: k)) (Crun mx418.2 (Itake 59 :: IaddNeed 1 fx326 (mx418.1 + 1) :: Imember :: k)) := fun k => Rc.go1 (hr408 k) (wo_y h419)
              refine lv_if_ne (tgt := 122) hx hb dX1_readNeed_117 (by decide) (fun c425 => ?_) (fun c425 => ?_)
              · skip
                have f426 : z410.toInt ≠ 0 := b_neq rfl (by decide) c425
                refine lv_aload_n hx hb dX1_readNeed_122 rfl (lv_at hl 3 rfl) ?_
                refine va_get (D := D) (ci := 1) (v := .int (V415 1 6)) (fs := (xfReader ad V415 L416 Z)) (C := RX1) (T := TX1) (N := 9) hx hb hg inX1 hown hK hP 1 xgReader rfl 6 (by decide) (hg _ w310) (fun _ h9 => h9) rfl dX1_readNeed_123 ?_
                have r427 : (-1) ≤ ((V415 1 6)).toInt ∧ ((V415 1 6)).toInt ≤ 23 := hMV415 1 6
                refine lv_istore_n (lv' := [(3, .int (V415 1 6)), (2, .int (V323 1 6)), (1, .int 1), (0, .ref (ad 1))]) hx hb dX1_readNeed_126 rfl hl (by decide) rfl (fun ls hl => ?_)
                refine lv_aload_n hx hb dX1_readNeed_127 rfl (lv_at hl 3 rfl) ?_
                refine lv_bipush (v := 59) hx hb dX1_readNeed_128 (by decide) ?_
                have r428 : Int32.toInt 59 = 59 := by decide
                refine gA_int (gA_runV (As := [.int 59]) (rest := []) (ci := 1) (q0 := 1) hx hb hml hown hg hP hD hK hS hA hnw hgk (x_take2 l D ks H.size ad kk V415 L416 Z 59 ((mx418.2.1 0)) hMV415 (rl420).1 (rl420).2.1.1 (show 1 ≤ (Int32.toInt 59) from by omega)) w893 w895 w10 w162 w896 rfl xgReader hdV_yX1_take ⟨Nat.le_of_ble_eq_true rfl, Nat.le_of_ble_eq_true rfl⟩ rfl hl.1 rfl (Nat.le_of_ble_eq_true rfl) dX1_readNeed_130 ⟨Nat.le_of_ble_eq_true rfl, Nat.le_of_ble_eq_true rfl⟩) hP hD hK hS hA (fun z429 u430 H locs w431 hP hD hK hS => ?_)
                obtain ⟨V434, L435⟩ := u430
                obtain ⟨hMV434, ajV434, axL435, rgz429, t432, t433⟩ := w431
                have alL435 : agL [6, 44] L L435 := agL.tr alL416 axL435 (by decide)
                have hP : va_P D vwCl (xw ad kk V434 L435 Z) H := hP
                have hD : va_D A (xw ad kk V434 L435 Z) := hD
                have hMV434 : rgd bX V434 := hMV434
                have ajV434 : agr [(1, 3), (6, 8), (6, 9), (6, 10)] [] V415 V434 := ajV434
                have agV434 : agr [(1, 3), (1, 6), (6, 8), (6, 9), (6, 10)] [43, 44, 49, 58, 59, 60] V V434 := agV415.tr ajV434 (by decide) (by decide)
                have rgz429 : 0 ≤ z429.toInt ∧ z429.toInt ≤ 1 := rgz429
                have t432 : Imp (z429.toInt = 0) (1 ≤ (V434 1 3).toInt) := t432
                have t433 : (z429.toInt = 1 ∧ (V415 12 (mx418.2.1 0)).toInt = (Int32.toInt 59) ∧ CUR V434 L435 ((mx418.2.1 0) + 1) ∧ V434 1 3 = V415 1 3) ∨ (z429.toInt = 0 ∧ (V415 12 (mx418.2.1 0)).toInt ≠ (Int32.toInt 59) ∧ (V434 1 3).toInt = 1 + 16 * (V415 13 (mx418.2.1 0)).toInt) := t433
                rcases t433 with ⟨q436, h437, k438, k439⟩ | ⟨q436, h437, k438⟩
                · skip
                  have rl440 : RelC V434 L435 b gT (nx mx418.2 1) := RelC.nx1 rl420 ajV434 (by decide) axL435 (by decide) k438 k439
                  have hr441 : ∀ k, Rc gT (Crun gs (Imember :: k)) (Crun (nx mx418.2 1) (IaddNeed 1 fx326 (mx418.1 + 1) :: Imember :: k)) := fun k => Rc.go1 (hr424 k) (tk_y (rl420.tok.1.trans (h437.trans (by decide))))
                  refine lv_if_ne (tgt := 138) hx hb dX1_readNeed_133 (by decide) (fun c442 => ?_) (fun c442 => ?_)
                  · skip
                    have f443 : z429.toInt ≠ 0 := b_neq rfl (by decide) c442
                    refine lv_aload_n hx hb dX1_readNeed_138 rfl (lv_at hl 3 rfl) ?_
                    refine va_get (D := D) (ci := 1) (v := rfN ad 72 (V434 1 2)) (fs := (xfReader ad V434 L435 Z)) (C := RX1) (T := TX1) (N := 9) hx hb hg inX1 hown hK hP 1 xgReader rfl 2 (by decide) (hg _ w306) (fun _ h9 => h9) rfl dX1_readNeed_139 ?_
                    have pq444 : (V434 1 2).toInt = ((V 1 2)).toInt := congrArg Int32.toInt ((ajV434 1 2 rfl).trans ((ajV415 1 2 rfl).trans ((ajV347 1 2 rfl).trans ((ajV323 1 2 rfl).trans ((ajV313 1 2 rfl).trans (ajV18 1 2 rfl))))))
                    refine g_topv (v := .ref (ad (72 + go))) (rfN_r (by first | omega | ((try (have i_t432 := Imp.go t432 (by omega))); omega))) ?_
                    refine lv_iload_n hx hb dX1_readNeed_142 rfl (lv_at hl 2 rfl) ?_
                    refine lv_iload_n hx hb dX1_readNeed_143 rfl (lv_at hl 1 rfl) ?_
                    refine lv_iload_n hx hb dX1_readNeed_144 rfl (lv_at hl 0 rfl) ?_
                    have r445 : Int32.toInt 1 = 1 := by decide
                    refine gA_void (gA_runV (As := [.int 1, .int (V323 1 6), .int (V415 1 6)]) (rest := []) (ci := 3) (q0 := (72 + go)) hx hb hml hown hg hP hD hK hS hA hnw hgk (x_addNeed3 l D ks H.size ad kk V434 L435 Z 1 (V323 1 6) (V415 1 6) (go) hMV434 (show go < 48 from by first | omega | ((try (have i_t432 := Imp.go t432 (by omega))); omega))) w1011 w1012 w1013 w169 w1014 rfl (xgComp hgo) hdV_yX3_addNeed ⟨Nat.le_of_ble_eq_true rfl, Nat.le_of_ble_eq_true rfl⟩ rfl hl.1 rfl (Nat.le_of_ble_eq_true rfl) dX1_readNeed_145 ⟨Nat.le_of_ble_eq_true rfl, Nat.le_of_ble_eq_true rfl⟩) hP hD hK hS hA (fun u447 H locs w448 hP hD hK hS => ?_)
                    obtain ⟨V453, L454⟩ := u447
                    obtain ⟨hMV453, ajV453, axL454, fyV453, t449, t450, t451, t452⟩ := w448
                    have axL454 : L435 = L454 := Eq.symm axL454
                    subst axL454
                    have hP : va_P D vwCl (xw ad kk V453 L435 Z) H := hP
                    have hD : va_D A (xw ad kk V453 L435 Z) := hD
                    have hMV453 : rgd bX V453 := hMV453
                    have ajV453 : agr [] [49, 58, 59, 60] V434 V453 := ajV453
                    have agV453 : agr [(1, 3), (1, 6), (6, 8), (6, 9), (6, 10)] [43, 44, 49, 58, 59, 60] V V453 := agV434.tr ajV453 (by decide) (by decide)
                    have t449 : Imp ((V434 49 go).toInt < 8) ((V453 49 go).toInt = (V434 49 go).toInt + 1) := t449
                    have t450 : Imp ((V434 49 go).toInt < 8) (V453 58 = upd (V434 58) (8 * go + Int32.toNatClampNeg (V434 49 go)) (V323 1 6)) := t450
                    have t451 : Imp ((V434 49 go).toInt < 8) (V453 59 = upd (V434 59) (8 * go + Int32.toNatClampNeg (V434 49 go)) (V415 1 6)) := t451
                    have t452 : Imp ((V434 49 go).toInt < 8) (V453 60 = upd (V434 60) (8 * go + Int32.toNatClampNeg (V434 49 go)) 1) := t452
                    have pq455 : (V434 49 go).toInt = ((V 49 go)).toInt := congrArg Int32.toInt ((ajV434 49 go rfl).trans ((ajV415 49 go rfl).trans ((ajV347 49 go rfl).trans ((ajV323 49 go rfl).trans ((ajV313 49 go rfl).trans (ajV18 49 go rfl))))))
                    have ng458 : (V434 49 go).toInt < 8 := by omega
                    have rl456 : RelC V453 L435 b gT (sN (nx mx418.2 1) 1 ((nx mx418.2 1).1 1 + 1)) := RelC.nd rl440 (show (V434 1 2).toInt = ((go : Nat) : Int) from by omega) ajV453 (by decide) (Imp.go t449 (by omega))
                    have rl457 : RelC V453 L435 b gT (ndS (nx mx418.2 1) 1 fx326 (mx418.1 + 1)) := RelC.nu rl456 ndS_5 rfl
                    have cn459 : CNc V434 b gs := CNc.ag cno.1 (show agr [(1, 3), (1, 6), (6, 8), (6, 9), (6, 10)] [43, 44] V V434 from (agr.tr (agr.tr (agr.tr (agr.tr (agr.tr (agr.tr agr.rf ajV18 (by decide) (by decide)) ajV313 (by decide) (by decide)) ajV323 (by decide) (by decide)) ajV347 (by decide) (by decide)) ajV415 (by decide) (by decide)) ajV434 (by decide) (by decide))) (by decide) keepC.rf
                    have cn460 : CNc V434 b (nx mx418.2 1) := CNc.mv cn459 (fun _ _ _ => rfl) (keepC.tr (keepC.tr (keepC.tr (keepC.tr (keepC.tr (keepC.rf : keepC gs gs) (keepS.c (keepS.n1 1))) (keepS.c (keepS.n1 1))) (keepS.c (keepS.n1 1))) (keepS.c kp423)) (keepS.c (keepS.n1 1)))
                    have ow461 := (RelC.ow rl440 (show (V434 1 2).toInt = ((go : Nat) : Int) from by omega)).1
                    have pn9 : 8 * go + Int32.toNatClampNeg (V434 49 go) = 8 * go + (nx mx418.2 1).1 1 := by have h9 := i_clamp (x := V434 49 go) rfl (by omega); omega
                    have cn462 : CNc V453 b (ndS (nx mx418.2 1) 1 fx326 (mx418.1 + 1)) := CNc.nd2 cn460 (by rw [((keepC.tr (keepC.tr (keepC.tr (keepC.tr (keepC.tr (keepC.rf : keepC gs gs) (keepS.c (keepS.n1 1))) (keepS.c (keepS.n1 1))) (keepS.c (keepS.n1 1))) (keepS.c kp423)) (keepS.c (keepS.n1 1)))).2 2 (by decide)]; exact gol) hgl ow461 (by omega) ajV453 (by decide) (fun k hk => fyV453 49 k ⟨by decide, by decide⟩ (show k < go ∨ go + 1 ≤ k from by omega)) (Imp.go t449 ng458) (Imp.go t450 ng458) (Imp.go t451 ng458) (Imp.go t452 ng458) pn9 (show ((V323 1 6)).toInt = ((fx326 : Nat) : Int) from by omega) (show Int32.toInt 1 = (((1 : Int).toNat : Nat) : Int) from by decide) (show ((V415 1 6)).toInt + 1 = (((mx418.1 + 1) : Nat) : Int) from by omega) hb330
                    have hr463 : ∀ k, Rc gT (Crun gs (Imember :: k)) (Crun (ndS (nx mx418.2 1) 1 fx326 (mx418.1 + 1)) (Imember :: k)) := fun k => Rc.go1 (hr441 k) (m_addNeed 1 fx326 (mx418.1 + 1))
                    refine lv_iconst (v := 1) hx hb dX1_readNeed_148 (by decide) ?_
                    have pq464 : (V453 1 2).toInt = ((V 1 2)).toInt := congrArg Int32.toInt ((ajV453 1 2 rfl).trans ((ajV434 1 2 rfl).trans ((ajV415 1 2 rfl).trans ((ajV347 1 2 rfl).trans ((ajV323 1 2 rfl).trans ((ajV313 1 2 rfl).trans (ajV18 1 2 rfl)))))))
                    have ps465 : gs.1 0 + 1 ≤ (nx gs 1).1 0 := ((keepS.n1 1)).1
                    have ps466 : (nx gs 1).1 0 + 1 ≤ (nx (nx gs 1) 1).1 0 := ((keepS.n1 1)).1
                    have ps467 : (nx (nx gs 1) 1).1 0 + 1 ≤ (nx (nx (nx gs 1) 1) 1).1 0 := ((keepS.n1 1)).1
                    have ps468 : (nx (nx (nx gs 1) 1) 1).1 0 + 2 ≤ mx418.2.1 0 := (kp423).1
                    have ps469 : mx418.2.1 0 + 1 ≤ (nx mx418.2 1).1 0 := ((keepS.n1 1)).1
                    have ps470 : (ndS (nx mx418.2 1) 1 fx326 (mx418.1 + 1)).1 0 = (nx mx418.2 1).1 0 := ndS_5 0 (by decide)
                    have rw471 : ROWL b L L435 := (fun k hk => ((axL435 44 k rfl).trans ((t414 k hk).trans ((axL348 44 k rfl).trans ((axL314 44 k rfl).trans ((axL19 44 k rfl).trans rfl))))))
                    exact W.zret (v := 1) hx hb hr rfl (fun t ht hW => ⟨⟨1, (V453, L435), rfl, ⟨hMV453, agV453, alL435, (by decide), (Or.inl ⟨rfl, (ndS (nx mx418.2 1) 1 fx326 (mx418.1 + 1)), hr463, rl457, (by omega), ⟨cn462, (show OWl V453 b (nx mx418.2 1) from OWl.mv cno.2 (show V453 1 2 = V 1 2 from ((ajV453 1 2 rfl).trans ((ajV434 1 2 rfl).trans ((ajV415 1 2 rfl).trans ((ajV347 1 2 rfl).trans ((ajV323 1 2 rfl).trans ((ajV313 1 2 rfl).trans (ajV18 1 2 rfl)))))))) (keepC.tr (keepC.tr (keepC.tr (keepC.tr (keepC.tr (keepC.rf : keepC gs gs) (keepS.c (keepS.n1 1))) (keepS.c (keepS.n1 1))) (keepS.c (keepS.n1 1))) (keepS.c kp423)) (keepS.c (keepS.n1 1))))⟩⟩), rw471⟩, by rw [ht]; exact hP, va_K.moved hW.alike hK, hD⟩, hS.F ht⟩) hS.2.2 dX1_readNeed_149
                  · skip
                    have f472 : z429.toInt = 0 := b_eq rfl (by decide) c442
                    exfalso; first | omega | ((try (have i_t432 := Imp.go t432 (by omega))); omega)
                · skip
                  have hb473 : ∀ k, Rc gT (Crun gs (Imember :: k)) (Cbad (V434 1 3).toInt) := fun k => Rc.go1 (hr424 k) ((tk_n (fun h9 => h437 (rl420.tok.1.symm.trans (h9.trans (by decide))))).trans (fl_eq rl420.tok.2.2 k438))
                  refine lv_if_ne (tgt := 138) hx hb dX1_readNeed_133 (by decide) (fun c474 => ?_) (fun c474 => ?_)
                  · skip
                    have f475 : z429.toInt ≠ 0 := b_neq rfl (by decide) c474
                    exfalso; first | omega | ((try (have i_t432 := Imp.go t432 (by omega))); omega)
                  · skip
                    have f476 : z429.toInt = 0 := b_eq rfl (by decide) c474
                    refine lv_iconst (v := 0) hx hb dX1_readNeed_136 (by decide) ?_
                    have rw477 : ROWL b L L435 := (fun k hk => ((axL435 44 k rfl).trans ((t414 k hk).trans ((axL348 44 k rfl).trans ((axL314 44 k rfl).trans ((axL19 44 k rfl).trans rfl))))))
                    exact W.zret (v := 0) hx hb hr rfl (fun t ht hW => ⟨⟨0, (V434, L435), rfl, ⟨hMV434, agV434, alL435, (by decide), (Or.inr ⟨rfl, hb473⟩), rw477⟩, by rw [ht]; exact hP, va_K.moved hW.alike hK, hD⟩, hS.F ht⟩) hS.2.2 dX1_readNeed_137
              · skip
                have f478 : z410.toInt = 0 := b_eq rfl (by decide) c425
                exfalso; omega
            · skip
              have hb479 : ∀ k, Rc gT (Crun gs (Imember :: k)) (Cbad (V415 1 3).toInt) := fun k => Rc.go1 (hr408 k) (wo_b h419)
              refine lv_if_ne (tgt := 122) hx hb dX1_readNeed_117 (by decide) (fun c480 => ?_) (fun c480 => ?_)
              · skip
                have f481 : z410.toInt ≠ 0 := b_neq rfl (by decide) c480
                exfalso; omega
              · skip
                have f482 : z410.toInt = 0 := b_eq rfl (by decide) c480
                refine lv_iconst (v := 0) hx hb dX1_readNeed_120 (by decide) ?_
                have rw483 : ROWL b L L416 := (fun k hk => ((t414 k hk).trans ((axL348 44 k rfl).trans ((axL314 44 k rfl).trans ((axL19 44 k rfl).trans rfl)))))
                exact W.zret (v := 0) hx hb hr rfl (fun t ht hW => ⟨⟨0, (V415, L416), rfl, ⟨hMV415, agV415, alL416, (by decide), (Or.inr ⟨rfl, hb479⟩), rw483⟩, by rw [ht]; exact hP, va_K.moved hW.alike hK, hD⟩, hS.F ht⟩) hS.2.2 dX1_readNeed_121
        · skip
          have f484 : z319.toInt = 0 := b_eq rfl (by decide) c333
          exfalso; omega
      · skip
        have hb485 : ∀ k, Rc gT (Crun gs (Imember :: k)) (Cbad (V323 1 3).toInt) := fun k => Rc.go1 (hr305 k) (nd_b h327)
        refine lv_if_ne (tgt := 81) hx hb dX1_readNeed_76 (by decide) (fun c486 => ?_) (fun c486 => ?_)
        · skip
          have f487 : z319.toInt ≠ 0 := b_neq rfl (by decide) c486
          exfalso; omega
        · skip
          have f488 : z319.toInt = 0 := b_eq rfl (by decide) c486
          refine lv_iconst (v := 0) hx hb dX1_readNeed_79 (by decide) ?_
          have rw489 : ROWL b L L314 := (fun k hk => ((axL314 44 k rfl).trans ((axL19 44 k rfl).trans rfl)))
          exact W.zret (v := 0) hx hb hr rfl (fun t ht hW => ⟨⟨0, (V323, L314), rfl, ⟨hMV323, agV323, alL314, (by decide), (Or.inr ⟨rfl, hb485⟩), rw489⟩, by rw [ht]; exact hP, va_K.moved hW.alike hK, hD⟩, hS.F ht⟩) hS.2.2 dX1_readNeed_80
  · skip
    have f490 : 8 ≤ ((V 49 go)).toInt := b_nlt rfl (by decide) c4
    refine lv_aload_n hx hb dX1_readNeed_12 rfl (lv_at hl 0 rfl) ?_
    refine lv_iconst (v := 5) hx hb dX1_readNeed_13 (by decide) ?_
    have kd491 : gT.1 (gs.1 0) = ((V 6 9)).toInt := RelC.kd rel
    have r492 : Int32.toInt 5 = 5 := by decide
    refine gA_int (gA_runV (As := [.int 5]) (rest := []) (ci := 1) (q0 := 1) hx hb hml hown hg hP hD hK hS hA hnw hgk (x_wrong2 l D ks H.size ad kk V L Z 5 hMV (by decide)) w867 w869 w6 w162 w870 rfl xgReader hdV_yX1_wrong ⟨Nat.le_of_ble_eq_true rfl, Nat.le_of_ble_eq_true rfl⟩ rfl hl.1 rfl (Nat.le_of_ble_eq_true rfl) dX1_readNeed_14 ⟨Nat.le_of_ble_eq_true rfl, Nat.le_of_ble_eq_true rfl⟩) hP hD hK hS hA (fun z493 u494 H locs w495 hP hD hK hS => ?_)
    obtain ⟨V498, L499⟩ := u494
    obtain ⟨hMV498, ajV498, axL499, rgz493, t496, t497⟩ := w495
    have axL499 : L = L499 := Eq.symm axL499
    subst axL499
    have hP : va_P D vwCl (xw ad kk V498 L Z) H := hP
    have hD : va_D A (xw ad kk V498 L Z) := hD
    have hMV498 : rgd bX V498 := hMV498
    have ajV498 : agr [(1, 3)] [] V V498 := ajV498
    have agV498 : agr [(1, 3), (1, 6), (6, 8), (6, 9), (6, 10)] [43, 44, 49, 58, 59, 60] V V498 := agV.tr ajV498 (by decide) (by decide)
    have rgz493 : 0 ≤ z493.toInt ∧ z493.toInt ≤ 0 := rgz493
    have t496 : 1 ≤ (V498 1 3).toInt := t496
    have t497 : (V498 1 3).toInt = (Int32.toInt 5) + 16 * (V 6 10).toInt := t497
    have r500 : 0 ≤ ((V 6 10)).toInt ∧ ((V 6 10)).toInt ≤ 4000 := hMV 6 10
    have hr501 : ∀ k, Rc gT (Crun gs (Imember :: k)) (Crun gs (Imember :: k)) := fun k => Rc.rf
    have hb502 : ∀ k, Rc gT (Crun gs (Imember :: k)) (Cbad (V498 1 3).toInt) := fun k => Rc.go1 (hr501 k) ((mb_137f (kd491.trans kd9) (by have h9 := ow0.1; omega)).trans (fl_eq (RelC.st rel) (show (V498 1 3).toInt = 5 + 16 * (V 6 10).toInt from by omega)))
    have rw503 : ROWL b L L := (fun k hk => rfl)
    exact W.zret (v := z493) hx hb hr (nb_ok (by omega)) (fun t ht hW => ⟨⟨z493, (V498, L), rfl, ⟨hMV498, agV498, alL, (show 0 ≤ z493.toInt ∧ z493.toInt ≤ 1 from by omega), (Or.inr ⟨(by omega), hb502⟩), rw503⟩, by rw [ht]; exact hP, va_K.moved hW.alike hK, hD⟩, hS.F ht⟩) hS.2.2 dX1_readNeed_17
abbrev r_x_readMethod3 : Room := { frames := 91, cells := 0, slots := 0, locals := 2683 }
abbrev q_x_readMethod3 (D : va_G) (ks : KS) (ad : Nat → Nat) (kk : Nat → ClassId) (V : Vf) (L : Lf) (Z : XZ) (b : Nat) (gT : Tk) (gs : St) (go : Nat) (A : Nat → Prop) : Array Value → State → Outcome → State → Prop := va_Qi (fun (r : Int32) (u : Vf × Lf) => rgd bX u.1 ∧ agr [(1, 3), (1, 4), (1, 6), (1, 8), (6, 8), (6, 9), (6, 10)] [42, 43, 44, 48, 61] V u.1 ∧ agL [6, 44] L u.2 ∧ (0 ≤ r.toInt ∧ r.toInt ≤ 1) ∧ (Rd gT gs (fun k => Imember :: k) (fun k => Imember :: k) r.toInt (u.1 1 3).toInt (fun s9 => RelC u.1 u.2 b gT s9 ∧ gs.1 0 + 1 ≤ s9.1 0 ∧ CNo u.1 b s9)) ∧ (ROWL b L u.2)) (fun u t => gq D A (xw ad kk u.1 u.2 Z) (xty kk Z) t) A
set_option maxHeartbeats 4000000 in
set_option maxRecDepth 100000 in
theorem x_readMethod3 (l : Launch) (D : va_G) (ks : KS) (sz : Nat) (ad : Nat → Nat) (kk : Nat → ClassId) (V : Vf) (L : Lf) (Z : XZ) (b : Nat) (gT : Tk) (gs : St) (go : Nat) (hMV : rgd bX V) (hb2 : b < 2) (rbk : (V 1 1).toInt = (b : Int)) (own : (V 1 2).toInt = (go : Int)) (hgo : go < 48) (hgl : 24 * b ≤ go) (hgh : go < 24 * b + 24) (rel : RelC V L b gT gs) (cno : CNo V b gs) (kd9 : (V 6 9).toInt = 142)  : Met l yX1_readMethod (Cond.code yX1_readMethod cX1_readMethod 2 (some .boolean) :: GW) r_x_readMethod3 (va_Pc [.ref (ad 1)] (gp D ks (xw ad kk V L Z) (xty kk Z) sz)) (q_x_readMethod3 D ks ad kk V L Z  b gT gs go (va_A (xw ad kk V L Z) sz)) 0 0 (va_A (xw ad kk V L Z) sz) := by
  refine g_met (q_x_readMethod3 D ks ad kk V L Z  b gT gs go) (by decide) (Nat.le_of_ble_eq_true rfl) ?_
  intro p e s m below meth c A ls H locs hx hb hr hml hown hg hlocks hin hnw hgk hP hK hD hS hA hl
  have hown : s.vm.findClass RX1 = some m.cls := hown
  have hl : lv_has ls 2 [(0, .ref (ad 1))] := hl
  have hP : va_P D vwCl (xw ad kk V L Z) H := hP
  have hD : va_D A (xw ad kk V L Z) := hD
  have hK : va_K D vwCl (xty kk Z) s := hK
  have agV : agr [(1, 3), (1, 4), (1, 6), (1, 8), (6, 8), (6, 9), (6, 10)] [42, 43, 44, 48, 61] V V := agr.rf
  have alL : agL [6, 44] L L := agL.rf
  have r1 : (-1) ≤ ((V 1 1)).toInt ∧ ((V 1 1)).toInt ≤ 1 := hMV 1 1
  have r2 : (-1) ≤ ((V 1 2)).toInt ∧ ((V 1 2)).toInt ≤ 47 := hMV 1 2
  refine lv_aload_n hx hb dX1_readMethod_0 rfl (lv_at hl 0 rfl) ?_
  refine va_get (D := D) (ci := 1) (v := rfN ad 38 (V 1 1)) (fs := (xfReader ad V L Z)) (C := RX1) (T := TX1) (N := 9) hx hb hg inX1 hown hK hP 1 xgReader rfl 1 (by decide) (hg _ w305) (fun _ h9 => h9) rfl dX1_readMethod_1 ?_
  refine g_topv (v := .ref (ad (38 + b))) (rfN_r (by omega)) ?_
  refine va_getN (D := D) (ci := 0) (v := .int (V 42 b)) (fs := (xfBook ad V b)) (C := RX0) (T := TX0) (N := 13) hx hb hg inX0 hown hK hP (38 + b) (xgBook hb2) rfl 12 (by decide) (hnw.use 630 n630 rfl) (fun _ h9 => h9) rfl dX1_readMethod_4 ?_
  have r3 : 0 ≤ ((V 42 b)).toInt ∧ ((V 42 b)).toInt ≤ 8200 := hMV 42 b
  refine lv_istore_n (lv' := [(1, .int (V 42 b)), (0, .ref (ad 1))]) hx hb dX1_readMethod_7 rfl hl (by decide) rfl (fun ls hl => ?_)
  refine lv_aload_n hx hb dX1_readMethod_8 rfl (lv_at hl 1 rfl) ?_
  refine va_get (D := D) (ci := 1) (v := .ref (ad 6)) (fs := (xfReader ad V L Z)) (C := RX1) (T := TX1) (N := 9) hx hb hg inX1 hown hK hP 1 xgReader rfl 0 (by decide) (hg _ w304) (fun _ h9 => h9) rfl dX1_readMethod_9 ?_
  have hr4 : ∀ k, Rc gT (Crun gs (Imember :: k)) (Crun gs (Imember :: k)) := fun k => Rc.rf
  have kd5 : gT.1 (gs.1 0) = ((V 6 9)).toInt := RelC.kd rel
  have hr6 : ∀ k, Rc gT (Crun gs (Imember :: k)) (Crun (nx gs 1) (ImethN :: Iexpr 0 :: Itake 59 :: Imember :: k)) := fun k => Rc.go1 (hr4 k) (mb_142 (kd5.trans kd9))
  have l87 := RelC.l8 rel
  have r8 : 0 ≤ ((V 6 8)).toInt ∧ ((V 6 8)).toInt ≤ 4000 := hMV 6 8
  have r9 : 0 ≤ ((V 6 7)).toInt ∧ ((V 6 7)).toInt ≤ 4000 := hMV 6 7
  have lk10 := RelC.lk rel (show (V 6 9).toInt ≠ 0 from by omega)
  refine gA_void (gA_runV (As := []) (rest := []) (ci := 9) (q0 := 6) hx hb hml hown hg hP hD hK hS hA hnw hgk (x_next2 l D ks H.size ad kk V L Z  hMV (show (V 6 8).toInt ≤ (V 6 7).toInt from by omega)) w871 w852 w853 w157 w854 rfl xgTape hdV_yX9_next ⟨Nat.le_of_ble_eq_true rfl, Nat.le_of_ble_eq_true rfl⟩ rfl hl.1 rfl (Nat.le_of_ble_eq_true rfl) dX1_readMethod_12 ⟨Nat.le_of_ble_eq_true rfl, Nat.le_of_ble_eq_true rfl⟩) hP hD hK hS hA (fun u12 H locs w13 hP hD hK hS => ?_)
  obtain ⟨V16, L17⟩ := u12
  obtain ⟨hMV16, ajV16, axL17, t14, t15⟩ := w13
  have alL17 : agL [6, 44] L L17 := agL.tr alL axL17 (by decide)
  have hP : va_P D vwCl (xw ad kk V16 L17 Z) H := hP
  have hD : va_D A (xw ad kk V16 L17 Z) := hD
  have hMV16 : rgd bX V16 := hMV16
  have ajV16 : agr [(6, 8), (6, 9), (6, 10)] [] V V16 := ajV16
  have agV16 : agr [(1, 3), (1, 4), (1, 6), (1, 8), (6, 8), (6, 9), (6, 10)] [42, 43, 44, 48, 61] V V16 := agV.tr ajV16 (by decide) (by decide)
  have t14 : (V16 6 8).toInt ≤ (V16 6 7).toInt := t14
  have t15 : CUR V16 L17 (Int32.toNatClampNeg (V 6 8)) := t15
  have r18 : 0 ≤ ((V16 6 8)).toInt ∧ ((V16 6 8)).toInt ≤ 4000 := hMV16 6 8
  have pq19 : (V16 6 7).toInt = ((V 6 7)).toInt := congrArg Int32.toInt (ajV16 6 7 rfl)
  have rl20 : RelC V16 L17 b gT (nx gs 1) := RelC.nx1 rel ajV16 (by decide) axL17 (by decide) (by rw [← lk10]; exact t15) (ajV16 1 3 rfl)
  refine lv_aload_n hx hb dX1_readMethod_15 rfl (lv_at hl 1 rfl) ?_
  refine lv_aload_n hx hb dX1_readMethod_16 rfl (lv_at hl 1 rfl) ?_
  refine va_get (D := D) (ci := 1) (v := rfN ad 72 (V16 1 2)) (fs := (xfReader ad V16 L17 Z)) (C := RX1) (T := TX1) (N := 9) hx hb hg inX1 hown hK hP 1 xgReader rfl 2 (by decide) (hg _ w306) (fun _ h9 => h9) rfl dX1_readMethod_17 ?_
  have pq21 : (V16 1 2).toInt = ((V 1 2)).toInt := congrArg Int32.toInt (ajV16 1 2 rfl)
  refine g_topv (v := .ref (ad (72 + go))) (rfN_r (by omega)) ?_
  have pq22 : (V16 1 1).toInt = ((V 1 1)).toInt := congrArg Int32.toInt (ajV16 1 1 rfl)
  refine gA_int (gA_runV (As := [.ref (ad (72 + go))]) (rest := []) (ci := 1) (q0 := 1) hx hb hml hown hg hP hD hK hS hA hnw hgk (x_takeMethodO3 l D ks H.size ad kk V16 L17 Z (b) (gT) ((nx gs 1)) (go) hMV16 (show b < 2 from by omega) (show (V16 1 1).toInt = (b : Int) from by omega) (show (V16 1 2).toInt = (go : Int) from by omega) (show go < 48 from by omega) (show 24 * b ≤ go from by omega) (show go < 24 * b + 24 from by omega) rl20) w939 w941 w19 w162 w942 rfl xgReader hdV_yX1_takeMethod ⟨Nat.le_of_ble_eq_true rfl, Nat.le_of_ble_eq_true rfl⟩ rfl hl.1 rfl (Nat.le_of_ble_eq_true rfl) dX1_readMethod_20 ⟨Nat.le_of_ble_eq_true rfl, Nat.le_of_ble_eq_true rfl⟩) hP hD hK hS hA (fun z23 u24 H locs w25 hP hD hK hS => ?_)
  obtain ⟨V28, L29⟩ := u24
  obtain ⟨hMV28, ajV28, axL29, rgz23, t26, t27⟩ := w25
  have alL29 : agL [6, 44] L L29 := agL.tr alL17 axL29 (by decide)
  have hP : va_P D vwCl (xw ad kk V28 L29 Z) H := hP
  have hD : va_D A (xw ad kk V28 L29 Z) := hD
  have hMV28 : rgd bX V28 := hMV28
  have ajV28 : agr [(1, 3), (1, 6), (6, 8), (6, 9), (6, 10)] [43, 44] V16 V28 := ajV28
  have agV28 : agr [(1, 3), (1, 4), (1, 6), (1, 8), (6, 8), (6, 9), (6, 10)] [42, 43, 44, 48, 61] V V28 := agV16.tr ajV28 (by decide) (by decide)
  have rgz23 : 0 ≤ z23.toInt ∧ z23.toInt ≤ 1 := rgz23
  have t26 : KcS (mthN gT (nx gs 1)) z23.toInt (V28 1 3).toInt (fun x9 => RelC V28 L29 b gT x9.2 ∧ (V28 1 6).toInt = ((x9.1 : Nat) : Int) ∧ x9.1 < 20 ∧ keepS (nx gs 1) 1 x9.2) := t26
  have t27 : ROWL b L17 L29 := t27
  rcases t26 with ⟨q30, mx31, h32, rl33, hf34, hb35, kp36⟩ | ⟨q30, h32⟩
  · skip
    have hr37 : ∀ k, Rc gT (Crun gs (Imember :: k)) (Crun (sT mx31.2 (mx31.1 :: (nx gs 1).2.2.2)) (Iexpr 0 :: Itake 59 :: Imember :: k)) := fun k => Rc.go1 (hr6 k) (mn_y h32)
    refine lv_if_ne (tgt := 28) hx hb dX1_readMethod_23 (by decide) (fun c38 => ?_) (fun c38 => ?_)
    · skip
      have f39 : z23.toInt ≠ 0 := b_neq rfl (by decide) c38
      refine lv_aload_n hx hb dX1_readMethod_28 rfl (lv_at hl 1 rfl) ?_
      refine va_get (D := D) (ci := 1) (v := rfN ad 72 (V28 1 2)) (fs := (xfReader ad V28 L29 Z)) (C := RX1) (T := TX1) (N := 9) hx hb hg inX1 hown hK hP 1 xgReader rfl 2 (by decide) (hg _ w306) (fun _ h9 => h9) rfl dX1_readMethod_29 ?_
      have pq40 : (V28 1 2).toInt = ((V 1 2)).toInt := congrArg Int32.toInt ((ajV28 1 2 rfl).trans (ajV16 1 2 rfl))
      refine g_topv (v := .ref (ad (72 + go))) (rfN_r (by omega)) ?_
      refine va_getN (D := D) (ci := 3) (v := .ref (ad (264 + go))) (fs := (xfComp ad V28 go)) (C := RX3) (T := TX3) (N := 13) hx hb hg inX3 hown hK hP (72 + go) (xgComp hgo) rfl 3 (by decide) (hnw.use 508 n508 rfl) (fun _ h9 => h9) rfl dX1_readMethod_32 ?_
      refine lv_aload_n hx hb dX1_readMethod_35 rfl (lv_at hl 1 rfl) ?_
      refine va_get (D := D) (ci := 1) (v := .int (V28 1 6)) (fs := (xfReader ad V28 L29 Z)) (C := RX1) (T := TX1) (N := 9) hx hb hg inX1 hown hK hP 1 xgReader rfl 6 (by decide) (hg _ w310) (fun _ h9 => h9) rfl dX1_readMethod_36 ?_
      have r41 : (-1) ≤ ((V28 1 6)).toInt ∧ ((V28 1 6)).toInt ≤ 23 := hMV28 1 6
      refine lv_iload_n hx hb dX1_readMethod_39 rfl (lv_at hl 0 rfl) ?_
      refine va_iast (D := D) (i := (V28 1 6)) (x := (V 42 b)) hx hb hK hP hD hS (264 + go) (257 + go) (xgmethodStarts hgo) (xtmethodStarts hgo) (i_in (a := ((V28 1 6)).toInt) rfl (by omega)) dX1_readMethod_40 (fun H locs hP hD hS => ?_)
      have kc42 := i_clamp (x := (V28 1 6)) rfl (by omega)
      have kl43 : (Int32.toNatClampNeg (V28 1 6)) < 20 := by omega
      obtain ⟨V44, hV44⟩ : ∃ z, z = up2 V28 61 (20 * go + (Int32.toNatClampNeg (V28 1 6))) (V 42 b) := ⟨_, rfl⟩
      have ew45 : (xw ad kk V28 L29 Z).set (264 + go) ((ad (264 + go)), .inl ((kk (264 + go)), 20, .inl (upd (fun q => if q < 20 then V28 61 (20 * go + q) else 0) (Int32.toNatClampNeg (V28 1 6)) (V 42 b)))) = xw ad kk V44 L29 Z := by rw [hV44]; exact xpmethodStarts hgo kl43
      have hP : va_P D vwCl (xw ad kk V44 L29 Z) H := by rw [← ew45]; exact hP
      have hD : va_D A (xw ad kk V44 L29 Z) := by rw [← ew45]; exact hD
      have hMV44 : rgd bX V44 := hMV28.put hV44 (show (-1) ≤ ((V 42 b)).toInt ∧ ((V 42 b)).toInt ≤ 8200 from by omega)
      have agV44 : agr [(1, 3), (1, 4), (1, 6), (1, 8), (6, 8), (6, 9), (6, 10)] [42, 43, 44, 48, 61] V V44 := agV28.up hV44 rfl
      have kc47 : (20 * go + (Int32.toNatClampNeg (V28 1 6))) = 20 * go + mx31.1 := by omega
      have h61 := hV44
      rw [kc47] at h61
      have rl46 : RelC V44 L29 b gT (sT mx31.2 (mx31.1 :: (nx gs 1).2.2.2)) := RelC.mt rl33 (show (V28 1 2).toInt = ((go : Nat) : Int) from by omega) h61 (show ((V 42 b)).toInt ≠ -1 from by omega) (congrArg (fun q9 => q9.2) (kp36).2.2.2).symm
      refine lv_aload_n hx hb dX1_readMethod_41 rfl (lv_at hl 1 rfl) ?_
      refine lv_iconst (v := 0) hx hb dX1_readMethod_42 (by decide) ?_
      have pq49 : (V44 1 2).toInt = ((V 1 2)).toInt := congrArg Int32.toInt ((up2_o hV44 (by decide)).trans ((ajV28 1 2 rfl).trans (ajV16 1 2 rfl)))
      have w448 := (RelC.ow rl46 (show (V44 1 2).toInt = ((go : Nat) : Int) from by omega)).2.2.2.1
      have r50 : Int32.toInt 0 = 0 := by decide
      have pq51 : (V44 1 1).toInt = ((V 1 1)).toInt := congrArg Int32.toInt ((up2_o hV44 (by decide)).trans ((ajV28 1 1 rfl).trans (ajV16 1 1 rfl)))
      refine gA_int (gA_runV (As := [.int 0]) (rest := []) (ci := 1) (q0 := 1) hx hb hml hown hg hP hD hK hS hA hnw hgk (x_readE3 l D ks H.size ad kk V44 L29 Z 0 (b) (gT) ((sT mx31.2 (mx31.1 :: (nx gs 1).2.2.2))) hMV44 (by decide) (show b < 2 from by omega) (show (V44 1 1).toInt = (b : Int) from by omega) rl46 (show (Int32.toInt 0) = (((sT mx31.2 (mx31.1 :: (nx gs 1).2.2.2)).1 4 : Nat) : Int) from by omega) (fun _ => (show 0 ≤ (V44 1 2).toInt from by omega))) w947 w949 w20 w162 w950 rfl xgReader hdV_yX1_readE ⟨Nat.le_of_ble_eq_true rfl, Nat.le_of_ble_eq_true rfl⟩ rfl hl.1 rfl (Nat.le_of_ble_eq_true rfl) dX1_readMethod_43 ⟨Nat.le_of_ble_eq_true rfl, Nat.le_of_ble_eq_true rfl⟩) hP hD hK hS hA (fun z52 u53 H locs w54 hP hD hK hS => ?_)
      obtain ⟨V57, L58⟩ := u53
      obtain ⟨hMV57, ajV57, axL58, rgz52, t55, t56⟩ := w54
      have alL58 : agL [6, 44] L L58 := agL.tr alL29 axL58 (by decide)
      have hP : va_P D vwCl (xw ad kk V57 L58 Z) H := hP
      have hD : va_D A (xw ad kk V57 L58 Z) := hD
      have hMV57 : rgd bX V57 := hMV57
      have ajV57 : agr [(1, 3), (1, 4), (1, 6), (1, 8), (6, 8), (6, 9), (6, 10)] [42, 43, 44, 48] V44 V57 := ajV57
      have agV57 : agr [(1, 3), (1, 4), (1, 6), (1, 8), (6, 8), (6, 9), (6, 10)] [42, 43, 44, 48, 61] V V57 := agV44.tr ajV57 (by decide) (by decide)
      have rgz52 : 0 ≤ z52.toInt ∧ z52.toInt ≤ 1 := rgz52
      have t55 : Rd gT (sT mx31.2 (mx31.1 :: (nx gs 1).2.2.2)) (fun k => Iexpr 0 :: Itake 59 :: k) (fun k => k) z52.toInt (V57 1 3).toInt (fun s9 => RelC V57 L58 b gT s9 ∧ keepS (sT mx31.2 (mx31.1 :: (nx gs 1).2.2.2)) 2 s9) := t55
      have t56 : ROWL b L29 L58 := t56
      rcases t55 with ⟨q59, sx60, h61, rl62, kp63⟩ | ⟨q59, h61⟩
      · skip
        have hr64 : ∀ k, Rc gT (Crun gs (Imember :: k)) (Crun sx60 (Imember :: k)) := fun k => (hr37 k).tr (h61 (Imember :: k))
        have cn65 : CNc V57 b gs := CNc.ag cno.1 (show agr [(1, 3), (1, 4), (1, 6), (1, 8), (6, 8), (6, 9), (6, 10)] [42, 43, 44, 48, 61] V V57 from (agr.tr (agr.up (agr.tr (agr.tr agr.rf ajV16 (by decide) (by decide)) ajV28 (by decide) (by decide)) hV44 rfl) ajV57 (by decide) (by decide))) (by decide) keepC.rf
        have cn66 : CNc V57 b sx60 := CNc.mv cn65 (fun _ _ _ => rfl) (keepC.tr (keepC.tr (keepC.tr (keepC.tr (keepC.rf : keepC gs gs) (keepS.c (keepS.n1 1))) (keepS.c kp36)) (keepC.st : keepC mx31.2 (sT mx31.2 (mx31.1 :: (nx gs 1).2.2.2)))) (keepS.c kp63))
        have pq67 : (V57 1 2).toInt = ((V 1 2)).toInt := congrArg Int32.toInt ((ajV57 1 2 rfl).trans ((up2_o hV44 (by decide)).trans ((ajV28 1 2 rfl).trans (ajV16 1 2 rfl))))
        have ps68 : gs.1 0 + 1 ≤ (nx gs 1).1 0 := ((keepS.n1 1)).1
        have ps69 : (nx gs 1).1 0 + 1 ≤ mx31.2.1 0 := (kp36).1
        have ps70 : (sT mx31.2 (mx31.1 :: (nx gs 1).2.2.2)).1 0 = mx31.2.1 0 := rfl
        have ps71 : (sT mx31.2 (mx31.1 :: (nx gs 1).2.2.2)).1 0 + 2 ≤ sx60.1 0 := (kp63).1
        have rw72 : ROWL b L L58 := (fun k hk => ((t56 k hk).trans ((t27 k hk).trans ((axL17 44 k rfl).trans rfl))))
        exact W.zret (v := z52) hx hb hr (nb_ok (by omega)) (fun t ht hW => ⟨⟨z52, (V57, L58), rfl, ⟨hMV57, agV57, alL58, (show 0 ≤ z52.toInt ∧ z52.toInt ≤ 1 from by omega), (Or.inl ⟨(by omega), sx60, hr64, rl62, (by omega), ⟨cn66, (show OWl V57 b sx60 from OWl.mv cno.2 (show V57 1 2 = V 1 2 from ((ajV57 1 2 rfl).trans ((up2_o hV44 (by decide)).trans ((ajV28 1 2 rfl).trans (ajV16 1 2 rfl))))) (keepC.tr (keepC.tr (keepC.tr (keepC.tr (keepC.rf : keepC gs gs) (keepS.c (keepS.n1 1))) (keepS.c kp36)) (keepC.st : keepC mx31.2 (sT mx31.2 (mx31.1 :: (nx gs 1).2.2.2)))) (keepS.c kp63)))⟩⟩), rw72⟩, by rw [ht]; exact hP, va_K.moved hW.alike hK, hD⟩, hS.F ht⟩) hS.2.2 dX1_readMethod_46
      · skip
        have hb73 : ∀ k, Rc gT (Crun gs (Imember :: k)) (Cbad (V57 1 3).toInt) := fun k => (hr37 k).tr (h61 (Imember :: k))
        have rw74 : ROWL b L L58 := (fun k hk => ((t56 k hk).trans ((t27 k hk).trans ((axL17 44 k rfl).trans rfl))))
        exact W.zret (v := z52) hx hb hr (nb_ok (by omega)) (fun t ht hW => ⟨⟨z52, (V57, L58), rfl, ⟨hMV57, agV57, alL58, (show 0 ≤ z52.toInt ∧ z52.toInt ≤ 1 from by omega), (Or.inr ⟨(by omega), hb73⟩), rw74⟩, by rw [ht]; exact hP, va_K.moved hW.alike hK, hD⟩, hS.F ht⟩) hS.2.2 dX1_readMethod_46
    · skip
      have f75 : z23.toInt = 0 := b_eq rfl (by decide) c38
      exfalso; omega
  · skip
    have hb76 : ∀ k, Rc gT (Crun gs (Imember :: k)) (Cbad (V28 1 3).toInt) := fun k => Rc.go1 (hr6 k) (mn_b h32)
    refine lv_if_ne (tgt := 28) hx hb dX1_readMethod_23 (by decide) (fun c77 => ?_) (fun c77 => ?_)
    · skip
      have f78 : z23.toInt ≠ 0 := b_neq rfl (by decide) c77
      exfalso; omega
    · skip
      have f79 : z23.toInt = 0 := b_eq rfl (by decide) c77
      refine lv_iconst (v := 0) hx hb dX1_readMethod_26 (by decide) ?_
      have rw80 : ROWL b L L29 := (fun k hk => ((t27 k hk).trans ((axL17 44 k rfl).trans rfl)))
      exact W.zret (v := 0) hx hb hr rfl (fun t ht hW => ⟨⟨0, (V28, L29), rfl, ⟨hMV28, agV28, alL29, (by decide), (Or.inr ⟨rfl, hb76⟩), rw80⟩, by rw [ht]; exact hP, va_K.moved hW.alike hK, hD⟩, hS.F ht⟩) hS.2.2 dX1_readMethod_27
abbrev r_x_readMember3 : Room := { frames := 92, cells := 0, slots := 0, locals := 2704 }
abbrev q_x_readMember3 (D : va_G) (ks : KS) (ad : Nat → Nat) (kk : Nat → ClassId) (V : Vf) (L : Lf) (Z : XZ) (b : Nat) (gT : Tk) (gs : St) (go : Nat) (A : Nat → Prop) : Array Value → State → Outcome → State → Prop := va_Qi (fun (r : Int32) (u : Vf × Lf) => rgd bX u.1 ∧ agr [(1, 2), (1, 3), (1, 4), (1, 6), (1, 8), (6, 8), (6, 9), (6, 10)] [42, 43, 44, 48, 49, 56, 57, 58, 59, 60, 61] V u.1 ∧ agL [6, 44] L u.2 ∧ (0 ≤ r.toInt ∧ r.toInt ≤ 1) ∧ ((u.1 1 2).toInt = (V 1 2).toInt ∨ (u.1 1 2).toInt = -1) ∧ (Rd gT gs (fun k => Imember :: k) (fun k => nxI (u.1 1 2) k) r.toInt (u.1 1 3).toInt (fun s9 => RelC u.1 u.2 b gT s9 ∧ gs.1 0 + 1 ≤ s9.1 0 ∧ CNo u.1 b s9)) ∧ (ROWL b L u.2)) (fun u t => gq D A (xw ad kk u.1 u.2 Z) (xty kk Z) t) A
set_option maxHeartbeats 4000000 in
set_option maxRecDepth 100000 in
theorem x_readMember3 (l : Launch) (D : va_G) (ks : KS) (sz : Nat) (ad : Nat → Nat) (kk : Nat → ClassId) (V : Vf) (L : Lf) (Z : XZ) (b : Nat) (gT : Tk) (gs : St) (go : Nat) (hMV : rgd bX V) (hb2 : b < 2) (rbk : (V 1 1).toInt = (b : Int)) (own : (V 1 2).toInt = (go : Int)) (hgo : go < 48) (hgl : 24 * b ≤ go) (hgh : go < 24 * b + 24) (rel : RelC V L b gT gs) (cno : CNo V b gs)  : Met l yX1_readMember (Cond.code yX1_readMember cX1_readMember 2 (some .boolean) :: GW) r_x_readMember3 (va_Pc [.ref (ad 1)] (gp D ks (xw ad kk V L Z) (xty kk Z) sz)) (q_x_readMember3 D ks ad kk V L Z  b gT gs go (va_A (xw ad kk V L Z) sz)) 0 0 (va_A (xw ad kk V L Z) sz) := by
  refine g_met (q_x_readMember3 D ks ad kk V L Z  b gT gs go) (by decide) (Nat.le_of_ble_eq_true rfl) ?_
  intro p e s m below meth c A ls H locs hx hb hr hml hown hg hlocks hin hnw hgk hP hK hD hS hA hl
  have hown : s.vm.findClass RX1 = some m.cls := hown
  have hl : lv_has ls 2 [(0, .ref (ad 1))] := hl
  have hP : va_P D vwCl (xw ad kk V L Z) H := hP
  have hD : va_D A (xw ad kk V L Z) := hD
  have hK : va_K D vwCl (xty kk Z) s := hK
  have agV : agr [(1, 2), (1, 3), (1, 4), (1, 6), (1, 8), (6, 8), (6, 9), (6, 10)] [42, 43, 44, 48, 49, 56, 57, 58, 59, 60, 61] V V := agr.rf
  have alL : agL [6, 44] L L := agL.rf
  have r1 : (-1) ≤ ((V 1 1)).toInt ∧ ((V 1 1)).toInt ≤ 1 := hMV 1 1
  have r2 : (-1) ≤ ((V 1 2)).toInt ∧ ((V 1 2)).toInt ≤ 47 := hMV 1 2
  have ow0 := RelC.ow rel own
  refine lv_aload_n hx hb dX1_readMember_0 rfl (lv_at hl 0 rfl) ?_
  refine va_get (D := D) (ci := 1) (v := rfN ad 38 (V 1 1)) (fs := (xfReader ad V L Z)) (C := RX1) (T := TX1) (N := 9) hx hb hg inX1 hown hK hP 1 xgReader rfl 1 (by decide) (hg _ w305) (fun _ h9 => h9) rfl dX1_readMember_1 ?_
  refine g_topv (v := .ref (ad (38 + b))) (rfN_r (by omega)) ?_
  refine va_getN (D := D) (ci := 0) (v := .int (V 42 b)) (fs := (xfBook ad V b)) (C := RX0) (T := TX0) (N := 13) hx hb hg inX0 hown hK hP (38 + b) (xgBook hb2) rfl 12 (by decide) (hnw.use 630 n630 rfl) (fun _ h9 => h9) rfl dX1_readMember_4 ?_
  have r3 : 0 ≤ ((V 42 b)).toInt ∧ ((V 42 b)).toInt ≤ 8200 := hMV 42 b
  refine lv_istore_n (lv' := [(1, .int (V 42 b)), (0, .ref (ad 1))]) hx hb dX1_readMember_7 rfl hl (by decide) rfl (fun ls hl => ?_)
  refine lv_aload_n hx hb dX1_readMember_8 rfl (lv_at hl 1 rfl) ?_
  refine va_get (D := D) (ci := 1) (v := .ref (ad 6)) (fs := (xfReader ad V L Z)) (C := RX1) (T := TX1) (N := 9) hx hb hg inX1 hown hK hP 1 xgReader rfl 0 (by decide) (hg _ w304) (fun _ h9 => h9) rfl dX1_readMember_9 ?_
  refine va_getN (D := D) (ci := 9) (v := .int (V 6 9)) (fs := (xfTape ad V L Z)) (C := RX9) (T := TX9) (N := 12) hx hb hg inX9 hown hK hP 6 xgTape rfl 9 (by decide) (hnw.use 262 n262 rfl) (fun _ h9 => h9) rfl dX1_readMember_12 ?_
  by_cases q4 : (V 6 9) = 125
  · refine g_top (v := 125) q4 ?_
    have fq4 : ((V 6 9)).toInt = 125 := b_eq rfl (by decide) q4
    refine lv_lookup (x := 125) (off := 49) (tgt := 64) hx hb dX1_readMember_15 (by decide) (by decide) (by decide) ?_
    refine lv_aload_n hx hb dX1_readMember_64 rfl (lv_at hl 1 rfl) ?_
    refine lv_null hx hb dX1_readMember_65 ?_
    refine va_put (D := D) (ci := 1) (v := .null) (ty := tyX1 2) (fs := (xfReader ad V L Z)) (C := RX1) (T := TX1) (N := 9) hx hb hg inX1 tyX1 tyX1_ok nmX1 hown hK hP hD hS 1 xgReader rfl 2 (by decide) (hg _ w306) (fun _ h9 => h9) rfl (tyX1_ok 2 (by decide)) rfl rfl (Nat.le_of_ble_eq_true rfl) dX1_readMember_66 (fun H locs hP hD hS => ?_)
    obtain ⟨V5, hV5⟩ : ∃ z, z = up2 V 1 2 (-1) := ⟨_, rfl⟩
    have ew6 : (xw ad kk V L Z).set 1 ((ad 1), .inr (1, (xfReader ad V L Z).set 2 (.null))) = xw ad kk V5 L Z := by rw [hV5]; exact xr_owner_n
    have hP : va_P D vwCl (xw ad kk V5 L Z) H := by rw [← ew6]; exact hP
    have hD : va_D A (xw ad kk V5 L Z) := by rw [← ew6]; exact hD
    have hMV5 : rgd bX V5 := hMV.put hV5 (by decide)
    have agV5 : agr [(1, 2), (1, 3), (1, 4), (1, 6), (1, 8), (6, 8), (6, 9), (6, 10)] [42, 43, 44, 48, 49, 56, 57, 58, 59, 60, 61] V V5 := agV.up hV5 rfl
    have rl7 : RelC V5 L b gT gs := RelC.on rel hV5 (by decide)
    refine lv_aload_n hx hb dX1_readMember_69 rfl (lv_at hl 1 rfl) ?_
    refine va_get (D := D) (ci := 1) (v := .ref (ad 6)) (fs := (xfReader ad V5 L Z)) (C := RX1) (T := TX1) (N := 9) hx hb hg inX1 hown hK hP 1 xgReader rfl 0 (by decide) (hg _ w304) (fun _ h9 => h9) rfl dX1_readMember_70 ?_
    have hr8 : ∀ k, Rc gT (Crun gs (Imember :: k)) (Crun gs (Imember :: k)) := fun k => Rc.rf
    have kd9 : gT.1 (gs.1 0) = ((V 6 9)).toInt := (RelC.kd rl7).trans (congrArg Int32.toInt (up2_o hV5 (by decide)))
    have hr10 : ∀ k, Rc gT (Crun gs (Imember :: k)) (Crun (nx gs 1) (Istmt :: k)) := fun k => Rc.go1 (hr8 k) (mb_125 (kd9.trans fq4))
    have l811 := RelC.l8 rl7
    have pq12 : (V5 6 8).toInt = ((V 6 8)).toInt := congrArg Int32.toInt (up2_o hV5 (by decide))
    have r13 : 0 ≤ ((V 6 8)).toInt ∧ ((V 6 8)).toInt ≤ 4000 := hMV 6 8
    have pq14 : (V5 6 7).toInt = ((V 6 7)).toInt := congrArg Int32.toInt (up2_o hV5 (by decide))
    have r15 : 0 ≤ ((V 6 7)).toInt ∧ ((V 6 7)).toInt ≤ 4000 := hMV 6 7
    have pq16 : (V5 6 9).toInt = ((V 6 9)).toInt := congrArg Int32.toInt (up2_o hV5 (by decide))
    have lk17 := RelC.lk rl7 (show (V5 6 9).toInt ≠ 0 from by omega)
    refine gA_void (gA_runV (As := []) (rest := []) (ci := 9) (q0 := 6) hx hb hml hown hg hP hD hK hS hA hnw hgk (x_next2 l D ks H.size ad kk V5 L Z  hMV5 (show (V5 6 8).toInt ≤ (V5 6 7).toInt from by omega)) w871 w852 w853 w157 w854 rfl xgTape hdV_yX9_next ⟨Nat.le_of_ble_eq_true rfl, Nat.le_of_ble_eq_true rfl⟩ rfl hl.1 rfl (Nat.le_of_ble_eq_true rfl) dX1_readMember_73 ⟨Nat.le_of_ble_eq_true rfl, Nat.le_of_ble_eq_true rfl⟩) hP hD hK hS hA (fun u19 H locs w20 hP hD hK hS => ?_)
    obtain ⟨V23, L24⟩ := u19
    obtain ⟨hMV23, ajV23, axL24, t21, t22⟩ := w20
    have alL24 : agL [6, 44] L L24 := agL.tr alL axL24 (by decide)
    have hP : va_P D vwCl (xw ad kk V23 L24 Z) H := hP
    have hD : va_D A (xw ad kk V23 L24 Z) := hD
    have hMV23 : rgd bX V23 := hMV23
    have ajV23 : agr [(6, 8), (6, 9), (6, 10)] [] V5 V23 := ajV23
    have agV23 : agr [(1, 2), (1, 3), (1, 4), (1, 6), (1, 8), (6, 8), (6, 9), (6, 10)] [42, 43, 44, 48, 49, 56, 57, 58, 59, 60, 61] V V23 := agV5.tr ajV23 (by decide) (by decide)
    have t21 : (V23 6 8).toInt ≤ (V23 6 7).toInt := t21
    have t22 : CUR V23 L24 (Int32.toNatClampNeg (V5 6 8)) := t22
    have r25 : 0 ≤ ((V23 6 8)).toInt ∧ ((V23 6 8)).toInt ≤ 4000 := hMV23 6 8
    have pq26 : (V23 6 7).toInt = ((V 6 7)).toInt := congrArg Int32.toInt ((ajV23 6 7 rfl).trans (up2_o hV5 (by decide)))
    have rl27 : RelC V23 L24 b gT (nx gs 1) := RelC.nx1 rl7 ajV23 (by decide) axL24 (by decide) (by rw [← lk17]; exact t22) (ajV23 1 3 rfl)
    refine lv_iconst (v := 1) hx hb dX1_readMember_76 (by decide) ?_
    have pq28 : (V23 1 2).toInt = (-1) := (congrArg Int32.toInt ((ajV23 1 2 rfl).trans (up2_s hV5))).trans (by decide)
    have ps29 : gs.1 0 + 1 ≤ (nx gs 1).1 0 := ((keepS.n1 1)).1
    have cn30 : CNc V23 b gs := CNc.ag cno.1 (show agr [(1, 2), (6, 8), (6, 9), (6, 10)] [] V V23 from (agr.tr (agr.up agr.rf hV5 rfl) ajV23 (by decide) (by decide))) (by decide) keepC.rf
    have cn31 : CNc V23 b (nx gs 1) := CNc.mv cn30 (fun _ _ _ => rfl) (keepC.tr (keepC.rf : keepC gs gs) (keepS.c (keepS.n1 1)))
    have rw32 : ROWL b L L24 := (fun k hk => ((axL24 44 k rfl).trans rfl))
    exact W.zret (v := 1) hx hb hr rfl (fun t ht hW => ⟨⟨1, (V23, L24), rfl, ⟨hMV23, agV23, alL24, (by decide), (show (V23 1 2).toInt = (V 1 2).toInt ∨ (V23 1 2).toInt = -1 from by omega), (Or.inl ⟨rfl, (nx gs 1), (fun k => show Rc gT (Crun gs (Imember :: k)) (Crun (nx gs 1) (nxI (V23 1 2) k)) from by rw [nxI_s (show (V23 1 2).toInt < 0 from by omega)]; exact hr10 k), rl27, (by omega), ⟨cn31, (OWl.n (show (V23 1 2).toInt < 0 from by omega))⟩⟩), rw32⟩, by rw [ht]; exact hP, va_K.moved hW.alike hK, hD⟩, hS.F ht⟩) hS.2.2 dX1_readMember_77
  have gq4 : ((V 6 9)).toInt ≠ 125 := b_neq rfl (by decide) q4
  by_cases q33 : (V 6 9) = 137
  · refine g_top (v := 137) q33 ?_
    have fq33 : ((V 6 9)).toInt = 137 := b_eq rfl (by decide) q33
    refine lv_lookup (x := 137) (off := 63) (tgt := 78) hx hb dX1_readMember_15 (by decide) (by decide) (by decide) ?_
    refine lv_aload_n hx hb dX1_readMember_78 rfl (lv_at hl 1 rfl) ?_
    have hr34 : ∀ k, Rc gT (Crun gs (Imember :: k)) (Crun gs (Imember :: k)) := fun k => Rc.rf
    refine gA_int (gA_runV (As := []) (rest := []) (ci := 1) (q0 := 1) hx hb hml hown hg hP hD hK hS hA hnw hgk (x_readNeed3 l D ks H.size ad kk V L Z (b) (gT) (gs) (go) hMV (show b < 2 from by omega) (show (V 1 1).toInt = (b : Int) from by omega) (show (V 1 2).toInt = (go : Int) from by omega) (show go < 48 from by omega) (show 24 * b ≤ go from by omega) (show go < 24 * b + 24 from by omega) rel cno (show (V 6 9).toInt = 137 from by omega)) w1007 w1009 w32 w162 w1010 rfl xgReader hdV_yX1_readNeed ⟨Nat.le_of_ble_eq_true rfl, Nat.le_of_ble_eq_true rfl⟩ rfl hl.1 rfl (Nat.le_of_ble_eq_true rfl) dX1_readMember_79 ⟨Nat.le_of_ble_eq_true rfl, Nat.le_of_ble_eq_true rfl⟩) hP hD hK hS hA (fun z35 u36 H locs w37 hP hD hK hS => ?_)
    obtain ⟨V40, L41⟩ := u36
    obtain ⟨hMV40, ajV40, axL41, rgz35, t38, t39⟩ := w37
    have alL41 : agL [6, 44] L L41 := agL.tr alL axL41 (by decide)
    have hP : va_P D vwCl (xw ad kk V40 L41 Z) H := hP
    have hD : va_D A (xw ad kk V40 L41 Z) := hD
    have hMV40 : rgd bX V40 := hMV40
    have ajV40 : agr [(1, 3), (1, 6), (6, 8), (6, 9), (6, 10)] [43, 44, 49, 58, 59, 60] V V40 := ajV40
    have agV40 : agr [(1, 2), (1, 3), (1, 4), (1, 6), (1, 8), (6, 8), (6, 9), (6, 10)] [42, 43, 44, 48, 49, 56, 57, 58, 59, 60, 61] V V40 := agV.tr ajV40 (by decide) (by decide)
    have rgz35 : 0 ≤ z35.toInt ∧ z35.toInt ≤ 1 := rgz35
    have t38 : Rd gT gs (fun k => Imember :: k) (fun k => Imember :: k) z35.toInt (V40 1 3).toInt (fun s9 => RelC V40 L41 b gT s9 ∧ gs.1 0 + 1 ≤ s9.1 0 ∧ CNo V40 b s9) := t38
    have t39 : ROWL b L L41 := t39
    rcases t38 with ⟨q42, sx43, h44, rl45, kp46, cn47⟩ | ⟨q42, h44⟩
    · skip
      have hr48 : ∀ k, Rc gT (Crun gs (Imember :: k)) (Crun sx43 (Imember :: k)) := fun k => (hr34 k).tr (h44 k)
      have pq49 : (V40 1 2).toInt = ((V 1 2)).toInt := congrArg Int32.toInt (ajV40 1 2 rfl)
      have ps50 : gs.1 0 + 1 ≤ sx43.1 0 := kp46
      have rw51 : ROWL b L L41 := (fun k hk => ((t39 k hk).trans rfl))
      exact W.zret (v := z35) hx hb hr (nb_ok (by omega)) (fun t ht hW => ⟨⟨z35, (V40, L41), rfl, ⟨hMV40, agV40, alL41, (show 0 ≤ z35.toInt ∧ z35.toInt ≤ 1 from by omega), (show (V40 1 2).toInt = (V 1 2).toInt ∨ (V40 1 2).toInt = -1 from by omega), (Or.inl ⟨(by omega), sx43, (fun k => show Rc gT (Crun gs (Imember :: k)) (Crun sx43 (nxI (V40 1 2) k)) from by rw [nxI_m (show 0 ≤ (V40 1 2).toInt from by omega)]; exact hr48 k), rl45, (by omega), ⟨cn47.1, cn47.2⟩⟩), rw51⟩, by rw [ht]; exact hP, va_K.moved hW.alike hK, hD⟩, hS.F ht⟩) hS.2.2 dX1_readMember_82
    · skip
      have hb52 : ∀ k, Rc gT (Crun gs (Imember :: k)) (Cbad (V40 1 3).toInt) := fun k => (hr34 k).tr (h44 k)
      have pq53 : (V40 1 2).toInt = ((V 1 2)).toInt := congrArg Int32.toInt (ajV40 1 2 rfl)
      have rw54 : ROWL b L L41 := (fun k hk => ((t39 k hk).trans rfl))
      exact W.zret (v := z35) hx hb hr (nb_ok (by omega)) (fun t ht hW => ⟨⟨z35, (V40, L41), rfl, ⟨hMV40, agV40, alL41, (show 0 ≤ z35.toInt ∧ z35.toInt ≤ 1 from by omega), (show (V40 1 2).toInt = (V 1 2).toInt ∨ (V40 1 2).toInt = -1 from by omega), (Or.inr ⟨(by omega), hb52⟩), rw54⟩, by rw [ht]; exact hP, va_K.moved hW.alike hK, hD⟩, hS.F ht⟩) hS.2.2 dX1_readMember_82
  have gq33 : ((V 6 9)).toInt ≠ 137 := b_neq rfl (by decide) q33
  by_cases q55 : (V 6 9) = 140
  · refine g_top (v := 140) q55 ?_
    have fq55 : ((V 6 9)).toInt = 140 := b_eq rfl (by decide) q55
    refine lv_lookup (x := 140) (off := 68) (tgt := 83) hx hb dX1_readMember_15 (by decide) (by decide) (by decide) ?_
    refine lv_aload_n hx hb dX1_readMember_83 rfl (lv_at hl 1 rfl) ?_
    refine va_get (D := D) (ci := 1) (v := rfN ad 72 (V 1 2)) (fs := (xfReader ad V L Z)) (C := RX1) (T := TX1) (N := 9) hx hb hg inX1 hown hK hP 1 xgReader rfl 2 (by decide) (hg _ w306) (fun _ h9 => h9) rfl dX1_readMember_84 ?_
    refine g_topv (v := .ref (ad (72 + go))) (rfN_r (by omega)) ?_
    refine va_getN (D := D) (ci := 3) (v := .int (V 56 go)) (fs := (xfComp ad V go)) (C := RX3) (T := TX3) (N := 13) hx hb hg inX3 hown hK hP (72 + go) (xgComp hgo) rfl 11 (by decide) (hnw.use 538 n538 rfl) (fun _ h9 => h9) rfl dX1_readMember_87 ?_
    have r56 : (-1) ≤ ((V 56 go)).toInt ∧ ((V 56 go)).toInt ≤ 8200 := hMV 56 go
    refine lv_iconst (v := (-1)) hx hb dX1_readMember_90 (by decide) ?_
    refine lv_icmp_eq (tgt := 100) hx hb dX1_readMember_91 (by decide) (fun c57 => ?_) (fun c57 => ?_)
    · skip
      have f58 : ((V 56 go)).toInt = (-1) := b_eq rfl (by decide) c57
      have hr59 : ∀ k, Rc gT (Crun gs (Imember :: k)) (Crun gs (Imember :: k)) := fun k => Rc.rf
      have kd60 : gT.1 (gs.1 0) = ((V 6 9)).toInt := RelC.kd rel
      have hr61 : ∀ k, Rc gT (Crun gs (Imember :: k)) (Crun (nx (sN gs 2 1) 1) (Iexpr 0 :: Itake 59 :: Imember :: k)) := fun k => Rc.go1 (hr59 k) (mb_140 (kd60.trans fq55) (ow0.2.1.mp (by omega)))
      refine lv_aload_n hx hb dX1_readMember_100 rfl (lv_at hl 1 rfl) ?_
      refine va_get (D := D) (ci := 1) (v := rfN ad 72 (V 1 2)) (fs := (xfReader ad V L Z)) (C := RX1) (T := TX1) (N := 9) hx hb hg inX1 hown hK hP 1 xgReader rfl 2 (by decide) (hg _ w306) (fun _ h9 => h9) rfl dX1_readMember_101 ?_
      refine g_topv (v := .ref (ad (72 + go))) (rfN_r (by omega)) ?_
      refine lv_iload_n hx hb dX1_readMember_104 rfl (lv_at hl 0 rfl) ?_
      refine va_putN (D := D) (ci := 3) (v := .int (V 42 b)) (ty := tyX3 11) (fs := (xfComp ad V go)) (C := RX3) (T := TX3) (N := 13) hx hb hg inX3 tyX3 tyX3_ok nmX3 hown hK hP hD hS (72 + go) (xgComp hgo) rfl 11 (by decide) (hnw.use 538 n538 rfl) (fun _ h9 => h9) rfl (tyX3_ok 11 (by decide)) rfl rfl (Nat.le_of_ble_eq_true rfl) dX1_readMember_105 (fun H locs hP hD hS => ?_)
      obtain ⟨V62, hV62⟩ : ∃ z, z = up2 V 56 go (V 42 b) := ⟨_, rfl⟩
      have ew63 : (xw ad kk V L Z).set (72 + go) ((ad (72 + go)), .inr (3, (xfComp ad V go).set 11 (.int (V 42 b)))) = xw ad kk V62 L Z := by rw [hV62]; exact xpComp_openedStart hgo
      have hP : va_P D vwCl (xw ad kk V62 L Z) H := by rw [← ew63]; exact hP
      have hD : va_D A (xw ad kk V62 L Z) := by rw [← ew63]; exact hD
      have hMV62 : rgd bX V62 := hMV.put hV62 (show (-1) ≤ ((V 42 b)).toInt ∧ ((V 42 b)).toInt ≤ 8200 from by omega)
      have agV62 : agr [(1, 2), (1, 3), (1, 4), (1, 6), (1, 8), (6, 8), (6, 9), (6, 10)] [42, 43, 44, 48, 49, 56, 57, 58, 59, 60, 61] V V62 := agV.up hV62 rfl
      have rl64 : RelC V62 L b gT (sN gs 2 1) := RelC.op rel (show (V 1 2).toInt = ((go : Nat) : Int) from by omega) hV62 (show ((V 42 b)).toInt ≠ -1 from by omega)
      refine lv_aload_n hx hb dX1_readMember_108 rfl (lv_at hl 1 rfl) ?_
      refine va_get (D := D) (ci := 1) (v := .ref (ad 6)) (fs := (xfReader ad V62 L Z)) (C := RX1) (T := TX1) (N := 9) hx hb hg inX1 hown hK hP 1 xgReader rfl 0 (by decide) (hg _ w304) (fun _ h9 => h9) rfl dX1_readMember_109 ?_
      have l865 := RelC.l8 rl64
      have pq66 : (V62 6 8).toInt = ((V 6 8)).toInt := congrArg Int32.toInt (up2_o hV62 (by decide))
      have r67 : 0 ≤ ((V 6 8)).toInt ∧ ((V 6 8)).toInt ≤ 4000 := hMV 6 8
      have pq68 : (V62 6 7).toInt = ((V 6 7)).toInt := congrArg Int32.toInt (up2_o hV62 (by decide))
      have r69 : 0 ≤ ((V 6 7)).toInt ∧ ((V 6 7)).toInt ≤ 4000 := hMV 6 7
      have pq70 : (V62 6 9).toInt = ((V 6 9)).toInt := congrArg Int32.toInt (up2_o hV62 (by decide))
      have lk71 := RelC.lk rl64 (show (V62 6 9).toInt ≠ 0 from by omega)
      refine gA_void (gA_runV (As := []) (rest := []) (ci := 9) (q0 := 6) hx hb hml hown hg hP hD hK hS hA hnw hgk (x_next2 l D ks H.size ad kk V62 L Z  hMV62 (show (V62 6 8).toInt ≤ (V62 6 7).toInt from by omega)) w871 w852 w853 w157 w854 rfl xgTape hdV_yX9_next ⟨Nat.le_of_ble_eq_true rfl, Nat.le_of_ble_eq_true rfl⟩ rfl hl.1 rfl (Nat.le_of_ble_eq_true rfl) dX1_readMember_112 ⟨Nat.le_of_ble_eq_true rfl, Nat.le_of_ble_eq_true rfl⟩) hP hD hK hS hA (fun u73 H locs w74 hP hD hK hS => ?_)
      obtain ⟨V77, L78⟩ := u73
      obtain ⟨hMV77, ajV77, axL78, t75, t76⟩ := w74
      have alL78 : agL [6, 44] L L78 := agL.tr alL axL78 (by decide)
      have hP : va_P D vwCl (xw ad kk V77 L78 Z) H := hP
      have hD : va_D A (xw ad kk V77 L78 Z) := hD
      have hMV77 : rgd bX V77 := hMV77
      have ajV77 : agr [(6, 8), (6, 9), (6, 10)] [] V62 V77 := ajV77
      have agV77 : agr [(1, 2), (1, 3), (1, 4), (1, 6), (1, 8), (6, 8), (6, 9), (6, 10)] [42, 43, 44, 48, 49, 56, 57, 58, 59, 60, 61] V V77 := agV62.tr ajV77 (by decide) (by decide)
      have t75 : (V77 6 8).toInt ≤ (V77 6 7).toInt := t75
      have t76 : CUR V77 L78 (Int32.toNatClampNeg (V62 6 8)) := t76
      have r79 : 0 ≤ ((V77 6 8)).toInt ∧ ((V77 6 8)).toInt ≤ 4000 := hMV77 6 8
      have pq80 : (V77 6 7).toInt = ((V 6 7)).toInt := congrArg Int32.toInt ((ajV77 6 7 rfl).trans (up2_o hV62 (by decide)))
      have rl81 : RelC V77 L78 b gT (nx (sN gs 2 1) 1) := RelC.nx1 rl64 ajV77 (by decide) axL78 (by decide) (by rw [← lk71]; exact t76) (ajV77 1 3 rfl)
      refine lv_aload_n hx hb dX1_readMember_115 rfl (lv_at hl 1 rfl) ?_
      refine lv_iconst (v := 0) hx hb dX1_readMember_116 (by decide) ?_
      have pq83 : (V77 1 2).toInt = ((V 1 2)).toInt := congrArg Int32.toInt ((ajV77 1 2 rfl).trans (up2_o hV62 (by decide)))
      have w482 := (RelC.ow rl81 (show (V77 1 2).toInt = ((go : Nat) : Int) from by omega)).2.2.2.1
      have r84 : Int32.toInt 0 = 0 := by decide
      have pq85 : (V77 1 1).toInt = ((V 1 1)).toInt := congrArg Int32.toInt ((ajV77 1 1 rfl).trans (up2_o hV62 (by decide)))
      refine gA_int (gA_runV (As := [.int 0]) (rest := []) (ci := 1) (q0 := 1) hx hb hml hown hg hP hD hK hS hA hnw hgk (x_readE3 l D ks H.size ad kk V77 L78 Z 0 (b) (gT) ((nx (sN gs 2 1) 1)) hMV77 (by decide) (show b < 2 from by omega) (show (V77 1 1).toInt = (b : Int) from by omega) rl81 (show (Int32.toInt 0) = (((nx (sN gs 2 1) 1).1 4 : Nat) : Int) from by omega) (fun _ => (show 0 ≤ (V77 1 2).toInt from by omega))) w947 w949 w20 w162 w950 rfl xgReader hdV_yX1_readE ⟨Nat.le_of_ble_eq_true rfl, Nat.le_of_ble_eq_true rfl⟩ rfl hl.1 rfl (Nat.le_of_ble_eq_true rfl) dX1_readMember_117 ⟨Nat.le_of_ble_eq_true rfl, Nat.le_of_ble_eq_true rfl⟩) hP hD hK hS hA (fun z86 u87 H locs w88 hP hD hK hS => ?_)
      obtain ⟨V91, L92⟩ := u87
      obtain ⟨hMV91, ajV91, axL92, rgz86, t89, t90⟩ := w88
      have alL92 : agL [6, 44] L L92 := agL.tr alL78 axL92 (by decide)
      have hP : va_P D vwCl (xw ad kk V91 L92 Z) H := hP
      have hD : va_D A (xw ad kk V91 L92 Z) := hD
      have hMV91 : rgd bX V91 := hMV91
      have ajV91 : agr [(1, 3), (1, 4), (1, 6), (1, 8), (6, 8), (6, 9), (6, 10)] [42, 43, 44, 48] V77 V91 := ajV91
      have agV91 : agr [(1, 2), (1, 3), (1, 4), (1, 6), (1, 8), (6, 8), (6, 9), (6, 10)] [42, 43, 44, 48, 49, 56, 57, 58, 59, 60, 61] V V91 := agV77.tr ajV91 (by decide) (by decide)
      have rgz86 : 0 ≤ z86.toInt ∧ z86.toInt ≤ 1 := rgz86
      have t89 : Rd gT (nx (sN gs 2 1) 1) (fun k => Iexpr 0 :: Itake 59 :: k) (fun k => k) z86.toInt (V91 1 3).toInt (fun s9 => RelC V91 L92 b gT s9 ∧ keepS (nx (sN gs 2 1) 1) 2 s9) := t89
      have t90 : ROWL b L78 L92 := t90
      rcases t89 with ⟨q93, sx94, h95, rl96, kp97⟩ | ⟨q93, h95⟩
      · skip
        have hr98 : ∀ k, Rc gT (Crun gs (Imember :: k)) (Crun sx94 (Imember :: k)) := fun k => (hr61 k).tr (h95 (Imember :: k))
        have pq99 : (V91 1 2).toInt = ((V 1 2)).toInt := congrArg Int32.toInt ((ajV91 1 2 rfl).trans ((ajV77 1 2 rfl).trans (up2_o hV62 (by decide))))
        have ps100 : (sN gs 2 1).1 0 = gs.1 0 := rfl
        have ps101 : (sN gs 2 1).1 0 + 1 ≤ (nx (sN gs 2 1) 1).1 0 := ((keepS.n1 1)).1
        have ps102 : (nx (sN gs 2 1) 1).1 0 + 2 ≤ sx94.1 0 := (kp97).1
        have cn103 : CNc V91 b gs := CNc.ag cno.1 (show agr [(1, 3), (1, 4), (1, 6), (1, 8), (6, 8), (6, 9), (6, 10)] [42, 43, 44, 48, 56] V V91 from (agr.tr (agr.tr (agr.up agr.rf hV62 rfl) ajV77 (by decide) (by decide)) ajV91 (by decide) (by decide))) (by decide) keepC.rf
        have cn104 : CNc V91 b sx94 := CNc.mv cn103 (fun _ _ _ => rfl) (keepC.tr (keepC.tr (keepC.tr (keepC.rf : keepC gs gs) (keepC.sn (by decide) : keepC gs (sN gs 2 1))) (keepS.c (keepS.n1 1))) (keepS.c kp97))
        have rw105 : ROWL b L L92 := (fun k hk => ((t90 k hk).trans ((axL78 44 k rfl).trans rfl)))
        exact W.zret (v := z86) hx hb hr (nb_ok (by omega)) (fun t ht hW => ⟨⟨z86, (V91, L92), rfl, ⟨hMV91, agV91, alL92, (show 0 ≤ z86.toInt ∧ z86.toInt ≤ 1 from by omega), (show (V91 1 2).toInt = (V 1 2).toInt ∨ (V91 1 2).toInt = -1 from by omega), (Or.inl ⟨(by omega), sx94, (fun k => show Rc gT (Crun gs (Imember :: k)) (Crun sx94 (nxI (V91 1 2) k)) from by rw [nxI_m (show 0 ≤ (V91 1 2).toInt from by omega)]; exact hr98 k), rl96, (by omega), ⟨cn104, (show OWl V91 b sx94 from OWl.mv cno.2 (show V91 1 2 = V 1 2 from ((ajV91 1 2 rfl).trans ((ajV77 1 2 rfl).trans (up2_o hV62 (by decide))))) (keepC.tr (keepC.tr (keepC.tr (keepC.rf : keepC gs gs) (keepC.sn (by decide) : keepC gs (sN gs 2 1))) (keepS.c (keepS.n1 1))) (keepS.c kp97)))⟩⟩), rw105⟩, by rw [ht]; exact hP, va_K.moved hW.alike hK, hD⟩, hS.F ht⟩) hS.2.2 dX1_readMember_120
      · skip
        have hb106 : ∀ k, Rc gT (Crun gs (Imember :: k)) (Cbad (V91 1 3).toInt) := fun k => (hr61 k).tr (h95 (Imember :: k))
        have pq107 : (V91 1 2).toInt = ((V 1 2)).toInt := congrArg Int32.toInt ((ajV91 1 2 rfl).trans ((ajV77 1 2 rfl).trans (up2_o hV62 (by decide))))
        have rw108 : ROWL b L L92 := (fun k hk => ((t90 k hk).trans ((axL78 44 k rfl).trans rfl)))
        exact W.zret (v := z86) hx hb hr (nb_ok (by omega)) (fun t ht hW => ⟨⟨z86, (V91, L92), rfl, ⟨hMV91, agV91, alL92, (show 0 ≤ z86.toInt ∧ z86.toInt ≤ 1 from by omega), (show (V91 1 2).toInt = (V 1 2).toInt ∨ (V91 1 2).toInt = -1 from by omega), (Or.inr ⟨(by omega), hb106⟩), rw108⟩, by rw [ht]; exact hP, va_K.moved hW.alike hK, hD⟩, hS.F ht⟩) hS.2.2 dX1_readMember_120
    · skip
      have f109 : ((V 56 go)).toInt ≠ (-1) := b_neq rfl (by decide) c57
      refine lv_aload_n hx hb dX1_readMember_94 rfl (lv_at hl 1 rfl) ?_
      refine lv_iconst (v := 1) hx hb dX1_readMember_95 (by decide) ?_
      have kd110 : gT.1 (gs.1 0) = ((V 6 9)).toInt := RelC.kd rel
      have r111 : Int32.toInt 1 = 1 := by decide
      refine gA_int (gA_runV (As := [.int 1]) (rest := []) (ci := 1) (q0 := 1) hx hb hml hown hg hP hD hK hS hA hnw hgk (x_wrong2 l D ks H.size ad kk V L Z 1 hMV (by decide)) w867 w869 w6 w162 w870 rfl xgReader hdV_yX1_wrong ⟨Nat.le_of_ble_eq_true rfl, Nat.le_of_ble_eq_true rfl⟩ rfl hl.1 rfl (Nat.le_of_ble_eq_true rfl) dX1_readMember_96 ⟨Nat.le_of_ble_eq_true rfl, Nat.le_of_ble_eq_true rfl⟩) hP hD hK hS hA (fun z112 u113 H locs w114 hP hD hK hS => ?_)
      obtain ⟨V117, L118⟩ := u113
      obtain ⟨hMV117, ajV117, axL118, rgz112, t115, t116⟩ := w114
      have axL118 : L = L118 := Eq.symm axL118
      subst axL118
      have hP : va_P D vwCl (xw ad kk V117 L Z) H := hP
      have hD : va_D A (xw ad kk V117 L Z) := hD
      have hMV117 : rgd bX V117 := hMV117
      have ajV117 : agr [(1, 3)] [] V V117 := ajV117
      have agV117 : agr [(1, 2), (1, 3), (1, 4), (1, 6), (1, 8), (6, 8), (6, 9), (6, 10)] [42, 43, 44, 48, 49, 56, 57, 58, 59, 60, 61] V V117 := agV.tr ajV117 (by decide) (by decide)
      have rgz112 : 0 ≤ z112.toInt ∧ z112.toInt ≤ 0 := rgz112
      have t115 : 1 ≤ (V117 1 3).toInt := t115
      have t116 : (V117 1 3).toInt = (Int32.toInt 1) + 16 * (V 6 10).toInt := t116
      have r119 : 0 ≤ ((V 6 10)).toInt ∧ ((V 6 10)).toInt ≤ 4000 := hMV 6 10
      have hr120 : ∀ k, Rc gT (Crun gs (Imember :: k)) (Crun gs (Imember :: k)) := fun k => Rc.rf
      have hb121 : ∀ k, Rc gT (Crun gs (Imember :: k)) (Cbad (V117 1 3).toInt) := fun k => Rc.go1 (hr120 k) ((mb_140f (kd110.trans fq55) (by by_cases q9 : gs.1 2 = 1; exact q9; exact absurd (ow0.2.1.mpr q9) (by omega))).trans (fl_eq (RelC.st rel) (show (V117 1 3).toInt = 1 + 16 * (V 6 10).toInt from by omega)))
      have pq122 : (V117 1 2).toInt = ((V 1 2)).toInt := congrArg Int32.toInt (ajV117 1 2 rfl)
      have rw123 : ROWL b L L := (fun k hk => rfl)
      exact W.zret (v := z112) hx hb hr (nb_ok (by omega)) (fun t ht hW => ⟨⟨z112, (V117, L), rfl, ⟨hMV117, agV117, alL, (show 0 ≤ z112.toInt ∧ z112.toInt ≤ 1 from by omega), (show (V117 1 2).toInt = (V 1 2).toInt ∨ (V117 1 2).toInt = -1 from by omega), (Or.inr ⟨(by omega), hb121⟩), rw123⟩, by rw [ht]; exact hP, va_K.moved hW.alike hK, hD⟩, hS.F ht⟩) hS.2.2 dX1_readMember_99
  have gq55 : ((V 6 9)).toInt ≠ 140 := b_neq rfl (by decide) q55
  by_cases q124 : (V 6 9) = 141
  · refine g_top (v := 141) q124 ?_
    have fq124 : ((V 6 9)).toInt = 141 := b_eq rfl (by decide) q124
    refine lv_lookup (x := 141) (off := 106) (tgt := 121) hx hb dX1_readMember_15 (by decide) (by decide) (by decide) ?_
    refine lv_aload_n hx hb dX1_readMember_121 rfl (lv_at hl 1 rfl) ?_
    refine va_get (D := D) (ci := 1) (v := rfN ad 72 (V 1 2)) (fs := (xfReader ad V L Z)) (C := RX1) (T := TX1) (N := 9) hx hb hg inX1 hown hK hP 1 xgReader rfl 2 (by decide) (hg _ w306) (fun _ h9 => h9) rfl dX1_readMember_122 ?_
    refine g_topv (v := .ref (ad (72 + go))) (rfN_r (by omega)) ?_
    refine va_getN (D := D) (ci := 3) (v := .int (V 57 go)) (fs := (xfComp ad V go)) (C := RX3) (T := TX3) (N := 13) hx hb hg inX3 hown hK hP (72 + go) (xgComp hgo) rfl 12 (by decide) (hnw.use 541 n541 rfl) (fun _ h9 => h9) rfl dX1_readMember_125 ?_
    have r125 : (-1) ≤ ((V 57 go)).toInt ∧ ((V 57 go)).toInt ≤ 8200 := hMV 57 go
    refine lv_iconst (v := (-1)) hx hb dX1_readMember_128 (by decide) ?_
    refine lv_icmp_eq (tgt := 138) hx hb dX1_readMember_129 (by decide) (fun c126 => ?_) (fun c126 => ?_)
    · skip
      have f127 : ((V 57 go)).toInt = (-1) := b_eq rfl (by decide) c126
      have hr128 : ∀ k, Rc gT (Crun gs (Imember :: k)) (Crun gs (Imember :: k)) := fun k => Rc.rf
      have kd129 : gT.1 (gs.1 0) = ((V 6 9)).toInt := RelC.kd rel
      have hr130 : ∀ k, Rc gT (Crun gs (Imember :: k)) (Crun (nx (sN gs 3 1) 1) (Iexpr 0 :: Itake 59 :: Imember :: k)) := fun k => Rc.go1 (hr128 k) (mb_141 (kd129.trans fq124) (ow0.2.2.1.mp (by omega)))
      refine lv_aload_n hx hb dX1_readMember_138 rfl (lv_at hl 1 rfl) ?_
      refine va_get (D := D) (ci := 1) (v := rfN ad 72 (V 1 2)) (fs := (xfReader ad V L Z)) (C := RX1) (T := TX1) (N := 9) hx hb hg inX1 hown hK hP 1 xgReader rfl 2 (by decide) (hg _ w306) (fun _ h9 => h9) rfl dX1_readMember_139 ?_
      refine g_topv (v := .ref (ad (72 + go))) (rfN_r (by omega)) ?_
      refine lv_iload_n hx hb dX1_readMember_142 rfl (lv_at hl 0 rfl) ?_
      refine va_putN (D := D) (ci := 3) (v := .int (V 42 b)) (ty := tyX3 12) (fs := (xfComp ad V go)) (C := RX3) (T := TX3) (N := 13) hx hb hg inX3 tyX3 tyX3_ok nmX3 hown hK hP hD hS (72 + go) (xgComp hgo) rfl 12 (by decide) (hnw.use 541 n541 rfl) (fun _ h9 => h9) rfl (tyX3_ok 12 (by decide)) rfl rfl (Nat.le_of_ble_eq_true rfl) dX1_readMember_143 (fun H locs hP hD hS => ?_)
      obtain ⟨V131, hV131⟩ : ∃ z, z = up2 V 57 go (V 42 b) := ⟨_, rfl⟩
      have ew132 : (xw ad kk V L Z).set (72 + go) ((ad (72 + go)), .inr (3, (xfComp ad V go).set 12 (.int (V 42 b)))) = xw ad kk V131 L Z := by rw [hV131]; exact xpComp_closedStart hgo
      have hP : va_P D vwCl (xw ad kk V131 L Z) H := by rw [← ew132]; exact hP
      have hD : va_D A (xw ad kk V131 L Z) := by rw [← ew132]; exact hD
      have hMV131 : rgd bX V131 := hMV.put hV131 (show (-1) ≤ ((V 42 b)).toInt ∧ ((V 42 b)).toInt ≤ 8200 from by omega)
      have agV131 : agr [(1, 2), (1, 3), (1, 4), (1, 6), (1, 8), (6, 8), (6, 9), (6, 10)] [42, 43, 44, 48, 49, 56, 57, 58, 59, 60, 61] V V131 := agV.up hV131 rfl
      have rl133 : RelC V131 L b gT (sN gs 3 1) := RelC.cl rel (show (V 1 2).toInt = ((go : Nat) : Int) from by omega) hV131 (show ((V 42 b)).toInt ≠ -1 from by omega)
      refine lv_aload_n hx hb dX1_readMember_146 rfl (lv_at hl 1 rfl) ?_
      refine va_get (D := D) (ci := 1) (v := .ref (ad 6)) (fs := (xfReader ad V131 L Z)) (C := RX1) (T := TX1) (N := 9) hx hb hg inX1 hown hK hP 1 xgReader rfl 0 (by decide) (hg _ w304) (fun _ h9 => h9) rfl dX1_readMember_147 ?_
      have l8134 := RelC.l8 rl133
      have pq135 : (V131 6 8).toInt = ((V 6 8)).toInt := congrArg Int32.toInt (up2_o hV131 (by decide))
      have r136 : 0 ≤ ((V 6 8)).toInt ∧ ((V 6 8)).toInt ≤ 4000 := hMV 6 8
      have pq137 : (V131 6 7).toInt = ((V 6 7)).toInt := congrArg Int32.toInt (up2_o hV131 (by decide))
      have r138 : 0 ≤ ((V 6 7)).toInt ∧ ((V 6 7)).toInt ≤ 4000 := hMV 6 7
      have pq139 : (V131 6 9).toInt = ((V 6 9)).toInt := congrArg Int32.toInt (up2_o hV131 (by decide))
      have lk140 := RelC.lk rl133 (show (V131 6 9).toInt ≠ 0 from by omega)
      refine gA_void (gA_runV (As := []) (rest := []) (ci := 9) (q0 := 6) hx hb hml hown hg hP hD hK hS hA hnw hgk (x_next2 l D ks H.size ad kk V131 L Z  hMV131 (show (V131 6 8).toInt ≤ (V131 6 7).toInt from by omega)) w871 w852 w853 w157 w854 rfl xgTape hdV_yX9_next ⟨Nat.le_of_ble_eq_true rfl, Nat.le_of_ble_eq_true rfl⟩ rfl hl.1 rfl (Nat.le_of_ble_eq_true rfl) dX1_readMember_150 ⟨Nat.le_of_ble_eq_true rfl, Nat.le_of_ble_eq_true rfl⟩) hP hD hK hS hA (fun u142 H locs w143 hP hD hK hS => ?_)
      obtain ⟨V146, L147⟩ := u142
      obtain ⟨hMV146, ajV146, axL147, t144, t145⟩ := w143
      have alL147 : agL [6, 44] L L147 := agL.tr alL axL147 (by decide)
      have hP : va_P D vwCl (xw ad kk V146 L147 Z) H := hP
      have hD : va_D A (xw ad kk V146 L147 Z) := hD
      have hMV146 : rgd bX V146 := hMV146
      have ajV146 : agr [(6, 8), (6, 9), (6, 10)] [] V131 V146 := ajV146
      have agV146 : agr [(1, 2), (1, 3), (1, 4), (1, 6), (1, 8), (6, 8), (6, 9), (6, 10)] [42, 43, 44, 48, 49, 56, 57, 58, 59, 60, 61] V V146 := agV131.tr ajV146 (by decide) (by decide)
      have t144 : (V146 6 8).toInt ≤ (V146 6 7).toInt := t144
      have t145 : CUR V146 L147 (Int32.toNatClampNeg (V131 6 8)) := t145
      have r148 : 0 ≤ ((V146 6 8)).toInt ∧ ((V146 6 8)).toInt ≤ 4000 := hMV146 6 8
      have pq149 : (V146 6 7).toInt = ((V 6 7)).toInt := congrArg Int32.toInt ((ajV146 6 7 rfl).trans (up2_o hV131 (by decide)))
      have rl150 : RelC V146 L147 b gT (nx (sN gs 3 1) 1) := RelC.nx1 rl133 ajV146 (by decide) axL147 (by decide) (by rw [← lk140]; exact t145) (ajV146 1 3 rfl)
      refine lv_aload_n hx hb dX1_readMember_153 rfl (lv_at hl 1 rfl) ?_
      refine lv_iconst (v := 0) hx hb dX1_readMember_154 (by decide) ?_
      have pq152 : (V146 1 2).toInt = ((V 1 2)).toInt := congrArg Int32.toInt ((ajV146 1 2 rfl).trans (up2_o hV131 (by decide)))
      have w4151 := (RelC.ow rl150 (show (V146 1 2).toInt = ((go : Nat) : Int) from by omega)).2.2.2.1
      have r153 : Int32.toInt 0 = 0 := by decide
      have pq154 : (V146 1 1).toInt = ((V 1 1)).toInt := congrArg Int32.toInt ((ajV146 1 1 rfl).trans (up2_o hV131 (by decide)))
      refine gA_int (gA_runV (As := [.int 0]) (rest := []) (ci := 1) (q0 := 1) hx hb hml hown hg hP hD hK hS hA hnw hgk (x_readE3 l D ks H.size ad kk V146 L147 Z 0 (b) (gT) ((nx (sN gs 3 1) 1)) hMV146 (by decide) (show b < 2 from by omega) (show (V146 1 1).toInt = (b : Int) from by omega) rl150 (show (Int32.toInt 0) = (((nx (sN gs 3 1) 1).1 4 : Nat) : Int) from by omega) (fun _ => (show 0 ≤ (V146 1 2).toInt from by omega))) w947 w949 w20 w162 w950 rfl xgReader hdV_yX1_readE ⟨Nat.le_of_ble_eq_true rfl, Nat.le_of_ble_eq_true rfl⟩ rfl hl.1 rfl (Nat.le_of_ble_eq_true rfl) dX1_readMember_155 ⟨Nat.le_of_ble_eq_true rfl, Nat.le_of_ble_eq_true rfl⟩) hP hD hK hS hA (fun z155 u156 H locs w157 hP hD hK hS => ?_)
      obtain ⟨V160, L161⟩ := u156
      obtain ⟨hMV160, ajV160, axL161, rgz155, t158, t159⟩ := w157
      have alL161 : agL [6, 44] L L161 := agL.tr alL147 axL161 (by decide)
      have hP : va_P D vwCl (xw ad kk V160 L161 Z) H := hP
      have hD : va_D A (xw ad kk V160 L161 Z) := hD
      have hMV160 : rgd bX V160 := hMV160
      have ajV160 : agr [(1, 3), (1, 4), (1, 6), (1, 8), (6, 8), (6, 9), (6, 10)] [42, 43, 44, 48] V146 V160 := ajV160
      have agV160 : agr [(1, 2), (1, 3), (1, 4), (1, 6), (1, 8), (6, 8), (6, 9), (6, 10)] [42, 43, 44, 48, 49, 56, 57, 58, 59, 60, 61] V V160 := agV146.tr ajV160 (by decide) (by decide)
      have rgz155 : 0 ≤ z155.toInt ∧ z155.toInt ≤ 1 := rgz155
      have t158 : Rd gT (nx (sN gs 3 1) 1) (fun k => Iexpr 0 :: Itake 59 :: k) (fun k => k) z155.toInt (V160 1 3).toInt (fun s9 => RelC V160 L161 b gT s9 ∧ keepS (nx (sN gs 3 1) 1) 2 s9) := t158
      have t159 : ROWL b L147 L161 := t159
      rcases t158 with ⟨q162, sx163, h164, rl165, kp166⟩ | ⟨q162, h164⟩
      · skip
        have hr167 : ∀ k, Rc gT (Crun gs (Imember :: k)) (Crun sx163 (Imember :: k)) := fun k => (hr130 k).tr (h164 (Imember :: k))
        have pq168 : (V160 1 2).toInt = ((V 1 2)).toInt := congrArg Int32.toInt ((ajV160 1 2 rfl).trans ((ajV146 1 2 rfl).trans (up2_o hV131 (by decide))))
        have ps169 : (sN gs 3 1).1 0 = gs.1 0 := rfl
        have ps170 : (sN gs 3 1).1 0 + 1 ≤ (nx (sN gs 3 1) 1).1 0 := ((keepS.n1 1)).1
        have ps171 : (nx (sN gs 3 1) 1).1 0 + 2 ≤ sx163.1 0 := (kp166).1
        have cn172 : CNc V160 b gs := CNc.ag cno.1 (show agr [(1, 3), (1, 4), (1, 6), (1, 8), (6, 8), (6, 9), (6, 10)] [42, 43, 44, 48, 57] V V160 from (agr.tr (agr.tr (agr.up agr.rf hV131 rfl) ajV146 (by decide) (by decide)) ajV160 (by decide) (by decide))) (by decide) keepC.rf
        have cn173 : CNc V160 b sx163 := CNc.mv cn172 (fun _ _ _ => rfl) (keepC.tr (keepC.tr (keepC.tr (keepC.rf : keepC gs gs) (keepC.sn (by decide) : keepC gs (sN gs 3 1))) (keepS.c (keepS.n1 1))) (keepS.c kp166))
        have rw174 : ROWL b L L161 := (fun k hk => ((t159 k hk).trans ((axL147 44 k rfl).trans rfl)))
        exact W.zret (v := z155) hx hb hr (nb_ok (by omega)) (fun t ht hW => ⟨⟨z155, (V160, L161), rfl, ⟨hMV160, agV160, alL161, (show 0 ≤ z155.toInt ∧ z155.toInt ≤ 1 from by omega), (show (V160 1 2).toInt = (V 1 2).toInt ∨ (V160 1 2).toInt = -1 from by omega), (Or.inl ⟨(by omega), sx163, (fun k => show Rc gT (Crun gs (Imember :: k)) (Crun sx163 (nxI (V160 1 2) k)) from by rw [nxI_m (show 0 ≤ (V160 1 2).toInt from by omega)]; exact hr167 k), rl165, (by omega), ⟨cn173, (show OWl V160 b sx163 from OWl.mv cno.2 (show V160 1 2 = V 1 2 from ((ajV160 1 2 rfl).trans ((ajV146 1 2 rfl).trans (up2_o hV131 (by decide))))) (keepC.tr (keepC.tr (keepC.tr (keepC.rf : keepC gs gs) (keepC.sn (by decide) : keepC gs (sN gs 3 1))) (keepS.c (keepS.n1 1))) (keepS.c kp166)))⟩⟩), rw174⟩, by rw [ht]; exact hP, va_K.moved hW.alike hK, hD⟩, hS.F ht⟩) hS.2.2 dX1_readMember_158
      · skip
        have hb175 : ∀ k, Rc gT (Crun gs (Imember :: k)) (Cbad (V160 1 3).toInt) := fun k => (hr130 k).tr (h164 (Imember :: k))
        have pq176 : (V160 1 2).toInt = ((V 1 2)).toInt := congrArg Int32.toInt ((ajV160 1 2 rfl).trans ((ajV146 1 2 rfl).trans (up2_o hV131 (by decide))))
        have rw177 : ROWL b L L161 := (fun k hk => ((t159 k hk).trans ((axL147 44 k rfl).trans rfl)))
        exact W.zret (v := z155) hx hb hr (nb_ok (by omega)) (fun t ht hW => ⟨⟨z155, (V160, L161), rfl, ⟨hMV160, agV160, alL161, (show 0 ≤ z155.toInt ∧ z155.toInt ≤ 1 from by omega), (show (V160 1 2).toInt = (V 1 2).toInt ∨ (V160 1 2).toInt = -1 from by omega), (Or.inr ⟨(by omega), hb175⟩), rw177⟩, by rw [ht]; exact hP, va_K.moved hW.alike hK, hD⟩, hS.F ht⟩) hS.2.2 dX1_readMember_158
    · skip
      have f178 : ((V 57 go)).toInt ≠ (-1) := b_neq rfl (by decide) c126
      refine lv_aload_n hx hb dX1_readMember_132 rfl (lv_at hl 1 rfl) ?_
      refine lv_iconst (v := 1) hx hb dX1_readMember_133 (by decide) ?_
      have kd179 : gT.1 (gs.1 0) = ((V 6 9)).toInt := RelC.kd rel
      have r180 : Int32.toInt 1 = 1 := by decide
      refine gA_int (gA_runV (As := [.int 1]) (rest := []) (ci := 1) (q0 := 1) hx hb hml hown hg hP hD hK hS hA hnw hgk (x_wrong2 l D ks H.size ad kk V L Z 1 hMV (by decide)) w867 w869 w6 w162 w870 rfl xgReader hdV_yX1_wrong ⟨Nat.le_of_ble_eq_true rfl, Nat.le_of_ble_eq_true rfl⟩ rfl hl.1 rfl (Nat.le_of_ble_eq_true rfl) dX1_readMember_134 ⟨Nat.le_of_ble_eq_true rfl, Nat.le_of_ble_eq_true rfl⟩) hP hD hK hS hA (fun z181 u182 H locs w183 hP hD hK hS => ?_)
      obtain ⟨V186, L187⟩ := u182
      obtain ⟨hMV186, ajV186, axL187, rgz181, t184, t185⟩ := w183
      have axL187 : L = L187 := Eq.symm axL187
      subst axL187
      have hP : va_P D vwCl (xw ad kk V186 L Z) H := hP
      have hD : va_D A (xw ad kk V186 L Z) := hD
      have hMV186 : rgd bX V186 := hMV186
      have ajV186 : agr [(1, 3)] [] V V186 := ajV186
      have agV186 : agr [(1, 2), (1, 3), (1, 4), (1, 6), (1, 8), (6, 8), (6, 9), (6, 10)] [42, 43, 44, 48, 49, 56, 57, 58, 59, 60, 61] V V186 := agV.tr ajV186 (by decide) (by decide)
      have rgz181 : 0 ≤ z181.toInt ∧ z181.toInt ≤ 0 := rgz181
      have t184 : 1 ≤ (V186 1 3).toInt := t184
      have t185 : (V186 1 3).toInt = (Int32.toInt 1) + 16 * (V 6 10).toInt := t185
      have r188 : 0 ≤ ((V 6 10)).toInt ∧ ((V 6 10)).toInt ≤ 4000 := hMV 6 10
      have hr189 : ∀ k, Rc gT (Crun gs (Imember :: k)) (Crun gs (Imember :: k)) := fun k => Rc.rf
      have hb190 : ∀ k, Rc gT (Crun gs (Imember :: k)) (Cbad (V186 1 3).toInt) := fun k => Rc.go1 (hr189 k) ((mb_141f (kd179.trans fq124) (by by_cases q9 : gs.1 3 = 1; exact q9; exact absurd (ow0.2.2.1.mpr q9) (by omega))).trans (fl_eq (RelC.st rel) (show (V186 1 3).toInt = 1 + 16 * (V 6 10).toInt from by omega)))
      have pq191 : (V186 1 2).toInt = ((V 1 2)).toInt := congrArg Int32.toInt (ajV186 1 2 rfl)
      have rw192 : ROWL b L L := (fun k hk => rfl)
      exact W.zret (v := z181) hx hb hr (nb_ok (by omega)) (fun t ht hW => ⟨⟨z181, (V186, L), rfl, ⟨hMV186, agV186, alL, (show 0 ≤ z181.toInt ∧ z181.toInt ≤ 1 from by omega), (show (V186 1 2).toInt = (V 1 2).toInt ∨ (V186 1 2).toInt = -1 from by omega), (Or.inr ⟨(by omega), hb190⟩), rw192⟩, by rw [ht]; exact hP, va_K.moved hW.alike hK, hD⟩, hS.F ht⟩) hS.2.2 dX1_readMember_137
  have gq124 : ((V 6 9)).toInt ≠ 141 := b_neq rfl (by decide) q124
  by_cases q193 : (V 6 9) = 142
  · refine g_top (v := 142) q193 ?_
    have fq193 : ((V 6 9)).toInt = 142 := b_eq rfl (by decide) q193
    refine lv_lookup (x := 142) (off := 144) (tgt := 159) hx hb dX1_readMember_15 (by decide) (by decide) (by decide) ?_
    refine lv_aload_n hx hb dX1_readMember_159 rfl (lv_at hl 1 rfl) ?_
    have hr194 : ∀ k, Rc gT (Crun gs (Imember :: k)) (Crun gs (Imember :: k)) := fun k => Rc.rf
    refine gA_int (gA_runV (As := []) (rest := []) (ci := 1) (q0 := 1) hx hb hml hown hg hP hD hK hS hA hnw hgk (x_readMethod3 l D ks H.size ad kk V L Z (b) (gT) (gs) (go) hMV (show b < 2 from by omega) (show (V 1 1).toInt = (b : Int) from by omega) (show (V 1 2).toInt = (go : Int) from by omega) (show go < 48 from by omega) (show 24 * b ≤ go from by omega) (show go < 24 * b + 24 from by omega) rel cno (show (V 6 9).toInt = 142 from by omega)) w1015 w1017 w33 w162 w1018 rfl xgReader hdV_yX1_readMethod ⟨Nat.le_of_ble_eq_true rfl, Nat.le_of_ble_eq_true rfl⟩ rfl hl.1 rfl (Nat.le_of_ble_eq_true rfl) dX1_readMember_160 ⟨Nat.le_of_ble_eq_true rfl, Nat.le_of_ble_eq_true rfl⟩) hP hD hK hS hA (fun z195 u196 H locs w197 hP hD hK hS => ?_)
    obtain ⟨V200, L201⟩ := u196
    obtain ⟨hMV200, ajV200, axL201, rgz195, t198, t199⟩ := w197
    have alL201 : agL [6, 44] L L201 := agL.tr alL axL201 (by decide)
    have hP : va_P D vwCl (xw ad kk V200 L201 Z) H := hP
    have hD : va_D A (xw ad kk V200 L201 Z) := hD
    have hMV200 : rgd bX V200 := hMV200
    have ajV200 : agr [(1, 3), (1, 4), (1, 6), (1, 8), (6, 8), (6, 9), (6, 10)] [42, 43, 44, 48, 61] V V200 := ajV200
    have agV200 : agr [(1, 2), (1, 3), (1, 4), (1, 6), (1, 8), (6, 8), (6, 9), (6, 10)] [42, 43, 44, 48, 49, 56, 57, 58, 59, 60, 61] V V200 := agV.tr ajV200 (by decide) (by decide)
    have rgz195 : 0 ≤ z195.toInt ∧ z195.toInt ≤ 1 := rgz195
    have t198 : Rd gT gs (fun k => Imember :: k) (fun k => Imember :: k) z195.toInt (V200 1 3).toInt (fun s9 => RelC V200 L201 b gT s9 ∧ gs.1 0 + 1 ≤ s9.1 0 ∧ CNo V200 b s9) := t198
    have t199 : ROWL b L L201 := t199
    rcases t198 with ⟨q202, sx203, h204, rl205, kp206, cn207⟩ | ⟨q202, h204⟩
    · skip
      have hr208 : ∀ k, Rc gT (Crun gs (Imember :: k)) (Crun sx203 (Imember :: k)) := fun k => (hr194 k).tr (h204 k)
      have pq209 : (V200 1 2).toInt = ((V 1 2)).toInt := congrArg Int32.toInt (ajV200 1 2 rfl)
      have ps210 : gs.1 0 + 1 ≤ sx203.1 0 := kp206
      have rw211 : ROWL b L L201 := (fun k hk => ((t199 k hk).trans rfl))
      exact W.zret (v := z195) hx hb hr (nb_ok (by omega)) (fun t ht hW => ⟨⟨z195, (V200, L201), rfl, ⟨hMV200, agV200, alL201, (show 0 ≤ z195.toInt ∧ z195.toInt ≤ 1 from by omega), (show (V200 1 2).toInt = (V 1 2).toInt ∨ (V200 1 2).toInt = -1 from by omega), (Or.inl ⟨(by omega), sx203, (fun k => show Rc gT (Crun gs (Imember :: k)) (Crun sx203 (nxI (V200 1 2) k)) from by rw [nxI_m (show 0 ≤ (V200 1 2).toInt from by omega)]; exact hr208 k), rl205, (by omega), ⟨cn207.1, cn207.2⟩⟩), rw211⟩, by rw [ht]; exact hP, va_K.moved hW.alike hK, hD⟩, hS.F ht⟩) hS.2.2 dX1_readMember_163
    · skip
      have hb212 : ∀ k, Rc gT (Crun gs (Imember :: k)) (Cbad (V200 1 3).toInt) := fun k => (hr194 k).tr (h204 k)
      have pq213 : (V200 1 2).toInt = ((V 1 2)).toInt := congrArg Int32.toInt (ajV200 1 2 rfl)
      have rw214 : ROWL b L L201 := (fun k hk => ((t199 k hk).trans rfl))
      exact W.zret (v := z195) hx hb hr (nb_ok (by omega)) (fun t ht hW => ⟨⟨z195, (V200, L201), rfl, ⟨hMV200, agV200, alL201, (show 0 ≤ z195.toInt ∧ z195.toInt ≤ 1 from by omega), (show (V200 1 2).toInt = (V 1 2).toInt ∨ (V200 1 2).toInt = -1 from by omega), (Or.inr ⟨(by omega), hb212⟩), rw214⟩, by rw [ht]; exact hP, va_K.moved hW.alike hK, hD⟩, hS.F ht⟩) hS.2.2 dX1_readMember_163
  have gq193 : ((V 6 9)).toInt ≠ 142 := b_neq rfl (by decide) q193
  refine lv_lookup (x := (V 6 9)) (off := 149) (tgt := 164) hx hb dX1_readMember_15 (by decide) ((lv_osw q4 (by decide)).trans ((lv_osw q33 (by decide)).trans ((lv_osw q55 (by decide)).trans ((lv_osw q124 (by decide)).trans ((lv_osw q193 (by decide)).trans rfl))))) (by decide) ?_
  refine lv_aload_n hx hb dX1_readMember_164 rfl (lv_at hl 1 rfl) ?_
  refine lv_iconst (v := 1) hx hb dX1_readMember_165 (by decide) ?_
  have kd215 : gT.1 (gs.1 0) = ((V 6 9)).toInt := RelC.kd rel
  have r216 : Int32.toInt 1 = 1 := by decide
  refine gA_int (gA_runV (As := [.int 1]) (rest := []) (ci := 1) (q0 := 1) hx hb hml hown hg hP hD hK hS hA hnw hgk (x_wrong2 l D ks H.size ad kk V L Z 1 hMV (by decide)) w867 w869 w6 w162 w870 rfl xgReader hdV_yX1_wrong ⟨Nat.le_of_ble_eq_true rfl, Nat.le_of_ble_eq_true rfl⟩ rfl hl.1 rfl (Nat.le_of_ble_eq_true rfl) dX1_readMember_166 ⟨Nat.le_of_ble_eq_true rfl, Nat.le_of_ble_eq_true rfl⟩) hP hD hK hS hA (fun z217 u218 H locs w219 hP hD hK hS => ?_)
  obtain ⟨V222, L223⟩ := u218
  obtain ⟨hMV222, ajV222, axL223, rgz217, t220, t221⟩ := w219
  have axL223 : L = L223 := Eq.symm axL223
  subst axL223
  have hP : va_P D vwCl (xw ad kk V222 L Z) H := hP
  have hD : va_D A (xw ad kk V222 L Z) := hD
  have hMV222 : rgd bX V222 := hMV222
  have ajV222 : agr [(1, 3)] [] V V222 := ajV222
  have agV222 : agr [(1, 2), (1, 3), (1, 4), (1, 6), (1, 8), (6, 8), (6, 9), (6, 10)] [42, 43, 44, 48, 49, 56, 57, 58, 59, 60, 61] V V222 := agV.tr ajV222 (by decide) (by decide)
  have rgz217 : 0 ≤ z217.toInt ∧ z217.toInt ≤ 0 := rgz217
  have t220 : 1 ≤ (V222 1 3).toInt := t220
  have t221 : (V222 1 3).toInt = (Int32.toInt 1) + 16 * (V 6 10).toInt := t221
  have r224 : 0 ≤ ((V 6 10)).toInt ∧ ((V 6 10)).toInt ≤ 4000 := hMV 6 10
  have hr225 : ∀ k, Rc gT (Crun gs (Imember :: k)) (Crun gs (Imember :: k)) := fun k => Rc.rf
  have hb226 : ∀ k, Rc gT (Crun gs (Imember :: k)) (Cbad (V222 1 3).toInt) := fun k => Rc.go1 (hr225 k) ((mb_x (fun h9 => gq4 (kd215.symm.trans h9)) (fun h9 => gq33 (kd215.symm.trans h9)) (fun h9 => gq55 (kd215.symm.trans h9)) (fun h9 => gq124 (kd215.symm.trans h9)) (fun h9 => gq193 (kd215.symm.trans h9))).trans (fl_eq (RelC.st rel) (show (V222 1 3).toInt = 1 + 16 * (V 6 10).toInt from by omega)))
  have pq227 : (V222 1 2).toInt = ((V 1 2)).toInt := congrArg Int32.toInt (ajV222 1 2 rfl)
  have rw228 : ROWL b L L := (fun k hk => rfl)
  exact W.zret (v := z217) hx hb hr (nb_ok (by omega)) (fun t ht hW => ⟨⟨z217, (V222, L), rfl, ⟨hMV222, agV222, alL, (show 0 ≤ z217.toInt ∧ z217.toInt ≤ 1 from by omega), (show (V222 1 2).toInt = (V 1 2).toInt ∨ (V222 1 2).toInt = -1 from by omega), (Or.inr ⟨(by omega), hb226⟩), rw228⟩, by rw [ht]; exact hP, va_K.moved hW.alike hK, hD⟩, hS.F ht⟩) hS.2.2 dX1_readMember_169
