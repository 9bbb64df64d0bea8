/-! members and statements -/
def nxI (x : Int32) (k : List It) : List It := if x.toInt < 0 then Istmt :: k else Imember :: k
theorem nxI_s {x : Int32} {k : List It} (h : x.toInt < 0) : nxI x k = Istmt :: k := if_pos h
theorem nxI_m {x : Int32} {k : List It} (h : 0 ≤ x.toInt) : nxI x k = Imember :: k := if_neg (by omega)
theorem own_e {V : Vf} {o : Nat} (h : (V 1 2).toInt = (o : Int)) : Int32.toNatClampNeg (V 1 2) = o := by
  have := i_clamp (x := V 1 2) rfl (by (first | exact om_c441fb90eac3 h | omega))
  omega
theorem RelC.ow {V : Vf} {L : Lf} {b : Nat} {T : Tk} {s : St} {o : Nat} (h : RelC V L b T s) (ho : (V 1 2).toInt = (o : Int)) : OWr V o s := by
  have z := h.2.2.2.2 (by omega)
  rw [own_e ho] at z
  exact z
/-- all but what the owner has -/
theorem RelC.w1 {V W : Vf} {L : Lf} {b c k : Nat} {v : Int32} {T : Tk} {s s' : St} (h : RelC V L b T s) (e : W = up2 V c k v) (hc : ¬ c = 12 ∧ ¬ c = 13 ∧ ¬ c = 41 ∧ ¬ c = 43 ∧ ¬ c = 63 ∧ ¬ c = 65 ∧ ¬ c = 6) (h3 : ¬ (c = 1 ∧ k = 3)) (e1 : s'.1 0 = s.1 0) (e2 : s'.2.1 = s.2.1) (e4 : s'.2.2.1 = s.2.2.1) (ow : OWc W s') : RelC W L b T s' := by
  have f : ∀ x, ¬ c = x → W x = V x := fun x hx => up2_fo e (fun q => hx q.symm)
  have e6 : W 6 = V 6 := f 6 hc.2.2.2.2.2.2
  have e3 : W 1 3 = V 1 3 := by
    by_cases q : c = 1
    · subst q
      exact up2_k e (fun z => h3 ⟨rfl, z.symm⟩)
    · rw [f 1 q]
  refine ⟨?_, h.2.1.ag (by rw [e6]) (f 12 hc.1) (f 13 hc.2.1) rfl e3, h.2.2.1.ag (f 43 hc.2.2.2.1) rfl e2, h.2.2.2.1.ag (f 41 hc.2.2.1) (f 63 hc.2.2.2.2.1) (f 65 hc.2.2.2.2.2.1) e4, ow⟩
  rw [e1]
  exact h.1.ag (by rw [e6]) (by rw [e6]) (by rw [e6]) (by rw [e6]) (f 12 hc.1) (f 13 hc.2.1) rfl rfl
theorem RelC.mt {V W : Vf} {L : Lf} {b o f : Nat} {v : Int32} {T : Tk} {s : St} {l : List Nat} (h : RelC V L b T s) (ho : (V 1 2).toInt = (o : Int)) (e : W = up2 V 61 (20 * o + f) v) (hv : v.toInt ≠ -1) (hl : l = s.2.2.2) : RelC W L b T (sT s (f :: l)) := by
  have z := h.ow ho
  have e2 : W 1 2 = V 1 2 := up2_o e (by decide)
  refine h.w1 e (by decide) (fun q => absurd q.1 (by decide)) rfl rfl rfl (fun _ => ?_)
  rw [e2, own_e ho]
  refine ⟨by rw [up2_fo e (by decide)]; exact z.1, by rw [up2_fo e (by decide)]; exact z.2.1, by rw [up2_fo e (by decide)]; exact z.2.2.1, z.2.2.2.1, fun g hg => ?_⟩
  show _ ↔ g ∈ f :: l
  rw [List.mem_cons, hl]
  by_cases q : g = f
  · subst q
    rw [up2_s e]
    exact ⟨fun _ => Or.inl rfl, fun _ => hv⟩
  · rw [up2_k e (by omega), z.2.2.2.2 g hg]
    exact ⟨fun x => Or.inr x, fun x => x.elim (fun y => absurd y q) id⟩
theorem RelC.op {V W : Vf} {L : Lf} {b o : Nat} {v : Int32} {T : Tk} {s : St} (h : RelC V L b T s) (ho : (V 1 2).toInt = (o : Int)) (e : W = up2 V 56 o v) (hv : v.toInt ≠ -1) : RelC W L b T (sN s 2 1) := by
  have z := h.ow ho
  have e2 : W 1 2 = V 1 2 := up2_o e (by decide)
  refine h.w1 e (by decide) (fun q => absurd q.1 (by decide)) rfl rfl rfl (fun _ => ?_)
  rw [e2, own_e ho]
  refine ⟨by rw [up2_fo e (by decide)]; exact z.1, ?_, by rw [up2_fo e (by decide)]; exact z.2.2.1, z.2.2.2.1, by rw [up2_fo e (by decide)]; exact z.2.2.2.2⟩
  rw [up2_s e]
  exact ⟨fun q => absurd q hv, fun q => absurd rfl q⟩
theorem RelC.cl {V W : Vf} {L : Lf} {b o : Nat} {v : Int32} {T : Tk} {s : St} (h : RelC V L b T s) (ho : (V 1 2).toInt = (o : Int)) (e : W = up2 V 57 o v) (hv : v.toInt ≠ -1) : RelC W L b T (sN s 3 1) := by
  have z := h.ow ho
  have e2 : W 1 2 = V 1 2 := up2_o e (by decide)
  refine h.w1 e (by decide) (fun q => absurd q.1 (by decide)) rfl rfl rfl (fun _ => ?_)
  rw [e2, own_e ho]
  refine ⟨by rw [up2_fo e (by decide)]; exact z.1, by rw [up2_fo e (by decide)]; exact z.2.1, ?_, z.2.2.2.1, by rw [up2_fo e (by decide)]; exact z.2.2.2.2⟩
  rw [up2_s e]
  exact ⟨fun q => absurd q hv, fun q => absurd rfl q⟩
/-- the owner is set, is taken away -/
theorem RelC.os {V W : Vf} {L : Lf} {b o : Nat} {x : Int32} {T : Tk} {s : St} (h : RelC V L b T s) (e : W = up2 V 1 2 x) (hx : x.toInt = (o : Int)) (ow : OWr V o s) : RelC W L b T s := by
  refine h.w1 e (by decide) (fun q => absurd q.2 (by decide)) rfl rfl rfl (fun _ => ?_)
  have e1 : W 1 2 = x := up2_s e
  have e2 : Int32.toNatClampNeg (W 1 2) = o := own_e (by rw [e1]; exact hx)
  rw [e2]
  exact ow.ag (up2_fo e (by decide)) (up2_fo e (by decide)) (up2_fo e (by decide)) (up2_fo e (by decide)) (fun _ _ => rfl) rfl
theorem RelC.on {V W : Vf} {L : Lf} {b : Nat} {x : Int32} {T : Tk} {s : St} (h : RelC V L b T s) (e : W = up2 V 1 2 x) (hx : x.toInt < 0) : RelC W L b T s :=
  h.w1 e (by decide) (fun q => absurd q.2 (by decide)) rfl rfl rfl (fun q => by
    have e1 : W 1 2 = x := up2_s e
    rw [e1] at q
    omega)
/-- there is no owner: his places may be written -/
def okE (fs : List (Nat × Nat)) (cs : List Nat) : Bool := cs.all (fun c => !([1, 6, 12, 13, 41, 43, 63, 65].contains c)) && fs.all (fun x => !([(6, 7), (6, 8), (6, 9), (6, 10), (1, 2), (1, 3)].contains x) && decide (x.1 ≤ 6))
theorem RelC.agn {V W : Vf} {L M : Lf} {b : Nat} {T : Tk} {s : St} {fs : List (Nat × Nat)} {cs ls : List Nat} (h : RelC V L b T s) (hn : (V 1 2).toInt < 0) (a : agr fs cs V W) (k : okE fs cs = true) (m : agL ls L M) (j : okLs ls = true) : RelC W M b T s := by
  have u := okLs.use m j
  have e12 : W 12 = V 12 := funext fun q => ok_use a k (x := 12) rfl (Or.inl (by decide))
  have e13 : W 13 = V 13 := funext fun q => ok_use a k (x := 13) rfl (Or.inl (by decide))
  have e7 : W 6 7 = V 6 7 := ok_use a k rfl (Or.inr rfl)
  have e2 : W 1 2 = V 1 2 := ok_use a k rfl (Or.inr rfl)
  refine ⟨h.1.ag e7 (ok_use a k rfl (Or.inr rfl)) (ok_use a k rfl (Or.inr rfl)) (ok_use a k rfl (Or.inr rfl)) e12 e13 u.1 u.2.1, h.2.1.ag e7 e12 e13 u.2.1 (ok_use a k rfl (Or.inr rfl)), h.2.2.1.ag (funext fun q => ok_use a k (x := 43) rfl (Or.inl (by decide))) u.2.2 rfl, h.2.2.2.1.ag (funext fun q => ok_use a k (x := 41) rfl (Or.inl (by decide))) (funext fun q => ok_use a k (x := 63) rfl (Or.inl (by decide))) (funext fun q => ok_use a k (x := 65) rfl (Or.inl (by decide))) rfl, ?_⟩
  intro q
  rw [e2] at q
  omega
/-- a need more -/
def okD (fs : List (Nat × Nat)) (cs : List Nat) : Bool := cs.all (fun c => !([1, 6, 12, 13, 41, 43, 56, 57, 61, 63, 65].contains c)) && fs.all (fun x => !([(6, 7), (6, 8), (6, 9), (6, 10), (1, 2), (1, 3)].contains x) && decide (x.1 ≤ 6))
theorem RelC.nd {V W : Vf} {L : Lf} {b o : Nat} {T : Tk} {s : St} {fs : List (Nat × Nat)} {cs : List Nat} (h : RelC V L b T s) (ho : (V 1 2).toInt = (o : Int)) (a : agr fs cs V W) (k : okD fs cs = true) (n1 : (W 49 o).toInt = (V 49 o).toInt + 1) : RelC W L b T (sN s 1 (s.1 1 + 1)) := by
  have e12 : W 12 = V 12 := funext fun q => ok_use a k (x := 12) rfl (Or.inl (by decide))
  have e13 : W 13 = V 13 := funext fun q => ok_use a k (x := 13) rfl (Or.inl (by decide))
  have e7 : W 6 7 = V 6 7 := ok_use a k rfl (Or.inr rfl)
  have e2 : W 1 2 = V 1 2 := ok_use a k rfl (Or.inr rfl)
  have z := h.ow ho
  refine ⟨h.1.ag e7 (ok_use a k rfl (Or.inr rfl)) (ok_use a k rfl (Or.inr rfl)) (ok_use a k rfl (Or.inr rfl)) e12 e13 rfl rfl, h.2.1.ag e7 e12 e13 rfl (ok_use a k rfl (Or.inr rfl)), h.2.2.1.ag (funext fun q => ok_use a k (x := 43) rfl (Or.inl (by decide))) rfl rfl, h.2.2.2.1.ag (funext fun q => ok_use a k (x := 41) rfl (Or.inl (by decide))) (funext fun q => ok_use a k (x := 63) rfl (Or.inl (by decide))) (funext fun q => ok_use a k (x := 65) rfl (Or.inl (by decide))) rfl, fun _ => ?_⟩
  rw [e2, own_e ho]
  have e56 : W 56 = V 56 := funext fun q => ok_use a k (x := 56) rfl (Or.inl (by decide))
  have e57 : W 57 = V 57 := funext fun q => ok_use a k (x := 57) rfl (Or.inl (by decide))
  have e61 : W 61 = V 61 := funext fun q => ok_use a k (x := 61) rfl (Or.inl (by decide))
  refine ⟨?_, by rw [e56]; exact z.2.1, by rw [e57]; exact z.2.2.1, z.2.2.2.1, by rw [e61]; exact z.2.2.2.2⟩
  rw [n1, z.1]
  show ((s.1 1 : Nat) : Int) + 1 = ((s.1 1 + 1 : Nat) : Int)
  omega
theorem OWr.fresh {V : Vf} {o n : Nat} {s s' : St} (k : keepS (scopeS s) n s') (c49 : (V 49 o).toInt = 0) (c56 : (V 56 o).toInt = -1) (c57 : (V 57 o).toInt = -1) (c61 : ∀ q : Nat, (q : Int) < 20 → (V 61 (20 * o + q)).toInt = -1) (w : Int64) : OWr V o (sA s' 2 w) := by
  refine ⟨?_, ⟨fun _ => ?_, fun _ => c56⟩, ⟨fun _ => ?_, fun _ => c57⟩, ?_, fun f hf => ?_⟩
  · show _ = ((s'.1 1 : Nat) : Int)
    rw [c49, k.2.1 1 (by decide)]
    rfl
  · show s'.1 2 ≠ 1
    rw [k.2.1 2 (by decide)]
    show (0 : Nat) ≠ 1
    decide
  · show s'.1 3 ≠ 1
    rw [k.2.1 3 (by decide)]
    show (0 : Nat) ≠ 1
    decide
  · show s'.1 4 = 0
    rw [k.2.1 4 (by decide)]
    rfl
  · show _ ↔ f ∈ s'.2.2.2
    rw [k.2.2.2]
    exact ⟨fun q => absurd (c61 f (by omega)) q, fun q => absurd q List.not_mem_nil⟩
/-! wraps -/
theorem take_s {α : Type} : ∀ (l : List α) (i : Nat) (h : i < l.length), l.take (i + 1) = l.take i ++ [l[i]]
  | [], i, h => absurd h (Nat.not_lt_zero _)
  | a :: l, 0, h => rfl
  | a :: l, i + 1, h => congrArg (List.cons a) (take_s l i (Nat.lt_of_succ_lt_succ h))
theorem ar_app (l : List (Nat × Bool)) (x : Nat × Bool) (f : Nat) : arounds (l ++ [x]) f = arounds l f + (if x.1 = f ∧ x.2 = true then 1 else 0) := by
  unfold arounds
  rw [List.filter_append, List.length_append]
  by_cases c : x.1 = f ∧ x.2 = true
  · rw [if_pos c, List.filter_cons_of_pos (by rw [c.1, c.2]; simp)]
    rfl
  · rw [if_neg c, List.filter_cons_of_neg (by intro q; rw [Bool.and_eq_true, beq_iff_eq] at q; exact c q)]
    rfl
theorem WRc.st {V : Vf} {b i f : Nat} {s : St} (h : WRc V b s) (hi : (i : Int) < (V 41 b).toInt) : arounds (s.2.2.1.take (i + 1)) f = arounds (s.2.2.1.take i) f + (if (V 65 (12 * b + i)).toInt = 1 ∧ (V 63 (12 * b + i)).toInt = (f : Int) then 1 else 0) := by
  have hl : i < s.2.2.1.length := by have := h.1; omega
  have z := h.2 i hl
  rw [take_s _ i hl, ar_app, z.2]
  congr 1
  by_cases c : (V 65 (12 * b + i)).toInt = 1 ∧ (V 63 (12 * b + i)).toInt = (f : Int)
  · rw [if_pos c, if_pos ⟨by show (V 63 (12 * b + i)).toInt.toNat = f; omega, decide_eq_true c.1⟩]
  · rw [if_neg c, if_neg (fun q => c ⟨of_decide_eq_true q.2, by have q1 : (V 63 (12 * b + i)).toInt.toNat = f := q.1; omega⟩)]
theorem WRc.all {V : Vf} {b i f : Nat} {s : St} (h : WRc V b s) (hi : (i : Int) = (V 41 b).toInt) : arounds (s.2.2.1.take i) f = arounds s.2.2.1 f := by
  rw [List.take_of_length_le (by have := h.1; omega)]
def okW (fs : List (Nat × Nat)) (cs : List Nat) : Bool := cs.all (fun c => !([1, 6, 12, 13, 43, 49, 56, 57, 61].contains c)) && fs.all (fun x => !([(6, 7), (6, 8), (6, 9), (6, 10), (1, 2), (1, 3)].contains x) && decide (x.1 ≤ 6))
theorem RelC.wr {V W : Vf} {L : Lf} {b f : Nat} {m q9 : Int32} {T : Tk} {s : St} {fs : List (Nat × Nat)} {cs : List Nat} (h : RelC V L b T s) (a : agr fs cs V W) (k : okW fs cs = true) (h0 : 0 ≤ (V 41 b).toInt) (n1 : (W 41 b).toInt = (V 41 b).toInt + 1) (e63 : W 63 = upd (V 63) (12 * b + Int32.toNatClampNeg (V 41 b)) m) (e65 : W 65 = upd (V 65) (12 * b + Int32.toNatClampNeg (V 41 b)) q9) (hm : m.toInt = (f : Int)) : RelC W L b T (sW s (f, decide (q9.toInt = 1))) := by
  have e12 : W 12 = V 12 := funext fun q => ok_use a k (x := 12) rfl (Or.inl (by decide))
  have e13 : W 13 = V 13 := funext fun q => ok_use a k (x := 13) rfl (Or.inl (by decide))
  have e7 : W 6 7 = V 6 7 := ok_use a k rfl (Or.inr rfl)
  have e2 : W 1 2 = V 1 2 := ok_use a k rfl (Or.inr rfl)
  have kc := i_clamp (x := V 41 b) rfl h0
  have w := h.2.2.2.1
  have wl := w.1
  refine ⟨h.1.ag e7 (ok_use a k rfl (Or.inr rfl)) (ok_use a k rfl (Or.inr rfl)) (ok_use a k rfl (Or.inr rfl)) e12 e13 rfl rfl, h.2.1.ag e7 e12 e13 rfl (ok_use a k rfl (Or.inr rfl)), h.2.2.1.ag (funext fun q => ok_use a k (x := 43) rfl (Or.inl (by decide))) rfl rfl, ⟨?_, ?_⟩, ?_⟩
  · show ((s.2.2.1 ++ [(f, decide (q9.toInt = 1))]).length : Int) = _
    rw [List.length_append, n1]
    show ((s.2.2.1.length + 1 : Nat) : Int) = _
    omega
  · show ∀ i (hi : i < (s.2.2.1 ++ [(f, decide (q9.toInt = 1))]).length), 0 ≤ (W 63 (12 * b + i)).toInt ∧ (s.2.2.1 ++ [(f, decide (q9.toInt = 1))])[i] = ((W 63 (12 * b + i)).toInt.toNat, decide ((W 65 (12 * b + i)).toInt = 1))
    intro i hi
    rw [e63, e65]
    have hi2 : i < s.2.2.1.length + 1 := by rw [List.length_append] at hi; exact hi
    by_cases c : i < s.2.2.1.length
    · have u1 : upd (V 63) (12 * b + Int32.toNatClampNeg (V 41 b)) m (12 * b + i) = V 63 (12 * b + i) := if_neg (by omega)
      have u2 : upd (V 65) (12 * b + Int32.toNatClampNeg (V 41 b)) q9 (12 * b + i) = V 65 (12 * b + i) := if_neg (by omega)
      rw [u1, u2, List.getElem_append_left c]
      exact w.2 i c
    · have ei : i = s.2.2.1.length := by omega
      have u1 : upd (V 63) (12 * b + Int32.toNatClampNeg (V 41 b)) m (12 * b + i) = m := if_pos (by omega)
      have u2 : upd (V 65) (12 * b + Int32.toNatClampNeg (V 41 b)) q9 (12 * b + i) = q9 := if_pos (by omega)
      rw [u1, u2, List.getElem_append_right (by omega), hm]
      refine ⟨by omega, ?_⟩
      rw [Int.toNat_natCast]
      exact List.getElem_singleton _
  · intro q
    rw [e2] at q ⊢
    exact (h.2.2.2.2 q).ag (funext fun q => ok_use a k (x := 49) rfl (Or.inl (by decide))) (funext fun q => ok_use a k (x := 56) rfl (Or.inl (by decide))) (funext fun q => ok_use a k (x := 57) rfl (Or.inl (by decide))) (funext fun q => ok_use a k (x := 61) rfl (Or.inl (by decide))) (fun _ _ => rfl) rfl
theorem RelC.s4 {V : Vf} {L : Lf} {b v : Nat} {T : Tk} {s : St} (h : RelC V L b T s) (hn : (V 1 2).toInt < 0) : RelC V L b T (sN s 4 v) := ⟨h.1, h.2.1, h.2.2.1, h.2.2.2.1, fun q => absurd q (by omega)⟩
/-! a need more: as the cells are written -/
def okQ (fs : List (Nat × Nat)) (cs : List Nat) : Bool := cs.all (fun c => !([45, 46, 50, 51, 52, 53, 54, 55].contains c)) && fs.all (fun x => !(([] : List (Nat × Nat)).contains x) && decide (x.1 ≤ 6))
theorem CNc.nd2 {V W : Vf} {b o p f ca : Nat} {a : Int} {x0 x1 x2 : Int32} {s : St} {fs : List (Nat × Nat)} {cs : List Nat} (h : CNc V b s) (ho : o + 1 = 24 * b + (s.2.1 2).length) (hb : 24 * b ≤ o) (h1 : (V 49 o).toInt = ((s.1 1 : Nat) : Int)) (h8 : s.1 1 < 8) (ag : agr fs cs V W) (k : okQ fs cs = true) (e49 : ∀ k, k ≠ o → W 49 k = V 49 k) (n49 : (W 49 o).toInt = (V 49 o).toInt + 1) (e58 : W 58 = upd (V 58) p x1) (e59 : W 59 = upd (V 59) p x2) (e60 : W 60 = upd (V 60) p x0) (hp : p = 8 * o + s.1 1) (hx1 : x1.toInt = (f : Int)) (hx0 : x0.toInt = ((a.toNat : Nat) : Int)) (hx2 : x2.toInt + 1 = (ca : Int)) (hf : f < 24) : CNc W b (ndS s a f ca) := by
  subst hp
  have us : ∀ (g : Nat → Int32) (v : Int32), upd g (8 * o + s.1 1) v (8 * o + s.1 1) = v := fun g v => if_pos rfl
  refine h.nd ho hb h1 h8 (funext fun q => ok_use ag k (x := 45) rfl (Or.inl (by decide))) (funext fun q => ok_use ag k (x := 46) rfl (Or.inl (by decide))) (fun x a1 a2 => ?_) e49 n49 (fun x k a1 a2 hk => ?_) (by rw [e58, us]; exact hx1) (by rw [e60, us]; exact hx0) (by rw [e59, us]; exact hx2) hf
  · have z : x = 50 ∨ x = 51 ∨ x = 52 ∨ x = 53 ∨ x = 54 ∨ x = 55 := by omega
    rcases z with z | z | z | z | z | z <;> (subst z; exact funext fun q => ok_use ag k rfl (Or.inl (by decide)))
  · have z : x = 58 ∨ x = 59 ∨ x = 60 := by omega
    rcases z with z | z | z
    · subst z
      rw [e58]
      exact if_neg hk
    · subst z
      rw [e59]
      exact if_neg hk
    · subst z
      rw [e60]
      exact if_neg hk
theorem UND.mv {x : Int32} {f g : Nat → Nat} {l : List Nat} (h : UND x f l) (e : ∀ i, 10 ≤ i → g i = f i) : UND x g l := by
  unfold UND at h ⊢
  rw [msk_eq e]
  exact h
/-! where a component's E's begin; wraps -/
def okR (k : Nat) : Prop := k < 20 ∨ k = 30 ∨ k = 31
def cR (V : Vf) (o k : Nat) : Int := if k < 20 then (V 61 (20 * o + k)).toInt else if k = 30 then (V 56 o).toInt else (V 57 o).toInt
def rgv (s : St) (j : Nat) : Int := if nL s j = 0 then -1 else ((psz (opf s) (nL s j - 1) : Nat) : Int)
def REc (V : Vf) (b : Nat) (s : St) : Prop := (s.2.1 2).length ≤ 24 ∧ (∀ c, c < (s.2.1 2).length → ∀ k, okR k → cR V (24 * b + c) k = rgv s (100 + 32 * c + k)) ∧ (∀ j, 100 ≤ j → j < 900 → nL s j ≤ cl s + 1) ∧ ∀ j, 100 + 32 * (s.2.1 2).length ≤ j → j < 900 → nL s j = 0
theorem cR_e {V W : Vf} {o k : Nat} (e1 : k < 20 → W 61 (20 * o + k) = V 61 (20 * o + k)) (e2 : W 56 o = V 56 o) (e3 : W 57 o = V 57 o) : cR W o k = cR V o k := by
  unfold cR
  by_cases a : k < 20
  · rw [if_pos a, if_pos a, e1 a]
  · rw [if_neg a, if_neg a, e2, e3]
theorem rgv_e {s s' : St} {j : Nat} (n : nL s' j = nL s j) (p : nL s j ≠ 0 → psz (opf s') (nL s j - 1) = psz (opf s) (nL s j - 1)) : rgv s' j = rgv s j := by
  unfold rgv
  rw [n]
  by_cases q : nL s j = 0
  · rw [if_pos q, if_pos q]
  · rw [if_neg q, if_neg q, p q]
theorem REc.mv {V W : Vf} {b : Nat} {s s' : St} (h : REc V b s) (e : ∀ c, c < (s.2.1 2).length → ∀ k, okR k → cR W (24 * b + c) k = cR V (24 * b + c) k) (k : keepE s s') (l : s'.2.1 2 = s.2.1 2) : REc W b s' := by
  have h0 := h.1
  have n : ∀ j, 100 ≤ j → j < 900 → nL s' j = nL s j := fun j h1 h2 => congrArg List.length (k.2 j (by omega) (by omega))
  unfold REc
  rw [l]
  refine ⟨h0, fun c hc q hq => ?_, fun j h1 h2 => ?_, fun j h1 h2 => ?_⟩
  · have b1 : 100 + 32 * c + q < 900 := by unfold okR at hq; omega
    rw [e c hc q hq, h.2.1 c hc q hq]
    exact (rgv_e (n _ (by omega) b1) (fun _ => k.psz (by have := h.2.2.1 (100 + 32 * c + q) (by omega) b1; omega))).symm
  · rw [n j h1 h2]
    have := h.2.2.1 j h1 h2
    have := k.1
    omega
  · rw [n j (by omega) h2]
    exact h.2.2.2 j h1 h2
theorem REc.ag {fs : List (Nat × Nat)} {cs : List Nat} {V W : Vf} {b : Nat} {s s' : St} (h : REc V b s) (a : agr fs cs V W) (q1 : ∀ k, wrL fs cs 56 k = false) (q2 : ∀ k, wrL fs cs 57 k = false) (q3 : ∀ k, wrL fs cs 61 k = false) (k : keepE s s') (l : s'.2.1 2 = s.2.1 2) : REc W b s' :=
  h.mv (fun _ _ _ _ => cR_e (fun _ => a _ _ (q3 _)) (a _ _ (q1 _)) (a _ _ (q2 _))) k l
theorem REc.fi {V W : Vf} {b o : Nat} {s : St} (h : REc V b s) (f : frX (xI o) V W) (ho : 24 * b + (s.2.1 2).length ≤ o) : REc W b s := by
  refine h.mv (fun c hc q hq => cR_e (fun q2 => f 61 _ (by decide) ?_) (f 56 _ (by decide) ?_) (f 57 _ (by decide) ?_)) keepE.rf rfl
  · left
    show 20 * (24 * b + c) + q < 20 * o
    omega
  · left
    show 24 * b + c < o
    omega
  · left
    show 24 * b + c < o
    omega
theorem REc.fr {V W : Vf} {b b1 : Nat} {s : St} (h : REc V b s) (f : frX (xR b1) V W) (hb : b ≠ b1) : REc W b s := by
  have h0 := h.1
  refine h.mv (fun c hc q hq => cR_e (fun q2 => f 61 _ (by decide) ?_) (f 56 _ (by decide) ?_) (f 57 _ (by decide) ?_)) keepE.rf rfl
  · show 20 * (24 * b + c) + q < 480 * b1 ∨ 480 * b1 + 480 ≤ 20 * (24 * b + c) + q
    omega
  · show 24 * b + c < 24 * b1 ∨ 24 * b1 + 24 ≤ 24 * b + c
    omega
  · show 24 * b + c < 24 * b1 ∨ 24 * b1 + 24 ≤ 24 * b + c
    omega
theorem cR_30 {V W : Vf} {o : Nat} {v : Int32} (e : W = up2 V 56 o v) : cR W o 30 = v.toInt ∧ ∀ o' q, okR q → ¬ (o' = o ∧ q = 30) → cR W o' q = cR V o' q := by
  refine ⟨?_, fun o' q _ hn => ?_⟩
  · show (W 56 o).toInt = _
    rw [up2_s e]
  · unfold cR
    by_cases a : q < 20
    · rw [if_pos a, if_pos a, up2_o e (by decide)]
    · rw [if_neg a, if_neg a]
      by_cases c : q = 30
      · rw [if_pos c, if_pos c, up2_k e (fun z => hn ⟨z, c⟩)]
      · rw [if_neg c, if_neg c, up2_o e (by decide)]
theorem cR_31 {V W : Vf} {o : Nat} {v : Int32} (e : W = up2 V 57 o v) : cR W o 31 = v.toInt ∧ ∀ o' q, okR q → ¬ (o' = o ∧ q = 31) → cR W o' q = cR V o' q := by
  refine ⟨?_, fun o' q hq hn => ?_⟩
  · show (W 57 o).toInt = _
    rw [up2_s e]
  · unfold cR
    by_cases a : q < 20
    · rw [if_pos a, if_pos a, up2_o e (by decide)]
    · rw [if_neg a, if_neg a]
      by_cases c : q = 30
      · rw [if_pos c, if_pos c, up2_o e (by decide)]
      · have q31 : q = 31 := by unfold okR at hq; omega
        rw [if_neg c, if_neg c, up2_k e (fun z => hn ⟨z, q31⟩)]
theorem cR_m {V W : Vf} {o f : Nat} {v : Int32} (hf : f < 20) (e : W = up2 V 61 (20 * o + f) v) : cR W o f = v.toInt ∧ ∀ o' q, okR q → ¬ (o' = o ∧ q = f) → cR W o' q = cR V o' q := by
  refine ⟨?_, fun o' q hq hn => ?_⟩
  · unfold cR
    rw [if_pos hf, up2_s e]
  · unfold cR
    by_cases a : q < 20
    · rw [if_pos a, if_pos a, up2_k e (by omega)]
    · rw [if_neg a, if_neg a, up2_o e (by decide), up2_o e (by decide)]
theorem REc.st {V W : Vf} {b k o : Nat} {x : Int} {s s' : St} (h : REc V b s) (hk : okR k) (ho : o + 1 = 24 * b + (s.2.1 2).length) (hb : 24 * b ≤ o) (c : cR W o k = x ∧ ∀ o' q, okR q → ¬ (o' = o ∧ q = k) → cR W o' q = cR V o' q) (hx : x = ((wl s : Nat) : Int)) (es : ∀ j, 5 ≤ j → s'.2.1 j = s.2.1 j) (e2 : s'.2.1 2 = s.2.1 2) : REc W b (sL s' (100 + 32 * ((s.2.1 2).length - 1) + k) (cl s + 1)) := by
  have h0 := h.1
  have kb : k < 32 := by unfold okR at hk; omega
  have j0 : 100 + 32 * ((s.2.1 2).length - 1) + k < 900 := by omega
  have l2 : (sL s' (100 + 32 * ((s.2.1 2).length - 1) + k) (cl s + 1)).2.1 2 = s.2.1 2 := (sL_o s' _ (by omega)).trans e2
  have nn : ∀ j, 5 ≤ j → ¬ j = 100 + 32 * ((s.2.1 2).length - 1) + k → nL (sL s' (100 + 32 * ((s.2.1 2).length - 1) + k) (cl s + 1)) j = nL s j := fun j h5 hj => (nL_o s' _ hj).trans (congrArg List.length (es j h5))
  have ns : nL (sL s' (100 + 32 * ((s.2.1 2).length - 1) + k) (cl s + 1)) (100 + 32 * ((s.2.1 2).length - 1) + k) = cl s + 1 := nL_s s' _ _
  have ec : cl (sL s' (100 + 32 * ((s.2.1 2).length - 1) + k) (cl s + 1)) = cl s := nn 5 (by decide) (by omega)
  have eo : opf (sL s' (100 + 32 * ((s.2.1 2).length - 1) + k) (cl s + 1)) = opf s := funext fun i => nn _ (by omega) (by omega)
  unfold REc
  rw [l2, ec]
  refine ⟨h0, fun c9 hc q hq => ?_, fun j h1 h2 => ?_, fun j h1 h2 => ?_⟩
  · have qb : q < 32 := by unfold okR at hq; omega
    by_cases z : 24 * b + c9 = o ∧ q = k
    · have ec9 : c9 = (s.2.1 2).length - 1 := by omega
      rw [z.1, z.2, c.1, ec9, hx]
      unfold rgv
      rw [ns, eo, if_neg (by omega), Nat.add_sub_cancel]
      rfl
    · rw [c.2 _ q hq z, h.2.1 c9 hc q hq]
      exact (rgv_e (nn _ (by omega) (by omega)) (fun _ => by rw [eo])).symm
  · by_cases z : j = 100 + 32 * ((s.2.1 2).length - 1) + k
    · rw [z, ns]
      exact Nat.le_refl _
    · rw [nn j (by omega) z]
      exact h.2.2.1 j h1 h2
  · rw [nn j (by omega) (by omega)]
    exact h.2.2.2 j h1 h2
/-- a component more -/
theorem REc.nm {V : Vf} {b o m : Nat} {sc : Int} {w : Int64} {l : List Nat} {s : St} (h : REc V b s) (ho : o = 24 * b + (s.2.1 2).length) (hl : (s.2.1 2).length < 24) (e56 : (V 56 o).toInt = -1) (e57 : (V 57 o).toInt = -1) (e61 : ∀ q : Nat, (q : Int) < 20 → (V 61 (20 * o + q)).toInt = -1) : REc V b (nmS s m sc w l) := by
  have e : ∀ j, 5 ≤ j → (nmS s m sc w l).2.1 j = s.2.1 j := fun j hj => (show upB s.2.1 2 w j = s.2.1 j from upB_p _ _ _ (by omega))
  have n : ∀ j, 5 ≤ j → nL (nmS s m sc w l) j = nL s j := fun j hj => congrArg List.length (e j hj)
  have l2 : ((nmS s m sc w l).2.1 2).length = (s.2.1 2).length + 1 := (show (upB s.2.1 2 w 2).length = _ from by unfold upB; rw [if_pos rfl, List.length_append]; rfl)
  have ec : cl (nmS s m sc w l) = cl s := n 5 (by decide)
  have eo : opf (nmS s m sc w l) = opf s := funext fun i => n _ (by omega)
  unfold REc
  rw [l2, ec]
  refine ⟨by omega, fun c hc q hq => ?_, fun j h1 h2 => ?_, fun j h1 h2 => ?_⟩
  · have qb : q < 32 := by unfold okR at hq; omega
    by_cases z : c = (s.2.1 2).length
    · have z0 : nL s (100 + 32 * c + q) = 0 := h.2.2.2 _ (by omega) (by omega)
      unfold rgv
      rw [n _ (by omega), z0, if_pos rfl, z, ← ho]
      unfold cR
      by_cases a : q < 20
      · rw [if_pos a]
        exact e61 q (by omega)
      · rw [if_neg a]
        by_cases a2 : q = 30
        · rw [if_pos a2]
          exact e56
        · rw [if_neg a2]
          exact e57
    · rw [h.2.1 c (by omega) q hq]
      exact (rgv_e (n _ (by omega)) (fun _ => by rw [eo])).symm
  · rw [n j (by omega)]
    exact h.2.2.1 j h1 h2
  · rw [n j (by omega)]
    exact h.2.2.2 j (by omega) h2
/-! wraps -/
def WWr (V : Vf) (b : Nat) (s : St) (w : Nat) : Prop := (V 62 (12 * b + w)).toInt = ((nL s (900 + 8 * w) : Nat) : Int) ∧ (V 63 (12 * b + w)).toInt = ((nL s (901 + 8 * w) : Nat) : Int) ∧ (V 64 (12 * b + w)).toInt = ((nL s (902 + 8 * w) : Nat) : Int) ∧ (V 65 (12 * b + w)).toInt = ((nL s (903 + 8 * w) : Nat) : Int) ∧ (V 66 (12 * b + w)).toInt = ((psz (opf s) (nL s (904 + 8 * w)) : Nat) : Int) ∧ nL s (904 + 8 * w) ≤ cl s
def WWc (V : Vf) (b : Nat) (s : St) : Prop := s.2.2.1.length ≤ 12 ∧ ∀ w, w < s.2.2.1.length → WWr V b s w
theorem WWr.mv {V W : Vf} {b w : Nat} {s s' : St} (h : WWr V b s w) (hw : w < 12) (e : ∀ x, 62 ≤ x → x ≤ 66 → W x (12 * b + w) = V x (12 * b + w)) (k : keepE s s') : WWr W b s' w := by
  have n : ∀ j, 900 ≤ j → j < 1000 → nL s' j = nL s j := fun j h1 h2 => congrArg List.length (k.2 j (by omega) (by omega))
  unfold WWr at h ⊢
  rw [e 62 (by decide) (by decide), e 63 (by decide) (by decide), e 64 (by decide) (by decide), e 65 (by decide) (by decide), e 66 (by decide) (by decide), n (900 + 8 * w) (by omega) (by omega), n (901 + 8 * w) (by omega) (by omega), n (902 + 8 * w) (by omega) (by omega), n (903 + 8 * w) (by omega) (by omega), n (904 + 8 * w) (by omega) (by omega), k.psz h.2.2.2.2.2]
  have := k.1
  exact ⟨h.1, h.2.1, h.2.2.1, h.2.2.2.1, h.2.2.2.2.1, by omega⟩
theorem WWc.mv {V W : Vf} {b : Nat} {s s' : St} (h : WWc V b s) (e : ∀ w, w < s.2.2.1.length → ∀ x, 62 ≤ x → x ≤ 66 → W x (12 * b + w) = V x (12 * b + w)) (k : keepE s s') (l : s'.2.2.1 = s.2.2.1) : WWc W b s' := by
  have h0 := h.1
  unfold WWc
  rw [l]
  exact ⟨h0, fun w hw => (h.2 w hw).mv (by omega) (e w hw) k⟩
theorem WWc.ag {fs : List (Nat × Nat)} {cs : List Nat} {V W : Vf} {b : Nat} {s s' : St} (h : WWc V b s) (a : agr fs cs V W) (q : ∀ k, wrL fs cs 62 k = false ∧ wrL fs cs 63 k = false ∧ wrL fs cs 64 k = false ∧ wrL fs cs 65 k = false ∧ wrL fs cs 66 k = false) (k : keepE s s') (l : s'.2.2.1 = s.2.2.1) : WWc W b s' := by
  refine h.mv (fun w _ x h1 h2 => a _ _ ?_) k l
  have z := q (12 * b + w)
  rcases (show x = 62 ∨ x = 63 ∨ x = 64 ∨ x = 65 ∨ x = 66 from by omega) with r | r | r | r | r <;> rw [r]
  · exact z.1
  · exact z.2.1
  · exact z.2.2.1
  · exact z.2.2.2.1
  · exact z.2.2.2.2
theorem WWc.fr {V W : Vf} {b b1 : Nat} {s : St} (h : WWc V b s) (f : ∀ x k, 62 ≤ x → x ≤ 66 → (k < 12 * b1 ∨ 12 * b1 + 12 ≤ k) → W x k = V x k) (hb : b ≠ b1) : WWc W b s := by
  have h0 := h.1
  exact h.mv (fun w hw x h1 h2 => f x _ h1 h2 (by omega)) keepE.rf rfl
theorem WWc.gl {V : Vf} {b j : Nat} {x : List Int64} {s : St} (h : WWc V b s) (h1 : 8 ≤ j) (h2 : j < 900) : WWc V b (sLl s j x) := by
  have n : ∀ k, ¬ k = j → nL (sLl s j x) k = nL s k := fun k hk => nL_o s x hk
  have ec : cl (sLl s j x) = cl s := n 5 (by omega)
  have eo : opf (sLl s j x) = opf s := funext fun i => n _ (by omega)
  refine ⟨h.1, fun w hw => ?_⟩
  have y := h.2 w hw
  unfold WWr at y ⊢
  rw [eo, ec, n (900 + 8 * w) (by omega), n (901 + 8 * w) (by omega), n (902 + 8 * w) (by omega), n (903 + 8 * w) (by omega), n (904 + 8 * w) (by omega)]
  exact y
theorem wrS_o (s : St) (m : Nat) (a : Int) (l : List Nat) {k : Nat} (h : k < 900 + 8 * s.2.2.1.length ∨ 908 + 8 * s.2.2.1.length ≤ k) : (wrS s m a l).2.1 k = s.2.1 k := if_neg (by omega)
theorem wrS_i (s : St) (m : Nat) (a : Int) (l : List Nat) {i : Nat} (h : i < 8) : nL (wrS s m a l) (900 + 8 * s.2.2.1.length + i) = ([l.getD 0 0, m, l.getD 1 0, a.toNat, l.getD 2 0] : List Nat).getD i 0 := by
  show (if 900 + 8 * s.2.2.1.length ≤ 900 + 8 * s.2.2.1.length + i ∧ 900 + 8 * s.2.2.1.length + i < 908 + 8 * s.2.2.1.length then List.replicate (([l.getD 0 0, m, l.getD 1 0, a.toNat, l.getD 2 0] : List Nat).getD (900 + 8 * s.2.2.1.length + i - (900 + 8 * s.2.2.1.length)) 0) (0 : Int64) else s.2.1 (900 + 8 * s.2.2.1.length + i)).length = _
  rw [if_pos (by omega), List.length_replicate, Nat.add_sub_cancel_left]
theorem RelC.wS {V : Vf} {L : Lf} {b m : Nat} {a : Int} {l : List Nat} {T : Tk} {s : St} (h : RelC V L b T (sW s (m, decide (a = 1)))) : RelC V L b T (wrS s m a l) := h.sl rfl (fun j hj => wrS_o s m a l (Or.inl (by omega))) rfl
theorem keepC.em {s : St} {o : Nat} {x : List Int64} {y : Nat} : keepC s (emL s o x y) := ⟨fun _ _ => rfl, fun j hj => emS_5 s o x y j (by omega)⟩
theorem keepC.gl {s : St} {j : Nat} {x : List Int64} (h : 5 ≤ j) : keepC s (sLl s j x) := ⟨fun _ _ => rfl, fun i hi => sL_o s x (by omega)⟩
theorem keepC.wS {s : St} {m : Nat} {a : Int} {l : List Nat} : keepC s (wrS s m a l) := ⟨fun _ _ => rfl, fun j hj => wrS_o s m a l (Or.inl (by omega))⟩
/-- a wrap more -/
theorem WWc.wr {V W : Vf} {b m f v st p : Nat} {a : Int} {s : St} {p0 p1 p2 p3 p4 : Int32} (h : WWc V b s) (hl : s.2.2.1.length < 12) (hp : p = 12 * b + s.2.2.1.length) (u0 : W 62 = upd (V 62) p p0) (u1 : W 63 = upd (V 63) p p1) (u2 : W 64 = upd (V 64) p p2) (u3 : W 65 = upd (V 65) p p3) (u4 : W 66 = upd (V 66) p p4) (e0 : p0.toInt = (f : Int)) (e1 : p1.toInt = (m : Int)) (e2 : p2.toInt = (v : Int)) (e3 : p3.toInt = a) (ha : 0 ≤ a) (e4 : p4.toInt = ((psz (opf s) st : Nat) : Int)) (hs : st ≤ cl s) : WWc W b (wrS s m a [f, v, st]) := by
  have hn : ∀ j, (j < 900 + 8 * s.2.2.1.length ∨ 908 + 8 * s.2.2.1.length ≤ j) → nL (wrS s m a [f, v, st]) j = nL s j := fun j q => congrArg List.length (wrS_o s m a [f, v, st] q)
  have ec : cl (wrS s m a [f, v, st]) = cl s := hn 5 (Or.inl (by omega))
  have eo : opf (wrS s m a [f, v, st]) = opf s := funext fun i => hn _ (Or.inr (by omega))
  have ll : (wrS s m a [f, v, st]).2.2.1.length = s.2.2.1.length + 1 := (show (s.2.2.1 ++ [(m, decide (a = 1))]).length = _ from by rw [List.length_append]; rfl)
  unfold WWc
  rw [ll]
  refine ⟨by omega, fun w hw => ?_⟩
  unfold WWr
  rw [eo, ec, u0, u1, u2, u3, u4]
  by_cases z : w = s.2.2.1.length
  · have us : ∀ (g : Nat → Int32) (x : Int32), upd g p x (12 * b + w) = x := fun g x => if_pos (by omega)
    rw [us, us, us, us, us]
    have n0 : nL (wrS s m a [f, v, st]) (900 + 8 * w) = f := by rw [z]; exact wrS_i s m a [f, v, st] (i := 0) (by decide)
    have n1 : nL (wrS s m a [f, v, st]) (901 + 8 * w) = m := by rw [z, show 901 + 8 * s.2.2.1.length = 900 + 8 * s.2.2.1.length + 1 from by omega]; exact wrS_i s m a [f, v, st] (i := 1) (by decide)
    have n2 : nL (wrS s m a [f, v, st]) (902 + 8 * w) = v := by rw [z, show 902 + 8 * s.2.2.1.length = 900 + 8 * s.2.2.1.length + 2 from by omega]; exact wrS_i s m a [f, v, st] (i := 2) (by decide)
    have n3 : nL (wrS s m a [f, v, st]) (903 + 8 * w) = a.toNat := by rw [z, show 903 + 8 * s.2.2.1.length = 900 + 8 * s.2.2.1.length + 3 from by omega]; exact wrS_i s m a [f, v, st] (i := 3) (by decide)
    have n4 : nL (wrS s m a [f, v, st]) (904 + 8 * w) = st := by rw [z, show 904 + 8 * s.2.2.1.length = 900 + 8 * s.2.2.1.length + 4 from by omega]; exact wrS_i s m a [f, v, st] (i := 4) (by decide)
    rw [n0, n1, n2, n3, n4]
    exact ⟨e0, e1, e2, by omega, e4, hs⟩
  · have us : ∀ (g : Nat → Int32) (x : Int32), upd g p x (12 * b + w) = g (12 * b + w) := fun g x => if_neg (by omega)
    have y := h.2 w (by omega)
    have hb := h.1
    unfold WWr at y
    rw [us, us, us, us, us, hn (900 + 8 * w) (Or.inl (by omega)), hn (901 + 8 * w) (Or.inl (by omega)), hn (902 + 8 * w) (Or.inl (by omega)), hn (903 + 8 * w) (Or.inl (by omega)), hn (904 + 8 * w) (Or.inl (by omega))]
    exact y
/-- all that the code's side keeps between members and statements -/
def CEo (V : Vf) (b : Nat) (s : St) : Prop := CDc V b s ∧ REc V b s ∧ WWc V b s ∧ wl s ≤ 2 * s.1 0
theorem keepE.w9 {s : St} {m : Nat} {a : Int} {l : List Nat} (hl : s.2.2.1.length < 12) : ∀ j, j = 5 ∨ 2000 ≤ j → (wrS s m a l).2.1 j = s.2.1 j := fun j h => wrS_o s m a l (by omega)
theorem REc.w9 {V : Vf} {b m : Nat} {a : Int} {l : List Nat} {s : St} (h : REc V b s) (hl : s.2.2.1.length < 12) : REc V b (wrS s m a l) := by
  have e2 : (wrS s m a l).2.1 2 = s.2.1 2 := wrS_o s m a l (Or.inl (by omega))
  have n : ∀ j, j < 900 ∨ 2000 ≤ j → nL (wrS s m a l) j = nL s j := fun j q => congrArg List.length (wrS_o s m a l (by omega))
  have h0 := h.1
  have ec : cl (wrS s m a l) = cl s := n 5 (by omega)
  have eo : opf (wrS s m a l) = opf s := funext fun i => n _ (by omega)
  unfold REc
  rw [e2, ec]
  refine ⟨h0, fun c hc q hq => ?_, fun j h1 h2 => ?_, fun j h1 h2 => ?_⟩
  · have b1 : 100 + 32 * c + q < 900 := by unfold okR at hq; omega
    rw [h.2.1 c hc q hq]
    exact (rgv_e (n _ (Or.inl b1)) (fun _ => by rw [eo])).symm
  · rw [n j (Or.inl h2)]
    exact h.2.2.1 j h1 h2
  · rw [n j (Or.inl h2)]
    exact h.2.2.2 j h1 h2


abbrev r_x_readExpression38 : Room := { frames := 89, cells := 0, slots := 0, locals := 2640 }
abbrev q_x_readExpression38 (D : va_G) (ks : KS) (ad : Nat → Nat) (kk : Nat → ClassId) (V : Vf) (L : Lf) (Z : XZ) (p0 : Int32) (b : Nat) (gT : Tk) (gs : St) (gd : Nat) (A : Nat → Prop) : Array Value → State → Outcome → State → Prop := q_x_readExpression3 D ks ad kk V L Z p0 b gT gs gd A
theorem x_readExpression38 (l : Launch) (D : va_G) (ks : KS) (sz : Nat) (ad : Nat → Nat) (kk : Nat → ClassId) (V : Vf) (L : Lf) (Z : XZ) (p0 : Int32) (b : Nat) (gT : Tk) (gs : St) (gd : Nat) (hMV : rgd bX V) (rg_p0 : 0 ≤ p0.toInt ∧ p0.toInt ≤ 0) (hb2 : b < 2) (rbk : (V 1 1).toInt = (b : Int)) (rel : RelC V L b gT gs) (cdq : CDc V b gs) (hwl : wl gs ≤ 2 * gs.1 0) (yd : p0.toInt = (gd : Int)) (wh : (V 1 4).toInt = ((gs.1 4 : Nat) : Int)) (ow : ((V 1 4).toInt = 0 → 0 ≤ (V 1 2).toInt)) : Met l yX1_readExpression (Cond.code yX1_readExpression cX1_readExpression 3 (some .boolean) :: GW) r_x_readExpression38 (va_Pc [.ref (ad 1), .int p0] (gp D ks (xw ad kk V L Z) (xty kk Z) sz)) (q_x_readExpression38 D ks ad kk V L Z p0 b gT gs gd (va_A (xw ad kk V L Z) sz)) 0 0 (va_A (xw ad kk V L Z) sz) :=
  K_xexpr3 8 sz ad kk V L Z p0 b gT gs gd hMV (by omega) hb2 rbk rel cdq hwl yd wh ow (by omega)

abbrev r_x_readE3 : Room := { frames := 90, cells := 0, slots := 0, locals := 2662 }
abbrev q_x_readE3 (D : va_G) (ks : KS) (ad : Nat → Nat) (kk : Nat → ClassId) (V : Vf) (L : Lf) (Z : XZ) (p0 : Int32) (b : Nat) (gT : Tk) (gs : St) (A : Nat → Prop) : Array Value → State → Outcome → State → Prop := va_Qi (fun (r : Int32) (u : Vf × Lf) => rgd bX u.1 ∧ agr [(1, 3), (1, 4), (1, 6), (1, 8), (6, 8), (6, 9), (6, 10)] [42, 43, 44, 48] V u.1 ∧ agL [6, 44] L u.2 ∧ (0 ≤ r.toInt ∧ r.toInt ≤ 1) ∧ (Rd gT gs (fun k => Iexpr 0 :: Iem 0 :: Itake 59 :: k) (fun k => k) r.toInt (u.1 1 3).toInt (fun s9 => RelC u.1 u.2 b gT s9 ∧ keepS gs 2 s9 ∧ keepE gs s9 ∧ CDc u.1 b s9 ∧ wl s9 + 2 * gs.1 0 ≤ wl gs + 2 * s9.1 0 + 0)) ∧ (ROWL b L u.2)) (fun u t => gq D A (xw ad kk u.1 u.2 Z) (xty kk Z) t) A
set_option maxHeartbeats 4000000 in
set_option maxRecDepth 100000 in
theorem x_readE3 (l : Launch) (D : va_G) (ks : KS) (sz : Nat) (ad : Nat → Nat) (kk : Nat → ClassId) (V : Vf) (L : Lf) (Z : XZ) (p0 : Int32) (b : Nat) (gT : Tk) (gs : St) (hMV : rgd bX V) (rg_p0 : 0 ≤ p0.toInt ∧ p0.toInt ≤ 2) (hb2 : b < 2) (rbk : (V 1 1).toInt = (b : Int)) (rel : RelC V L b gT gs) (cdq : CDc V b gs) (hwl : wl gs ≤ 2 * gs.1 0) (pw : p0.toInt = ((gs.1 4 : Nat) : Int)) (owp : (p0.toInt = 0 → 0 ≤ (V 1 2).toInt))  : Met l yX1_readE (Cond.code yX1_readE cX1_readE 2 (some .boolean) :: GW) r_x_readE3 (va_Pc [.ref (ad 1), .int p0] (gp D ks (xw ad kk V L Z) (xty kk Z) sz)) (q_x_readE3 D ks ad kk V L Z p0 b gT gs (va_A (xw ad kk V L Z) sz)) 0 0 (va_A (xw ad kk V L Z) sz) := by
  refine g_met (q_x_readE3 D ks ad kk V L Z p0 b gT gs) (by decide) (Nat.le_of_ble_eq_true rfl) ?_
  intro p e s m below meth c A ls H locs hx hb hr hml hown hg hlocks hin hnw hgk hP hK hD hS hA hl
  have hown : s.vm.findClass RX1 = some m.cls := hown
  have hl : lv_has ls 2 [(0, .ref (ad 1)), (1, .int p0)] := hl
  have hP : va_P D vwCl (xw ad kk V L Z) H := hP
  have hD : va_D A (xw ad kk V L Z) := hD
  have hK : va_K D vwCl (xty kk Z) s := hK
  have agV : agr [(1, 3), (1, 4), (1, 6), (1, 8), (6, 8), (6, 9), (6, 10)] [42, 43, 44, 48] V V := agr.rf
  have alL : agL [6, 44] L L := agL.rf
  have rf_p0 := i_full p0
  have r1 : (-1) ≤ ((V 1 1)).toInt ∧ ((V 1 1)).toInt ≤ 1 := hMV 1 1
  refine lv_aload_n hx hb dX1_readE_0 rfl (lv_at hl 0 rfl) ?_
  refine lv_iload_n hx hb dX1_readE_1 rfl (lv_at hl 1 rfl) ?_
  refine va_put (D := D) (ci := 1) (v := .int p0) (ty := tyX1 4) (fs := (xfReader ad V L Z)) (C := RX1) (T := TX1) (N := 9) hx hb hg inX1 tyX1 tyX1_ok nmX1 hown hK hP hD hS 1 xgReader rfl 4 (by decide) (hg _ w308) (fun _ h9 => h9) rfl (tyX1_ok 4 (by decide)) rfl rfl (Nat.le_of_ble_eq_true rfl) dX1_readE_2 (fun H locs hP hD hS => ?_)
  obtain ⟨V2, hV2⟩ : ∃ z, z = up2 V 1 4 p0 := ⟨_, rfl⟩
  have ew3 : (xw ad kk V L Z).set 1 ((ad 1), .inr (1, (xfReader ad V L Z).set 4 (.int p0))) = xw ad kk V2 L Z := by rw [hV2]; exact xw_ss (by decide) rfl (xb_si (by decide))
  have hP : va_P D vwCl (xw ad kk V2 L Z) H := by rw [← ew3]; exact hP
  have hD : va_D A (xw ad kk V2 L Z) := by rw [← ew3]; exact hD
  have hMV2 : rgd bX V2 := hMV.put hV2 (show 0 ≤ p0.toInt ∧ p0.toInt ≤ 2 from by (first | exact om_8c285ac91b81 rg_p0.1 rg_p0.2 | omega))
  have agV2 : agr [(1, 3), (1, 4), (1, 6), (1, 8), (6, 8), (6, 9), (6, 10)] [42, 43, 44, 48] V V2 := agV.up hV2 rfl
  refine lv_aload_n hx hb dX1_readE_5 rfl (lv_at hl 0 rfl) ?_
  refine lv_iconst (v := 0) hx hb dX1_readE_6 (by decide) ?_
  have rl4 : RelC V2 L b gT gs := RelC.ag rel (show agr [(1, 4)] [] V V2 from (agr.up agr.rf hV2 rfl)) (by decide) (show agL [] L L from agL.rf) (by decide)
  have hr5 : ∀ k, Rc gT (Crun gs (Iexpr 0 :: Iem 0 :: Itake 59 :: k)) (Crun gs (Iexpr 0 :: Iem 0 :: Itake 59 :: k)) := fun k => Rc.rf
  have r6 : Int32.toInt 0 = 0 := by decide
  have pq7 : (V2 1 1).toInt = ((V 1 1)).toInt := congrArg Int32.toInt (up2_k hV2 (by decide))
  have cd8 : CDc V2 b gs := CDc.ag cdq (show agr [(1, 4)] [] V V2 from (agr.up agr.rf hV2 rfl)) (fun _ => rfl) (fun _ => rfl)
  refine gA_int (gA_runV (As := [.int 0]) (rest := []) (ci := 1) (q0 := 1) hx hb hml hown hg hP hD hK hS hA hnw hgk (x_readExpression38 l D ks H.size ad kk V2 L Z 0 (b) (gT) (gs) (0) hMV2 (by decide) (show b < 2 from by (first | exact om_f940a4667dd6 hb2 | omega)) (show (V2 1 1).toInt = (b : Int) from by (first | exact om_adf531c77a0d rbk pq7 | omega)) rl4 cd8 (show wl gs ≤ 2 * gs.1 0 from by omega) (show (Int32.toInt 0) = (0 : Int) from by (first | exact om_b66ba74381d5 r6 | omega)) ((congrArg Int32.toInt (up2_s hV2)).trans pw) (fun h9 => by rw [(up2_k hV2 (by decide))]; exact owp ((congrArg Int32.toInt (up2_s hV2)).symm.trans h9))) w951 w953 w21 w162 w954 rfl xgReader hdV_yX1_readExpression ⟨Nat.le_of_ble_eq_true rfl, Nat.le_of_ble_eq_true rfl⟩ rfl hl.1 rfl (Nat.le_of_ble_eq_true rfl) dX1_readE_7 ⟨Nat.le_of_ble_eq_true rfl, Nat.le_of_ble_eq_true rfl⟩) hP hD hK hS hA (fun z9 u10 H locs w11 hP hD hK hS => ?_)
  obtain ⟨V14, L15⟩ := u10
  obtain ⟨hMV14, ajV14, axL15, rgz9, t12, t13⟩ := w11
  have alL15 : agL [6, 44] L L15 := agL.tr alL axL15 (by decide)
  have hP : va_P D vwCl (xw ad kk V14 L15 Z) H := hP
  have hD : va_D A (xw ad kk V14 L15 Z) := hD
  have hMV14 : rgd bX V14 := hMV14
  have ajV14 : agr [(1, 3), (1, 6), (1, 8), (6, 8), (6, 9), (6, 10)] [42, 43, 44, 48] V2 V14 := ajV14
  have agV14 : agr [(1, 3), (1, 4), (1, 6), (1, 8), (6, 8), (6, 9), (6, 10)] [42, 43, 44, 48] V V14 := agV2.tr ajV14 (by decide) (by decide)
  have rgz9 : 0 ≤ z9.toInt ∧ z9.toInt ≤ 1 := rgz9
  have t12 : Rd gT gs (fun k => Iexpr 0 :: k) (fun k => k) z9.toInt (V14 1 3).toInt (fun s9 => RelC V14 L15 b gT s9 ∧ keepS gs 1 s9 ∧ keepE gs s9 ∧ CDc V14 b s9 ∧ wl s9 + 2 * gs.1 0 ≤ wl gs + 2 * s9.1 0 + 1) := t12
  have t13 : ROWL b L L15 := t13
  rcases t12 with ⟨q16, sx17, h18, rl19, kp20, ke21, cd22, wd23⟩ | ⟨q16, h18⟩
  · skip
    have hr24 : ∀ k, Rc gT (Crun gs (Iexpr 0 :: Iem 0 :: Itake 59 :: k)) (Crun sx17 (Iem 0 :: Itake 59 :: k)) := fun k => (hr5 k).tr (h18 (Iem 0 :: Itake 59 :: k))
    refine lv_if_ne (tgt := 15) hx hb dX1_readE_10 (by decide) (fun c25 => ?_) (fun c25 => ?_)
    · skip
      have f26 : z9.toInt ≠ 0 := b_neq rfl (by decide) c25
      refine lv_aload_n hx hb dX1_readE_15 rfl (lv_at hl 0 rfl) ?_
      refine va_get (D := D) (ci := 1) (v := rfN ad 38 (V14 1 1)) (fs := (xfReader ad V14 L15 Z)) (C := RX1) (T := TX1) (N := 9) hx hb hg inX1 hown hK hP 1 xgReader rfl 1 (by decide) (hg _ w305) (fun _ h9 => h9) rfl dX1_readE_16 ?_
      have pq27 : (V14 1 1).toInt = ((V 1 1)).toInt := congrArg Int32.toInt ((ajV14 1 1 rfl).trans (up2_k hV2 (by decide)))
      refine g_topv (v := .ref (ad (38 + b))) (rfN_r (by omega)) ?_
      refine lv_iconst (v := 0) hx hb dX1_readE_19 (by decide) ?_
      refine gA_void (gA_runV (As := [.int 0]) (rest := []) (ci := 0) (q0 := (38 + b)) hx hb hml hown hg hP hD hK hS hA hnw hgk (x_emit l D ks H.size ad kk V14 L15 Z 0 (b) hMV14 (show b < 2 from by (first | exact om_f940a4667dd6 hb2 | omega))) w971 w972 w973 w167 w974 rfl (xgBook hb2) hdV_yX0_emit ⟨Nat.le_of_ble_eq_true rfl, Nat.le_of_ble_eq_true rfl⟩ rfl hl.1 rfl (Nat.le_of_ble_eq_true rfl) dX1_readE_20 ⟨Nat.le_of_ble_eq_true rfl, Nat.le_of_ble_eq_true rfl⟩) hP hD hK hS hA (fun u29 H locs w30 hP hD hK hS => ?_)
      obtain ⟨V32, L33⟩ := u29
      obtain ⟨hMV32, ajV32, axL33, fyV32, t31⟩ := w30
      have axL33 : L15 = L33 := Eq.symm axL33
      subst axL33
      have hP : va_P D vwCl (xw ad kk V32 L15 Z) H := hP
      have hD : va_D A (xw ad kk V32 L15 Z) := hD
      have hMV32 : rgd bX V32 := hMV32
      have ajV32 : agr [] [42, 48] V14 V32 := ajV32
      have agV32 : agr [(1, 3), (1, 4), (1, 6), (1, 8), (6, 8), (6, 9), (6, 10)] [42, 43, 44, 48] V V32 := agV14.tr ajV32 (by decide) (by decide)
      have t31 : emX V14 V32 b 0 := t31
      have hr34 : ∀ k, Rc gT (Crun gs (Iexpr 0 :: Iem 0 :: Itake 59 :: k)) (Crun (emS sx17 0 0 0) (Itake 59 :: k)) := fun k => Rc.go1 (hr24 k) (m_em 0)
      have rl35 : RelC V32 L15 b gT sx17 := RelC.ag rl19 (show agr [] [42, 48] V14 V32 from (agr.tr agr.rf ajV32 (by decide) (by decide))) (by decide) (show agL [] L15 L15 from agL.rf) (by decide)
      have rl36 : RelC V32 L15 b gT (emS sx17 0 0 0) := RelC.em rl35
      have wk37 : wl sx17 + 2 * gs.1 0 ≤ wl gs + 2 * sx17.1 0 + 1 ∧ gs.1 0 + 1 ≤ sx17.1 0 := ⟨wd23, (keepS.le kp20 (by decide)).1⟩
      have wk38 : wl (emS sx17 0 0 0) = wl sx17 + 1 ∧ (emS sx17 0 0 0).1 0 = sx17.1 0 := ⟨(wl_em sx17 0 _ _).trans (congrArg (fun q9 => wl sx17 + q9) (show szO 0 = 1 from by decide)), rfl⟩
      have ph39 : (((emS sx17 0 0 0).1 0 : Nat) : Int) ≤ 4000 := Int.le_trans (rl36).1.1 (show 0 ≤ (V32 6 7).toInt ∧ (V32 6 7).toInt ≤ 4000 from hMV32 6 7).2
      have hr40 : (V14 42 b).toInt + 1 < 8200 := by have h9 := cd22.1; omega
      have cd41 : CDc V32 b (emS sx17 0 0 0) := CDc.e1 cd22 t31 (by (first | exact om_df3b24190af0 hr40 | omega)) (by decide) (by decide)
      refine lv_aload_n hx hb dX1_readE_23 rfl (lv_at hl 0 rfl) ?_
      refine lv_bipush (v := 59) hx hb dX1_readE_24 (by decide) ?_
      have r42 : Int32.toInt 59 = 59 := by decide
      refine gA_int (gA_runV (As := [.int 59]) (rest := []) (ci := 1) (q0 := 1) hx hb hml hown hg hP hD hK hS hA hnw hgk (x_take2 l D ks H.size ad kk V32 L15 Z 59 (((emS sx17 0 0 0).1 0)) hMV32 (rl36).1 (rl36).2.1.1 (show 1 ≤ (Int32.toInt 59) from by (first | exact om_de934181d724 r42 | omega))) w893 w895 w10 w162 w896 rfl xgReader hdV_yX1_take ⟨Nat.le_of_ble_eq_true rfl, Nat.le_of_ble_eq_true rfl⟩ rfl hl.1 rfl (Nat.le_of_ble_eq_true rfl) dX1_readE_26 ⟨Nat.le_of_ble_eq_true rfl, Nat.le_of_ble_eq_true rfl⟩) hP hD hK hS hA (fun z43 u44 H locs w45 hP hD hK hS => ?_)
      obtain ⟨V48, L49⟩ := u44
      obtain ⟨hMV48, ajV48, axL49, rgz43, t46, t47⟩ := w45
      have alL49 : agL [6, 44] L L49 := agL.tr alL15 axL49 (by decide)
      have hP : va_P D vwCl (xw ad kk V48 L49 Z) H := hP
      have hD : va_D A (xw ad kk V48 L49 Z) := hD
      have hMV48 : rgd bX V48 := hMV48
      have ajV48 : agr [(1, 3), (6, 8), (6, 9), (6, 10)] [] V32 V48 := ajV48
      have agV48 : agr [(1, 3), (1, 4), (1, 6), (1, 8), (6, 8), (6, 9), (6, 10)] [42, 43, 44, 48] V V48 := agV32.tr ajV48 (by decide) (by decide)
      have rgz43 : 0 ≤ z43.toInt ∧ z43.toInt ≤ 1 := rgz43
      have t46 : Imp (z43.toInt = 0) (1 ≤ (V48 1 3).toInt) := t46
      have t47 : (z43.toInt = 1 ∧ (V32 12 ((emS sx17 0 0 0).1 0)).toInt = (Int32.toInt 59) ∧ CUR V48 L49 (((emS sx17 0 0 0).1 0) + 1) ∧ V48 1 3 = V32 1 3) ∨ (z43.toInt = 0 ∧ (V32 12 ((emS sx17 0 0 0).1 0)).toInt ≠ (Int32.toInt 59) ∧ (V48 1 3).toInt = 1 + 16 * (V32 13 ((emS sx17 0 0 0).1 0)).toInt) := t47
      rcases t47 with ⟨q50, h51, k52, k53⟩ | ⟨q50, h51, k52⟩
      · skip
        have rl54 : RelC V48 L49 b gT (nx (emS sx17 0 0 0) 1) := RelC.nx1 rl36 ajV48 (by decide) axL49 (by decide) k52 k53
        have hr55 : ∀ k, Rc gT (Crun gs (Iexpr 0 :: Iem 0 :: Itake 59 :: k)) (Crun (nx (emS sx17 0 0 0) 1) (k)) := fun k => Rc.go1 (hr34 k) (tk_y (rl36.tok.1.trans (h51.trans (by decide))))
        have cd56 : CDc V48 b (emS sx17 0 0 0) := CDc.ag cd41 (show agr [(1, 3), (6, 8), (6, 9), (6, 10)] [] V32 V48 from (agr.tr agr.rf ajV48 (by decide) (by decide))) (fun _ => rfl) (fun _ => rfl)
        have cd57 : CDc V48 b (nx (emS sx17 0 0 0) 1) := CDc.mv cd56 (show ∀ j9, j9 = 5 ∨ 2000 ≤ j9 → (nx (emS sx17 0 0 0) 1).2.1 j9 = (emS sx17 0 0 0).2.1 j9 from fun j9 h9 => (show ∀ j9, 5 ≤ j9 → (nx (emS sx17 0 0 0) 1).2.1 j9 = (emS sx17 0 0 0).2.1 j9 from fun _ _ => rfl) j9 (by omega))
        have wk58 : wl (nx (emS sx17 0 0 0) 1) = wl (emS sx17 0 0 0) ∧ (nx (emS sx17 0 0 0) 1).1 0 = (emS sx17 0 0 0).1 0 + 1 := ⟨rfl, rfl⟩
        have rw59 : ROWL b L L49 := (fun k hk => ((axL49 44 k rfl).trans ((t13 k hk).trans rfl)))
        exact W.zret (v := z43) hx hb hr (nb_ok (by omega)) (fun t ht hW => ⟨⟨z43, (V48, L49), rfl, ⟨hMV48, agV48, alL49, (show 0 ≤ z43.toInt ∧ z43.toInt ≤ 1 from by first | exact om_eb7af9d60398 rgz43.1 rgz43.2 | first | omega | ((try (have i_t46 := Imp.go t46 (by omega))); omega)), (Or.inl ⟨(by omega), (nx (emS sx17 0 0 0) 1), hr55, rl54, keepS.le (keepS.tr (keepS.tr (keepS.tr (keepS.rf : keepS gs 0 gs) kp20) (show keepS sx17 0 (emS sx17 0 0 0) from keepS.em)) (keepS.n1 1)) (by decide), (keepE.tr (keepE.tr (keepE.tr (keepE.rf : keepE gs gs) ke21) (show keepE sx17 (emS sx17 0 0 0) from keepE.em)) (show keepE (emS sx17 0 0 0) (nx (emS sx17 0 0 0) 1) from keepE.eq (show ∀ j9, 5 ≤ j9 → (nx (emS sx17 0 0 0) 1).2.1 j9 = (emS sx17 0 0 0).2.1 j9 from fun _ _ => rfl))), cd57, (by omega)⟩), rw59⟩, by rw [ht]; exact hP, va_K.moved hW.alike hK, hD⟩, hS.F ht⟩) hS.2.2 dX1_readE_29
      · skip
        have hb60 : ∀ k, Rc gT (Crun gs (Iexpr 0 :: Iem 0 :: Itake 59 :: k)) (Cbad (V48 1 3).toInt) := fun k => Rc.go1 (hr34 k) ((tk_n (fun h9 => h51 (rl36.tok.1.symm.trans (h9.trans (by decide))))).trans (fl_eq rl36.tok.2.2 k52))
        have rw61 : ROWL b L L49 := (fun k hk => ((axL49 44 k rfl).trans ((t13 k hk).trans rfl)))
        exact W.zret (v := z43) hx hb hr (nb_ok (by omega)) (fun t ht hW => ⟨⟨z43, (V48, L49), rfl, ⟨hMV48, agV48, alL49, (show 0 ≤ z43.toInt ∧ z43.toInt ≤ 1 from by first | exact om_eb7af9d60398 rgz43.1 rgz43.2 | first | omega | ((try (have i_t46 := Imp.go t46 (by omega))); omega)), (Or.inr ⟨(by omega), hb60⟩), rw61⟩, by rw [ht]; exact hP, va_K.moved hW.alike hK, hD⟩, hS.F ht⟩) hS.2.2 dX1_readE_29
    · skip
      have f62 : z9.toInt = 0 := b_eq rfl (by decide) c25
      exfalso; omega
  · skip
    have hb63 : ∀ k, Rc gT (Crun gs (Iexpr 0 :: Iem 0 :: Itake 59 :: k)) (Cbad (V14 1 3).toInt) := fun k => (hr5 k).tr (h18 (Iem 0 :: Itake 59 :: k))
    refine lv_if_ne (tgt := 15) hx hb dX1_readE_10 (by decide) (fun c64 => ?_) (fun c64 => ?_)
    · skip
      have f65 : z9.toInt ≠ 0 := b_neq rfl (by decide) c64
      exfalso; omega
    · skip
      have f66 : z9.toInt = 0 := b_eq rfl (by decide) c64
      refine lv_iconst (v := 0) hx hb dX1_readE_13 (by decide) ?_
      have rw67 : ROWL b L L15 := (fun k hk => ((t13 k hk).trans rfl))
      exact W.zret (v := 0) hx hb hr rfl (fun t ht hW => ⟨⟨0, (V14, L15), rfl, ⟨hMV14, agV14, alL15, (by decide), (Or.inr ⟨rfl, hb63⟩), rw67⟩, by rw [ht]; exact hP, va_K.moved hW.alike hK, hD⟩, hS.F ht⟩) hS.2.2 dX1_readE_14
abbrev r_x_addNeed3 : Room := { frames := 0, cells := 0, slots := 0, locals := 0 }
abbrev q_x_addNeed3 (D : va_G) (ks : KS) (ad : Nat → Nat) (kk : Nat → ClassId) (V : Vf) (L : Lf) (Z : XZ) (p0 : Int32) (p1 : Int32) (p2 : Int32) (gi : Nat) (A : Nat → Prop) : Array Value → State → Outcome → State → Prop := va_Qv (fun (u : Vf × Lf) => rgd bX u.1 ∧ agr [] [49, 58, 59, 60] V u.1 ∧ u.2 = L ∧ frX (xI gi) V u.1 ∧ (Imp ((V 49 gi).toInt < 8) ((u.1 49 gi).toInt = (V 49 gi).toInt + 1)) ∧ (Imp ((V 49 gi).toInt < 8) (u.1 58 = upd (V 58) (8 * gi + Int32.toNatClampNeg (V 49 gi)) p1)) ∧ (Imp ((V 49 gi).toInt < 8) (u.1 59 = upd (V 59) (8 * gi + Int32.toNatClampNeg (V 49 gi)) p2)) ∧ (Imp ((V 49 gi).toInt < 8) (u.1 60 = upd (V 60) (8 * gi + Int32.toNatClampNeg (V 49 gi)) p0))) (fun u t => gq D A (xw ad kk u.1 u.2 Z) (xty kk Z) t) A
set_option maxHeartbeats 4000000 in
set_option maxRecDepth 100000 in
theorem x_addNeed3 (l : Launch) (D : va_G) (ks : KS) (sz : Nat) (ad : Nat → Nat) (kk : Nat → ClassId) (V : Vf) (L : Lf) (Z : XZ) (p0 : Int32) (p1 : Int32) (p2 : Int32) (gi : Nat) (hMV : rgd bX V) (hgi : gi < 48)  : Met l yX3_addNeed (Cond.code yX3_addNeed cX3_addNeed 4 none :: GW) r_x_addNeed3 (va_Pc [.ref (ad (72 + gi)), .int p0, .int p1, .int p2] (gp D ks (xw ad kk V L Z) (xty kk Z) sz)) (q_x_addNeed3 D ks ad kk V L Z p0 p1 p2 gi (va_A (xw ad kk V L Z) sz)) 0 0 (va_A (xw ad kk V L Z) sz) := by
  refine g_met (q_x_addNeed3 D ks ad kk V L Z p0 p1 p2 gi) (by decide) (Nat.le_of_ble_eq_true rfl) ?_
  intro p e s m below meth c A ls H locs hx hb hr hml hown hg hlocks hin hnw hgk hP hK hD hS hA hl
  have hown : s.vm.findClass RX3 = some m.cls := hown
  have hl : lv_has ls 4 [(0, .ref (ad (72 + gi))), (1, .int p0), (2, .int p1), (3, .int p2)] := hl
  have hP : va_P D vwCl (xw ad kk V L Z) H := hP
  have hD : va_D A (xw ad kk V L Z) := hD
  have hK : va_K D vwCl (xty kk Z) s := hK
  have agV : agr [] [49, 58, 59, 60] V V := agr.rf
  have fwV : frX (xI gi) V V := frX.rf
  refine lv_aload_n hx hb dX3_addNeed_0 rfl (lv_at hl 0 rfl) ?_
  refine va_get (D := D) (ci := 3) (v := .int (V 49 gi)) (fs := (xfComp ad V gi)) (C := RX3) (T := TX3) (N := 13) hx hb hg inX3 hown hK hP (72 + gi) (xgComp hgi) rfl 4 (by decide) (hg _ w510) (fun _ h9 => h9) rfl dX3_addNeed_1 ?_
  have r1 : 0 ≤ ((V 49 gi)).toInt ∧ ((V 49 gi)).toInt ≤ 8 := hMV 49 gi
  refine lv_bipush (v := 8) hx hb dX3_addNeed_4 (by decide) ?_
  refine lv_icmp_ge (tgt := 49) hx hb dX3_addNeed_6 (by decide) (fun c2 => ?_) (fun c2 => ?_)
  · skip
    have f3 : 8 ≤ ((V 49 gi)).toInt := b_le (by decide) rfl c2
    exact W.vret hx hb hr (fun t ht hW => ⟨⟨(V, L), rfl, ⟨hMV, agV, rfl, fwV, (Imp.mk (fun hp => have hp : (V 49 gi).toInt < 8 := hp; (show (V 49 gi).toInt = (V 49 gi).toInt + 1 from by omega))), (Imp.mk (fun hp => by exfalso; omega)), (Imp.mk (fun hp => by exfalso; omega)), (Imp.mk (fun hp => by exfalso; omega))⟩, by rw [ht]; exact hP, va_K.moved hW.alike hK, hD⟩, hS.F ht⟩) hS.2.2 dX3_addNeed_49
  · skip
    have f4 : ((V 49 gi)).toInt < 8 := b_nle (by decide) rfl c2
    refine lv_aload_n hx hb dX3_addNeed_9 rfl (lv_at hl 0 rfl) ?_
    refine va_get (D := D) (ci := 3) (v := .ref (ad (216 + gi))) (fs := (xfComp ad V gi)) (C := RX3) (T := TX3) (N := 13) hx hb hg inX3 hown hK hP (72 + gi) (xgComp hgi) rfl 2 (by decide) (hg _ w503) (fun _ h9 => h9) rfl dX3_addNeed_10 ?_
    refine lv_aload_n hx hb dX3_addNeed_13 rfl (lv_at hl 0 rfl) ?_
    refine va_get (D := D) (ci := 3) (v := .int (V 49 gi)) (fs := (xfComp ad V gi)) (C := RX3) (T := TX3) (N := 13) hx hb hg inX3 hown hK hP (72 + gi) (xgComp hgi) rfl 4 (by decide) (hg _ w510) (fun _ h9 => h9) rfl dX3_addNeed_14 ?_
    refine lv_iload_n hx hb dX3_addNeed_17 rfl (lv_at hl 1 rfl) ?_
    refine va_iast (D := D) (i := (V 49 gi)) (x := p0) hx hb hK hP hD hS (216 + gi) (209 + gi) (xgneedKinds hgi) (xtneedKinds hgi) (i_in (a := ((V 49 gi)).toInt) rfl (by (first | exact om_988d96bba7b1 r1.1 f4 | omega))) dX3_addNeed_18 (fun H locs hP hD hS => ?_)
    have kc5 := i_clamp (x := (V 49 gi)) rfl (by (first | exact om_eafa9039069c r1.1 | omega))
    have kl6 : (Int32.toNatClampNeg (V 49 gi)) < 8 := by (first | exact om_1ae9279ea60d f4 kc5 | omega)
    obtain ⟨V7, hV7⟩ : ∃ z, z = up2 V 60 (8 * gi + (Int32.toNatClampNeg (V 49 gi))) p0 := ⟨_, rfl⟩
    have ew8 : (xw ad kk V L Z).set (216 + gi) ((ad (216 + gi)), .inl ((kk (216 + gi)), 8, .inl (upd (fun q => if q < 8 then V 60 (8 * gi + q) else 0) (Int32.toNatClampNeg (V 49 gi)) p0))) = xw ad kk V7 L Z := by rw [hV7]; exact xpneedKinds hgi kl6
    have hP : va_P D vwCl (xw ad kk V7 L Z) H := by rw [← ew8]; exact hP
    have hD : va_D A (xw ad kk V7 L Z) := by rw [← ew8]; exact hD
    have hMV7 : rgd bX V7 := hMV.put hV7 (i_full _)
    have agV7 : agr [] [49, 58, 59, 60] V V7 := agV.up hV7 rfl
    have fwV7 : frX (xI gi) V V7 := frX.up fwV hV7 (Or.inr ⟨(by show 8 * gi ≤ (8 * gi + (Int32.toNatClampNeg (V 49 gi))); (first | exact om_d739a63bef4d r1.1 kc5 | omega)), (by show (8 * gi + (Int32.toNatClampNeg (V 49 gi))) < 8 * gi + 8; (first | exact om_639467a33f9a f4 kc5 | omega))⟩)
    refine lv_aload_n hx hb dX3_addNeed_19 rfl (lv_at hl 0 rfl) ?_
    refine va_get (D := D) (ci := 3) (v := .ref (ad (120 + gi))) (fs := (xfComp ad V7 gi)) (C := RX3) (T := TX3) (N := 13) hx hb hg inX3 hown hK hP (72 + gi) (xgComp hgi) rfl 0 (by decide) (hg _ w499) (fun _ h9 => h9) rfl dX3_addNeed_20 ?_
    refine lv_aload_n hx hb dX3_addNeed_23 rfl (lv_at hl 0 rfl) ?_
    refine va_get (D := D) (ci := 3) (v := .int (V7 49 gi)) (fs := (xfComp ad V7 gi)) (C := RX3) (T := TX3) (N := 13) hx hb hg inX3 hown hK hP (72 + gi) (xgComp hgi) rfl 4 (by decide) (hg _ w510) (fun _ h9 => h9) rfl dX3_addNeed_24 ?_
    refine g_top (v := (V 49 gi)) (up2_o hV7 (by decide)) ?_
    refine lv_iload_n hx hb dX3_addNeed_27 rfl (lv_at hl 2 rfl) ?_
    refine va_iast (D := D) (i := (V 49 gi)) (x := p1) hx hb hK hP hD hS (120 + gi) (113 + gi) (xgneedTypes hgi) (xtneedTypes hgi) (i_in (a := ((V 49 gi)).toInt) rfl (by (first | exact om_988d96bba7b1 r1.1 f4 | omega))) dX3_addNeed_28 (fun H locs hP hD hS => ?_)
    have kl9 : (Int32.toNatClampNeg (V 49 gi)) < 8 := by (first | exact om_1ae9279ea60d f4 kc5 | omega)
    obtain ⟨V10, hV10⟩ : ∃ z, z = up2 V7 58 (8 * gi + (Int32.toNatClampNeg (V 49 gi))) p1 := ⟨_, rfl⟩
    have ew11 : (xw ad kk V7 L Z).set (120 + gi) ((ad (120 + gi)), .inl ((kk (120 + gi)), 8, .inl (upd (fun q => if q < 8 then V7 58 (8 * gi + q) else 0) (Int32.toNatClampNeg (V 49 gi)) p1))) = xw ad kk V10 L Z := by rw [hV10]; exact xpneedTypes hgi kl9
    have hP : va_P D vwCl (xw ad kk V10 L Z) H := by rw [← ew11]; exact hP
    have hD : va_D A (xw ad kk V10 L Z) := by rw [← ew11]; exact hD
    have hMV10 : rgd bX V10 := hMV7.put hV10 (i_full _)
    have agV10 : agr [] [49, 58, 59, 60] V V10 := agV7.up hV10 rfl
    have fwV10 : frX (xI gi) V V10 := frX.up fwV7 hV10 (Or.inr ⟨(by show 8 * gi ≤ (8 * gi + (Int32.toNatClampNeg (V 49 gi))); (first | exact om_d739a63bef4d r1.1 kc5 | omega)), (by show (8 * gi + (Int32.toNatClampNeg (V 49 gi))) < 8 * gi + 8; (first | exact om_639467a33f9a f4 kc5 | omega))⟩)
    refine lv_aload_n hx hb dX3_addNeed_29 rfl (lv_at hl 0 rfl) ?_
    refine va_get (D := D) (ci := 3) (v := .ref (ad (168 + gi))) (fs := (xfComp ad V10 gi)) (C := RX3) (T := TX3) (N := 13) hx hb hg inX3 hown hK hP (72 + gi) (xgComp hgi) rfl 1 (by decide) (hg _ w501) (fun _ h9 => h9) rfl dX3_addNeed_30 ?_
    refine lv_aload_n hx hb dX3_addNeed_33 rfl (lv_at hl 0 rfl) ?_
    refine va_get (D := D) (ci := 3) (v := .int (V10 49 gi)) (fs := (xfComp ad V10 gi)) (C := RX3) (T := TX3) (N := 13) hx hb hg inX3 hown hK hP (72 + gi) (xgComp hgi) rfl 4 (by decide) (hg _ w510) (fun _ h9 => h9) rfl dX3_addNeed_34 ?_
    refine g_top (v := (V 49 gi)) ((up2_o hV10 (by decide)).trans (up2_o hV7 (by decide))) ?_
    refine lv_iload_n hx hb dX3_addNeed_37 rfl (lv_at hl 3 rfl) ?_
    refine va_iast (D := D) (i := (V 49 gi)) (x := p2) hx hb hK hP hD hS (168 + gi) (161 + gi) (xgneedWords hgi) (xtneedWords hgi) (i_in (a := ((V 49 gi)).toInt) rfl (by (first | exact om_988d96bba7b1 r1.1 f4 | omega))) dX3_addNeed_38 (fun H locs hP hD hS => ?_)
    have kl12 : (Int32.toNatClampNeg (V 49 gi)) < 8 := by (first | exact om_1ae9279ea60d f4 kc5 | omega)
    obtain ⟨V13, hV13⟩ : ∃ z, z = up2 V10 59 (8 * gi + (Int32.toNatClampNeg (V 49 gi))) p2 := ⟨_, rfl⟩
    have ew14 : (xw ad kk V10 L Z).set (168 + gi) ((ad (168 + gi)), .inl ((kk (168 + gi)), 8, .inl (upd (fun q => if q < 8 then V10 59 (8 * gi + q) else 0) (Int32.toNatClampNeg (V 49 gi)) p2))) = xw ad kk V13 L Z := by rw [hV13]; exact xpneedWords hgi kl12
    have hP : va_P D vwCl (xw ad kk V13 L Z) H := by rw [← ew14]; exact hP
    have hD : va_D A (xw ad kk V13 L Z) := by rw [← ew14]; exact hD
    have hMV13 : rgd bX V13 := hMV10.put hV13 (i_full _)
    have agV13 : agr [] [49, 58, 59, 60] V V13 := agV10.up hV13 rfl
    have fwV13 : frX (xI gi) V V13 := frX.up fwV10 hV13 (Or.inr ⟨(by show 8 * gi ≤ (8 * gi + (Int32.toNatClampNeg (V 49 gi))); (first | exact om_d739a63bef4d r1.1 kc5 | omega)), (by show (8 * gi + (Int32.toNatClampNeg (V 49 gi))) < 8 * gi + 8; (first | exact om_639467a33f9a f4 kc5 | omega))⟩)
    refine lv_aload_n hx hb dX3_addNeed_39 rfl (lv_at hl 0 rfl) ?_
    refine lv_dup hx hb dX3_addNeed_40 rfl ?_
    refine va_get (D := D) (ci := 3) (v := .int (V13 49 gi)) (fs := (xfComp ad V13 gi)) (C := RX3) (T := TX3) (N := 13) hx hb hg inX3 hown hK hP (72 + gi) (xgComp hgi) rfl 4 (by decide) (hg _ w510) (fun _ h9 => h9) rfl dX3_addNeed_41 ?_
    refine g_top (v := (V 49 gi)) ((up2_o hV13 (by decide)).trans ((up2_o hV10 (by decide)).trans (up2_o hV7 (by decide)))) ?_
    refine lv_iconst (v := 1) hx hb dX3_addNeed_44 (by decide) ?_
    refine lv_iadd hx hb dX3_addNeed_45 ?_
    refine lv_topi (fun z15 ez15 => ?_)
    have hz15 : z15.toInt = ((V 49 gi)).toInt + 1 := i_add ez15 rfl (by decide) (by (first | exact om_5ea63ae345c9 r1.1 f4 | omega))
    refine va_put (D := D) (ci := 3) (v := .int z15) (ty := tyX3 4) (fs := (xfComp ad V13 gi)) (C := RX3) (T := TX3) (N := 13) hx hb hg inX3 tyX3 tyX3_ok nmX3 hown hK hP hD hS (72 + gi) (xgComp hgi) rfl 4 (by decide) (hg _ w510) (fun _ h9 => h9) rfl (tyX3_ok 4 (by decide)) rfl rfl (Nat.le_of_ble_eq_true rfl) dX3_addNeed_46 (fun H locs hP hD hS => ?_)
    obtain ⟨V16, hV16⟩ : ∃ z, z = up2 V13 49 gi z15 := ⟨_, rfl⟩
    have ew17 : (xw ad kk V13 L Z).set (72 + gi) ((ad (72 + gi)), .inr (3, (xfComp ad V13 gi).set 4 (.int z15))) = xw ad kk V16 L Z := by rw [hV16]; exact xpComp_needs hgi
    have hP : va_P D vwCl (xw ad kk V16 L Z) H := by rw [← ew17]; exact hP
    have hD : va_D A (xw ad kk V16 L Z) := by rw [← ew17]; exact hD
    have hMV16 : rgd bX V16 := hMV13.put hV16 (show 0 ≤ z15.toInt ∧ z15.toInt ≤ 8 from by (first | exact om_3ea392a2a386 kc5 kl6 hz15 | omega))
    have agV16 : agr [] [49, 58, 59, 60] V V16 := agV13.up hV16 rfl
    have fwV16 : frX (xI gi) V V16 := frX.up fwV13 hV16 (Or.inr ⟨(by show gi ≤ gi; (first | exact om_36cf446a3c95 | omega)), (by show gi < gi + 1; (first | exact om_0bb971ab4ffe | omega))⟩)
    have pq18 : (V16 49 gi).toInt = z15.toInt := congrArg Int32.toInt (up2_s hV16)
    have rp19 : Imp ((V 49 gi).toInt < 8) (V16 58 = upd (V 58) (8 * gi + Int32.toNatClampNeg (V 49 gi)) p1) := Imp.mk (fun _ => by rw [(by rw [(up2_fo hV16 (by decide) : V16 58 = V13 58), (up2_fo hV13 (by decide) : V13 58 = V10 58)] : V16 58 = V10 58), up2_fn hV10, (by rw [(up2_fo hV7 (by decide) : V7 58 = V 58)] : V7 58 = V 58)])
    have rp20 : Imp ((V 49 gi).toInt < 8) (V16 59 = upd (V 59) (8 * gi + Int32.toNatClampNeg (V 49 gi)) p2) := Imp.mk (fun _ => by rw [(by rw [(up2_fo hV16 (by decide) : V16 59 = V13 59)] : V16 59 = V13 59), up2_fn hV13, (by rw [(up2_fo hV10 (by decide) : V10 59 = V7 59), (up2_fo hV7 (by decide) : V7 59 = V 59)] : V10 59 = V 59)])
    have rp21 : Imp ((V 49 gi).toInt < 8) (V16 60 = upd (V 60) (8 * gi + Int32.toNatClampNeg (V 49 gi)) p0) := Imp.mk (fun _ => by rw [(by rw [(up2_fo hV16 (by decide) : V16 60 = V13 60), (up2_fo hV13 (by decide) : V13 60 = V10 60), (up2_fo hV10 (by decide) : V10 60 = V7 60)] : V16 60 = V7 60), up2_fn hV7, (rfl : V 60 = V 60)])
    exact W.vret hx hb hr (fun t ht hW => ⟨⟨(V16, L), rfl, ⟨hMV16, agV16, rfl, fwV16, (Imp.mk (fun hp => have hp : (V 49 gi).toInt < 8 := hp; (show (V16 49 gi).toInt = (V 49 gi).toInt + 1 from by (first | exact om_689eeacb6d53 hz15 pq18 | omega)))), rp19, rp20, rp21⟩, by rw [ht]; exact hP, va_K.moved hW.alike hK, hD⟩, hS.F ht⟩) hS.2.2 dX3_addNeed_49
abbrev r_x_readNeed3 : Room := { frames := 3, cells := 0, slots := 0, locals := 64 }
abbrev q_x_readNeed3 (D : va_G) (ks : KS) (ad : Nat → Nat) (kk : Nat → ClassId) (V : Vf) (L : Lf) (Z : XZ) (b : Nat) (gT : Tk) (gs : St) (go : Nat) (A : Nat → Prop) : Array Value → State → Outcome → State → Prop := va_Qi (fun (r : Int32) (u : Vf × Lf) => rgd bX u.1 ∧ agr [(1, 3), (1, 6), (6, 8), (6, 9), (6, 10)] [43, 44, 49, 58, 59, 60] V u.1 ∧ agL [6, 44] L u.2 ∧ (0 ≤ r.toInt ∧ r.toInt ≤ 1) ∧ (Rd gT gs (fun k => Imember :: k) (fun k => Imember :: k) r.toInt (u.1 1 3).toInt (fun s9 => RelC u.1 u.2 b gT s9 ∧ gs.1 0 + 1 ≤ s9.1 0 ∧ CNo u.1 b s9 ∧ CEo u.1 b s9)) ∧ (ROWL b L u.2)) (fun u t => gq D A (xw ad kk u.1 u.2 Z) (xty kk Z) t) A
set_option maxHeartbeats 4000000 in
set_option maxRecDepth 100000 in
theorem x_readNeed3 (l : Launch) (D : va_G) (ks : KS) (sz : Nat) (ad : Nat → Nat) (kk : Nat → ClassId) (V : Vf) (L : Lf) (Z : XZ) (b : Nat) (gT : Tk) (gs : St) (go : Nat) (hMV : rgd bX V) (hb2 : b < 2) (rbk : (V 1 1).toInt = (b : Int)) (own : (V 1 2).toInt = (go : Int)) (hgo : go < 48) (hgl : 24 * b ≤ go) (hgh : go < 24 * b + 24) (rel : RelC V L b gT gs) (cno : CNo V b gs) (ceo : CEo V b gs) (kd9 : (V 6 9).toInt = 137)  : Met l yX1_readNeed (Cond.code yX1_readNeed cX1_readNeed 4 (some .boolean) :: GW) r_x_readNeed3 (va_Pc [.ref (ad 1)] (gp D ks (xw ad kk V L Z) (xty kk Z) sz)) (q_x_readNeed3 D ks ad kk V L Z  b gT gs go (va_A (xw ad kk V L Z) sz)) 0 0 (va_A (xw ad kk V L Z) sz) := by
  refine g_met (q_x_readNeed3 D ks ad kk V L Z  b gT gs go) (by decide) (Nat.le_of_ble_eq_true rfl) ?_
  intro p e s m below meth c A ls H locs hx hb hr hml hown hg hlocks hin hnw hgk hP hK hD hS hA hl
  have hown : s.vm.findClass RX1 = some m.cls := hown
  have hl : lv_has ls 4 [(0, .ref (ad 1))] := hl
  have hP : va_P D vwCl (xw ad kk V L Z) H := hP
  have hD : va_D A (xw ad kk V L Z) := hD
  have hK : va_K D vwCl (xty kk Z) s := hK
  have agV : agr [(1, 3), (1, 6), (6, 8), (6, 9), (6, 10)] [43, 44, 49, 58, 59, 60] V V := agr.rf
  have alL : agL [6, 44] L L := agL.rf
  have r1 : (-1) ≤ ((V 1 1)).toInt ∧ ((V 1 1)).toInt ≤ 1 := hMV 1 1
  have r2 : (-1) ≤ ((V 1 2)).toInt ∧ ((V 1 2)).toInt ≤ 47 := hMV 1 2
  have ow0 := RelC.ow rel own
  have gol : go + 1 = 24 * b + (gs.2.1 2).length := by have h9 := cno.2 (by omega); omega
  refine lv_aload_n hx hb dX1_readNeed_0 rfl (lv_at hl 0 rfl) ?_
  refine va_get (D := D) (ci := 1) (v := rfN ad 72 (V 1 2)) (fs := (xfReader ad V L Z)) (C := RX1) (T := TX1) (N := 9) hx hb hg inX1 hown hK hP 1 xgReader rfl 2 (by decide) (hg _ w306) (fun _ h9 => h9) rfl dX1_readNeed_1 ?_
  refine g_topv (v := .ref (ad (72 + go))) (rfN_r (by omega)) ?_
  refine va_getN (D := D) (ci := 3) (v := .int (V 49 go)) (fs := (xfComp ad V go)) (C := RX3) (T := TX3) (N := 13) hx hb hg inX3 hown hK hP (72 + go) (xgComp hgo) rfl 4 (by decide) (hnw.use 513 n513 rfl) (fun _ h9 => h9) rfl dX1_readNeed_4 ?_
  have r3 : 0 ≤ ((V 49 go)).toInt ∧ ((V 49 go)).toInt ≤ 8 := hMV 49 go
  refine lv_bipush (v := 8) hx hb dX1_readNeed_7 (by decide) ?_
  refine lv_icmp_lt (tgt := 18) hx hb dX1_readNeed_9 (by decide) (fun c4 => ?_) (fun c4 => ?_)
  · skip
    have f5 : ((V 49 go)).toInt < 8 := b_lt rfl (by decide) c4
    refine lv_aload_n hx hb dX1_readNeed_18 rfl (lv_at hl 0 rfl) ?_
    refine va_get (D := D) (ci := 1) (v := .ref (ad 6)) (fs := (xfReader ad V L Z)) (C := RX1) (T := TX1) (N := 9) hx hb hg inX1 hown hK hP 1 xgReader rfl 0 (by decide) (hg _ w304) (fun _ h9 => h9) rfl dX1_readNeed_19 ?_
    have hr6 : ∀ k, Rc gT (Crun gs (Imember :: k)) (Crun gs (Imember :: k)) := fun k => Rc.rf
    have kd7 : gT.1 (gs.1 0) = ((V 6 9)).toInt := RelC.kd rel
    have hr8 : ∀ k, Rc gT (Crun gs (Imember :: k)) (Crun (nx gs 1) (IneedK :: k)) := fun k => Rc.go1 (hr6 k) (mb_137 (kd7.trans kd9) (by have h9 := ow0.1; omega))
    have l89 := RelC.l8 rel
    have r10 : 0 ≤ ((V 6 8)).toInt ∧ ((V 6 8)).toInt ≤ 4000 := hMV 6 8
    have r11 : 0 ≤ ((V 6 7)).toInt ∧ ((V 6 7)).toInt ≤ 4000 := hMV 6 7
    have lk12 := RelC.lk rel (show (V 6 9).toInt ≠ 0 from by (first | exact om_e3cf12187e19 kd9 | omega))
    refine gA_void (gA_runV (As := []) (rest := []) (ci := 9) (q0 := 6) hx hb hml hown hg hP hD hK hS hA hnw hgk (x_next2 l D ks H.size ad kk V L Z  hMV (show (V 6 8).toInt ≤ (V 6 7).toInt from by (first | exact om_f4906d00fa52 l89 | omega))) w871 w852 w853 w157 w854 rfl xgTape hdV_yX9_next ⟨Nat.le_of_ble_eq_true rfl, Nat.le_of_ble_eq_true rfl⟩ rfl hl.1 rfl (Nat.le_of_ble_eq_true rfl) dX1_readNeed_22 ⟨Nat.le_of_ble_eq_true rfl, Nat.le_of_ble_eq_true rfl⟩) hP hD hK hS hA (fun u14 H locs w15 hP hD hK hS => ?_)
    obtain ⟨V18, L19⟩ := u14
    obtain ⟨hMV18, ajV18, axL19, t16, t17⟩ := w15
    have alL19 : agL [6, 44] L L19 := agL.tr alL axL19 (by decide)
    have hP : va_P D vwCl (xw ad kk V18 L19 Z) H := hP
    have hD : va_D A (xw ad kk V18 L19 Z) := hD
    have hMV18 : rgd bX V18 := hMV18
    have ajV18 : agr [(6, 8), (6, 9), (6, 10)] [] V V18 := ajV18
    have agV18 : agr [(1, 3), (1, 6), (6, 8), (6, 9), (6, 10)] [43, 44, 49, 58, 59, 60] V V18 := agV.tr ajV18 (by decide) (by decide)
    have t16 : (V18 6 8).toInt ≤ (V18 6 7).toInt := t16
    have t17 : CUR V18 L19 (Int32.toNatClampNeg (V 6 8)) := t17
    have r20 : 0 ≤ ((V18 6 8)).toInt ∧ ((V18 6 8)).toInt ≤ 4000 := hMV18 6 8
    have pq21 : (V18 6 7).toInt = ((V 6 7)).toInt := congrArg Int32.toInt (ajV18 6 7 rfl)
    have rl22 : RelC V18 L19 b gT (nx gs 1) := RelC.nx1 rel ajV18 (by decide) axL19 (by decide) (by rw [← lk12]; exact t17) (ajV18 1 3 rfl)
    refine lv_aload_n hx hb dX1_readNeed_25 rfl (lv_at hl 0 rfl) ?_
    refine va_get (D := D) (ci := 1) (v := .ref (ad 6)) (fs := (xfReader ad V18 L19 Z)) (C := RX1) (T := TX1) (N := 9) hx hb hg inX1 hown hK hP 1 xgReader rfl 0 (by decide) (hg _ w304) (fun _ h9 => h9) rfl dX1_readNeed_26 ?_
    refine va_getN (D := D) (ci := 9) (v := .int (V18 6 9)) (fs := (xfTape ad V18 L19 Z)) (C := RX9) (T := TX9) (N := 12) hx hb hg inX9 hown hK hP 6 xgTape rfl 9 (by decide) (hnw.use 262 n262 rfl) (fun _ h9 => h9) rfl dX1_readNeed_29 ?_
    refine lv_sipush (v := 138) hx hb dX1_readNeed_32 (by decide) ?_
    refine lv_icmp_ne (tgt := 42) hx hb dX1_readNeed_35 (by decide) (fun c23 => ?_) (fun c23 => ?_)
    · skip
      have f24 : ((V18 6 9)).toInt ≠ 138 := b_neq rfl (by decide) c23
      refine lv_aload_n hx hb dX1_readNeed_42 rfl (lv_at hl 0 rfl) ?_
      refine va_get (D := D) (ci := 1) (v := .ref (ad 6)) (fs := (xfReader ad V18 L19 Z)) (C := RX1) (T := TX1) (N := 9) hx hb hg inX1 hown hK hP 1 xgReader rfl 0 (by decide) (hg _ w304) (fun _ h9 => h9) rfl dX1_readNeed_43 ?_
      refine va_getN (D := D) (ci := 9) (v := .int (V18 6 9)) (fs := (xfTape ad V18 L19 Z)) (C := RX9) (T := TX9) (N := 12) hx hb hg inX9 hown hK hP 6 xgTape rfl 9 (by decide) (hnw.use 262 n262 rfl) (fun _ h9 => h9) rfl dX1_readNeed_46 ?_
      refine lv_sipush (v := 139) hx hb dX1_readNeed_49 (by decide) ?_
      refine lv_icmp_ne (tgt := 59) hx hb dX1_readNeed_52 (by decide) (fun c25 => ?_) (fun c25 => ?_)
      · skip
        have f26 : ((V18 6 9)).toInt ≠ 139 := b_neq rfl (by decide) c25
        refine lv_iconst (v := 0) hx hb dX1_readNeed_59 (by decide) ?_
        refine lv_istore_n (lv' := [(1, .int 0), (0, .ref (ad 1))]) hx hb dX1_readNeed_60 rfl hl (by decide) rfl (fun ls hl => ?_)
        refine lv_iload_n hx hb dX1_readNeed_61 rfl (lv_at hl 0 rfl) ?_
        refine lv_if_eq (tgt := 72) hx hb dX1_readNeed_62 (by decide) (fun _ => ?_) (fun q => absurd (by decide) q)
        refine lv_aload_n hx hb dX1_readNeed_72 rfl (lv_at hl 1 rfl) ?_
        have kd27 : gT.1 ((nx gs 1).1 0) = ((V18 6 9)).toInt := RelC.kd rl22
        have hr28 : ∀ k, Rc gT (Crun gs (Imember :: k)) (Crun (nx gs 1) (IneedT 0 :: k)) := fun k => Rc.go1 (hr8 k) (needK_n (fun h9 => f24 (kd27.symm.trans h9)) (fun h9 => f26 (kd27.symm.trans h9)))
        have pq29 : (V18 1 1).toInt = ((V 1 1)).toInt := congrArg Int32.toInt (ajV18 1 1 rfl)
        refine gA_int (gA_runV (As := []) (rest := []) (ci := 1) (q0 := 1) hx hb hml hown hg hP hD hK hS hA hnw hgk (x_isToldType3 l D ks H.size ad kk V18 L19 Z (b) (gT) ((nx gs 1)) hMV18 (show b < 2 from by (first | exact om_f940a4667dd6 hb2 | omega)) (show (V18 1 1).toInt = (b : Int) from by (first | exact om_adf531c77a0d rbk pq29 | omega)) rl22) w888 w890 w9 w162 w891 rfl xgReader hdV_yX1_isToldType ⟨Nat.le_of_ble_eq_true rfl, Nat.le_of_ble_eq_true rfl⟩ rfl hl.1 rfl (Nat.le_of_ble_eq_true rfl) dX1_readNeed_73 ⟨Nat.le_of_ble_eq_true rfl, Nat.le_of_ble_eq_true rfl⟩) hP hD hK hS hA (fun z30 u31 H locs w32 hP hD hK hS => ?_)
        obtain ⟨V34, L35⟩ := u31
        obtain ⟨hMV34, ajV34, axL35, rgz30, t33⟩ := w32
        have axL35 : L19 = L35 := Eq.symm axL35
        subst axL35
        have hP : va_P D vwCl (xw ad kk V34 L19 Z) H := hP
        have hD : va_D A (xw ad kk V34 L19 Z) := hD
        have hMV34 : rgd bX V34 := hMV34
        have ajV34 : agr [(1, 3), (1, 6)] [] V18 V34 := ajV34
        have agV34 : agr [(1, 3), (1, 6), (6, 8), (6, 9), (6, 10)] [43, 44, 49, 58, 59, 60] V V34 := agV18.tr ajV34 (by decide) (by decide)
        have rgz30 : 0 ≤ z30.toInt ∧ z30.toInt ≤ 1 := rgz30
        have t33 : KcN (look gT (nx gs 1) ((nx gs 1).2.1 0)) z30.toInt (V34 1 3).toInt (fun f9 => RelC V34 L19 b gT (nx gs 1) ∧ (V34 1 6).toInt = ((f9 : Nat) : Int) ∧ f9 < 24) := t33
        rcases t33 with ⟨q36, fx37, h38, rl39, hf40, hb41⟩ | ⟨q36, h38⟩
        · skip
          have kn42 := look_ne h38
          refine lv_if_ne (tgt := 81) hx hb dX1_readNeed_76 (by decide) (fun c43 => ?_) (fun c43 => ?_)
          · skip
            have f44 : z30.toInt ≠ 0 := b_neq rfl (by decide) c43
            refine lv_aload_n hx hb dX1_readNeed_81 rfl (lv_at hl 1 rfl) ?_
            refine va_get (D := D) (ci := 1) (v := .int (V34 1 6)) (fs := (xfReader ad V34 L19 Z)) (C := RX1) (T := TX1) (N := 9) hx hb hg inX1 hown hK hP 1 xgReader rfl 6 (by decide) (hg _ w310) (fun _ h9 => h9) rfl dX1_readNeed_82 ?_
            have r45 : (-1) ≤ ((V34 1 6)).toInt ∧ ((V34 1 6)).toInt ≤ 23 := hMV34 1 6
            refine lv_istore_n (lv' := [(2, .int (V34 1 6)), (1, .int 0), (0, .ref (ad 1))]) hx hb dX1_readNeed_85 rfl hl (by decide) rfl (fun ls hl => ?_)
            refine lv_iconst (v := (-1)) hx hb dX1_readNeed_86 (by decide) ?_
            refine lv_istore_n (lv' := [(3, .int (-1)), (2, .int (V34 1 6)), (1, .int 0), (0, .ref (ad 1))]) hx hb dX1_readNeed_87 rfl hl (by decide) rfl (fun ls hl => ?_)
            refine lv_aload_n hx hb dX1_readNeed_88 rfl (lv_at hl 3 rfl) ?_
            refine va_get (D := D) (ci := 1) (v := .ref (ad 6)) (fs := (xfReader ad V34 L19 Z)) (C := RX1) (T := TX1) (N := 9) hx hb hg inX1 hown hK hP 1 xgReader rfl 0 (by decide) (hg _ w304) (fun _ h9 => h9) rfl dX1_readNeed_89 ?_
            have hr46 : ∀ k, Rc gT (Crun gs (Imember :: k)) (Crun (nx (nx gs 1) 1) (Icalled 0 fx37 :: k)) := fun k => Rc.go1 (hr28 k) (nd_0 h38)
            have l847 := RelC.l8 rl39
            have pq48 : (V34 6 8).toInt = ((V18 6 8)).toInt := congrArg Int32.toInt (ajV34 6 8 rfl)
            have pq49 : (V34 6 7).toInt = ((V 6 7)).toInt := congrArg Int32.toInt ((ajV34 6 7 rfl).trans (ajV18 6 7 rfl))
            have pq50 : (V34 6 9).toInt = ((V18 6 9)).toInt := congrArg Int32.toInt (ajV34 6 9 rfl)
            have lk51 := RelC.lk rl39 (show (V34 6 9).toInt ≠ 0 from by omega)
            refine gA_void (gA_runV (As := []) (rest := []) (ci := 9) (q0 := 6) hx hb hml hown hg hP hD hK hS hA hnw hgk (x_next2 l D ks H.size ad kk V34 L19 Z  hMV34 (show (V34 6 8).toInt ≤ (V34 6 7).toInt from by (first | exact om_8dc85c50f369 t16 pq21 pq48 pq49 | omega))) w871 w852 w853 w157 w854 rfl xgTape hdV_yX9_next ⟨Nat.le_of_ble_eq_true rfl, Nat.le_of_ble_eq_true rfl⟩ rfl hl.1 rfl (Nat.le_of_ble_eq_true rfl) dX1_readNeed_92 ⟨Nat.le_of_ble_eq_true rfl, Nat.le_of_ble_eq_true rfl⟩) hP hD hK hS hA (fun u53 H locs w54 hP hD hK hS => ?_)
            obtain ⟨V57, L58⟩ := u53
            obtain ⟨hMV57, ajV57, axL58, t55, t56⟩ := w54
            have alL58 : agL [6, 44] L L58 := agL.tr alL19 axL58 (by decide)
            have hP : va_P D vwCl (xw ad kk V57 L58 Z) H := hP
            have hD : va_D A (xw ad kk V57 L58 Z) := hD
            have hMV57 : rgd bX V57 := hMV57
            have ajV57 : agr [(6, 8), (6, 9), (6, 10)] [] V34 V57 := ajV57
            have agV57 : agr [(1, 3), (1, 6), (6, 8), (6, 9), (6, 10)] [43, 44, 49, 58, 59, 60] V V57 := agV34.tr ajV57 (by decide) (by decide)
            have t55 : (V57 6 8).toInt ≤ (V57 6 7).toInt := t55
            have t56 : CUR V57 L58 (Int32.toNatClampNeg (V34 6 8)) := t56
            have r59 : 0 ≤ ((V57 6 8)).toInt ∧ ((V57 6 8)).toInt ≤ 4000 := hMV57 6 8
            have pq60 : (V57 6 7).toInt = ((V 6 7)).toInt := congrArg Int32.toInt ((ajV57 6 7 rfl).trans ((ajV34 6 7 rfl).trans (ajV18 6 7 rfl)))
            have rl61 : RelC V57 L58 b gT (nx (nx gs 1) 1) := RelC.nx1 rl39 ajV57 (by decide) axL58 (by decide) (by rw [← lk51]; exact t56) (ajV57 1 3 rfl)
            refine lv_iload_n hx hb dX1_readNeed_95 rfl (lv_at hl 2 rfl) ?_
            refine lv_iconst (v := 2) hx hb dX1_readNeed_96 (by decide) ?_
            refine lv_icmp_eq (tgt := 127) hx hb dX1_readNeed_97 (by decide) (fun q => absurd q (by decide)) (fun _ => ?_)
            refine lv_aload_n hx hb dX1_readNeed_100 rfl (lv_at hl 3 rfl) ?_
            refine va_get (D := D) (ci := 1) (v := .ref (ad 6)) (fs := (xfReader ad V57 L58 Z)) (C := RX1) (T := TX1) (N := 9) hx hb hg inX1 hown hK hP 1 xgReader rfl 0 (by decide) (hg _ w304) (fun _ h9 => h9) rfl dX1_readNeed_101 ?_
            refine va_getN (D := D) (ci := 9) (v := .int (V57 6 9)) (fs := (xfTape ad V57 L58 Z)) (C := RX9) (T := TX9) (N := 12) hx hb hg inX9 hown hK hP 6 xgTape rfl 9 (by decide) (hnw.use 262 n262 rfl) (fun _ h9 => h9) rfl dX1_readNeed_104 ?_
            refine lv_sipush (v := 133) hx hb dX1_readNeed_107 (by decide) ?_
            refine lv_icmp_ne (tgt := 127) hx hb dX1_readNeed_110 (by decide) (fun c62 => ?_) (fun c62 => ?_)
            · skip
              have f63 : ((V57 6 9)).toInt ≠ 133 := b_neq rfl (by decide) c62
              refine lv_aload_n hx hb dX1_readNeed_127 rfl (lv_at hl 3 rfl) ?_
              refine lv_bipush (v := 59) hx hb dX1_readNeed_128 (by decide) ?_
              have kd64 : gT.1 ((nx (nx gs 1) 1).1 0) = ((V57 6 9)).toInt := RelC.kd rl61
              have hr65 : ∀ k, Rc gT (Crun gs (Imember :: k)) (Crun (nx (nx gs 1) 1) (Itake 59 :: IaddNeed 0 fx37 0 :: Imember :: k)) := fun k => Rc.go1 (hr46 k) (called_n 0 fx37 (fun h9 => f63 (kd64.symm.trans h9)))
              have r66 : Int32.toInt 59 = 59 := by decide
              refine gA_int (gA_runV (As := [.int 59]) (rest := []) (ci := 1) (q0 := 1) hx hb hml hown hg hP hD hK hS hA hnw hgk (x_take2 l D ks H.size ad kk V57 L58 Z 59 (((nx (nx gs 1) 1).1 0)) hMV57 (rl61).1 (rl61).2.1.1 (show 1 ≤ (Int32.toInt 59) from by (first | exact om_de934181d724 r66 | omega))) w893 w895 w10 w162 w896 rfl xgReader hdV_yX1_take ⟨Nat.le_of_ble_eq_true rfl, Nat.le_of_ble_eq_true rfl⟩ rfl hl.1 rfl (Nat.le_of_ble_eq_true rfl) dX1_readNeed_130 ⟨Nat.le_of_ble_eq_true rfl, Nat.le_of_ble_eq_true rfl⟩) hP hD hK hS hA (fun z67 u68 H locs w69 hP hD hK hS => ?_)
              obtain ⟨V72, L73⟩ := u68
              obtain ⟨hMV72, ajV72, axL73, rgz67, t70, t71⟩ := w69
              have alL73 : agL [6, 44] L L73 := agL.tr alL58 axL73 (by decide)
              have hP : va_P D vwCl (xw ad kk V72 L73 Z) H := hP
              have hD : va_D A (xw ad kk V72 L73 Z) := hD
              have hMV72 : rgd bX V72 := hMV72
              have ajV72 : agr [(1, 3), (6, 8), (6, 9), (6, 10)] [] V57 V72 := ajV72
              have agV72 : agr [(1, 3), (1, 6), (6, 8), (6, 9), (6, 10)] [43, 44, 49, 58, 59, 60] V V72 := agV57.tr ajV72 (by decide) (by decide)
              have rgz67 : 0 ≤ z67.toInt ∧ z67.toInt ≤ 1 := rgz67
              have t70 : Imp (z67.toInt = 0) (1 ≤ (V72 1 3).toInt) := t70
              have t71 : (z67.toInt = 1 ∧ (V57 12 ((nx (nx gs 1) 1).1 0)).toInt = (Int32.toInt 59) ∧ CUR V72 L73 (((nx (nx gs 1) 1).1 0) + 1) ∧ V72 1 3 = V57 1 3) ∨ (z67.toInt = 0 ∧ (V57 12 ((nx (nx gs 1) 1).1 0)).toInt ≠ (Int32.toInt 59) ∧ (V72 1 3).toInt = 1 + 16 * (V57 13 ((nx (nx gs 1) 1).1 0)).toInt) := t71
              rcases t71 with ⟨q74, h75, k76, k77⟩ | ⟨q74, h75, k76⟩
              · skip
                have rl78 : RelC V72 L73 b gT (nx (nx (nx gs 1) 1) 1) := RelC.nx1 rl61 ajV72 (by decide) axL73 (by decide) k76 k77
                have hr79 : ∀ k, Rc gT (Crun gs (Imember :: k)) (Crun (nx (nx (nx gs 1) 1) 1) (IaddNeed 0 fx37 0 :: Imember :: k)) := fun k => Rc.go1 (hr65 k) (tk_y (rl61.tok.1.trans (h75.trans (by decide))))
                refine lv_if_ne (tgt := 138) hx hb dX1_readNeed_133 (by decide) (fun c80 => ?_) (fun c80 => ?_)
                · skip
                  have f81 : z67.toInt ≠ 0 := b_neq rfl (by decide) c80
                  refine lv_aload_n hx hb dX1_readNeed_138 rfl (lv_at hl 3 rfl) ?_
                  refine va_get (D := D) (ci := 1) (v := rfN ad 72 (V72 1 2)) (fs := (xfReader ad V72 L73 Z)) (C := RX1) (T := TX1) (N := 9) hx hb hg inX1 hown hK hP 1 xgReader rfl 2 (by decide) (hg _ w306) (fun _ h9 => h9) rfl dX1_readNeed_139 ?_
                  have pq82 : (V72 1 2).toInt = ((V 1 2)).toInt := congrArg Int32.toInt ((ajV72 1 2 rfl).trans ((ajV57 1 2 rfl).trans ((ajV34 1 2 rfl).trans (ajV18 1 2 rfl))))
                  refine g_topv (v := .ref (ad (72 + go))) (rfN_r (by first | omega | ((try (have i_t70 := Imp.go t70 (by omega))); omega))) ?_
                  refine lv_iload_n hx hb dX1_readNeed_142 rfl (lv_at hl 2 rfl) ?_
                  refine lv_iload_n hx hb dX1_readNeed_143 rfl (lv_at hl 1 rfl) ?_
                  refine lv_iload_n hx hb dX1_readNeed_144 rfl (lv_at hl 0 rfl) ?_
                  have r83 : Int32.toInt 0 = 0 := by decide
                  have r84 : Int32.toInt (-1) = (-1) := by decide
                  refine gA_void (gA_runV (As := [.int 0, .int (V34 1 6), .int (-1)]) (rest := []) (ci := 3) (q0 := (72 + go)) hx hb hml hown hg hP hD hK hS hA hnw hgk (x_addNeed3 l D ks H.size ad kk V72 L73 Z 0 (V34 1 6) (-1) (go) hMV72 (show go < 48 from by first | exact om_ed409a757601 hb2 hgh | first | omega | ((try (have i_t70 := Imp.go t70 (by omega))); omega))) w1011 w1012 w1013 w169 w1014 rfl (xgComp hgo) hdV_yX3_addNeed ⟨Nat.le_of_ble_eq_true rfl, Nat.le_of_ble_eq_true rfl⟩ rfl hl.1 rfl (Nat.le_of_ble_eq_true rfl) dX1_readNeed_145 ⟨Nat.le_of_ble_eq_true rfl, Nat.le_of_ble_eq_true rfl⟩) hP hD hK hS hA (fun u86 H locs w87 hP hD hK hS => ?_)
                  obtain ⟨V92, L93⟩ := u86
                  obtain ⟨hMV92, ajV92, axL93, fyV92, t88, t89, t90, t91⟩ := w87
                  have axL93 : L73 = L93 := Eq.symm axL93
                  subst axL93
                  have hP : va_P D vwCl (xw ad kk V92 L73 Z) H := hP
                  have hD : va_D A (xw ad kk V92 L73 Z) := hD
                  have hMV92 : rgd bX V92 := hMV92
                  have ajV92 : agr [] [49, 58, 59, 60] V72 V92 := ajV92
                  have agV92 : agr [(1, 3), (1, 6), (6, 8), (6, 9), (6, 10)] [43, 44, 49, 58, 59, 60] V V92 := agV72.tr ajV92 (by decide) (by decide)
                  have t88 : Imp ((V72 49 go).toInt < 8) ((V92 49 go).toInt = (V72 49 go).toInt + 1) := t88
                  have t89 : Imp ((V72 49 go).toInt < 8) (V92 58 = upd (V72 58) (8 * go + Int32.toNatClampNeg (V72 49 go)) (V34 1 6)) := t89
                  have t90 : Imp ((V72 49 go).toInt < 8) (V92 59 = upd (V72 59) (8 * go + Int32.toNatClampNeg (V72 49 go)) (-1)) := t90
                  have t91 : Imp ((V72 49 go).toInt < 8) (V92 60 = upd (V72 60) (8 * go + Int32.toNatClampNeg (V72 49 go)) 0) := t91
                  have pq94 : (V72 49 go).toInt = ((V 49 go)).toInt := congrArg Int32.toInt ((ajV72 49 go rfl).trans ((ajV57 49 go rfl).trans ((ajV34 49 go rfl).trans (ajV18 49 go rfl))))
                  have ng97 : (V72 49 go).toInt < 8 := by (first | exact om_846a176f29bf f5 pq94 | omega)
                  have rl95 : RelC V92 L73 b gT (sN (nx (nx (nx gs 1) 1) 1) 1 ((nx (nx (nx gs 1) 1) 1).1 1 + 1)) := RelC.nd rl78 (show (V72 1 2).toInt = ((go : Nat) : Int) from by (first | exact om_adf531c77a0d own pq82 | omega)) ajV92 (by decide) (Imp.go t88 (by (first | exact om_846a176f29bf f5 pq94 | omega)))
                  have rl96 : RelC V92 L73 b gT (ndS (nx (nx (nx gs 1) 1) 1) 0 fx37 0) := RelC.nu rl95 ndS_5 rfl
                  have cn98 : CNc V72 b gs := CNc.ag cno.1 (show agr [(1, 3), (1, 6), (6, 8), (6, 9), (6, 10)] [] V V72 from (agr.tr (agr.tr (agr.tr (agr.tr agr.rf ajV18 (by decide) (by decide)) ajV34 (by decide) (by decide)) ajV57 (by decide) (by decide)) ajV72 (by decide) (by decide))) (by decide) keepC.rf
                  have cn99 : CNc V72 b (nx (nx (nx gs 1) 1) 1) := CNc.mv cn98 (fun _ _ _ => rfl) (keepC.tr (keepC.tr (keepC.tr (keepC.rf : keepC gs gs) (keepS.c (keepS.n1 1))) (keepS.c (keepS.n1 1))) (keepS.c (keepS.n1 1)))
                  have ow100 := (RelC.ow rl78 (show (V72 1 2).toInt = ((go : Nat) : Int) from by (first | exact om_adf531c77a0d own pq82 | omega))).1
                  have pn9 : 8 * go + Int32.toNatClampNeg (V72 49 go) = 8 * go + (nx (nx (nx gs 1) 1) 1).1 1 := by have h9 := i_clamp (x := V72 49 go) rfl (by (first | exact om_ac0b685ca4ca r3.1 pq94 | omega)); omega
                  have cn101 : CNc V92 b (ndS (nx (nx (nx gs 1) 1) 1) 0 fx37 0) := CNc.nd2 cn99 (by rw [((keepC.tr (keepC.tr (keepC.tr (keepC.rf : keepC gs gs) (keepS.c (keepS.n1 1))) (keepS.c (keepS.n1 1))) (keepS.c (keepS.n1 1)))).2 2 (by decide)]; exact gol) hgl ow100 (by omega) ajV92 (by decide) (fun k hk => fyV92 49 k ⟨by decide, by decide⟩ (show k < go ∨ go + 1 ≤ k from by omega)) (Imp.go t88 ng97) (Imp.go t89 ng97) (Imp.go t90 ng97) (Imp.go t91 ng97) pn9 (show ((V34 1 6)).toInt = ((fx37 : Nat) : Int) from by omega) (show Int32.toInt 0 = (((0 : Int).toNat : Nat) : Int) from by decide) (show Int32.toInt (-1) + 1 = ((0 : Nat) : Int) from by (first | exact om_e2c2be8a8631 r84 | omega)) hb41
                  have hr102 : ∀ k, Rc gT (Crun gs (Imember :: k)) (Crun (ndS (nx (nx (nx gs 1) 1) 1) 0 fx37 0) (Imember :: k)) := fun k => Rc.go1 (hr79 k) (m_addNeed 0 fx37 0)
                  refine lv_iconst (v := 1) hx hb dX1_readNeed_148 (by decide) ?_
                  have pq103 : (V92 1 2).toInt = ((V 1 2)).toInt := congrArg Int32.toInt ((ajV92 1 2 rfl).trans ((ajV72 1 2 rfl).trans ((ajV57 1 2 rfl).trans ((ajV34 1 2 rfl).trans (ajV18 1 2 rfl)))))
                  have cd104 : CDc V92 b gs := CDc.ag ceo.1 (show agr [(1, 3), (1, 6), (6, 8), (6, 9), (6, 10)] [49, 58, 59, 60] V V92 from (agr.tr (agr.tr (agr.tr (agr.tr (agr.tr agr.rf ajV18 (by decide) (by decide)) ajV34 (by decide) (by decide)) ajV57 (by decide) (by decide)) ajV72 (by decide) (by decide)) ajV92 (by decide) (by decide))) (fun _ => rfl) (fun _ => rfl)
                  have cd105 : CDc V92 b (ndS (nx (nx (nx gs 1) 1) 1) 0 fx37 0) := CDc.mv cd104 (fun j9 h9 => ((show ∀ j9, j9 = 5 ∨ 2000 ≤ j9 → (ndS (nx (nx (nx gs 1) 1) 1) 0 fx37 0).2.1 j9 = (nx (nx (nx gs 1) 1) 1).2.1 j9 from fun j9 h9 => (show ∀ j9, 5 ≤ j9 → (ndS (nx (nx (nx gs 1) 1) 1) 0 fx37 0).2.1 j9 = (nx (nx (nx gs 1) 1) 1).2.1 j9 from fun _ _ => rfl) j9 (by omega)) j9 h9).trans ((fun j9 h9 => ((show ∀ j9, j9 = 5 ∨ 2000 ≤ j9 → (nx (nx (nx gs 1) 1) 1).2.1 j9 = (nx (nx gs 1) 1).2.1 j9 from fun j9 h9 => (show ∀ j9, 5 ≤ j9 → (nx (nx (nx gs 1) 1) 1).2.1 j9 = (nx (nx gs 1) 1).2.1 j9 from fun _ _ => rfl) j9 (by omega)) j9 h9).trans ((fun j9 h9 => ((show ∀ j9, j9 = 5 ∨ 2000 ≤ j9 → (nx (nx gs 1) 1).2.1 j9 = (nx gs 1).2.1 j9 from fun j9 h9 => (show ∀ j9, 5 ≤ j9 → (nx (nx gs 1) 1).2.1 j9 = (nx gs 1).2.1 j9 from fun _ _ => rfl) j9 (by omega)) j9 h9).trans ((show ∀ j9, j9 = 5 ∨ 2000 ≤ j9 → (nx gs 1).2.1 j9 = gs.2.1 j9 from fun j9 h9 => (show ∀ j9, 5 ≤ j9 → (nx gs 1).2.1 j9 = gs.2.1 j9 from fun _ _ => rfl) j9 (by omega)) j9 h9)) j9 h9)) j9 h9))
                  have re106 : REc V92 b gs := REc.ag ceo.2.1 (show agr [(1, 3), (1, 6), (6, 8), (6, 9), (6, 10)] [49, 58, 59, 60] V V92 from (agr.tr (agr.tr (agr.tr (agr.tr (agr.tr agr.rf ajV18 (by decide) (by decide)) ajV34 (by decide) (by decide)) ajV57 (by decide) (by decide)) ajV72 (by decide) (by decide)) ajV92 (by decide) (by decide))) (fun _ => rfl) (fun _ => rfl) (fun _ => rfl) keepE.rf rfl
                  have re107 : REc V92 b (ndS (nx (nx (nx gs 1) 1) 1) 0 fx37 0) := REc.mv re106 (fun _ _ _ _ => rfl) (keepE.tr (keepE.tr (keepE.tr (keepE.tr (keepE.rf : keepE gs gs) (show keepE gs (nx gs 1) from keepE.eq (show ∀ j9, 5 ≤ j9 → (nx gs 1).2.1 j9 = gs.2.1 j9 from fun _ _ => rfl))) (show keepE (nx gs 1) (nx (nx gs 1) 1) from keepE.eq (show ∀ j9, 5 ≤ j9 → (nx (nx gs 1) 1).2.1 j9 = (nx gs 1).2.1 j9 from fun _ _ => rfl))) (show keepE (nx (nx gs 1) 1) (nx (nx (nx gs 1) 1) 1) from keepE.eq (show ∀ j9, 5 ≤ j9 → (nx (nx (nx gs 1) 1) 1).2.1 j9 = (nx (nx gs 1) 1).2.1 j9 from fun _ _ => rfl))) (show keepE (nx (nx (nx gs 1) 1) 1) (ndS (nx (nx (nx gs 1) 1) 1) 0 fx37 0) from keepE.eq (show ∀ j9, 5 ≤ j9 → (ndS (nx (nx (nx gs 1) 1) 1) 0 fx37 0).2.1 j9 = (nx (nx (nx gs 1) 1) 1).2.1 j9 from fun _ _ => rfl))) ((rfl : (ndS (nx (nx (nx gs 1) 1) 1) 0 fx37 0).2.1 2 = (nx (nx (nx gs 1) 1) 1).2.1 2).trans (((show keepS (nx (nx gs 1) 1) 1 (nx (nx (nx gs 1) 1) 1) from (keepS.n1 1)).2.2.1 2 (by decide)).trans (((show keepS (nx gs 1) 1 (nx (nx gs 1) 1) from (keepS.n1 1)).2.2.1 2 (by decide)).trans (((show keepS gs 1 (nx gs 1) from (keepS.n1 1)).2.2.1 2 (by decide)).trans (rfl : gs.2.1 2 = gs.2.1 2)))))
                  have ww108 : WWc V92 b gs := WWc.ag ceo.2.2.1 (show agr [(1, 3), (1, 6), (6, 8), (6, 9), (6, 10)] [49, 58, 59, 60] V V92 from (agr.tr (agr.tr (agr.tr (agr.tr (agr.tr agr.rf ajV18 (by decide) (by decide)) ajV34 (by decide) (by decide)) ajV57 (by decide) (by decide)) ajV72 (by decide) (by decide)) ajV92 (by decide) (by decide))) (fun _ => ⟨rfl, rfl, rfl, rfl, rfl⟩) keepE.rf rfl
                  have ww109 : WWc V92 b (ndS (nx (nx (nx gs 1) 1) 1) 0 fx37 0) := WWc.mv ww108 (fun _ _ _ _ _ => rfl) (keepE.tr (keepE.tr (keepE.tr (keepE.tr (keepE.rf : keepE gs gs) (show keepE gs (nx gs 1) from keepE.eq (show ∀ j9, 5 ≤ j9 → (nx gs 1).2.1 j9 = gs.2.1 j9 from fun _ _ => rfl))) (show keepE (nx gs 1) (nx (nx gs 1) 1) from keepE.eq (show ∀ j9, 5 ≤ j9 → (nx (nx gs 1) 1).2.1 j9 = (nx gs 1).2.1 j9 from fun _ _ => rfl))) (show keepE (nx (nx gs 1) 1) (nx (nx (nx gs 1) 1) 1) from keepE.eq (show ∀ j9, 5 ≤ j9 → (nx (nx (nx gs 1) 1) 1).2.1 j9 = (nx (nx gs 1) 1).2.1 j9 from fun _ _ => rfl))) (show keepE (nx (nx (nx gs 1) 1) 1) (ndS (nx (nx (nx gs 1) 1) 1) 0 fx37 0) from keepE.eq (show ∀ j9, 5 ≤ j9 → (ndS (nx (nx (nx gs 1) 1) 1) 0 fx37 0).2.1 j9 = (nx (nx (nx gs 1) 1) 1).2.1 j9 from fun _ _ => rfl))) ((rfl : (ndS (nx (nx (nx gs 1) 1) 1) 0 fx37 0).2.2.1 = (nx (nx (nx gs 1) 1) 1).2.2.1).trans ((congrArg (fun q9 : List (Nat × Bool) × List Nat => q9.1) (show keepS (nx (nx gs 1) 1) 1 (nx (nx (nx gs 1) 1) 1) from (keepS.n1 1)).2.2.2).trans ((congrArg (fun q9 : List (Nat × Bool) × List Nat => q9.1) (show keepS (nx gs 1) 1 (nx (nx gs 1) 1) from (keepS.n1 1)).2.2.2).trans ((congrArg (fun q9 : List (Nat × Bool) × List Nat => q9.1) (show keepS gs 1 (nx gs 1) from (keepS.n1 1)).2.2.2).trans (rfl : gs.2.2.1 = gs.2.2.1)))))
                  have hwl : wl gs ≤ 2 * gs.1 0 := ceo.2.2.2
                  have wk110 : wl (nx gs 1) = wl gs ∧ (nx gs 1).1 0 = gs.1 0 + 1 := ⟨rfl, rfl⟩
                  have wk111 : wl (nx (nx gs 1) 1) = wl (nx gs 1) ∧ (nx (nx gs 1) 1).1 0 = (nx gs 1).1 0 + 1 := ⟨rfl, rfl⟩
                  have wk112 : wl (nx (nx (nx gs 1) 1) 1) = wl (nx (nx gs 1) 1) ∧ (nx (nx (nx gs 1) 1) 1).1 0 = (nx (nx gs 1) 1).1 0 + 1 := ⟨rfl, rfl⟩
                  have wk113 : wl (ndS (nx (nx (nx gs 1) 1) 1) 0 fx37 0) = wl (nx (nx (nx gs 1) 1) 1) ∧ (ndS (nx (nx (nx gs 1) 1) 1) 0 fx37 0).1 0 = (nx (nx (nx gs 1) 1) 1).1 0 := ⟨wl_e (show ∀ j9, j9 = 5 ∨ 2000 ≤ j9 → (ndS (nx (nx (nx gs 1) 1) 1) 0 fx37 0).2.1 j9 = (nx (nx (nx gs 1) 1) 1).2.1 j9 from fun j9 h9 => (show ∀ j9, 5 ≤ j9 → (ndS (nx (nx (nx gs 1) 1) 1) 0 fx37 0).2.1 j9 = (nx (nx (nx gs 1) 1) 1).2.1 j9 from fun _ _ => rfl) j9 (by omega)), ndS_5 0 (by decide)⟩
                  have ps114 : gs.1 0 + 1 ≤ (nx gs 1).1 0 := ((keepS.n1 1)).1
                  have ps115 : (nx gs 1).1 0 + 1 ≤ (nx (nx gs 1) 1).1 0 := ((keepS.n1 1)).1
                  have ps116 : (nx (nx gs 1) 1).1 0 + 1 ≤ (nx (nx (nx gs 1) 1) 1).1 0 := ((keepS.n1 1)).1
                  have ps117 : (ndS (nx (nx (nx gs 1) 1) 1) 0 fx37 0).1 0 = (nx (nx (nx gs 1) 1) 1).1 0 := ndS_5 0 (by decide)
                  have rw118 : ROWL b L L73 := (fun k hk => ((axL73 44 k rfl).trans ((axL58 44 k rfl).trans ((axL19 44 k rfl).trans rfl))))
                  exact W.zret (v := 1) hx hb hr rfl (fun t ht hW => ⟨⟨1, (V92, L73), rfl, ⟨hMV92, agV92, alL73, (by decide), (Or.inl ⟨rfl, (ndS (nx (nx (nx gs 1) 1) 1) 0 fx37 0), hr102, rl96, (by omega), ⟨cn101, (show OWl V92 b (nx (nx (nx gs 1) 1) 1) from OWl.mv cno.2 (show V92 1 2 = V 1 2 from ((ajV92 1 2 rfl).trans ((ajV72 1 2 rfl).trans ((ajV57 1 2 rfl).trans ((ajV34 1 2 rfl).trans (ajV18 1 2 rfl)))))) (keepC.tr (keepC.tr (keepC.tr (keepC.rf : keepC gs gs) (keepS.c (keepS.n1 1))) (keepS.c (keepS.n1 1))) (keepS.c (keepS.n1 1))))⟩, ⟨cd105, re107, ww109, (show wl (ndS (nx (nx (nx gs 1) 1) 1) 0 fx37 0) ≤ 2 * (ndS (nx (nx (nx gs 1) 1) 1) 0 fx37 0).1 0 from by omega)⟩⟩), rw118⟩, by rw [ht]; exact hP, va_K.moved hW.alike hK, hD⟩, hS.F ht⟩) hS.2.2 dX1_readNeed_149
                · skip
                  have f119 : z67.toInt = 0 := b_eq rfl (by decide) c80
                  exfalso; first | exact om_495ee03a60ae q74 f119 | first | omega | ((try (have i_t70 := Imp.go t70 (by omega))); omega)
              · skip
                have hb120 : ∀ k, Rc gT (Crun gs (Imember :: k)) (Cbad (V72 1 3).toInt) := fun k => Rc.go1 (hr65 k) ((tk_n (fun h9 => h75 (rl61.tok.1.symm.trans (h9.trans (by decide))))).trans (fl_eq rl61.tok.2.2 k76))
                refine lv_if_ne (tgt := 138) hx hb dX1_readNeed_133 (by decide) (fun c121 => ?_) (fun c121 => ?_)
                · skip
                  have f122 : z67.toInt ≠ 0 := b_neq rfl (by decide) c121
                  exfalso; first | exact om_fb320d7600b7 rgz67.1 q74 f122 | first | omega | ((try (have i_t70 := Imp.go t70 (by omega))); omega)
                · skip
                  have f123 : z67.toInt = 0 := b_eq rfl (by decide) c121
                  refine lv_iconst (v := 0) hx hb dX1_readNeed_136 (by decide) ?_
                  have rw124 : ROWL b L L73 := (fun k hk => ((axL73 44 k rfl).trans ((axL58 44 k rfl).trans ((axL19 44 k rfl).trans rfl))))
                  exact W.zret (v := 0) hx hb hr rfl (fun t ht hW => ⟨⟨0, (V72, L73), rfl, ⟨hMV72, agV72, alL73, (by decide), (Or.inr ⟨rfl, hb120⟩), rw124⟩, by rw [ht]; exact hP, va_K.moved hW.alike hK, hD⟩, hS.F ht⟩) hS.2.2 dX1_readNeed_137
            · skip
              have f125 : ((V57 6 9)).toInt = 133 := b_eq rfl (by decide) c62
              refine lv_aload_n hx hb dX1_readNeed_113 rfl (lv_at hl 3 rfl) ?_
              have kd126 : gT.1 ((nx (nx gs 1) 1).1 0) = ((V57 6 9)).toInt := RelC.kd rl61
              have hr127 : ∀ k, Rc gT (Crun gs (Imember :: k)) (Crun (nx (nx (nx gs 1) 1) 1) (Iword 0 fx37 :: k)) := fun k => Rc.go1 (hr46 k) (called_y 0 fx37 (kd126.trans f125))
              have pq128 : (V57 1 1).toInt = ((V 1 1)).toInt := congrArg Int32.toInt ((ajV57 1 1 rfl).trans ((ajV34 1 1 rfl).trans (ajV18 1 1 rfl)))
              refine gA_int (gA_runV (As := []) (rest := []) (ci := 1) (q0 := 1) hx hb hml hown hg hP hD hK hS hA hnw hgk (x_takeCalled3 l D ks H.size ad kk V57 L58 Z (b) (gT) ((nx (nx gs 1) 1)) hMV57 (show b < 2 from by (first | exact om_f940a4667dd6 hb2 | omega)) (show (V57 1 1).toInt = (b : Int) from by (first | exact om_adf531c77a0d rbk pq128 | omega)) rl61 (show (V57 6 9).toInt = 133 from by (first | exact om_c98ce90bb990 f125 | omega))) w923 w925 w15 w162 w926 rfl xgReader hdV_yX1_takeCalled ⟨Nat.le_of_ble_eq_true rfl, Nat.le_of_ble_eq_true rfl⟩ rfl hl.1 rfl (Nat.le_of_ble_eq_true rfl) dX1_readNeed_114 ⟨Nat.le_of_ble_eq_true rfl, Nat.le_of_ble_eq_true rfl⟩) hP hD hK hS hA (fun z129 u130 H locs w131 hP hD hK hS => ?_)
              obtain ⟨V134, L135⟩ := u130
              obtain ⟨hMV134, ajV134, axL135, rgz129, t132, t133⟩ := w131
              have alL135 : agL [6, 44] L L135 := agL.tr alL58 axL135 (by decide)
              have hP : va_P D vwCl (xw ad kk V134 L135 Z) H := hP
              have hD : va_D A (xw ad kk V134 L135 Z) := hD
              have hMV134 : rgd bX V134 := hMV134
              have ajV134 : agr [(1, 3), (1, 6), (6, 8), (6, 9), (6, 10)] [43, 44] V57 V134 := ajV134
              have agV134 : agr [(1, 3), (1, 6), (6, 8), (6, 9), (6, 10)] [43, 44, 49, 58, 59, 60] V V134 := agV57.tr ajV134 (by decide) (by decide)
              have rgz129 : 0 ≤ z129.toInt ∧ z129.toInt ≤ 1 := rgz129
              have t132 : KcS (mthW gT (nx (nx (nx gs 1) 1) 1) 4) z129.toInt (V134 1 3).toInt (fun x9 => RelC V134 L135 b gT x9.2 ∧ (V134 1 6).toInt = ((x9.1 : Nat) : Int) ∧ x9.1 < 20 ∧ keepS (nx (nx gs 1) 1) 2 x9.2) := t132
              have t133 : ROWL b L58 L135 := t133
              rcases t132 with ⟨q136, mx137, h138, rl139, hf140, hb141, kp142⟩ | ⟨q136, h138⟩
              · skip
                have hr143 : ∀ k, Rc gT (Crun gs (Imember :: k)) (Crun mx137.2 (Itake 59 :: IaddNeed 0 fx37 (mx137.1 + 1) :: Imember :: k)) := fun k => Rc.go1 (hr127 k) (wo_y h138)
                refine lv_if_ne (tgt := 122) hx hb dX1_readNeed_117 (by decide) (fun c144 => ?_) (fun c144 => ?_)
                · skip
                  have f145 : z129.toInt ≠ 0 := b_neq rfl (by decide) c144
                  refine lv_aload_n hx hb dX1_readNeed_122 rfl (lv_at hl 3 rfl) ?_
                  refine va_get (D := D) (ci := 1) (v := .int (V134 1 6)) (fs := (xfReader ad V134 L135 Z)) (C := RX1) (T := TX1) (N := 9) hx hb hg inX1 hown hK hP 1 xgReader rfl 6 (by decide) (hg _ w310) (fun _ h9 => h9) rfl dX1_readNeed_123 ?_
                  have r146 : (-1) ≤ ((V134 1 6)).toInt ∧ ((V134 1 6)).toInt ≤ 23 := hMV134 1 6
                  refine lv_istore_n (lv' := [(3, .int (V134 1 6)), (2, .int (V34 1 6)), (1, .int 0), (0, .ref (ad 1))]) hx hb dX1_readNeed_126 rfl hl (by decide) rfl (fun ls hl => ?_)
                  refine lv_aload_n hx hb dX1_readNeed_127 rfl (lv_at hl 3 rfl) ?_
                  refine lv_bipush (v := 59) hx hb dX1_readNeed_128 (by decide) ?_
                  have r147 : Int32.toInt 59 = 59 := by decide
                  refine gA_int (gA_runV (As := [.int 59]) (rest := []) (ci := 1) (q0 := 1) hx hb hml hown hg hP hD hK hS hA hnw hgk (x_take2 l D ks H.size ad kk V134 L135 Z 59 ((mx137.2.1 0)) hMV134 (rl139).1 (rl139).2.1.1 (show 1 ≤ (Int32.toInt 59) from by (first | exact om_de934181d724 r147 | omega))) w893 w895 w10 w162 w896 rfl xgReader hdV_yX1_take ⟨Nat.le_of_ble_eq_true rfl, Nat.le_of_ble_eq_true rfl⟩ rfl hl.1 rfl (Nat.le_of_ble_eq_true rfl) dX1_readNeed_130 ⟨Nat.le_of_ble_eq_true rfl, Nat.le_of_ble_eq_true rfl⟩) hP hD hK hS hA (fun z148 u149 H locs w150 hP hD hK hS => ?_)
                  obtain ⟨V153, L154⟩ := u149
                  obtain ⟨hMV153, ajV153, axL154, rgz148, t151, t152⟩ := w150
                  have alL154 : agL [6, 44] L L154 := agL.tr alL135 axL154 (by decide)
                  have hP : va_P D vwCl (xw ad kk V153 L154 Z) H := hP
                  have hD : va_D A (xw ad kk V153 L154 Z) := hD
                  have hMV153 : rgd bX V153 := hMV153
                  have ajV153 : agr [(1, 3), (6, 8), (6, 9), (6, 10)] [] V134 V153 := ajV153
                  have agV153 : agr [(1, 3), (1, 6), (6, 8), (6, 9), (6, 10)] [43, 44, 49, 58, 59, 60] V V153 := agV134.tr ajV153 (by decide) (by decide)
                  have rgz148 : 0 ≤ z148.toInt ∧ z148.toInt ≤ 1 := rgz148
                  have t151 : Imp (z148.toInt = 0) (1 ≤ (V153 1 3).toInt) := t151
                  have t152 : (z148.toInt = 1 ∧ (V134 12 (mx137.2.1 0)).toInt = (Int32.toInt 59) ∧ CUR V153 L154 ((mx137.2.1 0) + 1) ∧ V153 1 3 = V134 1 3) ∨ (z148.toInt = 0 ∧ (V134 12 (mx137.2.1 0)).toInt ≠ (Int32.toInt 59) ∧ (V153 1 3).toInt = 1 + 16 * (V134 13 (mx137.2.1 0)).toInt) := t152
                  rcases t152 with ⟨q155, h156, k157, k158⟩ | ⟨q155, h156, k157⟩
                  · skip
                    have rl159 : RelC V153 L154 b gT (nx mx137.2 1) := RelC.nx1 rl139 ajV153 (by decide) axL154 (by decide) k157 k158
                    have hr160 : ∀ k, Rc gT (Crun gs (Imember :: k)) (Crun (nx mx137.2 1) (IaddNeed 0 fx37 (mx137.1 + 1) :: Imember :: k)) := fun k => Rc.go1 (hr143 k) (tk_y (rl139.tok.1.trans (h156.trans (by decide))))
                    refine lv_if_ne (tgt := 138) hx hb dX1_readNeed_133 (by decide) (fun c161 => ?_) (fun c161 => ?_)
                    · skip
                      have f162 : z148.toInt ≠ 0 := b_neq rfl (by decide) c161
                      refine lv_aload_n hx hb dX1_readNeed_138 rfl (lv_at hl 3 rfl) ?_
                      refine va_get (D := D) (ci := 1) (v := rfN ad 72 (V153 1 2)) (fs := (xfReader ad V153 L154 Z)) (C := RX1) (T := TX1) (N := 9) hx hb hg inX1 hown hK hP 1 xgReader rfl 2 (by decide) (hg _ w306) (fun _ h9 => h9) rfl dX1_readNeed_139 ?_
                      have pq163 : (V153 1 2).toInt = ((V 1 2)).toInt := congrArg Int32.toInt ((ajV153 1 2 rfl).trans ((ajV134 1 2 rfl).trans ((ajV57 1 2 rfl).trans ((ajV34 1 2 rfl).trans (ajV18 1 2 rfl)))))
                      refine g_topv (v := .ref (ad (72 + go))) (rfN_r (by first | omega | ((try (have i_t151 := Imp.go t151 (by omega))); omega))) ?_
                      refine lv_iload_n hx hb dX1_readNeed_142 rfl (lv_at hl 2 rfl) ?_
                      refine lv_iload_n hx hb dX1_readNeed_143 rfl (lv_at hl 1 rfl) ?_
                      refine lv_iload_n hx hb dX1_readNeed_144 rfl (lv_at hl 0 rfl) ?_
                      have r164 : Int32.toInt 0 = 0 := by decide
                      refine gA_void (gA_runV (As := [.int 0, .int (V34 1 6), .int (V134 1 6)]) (rest := []) (ci := 3) (q0 := (72 + go)) hx hb hml hown hg hP hD hK hS hA hnw hgk (x_addNeed3 l D ks H.size ad kk V153 L154 Z 0 (V34 1 6) (V134 1 6) (go) hMV153 (show go < 48 from by first | exact om_ed409a757601 hb2 hgh | first | omega | ((try (have i_t151 := Imp.go t151 (by omega))); omega))) w1011 w1012 w1013 w169 w1014 rfl (xgComp hgo) hdV_yX3_addNeed ⟨Nat.le_of_ble_eq_true rfl, Nat.le_of_ble_eq_true rfl⟩ rfl hl.1 rfl (Nat.le_of_ble_eq_true rfl) dX1_readNeed_145 ⟨Nat.le_of_ble_eq_true rfl, Nat.le_of_ble_eq_true rfl⟩) hP hD hK hS hA (fun u166 H locs w167 hP hD hK hS => ?_)
                      obtain ⟨V172, L173⟩ := u166
                      obtain ⟨hMV172, ajV172, axL173, fyV172, t168, t169, t170, t171⟩ := w167
                      have axL173 : L154 = L173 := Eq.symm axL173
                      subst axL173
                      have hP : va_P D vwCl (xw ad kk V172 L154 Z) H := hP
                      have hD : va_D A (xw ad kk V172 L154 Z) := hD
                      have hMV172 : rgd bX V172 := hMV172
                      have ajV172 : agr [] [49, 58, 59, 60] V153 V172 := ajV172
                      have agV172 : agr [(1, 3), (1, 6), (6, 8), (6, 9), (6, 10)] [43, 44, 49, 58, 59, 60] V V172 := agV153.tr ajV172 (by decide) (by decide)
                      have t168 : Imp ((V153 49 go).toInt < 8) ((V172 49 go).toInt = (V153 49 go).toInt + 1) := t168
                      have t169 : Imp ((V153 49 go).toInt < 8) (V172 58 = upd (V153 58) (8 * go + Int32.toNatClampNeg (V153 49 go)) (V34 1 6)) := t169
                      have t170 : Imp ((V153 49 go).toInt < 8) (V172 59 = upd (V153 59) (8 * go + Int32.toNatClampNeg (V153 49 go)) (V134 1 6)) := t170
                      have t171 : Imp ((V153 49 go).toInt < 8) (V172 60 = upd (V153 60) (8 * go + Int32.toNatClampNeg (V153 49 go)) 0) := t171
                      have pq174 : (V153 49 go).toInt = ((V 49 go)).toInt := congrArg Int32.toInt ((ajV153 49 go rfl).trans ((ajV134 49 go rfl).trans ((ajV57 49 go rfl).trans ((ajV34 49 go rfl).trans (ajV18 49 go rfl)))))
                      have ng177 : (V153 49 go).toInt < 8 := by (first | exact om_846a176f29bf f5 pq174 | omega)
                      have rl175 : RelC V172 L154 b gT (sN (nx mx137.2 1) 1 ((nx mx137.2 1).1 1 + 1)) := RelC.nd rl159 (show (V153 1 2).toInt = ((go : Nat) : Int) from by (first | exact om_adf531c77a0d own pq163 | omega)) ajV172 (by decide) (Imp.go t168 (by (first | exact om_846a176f29bf f5 pq174 | omega)))
                      have rl176 : RelC V172 L154 b gT (ndS (nx mx137.2 1) 0 fx37 (mx137.1 + 1)) := RelC.nu rl175 ndS_5 rfl
                      have cn178 : CNc V153 b gs := CNc.ag cno.1 (show agr [(1, 3), (1, 6), (6, 8), (6, 9), (6, 10)] [43, 44] V V153 from (agr.tr (agr.tr (agr.tr (agr.tr (agr.tr agr.rf ajV18 (by decide) (by decide)) ajV34 (by decide) (by decide)) ajV57 (by decide) (by decide)) ajV134 (by decide) (by decide)) ajV153 (by decide) (by decide))) (by decide) keepC.rf
                      have cn179 : CNc V153 b (nx mx137.2 1) := CNc.mv cn178 (fun _ _ _ => rfl) (keepC.tr (keepC.tr (keepC.tr (keepC.tr (keepC.rf : keepC gs gs) (keepS.c (keepS.n1 1))) (keepS.c (keepS.n1 1))) (keepS.c kp142)) (keepS.c (keepS.n1 1)))
                      have ow180 := (RelC.ow rl159 (show (V153 1 2).toInt = ((go : Nat) : Int) from by (first | exact om_adf531c77a0d own pq163 | omega))).1
                      have pn9 : 8 * go + Int32.toNatClampNeg (V153 49 go) = 8 * go + (nx mx137.2 1).1 1 := by have h9 := i_clamp (x := V153 49 go) rfl (by (first | exact om_ac0b685ca4ca r3.1 pq174 | omega)); omega
                      have cn181 : CNc V172 b (ndS (nx mx137.2 1) 0 fx37 (mx137.1 + 1)) := CNc.nd2 cn179 (by rw [((keepC.tr (keepC.tr (keepC.tr (keepC.tr (keepC.rf : keepC gs gs) (keepS.c (keepS.n1 1))) (keepS.c (keepS.n1 1))) (keepS.c kp142)) (keepS.c (keepS.n1 1)))).2 2 (by decide)]; exact gol) hgl ow180 (by omega) ajV172 (by decide) (fun k hk => fyV172 49 k ⟨by decide, by decide⟩ (show k < go ∨ go + 1 ≤ k from by omega)) (Imp.go t168 ng177) (Imp.go t169 ng177) (Imp.go t170 ng177) (Imp.go t171 ng177) pn9 (show ((V34 1 6)).toInt = ((fx37 : Nat) : Int) from by omega) (show Int32.toInt 0 = (((0 : Int).toNat : Nat) : Int) from by decide) (show ((V134 1 6)).toInt + 1 = (((mx137.1 + 1) : Nat) : Int) from by omega) hb41
                      have hr182 : ∀ k, Rc gT (Crun gs (Imember :: k)) (Crun (ndS (nx mx137.2 1) 0 fx37 (mx137.1 + 1)) (Imember :: k)) := fun k => Rc.go1 (hr160 k) (m_addNeed 0 fx37 (mx137.1 + 1))
                      refine lv_iconst (v := 1) hx hb dX1_readNeed_148 (by decide) ?_
                      have pq183 : (V172 1 2).toInt = ((V 1 2)).toInt := congrArg Int32.toInt ((ajV172 1 2 rfl).trans ((ajV153 1 2 rfl).trans ((ajV134 1 2 rfl).trans ((ajV57 1 2 rfl).trans ((ajV34 1 2 rfl).trans (ajV18 1 2 rfl))))))
                      have cd184 : CDc V172 b gs := CDc.ag ceo.1 (show agr [(1, 3), (1, 6), (6, 8), (6, 9), (6, 10)] [43, 44, 49, 58, 59, 60] V V172 from (agr.tr (agr.tr (agr.tr (agr.tr (agr.tr (agr.tr agr.rf ajV18 (by decide) (by decide)) ajV34 (by decide) (by decide)) ajV57 (by decide) (by decide)) ajV134 (by decide) (by decide)) ajV153 (by decide) (by decide)) ajV172 (by decide) (by decide))) (fun _ => rfl) (fun _ => rfl)
                      have cd185 : CDc V172 b (ndS (nx mx137.2 1) 0 fx37 (mx137.1 + 1)) := CDc.mv cd184 (fun j9 h9 => ((show ∀ j9, j9 = 5 ∨ 2000 ≤ j9 → (ndS (nx mx137.2 1) 0 fx37 (mx137.1 + 1)).2.1 j9 = (nx mx137.2 1).2.1 j9 from fun j9 h9 => (show ∀ j9, 5 ≤ j9 → (ndS (nx mx137.2 1) 0 fx37 (mx137.1 + 1)).2.1 j9 = (nx mx137.2 1).2.1 j9 from fun _ _ => rfl) j9 (by omega)) j9 h9).trans ((fun j9 h9 => ((show ∀ j9, j9 = 5 ∨ 2000 ≤ j9 → (nx mx137.2 1).2.1 j9 = mx137.2.2.1 j9 from fun j9 h9 => (show ∀ j9, 5 ≤ j9 → (nx mx137.2 1).2.1 j9 = mx137.2.2.1 j9 from fun _ _ => rfl) j9 (by omega)) j9 h9).trans ((fun j9 h9 => ((show ∀ j9, j9 = 5 ∨ 2000 ≤ j9 → mx137.2.2.1 j9 = (nx (nx gs 1) 1).2.1 j9 from fun j9 h9 => (show ∀ j9, 5 ≤ j9 → mx137.2.2.1 j9 = (nx (nx gs 1) 1).2.1 j9 from (fun j8 h8 => mth_e (s := nx (nx (nx gs 1) 1) 1) (j0 := 4) (by decide) h138 j8 h8)) j9 (by omega)) j9 h9).trans ((fun j9 h9 => ((show ∀ j9, j9 = 5 ∨ 2000 ≤ j9 → (nx (nx gs 1) 1).2.1 j9 = (nx gs 1).2.1 j9 from fun j9 h9 => (show ∀ j9, 5 ≤ j9 → (nx (nx gs 1) 1).2.1 j9 = (nx gs 1).2.1 j9 from fun _ _ => rfl) j9 (by omega)) j9 h9).trans ((show ∀ j9, j9 = 5 ∨ 2000 ≤ j9 → (nx gs 1).2.1 j9 = gs.2.1 j9 from fun j9 h9 => (show ∀ j9, 5 ≤ j9 → (nx gs 1).2.1 j9 = gs.2.1 j9 from fun _ _ => rfl) j9 (by omega)) j9 h9)) j9 h9)) j9 h9)) j9 h9))
                      have re186 : REc V172 b gs := REc.ag ceo.2.1 (show agr [(1, 3), (1, 6), (6, 8), (6, 9), (6, 10)] [43, 44, 49, 58, 59, 60] V V172 from (agr.tr (agr.tr (agr.tr (agr.tr (agr.tr (agr.tr agr.rf ajV18 (by decide) (by decide)) ajV34 (by decide) (by decide)) ajV57 (by decide) (by decide)) ajV134 (by decide) (by decide)) ajV153 (by decide) (by decide)) ajV172 (by decide) (by decide))) (fun _ => rfl) (fun _ => rfl) (fun _ => rfl) keepE.rf rfl
                      have re187 : REc V172 b (ndS (nx mx137.2 1) 0 fx37 (mx137.1 + 1)) := REc.mv re186 (fun _ _ _ _ => rfl) (keepE.tr (keepE.tr (keepE.tr (keepE.tr (keepE.tr (keepE.rf : keepE gs gs) (show keepE gs (nx gs 1) from keepE.eq (show ∀ j9, 5 ≤ j9 → (nx gs 1).2.1 j9 = gs.2.1 j9 from fun _ _ => rfl))) (show keepE (nx gs 1) (nx (nx gs 1) 1) from keepE.eq (show ∀ j9, 5 ≤ j9 → (nx (nx gs 1) 1).2.1 j9 = (nx gs 1).2.1 j9 from fun _ _ => rfl))) (show keepE (nx (nx gs 1) 1) mx137.2 from keepE.eq (show ∀ j9, 5 ≤ j9 → mx137.2.2.1 j9 = (nx (nx gs 1) 1).2.1 j9 from (fun j8 h8 => mth_e (s := nx (nx (nx gs 1) 1) 1) (j0 := 4) (by decide) h138 j8 h8)))) (show keepE mx137.2 (nx mx137.2 1) from keepE.eq (show ∀ j9, 5 ≤ j9 → (nx mx137.2 1).2.1 j9 = mx137.2.2.1 j9 from fun _ _ => rfl))) (show keepE (nx mx137.2 1) (ndS (nx mx137.2 1) 0 fx37 (mx137.1 + 1)) from keepE.eq (show ∀ j9, 5 ≤ j9 → (ndS (nx mx137.2 1) 0 fx37 (mx137.1 + 1)).2.1 j9 = (nx mx137.2 1).2.1 j9 from fun _ _ => rfl))) ((rfl : (ndS (nx mx137.2 1) 0 fx37 (mx137.1 + 1)).2.1 2 = (nx mx137.2 1).2.1 2).trans (((show keepS mx137.2 1 (nx mx137.2 1) from (keepS.n1 1)).2.2.1 2 (by decide)).trans (((show keepS (nx (nx gs 1) 1) 2 mx137.2 from kp142).2.2.1 2 (by decide)).trans (((show keepS (nx gs 1) 1 (nx (nx gs 1) 1) from (keepS.n1 1)).2.2.1 2 (by decide)).trans (((show keepS gs 1 (nx gs 1) from (keepS.n1 1)).2.2.1 2 (by decide)).trans (rfl : gs.2.1 2 = gs.2.1 2))))))
                      have ww188 : WWc V172 b gs := WWc.ag ceo.2.2.1 (show agr [(1, 3), (1, 6), (6, 8), (6, 9), (6, 10)] [43, 44, 49, 58, 59, 60] V V172 from (agr.tr (agr.tr (agr.tr (agr.tr (agr.tr (agr.tr agr.rf ajV18 (by decide) (by decide)) ajV34 (by decide) (by decide)) ajV57 (by decide) (by decide)) ajV134 (by decide) (by decide)) ajV153 (by decide) (by decide)) ajV172 (by decide) (by decide))) (fun _ => ⟨rfl, rfl, rfl, rfl, rfl⟩) keepE.rf rfl
                      have ww189 : WWc V172 b (ndS (nx mx137.2 1) 0 fx37 (mx137.1 + 1)) := WWc.mv ww188 (fun _ _ _ _ _ => rfl) (keepE.tr (keepE.tr (keepE.tr (keepE.tr (keepE.tr (keepE.rf : keepE gs gs) (show keepE gs (nx gs 1) from keepE.eq (show ∀ j9, 5 ≤ j9 → (nx gs 1).2.1 j9 = gs.2.1 j9 from fun _ _ => rfl))) (show keepE (nx gs 1) (nx (nx gs 1) 1) from keepE.eq (show ∀ j9, 5 ≤ j9 → (nx (nx gs 1) 1).2.1 j9 = (nx gs 1).2.1 j9 from fun _ _ => rfl))) (show keepE (nx (nx gs 1) 1) mx137.2 from keepE.eq (show ∀ j9, 5 ≤ j9 → mx137.2.2.1 j9 = (nx (nx gs 1) 1).2.1 j9 from (fun j8 h8 => mth_e (s := nx (nx (nx gs 1) 1) 1) (j0 := 4) (by decide) h138 j8 h8)))) (show keepE mx137.2 (nx mx137.2 1) from keepE.eq (show ∀ j9, 5 ≤ j9 → (nx mx137.2 1).2.1 j9 = mx137.2.2.1 j9 from fun _ _ => rfl))) (show keepE (nx mx137.2 1) (ndS (nx mx137.2 1) 0 fx37 (mx137.1 + 1)) from keepE.eq (show ∀ j9, 5 ≤ j9 → (ndS (nx mx137.2 1) 0 fx37 (mx137.1 + 1)).2.1 j9 = (nx mx137.2 1).2.1 j9 from fun _ _ => rfl))) ((rfl : (ndS (nx mx137.2 1) 0 fx37 (mx137.1 + 1)).2.2.1 = (nx mx137.2 1).2.2.1).trans ((congrArg (fun q9 : List (Nat × Bool) × List Nat => q9.1) (show keepS mx137.2 1 (nx mx137.2 1) from (keepS.n1 1)).2.2.2).trans ((congrArg (fun q9 : List (Nat × Bool) × List Nat => q9.1) (show keepS (nx (nx gs 1) 1) 2 mx137.2 from kp142).2.2.2).trans ((congrArg (fun q9 : List (Nat × Bool) × List Nat => q9.1) (show keepS (nx gs 1) 1 (nx (nx gs 1) 1) from (keepS.n1 1)).2.2.2).trans ((congrArg (fun q9 : List (Nat × Bool) × List Nat => q9.1) (show keepS gs 1 (nx gs 1) from (keepS.n1 1)).2.2.2).trans (rfl : gs.2.2.1 = gs.2.2.1))))))
                      have hwl : wl gs ≤ 2 * gs.1 0 := ceo.2.2.2
                      have wk190 : wl (nx gs 1) = wl gs ∧ (nx gs 1).1 0 = gs.1 0 + 1 := ⟨rfl, rfl⟩
                      have wk191 : wl (nx (nx gs 1) 1) = wl (nx gs 1) ∧ (nx (nx gs 1) 1).1 0 = (nx gs 1).1 0 + 1 := ⟨rfl, rfl⟩
                      have wk192 : wl mx137.2 = wl (nx (nx gs 1) 1) ∧ (nx (nx gs 1) 1).1 0 + 1 ≤ mx137.2.1 0 := ⟨wl_e (show ∀ j9, j9 = 5 ∨ 2000 ≤ j9 → mx137.2.2.1 j9 = (nx (nx gs 1) 1).2.1 j9 from fun j9 h9 => (show ∀ j9, 5 ≤ j9 → mx137.2.2.1 j9 = (nx (nx gs 1) 1).2.1 j9 from (fun j8 h8 => mth_e (s := nx (nx (nx gs 1) 1) 1) (j0 := 4) (by decide) h138 j8 h8)) j9 (by omega)), (keepS.le kp142 (by decide)).1⟩
                      have wk193 : wl (nx mx137.2 1) = wl mx137.2 ∧ (nx mx137.2 1).1 0 = mx137.2.1 0 + 1 := ⟨rfl, rfl⟩
                      have wk194 : wl (ndS (nx mx137.2 1) 0 fx37 (mx137.1 + 1)) = wl (nx mx137.2 1) ∧ (ndS (nx mx137.2 1) 0 fx37 (mx137.1 + 1)).1 0 = (nx mx137.2 1).1 0 := ⟨wl_e (show ∀ j9, j9 = 5 ∨ 2000 ≤ j9 → (ndS (nx mx137.2 1) 0 fx37 (mx137.1 + 1)).2.1 j9 = (nx mx137.2 1).2.1 j9 from fun j9 h9 => (show ∀ j9, 5 ≤ j9 → (ndS (nx mx137.2 1) 0 fx37 (mx137.1 + 1)).2.1 j9 = (nx mx137.2 1).2.1 j9 from fun _ _ => rfl) j9 (by omega)), ndS_5 0 (by decide)⟩
                      have ps195 : gs.1 0 + 1 ≤ (nx gs 1).1 0 := ((keepS.n1 1)).1
                      have ps196 : (nx gs 1).1 0 + 1 ≤ (nx (nx gs 1) 1).1 0 := ((keepS.n1 1)).1
                      have ps197 : (nx (nx gs 1) 1).1 0 + 2 ≤ mx137.2.1 0 := (kp142).1
                      have ps198 : mx137.2.1 0 + 1 ≤ (nx mx137.2 1).1 0 := ((keepS.n1 1)).1
                      have ps199 : (ndS (nx mx137.2 1) 0 fx37 (mx137.1 + 1)).1 0 = (nx mx137.2 1).1 0 := ndS_5 0 (by decide)
                      have rw200 : ROWL b L L154 := (fun k hk => ((axL154 44 k rfl).trans ((t133 k hk).trans ((axL58 44 k rfl).trans ((axL19 44 k rfl).trans rfl)))))
                      exact W.zret (v := 1) hx hb hr rfl (fun t ht hW => ⟨⟨1, (V172, L154), rfl, ⟨hMV172, agV172, alL154, (by decide), (Or.inl ⟨rfl, (ndS (nx mx137.2 1) 0 fx37 (mx137.1 + 1)), hr182, rl176, (by omega), ⟨cn181, (show OWl V172 b (nx mx137.2 1) from OWl.mv cno.2 (show V172 1 2 = V 1 2 from ((ajV172 1 2 rfl).trans ((ajV153 1 2 rfl).trans ((ajV134 1 2 rfl).trans ((ajV57 1 2 rfl).trans ((ajV34 1 2 rfl).trans (ajV18 1 2 rfl))))))) (keepC.tr (keepC.tr (keepC.tr (keepC.tr (keepC.rf : keepC gs gs) (keepS.c (keepS.n1 1))) (keepS.c (keepS.n1 1))) (keepS.c kp142)) (keepS.c (keepS.n1 1))))⟩, ⟨cd185, re187, ww189, (show wl (ndS (nx mx137.2 1) 0 fx37 (mx137.1 + 1)) ≤ 2 * (ndS (nx mx137.2 1) 0 fx37 (mx137.1 + 1)).1 0 from by omega)⟩⟩), rw200⟩, by rw [ht]; exact hP, va_K.moved hW.alike hK, hD⟩, hS.F ht⟩) hS.2.2 dX1_readNeed_149
                    · skip
                      have f201 : z148.toInt = 0 := b_eq rfl (by decide) c161
                      exfalso; first | exact om_495ee03a60ae q155 f201 | first | omega | ((try (have i_t151 := Imp.go t151 (by omega))); omega)
                  · skip
                    have hb202 : ∀ k, Rc gT (Crun gs (Imember :: k)) (Cbad (V153 1 3).toInt) := fun k => Rc.go1 (hr143 k) ((tk_n (fun h9 => h156 (rl139.tok.1.symm.trans (h9.trans (by decide))))).trans (fl_eq rl139.tok.2.2 k157))
                    refine lv_if_ne (tgt := 138) hx hb dX1_readNeed_133 (by decide) (fun c203 => ?_) (fun c203 => ?_)
                    · skip
                      have f204 : z148.toInt ≠ 0 := b_neq rfl (by decide) c203
                      exfalso; first | exact om_fb320d7600b7 rgz148.1 q155 f204 | first | omega | ((try (have i_t151 := Imp.go t151 (by omega))); omega)
                    · skip
                      have f205 : z148.toInt = 0 := b_eq rfl (by decide) c203
                      refine lv_iconst (v := 0) hx hb dX1_readNeed_136 (by decide) ?_
                      have rw206 : ROWL b L L154 := (fun k hk => ((axL154 44 k rfl).trans ((t133 k hk).trans ((axL58 44 k rfl).trans ((axL19 44 k rfl).trans rfl)))))
                      exact W.zret (v := 0) hx hb hr rfl (fun t ht hW => ⟨⟨0, (V153, L154), rfl, ⟨hMV153, agV153, alL154, (by decide), (Or.inr ⟨rfl, hb202⟩), rw206⟩, by rw [ht]; exact hP, va_K.moved hW.alike hK, hD⟩, hS.F ht⟩) hS.2.2 dX1_readNeed_137
                · skip
                  have f207 : z129.toInt = 0 := b_eq rfl (by decide) c144
                  exfalso; omega
              · skip
                have hb208 : ∀ k, Rc gT (Crun gs (Imember :: k)) (Cbad (V134 1 3).toInt) := fun k => Rc.go1 (hr127 k) (wo_b h138)
                refine lv_if_ne (tgt := 122) hx hb dX1_readNeed_117 (by decide) (fun c209 => ?_) (fun c209 => ?_)
                · skip
                  have f210 : z129.toInt ≠ 0 := b_neq rfl (by decide) c209
                  exfalso; omega
                · skip
                  have f211 : z129.toInt = 0 := b_eq rfl (by decide) c209
                  refine lv_iconst (v := 0) hx hb dX1_readNeed_120 (by decide) ?_
                  have rw212 : ROWL b L L135 := (fun k hk => ((t133 k hk).trans ((axL58 44 k rfl).trans ((axL19 44 k rfl).trans rfl))))
                  exact W.zret (v := 0) hx hb hr rfl (fun t ht hW => ⟨⟨0, (V134, L135), rfl, ⟨hMV134, agV134, alL135, (by decide), (Or.inr ⟨rfl, hb208⟩), rw212⟩, by rw [ht]; exact hP, va_K.moved hW.alike hK, hD⟩, hS.F ht⟩) hS.2.2 dX1_readNeed_121
          · skip
            have f213 : z30.toInt = 0 := b_eq rfl (by decide) c43
            exfalso; omega
        · skip
          have hb214 : ∀ k, Rc gT (Crun gs (Imember :: k)) (Cbad (V34 1 3).toInt) := fun k => Rc.go1 (hr28 k) (nd_b h38)
          refine lv_if_ne (tgt := 81) hx hb dX1_readNeed_76 (by decide) (fun c215 => ?_) (fun c215 => ?_)
          · skip
            have f216 : z30.toInt ≠ 0 := b_neq rfl (by decide) c215
            exfalso; omega
          · skip
            have f217 : z30.toInt = 0 := b_eq rfl (by decide) c215
            refine lv_iconst (v := 0) hx hb dX1_readNeed_79 (by decide) ?_
            have rw218 : ROWL b L L19 := (fun k hk => ((axL19 44 k rfl).trans rfl))
            exact W.zret (v := 0) hx hb hr rfl (fun t ht hW => ⟨⟨0, (V34, L19), rfl, ⟨hMV34, agV34, alL19, (by decide), (Or.inr ⟨rfl, hb214⟩), rw218⟩, by rw [ht]; exact hP, va_K.moved hW.alike hK, hD⟩, hS.F ht⟩) hS.2.2 dX1_readNeed_80
      · skip
        have f219 : ((V18 6 9)).toInt = 139 := b_eq rfl (by decide) c25
        refine lv_iconst (v := 2) hx hb dX1_readNeed_55 (by decide) ?_
        refine lv_goto (tgt := 60) hx hb dX1_readNeed_56 (by decide) ?_
        refine lv_istore_n (lv' := [(1, .int 2), (0, .ref (ad 1))]) hx hb dX1_readNeed_60 rfl hl (by decide) rfl (fun ls hl => ?_)
        refine lv_iload_n hx hb dX1_readNeed_61 rfl (lv_at hl 0 rfl) ?_
        refine lv_if_eq (tgt := 72) hx hb dX1_readNeed_62 (by decide) (fun q => absurd q (by decide)) (fun _ => ?_)
        refine lv_aload_n hx hb dX1_readNeed_65 rfl (lv_at hl 1 rfl) ?_
        refine va_get (D := D) (ci := 1) (v := .ref (ad 6)) (fs := (xfReader ad V18 L19 Z)) (C := RX1) (T := TX1) (N := 9) hx hb hg inX1 hown hK hP 1 xgReader rfl 0 (by decide) (hg _ w304) (fun _ h9 => h9) rfl dX1_readNeed_66 ?_
        have kd220 : gT.1 ((nx gs 1).1 0) = ((V18 6 9)).toInt := RelC.kd rl22
        have hr221 : ∀ k, Rc gT (Crun gs (Imember :: k)) (Crun (nx (nx gs 1) 1) (IneedT 2 :: k)) := fun k => Rc.go1 (hr8 k) (needK_a (kd220.trans f219))
        have l8222 := RelC.l8 rl22
        have lk223 := RelC.lk rl22 (show (V18 6 9).toInt ≠ 0 from by (first | exact om_7491c7ca2629 f219 | omega))
        refine gA_void (gA_runV (As := []) (rest := []) (ci := 9) (q0 := 6) hx hb hml hown hg hP hD hK hS hA hnw hgk (x_next2 l D ks H.size ad kk V18 L19 Z  hMV18 (show (V18 6 8).toInt ≤ (V18 6 7).toInt from by (first | exact om_f4906d00fa52 t16 | omega))) w871 w852 w853 w157 w854 rfl xgTape hdV_yX9_next ⟨Nat.le_of_ble_eq_true rfl, Nat.le_of_ble_eq_true rfl⟩ rfl hl.1 rfl (Nat.le_of_ble_eq_true rfl) dX1_readNeed_69 ⟨Nat.le_of_ble_eq_true rfl, Nat.le_of_ble_eq_true rfl⟩) hP hD hK hS hA (fun u225 H locs w226 hP hD hK hS => ?_)
        obtain ⟨V229, L230⟩ := u225
        obtain ⟨hMV229, ajV229, axL230, t227, t228⟩ := w226
        have alL230 : agL [6, 44] L L230 := agL.tr alL19 axL230 (by decide)
        have hP : va_P D vwCl (xw ad kk V229 L230 Z) H := hP
        have hD : va_D A (xw ad kk V229 L230 Z) := hD
        have hMV229 : rgd bX V229 := hMV229
        have ajV229 : agr [(6, 8), (6, 9), (6, 10)] [] V18 V229 := ajV229
        have agV229 : agr [(1, 3), (1, 6), (6, 8), (6, 9), (6, 10)] [43, 44, 49, 58, 59, 60] V V229 := agV18.tr ajV229 (by decide) (by decide)
        have t227 : (V229 6 8).toInt ≤ (V229 6 7).toInt := t227
        have t228 : CUR V229 L230 (Int32.toNatClampNeg (V18 6 8)) := t228
        have r231 : 0 ≤ ((V229 6 8)).toInt ∧ ((V229 6 8)).toInt ≤ 4000 := hMV229 6 8
        have pq232 : (V229 6 7).toInt = ((V 6 7)).toInt := congrArg Int32.toInt ((ajV229 6 7 rfl).trans (ajV18 6 7 rfl))
        have rl233 : RelC V229 L230 b gT (nx (nx gs 1) 1) := RelC.nx1 rl22 ajV229 (by decide) axL230 (by decide) (by rw [← lk223]; exact t228) (ajV229 1 3 rfl)
        refine lv_aload_n hx hb dX1_readNeed_72 rfl (lv_at hl 1 rfl) ?_
        have pq234 : (V229 1 1).toInt = ((V 1 1)).toInt := congrArg Int32.toInt ((ajV229 1 1 rfl).trans (ajV18 1 1 rfl))
        refine gA_int (gA_runV (As := []) (rest := []) (ci := 1) (q0 := 1) hx hb hml hown hg hP hD hK hS hA hnw hgk (x_isToldType3 l D ks H.size ad kk V229 L230 Z (b) (gT) ((nx (nx gs 1) 1)) hMV229 (show b < 2 from by (first | exact om_f940a4667dd6 hb2 | omega)) (show (V229 1 1).toInt = (b : Int) from by (first | exact om_adf531c77a0d rbk pq234 | omega)) rl233) w888 w890 w9 w162 w891 rfl xgReader hdV_yX1_isToldType ⟨Nat.le_of_ble_eq_true rfl, Nat.le_of_ble_eq_true rfl⟩ rfl hl.1 rfl (Nat.le_of_ble_eq_true rfl) dX1_readNeed_73 ⟨Nat.le_of_ble_eq_true rfl, Nat.le_of_ble_eq_true rfl⟩) hP hD hK hS hA (fun z235 u236 H locs w237 hP hD hK hS => ?_)
        obtain ⟨V239, L240⟩ := u236
        obtain ⟨hMV239, ajV239, axL240, rgz235, t238⟩ := w237
        have axL240 : L230 = L240 := Eq.symm axL240
        subst axL240
        have hP : va_P D vwCl (xw ad kk V239 L230 Z) H := hP
        have hD : va_D A (xw ad kk V239 L230 Z) := hD
        have hMV239 : rgd bX V239 := hMV239
        have ajV239 : agr [(1, 3), (1, 6)] [] V229 V239 := ajV239
        have agV239 : agr [(1, 3), (1, 6), (6, 8), (6, 9), (6, 10)] [43, 44, 49, 58, 59, 60] V V239 := agV229.tr ajV239 (by decide) (by decide)
        have rgz235 : 0 ≤ z235.toInt ∧ z235.toInt ≤ 1 := rgz235
        have t238 : KcN (look gT (nx (nx gs 1) 1) ((nx (nx gs 1) 1).2.1 0)) z235.toInt (V239 1 3).toInt (fun f9 => RelC V239 L230 b gT (nx (nx gs 1) 1) ∧ (V239 1 6).toInt = ((f9 : Nat) : Int) ∧ f9 < 24) := t238
        rcases t238 with ⟨q241, fx242, h243, rl244, hf245, hb246⟩ | ⟨q241, h243⟩
        · skip
          have kn247 := look_ne h243
          have kd248 : gT.1 ((nx (nx gs 1) 1).1 0) = ((V229 6 9)).toInt := (RelC.kd rl244).trans (congrArg Int32.toInt (ajV239 6 9 rfl))
          refine lv_if_ne (tgt := 81) hx hb dX1_readNeed_76 (by decide) (fun c249 => ?_) (fun c249 => ?_)
          · skip
            have f250 : z235.toInt ≠ 0 := b_neq rfl (by decide) c249
            refine lv_aload_n hx hb dX1_readNeed_81 rfl (lv_at hl 1 rfl) ?_
            refine va_get (D := D) (ci := 1) (v := .int (V239 1 6)) (fs := (xfReader ad V239 L230 Z)) (C := RX1) (T := TX1) (N := 9) hx hb hg inX1 hown hK hP 1 xgReader rfl 6 (by decide) (hg _ w310) (fun _ h9 => h9) rfl dX1_readNeed_82 ?_
            have r251 : (-1) ≤ ((V239 1 6)).toInt ∧ ((V239 1 6)).toInt ≤ 23 := hMV239 1 6
            refine lv_istore_n (lv' := [(2, .int (V239 1 6)), (1, .int 2), (0, .ref (ad 1))]) hx hb dX1_readNeed_85 rfl hl (by decide) rfl (fun ls hl => ?_)
            refine lv_iconst (v := (-1)) hx hb dX1_readNeed_86 (by decide) ?_
            refine lv_istore_n (lv' := [(3, .int (-1)), (2, .int (V239 1 6)), (1, .int 2), (0, .ref (ad 1))]) hx hb dX1_readNeed_87 rfl hl (by decide) rfl (fun ls hl => ?_)
            refine lv_aload_n hx hb dX1_readNeed_88 rfl (lv_at hl 3 rfl) ?_
            refine va_get (D := D) (ci := 1) (v := .ref (ad 6)) (fs := (xfReader ad V239 L230 Z)) (C := RX1) (T := TX1) (N := 9) hx hb hg inX1 hown hK hP 1 xgReader rfl 0 (by decide) (hg _ w304) (fun _ h9 => h9) rfl dX1_readNeed_89 ?_
            have hr252 : ∀ k, Rc gT (Crun gs (Imember :: k)) (Crun (nx (nx (nx gs 1) 1) 1) (Itake 59 :: IaddNeed 2 fx242 0 :: Imember :: k)) := fun k => Rc.go1 (hr221 k) (nd_2 h243)
            have l8253 := RelC.l8 rl244
            have pq254 : (V239 6 8).toInt = ((V229 6 8)).toInt := congrArg Int32.toInt (ajV239 6 8 rfl)
            have pq255 : (V239 6 7).toInt = ((V 6 7)).toInt := congrArg Int32.toInt ((ajV239 6 7 rfl).trans ((ajV229 6 7 rfl).trans (ajV18 6 7 rfl)))
            have pq256 : (V239 6 9).toInt = ((V229 6 9)).toInt := congrArg Int32.toInt (ajV239 6 9 rfl)
            have lk257 := RelC.lk rl244 (show (V239 6 9).toInt ≠ 0 from by omega)
            refine gA_void (gA_runV (As := []) (rest := []) (ci := 9) (q0 := 6) hx hb hml hown hg hP hD hK hS hA hnw hgk (x_next2 l D ks H.size ad kk V239 L230 Z  hMV239 (show (V239 6 8).toInt ≤ (V239 6 7).toInt from by (first | exact om_8dc85c50f369 t227 pq232 pq254 pq255 | omega))) w871 w852 w853 w157 w854 rfl xgTape hdV_yX9_next ⟨Nat.le_of_ble_eq_true rfl, Nat.le_of_ble_eq_true rfl⟩ rfl hl.1 rfl (Nat.le_of_ble_eq_true rfl) dX1_readNeed_92 ⟨Nat.le_of_ble_eq_true rfl, Nat.le_of_ble_eq_true rfl⟩) hP hD hK hS hA (fun u259 H locs w260 hP hD hK hS => ?_)
            obtain ⟨V263, L264⟩ := u259
            obtain ⟨hMV263, ajV263, axL264, t261, t262⟩ := w260
            have alL264 : agL [6, 44] L L264 := agL.tr alL230 axL264 (by decide)
            have hP : va_P D vwCl (xw ad kk V263 L264 Z) H := hP
            have hD : va_D A (xw ad kk V263 L264 Z) := hD
            have hMV263 : rgd bX V263 := hMV263
            have ajV263 : agr [(6, 8), (6, 9), (6, 10)] [] V239 V263 := ajV263
            have agV263 : agr [(1, 3), (1, 6), (6, 8), (6, 9), (6, 10)] [43, 44, 49, 58, 59, 60] V V263 := agV239.tr ajV263 (by decide) (by decide)
            have t261 : (V263 6 8).toInt ≤ (V263 6 7).toInt := t261
            have t262 : CUR V263 L264 (Int32.toNatClampNeg (V239 6 8)) := t262
            have r265 : 0 ≤ ((V263 6 8)).toInt ∧ ((V263 6 8)).toInt ≤ 4000 := hMV263 6 8
            have pq266 : (V263 6 7).toInt = ((V 6 7)).toInt := congrArg Int32.toInt ((ajV263 6 7 rfl).trans ((ajV239 6 7 rfl).trans ((ajV229 6 7 rfl).trans (ajV18 6 7 rfl))))
            have rl267 : RelC V263 L264 b gT (nx (nx (nx gs 1) 1) 1) := RelC.nx1 rl244 ajV263 (by decide) axL264 (by decide) (by rw [← lk257]; exact t262) (ajV263 1 3 rfl)
            refine lv_iload_n hx hb dX1_readNeed_95 rfl (lv_at hl 2 rfl) ?_
            refine lv_iconst (v := 2) hx hb dX1_readNeed_96 (by decide) ?_
            refine lv_icmp_eq (tgt := 127) hx hb dX1_readNeed_97 (by decide) (fun _ => ?_) (fun q => absurd (by decide) q)
            refine lv_aload_n hx hb dX1_readNeed_127 rfl (lv_at hl 3 rfl) ?_
            refine lv_bipush (v := 59) hx hb dX1_readNeed_128 (by decide) ?_
            have r268 : Int32.toInt 59 = 59 := by decide
            refine gA_int (gA_runV (As := [.int 59]) (rest := []) (ci := 1) (q0 := 1) hx hb hml hown hg hP hD hK hS hA hnw hgk (x_take2 l D ks H.size ad kk V263 L264 Z 59 (((nx (nx (nx gs 1) 1) 1).1 0)) hMV263 (rl267).1 (rl267).2.1.1 (show 1 ≤ (Int32.toInt 59) from by (first | exact om_de934181d724 r268 | omega))) w893 w895 w10 w162 w896 rfl xgReader hdV_yX1_take ⟨Nat.le_of_ble_eq_true rfl, Nat.le_of_ble_eq_true rfl⟩ rfl hl.1 rfl (Nat.le_of_ble_eq_true rfl) dX1_readNeed_130 ⟨Nat.le_of_ble_eq_true rfl, Nat.le_of_ble_eq_true rfl⟩) hP hD hK hS hA (fun z269 u270 H locs w271 hP hD hK hS => ?_)
            obtain ⟨V274, L275⟩ := u270
            obtain ⟨hMV274, ajV274, axL275, rgz269, t272, t273⟩ := w271
            have alL275 : agL [6, 44] L L275 := agL.tr alL264 axL275 (by decide)
            have hP : va_P D vwCl (xw ad kk V274 L275 Z) H := hP
            have hD : va_D A (xw ad kk V274 L275 Z) := hD
            have hMV274 : rgd bX V274 := hMV274
            have ajV274 : agr [(1, 3), (6, 8), (6, 9), (6, 10)] [] V263 V274 := ajV274
            have agV274 : agr [(1, 3), (1, 6), (6, 8), (6, 9), (6, 10)] [43, 44, 49, 58, 59, 60] V V274 := agV263.tr ajV274 (by decide) (by decide)
            have rgz269 : 0 ≤ z269.toInt ∧ z269.toInt ≤ 1 := rgz269
            have t272 : Imp (z269.toInt = 0) (1 ≤ (V274 1 3).toInt) := t272
            have t273 : (z269.toInt = 1 ∧ (V263 12 ((nx (nx (nx gs 1) 1) 1).1 0)).toInt = (Int32.toInt 59) ∧ CUR V274 L275 (((nx (nx (nx gs 1) 1) 1).1 0) + 1) ∧ V274 1 3 = V263 1 3) ∨ (z269.toInt = 0 ∧ (V263 12 ((nx (nx (nx gs 1) 1) 1).1 0)).toInt ≠ (Int32.toInt 59) ∧ (V274 1 3).toInt = 1 + 16 * (V263 13 ((nx (nx (nx gs 1) 1) 1).1 0)).toInt) := t273
            rcases t273 with ⟨q276, h277, k278, k279⟩ | ⟨q276, h277, k278⟩
            · skip
              have rl280 : RelC V274 L275 b gT (nx (nx (nx (nx gs 1) 1) 1) 1) := RelC.nx1 rl267 ajV274 (by decide) axL275 (by decide) k278 k279
              have hr281 : ∀ k, Rc gT (Crun gs (Imember :: k)) (Crun (nx (nx (nx (nx gs 1) 1) 1) 1) (IaddNeed 2 fx242 0 :: Imember :: k)) := fun k => Rc.go1 (hr252 k) (tk_y (rl267.tok.1.trans (h277.trans (by decide))))
              refine lv_if_ne (tgt := 138) hx hb dX1_readNeed_133 (by decide) (fun c282 => ?_) (fun c282 => ?_)
              · skip
                have f283 : z269.toInt ≠ 0 := b_neq rfl (by decide) c282
                refine lv_aload_n hx hb dX1_readNeed_138 rfl (lv_at hl 3 rfl) ?_
                refine va_get (D := D) (ci := 1) (v := rfN ad 72 (V274 1 2)) (fs := (xfReader ad V274 L275 Z)) (C := RX1) (T := TX1) (N := 9) hx hb hg inX1 hown hK hP 1 xgReader rfl 2 (by decide) (hg _ w306) (fun _ h9 => h9) rfl dX1_readNeed_139 ?_
                have pq284 : (V274 1 2).toInt = ((V 1 2)).toInt := congrArg Int32.toInt ((ajV274 1 2 rfl).trans ((ajV263 1 2 rfl).trans ((ajV239 1 2 rfl).trans ((ajV229 1 2 rfl).trans (ajV18 1 2 rfl)))))
                refine g_topv (v := .ref (ad (72 + go))) (rfN_r (by first | omega | ((try (have i_t272 := Imp.go t272 (by omega))); omega))) ?_
                refine lv_iload_n hx hb dX1_readNeed_142 rfl (lv_at hl 2 rfl) ?_
                refine lv_iload_n hx hb dX1_readNeed_143 rfl (lv_at hl 1 rfl) ?_
                refine lv_iload_n hx hb dX1_readNeed_144 rfl (lv_at hl 0 rfl) ?_
                have r285 : Int32.toInt 2 = 2 := by decide
                have r286 : Int32.toInt (-1) = (-1) := by decide
                refine gA_void (gA_runV (As := [.int 2, .int (V239 1 6), .int (-1)]) (rest := []) (ci := 3) (q0 := (72 + go)) hx hb hml hown hg hP hD hK hS hA hnw hgk (x_addNeed3 l D ks H.size ad kk V274 L275 Z 2 (V239 1 6) (-1) (go) hMV274 (show go < 48 from by first | exact om_ed409a757601 hb2 hgh | first | omega | ((try (have i_t272 := Imp.go t272 (by omega))); omega))) w1011 w1012 w1013 w169 w1014 rfl (xgComp hgo) hdV_yX3_addNeed ⟨Nat.le_of_ble_eq_true rfl, Nat.le_of_ble_eq_true rfl⟩ rfl hl.1 rfl (Nat.le_of_ble_eq_true rfl) dX1_readNeed_145 ⟨Nat.le_of_ble_eq_true rfl, Nat.le_of_ble_eq_true rfl⟩) hP hD hK hS hA (fun u288 H locs w289 hP hD hK hS => ?_)
                obtain ⟨V294, L295⟩ := u288
                obtain ⟨hMV294, ajV294, axL295, fyV294, t290, t291, t292, t293⟩ := w289
                have axL295 : L275 = L295 := Eq.symm axL295
                subst axL295
                have hP : va_P D vwCl (xw ad kk V294 L275 Z) H := hP
                have hD : va_D A (xw ad kk V294 L275 Z) := hD
                have hMV294 : rgd bX V294 := hMV294
                have ajV294 : agr [] [49, 58, 59, 60] V274 V294 := ajV294
                have agV294 : agr [(1, 3), (1, 6), (6, 8), (6, 9), (6, 10)] [43, 44, 49, 58, 59, 60] V V294 := agV274.tr ajV294 (by decide) (by decide)
                have t290 : Imp ((V274 49 go).toInt < 8) ((V294 49 go).toInt = (V274 49 go).toInt + 1) := t290
                have t291 : Imp ((V274 49 go).toInt < 8) (V294 58 = upd (V274 58) (8 * go + Int32.toNatClampNeg (V274 49 go)) (V239 1 6)) := t291
                have t292 : Imp ((V274 49 go).toInt < 8) (V294 59 = upd (V274 59) (8 * go + Int32.toNatClampNeg (V274 49 go)) (-1)) := t292
                have t293 : Imp ((V274 49 go).toInt < 8) (V294 60 = upd (V274 60) (8 * go + Int32.toNatClampNeg (V274 49 go)) 2) := t293
                have pq296 : (V274 49 go).toInt = ((V 49 go)).toInt := congrArg Int32.toInt ((ajV274 49 go rfl).trans ((ajV263 49 go rfl).trans ((ajV239 49 go rfl).trans ((ajV229 49 go rfl).trans (ajV18 49 go rfl)))))
                have ng299 : (V274 49 go).toInt < 8 := by (first | exact om_846a176f29bf f5 pq296 | omega)
                have rl297 : RelC V294 L275 b gT (sN (nx (nx (nx (nx gs 1) 1) 1) 1) 1 ((nx (nx (nx (nx gs 1) 1) 1) 1).1 1 + 1)) := RelC.nd rl280 (show (V274 1 2).toInt = ((go : Nat) : Int) from by (first | exact om_adf531c77a0d own pq284 | omega)) ajV294 (by decide) (Imp.go t290 (by (first | exact om_846a176f29bf f5 pq296 | omega)))
                have rl298 : RelC V294 L275 b gT (ndS (nx (nx (nx (nx gs 1) 1) 1) 1) 2 fx242 0) := RelC.nu rl297 ndS_5 rfl
                have cn300 : CNc V274 b gs := CNc.ag cno.1 (show agr [(1, 3), (1, 6), (6, 8), (6, 9), (6, 10)] [] V V274 from (agr.tr (agr.tr (agr.tr (agr.tr (agr.tr agr.rf ajV18 (by decide) (by decide)) ajV229 (by decide) (by decide)) ajV239 (by decide) (by decide)) ajV263 (by decide) (by decide)) ajV274 (by decide) (by decide))) (by decide) keepC.rf
                have cn301 : CNc V274 b (nx (nx (nx (nx gs 1) 1) 1) 1) := CNc.mv cn300 (fun _ _ _ => rfl) (keepC.tr (keepC.tr (keepC.tr (keepC.tr (keepC.rf : keepC gs gs) (keepS.c (keepS.n1 1))) (keepS.c (keepS.n1 1))) (keepS.c (keepS.n1 1))) (keepS.c (keepS.n1 1)))
                have ow302 := (RelC.ow rl280 (show (V274 1 2).toInt = ((go : Nat) : Int) from by (first | exact om_adf531c77a0d own pq284 | omega))).1
                have pn9 : 8 * go + Int32.toNatClampNeg (V274 49 go) = 8 * go + (nx (nx (nx (nx gs 1) 1) 1) 1).1 1 := by have h9 := i_clamp (x := V274 49 go) rfl (by (first | exact om_ac0b685ca4ca r3.1 pq296 | omega)); omega
                have cn303 : CNc V294 b (ndS (nx (nx (nx (nx gs 1) 1) 1) 1) 2 fx242 0) := CNc.nd2 cn301 (by rw [((keepC.tr (keepC.tr (keepC.tr (keepC.tr (keepC.rf : keepC gs gs) (keepS.c (keepS.n1 1))) (keepS.c (keepS.n1 1))) (keepS.c (keepS.n1 1))) (keepS.c (keepS.n1 1)))).2 2 (by decide)]; exact gol) hgl ow302 (by omega) ajV294 (by decide) (fun k hk => fyV294 49 k ⟨by decide, by decide⟩ (show k < go ∨ go + 1 ≤ k from by omega)) (Imp.go t290 ng299) (Imp.go t291 ng299) (Imp.go t292 ng299) (Imp.go t293 ng299) pn9 (show ((V239 1 6)).toInt = ((fx242 : Nat) : Int) from by omega) (show Int32.toInt 2 = (((2 : Int).toNat : Nat) : Int) from by decide) (show Int32.toInt (-1) + 1 = ((0 : Nat) : Int) from by (first | exact om_e2c2be8a8631 r286 | omega)) hb246
                have hr304 : ∀ k, Rc gT (Crun gs (Imember :: k)) (Crun (ndS (nx (nx (nx (nx gs 1) 1) 1) 1) 2 fx242 0) (Imember :: k)) := fun k => Rc.go1 (hr281 k) (m_addNeed 2 fx242 0)
                refine lv_iconst (v := 1) hx hb dX1_readNeed_148 (by decide) ?_
                have pq305 : (V294 1 2).toInt = ((V 1 2)).toInt := congrArg Int32.toInt ((ajV294 1 2 rfl).trans ((ajV274 1 2 rfl).trans ((ajV263 1 2 rfl).trans ((ajV239 1 2 rfl).trans ((ajV229 1 2 rfl).trans (ajV18 1 2 rfl))))))
                have cd306 : CDc V294 b gs := CDc.ag ceo.1 (show agr [(1, 3), (1, 6), (6, 8), (6, 9), (6, 10)] [49, 58, 59, 60] V V294 from (agr.tr (agr.tr (agr.tr (agr.tr (agr.tr (agr.tr agr.rf ajV18 (by decide) (by decide)) ajV229 (by decide) (by decide)) ajV239 (by decide) (by decide)) ajV263 (by decide) (by decide)) ajV274 (by decide) (by decide)) ajV294 (by decide) (by decide))) (fun _ => rfl) (fun _ => rfl)
                have cd307 : CDc V294 b (ndS (nx (nx (nx (nx gs 1) 1) 1) 1) 2 fx242 0) := CDc.mv cd306 (fun j9 h9 => ((show ∀ j9, j9 = 5 ∨ 2000 ≤ j9 → (ndS (nx (nx (nx (nx gs 1) 1) 1) 1) 2 fx242 0).2.1 j9 = (nx (nx (nx (nx gs 1) 1) 1) 1).2.1 j9 from fun j9 h9 => (show ∀ j9, 5 ≤ j9 → (ndS (nx (nx (nx (nx gs 1) 1) 1) 1) 2 fx242 0).2.1 j9 = (nx (nx (nx (nx gs 1) 1) 1) 1).2.1 j9 from fun _ _ => rfl) j9 (by omega)) j9 h9).trans ((fun j9 h9 => ((show ∀ j9, j9 = 5 ∨ 2000 ≤ j9 → (nx (nx (nx (nx gs 1) 1) 1) 1).2.1 j9 = (nx (nx (nx gs 1) 1) 1).2.1 j9 from fun j9 h9 => (show ∀ j9, 5 ≤ j9 → (nx (nx (nx (nx gs 1) 1) 1) 1).2.1 j9 = (nx (nx (nx gs 1) 1) 1).2.1 j9 from fun _ _ => rfl) j9 (by omega)) j9 h9).trans ((fun j9 h9 => ((show ∀ j9, j9 = 5 ∨ 2000 ≤ j9 → (nx (nx (nx gs 1) 1) 1).2.1 j9 = (nx (nx gs 1) 1).2.1 j9 from fun j9 h9 => (show ∀ j9, 5 ≤ j9 → (nx (nx (nx gs 1) 1) 1).2.1 j9 = (nx (nx gs 1) 1).2.1 j9 from fun _ _ => rfl) j9 (by omega)) j9 h9).trans ((fun j9 h9 => ((show ∀ j9, j9 = 5 ∨ 2000 ≤ j9 → (nx (nx gs 1) 1).2.1 j9 = (nx gs 1).2.1 j9 from fun j9 h9 => (show ∀ j9, 5 ≤ j9 → (nx (nx gs 1) 1).2.1 j9 = (nx gs 1).2.1 j9 from fun _ _ => rfl) j9 (by omega)) j9 h9).trans ((show ∀ j9, j9 = 5 ∨ 2000 ≤ j9 → (nx gs 1).2.1 j9 = gs.2.1 j9 from fun j9 h9 => (show ∀ j9, 5 ≤ j9 → (nx gs 1).2.1 j9 = gs.2.1 j9 from fun _ _ => rfl) j9 (by omega)) j9 h9)) j9 h9)) j9 h9)) j9 h9))
                have re308 : REc V294 b gs := REc.ag ceo.2.1 (show agr [(1, 3), (1, 6), (6, 8), (6, 9), (6, 10)] [49, 58, 59, 60] V V294 from (agr.tr (agr.tr (agr.tr (agr.tr (agr.tr (agr.tr agr.rf ajV18 (by decide) (by decide)) ajV229 (by decide) (by decide)) ajV239 (by decide) (by decide)) ajV263 (by decide) (by decide)) ajV274 (by decide) (by decide)) ajV294 (by decide) (by decide))) (fun _ => rfl) (fun _ => rfl) (fun _ => rfl) keepE.rf rfl
                have re309 : REc V294 b (ndS (nx (nx (nx (nx gs 1) 1) 1) 1) 2 fx242 0) := REc.mv re308 (fun _ _ _ _ => rfl) (keepE.tr (keepE.tr (keepE.tr (keepE.tr (keepE.tr (keepE.rf : keepE gs gs) (show keepE gs (nx gs 1) from keepE.eq (show ∀ j9, 5 ≤ j9 → (nx gs 1).2.1 j9 = gs.2.1 j9 from fun _ _ => rfl))) (show keepE (nx gs 1) (nx (nx gs 1) 1) from keepE.eq (show ∀ j9, 5 ≤ j9 → (nx (nx gs 1) 1).2.1 j9 = (nx gs 1).2.1 j9 from fun _ _ => rfl))) (show keepE (nx (nx gs 1) 1) (nx (nx (nx gs 1) 1) 1) from keepE.eq (show ∀ j9, 5 ≤ j9 → (nx (nx (nx gs 1) 1) 1).2.1 j9 = (nx (nx gs 1) 1).2.1 j9 from fun _ _ => rfl))) (show keepE (nx (nx (nx gs 1) 1) 1) (nx (nx (nx (nx gs 1) 1) 1) 1) from keepE.eq (show ∀ j9, 5 ≤ j9 → (nx (nx (nx (nx gs 1) 1) 1) 1).2.1 j9 = (nx (nx (nx gs 1) 1) 1).2.1 j9 from fun _ _ => rfl))) (show keepE (nx (nx (nx (nx gs 1) 1) 1) 1) (ndS (nx (nx (nx (nx gs 1) 1) 1) 1) 2 fx242 0) from keepE.eq (show ∀ j9, 5 ≤ j9 → (ndS (nx (nx (nx (nx gs 1) 1) 1) 1) 2 fx242 0).2.1 j9 = (nx (nx (nx (nx gs 1) 1) 1) 1).2.1 j9 from fun _ _ => rfl))) ((rfl : (ndS (nx (nx (nx (nx gs 1) 1) 1) 1) 2 fx242 0).2.1 2 = (nx (nx (nx (nx gs 1) 1) 1) 1).2.1 2).trans (((show keepS (nx (nx (nx gs 1) 1) 1) 1 (nx (nx (nx (nx gs 1) 1) 1) 1) from (keepS.n1 1)).2.2.1 2 (by decide)).trans (((show keepS (nx (nx gs 1) 1) 1 (nx (nx (nx gs 1) 1) 1) from (keepS.n1 1)).2.2.1 2 (by decide)).trans (((show keepS (nx gs 1) 1 (nx (nx gs 1) 1) from (keepS.n1 1)).2.2.1 2 (by decide)).trans (((show keepS gs 1 (nx gs 1) from (keepS.n1 1)).2.2.1 2 (by decide)).trans (rfl : gs.2.1 2 = gs.2.1 2))))))
                have ww310 : WWc V294 b gs := WWc.ag ceo.2.2.1 (show agr [(1, 3), (1, 6), (6, 8), (6, 9), (6, 10)] [49, 58, 59, 60] V V294 from (agr.tr (agr.tr (agr.tr (agr.tr (agr.tr (agr.tr agr.rf ajV18 (by decide) (by decide)) ajV229 (by decide) (by decide)) ajV239 (by decide) (by decide)) ajV263 (by decide) (by decide)) ajV274 (by decide) (by decide)) ajV294 (by decide) (by decide))) (fun _ => ⟨rfl, rfl, rfl, rfl, rfl⟩) keepE.rf rfl
                have ww311 : WWc V294 b (ndS (nx (nx (nx (nx gs 1) 1) 1) 1) 2 fx242 0) := WWc.mv ww310 (fun _ _ _ _ _ => rfl) (keepE.tr (keepE.tr (keepE.tr (keepE.tr (keepE.tr (keepE.rf : keepE gs gs) (show keepE gs (nx gs 1) from keepE.eq (show ∀ j9, 5 ≤ j9 → (nx gs 1).2.1 j9 = gs.2.1 j9 from fun _ _ => rfl))) (show keepE (nx gs 1) (nx (nx gs 1) 1) from keepE.eq (show ∀ j9, 5 ≤ j9 → (nx (nx gs 1) 1).2.1 j9 = (nx gs 1).2.1 j9 from fun _ _ => rfl))) (show keepE (nx (nx gs 1) 1) (nx (nx (nx gs 1) 1) 1) from keepE.eq (show ∀ j9, 5 ≤ j9 → (nx (nx (nx gs 1) 1) 1).2.1 j9 = (nx (nx gs 1) 1).2.1 j9 from fun _ _ => rfl))) (show keepE (nx (nx (nx gs 1) 1) 1) (nx (nx (nx (nx gs 1) 1) 1) 1) from keepE.eq (show ∀ j9, 5 ≤ j9 → (nx (nx (nx (nx gs 1) 1) 1) 1).2.1 j9 = (nx (nx (nx gs 1) 1) 1).2.1 j9 from fun _ _ => rfl))) (show keepE (nx (nx (nx (nx gs 1) 1) 1) 1) (ndS (nx (nx (nx (nx gs 1) 1) 1) 1) 2 fx242 0) from keepE.eq (show ∀ j9, 5 ≤ j9 → (ndS (nx (nx (nx (nx gs 1) 1) 1) 1) 2 fx242 0).2.1 j9 = (nx (nx (nx (nx gs 1) 1) 1) 1).2.1 j9 from fun _ _ => rfl))) ((rfl : (ndS (nx (nx (nx (nx gs 1) 1) 1) 1) 2 fx242 0).2.2.1 = (nx (nx (nx (nx gs 1) 1) 1) 1).2.2.1).trans ((congrArg (fun q9 : List (Nat × Bool) × List Nat => q9.1) (show keepS (nx (nx (nx gs 1) 1) 1) 1 (nx (nx (nx (nx gs 1) 1) 1) 1) from (keepS.n1 1)).2.2.2).trans ((congrArg (fun q9 : List (Nat × Bool) × List Nat => q9.1) (show keepS (nx (nx gs 1) 1) 1 (nx (nx (nx gs 1) 1) 1) from (keepS.n1 1)).2.2.2).trans ((congrArg (fun q9 : List (Nat × Bool) × List Nat => q9.1) (show keepS (nx gs 1) 1 (nx (nx gs 1) 1) from (keepS.n1 1)).2.2.2).trans ((congrArg (fun q9 : List (Nat × Bool) × List Nat => q9.1) (show keepS gs 1 (nx gs 1) from (keepS.n1 1)).2.2.2).trans (rfl : gs.2.2.1 = gs.2.2.1))))))
                have hwl : wl gs ≤ 2 * gs.1 0 := ceo.2.2.2
                have wk312 : wl (nx gs 1) = wl gs ∧ (nx gs 1).1 0 = gs.1 0 + 1 := ⟨rfl, rfl⟩
                have wk313 : wl (nx (nx gs 1) 1) = wl (nx gs 1) ∧ (nx (nx gs 1) 1).1 0 = (nx gs 1).1 0 + 1 := ⟨rfl, rfl⟩
                have wk314 : wl (nx (nx (nx gs 1) 1) 1) = wl (nx (nx gs 1) 1) ∧ (nx (nx (nx gs 1) 1) 1).1 0 = (nx (nx gs 1) 1).1 0 + 1 := ⟨rfl, rfl⟩
                have wk315 : wl (nx (nx (nx (nx gs 1) 1) 1) 1) = wl (nx (nx (nx gs 1) 1) 1) ∧ (nx (nx (nx (nx gs 1) 1) 1) 1).1 0 = (nx (nx (nx gs 1) 1) 1).1 0 + 1 := ⟨rfl, rfl⟩
                have wk316 : wl (ndS (nx (nx (nx (nx gs 1) 1) 1) 1) 2 fx242 0) = wl (nx (nx (nx (nx gs 1) 1) 1) 1) ∧ (ndS (nx (nx (nx (nx gs 1) 1) 1) 1) 2 fx242 0).1 0 = (nx (nx (nx (nx gs 1) 1) 1) 1).1 0 := ⟨wl_e (show ∀ j9, j9 = 5 ∨ 2000 ≤ j9 → (ndS (nx (nx (nx (nx gs 1) 1) 1) 1) 2 fx242 0).2.1 j9 = (nx (nx (nx (nx gs 1) 1) 1) 1).2.1 j9 from fun j9 h9 => (show ∀ j9, 5 ≤ j9 → (ndS (nx (nx (nx (nx gs 1) 1) 1) 1) 2 fx242 0).2.1 j9 = (nx (nx (nx (nx gs 1) 1) 1) 1).2.1 j9 from fun _ _ => rfl) j9 (by omega)), ndS_5 0 (by decide)⟩
                have ps317 : gs.1 0 + 1 ≤ (nx gs 1).1 0 := ((keepS.n1 1)).1
                have ps318 : (nx gs 1).1 0 + 1 ≤ (nx (nx gs 1) 1).1 0 := ((keepS.n1 1)).1
                have ps319 : (nx (nx gs 1) 1).1 0 + 1 ≤ (nx (nx (nx gs 1) 1) 1).1 0 := ((keepS.n1 1)).1
                have ps320 : (nx (nx (nx gs 1) 1) 1).1 0 + 1 ≤ (nx (nx (nx (nx gs 1) 1) 1) 1).1 0 := ((keepS.n1 1)).1
                have ps321 : (ndS (nx (nx (nx (nx gs 1) 1) 1) 1) 2 fx242 0).1 0 = (nx (nx (nx (nx gs 1) 1) 1) 1).1 0 := ndS_5 0 (by decide)
                have rw322 : ROWL b L L275 := (fun k hk => ((axL275 44 k rfl).trans ((axL264 44 k rfl).trans ((axL230 44 k rfl).trans ((axL19 44 k rfl).trans rfl)))))
                exact W.zret (v := 1) hx hb hr rfl (fun t ht hW => ⟨⟨1, (V294, L275), rfl, ⟨hMV294, agV294, alL275, (by decide), (Or.inl ⟨rfl, (ndS (nx (nx (nx (nx gs 1) 1) 1) 1) 2 fx242 0), hr304, rl298, (by omega), ⟨cn303, (show OWl V294 b (nx (nx (nx (nx gs 1) 1) 1) 1) from OWl.mv cno.2 (show V294 1 2 = V 1 2 from ((ajV294 1 2 rfl).trans ((ajV274 1 2 rfl).trans ((ajV263 1 2 rfl).trans ((ajV239 1 2 rfl).trans ((ajV229 1 2 rfl).trans (ajV18 1 2 rfl))))))) (keepC.tr (keepC.tr (keepC.tr (keepC.tr (keepC.rf : keepC gs gs) (keepS.c (keepS.n1 1))) (keepS.c (keepS.n1 1))) (keepS.c (keepS.n1 1))) (keepS.c (keepS.n1 1))))⟩, ⟨cd307, re309, ww311, (show wl (ndS (nx (nx (nx (nx gs 1) 1) 1) 1) 2 fx242 0) ≤ 2 * (ndS (nx (nx (nx (nx gs 1) 1) 1) 1) 2 fx242 0).1 0 from by omega)⟩⟩), rw322⟩, by rw [ht]; exact hP, va_K.moved hW.alike hK, hD⟩, hS.F ht⟩) hS.2.2 dX1_readNeed_149
              · skip
                have f323 : z269.toInt = 0 := b_eq rfl (by decide) c282
                exfalso; first | exact om_495ee03a60ae q276 f323 | first | omega | ((try (have i_t272 := Imp.go t272 (by omega))); omega)
            · skip
              have hb324 : ∀ k, Rc gT (Crun gs (Imember :: k)) (Cbad (V274 1 3).toInt) := fun k => Rc.go1 (hr252 k) ((tk_n (fun h9 => h277 (rl267.tok.1.symm.trans (h9.trans (by decide))))).trans (fl_eq rl267.tok.2.2 k278))
              refine lv_if_ne (tgt := 138) hx hb dX1_readNeed_133 (by decide) (fun c325 => ?_) (fun c325 => ?_)
              · skip
                have f326 : z269.toInt ≠ 0 := b_neq rfl (by decide) c325
                exfalso; first | exact om_fb320d7600b7 rgz269.1 q276 f326 | first | omega | ((try (have i_t272 := Imp.go t272 (by omega))); omega)
              · skip
                have f327 : z269.toInt = 0 := b_eq rfl (by decide) c325
                refine lv_iconst (v := 0) hx hb dX1_readNeed_136 (by decide) ?_
                have rw328 : ROWL b L L275 := (fun k hk => ((axL275 44 k rfl).trans ((axL264 44 k rfl).trans ((axL230 44 k rfl).trans ((axL19 44 k rfl).trans rfl)))))
                exact W.zret (v := 0) hx hb hr rfl (fun t ht hW => ⟨⟨0, (V274, L275), rfl, ⟨hMV274, agV274, alL275, (by decide), (Or.inr ⟨rfl, hb324⟩), rw328⟩, by rw [ht]; exact hP, va_K.moved hW.alike hK, hD⟩, hS.F ht⟩) hS.2.2 dX1_readNeed_137
          · skip
            have f329 : z235.toInt = 0 := b_eq rfl (by decide) c249
            exfalso; omega
        · skip
          have hb330 : ∀ k, Rc gT (Crun gs (Imember :: k)) (Cbad (V239 1 3).toInt) := fun k => Rc.go1 (hr221 k) (nd_b h243)
          refine lv_if_ne (tgt := 81) hx hb dX1_readNeed_76 (by decide) (fun c331 => ?_) (fun c331 => ?_)
          · skip
            have f332 : z235.toInt ≠ 0 := b_neq rfl (by decide) c331
            exfalso; omega
          · skip
            have f333 : z235.toInt = 0 := b_eq rfl (by decide) c331
            refine lv_iconst (v := 0) hx hb dX1_readNeed_79 (by decide) ?_
            have rw334 : ROWL b L L230 := (fun k hk => ((axL230 44 k rfl).trans ((axL19 44 k rfl).trans rfl)))
            exact W.zret (v := 0) hx hb hr rfl (fun t ht hW => ⟨⟨0, (V239, L230), rfl, ⟨hMV239, agV239, alL230, (by decide), (Or.inr ⟨rfl, hb330⟩), rw334⟩, by rw [ht]; exact hP, va_K.moved hW.alike hK, hD⟩, hS.F ht⟩) hS.2.2 dX1_readNeed_80
    · skip
      have f335 : ((V18 6 9)).toInt = 138 := b_eq rfl (by decide) c23
      refine lv_iconst (v := 1) hx hb dX1_readNeed_38 (by decide) ?_
      refine lv_goto (tgt := 60) hx hb dX1_readNeed_39 (by decide) ?_
      refine lv_istore_n (lv' := [(1, .int 1), (0, .ref (ad 1))]) hx hb dX1_readNeed_60 rfl hl (by decide) rfl (fun ls hl => ?_)
      refine lv_iload_n hx hb dX1_readNeed_61 rfl (lv_at hl 0 rfl) ?_
      refine lv_if_eq (tgt := 72) hx hb dX1_readNeed_62 (by decide) (fun q => absurd q (by decide)) (fun _ => ?_)
      refine lv_aload_n hx hb dX1_readNeed_65 rfl (lv_at hl 1 rfl) ?_
      refine va_get (D := D) (ci := 1) (v := .ref (ad 6)) (fs := (xfReader ad V18 L19 Z)) (C := RX1) (T := TX1) (N := 9) hx hb hg inX1 hown hK hP 1 xgReader rfl 0 (by decide) (hg _ w304) (fun _ h9 => h9) rfl dX1_readNeed_66 ?_
      have kd336 : gT.1 ((nx gs 1).1 0) = ((V18 6 9)).toInt := RelC.kd rl22
      have hr337 : ∀ k, Rc gT (Crun gs (Imember :: k)) (Crun (nx (nx gs 1) 1) (IneedT 1 :: k)) := fun k => Rc.go1 (hr8 k) (needK_l (kd336.trans f335))
      have l8338 := RelC.l8 rl22
      have lk339 := RelC.lk rl22 (show (V18 6 9).toInt ≠ 0 from by (first | exact om_599a010fec53 f335 | omega))
      refine gA_void (gA_runV (As := []) (rest := []) (ci := 9) (q0 := 6) hx hb hml hown hg hP hD hK hS hA hnw hgk (x_next2 l D ks H.size ad kk V18 L19 Z  hMV18 (show (V18 6 8).toInt ≤ (V18 6 7).toInt from by (first | exact om_f4906d00fa52 t16 | omega))) w871 w852 w853 w157 w854 rfl xgTape hdV_yX9_next ⟨Nat.le_of_ble_eq_true rfl, Nat.le_of_ble_eq_true rfl⟩ rfl hl.1 rfl (Nat.le_of_ble_eq_true rfl) dX1_readNeed_69 ⟨Nat.le_of_ble_eq_true rfl, Nat.le_of_ble_eq_true rfl⟩) hP hD hK hS hA (fun u341 H locs w342 hP hD hK hS => ?_)
      obtain ⟨V345, L346⟩ := u341
      obtain ⟨hMV345, ajV345, axL346, t343, t344⟩ := w342
      have alL346 : agL [6, 44] L L346 := agL.tr alL19 axL346 (by decide)
      have hP : va_P D vwCl (xw ad kk V345 L346 Z) H := hP
      have hD : va_D A (xw ad kk V345 L346 Z) := hD
      have hMV345 : rgd bX V345 := hMV345
      have ajV345 : agr [(6, 8), (6, 9), (6, 10)] [] V18 V345 := ajV345
      have agV345 : agr [(1, 3), (1, 6), (6, 8), (6, 9), (6, 10)] [43, 44, 49, 58, 59, 60] V V345 := agV18.tr ajV345 (by decide) (by decide)
      have t343 : (V345 6 8).toInt ≤ (V345 6 7).toInt := t343
      have t344 : CUR V345 L346 (Int32.toNatClampNeg (V18 6 8)) := t344
      have r347 : 0 ≤ ((V345 6 8)).toInt ∧ ((V345 6 8)).toInt ≤ 4000 := hMV345 6 8
      have pq348 : (V345 6 7).toInt = ((V 6 7)).toInt := congrArg Int32.toInt ((ajV345 6 7 rfl).trans (ajV18 6 7 rfl))
      have rl349 : RelC V345 L346 b gT (nx (nx gs 1) 1) := RelC.nx1 rl22 ajV345 (by decide) axL346 (by decide) (by rw [← lk339]; exact t344) (ajV345 1 3 rfl)
      refine lv_aload_n hx hb dX1_readNeed_72 rfl (lv_at hl 1 rfl) ?_
      have pq350 : (V345 1 1).toInt = ((V 1 1)).toInt := congrArg Int32.toInt ((ajV345 1 1 rfl).trans (ajV18 1 1 rfl))
      refine gA_int (gA_runV (As := []) (rest := []) (ci := 1) (q0 := 1) hx hb hml hown hg hP hD hK hS hA hnw hgk (x_isToldType3 l D ks H.size ad kk V345 L346 Z (b) (gT) ((nx (nx gs 1) 1)) hMV345 (show b < 2 from by (first | exact om_f940a4667dd6 hb2 | omega)) (show (V345 1 1).toInt = (b : Int) from by (first | exact om_adf531c77a0d rbk pq350 | omega)) rl349) w888 w890 w9 w162 w891 rfl xgReader hdV_yX1_isToldType ⟨Nat.le_of_ble_eq_true rfl, Nat.le_of_ble_eq_true rfl⟩ rfl hl.1 rfl (Nat.le_of_ble_eq_true rfl) dX1_readNeed_73 ⟨Nat.le_of_ble_eq_true rfl, Nat.le_of_ble_eq_true rfl⟩) hP hD hK hS hA (fun z351 u352 H locs w353 hP hD hK hS => ?_)
      obtain ⟨V355, L356⟩ := u352
      obtain ⟨hMV355, ajV355, axL356, rgz351, t354⟩ := w353
      have axL356 : L346 = L356 := Eq.symm axL356
      subst axL356
      have hP : va_P D vwCl (xw ad kk V355 L346 Z) H := hP
      have hD : va_D A (xw ad kk V355 L346 Z) := hD
      have hMV355 : rgd bX V355 := hMV355
      have ajV355 : agr [(1, 3), (1, 6)] [] V345 V355 := ajV355
      have agV355 : agr [(1, 3), (1, 6), (6, 8), (6, 9), (6, 10)] [43, 44, 49, 58, 59, 60] V V355 := agV345.tr ajV355 (by decide) (by decide)
      have rgz351 : 0 ≤ z351.toInt ∧ z351.toInt ≤ 1 := rgz351
      have t354 : KcN (look gT (nx (nx gs 1) 1) ((nx (nx gs 1) 1).2.1 0)) z351.toInt (V355 1 3).toInt (fun f9 => RelC V355 L346 b gT (nx (nx gs 1) 1) ∧ (V355 1 6).toInt = ((f9 : Nat) : Int) ∧ f9 < 24) := t354
      rcases t354 with ⟨q357, fx358, h359, rl360, hf361, hb362⟩ | ⟨q357, h359⟩
      · skip
        have kn363 := look_ne h359
        have kd364 : gT.1 ((nx (nx gs 1) 1).1 0) = ((V345 6 9)).toInt := (RelC.kd rl360).trans (congrArg Int32.toInt (ajV355 6 9 rfl))
        refine lv_if_ne (tgt := 81) hx hb dX1_readNeed_76 (by decide) (fun c365 => ?_) (fun c365 => ?_)
        · skip
          have f366 : z351.toInt ≠ 0 := b_neq rfl (by decide) c365
          refine lv_aload_n hx hb dX1_readNeed_81 rfl (lv_at hl 1 rfl) ?_
          refine va_get (D := D) (ci := 1) (v := .int (V355 1 6)) (fs := (xfReader ad V355 L346 Z)) (C := RX1) (T := TX1) (N := 9) hx hb hg inX1 hown hK hP 1 xgReader rfl 6 (by decide) (hg _ w310) (fun _ h9 => h9) rfl dX1_readNeed_82 ?_
          have r367 : (-1) ≤ ((V355 1 6)).toInt ∧ ((V355 1 6)).toInt ≤ 23 := hMV355 1 6
          refine lv_istore_n (lv' := [(2, .int (V355 1 6)), (1, .int 1), (0, .ref (ad 1))]) hx hb dX1_readNeed_85 rfl hl (by decide) rfl (fun ls hl => ?_)
          refine lv_iconst (v := (-1)) hx hb dX1_readNeed_86 (by decide) ?_
          refine lv_istore_n (lv' := [(3, .int (-1)), (2, .int (V355 1 6)), (1, .int 1), (0, .ref (ad 1))]) hx hb dX1_readNeed_87 rfl hl (by decide) rfl (fun ls hl => ?_)
          refine lv_aload_n hx hb dX1_readNeed_88 rfl (lv_at hl 3 rfl) ?_
          refine va_get (D := D) (ci := 1) (v := .ref (ad 6)) (fs := (xfReader ad V355 L346 Z)) (C := RX1) (T := TX1) (N := 9) hx hb hg inX1 hown hK hP 1 xgReader rfl 0 (by decide) (hg _ w304) (fun _ h9 => h9) rfl dX1_readNeed_89 ?_
          have hr368 : ∀ k, Rc gT (Crun gs (Imember :: k)) (Crun (nx (nx (nx gs 1) 1) 1) (Icalled 1 fx358 :: k)) := fun k => Rc.go1 (hr337 k) (nd_1 h359)
          have l8369 := RelC.l8 rl360
          have pq370 : (V355 6 8).toInt = ((V345 6 8)).toInt := congrArg Int32.toInt (ajV355 6 8 rfl)
          have pq371 : (V355 6 7).toInt = ((V 6 7)).toInt := congrArg Int32.toInt ((ajV355 6 7 rfl).trans ((ajV345 6 7 rfl).trans (ajV18 6 7 rfl)))
          have pq372 : (V355 6 9).toInt = ((V345 6 9)).toInt := congrArg Int32.toInt (ajV355 6 9 rfl)
          have lk373 := RelC.lk rl360 (show (V355 6 9).toInt ≠ 0 from by omega)
          refine gA_void (gA_runV (As := []) (rest := []) (ci := 9) (q0 := 6) hx hb hml hown hg hP hD hK hS hA hnw hgk (x_next2 l D ks H.size ad kk V355 L346 Z  hMV355 (show (V355 6 8).toInt ≤ (V355 6 7).toInt from by (first | exact om_8dc85c50f369 t343 pq348 pq370 pq371 | omega))) w871 w852 w853 w157 w854 rfl xgTape hdV_yX9_next ⟨Nat.le_of_ble_eq_true rfl, Nat.le_of_ble_eq_true rfl⟩ rfl hl.1 rfl (Nat.le_of_ble_eq_true rfl) dX1_readNeed_92 ⟨Nat.le_of_ble_eq_true rfl, Nat.le_of_ble_eq_true rfl⟩) hP hD hK hS hA (fun u375 H locs w376 hP hD hK hS => ?_)
          obtain ⟨V379, L380⟩ := u375
          obtain ⟨hMV379, ajV379, axL380, t377, t378⟩ := w376
          have alL380 : agL [6, 44] L L380 := agL.tr alL346 axL380 (by decide)
          have hP : va_P D vwCl (xw ad kk V379 L380 Z) H := hP
          have hD : va_D A (xw ad kk V379 L380 Z) := hD
          have hMV379 : rgd bX V379 := hMV379
          have ajV379 : agr [(6, 8), (6, 9), (6, 10)] [] V355 V379 := ajV379
          have agV379 : agr [(1, 3), (1, 6), (6, 8), (6, 9), (6, 10)] [43, 44, 49, 58, 59, 60] V V379 := agV355.tr ajV379 (by decide) (by decide)
          have t377 : (V379 6 8).toInt ≤ (V379 6 7).toInt := t377
          have t378 : CUR V379 L380 (Int32.toNatClampNeg (V355 6 8)) := t378
          have r381 : 0 ≤ ((V379 6 8)).toInt ∧ ((V379 6 8)).toInt ≤ 4000 := hMV379 6 8
          have pq382 : (V379 6 7).toInt = ((V 6 7)).toInt := congrArg Int32.toInt ((ajV379 6 7 rfl).trans ((ajV355 6 7 rfl).trans ((ajV345 6 7 rfl).trans (ajV18 6 7 rfl))))
          have rl383 : RelC V379 L380 b gT (nx (nx (nx gs 1) 1) 1) := RelC.nx1 rl360 ajV379 (by decide) axL380 (by decide) (by rw [← lk373]; exact t378) (ajV379 1 3 rfl)
          refine lv_iload_n hx hb dX1_readNeed_95 rfl (lv_at hl 2 rfl) ?_
          refine lv_iconst (v := 2) hx hb dX1_readNeed_96 (by decide) ?_
          refine lv_icmp_eq (tgt := 127) hx hb dX1_readNeed_97 (by decide) (fun q => absurd q (by decide)) (fun _ => ?_)
          refine lv_aload_n hx hb dX1_readNeed_100 rfl (lv_at hl 3 rfl) ?_
          refine va_get (D := D) (ci := 1) (v := .ref (ad 6)) (fs := (xfReader ad V379 L380 Z)) (C := RX1) (T := TX1) (N := 9) hx hb hg inX1 hown hK hP 1 xgReader rfl 0 (by decide) (hg _ w304) (fun _ h9 => h9) rfl dX1_readNeed_101 ?_
          refine va_getN (D := D) (ci := 9) (v := .int (V379 6 9)) (fs := (xfTape ad V379 L380 Z)) (C := RX9) (T := TX9) (N := 12) hx hb hg inX9 hown hK hP 6 xgTape rfl 9 (by decide) (hnw.use 262 n262 rfl) (fun _ h9 => h9) rfl dX1_readNeed_104 ?_
          refine lv_sipush (v := 133) hx hb dX1_readNeed_107 (by decide) ?_
          refine lv_icmp_ne (tgt := 127) hx hb dX1_readNeed_110 (by decide) (fun c384 => ?_) (fun c384 => ?_)
          · skip
            have f385 : ((V379 6 9)).toInt ≠ 133 := b_neq rfl (by decide) c384
            refine lv_aload_n hx hb dX1_readNeed_127 rfl (lv_at hl 3 rfl) ?_
            refine lv_bipush (v := 59) hx hb dX1_readNeed_128 (by decide) ?_
            have kd386 : gT.1 ((nx (nx (nx gs 1) 1) 1).1 0) = ((V379 6 9)).toInt := RelC.kd rl383
            have hr387 : ∀ k, Rc gT (Crun gs (Imember :: k)) (Crun (nx (nx (nx gs 1) 1) 1) (Itake 59 :: IaddNeed 1 fx358 0 :: Imember :: k)) := fun k => Rc.go1 (hr368 k) (called_n 1 fx358 (fun h9 => f385 (kd386.symm.trans h9)))
            have r388 : Int32.toInt 59 = 59 := by decide
            refine gA_int (gA_runV (As := [.int 59]) (rest := []) (ci := 1) (q0 := 1) hx hb hml hown hg hP hD hK hS hA hnw hgk (x_take2 l D ks H.size ad kk V379 L380 Z 59 (((nx (nx (nx gs 1) 1) 1).1 0)) hMV379 (rl383).1 (rl383).2.1.1 (show 1 ≤ (Int32.toInt 59) from by (first | exact om_de934181d724 r388 | omega))) w893 w895 w10 w162 w896 rfl xgReader hdV_yX1_take ⟨Nat.le_of_ble_eq_true rfl, Nat.le_of_ble_eq_true rfl⟩ rfl hl.1 rfl (Nat.le_of_ble_eq_true rfl) dX1_readNeed_130 ⟨Nat.le_of_ble_eq_true rfl, Nat.le_of_ble_eq_true rfl⟩) hP hD hK hS hA (fun z389 u390 H locs w391 hP hD hK hS => ?_)
            obtain ⟨V394, L395⟩ := u390
            obtain ⟨hMV394, ajV394, axL395, rgz389, t392, t393⟩ := w391
            have alL395 : agL [6, 44] L L395 := agL.tr alL380 axL395 (by decide)
            have hP : va_P D vwCl (xw ad kk V394 L395 Z) H := hP
            have hD : va_D A (xw ad kk V394 L395 Z) := hD
            have hMV394 : rgd bX V394 := hMV394
            have ajV394 : agr [(1, 3), (6, 8), (6, 9), (6, 10)] [] V379 V394 := ajV394
            have agV394 : agr [(1, 3), (1, 6), (6, 8), (6, 9), (6, 10)] [43, 44, 49, 58, 59, 60] V V394 := agV379.tr ajV394 (by decide) (by decide)
            have rgz389 : 0 ≤ z389.toInt ∧ z389.toInt ≤ 1 := rgz389
            have t392 : Imp (z389.toInt = 0) (1 ≤ (V394 1 3).toInt) := t392
            have t393 : (z389.toInt = 1 ∧ (V379 12 ((nx (nx (nx gs 1) 1) 1).1 0)).toInt = (Int32.toInt 59) ∧ CUR V394 L395 (((nx (nx (nx gs 1) 1) 1).1 0) + 1) ∧ V394 1 3 = V379 1 3) ∨ (z389.toInt = 0 ∧ (V379 12 ((nx (nx (nx gs 1) 1) 1).1 0)).toInt ≠ (Int32.toInt 59) ∧ (V394 1 3).toInt = 1 + 16 * (V379 13 ((nx (nx (nx gs 1) 1) 1).1 0)).toInt) := t393
            rcases t393 with ⟨q396, h397, k398, k399⟩ | ⟨q396, h397, k398⟩
            · skip
              have rl400 : RelC V394 L395 b gT (nx (nx (nx (nx gs 1) 1) 1) 1) := RelC.nx1 rl383 ajV394 (by decide) axL395 (by decide) k398 k399
              have hr401 : ∀ k, Rc gT (Crun gs (Imember :: k)) (Crun (nx (nx (nx (nx gs 1) 1) 1) 1) (IaddNeed 1 fx358 0 :: Imember :: k)) := fun k => Rc.go1 (hr387 k) (tk_y (rl383.tok.1.trans (h397.trans (by decide))))
              refine lv_if_ne (tgt := 138) hx hb dX1_readNeed_133 (by decide) (fun c402 => ?_) (fun c402 => ?_)
              · skip
                have f403 : z389.toInt ≠ 0 := b_neq rfl (by decide) c402
                refine lv_aload_n hx hb dX1_readNeed_138 rfl (lv_at hl 3 rfl) ?_
                refine va_get (D := D) (ci := 1) (v := rfN ad 72 (V394 1 2)) (fs := (xfReader ad V394 L395 Z)) (C := RX1) (T := TX1) (N := 9) hx hb hg inX1 hown hK hP 1 xgReader rfl 2 (by decide) (hg _ w306) (fun _ h9 => h9) rfl dX1_readNeed_139 ?_
                have pq404 : (V394 1 2).toInt = ((V 1 2)).toInt := congrArg Int32.toInt ((ajV394 1 2 rfl).trans ((ajV379 1 2 rfl).trans ((ajV355 1 2 rfl).trans ((ajV345 1 2 rfl).trans (ajV18 1 2 rfl)))))
                refine g_topv (v := .ref (ad (72 + go))) (rfN_r (by first | omega | ((try (have i_t392 := Imp.go t392 (by omega))); omega))) ?_
                refine lv_iload_n hx hb dX1_readNeed_142 rfl (lv_at hl 2 rfl) ?_
                refine lv_iload_n hx hb dX1_readNeed_143 rfl (lv_at hl 1 rfl) ?_
                refine lv_iload_n hx hb dX1_readNeed_144 rfl (lv_at hl 0 rfl) ?_
                have r405 : Int32.toInt 1 = 1 := by decide
                have r406 : Int32.toInt (-1) = (-1) := by decide
                refine gA_void (gA_runV (As := [.int 1, .int (V355 1 6), .int (-1)]) (rest := []) (ci := 3) (q0 := (72 + go)) hx hb hml hown hg hP hD hK hS hA hnw hgk (x_addNeed3 l D ks H.size ad kk V394 L395 Z 1 (V355 1 6) (-1) (go) hMV394 (show go < 48 from by first | exact om_ed409a757601 hb2 hgh | first | omega | ((try (have i_t392 := Imp.go t392 (by omega))); omega))) w1011 w1012 w1013 w169 w1014 rfl (xgComp hgo) hdV_yX3_addNeed ⟨Nat.le_of_ble_eq_true rfl, Nat.le_of_ble_eq_true rfl⟩ rfl hl.1 rfl (Nat.le_of_ble_eq_true rfl) dX1_readNeed_145 ⟨Nat.le_of_ble_eq_true rfl, Nat.le_of_ble_eq_true rfl⟩) hP hD hK hS hA (fun u408 H locs w409 hP hD hK hS => ?_)
                obtain ⟨V414, L415⟩ := u408
                obtain ⟨hMV414, ajV414, axL415, fyV414, t410, t411, t412, t413⟩ := w409
                have axL415 : L395 = L415 := Eq.symm axL415
                subst axL415
                have hP : va_P D vwCl (xw ad kk V414 L395 Z) H := hP
                have hD : va_D A (xw ad kk V414 L395 Z) := hD
                have hMV414 : rgd bX V414 := hMV414
                have ajV414 : agr [] [49, 58, 59, 60] V394 V414 := ajV414
                have agV414 : agr [(1, 3), (1, 6), (6, 8), (6, 9), (6, 10)] [43, 44, 49, 58, 59, 60] V V414 := agV394.tr ajV414 (by decide) (by decide)
                have t410 : Imp ((V394 49 go).toInt < 8) ((V414 49 go).toInt = (V394 49 go).toInt + 1) := t410
                have t411 : Imp ((V394 49 go).toInt < 8) (V414 58 = upd (V394 58) (8 * go + Int32.toNatClampNeg (V394 49 go)) (V355 1 6)) := t411
                have t412 : Imp ((V394 49 go).toInt < 8) (V414 59 = upd (V394 59) (8 * go + Int32.toNatClampNeg (V394 49 go)) (-1)) := t412
                have t413 : Imp ((V394 49 go).toInt < 8) (V414 60 = upd (V394 60) (8 * go + Int32.toNatClampNeg (V394 49 go)) 1) := t413
                have pq416 : (V394 49 go).toInt = ((V 49 go)).toInt := congrArg Int32.toInt ((ajV394 49 go rfl).trans ((ajV379 49 go rfl).trans ((ajV355 49 go rfl).trans ((ajV345 49 go rfl).trans (ajV18 49 go rfl)))))
                have ng419 : (V394 49 go).toInt < 8 := by (first | exact om_846a176f29bf f5 pq416 | omega)
                have rl417 : RelC V414 L395 b gT (sN (nx (nx (nx (nx gs 1) 1) 1) 1) 1 ((nx (nx (nx (nx gs 1) 1) 1) 1).1 1 + 1)) := RelC.nd rl400 (show (V394 1 2).toInt = ((go : Nat) : Int) from by (first | exact om_adf531c77a0d own pq404 | omega)) ajV414 (by decide) (Imp.go t410 (by (first | exact om_846a176f29bf f5 pq416 | omega)))
                have rl418 : RelC V414 L395 b gT (ndS (nx (nx (nx (nx gs 1) 1) 1) 1) 1 fx358 0) := RelC.nu rl417 ndS_5 rfl
                have cn420 : CNc V394 b gs := CNc.ag cno.1 (show agr [(1, 3), (1, 6), (6, 8), (6, 9), (6, 10)] [] V V394 from (agr.tr (agr.tr (agr.tr (agr.tr (agr.tr agr.rf ajV18 (by decide) (by decide)) ajV345 (by decide) (by decide)) ajV355 (by decide) (by decide)) ajV379 (by decide) (by decide)) ajV394 (by decide) (by decide))) (by decide) keepC.rf
                have cn421 : CNc V394 b (nx (nx (nx (nx gs 1) 1) 1) 1) := CNc.mv cn420 (fun _ _ _ => rfl) (keepC.tr (keepC.tr (keepC.tr (keepC.tr (keepC.rf : keepC gs gs) (keepS.c (keepS.n1 1))) (keepS.c (keepS.n1 1))) (keepS.c (keepS.n1 1))) (keepS.c (keepS.n1 1)))
                have ow422 := (RelC.ow rl400 (show (V394 1 2).toInt = ((go : Nat) : Int) from by (first | exact om_adf531c77a0d own pq404 | omega))).1
                have pn9 : 8 * go + Int32.toNatClampNeg (V394 49 go) = 8 * go + (nx (nx (nx (nx gs 1) 1) 1) 1).1 1 := by have h9 := i_clamp (x := V394 49 go) rfl (by (first | exact om_ac0b685ca4ca r3.1 pq416 | omega)); omega
                have cn423 : CNc V414 b (ndS (nx (nx (nx (nx gs 1) 1) 1) 1) 1 fx358 0) := CNc.nd2 cn421 (by rw [((keepC.tr (keepC.tr (keepC.tr (keepC.tr (keepC.rf : keepC gs gs) (keepS.c (keepS.n1 1))) (keepS.c (keepS.n1 1))) (keepS.c (keepS.n1 1))) (keepS.c (keepS.n1 1)))).2 2 (by decide)]; exact gol) hgl ow422 (by omega) ajV414 (by decide) (fun k hk => fyV414 49 k ⟨by decide, by decide⟩ (show k < go ∨ go + 1 ≤ k from by omega)) (Imp.go t410 ng419) (Imp.go t411 ng419) (Imp.go t412 ng419) (Imp.go t413 ng419) pn9 (show ((V355 1 6)).toInt = ((fx358 : Nat) : Int) from by omega) (show Int32.toInt 1 = (((1 : Int).toNat : Nat) : Int) from by decide) (show Int32.toInt (-1) + 1 = ((0 : Nat) : Int) from by (first | exact om_e2c2be8a8631 r406 | omega)) hb362
                have hr424 : ∀ k, Rc gT (Crun gs (Imember :: k)) (Crun (ndS (nx (nx (nx (nx gs 1) 1) 1) 1) 1 fx358 0) (Imember :: k)) := fun k => Rc.go1 (hr401 k) (m_addNeed 1 fx358 0)
                refine lv_iconst (v := 1) hx hb dX1_readNeed_148 (by decide) ?_
                have pq425 : (V414 1 2).toInt = ((V 1 2)).toInt := congrArg Int32.toInt ((ajV414 1 2 rfl).trans ((ajV394 1 2 rfl).trans ((ajV379 1 2 rfl).trans ((ajV355 1 2 rfl).trans ((ajV345 1 2 rfl).trans (ajV18 1 2 rfl))))))
                have cd426 : CDc V414 b gs := CDc.ag ceo.1 (show agr [(1, 3), (1, 6), (6, 8), (6, 9), (6, 10)] [49, 58, 59, 60] V V414 from (agr.tr (agr.tr (agr.tr (agr.tr (agr.tr (agr.tr agr.rf ajV18 (by decide) (by decide)) ajV345 (by decide) (by decide)) ajV355 (by decide) (by decide)) ajV379 (by decide) (by decide)) ajV394 (by decide) (by decide)) ajV414 (by decide) (by decide))) (fun _ => rfl) (fun _ => rfl)
                have cd427 : CDc V414 b (ndS (nx (nx (nx (nx gs 1) 1) 1) 1) 1 fx358 0) := CDc.mv cd426 (fun j9 h9 => ((show ∀ j9, j9 = 5 ∨ 2000 ≤ j9 → (ndS (nx (nx (nx (nx gs 1) 1) 1) 1) 1 fx358 0).2.1 j9 = (nx (nx (nx (nx gs 1) 1) 1) 1).2.1 j9 from fun j9 h9 => (show ∀ j9, 5 ≤ j9 → (ndS (nx (nx (nx (nx gs 1) 1) 1) 1) 1 fx358 0).2.1 j9 = (nx (nx (nx (nx gs 1) 1) 1) 1).2.1 j9 from fun _ _ => rfl) j9 (by omega)) j9 h9).trans ((fun j9 h9 => ((show ∀ j9, j9 = 5 ∨ 2000 ≤ j9 → (nx (nx (nx (nx gs 1) 1) 1) 1).2.1 j9 = (nx (nx (nx gs 1) 1) 1).2.1 j9 from fun j9 h9 => (show ∀ j9, 5 ≤ j9 → (nx (nx (nx (nx gs 1) 1) 1) 1).2.1 j9 = (nx (nx (nx gs 1) 1) 1).2.1 j9 from fun _ _ => rfl) j9 (by omega)) j9 h9).trans ((fun j9 h9 => ((show ∀ j9, j9 = 5 ∨ 2000 ≤ j9 → (nx (nx (nx gs 1) 1) 1).2.1 j9 = (nx (nx gs 1) 1).2.1 j9 from fun j9 h9 => (show ∀ j9, 5 ≤ j9 → (nx (nx (nx gs 1) 1) 1).2.1 j9 = (nx (nx gs 1) 1).2.1 j9 from fun _ _ => rfl) j9 (by omega)) j9 h9).trans ((fun j9 h9 => ((show ∀ j9, j9 = 5 ∨ 2000 ≤ j9 → (nx (nx gs 1) 1).2.1 j9 = (nx gs 1).2.1 j9 from fun j9 h9 => (show ∀ j9, 5 ≤ j9 → (nx (nx gs 1) 1).2.1 j9 = (nx gs 1).2.1 j9 from fun _ _ => rfl) j9 (by omega)) j9 h9).trans ((show ∀ j9, j9 = 5 ∨ 2000 ≤ j9 → (nx gs 1).2.1 j9 = gs.2.1 j9 from fun j9 h9 => (show ∀ j9, 5 ≤ j9 → (nx gs 1).2.1 j9 = gs.2.1 j9 from fun _ _ => rfl) j9 (by omega)) j9 h9)) j9 h9)) j9 h9)) j9 h9))
                have re428 : REc V414 b gs := REc.ag ceo.2.1 (show agr [(1, 3), (1, 6), (6, 8), (6, 9), (6, 10)] [49, 58, 59, 60] V V414 from (agr.tr (agr.tr (agr.tr (agr.tr (agr.tr (agr.tr agr.rf ajV18 (by decide) (by decide)) ajV345 (by decide) (by decide)) ajV355 (by decide) (by decide)) ajV379 (by decide) (by decide)) ajV394 (by decide) (by decide)) ajV414 (by decide) (by decide))) (fun _ => rfl) (fun _ => rfl) (fun _ => rfl) keepE.rf rfl
                have re429 : REc V414 b (ndS (nx (nx (nx (nx gs 1) 1) 1) 1) 1 fx358 0) := REc.mv re428 (fun _ _ _ _ => rfl) (keepE.tr (keepE.tr (keepE.tr (keepE.tr (keepE.tr (keepE.rf : keepE gs gs) (show keepE gs (nx gs 1) from keepE.eq (show ∀ j9, 5 ≤ j9 → (nx gs 1).2.1 j9 = gs.2.1 j9 from fun _ _ => rfl))) (show keepE (nx gs 1) (nx (nx gs 1) 1) from keepE.eq (show ∀ j9, 5 ≤ j9 → (nx (nx gs 1) 1).2.1 j9 = (nx gs 1).2.1 j9 from fun _ _ => rfl))) (show keepE (nx (nx gs 1) 1) (nx (nx (nx gs 1) 1) 1) from keepE.eq (show ∀ j9, 5 ≤ j9 → (nx (nx (nx gs 1) 1) 1).2.1 j9 = (nx (nx gs 1) 1).2.1 j9 from fun _ _ => rfl))) (show keepE (nx (nx (nx gs 1) 1) 1) (nx (nx (nx (nx gs 1) 1) 1) 1) from keepE.eq (show ∀ j9, 5 ≤ j9 → (nx (nx (nx (nx gs 1) 1) 1) 1).2.1 j9 = (nx (nx (nx gs 1) 1) 1).2.1 j9 from fun _ _ => rfl))) (show keepE (nx (nx (nx (nx gs 1) 1) 1) 1) (ndS (nx (nx (nx (nx gs 1) 1) 1) 1) 1 fx358 0) from keepE.eq (show ∀ j9, 5 ≤ j9 → (ndS (nx (nx (nx (nx gs 1) 1) 1) 1) 1 fx358 0).2.1 j9 = (nx (nx (nx (nx gs 1) 1) 1) 1).2.1 j9 from fun _ _ => rfl))) ((rfl : (ndS (nx (nx (nx (nx gs 1) 1) 1) 1) 1 fx358 0).2.1 2 = (nx (nx (nx (nx gs 1) 1) 1) 1).2.1 2).trans (((show keepS (nx (nx (nx gs 1) 1) 1) 1 (nx (nx (nx (nx gs 1) 1) 1) 1) from (keepS.n1 1)).2.2.1 2 (by decide)).trans (((show keepS (nx (nx gs 1) 1) 1 (nx (nx (nx gs 1) 1) 1) from (keepS.n1 1)).2.2.1 2 (by decide)).trans (((show keepS (nx gs 1) 1 (nx (nx gs 1) 1) from (keepS.n1 1)).2.2.1 2 (by decide)).trans (((show keepS gs 1 (nx gs 1) from (keepS.n1 1)).2.2.1 2 (by decide)).trans (rfl : gs.2.1 2 = gs.2.1 2))))))
                have ww430 : WWc V414 b gs := WWc.ag ceo.2.2.1 (show agr [(1, 3), (1, 6), (6, 8), (6, 9), (6, 10)] [49, 58, 59, 60] V V414 from (agr.tr (agr.tr (agr.tr (agr.tr (agr.tr (agr.tr agr.rf ajV18 (by decide) (by decide)) ajV345 (by decide) (by decide)) ajV355 (by decide) (by decide)) ajV379 (by decide) (by decide)) ajV394 (by decide) (by decide)) ajV414 (by decide) (by decide))) (fun _ => ⟨rfl, rfl, rfl, rfl, rfl⟩) keepE.rf rfl
                have ww431 : WWc V414 b (ndS (nx (nx (nx (nx gs 1) 1) 1) 1) 1 fx358 0) := WWc.mv ww430 (fun _ _ _ _ _ => rfl) (keepE.tr (keepE.tr (keepE.tr (keepE.tr (keepE.tr (keepE.rf : keepE gs gs) (show keepE gs (nx gs 1) from keepE.eq (show ∀ j9, 5 ≤ j9 → (nx gs 1).2.1 j9 = gs.2.1 j9 from fun _ _ => rfl))) (show keepE (nx gs 1) (nx (nx gs 1) 1) from keepE.eq (show ∀ j9, 5 ≤ j9 → (nx (nx gs 1) 1).2.1 j9 = (nx gs 1).2.1 j9 from fun _ _ => rfl))) (show keepE (nx (nx gs 1) 1) (nx (nx (nx gs 1) 1) 1) from keepE.eq (show ∀ j9, 5 ≤ j9 → (nx (nx (nx gs 1) 1) 1).2.1 j9 = (nx (nx gs 1) 1).2.1 j9 from fun _ _ => rfl))) (show keepE (nx (nx (nx gs 1) 1) 1) (nx (nx (nx (nx gs 1) 1) 1) 1) from keepE.eq (show ∀ j9, 5 ≤ j9 → (nx (nx (nx (nx gs 1) 1) 1) 1).2.1 j9 = (nx (nx (nx gs 1) 1) 1).2.1 j9 from fun _ _ => rfl))) (show keepE (nx (nx (nx (nx gs 1) 1) 1) 1) (ndS (nx (nx (nx (nx gs 1) 1) 1) 1) 1 fx358 0) from keepE.eq (show ∀ j9, 5 ≤ j9 → (ndS (nx (nx (nx (nx gs 1) 1) 1) 1) 1 fx358 0).2.1 j9 = (nx (nx (nx (nx gs 1) 1) 1) 1).2.1 j9 from fun _ _ => rfl))) ((rfl : (ndS (nx (nx (nx (nx gs 1) 1) 1) 1) 1 fx358 0).2.2.1 = (nx (nx (nx (nx gs 1) 1) 1) 1).2.2.1).trans ((congrArg (fun q9 : List (Nat × Bool) × List Nat => q9.1) (show keepS (nx (nx (nx gs 1) 1) 1) 1 (nx (nx (nx (nx gs 1) 1) 1) 1) from (keepS.n1 1)).2.2.2).trans ((congrArg (fun q9 : List (Nat × Bool) × List Nat => q9.1) (show keepS (nx (nx gs 1) 1) 1 (nx (nx (nx gs 1) 1) 1) from (keepS.n1 1)).2.2.2).trans ((congrArg (fun q9 : List (Nat × Bool) × List Nat => q9.1) (show keepS (nx gs 1) 1 (nx (nx gs 1) 1) from (keepS.n1 1)).2.2.2).trans ((congrArg (fun q9 : List (Nat × Bool) × List Nat => q9.1) (show keepS gs 1 (nx gs 1) from (keepS.n1 1)).2.2.2).trans (rfl : gs.2.2.1 = gs.2.2.1))))))
                have hwl : wl gs ≤ 2 * gs.1 0 := ceo.2.2.2
                have wk432 : wl (nx gs 1) = wl gs ∧ (nx gs 1).1 0 = gs.1 0 + 1 := ⟨rfl, rfl⟩
                have wk433 : wl (nx (nx gs 1) 1) = wl (nx gs 1) ∧ (nx (nx gs 1) 1).1 0 = (nx gs 1).1 0 + 1 := ⟨rfl, rfl⟩
                have wk434 : wl (nx (nx (nx gs 1) 1) 1) = wl (nx (nx gs 1) 1) ∧ (nx (nx (nx gs 1) 1) 1).1 0 = (nx (nx gs 1) 1).1 0 + 1 := ⟨rfl, rfl⟩
                have wk435 : wl (nx (nx (nx (nx gs 1) 1) 1) 1) = wl (nx (nx (nx gs 1) 1) 1) ∧ (nx (nx (nx (nx gs 1) 1) 1) 1).1 0 = (nx (nx (nx gs 1) 1) 1).1 0 + 1 := ⟨rfl, rfl⟩
                have wk436 : wl (ndS (nx (nx (nx (nx gs 1) 1) 1) 1) 1 fx358 0) = wl (nx (nx (nx (nx gs 1) 1) 1) 1) ∧ (ndS (nx (nx (nx (nx gs 1) 1) 1) 1) 1 fx358 0).1 0 = (nx (nx (nx (nx gs 1) 1) 1) 1).1 0 := ⟨wl_e (show ∀ j9, j9 = 5 ∨ 2000 ≤ j9 → (ndS (nx (nx (nx (nx gs 1) 1) 1) 1) 1 fx358 0).2.1 j9 = (nx (nx (nx (nx gs 1) 1) 1) 1).2.1 j9 from fun j9 h9 => (show ∀ j9, 5 ≤ j9 → (ndS (nx (nx (nx (nx gs 1) 1) 1) 1) 1 fx358 0).2.1 j9 = (nx (nx (nx (nx gs 1) 1) 1) 1).2.1 j9 from fun _ _ => rfl) j9 (by omega)), ndS_5 0 (by decide)⟩
                have ps437 : gs.1 0 + 1 ≤ (nx gs 1).1 0 := ((keepS.n1 1)).1
                have ps438 : (nx gs 1).1 0 + 1 ≤ (nx (nx gs 1) 1).1 0 := ((keepS.n1 1)).1
                have ps439 : (nx (nx gs 1) 1).1 0 + 1 ≤ (nx (nx (nx gs 1) 1) 1).1 0 := ((keepS.n1 1)).1
                have ps440 : (nx (nx (nx gs 1) 1) 1).1 0 + 1 ≤ (nx (nx (nx (nx gs 1) 1) 1) 1).1 0 := ((keepS.n1 1)).1
                have ps441 : (ndS (nx (nx (nx (nx gs 1) 1) 1) 1) 1 fx358 0).1 0 = (nx (nx (nx (nx gs 1) 1) 1) 1).1 0 := ndS_5 0 (by decide)
                have rw442 : ROWL b L L395 := (fun k hk => ((axL395 44 k rfl).trans ((axL380 44 k rfl).trans ((axL346 44 k rfl).trans ((axL19 44 k rfl).trans rfl)))))
                exact W.zret (v := 1) hx hb hr rfl (fun t ht hW => ⟨⟨1, (V414, L395), rfl, ⟨hMV414, agV414, alL395, (by decide), (Or.inl ⟨rfl, (ndS (nx (nx (nx (nx gs 1) 1) 1) 1) 1 fx358 0), hr424, rl418, (by omega), ⟨cn423, (show OWl V414 b (nx (nx (nx (nx gs 1) 1) 1) 1) from OWl.mv cno.2 (show V414 1 2 = V 1 2 from ((ajV414 1 2 rfl).trans ((ajV394 1 2 rfl).trans ((ajV379 1 2 rfl).trans ((ajV355 1 2 rfl).trans ((ajV345 1 2 rfl).trans (ajV18 1 2 rfl))))))) (keepC.tr (keepC.tr (keepC.tr (keepC.tr (keepC.rf : keepC gs gs) (keepS.c (keepS.n1 1))) (keepS.c (keepS.n1 1))) (keepS.c (keepS.n1 1))) (keepS.c (keepS.n1 1))))⟩, ⟨cd427, re429, ww431, (show wl (ndS (nx (nx (nx (nx gs 1) 1) 1) 1) 1 fx358 0) ≤ 2 * (ndS (nx (nx (nx (nx gs 1) 1) 1) 1) 1 fx358 0).1 0 from by omega)⟩⟩), rw442⟩, by rw [ht]; exact hP, va_K.moved hW.alike hK, hD⟩, hS.F ht⟩) hS.2.2 dX1_readNeed_149
              · skip
                have f443 : z389.toInt = 0 := b_eq rfl (by decide) c402
                exfalso; first | exact om_495ee03a60ae q396 f443 | first | omega | ((try (have i_t392 := Imp.go t392 (by omega))); omega)
            · skip
              have hb444 : ∀ k, Rc gT (Crun gs (Imember :: k)) (Cbad (V394 1 3).toInt) := fun k => Rc.go1 (hr387 k) ((tk_n (fun h9 => h397 (rl383.tok.1.symm.trans (h9.trans (by decide))))).trans (fl_eq rl383.tok.2.2 k398))
              refine lv_if_ne (tgt := 138) hx hb dX1_readNeed_133 (by decide) (fun c445 => ?_) (fun c445 => ?_)
              · skip
                have f446 : z389.toInt ≠ 0 := b_neq rfl (by decide) c445
                exfalso; first | exact om_fb320d7600b7 rgz389.1 q396 f446 | first | omega | ((try (have i_t392 := Imp.go t392 (by omega))); omega)
              · skip
                have f447 : z389.toInt = 0 := b_eq rfl (by decide) c445
                refine lv_iconst (v := 0) hx hb dX1_readNeed_136 (by decide) ?_
                have rw448 : ROWL b L L395 := (fun k hk => ((axL395 44 k rfl).trans ((axL380 44 k rfl).trans ((axL346 44 k rfl).trans ((axL19 44 k rfl).trans rfl)))))
                exact W.zret (v := 0) hx hb hr rfl (fun t ht hW => ⟨⟨0, (V394, L395), rfl, ⟨hMV394, agV394, alL395, (by decide), (Or.inr ⟨rfl, hb444⟩), rw448⟩, by rw [ht]; exact hP, va_K.moved hW.alike hK, hD⟩, hS.F ht⟩) hS.2.2 dX1_readNeed_137
          · skip
            have f449 : ((V379 6 9)).toInt = 133 := b_eq rfl (by decide) c384
            refine lv_aload_n hx hb dX1_readNeed_113 rfl (lv_at hl 3 rfl) ?_
            have kd450 : gT.1 ((nx (nx (nx gs 1) 1) 1).1 0) = ((V379 6 9)).toInt := RelC.kd rl383
            have hr451 : ∀ k, Rc gT (Crun gs (Imember :: k)) (Crun (nx (nx (nx (nx gs 1) 1) 1) 1) (Iword 1 fx358 :: k)) := fun k => Rc.go1 (hr368 k) (called_y 1 fx358 (kd450.trans f449))
            have pq452 : (V379 1 1).toInt = ((V 1 1)).toInt := congrArg Int32.toInt ((ajV379 1 1 rfl).trans ((ajV355 1 1 rfl).trans ((ajV345 1 1 rfl).trans (ajV18 1 1 rfl))))
            refine gA_int (gA_runV (As := []) (rest := []) (ci := 1) (q0 := 1) hx hb hml hown hg hP hD hK hS hA hnw hgk (x_takeCalled3 l D ks H.size ad kk V379 L380 Z (b) (gT) ((nx (nx (nx gs 1) 1) 1)) hMV379 (show b < 2 from by (first | exact om_f940a4667dd6 hb2 | omega)) (show (V379 1 1).toInt = (b : Int) from by (first | exact om_adf531c77a0d rbk pq452 | omega)) rl383 (show (V379 6 9).toInt = 133 from by (first | exact om_c98ce90bb990 f449 | omega))) w923 w925 w15 w162 w926 rfl xgReader hdV_yX1_takeCalled ⟨Nat.le_of_ble_eq_true rfl, Nat.le_of_ble_eq_true rfl⟩ rfl hl.1 rfl (Nat.le_of_ble_eq_true rfl) dX1_readNeed_114 ⟨Nat.le_of_ble_eq_true rfl, Nat.le_of_ble_eq_true rfl⟩) hP hD hK hS hA (fun z453 u454 H locs w455 hP hD hK hS => ?_)
            obtain ⟨V458, L459⟩ := u454
            obtain ⟨hMV458, ajV458, axL459, rgz453, t456, t457⟩ := w455
            have alL459 : agL [6, 44] L L459 := agL.tr alL380 axL459 (by decide)
            have hP : va_P D vwCl (xw ad kk V458 L459 Z) H := hP
            have hD : va_D A (xw ad kk V458 L459 Z) := hD
            have hMV458 : rgd bX V458 := hMV458
            have ajV458 : agr [(1, 3), (1, 6), (6, 8), (6, 9), (6, 10)] [43, 44] V379 V458 := ajV458
            have agV458 : agr [(1, 3), (1, 6), (6, 8), (6, 9), (6, 10)] [43, 44, 49, 58, 59, 60] V V458 := agV379.tr ajV458 (by decide) (by decide)
            have rgz453 : 0 ≤ z453.toInt ∧ z453.toInt ≤ 1 := rgz453
            have t456 : KcS (mthW gT (nx (nx (nx (nx gs 1) 1) 1) 1) 4) z453.toInt (V458 1 3).toInt (fun x9 => RelC V458 L459 b gT x9.2 ∧ (V458 1 6).toInt = ((x9.1 : Nat) : Int) ∧ x9.1 < 20 ∧ keepS (nx (nx (nx gs 1) 1) 1) 2 x9.2) := t456
            have t457 : ROWL b L380 L459 := t457
            rcases t456 with ⟨q460, mx461, h462, rl463, hf464, hb465, kp466⟩ | ⟨q460, h462⟩
            · skip
              have hr467 : ∀ k, Rc gT (Crun gs (Imember :: k)) (Crun mx461.2 (Itake 59 :: IaddNeed 1 fx358 (mx461.1 + 1) :: Imember :: k)) := fun k => Rc.go1 (hr451 k) (wo_y h462)
              refine lv_if_ne (tgt := 122) hx hb dX1_readNeed_117 (by decide) (fun c468 => ?_) (fun c468 => ?_)
              · skip
                have f469 : z453.toInt ≠ 0 := b_neq rfl (by decide) c468
                refine lv_aload_n hx hb dX1_readNeed_122 rfl (lv_at hl 3 rfl) ?_
                refine va_get (D := D) (ci := 1) (v := .int (V458 1 6)) (fs := (xfReader ad V458 L459 Z)) (C := RX1) (T := TX1) (N := 9) hx hb hg inX1 hown hK hP 1 xgReader rfl 6 (by decide) (hg _ w310) (fun _ h9 => h9) rfl dX1_readNeed_123 ?_
                have r470 : (-1) ≤ ((V458 1 6)).toInt ∧ ((V458 1 6)).toInt ≤ 23 := hMV458 1 6
                refine lv_istore_n (lv' := [(3, .int (V458 1 6)), (2, .int (V355 1 6)), (1, .int 1), (0, .ref (ad 1))]) hx hb dX1_readNeed_126 rfl hl (by decide) rfl (fun ls hl => ?_)
                refine lv_aload_n hx hb dX1_readNeed_127 rfl (lv_at hl 3 rfl) ?_
                refine lv_bipush (v := 59) hx hb dX1_readNeed_128 (by decide) ?_
                have r471 : Int32.toInt 59 = 59 := by decide
                refine gA_int (gA_runV (As := [.int 59]) (rest := []) (ci := 1) (q0 := 1) hx hb hml hown hg hP hD hK hS hA hnw hgk (x_take2 l D ks H.size ad kk V458 L459 Z 59 ((mx461.2.1 0)) hMV458 (rl463).1 (rl463).2.1.1 (show 1 ≤ (Int32.toInt 59) from by (first | exact om_de934181d724 r471 | omega))) w893 w895 w10 w162 w896 rfl xgReader hdV_yX1_take ⟨Nat.le_of_ble_eq_true rfl, Nat.le_of_ble_eq_true rfl⟩ rfl hl.1 rfl (Nat.le_of_ble_eq_true rfl) dX1_readNeed_130 ⟨Nat.le_of_ble_eq_true rfl, Nat.le_of_ble_eq_true rfl⟩) hP hD hK hS hA (fun z472 u473 H locs w474 hP hD hK hS => ?_)
                obtain ⟨V477, L478⟩ := u473
                obtain ⟨hMV477, ajV477, axL478, rgz472, t475, t476⟩ := w474
                have alL478 : agL [6, 44] L L478 := agL.tr alL459 axL478 (by decide)
                have hP : va_P D vwCl (xw ad kk V477 L478 Z) H := hP
                have hD : va_D A (xw ad kk V477 L478 Z) := hD
                have hMV477 : rgd bX V477 := hMV477
                have ajV477 : agr [(1, 3), (6, 8), (6, 9), (6, 10)] [] V458 V477 := ajV477
                have agV477 : agr [(1, 3), (1, 6), (6, 8), (6, 9), (6, 10)] [43, 44, 49, 58, 59, 60] V V477 := agV458.tr ajV477 (by decide) (by decide)
                have rgz472 : 0 ≤ z472.toInt ∧ z472.toInt ≤ 1 := rgz472
                have t475 : Imp (z472.toInt = 0) (1 ≤ (V477 1 3).toInt) := t475
                have t476 : (z472.toInt = 1 ∧ (V458 12 (mx461.2.1 0)).toInt = (Int32.toInt 59) ∧ CUR V477 L478 ((mx461.2.1 0) + 1) ∧ V477 1 3 = V458 1 3) ∨ (z472.toInt = 0 ∧ (V458 12 (mx461.2.1 0)).toInt ≠ (Int32.toInt 59) ∧ (V477 1 3).toInt = 1 + 16 * (V458 13 (mx461.2.1 0)).toInt) := t476
                rcases t476 with ⟨q479, h480, k481, k482⟩ | ⟨q479, h480, k481⟩
                · skip
                  have rl483 : RelC V477 L478 b gT (nx mx461.2 1) := RelC.nx1 rl463 ajV477 (by decide) axL478 (by decide) k481 k482
                  have hr484 : ∀ k, Rc gT (Crun gs (Imember :: k)) (Crun (nx mx461.2 1) (IaddNeed 1 fx358 (mx461.1 + 1) :: Imember :: k)) := fun k => Rc.go1 (hr467 k) (tk_y (rl463.tok.1.trans (h480.trans (by decide))))
                  refine lv_if_ne (tgt := 138) hx hb dX1_readNeed_133 (by decide) (fun c485 => ?_) (fun c485 => ?_)
                  · skip
                    have f486 : z472.toInt ≠ 0 := b_neq rfl (by decide) c485
                    refine lv_aload_n hx hb dX1_readNeed_138 rfl (lv_at hl 3 rfl) ?_
                    refine va_get (D := D) (ci := 1) (v := rfN ad 72 (V477 1 2)) (fs := (xfReader ad V477 L478 Z)) (C := RX1) (T := TX1) (N := 9) hx hb hg inX1 hown hK hP 1 xgReader rfl 2 (by decide) (hg _ w306) (fun _ h9 => h9) rfl dX1_readNeed_139 ?_
                    have pq487 : (V477 1 2).toInt = ((V 1 2)).toInt := congrArg Int32.toInt ((ajV477 1 2 rfl).trans ((ajV458 1 2 rfl).trans ((ajV379 1 2 rfl).trans ((ajV355 1 2 rfl).trans ((ajV345 1 2 rfl).trans (ajV18 1 2 rfl))))))
                    refine g_topv (v := .ref (ad (72 + go))) (rfN_r (by first | omega | ((try (have i_t475 := Imp.go t475 (by omega))); omega))) ?_
                    refine lv_iload_n hx hb dX1_readNeed_142 rfl (lv_at hl 2 rfl) ?_
                    refine lv_iload_n hx hb dX1_readNeed_143 rfl (lv_at hl 1 rfl) ?_
                    refine lv_iload_n hx hb dX1_readNeed_144 rfl (lv_at hl 0 rfl) ?_
                    have r488 : Int32.toInt 1 = 1 := by decide
                    refine gA_void (gA_runV (As := [.int 1, .int (V355 1 6), .int (V458 1 6)]) (rest := []) (ci := 3) (q0 := (72 + go)) hx hb hml hown hg hP hD hK hS hA hnw hgk (x_addNeed3 l D ks H.size ad kk V477 L478 Z 1 (V355 1 6) (V458 1 6) (go) hMV477 (show go < 48 from by first | exact om_ed409a757601 hb2 hgh | first | omega | ((try (have i_t475 := Imp.go t475 (by omega))); omega))) w1011 w1012 w1013 w169 w1014 rfl (xgComp hgo) hdV_yX3_addNeed ⟨Nat.le_of_ble_eq_true rfl, Nat.le_of_ble_eq_true rfl⟩ rfl hl.1 rfl (Nat.le_of_ble_eq_true rfl) dX1_readNeed_145 ⟨Nat.le_of_ble_eq_true rfl, Nat.le_of_ble_eq_true rfl⟩) hP hD hK hS hA (fun u490 H locs w491 hP hD hK hS => ?_)
                    obtain ⟨V496, L497⟩ := u490
                    obtain ⟨hMV496, ajV496, axL497, fyV496, t492, t493, t494, t495⟩ := w491
                    have axL497 : L478 = L497 := Eq.symm axL497
                    subst axL497
                    have hP : va_P D vwCl (xw ad kk V496 L478 Z) H := hP
                    have hD : va_D A (xw ad kk V496 L478 Z) := hD
                    have hMV496 : rgd bX V496 := hMV496
                    have ajV496 : agr [] [49, 58, 59, 60] V477 V496 := ajV496
                    have agV496 : agr [(1, 3), (1, 6), (6, 8), (6, 9), (6, 10)] [43, 44, 49, 58, 59, 60] V V496 := agV477.tr ajV496 (by decide) (by decide)
                    have t492 : Imp ((V477 49 go).toInt < 8) ((V496 49 go).toInt = (V477 49 go).toInt + 1) := t492
                    have t493 : Imp ((V477 49 go).toInt < 8) (V496 58 = upd (V477 58) (8 * go + Int32.toNatClampNeg (V477 49 go)) (V355 1 6)) := t493
                    have t494 : Imp ((V477 49 go).toInt < 8) (V496 59 = upd (V477 59) (8 * go + Int32.toNatClampNeg (V477 49 go)) (V458 1 6)) := t494
                    have t495 : Imp ((V477 49 go).toInt < 8) (V496 60 = upd (V477 60) (8 * go + Int32.toNatClampNeg (V477 49 go)) 1) := t495
                    have pq498 : (V477 49 go).toInt = ((V 49 go)).toInt := congrArg Int32.toInt ((ajV477 49 go rfl).trans ((ajV458 49 go rfl).trans ((ajV379 49 go rfl).trans ((ajV355 49 go rfl).trans ((ajV345 49 go rfl).trans (ajV18 49 go rfl))))))
                    have ng501 : (V477 49 go).toInt < 8 := by (first | exact om_846a176f29bf f5 pq498 | omega)
                    have rl499 : RelC V496 L478 b gT (sN (nx mx461.2 1) 1 ((nx mx461.2 1).1 1 + 1)) := RelC.nd rl483 (show (V477 1 2).toInt = ((go : Nat) : Int) from by (first | exact om_adf531c77a0d own pq487 | omega)) ajV496 (by decide) (Imp.go t492 (by (first | exact om_846a176f29bf f5 pq498 | omega)))
                    have rl500 : RelC V496 L478 b gT (ndS (nx mx461.2 1) 1 fx358 (mx461.1 + 1)) := RelC.nu rl499 ndS_5 rfl
                    have cn502 : CNc V477 b gs := CNc.ag cno.1 (show agr [(1, 3), (1, 6), (6, 8), (6, 9), (6, 10)] [43, 44] V V477 from (agr.tr (agr.tr (agr.tr (agr.tr (agr.tr (agr.tr agr.rf ajV18 (by decide) (by decide)) ajV345 (by decide) (by decide)) ajV355 (by decide) (by decide)) ajV379 (by decide) (by decide)) ajV458 (by decide) (by decide)) ajV477 (by decide) (by decide))) (by decide) keepC.rf
                    have cn503 : CNc V477 b (nx mx461.2 1) := CNc.mv cn502 (fun _ _ _ => rfl) (keepC.tr (keepC.tr (keepC.tr (keepC.tr (keepC.tr (keepC.rf : keepC gs gs) (keepS.c (keepS.n1 1))) (keepS.c (keepS.n1 1))) (keepS.c (keepS.n1 1))) (keepS.c kp466)) (keepS.c (keepS.n1 1)))
                    have ow504 := (RelC.ow rl483 (show (V477 1 2).toInt = ((go : Nat) : Int) from by (first | exact om_adf531c77a0d own pq487 | omega))).1
                    have pn9 : 8 * go + Int32.toNatClampNeg (V477 49 go) = 8 * go + (nx mx461.2 1).1 1 := by have h9 := i_clamp (x := V477 49 go) rfl (by (first | exact om_ac0b685ca4ca r3.1 pq498 | omega)); omega
                    have cn505 : CNc V496 b (ndS (nx mx461.2 1) 1 fx358 (mx461.1 + 1)) := CNc.nd2 cn503 (by rw [((keepC.tr (keepC.tr (keepC.tr (keepC.tr (keepC.tr (keepC.rf : keepC gs gs) (keepS.c (keepS.n1 1))) (keepS.c (keepS.n1 1))) (keepS.c (keepS.n1 1))) (keepS.c kp466)) (keepS.c (keepS.n1 1)))).2 2 (by decide)]; exact gol) hgl ow504 (by omega) ajV496 (by decide) (fun k hk => fyV496 49 k ⟨by decide, by decide⟩ (show k < go ∨ go + 1 ≤ k from by omega)) (Imp.go t492 ng501) (Imp.go t493 ng501) (Imp.go t494 ng501) (Imp.go t495 ng501) pn9 (show ((V355 1 6)).toInt = ((fx358 : Nat) : Int) from by omega) (show Int32.toInt 1 = (((1 : Int).toNat : Nat) : Int) from by decide) (show ((V458 1 6)).toInt + 1 = (((mx461.1 + 1) : Nat) : Int) from by omega) hb362
                    have hr506 : ∀ k, Rc gT (Crun gs (Imember :: k)) (Crun (ndS (nx mx461.2 1) 1 fx358 (mx461.1 + 1)) (Imember :: k)) := fun k => Rc.go1 (hr484 k) (m_addNeed 1 fx358 (mx461.1 + 1))
                    refine lv_iconst (v := 1) hx hb dX1_readNeed_148 (by decide) ?_
                    have pq507 : (V496 1 2).toInt = ((V 1 2)).toInt := congrArg Int32.toInt ((ajV496 1 2 rfl).trans ((ajV477 1 2 rfl).trans ((ajV458 1 2 rfl).trans ((ajV379 1 2 rfl).trans ((ajV355 1 2 rfl).trans ((ajV345 1 2 rfl).trans (ajV18 1 2 rfl)))))))
                    have cd508 : CDc V496 b gs := CDc.ag ceo.1 (show agr [(1, 3), (1, 6), (6, 8), (6, 9), (6, 10)] [43, 44, 49, 58, 59, 60] V V496 from (agr.tr (agr.tr (agr.tr (agr.tr (agr.tr (agr.tr (agr.tr agr.rf ajV18 (by decide) (by decide)) ajV345 (by decide) (by decide)) ajV355 (by decide) (by decide)) ajV379 (by decide) (by decide)) ajV458 (by decide) (by decide)) ajV477 (by decide) (by decide)) ajV496 (by decide) (by decide))) (fun _ => rfl) (fun _ => rfl)
                    have cd509 : CDc V496 b (ndS (nx mx461.2 1) 1 fx358 (mx461.1 + 1)) := CDc.mv cd508 (fun j9 h9 => ((show ∀ j9, j9 = 5 ∨ 2000 ≤ j9 → (ndS (nx mx461.2 1) 1 fx358 (mx461.1 + 1)).2.1 j9 = (nx mx461.2 1).2.1 j9 from fun j9 h9 => (show ∀ j9, 5 ≤ j9 → (ndS (nx mx461.2 1) 1 fx358 (mx461.1 + 1)).2.1 j9 = (nx mx461.2 1).2.1 j9 from fun _ _ => rfl) j9 (by omega)) j9 h9).trans ((fun j9 h9 => ((show ∀ j9, j9 = 5 ∨ 2000 ≤ j9 → (nx mx461.2 1).2.1 j9 = mx461.2.2.1 j9 from fun j9 h9 => (show ∀ j9, 5 ≤ j9 → (nx mx461.2 1).2.1 j9 = mx461.2.2.1 j9 from fun _ _ => rfl) j9 (by omega)) j9 h9).trans ((fun j9 h9 => ((show ∀ j9, j9 = 5 ∨ 2000 ≤ j9 → mx461.2.2.1 j9 = (nx (nx (nx gs 1) 1) 1).2.1 j9 from fun j9 h9 => (show ∀ j9, 5 ≤ j9 → mx461.2.2.1 j9 = (nx (nx (nx gs 1) 1) 1).2.1 j9 from (fun j8 h8 => mth_e (s := nx (nx (nx (nx gs 1) 1) 1) 1) (j0 := 4) (by decide) h462 j8 h8)) j9 (by omega)) j9 h9).trans ((fun j9 h9 => ((show ∀ j9, j9 = 5 ∨ 2000 ≤ j9 → (nx (nx (nx gs 1) 1) 1).2.1 j9 = (nx (nx gs 1) 1).2.1 j9 from fun j9 h9 => (show ∀ j9, 5 ≤ j9 → (nx (nx (nx gs 1) 1) 1).2.1 j9 = (nx (nx gs 1) 1).2.1 j9 from fun _ _ => rfl) j9 (by omega)) j9 h9).trans ((fun j9 h9 => ((show ∀ j9, j9 = 5 ∨ 2000 ≤ j9 → (nx (nx gs 1) 1).2.1 j9 = (nx gs 1).2.1 j9 from fun j9 h9 => (show ∀ j9, 5 ≤ j9 → (nx (nx gs 1) 1).2.1 j9 = (nx gs 1).2.1 j9 from fun _ _ => rfl) j9 (by omega)) j9 h9).trans ((show ∀ j9, j9 = 5 ∨ 2000 ≤ j9 → (nx gs 1).2.1 j9 = gs.2.1 j9 from fun j9 h9 => (show ∀ j9, 5 ≤ j9 → (nx gs 1).2.1 j9 = gs.2.1 j9 from fun _ _ => rfl) j9 (by omega)) j9 h9)) j9 h9)) j9 h9)) j9 h9)) j9 h9))
                    have re510 : REc V496 b gs := REc.ag ceo.2.1 (show agr [(1, 3), (1, 6), (6, 8), (6, 9), (6, 10)] [43, 44, 49, 58, 59, 60] V V496 from (agr.tr (agr.tr (agr.tr (agr.tr (agr.tr (agr.tr (agr.tr agr.rf ajV18 (by decide) (by decide)) ajV345 (by decide) (by decide)) ajV355 (by decide) (by decide)) ajV379 (by decide) (by decide)) ajV458 (by decide) (by decide)) ajV477 (by decide) (by decide)) ajV496 (by decide) (by decide))) (fun _ => rfl) (fun _ => rfl) (fun _ => rfl) keepE.rf rfl
                    have re511 : REc V496 b (ndS (nx mx461.2 1) 1 fx358 (mx461.1 + 1)) := REc.mv re510 (fun _ _ _ _ => rfl) (keepE.tr (keepE.tr (keepE.tr (keepE.tr (keepE.tr (keepE.tr (keepE.rf : keepE gs gs) (show keepE gs (nx gs 1) from keepE.eq (show ∀ j9, 5 ≤ j9 → (nx gs 1).2.1 j9 = gs.2.1 j9 from fun _ _ => rfl))) (show keepE (nx gs 1) (nx (nx gs 1) 1) from keepE.eq (show ∀ j9, 5 ≤ j9 → (nx (nx gs 1) 1).2.1 j9 = (nx gs 1).2.1 j9 from fun _ _ => rfl))) (show keepE (nx (nx gs 1) 1) (nx (nx (nx gs 1) 1) 1) from keepE.eq (show ∀ j9, 5 ≤ j9 → (nx (nx (nx gs 1) 1) 1).2.1 j9 = (nx (nx gs 1) 1).2.1 j9 from fun _ _ => rfl))) (show keepE (nx (nx (nx gs 1) 1) 1) mx461.2 from keepE.eq (show ∀ j9, 5 ≤ j9 → mx461.2.2.1 j9 = (nx (nx (nx gs 1) 1) 1).2.1 j9 from (fun j8 h8 => mth_e (s := nx (nx (nx (nx gs 1) 1) 1) 1) (j0 := 4) (by decide) h462 j8 h8)))) (show keepE mx461.2 (nx mx461.2 1) from keepE.eq (show ∀ j9, 5 ≤ j9 → (nx mx461.2 1).2.1 j9 = mx461.2.2.1 j9 from fun _ _ => rfl))) (show keepE (nx mx461.2 1) (ndS (nx mx461.2 1) 1 fx358 (mx461.1 + 1)) from keepE.eq (show ∀ j9, 5 ≤ j9 → (ndS (nx mx461.2 1) 1 fx358 (mx461.1 + 1)).2.1 j9 = (nx mx461.2 1).2.1 j9 from fun _ _ => rfl))) ((rfl : (ndS (nx mx461.2 1) 1 fx358 (mx461.1 + 1)).2.1 2 = (nx mx461.2 1).2.1 2).trans (((show keepS mx461.2 1 (nx mx461.2 1) from (keepS.n1 1)).2.2.1 2 (by decide)).trans (((show keepS (nx (nx (nx gs 1) 1) 1) 2 mx461.2 from kp466).2.2.1 2 (by decide)).trans (((show keepS (nx (nx gs 1) 1) 1 (nx (nx (nx gs 1) 1) 1) from (keepS.n1 1)).2.2.1 2 (by decide)).trans (((show keepS (nx gs 1) 1 (nx (nx gs 1) 1) from (keepS.n1 1)).2.2.1 2 (by decide)).trans (((show keepS gs 1 (nx gs 1) from (keepS.n1 1)).2.2.1 2 (by decide)).trans (rfl : gs.2.1 2 = gs.2.1 2)))))))
                    have ww512 : WWc V496 b gs := WWc.ag ceo.2.2.1 (show agr [(1, 3), (1, 6), (6, 8), (6, 9), (6, 10)] [43, 44, 49, 58, 59, 60] V V496 from (agr.tr (agr.tr (agr.tr (agr.tr (agr.tr (agr.tr (agr.tr agr.rf ajV18 (by decide) (by decide)) ajV345 (by decide) (by decide)) ajV355 (by decide) (by decide)) ajV379 (by decide) (by decide)) ajV458 (by decide) (by decide)) ajV477 (by decide) (by decide)) ajV496 (by decide) (by decide))) (fun _ => ⟨rfl, rfl, rfl, rfl, rfl⟩) keepE.rf rfl
                    have ww513 : WWc V496 b (ndS (nx mx461.2 1) 1 fx358 (mx461.1 + 1)) := WWc.mv ww512 (fun _ _ _ _ _ => rfl) (keepE.tr (keepE.tr (keepE.tr (keepE.tr (keepE.tr (keepE.tr (keepE.rf : keepE gs gs) (show keepE gs (nx gs 1) from keepE.eq (show ∀ j9, 5 ≤ j9 → (nx gs 1).2.1 j9 = gs.2.1 j9 from fun _ _ => rfl))) (show keepE (nx gs 1) (nx (nx gs 1) 1) from keepE.eq (show ∀ j9, 5 ≤ j9 → (nx (nx gs 1) 1).2.1 j9 = (nx gs 1).2.1 j9 from fun _ _ => rfl))) (show keepE (nx (nx gs 1) 1) (nx (nx (nx gs 1) 1) 1) from keepE.eq (show ∀ j9, 5 ≤ j9 → (nx (nx (nx gs 1) 1) 1).2.1 j9 = (nx (nx gs 1) 1).2.1 j9 from fun _ _ => rfl))) (show keepE (nx (nx (nx gs 1) 1) 1) mx461.2 from keepE.eq (show ∀ j9, 5 ≤ j9 → mx461.2.2.1 j9 = (nx (nx (nx gs 1) 1) 1).2.1 j9 from (fun j8 h8 => mth_e (s := nx (nx (nx (nx gs 1) 1) 1) 1) (j0 := 4) (by decide) h462 j8 h8)))) (show keepE mx461.2 (nx mx461.2 1) from keepE.eq (show ∀ j9, 5 ≤ j9 → (nx mx461.2 1).2.1 j9 = mx461.2.2.1 j9 from fun _ _ => rfl))) (show keepE (nx mx461.2 1) (ndS (nx mx461.2 1) 1 fx358 (mx461.1 + 1)) from keepE.eq (show ∀ j9, 5 ≤ j9 → (ndS (nx mx461.2 1) 1 fx358 (mx461.1 + 1)).2.1 j9 = (nx mx461.2 1).2.1 j9 from fun _ _ => rfl))) ((rfl : (ndS (nx mx461.2 1) 1 fx358 (mx461.1 + 1)).2.2.1 = (nx mx461.2 1).2.2.1).trans ((congrArg (fun q9 : List (Nat × Bool) × List Nat => q9.1) (show keepS mx461.2 1 (nx mx461.2 1) from (keepS.n1 1)).2.2.2).trans ((congrArg (fun q9 : List (Nat × Bool) × List Nat => q9.1) (show keepS (nx (nx (nx gs 1) 1) 1) 2 mx461.2 from kp466).2.2.2).trans ((congrArg (fun q9 : List (Nat × Bool) × List Nat => q9.1) (show keepS (nx (nx gs 1) 1) 1 (nx (nx (nx gs 1) 1) 1) from (keepS.n1 1)).2.2.2).trans ((congrArg (fun q9 : List (Nat × Bool) × List Nat => q9.1) (show keepS (nx gs 1) 1 (nx (nx gs 1) 1) from (keepS.n1 1)).2.2.2).trans ((congrArg (fun q9 : List (Nat × Bool) × List Nat => q9.1) (show keepS gs 1 (nx gs 1) from (keepS.n1 1)).2.2.2).trans (rfl : gs.2.2.1 = gs.2.2.1)))))))
                    have hwl : wl gs ≤ 2 * gs.1 0 := ceo.2.2.2
                    have wk514 : wl (nx gs 1) = wl gs ∧ (nx gs 1).1 0 = gs.1 0 + 1 := ⟨rfl, rfl⟩
                    have wk515 : wl (nx (nx gs 1) 1) = wl (nx gs 1) ∧ (nx (nx gs 1) 1).1 0 = (nx gs 1).1 0 + 1 := ⟨rfl, rfl⟩
                    have wk516 : wl (nx (nx (nx gs 1) 1) 1) = wl (nx (nx gs 1) 1) ∧ (nx (nx (nx gs 1) 1) 1).1 0 = (nx (nx gs 1) 1).1 0 + 1 := ⟨rfl, rfl⟩
                    have wk517 : wl mx461.2 = wl (nx (nx (nx gs 1) 1) 1) ∧ (nx (nx (nx gs 1) 1) 1).1 0 + 1 ≤ mx461.2.1 0 := ⟨wl_e (show ∀ j9, j9 = 5 ∨ 2000 ≤ j9 → mx461.2.2.1 j9 = (nx (nx (nx gs 1) 1) 1).2.1 j9 from fun j9 h9 => (show ∀ j9, 5 ≤ j9 → mx461.2.2.1 j9 = (nx (nx (nx gs 1) 1) 1).2.1 j9 from (fun j8 h8 => mth_e (s := nx (nx (nx (nx gs 1) 1) 1) 1) (j0 := 4) (by decide) h462 j8 h8)) j9 (by omega)), (keepS.le kp466 (by decide)).1⟩
                    have wk518 : wl (nx mx461.2 1) = wl mx461.2 ∧ (nx mx461.2 1).1 0 = mx461.2.1 0 + 1 := ⟨rfl, rfl⟩
                    have wk519 : wl (ndS (nx mx461.2 1) 1 fx358 (mx461.1 + 1)) = wl (nx mx461.2 1) ∧ (ndS (nx mx461.2 1) 1 fx358 (mx461.1 + 1)).1 0 = (nx mx461.2 1).1 0 := ⟨wl_e (show ∀ j9, j9 = 5 ∨ 2000 ≤ j9 → (ndS (nx mx461.2 1) 1 fx358 (mx461.1 + 1)).2.1 j9 = (nx mx461.2 1).2.1 j9 from fun j9 h9 => (show ∀ j9, 5 ≤ j9 → (ndS (nx mx461.2 1) 1 fx358 (mx461.1 + 1)).2.1 j9 = (nx mx461.2 1).2.1 j9 from fun _ _ => rfl) j9 (by omega)), ndS_5 0 (by decide)⟩
                    have ps520 : gs.1 0 + 1 ≤ (nx gs 1).1 0 := ((keepS.n1 1)).1
                    have ps521 : (nx gs 1).1 0 + 1 ≤ (nx (nx gs 1) 1).1 0 := ((keepS.n1 1)).1
                    have ps522 : (nx (nx gs 1) 1).1 0 + 1 ≤ (nx (nx (nx gs 1) 1) 1).1 0 := ((keepS.n1 1)).1
                    have ps523 : (nx (nx (nx gs 1) 1) 1).1 0 + 2 ≤ mx461.2.1 0 := (kp466).1
                    have ps524 : mx461.2.1 0 + 1 ≤ (nx mx461.2 1).1 0 := ((keepS.n1 1)).1
                    have ps525 : (ndS (nx mx461.2 1) 1 fx358 (mx461.1 + 1)).1 0 = (nx mx461.2 1).1 0 := ndS_5 0 (by decide)
                    have rw526 : ROWL b L L478 := (fun k hk => ((axL478 44 k rfl).trans ((t457 k hk).trans ((axL380 44 k rfl).trans ((axL346 44 k rfl).trans ((axL19 44 k rfl).trans rfl))))))
                    exact W.zret (v := 1) hx hb hr rfl (fun t ht hW => ⟨⟨1, (V496, L478), rfl, ⟨hMV496, agV496, alL478, (by decide), (Or.inl ⟨rfl, (ndS (nx mx461.2 1) 1 fx358 (mx461.1 + 1)), hr506, rl500, (by omega), ⟨cn505, (show OWl V496 b (nx mx461.2 1) from OWl.mv cno.2 (show V496 1 2 = V 1 2 from ((ajV496 1 2 rfl).trans ((ajV477 1 2 rfl).trans ((ajV458 1 2 rfl).trans ((ajV379 1 2 rfl).trans ((ajV355 1 2 rfl).trans ((ajV345 1 2 rfl).trans (ajV18 1 2 rfl)))))))) (keepC.tr (keepC.tr (keepC.tr (keepC.tr (keepC.tr (keepC.rf : keepC gs gs) (keepS.c (keepS.n1 1))) (keepS.c (keepS.n1 1))) (keepS.c (keepS.n1 1))) (keepS.c kp466)) (keepS.c (keepS.n1 1))))⟩, ⟨cd509, re511, ww513, (show wl (ndS (nx mx461.2 1) 1 fx358 (mx461.1 + 1)) ≤ 2 * (ndS (nx mx461.2 1) 1 fx358 (mx461.1 + 1)).1 0 from by omega)⟩⟩), rw526⟩, by rw [ht]; exact hP, va_K.moved hW.alike hK, hD⟩, hS.F ht⟩) hS.2.2 dX1_readNeed_149
                  · skip
                    have f527 : z472.toInt = 0 := b_eq rfl (by decide) c485
                    exfalso; first | exact om_495ee03a60ae q479 f527 | first | omega | ((try (have i_t475 := Imp.go t475 (by omega))); omega)
                · skip
                  have hb528 : ∀ k, Rc gT (Crun gs (Imember :: k)) (Cbad (V477 1 3).toInt) := fun k => Rc.go1 (hr467 k) ((tk_n (fun h9 => h480 (rl463.tok.1.symm.trans (h9.trans (by decide))))).trans (fl_eq rl463.tok.2.2 k481))
                  refine lv_if_ne (tgt := 138) hx hb dX1_readNeed_133 (by decide) (fun c529 => ?_) (fun c529 => ?_)
                  · skip
                    have f530 : z472.toInt ≠ 0 := b_neq rfl (by decide) c529
                    exfalso; first | exact om_fb320d7600b7 rgz472.1 q479 f530 | first | omega | ((try (have i_t475 := Imp.go t475 (by omega))); omega)
                  · skip
                    have f531 : z472.toInt = 0 := b_eq rfl (by decide) c529
                    refine lv_iconst (v := 0) hx hb dX1_readNeed_136 (by decide) ?_
                    have rw532 : ROWL b L L478 := (fun k hk => ((axL478 44 k rfl).trans ((t457 k hk).trans ((axL380 44 k rfl).trans ((axL346 44 k rfl).trans ((axL19 44 k rfl).trans rfl))))))
                    exact W.zret (v := 0) hx hb hr rfl (fun t ht hW => ⟨⟨0, (V477, L478), rfl, ⟨hMV477, agV477, alL478, (by decide), (Or.inr ⟨rfl, hb528⟩), rw532⟩, by rw [ht]; exact hP, va_K.moved hW.alike hK, hD⟩, hS.F ht⟩) hS.2.2 dX1_readNeed_137
              · skip
                have f533 : z453.toInt = 0 := b_eq rfl (by decide) c468
                exfalso; omega
            · skip
              have hb534 : ∀ k, Rc gT (Crun gs (Imember :: k)) (Cbad (V458 1 3).toInt) := fun k => Rc.go1 (hr451 k) (wo_b h462)
              refine lv_if_ne (tgt := 122) hx hb dX1_readNeed_117 (by decide) (fun c535 => ?_) (fun c535 => ?_)
              · skip
                have f536 : z453.toInt ≠ 0 := b_neq rfl (by decide) c535
                exfalso; omega
              · skip
                have f537 : z453.toInt = 0 := b_eq rfl (by decide) c535
                refine lv_iconst (v := 0) hx hb dX1_readNeed_120 (by decide) ?_
                have rw538 : ROWL b L L459 := (fun k hk => ((t457 k hk).trans ((axL380 44 k rfl).trans ((axL346 44 k rfl).trans ((axL19 44 k rfl).trans rfl)))))
                exact W.zret (v := 0) hx hb hr rfl (fun t ht hW => ⟨⟨0, (V458, L459), rfl, ⟨hMV458, agV458, alL459, (by decide), (Or.inr ⟨rfl, hb534⟩), rw538⟩, by rw [ht]; exact hP, va_K.moved hW.alike hK, hD⟩, hS.F ht⟩) hS.2.2 dX1_readNeed_121
        · skip
          have f539 : z351.toInt = 0 := b_eq rfl (by decide) c365
          exfalso; omega
      · skip
        have hb540 : ∀ k, Rc gT (Crun gs (Imember :: k)) (Cbad (V355 1 3).toInt) := fun k => Rc.go1 (hr337 k) (nd_b h359)
        refine lv_if_ne (tgt := 81) hx hb dX1_readNeed_76 (by decide) (fun c541 => ?_) (fun c541 => ?_)
        · skip
          have f542 : z351.toInt ≠ 0 := b_neq rfl (by decide) c541
          exfalso; omega
        · skip
          have f543 : z351.toInt = 0 := b_eq rfl (by decide) c541
          refine lv_iconst (v := 0) hx hb dX1_readNeed_79 (by decide) ?_
          have rw544 : ROWL b L L346 := (fun k hk => ((axL346 44 k rfl).trans ((axL19 44 k rfl).trans rfl)))
          exact W.zret (v := 0) hx hb hr rfl (fun t ht hW => ⟨⟨0, (V355, L346), rfl, ⟨hMV355, agV355, alL346, (by decide), (Or.inr ⟨rfl, hb540⟩), rw544⟩, by rw [ht]; exact hP, va_K.moved hW.alike hK, hD⟩, hS.F ht⟩) hS.2.2 dX1_readNeed_80
  · skip
    have f545 : 8 ≤ ((V 49 go)).toInt := b_nlt rfl (by decide) c4
    refine lv_aload_n hx hb dX1_readNeed_12 rfl (lv_at hl 0 rfl) ?_
    refine lv_iconst (v := 5) hx hb dX1_readNeed_13 (by decide) ?_
    have kd546 : gT.1 (gs.1 0) = ((V 6 9)).toInt := RelC.kd rel
    have r547 : Int32.toInt 5 = 5 := by decide
    refine gA_int (gA_runV (As := [.int 5]) (rest := []) (ci := 1) (q0 := 1) hx hb hml hown hg hP hD hK hS hA hnw hgk (x_wrong2 l D ks H.size ad kk V L Z 5 hMV (by decide)) w867 w869 w6 w162 w870 rfl xgReader hdV_yX1_wrong ⟨Nat.le_of_ble_eq_true rfl, Nat.le_of_ble_eq_true rfl⟩ rfl hl.1 rfl (Nat.le_of_ble_eq_true rfl) dX1_readNeed_14 ⟨Nat.le_of_ble_eq_true rfl, Nat.le_of_ble_eq_true rfl⟩) hP hD hK hS hA (fun z548 u549 H locs w550 hP hD hK hS => ?_)
    obtain ⟨V553, L554⟩ := u549
    obtain ⟨hMV553, ajV553, axL554, rgz548, t551, t552⟩ := w550
    have axL554 : L = L554 := Eq.symm axL554
    subst axL554
    have hP : va_P D vwCl (xw ad kk V553 L Z) H := hP
    have hD : va_D A (xw ad kk V553 L Z) := hD
    have hMV553 : rgd bX V553 := hMV553
    have ajV553 : agr [(1, 3)] [] V V553 := ajV553
    have agV553 : agr [(1, 3), (1, 6), (6, 8), (6, 9), (6, 10)] [43, 44, 49, 58, 59, 60] V V553 := agV.tr ajV553 (by decide) (by decide)
    have rgz548 : 0 ≤ z548.toInt ∧ z548.toInt ≤ 0 := rgz548
    have t551 : 1 ≤ (V553 1 3).toInt := t551
    have t552 : (V553 1 3).toInt = (Int32.toInt 5) + 16 * (V 6 10).toInt := t552
    have r555 : 0 ≤ ((V 6 10)).toInt ∧ ((V 6 10)).toInt ≤ 4000 := hMV 6 10
    have hr556 : ∀ k, Rc gT (Crun gs (Imember :: k)) (Crun gs (Imember :: k)) := fun k => Rc.rf
    have hb557 : ∀ k, Rc gT (Crun gs (Imember :: k)) (Cbad (V553 1 3).toInt) := fun k => Rc.go1 (hr556 k) ((mb_137f (kd546.trans kd9) (by have h9 := ow0.1; omega)).trans (fl_eq (RelC.st rel) (show (V553 1 3).toInt = 5 + 16 * (V 6 10).toInt from by (first | exact om_fd8d4a8321fd r547 t552 | omega))))
    have rw558 : ROWL b L L := (fun k hk => rfl)
    exact W.zret (v := z548) hx hb hr (nb_ok (by omega)) (fun t ht hW => ⟨⟨z548, (V553, L), rfl, ⟨hMV553, agV553, alL, (show 0 ≤ z548.toInt ∧ z548.toInt ≤ 1 from by (first | exact om_641b3f05f166 rgz548.1 rgz548.2 | omega)), (Or.inr ⟨(by omega), hb557⟩), rw558⟩, by rw [ht]; exact hP, va_K.moved hW.alike hK, hD⟩, hS.F ht⟩) hS.2.2 dX1_readNeed_17
abbrev r_x_readMethod3 : Room := { frames := 91, cells := 0, slots := 0, locals := 2683 }
abbrev q_x_readMethod3 (D : va_G) (ks : KS) (ad : Nat → Nat) (kk : Nat → ClassId) (V : Vf) (L : Lf) (Z : XZ) (b : Nat) (gT : Tk) (gs : St) (go : Nat) (A : Nat → Prop) : Array Value → State → Outcome → State → Prop := va_Qi (fun (r : Int32) (u : Vf × Lf) => rgd bX u.1 ∧ agr [(1, 3), (1, 4), (1, 6), (1, 8), (6, 8), (6, 9), (6, 10)] [42, 43, 44, 48, 61] V u.1 ∧ agL [6, 44] L u.2 ∧ (0 ≤ r.toInt ∧ r.toInt ≤ 1) ∧ (Rd gT gs (fun k => Imember :: k) (fun k => Imember :: k) r.toInt (u.1 1 3).toInt (fun s9 => RelC u.1 u.2 b gT s9 ∧ gs.1 0 + 1 ≤ s9.1 0 ∧ CNo u.1 b s9 ∧ CEo u.1 b s9)) ∧ (ROWL b L u.2)) (fun u t => gq D A (xw ad kk u.1 u.2 Z) (xty kk Z) t) A
set_option maxHeartbeats 4000000 in
set_option maxRecDepth 100000 in
theorem x_readMethod3 (l : Launch) (D : va_G) (ks : KS) (sz : Nat) (ad : Nat → Nat) (kk : Nat → ClassId) (V : Vf) (L : Lf) (Z : XZ) (b : Nat) (gT : Tk) (gs : St) (go : Nat) (hMV : rgd bX V) (hb2 : b < 2) (rbk : (V 1 1).toInt = (b : Int)) (own : (V 1 2).toInt = (go : Int)) (hgo : go < 48) (hgl : 24 * b ≤ go) (hgh : go < 24 * b + 24) (rel : RelC V L b gT gs) (cno : CNo V b gs) (ceo : CEo V b gs) (kd9 : (V 6 9).toInt = 142)  : Met l yX1_readMethod (Cond.code yX1_readMethod cX1_readMethod 2 (some .boolean) :: GW) r_x_readMethod3 (va_Pc [.ref (ad 1)] (gp D ks (xw ad kk V L Z) (xty kk Z) sz)) (q_x_readMethod3 D ks ad kk V L Z  b gT gs go (va_A (xw ad kk V L Z) sz)) 0 0 (va_A (xw ad kk V L Z) sz) := by
  refine g_met (q_x_readMethod3 D ks ad kk V L Z  b gT gs go) (by decide) (Nat.le_of_ble_eq_true rfl) ?_
  intro p e s m below meth c A ls H locs hx hb hr hml hown hg hlocks hin hnw hgk hP hK hD hS hA hl
  have hown : s.vm.findClass RX1 = some m.cls := hown
  have hl : lv_has ls 2 [(0, .ref (ad 1))] := hl
  have hP : va_P D vwCl (xw ad kk V L Z) H := hP
  have hD : va_D A (xw ad kk V L Z) := hD
  have hK : va_K D vwCl (xty kk Z) s := hK
  have agV : agr [(1, 3), (1, 4), (1, 6), (1, 8), (6, 8), (6, 9), (6, 10)] [42, 43, 44, 48, 61] V V := agr.rf
  have alL : agL [6, 44] L L := agL.rf
  have r1 : (-1) ≤ ((V 1 1)).toInt ∧ ((V 1 1)).toInt ≤ 1 := hMV 1 1
  have r2 : (-1) ≤ ((V 1 2)).toInt ∧ ((V 1 2)).toInt ≤ 47 := hMV 1 2
  have gol : go + 1 = 24 * b + (gs.2.1 2).length := by have h9 := cno.2 (by omega); omega
  refine lv_aload_n hx hb dX1_readMethod_0 rfl (lv_at hl 0 rfl) ?_
  refine va_get (D := D) (ci := 1) (v := rfN ad 38 (V 1 1)) (fs := (xfReader ad V L Z)) (C := RX1) (T := TX1) (N := 9) hx hb hg inX1 hown hK hP 1 xgReader rfl 1 (by decide) (hg _ w305) (fun _ h9 => h9) rfl dX1_readMethod_1 ?_
  refine g_topv (v := .ref (ad (38 + b))) (rfN_r (by omega)) ?_
  refine va_getN (D := D) (ci := 0) (v := .int (V 42 b)) (fs := (xfBook ad V b)) (C := RX0) (T := TX0) (N := 13) hx hb hg inX0 hown hK hP (38 + b) (xgBook hb2) rfl 12 (by decide) (hnw.use 630 n630 rfl) (fun _ h9 => h9) rfl dX1_readMethod_4 ?_
  have r3 : 0 ≤ ((V 42 b)).toInt ∧ ((V 42 b)).toInt ≤ 8200 := hMV 42 b
  refine lv_istore_n (lv' := [(1, .int (V 42 b)), (0, .ref (ad 1))]) hx hb dX1_readMethod_7 rfl hl (by decide) rfl (fun ls hl => ?_)
  refine lv_aload_n hx hb dX1_readMethod_8 rfl (lv_at hl 1 rfl) ?_
  refine va_get (D := D) (ci := 1) (v := .ref (ad 6)) (fs := (xfReader ad V L Z)) (C := RX1) (T := TX1) (N := 9) hx hb hg inX1 hown hK hP 1 xgReader rfl 0 (by decide) (hg _ w304) (fun _ h9 => h9) rfl dX1_readMethod_9 ?_
  have hr4 : ∀ k, Rc gT (Crun gs (Imember :: k)) (Crun gs (Imember :: k)) := fun k => Rc.rf
  have kd5 : gT.1 (gs.1 0) = ((V 6 9)).toInt := RelC.kd rel
  have hr6 : ∀ k, Rc gT (Crun gs (Imember :: k)) (Crun (nx gs 1) (ImethN :: Iexpr 0 :: Iem 0 :: Itake 59 :: Imember :: k)) := fun k => Rc.go1 (hr4 k) (mb_142 (kd5.trans kd9))
  have l87 := RelC.l8 rel
  have r8 : 0 ≤ ((V 6 8)).toInt ∧ ((V 6 8)).toInt ≤ 4000 := hMV 6 8
  have r9 : 0 ≤ ((V 6 7)).toInt ∧ ((V 6 7)).toInt ≤ 4000 := hMV 6 7
  have lk10 := RelC.lk rel (show (V 6 9).toInt ≠ 0 from by (first | exact om_2ca0db2d7d98 kd9 | omega))
  refine gA_void (gA_runV (As := []) (rest := []) (ci := 9) (q0 := 6) hx hb hml hown hg hP hD hK hS hA hnw hgk (x_next2 l D ks H.size ad kk V L Z  hMV (show (V 6 8).toInt ≤ (V 6 7).toInt from by (first | exact om_f4906d00fa52 l87 | omega))) w871 w852 w853 w157 w854 rfl xgTape hdV_yX9_next ⟨Nat.le_of_ble_eq_true rfl, Nat.le_of_ble_eq_true rfl⟩ rfl hl.1 rfl (Nat.le_of_ble_eq_true rfl) dX1_readMethod_12 ⟨Nat.le_of_ble_eq_true rfl, Nat.le_of_ble_eq_true rfl⟩) hP hD hK hS hA (fun u12 H locs w13 hP hD hK hS => ?_)
  obtain ⟨V16, L17⟩ := u12
  obtain ⟨hMV16, ajV16, axL17, t14, t15⟩ := w13
  have alL17 : agL [6, 44] L L17 := agL.tr alL axL17 (by decide)
  have hP : va_P D vwCl (xw ad kk V16 L17 Z) H := hP
  have hD : va_D A (xw ad kk V16 L17 Z) := hD
  have hMV16 : rgd bX V16 := hMV16
  have ajV16 : agr [(6, 8), (6, 9), (6, 10)] [] V V16 := ajV16
  have agV16 : agr [(1, 3), (1, 4), (1, 6), (1, 8), (6, 8), (6, 9), (6, 10)] [42, 43, 44, 48, 61] V V16 := agV.tr ajV16 (by decide) (by decide)
  have t14 : (V16 6 8).toInt ≤ (V16 6 7).toInt := t14
  have t15 : CUR V16 L17 (Int32.toNatClampNeg (V 6 8)) := t15
  have r18 : 0 ≤ ((V16 6 8)).toInt ∧ ((V16 6 8)).toInt ≤ 4000 := hMV16 6 8
  have pq19 : (V16 6 7).toInt = ((V 6 7)).toInt := congrArg Int32.toInt (ajV16 6 7 rfl)
  have rl20 : RelC V16 L17 b gT (nx gs 1) := RelC.nx1 rel ajV16 (by decide) axL17 (by decide) (by rw [← lk10]; exact t15) (ajV16 1 3 rfl)
  refine lv_aload_n hx hb dX1_readMethod_15 rfl (lv_at hl 1 rfl) ?_
  refine lv_aload_n hx hb dX1_readMethod_16 rfl (lv_at hl 1 rfl) ?_
  refine va_get (D := D) (ci := 1) (v := rfN ad 72 (V16 1 2)) (fs := (xfReader ad V16 L17 Z)) (C := RX1) (T := TX1) (N := 9) hx hb hg inX1 hown hK hP 1 xgReader rfl 2 (by decide) (hg _ w306) (fun _ h9 => h9) rfl dX1_readMethod_17 ?_
  have pq21 : (V16 1 2).toInt = ((V 1 2)).toInt := congrArg Int32.toInt (ajV16 1 2 rfl)
  refine g_topv (v := .ref (ad (72 + go))) (rfN_r (by omega)) ?_
  have pq22 : (V16 1 1).toInt = ((V 1 1)).toInt := congrArg Int32.toInt (ajV16 1 1 rfl)
  refine gA_int (gA_runV (As := [.ref (ad (72 + go))]) (rest := []) (ci := 1) (q0 := 1) hx hb hml hown hg hP hD hK hS hA hnw hgk (x_takeMethodO3 l D ks H.size ad kk V16 L17 Z (b) (gT) ((nx gs 1)) (go) hMV16 (show b < 2 from by (first | exact om_f940a4667dd6 hb2 | omega)) (show (V16 1 1).toInt = (b : Int) from by (first | exact om_adf531c77a0d rbk pq22 | omega)) (show (V16 1 2).toInt = (go : Int) from by (first | exact om_adf531c77a0d own pq21 | omega)) (show go < 48 from by (first | exact om_ed409a757601 hb2 hgh | omega)) (show 24 * b ≤ go from by (first | exact om_ef8c008e8399 hgl | omega)) (show go < 24 * b + 24 from by (first | exact om_8af120267f01 hgh | omega)) rl20) w939 w941 w19 w162 w942 rfl xgReader hdV_yX1_takeMethod ⟨Nat.le_of_ble_eq_true rfl, Nat.le_of_ble_eq_true rfl⟩ rfl hl.1 rfl (Nat.le_of_ble_eq_true rfl) dX1_readMethod_20 ⟨Nat.le_of_ble_eq_true rfl, Nat.le_of_ble_eq_true rfl⟩) hP hD hK hS hA (fun z23 u24 H locs w25 hP hD hK hS => ?_)
  obtain ⟨V28, L29⟩ := u24
  obtain ⟨hMV28, ajV28, axL29, rgz23, t26, t27⟩ := w25
  have alL29 : agL [6, 44] L L29 := agL.tr alL17 axL29 (by decide)
  have hP : va_P D vwCl (xw ad kk V28 L29 Z) H := hP
  have hD : va_D A (xw ad kk V28 L29 Z) := hD
  have hMV28 : rgd bX V28 := hMV28
  have ajV28 : agr [(1, 3), (1, 6), (6, 8), (6, 9), (6, 10)] [43, 44] V16 V28 := ajV28
  have agV28 : agr [(1, 3), (1, 4), (1, 6), (1, 8), (6, 8), (6, 9), (6, 10)] [42, 43, 44, 48, 61] V V28 := agV16.tr ajV28 (by decide) (by decide)
  have rgz23 : 0 ≤ z23.toInt ∧ z23.toInt ≤ 1 := rgz23
  have t26 : KcS (mthN gT (nx gs 1)) z23.toInt (V28 1 3).toInt (fun x9 => RelC V28 L29 b gT x9.2 ∧ (V28 1 6).toInt = ((x9.1 : Nat) : Int) ∧ x9.1 < 20 ∧ keepS (nx gs 1) 1 x9.2) := t26
  have t27 : ROWL b L17 L29 := t27
  rcases t26 with ⟨q30, mx31, h32, rl33, hf34, hb35, kp36⟩ | ⟨q30, h32⟩
  · skip
    have hr37 : ∀ k, Rc gT (Crun gs (Imember :: k)) (Crun (sL (sT mx31.2 (mx31.1 :: (nx gs 1).2.2.2)) (100 + 32 * (((nx gs 1).2.1 2).length - 1) + mx31.1) (cl (nx gs 1) + 1)) (Iexpr 0 :: Iem 0 :: Itake 59 :: Imember :: k)) := fun k => Rc.go1 (hr6 k) (mn_y h32)
    refine lv_if_ne (tgt := 28) hx hb dX1_readMethod_23 (by decide) (fun c38 => ?_) (fun c38 => ?_)
    · skip
      have f39 : z23.toInt ≠ 0 := b_neq rfl (by decide) c38
      refine lv_aload_n hx hb dX1_readMethod_28 rfl (lv_at hl 1 rfl) ?_
      refine va_get (D := D) (ci := 1) (v := rfN ad 72 (V28 1 2)) (fs := (xfReader ad V28 L29 Z)) (C := RX1) (T := TX1) (N := 9) hx hb hg inX1 hown hK hP 1 xgReader rfl 2 (by decide) (hg _ w306) (fun _ h9 => h9) rfl dX1_readMethod_29 ?_
      have pq40 : (V28 1 2).toInt = ((V 1 2)).toInt := congrArg Int32.toInt ((ajV28 1 2 rfl).trans (ajV16 1 2 rfl))
      refine g_topv (v := .ref (ad (72 + go))) (rfN_r (by omega)) ?_
      refine va_getN (D := D) (ci := 3) (v := .ref (ad (264 + go))) (fs := (xfComp ad V28 go)) (C := RX3) (T := TX3) (N := 13) hx hb hg inX3 hown hK hP (72 + go) (xgComp hgo) rfl 3 (by decide) (hnw.use 508 n508 rfl) (fun _ h9 => h9) rfl dX1_readMethod_32 ?_
      refine lv_aload_n hx hb dX1_readMethod_35 rfl (lv_at hl 1 rfl) ?_
      refine va_get (D := D) (ci := 1) (v := .int (V28 1 6)) (fs := (xfReader ad V28 L29 Z)) (C := RX1) (T := TX1) (N := 9) hx hb hg inX1 hown hK hP 1 xgReader rfl 6 (by decide) (hg _ w310) (fun _ h9 => h9) rfl dX1_readMethod_36 ?_
      have r41 : (-1) ≤ ((V28 1 6)).toInt ∧ ((V28 1 6)).toInt ≤ 23 := hMV28 1 6
      refine lv_iload_n hx hb dX1_readMethod_39 rfl (lv_at hl 0 rfl) ?_
      refine va_iast (D := D) (i := (V28 1 6)) (x := (V 42 b)) hx hb hK hP hD hS (264 + go) (257 + go) (xgmethodStarts hgo) (xtmethodStarts hgo) (i_in (a := ((V28 1 6)).toInt) rfl (by omega)) dX1_readMethod_40 (fun H locs hP hD hS => ?_)
      have kc42 := i_clamp (x := (V28 1 6)) rfl (by omega)
      have kl43 : (Int32.toNatClampNeg (V28 1 6)) < 20 := by omega
      obtain ⟨V44, hV44⟩ : ∃ z, z = up2 V28 61 (20 * go + (Int32.toNatClampNeg (V28 1 6))) (V 42 b) := ⟨_, rfl⟩
      have ew45 : (xw ad kk V28 L29 Z).set (264 + go) ((ad (264 + go)), .inl ((kk (264 + go)), 20, .inl (upd (fun q => if q < 20 then V28 61 (20 * go + q) else 0) (Int32.toNatClampNeg (V28 1 6)) (V 42 b)))) = xw ad kk V44 L29 Z := by rw [hV44]; exact xpmethodStarts hgo kl43
      have hP : va_P D vwCl (xw ad kk V44 L29 Z) H := by rw [← ew45]; exact hP
      have hD : va_D A (xw ad kk V44 L29 Z) := by rw [← ew45]; exact hD
      have hMV44 : rgd bX V44 := hMV28.put hV44 (show (-1) ≤ ((V 42 b)).toInt ∧ ((V 42 b)).toInt ≤ 8200 from by (first | exact om_7591b83d41f0 r3.1 r3.2 | omega))
      have agV44 : agr [(1, 3), (1, 4), (1, 6), (1, 8), (6, 8), (6, 9), (6, 10)] [42, 43, 44, 48, 61] V V44 := agV28.up hV44 rfl
      have kc47 : (20 * go + (Int32.toNatClampNeg (V28 1 6))) = 20 * go + mx31.1 := by omega
      have h61 := hV44
      rw [kc47] at h61
      have rl46 : RelC V44 L29 b gT (sT mx31.2 (mx31.1 :: (nx gs 1).2.2.2)) := RelC.mt rl33 (show (V28 1 2).toInt = ((go : Nat) : Int) from by (first | exact om_adf531c77a0d own pq40 | omega)) h61 (show ((V 42 b)).toInt ≠ -1 from by (first | exact om_b308bcc79c23 r3.1 | omega)) (congrArg (fun q9 => q9.2) (kp36).2.2.2).symm
      have re48 : REc V28 b gs := REc.ag ceo.2.1 (show agr [(1, 3), (1, 6), (6, 8), (6, 9), (6, 10)] [43, 44] V V28 from (agr.tr (agr.tr agr.rf ajV16 (by decide) (by decide)) ajV28 (by decide) (by decide))) (fun _ => rfl) (fun _ => rfl) (fun _ => rfl) keepE.rf rfl
      have re49 : REc V28 b (nx gs 1) := REc.mv re48 (fun _ _ _ _ => rfl) (keepE.tr (keepE.rf : keepE gs gs) (show keepE gs (nx gs 1) from keepE.eq (show ∀ j9, 5 ≤ j9 → (nx gs 1).2.1 j9 = gs.2.1 j9 from fun _ _ => rfl))) (((show keepS gs 1 (nx gs 1) from (keepS.n1 1)).2.2.1 2 (by decide)).trans (rfl : gs.2.1 2 = gs.2.1 2))
      have rl50 : RelC V44 L29 b gT (sL (sT mx31.2 (mx31.1 :: (nx gs 1).2.2.2)) (100 + 32 * (((nx gs 1).2.1 2).length - 1) + mx31.1) (cl (nx gs 1) + 1)) := RelC.gl rl46 (by omega)
      have re51 : REc V44 b (sL (sT mx31.2 (mx31.1 :: (nx gs 1).2.2.2)) (100 + 32 * (((nx gs 1).2.1 2).length - 1) + mx31.1) (cl (nx gs 1) + 1)) := REc.st re49 (Or.inl hb35) (show go + 1 = 24 * b + ((nx gs 1).2.1 2).length from gol) hgl (cR_m hb35 h61) (show ((V 42 b)).toInt = ((wl (nx gs 1) : Nat) : Int) from ceo.1.1) (fun j9 h9 => (mthN_e h32) j9 h9) ((kp36).2.2.1 2 (by decide))
      refine lv_aload_n hx hb dX1_readMethod_41 rfl (lv_at hl 1 rfl) ?_
      refine lv_iconst (v := 0) hx hb dX1_readMethod_42 (by decide) ?_
      have pq53 : (V44 1 2).toInt = ((V 1 2)).toInt := congrArg Int32.toInt ((up2_o hV44 (by decide)).trans ((ajV28 1 2 rfl).trans (ajV16 1 2 rfl)))
      have w452 := (RelC.ow rl50 (show (V44 1 2).toInt = ((go : Nat) : Int) from by (first | exact om_adf531c77a0d own pq53 | omega))).2.2.2.1
      have r54 : Int32.toInt 0 = 0 := by decide
      have pq55 : (V44 1 1).toInt = ((V 1 1)).toInt := congrArg Int32.toInt ((up2_o hV44 (by decide)).trans ((ajV28 1 1 rfl).trans (ajV16 1 1 rfl)))
      have cd56 : CDc V44 b gs := CDc.ag ceo.1 (show agr [(1, 3), (1, 6), (6, 8), (6, 9), (6, 10)] [43, 44, 61] V V44 from (agr.up (agr.tr (agr.tr agr.rf ajV16 (by decide) (by decide)) ajV28 (by decide) (by decide)) hV44 rfl)) (fun _ => rfl) (fun _ => rfl)
      have cd57 : CDc V44 b (sL (sT mx31.2 (mx31.1 :: (nx gs 1).2.2.2)) (100 + 32 * (((nx gs 1).2.1 2).length - 1) + mx31.1) (cl (nx gs 1) + 1)) := CDc.mv cd56 (fun j9 h9 => ((show ∀ j9, j9 = 5 ∨ 2000 ≤ j9 → (sL (sT mx31.2 (mx31.1 :: (nx gs 1).2.2.2)) (100 + 32 * (((nx gs 1).2.1 2).length - 1) + mx31.1) (cl (nx gs 1) + 1)).2.1 j9 = (sT mx31.2 (mx31.1 :: (nx gs 1).2.2.2)).2.1 j9 from fun j9 h9 => sL_o _ _ (by have h9 := ceo.2.1.1; have h8 : (nx gs 1).2.1 2 = gs.2.1 2 := rfl; rw [h8]; omega)) j9 h9).trans ((fun j9 h9 => ((show ∀ j9, j9 = 5 ∨ 2000 ≤ j9 → (sT mx31.2 (mx31.1 :: (nx gs 1).2.2.2)).2.1 j9 = mx31.2.2.1 j9 from fun j9 h9 => (show ∀ j9, 5 ≤ j9 → (sT mx31.2 (mx31.1 :: (nx gs 1).2.2.2)).2.1 j9 = mx31.2.2.1 j9 from fun _ _ => rfl) j9 (by omega)) j9 h9).trans ((fun j9 h9 => ((show ∀ j9, j9 = 5 ∨ 2000 ≤ j9 → mx31.2.2.1 j9 = (nx gs 1).2.1 j9 from fun j9 h9 => (show ∀ j9, 5 ≤ j9 → mx31.2.2.1 j9 = (nx gs 1).2.1 j9 from (mthN_e h32)) j9 (by omega)) j9 h9).trans ((show ∀ j9, j9 = 5 ∨ 2000 ≤ j9 → (nx gs 1).2.1 j9 = gs.2.1 j9 from fun j9 h9 => (show ∀ j9, 5 ≤ j9 → (nx gs 1).2.1 j9 = gs.2.1 j9 from fun _ _ => rfl) j9 (by omega)) j9 h9)) j9 h9)) j9 h9))
      have hwl : wl gs ≤ 2 * gs.1 0 := ceo.2.2.2
      have wk58 : wl (nx gs 1) = wl gs ∧ (nx gs 1).1 0 = gs.1 0 + 1 := ⟨rfl, rfl⟩
      have wk59 : wl mx31.2 = wl (nx gs 1) ∧ (nx gs 1).1 0 + 1 ≤ mx31.2.1 0 := ⟨wl_e (show ∀ j9, j9 = 5 ∨ 2000 ≤ j9 → mx31.2.2.1 j9 = (nx gs 1).2.1 j9 from fun j9 h9 => (show ∀ j9, 5 ≤ j9 → mx31.2.2.1 j9 = (nx gs 1).2.1 j9 from (mthN_e h32)) j9 (by omega)), (keepS.le kp36 (by decide)).1⟩
      have wk60 : wl (sT mx31.2 (mx31.1 :: (nx gs 1).2.2.2)) = wl mx31.2 ∧ (sT mx31.2 (mx31.1 :: (nx gs 1).2.2.2)).1 0 = mx31.2.1 0 := ⟨wl_e (show ∀ j9, j9 = 5 ∨ 2000 ≤ j9 → (sT mx31.2 (mx31.1 :: (nx gs 1).2.2.2)).2.1 j9 = mx31.2.2.1 j9 from fun j9 h9 => (show ∀ j9, 5 ≤ j9 → (sT mx31.2 (mx31.1 :: (nx gs 1).2.2.2)).2.1 j9 = mx31.2.2.1 j9 from fun _ _ => rfl) j9 (by omega)), rfl⟩
      have wk61 : wl (sL (sT mx31.2 (mx31.1 :: (nx gs 1).2.2.2)) (100 + 32 * (((nx gs 1).2.1 2).length - 1) + mx31.1) (cl (nx gs 1) + 1)) = wl (sT mx31.2 (mx31.1 :: (nx gs 1).2.2.2)) ∧ (sL (sT mx31.2 (mx31.1 :: (nx gs 1).2.2.2)) (100 + 32 * (((nx gs 1).2.1 2).length - 1) + mx31.1) (cl (nx gs 1) + 1)).1 0 = (sT mx31.2 (mx31.1 :: (nx gs 1).2.2.2)).1 0 := ⟨wl_e (show ∀ j9, j9 = 5 ∨ 2000 ≤ j9 → (sL (sT mx31.2 (mx31.1 :: (nx gs 1).2.2.2)) (100 + 32 * (((nx gs 1).2.1 2).length - 1) + mx31.1) (cl (nx gs 1) + 1)).2.1 j9 = (sT mx31.2 (mx31.1 :: (nx gs 1).2.2.2)).2.1 j9 from fun j9 h9 => sL_o _ _ (by have h9 := ceo.2.1.1; have h8 : (nx gs 1).2.1 2 = gs.2.1 2 := rfl; rw [h8]; omega)), rfl⟩
      refine gA_int (gA_runV (As := [.int 0]) (rest := []) (ci := 1) (q0 := 1) hx hb hml hown hg hP hD hK hS hA hnw hgk (x_readE3 l D ks H.size ad kk V44 L29 Z 0 (b) (gT) ((sL (sT mx31.2 (mx31.1 :: (nx gs 1).2.2.2)) (100 + 32 * (((nx gs 1).2.1 2).length - 1) + mx31.1) (cl (nx gs 1) + 1))) hMV44 (by decide) (show b < 2 from by (first | exact om_f940a4667dd6 hb2 | omega)) (show (V44 1 1).toInt = (b : Int) from by (first | exact om_adf531c77a0d rbk pq55 | omega)) rl50 cd57 (show wl (sL (sT mx31.2 (mx31.1 :: (nx gs 1).2.2.2)) (100 + 32 * (((nx gs 1).2.1 2).length - 1) + mx31.1) (cl (nx gs 1) + 1)) ≤ 2 * (sL (sT mx31.2 (mx31.1 :: (nx gs 1).2.2.2)) (100 + 32 * (((nx gs 1).2.1 2).length - 1) + mx31.1) (cl (nx gs 1) + 1)).1 0 from by omega) (show (Int32.toInt 0) = (((sL (sT mx31.2 (mx31.1 :: (nx gs 1).2.2.2)) (100 + 32 * (((nx gs 1).2.1 2).length - 1) + mx31.1) (cl (nx gs 1) + 1)).1 4 : Nat) : Int) from by omega) (fun _ => (show 0 ≤ (V44 1 2).toInt from by (first | exact om_69dfcb33e50b own hgl pq53 | omega)))) w947 w949 w20 w162 w950 rfl xgReader hdV_yX1_readE ⟨Nat.le_of_ble_eq_true rfl, Nat.le_of_ble_eq_true rfl⟩ rfl hl.1 rfl (Nat.le_of_ble_eq_true rfl) dX1_readMethod_43 ⟨Nat.le_of_ble_eq_true rfl, Nat.le_of_ble_eq_true rfl⟩) hP hD hK hS hA (fun z62 u63 H locs w64 hP hD hK hS => ?_)
      obtain ⟨V67, L68⟩ := u63
      obtain ⟨hMV67, ajV67, axL68, rgz62, t65, t66⟩ := w64
      have alL68 : agL [6, 44] L L68 := agL.tr alL29 axL68 (by decide)
      have hP : va_P D vwCl (xw ad kk V67 L68 Z) H := hP
      have hD : va_D A (xw ad kk V67 L68 Z) := hD
      have hMV67 : rgd bX V67 := hMV67
      have ajV67 : agr [(1, 3), (1, 4), (1, 6), (1, 8), (6, 8), (6, 9), (6, 10)] [42, 43, 44, 48] V44 V67 := ajV67
      have agV67 : agr [(1, 3), (1, 4), (1, 6), (1, 8), (6, 8), (6, 9), (6, 10)] [42, 43, 44, 48, 61] V V67 := agV44.tr ajV67 (by decide) (by decide)
      have rgz62 : 0 ≤ z62.toInt ∧ z62.toInt ≤ 1 := rgz62
      have t65 : Rd gT (sL (sT mx31.2 (mx31.1 :: (nx gs 1).2.2.2)) (100 + 32 * (((nx gs 1).2.1 2).length - 1) + mx31.1) (cl (nx gs 1) + 1)) (fun k => Iexpr 0 :: Iem 0 :: Itake 59 :: k) (fun k => k) z62.toInt (V67 1 3).toInt (fun s9 => RelC V67 L68 b gT s9 ∧ keepS (sL (sT mx31.2 (mx31.1 :: (nx gs 1).2.2.2)) (100 + 32 * (((nx gs 1).2.1 2).length - 1) + mx31.1) (cl (nx gs 1) + 1)) 2 s9 ∧ keepE (sL (sT mx31.2 (mx31.1 :: (nx gs 1).2.2.2)) (100 + 32 * (((nx gs 1).2.1 2).length - 1) + mx31.1) (cl (nx gs 1) + 1)) s9 ∧ CDc V67 b s9 ∧ wl s9 + 2 * (sL (sT mx31.2 (mx31.1 :: (nx gs 1).2.2.2)) (100 + 32 * (((nx gs 1).2.1 2).length - 1) + mx31.1) (cl (nx gs 1) + 1)).1 0 ≤ wl (sL (sT mx31.2 (mx31.1 :: (nx gs 1).2.2.2)) (100 + 32 * (((nx gs 1).2.1 2).length - 1) + mx31.1) (cl (nx gs 1) + 1)) + 2 * s9.1 0 + 0) := t65
      have t66 : ROWL b L29 L68 := t66
      rcases t65 with ⟨q69, sx70, h71, rl72, kp73, ke74, cd75, wd76⟩ | ⟨q69, h71⟩
      · skip
        have hr77 : ∀ k, Rc gT (Crun gs (Imember :: k)) (Crun sx70 (Imember :: k)) := fun k => (hr37 k).tr (h71 (Imember :: k))
        have cn78 : CNc V67 b gs := CNc.ag cno.1 (show agr [(1, 3), (1, 4), (1, 6), (1, 8), (6, 8), (6, 9), (6, 10)] [42, 43, 44, 48, 61] V V67 from (agr.tr (agr.up (agr.tr (agr.tr agr.rf ajV16 (by decide) (by decide)) ajV28 (by decide) (by decide)) hV44 rfl) ajV67 (by decide) (by decide))) (by decide) keepC.rf
        have cn79 : CNc V67 b sx70 := CNc.mv cn78 (fun _ _ _ => rfl) (keepC.tr (keepC.tr (keepC.tr (keepC.tr (keepC.tr (keepC.rf : keepC gs gs) (keepS.c (keepS.n1 1))) (keepS.c kp36)) (keepC.st : keepC mx31.2 (sT mx31.2 (mx31.1 :: (nx gs 1).2.2.2)))) (keepS.c (show keepS (sT mx31.2 (mx31.1 :: (nx gs 1).2.2.2)) 0 (sL (sT mx31.2 (mx31.1 :: (nx gs 1).2.2.2)) (100 + 32 * (((nx gs 1).2.1 2).length - 1) + mx31.1) (cl (nx gs 1) + 1)) from keepS.gl (by omega)))) (keepS.c kp73))
        have pq80 : (V67 1 2).toInt = ((V 1 2)).toInt := congrArg Int32.toInt ((ajV67 1 2 rfl).trans ((up2_o hV44 (by decide)).trans ((ajV28 1 2 rfl).trans (ajV16 1 2 rfl))))
        have re81 : REc V67 b (sL (sT mx31.2 (mx31.1 :: (nx gs 1).2.2.2)) (100 + 32 * (((nx gs 1).2.1 2).length - 1) + mx31.1) (cl (nx gs 1) + 1)) := REc.ag re51 (show agr [(1, 3), (1, 4), (1, 6), (1, 8), (6, 8), (6, 9), (6, 10)] [42, 43, 44, 48] V44 V67 from (agr.tr agr.rf ajV67 (by decide) (by decide))) (fun _ => rfl) (fun _ => rfl) (fun _ => rfl) keepE.rf rfl
        have re82 : REc V67 b sx70 := REc.mv re81 (fun _ _ _ _ => rfl) (keepE.tr (keepE.rf : keepE (sL (sT mx31.2 (mx31.1 :: (nx gs 1).2.2.2)) (100 + 32 * (((nx gs 1).2.1 2).length - 1) + mx31.1) (cl (nx gs 1) + 1)) (sL (sT mx31.2 (mx31.1 :: (nx gs 1).2.2.2)) (100 + 32 * (((nx gs 1).2.1 2).length - 1) + mx31.1) (cl (nx gs 1) + 1))) ke74) (((show keepS (sL (sT mx31.2 (mx31.1 :: (nx gs 1).2.2.2)) (100 + 32 * (((nx gs 1).2.1 2).length - 1) + mx31.1) (cl (nx gs 1) + 1)) 2 sx70 from kp73).2.2.1 2 (by decide)).trans (rfl : (sL (sT mx31.2 (mx31.1 :: (nx gs 1).2.2.2)) (100 + 32 * (((nx gs 1).2.1 2).length - 1) + mx31.1) (cl (nx gs 1) + 1)).2.1 2 = (sL (sT mx31.2 (mx31.1 :: (nx gs 1).2.2.2)) (100 + 32 * (((nx gs 1).2.1 2).length - 1) + mx31.1) (cl (nx gs 1) + 1)).2.1 2))
        have ww83 : WWc V67 b gs := WWc.ag ceo.2.2.1 (show agr [(1, 3), (1, 4), (1, 6), (1, 8), (6, 8), (6, 9), (6, 10)] [42, 43, 44, 48, 61] V V67 from (agr.tr (agr.up (agr.tr (agr.tr agr.rf ajV16 (by decide) (by decide)) ajV28 (by decide) (by decide)) hV44 rfl) ajV67 (by decide) (by decide))) (fun _ => ⟨rfl, rfl, rfl, rfl, rfl⟩) keepE.rf rfl
        have ww84 : WWc V67 b (sT mx31.2 (mx31.1 :: (nx gs 1).2.2.2)) := WWc.mv ww83 (fun _ _ _ _ _ => rfl) (keepE.tr (keepE.tr (keepE.tr (keepE.rf : keepE gs gs) (show keepE gs (nx gs 1) from keepE.eq (show ∀ j9, 5 ≤ j9 → (nx gs 1).2.1 j9 = gs.2.1 j9 from fun _ _ => rfl))) (show keepE (nx gs 1) mx31.2 from keepE.eq (show ∀ j9, 5 ≤ j9 → mx31.2.2.1 j9 = (nx gs 1).2.1 j9 from (mthN_e h32)))) (show keepE mx31.2 (sT mx31.2 (mx31.1 :: (nx gs 1).2.2.2)) from keepE.eq (show ∀ j9, 5 ≤ j9 → (sT mx31.2 (mx31.1 :: (nx gs 1).2.2.2)).2.1 j9 = mx31.2.2.1 j9 from fun _ _ => rfl))) ((rfl : (sT mx31.2 (mx31.1 :: (nx gs 1).2.2.2)).2.2.1 = mx31.2.2.2.1).trans ((congrArg (fun q9 : List (Nat × Bool) × List Nat => q9.1) (show keepS (nx gs 1) 1 mx31.2 from kp36).2.2.2).trans ((congrArg (fun q9 : List (Nat × Bool) × List Nat => q9.1) (show keepS gs 1 (nx gs 1) from (keepS.n1 1)).2.2.2).trans (rfl : gs.2.2.1 = gs.2.2.1))))
        have ww85 : WWc V67 b (sL (sT mx31.2 (mx31.1 :: (nx gs 1).2.2.2)) (100 + 32 * (((nx gs 1).2.1 2).length - 1) + mx31.1) (cl (nx gs 1) + 1)) := WWc.gl ww84 (by omega) (by have h9 := ceo.2.1.1; have h8 : (nx gs 1).2.1 2 = gs.2.1 2 := rfl; rw [h8]; omega)
        have ww86 : WWc V67 b sx70 := WWc.mv ww85 (fun _ _ _ _ _ => rfl) (keepE.tr (keepE.rf : keepE (sL (sT mx31.2 (mx31.1 :: (nx gs 1).2.2.2)) (100 + 32 * (((nx gs 1).2.1 2).length - 1) + mx31.1) (cl (nx gs 1) + 1)) (sL (sT mx31.2 (mx31.1 :: (nx gs 1).2.2.2)) (100 + 32 * (((nx gs 1).2.1 2).length - 1) + mx31.1) (cl (nx gs 1) + 1))) ke74) ((congrArg (fun q9 : List (Nat × Bool) × List Nat => q9.1) (show keepS (sL (sT mx31.2 (mx31.1 :: (nx gs 1).2.2.2)) (100 + 32 * (((nx gs 1).2.1 2).length - 1) + mx31.1) (cl (nx gs 1) + 1)) 2 sx70 from kp73).2.2.2).trans (rfl : (sL (sT mx31.2 (mx31.1 :: (nx gs 1).2.2.2)) (100 + 32 * (((nx gs 1).2.1 2).length - 1) + mx31.1) (cl (nx gs 1) + 1)).2.2.1 = (sL (sT mx31.2 (mx31.1 :: (nx gs 1).2.2.2)) (100 + 32 * (((nx gs 1).2.1 2).length - 1) + mx31.1) (cl (nx gs 1) + 1)).2.2.1))
        have wk87 : wl sx70 + 2 * (sL (sT mx31.2 (mx31.1 :: (nx gs 1).2.2.2)) (100 + 32 * (((nx gs 1).2.1 2).length - 1) + mx31.1) (cl (nx gs 1) + 1)).1 0 ≤ wl (sL (sT mx31.2 (mx31.1 :: (nx gs 1).2.2.2)) (100 + 32 * (((nx gs 1).2.1 2).length - 1) + mx31.1) (cl (nx gs 1) + 1)) + 2 * sx70.1 0 + 0 ∧ (sL (sT mx31.2 (mx31.1 :: (nx gs 1).2.2.2)) (100 + 32 * (((nx gs 1).2.1 2).length - 1) + mx31.1) (cl (nx gs 1) + 1)).1 0 + 1 ≤ sx70.1 0 := ⟨wd76, (keepS.le kp73 (by decide)).1⟩
        have ps88 : gs.1 0 + 1 ≤ (nx gs 1).1 0 := ((keepS.n1 1)).1
        have ps89 : (nx gs 1).1 0 + 1 ≤ mx31.2.1 0 := (kp36).1
        have ps90 : (sT mx31.2 (mx31.1 :: (nx gs 1).2.2.2)).1 0 = mx31.2.1 0 := rfl
        have ps91 : (sT mx31.2 (mx31.1 :: (nx gs 1).2.2.2)).1 0 + 0 ≤ (sL (sT mx31.2 (mx31.1 :: (nx gs 1).2.2.2)) (100 + 32 * (((nx gs 1).2.1 2).length - 1) + mx31.1) (cl (nx gs 1) + 1)).1 0 := ((show keepS (sT mx31.2 (mx31.1 :: (nx gs 1).2.2.2)) 0 (sL (sT mx31.2 (mx31.1 :: (nx gs 1).2.2.2)) (100 + 32 * (((nx gs 1).2.1 2).length - 1) + mx31.1) (cl (nx gs 1) + 1)) from keepS.gl (by omega))).1
        have ps92 : (sL (sT mx31.2 (mx31.1 :: (nx gs 1).2.2.2)) (100 + 32 * (((nx gs 1).2.1 2).length - 1) + mx31.1) (cl (nx gs 1) + 1)).1 0 + 2 ≤ sx70.1 0 := (kp73).1
        have rw93 : ROWL b L L68 := (fun k hk => ((t66 k hk).trans ((t27 k hk).trans ((axL17 44 k rfl).trans rfl))))
        exact W.zret (v := z62) hx hb hr (nb_ok (by omega)) (fun t ht hW => ⟨⟨z62, (V67, L68), rfl, ⟨hMV67, agV67, alL68, (show 0 ≤ z62.toInt ∧ z62.toInt ≤ 1 from by (first | exact om_eb7af9d60398 rgz62.1 rgz62.2 | omega)), (Or.inl ⟨(by omega), sx70, hr77, rl72, (by omega), ⟨cn79, (show OWl V67 b sx70 from OWl.mv cno.2 (show V67 1 2 = V 1 2 from ((ajV67 1 2 rfl).trans ((up2_o hV44 (by decide)).trans ((ajV28 1 2 rfl).trans (ajV16 1 2 rfl))))) (keepC.tr (keepC.tr (keepC.tr (keepC.tr (keepC.tr (keepC.rf : keepC gs gs) (keepS.c (keepS.n1 1))) (keepS.c kp36)) (keepC.st : keepC mx31.2 (sT mx31.2 (mx31.1 :: (nx gs 1).2.2.2)))) (keepS.c (show keepS (sT mx31.2 (mx31.1 :: (nx gs 1).2.2.2)) 0 (sL (sT mx31.2 (mx31.1 :: (nx gs 1).2.2.2)) (100 + 32 * (((nx gs 1).2.1 2).length - 1) + mx31.1) (cl (nx gs 1) + 1)) from keepS.gl (by omega)))) (keepS.c kp73)))⟩, ⟨cd75, re82, ww86, (show wl sx70 ≤ 2 * sx70.1 0 from by omega)⟩⟩), rw93⟩, by rw [ht]; exact hP, va_K.moved hW.alike hK, hD⟩, hS.F ht⟩) hS.2.2 dX1_readMethod_46
      · skip
        have hb94 : ∀ k, Rc gT (Crun gs (Imember :: k)) (Cbad (V67 1 3).toInt) := fun k => (hr37 k).tr (h71 (Imember :: k))
        have rw95 : ROWL b L L68 := (fun k hk => ((t66 k hk).trans ((t27 k hk).trans ((axL17 44 k rfl).trans rfl))))
        exact W.zret (v := z62) hx hb hr (nb_ok (by omega)) (fun t ht hW => ⟨⟨z62, (V67, L68), rfl, ⟨hMV67, agV67, alL68, (show 0 ≤ z62.toInt ∧ z62.toInt ≤ 1 from by (first | exact om_eb7af9d60398 rgz62.1 rgz62.2 | omega)), (Or.inr ⟨(by omega), hb94⟩), rw95⟩, by rw [ht]; exact hP, va_K.moved hW.alike hK, hD⟩, hS.F ht⟩) hS.2.2 dX1_readMethod_46
    · skip
      have f96 : z23.toInt = 0 := b_eq rfl (by decide) c38
      exfalso; omega
  · skip
    have hb97 : ∀ k, Rc gT (Crun gs (Imember :: k)) (Cbad (V28 1 3).toInt) := fun k => Rc.go1 (hr6 k) (mn_b h32)
    refine lv_if_ne (tgt := 28) hx hb dX1_readMethod_23 (by decide) (fun c98 => ?_) (fun c98 => ?_)
    · skip
      have f99 : z23.toInt ≠ 0 := b_neq rfl (by decide) c98
      exfalso; omega
    · skip
      have f100 : z23.toInt = 0 := b_eq rfl (by decide) c98
      refine lv_iconst (v := 0) hx hb dX1_readMethod_26 (by decide) ?_
      have rw101 : ROWL b L L29 := (fun k hk => ((t27 k hk).trans ((axL17 44 k rfl).trans rfl)))
      exact W.zret (v := 0) hx hb hr rfl (fun t ht hW => ⟨⟨0, (V28, L29), rfl, ⟨hMV28, agV28, alL29, (by decide), (Or.inr ⟨rfl, hb97⟩), rw101⟩, by rw [ht]; exact hP, va_K.moved hW.alike hK, hD⟩, hS.F ht⟩) hS.2.2 dX1_readMethod_27
abbrev r_x_readMember3 : Room := { frames := 92, cells := 0, slots := 0, locals := 2704 }
abbrev q_x_readMember3 (D : va_G) (ks : KS) (ad : Nat → Nat) (kk : Nat → ClassId) (V : Vf) (L : Lf) (Z : XZ) (b : Nat) (gT : Tk) (gs : St) (go : Nat) (A : Nat → Prop) : Array Value → State → Outcome → State → Prop := va_Qi (fun (r : Int32) (u : Vf × Lf) => rgd bX u.1 ∧ agr [(1, 2), (1, 3), (1, 4), (1, 6), (1, 8), (6, 8), (6, 9), (6, 10)] [42, 43, 44, 48, 49, 56, 57, 58, 59, 60, 61] V u.1 ∧ agL [6, 44] L u.2 ∧ (0 ≤ r.toInt ∧ r.toInt ≤ 1) ∧ ((u.1 1 2).toInt = (V 1 2).toInt ∨ (u.1 1 2).toInt = -1) ∧ (Rd gT gs (fun k => Imember :: k) (fun k => nxI (u.1 1 2) k) r.toInt (u.1 1 3).toInt (fun s9 => RelC u.1 u.2 b gT s9 ∧ gs.1 0 + 1 ≤ s9.1 0 ∧ CNo u.1 b s9 ∧ CEo u.1 b s9)) ∧ (ROWL b L u.2)) (fun u t => gq D A (xw ad kk u.1 u.2 Z) (xty kk Z) t) A
set_option maxHeartbeats 4000000 in
set_option maxRecDepth 100000 in
theorem x_readMember3 (l : Launch) (D : va_G) (ks : KS) (sz : Nat) (ad : Nat → Nat) (kk : Nat → ClassId) (V : Vf) (L : Lf) (Z : XZ) (b : Nat) (gT : Tk) (gs : St) (go : Nat) (hMV : rgd bX V) (hb2 : b < 2) (rbk : (V 1 1).toInt = (b : Int)) (own : (V 1 2).toInt = (go : Int)) (hgo : go < 48) (hgl : 24 * b ≤ go) (hgh : go < 24 * b + 24) (rel : RelC V L b gT gs) (cno : CNo V b gs) (ceo : CEo V b gs)  : Met l yX1_readMember (Cond.code yX1_readMember cX1_readMember 2 (some .boolean) :: GW) r_x_readMember3 (va_Pc [.ref (ad 1)] (gp D ks (xw ad kk V L Z) (xty kk Z) sz)) (q_x_readMember3 D ks ad kk V L Z  b gT gs go (va_A (xw ad kk V L Z) sz)) 0 0 (va_A (xw ad kk V L Z) sz) := by
  refine g_met (q_x_readMember3 D ks ad kk V L Z  b gT gs go) (by decide) (Nat.le_of_ble_eq_true rfl) ?_
  intro p e s m below meth c A ls H locs hx hb hr hml hown hg hlocks hin hnw hgk hP hK hD hS hA hl
  have hown : s.vm.findClass RX1 = some m.cls := hown
  have hl : lv_has ls 2 [(0, .ref (ad 1))] := hl
  have hP : va_P D vwCl (xw ad kk V L Z) H := hP
  have hD : va_D A (xw ad kk V L Z) := hD
  have hK : va_K D vwCl (xty kk Z) s := hK
  have agV : agr [(1, 2), (1, 3), (1, 4), (1, 6), (1, 8), (6, 8), (6, 9), (6, 10)] [42, 43, 44, 48, 49, 56, 57, 58, 59, 60, 61] V V := agr.rf
  have alL : agL [6, 44] L L := agL.rf
  have r1 : (-1) ≤ ((V 1 1)).toInt ∧ ((V 1 1)).toInt ≤ 1 := hMV 1 1
  have r2 : (-1) ≤ ((V 1 2)).toInt ∧ ((V 1 2)).toInt ≤ 47 := hMV 1 2
  have ow0 := RelC.ow rel own
  have gol : go + 1 = 24 * b + (gs.2.1 2).length := by have h9 := cno.2 (by omega); omega
  refine lv_aload_n hx hb dX1_readMember_0 rfl (lv_at hl 0 rfl) ?_
  refine va_get (D := D) (ci := 1) (v := rfN ad 38 (V 1 1)) (fs := (xfReader ad V L Z)) (C := RX1) (T := TX1) (N := 9) hx hb hg inX1 hown hK hP 1 xgReader rfl 1 (by decide) (hg _ w305) (fun _ h9 => h9) rfl dX1_readMember_1 ?_
  refine g_topv (v := .ref (ad (38 + b))) (rfN_r (by omega)) ?_
  refine va_getN (D := D) (ci := 0) (v := .int (V 42 b)) (fs := (xfBook ad V b)) (C := RX0) (T := TX0) (N := 13) hx hb hg inX0 hown hK hP (38 + b) (xgBook hb2) rfl 12 (by decide) (hnw.use 630 n630 rfl) (fun _ h9 => h9) rfl dX1_readMember_4 ?_
  have r3 : 0 ≤ ((V 42 b)).toInt ∧ ((V 42 b)).toInt ≤ 8200 := hMV 42 b
  refine lv_istore_n (lv' := [(1, .int (V 42 b)), (0, .ref (ad 1))]) hx hb dX1_readMember_7 rfl hl (by decide) rfl (fun ls hl => ?_)
  refine lv_aload_n hx hb dX1_readMember_8 rfl (lv_at hl 1 rfl) ?_
  refine va_get (D := D) (ci := 1) (v := .ref (ad 6)) (fs := (xfReader ad V L Z)) (C := RX1) (T := TX1) (N := 9) hx hb hg inX1 hown hK hP 1 xgReader rfl 0 (by decide) (hg _ w304) (fun _ h9 => h9) rfl dX1_readMember_9 ?_
  refine va_getN (D := D) (ci := 9) (v := .int (V 6 9)) (fs := (xfTape ad V L Z)) (C := RX9) (T := TX9) (N := 12) hx hb hg inX9 hown hK hP 6 xgTape rfl 9 (by decide) (hnw.use 262 n262 rfl) (fun _ h9 => h9) rfl dX1_readMember_12 ?_
  by_cases q4 : (V 6 9) = 125
  · refine g_top (v := 125) q4 ?_
    have fq4 : ((V 6 9)).toInt = 125 := b_eq rfl (by decide) q4
    refine lv_lookup (x := 125) (off := 49) (tgt := 64) hx hb dX1_readMember_15 (by decide) (by decide) (by decide) ?_
    refine lv_aload_n hx hb dX1_readMember_64 rfl (lv_at hl 1 rfl) ?_
    refine lv_null hx hb dX1_readMember_65 ?_
    refine va_put (D := D) (ci := 1) (v := .null) (ty := tyX1 2) (fs := (xfReader ad V L Z)) (C := RX1) (T := TX1) (N := 9) hx hb hg inX1 tyX1 tyX1_ok nmX1 hown hK hP hD hS 1 xgReader rfl 2 (by decide) (hg _ w306) (fun _ h9 => h9) rfl (tyX1_ok 2 (by decide)) rfl rfl (Nat.le_of_ble_eq_true rfl) dX1_readMember_66 (fun H locs hP hD hS => ?_)
    obtain ⟨V5, hV5⟩ : ∃ z, z = up2 V 1 2 (-1) := ⟨_, rfl⟩
    have ew6 : (xw ad kk V L Z).set 1 ((ad 1), .inr (1, (xfReader ad V L Z).set 2 (.null))) = xw ad kk V5 L Z := by rw [hV5]; exact xr_owner_n
    have hP : va_P D vwCl (xw ad kk V5 L Z) H := by rw [← ew6]; exact hP
    have hD : va_D A (xw ad kk V5 L Z) := by rw [← ew6]; exact hD
    have hMV5 : rgd bX V5 := hMV.put hV5 (by decide)
    have agV5 : agr [(1, 2), (1, 3), (1, 4), (1, 6), (1, 8), (6, 8), (6, 9), (6, 10)] [42, 43, 44, 48, 49, 56, 57, 58, 59, 60, 61] V V5 := agV.up hV5 rfl
    have rl7 : RelC V5 L b gT gs := RelC.on rel hV5 (by decide)
    refine lv_aload_n hx hb dX1_readMember_69 rfl (lv_at hl 1 rfl) ?_
    refine va_get (D := D) (ci := 1) (v := .ref (ad 6)) (fs := (xfReader ad V5 L Z)) (C := RX1) (T := TX1) (N := 9) hx hb hg inX1 hown hK hP 1 xgReader rfl 0 (by decide) (hg _ w304) (fun _ h9 => h9) rfl dX1_readMember_70 ?_
    have hr8 : ∀ k, Rc gT (Crun gs (Imember :: k)) (Crun gs (Imember :: k)) := fun k => Rc.rf
    have kd9 : gT.1 (gs.1 0) = ((V 6 9)).toInt := (RelC.kd rl7).trans (congrArg Int32.toInt (up2_o hV5 (by decide)))
    have hr10 : ∀ k, Rc gT (Crun gs (Imember :: k)) (Crun (nx gs 1) (Istmt :: k)) := fun k => Rc.go1 (hr8 k) (mb_125 (kd9.trans fq4))
    have l811 := RelC.l8 rl7
    have pq12 : (V5 6 8).toInt = ((V 6 8)).toInt := congrArg Int32.toInt (up2_o hV5 (by decide))
    have r13 : 0 ≤ ((V 6 8)).toInt ∧ ((V 6 8)).toInt ≤ 4000 := hMV 6 8
    have pq14 : (V5 6 7).toInt = ((V 6 7)).toInt := congrArg Int32.toInt (up2_o hV5 (by decide))
    have r15 : 0 ≤ ((V 6 7)).toInt ∧ ((V 6 7)).toInt ≤ 4000 := hMV 6 7
    have pq16 : (V5 6 9).toInt = ((V 6 9)).toInt := congrArg Int32.toInt (up2_o hV5 (by decide))
    have lk17 := RelC.lk rl7 (show (V5 6 9).toInt ≠ 0 from by (first | exact om_803d1b3fda03 fq4 pq16 | omega))
    refine gA_void (gA_runV (As := []) (rest := []) (ci := 9) (q0 := 6) hx hb hml hown hg hP hD hK hS hA hnw hgk (x_next2 l D ks H.size ad kk V5 L Z  hMV5 (show (V5 6 8).toInt ≤ (V5 6 7).toInt from by (first | exact om_f4906d00fa52 l811 | omega))) w871 w852 w853 w157 w854 rfl xgTape hdV_yX9_next ⟨Nat.le_of_ble_eq_true rfl, Nat.le_of_ble_eq_true rfl⟩ rfl hl.1 rfl (Nat.le_of_ble_eq_true rfl) dX1_readMember_73 ⟨Nat.le_of_ble_eq_true rfl, Nat.le_of_ble_eq_true rfl⟩) hP hD hK hS hA (fun u19 H locs w20 hP hD hK hS => ?_)
    obtain ⟨V23, L24⟩ := u19
    obtain ⟨hMV23, ajV23, axL24, t21, t22⟩ := w20
    have alL24 : agL [6, 44] L L24 := agL.tr alL axL24 (by decide)
    have hP : va_P D vwCl (xw ad kk V23 L24 Z) H := hP
    have hD : va_D A (xw ad kk V23 L24 Z) := hD
    have hMV23 : rgd bX V23 := hMV23
    have ajV23 : agr [(6, 8), (6, 9), (6, 10)] [] V5 V23 := ajV23
    have agV23 : agr [(1, 2), (1, 3), (1, 4), (1, 6), (1, 8), (6, 8), (6, 9), (6, 10)] [42, 43, 44, 48, 49, 56, 57, 58, 59, 60, 61] V V23 := agV5.tr ajV23 (by decide) (by decide)
    have t21 : (V23 6 8).toInt ≤ (V23 6 7).toInt := t21
    have t22 : CUR V23 L24 (Int32.toNatClampNeg (V5 6 8)) := t22
    have r25 : 0 ≤ ((V23 6 8)).toInt ∧ ((V23 6 8)).toInt ≤ 4000 := hMV23 6 8
    have pq26 : (V23 6 7).toInt = ((V 6 7)).toInt := congrArg Int32.toInt ((ajV23 6 7 rfl).trans (up2_o hV5 (by decide)))
    have rl27 : RelC V23 L24 b gT (nx gs 1) := RelC.nx1 rl7 ajV23 (by decide) axL24 (by decide) (by rw [← lk17]; exact t22) (ajV23 1 3 rfl)
    refine lv_iconst (v := 1) hx hb dX1_readMember_76 (by decide) ?_
    have pq28 : (V23 1 2).toInt = (-1) := (congrArg Int32.toInt ((ajV23 1 2 rfl).trans (up2_s hV5))).trans (by decide)
    have ps29 : gs.1 0 + 1 ≤ (nx gs 1).1 0 := ((keepS.n1 1)).1
    have cn30 : CNc V23 b gs := CNc.ag cno.1 (show agr [(1, 2), (6, 8), (6, 9), (6, 10)] [] V V23 from (agr.tr (agr.up agr.rf hV5 rfl) ajV23 (by decide) (by decide))) (by decide) keepC.rf
    have cn31 : CNc V23 b (nx gs 1) := CNc.mv cn30 (fun _ _ _ => rfl) (keepC.tr (keepC.rf : keepC gs gs) (keepS.c (keepS.n1 1)))
    have cd32 : CDc V23 b gs := CDc.ag ceo.1 (show agr [(1, 2), (6, 8), (6, 9), (6, 10)] [] V V23 from (agr.tr (agr.up agr.rf hV5 rfl) ajV23 (by decide) (by decide))) (fun _ => rfl) (fun _ => rfl)
    have cd33 : CDc V23 b (nx gs 1) := CDc.mv cd32 (show ∀ j9, j9 = 5 ∨ 2000 ≤ j9 → (nx gs 1).2.1 j9 = gs.2.1 j9 from fun j9 h9 => (show ∀ j9, 5 ≤ j9 → (nx gs 1).2.1 j9 = gs.2.1 j9 from fun _ _ => rfl) j9 (by omega))
    have re34 : REc V23 b gs := REc.ag ceo.2.1 (show agr [(1, 2), (6, 8), (6, 9), (6, 10)] [] V V23 from (agr.tr (agr.up agr.rf hV5 rfl) ajV23 (by decide) (by decide))) (fun _ => rfl) (fun _ => rfl) (fun _ => rfl) keepE.rf rfl
    have re35 : REc V23 b (nx gs 1) := REc.mv re34 (fun _ _ _ _ => rfl) (keepE.tr (keepE.rf : keepE gs gs) (show keepE gs (nx gs 1) from keepE.eq (show ∀ j9, 5 ≤ j9 → (nx gs 1).2.1 j9 = gs.2.1 j9 from fun _ _ => rfl))) (((show keepS gs 1 (nx gs 1) from (keepS.n1 1)).2.2.1 2 (by decide)).trans (rfl : gs.2.1 2 = gs.2.1 2))
    have ww36 : WWc V23 b gs := WWc.ag ceo.2.2.1 (show agr [(1, 2), (6, 8), (6, 9), (6, 10)] [] V V23 from (agr.tr (agr.up agr.rf hV5 rfl) ajV23 (by decide) (by decide))) (fun _ => ⟨rfl, rfl, rfl, rfl, rfl⟩) keepE.rf rfl
    have ww37 : WWc V23 b (nx gs 1) := WWc.mv ww36 (fun _ _ _ _ _ => rfl) (keepE.tr (keepE.rf : keepE gs gs) (show keepE gs (nx gs 1) from keepE.eq (show ∀ j9, 5 ≤ j9 → (nx gs 1).2.1 j9 = gs.2.1 j9 from fun _ _ => rfl))) ((congrArg (fun q9 : List (Nat × Bool) × List Nat => q9.1) (show keepS gs 1 (nx gs 1) from (keepS.n1 1)).2.2.2).trans (rfl : gs.2.2.1 = gs.2.2.1))
    have hwl : wl gs ≤ 2 * gs.1 0 := ceo.2.2.2
    have wk38 : wl (nx gs 1) = wl gs ∧ (nx gs 1).1 0 = gs.1 0 + 1 := ⟨rfl, rfl⟩
    have rw39 : ROWL b L L24 := (fun k hk => ((axL24 44 k rfl).trans rfl))
    exact W.zret (v := 1) hx hb hr rfl (fun t ht hW => ⟨⟨1, (V23, L24), rfl, ⟨hMV23, agV23, alL24, (by decide), (show (V23 1 2).toInt = (V 1 2).toInt ∨ (V23 1 2).toInt = -1 from by (first | exact om_6f48dc75c980 pq28 | omega)), (Or.inl ⟨rfl, (nx gs 1), (fun k => show Rc gT (Crun gs (Imember :: k)) (Crun (nx gs 1) (nxI (V23 1 2) k)) from by rw [nxI_s (show (V23 1 2).toInt < 0 from by (first | exact om_2942e3fd8b93 pq28 | omega))]; exact hr10 k), rl27, (by omega), ⟨cn31, (OWl.n (show (V23 1 2).toInt < 0 from by (first | exact om_2942e3fd8b93 pq28 | omega)))⟩, ⟨cd33, re35, ww37, (show wl (nx gs 1) ≤ 2 * (nx gs 1).1 0 from by omega)⟩⟩), rw39⟩, by rw [ht]; exact hP, va_K.moved hW.alike hK, hD⟩, hS.F ht⟩) hS.2.2 dX1_readMember_77
  have gq4 : ((V 6 9)).toInt ≠ 125 := b_neq rfl (by decide) q4
  by_cases q40 : (V 6 9) = 137
  · refine g_top (v := 137) q40 ?_
    have fq40 : ((V 6 9)).toInt = 137 := b_eq rfl (by decide) q40
    refine lv_lookup (x := 137) (off := 63) (tgt := 78) hx hb dX1_readMember_15 (by decide) (by decide) (by decide) ?_
    refine lv_aload_n hx hb dX1_readMember_78 rfl (lv_at hl 1 rfl) ?_
    have hr41 : ∀ k, Rc gT (Crun gs (Imember :: k)) (Crun gs (Imember :: k)) := fun k => Rc.rf
    refine gA_int (gA_runV (As := []) (rest := []) (ci := 1) (q0 := 1) hx hb hml hown hg hP hD hK hS hA hnw hgk (x_readNeed3 l D ks H.size ad kk V L Z (b) (gT) (gs) (go) hMV (show b < 2 from by (first | exact om_f940a4667dd6 hb2 | omega)) (show (V 1 1).toInt = (b : Int) from by (first | exact om_08e0c9701055 rbk | omega)) (show (V 1 2).toInt = (go : Int) from by (first | exact om_08e0c9701055 own | omega)) (show go < 48 from by (first | exact om_ed409a757601 hb2 hgh | omega)) (show 24 * b ≤ go from by (first | exact om_ef8c008e8399 hgl | omega)) (show go < 24 * b + 24 from by (first | exact om_8af120267f01 hgh | omega)) rel cno ceo (show (V 6 9).toInt = 137 from by (first | exact om_54ee45d20327 fq40 | omega))) w1007 w1009 w32 w162 w1010 rfl xgReader hdV_yX1_readNeed ⟨Nat.le_of_ble_eq_true rfl, Nat.le_of_ble_eq_true rfl⟩ rfl hl.1 rfl (Nat.le_of_ble_eq_true rfl) dX1_readMember_79 ⟨Nat.le_of_ble_eq_true rfl, Nat.le_of_ble_eq_true rfl⟩) hP hD hK hS hA (fun z42 u43 H locs w44 hP hD hK hS => ?_)
    obtain ⟨V47, L48⟩ := u43
    obtain ⟨hMV47, ajV47, axL48, rgz42, t45, t46⟩ := w44
    have alL48 : agL [6, 44] L L48 := agL.tr alL axL48 (by decide)
    have hP : va_P D vwCl (xw ad kk V47 L48 Z) H := hP
    have hD : va_D A (xw ad kk V47 L48 Z) := hD
    have hMV47 : rgd bX V47 := hMV47
    have ajV47 : agr [(1, 3), (1, 6), (6, 8), (6, 9), (6, 10)] [43, 44, 49, 58, 59, 60] V V47 := ajV47
    have agV47 : agr [(1, 2), (1, 3), (1, 4), (1, 6), (1, 8), (6, 8), (6, 9), (6, 10)] [42, 43, 44, 48, 49, 56, 57, 58, 59, 60, 61] V V47 := agV.tr ajV47 (by decide) (by decide)
    have rgz42 : 0 ≤ z42.toInt ∧ z42.toInt ≤ 1 := rgz42
    have t45 : Rd gT gs (fun k => Imember :: k) (fun k => Imember :: k) z42.toInt (V47 1 3).toInt (fun s9 => RelC V47 L48 b gT s9 ∧ gs.1 0 + 1 ≤ s9.1 0 ∧ CNo V47 b s9 ∧ CEo V47 b s9) := t45
    have t46 : ROWL b L L48 := t46
    rcases t45 with ⟨q49, sx50, h51, rl52, kp53, cn54, ce55⟩ | ⟨q49, h51⟩
    · skip
      have hr56 : ∀ k, Rc gT (Crun gs (Imember :: k)) (Crun sx50 (Imember :: k)) := fun k => (hr41 k).tr (h51 k)
      have pq57 : (V47 1 2).toInt = ((V 1 2)).toInt := congrArg Int32.toInt (ajV47 1 2 rfl)
      have ps58 : gs.1 0 + 1 ≤ sx50.1 0 := kp53
      have hwl : wl gs ≤ 2 * gs.1 0 := ceo.2.2.2
      have wk59 : wl sx50 ≤ 2 * sx50.1 0 := ce55.2.2.2
      have rw60 : ROWL b L L48 := (fun k hk => ((t46 k hk).trans rfl))
      exact W.zret (v := z42) hx hb hr (nb_ok (by omega)) (fun t ht hW => ⟨⟨z42, (V47, L48), rfl, ⟨hMV47, agV47, alL48, (show 0 ≤ z42.toInt ∧ z42.toInt ≤ 1 from by (first | exact om_eb7af9d60398 rgz42.1 rgz42.2 | omega)), (show (V47 1 2).toInt = (V 1 2).toInt ∨ (V47 1 2).toInt = -1 from by (first | exact om_170aa16621ff pq57 | omega)), (Or.inl ⟨(by omega), sx50, (fun k => show Rc gT (Crun gs (Imember :: k)) (Crun sx50 (nxI (V47 1 2) k)) from by rw [nxI_m (show 0 ≤ (V47 1 2).toInt from by (first | exact om_69dfcb33e50b own hgl pq57 | omega))]; exact hr56 k), rl52, (by omega), ⟨cn54.1, cn54.2⟩, ⟨ce55.1, ce55.2.1, ce55.2.2.1, (show wl sx50 ≤ 2 * sx50.1 0 from by omega)⟩⟩), rw60⟩, by rw [ht]; exact hP, va_K.moved hW.alike hK, hD⟩, hS.F ht⟩) hS.2.2 dX1_readMember_82
    · skip
      have hb61 : ∀ k, Rc gT (Crun gs (Imember :: k)) (Cbad (V47 1 3).toInt) := fun k => (hr41 k).tr (h51 k)
      have pq62 : (V47 1 2).toInt = ((V 1 2)).toInt := congrArg Int32.toInt (ajV47 1 2 rfl)
      have rw63 : ROWL b L L48 := (fun k hk => ((t46 k hk).trans rfl))
      exact W.zret (v := z42) hx hb hr (nb_ok (by omega)) (fun t ht hW => ⟨⟨z42, (V47, L48), rfl, ⟨hMV47, agV47, alL48, (show 0 ≤ z42.toInt ∧ z42.toInt ≤ 1 from by (first | exact om_eb7af9d60398 rgz42.1 rgz42.2 | omega)), (show (V47 1 2).toInt = (V 1 2).toInt ∨ (V47 1 2).toInt = -1 from by (first | exact om_170aa16621ff pq62 | omega)), (Or.inr ⟨(by omega), hb61⟩), rw63⟩, by rw [ht]; exact hP, va_K.moved hW.alike hK, hD⟩, hS.F ht⟩) hS.2.2 dX1_readMember_82
  have gq40 : ((V 6 9)).toInt ≠ 137 := b_neq rfl (by decide) q40
  by_cases q64 : (V 6 9) = 140
  · refine g_top (v := 140) q64 ?_
    have fq64 : ((V 6 9)).toInt = 140 := b_eq rfl (by decide) q64
    refine lv_lookup (x := 140) (off := 68) (tgt := 83) hx hb dX1_readMember_15 (by decide) (by decide) (by decide) ?_
    refine lv_aload_n hx hb dX1_readMember_83 rfl (lv_at hl 1 rfl) ?_
    refine va_get (D := D) (ci := 1) (v := rfN ad 72 (V 1 2)) (fs := (xfReader ad V L Z)) (C := RX1) (T := TX1) (N := 9) hx hb hg inX1 hown hK hP 1 xgReader rfl 2 (by decide) (hg _ w306) (fun _ h9 => h9) rfl dX1_readMember_84 ?_
    refine g_topv (v := .ref (ad (72 + go))) (rfN_r (by omega)) ?_
    refine va_getN (D := D) (ci := 3) (v := .int (V 56 go)) (fs := (xfComp ad V go)) (C := RX3) (T := TX3) (N := 13) hx hb hg inX3 hown hK hP (72 + go) (xgComp hgo) rfl 11 (by decide) (hnw.use 538 n538 rfl) (fun _ h9 => h9) rfl dX1_readMember_87 ?_
    have r65 : (-1) ≤ ((V 56 go)).toInt ∧ ((V 56 go)).toInt ≤ 8200 := hMV 56 go
    refine lv_iconst (v := (-1)) hx hb dX1_readMember_90 (by decide) ?_
    refine lv_icmp_eq (tgt := 100) hx hb dX1_readMember_91 (by decide) (fun c66 => ?_) (fun c66 => ?_)
    · skip
      have f67 : ((V 56 go)).toInt = (-1) := b_eq rfl (by decide) c66
      have hr68 : ∀ k, Rc gT (Crun gs (Imember :: k)) (Crun gs (Imember :: k)) := fun k => Rc.rf
      have kd69 : gT.1 (gs.1 0) = ((V 6 9)).toInt := RelC.kd rel
      have hr70 : ∀ k, Rc gT (Crun gs (Imember :: k)) (Crun (sL (nx (sN gs 2 1) 1) (100 + 32 * ((gs.2.1 2).length - 1) + 30) (cl gs + 1)) (Iexpr 0 :: Iem 0 :: Itake 59 :: Imember :: k)) := fun k => Rc.go1 (hr68 k) (mb_140 (kd69.trans fq64) (ow0.2.1.mp (by omega)))
      refine lv_aload_n hx hb dX1_readMember_100 rfl (lv_at hl 1 rfl) ?_
      refine va_get (D := D) (ci := 1) (v := rfN ad 72 (V 1 2)) (fs := (xfReader ad V L Z)) (C := RX1) (T := TX1) (N := 9) hx hb hg inX1 hown hK hP 1 xgReader rfl 2 (by decide) (hg _ w306) (fun _ h9 => h9) rfl dX1_readMember_101 ?_
      refine g_topv (v := .ref (ad (72 + go))) (rfN_r (by omega)) ?_
      refine lv_iload_n hx hb dX1_readMember_104 rfl (lv_at hl 0 rfl) ?_
      refine va_putN (D := D) (ci := 3) (v := .int (V 42 b)) (ty := tyX3 11) (fs := (xfComp ad V go)) (C := RX3) (T := TX3) (N := 13) hx hb hg inX3 tyX3 tyX3_ok nmX3 hown hK hP hD hS (72 + go) (xgComp hgo) rfl 11 (by decide) (hnw.use 538 n538 rfl) (fun _ h9 => h9) rfl (tyX3_ok 11 (by decide)) rfl rfl (Nat.le_of_ble_eq_true rfl) dX1_readMember_105 (fun H locs hP hD hS => ?_)
      obtain ⟨V71, hV71⟩ : ∃ z, z = up2 V 56 go (V 42 b) := ⟨_, rfl⟩
      have ew72 : (xw ad kk V L Z).set (72 + go) ((ad (72 + go)), .inr (3, (xfComp ad V go).set 11 (.int (V 42 b)))) = xw ad kk V71 L Z := by rw [hV71]; exact xpComp_openedStart hgo
      have hP : va_P D vwCl (xw ad kk V71 L Z) H := by rw [← ew72]; exact hP
      have hD : va_D A (xw ad kk V71 L Z) := by rw [← ew72]; exact hD
      have hMV71 : rgd bX V71 := hMV.put hV71 (show (-1) ≤ ((V 42 b)).toInt ∧ ((V 42 b)).toInt ≤ 8200 from by (first | exact om_7591b83d41f0 r3.1 r3.2 | omega))
      have agV71 : agr [(1, 2), (1, 3), (1, 4), (1, 6), (1, 8), (6, 8), (6, 9), (6, 10)] [42, 43, 44, 48, 49, 56, 57, 58, 59, 60, 61] V V71 := agV.up hV71 rfl
      have rl73 : RelC V71 L b gT (sN gs 2 1) := RelC.op rel (show (V 1 2).toInt = ((go : Nat) : Int) from by (first | exact om_08e0c9701055 own | omega)) hV71 (show ((V 42 b)).toInt ≠ -1 from by (first | exact om_b308bcc79c23 r3.1 | omega))
      have re74 : REc V71 b (sL (nx (sN gs 2 1) 1) (100 + 32 * ((gs.2.1 2).length - 1) + 30) (cl gs + 1)) := REc.st ceo.2.1 (Or.inr (Or.inl rfl)) gol hgl (cR_30 hV71) (show ((V 42 b)).toInt = ((wl gs : Nat) : Int) from ceo.1.1) (fun _ _ => rfl) rfl
      refine lv_aload_n hx hb dX1_readMember_108 rfl (lv_at hl 1 rfl) ?_
      refine va_get (D := D) (ci := 1) (v := .ref (ad 6)) (fs := (xfReader ad V71 L Z)) (C := RX1) (T := TX1) (N := 9) hx hb hg inX1 hown hK hP 1 xgReader rfl 0 (by decide) (hg _ w304) (fun _ h9 => h9) rfl dX1_readMember_109 ?_
      have l875 := RelC.l8 rl73
      have pq76 : (V71 6 8).toInt = ((V 6 8)).toInt := congrArg Int32.toInt (up2_o hV71 (by decide))
      have r77 : 0 ≤ ((V 6 8)).toInt ∧ ((V 6 8)).toInt ≤ 4000 := hMV 6 8
      have pq78 : (V71 6 7).toInt = ((V 6 7)).toInt := congrArg Int32.toInt (up2_o hV71 (by decide))
      have r79 : 0 ≤ ((V 6 7)).toInt ∧ ((V 6 7)).toInt ≤ 4000 := hMV 6 7
      have pq80 : (V71 6 9).toInt = ((V 6 9)).toInt := congrArg Int32.toInt (up2_o hV71 (by decide))
      have lk81 := RelC.lk rl73 (show (V71 6 9).toInt ≠ 0 from by (first | exact om_76305e1b0f3d fq64 pq80 | omega))
      refine gA_void (gA_runV (As := []) (rest := []) (ci := 9) (q0 := 6) hx hb hml hown hg hP hD hK hS hA hnw hgk (x_next2 l D ks H.size ad kk V71 L Z  hMV71 (show (V71 6 8).toInt ≤ (V71 6 7).toInt from by (first | exact om_f4906d00fa52 l875 | omega))) w871 w852 w853 w157 w854 rfl xgTape hdV_yX9_next ⟨Nat.le_of_ble_eq_true rfl, Nat.le_of_ble_eq_true rfl⟩ rfl hl.1 rfl (Nat.le_of_ble_eq_true rfl) dX1_readMember_112 ⟨Nat.le_of_ble_eq_true rfl, Nat.le_of_ble_eq_true rfl⟩) hP hD hK hS hA (fun u83 H locs w84 hP hD hK hS => ?_)
      obtain ⟨V87, L88⟩ := u83
      obtain ⟨hMV87, ajV87, axL88, t85, t86⟩ := w84
      have alL88 : agL [6, 44] L L88 := agL.tr alL axL88 (by decide)
      have hP : va_P D vwCl (xw ad kk V87 L88 Z) H := hP
      have hD : va_D A (xw ad kk V87 L88 Z) := hD
      have hMV87 : rgd bX V87 := hMV87
      have ajV87 : agr [(6, 8), (6, 9), (6, 10)] [] V71 V87 := ajV87
      have agV87 : agr [(1, 2), (1, 3), (1, 4), (1, 6), (1, 8), (6, 8), (6, 9), (6, 10)] [42, 43, 44, 48, 49, 56, 57, 58, 59, 60, 61] V V87 := agV71.tr ajV87 (by decide) (by decide)
      have t85 : (V87 6 8).toInt ≤ (V87 6 7).toInt := t85
      have t86 : CUR V87 L88 (Int32.toNatClampNeg (V71 6 8)) := t86
      have r89 : 0 ≤ ((V87 6 8)).toInt ∧ ((V87 6 8)).toInt ≤ 4000 := hMV87 6 8
      have pq90 : (V87 6 7).toInt = ((V 6 7)).toInt := congrArg Int32.toInt ((ajV87 6 7 rfl).trans (up2_o hV71 (by decide)))
      have rl91 : RelC V87 L88 b gT (nx (sN gs 2 1) 1) := RelC.nx1 rl73 ajV87 (by decide) axL88 (by decide) (by rw [← lk81]; exact t86) (ajV87 1 3 rfl)
      have rl92 : RelC V87 L88 b gT (sL (nx (sN gs 2 1) 1) (100 + 32 * ((gs.2.1 2).length - 1) + 30) (cl gs + 1)) := RelC.gl rl91 (by omega)
      refine lv_aload_n hx hb dX1_readMember_115 rfl (lv_at hl 1 rfl) ?_
      refine lv_iconst (v := 0) hx hb dX1_readMember_116 (by decide) ?_
      have pq94 : (V87 1 2).toInt = ((V 1 2)).toInt := congrArg Int32.toInt ((ajV87 1 2 rfl).trans (up2_o hV71 (by decide)))
      have w493 := (RelC.ow rl92 (show (V87 1 2).toInt = ((go : Nat) : Int) from by (first | exact om_adf531c77a0d own pq94 | omega))).2.2.2.1
      have r95 : Int32.toInt 0 = 0 := by decide
      have pq96 : (V87 1 1).toInt = ((V 1 1)).toInt := congrArg Int32.toInt ((ajV87 1 1 rfl).trans (up2_o hV71 (by decide)))
      have cd97 : CDc V87 b gs := CDc.ag ceo.1 (show agr [(6, 8), (6, 9), (6, 10)] [56] V V87 from (agr.tr (agr.up agr.rf hV71 rfl) ajV87 (by decide) (by decide))) (fun _ => rfl) (fun _ => rfl)
      have cd98 : CDc V87 b (sL (nx (sN gs 2 1) 1) (100 + 32 * ((gs.2.1 2).length - 1) + 30) (cl gs + 1)) := CDc.mv cd97 (fun j9 h9 => ((show ∀ j9, j9 = 5 ∨ 2000 ≤ j9 → (sL (nx (sN gs 2 1) 1) (100 + 32 * ((gs.2.1 2).length - 1) + 30) (cl gs + 1)).2.1 j9 = (nx (sN gs 2 1) 1).2.1 j9 from fun j9 h9 => sL_o _ _ (by have h9 := ceo.2.1.1; omega)) j9 h9).trans ((fun j9 h9 => ((show ∀ j9, j9 = 5 ∨ 2000 ≤ j9 → (nx (sN gs 2 1) 1).2.1 j9 = (sN gs 2 1).2.1 j9 from fun j9 h9 => (show ∀ j9, 5 ≤ j9 → (nx (sN gs 2 1) 1).2.1 j9 = (sN gs 2 1).2.1 j9 from fun _ _ => rfl) j9 (by omega)) j9 h9).trans ((show ∀ j9, j9 = 5 ∨ 2000 ≤ j9 → (sN gs 2 1).2.1 j9 = gs.2.1 j9 from fun j9 h9 => (show ∀ j9, 5 ≤ j9 → (sN gs 2 1).2.1 j9 = gs.2.1 j9 from fun _ _ => rfl) j9 (by omega)) j9 h9)) j9 h9))
      have hwl : wl gs ≤ 2 * gs.1 0 := ceo.2.2.2
      have wk99 : wl (sN gs 2 1) = wl gs ∧ (sN gs 2 1).1 0 = gs.1 0 := ⟨wl_e (show ∀ j9, j9 = 5 ∨ 2000 ≤ j9 → (sN gs 2 1).2.1 j9 = gs.2.1 j9 from fun j9 h9 => (show ∀ j9, 5 ≤ j9 → (sN gs 2 1).2.1 j9 = gs.2.1 j9 from fun _ _ => rfl) j9 (by omega)), rfl⟩
      have wk100 : wl (nx (sN gs 2 1) 1) = wl (sN gs 2 1) ∧ (nx (sN gs 2 1) 1).1 0 = (sN gs 2 1).1 0 + 1 := ⟨rfl, rfl⟩
      have wk101 : wl (sL (nx (sN gs 2 1) 1) (100 + 32 * ((gs.2.1 2).length - 1) + 30) (cl gs + 1)) = wl (nx (sN gs 2 1) 1) ∧ (sL (nx (sN gs 2 1) 1) (100 + 32 * ((gs.2.1 2).length - 1) + 30) (cl gs + 1)).1 0 = (nx (sN gs 2 1) 1).1 0 := ⟨wl_e (show ∀ j9, j9 = 5 ∨ 2000 ≤ j9 → (sL (nx (sN gs 2 1) 1) (100 + 32 * ((gs.2.1 2).length - 1) + 30) (cl gs + 1)).2.1 j9 = (nx (sN gs 2 1) 1).2.1 j9 from fun j9 h9 => sL_o _ _ (by have h9 := ceo.2.1.1; omega)), rfl⟩
      refine gA_int (gA_runV (As := [.int 0]) (rest := []) (ci := 1) (q0 := 1) hx hb hml hown hg hP hD hK hS hA hnw hgk (x_readE3 l D ks H.size ad kk V87 L88 Z 0 (b) (gT) ((sL (nx (sN gs 2 1) 1) (100 + 32 * ((gs.2.1 2).length - 1) + 30) (cl gs + 1))) hMV87 (by decide) (show b < 2 from by (first | exact om_f940a4667dd6 hb2 | omega)) (show (V87 1 1).toInt = (b : Int) from by (first | exact om_adf531c77a0d rbk pq96 | omega)) rl92 cd98 (show wl (sL (nx (sN gs 2 1) 1) (100 + 32 * ((gs.2.1 2).length - 1) + 30) (cl gs + 1)) ≤ 2 * (sL (nx (sN gs 2 1) 1) (100 + 32 * ((gs.2.1 2).length - 1) + 30) (cl gs + 1)).1 0 from by omega) (show (Int32.toInt 0) = (((sL (nx (sN gs 2 1) 1) (100 + 32 * ((gs.2.1 2).length - 1) + 30) (cl gs + 1)).1 4 : Nat) : Int) from by omega) (fun _ => (show 0 ≤ (V87 1 2).toInt from by (first | exact om_69dfcb33e50b own hgl pq94 | omega)))) w947 w949 w20 w162 w950 rfl xgReader hdV_yX1_readE ⟨Nat.le_of_ble_eq_true rfl, Nat.le_of_ble_eq_true rfl⟩ rfl hl.1 rfl (Nat.le_of_ble_eq_true rfl) dX1_readMember_117 ⟨Nat.le_of_ble_eq_true rfl, Nat.le_of_ble_eq_true rfl⟩) hP hD hK hS hA (fun z102 u103 H locs w104 hP hD hK hS => ?_)
      obtain ⟨V107, L108⟩ := u103
      obtain ⟨hMV107, ajV107, axL108, rgz102, t105, t106⟩ := w104
      have alL108 : agL [6, 44] L L108 := agL.tr alL88 axL108 (by decide)
      have hP : va_P D vwCl (xw ad kk V107 L108 Z) H := hP
      have hD : va_D A (xw ad kk V107 L108 Z) := hD
      have hMV107 : rgd bX V107 := hMV107
      have ajV107 : agr [(1, 3), (1, 4), (1, 6), (1, 8), (6, 8), (6, 9), (6, 10)] [42, 43, 44, 48] V87 V107 := ajV107
      have agV107 : agr [(1, 2), (1, 3), (1, 4), (1, 6), (1, 8), (6, 8), (6, 9), (6, 10)] [42, 43, 44, 48, 49, 56, 57, 58, 59, 60, 61] V V107 := agV87.tr ajV107 (by decide) (by decide)
      have rgz102 : 0 ≤ z102.toInt ∧ z102.toInt ≤ 1 := rgz102
      have t105 : Rd gT (sL (nx (sN gs 2 1) 1) (100 + 32 * ((gs.2.1 2).length - 1) + 30) (cl gs + 1)) (fun k => Iexpr 0 :: Iem 0 :: Itake 59 :: k) (fun k => k) z102.toInt (V107 1 3).toInt (fun s9 => RelC V107 L108 b gT s9 ∧ keepS (sL (nx (sN gs 2 1) 1) (100 + 32 * ((gs.2.1 2).length - 1) + 30) (cl gs + 1)) 2 s9 ∧ keepE (sL (nx (sN gs 2 1) 1) (100 + 32 * ((gs.2.1 2).length - 1) + 30) (cl gs + 1)) s9 ∧ CDc V107 b s9 ∧ wl s9 + 2 * (sL (nx (sN gs 2 1) 1) (100 + 32 * ((gs.2.1 2).length - 1) + 30) (cl gs + 1)).1 0 ≤ wl (sL (nx (sN gs 2 1) 1) (100 + 32 * ((gs.2.1 2).length - 1) + 30) (cl gs + 1)) + 2 * s9.1 0 + 0) := t105
      have t106 : ROWL b L88 L108 := t106
      rcases t105 with ⟨q109, sx110, h111, rl112, kp113, ke114, cd115, wd116⟩ | ⟨q109, h111⟩
      · skip
        have hr117 : ∀ k, Rc gT (Crun gs (Imember :: k)) (Crun sx110 (Imember :: k)) := fun k => (hr70 k).tr (h111 (Imember :: k))
        have pq118 : (V107 1 2).toInt = ((V 1 2)).toInt := congrArg Int32.toInt ((ajV107 1 2 rfl).trans ((ajV87 1 2 rfl).trans (up2_o hV71 (by decide))))
        have ps119 : (sN gs 2 1).1 0 = gs.1 0 := rfl
        have ps120 : (sN gs 2 1).1 0 + 1 ≤ (nx (sN gs 2 1) 1).1 0 := ((keepS.n1 1)).1
        have ps121 : (nx (sN gs 2 1) 1).1 0 + 0 ≤ (sL (nx (sN gs 2 1) 1) (100 + 32 * ((gs.2.1 2).length - 1) + 30) (cl gs + 1)).1 0 := ((show keepS (nx (sN gs 2 1) 1) 0 (sL (nx (sN gs 2 1) 1) (100 + 32 * ((gs.2.1 2).length - 1) + 30) (cl gs + 1)) from keepS.gl (by omega))).1
        have ps122 : (sL (nx (sN gs 2 1) 1) (100 + 32 * ((gs.2.1 2).length - 1) + 30) (cl gs + 1)).1 0 + 2 ≤ sx110.1 0 := (kp113).1
        have cn123 : CNc V107 b gs := CNc.ag cno.1 (show agr [(1, 3), (1, 4), (1, 6), (1, 8), (6, 8), (6, 9), (6, 10)] [42, 43, 44, 48, 56] V V107 from (agr.tr (agr.tr (agr.up agr.rf hV71 rfl) ajV87 (by decide) (by decide)) ajV107 (by decide) (by decide))) (by decide) keepC.rf
        have cn124 : CNc V107 b sx110 := CNc.mv cn123 (fun _ _ _ => rfl) (keepC.tr (keepC.tr (keepC.tr (keepC.tr (keepC.rf : keepC gs gs) (keepC.sn (by decide) : keepC gs (sN gs 2 1))) (keepS.c (keepS.n1 1))) (keepS.c (show keepS (nx (sN gs 2 1) 1) 0 (sL (nx (sN gs 2 1) 1) (100 + 32 * ((gs.2.1 2).length - 1) + 30) (cl gs + 1)) from keepS.gl (by omega)))) (keepS.c kp113))
        have re125 : REc V107 b (sL (nx (sN gs 2 1) 1) (100 + 32 * ((gs.2.1 2).length - 1) + 30) (cl gs + 1)) := REc.ag re74 (show agr [(1, 3), (1, 4), (1, 6), (1, 8), (6, 8), (6, 9), (6, 10)] [42, 43, 44, 48] V71 V107 from (agr.tr (agr.tr agr.rf ajV87 (by decide) (by decide)) ajV107 (by decide) (by decide))) (fun _ => rfl) (fun _ => rfl) (fun _ => rfl) keepE.rf rfl
        have re126 : REc V107 b sx110 := REc.mv re125 (fun _ _ _ _ => rfl) (keepE.tr (keepE.rf : keepE (sL (nx (sN gs 2 1) 1) (100 + 32 * ((gs.2.1 2).length - 1) + 30) (cl gs + 1)) (sL (nx (sN gs 2 1) 1) (100 + 32 * ((gs.2.1 2).length - 1) + 30) (cl gs + 1))) ke114) (((show keepS (sL (nx (sN gs 2 1) 1) (100 + 32 * ((gs.2.1 2).length - 1) + 30) (cl gs + 1)) 2 sx110 from kp113).2.2.1 2 (by decide)).trans (rfl : (sL (nx (sN gs 2 1) 1) (100 + 32 * ((gs.2.1 2).length - 1) + 30) (cl gs + 1)).2.1 2 = (sL (nx (sN gs 2 1) 1) (100 + 32 * ((gs.2.1 2).length - 1) + 30) (cl gs + 1)).2.1 2))
        have ww127 : WWc V107 b gs := WWc.ag ceo.2.2.1 (show agr [(1, 3), (1, 4), (1, 6), (1, 8), (6, 8), (6, 9), (6, 10)] [42, 43, 44, 48, 56] V V107 from (agr.tr (agr.tr (agr.up agr.rf hV71 rfl) ajV87 (by decide) (by decide)) ajV107 (by decide) (by decide))) (fun _ => ⟨rfl, rfl, rfl, rfl, rfl⟩) keepE.rf rfl
        have ww128 : WWc V107 b (nx (sN gs 2 1) 1) := WWc.mv ww127 (fun _ _ _ _ _ => rfl) (keepE.tr (keepE.tr (keepE.rf : keepE gs gs) (show keepE gs (sN gs 2 1) from keepE.eq (show ∀ j9, 5 ≤ j9 → (sN gs 2 1).2.1 j9 = gs.2.1 j9 from fun _ _ => rfl))) (show keepE (sN gs 2 1) (nx (sN gs 2 1) 1) from keepE.eq (show ∀ j9, 5 ≤ j9 → (nx (sN gs 2 1) 1).2.1 j9 = (sN gs 2 1).2.1 j9 from fun _ _ => rfl))) ((congrArg (fun q9 : List (Nat × Bool) × List Nat => q9.1) (show keepS (sN gs 2 1) 1 (nx (sN gs 2 1) 1) from (keepS.n1 1)).2.2.2).trans ((rfl : (sN gs 2 1).2.2.1 = gs.2.2.1).trans (rfl : gs.2.2.1 = gs.2.2.1)))
        have ww129 : WWc V107 b (sL (nx (sN gs 2 1) 1) (100 + 32 * ((gs.2.1 2).length - 1) + 30) (cl gs + 1)) := WWc.gl ww128 (by omega) (by have h9 := ceo.2.1.1; omega)
        have ww130 : WWc V107 b sx110 := WWc.mv ww129 (fun _ _ _ _ _ => rfl) (keepE.tr (keepE.rf : keepE (sL (nx (sN gs 2 1) 1) (100 + 32 * ((gs.2.1 2).length - 1) + 30) (cl gs + 1)) (sL (nx (sN gs 2 1) 1) (100 + 32 * ((gs.2.1 2).length - 1) + 30) (cl gs + 1))) ke114) ((congrArg (fun q9 : List (Nat × Bool) × List Nat => q9.1) (show keepS (sL (nx (sN gs 2 1) 1) (100 + 32 * ((gs.2.1 2).length - 1) + 30) (cl gs + 1)) 2 sx110 from kp113).2.2.2).trans (rfl : (sL (nx (sN gs 2 1) 1) (100 + 32 * ((gs.2.1 2).length - 1) + 30) (cl gs + 1)).2.2.1 = (sL (nx (sN gs 2 1) 1) (100 + 32 * ((gs.2.1 2).length - 1) + 30) (cl gs + 1)).2.2.1))
        have wk131 : wl sx110 + 2 * (sL (nx (sN gs 2 1) 1) (100 + 32 * ((gs.2.1 2).length - 1) + 30) (cl gs + 1)).1 0 ≤ wl (sL (nx (sN gs 2 1) 1) (100 + 32 * ((gs.2.1 2).length - 1) + 30) (cl gs + 1)) + 2 * sx110.1 0 + 0 ∧ (sL (nx (sN gs 2 1) 1) (100 + 32 * ((gs.2.1 2).length - 1) + 30) (cl gs + 1)).1 0 + 1 ≤ sx110.1 0 := ⟨wd116, (keepS.le kp113 (by decide)).1⟩
        have rw132 : ROWL b L L108 := (fun k hk => ((t106 k hk).trans ((axL88 44 k rfl).trans rfl)))
        exact W.zret (v := z102) hx hb hr (nb_ok (by omega)) (fun t ht hW => ⟨⟨z102, (V107, L108), rfl, ⟨hMV107, agV107, alL108, (show 0 ≤ z102.toInt ∧ z102.toInt ≤ 1 from by (first | exact om_eb7af9d60398 rgz102.1 rgz102.2 | omega)), (show (V107 1 2).toInt = (V 1 2).toInt ∨ (V107 1 2).toInt = -1 from by (first | exact om_170aa16621ff pq118 | omega)), (Or.inl ⟨(by omega), sx110, (fun k => show Rc gT (Crun gs (Imember :: k)) (Crun sx110 (nxI (V107 1 2) k)) from by rw [nxI_m (show 0 ≤ (V107 1 2).toInt from by (first | exact om_69dfcb33e50b own hgl pq118 | omega))]; exact hr117 k), rl112, (by omega), ⟨cn124, (show OWl V107 b sx110 from OWl.mv cno.2 (show V107 1 2 = V 1 2 from ((ajV107 1 2 rfl).trans ((ajV87 1 2 rfl).trans (up2_o hV71 (by decide))))) (keepC.tr (keepC.tr (keepC.tr (keepC.tr (keepC.rf : keepC gs gs) (keepC.sn (by decide) : keepC gs (sN gs 2 1))) (keepS.c (keepS.n1 1))) (keepS.c (show keepS (nx (sN gs 2 1) 1) 0 (sL (nx (sN gs 2 1) 1) (100 + 32 * ((gs.2.1 2).length - 1) + 30) (cl gs + 1)) from keepS.gl (by omega)))) (keepS.c kp113)))⟩, ⟨cd115, re126, ww130, (show wl sx110 ≤ 2 * sx110.1 0 from by omega)⟩⟩), rw132⟩, by rw [ht]; exact hP, va_K.moved hW.alike hK, hD⟩, hS.F ht⟩) hS.2.2 dX1_readMember_120
      · skip
        have hb133 : ∀ k, Rc gT (Crun gs (Imember :: k)) (Cbad (V107 1 3).toInt) := fun k => (hr70 k).tr (h111 (Imember :: k))
        have pq134 : (V107 1 2).toInt = ((V 1 2)).toInt := congrArg Int32.toInt ((ajV107 1 2 rfl).trans ((ajV87 1 2 rfl).trans (up2_o hV71 (by decide))))
        have rw135 : ROWL b L L108 := (fun k hk => ((t106 k hk).trans ((axL88 44 k rfl).trans rfl)))
        exact W.zret (v := z102) hx hb hr (nb_ok (by omega)) (fun t ht hW => ⟨⟨z102, (V107, L108), rfl, ⟨hMV107, agV107, alL108, (show 0 ≤ z102.toInt ∧ z102.toInt ≤ 1 from by (first | exact om_eb7af9d60398 rgz102.1 rgz102.2 | omega)), (show (V107 1 2).toInt = (V 1 2).toInt ∨ (V107 1 2).toInt = -1 from by (first | exact om_170aa16621ff pq134 | omega)), (Or.inr ⟨(by omega), hb133⟩), rw135⟩, by rw [ht]; exact hP, va_K.moved hW.alike hK, hD⟩, hS.F ht⟩) hS.2.2 dX1_readMember_120
    · skip
      have f136 : ((V 56 go)).toInt ≠ (-1) := b_neq rfl (by decide) c66
      refine lv_aload_n hx hb dX1_readMember_94 rfl (lv_at hl 1 rfl) ?_
      refine lv_iconst (v := 1) hx hb dX1_readMember_95 (by decide) ?_
      have kd137 : gT.1 (gs.1 0) = ((V 6 9)).toInt := RelC.kd rel
      have r138 : Int32.toInt 1 = 1 := by decide
      refine gA_int (gA_runV (As := [.int 1]) (rest := []) (ci := 1) (q0 := 1) hx hb hml hown hg hP hD hK hS hA hnw hgk (x_wrong2 l D ks H.size ad kk V L Z 1 hMV (by decide)) w867 w869 w6 w162 w870 rfl xgReader hdV_yX1_wrong ⟨Nat.le_of_ble_eq_true rfl, Nat.le_of_ble_eq_true rfl⟩ rfl hl.1 rfl (Nat.le_of_ble_eq_true rfl) dX1_readMember_96 ⟨Nat.le_of_ble_eq_true rfl, Nat.le_of_ble_eq_true rfl⟩) hP hD hK hS hA (fun z139 u140 H locs w141 hP hD hK hS => ?_)
      obtain ⟨V144, L145⟩ := u140
      obtain ⟨hMV144, ajV144, axL145, rgz139, t142, t143⟩ := w141
      have axL145 : L = L145 := Eq.symm axL145
      subst axL145
      have hP : va_P D vwCl (xw ad kk V144 L Z) H := hP
      have hD : va_D A (xw ad kk V144 L Z) := hD
      have hMV144 : rgd bX V144 := hMV144
      have ajV144 : agr [(1, 3)] [] V V144 := ajV144
      have agV144 : agr [(1, 2), (1, 3), (1, 4), (1, 6), (1, 8), (6, 8), (6, 9), (6, 10)] [42, 43, 44, 48, 49, 56, 57, 58, 59, 60, 61] V V144 := agV.tr ajV144 (by decide) (by decide)
      have rgz139 : 0 ≤ z139.toInt ∧ z139.toInt ≤ 0 := rgz139
      have t142 : 1 ≤ (V144 1 3).toInt := t142
      have t143 : (V144 1 3).toInt = (Int32.toInt 1) + 16 * (V 6 10).toInt := t143
      have r146 : 0 ≤ ((V 6 10)).toInt ∧ ((V 6 10)).toInt ≤ 4000 := hMV 6 10
      have hr147 : ∀ k, Rc gT (Crun gs (Imember :: k)) (Crun gs (Imember :: k)) := fun k => Rc.rf
      have hb148 : ∀ k, Rc gT (Crun gs (Imember :: k)) (Cbad (V144 1 3).toInt) := fun k => Rc.go1 (hr147 k) ((mb_140f (kd137.trans fq64) (by by_cases q9 : gs.1 2 = 1; exact q9; exact absurd (ow0.2.1.mpr q9) (by omega))).trans (fl_eq (RelC.st rel) (show (V144 1 3).toInt = 1 + 16 * (V 6 10).toInt from by (first | exact om_f884d2586d25 r138 t143 | omega))))
      have pq149 : (V144 1 2).toInt = ((V 1 2)).toInt := congrArg Int32.toInt (ajV144 1 2 rfl)
      have rw150 : ROWL b L L := (fun k hk => rfl)
      exact W.zret (v := z139) hx hb hr (nb_ok (by omega)) (fun t ht hW => ⟨⟨z139, (V144, L), rfl, ⟨hMV144, agV144, alL, (show 0 ≤ z139.toInt ∧ z139.toInt ≤ 1 from by (first | exact om_641b3f05f166 rgz139.1 rgz139.2 | omega)), (show (V144 1 2).toInt = (V 1 2).toInt ∨ (V144 1 2).toInt = -1 from by (first | exact om_170aa16621ff pq149 | omega)), (Or.inr ⟨(by omega), hb148⟩), rw150⟩, by rw [ht]; exact hP, va_K.moved hW.alike hK, hD⟩, hS.F ht⟩) hS.2.2 dX1_readMember_99
  have gq64 : ((V 6 9)).toInt ≠ 140 := b_neq rfl (by decide) q64
  by_cases q151 : (V 6 9) = 141
  · refine g_top (v := 141) q151 ?_
    have fq151 : ((V 6 9)).toInt = 141 := b_eq rfl (by decide) q151
    refine lv_lookup (x := 141) (off := 106) (tgt := 121) hx hb dX1_readMember_15 (by decide) (by decide) (by decide) ?_
    refine lv_aload_n hx hb dX1_readMember_121 rfl (lv_at hl 1 rfl) ?_
    refine va_get (D := D) (ci := 1) (v := rfN ad 72 (V 1 2)) (fs := (xfReader ad V L Z)) (C := RX1) (T := TX1) (N := 9) hx hb hg inX1 hown hK hP 1 xgReader rfl 2 (by decide) (hg _ w306) (fun _ h9 => h9) rfl dX1_readMember_122 ?_
    refine g_topv (v := .ref (ad (72 + go))) (rfN_r (by omega)) ?_
    refine va_getN (D := D) (ci := 3) (v := .int (V 57 go)) (fs := (xfComp ad V go)) (C := RX3) (T := TX3) (N := 13) hx hb hg inX3 hown hK hP (72 + go) (xgComp hgo) rfl 12 (by decide) (hnw.use 541 n541 rfl) (fun _ h9 => h9) rfl dX1_readMember_125 ?_
    have r152 : (-1) ≤ ((V 57 go)).toInt ∧ ((V 57 go)).toInt ≤ 8200 := hMV 57 go
    refine lv_iconst (v := (-1)) hx hb dX1_readMember_128 (by decide) ?_
    refine lv_icmp_eq (tgt := 138) hx hb dX1_readMember_129 (by decide) (fun c153 => ?_) (fun c153 => ?_)
    · skip
      have f154 : ((V 57 go)).toInt = (-1) := b_eq rfl (by decide) c153
      have hr155 : ∀ k, Rc gT (Crun gs (Imember :: k)) (Crun gs (Imember :: k)) := fun k => Rc.rf
      have kd156 : gT.1 (gs.1 0) = ((V 6 9)).toInt := RelC.kd rel
      have hr157 : ∀ k, Rc gT (Crun gs (Imember :: k)) (Crun (sL (nx (sN gs 3 1) 1) (100 + 32 * ((gs.2.1 2).length - 1) + 31) (cl gs + 1)) (Iexpr 0 :: Iem 0 :: Itake 59 :: Imember :: k)) := fun k => Rc.go1 (hr155 k) (mb_141 (kd156.trans fq151) (ow0.2.2.1.mp (by omega)))
      refine lv_aload_n hx hb dX1_readMember_138 rfl (lv_at hl 1 rfl) ?_
      refine va_get (D := D) (ci := 1) (v := rfN ad 72 (V 1 2)) (fs := (xfReader ad V L Z)) (C := RX1) (T := TX1) (N := 9) hx hb hg inX1 hown hK hP 1 xgReader rfl 2 (by decide) (hg _ w306) (fun _ h9 => h9) rfl dX1_readMember_139 ?_
      refine g_topv (v := .ref (ad (72 + go))) (rfN_r (by omega)) ?_
      refine lv_iload_n hx hb dX1_readMember_142 rfl (lv_at hl 0 rfl) ?_
      refine va_putN (D := D) (ci := 3) (v := .int (V 42 b)) (ty := tyX3 12) (fs := (xfComp ad V go)) (C := RX3) (T := TX3) (N := 13) hx hb hg inX3 tyX3 tyX3_ok nmX3 hown hK hP hD hS (72 + go) (xgComp hgo) rfl 12 (by decide) (hnw.use 541 n541 rfl) (fun _ h9 => h9) rfl (tyX3_ok 12 (by decide)) rfl rfl (Nat.le_of_ble_eq_true rfl) dX1_readMember_143 (fun H locs hP hD hS => ?_)
      obtain ⟨V158, hV158⟩ : ∃ z, z = up2 V 57 go (V 42 b) := ⟨_, rfl⟩
      have ew159 : (xw ad kk V L Z).set (72 + go) ((ad (72 + go)), .inr (3, (xfComp ad V go).set 12 (.int (V 42 b)))) = xw ad kk V158 L Z := by rw [hV158]; exact xpComp_closedStart hgo
      have hP : va_P D vwCl (xw ad kk V158 L Z) H := by rw [← ew159]; exact hP
      have hD : va_D A (xw ad kk V158 L Z) := by rw [← ew159]; exact hD
      have hMV158 : rgd bX V158 := hMV.put hV158 (show (-1) ≤ ((V 42 b)).toInt ∧ ((V 42 b)).toInt ≤ 8200 from by (first | exact om_7591b83d41f0 r3.1 r3.2 | omega))
      have agV158 : agr [(1, 2), (1, 3), (1, 4), (1, 6), (1, 8), (6, 8), (6, 9), (6, 10)] [42, 43, 44, 48, 49, 56, 57, 58, 59, 60, 61] V V158 := agV.up hV158 rfl
      have rl160 : RelC V158 L b gT (sN gs 3 1) := RelC.cl rel (show (V 1 2).toInt = ((go : Nat) : Int) from by (first | exact om_08e0c9701055 own | omega)) hV158 (show ((V 42 b)).toInt ≠ -1 from by (first | exact om_b308bcc79c23 r3.1 | omega))
      have re161 : REc V158 b (sL (nx (sN gs 3 1) 1) (100 + 32 * ((gs.2.1 2).length - 1) + 31) (cl gs + 1)) := REc.st ceo.2.1 (Or.inr (Or.inr rfl)) gol hgl (cR_31 hV158) (show ((V 42 b)).toInt = ((wl gs : Nat) : Int) from ceo.1.1) (fun _ _ => rfl) rfl
      refine lv_aload_n hx hb dX1_readMember_146 rfl (lv_at hl 1 rfl) ?_
      refine va_get (D := D) (ci := 1) (v := .ref (ad 6)) (fs := (xfReader ad V158 L Z)) (C := RX1) (T := TX1) (N := 9) hx hb hg inX1 hown hK hP 1 xgReader rfl 0 (by decide) (hg _ w304) (fun _ h9 => h9) rfl dX1_readMember_147 ?_
      have l8162 := RelC.l8 rl160
      have pq163 : (V158 6 8).toInt = ((V 6 8)).toInt := congrArg Int32.toInt (up2_o hV158 (by decide))
      have r164 : 0 ≤ ((V 6 8)).toInt ∧ ((V 6 8)).toInt ≤ 4000 := hMV 6 8
      have pq165 : (V158 6 7).toInt = ((V 6 7)).toInt := congrArg Int32.toInt (up2_o hV158 (by decide))
      have r166 : 0 ≤ ((V 6 7)).toInt ∧ ((V 6 7)).toInt ≤ 4000 := hMV 6 7
      have pq167 : (V158 6 9).toInt = ((V 6 9)).toInt := congrArg Int32.toInt (up2_o hV158 (by decide))
      have lk168 := RelC.lk rl160 (show (V158 6 9).toInt ≠ 0 from by (first | exact om_01cfc30848dc fq151 pq167 | omega))
      refine gA_void (gA_runV (As := []) (rest := []) (ci := 9) (q0 := 6) hx hb hml hown hg hP hD hK hS hA hnw hgk (x_next2 l D ks H.size ad kk V158 L Z  hMV158 (show (V158 6 8).toInt ≤ (V158 6 7).toInt from by (first | exact om_f4906d00fa52 l8162 | omega))) w871 w852 w853 w157 w854 rfl xgTape hdV_yX9_next ⟨Nat.le_of_ble_eq_true rfl, Nat.le_of_ble_eq_true rfl⟩ rfl hl.1 rfl (Nat.le_of_ble_eq_true rfl) dX1_readMember_150 ⟨Nat.le_of_ble_eq_true rfl, Nat.le_of_ble_eq_true rfl⟩) hP hD hK hS hA (fun u170 H locs w171 hP hD hK hS => ?_)
      obtain ⟨V174, L175⟩ := u170
      obtain ⟨hMV174, ajV174, axL175, t172, t173⟩ := w171
      have alL175 : agL [6, 44] L L175 := agL.tr alL axL175 (by decide)
      have hP : va_P D vwCl (xw ad kk V174 L175 Z) H := hP
      have hD : va_D A (xw ad kk V174 L175 Z) := hD
      have hMV174 : rgd bX V174 := hMV174
      have ajV174 : agr [(6, 8), (6, 9), (6, 10)] [] V158 V174 := ajV174
      have agV174 : agr [(1, 2), (1, 3), (1, 4), (1, 6), (1, 8), (6, 8), (6, 9), (6, 10)] [42, 43, 44, 48, 49, 56, 57, 58, 59, 60, 61] V V174 := agV158.tr ajV174 (by decide) (by decide)
      have t172 : (V174 6 8).toInt ≤ (V174 6 7).toInt := t172
      have t173 : CUR V174 L175 (Int32.toNatClampNeg (V158 6 8)) := t173
      have r176 : 0 ≤ ((V174 6 8)).toInt ∧ ((V174 6 8)).toInt ≤ 4000 := hMV174 6 8
      have pq177 : (V174 6 7).toInt = ((V 6 7)).toInt := congrArg Int32.toInt ((ajV174 6 7 rfl).trans (up2_o hV158 (by decide)))
      have rl178 : RelC V174 L175 b gT (nx (sN gs 3 1) 1) := RelC.nx1 rl160 ajV174 (by decide) axL175 (by decide) (by rw [← lk168]; exact t173) (ajV174 1 3 rfl)
      have rl179 : RelC V174 L175 b gT (sL (nx (sN gs 3 1) 1) (100 + 32 * ((gs.2.1 2).length - 1) + 31) (cl gs + 1)) := RelC.gl rl178 (by omega)
      refine lv_aload_n hx hb dX1_readMember_153 rfl (lv_at hl 1 rfl) ?_
      refine lv_iconst (v := 0) hx hb dX1_readMember_154 (by decide) ?_
      have pq181 : (V174 1 2).toInt = ((V 1 2)).toInt := congrArg Int32.toInt ((ajV174 1 2 rfl).trans (up2_o hV158 (by decide)))
      have w4180 := (RelC.ow rl179 (show (V174 1 2).toInt = ((go : Nat) : Int) from by (first | exact om_adf531c77a0d own pq181 | omega))).2.2.2.1
      have r182 : Int32.toInt 0 = 0 := by decide
      have pq183 : (V174 1 1).toInt = ((V 1 1)).toInt := congrArg Int32.toInt ((ajV174 1 1 rfl).trans (up2_o hV158 (by decide)))
      have cd184 : CDc V174 b gs := CDc.ag ceo.1 (show agr [(6, 8), (6, 9), (6, 10)] [57] V V174 from (agr.tr (agr.up agr.rf hV158 rfl) ajV174 (by decide) (by decide))) (fun _ => rfl) (fun _ => rfl)
      have cd185 : CDc V174 b (sL (nx (sN gs 3 1) 1) (100 + 32 * ((gs.2.1 2).length - 1) + 31) (cl gs + 1)) := CDc.mv cd184 (fun j9 h9 => ((show ∀ j9, j9 = 5 ∨ 2000 ≤ j9 → (sL (nx (sN gs 3 1) 1) (100 + 32 * ((gs.2.1 2).length - 1) + 31) (cl gs + 1)).2.1 j9 = (nx (sN gs 3 1) 1).2.1 j9 from fun j9 h9 => sL_o _ _ (by have h9 := ceo.2.1.1; omega)) j9 h9).trans ((fun j9 h9 => ((show ∀ j9, j9 = 5 ∨ 2000 ≤ j9 → (nx (sN gs 3 1) 1).2.1 j9 = (sN gs 3 1).2.1 j9 from fun j9 h9 => (show ∀ j9, 5 ≤ j9 → (nx (sN gs 3 1) 1).2.1 j9 = (sN gs 3 1).2.1 j9 from fun _ _ => rfl) j9 (by omega)) j9 h9).trans ((show ∀ j9, j9 = 5 ∨ 2000 ≤ j9 → (sN gs 3 1).2.1 j9 = gs.2.1 j9 from fun j9 h9 => (show ∀ j9, 5 ≤ j9 → (sN gs 3 1).2.1 j9 = gs.2.1 j9 from fun _ _ => rfl) j9 (by omega)) j9 h9)) j9 h9))
      have hwl : wl gs ≤ 2 * gs.1 0 := ceo.2.2.2
      have wk186 : wl (sN gs 3 1) = wl gs ∧ (sN gs 3 1).1 0 = gs.1 0 := ⟨wl_e (show ∀ j9, j9 = 5 ∨ 2000 ≤ j9 → (sN gs 3 1).2.1 j9 = gs.2.1 j9 from fun j9 h9 => (show ∀ j9, 5 ≤ j9 → (sN gs 3 1).2.1 j9 = gs.2.1 j9 from fun _ _ => rfl) j9 (by omega)), rfl⟩
      have wk187 : wl (nx (sN gs 3 1) 1) = wl (sN gs 3 1) ∧ (nx (sN gs 3 1) 1).1 0 = (sN gs 3 1).1 0 + 1 := ⟨rfl, rfl⟩
      have wk188 : wl (sL (nx (sN gs 3 1) 1) (100 + 32 * ((gs.2.1 2).length - 1) + 31) (cl gs + 1)) = wl (nx (sN gs 3 1) 1) ∧ (sL (nx (sN gs 3 1) 1) (100 + 32 * ((gs.2.1 2).length - 1) + 31) (cl gs + 1)).1 0 = (nx (sN gs 3 1) 1).1 0 := ⟨wl_e (show ∀ j9, j9 = 5 ∨ 2000 ≤ j9 → (sL (nx (sN gs 3 1) 1) (100 + 32 * ((gs.2.1 2).length - 1) + 31) (cl gs + 1)).2.1 j9 = (nx (sN gs 3 1) 1).2.1 j9 from fun j9 h9 => sL_o _ _ (by have h9 := ceo.2.1.1; omega)), rfl⟩
      refine gA_int (gA_runV (As := [.int 0]) (rest := []) (ci := 1) (q0 := 1) hx hb hml hown hg hP hD hK hS hA hnw hgk (x_readE3 l D ks H.size ad kk V174 L175 Z 0 (b) (gT) ((sL (nx (sN gs 3 1) 1) (100 + 32 * ((gs.2.1 2).length - 1) + 31) (cl gs + 1))) hMV174 (by decide) (show b < 2 from by (first | exact om_f940a4667dd6 hb2 | omega)) (show (V174 1 1).toInt = (b : Int) from by (first | exact om_adf531c77a0d rbk pq183 | omega)) rl179 cd185 (show wl (sL (nx (sN gs 3 1) 1) (100 + 32 * ((gs.2.1 2).length - 1) + 31) (cl gs + 1)) ≤ 2 * (sL (nx (sN gs 3 1) 1) (100 + 32 * ((gs.2.1 2).length - 1) + 31) (cl gs + 1)).1 0 from by omega) (show (Int32.toInt 0) = (((sL (nx (sN gs 3 1) 1) (100 + 32 * ((gs.2.1 2).length - 1) + 31) (cl gs + 1)).1 4 : Nat) : Int) from by omega) (fun _ => (show 0 ≤ (V174 1 2).toInt from by (first | exact om_69dfcb33e50b own hgl pq181 | omega)))) w947 w949 w20 w162 w950 rfl xgReader hdV_yX1_readE ⟨Nat.le_of_ble_eq_true rfl, Nat.le_of_ble_eq_true rfl⟩ rfl hl.1 rfl (Nat.le_of_ble_eq_true rfl) dX1_readMember_155 ⟨Nat.le_of_ble_eq_true rfl, Nat.le_of_ble_eq_true rfl⟩) hP hD hK hS hA (fun z189 u190 H locs w191 hP hD hK hS => ?_)
      obtain ⟨V194, L195⟩ := u190
      obtain ⟨hMV194, ajV194, axL195, rgz189, t192, t193⟩ := w191
      have alL195 : agL [6, 44] L L195 := agL.tr alL175 axL195 (by decide)
      have hP : va_P D vwCl (xw ad kk V194 L195 Z) H := hP
      have hD : va_D A (xw ad kk V194 L195 Z) := hD
      have hMV194 : rgd bX V194 := hMV194
      have ajV194 : agr [(1, 3), (1, 4), (1, 6), (1, 8), (6, 8), (6, 9), (6, 10)] [42, 43, 44, 48] V174 V194 := ajV194
      have agV194 : agr [(1, 2), (1, 3), (1, 4), (1, 6), (1, 8), (6, 8), (6, 9), (6, 10)] [42, 43, 44, 48, 49, 56, 57, 58, 59, 60, 61] V V194 := agV174.tr ajV194 (by decide) (by decide)
      have rgz189 : 0 ≤ z189.toInt ∧ z189.toInt ≤ 1 := rgz189
      have t192 : Rd gT (sL (nx (sN gs 3 1) 1) (100 + 32 * ((gs.2.1 2).length - 1) + 31) (cl gs + 1)) (fun k => Iexpr 0 :: Iem 0 :: Itake 59 :: k) (fun k => k) z189.toInt (V194 1 3).toInt (fun s9 => RelC V194 L195 b gT s9 ∧ keepS (sL (nx (sN gs 3 1) 1) (100 + 32 * ((gs.2.1 2).length - 1) + 31) (cl gs + 1)) 2 s9 ∧ keepE (sL (nx (sN gs 3 1) 1) (100 + 32 * ((gs.2.1 2).length - 1) + 31) (cl gs + 1)) s9 ∧ CDc V194 b s9 ∧ wl s9 + 2 * (sL (nx (sN gs 3 1) 1) (100 + 32 * ((gs.2.1 2).length - 1) + 31) (cl gs + 1)).1 0 ≤ wl (sL (nx (sN gs 3 1) 1) (100 + 32 * ((gs.2.1 2).length - 1) + 31) (cl gs + 1)) + 2 * s9.1 0 + 0) := t192
      have t193 : ROWL b L175 L195 := t193
      rcases t192 with ⟨q196, sx197, h198, rl199, kp200, ke201, cd202, wd203⟩ | ⟨q196, h198⟩
      · skip
        have hr204 : ∀ k, Rc gT (Crun gs (Imember :: k)) (Crun sx197 (Imember :: k)) := fun k => (hr157 k).tr (h198 (Imember :: k))
        have pq205 : (V194 1 2).toInt = ((V 1 2)).toInt := congrArg Int32.toInt ((ajV194 1 2 rfl).trans ((ajV174 1 2 rfl).trans (up2_o hV158 (by decide))))
        have ps206 : (sN gs 3 1).1 0 = gs.1 0 := rfl
        have ps207 : (sN gs 3 1).1 0 + 1 ≤ (nx (sN gs 3 1) 1).1 0 := ((keepS.n1 1)).1
        have ps208 : (nx (sN gs 3 1) 1).1 0 + 0 ≤ (sL (nx (sN gs 3 1) 1) (100 + 32 * ((gs.2.1 2).length - 1) + 31) (cl gs + 1)).1 0 := ((show keepS (nx (sN gs 3 1) 1) 0 (sL (nx (sN gs 3 1) 1) (100 + 32 * ((gs.2.1 2).length - 1) + 31) (cl gs + 1)) from keepS.gl (by omega))).1
        have ps209 : (sL (nx (sN gs 3 1) 1) (100 + 32 * ((gs.2.1 2).length - 1) + 31) (cl gs + 1)).1 0 + 2 ≤ sx197.1 0 := (kp200).1
        have cn210 : CNc V194 b gs := CNc.ag cno.1 (show agr [(1, 3), (1, 4), (1, 6), (1, 8), (6, 8), (6, 9), (6, 10)] [42, 43, 44, 48, 57] V V194 from (agr.tr (agr.tr (agr.up agr.rf hV158 rfl) ajV174 (by decide) (by decide)) ajV194 (by decide) (by decide))) (by decide) keepC.rf
        have cn211 : CNc V194 b sx197 := CNc.mv cn210 (fun _ _ _ => rfl) (keepC.tr (keepC.tr (keepC.tr (keepC.tr (keepC.rf : keepC gs gs) (keepC.sn (by decide) : keepC gs (sN gs 3 1))) (keepS.c (keepS.n1 1))) (keepS.c (show keepS (nx (sN gs 3 1) 1) 0 (sL (nx (sN gs 3 1) 1) (100 + 32 * ((gs.2.1 2).length - 1) + 31) (cl gs + 1)) from keepS.gl (by omega)))) (keepS.c kp200))
        have re212 : REc V194 b (sL (nx (sN gs 3 1) 1) (100 + 32 * ((gs.2.1 2).length - 1) + 31) (cl gs + 1)) := REc.ag re161 (show agr [(1, 3), (1, 4), (1, 6), (1, 8), (6, 8), (6, 9), (6, 10)] [42, 43, 44, 48] V158 V194 from (agr.tr (agr.tr agr.rf ajV174 (by decide) (by decide)) ajV194 (by decide) (by decide))) (fun _ => rfl) (fun _ => rfl) (fun _ => rfl) keepE.rf rfl
        have re213 : REc V194 b sx197 := REc.mv re212 (fun _ _ _ _ => rfl) (keepE.tr (keepE.rf : keepE (sL (nx (sN gs 3 1) 1) (100 + 32 * ((gs.2.1 2).length - 1) + 31) (cl gs + 1)) (sL (nx (sN gs 3 1) 1) (100 + 32 * ((gs.2.1 2).length - 1) + 31) (cl gs + 1))) ke201) (((show keepS (sL (nx (sN gs 3 1) 1) (100 + 32 * ((gs.2.1 2).length - 1) + 31) (cl gs + 1)) 2 sx197 from kp200).2.2.1 2 (by decide)).trans (rfl : (sL (nx (sN gs 3 1) 1) (100 + 32 * ((gs.2.1 2).length - 1) + 31) (cl gs + 1)).2.1 2 = (sL (nx (sN gs 3 1) 1) (100 + 32 * ((gs.2.1 2).length - 1) + 31) (cl gs + 1)).2.1 2))
        have ww214 : WWc V194 b gs := WWc.ag ceo.2.2.1 (show agr [(1, 3), (1, 4), (1, 6), (1, 8), (6, 8), (6, 9), (6, 10)] [42, 43, 44, 48, 57] V V194 from (agr.tr (agr.tr (agr.up agr.rf hV158 rfl) ajV174 (by decide) (by decide)) ajV194 (by decide) (by decide))) (fun _ => ⟨rfl, rfl, rfl, rfl, rfl⟩) keepE.rf rfl
        have ww215 : WWc V194 b (nx (sN gs 3 1) 1) := WWc.mv ww214 (fun _ _ _ _ _ => rfl) (keepE.tr (keepE.tr (keepE.rf : keepE gs gs) (show keepE gs (sN gs 3 1) from keepE.eq (show ∀ j9, 5 ≤ j9 → (sN gs 3 1).2.1 j9 = gs.2.1 j9 from fun _ _ => rfl))) (show keepE (sN gs 3 1) (nx (sN gs 3 1) 1) from keepE.eq (show ∀ j9, 5 ≤ j9 → (nx (sN gs 3 1) 1).2.1 j9 = (sN gs 3 1).2.1 j9 from fun _ _ => rfl))) ((congrArg (fun q9 : List (Nat × Bool) × List Nat => q9.1) (show keepS (sN gs 3 1) 1 (nx (sN gs 3 1) 1) from (keepS.n1 1)).2.2.2).trans ((rfl : (sN gs 3 1).2.2.1 = gs.2.2.1).trans (rfl : gs.2.2.1 = gs.2.2.1)))
        have ww216 : WWc V194 b (sL (nx (sN gs 3 1) 1) (100 + 32 * ((gs.2.1 2).length - 1) + 31) (cl gs + 1)) := WWc.gl ww215 (by omega) (by have h9 := ceo.2.1.1; omega)
        have ww217 : WWc V194 b sx197 := WWc.mv ww216 (fun _ _ _ _ _ => rfl) (keepE.tr (keepE.rf : keepE (sL (nx (sN gs 3 1) 1) (100 + 32 * ((gs.2.1 2).length - 1) + 31) (cl gs + 1)) (sL (nx (sN gs 3 1) 1) (100 + 32 * ((gs.2.1 2).length - 1) + 31) (cl gs + 1))) ke201) ((congrArg (fun q9 : List (Nat × Bool) × List Nat => q9.1) (show keepS (sL (nx (sN gs 3 1) 1) (100 + 32 * ((gs.2.1 2).length - 1) + 31) (cl gs + 1)) 2 sx197 from kp200).2.2.2).trans (rfl : (sL (nx (sN gs 3 1) 1) (100 + 32 * ((gs.2.1 2).length - 1) + 31) (cl gs + 1)).2.2.1 = (sL (nx (sN gs 3 1) 1) (100 + 32 * ((gs.2.1 2).length - 1) + 31) (cl gs + 1)).2.2.1))
        have wk218 : wl sx197 + 2 * (sL (nx (sN gs 3 1) 1) (100 + 32 * ((gs.2.1 2).length - 1) + 31) (cl gs + 1)).1 0 ≤ wl (sL (nx (sN gs 3 1) 1) (100 + 32 * ((gs.2.1 2).length - 1) + 31) (cl gs + 1)) + 2 * sx197.1 0 + 0 ∧ (sL (nx (sN gs 3 1) 1) (100 + 32 * ((gs.2.1 2).length - 1) + 31) (cl gs + 1)).1 0 + 1 ≤ sx197.1 0 := ⟨wd203, (keepS.le kp200 (by decide)).1⟩
        have rw219 : ROWL b L L195 := (fun k hk => ((t193 k hk).trans ((axL175 44 k rfl).trans rfl)))
        exact W.zret (v := z189) hx hb hr (nb_ok (by omega)) (fun t ht hW => ⟨⟨z189, (V194, L195), rfl, ⟨hMV194, agV194, alL195, (show 0 ≤ z189.toInt ∧ z189.toInt ≤ 1 from by (first | exact om_eb7af9d60398 rgz189.1 rgz189.2 | omega)), (show (V194 1 2).toInt = (V 1 2).toInt ∨ (V194 1 2).toInt = -1 from by (first | exact om_170aa16621ff pq205 | omega)), (Or.inl ⟨(by omega), sx197, (fun k => show Rc gT (Crun gs (Imember :: k)) (Crun sx197 (nxI (V194 1 2) k)) from by rw [nxI_m (show 0 ≤ (V194 1 2).toInt from by (first | exact om_69dfcb33e50b own hgl pq205 | omega))]; exact hr204 k), rl199, (by omega), ⟨cn211, (show OWl V194 b sx197 from OWl.mv cno.2 (show V194 1 2 = V 1 2 from ((ajV194 1 2 rfl).trans ((ajV174 1 2 rfl).trans (up2_o hV158 (by decide))))) (keepC.tr (keepC.tr (keepC.tr (keepC.tr (keepC.rf : keepC gs gs) (keepC.sn (by decide) : keepC gs (sN gs 3 1))) (keepS.c (keepS.n1 1))) (keepS.c (show keepS (nx (sN gs 3 1) 1) 0 (sL (nx (sN gs 3 1) 1) (100 + 32 * ((gs.2.1 2).length - 1) + 31) (cl gs + 1)) from keepS.gl (by omega)))) (keepS.c kp200)))⟩, ⟨cd202, re213, ww217, (show wl sx197 ≤ 2 * sx197.1 0 from by omega)⟩⟩), rw219⟩, by rw [ht]; exact hP, va_K.moved hW.alike hK, hD⟩, hS.F ht⟩) hS.2.2 dX1_readMember_158
      · skip
        have hb220 : ∀ k, Rc gT (Crun gs (Imember :: k)) (Cbad (V194 1 3).toInt) := fun k => (hr157 k).tr (h198 (Imember :: k))
        have pq221 : (V194 1 2).toInt = ((V 1 2)).toInt := congrArg Int32.toInt ((ajV194 1 2 rfl).trans ((ajV174 1 2 rfl).trans (up2_o hV158 (by decide))))
        have rw222 : ROWL b L L195 := (fun k hk => ((t193 k hk).trans ((axL175 44 k rfl).trans rfl)))
        exact W.zret (v := z189) hx hb hr (nb_ok (by omega)) (fun t ht hW => ⟨⟨z189, (V194, L195), rfl, ⟨hMV194, agV194, alL195, (show 0 ≤ z189.toInt ∧ z189.toInt ≤ 1 from by (first | exact om_eb7af9d60398 rgz189.1 rgz189.2 | omega)), (show (V194 1 2).toInt = (V 1 2).toInt ∨ (V194 1 2).toInt = -1 from by (first | exact om_170aa16621ff pq221 | omega)), (Or.inr ⟨(by omega), hb220⟩), rw222⟩, by rw [ht]; exact hP, va_K.moved hW.alike hK, hD⟩, hS.F ht⟩) hS.2.2 dX1_readMember_158
    · skip
      have f223 : ((V 57 go)).toInt ≠ (-1) := b_neq rfl (by decide) c153
      refine lv_aload_n hx hb dX1_readMember_132 rfl (lv_at hl 1 rfl) ?_
      refine lv_iconst (v := 1) hx hb dX1_readMember_133 (by decide) ?_
      have kd224 : gT.1 (gs.1 0) = ((V 6 9)).toInt := RelC.kd rel
      have r225 : Int32.toInt 1 = 1 := by decide
      refine gA_int (gA_runV (As := [.int 1]) (rest := []) (ci := 1) (q0 := 1) hx hb hml hown hg hP hD hK hS hA hnw hgk (x_wrong2 l D ks H.size ad kk V L Z 1 hMV (by decide)) w867 w869 w6 w162 w870 rfl xgReader hdV_yX1_wrong ⟨Nat.le_of_ble_eq_true rfl, Nat.le_of_ble_eq_true rfl⟩ rfl hl.1 rfl (Nat.le_of_ble_eq_true rfl) dX1_readMember_134 ⟨Nat.le_of_ble_eq_true rfl, Nat.le_of_ble_eq_true rfl⟩) hP hD hK hS hA (fun z226 u227 H locs w228 hP hD hK hS => ?_)
      obtain ⟨V231, L232⟩ := u227
      obtain ⟨hMV231, ajV231, axL232, rgz226, t229, t230⟩ := w228
      have axL232 : L = L232 := Eq.symm axL232
      subst axL232
      have hP : va_P D vwCl (xw ad kk V231 L Z) H := hP
      have hD : va_D A (xw ad kk V231 L Z) := hD
      have hMV231 : rgd bX V231 := hMV231
      have ajV231 : agr [(1, 3)] [] V V231 := ajV231
      have agV231 : agr [(1, 2), (1, 3), (1, 4), (1, 6), (1, 8), (6, 8), (6, 9), (6, 10)] [42, 43, 44, 48, 49, 56, 57, 58, 59, 60, 61] V V231 := agV.tr ajV231 (by decide) (by decide)
      have rgz226 : 0 ≤ z226.toInt ∧ z226.toInt ≤ 0 := rgz226
      have t229 : 1 ≤ (V231 1 3).toInt := t229
      have t230 : (V231 1 3).toInt = (Int32.toInt 1) + 16 * (V 6 10).toInt := t230
      have r233 : 0 ≤ ((V 6 10)).toInt ∧ ((V 6 10)).toInt ≤ 4000 := hMV 6 10
      have hr234 : ∀ k, Rc gT (Crun gs (Imember :: k)) (Crun gs (Imember :: k)) := fun k => Rc.rf
      have hb235 : ∀ k, Rc gT (Crun gs (Imember :: k)) (Cbad (V231 1 3).toInt) := fun k => Rc.go1 (hr234 k) ((mb_141f (kd224.trans fq151) (by by_cases q9 : gs.1 3 = 1; exact q9; exact absurd (ow0.2.2.1.mpr q9) (by omega))).trans (fl_eq (RelC.st rel) (show (V231 1 3).toInt = 1 + 16 * (V 6 10).toInt from by (first | exact om_f884d2586d25 r225 t230 | omega))))
      have pq236 : (V231 1 2).toInt = ((V 1 2)).toInt := congrArg Int32.toInt (ajV231 1 2 rfl)
      have rw237 : ROWL b L L := (fun k hk => rfl)
      exact W.zret (v := z226) hx hb hr (nb_ok (by omega)) (fun t ht hW => ⟨⟨z226, (V231, L), rfl, ⟨hMV231, agV231, alL, (show 0 ≤ z226.toInt ∧ z226.toInt ≤ 1 from by (first | exact om_641b3f05f166 rgz226.1 rgz226.2 | omega)), (show (V231 1 2).toInt = (V 1 2).toInt ∨ (V231 1 2).toInt = -1 from by (first | exact om_170aa16621ff pq236 | omega)), (Or.inr ⟨(by omega), hb235⟩), rw237⟩, by rw [ht]; exact hP, va_K.moved hW.alike hK, hD⟩, hS.F ht⟩) hS.2.2 dX1_readMember_137
  have gq151 : ((V 6 9)).toInt ≠ 141 := b_neq rfl (by decide) q151
  by_cases q238 : (V 6 9) = 142
  · refine g_top (v := 142) q238 ?_
    have fq238 : ((V 6 9)).toInt = 142 := b_eq rfl (by decide) q238
    refine lv_lookup (x := 142) (off := 144) (tgt := 159) hx hb dX1_readMember_15 (by decide) (by decide) (by decide) ?_
    refine lv_aload_n hx hb dX1_readMember_159 rfl (lv_at hl 1 rfl) ?_
    have hr239 : ∀ k, Rc gT (Crun gs (Imember :: k)) (Crun gs (Imember :: k)) := fun k => Rc.rf
    refine gA_int (gA_runV (As := []) (rest := []) (ci := 1) (q0 := 1) hx hb hml hown hg hP hD hK hS hA hnw hgk (x_readMethod3 l D ks H.size ad kk V L Z (b) (gT) (gs) (go) hMV (show b < 2 from by (first | exact om_f940a4667dd6 hb2 | omega)) (show (V 1 1).toInt = (b : Int) from by (first | exact om_08e0c9701055 rbk | omega)) (show (V 1 2).toInt = (go : Int) from by (first | exact om_08e0c9701055 own | omega)) (show go < 48 from by (first | exact om_ed409a757601 hb2 hgh | omega)) (show 24 * b ≤ go from by (first | exact om_ef8c008e8399 hgl | omega)) (show go < 24 * b + 24 from by (first | exact om_8af120267f01 hgh | omega)) rel cno ceo (show (V 6 9).toInt = 142 from by (first | exact om_e6f8f66f07bb fq238 | omega))) w1015 w1017 w33 w162 w1018 rfl xgReader hdV_yX1_readMethod ⟨Nat.le_of_ble_eq_true rfl, Nat.le_of_ble_eq_true rfl⟩ rfl hl.1 rfl (Nat.le_of_ble_eq_true rfl) dX1_readMember_160 ⟨Nat.le_of_ble_eq_true rfl, Nat.le_of_ble_eq_true rfl⟩) hP hD hK hS hA (fun z240 u241 H locs w242 hP hD hK hS => ?_)
    obtain ⟨V245, L246⟩ := u241
    obtain ⟨hMV245, ajV245, axL246, rgz240, t243, t244⟩ := w242
    have alL246 : agL [6, 44] L L246 := agL.tr alL axL246 (by decide)
    have hP : va_P D vwCl (xw ad kk V245 L246 Z) H := hP
    have hD : va_D A (xw ad kk V245 L246 Z) := hD
    have hMV245 : rgd bX V245 := hMV245
    have ajV245 : agr [(1, 3), (1, 4), (1, 6), (1, 8), (6, 8), (6, 9), (6, 10)] [42, 43, 44, 48, 61] V V245 := ajV245
    have agV245 : agr [(1, 2), (1, 3), (1, 4), (1, 6), (1, 8), (6, 8), (6, 9), (6, 10)] [42, 43, 44, 48, 49, 56, 57, 58, 59, 60, 61] V V245 := agV.tr ajV245 (by decide) (by decide)
    have rgz240 : 0 ≤ z240.toInt ∧ z240.toInt ≤ 1 := rgz240
    have t243 : Rd gT gs (fun k => Imember :: k) (fun k => Imember :: k) z240.toInt (V245 1 3).toInt (fun s9 => RelC V245 L246 b gT s9 ∧ gs.1 0 + 1 ≤ s9.1 0 ∧ CNo V245 b s9 ∧ CEo V245 b s9) := t243
    have t244 : ROWL b L L246 := t244
    rcases t243 with ⟨q247, sx248, h249, rl250, kp251, cn252, ce253⟩ | ⟨q247, h249⟩
    · skip
      have hr254 : ∀ k, Rc gT (Crun gs (Imember :: k)) (Crun sx248 (Imember :: k)) := fun k => (hr239 k).tr (h249 k)
      have pq255 : (V245 1 2).toInt = ((V 1 2)).toInt := congrArg Int32.toInt (ajV245 1 2 rfl)
      have ps256 : gs.1 0 + 1 ≤ sx248.1 0 := kp251
      have hwl : wl gs ≤ 2 * gs.1 0 := ceo.2.2.2
      have wk257 : wl sx248 ≤ 2 * sx248.1 0 := ce253.2.2.2
      have rw258 : ROWL b L L246 := (fun k hk => ((t244 k hk).trans rfl))
      exact W.zret (v := z240) hx hb hr (nb_ok (by omega)) (fun t ht hW => ⟨⟨z240, (V245, L246), rfl, ⟨hMV245, agV245, alL246, (show 0 ≤ z240.toInt ∧ z240.toInt ≤ 1 from by (first | exact om_eb7af9d60398 rgz240.1 rgz240.2 | omega)), (show (V245 1 2).toInt = (V 1 2).toInt ∨ (V245 1 2).toInt = -1 from by (first | exact om_170aa16621ff pq255 | omega)), (Or.inl ⟨(by omega), sx248, (fun k => show Rc gT (Crun gs (Imember :: k)) (Crun sx248 (nxI (V245 1 2) k)) from by rw [nxI_m (show 0 ≤ (V245 1 2).toInt from by (first | exact om_69dfcb33e50b own hgl pq255 | omega))]; exact hr254 k), rl250, (by omega), ⟨cn252.1, cn252.2⟩, ⟨ce253.1, ce253.2.1, ce253.2.2.1, (show wl sx248 ≤ 2 * sx248.1 0 from by omega)⟩⟩), rw258⟩, by rw [ht]; exact hP, va_K.moved hW.alike hK, hD⟩, hS.F ht⟩) hS.2.2 dX1_readMember_163
    · skip
      have hb259 : ∀ k, Rc gT (Crun gs (Imember :: k)) (Cbad (V245 1 3).toInt) := fun k => (hr239 k).tr (h249 k)
      have pq260 : (V245 1 2).toInt = ((V 1 2)).toInt := congrArg Int32.toInt (ajV245 1 2 rfl)
      have rw261 : ROWL b L L246 := (fun k hk => ((t244 k hk).trans rfl))
      exact W.zret (v := z240) hx hb hr (nb_ok (by omega)) (fun t ht hW => ⟨⟨z240, (V245, L246), rfl, ⟨hMV245, agV245, alL246, (show 0 ≤ z240.toInt ∧ z240.toInt ≤ 1 from by (first | exact om_eb7af9d60398 rgz240.1 rgz240.2 | omega)), (show (V245 1 2).toInt = (V 1 2).toInt ∨ (V245 1 2).toInt = -1 from by (first | exact om_170aa16621ff pq260 | omega)), (Or.inr ⟨(by omega), hb259⟩), rw261⟩, by rw [ht]; exact hP, va_K.moved hW.alike hK, hD⟩, hS.F ht⟩) hS.2.2 dX1_readMember_163
  have gq238 : ((V 6 9)).toInt ≠ 142 := b_neq rfl (by decide) q238
  refine lv_lookup (x := (V 6 9)) (off := 149) (tgt := 164) hx hb dX1_readMember_15 (by decide) ((lv_osw q4 (by decide)).trans ((lv_osw q40 (by decide)).trans ((lv_osw q64 (by decide)).trans ((lv_osw q151 (by decide)).trans ((lv_osw q238 (by decide)).trans rfl))))) (by decide) ?_
  refine lv_aload_n hx hb dX1_readMember_164 rfl (lv_at hl 1 rfl) ?_
  refine lv_iconst (v := 1) hx hb dX1_readMember_165 (by decide) ?_
  have kd262 : gT.1 (gs.1 0) = ((V 6 9)).toInt := RelC.kd rel
  have r263 : Int32.toInt 1 = 1 := by decide
  refine gA_int (gA_runV (As := [.int 1]) (rest := []) (ci := 1) (q0 := 1) hx hb hml hown hg hP hD hK hS hA hnw hgk (x_wrong2 l D ks H.size ad kk V L Z 1 hMV (by decide)) w867 w869 w6 w162 w870 rfl xgReader hdV_yX1_wrong ⟨Nat.le_of_ble_eq_true rfl, Nat.le_of_ble_eq_true rfl⟩ rfl hl.1 rfl (Nat.le_of_ble_eq_true rfl) dX1_readMember_166 ⟨Nat.le_of_ble_eq_true rfl, Nat.le_of_ble_eq_true rfl⟩) hP hD hK hS hA (fun z264 u265 H locs w266 hP hD hK hS => ?_)
  obtain ⟨V269, L270⟩ := u265
  obtain ⟨hMV269, ajV269, axL270, rgz264, t267, t268⟩ := w266
  have axL270 : L = L270 := Eq.symm axL270
  subst axL270
  have hP : va_P D vwCl (xw ad kk V269 L Z) H := hP
  have hD : va_D A (xw ad kk V269 L Z) := hD
  have hMV269 : rgd bX V269 := hMV269
  have ajV269 : agr [(1, 3)] [] V V269 := ajV269
  have agV269 : agr [(1, 2), (1, 3), (1, 4), (1, 6), (1, 8), (6, 8), (6, 9), (6, 10)] [42, 43, 44, 48, 49, 56, 57, 58, 59, 60, 61] V V269 := agV.tr ajV269 (by decide) (by decide)
  have rgz264 : 0 ≤ z264.toInt ∧ z264.toInt ≤ 0 := rgz264
  have t267 : 1 ≤ (V269 1 3).toInt := t267
  have t268 : (V269 1 3).toInt = (Int32.toInt 1) + 16 * (V 6 10).toInt := t268
  have r271 : 0 ≤ ((V 6 10)).toInt ∧ ((V 6 10)).toInt ≤ 4000 := hMV 6 10
  have hr272 : ∀ k, Rc gT (Crun gs (Imember :: k)) (Crun gs (Imember :: k)) := fun k => Rc.rf
  have hb273 : ∀ k, Rc gT (Crun gs (Imember :: k)) (Cbad (V269 1 3).toInt) := fun k => Rc.go1 (hr272 k) ((mb_x (fun h9 => gq4 (kd262.symm.trans h9)) (fun h9 => gq40 (kd262.symm.trans h9)) (fun h9 => gq64 (kd262.symm.trans h9)) (fun h9 => gq151 (kd262.symm.trans h9)) (fun h9 => gq238 (kd262.symm.trans h9))).trans (fl_eq (RelC.st rel) (show (V269 1 3).toInt = 1 + 16 * (V 6 10).toInt from by (first | exact om_f884d2586d25 r263 t268 | omega))))
  have pq274 : (V269 1 2).toInt = ((V 1 2)).toInt := congrArg Int32.toInt (ajV269 1 2 rfl)
  have rw275 : ROWL b L L := (fun k hk => rfl)
  exact W.zret (v := z264) hx hb hr (nb_ok (by omega)) (fun t ht hW => ⟨⟨z264, (V269, L), rfl, ⟨hMV269, agV269, alL, (show 0 ≤ z264.toInt ∧ z264.toInt ≤ 1 from by (first | exact om_641b3f05f166 rgz264.1 rgz264.2 | omega)), (show (V269 1 2).toInt = (V 1 2).toInt ∨ (V269 1 2).toInt = -1 from by (first | exact om_170aa16621ff pq274 | omega)), (Or.inr ⟨(by omega), hb273⟩), rw275⟩, by rw [ht]; exact hP, va_K.moved hW.alike hK, hD⟩, hS.F ht⟩) hS.2.2 dX1_readMember_169
