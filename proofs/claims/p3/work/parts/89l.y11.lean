/-! members and statements -/
def nxI (x : Int32) (k : List It) : List It := if x.toInt < 0 then Istmt :: k else Imember :: k
theorem nxI_s {x : Int32} {k : List It} (h : x.toInt < 0) : nxI x k = Istmt :: k := if_pos h
theorem nxI_m {x : Int32} {k : List It} (h : 0 ≤ x.toInt) : nxI x k = Imember :: k := if_neg (by omega)
theorem own_e {V : Vf} {o : Nat} (h : (V 1 2).toInt = (o : Int)) : Int32.toNatClampNeg (V 1 2) = o := by
  have := i_clamp (x := V 1 2) rfl (by omega)
  omega
theorem RelC.ow {V : Vf} {L : Lf} {b : Nat} {T : Tk} {s : St} {o : Nat} (h : RelC V L b T s) (ho : (V 1 2).toInt = (o : Int)) : OWr V o s := by
  have z := h.2.2.2.2 (by omega)
  rw [own_e ho] at z
  exact z
/-- all but what the owner has -/
theorem RelC.w1 {V W : Vf} {L : Lf} {b c k : Nat} {v : Int32} {T : Tk} {s s' : St} (h : RelC V L b T s) (e : W = up2 V c k v) (hc : ¬ c = 12 ∧ ¬ c = 13 ∧ ¬ c = 41 ∧ ¬ c = 43 ∧ ¬ c = 63 ∧ ¬ c = 65 ∧ ¬ c = 6) (h3 : ¬ (c = 1 ∧ k = 3)) (e1 : s'.1 0 = s.1 0) (e2 : s'.2.1 = s.2.1) (e4 : s'.2.2.1 = s.2.2.1) (ow : OWc W s') : RelC W L b T s' := by
  have f : ∀ x, ¬ c = x → W x = V x := fun x hx => up2_fo e (fun q => hx q.symm)
  have e6 : W 6 = V 6 := f 6 hc.2.2.2.2.2.2
  have e3 : W 1 3 = V 1 3 := by
    by_cases q : c = 1
    · subst q
      exact up2_k e (fun z => h3 ⟨rfl, z.symm⟩)
    · rw [f 1 q]
  refine ⟨?_, h.2.1.ag (by rw [e6]) (f 12 hc.1) (f 13 hc.2.1) rfl e3, h.2.2.1.ag (f 43 hc.2.2.2.1) rfl e2, h.2.2.2.1.ag (f 41 hc.2.2.1) (f 63 hc.2.2.2.2.1) (f 65 hc.2.2.2.2.2.1) e4, ow⟩
  rw [e1]
  exact h.1.ag (by rw [e6]) (by rw [e6]) (by rw [e6]) (by rw [e6]) (f 12 hc.1) (f 13 hc.2.1) rfl rfl
theorem RelC.mt {V W : Vf} {L : Lf} {b o f : Nat} {v : Int32} {T : Tk} {s : St} {l : List Nat} (h : RelC V L b T s) (ho : (V 1 2).toInt = (o : Int)) (e : W = up2 V 61 (20 * o + f) v) (hv : v.toInt ≠ -1) (hl : l = s.2.2.2) : RelC W L b T (sT s (f :: l)) := by
  have z := h.ow ho
  have e2 : W 1 2 = V 1 2 := up2_o e (by decide)
  refine h.w1 e (by decide) (fun q => absurd q.1 (by decide)) rfl rfl rfl (fun _ => ?_)
  rw [e2, own_e ho]
  refine ⟨by rw [up2_fo e (by decide)]; exact z.1, by rw [up2_fo e (by decide)]; exact z.2.1, by rw [up2_fo e (by decide)]; exact z.2.2.1, z.2.2.2.1, fun g hg => ?_⟩
  show _ ↔ g ∈ f :: l
  rw [List.mem_cons, hl]
  by_cases q : g = f
  · subst q
    rw [up2_s e]
    exact ⟨fun _ => Or.inl rfl, fun _ => hv⟩
  · rw [up2_k e (by omega), z.2.2.2.2 g hg]
    exact ⟨fun x => Or.inr x, fun x => x.elim (fun y => absurd y q) id⟩
theorem RelC.op {V W : Vf} {L : Lf} {b o : Nat} {v : Int32} {T : Tk} {s : St} (h : RelC V L b T s) (ho : (V 1 2).toInt = (o : Int)) (e : W = up2 V 56 o v) (hv : v.toInt ≠ -1) : RelC W L b T (sN s 2 1) := by
  have z := h.ow ho
  have e2 : W 1 2 = V 1 2 := up2_o e (by decide)
  refine h.w1 e (by decide) (fun q => absurd q.1 (by decide)) rfl rfl rfl (fun _ => ?_)
  rw [e2, own_e ho]
  refine ⟨by rw [up2_fo e (by decide)]; exact z.1, ?_, by rw [up2_fo e (by decide)]; exact z.2.2.1, z.2.2.2.1, by rw [up2_fo e (by decide)]; exact z.2.2.2.2⟩
  rw [up2_s e]
  exact ⟨fun q => absurd q hv, fun q => absurd rfl q⟩
theorem RelC.cl {V W : Vf} {L : Lf} {b o : Nat} {v : Int32} {T : Tk} {s : St} (h : RelC V L b T s) (ho : (V 1 2).toInt = (o : Int)) (e : W = up2 V 57 o v) (hv : v.toInt ≠ -1) : RelC W L b T (sN s 3 1) := by
  have z := h.ow ho
  have e2 : W 1 2 = V 1 2 := up2_o e (by decide)
  refine h.w1 e (by decide) (fun q => absurd q.1 (by decide)) rfl rfl rfl (fun _ => ?_)
  rw [e2, own_e ho]
  refine ⟨by rw [up2_fo e (by decide)]; exact z.1, by rw [up2_fo e (by decide)]; exact z.2.1, ?_, z.2.2.2.1, by rw [up2_fo e (by decide)]; exact z.2.2.2.2⟩
  rw [up2_s e]
  exact ⟨fun q => absurd q hv, fun q => absurd rfl q⟩
/-- the owner is set, is taken away -/
theorem RelC.os {V W : Vf} {L : Lf} {b o : Nat} {x : Int32} {T : Tk} {s : St} (h : RelC V L b T s) (e : W = up2 V 1 2 x) (hx : x.toInt = (o : Int)) (ow : OWr V o s) : RelC W L b T s := by
  refine h.w1 e (by decide) (fun q => absurd q.2 (by decide)) rfl rfl rfl (fun _ => ?_)
  have e1 : W 1 2 = x := up2_s e
  have e2 : Int32.toNatClampNeg (W 1 2) = o := own_e (by rw [e1]; exact hx)
  rw [e2]
  exact ow.ag (up2_fo e (by decide)) (up2_fo e (by decide)) (up2_fo e (by decide)) (up2_fo e (by decide)) (fun _ _ => rfl) rfl
theorem RelC.on {V W : Vf} {L : Lf} {b : Nat} {x : Int32} {T : Tk} {s : St} (h : RelC V L b T s) (e : W = up2 V 1 2 x) (hx : x.toInt < 0) : RelC W L b T s :=
  h.w1 e (by decide) (fun q => absurd q.2 (by decide)) rfl rfl rfl (fun q => by
    have e1 : W 1 2 = x := up2_s e
    rw [e1] at q
    omega)
/-- there is no owner: his places may be written -/
def okE (fs : List (Nat × Nat)) (cs : List Nat) : Bool := cs.all (fun c => !([1, 6, 12, 13, 41, 43, 63, 65].contains c)) && fs.all (fun x => !([(6, 7), (6, 8), (6, 9), (6, 10), (1, 2), (1, 3)].contains x) && decide (x.1 ≤ 6))
theorem RelC.agn {V W : Vf} {L M : Lf} {b : Nat} {T : Tk} {s : St} {fs : List (Nat × Nat)} {cs ls : List Nat} (h : RelC V L b T s) (hn : (V 1 2).toInt < 0) (a : agr fs cs V W) (k : okE fs cs = true) (m : agL ls L M) (j : okLs ls = true) : RelC W M b T s := by
  have u := okLs.use m j
  have e12 : W 12 = V 12 := funext fun q => ok_use a k (x := 12) rfl (Or.inl (by decide))
  have e13 : W 13 = V 13 := funext fun q => ok_use a k (x := 13) rfl (Or.inl (by decide))
  have e7 : W 6 7 = V 6 7 := ok_use a k rfl (Or.inr rfl)
  have e2 : W 1 2 = V 1 2 := ok_use a k rfl (Or.inr rfl)
  refine ⟨h.1.ag e7 (ok_use a k rfl (Or.inr rfl)) (ok_use a k rfl (Or.inr rfl)) (ok_use a k rfl (Or.inr rfl)) e12 e13 u.1 u.2.1, h.2.1.ag e7 e12 e13 u.2.1 (ok_use a k rfl (Or.inr rfl)), h.2.2.1.ag (funext fun q => ok_use a k (x := 43) rfl (Or.inl (by decide))) u.2.2 rfl, h.2.2.2.1.ag (funext fun q => ok_use a k (x := 41) rfl (Or.inl (by decide))) (funext fun q => ok_use a k (x := 63) rfl (Or.inl (by decide))) (funext fun q => ok_use a k (x := 65) rfl (Or.inl (by decide))) rfl, ?_⟩
  intro q
  rw [e2] at q
  omega
/-- a need more -/
def okD (fs : List (Nat × Nat)) (cs : List Nat) : Bool := cs.all (fun c => !([1, 6, 12, 13, 41, 43, 56, 57, 61, 63, 65].contains c)) && fs.all (fun x => !([(6, 7), (6, 8), (6, 9), (6, 10), (1, 2), (1, 3)].contains x) && decide (x.1 ≤ 6))
theorem RelC.nd {V W : Vf} {L : Lf} {b o : Nat} {T : Tk} {s : St} {fs : List (Nat × Nat)} {cs : List Nat} (h : RelC V L b T s) (ho : (V 1 2).toInt = (o : Int)) (a : agr fs cs V W) (k : okD fs cs = true) (n1 : (W 49 o).toInt = (V 49 o).toInt + 1) : RelC W L b T (sN s 1 (s.1 1 + 1)) := by
  have e12 : W 12 = V 12 := funext fun q => ok_use a k (x := 12) rfl (Or.inl (by decide))
  have e13 : W 13 = V 13 := funext fun q => ok_use a k (x := 13) rfl (Or.inl (by decide))
  have e7 : W 6 7 = V 6 7 := ok_use a k rfl (Or.inr rfl)
  have e2 : W 1 2 = V 1 2 := ok_use a k rfl (Or.inr rfl)
  have z := h.ow ho
  refine ⟨h.1.ag e7 (ok_use a k rfl (Or.inr rfl)) (ok_use a k rfl (Or.inr rfl)) (ok_use a k rfl (Or.inr rfl)) e12 e13 rfl rfl, h.2.1.ag e7 e12 e13 rfl (ok_use a k rfl (Or.inr rfl)), h.2.2.1.ag (funext fun q => ok_use a k (x := 43) rfl (Or.inl (by decide))) rfl rfl, h.2.2.2.1.ag (funext fun q => ok_use a k (x := 41) rfl (Or.inl (by decide))) (funext fun q => ok_use a k (x := 63) rfl (Or.inl (by decide))) (funext fun q => ok_use a k (x := 65) rfl (Or.inl (by decide))) rfl, fun _ => ?_⟩
  rw [e2, own_e ho]
  have e56 : W 56 = V 56 := funext fun q => ok_use a k (x := 56) rfl (Or.inl (by decide))
  have e57 : W 57 = V 57 := funext fun q => ok_use a k (x := 57) rfl (Or.inl (by decide))
  have e61 : W 61 = V 61 := funext fun q => ok_use a k (x := 61) rfl (Or.inl (by decide))
  refine ⟨?_, by rw [e56]; exact z.2.1, by rw [e57]; exact z.2.2.1, z.2.2.2.1, by rw [e61]; exact z.2.2.2.2⟩
  rw [n1, z.1]
  show ((s.1 1 : Nat) : Int) + 1 = ((s.1 1 + 1 : Nat) : Int)
  omega
theorem OWr.fresh {V : Vf} {o n : Nat} {s s' : St} (k : keepS (scopeS s) n s') (c49 : (V 49 o).toInt = 0) (c56 : (V 56 o).toInt = -1) (c57 : (V 57 o).toInt = -1) (c61 : ∀ q : Nat, (q : Int) < 20 → (V 61 (20 * o + q)).toInt = -1) (w : Int64) : OWr V o (sA s' 2 w) := by
  refine ⟨?_, ⟨fun _ => ?_, fun _ => c56⟩, ⟨fun _ => ?_, fun _ => c57⟩, ?_, fun f hf => ?_⟩
  · show _ = ((s'.1 1 : Nat) : Int)
    rw [c49, k.2.1 1 (by decide)]
    rfl
  · show s'.1 2 ≠ 1
    rw [k.2.1 2 (by decide)]
    show (0 : Nat) ≠ 1
    decide
  · show s'.1 3 ≠ 1
    rw [k.2.1 3 (by decide)]
    show (0 : Nat) ≠ 1
    decide
  · show s'.1 4 = 0
    rw [k.2.1 4 (by decide)]
    rfl
  · show _ ↔ f ∈ s'.2.2.2
    rw [k.2.2.2]
    exact ⟨fun q => absurd (c61 f (by omega)) q, fun q => absurd q List.not_mem_nil⟩
/-! wraps -/
theorem take_s {α : Type} : ∀ (l : List α) (i : Nat) (h : i < l.length), l.take (i + 1) = l.take i ++ [l[i]]
  | [], i, h => absurd h (Nat.not_lt_zero _)
  | a :: l, 0, h => rfl
  | a :: l, i + 1, h => congrArg (List.cons a) (take_s l i (Nat.lt_of_succ_lt_succ h))
theorem ar_app (l : List (Nat × Bool)) (x : Nat × Bool) (f : Nat) : arounds (l ++ [x]) f = arounds l f + (if x.1 = f ∧ x.2 = true then 1 else 0) := by
  unfold arounds
  rw [List.filter_append, List.length_append]
  by_cases c : x.1 = f ∧ x.2 = true
  · rw [if_pos c, List.filter_cons_of_pos (by rw [c.1, c.2]; simp)]
    rfl
  · rw [if_neg c, List.filter_cons_of_neg (by intro q; rw [Bool.and_eq_true, beq_iff_eq] at q; exact c q)]
    rfl
theorem WRc.st {V : Vf} {b i f : Nat} {s : St} (h : WRc V b s) (hi : (i : Int) < (V 41 b).toInt) : arounds (s.2.2.1.take (i + 1)) f = arounds (s.2.2.1.take i) f + (if (V 65 (12 * b + i)).toInt = 1 ∧ (V 63 (12 * b + i)).toInt = (f : Int) then 1 else 0) := by
  have hl : i < s.2.2.1.length := by have := h.1; omega
  have z := h.2 i hl
  rw [take_s _ i hl, ar_app, z.2]
  congr 1
  by_cases c : (V 65 (12 * b + i)).toInt = 1 ∧ (V 63 (12 * b + i)).toInt = (f : Int)
  · rw [if_pos c, if_pos ⟨by show (V 63 (12 * b + i)).toInt.toNat = f; omega, decide_eq_true c.1⟩]
  · rw [if_neg c, if_neg (fun q => c ⟨of_decide_eq_true q.2, by have q1 : (V 63 (12 * b + i)).toInt.toNat = f := q.1; omega⟩)]
theorem WRc.all {V : Vf} {b i f : Nat} {s : St} (h : WRc V b s) (hi : (i : Int) = (V 41 b).toInt) : arounds (s.2.2.1.take i) f = arounds s.2.2.1 f := by
  rw [List.take_of_length_le (by have := h.1; omega)]
def okW (fs : List (Nat × Nat)) (cs : List Nat) : Bool := cs.all (fun c => !([1, 6, 12, 13, 43, 49, 56, 57, 61].contains c)) && fs.all (fun x => !([(6, 7), (6, 8), (6, 9), (6, 10), (1, 2), (1, 3)].contains x) && decide (x.1 ≤ 6))
theorem RelC.wr {V W : Vf} {L : Lf} {b f : Nat} {m q9 : Int32} {T : Tk} {s : St} {fs : List (Nat × Nat)} {cs : List Nat} (h : RelC V L b T s) (a : agr fs cs V W) (k : okW fs cs = true) (h0 : 0 ≤ (V 41 b).toInt) (n1 : (W 41 b).toInt = (V 41 b).toInt + 1) (e63 : W 63 = upd (V 63) (12 * b + Int32.toNatClampNeg (V 41 b)) m) (e65 : W 65 = upd (V 65) (12 * b + Int32.toNatClampNeg (V 41 b)) q9) (hm : m.toInt = (f : Int)) : RelC W L b T (sW s (f, decide (q9.toInt = 1))) := by
  have e12 : W 12 = V 12 := funext fun q => ok_use a k (x := 12) rfl (Or.inl (by decide))
  have e13 : W 13 = V 13 := funext fun q => ok_use a k (x := 13) rfl (Or.inl (by decide))
  have e7 : W 6 7 = V 6 7 := ok_use a k rfl (Or.inr rfl)
  have e2 : W 1 2 = V 1 2 := ok_use a k rfl (Or.inr rfl)
  have kc := i_clamp (x := V 41 b) rfl h0
  have w := h.2.2.2.1
  have wl := w.1
  refine ⟨h.1.ag e7 (ok_use a k rfl (Or.inr rfl)) (ok_use a k rfl (Or.inr rfl)) (ok_use a k rfl (Or.inr rfl)) e12 e13 rfl rfl, h.2.1.ag e7 e12 e13 rfl (ok_use a k rfl (Or.inr rfl)), h.2.2.1.ag (funext fun q => ok_use a k (x := 43) rfl (Or.inl (by decide))) rfl rfl, ⟨?_, ?_⟩, ?_⟩
  · show ((s.2.2.1 ++ [(f, decide (q9.toInt = 1))]).length : Int) = _
    rw [List.length_append, n1]
    show ((s.2.2.1.length + 1 : Nat) : Int) = _
    omega
  · show ∀ i (hi : i < (s.2.2.1 ++ [(f, decide (q9.toInt = 1))]).length), 0 ≤ (W 63 (12 * b + i)).toInt ∧ (s.2.2.1 ++ [(f, decide (q9.toInt = 1))])[i] = ((W 63 (12 * b + i)).toInt.toNat, decide ((W 65 (12 * b + i)).toInt = 1))
    intro i hi
    rw [e63, e65]
    have hi2 : i < s.2.2.1.length + 1 := by rw [List.length_append] at hi; exact hi
    by_cases c : i < s.2.2.1.length
    · have u1 : upd (V 63) (12 * b + Int32.toNatClampNeg (V 41 b)) m (12 * b + i) = V 63 (12 * b + i) := if_neg (by omega)
      have u2 : upd (V 65) (12 * b + Int32.toNatClampNeg (V 41 b)) q9 (12 * b + i) = V 65 (12 * b + i) := if_neg (by omega)
      rw [u1, u2, List.getElem_append_left c]
      exact w.2 i c
    · have ei : i = s.2.2.1.length := by omega
      have u1 : upd (V 63) (12 * b + Int32.toNatClampNeg (V 41 b)) m (12 * b + i) = m := if_pos (by omega)
      have u2 : upd (V 65) (12 * b + Int32.toNatClampNeg (V 41 b)) q9 (12 * b + i) = q9 := if_pos (by omega)
      rw [u1, u2, List.getElem_append_right (by omega), hm]
      refine ⟨by omega, ?_⟩
      rw [Int.toNat_natCast]
      exact List.getElem_singleton _
  · intro q
    rw [e2] at q ⊢
    exact (h.2.2.2.2 q).ag (funext fun q => ok_use a k (x := 49) rfl (Or.inl (by decide))) (funext fun q => ok_use a k (x := 56) rfl (Or.inl (by decide))) (funext fun q => ok_use a k (x := 57) rfl (Or.inl (by decide))) (funext fun q => ok_use a k (x := 61) rfl (Or.inl (by decide))) (fun _ _ => rfl) rfl
theorem RelC.s4 {V : Vf} {L : Lf} {b v : Nat} {T : Tk} {s : St} (h : RelC V L b T s) (hn : (V 1 2).toInt < 0) : RelC V L b T (sN s 4 v) := ⟨h.1, h.2.1, h.2.2.1, h.2.2.2.1, fun q => absurd q (by omega)⟩


abbrev r_x_readExpression38 : Room := { frames := 89, cells := 0, slots := 0, locals := 2640 }
abbrev q_x_readExpression38 (D : va_G) (ks : KS) (ad : Nat → Nat) (kk : Nat → ClassId) (V : Vf) (L : Lf) (Z : XZ) (p0 : Int32) (b : Nat) (gT : Tk) (gs : St) (gd : Nat) (A : Nat → Prop) : Array Value → State → Outcome → State → Prop := q_x_readExpression3 D ks ad kk V L Z p0 b gT gs gd A
theorem x_readExpression38 (l : Launch) (D : va_G) (ks : KS) (sz : Nat) (ad : Nat → Nat) (kk : Nat → ClassId) (V : Vf) (L : Lf) (Z : XZ) (p0 : Int32) (b : Nat) (gT : Tk) (gs : St) (gd : Nat) (hMV : rgd bX V) (rg_p0 : 0 ≤ p0.toInt ∧ p0.toInt ≤ 0) (hb2 : b < 2) (rbk : (V 1 1).toInt = (b : Int)) (rel : RelC V L b gT gs) (yd : p0.toInt = (gd : Int)) (wh : (V 1 4).toInt = ((gs.1 4 : Nat) : Int)) (ow : ((V 1 4).toInt = 0 → 0 ≤ (V 1 2).toInt)) : Met l yX1_readExpression (Cond.code yX1_readExpression cX1_readExpression 3 (some .boolean) :: GW) r_x_readExpression38 (va_Pc [.ref (ad 1), .int p0] (gp D ks (xw ad kk V L Z) (xty kk Z) sz)) (q_x_readExpression38 D ks ad kk V L Z p0 b gT gs gd (va_A (xw ad kk V L Z) sz)) 0 0 (va_A (xw ad kk V L Z) sz) :=
  K_xexpr3 8 sz ad kk V L Z p0 b gT gs gd hMV (by omega) hb2 rbk rel yd wh ow (by omega)

abbrev r_x_readE3 : Room := { frames := 90, cells := 0, slots := 0, locals := 2662 }
abbrev q_x_readE3 (D : va_G) (ks : KS) (ad : Nat → Nat) (kk : Nat → ClassId) (V : Vf) (L : Lf) (Z : XZ) (p0 : Int32) (b : Nat) (gT : Tk) (gs : St) (A : Nat → Prop) : Array Value → State → Outcome → State → Prop := va_Qi (fun (r : Int32) (u : Vf × Lf) => rgd bX u.1 ∧ agr [(1, 3), (1, 4), (1, 6), (1, 8), (6, 8), (6, 9), (6, 10)] [42, 43, 44, 48] V u.1 ∧ agL [6, 44] L u.2 ∧ (0 ≤ r.toInt ∧ r.toInt ≤ 1) ∧ (Rd gT gs (fun k => Iexpr 0 :: Itake 59 :: k) (fun k => k) r.toInt (u.1 1 3).toInt (fun s9 => RelC u.1 u.2 b gT s9 ∧ keepS gs 2 s9))) (fun u t => gq D A (xw ad kk u.1 u.2 Z) (xty kk Z) t) A
set_option maxHeartbeats 4000000 in
set_option maxRecDepth 100000 in
theorem x_readE3 (l : Launch) (D : va_G) (ks : KS) (sz : Nat) (ad : Nat → Nat) (kk : Nat → ClassId) (V : Vf) (L : Lf) (Z : XZ) (p0 : Int32) (b : Nat) (gT : Tk) (gs : St) (hMV : rgd bX V) (rg_p0 : 0 ≤ p0.toInt ∧ p0.toInt ≤ 2) (hb2 : b < 2) (rbk : (V 1 1).toInt = (b : Int)) (rel : RelC V L b gT gs) (pw : p0.toInt = ((gs.1 4 : Nat) : Int)) (owp : (p0.toInt = 0 → 0 ≤ (V 1 2).toInt))  : Met l yX1_readE (Cond.code yX1_readE cX1_readE 2 (some .boolean) :: GW) r_x_readE3 (va_Pc [.ref (ad 1), .int p0] (gp D ks (xw ad kk V L Z) (xty kk Z) sz)) (q_x_readE3 D ks ad kk V L Z p0 b gT gs (va_A (xw ad kk V L Z) sz)) 0 0 (va_A (xw ad kk V L Z) sz) := by
  refine g_met (q_x_readE3 D ks ad kk V L Z p0 b gT gs) (by decide) (Nat.le_of_ble_eq_true rfl) ?_
  intro p e s m below meth c A ls H locs hx hb hr hml hown hg hlocks hin hnw hgk hP hK hD hS hA hl
  have hown : s.vm.findClass RX1 = some m.cls := hown
  have hl : lv_has ls 2 [(0, .ref (ad 1)), (1, .int p0)] := hl
  have hP : va_P D vwCl (xw ad kk V L Z) H := hP
  have hD : va_D A (xw ad kk V L Z) := hD
  have hK : va_K D vwCl (xty kk Z) s := hK
  have agV : agr [(1, 3), (1, 4), (1, 6), (1, 8), (6, 8), (6, 9), (6, 10)] [42, 43, 44, 48] V V := agr.rf
  have alL : agL [6, 44] L L := agL.rf
  have rf_p0 := i_full p0
  have r1 : (-1) ≤ ((V 1 1)).toInt ∧ ((V 1 1)).toInt ≤ 1 := hMV 1 1
  refine lv_aload_n hx hb dX1_readE_0 rfl (lv_at hl 0 rfl) ?_
  refine lv_iload_n hx hb dX1_readE_1 rfl (lv_at hl 1 rfl) ?_
  refine va_put (D := D) (ci := 1) (v := .int p0) (ty := tyX1 4) (fs := (xfReader ad V L Z)) (C := RX1) (T := TX1) (N := 9) hx hb hg inX1 tyX1 tyX1_ok nmX1 hown hK hP hD hS 1 xgReader rfl 4 (by decide) (hg _ w308) (fun _ h9 => h9) rfl (tyX1_ok 4 (by decide)) rfl rfl (Nat.le_of_ble_eq_true rfl) dX1_readE_2 (fun H locs hP hD hS => ?_)
  obtain ⟨V2, hV2⟩ : ∃ z, z = up2 V 1 4 p0 := ⟨_, rfl⟩
  have ew3 : (xw ad kk V L Z).set 1 ((ad 1), .inr (1, (xfReader ad V L Z).set 4 (.int p0))) = xw ad kk V2 L Z := by rw [hV2]; exact xw_ss (by decide) rfl (xb_si (by decide))
  have hP : va_P D vwCl (xw ad kk V2 L Z) H := by rw [← ew3]; exact hP
  have hD : va_D A (xw ad kk V2 L Z) := by rw [← ew3]; exact hD
  have hMV2 : rgd bX V2 := hMV.put hV2 (show 0 ≤ p0.toInt ∧ p0.toInt ≤ 2 from by omega)
  have agV2 : agr [(1, 3), (1, 4), (1, 6), (1, 8), (6, 8), (6, 9), (6, 10)] [42, 43, 44, 48] V V2 := agV.up hV2 rfl
  refine lv_aload_n hx hb dX1_readE_5 rfl (lv_at hl 0 rfl) ?_
  refine lv_iconst (v := 0) hx hb dX1_readE_6 (by decide) ?_
  have rl4 : RelC V2 L b gT gs := RelC.ag rel (show agr [(1, 4)] [] V V2 from (agr.up agr.rf hV2 rfl)) (by decide) (show agL [] L L from agL.rf) (by decide)
  have hr5 : ∀ k, Rc gT (Crun gs (Iexpr 0 :: Itake 59 :: k)) (Crun gs (Iexpr 0 :: Itake 59 :: k)) := fun k => Rc.rf
  have r6 : Int32.toInt 0 = 0 := by decide
  have pq7 : (V2 1 1).toInt = ((V 1 1)).toInt := congrArg Int32.toInt (up2_k hV2 (by decide))
  refine gA_int (gA_runV (As := [.int 0]) (rest := []) (ci := 1) (q0 := 1) hx hb hml hown hg hP hD hK hS hA hnw hgk (x_readExpression38 l D ks H.size ad kk V2 L Z 0 (b) (gT) (gs) (0) hMV2 (by decide) (show b < 2 from by omega) (show (V2 1 1).toInt = (b : Int) from by omega) rl4 (show (Int32.toInt 0) = (0 : Int) from by omega) ((congrArg Int32.toInt (up2_s hV2)).trans pw) (fun h9 => by rw [(up2_k hV2 (by decide))]; exact owp ((congrArg Int32.toInt (up2_s hV2)).symm.trans h9))) w951 w953 w21 w162 w954 rfl xgReader hdV_yX1_readExpression ⟨Nat.le_of_ble_eq_true rfl, Nat.le_of_ble_eq_true rfl⟩ rfl hl.1 rfl (Nat.le_of_ble_eq_true rfl) dX1_readE_7 ⟨Nat.le_of_ble_eq_true rfl, Nat.le_of_ble_eq_true rfl⟩) hP hD hK hS hA (fun z8 u9 H locs w10 hP hD hK hS => ?_)
  obtain ⟨V12, L13⟩ := u9
  obtain ⟨hMV12, ajV12, axL13, rgz8, t11⟩ := w10
  have alL13 : agL [6, 44] L L13 := agL.tr alL axL13 (by decide)
  have hP : va_P D vwCl (xw ad kk V12 L13 Z) H := hP
  have hD : va_D A (xw ad kk V12 L13 Z) := hD
  have hMV12 : rgd bX V12 := hMV12
  have ajV12 : agr [(1, 3), (1, 6), (1, 8), (6, 8), (6, 9), (6, 10)] [42, 43, 44, 48] V2 V12 := ajV12
  have agV12 : agr [(1, 3), (1, 4), (1, 6), (1, 8), (6, 8), (6, 9), (6, 10)] [42, 43, 44, 48] V V12 := agV2.tr ajV12 (by decide) (by decide)
  have rgz8 : 0 ≤ z8.toInt ∧ z8.toInt ≤ 1 := rgz8
  have t11 : Rd gT gs (fun k => Iexpr 0 :: k) (fun k => k) z8.toInt (V12 1 3).toInt (fun s9 => RelC V12 L13 b gT s9 ∧ keepS gs 1 s9) := t11
  rcases t11 with ⟨q14, sx15, h16, rl17, kp18⟩ | ⟨q14, h16⟩
  · skip
    have hr19 : ∀ k, Rc gT (Crun gs (Iexpr 0 :: Itake 59 :: k)) (Crun sx15 (Itake 59 :: k)) := fun k => (hr5 k).tr (h16 (Itake 59 :: k))
    refine lv_if_ne (tgt := 15) hx hb dX1_readE_10 (by decide) (fun c20 => ?_) (fun c20 => ?_)
    · skip
      have f21 : z8.toInt ≠ 0 := b_neq rfl (by decide) c20
      refine lv_aload_n hx hb dX1_readE_15 rfl (lv_at hl 0 rfl) ?_
      refine va_get (D := D) (ci := 1) (v := rfN ad 38 (V12 1 1)) (fs := (xfReader ad V12 L13 Z)) (C := RX1) (T := TX1) (N := 9) hx hb hg inX1 hown hK hP 1 xgReader rfl 1 (by decide) (hg _ w305) (fun _ h9 => h9) rfl dX1_readE_16 ?_
      have pq22 : (V12 1 1).toInt = ((V 1 1)).toInt := congrArg Int32.toInt ((ajV12 1 1 rfl).trans (up2_k hV2 (by decide)))
      refine g_topv (v := .ref (ad (38 + b))) (rfN_r (by omega)) ?_
      refine lv_iconst (v := 0) hx hb dX1_readE_19 (by decide) ?_
      refine gA_void (gA_runV (As := [.int 0]) (rest := []) (ci := 0) (q0 := (38 + b)) hx hb hml hown hg hP hD hK hS hA hnw hgk (x_emit l D ks H.size ad kk V12 L13 Z 0 (b) hMV12 (show b < 2 from by omega)) w971 w972 w973 w167 w974 rfl (xgBook hb2) hdV_yX0_emit ⟨Nat.le_of_ble_eq_true rfl, Nat.le_of_ble_eq_true rfl⟩ rfl hl.1 rfl (Nat.le_of_ble_eq_true rfl) dX1_readE_20 ⟨Nat.le_of_ble_eq_true rfl, Nat.le_of_ble_eq_true rfl⟩) hP hD hK hS hA (fun u24 H locs w25 hP hD hK hS => ?_)
      obtain ⟨V27, L28⟩ := u24
      obtain ⟨hMV27, ajV27, axL28, fyV27, t26⟩ := w25
      have axL28 : L13 = L28 := Eq.symm axL28
      subst axL28
      have hP : va_P D vwCl (xw ad kk V27 L13 Z) H := hP
      have hD : va_D A (xw ad kk V27 L13 Z) := hD
      have hMV27 : rgd bX V27 := hMV27
      have ajV27 : agr [] [42, 48] V12 V27 := ajV27
      have agV27 : agr [(1, 3), (1, 4), (1, 6), (1, 8), (6, 8), (6, 9), (6, 10)] [42, 43, 44, 48] V V27 := agV12.tr ajV27 (by decide) (by decide)
      have t26 : emX V12 V27 b 0 := t26
      refine lv_aload_n hx hb dX1_readE_23 rfl (lv_at hl 0 rfl) ?_
      refine lv_bipush (v := 59) hx hb dX1_readE_24 (by decide) ?_
      have rl29 : RelC V27 L13 b gT sx15 := RelC.ag rl17 (show agr [] [42, 48] V12 V27 from (agr.tr agr.rf ajV27 (by decide) (by decide))) (by decide) (show agL [] L13 L13 from agL.rf) (by decide)
      have r30 : Int32.toInt 59 = 59 := by decide
      refine gA_int (gA_runV (As := [.int 59]) (rest := []) (ci := 1) (q0 := 1) hx hb hml hown hg hP hD hK hS hA hnw hgk (x_take2 l D ks H.size ad kk V27 L13 Z 59 ((sx15.1 0)) hMV27 (rl29).1 (rl29).2.1.1 (show 1 ≤ (Int32.toInt 59) from by omega)) w893 w895 w10 w162 w896 rfl xgReader hdV_yX1_take ⟨Nat.le_of_ble_eq_true rfl, Nat.le_of_ble_eq_true rfl⟩ rfl hl.1 rfl (Nat.le_of_ble_eq_true rfl) dX1_readE_26 ⟨Nat.le_of_ble_eq_true rfl, Nat.le_of_ble_eq_true rfl⟩) hP hD hK hS hA (fun z31 u32 H locs w33 hP hD hK hS => ?_)
      obtain ⟨V36, L37⟩ := u32
      obtain ⟨hMV36, ajV36, axL37, rgz31, t34, t35⟩ := w33
      have alL37 : agL [6, 44] L L37 := agL.tr alL13 axL37 (by decide)
      have hP : va_P D vwCl (xw ad kk V36 L37 Z) H := hP
      have hD : va_D A (xw ad kk V36 L37 Z) := hD
      have hMV36 : rgd bX V36 := hMV36
      have ajV36 : agr [(1, 3), (6, 8), (6, 9), (6, 10)] [] V27 V36 := ajV36
      have agV36 : agr [(1, 3), (1, 4), (1, 6), (1, 8), (6, 8), (6, 9), (6, 10)] [42, 43, 44, 48] V V36 := agV27.tr ajV36 (by decide) (by decide)
      have rgz31 : 0 ≤ z31.toInt ∧ z31.toInt ≤ 1 := rgz31
      have t34 : Imp (z31.toInt = 0) (1 ≤ (V36 1 3).toInt) := t34
      have t35 : (z31.toInt = 1 ∧ (V27 12 (sx15.1 0)).toInt = (Int32.toInt 59) ∧ CUR V36 L37 ((sx15.1 0) + 1) ∧ V36 1 3 = V27 1 3) ∨ (z31.toInt = 0 ∧ (V27 12 (sx15.1 0)).toInt ≠ (Int32.toInt 59) ∧ (V36 1 3).toInt = 1 + 16 * (V27 13 (sx15.1 0)).toInt) := t35
      rcases t35 with ⟨q38, h39, k40, k41⟩ | ⟨q38, h39, k40⟩
      · skip
        have rl42 : RelC V36 L37 b gT (nx sx15 1) := RelC.nx1 rl29 ajV36 (by decide) axL37 (by decide) k40 k41
        have hr43 : ∀ k, Rc gT (Crun gs (Iexpr 0 :: Itake 59 :: k)) (Crun (nx sx15 1) (k)) := fun k => Rc.go1 (hr19 k) (tk_y (rl29.tok.1.trans (h39.trans (by decide))))
        exact W.zret (v := z31) hx hb hr (nb_ok (by omega)) (fun t ht hW => ⟨⟨z31, (V36, L37), rfl, ⟨hMV36, agV36, alL37, (show 0 ≤ z31.toInt ∧ z31.toInt ≤ 1 from by first | omega | ((try (have i_t34 := Imp.go t34 (by omega))); omega)), (Or.inl ⟨(by omega), (nx sx15 1), hr43, rl42, keepS.le (keepS.tr (keepS.tr (keepS.rf : keepS gs 0 gs) kp18) (keepS.n1 1)) (by decide)⟩)⟩, by rw [ht]; exact hP, va_K.moved hW.alike hK, hD⟩, hS.F ht⟩) hS.2.2 dX1_readE_29
      · skip
        have hb44 : ∀ k, Rc gT (Crun gs (Iexpr 0 :: Itake 59 :: k)) (Cbad (V36 1 3).toInt) := fun k => Rc.go1 (hr19 k) ((tk_n (fun h9 => h39 (rl29.tok.1.symm.trans (h9.trans (by decide))))).trans (fl_eq rl29.tok.2.2 k40))
        exact W.zret (v := z31) hx hb hr (nb_ok (by omega)) (fun t ht hW => ⟨⟨z31, (V36, L37), rfl, ⟨hMV36, agV36, alL37, (show 0 ≤ z31.toInt ∧ z31.toInt ≤ 1 from by first | omega | ((try (have i_t34 := Imp.go t34 (by omega))); omega)), (Or.inr ⟨(by omega), hb44⟩)⟩, by rw [ht]; exact hP, va_K.moved hW.alike hK, hD⟩, hS.F ht⟩) hS.2.2 dX1_readE_29
    · skip
      have f45 : z8.toInt = 0 := b_eq rfl (by decide) c20
      exfalso; omega
  · skip
    have hb46 : ∀ k, Rc gT (Crun gs (Iexpr 0 :: Itake 59 :: k)) (Cbad (V12 1 3).toInt) := fun k => (hr5 k).tr (h16 (Itake 59 :: k))
    refine lv_if_ne (tgt := 15) hx hb dX1_readE_10 (by decide) (fun c47 => ?_) (fun c47 => ?_)
    · skip
      have f48 : z8.toInt ≠ 0 := b_neq rfl (by decide) c47
      exfalso; omega
    · skip
      have f49 : z8.toInt = 0 := b_eq rfl (by decide) c47
      refine lv_iconst (v := 0) hx hb dX1_readE_13 (by decide) ?_
      exact W.zret (v := 0) hx hb hr rfl (fun t ht hW => ⟨⟨0, (V12, L13), rfl, ⟨hMV12, agV12, alL13, (by decide), (Or.inr ⟨rfl, hb46⟩)⟩, by rw [ht]; exact hP, va_K.moved hW.alike hK, hD⟩, hS.F ht⟩) hS.2.2 dX1_readE_14
abbrev r_x_addNeed3 : Room := { frames := 0, cells := 0, slots := 0, locals := 0 }
abbrev q_x_addNeed3 (D : va_G) (ks : KS) (ad : Nat → Nat) (kk : Nat → ClassId) (V : Vf) (L : Lf) (Z : XZ) (p0 : Int32) (p1 : Int32) (p2 : Int32) (gi : Nat) (A : Nat → Prop) : Array Value → State → Outcome → State → Prop := va_Qv (fun (u : Vf × Lf) => rgd bX u.1 ∧ agr [] [49, 58, 59, 60] V u.1 ∧ u.2 = L ∧ frX (xI gi) V u.1 ∧ (Imp ((V 49 gi).toInt < 8) ((u.1 49 gi).toInt = (V 49 gi).toInt + 1))) (fun u t => gq D A (xw ad kk u.1 u.2 Z) (xty kk Z) t) A
set_option maxHeartbeats 4000000 in
set_option maxRecDepth 100000 in
theorem x_addNeed3 (l : Launch) (D : va_G) (ks : KS) (sz : Nat) (ad : Nat → Nat) (kk : Nat → ClassId) (V : Vf) (L : Lf) (Z : XZ) (p0 : Int32) (p1 : Int32) (p2 : Int32) (gi : Nat) (hMV : rgd bX V) (hgi : gi < 48)  : Met l yX3_addNeed (Cond.code yX3_addNeed cX3_addNeed 4 none :: GW) r_x_addNeed3 (va_Pc [.ref (ad (72 + gi)), .int p0, .int p1, .int p2] (gp D ks (xw ad kk V L Z) (xty kk Z) sz)) (q_x_addNeed3 D ks ad kk V L Z p0 p1 p2 gi (va_A (xw ad kk V L Z) sz)) 0 0 (va_A (xw ad kk V L Z) sz) := by
  refine g_met (q_x_addNeed3 D ks ad kk V L Z p0 p1 p2 gi) (by decide) (Nat.le_of_ble_eq_true rfl) ?_
  intro p e s m below meth c A ls H locs hx hb hr hml hown hg hlocks hin hnw hgk hP hK hD hS hA hl
  have hown : s.vm.findClass RX3 = some m.cls := hown
  have hl : lv_has ls 4 [(0, .ref (ad (72 + gi))), (1, .int p0), (2, .int p1), (3, .int p2)] := hl
  have hP : va_P D vwCl (xw ad kk V L Z) H := hP
  have hD : va_D A (xw ad kk V L Z) := hD
  have hK : va_K D vwCl (xty kk Z) s := hK
  have agV : agr [] [49, 58, 59, 60] V V := agr.rf
  have fwV : frX (xI gi) V V := frX.rf
  refine lv_aload_n hx hb dX3_addNeed_0 rfl (lv_at hl 0 rfl) ?_
  refine va_get (D := D) (ci := 3) (v := .int (V 49 gi)) (fs := (xfComp ad V gi)) (C := RX3) (T := TX3) (N := 13) hx hb hg inX3 hown hK hP (72 + gi) (xgComp hgi) rfl 4 (by decide) (hg _ w510) (fun _ h9 => h9) rfl dX3_addNeed_1 ?_
  have r1 : 0 ≤ ((V 49 gi)).toInt ∧ ((V 49 gi)).toInt ≤ 8 := hMV 49 gi
  refine lv_bipush (v := 8) hx hb dX3_addNeed_4 (by decide) ?_
  refine lv_icmp_ge (tgt := 49) hx hb dX3_addNeed_6 (by decide) (fun c2 => ?_) (fun c2 => ?_)
  · skip
    have f3 : 8 ≤ ((V 49 gi)).toInt := b_le (by decide) rfl c2
    exact W.vret hx hb hr (fun t ht hW => ⟨⟨(V, L), rfl, ⟨hMV, agV, rfl, fwV, (Imp.mk (fun hp => have hp : (V 49 gi).toInt < 8 := hp; (show (V 49 gi).toInt = (V 49 gi).toInt + 1 from by omega)))⟩, by rw [ht]; exact hP, va_K.moved hW.alike hK, hD⟩, hS.F ht⟩) hS.2.2 dX3_addNeed_49
  · skip
    have f4 : ((V 49 gi)).toInt < 8 := b_nle (by decide) rfl c2
    refine lv_aload_n hx hb dX3_addNeed_9 rfl (lv_at hl 0 rfl) ?_
    refine va_get (D := D) (ci := 3) (v := .ref (ad (216 + gi))) (fs := (xfComp ad V gi)) (C := RX3) (T := TX3) (N := 13) hx hb hg inX3 hown hK hP (72 + gi) (xgComp hgi) rfl 2 (by decide) (hg _ w503) (fun _ h9 => h9) rfl dX3_addNeed_10 ?_
    refine lv_aload_n hx hb dX3_addNeed_13 rfl (lv_at hl 0 rfl) ?_
    refine va_get (D := D) (ci := 3) (v := .int (V 49 gi)) (fs := (xfComp ad V gi)) (C := RX3) (T := TX3) (N := 13) hx hb hg inX3 hown hK hP (72 + gi) (xgComp hgi) rfl 4 (by decide) (hg _ w510) (fun _ h9 => h9) rfl dX3_addNeed_14 ?_
    refine lv_iload_n hx hb dX3_addNeed_17 rfl (lv_at hl 1 rfl) ?_
    refine va_iast (D := D) (i := (V 49 gi)) (x := p0) hx hb hK hP hD hS (216 + gi) (209 + gi) (xgneedKinds hgi) (xtneedKinds hgi) (i_in (a := ((V 49 gi)).toInt) rfl (by omega)) dX3_addNeed_18 (fun H locs hP hD hS => ?_)
    have kc5 := i_clamp (x := (V 49 gi)) rfl (by omega)
    have kl6 : (Int32.toNatClampNeg (V 49 gi)) < 8 := by omega
    obtain ⟨V7, hV7⟩ : ∃ z, z = up2 V 60 (8 * gi + (Int32.toNatClampNeg (V 49 gi))) p0 := ⟨_, rfl⟩
    have ew8 : (xw ad kk V L Z).set (216 + gi) ((ad (216 + gi)), .inl ((kk (216 + gi)), 8, .inl (upd (fun q => if q < 8 then V 60 (8 * gi + q) else 0) (Int32.toNatClampNeg (V 49 gi)) p0))) = xw ad kk V7 L Z := by rw [hV7]; exact xpneedKinds hgi kl6
    have hP : va_P D vwCl (xw ad kk V7 L Z) H := by rw [← ew8]; exact hP
    have hD : va_D A (xw ad kk V7 L Z) := by rw [← ew8]; exact hD
    have hMV7 : rgd bX V7 := hMV.put hV7 (i_full _)
    have agV7 : agr [] [49, 58, 59, 60] V V7 := agV.up hV7 rfl
    have fwV7 : frX (xI gi) V V7 := frX.up fwV hV7 (Or.inr ⟨(by show 8 * gi ≤ (8 * gi + (Int32.toNatClampNeg (V 49 gi))); omega), (by show (8 * gi + (Int32.toNatClampNeg (V 49 gi))) < 8 * gi + 8; omega)⟩)
    refine lv_aload_n hx hb dX3_addNeed_19 rfl (lv_at hl 0 rfl) ?_
    refine va_get (D := D) (ci := 3) (v := .ref (ad (120 + gi))) (fs := (xfComp ad V7 gi)) (C := RX3) (T := TX3) (N := 13) hx hb hg inX3 hown hK hP (72 + gi) (xgComp hgi) rfl 0 (by decide) (hg _ w499) (fun _ h9 => h9) rfl dX3_addNeed_20 ?_
    refine lv_aload_n hx hb dX3_addNeed_23 rfl (lv_at hl 0 rfl) ?_
    refine va_get (D := D) (ci := 3) (v := .int (V7 49 gi)) (fs := (xfComp ad V7 gi)) (C := RX3) (T := TX3) (N := 13) hx hb hg inX3 hown hK hP (72 + gi) (xgComp hgi) rfl 4 (by decide) (hg _ w510) (fun _ h9 => h9) rfl dX3_addNeed_24 ?_
    refine g_top (v := (V 49 gi)) (up2_o hV7 (by decide)) ?_
    refine lv_iload_n hx hb dX3_addNeed_27 rfl (lv_at hl 2 rfl) ?_
    refine va_iast (D := D) (i := (V 49 gi)) (x := p1) hx hb hK hP hD hS (120 + gi) (113 + gi) (xgneedTypes hgi) (xtneedTypes hgi) (i_in (a := ((V 49 gi)).toInt) rfl (by omega)) dX3_addNeed_28 (fun H locs hP hD hS => ?_)
    have kl9 : (Int32.toNatClampNeg (V 49 gi)) < 8 := by omega
    obtain ⟨V10, hV10⟩ : ∃ z, z = up2 V7 58 (8 * gi + (Int32.toNatClampNeg (V 49 gi))) p1 := ⟨_, rfl⟩
    have ew11 : (xw ad kk V7 L Z).set (120 + gi) ((ad (120 + gi)), .inl ((kk (120 + gi)), 8, .inl (upd (fun q => if q < 8 then V7 58 (8 * gi + q) else 0) (Int32.toNatClampNeg (V 49 gi)) p1))) = xw ad kk V10 L Z := by rw [hV10]; exact xpneedTypes hgi kl9
    have hP : va_P D vwCl (xw ad kk V10 L Z) H := by rw [← ew11]; exact hP
    have hD : va_D A (xw ad kk V10 L Z) := by rw [← ew11]; exact hD
    have hMV10 : rgd bX V10 := hMV7.put hV10 (i_full _)
    have agV10 : agr [] [49, 58, 59, 60] V V10 := agV7.up hV10 rfl
    have fwV10 : frX (xI gi) V V10 := frX.up fwV7 hV10 (Or.inr ⟨(by show 8 * gi ≤ (8 * gi + (Int32.toNatClampNeg (V 49 gi))); omega), (by show (8 * gi + (Int32.toNatClampNeg (V 49 gi))) < 8 * gi + 8; omega)⟩)
    refine lv_aload_n hx hb dX3_addNeed_29 rfl (lv_at hl 0 rfl) ?_
    refine va_get (D := D) (ci := 3) (v := .ref (ad (168 + gi))) (fs := (xfComp ad V10 gi)) (C := RX3) (T := TX3) (N := 13) hx hb hg inX3 hown hK hP (72 + gi) (xgComp hgi) rfl 1 (by decide) (hg _ w501) (fun _ h9 => h9) rfl dX3_addNeed_30 ?_
    refine lv_aload_n hx hb dX3_addNeed_33 rfl (lv_at hl 0 rfl) ?_
    refine va_get (D := D) (ci := 3) (v := .int (V10 49 gi)) (fs := (xfComp ad V10 gi)) (C := RX3) (T := TX3) (N := 13) hx hb hg inX3 hown hK hP (72 + gi) (xgComp hgi) rfl 4 (by decide) (hg _ w510) (fun _ h9 => h9) rfl dX3_addNeed_34 ?_
    refine g_top (v := (V 49 gi)) ((up2_o hV10 (by decide)).trans (up2_o hV7 (by decide))) ?_
    refine lv_iload_n hx hb dX3_addNeed_37 rfl (lv_at hl 3 rfl) ?_
    refine va_iast (D := D) (i := (V 49 gi)) (x := p2) hx hb hK hP hD hS (168 + gi) (161 + gi) (xgneedWords hgi) (xtneedWords hgi) (i_in (a := ((V 49 gi)).toInt) rfl (by omega)) dX3_addNeed_38 (fun H locs hP hD hS => ?_)
    have kl12 : (Int32.toNatClampNeg (V 49 gi)) < 8 := by omega
    obtain ⟨V13, hV13⟩ : ∃ z, z = up2 V10 59 (8 * gi + (Int32.toNatClampNeg (V 49 gi))) p2 := ⟨_, rfl⟩
    have ew14 : (xw ad kk V10 L Z).set (168 + gi) ((ad (168 + gi)), .inl ((kk (168 + gi)), 8, .inl (upd (fun q => if q < 8 then V10 59 (8 * gi + q) else 0) (Int32.toNatClampNeg (V 49 gi)) p2))) = xw ad kk V13 L Z := by rw [hV13]; exact xpneedWords hgi kl12
    have hP : va_P D vwCl (xw ad kk V13 L Z) H := by rw [← ew14]; exact hP
    have hD : va_D A (xw ad kk V13 L Z) := by rw [← ew14]; exact hD
    have hMV13 : rgd bX V13 := hMV10.put hV13 (i_full _)
    have agV13 : agr [] [49, 58, 59, 60] V V13 := agV10.up hV13 rfl
    have fwV13 : frX (xI gi) V V13 := frX.up fwV10 hV13 (Or.inr ⟨(by show 8 * gi ≤ (8 * gi + (Int32.toNatClampNeg (V 49 gi))); omega), (by show (8 * gi + (Int32.toNatClampNeg (V 49 gi))) < 8 * gi + 8; omega)⟩)
    refine lv_aload_n hx hb dX3_addNeed_39 rfl (lv_at hl 0 rfl) ?_
    refine lv_dup hx hb dX3_addNeed_40 rfl ?_
    refine va_get (D := D) (ci := 3) (v := .int (V13 49 gi)) (fs := (xfComp ad V13 gi)) (C := RX3) (T := TX3) (N := 13) hx hb hg inX3 hown hK hP (72 + gi) (xgComp hgi) rfl 4 (by decide) (hg _ w510) (fun _ h9 => h9) rfl dX3_addNeed_41 ?_
    refine g_top (v := (V 49 gi)) ((up2_o hV13 (by decide)).trans ((up2_o hV10 (by decide)).trans (up2_o hV7 (by decide)))) ?_
    refine lv_iconst (v := 1) hx hb dX3_addNeed_44 (by decide) ?_
    refine lv_iadd hx hb dX3_addNeed_45 ?_
    refine lv_topi (fun z15 ez15 => ?_)
    have hz15 : z15.toInt = ((V 49 gi)).toInt + 1 := i_add ez15 rfl (by decide) (by omega)
    refine va_put (D := D) (ci := 3) (v := .int z15) (ty := tyX3 4) (fs := (xfComp ad V13 gi)) (C := RX3) (T := TX3) (N := 13) hx hb hg inX3 tyX3 tyX3_ok nmX3 hown hK hP hD hS (72 + gi) (xgComp hgi) rfl 4 (by decide) (hg _ w510) (fun _ h9 => h9) rfl (tyX3_ok 4 (by decide)) rfl rfl (Nat.le_of_ble_eq_true rfl) dX3_addNeed_46 (fun H locs hP hD hS => ?_)
    obtain ⟨V16, hV16⟩ : ∃ z, z = up2 V13 49 gi z15 := ⟨_, rfl⟩
    have ew17 : (xw ad kk V13 L Z).set (72 + gi) ((ad (72 + gi)), .inr (3, (xfComp ad V13 gi).set 4 (.int z15))) = xw ad kk V16 L Z := by rw [hV16]; exact xpComp_needs hgi
    have hP : va_P D vwCl (xw ad kk V16 L Z) H := by rw [← ew17]; exact hP
    have hD : va_D A (xw ad kk V16 L Z) := by rw [← ew17]; exact hD
    have hMV16 : rgd bX V16 := hMV13.put hV16 (show 0 ≤ z15.toInt ∧ z15.toInt ≤ 8 from by omega)
    have agV16 : agr [] [49, 58, 59, 60] V V16 := agV13.up hV16 rfl
    have fwV16 : frX (xI gi) V V16 := frX.up fwV13 hV16 (Or.inr ⟨(by show gi ≤ gi; omega), (by show gi < gi + 1; omega)⟩)
    have pq18 : (V16 49 gi).toInt = z15.toInt := congrArg Int32.toInt (up2_s hV16)
    exact W.vret hx hb hr (fun t ht hW => ⟨⟨(V16, L), rfl, ⟨hMV16, agV16, rfl, fwV16, (Imp.mk (fun hp => have hp : (V 49 gi).toInt < 8 := hp; (show (V16 49 gi).toInt = (V 49 gi).toInt + 1 from by omega)))⟩, by rw [ht]; exact hP, va_K.moved hW.alike hK, hD⟩, hS.F ht⟩) hS.2.2 dX3_addNeed_49
abbrev r_x_readNeed3 : Room := { frames := 3, cells := 0, slots := 0, locals := 64 }
abbrev q_x_readNeed3 (D : va_G) (ks : KS) (ad : Nat → Nat) (kk : Nat → ClassId) (V : Vf) (L : Lf) (Z : XZ) (b : Nat) (gT : Tk) (gs : St) (go : Nat) (A : Nat → Prop) : Array Value → State → Outcome → State → Prop := va_Qi (fun (r : Int32) (u : Vf × Lf) => rgd bX u.1 ∧ agr [(1, 3), (1, 6), (6, 8), (6, 9), (6, 10)] [43, 44, 49, 58, 59, 60] V u.1 ∧ agL [6, 44] L u.2 ∧ (0 ≤ r.toInt ∧ r.toInt ≤ 1) ∧ (Rd gT gs (fun k => Imember :: k) (fun k => Imember :: k) r.toInt (u.1 1 3).toInt (fun s9 => RelC u.1 u.2 b gT s9 ∧ gs.1 0 + 1 ≤ s9.1 0))) (fun u t => gq D A (xw ad kk u.1 u.2 Z) (xty kk Z) t) A
set_option maxHeartbeats 4000000 in
set_option maxRecDepth 100000 in
theorem x_readNeed3 (l : Launch) (D : va_G) (ks : KS) (sz : Nat) (ad : Nat → Nat) (kk : Nat → ClassId) (V : Vf) (L : Lf) (Z : XZ) (b : Nat) (gT : Tk) (gs : St) (go : Nat) (hMV : rgd bX V) (hb2 : b < 2) (rbk : (V 1 1).toInt = (b : Int)) (own : (V 1 2).toInt = (go : Int)) (hgo : go < 48) (hgl : 24 * b ≤ go) (hgh : go < 24 * b + 24) (rel : RelC V L b gT gs) (kd9 : (V 6 9).toInt = 137)  : Met l yX1_readNeed (Cond.code yX1_readNeed cX1_readNeed 4 (some .boolean) :: GW) r_x_readNeed3 (va_Pc [.ref (ad 1)] (gp D ks (xw ad kk V L Z) (xty kk Z) sz)) (q_x_readNeed3 D ks ad kk V L Z  b gT gs go (va_A (xw ad kk V L Z) sz)) 0 0 (va_A (xw ad kk V L Z) sz) := by
  refine g_met (q_x_readNeed3 D ks ad kk V L Z  b gT gs go) (by decide) (Nat.le_of_ble_eq_true rfl) ?_
  intro p e s m below meth c A ls H locs hx hb hr hml hown hg hlocks hin hnw hgk hP hK hD hS hA hl
  have hown : s.vm.findClass RX1 = some m.cls := hown
  have hl : lv_has ls 4 [(0, .ref (ad 1))] := hl
  have hP : va_P D vwCl (xw ad kk V L Z) H := hP
  have hD : va_D A (xw ad kk V L Z) := hD
  have hK : va_K D vwCl (xty kk Z) s := hK
  have agV : agr [(1, 3), (1, 6), (6, 8), (6, 9), (6, 10)] [43, 44, 49, 58, 59, 60] V V := agr.rf
  have alL : agL [6, 44] L L := agL.rf
  have r1 : (-1) ≤ ((V 1 1)).toInt ∧ ((V 1 1)).toInt ≤ 1 := hMV 1 1
  have r2 : (-1) ≤ ((V 1 2)).toInt ∧ ((V 1 2)).toInt ≤ 47 := hMV 1 2
  have ow0 := RelC.ow rel own
  refine lv_aload_n hx hb dX1_readNeed_0 rfl (lv_at hl 0 rfl) ?_
  refine va_get (D := D) (ci := 1) (v := rfN ad 72 (V 1 2)) (fs := (xfReader ad V L Z)) (C := RX1) (T := TX1) (N := 9) hx hb hg inX1 hown hK hP 1 xgReader rfl 2 (by decide) (hg _ w306) (fun _ h9 => h9) rfl dX1_readNeed_1 ?_
  refine g_topv (v := .ref (ad (72 + go))) (rfN_r (by omega)) ?_
  refine va_getN (D := D) (ci := 3) (v := .int (V 49 go)) (fs := (xfComp ad V go)) (C := RX3) (T := TX3) (N := 13) hx hb hg inX3 hown hK hP (72 + go) (xgComp hgo) rfl 4 (by decide) (hnw.use 513 n513 rfl) (fun _ h9 => h9) rfl dX1_readNeed_4 ?_
  have r3 : 0 ≤ ((V 49 go)).toInt ∧ ((V 49 go)).toInt ≤ 8 := hMV 49 go
  refine lv_bipush (v := 8) hx hb dX1_readNeed_7 (by decide) ?_
  refine lv_icmp_lt (tgt := 18) hx hb dX1_readNeed_9 (by decide) (fun c4 => ?_) (fun c4 => ?_)
  · skip
    have f5 : ((V 49 go)).toInt < 8 := b_lt rfl (by decide) c4
    refine lv_aload_n hx hb dX1_readNeed_18 rfl (lv_at hl 0 rfl) ?_
    refine va_get (D := D) (ci := 1) (v := .ref (ad 6)) (fs := (xfReader ad V L Z)) (C := RX1) (T := TX1) (N := 9) hx hb hg inX1 hown hK hP 1 xgReader rfl 0 (by decide) (hg _ w304) (fun _ h9 => h9) rfl dX1_readNeed_19 ?_
    have hr6 : ∀ k, Rc gT (Crun gs (Imember :: k)) (Crun gs (Imember :: k)) := fun k => Rc.rf
    have kd7 : gT.1 (gs.1 0) = ((V 6 9)).toInt := RelC.kd rel
    have hr8 : ∀ k, Rc gT (Crun gs (Imember :: k)) (Crun (nx gs 1) (IneedK :: k)) := fun k => Rc.go1 (hr6 k) (mb_137 (kd7.trans kd9) (by have h9 := ow0.1; omega))
    have l89 := RelC.l8 rel
    have r10 : 0 ≤ ((V 6 8)).toInt ∧ ((V 6 8)).toInt ≤ 4000 := hMV 6 8
    have r11 : 0 ≤ ((V 6 7)).toInt ∧ ((V 6 7)).toInt ≤ 4000 := hMV 6 7
    have lk12 := RelC.lk rel (show (V 6 9).toInt ≠ 0 from by omega)
    refine gA_void (gA_runV (As := []) (rest := []) (ci := 9) (q0 := 6) hx hb hml hown hg hP hD hK hS hA hnw hgk (x_next2 l D ks H.size ad kk V L Z  hMV (show (V 6 8).toInt ≤ (V 6 7).toInt from by omega)) w871 w852 w853 w157 w854 rfl xgTape hdV_yX9_next ⟨Nat.le_of_ble_eq_true rfl, Nat.le_of_ble_eq_true rfl⟩ rfl hl.1 rfl (Nat.le_of_ble_eq_true rfl) dX1_readNeed_22 ⟨Nat.le_of_ble_eq_true rfl, Nat.le_of_ble_eq_true rfl⟩) hP hD hK hS hA (fun u14 H locs w15 hP hD hK hS => ?_)
    obtain ⟨V18, L19⟩ := u14
    obtain ⟨hMV18, ajV18, axL19, t16, t17⟩ := w15
    have alL19 : agL [6, 44] L L19 := agL.tr alL axL19 (by decide)
    have hP : va_P D vwCl (xw ad kk V18 L19 Z) H := hP
    have hD : va_D A (xw ad kk V18 L19 Z) := hD
    have hMV18 : rgd bX V18 := hMV18
    have ajV18 : agr [(6, 8), (6, 9), (6, 10)] [] V V18 := ajV18
    have agV18 : agr [(1, 3), (1, 6), (6, 8), (6, 9), (6, 10)] [43, 44, 49, 58, 59, 60] V V18 := agV.tr ajV18 (by decide) (by decide)
    have t16 : (V18 6 8).toInt ≤ (V18 6 7).toInt := t16
    have t17 : CUR V18 L19 (Int32.toNatClampNeg (V 6 8)) := t17
    have r20 : 0 ≤ ((V18 6 8)).toInt ∧ ((V18 6 8)).toInt ≤ 4000 := hMV18 6 8
    have pq21 : (V18 6 7).toInt = ((V 6 7)).toInt := congrArg Int32.toInt (ajV18 6 7 rfl)
    have rl22 : RelC V18 L19 b gT (nx gs 1) := RelC.nx1 rel ajV18 (by decide) axL19 (by decide) (by rw [← lk12]; exact t17) (ajV18 1 3 rfl)
    refine lv_aload_n hx hb dX1_readNeed_25 rfl (lv_at hl 0 rfl) ?_
    refine va_get (D := D) (ci := 1) (v := .ref (ad 6)) (fs := (xfReader ad V18 L19 Z)) (C := RX1) (T := TX1) (N := 9) hx hb hg inX1 hown hK hP 1 xgReader rfl 0 (by decide) (hg _ w304) (fun _ h9 => h9) rfl dX1_readNeed_26 ?_
    refine va_getN (D := D) (ci := 9) (v := .int (V18 6 9)) (fs := (xfTape ad V18 L19 Z)) (C := RX9) (T := TX9) (N := 12) hx hb hg inX9 hown hK hP 6 xgTape rfl 9 (by decide) (hnw.use 262 n262 rfl) (fun _ h9 => h9) rfl dX1_readNeed_29 ?_
    refine lv_sipush (v := 138) hx hb dX1_readNeed_32 (by decide) ?_
    refine lv_icmp_ne (tgt := 42) hx hb dX1_readNeed_35 (by decide) (fun c23 => ?_) (fun c23 => ?_)
    · skip
      have f24 : ((V18 6 9)).toInt ≠ 138 := b_neq rfl (by decide) c23
      refine lv_aload_n hx hb dX1_readNeed_42 rfl (lv_at hl 0 rfl) ?_
      refine va_get (D := D) (ci := 1) (v := .ref (ad 6)) (fs := (xfReader ad V18 L19 Z)) (C := RX1) (T := TX1) (N := 9) hx hb hg inX1 hown hK hP 1 xgReader rfl 0 (by decide) (hg _ w304) (fun _ h9 => h9) rfl dX1_readNeed_43 ?_
      refine va_getN (D := D) (ci := 9) (v := .int (V18 6 9)) (fs := (xfTape ad V18 L19 Z)) (C := RX9) (T := TX9) (N := 12) hx hb hg inX9 hown hK hP 6 xgTape rfl 9 (by decide) (hnw.use 262 n262 rfl) (fun _ h9 => h9) rfl dX1_readNeed_46 ?_
      refine lv_sipush (v := 139) hx hb dX1_readNeed_49 (by decide) ?_
      refine lv_icmp_ne (tgt := 59) hx hb dX1_readNeed_52 (by decide) (fun c25 => ?_) (fun c25 => ?_)
      · skip
        have f26 : ((V18 6 9)).toInt ≠ 139 := b_neq rfl (by decide) c25
        refine lv_iconst (v := 0) hx hb dX1_readNeed_59 (by decide) ?_
        refine lv_istore_n (lv' := [(1, .int 0), (0, .ref (ad 1))]) hx hb dX1_readNeed_60 rfl hl (by decide) rfl (fun ls hl => ?_)
        refine lv_iload_n hx hb dX1_readNeed_61 rfl (lv_at hl 0 rfl) ?_
        refine lv_if_eq (tgt := 72) hx hb dX1_readNeed_62 (by decide) (fun _ => ?_) (fun q => absurd (by decide) q)
        refine lv_aload_n hx hb dX1_readNeed_72 rfl (lv_at hl 1 rfl) ?_
        have kd27 : gT.1 ((nx gs 1).1 0) = ((V18 6 9)).toInt := RelC.kd rl22
        have hr28 : ∀ k, Rc gT (Crun gs (Imember :: k)) (Crun (nx gs 1) (IneedT 0 :: k)) := fun k => Rc.go1 (hr8 k) (needK_n (fun h9 => f24 (kd27.symm.trans h9)) (fun h9 => f26 (kd27.symm.trans h9)))
        have pq29 : (V18 1 1).toInt = ((V 1 1)).toInt := congrArg Int32.toInt (ajV18 1 1 rfl)
        refine gA_int (gA_runV (As := []) (rest := []) (ci := 1) (q0 := 1) hx hb hml hown hg hP hD hK hS hA hnw hgk (x_isToldType3 l D ks H.size ad kk V18 L19 Z (b) (gT) ((nx gs 1)) hMV18 (show b < 2 from by omega) (show (V18 1 1).toInt = (b : Int) from by omega) rl22) w888 w890 w9 w162 w891 rfl xgReader hdV_yX1_isToldType ⟨Nat.le_of_ble_eq_true rfl, Nat.le_of_ble_eq_true rfl⟩ rfl hl.1 rfl (Nat.le_of_ble_eq_true rfl) dX1_readNeed_73 ⟨Nat.le_of_ble_eq_true rfl, Nat.le_of_ble_eq_true rfl⟩) hP hD hK hS hA (fun z30 u31 H locs w32 hP hD hK hS => ?_)
        obtain ⟨V34, L35⟩ := u31
        obtain ⟨hMV34, ajV34, axL35, rgz30, t33⟩ := w32
        have axL35 : L19 = L35 := Eq.symm axL35
        subst axL35
        have hP : va_P D vwCl (xw ad kk V34 L19 Z) H := hP
        have hD : va_D A (xw ad kk V34 L19 Z) := hD
        have hMV34 : rgd bX V34 := hMV34
        have ajV34 : agr [(1, 3), (1, 6)] [] V18 V34 := ajV34
        have agV34 : agr [(1, 3), (1, 6), (6, 8), (6, 9), (6, 10)] [43, 44, 49, 58, 59, 60] V V34 := agV18.tr ajV34 (by decide) (by decide)
        have rgz30 : 0 ≤ z30.toInt ∧ z30.toInt ≤ 1 := rgz30
        have t33 : KcN (look gT (nx gs 1) ((nx gs 1).2.1 0)) z30.toInt (V34 1 3).toInt (fun f9 => RelC V34 L19 b gT (nx gs 1) ∧ (V34 1 6).toInt = ((f9 : Nat) : Int) ∧ f9 < 24) := t33
        rcases t33 with ⟨q36, fx37, h38, rl39, hf40, hb41⟩ | ⟨q36, h38⟩
        · skip
          have kn42 := look_ne h38
          refine lv_if_ne (tgt := 81) hx hb dX1_readNeed_76 (by decide) (fun c43 => ?_) (fun c43 => ?_)
          · skip
            have f44 : z30.toInt ≠ 0 := b_neq rfl (by decide) c43
            refine lv_aload_n hx hb dX1_readNeed_81 rfl (lv_at hl 1 rfl) ?_
            refine va_get (D := D) (ci := 1) (v := .int (V34 1 6)) (fs := (xfReader ad V34 L19 Z)) (C := RX1) (T := TX1) (N := 9) hx hb hg inX1 hown hK hP 1 xgReader rfl 6 (by decide) (hg _ w310) (fun _ h9 => h9) rfl dX1_readNeed_82 ?_
            have r45 : (-1) ≤ ((V34 1 6)).toInt ∧ ((V34 1 6)).toInt ≤ 23 := hMV34 1 6
            refine lv_istore_n (lv' := [(2, .int (V34 1 6)), (1, .int 0), (0, .ref (ad 1))]) hx hb dX1_readNeed_85 rfl hl (by decide) rfl (fun ls hl => ?_)
            refine lv_iconst (v := (-1)) hx hb dX1_readNeed_86 (by decide) ?_
            refine lv_istore_n (lv' := [(3, .int (-1)), (2, .int (V34 1 6)), (1, .int 0), (0, .ref (ad 1))]) hx hb dX1_readNeed_87 rfl hl (by decide) rfl (fun ls hl => ?_)
            refine lv_aload_n hx hb dX1_readNeed_88 rfl (lv_at hl 3 rfl) ?_
            refine va_get (D := D) (ci := 1) (v := .ref (ad 6)) (fs := (xfReader ad V34 L19 Z)) (C := RX1) (T := TX1) (N := 9) hx hb hg inX1 hown hK hP 1 xgReader rfl 0 (by decide) (hg _ w304) (fun _ h9 => h9) rfl dX1_readNeed_89 ?_
            have hr46 : ∀ k, Rc gT (Crun gs (Imember :: k)) (Crun (nx (nx gs 1) 1) (Icalled :: Itake 59 :: IaddNeed :: Imember :: k)) := fun k => Rc.go1 (hr28 k) (nd_0 h38)
            have l847 := RelC.l8 rl39
            have pq48 : (V34 6 8).toInt = ((V18 6 8)).toInt := congrArg Int32.toInt (ajV34 6 8 rfl)
            have pq49 : (V34 6 7).toInt = ((V 6 7)).toInt := congrArg Int32.toInt ((ajV34 6 7 rfl).trans (ajV18 6 7 rfl))
            have pq50 : (V34 6 9).toInt = ((V18 6 9)).toInt := congrArg Int32.toInt (ajV34 6 9 rfl)
            have lk51 := RelC.lk rl39 (show (V34 6 9).toInt ≠ 0 from by omega)
            refine gA_void (gA_runV (As := []) (rest := []) (ci := 9) (q0 := 6) hx hb hml hown hg hP hD hK hS hA hnw hgk (x_next2 l D ks H.size ad kk V34 L19 Z  hMV34 (show (V34 6 8).toInt ≤ (V34 6 7).toInt from by omega)) w871 w852 w853 w157 w854 rfl xgTape hdV_yX9_next ⟨Nat.le_of_ble_eq_true rfl, Nat.le_of_ble_eq_true rfl⟩ rfl hl.1 rfl (Nat.le_of_ble_eq_true rfl) dX1_readNeed_92 ⟨Nat.le_of_ble_eq_true rfl, Nat.le_of_ble_eq_true rfl⟩) hP hD hK hS hA (fun u53 H locs w54 hP hD hK hS => ?_)
            obtain ⟨V57, L58⟩ := u53
            obtain ⟨hMV57, ajV57, axL58, t55, t56⟩ := w54
            have alL58 : agL [6, 44] L L58 := agL.tr alL19 axL58 (by decide)
            have hP : va_P D vwCl (xw ad kk V57 L58 Z) H := hP
            have hD : va_D A (xw ad kk V57 L58 Z) := hD
            have hMV57 : rgd bX V57 := hMV57
            have ajV57 : agr [(6, 8), (6, 9), (6, 10)] [] V34 V57 := ajV57
            have agV57 : agr [(1, 3), (1, 6), (6, 8), (6, 9), (6, 10)] [43, 44, 49, 58, 59, 60] V V57 := agV34.tr ajV57 (by decide) (by decide)
            have t55 : (V57 6 8).toInt ≤ (V57 6 7).toInt := t55
            have t56 : CUR V57 L58 (Int32.toNatClampNeg (V34 6 8)) := t56
            have r59 : 0 ≤ ((V57 6 8)).toInt ∧ ((V57 6 8)).toInt ≤ 4000 := hMV57 6 8
            have pq60 : (V57 6 7).toInt = ((V 6 7)).toInt := congrArg Int32.toInt ((ajV57 6 7 rfl).trans ((ajV34 6 7 rfl).trans (ajV18 6 7 rfl)))
            have rl61 : RelC V57 L58 b gT (nx (nx gs 1) 1) := RelC.nx1 rl39 ajV57 (by decide) axL58 (by decide) (by rw [← lk51]; exact t56) (ajV57 1 3 rfl)
            refine lv_iload_n hx hb dX1_readNeed_95 rfl (lv_at hl 2 rfl) ?_
            refine lv_iconst (v := 2) hx hb dX1_readNeed_96 (by decide) ?_
            refine lv_icmp_eq (tgt := 127) hx hb dX1_readNeed_97 (by decide) (fun q => absurd q (by decide)) (fun _ => ?_)
            refine lv_aload_n hx hb dX1_readNeed_100 rfl (lv_at hl 3 rfl) ?_
            refine va_get (D := D) (ci := 1) (v := .ref (ad 6)) (fs := (xfReader ad V57 L58 Z)) (C := RX1) (T := TX1) (N := 9) hx hb hg inX1 hown hK hP 1 xgReader rfl 0 (by decide) (hg _ w304) (fun _ h9 => h9) rfl dX1_readNeed_101 ?_
            refine va_getN (D := D) (ci := 9) (v := .int (V57 6 9)) (fs := (xfTape ad V57 L58 Z)) (C := RX9) (T := TX9) (N := 12) hx hb hg inX9 hown hK hP 6 xgTape rfl 9 (by decide) (hnw.use 262 n262 rfl) (fun _ h9 => h9) rfl dX1_readNeed_104 ?_
            refine lv_sipush (v := 133) hx hb dX1_readNeed_107 (by decide) ?_
            refine lv_icmp_ne (tgt := 127) hx hb dX1_readNeed_110 (by decide) (fun c62 => ?_) (fun c62 => ?_)
            · skip
              have f63 : ((V57 6 9)).toInt ≠ 133 := b_neq rfl (by decide) c62
              refine lv_aload_n hx hb dX1_readNeed_127 rfl (lv_at hl 3 rfl) ?_
              refine lv_bipush (v := 59) hx hb dX1_readNeed_128 (by decide) ?_
              have kd64 : gT.1 ((nx (nx gs 1) 1).1 0) = ((V57 6 9)).toInt := RelC.kd rl61
              have hr65 : ∀ k, Rc gT (Crun gs (Imember :: k)) (Crun (nx (nx gs 1) 1) (Itake 59 :: IaddNeed :: Imember :: k)) := fun k => Rc.go1 (hr46 k) (called_n  (fun h9 => f63 (kd64.symm.trans h9)))
              have r66 : Int32.toInt 59 = 59 := by decide
              refine gA_int (gA_runV (As := [.int 59]) (rest := []) (ci := 1) (q0 := 1) hx hb hml hown hg hP hD hK hS hA hnw hgk (x_take2 l D ks H.size ad kk V57 L58 Z 59 (((nx (nx gs 1) 1).1 0)) hMV57 (rl61).1 (rl61).2.1.1 (show 1 ≤ (Int32.toInt 59) from by omega)) w893 w895 w10 w162 w896 rfl xgReader hdV_yX1_take ⟨Nat.le_of_ble_eq_true rfl, Nat.le_of_ble_eq_true rfl⟩ rfl hl.1 rfl (Nat.le_of_ble_eq_true rfl) dX1_readNeed_130 ⟨Nat.le_of_ble_eq_true rfl, Nat.le_of_ble_eq_true rfl⟩) hP hD hK hS hA (fun z67 u68 H locs w69 hP hD hK hS => ?_)
              obtain ⟨V72, L73⟩ := u68
              obtain ⟨hMV72, ajV72, axL73, rgz67, t70, t71⟩ := w69
              have alL73 : agL [6, 44] L L73 := agL.tr alL58 axL73 (by decide)
              have hP : va_P D vwCl (xw ad kk V72 L73 Z) H := hP
              have hD : va_D A (xw ad kk V72 L73 Z) := hD
              have hMV72 : rgd bX V72 := hMV72
              have ajV72 : agr [(1, 3), (6, 8), (6, 9), (6, 10)] [] V57 V72 := ajV72
              have agV72 : agr [(1, 3), (1, 6), (6, 8), (6, 9), (6, 10)] [43, 44, 49, 58, 59, 60] V V72 := agV57.tr ajV72 (by decide) (by decide)
              have rgz67 : 0 ≤ z67.toInt ∧ z67.toInt ≤ 1 := rgz67
              have t70 : Imp (z67.toInt = 0) (1 ≤ (V72 1 3).toInt) := t70
              have t71 : (z67.toInt = 1 ∧ (V57 12 ((nx (nx gs 1) 1).1 0)).toInt = (Int32.toInt 59) ∧ CUR V72 L73 (((nx (nx gs 1) 1).1 0) + 1) ∧ V72 1 3 = V57 1 3) ∨ (z67.toInt = 0 ∧ (V57 12 ((nx (nx gs 1) 1).1 0)).toInt ≠ (Int32.toInt 59) ∧ (V72 1 3).toInt = 1 + 16 * (V57 13 ((nx (nx gs 1) 1).1 0)).toInt) := t71
              rcases t71 with ⟨q74, h75, k76, k77⟩ | ⟨q74, h75, k76⟩
              · skip
                have rl78 : RelC V72 L73 b gT (nx (nx (nx gs 1) 1) 1) := RelC.nx1 rl61 ajV72 (by decide) axL73 (by decide) k76 k77
                have hr79 : ∀ k, Rc gT (Crun gs (Imember :: k)) (Crun (nx (nx (nx gs 1) 1) 1) (IaddNeed :: Imember :: k)) := fun k => Rc.go1 (hr65 k) (tk_y (rl61.tok.1.trans (h75.trans (by decide))))
                refine lv_if_ne (tgt := 138) hx hb dX1_readNeed_133 (by decide) (fun c80 => ?_) (fun c80 => ?_)
                · skip
                  have f81 : z67.toInt ≠ 0 := b_neq rfl (by decide) c80
                  refine lv_aload_n hx hb dX1_readNeed_138 rfl (lv_at hl 3 rfl) ?_
                  refine va_get (D := D) (ci := 1) (v := rfN ad 72 (V72 1 2)) (fs := (xfReader ad V72 L73 Z)) (C := RX1) (T := TX1) (N := 9) hx hb hg inX1 hown hK hP 1 xgReader rfl 2 (by decide) (hg _ w306) (fun _ h9 => h9) rfl dX1_readNeed_139 ?_
                  have pq82 : (V72 1 2).toInt = ((V 1 2)).toInt := congrArg Int32.toInt ((ajV72 1 2 rfl).trans ((ajV57 1 2 rfl).trans ((ajV34 1 2 rfl).trans (ajV18 1 2 rfl))))
                  refine g_topv (v := .ref (ad (72 + go))) (rfN_r (by first | omega | ((try (have i_t70 := Imp.go t70 (by omega))); omega))) ?_
                  refine lv_iload_n hx hb dX1_readNeed_142 rfl (lv_at hl 2 rfl) ?_
                  refine lv_iload_n hx hb dX1_readNeed_143 rfl (lv_at hl 1 rfl) ?_
                  refine lv_iload_n hx hb dX1_readNeed_144 rfl (lv_at hl 0 rfl) ?_
                  have r83 : Int32.toInt 0 = 0 := by decide
                  have r84 : Int32.toInt (-1) = (-1) := by decide
                  refine gA_void (gA_runV (As := [.int 0, .int (V34 1 6), .int (-1)]) (rest := []) (ci := 3) (q0 := (72 + go)) hx hb hml hown hg hP hD hK hS hA hnw hgk (x_addNeed3 l D ks H.size ad kk V72 L73 Z 0 (V34 1 6) (-1) (go) hMV72 (show go < 48 from by first | omega | ((try (have i_t70 := Imp.go t70 (by omega))); omega))) w1011 w1012 w1013 w169 w1014 rfl (xgComp hgo) hdV_yX3_addNeed ⟨Nat.le_of_ble_eq_true rfl, Nat.le_of_ble_eq_true rfl⟩ rfl hl.1 rfl (Nat.le_of_ble_eq_true rfl) dX1_readNeed_145 ⟨Nat.le_of_ble_eq_true rfl, Nat.le_of_ble_eq_true rfl⟩) hP hD hK hS hA (fun u86 H locs w87 hP hD hK hS => ?_)
                  obtain ⟨V89, L90⟩ := u86
                  obtain ⟨hMV89, ajV89, axL90, fyV89, t88⟩ := w87
                  have axL90 : L73 = L90 := Eq.symm axL90
                  subst axL90
                  have hP : va_P D vwCl (xw ad kk V89 L73 Z) H := hP
                  have hD : va_D A (xw ad kk V89 L73 Z) := hD
                  have hMV89 : rgd bX V89 := hMV89
                  have ajV89 : agr [] [49, 58, 59, 60] V72 V89 := ajV89
                  have agV89 : agr [(1, 3), (1, 6), (6, 8), (6, 9), (6, 10)] [43, 44, 49, 58, 59, 60] V V89 := agV72.tr ajV89 (by decide) (by decide)
                  have t88 : Imp ((V72 49 go).toInt < 8) ((V89 49 go).toInt = (V72 49 go).toInt + 1) := t88
                  have pq91 : (V72 49 go).toInt = ((V 49 go)).toInt := congrArg Int32.toInt ((ajV72 49 go rfl).trans ((ajV57 49 go rfl).trans ((ajV34 49 go rfl).trans (ajV18 49 go rfl))))
                  have rl92 : RelC V89 L73 b gT (sN (nx (nx (nx gs 1) 1) 1) 1 ((nx (nx (nx gs 1) 1) 1).1 1 + 1)) := RelC.nd rl78 (show (V72 1 2).toInt = ((go : Nat) : Int) from by omega) ajV89 (by decide) (Imp.go t88 (by omega))
                  have hr93 : ∀ k, Rc gT (Crun gs (Imember :: k)) (Crun (sN (nx (nx (nx gs 1) 1) 1) 1 ((nx (nx (nx gs 1) 1) 1).1 1 + 1)) (Imember :: k)) := fun k => Rc.go1 (hr79 k) (m_addNeed)
                  refine lv_iconst (v := 1) hx hb dX1_readNeed_148 (by decide) ?_
                  have ps94 : gs.1 0 + 1 ≤ (nx gs 1).1 0 := ((keepS.n1 1)).1
                  have ps95 : (nx gs 1).1 0 + 1 ≤ (nx (nx gs 1) 1).1 0 := ((keepS.n1 1)).1
                  have ps96 : (nx (nx gs 1) 1).1 0 + 1 ≤ (nx (nx (nx gs 1) 1) 1).1 0 := ((keepS.n1 1)).1
                  have ps97 : (sN (nx (nx (nx gs 1) 1) 1) 1 ((nx (nx (nx gs 1) 1) 1).1 1 + 1)).1 0 = (nx (nx (nx gs 1) 1) 1).1 0 := rfl
                  exact W.zret (v := 1) hx hb hr rfl (fun t ht hW => ⟨⟨1, (V89, L73), rfl, ⟨hMV89, agV89, alL73, (by decide), (Or.inl ⟨rfl, (sN (nx (nx (nx gs 1) 1) 1) 1 ((nx (nx (nx gs 1) 1) 1).1 1 + 1)), hr93, rl92, (by omega)⟩)⟩, by rw [ht]; exact hP, va_K.moved hW.alike hK, hD⟩, hS.F ht⟩) hS.2.2 dX1_readNeed_149
                · skip
                  have f98 : z67.toInt = 0 := b_eq rfl (by decide) c80
                  exfalso; first | omega | ((try (have i_t70 := Imp.go t70 (by omega))); omega)
              · skip
                have hb99 : ∀ k, Rc gT (Crun gs (Imember :: k)) (Cbad (V72 1 3).toInt) := fun k => Rc.go1 (hr65 k) ((tk_n (fun h9 => h75 (rl61.tok.1.symm.trans (h9.trans (by decide))))).trans (fl_eq rl61.tok.2.2 k76))
                refine lv_if_ne (tgt := 138) hx hb dX1_readNeed_133 (by decide) (fun c100 => ?_) (fun c100 => ?_)
                · skip
                  have f101 : z67.toInt ≠ 0 := b_neq rfl (by decide) c100
                  exfalso; first | omega | ((try (have i_t70 := Imp.go t70 (by omega))); omega)
                · skip
                  have f102 : z67.toInt = 0 := b_eq rfl (by decide) c100
                  refine lv_iconst (v := 0) hx hb dX1_readNeed_136 (by decide) ?_
                  exact W.zret (v := 0) hx hb hr rfl (fun t ht hW => ⟨⟨0, (V72, L73), rfl, ⟨hMV72, agV72, alL73, (by decide), (Or.inr ⟨rfl, hb99⟩)⟩, by rw [ht]; exact hP, va_K.moved hW.alike hK, hD⟩, hS.F ht⟩) hS.2.2 dX1_readNeed_137
            · skip
              have f103 : ((V57 6 9)).toInt = 133 := b_eq rfl (by decide) c62
              refine lv_aload_n hx hb dX1_readNeed_113 rfl (lv_at hl 3 rfl) ?_
              have kd104 : gT.1 ((nx (nx gs 1) 1).1 0) = ((V57 6 9)).toInt := RelC.kd rl61
              have hr105 : ∀ k, Rc gT (Crun gs (Imember :: k)) (Crun (nx (nx (nx gs 1) 1) 1) (Iword :: Itake 59 :: IaddNeed :: Imember :: k)) := fun k => Rc.go1 (hr46 k) (called_y  (kd104.trans f103))
              have pq106 : (V57 1 1).toInt = ((V 1 1)).toInt := congrArg Int32.toInt ((ajV57 1 1 rfl).trans ((ajV34 1 1 rfl).trans (ajV18 1 1 rfl)))
              refine gA_int (gA_runV (As := []) (rest := []) (ci := 1) (q0 := 1) hx hb hml hown hg hP hD hK hS hA hnw hgk (x_takeCalled3 l D ks H.size ad kk V57 L58 Z (b) (gT) ((nx (nx gs 1) 1)) hMV57 (show b < 2 from by omega) (show (V57 1 1).toInt = (b : Int) from by omega) rl61 (show (V57 6 9).toInt = 133 from by omega)) w923 w925 w15 w162 w926 rfl xgReader hdV_yX1_takeCalled ⟨Nat.le_of_ble_eq_true rfl, Nat.le_of_ble_eq_true rfl⟩ rfl hl.1 rfl (Nat.le_of_ble_eq_true rfl) dX1_readNeed_114 ⟨Nat.le_of_ble_eq_true rfl, Nat.le_of_ble_eq_true rfl⟩) hP hD hK hS hA (fun z107 u108 H locs w109 hP hD hK hS => ?_)
              obtain ⟨V111, L112⟩ := u108
              obtain ⟨hMV111, ajV111, axL112, rgz107, t110⟩ := w109
              have alL112 : agL [6, 44] L L112 := agL.tr alL58 axL112 (by decide)
              have hP : va_P D vwCl (xw ad kk V111 L112 Z) H := hP
              have hD : va_D A (xw ad kk V111 L112 Z) := hD
              have hMV111 : rgd bX V111 := hMV111
              have ajV111 : agr [(1, 3), (1, 6), (6, 8), (6, 9), (6, 10)] [43, 44] V57 V111 := ajV111
              have agV111 : agr [(1, 3), (1, 6), (6, 8), (6, 9), (6, 10)] [43, 44, 49, 58, 59, 60] V V111 := agV57.tr ajV111 (by decide) (by decide)
              have rgz107 : 0 ≤ z107.toInt ∧ z107.toInt ≤ 1 := rgz107
              have t110 : KcS (mthW gT (nx (nx (nx gs 1) 1) 1) 4) z107.toInt (V111 1 3).toInt (fun x9 => RelC V111 L112 b gT x9.2 ∧ (V111 1 6).toInt = ((x9.1 : Nat) : Int) ∧ x9.1 < 20 ∧ keepS (nx (nx gs 1) 1) 2 x9.2) := t110
              rcases t110 with ⟨q113, mx114, h115, rl116, hf117, hb118, kp119⟩ | ⟨q113, h115⟩
              · skip
                have hr120 : ∀ k, Rc gT (Crun gs (Imember :: k)) (Crun mx114.2 (Itake 59 :: IaddNeed :: Imember :: k)) := fun k => Rc.go1 (hr105 k) (wo_y h115)
                refine lv_if_ne (tgt := 122) hx hb dX1_readNeed_117 (by decide) (fun c121 => ?_) (fun c121 => ?_)
                · skip
                  have f122 : z107.toInt ≠ 0 := b_neq rfl (by decide) c121
                  refine lv_aload_n hx hb dX1_readNeed_122 rfl (lv_at hl 3 rfl) ?_
                  refine va_get (D := D) (ci := 1) (v := .int (V111 1 6)) (fs := (xfReader ad V111 L112 Z)) (C := RX1) (T := TX1) (N := 9) hx hb hg inX1 hown hK hP 1 xgReader rfl 6 (by decide) (hg _ w310) (fun _ h9 => h9) rfl dX1_readNeed_123 ?_
                  have r123 : (-1) ≤ ((V111 1 6)).toInt ∧ ((V111 1 6)).toInt ≤ 23 := hMV111 1 6
                  refine lv_istore_n (lv' := [(3, .int (V111 1 6)), (2, .int (V34 1 6)), (1, .int 0), (0, .ref (ad 1))]) hx hb dX1_readNeed_126 rfl hl (by decide) rfl (fun ls hl => ?_)
                  refine lv_aload_n hx hb dX1_readNeed_127 rfl (lv_at hl 3 rfl) ?_
                  refine lv_bipush (v := 59) hx hb dX1_readNeed_128 (by decide) ?_
                  have r124 : Int32.toInt 59 = 59 := by decide
                  refine gA_int (gA_runV (As := [.int 59]) (rest := []) (ci := 1) (q0 := 1) hx hb hml hown hg hP hD hK hS hA hnw hgk (x_take2 l D ks H.size ad kk V111 L112 Z 59 ((mx114.2.1 0)) hMV111 (rl116).1 (rl116).2.1.1 (show 1 ≤ (Int32.toInt 59) from by omega)) w893 w895 w10 w162 w896 rfl xgReader hdV_yX1_take ⟨Nat.le_of_ble_eq_true rfl, Nat.le_of_ble_eq_true rfl⟩ rfl hl.1 rfl (Nat.le_of_ble_eq_true rfl) dX1_readNeed_130 ⟨Nat.le_of_ble_eq_true rfl, Nat.le_of_ble_eq_true rfl⟩) hP hD hK hS hA (fun z125 u126 H locs w127 hP hD hK hS => ?_)
                  obtain ⟨V130, L131⟩ := u126
                  obtain ⟨hMV130, ajV130, axL131, rgz125, t128, t129⟩ := w127
                  have alL131 : agL [6, 44] L L131 := agL.tr alL112 axL131 (by decide)
                  have hP : va_P D vwCl (xw ad kk V130 L131 Z) H := hP
                  have hD : va_D A (xw ad kk V130 L131 Z) := hD
                  have hMV130 : rgd bX V130 := hMV130
                  have ajV130 : agr [(1, 3), (6, 8), (6, 9), (6, 10)] [] V111 V130 := ajV130
                  have agV130 : agr [(1, 3), (1, 6), (6, 8), (6, 9), (6, 10)] [43, 44, 49, 58, 59, 60] V V130 := agV111.tr ajV130 (by decide) (by decide)
                  have rgz125 : 0 ≤ z125.toInt ∧ z125.toInt ≤ 1 := rgz125
                  have t128 : Imp (z125.toInt = 0) (1 ≤ (V130 1 3).toInt) := t128
                  have t129 : (z125.toInt = 1 ∧ (V111 12 (mx114.2.1 0)).toInt = (Int32.toInt 59) ∧ CUR V130 L131 ((mx114.2.1 0) + 1) ∧ V130 1 3 = V111 1 3) ∨ (z125.toInt = 0 ∧ (V111 12 (mx114.2.1 0)).toInt ≠ (Int32.toInt 59) ∧ (V130 1 3).toInt = 1 + 16 * (V111 13 (mx114.2.1 0)).toInt) := t129
                  rcases t129 with ⟨q132, h133, k134, k135⟩ | ⟨q132, h133, k134⟩
                  · skip
                    have rl136 : RelC V130 L131 b gT (nx mx114.2 1) := RelC.nx1 rl116 ajV130 (by decide) axL131 (by decide) k134 k135
                    have hr137 : ∀ k, Rc gT (Crun gs (Imember :: k)) (Crun (nx mx114.2 1) (IaddNeed :: Imember :: k)) := fun k => Rc.go1 (hr120 k) (tk_y (rl116.tok.1.trans (h133.trans (by decide))))
                    refine lv_if_ne (tgt := 138) hx hb dX1_readNeed_133 (by decide) (fun c138 => ?_) (fun c138 => ?_)
                    · skip
                      have f139 : z125.toInt ≠ 0 := b_neq rfl (by decide) c138
                      refine lv_aload_n hx hb dX1_readNeed_138 rfl (lv_at hl 3 rfl) ?_
                      refine va_get (D := D) (ci := 1) (v := rfN ad 72 (V130 1 2)) (fs := (xfReader ad V130 L131 Z)) (C := RX1) (T := TX1) (N := 9) hx hb hg inX1 hown hK hP 1 xgReader rfl 2 (by decide) (hg _ w306) (fun _ h9 => h9) rfl dX1_readNeed_139 ?_
                      have pq140 : (V130 1 2).toInt = ((V 1 2)).toInt := congrArg Int32.toInt ((ajV130 1 2 rfl).trans ((ajV111 1 2 rfl).trans ((ajV57 1 2 rfl).trans ((ajV34 1 2 rfl).trans (ajV18 1 2 rfl)))))
                      refine g_topv (v := .ref (ad (72 + go))) (rfN_r (by first | omega | ((try (have i_t128 := Imp.go t128 (by omega))); omega))) ?_
                      refine lv_iload_n hx hb dX1_readNeed_142 rfl (lv_at hl 2 rfl) ?_
                      refine lv_iload_n hx hb dX1_readNeed_143 rfl (lv_at hl 1 rfl) ?_
                      refine lv_iload_n hx hb dX1_readNeed_144 rfl (lv_at hl 0 rfl) ?_
                      have r141 : Int32.toInt 0 = 0 := by decide
                      refine gA_void (gA_runV (As := [.int 0, .int (V34 1 6), .int (V111 1 6)]) (rest := []) (ci := 3) (q0 := (72 + go)) hx hb hml hown hg hP hD hK hS hA hnw hgk (x_addNeed3 l D ks H.size ad kk V130 L131 Z 0 (V34 1 6) (V111 1 6) (go) hMV130 (show go < 48 from by first | omega | ((try (have i_t128 := Imp.go t128 (by omega))); omega))) w1011 w1012 w1013 w169 w1014 rfl (xgComp hgo) hdV_yX3_addNeed ⟨Nat.le_of_ble_eq_true rfl, Nat.le_of_ble_eq_true rfl⟩ rfl hl.1 rfl (Nat.le_of_ble_eq_true rfl) dX1_readNeed_145 ⟨Nat.le_of_ble_eq_true rfl, Nat.le_of_ble_eq_true rfl⟩) hP hD hK hS hA (fun u143 H locs w144 hP hD hK hS => ?_)
                      obtain ⟨V146, L147⟩ := u143
                      obtain ⟨hMV146, ajV146, axL147, fyV146, t145⟩ := w144
                      have axL147 : L131 = L147 := Eq.symm axL147
                      subst axL147
                      have hP : va_P D vwCl (xw ad kk V146 L131 Z) H := hP
                      have hD : va_D A (xw ad kk V146 L131 Z) := hD
                      have hMV146 : rgd bX V146 := hMV146
                      have ajV146 : agr [] [49, 58, 59, 60] V130 V146 := ajV146
                      have agV146 : agr [(1, 3), (1, 6), (6, 8), (6, 9), (6, 10)] [43, 44, 49, 58, 59, 60] V V146 := agV130.tr ajV146 (by decide) (by decide)
                      have t145 : Imp ((V130 49 go).toInt < 8) ((V146 49 go).toInt = (V130 49 go).toInt + 1) := t145
                      have pq148 : (V130 49 go).toInt = ((V 49 go)).toInt := congrArg Int32.toInt ((ajV130 49 go rfl).trans ((ajV111 49 go rfl).trans ((ajV57 49 go rfl).trans ((ajV34 49 go rfl).trans (ajV18 49 go rfl)))))
                      have rl149 : RelC V146 L131 b gT (sN (nx mx114.2 1) 1 ((nx mx114.2 1).1 1 + 1)) := RelC.nd rl136 (show (V130 1 2).toInt = ((go : Nat) : Int) from by omega) ajV146 (by decide) (Imp.go t145 (by omega))
                      have hr150 : ∀ k, Rc gT (Crun gs (Imember :: k)) (Crun (sN (nx mx114.2 1) 1 ((nx mx114.2 1).1 1 + 1)) (Imember :: k)) := fun k => Rc.go1 (hr137 k) (m_addNeed)
                      refine lv_iconst (v := 1) hx hb dX1_readNeed_148 (by decide) ?_
                      have ps151 : gs.1 0 + 1 ≤ (nx gs 1).1 0 := ((keepS.n1 1)).1
                      have ps152 : (nx gs 1).1 0 + 1 ≤ (nx (nx gs 1) 1).1 0 := ((keepS.n1 1)).1
                      have ps153 : (nx (nx gs 1) 1).1 0 + 2 ≤ mx114.2.1 0 := (kp119).1
                      have ps154 : mx114.2.1 0 + 1 ≤ (nx mx114.2 1).1 0 := ((keepS.n1 1)).1
                      have ps155 : (sN (nx mx114.2 1) 1 ((nx mx114.2 1).1 1 + 1)).1 0 = (nx mx114.2 1).1 0 := rfl
                      exact W.zret (v := 1) hx hb hr rfl (fun t ht hW => ⟨⟨1, (V146, L131), rfl, ⟨hMV146, agV146, alL131, (by decide), (Or.inl ⟨rfl, (sN (nx mx114.2 1) 1 ((nx mx114.2 1).1 1 + 1)), hr150, rl149, (by omega)⟩)⟩, by rw [ht]; exact hP, va_K.moved hW.alike hK, hD⟩, hS.F ht⟩) hS.2.2 dX1_readNeed_149
                    · skip
                      have f156 : z125.toInt = 0 := b_eq rfl (by decide) c138
                      exfalso; first | omega | ((try (have i_t128 := Imp.go t128 (by omega))); omega)
                  · skip
                    have hb157 : ∀ k, Rc gT (Crun gs (Imember :: k)) (Cbad (V130 1 3).toInt) := fun k => Rc.go1 (hr120 k) ((tk_n (fun h9 => h133 (rl116.tok.1.symm.trans (h9.trans (by decide))))).trans (fl_eq rl116.tok.2.2 k134))
                    refine lv_if_ne (tgt := 138) hx hb dX1_readNeed_133 (by decide) (fun c158 => ?_) (fun c158 => ?_)
                    · skip
                      have f159 : z125.toInt ≠ 0 := b_neq rfl (by decide) c158
                      exfalso; first | omega | ((try (have i_t128 := Imp.go t128 (by omega))); omega)
                    · skip
                      have f160 : z125.toInt = 0 := b_eq rfl (by decide) c158
                      refine lv_iconst (v := 0) hx hb dX1_readNeed_136 (by decide) ?_
                      exact W.zret (v := 0) hx hb hr rfl (fun t ht hW => ⟨⟨0, (V130, L131), rfl, ⟨hMV130, agV130, alL131, (by decide), (Or.inr ⟨rfl, hb157⟩)⟩, by rw [ht]; exact hP, va_K.moved hW.alike hK, hD⟩, hS.F ht⟩) hS.2.2 dX1_readNeed_137
                · skip
                  have f161 : z107.toInt = 0 := b_eq rfl (by decide) c121
                  exfalso; omega
              · skip
                have hb162 : ∀ k, Rc gT (Crun gs (Imember :: k)) (Cbad (V111 1 3).toInt) := fun k => Rc.go1 (hr105 k) (wo_b h115)
                refine lv_if_ne (tgt := 122) hx hb dX1_readNeed_117 (by decide) (fun c163 => ?_) (fun c163 => ?_)
                · skip
                  have f164 : z107.toInt ≠ 0 := b_neq rfl (by decide) c163
                  exfalso; omega
                · skip
                  have f165 : z107.toInt = 0 := b_eq rfl (by decide) c163
                  refine lv_iconst (v := 0) hx hb dX1_readNeed_120 (by decide) ?_
                  exact W.zret (v := 0) hx hb hr rfl (fun t ht hW => ⟨⟨0, (V111, L112), rfl, ⟨hMV111, agV111, alL112, (by decide), (Or.inr ⟨rfl, hb162⟩)⟩, by rw [ht]; exact hP, va_K.moved hW.alike hK, hD⟩, hS.F ht⟩) hS.2.2 dX1_readNeed_121
          · skip
            have f166 : z30.toInt = 0 := b_eq rfl (by decide) c43
            exfalso; omega
        · skip
          have hb167 : ∀ k, Rc gT (Crun gs (Imember :: k)) (Cbad (V34 1 3).toInt) := fun k => Rc.go1 (hr28 k) (nd_b h38)
          refine lv_if_ne (tgt := 81) hx hb dX1_readNeed_76 (by decide) (fun c168 => ?_) (fun c168 => ?_)
          · skip
            have f169 : z30.toInt ≠ 0 := b_neq rfl (by decide) c168
            exfalso; omega
          · skip
            have f170 : z30.toInt = 0 := b_eq rfl (by decide) c168
            refine lv_iconst (v := 0) hx hb dX1_readNeed_79 (by decide) ?_
            exact W.zret (v := 0) hx hb hr rfl (fun t ht hW => ⟨⟨0, (V34, L19), rfl, ⟨hMV34, agV34, alL19, (by decide), (Or.inr ⟨rfl, hb167⟩)⟩, by rw [ht]; exact hP, va_K.moved hW.alike hK, hD⟩, hS.F ht⟩) hS.2.2 dX1_readNeed_80
      · skip
        have f171 : ((V18 6 9)).toInt = 139 := b_eq rfl (by decide) c25
        refine lv_iconst (v := 2) hx hb dX1_readNeed_55 (by decide) ?_
        refine lv_goto (tgt := 60) hx hb dX1_readNeed_56 (by decide) ?_
        refine lv_istore_n (lv' := [(1, .int 2), (0, .ref (ad 1))]) hx hb dX1_readNeed_60 rfl hl (by decide) rfl (fun ls hl => ?_)
        refine lv_iload_n hx hb dX1_readNeed_61 rfl (lv_at hl 0 rfl) ?_
        refine lv_if_eq (tgt := 72) hx hb dX1_readNeed_62 (by decide) (fun q => absurd q (by decide)) (fun _ => ?_)
        refine lv_aload_n hx hb dX1_readNeed_65 rfl (lv_at hl 1 rfl) ?_
        refine va_get (D := D) (ci := 1) (v := .ref (ad 6)) (fs := (xfReader ad V18 L19 Z)) (C := RX1) (T := TX1) (N := 9) hx hb hg inX1 hown hK hP 1 xgReader rfl 0 (by decide) (hg _ w304) (fun _ h9 => h9) rfl dX1_readNeed_66 ?_
        have kd172 : gT.1 ((nx gs 1).1 0) = ((V18 6 9)).toInt := RelC.kd rl22
        have hr173 : ∀ k, Rc gT (Crun gs (Imember :: k)) (Crun (nx (nx gs 1) 1) (IneedT 1 :: k)) := fun k => Rc.go1 (hr8 k) (needK_a (kd172.trans f171))
        have l8174 := RelC.l8 rl22
        have lk175 := RelC.lk rl22 (show (V18 6 9).toInt ≠ 0 from by omega)
        refine gA_void (gA_runV (As := []) (rest := []) (ci := 9) (q0 := 6) hx hb hml hown hg hP hD hK hS hA hnw hgk (x_next2 l D ks H.size ad kk V18 L19 Z  hMV18 (show (V18 6 8).toInt ≤ (V18 6 7).toInt from by omega)) w871 w852 w853 w157 w854 rfl xgTape hdV_yX9_next ⟨Nat.le_of_ble_eq_true rfl, Nat.le_of_ble_eq_true rfl⟩ rfl hl.1 rfl (Nat.le_of_ble_eq_true rfl) dX1_readNeed_69 ⟨Nat.le_of_ble_eq_true rfl, Nat.le_of_ble_eq_true rfl⟩) hP hD hK hS hA (fun u177 H locs w178 hP hD hK hS => ?_)
        obtain ⟨V181, L182⟩ := u177
        obtain ⟨hMV181, ajV181, axL182, t179, t180⟩ := w178
        have alL182 : agL [6, 44] L L182 := agL.tr alL19 axL182 (by decide)
        have hP : va_P D vwCl (xw ad kk V181 L182 Z) H := hP
        have hD : va_D A (xw ad kk V181 L182 Z) := hD
        have hMV181 : rgd bX V181 := hMV181
        have ajV181 : agr [(6, 8), (6, 9), (6, 10)] [] V18 V181 := ajV181
        have agV181 : agr [(1, 3), (1, 6), (6, 8), (6, 9), (6, 10)] [43, 44, 49, 58, 59, 60] V V181 := agV18.tr ajV181 (by decide) (by decide)
        have t179 : (V181 6 8).toInt ≤ (V181 6 7).toInt := t179
        have t180 : CUR V181 L182 (Int32.toNatClampNeg (V18 6 8)) := t180
        have r183 : 0 ≤ ((V181 6 8)).toInt ∧ ((V181 6 8)).toInt ≤ 4000 := hMV181 6 8
        have pq184 : (V181 6 7).toInt = ((V 6 7)).toInt := congrArg Int32.toInt ((ajV181 6 7 rfl).trans (ajV18 6 7 rfl))
        have rl185 : RelC V181 L182 b gT (nx (nx gs 1) 1) := RelC.nx1 rl22 ajV181 (by decide) axL182 (by decide) (by rw [← lk175]; exact t180) (ajV181 1 3 rfl)
        refine lv_aload_n hx hb dX1_readNeed_72 rfl (lv_at hl 1 rfl) ?_
        have pq186 : (V181 1 1).toInt = ((V 1 1)).toInt := congrArg Int32.toInt ((ajV181 1 1 rfl).trans (ajV18 1 1 rfl))
        refine gA_int (gA_runV (As := []) (rest := []) (ci := 1) (q0 := 1) hx hb hml hown hg hP hD hK hS hA hnw hgk (x_isToldType3 l D ks H.size ad kk V181 L182 Z (b) (gT) ((nx (nx gs 1) 1)) hMV181 (show b < 2 from by omega) (show (V181 1 1).toInt = (b : Int) from by omega) rl185) w888 w890 w9 w162 w891 rfl xgReader hdV_yX1_isToldType ⟨Nat.le_of_ble_eq_true rfl, Nat.le_of_ble_eq_true rfl⟩ rfl hl.1 rfl (Nat.le_of_ble_eq_true rfl) dX1_readNeed_73 ⟨Nat.le_of_ble_eq_true rfl, Nat.le_of_ble_eq_true rfl⟩) hP hD hK hS hA (fun z187 u188 H locs w189 hP hD hK hS => ?_)
        obtain ⟨V191, L192⟩ := u188
        obtain ⟨hMV191, ajV191, axL192, rgz187, t190⟩ := w189
        have axL192 : L182 = L192 := Eq.symm axL192
        subst axL192
        have hP : va_P D vwCl (xw ad kk V191 L182 Z) H := hP
        have hD : va_D A (xw ad kk V191 L182 Z) := hD
        have hMV191 : rgd bX V191 := hMV191
        have ajV191 : agr [(1, 3), (1, 6)] [] V181 V191 := ajV191
        have agV191 : agr [(1, 3), (1, 6), (6, 8), (6, 9), (6, 10)] [43, 44, 49, 58, 59, 60] V V191 := agV181.tr ajV191 (by decide) (by decide)
        have rgz187 : 0 ≤ z187.toInt ∧ z187.toInt ≤ 1 := rgz187
        have t190 : KcN (look gT (nx (nx gs 1) 1) ((nx (nx gs 1) 1).2.1 0)) z187.toInt (V191 1 3).toInt (fun f9 => RelC V191 L182 b gT (nx (nx gs 1) 1) ∧ (V191 1 6).toInt = ((f9 : Nat) : Int) ∧ f9 < 24) := t190
        rcases t190 with ⟨q193, fx194, h195, rl196, hf197, hb198⟩ | ⟨q193, h195⟩
        · skip
          have kn199 := look_ne h195
          have kd200 : gT.1 ((nx (nx gs 1) 1).1 0) = ((V181 6 9)).toInt := (RelC.kd rl196).trans (congrArg Int32.toInt (ajV191 6 9 rfl))
          refine lv_if_ne (tgt := 81) hx hb dX1_readNeed_76 (by decide) (fun c201 => ?_) (fun c201 => ?_)
          · skip
            have f202 : z187.toInt ≠ 0 := b_neq rfl (by decide) c201
            refine lv_aload_n hx hb dX1_readNeed_81 rfl (lv_at hl 1 rfl) ?_
            refine va_get (D := D) (ci := 1) (v := .int (V191 1 6)) (fs := (xfReader ad V191 L182 Z)) (C := RX1) (T := TX1) (N := 9) hx hb hg inX1 hown hK hP 1 xgReader rfl 6 (by decide) (hg _ w310) (fun _ h9 => h9) rfl dX1_readNeed_82 ?_
            have r203 : (-1) ≤ ((V191 1 6)).toInt ∧ ((V191 1 6)).toInt ≤ 23 := hMV191 1 6
            refine lv_istore_n (lv' := [(2, .int (V191 1 6)), (1, .int 2), (0, .ref (ad 1))]) hx hb dX1_readNeed_85 rfl hl (by decide) rfl (fun ls hl => ?_)
            refine lv_iconst (v := (-1)) hx hb dX1_readNeed_86 (by decide) ?_
            refine lv_istore_n (lv' := [(3, .int (-1)), (2, .int (V191 1 6)), (1, .int 2), (0, .ref (ad 1))]) hx hb dX1_readNeed_87 rfl hl (by decide) rfl (fun ls hl => ?_)
            refine lv_aload_n hx hb dX1_readNeed_88 rfl (lv_at hl 3 rfl) ?_
            refine va_get (D := D) (ci := 1) (v := .ref (ad 6)) (fs := (xfReader ad V191 L182 Z)) (C := RX1) (T := TX1) (N := 9) hx hb hg inX1 hown hK hP 1 xgReader rfl 0 (by decide) (hg _ w304) (fun _ h9 => h9) rfl dX1_readNeed_89 ?_
            have hr204 : ∀ k, Rc gT (Crun gs (Imember :: k)) (Crun (nx (nx (nx gs 1) 1) 1) (Itake 59 :: IaddNeed :: Imember :: k)) := fun k => Rc.go1 (hr173 k) (nd_1 h195)
            have l8205 := RelC.l8 rl196
            have pq206 : (V191 6 8).toInt = ((V181 6 8)).toInt := congrArg Int32.toInt (ajV191 6 8 rfl)
            have pq207 : (V191 6 7).toInt = ((V 6 7)).toInt := congrArg Int32.toInt ((ajV191 6 7 rfl).trans ((ajV181 6 7 rfl).trans (ajV18 6 7 rfl)))
            have pq208 : (V191 6 9).toInt = ((V181 6 9)).toInt := congrArg Int32.toInt (ajV191 6 9 rfl)
            have lk209 := RelC.lk rl196 (show (V191 6 9).toInt ≠ 0 from by omega)
            refine gA_void (gA_runV (As := []) (rest := []) (ci := 9) (q0 := 6) hx hb hml hown hg hP hD hK hS hA hnw hgk (x_next2 l D ks H.size ad kk V191 L182 Z  hMV191 (show (V191 6 8).toInt ≤ (V191 6 7).toInt from by omega)) w871 w852 w853 w157 w854 rfl xgTape hdV_yX9_next ⟨Nat.le_of_ble_eq_true rfl, Nat.le_of_ble_eq_true rfl⟩ rfl hl.1 rfl (Nat.le_of_ble_eq_true rfl) dX1_readNeed_92 ⟨Nat.le_of_ble_eq_true rfl, Nat.le_of_ble_eq_true rfl⟩) hP hD hK hS hA (fun u211 H locs w212 hP hD hK hS => ?_)
            obtain ⟨V215, L216⟩ := u211
            obtain ⟨hMV215, ajV215, axL216, t213, t214⟩ := w212
            have alL216 : agL [6, 44] L L216 := agL.tr alL182 axL216 (by decide)
            have hP : va_P D vwCl (xw ad kk V215 L216 Z) H := hP
            have hD : va_D A (xw ad kk V215 L216 Z) := hD
            have hMV215 : rgd bX V215 := hMV215
            have ajV215 : agr [(6, 8), (6, 9), (6, 10)] [] V191 V215 := ajV215
            have agV215 : agr [(1, 3), (1, 6), (6, 8), (6, 9), (6, 10)] [43, 44, 49, 58, 59, 60] V V215 := agV191.tr ajV215 (by decide) (by decide)
            have t213 : (V215 6 8).toInt ≤ (V215 6 7).toInt := t213
            have t214 : CUR V215 L216 (Int32.toNatClampNeg (V191 6 8)) := t214
            have r217 : 0 ≤ ((V215 6 8)).toInt ∧ ((V215 6 8)).toInt ≤ 4000 := hMV215 6 8
            have pq218 : (V215 6 7).toInt = ((V 6 7)).toInt := congrArg Int32.toInt ((ajV215 6 7 rfl).trans ((ajV191 6 7 rfl).trans ((ajV181 6 7 rfl).trans (ajV18 6 7 rfl))))
            have rl219 : RelC V215 L216 b gT (nx (nx (nx gs 1) 1) 1) := RelC.nx1 rl196 ajV215 (by decide) axL216 (by decide) (by rw [← lk209]; exact t214) (ajV215 1 3 rfl)
            refine lv_iload_n hx hb dX1_readNeed_95 rfl (lv_at hl 2 rfl) ?_
            refine lv_iconst (v := 2) hx hb dX1_readNeed_96 (by decide) ?_
            refine lv_icmp_eq (tgt := 127) hx hb dX1_readNeed_97 (by decide) (fun _ => ?_) (fun q => absurd (by decide) q)
            refine lv_aload_n hx hb dX1_readNeed_127 rfl (lv_at hl 3 rfl) ?_
            refine lv_bipush (v := 59) hx hb dX1_readNeed_128 (by decide) ?_
            have r220 : Int32.toInt 59 = 59 := by decide
            refine gA_int (gA_runV (As := [.int 59]) (rest := []) (ci := 1) (q0 := 1) hx hb hml hown hg hP hD hK hS hA hnw hgk (x_take2 l D ks H.size ad kk V215 L216 Z 59 (((nx (nx (nx gs 1) 1) 1).1 0)) hMV215 (rl219).1 (rl219).2.1.1 (show 1 ≤ (Int32.toInt 59) from by omega)) w893 w895 w10 w162 w896 rfl xgReader hdV_yX1_take ⟨Nat.le_of_ble_eq_true rfl, Nat.le_of_ble_eq_true rfl⟩ rfl hl.1 rfl (Nat.le_of_ble_eq_true rfl) dX1_readNeed_130 ⟨Nat.le_of_ble_eq_true rfl, Nat.le_of_ble_eq_true rfl⟩) hP hD hK hS hA (fun z221 u222 H locs w223 hP hD hK hS => ?_)
            obtain ⟨V226, L227⟩ := u222
            obtain ⟨hMV226, ajV226, axL227, rgz221, t224, t225⟩ := w223
            have alL227 : agL [6, 44] L L227 := agL.tr alL216 axL227 (by decide)
            have hP : va_P D vwCl (xw ad kk V226 L227 Z) H := hP
            have hD : va_D A (xw ad kk V226 L227 Z) := hD
            have hMV226 : rgd bX V226 := hMV226
            have ajV226 : agr [(1, 3), (6, 8), (6, 9), (6, 10)] [] V215 V226 := ajV226
            have agV226 : agr [(1, 3), (1, 6), (6, 8), (6, 9), (6, 10)] [43, 44, 49, 58, 59, 60] V V226 := agV215.tr ajV226 (by decide) (by decide)
            have rgz221 : 0 ≤ z221.toInt ∧ z221.toInt ≤ 1 := rgz221
            have t224 : Imp (z221.toInt = 0) (1 ≤ (V226 1 3).toInt) := t224
            have t225 : (z221.toInt = 1 ∧ (V215 12 ((nx (nx (nx gs 1) 1) 1).1 0)).toInt = (Int32.toInt 59) ∧ CUR V226 L227 (((nx (nx (nx gs 1) 1) 1).1 0) + 1) ∧ V226 1 3 = V215 1 3) ∨ (z221.toInt = 0 ∧ (V215 12 ((nx (nx (nx gs 1) 1) 1).1 0)).toInt ≠ (Int32.toInt 59) ∧ (V226 1 3).toInt = 1 + 16 * (V215 13 ((nx (nx (nx gs 1) 1) 1).1 0)).toInt) := t225
            rcases t225 with ⟨q228, h229, k230, k231⟩ | ⟨q228, h229, k230⟩
            · skip
              have rl232 : RelC V226 L227 b gT (nx (nx (nx (nx gs 1) 1) 1) 1) := RelC.nx1 rl219 ajV226 (by decide) axL227 (by decide) k230 k231
              have hr233 : ∀ k, Rc gT (Crun gs (Imember :: k)) (Crun (nx (nx (nx (nx gs 1) 1) 1) 1) (IaddNeed :: Imember :: k)) := fun k => Rc.go1 (hr204 k) (tk_y (rl219.tok.1.trans (h229.trans (by decide))))
              refine lv_if_ne (tgt := 138) hx hb dX1_readNeed_133 (by decide) (fun c234 => ?_) (fun c234 => ?_)
              · skip
                have f235 : z221.toInt ≠ 0 := b_neq rfl (by decide) c234
                refine lv_aload_n hx hb dX1_readNeed_138 rfl (lv_at hl 3 rfl) ?_
                refine va_get (D := D) (ci := 1) (v := rfN ad 72 (V226 1 2)) (fs := (xfReader ad V226 L227 Z)) (C := RX1) (T := TX1) (N := 9) hx hb hg inX1 hown hK hP 1 xgReader rfl 2 (by decide) (hg _ w306) (fun _ h9 => h9) rfl dX1_readNeed_139 ?_
                have pq236 : (V226 1 2).toInt = ((V 1 2)).toInt := congrArg Int32.toInt ((ajV226 1 2 rfl).trans ((ajV215 1 2 rfl).trans ((ajV191 1 2 rfl).trans ((ajV181 1 2 rfl).trans (ajV18 1 2 rfl)))))
                refine g_topv (v := .ref (ad (72 + go))) (rfN_r (by first | omega | ((try (have i_t224 := Imp.go t224 (by omega))); omega))) ?_
                refine lv_iload_n hx hb dX1_readNeed_142 rfl (lv_at hl 2 rfl) ?_
                refine lv_iload_n hx hb dX1_readNeed_143 rfl (lv_at hl 1 rfl) ?_
                refine lv_iload_n hx hb dX1_readNeed_144 rfl (lv_at hl 0 rfl) ?_
                have r237 : Int32.toInt 2 = 2 := by decide
                have r238 : Int32.toInt (-1) = (-1) := by decide
                refine gA_void (gA_runV (As := [.int 2, .int (V191 1 6), .int (-1)]) (rest := []) (ci := 3) (q0 := (72 + go)) hx hb hml hown hg hP hD hK hS hA hnw hgk (x_addNeed3 l D ks H.size ad kk V226 L227 Z 2 (V191 1 6) (-1) (go) hMV226 (show go < 48 from by first | omega | ((try (have i_t224 := Imp.go t224 (by omega))); omega))) w1011 w1012 w1013 w169 w1014 rfl (xgComp hgo) hdV_yX3_addNeed ⟨Nat.le_of_ble_eq_true rfl, Nat.le_of_ble_eq_true rfl⟩ rfl hl.1 rfl (Nat.le_of_ble_eq_true rfl) dX1_readNeed_145 ⟨Nat.le_of_ble_eq_true rfl, Nat.le_of_ble_eq_true rfl⟩) hP hD hK hS hA (fun u240 H locs w241 hP hD hK hS => ?_)
                obtain ⟨V243, L244⟩ := u240
                obtain ⟨hMV243, ajV243, axL244, fyV243, t242⟩ := w241
                have axL244 : L227 = L244 := Eq.symm axL244
                subst axL244
                have hP : va_P D vwCl (xw ad kk V243 L227 Z) H := hP
                have hD : va_D A (xw ad kk V243 L227 Z) := hD
                have hMV243 : rgd bX V243 := hMV243
                have ajV243 : agr [] [49, 58, 59, 60] V226 V243 := ajV243
                have agV243 : agr [(1, 3), (1, 6), (6, 8), (6, 9), (6, 10)] [43, 44, 49, 58, 59, 60] V V243 := agV226.tr ajV243 (by decide) (by decide)
                have t242 : Imp ((V226 49 go).toInt < 8) ((V243 49 go).toInt = (V226 49 go).toInt + 1) := t242
                have pq245 : (V226 49 go).toInt = ((V 49 go)).toInt := congrArg Int32.toInt ((ajV226 49 go rfl).trans ((ajV215 49 go rfl).trans ((ajV191 49 go rfl).trans ((ajV181 49 go rfl).trans (ajV18 49 go rfl)))))
                have rl246 : RelC V243 L227 b gT (sN (nx (nx (nx (nx gs 1) 1) 1) 1) 1 ((nx (nx (nx (nx gs 1) 1) 1) 1).1 1 + 1)) := RelC.nd rl232 (show (V226 1 2).toInt = ((go : Nat) : Int) from by omega) ajV243 (by decide) (Imp.go t242 (by omega))
                have hr247 : ∀ k, Rc gT (Crun gs (Imember :: k)) (Crun (sN (nx (nx (nx (nx gs 1) 1) 1) 1) 1 ((nx (nx (nx (nx gs 1) 1) 1) 1).1 1 + 1)) (Imember :: k)) := fun k => Rc.go1 (hr233 k) (m_addNeed)
                refine lv_iconst (v := 1) hx hb dX1_readNeed_148 (by decide) ?_
                have ps248 : gs.1 0 + 1 ≤ (nx gs 1).1 0 := ((keepS.n1 1)).1
                have ps249 : (nx gs 1).1 0 + 1 ≤ (nx (nx gs 1) 1).1 0 := ((keepS.n1 1)).1
                have ps250 : (nx (nx gs 1) 1).1 0 + 1 ≤ (nx (nx (nx gs 1) 1) 1).1 0 := ((keepS.n1 1)).1
                have ps251 : (nx (nx (nx gs 1) 1) 1).1 0 + 1 ≤ (nx (nx (nx (nx gs 1) 1) 1) 1).1 0 := ((keepS.n1 1)).1
                have ps252 : (sN (nx (nx (nx (nx gs 1) 1) 1) 1) 1 ((nx (nx (nx (nx gs 1) 1) 1) 1).1 1 + 1)).1 0 = (nx (nx (nx (nx gs 1) 1) 1) 1).1 0 := rfl
                exact W.zret (v := 1) hx hb hr rfl (fun t ht hW => ⟨⟨1, (V243, L227), rfl, ⟨hMV243, agV243, alL227, (by decide), (Or.inl ⟨rfl, (sN (nx (nx (nx (nx gs 1) 1) 1) 1) 1 ((nx (nx (nx (nx gs 1) 1) 1) 1).1 1 + 1)), hr247, rl246, (by omega)⟩)⟩, by rw [ht]; exact hP, va_K.moved hW.alike hK, hD⟩, hS.F ht⟩) hS.2.2 dX1_readNeed_149
              · skip
                have f253 : z221.toInt = 0 := b_eq rfl (by decide) c234
                exfalso; first | omega | ((try (have i_t224 := Imp.go t224 (by omega))); omega)
            · skip
              have hb254 : ∀ k, Rc gT (Crun gs (Imember :: k)) (Cbad (V226 1 3).toInt) := fun k => Rc.go1 (hr204 k) ((tk_n (fun h9 => h229 (rl219.tok.1.symm.trans (h9.trans (by decide))))).trans (fl_eq rl219.tok.2.2 k230))
              refine lv_if_ne (tgt := 138) hx hb dX1_readNeed_133 (by decide) (fun c255 => ?_) (fun c255 => ?_)
              · skip
                have f256 : z221.toInt ≠ 0 := b_neq rfl (by decide) c255
                exfalso; first | omega | ((try (have i_t224 := Imp.go t224 (by omega))); omega)
              · skip
                have f257 : z221.toInt = 0 := b_eq rfl (by decide) c255
                refine lv_iconst (v := 0) hx hb dX1_readNeed_136 (by decide) ?_
                exact W.zret (v := 0) hx hb hr rfl (fun t ht hW => ⟨⟨0, (V226, L227), rfl, ⟨hMV226, agV226, alL227, (by decide), (Or.inr ⟨rfl, hb254⟩)⟩, by rw [ht]; exact hP, va_K.moved hW.alike hK, hD⟩, hS.F ht⟩) hS.2.2 dX1_readNeed_137
          · skip
            have f258 : z187.toInt = 0 := b_eq rfl (by decide) c201
            exfalso; omega
        · skip
          have hb259 : ∀ k, Rc gT (Crun gs (Imember :: k)) (Cbad (V191 1 3).toInt) := fun k => Rc.go1 (hr173 k) (nd_b h195)
          refine lv_if_ne (tgt := 81) hx hb dX1_readNeed_76 (by decide) (fun c260 => ?_) (fun c260 => ?_)
          · skip
            have f261 : z187.toInt ≠ 0 := b_neq rfl (by decide) c260
            exfalso; omega
          · skip
            have f262 : z187.toInt = 0 := b_eq rfl (by decide) c260
            refine lv_iconst (v := 0) hx hb dX1_readNeed_79 (by decide) ?_
            exact W.zret (v := 0) hx hb hr rfl (fun t ht hW => ⟨⟨0, (V191, L182), rfl, ⟨hMV191, agV191, alL182, (by decide), (Or.inr ⟨rfl, hb259⟩)⟩, by rw [ht]; exact hP, va_K.moved hW.alike hK, hD⟩, hS.F ht⟩) hS.2.2 dX1_readNeed_80
    · skip
      have f263 : ((V18 6 9)).toInt = 138 := b_eq rfl (by decide) c23
      refine lv_iconst (v := 1) hx hb dX1_readNeed_38 (by decide) ?_
      refine lv_goto (tgt := 60) hx hb dX1_readNeed_39 (by decide) ?_
      refine lv_istore_n (lv' := [(1, .int 1), (0, .ref (ad 1))]) hx hb dX1_readNeed_60 rfl hl (by decide) rfl (fun ls hl => ?_)
      refine lv_iload_n hx hb dX1_readNeed_61 rfl (lv_at hl 0 rfl) ?_
      refine lv_if_eq (tgt := 72) hx hb dX1_readNeed_62 (by decide) (fun q => absurd q (by decide)) (fun _ => ?_)
      refine lv_aload_n hx hb dX1_readNeed_65 rfl (lv_at hl 1 rfl) ?_
      refine va_get (D := D) (ci := 1) (v := .ref (ad 6)) (fs := (xfReader ad V18 L19 Z)) (C := RX1) (T := TX1) (N := 9) hx hb hg inX1 hown hK hP 1 xgReader rfl 0 (by decide) (hg _ w304) (fun _ h9 => h9) rfl dX1_readNeed_66 ?_
      have kd264 : gT.1 ((nx gs 1).1 0) = ((V18 6 9)).toInt := RelC.kd rl22
      have hr265 : ∀ k, Rc gT (Crun gs (Imember :: k)) (Crun (nx (nx gs 1) 1) (IneedT 0 :: k)) := fun k => Rc.go1 (hr8 k) (needK_l (kd264.trans f263))
      have l8266 := RelC.l8 rl22
      have lk267 := RelC.lk rl22 (show (V18 6 9).toInt ≠ 0 from by omega)
      refine gA_void (gA_runV (As := []) (rest := []) (ci := 9) (q0 := 6) hx hb hml hown hg hP hD hK hS hA hnw hgk (x_next2 l D ks H.size ad kk V18 L19 Z  hMV18 (show (V18 6 8).toInt ≤ (V18 6 7).toInt from by omega)) w871 w852 w853 w157 w854 rfl xgTape hdV_yX9_next ⟨Nat.le_of_ble_eq_true rfl, Nat.le_of_ble_eq_true rfl⟩ rfl hl.1 rfl (Nat.le_of_ble_eq_true rfl) dX1_readNeed_69 ⟨Nat.le_of_ble_eq_true rfl, Nat.le_of_ble_eq_true rfl⟩) hP hD hK hS hA (fun u269 H locs w270 hP hD hK hS => ?_)
      obtain ⟨V273, L274⟩ := u269
      obtain ⟨hMV273, ajV273, axL274, t271, t272⟩ := w270
      have alL274 : agL [6, 44] L L274 := agL.tr alL19 axL274 (by decide)
      have hP : va_P D vwCl (xw ad kk V273 L274 Z) H := hP
      have hD : va_D A (xw ad kk V273 L274 Z) := hD
      have hMV273 : rgd bX V273 := hMV273
      have ajV273 : agr [(6, 8), (6, 9), (6, 10)] [] V18 V273 := ajV273
      have agV273 : agr [(1, 3), (1, 6), (6, 8), (6, 9), (6, 10)] [43, 44, 49, 58, 59, 60] V V273 := agV18.tr ajV273 (by decide) (by decide)
      have t271 : (V273 6 8).toInt ≤ (V273 6 7).toInt := t271
      have t272 : CUR V273 L274 (Int32.toNatClampNeg (V18 6 8)) := t272
      have r275 : 0 ≤ ((V273 6 8)).toInt ∧ ((V273 6 8)).toInt ≤ 4000 := hMV273 6 8
      have pq276 : (V273 6 7).toInt = ((V 6 7)).toInt := congrArg Int32.toInt ((ajV273 6 7 rfl).trans (ajV18 6 7 rfl))
      have rl277 : RelC V273 L274 b gT (nx (nx gs 1) 1) := RelC.nx1 rl22 ajV273 (by decide) axL274 (by decide) (by rw [← lk267]; exact t272) (ajV273 1 3 rfl)
      refine lv_aload_n hx hb dX1_readNeed_72 rfl (lv_at hl 1 rfl) ?_
      have pq278 : (V273 1 1).toInt = ((V 1 1)).toInt := congrArg Int32.toInt ((ajV273 1 1 rfl).trans (ajV18 1 1 rfl))
      refine gA_int (gA_runV (As := []) (rest := []) (ci := 1) (q0 := 1) hx hb hml hown hg hP hD hK hS hA hnw hgk (x_isToldType3 l D ks H.size ad kk V273 L274 Z (b) (gT) ((nx (nx gs 1) 1)) hMV273 (show b < 2 from by omega) (show (V273 1 1).toInt = (b : Int) from by omega) rl277) w888 w890 w9 w162 w891 rfl xgReader hdV_yX1_isToldType ⟨Nat.le_of_ble_eq_true rfl, Nat.le_of_ble_eq_true rfl⟩ rfl hl.1 rfl (Nat.le_of_ble_eq_true rfl) dX1_readNeed_73 ⟨Nat.le_of_ble_eq_true rfl, Nat.le_of_ble_eq_true rfl⟩) hP hD hK hS hA (fun z279 u280 H locs w281 hP hD hK hS => ?_)
      obtain ⟨V283, L284⟩ := u280
      obtain ⟨hMV283, ajV283, axL284, rgz279, t282⟩ := w281
      have axL284 : L274 = L284 := Eq.symm axL284
      subst axL284
      have hP : va_P D vwCl (xw ad kk V283 L274 Z) H := hP
      have hD : va_D A (xw ad kk V283 L274 Z) := hD
      have hMV283 : rgd bX V283 := hMV283
      have ajV283 : agr [(1, 3), (1, 6)] [] V273 V283 := ajV283
      have agV283 : agr [(1, 3), (1, 6), (6, 8), (6, 9), (6, 10)] [43, 44, 49, 58, 59, 60] V V283 := agV273.tr ajV283 (by decide) (by decide)
      have rgz279 : 0 ≤ z279.toInt ∧ z279.toInt ≤ 1 := rgz279
      have t282 : KcN (look gT (nx (nx gs 1) 1) ((nx (nx gs 1) 1).2.1 0)) z279.toInt (V283 1 3).toInt (fun f9 => RelC V283 L274 b gT (nx (nx gs 1) 1) ∧ (V283 1 6).toInt = ((f9 : Nat) : Int) ∧ f9 < 24) := t282
      rcases t282 with ⟨q285, fx286, h287, rl288, hf289, hb290⟩ | ⟨q285, h287⟩
      · skip
        have kn291 := look_ne h287
        have kd292 : gT.1 ((nx (nx gs 1) 1).1 0) = ((V273 6 9)).toInt := (RelC.kd rl288).trans (congrArg Int32.toInt (ajV283 6 9 rfl))
        refine lv_if_ne (tgt := 81) hx hb dX1_readNeed_76 (by decide) (fun c293 => ?_) (fun c293 => ?_)
        · skip
          have f294 : z279.toInt ≠ 0 := b_neq rfl (by decide) c293
          refine lv_aload_n hx hb dX1_readNeed_81 rfl (lv_at hl 1 rfl) ?_
          refine va_get (D := D) (ci := 1) (v := .int (V283 1 6)) (fs := (xfReader ad V283 L274 Z)) (C := RX1) (T := TX1) (N := 9) hx hb hg inX1 hown hK hP 1 xgReader rfl 6 (by decide) (hg _ w310) (fun _ h9 => h9) rfl dX1_readNeed_82 ?_
          have r295 : (-1) ≤ ((V283 1 6)).toInt ∧ ((V283 1 6)).toInt ≤ 23 := hMV283 1 6
          refine lv_istore_n (lv' := [(2, .int (V283 1 6)), (1, .int 1), (0, .ref (ad 1))]) hx hb dX1_readNeed_85 rfl hl (by decide) rfl (fun ls hl => ?_)
          refine lv_iconst (v := (-1)) hx hb dX1_readNeed_86 (by decide) ?_
          refine lv_istore_n (lv' := [(3, .int (-1)), (2, .int (V283 1 6)), (1, .int 1), (0, .ref (ad 1))]) hx hb dX1_readNeed_87 rfl hl (by decide) rfl (fun ls hl => ?_)
          refine lv_aload_n hx hb dX1_readNeed_88 rfl (lv_at hl 3 rfl) ?_
          refine va_get (D := D) (ci := 1) (v := .ref (ad 6)) (fs := (xfReader ad V283 L274 Z)) (C := RX1) (T := TX1) (N := 9) hx hb hg inX1 hown hK hP 1 xgReader rfl 0 (by decide) (hg _ w304) (fun _ h9 => h9) rfl dX1_readNeed_89 ?_
          have hr296 : ∀ k, Rc gT (Crun gs (Imember :: k)) (Crun (nx (nx (nx gs 1) 1) 1) (Icalled :: Itake 59 :: IaddNeed :: Imember :: k)) := fun k => Rc.go1 (hr265 k) (nd_0 h287)
          have l8297 := RelC.l8 rl288
          have pq298 : (V283 6 8).toInt = ((V273 6 8)).toInt := congrArg Int32.toInt (ajV283 6 8 rfl)
          have pq299 : (V283 6 7).toInt = ((V 6 7)).toInt := congrArg Int32.toInt ((ajV283 6 7 rfl).trans ((ajV273 6 7 rfl).trans (ajV18 6 7 rfl)))
          have pq300 : (V283 6 9).toInt = ((V273 6 9)).toInt := congrArg Int32.toInt (ajV283 6 9 rfl)
          have lk301 := RelC.lk rl288 (show (V283 6 9).toInt ≠ 0 from by omega)
          refine gA_void (gA_runV (As := []) (rest := []) (ci := 9) (q0 := 6) hx hb hml hown hg hP hD hK hS hA hnw hgk (x_next2 l D ks H.size ad kk V283 L274 Z  hMV283 (show (V283 6 8).toInt ≤ (V283 6 7).toInt from by omega)) w871 w852 w853 w157 w854 rfl xgTape hdV_yX9_next ⟨Nat.le_of_ble_eq_true rfl, Nat.le_of_ble_eq_true rfl⟩ rfl hl.1 rfl (Nat.le_of_ble_eq_true rfl) dX1_readNeed_92 ⟨Nat.le_of_ble_eq_true rfl, Nat.le_of_ble_eq_true rfl⟩) hP hD hK hS hA (fun u303 H locs w304 hP hD hK hS => ?_)
          obtain ⟨V307, L308⟩ := u303
          obtain ⟨hMV307, ajV307, axL308, t305, t306⟩ := w304
          have alL308 : agL [6, 44] L L308 := agL.tr alL274 axL308 (by decide)
          have hP : va_P D vwCl (xw ad kk V307 L308 Z) H := hP
          have hD : va_D A (xw ad kk V307 L308 Z) := hD
          have hMV307 : rgd bX V307 := hMV307
          have ajV307 : agr [(6, 8), (6, 9), (6, 10)] [] V283 V307 := ajV307
          have agV307 : agr [(1, 3), (1, 6), (6, 8), (6, 9), (6, 10)] [43, 44, 49, 58, 59, 60] V V307 := agV283.tr ajV307 (by decide) (by decide)
          have t305 : (V307 6 8).toInt ≤ (V307 6 7).toInt := t305
          have t306 : CUR V307 L308 (Int32.toNatClampNeg (V283 6 8)) := t306
          have r309 : 0 ≤ ((V307 6 8)).toInt ∧ ((V307 6 8)).toInt ≤ 4000 := hMV307 6 8
          have pq310 : (V307 6 7).toInt = ((V 6 7)).toInt := congrArg Int32.toInt ((ajV307 6 7 rfl).trans ((ajV283 6 7 rfl).trans ((ajV273 6 7 rfl).trans (ajV18 6 7 rfl))))
          have rl311 : RelC V307 L308 b gT (nx (nx (nx gs 1) 1) 1) := RelC.nx1 rl288 ajV307 (by decide) axL308 (by decide) (by rw [← lk301]; exact t306) (ajV307 1 3 rfl)
          refine lv_iload_n hx hb dX1_readNeed_95 rfl (lv_at hl 2 rfl) ?_
          refine lv_iconst (v := 2) hx hb dX1_readNeed_96 (by decide) ?_
          refine lv_icmp_eq (tgt := 127) hx hb dX1_readNeed_97 (by decide) (fun q => absurd q (by decide)) (fun _ => ?_)
          refine lv_aload_n hx hb dX1_readNeed_100 rfl (lv_at hl 3 rfl) ?_
          refine va_get (D := D) (ci := 1) (v := .ref (ad 6)) (fs := (xfReader ad V307 L308 Z)) (C := RX1) (T := TX1) (N := 9) hx hb hg inX1 hown hK hP 1 xgReader rfl 0 (by decide) (hg _ w304) (fun _ h9 => h9) rfl dX1_readNeed_101 ?_
          refine va_getN (D := D) (ci := 9) (v := .int (V307 6 9)) (fs := (xfTape ad V307 L308 Z)) (C := RX9) (T := TX9) (N := 12) hx hb hg inX9 hown hK hP 6 xgTape rfl 9 (by decide) (hnw.use 262 n262 rfl) (fun _ h9 => h9) rfl dX1_readNeed_104 ?_
          refine lv_sipush (v := 133) hx hb dX1_readNeed_107 (by decide) ?_
          refine lv_icmp_ne (tgt := 127) hx hb dX1_readNeed_110 (by decide) (fun c312 => ?_) (fun c312 => ?_)
          · skip
            have f313 : ((V307 6 9)).toInt ≠ 133 := b_neq rfl (by decide) c312
            refine lv_aload_n hx hb dX1_readNeed_127 rfl (lv_at hl 3 rfl) ?_
            refine lv_bipush (v := 59) hx hb dX1_readNeed_128 (by decide) ?_
            have kd314 : gT.1 ((nx (nx (nx gs 1) 1) 1).1 0) = ((V307 6 9)).toInt := RelC.kd rl311
            have hr315 : ∀ k, Rc gT (Crun gs (Imember :: k)) (Crun (nx (nx (nx gs 1) 1) 1) (Itake 59 :: IaddNeed :: Imember :: k)) := fun k => Rc.go1 (hr296 k) (called_n  (fun h9 => f313 (kd314.symm.trans h9)))
            have r316 : Int32.toInt 59 = 59 := by decide
            refine gA_int (gA_runV (As := [.int 59]) (rest := []) (ci := 1) (q0 := 1) hx hb hml hown hg hP hD hK hS hA hnw hgk (x_take2 l D ks H.size ad kk V307 L308 Z 59 (((nx (nx (nx gs 1) 1) 1).1 0)) hMV307 (rl311).1 (rl311).2.1.1 (show 1 ≤ (Int32.toInt 59) from by omega)) w893 w895 w10 w162 w896 rfl xgReader hdV_yX1_take ⟨Nat.le_of_ble_eq_true rfl, Nat.le_of_ble_eq_true rfl⟩ rfl hl.1 rfl (Nat.le_of_ble_eq_true rfl) dX1_readNeed_130 ⟨Nat.le_of_ble_eq_true rfl, Nat.le_of_ble_eq_true rfl⟩) hP hD hK hS hA (fun z317 u318 H locs w319 hP hD hK hS => ?_)
            obtain ⟨V322, L323⟩ := u318
            obtain ⟨hMV322, ajV322, axL323, rgz317, t320, t321⟩ := w319
            have alL323 : agL [6, 44] L L323 := agL.tr alL308 axL323 (by decide)
            have hP : va_P D vwCl (xw ad kk V322 L323 Z) H := hP
            have hD : va_D A (xw ad kk V322 L323 Z) := hD
            have hMV322 : rgd bX V322 := hMV322
            have ajV322 : agr [(1, 3), (6, 8), (6, 9), (6, 10)] [] V307 V322 := ajV322
            have agV322 : agr [(1, 3), (1, 6), (6, 8), (6, 9), (6, 10)] [43, 44, 49, 58, 59, 60] V V322 := agV307.tr ajV322 (by decide) (by decide)
            have rgz317 : 0 ≤ z317.toInt ∧ z317.toInt ≤ 1 := rgz317
            have t320 : Imp (z317.toInt = 0) (1 ≤ (V322 1 3).toInt) := t320
            have t321 : (z317.toInt = 1 ∧ (V307 12 ((nx (nx (nx gs 1) 1) 1).1 0)).toInt = (Int32.toInt 59) ∧ CUR V322 L323 (((nx (nx (nx gs 1) 1) 1).1 0) + 1) ∧ V322 1 3 = V307 1 3) ∨ (z317.toInt = 0 ∧ (V307 12 ((nx (nx (nx gs 1) 1) 1).1 0)).toInt ≠ (Int32.toInt 59) ∧ (V322 1 3).toInt = 1 + 16 * (V307 13 ((nx (nx (nx gs 1) 1) 1).1 0)).toInt) := t321
            rcases t321 with ⟨q324, h325, k326, k327⟩ | ⟨q324, h325, k326⟩
            · skip
              have rl328 : RelC V322 L323 b gT (nx (nx (nx (nx gs 1) 1) 1) 1) := RelC.nx1 rl311 ajV322 (by decide) axL323 (by decide) k326 k327
              have hr329 : ∀ k, Rc gT (Crun gs (Imember :: k)) (Crun (nx (nx (nx (nx gs 1) 1) 1) 1) (IaddNeed :: Imember :: k)) := fun k => Rc.go1 (hr315 k) (tk_y (rl311.tok.1.trans (h325.trans (by decide))))
              refine lv_if_ne (tgt := 138) hx hb dX1_readNeed_133 (by decide) (fun c330 => ?_) (fun c330 => ?_)
              · skip
                have f331 : z317.toInt ≠ 0 := b_neq rfl (by decide) c330
                refine lv_aload_n hx hb dX1_readNeed_138 rfl (lv_at hl 3 rfl) ?_
                refine va_get (D := D) (ci := 1) (v := rfN ad 72 (V322 1 2)) (fs := (xfReader ad V322 L323 Z)) (C := RX1) (T := TX1) (N := 9) hx hb hg inX1 hown hK hP 1 xgReader rfl 2 (by decide) (hg _ w306) (fun _ h9 => h9) rfl dX1_readNeed_139 ?_
                have pq332 : (V322 1 2).toInt = ((V 1 2)).toInt := congrArg Int32.toInt ((ajV322 1 2 rfl).trans ((ajV307 1 2 rfl).trans ((ajV283 1 2 rfl).trans ((ajV273 1 2 rfl).trans (ajV18 1 2 rfl)))))
                refine g_topv (v := .ref (ad (72 + go))) (rfN_r (by first | omega | ((try (have i_t320 := Imp.go t320 (by omega))); omega))) ?_
                refine lv_iload_n hx hb dX1_readNeed_142 rfl (lv_at hl 2 rfl) ?_
                refine lv_iload_n hx hb dX1_readNeed_143 rfl (lv_at hl 1 rfl) ?_
                refine lv_iload_n hx hb dX1_readNeed_144 rfl (lv_at hl 0 rfl) ?_
                have r333 : Int32.toInt 1 = 1 := by decide
                have r334 : Int32.toInt (-1) = (-1) := by decide
                refine gA_void (gA_runV (As := [.int 1, .int (V283 1 6), .int (-1)]) (rest := []) (ci := 3) (q0 := (72 + go)) hx hb hml hown hg hP hD hK hS hA hnw hgk (x_addNeed3 l D ks H.size ad kk V322 L323 Z 1 (V283 1 6) (-1) (go) hMV322 (show go < 48 from by first | omega | ((try (have i_t320 := Imp.go t320 (by omega))); omega))) w1011 w1012 w1013 w169 w1014 rfl (xgComp hgo) hdV_yX3_addNeed ⟨Nat.le_of_ble_eq_true rfl, Nat.le_of_ble_eq_true rfl⟩ rfl hl.1 rfl (Nat.le_of_ble_eq_true rfl) dX1_readNeed_145 ⟨Nat.le_of_ble_eq_true rfl, Nat.le_of_ble_eq_true rfl⟩) hP hD hK hS hA (fun u336 H locs w337 hP hD hK hS => ?_)
                obtain ⟨V339, L340⟩ := u336
                obtain ⟨hMV339, ajV339, axL340, fyV339, t338⟩ := w337
                have axL340 : L323 = L340 := Eq.symm axL340
                subst axL340
                have hP : va_P D vwCl (xw ad kk V339 L323 Z) H := hP
                have hD : va_D A (xw ad kk V339 L323 Z) := hD
                have hMV339 : rgd bX V339 := hMV339
                have ajV339 : agr [] [49, 58, 59, 60] V322 V339 := ajV339
                have agV339 : agr [(1, 3), (1, 6), (6, 8), (6, 9), (6, 10)] [43, 44, 49, 58, 59, 60] V V339 := agV322.tr ajV339 (by decide) (by decide)
                have t338 : Imp ((V322 49 go).toInt < 8) ((V339 49 go).toInt = (V322 49 go).toInt + 1) := t338
                have pq341 : (V322 49 go).toInt = ((V 49 go)).toInt := congrArg Int32.toInt ((ajV322 49 go rfl).trans ((ajV307 49 go rfl).trans ((ajV283 49 go rfl).trans ((ajV273 49 go rfl).trans (ajV18 49 go rfl)))))
                have rl342 : RelC V339 L323 b gT (sN (nx (nx (nx (nx gs 1) 1) 1) 1) 1 ((nx (nx (nx (nx gs 1) 1) 1) 1).1 1 + 1)) := RelC.nd rl328 (show (V322 1 2).toInt = ((go : Nat) : Int) from by omega) ajV339 (by decide) (Imp.go t338 (by omega))
                have hr343 : ∀ k, Rc gT (Crun gs (Imember :: k)) (Crun (sN (nx (nx (nx (nx gs 1) 1) 1) 1) 1 ((nx (nx (nx (nx gs 1) 1) 1) 1).1 1 + 1)) (Imember :: k)) := fun k => Rc.go1 (hr329 k) (m_addNeed)
                refine lv_iconst (v := 1) hx hb dX1_readNeed_148 (by decide) ?_
                have ps344 : gs.1 0 + 1 ≤ (nx gs 1).1 0 := ((keepS.n1 1)).1
                have ps345 : (nx gs 1).1 0 + 1 ≤ (nx (nx gs 1) 1).1 0 := ((keepS.n1 1)).1
                have ps346 : (nx (nx gs 1) 1).1 0 + 1 ≤ (nx (nx (nx gs 1) 1) 1).1 0 := ((keepS.n1 1)).1
                have ps347 : (nx (nx (nx gs 1) 1) 1).1 0 + 1 ≤ (nx (nx (nx (nx gs 1) 1) 1) 1).1 0 := ((keepS.n1 1)).1
                have ps348 : (sN (nx (nx (nx (nx gs 1) 1) 1) 1) 1 ((nx (nx (nx (nx gs 1) 1) 1) 1).1 1 + 1)).1 0 = (nx (nx (nx (nx gs 1) 1) 1) 1).1 0 := rfl
                exact W.zret (v := 1) hx hb hr rfl (fun t ht hW => ⟨⟨1, (V339, L323), rfl, ⟨hMV339, agV339, alL323, (by decide), (Or.inl ⟨rfl, (sN (nx (nx (nx (nx gs 1) 1) 1) 1) 1 ((nx (nx (nx (nx gs 1) 1) 1) 1).1 1 + 1)), hr343, rl342, (by omega)⟩)⟩, by rw [ht]; exact hP, va_K.moved hW.alike hK, hD⟩, hS.F ht⟩) hS.2.2 dX1_readNeed_149
              · skip
                have f349 : z317.toInt = 0 := b_eq rfl (by decide) c330
                exfalso; first | omega | ((try (have i_t320 := Imp.go t320 (by omega))); omega)
            · skip
              have hb350 : ∀ k, Rc gT (Crun gs (Imember :: k)) (Cbad (V322 1 3).toInt) := fun k => Rc.go1 (hr315 k) ((tk_n (fun h9 => h325 (rl311.tok.1.symm.trans (h9.trans (by decide))))).trans (fl_eq rl311.tok.2.2 k326))
              refine lv_if_ne (tgt := 138) hx hb dX1_readNeed_133 (by decide) (fun c351 => ?_) (fun c351 => ?_)
              · skip
                have f352 : z317.toInt ≠ 0 := b_neq rfl (by decide) c351
                exfalso; first | omega | ((try (have i_t320 := Imp.go t320 (by omega))); omega)
              · skip
                have f353 : z317.toInt = 0 := b_eq rfl (by decide) c351
                refine lv_iconst (v := 0) hx hb dX1_readNeed_136 (by decide) ?_
                exact W.zret (v := 0) hx hb hr rfl (fun t ht hW => ⟨⟨0, (V322, L323), rfl, ⟨hMV322, agV322, alL323, (by decide), (Or.inr ⟨rfl, hb350⟩)⟩, by rw [ht]; exact hP, va_K.moved hW.alike hK, hD⟩, hS.F ht⟩) hS.2.2 dX1_readNeed_137
          · skip
            have f354 : ((V307 6 9)).toInt = 133 := b_eq rfl (by decide) c312
            refine lv_aload_n hx hb dX1_readNeed_113 rfl (lv_at hl 3 rfl) ?_
            have kd355 : gT.1 ((nx (nx (nx gs 1) 1) 1).1 0) = ((V307 6 9)).toInt := RelC.kd rl311
            have hr356 : ∀ k, Rc gT (Crun gs (Imember :: k)) (Crun (nx (nx (nx (nx gs 1) 1) 1) 1) (Iword :: Itake 59 :: IaddNeed :: Imember :: k)) := fun k => Rc.go1 (hr296 k) (called_y  (kd355.trans f354))
            have pq357 : (V307 1 1).toInt = ((V 1 1)).toInt := congrArg Int32.toInt ((ajV307 1 1 rfl).trans ((ajV283 1 1 rfl).trans ((ajV273 1 1 rfl).trans (ajV18 1 1 rfl))))
            refine gA_int (gA_runV (As := []) (rest := []) (ci := 1) (q0 := 1) hx hb hml hown hg hP hD hK hS hA hnw hgk (x_takeCalled3 l D ks H.size ad kk V307 L308 Z (b) (gT) ((nx (nx (nx gs 1) 1) 1)) hMV307 (show b < 2 from by omega) (show (V307 1 1).toInt = (b : Int) from by omega) rl311 (show (V307 6 9).toInt = 133 from by omega)) w923 w925 w15 w162 w926 rfl xgReader hdV_yX1_takeCalled ⟨Nat.le_of_ble_eq_true rfl, Nat.le_of_ble_eq_true rfl⟩ rfl hl.1 rfl (Nat.le_of_ble_eq_true rfl) dX1_readNeed_114 ⟨Nat.le_of_ble_eq_true rfl, Nat.le_of_ble_eq_true rfl⟩) hP hD hK hS hA (fun z358 u359 H locs w360 hP hD hK hS => ?_)
            obtain ⟨V362, L363⟩ := u359
            obtain ⟨hMV362, ajV362, axL363, rgz358, t361⟩ := w360
            have alL363 : agL [6, 44] L L363 := agL.tr alL308 axL363 (by decide)
            have hP : va_P D vwCl (xw ad kk V362 L363 Z) H := hP
            have hD : va_D A (xw ad kk V362 L363 Z) := hD
            have hMV362 : rgd bX V362 := hMV362
            have ajV362 : agr [(1, 3), (1, 6), (6, 8), (6, 9), (6, 10)] [43, 44] V307 V362 := ajV362
            have agV362 : agr [(1, 3), (1, 6), (6, 8), (6, 9), (6, 10)] [43, 44, 49, 58, 59, 60] V V362 := agV307.tr ajV362 (by decide) (by decide)
            have rgz358 : 0 ≤ z358.toInt ∧ z358.toInt ≤ 1 := rgz358
            have t361 : KcS (mthW gT (nx (nx (nx (nx gs 1) 1) 1) 1) 4) z358.toInt (V362 1 3).toInt (fun x9 => RelC V362 L363 b gT x9.2 ∧ (V362 1 6).toInt = ((x9.1 : Nat) : Int) ∧ x9.1 < 20 ∧ keepS (nx (nx (nx gs 1) 1) 1) 2 x9.2) := t361
            rcases t361 with ⟨q364, mx365, h366, rl367, hf368, hb369, kp370⟩ | ⟨q364, h366⟩
            · skip
              have hr371 : ∀ k, Rc gT (Crun gs (Imember :: k)) (Crun mx365.2 (Itake 59 :: IaddNeed :: Imember :: k)) := fun k => Rc.go1 (hr356 k) (wo_y h366)
              refine lv_if_ne (tgt := 122) hx hb dX1_readNeed_117 (by decide) (fun c372 => ?_) (fun c372 => ?_)
              · skip
                have f373 : z358.toInt ≠ 0 := b_neq rfl (by decide) c372
                refine lv_aload_n hx hb dX1_readNeed_122 rfl (lv_at hl 3 rfl) ?_
                refine va_get (D := D) (ci := 1) (v := .int (V362 1 6)) (fs := (xfReader ad V362 L363 Z)) (C := RX1) (T := TX1) (N := 9) hx hb hg inX1 hown hK hP 1 xgReader rfl 6 (by decide) (hg _ w310) (fun _ h9 => h9) rfl dX1_readNeed_123 ?_
                have r374 : (-1) ≤ ((V362 1 6)).toInt ∧ ((V362 1 6)).toInt ≤ 23 := hMV362 1 6
                refine lv_istore_n (lv' := [(3, .int (V362 1 6)), (2, .int (V283 1 6)), (1, .int 1), (0, .ref (ad 1))]) hx hb dX1_readNeed_126 rfl hl (by decide) rfl (fun ls hl => ?_)
                refine lv_aload_n hx hb dX1_readNeed_127 rfl (lv_at hl 3 rfl) ?_
                refine lv_bipush (v := 59) hx hb dX1_readNeed_128 (by decide) ?_
                have r375 : Int32.toInt 59 = 59 := by decide
                refine gA_int (gA_runV (As := [.int 59]) (rest := []) (ci := 1) (q0 := 1) hx hb hml hown hg hP hD hK hS hA hnw hgk (x_take2 l D ks H.size ad kk V362 L363 Z 59 ((mx365.2.1 0)) hMV362 (rl367).1 (rl367).2.1.1 (show 1 ≤ (Int32.toInt 59) from by omega)) w893 w895 w10 w162 w896 rfl xgReader hdV_yX1_take ⟨Nat.le_of_ble_eq_true rfl, Nat.le_of_ble_eq_true rfl⟩ rfl hl.1 rfl (Nat.le_of_ble_eq_true rfl) dX1_readNeed_130 ⟨Nat.le_of_ble_eq_true rfl, Nat.le_of_ble_eq_true rfl⟩) hP hD hK hS hA (fun z376 u377 H locs w378 hP hD hK hS => ?_)
                obtain ⟨V381, L382⟩ := u377
                obtain ⟨hMV381, ajV381, axL382, rgz376, t379, t380⟩ := w378
                have alL382 : agL [6, 44] L L382 := agL.tr alL363 axL382 (by decide)
                have hP : va_P D vwCl (xw ad kk V381 L382 Z) H := hP
                have hD : va_D A (xw ad kk V381 L382 Z) := hD
                have hMV381 : rgd bX V381 := hMV381
                have ajV381 : agr [(1, 3), (6, 8), (6, 9), (6, 10)] [] V362 V381 := ajV381
                have agV381 : agr [(1, 3), (1, 6), (6, 8), (6, 9), (6, 10)] [43, 44, 49, 58, 59, 60] V V381 := agV362.tr ajV381 (by decide) (by decide)
                have rgz376 : 0 ≤ z376.toInt ∧ z376.toInt ≤ 1 := rgz376
                have t379 : Imp (z376.toInt = 0) (1 ≤ (V381 1 3).toInt) := t379
                have t380 : (z376.toInt = 1 ∧ (V362 12 (mx365.2.1 0)).toInt = (Int32.toInt 59) ∧ CUR V381 L382 ((mx365.2.1 0) + 1) ∧ V381 1 3 = V362 1 3) ∨ (z376.toInt = 0 ∧ (V362 12 (mx365.2.1 0)).toInt ≠ (Int32.toInt 59) ∧ (V381 1 3).toInt = 1 + 16 * (V362 13 (mx365.2.1 0)).toInt) := t380
                rcases t380 with ⟨q383, h384, k385, k386⟩ | ⟨q383, h384, k385⟩
                · skip
                  have rl387 : RelC V381 L382 b gT (nx mx365.2 1) := RelC.nx1 rl367 ajV381 (by decide) axL382 (by decide) k385 k386
                  have hr388 : ∀ k, Rc gT (Crun gs (Imember :: k)) (Crun (nx mx365.2 1) (IaddNeed :: Imember :: k)) := fun k => Rc.go1 (hr371 k) (tk_y (rl367.tok.1.trans (h384.trans (by decide))))
                  refine lv_if_ne (tgt := 138) hx hb dX1_readNeed_133 (by decide) (fun c389 => ?_) (fun c389 => ?_)
                  · skip
                    have f390 : z376.toInt ≠ 0 := b_neq rfl (by decide) c389
                    refine lv_aload_n hx hb dX1_readNeed_138 rfl (lv_at hl 3 rfl) ?_
                    refine va_get (D := D) (ci := 1) (v := rfN ad 72 (V381 1 2)) (fs := (xfReader ad V381 L382 Z)) (C := RX1) (T := TX1) (N := 9) hx hb hg inX1 hown hK hP 1 xgReader rfl 2 (by decide) (hg _ w306) (fun _ h9 => h9) rfl dX1_readNeed_139 ?_
                    have pq391 : (V381 1 2).toInt = ((V 1 2)).toInt := congrArg Int32.toInt ((ajV381 1 2 rfl).trans ((ajV362 1 2 rfl).trans ((ajV307 1 2 rfl).trans ((ajV283 1 2 rfl).trans ((ajV273 1 2 rfl).trans (ajV18 1 2 rfl))))))
                    refine g_topv (v := .ref (ad (72 + go))) (rfN_r (by first | omega | ((try (have i_t379 := Imp.go t379 (by omega))); omega))) ?_
                    refine lv_iload_n hx hb dX1_readNeed_142 rfl (lv_at hl 2 rfl) ?_
                    refine lv_iload_n hx hb dX1_readNeed_143 rfl (lv_at hl 1 rfl) ?_
                    refine lv_iload_n hx hb dX1_readNeed_144 rfl (lv_at hl 0 rfl) ?_
                    have r392 : Int32.toInt 1 = 1 := by decide
                    refine gA_void (gA_runV (As := [.int 1, .int (V283 1 6), .int (V362 1 6)]) (rest := []) (ci := 3) (q0 := (72 + go)) hx hb hml hown hg hP hD hK hS hA hnw hgk (x_addNeed3 l D ks H.size ad kk V381 L382 Z 1 (V283 1 6) (V362 1 6) (go) hMV381 (show go < 48 from by first | omega | ((try (have i_t379 := Imp.go t379 (by omega))); omega))) w1011 w1012 w1013 w169 w1014 rfl (xgComp hgo) hdV_yX3_addNeed ⟨Nat.le_of_ble_eq_true rfl, Nat.le_of_ble_eq_true rfl⟩ rfl hl.1 rfl (Nat.le_of_ble_eq_true rfl) dX1_readNeed_145 ⟨Nat.le_of_ble_eq_true rfl, Nat.le_of_ble_eq_true rfl⟩) hP hD hK hS hA (fun u394 H locs w395 hP hD hK hS => ?_)
                    obtain ⟨V397, L398⟩ := u394
                    obtain ⟨hMV397, ajV397, axL398, fyV397, t396⟩ := w395
                    have axL398 : L382 = L398 := Eq.symm axL398
                    subst axL398
                    have hP : va_P D vwCl (xw ad kk V397 L382 Z) H := hP
                    have hD : va_D A (xw ad kk V397 L382 Z) := hD
                    have hMV397 : rgd bX V397 := hMV397
                    have ajV397 : agr [] [49, 58, 59, 60] V381 V397 := ajV397
                    have agV397 : agr [(1, 3), (1, 6), (6, 8), (6, 9), (6, 10)] [43, 44, 49, 58, 59, 60] V V397 := agV381.tr ajV397 (by decide) (by decide)
                    have t396 : Imp ((V381 49 go).toInt < 8) ((V397 49 go).toInt = (V381 49 go).toInt + 1) := t396
                    have pq399 : (V381 49 go).toInt = ((V 49 go)).toInt := congrArg Int32.toInt ((ajV381 49 go rfl).trans ((ajV362 49 go rfl).trans ((ajV307 49 go rfl).trans ((ajV283 49 go rfl).trans ((ajV273 49 go rfl).trans (ajV18 49 go rfl))))))
                    have rl400 : RelC V397 L382 b gT (sN (nx mx365.2 1) 1 ((nx mx365.2 1).1 1 + 1)) := RelC.nd rl387 (show (V381 1 2).toInt = ((go : Nat) : Int) from by omega) ajV397 (by decide) (Imp.go t396 (by omega))
                    have hr401 : ∀ k, Rc gT (Crun gs (Imember :: k)) (Crun (sN (nx mx365.2 1) 1 ((nx mx365.2 1).1 1 + 1)) (Imember :: k)) := fun k => Rc.go1 (hr388 k) (m_addNeed)
                    refine lv_iconst (v := 1) hx hb dX1_readNeed_148 (by decide) ?_
                    have ps402 : gs.1 0 + 1 ≤ (nx gs 1).1 0 := ((keepS.n1 1)).1
                    have ps403 : (nx gs 1).1 0 + 1 ≤ (nx (nx gs 1) 1).1 0 := ((keepS.n1 1)).1
                    have ps404 : (nx (nx gs 1) 1).1 0 + 1 ≤ (nx (nx (nx gs 1) 1) 1).1 0 := ((keepS.n1 1)).1
                    have ps405 : (nx (nx (nx gs 1) 1) 1).1 0 + 2 ≤ mx365.2.1 0 := (kp370).1
                    have ps406 : mx365.2.1 0 + 1 ≤ (nx mx365.2 1).1 0 := ((keepS.n1 1)).1
                    have ps407 : (sN (nx mx365.2 1) 1 ((nx mx365.2 1).1 1 + 1)).1 0 = (nx mx365.2 1).1 0 := rfl
                    exact W.zret (v := 1) hx hb hr rfl (fun t ht hW => ⟨⟨1, (V397, L382), rfl, ⟨hMV397, agV397, alL382, (by decide), (Or.inl ⟨rfl, (sN (nx mx365.2 1) 1 ((nx mx365.2 1).1 1 + 1)), hr401, rl400, (by omega)⟩)⟩, by rw [ht]; exact hP, va_K.moved hW.alike hK, hD⟩, hS.F ht⟩) hS.2.2 dX1_readNeed_149
                  · skip
                    have f408 : z376.toInt = 0 := b_eq rfl (by decide) c389
                    exfalso; first | omega | ((try (have i_t379 := Imp.go t379 (by omega))); omega)
                · skip
                  have hb409 : ∀ k, Rc gT (Crun gs (Imember :: k)) (Cbad (V381 1 3).toInt) := fun k => Rc.go1 (hr371 k) ((tk_n (fun h9 => h384 (rl367.tok.1.symm.trans (h9.trans (by decide))))).trans (fl_eq rl367.tok.2.2 k385))
                  refine lv_if_ne (tgt := 138) hx hb dX1_readNeed_133 (by decide) (fun c410 => ?_) (fun c410 => ?_)
                  · skip
                    have f411 : z376.toInt ≠ 0 := b_neq rfl (by decide) c410
                    exfalso; first | omega | ((try (have i_t379 := Imp.go t379 (by omega))); omega)
                  · skip
                    have f412 : z376.toInt = 0 := b_eq rfl (by decide) c410
                    refine lv_iconst (v := 0) hx hb dX1_readNeed_136 (by decide) ?_
                    exact W.zret (v := 0) hx hb hr rfl (fun t ht hW => ⟨⟨0, (V381, L382), rfl, ⟨hMV381, agV381, alL382, (by decide), (Or.inr ⟨rfl, hb409⟩)⟩, by rw [ht]; exact hP, va_K.moved hW.alike hK, hD⟩, hS.F ht⟩) hS.2.2 dX1_readNeed_137
              · skip
                have f413 : z358.toInt = 0 := b_eq rfl (by decide) c372
                exfalso; omega
            · skip
              have hb414 : ∀ k, Rc gT (Crun gs (Imember :: k)) (Cbad (V362 1 3).toInt) := fun k => Rc.go1 (hr356 k) (wo_b h366)
              refine lv_if_ne (tgt := 122) hx hb dX1_readNeed_117 (by decide) (fun c415 => ?_) (fun c415 => ?_)
              · skip
                have f416 : z358.toInt ≠ 0 := b_neq rfl (by decide) c415
                exfalso; omega
              · skip
                have f417 : z358.toInt = 0 := b_eq rfl (by decide) c415
                refine lv_iconst (v := 0) hx hb dX1_readNeed_120 (by decide) ?_
                exact W.zret (v := 0) hx hb hr rfl (fun t ht hW => ⟨⟨0, (V362, L363), rfl, ⟨hMV362, agV362, alL363, (by decide), (Or.inr ⟨rfl, hb414⟩)⟩, by rw [ht]; exact hP, va_K.moved hW.alike hK, hD⟩, hS.F ht⟩) hS.2.2 dX1_readNeed_121
        · skip
          have f418 : z279.toInt = 0 := b_eq rfl (by decide) c293
          exfalso; omega
      · skip
        have hb419 : ∀ k, Rc gT (Crun gs (Imember :: k)) (Cbad (V283 1 3).toInt) := fun k => Rc.go1 (hr265 k) (nd_b h287)
        refine lv_if_ne (tgt := 81) hx hb dX1_readNeed_76 (by decide) (fun c420 => ?_) (fun c420 => ?_)
        · skip
          have f421 : z279.toInt ≠ 0 := b_neq rfl (by decide) c420
          exfalso; omega
        · skip
          have f422 : z279.toInt = 0 := b_eq rfl (by decide) c420
          refine lv_iconst (v := 0) hx hb dX1_readNeed_79 (by decide) ?_
          exact W.zret (v := 0) hx hb hr rfl (fun t ht hW => ⟨⟨0, (V283, L274), rfl, ⟨hMV283, agV283, alL274, (by decide), (Or.inr ⟨rfl, hb419⟩)⟩, by rw [ht]; exact hP, va_K.moved hW.alike hK, hD⟩, hS.F ht⟩) hS.2.2 dX1_readNeed_80
  · skip
    have f423 : 8 ≤ ((V 49 go)).toInt := b_nlt rfl (by decide) c4
    refine lv_aload_n hx hb dX1_readNeed_12 rfl (lv_at hl 0 rfl) ?_
    refine lv_iconst (v := 5) hx hb dX1_readNeed_13 (by decide) ?_
    have kd424 : gT.1 (gs.1 0) = ((V 6 9)).toInt := RelC.kd rel
    have r425 : Int32.toInt 5 = 5 := by decide
    refine gA_int (gA_runV (As := [.int 5]) (rest := []) (ci := 1) (q0 := 1) hx hb hml hown hg hP hD hK hS hA hnw hgk (x_wrong2 l D ks H.size ad kk V L Z 5 hMV (by decide)) w867 w869 w6 w162 w870 rfl xgReader hdV_yX1_wrong ⟨Nat.le_of_ble_eq_true rfl, Nat.le_of_ble_eq_true rfl⟩ rfl hl.1 rfl (Nat.le_of_ble_eq_true rfl) dX1_readNeed_14 ⟨Nat.le_of_ble_eq_true rfl, Nat.le_of_ble_eq_true rfl⟩) hP hD hK hS hA (fun z426 u427 H locs w428 hP hD hK hS => ?_)
    obtain ⟨V431, L432⟩ := u427
    obtain ⟨hMV431, ajV431, axL432, rgz426, t429, t430⟩ := w428
    have axL432 : L = L432 := Eq.symm axL432
    subst axL432
    have hP : va_P D vwCl (xw ad kk V431 L Z) H := hP
    have hD : va_D A (xw ad kk V431 L Z) := hD
    have hMV431 : rgd bX V431 := hMV431
    have ajV431 : agr [(1, 3)] [] V V431 := ajV431
    have agV431 : agr [(1, 3), (1, 6), (6, 8), (6, 9), (6, 10)] [43, 44, 49, 58, 59, 60] V V431 := agV.tr ajV431 (by decide) (by decide)
    have rgz426 : 0 ≤ z426.toInt ∧ z426.toInt ≤ 0 := rgz426
    have t429 : 1 ≤ (V431 1 3).toInt := t429
    have t430 : (V431 1 3).toInt = (Int32.toInt 5) + 16 * (V 6 10).toInt := t430
    have r433 : 0 ≤ ((V 6 10)).toInt ∧ ((V 6 10)).toInt ≤ 4000 := hMV 6 10
    have hr434 : ∀ k, Rc gT (Crun gs (Imember :: k)) (Crun gs (Imember :: k)) := fun k => Rc.rf
    have hb435 : ∀ k, Rc gT (Crun gs (Imember :: k)) (Cbad (V431 1 3).toInt) := fun k => Rc.go1 (hr434 k) ((mb_137f (kd424.trans kd9) (by have h9 := ow0.1; omega)).trans (fl_eq (RelC.st rel) (show (V431 1 3).toInt = 5 + 16 * (V 6 10).toInt from by omega)))
    exact W.zret (v := z426) hx hb hr (nb_ok (by omega)) (fun t ht hW => ⟨⟨z426, (V431, L), rfl, ⟨hMV431, agV431, alL, (show 0 ≤ z426.toInt ∧ z426.toInt ≤ 1 from by omega), (Or.inr ⟨(by omega), hb435⟩)⟩, by rw [ht]; exact hP, va_K.moved hW.alike hK, hD⟩, hS.F ht⟩) hS.2.2 dX1_readNeed_17
abbrev r_x_readMethod3 : Room := { frames := 91, cells := 0, slots := 0, locals := 2683 }
abbrev q_x_readMethod3 (D : va_G) (ks : KS) (ad : Nat → Nat) (kk : Nat → ClassId) (V : Vf) (L : Lf) (Z : XZ) (b : Nat) (gT : Tk) (gs : St) (go : Nat) (A : Nat → Prop) : Array Value → State → Outcome → State → Prop := va_Qi (fun (r : Int32) (u : Vf × Lf) => rgd bX u.1 ∧ agr [(1, 3), (1, 4), (1, 6), (1, 8), (6, 8), (6, 9), (6, 10)] [42, 43, 44, 48, 61] V u.1 ∧ agL [6, 44] L u.2 ∧ (0 ≤ r.toInt ∧ r.toInt ≤ 1) ∧ (Rd gT gs (fun k => Imember :: k) (fun k => Imember :: k) r.toInt (u.1 1 3).toInt (fun s9 => RelC u.1 u.2 b gT s9 ∧ gs.1 0 + 1 ≤ s9.1 0))) (fun u t => gq D A (xw ad kk u.1 u.2 Z) (xty kk Z) t) A
set_option maxHeartbeats 4000000 in
set_option maxRecDepth 100000 in
theorem x_readMethod3 (l : Launch) (D : va_G) (ks : KS) (sz : Nat) (ad : Nat → Nat) (kk : Nat → ClassId) (V : Vf) (L : Lf) (Z : XZ) (b : Nat) (gT : Tk) (gs : St) (go : Nat) (hMV : rgd bX V) (hb2 : b < 2) (rbk : (V 1 1).toInt = (b : Int)) (own : (V 1 2).toInt = (go : Int)) (hgo : go < 48) (hgl : 24 * b ≤ go) (hgh : go < 24 * b + 24) (rel : RelC V L b gT gs) (kd9 : (V 6 9).toInt = 142)  : Met l yX1_readMethod (Cond.code yX1_readMethod cX1_readMethod 2 (some .boolean) :: GW) r_x_readMethod3 (va_Pc [.ref (ad 1)] (gp D ks (xw ad kk V L Z) (xty kk Z) sz)) (q_x_readMethod3 D ks ad kk V L Z  b gT gs go (va_A (xw ad kk V L Z) sz)) 0 0 (va_A (xw ad kk V L Z) sz) := by
  refine g_met (q_x_readMethod3 D ks ad kk V L Z  b gT gs go) (by decide) (Nat.le_of_ble_eq_true rfl) ?_
  intro p e s m below meth c A ls H locs hx hb hr hml hown hg hlocks hin hnw hgk hP hK hD hS hA hl
  have hown : s.vm.findClass RX1 = some m.cls := hown
  have hl : lv_has ls 2 [(0, .ref (ad 1))] := hl
  have hP : va_P D vwCl (xw ad kk V L Z) H := hP
  have hD : va_D A (xw ad kk V L Z) := hD
  have hK : va_K D vwCl (xty kk Z) s := hK
  have agV : agr [(1, 3), (1, 4), (1, 6), (1, 8), (6, 8), (6, 9), (6, 10)] [42, 43, 44, 48, 61] V V := agr.rf
  have alL : agL [6, 44] L L := agL.rf
  have r1 : (-1) ≤ ((V 1 1)).toInt ∧ ((V 1 1)).toInt ≤ 1 := hMV 1 1
  have r2 : (-1) ≤ ((V 1 2)).toInt ∧ ((V 1 2)).toInt ≤ 47 := hMV 1 2
  refine lv_aload_n hx hb dX1_readMethod_0 rfl (lv_at hl 0 rfl) ?_
  refine va_get (D := D) (ci := 1) (v := rfN ad 38 (V 1 1)) (fs := (xfReader ad V L Z)) (C := RX1) (T := TX1) (N := 9) hx hb hg inX1 hown hK hP 1 xgReader rfl 1 (by decide) (hg _ w305) (fun _ h9 => h9) rfl dX1_readMethod_1 ?_
  refine g_topv (v := .ref (ad (38 + b))) (rfN_r (by omega)) ?_
  refine va_getN (D := D) (ci := 0) (v := .int (V 42 b)) (fs := (xfBook ad V b)) (C := RX0) (T := TX0) (N := 13) hx hb hg inX0 hown hK hP (38 + b) (xgBook hb2) rfl 12 (by decide) (hnw.use 630 n630 rfl) (fun _ h9 => h9) rfl dX1_readMethod_4 ?_
  have r3 : 0 ≤ ((V 42 b)).toInt ∧ ((V 42 b)).toInt ≤ 8200 := hMV 42 b
  refine lv_istore_n (lv' := [(1, .int (V 42 b)), (0, .ref (ad 1))]) hx hb dX1_readMethod_7 rfl hl (by decide) rfl (fun ls hl => ?_)
  refine lv_aload_n hx hb dX1_readMethod_8 rfl (lv_at hl 1 rfl) ?_
  refine va_get (D := D) (ci := 1) (v := .ref (ad 6)) (fs := (xfReader ad V L Z)) (C := RX1) (T := TX1) (N := 9) hx hb hg inX1 hown hK hP 1 xgReader rfl 0 (by decide) (hg _ w304) (fun _ h9 => h9) rfl dX1_readMethod_9 ?_
  have hr4 : ∀ k, Rc gT (Crun gs (Imember :: k)) (Crun gs (Imember :: k)) := fun k => Rc.rf
  have kd5 : gT.1 (gs.1 0) = ((V 6 9)).toInt := RelC.kd rel
  have hr6 : ∀ k, Rc gT (Crun gs (Imember :: k)) (Crun (nx gs 1) (ImethN :: Iexpr 0 :: Itake 59 :: Imember :: k)) := fun k => Rc.go1 (hr4 k) (mb_142 (kd5.trans kd9))
  have l87 := RelC.l8 rel
  have r8 : 0 ≤ ((V 6 8)).toInt ∧ ((V 6 8)).toInt ≤ 4000 := hMV 6 8
  have r9 : 0 ≤ ((V 6 7)).toInt ∧ ((V 6 7)).toInt ≤ 4000 := hMV 6 7
  have lk10 := RelC.lk rel (show (V 6 9).toInt ≠ 0 from by omega)
  refine gA_void (gA_runV (As := []) (rest := []) (ci := 9) (q0 := 6) hx hb hml hown hg hP hD hK hS hA hnw hgk (x_next2 l D ks H.size ad kk V L Z  hMV (show (V 6 8).toInt ≤ (V 6 7).toInt from by omega)) w871 w852 w853 w157 w854 rfl xgTape hdV_yX9_next ⟨Nat.le_of_ble_eq_true rfl, Nat.le_of_ble_eq_true rfl⟩ rfl hl.1 rfl (Nat.le_of_ble_eq_true rfl) dX1_readMethod_12 ⟨Nat.le_of_ble_eq_true rfl, Nat.le_of_ble_eq_true rfl⟩) hP hD hK hS hA (fun u12 H locs w13 hP hD hK hS => ?_)
  obtain ⟨V16, L17⟩ := u12
  obtain ⟨hMV16, ajV16, axL17, t14, t15⟩ := w13
  have alL17 : agL [6, 44] L L17 := agL.tr alL axL17 (by decide)
  have hP : va_P D vwCl (xw ad kk V16 L17 Z) H := hP
  have hD : va_D A (xw ad kk V16 L17 Z) := hD
  have hMV16 : rgd bX V16 := hMV16
  have ajV16 : agr [(6, 8), (6, 9), (6, 10)] [] V V16 := ajV16
  have agV16 : agr [(1, 3), (1, 4), (1, 6), (1, 8), (6, 8), (6, 9), (6, 10)] [42, 43, 44, 48, 61] V V16 := agV.tr ajV16 (by decide) (by decide)
  have t14 : (V16 6 8).toInt ≤ (V16 6 7).toInt := t14
  have t15 : CUR V16 L17 (Int32.toNatClampNeg (V 6 8)) := t15
  have r18 : 0 ≤ ((V16 6 8)).toInt ∧ ((V16 6 8)).toInt ≤ 4000 := hMV16 6 8
  have pq19 : (V16 6 7).toInt = ((V 6 7)).toInt := congrArg Int32.toInt (ajV16 6 7 rfl)
  have rl20 : RelC V16 L17 b gT (nx gs 1) := RelC.nx1 rel ajV16 (by decide) axL17 (by decide) (by rw [← lk10]; exact t15) (ajV16 1 3 rfl)
  refine lv_aload_n hx hb dX1_readMethod_15 rfl (lv_at hl 1 rfl) ?_
  refine lv_aload_n hx hb dX1_readMethod_16 rfl (lv_at hl 1 rfl) ?_
  refine va_get (D := D) (ci := 1) (v := rfN ad 72 (V16 1 2)) (fs := (xfReader ad V16 L17 Z)) (C := RX1) (T := TX1) (N := 9) hx hb hg inX1 hown hK hP 1 xgReader rfl 2 (by decide) (hg _ w306) (fun _ h9 => h9) rfl dX1_readMethod_17 ?_
  have pq21 : (V16 1 2).toInt = ((V 1 2)).toInt := congrArg Int32.toInt (ajV16 1 2 rfl)
  refine g_topv (v := .ref (ad (72 + go))) (rfN_r (by omega)) ?_
  have pq22 : (V16 1 1).toInt = ((V 1 1)).toInt := congrArg Int32.toInt (ajV16 1 1 rfl)
  refine gA_int (gA_runV (As := [.ref (ad (72 + go))]) (rest := []) (ci := 1) (q0 := 1) hx hb hml hown hg hP hD hK hS hA hnw hgk (x_takeMethodO3 l D ks H.size ad kk V16 L17 Z (b) (gT) ((nx gs 1)) (go) hMV16 (show b < 2 from by omega) (show (V16 1 1).toInt = (b : Int) from by omega) (show (V16 1 2).toInt = (go : Int) from by omega) (show go < 48 from by omega) (show 24 * b ≤ go from by omega) (show go < 24 * b + 24 from by omega) rl20) w939 w941 w19 w162 w942 rfl xgReader hdV_yX1_takeMethod ⟨Nat.le_of_ble_eq_true rfl, Nat.le_of_ble_eq_true rfl⟩ rfl hl.1 rfl (Nat.le_of_ble_eq_true rfl) dX1_readMethod_20 ⟨Nat.le_of_ble_eq_true rfl, Nat.le_of_ble_eq_true rfl⟩) hP hD hK hS hA (fun z23 u24 H locs w25 hP hD hK hS => ?_)
  obtain ⟨V27, L28⟩ := u24
  obtain ⟨hMV27, ajV27, axL28, rgz23, t26⟩ := w25
  have alL28 : agL [6, 44] L L28 := agL.tr alL17 axL28 (by decide)
  have hP : va_P D vwCl (xw ad kk V27 L28 Z) H := hP
  have hD : va_D A (xw ad kk V27 L28 Z) := hD
  have hMV27 : rgd bX V27 := hMV27
  have ajV27 : agr [(1, 3), (1, 6), (6, 8), (6, 9), (6, 10)] [43, 44] V16 V27 := ajV27
  have agV27 : agr [(1, 3), (1, 4), (1, 6), (1, 8), (6, 8), (6, 9), (6, 10)] [42, 43, 44, 48, 61] V V27 := agV16.tr ajV27 (by decide) (by decide)
  have rgz23 : 0 ≤ z23.toInt ∧ z23.toInt ≤ 1 := rgz23
  have t26 : KcS (mthN gT (nx gs 1)) z23.toInt (V27 1 3).toInt (fun x9 => RelC V27 L28 b gT x9.2 ∧ (V27 1 6).toInt = ((x9.1 : Nat) : Int) ∧ x9.1 < 20 ∧ keepS (nx gs 1) 1 x9.2) := t26
  rcases t26 with ⟨q29, mx30, h31, rl32, hf33, hb34, kp35⟩ | ⟨q29, h31⟩
  · skip
    have hr36 : ∀ k, Rc gT (Crun gs (Imember :: k)) (Crun (sT mx30.2 (mx30.1 :: (nx gs 1).2.2.2)) (Iexpr 0 :: Itake 59 :: Imember :: k)) := fun k => Rc.go1 (hr6 k) (mn_y h31)
    refine lv_if_ne (tgt := 28) hx hb dX1_readMethod_23 (by decide) (fun c37 => ?_) (fun c37 => ?_)
    · skip
      have f38 : z23.toInt ≠ 0 := b_neq rfl (by decide) c37
      refine lv_aload_n hx hb dX1_readMethod_28 rfl (lv_at hl 1 rfl) ?_
      refine va_get (D := D) (ci := 1) (v := rfN ad 72 (V27 1 2)) (fs := (xfReader ad V27 L28 Z)) (C := RX1) (T := TX1) (N := 9) hx hb hg inX1 hown hK hP 1 xgReader rfl 2 (by decide) (hg _ w306) (fun _ h9 => h9) rfl dX1_readMethod_29 ?_
      have pq39 : (V27 1 2).toInt = ((V 1 2)).toInt := congrArg Int32.toInt ((ajV27 1 2 rfl).trans (ajV16 1 2 rfl))
      refine g_topv (v := .ref (ad (72 + go))) (rfN_r (by omega)) ?_
      refine va_getN (D := D) (ci := 3) (v := .ref (ad (264 + go))) (fs := (xfComp ad V27 go)) (C := RX3) (T := TX3) (N := 13) hx hb hg inX3 hown hK hP (72 + go) (xgComp hgo) rfl 3 (by decide) (hnw.use 508 n508 rfl) (fun _ h9 => h9) rfl dX1_readMethod_32 ?_
      refine lv_aload_n hx hb dX1_readMethod_35 rfl (lv_at hl 1 rfl) ?_
      refine va_get (D := D) (ci := 1) (v := .int (V27 1 6)) (fs := (xfReader ad V27 L28 Z)) (C := RX1) (T := TX1) (N := 9) hx hb hg inX1 hown hK hP 1 xgReader rfl 6 (by decide) (hg _ w310) (fun _ h9 => h9) rfl dX1_readMethod_36 ?_
      have r40 : (-1) ≤ ((V27 1 6)).toInt ∧ ((V27 1 6)).toInt ≤ 23 := hMV27 1 6
      refine lv_iload_n hx hb dX1_readMethod_39 rfl (lv_at hl 0 rfl) ?_
      refine va_iast (D := D) (i := (V27 1 6)) (x := (V 42 b)) hx hb hK hP hD hS (264 + go) (257 + go) (xgmethodStarts hgo) (xtmethodStarts hgo) (i_in (a := ((V27 1 6)).toInt) rfl (by omega)) dX1_readMethod_40 (fun H locs hP hD hS => ?_)
      have kc41 := i_clamp (x := (V27 1 6)) rfl (by omega)
      have kl42 : (Int32.toNatClampNeg (V27 1 6)) < 20 := by omega
      obtain ⟨V43, hV43⟩ : ∃ z, z = up2 V27 61 (20 * go + (Int32.toNatClampNeg (V27 1 6))) (V 42 b) := ⟨_, rfl⟩
      have ew44 : (xw ad kk V27 L28 Z).set (264 + go) ((ad (264 + go)), .inl ((kk (264 + go)), 20, .inl (upd (fun q => if q < 20 then V27 61 (20 * go + q) else 0) (Int32.toNatClampNeg (V27 1 6)) (V 42 b)))) = xw ad kk V43 L28 Z := by rw [hV43]; exact xpmethodStarts hgo kl42
      have hP : va_P D vwCl (xw ad kk V43 L28 Z) H := by rw [← ew44]; exact hP
      have hD : va_D A (xw ad kk V43 L28 Z) := by rw [← ew44]; exact hD
      have hMV43 : rgd bX V43 := hMV27.put hV43 (show (-1) ≤ ((V 42 b)).toInt ∧ ((V 42 b)).toInt ≤ 8200 from by omega)
      have agV43 : agr [(1, 3), (1, 4), (1, 6), (1, 8), (6, 8), (6, 9), (6, 10)] [42, 43, 44, 48, 61] V V43 := agV27.up hV43 rfl
      have kc46 : (20 * go + (Int32.toNatClampNeg (V27 1 6))) = 20 * go + mx30.1 := by omega
      have h61 := hV43
      rw [kc46] at h61
      have rl45 : RelC V43 L28 b gT (sT mx30.2 (mx30.1 :: (nx gs 1).2.2.2)) := RelC.mt rl32 (show (V27 1 2).toInt = ((go : Nat) : Int) from by omega) h61 (show ((V 42 b)).toInt ≠ -1 from by omega) (congrArg (fun q9 => q9.2) (kp35).2.2.2).symm
      refine lv_aload_n hx hb dX1_readMethod_41 rfl (lv_at hl 1 rfl) ?_
      refine lv_iconst (v := 0) hx hb dX1_readMethod_42 (by decide) ?_
      have pq48 : (V43 1 2).toInt = ((V 1 2)).toInt := congrArg Int32.toInt ((up2_o hV43 (by decide)).trans ((ajV27 1 2 rfl).trans (ajV16 1 2 rfl)))
      have w447 := (RelC.ow rl45 (show (V43 1 2).toInt = ((go : Nat) : Int) from by omega)).2.2.2.1
      have r49 : Int32.toInt 0 = 0 := by decide
      have pq50 : (V43 1 1).toInt = ((V 1 1)).toInt := congrArg Int32.toInt ((up2_o hV43 (by decide)).trans ((ajV27 1 1 rfl).trans (ajV16 1 1 rfl)))
      refine gA_int (gA_runV (As := [.int 0]) (rest := []) (ci := 1) (q0 := 1) hx hb hml hown hg hP hD hK hS hA hnw hgk (x_readE3 l D ks H.size ad kk V43 L28 Z 0 (b) (gT) ((sT mx30.2 (mx30.1 :: (nx gs 1).2.2.2))) hMV43 (by decide) (show b < 2 from by omega) (show (V43 1 1).toInt = (b : Int) from by omega) rl45 (show (Int32.toInt 0) = (((sT mx30.2 (mx30.1 :: (nx gs 1).2.2.2)).1 4 : Nat) : Int) from by omega) (fun _ => (show 0 ≤ (V43 1 2).toInt from by omega))) w947 w949 w20 w162 w950 rfl xgReader hdV_yX1_readE ⟨Nat.le_of_ble_eq_true rfl, Nat.le_of_ble_eq_true rfl⟩ rfl hl.1 rfl (Nat.le_of_ble_eq_true rfl) dX1_readMethod_43 ⟨Nat.le_of_ble_eq_true rfl, Nat.le_of_ble_eq_true rfl⟩) hP hD hK hS hA (fun z51 u52 H locs w53 hP hD hK hS => ?_)
      obtain ⟨V55, L56⟩ := u52
      obtain ⟨hMV55, ajV55, axL56, rgz51, t54⟩ := w53
      have alL56 : agL [6, 44] L L56 := agL.tr alL28 axL56 (by decide)
      have hP : va_P D vwCl (xw ad kk V55 L56 Z) H := hP
      have hD : va_D A (xw ad kk V55 L56 Z) := hD
      have hMV55 : rgd bX V55 := hMV55
      have ajV55 : agr [(1, 3), (1, 4), (1, 6), (1, 8), (6, 8), (6, 9), (6, 10)] [42, 43, 44, 48] V43 V55 := ajV55
      have agV55 : agr [(1, 3), (1, 4), (1, 6), (1, 8), (6, 8), (6, 9), (6, 10)] [42, 43, 44, 48, 61] V V55 := agV43.tr ajV55 (by decide) (by decide)
      have rgz51 : 0 ≤ z51.toInt ∧ z51.toInt ≤ 1 := rgz51
      have t54 : Rd gT (sT mx30.2 (mx30.1 :: (nx gs 1).2.2.2)) (fun k => Iexpr 0 :: Itake 59 :: k) (fun k => k) z51.toInt (V55 1 3).toInt (fun s9 => RelC V55 L56 b gT s9 ∧ keepS (sT mx30.2 (mx30.1 :: (nx gs 1).2.2.2)) 2 s9) := t54
      rcases t54 with ⟨q57, sx58, h59, rl60, kp61⟩ | ⟨q57, h59⟩
      · skip
        have hr62 : ∀ k, Rc gT (Crun gs (Imember :: k)) (Crun sx58 (Imember :: k)) := fun k => (hr36 k).tr (h59 (Imember :: k))
        have ps63 : gs.1 0 + 1 ≤ (nx gs 1).1 0 := ((keepS.n1 1)).1
        have ps64 : (nx gs 1).1 0 + 1 ≤ mx30.2.1 0 := (kp35).1
        have ps65 : (sT mx30.2 (mx30.1 :: (nx gs 1).2.2.2)).1 0 = mx30.2.1 0 := rfl
        have ps66 : (sT mx30.2 (mx30.1 :: (nx gs 1).2.2.2)).1 0 + 2 ≤ sx58.1 0 := (kp61).1
        exact W.zret (v := z51) hx hb hr (nb_ok (by omega)) (fun t ht hW => ⟨⟨z51, (V55, L56), rfl, ⟨hMV55, agV55, alL56, (show 0 ≤ z51.toInt ∧ z51.toInt ≤ 1 from by omega), (Or.inl ⟨(by omega), sx58, hr62, rl60, (by omega)⟩)⟩, by rw [ht]; exact hP, va_K.moved hW.alike hK, hD⟩, hS.F ht⟩) hS.2.2 dX1_readMethod_46
      · skip
        have hb67 : ∀ k, Rc gT (Crun gs (Imember :: k)) (Cbad (V55 1 3).toInt) := fun k => (hr36 k).tr (h59 (Imember :: k))
        exact W.zret (v := z51) hx hb hr (nb_ok (by omega)) (fun t ht hW => ⟨⟨z51, (V55, L56), rfl, ⟨hMV55, agV55, alL56, (show 0 ≤ z51.toInt ∧ z51.toInt ≤ 1 from by omega), (Or.inr ⟨(by omega), hb67⟩)⟩, by rw [ht]; exact hP, va_K.moved hW.alike hK, hD⟩, hS.F ht⟩) hS.2.2 dX1_readMethod_46
    · skip
      have f68 : z23.toInt = 0 := b_eq rfl (by decide) c37
      exfalso; omega
  · skip
    have hb69 : ∀ k, Rc gT (Crun gs (Imember :: k)) (Cbad (V27 1 3).toInt) := fun k => Rc.go1 (hr6 k) (mn_b h31)
    refine lv_if_ne (tgt := 28) hx hb dX1_readMethod_23 (by decide) (fun c70 => ?_) (fun c70 => ?_)
    · skip
      have f71 : z23.toInt ≠ 0 := b_neq rfl (by decide) c70
      exfalso; omega
    · skip
      have f72 : z23.toInt = 0 := b_eq rfl (by decide) c70
      refine lv_iconst (v := 0) hx hb dX1_readMethod_26 (by decide) ?_
      exact W.zret (v := 0) hx hb hr rfl (fun t ht hW => ⟨⟨0, (V27, L28), rfl, ⟨hMV27, agV27, alL28, (by decide), (Or.inr ⟨rfl, hb69⟩)⟩, by rw [ht]; exact hP, va_K.moved hW.alike hK, hD⟩, hS.F ht⟩) hS.2.2 dX1_readMethod_27
abbrev r_x_readMember3 : Room := { frames := 92, cells := 0, slots := 0, locals := 2704 }
abbrev q_x_readMember3 (D : va_G) (ks : KS) (ad : Nat → Nat) (kk : Nat → ClassId) (V : Vf) (L : Lf) (Z : XZ) (b : Nat) (gT : Tk) (gs : St) (go : Nat) (A : Nat → Prop) : Array Value → State → Outcome → State → Prop := va_Qi (fun (r : Int32) (u : Vf × Lf) => rgd bX u.1 ∧ agr [(1, 2), (1, 3), (1, 4), (1, 6), (1, 8), (6, 8), (6, 9), (6, 10)] [42, 43, 44, 48, 49, 56, 57, 58, 59, 60, 61] V u.1 ∧ agL [6, 44] L u.2 ∧ (0 ≤ r.toInt ∧ r.toInt ≤ 1) ∧ ((u.1 1 2).toInt = (V 1 2).toInt ∨ (u.1 1 2).toInt = -1) ∧ (Rd gT gs (fun k => Imember :: k) (fun k => nxI (u.1 1 2) k) r.toInt (u.1 1 3).toInt (fun s9 => RelC u.1 u.2 b gT s9 ∧ gs.1 0 + 1 ≤ s9.1 0))) (fun u t => gq D A (xw ad kk u.1 u.2 Z) (xty kk Z) t) A
set_option maxHeartbeats 4000000 in
set_option maxRecDepth 100000 in
theorem x_readMember3 (l : Launch) (D : va_G) (ks : KS) (sz : Nat) (ad : Nat → Nat) (kk : Nat → ClassId) (V : Vf) (L : Lf) (Z : XZ) (b : Nat) (gT : Tk) (gs : St) (go : Nat) (hMV : rgd bX V) (hb2 : b < 2) (rbk : (V 1 1).toInt = (b : Int)) (own : (V 1 2).toInt = (go : Int)) (hgo : go < 48) (hgl : 24 * b ≤ go) (hgh : go < 24 * b + 24) (rel : RelC V L b gT gs)  : Met l yX1_readMember (Cond.code yX1_readMember cX1_readMember 2 (some .boolean) :: GW) r_x_readMember3 (va_Pc [.ref (ad 1)] (gp D ks (xw ad kk V L Z) (xty kk Z) sz)) (q_x_readMember3 D ks ad kk V L Z  b gT gs go (va_A (xw ad kk V L Z) sz)) 0 0 (va_A (xw ad kk V L Z) sz) := by
  refine g_met (q_x_readMember3 D ks ad kk V L Z  b gT gs go) (by decide) (Nat.le_of_ble_eq_true rfl) ?_
  intro p e s m below meth c A ls H locs hx hb hr hml hown hg hlocks hin hnw hgk hP hK hD hS hA hl
  have hown : s.vm.findClass RX1 = some m.cls := hown
  have hl : lv_has ls 2 [(0, .ref (ad 1))] := hl
  have hP : va_P D vwCl (xw ad kk V L Z) H := hP
  have hD : va_D A (xw ad kk V L Z) := hD
  have hK : va_K D vwCl (xty kk Z) s := hK
  have agV : agr [(1, 2), (1, 3), (1, 4), (1, 6), (1, 8), (6, 8), (6, 9), (6, 10)] [42, 43, 44, 48, 49, 56, 57, 58, 59, 60, 61] V V := agr.rf
  have alL : agL [6, 44] L L := agL.rf
  have r1 : (-1) ≤ ((V 1 1)).toInt ∧ ((V 1 1)).toInt ≤ 1 := hMV 1 1
  have r2 : (-1) ≤ ((V 1 2)).toInt ∧ ((V 1 2)).toInt ≤ 47 := hMV 1 2
  have ow0 := RelC.ow rel own
  refine lv_aload_n hx hb dX1_readMember_0 rfl (lv_at hl 0 rfl) ?_
  refine va_get (D := D) (ci := 1) (v := rfN ad 38 (V 1 1)) (fs := (xfReader ad V L Z)) (C := RX1) (T := TX1) (N := 9) hx hb hg inX1 hown hK hP 1 xgReader rfl 1 (by decide) (hg _ w305) (fun _ h9 => h9) rfl dX1_readMember_1 ?_
  refine g_topv (v := .ref (ad (38 + b))) (rfN_r (by omega)) ?_
  refine va_getN (D := D) (ci := 0) (v := .int (V 42 b)) (fs := (xfBook ad V b)) (C := RX0) (T := TX0) (N := 13) hx hb hg inX0 hown hK hP (38 + b) (xgBook hb2) rfl 12 (by decide) (hnw.use 630 n630 rfl) (fun _ h9 => h9) rfl dX1_readMember_4 ?_
  have r3 : 0 ≤ ((V 42 b)).toInt ∧ ((V 42 b)).toInt ≤ 8200 := hMV 42 b
  refine lv_istore_n (lv' := [(1, .int (V 42 b)), (0, .ref (ad 1))]) hx hb dX1_readMember_7 rfl hl (by decide) rfl (fun ls hl => ?_)
  refine lv_aload_n hx hb dX1_readMember_8 rfl (lv_at hl 1 rfl) ?_
  refine va_get (D := D) (ci := 1) (v := .ref (ad 6)) (fs := (xfReader ad V L Z)) (C := RX1) (T := TX1) (N := 9) hx hb hg inX1 hown hK hP 1 xgReader rfl 0 (by decide) (hg _ w304) (fun _ h9 => h9) rfl dX1_readMember_9 ?_
  refine va_getN (D := D) (ci := 9) (v := .int (V 6 9)) (fs := (xfTape ad V L Z)) (C := RX9) (T := TX9) (N := 12) hx hb hg inX9 hown hK hP 6 xgTape rfl 9 (by decide) (hnw.use 262 n262 rfl) (fun _ h9 => h9) rfl dX1_readMember_12 ?_
  by_cases q4 : (V 6 9) = 125
  · refine g_top (v := 125) q4 ?_
    have fq4 : ((V 6 9)).toInt = 125 := b_eq rfl (by decide) q4
    refine lv_lookup (x := 125) (off := 49) (tgt := 64) hx hb dX1_readMember_15 (by decide) (by decide) (by decide) ?_
    refine lv_aload_n hx hb dX1_readMember_64 rfl (lv_at hl 1 rfl) ?_
    refine lv_null hx hb dX1_readMember_65 ?_
    refine va_put (D := D) (ci := 1) (v := .null) (ty := tyX1 2) (fs := (xfReader ad V L Z)) (C := RX1) (T := TX1) (N := 9) hx hb hg inX1 tyX1 tyX1_ok nmX1 hown hK hP hD hS 1 xgReader rfl 2 (by decide) (hg _ w306) (fun _ h9 => h9) rfl (tyX1_ok 2 (by decide)) rfl rfl (Nat.le_of_ble_eq_true rfl) dX1_readMember_66 (fun H locs hP hD hS => ?_)
    obtain ⟨V5, hV5⟩ : ∃ z, z = up2 V 1 2 (-1) := ⟨_, rfl⟩
    have ew6 : (xw ad kk V L Z).set 1 ((ad 1), .inr (1, (xfReader ad V L Z).set 2 (.null))) = xw ad kk V5 L Z := by rw [hV5]; exact xr_owner_n
    have hP : va_P D vwCl (xw ad kk V5 L Z) H := by rw [← ew6]; exact hP
    have hD : va_D A (xw ad kk V5 L Z) := by rw [← ew6]; exact hD
    have hMV5 : rgd bX V5 := hMV.put hV5 (by decide)
    have agV5 : agr [(1, 2), (1, 3), (1, 4), (1, 6), (1, 8), (6, 8), (6, 9), (6, 10)] [42, 43, 44, 48, 49, 56, 57, 58, 59, 60, 61] V V5 := agV.up hV5 rfl
    have rl7 : RelC V5 L b gT gs := RelC.on rel hV5 (by decide)
    refine lv_aload_n hx hb dX1_readMember_69 rfl (lv_at hl 1 rfl) ?_
    refine va_get (D := D) (ci := 1) (v := .ref (ad 6)) (fs := (xfReader ad V5 L Z)) (C := RX1) (T := TX1) (N := 9) hx hb hg inX1 hown hK hP 1 xgReader rfl 0 (by decide) (hg _ w304) (fun _ h9 => h9) rfl dX1_readMember_70 ?_
    have hr8 : ∀ k, Rc gT (Crun gs (Imember :: k)) (Crun gs (Imember :: k)) := fun k => Rc.rf
    have kd9 : gT.1 (gs.1 0) = ((V 6 9)).toInt := (RelC.kd rl7).trans (congrArg Int32.toInt (up2_o hV5 (by decide)))
    have hr10 : ∀ k, Rc gT (Crun gs (Imember :: k)) (Crun (nx gs 1) (Istmt :: k)) := fun k => Rc.go1 (hr8 k) (mb_125 (kd9.trans fq4))
    have l811 := RelC.l8 rl7
    have pq12 : (V5 6 8).toInt = ((V 6 8)).toInt := congrArg Int32.toInt (up2_o hV5 (by decide))
    have r13 : 0 ≤ ((V 6 8)).toInt ∧ ((V 6 8)).toInt ≤ 4000 := hMV 6 8
    have pq14 : (V5 6 7).toInt = ((V 6 7)).toInt := congrArg Int32.toInt (up2_o hV5 (by decide))
    have r15 : 0 ≤ ((V 6 7)).toInt ∧ ((V 6 7)).toInt ≤ 4000 := hMV 6 7
    have pq16 : (V5 6 9).toInt = ((V 6 9)).toInt := congrArg Int32.toInt (up2_o hV5 (by decide))
    have lk17 := RelC.lk rl7 (show (V5 6 9).toInt ≠ 0 from by omega)
    refine gA_void (gA_runV (As := []) (rest := []) (ci := 9) (q0 := 6) hx hb hml hown hg hP hD hK hS hA hnw hgk (x_next2 l D ks H.size ad kk V5 L Z  hMV5 (show (V5 6 8).toInt ≤ (V5 6 7).toInt from by omega)) w871 w852 w853 w157 w854 rfl xgTape hdV_yX9_next ⟨Nat.le_of_ble_eq_true rfl, Nat.le_of_ble_eq_true rfl⟩ rfl hl.1 rfl (Nat.le_of_ble_eq_true rfl) dX1_readMember_73 ⟨Nat.le_of_ble_eq_true rfl, Nat.le_of_ble_eq_true rfl⟩) hP hD hK hS hA (fun u19 H locs w20 hP hD hK hS => ?_)
    obtain ⟨V23, L24⟩ := u19
    obtain ⟨hMV23, ajV23, axL24, t21, t22⟩ := w20
    have alL24 : agL [6, 44] L L24 := agL.tr alL axL24 (by decide)
    have hP : va_P D vwCl (xw ad kk V23 L24 Z) H := hP
    have hD : va_D A (xw ad kk V23 L24 Z) := hD
    have hMV23 : rgd bX V23 := hMV23
    have ajV23 : agr [(6, 8), (6, 9), (6, 10)] [] V5 V23 := ajV23
    have agV23 : agr [(1, 2), (1, 3), (1, 4), (1, 6), (1, 8), (6, 8), (6, 9), (6, 10)] [42, 43, 44, 48, 49, 56, 57, 58, 59, 60, 61] V V23 := agV5.tr ajV23 (by decide) (by decide)
    have t21 : (V23 6 8).toInt ≤ (V23 6 7).toInt := t21
    have t22 : CUR V23 L24 (Int32.toNatClampNeg (V5 6 8)) := t22
    have r25 : 0 ≤ ((V23 6 8)).toInt ∧ ((V23 6 8)).toInt ≤ 4000 := hMV23 6 8
    have pq26 : (V23 6 7).toInt = ((V 6 7)).toInt := congrArg Int32.toInt ((ajV23 6 7 rfl).trans (up2_o hV5 (by decide)))
    have rl27 : RelC V23 L24 b gT (nx gs 1) := RelC.nx1 rl7 ajV23 (by decide) axL24 (by decide) (by rw [← lk17]; exact t22) (ajV23 1 3 rfl)
    refine lv_iconst (v := 1) hx hb dX1_readMember_76 (by decide) ?_
    have pq28 : (V23 1 2).toInt = (-1) := (congrArg Int32.toInt ((ajV23 1 2 rfl).trans (up2_s hV5))).trans (by decide)
    have ps29 : gs.1 0 + 1 ≤ (nx gs 1).1 0 := ((keepS.n1 1)).1
    exact W.zret (v := 1) hx hb hr rfl (fun t ht hW => ⟨⟨1, (V23, L24), rfl, ⟨hMV23, agV23, alL24, (by decide), (show (V23 1 2).toInt = (V 1 2).toInt ∨ (V23 1 2).toInt = -1 from by omega), (Or.inl ⟨rfl, (nx gs 1), (fun k => show Rc gT (Crun gs (Imember :: k)) (Crun (nx gs 1) (nxI (V23 1 2) k)) from by rw [nxI_s (show (V23 1 2).toInt < 0 from by omega)]; exact hr10 k), rl27, (by omega)⟩)⟩, by rw [ht]; exact hP, va_K.moved hW.alike hK, hD⟩, hS.F ht⟩) hS.2.2 dX1_readMember_77
  have gq4 : ((V 6 9)).toInt ≠ 125 := b_neq rfl (by decide) q4
  by_cases q30 : (V 6 9) = 137
  · refine g_top (v := 137) q30 ?_
    have fq30 : ((V 6 9)).toInt = 137 := b_eq rfl (by decide) q30
    refine lv_lookup (x := 137) (off := 63) (tgt := 78) hx hb dX1_readMember_15 (by decide) (by decide) (by decide) ?_
    refine lv_aload_n hx hb dX1_readMember_78 rfl (lv_at hl 1 rfl) ?_
    have hr31 : ∀ k, Rc gT (Crun gs (Imember :: k)) (Crun gs (Imember :: k)) := fun k => Rc.rf
    refine gA_int (gA_runV (As := []) (rest := []) (ci := 1) (q0 := 1) hx hb hml hown hg hP hD hK hS hA hnw hgk (x_readNeed3 l D ks H.size ad kk V L Z (b) (gT) (gs) (go) hMV (show b < 2 from by omega) (show (V 1 1).toInt = (b : Int) from by omega) (show (V 1 2).toInt = (go : Int) from by omega) (show go < 48 from by omega) (show 24 * b ≤ go from by omega) (show go < 24 * b + 24 from by omega) rel (show (V 6 9).toInt = 137 from by omega)) w1007 w1009 w32 w162 w1010 rfl xgReader hdV_yX1_readNeed ⟨Nat.le_of_ble_eq_true rfl, Nat.le_of_ble_eq_true rfl⟩ rfl hl.1 rfl (Nat.le_of_ble_eq_true rfl) dX1_readMember_79 ⟨Nat.le_of_ble_eq_true rfl, Nat.le_of_ble_eq_true rfl⟩) hP hD hK hS hA (fun z32 u33 H locs w34 hP hD hK hS => ?_)
    obtain ⟨V36, L37⟩ := u33
    obtain ⟨hMV36, ajV36, axL37, rgz32, t35⟩ := w34
    have alL37 : agL [6, 44] L L37 := agL.tr alL axL37 (by decide)
    have hP : va_P D vwCl (xw ad kk V36 L37 Z) H := hP
    have hD : va_D A (xw ad kk V36 L37 Z) := hD
    have hMV36 : rgd bX V36 := hMV36
    have ajV36 : agr [(1, 3), (1, 6), (6, 8), (6, 9), (6, 10)] [43, 44, 49, 58, 59, 60] V V36 := ajV36
    have agV36 : agr [(1, 2), (1, 3), (1, 4), (1, 6), (1, 8), (6, 8), (6, 9), (6, 10)] [42, 43, 44, 48, 49, 56, 57, 58, 59, 60, 61] V V36 := agV.tr ajV36 (by decide) (by decide)
    have rgz32 : 0 ≤ z32.toInt ∧ z32.toInt ≤ 1 := rgz32
    have t35 : Rd gT gs (fun k => Imember :: k) (fun k => Imember :: k) z32.toInt (V36 1 3).toInt (fun s9 => RelC V36 L37 b gT s9 ∧ gs.1 0 + 1 ≤ s9.1 0) := t35
    rcases t35 with ⟨q38, sx39, h40, rl41, kp42⟩ | ⟨q38, h40⟩
    · skip
      have hr43 : ∀ k, Rc gT (Crun gs (Imember :: k)) (Crun sx39 (Imember :: k)) := fun k => (hr31 k).tr (h40 k)
      have pq44 : (V36 1 2).toInt = ((V 1 2)).toInt := congrArg Int32.toInt (ajV36 1 2 rfl)
      have ps45 : gs.1 0 + 1 ≤ sx39.1 0 := kp42
      exact W.zret (v := z32) hx hb hr (nb_ok (by omega)) (fun t ht hW => ⟨⟨z32, (V36, L37), rfl, ⟨hMV36, agV36, alL37, (show 0 ≤ z32.toInt ∧ z32.toInt ≤ 1 from by omega), (show (V36 1 2).toInt = (V 1 2).toInt ∨ (V36 1 2).toInt = -1 from by omega), (Or.inl ⟨(by omega), sx39, (fun k => show Rc gT (Crun gs (Imember :: k)) (Crun sx39 (nxI (V36 1 2) k)) from by rw [nxI_m (show 0 ≤ (V36 1 2).toInt from by omega)]; exact hr43 k), rl41, (by omega)⟩)⟩, by rw [ht]; exact hP, va_K.moved hW.alike hK, hD⟩, hS.F ht⟩) hS.2.2 dX1_readMember_82
    · skip
      have hb46 : ∀ k, Rc gT (Crun gs (Imember :: k)) (Cbad (V36 1 3).toInt) := fun k => (hr31 k).tr (h40 k)
      have pq47 : (V36 1 2).toInt = ((V 1 2)).toInt := congrArg Int32.toInt (ajV36 1 2 rfl)
      exact W.zret (v := z32) hx hb hr (nb_ok (by omega)) (fun t ht hW => ⟨⟨z32, (V36, L37), rfl, ⟨hMV36, agV36, alL37, (show 0 ≤ z32.toInt ∧ z32.toInt ≤ 1 from by omega), (show (V36 1 2).toInt = (V 1 2).toInt ∨ (V36 1 2).toInt = -1 from by omega), (Or.inr ⟨(by omega), hb46⟩)⟩, by rw [ht]; exact hP, va_K.moved hW.alike hK, hD⟩, hS.F ht⟩) hS.2.2 dX1_readMember_82
  have gq30 : ((V 6 9)).toInt ≠ 137 := b_neq rfl (by decide) q30
  by_cases q48 : (V 6 9) = 140
  · refine g_top (v := 140) q48 ?_
    have fq48 : ((V 6 9)).toInt = 140 := b_eq rfl (by decide) q48
    refine lv_lookup (x := 140) (off := 68) (tgt := 83) hx hb dX1_readMember_15 (by decide) (by decide) (by decide) ?_
    refine lv_aload_n hx hb dX1_readMember_83 rfl (lv_at hl 1 rfl) ?_
    refine va_get (D := D) (ci := 1) (v := rfN ad 72 (V 1 2)) (fs := (xfReader ad V L Z)) (C := RX1) (T := TX1) (N := 9) hx hb hg inX1 hown hK hP 1 xgReader rfl 2 (by decide) (hg _ w306) (fun _ h9 => h9) rfl dX1_readMember_84 ?_
    refine g_topv (v := .ref (ad (72 + go))) (rfN_r (by omega)) ?_
    refine va_getN (D := D) (ci := 3) (v := .int (V 56 go)) (fs := (xfComp ad V go)) (C := RX3) (T := TX3) (N := 13) hx hb hg inX3 hown hK hP (72 + go) (xgComp hgo) rfl 11 (by decide) (hnw.use 538 n538 rfl) (fun _ h9 => h9) rfl dX1_readMember_87 ?_
    have r49 : (-1) ≤ ((V 56 go)).toInt ∧ ((V 56 go)).toInt ≤ 8200 := hMV 56 go
    refine lv_iconst (v := (-1)) hx hb dX1_readMember_90 (by decide) ?_
    refine lv_icmp_eq (tgt := 100) hx hb dX1_readMember_91 (by decide) (fun c50 => ?_) (fun c50 => ?_)
    · skip
      have f51 : ((V 56 go)).toInt = (-1) := b_eq rfl (by decide) c50
      have hr52 : ∀ k, Rc gT (Crun gs (Imember :: k)) (Crun gs (Imember :: k)) := fun k => Rc.rf
      have kd53 : gT.1 (gs.1 0) = ((V 6 9)).toInt := RelC.kd rel
      have hr54 : ∀ k, Rc gT (Crun gs (Imember :: k)) (Crun (nx (sN gs 2 1) 1) (Iexpr 0 :: Itake 59 :: Imember :: k)) := fun k => Rc.go1 (hr52 k) (mb_140 (kd53.trans fq48) (ow0.2.1.mp (by omega)))
      refine lv_aload_n hx hb dX1_readMember_100 rfl (lv_at hl 1 rfl) ?_
      refine va_get (D := D) (ci := 1) (v := rfN ad 72 (V 1 2)) (fs := (xfReader ad V L Z)) (C := RX1) (T := TX1) (N := 9) hx hb hg inX1 hown hK hP 1 xgReader rfl 2 (by decide) (hg _ w306) (fun _ h9 => h9) rfl dX1_readMember_101 ?_
      refine g_topv (v := .ref (ad (72 + go))) (rfN_r (by omega)) ?_
      refine lv_iload_n hx hb dX1_readMember_104 rfl (lv_at hl 0 rfl) ?_
      refine va_putN (D := D) (ci := 3) (v := .int (V 42 b)) (ty := tyX3 11) (fs := (xfComp ad V go)) (C := RX3) (T := TX3) (N := 13) hx hb hg inX3 tyX3 tyX3_ok nmX3 hown hK hP hD hS (72 + go) (xgComp hgo) rfl 11 (by decide) (hnw.use 538 n538 rfl) (fun _ h9 => h9) rfl (tyX3_ok 11 (by decide)) rfl rfl (Nat.le_of_ble_eq_true rfl) dX1_readMember_105 (fun H locs hP hD hS => ?_)
      obtain ⟨V55, hV55⟩ : ∃ z, z = up2 V 56 go (V 42 b) := ⟨_, rfl⟩
      have ew56 : (xw ad kk V L Z).set (72 + go) ((ad (72 + go)), .inr (3, (xfComp ad V go).set 11 (.int (V 42 b)))) = xw ad kk V55 L Z := by rw [hV55]; exact xpComp_openedStart hgo
      have hP : va_P D vwCl (xw ad kk V55 L Z) H := by rw [← ew56]; exact hP
      have hD : va_D A (xw ad kk V55 L Z) := by rw [← ew56]; exact hD
      have hMV55 : rgd bX V55 := hMV.put hV55 (show (-1) ≤ ((V 42 b)).toInt ∧ ((V 42 b)).toInt ≤ 8200 from by omega)
      have agV55 : agr [(1, 2), (1, 3), (1, 4), (1, 6), (1, 8), (6, 8), (6, 9), (6, 10)] [42, 43, 44, 48, 49, 56, 57, 58, 59, 60, 61] V V55 := agV.up hV55 rfl
      have rl57 : RelC V55 L b gT (sN gs 2 1) := RelC.op rel (show (V 1 2).toInt = ((go : Nat) : Int) from by omega) hV55 (show ((V 42 b)).toInt ≠ -1 from by omega)
      refine lv_aload_n hx hb dX1_readMember_108 rfl (lv_at hl 1 rfl) ?_
      refine va_get (D := D) (ci := 1) (v := .ref (ad 6)) (fs := (xfReader ad V55 L Z)) (C := RX1) (T := TX1) (N := 9) hx hb hg inX1 hown hK hP 1 xgReader rfl 0 (by decide) (hg _ w304) (fun _ h9 => h9) rfl dX1_readMember_109 ?_
      have l858 := RelC.l8 rl57
      have pq59 : (V55 6 8).toInt = ((V 6 8)).toInt := congrArg Int32.toInt (up2_o hV55 (by decide))
      have r60 : 0 ≤ ((V 6 8)).toInt ∧ ((V 6 8)).toInt ≤ 4000 := hMV 6 8
      have pq61 : (V55 6 7).toInt = ((V 6 7)).toInt := congrArg Int32.toInt (up2_o hV55 (by decide))
      have r62 : 0 ≤ ((V 6 7)).toInt ∧ ((V 6 7)).toInt ≤ 4000 := hMV 6 7
      have pq63 : (V55 6 9).toInt = ((V 6 9)).toInt := congrArg Int32.toInt (up2_o hV55 (by decide))
      have lk64 := RelC.lk rl57 (show (V55 6 9).toInt ≠ 0 from by omega)
      refine gA_void (gA_runV (As := []) (rest := []) (ci := 9) (q0 := 6) hx hb hml hown hg hP hD hK hS hA hnw hgk (x_next2 l D ks H.size ad kk V55 L Z  hMV55 (show (V55 6 8).toInt ≤ (V55 6 7).toInt from by omega)) w871 w852 w853 w157 w854 rfl xgTape hdV_yX9_next ⟨Nat.le_of_ble_eq_true rfl, Nat.le_of_ble_eq_true rfl⟩ rfl hl.1 rfl (Nat.le_of_ble_eq_true rfl) dX1_readMember_112 ⟨Nat.le_of_ble_eq_true rfl, Nat.le_of_ble_eq_true rfl⟩) hP hD hK hS hA (fun u66 H locs w67 hP hD hK hS => ?_)
      obtain ⟨V70, L71⟩ := u66
      obtain ⟨hMV70, ajV70, axL71, t68, t69⟩ := w67
      have alL71 : agL [6, 44] L L71 := agL.tr alL axL71 (by decide)
      have hP : va_P D vwCl (xw ad kk V70 L71 Z) H := hP
      have hD : va_D A (xw ad kk V70 L71 Z) := hD
      have hMV70 : rgd bX V70 := hMV70
      have ajV70 : agr [(6, 8), (6, 9), (6, 10)] [] V55 V70 := ajV70
      have agV70 : agr [(1, 2), (1, 3), (1, 4), (1, 6), (1, 8), (6, 8), (6, 9), (6, 10)] [42, 43, 44, 48, 49, 56, 57, 58, 59, 60, 61] V V70 := agV55.tr ajV70 (by decide) (by decide)
      have t68 : (V70 6 8).toInt ≤ (V70 6 7).toInt := t68
      have t69 : CUR V70 L71 (Int32.toNatClampNeg (V55 6 8)) := t69
      have r72 : 0 ≤ ((V70 6 8)).toInt ∧ ((V70 6 8)).toInt ≤ 4000 := hMV70 6 8
      have pq73 : (V70 6 7).toInt = ((V 6 7)).toInt := congrArg Int32.toInt ((ajV70 6 7 rfl).trans (up2_o hV55 (by decide)))
      have rl74 : RelC V70 L71 b gT (nx (sN gs 2 1) 1) := RelC.nx1 rl57 ajV70 (by decide) axL71 (by decide) (by rw [← lk64]; exact t69) (ajV70 1 3 rfl)
      refine lv_aload_n hx hb dX1_readMember_115 rfl (lv_at hl 1 rfl) ?_
      refine lv_iconst (v := 0) hx hb dX1_readMember_116 (by decide) ?_
      have pq76 : (V70 1 2).toInt = ((V 1 2)).toInt := congrArg Int32.toInt ((ajV70 1 2 rfl).trans (up2_o hV55 (by decide)))
      have w475 := (RelC.ow rl74 (show (V70 1 2).toInt = ((go : Nat) : Int) from by omega)).2.2.2.1
      have r77 : Int32.toInt 0 = 0 := by decide
      have pq78 : (V70 1 1).toInt = ((V 1 1)).toInt := congrArg Int32.toInt ((ajV70 1 1 rfl).trans (up2_o hV55 (by decide)))
      refine gA_int (gA_runV (As := [.int 0]) (rest := []) (ci := 1) (q0 := 1) hx hb hml hown hg hP hD hK hS hA hnw hgk (x_readE3 l D ks H.size ad kk V70 L71 Z 0 (b) (gT) ((nx (sN gs 2 1) 1)) hMV70 (by decide) (show b < 2 from by omega) (show (V70 1 1).toInt = (b : Int) from by omega) rl74 (show (Int32.toInt 0) = (((nx (sN gs 2 1) 1).1 4 : Nat) : Int) from by omega) (fun _ => (show 0 ≤ (V70 1 2).toInt from by omega))) w947 w949 w20 w162 w950 rfl xgReader hdV_yX1_readE ⟨Nat.le_of_ble_eq_true rfl, Nat.le_of_ble_eq_true rfl⟩ rfl hl.1 rfl (Nat.le_of_ble_eq_true rfl) dX1_readMember_117 ⟨Nat.le_of_ble_eq_true rfl, Nat.le_of_ble_eq_true rfl⟩) hP hD hK hS hA (fun z79 u80 H locs w81 hP hD hK hS => ?_)
      obtain ⟨V83, L84⟩ := u80
      obtain ⟨hMV83, ajV83, axL84, rgz79, t82⟩ := w81
      have alL84 : agL [6, 44] L L84 := agL.tr alL71 axL84 (by decide)
      have hP : va_P D vwCl (xw ad kk V83 L84 Z) H := hP
      have hD : va_D A (xw ad kk V83 L84 Z) := hD
      have hMV83 : rgd bX V83 := hMV83
      have ajV83 : agr [(1, 3), (1, 4), (1, 6), (1, 8), (6, 8), (6, 9), (6, 10)] [42, 43, 44, 48] V70 V83 := ajV83
      have agV83 : agr [(1, 2), (1, 3), (1, 4), (1, 6), (1, 8), (6, 8), (6, 9), (6, 10)] [42, 43, 44, 48, 49, 56, 57, 58, 59, 60, 61] V V83 := agV70.tr ajV83 (by decide) (by decide)
      have rgz79 : 0 ≤ z79.toInt ∧ z79.toInt ≤ 1 := rgz79
      have t82 : Rd gT (nx (sN gs 2 1) 1) (fun k => Iexpr 0 :: Itake 59 :: k) (fun k => k) z79.toInt (V83 1 3).toInt (fun s9 => RelC V83 L84 b gT s9 ∧ keepS (nx (sN gs 2 1) 1) 2 s9) := t82
      rcases t82 with ⟨q85, sx86, h87, rl88, kp89⟩ | ⟨q85, h87⟩
      · skip
        have hr90 : ∀ k, Rc gT (Crun gs (Imember :: k)) (Crun sx86 (Imember :: k)) := fun k => (hr54 k).tr (h87 (Imember :: k))
        have pq91 : (V83 1 2).toInt = ((V 1 2)).toInt := congrArg Int32.toInt ((ajV83 1 2 rfl).trans ((ajV70 1 2 rfl).trans (up2_o hV55 (by decide))))
        have ps92 : (sN gs 2 1).1 0 = gs.1 0 := rfl
        have ps93 : (sN gs 2 1).1 0 + 1 ≤ (nx (sN gs 2 1) 1).1 0 := ((keepS.n1 1)).1
        have ps94 : (nx (sN gs 2 1) 1).1 0 + 2 ≤ sx86.1 0 := (kp89).1
        exact W.zret (v := z79) hx hb hr (nb_ok (by omega)) (fun t ht hW => ⟨⟨z79, (V83, L84), rfl, ⟨hMV83, agV83, alL84, (show 0 ≤ z79.toInt ∧ z79.toInt ≤ 1 from by omega), (show (V83 1 2).toInt = (V 1 2).toInt ∨ (V83 1 2).toInt = -1 from by omega), (Or.inl ⟨(by omega), sx86, (fun k => show Rc gT (Crun gs (Imember :: k)) (Crun sx86 (nxI (V83 1 2) k)) from by rw [nxI_m (show 0 ≤ (V83 1 2).toInt from by omega)]; exact hr90 k), rl88, (by omega)⟩)⟩, by rw [ht]; exact hP, va_K.moved hW.alike hK, hD⟩, hS.F ht⟩) hS.2.2 dX1_readMember_120
      · skip
        have hb95 : ∀ k, Rc gT (Crun gs (Imember :: k)) (Cbad (V83 1 3).toInt) := fun k => (hr54 k).tr (h87 (Imember :: k))
        have pq96 : (V83 1 2).toInt = ((V 1 2)).toInt := congrArg Int32.toInt ((ajV83 1 2 rfl).trans ((ajV70 1 2 rfl).trans (up2_o hV55 (by decide))))
        exact W.zret (v := z79) hx hb hr (nb_ok (by omega)) (fun t ht hW => ⟨⟨z79, (V83, L84), rfl, ⟨hMV83, agV83, alL84, (show 0 ≤ z79.toInt ∧ z79.toInt ≤ 1 from by omega), (show (V83 1 2).toInt = (V 1 2).toInt ∨ (V83 1 2).toInt = -1 from by omega), (Or.inr ⟨(by omega), hb95⟩)⟩, by rw [ht]; exact hP, va_K.moved hW.alike hK, hD⟩, hS.F ht⟩) hS.2.2 dX1_readMember_120
    · skip
      have f97 : ((V 56 go)).toInt ≠ (-1) := b_neq rfl (by decide) c50
      refine lv_aload_n hx hb dX1_readMember_94 rfl (lv_at hl 1 rfl) ?_
      refine lv_iconst (v := 1) hx hb dX1_readMember_95 (by decide) ?_
      have kd98 : gT.1 (gs.1 0) = ((V 6 9)).toInt := RelC.kd rel
      have r99 : Int32.toInt 1 = 1 := by decide
      refine gA_int (gA_runV (As := [.int 1]) (rest := []) (ci := 1) (q0 := 1) hx hb hml hown hg hP hD hK hS hA hnw hgk (x_wrong2 l D ks H.size ad kk V L Z 1 hMV (by decide)) w867 w869 w6 w162 w870 rfl xgReader hdV_yX1_wrong ⟨Nat.le_of_ble_eq_true rfl, Nat.le_of_ble_eq_true rfl⟩ rfl hl.1 rfl (Nat.le_of_ble_eq_true rfl) dX1_readMember_96 ⟨Nat.le_of_ble_eq_true rfl, Nat.le_of_ble_eq_true rfl⟩) hP hD hK hS hA (fun z100 u101 H locs w102 hP hD hK hS => ?_)
      obtain ⟨V105, L106⟩ := u101
      obtain ⟨hMV105, ajV105, axL106, rgz100, t103, t104⟩ := w102
      have axL106 : L = L106 := Eq.symm axL106
      subst axL106
      have hP : va_P D vwCl (xw ad kk V105 L Z) H := hP
      have hD : va_D A (xw ad kk V105 L Z) := hD
      have hMV105 : rgd bX V105 := hMV105
      have ajV105 : agr [(1, 3)] [] V V105 := ajV105
      have agV105 : agr [(1, 2), (1, 3), (1, 4), (1, 6), (1, 8), (6, 8), (6, 9), (6, 10)] [42, 43, 44, 48, 49, 56, 57, 58, 59, 60, 61] V V105 := agV.tr ajV105 (by decide) (by decide)
      have rgz100 : 0 ≤ z100.toInt ∧ z100.toInt ≤ 0 := rgz100
      have t103 : 1 ≤ (V105 1 3).toInt := t103
      have t104 : (V105 1 3).toInt = (Int32.toInt 1) + 16 * (V 6 10).toInt := t104
      have r107 : 0 ≤ ((V 6 10)).toInt ∧ ((V 6 10)).toInt ≤ 4000 := hMV 6 10
      have hr108 : ∀ k, Rc gT (Crun gs (Imember :: k)) (Crun gs (Imember :: k)) := fun k => Rc.rf
      have hb109 : ∀ k, Rc gT (Crun gs (Imember :: k)) (Cbad (V105 1 3).toInt) := fun k => Rc.go1 (hr108 k) ((mb_140f (kd98.trans fq48) (by by_cases q9 : gs.1 2 = 1; exact q9; exact absurd (ow0.2.1.mpr q9) (by omega))).trans (fl_eq (RelC.st rel) (show (V105 1 3).toInt = 1 + 16 * (V 6 10).toInt from by omega)))
      have pq110 : (V105 1 2).toInt = ((V 1 2)).toInt := congrArg Int32.toInt (ajV105 1 2 rfl)
      exact W.zret (v := z100) hx hb hr (nb_ok (by omega)) (fun t ht hW => ⟨⟨z100, (V105, L), rfl, ⟨hMV105, agV105, alL, (show 0 ≤ z100.toInt ∧ z100.toInt ≤ 1 from by omega), (show (V105 1 2).toInt = (V 1 2).toInt ∨ (V105 1 2).toInt = -1 from by omega), (Or.inr ⟨(by omega), hb109⟩)⟩, by rw [ht]; exact hP, va_K.moved hW.alike hK, hD⟩, hS.F ht⟩) hS.2.2 dX1_readMember_99
  have gq48 : ((V 6 9)).toInt ≠ 140 := b_neq rfl (by decide) q48
  by_cases q111 : (V 6 9) = 141
  · refine g_top (v := 141) q111 ?_
    have fq111 : ((V 6 9)).toInt = 141 := b_eq rfl (by decide) q111
    refine lv_lookup (x := 141) (off := 106) (tgt := 121) hx hb dX1_readMember_15 (by decide) (by decide) (by decide) ?_
    refine lv_aload_n hx hb dX1_readMember_121 rfl (lv_at hl 1 rfl) ?_
    refine va_get (D := D) (ci := 1) (v := rfN ad 72 (V 1 2)) (fs := (xfReader ad V L Z)) (C := RX1) (T := TX1) (N := 9) hx hb hg inX1 hown hK hP 1 xgReader rfl 2 (by decide) (hg _ w306) (fun _ h9 => h9) rfl dX1_readMember_122 ?_
    refine g_topv (v := .ref (ad (72 + go))) (rfN_r (by omega)) ?_
    refine va_getN (D := D) (ci := 3) (v := .int (V 57 go)) (fs := (xfComp ad V go)) (C := RX3) (T := TX3) (N := 13) hx hb hg inX3 hown hK hP (72 + go) (xgComp hgo) rfl 12 (by decide) (hnw.use 541 n541 rfl) (fun _ h9 => h9) rfl dX1_readMember_125 ?_
    have r112 : (-1) ≤ ((V 57 go)).toInt ∧ ((V 57 go)).toInt ≤ 8200 := hMV 57 go
    refine lv_iconst (v := (-1)) hx hb dX1_readMember_128 (by decide) ?_
    refine lv_icmp_eq (tgt := 138) hx hb dX1_readMember_129 (by decide) (fun c113 => ?_) (fun c113 => ?_)
    · skip
      have f114 : ((V 57 go)).toInt = (-1) := b_eq rfl (by decide) c113
      have hr115 : ∀ k, Rc gT (Crun gs (Imember :: k)) (Crun gs (Imember :: k)) := fun k => Rc.rf
      have kd116 : gT.1 (gs.1 0) = ((V 6 9)).toInt := RelC.kd rel
      have hr117 : ∀ k, Rc gT (Crun gs (Imember :: k)) (Crun (nx (sN gs 3 1) 1) (Iexpr 0 :: Itake 59 :: Imember :: k)) := fun k => Rc.go1 (hr115 k) (mb_141 (kd116.trans fq111) (ow0.2.2.1.mp (by omega)))
      refine lv_aload_n hx hb dX1_readMember_138 rfl (lv_at hl 1 rfl) ?_
      refine va_get (D := D) (ci := 1) (v := rfN ad 72 (V 1 2)) (fs := (xfReader ad V L Z)) (C := RX1) (T := TX1) (N := 9) hx hb hg inX1 hown hK hP 1 xgReader rfl 2 (by decide) (hg _ w306) (fun _ h9 => h9) rfl dX1_readMember_139 ?_
      refine g_topv (v := .ref (ad (72 + go))) (rfN_r (by omega)) ?_
      refine lv_iload_n hx hb dX1_readMember_142 rfl (lv_at hl 0 rfl) ?_
      refine va_putN (D := D) (ci := 3) (v := .int (V 42 b)) (ty := tyX3 12) (fs := (xfComp ad V go)) (C := RX3) (T := TX3) (N := 13) hx hb hg inX3 tyX3 tyX3_ok nmX3 hown hK hP hD hS (72 + go) (xgComp hgo) rfl 12 (by decide) (hnw.use 541 n541 rfl) (fun _ h9 => h9) rfl (tyX3_ok 12 (by decide)) rfl rfl (Nat.le_of_ble_eq_true rfl) dX1_readMember_143 (fun H locs hP hD hS => ?_)
      obtain ⟨V118, hV118⟩ : ∃ z, z = up2 V 57 go (V 42 b) := ⟨_, rfl⟩
      have ew119 : (xw ad kk V L Z).set (72 + go) ((ad (72 + go)), .inr (3, (xfComp ad V go).set 12 (.int (V 42 b)))) = xw ad kk V118 L Z := by rw [hV118]; exact xpComp_closedStart hgo
      have hP : va_P D vwCl (xw ad kk V118 L Z) H := by rw [← ew119]; exact hP
      have hD : va_D A (xw ad kk V118 L Z) := by rw [← ew119]; exact hD
      have hMV118 : rgd bX V118 := hMV.put hV118 (show (-1) ≤ ((V 42 b)).toInt ∧ ((V 42 b)).toInt ≤ 8200 from by omega)
      have agV118 : agr [(1, 2), (1, 3), (1, 4), (1, 6), (1, 8), (6, 8), (6, 9), (6, 10)] [42, 43, 44, 48, 49, 56, 57, 58, 59, 60, 61] V V118 := agV.up hV118 rfl
      have rl120 : RelC V118 L b gT (sN gs 3 1) := RelC.cl rel (show (V 1 2).toInt = ((go : Nat) : Int) from by omega) hV118 (show ((V 42 b)).toInt ≠ -1 from by omega)
      refine lv_aload_n hx hb dX1_readMember_146 rfl (lv_at hl 1 rfl) ?_
      refine va_get (D := D) (ci := 1) (v := .ref (ad 6)) (fs := (xfReader ad V118 L Z)) (C := RX1) (T := TX1) (N := 9) hx hb hg inX1 hown hK hP 1 xgReader rfl 0 (by decide) (hg _ w304) (fun _ h9 => h9) rfl dX1_readMember_147 ?_
      have l8121 := RelC.l8 rl120
      have pq122 : (V118 6 8).toInt = ((V 6 8)).toInt := congrArg Int32.toInt (up2_o hV118 (by decide))
      have r123 : 0 ≤ ((V 6 8)).toInt ∧ ((V 6 8)).toInt ≤ 4000 := hMV 6 8
      have pq124 : (V118 6 7).toInt = ((V 6 7)).toInt := congrArg Int32.toInt (up2_o hV118 (by decide))
      have r125 : 0 ≤ ((V 6 7)).toInt ∧ ((V 6 7)).toInt ≤ 4000 := hMV 6 7
      have pq126 : (V118 6 9).toInt = ((V 6 9)).toInt := congrArg Int32.toInt (up2_o hV118 (by decide))
      have lk127 := RelC.lk rl120 (show (V118 6 9).toInt ≠ 0 from by omega)
      refine gA_void (gA_runV (As := []) (rest := []) (ci := 9) (q0 := 6) hx hb hml hown hg hP hD hK hS hA hnw hgk (x_next2 l D ks H.size ad kk V118 L Z  hMV118 (show (V118 6 8).toInt ≤ (V118 6 7).toInt from by omega)) w871 w852 w853 w157 w854 rfl xgTape hdV_yX9_next ⟨Nat.le_of_ble_eq_true rfl, Nat.le_of_ble_eq_true rfl⟩ rfl hl.1 rfl (Nat.le_of_ble_eq_true rfl) dX1_readMember_150 ⟨Nat.le_of_ble_eq_true rfl, Nat.le_of_ble_eq_true rfl⟩) hP hD hK hS hA (fun u129 H locs w130 hP hD hK hS => ?_)
      obtain ⟨V133, L134⟩ := u129
      obtain ⟨hMV133, ajV133, axL134, t131, t132⟩ := w130
      have alL134 : agL [6, 44] L L134 := agL.tr alL axL134 (by decide)
      have hP : va_P D vwCl (xw ad kk V133 L134 Z) H := hP
      have hD : va_D A (xw ad kk V133 L134 Z) := hD
      have hMV133 : rgd bX V133 := hMV133
      have ajV133 : agr [(6, 8), (6, 9), (6, 10)] [] V118 V133 := ajV133
      have agV133 : agr [(1, 2), (1, 3), (1, 4), (1, 6), (1, 8), (6, 8), (6, 9), (6, 10)] [42, 43, 44, 48, 49, 56, 57, 58, 59, 60, 61] V V133 := agV118.tr ajV133 (by decide) (by decide)
      have t131 : (V133 6 8).toInt ≤ (V133 6 7).toInt := t131
      have t132 : CUR V133 L134 (Int32.toNatClampNeg (V118 6 8)) := t132
      have r135 : 0 ≤ ((V133 6 8)).toInt ∧ ((V133 6 8)).toInt ≤ 4000 := hMV133 6 8
      have pq136 : (V133 6 7).toInt = ((V 6 7)).toInt := congrArg Int32.toInt ((ajV133 6 7 rfl).trans (up2_o hV118 (by decide)))
      have rl137 : RelC V133 L134 b gT (nx (sN gs 3 1) 1) := RelC.nx1 rl120 ajV133 (by decide) axL134 (by decide) (by rw [← lk127]; exact t132) (ajV133 1 3 rfl)
      refine lv_aload_n hx hb dX1_readMember_153 rfl (lv_at hl 1 rfl) ?_
      refine lv_iconst (v := 0) hx hb dX1_readMember_154 (by decide) ?_
      have pq139 : (V133 1 2).toInt = ((V 1 2)).toInt := congrArg Int32.toInt ((ajV133 1 2 rfl).trans (up2_o hV118 (by decide)))
      have w4138 := (RelC.ow rl137 (show (V133 1 2).toInt = ((go : Nat) : Int) from by omega)).2.2.2.1
      have r140 : Int32.toInt 0 = 0 := by decide
      have pq141 : (V133 1 1).toInt = ((V 1 1)).toInt := congrArg Int32.toInt ((ajV133 1 1 rfl).trans (up2_o hV118 (by decide)))
      refine gA_int (gA_runV (As := [.int 0]) (rest := []) (ci := 1) (q0 := 1) hx hb hml hown hg hP hD hK hS hA hnw hgk (x_readE3 l D ks H.size ad kk V133 L134 Z 0 (b) (gT) ((nx (sN gs 3 1) 1)) hMV133 (by decide) (show b < 2 from by omega) (show (V133 1 1).toInt = (b : Int) from by omega) rl137 (show (Int32.toInt 0) = (((nx (sN gs 3 1) 1).1 4 : Nat) : Int) from by omega) (fun _ => (show 0 ≤ (V133 1 2).toInt from by omega))) w947 w949 w20 w162 w950 rfl xgReader hdV_yX1_readE ⟨Nat.le_of_ble_eq_true rfl, Nat.le_of_ble_eq_true rfl⟩ rfl hl.1 rfl (Nat.le_of_ble_eq_true rfl) dX1_readMember_155 ⟨Nat.le_of_ble_eq_true rfl, Nat.le_of_ble_eq_true rfl⟩) hP hD hK hS hA (fun z142 u143 H locs w144 hP hD hK hS => ?_)
      obtain ⟨V146, L147⟩ := u143
      obtain ⟨hMV146, ajV146, axL147, rgz142, t145⟩ := w144
      have alL147 : agL [6, 44] L L147 := agL.tr alL134 axL147 (by decide)
      have hP : va_P D vwCl (xw ad kk V146 L147 Z) H := hP
      have hD : va_D A (xw ad kk V146 L147 Z) := hD
      have hMV146 : rgd bX V146 := hMV146
      have ajV146 : agr [(1, 3), (1, 4), (1, 6), (1, 8), (6, 8), (6, 9), (6, 10)] [42, 43, 44, 48] V133 V146 := ajV146
      have agV146 : agr [(1, 2), (1, 3), (1, 4), (1, 6), (1, 8), (6, 8), (6, 9), (6, 10)] [42, 43, 44, 48, 49, 56, 57, 58, 59, 60, 61] V V146 := agV133.tr ajV146 (by decide) (by decide)
      have rgz142 : 0 ≤ z142.toInt ∧ z142.toInt ≤ 1 := rgz142
      have t145 : Rd gT (nx (sN gs 3 1) 1) (fun k => Iexpr 0 :: Itake 59 :: k) (fun k => k) z142.toInt (V146 1 3).toInt (fun s9 => RelC V146 L147 b gT s9 ∧ keepS (nx (sN gs 3 1) 1) 2 s9) := t145
      rcases t145 with ⟨q148, sx149, h150, rl151, kp152⟩ | ⟨q148, h150⟩
      · skip
        have hr153 : ∀ k, Rc gT (Crun gs (Imember :: k)) (Crun sx149 (Imember :: k)) := fun k => (hr117 k).tr (h150 (Imember :: k))
        have pq154 : (V146 1 2).toInt = ((V 1 2)).toInt := congrArg Int32.toInt ((ajV146 1 2 rfl).trans ((ajV133 1 2 rfl).trans (up2_o hV118 (by decide))))
        have ps155 : (sN gs 3 1).1 0 = gs.1 0 := rfl
        have ps156 : (sN gs 3 1).1 0 + 1 ≤ (nx (sN gs 3 1) 1).1 0 := ((keepS.n1 1)).1
        have ps157 : (nx (sN gs 3 1) 1).1 0 + 2 ≤ sx149.1 0 := (kp152).1
        exact W.zret (v := z142) hx hb hr (nb_ok (by omega)) (fun t ht hW => ⟨⟨z142, (V146, L147), rfl, ⟨hMV146, agV146, alL147, (show 0 ≤ z142.toInt ∧ z142.toInt ≤ 1 from by omega), (show (V146 1 2).toInt = (V 1 2).toInt ∨ (V146 1 2).toInt = -1 from by omega), (Or.inl ⟨(by omega), sx149, (fun k => show Rc gT (Crun gs (Imember :: k)) (Crun sx149 (nxI (V146 1 2) k)) from by rw [nxI_m (show 0 ≤ (V146 1 2).toInt from by omega)]; exact hr153 k), rl151, (by omega)⟩)⟩, by rw [ht]; exact hP, va_K.moved hW.alike hK, hD⟩, hS.F ht⟩) hS.2.2 dX1_readMember_158
      · skip
        have hb158 : ∀ k, Rc gT (Crun gs (Imember :: k)) (Cbad (V146 1 3).toInt) := fun k => (hr117 k).tr (h150 (Imember :: k))
        have pq159 : (V146 1 2).toInt = ((V 1 2)).toInt := congrArg Int32.toInt ((ajV146 1 2 rfl).trans ((ajV133 1 2 rfl).trans (up2_o hV118 (by decide))))
        exact W.zret (v := z142) hx hb hr (nb_ok (by omega)) (fun t ht hW => ⟨⟨z142, (V146, L147), rfl, ⟨hMV146, agV146, alL147, (show 0 ≤ z142.toInt ∧ z142.toInt ≤ 1 from by omega), (show (V146 1 2).toInt = (V 1 2).toInt ∨ (V146 1 2).toInt = -1 from by omega), (Or.inr ⟨(by omega), hb158⟩)⟩, by rw [ht]; exact hP, va_K.moved hW.alike hK, hD⟩, hS.F ht⟩) hS.2.2 dX1_readMember_158
    · skip
      have f160 : ((V 57 go)).toInt ≠ (-1) := b_neq rfl (by decide) c113
      refine lv_aload_n hx hb dX1_readMember_132 rfl (lv_at hl 1 rfl) ?_
      refine lv_iconst (v := 1) hx hb dX1_readMember_133 (by decide) ?_
      have kd161 : gT.1 (gs.1 0) = ((V 6 9)).toInt := RelC.kd rel
      have r162 : Int32.toInt 1 = 1 := by decide
      refine gA_int (gA_runV (As := [.int 1]) (rest := []) (ci := 1) (q0 := 1) hx hb hml hown hg hP hD hK hS hA hnw hgk (x_wrong2 l D ks H.size ad kk V L Z 1 hMV (by decide)) w867 w869 w6 w162 w870 rfl xgReader hdV_yX1_wrong ⟨Nat.le_of_ble_eq_true rfl, Nat.le_of_ble_eq_true rfl⟩ rfl hl.1 rfl (Nat.le_of_ble_eq_true rfl) dX1_readMember_134 ⟨Nat.le_of_ble_eq_true rfl, Nat.le_of_ble_eq_true rfl⟩) hP hD hK hS hA (fun z163 u164 H locs w165 hP hD hK hS => ?_)
      obtain ⟨V168, L169⟩ := u164
      obtain ⟨hMV168, ajV168, axL169, rgz163, t166, t167⟩ := w165
      have axL169 : L = L169 := Eq.symm axL169
      subst axL169
      have hP : va_P D vwCl (xw ad kk V168 L Z) H := hP
      have hD : va_D A (xw ad kk V168 L Z) := hD
      have hMV168 : rgd bX V168 := hMV168
      have ajV168 : agr [(1, 3)] [] V V168 := ajV168
      have agV168 : agr [(1, 2), (1, 3), (1, 4), (1, 6), (1, 8), (6, 8), (6, 9), (6, 10)] [42, 43, 44, 48, 49, 56, 57, 58, 59, 60, 61] V V168 := agV.tr ajV168 (by decide) (by decide)
      have rgz163 : 0 ≤ z163.toInt ∧ z163.toInt ≤ 0 := rgz163
      have t166 : 1 ≤ (V168 1 3).toInt := t166
      have t167 : (V168 1 3).toInt = (Int32.toInt 1) + 16 * (V 6 10).toInt := t167
      have r170 : 0 ≤ ((V 6 10)).toInt ∧ ((V 6 10)).toInt ≤ 4000 := hMV 6 10
      have hr171 : ∀ k, Rc gT (Crun gs (Imember :: k)) (Crun gs (Imember :: k)) := fun k => Rc.rf
      have hb172 : ∀ k, Rc gT (Crun gs (Imember :: k)) (Cbad (V168 1 3).toInt) := fun k => Rc.go1 (hr171 k) ((mb_141f (kd161.trans fq111) (by by_cases q9 : gs.1 3 = 1; exact q9; exact absurd (ow0.2.2.1.mpr q9) (by omega))).trans (fl_eq (RelC.st rel) (show (V168 1 3).toInt = 1 + 16 * (V 6 10).toInt from by omega)))
      have pq173 : (V168 1 2).toInt = ((V 1 2)).toInt := congrArg Int32.toInt (ajV168 1 2 rfl)
      exact W.zret (v := z163) hx hb hr (nb_ok (by omega)) (fun t ht hW => ⟨⟨z163, (V168, L), rfl, ⟨hMV168, agV168, alL, (show 0 ≤ z163.toInt ∧ z163.toInt ≤ 1 from by omega), (show (V168 1 2).toInt = (V 1 2).toInt ∨ (V168 1 2).toInt = -1 from by omega), (Or.inr ⟨(by omega), hb172⟩)⟩, by rw [ht]; exact hP, va_K.moved hW.alike hK, hD⟩, hS.F ht⟩) hS.2.2 dX1_readMember_137
  have gq111 : ((V 6 9)).toInt ≠ 141 := b_neq rfl (by decide) q111
  by_cases q174 : (V 6 9) = 142
  · refine g_top (v := 142) q174 ?_
    have fq174 : ((V 6 9)).toInt = 142 := b_eq rfl (by decide) q174
    refine lv_lookup (x := 142) (off := 144) (tgt := 159) hx hb dX1_readMember_15 (by decide) (by decide) (by decide) ?_
    refine lv_aload_n hx hb dX1_readMember_159 rfl (lv_at hl 1 rfl) ?_
    have hr175 : ∀ k, Rc gT (Crun gs (Imember :: k)) (Crun gs (Imember :: k)) := fun k => Rc.rf
    refine gA_int (gA_runV (As := []) (rest := []) (ci := 1) (q0 := 1) hx hb hml hown hg hP hD hK hS hA hnw hgk (x_readMethod3 l D ks H.size ad kk V L Z (b) (gT) (gs) (go) hMV (show b < 2 from by omega) (show (V 1 1).toInt = (b : Int) from by omega) (show (V 1 2).toInt = (go : Int) from by omega) (show go < 48 from by omega) (show 24 * b ≤ go from by omega) (show go < 24 * b + 24 from by omega) rel (show (V 6 9).toInt = 142 from by omega)) w1015 w1017 w33 w162 w1018 rfl xgReader hdV_yX1_readMethod ⟨Nat.le_of_ble_eq_true rfl, Nat.le_of_ble_eq_true rfl⟩ rfl hl.1 rfl (Nat.le_of_ble_eq_true rfl) dX1_readMember_160 ⟨Nat.le_of_ble_eq_true rfl, Nat.le_of_ble_eq_true rfl⟩) hP hD hK hS hA (fun z176 u177 H locs w178 hP hD hK hS => ?_)
    obtain ⟨V180, L181⟩ := u177
    obtain ⟨hMV180, ajV180, axL181, rgz176, t179⟩ := w178
    have alL181 : agL [6, 44] L L181 := agL.tr alL axL181 (by decide)
    have hP : va_P D vwCl (xw ad kk V180 L181 Z) H := hP
    have hD : va_D A (xw ad kk V180 L181 Z) := hD
    have hMV180 : rgd bX V180 := hMV180
    have ajV180 : agr [(1, 3), (1, 4), (1, 6), (1, 8), (6, 8), (6, 9), (6, 10)] [42, 43, 44, 48, 61] V V180 := ajV180
    have agV180 : agr [(1, 2), (1, 3), (1, 4), (1, 6), (1, 8), (6, 8), (6, 9), (6, 10)] [42, 43, 44, 48, 49, 56, 57, 58, 59, 60, 61] V V180 := agV.tr ajV180 (by decide) (by decide)
    have rgz176 : 0 ≤ z176.toInt ∧ z176.toInt ≤ 1 := rgz176
    have t179 : Rd gT gs (fun k => Imember :: k) (fun k => Imember :: k) z176.toInt (V180 1 3).toInt (fun s9 => RelC V180 L181 b gT s9 ∧ gs.1 0 + 1 ≤ s9.1 0) := t179
    rcases t179 with ⟨q182, sx183, h184, rl185, kp186⟩ | ⟨q182, h184⟩
    · skip
      have hr187 : ∀ k, Rc gT (Crun gs (Imember :: k)) (Crun sx183 (Imember :: k)) := fun k => (hr175 k).tr (h184 k)
      have pq188 : (V180 1 2).toInt = ((V 1 2)).toInt := congrArg Int32.toInt (ajV180 1 2 rfl)
      have ps189 : gs.1 0 + 1 ≤ sx183.1 0 := kp186
      exact W.zret (v := z176) hx hb hr (nb_ok (by omega)) (fun t ht hW => ⟨⟨z176, (V180, L181), rfl, ⟨hMV180, agV180, alL181, (show 0 ≤ z176.toInt ∧ z176.toInt ≤ 1 from by omega), (show (V180 1 2).toInt = (V 1 2).toInt ∨ (V180 1 2).toInt = -1 from by omega), (Or.inl ⟨(by omega), sx183, (fun k => show Rc gT (Crun gs (Imember :: k)) (Crun sx183 (nxI (V180 1 2) k)) from by rw [nxI_m (show 0 ≤ (V180 1 2).toInt from by omega)]; exact hr187 k), rl185, (by omega)⟩)⟩, by rw [ht]; exact hP, va_K.moved hW.alike hK, hD⟩, hS.F ht⟩) hS.2.2 dX1_readMember_163
    · skip
      have hb190 : ∀ k, Rc gT (Crun gs (Imember :: k)) (Cbad (V180 1 3).toInt) := fun k => (hr175 k).tr (h184 k)
      have pq191 : (V180 1 2).toInt = ((V 1 2)).toInt := congrArg Int32.toInt (ajV180 1 2 rfl)
      exact W.zret (v := z176) hx hb hr (nb_ok (by omega)) (fun t ht hW => ⟨⟨z176, (V180, L181), rfl, ⟨hMV180, agV180, alL181, (show 0 ≤ z176.toInt ∧ z176.toInt ≤ 1 from by omega), (show (V180 1 2).toInt = (V 1 2).toInt ∨ (V180 1 2).toInt = -1 from by omega), (Or.inr ⟨(by omega), hb190⟩)⟩, by rw [ht]; exact hP, va_K.moved hW.alike hK, hD⟩, hS.F ht⟩) hS.2.2 dX1_readMember_163
  have gq174 : ((V 6 9)).toInt ≠ 142 := b_neq rfl (by decide) q174
  refine lv_lookup (x := (V 6 9)) (off := 149) (tgt := 164) hx hb dX1_readMember_15 (by decide) ((lv_osw q4 (by decide)).trans ((lv_osw q30 (by decide)).trans ((lv_osw q48 (by decide)).trans ((lv_osw q111 (by decide)).trans ((lv_osw q174 (by decide)).trans rfl))))) (by decide) ?_
  refine lv_aload_n hx hb dX1_readMember_164 rfl (lv_at hl 1 rfl) ?_
  refine lv_iconst (v := 1) hx hb dX1_readMember_165 (by decide) ?_
  have kd192 : gT.1 (gs.1 0) = ((V 6 9)).toInt := RelC.kd rel
  have r193 : Int32.toInt 1 = 1 := by decide
  refine gA_int (gA_runV (As := [.int 1]) (rest := []) (ci := 1) (q0 := 1) hx hb hml hown hg hP hD hK hS hA hnw hgk (x_wrong2 l D ks H.size ad kk V L Z 1 hMV (by decide)) w867 w869 w6 w162 w870 rfl xgReader hdV_yX1_wrong ⟨Nat.le_of_ble_eq_true rfl, Nat.le_of_ble_eq_true rfl⟩ rfl hl.1 rfl (Nat.le_of_ble_eq_true rfl) dX1_readMember_166 ⟨Nat.le_of_ble_eq_true rfl, Nat.le_of_ble_eq_true rfl⟩) hP hD hK hS hA (fun z194 u195 H locs w196 hP hD hK hS => ?_)
  obtain ⟨V199, L200⟩ := u195
  obtain ⟨hMV199, ajV199, axL200, rgz194, t197, t198⟩ := w196
  have axL200 : L = L200 := Eq.symm axL200
  subst axL200
  have hP : va_P D vwCl (xw ad kk V199 L Z) H := hP
  have hD : va_D A (xw ad kk V199 L Z) := hD
  have hMV199 : rgd bX V199 := hMV199
  have ajV199 : agr [(1, 3)] [] V V199 := ajV199
  have agV199 : agr [(1, 2), (1, 3), (1, 4), (1, 6), (1, 8), (6, 8), (6, 9), (6, 10)] [42, 43, 44, 48, 49, 56, 57, 58, 59, 60, 61] V V199 := agV.tr ajV199 (by decide) (by decide)
  have rgz194 : 0 ≤ z194.toInt ∧ z194.toInt ≤ 0 := rgz194
  have t197 : 1 ≤ (V199 1 3).toInt := t197
  have t198 : (V199 1 3).toInt = (Int32.toInt 1) + 16 * (V 6 10).toInt := t198
  have r201 : 0 ≤ ((V 6 10)).toInt ∧ ((V 6 10)).toInt ≤ 4000 := hMV 6 10
  have hr202 : ∀ k, Rc gT (Crun gs (Imember :: k)) (Crun gs (Imember :: k)) := fun k => Rc.rf
  have hb203 : ∀ k, Rc gT (Crun gs (Imember :: k)) (Cbad (V199 1 3).toInt) := fun k => Rc.go1 (hr202 k) ((mb_x (fun h9 => gq4 (kd192.symm.trans h9)) (fun h9 => gq30 (kd192.symm.trans h9)) (fun h9 => gq48 (kd192.symm.trans h9)) (fun h9 => gq111 (kd192.symm.trans h9)) (fun h9 => gq174 (kd192.symm.trans h9))).trans (fl_eq (RelC.st rel) (show (V199 1 3).toInt = 1 + 16 * (V 6 10).toInt from by omega)))
  have pq204 : (V199 1 2).toInt = ((V 1 2)).toInt := congrArg Int32.toInt (ajV199 1 2 rfl)
  exact W.zret (v := z194) hx hb hr (nb_ok (by omega)) (fun t ht hW => ⟨⟨z194, (V199, L), rfl, ⟨hMV199, agV199, alL, (show 0 ≤ z194.toInt ∧ z194.toInt ≤ 1 from by omega), (show (V199 1 2).toInt = (V 1 2).toInt ∨ (V199 1 2).toInt = -1 from by omega), (Or.inr ⟨(by omega), hb203⟩)⟩, by rw [ht]; exact hP, va_K.moved hW.alike hK, hD⟩, hS.F ht⟩) hS.2.2 dX1_readMember_169
