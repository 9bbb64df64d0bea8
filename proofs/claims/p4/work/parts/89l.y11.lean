/-! members and statements -/
def nxI (x : Int32) (k : List It) : List It := if x.toInt < 0 then Istmt :: k else Imember :: k
theorem nxI_s {x : Int32} {k : List It} (h : x.toInt < 0) : nxI x k = Istmt :: k := if_pos h
theorem nxI_m {x : Int32} {k : List It} (h : 0 ≤ x.toInt) : nxI x k = Imember :: k := if_neg (by omega)
theorem own_e {V : Vf} {o : Nat} (h : (V 1 2).toInt = (o : Int)) : Int32.toNatClampNeg (V 1 2) = o := by
  have := i_clamp (x := V 1 2) rfl (by omega)
  omega
theorem RelC.ow {V : Vf} {L : Lf} {b : Nat} {T : Tk} {s : St} {o : Nat} (h : RelC V L b T s) (ho : (V 1 2).toInt = (o : Int)) : OWr V o s := by
  have z := h.2.2.2.2 (by omega)
  rw [own_e ho] at z
  exact z
/-- all but what the owner has -/
theorem RelC.w1 {V W : Vf} {L : Lf} {b c k : Nat} {v : Int32} {T : Tk} {s s' : St} (h : RelC V L b T s) (e : W = up2 V c k v) (hc : ¬ c = 12 ∧ ¬ c = 13 ∧ ¬ c = 41 ∧ ¬ c = 43 ∧ ¬ c = 63 ∧ ¬ c = 65 ∧ ¬ c = 6) (h3 : ¬ (c = 1 ∧ k = 3)) (e1 : s'.1 0 = s.1 0) (e2 : s'.2.1 = s.2.1) (e4 : s'.2.2.1 = s.2.2.1) (ow : OWc W s') : RelC W L b T s' := by
  have f : ∀ x, ¬ c = x → W x = V x := fun x hx => up2_fo e (fun q => hx q.symm)
  have e6 : W 6 = V 6 := f 6 hc.2.2.2.2.2.2
  have e3 : W 1 3 = V 1 3 := by
    by_cases q : c = 1
    · subst q
      exact up2_k e (fun z => h3 ⟨rfl, z.symm⟩)
    · rw [f 1 q]
  refine ⟨?_, h.2.1.ag (by rw [e6]) (f 12 hc.1) (f 13 hc.2.1) rfl e3, h.2.2.1.ag (f 43 hc.2.2.2.1) rfl e2, h.2.2.2.1.ag (f 41 hc.2.2.1) (f 63 hc.2.2.2.2.1) (f 65 hc.2.2.2.2.2.1) e4, ow⟩
  rw [e1]
  exact h.1.ag (by rw [e6]) (by rw [e6]) (by rw [e6]) (by rw [e6]) (f 12 hc.1) (f 13 hc.2.1) rfl rfl
theorem RelC.mt {V W : Vf} {L : Lf} {b o f : Nat} {v : Int32} {T : Tk} {s : St} {l : List Nat} (h : RelC V L b T s) (ho : (V 1 2).toInt = (o : Int)) (e : W = up2 V 61 (20 * o + f) v) (hv : v.toInt ≠ -1) (hl : l = s.2.2.2) : RelC W L b T (sT s (f :: l)) := by
  have z := h.ow ho
  have e2 : W 1 2 = V 1 2 := up2_o e (by decide)
  refine h.w1 e (by decide) (fun q => absurd q.1 (by decide)) rfl rfl rfl (fun _ => ?_)
  rw [e2, own_e ho]
  refine ⟨by rw [up2_fo e (by decide)]; exact z.1, by rw [up2_fo e (by decide)]; exact z.2.1, by rw [up2_fo e (by decide)]; exact z.2.2.1, z.2.2.2.1, fun g hg => ?_⟩
  show _ ↔ g ∈ f :: l
  rw [List.mem_cons, hl]
  by_cases q : g = f
  · subst q
    rw [up2_s e]
    exact ⟨fun _ => Or.inl rfl, fun _ => hv⟩
  · rw [up2_k e (by omega), z.2.2.2.2 g hg]
    exact ⟨fun x => Or.inr x, fun x => x.elim (fun y => absurd y q) id⟩
theorem RelC.op {V W : Vf} {L : Lf} {b o : Nat} {v : Int32} {T : Tk} {s : St} (h : RelC V L b T s) (ho : (V 1 2).toInt = (o : Int)) (e : W = up2 V 56 o v) (hv : v.toInt ≠ -1) : RelC W L b T (sN s 2 1) := by
  have z := h.ow ho
  have e2 : W 1 2 = V 1 2 := up2_o e (by decide)
  refine h.w1 e (by decide) (fun q => absurd q.1 (by decide)) rfl rfl rfl (fun _ => ?_)
  rw [e2, own_e ho]
  refine ⟨by rw [up2_fo e (by decide)]; exact z.1, ?_, by rw [up2_fo e (by decide)]; exact z.2.2.1, z.2.2.2.1, by rw [up2_fo e (by decide)]; exact z.2.2.2.2⟩
  rw [up2_s e]
  exact ⟨fun q => absurd q hv, fun q => absurd rfl q⟩
theorem RelC.cl {V W : Vf} {L : Lf} {b o : Nat} {v : Int32} {T : Tk} {s : St} (h : RelC V L b T s) (ho : (V 1 2).toInt = (o : Int)) (e : W = up2 V 57 o v) (hv : v.toInt ≠ -1) : RelC W L b T (sN s 3 1) := by
  have z := h.ow ho
  have e2 : W 1 2 = V 1 2 := up2_o e (by decide)
  refine h.w1 e (by decide) (fun q => absurd q.1 (by decide)) rfl rfl rfl (fun _ => ?_)
  rw [e2, own_e ho]
  refine ⟨by rw [up2_fo e (by decide)]; exact z.1, by rw [up2_fo e (by decide)]; exact z.2.1, ?_, z.2.2.2.1, by rw [up2_fo e (by decide)]; exact z.2.2.2.2⟩
  rw [up2_s e]
  exact ⟨fun q => absurd q hv, fun q => absurd rfl q⟩
/-- the owner is set, is taken away -/
theorem RelC.os {V W : Vf} {L : Lf} {b o : Nat} {x : Int32} {T : Tk} {s : St} (h : RelC V L b T s) (e : W = up2 V 1 2 x) (hx : x.toInt = (o : Int)) (ow : OWr V o s) : RelC W L b T s := by
  refine h.w1 e (by decide) (fun q => absurd q.2 (by decide)) rfl rfl rfl (fun _ => ?_)
  have e1 : W 1 2 = x := up2_s e
  have e2 : Int32.toNatClampNeg (W 1 2) = o := own_e (by rw [e1]; exact hx)
  rw [e2]
  exact ow.ag (up2_fo e (by decide)) (up2_fo e (by decide)) (up2_fo e (by decide)) (up2_fo e (by decide)) (fun _ _ => rfl) rfl
theorem RelC.on {V W : Vf} {L : Lf} {b : Nat} {x : Int32} {T : Tk} {s : St} (h : RelC V L b T s) (e : W = up2 V 1 2 x) (hx : x.toInt < 0) : RelC W L b T s :=
  h.w1 e (by decide) (fun q => absurd q.2 (by decide)) rfl rfl rfl (fun q => by
    have e1 : W 1 2 = x := up2_s e
    rw [e1] at q
    omega)
/-- there is no owner: his places may be written -/
def okE (fs : List (Nat × Nat)) (cs : List Nat) : Bool := cs.all (fun c => !([1, 6, 12, 13, 41, 43, 63, 65].contains c)) && fs.all (fun x => !([(6, 7), (6, 8), (6, 9), (6, 10), (1, 2), (1, 3)].contains x) && decide (x.1 ≤ 6))
theorem RelC.agn {V W : Vf} {L M : Lf} {b : Nat} {T : Tk} {s : St} {fs : List (Nat × Nat)} {cs ls : List Nat} (h : RelC V L b T s) (hn : (V 1 2).toInt < 0) (a : agr fs cs V W) (k : okE fs cs = true) (m : agL ls L M) (j : okLs ls = true) : RelC W M b T s := by
  have u := okLs.use m j
  have e12 : W 12 = V 12 := funext fun q => ok_use a k (x := 12) rfl (Or.inl (by decide))
  have e13 : W 13 = V 13 := funext fun q => ok_use a k (x := 13) rfl (Or.inl (by decide))
  have e7 : W 6 7 = V 6 7 := ok_use a k rfl (Or.inr rfl)
  have e2 : W 1 2 = V 1 2 := ok_use a k rfl (Or.inr rfl)
  refine ⟨h.1.ag e7 (ok_use a k rfl (Or.inr rfl)) (ok_use a k rfl (Or.inr rfl)) (ok_use a k rfl (Or.inr rfl)) e12 e13 u.1 u.2.1, h.2.1.ag e7 e12 e13 u.2.1 (ok_use a k rfl (Or.inr rfl)), h.2.2.1.ag (funext fun q => ok_use a k (x := 43) rfl (Or.inl (by decide))) u.2.2 rfl, h.2.2.2.1.ag (funext fun q => ok_use a k (x := 41) rfl (Or.inl (by decide))) (funext fun q => ok_use a k (x := 63) rfl (Or.inl (by decide))) (funext fun q => ok_use a k (x := 65) rfl (Or.inl (by decide))) rfl, ?_⟩
  intro q
  rw [e2] at q
  omega
/-- a need more -/
def okD (fs : List (Nat × Nat)) (cs : List Nat) : Bool := cs.all (fun c => !([1, 6, 12, 13, 41, 43, 56, 57, 61, 63, 65].contains c)) && fs.all (fun x => !([(6, 7), (6, 8), (6, 9), (6, 10), (1, 2), (1, 3)].contains x) && decide (x.1 ≤ 6))
theorem RelC.nd {V W : Vf} {L : Lf} {b o : Nat} {T : Tk} {s : St} {fs : List (Nat × Nat)} {cs : List Nat} (h : RelC V L b T s) (ho : (V 1 2).toInt = (o : Int)) (a : agr fs cs V W) (k : okD fs cs = true) (n1 : (W 49 o).toInt = (V 49 o).toInt + 1) : RelC W L b T (sN s 1 (s.1 1 + 1)) := by
  have e12 : W 12 = V 12 := funext fun q => ok_use a k (x := 12) rfl (Or.inl (by decide))
  have e13 : W 13 = V 13 := funext fun q => ok_use a k (x := 13) rfl (Or.inl (by decide))
  have e7 : W 6 7 = V 6 7 := ok_use a k rfl (Or.inr rfl)
  have e2 : W 1 2 = V 1 2 := ok_use a k rfl (Or.inr rfl)
  have z := h.ow ho
  refine ⟨h.1.ag e7 (ok_use a k rfl (Or.inr rfl)) (ok_use a k rfl (Or.inr rfl)) (ok_use a k rfl (Or.inr rfl)) e12 e13 rfl rfl, h.2.1.ag e7 e12 e13 rfl (ok_use a k rfl (Or.inr rfl)), h.2.2.1.ag (funext fun q => ok_use a k (x := 43) rfl (Or.inl (by decide))) rfl rfl, h.2.2.2.1.ag (funext fun q => ok_use a k (x := 41) rfl (Or.inl (by decide))) (funext fun q => ok_use a k (x := 63) rfl (Or.inl (by decide))) (funext fun q => ok_use a k (x := 65) rfl (Or.inl (by decide))) rfl, fun _ => ?_⟩
  rw [e2, own_e ho]
  have e56 : W 56 = V 56 := funext fun q => ok_use a k (x := 56) rfl (Or.inl (by decide))
  have e57 : W 57 = V 57 := funext fun q => ok_use a k (x := 57) rfl (Or.inl (by decide))
  have e61 : W 61 = V 61 := funext fun q => ok_use a k (x := 61) rfl (Or.inl (by decide))
  refine ⟨?_, by rw [e56]; exact z.2.1, by rw [e57]; exact z.2.2.1, z.2.2.2.1, by rw [e61]; exact z.2.2.2.2⟩
  rw [n1, z.1]
  show ((s.1 1 : Nat) : Int) + 1 = ((s.1 1 + 1 : Nat) : Int)
  omega
theorem OWr.fresh {V : Vf} {o n : Nat} {s s' : St} (k : keepS (scopeS s) n s') (c49 : (V 49 o).toInt = 0) (c56 : (V 56 o).toInt = -1) (c57 : (V 57 o).toInt = -1) (c61 : ∀ q : Nat, (q : Int) < 20 → (V 61 (20 * o + q)).toInt = -1) (w : Int64) : OWr V o (sA s' 2 w) := by
  refine ⟨?_, ⟨fun _ => ?_, fun _ => c56⟩, ⟨fun _ => ?_, fun _ => c57⟩, ?_, fun f hf => ?_⟩
  · show _ = ((s'.1 1 : Nat) : Int)
    rw [c49, k.2.1 1 (by decide)]
    rfl
  · show s'.1 2 ≠ 1
    rw [k.2.1 2 (by decide)]
    show (0 : Nat) ≠ 1
    decide
  · show s'.1 3 ≠ 1
    rw [k.2.1 3 (by decide)]
    show (0 : Nat) ≠ 1
    decide
  · show s'.1 4 = 0
    rw [k.2.1 4 (by decide)]
    rfl
  · show _ ↔ f ∈ s'.2.2.2
    rw [k.2.2.2]
    exact ⟨fun q => absurd (c61 f (by omega)) q, fun q => absurd q List.not_mem_nil⟩
/-! wraps -/
theorem take_s {α : Type} : ∀ (l : List α) (i : Nat) (h : i < l.length), l.take (i + 1) = l.take i ++ [l[i]]
  | [], i, h => absurd h (Nat.not_lt_zero _)
  | a :: l, 0, h => rfl
  | a :: l, i + 1, h => congrArg (List.cons a) (take_s l i (Nat.lt_of_succ_lt_succ h))
theorem ar_app (l : List (Nat × Bool)) (x : Nat × Bool) (f : Nat) : arounds (l ++ [x]) f = arounds l f + (if x.1 = f ∧ x.2 = true then 1 else 0) := by
  unfold arounds
  rw [List.filter_append, List.length_append]
  by_cases c : x.1 = f ∧ x.2 = true
  · rw [if_pos c, List.filter_cons_of_pos (by rw [c.1, c.2]; simp)]
    rfl
  · rw [if_neg c, List.filter_cons_of_neg (by intro q; rw [Bool.and_eq_true, beq_iff_eq] at q; exact c q)]
    rfl
theorem WRc.st {V : Vf} {b i f : Nat} {s : St} (h : WRc V b s) (hi : (i : Int) < (V 41 b).toInt) : arounds (s.2.2.1.take (i + 1)) f = arounds (s.2.2.1.take i) f + (if (V 65 (12 * b + i)).toInt = 1 ∧ (V 63 (12 * b + i)).toInt = (f : Int) then 1 else 0) := by
  have hl : i < s.2.2.1.length := by have := h.1; omega
  have z := h.2 i hl
  rw [take_s _ i hl, ar_app, z.2]
  congr 1
  by_cases c : (V 65 (12 * b + i)).toInt = 1 ∧ (V 63 (12 * b + i)).toInt = (f : Int)
  · rw [if_pos c, if_pos ⟨by show (V 63 (12 * b + i)).toInt.toNat = f; omega, decide_eq_true c.1⟩]
  · rw [if_neg c, if_neg (fun q => c ⟨of_decide_eq_true q.2, by have q1 : (V 63 (12 * b + i)).toInt.toNat = f := q.1; omega⟩)]
theorem WRc.all {V : Vf} {b i f : Nat} {s : St} (h : WRc V b s) (hi : (i : Int) = (V 41 b).toInt) : arounds (s.2.2.1.take i) f = arounds s.2.2.1 f := by
  rw [List.take_of_length_le (by have := h.1; omega)]
def okW (fs : List (Nat × Nat)) (cs : List Nat) : Bool := cs.all (fun c => !([1, 6, 12, 13, 43, 49, 56, 57, 61].contains c)) && fs.all (fun x => !([(6, 7), (6, 8), (6, 9), (6, 10), (1, 2), (1, 3)].contains x) && decide (x.1 ≤ 6))
theorem RelC.wr {V W : Vf} {L : Lf} {b f : Nat} {m q9 : Int32} {T : Tk} {s : St} {fs : List (Nat × Nat)} {cs : List Nat} (h : RelC V L b T s) (a : agr fs cs V W) (k : okW fs cs = true) (h0 : 0 ≤ (V 41 b).toInt) (n1 : (W 41 b).toInt = (V 41 b).toInt + 1) (e63 : W 63 = upd (V 63) (12 * b + Int32.toNatClampNeg (V 41 b)) m) (e65 : W 65 = upd (V 65) (12 * b + Int32.toNatClampNeg (V 41 b)) q9) (hm : m.toInt = (f : Int)) : RelC W L b T (sW s (f, decide (q9.toInt = 1))) := by
  have e12 : W 12 = V 12 := funext fun q => ok_use a k (x := 12) rfl (Or.inl (by decide))
  have e13 : W 13 = V 13 := funext fun q => ok_use a k (x := 13) rfl (Or.inl (by decide))
  have e7 : W 6 7 = V 6 7 := ok_use a k rfl (Or.inr rfl)
  have e2 : W 1 2 = V 1 2 := ok_use a k rfl (Or.inr rfl)
  have kc := i_clamp (x := V 41 b) rfl h0
  have w := h.2.2.2.1
  have wl := w.1
  refine ⟨h.1.ag e7 (ok_use a k rfl (Or.inr rfl)) (ok_use a k rfl (Or.inr rfl)) (ok_use a k rfl (Or.inr rfl)) e12 e13 rfl rfl, h.2.1.ag e7 e12 e13 rfl (ok_use a k rfl (Or.inr rfl)), h.2.2.1.ag (funext fun q => ok_use a k (x := 43) rfl (Or.inl (by decide))) rfl rfl, ⟨?_, ?_⟩, ?_⟩
  · show ((s.2.2.1 ++ [(f, decide (q9.toInt = 1))]).length : Int) = _
    rw [List.length_append, n1]
    show ((s.2.2.1.length + 1 : Nat) : Int) = _
    omega
  · show ∀ i (hi : i < (s.2.2.1 ++ [(f, decide (q9.toInt = 1))]).length), 0 ≤ (W 63 (12 * b + i)).toInt ∧ (s.2.2.1 ++ [(f, decide (q9.toInt = 1))])[i] = ((W 63 (12 * b + i)).toInt.toNat, decide ((W 65 (12 * b + i)).toInt = 1))
    intro i hi
    rw [e63, e65]
    have hi2 : i < s.2.2.1.length + 1 := by rw [List.length_append] at hi; exact hi
    by_cases c : i < s.2.2.1.length
    · have u1 : upd (V 63) (12 * b + Int32.toNatClampNeg (V 41 b)) m (12 * b + i) = V 63 (12 * b + i) := if_neg (by omega)
      have u2 : upd (V 65) (12 * b + Int32.toNatClampNeg (V 41 b)) q9 (12 * b + i) = V 65 (12 * b + i) := if_neg (by omega)
      rw [u1, u2, List.getElem_append_left c]
      exact w.2 i c
    · have ei : i = s.2.2.1.length := by omega
      have u1 : upd (V 63) (12 * b + Int32.toNatClampNeg (V 41 b)) m (12 * b + i) = m := if_pos (by omega)
      have u2 : upd (V 65) (12 * b + Int32.toNatClampNeg (V 41 b)) q9 (12 * b + i) = q9 := if_pos (by omega)
      rw [u1, u2, List.getElem_append_right (by omega), hm]
      refine ⟨by omega, ?_⟩
      rw [Int.toNat_natCast]
      exact List.getElem_singleton _
  · intro q
    rw [e2] at q ⊢
    exact (h.2.2.2.2 q).ag (funext fun q => ok_use a k (x := 49) rfl (Or.inl (by decide))) (funext fun q => ok_use a k (x := 56) rfl (Or.inl (by decide))) (funext fun q => ok_use a k (x := 57) rfl (Or.inl (by decide))) (funext fun q => ok_use a k (x := 61) rfl (Or.inl (by decide))) (fun _ _ => rfl) rfl
theorem RelC.s4 {V : Vf} {L : Lf} {b v : Nat} {T : Tk} {s : St} (h : RelC V L b T s) (hn : (V 1 2).toInt < 0) : RelC V L b T (sN s 4 v) := ⟨h.1, h.2.1, h.2.2.1, h.2.2.2.1, fun q => absurd q (by omega)⟩


abbrev r_x_readExpression38 : Room := { frames := 89, cells := 0, slots := 0, locals := 2640 }
abbrev q_x_readExpression38 (D : va_G) (ks : KS) (ad : Nat → Nat) (kk : Nat → ClassId) (V : Vf) (L : Lf) (Z : XZ) (p0 : Int32) (b : Nat) (gT : Tk) (gs : St) (gd : Nat) (A : Nat → Prop) : Array Value → State → Outcome → State → Prop := q_x_readExpression3 D ks ad kk V L Z p0 b gT gs gd A
theorem x_readExpression38 (l : Launch) (D : va_G) (ks : KS) (sz : Nat) (ad : Nat → Nat) (kk : Nat → ClassId) (V : Vf) (L : Lf) (Z : XZ) (p0 : Int32) (b : Nat) (gT : Tk) (gs : St) (gd : Nat) (hMV : rgd bX V) (rg_p0 : 0 ≤ p0.toInt ∧ p0.toInt ≤ 0) (hb2 : b < 2) (rbk : (V 1 1).toInt = (b : Int)) (rel : RelC V L b gT gs) (yd : p0.toInt = (gd : Int)) (wh : (V 1 4).toInt = ((gs.1 4 : Nat) : Int)) (ow : ((V 1 4).toInt = 0 → 0 ≤ (V 1 2).toInt)) : Met l yX1_readExpression (Cond.code yX1_readExpression cX1_readExpression 3 (some .boolean) :: GW) r_x_readExpression38 (va_Pc [.ref (ad 1), .int p0] (gp D ks (xw ad kk V L Z) (xty kk Z) sz)) (q_x_readExpression38 D ks ad kk V L Z p0 b gT gs gd (va_A (xw ad kk V L Z) sz)) 0 0 (va_A (xw ad kk V L Z) sz) :=
  K_xexpr3 8 sz ad kk V L Z p0 b gT gs gd hMV (by omega) hb2 rbk rel yd wh ow (by omega)

abbrev r_x_readE3 : Room := { frames := 90, cells := 0, slots := 0, locals := 2662 }
abbrev q_x_readE3 (D : va_G) (ks : KS) (ad : Nat → Nat) (kk : Nat → ClassId) (V : Vf) (L : Lf) (Z : XZ) (p0 : Int32) (b : Nat) (gT : Tk) (gs : St) (A : Nat → Prop) : Array Value → State → Outcome → State → Prop := va_Qi (fun (r : Int32) (u : Vf × Lf) => rgd bX u.1 ∧ agr [(1, 3), (1, 4), (1, 6), (1, 8), (6, 8), (6, 9), (6, 10)] [42, 43, 44, 48] V u.1 ∧ agL [6, 44] L u.2 ∧ (0 ≤ r.toInt ∧ r.toInt ≤ 1) ∧ (Rd gT gs (fun k => Iexpr 0 :: Itake 59 :: k) (fun k => k) r.toInt (u.1 1 3).toInt (fun s9 => RelC u.1 u.2 b gT s9 ∧ keepS gs 2 s9)) ∧ (ROWL b L u.2)) (fun u t => gq D A (xw ad kk u.1 u.2 Z) (xty kk Z) t) A
set_option maxHeartbeats 4000000 in
set_option maxRecDepth 100000 in
theorem x_readE3 (l : Launch) (D : va_G) (ks : KS) (sz : Nat) (ad : Nat → Nat) (kk : Nat → ClassId) (V : Vf) (L : Lf) (Z : XZ) (p0 : Int32) (b : Nat) (gT : Tk) (gs : St) (hMV : rgd bX V) (rg_p0 : 0 ≤ p0.toInt ∧ p0.toInt ≤ 2) (hb2 : b < 2) (rbk : (V 1 1).toInt = (b : Int)) (rel : RelC V L b gT gs) (pw : p0.toInt = ((gs.1 4 : Nat) : Int)) (owp : (p0.toInt = 0 → 0 ≤ (V 1 2).toInt))  : Met l yX1_readE (Cond.code yX1_readE cX1_readE 2 (some .boolean) :: GW) r_x_readE3 (va_Pc [.ref (ad 1), .int p0] (gp D ks (xw ad kk V L Z) (xty kk Z) sz)) (q_x_readE3 D ks ad kk V L Z p0 b gT gs (va_A (xw ad kk V L Z) sz)) 0 0 (va_A (xw ad kk V L Z) sz) := by
  refine g_met (q_x_readE3 D ks ad kk V L Z p0 b gT gs) (by decide) (Nat.le_of_ble_eq_true rfl) ?_
  intro p e s m below meth c A ls H locs hx hb hr hml hown hg hlocks hin hnw hgk hP hK hD hS hA hl
  have hown : s.vm.findClass RX1 = some m.cls := hown
  have hl : lv_has ls 2 [(0, .ref (ad 1)), (1, .int p0)] := hl
  have hP : va_P D vwCl (xw ad kk V L Z) H := hP
  have hD : va_D A (xw ad kk V L Z) := hD
  have hK : va_K D vwCl (xty kk Z) s := hK
  have agV : agr [(1, 3), (1, 4), (1, 6), (1, 8), (6, 8), (6, 9), (6, 10)] [42, 43, 44, 48] V V := agr.rf
  have alL : agL [6, 44] L L := agL.rf
  have rf_p0 := i_full p0
  have r1 : (-1) ≤ ((V 1 1)).toInt ∧ ((V 1 1)).toInt ≤ 1 := hMV 1 1
  refine lv_aload_n hx hb dX1_readE_0 rfl (lv_at hl 0 rfl) ?_
  refine lv_iload_n hx hb dX1_readE_1 rfl (lv_at hl 1 rfl) ?_
  refine va_put (D := D) (ci := 1) (v := .int p0) (ty := tyX1 4) (fs := (xfReader ad V L Z)) (C := RX1) (T := TX1) (N := 9) hx hb hg inX1 tyX1 tyX1_ok nmX1 hown hK hP hD hS 1 xgReader rfl 4 (by decide) (hg _ w308) (fun _ h9 => h9) rfl (tyX1_ok 4 (by decide)) rfl rfl (Nat.le_of_ble_eq_true rfl) dX1_readE_2 (fun H locs hP hD hS => ?_)
  obtain ⟨V2, hV2⟩ : ∃ z, z = up2 V 1 4 p0 := ⟨_, rfl⟩
  have ew3 : (xw ad kk V L Z).set 1 ((ad 1), .inr (1, (xfReader ad V L Z).set 4 (.int p0))) = xw ad kk V2 L Z := by rw [hV2]; exact xw_ss (by decide) rfl (xb_si (by decide))
  have hP : va_P D vwCl (xw ad kk V2 L Z) H := by rw [← ew3]; exact hP
  have hD : va_D A (xw ad kk V2 L Z) := by rw [← ew3]; exact hD
  have hMV2 : rgd bX V2 := hMV.put hV2 (show 0 ≤ p0.toInt ∧ p0.toInt ≤ 2 from by omega)
  have agV2 : agr [(1, 3), (1, 4), (1, 6), (1, 8), (6, 8), (6, 9), (6, 10)] [42, 43, 44, 48] V V2 := agV.up hV2 rfl
  refine lv_aload_n hx hb dX1_readE_5 rfl (lv_at hl 0 rfl) ?_
  refine lv_iconst (v := 0) hx hb dX1_readE_6 (by decide) ?_
  have rl4 : RelC V2 L b gT gs := RelC.ag rel (show agr [(1, 4)] [] V V2 from (agr.up agr.rf hV2 rfl)) (by decide) (show agL [] L L from agL.rf) (by decide)
  have hr5 : ∀ k, Rc gT (Crun gs (Iexpr 0 :: Itake 59 :: k)) (Crun gs (Iexpr 0 :: Itake 59 :: k)) := fun k => Rc.rf
  have r6 : Int32.toInt 0 = 0 := by decide
  have pq7 : (V2 1 1).toInt = ((V 1 1)).toInt := congrArg Int32.toInt (up2_k hV2 (by decide))
  refine gA_int (gA_runV (As := [.int 0]) (rest := []) (ci := 1) (q0 := 1) hx hb hml hown hg hP hD hK hS hA hnw hgk (x_readExpression38 l D ks H.size ad kk V2 L Z 0 (b) (gT) (gs) (0) hMV2 (by decide) (show b < 2 from by omega) (show (V2 1 1).toInt = (b : Int) from by omega) rl4 (show (Int32.toInt 0) = (0 : Int) from by omega) ((congrArg Int32.toInt (up2_s hV2)).trans pw) (fun h9 => by rw [(up2_k hV2 (by decide))]; exact owp ((congrArg Int32.toInt (up2_s hV2)).symm.trans h9))) w951 w953 w21 w162 w954 rfl xgReader hdV_yX1_readExpression ⟨Nat.le_of_ble_eq_true rfl, Nat.le_of_ble_eq_true rfl⟩ rfl hl.1 rfl (Nat.le_of_ble_eq_true rfl) dX1_readE_7 ⟨Nat.le_of_ble_eq_true rfl, Nat.le_of_ble_eq_true rfl⟩) hP hD hK hS hA (fun z8 u9 H locs w10 hP hD hK hS => ?_)
  obtain ⟨V13, L14⟩ := u9
  obtain ⟨hMV13, ajV13, axL14, rgz8, t11, t12⟩ := w10
  have alL14 : agL [6, 44] L L14 := agL.tr alL axL14 (by decide)
  have hP : va_P D vwCl (xw ad kk V13 L14 Z) H := hP
  have hD : va_D A (xw ad kk V13 L14 Z) := hD
  have hMV13 : rgd bX V13 := hMV13
  have ajV13 : agr [(1, 3), (1, 6), (1, 8), (6, 8), (6, 9), (6, 10)] [42, 43, 44, 48] V2 V13 := ajV13
  have agV13 : agr [(1, 3), (1, 4), (1, 6), (1, 8), (6, 8), (6, 9), (6, 10)] [42, 43, 44, 48] V V13 := agV2.tr ajV13 (by decide) (by decide)
  have rgz8 : 0 ≤ z8.toInt ∧ z8.toInt ≤ 1 := rgz8
  have t11 : Rd gT gs (fun k => Iexpr 0 :: k) (fun k => k) z8.toInt (V13 1 3).toInt (fun s9 => RelC V13 L14 b gT s9 ∧ keepS gs 1 s9) := t11
  have t12 : ROWL b L L14 := t12
  rcases t11 with ⟨q15, sx16, h17, rl18, kp19⟩ | ⟨q15, h17⟩
  · skip
    have hr20 : ∀ k, Rc gT (Crun gs (Iexpr 0 :: Itake 59 :: k)) (Crun sx16 (Itake 59 :: k)) := fun k => (hr5 k).tr (h17 (Itake 59 :: k))
    refine lv_if_ne (tgt := 15) hx hb dX1_readE_10 (by decide) (fun c21 => ?_) (fun c21 => ?_)
    · skip
      have f22 : z8.toInt ≠ 0 := b_neq rfl (by decide) c21
      refine lv_aload_n hx hb dX1_readE_15 rfl (lv_at hl 0 rfl) ?_
      refine va_get (D := D) (ci := 1) (v := rfN ad 38 (V13 1 1)) (fs := (xfReader ad V13 L14 Z)) (C := RX1) (T := TX1) (N := 9) hx hb hg inX1 hown hK hP 1 xgReader rfl 1 (by decide) (hg _ w305) (fun _ h9 => h9) rfl dX1_readE_16 ?_
      have pq23 : (V13 1 1).toInt = ((V 1 1)).toInt := congrArg Int32.toInt ((ajV13 1 1 rfl).trans (up2_k hV2 (by decide)))
      refine g_topv (v := .ref (ad (38 + b))) (rfN_r (by omega)) ?_
      refine lv_iconst (v := 0) hx hb dX1_readE_19 (by decide) ?_
      refine gA_void (gA_runV (As := [.int 0]) (rest := []) (ci := 0) (q0 := (38 + b)) hx hb hml hown hg hP hD hK hS hA hnw hgk (x_emit l D ks H.size ad kk V13 L14 Z 0 (b) hMV13 (show b < 2 from by omega)) w971 w972 w973 w167 w974 rfl (xgBook hb2) hdV_yX0_emit ⟨Nat.le_of_ble_eq_true rfl, Nat.le_of_ble_eq_true rfl⟩ rfl hl.1 rfl (Nat.le_of_ble_eq_true rfl) dX1_readE_20 ⟨Nat.le_of_ble_eq_true rfl, Nat.le_of_ble_eq_true rfl⟩) hP hD hK hS hA (fun u25 H locs w26 hP hD hK hS => ?_)
      obtain ⟨V28, L29⟩ := u25
      obtain ⟨hMV28, ajV28, axL29, fyV28, t27⟩ := w26
      have axL29 : L14 = L29 := Eq.symm axL29
      subst axL29
      have hP : va_P D vwCl (xw ad kk V28 L14 Z) H := hP
      have hD : va_D A (xw ad kk V28 L14 Z) := hD
      have hMV28 : rgd bX V28 := hMV28
      have ajV28 : agr [] [42, 48] V13 V28 := ajV28
      have agV28 : agr [(1, 3), (1, 4), (1, 6), (1, 8), (6, 8), (6, 9), (6, 10)] [42, 43, 44, 48] V V28 := agV13.tr ajV28 (by decide) (by decide)
      have t27 : emX V13 V28 b 0 := t27
      refine lv_aload_n hx hb dX1_readE_23 rfl (lv_at hl 0 rfl) ?_
      refine lv_bipush (v := 59) hx hb dX1_readE_24 (by decide) ?_
      have rl30 : RelC V28 L14 b gT sx16 := RelC.ag rl18 (show agr [] [42, 48] V13 V28 from (agr.tr agr.rf ajV28 (by decide) (by decide))) (by decide) (show agL [] L14 L14 from agL.rf) (by decide)
      have r31 : Int32.toInt 59 = 59 := by decide
      refine gA_int (gA_runV (As := [.int 59]) (rest := []) (ci := 1) (q0 := 1) hx hb hml hown hg hP hD hK hS hA hnw hgk (x_take2 l D ks H.size ad kk V28 L14 Z 59 ((sx16.1 0)) hMV28 (rl30).1 (rl30).2.1.1 (show 1 ≤ (Int32.toInt 59) from by omega)) w893 w895 w10 w162 w896 rfl xgReader hdV_yX1_take ⟨Nat.le_of_ble_eq_true rfl, Nat.le_of_ble_eq_true rfl⟩ rfl hl.1 rfl (Nat.le_of_ble_eq_true rfl) dX1_readE_26 ⟨Nat.le_of_ble_eq_true rfl, Nat.le_of_ble_eq_true rfl⟩) hP hD hK hS hA (fun z32 u33 H locs w34 hP hD hK hS => ?_)
      obtain ⟨V37, L38⟩ := u33
      obtain ⟨hMV37, ajV37, axL38, rgz32, t35, t36⟩ := w34
      have alL38 : agL [6, 44] L L38 := agL.tr alL14 axL38 (by decide)
      have hP : va_P D vwCl (xw ad kk V37 L38 Z) H := hP
      have hD : va_D A (xw ad kk V37 L38 Z) := hD
      have hMV37 : rgd bX V37 := hMV37
      have ajV37 : agr [(1, 3), (6, 8), (6, 9), (6, 10)] [] V28 V37 := ajV37
      have agV37 : agr [(1, 3), (1, 4), (1, 6), (1, 8), (6, 8), (6, 9), (6, 10)] [42, 43, 44, 48] V V37 := agV28.tr ajV37 (by decide) (by decide)
      have rgz32 : 0 ≤ z32.toInt ∧ z32.toInt ≤ 1 := rgz32
      have t35 : Imp (z32.toInt = 0) (1 ≤ (V37 1 3).toInt) := t35
      have t36 : (z32.toInt = 1 ∧ (V28 12 (sx16.1 0)).toInt = (Int32.toInt 59) ∧ CUR V37 L38 ((sx16.1 0) + 1) ∧ V37 1 3 = V28 1 3) ∨ (z32.toInt = 0 ∧ (V28 12 (sx16.1 0)).toInt ≠ (Int32.toInt 59) ∧ (V37 1 3).toInt = 1 + 16 * (V28 13 (sx16.1 0)).toInt) := t36
      rcases t36 with ⟨q39, h40, k41, k42⟩ | ⟨q39, h40, k41⟩
      · skip
        have rl43 : RelC V37 L38 b gT (nx sx16 1) := RelC.nx1 rl30 ajV37 (by decide) axL38 (by decide) k41 k42
        have hr44 : ∀ k, Rc gT (Crun gs (Iexpr 0 :: Itake 59 :: k)) (Crun (nx sx16 1) (k)) := fun k => Rc.go1 (hr20 k) (tk_y (rl30.tok.1.trans (h40.trans (by decide))))
        have rw45 : ROWL b L L38 := (fun k hk => ((axL38 44 k rfl).trans ((t12 k hk).trans rfl)))
        exact W.zret (v := z32) hx hb hr (nb_ok (by omega)) (fun t ht hW => ⟨⟨z32, (V37, L38), rfl, ⟨hMV37, agV37, alL38, (show 0 ≤ z32.toInt ∧ z32.toInt ≤ 1 from by first | omega | ((try (have i_t35 := Imp.go t35 (by omega))); omega)), (Or.inl ⟨(by omega), (nx sx16 1), hr44, rl43, keepS.le (keepS.tr (keepS.tr (keepS.rf : keepS gs 0 gs) kp19) (keepS.n1 1)) (by decide)⟩), rw45⟩, by rw [ht]; exact hP, va_K.moved hW.alike hK, hD⟩, hS.F ht⟩) hS.2.2 dX1_readE_29
      · skip
        have hb46 : ∀ k, Rc gT (Crun gs (Iexpr 0 :: Itake 59 :: k)) (Cbad (V37 1 3).toInt) := fun k => Rc.go1 (hr20 k) ((tk_n (fun h9 => h40 (rl30.tok.1.symm.trans (h9.trans (by decide))))).trans (fl_eq rl30.tok.2.2 k41))
        have rw47 : ROWL b L L38 := (fun k hk => ((axL38 44 k rfl).trans ((t12 k hk).trans rfl)))
        exact W.zret (v := z32) hx hb hr (nb_ok (by omega)) (fun t ht hW => ⟨⟨z32, (V37, L38), rfl, ⟨hMV37, agV37, alL38, (show 0 ≤ z32.toInt ∧ z32.toInt ≤ 1 from by first | omega | ((try (have i_t35 := Imp.go t35 (by omega))); omega)), (Or.inr ⟨(by omega), hb46⟩), rw47⟩, by rw [ht]; exact hP, va_K.moved hW.alike hK, hD⟩, hS.F ht⟩) hS.2.2 dX1_readE_29
    · skip
      have f48 : z8.toInt = 0 := b_eq rfl (by decide) c21
      exfalso; omega
  · skip
    have hb49 : ∀ k, Rc gT (Crun gs (Iexpr 0 :: Itake 59 :: k)) (Cbad (V13 1 3).toInt) := fun k => (hr5 k).tr (h17 (Itake 59 :: k))
    refine lv_if_ne (tgt := 15) hx hb dX1_readE_10 (by decide) (fun c50 => ?_) (fun c50 => ?_)
    · skip
      have f51 : z8.toInt ≠ 0 := b_neq rfl (by decide) c50
      exfalso; omega
    · skip
      have f52 : z8.toInt = 0 := b_eq rfl (by decide) c50
      refine lv_iconst (v := 0) hx hb dX1_readE_13 (by decide) ?_
      have rw53 : ROWL b L L14 := (fun k hk => ((t12 k hk).trans rfl))
      exact W.zret (v := 0) hx hb hr rfl (fun t ht hW => ⟨⟨0, (V13, L14), rfl, ⟨hMV13, agV13, alL14, (by decide), (Or.inr ⟨rfl, hb49⟩), rw53⟩, by rw [ht]; exact hP, va_K.moved hW.alike hK, hD⟩, hS.F ht⟩) hS.2.2 dX1_readE_14
abbrev r_x_addNeed3 : Room := { frames := 0, cells := 0, slots := 0, locals := 0 }
abbrev q_x_addNeed3 (D : va_G) (ks : KS) (ad : Nat → Nat) (kk : Nat → ClassId) (V : Vf) (L : Lf) (Z : XZ) (p0 : Int32) (p1 : Int32) (p2 : Int32) (gi : Nat) (A : Nat → Prop) : Array Value → State → Outcome → State → Prop := va_Qv (fun (u : Vf × Lf) => rgd bX u.1 ∧ agr [] [49, 58, 59, 60] V u.1 ∧ u.2 = L ∧ frX (xI gi) V u.1 ∧ (Imp ((V 49 gi).toInt < 8) ((u.1 49 gi).toInt = (V 49 gi).toInt + 1))) (fun u t => gq D A (xw ad kk u.1 u.2 Z) (xty kk Z) t) A
set_option maxHeartbeats 4000000 in
set_option maxRecDepth 100000 in
theorem x_addNeed3 (l : Launch) (D : va_G) (ks : KS) (sz : Nat) (ad : Nat → Nat) (kk : Nat → ClassId) (V : Vf) (L : Lf) (Z : XZ) (p0 : Int32) (p1 : Int32) (p2 : Int32) (gi : Nat) (hMV : rgd bX V) (hgi : gi < 48)  : Met l yX3_addNeed (Cond.code yX3_addNeed cX3_addNeed 4 none :: GW) r_x_addNeed3 (va_Pc [.ref (ad (72 + gi)), .int p0, .int p1, .int p2] (gp D ks (xw ad kk V L Z) (xty kk Z) sz)) (q_x_addNeed3 D ks ad kk V L Z p0 p1 p2 gi (va_A (xw ad kk V L Z) sz)) 0 0 (va_A (xw ad kk V L Z) sz) := by
  refine g_met (q_x_addNeed3 D ks ad kk V L Z p0 p1 p2 gi) (by decide) (Nat.le_of_ble_eq_true rfl) ?_
  intro p e s m below meth c A ls H locs hx hb hr hml hown hg hlocks hin hnw hgk hP hK hD hS hA hl
  have hown : s.vm.findClass RX3 = some m.cls := hown
  have hl : lv_has ls 4 [(0, .ref (ad (72 + gi))), (1, .int p0), (2, .int p1), (3, .int p2)] := hl
  have hP : va_P D vwCl (xw ad kk V L Z) H := hP
  have hD : va_D A (xw ad kk V L Z) := hD
  have hK : va_K D vwCl (xty kk Z) s := hK
  have agV : agr [] [49, 58, 59, 60] V V := agr.rf
  have fwV : frX (xI gi) V V := frX.rf
  refine lv_aload_n hx hb dX3_addNeed_0 rfl (lv_at hl 0 rfl) ?_
  refine va_get (D := D) (ci := 3) (v := .int (V 49 gi)) (fs := (xfComp ad V gi)) (C := RX3) (T := TX3) (N := 13) hx hb hg inX3 hown hK hP (72 + gi) (xgComp hgi) rfl 4 (by decide) (hg _ w510) (fun _ h9 => h9) rfl dX3_addNeed_1 ?_
  have r1 : 0 ≤ ((V 49 gi)).toInt ∧ ((V 49 gi)).toInt ≤ 8 := hMV 49 gi
  refine lv_bipush (v := 8) hx hb dX3_addNeed_4 (by decide) ?_
  refine lv_icmp_ge (tgt := 49) hx hb dX3_addNeed_6 (by decide) (fun c2 => ?_) (fun c2 => ?_)
  · skip
    have f3 : 8 ≤ ((V 49 gi)).toInt := b_le (by decide) rfl c2
    exact W.vret hx hb hr (fun t ht hW => ⟨⟨(V, L), rfl, ⟨hMV, agV, rfl, fwV, (Imp.mk (fun hp => have hp : (V 49 gi).toInt < 8 := hp; (show (V 49 gi).toInt = (V 49 gi).toInt + 1 from by omega)))⟩, by rw [ht]; exact hP, va_K.moved hW.alike hK, hD⟩, hS.F ht⟩) hS.2.2 dX3_addNeed_49
  · skip
    have f4 : ((V 49 gi)).toInt < 8 := b_nle (by decide) rfl c2
    refine lv_aload_n hx hb dX3_addNeed_9 rfl (lv_at hl 0 rfl) ?_
    refine va_get (D := D) (ci := 3) (v := .ref (ad (216 + gi))) (fs := (xfComp ad V gi)) (C := RX3) (T := TX3) (N := 13) hx hb hg inX3 hown hK hP (72 + gi) (xgComp hgi) rfl 2 (by decide) (hg _ w503) (fun _ h9 => h9) rfl dX3_addNeed_10 ?_
    refine lv_aload_n hx hb dX3_addNeed_13 rfl (lv_at hl 0 rfl) ?_
    refine va_get (D := D) (ci := 3) (v := .int (V 49 gi)) (fs := (xfComp ad V gi)) (C := RX3) (T := TX3) (N := 13) hx hb hg inX3 hown hK hP (72 + gi) (xgComp hgi) rfl 4 (by decide) (hg _ w510) (fun _ h9 => h9) rfl dX3_addNeed_14 ?_
    refine lv_iload_n hx hb dX3_addNeed_17 rfl (lv_at hl 1 rfl) ?_
    refine va_iast (D := D) (i := (V 49 gi)) (x := p0) hx hb hK hP hD hS (216 + gi) (209 + gi) (xgneedKinds hgi) (xtneedKinds hgi) (i_in (a := ((V 49 gi)).toInt) rfl (by omega)) dX3_addNeed_18 (fun H locs hP hD hS => ?_)
    have kc5 := i_clamp (x := (V 49 gi)) rfl (by omega)
    have kl6 : (Int32.toNatClampNeg (V 49 gi)) < 8 := by omega
    obtain ⟨V7, hV7⟩ : ∃ z, z = up2 V 60 (8 * gi + (Int32.toNatClampNeg (V 49 gi))) p0 := ⟨_, rfl⟩
    have ew8 : (xw ad kk V L Z).set (216 + gi) ((ad (216 + gi)), .inl ((kk (216 + gi)), 8, .inl (upd (fun q => if q < 8 then V 60 (8 * gi + q) else 0) (Int32.toNatClampNeg (V 49 gi)) p0))) = xw ad kk V7 L Z := by rw [hV7]; exact xpneedKinds hgi kl6
    have hP : va_P D vwCl (xw ad kk V7 L Z) H := by rw [← ew8]; exact hP
    have hD : va_D A (xw ad kk V7 L Z) := by rw [← ew8]; exact hD
    have hMV7 : rgd bX V7 := hMV.put hV7 (i_full _)
    have agV7 : agr [] [49, 58, 59, 60] V V7 := agV.up hV7 rfl
    have fwV7 : frX (xI gi) V V7 := frX.up fwV hV7 (Or.inr ⟨(by show 8 * gi ≤ (8 * gi + (Int32.toNatClampNeg (V 49 gi))); omega), (by show (8 * gi + (Int32.toNatClampNeg (V 49 gi))) < 8 * gi + 8; omega)⟩)
    refine lv_aload_n hx hb dX3_addNeed_19 rfl (lv_at hl 0 rfl) ?_
    refine va_get (D := D) (ci := 3) (v := .ref (ad (120 + gi))) (fs := (xfComp ad V7 gi)) (C := RX3) (T := TX3) (N := 13) hx hb hg inX3 hown hK hP (72 + gi) (xgComp hgi) rfl 0 (by decide) (hg _ w499) (fun _ h9 => h9) rfl dX3_addNeed_20 ?_
    refine lv_aload_n hx hb dX3_addNeed_23 rfl (lv_at hl 0 rfl) ?_
    refine va_get (D := D) (ci := 3) (v := .int (V7 49 gi)) (fs := (xfComp ad V7 gi)) (C := RX3) (T := TX3) (N := 13) hx hb hg inX3 hown hK hP (72 + gi) (xgComp hgi) rfl 4 (by decide) (hg _ w510) (fun _ h9 => h9) rfl dX3_addNeed_24 ?_
    refine g_top (v := (V 49 gi)) (up2_o hV7 (by decide)) ?_
    refine lv_iload_n hx hb dX3_addNeed_27 rfl (lv_at hl 2 rfl) ?_
    refine va_iast (D := D) (i := (V 49 gi)) (x := p1) hx hb hK hP hD hS (120 + gi) (113 + gi) (xgneedTypes hgi) (xtneedTypes hgi) (i_in (a := ((V 49 gi)).toInt) rfl (by omega)) dX3_addNeed_28 (fun H locs hP hD hS => ?_)
    have kl9 : (Int32.toNatClampNeg (V 49 gi)) < 8 := by omega
    obtain ⟨V10, hV10⟩ : ∃ z, z = up2 V7 58 (8 * gi + (Int32.toNatClampNeg (V 49 gi))) p1 := ⟨_, rfl⟩
    have ew11 : (xw ad kk V7 L Z).set (120 + gi) ((ad (120 + gi)), .inl ((kk (120 + gi)), 8, .inl (upd (fun q => if q < 8 then V7 58 (8 * gi + q) else 0) (Int32.toNatClampNeg (V 49 gi)) p1))) = xw ad kk V10 L Z := by rw [hV10]; exact xpneedTypes hgi kl9
    have hP : va_P D vwCl (xw ad kk V10 L Z) H := by rw [← ew11]; exact hP
    have hD : va_D A (xw ad kk V10 L Z) := by rw [← ew11]; exact hD
    have hMV10 : rgd bX V10 := hMV7.put hV10 (i_full _)
    have agV10 : agr [] [49, 58, 59, 60] V V10 := agV7.up hV10 rfl
    have fwV10 : frX (xI gi) V V10 := frX.up fwV7 hV10 (Or.inr ⟨(by show 8 * gi ≤ (8 * gi + (Int32.toNatClampNeg (V 49 gi))); omega), (by show (8 * gi + (Int32.toNatClampNeg (V 49 gi))) < 8 * gi + 8; omega)⟩)
    refine lv_aload_n hx hb dX3_addNeed_29 rfl (lv_at hl 0 rfl) ?_
    refine va_get (D := D) (ci := 3) (v := .ref (ad (168 + gi))) (fs := (xfComp ad V10 gi)) (C := RX3) (T := TX3) (N := 13) hx hb hg inX3 hown hK hP (72 + gi) (xgComp hgi) rfl 1 (by decide) (hg _ w501) (fun _ h9 => h9) rfl dX3_addNeed_30 ?_
    refine lv_aload_n hx hb dX3_addNeed_33 rfl (lv_at hl 0 rfl) ?_
    refine va_get (D := D) (ci := 3) (v := .int (V10 49 gi)) (fs := (xfComp ad V10 gi)) (C := RX3) (T := TX3) (N := 13) hx hb hg inX3 hown hK hP (72 + gi) (xgComp hgi) rfl 4 (by decide) (hg _ w510) (fun _ h9 => h9) rfl dX3_addNeed_34 ?_
    refine g_top (v := (V 49 gi)) ((up2_o hV10 (by decide)).trans (up2_o hV7 (by decide))) ?_
    refine lv_iload_n hx hb dX3_addNeed_37 rfl (lv_at hl 3 rfl) ?_
    refine va_iast (D := D) (i := (V 49 gi)) (x := p2) hx hb hK hP hD hS (168 + gi) (161 + gi) (xgneedWords hgi) (xtneedWords hgi) (i_in (a := ((V 49 gi)).toInt) rfl (by omega)) dX3_addNeed_38 (fun H locs hP hD hS => ?_)
    have kl12 : (Int32.toNatClampNeg (V 49 gi)) < 8 := by omega
    obtain ⟨V13, hV13⟩ : ∃ z, z = up2 V10 59 (8 * gi + (Int32.toNatClampNeg (V 49 gi))) p2 := ⟨_, rfl⟩
    have ew14 : (xw ad kk V10 L Z).set (168 + gi) ((ad (168 + gi)), .inl ((kk (168 + gi)), 8, .inl (upd (fun q => if q < 8 then V10 59 (8 * gi + q) else 0) (Int32.toNatClampNeg (V 49 gi)) p2))) = xw ad kk V13 L Z := by rw [hV13]; exact xpneedWords hgi kl12
    have hP : va_P D vwCl (xw ad kk V13 L Z) H := by rw [← ew14]; exact hP
    have hD : va_D A (xw ad kk V13 L Z) := by rw [← ew14]; exact hD
    have hMV13 : rgd bX V13 := hMV10.put hV13 (i_full _)
    have agV13 : agr [] [49, 58, 59, 60] V V13 := agV10.up hV13 rfl
    have fwV13 : frX (xI gi) V V13 := frX.up fwV10 hV13 (Or.inr ⟨(by show 8 * gi ≤ (8 * gi + (Int32.toNatClampNeg (V 49 gi))); omega), (by show (8 * gi + (Int32.toNatClampNeg (V 49 gi))) < 8 * gi + 8; omega)⟩)
    refine lv_aload_n hx hb dX3_addNeed_39 rfl (lv_at hl 0 rfl) ?_
    refine lv_dup hx hb dX3_addNeed_40 rfl ?_
    refine va_get (D := D) (ci := 3) (v := .int (V13 49 gi)) (fs := (xfComp ad V13 gi)) (C := RX3) (T := TX3) (N := 13) hx hb hg inX3 hown hK hP (72 + gi) (xgComp hgi) rfl 4 (by decide) (hg _ w510) (fun _ h9 => h9) rfl dX3_addNeed_41 ?_
    refine g_top (v := (V 49 gi)) ((up2_o hV13 (by decide)).trans ((up2_o hV10 (by decide)).trans (up2_o hV7 (by decide)))) ?_
    refine lv_iconst (v := 1) hx hb dX3_addNeed_44 (by decide) ?_
    refine lv_iadd hx hb dX3_addNeed_45 ?_
    refine lv_topi (fun z15 ez15 => ?_)
    have hz15 : z15.toInt = ((V 49 gi)).toInt + 1 := i_add ez15 rfl (by decide) (by omega)
    refine va_put (D := D) (ci := 3) (v := .int z15) (ty := tyX3 4) (fs := (xfComp ad V13 gi)) (C := RX3) (T := TX3) (N := 13) hx hb hg inX3 tyX3 tyX3_ok nmX3 hown hK hP hD hS (72 + gi) (xgComp hgi) rfl 4 (by decide) (hg _ w510) (fun _ h9 => h9) rfl (tyX3_ok 4 (by decide)) rfl rfl (Nat.le_of_ble_eq_true rfl) dX3_addNeed_46 (fun H locs hP hD hS => ?_)
    obtain ⟨V16, hV16⟩ : ∃ z, z = up2 V13 49 gi z15 := ⟨_, rfl⟩
    have ew17 : (xw ad kk V13 L Z).set (72 + gi) ((ad (72 + gi)), .inr (3, (xfComp ad V13 gi).set 4 (.int z15))) = xw ad kk V16 L Z := by rw [hV16]; exact xpComp_needs hgi
    have hP : va_P D vwCl (xw ad kk V16 L Z) H := by rw [← ew17]; exact hP
    have hD : va_D A (xw ad kk V16 L Z) := by rw [← ew17]; exact hD
    have hMV16 : rgd bX V16 := hMV13.put hV16 (show 0 ≤ z15.toInt ∧ z15.toInt ≤ 8 from by omega)
    have agV16 : agr [] [49, 58, 59, 60] V V16 := agV13.up hV16 rfl
    have fwV16 : frX (xI gi) V V16 := frX.up fwV13 hV16 (Or.inr ⟨(by show gi ≤ gi; omega), (by show gi < gi + 1; omega)⟩)
    have pq18 : (V16 49 gi).toInt = z15.toInt := congrArg Int32.toInt (up2_s hV16)
    exact W.vret hx hb hr (fun t ht hW => ⟨⟨(V16, L), rfl, ⟨hMV16, agV16, rfl, fwV16, (Imp.mk (fun hp => have hp : (V 49 gi).toInt < 8 := hp; (show (V16 49 gi).toInt = (V 49 gi).toInt + 1 from by omega)))⟩, by rw [ht]; exact hP, va_K.moved hW.alike hK, hD⟩, hS.F ht⟩) hS.2.2 dX3_addNeed_49
abbrev r_x_readNeed3 : Room := { frames := 3, cells := 0, slots := 0, locals := 64 }
abbrev q_x_readNeed3 (D : va_G) (ks : KS) (ad : Nat → Nat) (kk : Nat → ClassId) (V : Vf) (L : Lf) (Z : XZ) (b : Nat) (gT : Tk) (gs : St) (go : Nat) (A : Nat → Prop) : Array Value → State → Outcome → State → Prop := va_Qi (fun (r : Int32) (u : Vf × Lf) => rgd bX u.1 ∧ agr [(1, 3), (1, 6), (6, 8), (6, 9), (6, 10)] [43, 44, 49, 58, 59, 60] V u.1 ∧ agL [6, 44] L u.2 ∧ (0 ≤ r.toInt ∧ r.toInt ≤ 1) ∧ (Rd gT gs (fun k => Imember :: k) (fun k => Imember :: k) r.toInt (u.1 1 3).toInt (fun s9 => RelC u.1 u.2 b gT s9 ∧ gs.1 0 + 1 ≤ s9.1 0)) ∧ (ROWL b L u.2)) (fun u t => gq D A (xw ad kk u.1 u.2 Z) (xty kk Z) t) A
set_option maxHeartbeats 4000000 in
set_option maxRecDepth 100000 in
theorem x_readNeed3 (l : Launch) (D : va_G) (ks : KS) (sz : Nat) (ad : Nat → Nat) (kk : Nat → ClassId) (V : Vf) (L : Lf) (Z : XZ) (b : Nat) (gT : Tk) (gs : St) (go : Nat) (hMV : rgd bX V) (hb2 : b < 2) (rbk : (V 1 1).toInt = (b : Int)) (own : (V 1 2).toInt = (go : Int)) (hgo : go < 48) (hgl : 24 * b ≤ go) (hgh : go < 24 * b + 24) (rel : RelC V L b gT gs) (kd9 : (V 6 9).toInt = 137)  : Met l yX1_readNeed (Cond.code yX1_readNeed cX1_readNeed 4 (some .boolean) :: GW) r_x_readNeed3 (va_Pc [.ref (ad 1)] (gp D ks (xw ad kk V L Z) (xty kk Z) sz)) (q_x_readNeed3 D ks ad kk V L Z  b gT gs go (va_A (xw ad kk V L Z) sz)) 0 0 (va_A (xw ad kk V L Z) sz) := by
  refine g_met (q_x_readNeed3 D ks ad kk V L Z  b gT gs go) (by decide) (Nat.le_of_ble_eq_true rfl) ?_
  intro p e s m below meth c A ls H locs hx hb hr hml hown hg hlocks hin hnw hgk hP hK hD hS hA hl
  have hown : s.vm.findClass RX1 = some m.cls := hown
  have hl : lv_has ls 4 [(0, .ref (ad 1))] := hl
  have hP : va_P D vwCl (xw ad kk V L Z) H := hP
  have hD : va_D A (xw ad kk V L Z) := hD
  have hK : va_K D vwCl (xty kk Z) s := hK
  have agV : agr [(1, 3), (1, 6), (6, 8), (6, 9), (6, 10)] [43, 44, 49, 58, 59, 60] V V := agr.rf
  have alL : agL [6, 44] L L := agL.rf
  have r1 : (-1) ≤ ((V 1 1)).toInt ∧ ((V 1 1)).toInt ≤ 1 := hMV 1 1
  have r2 : (-1) ≤ ((V 1 2)).toInt ∧ ((V 1 2)).toInt ≤ 47 := hMV 1 2
  have ow0 := RelC.ow rel own
  refine lv_aload_n hx hb dX1_readNeed_0 rfl (lv_at hl 0 rfl) ?_
  refine va_get (D := D) (ci := 1) (v := rfN ad 72 (V 1 2)) (fs := (xfReader ad V L Z)) (C := RX1) (T := TX1) (N := 9) hx hb hg inX1 hown hK hP 1 xgReader rfl 2 (by decide) (hg _ w306) (fun _ h9 => h9) rfl dX1_readNeed_1 ?_
  refine g_topv (v := .ref (ad (72 + go))) (rfN_r (by omega)) ?_
  refine va_getN (D := D) (ci := 3) (v := .int (V 49 go)) (fs := (xfComp ad V go)) (C := RX3) (T := TX3) (N := 13) hx hb hg inX3 hown hK hP (72 + go) (xgComp hgo) rfl 4 (by decide) (hnw.use 513 n513 rfl) (fun _ h9 => h9) rfl dX1_readNeed_4 ?_
  have r3 : 0 ≤ ((V 49 go)).toInt ∧ ((V 49 go)).toInt ≤ 8 := hMV 49 go
  refine lv_bipush (v := 8) hx hb dX1_readNeed_7 (by decide) ?_
  refine lv_icmp_lt (tgt := 18) hx hb dX1_readNeed_9 (by decide) (fun c4 => ?_) (fun c4 => ?_)
  · skip
    have f5 : ((V 49 go)).toInt < 8 := b_lt rfl (by decide) c4
    refine lv_aload_n hx hb dX1_readNeed_18 rfl (lv_at hl 0 rfl) ?_
    refine va_get (D := D) (ci := 1) (v := .ref (ad 6)) (fs := (xfReader ad V L Z)) (C := RX1) (T := TX1) (N := 9) hx hb hg inX1 hown hK hP 1 xgReader rfl 0 (by decide) (hg _ w304) (fun _ h9 => h9) rfl dX1_readNeed_19 ?_
    have hr6 : ∀ k, Rc gT (Crun gs (Imember :: k)) (Crun gs (Imember :: k)) := fun k => Rc.rf
    have kd7 : gT.1 (gs.1 0) = ((V 6 9)).toInt := RelC.kd rel
    have hr8 : ∀ k, Rc gT (Crun gs (Imember :: k)) (Crun (nx gs 1) (IneedK :: k)) := fun k => Rc.go1 (hr6 k) (mb_137 (kd7.trans kd9) (by have h9 := ow0.1; omega))
    have l89 := RelC.l8 rel
    have r10 : 0 ≤ ((V 6 8)).toInt ∧ ((V 6 8)).toInt ≤ 4000 := hMV 6 8
    have r11 : 0 ≤ ((V 6 7)).toInt ∧ ((V 6 7)).toInt ≤ 4000 := hMV 6 7
    have lk12 := RelC.lk rel (show (V 6 9).toInt ≠ 0 from by omega)
    refine gA_void (gA_runV (As := []) (rest := []) (ci := 9) (q0 := 6) hx hb hml hown hg hP hD hK hS hA hnw hgk (x_next2 l D ks H.size ad kk V L Z  hMV (show (V 6 8).toInt ≤ (V 6 7).toInt from by omega)) w871 w852 w853 w157 w854 rfl xgTape hdV_yX9_next ⟨Nat.le_of_ble_eq_true rfl, Nat.le_of_ble_eq_true rfl⟩ rfl hl.1 rfl (Nat.le_of_ble_eq_true rfl) dX1_readNeed_22 ⟨Nat.le_of_ble_eq_true rfl, Nat.le_of_ble_eq_true rfl⟩) hP hD hK hS hA (fun u14 H locs w15 hP hD hK hS => ?_)
    obtain ⟨V18, L19⟩ := u14
    obtain ⟨hMV18, ajV18, axL19, t16, t17⟩ := w15
    have alL19 : agL [6, 44] L L19 := agL.tr alL axL19 (by decide)
    have hP : va_P D vwCl (xw ad kk V18 L19 Z) H := hP
    have hD : va_D A (xw ad kk V18 L19 Z) := hD
    have hMV18 : rgd bX V18 := hMV18
    have ajV18 : agr [(6, 8), (6, 9), (6, 10)] [] V V18 := ajV18
    have agV18 : agr [(1, 3), (1, 6), (6, 8), (6, 9), (6, 10)] [43, 44, 49, 58, 59, 60] V V18 := agV.tr ajV18 (by decide) (by decide)
    have t16 : (V18 6 8).toInt ≤ (V18 6 7).toInt := t16
    have t17 : CUR V18 L19 (Int32.toNatClampNeg (V 6 8)) := t17
    have r20 : 0 ≤ ((V18 6 8)).toInt ∧ ((V18 6 8)).toInt ≤ 4000 := hMV18 6 8
    have pq21 : (V18 6 7).toInt = ((V 6 7)).toInt := congrArg Int32.toInt (ajV18 6 7 rfl)
    have rl22 : RelC V18 L19 b gT (nx gs 1) := RelC.nx1 rel ajV18 (by decide) axL19 (by decide) (by rw [← lk12]; exact t17) (ajV18 1 3 rfl)
    refine lv_aload_n hx hb dX1_readNeed_25 rfl (lv_at hl 0 rfl) ?_
    refine va_get (D := D) (ci := 1) (v := .ref (ad 6)) (fs := (xfReader ad V18 L19 Z)) (C := RX1) (T := TX1) (N := 9) hx hb hg inX1 hown hK hP 1 xgReader rfl 0 (by decide) (hg _ w304) (fun _ h9 => h9) rfl dX1_readNeed_26 ?_
    refine va_getN (D := D) (ci := 9) (v := .int (V18 6 9)) (fs := (xfTape ad V18 L19 Z)) (C := RX9) (T := TX9) (N := 12) hx hb hg inX9 hown hK hP 6 xgTape rfl 9 (by decide) (hnw.use 262 n262 rfl) (fun _ h9 => h9) rfl dX1_readNeed_29 ?_
    refine lv_sipush (v := 138) hx hb dX1_readNeed_32 (by decide) ?_
    refine lv_icmp_ne (tgt := 42) hx hb dX1_readNeed_35 (by decide) (fun c23 => ?_) (fun c23 => ?_)
    · skip
      have f24 : ((V18 6 9)).toInt ≠ 138 := b_neq rfl (by decide) c23
      refine lv_aload_n hx hb dX1_readNeed_42 rfl (lv_at hl 0 rfl) ?_
      refine va_get (D := D) (ci := 1) (v := .ref (ad 6)) (fs := (xfReader ad V18 L19 Z)) (C := RX1) (T := TX1) (N := 9) hx hb hg inX1 hown hK hP 1 xgReader rfl 0 (by decide) (hg _ w304) (fun _ h9 => h9) rfl dX1_readNeed_43 ?_
      refine va_getN (D := D) (ci := 9) (v := .int (V18 6 9)) (fs := (xfTape ad V18 L19 Z)) (C := RX9) (T := TX9) (N := 12) hx hb hg inX9 hown hK hP 6 xgTape rfl 9 (by decide) (hnw.use 262 n262 rfl) (fun _ h9 => h9) rfl dX1_readNeed_46 ?_
      refine lv_sipush (v := 139) hx hb dX1_readNeed_49 (by decide) ?_
      refine lv_icmp_ne (tgt := 59) hx hb dX1_readNeed_52 (by decide) (fun c25 => ?_) (fun c25 => ?_)
      · skip
        have f26 : ((V18 6 9)).toInt ≠ 139 := b_neq rfl (by decide) c25
        refine lv_iconst (v := 0) hx hb dX1_readNeed_59 (by decide) ?_
        refine lv_istore_n (lv' := [(1, .int 0), (0, .ref (ad 1))]) hx hb dX1_readNeed_60 rfl hl (by decide) rfl (fun ls hl => ?_)
        refine lv_iload_n hx hb dX1_readNeed_61 rfl (lv_at hl 0 rfl) ?_
        refine lv_if_eq (tgt := 72) hx hb dX1_readNeed_62 (by decide) (fun _ => ?_) (fun q => absurd (by decide) q)
        refine lv_aload_n hx hb dX1_readNeed_72 rfl (lv_at hl 1 rfl) ?_
        have kd27 : gT.1 ((nx gs 1).1 0) = ((V18 6 9)).toInt := RelC.kd rl22
        have hr28 : ∀ k, Rc gT (Crun gs (Imember :: k)) (Crun (nx gs 1) (IneedT 0 :: k)) := fun k => Rc.go1 (hr8 k) (needK_n (fun h9 => f24 (kd27.symm.trans h9)) (fun h9 => f26 (kd27.symm.trans h9)))
        have pq29 : (V18 1 1).toInt = ((V 1 1)).toInt := congrArg Int32.toInt (ajV18 1 1 rfl)
        refine gA_int (gA_runV (As := []) (rest := []) (ci := 1) (q0 := 1) hx hb hml hown hg hP hD hK hS hA hnw hgk (x_isToldType3 l D ks H.size ad kk V18 L19 Z (b) (gT) ((nx gs 1)) hMV18 (show b < 2 from by omega) (show (V18 1 1).toInt = (b : Int) from by omega) rl22) w888 w890 w9 w162 w891 rfl xgReader hdV_yX1_isToldType ⟨Nat.le_of_ble_eq_true rfl, Nat.le_of_ble_eq_true rfl⟩ rfl hl.1 rfl (Nat.le_of_ble_eq_true rfl) dX1_readNeed_73 ⟨Nat.le_of_ble_eq_true rfl, Nat.le_of_ble_eq_true rfl⟩) hP hD hK hS hA (fun z30 u31 H locs w32 hP hD hK hS => ?_)
        obtain ⟨V34, L35⟩ := u31
        obtain ⟨hMV34, ajV34, axL35, rgz30, t33⟩ := w32
        have axL35 : L19 = L35 := Eq.symm axL35
        subst axL35
        have hP : va_P D vwCl (xw ad kk V34 L19 Z) H := hP
        have hD : va_D A (xw ad kk V34 L19 Z) := hD
        have hMV34 : rgd bX V34 := hMV34
        have ajV34 : agr [(1, 3), (1, 6)] [] V18 V34 := ajV34
        have agV34 : agr [(1, 3), (1, 6), (6, 8), (6, 9), (6, 10)] [43, 44, 49, 58, 59, 60] V V34 := agV18.tr ajV34 (by decide) (by decide)
        have rgz30 : 0 ≤ z30.toInt ∧ z30.toInt ≤ 1 := rgz30
        have t33 : KcN (look gT (nx gs 1) ((nx gs 1).2.1 0)) z30.toInt (V34 1 3).toInt (fun f9 => RelC V34 L19 b gT (nx gs 1) ∧ (V34 1 6).toInt = ((f9 : Nat) : Int) ∧ f9 < 24) := t33
        rcases t33 with ⟨q36, fx37, h38, rl39, hf40, hb41⟩ | ⟨q36, h38⟩
        · skip
          have kn42 := look_ne h38
          refine lv_if_ne (tgt := 81) hx hb dX1_readNeed_76 (by decide) (fun c43 => ?_) (fun c43 => ?_)
          · skip
            have f44 : z30.toInt ≠ 0 := b_neq rfl (by decide) c43
            refine lv_aload_n hx hb dX1_readNeed_81 rfl (lv_at hl 1 rfl) ?_
            refine va_get (D := D) (ci := 1) (v := .int (V34 1 6)) (fs := (xfReader ad V34 L19 Z)) (C := RX1) (T := TX1) (N := 9) hx hb hg inX1 hown hK hP 1 xgReader rfl 6 (by decide) (hg _ w310) (fun _ h9 => h9) rfl dX1_readNeed_82 ?_
            have r45 : (-1) ≤ ((V34 1 6)).toInt ∧ ((V34 1 6)).toInt ≤ 23 := hMV34 1 6
            refine lv_istore_n (lv' := [(2, .int (V34 1 6)), (1, .int 0), (0, .ref (ad 1))]) hx hb dX1_readNeed_85 rfl hl (by decide) rfl (fun ls hl => ?_)
            refine lv_iconst (v := (-1)) hx hb dX1_readNeed_86 (by decide) ?_
            refine lv_istore_n (lv' := [(3, .int (-1)), (2, .int (V34 1 6)), (1, .int 0), (0, .ref (ad 1))]) hx hb dX1_readNeed_87 rfl hl (by decide) rfl (fun ls hl => ?_)
            refine lv_aload_n hx hb dX1_readNeed_88 rfl (lv_at hl 3 rfl) ?_
            refine va_get (D := D) (ci := 1) (v := .ref (ad 6)) (fs := (xfReader ad V34 L19 Z)) (C := RX1) (T := TX1) (N := 9) hx hb hg inX1 hown hK hP 1 xgReader rfl 0 (by decide) (hg _ w304) (fun _ h9 => h9) rfl dX1_readNeed_89 ?_
            have hr46 : ∀ k, Rc gT (Crun gs (Imember :: k)) (Crun (nx (nx gs 1) 1) (Icalled :: Itake 59 :: IaddNeed :: Imember :: k)) := fun k => Rc.go1 (hr28 k) (nd_0 h38)
            have l847 := RelC.l8 rl39
            have pq48 : (V34 6 8).toInt = ((V18 6 8)).toInt := congrArg Int32.toInt (ajV34 6 8 rfl)
            have pq49 : (V34 6 7).toInt = ((V 6 7)).toInt := congrArg Int32.toInt ((ajV34 6 7 rfl).trans (ajV18 6 7 rfl))
            have pq50 : (V34 6 9).toInt = ((V18 6 9)).toInt := congrArg Int32.toInt (ajV34 6 9 rfl)
            have lk51 := RelC.lk rl39 (show (V34 6 9).toInt ≠ 0 from by omega)
            refine gA_void (gA_runV (As := []) (rest := []) (ci := 9) (q0 := 6) hx hb hml hown hg hP hD hK hS hA hnw hgk (x_next2 l D ks H.size ad kk V34 L19 Z  hMV34 (show (V34 6 8).toInt ≤ (V34 6 7).toInt from by omega)) w871 w852 w853 w157 w854 rfl xgTape hdV_yX9_next ⟨Nat.le_of_ble_eq_true rfl, Nat.le_of_ble_eq_true rfl⟩ rfl hl.1 rfl (Nat.le_of_ble_eq_true rfl) dX1_readNeed_92 ⟨Nat.le_of_ble_eq_true rfl, Nat.le_of_ble_eq_true rfl⟩) hP hD hK hS hA (fun u53 H locs w54 hP hD hK hS => ?_)
            obtain ⟨V57, L58⟩ := u53
            obtain ⟨hMV57, ajV57, axL58, t55, t56⟩ := w54
            have alL58 : agL [6, 44] L L58 := agL.tr alL19 axL58 (by decide)
            have hP : va_P D vwCl (xw ad kk V57 L58 Z) H := hP
            have hD : va_D A (xw ad kk V57 L58 Z) := hD
            have hMV57 : rgd bX V57 := hMV57
            have ajV57 : agr [(6, 8), (6, 9), (6, 10)] [] V34 V57 := ajV57
            have agV57 : agr [(1, 3), (1, 6), (6, 8), (6, 9), (6, 10)] [43, 44, 49, 58, 59, 60] V V57 := agV34.tr ajV57 (by decide) (by decide)
            have t55 : (V57 6 8).toInt ≤ (V57 6 7).toInt := t55
            have t56 : CUR V57 L58 (Int32.toNatClampNeg (V34 6 8)) := t56
            have r59 : 0 ≤ ((V57 6 8)).toInt ∧ ((V57 6 8)).toInt ≤ 4000 := hMV57 6 8
            have pq60 : (V57 6 7).toInt = ((V 6 7)).toInt := congrArg Int32.toInt ((ajV57 6 7 rfl).trans ((ajV34 6 7 rfl).trans (ajV18 6 7 rfl)))
            have rl61 : RelC V57 L58 b gT (nx (nx gs 1) 1) := RelC.nx1 rl39 ajV57 (by decide) axL58 (by decide) (by rw [← lk51]; exact t56) (ajV57 1 3 rfl)
            refine lv_iload_n hx hb dX1_readNeed_95 rfl (lv_at hl 2 rfl) ?_
            refine lv_iconst (v := 2) hx hb dX1_readNeed_96 (by decide) ?_
            refine lv_icmp_eq (tgt := 127) hx hb dX1_readNeed_97 (by decide) (fun q => absurd q (by decide)) (fun _ => ?_)
            refine lv_aload_n hx hb dX1_readNeed_100 rfl (lv_at hl 3 rfl) ?_
            refine va_get (D := D) (ci := 1) (v := .ref (ad 6)) (fs := (xfReader ad V57 L58 Z)) (C := RX1) (T := TX1) (N := 9) hx hb hg inX1 hown hK hP 1 xgReader rfl 0 (by decide) (hg _ w304) (fun _ h9 => h9) rfl dX1_readNeed_101 ?_
            refine va_getN (D := D) (ci := 9) (v := .int (V57 6 9)) (fs := (xfTape ad V57 L58 Z)) (C := RX9) (T := TX9) (N := 12) hx hb hg inX9 hown hK hP 6 xgTape rfl 9 (by decide) (hnw.use 262 n262 rfl) (fun _ h9 => h9) rfl dX1_readNeed_104 ?_
            refine lv_sipush (v := 133) hx hb dX1_readNeed_107 (by decide) ?_
            refine lv_icmp_ne (tgt := 127) hx hb dX1_readNeed_110 (by decide) (fun c62 => ?_) (fun c62 => ?_)
            · skip
              have f63 : ((V57 6 9)).toInt ≠ 133 := b_neq rfl (by decide) c62
              refine lv_aload_n hx hb dX1_readNeed_127 rfl (lv_at hl 3 rfl) ?_
              refine lv_bipush (v := 59) hx hb dX1_readNeed_128 (by decide) ?_
              have kd64 : gT.1 ((nx (nx gs 1) 1).1 0) = ((V57 6 9)).toInt := RelC.kd rl61
              have hr65 : ∀ k, Rc gT (Crun gs (Imember :: k)) (Crun (nx (nx gs 1) 1) (Itake 59 :: IaddNeed :: Imember :: k)) := fun k => Rc.go1 (hr46 k) (called_n  (fun h9 => f63 (kd64.symm.trans h9)))
              have r66 : Int32.toInt 59 = 59 := by decide
              refine gA_int (gA_runV (As := [.int 59]) (rest := []) (ci := 1) (q0 := 1) hx hb hml hown hg hP hD hK hS hA hnw hgk (x_take2 l D ks H.size ad kk V57 L58 Z 59 (((nx (nx gs 1) 1).1 0)) hMV57 (rl61).1 (rl61).2.1.1 (show 1 ≤ (Int32.toInt 59) from by omega)) w893 w895 w10 w162 w896 rfl xgReader hdV_yX1_take ⟨Nat.le_of_ble_eq_true rfl, Nat.le_of_ble_eq_true rfl⟩ rfl hl.1 rfl (Nat.le_of_ble_eq_true rfl) dX1_readNeed_130 ⟨Nat.le_of_ble_eq_true rfl, Nat.le_of_ble_eq_true rfl⟩) hP hD hK hS hA (fun z67 u68 H locs w69 hP hD hK hS => ?_)
              obtain ⟨V72, L73⟩ := u68
              obtain ⟨hMV72, ajV72, axL73, rgz67, t70, t71⟩ := w69
              have alL73 : agL [6, 44] L L73 := agL.tr alL58 axL73 (by decide)
              have hP : va_P D vwCl (xw ad kk V72 L73 Z) H := hP
              have hD : va_D A (xw ad kk V72 L73 Z) := hD
              have hMV72 : rgd bX V72 := hMV72
              have ajV72 : agr [(1, 3), (6, 8), (6, 9), (6, 10)] [] V57 V72 := ajV72
              have agV72 : agr [(1, 3), (1, 6), (6, 8), (6, 9), (6, 10)] [43, 44, 49, 58, 59, 60] V V72 := agV57.tr ajV72 (by decide) (by decide)
              have rgz67 : 0 ≤ z67.toInt ∧ z67.toInt ≤ 1 := rgz67
              have t70 : Imp (z67.toInt = 0) (1 ≤ (V72 1 3).toInt) := t70
              have t71 : (z67.toInt = 1 ∧ (V57 12 ((nx (nx gs 1) 1).1 0)).toInt = (Int32.toInt 59) ∧ CUR V72 L73 (((nx (nx gs 1) 1).1 0) + 1) ∧ V72 1 3 = V57 1 3) ∨ (z67.toInt = 0 ∧ (V57 12 ((nx (nx gs 1) 1).1 0)).toInt ≠ (Int32.toInt 59) ∧ (V72 1 3).toInt = 1 + 16 * (V57 13 ((nx (nx gs 1) 1).1 0)).toInt) := t71
              rcases t71 with ⟨q74, h75, k76, k77⟩ | ⟨q74, h75, k76⟩
              · skip
                have rl78 : RelC V72 L73 b gT (nx (nx (nx gs 1) 1) 1) := RelC.nx1 rl61 ajV72 (by decide) axL73 (by decide) k76 k77
                have hr79 : ∀ k, Rc gT (Crun gs (Imember :: k)) (Crun (nx (nx (nx gs 1) 1) 1) (IaddNeed :: Imember :: k)) := fun k => Rc.go1 (hr65 k) (tk_y (rl61.tok.1.trans (h75.trans (by decide))))
                refine lv_if_ne (tgt := 138) hx hb dX1_readNeed_133 (by decide) (fun c80 => ?_) (fun c80 => ?_)
                · skip
                  have f81 : z67.toInt ≠ 0 := b_neq rfl (by decide) c80
                  refine lv_aload_n hx hb dX1_readNeed_138 rfl (lv_at hl 3 rfl) ?_
                  refine va_get (D := D) (ci := 1) (v := rfN ad 72 (V72 1 2)) (fs := (xfReader ad V72 L73 Z)) (C := RX1) (T := TX1) (N := 9) hx hb hg inX1 hown hK hP 1 xgReader rfl 2 (by decide) (hg _ w306) (fun _ h9 => h9) rfl dX1_readNeed_139 ?_
                  have pq82 : (V72 1 2).toInt = ((V 1 2)).toInt := congrArg Int32.toInt ((ajV72 1 2 rfl).trans ((ajV57 1 2 rfl).trans ((ajV34 1 2 rfl).trans (ajV18 1 2 rfl))))
                  refine g_topv (v := .ref (ad (72 + go))) (rfN_r (by first | omega | ((try (have i_t70 := Imp.go t70 (by omega))); omega))) ?_
                  refine lv_iload_n hx hb dX1_readNeed_142 rfl (lv_at hl 2 rfl) ?_
                  refine lv_iload_n hx hb dX1_readNeed_143 rfl (lv_at hl 1 rfl) ?_
                  refine lv_iload_n hx hb dX1_readNeed_144 rfl (lv_at hl 0 rfl) ?_
                  have r83 : Int32.toInt 0 = 0 := by decide
                  have r84 : Int32.toInt (-1) = (-1) := by decide
                  refine gA_void (gA_runV (As := [.int 0, .int (V34 1 6), .int (-1)]) (rest := []) (ci := 3) (q0 := (72 + go)) hx hb hml hown hg hP hD hK hS hA hnw hgk (x_addNeed3 l D ks H.size ad kk V72 L73 Z 0 (V34 1 6) (-1) (go) hMV72 (show go < 48 from by first | omega | ((try (have i_t70 := Imp.go t70 (by omega))); omega))) w1011 w1012 w1013 w169 w1014 rfl (xgComp hgo) hdV_yX3_addNeed ⟨Nat.le_of_ble_eq_true rfl, Nat.le_of_ble_eq_true rfl⟩ rfl hl.1 rfl (Nat.le_of_ble_eq_true rfl) dX1_readNeed_145 ⟨Nat.le_of_ble_eq_true rfl, Nat.le_of_ble_eq_true rfl⟩) hP hD hK hS hA (fun u86 H locs w87 hP hD hK hS => ?_)
                  obtain ⟨V89, L90⟩ := u86
                  obtain ⟨hMV89, ajV89, axL90, fyV89, t88⟩ := w87
                  have axL90 : L73 = L90 := Eq.symm axL90
                  subst axL90
                  have hP : va_P D vwCl (xw ad kk V89 L73 Z) H := hP
                  have hD : va_D A (xw ad kk V89 L73 Z) := hD
                  have hMV89 : rgd bX V89 := hMV89
                  have ajV89 : agr [] [49, 58, 59, 60] V72 V89 := ajV89
                  have agV89 : agr [(1, 3), (1, 6), (6, 8), (6, 9), (6, 10)] [43, 44, 49, 58, 59, 60] V V89 := agV72.tr ajV89 (by decide) (by decide)
                  have t88 : Imp ((V72 49 go).toInt < 8) ((V89 49 go).toInt = (V72 49 go).toInt + 1) := t88
                  have pq91 : (V72 49 go).toInt = ((V 49 go)).toInt := congrArg Int32.toInt ((ajV72 49 go rfl).trans ((ajV57 49 go rfl).trans ((ajV34 49 go rfl).trans (ajV18 49 go rfl))))
                  have rl92 : RelC V89 L73 b gT (sN (nx (nx (nx gs 1) 1) 1) 1 ((nx (nx (nx gs 1) 1) 1).1 1 + 1)) := RelC.nd rl78 (show (V72 1 2).toInt = ((go : Nat) : Int) from by omega) ajV89 (by decide) (Imp.go t88 (by omega))
                  have hr93 : ∀ k, Rc gT (Crun gs (Imember :: k)) (Crun (sN (nx (nx (nx gs 1) 1) 1) 1 ((nx (nx (nx gs 1) 1) 1).1 1 + 1)) (Imember :: k)) := fun k => Rc.go1 (hr79 k) (m_addNeed)
                  refine lv_iconst (v := 1) hx hb dX1_readNeed_148 (by decide) ?_
                  have ps94 : gs.1 0 + 1 ≤ (nx gs 1).1 0 := ((keepS.n1 1)).1
                  have ps95 : (nx gs 1).1 0 + 1 ≤ (nx (nx gs 1) 1).1 0 := ((keepS.n1 1)).1
                  have ps96 : (nx (nx gs 1) 1).1 0 + 1 ≤ (nx (nx (nx gs 1) 1) 1).1 0 := ((keepS.n1 1)).1
                  have ps97 : (sN (nx (nx (nx gs 1) 1) 1) 1 ((nx (nx (nx gs 1) 1) 1).1 1 + 1)).1 0 = (nx (nx (nx gs 1) 1) 1).1 0 := rfl
                  have rw98 : ROWL b L L73 := (fun k hk => ((axL73 44 k rfl).trans ((axL58 44 k rfl).trans ((axL19 44 k rfl).trans rfl))))
                  exact W.zret (v := 1) hx hb hr rfl (fun t ht hW => ⟨⟨1, (V89, L73), rfl, ⟨hMV89, agV89, alL73, (by decide), (Or.inl ⟨rfl, (sN (nx (nx (nx gs 1) 1) 1) 1 ((nx (nx (nx gs 1) 1) 1).1 1 + 1)), hr93, rl92, (by omega)⟩), rw98⟩, by rw [ht]; exact hP, va_K.moved hW.alike hK, hD⟩, hS.F ht⟩) hS.2.2 dX1_readNeed_149
                · skip
                  have f99 : z67.toInt = 0 := b_eq rfl (by decide) c80
                  exfalso; first | omega | ((try (have i_t70 := Imp.go t70 (by omega))); omega)
              · skip
                have hb100 : ∀ k, Rc gT (Crun gs (Imember :: k)) (Cbad (V72 1 3).toInt) := fun k => Rc.go1 (hr65 k) ((tk_n (fun h9 => h75 (rl61.tok.1.symm.trans (h9.trans (by decide))))).trans (fl_eq rl61.tok.2.2 k76))
                refine lv_if_ne (tgt := 138) hx hb dX1_readNeed_133 (by decide) (fun c101 => ?_) (fun c101 => ?_)
                · skip
                  have f102 : z67.toInt ≠ 0 := b_neq rfl (by decide) c101
                  exfalso; first | omega | ((try (have i_t70 := Imp.go t70 (by omega))); omega)
                · skip
                  have f103 : z67.toInt = 0 := b_eq rfl (by decide) c101
                  refine lv_iconst (v := 0) hx hb dX1_readNeed_136 (by decide) ?_
                  have rw104 : ROWL b L L73 := (fun k hk => ((axL73 44 k rfl).trans ((axL58 44 k rfl).trans ((axL19 44 k rfl).trans rfl))))
                  exact W.zret (v := 0) hx hb hr rfl (fun t ht hW => ⟨⟨0, (V72, L73), rfl, ⟨hMV72, agV72, alL73, (by decide), (Or.inr ⟨rfl, hb100⟩), rw104⟩, by rw [ht]; exact hP, va_K.moved hW.alike hK, hD⟩, hS.F ht⟩) hS.2.2 dX1_readNeed_137
            · skip
              have f105 : ((V57 6 9)).toInt = 133 := b_eq rfl (by decide) c62
              refine lv_aload_n hx hb dX1_readNeed_113 rfl (lv_at hl 3 rfl) ?_
              have kd106 : gT.1 ((nx (nx gs 1) 1).1 0) = ((V57 6 9)).toInt := RelC.kd rl61
              have hr107 : ∀ k, Rc gT (Crun gs (Imember :: k)) (Crun (nx (nx (nx gs 1) 1) 1) (Iword :: Itake 59 :: IaddNeed :: Imember :: k)) := fun k => Rc.go1 (hr46 k) (called_y  (kd106.trans f105))
              have pq108 : (V57 1 1).toInt = ((V 1 1)).toInt := congrArg Int32.toInt ((ajV57 1 1 rfl).trans ((ajV34 1 1 rfl).trans (ajV18 1 1 rfl)))
              refine gA_int (gA_runV (As := []) (rest := []) (ci := 1) (q0 := 1) hx hb hml hown hg hP hD hK hS hA hnw hgk (x_takeCalled3 l D ks H.size ad kk V57 L58 Z (b) (gT) ((nx (nx gs 1) 1)) hMV57 (show b < 2 from by omega) (show (V57 1 1).toInt = (b : Int) from by omega) rl61 (show (V57 6 9).toInt = 133 from by omega)) w923 w925 w15 w162 w926 rfl xgReader hdV_yX1_takeCalled ⟨Nat.le_of_ble_eq_true rfl, Nat.le_of_ble_eq_true rfl⟩ rfl hl.1 rfl (Nat.le_of_ble_eq_true rfl) dX1_readNeed_114 ⟨Nat.le_of_ble_eq_true rfl, Nat.le_of_ble_eq_true rfl⟩) hP hD hK hS hA (fun z109 u110 H locs w111 hP hD hK hS => ?_)
              obtain ⟨V114, L115⟩ := u110
              obtain ⟨hMV114, ajV114, axL115, rgz109, t112, t113⟩ := w111
              have alL115 : agL [6, 44] L L115 := agL.tr alL58 axL115 (by decide)
              have hP : va_P D vwCl (xw ad kk V114 L115 Z) H := hP
              have hD : va_D A (xw ad kk V114 L115 Z) := hD
              have hMV114 : rgd bX V114 := hMV114
              have ajV114 : agr [(1, 3), (1, 6), (6, 8), (6, 9), (6, 10)] [43, 44] V57 V114 := ajV114
              have agV114 : agr [(1, 3), (1, 6), (6, 8), (6, 9), (6, 10)] [43, 44, 49, 58, 59, 60] V V114 := agV57.tr ajV114 (by decide) (by decide)
              have rgz109 : 0 ≤ z109.toInt ∧ z109.toInt ≤ 1 := rgz109
              have t112 : KcS (mthW gT (nx (nx (nx gs 1) 1) 1) 4) z109.toInt (V114 1 3).toInt (fun x9 => RelC V114 L115 b gT x9.2 ∧ (V114 1 6).toInt = ((x9.1 : Nat) : Int) ∧ x9.1 < 20 ∧ keepS (nx (nx gs 1) 1) 2 x9.2) := t112
              have t113 : ROWL b L58 L115 := t113
              rcases t112 with ⟨q116, mx117, h118, rl119, hf120, hb121, kp122⟩ | ⟨q116, h118⟩
              · skip
                have hr123 : ∀ k, Rc gT (Crun gs (Imember :: k)) (Crun mx117.2 (Itake 59 :: IaddNeed :: Imember :: k)) := fun k => Rc.go1 (hr107 k) (wo_y h118)
                refine lv_if_ne (tgt := 122) hx hb dX1_readNeed_117 (by decide) (fun c124 => ?_) (fun c124 => ?_)
                · skip
                  have f125 : z109.toInt ≠ 0 := b_neq rfl (by decide) c124
                  refine lv_aload_n hx hb dX1_readNeed_122 rfl (lv_at hl 3 rfl) ?_
                  refine va_get (D := D) (ci := 1) (v := .int (V114 1 6)) (fs := (xfReader ad V114 L115 Z)) (C := RX1) (T := TX1) (N := 9) hx hb hg inX1 hown hK hP 1 xgReader rfl 6 (by decide) (hg _ w310) (fun _ h9 => h9) rfl dX1_readNeed_123 ?_
                  have r126 : (-1) ≤ ((V114 1 6)).toInt ∧ ((V114 1 6)).toInt ≤ 23 := hMV114 1 6
                  refine lv_istore_n (lv' := [(3, .int (V114 1 6)), (2, .int (V34 1 6)), (1, .int 0), (0, .ref (ad 1))]) hx hb dX1_readNeed_126 rfl hl (by decide) rfl (fun ls hl => ?_)
                  refine lv_aload_n hx hb dX1_readNeed_127 rfl (lv_at hl 3 rfl) ?_
                  refine lv_bipush (v := 59) hx hb dX1_readNeed_128 (by decide) ?_
                  have r127 : Int32.toInt 59 = 59 := by decide
                  refine gA_int (gA_runV (As := [.int 59]) (rest := []) (ci := 1) (q0 := 1) hx hb hml hown hg hP hD hK hS hA hnw hgk (x_take2 l D ks H.size ad kk V114 L115 Z 59 ((mx117.2.1 0)) hMV114 (rl119).1 (rl119).2.1.1 (show 1 ≤ (Int32.toInt 59) from by omega)) w893 w895 w10 w162 w896 rfl xgReader hdV_yX1_take ⟨Nat.le_of_ble_eq_true rfl, Nat.le_of_ble_eq_true rfl⟩ rfl hl.1 rfl (Nat.le_of_ble_eq_true rfl) dX1_readNeed_130 ⟨Nat.le_of_ble_eq_true rfl, Nat.le_of_ble_eq_true rfl⟩) hP hD hK hS hA (fun z128 u129 H locs w130 hP hD hK hS => ?_)
                  obtain ⟨V133, L134⟩ := u129
                  obtain ⟨hMV133, ajV133, axL134, rgz128, t131, t132⟩ := w130
                  have alL134 : agL [6, 44] L L134 := agL.tr alL115 axL134 (by decide)
                  have hP : va_P D vwCl (xw ad kk V133 L134 Z) H := hP
                  have hD : va_D A (xw ad kk V133 L134 Z) := hD
                  have hMV133 : rgd bX V133 := hMV133
                  have ajV133 : agr [(1, 3), (6, 8), (6, 9), (6, 10)] [] V114 V133 := ajV133
                  have agV133 : agr [(1, 3), (1, 6), (6, 8), (6, 9), (6, 10)] [43, 44, 49, 58, 59, 60] V V133 := agV114.tr ajV133 (by decide) (by decide)
                  have rgz128 : 0 ≤ z128.toInt ∧ z128.toInt ≤ 1 := rgz128
                  have t131 : Imp (z128.toInt = 0) (1 ≤ (V133 1 3).toInt) := t131
                  have t132 : (z128.toInt = 1 ∧ (V114 12 (mx117.2.1 0)).toInt = (Int32.toInt 59) ∧ CUR V133 L134 ((mx117.2.1 0) + 1) ∧ V133 1 3 = V114 1 3) ∨ (z128.toInt = 0 ∧ (V114 12 (mx117.2.1 0)).toInt ≠ (Int32.toInt 59) ∧ (V133 1 3).toInt = 1 + 16 * (V114 13 (mx117.2.1 0)).toInt) := t132
                  rcases t132 with ⟨q135, h136, k137, k138⟩ | ⟨q135, h136, k137⟩
                  · skip
                    have rl139 : RelC V133 L134 b gT (nx mx117.2 1) := RelC.nx1 rl119 ajV133 (by decide) axL134 (by decide) k137 k138
                    have hr140 : ∀ k, Rc gT (Crun gs (Imember :: k)) (Crun (nx mx117.2 1) (IaddNeed :: Imember :: k)) := fun k => Rc.go1 (hr123 k) (tk_y (rl119.tok.1.trans (h136.trans (by decide))))
                    refine lv_if_ne (tgt := 138) hx hb dX1_readNeed_133 (by decide) (fun c141 => ?_) (fun c141 => ?_)
                    · skip
                      have f142 : z128.toInt ≠ 0 := b_neq rfl (by decide) c141
                      refine lv_aload_n hx hb dX1_readNeed_138 rfl (lv_at hl 3 rfl) ?_
                      refine va_get (D := D) (ci := 1) (v := rfN ad 72 (V133 1 2)) (fs := (xfReader ad V133 L134 Z)) (C := RX1) (T := TX1) (N := 9) hx hb hg inX1 hown hK hP 1 xgReader rfl 2 (by decide) (hg _ w306) (fun _ h9 => h9) rfl dX1_readNeed_139 ?_
                      have pq143 : (V133 1 2).toInt = ((V 1 2)).toInt := congrArg Int32.toInt ((ajV133 1 2 rfl).trans ((ajV114 1 2 rfl).trans ((ajV57 1 2 rfl).trans ((ajV34 1 2 rfl).trans (ajV18 1 2 rfl)))))
                      refine g_topv (v := .ref (ad (72 + go))) (rfN_r (by first | omega | ((try (have i_t131 := Imp.go t131 (by omega))); omega))) ?_
                      refine lv_iload_n hx hb dX1_readNeed_142 rfl (lv_at hl 2 rfl) ?_
                      refine lv_iload_n hx hb dX1_readNeed_143 rfl (lv_at hl 1 rfl) ?_
                      refine lv_iload_n hx hb dX1_readNeed_144 rfl (lv_at hl 0 rfl) ?_
                      have r144 : Int32.toInt 0 = 0 := by decide
                      refine gA_void (gA_runV (As := [.int 0, .int (V34 1 6), .int (V114 1 6)]) (rest := []) (ci := 3) (q0 := (72 + go)) hx hb hml hown hg hP hD hK hS hA hnw hgk (x_addNeed3 l D ks H.size ad kk V133 L134 Z 0 (V34 1 6) (V114 1 6) (go) hMV133 (show go < 48 from by first | omega | ((try (have i_t131 := Imp.go t131 (by omega))); omega))) w1011 w1012 w1013 w169 w1014 rfl (xgComp hgo) hdV_yX3_addNeed ⟨Nat.le_of_ble_eq_true rfl, Nat.le_of_ble_eq_true rfl⟩ rfl hl.1 rfl (Nat.le_of_ble_eq_true rfl) dX1_readNeed_145 ⟨Nat.le_of_ble_eq_true rfl, Nat.le_of_ble_eq_true rfl⟩) hP hD hK hS hA (fun u146 H locs w147 hP hD hK hS => ?_)
                      obtain ⟨V149, L150⟩ := u146
                      obtain ⟨hMV149, ajV149, axL150, fyV149, t148⟩ := w147
                      have axL150 : L134 = L150 := Eq.symm axL150
                      subst axL150
                      have hP : va_P D vwCl (xw ad kk V149 L134 Z) H := hP
                      have hD : va_D A (xw ad kk V149 L134 Z) := hD
                      have hMV149 : rgd bX V149 := hMV149
                      have ajV149 : agr [] [49, 58, 59, 60] V133 V149 := ajV149
                      have agV149 : agr [(1, 3), (1, 6), (6, 8), (6, 9), (6, 10)] [43, 44, 49, 58, 59, 60] V V149 := agV133.tr ajV149 (by decide) (by decide)
                      have t148 : Imp ((V133 49 go).toInt < 8) ((V149 49 go).toInt = (V133 49 go).toInt + 1) := t148
                      have pq151 : (V133 49 go).toInt = ((V 49 go)).toInt := congrArg Int32.toInt ((ajV133 49 go rfl).trans ((ajV114 49 go rfl).trans ((ajV57 49 go rfl).trans ((ajV34 49 go rfl).trans (ajV18 49 go rfl)))))
                      have rl152 : RelC V149 L134 b gT (sN (nx mx117.2 1) 1 ((nx mx117.2 1).1 1 + 1)) := RelC.nd rl139 (show (V133 1 2).toInt = ((go : Nat) : Int) from by omega) ajV149 (by decide) (Imp.go t148 (by omega))
                      have hr153 : ∀ k, Rc gT (Crun gs (Imember :: k)) (Crun (sN (nx mx117.2 1) 1 ((nx mx117.2 1).1 1 + 1)) (Imember :: k)) := fun k => Rc.go1 (hr140 k) (m_addNeed)
                      refine lv_iconst (v := 1) hx hb dX1_readNeed_148 (by decide) ?_
                      have ps154 : gs.1 0 + 1 ≤ (nx gs 1).1 0 := ((keepS.n1 1)).1
                      have ps155 : (nx gs 1).1 0 + 1 ≤ (nx (nx gs 1) 1).1 0 := ((keepS.n1 1)).1
                      have ps156 : (nx (nx gs 1) 1).1 0 + 2 ≤ mx117.2.1 0 := (kp122).1
                      have ps157 : mx117.2.1 0 + 1 ≤ (nx mx117.2 1).1 0 := ((keepS.n1 1)).1
                      have ps158 : (sN (nx mx117.2 1) 1 ((nx mx117.2 1).1 1 + 1)).1 0 = (nx mx117.2 1).1 0 := rfl
                      have rw159 : ROWL b L L134 := (fun k hk => ((axL134 44 k rfl).trans ((t113 k hk).trans ((axL58 44 k rfl).trans ((axL19 44 k rfl).trans rfl)))))
                      exact W.zret (v := 1) hx hb hr rfl (fun t ht hW => ⟨⟨1, (V149, L134), rfl, ⟨hMV149, agV149, alL134, (by decide), (Or.inl ⟨rfl, (sN (nx mx117.2 1) 1 ((nx mx117.2 1).1 1 + 1)), hr153, rl152, (by omega)⟩), rw159⟩, by rw [ht]; exact hP, va_K.moved hW.alike hK, hD⟩, hS.F ht⟩) hS.2.2 dX1_readNeed_149
                    · skip
                      have f160 : z128.toInt = 0 := b_eq rfl (by decide) c141
                      exfalso; first | omega | ((try (have i_t131 := Imp.go t131 (by omega))); omega)
                  · skip
                    have hb161 : ∀ k, Rc gT (Crun gs (Imember :: k)) (Cbad (V133 1 3).toInt) := fun k => Rc.go1 (hr123 k) ((tk_n (fun h9 => h136 (rl119.tok.1.symm.trans (h9.trans (by decide))))).trans (fl_eq rl119.tok.2.2 k137))
                    refine lv_if_ne (tgt := 138) hx hb dX1_readNeed_133 (by decide) (fun c162 => ?_) (fun c162 => ?_)
                    · skip
                      have f163 : z128.toInt ≠ 0 := b_neq rfl (by decide) c162
                      exfalso; first | omega | ((try (have i_t131 := Imp.go t131 (by omega))); omega)
                    · skip
                      have f164 : z128.toInt = 0 := b_eq rfl (by decide) c162
                      refine lv_iconst (v := 0) hx hb dX1_readNeed_136 (by decide) ?_
                      have rw165 : ROWL b L L134 := (fun k hk => ((axL134 44 k rfl).trans ((t113 k hk).trans ((axL58 44 k rfl).trans ((axL19 44 k rfl).trans rfl)))))
                      exact W.zret (v := 0) hx hb hr rfl (fun t ht hW => ⟨⟨0, (V133, L134), rfl, ⟨hMV133, agV133, alL134, (by decide), (Or.inr ⟨rfl, hb161⟩), rw165⟩, by rw [ht]; exact hP, va_K.moved hW.alike hK, hD⟩, hS.F ht⟩) hS.2.2 dX1_readNeed_137
                · skip
                  have f166 : z109.toInt = 0 := b_eq rfl (by decide) c124
                  exfalso; omega
              · skip
                have hb167 : ∀ k, Rc gT (Crun gs (Imember :: k)) (Cbad (V114 1 3).toInt) := fun k => Rc.go1 (hr107 k) (wo_b h118)
                refine lv_if_ne (tgt := 122) hx hb dX1_readNeed_117 (by decide) (fun c168 => ?_) (fun c168 => ?_)
                · skip
                  have f169 : z109.toInt ≠ 0 := b_neq rfl (by decide) c168
                  exfalso; omega
                · skip
                  have f170 : z109.toInt = 0 := b_eq rfl (by decide) c168
                  refine lv_iconst (v := 0) hx hb dX1_readNeed_120 (by decide) ?_
                  have rw171 : ROWL b L L115 := (fun k hk => ((t113 k hk).trans ((axL58 44 k rfl).trans ((axL19 44 k rfl).trans rfl))))
                  exact W.zret (v := 0) hx hb hr rfl (fun t ht hW => ⟨⟨0, (V114, L115), rfl, ⟨hMV114, agV114, alL115, (by decide), (Or.inr ⟨rfl, hb167⟩), rw171⟩, by rw [ht]; exact hP, va_K.moved hW.alike hK, hD⟩, hS.F ht⟩) hS.2.2 dX1_readNeed_121
          · skip
            have f172 : z30.toInt = 0 := b_eq rfl (by decide) c43
            exfalso; omega
        · skip
          have hb173 : ∀ k, Rc gT (Crun gs (Imember :: k)) (Cbad (V34 1 3).toInt) := fun k => Rc.go1 (hr28 k) (nd_b h38)
          refine lv_if_ne (tgt := 81) hx hb dX1_readNeed_76 (by decide) (fun c174 => ?_) (fun c174 => ?_)
          · skip
            have f175 : z30.toInt ≠ 0 := b_neq rfl (by decide) c174
            exfalso; omega
          · skip
            have f176 : z30.toInt = 0 := b_eq rfl (by decide) c174
            refine lv_iconst (v := 0) hx hb dX1_readNeed_79 (by decide) ?_
            have rw177 : ROWL b L L19 := (fun k hk => ((axL19 44 k rfl).trans rfl))
            exact W.zret (v := 0) hx hb hr rfl (fun t ht hW => ⟨⟨0, (V34, L19), rfl, ⟨hMV34, agV34, alL19, (by decide), (Or.inr ⟨rfl, hb173⟩), rw177⟩, by rw [ht]; exact hP, va_K.moved hW.alike hK, hD⟩, hS.F ht⟩) hS.2.2 dX1_readNeed_80
      · skip
        have f178 : ((V18 6 9)).toInt = 139 := b_eq rfl (by decide) c25
        refine lv_iconst (v := 2) hx hb dX1_readNeed_55 (by decide) ?_
        refine lv_goto (tgt := 60) hx hb dX1_readNeed_56 (by decide) ?_
        refine lv_istore_n (lv' := [(1, .int 2), (0, .ref (ad 1))]) hx hb dX1_readNeed_60 rfl hl (by decide) rfl (fun ls hl => ?_)
        refine lv_iload_n hx hb dX1_readNeed_61 rfl (lv_at hl 0 rfl) ?_
        refine lv_if_eq (tgt := 72) hx hb dX1_readNeed_62 (by decide) (fun q => absurd q (by decide)) (fun _ => ?_)
        refine lv_aload_n hx hb dX1_readNeed_65 rfl (lv_at hl 1 rfl) ?_
        refine va_get (D := D) (ci := 1) (v := .ref (ad 6)) (fs := (xfReader ad V18 L19 Z)) (C := RX1) (T := TX1) (N := 9) hx hb hg inX1 hown hK hP 1 xgReader rfl 0 (by decide) (hg _ w304) (fun _ h9 => h9) rfl dX1_readNeed_66 ?_
        have kd179 : gT.1 ((nx gs 1).1 0) = ((V18 6 9)).toInt := RelC.kd rl22
        have hr180 : ∀ k, Rc gT (Crun gs (Imember :: k)) (Crun (nx (nx gs 1) 1) (IneedT 1 :: k)) := fun k => Rc.go1 (hr8 k) (needK_a (kd179.trans f178))
        have l8181 := RelC.l8 rl22
        have lk182 := RelC.lk rl22 (show (V18 6 9).toInt ≠ 0 from by omega)
        refine gA_void (gA_runV (As := []) (rest := []) (ci := 9) (q0 := 6) hx hb hml hown hg hP hD hK hS hA hnw hgk (x_next2 l D ks H.size ad kk V18 L19 Z  hMV18 (show (V18 6 8).toInt ≤ (V18 6 7).toInt from by omega)) w871 w852 w853 w157 w854 rfl xgTape hdV_yX9_next ⟨Nat.le_of_ble_eq_true rfl, Nat.le_of_ble_eq_true rfl⟩ rfl hl.1 rfl (Nat.le_of_ble_eq_true rfl) dX1_readNeed_69 ⟨Nat.le_of_ble_eq_true rfl, Nat.le_of_ble_eq_true rfl⟩) hP hD hK hS hA (fun u184 H locs w185 hP hD hK hS => ?_)
        obtain ⟨V188, L189⟩ := u184
        obtain ⟨hMV188, ajV188, axL189, t186, t187⟩ := w185
        have alL189 : agL [6, 44] L L189 := agL.tr alL19 axL189 (by decide)
        have hP : va_P D vwCl (xw ad kk V188 L189 Z) H := hP
        have hD : va_D A (xw ad kk V188 L189 Z) := hD
        have hMV188 : rgd bX V188 := hMV188
        have ajV188 : agr [(6, 8), (6, 9), (6, 10)] [] V18 V188 := ajV188
        have agV188 : agr [(1, 3), (1, 6), (6, 8), (6, 9), (6, 10)] [43, 44, 49, 58, 59, 60] V V188 := agV18.tr ajV188 (by decide) (by decide)
        have t186 : (V188 6 8).toInt ≤ (V188 6 7).toInt := t186
        have t187 : CUR V188 L189 (Int32.toNatClampNeg (V18 6 8)) := t187
        have r190 : 0 ≤ ((V188 6 8)).toInt ∧ ((V188 6 8)).toInt ≤ 4000 := hMV188 6 8
        have pq191 : (V188 6 7).toInt = ((V 6 7)).toInt := congrArg Int32.toInt ((ajV188 6 7 rfl).trans (ajV18 6 7 rfl))
        have rl192 : RelC V188 L189 b gT (nx (nx gs 1) 1) := RelC.nx1 rl22 ajV188 (by decide) axL189 (by decide) (by rw [← lk182]; exact t187) (ajV188 1 3 rfl)
        refine lv_aload_n hx hb dX1_readNeed_72 rfl (lv_at hl 1 rfl) ?_
        have pq193 : (V188 1 1).toInt = ((V 1 1)).toInt := congrArg Int32.toInt ((ajV188 1 1 rfl).trans (ajV18 1 1 rfl))
        refine gA_int (gA_runV (As := []) (rest := []) (ci := 1) (q0 := 1) hx hb hml hown hg hP hD hK hS hA hnw hgk (x_isToldType3 l D ks H.size ad kk V188 L189 Z (b) (gT) ((nx (nx gs 1) 1)) hMV188 (show b < 2 from by omega) (show (V188 1 1).toInt = (b : Int) from by omega) rl192) w888 w890 w9 w162 w891 rfl xgReader hdV_yX1_isToldType ⟨Nat.le_of_ble_eq_true rfl, Nat.le_of_ble_eq_true rfl⟩ rfl hl.1 rfl (Nat.le_of_ble_eq_true rfl) dX1_readNeed_73 ⟨Nat.le_of_ble_eq_true rfl, Nat.le_of_ble_eq_true rfl⟩) hP hD hK hS hA (fun z194 u195 H locs w196 hP hD hK hS => ?_)
        obtain ⟨V198, L199⟩ := u195
        obtain ⟨hMV198, ajV198, axL199, rgz194, t197⟩ := w196
        have axL199 : L189 = L199 := Eq.symm axL199
        subst axL199
        have hP : va_P D vwCl (xw ad kk V198 L189 Z) H := hP
        have hD : va_D A (xw ad kk V198 L189 Z) := hD
        have hMV198 : rgd bX V198 := hMV198
        have ajV198 : agr [(1, 3), (1, 6)] [] V188 V198 := ajV198
        have agV198 : agr [(1, 3), (1, 6), (6, 8), (6, 9), (6, 10)] [43, 44, 49, 58, 59, 60] V V198 := agV188.tr ajV198 (by decide) (by decide)
        have rgz194 : 0 ≤ z194.toInt ∧ z194.toInt ≤ 1 := rgz194
        have t197 : KcN (look gT (nx (nx gs 1) 1) ((nx (nx gs 1) 1).2.1 0)) z194.toInt (V198 1 3).toInt (fun f9 => RelC V198 L189 b gT (nx (nx gs 1) 1) ∧ (V198 1 6).toInt = ((f9 : Nat) : Int) ∧ f9 < 24) := t197
        rcases t197 with ⟨q200, fx201, h202, rl203, hf204, hb205⟩ | ⟨q200, h202⟩
        · skip
          have kn206 := look_ne h202
          have kd207 : gT.1 ((nx (nx gs 1) 1).1 0) = ((V188 6 9)).toInt := (RelC.kd rl203).trans (congrArg Int32.toInt (ajV198 6 9 rfl))
          refine lv_if_ne (tgt := 81) hx hb dX1_readNeed_76 (by decide) (fun c208 => ?_) (fun c208 => ?_)
          · skip
            have f209 : z194.toInt ≠ 0 := b_neq rfl (by decide) c208
            refine lv_aload_n hx hb dX1_readNeed_81 rfl (lv_at hl 1 rfl) ?_
            refine va_get (D := D) (ci := 1) (v := .int (V198 1 6)) (fs := (xfReader ad V198 L189 Z)) (C := RX1) (T := TX1) (N := 9) hx hb hg inX1 hown hK hP 1 xgReader rfl 6 (by decide) (hg _ w310) (fun _ h9 => h9) rfl dX1_readNeed_82 ?_
            have r210 : (-1) ≤ ((V198 1 6)).toInt ∧ ((V198 1 6)).toInt ≤ 23 := hMV198 1 6
            refine lv_istore_n (lv' := [(2, .int (V198 1 6)), (1, .int 2), (0, .ref (ad 1))]) hx hb dX1_readNeed_85 rfl hl (by decide) rfl (fun ls hl => ?_)
            refine lv_iconst (v := (-1)) hx hb dX1_readNeed_86 (by decide) ?_
            refine lv_istore_n (lv' := [(3, .int (-1)), (2, .int (V198 1 6)), (1, .int 2), (0, .ref (ad 1))]) hx hb dX1_readNeed_87 rfl hl (by decide) rfl (fun ls hl => ?_)
            refine lv_aload_n hx hb dX1_readNeed_88 rfl (lv_at hl 3 rfl) ?_
            refine va_get (D := D) (ci := 1) (v := .ref (ad 6)) (fs := (xfReader ad V198 L189 Z)) (C := RX1) (T := TX1) (N := 9) hx hb hg inX1 hown hK hP 1 xgReader rfl 0 (by decide) (hg _ w304) (fun _ h9 => h9) rfl dX1_readNeed_89 ?_
            have hr211 : ∀ k, Rc gT (Crun gs (Imember :: k)) (Crun (nx (nx (nx gs 1) 1) 1) (Itake 59 :: IaddNeed :: Imember :: k)) := fun k => Rc.go1 (hr180 k) (nd_1 h202)
            have l8212 := RelC.l8 rl203
            have pq213 : (V198 6 8).toInt = ((V188 6 8)).toInt := congrArg Int32.toInt (ajV198 6 8 rfl)
            have pq214 : (V198 6 7).toInt = ((V 6 7)).toInt := congrArg Int32.toInt ((ajV198 6 7 rfl).trans ((ajV188 6 7 rfl).trans (ajV18 6 7 rfl)))
            have pq215 : (V198 6 9).toInt = ((V188 6 9)).toInt := congrArg Int32.toInt (ajV198 6 9 rfl)
            have lk216 := RelC.lk rl203 (show (V198 6 9).toInt ≠ 0 from by omega)
            refine gA_void (gA_runV (As := []) (rest := []) (ci := 9) (q0 := 6) hx hb hml hown hg hP hD hK hS hA hnw hgk (x_next2 l D ks H.size ad kk V198 L189 Z  hMV198 (show (V198 6 8).toInt ≤ (V198 6 7).toInt from by omega)) w871 w852 w853 w157 w854 rfl xgTape hdV_yX9_next ⟨Nat.le_of_ble_eq_true rfl, Nat.le_of_ble_eq_true rfl⟩ rfl hl.1 rfl (Nat.le_of_ble_eq_true rfl) dX1_readNeed_92 ⟨Nat.le_of_ble_eq_true rfl, Nat.le_of_ble_eq_true rfl⟩) hP hD hK hS hA (fun u218 H locs w219 hP hD hK hS => ?_)
            obtain ⟨V222, L223⟩ := u218
            obtain ⟨hMV222, ajV222, axL223, t220, t221⟩ := w219
            have alL223 : agL [6, 44] L L223 := agL.tr alL189 axL223 (by decide)
            have hP : va_P D vwCl (xw ad kk V222 L223 Z) H := hP
            have hD : va_D A (xw ad kk V222 L223 Z) := hD
            have hMV222 : rgd bX V222 := hMV222
            have ajV222 : agr [(6, 8), (6, 9), (6, 10)] [] V198 V222 := ajV222
            have agV222 : agr [(1, 3), (1, 6), (6, 8), (6, 9), (6, 10)] [43, 44, 49, 58, 59, 60] V V222 := agV198.tr ajV222 (by decide) (by decide)
            have t220 : (V222 6 8).toInt ≤ (V222 6 7).toInt := t220
            have t221 : CUR V222 L223 (Int32.toNatClampNeg (V198 6 8)) := t221
            have r224 : 0 ≤ ((V222 6 8)).toInt ∧ ((V222 6 8)).toInt ≤ 4000 := hMV222 6 8
            have pq225 : (V222 6 7).toInt = ((V 6 7)).toInt := congrArg Int32.toInt ((ajV222 6 7 rfl).trans ((ajV198 6 7 rfl).trans ((ajV188 6 7 rfl).trans (ajV18 6 7 rfl))))
            have rl226 : RelC V222 L223 b gT (nx (nx (nx gs 1) 1) 1) := RelC.nx1 rl203 ajV222 (by decide) axL223 (by decide) (by rw [← lk216]; exact t221) (ajV222 1 3 rfl)
            refine lv_iload_n hx hb dX1_readNeed_95 rfl (lv_at hl 2 rfl) ?_
            refine lv_iconst (v := 2) hx hb dX1_readNeed_96 (by decide) ?_
            refine lv_icmp_eq (tgt := 127) hx hb dX1_readNeed_97 (by decide) (fun _ => ?_) (fun q => absurd (by decide) q)
            refine lv_aload_n hx hb dX1_readNeed_127 rfl (lv_at hl 3 rfl) ?_
            refine lv_bipush (v := 59) hx hb dX1_readNeed_128 (by decide) ?_
            have r227 : Int32.toInt 59 = 59 := by decide
            refine gA_int (gA_runV (As := [.int 59]) (rest := []) (ci := 1) (q0 := 1) hx hb hml hown hg hP hD hK hS hA hnw hgk (x_take2 l D ks H.size ad kk V222 L223 Z 59 (((nx (nx (nx gs 1) 1) 1).1 0)) hMV222 (rl226).1 (rl226).2.1.1 (show 1 ≤ (Int32.toInt 59) from by omega)) w893 w895 w10 w162 w896 rfl xgReader hdV_yX1_take ⟨Nat.le_of_ble_eq_true rfl, Nat.le_of_ble_eq_true rfl⟩ rfl hl.1 rfl (Nat.le_of_ble_eq_true rfl) dX1_readNeed_130 ⟨Nat.le_of_ble_eq_true rfl, Nat.le_of_ble_eq_true rfl⟩) hP hD hK hS hA (fun z228 u229 H locs w230 hP hD hK hS => ?_)
            obtain ⟨V233, L234⟩ := u229
            obtain ⟨hMV233, ajV233, axL234, rgz228, t231, t232⟩ := w230
            have alL234 : agL [6, 44] L L234 := agL.tr alL223 axL234 (by decide)
            have hP : va_P D vwCl (xw ad kk V233 L234 Z) H := hP
            have hD : va_D A (xw ad kk V233 L234 Z) := hD
            have hMV233 : rgd bX V233 := hMV233
            have ajV233 : agr [(1, 3), (6, 8), (6, 9), (6, 10)] [] V222 V233 := ajV233
            have agV233 : agr [(1, 3), (1, 6), (6, 8), (6, 9), (6, 10)] [43, 44, 49, 58, 59, 60] V V233 := agV222.tr ajV233 (by decide) (by decide)
            have rgz228 : 0 ≤ z228.toInt ∧ z228.toInt ≤ 1 := rgz228
            have t231 : Imp (z228.toInt = 0) (1 ≤ (V233 1 3).toInt) := t231
            have t232 : (z228.toInt = 1 ∧ (V222 12 ((nx (nx (nx gs 1) 1) 1).1 0)).toInt = (Int32.toInt 59) ∧ CUR V233 L234 (((nx (nx (nx gs 1) 1) 1).1 0) + 1) ∧ V233 1 3 = V222 1 3) ∨ (z228.toInt = 0 ∧ (V222 12 ((nx (nx (nx gs 1) 1) 1).1 0)).toInt ≠ (Int32.toInt 59) ∧ (V233 1 3).toInt = 1 + 16 * (V222 13 ((nx (nx (nx gs 1) 1) 1).1 0)).toInt) := t232
            rcases t232 with ⟨q235, h236, k237, k238⟩ | ⟨q235, h236, k237⟩
            · skip
              have rl239 : RelC V233 L234 b gT (nx (nx (nx (nx gs 1) 1) 1) 1) := RelC.nx1 rl226 ajV233 (by decide) axL234 (by decide) k237 k238
              have hr240 : ∀ k, Rc gT (Crun gs (Imember :: k)) (Crun (nx (nx (nx (nx gs 1) 1) 1) 1) (IaddNeed :: Imember :: k)) := fun k => Rc.go1 (hr211 k) (tk_y (rl226.tok.1.trans (h236.trans (by decide))))
              refine lv_if_ne (tgt := 138) hx hb dX1_readNeed_133 (by decide) (fun c241 => ?_) (fun c241 => ?_)
              · skip
                have f242 : z228.toInt ≠ 0 := b_neq rfl (by decide) c241
                refine lv_aload_n hx hb dX1_readNeed_138 rfl (lv_at hl 3 rfl) ?_
                refine va_get (D := D) (ci := 1) (v := rfN ad 72 (V233 1 2)) (fs := (xfReader ad V233 L234 Z)) (C := RX1) (T := TX1) (N := 9) hx hb hg inX1 hown hK hP 1 xgReader rfl 2 (by decide) (hg _ w306) (fun _ h9 => h9) rfl dX1_readNeed_139 ?_
                have pq243 : (V233 1 2).toInt = ((V 1 2)).toInt := congrArg Int32.toInt ((ajV233 1 2 rfl).trans ((ajV222 1 2 rfl).trans ((ajV198 1 2 rfl).trans ((ajV188 1 2 rfl).trans (ajV18 1 2 rfl)))))
                refine g_topv (v := .ref (ad (72 + go))) (rfN_r (by first | omega | ((try (have i_t231 := Imp.go t231 (by omega))); omega))) ?_
                refine lv_iload_n hx hb dX1_readNeed_142 rfl (lv_at hl 2 rfl) ?_
                refine lv_iload_n hx hb dX1_readNeed_143 rfl (lv_at hl 1 rfl) ?_
                refine lv_iload_n hx hb dX1_readNeed_144 rfl (lv_at hl 0 rfl) ?_
                have r244 : Int32.toInt 2 = 2 := by decide
                have r245 : Int32.toInt (-1) = (-1) := by decide
                refine gA_void (gA_runV (As := [.int 2, .int (V198 1 6), .int (-1)]) (rest := []) (ci := 3) (q0 := (72 + go)) hx hb hml hown hg hP hD hK hS hA hnw hgk (x_addNeed3 l D ks H.size ad kk V233 L234 Z 2 (V198 1 6) (-1) (go) hMV233 (show go < 48 from by first | omega | ((try (have i_t231 := Imp.go t231 (by omega))); omega))) w1011 w1012 w1013 w169 w1014 rfl (xgComp hgo) hdV_yX3_addNeed ⟨Nat.le_of_ble_eq_true rfl, Nat.le_of_ble_eq_true rfl⟩ rfl hl.1 rfl (Nat.le_of_ble_eq_true rfl) dX1_readNeed_145 ⟨Nat.le_of_ble_eq_true rfl, Nat.le_of_ble_eq_true rfl⟩) hP hD hK hS hA (fun u247 H locs w248 hP hD hK hS => ?_)
                obtain ⟨V250, L251⟩ := u247
                obtain ⟨hMV250, ajV250, axL251, fyV250, t249⟩ := w248
                have axL251 : L234 = L251 := Eq.symm axL251
                subst axL251
                have hP : va_P D vwCl (xw ad kk V250 L234 Z) H := hP
                have hD : va_D A (xw ad kk V250 L234 Z) := hD
                have hMV250 : rgd bX V250 := hMV250
                have ajV250 : agr [] [49, 58, 59, 60] V233 V250 := ajV250
                have agV250 : agr [(1, 3), (1, 6), (6, 8), (6, 9), (6, 10)] [43, 44, 49, 58, 59, 60] V V250 := agV233.tr ajV250 (by decide) (by decide)
                have t249 : Imp ((V233 49 go).toInt < 8) ((V250 49 go).toInt = (V233 49 go).toInt + 1) := t249
                have pq252 : (V233 49 go).toInt = ((V 49 go)).toInt := congrArg Int32.toInt ((ajV233 49 go rfl).trans ((ajV222 49 go rfl).trans ((ajV198 49 go rfl).trans ((ajV188 49 go rfl).trans (ajV18 49 go rfl)))))
                have rl253 : RelC V250 L234 b gT (sN (nx (nx (nx (nx gs 1) 1) 1) 1) 1 ((nx (nx (nx (nx gs 1) 1) 1) 1).1 1 + 1)) := RelC.nd rl239 (show (V233 1 2).toInt = ((go : Nat) : Int) from by omega) ajV250 (by decide) (Imp.go t249 (by omega))
                have hr254 : ∀ k, Rc gT (Crun gs (Imember :: k)) (Crun (sN (nx (nx (nx (nx gs 1) 1) 1) 1) 1 ((nx (nx (nx (nx gs 1) 1) 1) 1).1 1 + 1)) (Imember :: k)) := fun k => Rc.go1 (hr240 k) (m_addNeed)
                refine lv_iconst (v := 1) hx hb dX1_readNeed_148 (by decide) ?_
                have ps255 : gs.1 0 + 1 ≤ (nx gs 1).1 0 := ((keepS.n1 1)).1
                have ps256 : (nx gs 1).1 0 + 1 ≤ (nx (nx gs 1) 1).1 0 := ((keepS.n1 1)).1
                have ps257 : (nx (nx gs 1) 1).1 0 + 1 ≤ (nx (nx (nx gs 1) 1) 1).1 0 := ((keepS.n1 1)).1
                have ps258 : (nx (nx (nx gs 1) 1) 1).1 0 + 1 ≤ (nx (nx (nx (nx gs 1) 1) 1) 1).1 0 := ((keepS.n1 1)).1
                have ps259 : (sN (nx (nx (nx (nx gs 1) 1) 1) 1) 1 ((nx (nx (nx (nx gs 1) 1) 1) 1).1 1 + 1)).1 0 = (nx (nx (nx (nx gs 1) 1) 1) 1).1 0 := rfl
                have rw260 : ROWL b L L234 := (fun k hk => ((axL234 44 k rfl).trans ((axL223 44 k rfl).trans ((axL189 44 k rfl).trans ((axL19 44 k rfl).trans rfl)))))
                exact W.zret (v := 1) hx hb hr rfl (fun t ht hW => ⟨⟨1, (V250, L234), rfl, ⟨hMV250, agV250, alL234, (by decide), (Or.inl ⟨rfl, (sN (nx (nx (nx (nx gs 1) 1) 1) 1) 1 ((nx (nx (nx (nx gs 1) 1) 1) 1).1 1 + 1)), hr254, rl253, (by omega)⟩), rw260⟩, by rw [ht]; exact hP, va_K.moved hW.alike hK, hD⟩, hS.F ht⟩) hS.2.2 dX1_readNeed_149
              · skip
                have f261 : z228.toInt = 0 := b_eq rfl (by decide) c241
                exfalso; first | omega | ((try (have i_t231 := Imp.go t231 (by omega))); omega)
            · skip
              have hb262 : ∀ k, Rc gT (Crun gs (Imember :: k)) (Cbad (V233 1 3).toInt) := fun k => Rc.go1 (hr211 k) ((tk_n (fun h9 => h236 (rl226.tok.1.symm.trans (h9.trans (by decide))))).trans (fl_eq rl226.tok.2.2 k237))
              refine lv_if_ne (tgt := 138) hx hb dX1_readNeed_133 (by decide) (fun c263 => ?_) (fun c263 => ?_)
              · skip
                have f264 : z228.toInt ≠ 0 := b_neq rfl (by decide) c263
                exfalso; first | omega | ((try (have i_t231 := Imp.go t231 (by omega))); omega)
              · skip
                have f265 : z228.toInt = 0 := b_eq rfl (by decide) c263
                refine lv_iconst (v := 0) hx hb dX1_readNeed_136 (by decide) ?_
                have rw266 : ROWL b L L234 := (fun k hk => ((axL234 44 k rfl).trans ((axL223 44 k rfl).trans ((axL189 44 k rfl).trans ((axL19 44 k rfl).trans rfl)))))
                exact W.zret (v := 0) hx hb hr rfl (fun t ht hW => ⟨⟨0, (V233, L234), rfl, ⟨hMV233, agV233, alL234, (by decide), (Or.inr ⟨rfl, hb262⟩), rw266⟩, by rw [ht]; exact hP, va_K.moved hW.alike hK, hD⟩, hS.F ht⟩) hS.2.2 dX1_readNeed_137
          · skip
            have f267 : z194.toInt = 0 := b_eq rfl (by decide) c208
            exfalso; omega
        · skip
          have hb268 : ∀ k, Rc gT (Crun gs (Imember :: k)) (Cbad (V198 1 3).toInt) := fun k => Rc.go1 (hr180 k) (nd_b h202)
          refine lv_if_ne (tgt := 81) hx hb dX1_readNeed_76 (by decide) (fun c269 => ?_) (fun c269 => ?_)
          · skip
            have f270 : z194.toInt ≠ 0 := b_neq rfl (by decide) c269
            exfalso; omega
          · skip
            have f271 : z194.toInt = 0 := b_eq rfl (by decide) c269
            refine lv_iconst (v := 0) hx hb dX1_readNeed_79 (by decide) ?_
            have rw272 : ROWL b L L189 := (fun k hk => ((axL189 44 k rfl).trans ((axL19 44 k rfl).trans rfl)))
            exact W.zret (v := 0) hx hb hr rfl (fun t ht hW => ⟨⟨0, (V198, L189), rfl, ⟨hMV198, agV198, alL189, (by decide), (Or.inr ⟨rfl, hb268⟩), rw272⟩, by rw [ht]; exact hP, va_K.moved hW.alike hK, hD⟩, hS.F ht⟩) hS.2.2 dX1_readNeed_80
    · skip
      have f273 : ((V18 6 9)).toInt = 138 := b_eq rfl (by decide) c23
      refine lv_iconst (v := 1) hx hb dX1_readNeed_38 (by decide) ?_
      refine lv_goto (tgt := 60) hx hb dX1_readNeed_39 (by decide) ?_
      refine lv_istore_n (lv' := [(1, .int 1), (0, .ref (ad 1))]) hx hb dX1_readNeed_60 rfl hl (by decide) rfl (fun ls hl => ?_)
      refine lv_iload_n hx hb dX1_readNeed_61 rfl (lv_at hl 0 rfl) ?_
      refine lv_if_eq (tgt := 72) hx hb dX1_readNeed_62 (by decide) (fun q => absurd q (by decide)) (fun _ => ?_)
      refine lv_aload_n hx hb dX1_readNeed_65 rfl (lv_at hl 1 rfl) ?_
      refine va_get (D := D) (ci := 1) (v := .ref (ad 6)) (fs := (xfReader ad V18 L19 Z)) (C := RX1) (T := TX1) (N := 9) hx hb hg inX1 hown hK hP 1 xgReader rfl 0 (by decide) (hg _ w304) (fun _ h9 => h9) rfl dX1_readNeed_66 ?_
      have kd274 : gT.1 ((nx gs 1).1 0) = ((V18 6 9)).toInt := RelC.kd rl22
      have hr275 : ∀ k, Rc gT (Crun gs (Imember :: k)) (Crun (nx (nx gs 1) 1) (IneedT 0 :: k)) := fun k => Rc.go1 (hr8 k) (needK_l (kd274.trans f273))
      have l8276 := RelC.l8 rl22
      have lk277 := RelC.lk rl22 (show (V18 6 9).toInt ≠ 0 from by omega)
      refine gA_void (gA_runV (As := []) (rest := []) (ci := 9) (q0 := 6) hx hb hml hown hg hP hD hK hS hA hnw hgk (x_next2 l D ks H.size ad kk V18 L19 Z  hMV18 (show (V18 6 8).toInt ≤ (V18 6 7).toInt from by omega)) w871 w852 w853 w157 w854 rfl xgTape hdV_yX9_next ⟨Nat.le_of_ble_eq_true rfl, Nat.le_of_ble_eq_true rfl⟩ rfl hl.1 rfl (Nat.le_of_ble_eq_true rfl) dX1_readNeed_69 ⟨Nat.le_of_ble_eq_true rfl, Nat.le_of_ble_eq_true rfl⟩) hP hD hK hS hA (fun u279 H locs w280 hP hD hK hS => ?_)
      obtain ⟨V283, L284⟩ := u279
      obtain ⟨hMV283, ajV283, axL284, t281, t282⟩ := w280
      have alL284 : agL [6, 44] L L284 := agL.tr alL19 axL284 (by decide)
      have hP : va_P D vwCl (xw ad kk V283 L284 Z) H := hP
      have hD : va_D A (xw ad kk V283 L284 Z) := hD
      have hMV283 : rgd bX V283 := hMV283
      have ajV283 : agr [(6, 8), (6, 9), (6, 10)] [] V18 V283 := ajV283
      have agV283 : agr [(1, 3), (1, 6), (6, 8), (6, 9), (6, 10)] [43, 44, 49, 58, 59, 60] V V283 := agV18.tr ajV283 (by decide) (by decide)
      have t281 : (V283 6 8).toInt ≤ (V283 6 7).toInt := t281
      have t282 : CUR V283 L284 (Int32.toNatClampNeg (V18 6 8)) := t282
      have r285 : 0 ≤ ((V283 6 8)).toInt ∧ ((V283 6 8)).toInt ≤ 4000 := hMV283 6 8
      have pq286 : (V283 6 7).toInt = ((V 6 7)).toInt := congrArg Int32.toInt ((ajV283 6 7 rfl).trans (ajV18 6 7 rfl))
      have rl287 : RelC V283 L284 b gT (nx (nx gs 1) 1) := RelC.nx1 rl22 ajV283 (by decide) axL284 (by decide) (by rw [← lk277]; exact t282) (ajV283 1 3 rfl)
      refine lv_aload_n hx hb dX1_readNeed_72 rfl (lv_at hl 1 rfl) ?_
      have pq288 : (V283 1 1).toInt = ((V 1 1)).toInt := congrArg Int32.toInt ((ajV283 1 1 rfl).trans (ajV18 1 1 rfl))
      refine gA_int (gA_runV (As := []) (rest := []) (ci := 1) (q0 := 1) hx hb hml hown hg hP hD hK hS hA hnw hgk (x_isToldType3 l D ks H.size ad kk V283 L284 Z (b) (gT) ((nx (nx gs 1) 1)) hMV283 (show b < 2 from by omega) (show (V283 1 1).toInt = (b : Int) from by omega) rl287) w888 w890 w9 w162 w891 rfl xgReader hdV_yX1_isToldType ⟨Nat.le_of_ble_eq_true rfl, Nat.le_of_ble_eq_true rfl⟩ rfl hl.1 rfl (Nat.le_of_ble_eq_true rfl) dX1_readNeed_73 ⟨Nat.le_of_ble_eq_true rfl, Nat.le_of_ble_eq_true rfl⟩) hP hD hK hS hA (fun z289 u290 H locs w291 hP hD hK hS => ?_)
      obtain ⟨V293, L294⟩ := u290
      obtain ⟨hMV293, ajV293, axL294, rgz289, t292⟩ := w291
      have axL294 : L284 = L294 := Eq.symm axL294
      subst axL294
      have hP : va_P D vwCl (xw ad kk V293 L284 Z) H := hP
      have hD : va_D A (xw ad kk V293 L284 Z) := hD
      have hMV293 : rgd bX V293 := hMV293
      have ajV293 : agr [(1, 3), (1, 6)] [] V283 V293 := ajV293
      have agV293 : agr [(1, 3), (1, 6), (6, 8), (6, 9), (6, 10)] [43, 44, 49, 58, 59, 60] V V293 := agV283.tr ajV293 (by decide) (by decide)
      have rgz289 : 0 ≤ z289.toInt ∧ z289.toInt ≤ 1 := rgz289
      have t292 : KcN (look gT (nx (nx gs 1) 1) ((nx (nx gs 1) 1).2.1 0)) z289.toInt (V293 1 3).toInt (fun f9 => RelC V293 L284 b gT (nx (nx gs 1) 1) ∧ (V293 1 6).toInt = ((f9 : Nat) : Int) ∧ f9 < 24) := t292
      rcases t292 with ⟨q295, fx296, h297, rl298, hf299, hb300⟩ | ⟨q295, h297⟩
      · skip
        have kn301 := look_ne h297
        have kd302 : gT.1 ((nx (nx gs 1) 1).1 0) = ((V283 6 9)).toInt := (RelC.kd rl298).trans (congrArg Int32.toInt (ajV293 6 9 rfl))
        refine lv_if_ne (tgt := 81) hx hb dX1_readNeed_76 (by decide) (fun c303 => ?_) (fun c303 => ?_)
        · skip
          have f304 : z289.toInt ≠ 0 := b_neq rfl (by decide) c303
          refine lv_aload_n hx hb dX1_readNeed_81 rfl (lv_at hl 1 rfl) ?_
          refine va_get (D := D) (ci := 1) (v := .int (V293 1 6)) (fs := (xfReader ad V293 L284 Z)) (C := RX1) (T := TX1) (N := 9) hx hb hg inX1 hown hK hP 1 xgReader rfl 6 (by decide) (hg _ w310) (fun _ h9 => h9) rfl dX1_readNeed_82 ?_
          have r305 : (-1) ≤ ((V293 1 6)).toInt ∧ ((V293 1 6)).toInt ≤ 23 := hMV293 1 6
          refine lv_istore_n (lv' := [(2, .int (V293 1 6)), (1, .int 1), (0, .ref (ad 1))]) hx hb dX1_readNeed_85 rfl hl (by decide) rfl (fun ls hl => ?_)
          refine lv_iconst (v := (-1)) hx hb dX1_readNeed_86 (by decide) ?_
          refine lv_istore_n (lv' := [(3, .int (-1)), (2, .int (V293 1 6)), (1, .int 1), (0, .ref (ad 1))]) hx hb dX1_readNeed_87 rfl hl (by decide) rfl (fun ls hl => ?_)
          refine lv_aload_n hx hb dX1_readNeed_88 rfl (lv_at hl 3 rfl) ?_
          refine va_get (D := D) (ci := 1) (v := .ref (ad 6)) (fs := (xfReader ad V293 L284 Z)) (C := RX1) (T := TX1) (N := 9) hx hb hg inX1 hown hK hP 1 xgReader rfl 0 (by decide) (hg _ w304) (fun _ h9 => h9) rfl dX1_readNeed_89 ?_
          have hr306 : ∀ k, Rc gT (Crun gs (Imember :: k)) (Crun (nx (nx (nx gs 1) 1) 1) (Icalled :: Itake 59 :: IaddNeed :: Imember :: k)) := fun k => Rc.go1 (hr275 k) (nd_0 h297)
          have l8307 := RelC.l8 rl298
          have pq308 : (V293 6 8).toInt = ((V283 6 8)).toInt := congrArg Int32.toInt (ajV293 6 8 rfl)
          have pq309 : (V293 6 7).toInt = ((V 6 7)).toInt := congrArg Int32.toInt ((ajV293 6 7 rfl).trans ((ajV283 6 7 rfl).trans (ajV18 6 7 rfl)))
          have pq310 : (V293 6 9).toInt = ((V283 6 9)).toInt := congrArg Int32.toInt (ajV293 6 9 rfl)
          have lk311 := RelC.lk rl298 (show (V293 6 9).toInt ≠ 0 from by omega)
          refine gA_void (gA_runV (As := []) (rest := []) (ci := 9) (q0 := 6) hx hb hml hown hg hP hD hK hS hA hnw hgk (x_next2 l D ks H.size ad kk V293 L284 Z  hMV293 (show (V293 6 8).toInt ≤ (V293 6 7).toInt from by omega)) w871 w852 w853 w157 w854 rfl xgTape hdV_yX9_next ⟨Nat.le_of_ble_eq_true rfl, Nat.le_of_ble_eq_true rfl⟩ rfl hl.1 rfl (Nat.le_of_ble_eq_true rfl) dX1_readNeed_92 ⟨Nat.le_of_ble_eq_true rfl, Nat.le_of_ble_eq_true rfl⟩) hP hD hK hS hA (fun u313 H locs w314 hP hD hK hS => ?_)
          obtain ⟨V317, L318⟩ := u313
          obtain ⟨hMV317, ajV317, axL318, t315, t316⟩ := w314
          have alL318 : agL [6, 44] L L318 := agL.tr alL284 axL318 (by decide)
          have hP : va_P D vwCl (xw ad kk V317 L318 Z) H := hP
          have hD : va_D A (xw ad kk V317 L318 Z) := hD
          have hMV317 : rgd bX V317 := hMV317
          have ajV317 : agr [(6, 8), (6, 9), (6, 10)] [] V293 V317 := ajV317
          have agV317 : agr [(1, 3), (1, 6), (6, 8), (6, 9), (6, 10)] [43, 44, 49, 58, 59, 60] V V317 := agV293.tr ajV317 (by decide) (by decide)
          have t315 : (V317 6 8).toInt ≤ (V317 6 7).toInt := t315
          have t316 : CUR V317 L318 (Int32.toNatClampNeg (V293 6 8)) := t316
          have r319 : 0 ≤ ((V317 6 8)).toInt ∧ ((V317 6 8)).toInt ≤ 4000 := hMV317 6 8
          have pq320 : (V317 6 7).toInt = ((V 6 7)).toInt := congrArg Int32.toInt ((ajV317 6 7 rfl).trans ((ajV293 6 7 rfl).trans ((ajV283 6 7 rfl).trans (ajV18 6 7 rfl))))
          have rl321 : RelC V317 L318 b gT (nx (nx (nx gs 1) 1) 1) := RelC.nx1 rl298 ajV317 (by decide) axL318 (by decide) (by rw [← lk311]; exact t316) (ajV317 1 3 rfl)
          refine lv_iload_n hx hb dX1_readNeed_95 rfl (lv_at hl 2 rfl) ?_
          refine lv_iconst (v := 2) hx hb dX1_readNeed_96 (by decide) ?_
          refine lv_icmp_eq (tgt := 127) hx hb dX1_readNeed_97 (by decide) (fun q => absurd q (by decide)) (fun _ => ?_)
          refine lv_aload_n hx hb dX1_readNeed_100 rfl (lv_at hl 3 rfl) ?_
          refine va_get (D := D) (ci := 1) (v := .ref (ad 6)) (fs := (xfReader ad V317 L318 Z)) (C := RX1) (T := TX1) (N := 9) hx hb hg inX1 hown hK hP 1 xgReader rfl 0 (by decide) (hg _ w304) (fun _ h9 => h9) rfl dX1_readNeed_101 ?_
          refine va_getN (D := D) (ci := 9) (v := .int (V317 6 9)) (fs := (xfTape ad V317 L318 Z)) (C := RX9) (T := TX9) (N := 12) hx hb hg inX9 hown hK hP 6 xgTape rfl 9 (by decide) (hnw.use 262 n262 rfl) (fun _ h9 => h9) rfl dX1_readNeed_104 ?_
          refine lv_sipush (v := 133) hx hb dX1_readNeed_107 (by decide) ?_
          refine lv_icmp_ne (tgt := 127) hx hb dX1_readNeed_110 (by decide) (fun c322 => ?_) (fun c322 => ?_)
          · skip
            have f323 : ((V317 6 9)).toInt ≠ 133 := b_neq rfl (by decide) c322
            refine lv_aload_n hx hb dX1_readNeed_127 rfl (lv_at hl 3 rfl) ?_
            refine lv_bipush (v := 59) hx hb dX1_readNeed_128 (by decide) ?_
            have kd324 : gT.1 ((nx (nx (nx gs 1) 1) 1).1 0) = ((V317 6 9)).toInt := RelC.kd rl321
            have hr325 : ∀ k, Rc gT (Crun gs (Imember :: k)) (Crun (nx (nx (nx gs 1) 1) 1) (Itake 59 :: IaddNeed :: Imember :: k)) := fun k => Rc.go1 (hr306 k) (called_n  (fun h9 => f323 (kd324.symm.trans h9)))
            have r326 : Int32.toInt 59 = 59 := by decide
            refine gA_int (gA_runV (As := [.int 59]) (rest := []) (ci := 1) (q0 := 1) hx hb hml hown hg hP hD hK hS hA hnw hgk (x_take2 l D ks H.size ad kk V317 L318 Z 59 (((nx (nx (nx gs 1) 1) 1).1 0)) hMV317 (rl321).1 (rl321).2.1.1 (show 1 ≤ (Int32.toInt 59) from by omega)) w893 w895 w10 w162 w896 rfl xgReader hdV_yX1_take ⟨Nat.le_of_ble_eq_true rfl, Nat.le_of_ble_eq_true rfl⟩ rfl hl.1 rfl (Nat.le_of_ble_eq_true rfl) dX1_readNeed_130 ⟨Nat.le_of_ble_eq_true rfl, Nat.le_of_ble_eq_true rfl⟩) hP hD hK hS hA (fun z327 u328 H locs w329 hP hD hK hS => ?_)
            obtain ⟨V332, L333⟩ := u328
            obtain ⟨hMV332, ajV332, axL333, rgz327, t330, t331⟩ := w329
            have alL333 : agL [6, 44] L L333 := agL.tr alL318 axL333 (by decide)
            have hP : va_P D vwCl (xw ad kk V332 L333 Z) H := hP
            have hD : va_D A (xw ad kk V332 L333 Z) := hD
            have hMV332 : rgd bX V332 := hMV332
            have ajV332 : agr [(1, 3), (6, 8), (6, 9), (6, 10)] [] V317 V332 := ajV332
            have agV332 : agr [(1, 3), (1, 6), (6, 8), (6, 9), (6, 10)] [43, 44, 49, 58, 59, 60] V V332 := agV317.tr ajV332 (by decide) (by decide)
            have rgz327 : 0 ≤ z327.toInt ∧ z327.toInt ≤ 1 := rgz327
            have t330 : Imp (z327.toInt = 0) (1 ≤ (V332 1 3).toInt) := t330
            have t331 : (z327.toInt = 1 ∧ (V317 12 ((nx (nx (nx gs 1) 1) 1).1 0)).toInt = (Int32.toInt 59) ∧ CUR V332 L333 (((nx (nx (nx gs 1) 1) 1).1 0) + 1) ∧ V332 1 3 = V317 1 3) ∨ (z327.toInt = 0 ∧ (V317 12 ((nx (nx (nx gs 1) 1) 1).1 0)).toInt ≠ (Int32.toInt 59) ∧ (V332 1 3).toInt = 1 + 16 * (V317 13 ((nx (nx (nx gs 1) 1) 1).1 0)).toInt) := t331
            rcases t331 with ⟨q334, h335, k336, k337⟩ | ⟨q334, h335, k336⟩
            · skip
              have rl338 : RelC V332 L333 b gT (nx (nx (nx (nx gs 1) 1) 1) 1) := RelC.nx1 rl321 ajV332 (by decide) axL333 (by decide) k336 k337
              have hr339 : ∀ k, Rc gT (Crun gs (Imember :: k)) (Crun (nx (nx (nx (nx gs 1) 1) 1) 1) (IaddNeed :: Imember :: k)) := fun k => Rc.go1 (hr325 k) (tk_y (rl321.tok.1.trans (h335.trans (by decide))))
              refine lv_if_ne (tgt := 138) hx hb dX1_readNeed_133 (by decide) (fun c340 => ?_) (fun c340 => ?_)
              · skip
                have f341 : z327.toInt ≠ 0 := b_neq rfl (by decide) c340
                refine lv_aload_n hx hb dX1_readNeed_138 rfl (lv_at hl 3 rfl) ?_
                refine va_get (D := D) (ci := 1) (v := rfN ad 72 (V332 1 2)) (fs := (xfReader ad V332 L333 Z)) (C := RX1) (T := TX1) (N := 9) hx hb hg inX1 hown hK hP 1 xgReader rfl 2 (by decide) (hg _ w306) (fun _ h9 => h9) rfl dX1_readNeed_139 ?_
                have pq342 : (V332 1 2).toInt = ((V 1 2)).toInt := congrArg Int32.toInt ((ajV332 1 2 rfl).trans ((ajV317 1 2 rfl).trans ((ajV293 1 2 rfl).trans ((ajV283 1 2 rfl).trans (ajV18 1 2 rfl)))))
                refine g_topv (v := .ref (ad (72 + go))) (rfN_r (by first | omega | ((try (have i_t330 := Imp.go t330 (by omega))); omega))) ?_
                refine lv_iload_n hx hb dX1_readNeed_142 rfl (lv_at hl 2 rfl) ?_
                refine lv_iload_n hx hb dX1_readNeed_143 rfl (lv_at hl 1 rfl) ?_
                refine lv_iload_n hx hb dX1_readNeed_144 rfl (lv_at hl 0 rfl) ?_
                have r343 : Int32.toInt 1 = 1 := by decide
                have r344 : Int32.toInt (-1) = (-1) := by decide
                refine gA_void (gA_runV (As := [.int 1, .int (V293 1 6), .int (-1)]) (rest := []) (ci := 3) (q0 := (72 + go)) hx hb hml hown hg hP hD hK hS hA hnw hgk (x_addNeed3 l D ks H.size ad kk V332 L333 Z 1 (V293 1 6) (-1) (go) hMV332 (show go < 48 from by first | omega | ((try (have i_t330 := Imp.go t330 (by omega))); omega))) w1011 w1012 w1013 w169 w1014 rfl (xgComp hgo) hdV_yX3_addNeed ⟨Nat.le_of_ble_eq_true rfl, Nat.le_of_ble_eq_true rfl⟩ rfl hl.1 rfl (Nat.le_of_ble_eq_true rfl) dX1_readNeed_145 ⟨Nat.le_of_ble_eq_true rfl, Nat.le_of_ble_eq_true rfl⟩) hP hD hK hS hA (fun u346 H locs w347 hP hD hK hS => ?_)
                obtain ⟨V349, L350⟩ := u346
                obtain ⟨hMV349, ajV349, axL350, fyV349, t348⟩ := w347
                have axL350 : L333 = L350 := Eq.symm axL350
                subst axL350
                have hP : va_P D vwCl (xw ad kk V349 L333 Z) H := hP
                have hD : va_D A (xw ad kk V349 L333 Z) := hD
                have hMV349 : rgd bX V349 := hMV349
                have ajV349 : agr [] [49, 58, 59, 60] V332 V349 := ajV349
                have agV349 : agr [(1, 3), (1, 6), (6, 8), (6, 9), (6, 10)] [43, 44, 49, 58, 59, 60] V V349 := agV332.tr ajV349 (by decide) (by decide)
                have t348 : Imp ((V332 49 go).toInt < 8) ((V349 49 go).toInt = (V332 49 go).toInt + 1) := t348
                have pq351 : (V332 49 go).toInt = ((V 49 go)).toInt := congrArg Int32.toInt ((ajV332 49 go rfl).trans ((ajV317 49 go rfl).trans ((ajV293 49 go rfl).trans ((ajV283 49 go rfl).trans (ajV18 49 go rfl)))))
                have rl352 : RelC V349 L333 b gT (sN (nx (nx (nx (nx gs 1) 1) 1) 1) 1 ((nx (nx (nx (nx gs 1) 1) 1) 1).1 1 + 1)) := RelC.nd rl338 (show (V332 1 2).toInt = ((go : Nat) : Int) from by omega) ajV349 (by decide) (Imp.go t348 (by omega))
                have hr353 : ∀ k, Rc gT (Crun gs (Imember :: k)) (Crun (sN (nx (nx (nx (nx gs 1) 1) 1) 1) 1 ((nx (nx (nx (nx gs 1) 1) 1) 1).1 1 + 1)) (Imember :: k)) := fun k => Rc.go1 (hr339 k) (m_addNeed)
                refine lv_iconst (v := 1) hx hb dX1_readNeed_148 (by decide) ?_
                have ps354 : gs.1 0 + 1 ≤ (nx gs 1).1 0 := ((keepS.n1 1)).1
                have ps355 : (nx gs 1).1 0 + 1 ≤ (nx (nx gs 1) 1).1 0 := ((keepS.n1 1)).1
                have ps356 : (nx (nx gs 1) 1).1 0 + 1 ≤ (nx (nx (nx gs 1) 1) 1).1 0 := ((keepS.n1 1)).1
                have ps357 : (nx (nx (nx gs 1) 1) 1).1 0 + 1 ≤ (nx (nx (nx (nx gs 1) 1) 1) 1).1 0 := ((keepS.n1 1)).1
                have ps358 : (sN (nx (nx (nx (nx gs 1) 1) 1) 1) 1 ((nx (nx (nx (nx gs 1) 1) 1) 1).1 1 + 1)).1 0 = (nx (nx (nx (nx gs 1) 1) 1) 1).1 0 := rfl
                have rw359 : ROWL b L L333 := (fun k hk => ((axL333 44 k rfl).trans ((axL318 44 k rfl).trans ((axL284 44 k rfl).trans ((axL19 44 k rfl).trans rfl)))))
                exact W.zret (v := 1) hx hb hr rfl (fun t ht hW => ⟨⟨1, (V349, L333), rfl, ⟨hMV349, agV349, alL333, (by decide), (Or.inl ⟨rfl, (sN (nx (nx (nx (nx gs 1) 1) 1) 1) 1 ((nx (nx (nx (nx gs 1) 1) 1) 1).1 1 + 1)), hr353, rl352, (by omega)⟩), rw359⟩, by rw [ht]; exact hP, va_K.moved hW.alike hK, hD⟩, hS.F ht⟩) hS.2.2 dX1_readNeed_149
              · skip
                have f360 : z327.toInt = 0 := b_eq rfl (by decide) c340
                exfalso; first | omega | ((try (have i_t330 := Imp.go t330 (by omega))); omega)
            · skip
              have hb361 : ∀ k, Rc gT (Crun gs (Imember :: k)) (Cbad (V332 1 3).toInt) := fun k => Rc.go1 (hr325 k) ((tk_n (fun h9 => h335 (rl321.tok.1.symm.trans (h9.trans (by decide))))).trans (fl_eq rl321.tok.2.2 k336))
              refine lv_if_ne (tgt := 138) hx hb dX1_readNeed_133 (by decide) (fun c362 => ?_) (fun c362 => ?_)
              · skip
                have f363 : z327.toInt ≠ 0 := b_neq rfl (by decide) c362
                exfalso; first | omega | ((try (have i_t330 := Imp.go t330 (by omega))); omega)
              · skip
                have f364 : z327.toInt = 0 := b_eq rfl (by decide) c362
                refine lv_iconst (v := 0) hx hb dX1_readNeed_136 (by decide) ?_
                have rw365 : ROWL b L L333 := (fun k hk => ((axL333 44 k rfl).trans ((axL318 44 k rfl).trans ((axL284 44 k rfl).trans ((axL19 44 k rfl).trans rfl)))))
                exact W.zret (v := 0) hx hb hr rfl (fun t ht hW => ⟨⟨0, (V332, L333), rfl, ⟨hMV332, agV332, alL333, (by decide), (Or.inr ⟨rfl, hb361⟩), rw365⟩, by rw [ht]; exact hP, va_K.moved hW.alike hK, hD⟩, hS.F ht⟩) hS.2.2 dX1_readNeed_137
          · skip
            have f366 : ((V317 6 9)).toInt = 133 := b_eq rfl (by decide) c322
            refine lv_aload_n hx hb dX1_readNeed_113 rfl (lv_at hl 3 rfl) ?_
            have kd367 : gT.1 ((nx (nx (nx gs 1) 1) 1).1 0) = ((V317 6 9)).toInt := RelC.kd rl321
            have hr368 : ∀ k, Rc gT (Crun gs (Imember :: k)) (Crun (nx (nx (nx (nx gs 1) 1) 1) 1) (Iword :: Itake 59 :: IaddNeed :: Imember :: k)) := fun k => Rc.go1 (hr306 k) (called_y  (kd367.trans f366))
            have pq369 : (V317 1 1).toInt = ((V 1 1)).toInt := congrArg Int32.toInt ((ajV317 1 1 rfl).trans ((ajV293 1 1 rfl).trans ((ajV283 1 1 rfl).trans (ajV18 1 1 rfl))))
            refine gA_int (gA_runV (As := []) (rest := []) (ci := 1) (q0 := 1) hx hb hml hown hg hP hD hK hS hA hnw hgk (x_takeCalled3 l D ks H.size ad kk V317 L318 Z (b) (gT) ((nx (nx (nx gs 1) 1) 1)) hMV317 (show b < 2 from by omega) (show (V317 1 1).toInt = (b : Int) from by omega) rl321 (show (V317 6 9).toInt = 133 from by omega)) w923 w925 w15 w162 w926 rfl xgReader hdV_yX1_takeCalled ⟨Nat.le_of_ble_eq_true rfl, Nat.le_of_ble_eq_true rfl⟩ rfl hl.1 rfl (Nat.le_of_ble_eq_true rfl) dX1_readNeed_114 ⟨Nat.le_of_ble_eq_true rfl, Nat.le_of_ble_eq_true rfl⟩) hP hD hK hS hA (fun z370 u371 H locs w372 hP hD hK hS => ?_)
            obtain ⟨V375, L376⟩ := u371
            obtain ⟨hMV375, ajV375, axL376, rgz370, t373, t374⟩ := w372
            have alL376 : agL [6, 44] L L376 := agL.tr alL318 axL376 (by decide)
            have hP : va_P D vwCl (xw ad kk V375 L376 Z) H := hP
            have hD : va_D A (xw ad kk V375 L376 Z) := hD
            have hMV375 : rgd bX V375 := hMV375
            have ajV375 : agr [(1, 3), (1, 6), (6, 8), (6, 9), (6, 10)] [43, 44] V317 V375 := ajV375
            have agV375 : agr [(1, 3), (1, 6), (6, 8), (6, 9), (6, 10)] [43, 44, 49, 58, 59, 60] V V375 := agV317.tr ajV375 (by decide) (by decide)
            have rgz370 : 0 ≤ z370.toInt ∧ z370.toInt ≤ 1 := rgz370
            have t373 : KcS (mthW gT (nx (nx (nx (nx gs 1) 1) 1) 1) 4) z370.toInt (V375 1 3).toInt (fun x9 => RelC V375 L376 b gT x9.2 ∧ (V375 1 6).toInt = ((x9.1 : Nat) : Int) ∧ x9.1 < 20 ∧ keepS (nx (nx (nx gs 1) 1) 1) 2 x9.2) := t373
            have t374 : ROWL b L318 L376 := t374
            rcases t373 with ⟨q377, mx378, h379, rl380, hf381, hb382, kp383⟩ | ⟨q377, h379⟩
            · skip
              have hr384 : ∀ k, Rc gT (Crun gs (Imember :: k)) (Crun mx378.2 (Itake 59 :: IaddNeed :: Imember :: k)) := fun k => Rc.go1 (hr368 k) (wo_y h379)
              refine lv_if_ne (tgt := 122) hx hb dX1_readNeed_117 (by decide) (fun c385 => ?_) (fun c385 => ?_)
              · skip
                have f386 : z370.toInt ≠ 0 := b_neq rfl (by decide) c385
                refine lv_aload_n hx hb dX1_readNeed_122 rfl (lv_at hl 3 rfl) ?_
                refine va_get (D := D) (ci := 1) (v := .int (V375 1 6)) (fs := (xfReader ad V375 L376 Z)) (C := RX1) (T := TX1) (N := 9) hx hb hg inX1 hown hK hP 1 xgReader rfl 6 (by decide) (hg _ w310) (fun _ h9 => h9) rfl dX1_readNeed_123 ?_
                have r387 : (-1) ≤ ((V375 1 6)).toInt ∧ ((V375 1 6)).toInt ≤ 23 := hMV375 1 6
                refine lv_istore_n (lv' := [(3, .int (V375 1 6)), (2, .int (V293 1 6)), (1, .int 1), (0, .ref (ad 1))]) hx hb dX1_readNeed_126 rfl hl (by decide) rfl (fun ls hl => ?_)
                refine lv_aload_n hx hb dX1_readNeed_127 rfl (lv_at hl 3 rfl) ?_
                refine lv_bipush (v := 59) hx hb dX1_readNeed_128 (by decide) ?_
                have r388 : Int32.toInt 59 = 59 := by decide
                refine gA_int (gA_runV (As := [.int 59]) (rest := []) (ci := 1) (q0 := 1) hx hb hml hown hg hP hD hK hS hA hnw hgk (x_take2 l D ks H.size ad kk V375 L376 Z 59 ((mx378.2.1 0)) hMV375 (rl380).1 (rl380).2.1.1 (show 1 ≤ (Int32.toInt 59) from by omega)) w893 w895 w10 w162 w896 rfl xgReader hdV_yX1_take ⟨Nat.le_of_ble_eq_true rfl, Nat.le_of_ble_eq_true rfl⟩ rfl hl.1 rfl (Nat.le_of_ble_eq_true rfl) dX1_readNeed_130 ⟨Nat.le_of_ble_eq_true rfl, Nat.le_of_ble_eq_true rfl⟩) hP hD hK hS hA (fun z389 u390 H locs w391 hP hD hK hS => ?_)
                obtain ⟨V394, L395⟩ := u390
                obtain ⟨hMV394, ajV394, axL395, rgz389, t392, t393⟩ := w391
                have alL395 : agL [6, 44] L L395 := agL.tr alL376 axL395 (by decide)
                have hP : va_P D vwCl (xw ad kk V394 L395 Z) H := hP
                have hD : va_D A (xw ad kk V394 L395 Z) := hD
                have hMV394 : rgd bX V394 := hMV394
                have ajV394 : agr [(1, 3), (6, 8), (6, 9), (6, 10)] [] V375 V394 := ajV394
                have agV394 : agr [(1, 3), (1, 6), (6, 8), (6, 9), (6, 10)] [43, 44, 49, 58, 59, 60] V V394 := agV375.tr ajV394 (by decide) (by decide)
                have rgz389 : 0 ≤ z389.toInt ∧ z389.toInt ≤ 1 := rgz389
                have t392 : Imp (z389.toInt = 0) (1 ≤ (V394 1 3).toInt) := t392
                have t393 : (z389.toInt = 1 ∧ (V375 12 (mx378.2.1 0)).toInt = (Int32.toInt 59) ∧ CUR V394 L395 ((mx378.2.1 0) + 1) ∧ V394 1 3 = V375 1 3) ∨ (z389.toInt = 0 ∧ (V375 12 (mx378.2.1 0)).toInt ≠ (Int32.toInt 59) ∧ (V394 1 3).toInt = 1 + 16 * (V375 13 (mx378.2.1 0)).toInt) := t393
                rcases t393 with ⟨q396, h397, k398, k399⟩ | ⟨q396, h397, k398⟩
                · skip
                  have rl400 : RelC V394 L395 b gT (nx mx378.2 1) := RelC.nx1 rl380 ajV394 (by decide) axL395 (by decide) k398 k399
                  have hr401 : ∀ k, Rc gT (Crun gs (Imember :: k)) (Crun (nx mx378.2 1) (IaddNeed :: Imember :: k)) := fun k => Rc.go1 (hr384 k) (tk_y (rl380.tok.1.trans (h397.trans (by decide))))
                  refine lv_if_ne (tgt := 138) hx hb dX1_readNeed_133 (by decide) (fun c402 => ?_) (fun c402 => ?_)
                  · skip
                    have f403 : z389.toInt ≠ 0 := b_neq rfl (by decide) c402
                    refine lv_aload_n hx hb dX1_readNeed_138 rfl (lv_at hl 3 rfl) ?_
                    refine va_get (D := D) (ci := 1) (v := rfN ad 72 (V394 1 2)) (fs := (xfReader ad V394 L395 Z)) (C := RX1) (T := TX1) (N := 9) hx hb hg inX1 hown hK hP 1 xgReader rfl 2 (by decide) (hg _ w306) (fun _ h9 => h9) rfl dX1_readNeed_139 ?_
                    have pq404 : (V394 1 2).toInt = ((V 1 2)).toInt := congrArg Int32.toInt ((ajV394 1 2 rfl).trans ((ajV375 1 2 rfl).trans ((ajV317 1 2 rfl).trans ((ajV293 1 2 rfl).trans ((ajV283 1 2 rfl).trans (ajV18 1 2 rfl))))))
                    refine g_topv (v := .ref (ad (72 + go))) (rfN_r (by first | omega | ((try (have i_t392 := Imp.go t392 (by omega))); omega))) ?_
                    refine lv_iload_n hx hb dX1_readNeed_142 rfl (lv_at hl 2 rfl) ?_
                    refine lv_iload_n hx hb dX1_readNeed_143 rfl (lv_at hl 1 rfl) ?_
                    refine lv_iload_n hx hb dX1_readNeed_144 rfl (lv_at hl 0 rfl) ?_
                    have r405 : Int32.toInt 1 = 1 := by decide
                    refine gA_void (gA_runV (As := [.int 1, .int (V293 1 6), .int (V375 1 6)]) (rest := []) (ci := 3) (q0 := (72 + go)) hx hb hml hown hg hP hD hK hS hA hnw hgk (x_addNeed3 l D ks H.size ad kk V394 L395 Z 1 (V293 1 6) (V375 1 6) (go) hMV394 (show go < 48 from by first | omega | ((try (have i_t392 := Imp.go t392 (by omega))); omega))) w1011 w1012 w1013 w169 w1014 rfl (xgComp hgo) hdV_yX3_addNeed ⟨Nat.le_of_ble_eq_true rfl, Nat.le_of_ble_eq_true rfl⟩ rfl hl.1 rfl (Nat.le_of_ble_eq_true rfl) dX1_readNeed_145 ⟨Nat.le_of_ble_eq_true rfl, Nat.le_of_ble_eq_true rfl⟩) hP hD hK hS hA (fun u407 H locs w408 hP hD hK hS => ?_)
                    obtain ⟨V410, L411⟩ := u407
                    obtain ⟨hMV410, ajV410, axL411, fyV410, t409⟩ := w408
                    have axL411 : L395 = L411 := Eq.symm axL411
                    subst axL411
                    have hP : va_P D vwCl (xw ad kk V410 L395 Z) H := hP
                    have hD : va_D A (xw ad kk V410 L395 Z) := hD
                    have hMV410 : rgd bX V410 := hMV410
                    have ajV410 : agr [] [49, 58, 59, 60] V394 V410 := ajV410
                    have agV410 : agr [(1, 3), (1, 6), (6, 8), (6, 9), (6, 10)] [43, 44, 49, 58, 59, 60] V V410 := agV394.tr ajV410 (by decide) (by decide)
                    have t409 : Imp ((V394 49 go).toInt < 8) ((V410 49 go).toInt = (V394 49 go).toInt + 1) := t409
                    have pq412 : (V394 49 go).toInt = ((V 49 go)).toInt := congrArg Int32.toInt ((ajV394 49 go rfl).trans ((ajV375 49 go rfl).trans ((ajV317 49 go rfl).trans ((ajV293 49 go rfl).trans ((ajV283 49 go rfl).trans (ajV18 49 go rfl))))))
                    have rl413 : RelC V410 L395 b gT (sN (nx mx378.2 1) 1 ((nx mx378.2 1).1 1 + 1)) := RelC.nd rl400 (show (V394 1 2).toInt = ((go : Nat) : Int) from by omega) ajV410 (by decide) (Imp.go t409 (by omega))
                    have hr414 : ∀ k, Rc gT (Crun gs (Imember :: k)) (Crun (sN (nx mx378.2 1) 1 ((nx mx378.2 1).1 1 + 1)) (Imember :: k)) := fun k => Rc.go1 (hr401 k) (m_addNeed)
                    refine lv_iconst (v := 1) hx hb dX1_readNeed_148 (by decide) ?_
                    have ps415 : gs.1 0 + 1 ≤ (nx gs 1).1 0 := ((keepS.n1 1)).1
                    have ps416 : (nx gs 1).1 0 + 1 ≤ (nx (nx gs 1) 1).1 0 := ((keepS.n1 1)).1
                    have ps417 : (nx (nx gs 1) 1).1 0 + 1 ≤ (nx (nx (nx gs 1) 1) 1).1 0 := ((keepS.n1 1)).1
                    have ps418 : (nx (nx (nx gs 1) 1) 1).1 0 + 2 ≤ mx378.2.1 0 := (kp383).1
                    have ps419 : mx378.2.1 0 + 1 ≤ (nx mx378.2 1).1 0 := ((keepS.n1 1)).1
                    have ps420 : (sN (nx mx378.2 1) 1 ((nx mx378.2 1).1 1 + 1)).1 0 = (nx mx378.2 1).1 0 := rfl
                    have rw421 : ROWL b L L395 := (fun k hk => ((axL395 44 k rfl).trans ((t374 k hk).trans ((axL318 44 k rfl).trans ((axL284 44 k rfl).trans ((axL19 44 k rfl).trans rfl))))))
                    exact W.zret (v := 1) hx hb hr rfl (fun t ht hW => ⟨⟨1, (V410, L395), rfl, ⟨hMV410, agV410, alL395, (by decide), (Or.inl ⟨rfl, (sN (nx mx378.2 1) 1 ((nx mx378.2 1).1 1 + 1)), hr414, rl413, (by omega)⟩), rw421⟩, by rw [ht]; exact hP, va_K.moved hW.alike hK, hD⟩, hS.F ht⟩) hS.2.2 dX1_readNeed_149
                  · skip
                    have f422 : z389.toInt = 0 := b_eq rfl (by decide) c402
                    exfalso; first | omega | ((try (have i_t392 := Imp.go t392 (by omega))); omega)
                · skip
                  have hb423 : ∀ k, Rc gT (Crun gs (Imember :: k)) (Cbad (V394 1 3).toInt) := fun k => Rc.go1 (hr384 k) ((tk_n (fun h9 => h397 (rl380.tok.1.symm.trans (h9.trans (by decide))))).trans (fl_eq rl380.tok.2.2 k398))
                  refine lv_if_ne (tgt := 138) hx hb dX1_readNeed_133 (by decide) (fun c424 => ?_) (fun c424 => ?_)
                  · skip
                    have f425 : z389.toInt ≠ 0 := b_neq rfl (by decide) c424
                    exfalso; first | omega | ((try (have i_t392 := Imp.go t392 (by omega))); omega)
                  · skip
                    have f426 : z389.toInt = 0 := b_eq rfl (by decide) c424
                    refine lv_iconst (v := 0) hx hb dX1_readNeed_136 (by decide) ?_
                    have rw427 : ROWL b L L395 := (fun k hk => ((axL395 44 k rfl).trans ((t374 k hk).trans ((axL318 44 k rfl).trans ((axL284 44 k rfl).trans ((axL19 44 k rfl).trans rfl))))))
                    exact W.zret (v := 0) hx hb hr rfl (fun t ht hW => ⟨⟨0, (V394, L395), rfl, ⟨hMV394, agV394, alL395, (by decide), (Or.inr ⟨rfl, hb423⟩), rw427⟩, by rw [ht]; exact hP, va_K.moved hW.alike hK, hD⟩, hS.F ht⟩) hS.2.2 dX1_readNeed_137
              · skip
                have f428 : z370.toInt = 0 := b_eq rfl (by decide) c385
                exfalso; omega
            · skip
              have hb429 : ∀ k, Rc gT (Crun gs (Imember :: k)) (Cbad (V375 1 3).toInt) := fun k => Rc.go1 (hr368 k) (wo_b h379)
              refine lv_if_ne (tgt := 122) hx hb dX1_readNeed_117 (by decide) (fun c430 => ?_) (fun c430 => ?_)
              · skip
                have f431 : z370.toInt ≠ 0 := b_neq rfl (by decide) c430
                exfalso; omega
              · skip
                have f432 : z370.toInt = 0 := b_eq rfl (by decide) c430
                refine lv_iconst (v := 0) hx hb dX1_readNeed_120 (by decide) ?_
                have rw433 : ROWL b L L376 := (fun k hk => ((t374 k hk).trans ((axL318 44 k rfl).trans ((axL284 44 k rfl).trans ((axL19 44 k rfl).trans rfl)))))
                exact W.zret (v := 0) hx hb hr rfl (fun t ht hW => ⟨⟨0, (V375, L376), rfl, ⟨hMV375, agV375, alL376, (by decide), (Or.inr ⟨rfl, hb429⟩), rw433⟩, by rw [ht]; exact hP, va_K.moved hW.alike hK, hD⟩, hS.F ht⟩) hS.2.2 dX1_readNeed_121
        · skip
          have f434 : z289.toInt = 0 := b_eq rfl (by decide) c303
          exfalso; omega
      · skip
        have hb435 : ∀ k, Rc gT (Crun gs (Imember :: k)) (Cbad (V293 1 3).toInt) := fun k => Rc.go1 (hr275 k) (nd_b h297)
        refine lv_if_ne (tgt := 81) hx hb dX1_readNeed_76 (by decide) (fun c436 => ?_) (fun c436 => ?_)
        · skip
          have f437 : z289.toInt ≠ 0 := b_neq rfl (by decide) c436
          exfalso; omega
        · skip
          have f438 : z289.toInt = 0 := b_eq rfl (by decide) c436
          refine lv_iconst (v := 0) hx hb dX1_readNeed_79 (by decide) ?_
          have rw439 : ROWL b L L284 := (fun k hk => ((axL284 44 k rfl).trans ((axL19 44 k rfl).trans rfl)))
          exact W.zret (v := 0) hx hb hr rfl (fun t ht hW => ⟨⟨0, (V293, L284), rfl, ⟨hMV293, agV293, alL284, (by decide), (Or.inr ⟨rfl, hb435⟩), rw439⟩, by rw [ht]; exact hP, va_K.moved hW.alike hK, hD⟩, hS.F ht⟩) hS.2.2 dX1_readNeed_80
  · skip
    have f440 : 8 ≤ ((V 49 go)).toInt := b_nlt rfl (by decide) c4
    refine lv_aload_n hx hb dX1_readNeed_12 rfl (lv_at hl 0 rfl) ?_
    refine lv_iconst (v := 5) hx hb dX1_readNeed_13 (by decide) ?_
    have kd441 : gT.1 (gs.1 0) = ((V 6 9)).toInt := RelC.kd rel
    have r442 : Int32.toInt 5 = 5 := by decide
    refine gA_int (gA_runV (As := [.int 5]) (rest := []) (ci := 1) (q0 := 1) hx hb hml hown hg hP hD hK hS hA hnw hgk (x_wrong2 l D ks H.size ad kk V L Z 5 hMV (by decide)) w867 w869 w6 w162 w870 rfl xgReader hdV_yX1_wrong ⟨Nat.le_of_ble_eq_true rfl, Nat.le_of_ble_eq_true rfl⟩ rfl hl.1 rfl (Nat.le_of_ble_eq_true rfl) dX1_readNeed_14 ⟨Nat.le_of_ble_eq_true rfl, Nat.le_of_ble_eq_true rfl⟩) hP hD hK hS hA (fun z443 u444 H locs w445 hP hD hK hS => ?_)
    obtain ⟨V448, L449⟩ := u444
    obtain ⟨hMV448, ajV448, axL449, rgz443, t446, t447⟩ := w445
    have axL449 : L = L449 := Eq.symm axL449
    subst axL449
    have hP : va_P D vwCl (xw ad kk V448 L Z) H := hP
    have hD : va_D A (xw ad kk V448 L Z) := hD
    have hMV448 : rgd bX V448 := hMV448
    have ajV448 : agr [(1, 3)] [] V V448 := ajV448
    have agV448 : agr [(1, 3), (1, 6), (6, 8), (6, 9), (6, 10)] [43, 44, 49, 58, 59, 60] V V448 := agV.tr ajV448 (by decide) (by decide)
    have rgz443 : 0 ≤ z443.toInt ∧ z443.toInt ≤ 0 := rgz443
    have t446 : 1 ≤ (V448 1 3).toInt := t446
    have t447 : (V448 1 3).toInt = (Int32.toInt 5) + 16 * (V 6 10).toInt := t447
    have r450 : 0 ≤ ((V 6 10)).toInt ∧ ((V 6 10)).toInt ≤ 4000 := hMV 6 10
    have hr451 : ∀ k, Rc gT (Crun gs (Imember :: k)) (Crun gs (Imember :: k)) := fun k => Rc.rf
    have hb452 : ∀ k, Rc gT (Crun gs (Imember :: k)) (Cbad (V448 1 3).toInt) := fun k => Rc.go1 (hr451 k) ((mb_137f (kd441.trans kd9) (by have h9 := ow0.1; omega)).trans (fl_eq (RelC.st rel) (show (V448 1 3).toInt = 5 + 16 * (V 6 10).toInt from by omega)))
    have rw453 : ROWL b L L := (fun k hk => rfl)
    exact W.zret (v := z443) hx hb hr (nb_ok (by omega)) (fun t ht hW => ⟨⟨z443, (V448, L), rfl, ⟨hMV448, agV448, alL, (show 0 ≤ z443.toInt ∧ z443.toInt ≤ 1 from by omega), (Or.inr ⟨(by omega), hb452⟩), rw453⟩, by rw [ht]; exact hP, va_K.moved hW.alike hK, hD⟩, hS.F ht⟩) hS.2.2 dX1_readNeed_17
abbrev r_x_readMethod3 : Room := { frames := 91, cells := 0, slots := 0, locals := 2683 }
abbrev q_x_readMethod3 (D : va_G) (ks : KS) (ad : Nat → Nat) (kk : Nat → ClassId) (V : Vf) (L : Lf) (Z : XZ) (b : Nat) (gT : Tk) (gs : St) (go : Nat) (A : Nat → Prop) : Array Value → State → Outcome → State → Prop := va_Qi (fun (r : Int32) (u : Vf × Lf) => rgd bX u.1 ∧ agr [(1, 3), (1, 4), (1, 6), (1, 8), (6, 8), (6, 9), (6, 10)] [42, 43, 44, 48, 61] V u.1 ∧ agL [6, 44] L u.2 ∧ (0 ≤ r.toInt ∧ r.toInt ≤ 1) ∧ (Rd gT gs (fun k => Imember :: k) (fun k => Imember :: k) r.toInt (u.1 1 3).toInt (fun s9 => RelC u.1 u.2 b gT s9 ∧ gs.1 0 + 1 ≤ s9.1 0)) ∧ (ROWL b L u.2)) (fun u t => gq D A (xw ad kk u.1 u.2 Z) (xty kk Z) t) A
set_option maxHeartbeats 4000000 in
set_option maxRecDepth 100000 in
theorem x_readMethod3 (l : Launch) (D : va_G) (ks : KS) (sz : Nat) (ad : Nat → Nat) (kk : Nat → ClassId) (V : Vf) (L : Lf) (Z : XZ) (b : Nat) (gT : Tk) (gs : St) (go : Nat) (hMV : rgd bX V) (hb2 : b < 2) (rbk : (V 1 1).toInt = (b : Int)) (own : (V 1 2).toInt = (go : Int)) (hgo : go < 48) (hgl : 24 * b ≤ go) (hgh : go < 24 * b + 24) (rel : RelC V L b gT gs) (kd9 : (V 6 9).toInt = 142)  : Met l yX1_readMethod (Cond.code yX1_readMethod cX1_readMethod 2 (some .boolean) :: GW) r_x_readMethod3 (va_Pc [.ref (ad 1)] (gp D ks (xw ad kk V L Z) (xty kk Z) sz)) (q_x_readMethod3 D ks ad kk V L Z  b gT gs go (va_A (xw ad kk V L Z) sz)) 0 0 (va_A (xw ad kk V L Z) sz) := by
  refine g_met (q_x_readMethod3 D ks ad kk V L Z  b gT gs go) (by decide) (Nat.le_of_ble_eq_true rfl) ?_
  intro p e s m below meth c A ls H locs hx hb hr hml hown hg hlocks hin hnw hgk hP hK hD hS hA hl
  have hown : s.vm.findClass RX1 = some m.cls := hown
  have hl : lv_has ls 2 [(0, .ref (ad 1))] := hl
  have hP : va_P D vwCl (xw ad kk V L Z) H := hP
  have hD : va_D A (xw ad kk V L Z) := hD
  have hK : va_K D vwCl (xty kk Z) s := hK
  have agV : agr [(1, 3), (1, 4), (1, 6), (1, 8), (6, 8), (6, 9), (6, 10)] [42, 43, 44, 48, 61] V V := agr.rf
  have alL : agL [6, 44] L L := agL.rf
  have r1 : (-1) ≤ ((V 1 1)).toInt ∧ ((V 1 1)).toInt ≤ 1 := hMV 1 1
  have r2 : (-1) ≤ ((V 1 2)).toInt ∧ ((V 1 2)).toInt ≤ 47 := hMV 1 2
  refine lv_aload_n hx hb dX1_readMethod_0 rfl (lv_at hl 0 rfl) ?_
  refine va_get (D := D) (ci := 1) (v := rfN ad 38 (V 1 1)) (fs := (xfReader ad V L Z)) (C := RX1) (T := TX1) (N := 9) hx hb hg inX1 hown hK hP 1 xgReader rfl 1 (by decide) (hg _ w305) (fun _ h9 => h9) rfl dX1_readMethod_1 ?_
  refine g_topv (v := .ref (ad (38 + b))) (rfN_r (by omega)) ?_
  refine va_getN (D := D) (ci := 0) (v := .int (V 42 b)) (fs := (xfBook ad V b)) (C := RX0) (T := TX0) (N := 13) hx hb hg inX0 hown hK hP (38 + b) (xgBook hb2) rfl 12 (by decide) (hnw.use 630 n630 rfl) (fun _ h9 => h9) rfl dX1_readMethod_4 ?_
  have r3 : 0 ≤ ((V 42 b)).toInt ∧ ((V 42 b)).toInt ≤ 8200 := hMV 42 b
  refine lv_istore_n (lv' := [(1, .int (V 42 b)), (0, .ref (ad 1))]) hx hb dX1_readMethod_7 rfl hl (by decide) rfl (fun ls hl => ?_)
  refine lv_aload_n hx hb dX1_readMethod_8 rfl (lv_at hl 1 rfl) ?_
  refine va_get (D := D) (ci := 1) (v := .ref (ad 6)) (fs := (xfReader ad V L Z)) (C := RX1) (T := TX1) (N := 9) hx hb hg inX1 hown hK hP 1 xgReader rfl 0 (by decide) (hg _ w304) (fun _ h9 => h9) rfl dX1_readMethod_9 ?_
  have hr4 : ∀ k, Rc gT (Crun gs (Imember :: k)) (Crun gs (Imember :: k)) := fun k => Rc.rf
  have kd5 : gT.1 (gs.1 0) = ((V 6 9)).toInt := RelC.kd rel
  have hr6 : ∀ k, Rc gT (Crun gs (Imember :: k)) (Crun (nx gs 1) (ImethN :: Iexpr 0 :: Itake 59 :: Imember :: k)) := fun k => Rc.go1 (hr4 k) (mb_142 (kd5.trans kd9))
  have l87 := RelC.l8 rel
  have r8 : 0 ≤ ((V 6 8)).toInt ∧ ((V 6 8)).toInt ≤ 4000 := hMV 6 8
  have r9 : 0 ≤ ((V 6 7)).toInt ∧ ((V 6 7)).toInt ≤ 4000 := hMV 6 7
  have lk10 := RelC.lk rel (show (V 6 9).toInt ≠ 0 from by omega)
  refine gA_void (gA_runV (As := []) (rest := []) (ci := 9) (q0 := 6) hx hb hml hown hg hP hD hK hS hA hnw hgk (x_next2 l D ks H.size ad kk V L Z  hMV (show (V 6 8).toInt ≤ (V 6 7).toInt from by omega)) w871 w852 w853 w157 w854 rfl xgTape hdV_yX9_next ⟨Nat.le_of_ble_eq_true rfl, Nat.le_of_ble_eq_true rfl⟩ rfl hl.1 rfl (Nat.le_of_ble_eq_true rfl) dX1_readMethod_12 ⟨Nat.le_of_ble_eq_true rfl, Nat.le_of_ble_eq_true rfl⟩) hP hD hK hS hA (fun u12 H locs w13 hP hD hK hS => ?_)
  obtain ⟨V16, L17⟩ := u12
  obtain ⟨hMV16, ajV16, axL17, t14, t15⟩ := w13
  have alL17 : agL [6, 44] L L17 := agL.tr alL axL17 (by decide)
  have hP : va_P D vwCl (xw ad kk V16 L17 Z) H := hP
  have hD : va_D A (xw ad kk V16 L17 Z) := hD
  have hMV16 : rgd bX V16 := hMV16
  have ajV16 : agr [(6, 8), (6, 9), (6, 10)] [] V V16 := ajV16
  have agV16 : agr [(1, 3), (1, 4), (1, 6), (1, 8), (6, 8), (6, 9), (6, 10)] [42, 43, 44, 48, 61] V V16 := agV.tr ajV16 (by decide) (by decide)
  have t14 : (V16 6 8).toInt ≤ (V16 6 7).toInt := t14
  have t15 : CUR V16 L17 (Int32.toNatClampNeg (V 6 8)) := t15
  have r18 : 0 ≤ ((V16 6 8)).toInt ∧ ((V16 6 8)).toInt ≤ 4000 := hMV16 6 8
  have pq19 : (V16 6 7).toInt = ((V 6 7)).toInt := congrArg Int32.toInt (ajV16 6 7 rfl)
  have rl20 : RelC V16 L17 b gT (nx gs 1) := RelC.nx1 rel ajV16 (by decide) axL17 (by decide) (by rw [← lk10]; exact t15) (ajV16 1 3 rfl)
  refine lv_aload_n hx hb dX1_readMethod_15 rfl (lv_at hl 1 rfl) ?_
  refine lv_aload_n hx hb dX1_readMethod_16 rfl (lv_at hl 1 rfl) ?_
  refine va_get (D := D) (ci := 1) (v := rfN ad 72 (V16 1 2)) (fs := (xfReader ad V16 L17 Z)) (C := RX1) (T := TX1) (N := 9) hx hb hg inX1 hown hK hP 1 xgReader rfl 2 (by decide) (hg _ w306) (fun _ h9 => h9) rfl dX1_readMethod_17 ?_
  have pq21 : (V16 1 2).toInt = ((V 1 2)).toInt := congrArg Int32.toInt (ajV16 1 2 rfl)
  refine g_topv (v := .ref (ad (72 + go))) (rfN_r (by omega)) ?_
  have pq22 : (V16 1 1).toInt = ((V 1 1)).toInt := congrArg Int32.toInt (ajV16 1 1 rfl)
  refine gA_int (gA_runV (As := [.ref (ad (72 + go))]) (rest := []) (ci := 1) (q0 := 1) hx hb hml hown hg hP hD hK hS hA hnw hgk (x_takeMethodO3 l D ks H.size ad kk V16 L17 Z (b) (gT) ((nx gs 1)) (go) hMV16 (show b < 2 from by omega) (show (V16 1 1).toInt = (b : Int) from by omega) (show (V16 1 2).toInt = (go : Int) from by omega) (show go < 48 from by omega) (show 24 * b ≤ go from by omega) (show go < 24 * b + 24 from by omega) rl20) w939 w941 w19 w162 w942 rfl xgReader hdV_yX1_takeMethod ⟨Nat.le_of_ble_eq_true rfl, Nat.le_of_ble_eq_true rfl⟩ rfl hl.1 rfl (Nat.le_of_ble_eq_true rfl) dX1_readMethod_20 ⟨Nat.le_of_ble_eq_true rfl, Nat.le_of_ble_eq_true rfl⟩) hP hD hK hS hA (fun z23 u24 H locs w25 hP hD hK hS => ?_)
  obtain ⟨V28, L29⟩ := u24
  obtain ⟨hMV28, ajV28, axL29, rgz23, t26, t27⟩ := w25
  have alL29 : agL [6, 44] L L29 := agL.tr alL17 axL29 (by decide)
  have hP : va_P D vwCl (xw ad kk V28 L29 Z) H := hP
  have hD : va_D A (xw ad kk V28 L29 Z) := hD
  have hMV28 : rgd bX V28 := hMV28
  have ajV28 : agr [(1, 3), (1, 6), (6, 8), (6, 9), (6, 10)] [43, 44] V16 V28 := ajV28
  have agV28 : agr [(1, 3), (1, 4), (1, 6), (1, 8), (6, 8), (6, 9), (6, 10)] [42, 43, 44, 48, 61] V V28 := agV16.tr ajV28 (by decide) (by decide)
  have rgz23 : 0 ≤ z23.toInt ∧ z23.toInt ≤ 1 := rgz23
  have t26 : KcS (mthN gT (nx gs 1)) z23.toInt (V28 1 3).toInt (fun x9 => RelC V28 L29 b gT x9.2 ∧ (V28 1 6).toInt = ((x9.1 : Nat) : Int) ∧ x9.1 < 20 ∧ keepS (nx gs 1) 1 x9.2) := t26
  have t27 : ROWL b L17 L29 := t27
  rcases t26 with ⟨q30, mx31, h32, rl33, hf34, hb35, kp36⟩ | ⟨q30, h32⟩
  · skip
    have hr37 : ∀ k, Rc gT (Crun gs (Imember :: k)) (Crun (sT mx31.2 (mx31.1 :: (nx gs 1).2.2.2)) (Iexpr 0 :: Itake 59 :: Imember :: k)) := fun k => Rc.go1 (hr6 k) (mn_y h32)
    refine lv_if_ne (tgt := 28) hx hb dX1_readMethod_23 (by decide) (fun c38 => ?_) (fun c38 => ?_)
    · skip
      have f39 : z23.toInt ≠ 0 := b_neq rfl (by decide) c38
      refine lv_aload_n hx hb dX1_readMethod_28 rfl (lv_at hl 1 rfl) ?_
      refine va_get (D := D) (ci := 1) (v := rfN ad 72 (V28 1 2)) (fs := (xfReader ad V28 L29 Z)) (C := RX1) (T := TX1) (N := 9) hx hb hg inX1 hown hK hP 1 xgReader rfl 2 (by decide) (hg _ w306) (fun _ h9 => h9) rfl dX1_readMethod_29 ?_
      have pq40 : (V28 1 2).toInt = ((V 1 2)).toInt := congrArg Int32.toInt ((ajV28 1 2 rfl).trans (ajV16 1 2 rfl))
      refine g_topv (v := .ref (ad (72 + go))) (rfN_r (by omega)) ?_
      refine va_getN (D := D) (ci := 3) (v := .ref (ad (264 + go))) (fs := (xfComp ad V28 go)) (C := RX3) (T := TX3) (N := 13) hx hb hg inX3 hown hK hP (72 + go) (xgComp hgo) rfl 3 (by decide) (hnw.use 508 n508 rfl) (fun _ h9 => h9) rfl dX1_readMethod_32 ?_
      refine lv_aload_n hx hb dX1_readMethod_35 rfl (lv_at hl 1 rfl) ?_
      refine va_get (D := D) (ci := 1) (v := .int (V28 1 6)) (fs := (xfReader ad V28 L29 Z)) (C := RX1) (T := TX1) (N := 9) hx hb hg inX1 hown hK hP 1 xgReader rfl 6 (by decide) (hg _ w310) (fun _ h9 => h9) rfl dX1_readMethod_36 ?_
      have r41 : (-1) ≤ ((V28 1 6)).toInt ∧ ((V28 1 6)).toInt ≤ 23 := hMV28 1 6
      refine lv_iload_n hx hb dX1_readMethod_39 rfl (lv_at hl 0 rfl) ?_
      refine va_iast (D := D) (i := (V28 1 6)) (x := (V 42 b)) hx hb hK hP hD hS (264 + go) (257 + go) (xgmethodStarts hgo) (xtmethodStarts hgo) (i_in (a := ((V28 1 6)).toInt) rfl (by omega)) dX1_readMethod_40 (fun H locs hP hD hS => ?_)
      have kc42 := i_clamp (x := (V28 1 6)) rfl (by omega)
      have kl43 : (Int32.toNatClampNeg (V28 1 6)) < 20 := by omega
      obtain ⟨V44, hV44⟩ : ∃ z, z = up2 V28 61 (20 * go + (Int32.toNatClampNeg (V28 1 6))) (V 42 b) := ⟨_, rfl⟩
      have ew45 : (xw ad kk V28 L29 Z).set (264 + go) ((ad (264 + go)), .inl ((kk (264 + go)), 20, .inl (upd (fun q => if q < 20 then V28 61 (20 * go + q) else 0) (Int32.toNatClampNeg (V28 1 6)) (V 42 b)))) = xw ad kk V44 L29 Z := by rw [hV44]; exact xpmethodStarts hgo kl43
      have hP : va_P D vwCl (xw ad kk V44 L29 Z) H := by rw [← ew45]; exact hP
      have hD : va_D A (xw ad kk V44 L29 Z) := by rw [← ew45]; exact hD
      have hMV44 : rgd bX V44 := hMV28.put hV44 (show (-1) ≤ ((V 42 b)).toInt ∧ ((V 42 b)).toInt ≤ 8200 from by omega)
      have agV44 : agr [(1, 3), (1, 4), (1, 6), (1, 8), (6, 8), (6, 9), (6, 10)] [42, 43, 44, 48, 61] V V44 := agV28.up hV44 rfl
      have kc47 : (20 * go + (Int32.toNatClampNeg (V28 1 6))) = 20 * go + mx31.1 := by omega
      have h61 := hV44
      rw [kc47] at h61
      have rl46 : RelC V44 L29 b gT (sT mx31.2 (mx31.1 :: (nx gs 1).2.2.2)) := RelC.mt rl33 (show (V28 1 2).toInt = ((go : Nat) : Int) from by omega) h61 (show ((V 42 b)).toInt ≠ -1 from by omega) (congrArg (fun q9 => q9.2) (kp36).2.2.2).symm
      refine lv_aload_n hx hb dX1_readMethod_41 rfl (lv_at hl 1 rfl) ?_
      refine lv_iconst (v := 0) hx hb dX1_readMethod_42 (by decide) ?_
      have pq49 : (V44 1 2).toInt = ((V 1 2)).toInt := congrArg Int32.toInt ((up2_o hV44 (by decide)).trans ((ajV28 1 2 rfl).trans (ajV16 1 2 rfl)))
      have w448 := (RelC.ow rl46 (show (V44 1 2).toInt = ((go : Nat) : Int) from by omega)).2.2.2.1
      have r50 : Int32.toInt 0 = 0 := by decide
      have pq51 : (V44 1 1).toInt = ((V 1 1)).toInt := congrArg Int32.toInt ((up2_o hV44 (by decide)).trans ((ajV28 1 1 rfl).trans (ajV16 1 1 rfl)))
      refine gA_int (gA_runV (As := [.int 0]) (rest := []) (ci := 1) (q0 := 1) hx hb hml hown hg hP hD hK hS hA hnw hgk (x_readE3 l D ks H.size ad kk V44 L29 Z 0 (b) (gT) ((sT mx31.2 (mx31.1 :: (nx gs 1).2.2.2))) hMV44 (by decide) (show b < 2 from by omega) (show (V44 1 1).toInt = (b : Int) from by omega) rl46 (show (Int32.toInt 0) = (((sT mx31.2 (mx31.1 :: (nx gs 1).2.2.2)).1 4 : Nat) : Int) from by omega) (fun _ => (show 0 ≤ (V44 1 2).toInt from by omega))) w947 w949 w20 w162 w950 rfl xgReader hdV_yX1_readE ⟨Nat.le_of_ble_eq_true rfl, Nat.le_of_ble_eq_true rfl⟩ rfl hl.1 rfl (Nat.le_of_ble_eq_true rfl) dX1_readMethod_43 ⟨Nat.le_of_ble_eq_true rfl, Nat.le_of_ble_eq_true rfl⟩) hP hD hK hS hA (fun z52 u53 H locs w54 hP hD hK hS => ?_)
      obtain ⟨V57, L58⟩ := u53
      obtain ⟨hMV57, ajV57, axL58, rgz52, t55, t56⟩ := w54
      have alL58 : agL [6, 44] L L58 := agL.tr alL29 axL58 (by decide)
      have hP : va_P D vwCl (xw ad kk V57 L58 Z) H := hP
      have hD : va_D A (xw ad kk V57 L58 Z) := hD
      have hMV57 : rgd bX V57 := hMV57
      have ajV57 : agr [(1, 3), (1, 4), (1, 6), (1, 8), (6, 8), (6, 9), (6, 10)] [42, 43, 44, 48] V44 V57 := ajV57
      have agV57 : agr [(1, 3), (1, 4), (1, 6), (1, 8), (6, 8), (6, 9), (6, 10)] [42, 43, 44, 48, 61] V V57 := agV44.tr ajV57 (by decide) (by decide)
      have rgz52 : 0 ≤ z52.toInt ∧ z52.toInt ≤ 1 := rgz52
      have t55 : Rd gT (sT mx31.2 (mx31.1 :: (nx gs 1).2.2.2)) (fun k => Iexpr 0 :: Itake 59 :: k) (fun k => k) z52.toInt (V57 1 3).toInt (fun s9 => RelC V57 L58 b gT s9 ∧ keepS (sT mx31.2 (mx31.1 :: (nx gs 1).2.2.2)) 2 s9) := t55
      have t56 : ROWL b L29 L58 := t56
      rcases t55 with ⟨q59, sx60, h61, rl62, kp63⟩ | ⟨q59, h61⟩
      · skip
        have hr64 : ∀ k, Rc gT (Crun gs (Imember :: k)) (Crun sx60 (Imember :: k)) := fun k => (hr37 k).tr (h61 (Imember :: k))
        have ps65 : gs.1 0 + 1 ≤ (nx gs 1).1 0 := ((keepS.n1 1)).1
        have ps66 : (nx gs 1).1 0 + 1 ≤ mx31.2.1 0 := (kp36).1
        have ps67 : (sT mx31.2 (mx31.1 :: (nx gs 1).2.2.2)).1 0 = mx31.2.1 0 := rfl
        have ps68 : (sT mx31.2 (mx31.1 :: (nx gs 1).2.2.2)).1 0 + 2 ≤ sx60.1 0 := (kp63).1
        have rw69 : ROWL b L L58 := (fun k hk => ((t56 k hk).trans ((t27 k hk).trans ((axL17 44 k rfl).trans rfl))))
        exact W.zret (v := z52) hx hb hr (nb_ok (by omega)) (fun t ht hW => ⟨⟨z52, (V57, L58), rfl, ⟨hMV57, agV57, alL58, (show 0 ≤ z52.toInt ∧ z52.toInt ≤ 1 from by omega), (Or.inl ⟨(by omega), sx60, hr64, rl62, (by omega)⟩), rw69⟩, by rw [ht]; exact hP, va_K.moved hW.alike hK, hD⟩, hS.F ht⟩) hS.2.2 dX1_readMethod_46
      · skip
        have hb70 : ∀ k, Rc gT (Crun gs (Imember :: k)) (Cbad (V57 1 3).toInt) := fun k => (hr37 k).tr (h61 (Imember :: k))
        have rw71 : ROWL b L L58 := (fun k hk => ((t56 k hk).trans ((t27 k hk).trans ((axL17 44 k rfl).trans rfl))))
        exact W.zret (v := z52) hx hb hr (nb_ok (by omega)) (fun t ht hW => ⟨⟨z52, (V57, L58), rfl, ⟨hMV57, agV57, alL58, (show 0 ≤ z52.toInt ∧ z52.toInt ≤ 1 from by omega), (Or.inr ⟨(by omega), hb70⟩), rw71⟩, by rw [ht]; exact hP, va_K.moved hW.alike hK, hD⟩, hS.F ht⟩) hS.2.2 dX1_readMethod_46
    · skip
      have f72 : z23.toInt = 0 := b_eq rfl (by decide) c38
      exfalso; omega
  · skip
    have hb73 : ∀ k, Rc gT (Crun gs (Imember :: k)) (Cbad (V28 1 3).toInt) := fun k => Rc.go1 (hr6 k) (mn_b h32)
    refine lv_if_ne (tgt := 28) hx hb dX1_readMethod_23 (by decide) (fun c74 => ?_) (fun c74 => ?_)
    · skip
      have f75 : z23.toInt ≠ 0 := b_neq rfl (by decide) c74
      exfalso; omega
    · skip
      have f76 : z23.toInt = 0 := b_eq rfl (by decide) c74
      refine lv_iconst (v := 0) hx hb dX1_readMethod_26 (by decide) ?_
      have rw77 : ROWL b L L29 := (fun k hk => ((t27 k hk).trans ((axL17 44 k rfl).trans rfl)))
      exact W.zret (v := 0) hx hb hr rfl (fun t ht hW => ⟨⟨0, (V28, L29), rfl, ⟨hMV28, agV28, alL29, (by decide), (Or.inr ⟨rfl, hb73⟩), rw77⟩, by rw [ht]; exact hP, va_K.moved hW.alike hK, hD⟩, hS.F ht⟩) hS.2.2 dX1_readMethod_27
abbrev r_x_readMember3 : Room := { frames := 92, cells := 0, slots := 0, locals := 2704 }
abbrev q_x_readMember3 (D : va_G) (ks : KS) (ad : Nat → Nat) (kk : Nat → ClassId) (V : Vf) (L : Lf) (Z : XZ) (b : Nat) (gT : Tk) (gs : St) (go : Nat) (A : Nat → Prop) : Array Value → State → Outcome → State → Prop := va_Qi (fun (r : Int32) (u : Vf × Lf) => rgd bX u.1 ∧ agr [(1, 2), (1, 3), (1, 4), (1, 6), (1, 8), (6, 8), (6, 9), (6, 10)] [42, 43, 44, 48, 49, 56, 57, 58, 59, 60, 61] V u.1 ∧ agL [6, 44] L u.2 ∧ (0 ≤ r.toInt ∧ r.toInt ≤ 1) ∧ ((u.1 1 2).toInt = (V 1 2).toInt ∨ (u.1 1 2).toInt = -1) ∧ (Rd gT gs (fun k => Imember :: k) (fun k => nxI (u.1 1 2) k) r.toInt (u.1 1 3).toInt (fun s9 => RelC u.1 u.2 b gT s9 ∧ gs.1 0 + 1 ≤ s9.1 0)) ∧ (ROWL b L u.2)) (fun u t => gq D A (xw ad kk u.1 u.2 Z) (xty kk Z) t) A
set_option maxHeartbeats 4000000 in
set_option maxRecDepth 100000 in
theorem x_readMember3 (l : Launch) (D : va_G) (ks : KS) (sz : Nat) (ad : Nat → Nat) (kk : Nat → ClassId) (V : Vf) (L : Lf) (Z : XZ) (b : Nat) (gT : Tk) (gs : St) (go : Nat) (hMV : rgd bX V) (hb2 : b < 2) (rbk : (V 1 1).toInt = (b : Int)) (own : (V 1 2).toInt = (go : Int)) (hgo : go < 48) (hgl : 24 * b ≤ go) (hgh : go < 24 * b + 24) (rel : RelC V L b gT gs)  : Met l yX1_readMember (Cond.code yX1_readMember cX1_readMember 2 (some .boolean) :: GW) r_x_readMember3 (va_Pc [.ref (ad 1)] (gp D ks (xw ad kk V L Z) (xty kk Z) sz)) (q_x_readMember3 D ks ad kk V L Z  b gT gs go (va_A (xw ad kk V L Z) sz)) 0 0 (va_A (xw ad kk V L Z) sz) := by
  refine g_met (q_x_readMember3 D ks ad kk V L Z  b gT gs go) (by decide) (Nat.le_of_ble_eq_true rfl) ?_
  intro p e s m below meth c A ls H locs hx hb hr hml hown hg hlocks hin hnw hgk hP hK hD hS hA hl
  have hown : s.vm.findClass RX1 = some m.cls := hown
  have hl : lv_has ls 2 [(0, .ref (ad 1))] := hl
  have hP : va_P D vwCl (xw ad kk V L Z) H := hP
  have hD : va_D A (xw ad kk V L Z) := hD
  have hK : va_K D vwCl (xty kk Z) s := hK
  have agV : agr [(1, 2), (1, 3), (1, 4), (1, 6), (1, 8), (6, 8), (6, 9), (6, 10)] [42, 43, 44, 48, 49, 56, 57, 58, 59, 60, 61] V V := agr.rf
  have alL : agL [6, 44] L L := agL.rf
  have r1 : (-1) ≤ ((V 1 1)).toInt ∧ ((V 1 1)).toInt ≤ 1 := hMV 1 1
  have r2 : (-1) ≤ ((V 1 2)).toInt ∧ ((V 1 2)).toInt ≤ 47 := hMV 1 2
  have ow0 := RelC.ow rel own
  refine lv_aload_n hx hb dX1_readMember_0 rfl (lv_at hl 0 rfl) ?_
  refine va_get (D := D) (ci := 1) (v := rfN ad 38 (V 1 1)) (fs := (xfReader ad V L Z)) (C := RX1) (T := TX1) (N := 9) hx hb hg inX1 hown hK hP 1 xgReader rfl 1 (by decide) (hg _ w305) (fun _ h9 => h9) rfl dX1_readMember_1 ?_
  refine g_topv (v := .ref (ad (38 + b))) (rfN_r (by omega)) ?_
  refine va_getN (D := D) (ci := 0) (v := .int (V 42 b)) (fs := (xfBook ad V b)) (C := RX0) (T := TX0) (N := 13) hx hb hg inX0 hown hK hP (38 + b) (xgBook hb2) rfl 12 (by decide) (hnw.use 630 n630 rfl) (fun _ h9 => h9) rfl dX1_readMember_4 ?_
  have r3 : 0 ≤ ((V 42 b)).toInt ∧ ((V 42 b)).toInt ≤ 8200 := hMV 42 b
  refine lv_istore_n (lv' := [(1, .int (V 42 b)), (0, .ref (ad 1))]) hx hb dX1_readMember_7 rfl hl (by decide) rfl (fun ls hl => ?_)
  refine lv_aload_n hx hb dX1_readMember_8 rfl (lv_at hl 1 rfl) ?_
  refine va_get (D := D) (ci := 1) (v := .ref (ad 6)) (fs := (xfReader ad V L Z)) (C := RX1) (T := TX1) (N := 9) hx hb hg inX1 hown hK hP 1 xgReader rfl 0 (by decide) (hg _ w304) (fun _ h9 => h9) rfl dX1_readMember_9 ?_
  refine va_getN (D := D) (ci := 9) (v := .int (V 6 9)) (fs := (xfTape ad V L Z)) (C := RX9) (T := TX9) (N := 12) hx hb hg inX9 hown hK hP 6 xgTape rfl 9 (by decide) (hnw.use 262 n262 rfl) (fun _ h9 => h9) rfl dX1_readMember_12 ?_
  by_cases q4 : (V 6 9) = 125
  · refine g_top (v := 125) q4 ?_
    have fq4 : ((V 6 9)).toInt = 125 := b_eq rfl (by decide) q4
    refine lv_lookup (x := 125) (off := 49) (tgt := 64) hx hb dX1_readMember_15 (by decide) (by decide) (by decide) ?_
    refine lv_aload_n hx hb dX1_readMember_64 rfl (lv_at hl 1 rfl) ?_
    refine lv_null hx hb dX1_readMember_65 ?_
    refine va_put (D := D) (ci := 1) (v := .null) (ty := tyX1 2) (fs := (xfReader ad V L Z)) (C := RX1) (T := TX1) (N := 9) hx hb hg inX1 tyX1 tyX1_ok nmX1 hown hK hP hD hS 1 xgReader rfl 2 (by decide) (hg _ w306) (fun _ h9 => h9) rfl (tyX1_ok 2 (by decide)) rfl rfl (Nat.le_of_ble_eq_true rfl) dX1_readMember_66 (fun H locs hP hD hS => ?_)
    obtain ⟨V5, hV5⟩ : ∃ z, z = up2 V 1 2 (-1) := ⟨_, rfl⟩
    have ew6 : (xw ad kk V L Z).set 1 ((ad 1), .inr (1, (xfReader ad V L Z).set 2 (.null))) = xw ad kk V5 L Z := by rw [hV5]; exact xr_owner_n
    have hP : va_P D vwCl (xw ad kk V5 L Z) H := by rw [← ew6]; exact hP
    have hD : va_D A (xw ad kk V5 L Z) := by rw [← ew6]; exact hD
    have hMV5 : rgd bX V5 := hMV.put hV5 (by decide)
    have agV5 : agr [(1, 2), (1, 3), (1, 4), (1, 6), (1, 8), (6, 8), (6, 9), (6, 10)] [42, 43, 44, 48, 49, 56, 57, 58, 59, 60, 61] V V5 := agV.up hV5 rfl
    have rl7 : RelC V5 L b gT gs := RelC.on rel hV5 (by decide)
    refine lv_aload_n hx hb dX1_readMember_69 rfl (lv_at hl 1 rfl) ?_
    refine va_get (D := D) (ci := 1) (v := .ref (ad 6)) (fs := (xfReader ad V5 L Z)) (C := RX1) (T := TX1) (N := 9) hx hb hg inX1 hown hK hP 1 xgReader rfl 0 (by decide) (hg _ w304) (fun _ h9 => h9) rfl dX1_readMember_70 ?_
    have hr8 : ∀ k, Rc gT (Crun gs (Imember :: k)) (Crun gs (Imember :: k)) := fun k => Rc.rf
    have kd9 : gT.1 (gs.1 0) = ((V 6 9)).toInt := (RelC.kd rl7).trans (congrArg Int32.toInt (up2_o hV5 (by decide)))
    have hr10 : ∀ k, Rc gT (Crun gs (Imember :: k)) (Crun (nx gs 1) (Istmt :: k)) := fun k => Rc.go1 (hr8 k) (mb_125 (kd9.trans fq4))
    have l811 := RelC.l8 rl7
    have pq12 : (V5 6 8).toInt = ((V 6 8)).toInt := congrArg Int32.toInt (up2_o hV5 (by decide))
    have r13 : 0 ≤ ((V 6 8)).toInt ∧ ((V 6 8)).toInt ≤ 4000 := hMV 6 8
    have pq14 : (V5 6 7).toInt = ((V 6 7)).toInt := congrArg Int32.toInt (up2_o hV5 (by decide))
    have r15 : 0 ≤ ((V 6 7)).toInt ∧ ((V 6 7)).toInt ≤ 4000 := hMV 6 7
    have pq16 : (V5 6 9).toInt = ((V 6 9)).toInt := congrArg Int32.toInt (up2_o hV5 (by decide))
    have lk17 := RelC.lk rl7 (show (V5 6 9).toInt ≠ 0 from by omega)
    refine gA_void (gA_runV (As := []) (rest := []) (ci := 9) (q0 := 6) hx hb hml hown hg hP hD hK hS hA hnw hgk (x_next2 l D ks H.size ad kk V5 L Z  hMV5 (show (V5 6 8).toInt ≤ (V5 6 7).toInt from by omega)) w871 w852 w853 w157 w854 rfl xgTape hdV_yX9_next ⟨Nat.le_of_ble_eq_true rfl, Nat.le_of_ble_eq_true rfl⟩ rfl hl.1 rfl (Nat.le_of_ble_eq_true rfl) dX1_readMember_73 ⟨Nat.le_of_ble_eq_true rfl, Nat.le_of_ble_eq_true rfl⟩) hP hD hK hS hA (fun u19 H locs w20 hP hD hK hS => ?_)
    obtain ⟨V23, L24⟩ := u19
    obtain ⟨hMV23, ajV23, axL24, t21, t22⟩ := w20
    have alL24 : agL [6, 44] L L24 := agL.tr alL axL24 (by decide)
    have hP : va_P D vwCl (xw ad kk V23 L24 Z) H := hP
    have hD : va_D A (xw ad kk V23 L24 Z) := hD
    have hMV23 : rgd bX V23 := hMV23
    have ajV23 : agr [(6, 8), (6, 9), (6, 10)] [] V5 V23 := ajV23
    have agV23 : agr [(1, 2), (1, 3), (1, 4), (1, 6), (1, 8), (6, 8), (6, 9), (6, 10)] [42, 43, 44, 48, 49, 56, 57, 58, 59, 60, 61] V V23 := agV5.tr ajV23 (by decide) (by decide)
    have t21 : (V23 6 8).toInt ≤ (V23 6 7).toInt := t21
    have t22 : CUR V23 L24 (Int32.toNatClampNeg (V5 6 8)) := t22
    have r25 : 0 ≤ ((V23 6 8)).toInt ∧ ((V23 6 8)).toInt ≤ 4000 := hMV23 6 8
    have pq26 : (V23 6 7).toInt = ((V 6 7)).toInt := congrArg Int32.toInt ((ajV23 6 7 rfl).trans (up2_o hV5 (by decide)))
    have rl27 : RelC V23 L24 b gT (nx gs 1) := RelC.nx1 rl7 ajV23 (by decide) axL24 (by decide) (by rw [← lk17]; exact t22) (ajV23 1 3 rfl)
    refine lv_iconst (v := 1) hx hb dX1_readMember_76 (by decide) ?_
    have pq28 : (V23 1 2).toInt = (-1) := (congrArg Int32.toInt ((ajV23 1 2 rfl).trans (up2_s hV5))).trans (by decide)
    have ps29 : gs.1 0 + 1 ≤ (nx gs 1).1 0 := ((keepS.n1 1)).1
    have rw30 : ROWL b L L24 := (fun k hk => ((axL24 44 k rfl).trans rfl))
    exact W.zret (v := 1) hx hb hr rfl (fun t ht hW => ⟨⟨1, (V23, L24), rfl, ⟨hMV23, agV23, alL24, (by decide), (show (V23 1 2).toInt = (V 1 2).toInt ∨ (V23 1 2).toInt = -1 from by omega), (Or.inl ⟨rfl, (nx gs 1), (fun k => show Rc gT (Crun gs (Imember :: k)) (Crun (nx gs 1) (nxI (V23 1 2) k)) from by rw [nxI_s (show (V23 1 2).toInt < 0 from by omega)]; exact hr10 k), rl27, (by omega)⟩), rw30⟩, by rw [ht]; exact hP, va_K.moved hW.alike hK, hD⟩, hS.F ht⟩) hS.2.2 dX1_readMember_77
  have gq4 : ((V 6 9)).toInt ≠ 125 := b_neq rfl (by decide) q4
  by_cases q31 : (V 6 9) = 137
  · refine g_top (v := 137) q31 ?_
    have fq31 : ((V 6 9)).toInt = 137 := b_eq rfl (by decide) q31
    refine lv_lookup (x := 137) (off := 63) (tgt := 78) hx hb dX1_readMember_15 (by decide) (by decide) (by decide) ?_
    refine lv_aload_n hx hb dX1_readMember_78 rfl (lv_at hl 1 rfl) ?_
    have hr32 : ∀ k, Rc gT (Crun gs (Imember :: k)) (Crun gs (Imember :: k)) := fun k => Rc.rf
    refine gA_int (gA_runV (As := []) (rest := []) (ci := 1) (q0 := 1) hx hb hml hown hg hP hD hK hS hA hnw hgk (x_readNeed3 l D ks H.size ad kk V L Z (b) (gT) (gs) (go) hMV (show b < 2 from by omega) (show (V 1 1).toInt = (b : Int) from by omega) (show (V 1 2).toInt = (go : Int) from by omega) (show go < 48 from by omega) (show 24 * b ≤ go from by omega) (show go < 24 * b + 24 from by omega) rel (show (V 6 9).toInt = 137 from by omega)) w1007 w1009 w32 w162 w1010 rfl xgReader hdV_yX1_readNeed ⟨Nat.le_of_ble_eq_true rfl, Nat.le_of_ble_eq_true rfl⟩ rfl hl.1 rfl (Nat.le_of_ble_eq_true rfl) dX1_readMember_79 ⟨Nat.le_of_ble_eq_true rfl, Nat.le_of_ble_eq_true rfl⟩) hP hD hK hS hA (fun z33 u34 H locs w35 hP hD hK hS => ?_)
    obtain ⟨V38, L39⟩ := u34
    obtain ⟨hMV38, ajV38, axL39, rgz33, t36, t37⟩ := w35
    have alL39 : agL [6, 44] L L39 := agL.tr alL axL39 (by decide)
    have hP : va_P D vwCl (xw ad kk V38 L39 Z) H := hP
    have hD : va_D A (xw ad kk V38 L39 Z) := hD
    have hMV38 : rgd bX V38 := hMV38
    have ajV38 : agr [(1, 3), (1, 6), (6, 8), (6, 9), (6, 10)] [43, 44, 49, 58, 59, 60] V V38 := ajV38
    have agV38 : agr [(1, 2), (1, 3), (1, 4), (1, 6), (1, 8), (6, 8), (6, 9), (6, 10)] [42, 43, 44, 48, 49, 56, 57, 58, 59, 60, 61] V V38 := agV.tr ajV38 (by decide) (by decide)
    have rgz33 : 0 ≤ z33.toInt ∧ z33.toInt ≤ 1 := rgz33
    have t36 : Rd gT gs (fun k => Imember :: k) (fun k => Imember :: k) z33.toInt (V38 1 3).toInt (fun s9 => RelC V38 L39 b gT s9 ∧ gs.1 0 + 1 ≤ s9.1 0) := t36
    have t37 : ROWL b L L39 := t37
    rcases t36 with ⟨q40, sx41, h42, rl43, kp44⟩ | ⟨q40, h42⟩
    · skip
      have hr45 : ∀ k, Rc gT (Crun gs (Imember :: k)) (Crun sx41 (Imember :: k)) := fun k => (hr32 k).tr (h42 k)
      have pq46 : (V38 1 2).toInt = ((V 1 2)).toInt := congrArg Int32.toInt (ajV38 1 2 rfl)
      have ps47 : gs.1 0 + 1 ≤ sx41.1 0 := kp44
      have rw48 : ROWL b L L39 := (fun k hk => ((t37 k hk).trans rfl))
      exact W.zret (v := z33) hx hb hr (nb_ok (by omega)) (fun t ht hW => ⟨⟨z33, (V38, L39), rfl, ⟨hMV38, agV38, alL39, (show 0 ≤ z33.toInt ∧ z33.toInt ≤ 1 from by omega), (show (V38 1 2).toInt = (V 1 2).toInt ∨ (V38 1 2).toInt = -1 from by omega), (Or.inl ⟨(by omega), sx41, (fun k => show Rc gT (Crun gs (Imember :: k)) (Crun sx41 (nxI (V38 1 2) k)) from by rw [nxI_m (show 0 ≤ (V38 1 2).toInt from by omega)]; exact hr45 k), rl43, (by omega)⟩), rw48⟩, by rw [ht]; exact hP, va_K.moved hW.alike hK, hD⟩, hS.F ht⟩) hS.2.2 dX1_readMember_82
    · skip
      have hb49 : ∀ k, Rc gT (Crun gs (Imember :: k)) (Cbad (V38 1 3).toInt) := fun k => (hr32 k).tr (h42 k)
      have pq50 : (V38 1 2).toInt = ((V 1 2)).toInt := congrArg Int32.toInt (ajV38 1 2 rfl)
      have rw51 : ROWL b L L39 := (fun k hk => ((t37 k hk).trans rfl))
      exact W.zret (v := z33) hx hb hr (nb_ok (by omega)) (fun t ht hW => ⟨⟨z33, (V38, L39), rfl, ⟨hMV38, agV38, alL39, (show 0 ≤ z33.toInt ∧ z33.toInt ≤ 1 from by omega), (show (V38 1 2).toInt = (V 1 2).toInt ∨ (V38 1 2).toInt = -1 from by omega), (Or.inr ⟨(by omega), hb49⟩), rw51⟩, by rw [ht]; exact hP, va_K.moved hW.alike hK, hD⟩, hS.F ht⟩) hS.2.2 dX1_readMember_82
  have gq31 : ((V 6 9)).toInt ≠ 137 := b_neq rfl (by decide) q31
  by_cases q52 : (V 6 9) = 140
  · refine g_top (v := 140) q52 ?_
    have fq52 : ((V 6 9)).toInt = 140 := b_eq rfl (by decide) q52
    refine lv_lookup (x := 140) (off := 68) (tgt := 83) hx hb dX1_readMember_15 (by decide) (by decide) (by decide) ?_
    refine lv_aload_n hx hb dX1_readMember_83 rfl (lv_at hl 1 rfl) ?_
    refine va_get (D := D) (ci := 1) (v := rfN ad 72 (V 1 2)) (fs := (xfReader ad V L Z)) (C := RX1) (T := TX1) (N := 9) hx hb hg inX1 hown hK hP 1 xgReader rfl 2 (by decide) (hg _ w306) (fun _ h9 => h9) rfl dX1_readMember_84 ?_
    refine g_topv (v := .ref (ad (72 + go))) (rfN_r (by omega)) ?_
    refine va_getN (D := D) (ci := 3) (v := .int (V 56 go)) (fs := (xfComp ad V go)) (C := RX3) (T := TX3) (N := 13) hx hb hg inX3 hown hK hP (72 + go) (xgComp hgo) rfl 11 (by decide) (hnw.use 538 n538 rfl) (fun _ h9 => h9) rfl dX1_readMember_87 ?_
    have r53 : (-1) ≤ ((V 56 go)).toInt ∧ ((V 56 go)).toInt ≤ 8200 := hMV 56 go
    refine lv_iconst (v := (-1)) hx hb dX1_readMember_90 (by decide) ?_
    refine lv_icmp_eq (tgt := 100) hx hb dX1_readMember_91 (by decide) (fun c54 => ?_) (fun c54 => ?_)
    · skip
      have f55 : ((V 56 go)).toInt = (-1) := b_eq rfl (by decide) c54
      have hr56 : ∀ k, Rc gT (Crun gs (Imember :: k)) (Crun gs (Imember :: k)) := fun k => Rc.rf
      have kd57 : gT.1 (gs.1 0) = ((V 6 9)).toInt := RelC.kd rel
      have hr58 : ∀ k, Rc gT (Crun gs (Imember :: k)) (Crun (nx (sN gs 2 1) 1) (Iexpr 0 :: Itake 59 :: Imember :: k)) := fun k => Rc.go1 (hr56 k) (mb_140 (kd57.trans fq52) (ow0.2.1.mp (by omega)))
      refine lv_aload_n hx hb dX1_readMember_100 rfl (lv_at hl 1 rfl) ?_
      refine va_get (D := D) (ci := 1) (v := rfN ad 72 (V 1 2)) (fs := (xfReader ad V L Z)) (C := RX1) (T := TX1) (N := 9) hx hb hg inX1 hown hK hP 1 xgReader rfl 2 (by decide) (hg _ w306) (fun _ h9 => h9) rfl dX1_readMember_101 ?_
      refine g_topv (v := .ref (ad (72 + go))) (rfN_r (by omega)) ?_
      refine lv_iload_n hx hb dX1_readMember_104 rfl (lv_at hl 0 rfl) ?_
      refine va_putN (D := D) (ci := 3) (v := .int (V 42 b)) (ty := tyX3 11) (fs := (xfComp ad V go)) (C := RX3) (T := TX3) (N := 13) hx hb hg inX3 tyX3 tyX3_ok nmX3 hown hK hP hD hS (72 + go) (xgComp hgo) rfl 11 (by decide) (hnw.use 538 n538 rfl) (fun _ h9 => h9) rfl (tyX3_ok 11 (by decide)) rfl rfl (Nat.le_of_ble_eq_true rfl) dX1_readMember_105 (fun H locs hP hD hS => ?_)
      obtain ⟨V59, hV59⟩ : ∃ z, z = up2 V 56 go (V 42 b) := ⟨_, rfl⟩
      have ew60 : (xw ad kk V L Z).set (72 + go) ((ad (72 + go)), .inr (3, (xfComp ad V go).set 11 (.int (V 42 b)))) = xw ad kk V59 L Z := by rw [hV59]; exact xpComp_openedStart hgo
      have hP : va_P D vwCl (xw ad kk V59 L Z) H := by rw [← ew60]; exact hP
      have hD : va_D A (xw ad kk V59 L Z) := by rw [← ew60]; exact hD
      have hMV59 : rgd bX V59 := hMV.put hV59 (show (-1) ≤ ((V 42 b)).toInt ∧ ((V 42 b)).toInt ≤ 8200 from by omega)
      have agV59 : agr [(1, 2), (1, 3), (1, 4), (1, 6), (1, 8), (6, 8), (6, 9), (6, 10)] [42, 43, 44, 48, 49, 56, 57, 58, 59, 60, 61] V V59 := agV.up hV59 rfl
      have rl61 : RelC V59 L b gT (sN gs 2 1) := RelC.op rel (show (V 1 2).toInt = ((go : Nat) : Int) from by omega) hV59 (show ((V 42 b)).toInt ≠ -1 from by omega)
      refine lv_aload_n hx hb dX1_readMember_108 rfl (lv_at hl 1 rfl) ?_
      refine va_get (D := D) (ci := 1) (v := .ref (ad 6)) (fs := (xfReader ad V59 L Z)) (C := RX1) (T := TX1) (N := 9) hx hb hg inX1 hown hK hP 1 xgReader rfl 0 (by decide) (hg _ w304) (fun _ h9 => h9) rfl dX1_readMember_109 ?_
      have l862 := RelC.l8 rl61
      have pq63 : (V59 6 8).toInt = ((V 6 8)).toInt := congrArg Int32.toInt (up2_o hV59 (by decide))
      have r64 : 0 ≤ ((V 6 8)).toInt ∧ ((V 6 8)).toInt ≤ 4000 := hMV 6 8
      have pq65 : (V59 6 7).toInt = ((V 6 7)).toInt := congrArg Int32.toInt (up2_o hV59 (by decide))
      have r66 : 0 ≤ ((V 6 7)).toInt ∧ ((V 6 7)).toInt ≤ 4000 := hMV 6 7
      have pq67 : (V59 6 9).toInt = ((V 6 9)).toInt := congrArg Int32.toInt (up2_o hV59 (by decide))
      have lk68 := RelC.lk rl61 (show (V59 6 9).toInt ≠ 0 from by omega)
      refine gA_void (gA_runV (As := []) (rest := []) (ci := 9) (q0 := 6) hx hb hml hown hg hP hD hK hS hA hnw hgk (x_next2 l D ks H.size ad kk V59 L Z  hMV59 (show (V59 6 8).toInt ≤ (V59 6 7).toInt from by omega)) w871 w852 w853 w157 w854 rfl xgTape hdV_yX9_next ⟨Nat.le_of_ble_eq_true rfl, Nat.le_of_ble_eq_true rfl⟩ rfl hl.1 rfl (Nat.le_of_ble_eq_true rfl) dX1_readMember_112 ⟨Nat.le_of_ble_eq_true rfl, Nat.le_of_ble_eq_true rfl⟩) hP hD hK hS hA (fun u70 H locs w71 hP hD hK hS => ?_)
      obtain ⟨V74, L75⟩ := u70
      obtain ⟨hMV74, ajV74, axL75, t72, t73⟩ := w71
      have alL75 : agL [6, 44] L L75 := agL.tr alL axL75 (by decide)
      have hP : va_P D vwCl (xw ad kk V74 L75 Z) H := hP
      have hD : va_D A (xw ad kk V74 L75 Z) := hD
      have hMV74 : rgd bX V74 := hMV74
      have ajV74 : agr [(6, 8), (6, 9), (6, 10)] [] V59 V74 := ajV74
      have agV74 : agr [(1, 2), (1, 3), (1, 4), (1, 6), (1, 8), (6, 8), (6, 9), (6, 10)] [42, 43, 44, 48, 49, 56, 57, 58, 59, 60, 61] V V74 := agV59.tr ajV74 (by decide) (by decide)
      have t72 : (V74 6 8).toInt ≤ (V74 6 7).toInt := t72
      have t73 : CUR V74 L75 (Int32.toNatClampNeg (V59 6 8)) := t73
      have r76 : 0 ≤ ((V74 6 8)).toInt ∧ ((V74 6 8)).toInt ≤ 4000 := hMV74 6 8
      have pq77 : (V74 6 7).toInt = ((V 6 7)).toInt := congrArg Int32.toInt ((ajV74 6 7 rfl).trans (up2_o hV59 (by decide)))
      have rl78 : RelC V74 L75 b gT (nx (sN gs 2 1) 1) := RelC.nx1 rl61 ajV74 (by decide) axL75 (by decide) (by rw [← lk68]; exact t73) (ajV74 1 3 rfl)
      refine lv_aload_n hx hb dX1_readMember_115 rfl (lv_at hl 1 rfl) ?_
      refine lv_iconst (v := 0) hx hb dX1_readMember_116 (by decide) ?_
      have pq80 : (V74 1 2).toInt = ((V 1 2)).toInt := congrArg Int32.toInt ((ajV74 1 2 rfl).trans (up2_o hV59 (by decide)))
      have w479 := (RelC.ow rl78 (show (V74 1 2).toInt = ((go : Nat) : Int) from by omega)).2.2.2.1
      have r81 : Int32.toInt 0 = 0 := by decide
      have pq82 : (V74 1 1).toInt = ((V 1 1)).toInt := congrArg Int32.toInt ((ajV74 1 1 rfl).trans (up2_o hV59 (by decide)))
      refine gA_int (gA_runV (As := [.int 0]) (rest := []) (ci := 1) (q0 := 1) hx hb hml hown hg hP hD hK hS hA hnw hgk (x_readE3 l D ks H.size ad kk V74 L75 Z 0 (b) (gT) ((nx (sN gs 2 1) 1)) hMV74 (by decide) (show b < 2 from by omega) (show (V74 1 1).toInt = (b : Int) from by omega) rl78 (show (Int32.toInt 0) = (((nx (sN gs 2 1) 1).1 4 : Nat) : Int) from by omega) (fun _ => (show 0 ≤ (V74 1 2).toInt from by omega))) w947 w949 w20 w162 w950 rfl xgReader hdV_yX1_readE ⟨Nat.le_of_ble_eq_true rfl, Nat.le_of_ble_eq_true rfl⟩ rfl hl.1 rfl (Nat.le_of_ble_eq_true rfl) dX1_readMember_117 ⟨Nat.le_of_ble_eq_true rfl, Nat.le_of_ble_eq_true rfl⟩) hP hD hK hS hA (fun z83 u84 H locs w85 hP hD hK hS => ?_)
      obtain ⟨V88, L89⟩ := u84
      obtain ⟨hMV88, ajV88, axL89, rgz83, t86, t87⟩ := w85
      have alL89 : agL [6, 44] L L89 := agL.tr alL75 axL89 (by decide)
      have hP : va_P D vwCl (xw ad kk V88 L89 Z) H := hP
      have hD : va_D A (xw ad kk V88 L89 Z) := hD
      have hMV88 : rgd bX V88 := hMV88
      have ajV88 : agr [(1, 3), (1, 4), (1, 6), (1, 8), (6, 8), (6, 9), (6, 10)] [42, 43, 44, 48] V74 V88 := ajV88
      have agV88 : agr [(1, 2), (1, 3), (1, 4), (1, 6), (1, 8), (6, 8), (6, 9), (6, 10)] [42, 43, 44, 48, 49, 56, 57, 58, 59, 60, 61] V V88 := agV74.tr ajV88 (by decide) (by decide)
      have rgz83 : 0 ≤ z83.toInt ∧ z83.toInt ≤ 1 := rgz83
      have t86 : Rd gT (nx (sN gs 2 1) 1) (fun k => Iexpr 0 :: Itake 59 :: k) (fun k => k) z83.toInt (V88 1 3).toInt (fun s9 => RelC V88 L89 b gT s9 ∧ keepS (nx (sN gs 2 1) 1) 2 s9) := t86
      have t87 : ROWL b L75 L89 := t87
      rcases t86 with ⟨q90, sx91, h92, rl93, kp94⟩ | ⟨q90, h92⟩
      · skip
        have hr95 : ∀ k, Rc gT (Crun gs (Imember :: k)) (Crun sx91 (Imember :: k)) := fun k => (hr58 k).tr (h92 (Imember :: k))
        have pq96 : (V88 1 2).toInt = ((V 1 2)).toInt := congrArg Int32.toInt ((ajV88 1 2 rfl).trans ((ajV74 1 2 rfl).trans (up2_o hV59 (by decide))))
        have ps97 : (sN gs 2 1).1 0 = gs.1 0 := rfl
        have ps98 : (sN gs 2 1).1 0 + 1 ≤ (nx (sN gs 2 1) 1).1 0 := ((keepS.n1 1)).1
        have ps99 : (nx (sN gs 2 1) 1).1 0 + 2 ≤ sx91.1 0 := (kp94).1
        have rw100 : ROWL b L L89 := (fun k hk => ((t87 k hk).trans ((axL75 44 k rfl).trans rfl)))
        exact W.zret (v := z83) hx hb hr (nb_ok (by omega)) (fun t ht hW => ⟨⟨z83, (V88, L89), rfl, ⟨hMV88, agV88, alL89, (show 0 ≤ z83.toInt ∧ z83.toInt ≤ 1 from by omega), (show (V88 1 2).toInt = (V 1 2).toInt ∨ (V88 1 2).toInt = -1 from by omega), (Or.inl ⟨(by omega), sx91, (fun k => show Rc gT (Crun gs (Imember :: k)) (Crun sx91 (nxI (V88 1 2) k)) from by rw [nxI_m (show 0 ≤ (V88 1 2).toInt from by omega)]; exact hr95 k), rl93, (by omega)⟩), rw100⟩, by rw [ht]; exact hP, va_K.moved hW.alike hK, hD⟩, hS.F ht⟩) hS.2.2 dX1_readMember_120
      · skip
        have hb101 : ∀ k, Rc gT (Crun gs (Imember :: k)) (Cbad (V88 1 3).toInt) := fun k => (hr58 k).tr (h92 (Imember :: k))
        have pq102 : (V88 1 2).toInt = ((V 1 2)).toInt := congrArg Int32.toInt ((ajV88 1 2 rfl).trans ((ajV74 1 2 rfl).trans (up2_o hV59 (by decide))))
        have rw103 : ROWL b L L89 := (fun k hk => ((t87 k hk).trans ((axL75 44 k rfl).trans rfl)))
        exact W.zret (v := z83) hx hb hr (nb_ok (by omega)) (fun t ht hW => ⟨⟨z83, (V88, L89), rfl, ⟨hMV88, agV88, alL89, (show 0 ≤ z83.toInt ∧ z83.toInt ≤ 1 from by omega), (show (V88 1 2).toInt = (V 1 2).toInt ∨ (V88 1 2).toInt = -1 from by omega), (Or.inr ⟨(by omega), hb101⟩), rw103⟩, by rw [ht]; exact hP, va_K.moved hW.alike hK, hD⟩, hS.F ht⟩) hS.2.2 dX1_readMember_120
    · skip
      have f104 : ((V 56 go)).toInt ≠ (-1) := b_neq rfl (by decide) c54
      refine lv_aload_n hx hb dX1_readMember_94 rfl (lv_at hl 1 rfl) ?_
      refine lv_iconst (v := 1) hx hb dX1_readMember_95 (by decide) ?_
      have kd105 : gT.1 (gs.1 0) = ((V 6 9)).toInt := RelC.kd rel
      have r106 : Int32.toInt 1 = 1 := by decide
      refine gA_int (gA_runV (As := [.int 1]) (rest := []) (ci := 1) (q0 := 1) hx hb hml hown hg hP hD hK hS hA hnw hgk (x_wrong2 l D ks H.size ad kk V L Z 1 hMV (by decide)) w867 w869 w6 w162 w870 rfl xgReader hdV_yX1_wrong ⟨Nat.le_of_ble_eq_true rfl, Nat.le_of_ble_eq_true rfl⟩ rfl hl.1 rfl (Nat.le_of_ble_eq_true rfl) dX1_readMember_96 ⟨Nat.le_of_ble_eq_true rfl, Nat.le_of_ble_eq_true rfl⟩) hP hD hK hS hA (fun z107 u108 H locs w109 hP hD hK hS => ?_)
      obtain ⟨V112, L113⟩ := u108
      obtain ⟨hMV112, ajV112, axL113, rgz107, t110, t111⟩ := w109
      have axL113 : L = L113 := Eq.symm axL113
      subst axL113
      have hP : va_P D vwCl (xw ad kk V112 L Z) H := hP
      have hD : va_D A (xw ad kk V112 L Z) := hD
      have hMV112 : rgd bX V112 := hMV112
      have ajV112 : agr [(1, 3)] [] V V112 := ajV112
      have agV112 : agr [(1, 2), (1, 3), (1, 4), (1, 6), (1, 8), (6, 8), (6, 9), (6, 10)] [42, 43, 44, 48, 49, 56, 57, 58, 59, 60, 61] V V112 := agV.tr ajV112 (by decide) (by decide)
      have rgz107 : 0 ≤ z107.toInt ∧ z107.toInt ≤ 0 := rgz107
      have t110 : 1 ≤ (V112 1 3).toInt := t110
      have t111 : (V112 1 3).toInt = (Int32.toInt 1) + 16 * (V 6 10).toInt := t111
      have r114 : 0 ≤ ((V 6 10)).toInt ∧ ((V 6 10)).toInt ≤ 4000 := hMV 6 10
      have hr115 : ∀ k, Rc gT (Crun gs (Imember :: k)) (Crun gs (Imember :: k)) := fun k => Rc.rf
      have hb116 : ∀ k, Rc gT (Crun gs (Imember :: k)) (Cbad (V112 1 3).toInt) := fun k => Rc.go1 (hr115 k) ((mb_140f (kd105.trans fq52) (by by_cases q9 : gs.1 2 = 1; exact q9; exact absurd (ow0.2.1.mpr q9) (by omega))).trans (fl_eq (RelC.st rel) (show (V112 1 3).toInt = 1 + 16 * (V 6 10).toInt from by omega)))
      have pq117 : (V112 1 2).toInt = ((V 1 2)).toInt := congrArg Int32.toInt (ajV112 1 2 rfl)
      have rw118 : ROWL b L L := (fun k hk => rfl)
      exact W.zret (v := z107) hx hb hr (nb_ok (by omega)) (fun t ht hW => ⟨⟨z107, (V112, L), rfl, ⟨hMV112, agV112, alL, (show 0 ≤ z107.toInt ∧ z107.toInt ≤ 1 from by omega), (show (V112 1 2).toInt = (V 1 2).toInt ∨ (V112 1 2).toInt = -1 from by omega), (Or.inr ⟨(by omega), hb116⟩), rw118⟩, by rw [ht]; exact hP, va_K.moved hW.alike hK, hD⟩, hS.F ht⟩) hS.2.2 dX1_readMember_99
  have gq52 : ((V 6 9)).toInt ≠ 140 := b_neq rfl (by decide) q52
  by_cases q119 : (V 6 9) = 141
  · refine g_top (v := 141) q119 ?_
    have fq119 : ((V 6 9)).toInt = 141 := b_eq rfl (by decide) q119
    refine lv_lookup (x := 141) (off := 106) (tgt := 121) hx hb dX1_readMember_15 (by decide) (by decide) (by decide) ?_
    refine lv_aload_n hx hb dX1_readMember_121 rfl (lv_at hl 1 rfl) ?_
    refine va_get (D := D) (ci := 1) (v := rfN ad 72 (V 1 2)) (fs := (xfReader ad V L Z)) (C := RX1) (T := TX1) (N := 9) hx hb hg inX1 hown hK hP 1 xgReader rfl 2 (by decide) (hg _ w306) (fun _ h9 => h9) rfl dX1_readMember_122 ?_
    refine g_topv (v := .ref (ad (72 + go))) (rfN_r (by omega)) ?_
    refine va_getN (D := D) (ci := 3) (v := .int (V 57 go)) (fs := (xfComp ad V go)) (C := RX3) (T := TX3) (N := 13) hx hb hg inX3 hown hK hP (72 + go) (xgComp hgo) rfl 12 (by decide) (hnw.use 541 n541 rfl) (fun _ h9 => h9) rfl dX1_readMember_125 ?_
    have r120 : (-1) ≤ ((V 57 go)).toInt ∧ ((V 57 go)).toInt ≤ 8200 := hMV 57 go
    refine lv_iconst (v := (-1)) hx hb dX1_readMember_128 (by decide) ?_
    refine lv_icmp_eq (tgt := 138) hx hb dX1_readMember_129 (by decide) (fun c121 => ?_) (fun c121 => ?_)
    · skip
      have f122 : ((V 57 go)).toInt = (-1) := b_eq rfl (by decide) c121
      have hr123 : ∀ k, Rc gT (Crun gs (Imember :: k)) (Crun gs (Imember :: k)) := fun k => Rc.rf
      have kd124 : gT.1 (gs.1 0) = ((V 6 9)).toInt := RelC.kd rel
      have hr125 : ∀ k, Rc gT (Crun gs (Imember :: k)) (Crun (nx (sN gs 3 1) 1) (Iexpr 0 :: Itake 59 :: Imember :: k)) := fun k => Rc.go1 (hr123 k) (mb_141 (kd124.trans fq119) (ow0.2.2.1.mp (by omega)))
      refine lv_aload_n hx hb dX1_readMember_138 rfl (lv_at hl 1 rfl) ?_
      refine va_get (D := D) (ci := 1) (v := rfN ad 72 (V 1 2)) (fs := (xfReader ad V L Z)) (C := RX1) (T := TX1) (N := 9) hx hb hg inX1 hown hK hP 1 xgReader rfl 2 (by decide) (hg _ w306) (fun _ h9 => h9) rfl dX1_readMember_139 ?_
      refine g_topv (v := .ref (ad (72 + go))) (rfN_r (by omega)) ?_
      refine lv_iload_n hx hb dX1_readMember_142 rfl (lv_at hl 0 rfl) ?_
      refine va_putN (D := D) (ci := 3) (v := .int (V 42 b)) (ty := tyX3 12) (fs := (xfComp ad V go)) (C := RX3) (T := TX3) (N := 13) hx hb hg inX3 tyX3 tyX3_ok nmX3 hown hK hP hD hS (72 + go) (xgComp hgo) rfl 12 (by decide) (hnw.use 541 n541 rfl) (fun _ h9 => h9) rfl (tyX3_ok 12 (by decide)) rfl rfl (Nat.le_of_ble_eq_true rfl) dX1_readMember_143 (fun H locs hP hD hS => ?_)
      obtain ⟨V126, hV126⟩ : ∃ z, z = up2 V 57 go (V 42 b) := ⟨_, rfl⟩
      have ew127 : (xw ad kk V L Z).set (72 + go) ((ad (72 + go)), .inr (3, (xfComp ad V go).set 12 (.int (V 42 b)))) = xw ad kk V126 L Z := by rw [hV126]; exact xpComp_closedStart hgo
      have hP : va_P D vwCl (xw ad kk V126 L Z) H := by rw [← ew127]; exact hP
      have hD : va_D A (xw ad kk V126 L Z) := by rw [← ew127]; exact hD
      have hMV126 : rgd bX V126 := hMV.put hV126 (show (-1) ≤ ((V 42 b)).toInt ∧ ((V 42 b)).toInt ≤ 8200 from by omega)
      have agV126 : agr [(1, 2), (1, 3), (1, 4), (1, 6), (1, 8), (6, 8), (6, 9), (6, 10)] [42, 43, 44, 48, 49, 56, 57, 58, 59, 60, 61] V V126 := agV.up hV126 rfl
      have rl128 : RelC V126 L b gT (sN gs 3 1) := RelC.cl rel (show (V 1 2).toInt = ((go : Nat) : Int) from by omega) hV126 (show ((V 42 b)).toInt ≠ -1 from by omega)
      refine lv_aload_n hx hb dX1_readMember_146 rfl (lv_at hl 1 rfl) ?_
      refine va_get (D := D) (ci := 1) (v := .ref (ad 6)) (fs := (xfReader ad V126 L Z)) (C := RX1) (T := TX1) (N := 9) hx hb hg inX1 hown hK hP 1 xgReader rfl 0 (by decide) (hg _ w304) (fun _ h9 => h9) rfl dX1_readMember_147 ?_
      have l8129 := RelC.l8 rl128
      have pq130 : (V126 6 8).toInt = ((V 6 8)).toInt := congrArg Int32.toInt (up2_o hV126 (by decide))
      have r131 : 0 ≤ ((V 6 8)).toInt ∧ ((V 6 8)).toInt ≤ 4000 := hMV 6 8
      have pq132 : (V126 6 7).toInt = ((V 6 7)).toInt := congrArg Int32.toInt (up2_o hV126 (by decide))
      have r133 : 0 ≤ ((V 6 7)).toInt ∧ ((V 6 7)).toInt ≤ 4000 := hMV 6 7
      have pq134 : (V126 6 9).toInt = ((V 6 9)).toInt := congrArg Int32.toInt (up2_o hV126 (by decide))
      have lk135 := RelC.lk rl128 (show (V126 6 9).toInt ≠ 0 from by omega)
      refine gA_void (gA_runV (As := []) (rest := []) (ci := 9) (q0 := 6) hx hb hml hown hg hP hD hK hS hA hnw hgk (x_next2 l D ks H.size ad kk V126 L Z  hMV126 (show (V126 6 8).toInt ≤ (V126 6 7).toInt from by omega)) w871 w852 w853 w157 w854 rfl xgTape hdV_yX9_next ⟨Nat.le_of_ble_eq_true rfl, Nat.le_of_ble_eq_true rfl⟩ rfl hl.1 rfl (Nat.le_of_ble_eq_true rfl) dX1_readMember_150 ⟨Nat.le_of_ble_eq_true rfl, Nat.le_of_ble_eq_true rfl⟩) hP hD hK hS hA (fun u137 H locs w138 hP hD hK hS => ?_)
      obtain ⟨V141, L142⟩ := u137
      obtain ⟨hMV141, ajV141, axL142, t139, t140⟩ := w138
      have alL142 : agL [6, 44] L L142 := agL.tr alL axL142 (by decide)
      have hP : va_P D vwCl (xw ad kk V141 L142 Z) H := hP
      have hD : va_D A (xw ad kk V141 L142 Z) := hD
      have hMV141 : rgd bX V141 := hMV141
      have ajV141 : agr [(6, 8), (6, 9), (6, 10)] [] V126 V141 := ajV141
      have agV141 : agr [(1, 2), (1, 3), (1, 4), (1, 6), (1, 8), (6, 8), (6, 9), (6, 10)] [42, 43, 44, 48, 49, 56, 57, 58, 59, 60, 61] V V141 := agV126.tr ajV141 (by decide) (by decide)
      have t139 : (V141 6 8).toInt ≤ (V141 6 7).toInt := t139
      have t140 : CUR V141 L142 (Int32.toNatClampNeg (V126 6 8)) := t140
      have r143 : 0 ≤ ((V141 6 8)).toInt ∧ ((V141 6 8)).toInt ≤ 4000 := hMV141 6 8
      have pq144 : (V141 6 7).toInt = ((V 6 7)).toInt := congrArg Int32.toInt ((ajV141 6 7 rfl).trans (up2_o hV126 (by decide)))
      have rl145 : RelC V141 L142 b gT (nx (sN gs 3 1) 1) := RelC.nx1 rl128 ajV141 (by decide) axL142 (by decide) (by rw [← lk135]; exact t140) (ajV141 1 3 rfl)
      refine lv_aload_n hx hb dX1_readMember_153 rfl (lv_at hl 1 rfl) ?_
      refine lv_iconst (v := 0) hx hb dX1_readMember_154 (by decide) ?_
      have pq147 : (V141 1 2).toInt = ((V 1 2)).toInt := congrArg Int32.toInt ((ajV141 1 2 rfl).trans (up2_o hV126 (by decide)))
      have w4146 := (RelC.ow rl145 (show (V141 1 2).toInt = ((go : Nat) : Int) from by omega)).2.2.2.1
      have r148 : Int32.toInt 0 = 0 := by decide
      have pq149 : (V141 1 1).toInt = ((V 1 1)).toInt := congrArg Int32.toInt ((ajV141 1 1 rfl).trans (up2_o hV126 (by decide)))
      refine gA_int (gA_runV (As := [.int 0]) (rest := []) (ci := 1) (q0 := 1) hx hb hml hown hg hP hD hK hS hA hnw hgk (x_readE3 l D ks H.size ad kk V141 L142 Z 0 (b) (gT) ((nx (sN gs 3 1) 1)) hMV141 (by decide) (show b < 2 from by omega) (show (V141 1 1).toInt = (b : Int) from by omega) rl145 (show (Int32.toInt 0) = (((nx (sN gs 3 1) 1).1 4 : Nat) : Int) from by omega) (fun _ => (show 0 ≤ (V141 1 2).toInt from by omega))) w947 w949 w20 w162 w950 rfl xgReader hdV_yX1_readE ⟨Nat.le_of_ble_eq_true rfl, Nat.le_of_ble_eq_true rfl⟩ rfl hl.1 rfl (Nat.le_of_ble_eq_true rfl) dX1_readMember_155 ⟨Nat.le_of_ble_eq_true rfl, Nat.le_of_ble_eq_true rfl⟩) hP hD hK hS hA (fun z150 u151 H locs w152 hP hD hK hS => ?_)
      obtain ⟨V155, L156⟩ := u151
      obtain ⟨hMV155, ajV155, axL156, rgz150, t153, t154⟩ := w152
      have alL156 : agL [6, 44] L L156 := agL.tr alL142 axL156 (by decide)
      have hP : va_P D vwCl (xw ad kk V155 L156 Z) H := hP
      have hD : va_D A (xw ad kk V155 L156 Z) := hD
      have hMV155 : rgd bX V155 := hMV155
      have ajV155 : agr [(1, 3), (1, 4), (1, 6), (1, 8), (6, 8), (6, 9), (6, 10)] [42, 43, 44, 48] V141 V155 := ajV155
      have agV155 : agr [(1, 2), (1, 3), (1, 4), (1, 6), (1, 8), (6, 8), (6, 9), (6, 10)] [42, 43, 44, 48, 49, 56, 57, 58, 59, 60, 61] V V155 := agV141.tr ajV155 (by decide) (by decide)
      have rgz150 : 0 ≤ z150.toInt ∧ z150.toInt ≤ 1 := rgz150
      have t153 : Rd gT (nx (sN gs 3 1) 1) (fun k => Iexpr 0 :: Itake 59 :: k) (fun k => k) z150.toInt (V155 1 3).toInt (fun s9 => RelC V155 L156 b gT s9 ∧ keepS (nx (sN gs 3 1) 1) 2 s9) := t153
      have t154 : ROWL b L142 L156 := t154
      rcases t153 with ⟨q157, sx158, h159, rl160, kp161⟩ | ⟨q157, h159⟩
      · skip
        have hr162 : ∀ k, Rc gT (Crun gs (Imember :: k)) (Crun sx158 (Imember :: k)) := fun k => (hr125 k).tr (h159 (Imember :: k))
        have pq163 : (V155 1 2).toInt = ((V 1 2)).toInt := congrArg Int32.toInt ((ajV155 1 2 rfl).trans ((ajV141 1 2 rfl).trans (up2_o hV126 (by decide))))
        have ps164 : (sN gs 3 1).1 0 = gs.1 0 := rfl
        have ps165 : (sN gs 3 1).1 0 + 1 ≤ (nx (sN gs 3 1) 1).1 0 := ((keepS.n1 1)).1
        have ps166 : (nx (sN gs 3 1) 1).1 0 + 2 ≤ sx158.1 0 := (kp161).1
        have rw167 : ROWL b L L156 := (fun k hk => ((t154 k hk).trans ((axL142 44 k rfl).trans rfl)))
        exact W.zret (v := z150) hx hb hr (nb_ok (by omega)) (fun t ht hW => ⟨⟨z150, (V155, L156), rfl, ⟨hMV155, agV155, alL156, (show 0 ≤ z150.toInt ∧ z150.toInt ≤ 1 from by omega), (show (V155 1 2).toInt = (V 1 2).toInt ∨ (V155 1 2).toInt = -1 from by omega), (Or.inl ⟨(by omega), sx158, (fun k => show Rc gT (Crun gs (Imember :: k)) (Crun sx158 (nxI (V155 1 2) k)) from by rw [nxI_m (show 0 ≤ (V155 1 2).toInt from by omega)]; exact hr162 k), rl160, (by omega)⟩), rw167⟩, by rw [ht]; exact hP, va_K.moved hW.alike hK, hD⟩, hS.F ht⟩) hS.2.2 dX1_readMember_158
      · skip
        have hb168 : ∀ k, Rc gT (Crun gs (Imember :: k)) (Cbad (V155 1 3).toInt) := fun k => (hr125 k).tr (h159 (Imember :: k))
        have pq169 : (V155 1 2).toInt = ((V 1 2)).toInt := congrArg Int32.toInt ((ajV155 1 2 rfl).trans ((ajV141 1 2 rfl).trans (up2_o hV126 (by decide))))
        have rw170 : ROWL b L L156 := (fun k hk => ((t154 k hk).trans ((axL142 44 k rfl).trans rfl)))
        exact W.zret (v := z150) hx hb hr (nb_ok (by omega)) (fun t ht hW => ⟨⟨z150, (V155, L156), rfl, ⟨hMV155, agV155, alL156, (show 0 ≤ z150.toInt ∧ z150.toInt ≤ 1 from by omega), (show (V155 1 2).toInt = (V 1 2).toInt ∨ (V155 1 2).toInt = -1 from by omega), (Or.inr ⟨(by omega), hb168⟩), rw170⟩, by rw [ht]; exact hP, va_K.moved hW.alike hK, hD⟩, hS.F ht⟩) hS.2.2 dX1_readMember_158
    · skip
      have f171 : ((V 57 go)).toInt ≠ (-1) := b_neq rfl (by decide) c121
      refine lv_aload_n hx hb dX1_readMember_132 rfl (lv_at hl 1 rfl) ?_
      refine lv_iconst (v := 1) hx hb dX1_readMember_133 (by decide) ?_
      have kd172 : gT.1 (gs.1 0) = ((V 6 9)).toInt := RelC.kd rel
      have r173 : Int32.toInt 1 = 1 := by decide
      refine gA_int (gA_runV (As := [.int 1]) (rest := []) (ci := 1) (q0 := 1) hx hb hml hown hg hP hD hK hS hA hnw hgk (x_wrong2 l D ks H.size ad kk V L Z 1 hMV (by decide)) w867 w869 w6 w162 w870 rfl xgReader hdV_yX1_wrong ⟨Nat.le_of_ble_eq_true rfl, Nat.le_of_ble_eq_true rfl⟩ rfl hl.1 rfl (Nat.le_of_ble_eq_true rfl) dX1_readMember_134 ⟨Nat.le_of_ble_eq_true rfl, Nat.le_of_ble_eq_true rfl⟩) hP hD hK hS hA (fun z174 u175 H locs w176 hP hD hK hS => ?_)
      obtain ⟨V179, L180⟩ := u175
      obtain ⟨hMV179, ajV179, axL180, rgz174, t177, t178⟩ := w176
      have axL180 : L = L180 := Eq.symm axL180
      subst axL180
      have hP : va_P D vwCl (xw ad kk V179 L Z) H := hP
      have hD : va_D A (xw ad kk V179 L Z) := hD
      have hMV179 : rgd bX V179 := hMV179
      have ajV179 : agr [(1, 3)] [] V V179 := ajV179
      have agV179 : agr [(1, 2), (1, 3), (1, 4), (1, 6), (1, 8), (6, 8), (6, 9), (6, 10)] [42, 43, 44, 48, 49, 56, 57, 58, 59, 60, 61] V V179 := agV.tr ajV179 (by decide) (by decide)
      have rgz174 : 0 ≤ z174.toInt ∧ z174.toInt ≤ 0 := rgz174
      have t177 : 1 ≤ (V179 1 3).toInt := t177
      have t178 : (V179 1 3).toInt = (Int32.toInt 1) + 16 * (V 6 10).toInt := t178
      have r181 : 0 ≤ ((V 6 10)).toInt ∧ ((V 6 10)).toInt ≤ 4000 := hMV 6 10
      have hr182 : ∀ k, Rc gT (Crun gs (Imember :: k)) (Crun gs (Imember :: k)) := fun k => Rc.rf
      have hb183 : ∀ k, Rc gT (Crun gs (Imember :: k)) (Cbad (V179 1 3).toInt) := fun k => Rc.go1 (hr182 k) ((mb_141f (kd172.trans fq119) (by by_cases q9 : gs.1 3 = 1; exact q9; exact absurd (ow0.2.2.1.mpr q9) (by omega))).trans (fl_eq (RelC.st rel) (show (V179 1 3).toInt = 1 + 16 * (V 6 10).toInt from by omega)))
      have pq184 : (V179 1 2).toInt = ((V 1 2)).toInt := congrArg Int32.toInt (ajV179 1 2 rfl)
      have rw185 : ROWL b L L := (fun k hk => rfl)
      exact W.zret (v := z174) hx hb hr (nb_ok (by omega)) (fun t ht hW => ⟨⟨z174, (V179, L), rfl, ⟨hMV179, agV179, alL, (show 0 ≤ z174.toInt ∧ z174.toInt ≤ 1 from by omega), (show (V179 1 2).toInt = (V 1 2).toInt ∨ (V179 1 2).toInt = -1 from by omega), (Or.inr ⟨(by omega), hb183⟩), rw185⟩, by rw [ht]; exact hP, va_K.moved hW.alike hK, hD⟩, hS.F ht⟩) hS.2.2 dX1_readMember_137
  have gq119 : ((V 6 9)).toInt ≠ 141 := b_neq rfl (by decide) q119
  by_cases q186 : (V 6 9) = 142
  · refine g_top (v := 142) q186 ?_
    have fq186 : ((V 6 9)).toInt = 142 := b_eq rfl (by decide) q186
    refine lv_lookup (x := 142) (off := 144) (tgt := 159) hx hb dX1_readMember_15 (by decide) (by decide) (by decide) ?_
    refine lv_aload_n hx hb dX1_readMember_159 rfl (lv_at hl 1 rfl) ?_
    have hr187 : ∀ k, Rc gT (Crun gs (Imember :: k)) (Crun gs (Imember :: k)) := fun k => Rc.rf
    refine gA_int (gA_runV (As := []) (rest := []) (ci := 1) (q0 := 1) hx hb hml hown hg hP hD hK hS hA hnw hgk (x_readMethod3 l D ks H.size ad kk V L Z (b) (gT) (gs) (go) hMV (show b < 2 from by omega) (show (V 1 1).toInt = (b : Int) from by omega) (show (V 1 2).toInt = (go : Int) from by omega) (show go < 48 from by omega) (show 24 * b ≤ go from by omega) (show go < 24 * b + 24 from by omega) rel (show (V 6 9).toInt = 142 from by omega)) w1015 w1017 w33 w162 w1018 rfl xgReader hdV_yX1_readMethod ⟨Nat.le_of_ble_eq_true rfl, Nat.le_of_ble_eq_true rfl⟩ rfl hl.1 rfl (Nat.le_of_ble_eq_true rfl) dX1_readMember_160 ⟨Nat.le_of_ble_eq_true rfl, Nat.le_of_ble_eq_true rfl⟩) hP hD hK hS hA (fun z188 u189 H locs w190 hP hD hK hS => ?_)
    obtain ⟨V193, L194⟩ := u189
    obtain ⟨hMV193, ajV193, axL194, rgz188, t191, t192⟩ := w190
    have alL194 : agL [6, 44] L L194 := agL.tr alL axL194 (by decide)
    have hP : va_P D vwCl (xw ad kk V193 L194 Z) H := hP
    have hD : va_D A (xw ad kk V193 L194 Z) := hD
    have hMV193 : rgd bX V193 := hMV193
    have ajV193 : agr [(1, 3), (1, 4), (1, 6), (1, 8), (6, 8), (6, 9), (6, 10)] [42, 43, 44, 48, 61] V V193 := ajV193
    have agV193 : agr [(1, 2), (1, 3), (1, 4), (1, 6), (1, 8), (6, 8), (6, 9), (6, 10)] [42, 43, 44, 48, 49, 56, 57, 58, 59, 60, 61] V V193 := agV.tr ajV193 (by decide) (by decide)
    have rgz188 : 0 ≤ z188.toInt ∧ z188.toInt ≤ 1 := rgz188
    have t191 : Rd gT gs (fun k => Imember :: k) (fun k => Imember :: k) z188.toInt (V193 1 3).toInt (fun s9 => RelC V193 L194 b gT s9 ∧ gs.1 0 + 1 ≤ s9.1 0) := t191
    have t192 : ROWL b L L194 := t192
    rcases t191 with ⟨q195, sx196, h197, rl198, kp199⟩ | ⟨q195, h197⟩
    · skip
      have hr200 : ∀ k, Rc gT (Crun gs (Imember :: k)) (Crun sx196 (Imember :: k)) := fun k => (hr187 k).tr (h197 k)
      have pq201 : (V193 1 2).toInt = ((V 1 2)).toInt := congrArg Int32.toInt (ajV193 1 2 rfl)
      have ps202 : gs.1 0 + 1 ≤ sx196.1 0 := kp199
      have rw203 : ROWL b L L194 := (fun k hk => ((t192 k hk).trans rfl))
      exact W.zret (v := z188) hx hb hr (nb_ok (by omega)) (fun t ht hW => ⟨⟨z188, (V193, L194), rfl, ⟨hMV193, agV193, alL194, (show 0 ≤ z188.toInt ∧ z188.toInt ≤ 1 from by omega), (show (V193 1 2).toInt = (V 1 2).toInt ∨ (V193 1 2).toInt = -1 from by omega), (Or.inl ⟨(by omega), sx196, (fun k => show Rc gT (Crun gs (Imember :: k)) (Crun sx196 (nxI (V193 1 2) k)) from by rw [nxI_m (show 0 ≤ (V193 1 2).toInt from by omega)]; exact hr200 k), rl198, (by omega)⟩), rw203⟩, by rw [ht]; exact hP, va_K.moved hW.alike hK, hD⟩, hS.F ht⟩) hS.2.2 dX1_readMember_163
    · skip
      have hb204 : ∀ k, Rc gT (Crun gs (Imember :: k)) (Cbad (V193 1 3).toInt) := fun k => (hr187 k).tr (h197 k)
      have pq205 : (V193 1 2).toInt = ((V 1 2)).toInt := congrArg Int32.toInt (ajV193 1 2 rfl)
      have rw206 : ROWL b L L194 := (fun k hk => ((t192 k hk).trans rfl))
      exact W.zret (v := z188) hx hb hr (nb_ok (by omega)) (fun t ht hW => ⟨⟨z188, (V193, L194), rfl, ⟨hMV193, agV193, alL194, (show 0 ≤ z188.toInt ∧ z188.toInt ≤ 1 from by omega), (show (V193 1 2).toInt = (V 1 2).toInt ∨ (V193 1 2).toInt = -1 from by omega), (Or.inr ⟨(by omega), hb204⟩), rw206⟩, by rw [ht]; exact hP, va_K.moved hW.alike hK, hD⟩, hS.F ht⟩) hS.2.2 dX1_readMember_163
  have gq186 : ((V 6 9)).toInt ≠ 142 := b_neq rfl (by decide) q186
  refine lv_lookup (x := (V 6 9)) (off := 149) (tgt := 164) hx hb dX1_readMember_15 (by decide) ((lv_osw q4 (by decide)).trans ((lv_osw q31 (by decide)).trans ((lv_osw q52 (by decide)).trans ((lv_osw q119 (by decide)).trans ((lv_osw q186 (by decide)).trans rfl))))) (by decide) ?_
  refine lv_aload_n hx hb dX1_readMember_164 rfl (lv_at hl 1 rfl) ?_
  refine lv_iconst (v := 1) hx hb dX1_readMember_165 (by decide) ?_
  have kd207 : gT.1 (gs.1 0) = ((V 6 9)).toInt := RelC.kd rel
  have r208 : Int32.toInt 1 = 1 := by decide
  refine gA_int (gA_runV (As := [.int 1]) (rest := []) (ci := 1) (q0 := 1) hx hb hml hown hg hP hD hK hS hA hnw hgk (x_wrong2 l D ks H.size ad kk V L Z 1 hMV (by decide)) w867 w869 w6 w162 w870 rfl xgReader hdV_yX1_wrong ⟨Nat.le_of_ble_eq_true rfl, Nat.le_of_ble_eq_true rfl⟩ rfl hl.1 rfl (Nat.le_of_ble_eq_true rfl) dX1_readMember_166 ⟨Nat.le_of_ble_eq_true rfl, Nat.le_of_ble_eq_true rfl⟩) hP hD hK hS hA (fun z209 u210 H locs w211 hP hD hK hS => ?_)
  obtain ⟨V214, L215⟩ := u210
  obtain ⟨hMV214, ajV214, axL215, rgz209, t212, t213⟩ := w211
  have axL215 : L = L215 := Eq.symm axL215
  subst axL215
  have hP : va_P D vwCl (xw ad kk V214 L Z) H := hP
  have hD : va_D A (xw ad kk V214 L Z) := hD
  have hMV214 : rgd bX V214 := hMV214
  have ajV214 : agr [(1, 3)] [] V V214 := ajV214
  have agV214 : agr [(1, 2), (1, 3), (1, 4), (1, 6), (1, 8), (6, 8), (6, 9), (6, 10)] [42, 43, 44, 48, 49, 56, 57, 58, 59, 60, 61] V V214 := agV.tr ajV214 (by decide) (by decide)
  have rgz209 : 0 ≤ z209.toInt ∧ z209.toInt ≤ 0 := rgz209
  have t212 : 1 ≤ (V214 1 3).toInt := t212
  have t213 : (V214 1 3).toInt = (Int32.toInt 1) + 16 * (V 6 10).toInt := t213
  have r216 : 0 ≤ ((V 6 10)).toInt ∧ ((V 6 10)).toInt ≤ 4000 := hMV 6 10
  have hr217 : ∀ k, Rc gT (Crun gs (Imember :: k)) (Crun gs (Imember :: k)) := fun k => Rc.rf
  have hb218 : ∀ k, Rc gT (Crun gs (Imember :: k)) (Cbad (V214 1 3).toInt) := fun k => Rc.go1 (hr217 k) ((mb_x (fun h9 => gq4 (kd207.symm.trans h9)) (fun h9 => gq31 (kd207.symm.trans h9)) (fun h9 => gq52 (kd207.symm.trans h9)) (fun h9 => gq119 (kd207.symm.trans h9)) (fun h9 => gq186 (kd207.symm.trans h9))).trans (fl_eq (RelC.st rel) (show (V214 1 3).toInt = 1 + 16 * (V 6 10).toInt from by omega)))
  have pq219 : (V214 1 2).toInt = ((V 1 2)).toInt := congrArg Int32.toInt (ajV214 1 2 rfl)
  have rw220 : ROWL b L L := (fun k hk => rfl)
  exact W.zret (v := z209) hx hb hr (nb_ok (by omega)) (fun t ht hW => ⟨⟨z209, (V214, L), rfl, ⟨hMV214, agV214, alL, (show 0 ≤ z209.toInt ∧ z209.toInt ≤ 1 from by omega), (show (V214 1 2).toInt = (V 1 2).toInt ∨ (V214 1 2).toInt = -1 from by omega), (Or.inr ⟨(by omega), hb218⟩), rw220⟩, by rw [ht]; exact hP, va_K.moved hW.alike hK, hD⟩, hS.F ht⟩) hS.2.2 dX1_readMember_169
