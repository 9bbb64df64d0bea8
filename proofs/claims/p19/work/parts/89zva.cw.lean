/-! a wrap that suits, as the class asks it -/
def FW9 (V : Vf) (b gw : Nat) (ph : Int) (c : Nat) (me : Int) : Prop := (V 65 gw).toInt = ph ∧ (V 63 gw).toInt = me ∧ bt (V 50 (24 * b + c)) (Int32.toNatClampNeg (V 62 gw)) = true
def FWo (V : Vf) (b i : Nat) (ph : Int) (c : Nat) (me : Int) : Prop := FW9 V b (12 * b + Int32.toNatClampNeg (V 47 (12 * b + i))) ph c me
theorem fFr_y {l : List Nat} {P : Nat → Bool} {i : Nat} : ∀ (f p : Nat), p ≤ i → i < p + f → P (l.getD i 0) = true → (∀ j, p ≤ j → j < i → ¬ P (l.getD j 0) = true) → fFr l P f p = some i
  | 0, p, h1, h2, _, _ => by omega
  | f + 1, p, h1, h2, y, n => by
    show (if P (l.getD p 0) = true then some p else fFr l P f (p + 1)) = some i
    by_cases q : p = i
    · rw [q, if_pos y]
    · rw [if_neg (n p (Nat.le_refl _) (by omega))]
      exact fFr_y f (p + 1) (by omega) (by omega) y (fun j a b => n j (by omega) b)
theorem fFr_no {l : List Nat} {P : Nat → Bool} : ∀ (f p : Nat), (∀ j, p ≤ j → j < p + f → ¬ P (l.getD j 0) = true) → fFr l P f p = none
  | 0, _, _ => rfl
  | f + 1, p, n => by
    show (if P (l.getD p 0) = true then some p else fFr l P f (p + 1)) = none
    rw [if_neg (n p (Nat.le_refl _) (by omega))]
    exact fFr_no f (p + 1) (fun j a b => n j (by omega) (by omega))
theorem fBr_y {l : List Nat} {P : Nat → Bool} {i : Nat} : ∀ (p : Nat), i < p → P (l.getD i 0) = true → (∀ j, i < j → j < p → ¬ P (l.getD j 0) = true) → fBr l P p = some i
  | 0, h, _, _ => by omega
  | p + 1, h, y, n => by
    show (if P (l.getD p 0) = true then some p else fBr l P p) = some i
    by_cases q : p = i
    · rw [q, if_pos y]
    · rw [if_neg (n p (by omega) (by omega))]
      exact fBr_y p (by omega) y (fun j a b => n j a (by omega))
theorem fBr_no {l : List Nat} {P : Nat → Bool} : ∀ (p : Nat), (∀ j, j < p → ¬ P (l.getD j 0) = true) → fBr l P p = none
  | 0, _ => rfl
  | p + 1, n => by
    show (if P (l.getD p 0) = true then some p else fBr l P p) = none
    rw [if_neg (n p (by omega))]
    exact fBr_no p (fun j a => n j (by omega))
theorem bW_lt {B : Bk} {i : Nat} (h : i < (bW B).length) : (bW B).getD i 0 < wN B := by
  have e : (bW B).getD i 0 = (bW B)[i] := gd_el h
  have m : (bW B)[i] ∈ bW B := List.getElem_mem h
  rw [← e] at m
  obtain ⟨n, _, m2⟩ := List.mem_flatMap.mp m
  exact List.mem_range.mp (List.mem_filter.mp m2).1
section BKw
variable {V : Vf} {b : Nat} {B : Bk} {i c ph me p : Nat}
theorem BKc.wl (h : BKc V b B) : (bW B).length = wN B ∧ wN B = B.1.2.2.1.length ∧ wN B ≤ 12 ∧ (V 41 b).toInt = ((wN B : Nat) : Int) := by
  have q := h.2.2.1.1.1
  have e : wN B = B.1.2.2.1.length := by
    unfold wN
    omega
  exact ⟨bW_len (fun w hw => (h.2.2.2.2.2.1 w hw).2), e, by omega, by rw [e]; exact h.2.2.1.2.1⟩
/-- the i-th wrap: its number, its row -/
theorem BKc.wi (h : BKc V b B) (hi : i < wN B) : Int32.toNatClampNeg (V 47 (12 * b + i)) = (bW B).getD i 0 ∧ (bW B).getD i 0 < wN B ∧ WWr V b B.1 ((bW B).getD i 0) ∧ Int32.toNatClampNeg (V 62 (12 * b + (bW B).getD i 0)) = nL B.1 (900 + 8 * (bW B).getD i 0) ∧ nL B.1 (900 + 8 * (bW B).getD i 0) < 24 := by
  obtain ⟨l1, l2, _, _⟩ := h.wl
  have w1 : (bW B).getD i 0 < wN B := bW_lt (by omega)
  have w2 := h.2.2.1.1.2 ((bW B).getD i 0) (by omega)
  have w3 := h.2.2.1.2.2 i (by omega)
  have w4 := i_clamp (x := V 47 (12 * b + i)) rfl (by omega)
  have w5 := i_clamp (x := V 62 (12 * b + (bW B).getD i 0)) rfl (by have := w2.1; omega)
  exact ⟨by omega, w1, w2, by have := w2.1; omega, (h.2.2.2.2.2.1 _ w1).1⟩
theorem BKc.fw (h : BKc V b B) (hi : i < wN B) (hc : c < nC B) : FWo V b i (ph : Int) c (me : Int) ↔ isF B ph c me ((bW B).getD i 0) = true := by
  obtain ⟨e, _, wr, et, lt⟩ := h.wi hi
  have hb := (h.2.2.2.1.2.2 c hc).1.1 _ lt
  unfold FWo FW9 isF
  rw [e, et, hb, Bool.and_eq_true, Bool.and_eq_true, beq_iff_eq, beq_iff_eq]
  have a1 := wr.2.1
  have a2 := wr.2.2.2.1
  exact ⟨fun ⟨x1, x2, x3⟩ => ⟨⟨by omega, by omega⟩, x3⟩, fun ⟨⟨x1, x2⟩, x3⟩ => ⟨by omega, by omega, x3⟩⟩
theorem BKc.fFy (h : BKc V b B) (hc : c < nC B) (hi : i < wN B) (hp : p ≤ i) (y : FWo V b i (ph : Int) c (me : Int)) (n : ∀ j, p ≤ j → j < i → ¬ FWo V b j (ph : Int) c (me : Int)) : fF (bW B) (isF B ph c me) p = some i := by
  obtain ⟨l1, l2, l3, _⟩ := h.wl
  exact fFr_y _ p hp (by omega) ((h.fw hi hc).mp y) (fun j a b z => n j a b ((h.fw (by omega) hc).mpr z))
theorem BKc.fFn (h : BKc V b B) (hc : c < nC B) (n : ∀ j, p ≤ j → j < wN B → ¬ FWo V b j (ph : Int) c (me : Int)) : fF (bW B) (isF B ph c me) p = none := by
  obtain ⟨l1, l2, l3, _⟩ := h.wl
  exact fFr_no _ p (fun j a b z => n j a (by omega) ((h.fw (by omega) hc).mpr z))
theorem BKc.fBy (h : BKc V b B) (hc : c < nC B) (hi : i < p) (hp : p ≤ wN B) (y : FWo V b i (ph : Int) c (me : Int)) (n : ∀ j, i < j → j < p → ¬ FWo V b j (ph : Int) c (me : Int)) : fB (bW B) (isF B ph c me) p = some i := by
  obtain ⟨l1, l2, l3, _⟩ := h.wl
  unfold fB
  rw [show min p (min 12 (bW B).length) = p from by omega]
  exact fBr_y p hi ((h.fw (by omega) hc).mp y) (fun j a b z => n j a b ((h.fw (by omega) hc).mpr z))
theorem BKc.fBn (h : BKc V b B) (hc : c < nC B) (hp : p ≤ wN B) (n : ∀ j, j < p → ¬ FWo V b j (ph : Int) c (me : Int)) : fB (bW B) (isF B ph c me) p = none := by
  obtain ⟨l1, l2, l3, _⟩ := h.wl
  unfold fB
  rw [show min p (min 12 (bW B).length) = p from by omega]
  exact fBr_no p (fun j a z => n j a ((h.fw (by omega) hc).mpr z))
end BKw


abbrev r_x_isFor9 : Room := { frames := 0, cells := 0, slots := 0, locals := 0 }
abbrev q_x_isFor9 (D : va_G) (ks : KS) (ad : Nat → Nat) (kk : Nat → ClassId) (V : Vf) (L : Lf) (Z : XZ) (p1 : Int32) (p2 : Int32) (p3 : Int32) (b : Nat) (gw : Nat) (A : Nat → Prop) : Array Value → State → Outcome → State → Prop := va_Qi (fun (r : Int32) (_ : Unit) => (0 ≤ r.toInt ∧ r.toInt ≤ 1) ∧ ((r.toInt = 1 ∧ FW9 V b gw p1.toInt (Int32.toNatClampNeg p2) p3.toInt) ∨ (r.toInt = 0 ∧ ¬ FW9 V b gw p1.toInt (Int32.toNatClampNeg p2) p3.toInt))) (fun _ t => gq D A (xw ad kk V L Z) (xty kk Z) t) A
set_option maxHeartbeats 4000000 in
set_option maxRecDepth 100000 in
theorem x_isFor9 (l : Launch) (D : va_G) (ks : KS) (sz : Nat) (ad : Nat → Nat) (kk : Nat → ClassId) (V : Vf) (L : Lf) (Z : XZ) (p1 : Int32) (p2 : Int32) (p3 : Int32) (b : Nat) (gw : Nat) (hMV : rgd bX V) (rg_p2 : 0 ≤ p2.toInt ∧ p2.toInt ≤ 23) (hb2 : b < 2) (hgw : gw < 24) (tl0 : 0 ≤ (V 62 gw).toInt) (tl1 : (V 62 gw).toInt < 24)  : Met l yX0_isFor (Cond.code yX0_isFor cX0_isFor 5 (some .boolean) :: GW) r_x_isFor9 (va_Pc [.ref (ad (38 + b)), .ref (ad (312 + gw)), .int p1, .int p2, .int p3] (gp D ks (xw ad kk V L Z) (xty kk Z) sz)) (q_x_isFor9 D ks ad kk V L Z p1 p2 p3 b gw (va_A (xw ad kk V L Z) sz)) 0 0 (va_A (xw ad kk V L Z) sz) := by
  refine g_met (q_x_isFor9 D ks ad kk V L Z p1 p2 p3 b gw) (by decide) (Nat.le_of_ble_eq_true rfl) ?_
  intro p e s m below meth c A ls H locs hx hb hr hml hown hg hlocks hin hnw hgk hP hK hD hS hA hl
  have hown : s.vm.findClass RX0 = some m.cls := hown
  have hl : lv_has ls 5 [(0, .ref (ad (38 + b))), (1, .ref (ad (312 + gw))), (2, .int p1), (3, .int p2), (4, .int p3)] := hl
  have hP : va_P D vwCl (xw ad kk V L Z) H := hP
  have hD : va_D A (xw ad kk V L Z) := hD
  have hK : va_K D vwCl (xty kk Z) s := hK
  refine lv_aload_n hx hb dX0_isFor_0 rfl (lv_at hl 1 rfl) ?_
  refine va_getN (D := D) (ci := 10) (v := .int (V 65 gw)) (fs := (xfWrap V gw)) (C := RX10) (T := TX10) (N := 5) hx hb hg inX10 hown hK hP (312 + gw) (xgWrap hgw) rfl 3 (by decide) (hnw.use 578 n578 rfl) (fun _ h9 => h9) rfl dX0_isFor_1 ?_
  refine lv_iload_n hx hb dX0_isFor_4 rfl (lv_at hl 2 rfl) ?_
  refine lv_icmp_ne (tgt := 40) hx hb dX0_isFor_5 (by decide) (fun c1 => ?_) (fun c1 => ?_)
  · skip
    have f2 : ((V 65 gw)).toInt ≠ p1.toInt := b_neq rfl rfl c1
    refine lv_iconst (v := 0) hx hb dX0_isFor_40 (by decide) ?_
    exact W.zret (v := 0) hx hb hr rfl (fun t ht hW => ⟨⟨0, (), rfl, ⟨(by decide), (Or.inr ⟨rfl, fun h9 => by have h8 := h9.1; have h7 := h9.2.1; omega⟩)⟩, by rw [ht]; exact hP, va_K.moved hW.alike hK, hD⟩, hS.F ht⟩) hS.2.2 dX0_isFor_41
  · skip
    have f3 : ((V 65 gw)).toInt = p1.toInt := b_eq rfl rfl c1
    refine lv_aload_n hx hb dX0_isFor_8 rfl (lv_at hl 1 rfl) ?_
    refine va_getN (D := D) (ci := 10) (v := .int (V 63 gw)) (fs := (xfWrap V gw)) (C := RX10) (T := TX10) (N := 5) hx hb hg inX10 hown hK hP (312 + gw) (xgWrap hgw) rfl 1 (by decide) (hnw.use 576 n576 rfl) (fun _ h9 => h9) rfl dX0_isFor_9 ?_
    refine lv_iload hx hb dX0_isFor_12 (lv_at hl 4 rfl) ?_
    refine lv_icmp_ne (tgt := 40) hx hb dX0_isFor_14 (by decide) (fun c4 => ?_) (fun c4 => ?_)
    · skip
      have f5 : ((V 63 gw)).toInt ≠ p3.toInt := b_neq rfl rfl c4
      refine lv_iconst (v := 0) hx hb dX0_isFor_40 (by decide) ?_
      exact W.zret (v := 0) hx hb hr rfl (fun t ht hW => ⟨⟨0, (), rfl, ⟨(by decide), (Or.inr ⟨rfl, fun h9 => by have h8 := h9.1; have h7 := h9.2.1; omega⟩)⟩, by rw [ht]; exact hP, va_K.moved hW.alike hK, hD⟩, hS.F ht⟩) hS.2.2 dX0_isFor_41
    · skip
      have f6 : ((V 63 gw)).toInt = p3.toInt := b_eq rfl rfl c4
      refine lv_aload_n hx hb dX0_isFor_17 rfl (lv_at hl 0 rfl) ?_
      refine va_get (D := D) (ci := 0) (v := .ref (ad (64 + b))) (fs := (xfBook ad V b)) (C := RX0) (T := TX0) (N := 13) hx hb hg inX0 hown hK hP (38 + b) (xgBook hb2) rfl 7 (by decide) (hg _ w614) (fun _ h9 => h9) rfl dX0_isFor_18 ?_
      refine lv_iload_n hx hb dX0_isFor_21 rfl (lv_at hl 3 rfl) ?_
      have il7 : b < 2 := by (first | exact om_f940a4667dd6 hb2 | omega)
      refine va_aldq (D := D) (i := p2) hx hb hK hP (64 + b) (57 + b) (xgcomps il7) (xtcomps il7) (i_in (a := p2.toInt) rfl (by (first | exact om_dbb25e99819b rg_p2.1 rg_p2.2 | omega))) dX0_isFor_22 ?_
      have kc8 := i_clamp (x := p2) rfl (by (first | exact om_eafa9039069c rg_p2.1 | omega))
      refine g_topv (v := .ref (ad (72 + (24 * b + (Int32.toNatClampNeg p2))))) (congrArg va_rf (if_pos (by omega))) ?_
      have il9 : (24 * b + (Int32.toNatClampNeg p2)) < 48 := by (first | exact om_22346e364ab0 rg_p2.2 hb2 kc8 | omega)
      refine va_getN (D := D) (ci := 3) (v := .int (V 50 (24 * b + (Int32.toNatClampNeg p2)))) (fs := (xfComp ad V (24 * b + (Int32.toNatClampNeg p2)))) (C := RX3) (T := TX3) (N := 13) hx hb hg inX3 hown hK hP (72 + (24 * b + (Int32.toNatClampNeg p2))) (xgComp il9) rfl 5 (by decide) (hnw.use 517 n517 rfl) (fun _ h9 => h9) rfl dX0_isFor_23 ?_
      refine lv_aload_n hx hb dX0_isFor_26 rfl (lv_at hl 1 rfl) ?_
      refine va_getN (D := D) (ci := 10) (v := .int (V 62 gw)) (fs := (xfWrap V gw)) (C := RX10) (T := TX10) (N := 5) hx hb hg inX10 hown hK hP (312 + gw) (xgWrap hgw) rfl 0 (by decide) (hnw.use 575 n575 rfl) (fun _ h9 => h9) rfl dX0_isFor_27 ?_
      refine lv_ishr hx hb dX0_isFor_30 ?_
      refine lv_topi (fun z10 ez10 => ?_)
      refine lv_iconst (v := 1) hx hb dX0_isFor_31 (by decide) ?_
      refine lv_iand hx hb dX0_isFor_32 ?_
      refine lv_topi (fun z11 ez11 => ?_)
      have hz11 : 0 ≤ z11.toInt ∧ z11.toInt ≤ 1 := and_m ez11 (by decide)
      have kt9 := i_clamp (x := V 62 gw) rfl (by (first | exact om_eafa9039069c tl0 | omega))
      have lb9 : z11.toInt = 0 ↔ bt (V 50 (24 * b + Int32.toNatClampNeg p2)) (Int32.toNatClampNeg (V 62 gw)) = false := lb_get ez10 ez11 (show (V 62 gw).toInt = ((Int32.toNatClampNeg (V 62 gw) : Nat) : Int) from by (first | exact om_dadc9969542e kt9 | omega)) (by omega)
      refine lv_if_eq (tgt := 40) hx hb dX0_isFor_33 (by decide) (fun c12 => ?_) (fun c12 => ?_)
      · skip
        have f13 : z11.toInt = 0 := b_eq rfl (by decide) c12
        refine lv_iconst (v := 0) hx hb dX0_isFor_40 (by decide) ?_
        exact W.zret (v := 0) hx hb hr rfl (fun t ht hW => ⟨⟨0, (), rfl, ⟨(by decide), (Or.inr ⟨rfl, fun h9 => absurd (h9.2.2.symm.trans (lb9.mp (by omega))) (by decide)⟩)⟩, by rw [ht]; exact hP, va_K.moved hW.alike hK, hD⟩, hS.F ht⟩) hS.2.2 dX0_isFor_41
      · skip
        have f14 : z11.toInt ≠ 0 := b_neq rfl (by decide) c12
        refine lv_iconst (v := 1) hx hb dX0_isFor_36 (by decide) ?_
        refine lv_goto (tgt := 41) hx hb dX0_isFor_37 (by decide) ?_
        exact W.zret (v := 1) hx hb hr rfl (fun t ht hW => ⟨⟨1, (), rfl, ⟨(by decide), (Or.inl ⟨rfl, by omega, by omega, by cases e9 : bt (V 50 (24 * b + Int32.toNatClampNeg p2)) (Int32.toNatClampNeg (V 62 gw)); exact absurd (lb9.mpr e9) (by omega); rfl⟩)⟩, by rw [ht]; exact hP, va_K.moved hW.alike hK, hD⟩, hS.F ht⟩) hS.2.2 dX0_isFor_41
abbrev r_x_wrapFrom9 : Room := { frames := 1, cells := 0, slots := 0, locals := 24 }
abbrev q_x_wrapFrom9 (D : va_G) (ks : KS) (ad : Nat → Nat) (kk : Nat → ClassId) (V : Vf) (L : Lf) (Z : XZ) (p0 : Int32) (p1 : Int32) (p2 : Int32) (p3 : Int32) (b : Nat) (A : Nat → Prop) : Array Value → State → Outcome → State → Prop := va_Qi (fun (r : Int32) (_ : Unit) => ((-1) ≤ r.toInt ∧ r.toInt ≤ 11) ∧ (Imp (0 ≤ r.toInt) (r.toInt < (V 41 b).toInt)) ∧ ((r.toInt = -1 ∧ ∀ i : Nat, p0.toInt.toNat ≤ i → (i : Int) < (V 41 b).toInt → ¬ FWo V b i p1.toInt (Int32.toNatClampNeg p2) p3.toInt) ∨ ((p0.toInt ≤ r.toInt ∧ r.toInt < (V 41 b).toInt) ∧ FWo V b r.toInt.toNat p1.toInt (Int32.toNatClampNeg p2) p3.toInt ∧ ∀ i : Nat, p0.toInt.toNat ≤ i → i < r.toInt.toNat → ¬ FWo V b i p1.toInt (Int32.toNatClampNeg p2) p3.toInt))) (fun _ t => gq D A (xw ad kk V L Z) (xty kk Z) t) A
set_option maxHeartbeats 4000000 in
set_option maxRecDepth 100000 in
theorem x_wrapFrom9 (l : Launch) (D : va_G) (ks : KS) (sz : Nat) (ad : Nat → Nat) (kk : Nat → ClassId) (V : Vf) (L : Lf) (Z : XZ) (p0 : Int32) (p1 : Int32) (p2 : Int32) (p3 : Int32) (b : Nat) (hMV : rgd bX V) (rg_p0 : 0 ≤ p0.toInt ∧ p0.toInt ≤ 12) (rg_p2 : 0 ≤ p2.toInt ∧ p2.toInt ≤ 23) (hb2 : b < 2) (wty : ∀ i : Nat, (i : Int) < (V 41 b).toInt → 0 ≤ (V 62 (12 * b + Int32.toNatClampNeg (V 47 (12 * b + i)))).toInt ∧ (V 62 (12 * b + Int32.toNatClampNeg (V 47 (12 * b + i)))).toInt < 24)  : Met l yX0_wrapFrom (Cond.code yX0_wrapFrom cX0_wrapFrom 6 (some .int) :: GW) r_x_wrapFrom9 (va_Pc [.ref (ad (38 + b)), .int p0, .int p1, .int p2, .int p3] (gp D ks (xw ad kk V L Z) (xty kk Z) sz)) (q_x_wrapFrom9 D ks ad kk V L Z p0 p1 p2 p3 b (va_A (xw ad kk V L Z) sz)) 0 0 (va_A (xw ad kk V L Z) sz) := by
  refine g_met (q_x_wrapFrom9 D ks ad kk V L Z p0 p1 p2 p3 b) (by decide) (Nat.le_of_ble_eq_true rfl) ?_
  intro p e s m below meth c A ls H locs hx hb hr hml hown hg hlocks hin hnw hgk hP hK hD hS hA hl
  have hown : s.vm.findClass RX0 = some m.cls := hown
  have hl : lv_has ls 6 [(0, .ref (ad (38 + b))), (1, .int p0), (2, .int p1), (3, .int p2), (4, .int p3)] := hl
  have hP : va_P D vwCl (xw ad kk V L Z) H := hP
  have hD : va_D A (xw ad kk V L Z) := hD
  have hK : va_K D vwCl (xty kk Z) s := hK
  refine lv_iload_n hx hb dX0_wrapFrom_0 rfl (lv_at hl 1 rfl) ?_
  refine lv_istore (lv' := [(5, .int p0), (0, .ref (ad (38 + b))), (1, .int p0), (2, .int p1), (3, .int p2), (4, .int p3)]) hx hb dX0_wrapFrom_1 hl (by decide) rfl (fun ls hl => ?_)
  have lp2 : ∀ (fulp2 : Nat) (y1 : Int32) (H : Heap) (locs : List Loc) (ls : Array Slot), 0 ≤ y1.toInt ∧ y1.toInt ≤ 12 → (∀ i : Nat, p0.toInt.toNat ≤ i → i < y1.toInt.toNat → ¬ FWo V b i p1.toInt (Int32.toNatClampNeg p2) p3.toInt) → p0.toInt ≤ y1.toInt → 12 - y1.toInt < (fulp2 : Int) → va_P D vwCl (xw ad kk V L Z) H → va_D A (xw ad kk V L Z) → va_S A s.heap H locs → lv_has ls 6 [(5, .int y1), (0, .ref (ad (38 + b))), (1, .int p0), (2, .int p1), (3, .int p2), (4, .int p3)] → W p l e r_x_wrapFrom9 s m ([.ref (ad (38 + b)), .int p0, .int p1, .int p2, .int p3] : List Value).toArray below meth c H locs 0 0 (MQ below (q_x_wrapFrom9 D ks ad kk V L Z p0 p1 p2 p3 b A) ([.ref (ad (38 + b)), .int p0, .int p1, .int p2, .int p3] : List Value).toArray s 0 0 A) (F0 m 3 ls []) := by
    intro fulp2
    induction fulp2 with
    | zero =>
      intro y1 H locs ls klp2_0 xlp2_0 xlp2_1 hn  hP hD hS hl
      exfalso; (first | exact om_b9de4c342026 klp2_0.2 hn | omega)
    | succ fulp2 ihlp2 =>
      intro y1 H locs ls klp2_0 xlp2_0 xlp2_1 hn  hP hD hS hl
      refine lv_iload hx hb dX0_wrapFrom_3 (lv_at hl 0 rfl) ?_
      refine lv_aload_n hx hb dX0_wrapFrom_5 rfl (lv_at hl 1 rfl) ?_
      refine va_get (D := D) (ci := 0) (v := .int (V 41 b)) (fs := (xfBook ad V b)) (C := RX0) (T := TX0) (N := 13) hx hb hg inX0 hown hK hP (38 + b) (xgBook hb2) rfl 11 (by decide) (hg _ w625) (fun _ h9 => h9) rfl dX0_wrapFrom_6 ?_
      have r3 : 0 ≤ ((V 41 b)).toInt ∧ ((V 41 b)).toInt ≤ 12 := hMV 41 b
      refine lv_icmp_ge (tgt := 44) hx hb dX0_wrapFrom_9 (by decide) (fun c4 => ?_) (fun c4 => ?_)
      · skip
        have f5 : ((V 41 b)).toInt ≤ y1.toInt := b_le rfl rfl c4
        refine lv_iconst (v := (-1)) hx hb dX0_wrapFrom_44 (by decide) ?_
        exact W.iret (v := (-1)) hx hb hr (fun t ht hW => ⟨⟨(-1), (), rfl, ⟨(by decide), (Imp.mk (fun hp => absurd hp (by decide))), (Or.inl ⟨rfl, fun i h1 h2 => xlp2_0 i h1 (by omega)⟩)⟩, by rw [ht]; exact hP, va_K.moved hW.alike hK, hD⟩, hS.F ht⟩) hS.2.2 dX0_wrapFrom_45
      · skip
        have f6 : y1.toInt < ((V 41 b)).toInt := b_nle rfl rfl c4
        have kk9 := i_clamp (x := y1) rfl (by (first | exact om_eafa9039069c klp2_0.1 | omega))
        have wt9 := wty (Int32.toNatClampNeg y1) (by omega)
        refine lv_aload_n hx hb dX0_wrapFrom_12 rfl (lv_at hl 1 rfl) ?_
        refine lv_aload_n hx hb dX0_wrapFrom_13 rfl (lv_at hl 1 rfl) ?_
        refine va_get (D := D) (ci := 0) (v := .ref (ad (66 + b))) (fs := (xfBook ad V b)) (C := RX0) (T := TX0) (N := 13) hx hb hg inX0 hown hK hP (38 + b) (xgBook hb2) rfl 8 (by decide) (hg _ w619) (fun _ h9 => h9) rfl dX0_wrapFrom_14 ?_
        refine lv_aload_n hx hb dX0_wrapFrom_17 rfl (lv_at hl 1 rfl) ?_
        refine va_get (D := D) (ci := 0) (v := .ref (ad (68 + b))) (fs := (xfBook ad V b)) (C := RX0) (T := TX0) (N := 13) hx hb hg inX0 hown hK hP (38 + b) (xgBook hb2) rfl 9 (by decide) (hg _ w621) (fun _ h9 => h9) rfl dX0_wrapFrom_18 ?_
        refine lv_iload hx hb dX0_wrapFrom_21 (lv_at hl 0 rfl) ?_
        have il7 : b < 2 := by first | exact om_f940a4667dd6 hb2 | first | omega | ((try (have i_wty := Imp.go wty (by omega))); omega)
        refine va_iald (D := D) (i := y1) hx hb hK hP (68 + b) (61 + b) (xgwrapOrder il7) (xtwrapOrder il7) (i_in (a := y1.toInt) rfl (by first | exact om_90c9ae59974b klp2_0.1 r3.2 f6 | first | omega | ((try (have i_wty := Imp.go wty (by omega))); omega))) dX0_wrapFrom_23 ?_
        have kc8 := i_clamp (x := y1) rfl (by first | exact om_eafa9039069c klp2_0.1 | first | omega | ((try (have i_wty := Imp.go wty (by omega))); omega))
        refine g_top (v := V 47 (12 * b + (Int32.toNatClampNeg y1))) (if_pos (by first | omega | ((try (have i_wty := Imp.go wty (by omega))); omega))) ?_
        have r9 : 0 ≤ ((V 47 (12 * b + (Int32.toNatClampNeg y1)))).toInt ∧ ((V 47 (12 * b + (Int32.toNatClampNeg y1)))).toInt ≤ 11 := hMV 47 (12 * b + (Int32.toNatClampNeg y1))
        have il10 : b < 2 := by first | exact om_f940a4667dd6 hb2 | first | omega | ((try (have i_wty := Imp.go wty (by omega))); omega)
        refine va_aldq (D := D) (i := (V 47 (12 * b + (Int32.toNatClampNeg y1)))) hx hb hK hP (66 + b) (59 + b) (xgwrapsA il10) (xtwrapsA il10) (i_in (a := ((V 47 (12 * b + (Int32.toNatClampNeg y1)))).toInt) rfl (by first | exact om_da83cce65d18 r9.1 r9.2 | first | omega | ((try (have i_wty := Imp.go wty (by omega))); omega))) dX0_wrapFrom_24 ?_
        have kc11 := i_clamp (x := (V 47 (12 * b + (Int32.toNatClampNeg y1)))) rfl (by first | exact om_eafa9039069c r9.1 | first | omega | ((try (have i_wty := Imp.go wty (by omega))); omega))
        refine g_topv (v := .ref (ad (312 + (12 * b + (Int32.toNatClampNeg (V 47 (12 * b + (Int32.toNatClampNeg y1)))))))) (congrArg va_rf (if_pos (by first | omega | ((try (have i_wty := Imp.go wty (by omega))); omega)))) ?_
        have il12 : (12 * b + (Int32.toNatClampNeg (V 47 (12 * b + (Int32.toNatClampNeg y1))))) < 24 := by first | exact om_a98cd8d2da4e hb2 r9.2 kc11 | first | omega | ((try (have i_wty := Imp.go wty (by omega))); omega)
        refine lv_iload_n hx hb dX0_wrapFrom_25 rfl (lv_at hl 3 rfl) ?_
        refine lv_iload_n hx hb dX0_wrapFrom_26 rfl (lv_at hl 4 rfl) ?_
        refine lv_iload hx hb dX0_wrapFrom_27 (lv_at hl 5 rfl) ?_
        refine gA_int (gA_runV (As := [.ref (ad (312 + (12 * b + (Int32.toNatClampNeg (V 47 (12 * b + (Int32.toNatClampNeg y1))))))), .int p1, .int p2, .int p3]) (rest := []) (ci := 0) (q0 := (38 + b)) hx hb hml hown hg hP hD hK hS hA hnw hgk (x_isFor9 l D ks H.size ad kk V L Z p1 p2 p3 (b) ((12 * b + (Int32.toNatClampNeg (V 47 (12 * b + (Int32.toNatClampNeg y1)))))) hMV (by first | exact om_d3435e1acec6 rg_p2.1 rg_p2.2 | first | omega | ((try (have i_wty := Imp.go wty (by omega))); omega)) (show b < 2 from by first | exact om_f940a4667dd6 hb2 | first | omega | ((try (have i_wty := Imp.go wty (by omega))); omega)) (show (12 * b + (Int32.toNatClampNeg (V 47 (12 * b + (Int32.toNatClampNeg y1))))) < 24 from by first | exact om_a98cd8d2da4e hb2 r9.2 kc11 | first | omega | ((try (have i_wty := Imp.go wty (by omega))); omega)) (show 0 ≤ (V 62 (12 * b + (Int32.toNatClampNeg (V 47 (12 * b + (Int32.toNatClampNeg y1)))))).toInt from by first | omega | ((try (have i_wty := Imp.go wty (by omega))); omega)) (show (V 62 (12 * b + (Int32.toNatClampNeg (V 47 (12 * b + (Int32.toNatClampNeg y1)))))).toInt < 24 from by first | omega | ((try (have i_wty := Imp.go wty (by omega))); omega))) w1396 w1398 w61 w167 w1399 rfl (xgBook hb2) hdV_yX0_isFor ⟨Nat.le_of_ble_eq_true rfl, Nat.le_of_ble_eq_true rfl⟩ rfl hl.1 rfl (Nat.le_of_ble_eq_true rfl) dX0_wrapFrom_29 ⟨Nat.le_of_ble_eq_true rfl, Nat.le_of_ble_eq_true rfl⟩) hP hD hK hS hA (fun z13 u14 H locs w15 hP hD hK hS => ?_)
        obtain ⟨rgz13, t16⟩ := w15
        have rgz13 : 0 ≤ z13.toInt ∧ z13.toInt ≤ 1 := rgz13
        have t16 : (z13.toInt = 1 ∧ FW9 V b (12 * b + (Int32.toNatClampNeg (V 47 (12 * b + (Int32.toNatClampNeg y1))))) p1.toInt (Int32.toNatClampNeg p2) p3.toInt) ∨ (z13.toInt = 0 ∧ ¬ FW9 V b (12 * b + (Int32.toNatClampNeg (V 47 (12 * b + (Int32.toNatClampNeg y1))))) p1.toInt (Int32.toNatClampNeg p2) p3.toInt) := t16
        refine lv_if_eq (tgt := 38) hx hb dX0_wrapFrom_32 (by decide) (fun c17 => ?_) (fun c17 => ?_)
        · skip
          have f18 : z13.toInt = 0 := b_eq rfl (by decide) c17
          obtain ⟨z19, ez19⟩ : ∃ y : Int32, y = y1 + 1 := ⟨_, rfl⟩
          have hz19 : z19.toInt = y1.toInt + 1 := i_add ez19 rfl (by decide) (by (first | exact om_7992c83b4b8b klp2_0.1 r3.2 f6 | omega))
          refine lv_iinc (v := z19) (lv' := [(5, .int z19), (0, .ref (ad (38 + b))), (1, .int p0), (2, .int p1), (3, .int p2), (4, .int p3)]) hx hb dX0_wrapFrom_38 hl (k := 0) rfl (by rw [ez19]; rfl) (by decide) rfl (fun ls hl => ?_)
          refine lv_goto (tgt := 3) hx hb dX0_wrapFrom_41 (by decide) ?_
          exact ihlp2 z19 H locs ls (by first | exact om_56249b68a5fe klp2_0.1 r3.2 f6 hz19 | first | omega | ((try (have i_wty := Imp.go wty (by omega))); omega)) (fun i h1 h2 => by rcases Decidable.em (i = (Int32.toNatClampNeg y1)) with h9 | h9; (rw [h9]; exact ((t16.resolve_left (fun h8 => by have h7 := h8.1; omega)).2)); exact xlp2_0 i h1 (by omega)) (show p0.toInt ≤ z19.toInt from by first | exact om_f75a30b4c815 xlp2_1 hz19 | first | omega | ((try (have i_wty := Imp.go wty (by omega))); omega)) (by first | exact om_95514e7aa9e9 hn hz19 | first | omega | ((try (have i_wty := Imp.go wty (by omega))); omega)) hP hD hS (lv_sub hl [0, 1, 2, 3, 4, 5] rfl)
        · skip
          have f20 : z13.toInt ≠ 0 := b_neq rfl (by decide) c17
          refine lv_iload hx hb dX0_wrapFrom_35 (lv_at hl 0 rfl) ?_
          exact W.iret (v := y1) hx hb hr (fun t ht hW => ⟨⟨y1, (), rfl, ⟨(show (-1) ≤ y1.toInt ∧ y1.toInt ≤ 11 from by first | exact om_d1bc3f41d2f0 klp2_0.1 r3.2 f6 | first | omega | ((try (have i_wty := Imp.go wty (by omega))); omega)), (Imp.mk (fun hp => have hp : 0 ≤ y1.toInt := hp; (show y1.toInt < (V 41 b).toInt from by first | exact om_0e9116797efb f6 | first | omega | ((try (have i_wty := Imp.go wty (by omega))); omega)))), (Or.inr ⟨⟨by omega, by omega⟩, ((t16.resolve_right (fun h8 => by have h7 := h8.1; omega)).2), fun i h1 h2 => xlp2_0 i h1 h2⟩)⟩, by rw [ht]; exact hP, va_K.moved hW.alike hK, hD⟩, hS.F ht⟩) hS.2.2 dX0_wrapFrom_37
  exact lp2 ((12 - p0.toInt + 1 : Int).toNat) p0 H locs ls (by first | exact om_8dd06492493b rg_p0.1 rg_p0.2 | first | omega | ((try (have i_wty := Imp.go wty (by omega))); omega)) (fun i h1 h2 => by exfalso; omega) (show p0.toInt ≤ p0.toInt from by first | exact om_5977f3d8a10f | first | omega | ((try (have i_wty := Imp.go wty (by omega))); omega)) (by first | exact om_10cc180fa1f4 | first | omega | ((try (have i_wty := Imp.go wty (by omega))); omega)) hP hD hS (lv_sub hl [0, 1, 2, 3, 4, 5] rfl)
abbrev r_x_wrapBackFrom9 : Room := { frames := 1, cells := 0, slots := 0, locals := 24 }
abbrev q_x_wrapBackFrom9 (D : va_G) (ks : KS) (ad : Nat → Nat) (kk : Nat → ClassId) (V : Vf) (L : Lf) (Z : XZ) (p0 : Int32) (p1 : Int32) (p2 : Int32) (p3 : Int32) (b : Nat) (A : Nat → Prop) : Array Value → State → Outcome → State → Prop := va_Qi (fun (r : Int32) (_ : Unit) => ((-1) ≤ r.toInt ∧ r.toInt ≤ 11) ∧ (Imp (0 ≤ r.toInt) (r.toInt < (V 41 b).toInt)) ∧ (((r.toInt = -1 ∧ p0.toInt < (V 41 b).toInt) ∧ ∀ i : Nat, (i : Int) ≤ p0.toInt → ¬ FWo V b i p1.toInt (Int32.toNatClampNeg p2) p3.toInt) ∨ ((0 ≤ r.toInt ∧ r.toInt ≤ p0.toInt ∧ p0.toInt < (V 41 b).toInt) ∧ FWo V b r.toInt.toNat p1.toInt (Int32.toNatClampNeg p2) p3.toInt ∧ ∀ i : Nat, r.toInt < (i : Int) → (i : Int) ≤ p0.toInt → ¬ FWo V b i p1.toInt (Int32.toNatClampNeg p2) p3.toInt))) (fun _ t => gq D A (xw ad kk V L Z) (xty kk Z) t) A
set_option maxHeartbeats 4000000 in
set_option maxRecDepth 100000 in
theorem x_wrapBackFrom9 (l : Launch) (D : va_G) (ks : KS) (sz : Nat) (ad : Nat → Nat) (kk : Nat → ClassId) (V : Vf) (L : Lf) (Z : XZ) (p0 : Int32) (p1 : Int32) (p2 : Int32) (p3 : Int32) (b : Nat) (hMV : rgd bX V) (rg_p0 : (-1) ≤ p0.toInt ∧ p0.toInt ≤ 11) (rg_p2 : 0 ≤ p2.toInt ∧ p2.toInt ≤ 23) (hb2 : b < 2) (wbf : p0.toInt < (V 41 b).toInt) (wty : ∀ i : Nat, (i : Int) < (V 41 b).toInt → 0 ≤ (V 62 (12 * b + Int32.toNatClampNeg (V 47 (12 * b + i)))).toInt ∧ (V 62 (12 * b + Int32.toNatClampNeg (V 47 (12 * b + i)))).toInt < 24)  : Met l yX0_wrapBackFrom (Cond.code yX0_wrapBackFrom cX0_wrapBackFrom 6 (some .int) :: GW) r_x_wrapBackFrom9 (va_Pc [.ref (ad (38 + b)), .int p0, .int p1, .int p2, .int p3] (gp D ks (xw ad kk V L Z) (xty kk Z) sz)) (q_x_wrapBackFrom9 D ks ad kk V L Z p0 p1 p2 p3 b (va_A (xw ad kk V L Z) sz)) 0 0 (va_A (xw ad kk V L Z) sz) := by
  refine g_met (q_x_wrapBackFrom9 D ks ad kk V L Z p0 p1 p2 p3 b) (by decide) (Nat.le_of_ble_eq_true rfl) ?_
  intro p e s m below meth c A ls H locs hx hb hr hml hown hg hlocks hin hnw hgk hP hK hD hS hA hl
  have hown : s.vm.findClass RX0 = some m.cls := hown
  have hl : lv_has ls 6 [(0, .ref (ad (38 + b))), (1, .int p0), (2, .int p1), (3, .int p2), (4, .int p3)] := hl
  have hP : va_P D vwCl (xw ad kk V L Z) H := hP
  have hD : va_D A (xw ad kk V L Z) := hD
  have hK : va_K D vwCl (xty kk Z) s := hK
  have r1 : 0 ≤ ((V 41 b)).toInt ∧ ((V 41 b)).toInt ≤ 12 := hMV 41 b
  refine lv_iload_n hx hb dX0_wrapBackFrom_0 rfl (lv_at hl 1 rfl) ?_
  refine lv_istore (lv' := [(5, .int p0), (0, .ref (ad (38 + b))), (1, .int p0), (2, .int p1), (3, .int p2), (4, .int p3)]) hx hb dX0_wrapBackFrom_1 hl (by decide) rfl (fun ls hl => ?_)
  have lp3 : ∀ (fulp3 : Nat) (y2 : Int32) (H : Heap) (locs : List Loc) (ls : Array Slot), (-1) ≤ y2.toInt ∧ y2.toInt ≤ 11 → (∀ i : Nat, y2.toInt < (i : Int) → (i : Int) ≤ p0.toInt → ¬ FWo V b i p1.toInt (Int32.toNatClampNeg p2) p3.toInt) → y2.toInt < (V 41 b).toInt → y2.toInt ≤ p0.toInt → y2.toInt + 1 < (fulp3 : Int) → va_P D vwCl (xw ad kk V L Z) H → va_D A (xw ad kk V L Z) → va_S A s.heap H locs → lv_has ls 6 [(5, .int y2), (0, .ref (ad (38 + b))), (1, .int p0), (2, .int p1), (3, .int p2), (4, .int p3)] → W p l e r_x_wrapBackFrom9 s m ([.ref (ad (38 + b)), .int p0, .int p1, .int p2, .int p3] : List Value).toArray below meth c H locs 0 0 (MQ below (q_x_wrapBackFrom9 D ks ad kk V L Z p0 p1 p2 p3 b A) ([.ref (ad (38 + b)), .int p0, .int p1, .int p2, .int p3] : List Value).toArray s 0 0 A) (F0 m 3 ls []) := by
    intro fulp3
    induction fulp3 with
    | zero =>
      intro y2 H locs ls klp3_0 xlp3_0 xlp3_1 xlp3_2 hn  hP hD hS hl
      exfalso; (first | exact om_f8ddf9becbdf klp3_0.1 hn | omega)
    | succ fulp3 ihlp3 =>
      intro y2 H locs ls klp3_0 xlp3_0 xlp3_1 xlp3_2 hn  hP hD hS hl
      refine lv_iload hx hb dX0_wrapBackFrom_3 (lv_at hl 0 rfl) ?_
      refine lv_if_lt (tgt := 40) hx hb dX0_wrapBackFrom_5 (by decide) (fun c4 => ?_) (fun c4 => ?_)
      · skip
        have f5 : y2.toInt < 0 := b_lt rfl (by decide) c4
        refine lv_iconst (v := (-1)) hx hb dX0_wrapBackFrom_40 (by decide) ?_
        exact W.iret (v := (-1)) hx hb hr (fun t ht hW => ⟨⟨(-1), (), rfl, ⟨(by decide), (Imp.mk (fun hp => absurd hp (by decide))), (Or.inl ⟨⟨rfl, wbf⟩, fun i h2 => xlp3_0 i (by omega) h2⟩)⟩, by rw [ht]; exact hP, va_K.moved hW.alike hK, hD⟩, hS.F ht⟩) hS.2.2 dX0_wrapBackFrom_41
      · skip
        have f6 : 0 ≤ y2.toInt := b_nlt rfl (by decide) c4
        have kk9 := i_clamp (x := y2) rfl (by (first | exact om_eafa9039069c f6 | omega))
        have wt9 := wty (Int32.toNatClampNeg y2) (by omega)
        refine lv_aload_n hx hb dX0_wrapBackFrom_8 rfl (lv_at hl 1 rfl) ?_
        refine lv_aload_n hx hb dX0_wrapBackFrom_9 rfl (lv_at hl 1 rfl) ?_
        refine va_get (D := D) (ci := 0) (v := .ref (ad (66 + b))) (fs := (xfBook ad V b)) (C := RX0) (T := TX0) (N := 13) hx hb hg inX0 hown hK hP (38 + b) (xgBook hb2) rfl 8 (by decide) (hg _ w619) (fun _ h9 => h9) rfl dX0_wrapBackFrom_10 ?_
        refine lv_aload_n hx hb dX0_wrapBackFrom_13 rfl (lv_at hl 1 rfl) ?_
        refine va_get (D := D) (ci := 0) (v := .ref (ad (68 + b))) (fs := (xfBook ad V b)) (C := RX0) (T := TX0) (N := 13) hx hb hg inX0 hown hK hP (38 + b) (xgBook hb2) rfl 9 (by decide) (hg _ w621) (fun _ h9 => h9) rfl dX0_wrapBackFrom_14 ?_
        refine lv_iload hx hb dX0_wrapBackFrom_17 (lv_at hl 0 rfl) ?_
        have il7 : b < 2 := by first | exact om_f940a4667dd6 hb2 | first | omega | ((try (have i_wty := Imp.go wty (by omega))); omega)
        refine va_iald (D := D) (i := y2) hx hb hK hP (68 + b) (61 + b) (xgwrapOrder il7) (xtwrapOrder il7) (i_in (a := y2.toInt) rfl (by first | exact om_a01a769b2043 klp3_0.2 f6 | first | omega | ((try (have i_wty := Imp.go wty (by omega))); omega))) dX0_wrapBackFrom_19 ?_
        have kc8 := i_clamp (x := y2) rfl (by first | exact om_eafa9039069c f6 | first | omega | ((try (have i_wty := Imp.go wty (by omega))); omega))
        refine g_top (v := V 47 (12 * b + (Int32.toNatClampNeg y2))) (if_pos (by first | omega | ((try (have i_wty := Imp.go wty (by omega))); omega))) ?_
        have r9 : 0 ≤ ((V 47 (12 * b + (Int32.toNatClampNeg y2)))).toInt ∧ ((V 47 (12 * b + (Int32.toNatClampNeg y2)))).toInt ≤ 11 := hMV 47 (12 * b + (Int32.toNatClampNeg y2))
        have il10 : b < 2 := by first | exact om_f940a4667dd6 hb2 | first | omega | ((try (have i_wty := Imp.go wty (by omega))); omega)
        refine va_aldq (D := D) (i := (V 47 (12 * b + (Int32.toNatClampNeg y2)))) hx hb hK hP (66 + b) (59 + b) (xgwrapsA il10) (xtwrapsA il10) (i_in (a := ((V 47 (12 * b + (Int32.toNatClampNeg y2)))).toInt) rfl (by first | exact om_da83cce65d18 r9.1 r9.2 | first | omega | ((try (have i_wty := Imp.go wty (by omega))); omega))) dX0_wrapBackFrom_20 ?_
        have kc11 := i_clamp (x := (V 47 (12 * b + (Int32.toNatClampNeg y2)))) rfl (by first | exact om_eafa9039069c r9.1 | first | omega | ((try (have i_wty := Imp.go wty (by omega))); omega))
        refine g_topv (v := .ref (ad (312 + (12 * b + (Int32.toNatClampNeg (V 47 (12 * b + (Int32.toNatClampNeg y2)))))))) (congrArg va_rf (if_pos (by first | omega | ((try (have i_wty := Imp.go wty (by omega))); omega)))) ?_
        have il12 : (12 * b + (Int32.toNatClampNeg (V 47 (12 * b + (Int32.toNatClampNeg y2))))) < 24 := by first | exact om_a98cd8d2da4e hb2 r9.2 kc11 | first | omega | ((try (have i_wty := Imp.go wty (by omega))); omega)
        refine lv_iload_n hx hb dX0_wrapBackFrom_21 rfl (lv_at hl 3 rfl) ?_
        refine lv_iload_n hx hb dX0_wrapBackFrom_22 rfl (lv_at hl 4 rfl) ?_
        refine lv_iload hx hb dX0_wrapBackFrom_23 (lv_at hl 5 rfl) ?_
        refine gA_int (gA_runV (As := [.ref (ad (312 + (12 * b + (Int32.toNatClampNeg (V 47 (12 * b + (Int32.toNatClampNeg y2))))))), .int p1, .int p2, .int p3]) (rest := []) (ci := 0) (q0 := (38 + b)) hx hb hml hown hg hP hD hK hS hA hnw hgk (x_isFor9 l D ks H.size ad kk V L Z p1 p2 p3 (b) ((12 * b + (Int32.toNatClampNeg (V 47 (12 * b + (Int32.toNatClampNeg y2)))))) hMV (by first | exact om_d3435e1acec6 rg_p2.1 rg_p2.2 | first | omega | ((try (have i_wty := Imp.go wty (by omega))); omega)) (show b < 2 from by first | exact om_f940a4667dd6 hb2 | first | omega | ((try (have i_wty := Imp.go wty (by omega))); omega)) (show (12 * b + (Int32.toNatClampNeg (V 47 (12 * b + (Int32.toNatClampNeg y2))))) < 24 from by first | exact om_a98cd8d2da4e hb2 r9.2 kc11 | first | omega | ((try (have i_wty := Imp.go wty (by omega))); omega)) (show 0 ≤ (V 62 (12 * b + (Int32.toNatClampNeg (V 47 (12 * b + (Int32.toNatClampNeg y2)))))).toInt from by first | omega | ((try (have i_wty := Imp.go wty (by omega))); omega)) (show (V 62 (12 * b + (Int32.toNatClampNeg (V 47 (12 * b + (Int32.toNatClampNeg y2)))))).toInt < 24 from by first | omega | ((try (have i_wty := Imp.go wty (by omega))); omega))) w1396 w1398 w61 w167 w1399 rfl (xgBook hb2) hdV_yX0_isFor ⟨Nat.le_of_ble_eq_true rfl, Nat.le_of_ble_eq_true rfl⟩ rfl hl.1 rfl (Nat.le_of_ble_eq_true rfl) dX0_wrapBackFrom_25 ⟨Nat.le_of_ble_eq_true rfl, Nat.le_of_ble_eq_true rfl⟩) hP hD hK hS hA (fun z13 u14 H locs w15 hP hD hK hS => ?_)
        obtain ⟨rgz13, t16⟩ := w15
        have rgz13 : 0 ≤ z13.toInt ∧ z13.toInt ≤ 1 := rgz13
        have t16 : (z13.toInt = 1 ∧ FW9 V b (12 * b + (Int32.toNatClampNeg (V 47 (12 * b + (Int32.toNatClampNeg y2))))) p1.toInt (Int32.toNatClampNeg p2) p3.toInt) ∨ (z13.toInt = 0 ∧ ¬ FW9 V b (12 * b + (Int32.toNatClampNeg (V 47 (12 * b + (Int32.toNatClampNeg y2))))) p1.toInt (Int32.toNatClampNeg p2) p3.toInt) := t16
        refine lv_if_eq (tgt := 34) hx hb dX0_wrapBackFrom_28 (by decide) (fun c17 => ?_) (fun c17 => ?_)
        · skip
          have f18 : z13.toInt = 0 := b_eq rfl (by decide) c17
          obtain ⟨z19, ez19⟩ : ∃ y : Int32, y = y2 + (-1) := ⟨_, rfl⟩
          have hz19 : z19.toInt = y2.toInt + (-1) := i_add ez19 rfl (by decide) (by (first | exact om_3da4b0e1dba1 klp3_0.2 f6 | omega))
          refine lv_iinc (v := z19) (lv' := [(5, .int z19), (0, .ref (ad (38 + b))), (1, .int p0), (2, .int p1), (3, .int p2), (4, .int p3)]) hx hb dX0_wrapBackFrom_34 hl (k := 0) rfl (by rw [ez19]; rfl) (by decide) rfl (fun ls hl => ?_)
          refine lv_goto (tgt := 3) hx hb dX0_wrapBackFrom_37 (by decide) ?_
          exact ihlp3 z19 H locs ls (by first | exact om_c29ac0d04c46 klp3_0.2 f6 hz19 | first | omega | ((try (have i_wty := Imp.go wty (by omega))); omega)) (fun i h1 h2 => by rcases Decidable.em (i = (Int32.toNatClampNeg y2)) with h9 | h9; (rw [h9]; exact ((t16.resolve_left (fun h8 => by have h7 := h8.1; omega)).2)); exact xlp3_0 i (by omega) h2) (show z19.toInt < (V 41 b).toInt from by first | exact om_745f16607728 wbf xlp3_2 hz19 | first | omega | ((try (have i_wty := Imp.go wty (by omega))); omega)) (show z19.toInt ≤ p0.toInt from by first | exact om_e74f64d2f8f5 xlp3_2 hz19 | first | omega | ((try (have i_wty := Imp.go wty (by omega))); omega)) (by first | exact om_2e0ce331b730 hn hz19 | first | omega | ((try (have i_wty := Imp.go wty (by omega))); omega)) hP hD hS (lv_sub hl [0, 1, 2, 3, 4, 5] rfl)
        · skip
          have f20 : z13.toInt ≠ 0 := b_neq rfl (by decide) c17
          refine lv_iload hx hb dX0_wrapBackFrom_31 (lv_at hl 0 rfl) ?_
          exact W.iret (v := y2) hx hb hr (fun t ht hW => ⟨⟨y2, (), rfl, ⟨(show (-1) ≤ y2.toInt ∧ y2.toInt ≤ 11 from by first | exact om_451ae73b5ddd klp3_0.2 f6 | first | omega | ((try (have i_wty := Imp.go wty (by omega))); omega)), (Imp.mk (fun hp => have hp : 0 ≤ y2.toInt := hp; (show y2.toInt < (V 41 b).toInt from by first | exact om_a3653ed81a9c wbf xlp3_2 | first | omega | ((try (have i_wty := Imp.go wty (by omega))); omega)))), (Or.inr ⟨⟨by omega, by omega, wbf⟩, ((t16.resolve_right (fun h8 => by have h7 := h8.1; omega)).2), fun i h1 h2 => xlp3_0 i h1 h2⟩)⟩, by rw [ht]; exact hP, va_K.moved hW.alike hK, hD⟩, hS.F ht⟩) hS.2.2 dX0_wrapBackFrom_33
  exact lp3 ((p0.toInt + 1 + 1 : Int).toNat) p0 H locs ls (by first | exact om_ae154f491ccb rg_p0.1 rg_p0.2 | first | omega | ((try (have i_wty := Imp.go wty (by omega))); omega)) (fun i h1 h2 => by exfalso; omega) (show p0.toInt < (V 41 b).toInt from by first | exact om_0e9116797efb wbf | first | omega | ((try (have i_wty := Imp.go wty (by omega))); omega)) (show p0.toInt ≤ p0.toInt from by first | exact om_5977f3d8a10f | first | omega | ((try (have i_wty := Imp.go wty (by omega))); omega)) (by first | exact om_3b297d515ebe | first | omega | ((try (have i_wty := Imp.go wty (by omega))); omega)) hP hD hS (lv_sub hl [0, 1, 2, 3, 4, 5] rfl)
