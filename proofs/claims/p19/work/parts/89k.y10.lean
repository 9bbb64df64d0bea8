/-! .. and as the class holds it -/
def enO (o : Nat) : Int := ([0, 1, 10, 2, 3, 7, 5, 6, 8, 9, 12, 11, 13, 14, 15, 4] : List Int).getD o 0
def enA (s : St) (i : Nat) : Int := if nL s (2000 + 3 * i) = 2 then ((s.2.1 (2001 + 3 * i)).headD 0).toInt32.toInt else if nL s (2000 + 3 * i) = 12 ∨ nL s (2000 + 3 * i) = 13 then ((psz (opf s) (nL s (2001 + 3 * i)) : Nat) : Int) else if nL s (2000 + 3 * i) = 14 then 20 * ((nL s (2001 + 3 * i) : Nat) : Int) + ((nL s (2002 + 3 * i) : Nat) : Int) else ((nL s (2001 + 3 * i) : Nat) : Int)
/-- one order -/
def CDr (V : Vf) (b : Nat) (s : St) (i : Nat) : Prop := (V 48 (8200 * b + psz (opf s) i)).toInt = enO (nL s (2000 + 3 * i)) ∧ (szO (nL s (2000 + 3 * i)) = 2 → (V 48 (8200 * b + psz (opf s) i + 1)).toInt = enA s i) ∧ (nL s (2000 + 3 * i) = 12 ∨ nL s (2000 + 3 * i) = 13 → nL s (2001 + 3 * i) ≤ cl s)
def CDc (V : Vf) (b : Nat) (s : St) : Prop := (V 42 b).toInt = ((wl s : Nat) : Int) ∧ ∀ i, i < cl s → CDr V b s i
theorem CDc.ag {fs : List (Nat × Nat)} {cs : List Nat} {V W : Vf} {b : Nat} {s : St} (h : CDc V b s) (a : agr fs cs V W) (q1 : ∀ k, wrL fs cs 42 k = false) (q2 : ∀ k, wrL fs cs 48 k = false) : CDc W b s := by
  refine ⟨by rw [a _ _ (q1 b)]; exact h.1, fun i hi => ?_⟩
  have z := h.2 i hi
  unfold CDr at z ⊢
  rw [a _ _ (q2 _), a _ _ (q2 _)]
  exact z
theorem CDc.mv {V : Vf} {b : Nat} {s s' : St} (h : CDc V b s) (e : ∀ j, j = 5 ∨ 2000 ≤ j → s'.2.1 j = s.2.1 j) : CDc V b s' := by
  have en : ∀ j, j = 5 ∨ 2000 ≤ j → nL s' j = nL s j := fun j hj => congrArg List.length (e j hj)
  have ec : cl s' = cl s := en 5 (by decide)
  have eo : opf s' = opf s := funext fun i => en _ (by omega)
  refine ⟨by unfold wl; rw [eo, ec]; exact h.1, fun i hi => ?_⟩
  rw [ec] at hi
  have z := h.2 i hi
  unfold CDr enA at z ⊢
  rw [eo, ec, e (2001 + 3 * i) (by omega), en (2000 + 3 * i) (by omega), en (2001 + 3 * i) (by omega), en (2002 + 3 * i) (by omega)]
  exact z
/-- what was there stays as it is when one order comes behind it -/
theorem CDc.old {V W : Vf} {b : Nat} {s : St} {o y i : Nat} {x : List Int64} (h : CDc V b s) (hk : ∀ k : Nat, (k : Int) < (V 42 b).toInt → W 48 (8200 * b + k) = V 48 (8200 * b + k)) (hi : i < cl s) : CDr W b (emL s o x y) i := by
  have z := h.2 i hi
  have c := h.1
  have p1 : psz (opf s) i + szO (opf s i) ≤ wl s := psz_le hi
  have sb := szO_b (opf s i)
  unfold CDr enA at z ⊢
  rw [psz_em s o x y (Nat.le_of_lt hi), emS_o s o x y (k := 2001 + 3 * i) (by omega) (Or.inl (by omega)), nL_em s o x y (k := 2000 + 3 * i) (by omega) (Or.inl (by omega)), nL_em s o x y (k := 2001 + 3 * i) (by omega) (Or.inl (by omega)), nL_em s o x y (k := 2002 + 3 * i) (by omega) (Or.inl (by omega)), cl_em]
  refine ⟨by rw [hk _ (by omega)]; exact z.1, fun q => ?_, fun q => by have := z.2.2 q; omega⟩
  have q' : szO (opf s i) = 2 := q
  rw [show 8200 * b + psz (opf s) i + 1 = 8200 * b + (psz (opf s) i + 1) from by omega, hk _ (by omega), show 8200 * b + (psz (opf s) i + 1) = 8200 * b + psz (opf s) i + 1 from by omega, z.2.1 q]
  by_cases j2 : nL s (2000 + 3 * i) = 2
  · rw [if_pos j2, if_pos j2]
  · rw [if_neg j2, if_neg j2]
    by_cases j : nL s (2000 + 3 * i) = 12 ∨ nL s (2000 + 3 * i) = 13
    · rw [if_pos j, if_pos j, psz_em s o x y (z.2.2 j)]
    · rw [if_neg j, if_neg j]
theorem CDc.e1 {V W : Vf} {b : Nat} {s : St} {w : Int32} {o : Nat} {x : List Int64} {y : Nat} (h : CDc V b s) (e : emX V W b w) (hr : (V 42 b).toInt < 8200) (ho : szO o = 1) (hw : w.toInt = enO o) : CDc W b (emL s o x y) := by
  rcases e with e | e
  · have c := h.1
    have ew : (V 42 b).toInt.toNat = wl s := by omega
    refine ⟨by rw [wl_em, ho]; omega, fun i hi => ?_⟩
    rw [cl_em] at hi
    by_cases q : i = cl s
    · rw [q]
      unfold CDr
      rw [op_em, psz_em s o x y (Nat.le_refl _)]
      refine ⟨?_, fun q2 => by omega, fun q2 => ?_⟩
      · have e3 := e.2.2.1
        rw [ew] at e3
        show (W 48 (8200 * b + wl s)).toInt = _
        rw [e3, hw]
      · exfalso
        rcases q2 with q2 | q2 <;> (rw [q2] at ho; exact absurd ho (by decide))
    · exact h.old (fun k hk => e.2.2.2 k (by omega)) (by omega)
  · omega
theorem CDc.e2 {V U W : Vf} {b : Nat} {s : St} {w a : Int32} {o : Nat} {x : List Int64} {y : Nat} (h : CDc V b s) (e : emX V U b w) (f : emX U W b a) (hr : (V 42 b).toInt + 1 < 8200) (ho : szO o = 2) (hw : w.toInt = enO o) (ha : a.toInt = if o = 2 then (x.headD 0).toInt32.toInt else if o = 14 then 20 * (x.length : Int) + (y : Int) else (x.length : Int)) (hx : o = 12 ∨ o = 13 → x = []) : CDc W b (emL s o x y) := by
  rcases e with e | e
  · rcases f with f | f
    · have c := h.1
      have ew : (V 42 b).toInt.toNat = wl s := by omega
      have eu : (U 42 b).toInt.toNat = wl s + 1 := by omega
      refine ⟨by rw [wl_em, ho]; omega, fun i hi => ?_⟩
      rw [cl_em] at hi
      by_cases q : i = cl s
      · rw [q]
        unfold CDr enA
        rw [xl_em, op_em, x_em, y_em, psz_em s o x y (Nat.le_refl _), cl_em]
        refine ⟨?_, fun _ => ?_, fun q2 => by rw [hx q2]; exact Nat.zero_le _⟩
        · have e3 := e.2.2.1
          rw [ew] at e3
          show (W 48 (8200 * b + wl s)).toInt = _
          rw [f.2.2.2 (wl s) (by omega), e3, hw]
        · have f3 := f.2.2.1
          rw [eu] at f3
          show (W 48 (8200 * b + wl s + 1)).toInt = _
          rw [show 8200 * b + wl s + 1 = 8200 * b + (wl s + 1) from by omega, f3, ha]
          by_cases j2 : o = 2
          · rw [if_pos j2, if_pos j2]
          · rw [if_neg j2, if_neg j2]
            by_cases j : o = 12 ∨ o = 13
            · rw [if_pos j, hx j, if_neg (by omega)]
              rfl
            · rw [if_neg j]
      · exact h.old (fun k hk => (f.2.2.2 k (by omega)).trans (e.2.2.2 k (by omega))) (by omega)
    · omega
  · omega
theorem CDc.e2a {V U W : Vf} {b : Nat} {s : St} {w a : Int32} {o x y : Nat} (h : CDc V b s) (e : emX V U b w) (f : emX U W b a) (hr : (V 42 b).toInt + 1 < 8200) (ho : szO o = 2) (hw : w.toInt = enO o) (o2 : ¬ o = 2) (o14 : ¬ o = 14) (ha : a.toInt = (x : Int)) (hx : o = 12 ∨ o = 13 → x = 0) : CDc W b (emS s o x y) :=
  h.e2 e f hr ho hw (by rw [if_neg o2, if_neg o14, List.length_replicate]; exact ha) (fun q => by rw [hx q]; rfl)
theorem CDc.e2o {V U W : Vf} {b : Nat} {s : St} {w a : Int32} {x y : Nat} (h : CDc V b s) (e : emX V U b w) (f : emX U W b a) (hr : (V 42 b).toInt + 1 < 8200) (hw : w.toInt = enO 14) (ha : a.toInt = 20 * (x : Int) + (y : Int)) : CDc W b (emS s 14 x y) :=
  h.e2 e f hr (by decide) hw (by rw [if_neg (by decide), if_pos rfl, List.length_replicate]; exact ha) (fun q => by omega)
theorem CDc.e2w {V U W : Vf} {b : Nat} {s : St} {w a : Int32} {v : Int64} (h : CDc V b s) (e : emX V U b w) (f : emX U W b a) (hr : (V 42 b).toInt + 1 < 8200) (hw : w.toInt = enO 2) (ha : a = v.toInt32) : CDc W b (emL s 2 [v] 0) :=
  h.e2 e f hr (by decide) hw (by rw [if_pos rfl, ha]; rfl) (fun q => by omega)
/-- a jump's target is set: where the code ends -/
theorem CDc.pt {V W : Vf} {b i : Nat} {s : St} {z x : Int32} (h : CDc V b s) (t : ptX V W b z x) (hi : i < cl s) (ho : nL s (2000 + 3 * i) = 12 ∨ nL s (2000 + 3 * i) = 13) (hz : z.toInt = ((psz (opf s) i : Nat) : Int) + 1) (hx : x.toInt = ((wl s : Nat) : Int)) (hr : (V 42 b).toInt ≤ 8200) : CDc W b (ptS s i (cl s)) := by
  have c := h.1
  have so : szO (opf s i) = 2 := by
    show szO (nL s (2000 + 3 * i)) = 2
    rcases ho with q | q <;> rw [q] <;> rfl
  have p1 : psz (opf s) i + szO (opf s i) ≤ wl s := psz_le hi
  rcases t with t | t
  · omega
  · have k := i_clamp (x := z) rfl t.1
    have e := t.2.2
    rw [show Int32.toNatClampNeg z = psz (opf s) i + 1 from by omega] at e
    have e42 : W 42 b = V 42 b := up2_o e (by decide)
    have eo : opf (ptS s i (cl s)) = opf s := opf_pt s i (cl s)
    refine ⟨by rw [e42, wl_pt]; exact c, fun j hj => ?_⟩
    rw [cl_pt] at hj
    have y := h.2 j hj
    have n0 : nL (ptS s i (cl s)) (2000 + 3 * j) = nL s (2000 + 3 * j) := nL_o s _ (by omega)
    have n2 : nL (ptS s i (cl s)) (2002 + 3 * j) = nL s (2002 + 3 * j) := nL_o s _ (by omega)
    unfold CDr enA at y ⊢
    have hn2 : nL s (2000 + 3 * i) ≠ 2 := by omega
    rw [eo, n0, n2, cl_pt]
    by_cases q : j = i
    · subst q
      have n1 : nL (ptS s j (cl s)) (2001 + 3 * j) = cl s := nL_s s _ _
      rw [n1, if_neg hn2]
      refine ⟨by rw [up2_k e (by omega)]; exact y.1, fun _ => ?_, fun _ => Nat.le_refl _⟩
      rw [if_pos ho, show 8200 * b + psz (opf s) j + 1 = 8200 * b + (psz (opf s) j + 1) from by omega, up2_s e, hx]
      rfl
    · have n1 : nL (ptS s i (cl s)) (2001 + 3 * j) = nL s (2001 + 3 * j) := nL_o s _ (by omega)
      have n3 : (ptS s i (cl s)).2.1 (2001 + 3 * j) = s.2.1 (2001 + 3 * j) := sL_o s _ (by omega)
      rw [n1, n3]
      have far : psz (opf s) j + 1 ≤ psz (opf s) i ∨ psz (opf s) i + 2 ≤ psz (opf s) j := by
        rcases Nat.lt_or_gt_of_ne q with r | r
        · left
          have := psz_lt (f := opf s) r
          omega
        · right
          have := psz_le (f := opf s) r
          omega
      refine ⟨by rw [up2_k e (by omega)]; exact y.1, fun q2 => ?_, y.2.2⟩
      have far2 : ¬ psz (opf s) j + 1 = psz (opf s) i + 1 := by omega
      rw [show 8200 * b + psz (opf s) j + 1 = 8200 * b + (psz (opf s) j + 1) from by omega, up2_k e (by omega), show 8200 * b + (psz (opf s) j + 1) = 8200 * b + psz (opf s) j + 1 from by omega]
      exact y.2.1 q2
/-! the relation, when the machine lays an order -/
theorem RelC.sl {V : Vf} {L : Lf} {b : Nat} {T : Tk} {s s' : St} (h : RelC V L b T s) (e1 : s'.1 = s.1) (e2 : ∀ j, j < 5 → s'.2.1 j = s.2.1 j) (e3 : s'.2.2 = s.2.2) : RelC V L b T s' := by
  unfold RelC at h ⊢
  refine ⟨by rw [e1]; exact h.1, h.2.1, fun j hj => by rw [e2 j hj]; exact h.2.2.1 j hj, h.2.2.2.1.ag rfl rfl rfl (by rw [e3]), fun q => (h.2.2.2.2 q).ag rfl rfl rfl rfl (fun i _ => by rw [e1]) (by rw [e3])⟩
theorem emS_5 (s : St) (o : Nat) (x : List Int64) (y : Nat) (j : Nat) (h : j < 5) : (emL s o x y).2.1 j = s.2.1 j := emS_o s o x y (by omega) (Or.inl (by omega))
theorem RelC.em {V : Vf} {L : Lf} {b : Nat} {T : Tk} {s : St} {o : Nat} {x : List Int64} {y : Nat} (h : RelC V L b T s) : RelC V L b T (emL s o x y) := h.sl rfl (fun j hj => emS_5 s o x y j hj) rfl
theorem RelC.gl {V : Vf} {L : Lf} {b : Nat} {T : Tk} {s : St} {k : Nat} {x : List Int64} (h : RelC V L b T s) (hk : 5 ≤ k) : RelC V L b T (sLl s k x) := h.sl rfl (fun j hj => sL_o s x (by omega)) rfl
theorem keepS.em {s : St} {o : Nat} {x : List Int64} {y : Nat} : keepS s 0 (emL s o x y) := ⟨Nat.le_refl _, fun _ _ => rfl, fun j hj => emS_5 s o x y j (by omega), rfl⟩
theorem keepS.gl {s : St} {k : Nat} {x : List Int64} (h : 5 ≤ k) : keepS s 0 (sLl s k x) := ⟨Nat.le_refl _, fun _ _ => rfl, fun j hj => sL_o s x (by omega), rfl⟩
/-- .. the target of an order that was laid ahead -/
theorem keepE.psz {s s' : St} (h : keepE s s') {i : Nat} (hi : i ≤ cl s) : psz (opf s') i = psz (opf s) i := psz_ext (fun k hk => congrArg List.length (h.2 _ (by omega) (by omega)))
theorem keepE.op {s s' : St} (h : keepE s s') {i : Nat} (hi : i < cl s) : nL s' (2000 + 3 * i) = nL s (2000 + 3 * i) := congrArg List.length (h.2 _ (by omega) (by omega))
theorem CDc.ptk {V W : Vf} {b i p : Nat} {a s : St} {z x : Int32} (h : CDc V b s) (t : ptX V W b z x) (k : keepE a s) (hi : i < cl a) (ho : nL a (2000 + 3 * i) = 12 ∨ nL a (2000 + 3 * i) = 13) (hp : psz (opf a) i = p) (hz : z.toInt = (p : Int) + 1) (hx : x.toInt = ((wl s : Nat) : Int)) (hr : (V 42 b).toInt ≤ 8200) : CDc W b (ptS s i (cl s)) :=
  h.pt t (Nat.lt_of_lt_of_le hi k.1) (by rw [k.op hi]; exact ho) (by rw [k.psz (Nat.le_of_lt hi), hp]; exact hz) hx hr
/-- where the second jump of a pick stands, when the first one's target is set -/
theorem pq_cl (s : St) (i x : Nat) : cl s < cl (ptS (emS s 13 0 0) i x) := by rw [cl_pt, cl_em]; exact Nat.lt_succ_self _
theorem pq_op (s : St) (i x : Nat) : nL (ptS (emS s 13 0 0) i x) (2000 + 3 * cl s) = 13 := (nL_o (emS s 13 0 0) _ (by omega)).trans (op_em s 13 _ 0)
theorem pq_pz (s : St) (i x : Nat) : psz (opf (ptS (emS s 13 0 0) i x)) (cl s) = wl s := by rw [opf_pt]; exact psz_em s 13 _ 0 (Nat.le_refl _)
theorem em_lt (s : St) (o : Nat) (x : List Int64) (y : Nat) : cl s < cl (emL s o x y) := by rw [cl_em]; exact Nat.lt_succ_self _
theorem wl_e {s s' : St} (e : ∀ j, j = 5 ∨ 2000 ≤ j → s'.2.1 j = s.2.1 j) : wl s' = wl s := by
  have en : ∀ j, j = 5 ∨ 2000 ≤ j → nL s' j = nL s j := fun j hj => congrArg List.length (e j hj)
  have ec : cl s' = cl s := en 5 (by decide)
  have eo : opf s' = opf s := funext fun i => en _ (by omega)
  unfold wl
  rw [eo, ec]
/-! E's -/
theorem bg_ne {T : Tk} {s : St} (h : bgP T s) : T.1 (s.1 0) ≠ 0 := by
  unfold bgP at h
  omega
theorem bg_147 {T : Tk} {s : St} (h : bgP T s) (a : T.1 (s.1 0) ≠ 2) (a2 : T.1 (s.1 0) ≠ 40) (a3 : T.1 (s.1 0) ≠ 45) (a4 : T.1 (s.1 0) ≠ 130) (a5 : T.1 (s.1 0) ≠ 143) (a6 : T.1 (s.1 0) ≠ 144) (a7 : T.1 (s.1 0) ≠ 145) (a8 : T.1 (s.1 0) ≠ 146) : T.1 (s.1 0) = 147 := by
  unfold bgP at h
  omega
theorem bg_146 {T : Tk} {s : St} (h : bgP T s) (a : T.1 (s.1 0) = 146) : s.1 4 = 0 := by
  unfold bgP at h
  omega
theorem look_ne {T : Tk} {s : St} {l : List Int64} {f : Nat} (h : ∀ kk, look T s l kk = kk f) : T.1 (s.1 0) ≠ 0 := by
  intro q
  have z := (look_1 (l := l) (by rw [q]; decide) (fun _ => Cdone s)).symm.trans (h _)
  unfold fl at z
  exact absurd z (fun e => by cases e)
/-! the content of a BOOK (the reader's cells) beside the machine's numbers -/
theorem keepS.c {s s' : St} {n : Nat} (h : keepS s n s') : keepC s s' := ⟨fun i hi => h.2.1 i (by omega), h.2.2.1⟩
def UND (x : Int32) (f : Nat → Nat) (l : List Nat) : Prop := ∀ g, g < 24 → bt x g = (msk f l).testBit g
theorem UND.z (f : Nat → Nat) : UND 0 f [] := fun g _ => by
  rw [b_0]
  exact (Nat.zero_testBit g).symm
theorem UND.add {x y z : Int32} {f : Nat → Nat} {l : List Nat} {t : Nat} (h : UND x f l) (e : z = x ||| y) (hy : ∀ g, g < 24 → bt y g = (f (30 + t)).testBit g) : UND z f (t :: l) := fun g hg => by
  rw [e, b_or, h g hg, hy g hg, msk_cons, Nat.testBit_or, Bool.or_comm]
def SEc (V : Vf) (b : Nat) (s : St) : Prop := ∀ i, i < (s.2.1 1).length → (V 46 (12 * b + i)).toInt = ((s.1 (10 + i) : Nat) : Int)
def TYc (V : Vf) (b : Nat) (s : St) : Prop := ∀ t, t < (s.2.1 0).length → ∀ g, g < 24 → bt (V 45 (24 * b + t)) g = (s.1 (30 + t)).testBit g
def NEr (V : Vf) (o : Nat) (f : Nat → Nat) (c j : Nat) : Prop := (V 58 (8 * o + j)).toInt = ((f (300 + 32 * c + 4 * j) : Nat) : Int) ∧ (V 60 (8 * o + j)).toInt = ((f (301 + 32 * c + 4 * j) : Nat) : Int) ∧ (V 59 (8 * o + j)).toInt + 1 = ((f (302 + 32 * c + 4 * j) : Nat) : Int) ∧ f (300 + 32 * c + 4 * j) < 24
def HDr (V : Vf) (o m sc ca ra ws wv : Nat) : Prop := (∀ g, g < 24 → bt (V 50 o) g = m.testBit g) ∧ (V 51 o).toInt = (sc : Int) ∧ (V 52 o).toInt + 1 = (ca : Int) ∧ (V 53 o).toInt = (ra : Int) ∧ (V 54 o).toInt + 1 = (ws : Int) ∧ (ws ≠ 0 → (V 55 o).toInt = (wv : Int))
def COr (V : Vf) (o : Nat) (f : Nat → Nat) (c : Nat) : Prop := HDr V o (f (60 + 8 * c)) (f (61 + 8 * c)) (f (62 + 8 * c)) (f (63 + 8 * c)) (f (64 + 8 * c)) (f (65 + 8 * c)) ∧ (V 49 o).toInt = ((f (66 + 8 * c) : Nat) : Int) ∧ f (66 + 8 * c) ≤ 8 ∧ ∀ j, j < f (66 + 8 * c) → NEr V o f c j
def COc (V : Vf) (b : Nat) (s : St) : Prop := ∀ c, c < (s.2.1 2).length → COr V (24 * b + c) s.1 c
def LNb (s : St) : Prop := (s.2.1 0).length ≤ 24 ∧ (s.2.1 1).length ≤ 12 ∧ (s.2.1 2).length ≤ 24
def CNc (V : Vf) (b : Nat) (s : St) : Prop := LNb s ∧ SEc V b s ∧ TYc V b s ∧ COc V b s
/-- what of the cells is read -/
def rdd (b n0 n1 n2 x k : Nat) : Prop := (x = 45 ∧ 24 * b ≤ k ∧ k < 24 * b + n0) ∨ (x = 46 ∧ 12 * b ≤ k ∧ k < 12 * b + n1) ∨ (49 ≤ x ∧ x ≤ 55 ∧ 24 * b ≤ k ∧ k < 24 * b + n2) ∨ (58 ≤ x ∧ x ≤ 60 ∧ 192 * b ≤ k ∧ k < 192 * b + 8 * n2)
theorem HDr.mv {V W : Vf} {o m sc ca ra ws wv : Nat} (h : HDr V o m sc ca ra ws wv) (e : ∀ x, 49 ≤ x → x ≤ 55 → W x o = V x o) : HDr W o m sc ca ra ws wv := by
  unfold HDr at h ⊢
  rw [e 50 (by decide) (by decide), e 51 (by decide) (by decide), e 52 (by decide) (by decide), e 53 (by decide) (by decide), e 54 (by decide) (by decide), e 55 (by decide) (by decide)]
  exact h
theorem COr.mv {V W : Vf} {o c : Nat} {f g : Nat → Nat} (h : COr V o f c) (e : ∀ x, 49 ≤ x → x ≤ 55 → W x o = V x o) (e2 : ∀ x j, 58 ≤ x → x ≤ 60 → j < 8 → W x (8 * o + j) = V x (8 * o + j)) (k : ∀ i, 60 ≤ i → g i = f i) : COr W o g c := by
  obtain ⟨h1, h2, h3, h4⟩ := h
  have k6 := k (66 + 8 * c) (by omega)
  refine ⟨?_, by rw [e 49 (by decide) (by decide), k6]; exact h2, by rw [k6]; exact h3, fun j hj => ?_⟩
  · rw [k (60 + 8 * c) (by omega), k (61 + 8 * c) (by omega), k (62 + 8 * c) (by omega), k (63 + 8 * c) (by omega), k (64 + 8 * c) (by omega), k (65 + 8 * c) (by omega)]
    exact h1.mv e
  · rw [k6] at hj
    have z := h4 j hj
    unfold NEr at z ⊢
    rw [e2 58 j (by decide) (by decide) (by omega), e2 59 j (by decide) (by decide) (by omega), e2 60 j (by decide) (by decide) (by omega), k (300 + 32 * c + 4 * j) (by omega), k (301 + 32 * c + 4 * j) (by omega), k (302 + 32 * c + 4 * j) (by omega)]
    exact z
theorem CNc.mv {V W : Vf} {b : Nat} {s s' : St} (h : CNc V b s) (e : ∀ x k, rdd b (s.2.1 0).length (s.2.1 1).length (s.2.1 2).length x k → W x k = V x k) (k : keepC s s') : CNc W b s' := by
  obtain ⟨h0, h1, h2, h3⟩ := h
  unfold CNc LNb SEc TYc COc
  rw [k.2 0 (by decide), k.2 1 (by decide), k.2 2 (by decide)]
  refine ⟨h0, fun i hi => ?_, fun t ht g hg => ?_, fun c hc => ?_⟩
  · rw [e 46 _ (Or.inr (Or.inl ⟨rfl, by omega, by omega⟩)), k.1 _ (by omega)]
    exact h1 i hi
  · rw [e 45 _ (Or.inl ⟨rfl, by omega, by omega⟩), k.1 _ (by omega)]
    exact h2 t ht g hg
  · exact (h3 c hc).mv (fun x a1 a2 => e x _ (Or.inr (Or.inr (Or.inl ⟨a1, a2, by omega, by omega⟩)))) (fun x j a1 a2 hj => e x _ (Or.inr (Or.inr (Or.inr ⟨a1, a2, by omega, by omega⟩)))) (fun i hi => k.1 i (by omega))
def okK (fs : List (Nat × Nat)) (cs : List Nat) : Bool := cs.all (fun c => !([45, 46, 49, 50, 51, 52, 53, 54, 55, 58, 59, 60].contains c)) && fs.all (fun x => !(([] : List (Nat × Nat)).contains x) && decide (x.1 ≤ 6))
theorem rdd.in {b n0 n1 n2 x k : Nat} (h : rdd b n0 n1 n2 x k) : [45, 46, 49, 50, 51, 52, 53, 54, 55, 58, 59, 60].contains x = true ∧ 6 < x := by
  have z : x = 45 ∨ x = 46 ∨ x = 49 ∨ x = 50 ∨ x = 51 ∨ x = 52 ∨ x = 53 ∨ x = 54 ∨ x = 55 ∨ x = 58 ∨ x = 59 ∨ x = 60 := by
    unfold rdd at h
    omega
  rcases z with z | z | z | z | z | z | z | z | z | z | z | z <;> (subst z; exact ⟨by decide, by decide⟩)
theorem CNc.ag {V W : Vf} {b : Nat} {s s' : St} {fs : List (Nat × Nat)} {cs : List Nat} (h : CNc V b s) (a : agr fs cs V W) (o : okK fs cs = true) (k : keepC s s') : CNc W b s' :=
  h.mv (fun x i q => ok_use a o q.in.1 (Or.inl q.in.2)) k
/-- a place that no one reads yet -/
theorem CNc.up {V W : Vf} {b c p : Nat} {v : Int32} {s : St} (h : CNc V b s) (e : W = up2 V c p v) (hp : ¬ rdd b (s.2.1 0).length (s.2.1 1).length (s.2.1 2).length c p) : CNc W b s :=
  h.mv (fun x k q => by rw [e]; exact up2_pl (fun z => hp (by rw [z.1, z.2] at q; exact q))) keepC.rf
theorem CNc.fi {V W : Vf} {b o : Nat} {s : St} (h : CNc V b s) (f : frX (xI o) V W) (ho : 24 * b + (s.2.1 2).length ≤ o) : CNc W b s := by
  refine h.mv (fun x k q => f x k (by unfold rdd at q; omega) ?_) keepC.rf
  unfold xI
  unfold rdd at q
  by_cases c1 : 49 ≤ x ∧ x ≤ 57
  · rw [if_pos c1]
    left
    show k < o
    omega
  · rw [if_neg c1]
    by_cases c2 : 58 ≤ x ∧ x ≤ 60
    · rw [if_pos c2]
      left
      show k < 8 * o
      omega
    · rw [if_neg c2]
      by_cases c3 : x = 61
      · omega
      · rw [if_neg c3]
        exact Or.inr (Nat.zero_le _)
/-- the other BOOK -/
theorem CNc.fr {V W : Vf} {b b1 : Nat} {s : St} (h : CNc V b s) (f : frX (xR b1) V W) (hb : b ≠ b1) : CNc W b s := by
  have ln := h.1
  unfold LNb at ln
  refine h.mv (fun x k q => f x k (by unfold rdd at q; omega) ?_) keepC.rf
  unfold rdd at q
  unfold xR
  by_cases c1 : x = 45
  · rw [if_neg (by omega), if_neg (by omega), if_neg (by omega), if_pos c1]
    show k < 24 * b1 ∨ 24 * b1 + 24 ≤ k
    omega
  · by_cases c2 : x = 46 ∨ x = 47
    · rw [if_neg (by omega), if_neg (by omega), if_neg (by omega), if_neg c1, if_pos c2]
      show k < 12 * b1 ∨ 12 * b1 + 12 ≤ k
      omega
    · by_cases c3 : x ≤ 57
      · rw [if_neg (by omega), if_neg (by omega), if_neg (by omega), if_neg c1, if_neg c2, if_neg (by omega), if_pos c3]
        show k < 24 * b1 ∨ 24 * b1 + 24 ≤ k
        omega
      · rw [if_neg (by omega), if_neg (by omega), if_neg (by omega), if_neg c1, if_neg c2, if_neg (by omega), if_neg c3, if_pos (by omega)]
        show k < 192 * b1 ∨ 192 * b1 + 192 ≤ k
        omega
theorem lenB_s (f : Nat → List Int64) (t : Nat) (w : Int64) : (upB f t w t).length = (f t).length + 1 := by
  unfold upB
  rw [if_pos rfl, List.length_append]
  rfl
theorem lenB_o {f : Nat → List Int64} {t i : Nat} {w : Int64} (h : i ≠ t) : upB f t w i = f i := if_neg h
/-- a setting more -/
theorem CNc.se {V W : Vf} {b p v : Nat} {x : Int32} {s : St} {w : Int64} (h : CNc V b s) (e : W = up2 V 46 p x) (hp : p = 12 * b + (s.2.1 1).length) (hx : x.toInt = (v : Int)) (hl : (s.2.1 1).length < 12) : CNc W b (seS s w v) := by
  obtain ⟨h0, h1, h2, h3⟩ := h
  have l0 : ((seS s w v).2.1 0) = s.2.1 0 := (show upB s.2.1 1 w 0 = s.2.1 0 from lenB_o (by decide))
  have l1 : ((seS s w v).2.1 1).length = (s.2.1 1).length + 1 := (show (upB s.2.1 1 w 1).length = _ from lenB_s _ _ _)
  have l2 : ((seS s w v).2.1 2) = s.2.1 2 := (show upB s.2.1 1 w 2 = s.2.1 2 from lenB_o (by decide))
  have n : ∀ i, i ≠ 10 + (s.2.1 1).length → (seS s w v).1 i = s.1 i := fun i hi => upN_o _ _ _ hi
  have m : (seS s w v).1 (10 + (s.2.1 1).length) = v := upN_s _ _ _
  unfold LNb at h0
  unfold CNc LNb SEc TYc COc
  rw [l0, l1, l2]
  refine ⟨by omega, fun i hi => ?_, fun t ht g hg => ?_, fun c hc => ?_⟩
  · by_cases c : i = (s.2.1 1).length
    · subst c
      rw [m, ← hp, up2_s e]
      exact hx
    · rw [n _ (by omega), up2_k e (by omega)]
      exact h1 i (by omega)
  · rw [n _ (by omega), up2_o e (by decide)]
    exact h2 t ht g hg
  · exact (h3 c hc).mv (fun x a1 a2 => up2_o e (by omega)) (fun x j a1 a2 hj => up2_o e (by omega)) (fun i hi => n i (by omega))
/-- a type more -/
theorem CNc.ty {V W : Vf} {b p : Nat} {x : Int32} {s : St} {w : Int64} {l : List Nat} (h : CNc V b s) (e : W = up2 V 45 p x) (hp : p = 24 * b + (s.2.1 0).length) (hx : ∀ g, g < 24 → bt x g = (msk s.1 l ||| 2 ^ (s.2.1 0).length).testBit g) (hl : (s.2.1 0).length < 24) : CNc W b (tyS s w l) := by
  obtain ⟨h0, h1, h2, h3⟩ := h
  have l0 : ((tyS s w l).2.1 0).length = (s.2.1 0).length + 1 := (show (upB s.2.1 0 w 0).length = _ from lenB_s _ _ _)
  have l1 : ((tyS s w l).2.1 1) = s.2.1 1 := (show upB s.2.1 0 w 1 = s.2.1 1 from lenB_o (by decide))
  have l2 : ((tyS s w l).2.1 2) = s.2.1 2 := (show upB s.2.1 0 w 2 = s.2.1 2 from lenB_o (by decide))
  have n : ∀ i, i ≠ 30 + (s.2.1 0).length → (tyS s w l).1 i = s.1 i := fun i hi => upN_o _ _ _ hi
  have m : (tyS s w l).1 (30 + (s.2.1 0).length) = msk s.1 l ||| 2 ^ (s.2.1 0).length := upN_s _ _ _
  unfold LNb at h0
  unfold CNc LNb SEc TYc COc
  rw [l0, l1, l2]
  refine ⟨by omega, fun i hi => ?_, fun t ht g hg => ?_, fun c hc => ?_⟩
  · rw [n _ (by omega), up2_o e (by decide)]
    exact h1 i hi
  · by_cases c : t = (s.2.1 0).length
    · subst c
      rw [m, ← hp, up2_s e]
      exact hx g hg
    · rw [n _ (by omega), up2_k e (by omega)]
      exact h2 t (by omega) g hg
  · exact (h3 c hc).mv (fun x a1 a2 => up2_o e (by omega)) (fun x j a1 a2 hj => up2_o e (by omega)) (fun i hi => n i (by omega))
/-- its set -/
theorem UND.ty {x y z3 z4 : Int32} {f : Nat → Nat} {l : List Nat} {t : Nat} (h : UND x f l) (e3 : z3 = 1 <<< (y &&& 31)) (e4 : z4 = x ||| z3) (hy : y.toInt = (t : Int)) (ht : t < 24) : ∀ g, g < 24 → bt z4 g = (msk f l ||| 2 ^ t).testBit g := fun g hg => by
  rw [Nat.testBit_or, Nat.testBit_two_pow, ← h g hg]
  have z := lb_set e3 e4 hy ht hg
  cases c : bt z4 g with
  | true =>
    rcases z.mp c with d | d
    · rw [d, decide_eq_true rfl, Bool.or_true]
    · rw [d, Bool.true_or]
  | false =>
    have d1 : ¬ g = t := fun q => by rw [z.mpr (Or.inl q)] at c; cases c
    have d2 : bt x g = false := by
      cases d : bt x g with
      | true => rw [z.mpr (Or.inr d)] at c; cases c
      | false => rfl
    rw [d2, decide_eq_false (fun q => d1 q.symm)]
    rfl
/-- a component more -/
theorem CNc.nm {V : Vf} {b o m : Nat} {sc : Int} {ca ra ws wv : Nat} {s : St} {w : Int64} (h : CNc V b s) (ho : o = 24 * b + (s.2.1 2).length) (hd : HDr V o m sc.toNat ca ra ws wv) (n0 : (V 49 o).toInt = 0) (hl : (s.2.1 2).length < 24) : CNc V b (nmS s m sc w [wv, ws, ra, ca]) := by
  obtain ⟨h0, h1, h2, h3⟩ := h
  have l0 : ((nmS s m sc w [wv, ws, ra, ca]).2.1 0) = s.2.1 0 := (show upB s.2.1 2 w 0 = s.2.1 0 from lenB_o (by decide))
  have l1 : ((nmS s m sc w [wv, ws, ra, ca]).2.1 1) = s.2.1 1 := (show upB s.2.1 2 w 1 = s.2.1 1 from lenB_o (by decide))
  have l2 : ((nmS s m sc w [wv, ws, ra, ca]).2.1 2).length = (s.2.1 2).length + 1 := (show (upB s.2.1 2 w 2).length = _ from lenB_s _ _ _)
  have n : ∀ i, i < 60 + 8 * (s.2.1 2).length ∨ 68 + 8 * (s.2.1 2).length ≤ i → (nmS s m sc w [wv, ws, ra, ca]).1 i = s.1 i := fun i hi => hdr_o hi
  have q : ∀ r, r < 8 → (nmS s m sc w [wv, ws, ra, ca]).1 (60 + 8 * (s.2.1 2).length + r) = hvl m sc.toNat [wv, ws, ra, ca] r := fun r hr => hdr_i hr
  unfold LNb at h0
  unfold CNc LNb SEc TYc COc
  rw [l0, l1, l2]
  refine ⟨by omega, fun i hi => ?_, fun t ht g hg => ?_, fun c hc => ?_⟩
  · rw [n _ (by omega)]
    exact h1 i hi
  · rw [n _ (by omega)]
    exact h2 t ht g hg
  · by_cases e : c = (s.2.1 2).length
    · subst e
      have q0 := q 0 (by decide)
      have q1 := q 1 (by decide)
      have q2 := q 2 (by decide)
      have q3 := q 3 (by decide)
      have q4 := q 4 (by decide)
      have q5 := q 5 (by decide)
      have q6 := q 6 (by decide)
      unfold COr
      rw [show 60 + 8 * (s.2.1 2).length = 60 + 8 * (s.2.1 2).length + 0 from rfl, q0, show 61 + 8 * (s.2.1 2).length = 60 + 8 * (s.2.1 2).length + 1 from by omega, q1, show 62 + 8 * (s.2.1 2).length = 60 + 8 * (s.2.1 2).length + 2 from by omega, q2, show 63 + 8 * (s.2.1 2).length = 60 + 8 * (s.2.1 2).length + 3 from by omega, q3, show 64 + 8 * (s.2.1 2).length = 60 + 8 * (s.2.1 2).length + 4 from by omega, q4, show 65 + 8 * (s.2.1 2).length = 60 + 8 * (s.2.1 2).length + 5 from by omega, q5, show 66 + 8 * (s.2.1 2).length = 60 + 8 * (s.2.1 2).length + 6 from by omega, q6, ← ho]
      exact ⟨hd, n0, Nat.zero_le _, fun j hj => absurd hj (Nat.not_lt_zero _)⟩
    · have z := h3 c (by omega)
      have nn : ∀ i, (60 ≤ i ∧ i < 60 + 8 * (s.2.1 2).length ∨ 68 + 8 * (s.2.1 2).length ≤ i) → (nmS s m sc w [wv, ws, ra, ca]).1 i = s.1 i := fun i hi => n i (by omega)
      unfold COr at z ⊢
      rw [n _ (by omega), n _ (by omega), n _ (by omega), n _ (by omega), n _ (by omega), n _ (by omega), n _ (by omega)]
      refine ⟨z.1, z.2.1, z.2.2.1, fun j hj => ?_⟩
      have y := z.2.2.2 j hj
      have y3 := z.2.2.1
      unfold NEr at y ⊢
      rw [n (300 + 32 * c + 4 * j) (by omega), n (301 + 32 * c + 4 * j) (by omega), n (302 + 32 * c + 4 * j) (by omega)]
      exact y
/-- a need more -/
theorem CNc.nd {V W : Vf} {b o f ca : Nat} {a : Int} {s : St} (h : CNc V b s) (ho : o + 1 = 24 * b + (s.2.1 2).length) (hb : 24 * b ≤ o) (h1 : (V 49 o).toInt = ((s.1 1 : Nat) : Int)) (h8 : s.1 1 < 8) (e45 : W 45 = V 45) (e46 : W 46 = V 46) (e50 : ∀ x, 50 ≤ x → x ≤ 55 → W x = V x) (e49 : ∀ k, k ≠ o → W 49 k = V 49 k) (n49 : (W 49 o).toInt = (V 49 o).toInt + 1) (e58 : ∀ x k, 58 ≤ x → x ≤ 60 → k ≠ 8 * o + s.1 1 → W x k = V x k) (c58 : (W 58 (8 * o + s.1 1)).toInt = (f : Int)) (c60 : (W 60 (8 * o + s.1 1)).toInt = ((a.toNat : Nat) : Int)) (c59 : (W 59 (8 * o + s.1 1)).toInt + 1 = (ca : Int)) (hf : f < 24) : CNc W b (ndS s a f ca) := by
  obtain ⟨h0, hs, ht, hc⟩ := h
  have l24 := h0.2.2
  obtain ⟨c0, ec⟩ : ∃ c0, c0 + 1 = (s.2.1 2).length := ⟨(s.2.1 2).length - 1, by omega⟩
  have ec2 : (s.2.1 2).length - 1 = c0 := by omega
  have eo : o = 24 * b + c0 := by omega
  have e66 : s.1 (66 + 8 * c0) = s.1 1 := by
    have z := (hc c0 (by omega)).2.1
    rw [← eo] at z
    omega
  have num : ∀ i, (ndS s a f ca).1 i = ndf s.1 c0 a.toNat f ca i := fun i => by
    show ndf s.1 ((s.2.1 2).length - 1) a.toNat f ca i = _
    rw [ec2]
  refine ⟨h0, fun i hi => ?_, fun t ht' g hg => ?_, fun c hc' => ?_⟩
  · have l1 : i < 12 := Nat.lt_of_lt_of_le hi h0.2.1
    rw [num, ndf_lo (by omega) (by omega), e46]
    exact hs i hi
  · have l1 : t < 24 := Nat.lt_of_lt_of_le ht' h0.1
    rw [num, ndf_lo (by omega) (by omega), e45]
    exact ht t ht' g hg
  · have hc2 : c < (s.2.1 2).length := hc'
    have z := hc c hc2
    have hd : HDr W (24 * b + c) (s.1 (60 + 8 * c)) (s.1 (61 + 8 * c)) (s.1 (62 + 8 * c)) (s.1 (63 + 8 * c)) (s.1 (64 + 8 * c)) (s.1 (65 + 8 * c)) := by
      have z1 := z.1
      unfold HDr at z1 ⊢
      rw [e50 50 (by decide) (by decide), e50 51 (by decide) (by decide), e50 52 (by decide) (by decide), e50 53 (by decide) (by decide), e50 54 (by decide) (by decide), e50 55 (by decide) (by decide)]
      exact z1
    have hn : ∀ r, r < 6 → (ndS s a f ca).1 (60 + r + 8 * c) = s.1 (60 + r + 8 * c) := fun r hr => by
      rw [num, ndf_h (by omega) (by omega) (by omega)]
    have g0 : (ndS s a f ca).1 (60 + 8 * c) = s.1 (60 + 8 * c) := hn 0 (by decide)
    have g1 : (ndS s a f ca).1 (61 + 8 * c) = s.1 (61 + 8 * c) := hn 1 (by decide)
    have g2 : (ndS s a f ca).1 (62 + 8 * c) = s.1 (62 + 8 * c) := hn 2 (by decide)
    have g3 : (ndS s a f ca).1 (63 + 8 * c) = s.1 (63 + 8 * c) := hn 3 (by decide)
    have g4 : (ndS s a f ca).1 (64 + 8 * c) = s.1 (64 + 8 * c) := hn 4 (by decide)
    have g5 : (ndS s a f ca).1 (65 + 8 * c) = s.1 (65 + 8 * c) := hn 5 (by decide)
    unfold COr
    rw [g0, g1, g2, g3, g4, g5]
    refine ⟨hd, ?_⟩
    by_cases q : c = c0
    · subst q
      rw [num, ndf_n, ← eo]
      refine ⟨by rw [n49, h1]; omega, by omega, fun j hj => ?_⟩
      unfold NEr
      by_cases d : j = s.1 1
      · subst d
        rw [num, num, num, ndf_t (by omega), ndf_k (by omega), ndf_w (by omega)]
        exact ⟨c58, c60, c59, hf⟩
      · have y := z.2.2.2 j (by omega)
        unfold NEr at y
        rw [← eo] at y
        rw [num (300 + 32 * c + 4 * j), num (301 + 32 * c + 4 * j), num (302 + 32 * c + 4 * j), ndf_o (i := 300 + 32 * c + 4 * j) (by omega) (by omega) (by omega), ndf_o (i := 301 + 32 * c + 4 * j) (by omega) (by omega) (by omega), ndf_o (i := 302 + 32 * c + 4 * j) (by omega) (by omega) (by omega), e58 58 _ (by decide) (by decide) (by omega), e58 59 _ (by decide) (by decide) (by omega), e58 60 _ (by decide) (by decide) (by omega)]
        exact y
    · have k6 : (ndS s a f ca).1 (66 + 8 * c) = s.1 (66 + 8 * c) := by
        rw [num, ndf_h (by omega) (by omega) (by omega)]
      rw [k6, e49 _ (by omega)]
      refine ⟨z.2.1, z.2.2.1, fun j hj => ?_⟩
      have y := z.2.2.2 j hj
      have y3 := z.2.2.1
      unfold NEr at y ⊢
      rw [num (300 + 32 * c + 4 * j), num (301 + 32 * c + 4 * j), num (302 + 32 * c + 4 * j), ndf_o (i := 300 + 32 * c + 4 * j) (by omega) (by omega) (by omega), ndf_o (i := 301 + 32 * c + 4 * j) (by omega) (by omega) (by omega), ndf_o (i := 302 + 32 * c + 4 * j) (by omega) (by omega) (by omega), e58 58 _ (by decide) (by decide) (by omega), e58 59 _ (by decide) (by decide) (by omega), e58 60 _ (by decide) (by decide) (by omega)]
      exact y
/-- numbers from 5 on are no matter of the relation -/
theorem RelC.nu {V : Vf} {L : Lf} {b : Nat} {T : Tk} {s s' : St} (h : RelC V L b T s) (e : ∀ i, i < 5 → s'.1 i = s.1 i) (e2 : s'.2 = s.2) : RelC V L b T s' := by
  obtain ⟨a, c⟩ := s
  obtain ⟨a', c'⟩ := s'
  have e3 : c' = c := e2
  subst e3
  refine ⟨?_, h.2.1, h.2.2.1, h.2.2.2.1, fun q => ?_⟩
  · have z := h.1
    rw [← e 0 (by decide)] at z
    exact z
  · have z := h.2.2.2.2 q
    refine ⟨?_, ?_, ?_, ?_, z.2.2.2.2⟩
    · rw [e 1 (by decide)]
      exact z.1
    · rw [e 2 (by decide)]
      exact z.2.1
    · rw [e 3 (by decide)]
      exact z.2.2.1
    · rw [e 4 (by decide)]
      exact z.2.2.2.1
theorem OWr.nu {V : Vf} {o : Nat} {s s' : St} (h : OWr V o s) (e : ∀ i, i < 5 → s'.1 i = s.1 i) (e2 : s'.2 = s.2) : OWr V o s' := by
  unfold OWr at h ⊢
  rw [e 1 (by decide), e 2 (by decide), e 3 (by decide), e 4 (by decide), e2]
  exact h
theorem tyS_5 {s : St} {w : Int64} {l : List Nat} : ∀ i, i < 5 → (tyS s w l).1 i = (sA s 0 w).1 i := fun i hi => upN_o _ _ _ (by omega)
theorem seS_5 {s : St} {w : Int64} {v : Nat} : ∀ i, i < 5 → (seS s w v).1 i = (sA s 1 w).1 i := fun i hi => upN_o _ _ _ (by omega)
theorem nmS_5 {s : St} {m : Nat} {sc : Int} {w : Int64} {l : List Nat} : ∀ i, i < 5 → (nmS s m sc w l).1 i = (sA s 2 w).1 i := fun i hi => hdr_o (by omega)
theorem ndS_5 {s : St} {a : Int} {f ca : Nat} : ∀ i, i < 5 → (ndS s a f ca).1 i = (sN s 1 (s.1 1 + 1)).1 i := fun i hi => by
  by_cases c : i = 1
  · subst c
    show ndf s.1 ((s.2.1 2).length - 1) a.toNat f ca 1 = upN s.1 1 (s.1 1 + 1) 1
    rw [ndf_1, upN_s]
  · show ndf s.1 ((s.2.1 2).length - 1) a.toNat f ca i = upN s.1 1 (s.1 1 + 1) i
    rw [ndf_lo c (by omega), upN_o _ _ _ c]
/-- a list of types was read -/
abbrev RdT (T : Tk) (s : St) (c : Int) (w : Int64) (r flt : Int) (P : St → List Nat → Prop) : Prop := (r = 1 ∧ ∃ (s' : St) (sn : List Nat), (∀ k, Rc T (Crun s (Itypes c w 0 [] :: k)) (Crun s' (ItyD c w sn :: k))) ∧ P s' sn) ∨ (r = 0 ∧ ∀ k, Rc T (Crun s (Itypes c w 0 [] :: k)) (Cbad flt))
/-- a component's head was read: called, rank, when -/
abbrev RdH (T : Tk) (s : St) (m : Nat) (sc : Int) (w : Int64) (r flt : Int) (P : St → Nat → Nat → Nat → Nat → Prop) : Prop := (r = 1 ∧ ∃ (s' : St) (ca ra ws wv : Nat), (∀ k, Rc T (Crun s (IcalledH m sc w :: k)) (Crun s' (Itake 123 :: IaddNm m sc w [wv, ws, ra, ca] :: Imember :: k))) ∧ P s' ca ra ws wv) ∨ (r = 0 ∧ ∀ k, Rc T (Crun s (IcalledH m sc w :: k)) (Cbad flt))
/-- the owner is the last -/
def OWl (V : Vf) (b : Nat) (s : St) : Prop := 0 ≤ (V 1 2).toInt → (V 1 2).toInt + 1 = 24 * (b : Int) + (((s.2.1 2).length : Nat) : Int)
def CNo (V : Vf) (b : Nat) (s : St) : Prop := CNc V b s ∧ OWl V b s
theorem OWl.mv {V W : Vf} {b : Nat} {s s' : St} (h : OWl V b s) (e : W 1 2 = V 1 2) (k : keepC s s') : OWl W b s' := by
  unfold OWl at h ⊢
  rw [e, k.2 2 (by decide)]
  exact h
theorem OWl.n {V : Vf} {b : Nat} {s : St} (h : (V 1 2).toInt < 0) : OWl V b s := fun q => absurd q (by omega)


abbrev r_x_takeTypes3 : Room := { frames := 2, cells := 0, slots := 0, locals := 43 }
abbrev q_x_takeTypes3 (D : va_G) (ks : KS) (ad : Nat → Nat) (kk : Nat → ClassId) (V : Vf) (L : Lf) (Z : XZ) (b : Nat) (gT : Tk) (gs : St) (gy : Int) (gw : Int64) (A : Nat → Prop) : Array Value → State → Outcome → State → Prop := va_Qi (fun (r : Int32) (u : Vf × Lf) => rgd bX u.1 ∧ agr [(1, 3), (1, 6), (1, 7), (6, 8), (6, 9), (6, 10)] [] V u.1 ∧ agL [6] L u.2 ∧ (0 ≤ r.toInt ∧ r.toInt ≤ 1) ∧ (RdT gT gs gy gw r.toInt (u.1 1 3).toInt (fun s9 sn => RelC u.1 u.2 b gT s9 ∧ keepS gs 1 s9 ∧ UND (u.1 1 7) gs.1 sn ∧ keepL gs s9))) (fun u t => gq D A (xw ad kk u.1 u.2 Z) (xty kk Z) t) A
set_option maxHeartbeats 4000000 in
set_option maxRecDepth 100000 in
theorem x_takeTypes3 (l : Launch) (D : va_G) (ks : KS) (sz : Nat) (ad : Nat → Nat) (kk : Nat → ClassId) (V : Vf) (L : Lf) (Z : XZ) (b : Nat) (gT : Tk) (gs : St) (gy : Int) (gw : Int64) (hMV : rgd bX V) (hb2 : b < 2) (rbk : (V 1 1).toInt = (b : Int)) (rel : RelC V L b gT gs) (tyc : TYc V b gs)  : Met l yX1_takeTypes (Cond.code yX1_takeTypes cX1_takeTypes 3 (some .boolean) :: GW) r_x_takeTypes3 (va_Pc [.ref (ad 1)] (gp D ks (xw ad kk V L Z) (xty kk Z) sz)) (q_x_takeTypes3 D ks ad kk V L Z  b gT gs gy gw (va_A (xw ad kk V L Z) sz)) 0 0 (va_A (xw ad kk V L Z) sz) := by
  refine g_met (q_x_takeTypes3 D ks ad kk V L Z  b gT gs gy gw) (by decide) (Nat.le_of_ble_eq_true rfl) ?_
  intro p e s m below meth c A ls H locs hx hb hr hml hown hg hlocks hin hnw hgk hP hK hD hS hA hl
  have hown : s.vm.findClass RX1 = some m.cls := hown
  have hl : lv_has ls 3 [(0, .ref (ad 1))] := hl
  have hP : va_P D vwCl (xw ad kk V L Z) H := hP
  have hD : va_D A (xw ad kk V L Z) := hD
  have hK : va_K D vwCl (xty kk Z) s := hK
  have agV : agr [(1, 3), (1, 6), (1, 7), (6, 8), (6, 9), (6, 10)] [] V V := agr.rf
  have alL : agL [6] L L := agL.rf
  have r1 : (-1) ≤ ((V 1 1)).toInt ∧ ((V 1 1)).toInt ≤ 1 := hMV 1 1
  refine lv_iconst (v := 0) hx hb dX1_takeTypes_0 (by decide) ?_
  refine lv_istore_n (lv' := [(1, .int 0), (0, .ref (ad 1))]) hx hb dX1_takeTypes_1 rfl hl (by decide) rfl (fun ls hl => ?_)
  refine lv_aload_n hx hb dX1_takeTypes_2 rfl (lv_at hl 1 rfl) ?_
  refine lv_iconst (v := 0) hx hb dX1_takeTypes_3 (by decide) ?_
  refine va_put (D := D) (ci := 1) (v := .int 0) (ty := tyX1 7) (fs := (xfReader ad V L Z)) (C := RX1) (T := TX1) (N := 9) hx hb hg inX1 tyX1 tyX1_ok nmX1 hown hK hP hD hS 1 xgReader rfl 7 (by decide) (hg _ w311) (fun _ h9 => h9) rfl (tyX1_ok 7 (by decide)) rfl rfl (Nat.le_of_ble_eq_true rfl) dX1_takeTypes_4 (fun H locs hP hD hS => ?_)
  obtain ⟨V2, hV2⟩ : ∃ z, z = up2 V 1 7 0 := ⟨_, rfl⟩
  have ew3 : (xw ad kk V L Z).set 1 ((ad 1), .inr (1, (xfReader ad V L Z).set 7 (.int 0))) = xw ad kk V2 L Z := by rw [hV2]; exact xw_ss (by decide) rfl (xb_si (by decide))
  have hP : va_P D vwCl (xw ad kk V2 L Z) H := by rw [← ew3]; exact hP
  have hD : va_D A (xw ad kk V2 L Z) := by rw [← ew3]; exact hD
  have hMV2 : rgd bX V2 := hMV.put hV2 (i_full _)
  have agV2 : agr [(1, 3), (1, 6), (1, 7), (6, 8), (6, 9), (6, 10)] [] V V2 := agV.up hV2 rfl
  refine lv_iconst (v := 0) hx hb dX1_takeTypes_7 (by decide) ?_
  refine lv_istore_n (lv' := [(2, .int 0), (1, .int 0), (0, .ref (ad 1))]) hx hb dX1_takeTypes_8 rfl hl (by decide) rfl (fun ls hl => ?_)
  have lp8 : ∀ (fulp8 : Nat) (y4 : Int32) (y5 : Int32) (V6 : Vf) (L7 : Lf) (H : Heap) (locs : List Loc) (ls : Array Slot), 0 ≤ y4.toInt ∧ y4.toInt ≤ 6 → (∃ (s1 : St) (sn : List Nat), (∀ k, Rc gT (Crun gs (Itypes gy gw 0 [] :: k)) (Crun s1 (Itypes gy gw y4.toInt.toNat sn :: k))) ∧ RelC V6 L7 b gT s1 ∧ keepS gs 0 s1 ∧ SEEN y5 sn ∧ UND (V6 1 7) gs.1 sn ∧ keepL gs s1) → (V6 1 1).toInt = (b : Int) → 7 - y4.toInt < (fulp8 : Int) → agL [6] L L7 → agr [(1, 3), (1, 6), (1, 7), (6, 8), (6, 9), (6, 10)] [] V2 V6 → rgd bX V6 → va_P D vwCl (xw ad kk V6 L7 Z) H → va_D A (xw ad kk V6 L7 Z) → va_S A s.heap H locs → lv_has ls 3 [(2, .int y4), (1, .int y5), (0, .ref (ad 1))] → W p l e r_x_takeTypes3 s m ([.ref (ad 1)] : List Value).toArray below meth c H locs 0 0 (MQ below (q_x_takeTypes3 D ks ad kk V L Z  b gT gs gy gw A) ([.ref (ad 1)] : List Value).toArray s 0 0 A) (F0 m 9 ls []) := by
    intro fulp8
    induction fulp8 with
    | zero =>
      intro y4 y5 V6 L7 H locs ls klp8_0 xlp8_0 xlp8_1 hn alL7 ajV6 hMV6 hP hD hS hl
      exfalso; (first | exact om_c9eec6a79f34 klp8_0.2 hn | omega)
    | succ fulp8 ihlp8 =>
      intro y4 y5 V6 L7 H locs ls klp8_0 xlp8_0 xlp8_1 hn alL7 ajV6 hMV6 hP hD hS hl
      have agV6 : agr [(1, 3), (1, 6), (1, 7), (6, 8), (6, 9), (6, 10)] [] V V6 := agV2.tr ajV6 (by decide) (by decide)
      have pq9 : (V6 1 1).toInt = ((V 1 1)).toInt := congrArg Int32.toInt ((ajV6 1 1 rfl).trans (up2_k hV2 (by decide)))
      refine lv_iload_n hx hb dX1_takeTypes_9 rfl (lv_at hl 0 rfl) ?_
      obtain ⟨s1, sn, hq, rq, kq, sq, uq, lq⟩ := xlp8_0
      refine lv_bipush (v := 6) hx hb dX1_takeTypes_10 (by decide) ?_
      refine lv_icmp_gt (tgt := 117) hx hb dX1_takeTypes_12 (by decide) (fun c10 => ?_) (fun c10 => ?_)
      · skip
        have f11 : 6 < y4.toInt := b_lt (by decide) rfl c10
        exfalso; (first | exact om_50d654328658 klp8_0.2 f11 | omega)
      · skip
        have f12 : y4.toInt ≤ 6 := b_nlt (by decide) rfl c10
        refine lv_aload_n hx hb dX1_takeTypes_15 rfl (lv_at hl 2 rfl) ?_
        refine gA_int (gA_runV (As := []) (rest := []) (ci := 1) (q0 := 1) hx hb hml hown hg hP hD hK hS hA hnw hgk (x_isToldType3 l D ks H.size ad kk V6 L7 Z (b) (gT) (s1) hMV6 (show b < 2 from by (first | exact om_ddd9fa46ae4d rbk r1.2 | omega)) (show (V6 1 1).toInt = (b : Int) from by (first | exact om_adf531c77a0d rbk pq9 | omega)) rq) w888 w890 w9 w162 w891 rfl xgReader hdV_yX1_isToldType ⟨Nat.le_of_ble_eq_true rfl, Nat.le_of_ble_eq_true rfl⟩ rfl hl.1 rfl (Nat.le_of_ble_eq_true rfl) dX1_takeTypes_16 ⟨Nat.le_of_ble_eq_true rfl, Nat.le_of_ble_eq_true rfl⟩) hP hD hK hS hA (fun z13 u14 H locs w15 hP hD hK hS => ?_)
        obtain ⟨V17, L18⟩ := u14
        obtain ⟨hMV17, ajV17, axL18, rgz13, t16⟩ := w15
        have axL18 : L7 = L18 := Eq.symm axL18
        subst axL18
        have hP : va_P D vwCl (xw ad kk V17 L7 Z) H := hP
        have hD : va_D A (xw ad kk V17 L7 Z) := hD
        have hMV17 : rgd bX V17 := hMV17
        have ajV17 : agr [(1, 3), (1, 6)] [] V6 V17 := ajV17
        have agV17 : agr [(1, 3), (1, 6), (1, 7), (6, 8), (6, 9), (6, 10)] [] V V17 := agV6.tr ajV17 (by decide) (by decide)
        have rgz13 : 0 ≤ z13.toInt ∧ z13.toInt ≤ 1 := rgz13
        have t16 : KcN (look gT s1 (s1.2.1 0)) z13.toInt (V17 1 3).toInt (fun f9 => RelC V17 L7 b gT s1 ∧ (V17 1 6).toInt = ((f9 : Nat) : Int) ∧ f9 < 24) := t16
        rcases t16 with ⟨q19, fx20, h21, rl22, hf23, hb24⟩ | ⟨q19, h21⟩
        · skip
          have kn25 := look_ne h21
          have kd26 : gT.1 (s1.1 0) = ((V6 6 9)).toInt := (RelC.kd rl22).trans (congrArg Int32.toInt (ajV17 6 9 rfl))
          refine lv_if_ne (tgt := 24) hx hb dX1_takeTypes_19 (by decide) (fun c27 => ?_) (fun c27 => ?_)
          · skip
            have f28 : z13.toInt ≠ 0 := b_neq rfl (by decide) c27
            refine lv_iload_n hx hb dX1_takeTypes_24 rfl (lv_at hl 1 rfl) ?_
            refine lv_aload_n hx hb dX1_takeTypes_25 rfl (lv_at hl 2 rfl) ?_
            refine va_get (D := D) (ci := 1) (v := .int (V17 1 6)) (fs := (xfReader ad V17 L7 Z)) (C := RX1) (T := TX1) (N := 9) hx hb hg inX1 hown hK hP 1 xgReader rfl 6 (by decide) (hg _ w310) (fun _ h9 => h9) rfl dX1_takeTypes_26 ?_
            have r29 : (-1) ≤ ((V17 1 6)).toInt ∧ ((V17 1 6)).toInt ≤ 23 := hMV17 1 6
            refine lv_ishr hx hb dX1_takeTypes_29 ?_
            refine lv_topi (fun z30 ez30 => ?_)
            refine lv_iconst (v := 1) hx hb dX1_takeTypes_30 (by decide) ?_
            refine lv_iand hx hb dX1_takeTypes_31 ?_
            refine lv_topi (fun z31 ez31 => ?_)
            have hz31 : 0 ≤ z31.toInt ∧ z31.toInt ≤ 1 := and_m ez31 (by decide)
            refine lv_if_eq (tgt := 41) hx hb dX1_takeTypes_32 (by decide) (fun c32 => ?_) (fun c32 => ?_)
            · skip
              have f33 : z31.toInt = 0 := b_eq rfl (by decide) c32
              refine lv_iload_n hx hb dX1_takeTypes_41 rfl (lv_at hl 0 rfl) ?_
              refine lv_bipush (v := 6) hx hb dX1_takeTypes_42 (by decide) ?_
              refine lv_icmp_ne (tgt := 53) hx hb dX1_takeTypes_44 (by decide) (fun c34 => ?_) (fun c34 => ?_)
              · skip
                have f35 : y4.toInt ≠ 6 := b_neq rfl (by decide) c34
                have nn36 : fx20 ∉ sn := (SEEN.no sq ez30 ez31 hf23 hb24 (by omega))
                have hr37 : ∀ k, Rc gT (Crun gs (Itypes gy gw 0 [] :: k)) (Crun (nx s1 1) (Imore gy gw (y4.toInt.toNat + 1) (fx20 :: sn) :: k)) := fun k => Rc.go1 (hq k) (ty_y h21 nn36 (by omega))
                refine lv_iload_n hx hb dX1_takeTypes_53 rfl (lv_at hl 1 rfl) ?_
                refine lv_iconst (v := 1) hx hb dX1_takeTypes_54 (by decide) ?_
                refine lv_aload_n hx hb dX1_takeTypes_55 rfl (lv_at hl 2 rfl) ?_
                refine va_get (D := D) (ci := 1) (v := .int (V17 1 6)) (fs := (xfReader ad V17 L7 Z)) (C := RX1) (T := TX1) (N := 9) hx hb hg inX1 hown hK hP 1 xgReader rfl 6 (by decide) (hg _ w310) (fun _ h9 => h9) rfl dX1_takeTypes_56 ?_
                refine lv_ishl hx hb dX1_takeTypes_59 ?_
                refine lv_topi (fun z38 ez38 => ?_)
                refine lv_ior hx hb dX1_takeTypes_60 ?_
                refine lv_topi (fun z39 ez39 => ?_)
                refine lv_istore_n (lv' := [(1, .int z39), (2, .int y4), (0, .ref (ad 1))]) hx hb dX1_takeTypes_61 rfl hl (by decide) rfl (fun ls hl => ?_)
                refine lv_aload_n hx hb dX1_takeTypes_62 rfl (lv_at hl 2 rfl) ?_
                refine lv_dup hx hb dX1_takeTypes_63 rfl ?_
                refine va_get (D := D) (ci := 1) (v := .int (V17 1 7)) (fs := (xfReader ad V17 L7 Z)) (C := RX1) (T := TX1) (N := 9) hx hb hg inX1 hown hK hP 1 xgReader rfl 7 (by decide) (hg _ w311) (fun _ h9 => h9) rfl dX1_takeTypes_64 ?_
                refine g_top (v := (V6 1 7)) (ajV17 1 7 rfl) ?_
                refine lv_aload_n hx hb dX1_takeTypes_67 rfl (lv_at hl 2 rfl) ?_
                refine va_get (D := D) (ci := 1) (v := rfN ad 38 (V17 1 1)) (fs := (xfReader ad V17 L7 Z)) (C := RX1) (T := TX1) (N := 9) hx hb hg inX1 hown hK hP 1 xgReader rfl 1 (by decide) (hg _ w305) (fun _ h9 => h9) rfl dX1_takeTypes_68 ?_
                have pq40 : (V17 1 1).toInt = ((V 1 1)).toInt := congrArg Int32.toInt ((ajV17 1 1 rfl).trans ((ajV6 1 1 rfl).trans (up2_k hV2 (by decide))))
                refine g_topv (v := .ref (ad (38 + b))) (rfN_r (by omega)) ?_
                refine va_getN (D := D) (ci := 0) (v := .ref (ad (60 + b))) (fs := (xfBook ad V17 b)) (C := RX0) (T := TX0) (N := 13) hx hb hg inX0 hown hK hP (38 + b) (xgBook hb2) rfl 5 (by decide) (hnw.use 609 n609 rfl) (fun _ h9 => h9) rfl dX1_takeTypes_71 ?_
                refine lv_aload_n hx hb dX1_takeTypes_74 rfl (lv_at hl 2 rfl) ?_
                refine va_get (D := D) (ci := 1) (v := .int (V17 1 6)) (fs := (xfReader ad V17 L7 Z)) (C := RX1) (T := TX1) (N := 9) hx hb hg inX1 hown hK hP 1 xgReader rfl 6 (by decide) (hg _ w310) (fun _ h9 => h9) rfl dX1_takeTypes_75 ?_
                have il41 : b < 2 := by (first | exact om_ddd9fa46ae4d rbk r1.2 | omega)
                refine va_iald (D := D) (i := (V17 1 6)) hx hb hK hP (60 + b) (53 + b) (xgtypeUnder il41) (xttypeUnder il41) (i_in (a := ((V17 1 6)).toInt) rfl (by omega)) dX1_takeTypes_78 ?_
                have kc42 := i_clamp (x := (V17 1 6)) rfl (by omega)
                refine g_top (v := V17 45 (24 * b + (Int32.toNatClampNeg (V17 1 6)))) (if_pos (by omega)) ?_
                refine g_top (v := (V 45 (24 * b + (Int32.toNatClampNeg (V17 1 6))))) ((ajV17 45 (24 * b + (Int32.toNatClampNeg (V17 1 6))) rfl).trans ((ajV6 45 (24 * b + (Int32.toNatClampNeg (V17 1 6))) rfl).trans (up2_o hV2 (by decide)))) ?_
                refine lv_ior hx hb dX1_takeTypes_79 ?_
                refine lv_topi (fun z43 ez43 => ?_)
                have lt9 : fx20 < (gs.2.1 0).length := by have h9 := look_lt h21; rw [((keepS.tr (keepS.rf : keepS gs 0 gs) kq)).2.2.1 0 (by decide)] at h9; exact h9
                have kf9 : Int32.toNatClampNeg (V17 1 6) = fx20 := by have h9 := i_clamp (x := (V17 1 6)) rfl (by (first | exact om_50dfdfbb9dc6 kc42 | omega)); omega
                have un44 : UND z43 gs.1 (fx20 :: sn) := UND.add (t := fx20) (uq) ez43 (fun g hg => by rw [kf9]; exact tyc fx20 lt9 g hg)
                refine va_put (D := D) (ci := 1) (v := .int z43) (ty := tyX1 7) (fs := (xfReader ad V17 L7 Z)) (C := RX1) (T := TX1) (N := 9) hx hb hg inX1 tyX1 tyX1_ok nmX1 hown hK hP hD hS 1 xgReader rfl 7 (by decide) (hg _ w311) (fun _ h9 => h9) rfl (tyX1_ok 7 (by decide)) rfl rfl (Nat.le_of_ble_eq_true rfl) dX1_takeTypes_80 (fun H locs hP hD hS => ?_)
                obtain ⟨V45, hV45⟩ : ∃ z, z = up2 V17 1 7 z43 := ⟨_, rfl⟩
                have ew46 : (xw ad kk V17 L7 Z).set 1 ((ad 1), .inr (1, (xfReader ad V17 L7 Z).set 7 (.int z43))) = xw ad kk V45 L7 Z := by rw [hV45]; exact xw_ss (by decide) rfl (xb_si (by decide))
                have hP : va_P D vwCl (xw ad kk V45 L7 Z) H := by rw [← ew46]; exact hP
                have hD : va_D A (xw ad kk V45 L7 Z) := by rw [← ew46]; exact hD
                have hMV45 : rgd bX V45 := hMV17.put hV45 (i_full _)
                have agV45 : agr [(1, 3), (1, 6), (1, 7), (6, 8), (6, 9), (6, 10)] [] V V45 := agV17.up hV45 rfl
                refine lv_aload_n hx hb dX1_takeTypes_83 rfl (lv_at hl 2 rfl) ?_
                refine va_get (D := D) (ci := 1) (v := .ref (ad 6)) (fs := (xfReader ad V45 L7 Z)) (C := RX1) (T := TX1) (N := 9) hx hb hg inX1 hown hK hP 1 xgReader rfl 0 (by decide) (hg _ w304) (fun _ h9 => h9) rfl dX1_takeTypes_84 ?_
                have rl47 : RelC V45 L7 b gT s1 := RelC.ag rl22 (show agr [(1, 7)] [] V17 V45 from (agr.up agr.rf hV45 rfl)) (by decide) (show agL [] L7 L7 from agL.rf) (by decide)
                have l848 := RelC.l8 rl47
                have pq49 : (V45 6 8).toInt = ((V6 6 8)).toInt := congrArg Int32.toInt ((up2_o hV45 (by decide)).trans (ajV17 6 8 rfl))
                have r50 : 0 ≤ ((V6 6 8)).toInt ∧ ((V6 6 8)).toInt ≤ 4000 := hMV6 6 8
                have pq51 : (V45 6 7).toInt = ((V 6 7)).toInt := congrArg Int32.toInt ((up2_o hV45 (by decide)).trans ((ajV17 6 7 rfl).trans ((ajV6 6 7 rfl).trans (up2_o hV2 (by decide)))))
                have r52 : 0 ≤ ((V 6 7)).toInt ∧ ((V 6 7)).toInt ≤ 4000 := hMV 6 7
                have pq53 : (V45 6 9).toInt = ((V6 6 9)).toInt := congrArg Int32.toInt ((up2_o hV45 (by decide)).trans (ajV17 6 9 rfl))
                have lk54 := RelC.lk rl47 (show (V45 6 9).toInt ≠ 0 from by omega)
                refine gA_void (gA_runV (As := []) (rest := []) (ci := 9) (q0 := 6) hx hb hml hown hg hP hD hK hS hA hnw hgk (x_next2 l D ks H.size ad kk V45 L7 Z  hMV45 (show (V45 6 8).toInt ≤ (V45 6 7).toInt from by (first | exact om_f4906d00fa52 l848 | omega))) w871 w852 w853 w157 w854 rfl xgTape hdV_yX9_next ⟨Nat.le_of_ble_eq_true rfl, Nat.le_of_ble_eq_true rfl⟩ rfl hl.1 rfl (Nat.le_of_ble_eq_true rfl) dX1_takeTypes_87 ⟨Nat.le_of_ble_eq_true rfl, Nat.le_of_ble_eq_true rfl⟩) hP hD hK hS hA (fun u56 H locs w57 hP hD hK hS => ?_)
                obtain ⟨V60, L61⟩ := u56
                obtain ⟨hMV60, ajV60, axL61, t58, t59⟩ := w57
                have alL61 : agL [6] L L61 := agL.tr alL7 axL61 (by decide)
                have hP : va_P D vwCl (xw ad kk V60 L61 Z) H := hP
                have hD : va_D A (xw ad kk V60 L61 Z) := hD
                have hMV60 : rgd bX V60 := hMV60
                have ajV60 : agr [(6, 8), (6, 9), (6, 10)] [] V45 V60 := ajV60
                have agV60 : agr [(1, 3), (1, 6), (1, 7), (6, 8), (6, 9), (6, 10)] [] V V60 := agV45.tr ajV60 (by decide) (by decide)
                have t58 : (V60 6 8).toInt ≤ (V60 6 7).toInt := t58
                have t59 : CUR V60 L61 (Int32.toNatClampNeg (V45 6 8)) := t59
                have r62 : 0 ≤ ((V60 6 8)).toInt ∧ ((V60 6 8)).toInt ≤ 4000 := hMV60 6 8
                have pq63 : (V60 6 7).toInt = ((V 6 7)).toInt := congrArg Int32.toInt ((ajV60 6 7 rfl).trans ((up2_o hV45 (by decide)).trans ((ajV17 6 7 rfl).trans ((ajV6 6 7 rfl).trans (up2_o hV2 (by decide))))))
                have rl64 : RelC V60 L61 b gT (nx s1 1) := RelC.nx1 rl47 ajV60 (by decide) axL61 (by decide) (by rw [← lk54]; exact t59) (ajV60 1 3 rfl)
                refine lv_aload_n hx hb dX1_takeTypes_90 rfl (lv_at hl 2 rfl) ?_
                refine va_get (D := D) (ci := 1) (v := .ref (ad 6)) (fs := (xfReader ad V60 L61 Z)) (C := RX1) (T := TX1) (N := 9) hx hb hg inX1 hown hK hP 1 xgReader rfl 0 (by decide) (hg _ w304) (fun _ h9 => h9) rfl dX1_takeTypes_91 ?_
                refine va_getN (D := D) (ci := 9) (v := .int (V60 6 9)) (fs := (xfTape ad V60 L61 Z)) (C := RX9) (T := TX9) (N := 12) hx hb hg inX9 hown hK hP 6 xgTape rfl 9 (by decide) (hnw.use 262 n262 rfl) (fun _ h9 => h9) rfl dX1_takeTypes_94 ?_
                refine lv_bipush (v := 44) hx hb dX1_takeTypes_97 (by decide) ?_
                refine lv_icmp_eq (tgt := 104) hx hb dX1_takeTypes_99 (by decide) (fun c65 => ?_) (fun c65 => ?_)
                · skip
                  have f66 : ((V60 6 9)).toInt = 44 := b_eq rfl (by decide) c65
                  refine lv_aload_n hx hb dX1_takeTypes_104 rfl (lv_at hl 2 rfl) ?_
                  refine va_get (D := D) (ci := 1) (v := .ref (ad 6)) (fs := (xfReader ad V60 L61 Z)) (C := RX1) (T := TX1) (N := 9) hx hb hg inX1 hown hK hP 1 xgReader rfl 0 (by decide) (hg _ w304) (fun _ h9 => h9) rfl dX1_takeTypes_105 ?_
                  have kd67 : gT.1 ((nx s1 1).1 0) = ((V60 6 9)).toInt := RelC.kd rl64
                  have hr68 : ∀ k, Rc gT (Crun gs (Itypes gy gw 0 [] :: k)) (Crun (nx (nx s1 1) 1) (Itypes gy gw (y4.toInt.toNat + 1) (fx20 :: sn) :: k)) := fun k => Rc.go1 (hr37 k) (more_y gy gw (y4.toInt.toNat + 1) (fx20 :: sn) (kd67.trans f66))
                  have l869 := RelC.l8 rl64
                  have lk70 := RelC.lk rl64 (show (V60 6 9).toInt ≠ 0 from by (first | exact om_41216cac6d14 f66 | omega))
                  refine gA_void (gA_runV (As := []) (rest := []) (ci := 9) (q0 := 6) hx hb hml hown hg hP hD hK hS hA hnw hgk (x_next2 l D ks H.size ad kk V60 L61 Z  hMV60 (show (V60 6 8).toInt ≤ (V60 6 7).toInt from by (first | exact om_f4906d00fa52 t58 | omega))) w871 w852 w853 w157 w854 rfl xgTape hdV_yX9_next ⟨Nat.le_of_ble_eq_true rfl, Nat.le_of_ble_eq_true rfl⟩ rfl hl.1 rfl (Nat.le_of_ble_eq_true rfl) dX1_takeTypes_108 ⟨Nat.le_of_ble_eq_true rfl, Nat.le_of_ble_eq_true rfl⟩) hP hD hK hS hA (fun u72 H locs w73 hP hD hK hS => ?_)
                  obtain ⟨V76, L77⟩ := u72
                  obtain ⟨hMV76, ajV76, axL77, t74, t75⟩ := w73
                  have alL77 : agL [6] L L77 := agL.tr alL61 axL77 (by decide)
                  have hP : va_P D vwCl (xw ad kk V76 L77 Z) H := hP
                  have hD : va_D A (xw ad kk V76 L77 Z) := hD
                  have hMV76 : rgd bX V76 := hMV76
                  have ajV76 : agr [(6, 8), (6, 9), (6, 10)] [] V60 V76 := ajV76
                  have agV76 : agr [(1, 3), (1, 6), (1, 7), (6, 8), (6, 9), (6, 10)] [] V V76 := agV60.tr ajV76 (by decide) (by decide)
                  have t74 : (V76 6 8).toInt ≤ (V76 6 7).toInt := t74
                  have t75 : CUR V76 L77 (Int32.toNatClampNeg (V60 6 8)) := t75
                  have r78 : 0 ≤ ((V76 6 8)).toInt ∧ ((V76 6 8)).toInt ≤ 4000 := hMV76 6 8
                  have pq79 : (V76 6 7).toInt = ((V 6 7)).toInt := congrArg Int32.toInt ((ajV76 6 7 rfl).trans ((ajV60 6 7 rfl).trans ((up2_o hV45 (by decide)).trans ((ajV17 6 7 rfl).trans ((ajV6 6 7 rfl).trans (up2_o hV2 (by decide)))))))
                  have rl80 : RelC V76 L77 b gT (nx (nx s1 1) 1) := RelC.nx1 rl64 ajV76 (by decide) axL77 (by decide) (by rw [← lk70]; exact t75) (ajV76 1 3 rfl)
                  obtain ⟨z81, ez81⟩ : ∃ y : Int32, y = y4 + 1 := ⟨_, rfl⟩
                  have hz81 : z81.toInt = y4.toInt + 1 := i_add ez81 rfl (by decide) (by (first | exact om_875f8b1f1696 klp8_0.1 klp8_0.2 f35 | omega))
                  refine lv_iinc (v := z81) (lv' := [(2, .int z81), (1, .int z39), (0, .ref (ad 1))]) hx hb dX1_takeTypes_111 hl (k := 1) rfl (by rw [ez81]; rfl) (by decide) rfl (fun ls hl => ?_)
                  refine lv_goto (tgt := 9) hx hb dX1_takeTypes_114 (by decide) ?_
                  have pq82 : (V76 1 1).toInt = ((V 1 1)).toInt := congrArg Int32.toInt ((ajV76 1 1 rfl).trans ((ajV60 1 1 rfl).trans ((up2_k hV45 (by decide)).trans ((ajV17 1 1 rfl).trans ((ajV6 1 1 rfl).trans (up2_k hV2 (by decide)))))))
                  exact ihlp8 z81 z39 V76 L77 H locs ls (by (first | exact om_6575912fbdd9 klp8_0.1 klp8_0.2 f35 hz81 | omega)) ⟨(nx (nx s1 1) 1), (fx20 :: sn), (by rw [show z81.toInt.toNat = (y4.toInt.toNat + 1) from by omega]; exact hr68), rl80, keepS.le (keepS.tr (keepS.tr (keepS.tr (keepS.rf : keepS gs 0 gs) kq) (keepS.n1 1)) (keepS.n1 1)) (by decide), SEEN.add sq ez38 ez39 hf23 hb24, (show UND (V76 1 7) gs.1 _ from by rw [show V76 1 7 = z43 from ((ajV76 1 7 rfl).trans ((ajV60 1 7 rfl).trans (up2_s hV45)))]; exact un44), (show keepL gs (nx (nx s1 1) 1) from fun j9 h9 => ((show ∀ j9, 5 ≤ j9 → (nx (nx s1 1) 1).2.1 j9 = (nx s1 1).2.1 j9 from fun _ _ => rfl) j9 h9).trans ((show keepL gs (nx s1 1) from fun j9 h9 => ((show ∀ j9, 5 ≤ j9 → (nx s1 1).2.1 j9 = s1.2.1 j9 from fun _ _ => rfl) j9 h9).trans ((show keepL gs s1 from fun j9 h9 => ((show ∀ j9, 5 ≤ j9 → s1.2.1 j9 = gs.2.1 j9 from lq) j9 h9).trans ((show keepL gs gs from fun _ _ => rfl) j9 h9)) j9 h9)) j9 h9))⟩ (show (V76 1 1).toInt = (b : Int) from by (first | exact om_adf531c77a0d rbk pq82 | omega)) (by (first | exact om_a70d25fae593 hn hz81 | omega)) alL77 (agr.tr (agr.tr (agr.up (agr.tr (agr.tr agr.rf ajV6 (by decide) (by decide)) ajV17 (by decide) (by decide)) hV45 rfl) ajV60 (by decide) (by decide)) ajV76 (by decide) (by decide)) hMV76 hP hD hS (lv_sub hl [0, 1, 2] rfl)
                · skip
                  have f83 : ((V60 6 9)).toInt ≠ 44 := b_neq rfl (by decide) c65
                  refine lv_iconst (v := 1) hx hb dX1_takeTypes_102 (by decide) ?_
                  have kd84 : gT.1 ((nx s1 1).1 0) = ((V60 6 9)).toInt := RelC.kd rl64
                  have hr85 : ∀ k, Rc gT (Crun gs (Itypes gy gw 0 [] :: k)) (Crun (nx s1 1) (ItyD gy gw (fx20 :: sn) :: k)) := fun k => Rc.go1 (hr37 k) (more_n gy gw (y4.toInt.toNat + 1) (fx20 :: sn) (fun h9 => f83 (kd84.symm.trans h9)))
                  exact W.zret (v := 1) hx hb hr rfl (fun t ht hW => ⟨⟨1, (V60, L61), rfl, ⟨hMV60, agV60, alL61, (by decide), (Or.inl ⟨rfl, (nx s1 1), (fx20 :: sn), hr85, rl64, keepS.le (keepS.tr (keepS.tr (keepS.rf : keepS gs 0 gs) kq) (keepS.n1 1)) (by decide), (show UND (V60 1 7) gs.1 _ from by rw [show V60 1 7 = z43 from ((ajV60 1 7 rfl).trans (up2_s hV45))]; exact un44), (show keepL gs (nx s1 1) from fun j9 h9 => ((show ∀ j9, 5 ≤ j9 → (nx s1 1).2.1 j9 = s1.2.1 j9 from fun _ _ => rfl) j9 h9).trans ((show keepL gs s1 from fun j9 h9 => ((show ∀ j9, 5 ≤ j9 → s1.2.1 j9 = gs.2.1 j9 from lq) j9 h9).trans ((show keepL gs gs from fun _ _ => rfl) j9 h9)) j9 h9))⟩)⟩, by rw [ht]; exact hP, va_K.moved hW.alike hK, hD⟩, hS.F ht⟩) hS.2.2 dX1_takeTypes_103
              · skip
                have f86 : y4.toInt = 6 := b_eq rfl (by decide) c34
                refine lv_aload_n hx hb dX1_takeTypes_47 rfl (lv_at hl 2 rfl) ?_
                refine lv_iconst (v := 5) hx hb dX1_takeTypes_48 (by decide) ?_
                have r87 : Int32.toInt 5 = 5 := by decide
                refine gA_int (gA_runV (As := [.int 5]) (rest := []) (ci := 1) (q0 := 1) hx hb hml hown hg hP hD hK hS hA hnw hgk (x_wrong2 l D ks H.size ad kk V17 L7 Z 5 hMV17 (by decide)) w867 w869 w6 w162 w870 rfl xgReader hdV_yX1_wrong ⟨Nat.le_of_ble_eq_true rfl, Nat.le_of_ble_eq_true rfl⟩ rfl hl.1 rfl (Nat.le_of_ble_eq_true rfl) dX1_takeTypes_49 ⟨Nat.le_of_ble_eq_true rfl, Nat.le_of_ble_eq_true rfl⟩) hP hD hK hS hA (fun z88 u89 H locs w90 hP hD hK hS => ?_)
                obtain ⟨V93, L94⟩ := u89
                obtain ⟨hMV93, ajV93, axL94, rgz88, t91, t92⟩ := w90
                have axL94 : L7 = L94 := Eq.symm axL94
                subst axL94
                have hP : va_P D vwCl (xw ad kk V93 L7 Z) H := hP
                have hD : va_D A (xw ad kk V93 L7 Z) := hD
                have hMV93 : rgd bX V93 := hMV93
                have ajV93 : agr [(1, 3)] [] V17 V93 := ajV93
                have agV93 : agr [(1, 3), (1, 6), (1, 7), (6, 8), (6, 9), (6, 10)] [] V V93 := agV17.tr ajV93 (by decide) (by decide)
                have rgz88 : 0 ≤ z88.toInt ∧ z88.toInt ≤ 0 := rgz88
                have t91 : 1 ≤ (V93 1 3).toInt := t91
                have t92 : (V93 1 3).toInt = (Int32.toInt 5) + 16 * (V17 6 10).toInt := t92
                have pq95 : (V17 6 10).toInt = ((V6 6 10)).toInt := congrArg Int32.toInt (ajV17 6 10 rfl)
                have r96 : 0 ≤ ((V6 6 10)).toInt ∧ ((V6 6 10)).toInt ≤ 4000 := hMV6 6 10
                have hb97 : ∀ k, Rc gT (Crun gs (Itypes gy gw 0 [] :: k)) (Cbad (V93 1 3).toInt) := fun k => Rc.go1 (hq k) ((ty_5 h21 (SEEN.no sq ez30 ez31 hf23 hb24 (by omega)) (by omega)).trans (fl_eq (RelC.st rl22) (show (V93 1 3).toInt = 5 + 16 * (V17 6 10).toInt from by (first | exact om_fd8d4a8321fd r87 t92 | omega))))
                exact W.zret (v := z88) hx hb hr (nb_ok (by omega)) (fun t ht hW => ⟨⟨z88, (V93, L7), rfl, ⟨hMV93, agV93, alL7, (show 0 ≤ z88.toInt ∧ z88.toInt ≤ 1 from by (first | exact om_641b3f05f166 rgz88.1 rgz88.2 | omega)), (Or.inr ⟨(by omega), hb97⟩)⟩, by rw [ht]; exact hP, va_K.moved hW.alike hK, hD⟩, hS.F ht⟩) hS.2.2 dX1_takeTypes_52
            · skip
              have f98 : z31.toInt ≠ 0 := b_neq rfl (by decide) c32
              refine lv_aload_n hx hb dX1_takeTypes_35 rfl (lv_at hl 2 rfl) ?_
              refine lv_iconst (v := 3) hx hb dX1_takeTypes_36 (by decide) ?_
              have r99 : Int32.toInt 3 = 3 := by decide
              refine gA_int (gA_runV (As := [.int 3]) (rest := []) (ci := 1) (q0 := 1) hx hb hml hown hg hP hD hK hS hA hnw hgk (x_wrong2 l D ks H.size ad kk V17 L7 Z 3 hMV17 (by decide)) w867 w869 w6 w162 w870 rfl xgReader hdV_yX1_wrong ⟨Nat.le_of_ble_eq_true rfl, Nat.le_of_ble_eq_true rfl⟩ rfl hl.1 rfl (Nat.le_of_ble_eq_true rfl) dX1_takeTypes_37 ⟨Nat.le_of_ble_eq_true rfl, Nat.le_of_ble_eq_true rfl⟩) hP hD hK hS hA (fun z100 u101 H locs w102 hP hD hK hS => ?_)
              obtain ⟨V105, L106⟩ := u101
              obtain ⟨hMV105, ajV105, axL106, rgz100, t103, t104⟩ := w102
              have axL106 : L7 = L106 := Eq.symm axL106
              subst axL106
              have hP : va_P D vwCl (xw ad kk V105 L7 Z) H := hP
              have hD : va_D A (xw ad kk V105 L7 Z) := hD
              have hMV105 : rgd bX V105 := hMV105
              have ajV105 : agr [(1, 3)] [] V17 V105 := ajV105
              have agV105 : agr [(1, 3), (1, 6), (1, 7), (6, 8), (6, 9), (6, 10)] [] V V105 := agV17.tr ajV105 (by decide) (by decide)
              have rgz100 : 0 ≤ z100.toInt ∧ z100.toInt ≤ 0 := rgz100
              have t103 : 1 ≤ (V105 1 3).toInt := t103
              have t104 : (V105 1 3).toInt = (Int32.toInt 3) + 16 * (V17 6 10).toInt := t104
              have pq107 : (V17 6 10).toInt = ((V6 6 10)).toInt := congrArg Int32.toInt (ajV17 6 10 rfl)
              have r108 : 0 ≤ ((V6 6 10)).toInt ∧ ((V6 6 10)).toInt ≤ 4000 := hMV6 6 10
              have hb109 : ∀ k, Rc gT (Crun gs (Itypes gy gw 0 [] :: k)) (Cbad (V105 1 3).toInt) := fun k => Rc.go1 (hq k) ((ty_3 h21 (SEEN.yes sq ez30 ez31 hf23 hb24 (by omega))).trans (fl_eq (RelC.st rl22) (show (V105 1 3).toInt = 3 + 16 * (V17 6 10).toInt from by (first | exact om_b430a26e4567 r99 t104 | omega))))
              exact W.zret (v := z100) hx hb hr (nb_ok (by omega)) (fun t ht hW => ⟨⟨z100, (V105, L7), rfl, ⟨hMV105, agV105, alL7, (show 0 ≤ z100.toInt ∧ z100.toInt ≤ 1 from by (first | exact om_641b3f05f166 rgz100.1 rgz100.2 | omega)), (Or.inr ⟨(by omega), hb109⟩)⟩, by rw [ht]; exact hP, va_K.moved hW.alike hK, hD⟩, hS.F ht⟩) hS.2.2 dX1_takeTypes_40
          · skip
            have f110 : z13.toInt = 0 := b_eq rfl (by decide) c27
            exfalso; omega
        · skip
          have hb111 : ∀ k, Rc gT (Crun gs (Itypes gy gw 0 [] :: k)) (Cbad (V17 1 3).toInt) := fun k => Rc.go1 (hq k) (ty_b h21)
          refine lv_if_ne (tgt := 24) hx hb dX1_takeTypes_19 (by decide) (fun c112 => ?_) (fun c112 => ?_)
          · skip
            have f113 : z13.toInt ≠ 0 := b_neq rfl (by decide) c112
            exfalso; omega
          · skip
            have f114 : z13.toInt = 0 := b_eq rfl (by decide) c112
            refine lv_iconst (v := 0) hx hb dX1_takeTypes_22 (by decide) ?_
            exact W.zret (v := 0) hx hb hr rfl (fun t ht hW => ⟨⟨0, (V17, L7), rfl, ⟨hMV17, agV17, alL7, (by decide), (Or.inr ⟨rfl, hb111⟩)⟩, by rw [ht]; exact hP, va_K.moved hW.alike hK, hD⟩, hS.F ht⟩) hS.2.2 dX1_takeTypes_23
  have r115 : Int32.toInt 0 = 0 := by decide
  have pq116 : (V2 1 1).toInt = ((V 1 1)).toInt := congrArg Int32.toInt (up2_k hV2 (by decide))
  have rl117 : RelC V2 L b gT gs := RelC.ag rel (show agr [(1, 7)] [] V V2 from (agr.up agr.rf hV2 rfl)) (by decide) (show agL [] L L from agL.rf) (by decide)
  exact lp8 ((7 - (Int32.toInt 0) + 1 : Int).toNat) 0 0 V2 L H locs ls (by decide) ⟨gs, [], (by rw [show (Int32.toInt 0).toNat = 0 from by decide]; exact fun k => Rc.rf), rl117, keepS.rf, SEEN.z, (show UND (V2 1 7) gs.1 [] from by rw [show V2 1 7 = 0 from (up2_s hV2)]; exact UND.z _), (fun _ _ => rfl)⟩ (show (V2 1 1).toInt = (b : Int) from by (first | exact om_adf531c77a0d rbk pq116 | omega)) (by (first | exact om_315b81f799cb | omega)) alL agr.rf hMV2 hP hD hS (lv_sub hl [0, 1, 2] rfl)
abbrev r_x_putAlone3 : Room := { frames := 1, cells := 0, slots := 0, locals := 21 }
abbrev q_x_putAlone3 (D : va_G) (ks : KS) (ad : Nat → Nat) (kk : Nat → ClassId) (V : Vf) (L : Lf) (Z : XZ) (p0 : Int32) (b : Nat) (A : Nat → Prop) : Array Value → State → Outcome → State → Prop := va_Qi (fun (r : Int32) (u : Vf × Lf) => rgd bX u.1 ∧ agr [] [42, 48] V u.1 ∧ u.2 = L ∧ (1 ≤ r.toInt ∧ r.toInt ≤ 1) ∧ (emX V u.1 b p0)) (fun u t => gq D A (xw ad kk u.1 u.2 Z) (xty kk Z) t) A
set_option maxHeartbeats 4000000 in
set_option maxRecDepth 100000 in
theorem x_putAlone3 (l : Launch) (D : va_G) (ks : KS) (sz : Nat) (ad : Nat → Nat) (kk : Nat → ClassId) (V : Vf) (L : Lf) (Z : XZ) (p0 : Int32) (b : Nat) (hMV : rgd bX V) (hb2 : b < 2) (rbk : (V 1 1).toInt = (b : Int))  : Met l yX1_putAlone (Cond.code yX1_putAlone cX1_putAlone 2 (some .boolean) :: GW) r_x_putAlone3 (va_Pc [.ref (ad 1), .int p0] (gp D ks (xw ad kk V L Z) (xty kk Z) sz)) (q_x_putAlone3 D ks ad kk V L Z p0 b (va_A (xw ad kk V L Z) sz)) 0 0 (va_A (xw ad kk V L Z) sz) := by
  refine g_met (q_x_putAlone3 D ks ad kk V L Z p0 b) (by decide) (Nat.le_of_ble_eq_true rfl) ?_
  intro p e s m below meth c A ls H locs hx hb hr hml hown hg hlocks hin hnw hgk hP hK hD hS hA hl
  have hown : s.vm.findClass RX1 = some m.cls := hown
  have hl : lv_has ls 2 [(0, .ref (ad 1)), (1, .int p0)] := hl
  have hP : va_P D vwCl (xw ad kk V L Z) H := hP
  have hD : va_D A (xw ad kk V L Z) := hD
  have hK : va_K D vwCl (xty kk Z) s := hK
  have agV : agr [] [42, 48] V V := agr.rf
  have r1 : (-1) ≤ ((V 1 1)).toInt ∧ ((V 1 1)).toInt ≤ 1 := hMV 1 1
  refine lv_aload_n hx hb dX1_putAlone_0 rfl (lv_at hl 0 rfl) ?_
  refine va_get (D := D) (ci := 1) (v := rfN ad 38 (V 1 1)) (fs := (xfReader ad V L Z)) (C := RX1) (T := TX1) (N := 9) hx hb hg inX1 hown hK hP 1 xgReader rfl 1 (by decide) (hg _ w305) (fun _ h9 => h9) rfl dX1_putAlone_1 ?_
  refine g_topv (v := .ref (ad (38 + b))) (rfN_r (by omega)) ?_
  refine lv_iload_n hx hb dX1_putAlone_4 rfl (lv_at hl 1 rfl) ?_
  refine gA_void (gA_runV (As := [.int p0]) (rest := []) (ci := 0) (q0 := (38 + b)) hx hb hml hown hg hP hD hK hS hA hnw hgk (x_emit l D ks H.size ad kk V L Z p0 (b) hMV (show b < 2 from by (first | exact om_f940a4667dd6 hb2 | omega))) w971 w972 w973 w167 w974 rfl (xgBook hb2) hdV_yX0_emit ⟨Nat.le_of_ble_eq_true rfl, Nat.le_of_ble_eq_true rfl⟩ rfl hl.1 rfl (Nat.le_of_ble_eq_true rfl) dX1_putAlone_5 ⟨Nat.le_of_ble_eq_true rfl, Nat.le_of_ble_eq_true rfl⟩) hP hD hK hS hA (fun u3 H locs w4 hP hD hK hS => ?_)
  obtain ⟨V6, L7⟩ := u3
  obtain ⟨hMV6, ajV6, axL7, fyV6, t5⟩ := w4
  have axL7 : L = L7 := Eq.symm axL7
  subst axL7
  have hP : va_P D vwCl (xw ad kk V6 L Z) H := hP
  have hD : va_D A (xw ad kk V6 L Z) := hD
  have hMV6 : rgd bX V6 := hMV6
  have ajV6 : agr [] [42, 48] V V6 := ajV6
  have agV6 : agr [] [42, 48] V V6 := agV.tr ajV6 (by decide) (by decide)
  have t5 : emX V V6 b p0 := t5
  refine lv_iconst (v := 1) hx hb dX1_putAlone_8 (by decide) ?_
  exact W.zret (v := 1) hx hb hr rfl (fun t ht hW => ⟨⟨1, (V6, L), rfl, ⟨hMV6, agV6, rfl, (by decide), t5⟩, by rw [ht]; exact hP, va_K.moved hW.alike hK, hD⟩, hS.F ht⟩) hS.2.2 dX1_putAlone_9
abbrev r_x_put3 : Room := { frames := 1, cells := 0, slots := 0, locals := 21 }
abbrev q_x_put3 (D : va_G) (ks : KS) (ad : Nat → Nat) (kk : Nat → ClassId) (V : Vf) (L : Lf) (Z : XZ) (p0 : Int32) (p1 : Int32) (b : Nat) (A : Nat → Prop) : Array Value → State → Outcome → State → Prop := va_Qi (fun (r : Int32) (u : Vf × Lf) => rgd bX u.1 ∧ agr [] [42, 48] V u.1 ∧ u.2 = L ∧ (1 ≤ r.toInt ∧ r.toInt ≤ 1) ∧ ((∃ U9 : Vf, emX V U9 b p0 ∧ emX U9 u.1 b p1))) (fun u t => gq D A (xw ad kk u.1 u.2 Z) (xty kk Z) t) A
set_option maxHeartbeats 4000000 in
set_option maxRecDepth 100000 in
theorem x_put3 (l : Launch) (D : va_G) (ks : KS) (sz : Nat) (ad : Nat → Nat) (kk : Nat → ClassId) (V : Vf) (L : Lf) (Z : XZ) (p0 : Int32) (p1 : Int32) (b : Nat) (hMV : rgd bX V) (hb2 : b < 2) (rbk : (V 1 1).toInt = (b : Int))  : Met l yX1_put (Cond.code yX1_put cX1_put 3 (some .boolean) :: GW) r_x_put3 (va_Pc [.ref (ad 1), .int p0, .int p1] (gp D ks (xw ad kk V L Z) (xty kk Z) sz)) (q_x_put3 D ks ad kk V L Z p0 p1 b (va_A (xw ad kk V L Z) sz)) 0 0 (va_A (xw ad kk V L Z) sz) := by
  refine g_met (q_x_put3 D ks ad kk V L Z p0 p1 b) (by decide) (Nat.le_of_ble_eq_true rfl) ?_
  intro p e s m below meth c A ls H locs hx hb hr hml hown hg hlocks hin hnw hgk hP hK hD hS hA hl
  have hown : s.vm.findClass RX1 = some m.cls := hown
  have hl : lv_has ls 3 [(0, .ref (ad 1)), (1, .int p0), (2, .int p1)] := hl
  have hP : va_P D vwCl (xw ad kk V L Z) H := hP
  have hD : va_D A (xw ad kk V L Z) := hD
  have hK : va_K D vwCl (xty kk Z) s := hK
  have agV : agr [] [42, 48] V V := agr.rf
  have r1 : (-1) ≤ ((V 1 1)).toInt ∧ ((V 1 1)).toInt ≤ 1 := hMV 1 1
  refine lv_aload_n hx hb dX1_put_0 rfl (lv_at hl 0 rfl) ?_
  refine va_get (D := D) (ci := 1) (v := rfN ad 38 (V 1 1)) (fs := (xfReader ad V L Z)) (C := RX1) (T := TX1) (N := 9) hx hb hg inX1 hown hK hP 1 xgReader rfl 1 (by decide) (hg _ w305) (fun _ h9 => h9) rfl dX1_put_1 ?_
  refine g_topv (v := .ref (ad (38 + b))) (rfN_r (by omega)) ?_
  refine lv_iload_n hx hb dX1_put_4 rfl (lv_at hl 1 rfl) ?_
  refine gA_void (gA_runV (As := [.int p0]) (rest := []) (ci := 0) (q0 := (38 + b)) hx hb hml hown hg hP hD hK hS hA hnw hgk (x_emit l D ks H.size ad kk V L Z p0 (b) hMV (show b < 2 from by (first | exact om_f940a4667dd6 hb2 | omega))) w971 w972 w973 w167 w974 rfl (xgBook hb2) hdV_yX0_emit ⟨Nat.le_of_ble_eq_true rfl, Nat.le_of_ble_eq_true rfl⟩ rfl hl.1 rfl (Nat.le_of_ble_eq_true rfl) dX1_put_5 ⟨Nat.le_of_ble_eq_true rfl, Nat.le_of_ble_eq_true rfl⟩) hP hD hK hS hA (fun u3 H locs w4 hP hD hK hS => ?_)
  obtain ⟨V6, L7⟩ := u3
  obtain ⟨hMV6, ajV6, axL7, fyV6, t5⟩ := w4
  have axL7 : L = L7 := Eq.symm axL7
  subst axL7
  have hP : va_P D vwCl (xw ad kk V6 L Z) H := hP
  have hD : va_D A (xw ad kk V6 L Z) := hD
  have hMV6 : rgd bX V6 := hMV6
  have ajV6 : agr [] [42, 48] V V6 := ajV6
  have agV6 : agr [] [42, 48] V V6 := agV.tr ajV6 (by decide) (by decide)
  have t5 : emX V V6 b p0 := t5
  refine lv_aload_n hx hb dX1_put_8 rfl (lv_at hl 0 rfl) ?_
  refine va_get (D := D) (ci := 1) (v := rfN ad 38 (V6 1 1)) (fs := (xfReader ad V6 L Z)) (C := RX1) (T := TX1) (N := 9) hx hb hg inX1 hown hK hP 1 xgReader rfl 1 (by decide) (hg _ w305) (fun _ h9 => h9) rfl dX1_put_9 ?_
  have pq8 : (V6 1 1).toInt = ((V 1 1)).toInt := congrArg Int32.toInt (ajV6 1 1 rfl)
  refine g_topv (v := .ref (ad (38 + b))) (rfN_r (by omega)) ?_
  refine lv_iload_n hx hb dX1_put_12 rfl (lv_at hl 2 rfl) ?_
  refine gA_void (gA_runV (As := [.int p1]) (rest := []) (ci := 0) (q0 := (38 + b)) hx hb hml hown hg hP hD hK hS hA hnw hgk (x_emit l D ks H.size ad kk V6 L Z p1 (b) hMV6 (show b < 2 from by (first | exact om_f940a4667dd6 hb2 | omega))) w971 w972 w973 w167 w974 rfl (xgBook hb2) hdV_yX0_emit ⟨Nat.le_of_ble_eq_true rfl, Nat.le_of_ble_eq_true rfl⟩ rfl hl.1 rfl (Nat.le_of_ble_eq_true rfl) dX1_put_13 ⟨Nat.le_of_ble_eq_true rfl, Nat.le_of_ble_eq_true rfl⟩) hP hD hK hS hA (fun u10 H locs w11 hP hD hK hS => ?_)
  obtain ⟨V13, L14⟩ := u10
  obtain ⟨hMV13, ajV13, axL14, fyV13, t12⟩ := w11
  have axL14 : L = L14 := Eq.symm axL14
  subst axL14
  have hP : va_P D vwCl (xw ad kk V13 L Z) H := hP
  have hD : va_D A (xw ad kk V13 L Z) := hD
  have hMV13 : rgd bX V13 := hMV13
  have ajV13 : agr [] [42, 48] V6 V13 := ajV13
  have agV13 : agr [] [42, 48] V V13 := agV6.tr ajV13 (by decide) (by decide)
  have t12 : emX V6 V13 b p1 := t12
  refine lv_iconst (v := 1) hx hb dX1_put_16 (by decide) ?_
  exact W.zret (v := 1) hx hb hr rfl (fun t ht hW => ⟨⟨1, (V13, L), rfl, ⟨hMV13, agV13, rfl, (by decide), ⟨V6, t5, t12⟩⟩, by rw [ht]; exact hP, va_K.moved hW.alike hK, hD⟩, hS.F ht⟩) hS.2.2 dX1_put_17
abbrev r_x_beginsPart3 : Room := { frames := 0, cells := 0, slots := 0, locals := 0 }
abbrev q_x_beginsPart3 (D : va_G) (ks : KS) (ad : Nat → Nat) (kk : Nat → ClassId) (V : Vf) (L : Lf) (Z : XZ) (b : Nat) (gT : Tk) (gs : St) (A : Nat → Prop) : Array Value → State → Outcome → State → Prop := va_Qi (fun (r : Int32) (_ : Unit) => (0 ≤ r.toInt ∧ r.toInt ≤ 1) ∧ ((r.toInt = 1 ∧ bgP gT gs) ∨ (r.toInt = 0 ∧ ¬ bgP gT gs))) (fun _ t => gq D A (xw ad kk V L Z) (xty kk Z) t) A
set_option maxHeartbeats 4000000 in
set_option maxRecDepth 100000 in
theorem x_beginsPart3 (l : Launch) (D : va_G) (ks : KS) (sz : Nat) (ad : Nat → Nat) (kk : Nat → ClassId) (V : Vf) (L : Lf) (Z : XZ) (b : Nat) (gT : Tk) (gs : St) (hMV : rgd bX V) (hb2 : b < 2) (rbk : (V 1 1).toInt = (b : Int)) (rel : RelC V L b gT gs) (wh : (V 1 4).toInt = ((gs.1 4 : Nat) : Int))  : Met l yX1_beginsPart (Cond.code yX1_beginsPart cX1_beginsPart 1 (some .boolean) :: GW) r_x_beginsPart3 (va_Pc [.ref (ad 1)] (gp D ks (xw ad kk V L Z) (xty kk Z) sz)) (q_x_beginsPart3 D ks ad kk V L Z  b gT gs (va_A (xw ad kk V L Z) sz)) 0 0 (va_A (xw ad kk V L Z) sz) := by
  refine g_met (q_x_beginsPart3 D ks ad kk V L Z  b gT gs) (by decide) (Nat.le_of_ble_eq_true rfl) ?_
  intro p e s m below meth c A ls H locs hx hb hr hml hown hg hlocks hin hnw hgk hP hK hD hS hA hl
  have hown : s.vm.findClass RX1 = some m.cls := hown
  have hl : lv_has ls 1 [(0, .ref (ad 1))] := hl
  have hP : va_P D vwCl (xw ad kk V L Z) H := hP
  have hD : va_D A (xw ad kk V L Z) := hD
  have hK : va_K D vwCl (xty kk Z) s := hK
  have r1 : (-1) ≤ ((V 1 1)).toInt ∧ ((V 1 1)).toInt ≤ 1 := hMV 1 1
  refine lv_aload_n hx hb dX1_beginsPart_0 rfl (lv_at hl 0 rfl) ?_
  refine va_get (D := D) (ci := 1) (v := .ref (ad 6)) (fs := (xfReader ad V L Z)) (C := RX1) (T := TX1) (N := 9) hx hb hg inX1 hown hK hP 1 xgReader rfl 0 (by decide) (hg _ w304) (fun _ h9 => h9) rfl dX1_beginsPart_1 ?_
  refine va_getN (D := D) (ci := 9) (v := .int (V 6 9)) (fs := (xfTape ad V L Z)) (C := RX9) (T := TX9) (N := 12) hx hb hg inX9 hown hK hP 6 xgTape rfl 9 (by decide) (hnw.use 262 n262 rfl) (fun _ h9 => h9) rfl dX1_beginsPart_4 ?_
  by_cases q2 : (V 6 9) = 2
  · refine g_top (v := 2) q2 ?_
    have fq2 : ((V 6 9)).toInt = 2 := b_eq rfl (by decide) q2
    refine lv_lookup (x := 2) (off := 81) (tgt := 88) hx hb dX1_beginsPart_7 (by decide) (by decide) (by decide) ?_
    refine lv_iconst (v := 1) hx hb dX1_beginsPart_88 (by decide) ?_
    have kd3 : gT.1 (gs.1 0) = ((V 6 9)).toInt := RelC.kd rel
    have r4 : 0 ≤ ((V 1 4)).toInt ∧ ((V 1 4)).toInt ≤ 2 := hMV 1 4
    exact W.zret (v := 1) hx hb hr rfl (fun t ht hW => ⟨⟨1, (), rfl, ⟨(by decide), (Or.inl ⟨rfl, Or.inl (kd3.trans fq2)⟩)⟩, by rw [ht]; exact hP, va_K.moved hW.alike hK, hD⟩, hS.F ht⟩) hS.2.2 dX1_beginsPart_89
  have gq2 : ((V 6 9)).toInt ≠ 2 := b_neq rfl (by decide) q2
  by_cases q5 : (V 6 9) = 40
  · refine g_top (v := 40) q5 ?_
    have fq5 : ((V 6 9)).toInt = 40 := b_eq rfl (by decide) q5
    refine lv_lookup (x := 40) (off := 81) (tgt := 88) hx hb dX1_beginsPart_7 (by decide) (by decide) (by decide) ?_
    refine lv_iconst (v := 1) hx hb dX1_beginsPart_88 (by decide) ?_
    have kd6 : gT.1 (gs.1 0) = ((V 6 9)).toInt := RelC.kd rel
    have r7 : 0 ≤ ((V 1 4)).toInt ∧ ((V 1 4)).toInt ≤ 2 := hMV 1 4
    exact W.zret (v := 1) hx hb hr rfl (fun t ht hW => ⟨⟨1, (), rfl, ⟨(by decide), (Or.inl ⟨rfl, Or.inr (Or.inr (Or.inl (kd6.trans fq5)))⟩)⟩, by rw [ht]; exact hP, va_K.moved hW.alike hK, hD⟩, hS.F ht⟩) hS.2.2 dX1_beginsPart_89
  have gq5 : ((V 6 9)).toInt ≠ 40 := b_neq rfl (by decide) q5
  by_cases q8 : (V 6 9) = 45
  · refine g_top (v := 45) q8 ?_
    have fq8 : ((V 6 9)).toInt = 45 := b_eq rfl (by decide) q8
    refine lv_lookup (x := 45) (off := 81) (tgt := 88) hx hb dX1_beginsPart_7 (by decide) (by decide) (by decide) ?_
    refine lv_iconst (v := 1) hx hb dX1_beginsPart_88 (by decide) ?_
    have kd9 : gT.1 (gs.1 0) = ((V 6 9)).toInt := RelC.kd rel
    have r10 : 0 ≤ ((V 1 4)).toInt ∧ ((V 1 4)).toInt ≤ 2 := hMV 1 4
    exact W.zret (v := 1) hx hb hr rfl (fun t ht hW => ⟨⟨1, (), rfl, ⟨(by decide), (Or.inl ⟨rfl, Or.inr (Or.inr (Or.inr (Or.inl (kd9.trans fq8))))⟩)⟩, by rw [ht]; exact hP, va_K.moved hW.alike hK, hD⟩, hS.F ht⟩) hS.2.2 dX1_beginsPart_89
  have gq8 : ((V 6 9)).toInt ≠ 45 := b_neq rfl (by decide) q8
  by_cases q11 : (V 6 9) = 130
  · refine g_top (v := 130) q11 ?_
    have fq11 : ((V 6 9)).toInt = 130 := b_eq rfl (by decide) q11
    refine lv_lookup (x := 130) (off := 81) (tgt := 88) hx hb dX1_beginsPart_7 (by decide) (by decide) (by decide) ?_
    refine lv_iconst (v := 1) hx hb dX1_beginsPart_88 (by decide) ?_
    have kd12 : gT.1 (gs.1 0) = ((V 6 9)).toInt := RelC.kd rel
    have r13 : 0 ≤ ((V 1 4)).toInt ∧ ((V 1 4)).toInt ≤ 2 := hMV 1 4
    exact W.zret (v := 1) hx hb hr rfl (fun t ht hW => ⟨⟨1, (), rfl, ⟨(by decide), (Or.inl ⟨rfl, Or.inr (Or.inr (Or.inr (Or.inr (Or.inr (Or.inl (kd12.trans fq11))))))⟩)⟩, by rw [ht]; exact hP, va_K.moved hW.alike hK, hD⟩, hS.F ht⟩) hS.2.2 dX1_beginsPart_89
  have gq11 : ((V 6 9)).toInt ≠ 130 := b_neq rfl (by decide) q11
  by_cases q14 : (V 6 9) = 143
  · refine g_top (v := 143) q14 ?_
    have fq14 : ((V 6 9)).toInt = 143 := b_eq rfl (by decide) q14
    refine lv_lookup (x := 143) (off := 81) (tgt := 88) hx hb dX1_beginsPart_7 (by decide) (by decide) (by decide) ?_
    refine lv_iconst (v := 1) hx hb dX1_beginsPart_88 (by decide) ?_
    have kd15 : gT.1 (gs.1 0) = ((V 6 9)).toInt := RelC.kd rel
    have r16 : 0 ≤ ((V 1 4)).toInt ∧ ((V 1 4)).toInt ≤ 2 := hMV 1 4
    exact W.zret (v := 1) hx hb hr rfl (fun t ht hW => ⟨⟨1, (), rfl, ⟨(by decide), (Or.inl ⟨rfl, Or.inr (Or.inl (kd15.trans fq14))⟩)⟩, by rw [ht]; exact hP, va_K.moved hW.alike hK, hD⟩, hS.F ht⟩) hS.2.2 dX1_beginsPart_89
  have gq14 : ((V 6 9)).toInt ≠ 143 := b_neq rfl (by decide) q14
  by_cases q17 : (V 6 9) = 144
  · refine g_top (v := 144) q17 ?_
    have fq17 : ((V 6 9)).toInt = 144 := b_eq rfl (by decide) q17
    refine lv_lookup (x := 144) (off := 81) (tgt := 88) hx hb dX1_beginsPart_7 (by decide) (by decide) (by decide) ?_
    refine lv_iconst (v := 1) hx hb dX1_beginsPart_88 (by decide) ?_
    have kd18 : gT.1 (gs.1 0) = ((V 6 9)).toInt := RelC.kd rel
    have r19 : 0 ≤ ((V 1 4)).toInt ∧ ((V 1 4)).toInt ≤ 2 := hMV 1 4
    exact W.zret (v := 1) hx hb hr rfl (fun t ht hW => ⟨⟨1, (), rfl, ⟨(by decide), (Or.inl ⟨rfl, Or.inr (Or.inr (Or.inr (Or.inr (Or.inl (kd18.trans fq17)))))⟩)⟩, by rw [ht]; exact hP, va_K.moved hW.alike hK, hD⟩, hS.F ht⟩) hS.2.2 dX1_beginsPart_89
  have gq17 : ((V 6 9)).toInt ≠ 144 := b_neq rfl (by decide) q17
  by_cases q20 : (V 6 9) = 145
  · refine g_top (v := 145) q20 ?_
    have fq20 : ((V 6 9)).toInt = 145 := b_eq rfl (by decide) q20
    refine lv_lookup (x := 145) (off := 81) (tgt := 88) hx hb dX1_beginsPart_7 (by decide) (by decide) (by decide) ?_
    refine lv_iconst (v := 1) hx hb dX1_beginsPart_88 (by decide) ?_
    have kd21 : gT.1 (gs.1 0) = ((V 6 9)).toInt := RelC.kd rel
    have r22 : 0 ≤ ((V 1 4)).toInt ∧ ((V 1 4)).toInt ≤ 2 := hMV 1 4
    exact W.zret (v := 1) hx hb hr rfl (fun t ht hW => ⟨⟨1, (), rfl, ⟨(by decide), (Or.inl ⟨rfl, Or.inr (Or.inr (Or.inr (Or.inr (Or.inr (Or.inr (Or.inl (kd21.trans fq20)))))))⟩)⟩, by rw [ht]; exact hP, va_K.moved hW.alike hK, hD⟩, hS.F ht⟩) hS.2.2 dX1_beginsPart_89
  have gq20 : ((V 6 9)).toInt ≠ 145 := b_neq rfl (by decide) q20
  by_cases q23 : (V 6 9) = 146
  · refine g_top (v := 146) q23 ?_
    have fq23 : ((V 6 9)).toInt = 146 := b_eq rfl (by decide) q23
    refine lv_lookup (x := 146) (off := 83) (tgt := 90) hx hb dX1_beginsPart_7 (by decide) (by decide) (by decide) ?_
    refine lv_aload_n hx hb dX1_beginsPart_90 rfl (lv_at hl 0 rfl) ?_
    refine va_get (D := D) (ci := 1) (v := .int (V 1 4)) (fs := (xfReader ad V L Z)) (C := RX1) (T := TX1) (N := 9) hx hb hg inX1 hown hK hP 1 xgReader rfl 4 (by decide) (hg _ w308) (fun _ h9 => h9) rfl dX1_beginsPart_91 ?_
    have r24 : 0 ≤ ((V 1 4)).toInt ∧ ((V 1 4)).toInt ≤ 2 := hMV 1 4
    refine lv_if_ne (tgt := 101) hx hb dX1_beginsPart_94 (by decide) (fun c25 => ?_) (fun c25 => ?_)
    · skip
      have f26 : ((V 1 4)).toInt ≠ 0 := b_neq rfl (by decide) c25
      refine lv_iconst (v := 0) hx hb dX1_beginsPart_101 (by decide) ?_
      have kd27 : gT.1 (gs.1 0) = ((V 6 9)).toInt := RelC.kd rel
      exact W.zret (v := 0) hx hb hr rfl (fun t ht hW => ⟨⟨0, (), rfl, ⟨(by decide), (Or.inr ⟨rfl, fun h9 => by have h8 := kd27.trans fq23; unfold bgP at h9; omega⟩)⟩, by rw [ht]; exact hP, va_K.moved hW.alike hK, hD⟩, hS.F ht⟩) hS.2.2 dX1_beginsPart_102
    · skip
      have f28 : ((V 1 4)).toInt = 0 := b_eq rfl (by decide) c25
      refine lv_iconst (v := 1) hx hb dX1_beginsPart_97 (by decide) ?_
      refine lv_goto (tgt := 102) hx hb dX1_beginsPart_98 (by decide) ?_
      have kd29 : gT.1 (gs.1 0) = ((V 6 9)).toInt := RelC.kd rel
      exact W.zret (v := 1) hx hb hr rfl (fun t ht hW => ⟨⟨1, (), rfl, ⟨(by decide), (Or.inl ⟨rfl, by have h9 := kd29.trans fq23; unfold bgP; omega⟩)⟩, by rw [ht]; exact hP, va_K.moved hW.alike hK, hD⟩, hS.F ht⟩) hS.2.2 dX1_beginsPart_102
  have gq23 : ((V 6 9)).toInt ≠ 146 := b_neq rfl (by decide) q23
  by_cases q30 : (V 6 9) = 147
  · refine g_top (v := 147) q30 ?_
    have fq30 : ((V 6 9)).toInt = 147 := b_eq rfl (by decide) q30
    refine lv_lookup (x := 147) (off := 96) (tgt := 103) hx hb dX1_beginsPart_7 (by decide) (by decide) (by decide) ?_
    refine lv_aload_n hx hb dX1_beginsPart_103 rfl (lv_at hl 0 rfl) ?_
    refine va_get (D := D) (ci := 1) (v := .int (V 1 4)) (fs := (xfReader ad V L Z)) (C := RX1) (T := TX1) (N := 9) hx hb hg inX1 hown hK hP 1 xgReader rfl 4 (by decide) (hg _ w308) (fun _ h9 => h9) rfl dX1_beginsPart_104 ?_
    have r31 : 0 ≤ ((V 1 4)).toInt ∧ ((V 1 4)).toInt ≤ 2 := hMV 1 4
    refine lv_iconst (v := 2) hx hb dX1_beginsPart_107 (by decide) ?_
    refine lv_icmp_ne (tgt := 115) hx hb dX1_beginsPart_108 (by decide) (fun c32 => ?_) (fun c32 => ?_)
    · skip
      have f33 : ((V 1 4)).toInt ≠ 2 := b_neq rfl (by decide) c32
      refine lv_iconst (v := 0) hx hb dX1_beginsPart_115 (by decide) ?_
      have kd34 : gT.1 (gs.1 0) = ((V 6 9)).toInt := RelC.kd rel
      exact W.zret (v := 0) hx hb hr rfl (fun t ht hW => ⟨⟨0, (), rfl, ⟨(by decide), (Or.inr ⟨rfl, fun h9 => by have h8 := kd34.trans fq30; unfold bgP at h9; omega⟩)⟩, by rw [ht]; exact hP, va_K.moved hW.alike hK, hD⟩, hS.F ht⟩) hS.2.2 dX1_beginsPart_116
    · skip
      have f35 : ((V 1 4)).toInt = 2 := b_eq rfl (by decide) c32
      refine lv_iconst (v := 1) hx hb dX1_beginsPart_111 (by decide) ?_
      refine lv_goto (tgt := 116) hx hb dX1_beginsPart_112 (by decide) ?_
      have kd36 : gT.1 (gs.1 0) = ((V 6 9)).toInt := RelC.kd rel
      exact W.zret (v := 1) hx hb hr rfl (fun t ht hW => ⟨⟨1, (), rfl, ⟨(by decide), (Or.inl ⟨rfl, by have h9 := kd36.trans fq30; unfold bgP; omega⟩)⟩, by rw [ht]; exact hP, va_K.moved hW.alike hK, hD⟩, hS.F ht⟩) hS.2.2 dX1_beginsPart_116
  have gq30 : ((V 6 9)).toInt ≠ 147 := b_neq rfl (by decide) q30
  refine lv_lookup (x := (V 6 9)) (off := 110) (tgt := 117) hx hb dX1_beginsPart_7 (by decide) ((lv_osw q2 (by decide)).trans ((lv_osw q5 (by decide)).trans ((lv_osw q8 (by decide)).trans ((lv_osw q11 (by decide)).trans ((lv_osw q14 (by decide)).trans ((lv_osw q17 (by decide)).trans ((lv_osw q20 (by decide)).trans ((lv_osw q23 (by decide)).trans ((lv_osw q30 (by decide)).trans rfl))))))))) (by decide) ?_
  refine lv_iconst (v := 0) hx hb dX1_beginsPart_117 (by decide) ?_
  have kd37 : gT.1 (gs.1 0) = ((V 6 9)).toInt := RelC.kd rel
  have r38 : 0 ≤ ((V 1 4)).toInt ∧ ((V 1 4)).toInt ≤ 2 := hMV 1 4
  exact W.zret (v := 0) hx hb hr rfl (fun t ht hW => ⟨⟨0, (), rfl, ⟨(by decide), (Or.inr ⟨rfl, fun h9 => by unfold bgP at h9; omega⟩)⟩, by rw [ht]; exact hP, va_K.moved hW.alike hK, hD⟩, hS.F ht⟩) hS.2.2 dX1_beginsPart_118
abbrev q_x_readExpression3 (D : va_G) (ks : KS) (ad : Nat → Nat) (kk : Nat → ClassId) (V : Vf) (L : Lf) (Z : XZ) (p0 : Int32) (b : Nat) (gT : Tk) (gs : St) (gd : Nat) (A : Nat → Prop) : Array Value → State → Outcome → State → Prop := va_Qi (fun (r : Int32) (u : Vf × Lf) => rgd bX u.1 ∧ agr [(1, 3), (1, 6), (1, 8), (6, 8), (6, 9), (6, 10)] [42, 43, 44, 48] V u.1 ∧ agL [6, 44] L u.2 ∧ (0 ≤ r.toInt ∧ r.toInt ≤ 1) ∧ (Rd gT gs (fun k => Iexpr gd :: k) (fun k => k) r.toInt (u.1 1 3).toInt (fun s9 => RelC u.1 u.2 b gT s9 ∧ keepS gs 1 s9 ∧ keepE gs s9 ∧ CDc u.1 b s9 ∧ wl s9 + 2 * gs.1 0 ≤ wl gs + 2 * s9.1 0 + 1)) ∧ (ROWL b L u.2)) (fun u t => gq D A (xw ad kk u.1 u.2 Z) (xty kk Z) t) A
def K_x_readExpression3 (l : Launch) (D : va_G) (ks : KS) (dd : Nat) : Prop := ∀ (sz : Nat) (ad : Nat → Nat) (kk : Nat → ClassId) (V : Vf) (L : Lf) (Z : XZ) (p0 : Int32) (b : Nat) (gT : Tk) (gs : St) (gd : Nat) (hMV : rgd bX V) (rg_p0 : 0 ≤ p0.toInt ∧ p0.toInt ≤ 8) (hb2 : b < 2) (rbk : (V 1 1).toInt = (b : Int)) (rel : RelC V L b gT gs) (cdq : CDc V b gs) (hwl : wl gs ≤ 2 * gs.1 0) (yd : p0.toInt = (gd : Int)) (wh : (V 1 4).toInt = ((gs.1 4 : Nat) : Int)) (ow : ((V 1 4).toInt = 0 → 0 ≤ (V 1 2).toInt)) (y1 : 8 - p0.toInt ≤ (dd : Int)) , Met l yX1_readExpression (Cond.code yX1_readExpression cX1_readExpression 3 (some .boolean) :: GW) (rK 9 240 dd) (va_Pc [.ref (ad 1), .int p0] (gp D ks (xw ad kk V L Z) (xty kk Z) sz)) (q_x_readExpression3 D ks ad kk V L Z p0 b gT gs gd (va_A (xw ad kk V L Z) sz)) 0 0 (va_A (xw ad kk V L Z) sz)
abbrev q_x_readSum3 (D : va_G) (ks : KS) (ad : Nat → Nat) (kk : Nat → ClassId) (V : Vf) (L : Lf) (Z : XZ) (p0 : Int32) (b : Nat) (gT : Tk) (gs : St) (gd : Nat) (A : Nat → Prop) : Array Value → State → Outcome → State → Prop := va_Qi (fun (r : Int32) (u : Vf × Lf) => rgd bX u.1 ∧ agr [(1, 3), (1, 6), (1, 8), (6, 8), (6, 9), (6, 10)] [42, 43, 44, 48] V u.1 ∧ agL [6, 44] L u.2 ∧ (0 ≤ r.toInt ∧ r.toInt ≤ 1) ∧ (Rd gT gs (fun k => Isum gd :: k) (fun k => k) r.toInt (u.1 1 3).toInt (fun s9 => RelC u.1 u.2 b gT s9 ∧ keepS gs 1 s9 ∧ keepE gs s9 ∧ CDc u.1 b s9 ∧ wl s9 + 2 * gs.1 0 ≤ wl gs + 2 * s9.1 0 + 1)) ∧ (ROWL b L u.2)) (fun u t => gq D A (xw ad kk u.1 u.2 Z) (xty kk Z) t) A
def K_x_readSum3 (l : Launch) (D : va_G) (ks : KS) (dd : Nat) : Prop := ∀ (sz : Nat) (ad : Nat → Nat) (kk : Nat → ClassId) (V : Vf) (L : Lf) (Z : XZ) (p0 : Int32) (b : Nat) (gT : Tk) (gs : St) (gd : Nat) (hMV : rgd bX V) (rg_p0 : 0 ≤ p0.toInt ∧ p0.toInt ≤ 8) (hb2 : b < 2) (rbk : (V 1 1).toInt = (b : Int)) (rel : RelC V L b gT gs) (cdq : CDc V b gs) (hwl : wl gs ≤ 2 * gs.1 0) (yd : p0.toInt = (gd : Int)) (wh : (V 1 4).toInt = ((gs.1 4 : Nat) : Int)) (ow : ((V 1 4).toInt = 0 → 0 ≤ (V 1 2).toInt)) (y1 : 8 - p0.toInt ≤ (dd : Int)) , Met l yX1_readSum (Cond.code yX1_readSum cX1_readSum 4 (some .boolean) :: GW) (rK 8 210 dd) (va_Pc [.ref (ad 1), .int p0] (gp D ks (xw ad kk V L Z) (xty kk Z) sz)) (q_x_readSum3 D ks ad kk V L Z p0 b gT gs gd (va_A (xw ad kk V L Z) sz)) 0 0 (va_A (xw ad kk V L Z) sz)
abbrev q_x_readProduct3 (D : va_G) (ks : KS) (ad : Nat → Nat) (kk : Nat → ClassId) (V : Vf) (L : Lf) (Z : XZ) (p0 : Int32) (b : Nat) (gT : Tk) (gs : St) (gd : Nat) (A : Nat → Prop) : Array Value → State → Outcome → State → Prop := va_Qi (fun (r : Int32) (u : Vf × Lf) => rgd bX u.1 ∧ agr [(1, 3), (1, 6), (1, 8), (6, 8), (6, 9), (6, 10)] [42, 43, 44, 48] V u.1 ∧ agL [6, 44] L u.2 ∧ (0 ≤ r.toInt ∧ r.toInt ≤ 1) ∧ (Rd gT gs (fun k => Iprod gd :: k) (fun k => k) r.toInt (u.1 1 3).toInt (fun s9 => RelC u.1 u.2 b gT s9 ∧ keepS gs 1 s9 ∧ keepE gs s9 ∧ CDc u.1 b s9 ∧ wl s9 + 2 * gs.1 0 ≤ wl gs + 2 * s9.1 0 + 1)) ∧ (ROWL b L u.2)) (fun u t => gq D A (xw ad kk u.1 u.2 Z) (xty kk Z) t) A
def K_x_readProduct3 (l : Launch) (D : va_G) (ks : KS) (dd : Nat) : Prop := ∀ (sz : Nat) (ad : Nat → Nat) (kk : Nat → ClassId) (V : Vf) (L : Lf) (Z : XZ) (p0 : Int32) (b : Nat) (gT : Tk) (gs : St) (gd : Nat) (hMV : rgd bX V) (rg_p0 : 0 ≤ p0.toInt ∧ p0.toInt ≤ 8) (hb2 : b < 2) (rbk : (V 1 1).toInt = (b : Int)) (rel : RelC V L b gT gs) (cdq : CDc V b gs) (hwl : wl gs ≤ 2 * gs.1 0) (yd : p0.toInt = (gd : Int)) (wh : (V 1 4).toInt = ((gs.1 4 : Nat) : Int)) (ow : ((V 1 4).toInt = 0 → 0 ≤ (V 1 2).toInt)) (y1 : 8 - p0.toInt ≤ (dd : Int)) , Met l yX1_readProduct (Cond.code yX1_readProduct cX1_readProduct 3 (some .boolean) :: GW) (rK 7 180 dd) (va_Pc [.ref (ad 1), .int p0] (gp D ks (xw ad kk V L Z) (xty kk Z) sz)) (q_x_readProduct3 D ks ad kk V L Z p0 b gT gs gd (va_A (xw ad kk V L Z) sz)) 0 0 (va_A (xw ad kk V L Z) sz)
abbrev q_x_readPart3 (D : va_G) (ks : KS) (ad : Nat → Nat) (kk : Nat → ClassId) (V : Vf) (L : Lf) (Z : XZ) (p0 : Int32) (b : Nat) (gT : Tk) (gs : St) (gd : Nat) (A : Nat → Prop) : Array Value → State → Outcome → State → Prop := va_Qi (fun (r : Int32) (u : Vf × Lf) => rgd bX u.1 ∧ agr [(1, 3), (1, 6), (1, 8), (6, 8), (6, 9), (6, 10)] [42, 43, 44, 48] V u.1 ∧ agL [6, 44] L u.2 ∧ (0 ≤ r.toInt ∧ r.toInt ≤ 1) ∧ (Rd gT gs (fun k => Ipart gd :: k) (fun k => k) r.toInt (u.1 1 3).toInt (fun s9 => RelC u.1 u.2 b gT s9 ∧ keepS gs 1 s9 ∧ keepE gs s9 ∧ CDc u.1 b s9 ∧ wl s9 + 2 * gs.1 0 ≤ wl gs + 2 * s9.1 0 + 1)) ∧ (ROWL b L u.2)) (fun u t => gq D A (xw ad kk u.1 u.2 Z) (xty kk Z) t) A
def K_x_readPart3 (l : Launch) (D : va_G) (ks : KS) (dd : Nat) : Prop := ∀ (sz : Nat) (ad : Nat → Nat) (kk : Nat → ClassId) (V : Vf) (L : Lf) (Z : XZ) (p0 : Int32) (b : Nat) (gT : Tk) (gs : St) (gd : Nat) (hMV : rgd bX V) (rg_p0 : 0 ≤ p0.toInt ∧ p0.toInt ≤ 8) (hb2 : b < 2) (rbk : (V 1 1).toInt = (b : Int)) (rel : RelC V L b gT gs) (cdq : CDc V b gs) (hwl : wl gs ≤ 2 * gs.1 0) (yd : p0.toInt = (gd : Int)) (wh : (V 1 4).toInt = ((gs.1 4 : Nat) : Int)) (ow : ((V 1 4).toInt = 0 → 0 ≤ (V 1 2).toInt)) (y1 : 8 - p0.toInt ≤ (dd : Int)) , Met l yX1_readPart (Cond.code yX1_readPart cX1_readPart 5 (some .boolean) :: GW) (rK 6 150 dd) (va_Pc [.ref (ad 1), .int p0] (gp D ks (xw ad kk V L Z) (xty kk Z) sz)) (q_x_readPart3 D ks ad kk V L Z p0 b gT gs gd (va_A (xw ad kk V L Z) sz)) 0 0 (va_A (xw ad kk V L Z) sz)
abbrev q_x_readWithin3 (D : va_G) (ks : KS) (ad : Nat → Nat) (kk : Nat → ClassId) (V : Vf) (L : Lf) (Z : XZ) (p0 : Int32) (b : Nat) (gT : Tk) (gs : St) (gd : Nat) (A : Nat → Prop) : Array Value → State → Outcome → State → Prop := va_Qi (fun (r : Int32) (u : Vf × Lf) => rgd bX u.1 ∧ agr [(1, 3), (1, 6), (1, 8), (6, 8), (6, 9), (6, 10)] [42, 43, 44, 48] V u.1 ∧ agL [6, 44] L u.2 ∧ (0 ≤ r.toInt ∧ r.toInt ≤ 1) ∧ (Rd gT gs (fun k => Itake 40 :: Iexpr (gd + 1) :: Itake 41 :: k) (fun k => k) r.toInt (u.1 1 3).toInt (fun s9 => RelC u.1 u.2 b gT s9 ∧ keepS gs 1 s9 ∧ keepE gs s9 ∧ CDc u.1 b s9 ∧ wl s9 + 2 * gs.1 0 ≤ wl gs + 2 * s9.1 0 + 1)) ∧ (ROWL b L u.2)) (fun u t => gq D A (xw ad kk u.1 u.2 Z) (xty kk Z) t) A
def K_x_readWithin3 (l : Launch) (D : va_G) (ks : KS) (dd : Nat) : Prop := ∀ (sz : Nat) (ad : Nat → Nat) (kk : Nat → ClassId) (V : Vf) (L : Lf) (Z : XZ) (p0 : Int32) (b : Nat) (gT : Tk) (gs : St) (gd : Nat) (hMV : rgd bX V) (rg_p0 : 0 ≤ p0.toInt ∧ p0.toInt ≤ 7) (hb2 : b < 2) (rbk : (V 1 1).toInt = (b : Int)) (rel : RelC V L b gT gs) (cdq : CDc V b gs) (hwl : wl gs ≤ 2 * gs.1 0) (yd : p0.toInt = (gd : Int)) (wh : (V 1 4).toInt = ((gs.1 4 : Nat) : Int)) (ow : ((V 1 4).toInt = 0 → 0 ≤ (V 1 2).toInt)) (y1 : 7 - p0.toInt ≤ (dd : Int)) , Met l yX1_readWithin (Cond.code yX1_readWithin cX1_readWithin 2 (some .boolean) :: GW) (rK 10 265 dd) (va_Pc [.ref (ad 1), .int p0] (gp D ks (xw ad kk V L Z) (xty kk Z) sz)) (q_x_readWithin3 D ks ad kk V L Z p0 b gT gs gd (va_A (xw ad kk V L Z) sz)) 0 0 (va_A (xw ad kk V L Z) sz)
abbrev q_x_readPick3 (D : va_G) (ks : KS) (ad : Nat → Nat) (kk : Nat → ClassId) (V : Vf) (L : Lf) (Z : XZ) (p0 : Int32) (b : Nat) (gT : Tk) (gs : St) (gd : Nat) (A : Nat → Prop) : Array Value → State → Outcome → State → Prop := va_Qi (fun (r : Int32) (u : Vf × Lf) => rgd bX u.1 ∧ agr [(1, 3), (1, 6), (1, 8), (6, 8), (6, 9), (6, 10)] [42, 43, 44, 48] V u.1 ∧ agL [6, 44] L u.2 ∧ (0 ≤ r.toInt ∧ r.toInt ≤ 1) ∧ (Rd gT gs (fun k => Itake 40 :: Iexpr (gd + 1) :: Itake 44 :: Ipk1 (gd + 1) :: k) (fun k => k) r.toInt (u.1 1 3).toInt (fun s9 => RelC u.1 u.2 b gT s9 ∧ keepS gs 1 s9 ∧ keepE gs s9 ∧ CDc u.1 b s9 ∧ wl s9 + 2 * gs.1 0 ≤ wl gs + 2 * s9.1 0 + 1)) ∧ (ROWL b L u.2)) (fun u t => gq D A (xw ad kk u.1 u.2 Z) (xty kk Z) t) A
def K_x_readPick3 (l : Launch) (D : va_G) (ks : KS) (dd : Nat) : Prop := ∀ (sz : Nat) (ad : Nat → Nat) (kk : Nat → ClassId) (V : Vf) (L : Lf) (Z : XZ) (p0 : Int32) (b : Nat) (gT : Tk) (gs : St) (gd : Nat) (hMV : rgd bX V) (rg_p0 : 0 ≤ p0.toInt ∧ p0.toInt ≤ 7) (hb2 : b < 2) (rbk : (V 1 1).toInt = (b : Int)) (rel : RelC V L b gT gs) (cdq : CDc V b gs) (hwl : wl gs ≤ 2 * gs.1 0) (yd : p0.toInt = (gd : Int)) (wh : (V 1 4).toInt = ((gs.1 4 : Nat) : Int)) (ow : ((V 1 4).toInt = 0 → 0 ≤ (V 1 2).toInt)) (y1 : 7 - p0.toInt ≤ (dd : Int)) , Met l yX1_readPick (Cond.code yX1_readPick cX1_readPick 4 (some .boolean) :: GW) (rK 10 265 dd) (va_Pc [.ref (ad 1), .int p0] (gp D ks (xw ad kk V L Z) (xty kk Z) sz)) (q_x_readPick3 D ks ad kk V L Z p0 b gT gs gd (va_A (xw ad kk V L Z) sz)) 0 0 (va_A (xw ad kk V L Z) sz)
abbrev q_x_readOf3 (D : va_G) (ks : KS) (ad : Nat → Nat) (kk : Nat → ClassId) (V : Vf) (L : Lf) (Z : XZ) (p0 : Int32) (b : Nat) (gT : Tk) (gs : St) (gd : Nat) (A : Nat → Prop) : Array Value → State → Outcome → State → Prop := va_Qi (fun (r : Int32) (u : Vf × Lf) => rgd bX u.1 ∧ agr [(1, 3), (1, 6), (1, 8), (6, 8), (6, 9), (6, 10)] [42, 43, 44, 48] V u.1 ∧ agL [6, 44] L u.2 ∧ (0 ≤ r.toInt ∧ r.toInt ≤ 1) ∧ (Rd gT gs (fun k => IofN (gd + 1) :: k) (fun k => k) r.toInt (u.1 1 3).toInt (fun s9 => RelC u.1 u.2 b gT s9 ∧ keepS gs 1 s9 ∧ keepE gs s9 ∧ CDc u.1 b s9 ∧ wl s9 + 2 * gs.1 0 ≤ wl gs + 2 * s9.1 0 + 1)) ∧ (ROWL b L u.2)) (fun u t => gq D A (xw ad kk u.1 u.2 Z) (xty kk Z) t) A
def K_x_readOf3 (l : Launch) (D : va_G) (ks : KS) (dd : Nat) : Prop := ∀ (sz : Nat) (ad : Nat → Nat) (kk : Nat → ClassId) (V : Vf) (L : Lf) (Z : XZ) (p0 : Int32) (b : Nat) (gT : Tk) (gs : St) (gd : Nat) (hMV : rgd bX V) (rg_p0 : 0 ≤ p0.toInt ∧ p0.toInt ≤ 7) (hb2 : b < 2) (rbk : (V 1 1).toInt = (b : Int)) (rel : RelC V L b gT gs) (cdq : CDc V b gs) (hwl : wl gs ≤ 2 * gs.1 0) (yd : p0.toInt = (gd : Int)) (wh : (V 1 4).toInt = ((gs.1 4 : Nat) : Int)) (ow : ((V 1 4).toInt = 0 → 0 ≤ (V 1 2).toInt)) (y1 : 7 - p0.toInt ≤ (dd : Int)) (owz : 0 ≤ (V 1 2).toInt) , Met l yX1_readOf (Cond.code yX1_readOf cX1_readOf 4 (some .boolean) :: GW) (rK 11 290 dd) (va_Pc [.ref (ad 1), .int p0] (gp D ks (xw ad kk V L Z) (xty kk Z) sz)) (q_x_readOf3 D ks ad kk V L Z p0 b gT gs gd (va_A (xw ad kk V L Z) sz)) 0 0 (va_A (xw ad kk V L Z) sz)
set_option maxHeartbeats 4000000 in
set_option maxRecDepth 100000 in
theorem x_readExpression3 {l : Launch} {D : va_G} {ks : KS} {dd : Nat} (hk_x_readSum3 : K_x_readSum3 l D ks dd) : K_x_readExpression3 l D ks dd := by
  intro sz ad kk V L Z p0 b gT gs gd hMV rg_p0 hb2 rbk rel cdq hwl yd wh ow y1
  refine g_met (q_x_readExpression3 D ks ad kk V L Z p0 b gT gs gd) (by decide) (Nat.le_of_ble_eq_true rfl) ?_
  intro p e s m below meth c A ls H locs hx hb hr hml hown hg hlocks hin hnw hgk hP hK hD hS hA hl
  have hown : s.vm.findClass RX1 = some m.cls := hown
  have hl : lv_has ls 3 [(0, .ref (ad 1)), (1, .int p0)] := hl
  have hP : va_P D vwCl (xw ad kk V L Z) H := hP
  have hD : va_D A (xw ad kk V L Z) := hD
  have hK : va_K D vwCl (xty kk Z) s := hK
  have agV : agr [(1, 3), (1, 6), (1, 8), (6, 8), (6, 9), (6, 10)] [42, 43, 44, 48] V V := agr.rf
  have alL : agL [6, 44] L L := agL.rf
  have rf_p0 := i_full p0
  have r1 : (-1) ≤ ((V 1 1)).toInt ∧ ((V 1 1)).toInt ≤ 1 := hMV 1 1
  refine lv_aload_n hx hb dX1_readExpression_0 rfl (lv_at hl 0 rfl) ?_
  refine lv_iload_n hx hb dX1_readExpression_1 rfl (lv_at hl 1 rfl) ?_
  have hr2 : ∀ k, Rc gT (Crun gs (Iexpr gd :: k)) (Crun gs (Iexpr gd :: k)) := fun k => Rc.rf
  have hr3 : ∀ k, Rc gT (Crun gs (Iexpr gd :: k)) (Crun gs (Isum gd :: Icmp gd :: k)) := fun k => Rc.go1 (hr2 k) (m_expr gd)
  refine gA_int (gA_runV (As := [.int p0]) (rest := []) (ci := 1) (q0 := 1) hx hb hml hown hg hP hD hK hS hA hnw hgk (hk_x_readSum3 H.size ad kk V L Z p0 (b) (gT) (gs) (gd) hMV (by (first | exact om_10aaac3409ba rg_p0.1 rg_p0.2 | omega)) (show b < 2 from by (first | exact om_f940a4667dd6 hb2 | omega)) (show (V 1 1).toInt = (b : Int) from by (first | exact om_08e0c9701055 rbk | omega)) rel cdq (show wl gs ≤ 2 * gs.1 0 from by omega) (show p0.toInt = (gd : Int) from by (first | exact om_08e0c9701055 yd | omega)) wh (fun h9 => by exact ow (h9)) (show 8 - p0.toInt ≤ (dd : Int) from by (first | exact om_1656cef72499 y1 | omega))) w955 w957 w22 w162 w958 rfl xgReader hdV_yX1_readSum ⟨(by show 10 * dd + 8 + 1 ≤ 10 * dd + 9; (first | exact om_c7c83dde3bc9 | omega)), (by show 8 + (4 + 11) + (300 * dd + 210) ≤ 300 * dd + 240; (first | exact om_a311f240fdee | omega))⟩ rfl hl.1 rfl (Nat.le_of_ble_eq_true rfl) dX1_readExpression_2 ⟨Nat.le_of_ble_eq_true rfl, Nat.le_of_ble_eq_true rfl⟩) hP hD hK hS hA (fun z4 u5 H locs w6 hP hD hK hS => ?_)
  obtain ⟨V9, L10⟩ := u5
  obtain ⟨hMV9, ajV9, axL10, rgz4, t7, t8⟩ := w6
  have alL10 : agL [6, 44] L L10 := agL.tr alL axL10 (by decide)
  have hP : va_P D vwCl (xw ad kk V9 L10 Z) H := hP
  have hD : va_D A (xw ad kk V9 L10 Z) := hD
  have hMV9 : rgd bX V9 := hMV9
  have ajV9 : agr [(1, 3), (1, 6), (1, 8), (6, 8), (6, 9), (6, 10)] [42, 43, 44, 48] V V9 := ajV9
  have agV9 : agr [(1, 3), (1, 6), (1, 8), (6, 8), (6, 9), (6, 10)] [42, 43, 44, 48] V V9 := agV.tr ajV9 (by decide) (by decide)
  have rgz4 : 0 ≤ z4.toInt ∧ z4.toInt ≤ 1 := rgz4
  have t7 : Rd gT gs (fun k => Isum gd :: k) (fun k => k) z4.toInt (V9 1 3).toInt (fun s9 => RelC V9 L10 b gT s9 ∧ keepS gs 1 s9 ∧ keepE gs s9 ∧ CDc V9 b s9 ∧ wl s9 + 2 * gs.1 0 ≤ wl gs + 2 * s9.1 0 + 1) := t7
  have t8 : ROWL b L L10 := t8
  rcases t7 with ⟨q11, sx12, h13, rl14, kp15, ke16, cd17, wd18⟩ | ⟨q11, h13⟩
  · skip
    have hr19 : ∀ k, Rc gT (Crun gs (Iexpr gd :: k)) (Crun sx12 (Icmp gd :: k)) := fun k => (hr3 k).tr (h13 (Icmp gd :: k))
    refine lv_if_ne (tgt := 10) hx hb dX1_readExpression_5 (by decide) (fun c20 => ?_) (fun c20 => ?_)
    · skip
      have f21 : z4.toInt ≠ 0 := b_neq rfl (by decide) c20
      refine lv_aload_n hx hb dX1_readExpression_10 rfl (lv_at hl 0 rfl) ?_
      refine va_get (D := D) (ci := 1) (v := .ref (ad 6)) (fs := (xfReader ad V9 L10 Z)) (C := RX1) (T := TX1) (N := 9) hx hb hg inX1 hown hK hP 1 xgReader rfl 0 (by decide) (hg _ w304) (fun _ h9 => h9) rfl dX1_readExpression_11 ?_
      refine va_getN (D := D) (ci := 9) (v := .int (V9 6 9)) (fs := (xfTape ad V9 L10 Z)) (C := RX9) (T := TX9) (N := 12) hx hb hg inX9 hown hK hP 6 xgTape rfl 9 (by decide) (hnw.use 262 n262 rfl) (fun _ h9 => h9) rfl dX1_readExpression_14 ?_
      refine lv_istore_n (lv' := [(2, .int (V9 6 9)), (0, .ref (ad 1)), (1, .int p0)]) hx hb dX1_readExpression_17 rfl hl (by decide) rfl (fun ls hl => ?_)
      refine lv_iload_n hx hb dX1_readExpression_18 rfl (lv_at hl 0 rfl) ?_
      refine lv_bipush (v := 60) hx hb dX1_readExpression_19 (by decide) ?_
      refine lv_icmp_eq (tgt := 32) hx hb dX1_readExpression_21 (by decide) (fun c22 => ?_) (fun c22 => ?_)
      · skip
        have f23 : ((V9 6 9)).toInt = 60 := b_eq rfl (by decide) c22
        refine lv_aload_n hx hb dX1_readExpression_32 rfl (lv_at hl 1 rfl) ?_
        refine va_get (D := D) (ci := 1) (v := .ref (ad 6)) (fs := (xfReader ad V9 L10 Z)) (C := RX1) (T := TX1) (N := 9) hx hb hg inX1 hown hK hP 1 xgReader rfl 0 (by decide) (hg _ w304) (fun _ h9 => h9) rfl dX1_readExpression_33 ?_
        have kd24 : gT.1 (sx12.1 0) = ((V9 6 9)).toInt := RelC.kd rl14
        have hr25 : ∀ k, Rc gT (Crun gs (Iexpr gd :: k)) (Crun (nx sx12 1) (Isum gd :: Iem 8 :: k)) := fun k => Rc.go1 (hr19 k) (cmp_60 gd (kd24.trans f23))
        have l826 := RelC.l8 rl14
        have r27 : 0 ≤ ((V9 6 8)).toInt ∧ ((V9 6 8)).toInt ≤ 4000 := hMV9 6 8
        have pq28 : (V9 6 7).toInt = ((V 6 7)).toInt := congrArg Int32.toInt (ajV9 6 7 rfl)
        have r29 : 0 ≤ ((V 6 7)).toInt ∧ ((V 6 7)).toInt ≤ 4000 := hMV 6 7
        have lk30 := RelC.lk rl14 (show (V9 6 9).toInt ≠ 0 from by (first | exact om_8e28c84e1de4 f23 | omega))
        refine gA_void (gA_runV (As := []) (rest := []) (ci := 9) (q0 := 6) hx hb hml hown hg hP hD hK hS hA hnw hgk (x_next2 l D ks H.size ad kk V9 L10 Z  hMV9 (show (V9 6 8).toInt ≤ (V9 6 7).toInt from by omega)) w871 w852 w853 w157 w854 rfl xgTape hdV_yX9_next ⟨(by show 0 + 1 ≤ 10 * dd + 9; (first | exact om_f6f02652fb17 rg_p0.2 y1 | omega)), (by show 8 + (1 + 11) + (0) ≤ 300 * dd + 240; (first | exact om_38b7b0a95203 rg_p0.2 y1 | omega))⟩ rfl hl.1 rfl (Nat.le_of_ble_eq_true rfl) dX1_readExpression_36 ⟨Nat.le_of_ble_eq_true rfl, Nat.le_of_ble_eq_true rfl⟩) hP hD hK hS hA (fun u32 H locs w33 hP hD hK hS => ?_)
        obtain ⟨V36, L37⟩ := u32
        obtain ⟨hMV36, ajV36, axL37, t34, t35⟩ := w33
        have alL37 : agL [6, 44] L L37 := agL.tr alL10 axL37 (by decide)
        have hP : va_P D vwCl (xw ad kk V36 L37 Z) H := hP
        have hD : va_D A (xw ad kk V36 L37 Z) := hD
        have hMV36 : rgd bX V36 := hMV36
        have ajV36 : agr [(6, 8), (6, 9), (6, 10)] [] V9 V36 := ajV36
        have agV36 : agr [(1, 3), (1, 6), (1, 8), (6, 8), (6, 9), (6, 10)] [42, 43, 44, 48] V V36 := agV9.tr ajV36 (by decide) (by decide)
        have t34 : (V36 6 8).toInt ≤ (V36 6 7).toInt := t34
        have t35 : CUR V36 L37 (Int32.toNatClampNeg (V9 6 8)) := t35
        have r38 : 0 ≤ ((V36 6 8)).toInt ∧ ((V36 6 8)).toInt ≤ 4000 := hMV36 6 8
        have pq39 : (V36 6 7).toInt = ((V 6 7)).toInt := congrArg Int32.toInt ((ajV36 6 7 rfl).trans (ajV9 6 7 rfl))
        have rl40 : RelC V36 L37 b gT (nx sx12 1) := RelC.nx1 rl14 ajV36 (by decide) axL37 (by decide) (by rw [← lk30]; exact t35) (ajV36 1 3 rfl)
        refine lv_aload_n hx hb dX1_readExpression_39 rfl (lv_at hl 1 rfl) ?_
        refine lv_iload_n hx hb dX1_readExpression_40 rfl (lv_at hl 2 rfl) ?_
        have pq41 : (V36 1 1).toInt = ((V 1 1)).toInt := congrArg Int32.toInt ((ajV36 1 1 rfl).trans (ajV9 1 1 rfl))
        have cd42 : CDc V36 b sx12 := CDc.ag cd17 (show agr [(6, 8), (6, 9), (6, 10)] [] V9 V36 from (agr.tr agr.rf ajV36 (by decide) (by decide))) (fun _ => rfl) (fun _ => rfl)
        have cd43 : CDc V36 b (nx sx12 1) := CDc.mv cd42 (show ∀ j9, j9 = 5 ∨ 2000 ≤ j9 → (nx sx12 1).2.1 j9 = sx12.2.1 j9 from fun j9 h9 => (show ∀ j9, 5 ≤ j9 → (nx sx12 1).2.1 j9 = sx12.2.1 j9 from fun _ _ => rfl) j9 (by omega))
        have wk44 : wl sx12 + 2 * gs.1 0 ≤ wl gs + 2 * sx12.1 0 + 1 ∧ gs.1 0 + 1 ≤ sx12.1 0 := ⟨wd18, (keepS.le kp15 (by decide)).1⟩
        have wk45 : wl (nx sx12 1) = wl sx12 ∧ (nx sx12 1).1 0 = sx12.1 0 + 1 := ⟨rfl, rfl⟩
        refine gA_int (gA_runV (As := [.int p0]) (rest := []) (ci := 1) (q0 := 1) hx hb hml hown hg hP hD hK hS hA hnw hgk (hk_x_readSum3 H.size ad kk V36 L37 Z p0 (b) (gT) ((nx sx12 1)) (gd) hMV36 (by (first | exact om_10aaac3409ba rg_p0.1 rg_p0.2 | omega)) (show b < 2 from by (first | exact om_f940a4667dd6 hb2 | omega)) (show (V36 1 1).toInt = (b : Int) from by (first | exact om_adf531c77a0d rbk pq41 | omega)) rl40 cd43 (show wl (nx sx12 1) ≤ 2 * (nx sx12 1).1 0 from by omega) (show p0.toInt = (gd : Int) from by (first | exact om_08e0c9701055 yd | omega)) (((congrArg Int32.toInt ((ajV36 1 4 rfl).trans (ajV9 1 4 rfl))).trans wh).trans (congrArg (fun n9 : Nat => (n9 : Int)) (((keepS.tr (keepS.tr (keepS.rf : keepS gs 0 gs) kp15) (keepS.n1 1))).2.1 4 (by decide)).symm)) (fun h9 => by rw [((ajV36 1 2 rfl).trans (ajV9 1 2 rfl))]; exact ow ((congrArg Int32.toInt ((ajV36 1 4 rfl).trans (ajV9 1 4 rfl))).symm.trans h9)) (show 8 - p0.toInt ≤ (dd : Int) from by (first | exact om_1656cef72499 y1 | omega))) w955 w957 w22 w162 w958 rfl xgReader hdV_yX1_readSum ⟨(by show 10 * dd + 8 + 1 ≤ 10 * dd + 9; (first | exact om_c7c83dde3bc9 | omega)), (by show 8 + (4 + 11) + (300 * dd + 210) ≤ 300 * dd + 240; (first | exact om_a311f240fdee | omega))⟩ rfl hl.1 rfl (Nat.le_of_ble_eq_true rfl) dX1_readExpression_41 ⟨Nat.le_of_ble_eq_true rfl, Nat.le_of_ble_eq_true rfl⟩) hP hD hK hS hA (fun z46 u47 H locs w48 hP hD hK hS => ?_)
        obtain ⟨V51, L52⟩ := u47
        obtain ⟨hMV51, ajV51, axL52, rgz46, t49, t50⟩ := w48
        have alL52 : agL [6, 44] L L52 := agL.tr alL37 axL52 (by decide)
        have hP : va_P D vwCl (xw ad kk V51 L52 Z) H := hP
        have hD : va_D A (xw ad kk V51 L52 Z) := hD
        have hMV51 : rgd bX V51 := hMV51
        have ajV51 : agr [(1, 3), (1, 6), (1, 8), (6, 8), (6, 9), (6, 10)] [42, 43, 44, 48] V36 V51 := ajV51
        have agV51 : agr [(1, 3), (1, 6), (1, 8), (6, 8), (6, 9), (6, 10)] [42, 43, 44, 48] V V51 := agV36.tr ajV51 (by decide) (by decide)
        have rgz46 : 0 ≤ z46.toInt ∧ z46.toInt ≤ 1 := rgz46
        have t49 : Rd gT (nx sx12 1) (fun k => Isum gd :: k) (fun k => k) z46.toInt (V51 1 3).toInt (fun s9 => RelC V51 L52 b gT s9 ∧ keepS (nx sx12 1) 1 s9 ∧ keepE (nx sx12 1) s9 ∧ CDc V51 b s9 ∧ wl s9 + 2 * (nx sx12 1).1 0 ≤ wl (nx sx12 1) + 2 * s9.1 0 + 1) := t49
        have t50 : ROWL b L37 L52 := t50
        rcases t49 with ⟨q53, sx54, h55, rl56, kp57, ke58, cd59, wd60⟩ | ⟨q53, h55⟩
        · skip
          have hr61 : ∀ k, Rc gT (Crun gs (Iexpr gd :: k)) (Crun sx54 (Iem 8 :: k)) := fun k => (hr25 k).tr (h55 (Iem 8 :: k))
          refine lv_if_ne (tgt := 49) hx hb dX1_readExpression_44 (by decide) (fun c62 => ?_) (fun c62 => ?_)
          · skip
            have f63 : z46.toInt ≠ 0 := b_neq rfl (by decide) c62
            refine lv_aload_n hx hb dX1_readExpression_49 rfl (lv_at hl 1 rfl) ?_
            refine va_get (D := D) (ci := 1) (v := rfN ad 38 (V51 1 1)) (fs := (xfReader ad V51 L52 Z)) (C := RX1) (T := TX1) (N := 9) hx hb hg inX1 hown hK hP 1 xgReader rfl 1 (by decide) (hg _ w305) (fun _ h9 => h9) rfl dX1_readExpression_50 ?_
            have pq64 : (V51 1 1).toInt = ((V 1 1)).toInt := congrArg Int32.toInt ((ajV51 1 1 rfl).trans ((ajV36 1 1 rfl).trans (ajV9 1 1 rfl)))
            refine g_topv (v := .ref (ad (38 + b))) (rfN_r (by omega)) ?_
            refine lv_iload_n hx hb dX1_readExpression_53 rfl (lv_at hl 0 rfl) ?_
            refine lv_bipush (v := 60) hx hb dX1_readExpression_54 (by decide) ?_
            refine lv_icmp_ne (tgt := 64) hx hb dX1_readExpression_56 (by decide) (fun c65 => ?_) (fun c65 => ?_)
            · skip
              have f66 : ((V9 6 9)).toInt ≠ 60 := b_neq rfl (by decide) c65
              exfalso; (first | exact om_7e7dd3a43436 f23 f66 | omega)
            · skip
              have f67 : ((V9 6 9)).toInt = 60 := b_eq rfl (by decide) c65
              refine lv_bipush (v := 8) hx hb dX1_readExpression_59 (by decide) ?_
              refine lv_goto (tgt := 66) hx hb dX1_readExpression_61 (by decide) ?_
              have r68 : Int32.toInt 8 = 8 := by decide
              refine gA_void (gA_runV (As := [.int 8]) (rest := []) (ci := 0) (q0 := (38 + b)) hx hb hml hown hg hP hD hK hS hA hnw hgk (x_emit l D ks H.size ad kk V51 L52 Z 8 (b) hMV51 (show b < 2 from by (first | exact om_f940a4667dd6 hb2 | omega))) w971 w972 w973 w167 w974 rfl (xgBook hb2) hdV_yX0_emit ⟨(by show 0 + 1 ≤ 10 * dd + 9; (first | exact om_f6f02652fb17 rg_p0.2 y1 | omega)), (by show 8 + (2 + 11) + (0) ≤ 300 * dd + 240; (first | exact om_e69b212fc415 rg_p0.2 y1 | omega))⟩ rfl hl.1 rfl (Nat.le_of_ble_eq_true rfl) dX1_readExpression_66 ⟨Nat.le_of_ble_eq_true rfl, Nat.le_of_ble_eq_true rfl⟩) hP hD hK hS hA (fun u70 H locs w71 hP hD hK hS => ?_)
              obtain ⟨V73, L74⟩ := u70
              obtain ⟨hMV73, ajV73, axL74, fyV73, t72⟩ := w71
              have axL74 : L52 = L74 := Eq.symm axL74
              subst axL74
              have hP : va_P D vwCl (xw ad kk V73 L52 Z) H := hP
              have hD : va_D A (xw ad kk V73 L52 Z) := hD
              have hMV73 : rgd bX V73 := hMV73
              have ajV73 : agr [] [42, 48] V51 V73 := ajV73
              have agV73 : agr [(1, 3), (1, 6), (1, 8), (6, 8), (6, 9), (6, 10)] [42, 43, 44, 48] V V73 := agV51.tr ajV73 (by decide) (by decide)
              have t72 : emX V51 V73 b 8 := t72
              have hr75 : ∀ k, Rc gT (Crun gs (Iexpr gd :: k)) (Crun (emS sx54 8 0 0) (k)) := fun k => Rc.go1 (hr61 k) (m_em 8)
              have rl76 : RelC V73 L52 b gT sx54 := RelC.ag rl56 (show agr [] [42, 48] V51 V73 from (agr.tr agr.rf ajV73 (by decide) (by decide))) (by decide) (show agL [] L52 L52 from agL.rf) (by decide)
              have rl77 : RelC V73 L52 b gT (emS sx54 8 0 0) := RelC.em rl76
              have wk78 : wl sx54 + 2 * (nx sx12 1).1 0 ≤ wl (nx sx12 1) + 2 * sx54.1 0 + 1 ∧ (nx sx12 1).1 0 + 1 ≤ sx54.1 0 := ⟨wd60, (keepS.le kp57 (by decide)).1⟩
              have wk79 : wl (emS sx54 8 0 0) = wl sx54 + 1 ∧ (emS sx54 8 0 0).1 0 = sx54.1 0 := ⟨(wl_em sx54 8 _ _).trans (congrArg (fun q9 => wl sx54 + q9) (show szO 8 = 1 from by decide)), rfl⟩
              have ph80 : (((emS sx54 8 0 0).1 0 : Nat) : Int) ≤ 4000 := Int.le_trans (rl77).1.1 (show 0 ≤ (V73 6 7).toInt ∧ (V73 6 7).toInt ≤ 4000 from hMV73 6 7).2
              have hr81 : (V51 42 b).toInt + 1 < 8200 := by have h9 := cd59.1; omega
              have cd82 : CDc V73 b (emS sx54 8 0 0) := CDc.e1 cd59 t72 (by (first | exact om_df3b24190af0 hr81 | omega)) (by decide) (by decide)
              refine lv_iconst (v := 1) hx hb dX1_readExpression_69 (by decide) ?_
              have rw83 : ROWL b L L52 := (fun k hk => ((t50 k hk).trans ((axL37 44 k rfl).trans ((t8 k hk).trans rfl))))
              exact W.zret (v := 1) hx hb hr rfl (fun t ht hW => ⟨⟨1, (V73, L52), rfl, ⟨hMV73, agV73, alL52, (by decide), (Or.inl ⟨rfl, (emS sx54 8 0 0), hr75, rl77, keepS.le (keepS.tr (keepS.tr (keepS.tr (keepS.tr (keepS.rf : keepS gs 0 gs) kp15) (keepS.n1 1)) kp57) (show keepS sx54 0 (emS sx54 8 0 0) from keepS.em)) (by decide), (keepE.tr (keepE.tr (keepE.tr (keepE.tr (keepE.rf : keepE gs gs) ke16) (show keepE sx12 (nx sx12 1) from keepE.eq (show ∀ j9, 5 ≤ j9 → (nx sx12 1).2.1 j9 = sx12.2.1 j9 from fun _ _ => rfl))) ke58) (show keepE sx54 (emS sx54 8 0 0) from keepE.em)), cd82, (by omega)⟩), rw83⟩, by rw [ht]; exact hP, va_K.moved hW.alike hK, hD⟩, hS.F ht⟩) hS.2.2 dX1_readExpression_70
          · skip
            have f84 : z46.toInt = 0 := b_eq rfl (by decide) c62
            exfalso; omega
        · skip
          have hb85 : ∀ k, Rc gT (Crun gs (Iexpr gd :: k)) (Cbad (V51 1 3).toInt) := fun k => (hr25 k).tr (h55 (Iem 8 :: k))
          refine lv_if_ne (tgt := 49) hx hb dX1_readExpression_44 (by decide) (fun c86 => ?_) (fun c86 => ?_)
          · skip
            have f87 : z46.toInt ≠ 0 := b_neq rfl (by decide) c86
            exfalso; omega
          · skip
            have f88 : z46.toInt = 0 := b_eq rfl (by decide) c86
            refine lv_iconst (v := 0) hx hb dX1_readExpression_47 (by decide) ?_
            have rw89 : ROWL b L L52 := (fun k hk => ((t50 k hk).trans ((axL37 44 k rfl).trans ((t8 k hk).trans rfl))))
            exact W.zret (v := 0) hx hb hr rfl (fun t ht hW => ⟨⟨0, (V51, L52), rfl, ⟨hMV51, agV51, alL52, (by decide), (Or.inr ⟨rfl, hb85⟩), rw89⟩, by rw [ht]; exact hP, va_K.moved hW.alike hK, hD⟩, hS.F ht⟩) hS.2.2 dX1_readExpression_48
      · skip
        have f90 : ((V9 6 9)).toInt ≠ 60 := b_neq rfl (by decide) c22
        refine lv_iload_n hx hb dX1_readExpression_24 rfl (lv_at hl 0 rfl) ?_
        refine lv_bipush (v := 61) hx hb dX1_readExpression_25 (by decide) ?_
        refine lv_icmp_eq (tgt := 32) hx hb dX1_readExpression_27 (by decide) (fun c91 => ?_) (fun c91 => ?_)
        · skip
          have f92 : ((V9 6 9)).toInt = 61 := b_eq rfl (by decide) c91
          refine lv_aload_n hx hb dX1_readExpression_32 rfl (lv_at hl 1 rfl) ?_
          refine va_get (D := D) (ci := 1) (v := .ref (ad 6)) (fs := (xfReader ad V9 L10 Z)) (C := RX1) (T := TX1) (N := 9) hx hb hg inX1 hown hK hP 1 xgReader rfl 0 (by decide) (hg _ w304) (fun _ h9 => h9) rfl dX1_readExpression_33 ?_
          have kd93 : gT.1 (sx12.1 0) = ((V9 6 9)).toInt := RelC.kd rl14
          have hr94 : ∀ k, Rc gT (Crun gs (Iexpr gd :: k)) (Crun (nx sx12 1) (Isum gd :: Iem 9 :: k)) := fun k => Rc.go1 (hr19 k) (cmp_61 gd (kd93.trans f92))
          have l895 := RelC.l8 rl14
          have r96 : 0 ≤ ((V9 6 8)).toInt ∧ ((V9 6 8)).toInt ≤ 4000 := hMV9 6 8
          have pq97 : (V9 6 7).toInt = ((V 6 7)).toInt := congrArg Int32.toInt (ajV9 6 7 rfl)
          have r98 : 0 ≤ ((V 6 7)).toInt ∧ ((V 6 7)).toInt ≤ 4000 := hMV 6 7
          have lk99 := RelC.lk rl14 (show (V9 6 9).toInt ≠ 0 from by (first | exact om_e84d04d14ad8 f92 | omega))
          refine gA_void (gA_runV (As := []) (rest := []) (ci := 9) (q0 := 6) hx hb hml hown hg hP hD hK hS hA hnw hgk (x_next2 l D ks H.size ad kk V9 L10 Z  hMV9 (show (V9 6 8).toInt ≤ (V9 6 7).toInt from by omega)) w871 w852 w853 w157 w854 rfl xgTape hdV_yX9_next ⟨(by show 0 + 1 ≤ 10 * dd + 9; (first | exact om_f6f02652fb17 rg_p0.2 y1 | omega)), (by show 8 + (1 + 11) + (0) ≤ 300 * dd + 240; (first | exact om_38b7b0a95203 rg_p0.2 y1 | omega))⟩ rfl hl.1 rfl (Nat.le_of_ble_eq_true rfl) dX1_readExpression_36 ⟨Nat.le_of_ble_eq_true rfl, Nat.le_of_ble_eq_true rfl⟩) hP hD hK hS hA (fun u101 H locs w102 hP hD hK hS => ?_)
          obtain ⟨V105, L106⟩ := u101
          obtain ⟨hMV105, ajV105, axL106, t103, t104⟩ := w102
          have alL106 : agL [6, 44] L L106 := agL.tr alL10 axL106 (by decide)
          have hP : va_P D vwCl (xw ad kk V105 L106 Z) H := hP
          have hD : va_D A (xw ad kk V105 L106 Z) := hD
          have hMV105 : rgd bX V105 := hMV105
          have ajV105 : agr [(6, 8), (6, 9), (6, 10)] [] V9 V105 := ajV105
          have agV105 : agr [(1, 3), (1, 6), (1, 8), (6, 8), (6, 9), (6, 10)] [42, 43, 44, 48] V V105 := agV9.tr ajV105 (by decide) (by decide)
          have t103 : (V105 6 8).toInt ≤ (V105 6 7).toInt := t103
          have t104 : CUR V105 L106 (Int32.toNatClampNeg (V9 6 8)) := t104
          have r107 : 0 ≤ ((V105 6 8)).toInt ∧ ((V105 6 8)).toInt ≤ 4000 := hMV105 6 8
          have pq108 : (V105 6 7).toInt = ((V 6 7)).toInt := congrArg Int32.toInt ((ajV105 6 7 rfl).trans (ajV9 6 7 rfl))
          have rl109 : RelC V105 L106 b gT (nx sx12 1) := RelC.nx1 rl14 ajV105 (by decide) axL106 (by decide) (by rw [← lk99]; exact t104) (ajV105 1 3 rfl)
          refine lv_aload_n hx hb dX1_readExpression_39 rfl (lv_at hl 1 rfl) ?_
          refine lv_iload_n hx hb dX1_readExpression_40 rfl (lv_at hl 2 rfl) ?_
          have pq110 : (V105 1 1).toInt = ((V 1 1)).toInt := congrArg Int32.toInt ((ajV105 1 1 rfl).trans (ajV9 1 1 rfl))
          have cd111 : CDc V105 b sx12 := CDc.ag cd17 (show agr [(6, 8), (6, 9), (6, 10)] [] V9 V105 from (agr.tr agr.rf ajV105 (by decide) (by decide))) (fun _ => rfl) (fun _ => rfl)
          have cd112 : CDc V105 b (nx sx12 1) := CDc.mv cd111 (show ∀ j9, j9 = 5 ∨ 2000 ≤ j9 → (nx sx12 1).2.1 j9 = sx12.2.1 j9 from fun j9 h9 => (show ∀ j9, 5 ≤ j9 → (nx sx12 1).2.1 j9 = sx12.2.1 j9 from fun _ _ => rfl) j9 (by omega))
          have wk113 : wl sx12 + 2 * gs.1 0 ≤ wl gs + 2 * sx12.1 0 + 1 ∧ gs.1 0 + 1 ≤ sx12.1 0 := ⟨wd18, (keepS.le kp15 (by decide)).1⟩
          have wk114 : wl (nx sx12 1) = wl sx12 ∧ (nx sx12 1).1 0 = sx12.1 0 + 1 := ⟨rfl, rfl⟩
          refine gA_int (gA_runV (As := [.int p0]) (rest := []) (ci := 1) (q0 := 1) hx hb hml hown hg hP hD hK hS hA hnw hgk (hk_x_readSum3 H.size ad kk V105 L106 Z p0 (b) (gT) ((nx sx12 1)) (gd) hMV105 (by (first | exact om_10aaac3409ba rg_p0.1 rg_p0.2 | omega)) (show b < 2 from by (first | exact om_f940a4667dd6 hb2 | omega)) (show (V105 1 1).toInt = (b : Int) from by (first | exact om_adf531c77a0d rbk pq110 | omega)) rl109 cd112 (show wl (nx sx12 1) ≤ 2 * (nx sx12 1).1 0 from by omega) (show p0.toInt = (gd : Int) from by (first | exact om_08e0c9701055 yd | omega)) (((congrArg Int32.toInt ((ajV105 1 4 rfl).trans (ajV9 1 4 rfl))).trans wh).trans (congrArg (fun n9 : Nat => (n9 : Int)) (((keepS.tr (keepS.tr (keepS.rf : keepS gs 0 gs) kp15) (keepS.n1 1))).2.1 4 (by decide)).symm)) (fun h9 => by rw [((ajV105 1 2 rfl).trans (ajV9 1 2 rfl))]; exact ow ((congrArg Int32.toInt ((ajV105 1 4 rfl).trans (ajV9 1 4 rfl))).symm.trans h9)) (show 8 - p0.toInt ≤ (dd : Int) from by (first | exact om_1656cef72499 y1 | omega))) w955 w957 w22 w162 w958 rfl xgReader hdV_yX1_readSum ⟨(by show 10 * dd + 8 + 1 ≤ 10 * dd + 9; (first | exact om_c7c83dde3bc9 | omega)), (by show 8 + (4 + 11) + (300 * dd + 210) ≤ 300 * dd + 240; (first | exact om_a311f240fdee | omega))⟩ rfl hl.1 rfl (Nat.le_of_ble_eq_true rfl) dX1_readExpression_41 ⟨Nat.le_of_ble_eq_true rfl, Nat.le_of_ble_eq_true rfl⟩) hP hD hK hS hA (fun z115 u116 H locs w117 hP hD hK hS => ?_)
          obtain ⟨V120, L121⟩ := u116
          obtain ⟨hMV120, ajV120, axL121, rgz115, t118, t119⟩ := w117
          have alL121 : agL [6, 44] L L121 := agL.tr alL106 axL121 (by decide)
          have hP : va_P D vwCl (xw ad kk V120 L121 Z) H := hP
          have hD : va_D A (xw ad kk V120 L121 Z) := hD
          have hMV120 : rgd bX V120 := hMV120
          have ajV120 : agr [(1, 3), (1, 6), (1, 8), (6, 8), (6, 9), (6, 10)] [42, 43, 44, 48] V105 V120 := ajV120
          have agV120 : agr [(1, 3), (1, 6), (1, 8), (6, 8), (6, 9), (6, 10)] [42, 43, 44, 48] V V120 := agV105.tr ajV120 (by decide) (by decide)
          have rgz115 : 0 ≤ z115.toInt ∧ z115.toInt ≤ 1 := rgz115
          have t118 : Rd gT (nx sx12 1) (fun k => Isum gd :: k) (fun k => k) z115.toInt (V120 1 3).toInt (fun s9 => RelC V120 L121 b gT s9 ∧ keepS (nx sx12 1) 1 s9 ∧ keepE (nx sx12 1) s9 ∧ CDc V120 b s9 ∧ wl s9 + 2 * (nx sx12 1).1 0 ≤ wl (nx sx12 1) + 2 * s9.1 0 + 1) := t118
          have t119 : ROWL b L106 L121 := t119
          rcases t118 with ⟨q122, sx123, h124, rl125, kp126, ke127, cd128, wd129⟩ | ⟨q122, h124⟩
          · skip
            have hr130 : ∀ k, Rc gT (Crun gs (Iexpr gd :: k)) (Crun sx123 (Iem 9 :: k)) := fun k => (hr94 k).tr (h124 (Iem 9 :: k))
            refine lv_if_ne (tgt := 49) hx hb dX1_readExpression_44 (by decide) (fun c131 => ?_) (fun c131 => ?_)
            · skip
              have f132 : z115.toInt ≠ 0 := b_neq rfl (by decide) c131
              refine lv_aload_n hx hb dX1_readExpression_49 rfl (lv_at hl 1 rfl) ?_
              refine va_get (D := D) (ci := 1) (v := rfN ad 38 (V120 1 1)) (fs := (xfReader ad V120 L121 Z)) (C := RX1) (T := TX1) (N := 9) hx hb hg inX1 hown hK hP 1 xgReader rfl 1 (by decide) (hg _ w305) (fun _ h9 => h9) rfl dX1_readExpression_50 ?_
              have pq133 : (V120 1 1).toInt = ((V 1 1)).toInt := congrArg Int32.toInt ((ajV120 1 1 rfl).trans ((ajV105 1 1 rfl).trans (ajV9 1 1 rfl)))
              refine g_topv (v := .ref (ad (38 + b))) (rfN_r (by omega)) ?_
              refine lv_iload_n hx hb dX1_readExpression_53 rfl (lv_at hl 0 rfl) ?_
              refine lv_bipush (v := 60) hx hb dX1_readExpression_54 (by decide) ?_
              refine lv_icmp_ne (tgt := 64) hx hb dX1_readExpression_56 (by decide) (fun c134 => ?_) (fun c134 => ?_)
              · skip
                have f135 : ((V9 6 9)).toInt ≠ 60 := b_neq rfl (by decide) c134
                refine lv_bipush (v := 9) hx hb dX1_readExpression_64 (by decide) ?_
                have r136 : Int32.toInt 9 = 9 := by decide
                refine gA_void (gA_runV (As := [.int 9]) (rest := []) (ci := 0) (q0 := (38 + b)) hx hb hml hown hg hP hD hK hS hA hnw hgk (x_emit l D ks H.size ad kk V120 L121 Z 9 (b) hMV120 (show b < 2 from by (first | exact om_f940a4667dd6 hb2 | omega))) w971 w972 w973 w167 w974 rfl (xgBook hb2) hdV_yX0_emit ⟨(by show 0 + 1 ≤ 10 * dd + 9; (first | exact om_f6f02652fb17 rg_p0.2 y1 | omega)), (by show 8 + (2 + 11) + (0) ≤ 300 * dd + 240; (first | exact om_e69b212fc415 rg_p0.2 y1 | omega))⟩ rfl hl.1 rfl (Nat.le_of_ble_eq_true rfl) dX1_readExpression_66 ⟨Nat.le_of_ble_eq_true rfl, Nat.le_of_ble_eq_true rfl⟩) hP hD hK hS hA (fun u138 H locs w139 hP hD hK hS => ?_)
                obtain ⟨V141, L142⟩ := u138
                obtain ⟨hMV141, ajV141, axL142, fyV141, t140⟩ := w139
                have axL142 : L121 = L142 := Eq.symm axL142
                subst axL142
                have hP : va_P D vwCl (xw ad kk V141 L121 Z) H := hP
                have hD : va_D A (xw ad kk V141 L121 Z) := hD
                have hMV141 : rgd bX V141 := hMV141
                have ajV141 : agr [] [42, 48] V120 V141 := ajV141
                have agV141 : agr [(1, 3), (1, 6), (1, 8), (6, 8), (6, 9), (6, 10)] [42, 43, 44, 48] V V141 := agV120.tr ajV141 (by decide) (by decide)
                have t140 : emX V120 V141 b 9 := t140
                have hr143 : ∀ k, Rc gT (Crun gs (Iexpr gd :: k)) (Crun (emS sx123 9 0 0) (k)) := fun k => Rc.go1 (hr130 k) (m_em 9)
                have rl144 : RelC V141 L121 b gT sx123 := RelC.ag rl125 (show agr [] [42, 48] V120 V141 from (agr.tr agr.rf ajV141 (by decide) (by decide))) (by decide) (show agL [] L121 L121 from agL.rf) (by decide)
                have rl145 : RelC V141 L121 b gT (emS sx123 9 0 0) := RelC.em rl144
                have wk146 : wl sx123 + 2 * (nx sx12 1).1 0 ≤ wl (nx sx12 1) + 2 * sx123.1 0 + 1 ∧ (nx sx12 1).1 0 + 1 ≤ sx123.1 0 := ⟨wd129, (keepS.le kp126 (by decide)).1⟩
                have wk147 : wl (emS sx123 9 0 0) = wl sx123 + 1 ∧ (emS sx123 9 0 0).1 0 = sx123.1 0 := ⟨(wl_em sx123 9 _ _).trans (congrArg (fun q9 => wl sx123 + q9) (show szO 9 = 1 from by decide)), rfl⟩
                have ph148 : (((emS sx123 9 0 0).1 0 : Nat) : Int) ≤ 4000 := Int.le_trans (rl145).1.1 (show 0 ≤ (V141 6 7).toInt ∧ (V141 6 7).toInt ≤ 4000 from hMV141 6 7).2
                have hr149 : (V120 42 b).toInt + 1 < 8200 := by have h9 := cd128.1; omega
                have cd150 : CDc V141 b (emS sx123 9 0 0) := CDc.e1 cd128 t140 (by (first | exact om_df3b24190af0 hr149 | omega)) (by decide) (by decide)
                refine lv_iconst (v := 1) hx hb dX1_readExpression_69 (by decide) ?_
                have rw151 : ROWL b L L121 := (fun k hk => ((t119 k hk).trans ((axL106 44 k rfl).trans ((t8 k hk).trans rfl))))
                exact W.zret (v := 1) hx hb hr rfl (fun t ht hW => ⟨⟨1, (V141, L121), rfl, ⟨hMV141, agV141, alL121, (by decide), (Or.inl ⟨rfl, (emS sx123 9 0 0), hr143, rl145, keepS.le (keepS.tr (keepS.tr (keepS.tr (keepS.tr (keepS.rf : keepS gs 0 gs) kp15) (keepS.n1 1)) kp126) (show keepS sx123 0 (emS sx123 9 0 0) from keepS.em)) (by decide), (keepE.tr (keepE.tr (keepE.tr (keepE.tr (keepE.rf : keepE gs gs) ke16) (show keepE sx12 (nx sx12 1) from keepE.eq (show ∀ j9, 5 ≤ j9 → (nx sx12 1).2.1 j9 = sx12.2.1 j9 from fun _ _ => rfl))) ke127) (show keepE sx123 (emS sx123 9 0 0) from keepE.em)), cd150, (by omega)⟩), rw151⟩, by rw [ht]; exact hP, va_K.moved hW.alike hK, hD⟩, hS.F ht⟩) hS.2.2 dX1_readExpression_70
              · skip
                have f152 : ((V9 6 9)).toInt = 60 := b_eq rfl (by decide) c134
                exfalso; (first | exact om_495cabaa3c36 f90 f92 f152 | omega)
            · skip
              have f153 : z115.toInt = 0 := b_eq rfl (by decide) c131
              exfalso; omega
          · skip
            have hb154 : ∀ k, Rc gT (Crun gs (Iexpr gd :: k)) (Cbad (V120 1 3).toInt) := fun k => (hr94 k).tr (h124 (Iem 9 :: k))
            refine lv_if_ne (tgt := 49) hx hb dX1_readExpression_44 (by decide) (fun c155 => ?_) (fun c155 => ?_)
            · skip
              have f156 : z115.toInt ≠ 0 := b_neq rfl (by decide) c155
              exfalso; omega
            · skip
              have f157 : z115.toInt = 0 := b_eq rfl (by decide) c155
              refine lv_iconst (v := 0) hx hb dX1_readExpression_47 (by decide) ?_
              have rw158 : ROWL b L L121 := (fun k hk => ((t119 k hk).trans ((axL106 44 k rfl).trans ((t8 k hk).trans rfl))))
              exact W.zret (v := 0) hx hb hr rfl (fun t ht hW => ⟨⟨0, (V120, L121), rfl, ⟨hMV120, agV120, alL121, (by decide), (Or.inr ⟨rfl, hb154⟩), rw158⟩, by rw [ht]; exact hP, va_K.moved hW.alike hK, hD⟩, hS.F ht⟩) hS.2.2 dX1_readExpression_48
        · skip
          have f159 : ((V9 6 9)).toInt ≠ 61 := b_neq rfl (by decide) c91
          refine lv_iconst (v := 1) hx hb dX1_readExpression_30 (by decide) ?_
          have kd160 : gT.1 (sx12.1 0) = ((V9 6 9)).toInt := RelC.kd rl14
          have hr161 : ∀ k, Rc gT (Crun gs (Iexpr gd :: k)) (Crun sx12 (k)) := fun k => Rc.go1 (hr19 k) (cmp_n gd (fun h9 => f90 (kd160.symm.trans h9)) (fun h9 => f159 (kd160.symm.trans h9)))
          have wk162 : wl sx12 + 2 * gs.1 0 ≤ wl gs + 2 * sx12.1 0 + 1 ∧ gs.1 0 + 1 ≤ sx12.1 0 := ⟨wd18, (keepS.le kp15 (by decide)).1⟩
          have rw163 : ROWL b L L10 := (fun k hk => ((t8 k hk).trans rfl))
          exact W.zret (v := 1) hx hb hr rfl (fun t ht hW => ⟨⟨1, (V9, L10), rfl, ⟨hMV9, agV9, alL10, (by decide), (Or.inl ⟨rfl, sx12, hr161, rl14, keepS.le (keepS.tr (keepS.rf : keepS gs 0 gs) kp15) (by decide), (keepE.tr (keepE.rf : keepE gs gs) ke16), cd17, (by omega)⟩), rw163⟩, by rw [ht]; exact hP, va_K.moved hW.alike hK, hD⟩, hS.F ht⟩) hS.2.2 dX1_readExpression_31
    · skip
      have f164 : z4.toInt = 0 := b_eq rfl (by decide) c20
      exfalso; omega
  · skip
    have hb165 : ∀ k, Rc gT (Crun gs (Iexpr gd :: k)) (Cbad (V9 1 3).toInt) := fun k => (hr3 k).tr (h13 (Icmp gd :: k))
    refine lv_if_ne (tgt := 10) hx hb dX1_readExpression_5 (by decide) (fun c166 => ?_) (fun c166 => ?_)
    · skip
      have f167 : z4.toInt ≠ 0 := b_neq rfl (by decide) c166
      exfalso; omega
    · skip
      have f168 : z4.toInt = 0 := b_eq rfl (by decide) c166
      refine lv_iconst (v := 0) hx hb dX1_readExpression_8 (by decide) ?_
      have rw169 : ROWL b L L10 := (fun k hk => ((t8 k hk).trans rfl))
      exact W.zret (v := 0) hx hb hr rfl (fun t ht hW => ⟨⟨0, (V9, L10), rfl, ⟨hMV9, agV9, alL10, (by decide), (Or.inr ⟨rfl, hb165⟩), rw169⟩, by rw [ht]; exact hP, va_K.moved hW.alike hK, hD⟩, hS.F ht⟩) hS.2.2 dX1_readExpression_9
set_option maxHeartbeats 4000000 in
set_option maxRecDepth 100000 in
theorem x_readSum3 {l : Launch} {D : va_G} {ks : KS} {dd : Nat} (hk_x_readProduct3 : K_x_readProduct3 l D ks dd) : K_x_readSum3 l D ks dd := by
  intro sz ad kk V L Z p0 b gT gs gd hMV rg_p0 hb2 rbk rel cdq hwl yd wh ow y1
  refine g_met (q_x_readSum3 D ks ad kk V L Z p0 b gT gs gd) (by decide) (Nat.le_of_ble_eq_true rfl) ?_
  intro p e s m below meth c A ls H locs hx hb hr hml hown hg hlocks hin hnw hgk hP hK hD hS hA hl
  have hown : s.vm.findClass RX1 = some m.cls := hown
  have hl : lv_has ls 4 [(0, .ref (ad 1)), (1, .int p0)] := hl
  have hP : va_P D vwCl (xw ad kk V L Z) H := hP
  have hD : va_D A (xw ad kk V L Z) := hD
  have hK : va_K D vwCl (xty kk Z) s := hK
  have agV : agr [(1, 3), (1, 6), (1, 8), (6, 8), (6, 9), (6, 10)] [42, 43, 44, 48] V V := agr.rf
  have alL : agL [6, 44] L L := agL.rf
  have rf_p0 := i_full p0
  have r1 : (-1) ≤ ((V 1 1)).toInt ∧ ((V 1 1)).toInt ≤ 1 := hMV 1 1
  refine lv_aload_n hx hb dX1_readSum_0 rfl (lv_at hl 0 rfl) ?_
  refine lv_iload_n hx hb dX1_readSum_1 rfl (lv_at hl 1 rfl) ?_
  have hr2 : ∀ k, Rc gT (Crun gs (Isum gd :: k)) (Crun gs (Isum gd :: k)) := fun k => Rc.rf
  have hr3 : ∀ k, Rc gT (Crun gs (Isum gd :: k)) (Crun gs (Iprod gd :: IsumR gd :: k)) := fun k => Rc.go1 (hr2 k) (m_sum gd)
  refine gA_int (gA_runV (As := [.int p0]) (rest := []) (ci := 1) (q0 := 1) hx hb hml hown hg hP hD hK hS hA hnw hgk (hk_x_readProduct3 H.size ad kk V L Z p0 (b) (gT) (gs) (gd) hMV (by (first | exact om_10aaac3409ba rg_p0.1 rg_p0.2 | omega)) (show b < 2 from by (first | exact om_f940a4667dd6 hb2 | omega)) (show (V 1 1).toInt = (b : Int) from by (first | exact om_08e0c9701055 rbk | omega)) rel cdq (show wl gs ≤ 2 * gs.1 0 from by omega) (show p0.toInt = (gd : Int) from by (first | exact om_08e0c9701055 yd | omega)) wh (fun h9 => by exact ow (h9)) (show 8 - p0.toInt ≤ (dd : Int) from by (first | exact om_1656cef72499 y1 | omega))) w959 w961 w23 w162 w962 rfl xgReader hdV_yX1_readProduct ⟨(by show 10 * dd + 7 + 1 ≤ 10 * dd + 8; (first | exact om_7e8ec362a821 | omega)), (by show 8 + (3 + 11) + (300 * dd + 180) ≤ 300 * dd + 210; (first | exact om_1fb375867bcd | omega))⟩ rfl hl.1 rfl (Nat.le_of_ble_eq_true rfl) dX1_readSum_2 ⟨Nat.le_of_ble_eq_true rfl, Nat.le_of_ble_eq_true rfl⟩) hP hD hK hS hA (fun z4 u5 H locs w6 hP hD hK hS => ?_)
  obtain ⟨V9, L10⟩ := u5
  obtain ⟨hMV9, ajV9, axL10, rgz4, t7, t8⟩ := w6
  have alL10 : agL [6, 44] L L10 := agL.tr alL axL10 (by decide)
  have hP : va_P D vwCl (xw ad kk V9 L10 Z) H := hP
  have hD : va_D A (xw ad kk V9 L10 Z) := hD
  have hMV9 : rgd bX V9 := hMV9
  have ajV9 : agr [(1, 3), (1, 6), (1, 8), (6, 8), (6, 9), (6, 10)] [42, 43, 44, 48] V V9 := ajV9
  have agV9 : agr [(1, 3), (1, 6), (1, 8), (6, 8), (6, 9), (6, 10)] [42, 43, 44, 48] V V9 := agV.tr ajV9 (by decide) (by decide)
  have rgz4 : 0 ≤ z4.toInt ∧ z4.toInt ≤ 1 := rgz4
  have t7 : Rd gT gs (fun k => Iprod gd :: k) (fun k => k) z4.toInt (V9 1 3).toInt (fun s9 => RelC V9 L10 b gT s9 ∧ keepS gs 1 s9 ∧ keepE gs s9 ∧ CDc V9 b s9 ∧ wl s9 + 2 * gs.1 0 ≤ wl gs + 2 * s9.1 0 + 1) := t7
  have t8 : ROWL b L L10 := t8
  rcases t7 with ⟨q11, sx12, h13, rl14, kp15, ke16, cd17, wd18⟩ | ⟨q11, h13⟩
  · skip
    have hr19 : ∀ k, Rc gT (Crun gs (Isum gd :: k)) (Crun sx12 (IsumR gd :: k)) := fun k => (hr3 k).tr (h13 (IsumR gd :: k))
    refine lv_if_ne (tgt := 10) hx hb dX1_readSum_5 (by decide) (fun c20 => ?_) (fun c20 => ?_)
    · skip
      have f21 : z4.toInt ≠ 0 := b_neq rfl (by decide) c20
      refine lv_iconst (v := 0) hx hb dX1_readSum_10 (by decide) ?_
      refine lv_istore_n (lv' := [(2, .int 0), (0, .ref (ad 1)), (1, .int p0)]) hx hb dX1_readSum_11 rfl hl (by decide) rfl (fun ls hl => ?_)
      have lp25 : ∀ (fulp25 : Nat) (y22 : Int32) (V23 : Vf) (L24 : Lf) (H : Heap) (locs : List Loc) (ls : Array Slot), 0 ≤ y22.toInt ∧ y22.toInt ≤ 4000 → (∃ s1 : St, (∀ k, Rc gT (Crun gs (Isum gd :: k)) (Crun s1 (IsumR gd :: k))) ∧ RelC V23 L24 b gT s1 ∧ keepS gs 1 s1 ∧ y22.toInt ≤ ((s1.1 0 : Nat) : Int) ∧ keepE gs s1 ∧ CDc V23 b s1 ∧ wl s1 + 2 * gs.1 0 ≤ wl gs + 2 * s1.1 0 + 1) → (V23 1 1).toInt = (b : Int) → (ROWL b L L24) → 4000 - y22.toInt < (fulp25 : Int) → agL [6, 44] L L24 → agr [(1, 3), (1, 6), (1, 8), (6, 8), (6, 9), (6, 10)] [42, 43, 44, 48] V9 V23 → rgd bX V23 → va_P D vwCl (xw ad kk V23 L24 Z) H → va_D A (xw ad kk V23 L24 Z) → va_S A s.heap H locs → lv_has ls 4 [(2, .int y22), (0, .ref (ad 1)), (1, .int p0)] → W p l e (rK 8 210 dd) s m ([.ref (ad 1), .int p0] : List Value).toArray below meth c H locs 0 0 (MQ below (q_x_readSum3 D ks ad kk V L Z p0 b gT gs gd A) ([.ref (ad 1), .int p0] : List Value).toArray s 0 0 A) (F0 m 12 ls []) := by
        intro fulp25
        induction fulp25 with
        | zero =>
          intro y22 V23 L24 H locs ls klp25_0 xlp25_0 xlp25_1 xlp25_2 hn alL24 ajV23 hMV23 hP hD hS hl
          exfalso; (first | exact om_03b755d7679e klp25_0.2 hn | omega)
        | succ fulp25 ihlp25 =>
          intro y22 V23 L24 H locs ls klp25_0 xlp25_0 xlp25_1 xlp25_2 hn alL24 ajV23 hMV23 hP hD hS hl
          have agV23 : agr [(1, 3), (1, 6), (1, 8), (6, 8), (6, 9), (6, 10)] [42, 43, 44, 48] V V23 := agV9.tr ajV23 (by decide) (by decide)
          have pq26 : (V23 1 1).toInt = ((V 1 1)).toInt := congrArg Int32.toInt ((ajV23 1 1 rfl).trans (ajV9 1 1 rfl))
          refine lv_iload_n hx hb dX1_readSum_12 rfl (lv_at hl 0 rfl) ?_
          obtain ⟨s1, hq, rq, kq, iq, eq9, dq9, wq9⟩ := xlp25_0
          refine lv_sipush (v := 4000) hx hb dX1_readSum_13 (by decide) ?_
          refine lv_icmp_ge (tgt := 93) hx hb dX1_readSum_16 (by decide) (fun c27 => ?_) (fun c27 => ?_)
          · skip
            have f28 : 4000 ≤ y22.toInt := b_le (by decide) rfl c27
            refine lv_iconst (v := 1) hx hb dX1_readSum_93 (by decide) ?_
            have kd29 : gT.1 (s1.1 0) = ((V23 6 9)).toInt := RelC.kd rq
            have kz30 : gT.1 (s1.1 0) = 0 := RelC.e4 rq (show 0 ≤ (V23 6 7).toInt ∧ (V23 6 7).toInt ≤ 4000 from hMV23 6 7).2 (by (first | exact om_0fe76baf1fbf iq f28 | omega))
            have hr31 : ∀ k, Rc gT (Crun gs (Isum gd :: k)) (Crun s1 (k)) := fun k => Rc.go1 (hq k) (sumR_n gd (fun h9 => absurd (h9.symm.trans kz30) (by decide)) (fun h9 => absurd (h9.symm.trans kz30) (by decide)))
            have wk32 : wl s1 + 2 * gs.1 0 ≤ wl gs + 2 * s1.1 0 + 1 ∧ gs.1 0 + 1 ≤ s1.1 0 := ⟨wq9, (keepS.le kq (by decide)).1⟩
            have rw33 : ROWL b L L24 := (fun k hk => (xlp25_2 k hk))
            exact W.zret (v := 1) hx hb hr rfl (fun t ht hW => ⟨⟨1, (V23, L24), rfl, ⟨hMV23, agV23, alL24, (by decide), (Or.inl ⟨rfl, s1, hr31, rq, keepS.le (keepS.tr (keepS.rf : keepS gs 0 gs) kq) (by decide), (keepE.tr (keepE.rf : keepE gs gs) eq9), dq9, (by omega)⟩), rw33⟩, by rw [ht]; exact hP, va_K.moved hW.alike hK, hD⟩, hS.F ht⟩) hS.2.2 dX1_readSum_94
          · skip
            have f34 : y22.toInt < 4000 := b_nle (by decide) rfl c27
            refine lv_aload_n hx hb dX1_readSum_19 rfl (lv_at hl 1 rfl) ?_
            refine va_get (D := D) (ci := 1) (v := .ref (ad 6)) (fs := (xfReader ad V23 L24 Z)) (C := RX1) (T := TX1) (N := 9) hx hb hg inX1 hown hK hP 1 xgReader rfl 0 (by decide) (hg _ w304) (fun _ h9 => h9) rfl dX1_readSum_20 ?_
            refine va_getN (D := D) (ci := 9) (v := .int (V23 6 9)) (fs := (xfTape ad V23 L24 Z)) (C := RX9) (T := TX9) (N := 12) hx hb hg inX9 hown hK hP 6 xgTape rfl 9 (by decide) (hnw.use 262 n262 rfl) (fun _ h9 => h9) rfl dX1_readSum_23 ?_
            refine lv_bipush (v := 43) hx hb dX1_readSum_26 (by decide) ?_
            refine lv_icmp_eq (tgt := 43) hx hb dX1_readSum_28 (by decide) (fun c35 => ?_) (fun c35 => ?_)
            · skip
              have f36 : ((V23 6 9)).toInt = 43 := b_eq rfl (by decide) c35
              refine lv_aload_n hx hb dX1_readSum_43 rfl (lv_at hl 1 rfl) ?_
              refine va_get (D := D) (ci := 1) (v := .ref (ad 6)) (fs := (xfReader ad V23 L24 Z)) (C := RX1) (T := TX1) (N := 9) hx hb hg inX1 hown hK hP 1 xgReader rfl 0 (by decide) (hg _ w304) (fun _ h9 => h9) rfl dX1_readSum_44 ?_
              refine va_getN (D := D) (ci := 9) (v := .int (V23 6 9)) (fs := (xfTape ad V23 L24 Z)) (C := RX9) (T := TX9) (N := 12) hx hb hg inX9 hown hK hP 6 xgTape rfl 9 (by decide) (hnw.use 262 n262 rfl) (fun _ h9 => h9) rfl dX1_readSum_47 ?_
              refine lv_bipush (v := 43) hx hb dX1_readSum_50 (by decide) ?_
              refine lv_icmp_ne (tgt := 59) hx hb dX1_readSum_52 (by decide) (fun c37 => ?_) (fun c37 => ?_)
              · skip
                have f38 : ((V23 6 9)).toInt ≠ 43 := b_neq rfl (by decide) c37
                exfalso; (first | exact om_32cfa7192d4d f36 f38 | omega)
              · skip
                have f39 : ((V23 6 9)).toInt = 43 := b_eq rfl (by decide) c37
                refine lv_iconst (v := 5) hx hb dX1_readSum_55 (by decide) ?_
                refine lv_goto (tgt := 61) hx hb dX1_readSum_56 (by decide) ?_
                refine lv_istore_n (lv' := [(3, .int 5), (2, .int y22), (0, .ref (ad 1)), (1, .int p0)]) hx hb dX1_readSum_61 rfl hl (by decide) rfl (fun ls hl => ?_)
                refine lv_aload_n hx hb dX1_readSum_62 rfl (lv_at hl 2 rfl) ?_
                refine va_get (D := D) (ci := 1) (v := .ref (ad 6)) (fs := (xfReader ad V23 L24 Z)) (C := RX1) (T := TX1) (N := 9) hx hb hg inX1 hown hK hP 1 xgReader rfl 0 (by decide) (hg _ w304) (fun _ h9 => h9) rfl dX1_readSum_63 ?_
                have kd40 : gT.1 (s1.1 0) = ((V23 6 9)).toInt := RelC.kd rq
                have hr41 : ∀ k, Rc gT (Crun gs (Isum gd :: k)) (Crun (nx s1 1) (Iprod gd :: Iem 6 :: IsumR gd :: k)) := fun k => Rc.go1 (hq k) (sumR_43 gd (kd40.trans f39))
                have l842 := RelC.l8 rq
                have r43 : 0 ≤ ((V23 6 8)).toInt ∧ ((V23 6 8)).toInt ≤ 4000 := hMV23 6 8
                have pq44 : (V23 6 7).toInt = ((V 6 7)).toInt := congrArg Int32.toInt ((ajV23 6 7 rfl).trans (ajV9 6 7 rfl))
                have r45 : 0 ≤ ((V 6 7)).toInt ∧ ((V 6 7)).toInt ≤ 4000 := hMV 6 7
                have lk46 := RelC.lk rq (show (V23 6 9).toInt ≠ 0 from by (first | exact om_8b7ab85c46a8 f36 | omega))
                refine gA_void (gA_runV (As := []) (rest := []) (ci := 9) (q0 := 6) hx hb hml hown hg hP hD hK hS hA hnw hgk (x_next2 l D ks H.size ad kk V23 L24 Z  hMV23 (show (V23 6 8).toInt ≤ (V23 6 7).toInt from by (first | exact om_f4906d00fa52 l842 | omega))) w871 w852 w853 w157 w854 rfl xgTape hdV_yX9_next ⟨(by show 0 + 1 ≤ 10 * dd + 8; (first | exact om_57ee875d9e1c rg_p0.2 y1 | omega)), (by show 8 + (1 + 11) + (0) ≤ 300 * dd + 210; (first | exact om_0ce00a919daf rg_p0.2 y1 | omega))⟩ rfl hl.1 rfl (Nat.le_of_ble_eq_true rfl) dX1_readSum_66 ⟨Nat.le_of_ble_eq_true rfl, Nat.le_of_ble_eq_true rfl⟩) hP hD hK hS hA (fun u48 H locs w49 hP hD hK hS => ?_)
                obtain ⟨V52, L53⟩ := u48
                obtain ⟨hMV52, ajV52, axL53, t50, t51⟩ := w49
                have alL53 : agL [6, 44] L L53 := agL.tr alL24 axL53 (by decide)
                have hP : va_P D vwCl (xw ad kk V52 L53 Z) H := hP
                have hD : va_D A (xw ad kk V52 L53 Z) := hD
                have hMV52 : rgd bX V52 := hMV52
                have ajV52 : agr [(6, 8), (6, 9), (6, 10)] [] V23 V52 := ajV52
                have agV52 : agr [(1, 3), (1, 6), (1, 8), (6, 8), (6, 9), (6, 10)] [42, 43, 44, 48] V V52 := agV23.tr ajV52 (by decide) (by decide)
                have t50 : (V52 6 8).toInt ≤ (V52 6 7).toInt := t50
                have t51 : CUR V52 L53 (Int32.toNatClampNeg (V23 6 8)) := t51
                have r54 : 0 ≤ ((V52 6 8)).toInt ∧ ((V52 6 8)).toInt ≤ 4000 := hMV52 6 8
                have pq55 : (V52 6 7).toInt = ((V 6 7)).toInt := congrArg Int32.toInt ((ajV52 6 7 rfl).trans ((ajV23 6 7 rfl).trans (ajV9 6 7 rfl)))
                have rl56 : RelC V52 L53 b gT (nx s1 1) := RelC.nx1 rq ajV52 (by decide) axL53 (by decide) (by rw [← lk46]; exact t51) (ajV52 1 3 rfl)
                refine lv_aload_n hx hb dX1_readSum_69 rfl (lv_at hl 2 rfl) ?_
                refine lv_iload_n hx hb dX1_readSum_70 rfl (lv_at hl 3 rfl) ?_
                have pq57 : (V52 1 1).toInt = ((V 1 1)).toInt := congrArg Int32.toInt ((ajV52 1 1 rfl).trans ((ajV23 1 1 rfl).trans (ajV9 1 1 rfl)))
                have cd58 : CDc V52 b s1 := CDc.ag dq9 (show agr [(6, 8), (6, 9), (6, 10)] [] V23 V52 from (agr.tr agr.rf ajV52 (by decide) (by decide))) (fun _ => rfl) (fun _ => rfl)
                have cd59 : CDc V52 b (nx s1 1) := CDc.mv cd58 (show ∀ j9, j9 = 5 ∨ 2000 ≤ j9 → (nx s1 1).2.1 j9 = s1.2.1 j9 from fun j9 h9 => (show ∀ j9, 5 ≤ j9 → (nx s1 1).2.1 j9 = s1.2.1 j9 from fun _ _ => rfl) j9 (by omega))
                have wk60 : wl s1 + 2 * gs.1 0 ≤ wl gs + 2 * s1.1 0 + 1 ∧ gs.1 0 + 1 ≤ s1.1 0 := ⟨wq9, (keepS.le kq (by decide)).1⟩
                have wk61 : wl (nx s1 1) = wl s1 ∧ (nx s1 1).1 0 = s1.1 0 + 1 := ⟨rfl, rfl⟩
                refine gA_int (gA_runV (As := [.int p0]) (rest := []) (ci := 1) (q0 := 1) hx hb hml hown hg hP hD hK hS hA hnw hgk (hk_x_readProduct3 H.size ad kk V52 L53 Z p0 (b) (gT) ((nx s1 1)) (gd) hMV52 (by (first | exact om_10aaac3409ba rg_p0.1 rg_p0.2 | omega)) (show b < 2 from by (first | exact om_ddd9fa46ae4d rbk r1.2 | omega)) (show (V52 1 1).toInt = (b : Int) from by (first | exact om_adf531c77a0d rbk pq57 | omega)) rl56 cd59 (show wl (nx s1 1) ≤ 2 * (nx s1 1).1 0 from by omega) (show p0.toInt = (gd : Int) from by (first | exact om_08e0c9701055 yd | omega)) (((congrArg Int32.toInt ((ajV52 1 4 rfl).trans ((ajV23 1 4 rfl).trans (ajV9 1 4 rfl)))).trans wh).trans (congrArg (fun n9 : Nat => (n9 : Int)) (((keepS.tr (keepS.tr (keepS.rf : keepS gs 0 gs) kq) (keepS.n1 1))).2.1 4 (by decide)).symm)) (fun h9 => by rw [((ajV52 1 2 rfl).trans ((ajV23 1 2 rfl).trans (ajV9 1 2 rfl)))]; exact ow ((congrArg Int32.toInt ((ajV52 1 4 rfl).trans ((ajV23 1 4 rfl).trans (ajV9 1 4 rfl)))).symm.trans h9)) (show 8 - p0.toInt ≤ (dd : Int) from by (first | exact om_1656cef72499 y1 | omega))) w959 w961 w23 w162 w962 rfl xgReader hdV_yX1_readProduct ⟨(by show 10 * dd + 7 + 1 ≤ 10 * dd + 8; (first | exact om_7e8ec362a821 | omega)), (by show 8 + (3 + 11) + (300 * dd + 180) ≤ 300 * dd + 210; (first | exact om_1fb375867bcd | omega))⟩ rfl hl.1 rfl (Nat.le_of_ble_eq_true rfl) dX1_readSum_71 ⟨Nat.le_of_ble_eq_true rfl, Nat.le_of_ble_eq_true rfl⟩) hP hD hK hS hA (fun z62 u63 H locs w64 hP hD hK hS => ?_)
                obtain ⟨V67, L68⟩ := u63
                obtain ⟨hMV67, ajV67, axL68, rgz62, t65, t66⟩ := w64
                have alL68 : agL [6, 44] L L68 := agL.tr alL53 axL68 (by decide)
                have hP : va_P D vwCl (xw ad kk V67 L68 Z) H := hP
                have hD : va_D A (xw ad kk V67 L68 Z) := hD
                have hMV67 : rgd bX V67 := hMV67
                have ajV67 : agr [(1, 3), (1, 6), (1, 8), (6, 8), (6, 9), (6, 10)] [42, 43, 44, 48] V52 V67 := ajV67
                have agV67 : agr [(1, 3), (1, 6), (1, 8), (6, 8), (6, 9), (6, 10)] [42, 43, 44, 48] V V67 := agV52.tr ajV67 (by decide) (by decide)
                have rgz62 : 0 ≤ z62.toInt ∧ z62.toInt ≤ 1 := rgz62
                have t65 : Rd gT (nx s1 1) (fun k => Iprod gd :: k) (fun k => k) z62.toInt (V67 1 3).toInt (fun s9 => RelC V67 L68 b gT s9 ∧ keepS (nx s1 1) 1 s9 ∧ keepE (nx s1 1) s9 ∧ CDc V67 b s9 ∧ wl s9 + 2 * (nx s1 1).1 0 ≤ wl (nx s1 1) + 2 * s9.1 0 + 1) := t65
                have t66 : ROWL b L53 L68 := t66
                rcases t65 with ⟨q69, sx70, h71, rl72, kp73, ke74, cd75, wd76⟩ | ⟨q69, h71⟩
                · skip
                  have hr77 : ∀ k, Rc gT (Crun gs (Isum gd :: k)) (Crun sx70 (Iem 6 :: IsumR gd :: k)) := fun k => (hr41 k).tr (h71 (Iem 6 :: IsumR gd :: k))
                  refine lv_if_ne (tgt := 79) hx hb dX1_readSum_74 (by decide) (fun c78 => ?_) (fun c78 => ?_)
                  · skip
                    have f79 : z62.toInt ≠ 0 := b_neq rfl (by decide) c78
                    refine lv_aload_n hx hb dX1_readSum_79 rfl (lv_at hl 2 rfl) ?_
                    refine va_get (D := D) (ci := 1) (v := rfN ad 38 (V67 1 1)) (fs := (xfReader ad V67 L68 Z)) (C := RX1) (T := TX1) (N := 9) hx hb hg inX1 hown hK hP 1 xgReader rfl 1 (by decide) (hg _ w305) (fun _ h9 => h9) rfl dX1_readSum_80 ?_
                    have pq80 : (V67 1 1).toInt = ((V 1 1)).toInt := congrArg Int32.toInt ((ajV67 1 1 rfl).trans ((ajV52 1 1 rfl).trans ((ajV23 1 1 rfl).trans (ajV9 1 1 rfl))))
                    refine g_topv (v := .ref (ad (38 + b))) (rfN_r (by omega)) ?_
                    refine lv_iload_n hx hb dX1_readSum_83 rfl (lv_at hl 0 rfl) ?_
                    have r81 : Int32.toInt 5 = 5 := by decide
                    refine gA_void (gA_runV (As := [.int 5]) (rest := []) (ci := 0) (q0 := (38 + b)) hx hb hml hown hg hP hD hK hS hA hnw hgk (x_emit l D ks H.size ad kk V67 L68 Z 5 (b) hMV67 (show b < 2 from by (first | exact om_ddd9fa46ae4d rbk r1.2 | omega))) w971 w972 w973 w167 w974 rfl (xgBook hb2) hdV_yX0_emit ⟨(by show 0 + 1 ≤ 10 * dd + 8; (first | exact om_57ee875d9e1c rg_p0.2 y1 | omega)), (by show 8 + (2 + 11) + (0) ≤ 300 * dd + 210; (first | exact om_3d8b2ee29156 rg_p0.2 y1 | omega))⟩ rfl hl.1 rfl (Nat.le_of_ble_eq_true rfl) dX1_readSum_84 ⟨Nat.le_of_ble_eq_true rfl, Nat.le_of_ble_eq_true rfl⟩) hP hD hK hS hA (fun u83 H locs w84 hP hD hK hS => ?_)
                    obtain ⟨V86, L87⟩ := u83
                    obtain ⟨hMV86, ajV86, axL87, fyV86, t85⟩ := w84
                    have axL87 : L68 = L87 := Eq.symm axL87
                    subst axL87
                    have hP : va_P D vwCl (xw ad kk V86 L68 Z) H := hP
                    have hD : va_D A (xw ad kk V86 L68 Z) := hD
                    have hMV86 : rgd bX V86 := hMV86
                    have ajV86 : agr [] [42, 48] V67 V86 := ajV86
                    have agV86 : agr [(1, 3), (1, 6), (1, 8), (6, 8), (6, 9), (6, 10)] [42, 43, 44, 48] V V86 := agV67.tr ajV86 (by decide) (by decide)
                    have t85 : emX V67 V86 b 5 := t85
                    have hr88 : ∀ k, Rc gT (Crun gs (Isum gd :: k)) (Crun (emS sx70 6 0 0) (IsumR gd :: k)) := fun k => Rc.go1 (hr77 k) (m_em 6)
                    have rl89 : RelC V86 L68 b gT sx70 := RelC.ag rl72 (show agr [] [42, 48] V67 V86 from (agr.tr agr.rf ajV86 (by decide) (by decide))) (by decide) (show agL [] L68 L68 from agL.rf) (by decide)
                    have rl90 : RelC V86 L68 b gT (emS sx70 6 0 0) := RelC.em rl89
                    have wk91 : wl sx70 + 2 * (nx s1 1).1 0 ≤ wl (nx s1 1) + 2 * sx70.1 0 + 1 ∧ (nx s1 1).1 0 + 1 ≤ sx70.1 0 := ⟨wd76, (keepS.le kp73 (by decide)).1⟩
                    have wk92 : wl (emS sx70 6 0 0) = wl sx70 + 1 ∧ (emS sx70 6 0 0).1 0 = sx70.1 0 := ⟨(wl_em sx70 6 _ _).trans (congrArg (fun q9 => wl sx70 + q9) (show szO 6 = 1 from by decide)), rfl⟩
                    have ph93 : (((emS sx70 6 0 0).1 0 : Nat) : Int) ≤ 4000 := Int.le_trans (rl90).1.1 (show 0 ≤ (V86 6 7).toInt ∧ (V86 6 7).toInt ≤ 4000 from hMV86 6 7).2
                    have hr94 : (V67 42 b).toInt + 1 < 8200 := by have h9 := cd75.1; omega
                    have cd95 : CDc V86 b (emS sx70 6 0 0) := CDc.e1 cd75 t85 (by (first | exact om_df3b24190af0 hr94 | omega)) (by decide) (by decide)
                    obtain ⟨z96, ez96⟩ : ∃ y : Int32, y = y22 + 1 := ⟨_, rfl⟩
                    have hz96 : z96.toInt = y22.toInt + 1 := i_add ez96 rfl (by decide) (by (first | exact om_67c6ad613360 klp25_0.1 f34 | omega))
                    refine lv_iinc (v := z96) (lv' := [(2, .int z96), (3, .int 5), (0, .ref (ad 1)), (1, .int p0)]) hx hb dX1_readSum_87 hl (k := 1) rfl (by rw [ez96]; rfl) (by decide) rfl (fun ls hl => ?_)
                    refine lv_goto (tgt := 12) hx hb dX1_readSum_90 (by decide) ?_
                    have pq97 : (V86 1 1).toInt = ((V 1 1)).toInt := congrArg Int32.toInt ((ajV86 1 1 rfl).trans ((ajV67 1 1 rfl).trans ((ajV52 1 1 rfl).trans ((ajV23 1 1 rfl).trans (ajV9 1 1 rfl)))))
                    have rw98 : ROWL b L L68 := (fun k hk => ((t66 k hk).trans ((axL53 44 k rfl).trans (xlp25_2 k hk))))
                    exact ihlp25 z96 V86 L68 H locs ls (by (first | exact om_44a0a3faffcf klp25_0.1 f34 hz96 | omega)) ⟨(emS sx70 6 0 0), hr88, rl90, keepS.le (keepS.tr (keepS.tr (keepS.tr (keepS.tr (keepS.rf : keepS gs 0 gs) kq) (keepS.n1 1)) kp73) (show keepS sx70 0 (emS sx70 6 0 0) from keepS.em)) (by decide), (by have h9 := ((keepS.tr (keepS.tr (keepS.tr (keepS.rf : keepS s1 0 s1) (keepS.n1 1)) kp73) (show keepS sx70 0 (emS sx70 6 0 0) from keepS.em))).1; omega), (keepE.tr (keepE.tr (keepE.tr (keepE.tr (keepE.rf : keepE gs gs) eq9) (show keepE s1 (nx s1 1) from keepE.eq (show ∀ j9, 5 ≤ j9 → (nx s1 1).2.1 j9 = s1.2.1 j9 from fun _ _ => rfl))) ke74) (show keepE sx70 (emS sx70 6 0 0) from keepE.em)), cd95, (by omega)⟩ (show (V86 1 1).toInt = (b : Int) from by (first | exact om_adf531c77a0d rbk pq97 | omega)) rw98 (by (first | exact om_7390df9cc880 hn hz96 | omega)) alL68 (agr.tr (agr.tr (agr.tr (agr.tr agr.rf ajV23 (by decide) (by decide)) ajV52 (by decide) (by decide)) ajV67 (by decide) (by decide)) ajV86 (by decide) (by decide)) hMV86 hP hD hS (lv_sub hl [0, 2, 3] rfl)
                  · skip
                    have f99 : z62.toInt = 0 := b_eq rfl (by decide) c78
                    exfalso; omega
                · skip
                  have hb100 : ∀ k, Rc gT (Crun gs (Isum gd :: k)) (Cbad (V67 1 3).toInt) := fun k => (hr41 k).tr (h71 (Iem 6 :: IsumR gd :: k))
                  refine lv_if_ne (tgt := 79) hx hb dX1_readSum_74 (by decide) (fun c101 => ?_) (fun c101 => ?_)
                  · skip
                    have f102 : z62.toInt ≠ 0 := b_neq rfl (by decide) c101
                    exfalso; omega
                  · skip
                    have f103 : z62.toInt = 0 := b_eq rfl (by decide) c101
                    refine lv_iconst (v := 0) hx hb dX1_readSum_77 (by decide) ?_
                    have rw104 : ROWL b L L68 := (fun k hk => ((t66 k hk).trans ((axL53 44 k rfl).trans (xlp25_2 k hk))))
                    exact W.zret (v := 0) hx hb hr rfl (fun t ht hW => ⟨⟨0, (V67, L68), rfl, ⟨hMV67, agV67, alL68, (by decide), (Or.inr ⟨rfl, hb100⟩), rw104⟩, by rw [ht]; exact hP, va_K.moved hW.alike hK, hD⟩, hS.F ht⟩) hS.2.2 dX1_readSum_78
            · skip
              have f105 : ((V23 6 9)).toInt ≠ 43 := b_neq rfl (by decide) c35
              refine lv_aload_n hx hb dX1_readSum_31 rfl (lv_at hl 1 rfl) ?_
              refine va_get (D := D) (ci := 1) (v := .ref (ad 6)) (fs := (xfReader ad V23 L24 Z)) (C := RX1) (T := TX1) (N := 9) hx hb hg inX1 hown hK hP 1 xgReader rfl 0 (by decide) (hg _ w304) (fun _ h9 => h9) rfl dX1_readSum_32 ?_
              refine va_getN (D := D) (ci := 9) (v := .int (V23 6 9)) (fs := (xfTape ad V23 L24 Z)) (C := RX9) (T := TX9) (N := 12) hx hb hg inX9 hown hK hP 6 xgTape rfl 9 (by decide) (hnw.use 262 n262 rfl) (fun _ h9 => h9) rfl dX1_readSum_35 ?_
              refine lv_bipush (v := 45) hx hb dX1_readSum_38 (by decide) ?_
              refine lv_icmp_ne (tgt := 93) hx hb dX1_readSum_40 (by decide) (fun c106 => ?_) (fun c106 => ?_)
              · skip
                have f107 : ((V23 6 9)).toInt ≠ 45 := b_neq rfl (by decide) c106
                refine lv_iconst (v := 1) hx hb dX1_readSum_93 (by decide) ?_
                have kd108 : gT.1 (s1.1 0) = ((V23 6 9)).toInt := RelC.kd rq
                have hr109 : ∀ k, Rc gT (Crun gs (Isum gd :: k)) (Crun s1 (k)) := fun k => Rc.go1 (hq k) (sumR_n gd (fun h9 => f105 (kd108.symm.trans h9)) (fun h9 => f107 (kd108.symm.trans h9)))
                have wk110 : wl s1 + 2 * gs.1 0 ≤ wl gs + 2 * s1.1 0 + 1 ∧ gs.1 0 + 1 ≤ s1.1 0 := ⟨wq9, (keepS.le kq (by decide)).1⟩
                have rw111 : ROWL b L L24 := (fun k hk => (xlp25_2 k hk))
                exact W.zret (v := 1) hx hb hr rfl (fun t ht hW => ⟨⟨1, (V23, L24), rfl, ⟨hMV23, agV23, alL24, (by decide), (Or.inl ⟨rfl, s1, hr109, rq, keepS.le (keepS.tr (keepS.rf : keepS gs 0 gs) kq) (by decide), (keepE.tr (keepE.rf : keepE gs gs) eq9), dq9, (by omega)⟩), rw111⟩, by rw [ht]; exact hP, va_K.moved hW.alike hK, hD⟩, hS.F ht⟩) hS.2.2 dX1_readSum_94
              · skip
                have f112 : ((V23 6 9)).toInt = 45 := b_eq rfl (by decide) c106
                refine lv_aload_n hx hb dX1_readSum_43 rfl (lv_at hl 1 rfl) ?_
                refine va_get (D := D) (ci := 1) (v := .ref (ad 6)) (fs := (xfReader ad V23 L24 Z)) (C := RX1) (T := TX1) (N := 9) hx hb hg inX1 hown hK hP 1 xgReader rfl 0 (by decide) (hg _ w304) (fun _ h9 => h9) rfl dX1_readSum_44 ?_
                refine va_getN (D := D) (ci := 9) (v := .int (V23 6 9)) (fs := (xfTape ad V23 L24 Z)) (C := RX9) (T := TX9) (N := 12) hx hb hg inX9 hown hK hP 6 xgTape rfl 9 (by decide) (hnw.use 262 n262 rfl) (fun _ h9 => h9) rfl dX1_readSum_47 ?_
                refine lv_bipush (v := 43) hx hb dX1_readSum_50 (by decide) ?_
                refine lv_icmp_ne (tgt := 59) hx hb dX1_readSum_52 (by decide) (fun c113 => ?_) (fun c113 => ?_)
                · skip
                  have f114 : ((V23 6 9)).toInt ≠ 43 := b_neq rfl (by decide) c113
                  refine lv_bipush (v := 6) hx hb dX1_readSum_59 (by decide) ?_
                  refine lv_istore_n (lv' := [(3, .int 6), (2, .int y22), (0, .ref (ad 1)), (1, .int p0)]) hx hb dX1_readSum_61 rfl hl (by decide) rfl (fun ls hl => ?_)
                  refine lv_aload_n hx hb dX1_readSum_62 rfl (lv_at hl 2 rfl) ?_
                  refine va_get (D := D) (ci := 1) (v := .ref (ad 6)) (fs := (xfReader ad V23 L24 Z)) (C := RX1) (T := TX1) (N := 9) hx hb hg inX1 hown hK hP 1 xgReader rfl 0 (by decide) (hg _ w304) (fun _ h9 => h9) rfl dX1_readSum_63 ?_
                  have kd115 : gT.1 (s1.1 0) = ((V23 6 9)).toInt := RelC.kd rq
                  have hr116 : ∀ k, Rc gT (Crun gs (Isum gd :: k)) (Crun (nx s1 1) (Iprod gd :: Iem 7 :: IsumR gd :: k)) := fun k => Rc.go1 (hq k) (sumR_45 gd (kd115.trans f112))
                  have l8117 := RelC.l8 rq
                  have r118 : 0 ≤ ((V23 6 8)).toInt ∧ ((V23 6 8)).toInt ≤ 4000 := hMV23 6 8
                  have pq119 : (V23 6 7).toInt = ((V 6 7)).toInt := congrArg Int32.toInt ((ajV23 6 7 rfl).trans (ajV9 6 7 rfl))
                  have r120 : 0 ≤ ((V 6 7)).toInt ∧ ((V 6 7)).toInt ≤ 4000 := hMV 6 7
                  have lk121 := RelC.lk rq (show (V23 6 9).toInt ≠ 0 from by (first | exact om_40dab9707fad f112 | omega))
                  refine gA_void (gA_runV (As := []) (rest := []) (ci := 9) (q0 := 6) hx hb hml hown hg hP hD hK hS hA hnw hgk (x_next2 l D ks H.size ad kk V23 L24 Z  hMV23 (show (V23 6 8).toInt ≤ (V23 6 7).toInt from by (first | exact om_f4906d00fa52 l8117 | omega))) w871 w852 w853 w157 w854 rfl xgTape hdV_yX9_next ⟨(by show 0 + 1 ≤ 10 * dd + 8; (first | exact om_57ee875d9e1c rg_p0.2 y1 | omega)), (by show 8 + (1 + 11) + (0) ≤ 300 * dd + 210; (first | exact om_0ce00a919daf rg_p0.2 y1 | omega))⟩ rfl hl.1 rfl (Nat.le_of_ble_eq_true rfl) dX1_readSum_66 ⟨Nat.le_of_ble_eq_true rfl, Nat.le_of_ble_eq_true rfl⟩) hP hD hK hS hA (fun u123 H locs w124 hP hD hK hS => ?_)
                  obtain ⟨V127, L128⟩ := u123
                  obtain ⟨hMV127, ajV127, axL128, t125, t126⟩ := w124
                  have alL128 : agL [6, 44] L L128 := agL.tr alL24 axL128 (by decide)
                  have hP : va_P D vwCl (xw ad kk V127 L128 Z) H := hP
                  have hD : va_D A (xw ad kk V127 L128 Z) := hD
                  have hMV127 : rgd bX V127 := hMV127
                  have ajV127 : agr [(6, 8), (6, 9), (6, 10)] [] V23 V127 := ajV127
                  have agV127 : agr [(1, 3), (1, 6), (1, 8), (6, 8), (6, 9), (6, 10)] [42, 43, 44, 48] V V127 := agV23.tr ajV127 (by decide) (by decide)
                  have t125 : (V127 6 8).toInt ≤ (V127 6 7).toInt := t125
                  have t126 : CUR V127 L128 (Int32.toNatClampNeg (V23 6 8)) := t126
                  have r129 : 0 ≤ ((V127 6 8)).toInt ∧ ((V127 6 8)).toInt ≤ 4000 := hMV127 6 8
                  have pq130 : (V127 6 7).toInt = ((V 6 7)).toInt := congrArg Int32.toInt ((ajV127 6 7 rfl).trans ((ajV23 6 7 rfl).trans (ajV9 6 7 rfl)))
                  have rl131 : RelC V127 L128 b gT (nx s1 1) := RelC.nx1 rq ajV127 (by decide) axL128 (by decide) (by rw [← lk121]; exact t126) (ajV127 1 3 rfl)
                  refine lv_aload_n hx hb dX1_readSum_69 rfl (lv_at hl 2 rfl) ?_
                  refine lv_iload_n hx hb dX1_readSum_70 rfl (lv_at hl 3 rfl) ?_
                  have pq132 : (V127 1 1).toInt = ((V 1 1)).toInt := congrArg Int32.toInt ((ajV127 1 1 rfl).trans ((ajV23 1 1 rfl).trans (ajV9 1 1 rfl)))
                  have cd133 : CDc V127 b s1 := CDc.ag dq9 (show agr [(6, 8), (6, 9), (6, 10)] [] V23 V127 from (agr.tr agr.rf ajV127 (by decide) (by decide))) (fun _ => rfl) (fun _ => rfl)
                  have cd134 : CDc V127 b (nx s1 1) := CDc.mv cd133 (show ∀ j9, j9 = 5 ∨ 2000 ≤ j9 → (nx s1 1).2.1 j9 = s1.2.1 j9 from fun j9 h9 => (show ∀ j9, 5 ≤ j9 → (nx s1 1).2.1 j9 = s1.2.1 j9 from fun _ _ => rfl) j9 (by omega))
                  have wk135 : wl s1 + 2 * gs.1 0 ≤ wl gs + 2 * s1.1 0 + 1 ∧ gs.1 0 + 1 ≤ s1.1 0 := ⟨wq9, (keepS.le kq (by decide)).1⟩
                  have wk136 : wl (nx s1 1) = wl s1 ∧ (nx s1 1).1 0 = s1.1 0 + 1 := ⟨rfl, rfl⟩
                  refine gA_int (gA_runV (As := [.int p0]) (rest := []) (ci := 1) (q0 := 1) hx hb hml hown hg hP hD hK hS hA hnw hgk (hk_x_readProduct3 H.size ad kk V127 L128 Z p0 (b) (gT) ((nx s1 1)) (gd) hMV127 (by (first | exact om_10aaac3409ba rg_p0.1 rg_p0.2 | omega)) (show b < 2 from by (first | exact om_ddd9fa46ae4d rbk r1.2 | omega)) (show (V127 1 1).toInt = (b : Int) from by (first | exact om_adf531c77a0d rbk pq132 | omega)) rl131 cd134 (show wl (nx s1 1) ≤ 2 * (nx s1 1).1 0 from by omega) (show p0.toInt = (gd : Int) from by (first | exact om_08e0c9701055 yd | omega)) (((congrArg Int32.toInt ((ajV127 1 4 rfl).trans ((ajV23 1 4 rfl).trans (ajV9 1 4 rfl)))).trans wh).trans (congrArg (fun n9 : Nat => (n9 : Int)) (((keepS.tr (keepS.tr (keepS.rf : keepS gs 0 gs) kq) (keepS.n1 1))).2.1 4 (by decide)).symm)) (fun h9 => by rw [((ajV127 1 2 rfl).trans ((ajV23 1 2 rfl).trans (ajV9 1 2 rfl)))]; exact ow ((congrArg Int32.toInt ((ajV127 1 4 rfl).trans ((ajV23 1 4 rfl).trans (ajV9 1 4 rfl)))).symm.trans h9)) (show 8 - p0.toInt ≤ (dd : Int) from by (first | exact om_1656cef72499 y1 | omega))) w959 w961 w23 w162 w962 rfl xgReader hdV_yX1_readProduct ⟨(by show 10 * dd + 7 + 1 ≤ 10 * dd + 8; (first | exact om_7e8ec362a821 | omega)), (by show 8 + (3 + 11) + (300 * dd + 180) ≤ 300 * dd + 210; (first | exact om_1fb375867bcd | omega))⟩ rfl hl.1 rfl (Nat.le_of_ble_eq_true rfl) dX1_readSum_71 ⟨Nat.le_of_ble_eq_true rfl, Nat.le_of_ble_eq_true rfl⟩) hP hD hK hS hA (fun z137 u138 H locs w139 hP hD hK hS => ?_)
                  obtain ⟨V142, L143⟩ := u138
                  obtain ⟨hMV142, ajV142, axL143, rgz137, t140, t141⟩ := w139
                  have alL143 : agL [6, 44] L L143 := agL.tr alL128 axL143 (by decide)
                  have hP : va_P D vwCl (xw ad kk V142 L143 Z) H := hP
                  have hD : va_D A (xw ad kk V142 L143 Z) := hD
                  have hMV142 : rgd bX V142 := hMV142
                  have ajV142 : agr [(1, 3), (1, 6), (1, 8), (6, 8), (6, 9), (6, 10)] [42, 43, 44, 48] V127 V142 := ajV142
                  have agV142 : agr [(1, 3), (1, 6), (1, 8), (6, 8), (6, 9), (6, 10)] [42, 43, 44, 48] V V142 := agV127.tr ajV142 (by decide) (by decide)
                  have rgz137 : 0 ≤ z137.toInt ∧ z137.toInt ≤ 1 := rgz137
                  have t140 : Rd gT (nx s1 1) (fun k => Iprod gd :: k) (fun k => k) z137.toInt (V142 1 3).toInt (fun s9 => RelC V142 L143 b gT s9 ∧ keepS (nx s1 1) 1 s9 ∧ keepE (nx s1 1) s9 ∧ CDc V142 b s9 ∧ wl s9 + 2 * (nx s1 1).1 0 ≤ wl (nx s1 1) + 2 * s9.1 0 + 1) := t140
                  have t141 : ROWL b L128 L143 := t141
                  rcases t140 with ⟨q144, sx145, h146, rl147, kp148, ke149, cd150, wd151⟩ | ⟨q144, h146⟩
                  · skip
                    have hr152 : ∀ k, Rc gT (Crun gs (Isum gd :: k)) (Crun sx145 (Iem 7 :: IsumR gd :: k)) := fun k => (hr116 k).tr (h146 (Iem 7 :: IsumR gd :: k))
                    refine lv_if_ne (tgt := 79) hx hb dX1_readSum_74 (by decide) (fun c153 => ?_) (fun c153 => ?_)
                    · skip
                      have f154 : z137.toInt ≠ 0 := b_neq rfl (by decide) c153
                      refine lv_aload_n hx hb dX1_readSum_79 rfl (lv_at hl 2 rfl) ?_
                      refine va_get (D := D) (ci := 1) (v := rfN ad 38 (V142 1 1)) (fs := (xfReader ad V142 L143 Z)) (C := RX1) (T := TX1) (N := 9) hx hb hg inX1 hown hK hP 1 xgReader rfl 1 (by decide) (hg _ w305) (fun _ h9 => h9) rfl dX1_readSum_80 ?_
                      have pq155 : (V142 1 1).toInt = ((V 1 1)).toInt := congrArg Int32.toInt ((ajV142 1 1 rfl).trans ((ajV127 1 1 rfl).trans ((ajV23 1 1 rfl).trans (ajV9 1 1 rfl))))
                      refine g_topv (v := .ref (ad (38 + b))) (rfN_r (by omega)) ?_
                      refine lv_iload_n hx hb dX1_readSum_83 rfl (lv_at hl 0 rfl) ?_
                      have r156 : Int32.toInt 6 = 6 := by decide
                      refine gA_void (gA_runV (As := [.int 6]) (rest := []) (ci := 0) (q0 := (38 + b)) hx hb hml hown hg hP hD hK hS hA hnw hgk (x_emit l D ks H.size ad kk V142 L143 Z 6 (b) hMV142 (show b < 2 from by (first | exact om_ddd9fa46ae4d rbk r1.2 | omega))) w971 w972 w973 w167 w974 rfl (xgBook hb2) hdV_yX0_emit ⟨(by show 0 + 1 ≤ 10 * dd + 8; (first | exact om_57ee875d9e1c rg_p0.2 y1 | omega)), (by show 8 + (2 + 11) + (0) ≤ 300 * dd + 210; (first | exact om_3d8b2ee29156 rg_p0.2 y1 | omega))⟩ rfl hl.1 rfl (Nat.le_of_ble_eq_true rfl) dX1_readSum_84 ⟨Nat.le_of_ble_eq_true rfl, Nat.le_of_ble_eq_true rfl⟩) hP hD hK hS hA (fun u158 H locs w159 hP hD hK hS => ?_)
                      obtain ⟨V161, L162⟩ := u158
                      obtain ⟨hMV161, ajV161, axL162, fyV161, t160⟩ := w159
                      have axL162 : L143 = L162 := Eq.symm axL162
                      subst axL162
                      have hP : va_P D vwCl (xw ad kk V161 L143 Z) H := hP
                      have hD : va_D A (xw ad kk V161 L143 Z) := hD
                      have hMV161 : rgd bX V161 := hMV161
                      have ajV161 : agr [] [42, 48] V142 V161 := ajV161
                      have agV161 : agr [(1, 3), (1, 6), (1, 8), (6, 8), (6, 9), (6, 10)] [42, 43, 44, 48] V V161 := agV142.tr ajV161 (by decide) (by decide)
                      have t160 : emX V142 V161 b 6 := t160
                      have hr163 : ∀ k, Rc gT (Crun gs (Isum gd :: k)) (Crun (emS sx145 7 0 0) (IsumR gd :: k)) := fun k => Rc.go1 (hr152 k) (m_em 7)
                      have rl164 : RelC V161 L143 b gT sx145 := RelC.ag rl147 (show agr [] [42, 48] V142 V161 from (agr.tr agr.rf ajV161 (by decide) (by decide))) (by decide) (show agL [] L143 L143 from agL.rf) (by decide)
                      have rl165 : RelC V161 L143 b gT (emS sx145 7 0 0) := RelC.em rl164
                      have wk166 : wl sx145 + 2 * (nx s1 1).1 0 ≤ wl (nx s1 1) + 2 * sx145.1 0 + 1 ∧ (nx s1 1).1 0 + 1 ≤ sx145.1 0 := ⟨wd151, (keepS.le kp148 (by decide)).1⟩
                      have wk167 : wl (emS sx145 7 0 0) = wl sx145 + 1 ∧ (emS sx145 7 0 0).1 0 = sx145.1 0 := ⟨(wl_em sx145 7 _ _).trans (congrArg (fun q9 => wl sx145 + q9) (show szO 7 = 1 from by decide)), rfl⟩
                      have ph168 : (((emS sx145 7 0 0).1 0 : Nat) : Int) ≤ 4000 := Int.le_trans (rl165).1.1 (show 0 ≤ (V161 6 7).toInt ∧ (V161 6 7).toInt ≤ 4000 from hMV161 6 7).2
                      have hr169 : (V142 42 b).toInt + 1 < 8200 := by have h9 := cd150.1; omega
                      have cd170 : CDc V161 b (emS sx145 7 0 0) := CDc.e1 cd150 t160 (by (first | exact om_df3b24190af0 hr169 | omega)) (by decide) (by decide)
                      obtain ⟨z171, ez171⟩ : ∃ y : Int32, y = y22 + 1 := ⟨_, rfl⟩
                      have hz171 : z171.toInt = y22.toInt + 1 := i_add ez171 rfl (by decide) (by (first | exact om_67c6ad613360 klp25_0.1 f34 | omega))
                      refine lv_iinc (v := z171) (lv' := [(2, .int z171), (3, .int 6), (0, .ref (ad 1)), (1, .int p0)]) hx hb dX1_readSum_87 hl (k := 1) rfl (by rw [ez171]; rfl) (by decide) rfl (fun ls hl => ?_)
                      refine lv_goto (tgt := 12) hx hb dX1_readSum_90 (by decide) ?_
                      have pq172 : (V161 1 1).toInt = ((V 1 1)).toInt := congrArg Int32.toInt ((ajV161 1 1 rfl).trans ((ajV142 1 1 rfl).trans ((ajV127 1 1 rfl).trans ((ajV23 1 1 rfl).trans (ajV9 1 1 rfl)))))
                      have rw173 : ROWL b L L143 := (fun k hk => ((t141 k hk).trans ((axL128 44 k rfl).trans (xlp25_2 k hk))))
                      exact ihlp25 z171 V161 L143 H locs ls (by (first | exact om_44a0a3faffcf klp25_0.1 f34 hz171 | omega)) ⟨(emS sx145 7 0 0), hr163, rl165, keepS.le (keepS.tr (keepS.tr (keepS.tr (keepS.tr (keepS.rf : keepS gs 0 gs) kq) (keepS.n1 1)) kp148) (show keepS sx145 0 (emS sx145 7 0 0) from keepS.em)) (by decide), (by have h9 := ((keepS.tr (keepS.tr (keepS.tr (keepS.rf : keepS s1 0 s1) (keepS.n1 1)) kp148) (show keepS sx145 0 (emS sx145 7 0 0) from keepS.em))).1; omega), (keepE.tr (keepE.tr (keepE.tr (keepE.tr (keepE.rf : keepE gs gs) eq9) (show keepE s1 (nx s1 1) from keepE.eq (show ∀ j9, 5 ≤ j9 → (nx s1 1).2.1 j9 = s1.2.1 j9 from fun _ _ => rfl))) ke149) (show keepE sx145 (emS sx145 7 0 0) from keepE.em)), cd170, (by omega)⟩ (show (V161 1 1).toInt = (b : Int) from by (first | exact om_adf531c77a0d rbk pq172 | omega)) rw173 (by (first | exact om_7390df9cc880 hn hz171 | omega)) alL143 (agr.tr (agr.tr (agr.tr (agr.tr agr.rf ajV23 (by decide) (by decide)) ajV127 (by decide) (by decide)) ajV142 (by decide) (by decide)) ajV161 (by decide) (by decide)) hMV161 hP hD hS (lv_sub hl [0, 2, 3] rfl)
                    · skip
                      have f174 : z137.toInt = 0 := b_eq rfl (by decide) c153
                      exfalso; omega
                  · skip
                    have hb175 : ∀ k, Rc gT (Crun gs (Isum gd :: k)) (Cbad (V142 1 3).toInt) := fun k => (hr116 k).tr (h146 (Iem 7 :: IsumR gd :: k))
                    refine lv_if_ne (tgt := 79) hx hb dX1_readSum_74 (by decide) (fun c176 => ?_) (fun c176 => ?_)
                    · skip
                      have f177 : z137.toInt ≠ 0 := b_neq rfl (by decide) c176
                      exfalso; omega
                    · skip
                      have f178 : z137.toInt = 0 := b_eq rfl (by decide) c176
                      refine lv_iconst (v := 0) hx hb dX1_readSum_77 (by decide) ?_
                      have rw179 : ROWL b L L143 := (fun k hk => ((t141 k hk).trans ((axL128 44 k rfl).trans (xlp25_2 k hk))))
                      exact W.zret (v := 0) hx hb hr rfl (fun t ht hW => ⟨⟨0, (V142, L143), rfl, ⟨hMV142, agV142, alL143, (by decide), (Or.inr ⟨rfl, hb175⟩), rw179⟩, by rw [ht]; exact hP, va_K.moved hW.alike hK, hD⟩, hS.F ht⟩) hS.2.2 dX1_readSum_78
                · skip
                  have f180 : ((V23 6 9)).toInt = 43 := b_eq rfl (by decide) c113
                  exfalso; (first | exact om_6bb1db7b29b7 f105 f112 f180 | omega)
      have r181 : Int32.toInt 0 = 0 := by decide
      have pq182 : (V9 1 1).toInt = ((V 1 1)).toInt := congrArg Int32.toInt (ajV9 1 1 rfl)
      have wk183 : wl sx12 + 2 * gs.1 0 ≤ wl gs + 2 * sx12.1 0 + 1 ∧ gs.1 0 + 1 ≤ sx12.1 0 := ⟨wd18, (keepS.le kp15 (by decide)).1⟩
      have rw184 : ROWL b L L10 := (fun k hk => ((t8 k hk).trans rfl))
      exact lp25 ((4000 - (Int32.toInt 0) + 1 : Int).toNat) 0 V9 L10 H locs ls (by decide) ⟨sx12, hr19, rl14, keepS.le (keepS.tr (keepS.rf : keepS gs 0 gs) kp15) (by decide), (by omega), (keepE.tr (keepE.rf : keepE gs gs) ke16), cd17, (by omega)⟩ (show (V9 1 1).toInt = (b : Int) from by (first | exact om_adf531c77a0d rbk pq182 | omega)) rw184 (by (first | exact om_be7e3b1de7fd | omega)) alL10 agr.rf hMV9 hP hD hS (lv_sub hl [0, 1, 2] rfl)
    · skip
      have f185 : z4.toInt = 0 := b_eq rfl (by decide) c20
      exfalso; omega
  · skip
    have hb186 : ∀ k, Rc gT (Crun gs (Isum gd :: k)) (Cbad (V9 1 3).toInt) := fun k => (hr3 k).tr (h13 (IsumR gd :: k))
    refine lv_if_ne (tgt := 10) hx hb dX1_readSum_5 (by decide) (fun c187 => ?_) (fun c187 => ?_)
    · skip
      have f188 : z4.toInt ≠ 0 := b_neq rfl (by decide) c187
      exfalso; omega
    · skip
      have f189 : z4.toInt = 0 := b_eq rfl (by decide) c187
      refine lv_iconst (v := 0) hx hb dX1_readSum_8 (by decide) ?_
      have rw190 : ROWL b L L10 := (fun k hk => ((t8 k hk).trans rfl))
      exact W.zret (v := 0) hx hb hr rfl (fun t ht hW => ⟨⟨0, (V9, L10), rfl, ⟨hMV9, agV9, alL10, (by decide), (Or.inr ⟨rfl, hb186⟩), rw190⟩, by rw [ht]; exact hP, va_K.moved hW.alike hK, hD⟩, hS.F ht⟩) hS.2.2 dX1_readSum_9
set_option maxHeartbeats 4000000 in
set_option maxRecDepth 100000 in
theorem x_readProduct3 {l : Launch} {D : va_G} {ks : KS} {dd : Nat} (hk_x_readPart3 : K_x_readPart3 l D ks dd) : K_x_readProduct3 l D ks dd := by
  intro sz ad kk V L Z p0 b gT gs gd hMV rg_p0 hb2 rbk rel cdq hwl yd wh ow y1
  refine g_met (q_x_readProduct3 D ks ad kk V L Z p0 b gT gs gd) (by decide) (Nat.le_of_ble_eq_true rfl) ?_
  intro p e s m below meth c A ls H locs hx hb hr hml hown hg hlocks hin hnw hgk hP hK hD hS hA hl
  have hown : s.vm.findClass RX1 = some m.cls := hown
  have hl : lv_has ls 3 [(0, .ref (ad 1)), (1, .int p0)] := hl
  have hP : va_P D vwCl (xw ad kk V L Z) H := hP
  have hD : va_D A (xw ad kk V L Z) := hD
  have hK : va_K D vwCl (xty kk Z) s := hK
  have agV : agr [(1, 3), (1, 6), (1, 8), (6, 8), (6, 9), (6, 10)] [42, 43, 44, 48] V V := agr.rf
  have alL : agL [6, 44] L L := agL.rf
  have rf_p0 := i_full p0
  have r1 : (-1) ≤ ((V 1 1)).toInt ∧ ((V 1 1)).toInt ≤ 1 := hMV 1 1
  refine lv_aload_n hx hb dX1_readProduct_0 rfl (lv_at hl 0 rfl) ?_
  refine lv_iload_n hx hb dX1_readProduct_1 rfl (lv_at hl 1 rfl) ?_
  have hr2 : ∀ k, Rc gT (Crun gs (Iprod gd :: k)) (Crun gs (Iprod gd :: k)) := fun k => Rc.rf
  have hr3 : ∀ k, Rc gT (Crun gs (Iprod gd :: k)) (Crun gs (Ipart gd :: IprodR gd :: k)) := fun k => Rc.go1 (hr2 k) (m_prod gd)
  refine gA_int (gA_runV (As := [.int p0]) (rest := []) (ci := 1) (q0 := 1) hx hb hml hown hg hP hD hK hS hA hnw hgk (hk_x_readPart3 H.size ad kk V L Z p0 (b) (gT) (gs) (gd) hMV (by (first | exact om_10aaac3409ba rg_p0.1 rg_p0.2 | omega)) (show b < 2 from by (first | exact om_f940a4667dd6 hb2 | omega)) (show (V 1 1).toInt = (b : Int) from by (first | exact om_08e0c9701055 rbk | omega)) rel cdq (show wl gs ≤ 2 * gs.1 0 from by omega) (show p0.toInt = (gd : Int) from by (first | exact om_08e0c9701055 yd | omega)) wh (fun h9 => by exact ow (h9)) (show 8 - p0.toInt ≤ (dd : Int) from by (first | exact om_1656cef72499 y1 | omega))) w963 w965 w24 w162 w966 rfl xgReader hdV_yX1_readPart ⟨(by show 10 * dd + 6 + 1 ≤ 10 * dd + 7; (first | exact om_6de1b10062be | omega)), (by show 8 + (5 + 11) + (300 * dd + 150) ≤ 300 * dd + 180; (first | exact om_d79616c3e450 | omega))⟩ rfl hl.1 rfl (Nat.le_of_ble_eq_true rfl) dX1_readProduct_2 ⟨Nat.le_of_ble_eq_true rfl, Nat.le_of_ble_eq_true rfl⟩) hP hD hK hS hA (fun z4 u5 H locs w6 hP hD hK hS => ?_)
  obtain ⟨V9, L10⟩ := u5
  obtain ⟨hMV9, ajV9, axL10, rgz4, t7, t8⟩ := w6
  have alL10 : agL [6, 44] L L10 := agL.tr alL axL10 (by decide)
  have hP : va_P D vwCl (xw ad kk V9 L10 Z) H := hP
  have hD : va_D A (xw ad kk V9 L10 Z) := hD
  have hMV9 : rgd bX V9 := hMV9
  have ajV9 : agr [(1, 3), (1, 6), (1, 8), (6, 8), (6, 9), (6, 10)] [42, 43, 44, 48] V V9 := ajV9
  have agV9 : agr [(1, 3), (1, 6), (1, 8), (6, 8), (6, 9), (6, 10)] [42, 43, 44, 48] V V9 := agV.tr ajV9 (by decide) (by decide)
  have rgz4 : 0 ≤ z4.toInt ∧ z4.toInt ≤ 1 := rgz4
  have t7 : Rd gT gs (fun k => Ipart gd :: k) (fun k => k) z4.toInt (V9 1 3).toInt (fun s9 => RelC V9 L10 b gT s9 ∧ keepS gs 1 s9 ∧ keepE gs s9 ∧ CDc V9 b s9 ∧ wl s9 + 2 * gs.1 0 ≤ wl gs + 2 * s9.1 0 + 1) := t7
  have t8 : ROWL b L L10 := t8
  rcases t7 with ⟨q11, sx12, h13, rl14, kp15, ke16, cd17, wd18⟩ | ⟨q11, h13⟩
  · skip
    have hr19 : ∀ k, Rc gT (Crun gs (Iprod gd :: k)) (Crun sx12 (IprodR gd :: k)) := fun k => (hr3 k).tr (h13 (IprodR gd :: k))
    refine lv_if_ne (tgt := 10) hx hb dX1_readProduct_5 (by decide) (fun c20 => ?_) (fun c20 => ?_)
    · skip
      have f21 : z4.toInt ≠ 0 := b_neq rfl (by decide) c20
      refine lv_iconst (v := 0) hx hb dX1_readProduct_10 (by decide) ?_
      refine lv_istore_n (lv' := [(2, .int 0), (0, .ref (ad 1)), (1, .int p0)]) hx hb dX1_readProduct_11 rfl hl (by decide) rfl (fun ls hl => ?_)
      have lp25 : ∀ (fulp25 : Nat) (y22 : Int32) (V23 : Vf) (L24 : Lf) (H : Heap) (locs : List Loc) (ls : Array Slot), 0 ≤ y22.toInt ∧ y22.toInt ≤ 4000 → (∃ s1 : St, (∀ k, Rc gT (Crun gs (Iprod gd :: k)) (Crun s1 (IprodR gd :: k))) ∧ RelC V23 L24 b gT s1 ∧ keepS gs 1 s1 ∧ y22.toInt ≤ ((s1.1 0 : Nat) : Int) ∧ keepE gs s1 ∧ CDc V23 b s1 ∧ wl s1 + 2 * gs.1 0 ≤ wl gs + 2 * s1.1 0 + 1) → (V23 1 1).toInt = (b : Int) → (ROWL b L L24) → 4000 - y22.toInt < (fulp25 : Int) → agL [6, 44] L L24 → agr [(1, 3), (1, 6), (1, 8), (6, 8), (6, 9), (6, 10)] [42, 43, 44, 48] V9 V23 → rgd bX V23 → va_P D vwCl (xw ad kk V23 L24 Z) H → va_D A (xw ad kk V23 L24 Z) → va_S A s.heap H locs → lv_has ls 3 [(2, .int y22), (0, .ref (ad 1)), (1, .int p0)] → W p l e (rK 7 180 dd) s m ([.ref (ad 1), .int p0] : List Value).toArray below meth c H locs 0 0 (MQ below (q_x_readProduct3 D ks ad kk V L Z p0 b gT gs gd A) ([.ref (ad 1), .int p0] : List Value).toArray s 0 0 A) (F0 m 12 ls []) := by
        intro fulp25
        induction fulp25 with
        | zero =>
          intro y22 V23 L24 H locs ls klp25_0 xlp25_0 xlp25_1 xlp25_2 hn alL24 ajV23 hMV23 hP hD hS hl
          exfalso; (first | exact om_03b755d7679e klp25_0.2 hn | omega)
        | succ fulp25 ihlp25 =>
          intro y22 V23 L24 H locs ls klp25_0 xlp25_0 xlp25_1 xlp25_2 hn alL24 ajV23 hMV23 hP hD hS hl
          have agV23 : agr [(1, 3), (1, 6), (1, 8), (6, 8), (6, 9), (6, 10)] [42, 43, 44, 48] V V23 := agV9.tr ajV23 (by decide) (by decide)
          have pq26 : (V23 1 1).toInt = ((V 1 1)).toInt := congrArg Int32.toInt ((ajV23 1 1 rfl).trans (ajV9 1 1 rfl))
          refine lv_iload_n hx hb dX1_readProduct_12 rfl (lv_at hl 0 rfl) ?_
          obtain ⟨s1, hq, rq, kq, iq, eq9, dq9, wq9⟩ := xlp25_0
          refine lv_sipush (v := 4000) hx hb dX1_readProduct_13 (by decide) ?_
          refine lv_icmp_ge (tgt := 63) hx hb dX1_readProduct_16 (by decide) (fun c27 => ?_) (fun c27 => ?_)
          · skip
            have f28 : 4000 ≤ y22.toInt := b_le (by decide) rfl c27
            refine lv_iconst (v := 1) hx hb dX1_readProduct_63 (by decide) ?_
            have kd29 : gT.1 (s1.1 0) = ((V23 6 9)).toInt := RelC.kd rq
            have kz30 : gT.1 (s1.1 0) = 0 := RelC.e4 rq (show 0 ≤ (V23 6 7).toInt ∧ (V23 6 7).toInt ≤ 4000 from hMV23 6 7).2 (by (first | exact om_0fe76baf1fbf iq f28 | omega))
            have hr31 : ∀ k, Rc gT (Crun gs (Iprod gd :: k)) (Crun s1 (k)) := fun k => Rc.go1 (hq k) (prodR_n gd (fun h9 => absurd (h9.symm.trans kz30) (by decide)))
            have wk32 : wl s1 + 2 * gs.1 0 ≤ wl gs + 2 * s1.1 0 + 1 ∧ gs.1 0 + 1 ≤ s1.1 0 := ⟨wq9, (keepS.le kq (by decide)).1⟩
            have rw33 : ROWL b L L24 := (fun k hk => (xlp25_2 k hk))
            exact W.zret (v := 1) hx hb hr rfl (fun t ht hW => ⟨⟨1, (V23, L24), rfl, ⟨hMV23, agV23, alL24, (by decide), (Or.inl ⟨rfl, s1, hr31, rq, keepS.le (keepS.tr (keepS.rf : keepS gs 0 gs) kq) (by decide), (keepE.tr (keepE.rf : keepE gs gs) eq9), dq9, (by omega)⟩), rw33⟩, by rw [ht]; exact hP, va_K.moved hW.alike hK, hD⟩, hS.F ht⟩) hS.2.2 dX1_readProduct_64
          · skip
            have f34 : y22.toInt < 4000 := b_nle (by decide) rfl c27
            refine lv_aload_n hx hb dX1_readProduct_19 rfl (lv_at hl 1 rfl) ?_
            refine va_get (D := D) (ci := 1) (v := .ref (ad 6)) (fs := (xfReader ad V23 L24 Z)) (C := RX1) (T := TX1) (N := 9) hx hb hg inX1 hown hK hP 1 xgReader rfl 0 (by decide) (hg _ w304) (fun _ h9 => h9) rfl dX1_readProduct_20 ?_
            refine va_getN (D := D) (ci := 9) (v := .int (V23 6 9)) (fs := (xfTape ad V23 L24 Z)) (C := RX9) (T := TX9) (N := 12) hx hb hg inX9 hown hK hP 6 xgTape rfl 9 (by decide) (hnw.use 262 n262 rfl) (fun _ h9 => h9) rfl dX1_readProduct_23 ?_
            refine lv_bipush (v := 42) hx hb dX1_readProduct_26 (by decide) ?_
            refine lv_icmp_ne (tgt := 63) hx hb dX1_readProduct_28 (by decide) (fun c35 => ?_) (fun c35 => ?_)
            · skip
              have f36 : ((V23 6 9)).toInt ≠ 42 := b_neq rfl (by decide) c35
              refine lv_iconst (v := 1) hx hb dX1_readProduct_63 (by decide) ?_
              have kd37 : gT.1 (s1.1 0) = ((V23 6 9)).toInt := RelC.kd rq
              have hr38 : ∀ k, Rc gT (Crun gs (Iprod gd :: k)) (Crun s1 (k)) := fun k => Rc.go1 (hq k) (prodR_n gd (fun h9 => f36 (kd37.symm.trans h9)))
              have wk39 : wl s1 + 2 * gs.1 0 ≤ wl gs + 2 * s1.1 0 + 1 ∧ gs.1 0 + 1 ≤ s1.1 0 := ⟨wq9, (keepS.le kq (by decide)).1⟩
              have rw40 : ROWL b L L24 := (fun k hk => (xlp25_2 k hk))
              exact W.zret (v := 1) hx hb hr rfl (fun t ht hW => ⟨⟨1, (V23, L24), rfl, ⟨hMV23, agV23, alL24, (by decide), (Or.inl ⟨rfl, s1, hr38, rq, keepS.le (keepS.tr (keepS.rf : keepS gs 0 gs) kq) (by decide), (keepE.tr (keepE.rf : keepE gs gs) eq9), dq9, (by omega)⟩), rw40⟩, by rw [ht]; exact hP, va_K.moved hW.alike hK, hD⟩, hS.F ht⟩) hS.2.2 dX1_readProduct_64
            · skip
              have f41 : ((V23 6 9)).toInt = 42 := b_eq rfl (by decide) c35
              refine lv_aload_n hx hb dX1_readProduct_31 rfl (lv_at hl 1 rfl) ?_
              refine va_get (D := D) (ci := 1) (v := .ref (ad 6)) (fs := (xfReader ad V23 L24 Z)) (C := RX1) (T := TX1) (N := 9) hx hb hg inX1 hown hK hP 1 xgReader rfl 0 (by decide) (hg _ w304) (fun _ h9 => h9) rfl dX1_readProduct_32 ?_
              have kd42 : gT.1 (s1.1 0) = ((V23 6 9)).toInt := RelC.kd rq
              have hr43 : ∀ k, Rc gT (Crun gs (Iprod gd :: k)) (Crun (nx s1 1) (Ipart gd :: Iem 5 :: IprodR gd :: k)) := fun k => Rc.go1 (hq k) (prodR_42 gd (kd42.trans f41))
              have l844 := RelC.l8 rq
              have r45 : 0 ≤ ((V23 6 8)).toInt ∧ ((V23 6 8)).toInt ≤ 4000 := hMV23 6 8
              have pq46 : (V23 6 7).toInt = ((V 6 7)).toInt := congrArg Int32.toInt ((ajV23 6 7 rfl).trans (ajV9 6 7 rfl))
              have r47 : 0 ≤ ((V 6 7)).toInt ∧ ((V 6 7)).toInt ≤ 4000 := hMV 6 7
              have lk48 := RelC.lk rq (show (V23 6 9).toInt ≠ 0 from by (first | exact om_da2ce214c664 f41 | omega))
              refine gA_void (gA_runV (As := []) (rest := []) (ci := 9) (q0 := 6) hx hb hml hown hg hP hD hK hS hA hnw hgk (x_next2 l D ks H.size ad kk V23 L24 Z  hMV23 (show (V23 6 8).toInt ≤ (V23 6 7).toInt from by (first | exact om_f4906d00fa52 l844 | omega))) w871 w852 w853 w157 w854 rfl xgTape hdV_yX9_next ⟨(by show 0 + 1 ≤ 10 * dd + 7; (first | exact om_b1b3c2de07ba rg_p0.2 y1 | omega)), (by show 8 + (1 + 11) + (0) ≤ 300 * dd + 180; (first | exact om_715e5b210718 rg_p0.2 y1 | omega))⟩ rfl hl.1 rfl (Nat.le_of_ble_eq_true rfl) dX1_readProduct_35 ⟨Nat.le_of_ble_eq_true rfl, Nat.le_of_ble_eq_true rfl⟩) hP hD hK hS hA (fun u50 H locs w51 hP hD hK hS => ?_)
              obtain ⟨V54, L55⟩ := u50
              obtain ⟨hMV54, ajV54, axL55, t52, t53⟩ := w51
              have alL55 : agL [6, 44] L L55 := agL.tr alL24 axL55 (by decide)
              have hP : va_P D vwCl (xw ad kk V54 L55 Z) H := hP
              have hD : va_D A (xw ad kk V54 L55 Z) := hD
              have hMV54 : rgd bX V54 := hMV54
              have ajV54 : agr [(6, 8), (6, 9), (6, 10)] [] V23 V54 := ajV54
              have agV54 : agr [(1, 3), (1, 6), (1, 8), (6, 8), (6, 9), (6, 10)] [42, 43, 44, 48] V V54 := agV23.tr ajV54 (by decide) (by decide)
              have t52 : (V54 6 8).toInt ≤ (V54 6 7).toInt := t52
              have t53 : CUR V54 L55 (Int32.toNatClampNeg (V23 6 8)) := t53
              have r56 : 0 ≤ ((V54 6 8)).toInt ∧ ((V54 6 8)).toInt ≤ 4000 := hMV54 6 8
              have pq57 : (V54 6 7).toInt = ((V 6 7)).toInt := congrArg Int32.toInt ((ajV54 6 7 rfl).trans ((ajV23 6 7 rfl).trans (ajV9 6 7 rfl)))
              have rl58 : RelC V54 L55 b gT (nx s1 1) := RelC.nx1 rq ajV54 (by decide) axL55 (by decide) (by rw [← lk48]; exact t53) (ajV54 1 3 rfl)
              refine lv_aload_n hx hb dX1_readProduct_38 rfl (lv_at hl 1 rfl) ?_
              refine lv_iload_n hx hb dX1_readProduct_39 rfl (lv_at hl 2 rfl) ?_
              have pq59 : (V54 1 1).toInt = ((V 1 1)).toInt := congrArg Int32.toInt ((ajV54 1 1 rfl).trans ((ajV23 1 1 rfl).trans (ajV9 1 1 rfl)))
              have cd60 : CDc V54 b s1 := CDc.ag dq9 (show agr [(6, 8), (6, 9), (6, 10)] [] V23 V54 from (agr.tr agr.rf ajV54 (by decide) (by decide))) (fun _ => rfl) (fun _ => rfl)
              have cd61 : CDc V54 b (nx s1 1) := CDc.mv cd60 (show ∀ j9, j9 = 5 ∨ 2000 ≤ j9 → (nx s1 1).2.1 j9 = s1.2.1 j9 from fun j9 h9 => (show ∀ j9, 5 ≤ j9 → (nx s1 1).2.1 j9 = s1.2.1 j9 from fun _ _ => rfl) j9 (by omega))
              have wk62 : wl s1 + 2 * gs.1 0 ≤ wl gs + 2 * s1.1 0 + 1 ∧ gs.1 0 + 1 ≤ s1.1 0 := ⟨wq9, (keepS.le kq (by decide)).1⟩
              have wk63 : wl (nx s1 1) = wl s1 ∧ (nx s1 1).1 0 = s1.1 0 + 1 := ⟨rfl, rfl⟩
              refine gA_int (gA_runV (As := [.int p0]) (rest := []) (ci := 1) (q0 := 1) hx hb hml hown hg hP hD hK hS hA hnw hgk (hk_x_readPart3 H.size ad kk V54 L55 Z p0 (b) (gT) ((nx s1 1)) (gd) hMV54 (by (first | exact om_10aaac3409ba rg_p0.1 rg_p0.2 | omega)) (show b < 2 from by (first | exact om_ddd9fa46ae4d rbk r1.2 | omega)) (show (V54 1 1).toInt = (b : Int) from by (first | exact om_adf531c77a0d rbk pq59 | omega)) rl58 cd61 (show wl (nx s1 1) ≤ 2 * (nx s1 1).1 0 from by omega) (show p0.toInt = (gd : Int) from by (first | exact om_08e0c9701055 yd | omega)) (((congrArg Int32.toInt ((ajV54 1 4 rfl).trans ((ajV23 1 4 rfl).trans (ajV9 1 4 rfl)))).trans wh).trans (congrArg (fun n9 : Nat => (n9 : Int)) (((keepS.tr (keepS.tr (keepS.rf : keepS gs 0 gs) kq) (keepS.n1 1))).2.1 4 (by decide)).symm)) (fun h9 => by rw [((ajV54 1 2 rfl).trans ((ajV23 1 2 rfl).trans (ajV9 1 2 rfl)))]; exact ow ((congrArg Int32.toInt ((ajV54 1 4 rfl).trans ((ajV23 1 4 rfl).trans (ajV9 1 4 rfl)))).symm.trans h9)) (show 8 - p0.toInt ≤ (dd : Int) from by (first | exact om_1656cef72499 y1 | omega))) w963 w965 w24 w162 w966 rfl xgReader hdV_yX1_readPart ⟨(by show 10 * dd + 6 + 1 ≤ 10 * dd + 7; (first | exact om_6de1b10062be | omega)), (by show 8 + (5 + 11) + (300 * dd + 150) ≤ 300 * dd + 180; (first | exact om_d79616c3e450 | omega))⟩ rfl hl.1 rfl (Nat.le_of_ble_eq_true rfl) dX1_readProduct_40 ⟨Nat.le_of_ble_eq_true rfl, Nat.le_of_ble_eq_true rfl⟩) hP hD hK hS hA (fun z64 u65 H locs w66 hP hD hK hS => ?_)
              obtain ⟨V69, L70⟩ := u65
              obtain ⟨hMV69, ajV69, axL70, rgz64, t67, t68⟩ := w66
              have alL70 : agL [6, 44] L L70 := agL.tr alL55 axL70 (by decide)
              have hP : va_P D vwCl (xw ad kk V69 L70 Z) H := hP
              have hD : va_D A (xw ad kk V69 L70 Z) := hD
              have hMV69 : rgd bX V69 := hMV69
              have ajV69 : agr [(1, 3), (1, 6), (1, 8), (6, 8), (6, 9), (6, 10)] [42, 43, 44, 48] V54 V69 := ajV69
              have agV69 : agr [(1, 3), (1, 6), (1, 8), (6, 8), (6, 9), (6, 10)] [42, 43, 44, 48] V V69 := agV54.tr ajV69 (by decide) (by decide)
              have rgz64 : 0 ≤ z64.toInt ∧ z64.toInt ≤ 1 := rgz64
              have t67 : Rd gT (nx s1 1) (fun k => Ipart gd :: k) (fun k => k) z64.toInt (V69 1 3).toInt (fun s9 => RelC V69 L70 b gT s9 ∧ keepS (nx s1 1) 1 s9 ∧ keepE (nx s1 1) s9 ∧ CDc V69 b s9 ∧ wl s9 + 2 * (nx s1 1).1 0 ≤ wl (nx s1 1) + 2 * s9.1 0 + 1) := t67
              have t68 : ROWL b L55 L70 := t68
              rcases t67 with ⟨q71, sx72, h73, rl74, kp75, ke76, cd77, wd78⟩ | ⟨q71, h73⟩
              · skip
                have hr79 : ∀ k, Rc gT (Crun gs (Iprod gd :: k)) (Crun sx72 (Iem 5 :: IprodR gd :: k)) := fun k => (hr43 k).tr (h73 (Iem 5 :: IprodR gd :: k))
                refine lv_if_ne (tgt := 48) hx hb dX1_readProduct_43 (by decide) (fun c80 => ?_) (fun c80 => ?_)
                · skip
                  have f81 : z64.toInt ≠ 0 := b_neq rfl (by decide) c80
                  refine lv_aload_n hx hb dX1_readProduct_48 rfl (lv_at hl 1 rfl) ?_
                  refine va_get (D := D) (ci := 1) (v := rfN ad 38 (V69 1 1)) (fs := (xfReader ad V69 L70 Z)) (C := RX1) (T := TX1) (N := 9) hx hb hg inX1 hown hK hP 1 xgReader rfl 1 (by decide) (hg _ w305) (fun _ h9 => h9) rfl dX1_readProduct_49 ?_
                  have pq82 : (V69 1 1).toInt = ((V 1 1)).toInt := congrArg Int32.toInt ((ajV69 1 1 rfl).trans ((ajV54 1 1 rfl).trans ((ajV23 1 1 rfl).trans (ajV9 1 1 rfl))))
                  refine g_topv (v := .ref (ad (38 + b))) (rfN_r (by omega)) ?_
                  refine lv_bipush (v := 7) hx hb dX1_readProduct_52 (by decide) ?_
                  have r83 : Int32.toInt 7 = 7 := by decide
                  refine gA_void (gA_runV (As := [.int 7]) (rest := []) (ci := 0) (q0 := (38 + b)) hx hb hml hown hg hP hD hK hS hA hnw hgk (x_emit l D ks H.size ad kk V69 L70 Z 7 (b) hMV69 (show b < 2 from by (first | exact om_ddd9fa46ae4d rbk r1.2 | omega))) w971 w972 w973 w167 w974 rfl (xgBook hb2) hdV_yX0_emit ⟨(by show 0 + 1 ≤ 10 * dd + 7; (first | exact om_b1b3c2de07ba rg_p0.2 y1 | omega)), (by show 8 + (2 + 11) + (0) ≤ 300 * dd + 180; (first | exact om_5ec95c5379fb rg_p0.2 y1 | omega))⟩ rfl hl.1 rfl (Nat.le_of_ble_eq_true rfl) dX1_readProduct_54 ⟨Nat.le_of_ble_eq_true rfl, Nat.le_of_ble_eq_true rfl⟩) hP hD hK hS hA (fun u85 H locs w86 hP hD hK hS => ?_)
                  obtain ⟨V88, L89⟩ := u85
                  obtain ⟨hMV88, ajV88, axL89, fyV88, t87⟩ := w86
                  have axL89 : L70 = L89 := Eq.symm axL89
                  subst axL89
                  have hP : va_P D vwCl (xw ad kk V88 L70 Z) H := hP
                  have hD : va_D A (xw ad kk V88 L70 Z) := hD
                  have hMV88 : rgd bX V88 := hMV88
                  have ajV88 : agr [] [42, 48] V69 V88 := ajV88
                  have agV88 : agr [(1, 3), (1, 6), (1, 8), (6, 8), (6, 9), (6, 10)] [42, 43, 44, 48] V V88 := agV69.tr ajV88 (by decide) (by decide)
                  have t87 : emX V69 V88 b 7 := t87
                  have hr90 : ∀ k, Rc gT (Crun gs (Iprod gd :: k)) (Crun (emS sx72 5 0 0) (IprodR gd :: k)) := fun k => Rc.go1 (hr79 k) (m_em 5)
                  have rl91 : RelC V88 L70 b gT sx72 := RelC.ag rl74 (show agr [] [42, 48] V69 V88 from (agr.tr agr.rf ajV88 (by decide) (by decide))) (by decide) (show agL [] L70 L70 from agL.rf) (by decide)
                  have rl92 : RelC V88 L70 b gT (emS sx72 5 0 0) := RelC.em rl91
                  have wk93 : wl sx72 + 2 * (nx s1 1).1 0 ≤ wl (nx s1 1) + 2 * sx72.1 0 + 1 ∧ (nx s1 1).1 0 + 1 ≤ sx72.1 0 := ⟨wd78, (keepS.le kp75 (by decide)).1⟩
                  have wk94 : wl (emS sx72 5 0 0) = wl sx72 + 1 ∧ (emS sx72 5 0 0).1 0 = sx72.1 0 := ⟨(wl_em sx72 5 _ _).trans (congrArg (fun q9 => wl sx72 + q9) (show szO 5 = 1 from by decide)), rfl⟩
                  have ph95 : (((emS sx72 5 0 0).1 0 : Nat) : Int) ≤ 4000 := Int.le_trans (rl92).1.1 (show 0 ≤ (V88 6 7).toInt ∧ (V88 6 7).toInt ≤ 4000 from hMV88 6 7).2
                  have hr96 : (V69 42 b).toInt + 1 < 8200 := by have h9 := cd77.1; omega
                  have cd97 : CDc V88 b (emS sx72 5 0 0) := CDc.e1 cd77 t87 (by (first | exact om_df3b24190af0 hr96 | omega)) (by decide) (by decide)
                  obtain ⟨z98, ez98⟩ : ∃ y : Int32, y = y22 + 1 := ⟨_, rfl⟩
                  have hz98 : z98.toInt = y22.toInt + 1 := i_add ez98 rfl (by decide) (by (first | exact om_67c6ad613360 klp25_0.1 f34 | omega))
                  refine lv_iinc (v := z98) (lv' := [(2, .int z98), (0, .ref (ad 1)), (1, .int p0)]) hx hb dX1_readProduct_57 hl (k := 0) rfl (by rw [ez98]; rfl) (by decide) rfl (fun ls hl => ?_)
                  refine lv_goto (tgt := 12) hx hb dX1_readProduct_60 (by decide) ?_
                  have pq99 : (V88 1 1).toInt = ((V 1 1)).toInt := congrArg Int32.toInt ((ajV88 1 1 rfl).trans ((ajV69 1 1 rfl).trans ((ajV54 1 1 rfl).trans ((ajV23 1 1 rfl).trans (ajV9 1 1 rfl)))))
                  have rw100 : ROWL b L L70 := (fun k hk => ((t68 k hk).trans ((axL55 44 k rfl).trans (xlp25_2 k hk))))
                  exact ihlp25 z98 V88 L70 H locs ls (by (first | exact om_44a0a3faffcf klp25_0.1 f34 hz98 | omega)) ⟨(emS sx72 5 0 0), hr90, rl92, keepS.le (keepS.tr (keepS.tr (keepS.tr (keepS.tr (keepS.rf : keepS gs 0 gs) kq) (keepS.n1 1)) kp75) (show keepS sx72 0 (emS sx72 5 0 0) from keepS.em)) (by decide), (by have h9 := ((keepS.tr (keepS.tr (keepS.tr (keepS.rf : keepS s1 0 s1) (keepS.n1 1)) kp75) (show keepS sx72 0 (emS sx72 5 0 0) from keepS.em))).1; omega), (keepE.tr (keepE.tr (keepE.tr (keepE.tr (keepE.rf : keepE gs gs) eq9) (show keepE s1 (nx s1 1) from keepE.eq (show ∀ j9, 5 ≤ j9 → (nx s1 1).2.1 j9 = s1.2.1 j9 from fun _ _ => rfl))) ke76) (show keepE sx72 (emS sx72 5 0 0) from keepE.em)), cd97, (by omega)⟩ (show (V88 1 1).toInt = (b : Int) from by (first | exact om_adf531c77a0d rbk pq99 | omega)) rw100 (by (first | exact om_7390df9cc880 hn hz98 | omega)) alL70 (agr.tr (agr.tr (agr.tr (agr.tr agr.rf ajV23 (by decide) (by decide)) ajV54 (by decide) (by decide)) ajV69 (by decide) (by decide)) ajV88 (by decide) (by decide)) hMV88 hP hD hS (lv_sub hl [0, 1, 2] rfl)
                · skip
                  have f101 : z64.toInt = 0 := b_eq rfl (by decide) c80
                  exfalso; omega
              · skip
                have hb102 : ∀ k, Rc gT (Crun gs (Iprod gd :: k)) (Cbad (V69 1 3).toInt) := fun k => (hr43 k).tr (h73 (Iem 5 :: IprodR gd :: k))
                refine lv_if_ne (tgt := 48) hx hb dX1_readProduct_43 (by decide) (fun c103 => ?_) (fun c103 => ?_)
                · skip
                  have f104 : z64.toInt ≠ 0 := b_neq rfl (by decide) c103
                  exfalso; omega
                · skip
                  have f105 : z64.toInt = 0 := b_eq rfl (by decide) c103
                  refine lv_iconst (v := 0) hx hb dX1_readProduct_46 (by decide) ?_
                  have rw106 : ROWL b L L70 := (fun k hk => ((t68 k hk).trans ((axL55 44 k rfl).trans (xlp25_2 k hk))))
                  exact W.zret (v := 0) hx hb hr rfl (fun t ht hW => ⟨⟨0, (V69, L70), rfl, ⟨hMV69, agV69, alL70, (by decide), (Or.inr ⟨rfl, hb102⟩), rw106⟩, by rw [ht]; exact hP, va_K.moved hW.alike hK, hD⟩, hS.F ht⟩) hS.2.2 dX1_readProduct_47
      have r107 : Int32.toInt 0 = 0 := by decide
      have pq108 : (V9 1 1).toInt = ((V 1 1)).toInt := congrArg Int32.toInt (ajV9 1 1 rfl)
      have wk109 : wl sx12 + 2 * gs.1 0 ≤ wl gs + 2 * sx12.1 0 + 1 ∧ gs.1 0 + 1 ≤ sx12.1 0 := ⟨wd18, (keepS.le kp15 (by decide)).1⟩
      have rw110 : ROWL b L L10 := (fun k hk => ((t8 k hk).trans rfl))
      exact lp25 ((4000 - (Int32.toInt 0) + 1 : Int).toNat) 0 V9 L10 H locs ls (by decide) ⟨sx12, hr19, rl14, keepS.le (keepS.tr (keepS.rf : keepS gs 0 gs) kp15) (by decide), (by omega), (keepE.tr (keepE.rf : keepE gs gs) ke16), cd17, (by omega)⟩ (show (V9 1 1).toInt = (b : Int) from by (first | exact om_adf531c77a0d rbk pq108 | omega)) rw110 (by (first | exact om_be7e3b1de7fd | omega)) alL10 agr.rf hMV9 hP hD hS (lv_sub hl [0, 1, 2] rfl)
    · skip
      have f111 : z4.toInt = 0 := b_eq rfl (by decide) c20
      exfalso; omega
  · skip
    have hb112 : ∀ k, Rc gT (Crun gs (Iprod gd :: k)) (Cbad (V9 1 3).toInt) := fun k => (hr3 k).tr (h13 (IprodR gd :: k))
    refine lv_if_ne (tgt := 10) hx hb dX1_readProduct_5 (by decide) (fun c113 => ?_) (fun c113 => ?_)
    · skip
      have f114 : z4.toInt ≠ 0 := b_neq rfl (by decide) c113
      exfalso; omega
    · skip
      have f115 : z4.toInt = 0 := b_eq rfl (by decide) c113
      refine lv_iconst (v := 0) hx hb dX1_readProduct_8 (by decide) ?_
      have rw116 : ROWL b L L10 := (fun k hk => ((t8 k hk).trans rfl))
      exact W.zret (v := 0) hx hb hr rfl (fun t ht hW => ⟨⟨0, (V9, L10), rfl, ⟨hMV9, agV9, alL10, (by decide), (Or.inr ⟨rfl, hb112⟩), rw116⟩, by rw [ht]; exact hP, va_K.moved hW.alike hK, hD⟩, hS.F ht⟩) hS.2.2 dX1_readProduct_9
set_option maxHeartbeats 4000000 in
set_option maxRecDepth 100000 in
theorem x_readWithin3 {l : Launch} {D : va_G} {ks : KS} {dd : Nat} (hk_x_readExpression3 : K_x_readExpression3 l D ks dd) : K_x_readWithin3 l D ks dd := by
  intro sz ad kk V L Z p0 b gT gs gd hMV rg_p0 hb2 rbk rel cdq hwl yd wh ow y1
  refine g_met (q_x_readWithin3 D ks ad kk V L Z p0 b gT gs gd) (by decide) (Nat.le_of_ble_eq_true rfl) ?_
  intro p e s m below meth c A ls H locs hx hb hr hml hown hg hlocks hin hnw hgk hP hK hD hS hA hl
  have hown : s.vm.findClass RX1 = some m.cls := hown
  have hl : lv_has ls 2 [(0, .ref (ad 1)), (1, .int p0)] := hl
  have hP : va_P D vwCl (xw ad kk V L Z) H := hP
  have hD : va_D A (xw ad kk V L Z) := hD
  have hK : va_K D vwCl (xty kk Z) s := hK
  have agV : agr [(1, 3), (1, 6), (1, 8), (6, 8), (6, 9), (6, 10)] [42, 43, 44, 48] V V := agr.rf
  have alL : agL [6, 44] L L := agL.rf
  have rf_p0 := i_full p0
  have r1 : (-1) ≤ ((V 1 1)).toInt ∧ ((V 1 1)).toInt ≤ 1 := hMV 1 1
  refine lv_aload_n hx hb dX1_readWithin_0 rfl (lv_at hl 0 rfl) ?_
  refine lv_bipush (v := 40) hx hb dX1_readWithin_1 (by decide) ?_
  have hr2 : ∀ k, Rc gT (Crun gs (Itake 40 :: Iexpr (gd + 1) :: Itake 41 :: k)) (Crun gs (Itake 40 :: Iexpr (gd + 1) :: Itake 41 :: k)) := fun k => Rc.rf
  have r3 : Int32.toInt 40 = 40 := by decide
  refine gA_int (gA_runV (As := [.int 40]) (rest := []) (ci := 1) (q0 := 1) hx hb hml hown hg hP hD hK hS hA hnw hgk (x_take2 l D ks H.size ad kk V L Z 40 ((gs.1 0)) hMV (rel).1 (rel).2.1.1 (show 1 ≤ (Int32.toInt 40) from by (first | exact om_1db0a53e4a87 r3 | omega))) w893 w895 w10 w162 w896 rfl xgReader hdV_yX1_take ⟨(by show 1 + 1 ≤ 10 * dd + 10; (first | exact om_162fc0655431 rg_p0.2 y1 | omega)), (by show 8 + (2 + 11) + (21) ≤ 300 * dd + 265; (first | exact om_cb5b29a579d3 rg_p0.2 y1 | omega))⟩ rfl hl.1 rfl (Nat.le_of_ble_eq_true rfl) dX1_readWithin_3 ⟨Nat.le_of_ble_eq_true rfl, Nat.le_of_ble_eq_true rfl⟩) hP hD hK hS hA (fun z4 u5 H locs w6 hP hD hK hS => ?_)
  obtain ⟨V9, L10⟩ := u5
  obtain ⟨hMV9, ajV9, axL10, rgz4, t7, t8⟩ := w6
  have alL10 : agL [6, 44] L L10 := agL.tr alL axL10 (by decide)
  have hP : va_P D vwCl (xw ad kk V9 L10 Z) H := hP
  have hD : va_D A (xw ad kk V9 L10 Z) := hD
  have hMV9 : rgd bX V9 := hMV9
  have ajV9 : agr [(1, 3), (6, 8), (6, 9), (6, 10)] [] V V9 := ajV9
  have agV9 : agr [(1, 3), (1, 6), (1, 8), (6, 8), (6, 9), (6, 10)] [42, 43, 44, 48] V V9 := agV.tr ajV9 (by decide) (by decide)
  have rgz4 : 0 ≤ z4.toInt ∧ z4.toInt ≤ 1 := rgz4
  have t7 : Imp (z4.toInt = 0) (1 ≤ (V9 1 3).toInt) := t7
  have t8 : (z4.toInt = 1 ∧ (V 12 (gs.1 0)).toInt = (Int32.toInt 40) ∧ CUR V9 L10 ((gs.1 0) + 1) ∧ V9 1 3 = V 1 3) ∨ (z4.toInt = 0 ∧ (V 12 (gs.1 0)).toInt ≠ (Int32.toInt 40) ∧ (V9 1 3).toInt = 1 + 16 * (V 13 (gs.1 0)).toInt) := t8
  rcases t8 with ⟨q11, h12, k13, k14⟩ | ⟨q11, h12, k13⟩
  · skip
    have rl15 : RelC V9 L10 b gT (nx gs 1) := RelC.nx1 rel ajV9 (by decide) axL10 (by decide) k13 k14
    have hr16 : ∀ k, Rc gT (Crun gs (Itake 40 :: Iexpr (gd + 1) :: Itake 41 :: k)) (Crun (nx gs 1) (Iexpr (gd + 1) :: Itake 41 :: k)) := fun k => Rc.go1 (hr2 k) (tk_y (rel.tok.1.trans (h12.trans (by decide))))
    refine lv_if_eq (tgt := 32) hx hb dX1_readWithin_6 (by decide) (fun c17 => ?_) (fun c17 => ?_)
    · skip
      have f18 : z4.toInt = 0 := b_eq rfl (by decide) c17
      exfalso; first | exact om_495ee03a60ae q11 f18 | first | omega | ((try (have i_t7 := Imp.go t7 (by omega))); omega)
    · skip
      have f19 : z4.toInt ≠ 0 := b_neq rfl (by decide) c17
      refine lv_aload_n hx hb dX1_readWithin_9 rfl (lv_at hl 0 rfl) ?_
      refine lv_iload_n hx hb dX1_readWithin_10 rfl (lv_at hl 1 rfl) ?_
      refine lv_iconst (v := 1) hx hb dX1_readWithin_11 (by decide) ?_
      refine lv_iadd hx hb dX1_readWithin_12 ?_
      refine lv_topi (fun z20 ez20 => ?_)
      have hz20 : z20.toInt = p0.toInt + 1 := i_add ez20 rfl (by decide) (by (first | exact om_7833cbc177ca rg_p0.1 rg_p0.2 | omega))
      have pq21 : (V9 1 1).toInt = ((V 1 1)).toInt := congrArg Int32.toInt (ajV9 1 1 rfl)
      have cd22 : CDc V9 b gs := CDc.ag cdq (show agr [(1, 3), (6, 8), (6, 9), (6, 10)] [] V V9 from (agr.tr agr.rf ajV9 (by decide) (by decide))) (fun _ => rfl) (fun _ => rfl)
      have cd23 : CDc V9 b (nx gs 1) := CDc.mv cd22 (show ∀ j9, j9 = 5 ∨ 2000 ≤ j9 → (nx gs 1).2.1 j9 = gs.2.1 j9 from fun j9 h9 => (show ∀ j9, 5 ≤ j9 → (nx gs 1).2.1 j9 = gs.2.1 j9 from fun _ _ => rfl) j9 (by omega))
      have wk24 : wl (nx gs 1) = wl gs ∧ (nx gs 1).1 0 = gs.1 0 + 1 := ⟨rfl, rfl⟩
      refine gA_int (gA_runV (As := [.int z20]) (rest := []) (ci := 1) (q0 := 1) hx hb hml hown hg hP hD hK hS hA hnw hgk (hk_x_readExpression3 H.size ad kk V9 L10 Z z20 (b) (gT) ((nx gs 1)) ((gd + 1)) hMV9 (by first | exact om_b66aae6510dc rg_p0.1 rg_p0.2 hz20 | first | omega | ((try (have i_t7 := Imp.go t7 (by omega))); omega)) (show b < 2 from by first | exact om_f940a4667dd6 hb2 | first | omega | ((try (have i_t7 := Imp.go t7 (by omega))); omega)) (show (V9 1 1).toInt = (b : Int) from by first | exact om_adf531c77a0d rbk pq21 | first | omega | ((try (have i_t7 := Imp.go t7 (by omega))); omega)) rl15 cd23 (show wl (nx gs 1) ≤ 2 * (nx gs 1).1 0 from by omega) (show z20.toInt = ((gd + 1) : Int) from by first | exact om_a9904d4d2531 yd hz20 | first | omega | ((try (have i_t7 := Imp.go t7 (by omega))); omega)) (((congrArg Int32.toInt (ajV9 1 4 rfl)).trans wh).trans (congrArg (fun n9 : Nat => (n9 : Int)) (((keepS.tr (keepS.rf : keepS gs 0 gs) (keepS.n1 1))).2.1 4 (by decide)).symm)) (fun h9 => by rw [(ajV9 1 2 rfl)]; exact ow ((congrArg Int32.toInt (ajV9 1 4 rfl)).symm.trans h9)) (show 8 - z20.toInt ≤ (dd : Int) from by first | exact om_2dee3eb3e2cf y1 hz20 | first | omega | ((try (have i_t7 := Imp.go t7 (by omega))); omega))) w951 w953 w21 w162 w954 rfl xgReader hdV_yX1_readExpression ⟨(by show 10 * dd + 9 + 1 ≤ 10 * dd + 10; (first | exact om_5cb1365e39a9 | omega)), (by show 8 + (3 + 11) + (300 * dd + 240) ≤ 300 * dd + 265; (first | exact om_31bfa1b830a4 | omega))⟩ rfl hl.1 rfl (Nat.le_of_ble_eq_true rfl) dX1_readWithin_13 ⟨Nat.le_of_ble_eq_true rfl, Nat.le_of_ble_eq_true rfl⟩) hP hD hK hS hA (fun z25 u26 H locs w27 hP hD hK hS => ?_)
      obtain ⟨V30, L31⟩ := u26
      obtain ⟨hMV30, ajV30, axL31, rgz25, t28, t29⟩ := w27
      have alL31 : agL [6, 44] L L31 := agL.tr alL10 axL31 (by decide)
      have hP : va_P D vwCl (xw ad kk V30 L31 Z) H := hP
      have hD : va_D A (xw ad kk V30 L31 Z) := hD
      have hMV30 : rgd bX V30 := hMV30
      have ajV30 : agr [(1, 3), (1, 6), (1, 8), (6, 8), (6, 9), (6, 10)] [42, 43, 44, 48] V9 V30 := ajV30
      have agV30 : agr [(1, 3), (1, 6), (1, 8), (6, 8), (6, 9), (6, 10)] [42, 43, 44, 48] V V30 := agV9.tr ajV30 (by decide) (by decide)
      have rgz25 : 0 ≤ z25.toInt ∧ z25.toInt ≤ 1 := rgz25
      have t28 : Rd gT (nx gs 1) (fun k => Iexpr (gd + 1) :: k) (fun k => k) z25.toInt (V30 1 3).toInt (fun s9 => RelC V30 L31 b gT s9 ∧ keepS (nx gs 1) 1 s9 ∧ keepE (nx gs 1) s9 ∧ CDc V30 b s9 ∧ wl s9 + 2 * (nx gs 1).1 0 ≤ wl (nx gs 1) + 2 * s9.1 0 + 1) := t28
      have t29 : ROWL b L10 L31 := t29
      rcases t28 with ⟨q32, sx33, h34, rl35, kp36, ke37, cd38, wd39⟩ | ⟨q32, h34⟩
      · skip
        have hr40 : ∀ k, Rc gT (Crun gs (Itake 40 :: Iexpr (gd + 1) :: Itake 41 :: k)) (Crun sx33 (Itake 41 :: k)) := fun k => (hr16 k).tr (h34 (Itake 41 :: k))
        refine lv_if_eq (tgt := 32) hx hb dX1_readWithin_16 (by decide) (fun c41 => ?_) (fun c41 => ?_)
        · skip
          have f42 : z25.toInt = 0 := b_eq rfl (by decide) c41
          exfalso; first | omega | ((try (have i_t7 := Imp.go t7 (by omega))); omega)
        · skip
          have f43 : z25.toInt ≠ 0 := b_neq rfl (by decide) c41
          refine lv_aload_n hx hb dX1_readWithin_19 rfl (lv_at hl 0 rfl) ?_
          refine lv_bipush (v := 41) hx hb dX1_readWithin_20 (by decide) ?_
          have r44 : Int32.toInt 41 = 41 := by decide
          refine gA_int (gA_runV (As := [.int 41]) (rest := []) (ci := 1) (q0 := 1) hx hb hml hown hg hP hD hK hS hA hnw hgk (x_take2 l D ks H.size ad kk V30 L31 Z 41 ((sx33.1 0)) hMV30 (rl35).1 (rl35).2.1.1 (show 1 ≤ (Int32.toInt 41) from by first | exact om_ed40a8603357 r44 | first | omega | ((try (have i_t7 := Imp.go t7 (by omega))); omega))) w893 w895 w10 w162 w896 rfl xgReader hdV_yX1_take ⟨(by show 1 + 1 ≤ 10 * dd + 10; (first | exact om_162fc0655431 rg_p0.2 y1 | omega)), (by show 8 + (2 + 11) + (21) ≤ 300 * dd + 265; (first | exact om_cb5b29a579d3 rg_p0.2 y1 | omega))⟩ rfl hl.1 rfl (Nat.le_of_ble_eq_true rfl) dX1_readWithin_22 ⟨Nat.le_of_ble_eq_true rfl, Nat.le_of_ble_eq_true rfl⟩) hP hD hK hS hA (fun z45 u46 H locs w47 hP hD hK hS => ?_)
          obtain ⟨V50, L51⟩ := u46
          obtain ⟨hMV50, ajV50, axL51, rgz45, t48, t49⟩ := w47
          have alL51 : agL [6, 44] L L51 := agL.tr alL31 axL51 (by decide)
          have hP : va_P D vwCl (xw ad kk V50 L51 Z) H := hP
          have hD : va_D A (xw ad kk V50 L51 Z) := hD
          have hMV50 : rgd bX V50 := hMV50
          have ajV50 : agr [(1, 3), (6, 8), (6, 9), (6, 10)] [] V30 V50 := ajV50
          have agV50 : agr [(1, 3), (1, 6), (1, 8), (6, 8), (6, 9), (6, 10)] [42, 43, 44, 48] V V50 := agV30.tr ajV50 (by decide) (by decide)
          have rgz45 : 0 ≤ z45.toInt ∧ z45.toInt ≤ 1 := rgz45
          have t48 : Imp (z45.toInt = 0) (1 ≤ (V50 1 3).toInt) := t48
          have t49 : (z45.toInt = 1 ∧ (V30 12 (sx33.1 0)).toInt = (Int32.toInt 41) ∧ CUR V50 L51 ((sx33.1 0) + 1) ∧ V50 1 3 = V30 1 3) ∨ (z45.toInt = 0 ∧ (V30 12 (sx33.1 0)).toInt ≠ (Int32.toInt 41) ∧ (V50 1 3).toInt = 1 + 16 * (V30 13 (sx33.1 0)).toInt) := t49
          rcases t49 with ⟨q52, h53, k54, k55⟩ | ⟨q52, h53, k54⟩
          · skip
            have rl56 : RelC V50 L51 b gT (nx sx33 1) := RelC.nx1 rl35 ajV50 (by decide) axL51 (by decide) k54 k55
            have hr57 : ∀ k, Rc gT (Crun gs (Itake 40 :: Iexpr (gd + 1) :: Itake 41 :: k)) (Crun (nx sx33 1) (k)) := fun k => Rc.go1 (hr40 k) (tk_y (rl35.tok.1.trans (h53.trans (by decide))))
            refine lv_if_eq (tgt := 32) hx hb dX1_readWithin_25 (by decide) (fun c58 => ?_) (fun c58 => ?_)
            · skip
              have f59 : z45.toInt = 0 := b_eq rfl (by decide) c58
              exfalso; first | exact om_495ee03a60ae q52 f59 | first | omega | ((try (have i_t48 := Imp.go t48 (by omega))); (try (have i_t7 := Imp.go t7 (by omega))); (try (have i_t7 := Imp.go t7 (by omega))); (try (have i_t48 := Imp.go t48 (by omega))); omega)
            · skip
              have f60 : z45.toInt ≠ 0 := b_neq rfl (by decide) c58
              refine lv_iconst (v := 1) hx hb dX1_readWithin_28 (by decide) ?_
              refine lv_goto (tgt := 33) hx hb dX1_readWithin_29 (by decide) ?_
              have cd61 : CDc V50 b sx33 := CDc.ag cd38 (show agr [(1, 3), (6, 8), (6, 9), (6, 10)] [] V30 V50 from (agr.tr agr.rf ajV50 (by decide) (by decide))) (fun _ => rfl) (fun _ => rfl)
              have cd62 : CDc V50 b (nx sx33 1) := CDc.mv cd61 (show ∀ j9, j9 = 5 ∨ 2000 ≤ j9 → (nx sx33 1).2.1 j9 = sx33.2.1 j9 from fun j9 h9 => (show ∀ j9, 5 ≤ j9 → (nx sx33 1).2.1 j9 = sx33.2.1 j9 from fun _ _ => rfl) j9 (by omega))
              have wk63 : wl sx33 + 2 * (nx gs 1).1 0 ≤ wl (nx gs 1) + 2 * sx33.1 0 + 1 ∧ (nx gs 1).1 0 + 1 ≤ sx33.1 0 := ⟨wd39, (keepS.le kp36 (by decide)).1⟩
              have wk64 : wl (nx sx33 1) = wl sx33 ∧ (nx sx33 1).1 0 = sx33.1 0 + 1 := ⟨rfl, rfl⟩
              have rw65 : ROWL b L L51 := (fun k hk => ((axL51 44 k rfl).trans ((t29 k hk).trans ((axL10 44 k rfl).trans rfl))))
              exact W.zret (v := 1) hx hb hr rfl (fun t ht hW => ⟨⟨1, (V50, L51), rfl, ⟨hMV50, agV50, alL51, (by decide), (Or.inl ⟨rfl, (nx sx33 1), hr57, rl56, keepS.le (keepS.tr (keepS.tr (keepS.tr (keepS.rf : keepS gs 0 gs) (keepS.n1 1)) kp36) (keepS.n1 1)) (by decide), (keepE.tr (keepE.tr (keepE.tr (keepE.rf : keepE gs gs) (show keepE gs (nx gs 1) from keepE.eq (show ∀ j9, 5 ≤ j9 → (nx gs 1).2.1 j9 = gs.2.1 j9 from fun _ _ => rfl))) ke37) (show keepE sx33 (nx sx33 1) from keepE.eq (show ∀ j9, 5 ≤ j9 → (nx sx33 1).2.1 j9 = sx33.2.1 j9 from fun _ _ => rfl))), cd62, (by omega)⟩), rw65⟩, by rw [ht]; exact hP, va_K.moved hW.alike hK, hD⟩, hS.F ht⟩) hS.2.2 dX1_readWithin_33
          · skip
            have hb66 : ∀ k, Rc gT (Crun gs (Itake 40 :: Iexpr (gd + 1) :: Itake 41 :: k)) (Cbad (V50 1 3).toInt) := fun k => Rc.go1 (hr40 k) ((tk_n (fun h9 => h53 (rl35.tok.1.symm.trans (h9.trans (by decide))))).trans (fl_eq rl35.tok.2.2 k54))
            refine lv_if_eq (tgt := 32) hx hb dX1_readWithin_25 (by decide) (fun c67 => ?_) (fun c67 => ?_)
            · skip
              have f68 : z45.toInt = 0 := b_eq rfl (by decide) c67
              refine lv_iconst (v := 0) hx hb dX1_readWithin_32 (by decide) ?_
              have rw69 : ROWL b L L51 := (fun k hk => ((axL51 44 k rfl).trans ((t29 k hk).trans ((axL10 44 k rfl).trans rfl))))
              exact W.zret (v := 0) hx hb hr rfl (fun t ht hW => ⟨⟨0, (V50, L51), rfl, ⟨hMV50, agV50, alL51, (by decide), (Or.inr ⟨rfl, hb66⟩), rw69⟩, by rw [ht]; exact hP, va_K.moved hW.alike hK, hD⟩, hS.F ht⟩) hS.2.2 dX1_readWithin_33
            · skip
              have f70 : z45.toInt ≠ 0 := b_neq rfl (by decide) c67
              exfalso; first | exact om_fb320d7600b7 rgz45.1 q52 f70 | first | omega | ((try (have i_t48 := Imp.go t48 (by omega))); (try (have i_t7 := Imp.go t7 (by omega))); (try (have i_t7 := Imp.go t7 (by omega))); (try (have i_t48 := Imp.go t48 (by omega))); omega)
      · skip
        have hb71 : ∀ k, Rc gT (Crun gs (Itake 40 :: Iexpr (gd + 1) :: Itake 41 :: k)) (Cbad (V30 1 3).toInt) := fun k => (hr16 k).tr (h34 (Itake 41 :: k))
        refine lv_if_eq (tgt := 32) hx hb dX1_readWithin_16 (by decide) (fun c72 => ?_) (fun c72 => ?_)
        · skip
          have f73 : z25.toInt = 0 := b_eq rfl (by decide) c72
          refine lv_iconst (v := 0) hx hb dX1_readWithin_32 (by decide) ?_
          have rw74 : ROWL b L L31 := (fun k hk => ((t29 k hk).trans ((axL10 44 k rfl).trans rfl)))
          exact W.zret (v := 0) hx hb hr rfl (fun t ht hW => ⟨⟨0, (V30, L31), rfl, ⟨hMV30, agV30, alL31, (by decide), (Or.inr ⟨rfl, hb71⟩), rw74⟩, by rw [ht]; exact hP, va_K.moved hW.alike hK, hD⟩, hS.F ht⟩) hS.2.2 dX1_readWithin_33
        · skip
          have f75 : z25.toInt ≠ 0 := b_neq rfl (by decide) c72
          exfalso; first | omega | ((try (have i_t7 := Imp.go t7 (by omega))); omega)
  · skip
    have hb76 : ∀ k, Rc gT (Crun gs (Itake 40 :: Iexpr (gd + 1) :: Itake 41 :: k)) (Cbad (V9 1 3).toInt) := fun k => Rc.go1 (hr2 k) ((tk_n (fun h9 => h12 (rel.tok.1.symm.trans (h9.trans (by decide))))).trans (fl_eq rel.tok.2.2 k13))
    refine lv_if_eq (tgt := 32) hx hb dX1_readWithin_6 (by decide) (fun c77 => ?_) (fun c77 => ?_)
    · skip
      have f78 : z4.toInt = 0 := b_eq rfl (by decide) c77
      refine lv_iconst (v := 0) hx hb dX1_readWithin_32 (by decide) ?_
      have rw79 : ROWL b L L10 := (fun k hk => ((axL10 44 k rfl).trans rfl))
      exact W.zret (v := 0) hx hb hr rfl (fun t ht hW => ⟨⟨0, (V9, L10), rfl, ⟨hMV9, agV9, alL10, (by decide), (Or.inr ⟨rfl, hb76⟩), rw79⟩, by rw [ht]; exact hP, va_K.moved hW.alike hK, hD⟩, hS.F ht⟩) hS.2.2 dX1_readWithin_33
    · skip
      have f80 : z4.toInt ≠ 0 := b_neq rfl (by decide) c77
      exfalso; first | exact om_fb320d7600b7 rgz4.1 q11 f80 | first | omega | ((try (have i_t7 := Imp.go t7 (by omega))); omega)
set_option maxHeartbeats 4000000 in
set_option maxRecDepth 100000 in
theorem x_readPart3 {l : Launch} {D : va_G} {ks : KS} {dd : Nat} (hk_x_readExpression3 : ∀ d9, dd = d9 + 1 → K_x_readExpression3 l D ks d9) (hk_x_readPart3 : ∀ d9, dd = d9 + 1 → K_x_readPart3 l D ks d9) (hk_x_readPick3 : ∀ d9, dd = d9 + 1 → K_x_readPick3 l D ks d9) (hk_x_readOf3 : ∀ d9, dd = d9 + 1 → K_x_readOf3 l D ks d9) (hk_x_readWithin3 : ∀ d9, dd = d9 + 1 → K_x_readWithin3 l D ks d9) : K_x_readPart3 l D ks dd := by
  intro sz ad kk V L Z p0 b gT gs gd hMV rg_p0 hb2 rbk rel cdq hwl yd wh ow y1
  refine g_met (q_x_readPart3 D ks ad kk V L Z p0 b gT gs gd) (by decide) (Nat.le_of_ble_eq_true rfl) ?_
  intro p e s m below meth c A ls H locs hx hb hr hml hown hg hlocks hin hnw hgk hP hK hD hS hA hl
  have hown : s.vm.findClass RX1 = some m.cls := hown
  have hl : lv_has ls 5 [(0, .ref (ad 1)), (1, .int p0)] := hl
  have hP : va_P D vwCl (xw ad kk V L Z) H := hP
  have hD : va_D A (xw ad kk V L Z) := hD
  have hK : va_K D vwCl (xty kk Z) s := hK
  have agV : agr [(1, 3), (1, 6), (1, 8), (6, 8), (6, 9), (6, 10)] [42, 43, 44, 48] V V := agr.rf
  have alL : agL [6, 44] L L := agL.rf
  have rf_p0 := i_full p0
  have r1 : (-1) ≤ ((V 1 1)).toInt ∧ ((V 1 1)).toInt ≤ 1 := hMV 1 1
  refine lv_aload_n hx hb dX1_readPart_0 rfl (lv_at hl 0 rfl) ?_
  refine gA_int (gA_runV (As := []) (rest := []) (ci := 1) (q0 := 1) hx hb hml hown hg hP hD hK hS hA hnw hgk (x_beginsPart3 l D ks H.size ad kk V L Z (b) (gT) (gs) hMV (show b < 2 from by (first | exact om_f940a4667dd6 hb2 | omega)) (show (V 1 1).toInt = (b : Int) from by (first | exact om_08e0c9701055 rbk | omega)) rel wh) w967 w969 w25 w162 w970 rfl xgReader hdV_yX1_beginsPart ⟨(by show 0 + 1 ≤ 10 * dd + 6; (first | exact om_0442424c9051 rg_p0.2 y1 | omega)), (by show 8 + (1 + 11) + (0) ≤ 300 * dd + 150; (first | exact om_255d42a3e514 rg_p0.2 y1 | omega))⟩ rfl hl.1 rfl (Nat.le_of_ble_eq_true rfl) dX1_readPart_1 ⟨Nat.le_of_ble_eq_true rfl, Nat.le_of_ble_eq_true rfl⟩) hP hD hK hS hA (fun z2 u3 H locs w4 hP hD hK hS => ?_)
  obtain ⟨rgz2, t5⟩ := w4
  have rgz2 : 0 ≤ z2.toInt ∧ z2.toInt ≤ 1 := rgz2
  have t5 : (z2.toInt = 1 ∧ bgP gT gs) ∨ (z2.toInt = 0 ∧ ¬ bgP gT gs) := t5
  rcases t5 with ⟨q6, h7⟩ | ⟨q6, h7⟩
  · skip
    refine lv_if_ne (tgt := 13) hx hb dX1_readPart_4 (by decide) (fun c8 => ?_) (fun c8 => ?_)
    · skip
      have f9 : z2.toInt ≠ 0 := b_neq rfl (by decide) c8
      refine lv_iload_n hx hb dX1_readPart_13 rfl (lv_at hl 1 rfl) ?_
      refine lv_bipush (v := 8) hx hb dX1_readPart_14 (by decide) ?_
      refine lv_icmp_lt (tgt := 25) hx hb dX1_readPart_16 (by decide) (fun c10 => ?_) (fun c10 => ?_)
      · skip
        have f11 : p0.toInt < 8 := b_lt rfl (by decide) c10
        refine lv_aload_n hx hb dX1_readPart_25 rfl (lv_at hl 0 rfl) ?_
        obtain ⟨d9, rfl⟩ : ∃ d9, dd = d9 + 1 := ⟨dd - 1, by omega⟩
        refine va_get (D := D) (ci := 1) (v := .ref (ad 6)) (fs := (xfReader ad V L Z)) (C := RX1) (T := TX1) (N := 9) hx hb hg inX1 hown hK hP 1 xgReader rfl 0 (by decide) (hg _ w304) (fun _ h9 => h9) rfl dX1_readPart_26 ?_
        refine va_getN (D := D) (ci := 9) (v := .int (V 6 9)) (fs := (xfTape ad V L Z)) (C := RX9) (T := TX9) (N := 12) hx hb hg inX9 hown hK hP 6 xgTape rfl 9 (by decide) (hnw.use 262 n262 rfl) (fun _ h9 => h9) rfl dX1_readPart_29 ?_
        refine lv_istore_n (lv' := [(2, .int (V 6 9)), (0, .ref (ad 1)), (1, .int p0)]) hx hb dX1_readPart_32 rfl hl (by decide) rfl (fun ls hl => ?_)
        refine lv_aload_n hx hb dX1_readPart_33 rfl (lv_at hl 1 rfl) ?_
        refine va_get (D := D) (ci := 1) (v := .ref (ad 6)) (fs := (xfReader ad V L Z)) (C := RX1) (T := TX1) (N := 9) hx hb hg inX1 hown hK hP 1 xgReader rfl 0 (by decide) (hg _ w304) (fun _ h9 => h9) rfl dX1_readPart_34 ?_
        refine va_getN (D := D) (ci := 9) (v := .long (L 6 11)) (fs := (xfTape ad V L Z)) (C := RX9) (T := TX9) (N := 12) hx hb hg inX9 hown hK hP 6 xgTape rfl 11 (by decide) (hnw.use 269 n269 rfl) (fun _ h9 => h9) rfl dX1_readPart_37 ?_
        refine lv_lstore_n (lv' := [(3, .long (L 6 11)), (2, .int (V 6 9)), (0, .ref (ad 1)), (1, .int p0)]) hx hb dX1_readPart_40 rfl hl (by decide) rfl (fun ls hl => ?_)
        refine lv_aload_n hx hb dX1_readPart_41 rfl (lv_at hl 2 rfl) ?_
        refine va_get (D := D) (ci := 1) (v := rfN ad 38 (V 1 1)) (fs := (xfReader ad V L Z)) (C := RX1) (T := TX1) (N := 9) hx hb hg inX1 hown hK hP 1 xgReader rfl 1 (by decide) (hg _ w305) (fun _ h9 => h9) rfl dX1_readPart_42 ?_
        refine g_topv (v := .ref (ad (38 + b))) (rfN_r (by omega)) ?_
        refine lv_iconst (v := 1) hx hb dX1_readPart_45 (by decide) ?_
        have r12 : Int32.toInt 1 = 1 := by decide
        refine gA_void (gA_runV (As := [.int 1]) (rest := []) (ci := 0) (q0 := (38 + b)) hx hb hml hown hg hP hD hK hS hA hnw hgk (x_emit l D ks H.size ad kk V L Z 1 (b) hMV (show b < 2 from by (first | exact om_f940a4667dd6 hb2 | omega))) w971 w972 w973 w167 w974 rfl (xgBook hb2) hdV_yX0_emit ⟨(by show 0 + 1 ≤ 10 * (d9 + 1) + 6; (first | exact om_6d1dc8666254 y1 f11 | omega)), (by show 8 + (2 + 11) + (0) ≤ 300 * (d9 + 1) + 150; (first | exact om_fbeed7fffeb8 y1 f11 | omega))⟩ rfl hl.1 rfl (Nat.le_of_ble_eq_true rfl) dX1_readPart_46 ⟨Nat.le_of_ble_eq_true rfl, Nat.le_of_ble_eq_true rfl⟩) hP hD hK hS hA (fun u14 H locs w15 hP hD hK hS => ?_)
        obtain ⟨V17, L18⟩ := u14
        obtain ⟨hMV17, ajV17, axL18, fyV17, t16⟩ := w15
        have axL18 : L = L18 := Eq.symm axL18
        subst axL18
        have hP : va_P D vwCl (xw ad kk V17 L Z) H := hP
        have hD : va_D A (xw ad kk V17 L Z) := hD
        have hMV17 : rgd bX V17 := hMV17
        have ajV17 : agr [] [42, 48] V V17 := ajV17
        have agV17 : agr [(1, 3), (1, 6), (1, 8), (6, 8), (6, 9), (6, 10)] [42, 43, 44, 48] V V17 := agV.tr ajV17 (by decide) (by decide)
        have t16 : emX V V17 b 1 := t16
        have rl19 : RelC V17 L b gT gs := RelC.ag rel (show agr [] [42, 48] V V17 from (agr.tr agr.rf ajV17 (by decide) (by decide))) (by decide) (show agL [] L L from agL.rf) (by decide)
        have kd20 : gT.1 (gs.1 0) = ((V 6 9)).toInt := (RelC.kd rl19).trans (congrArg Int32.toInt (ajV17 6 9 rfl))
        have kn9 := bg_ne h7
        refine lv_aload_n hx hb dX1_readPart_49 rfl (lv_at hl 2 rfl) ?_
        refine va_get (D := D) (ci := 1) (v := .ref (ad 6)) (fs := (xfReader ad V17 L Z)) (C := RX1) (T := TX1) (N := 9) hx hb hg inX1 hown hK hP 1 xgReader rfl 0 (by decide) (hg _ w304) (fun _ h9 => h9) rfl dX1_readPart_50 ?_
        have l821 := RelC.l8 rl19
        have pq22 : (V17 6 8).toInt = ((V 6 8)).toInt := congrArg Int32.toInt (ajV17 6 8 rfl)
        have r23 : 0 ≤ ((V 6 8)).toInt ∧ ((V 6 8)).toInt ≤ 4000 := hMV 6 8
        have pq24 : (V17 6 7).toInt = ((V 6 7)).toInt := congrArg Int32.toInt (ajV17 6 7 rfl)
        have r25 : 0 ≤ ((V 6 7)).toInt ∧ ((V 6 7)).toInt ≤ 4000 := hMV 6 7
        have pq26 : (V17 6 9).toInt = ((V 6 9)).toInt := congrArg Int32.toInt (ajV17 6 9 rfl)
        have lk27 := RelC.lk rl19 (show (V17 6 9).toInt ≠ 0 from by omega)
        refine gA_void (gA_runV (As := []) (rest := []) (ci := 9) (q0 := 6) hx hb hml hown hg hP hD hK hS hA hnw hgk (x_next2 l D ks H.size ad kk V17 L Z  hMV17 (show (V17 6 8).toInt ≤ (V17 6 7).toInt from by (first | exact om_f4906d00fa52 l821 | omega))) w871 w852 w853 w157 w854 rfl xgTape hdV_yX9_next ⟨(by show 0 + 1 ≤ 10 * (d9 + 1) + 6; (first | exact om_6d1dc8666254 y1 f11 | omega)), (by show 8 + (1 + 11) + (0) ≤ 300 * (d9 + 1) + 150; (first | exact om_ff9d8e5082d0 y1 f11 | omega))⟩ rfl hl.1 rfl (Nat.le_of_ble_eq_true rfl) dX1_readPart_53 ⟨Nat.le_of_ble_eq_true rfl, Nat.le_of_ble_eq_true rfl⟩) hP hD hK hS hA (fun u29 H locs w30 hP hD hK hS => ?_)
        obtain ⟨V33, L34⟩ := u29
        obtain ⟨hMV33, ajV33, axL34, t31, t32⟩ := w30
        have alL34 : agL [6, 44] L L34 := agL.tr alL axL34 (by decide)
        have hP : va_P D vwCl (xw ad kk V33 L34 Z) H := hP
        have hD : va_D A (xw ad kk V33 L34 Z) := hD
        have hMV33 : rgd bX V33 := hMV33
        have ajV33 : agr [(6, 8), (6, 9), (6, 10)] [] V17 V33 := ajV33
        have agV33 : agr [(1, 3), (1, 6), (1, 8), (6, 8), (6, 9), (6, 10)] [42, 43, 44, 48] V V33 := agV17.tr ajV33 (by decide) (by decide)
        have t31 : (V33 6 8).toInt ≤ (V33 6 7).toInt := t31
        have t32 : CUR V33 L34 (Int32.toNatClampNeg (V17 6 8)) := t32
        have r35 : 0 ≤ ((V33 6 8)).toInt ∧ ((V33 6 8)).toInt ≤ 4000 := hMV33 6 8
        have pq36 : (V33 6 7).toInt = ((V 6 7)).toInt := congrArg Int32.toInt ((ajV33 6 7 rfl).trans (ajV17 6 7 rfl))
        have rl37 : RelC V33 L34 b gT (nx gs 1) := RelC.nx1 rl19 ajV33 (by decide) axL34 (by decide) (by rw [← lk27]; exact t32) (ajV33 1 3 rfl)
        refine lv_iload_n hx hb dX1_readPart_56 rfl (lv_at hl 1 rfl) ?_
        by_cases q38 : (V 6 9) = 2
        · refine g_top (v := 2) q38 ?_
          have fq38 : ((V 6 9)).toInt = 2 := b_eq rfl (by decide) q38
          refine lv_lookup (x := 2) (off := 75) (tgt := 132) hx hb dX1_readPart_57 (by decide) (by decide) (by decide) ?_
          have hr39 : ∀ k, Rc gT (Crun gs (Ipart gd :: k)) (Crun gs (Ipart gd :: k)) := fun k => Rc.rf
          have hr40 : ∀ k, Rc gT (Crun gs (Ipart gd :: k)) (Crun (emL (bgS gs) 2 [gT.2.1 (gs.1 0)] 0) (k)) := fun k => Rc.go1 (hr39 k) (pw_2 gd h7 (by (first | exact om_436e3e958284 yd f11 | omega)) (kd20.trans fq38))
          have rl41 : RelC V33 L34 b gT (bgS gs) := RelC.em rl37
          have cd42 : CDc V b (nx gs 1) := CDc.mv cdq (show ∀ j9, j9 = 5 ∨ 2000 ≤ j9 → (nx gs 1).2.1 j9 = gs.2.1 j9 from fun j9 h9 => (show ∀ j9, 5 ≤ j9 → (nx gs 1).2.1 j9 = gs.2.1 j9 from fun _ _ => rfl) j9 (by omega))
          have wk43 : wl (nx gs 1) = wl gs ∧ (nx gs 1).1 0 = gs.1 0 + 1 := ⟨rfl, rfl⟩
          have wk44 : wl (bgS gs) = wl (nx gs 1) + 1 ∧ (bgS gs).1 0 = (nx gs 1).1 0 := ⟨(wl_em (nx gs 1) 1 _ _).trans (congrArg (fun q9 => wl (nx gs 1) + q9) (show szO 1 = 1 from by decide)), rfl⟩
          have ph45 : (((bgS gs).1 0 : Nat) : Int) ≤ 4000 := Int.le_trans (rl41).1.1 (show 0 ≤ (V33 6 7).toInt ∧ (V33 6 7).toInt ≤ 4000 from hMV33 6 7).2
          have hr46 : (V 42 b).toInt + 1 < 8200 := by have h9 := cd42.1; omega
          have cd47 : CDc V17 b (bgS gs) := CDc.e1 cd42 t16 (by (first | exact om_df3b24190af0 hr46 | omega)) (by decide) (by decide)
          have rl48 : RelC V33 L34 b gT (emL (bgS gs) 2 [gT.2.1 (gs.1 0)] 0) := RelC.em rl41
          refine lv_aload_n hx hb dX1_readPart_132 rfl (lv_at hl 2 rfl) ?_
          refine lv_bipush (v := 10) hx hb dX1_readPart_133 (by decide) ?_
          refine lv_lload_n hx hb dX1_readPart_135 rfl (lv_at hl 0 rfl) ?_
          refine lv_l2i hx hb dX1_readPart_136 rfl ?_
          refine lv_topi (fun z49 ez49 => ?_)
          have hz49 := l2i_f ez49
          have r50 : Int32.toInt 10 = 10 := by decide
          have pq51 : (V33 1 1).toInt = ((V 1 1)).toInt := congrArg Int32.toInt ((ajV33 1 1 rfl).trans (ajV17 1 1 rfl))
          refine gA_int (gA_runV (As := [.int 10, .int z49]) (rest := []) (ci := 1) (q0 := 1) hx hb hml hown hg hP hD hK hS hA hnw hgk (x_put3 l D ks H.size ad kk V33 L34 Z 10 z49 (b) hMV33 (show b < 2 from by first | exact om_f940a4667dd6 hb2 | first | omega | ((try (have i_hz49 := Imp.go hz49 (by omega))); omega)) (show (V33 1 1).toInt = (b : Int) from by first | exact om_adf531c77a0d rbk pq51 | first | omega | ((try (have i_hz49 := Imp.go hz49 (by omega))); omega))) w975 w977 w26 w162 w978 rfl xgReader hdV_yX1_put ⟨(by show 1 + 1 ≤ 10 * (d9 + 1) + 6; (first | exact om_e3c7341aa676 y1 f11 | omega)), (by show 8 + (3 + 11) + (21) ≤ 300 * (d9 + 1) + 150; (first | exact om_7d30c2a65dcf y1 f11 | omega))⟩ rfl hl.1 rfl (Nat.le_of_ble_eq_true rfl) dX1_readPart_137 ⟨Nat.le_of_ble_eq_true rfl, Nat.le_of_ble_eq_true rfl⟩) hP hD hK hS hA (fun z52 u53 H locs w54 hP hD hK hS => ?_)
          obtain ⟨V56, L57⟩ := u53
          obtain ⟨hMV56, ajV56, axL57, rgz52, t55⟩ := w54
          have axL57 : L34 = L57 := Eq.symm axL57
          subst axL57
          have hP : va_P D vwCl (xw ad kk V56 L34 Z) H := hP
          have hD : va_D A (xw ad kk V56 L34 Z) := hD
          have hMV56 : rgd bX V56 := hMV56
          have ajV56 : agr [] [42, 48] V33 V56 := ajV56
          have agV56 : agr [(1, 3), (1, 6), (1, 8), (6, 8), (6, 9), (6, 10)] [42, 43, 44, 48] V V56 := agV33.tr ajV56 (by decide) (by decide)
          have rgz52 : 1 ≤ z52.toInt ∧ z52.toInt ≤ 1 := rgz52
          have t55 : (∃ U9 : Vf, emX V33 U9 b 10 ∧ emX U9 V56 b z49) := t55
          obtain ⟨U58, e59, f60⟩ := t55
          have cd61 : CDc V33 b (bgS gs) := CDc.ag cd47 (show agr [(6, 8), (6, 9), (6, 10)] [] V17 V33 from (agr.tr agr.rf ajV33 (by decide) (by decide))) (fun _ => rfl) (fun _ => rfl)
          have wk62 : wl (emL (bgS gs) 2 [gT.2.1 (gs.1 0)] 0) = wl (bgS gs) + 2 ∧ (emL (bgS gs) 2 [gT.2.1 (gs.1 0)] 0).1 0 = (bgS gs).1 0 := ⟨(wl_em (bgS gs) 2 _ _).trans (congrArg (fun q9 => wl (bgS gs) + q9) (show szO 2 = 2 from by decide)), rfl⟩
          have rl64 : RelC V56 L34 b gT (emL (bgS gs) 2 [gT.2.1 (gs.1 0)] 0) := RelC.ag rl48 (show agr [] [42, 48] V33 V56 from (agr.tr agr.rf ajV56 (by decide) (by decide))) (by decide) (show agL [] L34 L34 from agL.rf) (by decide)
          have ph63 : (((emL (bgS gs) 2 [gT.2.1 (gs.1 0)] 0).1 0 : Nat) : Int) ≤ 4000 := Int.le_trans (rl64).1.1 (show 0 ≤ (V56 6 7).toInt ∧ (V56 6 7).toInt ≤ 4000 from hMV56 6 7).2
          have hr65 : (V33 42 b).toInt + 1 < 8200 := by have h9 := cd61.1; omega
          have cd66 : CDc V56 b (emL (bgS gs) 2 [gT.2.1 (gs.1 0)] 0) := CDc.e2w cd61 e59 f60 hr65 (by decide) (by rw [ez49]; exact congrArg Int64.toInt32 (RelC.vl rel).symm)
          have rw67 : ROWL b L L34 := (fun k hk => ((axL34 44 k rfl).trans rfl))
          exact W.zret (v := z52) hx hb hr (nb_ok (by omega)) (fun t ht hW => ⟨⟨z52, (V56, L34), rfl, ⟨hMV56, agV56, alL34, (show 0 ≤ z52.toInt ∧ z52.toInt ≤ 1 from by first | exact om_1e6c034e3eac rgz52.1 rgz52.2 | first | omega | ((try (have i_hz49 := Imp.go hz49 (by omega))); omega)), (Or.inl ⟨(by omega), (emL (bgS gs) 2 [gT.2.1 (gs.1 0)] 0), hr40, rl64, keepS.le (keepS.tr (keepS.tr (keepS.tr (keepS.rf : keepS gs 0 gs) (keepS.n1 1)) (show keepS (nx gs 1) 0 (bgS gs) from keepS.em)) (show keepS (bgS gs) 0 (emL (bgS gs) 2 [gT.2.1 (gs.1 0)] 0) from keepS.em)) (by decide), (keepE.tr (keepE.tr (keepE.tr (keepE.rf : keepE gs gs) (show keepE gs (nx gs 1) from keepE.eq (show ∀ j9, 5 ≤ j9 → (nx gs 1).2.1 j9 = gs.2.1 j9 from fun _ _ => rfl))) (show keepE (nx gs 1) (bgS gs) from keepE.em)) (show keepE (bgS gs) (emL (bgS gs) 2 [gT.2.1 (gs.1 0)] 0) from keepE.em)), cd66, (by omega)⟩), rw67⟩, by rw [ht]; exact hP, va_K.moved hW.alike hK, hD⟩, hS.F ht⟩) hS.2.2 dX1_readPart_140
        have gq38 : ((V 6 9)).toInt ≠ 2 := b_neq rfl (by decide) q38
        by_cases q68 : (V 6 9) = 40
        · refine g_top (v := 40) q68 ?_
          have fq68 : ((V 6 9)).toInt = 40 := b_eq rfl (by decide) q68
          refine lv_lookup (x := 40) (off := 90) (tgt := 147) hx hb dX1_readPart_57 (by decide) (by decide) (by decide) ?_
          have hr69 : ∀ k, Rc gT (Crun gs (Ipart gd :: k)) (Crun gs (Ipart gd :: k)) := fun k => Rc.rf
          have hr70 : ∀ k, Rc gT (Crun gs (Ipart gd :: k)) (Crun (bgS gs) (Iexpr (gd + 1) :: Itake 41 :: k)) := fun k => Rc.go1 (hr69 k) (pw_40 gd h7 (by (first | exact om_436e3e958284 yd f11 | omega)) (kd20.trans fq68))
          have rl71 : RelC V33 L34 b gT (bgS gs) := RelC.em rl37
          have cd72 : CDc V b (nx gs 1) := CDc.mv cdq (show ∀ j9, j9 = 5 ∨ 2000 ≤ j9 → (nx gs 1).2.1 j9 = gs.2.1 j9 from fun j9 h9 => (show ∀ j9, 5 ≤ j9 → (nx gs 1).2.1 j9 = gs.2.1 j9 from fun _ _ => rfl) j9 (by omega))
          have wk73 : wl (nx gs 1) = wl gs ∧ (nx gs 1).1 0 = gs.1 0 + 1 := ⟨rfl, rfl⟩
          have wk74 : wl (bgS gs) = wl (nx gs 1) + 1 ∧ (bgS gs).1 0 = (nx gs 1).1 0 := ⟨(wl_em (nx gs 1) 1 _ _).trans (congrArg (fun q9 => wl (nx gs 1) + q9) (show szO 1 = 1 from by decide)), rfl⟩
          have ph75 : (((bgS gs).1 0 : Nat) : Int) ≤ 4000 := Int.le_trans (rl71).1.1 (show 0 ≤ (V33 6 7).toInt ∧ (V33 6 7).toInt ≤ 4000 from hMV33 6 7).2
          have hr76 : (V 42 b).toInt + 1 < 8200 := by have h9 := cd72.1; omega
          have cd77 : CDc V17 b (bgS gs) := CDc.e1 cd72 t16 (by (first | exact om_df3b24190af0 hr76 | omega)) (by decide) (by decide)
          refine lv_aload_n hx hb dX1_readPart_147 rfl (lv_at hl 2 rfl) ?_
          refine lv_iload_n hx hb dX1_readPart_148 rfl (lv_at hl 3 rfl) ?_
          refine lv_iconst (v := 1) hx hb dX1_readPart_149 (by decide) ?_
          refine lv_iadd hx hb dX1_readPart_150 ?_
          refine lv_topi (fun z78 ez78 => ?_)
          have hz78 : z78.toInt = p0.toInt + 1 := i_add ez78 rfl (by decide) (by (first | exact om_5ea63ae345c9 rg_p0.1 f11 | omega))
          have pq79 : (V33 1 1).toInt = ((V 1 1)).toInt := congrArg Int32.toInt ((ajV33 1 1 rfl).trans (ajV17 1 1 rfl))
          have cd80 : CDc V33 b (bgS gs) := CDc.ag cd77 (show agr [(6, 8), (6, 9), (6, 10)] [] V17 V33 from (agr.tr agr.rf ajV33 (by decide) (by decide))) (fun _ => rfl) (fun _ => rfl)
          refine gA_int (gA_runV (As := [.int z78]) (rest := []) (ci := 1) (q0 := 1) hx hb hml hown hg hP hD hK hS hA hnw hgk ((hk_x_readExpression3 d9 rfl) H.size ad kk V33 L34 Z z78 (b) (gT) ((bgS gs)) ((gd + 1)) hMV33 (by omega) (show b < 2 from by (first | exact om_f940a4667dd6 hb2 | omega)) (show (V33 1 1).toInt = (b : Int) from by (first | exact om_adf531c77a0d rbk pq79 | omega)) rl71 cd80 (show wl (bgS gs) ≤ 2 * (bgS gs).1 0 from by omega) (show z78.toInt = ((gd + 1) : Int) from by (first | exact om_a9904d4d2531 yd hz78 | omega)) (((congrArg Int32.toInt ((ajV33 1 4 rfl).trans (ajV17 1 4 rfl))).trans wh).trans (congrArg (fun n9 : Nat => (n9 : Int)) (((keepS.tr (keepS.tr (keepS.rf : keepS gs 0 gs) (keepS.n1 1)) (show keepS (nx gs 1) 0 (bgS gs) from keepS.em))).2.1 4 (by decide)).symm)) (fun h9 => by rw [((ajV33 1 2 rfl).trans (ajV17 1 2 rfl))]; exact ow ((congrArg Int32.toInt ((ajV33 1 4 rfl).trans (ajV17 1 4 rfl))).symm.trans h9)) (show 8 - z78.toInt ≤ ((d9 : Nat) : Int) from by (first | exact om_9ba137a38c23 y1 hz78 | omega))) w951 w953 w21 w162 w954 rfl xgReader hdV_yX1_readExpression ⟨(by show 10 * d9 + 9 + 1 ≤ 10 * (d9 + 1) + 6; (first | exact om_95337c57e59e | omega)), (by show 8 + (3 + 11) + (300 * d9 + 240) ≤ 300 * (d9 + 1) + 150; (first | exact om_07f7d67a3f8e | omega))⟩ rfl hl.1 rfl (Nat.le_of_ble_eq_true rfl) dX1_readPart_151 ⟨Nat.le_of_ble_eq_true rfl, Nat.le_of_ble_eq_true rfl⟩) hP hD hK hS hA (fun z81 u82 H locs w83 hP hD hK hS => ?_)
          obtain ⟨V86, L87⟩ := u82
          obtain ⟨hMV86, ajV86, axL87, rgz81, t84, t85⟩ := w83
          have alL87 : agL [6, 44] L L87 := agL.tr alL34 axL87 (by decide)
          have hP : va_P D vwCl (xw ad kk V86 L87 Z) H := hP
          have hD : va_D A (xw ad kk V86 L87 Z) := hD
          have hMV86 : rgd bX V86 := hMV86
          have ajV86 : agr [(1, 3), (1, 6), (1, 8), (6, 8), (6, 9), (6, 10)] [42, 43, 44, 48] V33 V86 := ajV86
          have agV86 : agr [(1, 3), (1, 6), (1, 8), (6, 8), (6, 9), (6, 10)] [42, 43, 44, 48] V V86 := agV33.tr ajV86 (by decide) (by decide)
          have rgz81 : 0 ≤ z81.toInt ∧ z81.toInt ≤ 1 := rgz81
          have t84 : Rd gT (bgS gs) (fun k => Iexpr (gd + 1) :: k) (fun k => k) z81.toInt (V86 1 3).toInt (fun s9 => RelC V86 L87 b gT s9 ∧ keepS (bgS gs) 1 s9 ∧ keepE (bgS gs) s9 ∧ CDc V86 b s9 ∧ wl s9 + 2 * (bgS gs).1 0 ≤ wl (bgS gs) + 2 * s9.1 0 + 1) := t84
          have t85 : ROWL b L34 L87 := t85
          rcases t84 with ⟨q88, sx89, h90, rl91, kp92, ke93, cd94, wd95⟩ | ⟨q88, h90⟩
          · skip
            have hr96 : ∀ k, Rc gT (Crun gs (Ipart gd :: k)) (Crun sx89 (Itake 41 :: k)) := fun k => (hr70 k).tr (h90 (Itake 41 :: k))
            refine lv_if_eq (tgt := 170) hx hb dX1_readPart_154 (by decide) (fun c97 => ?_) (fun c97 => ?_)
            · skip
              have f98 : z81.toInt = 0 := b_eq rfl (by decide) c97
              exfalso; omega
            · skip
              have f99 : z81.toInt ≠ 0 := b_neq rfl (by decide) c97
              refine lv_aload_n hx hb dX1_readPart_157 rfl (lv_at hl 2 rfl) ?_
              refine lv_bipush (v := 41) hx hb dX1_readPart_158 (by decide) ?_
              have r100 : Int32.toInt 41 = 41 := by decide
              refine gA_int (gA_runV (As := [.int 41]) (rest := []) (ci := 1) (q0 := 1) hx hb hml hown hg hP hD hK hS hA hnw hgk (x_take2 l D ks H.size ad kk V86 L87 Z 41 ((sx89.1 0)) hMV86 (rl91).1 (rl91).2.1.1 (show 1 ≤ (Int32.toInt 41) from by (first | exact om_ed40a8603357 r100 | omega))) w893 w895 w10 w162 w896 rfl xgReader hdV_yX1_take ⟨(by show 1 + 1 ≤ 10 * (d9 + 1) + 6; (first | exact om_e3c7341aa676 y1 f11 | omega)), (by show 8 + (2 + 11) + (21) ≤ 300 * (d9 + 1) + 150; (first | exact om_61eeeab683e9 y1 f11 | omega))⟩ rfl hl.1 rfl (Nat.le_of_ble_eq_true rfl) dX1_readPart_160 ⟨Nat.le_of_ble_eq_true rfl, Nat.le_of_ble_eq_true rfl⟩) hP hD hK hS hA (fun z101 u102 H locs w103 hP hD hK hS => ?_)
              obtain ⟨V106, L107⟩ := u102
              obtain ⟨hMV106, ajV106, axL107, rgz101, t104, t105⟩ := w103
              have alL107 : agL [6, 44] L L107 := agL.tr alL87 axL107 (by decide)
              have hP : va_P D vwCl (xw ad kk V106 L107 Z) H := hP
              have hD : va_D A (xw ad kk V106 L107 Z) := hD
              have hMV106 : rgd bX V106 := hMV106
              have ajV106 : agr [(1, 3), (6, 8), (6, 9), (6, 10)] [] V86 V106 := ajV106
              have agV106 : agr [(1, 3), (1, 6), (1, 8), (6, 8), (6, 9), (6, 10)] [42, 43, 44, 48] V V106 := agV86.tr ajV106 (by decide) (by decide)
              have rgz101 : 0 ≤ z101.toInt ∧ z101.toInt ≤ 1 := rgz101
              have t104 : Imp (z101.toInt = 0) (1 ≤ (V106 1 3).toInt) := t104
              have t105 : (z101.toInt = 1 ∧ (V86 12 (sx89.1 0)).toInt = (Int32.toInt 41) ∧ CUR V106 L107 ((sx89.1 0) + 1) ∧ V106 1 3 = V86 1 3) ∨ (z101.toInt = 0 ∧ (V86 12 (sx89.1 0)).toInt ≠ (Int32.toInt 41) ∧ (V106 1 3).toInt = 1 + 16 * (V86 13 (sx89.1 0)).toInt) := t105
              rcases t105 with ⟨q108, h109, k110, k111⟩ | ⟨q108, h109, k110⟩
              · skip
                have rl112 : RelC V106 L107 b gT (nx sx89 1) := RelC.nx1 rl91 ajV106 (by decide) axL107 (by decide) k110 k111
                have hr113 : ∀ k, Rc gT (Crun gs (Ipart gd :: k)) (Crun (nx sx89 1) (k)) := fun k => Rc.go1 (hr96 k) (tk_y (rl91.tok.1.trans (h109.trans (by decide))))
                refine lv_if_eq (tgt := 170) hx hb dX1_readPart_163 (by decide) (fun c114 => ?_) (fun c114 => ?_)
                · skip
                  have f115 : z101.toInt = 0 := b_eq rfl (by decide) c114
                  exfalso; first | exact om_495ee03a60ae q108 f115 | first | omega | ((try (have i_t104 := Imp.go t104 (by omega))); omega)
                · skip
                  have f116 : z101.toInt ≠ 0 := b_neq rfl (by decide) c114
                  refine lv_iconst (v := 1) hx hb dX1_readPart_166 (by decide) ?_
                  refine lv_goto (tgt := 171) hx hb dX1_readPart_167 (by decide) ?_
                  have cd117 : CDc V106 b sx89 := CDc.ag cd94 (show agr [(1, 3), (6, 8), (6, 9), (6, 10)] [] V86 V106 from (agr.tr agr.rf ajV106 (by decide) (by decide))) (fun _ => rfl) (fun _ => rfl)
                  have cd118 : CDc V106 b (nx sx89 1) := CDc.mv cd117 (show ∀ j9, j9 = 5 ∨ 2000 ≤ j9 → (nx sx89 1).2.1 j9 = sx89.2.1 j9 from fun j9 h9 => (show ∀ j9, 5 ≤ j9 → (nx sx89 1).2.1 j9 = sx89.2.1 j9 from fun _ _ => rfl) j9 (by omega))
                  have wk119 : wl sx89 + 2 * (bgS gs).1 0 ≤ wl (bgS gs) + 2 * sx89.1 0 + 1 ∧ (bgS gs).1 0 + 1 ≤ sx89.1 0 := ⟨wd95, (keepS.le kp92 (by decide)).1⟩
                  have wk120 : wl (nx sx89 1) = wl sx89 ∧ (nx sx89 1).1 0 = sx89.1 0 + 1 := ⟨rfl, rfl⟩
                  have rw121 : ROWL b L L107 := (fun k hk => ((axL107 44 k rfl).trans ((t85 k hk).trans ((axL34 44 k rfl).trans rfl))))
                  exact W.zret (v := 1) hx hb hr rfl (fun t ht hW => ⟨⟨1, (V106, L107), rfl, ⟨hMV106, agV106, alL107, (by decide), (Or.inl ⟨rfl, (nx sx89 1), hr113, rl112, keepS.le (keepS.tr (keepS.tr (keepS.tr (keepS.tr (keepS.rf : keepS gs 0 gs) (keepS.n1 1)) (show keepS (nx gs 1) 0 (bgS gs) from keepS.em)) kp92) (keepS.n1 1)) (by decide), (keepE.tr (keepE.tr (keepE.tr (keepE.tr (keepE.rf : keepE gs gs) (show keepE gs (nx gs 1) from keepE.eq (show ∀ j9, 5 ≤ j9 → (nx gs 1).2.1 j9 = gs.2.1 j9 from fun _ _ => rfl))) (show keepE (nx gs 1) (bgS gs) from keepE.em)) ke93) (show keepE sx89 (nx sx89 1) from keepE.eq (show ∀ j9, 5 ≤ j9 → (nx sx89 1).2.1 j9 = sx89.2.1 j9 from fun _ _ => rfl))), cd118, (by omega)⟩), rw121⟩, by rw [ht]; exact hP, va_K.moved hW.alike hK, hD⟩, hS.F ht⟩) hS.2.2 dX1_readPart_171
              · skip
                have hb122 : ∀ k, Rc gT (Crun gs (Ipart gd :: k)) (Cbad (V106 1 3).toInt) := fun k => Rc.go1 (hr96 k) ((tk_n (fun h9 => h109 (rl91.tok.1.symm.trans (h9.trans (by decide))))).trans (fl_eq rl91.tok.2.2 k110))
                refine lv_if_eq (tgt := 170) hx hb dX1_readPart_163 (by decide) (fun c123 => ?_) (fun c123 => ?_)
                · skip
                  have f124 : z101.toInt = 0 := b_eq rfl (by decide) c123
                  refine lv_iconst (v := 0) hx hb dX1_readPart_170 (by decide) ?_
                  have rw125 : ROWL b L L107 := (fun k hk => ((axL107 44 k rfl).trans ((t85 k hk).trans ((axL34 44 k rfl).trans rfl))))
                  exact W.zret (v := 0) hx hb hr rfl (fun t ht hW => ⟨⟨0, (V106, L107), rfl, ⟨hMV106, agV106, alL107, (by decide), (Or.inr ⟨rfl, hb122⟩), rw125⟩, by rw [ht]; exact hP, va_K.moved hW.alike hK, hD⟩, hS.F ht⟩) hS.2.2 dX1_readPart_171
                · skip
                  have f126 : z101.toInt ≠ 0 := b_neq rfl (by decide) c123
                  exfalso; first | exact om_fb320d7600b7 rgz101.1 q108 f126 | first | omega | ((try (have i_t104 := Imp.go t104 (by omega))); omega)
          · skip
            have hb127 : ∀ k, Rc gT (Crun gs (Ipart gd :: k)) (Cbad (V86 1 3).toInt) := fun k => (hr70 k).tr (h90 (Itake 41 :: k))
            refine lv_if_eq (tgt := 170) hx hb dX1_readPart_154 (by decide) (fun c128 => ?_) (fun c128 => ?_)
            · skip
              have f129 : z81.toInt = 0 := b_eq rfl (by decide) c128
              refine lv_iconst (v := 0) hx hb dX1_readPart_170 (by decide) ?_
              have rw130 : ROWL b L L87 := (fun k hk => ((t85 k hk).trans ((axL34 44 k rfl).trans rfl)))
              exact W.zret (v := 0) hx hb hr rfl (fun t ht hW => ⟨⟨0, (V86, L87), rfl, ⟨hMV86, agV86, alL87, (by decide), (Or.inr ⟨rfl, hb127⟩), rw130⟩, by rw [ht]; exact hP, va_K.moved hW.alike hK, hD⟩, hS.F ht⟩) hS.2.2 dX1_readPart_171
            · skip
              have f131 : z81.toInt ≠ 0 := b_neq rfl (by decide) c128
              exfalso; omega
        have gq68 : ((V 6 9)).toInt ≠ 40 := b_neq rfl (by decide) q68
        by_cases q132 : (V 6 9) = 45
        · refine g_top (v := 45) q132 ?_
          have fq132 : ((V 6 9)).toInt = 45 := b_eq rfl (by decide) q132
          refine lv_lookup (x := 45) (off := 115) (tgt := 172) hx hb dX1_readPart_57 (by decide) (by decide) (by decide) ?_
          have hr133 : ∀ k, Rc gT (Crun gs (Ipart gd :: k)) (Crun gs (Ipart gd :: k)) := fun k => Rc.rf
          have hr134 : ∀ k, Rc gT (Crun gs (Ipart gd :: k)) (Crun (bgS gs) (Ipart (gd + 1) :: Iem 4 :: k)) := fun k => Rc.go1 (hr133 k) (pw_45 gd h7 (by (first | exact om_436e3e958284 yd f11 | omega)) (kd20.trans fq132))
          have rl135 : RelC V33 L34 b gT (bgS gs) := RelC.em rl37
          have cd136 : CDc V b (nx gs 1) := CDc.mv cdq (show ∀ j9, j9 = 5 ∨ 2000 ≤ j9 → (nx gs 1).2.1 j9 = gs.2.1 j9 from fun j9 h9 => (show ∀ j9, 5 ≤ j9 → (nx gs 1).2.1 j9 = gs.2.1 j9 from fun _ _ => rfl) j9 (by omega))
          have wk137 : wl (nx gs 1) = wl gs ∧ (nx gs 1).1 0 = gs.1 0 + 1 := ⟨rfl, rfl⟩
          have wk138 : wl (bgS gs) = wl (nx gs 1) + 1 ∧ (bgS gs).1 0 = (nx gs 1).1 0 := ⟨(wl_em (nx gs 1) 1 _ _).trans (congrArg (fun q9 => wl (nx gs 1) + q9) (show szO 1 = 1 from by decide)), rfl⟩
          have ph139 : (((bgS gs).1 0 : Nat) : Int) ≤ 4000 := Int.le_trans (rl135).1.1 (show 0 ≤ (V33 6 7).toInt ∧ (V33 6 7).toInt ≤ 4000 from hMV33 6 7).2
          have hr140 : (V 42 b).toInt + 1 < 8200 := by have h9 := cd136.1; omega
          have cd141 : CDc V17 b (bgS gs) := CDc.e1 cd136 t16 (by (first | exact om_df3b24190af0 hr140 | omega)) (by decide) (by decide)
          refine lv_aload_n hx hb dX1_readPart_172 rfl (lv_at hl 2 rfl) ?_
          refine lv_iload_n hx hb dX1_readPart_173 rfl (lv_at hl 3 rfl) ?_
          refine lv_iconst (v := 1) hx hb dX1_readPart_174 (by decide) ?_
          refine lv_iadd hx hb dX1_readPart_175 ?_
          refine lv_topi (fun z142 ez142 => ?_)
          have hz142 : z142.toInt = p0.toInt + 1 := i_add ez142 rfl (by decide) (by (first | exact om_5ea63ae345c9 rg_p0.1 f11 | omega))
          have pq143 : (V33 1 1).toInt = ((V 1 1)).toInt := congrArg Int32.toInt ((ajV33 1 1 rfl).trans (ajV17 1 1 rfl))
          have cd144 : CDc V33 b (bgS gs) := CDc.ag cd141 (show agr [(6, 8), (6, 9), (6, 10)] [] V17 V33 from (agr.tr agr.rf ajV33 (by decide) (by decide))) (fun _ => rfl) (fun _ => rfl)
          refine gA_int (gA_runV (As := [.int z142]) (rest := []) (ci := 1) (q0 := 1) hx hb hml hown hg hP hD hK hS hA hnw hgk ((hk_x_readPart3 d9 rfl) H.size ad kk V33 L34 Z z142 (b) (gT) ((bgS gs)) ((gd + 1)) hMV33 (by omega) (show b < 2 from by (first | exact om_f940a4667dd6 hb2 | omega)) (show (V33 1 1).toInt = (b : Int) from by (first | exact om_adf531c77a0d rbk pq143 | omega)) rl135 cd144 (show wl (bgS gs) ≤ 2 * (bgS gs).1 0 from by omega) (show z142.toInt = ((gd + 1) : Int) from by (first | exact om_a9904d4d2531 yd hz142 | omega)) (((congrArg Int32.toInt ((ajV33 1 4 rfl).trans (ajV17 1 4 rfl))).trans wh).trans (congrArg (fun n9 : Nat => (n9 : Int)) (((keepS.tr (keepS.tr (keepS.rf : keepS gs 0 gs) (keepS.n1 1)) (show keepS (nx gs 1) 0 (bgS gs) from keepS.em))).2.1 4 (by decide)).symm)) (fun h9 => by rw [((ajV33 1 2 rfl).trans (ajV17 1 2 rfl))]; exact ow ((congrArg Int32.toInt ((ajV33 1 4 rfl).trans (ajV17 1 4 rfl))).symm.trans h9)) (show 8 - z142.toInt ≤ ((d9 : Nat) : Int) from by (first | exact om_9ba137a38c23 y1 hz142 | omega))) w963 w965 w24 w162 w966 rfl xgReader hdV_yX1_readPart ⟨(by show 10 * d9 + 6 + 1 ≤ 10 * (d9 + 1) + 6; (first | exact om_621f2e85265a | omega)), (by show 8 + (5 + 11) + (300 * d9 + 150) ≤ 300 * (d9 + 1) + 150; (first | exact om_2358b3635702 | omega))⟩ rfl hl.1 rfl (Nat.le_of_ble_eq_true rfl) dX1_readPart_176 ⟨Nat.le_of_ble_eq_true rfl, Nat.le_of_ble_eq_true rfl⟩) hP hD hK hS hA (fun z145 u146 H locs w147 hP hD hK hS => ?_)
          obtain ⟨V150, L151⟩ := u146
          obtain ⟨hMV150, ajV150, axL151, rgz145, t148, t149⟩ := w147
          have alL151 : agL [6, 44] L L151 := agL.tr alL34 axL151 (by decide)
          have hP : va_P D vwCl (xw ad kk V150 L151 Z) H := hP
          have hD : va_D A (xw ad kk V150 L151 Z) := hD
          have hMV150 : rgd bX V150 := hMV150
          have ajV150 : agr [(1, 3), (1, 6), (1, 8), (6, 8), (6, 9), (6, 10)] [42, 43, 44, 48] V33 V150 := ajV150
          have agV150 : agr [(1, 3), (1, 6), (1, 8), (6, 8), (6, 9), (6, 10)] [42, 43, 44, 48] V V150 := agV33.tr ajV150 (by decide) (by decide)
          have rgz145 : 0 ≤ z145.toInt ∧ z145.toInt ≤ 1 := rgz145
          have t148 : Rd gT (bgS gs) (fun k => Ipart (gd + 1) :: k) (fun k => k) z145.toInt (V150 1 3).toInt (fun s9 => RelC V150 L151 b gT s9 ∧ keepS (bgS gs) 1 s9 ∧ keepE (bgS gs) s9 ∧ CDc V150 b s9 ∧ wl s9 + 2 * (bgS gs).1 0 ≤ wl (bgS gs) + 2 * s9.1 0 + 1) := t148
          have t149 : ROWL b L34 L151 := t149
          rcases t148 with ⟨q152, sx153, h154, rl155, kp156, ke157, cd158, wd159⟩ | ⟨q152, h154⟩
          · skip
            have hr160 : ∀ k, Rc gT (Crun gs (Ipart gd :: k)) (Crun sx153 (Iem 4 :: k)) := fun k => (hr134 k).tr (h154 (Iem 4 :: k))
            refine lv_if_eq (tgt := 194) hx hb dX1_readPart_179 (by decide) (fun c161 => ?_) (fun c161 => ?_)
            · skip
              have f162 : z145.toInt = 0 := b_eq rfl (by decide) c161
              exfalso; omega
            · skip
              have f163 : z145.toInt ≠ 0 := b_neq rfl (by decide) c161
              refine lv_aload_n hx hb dX1_readPart_182 rfl (lv_at hl 2 rfl) ?_
              refine lv_iconst (v := 3) hx hb dX1_readPart_183 (by decide) ?_
              have r164 : Int32.toInt 3 = 3 := by decide
              have pq165 : (V150 1 1).toInt = ((V 1 1)).toInt := congrArg Int32.toInt ((ajV150 1 1 rfl).trans ((ajV33 1 1 rfl).trans (ajV17 1 1 rfl)))
              refine gA_int (gA_runV (As := [.int 3]) (rest := []) (ci := 1) (q0 := 1) hx hb hml hown hg hP hD hK hS hA hnw hgk (x_putAlone3 l D ks H.size ad kk V150 L151 Z 3 (b) hMV150 (show b < 2 from by (first | exact om_f940a4667dd6 hb2 | omega)) (show (V150 1 1).toInt = (b : Int) from by (first | exact om_adf531c77a0d rbk pq165 | omega))) w979 w981 w27 w162 w982 rfl xgReader hdV_yX1_putAlone ⟨(by show 1 + 1 ≤ 10 * (d9 + 1) + 6; (first | exact om_e3c7341aa676 y1 f11 | omega)), (by show 8 + (2 + 11) + (21) ≤ 300 * (d9 + 1) + 150; (first | exact om_61eeeab683e9 y1 f11 | omega))⟩ rfl hl.1 rfl (Nat.le_of_ble_eq_true rfl) dX1_readPart_184 ⟨Nat.le_of_ble_eq_true rfl, Nat.le_of_ble_eq_true rfl⟩) hP hD hK hS hA (fun z166 u167 H locs w168 hP hD hK hS => ?_)
              obtain ⟨V170, L171⟩ := u167
              obtain ⟨hMV170, ajV170, axL171, rgz166, t169⟩ := w168
              have axL171 : L151 = L171 := Eq.symm axL171
              subst axL171
              have hP : va_P D vwCl (xw ad kk V170 L151 Z) H := hP
              have hD : va_D A (xw ad kk V170 L151 Z) := hD
              have hMV170 : rgd bX V170 := hMV170
              have ajV170 : agr [] [42, 48] V150 V170 := ajV170
              have agV170 : agr [(1, 3), (1, 6), (1, 8), (6, 8), (6, 9), (6, 10)] [42, 43, 44, 48] V V170 := agV150.tr ajV170 (by decide) (by decide)
              have rgz166 : 1 ≤ z166.toInt ∧ z166.toInt ≤ 1 := rgz166
              have t169 : emX V150 V170 b 3 := t169
              have hr172 : ∀ k, Rc gT (Crun gs (Ipart gd :: k)) (Crun (emS sx153 4 0 0) (k)) := fun k => Rc.go1 (hr160 k) (m_em 4)
              have rl173 : RelC V170 L151 b gT sx153 := RelC.ag rl155 (show agr [] [42, 48] V150 V170 from (agr.tr agr.rf ajV170 (by decide) (by decide))) (by decide) (show agL [] L151 L151 from agL.rf) (by decide)
              have rl174 : RelC V170 L151 b gT (emS sx153 4 0 0) := RelC.em rl173
              have wk175 : wl sx153 + 2 * (bgS gs).1 0 ≤ wl (bgS gs) + 2 * sx153.1 0 + 1 ∧ (bgS gs).1 0 + 1 ≤ sx153.1 0 := ⟨wd159, (keepS.le kp156 (by decide)).1⟩
              have wk176 : wl (emS sx153 4 0 0) = wl sx153 + 1 ∧ (emS sx153 4 0 0).1 0 = sx153.1 0 := ⟨(wl_em sx153 4 _ _).trans (congrArg (fun q9 => wl sx153 + q9) (show szO 4 = 1 from by decide)), rfl⟩
              have ph177 : (((emS sx153 4 0 0).1 0 : Nat) : Int) ≤ 4000 := Int.le_trans (rl174).1.1 (show 0 ≤ (V170 6 7).toInt ∧ (V170 6 7).toInt ≤ 4000 from hMV170 6 7).2
              have hr178 : (V150 42 b).toInt + 1 < 8200 := by have h9 := cd158.1; omega
              have cd179 : CDc V170 b (emS sx153 4 0 0) := CDc.e1 cd158 t169 (by (first | exact om_df3b24190af0 hr178 | omega)) (by decide) (by decide)
              refine lv_if_eq (tgt := 194) hx hb dX1_readPart_187 (by decide) (fun c180 => ?_) (fun c180 => ?_)
              · skip
                have f181 : z166.toInt = 0 := b_eq rfl (by decide) c180
                exfalso; (first | exact om_09885ab343b9 rgz166.1 f181 | omega)
              · skip
                have f182 : z166.toInt ≠ 0 := b_neq rfl (by decide) c180
                refine lv_iconst (v := 1) hx hb dX1_readPart_190 (by decide) ?_
                refine lv_goto (tgt := 195) hx hb dX1_readPart_191 (by decide) ?_
                have rw183 : ROWL b L L151 := (fun k hk => ((t149 k hk).trans ((axL34 44 k rfl).trans rfl)))
                exact W.zret (v := 1) hx hb hr rfl (fun t ht hW => ⟨⟨1, (V170, L151), rfl, ⟨hMV170, agV170, alL151, (by decide), (Or.inl ⟨rfl, (emS sx153 4 0 0), hr172, rl174, keepS.le (keepS.tr (keepS.tr (keepS.tr (keepS.tr (keepS.rf : keepS gs 0 gs) (keepS.n1 1)) (show keepS (nx gs 1) 0 (bgS gs) from keepS.em)) kp156) (show keepS sx153 0 (emS sx153 4 0 0) from keepS.em)) (by decide), (keepE.tr (keepE.tr (keepE.tr (keepE.tr (keepE.rf : keepE gs gs) (show keepE gs (nx gs 1) from keepE.eq (show ∀ j9, 5 ≤ j9 → (nx gs 1).2.1 j9 = gs.2.1 j9 from fun _ _ => rfl))) (show keepE (nx gs 1) (bgS gs) from keepE.em)) ke157) (show keepE sx153 (emS sx153 4 0 0) from keepE.em)), cd179, (by omega)⟩), rw183⟩, by rw [ht]; exact hP, va_K.moved hW.alike hK, hD⟩, hS.F ht⟩) hS.2.2 dX1_readPart_195
          · skip
            have hb184 : ∀ k, Rc gT (Crun gs (Ipart gd :: k)) (Cbad (V150 1 3).toInt) := fun k => (hr134 k).tr (h154 (Iem 4 :: k))
            refine lv_if_eq (tgt := 194) hx hb dX1_readPart_179 (by decide) (fun c185 => ?_) (fun c185 => ?_)
            · skip
              have f186 : z145.toInt = 0 := b_eq rfl (by decide) c185
              refine lv_iconst (v := 0) hx hb dX1_readPart_194 (by decide) ?_
              have rw187 : ROWL b L L151 := (fun k hk => ((t149 k hk).trans ((axL34 44 k rfl).trans rfl)))
              exact W.zret (v := 0) hx hb hr rfl (fun t ht hW => ⟨⟨0, (V150, L151), rfl, ⟨hMV150, agV150, alL151, (by decide), (Or.inr ⟨rfl, hb184⟩), rw187⟩, by rw [ht]; exact hP, va_K.moved hW.alike hK, hD⟩, hS.F ht⟩) hS.2.2 dX1_readPart_195
            · skip
              have f188 : z145.toInt ≠ 0 := b_neq rfl (by decide) c185
              exfalso; omega
        have gq132 : ((V 6 9)).toInt ≠ 45 := b_neq rfl (by decide) q132
        by_cases q189 : (V 6 9) = 130
        · refine g_top (v := 130) q189 ?_
          have fq189 : ((V 6 9)).toInt = 130 := b_eq rfl (by decide) q189
          refine lv_lookup (x := 130) (off := 168) (tgt := 225) hx hb dX1_readPart_57 (by decide) (by decide) (by decide) ?_
          have hr190 : ∀ k, Rc gT (Crun gs (Ipart gd :: k)) (Crun gs (Ipart gd :: k)) := fun k => Rc.rf
          have hr191 : ∀ k, Rc gT (Crun gs (Ipart gd :: k)) (Crun (bgS gs) (Isetting :: k)) := fun k => Rc.go1 (hr190 k) (pw_130 gd h7 (by (first | exact om_436e3e958284 yd f11 | omega)) (kd20.trans fq189))
          have rl192 : RelC V33 L34 b gT (bgS gs) := RelC.em rl37
          have cd193 : CDc V b (nx gs 1) := CDc.mv cdq (show ∀ j9, j9 = 5 ∨ 2000 ≤ j9 → (nx gs 1).2.1 j9 = gs.2.1 j9 from fun j9 h9 => (show ∀ j9, 5 ≤ j9 → (nx gs 1).2.1 j9 = gs.2.1 j9 from fun _ _ => rfl) j9 (by omega))
          have wk194 : wl (nx gs 1) = wl gs ∧ (nx gs 1).1 0 = gs.1 0 + 1 := ⟨rfl, rfl⟩
          have wk195 : wl (bgS gs) = wl (nx gs 1) + 1 ∧ (bgS gs).1 0 = (nx gs 1).1 0 := ⟨(wl_em (nx gs 1) 1 _ _).trans (congrArg (fun q9 => wl (nx gs 1) + q9) (show szO 1 = 1 from by decide)), rfl⟩
          have ph196 : (((bgS gs).1 0 : Nat) : Int) ≤ 4000 := Int.le_trans (rl192).1.1 (show 0 ≤ (V33 6 7).toInt ∧ (V33 6 7).toInt ≤ 4000 from hMV33 6 7).2
          have hr197 : (V 42 b).toInt + 1 < 8200 := by have h9 := cd193.1; omega
          have cd198 : CDc V17 b (bgS gs) := CDc.e1 cd193 t16 (by (first | exact om_df3b24190af0 hr197 | omega)) (by decide) (by decide)
          refine lv_aload_n hx hb dX1_readPart_225 rfl (lv_at hl 2 rfl) ?_
          have pq199 : (V33 1 1).toInt = ((V 1 1)).toInt := congrArg Int32.toInt ((ajV33 1 1 rfl).trans (ajV17 1 1 rfl))
          refine gA_int (gA_runV (As := []) (rest := []) (ci := 1) (q0 := 1) hx hb hml hown hg hP hD hK hS hA hnw hgk (x_takeSetting3 l D ks H.size ad kk V33 L34 Z (b) (gT) ((bgS gs)) hMV33 (show b < 2 from by (first | exact om_f940a4667dd6 hb2 | omega)) (show (V33 1 1).toInt = (b : Int) from by (first | exact om_adf531c77a0d rbk pq199 | omega)) rl192) w931 w933 w17 w162 w934 rfl xgReader hdV_yX1_takeSetting ⟨(by show 1 + 1 ≤ 10 * (d9 + 1) + 6; (first | exact om_e3c7341aa676 y1 f11 | omega)), (by show 8 + (1 + 11) + (23) ≤ 300 * (d9 + 1) + 150; (first | exact om_1217c2952df0 y1 f11 | omega))⟩ rfl hl.1 rfl (Nat.le_of_ble_eq_true rfl) dX1_readPart_226 ⟨Nat.le_of_ble_eq_true rfl, Nat.le_of_ble_eq_true rfl⟩) hP hD hK hS hA (fun z200 u201 H locs w202 hP hD hK hS => ?_)
          obtain ⟨V204, L205⟩ := u201
          obtain ⟨hMV204, ajV204, axL205, rgz200, t203⟩ := w202
          have alL205 : agL [6, 44] L L205 := agL.tr alL34 axL205 (by decide)
          have hP : va_P D vwCl (xw ad kk V204 L205 Z) H := hP
          have hD : va_D A (xw ad kk V204 L205 Z) := hD
          have hMV204 : rgd bX V204 := hMV204
          have ajV204 : agr [(1, 3), (1, 6), (6, 8), (6, 9), (6, 10)] [] V33 V204 := ajV204
          have agV204 : agr [(1, 3), (1, 6), (1, 8), (6, 8), (6, 9), (6, 10)] [42, 43, 44, 48] V V204 := agV33.tr ajV204 (by decide) (by decide)
          have rgz200 : 0 ≤ z200.toInt ∧ z200.toInt ≤ 1 := rgz200
          have t203 : KcN (look gT (bgS gs) ((bgS gs).2.1 1)) z200.toInt (V204 1 3).toInt (fun f9 => RelC V204 L205 b gT (nx (bgS gs) 1) ∧ (V204 1 6).toInt = ((f9 : Nat) : Int) ∧ f9 < 12) := t203
          rcases t203 with ⟨q206, fx207, h208, rl209, hf210, hb211⟩ | ⟨q206, h208⟩
          · skip
            have hr212 : ∀ k, Rc gT (Crun gs (Ipart gd :: k)) (Crun (emS (nx (bgS gs) 1) 11 fx207 0) (k)) := fun k => Rc.go1 (hr191 k) (se_y h208)
            have rl213 : RelC V204 L205 b gT (emS (nx (bgS gs) 1) 11 fx207 0) := RelC.em rl209
            refine lv_if_eq (tgt := 249) hx hb dX1_readPart_229 (by decide) (fun c214 => ?_) (fun c214 => ?_)
            · skip
              have f215 : z200.toInt = 0 := b_eq rfl (by decide) c214
              exfalso; omega
            · skip
              have f216 : z200.toInt ≠ 0 := b_neq rfl (by decide) c214
              refine lv_aload_n hx hb dX1_readPart_232 rfl (lv_at hl 2 rfl) ?_
              refine lv_bipush (v := 11) hx hb dX1_readPart_233 (by decide) ?_
              refine lv_aload_n hx hb dX1_readPart_235 rfl (lv_at hl 2 rfl) ?_
              refine va_get (D := D) (ci := 1) (v := .int (V204 1 6)) (fs := (xfReader ad V204 L205 Z)) (C := RX1) (T := TX1) (N := 9) hx hb hg inX1 hown hK hP 1 xgReader rfl 6 (by decide) (hg _ w310) (fun _ h9 => h9) rfl dX1_readPart_236 ?_
              have r217 : (-1) ≤ ((V204 1 6)).toInt ∧ ((V204 1 6)).toInt ≤ 23 := hMV204 1 6
              have r218 : Int32.toInt 11 = 11 := by decide
              have pq219 : (V204 1 1).toInt = ((V 1 1)).toInt := congrArg Int32.toInt ((ajV204 1 1 rfl).trans ((ajV33 1 1 rfl).trans (ajV17 1 1 rfl)))
              refine gA_int (gA_runV (As := [.int 11, .int (V204 1 6)]) (rest := []) (ci := 1) (q0 := 1) hx hb hml hown hg hP hD hK hS hA hnw hgk (x_put3 l D ks H.size ad kk V204 L205 Z 11 (V204 1 6) (b) hMV204 (show b < 2 from by (first | exact om_f940a4667dd6 hb2 | omega)) (show (V204 1 1).toInt = (b : Int) from by (first | exact om_adf531c77a0d rbk pq219 | omega))) w975 w977 w26 w162 w978 rfl xgReader hdV_yX1_put ⟨(by show 1 + 1 ≤ 10 * (d9 + 1) + 6; (first | exact om_e3c7341aa676 y1 f11 | omega)), (by show 8 + (3 + 11) + (21) ≤ 300 * (d9 + 1) + 150; (first | exact om_7d30c2a65dcf y1 f11 | omega))⟩ rfl hl.1 rfl (Nat.le_of_ble_eq_true rfl) dX1_readPart_239 ⟨Nat.le_of_ble_eq_true rfl, Nat.le_of_ble_eq_true rfl⟩) hP hD hK hS hA (fun z220 u221 H locs w222 hP hD hK hS => ?_)
              obtain ⟨V224, L225⟩ := u221
              obtain ⟨hMV224, ajV224, axL225, rgz220, t223⟩ := w222
              have axL225 : L205 = L225 := Eq.symm axL225
              subst axL225
              have hP : va_P D vwCl (xw ad kk V224 L205 Z) H := hP
              have hD : va_D A (xw ad kk V224 L205 Z) := hD
              have hMV224 : rgd bX V224 := hMV224
              have ajV224 : agr [] [42, 48] V204 V224 := ajV224
              have agV224 : agr [(1, 3), (1, 6), (1, 8), (6, 8), (6, 9), (6, 10)] [42, 43, 44, 48] V V224 := agV204.tr ajV224 (by decide) (by decide)
              have rgz220 : 1 ≤ z220.toInt ∧ z220.toInt ≤ 1 := rgz220
              have t223 : (∃ U9 : Vf, emX V204 U9 b 11 ∧ emX U9 V224 b (V204 1 6)) := t223
              obtain ⟨U226, e227, f228⟩ := t223
              have cd229 : CDc V204 b (bgS gs) := CDc.ag cd198 (show agr [(1, 3), (1, 6), (6, 8), (6, 9), (6, 10)] [] V17 V204 from (agr.tr (agr.tr agr.rf ajV33 (by decide) (by decide)) ajV204 (by decide) (by decide))) (fun _ => rfl) (fun _ => rfl)
              have cd230 : CDc V204 b (nx (bgS gs) 1) := CDc.mv cd229 (show ∀ j9, j9 = 5 ∨ 2000 ≤ j9 → (nx (bgS gs) 1).2.1 j9 = (bgS gs).2.1 j9 from fun j9 h9 => (show ∀ j9, 5 ≤ j9 → (nx (bgS gs) 1).2.1 j9 = (bgS gs).2.1 j9 from fun _ _ => rfl) j9 (by omega))
              have wk231 : wl (nx (bgS gs) 1) = wl (bgS gs) ∧ (nx (bgS gs) 1).1 0 = (bgS gs).1 0 + 1 := ⟨rfl, rfl⟩
              have wk232 : wl (emS (nx (bgS gs) 1) 11 fx207 0) = wl (nx (bgS gs) 1) + 2 ∧ (emS (nx (bgS gs) 1) 11 fx207 0).1 0 = (nx (bgS gs) 1).1 0 := ⟨(wl_em (nx (bgS gs) 1) 11 _ _).trans (congrArg (fun q9 => wl (nx (bgS gs) 1) + q9) (show szO 11 = 2 from by decide)), rfl⟩
              have rl234 : RelC V224 L205 b gT (emS (nx (bgS gs) 1) 11 fx207 0) := RelC.ag rl213 (show agr [] [42, 48] V204 V224 from (agr.tr agr.rf ajV224 (by decide) (by decide))) (by decide) (show agL [] L205 L205 from agL.rf) (by decide)
              have ph233 : (((emS (nx (bgS gs) 1) 11 fx207 0).1 0 : Nat) : Int) ≤ 4000 := Int.le_trans (rl234).1.1 (show 0 ≤ (V224 6 7).toInt ∧ (V224 6 7).toInt ≤ 4000 from hMV224 6 7).2
              have hr235 : (V204 42 b).toInt + 1 < 8200 := by have h9 := cd230.1; omega
              have cd236 : CDc V224 b (emS (nx (bgS gs) 1) 11 fx207 0) := CDc.e2a cd230 e227 f228 hr235 (by decide) (by decide) (by decide) (by decide) (show ((V204 1 6)).toInt = ((fx207 : Nat) : Int) from by omega) (fun h9 => by omega)
              refine lv_if_eq (tgt := 249) hx hb dX1_readPart_242 (by decide) (fun c237 => ?_) (fun c237 => ?_)
              · skip
                have f238 : z220.toInt = 0 := b_eq rfl (by decide) c237
                exfalso; (first | exact om_09885ab343b9 rgz220.1 f238 | omega)
              · skip
                have f239 : z220.toInt ≠ 0 := b_neq rfl (by decide) c237
                refine lv_iconst (v := 1) hx hb dX1_readPart_245 (by decide) ?_
                refine lv_goto (tgt := 250) hx hb dX1_readPart_246 (by decide) ?_
                have rw240 : ROWL b L L205 := (fun k hk => ((axL205 44 k rfl).trans ((axL34 44 k rfl).trans rfl)))
                exact W.zret (v := 1) hx hb hr rfl (fun t ht hW => ⟨⟨1, (V224, L205), rfl, ⟨hMV224, agV224, alL205, (by decide), (Or.inl ⟨rfl, (emS (nx (bgS gs) 1) 11 fx207 0), hr212, rl234, keepS.le (keepS.tr (keepS.tr (keepS.tr (keepS.tr (keepS.rf : keepS gs 0 gs) (keepS.n1 1)) (show keepS (nx gs 1) 0 (bgS gs) from keepS.em)) (keepS.n1 1)) (show keepS (nx (bgS gs) 1) 0 (emS (nx (bgS gs) 1) 11 fx207 0) from keepS.em)) (by decide), (keepE.tr (keepE.tr (keepE.tr (keepE.tr (keepE.rf : keepE gs gs) (show keepE gs (nx gs 1) from keepE.eq (show ∀ j9, 5 ≤ j9 → (nx gs 1).2.1 j9 = gs.2.1 j9 from fun _ _ => rfl))) (show keepE (nx gs 1) (bgS gs) from keepE.em)) (show keepE (bgS gs) (nx (bgS gs) 1) from keepE.eq (show ∀ j9, 5 ≤ j9 → (nx (bgS gs) 1).2.1 j9 = (bgS gs).2.1 j9 from fun _ _ => rfl))) (show keepE (nx (bgS gs) 1) (emS (nx (bgS gs) 1) 11 fx207 0) from keepE.em)), cd236, (by omega)⟩), rw240⟩, by rw [ht]; exact hP, va_K.moved hW.alike hK, hD⟩, hS.F ht⟩) hS.2.2 dX1_readPart_250
          · skip
            have hb241 : ∀ k, Rc gT (Crun gs (Ipart gd :: k)) (Cbad (V204 1 3).toInt) := fun k => Rc.go1 (hr191 k) (se_b h208)
            refine lv_if_eq (tgt := 249) hx hb dX1_readPart_229 (by decide) (fun c242 => ?_) (fun c242 => ?_)
            · skip
              have f243 : z200.toInt = 0 := b_eq rfl (by decide) c242
              refine lv_iconst (v := 0) hx hb dX1_readPart_249 (by decide) ?_
              have rw244 : ROWL b L L205 := (fun k hk => ((axL205 44 k rfl).trans ((axL34 44 k rfl).trans rfl)))
              exact W.zret (v := 0) hx hb hr rfl (fun t ht hW => ⟨⟨0, (V204, L205), rfl, ⟨hMV204, agV204, alL205, (by decide), (Or.inr ⟨rfl, hb241⟩), rw244⟩, by rw [ht]; exact hP, va_K.moved hW.alike hK, hD⟩, hS.F ht⟩) hS.2.2 dX1_readPart_250
            · skip
              have f245 : z200.toInt ≠ 0 := b_neq rfl (by decide) c242
              exfalso; omega
        have gq189 : ((V 6 9)).toInt ≠ 130 := b_neq rfl (by decide) q189
        by_cases q246 : (V 6 9) = 143
        · refine g_top (v := 143) q246 ?_
          have fq246 : ((V 6 9)).toInt = 143 := b_eq rfl (by decide) q246
          refine lv_lookup (x := 143) (off := 84) (tgt := 141) hx hb dX1_readPart_57 (by decide) (by decide) (by decide) ?_
          have hr247 : ∀ k, Rc gT (Crun gs (Ipart gd :: k)) (Crun gs (Ipart gd :: k)) := fun k => Rc.rf
          have hr248 : ∀ k, Rc gT (Crun gs (Ipart gd :: k)) (Crun (bgS gs) (Iem 3 :: k)) := fun k => Rc.go1 (hr247 k) (pw_143 gd h7 (by (first | exact om_436e3e958284 yd f11 | omega)) (kd20.trans fq246))
          have rl249 : RelC V33 L34 b gT (bgS gs) := RelC.em rl37
          have cd250 : CDc V b (nx gs 1) := CDc.mv cdq (show ∀ j9, j9 = 5 ∨ 2000 ≤ j9 → (nx gs 1).2.1 j9 = gs.2.1 j9 from fun j9 h9 => (show ∀ j9, 5 ≤ j9 → (nx gs 1).2.1 j9 = gs.2.1 j9 from fun _ _ => rfl) j9 (by omega))
          have wk251 : wl (nx gs 1) = wl gs ∧ (nx gs 1).1 0 = gs.1 0 + 1 := ⟨rfl, rfl⟩
          have wk252 : wl (bgS gs) = wl (nx gs 1) + 1 ∧ (bgS gs).1 0 = (nx gs 1).1 0 := ⟨(wl_em (nx gs 1) 1 _ _).trans (congrArg (fun q9 => wl (nx gs 1) + q9) (show szO 1 = 1 from by decide)), rfl⟩
          have ph253 : (((bgS gs).1 0 : Nat) : Int) ≤ 4000 := Int.le_trans (rl249).1.1 (show 0 ≤ (V33 6 7).toInt ∧ (V33 6 7).toInt ≤ 4000 from hMV33 6 7).2
          have hr254 : (V 42 b).toInt + 1 < 8200 := by have h9 := cd250.1; omega
          have cd255 : CDc V17 b (bgS gs) := CDc.e1 cd250 t16 (by (first | exact om_df3b24190af0 hr254 | omega)) (by decide) (by decide)
          refine lv_aload_n hx hb dX1_readPart_141 rfl (lv_at hl 2 rfl) ?_
          refine lv_iconst (v := 2) hx hb dX1_readPart_142 (by decide) ?_
          have r256 : Int32.toInt 2 = 2 := by decide
          have pq257 : (V33 1 1).toInt = ((V 1 1)).toInt := congrArg Int32.toInt ((ajV33 1 1 rfl).trans (ajV17 1 1 rfl))
          refine gA_int (gA_runV (As := [.int 2]) (rest := []) (ci := 1) (q0 := 1) hx hb hml hown hg hP hD hK hS hA hnw hgk (x_putAlone3 l D ks H.size ad kk V33 L34 Z 2 (b) hMV33 (show b < 2 from by (first | exact om_f940a4667dd6 hb2 | omega)) (show (V33 1 1).toInt = (b : Int) from by (first | exact om_adf531c77a0d rbk pq257 | omega))) w979 w981 w27 w162 w982 rfl xgReader hdV_yX1_putAlone ⟨(by show 1 + 1 ≤ 10 * (d9 + 1) + 6; (first | exact om_e3c7341aa676 y1 f11 | omega)), (by show 8 + (2 + 11) + (21) ≤ 300 * (d9 + 1) + 150; (first | exact om_61eeeab683e9 y1 f11 | omega))⟩ rfl hl.1 rfl (Nat.le_of_ble_eq_true rfl) dX1_readPart_143 ⟨Nat.le_of_ble_eq_true rfl, Nat.le_of_ble_eq_true rfl⟩) hP hD hK hS hA (fun z258 u259 H locs w260 hP hD hK hS => ?_)
          obtain ⟨V262, L263⟩ := u259
          obtain ⟨hMV262, ajV262, axL263, rgz258, t261⟩ := w260
          have axL263 : L34 = L263 := Eq.symm axL263
          subst axL263
          have hP : va_P D vwCl (xw ad kk V262 L34 Z) H := hP
          have hD : va_D A (xw ad kk V262 L34 Z) := hD
          have hMV262 : rgd bX V262 := hMV262
          have ajV262 : agr [] [42, 48] V33 V262 := ajV262
          have agV262 : agr [(1, 3), (1, 6), (1, 8), (6, 8), (6, 9), (6, 10)] [42, 43, 44, 48] V V262 := agV33.tr ajV262 (by decide) (by decide)
          have rgz258 : 1 ≤ z258.toInt ∧ z258.toInt ≤ 1 := rgz258
          have t261 : emX V33 V262 b 2 := t261
          have hr264 : ∀ k, Rc gT (Crun gs (Ipart gd :: k)) (Crun (emS (bgS gs) 3 0 0) (k)) := fun k => Rc.go1 (hr248 k) (m_em 3)
          have rl265 : RelC V262 L34 b gT (bgS gs) := RelC.ag rl249 (show agr [] [42, 48] V33 V262 from (agr.tr agr.rf ajV262 (by decide) (by decide))) (by decide) (show agL [] L34 L34 from agL.rf) (by decide)
          have rl266 : RelC V262 L34 b gT (emS (bgS gs) 3 0 0) := RelC.em rl265
          have cd267 : CDc V33 b (bgS gs) := CDc.ag cd255 (show agr [(6, 8), (6, 9), (6, 10)] [] V17 V33 from (agr.tr agr.rf ajV33 (by decide) (by decide))) (fun _ => rfl) (fun _ => rfl)
          have wk268 : wl (emS (bgS gs) 3 0 0) = wl (bgS gs) + 1 ∧ (emS (bgS gs) 3 0 0).1 0 = (bgS gs).1 0 := ⟨(wl_em (bgS gs) 3 _ _).trans (congrArg (fun q9 => wl (bgS gs) + q9) (show szO 3 = 1 from by decide)), rfl⟩
          have ph269 : (((emS (bgS gs) 3 0 0).1 0 : Nat) : Int) ≤ 4000 := Int.le_trans (rl266).1.1 (show 0 ≤ (V262 6 7).toInt ∧ (V262 6 7).toInt ≤ 4000 from hMV262 6 7).2
          have hr270 : (V33 42 b).toInt + 1 < 8200 := by have h9 := cd267.1; omega
          have cd271 : CDc V262 b (emS (bgS gs) 3 0 0) := CDc.e1 cd267 t261 (by (first | exact om_df3b24190af0 hr270 | omega)) (by decide) (by decide)
          have rw272 : ROWL b L L34 := (fun k hk => ((axL34 44 k rfl).trans rfl))
          exact W.zret (v := z258) hx hb hr (nb_ok (by omega)) (fun t ht hW => ⟨⟨z258, (V262, L34), rfl, ⟨hMV262, agV262, alL34, (show 0 ≤ z258.toInt ∧ z258.toInt ≤ 1 from by (first | exact om_1e6c034e3eac rgz258.1 rgz258.2 | omega)), (Or.inl ⟨(by omega), (emS (bgS gs) 3 0 0), hr264, rl266, keepS.le (keepS.tr (keepS.tr (keepS.tr (keepS.rf : keepS gs 0 gs) (keepS.n1 1)) (show keepS (nx gs 1) 0 (bgS gs) from keepS.em)) (show keepS (bgS gs) 0 (emS (bgS gs) 3 0 0) from keepS.em)) (by decide), (keepE.tr (keepE.tr (keepE.tr (keepE.rf : keepE gs gs) (show keepE gs (nx gs 1) from keepE.eq (show ∀ j9, 5 ≤ j9 → (nx gs 1).2.1 j9 = gs.2.1 j9 from fun _ _ => rfl))) (show keepE (nx gs 1) (bgS gs) from keepE.em)) (show keepE (bgS gs) (emS (bgS gs) 3 0 0) from keepE.em)), cd271, (by omega)⟩), rw272⟩, by rw [ht]; exact hP, va_K.moved hW.alike hK, hD⟩, hS.F ht⟩) hS.2.2 dX1_readPart_146
        have gq246 : ((V 6 9)).toInt ≠ 143 := b_neq rfl (by decide) q246
        by_cases q273 : (V 6 9) = 144
        · refine g_top (v := 144) q273 ?_
          have fq273 : ((V 6 9)).toInt = 144 := b_eq rfl (by decide) q273
          refine lv_lookup (x := 144) (off := 139) (tgt := 196) hx hb dX1_readPart_57 (by decide) (by decide) (by decide) ?_
          have hr274 : ∀ k, Rc gT (Crun gs (Ipart gd :: k)) (Crun gs (Ipart gd :: k)) := fun k => Rc.rf
          have hr275 : ∀ k, Rc gT (Crun gs (Ipart gd :: k)) (Crun (bgS gs) (IfailN :: k)) := fun k => Rc.go1 (hr274 k) (pw_144 gd h7 (by (first | exact om_436e3e958284 yd f11 | omega)) (kd20.trans fq273))
          have rl276 : RelC V33 L34 b gT (bgS gs) := RelC.em rl37
          have cd277 : CDc V b (nx gs 1) := CDc.mv cdq (show ∀ j9, j9 = 5 ∨ 2000 ≤ j9 → (nx gs 1).2.1 j9 = gs.2.1 j9 from fun j9 h9 => (show ∀ j9, 5 ≤ j9 → (nx gs 1).2.1 j9 = gs.2.1 j9 from fun _ _ => rfl) j9 (by omega))
          have wk278 : wl (nx gs 1) = wl gs ∧ (nx gs 1).1 0 = gs.1 0 + 1 := ⟨rfl, rfl⟩
          have wk279 : wl (bgS gs) = wl (nx gs 1) + 1 ∧ (bgS gs).1 0 = (nx gs 1).1 0 := ⟨(wl_em (nx gs 1) 1 _ _).trans (congrArg (fun q9 => wl (nx gs 1) + q9) (show szO 1 = 1 from by decide)), rfl⟩
          have ph280 : (((bgS gs).1 0 : Nat) : Int) ≤ 4000 := Int.le_trans (rl276).1.1 (show 0 ≤ (V33 6 7).toInt ∧ (V33 6 7).toInt ≤ 4000 from hMV33 6 7).2
          have hr281 : (V 42 b).toInt + 1 < 8200 := by have h9 := cd277.1; omega
          have cd282 : CDc V17 b (bgS gs) := CDc.e1 cd277 t16 (by (first | exact om_df3b24190af0 hr281 | omega)) (by decide) (by decide)
          refine lv_aload_n hx hb dX1_readPart_196 rfl (lv_at hl 2 rfl) ?_
          refine lv_iconst (v := 1) hx hb dX1_readPart_197 (by decide) ?_
          refine lv_bipush (v := 9) hx hb dX1_readPart_198 (by decide) ?_
          have r283 : Int32.toInt 9 = 9 := by decide
          refine gA_int (gA_runV (As := [.int 1, .int 9]) (rest := []) (ci := 1) (q0 := 1) hx hb hml hown hg hP hD hK hS hA hnw hgk (x_takeNumber2 l D ks H.size ad kk V33 L34 Z 1 9 (((bgS gs).1 0)) hMV33 (rl276).1 (rl276).2.1.1 (show 0 ≤ (Int32.toInt 1) from by (first | exact om_7e0a6aec7ca5 r12 | omega)) (show (Int32.toInt 9) ≤ 999999999 from by (first | exact om_e577f9a5b80c r283 | omega))) w906 w908 w12 w162 w909 rfl xgReader hdV_yX1_takeNumber ⟨(by show 1 + 1 ≤ 10 * (d9 + 1) + 6; (first | exact om_e3c7341aa676 y1 f11 | omega)), (by show 8 + (3 + 11) + (21) ≤ 300 * (d9 + 1) + 150; (first | exact om_7d30c2a65dcf y1 f11 | omega))⟩ rfl hl.1 rfl (Nat.le_of_ble_eq_true rfl) dX1_readPart_200 ⟨Nat.le_of_ble_eq_true rfl, Nat.le_of_ble_eq_true rfl⟩) hP hD hK hS hA (fun z284 u285 H locs w286 hP hD hK hS => ?_)
          obtain ⟨V290, L291⟩ := u285
          obtain ⟨hMV290, ajV290, axL291, rgz284, t287, t288, t289⟩ := w286
          have alL291 : agL [6, 44] L L291 := agL.tr alL34 axL291 (by decide)
          have hP : va_P D vwCl (xw ad kk V290 L291 Z) H := hP
          have hD : va_D A (xw ad kk V290 L291 Z) := hD
          have hMV290 : rgd bX V290 := hMV290
          have ajV290 : agr [(1, 3), (1, 8), (6, 8), (6, 9), (6, 10)] [] V33 V290 := ajV290
          have agV290 : agr [(1, 3), (1, 6), (1, 8), (6, 8), (6, 9), (6, 10)] [42, 43, 44, 48] V V290 := agV33.tr ajV290 (by decide) (by decide)
          have rgz284 : 0 ≤ z284.toInt ∧ z284.toInt ≤ 1 := rgz284
          have t287 : Imp (z284.toInt = 1) ((Int32.toInt 1) ≤ (V290 1 8).toInt ∧ (V290 1 8).toInt ≤ (Int32.toInt 9)) := t287
          have t288 : Imp (z284.toInt = 0) (1 ≤ (V290 1 3).toInt) := t288
          have t289 : (z284.toInt = 1 ∧ (V33 12 ((bgS gs).1 0)).toInt = 2 ∧ (Int32.toInt 1) ≤ (L34 14 ((bgS gs).1 0)).toInt ∧ (L34 14 ((bgS gs).1 0)).toInt ≤ (Int32.toInt 9) ∧ CUR V290 L291 (((bgS gs).1 0) + 1) ∧ (V290 1 8).toInt = (L34 14 ((bgS gs).1 0)).toInt ∧ V290 1 3 = V33 1 3) ∨ (z284.toInt = 0 ∧ (((V33 12 ((bgS gs).1 0)).toInt ≠ 2 ∧ (V290 1 3).toInt = 1 + 16 * (V33 13 ((bgS gs).1 0)).toInt) ∨ ((V33 12 ((bgS gs).1 0)).toInt = 2 ∧ ((L34 14 ((bgS gs).1 0)).toInt < (Int32.toInt 1) ∨ (Int32.toInt 9) < (L34 14 ((bgS gs).1 0)).toInt) ∧ (V290 1 3).toInt = 4 + 16 * (V33 13 ((bgS gs).1 0)).toInt))) := t289
          have r292 : 0 ≤ ((V290 1 8)).toInt ∧ ((V290 1 8)).toInt ≤ 999999999 := hMV290 1 8
          have nv300 := congrArg Int64.toInt rl276.tok.2.1
          rcases t289 with ⟨q293, h294, h295, h296, k297, k298, k299⟩ | ⟨q293, ⟨h294, k297⟩ | ⟨h294, h295, k297⟩⟩
          · skip
            have rl301 : RelC V290 L291 b gT (nx (bgS gs) 1) := RelC.nx1 rl276 ajV290 (by decide) axL291 (by decide) k297 k299
            have hr302 : ∀ k, Rc gT (Crun gs (Ipart gd :: k)) (Crun (emS (nx (bgS gs) 1) 10 ((gT.2.1 ((bgS gs).1 0)).toInt.toNat) 0) (k)) := fun k => Rc.go1 (hr275 k) (vf_y (rl276.tok.1.trans h294) (by omega) (by omega))
            have rl303 : RelC V290 L291 b gT (emS (nx (bgS gs) 1) 10 ((gT.2.1 ((bgS gs).1 0)).toInt.toNat) 0) := RelC.em rl301
            have nq304 : (V290 1 8).toInt = (((gT.2.1 ((bgS gs).1 0)).toInt.toNat : Nat) : Int) := by omega
            refine lv_if_eq (tgt := 223) hx hb dX1_readPart_203 (by decide) (fun c305 => ?_) (fun c305 => ?_)
            · skip
              have f306 : z284.toInt = 0 := b_eq rfl (by decide) c305
              exfalso; first | exact om_495ee03a60ae q293 f306 | first | omega | ((try (have i_t288 := Imp.go t288 (by omega))); (try (have i_t287 := Imp.go t287 (by omega))); (try (have i_t287 := Imp.go t287 (by omega))); (try (have i_t288 := Imp.go t288 (by omega))); omega)
            · skip
              have f307 : z284.toInt ≠ 0 := b_neq rfl (by decide) c305
              refine lv_aload_n hx hb dX1_readPart_206 rfl (lv_at hl 2 rfl) ?_
              refine lv_bipush (v := 12) hx hb dX1_readPart_207 (by decide) ?_
              refine lv_aload_n hx hb dX1_readPart_209 rfl (lv_at hl 2 rfl) ?_
              refine va_get (D := D) (ci := 1) (v := .int (V290 1 8)) (fs := (xfReader ad V290 L291 Z)) (C := RX1) (T := TX1) (N := 9) hx hb hg inX1 hown hK hP 1 xgReader rfl 8 (by decide) (hg _ w312) (fun _ h9 => h9) rfl dX1_readPart_210 ?_
              have r308 : Int32.toInt 12 = 12 := by decide
              have pq309 : (V290 1 1).toInt = ((V 1 1)).toInt := congrArg Int32.toInt ((ajV290 1 1 rfl).trans ((ajV33 1 1 rfl).trans (ajV17 1 1 rfl)))
              refine gA_int (gA_runV (As := [.int 12, .int (V290 1 8)]) (rest := []) (ci := 1) (q0 := 1) hx hb hml hown hg hP hD hK hS hA hnw hgk (x_put3 l D ks H.size ad kk V290 L291 Z 12 (V290 1 8) (b) hMV290 (show b < 2 from by first | exact om_f940a4667dd6 hb2 | first | omega | ((try (have i_t288 := Imp.go t288 (by omega))); (try (have i_t287 := Imp.go t287 (by omega))); (try (have i_t287 := Imp.go t287 (by omega))); (try (have i_t288 := Imp.go t288 (by omega))); omega)) (show (V290 1 1).toInt = (b : Int) from by first | exact om_adf531c77a0d rbk pq309 | first | omega | ((try (have i_t288 := Imp.go t288 (by omega))); (try (have i_t287 := Imp.go t287 (by omega))); (try (have i_t287 := Imp.go t287 (by omega))); (try (have i_t288 := Imp.go t288 (by omega))); omega))) w975 w977 w26 w162 w978 rfl xgReader hdV_yX1_put ⟨(by show 1 + 1 ≤ 10 * (d9 + 1) + 6; (first | exact om_e3c7341aa676 y1 f11 | omega)), (by show 8 + (3 + 11) + (21) ≤ 300 * (d9 + 1) + 150; (first | exact om_7d30c2a65dcf y1 f11 | omega))⟩ rfl hl.1 rfl (Nat.le_of_ble_eq_true rfl) dX1_readPart_213 ⟨Nat.le_of_ble_eq_true rfl, Nat.le_of_ble_eq_true rfl⟩) hP hD hK hS hA (fun z310 u311 H locs w312 hP hD hK hS => ?_)
              obtain ⟨V314, L315⟩ := u311
              obtain ⟨hMV314, ajV314, axL315, rgz310, t313⟩ := w312
              have axL315 : L291 = L315 := Eq.symm axL315
              subst axL315
              have hP : va_P D vwCl (xw ad kk V314 L291 Z) H := hP
              have hD : va_D A (xw ad kk V314 L291 Z) := hD
              have hMV314 : rgd bX V314 := hMV314
              have ajV314 : agr [] [42, 48] V290 V314 := ajV314
              have agV314 : agr [(1, 3), (1, 6), (1, 8), (6, 8), (6, 9), (6, 10)] [42, 43, 44, 48] V V314 := agV290.tr ajV314 (by decide) (by decide)
              have rgz310 : 1 ≤ z310.toInt ∧ z310.toInt ≤ 1 := rgz310
              have t313 : (∃ U9 : Vf, emX V290 U9 b 12 ∧ emX U9 V314 b (V290 1 8)) := t313
              obtain ⟨U316, e317, f318⟩ := t313
              have cd319 : CDc V290 b (bgS gs) := CDc.ag cd282 (show agr [(1, 3), (1, 8), (6, 8), (6, 9), (6, 10)] [] V17 V290 from (agr.tr (agr.tr agr.rf ajV33 (by decide) (by decide)) ajV290 (by decide) (by decide))) (fun _ => rfl) (fun _ => rfl)
              have cd320 : CDc V290 b (nx (bgS gs) 1) := CDc.mv cd319 (show ∀ j9, j9 = 5 ∨ 2000 ≤ j9 → (nx (bgS gs) 1).2.1 j9 = (bgS gs).2.1 j9 from fun j9 h9 => (show ∀ j9, 5 ≤ j9 → (nx (bgS gs) 1).2.1 j9 = (bgS gs).2.1 j9 from fun _ _ => rfl) j9 (by omega))
              have wk321 : wl (nx (bgS gs) 1) = wl (bgS gs) ∧ (nx (bgS gs) 1).1 0 = (bgS gs).1 0 + 1 := ⟨rfl, rfl⟩
              have wk322 : wl (emS (nx (bgS gs) 1) 10 ((gT.2.1 ((bgS gs).1 0)).toInt.toNat) 0) = wl (nx (bgS gs) 1) + 2 ∧ (emS (nx (bgS gs) 1) 10 ((gT.2.1 ((bgS gs).1 0)).toInt.toNat) 0).1 0 = (nx (bgS gs) 1).1 0 := ⟨(wl_em (nx (bgS gs) 1) 10 _ _).trans (congrArg (fun q9 => wl (nx (bgS gs) 1) + q9) (show szO 10 = 2 from by decide)), rfl⟩
              have rl324 : RelC V314 L291 b gT (emS (nx (bgS gs) 1) 10 ((gT.2.1 ((bgS gs).1 0)).toInt.toNat) 0) := RelC.ag rl303 (show agr [] [42, 48] V290 V314 from (agr.tr agr.rf ajV314 (by decide) (by decide))) (by decide) (show agL [] L291 L291 from agL.rf) (by decide)
              have ph323 : (((emS (nx (bgS gs) 1) 10 ((gT.2.1 ((bgS gs).1 0)).toInt.toNat) 0).1 0 : Nat) : Int) ≤ 4000 := Int.le_trans (rl324).1.1 (show 0 ≤ (V314 6 7).toInt ∧ (V314 6 7).toInt ≤ 4000 from hMV314 6 7).2
              have hr325 : (V290 42 b).toInt + 1 < 8200 := by have h9 := cd320.1; omega
              have cd326 : CDc V314 b (emS (nx (bgS gs) 1) 10 ((gT.2.1 ((bgS gs).1 0)).toInt.toNat) 0) := CDc.e2a cd320 e317 f318 hr325 (by decide) (by decide) (by decide) (by decide) (show ((V290 1 8)).toInt = (((gT.2.1 ((bgS gs).1 0)).toInt.toNat : Nat) : Int) from by (first | exact om_08e0c9701055 nq304 | omega)) (fun h9 => by omega)
              refine lv_if_eq (tgt := 223) hx hb dX1_readPart_216 (by decide) (fun c327 => ?_) (fun c327 => ?_)
              · skip
                have f328 : z310.toInt = 0 := b_eq rfl (by decide) c327
                exfalso; first | exact om_09885ab343b9 rgz310.1 f328 | first | omega | ((try (have i_t288 := Imp.go t288 (by omega))); (try (have i_t287 := Imp.go t287 (by omega))); (try (have i_t287 := Imp.go t287 (by omega))); (try (have i_t288 := Imp.go t288 (by omega))); omega)
              · skip
                have f329 : z310.toInt ≠ 0 := b_neq rfl (by decide) c327
                refine lv_iconst (v := 1) hx hb dX1_readPart_219 (by decide) ?_
                refine lv_goto (tgt := 224) hx hb dX1_readPart_220 (by decide) ?_
                have rw330 : ROWL b L L291 := (fun k hk => ((axL291 44 k rfl).trans ((axL34 44 k rfl).trans rfl)))
                exact W.zret (v := 1) hx hb hr rfl (fun t ht hW => ⟨⟨1, (V314, L291), rfl, ⟨hMV314, agV314, alL291, (by decide), (Or.inl ⟨rfl, (emS (nx (bgS gs) 1) 10 ((gT.2.1 ((bgS gs).1 0)).toInt.toNat) 0), hr302, rl324, keepS.le (keepS.tr (keepS.tr (keepS.tr (keepS.tr (keepS.rf : keepS gs 0 gs) (keepS.n1 1)) (show keepS (nx gs 1) 0 (bgS gs) from keepS.em)) (keepS.n1 1)) (show keepS (nx (bgS gs) 1) 0 (emS (nx (bgS gs) 1) 10 ((gT.2.1 ((bgS gs).1 0)).toInt.toNat) 0) from keepS.em)) (by decide), (keepE.tr (keepE.tr (keepE.tr (keepE.tr (keepE.rf : keepE gs gs) (show keepE gs (nx gs 1) from keepE.eq (show ∀ j9, 5 ≤ j9 → (nx gs 1).2.1 j9 = gs.2.1 j9 from fun _ _ => rfl))) (show keepE (nx gs 1) (bgS gs) from keepE.em)) (show keepE (bgS gs) (nx (bgS gs) 1) from keepE.eq (show ∀ j9, 5 ≤ j9 → (nx (bgS gs) 1).2.1 j9 = (bgS gs).2.1 j9 from fun _ _ => rfl))) (show keepE (nx (bgS gs) 1) (emS (nx (bgS gs) 1) 10 ((gT.2.1 ((bgS gs).1 0)).toInt.toNat) 0) from keepE.em)), cd326, (by omega)⟩), rw330⟩, by rw [ht]; exact hP, va_K.moved hW.alike hK, hD⟩, hS.F ht⟩) hS.2.2 dX1_readPart_224
          · skip
            have hb331 : ∀ k, Rc gT (Crun gs (Ipart gd :: k)) (Cbad (V290 1 3).toInt) := fun k => Rc.go1 (hr275 k) ((vf_1 (fun h9 => h294 (rl276.tok.1.symm.trans h9))).trans (fl_eq rl276.tok.2.2 k297))
            refine lv_if_eq (tgt := 223) hx hb dX1_readPart_203 (by decide) (fun c332 => ?_) (fun c332 => ?_)
            · skip
              have f333 : z284.toInt = 0 := b_eq rfl (by decide) c332
              refine lv_iconst (v := 0) hx hb dX1_readPart_223 (by decide) ?_
              have rw334 : ROWL b L L291 := (fun k hk => ((axL291 44 k rfl).trans ((axL34 44 k rfl).trans rfl)))
              exact W.zret (v := 0) hx hb hr rfl (fun t ht hW => ⟨⟨0, (V290, L291), rfl, ⟨hMV290, agV290, alL291, (by decide), (Or.inr ⟨rfl, hb331⟩), rw334⟩, by rw [ht]; exact hP, va_K.moved hW.alike hK, hD⟩, hS.F ht⟩) hS.2.2 dX1_readPart_224
            · skip
              have f335 : z284.toInt ≠ 0 := b_neq rfl (by decide) c332
              exfalso; first | exact om_fb320d7600b7 rgz284.1 q293 f335 | first | omega | ((try (have i_t288 := Imp.go t288 (by omega))); (try (have i_t287 := Imp.go t287 (by omega))); (try (have i_t287 := Imp.go t287 (by omega))); (try (have i_t288 := Imp.go t288 (by omega))); omega)
          · skip
            have hb336 : ∀ k, Rc gT (Crun gs (Ipart gd :: k)) (Cbad (V290 1 3).toInt) := fun k => Rc.go1 (hr275 k) ((vf_4 (rl276.tok.1.trans h294) (by omega)).trans (fl_eq rl276.tok.2.2 k297))
            refine lv_if_eq (tgt := 223) hx hb dX1_readPart_203 (by decide) (fun c337 => ?_) (fun c337 => ?_)
            · skip
              have f338 : z284.toInt = 0 := b_eq rfl (by decide) c337
              refine lv_iconst (v := 0) hx hb dX1_readPart_223 (by decide) ?_
              have rw339 : ROWL b L L291 := (fun k hk => ((axL291 44 k rfl).trans ((axL34 44 k rfl).trans rfl)))
              exact W.zret (v := 0) hx hb hr rfl (fun t ht hW => ⟨⟨0, (V290, L291), rfl, ⟨hMV290, agV290, alL291, (by decide), (Or.inr ⟨rfl, hb336⟩), rw339⟩, by rw [ht]; exact hP, va_K.moved hW.alike hK, hD⟩, hS.F ht⟩) hS.2.2 dX1_readPart_224
            · skip
              have f340 : z284.toInt ≠ 0 := b_neq rfl (by decide) c337
              exfalso; first | omega | ((try (have i_t288 := Imp.go t288 (by omega))); (try (have i_t287 := Imp.go t287 (by omega))); (try (have i_t287 := Imp.go t287 (by omega))); (try (have i_t288 := Imp.go t288 (by omega))); omega)
        have gq273 : ((V 6 9)).toInt ≠ 144 := b_neq rfl (by decide) q273
        by_cases q341 : (V 6 9) = 145
        · refine g_top (v := 145) q341 ?_
          have fq341 : ((V 6 9)).toInt = 145 := b_eq rfl (by decide) q341
          refine lv_lookup (x := 145) (off := 194) (tgt := 251) hx hb dX1_readPart_57 (by decide) (by decide) (by decide) ?_
          have hr342 : ∀ k, Rc gT (Crun gs (Ipart gd :: k)) (Crun gs (Ipart gd :: k)) := fun k => Rc.rf
          have hr343 : ∀ k, Rc gT (Crun gs (Ipart gd :: k)) (Crun (bgS gs) (Itake 40 :: Iexpr (gd + 1) :: Itake 44 :: Ipk1 (gd + 1) :: k)) := fun k => Rc.go1 (hr342 k) (pw_145 gd h7 (by (first | exact om_436e3e958284 yd f11 | omega)) (kd20.trans fq341))
          have rl344 : RelC V33 L34 b gT (bgS gs) := RelC.em rl37
          have cd345 : CDc V b (nx gs 1) := CDc.mv cdq (show ∀ j9, j9 = 5 ∨ 2000 ≤ j9 → (nx gs 1).2.1 j9 = gs.2.1 j9 from fun j9 h9 => (show ∀ j9, 5 ≤ j9 → (nx gs 1).2.1 j9 = gs.2.1 j9 from fun _ _ => rfl) j9 (by omega))
          have wk346 : wl (nx gs 1) = wl gs ∧ (nx gs 1).1 0 = gs.1 0 + 1 := ⟨rfl, rfl⟩
          have wk347 : wl (bgS gs) = wl (nx gs 1) + 1 ∧ (bgS gs).1 0 = (nx gs 1).1 0 := ⟨(wl_em (nx gs 1) 1 _ _).trans (congrArg (fun q9 => wl (nx gs 1) + q9) (show szO 1 = 1 from by decide)), rfl⟩
          have ph348 : (((bgS gs).1 0 : Nat) : Int) ≤ 4000 := Int.le_trans (rl344).1.1 (show 0 ≤ (V33 6 7).toInt ∧ (V33 6 7).toInt ≤ 4000 from hMV33 6 7).2
          have hr349 : (V 42 b).toInt + 1 < 8200 := by have h9 := cd345.1; omega
          have cd350 : CDc V17 b (bgS gs) := CDc.e1 cd345 t16 (by (first | exact om_df3b24190af0 hr349 | omega)) (by decide) (by decide)
          refine lv_aload_n hx hb dX1_readPart_251 rfl (lv_at hl 2 rfl) ?_
          refine lv_iload_n hx hb dX1_readPart_252 rfl (lv_at hl 3 rfl) ?_
          have pq351 : (V33 1 1).toInt = ((V 1 1)).toInt := congrArg Int32.toInt ((ajV33 1 1 rfl).trans (ajV17 1 1 rfl))
          have cd352 : CDc V33 b (bgS gs) := CDc.ag cd350 (show agr [(6, 8), (6, 9), (6, 10)] [] V17 V33 from (agr.tr agr.rf ajV33 (by decide) (by decide))) (fun _ => rfl) (fun _ => rfl)
          refine gA_int (gA_runV (As := [.int p0]) (rest := []) (ci := 1) (q0 := 1) hx hb hml hown hg hP hD hK hS hA hnw hgk ((hk_x_readPick3 d9 rfl) H.size ad kk V33 L34 Z p0 (b) (gT) ((bgS gs)) (gd) hMV33 (by omega) (show b < 2 from by (first | exact om_f940a4667dd6 hb2 | omega)) (show (V33 1 1).toInt = (b : Int) from by (first | exact om_adf531c77a0d rbk pq351 | omega)) rl344 cd352 (show wl (bgS gs) ≤ 2 * (bgS gs).1 0 from by omega) (show p0.toInt = (gd : Int) from by (first | exact om_08e0c9701055 yd | omega)) (((congrArg Int32.toInt ((ajV33 1 4 rfl).trans (ajV17 1 4 rfl))).trans wh).trans (congrArg (fun n9 : Nat => (n9 : Int)) (((keepS.tr (keepS.tr (keepS.rf : keepS gs 0 gs) (keepS.n1 1)) (show keepS (nx gs 1) 0 (bgS gs) from keepS.em))).2.1 4 (by decide)).symm)) (fun h9 => by rw [((ajV33 1 2 rfl).trans (ajV17 1 2 rfl))]; exact ow ((congrArg Int32.toInt ((ajV33 1 4 rfl).trans (ajV17 1 4 rfl))).symm.trans h9)) (show 7 - p0.toInt ≤ ((d9 : Nat) : Int) from by (first | exact om_42edef44cfd1 y1 | omega))) w983 w985 w28 w162 w986 rfl xgReader hdV_yX1_readPick ⟨(by show 10 * d9 + 10 + 1 ≤ 10 * (d9 + 1) + 6; (first | exact om_27264a036ef1 | omega)), (by show 8 + (4 + 11) + (300 * d9 + 265) ≤ 300 * (d9 + 1) + 150; (first | exact om_88ffcc15b0d7 | omega))⟩ rfl hl.1 rfl (Nat.le_of_ble_eq_true rfl) dX1_readPart_253 ⟨Nat.le_of_ble_eq_true rfl, Nat.le_of_ble_eq_true rfl⟩) hP hD hK hS hA (fun z353 u354 H locs w355 hP hD hK hS => ?_)
          obtain ⟨V358, L359⟩ := u354
          obtain ⟨hMV358, ajV358, axL359, rgz353, t356, t357⟩ := w355
          have alL359 : agL [6, 44] L L359 := agL.tr alL34 axL359 (by decide)
          have hP : va_P D vwCl (xw ad kk V358 L359 Z) H := hP
          have hD : va_D A (xw ad kk V358 L359 Z) := hD
          have hMV358 : rgd bX V358 := hMV358
          have ajV358 : agr [(1, 3), (1, 6), (1, 8), (6, 8), (6, 9), (6, 10)] [42, 43, 44, 48] V33 V358 := ajV358
          have agV358 : agr [(1, 3), (1, 6), (1, 8), (6, 8), (6, 9), (6, 10)] [42, 43, 44, 48] V V358 := agV33.tr ajV358 (by decide) (by decide)
          have rgz353 : 0 ≤ z353.toInt ∧ z353.toInt ≤ 1 := rgz353
          have t356 : Rd gT (bgS gs) (fun k => Itake 40 :: Iexpr (gd + 1) :: Itake 44 :: Ipk1 (gd + 1) :: k) (fun k => k) z353.toInt (V358 1 3).toInt (fun s9 => RelC V358 L359 b gT s9 ∧ keepS (bgS gs) 1 s9 ∧ keepE (bgS gs) s9 ∧ CDc V358 b s9 ∧ wl s9 + 2 * (bgS gs).1 0 ≤ wl (bgS gs) + 2 * s9.1 0 + 1) := t356
          have t357 : ROWL b L34 L359 := t357
          rcases t356 with ⟨q360, sx361, h362, rl363, kp364, ke365, cd366, wd367⟩ | ⟨q360, h362⟩
          · skip
            have hr368 : ∀ k, Rc gT (Crun gs (Ipart gd :: k)) (Crun sx361 (k)) := fun k => (hr343 k).tr (h362 (k))
            have wk369 : wl sx361 + 2 * (bgS gs).1 0 ≤ wl (bgS gs) + 2 * sx361.1 0 + 1 ∧ (bgS gs).1 0 + 1 ≤ sx361.1 0 := ⟨wd367, (keepS.le kp364 (by decide)).1⟩
            have rw370 : ROWL b L L359 := (fun k hk => ((t357 k hk).trans ((axL34 44 k rfl).trans rfl)))
            exact W.zret (v := z353) hx hb hr (nb_ok (by omega)) (fun t ht hW => ⟨⟨z353, (V358, L359), rfl, ⟨hMV358, agV358, alL359, (show 0 ≤ z353.toInt ∧ z353.toInt ≤ 1 from by (first | exact om_eb7af9d60398 rgz353.1 rgz353.2 | omega)), (Or.inl ⟨(by omega), sx361, hr368, rl363, keepS.le (keepS.tr (keepS.tr (keepS.tr (keepS.rf : keepS gs 0 gs) (keepS.n1 1)) (show keepS (nx gs 1) 0 (bgS gs) from keepS.em)) kp364) (by decide), (keepE.tr (keepE.tr (keepE.tr (keepE.rf : keepE gs gs) (show keepE gs (nx gs 1) from keepE.eq (show ∀ j9, 5 ≤ j9 → (nx gs 1).2.1 j9 = gs.2.1 j9 from fun _ _ => rfl))) (show keepE (nx gs 1) (bgS gs) from keepE.em)) ke365), cd366, (by omega)⟩), rw370⟩, by rw [ht]; exact hP, va_K.moved hW.alike hK, hD⟩, hS.F ht⟩) hS.2.2 dX1_readPart_256
          · skip
            have hb371 : ∀ k, Rc gT (Crun gs (Ipart gd :: k)) (Cbad (V358 1 3).toInt) := fun k => (hr343 k).tr (h362 (k))
            have rw372 : ROWL b L L359 := (fun k hk => ((t357 k hk).trans ((axL34 44 k rfl).trans rfl)))
            exact W.zret (v := z353) hx hb hr (nb_ok (by omega)) (fun t ht hW => ⟨⟨z353, (V358, L359), rfl, ⟨hMV358, agV358, alL359, (show 0 ≤ z353.toInt ∧ z353.toInt ≤ 1 from by (first | exact om_eb7af9d60398 rgz353.1 rgz353.2 | omega)), (Or.inr ⟨(by omega), hb371⟩), rw372⟩, by rw [ht]; exact hP, va_K.moved hW.alike hK, hD⟩, hS.F ht⟩) hS.2.2 dX1_readPart_256
        have gq341 : ((V 6 9)).toInt ≠ 145 := b_neq rfl (by decide) q341
        by_cases q373 : (V 6 9) = 146
        · refine g_top (v := 146) q373 ?_
          have fq373 : ((V 6 9)).toInt = 146 := b_eq rfl (by decide) q373
          refine lv_lookup (x := 146) (off := 200) (tgt := 257) hx hb dX1_readPart_57 (by decide) (by decide) (by decide) ?_
          have w146 := bg_146 h7 (kd20.trans fq373)
          have ow6 := ow (wh.trans (by omega))
          have pq374 : (V33 1 2).toInt = ((V 1 2)).toInt := congrArg Int32.toInt ((ajV33 1 2 rfl).trans (ajV17 1 2 rfl))
          have r375 : (-1) ≤ ((V 1 2)).toInt ∧ ((V 1 2)).toInt ≤ 47 := hMV 1 2
          have hr376 : ∀ k, Rc gT (Crun gs (Ipart gd :: k)) (Crun gs (Ipart gd :: k)) := fun k => Rc.rf
          have hr377 : ∀ k, Rc gT (Crun gs (Ipart gd :: k)) (Crun (bgS gs) (IofN (gd + 1) :: k)) := fun k => Rc.go1 (hr376 k) (pw_146 gd h7 (by (first | exact om_436e3e958284 yd f11 | omega)) (kd20.trans fq373))
          have rl378 : RelC V33 L34 b gT (bgS gs) := RelC.em rl37
          have cd379 : CDc V b (nx gs 1) := CDc.mv cdq (show ∀ j9, j9 = 5 ∨ 2000 ≤ j9 → (nx gs 1).2.1 j9 = gs.2.1 j9 from fun j9 h9 => (show ∀ j9, 5 ≤ j9 → (nx gs 1).2.1 j9 = gs.2.1 j9 from fun _ _ => rfl) j9 (by omega))
          have wk380 : wl (nx gs 1) = wl gs ∧ (nx gs 1).1 0 = gs.1 0 + 1 := ⟨rfl, rfl⟩
          have wk381 : wl (bgS gs) = wl (nx gs 1) + 1 ∧ (bgS gs).1 0 = (nx gs 1).1 0 := ⟨(wl_em (nx gs 1) 1 _ _).trans (congrArg (fun q9 => wl (nx gs 1) + q9) (show szO 1 = 1 from by decide)), rfl⟩
          have ph382 : (((bgS gs).1 0 : Nat) : Int) ≤ 4000 := Int.le_trans (rl378).1.1 (show 0 ≤ (V33 6 7).toInt ∧ (V33 6 7).toInt ≤ 4000 from hMV33 6 7).2
          have hr383 : (V 42 b).toInt + 1 < 8200 := by have h9 := cd379.1; omega
          have cd384 : CDc V17 b (bgS gs) := CDc.e1 cd379 t16 (by (first | exact om_df3b24190af0 hr383 | omega)) (by decide) (by decide)
          refine lv_aload_n hx hb dX1_readPart_257 rfl (lv_at hl 2 rfl) ?_
          refine lv_iload_n hx hb dX1_readPart_258 rfl (lv_at hl 3 rfl) ?_
          have pq385 : (V33 1 1).toInt = ((V 1 1)).toInt := congrArg Int32.toInt ((ajV33 1 1 rfl).trans (ajV17 1 1 rfl))
          have cd386 : CDc V33 b (bgS gs) := CDc.ag cd384 (show agr [(6, 8), (6, 9), (6, 10)] [] V17 V33 from (agr.tr agr.rf ajV33 (by decide) (by decide))) (fun _ => rfl) (fun _ => rfl)
          refine gA_int (gA_runV (As := [.int p0]) (rest := []) (ci := 1) (q0 := 1) hx hb hml hown hg hP hD hK hS hA hnw hgk ((hk_x_readOf3 d9 rfl) H.size ad kk V33 L34 Z p0 (b) (gT) ((bgS gs)) (gd) hMV33 (by omega) (show b < 2 from by (first | exact om_f940a4667dd6 hb2 | omega)) (show (V33 1 1).toInt = (b : Int) from by (first | exact om_adf531c77a0d rbk pq385 | omega)) rl378 cd386 (show wl (bgS gs) ≤ 2 * (bgS gs).1 0 from by omega) (show p0.toInt = (gd : Int) from by (first | exact om_08e0c9701055 yd | omega)) (((congrArg Int32.toInt ((ajV33 1 4 rfl).trans (ajV17 1 4 rfl))).trans wh).trans (congrArg (fun n9 : Nat => (n9 : Int)) (((keepS.tr (keepS.tr (keepS.rf : keepS gs 0 gs) (keepS.n1 1)) (show keepS (nx gs 1) 0 (bgS gs) from keepS.em))).2.1 4 (by decide)).symm)) (fun h9 => by rw [((ajV33 1 2 rfl).trans (ajV17 1 2 rfl))]; exact ow ((congrArg Int32.toInt ((ajV33 1 4 rfl).trans (ajV17 1 4 rfl))).symm.trans h9)) (show 7 - p0.toInt ≤ ((d9 : Nat) : Int) from by (first | exact om_42edef44cfd1 y1 | omega)) (show 0 ≤ (V33 1 2).toInt from by omega)) w991 w993 w29 w162 w994 rfl xgReader hdV_yX1_readOf ⟨(by show 10 * d9 + 11 + 1 ≤ 10 * (d9 + 1) + 6; (first | exact om_b06993399694 | omega)), (by show 8 + (4 + 11) + (300 * d9 + 290) ≤ 300 * (d9 + 1) + 150; (first | exact om_541a9511245e | omega))⟩ rfl hl.1 rfl (Nat.le_of_ble_eq_true rfl) dX1_readPart_259 ⟨Nat.le_of_ble_eq_true rfl, Nat.le_of_ble_eq_true rfl⟩) hP hD hK hS hA (fun z387 u388 H locs w389 hP hD hK hS => ?_)
          obtain ⟨V392, L393⟩ := u388
          obtain ⟨hMV392, ajV392, axL393, rgz387, t390, t391⟩ := w389
          have alL393 : agL [6, 44] L L393 := agL.tr alL34 axL393 (by decide)
          have hP : va_P D vwCl (xw ad kk V392 L393 Z) H := hP
          have hD : va_D A (xw ad kk V392 L393 Z) := hD
          have hMV392 : rgd bX V392 := hMV392
          have ajV392 : agr [(1, 3), (1, 6), (1, 8), (6, 8), (6, 9), (6, 10)] [42, 43, 44, 48] V33 V392 := ajV392
          have agV392 : agr [(1, 3), (1, 6), (1, 8), (6, 8), (6, 9), (6, 10)] [42, 43, 44, 48] V V392 := agV33.tr ajV392 (by decide) (by decide)
          have rgz387 : 0 ≤ z387.toInt ∧ z387.toInt ≤ 1 := rgz387
          have t390 : Rd gT (bgS gs) (fun k => IofN (gd + 1) :: k) (fun k => k) z387.toInt (V392 1 3).toInt (fun s9 => RelC V392 L393 b gT s9 ∧ keepS (bgS gs) 1 s9 ∧ keepE (bgS gs) s9 ∧ CDc V392 b s9 ∧ wl s9 + 2 * (bgS gs).1 0 ≤ wl (bgS gs) + 2 * s9.1 0 + 1) := t390
          have t391 : ROWL b L34 L393 := t391
          rcases t390 with ⟨q394, sx395, h396, rl397, kp398, ke399, cd400, wd401⟩ | ⟨q394, h396⟩
          · skip
            have hr402 : ∀ k, Rc gT (Crun gs (Ipart gd :: k)) (Crun sx395 (k)) := fun k => (hr377 k).tr (h396 (k))
            have wk403 : wl sx395 + 2 * (bgS gs).1 0 ≤ wl (bgS gs) + 2 * sx395.1 0 + 1 ∧ (bgS gs).1 0 + 1 ≤ sx395.1 0 := ⟨wd401, (keepS.le kp398 (by decide)).1⟩
            have rw404 : ROWL b L L393 := (fun k hk => ((t391 k hk).trans ((axL34 44 k rfl).trans rfl)))
            exact W.zret (v := z387) hx hb hr (nb_ok (by omega)) (fun t ht hW => ⟨⟨z387, (V392, L393), rfl, ⟨hMV392, agV392, alL393, (show 0 ≤ z387.toInt ∧ z387.toInt ≤ 1 from by (first | exact om_eb7af9d60398 rgz387.1 rgz387.2 | omega)), (Or.inl ⟨(by omega), sx395, hr402, rl397, keepS.le (keepS.tr (keepS.tr (keepS.tr (keepS.rf : keepS gs 0 gs) (keepS.n1 1)) (show keepS (nx gs 1) 0 (bgS gs) from keepS.em)) kp398) (by decide), (keepE.tr (keepE.tr (keepE.tr (keepE.rf : keepE gs gs) (show keepE gs (nx gs 1) from keepE.eq (show ∀ j9, 5 ≤ j9 → (nx gs 1).2.1 j9 = gs.2.1 j9 from fun _ _ => rfl))) (show keepE (nx gs 1) (bgS gs) from keepE.em)) ke399), cd400, (by omega)⟩), rw404⟩, by rw [ht]; exact hP, va_K.moved hW.alike hK, hD⟩, hS.F ht⟩) hS.2.2 dX1_readPart_262
          · skip
            have hb405 : ∀ k, Rc gT (Crun gs (Ipart gd :: k)) (Cbad (V392 1 3).toInt) := fun k => (hr377 k).tr (h396 (k))
            have rw406 : ROWL b L L393 := (fun k hk => ((t391 k hk).trans ((axL34 44 k rfl).trans rfl)))
            exact W.zret (v := z387) hx hb hr (nb_ok (by omega)) (fun t ht hW => ⟨⟨z387, (V392, L393), rfl, ⟨hMV392, agV392, alL393, (show 0 ≤ z387.toInt ∧ z387.toInt ≤ 1 from by (first | exact om_eb7af9d60398 rgz387.1 rgz387.2 | omega)), (Or.inr ⟨(by omega), hb405⟩), rw406⟩, by rw [ht]; exact hP, va_K.moved hW.alike hK, hD⟩, hS.F ht⟩) hS.2.2 dX1_readPart_262
        have gq373 : ((V 6 9)).toInt ≠ 146 := b_neq rfl (by decide) q373
        refine lv_lookup (x := (V 6 9)) (off := 206) (tgt := 263) hx hb dX1_readPart_57 (by decide) ((lv_osw q38 (by decide)).trans ((lv_osw q68 (by decide)).trans ((lv_osw q132 (by decide)).trans ((lv_osw q189 (by decide)).trans ((lv_osw q246 (by decide)).trans ((lv_osw q273 (by decide)).trans ((lv_osw q341 (by decide)).trans ((lv_osw q373 (by decide)).trans rfl)))))))) (by decide) ?_
        have k147 : gT.1 (gs.1 0) = 147 := bg_147 h7 (fun h9 => gq38 (kd20.symm.trans h9)) (fun h9 => gq68 (kd20.symm.trans h9)) (fun h9 => gq132 (kd20.symm.trans h9)) (fun h9 => gq189 (kd20.symm.trans h9)) (fun h9 => gq246 (kd20.symm.trans h9)) (fun h9 => gq273 (kd20.symm.trans h9)) (fun h9 => gq341 (kd20.symm.trans h9)) (fun h9 => gq373 (kd20.symm.trans h9))
        have hr407 : ∀ k, Rc gT (Crun gs (Ipart gd :: k)) (Crun gs (Ipart gd :: k)) := fun k => Rc.rf
        have hr408 : ∀ k, Rc gT (Crun gs (Ipart gd :: k)) (Crun (bgS gs) (Itake 40 :: Iexpr (gd + 1) :: Itake 41 :: Iem 15 :: k)) := fun k => Rc.go1 (hr407 k) (pw_147 gd h7 (by (first | exact om_436e3e958284 yd f11 | omega)) k147)
        have rl409 : RelC V33 L34 b gT (bgS gs) := RelC.em rl37
        have cd410 : CDc V b (nx gs 1) := CDc.mv cdq (show ∀ j9, j9 = 5 ∨ 2000 ≤ j9 → (nx gs 1).2.1 j9 = gs.2.1 j9 from fun j9 h9 => (show ∀ j9, 5 ≤ j9 → (nx gs 1).2.1 j9 = gs.2.1 j9 from fun _ _ => rfl) j9 (by omega))
        have wk411 : wl (nx gs 1) = wl gs ∧ (nx gs 1).1 0 = gs.1 0 + 1 := ⟨rfl, rfl⟩
        have wk412 : wl (bgS gs) = wl (nx gs 1) + 1 ∧ (bgS gs).1 0 = (nx gs 1).1 0 := ⟨(wl_em (nx gs 1) 1 _ _).trans (congrArg (fun q9 => wl (nx gs 1) + q9) (show szO 1 = 1 from by decide)), rfl⟩
        have ph413 : (((bgS gs).1 0 : Nat) : Int) ≤ 4000 := Int.le_trans (rl409).1.1 (show 0 ≤ (V33 6 7).toInt ∧ (V33 6 7).toInt ≤ 4000 from hMV33 6 7).2
        have hr414 : (V 42 b).toInt + 1 < 8200 := by have h9 := cd410.1; omega
        have cd415 : CDc V17 b (bgS gs) := CDc.e1 cd410 t16 (by (first | exact om_df3b24190af0 hr414 | omega)) (by decide) (by decide)
        refine lv_aload_n hx hb dX1_readPart_263 rfl (lv_at hl 2 rfl) ?_
        refine lv_iload_n hx hb dX1_readPart_264 rfl (lv_at hl 3 rfl) ?_
        have pq416 : (V33 1 1).toInt = ((V 1 1)).toInt := congrArg Int32.toInt ((ajV33 1 1 rfl).trans (ajV17 1 1 rfl))
        have cd417 : CDc V33 b (bgS gs) := CDc.ag cd415 (show agr [(6, 8), (6, 9), (6, 10)] [] V17 V33 from (agr.tr agr.rf ajV33 (by decide) (by decide))) (fun _ => rfl) (fun _ => rfl)
        refine gA_int (gA_runV (As := [.int p0]) (rest := []) (ci := 1) (q0 := 1) hx hb hml hown hg hP hD hK hS hA hnw hgk ((hk_x_readWithin3 d9 rfl) H.size ad kk V33 L34 Z p0 (b) (gT) ((bgS gs)) (gd) hMV33 (by omega) (show b < 2 from by (first | exact om_f940a4667dd6 hb2 | omega)) (show (V33 1 1).toInt = (b : Int) from by (first | exact om_adf531c77a0d rbk pq416 | omega)) rl409 cd417 (show wl (bgS gs) ≤ 2 * (bgS gs).1 0 from by omega) (show p0.toInt = (gd : Int) from by (first | exact om_08e0c9701055 yd | omega)) (((congrArg Int32.toInt ((ajV33 1 4 rfl).trans (ajV17 1 4 rfl))).trans wh).trans (congrArg (fun n9 : Nat => (n9 : Int)) (((keepS.tr (keepS.tr (keepS.rf : keepS gs 0 gs) (keepS.n1 1)) (show keepS (nx gs 1) 0 (bgS gs) from keepS.em))).2.1 4 (by decide)).symm)) (fun h9 => by rw [((ajV33 1 2 rfl).trans (ajV17 1 2 rfl))]; exact ow ((congrArg Int32.toInt ((ajV33 1 4 rfl).trans (ajV17 1 4 rfl))).symm.trans h9)) (show 7 - p0.toInt ≤ ((d9 : Nat) : Int) from by (first | exact om_42edef44cfd1 y1 | omega))) w995 w997 w30 w162 w998 rfl xgReader hdV_yX1_readWithin ⟨(by show 10 * d9 + 10 + 1 ≤ 10 * (d9 + 1) + 6; (first | exact om_27264a036ef1 | omega)), (by show 8 + (2 + 11) + (300 * d9 + 265) ≤ 300 * (d9 + 1) + 150; (first | exact om_9c0bce32d3dd | omega))⟩ rfl hl.1 rfl (Nat.le_of_ble_eq_true rfl) dX1_readPart_265 ⟨Nat.le_of_ble_eq_true rfl, Nat.le_of_ble_eq_true rfl⟩) hP hD hK hS hA (fun z418 u419 H locs w420 hP hD hK hS => ?_)
        obtain ⟨V423, L424⟩ := u419
        obtain ⟨hMV423, ajV423, axL424, rgz418, t421, t422⟩ := w420
        have alL424 : agL [6, 44] L L424 := agL.tr alL34 axL424 (by decide)
        have hP : va_P D vwCl (xw ad kk V423 L424 Z) H := hP
        have hD : va_D A (xw ad kk V423 L424 Z) := hD
        have hMV423 : rgd bX V423 := hMV423
        have ajV423 : agr [(1, 3), (1, 6), (1, 8), (6, 8), (6, 9), (6, 10)] [42, 43, 44, 48] V33 V423 := ajV423
        have agV423 : agr [(1, 3), (1, 6), (1, 8), (6, 8), (6, 9), (6, 10)] [42, 43, 44, 48] V V423 := agV33.tr ajV423 (by decide) (by decide)
        have rgz418 : 0 ≤ z418.toInt ∧ z418.toInt ≤ 1 := rgz418
        have t421 : Rd gT (bgS gs) (fun k => Itake 40 :: Iexpr (gd + 1) :: Itake 41 :: k) (fun k => k) z418.toInt (V423 1 3).toInt (fun s9 => RelC V423 L424 b gT s9 ∧ keepS (bgS gs) 1 s9 ∧ keepE (bgS gs) s9 ∧ CDc V423 b s9 ∧ wl s9 + 2 * (bgS gs).1 0 ≤ wl (bgS gs) + 2 * s9.1 0 + 1) := t421
        have t422 : ROWL b L34 L424 := t422
        rcases t421 with ⟨q425, sx426, h427, rl428, kp429, ke430, cd431, wd432⟩ | ⟨q425, h427⟩
        · skip
          have hr433 : ∀ k, Rc gT (Crun gs (Ipart gd :: k)) (Crun sx426 (Iem 15 :: k)) := fun k => (hr408 k).tr (h427 (Iem 15 :: k))
          refine lv_if_eq (tgt := 283) hx hb dX1_readPart_268 (by decide) (fun c434 => ?_) (fun c434 => ?_)
          · skip
            have f435 : z418.toInt = 0 := b_eq rfl (by decide) c434
            exfalso; omega
          · skip
            have f436 : z418.toInt ≠ 0 := b_neq rfl (by decide) c434
            refine lv_aload_n hx hb dX1_readPart_271 rfl (lv_at hl 2 rfl) ?_
            refine lv_iconst (v := 4) hx hb dX1_readPart_272 (by decide) ?_
            have r437 : Int32.toInt 4 = 4 := by decide
            have pq438 : (V423 1 1).toInt = ((V 1 1)).toInt := congrArg Int32.toInt ((ajV423 1 1 rfl).trans ((ajV33 1 1 rfl).trans (ajV17 1 1 rfl)))
            refine gA_int (gA_runV (As := [.int 4]) (rest := []) (ci := 1) (q0 := 1) hx hb hml hown hg hP hD hK hS hA hnw hgk (x_putAlone3 l D ks H.size ad kk V423 L424 Z 4 (b) hMV423 (show b < 2 from by (first | exact om_f940a4667dd6 hb2 | omega)) (show (V423 1 1).toInt = (b : Int) from by (first | exact om_adf531c77a0d rbk pq438 | omega))) w979 w981 w27 w162 w982 rfl xgReader hdV_yX1_putAlone ⟨(by show 1 + 1 ≤ 10 * (d9 + 1) + 6; (first | exact om_e3c7341aa676 y1 f11 | omega)), (by show 8 + (2 + 11) + (21) ≤ 300 * (d9 + 1) + 150; (first | exact om_61eeeab683e9 y1 f11 | omega))⟩ rfl hl.1 rfl (Nat.le_of_ble_eq_true rfl) dX1_readPart_273 ⟨Nat.le_of_ble_eq_true rfl, Nat.le_of_ble_eq_true rfl⟩) hP hD hK hS hA (fun z439 u440 H locs w441 hP hD hK hS => ?_)
            obtain ⟨V443, L444⟩ := u440
            obtain ⟨hMV443, ajV443, axL444, rgz439, t442⟩ := w441
            have axL444 : L424 = L444 := Eq.symm axL444
            subst axL444
            have hP : va_P D vwCl (xw ad kk V443 L424 Z) H := hP
            have hD : va_D A (xw ad kk V443 L424 Z) := hD
            have hMV443 : rgd bX V443 := hMV443
            have ajV443 : agr [] [42, 48] V423 V443 := ajV443
            have agV443 : agr [(1, 3), (1, 6), (1, 8), (6, 8), (6, 9), (6, 10)] [42, 43, 44, 48] V V443 := agV423.tr ajV443 (by decide) (by decide)
            have rgz439 : 1 ≤ z439.toInt ∧ z439.toInt ≤ 1 := rgz439
            have t442 : emX V423 V443 b 4 := t442
            have hr445 : ∀ k, Rc gT (Crun gs (Ipart gd :: k)) (Crun (emS sx426 15 0 0) (k)) := fun k => Rc.go1 (hr433 k) (m_em 15)
            have rl446 : RelC V443 L424 b gT sx426 := RelC.ag rl428 (show agr [] [42, 48] V423 V443 from (agr.tr agr.rf ajV443 (by decide) (by decide))) (by decide) (show agL [] L424 L424 from agL.rf) (by decide)
            have rl447 : RelC V443 L424 b gT (emS sx426 15 0 0) := RelC.em rl446
            have wk448 : wl sx426 + 2 * (bgS gs).1 0 ≤ wl (bgS gs) + 2 * sx426.1 0 + 1 ∧ (bgS gs).1 0 + 1 ≤ sx426.1 0 := ⟨wd432, (keepS.le kp429 (by decide)).1⟩
            have wk449 : wl (emS sx426 15 0 0) = wl sx426 + 1 ∧ (emS sx426 15 0 0).1 0 = sx426.1 0 := ⟨(wl_em sx426 15 _ _).trans (congrArg (fun q9 => wl sx426 + q9) (show szO 15 = 1 from by decide)), rfl⟩
            have ph450 : (((emS sx426 15 0 0).1 0 : Nat) : Int) ≤ 4000 := Int.le_trans (rl447).1.1 (show 0 ≤ (V443 6 7).toInt ∧ (V443 6 7).toInt ≤ 4000 from hMV443 6 7).2
            have hr451 : (V423 42 b).toInt + 1 < 8200 := by have h9 := cd431.1; omega
            have cd452 : CDc V443 b (emS sx426 15 0 0) := CDc.e1 cd431 t442 (by (first | exact om_df3b24190af0 hr451 | omega)) (by decide) (by decide)
            refine lv_if_eq (tgt := 283) hx hb dX1_readPart_276 (by decide) (fun c453 => ?_) (fun c453 => ?_)
            · skip
              have f454 : z439.toInt = 0 := b_eq rfl (by decide) c453
              exfalso; (first | exact om_09885ab343b9 rgz439.1 f454 | omega)
            · skip
              have f455 : z439.toInt ≠ 0 := b_neq rfl (by decide) c453
              refine lv_iconst (v := 1) hx hb dX1_readPart_279 (by decide) ?_
              refine lv_goto (tgt := 284) hx hb dX1_readPart_280 (by decide) ?_
              have rw456 : ROWL b L L424 := (fun k hk => ((t422 k hk).trans ((axL34 44 k rfl).trans rfl)))
              exact W.zret (v := 1) hx hb hr rfl (fun t ht hW => ⟨⟨1, (V443, L424), rfl, ⟨hMV443, agV443, alL424, (by decide), (Or.inl ⟨rfl, (emS sx426 15 0 0), hr445, rl447, keepS.le (keepS.tr (keepS.tr (keepS.tr (keepS.tr (keepS.rf : keepS gs 0 gs) (keepS.n1 1)) (show keepS (nx gs 1) 0 (bgS gs) from keepS.em)) kp429) (show keepS sx426 0 (emS sx426 15 0 0) from keepS.em)) (by decide), (keepE.tr (keepE.tr (keepE.tr (keepE.tr (keepE.rf : keepE gs gs) (show keepE gs (nx gs 1) from keepE.eq (show ∀ j9, 5 ≤ j9 → (nx gs 1).2.1 j9 = gs.2.1 j9 from fun _ _ => rfl))) (show keepE (nx gs 1) (bgS gs) from keepE.em)) ke430) (show keepE sx426 (emS sx426 15 0 0) from keepE.em)), cd452, (by omega)⟩), rw456⟩, by rw [ht]; exact hP, va_K.moved hW.alike hK, hD⟩, hS.F ht⟩) hS.2.2 dX1_readPart_284
        · skip
          have hb457 : ∀ k, Rc gT (Crun gs (Ipart gd :: k)) (Cbad (V423 1 3).toInt) := fun k => (hr408 k).tr (h427 (Iem 15 :: k))
          refine lv_if_eq (tgt := 283) hx hb dX1_readPart_268 (by decide) (fun c458 => ?_) (fun c458 => ?_)
          · skip
            have f459 : z418.toInt = 0 := b_eq rfl (by decide) c458
            refine lv_iconst (v := 0) hx hb dX1_readPart_283 (by decide) ?_
            have rw460 : ROWL b L L424 := (fun k hk => ((t422 k hk).trans ((axL34 44 k rfl).trans rfl)))
            exact W.zret (v := 0) hx hb hr rfl (fun t ht hW => ⟨⟨0, (V423, L424), rfl, ⟨hMV423, agV423, alL424, (by decide), (Or.inr ⟨rfl, hb457⟩), rw460⟩, by rw [ht]; exact hP, va_K.moved hW.alike hK, hD⟩, hS.F ht⟩) hS.2.2 dX1_readPart_284
          · skip
            have f461 : z418.toInt ≠ 0 := b_neq rfl (by decide) c458
            exfalso; omega
      · skip
        have f462 : 8 ≤ p0.toInt := b_nlt rfl (by decide) c10
        refine lv_aload_n hx hb dX1_readPart_19 rfl (lv_at hl 0 rfl) ?_
        refine lv_iconst (v := 5) hx hb dX1_readPart_20 (by decide) ?_
        have kd463 : gT.1 (gs.1 0) = ((V 6 9)).toInt := RelC.kd rel
        have r464 : Int32.toInt 5 = 5 := by decide
        refine gA_int (gA_runV (As := [.int 5]) (rest := []) (ci := 1) (q0 := 1) hx hb hml hown hg hP hD hK hS hA hnw hgk (x_wrong2 l D ks H.size ad kk V L Z 5 hMV (by decide)) w867 w869 w6 w162 w870 rfl xgReader hdV_yX1_wrong ⟨(by show 0 + 1 ≤ 10 * dd + 6; (first | exact om_a38b62d84ac3 | omega)), (by show 8 + (2 + 11) + (0) ≤ 300 * dd + 150; (first | exact om_bc7ada4eac13 | omega))⟩ rfl hl.1 rfl (Nat.le_of_ble_eq_true rfl) dX1_readPart_21 ⟨Nat.le_of_ble_eq_true rfl, Nat.le_of_ble_eq_true rfl⟩) hP hD hK hS hA (fun z465 u466 H locs w467 hP hD hK hS => ?_)
        obtain ⟨V470, L471⟩ := u466
        obtain ⟨hMV470, ajV470, axL471, rgz465, t468, t469⟩ := w467
        have axL471 : L = L471 := Eq.symm axL471
        subst axL471
        have hP : va_P D vwCl (xw ad kk V470 L Z) H := hP
        have hD : va_D A (xw ad kk V470 L Z) := hD
        have hMV470 : rgd bX V470 := hMV470
        have ajV470 : agr [(1, 3)] [] V V470 := ajV470
        have agV470 : agr [(1, 3), (1, 6), (1, 8), (6, 8), (6, 9), (6, 10)] [42, 43, 44, 48] V V470 := agV.tr ajV470 (by decide) (by decide)
        have rgz465 : 0 ≤ z465.toInt ∧ z465.toInt ≤ 0 := rgz465
        have t468 : 1 ≤ (V470 1 3).toInt := t468
        have t469 : (V470 1 3).toInt = (Int32.toInt 5) + 16 * (V 6 10).toInt := t469
        have r472 : 0 ≤ ((V 6 10)).toInt ∧ ((V 6 10)).toInt ≤ 4000 := hMV 6 10
        have hr473 : ∀ k, Rc gT (Crun gs (Ipart gd :: k)) (Crun gs (Ipart gd :: k)) := fun k => Rc.rf
        have hb474 : ∀ k, Rc gT (Crun gs (Ipart gd :: k)) (Cbad (V470 1 3).toInt) := fun k => Rc.go1 (hr473 k) ((part_5 gd h7 (by (first | exact om_5975e95c9ba3 yd f462 | omega))).trans (fl_eq (RelC.st rel) (show (V470 1 3).toInt = 5 + 16 * (V 6 10).toInt from by (first | exact om_fd8d4a8321fd r464 t469 | omega))))
        have rw475 : ROWL b L L := (fun k hk => rfl)
        exact W.zret (v := z465) hx hb hr (nb_ok (by omega)) (fun t ht hW => ⟨⟨z465, (V470, L), rfl, ⟨hMV470, agV470, alL, (show 0 ≤ z465.toInt ∧ z465.toInt ≤ 1 from by (first | exact om_641b3f05f166 rgz465.1 rgz465.2 | omega)), (Or.inr ⟨(by omega), hb474⟩), rw475⟩, by rw [ht]; exact hP, va_K.moved hW.alike hK, hD⟩, hS.F ht⟩) hS.2.2 dX1_readPart_24
    · skip
      have f476 : z2.toInt = 0 := b_eq rfl (by decide) c8
      exfalso; (first | exact om_495ee03a60ae q6 f476 | omega)
  · skip
    refine lv_if_ne (tgt := 13) hx hb dX1_readPart_4 (by decide) (fun c477 => ?_) (fun c477 => ?_)
    · skip
      have f478 : z2.toInt ≠ 0 := b_neq rfl (by decide) c477
      exfalso; (first | exact om_fb320d7600b7 rgz2.1 q6 f478 | omega)
    · skip
      have f479 : z2.toInt = 0 := b_eq rfl (by decide) c477
      refine lv_aload_n hx hb dX1_readPart_7 rfl (lv_at hl 0 rfl) ?_
      refine lv_iconst (v := 1) hx hb dX1_readPart_8 (by decide) ?_
      have kd480 : gT.1 (gs.1 0) = ((V 6 9)).toInt := RelC.kd rel
      have r481 : Int32.toInt 1 = 1 := by decide
      refine gA_int (gA_runV (As := [.int 1]) (rest := []) (ci := 1) (q0 := 1) hx hb hml hown hg hP hD hK hS hA hnw hgk (x_wrong2 l D ks H.size ad kk V L Z 1 hMV (by decide)) w867 w869 w6 w162 w870 rfl xgReader hdV_yX1_wrong ⟨(by show 0 + 1 ≤ 10 * dd + 6; (first | exact om_0442424c9051 rg_p0.2 y1 | omega)), (by show 8 + (2 + 11) + (0) ≤ 300 * dd + 150; (first | exact om_4d17b072da10 rg_p0.2 y1 | omega))⟩ rfl hl.1 rfl (Nat.le_of_ble_eq_true rfl) dX1_readPart_9 ⟨Nat.le_of_ble_eq_true rfl, Nat.le_of_ble_eq_true rfl⟩) hP hD hK hS hA (fun z482 u483 H locs w484 hP hD hK hS => ?_)
      obtain ⟨V487, L488⟩ := u483
      obtain ⟨hMV487, ajV487, axL488, rgz482, t485, t486⟩ := w484
      have axL488 : L = L488 := Eq.symm axL488
      subst axL488
      have hP : va_P D vwCl (xw ad kk V487 L Z) H := hP
      have hD : va_D A (xw ad kk V487 L Z) := hD
      have hMV487 : rgd bX V487 := hMV487
      have ajV487 : agr [(1, 3)] [] V V487 := ajV487
      have agV487 : agr [(1, 3), (1, 6), (1, 8), (6, 8), (6, 9), (6, 10)] [42, 43, 44, 48] V V487 := agV.tr ajV487 (by decide) (by decide)
      have rgz482 : 0 ≤ z482.toInt ∧ z482.toInt ≤ 0 := rgz482
      have t485 : 1 ≤ (V487 1 3).toInt := t485
      have t486 : (V487 1 3).toInt = (Int32.toInt 1) + 16 * (V 6 10).toInt := t486
      have r489 : 0 ≤ ((V 6 10)).toInt ∧ ((V 6 10)).toInt ≤ 4000 := hMV 6 10
      have hr490 : ∀ k, Rc gT (Crun gs (Ipart gd :: k)) (Crun gs (Ipart gd :: k)) := fun k => Rc.rf
      have hb491 : ∀ k, Rc gT (Crun gs (Ipart gd :: k)) (Cbad (V487 1 3).toInt) := fun k => Rc.go1 (hr490 k) ((part_1 gd h7).trans (fl_eq (RelC.st rel) (show (V487 1 3).toInt = 1 + 16 * (V 6 10).toInt from by (first | exact om_f884d2586d25 r481 t486 | omega))))
      have rw492 : ROWL b L L := (fun k hk => rfl)
      exact W.zret (v := z482) hx hb hr (nb_ok (by omega)) (fun t ht hW => ⟨⟨z482, (V487, L), rfl, ⟨hMV487, agV487, alL, (show 0 ≤ z482.toInt ∧ z482.toInt ≤ 1 from by (first | exact om_641b3f05f166 rgz482.1 rgz482.2 | omega)), (Or.inr ⟨(by omega), hb491⟩), rw492⟩, by rw [ht]; exact hP, va_K.moved hW.alike hK, hD⟩, hS.F ht⟩) hS.2.2 dX1_readPart_12
set_option maxHeartbeats 4000000 in
set_option maxRecDepth 100000 in
theorem x_readPick3 {l : Launch} {D : va_G} {ks : KS} {dd : Nat} (hk_x_readExpression3 : K_x_readExpression3 l D ks dd) : K_x_readPick3 l D ks dd := by
  intro sz ad kk V L Z p0 b gT gs gd hMV rg_p0 hb2 rbk rel cdq hwl yd wh ow y1
  refine g_met (q_x_readPick3 D ks ad kk V L Z p0 b gT gs gd) (by decide) (Nat.le_of_ble_eq_true rfl) ?_
  intro p e s m below meth c A ls H locs hx hb hr hml hown hg hlocks hin hnw hgk hP hK hD hS hA hl
  have hown : s.vm.findClass RX1 = some m.cls := hown
  have hl : lv_has ls 4 [(0, .ref (ad 1)), (1, .int p0)] := hl
  have hP : va_P D vwCl (xw ad kk V L Z) H := hP
  have hD : va_D A (xw ad kk V L Z) := hD
  have hK : va_K D vwCl (xty kk Z) s := hK
  have agV : agr [(1, 3), (1, 6), (1, 8), (6, 8), (6, 9), (6, 10)] [42, 43, 44, 48] V V := agr.rf
  have alL : agL [6, 44] L L := agL.rf
  have rf_p0 := i_full p0
  have r1 : (-1) ≤ ((V 1 1)).toInt ∧ ((V 1 1)).toInt ≤ 1 := hMV 1 1
  refine lv_aload_n hx hb dX1_readPick_0 rfl (lv_at hl 0 rfl) ?_
  refine lv_bipush (v := 40) hx hb dX1_readPick_1 (by decide) ?_
  have hr2 : ∀ k, Rc gT (Crun gs (Itake 40 :: Iexpr (gd + 1) :: Itake 44 :: Ipk1 (gd + 1) :: k)) (Crun gs (Itake 40 :: Iexpr (gd + 1) :: Itake 44 :: Ipk1 (gd + 1) :: k)) := fun k => Rc.rf
  have r3 : Int32.toInt 40 = 40 := by decide
  refine gA_int (gA_runV (As := [.int 40]) (rest := []) (ci := 1) (q0 := 1) hx hb hml hown hg hP hD hK hS hA hnw hgk (x_take2 l D ks H.size ad kk V L Z 40 ((gs.1 0)) hMV (rel).1 (rel).2.1.1 (show 1 ≤ (Int32.toInt 40) from by (first | exact om_1db0a53e4a87 r3 | omega))) w893 w895 w10 w162 w896 rfl xgReader hdV_yX1_take ⟨(by show 1 + 1 ≤ 10 * dd + 10; (first | exact om_162fc0655431 rg_p0.2 y1 | omega)), (by show 8 + (2 + 11) + (21) ≤ 300 * dd + 265; (first | exact om_cb5b29a579d3 rg_p0.2 y1 | omega))⟩ rfl hl.1 rfl (Nat.le_of_ble_eq_true rfl) dX1_readPick_3 ⟨Nat.le_of_ble_eq_true rfl, Nat.le_of_ble_eq_true rfl⟩) hP hD hK hS hA (fun z4 u5 H locs w6 hP hD hK hS => ?_)
  obtain ⟨V9, L10⟩ := u5
  obtain ⟨hMV9, ajV9, axL10, rgz4, t7, t8⟩ := w6
  have alL10 : agL [6, 44] L L10 := agL.tr alL axL10 (by decide)
  have hP : va_P D vwCl (xw ad kk V9 L10 Z) H := hP
  have hD : va_D A (xw ad kk V9 L10 Z) := hD
  have hMV9 : rgd bX V9 := hMV9
  have ajV9 : agr [(1, 3), (6, 8), (6, 9), (6, 10)] [] V V9 := ajV9
  have agV9 : agr [(1, 3), (1, 6), (1, 8), (6, 8), (6, 9), (6, 10)] [42, 43, 44, 48] V V9 := agV.tr ajV9 (by decide) (by decide)
  have rgz4 : 0 ≤ z4.toInt ∧ z4.toInt ≤ 1 := rgz4
  have t7 : Imp (z4.toInt = 0) (1 ≤ (V9 1 3).toInt) := t7
  have t8 : (z4.toInt = 1 ∧ (V 12 (gs.1 0)).toInt = (Int32.toInt 40) ∧ CUR V9 L10 ((gs.1 0) + 1) ∧ V9 1 3 = V 1 3) ∨ (z4.toInt = 0 ∧ (V 12 (gs.1 0)).toInt ≠ (Int32.toInt 40) ∧ (V9 1 3).toInt = 1 + 16 * (V 13 (gs.1 0)).toInt) := t8
  rcases t8 with ⟨q11, h12, k13, k14⟩ | ⟨q11, h12, k13⟩
  · skip
    have rl15 : RelC V9 L10 b gT (nx gs 1) := RelC.nx1 rel ajV9 (by decide) axL10 (by decide) k13 k14
    have hr16 : ∀ k, Rc gT (Crun gs (Itake 40 :: Iexpr (gd + 1) :: Itake 44 :: Ipk1 (gd + 1) :: k)) (Crun (nx gs 1) (Iexpr (gd + 1) :: Itake 44 :: Ipk1 (gd + 1) :: k)) := fun k => Rc.go1 (hr2 k) (tk_y (rel.tok.1.trans (h12.trans (by decide))))
    refine lv_if_eq (tgt := 28) hx hb dX1_readPick_6 (by decide) (fun c17 => ?_) (fun c17 => ?_)
    · skip
      have f18 : z4.toInt = 0 := b_eq rfl (by decide) c17
      exfalso; first | exact om_495ee03a60ae q11 f18 | first | omega | ((try (have i_t7 := Imp.go t7 (by omega))); omega)
    · skip
      have f19 : z4.toInt ≠ 0 := b_neq rfl (by decide) c17
      refine lv_aload_n hx hb dX1_readPick_9 rfl (lv_at hl 0 rfl) ?_
      refine lv_iload_n hx hb dX1_readPick_10 rfl (lv_at hl 1 rfl) ?_
      refine lv_iconst (v := 1) hx hb dX1_readPick_11 (by decide) ?_
      refine lv_iadd hx hb dX1_readPick_12 ?_
      refine lv_topi (fun z20 ez20 => ?_)
      have hz20 : z20.toInt = p0.toInt + 1 := i_add ez20 rfl (by decide) (by (first | exact om_7833cbc177ca rg_p0.1 rg_p0.2 | omega))
      have pq21 : (V9 1 1).toInt = ((V 1 1)).toInt := congrArg Int32.toInt (ajV9 1 1 rfl)
      have cd22 : CDc V9 b gs := CDc.ag cdq (show agr [(1, 3), (6, 8), (6, 9), (6, 10)] [] V V9 from (agr.tr agr.rf ajV9 (by decide) (by decide))) (fun _ => rfl) (fun _ => rfl)
      have cd23 : CDc V9 b (nx gs 1) := CDc.mv cd22 (show ∀ j9, j9 = 5 ∨ 2000 ≤ j9 → (nx gs 1).2.1 j9 = gs.2.1 j9 from fun j9 h9 => (show ∀ j9, 5 ≤ j9 → (nx gs 1).2.1 j9 = gs.2.1 j9 from fun _ _ => rfl) j9 (by omega))
      have wk24 : wl (nx gs 1) = wl gs ∧ (nx gs 1).1 0 = gs.1 0 + 1 := ⟨rfl, rfl⟩
      refine gA_int (gA_runV (As := [.int z20]) (rest := []) (ci := 1) (q0 := 1) hx hb hml hown hg hP hD hK hS hA hnw hgk (hk_x_readExpression3 H.size ad kk V9 L10 Z z20 (b) (gT) ((nx gs 1)) ((gd + 1)) hMV9 (by first | exact om_b66aae6510dc rg_p0.1 rg_p0.2 hz20 | first | omega | ((try (have i_t7 := Imp.go t7 (by omega))); omega)) (show b < 2 from by first | exact om_f940a4667dd6 hb2 | first | omega | ((try (have i_t7 := Imp.go t7 (by omega))); omega)) (show (V9 1 1).toInt = (b : Int) from by first | exact om_adf531c77a0d rbk pq21 | first | omega | ((try (have i_t7 := Imp.go t7 (by omega))); omega)) rl15 cd23 (show wl (nx gs 1) ≤ 2 * (nx gs 1).1 0 from by omega) (show z20.toInt = ((gd + 1) : Int) from by first | exact om_a9904d4d2531 yd hz20 | first | omega | ((try (have i_t7 := Imp.go t7 (by omega))); omega)) (((congrArg Int32.toInt (ajV9 1 4 rfl)).trans wh).trans (congrArg (fun n9 : Nat => (n9 : Int)) (((keepS.tr (keepS.rf : keepS gs 0 gs) (keepS.n1 1))).2.1 4 (by decide)).symm)) (fun h9 => by rw [(ajV9 1 2 rfl)]; exact ow ((congrArg Int32.toInt (ajV9 1 4 rfl)).symm.trans h9)) (show 8 - z20.toInt ≤ (dd : Int) from by first | exact om_2dee3eb3e2cf y1 hz20 | first | omega | ((try (have i_t7 := Imp.go t7 (by omega))); omega))) w951 w953 w21 w162 w954 rfl xgReader hdV_yX1_readExpression ⟨(by show 10 * dd + 9 + 1 ≤ 10 * dd + 10; (first | exact om_5cb1365e39a9 | omega)), (by show 8 + (3 + 11) + (300 * dd + 240) ≤ 300 * dd + 265; (first | exact om_31bfa1b830a4 | omega))⟩ rfl hl.1 rfl (Nat.le_of_ble_eq_true rfl) dX1_readPick_13 ⟨Nat.le_of_ble_eq_true rfl, Nat.le_of_ble_eq_true rfl⟩) hP hD hK hS hA (fun z25 u26 H locs w27 hP hD hK hS => ?_)
      obtain ⟨V30, L31⟩ := u26
      obtain ⟨hMV30, ajV30, axL31, rgz25, t28, t29⟩ := w27
      have alL31 : agL [6, 44] L L31 := agL.tr alL10 axL31 (by decide)
      have hP : va_P D vwCl (xw ad kk V30 L31 Z) H := hP
      have hD : va_D A (xw ad kk V30 L31 Z) := hD
      have hMV30 : rgd bX V30 := hMV30
      have ajV30 : agr [(1, 3), (1, 6), (1, 8), (6, 8), (6, 9), (6, 10)] [42, 43, 44, 48] V9 V30 := ajV30
      have agV30 : agr [(1, 3), (1, 6), (1, 8), (6, 8), (6, 9), (6, 10)] [42, 43, 44, 48] V V30 := agV9.tr ajV30 (by decide) (by decide)
      have rgz25 : 0 ≤ z25.toInt ∧ z25.toInt ≤ 1 := rgz25
      have t28 : Rd gT (nx gs 1) (fun k => Iexpr (gd + 1) :: k) (fun k => k) z25.toInt (V30 1 3).toInt (fun s9 => RelC V30 L31 b gT s9 ∧ keepS (nx gs 1) 1 s9 ∧ keepE (nx gs 1) s9 ∧ CDc V30 b s9 ∧ wl s9 + 2 * (nx gs 1).1 0 ≤ wl (nx gs 1) + 2 * s9.1 0 + 1) := t28
      have t29 : ROWL b L10 L31 := t29
      rcases t28 with ⟨q32, sx33, h34, rl35, kp36, ke37, cd38, wd39⟩ | ⟨q32, h34⟩
      · skip
        have hr40 : ∀ k, Rc gT (Crun gs (Itake 40 :: Iexpr (gd + 1) :: Itake 44 :: Ipk1 (gd + 1) :: k)) (Crun sx33 (Itake 44 :: Ipk1 (gd + 1) :: k)) := fun k => (hr16 k).tr (h34 (Itake 44 :: Ipk1 (gd + 1) :: k))
        refine lv_if_eq (tgt := 28) hx hb dX1_readPick_16 (by decide) (fun c41 => ?_) (fun c41 => ?_)
        · skip
          have f42 : z25.toInt = 0 := b_eq rfl (by decide) c41
          exfalso; first | omega | ((try (have i_t7 := Imp.go t7 (by omega))); omega)
        · skip
          have f43 : z25.toInt ≠ 0 := b_neq rfl (by decide) c41
          refine lv_aload_n hx hb dX1_readPick_19 rfl (lv_at hl 0 rfl) ?_
          refine lv_bipush (v := 44) hx hb dX1_readPick_20 (by decide) ?_
          have r44 : Int32.toInt 44 = 44 := by decide
          refine gA_int (gA_runV (As := [.int 44]) (rest := []) (ci := 1) (q0 := 1) hx hb hml hown hg hP hD hK hS hA hnw hgk (x_take2 l D ks H.size ad kk V30 L31 Z 44 ((sx33.1 0)) hMV30 (rl35).1 (rl35).2.1.1 (show 1 ≤ (Int32.toInt 44) from by first | exact om_627ead948902 r44 | first | omega | ((try (have i_t7 := Imp.go t7 (by omega))); omega))) w893 w895 w10 w162 w896 rfl xgReader hdV_yX1_take ⟨(by show 1 + 1 ≤ 10 * dd + 10; (first | exact om_162fc0655431 rg_p0.2 y1 | omega)), (by show 8 + (2 + 11) + (21) ≤ 300 * dd + 265; (first | exact om_cb5b29a579d3 rg_p0.2 y1 | omega))⟩ rfl hl.1 rfl (Nat.le_of_ble_eq_true rfl) dX1_readPick_22 ⟨Nat.le_of_ble_eq_true rfl, Nat.le_of_ble_eq_true rfl⟩) hP hD hK hS hA (fun z45 u46 H locs w47 hP hD hK hS => ?_)
          obtain ⟨V50, L51⟩ := u46
          obtain ⟨hMV50, ajV50, axL51, rgz45, t48, t49⟩ := w47
          have alL51 : agL [6, 44] L L51 := agL.tr alL31 axL51 (by decide)
          have hP : va_P D vwCl (xw ad kk V50 L51 Z) H := hP
          have hD : va_D A (xw ad kk V50 L51 Z) := hD
          have hMV50 : rgd bX V50 := hMV50
          have ajV50 : agr [(1, 3), (6, 8), (6, 9), (6, 10)] [] V30 V50 := ajV50
          have agV50 : agr [(1, 3), (1, 6), (1, 8), (6, 8), (6, 9), (6, 10)] [42, 43, 44, 48] V V50 := agV30.tr ajV50 (by decide) (by decide)
          have rgz45 : 0 ≤ z45.toInt ∧ z45.toInt ≤ 1 := rgz45
          have t48 : Imp (z45.toInt = 0) (1 ≤ (V50 1 3).toInt) := t48
          have t49 : (z45.toInt = 1 ∧ (V30 12 (sx33.1 0)).toInt = (Int32.toInt 44) ∧ CUR V50 L51 ((sx33.1 0) + 1) ∧ V50 1 3 = V30 1 3) ∨ (z45.toInt = 0 ∧ (V30 12 (sx33.1 0)).toInt ≠ (Int32.toInt 44) ∧ (V50 1 3).toInt = 1 + 16 * (V30 13 (sx33.1 0)).toInt) := t49
          rcases t49 with ⟨q52, h53, k54, k55⟩ | ⟨q52, h53, k54⟩
          · skip
            have rl56 : RelC V50 L51 b gT (nx sx33 1) := RelC.nx1 rl35 ajV50 (by decide) axL51 (by decide) k54 k55
            have hr57 : ∀ k, Rc gT (Crun gs (Itake 40 :: Iexpr (gd + 1) :: Itake 44 :: Ipk1 (gd + 1) :: k)) (Crun (nx sx33 1) (Ipk1 (gd + 1) :: k)) := fun k => Rc.go1 (hr40 k) (tk_y (rl35.tok.1.trans (h53.trans (by decide))))
            refine lv_if_ne (tgt := 30) hx hb dX1_readPick_25 (by decide) (fun c58 => ?_) (fun c58 => ?_)
            · skip
              have f59 : z45.toInt ≠ 0 := b_neq rfl (by decide) c58
              refine lv_aload_n hx hb dX1_readPick_30 rfl (lv_at hl 0 rfl) ?_
              refine va_get (D := D) (ci := 1) (v := rfN ad 38 (V50 1 1)) (fs := (xfReader ad V50 L51 Z)) (C := RX1) (T := TX1) (N := 9) hx hb hg inX1 hown hK hP 1 xgReader rfl 1 (by decide) (hg _ w305) (fun _ h9 => h9) rfl dX1_readPick_31 ?_
              have pq60 : (V50 1 1).toInt = ((V 1 1)).toInt := congrArg Int32.toInt ((ajV50 1 1 rfl).trans ((ajV30 1 1 rfl).trans (ajV9 1 1 rfl)))
              refine g_topv (v := .ref (ad (38 + b))) (rfN_r (by first | omega | ((try (have i_t48 := Imp.go t48 (by omega))); (try (have i_t7 := Imp.go t7 (by omega))); (try (have i_t7 := Imp.go t7 (by omega))); (try (have i_t48 := Imp.go t48 (by omega))); omega))) ?_
              refine va_getN (D := D) (ci := 0) (v := .int (V50 42 b)) (fs := (xfBook ad V50 b)) (C := RX0) (T := TX0) (N := 13) hx hb hg inX0 hown hK hP (38 + b) (xgBook hb2) rfl 12 (by decide) (hnw.use 630 n630 rfl) (fun _ h9 => h9) rfl dX1_readPick_34 ?_
              refine g_top (v := (V30 42 b)) (ajV50 42 b rfl) ?_
              have r61 : 0 ≤ ((V30 42 b)).toInt ∧ ((V30 42 b)).toInt ≤ 8200 := hMV30 42 b
              refine lv_iconst (v := 1) hx hb dX1_readPick_37 (by decide) ?_
              refine lv_iadd hx hb dX1_readPick_38 ?_
              refine lv_topi (fun z62 ez62 => ?_)
              have hz62 : z62.toInt = ((V30 42 b)).toInt + 1 := i_add ez62 rfl (by decide) (by (first | exact om_45b01acb040a r61.1 r61.2 | omega))
              refine lv_istore_n (lv' := [(2, .int z62), (0, .ref (ad 1)), (1, .int p0)]) hx hb dX1_readPick_39 rfl hl (by decide) rfl (fun ls hl => ?_)
              refine lv_aload_n hx hb dX1_readPick_40 rfl (lv_at hl 1 rfl) ?_
              refine lv_bipush (v := 13) hx hb dX1_readPick_41 (by decide) ?_
              refine lv_iconst (v := 0) hx hb dX1_readPick_43 (by decide) ?_
              have r63 : Int32.toInt 13 = 13 := by decide
              have r64 : Int32.toInt 0 = 0 := by decide
              refine gA_int (gA_runV (As := [.int 13, .int 0]) (rest := []) (ci := 1) (q0 := 1) hx hb hml hown hg hP hD hK hS hA hnw hgk (x_put3 l D ks H.size ad kk V50 L51 Z 13 0 (b) hMV50 (show b < 2 from by first | exact om_f940a4667dd6 hb2 | first | omega | ((try (have i_t48 := Imp.go t48 (by omega))); (try (have i_t7 := Imp.go t7 (by omega))); (try (have i_t7 := Imp.go t7 (by omega))); (try (have i_t48 := Imp.go t48 (by omega))); omega)) (show (V50 1 1).toInt = (b : Int) from by first | exact om_adf531c77a0d rbk pq60 | first | omega | ((try (have i_t48 := Imp.go t48 (by omega))); (try (have i_t7 := Imp.go t7 (by omega))); (try (have i_t7 := Imp.go t7 (by omega))); (try (have i_t48 := Imp.go t48 (by omega))); omega))) w975 w977 w26 w162 w978 rfl xgReader hdV_yX1_put ⟨(by show 1 + 1 ≤ 10 * dd + 10; (first | exact om_162fc0655431 rg_p0.2 y1 | omega)), (by show 8 + (3 + 11) + (21) ≤ 300 * dd + 265; (first | exact om_33a318b92054 rg_p0.2 y1 | omega))⟩ rfl hl.1 rfl (Nat.le_of_ble_eq_true rfl) dX1_readPick_44 ⟨Nat.le_of_ble_eq_true rfl, Nat.le_of_ble_eq_true rfl⟩) hP hD hK hS hA (fun z65 u66 H locs w67 hP hD hK hS => ?_)
              obtain ⟨V69, L70⟩ := u66
              obtain ⟨hMV69, ajV69, axL70, rgz65, t68⟩ := w67
              have axL70 : L51 = L70 := Eq.symm axL70
              subst axL70
              have hP : va_P D vwCl (xw ad kk V69 L51 Z) H := hP
              have hD : va_D A (xw ad kk V69 L51 Z) := hD
              have hMV69 : rgd bX V69 := hMV69
              have ajV69 : agr [] [42, 48] V50 V69 := ajV69
              have agV69 : agr [(1, 3), (1, 6), (1, 8), (6, 8), (6, 9), (6, 10)] [42, 43, 44, 48] V V69 := agV50.tr ajV69 (by decide) (by decide)
              have rgz65 : 1 ≤ z65.toInt ∧ z65.toInt ≤ 1 := rgz65
              have t68 : (∃ U9 : Vf, emX V50 U9 b 13 ∧ emX U9 V69 b 0) := t68
              obtain ⟨U71, e72, f73⟩ := t68
              have cd74 : CDc V50 b sx33 := CDc.ag cd38 (show agr [(1, 3), (6, 8), (6, 9), (6, 10)] [] V30 V50 from (agr.tr agr.rf ajV50 (by decide) (by decide))) (fun _ => rfl) (fun _ => rfl)
              have cd75 : CDc V50 b (nx sx33 1) := CDc.mv cd74 (show ∀ j9, j9 = 5 ∨ 2000 ≤ j9 → (nx sx33 1).2.1 j9 = sx33.2.1 j9 from fun j9 h9 => (show ∀ j9, 5 ≤ j9 → (nx sx33 1).2.1 j9 = sx33.2.1 j9 from fun _ _ => rfl) j9 (by omega))
              have pk76 := cd75.1
              have hr77 : ∀ k, Rc gT (Crun gs (Itake 40 :: Iexpr (gd + 1) :: Itake 44 :: Ipk1 (gd + 1) :: k)) (Crun (emS (nx sx33 1) 12 0 0) (Iexpr (gd + 1) :: Itake 44 :: Ipk2 (gd + 1) (cl (nx sx33 1)) :: k)) := fun k => Rc.go1 (hr57 k) (m_pk1 (gd + 1))
              have rl78 : RelC V69 L51 b gT (nx sx33 1) := RelC.ag rl56 (show agr [] [42, 48] V50 V69 from (agr.tr agr.rf ajV69 (by decide) (by decide))) (by decide) (show agL [] L51 L51 from agL.rf) (by decide)
              have rl79 : RelC V69 L51 b gT (emS (nx sx33 1) 12 0 0) := RelC.em rl78
              have wk80 : wl sx33 + 2 * (nx gs 1).1 0 ≤ wl (nx gs 1) + 2 * sx33.1 0 + 1 ∧ (nx gs 1).1 0 + 1 ≤ sx33.1 0 := ⟨wd39, (keepS.le kp36 (by decide)).1⟩
              have wk81 : wl (nx sx33 1) = wl sx33 ∧ (nx sx33 1).1 0 = sx33.1 0 + 1 := ⟨rfl, rfl⟩
              have wk82 : wl (emS (nx sx33 1) 12 0 0) = wl (nx sx33 1) + 2 ∧ (emS (nx sx33 1) 12 0 0).1 0 = (nx sx33 1).1 0 := ⟨(wl_em (nx sx33 1) 12 _ _).trans (congrArg (fun q9 => wl (nx sx33 1) + q9) (show szO 12 = 2 from by decide)), rfl⟩
              have ph83 : (((emS (nx sx33 1) 12 0 0).1 0 : Nat) : Int) ≤ 4000 := Int.le_trans (rl79).1.1 (show 0 ≤ (V69 6 7).toInt ∧ (V69 6 7).toInt ≤ 4000 from hMV69 6 7).2
              have hr84 : (V50 42 b).toInt + 1 < 8200 := by have h9 := cd75.1; omega
              have cd85 : CDc V69 b (emS (nx sx33 1) 12 0 0) := CDc.e2a cd75 e72 f73 hr84 (by decide) (by decide) (by decide) (by decide) (show (Int32.toInt 0) = ((0 : Nat) : Int) from by decide) (fun h9 => by omega)
              refine lv_pop hx hb dX1_readPick_47 rfl ?_
              refine lv_aload_n hx hb dX1_readPick_48 rfl (lv_at hl 1 rfl) ?_
              refine lv_iload_n hx hb dX1_readPick_49 rfl (lv_at hl 2 rfl) ?_
              refine lv_iconst (v := 1) hx hb dX1_readPick_50 (by decide) ?_
              refine lv_iadd hx hb dX1_readPick_51 ?_
              refine lv_topi (fun z86 ez86 => ?_)
              have hz86 : z86.toInt = p0.toInt + 1 := i_add ez86 rfl (by decide) (by (first | exact om_7833cbc177ca rg_p0.1 rg_p0.2 | omega))
              have pq87 : (V69 1 1).toInt = ((V 1 1)).toInt := congrArg Int32.toInt ((ajV69 1 1 rfl).trans ((ajV50 1 1 rfl).trans ((ajV30 1 1 rfl).trans (ajV9 1 1 rfl))))
              refine gA_int (gA_runV (As := [.int z86]) (rest := []) (ci := 1) (q0 := 1) hx hb hml hown hg hP hD hK hS hA hnw hgk (hk_x_readExpression3 H.size ad kk V69 L51 Z z86 (b) (gT) ((emS (nx sx33 1) 12 0 0)) ((gd + 1)) hMV69 (by first | exact om_b66aae6510dc rg_p0.1 rg_p0.2 hz86 | first | omega | ((try (have i_t48 := Imp.go t48 (by omega))); (try (have i_t7 := Imp.go t7 (by omega))); (try (have i_t7 := Imp.go t7 (by omega))); (try (have i_t48 := Imp.go t48 (by omega))); omega)) (show b < 2 from by first | exact om_f940a4667dd6 hb2 | first | omega | ((try (have i_t48 := Imp.go t48 (by omega))); (try (have i_t7 := Imp.go t7 (by omega))); (try (have i_t7 := Imp.go t7 (by omega))); (try (have i_t48 := Imp.go t48 (by omega))); omega)) (show (V69 1 1).toInt = (b : Int) from by first | exact om_adf531c77a0d rbk pq87 | first | omega | ((try (have i_t48 := Imp.go t48 (by omega))); (try (have i_t7 := Imp.go t7 (by omega))); (try (have i_t7 := Imp.go t7 (by omega))); (try (have i_t48 := Imp.go t48 (by omega))); omega)) rl79 cd85 (show wl (emS (nx sx33 1) 12 0 0) ≤ 2 * (emS (nx sx33 1) 12 0 0).1 0 from by omega) (show z86.toInt = ((gd + 1) : Int) from by first | exact om_a9904d4d2531 yd hz86 | first | omega | ((try (have i_t48 := Imp.go t48 (by omega))); (try (have i_t7 := Imp.go t7 (by omega))); (try (have i_t7 := Imp.go t7 (by omega))); (try (have i_t48 := Imp.go t48 (by omega))); omega)) (((congrArg Int32.toInt ((ajV69 1 4 rfl).trans ((ajV50 1 4 rfl).trans ((ajV30 1 4 rfl).trans (ajV9 1 4 rfl))))).trans wh).trans (congrArg (fun n9 : Nat => (n9 : Int)) (((keepS.tr (keepS.tr (keepS.tr (keepS.tr (keepS.rf : keepS gs 0 gs) (keepS.n1 1)) kp36) (keepS.n1 1)) (show keepS (nx sx33 1) 0 (emS (nx sx33 1) 12 0 0) from keepS.em))).2.1 4 (by decide)).symm)) (fun h9 => by rw [((ajV69 1 2 rfl).trans ((ajV50 1 2 rfl).trans ((ajV30 1 2 rfl).trans (ajV9 1 2 rfl))))]; exact ow ((congrArg Int32.toInt ((ajV69 1 4 rfl).trans ((ajV50 1 4 rfl).trans ((ajV30 1 4 rfl).trans (ajV9 1 4 rfl))))).symm.trans h9)) (show 8 - z86.toInt ≤ (dd : Int) from by first | exact om_2dee3eb3e2cf y1 hz86 | first | omega | ((try (have i_t48 := Imp.go t48 (by omega))); (try (have i_t7 := Imp.go t7 (by omega))); (try (have i_t7 := Imp.go t7 (by omega))); (try (have i_t48 := Imp.go t48 (by omega))); omega))) w951 w953 w21 w162 w954 rfl xgReader hdV_yX1_readExpression ⟨(by show 10 * dd + 9 + 1 ≤ 10 * dd + 10; (first | exact om_5cb1365e39a9 | omega)), (by show 8 + (3 + 11) + (300 * dd + 240) ≤ 300 * dd + 265; (first | exact om_31bfa1b830a4 | omega))⟩ rfl hl.1 rfl (Nat.le_of_ble_eq_true rfl) dX1_readPick_52 ⟨Nat.le_of_ble_eq_true rfl, Nat.le_of_ble_eq_true rfl⟩) hP hD hK hS hA (fun z88 u89 H locs w90 hP hD hK hS => ?_)
              obtain ⟨V93, L94⟩ := u89
              obtain ⟨hMV93, ajV93, axL94, rgz88, t91, t92⟩ := w90
              have alL94 : agL [6, 44] L L94 := agL.tr alL51 axL94 (by decide)
              have hP : va_P D vwCl (xw ad kk V93 L94 Z) H := hP
              have hD : va_D A (xw ad kk V93 L94 Z) := hD
              have hMV93 : rgd bX V93 := hMV93
              have ajV93 : agr [(1, 3), (1, 6), (1, 8), (6, 8), (6, 9), (6, 10)] [42, 43, 44, 48] V69 V93 := ajV93
              have agV93 : agr [(1, 3), (1, 6), (1, 8), (6, 8), (6, 9), (6, 10)] [42, 43, 44, 48] V V93 := agV69.tr ajV93 (by decide) (by decide)
              have rgz88 : 0 ≤ z88.toInt ∧ z88.toInt ≤ 1 := rgz88
              have t91 : Rd gT (emS (nx sx33 1) 12 0 0) (fun k => Iexpr (gd + 1) :: k) (fun k => k) z88.toInt (V93 1 3).toInt (fun s9 => RelC V93 L94 b gT s9 ∧ keepS (emS (nx sx33 1) 12 0 0) 1 s9 ∧ keepE (emS (nx sx33 1) 12 0 0) s9 ∧ CDc V93 b s9 ∧ wl s9 + 2 * (emS (nx sx33 1) 12 0 0).1 0 ≤ wl (emS (nx sx33 1) 12 0 0) + 2 * s9.1 0 + 1) := t91
              have t92 : ROWL b L51 L94 := t92
              rcases t91 with ⟨q95, sx96, h97, rl98, kp99, ke100, cd101, wd102⟩ | ⟨q95, h97⟩
              · skip
                have hr103 : ∀ k, Rc gT (Crun gs (Itake 40 :: Iexpr (gd + 1) :: Itake 44 :: Ipk1 (gd + 1) :: k)) (Crun sx96 (Itake 44 :: Ipk2 (gd + 1) (cl (nx sx33 1)) :: k)) := fun k => (hr77 k).tr (h97 (Itake 44 :: Ipk2 (gd + 1) (cl (nx sx33 1)) :: k))
                refine lv_if_eq (tgt := 67) hx hb dX1_readPick_55 (by decide) (fun c104 => ?_) (fun c104 => ?_)
                · skip
                  have f105 : z88.toInt = 0 := b_eq rfl (by decide) c104
                  exfalso; first | omega | ((try (have i_t48 := Imp.go t48 (by omega))); (try (have i_t7 := Imp.go t7 (by omega))); (try (have i_t7 := Imp.go t7 (by omega))); (try (have i_t48 := Imp.go t48 (by omega))); omega)
                · skip
                  have f106 : z88.toInt ≠ 0 := b_neq rfl (by decide) c104
                  refine lv_aload_n hx hb dX1_readPick_58 rfl (lv_at hl 1 rfl) ?_
                  refine lv_bipush (v := 44) hx hb dX1_readPick_59 (by decide) ?_
                  refine gA_int (gA_runV (As := [.int 44]) (rest := []) (ci := 1) (q0 := 1) hx hb hml hown hg hP hD hK hS hA hnw hgk (x_take2 l D ks H.size ad kk V93 L94 Z 44 ((sx96.1 0)) hMV93 (rl98).1 (rl98).2.1.1 (show 1 ≤ (Int32.toInt 44) from by first | exact om_627ead948902 r44 | first | omega | ((try (have i_t48 := Imp.go t48 (by omega))); (try (have i_t7 := Imp.go t7 (by omega))); (try (have i_t7 := Imp.go t7 (by omega))); (try (have i_t48 := Imp.go t48 (by omega))); omega))) w893 w895 w10 w162 w896 rfl xgReader hdV_yX1_take ⟨(by show 1 + 1 ≤ 10 * dd + 10; (first | exact om_162fc0655431 rg_p0.2 y1 | omega)), (by show 8 + (2 + 11) + (21) ≤ 300 * dd + 265; (first | exact om_cb5b29a579d3 rg_p0.2 y1 | omega))⟩ rfl hl.1 rfl (Nat.le_of_ble_eq_true rfl) dX1_readPick_61 ⟨Nat.le_of_ble_eq_true rfl, Nat.le_of_ble_eq_true rfl⟩) hP hD hK hS hA (fun z107 u108 H locs w109 hP hD hK hS => ?_)
                  obtain ⟨V112, L113⟩ := u108
                  obtain ⟨hMV112, ajV112, axL113, rgz107, t110, t111⟩ := w109
                  have alL113 : agL [6, 44] L L113 := agL.tr alL94 axL113 (by decide)
                  have hP : va_P D vwCl (xw ad kk V112 L113 Z) H := hP
                  have hD : va_D A (xw ad kk V112 L113 Z) := hD
                  have hMV112 : rgd bX V112 := hMV112
                  have ajV112 : agr [(1, 3), (6, 8), (6, 9), (6, 10)] [] V93 V112 := ajV112
                  have agV112 : agr [(1, 3), (1, 6), (1, 8), (6, 8), (6, 9), (6, 10)] [42, 43, 44, 48] V V112 := agV93.tr ajV112 (by decide) (by decide)
                  have rgz107 : 0 ≤ z107.toInt ∧ z107.toInt ≤ 1 := rgz107
                  have t110 : Imp (z107.toInt = 0) (1 ≤ (V112 1 3).toInt) := t110
                  have t111 : (z107.toInt = 1 ∧ (V93 12 (sx96.1 0)).toInt = (Int32.toInt 44) ∧ CUR V112 L113 ((sx96.1 0) + 1) ∧ V112 1 3 = V93 1 3) ∨ (z107.toInt = 0 ∧ (V93 12 (sx96.1 0)).toInt ≠ (Int32.toInt 44) ∧ (V112 1 3).toInt = 1 + 16 * (V93 13 (sx96.1 0)).toInt) := t111
                  rcases t111 with ⟨q114, h115, k116, k117⟩ | ⟨q114, h115, k116⟩
                  · skip
                    have rl118 : RelC V112 L113 b gT (nx sx96 1) := RelC.nx1 rl98 ajV112 (by decide) axL113 (by decide) k116 k117
                    have hr119 : ∀ k, Rc gT (Crun gs (Itake 40 :: Iexpr (gd + 1) :: Itake 44 :: Ipk1 (gd + 1) :: k)) (Crun (nx sx96 1) (Ipk2 (gd + 1) (cl (nx sx33 1)) :: k)) := fun k => Rc.go1 (hr103 k) (tk_y (rl98.tok.1.trans (h115.trans (by decide))))
                    refine lv_if_ne (tgt := 69) hx hb dX1_readPick_64 (by decide) (fun c120 => ?_) (fun c120 => ?_)
                    · skip
                      have f121 : z107.toInt ≠ 0 := b_neq rfl (by decide) c120
                      refine lv_aload_n hx hb dX1_readPick_69 rfl (lv_at hl 1 rfl) ?_
                      refine va_get (D := D) (ci := 1) (v := rfN ad 38 (V112 1 1)) (fs := (xfReader ad V112 L113 Z)) (C := RX1) (T := TX1) (N := 9) hx hb hg inX1 hown hK hP 1 xgReader rfl 1 (by decide) (hg _ w305) (fun _ h9 => h9) rfl dX1_readPick_70 ?_
                      have pq122 : (V112 1 1).toInt = ((V 1 1)).toInt := congrArg Int32.toInt ((ajV112 1 1 rfl).trans ((ajV93 1 1 rfl).trans ((ajV69 1 1 rfl).trans ((ajV50 1 1 rfl).trans ((ajV30 1 1 rfl).trans (ajV9 1 1 rfl))))))
                      refine g_topv (v := .ref (ad (38 + b))) (rfN_r (by first | omega | ((try (have i_t110 := Imp.go t110 (by omega))); (try (have i_t48 := Imp.go t48 (by omega))); (try (have i_t7 := Imp.go t7 (by omega))); (try (have i_t7 := Imp.go t7 (by omega))); (try (have i_t48 := Imp.go t48 (by omega))); (try (have i_t110 := Imp.go t110 (by omega))); omega))) ?_
                      refine va_getN (D := D) (ci := 0) (v := .int (V112 42 b)) (fs := (xfBook ad V112 b)) (C := RX0) (T := TX0) (N := 13) hx hb hg inX0 hown hK hP (38 + b) (xgBook hb2) rfl 12 (by decide) (hnw.use 630 n630 rfl) (fun _ h9 => h9) rfl dX1_readPick_73 ?_
                      refine g_top (v := (V93 42 b)) (ajV112 42 b rfl) ?_
                      have r123 : 0 ≤ ((V93 42 b)).toInt ∧ ((V93 42 b)).toInt ≤ 8200 := hMV93 42 b
                      refine lv_iconst (v := 1) hx hb dX1_readPick_76 (by decide) ?_
                      refine lv_iadd hx hb dX1_readPick_77 ?_
                      refine lv_topi (fun z124 ez124 => ?_)
                      have hz124 : z124.toInt = ((V93 42 b)).toInt + 1 := i_add ez124 rfl (by decide) (by (first | exact om_45b01acb040a r123.1 r123.2 | omega))
                      refine lv_istore_n (lv' := [(3, .int z124), (2, .int z62), (0, .ref (ad 1)), (1, .int p0)]) hx hb dX1_readPick_78 rfl hl (by decide) rfl (fun ls hl => ?_)
                      refine lv_aload_n hx hb dX1_readPick_79 rfl (lv_at hl 2 rfl) ?_
                      refine lv_bipush (v := 14) hx hb dX1_readPick_80 (by decide) ?_
                      refine lv_iconst (v := 0) hx hb dX1_readPick_82 (by decide) ?_
                      have r125 : Int32.toInt 14 = 14 := by decide
                      refine gA_int (gA_runV (As := [.int 14, .int 0]) (rest := []) (ci := 1) (q0 := 1) hx hb hml hown hg hP hD hK hS hA hnw hgk (x_put3 l D ks H.size ad kk V112 L113 Z 14 0 (b) hMV112 (show b < 2 from by first | exact om_f940a4667dd6 hb2 | first | omega | ((try (have i_t110 := Imp.go t110 (by omega))); (try (have i_t48 := Imp.go t48 (by omega))); (try (have i_t7 := Imp.go t7 (by omega))); (try (have i_t7 := Imp.go t7 (by omega))); (try (have i_t48 := Imp.go t48 (by omega))); (try (have i_t110 := Imp.go t110 (by omega))); omega)) (show (V112 1 1).toInt = (b : Int) from by first | exact om_adf531c77a0d rbk pq122 | first | omega | ((try (have i_t110 := Imp.go t110 (by omega))); (try (have i_t48 := Imp.go t48 (by omega))); (try (have i_t7 := Imp.go t7 (by omega))); (try (have i_t7 := Imp.go t7 (by omega))); (try (have i_t48 := Imp.go t48 (by omega))); (try (have i_t110 := Imp.go t110 (by omega))); omega))) w975 w977 w26 w162 w978 rfl xgReader hdV_yX1_put ⟨(by show 1 + 1 ≤ 10 * dd + 10; (first | exact om_162fc0655431 rg_p0.2 y1 | omega)), (by show 8 + (3 + 11) + (21) ≤ 300 * dd + 265; (first | exact om_33a318b92054 rg_p0.2 y1 | omega))⟩ rfl hl.1 rfl (Nat.le_of_ble_eq_true rfl) dX1_readPick_83 ⟨Nat.le_of_ble_eq_true rfl, Nat.le_of_ble_eq_true rfl⟩) hP hD hK hS hA (fun z126 u127 H locs w128 hP hD hK hS => ?_)
                      obtain ⟨V130, L131⟩ := u127
                      obtain ⟨hMV130, ajV130, axL131, rgz126, t129⟩ := w128
                      have axL131 : L113 = L131 := Eq.symm axL131
                      subst axL131
                      have hP : va_P D vwCl (xw ad kk V130 L113 Z) H := hP
                      have hD : va_D A (xw ad kk V130 L113 Z) := hD
                      have hMV130 : rgd bX V130 := hMV130
                      have ajV130 : agr [] [42, 48] V112 V130 := ajV130
                      have agV130 : agr [(1, 3), (1, 6), (1, 8), (6, 8), (6, 9), (6, 10)] [42, 43, 44, 48] V V130 := agV112.tr ajV130 (by decide) (by decide)
                      have rgz126 : 1 ≤ z126.toInt ∧ z126.toInt ≤ 1 := rgz126
                      have t129 : (∃ U9 : Vf, emX V112 U9 b 14 ∧ emX U9 V130 b 0) := t129
                      obtain ⟨U132, e133, f134⟩ := t129
                      have cd135 : CDc V112 b sx96 := CDc.ag cd101 (show agr [(1, 3), (6, 8), (6, 9), (6, 10)] [] V93 V112 from (agr.tr agr.rf ajV112 (by decide) (by decide))) (fun _ => rfl) (fun _ => rfl)
                      have cd136 : CDc V112 b (nx sx96 1) := CDc.mv cd135 (show ∀ j9, j9 = 5 ∨ 2000 ≤ j9 → (nx sx96 1).2.1 j9 = sx96.2.1 j9 from fun j9 h9 => (show ∀ j9, 5 ≤ j9 → (nx sx96 1).2.1 j9 = sx96.2.1 j9 from fun _ _ => rfl) j9 (by omega))
                      have pk137 := cd136.1
                      have hr138 : ∀ k, Rc gT (Crun gs (Itake 40 :: Iexpr (gd + 1) :: Itake 44 :: Ipk1 (gd + 1) :: k)) (Crun (ptS (emS (nx sx96 1) 13 0 0) (cl (nx sx33 1)) (cl (emS (nx sx96 1) 13 0 0))) (Iexpr (gd + 1) :: Itake 41 :: Ipk3 (cl (nx sx96 1)) :: k)) := fun k => Rc.go1 (hr119 k) (m_pk2 (gd + 1) (cl (nx sx33 1)))
                      have rl139 : RelC V130 L113 b gT (nx sx96 1) := RelC.ag rl118 (show agr [] [42, 48] V112 V130 from (agr.tr agr.rf ajV130 (by decide) (by decide))) (by decide) (show agL [] L113 L113 from agL.rf) (by decide)
                      have rl140 : RelC V130 L113 b gT (emS (nx sx96 1) 13 0 0) := RelC.em rl139
                      have wk141 : wl sx96 + 2 * (emS (nx sx33 1) 12 0 0).1 0 ≤ wl (emS (nx sx33 1) 12 0 0) + 2 * sx96.1 0 + 1 ∧ (emS (nx sx33 1) 12 0 0).1 0 + 1 ≤ sx96.1 0 := ⟨wd102, (keepS.le kp99 (by decide)).1⟩
                      have wk142 : wl (nx sx96 1) = wl sx96 ∧ (nx sx96 1).1 0 = sx96.1 0 + 1 := ⟨rfl, rfl⟩
                      have wk143 : wl (emS (nx sx96 1) 13 0 0) = wl (nx sx96 1) + 2 ∧ (emS (nx sx96 1) 13 0 0).1 0 = (nx sx96 1).1 0 := ⟨(wl_em (nx sx96 1) 13 _ _).trans (congrArg (fun q9 => wl (nx sx96 1) + q9) (show szO 13 = 2 from by decide)), rfl⟩
                      have ph144 : (((emS (nx sx96 1) 13 0 0).1 0 : Nat) : Int) ≤ 4000 := Int.le_trans (rl140).1.1 (show 0 ≤ (V130 6 7).toInt ∧ (V130 6 7).toInt ≤ 4000 from hMV130 6 7).2
                      have hr145 : (V112 42 b).toInt + 1 < 8200 := by have h9 := cd136.1; omega
                      have cd146 : CDc V130 b (emS (nx sx96 1) 13 0 0) := CDc.e2a cd136 e133 f134 hr145 (by decide) (by decide) (by decide) (by decide) (show (Int32.toInt 0) = ((0 : Nat) : Int) from by decide) (fun h9 => by omega)
                      have rl147 : RelC V130 L113 b gT (ptS (emS (nx sx96 1) 13 0 0) (cl (nx sx33 1)) (cl (emS (nx sx96 1) 13 0 0))) := RelC.gl rl140 (by omega)
                      refine lv_pop hx hb dX1_readPick_86 rfl ?_
                      refine lv_aload_n hx hb dX1_readPick_87 rfl (lv_at hl 2 rfl) ?_
                      refine va_get (D := D) (ci := 1) (v := rfN ad 38 (V130 1 1)) (fs := (xfReader ad V130 L113 Z)) (C := RX1) (T := TX1) (N := 9) hx hb hg inX1 hown hK hP 1 xgReader rfl 1 (by decide) (hg _ w305) (fun _ h9 => h9) rfl dX1_readPick_88 ?_
                      have pq148 : (V130 1 1).toInt = ((V 1 1)).toInt := congrArg Int32.toInt ((ajV130 1 1 rfl).trans ((ajV112 1 1 rfl).trans ((ajV93 1 1 rfl).trans ((ajV69 1 1 rfl).trans ((ajV50 1 1 rfl).trans ((ajV30 1 1 rfl).trans (ajV9 1 1 rfl)))))))
                      refine g_topv (v := .ref (ad (38 + b))) (rfN_r (by first | omega | ((try (have i_t110 := Imp.go t110 (by omega))); (try (have i_t48 := Imp.go t48 (by omega))); (try (have i_t7 := Imp.go t7 (by omega))); (try (have i_t7 := Imp.go t7 (by omega))); (try (have i_t48 := Imp.go t48 (by omega))); (try (have i_t110 := Imp.go t110 (by omega))); omega))) ?_
                      refine lv_iload_n hx hb dX1_readPick_91 rfl (lv_at hl 1 rfl) ?_
                      refine lv_aload_n hx hb dX1_readPick_92 rfl (lv_at hl 2 rfl) ?_
                      refine va_get (D := D) (ci := 1) (v := rfN ad 38 (V130 1 1)) (fs := (xfReader ad V130 L113 Z)) (C := RX1) (T := TX1) (N := 9) hx hb hg inX1 hown hK hP 1 xgReader rfl 1 (by decide) (hg _ w305) (fun _ h9 => h9) rfl dX1_readPick_93 ?_
                      refine g_topv (v := .ref (ad (38 + b))) (rfN_r (by first | omega | ((try (have i_t110 := Imp.go t110 (by omega))); (try (have i_t48 := Imp.go t48 (by omega))); (try (have i_t7 := Imp.go t7 (by omega))); (try (have i_t7 := Imp.go t7 (by omega))); (try (have i_t48 := Imp.go t48 (by omega))); (try (have i_t110 := Imp.go t110 (by omega))); omega))) ?_
                      refine va_getN (D := D) (ci := 0) (v := .int (V130 42 b)) (fs := (xfBook ad V130 b)) (C := RX0) (T := TX0) (N := 13) hx hb hg inX0 hown hK hP (38 + b) (xgBook hb2) rfl 12 (by decide) (hnw.use 630 n630 rfl) (fun _ h9 => h9) rfl dX1_readPick_96 ?_
                      have r149 : 0 ≤ ((V130 42 b)).toInt ∧ ((V130 42 b)).toInt ≤ 8200 := hMV130 42 b
                      refine gA_void (gA_runV (As := [.int z62, .int (V130 42 b)]) (rest := []) (ci := 0) (q0 := (38 + b)) hx hb hml hown hg hP hD hK hS hA hnw hgk (x_patch l D ks H.size ad kk V130 L113 Z z62 (V130 42 b) (b) hMV130 (show b < 2 from by first | exact om_f940a4667dd6 hb2 | first | omega | ((try (have i_t110 := Imp.go t110 (by omega))); (try (have i_t48 := Imp.go t48 (by omega))); (try (have i_t7 := Imp.go t7 (by omega))); (try (have i_t7 := Imp.go t7 (by omega))); (try (have i_t48 := Imp.go t48 (by omega))); (try (have i_t110 := Imp.go t110 (by omega))); omega))) w987 w988 w989 w167 w990 rfl (xgBook hb2) hdV_yX0_patch ⟨(by show 0 + 1 ≤ 10 * dd + 10; (first | exact om_d42bae854ac7 rg_p0.2 y1 | omega)), (by show 8 + (3 + 11) + (0) ≤ 300 * dd + 265; (first | exact om_0f7fda923432 rg_p0.2 y1 | omega))⟩ rfl hl.1 rfl (Nat.le_of_ble_eq_true rfl) dX1_readPick_99 ⟨Nat.le_of_ble_eq_true rfl, Nat.le_of_ble_eq_true rfl⟩) hP hD hK hS hA (fun u151 H locs w152 hP hD hK hS => ?_)
                      obtain ⟨V154, L155⟩ := u151
                      obtain ⟨hMV154, ajV154, axL155, fyV154, t153⟩ := w152
                      have axL155 : L113 = L155 := Eq.symm axL155
                      subst axL155
                      have hP : va_P D vwCl (xw ad kk V154 L113 Z) H := hP
                      have hD : va_D A (xw ad kk V154 L113 Z) := hD
                      have hMV154 : rgd bX V154 := hMV154
                      have ajV154 : agr [] [48] V130 V154 := ajV154
                      have agV154 : agr [(1, 3), (1, 6), (1, 8), (6, 8), (6, 9), (6, 10)] [42, 43, 44, 48] V V154 := agV130.tr ajV154 (by decide) (by decide)
                      have t153 : (z62.toInt < 0 ∨ 8200 ≤ z62.toInt) ∧ V154 = V130 ∨ (0 ≤ z62.toInt ∧ z62.toInt < 8200 ∧ V154 = up2 V130 48 (8200 * b + Int32.toNatClampNeg z62) (V130 42 b)) := t153
                      have wk156 : wl (ptS (emS (nx sx96 1) 13 0 0) (cl (nx sx33 1)) (cl (emS (nx sx96 1) 13 0 0))) = wl (emS (nx sx96 1) 13 0 0) ∧ (ptS (emS (nx sx96 1) 13 0 0) (cl (nx sx33 1)) (cl (emS (nx sx96 1) 13 0 0))).1 0 = (emS (nx sx96 1) 13 0 0).1 0 := ⟨wl_pt _ _ _, rfl⟩
                      have rl158 : RelC V154 L113 b gT (ptS (emS (nx sx96 1) 13 0 0) (cl (nx sx33 1)) (cl (emS (nx sx96 1) 13 0 0))) := RelC.ag rl147 (show agr [] [48] V130 V154 from (agr.tr agr.rf ajV154 (by decide) (by decide))) (by decide) (show agL [] L113 L113 from agL.rf) (by decide)
                      have ph157 : (((ptS (emS (nx sx96 1) 13 0 0) (cl (nx sx33 1)) (cl (emS (nx sx96 1) 13 0 0))).1 0 : Nat) : Int) ≤ 4000 := Int.le_trans (rl158).1.1 (show 0 ≤ (V154 6 7).toInt ∧ (V154 6 7).toInt ≤ 4000 from hMV154 6 7).2
                      have hr159 : (V130 42 b).toInt + 1 < 8200 := by have h9 := cd146.1; omega
                      have pq161 : (V50 42 b).toInt = ((V30 42 b)).toInt := congrArg Int32.toInt (ajV50 42 b rfl)
                      have cd160 : CDc V154 b (ptS (emS (nx sx96 1) 13 0 0) (cl (nx sx33 1)) (cl (emS (nx sx96 1) 13 0 0))) := CDc.ptk cd146 (show ptX V130 V154 b z62 (V130 42 b) from t153) (keepE.tr (keepE.tr (keepE.tr (keepE.rf : keepE (emS (nx sx33 1) 12 0 0) (emS (nx sx33 1) 12 0 0)) ke100) (show keepE sx96 (nx sx96 1) from keepE.eq (show ∀ j9, 5 ≤ j9 → (nx sx96 1).2.1 j9 = sx96.2.1 j9 from fun _ _ => rfl))) (show keepE (nx sx96 1) (emS (nx sx96 1) 13 0 0) from keepE.em)) (em_lt (nx sx33 1) 12 _ 0) (Or.inl (op_em (nx sx33 1) 12 _ 0)) (show psz (opf (emS (nx sx33 1) 12 0 0)) (cl (nx sx33 1)) = wl (nx sx33 1) from psz_em (nx sx33 1) 12 _ 0 (Nat.le_refl _)) (show z62.toInt = ((wl (nx sx33 1) : Nat) : Int) + 1 from by omega) (show ((V130 42 b)).toInt = ((wl (emS (nx sx96 1) 13 0 0) : Nat) : Int) from by have h9 := cd146.1; omega) (by (first | exact om_6d8120405029 hr159 | omega))
                      refine lv_aload_n hx hb dX1_readPick_102 rfl (lv_at hl 2 rfl) ?_
                      refine lv_iload_n hx hb dX1_readPick_103 rfl (lv_at hl 3 rfl) ?_
                      refine lv_iconst (v := 1) hx hb dX1_readPick_104 (by decide) ?_
                      refine lv_iadd hx hb dX1_readPick_105 ?_
                      refine lv_topi (fun z162 ez162 => ?_)
                      have hz162 : z162.toInt = p0.toInt + 1 := i_add ez162 rfl (by decide) (by (first | exact om_7833cbc177ca rg_p0.1 rg_p0.2 | omega))
                      have pq163 : (V154 1 1).toInt = ((V 1 1)).toInt := congrArg Int32.toInt ((ajV154 1 1 rfl).trans ((ajV130 1 1 rfl).trans ((ajV112 1 1 rfl).trans ((ajV93 1 1 rfl).trans ((ajV69 1 1 rfl).trans ((ajV50 1 1 rfl).trans ((ajV30 1 1 rfl).trans (ajV9 1 1 rfl))))))))
                      refine gA_int (gA_runV (As := [.int z162]) (rest := []) (ci := 1) (q0 := 1) hx hb hml hown hg hP hD hK hS hA hnw hgk (hk_x_readExpression3 H.size ad kk V154 L113 Z z162 (b) (gT) ((ptS (emS (nx sx96 1) 13 0 0) (cl (nx sx33 1)) (cl (emS (nx sx96 1) 13 0 0)))) ((gd + 1)) hMV154 (by first | exact om_b66aae6510dc rg_p0.1 rg_p0.2 hz162 | first | omega | ((try (have i_t110 := Imp.go t110 (by omega))); (try (have i_t48 := Imp.go t48 (by omega))); (try (have i_t7 := Imp.go t7 (by omega))); (try (have i_t7 := Imp.go t7 (by omega))); (try (have i_t48 := Imp.go t48 (by omega))); (try (have i_t110 := Imp.go t110 (by omega))); omega)) (show b < 2 from by first | exact om_f940a4667dd6 hb2 | first | omega | ((try (have i_t110 := Imp.go t110 (by omega))); (try (have i_t48 := Imp.go t48 (by omega))); (try (have i_t7 := Imp.go t7 (by omega))); (try (have i_t7 := Imp.go t7 (by omega))); (try (have i_t48 := Imp.go t48 (by omega))); (try (have i_t110 := Imp.go t110 (by omega))); omega)) (show (V154 1 1).toInt = (b : Int) from by first | exact om_adf531c77a0d rbk pq163 | first | omega | ((try (have i_t110 := Imp.go t110 (by omega))); (try (have i_t48 := Imp.go t48 (by omega))); (try (have i_t7 := Imp.go t7 (by omega))); (try (have i_t7 := Imp.go t7 (by omega))); (try (have i_t48 := Imp.go t48 (by omega))); (try (have i_t110 := Imp.go t110 (by omega))); omega)) rl158 cd160 (show wl (ptS (emS (nx sx96 1) 13 0 0) (cl (nx sx33 1)) (cl (emS (nx sx96 1) 13 0 0))) ≤ 2 * (ptS (emS (nx sx96 1) 13 0 0) (cl (nx sx33 1)) (cl (emS (nx sx96 1) 13 0 0))).1 0 from by omega) (show z162.toInt = ((gd + 1) : Int) from by first | exact om_a9904d4d2531 yd hz162 | first | omega | ((try (have i_t110 := Imp.go t110 (by omega))); (try (have i_t48 := Imp.go t48 (by omega))); (try (have i_t7 := Imp.go t7 (by omega))); (try (have i_t7 := Imp.go t7 (by omega))); (try (have i_t48 := Imp.go t48 (by omega))); (try (have i_t110 := Imp.go t110 (by omega))); omega)) (((congrArg Int32.toInt ((ajV154 1 4 rfl).trans ((ajV130 1 4 rfl).trans ((ajV112 1 4 rfl).trans ((ajV93 1 4 rfl).trans ((ajV69 1 4 rfl).trans ((ajV50 1 4 rfl).trans ((ajV30 1 4 rfl).trans (ajV9 1 4 rfl))))))))).trans wh).trans (congrArg (fun n9 : Nat => (n9 : Int)) (((keepS.tr (keepS.tr (keepS.tr (keepS.tr (keepS.tr (keepS.tr (keepS.tr (keepS.tr (keepS.rf : keepS gs 0 gs) (keepS.n1 1)) kp36) (keepS.n1 1)) (show keepS (nx sx33 1) 0 (emS (nx sx33 1) 12 0 0) from keepS.em)) kp99) (keepS.n1 1)) (show keepS (nx sx96 1) 0 (emS (nx sx96 1) 13 0 0) from keepS.em)) (show keepS (emS (nx sx96 1) 13 0 0) 0 (ptS (emS (nx sx96 1) 13 0 0) (cl (nx sx33 1)) (cl (emS (nx sx96 1) 13 0 0))) from keepS.gl (by omega)))).2.1 4 (by decide)).symm)) (fun h9 => by rw [((ajV154 1 2 rfl).trans ((ajV130 1 2 rfl).trans ((ajV112 1 2 rfl).trans ((ajV93 1 2 rfl).trans ((ajV69 1 2 rfl).trans ((ajV50 1 2 rfl).trans ((ajV30 1 2 rfl).trans (ajV9 1 2 rfl))))))))]; exact ow ((congrArg Int32.toInt ((ajV154 1 4 rfl).trans ((ajV130 1 4 rfl).trans ((ajV112 1 4 rfl).trans ((ajV93 1 4 rfl).trans ((ajV69 1 4 rfl).trans ((ajV50 1 4 rfl).trans ((ajV30 1 4 rfl).trans (ajV9 1 4 rfl))))))))).symm.trans h9)) (show 8 - z162.toInt ≤ (dd : Int) from by first | exact om_2dee3eb3e2cf y1 hz162 | first | omega | ((try (have i_t110 := Imp.go t110 (by omega))); (try (have i_t48 := Imp.go t48 (by omega))); (try (have i_t7 := Imp.go t7 (by omega))); (try (have i_t7 := Imp.go t7 (by omega))); (try (have i_t48 := Imp.go t48 (by omega))); (try (have i_t110 := Imp.go t110 (by omega))); omega))) w951 w953 w21 w162 w954 rfl xgReader hdV_yX1_readExpression ⟨(by show 10 * dd + 9 + 1 ≤ 10 * dd + 10; (first | exact om_5cb1365e39a9 | omega)), (by show 8 + (3 + 11) + (300 * dd + 240) ≤ 300 * dd + 265; (first | exact om_31bfa1b830a4 | omega))⟩ rfl hl.1 rfl (Nat.le_of_ble_eq_true rfl) dX1_readPick_106 ⟨Nat.le_of_ble_eq_true rfl, Nat.le_of_ble_eq_true rfl⟩) hP hD hK hS hA (fun z164 u165 H locs w166 hP hD hK hS => ?_)
                      obtain ⟨V169, L170⟩ := u165
                      obtain ⟨hMV169, ajV169, axL170, rgz164, t167, t168⟩ := w166
                      have alL170 : agL [6, 44] L L170 := agL.tr alL113 axL170 (by decide)
                      have hP : va_P D vwCl (xw ad kk V169 L170 Z) H := hP
                      have hD : va_D A (xw ad kk V169 L170 Z) := hD
                      have hMV169 : rgd bX V169 := hMV169
                      have ajV169 : agr [(1, 3), (1, 6), (1, 8), (6, 8), (6, 9), (6, 10)] [42, 43, 44, 48] V154 V169 := ajV169
                      have agV169 : agr [(1, 3), (1, 6), (1, 8), (6, 8), (6, 9), (6, 10)] [42, 43, 44, 48] V V169 := agV154.tr ajV169 (by decide) (by decide)
                      have rgz164 : 0 ≤ z164.toInt ∧ z164.toInt ≤ 1 := rgz164
                      have t167 : Rd gT (ptS (emS (nx sx96 1) 13 0 0) (cl (nx sx33 1)) (cl (emS (nx sx96 1) 13 0 0))) (fun k => Iexpr (gd + 1) :: k) (fun k => k) z164.toInt (V169 1 3).toInt (fun s9 => RelC V169 L170 b gT s9 ∧ keepS (ptS (emS (nx sx96 1) 13 0 0) (cl (nx sx33 1)) (cl (emS (nx sx96 1) 13 0 0))) 1 s9 ∧ keepE (ptS (emS (nx sx96 1) 13 0 0) (cl (nx sx33 1)) (cl (emS (nx sx96 1) 13 0 0))) s9 ∧ CDc V169 b s9 ∧ wl s9 + 2 * (ptS (emS (nx sx96 1) 13 0 0) (cl (nx sx33 1)) (cl (emS (nx sx96 1) 13 0 0))).1 0 ≤ wl (ptS (emS (nx sx96 1) 13 0 0) (cl (nx sx33 1)) (cl (emS (nx sx96 1) 13 0 0))) + 2 * s9.1 0 + 1) := t167
                      have t168 : ROWL b L113 L170 := t168
                      rcases t167 with ⟨q171, sx172, h173, rl174, kp175, ke176, cd177, wd178⟩ | ⟨q171, h173⟩
                      · skip
                        have hr179 : ∀ k, Rc gT (Crun gs (Itake 40 :: Iexpr (gd + 1) :: Itake 44 :: Ipk1 (gd + 1) :: k)) (Crun sx172 (Itake 41 :: Ipk3 (cl (nx sx96 1)) :: k)) := fun k => (hr138 k).tr (h173 (Itake 41 :: Ipk3 (cl (nx sx96 1)) :: k))
                        refine lv_if_eq (tgt := 121) hx hb dX1_readPick_109 (by decide) (fun c180 => ?_) (fun c180 => ?_)
                        · skip
                          have f181 : z164.toInt = 0 := b_eq rfl (by decide) c180
                          exfalso; first | omega | ((try (have i_t110 := Imp.go t110 (by omega))); (try (have i_t48 := Imp.go t48 (by omega))); (try (have i_t7 := Imp.go t7 (by omega))); (try (have i_t7 := Imp.go t7 (by omega))); (try (have i_t48 := Imp.go t48 (by omega))); (try (have i_t110 := Imp.go t110 (by omega))); omega)
                        · skip
                          have f182 : z164.toInt ≠ 0 := b_neq rfl (by decide) c180
                          refine lv_aload_n hx hb dX1_readPick_112 rfl (lv_at hl 2 rfl) ?_
                          refine lv_bipush (v := 41) hx hb dX1_readPick_113 (by decide) ?_
                          have r183 : Int32.toInt 41 = 41 := by decide
                          refine gA_int (gA_runV (As := [.int 41]) (rest := []) (ci := 1) (q0 := 1) hx hb hml hown hg hP hD hK hS hA hnw hgk (x_take2 l D ks H.size ad kk V169 L170 Z 41 ((sx172.1 0)) hMV169 (rl174).1 (rl174).2.1.1 (show 1 ≤ (Int32.toInt 41) from by first | exact om_ed40a8603357 r183 | first | omega | ((try (have i_t110 := Imp.go t110 (by omega))); (try (have i_t48 := Imp.go t48 (by omega))); (try (have i_t7 := Imp.go t7 (by omega))); (try (have i_t7 := Imp.go t7 (by omega))); (try (have i_t48 := Imp.go t48 (by omega))); (try (have i_t110 := Imp.go t110 (by omega))); omega))) w893 w895 w10 w162 w896 rfl xgReader hdV_yX1_take ⟨(by show 1 + 1 ≤ 10 * dd + 10; (first | exact om_162fc0655431 rg_p0.2 y1 | omega)), (by show 8 + (2 + 11) + (21) ≤ 300 * dd + 265; (first | exact om_cb5b29a579d3 rg_p0.2 y1 | omega))⟩ rfl hl.1 rfl (Nat.le_of_ble_eq_true rfl) dX1_readPick_115 ⟨Nat.le_of_ble_eq_true rfl, Nat.le_of_ble_eq_true rfl⟩) hP hD hK hS hA (fun z184 u185 H locs w186 hP hD hK hS => ?_)
                          obtain ⟨V189, L190⟩ := u185
                          obtain ⟨hMV189, ajV189, axL190, rgz184, t187, t188⟩ := w186
                          have alL190 : agL [6, 44] L L190 := agL.tr alL170 axL190 (by decide)
                          have hP : va_P D vwCl (xw ad kk V189 L190 Z) H := hP
                          have hD : va_D A (xw ad kk V189 L190 Z) := hD
                          have hMV189 : rgd bX V189 := hMV189
                          have ajV189 : agr [(1, 3), (6, 8), (6, 9), (6, 10)] [] V169 V189 := ajV189
                          have agV189 : agr [(1, 3), (1, 6), (1, 8), (6, 8), (6, 9), (6, 10)] [42, 43, 44, 48] V V189 := agV169.tr ajV189 (by decide) (by decide)
                          have rgz184 : 0 ≤ z184.toInt ∧ z184.toInt ≤ 1 := rgz184
                          have t187 : Imp (z184.toInt = 0) (1 ≤ (V189 1 3).toInt) := t187
                          have t188 : (z184.toInt = 1 ∧ (V169 12 (sx172.1 0)).toInt = (Int32.toInt 41) ∧ CUR V189 L190 ((sx172.1 0) + 1) ∧ V189 1 3 = V169 1 3) ∨ (z184.toInt = 0 ∧ (V169 12 (sx172.1 0)).toInt ≠ (Int32.toInt 41) ∧ (V189 1 3).toInt = 1 + 16 * (V169 13 (sx172.1 0)).toInt) := t188
                          rcases t188 with ⟨q191, h192, k193, k194⟩ | ⟨q191, h192, k193⟩
                          · skip
                            have rl195 : RelC V189 L190 b gT (nx sx172 1) := RelC.nx1 rl174 ajV189 (by decide) axL190 (by decide) k193 k194
                            have hr196 : ∀ k, Rc gT (Crun gs (Itake 40 :: Iexpr (gd + 1) :: Itake 44 :: Ipk1 (gd + 1) :: k)) (Crun (nx sx172 1) (Ipk3 (cl (nx sx96 1)) :: k)) := fun k => Rc.go1 (hr179 k) (tk_y (rl174.tok.1.trans (h192.trans (by decide))))
                            refine lv_if_ne (tgt := 123) hx hb dX1_readPick_118 (by decide) (fun c197 => ?_) (fun c197 => ?_)
                            · skip
                              have f198 : z184.toInt ≠ 0 := b_neq rfl (by decide) c197
                              refine lv_aload_n hx hb dX1_readPick_123 rfl (lv_at hl 2 rfl) ?_
                              refine va_get (D := D) (ci := 1) (v := rfN ad 38 (V189 1 1)) (fs := (xfReader ad V189 L190 Z)) (C := RX1) (T := TX1) (N := 9) hx hb hg inX1 hown hK hP 1 xgReader rfl 1 (by decide) (hg _ w305) (fun _ h9 => h9) rfl dX1_readPick_124 ?_
                              have pq199 : (V189 1 1).toInt = ((V 1 1)).toInt := congrArg Int32.toInt ((ajV189 1 1 rfl).trans ((ajV169 1 1 rfl).trans ((ajV154 1 1 rfl).trans ((ajV130 1 1 rfl).trans ((ajV112 1 1 rfl).trans ((ajV93 1 1 rfl).trans ((ajV69 1 1 rfl).trans ((ajV50 1 1 rfl).trans ((ajV30 1 1 rfl).trans (ajV9 1 1 rfl))))))))))
                              refine g_topv (v := .ref (ad (38 + b))) (rfN_r (by first | omega | ((try (have i_t187 := Imp.go t187 (by omega))); (try (have i_t110 := Imp.go t110 (by omega))); (try (have i_t48 := Imp.go t48 (by omega))); (try (have i_t7 := Imp.go t7 (by omega))); first | omega | ((try (have i_t7 := Imp.go t7 (by omega))); (try (have i_t48 := Imp.go t48 (by omega))); (try (have i_t110 := Imp.go t110 (by omega))); (try (have i_t187 := Imp.go t187 (by omega))); omega)))) ?_
                              refine lv_iload_n hx hb dX1_readPick_127 rfl (lv_at hl 0 rfl) ?_
                              refine lv_aload_n hx hb dX1_readPick_128 rfl (lv_at hl 2 rfl) ?_
                              refine va_get (D := D) (ci := 1) (v := rfN ad 38 (V189 1 1)) (fs := (xfReader ad V189 L190 Z)) (C := RX1) (T := TX1) (N := 9) hx hb hg inX1 hown hK hP 1 xgReader rfl 1 (by decide) (hg _ w305) (fun _ h9 => h9) rfl dX1_readPick_129 ?_
                              refine g_topv (v := .ref (ad (38 + b))) (rfN_r (by first | omega | ((try (have i_t187 := Imp.go t187 (by omega))); (try (have i_t110 := Imp.go t110 (by omega))); (try (have i_t48 := Imp.go t48 (by omega))); (try (have i_t7 := Imp.go t7 (by omega))); first | omega | ((try (have i_t7 := Imp.go t7 (by omega))); (try (have i_t48 := Imp.go t48 (by omega))); (try (have i_t110 := Imp.go t110 (by omega))); (try (have i_t187 := Imp.go t187 (by omega))); omega)))) ?_
                              refine va_getN (D := D) (ci := 0) (v := .int (V189 42 b)) (fs := (xfBook ad V189 b)) (C := RX0) (T := TX0) (N := 13) hx hb hg inX0 hown hK hP (38 + b) (xgBook hb2) rfl 12 (by decide) (hnw.use 630 n630 rfl) (fun _ h9 => h9) rfl dX1_readPick_132 ?_
                              refine g_top (v := (V169 42 b)) (ajV189 42 b rfl) ?_
                              have r200 : 0 ≤ ((V169 42 b)).toInt ∧ ((V169 42 b)).toInt ≤ 8200 := hMV169 42 b
                              refine gA_void (gA_runV (As := [.int z124, .int (V169 42 b)]) (rest := []) (ci := 0) (q0 := (38 + b)) hx hb hml hown hg hP hD hK hS hA hnw hgk (x_patch l D ks H.size ad kk V189 L190 Z z124 (V169 42 b) (b) hMV189 (show b < 2 from by first | exact om_f940a4667dd6 hb2 | first | omega | ((try (have i_t187 := Imp.go t187 (by omega))); (try (have i_t110 := Imp.go t110 (by omega))); (try (have i_t48 := Imp.go t48 (by omega))); (try (have i_t7 := Imp.go t7 (by omega))); first | omega | ((try (have i_t7 := Imp.go t7 (by omega))); (try (have i_t48 := Imp.go t48 (by omega))); (try (have i_t110 := Imp.go t110 (by omega))); (try (have i_t187 := Imp.go t187 (by omega))); omega)))) w987 w988 w989 w167 w990 rfl (xgBook hb2) hdV_yX0_patch ⟨(by show 0 + 1 ≤ 10 * dd + 10; (first | exact om_d42bae854ac7 rg_p0.2 y1 | omega)), (by show 8 + (3 + 11) + (0) ≤ 300 * dd + 265; (first | exact om_0f7fda923432 rg_p0.2 y1 | omega))⟩ rfl hl.1 rfl (Nat.le_of_ble_eq_true rfl) dX1_readPick_135 ⟨Nat.le_of_ble_eq_true rfl, Nat.le_of_ble_eq_true rfl⟩) hP hD hK hS hA (fun u202 H locs w203 hP hD hK hS => ?_)
                              obtain ⟨V205, L206⟩ := u202
                              obtain ⟨hMV205, ajV205, axL206, fyV205, t204⟩ := w203
                              have axL206 : L190 = L206 := Eq.symm axL206
                              subst axL206
                              have hP : va_P D vwCl (xw ad kk V205 L190 Z) H := hP
                              have hD : va_D A (xw ad kk V205 L190 Z) := hD
                              have hMV205 : rgd bX V205 := hMV205
                              have ajV205 : agr [] [48] V189 V205 := ajV205
                              have agV205 : agr [(1, 3), (1, 6), (1, 8), (6, 8), (6, 9), (6, 10)] [42, 43, 44, 48] V V205 := agV189.tr ajV205 (by decide) (by decide)
                              have t204 : (z124.toInt < 0 ∨ 8200 ≤ z124.toInt) ∧ V205 = V189 ∨ (0 ≤ z124.toInt ∧ z124.toInt < 8200 ∧ V205 = up2 V189 48 (8200 * b + Int32.toNatClampNeg z124) (V169 42 b)) := t204
                              have hr207 : ∀ k, Rc gT (Crun gs (Itake 40 :: Iexpr (gd + 1) :: Itake 44 :: Ipk1 (gd + 1) :: k)) (Crun (ptS (nx sx172 1) (cl (nx sx96 1)) (cl (nx sx172 1))) (k)) := fun k => Rc.go1 (hr196 k) (m_pk3 (cl (nx sx96 1)))
                              have rl208 : RelC V205 L190 b gT (nx sx172 1) := RelC.ag rl195 (show agr [] [48] V189 V205 from (agr.tr agr.rf ajV205 (by decide) (by decide))) (by decide) (show agL [] L190 L190 from agL.rf) (by decide)
                              have rl209 : RelC V205 L190 b gT (ptS (nx sx172 1) (cl (nx sx96 1)) (cl (nx sx172 1))) := RelC.gl rl208 (by omega)
                              have cd210 : CDc V189 b sx172 := CDc.ag cd177 (show agr [(1, 3), (6, 8), (6, 9), (6, 10)] [] V169 V189 from (agr.tr agr.rf ajV189 (by decide) (by decide))) (fun _ => rfl) (fun _ => rfl)
                              have cd211 : CDc V189 b (nx sx172 1) := CDc.mv cd210 (show ∀ j9, j9 = 5 ∨ 2000 ≤ j9 → (nx sx172 1).2.1 j9 = sx172.2.1 j9 from fun j9 h9 => (show ∀ j9, 5 ≤ j9 → (nx sx172 1).2.1 j9 = sx172.2.1 j9 from fun _ _ => rfl) j9 (by omega))
                              have wk212 : wl sx172 + 2 * (ptS (emS (nx sx96 1) 13 0 0) (cl (nx sx33 1)) (cl (emS (nx sx96 1) 13 0 0))).1 0 ≤ wl (ptS (emS (nx sx96 1) 13 0 0) (cl (nx sx33 1)) (cl (emS (nx sx96 1) 13 0 0))) + 2 * sx172.1 0 + 1 ∧ (ptS (emS (nx sx96 1) 13 0 0) (cl (nx sx33 1)) (cl (emS (nx sx96 1) 13 0 0))).1 0 + 1 ≤ sx172.1 0 := ⟨wd178, (keepS.le kp175 (by decide)).1⟩
                              have wk213 : wl (nx sx172 1) = wl sx172 ∧ (nx sx172 1).1 0 = sx172.1 0 + 1 := ⟨rfl, rfl⟩
                              have wk214 : wl (ptS (nx sx172 1) (cl (nx sx96 1)) (cl (nx sx172 1))) = wl (nx sx172 1) ∧ (ptS (nx sx172 1) (cl (nx sx96 1)) (cl (nx sx172 1))).1 0 = (nx sx172 1).1 0 := ⟨wl_pt _ _ _, rfl⟩
                              have ph215 : (((ptS (nx sx172 1) (cl (nx sx96 1)) (cl (nx sx172 1))).1 0 : Nat) : Int) ≤ 4000 := Int.le_trans (rl209).1.1 (show 0 ≤ (V205 6 7).toInt ∧ (V205 6 7).toInt ≤ 4000 from hMV205 6 7).2
                              have hr216 : (V189 42 b).toInt + 1 < 8200 := by have h9 := cd211.1; omega
                              have pq218 : (V189 42 b).toInt = ((V169 42 b)).toInt := congrArg Int32.toInt (ajV189 42 b rfl)
                              have pq219 : (V112 42 b).toInt = ((V93 42 b)).toInt := congrArg Int32.toInt (ajV112 42 b rfl)
                              have cd217 : CDc V205 b (ptS (nx sx172 1) (cl (nx sx96 1)) (cl (nx sx172 1))) := CDc.ptk cd211 (show ptX V189 V205 b z124 (V169 42 b) from t204) (keepE.tr (keepE.tr (keepE.rf : keepE (ptS (emS (nx sx96 1) 13 0 0) (cl (nx sx33 1)) (cl (emS (nx sx96 1) 13 0 0))) (ptS (emS (nx sx96 1) 13 0 0) (cl (nx sx33 1)) (cl (emS (nx sx96 1) 13 0 0)))) ke176) (show keepE sx172 (nx sx172 1) from keepE.eq (show ∀ j9, 5 ≤ j9 → (nx sx172 1).2.1 j9 = sx172.2.1 j9 from fun _ _ => rfl))) (pq_cl (nx sx96 1) _ _) (Or.inr (pq_op (nx sx96 1) _ _)) (pq_pz (nx sx96 1) _ _) (show z124.toInt = ((wl (nx sx96 1) : Nat) : Int) + 1 from by omega) (show ((V169 42 b)).toInt = ((wl (nx sx172 1) : Nat) : Int) from by have h9 := cd211.1; omega) (by (first | exact om_6d8120405029 hr216 | omega))
                              refine lv_iconst (v := 1) hx hb dX1_readPick_138 (by decide) ?_
                              have rw220 : ROWL b L L190 := (fun k hk => ((axL190 44 k rfl).trans ((t168 k hk).trans ((axL113 44 k rfl).trans ((t92 k hk).trans ((axL51 44 k rfl).trans ((t29 k hk).trans ((axL10 44 k rfl).trans rfl))))))))
                              exact W.zret (v := 1) hx hb hr rfl (fun t ht hW => ⟨⟨1, (V205, L190), rfl, ⟨hMV205, agV205, alL190, (by decide), (Or.inl ⟨rfl, (ptS (nx sx172 1) (cl (nx sx96 1)) (cl (nx sx172 1))), hr207, rl209, keepS.le (keepS.tr (keepS.tr (keepS.tr (keepS.tr (keepS.tr (keepS.tr (keepS.tr (keepS.tr (keepS.tr (keepS.tr (keepS.tr (keepS.rf : keepS gs 0 gs) (keepS.n1 1)) kp36) (keepS.n1 1)) (show keepS (nx sx33 1) 0 (emS (nx sx33 1) 12 0 0) from keepS.em)) kp99) (keepS.n1 1)) (show keepS (nx sx96 1) 0 (emS (nx sx96 1) 13 0 0) from keepS.em)) (show keepS (emS (nx sx96 1) 13 0 0) 0 (ptS (emS (nx sx96 1) 13 0 0) (cl (nx sx33 1)) (cl (emS (nx sx96 1) 13 0 0))) from keepS.gl (by omega))) kp175) (keepS.n1 1)) (show keepS (nx sx172 1) 0 (ptS (nx sx172 1) (cl (nx sx96 1)) (cl (nx sx172 1))) from keepS.gl (by omega))) (by decide), (show keepE gs (ptS (nx sx172 1) (cl (nx sx96 1)) (cl (nx sx172 1))) from keepE.pt (keepE.tr (keepE.tr (show keepE gs (ptS (emS (nx sx96 1) 13 0 0) (cl (nx sx33 1)) (cl (emS (nx sx96 1) 13 0 0))) from keepE.pt (keepE.tr (keepE.tr (keepE.tr (keepE.tr (keepE.tr (keepE.tr (keepE.tr (keepE.rf : keepE gs gs) (show keepE gs (nx gs 1) from keepE.eq (show ∀ j9, 5 ≤ j9 → (nx gs 1).2.1 j9 = gs.2.1 j9 from fun _ _ => rfl))) ke37) (show keepE sx33 (nx sx33 1) from keepE.eq (show ∀ j9, 5 ≤ j9 → (nx sx33 1).2.1 j9 = sx33.2.1 j9 from fun _ _ => rfl))) (show keepE (nx sx33 1) (emS (nx sx33 1) 12 0 0) from keepE.em)) ke100) (show keepE sx96 (nx sx96 1) from keepE.eq (show ∀ j9, 5 ≤ j9 → (nx sx96 1).2.1 j9 = sx96.2.1 j9 from fun _ _ => rfl))) (show keepE (nx sx96 1) (emS (nx sx96 1) 13 0 0) from keepE.em)) ((keepE.tr (keepE.tr (keepE.tr (keepE.rf : keepE gs gs) (show keepE gs (nx gs 1) from keepE.eq (show ∀ j9, 5 ≤ j9 → (nx gs 1).2.1 j9 = gs.2.1 j9 from fun _ _ => rfl))) ke37) (show keepE sx33 (nx sx33 1) from keepE.eq (show ∀ j9, 5 ≤ j9 → (nx sx33 1).2.1 j9 = sx33.2.1 j9 from fun _ _ => rfl)))).1) ke176) (show keepE sx172 (nx sx172 1) from keepE.eq (show ∀ j9, 5 ≤ j9 → (nx sx172 1).2.1 j9 = sx172.2.1 j9 from fun _ _ => rfl))) ((keepE.tr (keepE.tr (keepE.tr (keepE.tr (keepE.tr (keepE.tr (keepE.rf : keepE gs gs) (show keepE gs (nx gs 1) from keepE.eq (show ∀ j9, 5 ≤ j9 → (nx gs 1).2.1 j9 = gs.2.1 j9 from fun _ _ => rfl))) ke37) (show keepE sx33 (nx sx33 1) from keepE.eq (show ∀ j9, 5 ≤ j9 → (nx sx33 1).2.1 j9 = sx33.2.1 j9 from fun _ _ => rfl))) (show keepE (nx sx33 1) (emS (nx sx33 1) 12 0 0) from keepE.em)) ke100) (show keepE sx96 (nx sx96 1) from keepE.eq (show ∀ j9, 5 ≤ j9 → (nx sx96 1).2.1 j9 = sx96.2.1 j9 from fun _ _ => rfl)))).1), cd217, (by omega)⟩), rw220⟩, by rw [ht]; exact hP, va_K.moved hW.alike hK, hD⟩, hS.F ht⟩) hS.2.2 dX1_readPick_139
                            · skip
                              have f221 : z184.toInt = 0 := b_eq rfl (by decide) c197
                              exfalso; first | exact om_495ee03a60ae q191 f221 | first | omega | ((try (have i_t187 := Imp.go t187 (f221))); omega) | ((try (have i_t187 := Imp.go t187 (by omega))); (try (have i_t110 := Imp.go t110 (by omega))); (try (have i_t48 := Imp.go t48 (by omega))); (try (have i_t7 := Imp.go t7 (by omega))); first | omega | ((try (have i_t7 := Imp.go t7 (by omega))); (try (have i_t48 := Imp.go t48 (by omega))); (try (have i_t110 := Imp.go t110 (by omega))); (try (have i_t187 := Imp.go t187 (by omega))); omega))
                          · skip
                            have hb222 : ∀ k, Rc gT (Crun gs (Itake 40 :: Iexpr (gd + 1) :: Itake 44 :: Ipk1 (gd + 1) :: k)) (Cbad (V189 1 3).toInt) := fun k => Rc.go1 (hr179 k) ((tk_n (fun h9 => h192 (rl174.tok.1.symm.trans (h9.trans (by decide))))).trans (fl_eq rl174.tok.2.2 k193))
                            refine lv_if_ne (tgt := 123) hx hb dX1_readPick_118 (by decide) (fun c223 => ?_) (fun c223 => ?_)
                            · skip
                              have f224 : z184.toInt ≠ 0 := b_neq rfl (by decide) c223
                              exfalso; first | exact om_fb320d7600b7 rgz184.1 q191 f224 | first | omega | ((try (have i_t187 := Imp.go t187 (by omega))); (try (have i_t110 := Imp.go t110 (by omega))); (try (have i_t48 := Imp.go t48 (by omega))); (try (have i_t7 := Imp.go t7 (by omega))); first | omega | ((try (have i_t7 := Imp.go t7 (by omega))); (try (have i_t48 := Imp.go t48 (by omega))); (try (have i_t110 := Imp.go t110 (by omega))); (try (have i_t187 := Imp.go t187 (by omega))); omega))
                            · skip
                              have f225 : z184.toInt = 0 := b_eq rfl (by decide) c223
                              refine lv_iconst (v := 0) hx hb dX1_readPick_121 (by decide) ?_
                              have rw226 : ROWL b L L190 := (fun k hk => ((axL190 44 k rfl).trans ((t168 k hk).trans ((axL113 44 k rfl).trans ((t92 k hk).trans ((axL51 44 k rfl).trans ((t29 k hk).trans ((axL10 44 k rfl).trans rfl))))))))
                              exact W.zret (v := 0) hx hb hr rfl (fun t ht hW => ⟨⟨0, (V189, L190), rfl, ⟨hMV189, agV189, alL190, (by decide), (Or.inr ⟨rfl, hb222⟩), rw226⟩, by rw [ht]; exact hP, va_K.moved hW.alike hK, hD⟩, hS.F ht⟩) hS.2.2 dX1_readPick_122
                      · skip
                        have hb227 : ∀ k, Rc gT (Crun gs (Itake 40 :: Iexpr (gd + 1) :: Itake 44 :: Ipk1 (gd + 1) :: k)) (Cbad (V169 1 3).toInt) := fun k => (hr138 k).tr (h173 (Itake 41 :: Ipk3 (cl (nx sx96 1)) :: k))
                        refine lv_if_eq (tgt := 121) hx hb dX1_readPick_109 (by decide) (fun c228 => ?_) (fun c228 => ?_)
                        · skip
                          have f229 : z164.toInt = 0 := b_eq rfl (by decide) c228
                          refine lv_iconst (v := 0) hx hb dX1_readPick_121 (by decide) ?_
                          have rw230 : ROWL b L L170 := (fun k hk => ((t168 k hk).trans ((axL113 44 k rfl).trans ((t92 k hk).trans ((axL51 44 k rfl).trans ((t29 k hk).trans ((axL10 44 k rfl).trans rfl)))))))
                          exact W.zret (v := 0) hx hb hr rfl (fun t ht hW => ⟨⟨0, (V169, L170), rfl, ⟨hMV169, agV169, alL170, (by decide), (Or.inr ⟨rfl, hb227⟩), rw230⟩, by rw [ht]; exact hP, va_K.moved hW.alike hK, hD⟩, hS.F ht⟩) hS.2.2 dX1_readPick_122
                        · skip
                          have f231 : z164.toInt ≠ 0 := b_neq rfl (by decide) c228
                          exfalso; first | omega | ((try (have i_t110 := Imp.go t110 (by omega))); (try (have i_t48 := Imp.go t48 (by omega))); (try (have i_t7 := Imp.go t7 (by omega))); (try (have i_t7 := Imp.go t7 (by omega))); (try (have i_t48 := Imp.go t48 (by omega))); (try (have i_t110 := Imp.go t110 (by omega))); omega)
                    · skip
                      have f232 : z107.toInt = 0 := b_eq rfl (by decide) c120
                      exfalso; first | exact om_495ee03a60ae q114 f232 | first | omega | ((try (have i_t110 := Imp.go t110 (by omega))); (try (have i_t48 := Imp.go t48 (by omega))); (try (have i_t7 := Imp.go t7 (by omega))); (try (have i_t7 := Imp.go t7 (by omega))); (try (have i_t48 := Imp.go t48 (by omega))); (try (have i_t110 := Imp.go t110 (by omega))); omega)
                  · skip
                    have hb233 : ∀ k, Rc gT (Crun gs (Itake 40 :: Iexpr (gd + 1) :: Itake 44 :: Ipk1 (gd + 1) :: k)) (Cbad (V112 1 3).toInt) := fun k => Rc.go1 (hr103 k) ((tk_n (fun h9 => h115 (rl98.tok.1.symm.trans (h9.trans (by decide))))).trans (fl_eq rl98.tok.2.2 k116))
                    refine lv_if_ne (tgt := 69) hx hb dX1_readPick_64 (by decide) (fun c234 => ?_) (fun c234 => ?_)
                    · skip
                      have f235 : z107.toInt ≠ 0 := b_neq rfl (by decide) c234
                      exfalso; first | exact om_fb320d7600b7 rgz107.1 q114 f235 | first | omega | ((try (have i_t110 := Imp.go t110 (by omega))); (try (have i_t48 := Imp.go t48 (by omega))); (try (have i_t7 := Imp.go t7 (by omega))); (try (have i_t7 := Imp.go t7 (by omega))); (try (have i_t48 := Imp.go t48 (by omega))); (try (have i_t110 := Imp.go t110 (by omega))); omega)
                    · skip
                      have f236 : z107.toInt = 0 := b_eq rfl (by decide) c234
                      refine lv_iconst (v := 0) hx hb dX1_readPick_67 (by decide) ?_
                      have rw237 : ROWL b L L113 := (fun k hk => ((axL113 44 k rfl).trans ((t92 k hk).trans ((axL51 44 k rfl).trans ((t29 k hk).trans ((axL10 44 k rfl).trans rfl))))))
                      exact W.zret (v := 0) hx hb hr rfl (fun t ht hW => ⟨⟨0, (V112, L113), rfl, ⟨hMV112, agV112, alL113, (by decide), (Or.inr ⟨rfl, hb233⟩), rw237⟩, by rw [ht]; exact hP, va_K.moved hW.alike hK, hD⟩, hS.F ht⟩) hS.2.2 dX1_readPick_68
              · skip
                have hb238 : ∀ k, Rc gT (Crun gs (Itake 40 :: Iexpr (gd + 1) :: Itake 44 :: Ipk1 (gd + 1) :: k)) (Cbad (V93 1 3).toInt) := fun k => (hr77 k).tr (h97 (Itake 44 :: Ipk2 (gd + 1) (cl (nx sx33 1)) :: k))
                refine lv_if_eq (tgt := 67) hx hb dX1_readPick_55 (by decide) (fun c239 => ?_) (fun c239 => ?_)
                · skip
                  have f240 : z88.toInt = 0 := b_eq rfl (by decide) c239
                  refine lv_iconst (v := 0) hx hb dX1_readPick_67 (by decide) ?_
                  have rw241 : ROWL b L L94 := (fun k hk => ((t92 k hk).trans ((axL51 44 k rfl).trans ((t29 k hk).trans ((axL10 44 k rfl).trans rfl)))))
                  exact W.zret (v := 0) hx hb hr rfl (fun t ht hW => ⟨⟨0, (V93, L94), rfl, ⟨hMV93, agV93, alL94, (by decide), (Or.inr ⟨rfl, hb238⟩), rw241⟩, by rw [ht]; exact hP, va_K.moved hW.alike hK, hD⟩, hS.F ht⟩) hS.2.2 dX1_readPick_68
                · skip
                  have f242 : z88.toInt ≠ 0 := b_neq rfl (by decide) c239
                  exfalso; first | omega | ((try (have i_t48 := Imp.go t48 (by omega))); (try (have i_t7 := Imp.go t7 (by omega))); (try (have i_t7 := Imp.go t7 (by omega))); (try (have i_t48 := Imp.go t48 (by omega))); omega)
            · skip
              have f243 : z45.toInt = 0 := b_eq rfl (by decide) c58
              exfalso; first | exact om_495ee03a60ae q52 f243 | first | omega | ((try (have i_t48 := Imp.go t48 (by omega))); (try (have i_t7 := Imp.go t7 (by omega))); (try (have i_t7 := Imp.go t7 (by omega))); (try (have i_t48 := Imp.go t48 (by omega))); omega)
          · skip
            have hb244 : ∀ k, Rc gT (Crun gs (Itake 40 :: Iexpr (gd + 1) :: Itake 44 :: Ipk1 (gd + 1) :: k)) (Cbad (V50 1 3).toInt) := fun k => Rc.go1 (hr40 k) ((tk_n (fun h9 => h53 (rl35.tok.1.symm.trans (h9.trans (by decide))))).trans (fl_eq rl35.tok.2.2 k54))
            refine lv_if_ne (tgt := 30) hx hb dX1_readPick_25 (by decide) (fun c245 => ?_) (fun c245 => ?_)
            · skip
              have f246 : z45.toInt ≠ 0 := b_neq rfl (by decide) c245
              exfalso; first | exact om_fb320d7600b7 rgz45.1 q52 f246 | first | omega | ((try (have i_t48 := Imp.go t48 (by omega))); (try (have i_t7 := Imp.go t7 (by omega))); (try (have i_t7 := Imp.go t7 (by omega))); (try (have i_t48 := Imp.go t48 (by omega))); omega)
            · skip
              have f247 : z45.toInt = 0 := b_eq rfl (by decide) c245
              refine lv_iconst (v := 0) hx hb dX1_readPick_28 (by decide) ?_
              have rw248 : ROWL b L L51 := (fun k hk => ((axL51 44 k rfl).trans ((t29 k hk).trans ((axL10 44 k rfl).trans rfl))))
              exact W.zret (v := 0) hx hb hr rfl (fun t ht hW => ⟨⟨0, (V50, L51), rfl, ⟨hMV50, agV50, alL51, (by decide), (Or.inr ⟨rfl, hb244⟩), rw248⟩, by rw [ht]; exact hP, va_K.moved hW.alike hK, hD⟩, hS.F ht⟩) hS.2.2 dX1_readPick_29
      · skip
        have hb249 : ∀ k, Rc gT (Crun gs (Itake 40 :: Iexpr (gd + 1) :: Itake 44 :: Ipk1 (gd + 1) :: k)) (Cbad (V30 1 3).toInt) := fun k => (hr16 k).tr (h34 (Itake 44 :: Ipk1 (gd + 1) :: k))
        refine lv_if_eq (tgt := 28) hx hb dX1_readPick_16 (by decide) (fun c250 => ?_) (fun c250 => ?_)
        · skip
          have f251 : z25.toInt = 0 := b_eq rfl (by decide) c250
          refine lv_iconst (v := 0) hx hb dX1_readPick_28 (by decide) ?_
          have rw252 : ROWL b L L31 := (fun k hk => ((t29 k hk).trans ((axL10 44 k rfl).trans rfl)))
          exact W.zret (v := 0) hx hb hr rfl (fun t ht hW => ⟨⟨0, (V30, L31), rfl, ⟨hMV30, agV30, alL31, (by decide), (Or.inr ⟨rfl, hb249⟩), rw252⟩, by rw [ht]; exact hP, va_K.moved hW.alike hK, hD⟩, hS.F ht⟩) hS.2.2 dX1_readPick_29
        · skip
          have f253 : z25.toInt ≠ 0 := b_neq rfl (by decide) c250
          exfalso; first | omega | ((try (have i_t7 := Imp.go t7 (by omega))); omega)
  · skip
    have hb254 : ∀ k, Rc gT (Crun gs (Itake 40 :: Iexpr (gd + 1) :: Itake 44 :: Ipk1 (gd + 1) :: k)) (Cbad (V9 1 3).toInt) := fun k => Rc.go1 (hr2 k) ((tk_n (fun h9 => h12 (rel.tok.1.symm.trans (h9.trans (by decide))))).trans (fl_eq rel.tok.2.2 k13))
    refine lv_if_eq (tgt := 28) hx hb dX1_readPick_6 (by decide) (fun c255 => ?_) (fun c255 => ?_)
    · skip
      have f256 : z4.toInt = 0 := b_eq rfl (by decide) c255
      refine lv_iconst (v := 0) hx hb dX1_readPick_28 (by decide) ?_
      have rw257 : ROWL b L L10 := (fun k hk => ((axL10 44 k rfl).trans rfl))
      exact W.zret (v := 0) hx hb hr rfl (fun t ht hW => ⟨⟨0, (V9, L10), rfl, ⟨hMV9, agV9, alL10, (by decide), (Or.inr ⟨rfl, hb254⟩), rw257⟩, by rw [ht]; exact hP, va_K.moved hW.alike hK, hD⟩, hS.F ht⟩) hS.2.2 dX1_readPick_29
    · skip
      have f258 : z4.toInt ≠ 0 := b_neq rfl (by decide) c255
      exfalso; first | exact om_fb320d7600b7 rgz4.1 q11 f258 | first | omega | ((try (have i_t7 := Imp.go t7 (by omega))); omega)
set_option maxHeartbeats 4000000 in
set_option maxRecDepth 100000 in
theorem x_readOf3 {l : Launch} {D : va_G} {ks : KS} {dd : Nat} (hk_x_readWithin3 : K_x_readWithin3 l D ks dd) : K_x_readOf3 l D ks dd := by
  intro sz ad kk V L Z p0 b gT gs gd hMV rg_p0 hb2 rbk rel cdq hwl yd wh ow y1 owz
  refine g_met (q_x_readOf3 D ks ad kk V L Z p0 b gT gs gd) (by decide) (Nat.le_of_ble_eq_true rfl) ?_
  intro p e s m below meth c A ls H locs hx hb hr hml hown hg hlocks hin hnw hgk hP hK hD hS hA hl
  have hown : s.vm.findClass RX1 = some m.cls := hown
  have hl : lv_has ls 4 [(0, .ref (ad 1)), (1, .int p0)] := hl
  have hP : va_P D vwCl (xw ad kk V L Z) H := hP
  have hD : va_D A (xw ad kk V L Z) := hD
  have hK : va_K D vwCl (xty kk Z) s := hK
  have agV : agr [(1, 3), (1, 6), (1, 8), (6, 8), (6, 9), (6, 10)] [42, 43, 44, 48] V V := agr.rf
  have alL : agL [6, 44] L L := agL.rf
  have rf_p0 := i_full p0
  have r1 : (-1) ≤ ((V 1 1)).toInt ∧ ((V 1 1)).toInt ≤ 1 := hMV 1 1
  have r2 : (-1) ≤ ((V 1 2)).toInt ∧ ((V 1 2)).toInt ≤ 47 := hMV 1 2
  have ko := i_clamp (x := V 1 2) rfl (by (first | exact om_eafa9039069c owz | omega))
  have ro9 : -1 ≤ (V 1 2).toInt ∧ (V 1 2).toInt ≤ 47 := hMV 1 2
  have ow49 := (rel.2.2.2.2 (by omega)).1
  refine lv_aload_n hx hb dX1_readOf_0 rfl (lv_at hl 0 rfl) ?_
  refine lv_iconst (v := 0) hx hb dX1_readOf_1 (by decide) ?_
  refine lv_aload_n hx hb dX1_readOf_2 rfl (lv_at hl 0 rfl) ?_
  refine va_get (D := D) (ci := 1) (v := rfN ad 72 (V 1 2)) (fs := (xfReader ad V L Z)) (C := RX1) (T := TX1) (N := 9) hx hb hg inX1 hown hK hP 1 xgReader rfl 2 (by decide) (hg _ w306) (fun _ h9 => h9) rfl dX1_readOf_3 ?_
  refine g_topv (v := .ref (ad (72 + (Int32.toNatClampNeg (V 1 2))))) (rfN_r (by omega)) ?_
  refine lv_ifnonnull (tgt := 13) hx hb dX1_readOf_6 (by decide) ?_
  refine lv_aload_n hx hb dX1_readOf_13 rfl (lv_at hl 0 rfl) ?_
  refine va_get (D := D) (ci := 1) (v := rfN ad 72 (V 1 2)) (fs := (xfReader ad V L Z)) (C := RX1) (T := TX1) (N := 9) hx hb hg inX1 hown hK hP 1 xgReader rfl 2 (by decide) (hg _ w306) (fun _ h9 => h9) rfl dX1_readOf_14 ?_
  refine g_topv (v := .ref (ad (72 + (Int32.toNatClampNeg (V 1 2))))) (rfN_r (by omega)) ?_
  have il3 : (Int32.toNatClampNeg (V 1 2)) < 48 := by (first | exact om_755bf3536861 r2.2 ko | omega)
  refine va_getN (D := D) (ci := 3) (v := .int (V 49 (Int32.toNatClampNeg (V 1 2)))) (fs := (xfComp ad V (Int32.toNatClampNeg (V 1 2)))) (C := RX3) (T := TX3) (N := 13) hx hb hg inX3 hown hK hP (72 + (Int32.toNatClampNeg (V 1 2))) (xgComp il3) rfl 4 (by decide) (hnw.use 513 n513 rfl) (fun _ h9 => h9) rfl dX1_readOf_17 ?_
  have r4 : 0 ≤ ((V 49 (Int32.toNatClampNeg (V 1 2)))).toInt ∧ ((V 49 (Int32.toNatClampNeg (V 1 2)))).toInt ≤ 8 := hMV 49 (Int32.toNatClampNeg (V 1 2))
  refine lv_iconst (v := 1) hx hb dX1_readOf_20 (by decide) ?_
  refine lv_isub hx hb dX1_readOf_21 ?_
  refine lv_topi (fun z5 ez5 => ?_)
  have hz5 : z5.toInt = ((V 49 (Int32.toNatClampNeg (V 1 2)))).toInt - 1 := i_sub ez5 rfl (by decide) (by (first | exact om_d26120b21e66 r4.1 r4.2 | omega))
  have hr6 : ∀ k, Rc gT (Crun gs (IofN (gd + 1) :: k)) (Crun gs (IofN (gd + 1) :: k)) := fun k => Rc.rf
  have r7 : Int32.toInt 0 = 0 := by decide
  refine gA_int (gA_runV (As := [.int 0, .int z5]) (rest := []) (ci := 1) (q0 := 1) hx hb hml hown hg hP hD hK hS hA hnw hgk (x_takeNumber2 l D ks H.size ad kk V L Z 0 z5 ((gs.1 0)) hMV (rel).1 (rel).2.1.1 (show 0 ≤ (Int32.toInt 0) from by (first | exact om_1531b20f57e1 r7 | omega)) (show z5.toInt ≤ 999999999 from by (first | exact om_e906e46d6ed1 r4.2 hz5 | omega))) w906 w908 w12 w162 w909 rfl xgReader hdV_yX1_takeNumber ⟨(by show 1 + 1 ≤ 10 * dd + 11; (first | exact om_76644d12f753 rg_p0.2 y1 | omega)), (by show 8 + (3 + 11) + (21) ≤ 300 * dd + 290; (first | exact om_9205c02eda4d rg_p0.2 y1 | omega))⟩ rfl hl.1 rfl (Nat.le_of_ble_eq_true rfl) dX1_readOf_22 ⟨Nat.le_of_ble_eq_true rfl, Nat.le_of_ble_eq_true rfl⟩) hP hD hK hS hA (fun z8 u9 H locs w10 hP hD hK hS => ?_)
  obtain ⟨V14, L15⟩ := u9
  obtain ⟨hMV14, ajV14, axL15, rgz8, t11, t12, t13⟩ := w10
  have alL15 : agL [6, 44] L L15 := agL.tr alL axL15 (by decide)
  have hP : va_P D vwCl (xw ad kk V14 L15 Z) H := hP
  have hD : va_D A (xw ad kk V14 L15 Z) := hD
  have hMV14 : rgd bX V14 := hMV14
  have ajV14 : agr [(1, 3), (1, 8), (6, 8), (6, 9), (6, 10)] [] V V14 := ajV14
  have agV14 : agr [(1, 3), (1, 6), (1, 8), (6, 8), (6, 9), (6, 10)] [42, 43, 44, 48] V V14 := agV.tr ajV14 (by decide) (by decide)
  have rgz8 : 0 ≤ z8.toInt ∧ z8.toInt ≤ 1 := rgz8
  have t11 : Imp (z8.toInt = 1) ((Int32.toInt 0) ≤ (V14 1 8).toInt ∧ (V14 1 8).toInt ≤ z5.toInt) := t11
  have t12 : Imp (z8.toInt = 0) (1 ≤ (V14 1 3).toInt) := t12
  have t13 : (z8.toInt = 1 ∧ (V 12 (gs.1 0)).toInt = 2 ∧ (Int32.toInt 0) ≤ (L 14 (gs.1 0)).toInt ∧ (L 14 (gs.1 0)).toInt ≤ z5.toInt ∧ CUR V14 L15 ((gs.1 0) + 1) ∧ (V14 1 8).toInt = (L 14 (gs.1 0)).toInt ∧ V14 1 3 = V 1 3) ∨ (z8.toInt = 0 ∧ (((V 12 (gs.1 0)).toInt ≠ 2 ∧ (V14 1 3).toInt = 1 + 16 * (V 13 (gs.1 0)).toInt) ∨ ((V 12 (gs.1 0)).toInt = 2 ∧ ((L 14 (gs.1 0)).toInt < (Int32.toInt 0) ∨ z5.toInt < (L 14 (gs.1 0)).toInt) ∧ (V14 1 3).toInt = 4 + 16 * (V 13 (gs.1 0)).toInt))) := t13
  have r16 : 0 ≤ ((V14 1 8)).toInt ∧ ((V14 1 8)).toInt ≤ 999999999 := hMV14 1 8
  have nv24 := congrArg Int64.toInt rel.tok.2.1
  rcases t13 with ⟨q17, h18, h19, h20, k21, k22, k23⟩ | ⟨q17, ⟨h18, k21⟩ | ⟨h18, h19, k21⟩⟩
  · skip
    have rl25 : RelC V14 L15 b gT (nx gs 1) := RelC.nx1 rel ajV14 (by decide) axL15 (by decide) k21 k23
    have hr26 : ∀ k, Rc gT (Crun gs (IofN (gd + 1) :: k)) (Crun (nx gs 1) (Itake 46 :: IofM (gd + 1) ((gT.2.1 (gs.1 0)).toInt.toNat) :: k)) := fun k => Rc.go1 (hr6 k) (vo_y (rel.tok.1.trans h18) (by omega) (by omega))
    have nq27 : (V14 1 8).toInt = (((gT.2.1 (gs.1 0)).toInt.toNat : Nat) : Int) := by omega
    refine lv_if_ne (tgt := 30) hx hb dX1_readOf_25 (by decide) (fun c28 => ?_) (fun c28 => ?_)
    · skip
      have f29 : z8.toInt ≠ 0 := b_neq rfl (by decide) c28
      refine lv_aload_n hx hb dX1_readOf_30 rfl (lv_at hl 0 rfl) ?_
      refine va_get (D := D) (ci := 1) (v := .int (V14 1 8)) (fs := (xfReader ad V14 L15 Z)) (C := RX1) (T := TX1) (N := 9) hx hb hg inX1 hown hK hP 1 xgReader rfl 8 (by decide) (hg _ w312) (fun _ h9 => h9) rfl dX1_readOf_31 ?_
      have tn := Imp.go t11 (by (first | exact om_2ebe32d50835 rgz8.1 rgz8.2 f29 | omega))
      refine lv_istore_n (lv' := [(2, .int (V14 1 8)), (0, .ref (ad 1)), (1, .int p0)]) hx hb dX1_readOf_34 rfl hl (by decide) rfl (fun ls hl => ?_)
      refine lv_aload_n hx hb dX1_readOf_35 rfl (lv_at hl 1 rfl) ?_
      refine lv_bipush (v := 46) hx hb dX1_readOf_36 (by decide) ?_
      have r30 : Int32.toInt 46 = 46 := by decide
      refine gA_int (gA_runV (As := [.int 46]) (rest := []) (ci := 1) (q0 := 1) hx hb hml hown hg hP hD hK hS hA hnw hgk (x_take2 l D ks H.size ad kk V14 L15 Z 46 (((nx gs 1).1 0)) hMV14 (rl25).1 (rl25).2.1.1 (show 1 ≤ (Int32.toInt 46) from by first | exact om_cc589d485d93 r30 | first | omega | ((try (have i_t12 := Imp.go t12 (by omega))); (try (have i_t11 := Imp.go t11 (by omega))); (try (have i_t11 := Imp.go t11 (by omega))); (try (have i_t12 := Imp.go t12 (by omega))); omega))) w893 w895 w10 w162 w896 rfl xgReader hdV_yX1_take ⟨(by show 1 + 1 ≤ 10 * dd + 11; (first | exact om_76644d12f753 rg_p0.2 y1 | omega)), (by show 8 + (2 + 11) + (21) ≤ 300 * dd + 290; (first | exact om_2270743a1a47 rg_p0.2 y1 | omega))⟩ rfl hl.1 rfl (Nat.le_of_ble_eq_true rfl) dX1_readOf_38 ⟨Nat.le_of_ble_eq_true rfl, Nat.le_of_ble_eq_true rfl⟩) hP hD hK hS hA (fun z31 u32 H locs w33 hP hD hK hS => ?_)
      obtain ⟨V36, L37⟩ := u32
      obtain ⟨hMV36, ajV36, axL37, rgz31, t34, t35⟩ := w33
      have alL37 : agL [6, 44] L L37 := agL.tr alL15 axL37 (by decide)
      have hP : va_P D vwCl (xw ad kk V36 L37 Z) H := hP
      have hD : va_D A (xw ad kk V36 L37 Z) := hD
      have hMV36 : rgd bX V36 := hMV36
      have ajV36 : agr [(1, 3), (6, 8), (6, 9), (6, 10)] [] V14 V36 := ajV36
      have agV36 : agr [(1, 3), (1, 6), (1, 8), (6, 8), (6, 9), (6, 10)] [42, 43, 44, 48] V V36 := agV14.tr ajV36 (by decide) (by decide)
      have rgz31 : 0 ≤ z31.toInt ∧ z31.toInt ≤ 1 := rgz31
      have t34 : Imp (z31.toInt = 0) (1 ≤ (V36 1 3).toInt) := t34
      have t35 : (z31.toInt = 1 ∧ (V14 12 ((nx gs 1).1 0)).toInt = (Int32.toInt 46) ∧ CUR V36 L37 (((nx gs 1).1 0) + 1) ∧ V36 1 3 = V14 1 3) ∨ (z31.toInt = 0 ∧ (V14 12 ((nx gs 1).1 0)).toInt ≠ (Int32.toInt 46) ∧ (V36 1 3).toInt = 1 + 16 * (V14 13 ((nx gs 1).1 0)).toInt) := t35
      rcases t35 with ⟨q38, h39, k40, k41⟩ | ⟨q38, h39, k40⟩
      · skip
        have rl42 : RelC V36 L37 b gT (nx (nx gs 1) 1) := RelC.nx1 rl25 ajV36 (by decide) axL37 (by decide) k40 k41
        have hr43 : ∀ k, Rc gT (Crun gs (IofN (gd + 1) :: k)) (Crun (nx (nx gs 1) 1) (IofM (gd + 1) ((gT.2.1 (gs.1 0)).toInt.toNat) :: k)) := fun k => Rc.go1 (hr26 k) (tk_y (rl25.tok.1.trans (h39.trans (by decide))))
        refine lv_if_eq (tgt := 52) hx hb dX1_readOf_41 (by decide) (fun c44 => ?_) (fun c44 => ?_)
        · skip
          have f45 : z31.toInt = 0 := b_eq rfl (by decide) c44
          exfalso; first | exact om_495ee03a60ae q38 f45 | first | omega | ((try (have i_t34 := Imp.go t34 (by omega))); (try (have i_t12 := Imp.go t12 (by omega))); (try (have i_t11 := Imp.go t11 (by omega))); (try (have i_t11 := Imp.go t11 (by omega))); (try (have i_t12 := Imp.go t12 (by omega))); (try (have i_t34 := Imp.go t34 (by omega))); omega)
        · skip
          have f46 : z31.toInt ≠ 0 := b_neq rfl (by decide) c44
          refine lv_aload_n hx hb dX1_readOf_44 rfl (lv_at hl 1 rfl) ?_
          refine lv_null hx hb dX1_readOf_45 ?_
          have pq47 : (V36 1 1).toInt = ((V 1 1)).toInt := congrArg Int32.toInt ((ajV36 1 1 rfl).trans (ajV14 1 1 rfl))
          refine gA_int (gA_runV (As := [.null]) (rest := []) (ci := 1) (q0 := 1) hx hb hml hown hg hP hD hK hS hA hnw hgk (x_takeMethodN3 l D ks H.size ad kk V36 L37 Z (b) (gT) ((nx (nx gs 1) 1)) hMV36 (show b < 2 from by first | exact om_f940a4667dd6 hb2 | first | omega | ((try (have i_t34 := Imp.go t34 (by omega))); (try (have i_t12 := Imp.go t12 (by omega))); (try (have i_t11 := Imp.go t11 (by omega))); (try (have i_t11 := Imp.go t11 (by omega))); (try (have i_t12 := Imp.go t12 (by omega))); (try (have i_t34 := Imp.go t34 (by omega))); omega)) (show (V36 1 1).toInt = (b : Int) from by first | exact om_adf531c77a0d rbk pq47 | first | omega | ((try (have i_t34 := Imp.go t34 (by omega))); (try (have i_t12 := Imp.go t12 (by omega))); (try (have i_t11 := Imp.go t11 (by omega))); (try (have i_t11 := Imp.go t11 (by omega))); (try (have i_t12 := Imp.go t12 (by omega))); (try (have i_t34 := Imp.go t34 (by omega))); omega)) rl42) w939 w941 w19 w162 w942 rfl xgReader hdV_yX1_takeMethod ⟨(by show 2 + 1 ≤ 10 * dd + 11; (first | exact om_b33b50e4915c rg_p0.2 y1 | omega)), (by show 8 + (3 + 11) + (44) ≤ 300 * dd + 290; (first | exact om_8014749f7565 rg_p0.2 y1 | omega))⟩ rfl hl.1 rfl (Nat.le_of_ble_eq_true rfl) dX1_readOf_46 ⟨Nat.le_of_ble_eq_true rfl, Nat.le_of_ble_eq_true rfl⟩) hP hD hK hS hA (fun z48 u49 H locs w50 hP hD hK hS => ?_)
          obtain ⟨V53, L54⟩ := u49
          obtain ⟨hMV53, ajV53, axL54, rgz48, t51, t52⟩ := w50
          have alL54 : agL [6, 44] L L54 := agL.tr alL37 axL54 (by decide)
          have hP : va_P D vwCl (xw ad kk V53 L54 Z) H := hP
          have hD : va_D A (xw ad kk V53 L54 Z) := hD
          have hMV53 : rgd bX V53 := hMV53
          have ajV53 : agr [(1, 3), (1, 6), (6, 8), (6, 9), (6, 10)] [43, 44] V36 V53 := ajV53
          have agV53 : agr [(1, 3), (1, 6), (1, 8), (6, 8), (6, 9), (6, 10)] [42, 43, 44, 48] V V53 := agV36.tr ajV53 (by decide) (by decide)
          have rgz48 : 0 ≤ z48.toInt ∧ z48.toInt ≤ 1 := rgz48
          have t51 : KcS (mthW gT (nx (nx gs 1) 1) 3) z48.toInt (V53 1 3).toInt (fun x9 => RelC V53 L54 b gT x9.2 ∧ (V53 1 6).toInt = ((x9.1 : Nat) : Int) ∧ x9.1 < 20 ∧ keepS (nx (nx gs 1) 1) 1 x9.2) := t51
          have t52 : ROWL b L37 L54 := t52
          rcases t51 with ⟨q55, mx56, h57, rl58, hf59, hb60, kp61⟩ | ⟨q55, h57⟩
          · skip
            have hr62 : ∀ k, Rc gT (Crun gs (IofN (gd + 1) :: k)) (Crun mx56.2 (Itake 40 :: Iexpr (gd + 1) :: Itake 41 :: IofE ((gT.2.1 (gs.1 0)).toInt.toNat) mx56.1 :: k)) := fun k => Rc.go1 (hr43 k) (me_y h57)
            refine lv_if_ne (tgt := 54) hx hb dX1_readOf_49 (by decide) (fun c63 => ?_) (fun c63 => ?_)
            · skip
              have f64 : z48.toInt ≠ 0 := b_neq rfl (by decide) c63
              refine lv_aload_n hx hb dX1_readOf_54 rfl (lv_at hl 1 rfl) ?_
              refine va_get (D := D) (ci := 1) (v := .int (V53 1 6)) (fs := (xfReader ad V53 L54 Z)) (C := RX1) (T := TX1) (N := 9) hx hb hg inX1 hown hK hP 1 xgReader rfl 6 (by decide) (hg _ w310) (fun _ h9 => h9) rfl dX1_readOf_55 ?_
              have r65 : (-1) ≤ ((V53 1 6)).toInt ∧ ((V53 1 6)).toInt ≤ 23 := hMV53 1 6
              refine lv_istore_n (lv' := [(3, .int (V53 1 6)), (2, .int (V14 1 8)), (0, .ref (ad 1)), (1, .int p0)]) hx hb dX1_readOf_58 rfl hl (by decide) rfl (fun ls hl => ?_)
              refine lv_aload_n hx hb dX1_readOf_59 rfl (lv_at hl 2 rfl) ?_
              refine lv_iload_n hx hb dX1_readOf_60 rfl (lv_at hl 3 rfl) ?_
              have pq66 : (V53 1 1).toInt = ((V 1 1)).toInt := congrArg Int32.toInt ((ajV53 1 1 rfl).trans ((ajV36 1 1 rfl).trans (ajV14 1 1 rfl)))
              have cd67 : CDc V53 b gs := CDc.ag cdq (show agr [(1, 3), (1, 6), (1, 8), (6, 8), (6, 9), (6, 10)] [43, 44] V V53 from (agr.tr (agr.tr (agr.tr agr.rf ajV14 (by decide) (by decide)) ajV36 (by decide) (by decide)) ajV53 (by decide) (by decide))) (fun _ => rfl) (fun _ => rfl)
              have cd68 : CDc V53 b mx56.2 := CDc.mv cd67 (fun j9 h9 => ((show ∀ j9, j9 = 5 ∨ 2000 ≤ j9 → mx56.2.2.1 j9 = (nx (nx gs 1) 1).2.1 j9 from fun j9 h9 => (show ∀ j9, 5 ≤ j9 → mx56.2.2.1 j9 = (nx (nx gs 1) 1).2.1 j9 from (mth_e (j0 := 3) (by decide) h57)) j9 (by omega)) j9 h9).trans ((fun j9 h9 => ((show ∀ j9, j9 = 5 ∨ 2000 ≤ j9 → (nx (nx gs 1) 1).2.1 j9 = (nx gs 1).2.1 j9 from fun j9 h9 => (show ∀ j9, 5 ≤ j9 → (nx (nx gs 1) 1).2.1 j9 = (nx gs 1).2.1 j9 from fun _ _ => rfl) j9 (by omega)) j9 h9).trans ((show ∀ j9, j9 = 5 ∨ 2000 ≤ j9 → (nx gs 1).2.1 j9 = gs.2.1 j9 from fun j9 h9 => (show ∀ j9, 5 ≤ j9 → (nx gs 1).2.1 j9 = gs.2.1 j9 from fun _ _ => rfl) j9 (by omega)) j9 h9)) j9 h9))
              have wk69 : wl (nx gs 1) = wl gs ∧ (nx gs 1).1 0 = gs.1 0 + 1 := ⟨rfl, rfl⟩
              have wk70 : wl (nx (nx gs 1) 1) = wl (nx gs 1) ∧ (nx (nx gs 1) 1).1 0 = (nx gs 1).1 0 + 1 := ⟨rfl, rfl⟩
              have wk71 : wl mx56.2 = wl (nx (nx gs 1) 1) ∧ (nx (nx gs 1) 1).1 0 + 1 ≤ mx56.2.1 0 := ⟨wl_e (show ∀ j9, j9 = 5 ∨ 2000 ≤ j9 → mx56.2.2.1 j9 = (nx (nx gs 1) 1).2.1 j9 from fun j9 h9 => (show ∀ j9, 5 ≤ j9 → mx56.2.2.1 j9 = (nx (nx gs 1) 1).2.1 j9 from (mth_e (j0 := 3) (by decide) h57)) j9 (by omega)), (keepS.le kp61 (by decide)).1⟩
              refine gA_int (gA_runV (As := [.int p0]) (rest := []) (ci := 1) (q0 := 1) hx hb hml hown hg hP hD hK hS hA hnw hgk (hk_x_readWithin3 H.size ad kk V53 L54 Z p0 (b) (gT) (mx56.2) (gd) hMV53 (by first | exact om_8da659b97699 rg_p0.1 rg_p0.2 | first | omega | ((try (have i_t34 := Imp.go t34 (by omega))); (try (have i_t12 := Imp.go t12 (by omega))); (try (have i_t11 := Imp.go t11 (by omega))); (try (have i_t11 := Imp.go t11 (by omega))); (try (have i_t12 := Imp.go t12 (by omega))); (try (have i_t34 := Imp.go t34 (by omega))); omega)) (show b < 2 from by first | exact om_f940a4667dd6 hb2 | first | omega | ((try (have i_t34 := Imp.go t34 (by omega))); (try (have i_t12 := Imp.go t12 (by omega))); (try (have i_t11 := Imp.go t11 (by omega))); (try (have i_t11 := Imp.go t11 (by omega))); (try (have i_t12 := Imp.go t12 (by omega))); (try (have i_t34 := Imp.go t34 (by omega))); omega)) (show (V53 1 1).toInt = (b : Int) from by first | exact om_adf531c77a0d rbk pq66 | first | omega | ((try (have i_t34 := Imp.go t34 (by omega))); (try (have i_t12 := Imp.go t12 (by omega))); (try (have i_t11 := Imp.go t11 (by omega))); (try (have i_t11 := Imp.go t11 (by omega))); (try (have i_t12 := Imp.go t12 (by omega))); (try (have i_t34 := Imp.go t34 (by omega))); omega)) rl58 cd68 (show wl mx56.2 ≤ 2 * mx56.2.1 0 from by omega) (show p0.toInt = (gd : Int) from by first | exact om_08e0c9701055 yd | first | omega | ((try (have i_t34 := Imp.go t34 (by omega))); (try (have i_t12 := Imp.go t12 (by omega))); (try (have i_t11 := Imp.go t11 (by omega))); (try (have i_t11 := Imp.go t11 (by omega))); (try (have i_t12 := Imp.go t12 (by omega))); (try (have i_t34 := Imp.go t34 (by omega))); omega)) (((congrArg Int32.toInt ((ajV53 1 4 rfl).trans ((ajV36 1 4 rfl).trans (ajV14 1 4 rfl)))).trans wh).trans (congrArg (fun n9 : Nat => (n9 : Int)) (((keepS.tr (keepS.tr (keepS.tr (keepS.rf : keepS gs 0 gs) (keepS.n1 1)) (keepS.n1 1)) kp61)).2.1 4 (by decide)).symm)) (fun h9 => by rw [((ajV53 1 2 rfl).trans ((ajV36 1 2 rfl).trans (ajV14 1 2 rfl)))]; exact ow ((congrArg Int32.toInt ((ajV53 1 4 rfl).trans ((ajV36 1 4 rfl).trans (ajV14 1 4 rfl)))).symm.trans h9)) (show 7 - p0.toInt ≤ (dd : Int) from by first | exact om_300a5a5f0a99 y1 | first | omega | ((try (have i_t34 := Imp.go t34 (by omega))); (try (have i_t12 := Imp.go t12 (by omega))); (try (have i_t11 := Imp.go t11 (by omega))); (try (have i_t11 := Imp.go t11 (by omega))); (try (have i_t12 := Imp.go t12 (by omega))); (try (have i_t34 := Imp.go t34 (by omega))); omega))) w995 w997 w30 w162 w998 rfl xgReader hdV_yX1_readWithin ⟨(by show 10 * dd + 10 + 1 ≤ 10 * dd + 11; (first | exact om_1b07785c3efa | omega)), (by show 8 + (2 + 11) + (300 * dd + 265) ≤ 300 * dd + 290; (first | exact om_f60e36d76712 | omega))⟩ rfl hl.1 rfl (Nat.le_of_ble_eq_true rfl) dX1_readOf_61 ⟨Nat.le_of_ble_eq_true rfl, Nat.le_of_ble_eq_true rfl⟩) hP hD hK hS hA (fun z72 u73 H locs w74 hP hD hK hS => ?_)
              obtain ⟨V77, L78⟩ := u73
              obtain ⟨hMV77, ajV77, axL78, rgz72, t75, t76⟩ := w74
              have alL78 : agL [6, 44] L L78 := agL.tr alL54 axL78 (by decide)
              have hP : va_P D vwCl (xw ad kk V77 L78 Z) H := hP
              have hD : va_D A (xw ad kk V77 L78 Z) := hD
              have hMV77 : rgd bX V77 := hMV77
              have ajV77 : agr [(1, 3), (1, 6), (1, 8), (6, 8), (6, 9), (6, 10)] [42, 43, 44, 48] V53 V77 := ajV77
              have agV77 : agr [(1, 3), (1, 6), (1, 8), (6, 8), (6, 9), (6, 10)] [42, 43, 44, 48] V V77 := agV53.tr ajV77 (by decide) (by decide)
              have rgz72 : 0 ≤ z72.toInt ∧ z72.toInt ≤ 1 := rgz72
              have t75 : Rd gT (mx56.2) (fun k => Itake 40 :: Iexpr (gd + 1) :: Itake 41 :: k) (fun k => k) z72.toInt (V77 1 3).toInt (fun s9 => RelC V77 L78 b gT s9 ∧ keepS (mx56.2) 1 s9 ∧ keepE (mx56.2) s9 ∧ CDc V77 b s9 ∧ wl s9 + 2 * (mx56.2).1 0 ≤ wl (mx56.2) + 2 * s9.1 0 + 1) := t75
              have t76 : ROWL b L54 L78 := t76
              rcases t75 with ⟨q79, sx80, h81, rl82, kp83, ke84, cd85, wd86⟩ | ⟨q79, h81⟩
              · skip
                have hr87 : ∀ k, Rc gT (Crun gs (IofN (gd + 1) :: k)) (Crun sx80 (IofE ((gT.2.1 (gs.1 0)).toInt.toNat) mx56.1 :: k)) := fun k => (hr62 k).tr (h81 (IofE ((gT.2.1 (gs.1 0)).toInt.toNat) mx56.1 :: k))
                refine lv_if_ne (tgt := 69) hx hb dX1_readOf_64 (by decide) (fun c88 => ?_) (fun c88 => ?_)
                · skip
                  have f89 : z72.toInt ≠ 0 := b_neq rfl (by decide) c88
                  refine lv_aload_n hx hb dX1_readOf_69 rfl (lv_at hl 2 rfl) ?_
                  refine lv_bipush (v := 15) hx hb dX1_readOf_70 (by decide) ?_
                  refine lv_iload_n hx hb dX1_readOf_72 rfl (lv_at hl 1 rfl) ?_
                  refine lv_bipush (v := 20) hx hb dX1_readOf_73 (by decide) ?_
                  refine lv_imul hx hb dX1_readOf_75 ?_
                  refine lv_topi (fun z90 ez90 => ?_)
                  have hz90 : z90.toInt = ((V14 1 8)).toInt * 20 := i_mul ez90 rfl (by decide) (by (first | exact om_21eb26797a78 r4.2 hz5 r16.1 tn.2 | omega))
                  refine lv_iload_n hx hb dX1_readOf_76 rfl (lv_at hl 0 rfl) ?_
                  refine lv_iadd hx hb dX1_readOf_77 ?_
                  refine lv_topi (fun z91 ez91 => ?_)
                  have hz91 : z91.toInt = z90.toInt + ((V53 1 6)).toInt := i_add ez91 rfl rfl (by (first | exact om_36adb76a9eab r4.2 hz5 r16.1 tn.2 r65.1 r65.2 hz90 | omega))
                  have r92 : Int32.toInt 15 = 15 := by decide
                  have pq93 : (V77 1 1).toInt = ((V 1 1)).toInt := congrArg Int32.toInt ((ajV77 1 1 rfl).trans ((ajV53 1 1 rfl).trans ((ajV36 1 1 rfl).trans (ajV14 1 1 rfl))))
                  refine gA_int (gA_runV (As := [.int 15, .int z91]) (rest := []) (ci := 1) (q0 := 1) hx hb hml hown hg hP hD hK hS hA hnw hgk (x_put3 l D ks H.size ad kk V77 L78 Z 15 z91 (b) hMV77 (show b < 2 from by first | exact om_f940a4667dd6 hb2 | first | omega | ((try (have i_t34 := Imp.go t34 (by omega))); (try (have i_t12 := Imp.go t12 (by omega))); (try (have i_t11 := Imp.go t11 (by omega))); (try (have i_t11 := Imp.go t11 (by omega))); (try (have i_t12 := Imp.go t12 (by omega))); (try (have i_t34 := Imp.go t34 (by omega))); omega)) (show (V77 1 1).toInt = (b : Int) from by first | exact om_adf531c77a0d rbk pq93 | first | omega | ((try (have i_t34 := Imp.go t34 (by omega))); (try (have i_t12 := Imp.go t12 (by omega))); (try (have i_t11 := Imp.go t11 (by omega))); (try (have i_t11 := Imp.go t11 (by omega))); (try (have i_t12 := Imp.go t12 (by omega))); (try (have i_t34 := Imp.go t34 (by omega))); omega))) w975 w977 w26 w162 w978 rfl xgReader hdV_yX1_put ⟨(by show 1 + 1 ≤ 10 * dd + 11; (first | exact om_76644d12f753 rg_p0.2 y1 | omega)), (by show 8 + (3 + 11) + (21) ≤ 300 * dd + 290; (first | exact om_9205c02eda4d rg_p0.2 y1 | omega))⟩ rfl hl.1 rfl (Nat.le_of_ble_eq_true rfl) dX1_readOf_78 ⟨Nat.le_of_ble_eq_true rfl, Nat.le_of_ble_eq_true rfl⟩) hP hD hK hS hA (fun z94 u95 H locs w96 hP hD hK hS => ?_)
                  obtain ⟨V98, L99⟩ := u95
                  obtain ⟨hMV98, ajV98, axL99, rgz94, t97⟩ := w96
                  have axL99 : L78 = L99 := Eq.symm axL99
                  subst axL99
                  have hP : va_P D vwCl (xw ad kk V98 L78 Z) H := hP
                  have hD : va_D A (xw ad kk V98 L78 Z) := hD
                  have hMV98 : rgd bX V98 := hMV98
                  have ajV98 : agr [] [42, 48] V77 V98 := ajV98
                  have agV98 : agr [(1, 3), (1, 6), (1, 8), (6, 8), (6, 9), (6, 10)] [42, 43, 44, 48] V V98 := agV77.tr ajV98 (by decide) (by decide)
                  have rgz94 : 1 ≤ z94.toInt ∧ z94.toInt ≤ 1 := rgz94
                  have t97 : (∃ U9 : Vf, emX V77 U9 b 15 ∧ emX U9 V98 b z91) := t97
                  obtain ⟨U100, e101, f102⟩ := t97
                  have hr103 : ∀ k, Rc gT (Crun gs (IofN (gd + 1) :: k)) (Crun (emS sx80 14 ((gT.2.1 (gs.1 0)).toInt.toNat) mx56.1) (k)) := fun k => Rc.go1 (hr87 k) (m_ofE ((gT.2.1 (gs.1 0)).toInt.toNat) mx56.1)
                  have rl104 : RelC V98 L78 b gT sx80 := RelC.ag rl82 (show agr [] [42, 48] V77 V98 from (agr.tr agr.rf ajV98 (by decide) (by decide))) (by decide) (show agL [] L78 L78 from agL.rf) (by decide)
                  have rl105 : RelC V98 L78 b gT (emS sx80 14 ((gT.2.1 (gs.1 0)).toInt.toNat) mx56.1) := RelC.em rl104
                  have wk106 : wl sx80 + 2 * mx56.2.1 0 ≤ wl mx56.2 + 2 * sx80.1 0 + 1 ∧ mx56.2.1 0 + 1 ≤ sx80.1 0 := ⟨wd86, (keepS.le kp83 (by decide)).1⟩
                  have wk107 : wl (emS sx80 14 ((gT.2.1 (gs.1 0)).toInt.toNat) mx56.1) = wl sx80 + 2 ∧ (emS sx80 14 ((gT.2.1 (gs.1 0)).toInt.toNat) mx56.1).1 0 = sx80.1 0 := ⟨(wl_em sx80 14 _ _).trans (congrArg (fun q9 => wl sx80 + q9) (show szO 14 = 2 from by decide)), rfl⟩
                  have ph108 : (((emS sx80 14 ((gT.2.1 (gs.1 0)).toInt.toNat) mx56.1).1 0 : Nat) : Int) ≤ 4000 := Int.le_trans (rl105).1.1 (show 0 ≤ (V98 6 7).toInt ∧ (V98 6 7).toInt ≤ 4000 from hMV98 6 7).2
                  have hr109 : (V77 42 b).toInt + 1 < 8200 := by have h9 := cd85.1; omega
                  have cd110 : CDc V98 b (emS sx80 14 ((gT.2.1 (gs.1 0)).toInt.toNat) mx56.1) := CDc.e2o cd85 e101 f102 hr109 (by decide) (show z91.toInt = 20 * (((gT.2.1 (gs.1 0)).toInt.toNat : Nat) : Int) + ((mx56.1 : Nat) : Int) from by omega)
                  have rw111 : ROWL b L L78 := (fun k hk => ((t76 k hk).trans ((t52 k hk).trans ((axL37 44 k rfl).trans ((axL15 44 k rfl).trans rfl)))))
                  exact W.zret (v := z94) hx hb hr (nb_ok (by omega)) (fun t ht hW => ⟨⟨z94, (V98, L78), rfl, ⟨hMV98, agV98, alL78, (show 0 ≤ z94.toInt ∧ z94.toInt ≤ 1 from by first | exact om_1e6c034e3eac rgz94.1 rgz94.2 | first | omega | ((try (have i_t34 := Imp.go t34 (by omega))); (try (have i_t12 := Imp.go t12 (by omega))); (try (have i_t11 := Imp.go t11 (by omega))); (try (have i_t11 := Imp.go t11 (by omega))); (try (have i_t12 := Imp.go t12 (by omega))); (try (have i_t34 := Imp.go t34 (by omega))); omega)), (Or.inl ⟨(by omega), (emS sx80 14 ((gT.2.1 (gs.1 0)).toInt.toNat) mx56.1), hr103, rl105, keepS.le (keepS.tr (keepS.tr (keepS.tr (keepS.tr (keepS.tr (keepS.rf : keepS gs 0 gs) (keepS.n1 1)) (keepS.n1 1)) kp61) kp83) (show keepS sx80 0 (emS sx80 14 ((gT.2.1 (gs.1 0)).toInt.toNat) mx56.1) from keepS.em)) (by decide), (keepE.tr (keepE.tr (keepE.tr (keepE.tr (keepE.tr (keepE.rf : keepE gs gs) (show keepE gs (nx gs 1) from keepE.eq (show ∀ j9, 5 ≤ j9 → (nx gs 1).2.1 j9 = gs.2.1 j9 from fun _ _ => rfl))) (show keepE (nx gs 1) (nx (nx gs 1) 1) from keepE.eq (show ∀ j9, 5 ≤ j9 → (nx (nx gs 1) 1).2.1 j9 = (nx gs 1).2.1 j9 from fun _ _ => rfl))) (show keepE (nx (nx gs 1) 1) mx56.2 from keepE.eq (show ∀ j9, 5 ≤ j9 → mx56.2.2.1 j9 = (nx (nx gs 1) 1).2.1 j9 from (mth_e (j0 := 3) (by decide) h57)))) ke84) (show keepE sx80 (emS sx80 14 ((gT.2.1 (gs.1 0)).toInt.toNat) mx56.1) from keepE.em)), cd110, (by omega)⟩), rw111⟩, by rw [ht]; exact hP, va_K.moved hW.alike hK, hD⟩, hS.F ht⟩) hS.2.2 dX1_readOf_81
                · skip
                  have f112 : z72.toInt = 0 := b_eq rfl (by decide) c88
                  exfalso; first | omega | ((try (have i_t34 := Imp.go t34 (by omega))); (try (have i_t12 := Imp.go t12 (by omega))); (try (have i_t11 := Imp.go t11 (by omega))); (try (have i_t11 := Imp.go t11 (by omega))); (try (have i_t12 := Imp.go t12 (by omega))); (try (have i_t34 := Imp.go t34 (by omega))); omega)
              · skip
                have hb113 : ∀ k, Rc gT (Crun gs (IofN (gd + 1) :: k)) (Cbad (V77 1 3).toInt) := fun k => (hr62 k).tr (h81 (IofE ((gT.2.1 (gs.1 0)).toInt.toNat) mx56.1 :: k))
                refine lv_if_ne (tgt := 69) hx hb dX1_readOf_64 (by decide) (fun c114 => ?_) (fun c114 => ?_)
                · skip
                  have f115 : z72.toInt ≠ 0 := b_neq rfl (by decide) c114
                  exfalso; first | omega | ((try (have i_t34 := Imp.go t34 (by omega))); (try (have i_t12 := Imp.go t12 (by omega))); (try (have i_t11 := Imp.go t11 (by omega))); (try (have i_t11 := Imp.go t11 (by omega))); (try (have i_t12 := Imp.go t12 (by omega))); (try (have i_t34 := Imp.go t34 (by omega))); omega)
                · skip
                  have f116 : z72.toInt = 0 := b_eq rfl (by decide) c114
                  refine lv_iconst (v := 0) hx hb dX1_readOf_67 (by decide) ?_
                  have rw117 : ROWL b L L78 := (fun k hk => ((t76 k hk).trans ((t52 k hk).trans ((axL37 44 k rfl).trans ((axL15 44 k rfl).trans rfl)))))
                  exact W.zret (v := 0) hx hb hr rfl (fun t ht hW => ⟨⟨0, (V77, L78), rfl, ⟨hMV77, agV77, alL78, (by decide), (Or.inr ⟨rfl, hb113⟩), rw117⟩, by rw [ht]; exact hP, va_K.moved hW.alike hK, hD⟩, hS.F ht⟩) hS.2.2 dX1_readOf_68
            · skip
              have f118 : z48.toInt = 0 := b_eq rfl (by decide) c63
              exfalso; first | omega | ((try (have i_t34 := Imp.go t34 (by omega))); (try (have i_t12 := Imp.go t12 (by omega))); (try (have i_t11 := Imp.go t11 (by omega))); (try (have i_t11 := Imp.go t11 (by omega))); (try (have i_t12 := Imp.go t12 (by omega))); (try (have i_t34 := Imp.go t34 (by omega))); omega)
          · skip
            have hb119 : ∀ k, Rc gT (Crun gs (IofN (gd + 1) :: k)) (Cbad (V53 1 3).toInt) := fun k => Rc.go1 (hr43 k) (me_b h57)
            refine lv_if_ne (tgt := 54) hx hb dX1_readOf_49 (by decide) (fun c120 => ?_) (fun c120 => ?_)
            · skip
              have f121 : z48.toInt ≠ 0 := b_neq rfl (by decide) c120
              exfalso; first | omega | ((try (have i_t34 := Imp.go t34 (by omega))); (try (have i_t12 := Imp.go t12 (by omega))); (try (have i_t11 := Imp.go t11 (by omega))); (try (have i_t11 := Imp.go t11 (by omega))); (try (have i_t12 := Imp.go t12 (by omega))); (try (have i_t34 := Imp.go t34 (by omega))); omega)
            · skip
              have f122 : z48.toInt = 0 := b_eq rfl (by decide) c120
              refine lv_iconst (v := 0) hx hb dX1_readOf_52 (by decide) ?_
              have rw123 : ROWL b L L54 := (fun k hk => ((t52 k hk).trans ((axL37 44 k rfl).trans ((axL15 44 k rfl).trans rfl))))
              exact W.zret (v := 0) hx hb hr rfl (fun t ht hW => ⟨⟨0, (V53, L54), rfl, ⟨hMV53, agV53, alL54, (by decide), (Or.inr ⟨rfl, hb119⟩), rw123⟩, by rw [ht]; exact hP, va_K.moved hW.alike hK, hD⟩, hS.F ht⟩) hS.2.2 dX1_readOf_53
      · skip
        have hb124 : ∀ k, Rc gT (Crun gs (IofN (gd + 1) :: k)) (Cbad (V36 1 3).toInt) := fun k => Rc.go1 (hr26 k) ((tk_n (fun h9 => h39 (rl25.tok.1.symm.trans (h9.trans (by decide))))).trans (fl_eq rl25.tok.2.2 k40))
        refine lv_if_eq (tgt := 52) hx hb dX1_readOf_41 (by decide) (fun c125 => ?_) (fun c125 => ?_)
        · skip
          have f126 : z31.toInt = 0 := b_eq rfl (by decide) c125
          refine lv_iconst (v := 0) hx hb dX1_readOf_52 (by decide) ?_
          have rw127 : ROWL b L L37 := (fun k hk => ((axL37 44 k rfl).trans ((axL15 44 k rfl).trans rfl)))
          exact W.zret (v := 0) hx hb hr rfl (fun t ht hW => ⟨⟨0, (V36, L37), rfl, ⟨hMV36, agV36, alL37, (by decide), (Or.inr ⟨rfl, hb124⟩), rw127⟩, by rw [ht]; exact hP, va_K.moved hW.alike hK, hD⟩, hS.F ht⟩) hS.2.2 dX1_readOf_53
        · skip
          have f128 : z31.toInt ≠ 0 := b_neq rfl (by decide) c125
          exfalso; first | exact om_fb320d7600b7 rgz31.1 q38 f128 | first | omega | ((try (have i_t34 := Imp.go t34 (by omega))); (try (have i_t12 := Imp.go t12 (by omega))); (try (have i_t11 := Imp.go t11 (by omega))); (try (have i_t11 := Imp.go t11 (by omega))); (try (have i_t12 := Imp.go t12 (by omega))); (try (have i_t34 := Imp.go t34 (by omega))); omega)
    · skip
      have f129 : z8.toInt = 0 := b_eq rfl (by decide) c28
      exfalso; first | exact om_495ee03a60ae q17 f129 | first | omega | ((try (have i_t12 := Imp.go t12 (by omega))); (try (have i_t11 := Imp.go t11 (by omega))); (try (have i_t11 := Imp.go t11 (by omega))); (try (have i_t12 := Imp.go t12 (by omega))); omega)
  · skip
    have hb130 : ∀ k, Rc gT (Crun gs (IofN (gd + 1) :: k)) (Cbad (V14 1 3).toInt) := fun k => Rc.go1 (hr6 k) ((vo_1 (fun h9 => h18 (rel.tok.1.symm.trans h9))).trans (fl_eq rel.tok.2.2 k21))
    refine lv_if_ne (tgt := 30) hx hb dX1_readOf_25 (by decide) (fun c131 => ?_) (fun c131 => ?_)
    · skip
      have f132 : z8.toInt ≠ 0 := b_neq rfl (by decide) c131
      exfalso; first | exact om_fb320d7600b7 rgz8.1 q17 f132 | first | omega | ((try (have i_t12 := Imp.go t12 (by omega))); (try (have i_t11 := Imp.go t11 (by omega))); (try (have i_t11 := Imp.go t11 (by omega))); (try (have i_t12 := Imp.go t12 (by omega))); omega)
    · skip
      have f133 : z8.toInt = 0 := b_eq rfl (by decide) c131
      refine lv_iconst (v := 0) hx hb dX1_readOf_28 (by decide) ?_
      have rw134 : ROWL b L L15 := (fun k hk => ((axL15 44 k rfl).trans rfl))
      exact W.zret (v := 0) hx hb hr rfl (fun t ht hW => ⟨⟨0, (V14, L15), rfl, ⟨hMV14, agV14, alL15, (by decide), (Or.inr ⟨rfl, hb130⟩), rw134⟩, by rw [ht]; exact hP, va_K.moved hW.alike hK, hD⟩, hS.F ht⟩) hS.2.2 dX1_readOf_29
  · skip
    have hb135 : ∀ k, Rc gT (Crun gs (IofN (gd + 1) :: k)) (Cbad (V14 1 3).toInt) := fun k => Rc.go1 (hr6 k) ((vo_4 (rel.tok.1.trans h18) (by omega)).trans (fl_eq rel.tok.2.2 k21))
    refine lv_if_ne (tgt := 30) hx hb dX1_readOf_25 (by decide) (fun c136 => ?_) (fun c136 => ?_)
    · skip
      have f137 : z8.toInt ≠ 0 := b_neq rfl (by decide) c136
      exfalso; first | omega | ((try (have i_t12 := Imp.go t12 (by omega))); (try (have i_t11 := Imp.go t11 (by omega))); (try (have i_t11 := Imp.go t11 (by omega))); (try (have i_t12 := Imp.go t12 (by omega))); omega)
    · skip
      have f138 : z8.toInt = 0 := b_eq rfl (by decide) c136
      refine lv_iconst (v := 0) hx hb dX1_readOf_28 (by decide) ?_
      have rw139 : ROWL b L L15 := (fun k hk => ((axL15 44 k rfl).trans rfl))
      exact W.zret (v := 0) hx hb hr rfl (fun t ht hW => ⟨⟨0, (V14, L15), rfl, ⟨hMV14, agV14, alL15, (by decide), (Or.inr ⟨rfl, hb135⟩), rw139⟩, by rw [ht]; exact hP, va_K.moved hW.alike hK, hD⟩, hS.F ht⟩) hS.2.2 dX1_readOf_29
theorem K_xpart3 {l : Launch} {D : va_G} {ks : KS} : ∀ dd, K_x_readPart3 l D ks dd
  | 0 => x_readPart3 (fun d9 h => absurd h (by omega)) (fun d9 h => absurd h (by omega)) (fun d9 h => absurd h (by omega)) (fun d9 h => absurd h (by omega)) (fun d9 h => absurd h (by omega))
  | d + 1 => by
    have k1 := K_xpart3 (l := l) (D := D) (ks := ks) d
    have k4 := x_readExpression3 (x_readSum3 (x_readProduct3 k1))
    have kw := x_readWithin3 k4
    refine x_readPart3 (fun d9 h => ?_) (fun d9 h => ?_) (fun d9 h => ?_) (fun d9 h => ?_) (fun d9 h => ?_)
    all_goals (have e : d9 = d := by omega)
    all_goals subst e
    · exact k4
    · exact k1
    · exact x_readPick3 k4
    · exact x_readOf3 kw
    · exact kw
theorem K_xexpr3 {l : Launch} {D : va_G} {ks : KS} (dd : Nat) : K_x_readExpression3 l D ks dd := x_readExpression3 (x_readSum3 (x_readProduct3 (K_xpart3 dd)))
