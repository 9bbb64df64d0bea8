/-! components and wraps of the reference -/
theorem OWm.fresh {V : Vf} {o n : Nat} {s s' : St} (k : keepS (scopeS s) n s') (c27 : (V 27 o).toInt = 0) (c32 : (V 32 o).toInt = -1) (c33 : (V 33 o).toInt = -1) (c34 : ∀ q : Nat, q < 20 → (V 34 (20 * o + q)).toInt = -1) (w : Int64) : OWm V o (sA s' 2 w) := by
  refine ⟨?_, ⟨fun _ => ?_, fun _ => by as_aux_lemma => omega⟩, ⟨fun _ => ?_, fun _ => by as_aux_lemma => omega⟩, ?_, fun f hf => ?_, ?_⟩
  · show _ = ((s'.1 1 : Nat) : Int)
    rw [c27, k.2.1 1 (by decide)]
    rfl
  · show s'.1 2 ≠ 1
    rw [k.2.1 2 (by decide)]
    show (0 : Nat) ≠ 1
    decide
  · show s'.1 3 ≠ 1
    rw [k.2.1 3 (by decide)]
    show (0 : Nat) ≠ 1
    decide
  · show s'.1 4 = 0
    rw [k.2.1 4 (by decide)]
    rfl
  · show _ ↔ f ∈ s'.2.2.2
    rw [k.2.2.2]
    have z := c34 f hf
    exact ⟨fun q => absurd q (by as_aux_lemma => omega), fun q => absurd q List.not_mem_nil⟩
  · show ∀ f ∈ s'.2.2.2, _
    rw [k.2.2.2]
    exact fun f hf => absurd hf List.not_mem_nil
theorem WRm.st {V : Vf} {q i f : Nat} {s : St} (h : WRm V q s) (hi : (i : Int) < (V 39 q).toInt) : arounds (s.2.2.1.take (i + 1)) f = arounds (s.2.2.1.take i) f + (if (V 43 (12 * q + i)).toInt = 1 ∧ (V 41 (12 * q + i)).toInt = (f : Int) then 1 else 0) := by
  have hl : i < s.2.2.1.length := by have := h.1; omega
  have z := h.2 i hl
  rw [take_s _ i hl, ar_app, z.2]
  congr 1
  by_cases c : (V 43 (12 * q + i)).toInt = 1 ∧ (V 41 (12 * q + i)).toInt = (f : Int)
  · rw [if_pos c, if_pos ⟨by show (V 41 (12 * q + i)).toInt.toNat = f; omega, decide_eq_true c.1⟩]
  · rw [if_neg c, if_neg (fun q9 => c ⟨of_decide_eq_true q9.2, by have q1 : (V 41 (12 * q + i)).toInt.toNat = f := q9.1; omega⟩)]
theorem WRm.all {V : Vf} {q i f : Nat} {s : St} (h : WRm V q s) (hi : (i : Int) = (V 39 q).toInt) : arounds (s.2.2.1.take i) f = arounds s.2.2.1 f := by
  rw [List.take_of_length_le (by have := h.1; omega)]
/-- a wrap's places ahead of its end: no one reads them yet -/
theorem RelM.w0 {V W : Vf} {L : Lf} {q n : Nat} {T : Tk} {s : St} {l2 : List Int64} {c : Nat} {a v : Int32} (h : RelM V L q n T s l2) (e : W = up2 V c (Int32.toNatClampNeg a) v) (hc : c = 41 ∨ c = 43) (ha : a.toInt = ((12 * q : Nat) : Int) + (V 39 q).toInt) (h0 : 0 ≤ (V 39 q).toInt) : RelM W L q n T s l2 := by
  have g : ∀ x, ¬ x = c → W x = V x := fun x hx => up2_fo e hx
  have kc := i_clamp (x := a) rfl (by as_aux_lemma => (first | exact om_e78a06e61153 ha h0 | omega))
  have t := h.2.2.1
  have w := h.2.2.2
  have wl := w.1
  refine ⟨by unfold HDm; rw [g 0 (by as_aux_lemma => omega)]; exact h.1, h.2.1.ag (g 4 (by as_aux_lemma => omega)) (g 5 (by as_aux_lemma => omega)) rfl rfl, h.2.2.1.ag (congrFun (g 13 (by as_aux_lemma => omega)) _) (congrFun (g 16 (by as_aux_lemma => omega)) _) (congrFun (g 19 (by as_aux_lemma => omega)) _) (congrFun (g 35 (by as_aux_lemma => omega)) _) (congrFun (g 37 (by as_aux_lemma => omega)) _) rfl rfl rfl rfl rfl rfl, ⟨by rw [g 39 (by as_aux_lemma => omega)]; exact w.1, fun i hi => ?_⟩⟩
  have z := w.2 i hi
  rcases hc with hc | hc
  · subst hc
    rw [g 43 (by decide), up2_k e (by as_aux_lemma => omega)]
    exact z
  · subst hc
    rw [g 41 (by decide), up2_k e (by as_aux_lemma => omega)]
    exact z
theorem RelM.wr {V W : Vf} {L : Lf} {q n f : Nat} {T : Tk} {s : St} {l2 : List Int64} {z : Int32} {p : Int} (h : RelM V L q n T s l2) (ev : W = up2 V 39 q z) (hz : z.toInt = (V 39 q).toInt + 1) (h0 : 0 ≤ (V 39 q).toInt) (c41 : (V 41 (12 * q + (V 39 q).toInt.toNat)).toInt = (f : Int)) (c43 : (V 43 (12 * q + (V 39 q).toInt.toNat)).toInt = p) : RelM W L q n T (sW s (f, decide (p = 1))) l2 := by
  have g : ∀ x, ¬ x = 39 → W x = V x := fun x hx => up2_fo ev hx
  have w39 : W 39 q = z := up2_s ev
  have w := h.2.2.2
  have wl := w.1
  refine ⟨by unfold HDm; rw [g 0 (by decide)]; exact h.1, h.2.1.ag (g 4 (by decide)) (g 5 (by decide)) rfl rfl, h.2.2.1.ag (congrFun (g 13 (by decide)) _) (congrFun (g 16 (by decide)) _) (congrFun (g 19 (by decide)) _) (congrFun (g 35 (by decide)) _) (congrFun (g 37 (by decide)) _) rfl rfl rfl rfl rfl rfl, ⟨?_, ?_⟩⟩
  · show ((s.2.2.1 ++ [(f, decide (p = 1))]).length : Int) = _
    rw [List.length_append, w39, hz]
    show ((s.2.2.1.length + 1 : Nat) : Int) = _
    omega
  · show ∀ i (hi : i < (s.2.2.1 ++ [(f, decide (p = 1))]).length), 0 ≤ (W 41 (12 * q + i)).toInt ∧ (s.2.2.1 ++ [(f, decide (p = 1))])[i] = ((W 41 (12 * q + i)).toInt.toNat, decide ((W 43 (12 * q + i)).toInt = 1))
    intro i hi
    rw [g 41 (by decide), g 43 (by decide)]
    have hi2 : i < s.2.2.1.length + 1 := by rw [List.length_append] at hi; exact hi
    by_cases c : i < s.2.2.1.length
    · rw [List.getElem_append_left c]
      exact w.2 i c
    · have ei : i = (V 39 q).toInt.toNat := by as_aux_lemma => omega
      rw [List.getElem_append_right (by as_aux_lemma => omega)]
      subst ei
      rw [c41, c43, Int.toNat_natCast]
      exact ⟨by as_aux_lemma => omega, List.getElem_singleton _⟩
theorem ARm.wr {s : St} {f : Nat} {p : Int} (h : ARm s) (c : p = 1 → ¬ 2 ≤ arounds s.2.2.1 f) : ARm (sW s (f, decide (p = 1))) := by
  intro g
  show arounds (s.2.2.1 ++ [(f, decide (p = 1))]) g ≤ 2
  rw [ar_app]
  have z := h g
  by_cases d : f = g ∧ decide (p = 1) = true
  · have y := c (of_decide_eq_true d.2)
    rw [d.1] at y
    split <;> omega
  · rw [if_neg d]
    omega
theorem EM.w {V : Vf} {s : St} (e51 : (V 0 51).toInt < 0) (h4 : s.1 4 = 1 ∨ s.1 4 = 2) (e : (V 0 52).toInt = 1 ↔ s.1 4 = 2) : EM V s := ⟨⟨fun q => absurd q (by as_aux_lemma => omega), fun q => by as_aux_lemma => omega⟩, e, fun q => absurd q (by as_aux_lemma => omega)⟩
theorem RelM.en {V : Vf} {L : Lf} {q n : Nat} {T : Tk} {s : St} {l2 : List Int64} (h : RelM V L q n T s l2) : (V 4 (s.1 0)).toInt = 0 ↔ T.1 (s.1 0) = 0 := by
  rcases Nat.lt_or_eq_of_le h.1.2.1 with d | d
  · have z := (h.2.1.2.1 _ d).1.rg
    exact ⟨fun x => by as_aux_lemma => omega, fun x => by as_aux_lemma => omega⟩
  · rw [d]
    exact ⟨fun _ => h.2.1.2.2.1, fun _ => h.2.1.2.2.2.1⟩
theorem RelM.z {V : Vf} {L : Lf} {q n : Nat} {T : Tk} (t : TkM V L T n) (e7 : (V 0 7).toInt = 0) (e8 : (V 0 8).toInt = 0) (e12 : (V 0 12).toInt = (q : Int)) (hq : q < 2) (n0 : (V 13 q).toInt = 0) (n1 : (V 16 q).toInt = 0) (n2 : (V 19 q).toInt = 0) (n3 : (V 35 q).toInt = 0) (n4 : (V 37 q).toInt = 0) (n5 : (V 39 q).toInt = 0) : RelM V L q n T St0 (St0.2.1 2) :=
  have ls : ∀ (f : Nat → Int64) (x : Int), x = 0 → LSw [] f x ∧ NDl [] := fun f x hx => ⟨⟨by rw [hx]; rfl, fun i h => absurd h (Nat.not_lt_zero _)⟩, fun i j hi => absurd hi (Nat.not_lt_zero _)⟩
  ⟨⟨e7, Nat.zero_le _, e8, e12, hq⟩, t, ⟨ls _ _ n0, ls _ _ n1, ls _ _ n2, ls _ _ n3, ls _ _ n4⟩, ⟨by rw [n5]; rfl, fun i h => absurd h (Nat.not_lt_zero _)⟩⟩
theorem ARm.z : ARm St0 := fun f => by
  exact Nat.zero_le 2
theorem RelM.sc {V : Vf} {L : Lf} {q n : Nat} {T : Tk} {s : St} {l2 : List Int64} (h : RelM V L q n T (nx s 1) l2) : RelM V L q n T (scopeS s) l2 := ⟨h.1, h.2.1, h.2.2.1, h.2.2.2⟩
theorem RelM.p4 {V : Vf} {L : Lf} {q n v : Nat} {T : Tk} {s : St} {l2 : List Int64} (h : RelM V L q n T (nx s 1) l2) : RelM V L q n T (sN (nx s 1) 4 v) l2 := ⟨h.1, h.2.1, h.2.2.1, h.2.2.2⟩
theorem RelM.ad2 {V : Vf} {L : Lf} {q n : Nat} {T : Tk} {s : St} {l2 : List Int64} {w : Int64} (h : RelM V L q n T s l2) : RelM V L q n T (sA s 2 w) l2 := ⟨h.1, h.2.1, h.2.2.1, h.2.2.2⟩
theorem keepC.sy {s s' : St} (h : keepC s s') : keepC s' s := ⟨fun i hi => (h.1 i hi).symm, fun j hj => (h.2 j hj).symm⟩


abbrev r_s_toldComponentA : Room := { frames := 96, cells := 0, slots := 0, locals := 2886 }
abbrev q_s_toldComponentA (D : va_G) (ks : KS) (ad : Nat → Nat) (kk : Nat → ClassId) (V : Vf) (L : Lf) (bq : Nat) (gn : Nat) (gT : Tk) (gs : St) (A : Nat → Prop) : Array Value → State → Outcome → State → Prop := va_Qv (fun (u : Vf × Lf) => rgd bM u.1 ∧ agr [(0, 7), (0, 8), (0, 48), (0, 50), (0, 51), (0, 52)] [15, 19, 20, 21, 22, 23, 24, 25, 26, 27, 28, 29, 30, 31, 32, 33, 34, 35, 36, 37, 38, 45, 46, 47, 53] V u.1 ∧ agL [15, 19, 20, 21, 22, 23, 24, 25, 26, 27, 28, 29, 30, 31, 32, 33, 34, 35, 36, 37, 38, 45, 46, 47, 53] L u.2 ∧ (Imp ((u.1 0 8).toInt = 0) ((u.1 0 48).toInt ≤ 2 * (u.1 0 7).toInt)) ∧ ((u.1 0 48).toInt ≤ 8200) ∧ ((u.1 0 12).toInt = (V 0 12).toInt) ∧ (RdM gT gs (fun k => Istmt :: k) (fun k => Istmt :: k) (u.1 0 8).toInt (fun s9 => RelM u.1 u.2 bq gn gT s9 (s9.2.1 2) ∧ gs.1 0 + 1 ≤ s9.1 0 ∧ ARm s9 ∧ CNm u.1 bq s9 ∧ CEm u.1 bq s9)) ∧ (RoV 19 bq V u.1) ∧ (RoV 35 bq V u.1) ∧ (RoV 37 bq V u.1) ∧ (RoL 20 24 bq L u.2) ∧ (RoL 36 20 bq L u.2) ∧ (RoL 38 20 bq L u.2)) (fun u t => gq D A (mw ad kk ks.1 u.1 u.2) (mty kk) t) A
set_option maxHeartbeats 4000000 in
set_option maxRecDepth 100000 in
theorem s_toldComponentA (l : Launch) (D : va_G) (ks : KS) (sz : Nat) (ad : Nat → Nat) (kk : Nat → ClassId) (V : Vf) (L : Lf) (bq : Nat) (gn : Nat) (gT : Tk) (gs : St) (hMV : rgd bM V) (rel : RelM V L bq gn gT gs (gs.2.1 2)) (kd9 : gT.1 (gs.1 0) = 131) (cc : (V 0 48).toInt ≤ 2 * (V 0 7).toInt) (arm : ARm gs) (cnm : CNm V bq gs) (cem : CEm V bq gs)  : Met l yX12_toldComponent (Cond.code yX12_toldComponent cX12_toldComponent 5 none :: GW) r_s_toldComponentA (va_Pc [.ref (ad 0)] (gp D ks (mw ad kk ks.1 V L) (mty kk) sz)) (q_s_toldComponentA D ks ad kk V L  bq gn gT gs (va_A (mw ad kk ks.1 V L) sz)) 0 0 (va_A (mw ad kk ks.1 V L) sz) := by
  refine g_met (q_s_toldComponentA D ks ad kk V L  bq gn gT gs) (by decide) (Nat.le_of_ble_eq_true rfl) ?_
  intro p e s m below meth c A ls H locs hx hb hr hml hown hg hlocks hin hnw hgk hP hK hD hS hA hl
  replace hown : s.vm.findClass RX12 = some m.cls := hown
  replace hl : lv_has ls 5 [(0, .ref (ad 0))] := hl
  replace hP : va_P D vwCl (mw ad kk ks.1 V L) H := hP
  replace hD : va_D A (mw ad kk ks.1 V L) := hD
  replace hK : va_K D vwCl (mty kk) s := hK
  have agV : agr [(0, 7), (0, 8), (0, 48), (0, 50), (0, 51), (0, 52)] [15, 19, 20, 21, 22, 23, 24, 25, 26, 27, 28, 29, 30, 31, 32, 33, 34, 35, 36, 37, 38, 45, 46, 47, 53] V V := agr.rf
  have alL : agL [15, 19, 20, 21, 22, 23, 24, 25, 26, 27, 28, 29, 30, 31, 32, 33, 34, 35, 36, 37, 38, 45, 46, 47, 53] L L := agL.rf
  have r1 : 0 ≤ ((V 0 48)).toInt ∧ ((V 0 48)).toInt ≤ 10000 := hMV 0 48
  have rg0 := RelM.rg rel
  have cl0 := RelM.cl rel
  have cq0 := RelM.cq rel
  have ln0 := RelM.len rel
  have q13 : (V 13 (Int32.toNatClampNeg (V 0 12))).toInt = (V 13 bq).toInt := by rw [cq0]
  have q16 : (V 16 (Int32.toNatClampNeg (V 0 12))).toInt = (V 16 bq).toInt := by rw [cq0]
  have q19 : (V 19 (Int32.toNatClampNeg (V 0 12))).toInt = (V 19 bq).toInt := by rw [cq0]
  have q39 : (V 39 (Int32.toNatClampNeg (V 0 12))).toInt = (V 39 bq).toInt := by rw [cq0]
  obtain ⟨gc, hgc⟩ : ∃ g, g = 24 * bq + (gs.2.1 2).length := ⟨_, rfl⟩
  refine lv_bipush (v := 24) hx hb dX12_toldComponent_0 (by decide) ?_
  refine lv_aload_n hx hb dX12_toldComponent_2 rfl (lv_at hl 0 rfl) ?_
  refine va_get (D := D) (ci := 12) (v := .int (V 0 12)) (C := RX12) (T := TX12) (N := 100) hx hb hg inX12 hown hK hP 0 rfl rfl 12 (by decide) (hg _ w1718) (fun _ h9 => h9) rfl dX12_toldComponent_3 ?_
  have r2 : 0 ≤ ((V 0 12)).toInt ∧ ((V 0 12)).toInt ≤ 1 := hMV 0 12
  refine lv_imul hx hb dX12_toldComponent_6 ?_
  refine lv_topi (fun z3 ez3 => ?_)
  have hz3 : z3.toInt = 24 * ((V 0 12)).toInt := i_mul ez3 (by decide) rfl (by as_aux_lemma => (first | exact om_3f8aba7b6ce1 r2.1 r2.2 | omega))
  refine lv_aload_n hx hb dX12_toldComponent_7 rfl (lv_at hl 0 rfl) ?_
  refine va_get (D := D) (ci := 12) (v := .ref (ad 19)) (C := RX12) (T := TX12) (N := 100) hx hb hg inX12 hown hK hP 0 rfl rfl 19 (by decide) (hg _ w1725) (fun _ h9 => h9) rfl dX12_toldComponent_8 ?_
  refine lv_aload_n hx hb dX12_toldComponent_11 rfl (lv_at hl 0 rfl) ?_
  refine va_get (D := D) (ci := 12) (v := .int (V 0 12)) (C := RX12) (T := TX12) (N := 100) hx hb hg inX12 hown hK hP 0 rfl rfl 12 (by decide) (hg _ w1718) (fun _ h9 => h9) rfl dX12_toldComponent_12 ?_
  refine va_iald (D := D) (i := (V 0 12)) hx hb hK hP 12 11 rfl rfl (i_in (a := ((V 0 12)).toInt) rfl (by as_aux_lemma => (first | exact om_27c603097004 rg0.2.2.2.1 rg0.2.2.2.2.1 | omega))) dX12_toldComponent_15 ?_
  have r4 : 0 ≤ ((V 19 (Int32.toNatClampNeg (V 0 12)))).toInt ∧ ((V 19 (Int32.toNatClampNeg (V 0 12)))).toInt ≤ 24 := hMV 19 (Int32.toNatClampNeg (V 0 12))
  refine lv_iadd hx hb dX12_toldComponent_16 ?_
  refine lv_topi (fun z5 ez5 => ?_)
  have hz5 : z5.toInt = z3.toInt + ((V 19 (Int32.toNatClampNeg (V 0 12)))).toInt := i_add ez5 rfl rfl (by as_aux_lemma => (first | exact om_1683672f2aa1 r2.1 r2.2 hz3 r4.1 r4.2 | omega))
  refine lv_istore_n (lv' := [(1, .int z5), (0, .ref (ad 0))]) hx hb dX12_toldComponent_17 rfl hl (by decide) rfl (fun ls hl => ?_)
  have z5r : 0 ≤ z5.toInt := by as_aux_lemma => (first | exact om_89f771ec639b r2.1 hz3 r4.1 hz5 | omega)
  have kgc : Int32.toNatClampNeg z5 = gc := by as_aux_lemma => have h9 := i_clamp (x := z5) rfl (by as_aux_lemma => (first | exact om_89f771ec639b r2.1 hz3 r4.1 hz5 | omega)); omega
  have kgi : z5.toInt = (gc : Int) := by as_aux_lemma => have h9 := i_clamp (x := z5) rfl (by as_aux_lemma => (first | exact om_89f771ec639b r2.1 hz3 r4.1 hz5 | omega)); omega
  refine lv_aload_n hx hb dX12_toldComponent_18 rfl (lv_at hl 1 rfl) ?_
  refine lv_aload_n hx hb dX12_toldComponent_19 rfl (lv_at hl 1 rfl) ?_
  refine va_get (D := D) (ci := 12) (v := .ref (ad 19)) (C := RX12) (T := TX12) (N := 100) hx hb hg inX12 hown hK hP 0 rfl rfl 19 (by decide) (hg _ w1725) (fun _ h9 => h9) rfl dX12_toldComponent_20 ?_
  refine lv_aload_n hx hb dX12_toldComponent_23 rfl (lv_at hl 1 rfl) ?_
  refine va_get (D := D) (ci := 12) (v := .int (V 0 12)) (C := RX12) (T := TX12) (N := 100) hx hb hg inX12 hown hK hP 0 rfl rfl 12 (by decide) (hg _ w1718) (fun _ h9 => h9) rfl dX12_toldComponent_24 ?_
  refine va_iald (D := D) (i := (V 0 12)) hx hb hK hP 12 11 rfl rfl (i_in (a := ((V 0 12)).toInt) rfl (by as_aux_lemma => (first | exact om_27c603097004 rg0.2.2.2.1 rg0.2.2.2.2.1 | omega))) dX12_toldComponent_27 ?_
  refine lv_bipush (v := 24) hx hb dX12_toldComponent_28 (by decide) ?_
  refine lv_icmp_ne (tgt := 37) hx hb dX12_toldComponent_30 (by decide) (fun c6 => ?_) (fun c6 => ?_)
  · skip
    have f7 : ((V 19 (Int32.toNatClampNeg (V 0 12)))).toInt ≠ 24 := b_neq rfl (by decide) c6
    refine lv_iconst (v := 0) hx hb dX12_toldComponent_37 (by decide) ?_
    have r8 : Int32.toInt 0 = 0 := by decide
    refine gA_void (gA_runV (As := [.int 0]) (rest := []) (ci := 12) (q0 := 0) hx hb hml hown hg hP hD hK hS hA hnw hgk (s_beginsA l D ks H.size ad kk V L 0 (bq) (gn) (gT) (gs) ((gs.2.1 2)) hMV (by decide) rel (by rw [kd9]; decide)) w2031 w2033 w85 w172 w2034 rfl rfl hdV_yX12_begins ⟨Nat.le_of_ble_eq_true rfl, Nat.le_of_ble_eq_true rfl⟩ rfl hl.1 rfl (Nat.le_of_ble_eq_true rfl) dX12_toldComponent_38 ⟨Nat.le_of_ble_eq_true rfl, Nat.le_of_ble_eq_true rfl⟩) hP hD hK hS hA (fun u10 H locs w11 hP hD hK hS => ?_)
    obtain ⟨V13, L14⟩ := u10
    obtain ⟨hMV13, ajV13, axL14, t12⟩ := w11
    have axL14 : L = L14 := Eq.symm axL14
    subst axL14
    replace hP : va_P D vwCl (mw ad kk ks.1 V13 L) H := hP
    replace hD : va_D A (mw ad kk ks.1 V13 L) := hD
    replace hMV13 : rgd bM V13 := hMV13
    replace ajV13 : agr [(0, 7), (0, 8)] [] V V13 := ajV13
    have agV13 : agr [(0, 7), (0, 8), (0, 48), (0, 50), (0, 51), (0, 52)] [15, 19, 20, 21, 22, 23, 24, 25, 26, 27, 28, 29, 30, 31, 32, 33, 34, 35, 36, 37, 38, 45, 46, 47, 53] V V13 := agV.tr ajV13 (by decide) (by decide)
    replace t12 : ((Int32.toInt 0) = 0 ∧ (V13 0 8).toInt = 0 ∧ RelM V13 L (bq) (gn) (gT) (nx (gs) 1) ((gs.2.1 2))) ∨ ((Int32.toInt 0) = 1 ∧ 1 ≤ (V13 0 8).toInt ∧ (V13 0 8).toInt = 5 + 16 * (gT).2.2 ((gs).1 0)) := t12
    rcases t12 with ⟨q15, f16, rl17⟩ | ⟨q15, f16, rl17⟩
    · skip
      have hr18 : ∀ k, Rc gT (Crun gs (Istmt :: k)) (Crun gs (Istmt :: k)) := fun k => Rc.rf
      have hr19 : ∀ k, Rc gT (Crun gs (Istmt :: k)) (Crun (nx gs 1) (InewComp :: k)) := fun k => Rc.go1 (hr18 k) (st_131 kd9 (by as_aux_lemma => omega))
      have ps20 : (nx gs 1).1 0 = gs.1 0 + 1 := rfl
      have fz21 := RelM.rg rl17
      have r22 : 0 ≤ ((V13 0 8)).toInt ∧ ((V13 0 8)).toInt ≤ 70000 := hMV13 0 8
      refine lv_aload_n hx hb dX12_toldComponent_41 rfl (lv_at hl 1 rfl) ?_
      refine va_get (D := D) (ci := 12) (v := .int (V13 0 8)) (C := RX12) (T := TX12) (N := 100) hx hb hg inX12 hown hK hP 0 rfl rfl 8 (by decide) (hg _ w1714) (fun _ h9 => h9) rfl dX12_toldComponent_42 ?_
      refine lv_if_le (tgt := 49) hx hb dX12_toldComponent_45 (by decide) (fun c23 => ?_) (fun c23 => ?_)
      · skip
        have f24 : ((V13 0 8)).toInt ≤ 0 := b_le rfl (by decide) c23
        refine lv_aload_n hx hb dX12_toldComponent_49 rfl (lv_at hl 1 rfl) ?_
        refine gA_long (gA_runV (As := []) (rest := []) (ci := 12) (q0 := 0) hx hb hml hown hg hP hD hK hS hA hnw hgk (s_newNameA l D ks H.size ad kk V13 L (bq) (gn) (gT) ((nx gs 1)) hMV13 rl17) w2039 w2041 w87 w172 w2042 rfl rfl hdV_yX12_newName ⟨Nat.le_of_ble_eq_true rfl, Nat.le_of_ble_eq_true rfl⟩ rfl hl.1 rfl (Nat.le_of_ble_eq_true rfl) dX12_toldComponent_50 ⟨Nat.le_of_ble_eq_true rfl, Nat.le_of_ble_eq_true rfl⟩) hP hD hK hS hA (fun z25 u26 H locs w27 hP hD hK hS => ?_)
        obtain ⟨V29, L30⟩ := u26
        obtain ⟨hMV29, ajV29, axL30, t28⟩ := w27
        have axL30 : L = L30 := Eq.symm axL30
        subst axL30
        replace hP : va_P D vwCl (mw ad kk ks.1 V29 L) H := hP
        replace hD : va_D A (mw ad kk ks.1 V29 L) := hD
        replace hMV29 : rgd bM V29 := hMV29
        replace ajV29 : agr [(0, 7), (0, 8)] [] V13 V29 := ajV29
        have agV29 : agr [(0, 7), (0, 8), (0, 48), (0, 50), (0, 51), (0, 52)] [15, 19, 20, 21, 22, 23, 24, 25, 26, 27, 28, 29, 30, 31, 32, 33, 34, 35, 36, 37, 38, 45, 46, 47, 53] V V29 := agV13.tr ajV29 (by decide) (by decide)
        replace t28 : KmW (newN (gT) ((nx gs 1))) (V29 0 8).toInt (fun w9 => RelM V29 L (bq) (gn) (gT) (nx ((nx gs 1)) 1) (((nx gs 1)).2.1 2) ∧ isTold ((nx gs 1)) w9 = false ∧ z25 = w9) := t28
        rcases t28 with ⟨q31, wx32, h33, rl34, tn35, hw36⟩ | ⟨q31, h33⟩
        · skip
          have hr37 : ∀ k, Rc gT (Crun gs (Istmt :: k)) (Crun (nx (nx gs 1) 1) (Itake 132 :: Itypes 1 wx32 0 [] :: k)) := fun k => Rc.go1 (hr19 k) (nc_y h33)
          have ps38 : (nx (nx gs 1) 1).1 0 = (nx gs 1).1 0 + 1 := rfl
          have fz39 := RelM.rg rl34
          have r40 : 0 ≤ ((V29 0 8)).toInt ∧ ((V29 0 8)).toInt ≤ 70000 := hMV29 0 8
          refine lv_lstore_n (lv' := [(2, .long z25), (1, .int z5), (0, .ref (ad 0))]) hx hb dX12_toldComponent_53 rfl hl (by decide) rfl (fun ls hl => ?_)
          have z5s : z5.toInt < 48 := by as_aux_lemma => (first | exact om_0b93f57c7e11 r2.2 hz3 r4.2 hz5 f7 | omega)
          refine lv_iconst (v := 0) hx hb dX12_toldComponent_54 (by decide) ?_
          refine lv_istore (lv' := [(4, .int 0), (2, .long z25), (1, .int z5), (0, .ref (ad 0))]) hx hb dX12_toldComponent_55 hl (by decide) rfl (fun ls hl => ?_)
          have lp43 : ∀ (fulp43 : Nat) (y41 : Int32) (V42 : Vf) (H : Heap) (locs : List Loc) (ls : Array Slot), 0 ≤ y41.toInt ∧ y41.toInt ≤ 24 → (∀ g : Nat, (g : Int) < y41.toInt → (V42 21 (24 * gc + g)).toInt = 0) → (CNm V42 bq gs) → (RoV 19 bq V V42) → (RoV 35 bq V V42) → (RoV 37 bq V V42) → (RoL 20 24 bq L L) → (RoL 36 20 bq L L) → (RoL 38 20 bq L L) → 24 - y41.toInt < (fulp43 : Int) → agr [] [21] V29 V42 → rgd bM V42 → va_P D vwCl (mw ad kk ks.1 V42 L) H → va_D A (mw ad kk ks.1 V42 L) → va_S A s.heap H locs → lv_has ls 5 [(4, .int y41), (2, .long z25), (1, .int z5), (0, .ref (ad 0))] → W p l e r_s_toldComponentA s m ([.ref (ad 0)] : List Value).toArray below meth c H locs 0 0 (MQ below (q_s_toldComponentA D ks ad kk V L  bq gn gT gs A) ([.ref (ad 0)] : List Value).toArray s 0 0 A) (F0 m 57 ls []) := by
            (try clear fz39); (try clear ps38); (try clear fz21); (try clear ps20); (try clear hr19); (try clear hr18)
            intro fulp43
            induction fulp43 with
            | zero =>
              intro y41 V42 H locs ls klp43_0 xlp43_0 xlp43_1 xlp43_2 xlp43_3 xlp43_4 xlp43_5 xlp43_6 xlp43_7 hn ajV42 hMV42 hP hD hS hl
              exfalso; (first | exact om_9386ef0df612 klp43_0.2 hn | omega)
            | succ fulp43 ihlp43 =>
              intro y41 V42 H locs ls klp43_0 xlp43_0 xlp43_1 xlp43_2 xlp43_3 xlp43_4 xlp43_5 xlp43_6 xlp43_7 hn ajV42 hMV42 hP hD hS hl
              have agV42 : agr [(0, 7), (0, 8), (0, 48), (0, 50), (0, 51), (0, 52)] [15, 19, 20, 21, 22, 23, 24, 25, 26, 27, 28, 29, 30, 31, 32, 33, 34, 35, 36, 37, 38, 45, 46, 47, 53] V V42 := agV29.tr ajV42 (by decide) (by decide)
              refine lv_iload hx hb dX12_toldComponent_57 (lv_at hl 0 rfl) ?_
              refine lv_bipush (v := 24) hx hb dX12_toldComponent_59 (by decide) ?_
              refine lv_icmp_ge (tgt := 83) hx hb dX12_toldComponent_61 (by decide) (fun c44 => ?_) (fun c44 => ?_)
              · skip
                have f45 : 24 ≤ y41.toInt := b_le (by decide) rfl c44
                refine lv_iconst (v := 0) hx hb dX12_toldComponent_83 (by decide) ?_
                refine lv_istore (lv' := [(4, .int 0), (2, .long z25), (1, .int z5), (0, .ref (ad 0))]) hx hb dX12_toldComponent_84 hl (by decide) rfl (fun ls hl => ?_)
                have lp48 : ∀ (fulp48 : Nat) (y46 : Int32) (V47 : Vf) (H : Heap) (locs : List Loc) (ls : Array Slot), 0 ≤ y46.toInt ∧ y46.toInt ≤ 20 → (∀ j : Nat, (j : Int) < y46.toInt → (V47 34 (20 * gc + j)).toInt = -1) → (REm V47 bq gs) → (RoV 19 bq V V47) → (RoV 35 bq V V47) → (RoV 37 bq V V47) → (RoL 20 24 bq L L) → (RoL 36 20 bq L L) → (RoL 38 20 bq L L) → 20 - y46.toInt < (fulp48 : Int) → agr [] [34] V42 V47 → rgd bM V47 → va_P D vwCl (mw ad kk ks.1 V47 L) H → va_D A (mw ad kk ks.1 V47 L) → va_S A s.heap H locs → lv_has ls 5 [(4, .int y46), (2, .long z25), (1, .int z5), (0, .ref (ad 0))] → W p l e r_s_toldComponentA s m ([.ref (ad 0)] : List Value).toArray below meth c H locs 0 0 (MQ below (q_s_toldComponentA D ks ad kk V L  bq gn gT gs A) ([.ref (ad 0)] : List Value).toArray s 0 0 A) (F0 m 86 ls []) := by
                  (try clear fz39); (try clear ps38); (try clear fz21); (try clear ps20); (try clear hr19); (try clear hr18)
                  intro fulp48
                  induction fulp48 with
                  | zero =>
                    intro y46 V47 H locs ls klp48_0 xlp48_0 xlp48_1 xlp48_2 xlp48_3 xlp48_4 xlp48_5 xlp48_6 xlp48_7 hn ajV47 hMV47 hP hD hS hl
                    exfalso; (first | exact om_626e07862489 klp48_0.2 hn | omega)
                  | succ fulp48 ihlp48 =>
                    intro y46 V47 H locs ls klp48_0 xlp48_0 xlp48_1 xlp48_2 xlp48_3 xlp48_4 xlp48_5 xlp48_6 xlp48_7 hn ajV47 hMV47 hP hD hS hl
                    have agV47 : agr [(0, 7), (0, 8), (0, 48), (0, 50), (0, 51), (0, 52)] [15, 19, 20, 21, 22, 23, 24, 25, 26, 27, 28, 29, 30, 31, 32, 33, 34, 35, 36, 37, 38, 45, 46, 47, 53] V V47 := agV42.tr ajV47 (by decide) (by decide)
                    refine lv_iload hx hb dX12_toldComponent_86 (lv_at hl 0 rfl) ?_
                    refine lv_bipush (v := 20) hx hb dX12_toldComponent_88 (by decide) ?_
                    refine lv_icmp_ge (tgt := 112) hx hb dX12_toldComponent_90 (by decide) (fun c49 => ?_) (fun c49 => ?_)
                    · skip
                      have f50 : 20 ≤ y46.toInt := b_le (by decide) rfl c49
                      have r351 : ∀ j : Nat, j < 20 → (V47 34 (20 * gc + j)).toInt = -1 := fun j hj => xlp48_0 j (by as_aux_lemma => omega)
                      have J52 : ∀ (V53 : Vf) (L54 : Lf) (H : Heap) (locs : List Loc) (ls : Array Slot), agL [15, 19, 20, 21, 22, 23, 24, 25, 26, 27, 28, 29, 30, 31, 32, 33, 34, 35, 36, 37, 38, 45, 46, 47, 53] L L54 → agr [(0, 7), (0, 8)] [15, 21, 22, 23, 24, 25, 26, 35, 36, 37, 38, 53] V47 V53 → rgd bM V53 → (((V53 0 8).toInt = 0 ∧ ∃ (s1 s0 : St) (m1 : Nat) (c1 : Int) (ca1 ra1 ws1 wv1 : Nat), (∀ k, Rc gT (Crun gs (Istmt :: k)) (Crun s1 (Itake 123 :: IaddNm m1 c1 (wx32) [wv1, ws1, ra1, ca1] :: Imember :: k))) ∧ RelM V53 L54 bq gn gT s1 (gs.2.1 2) ∧ keepS (scopeS s0) 0 s1 ∧ s1.2.1 2 = gs.2.1 2 ∧ s1.2.2.1 = gs.2.2.1 ∧ gs.1 0 + 1 ≤ s1.1 0 ∧ (keepC gs s1 ∧ keepL gs s1) ∧ BTm V53 21 gc m1 ∧ (V53 22 gc).toInt = ((c1.toNat : Nat) : Int) ∧ (V53 23 gc).toInt + 1 = ((ca1 : Nat) : Int) ∧ (V53 24 gc).toInt = ((ra1 : Nat) : Int) ∧ (V53 25 gc).toInt + 1 = ((ws1 : Nat) : Int) ∧ (ws1 ≠ 0 → (V53 26 gc).toInt = ((wv1 : Nat) : Int))) ∨ (1 ≤ (V53 0 8).toInt ∧ ∀ k, Rc gT (Crun gs (Istmt :: k)) (Cbad (V53 0 8).toInt))) → ((V53 0 8).toInt = 0 → CNm V53 bq gs) → ((V53 0 8).toInt = 0 → CEm V53 bq gs) → (V53 0 48).toInt ≤ 8000 → (V53 0 48).toInt = (V 0 48).toInt → (V53 0 12).toInt = (V 0 12).toInt → (RoV 19 bq V V53) → (RoV 35 bq V V53) → (RoV 37 bq V V53) → (RoL 20 24 bq L L54) → (RoL 36 20 bq L L54) → (RoL 38 20 bq L L54) → va_P D vwCl (mw ad kk ks.1 V53 L54) H → va_D A (mw ad kk ks.1 V53 L54) → va_S A s.heap H locs → lv_has ls 5 [(4, .int y46), (2, .long z25), (1, .int z5), (0, .ref (ad 0))] → W p l e r_s_toldComponentA s m ([.ref (ad 0)] : List Value).toArray below meth c H locs 0 0 (MQ below (q_s_toldComponentA D ks ad kk V L  bq gn gT gs A) ([.ref (ad 0)] : List Value).toArray s 0 0 A) (F0 m 262 ls []) := by
                        as_aux_lemma =>
                        (try clear fz39); (try clear ps38); (try clear hr37); (try clear fz21); (try clear ps20); (try clear hr19); (try clear hr18)
                        intro V53 L54 H locs ls alL54 ajV53 hMV53 xJ52_0 xJ52_1 xJ52_2 xJ52_3 xJ52_4 xJ52_5 xJ52_6 xJ52_7 xJ52_8 xJ52_9 xJ52_10 xJ52_11 hP hD hS hl
                        have agV53 : agr [(0, 7), (0, 8), (0, 48), (0, 50), (0, 51), (0, 52)] [15, 19, 20, 21, 22, 23, 24, 25, 26, 27, 28, 29, 30, 31, 32, 33, 34, 35, 36, 37, 38, 45, 46, 47, 53] V V53 := agV47.tr ajV53 (by decide) (by decide)
                        have pq55 : (V53 0 48).toInt = ((V 0 48)).toInt := congrArg Int32.toInt ((ajV53 0 48 rfl).trans ((ajV47 0 48 rfl).trans ((ajV42 0 48 rfl).trans ((ajV29 0 48 rfl).trans (ajV13 0 48 rfl)))))
                        have pq56 : (V53 0 12).toInt = ((V 0 12)).toInt := congrArg Int32.toInt ((ajV53 0 12 rfl).trans ((ajV47 0 12 rfl).trans ((ajV42 0 12 rfl).trans ((ajV29 0 12 rfl).trans (ajV13 0 12 rfl)))))
                        rcases xJ52_0 with ⟨f7, s1, s0, m1, c1, ca1, ra1, ws1, wv1, h1, r1, k1, t1, w1, g1, q1, b1, d1, e1, i1, j1, o1⟩ | ⟨f7, h1⟩
                        · skip
                          have fz57 := RelM.rg r1
                          have r58 : 0 ≤ ((V53 0 8)).toInt ∧ ((V53 0 8)).toInt ≤ 70000 := hMV53 0 8
                          have hn59 : HDn V53 gc m1 c1.toNat ca1 ra1 ws1 wv1 := ⟨b1, d1, e1, i1, j1, o1⟩
                          refine lv_aload_n hx hb dX12_toldComponent_262 rfl (lv_at hl 3 rfl) ?_
                          refine va_get (D := D) (ci := 12) (v := .ref (ad 27)) (C := RX12) (T := TX12) (N := 100) hx hb hg inX12 hown hK hP 0 rfl rfl 27 (by decide) (hg _ w1733) (fun _ h9 => h9) rfl dX12_toldComponent_263 ?_
                          refine lv_iload_n hx hb dX12_toldComponent_266 rfl (lv_at hl 2 rfl) ?_
                          refine lv_iconst (v := 0) hx hb dX12_toldComponent_267 (by decide) ?_
                          refine va_iast (D := D) (i := z5) (x := 0) hx hb hK hP hD hS 20 19 rfl rfl (i_in (a := z5.toInt) rfl (by as_aux_lemma => (first | exact om_aa704d15899a r2.1 r2.2 hz3 r4.1 r4.2 hz5 f7 | omega))) dX12_toldComponent_268 (fun H locs hP hD hS => ?_)
                          obtain ⟨V60, hV60⟩ : ∃ z, z = up2 V53 27 (Int32.toNatClampNeg z5) 0 := ⟨_, rfl⟩
                          have hP : va_P D vwCl (mw ad kk ks.1 V60 L54) H := by rw [hV60]; exact hP
                          have hD : va_D A (mw ad kk ks.1 V60 L54) := by rw [hV60]; exact hD
                          have hMV60 : rgd bM V60 := hMV53.put hV60 (show 0 ≤ Int32.toInt 0 ∧ Int32.toInt 0 ≤ 8 from by decide)
                          have agV60 : agr [(0, 7), (0, 8), (0, 48), (0, 50), (0, 51), (0, 52)] [15, 19, 20, 21, 22, 23, 24, 25, 26, 27, 28, 29, 30, 31, 32, 33, 34, 35, 36, 37, 38, 45, 46, 47, 53] V V60 := agV53.up hV60 rfl
                          refine lv_aload_n hx hb dX12_toldComponent_269 rfl (lv_at hl 3 rfl) ?_
                          refine va_get (D := D) (ci := 12) (v := .ref (ad 32)) (C := RX12) (T := TX12) (N := 100) hx hb hg inX12 hown hK hP 0 rfl rfl 32 (by decide) (hg _ w1738) (fun _ h9 => h9) rfl dX12_toldComponent_270 ?_
                          refine lv_iload_n hx hb dX12_toldComponent_273 rfl (lv_at hl 2 rfl) ?_
                          refine lv_iconst (v := (-1)) hx hb dX12_toldComponent_274 (by decide) ?_
                          refine va_iast (D := D) (i := z5) (x := (-1)) hx hb hK hP hD hS 25 24 rfl rfl (i_in (a := z5.toInt) rfl (by as_aux_lemma => (first | exact om_aa704d15899a r2.1 r2.2 hz3 r4.1 r4.2 hz5 f7 | omega))) dX12_toldComponent_275 (fun H locs hP hD hS => ?_)
                          obtain ⟨V61, hV61⟩ : ∃ z, z = up2 V60 32 (Int32.toNatClampNeg z5) (-1) := ⟨_, rfl⟩
                          have hP : va_P D vwCl (mw ad kk ks.1 V61 L54) H := by rw [hV61]; exact hP
                          have hD : va_D A (mw ad kk ks.1 V61 L54) := by rw [hV61]; exact hD
                          have hMV61 : rgd bM V61 := hMV60.put hV61 (i_full _)
                          have agV61 : agr [(0, 7), (0, 8), (0, 48), (0, 50), (0, 51), (0, 52)] [15, 19, 20, 21, 22, 23, 24, 25, 26, 27, 28, 29, 30, 31, 32, 33, 34, 35, 36, 37, 38, 45, 46, 47, 53] V V61 := agV60.up hV61 rfl
                          refine lv_aload_n hx hb dX12_toldComponent_276 rfl (lv_at hl 3 rfl) ?_
                          refine va_get (D := D) (ci := 12) (v := .ref (ad 33)) (C := RX12) (T := TX12) (N := 100) hx hb hg inX12 hown hK hP 0 rfl rfl 33 (by decide) (hg _ w1739) (fun _ h9 => h9) rfl dX12_toldComponent_277 ?_
                          refine lv_iload_n hx hb dX12_toldComponent_280 rfl (lv_at hl 2 rfl) ?_
                          refine lv_iconst (v := (-1)) hx hb dX12_toldComponent_281 (by decide) ?_
                          refine va_iast (D := D) (i := z5) (x := (-1)) hx hb hK hP hD hS 26 25 rfl rfl (i_in (a := z5.toInt) rfl (by as_aux_lemma => (first | exact om_aa704d15899a r2.1 r2.2 hz3 r4.1 r4.2 hz5 f7 | omega))) dX12_toldComponent_282 (fun H locs hP hD hS => ?_)
                          obtain ⟨V62, hV62⟩ : ∃ z, z = up2 V61 33 (Int32.toNatClampNeg z5) (-1) := ⟨_, rfl⟩
                          have hP : va_P D vwCl (mw ad kk ks.1 V62 L54) H := by rw [hV62]; exact hP
                          have hD : va_D A (mw ad kk ks.1 V62 L54) := by rw [hV62]; exact hD
                          have hMV62 : rgd bM V62 := hMV61.put hV62 (i_full _)
                          have agV62 : agr [(0, 7), (0, 8), (0, 48), (0, 50), (0, 51), (0, 52)] [15, 19, 20, 21, 22, 23, 24, 25, 26, 27, 28, 29, 30, 31, 32, 33, 34, 35, 36, 37, 38, 45, 46, 47, 53] V V62 := agV61.up hV62 rfl
                          refine lv_aload_n hx hb dX12_toldComponent_283 rfl (lv_at hl 3 rfl) ?_
                          refine lv_iload_n hx hb dX12_toldComponent_284 rfl (lv_at hl 2 rfl) ?_
                          refine va_put (D := D) (ci := 12) (v := .int z5) (ty := tyX12 51) (C := RX12) (T := TX12) (N := 100) hx hb hg inX12 tyX12 tyX12_ok nmX12 hown hK hP hD hS 0 rfl rfl 51 (by decide) (hg _ w1757) (fun _ h9 => h9) rfl (tyX12_ok 51 (by decide)) rfl rfl (Nat.le_of_ble_eq_true rfl) dX12_toldComponent_285 (fun H locs hP hD hS => ?_)
                          obtain ⟨V63, hV63⟩ : ∃ z, z = up2 V62 0 51 z5 := ⟨_, rfl⟩
                          have hP : va_P D vwCl (mw ad kk ks.1 V63 L54) H := by rw [hV63]; exact hP
                          have hD : va_D A (mw ad kk ks.1 V63 L54) := by rw [hV63]; exact hD
                          have hMV63 : rgd bM V63 := hMV62.put hV63 (show (-1) ≤ z5.toInt ∧ z5.toInt ≤ 47 from by as_aux_lemma => (first | exact om_fd8d970f3df8 r2.1 r2.2 hz3 r4.1 r4.2 hz5 f7 | omega))
                          have agV63 : agr [(0, 7), (0, 8), (0, 48), (0, 50), (0, 51), (0, 52)] [15, 19, 20, 21, 22, 23, 24, 25, 26, 27, 28, 29, 30, 31, 32, 33, 34, 35, 36, 37, 38, 45, 46, 47, 53] V V63 := agV62.up hV63 rfl
                          refine lv_aload_n hx hb dX12_toldComponent_288 rfl (lv_at hl 3 rfl) ?_
                          refine lv_iconst (v := 0) hx hb dX12_toldComponent_289 (by decide) ?_
                          refine va_put (D := D) (ci := 12) (v := .int 0) (ty := tyX12 52) (C := RX12) (T := TX12) (N := 100) hx hb hg inX12 tyX12 tyX12_ok nmX12 hown hK hP hD hS 0 rfl rfl 52 (by decide) (hg _ w1758) (fun _ h9 => h9) rfl (tyX12_ok 52 (by decide)) rfl rfl (Nat.le_of_ble_eq_true rfl) dX12_toldComponent_290 (fun H locs hP hD hS => ?_)
                          obtain ⟨V64, hV64⟩ : ∃ z, z = up2 V63 0 52 0 := ⟨_, rfl⟩
                          have hP : va_P D vwCl (mw ad kk ks.1 V64 L54) H := by rw [hV64]; exact hP
                          have hD : va_D A (mw ad kk ks.1 V64 L54) := by rw [hV64]; exact hD
                          have hMV64 : rgd bM V64 := hMV63.put hV64 (by decide)
                          have agV64 : agr [(0, 7), (0, 8), (0, 48), (0, 50), (0, 51), (0, 52)] [15, 19, 20, 21, 22, 23, 24, 25, 26, 27, 28, 29, 30, 31, 32, 33, 34, 35, 36, 37, 38, 45, 46, 47, 53] V V64 := agV63.up hV64 rfl
                          refine lv_aload_n hx hb dX12_toldComponent_293 rfl (lv_at hl 3 rfl) ?_
                          refine lv_bipush (v := 123) hx hb dX12_toldComponent_294 (by decide) ?_
                          have rl65 : RelM V64 L54 bq gn gT s1 (gs.2.1 2) := RelM.ag r1 (show agr [(0, 51), (0, 52)] [27, 32, 33] V53 V64 from (agr.up (agr.up (agr.up (agr.up (agr.up agr.rf hV60 rfl) hV61 rfl) hV62 rfl) hV63 rfl) hV64 rfl)) (by decide) (show agL [] L54 L54 from agL.rf) (by decide)
                          have r66 : Int32.toInt 123 = 123 := by decide
                          refine gA_void (gA_runV (As := [.int 123]) (rest := []) (ci := 12) (q0 := 0) hx hb hml hown hg hP hD hK hS hA hnw hgk (s_takeSignA l D ks H.size ad kk V64 L54 123 (bq) (gn) (gT) (s1) ((gs.2.1 2)) hMV64 rl65 (sg_yes (j := 123) (by decide) (by decide) (by decide))) w2075 w2077 w96 w172 w2078 rfl rfl hdV_yX12_takeSign ⟨Nat.le_of_ble_eq_true rfl, Nat.le_of_ble_eq_true rfl⟩ rfl hl.1 rfl (Nat.le_of_ble_eq_true rfl) dX12_toldComponent_296 ⟨Nat.le_of_ble_eq_true rfl, Nat.le_of_ble_eq_true rfl⟩) hP hD hK hS hA (fun u68 H locs w69 hP hD hK hS => ?_)
                          obtain ⟨V71, L72⟩ := u68
                          obtain ⟨hMV71, ajV71, axL72, t70⟩ := w69
                          have axL72 : L54 = L72 := Eq.symm axL72
                          subst axL72
                          replace hP : va_P D vwCl (mw ad kk ks.1 V71 L54) H := hP
                          replace hD : va_D A (mw ad kk ks.1 V71 L54) := hD
                          replace hMV71 : rgd bM V71 := hMV71
                          replace ajV71 : agr [(0, 7), (0, 8)] [] V64 V71 := ajV71
                          have agV71 : agr [(0, 7), (0, 8), (0, 48), (0, 50), (0, 51), (0, 52)] [15, 19, 20, 21, 22, 23, 24, 25, 26, 27, 28, 29, 30, 31, 32, 33, 34, 35, 36, 37, 38, 45, 46, 47, 53] V V71 := agV64.tr ajV71 (by decide) (by decide)
                          replace t70 : ((V71 0 8).toInt = 0 ∧ (gT).1 ((s1).1 0) = (Int32.toInt 123) ∧ RelM V71 L54 (bq) (gn) (gT) (nx (s1) 1) ((gs.2.1 2))) ∨ (1 ≤ (V71 0 8).toInt ∧ (gT).1 ((s1).1 0) ≠ (Int32.toInt 123) ∧ (V71 0 8).toInt = 1 + 16 * (gT).2.2 ((s1).1 0)) := t70
                          rcases t70 with ⟨q73, h74, rl75⟩ | ⟨q73, h74, rl75⟩
                          · skip
                            have kd76 : gT.1 (s1.1 0) = 123 := h74.trans (by decide)
                            have hr77 : ∀ k, Rc gT (Crun gs (Istmt :: k)) (Crun (nx s1 1) (IaddNm m1 c1 wx32 [wv1, ws1, ra1, ca1] :: Imember :: k)) := fun k => Rc.go1 (h1 k) (tk_y kd76)
                            have ps78 : (nx s1 1).1 0 = s1.1 0 + 1 := rfl
                            have fz79 := RelM.rg rl75
                            have r80 : 0 ≤ ((V71 0 8)).toInt ∧ ((V71 0 8)).toInt ≤ 70000 := hMV71 0 8
                            have rl81 : RelM V71 L54 bq gn gT (nmS (nx s1 1) m1 c1 wx32 [wv1, ws1, ra1, ca1]) (gs.2.1 2) := RelM.nu (show RelM V71 L54 bq gn gT (sA (nx s1 1) 2 wx32) (gs.2.1 2) from RelM.ad2 rl75) (nmS_5 0 (by decide)) rfl
                            have hr82 : ∀ k, Rc gT (Crun gs (Istmt :: k)) (Crun (nmS (nx s1 1) m1 c1 wx32 [wv1, ws1, ra1, ca1]) (Imember :: k)) := fun k => Rc.go1 (hr77 k) (m_addNm m1 c1 wx32 [wv1, ws1, ra1, ca1])
                            have ow83 : OWm V71 gc (sA (nx s1 1) 2 wx32) := OWm.fresh (keepS.tr (keepS.tr (keepS.rf : keepS (scopeS s0) 0 (scopeS s0)) k1) (keepS.n1 1)) (by as_aux_lemma => have h9 : V71 27 (Int32.toNatClampNeg z5) = 0 := ((ajV71 27 (Int32.toNatClampNeg z5) rfl).trans ((up2_o hV64 (by decide)).trans ((up2_o hV63 (by decide)).trans ((up2_o hV62 (by decide)).trans ((up2_o hV61 (by decide)).trans (up2_s hV60)))))); rw [kgc] at h9; rw [h9]; decide) (by as_aux_lemma => have h9 : V71 32 (Int32.toNatClampNeg z5) = (-1) := ((ajV71 32 (Int32.toNatClampNeg z5) rfl).trans ((up2_o hV64 (by decide)).trans ((up2_o hV63 (by decide)).trans ((up2_o hV62 (by decide)).trans (up2_s hV61))))); rw [kgc] at h9; rw [h9]; decide) (by as_aux_lemma => have h9 : V71 33 (Int32.toNatClampNeg z5) = (-1) := ((ajV71 33 (Int32.toNatClampNeg z5) rfl).trans ((up2_o hV64 (by decide)).trans ((up2_o hV63 (by decide)).trans (up2_s hV62)))); rw [kgc] at h9; rw [h9]; decide) (fun q hq => by rw [(show agr [(0, 7), (0, 8), (0, 51), (0, 52)] [15, 21, 22, 23, 24, 25, 26, 27, 32, 33, 35, 36, 37, 38, 53] V47 V71 from (agr.tr (agr.up (agr.up (agr.up (agr.up (agr.up (agr.tr agr.rf ajV53 (by decide) (by decide)) hV60 rfl) hV61 rfl) hV62 rfl) hV63 rfl) hV64 rfl) ajV71 (by decide) (by decide))) 34 _ rfl]; exact r351 q hq) wx32
                            have ow84 : OWm V71 gc (nmS (nx s1 1) m1 c1 wx32 [wv1, ws1, ra1, ca1]) := OWm.nu ow83 nmS_5 rfl
                            have cn85 : CNm V60 bq gs := CNm.up (xJ52_1 f7) hV60 (fun q9 => by as_aux_lemma => have h9 := i_clamp (x := z5) rfl (by as_aux_lemma => (first | exact om_89f771ec639b r2.1 hz3 r4.1 hz5 | omega)); unfold rdm at q9; omega)
                            have cn86 : CNm V71 bq gs := CNm.ag cn85 (show agr [(0, 7), (0, 8), (0, 51), (0, 52)] [32, 33] V60 V71 from (agr.tr (agr.up (agr.up (agr.up (agr.up agr.rf hV61 rfl) hV62 rfl) hV63 rfl) hV64 rfl) ajV71 (by decide) (by decide))) (by decide) keepC.rf
                            have cn87 : CNm V71 bq (nx s1 1) := CNm.mv cn86 (fun _ _ _ => rfl) (keepC.tr q1.1 (keepS.c (keepS.n1 1)))
                            have hd88 : HDn V71 gc m1 c1.toNat ca1 ra1 ws1 wv1 := HDn.mv6 hn59 (fun g hg => congrFun (by rw [(funext (fun q => ajV71 21 q rfl) : V71 21 = V64 21), (up2_fo hV64 (by decide) : V64 21 = V63 21), (up2_fo hV63 (by decide) : V63 21 = V62 21), (up2_fo hV62 (by decide) : V62 21 = V61 21), (up2_fo hV61 (by decide) : V61 21 = V60 21), (up2_fo hV60 (by decide) : V60 21 = V53 21)] : V71 21 = V53 21) _) (congrFun (by rw [(funext (fun q => ajV71 22 q rfl) : V71 22 = V64 22), (up2_fo hV64 (by decide) : V64 22 = V63 22), (up2_fo hV63 (by decide) : V63 22 = V62 22), (up2_fo hV62 (by decide) : V62 22 = V61 22), (up2_fo hV61 (by decide) : V61 22 = V60 22), (up2_fo hV60 (by decide) : V60 22 = V53 22)] : V71 22 = V53 22) _) (congrFun (by rw [(funext (fun q => ajV71 23 q rfl) : V71 23 = V64 23), (up2_fo hV64 (by decide) : V64 23 = V63 23), (up2_fo hV63 (by decide) : V63 23 = V62 23), (up2_fo hV62 (by decide) : V62 23 = V61 23), (up2_fo hV61 (by decide) : V61 23 = V60 23), (up2_fo hV60 (by decide) : V60 23 = V53 23)] : V71 23 = V53 23) _) (congrFun (by rw [(funext (fun q => ajV71 24 q rfl) : V71 24 = V64 24), (up2_fo hV64 (by decide) : V64 24 = V63 24), (up2_fo hV63 (by decide) : V63 24 = V62 24), (up2_fo hV62 (by decide) : V62 24 = V61 24), (up2_fo hV61 (by decide) : V61 24 = V60 24), (up2_fo hV60 (by decide) : V60 24 = V53 24)] : V71 24 = V53 24) _) (congrFun (by rw [(funext (fun q => ajV71 25 q rfl) : V71 25 = V64 25), (up2_fo hV64 (by decide) : V64 25 = V63 25), (up2_fo hV63 (by decide) : V63 25 = V62 25), (up2_fo hV62 (by decide) : V62 25 = V61 25), (up2_fo hV61 (by decide) : V61 25 = V60 25), (up2_fo hV60 (by decide) : V60 25 = V53 25)] : V71 25 = V53 25) _) (congrFun (by rw [(funext (fun q => ajV71 26 q rfl) : V71 26 = V64 26), (up2_fo hV64 (by decide) : V64 26 = V63 26), (up2_fo hV63 (by decide) : V63 26 = V62 26), (up2_fo hV62 (by decide) : V62 26 = V61 26), (up2_fo hV61 (by decide) : V61 26 = V60 26), (up2_fo hV60 (by decide) : V60 26 = V53 26)] : V71 26 = V53 26) _)
                            have cn89 : CNm V71 bq (nmS (nx s1 1) m1 c1 wx32 [wv1, ws1, ra1, ca1]) := CNm.nm cn87 (by rw [show ((nx s1 1).2.1 2).length = (gs.2.1 2).length from congrArg List.length (((((keepS.n1 1)).2.2.1 2 (by decide)).trans t1))]; exact hgc) hd88 (by as_aux_lemma => have h9 : V71 27 (Int32.toNatClampNeg z5) = 0 := ((ajV71 27 (Int32.toNatClampNeg z5) rfl).trans ((up2_o hV64 (by decide)).trans ((up2_o hV63 (by decide)).trans ((up2_o hV62 (by decide)).trans ((up2_o hV61 (by decide)).trans (up2_s hV60)))))); rw [kgc] at h9; rw [h9]; decide) (by rw [show ((nx s1 1).2.1 2).length = (gs.2.1 2).length from congrArg List.length (((((keepS.n1 1)).2.2.1 2 (by decide)).trans t1))]; omega)
                            have cd90 : CDm V71 (10000 * bq) gs := CDm.ag (xJ52_2 f7).1 (show agr [(0, 7), (0, 8), (0, 51), (0, 52)] [27, 32, 33] V53 V71 from (agr.tr (agr.up (agr.up (agr.up (agr.up (agr.up agr.rf hV60 rfl) hV61 rfl) hV62 rfl) hV63 rfl) hV64 rfl) ajV71 (by decide) (by decide))) ⟨rfl, rfl, fun _ => ⟨rfl, rfl, rfl⟩⟩
                            have cd91 : CDm V71 (10000 * bq) (nx s1 1) := CDm.mv cd90 (fun j9 h9 => ((show ∀ j9, j9 = 5 ∨ 2000 ≤ j9 → (nx s1 1).2.1 j9 = s1.2.1 j9 from fun j9 h9 => (show ∀ j9, 5 ≤ j9 → (nx s1 1).2.1 j9 = s1.2.1 j9 from fun _ _ => rfl) j9 (by as_aux_lemma => omega)) j9 h9).trans ((show ∀ j9, j9 = 5 ∨ 2000 ≤ j9 → s1.2.1 j9 = gs.2.1 j9 from fun j9 h9 => q1.2 j9 (by as_aux_lemma => omega)) j9 h9))
                            have re92 : REm V60 bq gs := REm.ag (xJ52_2 f7).2.1 (show agr [] [27] V53 V60 from (agr.up agr.rf hV60 rfl)) (fun _ => ⟨rfl, rfl, rfl⟩) keepE.rf rfl
                            have re93 : REm V61 bq gs := REm.up re92 hV61 (by as_aux_lemma => have h9 := i_clamp (x := z5) rfl (by as_aux_lemma => (first | exact om_89f771ec639b r2.1 hz3 r4.1 hz5 | omega)); omega)
                            have re94 : REm V62 bq gs := REm.up re93 hV62 (by as_aux_lemma => have h9 := i_clamp (x := z5) rfl (by as_aux_lemma => (first | exact om_89f771ec639b r2.1 hz3 r4.1 hz5 | omega)); omega)
                            have re95 : REm V71 bq gs := REm.ag re94 (show agr [(0, 7), (0, 8), (0, 51), (0, 52)] [] V62 V71 from (agr.tr (agr.up (agr.up agr.rf hV63 rfl) hV64 rfl) ajV71 (by decide) (by decide))) (fun _ => ⟨rfl, rfl, rfl⟩) keepE.rf rfl
                            have re96 : REm V71 bq (nx s1 1) := REm.mv re95 (fun _ _ _ _ => rfl) (keepE.tr (show keepE gs s1 from keepE.eq q1.2) (show keepE s1 (nx s1 1) from keepE.eq (show ∀ j9, 5 ≤ j9 → (nx s1 1).2.1 j9 = s1.2.1 j9 from fun _ _ => rfl))) (((show keepS s1 1 (nx s1 1) from (keepS.n1 1)).2.2.1 2 (by decide)).trans t1)
                            have wm97 : WMm V71 bq gs := WMm.ag (xJ52_2 f7).2.2 (show agr [(0, 7), (0, 8), (0, 51), (0, 52)] [27, 32, 33] V53 V71 from (agr.tr (agr.up (agr.up (agr.up (agr.up (agr.up agr.rf hV60 rfl) hV61 rfl) hV62 rfl) hV63 rfl) hV64 rfl) ajV71 (by decide) (by decide))) (fun _ => ⟨rfl, rfl, rfl, rfl, rfl⟩) (fun _ _ _ => rfl) rfl
                            have wm98 : WMm V71 bq (nx s1 1) := WMm.mv wm97 (fun _ _ _ _ _ => rfl) ((keepE.tr (show keepE gs s1 from keepE.eq q1.2) (show keepE s1 (nx s1 1) from keepE.eq (show ∀ j9, 5 ≤ j9 → (nx s1 1).2.1 j9 = s1.2.1 j9 from fun _ _ => rfl)))).k9 ((congrArg (fun q9 : List (Nat × Bool) × List Nat => q9.1) (show keepS s1 1 (nx s1 1) from (keepS.n1 1)).2.2.2).trans w1)
                            have re99 : REm V71 bq (nmS (nx s1 1) m1 c1 wx32 [wv1, ws1, ra1, ca1]) := REm.nm (o := gc) re96 (by rw [(show ((nx s1 1).2.1 2).length = (gs.2.1 2).length from congrArg List.length (((((keepS.n1 1)).2.2.1 2 (by decide)).trans t1)))]; exact hgc) (by rw [(show ((nx s1 1).2.1 2).length = (gs.2.1 2).length from congrArg List.length (((((keepS.n1 1)).2.2.1 2 (by decide)).trans t1)))]; omega) (by as_aux_lemma => have h9 : V71 32 (Int32.toNatClampNeg z5) = (-1) := ((ajV71 32 (Int32.toNatClampNeg z5) rfl).trans ((up2_o hV64 (by decide)).trans ((up2_o hV63 (by decide)).trans ((up2_o hV62 (by decide)).trans (up2_s hV61))))); rw [kgc] at h9; rw [h9]; decide) (by as_aux_lemma => have h9 : V71 33 (Int32.toNatClampNeg z5) = (-1) := ((ajV71 33 (Int32.toNatClampNeg z5) rfl).trans ((up2_o hV64 (by decide)).trans ((up2_o hV63 (by decide)).trans (up2_s hV62)))); rw [kgc] at h9; rw [h9]; decide) (fun q hq => by rw [(show agr [(0, 7), (0, 8), (0, 51), (0, 52)] [15, 21, 22, 23, 24, 25, 26, 27, 32, 33, 35, 36, 37, 38, 53] V47 V71 from (agr.tr (agr.up (agr.up (agr.up (agr.up (agr.up (agr.tr agr.rf ajV53 (by decide) (by decide)) hV60 rfl) hV61 rfl) hV62 rfl) hV63 rfl) hV64 rfl) ajV71 (by decide) (by decide))) 34 _ rfl]; exact r351 q (by as_aux_lemma => omega))
                            have tb7 : (nmS (nx s1 1) m1 c1 wx32 [wv1, ws1, ra1, ca1]).2.1 2 = gs.2.1 2 ++ [wx32] := by show (nx s1 1).2.1 2 ++ [wx32] = _; rw [((((keepS.n1 1)).2.2.1 2 (by decide)).trans t1)]
                            have wr7 : (nmS (nx s1 1) m1 c1 wx32 [wv1, ws1, ra1, ca1]).2.2.1 = gs.2.2.1 := ((rfl : (nmS (nx s1 1) m1 c1 wx32 [wv1, ws1, ra1, ca1]).2.2.1 = (nx s1 1).2.2.1).trans ((congrArg (fun q9 => q9.1) ((keepS.n1 1)).2.2.2).trans w1))
                            have ps100 : s1.1 0 + 1 ≤ (nx s1 1).1 0 := ((keepS.n1 1)).1
                            have ps101 : (nmS (nx s1 1) m1 c1 wx32 [wv1, ws1, ra1, ca1]).1 0 = (nx s1 1).1 0 := nmS_5 0 (by decide)
                            have gp7 : gs.1 0 + 1 ≤ (nmS (nx s1 1) m1 c1 wx32 [wv1, ws1, ra1, ca1]).1 0 := (by as_aux_lemma => omega)
                            have lp105 : ∀ (fulp105 : Nat) (g104 : Int) (V102 : Vf) (L103 : Lf) (H : Heap) (locs : List Loc) (ls : Array Slot), (((V102 0 8).toInt = 0 ∧ ∃ s1 : St, (∀ k, Rc gT (Crun gs (Istmt :: k)) (Crun s1 (Imember :: k))) ∧ RelM V102 L103 bq gn gT s1 (gs.2.1 2) ∧ gs.1 0 + 1 ≤ s1.1 0 ∧ OWm V102 gc s1 ∧ s1.2.1 2 = gs.2.1 2 ++ [wx32] ∧ s1.2.2.1 = gs.2.2.1 ∧ CNm V102 bq s1 ∧ CEm V102 bq s1) ∨ (1 ≤ (V102 0 8).toInt ∧ ∀ k, Rc gT (Crun gs (Istmt :: k)) (Cbad (V102 0 8).toInt))) → 0 ≤ g104 → Imp ((V102 0 8).toInt = 0) ((gn : Int) - (V102 0 7).toInt < g104) → Imp ((V102 0 8).toInt = 0) ((V102 0 48).toInt ≤ 2 * (V102 0 7).toInt) → (V102 0 48).toInt ≤ 8120 → (V102 0 51).toInt = z5.toInt → (V102 0 52).toInt = 0 → Imp (1 ≤ (V71 0 8).toInt) ((V102 0 8).toInt = (V71 0 8).toInt) → (RoV 19 bq V V102) → (RoV 35 bq V V102) → (RoV 37 bq V V102) → (RoL 20 24 bq L L103) → (RoL 36 20 bq L L103) → (RoL 38 20 bq L L103) → g104 < (fulp105 : Int) → agL [15, 19, 20, 21, 22, 23, 24, 25, 26, 27, 28, 29, 30, 31, 32, 33, 34, 35, 36, 37, 38, 45, 46, 47, 53] L L103 → agr [(0, 7), (0, 8), (0, 48), (0, 50)] [27, 28, 29, 30, 31, 32, 33, 34, 35, 36, 37, 38, 45, 46, 47] V71 V102 → rgd bM V102 → va_P D vwCl (mw ad kk ks.1 V102 L103) H → va_D A (mw ad kk ks.1 V102 L103) → va_S A s.heap H locs → lv_has ls 5 [(4, .int y46), (2, .long z25), (1, .int z5), (0, .ref (ad 0))] → W p l e r_s_toldComponentA s m ([.ref (ad 0)] : List Value).toArray below meth c H locs 0 0 (MQ below (q_s_toldComponentA D ks ad kk V L  bq gn gT gs A) ([.ref (ad 0)] : List Value).toArray s 0 0 A) (F0 m 299 ls []) := by
                              (try clear ps101); (try clear ps100); (try clear hr82); (try clear rl81); (try clear fz79); (try clear ps78); (try clear hr77); (try clear kd76); (try clear rl65); (try clear fz57); (try clear fz39); (try clear ps38); (try clear hr37); (try clear fz21); (try clear ps20); (try clear hr19); (try clear hr18)
                              intro fulp105
                              induction fulp105 with
                              | zero =>
                                intro g104 V102 L103 H locs ls xlp105_0 xlp105_1 xlp105_2 xlp105_3 xlp105_4 xlp105_5 xlp105_6 xlp105_7 xlp105_8 xlp105_9 xlp105_10 xlp105_11 xlp105_12 xlp105_13 hn alL103 ajV102 hMV102 hP hD hS hl
                                exfalso; (first | exact om_21e89d3d06d7 xlp105_1 hn | omega)
                              | succ fulp105 ihlp105 =>
                                intro g104 V102 L103 H locs ls xlp105_0 xlp105_1 xlp105_2 xlp105_3 xlp105_4 xlp105_5 xlp105_6 xlp105_7 xlp105_8 xlp105_9 xlp105_10 xlp105_11 xlp105_12 xlp105_13 hn alL103 ajV102 hMV102 hP hD hS hl
                                have agV102 : agr [(0, 7), (0, 8), (0, 48), (0, 50), (0, 51), (0, 52)] [15, 19, 20, 21, 22, 23, 24, 25, 26, 27, 28, 29, 30, 31, 32, 33, 34, 35, 36, 37, 38, 45, 46, 47, 53] V V102 := agV71.tr ajV102 (by decide) (by decide)
                                have r106 : 0 ≤ ((V102 0 8)).toInt ∧ ((V102 0 8)).toInt ≤ 70000 := hMV102 0 8
                                have r107 : 0 ≤ ((V102 0 48)).toInt ∧ ((V102 0 48)).toInt ≤ 10000 := hMV102 0 48
                                have pq108 : (V102 0 51).toInt = z5.toInt := congrArg Int32.toInt ((ajV102 0 51 rfl).trans ((ajV71 0 51 rfl).trans ((up2_k hV64 (by decide)).trans (up2_s hV63))))
                                have pq109 : (V102 0 52).toInt = 0 := (congrArg Int32.toInt ((ajV102 0 52 rfl).trans ((ajV71 0 52 rfl).trans (up2_s hV64)))).trans (by decide)
                                refine lv_aload_n hx hb dX12_toldComponent_299 rfl (lv_at hl 3 rfl) ?_
                                rcases xlp105_0 with ⟨f8, s1, hq, rq, gq1, oq, tq, wq, nq, eq9⟩ | ⟨f8, hq⟩
                                · skip
                                  have fz110 := RelM.rg rq
                                  refine va_get (D := D) (ci := 12) (v := .int (V102 0 8)) (C := RX12) (T := TX12) (N := 100) hx hb hg inX12 hown hK hP 0 rfl rfl 8 (by decide) (hg _ w1714) (fun _ h9 => h9) rfl dX12_toldComponent_300 ?_
                                  refine lv_if_ne (tgt := 323) hx hb dX12_toldComponent_303 (by decide) (fun c111 => ?_) (fun c111 => ?_)
                                  · skip
                                    have f112 : ((V102 0 8)).toInt ≠ 0 := b_neq rfl (by decide) c111
                                    exfalso; first | omega | ((try (have i_xlp105_7 := Imp.go xlp105_7 (by omega))); (try (have i_xlp105_3 := Imp.go xlp105_3 (by omega))); (try (have i_xlp105_2 := Imp.go xlp105_2 (by omega))); (try (have i_xlp105_2 := Imp.go xlp105_2 (by omega))); (try (have i_xlp105_3 := Imp.go xlp105_3 (by omega))); (try (have i_xlp105_7 := Imp.go xlp105_7 (by omega))); omega)
                                  · skip
                                    have f113 : ((V102 0 8)).toInt = 0 := b_eq rfl (by decide) c111
                                    refine lv_aload_n hx hb dX12_toldComponent_306 rfl (lv_at hl 3 rfl) ?_
                                    refine lv_bipush (v := 125) hx hb dX12_toldComponent_307 (by decide) ?_
                                    have r114 : Int32.toInt 125 = 125 := by decide
                                    refine gA_int (gA_runV (As := [.int 125]) (rest := []) (ci := 12) (q0 := 0) hx hb hml hown hg hP hD hK hS hA hnw hgk (s_isSignA l D ks H.size ad kk V102 L103 125 (bq) (gn) (gT) (s1) ((gs.2.1 2)) hMV102 rq (sg_yes (j := 125) (by decide) (by decide) (by decide))) w2071 w2073 w95 w172 w2074 rfl rfl hdV_yX12_isSign ⟨Nat.le_of_ble_eq_true rfl, Nat.le_of_ble_eq_true rfl⟩ rfl hl.1 rfl (Nat.le_of_ble_eq_true rfl) dX12_toldComponent_309 ⟨Nat.le_of_ble_eq_true rfl, Nat.le_of_ble_eq_true rfl⟩) hP hD hK hS hA (fun z115 u116 H locs w117 hP hD hK hS => ?_)
                                    obtain ⟨rgz115, t118⟩ := w117
                                    replace rgz115 : 0 ≤ z115.toInt ∧ z115.toInt ≤ 1 := rgz115
                                    replace t118 : (z115.toInt = 1 ∧ (gT).1 ((s1).1 0) = (Int32.toInt 125)) ∨ (z115.toInt = 0 ∧ (gT).1 ((s1).1 0) ≠ (Int32.toInt 125)) := t118
                                    rcases t118 with ⟨q119, h120⟩ | ⟨q119, h120⟩
                                    · skip
                                      have kd121 : gT.1 (s1.1 0) = 125 := h120.trans (by decide)
                                      refine lv_if_ne (tgt := 323) hx hb dX12_toldComponent_312 (by decide) (fun c122 => ?_) (fun c122 => ?_)
                                      · skip
                                        have f123 : z115.toInt ≠ 0 := b_neq rfl (by decide) c122
                                        refine lv_aload_n hx hb dX12_toldComponent_323 rfl (lv_at hl 3 rfl) ?_
                                        refine lv_bipush (v := 125) hx hb dX12_toldComponent_324 (by decide) ?_
                                        refine gA_void (gA_runV (As := [.int 125]) (rest := []) (ci := 12) (q0 := 0) hx hb hml hown hg hP hD hK hS hA hnw hgk (s_takeSignA l D ks H.size ad kk V102 L103 125 (bq) (gn) (gT) (s1) ((gs.2.1 2)) hMV102 rq (sg_yes (j := 125) (by decide) (by decide) (by decide))) w2075 w2077 w96 w172 w2078 rfl rfl hdV_yX12_takeSign ⟨Nat.le_of_ble_eq_true rfl, Nat.le_of_ble_eq_true rfl⟩ rfl hl.1 rfl (Nat.le_of_ble_eq_true rfl) dX12_toldComponent_326 ⟨Nat.le_of_ble_eq_true rfl, Nat.le_of_ble_eq_true rfl⟩) hP hD hK hS hA (fun u125 H locs w126 hP hD hK hS => ?_)
                                        obtain ⟨V128, L129⟩ := u125
                                        obtain ⟨hMV128, ajV128, axL129, t127⟩ := w126
                                        have axL129 : L103 = L129 := Eq.symm axL129
                                        subst axL129
                                        replace hP : va_P D vwCl (mw ad kk ks.1 V128 L103) H := hP
                                        replace hD : va_D A (mw ad kk ks.1 V128 L103) := hD
                                        replace hMV128 : rgd bM V128 := hMV128
                                        replace ajV128 : agr [(0, 7), (0, 8)] [] V102 V128 := ajV128
                                        have agV128 : agr [(0, 7), (0, 8), (0, 48), (0, 50), (0, 51), (0, 52)] [15, 19, 20, 21, 22, 23, 24, 25, 26, 27, 28, 29, 30, 31, 32, 33, 34, 35, 36, 37, 38, 45, 46, 47, 53] V V128 := agV102.tr ajV128 (by decide) (by decide)
                                        replace t127 : ((V128 0 8).toInt = 0 ∧ (gT).1 ((s1).1 0) = (Int32.toInt 125) ∧ RelM V128 L103 (bq) (gn) (gT) (nx (s1) 1) ((gs.2.1 2))) ∨ (1 ≤ (V128 0 8).toInt ∧ (gT).1 ((s1).1 0) ≠ (Int32.toInt 125) ∧ (V128 0 8).toInt = 1 + 16 * (gT).2.2 ((s1).1 0)) := t127
                                        rcases t127 with ⟨q130, h131, rl132⟩ | ⟨q130, h131, rl132⟩
                                        · skip
                                          have kd133 : gT.1 (s1.1 0) = 125 := h131.trans (by decide)
                                          have fz134 := RelM.rg rl132
                                          have r135 : 0 ≤ ((V128 0 8)).toInt ∧ ((V128 0 8)).toInt ≤ 70000 := hMV128 0 8
                                          have hr136 : ∀ k, Rc gT (Crun gs (Istmt :: k)) (Crun (nx s1 1) (Istmt :: k)) := fun k => Rc.go1 (hq k) (mb_125 kd133)
                                          refine lv_aload_n hx hb dX12_toldComponent_329 rfl (lv_at hl 3 rfl) ?_
                                          refine va_get (D := D) (ci := 12) (v := .int (V128 0 8)) (C := RX12) (T := TX12) (N := 100) hx hb hg inX12 hown hK hP 0 rfl rfl 8 (by decide) (hg _ w1714) (fun _ h9 => h9) rfl dX12_toldComponent_330 ?_
                                          refine lv_if_le (tgt := 337) hx hb dX12_toldComponent_333 (by decide) (fun c137 => ?_) (fun c137 => ?_)
                                          · skip
                                            have f138 : ((V128 0 8)).toInt ≤ 0 := b_le rfl (by decide) c137
                                            refine lv_aload_n hx hb dX12_toldComponent_337 rfl (lv_at hl 3 rfl) ?_
                                            refine va_get (D := D) (ci := 12) (v := .ref (ad 20)) (C := RX12) (T := TX12) (N := 100) hx hb hg inX12 hown hK hP 0 rfl rfl 20 (by decide) (hg _ w1726) (fun _ h9 => h9) rfl dX12_toldComponent_338 ?_
                                            refine lv_iload_n hx hb dX12_toldComponent_341 rfl (lv_at hl 2 rfl) ?_
                                            refine lv_lload_n hx hb dX12_toldComponent_342 rfl (lv_at hl 1 rfl) ?_
                                            refine va_last (D := D) (i := z5) (x := z25) hx hb hK hP hD hS 13 12 rfl rfl (i_in (a := z5.toInt) rfl (by first | exact ⟨z5r, z5s⟩ | omega | ((try (have i_xlp105_7 := Imp.go xlp105_7 (by omega))); (try (have i_xlp105_3 := Imp.go xlp105_3 (by (first | exact om_b1799fcf2d63 r106.1 f113 | omega)))); (try (have i_xlp105_2 := Imp.go xlp105_2 (by (first | exact om_b1799fcf2d63 r106.1 f113 | omega)))); (try (have i_xlp105_2 := Imp.go xlp105_2 (by (first | exact om_b1799fcf2d63 r106.1 f113 | omega)))); (try (have i_xlp105_3 := Imp.go xlp105_3 (by (first | exact om_b1799fcf2d63 r106.1 f113 | omega)))); (try (have i_xlp105_7 := Imp.go xlp105_7 (by omega))); omega))) dX12_toldComponent_343 (fun H locs hP hD hS => ?_)
                                            obtain ⟨L139, hL139⟩ : ∃ z, z = upL L103 20 (Int32.toNatClampNeg z5) z25 := ⟨_, rfl⟩
                                            have hP : va_P D vwCl (mw ad kk ks.1 V128 L139) H := by rw [hL139]; exact hP
                                            have hD : va_D A (mw ad kk ks.1 V128 L139) := by rw [hL139]; exact hD
                                            have alL139 : agL [15, 19, 20, 21, 22, 23, 24, 25, 26, 27, 28, 29, 30, 31, 32, 33, 34, 35, 36, 37, 38, 45, 46, 47, 53] L L139 := agL.up alL103 hL139 rfl
                                            refine lv_aload_n hx hb dX12_toldComponent_344 rfl (lv_at hl 3 rfl) ?_
                                            refine va_get (D := D) (ci := 12) (v := .ref (ad 19)) (C := RX12) (T := TX12) (N := 100) hx hb hg inX12 hown hK hP 0 rfl rfl 19 (by decide) (hg _ w1725) (fun _ h9 => h9) rfl dX12_toldComponent_345 ?_
                                            refine lv_aload_n hx hb dX12_toldComponent_348 rfl (lv_at hl 3 rfl) ?_
                                            refine va_get (D := D) (ci := 12) (v := .int (V128 0 12)) (C := RX12) (T := TX12) (N := 100) hx hb hg inX12 hown hK hP 0 rfl rfl 12 (by decide) (hg _ w1718) (fun _ h9 => h9) rfl dX12_toldComponent_349 ?_
                                            refine g_top (v := (V 0 12)) ((ajV128 0 12 rfl).trans ((ajV102 0 12 rfl).trans ((ajV71 0 12 rfl).trans ((up2_k hV64 (by decide)).trans ((up2_k hV63 (by decide)).trans ((up2_o hV62 (by decide)).trans ((up2_o hV61 (by decide)).trans ((up2_o hV60 (by decide)).trans ((ajV53 0 12 rfl).trans ((ajV47 0 12 rfl).trans ((ajV42 0 12 rfl).trans ((ajV29 0 12 rfl).trans (ajV13 0 12 rfl))))))))))))) ?_
                                            refine lv_dup2_11 hx hb dX12_toldComponent_352 rfl rfl ?_
                                            refine va_iald (D := D) (i := (V 0 12)) hx hb hK hP 12 11 rfl rfl (i_in (a := ((V 0 12)).toInt) rfl (by as_aux_lemma => first | exact om_8367a84723c7 r2.1 r2.2 | first | omega | ((try (have i_xlp105_7 := Imp.go xlp105_7 (by omega))); (try (have i_xlp105_3 := Imp.go xlp105_3 (by omega))); (try (have i_xlp105_2 := Imp.go xlp105_2 (by omega))); (try (have i_xlp105_2 := Imp.go xlp105_2 (by omega))); (try (have i_xlp105_3 := Imp.go xlp105_3 (by omega))); (try (have i_xlp105_7 := Imp.go xlp105_7 (by omega))); omega))) dX12_toldComponent_353 ?_
                                            refine g_top (v := (V 19 (Int32.toNatClampNeg (V 0 12)))) ((ajV128 19 (Int32.toNatClampNeg (V 0 12)) rfl).trans ((ajV102 19 (Int32.toNatClampNeg (V 0 12)) rfl).trans ((ajV71 19 (Int32.toNatClampNeg (V 0 12)) rfl).trans ((up2_o hV64 (by decide)).trans ((up2_o hV63 (by decide)).trans ((up2_o hV62 (by decide)).trans ((up2_o hV61 (by decide)).trans ((up2_o hV60 (by decide)).trans ((ajV53 19 (Int32.toNatClampNeg (V 0 12)) rfl).trans ((ajV47 19 (Int32.toNatClampNeg (V 0 12)) rfl).trans ((ajV42 19 (Int32.toNatClampNeg (V 0 12)) rfl).trans ((ajV29 19 (Int32.toNatClampNeg (V 0 12)) rfl).trans (ajV13 19 (Int32.toNatClampNeg (V 0 12)) rfl))))))))))))) ?_
                                            refine lv_iconst (v := 1) hx hb dX12_toldComponent_354 (by decide) ?_
                                            refine lv_iadd hx hb dX12_toldComponent_355 ?_
                                            refine lv_topi (fun z140 ez140 => ?_)
                                            have hz140 : z140.toInt = ((V 19 (Int32.toNatClampNeg (V 0 12)))).toInt + 1 := i_add ez140 rfl (by decide) (by as_aux_lemma => (first | exact om_3847cd3a5ac6 r4.1 r4.2 f7 | omega))
                                            refine va_iast (D := D) (i := (V 0 12)) (x := z140) hx hb hK hP hD hS 12 11 rfl rfl (i_in (a := ((V 0 12)).toInt) rfl (by as_aux_lemma => first | exact om_8367a84723c7 r2.1 r2.2 | first | omega | ((try (have i_xlp105_7 := Imp.go xlp105_7 (by omega))); (try (have i_xlp105_3 := Imp.go xlp105_3 (by omega))); (try (have i_xlp105_2 := Imp.go xlp105_2 (by omega))); (try (have i_xlp105_2 := Imp.go xlp105_2 (by omega))); (try (have i_xlp105_3 := Imp.go xlp105_3 (by omega))); (try (have i_xlp105_7 := Imp.go xlp105_7 (by omega))); omega))) dX12_toldComponent_356 (fun H locs hP hD hS => ?_)
                                            obtain ⟨V141, hV141⟩ : ∃ z, z = up2 V128 19 (Int32.toNatClampNeg (V 0 12)) z140 := ⟨_, rfl⟩
                                            have hP : va_P D vwCl (mw ad kk ks.1 V141 L139) H := by rw [hV141]; exact hP
                                            have hD : va_D A (mw ad kk ks.1 V141 L139) := by rw [hV141]; exact hD
                                            have hMV141 : rgd bM V141 := hMV128.put hV141 (show 0 ≤ z140.toInt ∧ z140.toInt ≤ 24 from by as_aux_lemma => first | exact om_14c2878ed4e2 r4.1 r4.2 f7 hz140 | first | omega | ((try (have i_xlp105_7 := Imp.go xlp105_7 (by omega))); (try (have i_xlp105_3 := Imp.go xlp105_3 (by omega))); (try (have i_xlp105_2 := Imp.go xlp105_2 (by omega))); (try (have i_xlp105_2 := Imp.go xlp105_2 (by omega))); (try (have i_xlp105_3 := Imp.go xlp105_3 (by omega))); (try (have i_xlp105_7 := Imp.go xlp105_7 (by omega))); omega))
                                            have agV141 : agr [(0, 7), (0, 8), (0, 48), (0, 50), (0, 51), (0, 52)] [15, 19, 20, 21, 22, 23, 24, 25, 26, 27, 28, 29, 30, 31, 32, 33, 34, 35, 36, 37, 38, 45, 46, 47, 53] V V141 := agV128.up hV141 rfl
                                            have cq9 : (Int32.toNatClampNeg (V 0 12)) = bq := by as_aux_lemma => have h9 := RelM.cq rl132; have h8 : V128 0 12 = (V 0 12) := ((ajV128 0 12 rfl).trans ((ajV102 0 12 rfl).trans ((ajV71 0 12 rfl).trans ((up2_k hV64 (by decide)).trans ((up2_k hV63 (by decide)).trans ((up2_o hV62 (by decide)).trans ((up2_o hV61 (by decide)).trans ((up2_o hV60 (by decide)).trans ((ajV53 0 12 rfl).trans ((ajV47 0 12 rfl).trans ((ajV42 0 12 rfl).trans ((ajV29 0 12 rfl).trans (ajV13 0 12 rfl))))))))))))); rw [h8] at h9; exact h9
                                            have hv9 := hV141
                                            rw [cq9] at hv9
                                            have pq142 : (V128 19 bq).toInt = ((V 19 bq)).toInt := congrArg Int32.toInt ((ajV128 19 bq rfl).trans ((ajV102 19 bq rfl).trans ((ajV71 19 bq rfl).trans ((up2_o hV64 (by decide)).trans ((up2_o hV63 (by decide)).trans ((up2_o hV62 (by decide)).trans ((up2_o hV61 (by decide)).trans ((up2_o hV60 (by decide)).trans ((ajV53 19 bq rfl).trans ((ajV47 19 bq rfl).trans ((ajV42 19 bq rfl).trans ((ajV29 19 bq rfl).trans (ajV13 19 bq rfl)))))))))))))
                                            have r143 : 0 ≤ ((V 19 bq)).toInt ∧ ((V 19 bq)).toInt ≤ 24 := hMV 19 bq
                                            have cv9 : (V128 19 (Int32.toNatClampNeg (V 0 12))).toInt = (V128 19 bq).toInt := by rw [cq9]
                                            have pq144 : (V128 19 (Int32.toNatClampNeg (V 0 12))).toInt = ((V 19 (Int32.toNatClampNeg (V 0 12)))).toInt := congrArg Int32.toInt ((ajV128 19 (Int32.toNatClampNeg (V 0 12)) rfl).trans ((ajV102 19 (Int32.toNatClampNeg (V 0 12)) rfl).trans ((ajV71 19 (Int32.toNatClampNeg (V 0 12)) rfl).trans ((up2_o hV64 (by decide)).trans ((up2_o hV63 (by decide)).trans ((up2_o hV62 (by decide)).trans ((up2_o hV61 (by decide)).trans ((up2_o hV60 (by decide)).trans ((ajV53 19 (Int32.toNatClampNeg (V 0 12)) rfl).trans ((ajV47 19 (Int32.toNatClampNeg (V 0 12)) rfl).trans ((ajV42 19 (Int32.toNatClampNeg (V 0 12)) rfl).trans ((ajV29 19 (Int32.toNatClampNeg (V 0 12)) rfl).trans (ajV13 19 (Int32.toNatClampNeg (V 0 12)) rfl)))))))))))))
                                            have r13 : 0 ≤ (V128 19 bq).toInt := (hMV128 19 bq).1
                                            have fn9 : fndI (gs.2.1 2) wx32 = none := (told_i tn35).2.2
                                            have lg9 := RelM.len rl132
                                            have ra9 : RelM V141 L139 bq gn gT (nx s1 1) (gs.2.1 2 ++ [wx32]) := RelM.a2 (a := z5) rl132 fn9 (by rw [← hw36]; exact hL139) (by as_aux_lemma => omega) hv9 (by as_aux_lemma => omega) r13
                                            have rl145 : RelM V141 L139 bq gn gT (nx s1 1) ((nx s1 1).2.1 2) := by rw [show (nx s1 1).2.1 2 = gs.2.1 2 ++ [wx32] from tq]; exact ra9
                                            have fz146 := RelM.rg rl145
                                            have pq147 : (V141 0 8).toInt = ((V128 0 8)).toInt := congrArg Int32.toInt (up2_o hV141 (by decide))
                                            have pq148 : (V141 0 7).toInt = ((V128 0 7)).toInt := congrArg Int32.toInt (up2_o hV141 (by decide))
                                            have pq149 : (V141 0 48).toInt = ((V102 0 48)).toInt := congrArg Int32.toInt ((up2_o hV141 (by decide)).trans (ajV128 0 48 rfl))
                                            have pq150 : (V141 0 12).toInt = ((V 0 12)).toInt := congrArg Int32.toInt ((up2_o hV141 (by decide)).trans ((ajV128 0 12 rfl).trans ((ajV102 0 12 rfl).trans ((ajV71 0 12 rfl).trans ((up2_k hV64 (by decide)).trans ((up2_k hV63 (by decide)).trans ((up2_o hV62 (by decide)).trans ((up2_o hV61 (by decide)).trans ((up2_o hV60 (by decide)).trans ((ajV53 0 12 rfl).trans ((ajV47 0 12 rfl).trans ((ajV42 0 12 rfl).trans ((ajV29 0 12 rfl).trans (ajV13 0 12 rfl))))))))))))))
                                            have ps151 : gs.1 0 + 1 ≤ s1.1 0 := gq1
                                            have ps152 : s1.1 0 + 1 ≤ (nx s1 1).1 0 := ((keepS.n1 1)).1
                                            have cn153 : CNm V141 bq s1 := CNm.ag nq (show agr [(0, 7), (0, 8)] [19] V102 V141 from (agr.up (agr.tr agr.rf ajV128 (by decide) (by decide)) hV141 rfl)) (by decide) keepC.rf
                                            have cn154 : CNm V141 bq (nx s1 1) := CNm.mv cn153 (fun _ _ _ => rfl) (keepC.tr (keepC.rf : keepC s1 s1) (keepS.c (keepS.n1 1)))
                                            have cd155 : CDm V141 (10000 * bq) s1 := CDm.ag eq9.1 (show agr [(0, 7), (0, 8)] [19] V102 V141 from (agr.up (agr.tr agr.rf ajV128 (by decide) (by decide)) hV141 rfl)) ⟨rfl, rfl, fun _ => ⟨rfl, rfl, rfl⟩⟩
                                            have cd156 : CDm V141 (10000 * bq) (nx s1 1) := CDm.mv cd155 (show ∀ j9, j9 = 5 ∨ 2000 ≤ j9 → (nx s1 1).2.1 j9 = s1.2.1 j9 from fun j9 h9 => (show ∀ j9, 5 ≤ j9 → (nx s1 1).2.1 j9 = s1.2.1 j9 from fun _ _ => rfl) j9 (by as_aux_lemma => omega))
                                            have re157 : REm V141 bq s1 := REm.ag eq9.2.1 (show agr [(0, 7), (0, 8)] [19] V102 V141 from (agr.up (agr.tr agr.rf ajV128 (by decide) (by decide)) hV141 rfl)) (fun _ => ⟨rfl, rfl, rfl⟩) keepE.rf rfl
                                            have re158 : REm V141 bq (nx s1 1) := REm.mv re157 (fun _ _ _ _ => rfl) (keepE.tr (keepE.rf : keepE s1 s1) (show keepE s1 (nx s1 1) from keepE.eq (show ∀ j9, 5 ≤ j9 → (nx s1 1).2.1 j9 = s1.2.1 j9 from fun _ _ => rfl))) (((show keepS s1 1 (nx s1 1) from (keepS.n1 1)).2.2.1 2 (by decide)).trans (rfl : s1.2.1 2 = s1.2.1 2))
                                            have wm159 : WMm V141 bq s1 := WMm.ag eq9.2.2 (show agr [(0, 7), (0, 8)] [19] V102 V141 from (agr.up (agr.tr agr.rf ajV128 (by decide) (by decide)) hV141 rfl)) (fun _ => ⟨rfl, rfl, rfl, rfl, rfl⟩) (fun _ _ _ => rfl) rfl
                                            have wm160 : WMm V141 bq (nx s1 1) := WMm.mv wm159 (fun _ _ _ _ _ => rfl) ((keepE.tr (keepE.rf : keepE s1 s1) (show keepE s1 (nx s1 1) from keepE.eq (show ∀ j9, 5 ≤ j9 → (nx s1 1).2.1 j9 = s1.2.1 j9 from fun _ _ => rfl)))).k9 ((congrArg (fun q9 : List (Nat × Bool) × List Nat => q9.1) (show keepS s1 1 (nx s1 1) from (keepS.n1 1)).2.2.2).trans (rfl : s1.2.2.1 = s1.2.2.1))
                                            have rw161 : RoV 19 bq V V141 := (fun k hk => ((up2_k hV141 (by as_aux_lemma => omega)).trans ((ajV128 19 k rfl).trans (xlp105_8 k hk))))
                                            have rw162 : RoV 35 bq V V141 := (fun k hk => ((up2_o hV141 (by decide)).trans ((ajV128 35 k rfl).trans (xlp105_9 k hk))))
                                            have rw163 : RoV 37 bq V V141 := (fun k hk => ((up2_o hV141 (by decide)).trans ((ajV128 37 k rfl).trans (xlp105_10 k hk))))
                                            have rw164 : RoL 20 24 bq L L139 := (fun k hk => ((upL_k hL139 (by as_aux_lemma => have h9 := i_clamp (x := z5) rfl (by as_aux_lemma => (first | exact om_89f771ec639b r2.1 hz3 r4.1 hz5 | omega)); omega)).trans (xlp105_11 k hk)))
                                            have rw165 : RoL 36 20 bq L L139 := (fun k hk => ((upL_x hL139 (by decide)).trans (xlp105_12 k hk)))
                                            have rw166 : RoL 38 20 bq L L139 := (fun k hk => ((upL_x hL139 (by decide)).trans (xlp105_13 k hk)))
                                            exact W.vret hx hb hr (fun t ht hW => ⟨⟨(V141, L139), rfl, ⟨hMV141, agV141, alL139, (Imp.mk (fun hp => have hp : (V141 0 8).toInt = 0 := hp; (show (V141 0 48).toInt ≤ 2 * (V141 0 7).toInt from by as_aux_lemma => first | omega | ((try (have i_xlp105_7 := Imp.go xlp105_7 (by omega))); (try (have i_xlp105_3 := Imp.go xlp105_3 (by omega))); (try (have i_xlp105_2 := Imp.go xlp105_2 (by omega))); (try (have i_xlp105_2 := Imp.go xlp105_2 (by omega))); (try (have i_xlp105_3 := Imp.go xlp105_3 (by omega))); (try (have i_xlp105_7 := Imp.go xlp105_7 (by omega))); omega)))), (show (V141 0 48).toInt ≤ 8200 from by as_aux_lemma => first | exact om_286ba355964b xlp105_4 pq149 | first | omega | ((try (have i_xlp105_7 := Imp.go xlp105_7 (by omega))); (try (have i_xlp105_3 := Imp.go xlp105_3 (by omega))); (try (have i_xlp105_2 := Imp.go xlp105_2 (by omega))); (try (have i_xlp105_2 := Imp.go xlp105_2 (by omega))); (try (have i_xlp105_3 := Imp.go xlp105_3 (by omega))); (try (have i_xlp105_7 := Imp.go xlp105_7 (by omega))); omega)), (show (V141 0 12).toInt = (V 0 12).toInt from by as_aux_lemma => first | exact om_570b691c1130 pq150 | first | omega | ((try (have i_xlp105_7 := Imp.go xlp105_7 (by omega))); (try (have i_xlp105_3 := Imp.go xlp105_3 (by omega))); (try (have i_xlp105_2 := Imp.go xlp105_2 (by omega))); (try (have i_xlp105_2 := Imp.go xlp105_2 (by omega))); (try (have i_xlp105_3 := Imp.go xlp105_3 (by omega))); (try (have i_xlp105_7 := Imp.go xlp105_7 (by omega))); omega)), (Or.inl ⟨W0 rl145, (nx s1 1), hr136, rl145, (by as_aux_lemma => omega), (ARm.mv arm wq), cn154, ⟨cd156, re158, wm160⟩⟩), rw161, rw162, rw163, rw164, rw165, rw166⟩, by rw [ht]; exact hP, va_K.moved hW.alike hK, hD⟩, hS.F ht⟩) hS.2.2 dX12_toldComponent_357
                                          · skip
                                            have f167 : 0 < ((V128 0 8)).toInt := b_nle rfl (by decide) c137
                                            exfalso; first | exact om_bf2beb62232e q130 f167 | first | omega | ((try (have i_xlp105_7 := Imp.go xlp105_7 (by omega))); (try (have i_xlp105_3 := Imp.go xlp105_3 (by omega))); (try (have i_xlp105_2 := Imp.go xlp105_2 (by omega))); (try (have i_xlp105_2 := Imp.go xlp105_2 (by omega))); (try (have i_xlp105_3 := Imp.go xlp105_3 (by omega))); (try (have i_xlp105_7 := Imp.go xlp105_7 (by omega))); omega)
                                        · skip
                                          have kd168 : gT.1 (s1.1 0) ≠ 125 := fun h9 => h131 (h9.trans (by decide))
                                          exact absurd kd121 kd168
                                      · skip
                                        have f169 : z115.toInt = 0 := b_eq rfl (by decide) c122
                                        exfalso; first | exact om_495ee03a60ae q119 f169 | first | omega | ((try (have i_xlp105_7 := Imp.go xlp105_7 (by omega))); (try (have i_xlp105_3 := Imp.go xlp105_3 (by omega))); (try (have i_xlp105_2 := Imp.go xlp105_2 (by omega))); (try (have i_xlp105_2 := Imp.go xlp105_2 (by omega))); (try (have i_xlp105_3 := Imp.go xlp105_3 (by omega))); (try (have i_xlp105_7 := Imp.go xlp105_7 (by omega))); omega)
                                    · skip
                                      have kd170 : gT.1 (s1.1 0) ≠ 125 := fun h9 => h120 (h9.trans (by decide))
                                      refine lv_if_ne (tgt := 323) hx hb dX12_toldComponent_312 (by decide) (fun c171 => ?_) (fun c171 => ?_)
                                      · skip
                                        have f172 : z115.toInt ≠ 0 := b_neq rfl (by decide) c171
                                        exfalso; first | exact om_fb320d7600b7 rgz115.1 q119 f172 | first | omega | ((try (have i_xlp105_7 := Imp.go xlp105_7 (by omega))); (try (have i_xlp105_3 := Imp.go xlp105_3 (by omega))); (try (have i_xlp105_2 := Imp.go xlp105_2 (by omega))); (try (have i_xlp105_2 := Imp.go xlp105_2 (by omega))); (try (have i_xlp105_3 := Imp.go xlp105_3 (by omega))); (try (have i_xlp105_7 := Imp.go xlp105_7 (by omega))); omega)
                                      · skip
                                        have f173 : z115.toInt = 0 := b_eq rfl (by decide) c171
                                        refine lv_aload_n hx hb dX12_toldComponent_315 rfl (lv_at hl 3 rfl) ?_
                                        refine lv_iload_n hx hb dX12_toldComponent_316 rfl (lv_at hl 2 rfl) ?_
                                        refine gA_void (gA_runV (As := [.int z5]) (rest := []) (ci := 12) (q0 := 0) hx hb hml hown hg hP hD hK hS hA hnw hgk (s_memberA l D ks H.size ad kk V102 L103 z5 (bq) (gn) (gT) (s1) ((gs.2.1 2)) (gc) hMV102 (by as_aux_lemma => first | exact om_fb62160a9b03 r2.1 r2.2 hz3 r4.1 r4.2 hz5 f7 | first | omega | ((try (have i_xlp105_7 := Imp.go xlp105_7 (by omega))); (try (have i_xlp105_3 := Imp.go xlp105_3 (by omega))); (try (have i_xlp105_2 := Imp.go xlp105_2 (by omega))); (try (have i_xlp105_2 := Imp.go xlp105_2 (by omega))); (try (have i_xlp105_3 := Imp.go xlp105_3 (by omega))); (try (have i_xlp105_7 := Imp.go xlp105_7 (by omega))); omega)) rq (show z5.toInt = ((gc) : Int) from by as_aux_lemma => first | omega | ((try (have i_xlp105_7 := Imp.go xlp105_7 (by omega))); (try (have i_xlp105_3 := Imp.go xlp105_3 (by omega))); (try (have i_xlp105_2 := Imp.go xlp105_2 (by omega))); (try (have i_xlp105_2 := Imp.go xlp105_2 (by omega))); (try (have i_xlp105_3 := Imp.go xlp105_3 (by omega))); (try (have i_xlp105_7 := Imp.go xlp105_7 (by omega))); omega)) (show (gc) < 48 from by as_aux_lemma => first | omega | ((try (have i_xlp105_7 := Imp.go xlp105_7 (by omega))); (try (have i_xlp105_3 := Imp.go xlp105_3 (by omega))); (try (have i_xlp105_2 := Imp.go xlp105_2 (by omega))); (try (have i_xlp105_2 := Imp.go xlp105_2 (by omega))); (try (have i_xlp105_3 := Imp.go xlp105_3 (by omega))); (try (have i_xlp105_7 := Imp.go xlp105_7 (by omega))); omega)) oq kd170 (show (V102 0 51).toInt = ((gc) : Int) from by as_aux_lemma => first | omega | ((try (have i_xlp105_7 := Imp.go xlp105_7 (by omega))); (try (have i_xlp105_3 := Imp.go xlp105_3 (by omega))); (try (have i_xlp105_2 := Imp.go xlp105_2 (by omega))); (try (have i_xlp105_2 := Imp.go xlp105_2 (by omega))); (try (have i_xlp105_3 := Imp.go xlp105_3 (by omega))); (try (have i_xlp105_7 := Imp.go xlp105_7 (by omega))); omega)) (show (V102 0 52).toInt = 0 from by as_aux_lemma => first | exact om_b66ba74381d5 xlp105_6 | first | omega | ((try (have i_xlp105_7 := Imp.go xlp105_7 (by omega))); (try (have i_xlp105_3 := Imp.go xlp105_3 (by omega))); (try (have i_xlp105_2 := Imp.go xlp105_2 (by omega))); (try (have i_xlp105_2 := Imp.go xlp105_2 (by omega))); (try (have i_xlp105_3 := Imp.go xlp105_3 (by omega))); (try (have i_xlp105_7 := Imp.go xlp105_7 (by omega))); omega)) (show (V102 0 48).toInt ≤ 2 * (V102 0 7).toInt from by as_aux_lemma => first | exact om_25cd5ecd1f71 ((Imp.go xlp105_3 (f113))) | first | omega | ((try (have i_xlp105_7 := Imp.go xlp105_7 (by omega))); (try (have i_xlp105_3 := Imp.go xlp105_3 (by omega))); (try (have i_xlp105_2 := Imp.go xlp105_2 (by omega))); (try (have i_xlp105_2 := Imp.go xlp105_2 (by omega))); (try (have i_xlp105_3 := Imp.go xlp105_3 (by omega))); (try (have i_xlp105_7 := Imp.go xlp105_7 (by omega))); omega)) nq ⟨eq9.1, eq9.2.1, eq9.2.2⟩ (by as_aux_lemma => have h9 : (s1.2.1 2).length = (gs.2.1 2).length + 1 := (by rw [tq, List.length_append]; rfl); omega) (show 24 * (bq) ≤ (gc) from by as_aux_lemma => first | omega | ((try (have i_xlp105_7 := Imp.go xlp105_7 (by omega))); (try (have i_xlp105_3 := Imp.go xlp105_3 (by omega))); (try (have i_xlp105_2 := Imp.go xlp105_2 (by omega))); (try (have i_xlp105_2 := Imp.go xlp105_2 (by omega))); (try (have i_xlp105_3 := Imp.go xlp105_3 (by omega))); (try (have i_xlp105_7 := Imp.go xlp105_7 (by omega))); omega))) w2104 w2106 w103 w172 w2107 rfl rfl hdV_yX12_member ⟨Nat.le_of_ble_eq_true rfl, Nat.le_of_ble_eq_true rfl⟩ rfl hl.1 rfl (Nat.le_of_ble_eq_true rfl) dX12_toldComponent_317 ⟨Nat.le_of_ble_eq_true rfl, Nat.le_of_ble_eq_true rfl⟩) hP hD hK hS hA (fun u175 H locs w176 hP hD hK hS => ?_)
                                        obtain ⟨V184, L185⟩ := u175
                                        obtain ⟨hMV184, ajV184, axL185, t177, t178, t179, t180, t181, t182, t183⟩ := w176
                                        have alL185 : agL [15, 19, 20, 21, 22, 23, 24, 25, 26, 27, 28, 29, 30, 31, 32, 33, 34, 35, 36, 37, 38, 45, 46, 47, 53] L L185 := agL.tr alL103 axL185 (by decide)
                                        replace hP : va_P D vwCl (mw ad kk ks.1 V184 L185) H := hP
                                        replace hD : va_D A (mw ad kk ks.1 V184 L185) := hD
                                        replace hMV184 : rgd bM V184 := hMV184
                                        replace ajV184 : agr [(0, 7), (0, 8), (0, 48), (0, 50)] [27, 28, 29, 30, 31, 32, 33, 34, 35, 36, 37, 38, 45, 46, 47] V102 V184 := ajV184
                                        have agV184 : agr [(0, 7), (0, 8), (0, 48), (0, 50), (0, 51), (0, 52)] [15, 19, 20, 21, 22, 23, 24, 25, 26, 27, 28, 29, 30, 31, 32, 33, 34, 35, 36, 37, 38, 45, 46, 47, 53] V V184 := agV102.tr ajV184 (by decide) (by decide)
                                        replace t177 : Imp ((V184 0 8).toInt = 0) ((V184 0 48).toInt ≤ 2 * (V184 0 7).toInt) := t177
                                        replace t178 : (V184 0 48).toInt ≤ 8120 := t178
                                        replace t179 : RdM (gT) (s1) (fun k => Imember :: k) (fun k => Imember :: k) (V184 0 8).toInt (fun s9 => RelM V184 L185 (bq) (gn) (gT) s9 ((gs.2.1 2)) ∧ (s1).1 0 + 1 ≤ s9.1 0 ∧ OWm V184 (gc) s9 ∧ s9.2.1 2 = (s1).2.1 2 ∧ s9.2.2.1 = (s1).2.2.1 ∧ CNm V184 (bq) s9 ∧ CEm V184 (bq) s9) := t179
                                        replace t180 : RoV 35 (bq) V102 V184 := t180
                                        replace t181 : RoV 37 (bq) V102 V184 := t181
                                        replace t182 : RoL 36 20 (bq) L103 L185 := t182
                                        replace t183 : RoL 38 20 (bq) L103 L185 := t183
                                        have r186 : 0 ≤ ((V184 0 48)).toInt ∧ ((V184 0 48)).toInt ≤ 10000 := hMV184 0 48
                                        have r187 : 0 ≤ ((V184 0 8)).toInt ∧ ((V184 0 8)).toInt ≤ 70000 := hMV184 0 8
                                        rcases t179 with ⟨q188, sx189, h190, rl191, kp192⟩ | ⟨q188, h190⟩
                                        · skip
                                          have hr195 : ∀ k, Rc gT (Crun gs (Istmt :: k)) (Crun sx189 (Imember :: k)) := fun k => (hq k).tr (h190 (k))
                                          have fz196 := RelM.rg rl191
                                          have ps197 := (kp192).1
                                          refine lv_goto (tgt := 299) hx hb dX12_toldComponent_320 (by decide) ?_
                                          have pq198 : (V184 0 51).toInt = z5.toInt := congrArg Int32.toInt ((ajV184 0 51 rfl).trans ((ajV102 0 51 rfl).trans ((ajV71 0 51 rfl).trans ((up2_k hV64 (by decide)).trans (up2_s hV63)))))
                                          have pq199 : (V184 0 52).toInt = 0 := (congrArg Int32.toInt ((ajV184 0 52 rfl).trans ((ajV102 0 52 rfl).trans ((ajV71 0 52 rfl).trans (up2_s hV64))))).trans (by decide)
                                          have rw200 : RoV 19 bq V V184 := (fun k hk => ((ajV184 19 k rfl).trans (xlp105_8 k hk)))
                                          have rw201 : RoV 35 bq V V184 := (fun k hk => ((t180 k hk).trans (xlp105_9 k hk)))
                                          have rw202 : RoV 37 bq V V184 := (fun k hk => ((t181 k hk).trans (xlp105_10 k hk)))
                                          have rw203 : RoL 20 24 bq L L185 := (fun k hk => ((axL185 20 k rfl).trans (xlp105_11 k hk)))
                                          have rw204 : RoL 36 20 bq L L185 := (fun k hk => ((t182 k hk).trans (xlp105_12 k hk)))
                                          have rw205 : RoL 38 20 bq L L185 := (fun k hk => ((t183 k hk).trans (xlp105_13 k hk)))
                                          exact ihlp105 (g104 - 1) V184 L185 H locs ls (Or.inl ⟨W0 rl191, sx189, hr195, rl191, (by as_aux_lemma => omega), kp192.2.1, kp192.2.2.1.trans tq, kp192.2.2.2.1.trans wq, kp192.2.2.2.2.1, ⟨kp192.2.2.2.2.2.1, kp192.2.2.2.2.2.2.1, kp192.2.2.2.2.2.2.2⟩⟩) (show 0 ≤ (g104 - 1) from by as_aux_lemma => first | omega | ((try (have i_xlp105_3 := Imp.go xlp105_3 (f113))); (try (have i_xlp105_2 := Imp.go xlp105_2 (f113))); omega) | ((try (have i_t177 := Imp.go t177 (by omega))); (try (have i_xlp105_7 := Imp.go xlp105_7 (by omega))); (try (have i_xlp105_3 := Imp.go xlp105_3 (by omega))); (try (have i_xlp105_2 := Imp.go xlp105_2 (by omega))); first | omega | ((try (have i_xlp105_2 := Imp.go xlp105_2 (by omega))); (try (have i_xlp105_3 := Imp.go xlp105_3 (by omega))); (try (have i_xlp105_7 := Imp.go xlp105_7 (by omega))); (try (have i_t177 := Imp.go t177 (by omega))); omega))) (Imp.mk (fun hp => have hp : (V184 0 8).toInt = 0 := hp; (show (gn : Int) - (V184 0 7).toInt < (g104 - 1) from by as_aux_lemma => first | omega | ((try (have i_t177 := Imp.go t177 (hp))); (try (have i_xlp105_3 := Imp.go xlp105_3 (f113))); (try (have i_xlp105_2 := Imp.go xlp105_2 (f113))); omega) | ((try (have i_t177 := Imp.go t177 (by omega))); (try (have i_xlp105_7 := Imp.go xlp105_7 (by omega))); (try (have i_xlp105_3 := Imp.go xlp105_3 (by omega))); (try (have i_xlp105_2 := Imp.go xlp105_2 (by omega))); first | omega | ((try (have i_xlp105_2 := Imp.go xlp105_2 (by omega))); (try (have i_xlp105_3 := Imp.go xlp105_3 (by omega))); (try (have i_xlp105_7 := Imp.go xlp105_7 (by omega))); (try (have i_t177 := Imp.go t177 (by omega))); omega))))) (Imp.mk (fun hp => have hp : (V184 0 8).toInt = 0 := hp; (show (V184 0 48).toInt ≤ 2 * (V184 0 7).toInt from by as_aux_lemma => first | exact om_25cd5ecd1f71 ((Imp.go t177 (hp))) | first | omega | ((try (have i_t177 := Imp.go t177 (hp))); (try (have i_xlp105_3 := Imp.go xlp105_3 (f113))); (try (have i_xlp105_2 := Imp.go xlp105_2 (f113))); omega) | ((try (have i_t177 := Imp.go t177 (by omega))); (try (have i_xlp105_7 := Imp.go xlp105_7 (by omega))); (try (have i_xlp105_3 := Imp.go xlp105_3 (by omega))); (try (have i_xlp105_2 := Imp.go xlp105_2 (by omega))); first | omega | ((try (have i_xlp105_2 := Imp.go xlp105_2 (by omega))); (try (have i_xlp105_3 := Imp.go xlp105_3 (by omega))); (try (have i_xlp105_7 := Imp.go xlp105_7 (by omega))); (try (have i_t177 := Imp.go t177 (by omega))); omega))))) (show (V184 0 48).toInt ≤ 8120 from by as_aux_lemma => first | exact om_8462061eeb19 t178 | first | omega | ((try (have i_xlp105_3 := Imp.go xlp105_3 (f113))); (try (have i_xlp105_2 := Imp.go xlp105_2 (f113))); omega) | ((try (have i_t177 := Imp.go t177 (by omega))); (try (have i_xlp105_7 := Imp.go xlp105_7 (by omega))); (try (have i_xlp105_3 := Imp.go xlp105_3 (by omega))); (try (have i_xlp105_2 := Imp.go xlp105_2 (by omega))); first | omega | ((try (have i_xlp105_2 := Imp.go xlp105_2 (by omega))); (try (have i_xlp105_3 := Imp.go xlp105_3 (by omega))); (try (have i_xlp105_7 := Imp.go xlp105_7 (by omega))); (try (have i_t177 := Imp.go t177 (by omega))); omega))) (show (V184 0 51).toInt = z5.toInt from by as_aux_lemma => first | exact om_570b691c1130 pq198 | first | omega | ((try (have i_xlp105_3 := Imp.go xlp105_3 (f113))); (try (have i_xlp105_2 := Imp.go xlp105_2 (f113))); omega) | ((try (have i_t177 := Imp.go t177 (by omega))); (try (have i_xlp105_7 := Imp.go xlp105_7 (by omega))); (try (have i_xlp105_3 := Imp.go xlp105_3 (by omega))); (try (have i_xlp105_2 := Imp.go xlp105_2 (by omega))); first | omega | ((try (have i_xlp105_2 := Imp.go xlp105_2 (by omega))); (try (have i_xlp105_3 := Imp.go xlp105_3 (by omega))); (try (have i_xlp105_7 := Imp.go xlp105_7 (by omega))); (try (have i_t177 := Imp.go t177 (by omega))); omega))) (show (V184 0 52).toInt = 0 from by as_aux_lemma => first | exact om_b66ba74381d5 pq199 | first | omega | ((try (have i_xlp105_3 := Imp.go xlp105_3 (f113))); (try (have i_xlp105_2 := Imp.go xlp105_2 (f113))); omega) | ((try (have i_t177 := Imp.go t177 (by omega))); (try (have i_xlp105_7 := Imp.go xlp105_7 (by omega))); (try (have i_xlp105_3 := Imp.go xlp105_3 (by omega))); (try (have i_xlp105_2 := Imp.go xlp105_2 (by omega))); first | omega | ((try (have i_xlp105_2 := Imp.go xlp105_2 (by omega))); (try (have i_xlp105_3 := Imp.go xlp105_3 (by omega))); (try (have i_xlp105_7 := Imp.go xlp105_7 (by omega))); (try (have i_t177 := Imp.go t177 (by omega))); omega))) (Imp.mk (fun hp => have hp : 1 ≤ (V71 0 8).toInt := hp; (show (V184 0 8).toInt = (V71 0 8).toInt from by as_aux_lemma => first | omega | ((try (have i_xlp105_7 := Imp.go xlp105_7 (hp))); (try (have i_xlp105_3 := Imp.go xlp105_3 (f113))); (try (have i_xlp105_2 := Imp.go xlp105_2 (f113))); omega) | ((try (have i_t177 := Imp.go t177 (by omega))); (try (have i_xlp105_7 := Imp.go xlp105_7 (by omega))); (try (have i_xlp105_3 := Imp.go xlp105_3 (by omega))); (try (have i_xlp105_2 := Imp.go xlp105_2 (by omega))); first | omega | ((try (have i_xlp105_2 := Imp.go xlp105_2 (by omega))); (try (have i_xlp105_3 := Imp.go xlp105_3 (by omega))); (try (have i_xlp105_7 := Imp.go xlp105_7 (by omega))); (try (have i_t177 := Imp.go t177 (by omega))); omega))))) rw200 rw201 rw202 rw203 rw204 rw205 (by as_aux_lemma => first | exact om_3b68f00bdb71 hn | first | omega | ((try (have i_xlp105_3 := Imp.go xlp105_3 (f113))); (try (have i_xlp105_2 := Imp.go xlp105_2 (f113))); omega) | ((try (have i_t177 := Imp.go t177 (by omega))); (try (have i_xlp105_7 := Imp.go xlp105_7 (by omega))); (try (have i_xlp105_3 := Imp.go xlp105_3 (by omega))); (try (have i_xlp105_2 := Imp.go xlp105_2 (by omega))); first | omega | ((try (have i_xlp105_2 := Imp.go xlp105_2 (by omega))); (try (have i_xlp105_3 := Imp.go xlp105_3 (by omega))); (try (have i_xlp105_7 := Imp.go xlp105_7 (by omega))); (try (have i_t177 := Imp.go t177 (by omega))); omega))) alL185 (agr.tr (agr.tr agr.rf ajV102 (by decide) (by decide)) ajV184 (by decide) (by decide)) hMV184 hP hD hS (lv_sub hl [0, 1, 2, 3] rfl)
                                        · skip
                                          have hb206 : ∀ k, Rc gT (Crun gs (Istmt :: k)) (Cbad (V184 0 8).toInt) := fun k => (hq k).tr (h190 (k))
                                          refine lv_goto (tgt := 299) hx hb dX12_toldComponent_320 (by decide) ?_
                                          have pq207 : (V184 0 51).toInt = z5.toInt := congrArg Int32.toInt ((ajV184 0 51 rfl).trans ((ajV102 0 51 rfl).trans ((ajV71 0 51 rfl).trans ((up2_k hV64 (by decide)).trans (up2_s hV63)))))
                                          have pq208 : (V184 0 52).toInt = 0 := (congrArg Int32.toInt ((ajV184 0 52 rfl).trans ((ajV102 0 52 rfl).trans ((ajV71 0 52 rfl).trans (up2_s hV64))))).trans (by decide)
                                          have rw209 : RoV 19 bq V V184 := (fun k hk => ((ajV184 19 k rfl).trans (xlp105_8 k hk)))
                                          have rw210 : RoV 35 bq V V184 := (fun k hk => ((t180 k hk).trans (xlp105_9 k hk)))
                                          have rw211 : RoV 37 bq V V184 := (fun k hk => ((t181 k hk).trans (xlp105_10 k hk)))
                                          have rw212 : RoL 20 24 bq L L185 := (fun k hk => ((axL185 20 k rfl).trans (xlp105_11 k hk)))
                                          have rw213 : RoL 36 20 bq L L185 := (fun k hk => ((t182 k hk).trans (xlp105_12 k hk)))
                                          have rw214 : RoL 38 20 bq L L185 := (fun k hk => ((t183 k hk).trans (xlp105_13 k hk)))
                                          exact ihlp105 (g104 - 1) V184 L185 H locs ls (Or.inr ⟨(show 1 ≤ (V184 0 8).toInt from by as_aux_lemma => omega), hb206⟩) (show 0 ≤ (g104 - 1) from by as_aux_lemma => first | omega | ((try (have i_xlp105_3 := Imp.go xlp105_3 (f113))); (try (have i_xlp105_2 := Imp.go xlp105_2 (f113))); omega) | ((try (have i_t177 := Imp.go t177 (by omega))); (try (have i_xlp105_7 := Imp.go xlp105_7 (by omega))); (try (have i_xlp105_3 := Imp.go xlp105_3 (by omega))); (try (have i_xlp105_2 := Imp.go xlp105_2 (by omega))); first | omega | ((try (have i_xlp105_2 := Imp.go xlp105_2 (by omega))); (try (have i_xlp105_3 := Imp.go xlp105_3 (by omega))); (try (have i_xlp105_7 := Imp.go xlp105_7 (by omega))); (try (have i_t177 := Imp.go t177 (by omega))); omega))) (Imp.mk (fun hp => have hp : (V184 0 8).toInt = 0 := hp; (show (gn : Int) - (V184 0 7).toInt < (g104 - 1) from by as_aux_lemma => first | omega | ((try (have i_t177 := Imp.go t177 (hp))); (try (have i_xlp105_3 := Imp.go xlp105_3 (f113))); (try (have i_xlp105_2 := Imp.go xlp105_2 (f113))); omega) | ((try (have i_t177 := Imp.go t177 (by omega))); (try (have i_xlp105_7 := Imp.go xlp105_7 (by omega))); (try (have i_xlp105_3 := Imp.go xlp105_3 (by omega))); (try (have i_xlp105_2 := Imp.go xlp105_2 (by omega))); first | omega | ((try (have i_xlp105_2 := Imp.go xlp105_2 (by omega))); (try (have i_xlp105_3 := Imp.go xlp105_3 (by omega))); (try (have i_xlp105_7 := Imp.go xlp105_7 (by omega))); (try (have i_t177 := Imp.go t177 (by omega))); omega))))) (Imp.mk (fun hp => have hp : (V184 0 8).toInt = 0 := hp; (show (V184 0 48).toInt ≤ 2 * (V184 0 7).toInt from by as_aux_lemma => first | exact om_25cd5ecd1f71 ((Imp.go t177 (hp))) | first | omega | ((try (have i_t177 := Imp.go t177 (hp))); (try (have i_xlp105_3 := Imp.go xlp105_3 (f113))); (try (have i_xlp105_2 := Imp.go xlp105_2 (f113))); omega) | ((try (have i_t177 := Imp.go t177 (by omega))); (try (have i_xlp105_7 := Imp.go xlp105_7 (by omega))); (try (have i_xlp105_3 := Imp.go xlp105_3 (by omega))); (try (have i_xlp105_2 := Imp.go xlp105_2 (by omega))); first | omega | ((try (have i_xlp105_2 := Imp.go xlp105_2 (by omega))); (try (have i_xlp105_3 := Imp.go xlp105_3 (by omega))); (try (have i_xlp105_7 := Imp.go xlp105_7 (by omega))); (try (have i_t177 := Imp.go t177 (by omega))); omega))))) (show (V184 0 48).toInt ≤ 8120 from by as_aux_lemma => first | exact om_8462061eeb19 t178 | first | omega | ((try (have i_xlp105_3 := Imp.go xlp105_3 (f113))); (try (have i_xlp105_2 := Imp.go xlp105_2 (f113))); omega) | ((try (have i_t177 := Imp.go t177 (by omega))); (try (have i_xlp105_7 := Imp.go xlp105_7 (by omega))); (try (have i_xlp105_3 := Imp.go xlp105_3 (by omega))); (try (have i_xlp105_2 := Imp.go xlp105_2 (by omega))); first | omega | ((try (have i_xlp105_2 := Imp.go xlp105_2 (by omega))); (try (have i_xlp105_3 := Imp.go xlp105_3 (by omega))); (try (have i_xlp105_7 := Imp.go xlp105_7 (by omega))); (try (have i_t177 := Imp.go t177 (by omega))); omega))) (show (V184 0 51).toInt = z5.toInt from by as_aux_lemma => first | exact om_570b691c1130 pq207 | first | omega | ((try (have i_xlp105_3 := Imp.go xlp105_3 (f113))); (try (have i_xlp105_2 := Imp.go xlp105_2 (f113))); omega) | ((try (have i_t177 := Imp.go t177 (by omega))); (try (have i_xlp105_7 := Imp.go xlp105_7 (by omega))); (try (have i_xlp105_3 := Imp.go xlp105_3 (by omega))); (try (have i_xlp105_2 := Imp.go xlp105_2 (by omega))); first | omega | ((try (have i_xlp105_2 := Imp.go xlp105_2 (by omega))); (try (have i_xlp105_3 := Imp.go xlp105_3 (by omega))); (try (have i_xlp105_7 := Imp.go xlp105_7 (by omega))); (try (have i_t177 := Imp.go t177 (by omega))); omega))) (show (V184 0 52).toInt = 0 from by as_aux_lemma => first | exact om_b66ba74381d5 pq208 | first | omega | ((try (have i_xlp105_3 := Imp.go xlp105_3 (f113))); (try (have i_xlp105_2 := Imp.go xlp105_2 (f113))); omega) | ((try (have i_t177 := Imp.go t177 (by omega))); (try (have i_xlp105_7 := Imp.go xlp105_7 (by omega))); (try (have i_xlp105_3 := Imp.go xlp105_3 (by omega))); (try (have i_xlp105_2 := Imp.go xlp105_2 (by omega))); first | omega | ((try (have i_xlp105_2 := Imp.go xlp105_2 (by omega))); (try (have i_xlp105_3 := Imp.go xlp105_3 (by omega))); (try (have i_xlp105_7 := Imp.go xlp105_7 (by omega))); (try (have i_t177 := Imp.go t177 (by omega))); omega))) (Imp.mk (fun hp => have hp : 1 ≤ (V71 0 8).toInt := hp; (show (V184 0 8).toInt = (V71 0 8).toInt from by as_aux_lemma => first | omega | ((try (have i_xlp105_7 := Imp.go xlp105_7 (hp))); (try (have i_xlp105_3 := Imp.go xlp105_3 (f113))); (try (have i_xlp105_2 := Imp.go xlp105_2 (f113))); omega) | ((try (have i_t177 := Imp.go t177 (by omega))); (try (have i_xlp105_7 := Imp.go xlp105_7 (by omega))); (try (have i_xlp105_3 := Imp.go xlp105_3 (by omega))); (try (have i_xlp105_2 := Imp.go xlp105_2 (by omega))); first | omega | ((try (have i_xlp105_2 := Imp.go xlp105_2 (by omega))); (try (have i_xlp105_3 := Imp.go xlp105_3 (by omega))); (try (have i_xlp105_7 := Imp.go xlp105_7 (by omega))); (try (have i_t177 := Imp.go t177 (by omega))); omega))))) rw209 rw210 rw211 rw212 rw213 rw214 (by as_aux_lemma => first | exact om_3b68f00bdb71 hn | first | omega | ((try (have i_xlp105_3 := Imp.go xlp105_3 (f113))); (try (have i_xlp105_2 := Imp.go xlp105_2 (f113))); omega) | ((try (have i_t177 := Imp.go t177 (by omega))); (try (have i_xlp105_7 := Imp.go xlp105_7 (by omega))); (try (have i_xlp105_3 := Imp.go xlp105_3 (by omega))); (try (have i_xlp105_2 := Imp.go xlp105_2 (by omega))); first | omega | ((try (have i_xlp105_2 := Imp.go xlp105_2 (by omega))); (try (have i_xlp105_3 := Imp.go xlp105_3 (by omega))); (try (have i_xlp105_7 := Imp.go xlp105_7 (by omega))); (try (have i_t177 := Imp.go t177 (by omega))); omega))) alL185 (agr.tr (agr.tr agr.rf ajV102 (by decide) (by decide)) ajV184 (by decide) (by decide)) hMV184 hP hD hS (lv_sub hl [0, 1, 2, 3] rfl)
                                · skip
                                  refine va_get (D := D) (ci := 12) (v := .int (V102 0 8)) (C := RX12) (T := TX12) (N := 100) hx hb hg inX12 hown hK hP 0 rfl rfl 8 (by decide) (hg _ w1714) (fun _ h9 => h9) rfl dX12_toldComponent_300 ?_
                                  refine lv_if_ne (tgt := 323) hx hb dX12_toldComponent_303 (by decide) (fun c215 => ?_) (fun c215 => ?_)
                                  · skip
                                    have f216 : ((V102 0 8)).toInt ≠ 0 := b_neq rfl (by decide) c215
                                    refine lv_aload_n hx hb dX12_toldComponent_323 rfl (lv_at hl 3 rfl) ?_
                                    refine lv_bipush (v := 125) hx hb dX12_toldComponent_324 (by decide) ?_
                                    have r217 : Int32.toInt 125 = 125 := by decide
                                    refine gA_void (gA_runV (As := [.int 125]) (rest := []) (ci := 12) (q0 := 0) hx hb hml hown hg hP hD hK hS hA hnw hgk (s_takeSignB l D ks H.size ad kk V102 L103 125 hMV102 (show 1 ≤ (V102 0 8).toInt from by as_aux_lemma => first | exact om_76052c512981 r106.1 f216 | first | omega | ((try (have i_xlp105_7 := Imp.go xlp105_7 (by omega))); (try (have i_xlp105_3 := Imp.go xlp105_3 (by omega))); (try (have i_xlp105_2 := Imp.go xlp105_2 (by omega))); (try (have i_xlp105_2 := Imp.go xlp105_2 (by omega))); (try (have i_xlp105_3 := Imp.go xlp105_3 (by omega))); (try (have i_xlp105_7 := Imp.go xlp105_7 (by omega))); omega))) w2075 w2077 w96 w172 w2078 rfl rfl hdV_yX12_takeSign ⟨Nat.le_of_ble_eq_true rfl, Nat.le_of_ble_eq_true rfl⟩ rfl hl.1 rfl (Nat.le_of_ble_eq_true rfl) dX12_toldComponent_326 ⟨Nat.le_of_ble_eq_true rfl, Nat.le_of_ble_eq_true rfl⟩) hP hD hK hS hA (fun u219 H locs w220 hP hD hK hS => ?_)
                                    obtain ⟨V222, L223⟩ := u219
                                    obtain ⟨hMV222, ajV222, axL223, t221⟩ := w220
                                    have axL223 : L103 = L223 := Eq.symm axL223
                                    subst axL223
                                    replace hP : va_P D vwCl (mw ad kk ks.1 V222 L103) H := hP
                                    replace hD : va_D A (mw ad kk ks.1 V222 L103) := hD
                                    replace hMV222 : rgd bM V222 := hMV222
                                    replace ajV222 : agr [(0, 7), (0, 8)] [] V102 V222 := ajV222
                                    have agV222 : agr [(0, 7), (0, 8), (0, 48), (0, 50), (0, 51), (0, 52)] [15, 19, 20, 21, 22, 23, 24, 25, 26, 27, 28, 29, 30, 31, 32, 33, 34, 35, 36, 37, 38, 45, 46, 47, 53] V V222 := agV102.tr ajV222 (by decide) (by decide)
                                    replace t221 : (V222 0 8).toInt = (V102 0 8).toInt := t221
                                    have r224 : 0 ≤ ((V222 0 8)).toInt ∧ ((V222 0 8)).toInt ≤ 70000 := hMV222 0 8
                                    refine lv_aload_n hx hb dX12_toldComponent_329 rfl (lv_at hl 3 rfl) ?_
                                    refine va_get (D := D) (ci := 12) (v := .int (V222 0 8)) (C := RX12) (T := TX12) (N := 100) hx hb hg inX12 hown hK hP 0 rfl rfl 8 (by decide) (hg _ w1714) (fun _ h9 => h9) rfl dX12_toldComponent_330 ?_
                                    refine lv_if_le (tgt := 337) hx hb dX12_toldComponent_333 (by decide) (fun c225 => ?_) (fun c225 => ?_)
                                    · skip
                                      have f226 : ((V222 0 8)).toInt ≤ 0 := b_le rfl (by decide) c225
                                      exfalso; first | exact om_f61feb2e2de9 r106.1 f216 t221 f226 | first | omega | ((try (have i_xlp105_7 := Imp.go xlp105_7 (by omega))); (try (have i_xlp105_3 := Imp.go xlp105_3 (by omega))); (try (have i_xlp105_2 := Imp.go xlp105_2 (by omega))); (try (have i_xlp105_2 := Imp.go xlp105_2 (by omega))); (try (have i_xlp105_3 := Imp.go xlp105_3 (by omega))); (try (have i_xlp105_7 := Imp.go xlp105_7 (by omega))); omega)
                                    · skip
                                      have f227 : 0 < ((V222 0 8)).toInt := b_nle rfl (by decide) c225
                                      have pq228 : (V222 0 48).toInt = ((V102 0 48)).toInt := congrArg Int32.toInt (ajV222 0 48 rfl)
                                      have pq229 : (V222 0 12).toInt = ((V 0 12)).toInt := congrArg Int32.toInt ((ajV222 0 12 rfl).trans ((ajV102 0 12 rfl).trans ((ajV71 0 12 rfl).trans ((up2_k hV64 (by decide)).trans ((up2_k hV63 (by decide)).trans ((up2_o hV62 (by decide)).trans ((up2_o hV61 (by decide)).trans ((up2_o hV60 (by decide)).trans ((ajV53 0 12 rfl).trans ((ajV47 0 12 rfl).trans ((ajV42 0 12 rfl).trans ((ajV29 0 12 rfl).trans (ajV13 0 12 rfl)))))))))))))
                                      have rw230 : RoV 19 bq V V222 := (fun k hk => ((ajV222 19 k rfl).trans (xlp105_8 k hk)))
                                      have rw231 : RoV 35 bq V V222 := (fun k hk => ((ajV222 35 k rfl).trans (xlp105_9 k hk)))
                                      have rw232 : RoV 37 bq V V222 := (fun k hk => ((ajV222 37 k rfl).trans (xlp105_10 k hk)))
                                      have rw233 : RoL 20 24 bq L L103 := (fun k hk => (xlp105_11 k hk))
                                      have rw234 : RoL 36 20 bq L L103 := (fun k hk => (xlp105_12 k hk))
                                      have rw235 : RoL 38 20 bq L L103 := (fun k hk => (xlp105_13 k hk))
                                      exact W.vret hx hb hr (fun t ht hW => ⟨⟨(V222, L103), rfl, ⟨hMV222, agV222, alL103, (Imp.mk (fun hp => have hp : (V222 0 8).toInt = 0 := hp; (show (V222 0 48).toInt ≤ 2 * (V222 0 7).toInt from by as_aux_lemma => first | omega | ((try (have i_xlp105_7 := Imp.go xlp105_7 (by omega))); (try (have i_xlp105_3 := Imp.go xlp105_3 (by omega))); (try (have i_xlp105_2 := Imp.go xlp105_2 (by omega))); (try (have i_xlp105_2 := Imp.go xlp105_2 (by omega))); (try (have i_xlp105_3 := Imp.go xlp105_3 (by omega))); (try (have i_xlp105_7 := Imp.go xlp105_7 (by omega))); omega)))), (show (V222 0 48).toInt ≤ 8200 from by as_aux_lemma => first | exact om_286ba355964b xlp105_4 pq228 | first | omega | ((try (have i_xlp105_7 := Imp.go xlp105_7 (by omega))); (try (have i_xlp105_3 := Imp.go xlp105_3 (by omega))); (try (have i_xlp105_2 := Imp.go xlp105_2 (by omega))); (try (have i_xlp105_2 := Imp.go xlp105_2 (by omega))); (try (have i_xlp105_3 := Imp.go xlp105_3 (by omega))); (try (have i_xlp105_7 := Imp.go xlp105_7 (by omega))); omega)), (show (V222 0 12).toInt = (V 0 12).toInt from by as_aux_lemma => first | exact om_570b691c1130 pq229 | first | omega | ((try (have i_xlp105_7 := Imp.go xlp105_7 (by omega))); (try (have i_xlp105_3 := Imp.go xlp105_3 (by omega))); (try (have i_xlp105_2 := Imp.go xlp105_2 (by omega))); (try (have i_xlp105_2 := Imp.go xlp105_2 (by omega))); (try (have i_xlp105_3 := Imp.go xlp105_3 (by omega))); (try (have i_xlp105_7 := Imp.go xlp105_7 (by omega))); omega)), (Or.inr ⟨(show 1 ≤ (V222 0 8).toInt from by as_aux_lemma => (first | exact om_58cca7287cc1 f227 | omega)), (fun k => by rw [show (V222 0 8).toInt = (V102 0 8).toInt from by as_aux_lemma => omega]; exact hq k)⟩), rw230, rw231, rw232, rw233, rw234, rw235⟩, by rw [ht]; exact hP, va_K.moved hW.alike hK, hD⟩, hS.F ht⟩) hS.2.2 dX12_toldComponent_336
                                  · skip
                                    have f236 : ((V102 0 8)).toInt = 0 := b_eq rfl (by decide) c215
                                    exfalso; first | exact om_09885ab343b9 f8 f236 | first | omega | ((try (have i_xlp105_7 := Imp.go xlp105_7 (by omega))); (try (have i_xlp105_3 := Imp.go xlp105_3 (by omega))); (try (have i_xlp105_2 := Imp.go xlp105_2 (by omega))); (try (have i_xlp105_2 := Imp.go xlp105_2 (by omega))); (try (have i_xlp105_3 := Imp.go xlp105_3 (by omega))); (try (have i_xlp105_7 := Imp.go xlp105_7 (by omega))); omega)
                            have pq237 : (V71 0 48).toInt = ((V 0 48)).toInt := congrArg Int32.toInt ((ajV71 0 48 rfl).trans ((up2_k hV64 (by decide)).trans ((up2_k hV63 (by decide)).trans ((up2_o hV62 (by decide)).trans ((up2_o hV61 (by decide)).trans ((up2_o hV60 (by decide)).trans ((ajV53 0 48 rfl).trans ((ajV47 0 48 rfl).trans ((ajV42 0 48 rfl).trans ((ajV29 0 48 rfl).trans (ajV13 0 48 rfl)))))))))))
                            have pq238 : (V71 0 51).toInt = z5.toInt := congrArg Int32.toInt ((ajV71 0 51 rfl).trans ((up2_k hV64 (by decide)).trans (up2_s hV63)))
                            have pq239 : (V71 0 52).toInt = 0 := (congrArg Int32.toInt ((ajV71 0 52 rfl).trans (up2_s hV64))).trans (by decide)
                            have cd240 : CDm V71 (10000 * bq) (nmS (nx s1 1) m1 c1 wx32 [wv1, ws1, ra1, ca1]) := CDm.mv cd91 (show ∀ j9, j9 = 5 ∨ 2000 ≤ j9 → (nmS (nx s1 1) m1 c1 wx32 [wv1, ws1, ra1, ca1]).2.1 j9 = (nx s1 1).2.1 j9 from fun j9 h9 => (show ∀ j9, 5 ≤ j9 → (nmS (nx s1 1) m1 c1 wx32 [wv1, ws1, ra1, ca1]).2.1 j9 = (nx s1 1).2.1 j9 from fun j9 h9 => upB_p _ _ _ (by as_aux_lemma => omega)) j9 (by as_aux_lemma => omega))
                            have wm241 : WMm V71 bq (nmS (nx s1 1) m1 c1 wx32 [wv1, ws1, ra1, ca1]) := WMm.mv wm98 (fun _ _ _ _ _ => rfl) ((keepE.tr (keepE.rf : keepE (nx s1 1) (nx s1 1)) (show keepE (nx s1 1) (nmS (nx s1 1) m1 c1 wx32 [wv1, ws1, ra1, ca1]) from keepE.eq (show ∀ j9, 5 ≤ j9 → (nmS (nx s1 1) m1 c1 wx32 [wv1, ws1, ra1, ca1]).2.1 j9 = (nx s1 1).2.1 j9 from fun j9 h9 => upB_p _ _ _ (by as_aux_lemma => omega))))).k9 ((rfl : (nmS (nx s1 1) m1 c1 wx32 [wv1, ws1, ra1, ca1]).2.2.1 = (nx s1 1).2.2.1).trans (rfl : (nx s1 1).2.2.1 = (nx s1 1).2.2.1))
                            have rw242 : RoV 19 bq V V71 := (fun k hk => ((ajV71 19 k rfl).trans ((up2_o hV64 (by decide)).trans ((up2_o hV63 (by decide)).trans ((up2_o hV62 (by decide)).trans ((up2_o hV61 (by decide)).trans ((up2_o hV60 (by decide)).trans (xJ52_6 k hk))))))))
                            have rw243 : RoV 35 bq V V71 := (fun k hk => ((ajV71 35 k rfl).trans ((up2_o hV64 (by decide)).trans ((up2_o hV63 (by decide)).trans ((up2_o hV62 (by decide)).trans ((up2_o hV61 (by decide)).trans ((up2_o hV60 (by decide)).trans (xJ52_7 k hk))))))))
                            have rw244 : RoV 37 bq V V71 := (fun k hk => ((ajV71 37 k rfl).trans ((up2_o hV64 (by decide)).trans ((up2_o hV63 (by decide)).trans ((up2_o hV62 (by decide)).trans ((up2_o hV61 (by decide)).trans ((up2_o hV60 (by decide)).trans (xJ52_8 k hk))))))))
                            have rw245 : RoL 20 24 bq L L54 := (fun k hk => (xJ52_9 k hk))
                            have rw246 : RoL 36 20 bq L L54 := (fun k hk => (xJ52_10 k hk))
                            have rw247 : RoL 38 20 bq L L54 := (fun k hk => (xJ52_11 k hk))
                            exact lp105 ((((gn : Int) + 1) + 1 : Int).toNat) ((gn : Int) + 1) V71 L54 H locs ls (Or.inl ⟨W0 rl81, (nmS (nx s1 1) m1 c1 wx32 [wv1, ws1, ra1, ca1]), hr82, rl81, gp7, ow84, tb7, wr7, cn89, ⟨cd240, re99, wm241⟩⟩) (show 0 ≤ ((gn : Int) + 1) from by as_aux_lemma => (first | exact om_484f1d066a6d | omega)) (Imp.mk (fun hp => have hp : (V71 0 8).toInt = 0 := hp; (show (gn : Int) - (V71 0 7).toInt < ((gn : Int) + 1) from by as_aux_lemma => (first | exact om_769c906bbeac fz79.1 | omega)))) (Imp.mk (fun hp => have hp : (V71 0 8).toInt = 0 := hp; (show (V71 0 48).toInt ≤ 2 * (V71 0 7).toInt from by as_aux_lemma => omega))) (show (V71 0 48).toInt ≤ 8120 from by as_aux_lemma => (first | exact om_e48f75870c6d xJ52_3 pq55 pq237 | omega)) (show (V71 0 51).toInt = z5.toInt from by as_aux_lemma => (first | exact om_570b691c1130 pq238 | omega)) (show (V71 0 52).toInt = 0 from by as_aux_lemma => (first | exact om_b66ba74381d5 pq239 | omega)) (Imp.mk (fun hp => have hp : 1 ≤ (V71 0 8).toInt := hp; (show (V71 0 8).toInt = (V71 0 8).toInt from by as_aux_lemma => (first | exact om_4c2c879c4424 | omega)))) rw242 rw243 rw244 rw245 rw246 rw247 (by as_aux_lemma => (first | exact om_e44dd51abc87 | omega)) alL54 agr.rf hMV71 hP hD hS (lv_sub hl [0, 1, 2, 3] rfl)
                          · skip
                            have kd248 : gT.1 (s1.1 0) ≠ 123 := fun h9 => h74 (h9.trans (by decide))
                            have hb249 : ∀ k, Rc gT (Crun gs (Istmt :: k)) (Cbad (V71 0 8).toInt) := fun k => Rc.go1 (h1 k) ((tk_n kd248).trans (fl_eq rfl rl75))
                            have r250 : 0 ≤ ((V71 0 8)).toInt ∧ ((V71 0 8)).toInt ≤ 70000 := hMV71 0 8
                            have lp254 : ∀ (fulp254 : Nat) (g253 : Int) (V251 : Vf) (L252 : Lf) (H : Heap) (locs : List Loc) (ls : Array Slot), (((V251 0 8).toInt = 0 ∧ ∃ s1 : St, (∀ k, Rc gT (Crun gs (Istmt :: k)) (Crun s1 (Imember :: k))) ∧ RelM V251 L252 bq gn gT s1 (gs.2.1 2) ∧ gs.1 0 + 1 ≤ s1.1 0 ∧ OWm V251 gc s1 ∧ s1.2.1 2 = gs.2.1 2 ++ [wx32] ∧ s1.2.2.1 = gs.2.2.1 ∧ CNm V251 bq s1 ∧ CEm V251 bq s1) ∨ (1 ≤ (V251 0 8).toInt ∧ ∀ k, Rc gT (Crun gs (Istmt :: k)) (Cbad (V251 0 8).toInt))) → 0 ≤ g253 → Imp ((V251 0 8).toInt = 0) ((gn : Int) - (V251 0 7).toInt < g253) → Imp ((V251 0 8).toInt = 0) ((V251 0 48).toInt ≤ 2 * (V251 0 7).toInt) → (V251 0 48).toInt ≤ 8120 → (V251 0 51).toInt = z5.toInt → (V251 0 52).toInt = 0 → Imp (1 ≤ (V71 0 8).toInt) ((V251 0 8).toInt = (V71 0 8).toInt) → (RoV 19 bq V V251) → (RoV 35 bq V V251) → (RoV 37 bq V V251) → (RoL 20 24 bq L L252) → (RoL 36 20 bq L L252) → (RoL 38 20 bq L L252) → g253 < (fulp254 : Int) → agL [15, 19, 20, 21, 22, 23, 24, 25, 26, 27, 28, 29, 30, 31, 32, 33, 34, 35, 36, 37, 38, 45, 46, 47, 53] L L252 → agr [(0, 7), (0, 8), (0, 48), (0, 50)] [27, 28, 29, 30, 31, 32, 33, 34, 35, 36, 37, 38, 45, 46, 47] V71 V251 → rgd bM V251 → va_P D vwCl (mw ad kk ks.1 V251 L252) H → va_D A (mw ad kk ks.1 V251 L252) → va_S A s.heap H locs → lv_has ls 5 [(4, .int y46), (2, .long z25), (1, .int z5), (0, .ref (ad 0))] → W p l e r_s_toldComponentA s m ([.ref (ad 0)] : List Value).toArray below meth c H locs 0 0 (MQ below (q_s_toldComponentA D ks ad kk V L  bq gn gT gs A) ([.ref (ad 0)] : List Value).toArray s 0 0 A) (F0 m 299 ls []) := by
                              (try clear hb249); (try clear kd248); (try clear rl65); (try clear fz57); (try clear fz39); (try clear ps38); (try clear hr37); (try clear fz21); (try clear ps20); (try clear hr19); (try clear hr18)
                              intro fulp254
                              induction fulp254 with
                              | zero =>
                                intro g253 V251 L252 H locs ls xlp254_0 xlp254_1 xlp254_2 xlp254_3 xlp254_4 xlp254_5 xlp254_6 xlp254_7 xlp254_8 xlp254_9 xlp254_10 xlp254_11 xlp254_12 xlp254_13 hn alL252 ajV251 hMV251 hP hD hS hl
                                exfalso; (first | exact om_21e89d3d06d7 xlp254_1 hn | omega)
                              | succ fulp254 ihlp254 =>
                                intro g253 V251 L252 H locs ls xlp254_0 xlp254_1 xlp254_2 xlp254_3 xlp254_4 xlp254_5 xlp254_6 xlp254_7 xlp254_8 xlp254_9 xlp254_10 xlp254_11 xlp254_12 xlp254_13 hn alL252 ajV251 hMV251 hP hD hS hl
                                have agV251 : agr [(0, 7), (0, 8), (0, 48), (0, 50), (0, 51), (0, 52)] [15, 19, 20, 21, 22, 23, 24, 25, 26, 27, 28, 29, 30, 31, 32, 33, 34, 35, 36, 37, 38, 45, 46, 47, 53] V V251 := agV71.tr ajV251 (by decide) (by decide)
                                have r255 : 0 ≤ ((V251 0 8)).toInt ∧ ((V251 0 8)).toInt ≤ 70000 := hMV251 0 8
                                have r256 : 0 ≤ ((V251 0 48)).toInt ∧ ((V251 0 48)).toInt ≤ 10000 := hMV251 0 48
                                have pq257 : (V251 0 51).toInt = z5.toInt := congrArg Int32.toInt ((ajV251 0 51 rfl).trans ((ajV71 0 51 rfl).trans ((up2_k hV64 (by decide)).trans (up2_s hV63))))
                                have pq258 : (V251 0 52).toInt = 0 := (congrArg Int32.toInt ((ajV251 0 52 rfl).trans ((ajV71 0 52 rfl).trans (up2_s hV64)))).trans (by decide)
                                refine lv_aload_n hx hb dX12_toldComponent_299 rfl (lv_at hl 3 rfl) ?_
                                rcases xlp254_0 with ⟨f8, s1, hq, rq, gq1, oq, tq, wq, nq, eq9⟩ | ⟨f8, hq⟩
                                · skip
                                  exfalso; first | omega | ((try (have i_xlp254_7 := Imp.go xlp254_7 (by omega))); (try (have i_xlp254_3 := Imp.go xlp254_3 (by omega))); (try (have i_xlp254_2 := Imp.go xlp254_2 (by omega))); (try (have i_xlp254_2 := Imp.go xlp254_2 (by omega))); (try (have i_xlp254_3 := Imp.go xlp254_3 (by omega))); (try (have i_xlp254_7 := Imp.go xlp254_7 (by omega))); omega)
                                · skip
                                  refine va_get (D := D) (ci := 12) (v := .int (V251 0 8)) (C := RX12) (T := TX12) (N := 100) hx hb hg inX12 hown hK hP 0 rfl rfl 8 (by decide) (hg _ w1714) (fun _ h9 => h9) rfl dX12_toldComponent_300 ?_
                                  refine lv_if_ne (tgt := 323) hx hb dX12_toldComponent_303 (by decide) (fun c259 => ?_) (fun c259 => ?_)
                                  · skip
                                    have f260 : ((V251 0 8)).toInt ≠ 0 := b_neq rfl (by decide) c259
                                    refine lv_aload_n hx hb dX12_toldComponent_323 rfl (lv_at hl 3 rfl) ?_
                                    refine lv_bipush (v := 125) hx hb dX12_toldComponent_324 (by decide) ?_
                                    have r261 : Int32.toInt 125 = 125 := by decide
                                    refine gA_void (gA_runV (As := [.int 125]) (rest := []) (ci := 12) (q0 := 0) hx hb hml hown hg hP hD hK hS hA hnw hgk (s_takeSignB l D ks H.size ad kk V251 L252 125 hMV251 (show 1 ≤ (V251 0 8).toInt from by as_aux_lemma => first | exact om_76052c512981 r255.1 f260 | first | omega | ((try (have i_xlp254_7 := Imp.go xlp254_7 (by omega))); (try (have i_xlp254_3 := Imp.go xlp254_3 (by omega))); (try (have i_xlp254_2 := Imp.go xlp254_2 (by omega))); (try (have i_xlp254_2 := Imp.go xlp254_2 (by omega))); (try (have i_xlp254_3 := Imp.go xlp254_3 (by omega))); (try (have i_xlp254_7 := Imp.go xlp254_7 (by omega))); omega))) w2075 w2077 w96 w172 w2078 rfl rfl hdV_yX12_takeSign ⟨Nat.le_of_ble_eq_true rfl, Nat.le_of_ble_eq_true rfl⟩ rfl hl.1 rfl (Nat.le_of_ble_eq_true rfl) dX12_toldComponent_326 ⟨Nat.le_of_ble_eq_true rfl, Nat.le_of_ble_eq_true rfl⟩) hP hD hK hS hA (fun u263 H locs w264 hP hD hK hS => ?_)
                                    obtain ⟨V266, L267⟩ := u263
                                    obtain ⟨hMV266, ajV266, axL267, t265⟩ := w264
                                    have axL267 : L252 = L267 := Eq.symm axL267
                                    subst axL267
                                    replace hP : va_P D vwCl (mw ad kk ks.1 V266 L252) H := hP
                                    replace hD : va_D A (mw ad kk ks.1 V266 L252) := hD
                                    replace hMV266 : rgd bM V266 := hMV266
                                    replace ajV266 : agr [(0, 7), (0, 8)] [] V251 V266 := ajV266
                                    have agV266 : agr [(0, 7), (0, 8), (0, 48), (0, 50), (0, 51), (0, 52)] [15, 19, 20, 21, 22, 23, 24, 25, 26, 27, 28, 29, 30, 31, 32, 33, 34, 35, 36, 37, 38, 45, 46, 47, 53] V V266 := agV251.tr ajV266 (by decide) (by decide)
                                    replace t265 : (V266 0 8).toInt = (V251 0 8).toInt := t265
                                    have r268 : 0 ≤ ((V266 0 8)).toInt ∧ ((V266 0 8)).toInt ≤ 70000 := hMV266 0 8
                                    refine lv_aload_n hx hb dX12_toldComponent_329 rfl (lv_at hl 3 rfl) ?_
                                    refine va_get (D := D) (ci := 12) (v := .int (V266 0 8)) (C := RX12) (T := TX12) (N := 100) hx hb hg inX12 hown hK hP 0 rfl rfl 8 (by decide) (hg _ w1714) (fun _ h9 => h9) rfl dX12_toldComponent_330 ?_
                                    refine lv_if_le (tgt := 337) hx hb dX12_toldComponent_333 (by decide) (fun c269 => ?_) (fun c269 => ?_)
                                    · skip
                                      have f270 : ((V266 0 8)).toInt ≤ 0 := b_le rfl (by decide) c269
                                      exfalso; first | exact om_f61feb2e2de9 r255.1 f260 t265 f270 | first | omega | ((try (have i_xlp254_7 := Imp.go xlp254_7 (by omega))); (try (have i_xlp254_3 := Imp.go xlp254_3 (by omega))); (try (have i_xlp254_2 := Imp.go xlp254_2 (by omega))); (try (have i_xlp254_2 := Imp.go xlp254_2 (by omega))); (try (have i_xlp254_3 := Imp.go xlp254_3 (by omega))); (try (have i_xlp254_7 := Imp.go xlp254_7 (by omega))); omega)
                                    · skip
                                      have f271 : 0 < ((V266 0 8)).toInt := b_nle rfl (by decide) c269
                                      have pq272 : (V266 0 48).toInt = ((V251 0 48)).toInt := congrArg Int32.toInt (ajV266 0 48 rfl)
                                      have pq273 : (V266 0 12).toInt = ((V 0 12)).toInt := congrArg Int32.toInt ((ajV266 0 12 rfl).trans ((ajV251 0 12 rfl).trans ((ajV71 0 12 rfl).trans ((up2_k hV64 (by decide)).trans ((up2_k hV63 (by decide)).trans ((up2_o hV62 (by decide)).trans ((up2_o hV61 (by decide)).trans ((up2_o hV60 (by decide)).trans ((ajV53 0 12 rfl).trans ((ajV47 0 12 rfl).trans ((ajV42 0 12 rfl).trans ((ajV29 0 12 rfl).trans (ajV13 0 12 rfl)))))))))))))
                                      have rw274 : RoV 19 bq V V266 := (fun k hk => ((ajV266 19 k rfl).trans (xlp254_8 k hk)))
                                      have rw275 : RoV 35 bq V V266 := (fun k hk => ((ajV266 35 k rfl).trans (xlp254_9 k hk)))
                                      have rw276 : RoV 37 bq V V266 := (fun k hk => ((ajV266 37 k rfl).trans (xlp254_10 k hk)))
                                      have rw277 : RoL 20 24 bq L L252 := (fun k hk => (xlp254_11 k hk))
                                      have rw278 : RoL 36 20 bq L L252 := (fun k hk => (xlp254_12 k hk))
                                      have rw279 : RoL 38 20 bq L L252 := (fun k hk => (xlp254_13 k hk))
                                      exact W.vret hx hb hr (fun t ht hW => ⟨⟨(V266, L252), rfl, ⟨hMV266, agV266, alL252, (Imp.mk (fun hp => have hp : (V266 0 8).toInt = 0 := hp; (show (V266 0 48).toInt ≤ 2 * (V266 0 7).toInt from by as_aux_lemma => first | omega | ((try (have i_xlp254_7 := Imp.go xlp254_7 (by omega))); (try (have i_xlp254_3 := Imp.go xlp254_3 (by omega))); (try (have i_xlp254_2 := Imp.go xlp254_2 (by omega))); (try (have i_xlp254_2 := Imp.go xlp254_2 (by omega))); (try (have i_xlp254_3 := Imp.go xlp254_3 (by omega))); (try (have i_xlp254_7 := Imp.go xlp254_7 (by omega))); omega)))), (show (V266 0 48).toInt ≤ 8200 from by as_aux_lemma => first | exact om_286ba355964b xlp254_4 pq272 | first | omega | ((try (have i_xlp254_7 := Imp.go xlp254_7 (by omega))); (try (have i_xlp254_3 := Imp.go xlp254_3 (by omega))); (try (have i_xlp254_2 := Imp.go xlp254_2 (by omega))); (try (have i_xlp254_2 := Imp.go xlp254_2 (by omega))); (try (have i_xlp254_3 := Imp.go xlp254_3 (by omega))); (try (have i_xlp254_7 := Imp.go xlp254_7 (by omega))); omega)), (show (V266 0 12).toInt = (V 0 12).toInt from by as_aux_lemma => first | exact om_570b691c1130 pq273 | first | omega | ((try (have i_xlp254_7 := Imp.go xlp254_7 (by omega))); (try (have i_xlp254_3 := Imp.go xlp254_3 (by omega))); (try (have i_xlp254_2 := Imp.go xlp254_2 (by omega))); (try (have i_xlp254_2 := Imp.go xlp254_2 (by omega))); (try (have i_xlp254_3 := Imp.go xlp254_3 (by omega))); (try (have i_xlp254_7 := Imp.go xlp254_7 (by omega))); omega)), (Or.inr ⟨(show 1 ≤ (V266 0 8).toInt from by as_aux_lemma => (first | exact om_58cca7287cc1 f271 | omega)), (fun k => by rw [show (V266 0 8).toInt = (V251 0 8).toInt from by as_aux_lemma => omega]; exact hq k)⟩), rw274, rw275, rw276, rw277, rw278, rw279⟩, by rw [ht]; exact hP, va_K.moved hW.alike hK, hD⟩, hS.F ht⟩) hS.2.2 dX12_toldComponent_336
                                  · skip
                                    have f280 : ((V251 0 8)).toInt = 0 := b_eq rfl (by decide) c259
                                    exfalso; first | exact om_09885ab343b9 f8 f280 | first | omega | ((try (have i_xlp254_7 := Imp.go xlp254_7 (by omega))); (try (have i_xlp254_3 := Imp.go xlp254_3 (by omega))); (try (have i_xlp254_2 := Imp.go xlp254_2 (by omega))); (try (have i_xlp254_2 := Imp.go xlp254_2 (by omega))); (try (have i_xlp254_3 := Imp.go xlp254_3 (by omega))); (try (have i_xlp254_7 := Imp.go xlp254_7 (by omega))); omega)
                            have pq281 : (V71 0 48).toInt = ((V 0 48)).toInt := congrArg Int32.toInt ((ajV71 0 48 rfl).trans ((up2_k hV64 (by decide)).trans ((up2_k hV63 (by decide)).trans ((up2_o hV62 (by decide)).trans ((up2_o hV61 (by decide)).trans ((up2_o hV60 (by decide)).trans ((ajV53 0 48 rfl).trans ((ajV47 0 48 rfl).trans ((ajV42 0 48 rfl).trans ((ajV29 0 48 rfl).trans (ajV13 0 48 rfl)))))))))))
                            have pq282 : (V71 0 51).toInt = z5.toInt := congrArg Int32.toInt ((ajV71 0 51 rfl).trans ((up2_k hV64 (by decide)).trans (up2_s hV63)))
                            have pq283 : (V71 0 52).toInt = 0 := (congrArg Int32.toInt ((ajV71 0 52 rfl).trans (up2_s hV64))).trans (by decide)
                            have rw284 : RoV 19 bq V V71 := (fun k hk => ((ajV71 19 k rfl).trans ((up2_o hV64 (by decide)).trans ((up2_o hV63 (by decide)).trans ((up2_o hV62 (by decide)).trans ((up2_o hV61 (by decide)).trans ((up2_o hV60 (by decide)).trans (xJ52_6 k hk))))))))
                            have rw285 : RoV 35 bq V V71 := (fun k hk => ((ajV71 35 k rfl).trans ((up2_o hV64 (by decide)).trans ((up2_o hV63 (by decide)).trans ((up2_o hV62 (by decide)).trans ((up2_o hV61 (by decide)).trans ((up2_o hV60 (by decide)).trans (xJ52_7 k hk))))))))
                            have rw286 : RoV 37 bq V V71 := (fun k hk => ((ajV71 37 k rfl).trans ((up2_o hV64 (by decide)).trans ((up2_o hV63 (by decide)).trans ((up2_o hV62 (by decide)).trans ((up2_o hV61 (by decide)).trans ((up2_o hV60 (by decide)).trans (xJ52_8 k hk))))))))
                            have rw287 : RoL 20 24 bq L L54 := (fun k hk => (xJ52_9 k hk))
                            have rw288 : RoL 36 20 bq L L54 := (fun k hk => (xJ52_10 k hk))
                            have rw289 : RoL 38 20 bq L L54 := (fun k hk => (xJ52_11 k hk))
                            exact lp254 ((((gn : Int) + 1) + 1 : Int).toNat) ((gn : Int) + 1) V71 L54 H locs ls (Or.inr ⟨(show 1 ≤ (V71 0 8).toInt from by as_aux_lemma => (first | exact om_f8d8213eda45 q73 | omega)), hb249⟩) (show 0 ≤ ((gn : Int) + 1) from by as_aux_lemma => (first | exact om_484f1d066a6d | omega)) (Imp.mk (fun hp => have hp : (V71 0 8).toInt = 0 := hp; (show (gn : Int) - (V71 0 7).toInt < ((gn : Int) + 1) from by as_aux_lemma => omega))) (Imp.mk (fun hp => have hp : (V71 0 8).toInt = 0 := hp; (show (V71 0 48).toInt ≤ 2 * (V71 0 7).toInt from by as_aux_lemma => omega))) (show (V71 0 48).toInt ≤ 8120 from by as_aux_lemma => (first | exact om_e48f75870c6d xJ52_3 pq55 pq281 | omega)) (show (V71 0 51).toInt = z5.toInt from by as_aux_lemma => (first | exact om_570b691c1130 pq282 | omega)) (show (V71 0 52).toInt = 0 from by as_aux_lemma => (first | exact om_b66ba74381d5 pq283 | omega)) (Imp.mk (fun hp => have hp : 1 ≤ (V71 0 8).toInt := hp; (show (V71 0 8).toInt = (V71 0 8).toInt from by as_aux_lemma => (first | exact om_4c2c879c4424 | omega)))) rw284 rw285 rw286 rw287 rw288 rw289 (by as_aux_lemma => (first | exact om_e44dd51abc87 | omega)) alL54 agr.rf hMV71 hP hD hS (lv_sub hl [0, 1, 2, 3] rfl)
                        · skip
                          have r290 : 0 ≤ ((V53 0 8)).toInt ∧ ((V53 0 8)).toInt ≤ 70000 := hMV53 0 8
                          refine lv_aload_n hx hb dX12_toldComponent_262 rfl (lv_at hl 3 rfl) ?_
                          refine va_get (D := D) (ci := 12) (v := .ref (ad 27)) (C := RX12) (T := TX12) (N := 100) hx hb hg inX12 hown hK hP 0 rfl rfl 27 (by decide) (hg _ w1733) (fun _ h9 => h9) rfl dX12_toldComponent_263 ?_
                          refine lv_iload_n hx hb dX12_toldComponent_266 rfl (lv_at hl 2 rfl) ?_
                          refine lv_iconst (v := 0) hx hb dX12_toldComponent_267 (by decide) ?_
                          refine va_iast (D := D) (i := z5) (x := 0) hx hb hK hP hD hS 20 19 rfl rfl (i_in (a := z5.toInt) rfl (by as_aux_lemma => (first | exact om_aa704d15899a r2.1 r2.2 hz3 r4.1 r4.2 hz5 f7 | omega))) dX12_toldComponent_268 (fun H locs hP hD hS => ?_)
                          obtain ⟨V291, hV291⟩ : ∃ z, z = up2 V53 27 (Int32.toNatClampNeg z5) 0 := ⟨_, rfl⟩
                          have hP : va_P D vwCl (mw ad kk ks.1 V291 L54) H := by rw [hV291]; exact hP
                          have hD : va_D A (mw ad kk ks.1 V291 L54) := by rw [hV291]; exact hD
                          have hMV291 : rgd bM V291 := hMV53.put hV291 (show 0 ≤ Int32.toInt 0 ∧ Int32.toInt 0 ≤ 8 from by decide)
                          have agV291 : agr [(0, 7), (0, 8), (0, 48), (0, 50), (0, 51), (0, 52)] [15, 19, 20, 21, 22, 23, 24, 25, 26, 27, 28, 29, 30, 31, 32, 33, 34, 35, 36, 37, 38, 45, 46, 47, 53] V V291 := agV53.up hV291 rfl
                          refine lv_aload_n hx hb dX12_toldComponent_269 rfl (lv_at hl 3 rfl) ?_
                          refine va_get (D := D) (ci := 12) (v := .ref (ad 32)) (C := RX12) (T := TX12) (N := 100) hx hb hg inX12 hown hK hP 0 rfl rfl 32 (by decide) (hg _ w1738) (fun _ h9 => h9) rfl dX12_toldComponent_270 ?_
                          refine lv_iload_n hx hb dX12_toldComponent_273 rfl (lv_at hl 2 rfl) ?_
                          refine lv_iconst (v := (-1)) hx hb dX12_toldComponent_274 (by decide) ?_
                          refine va_iast (D := D) (i := z5) (x := (-1)) hx hb hK hP hD hS 25 24 rfl rfl (i_in (a := z5.toInt) rfl (by as_aux_lemma => (first | exact om_aa704d15899a r2.1 r2.2 hz3 r4.1 r4.2 hz5 f7 | omega))) dX12_toldComponent_275 (fun H locs hP hD hS => ?_)
                          obtain ⟨V292, hV292⟩ : ∃ z, z = up2 V291 32 (Int32.toNatClampNeg z5) (-1) := ⟨_, rfl⟩
                          have hP : va_P D vwCl (mw ad kk ks.1 V292 L54) H := by rw [hV292]; exact hP
                          have hD : va_D A (mw ad kk ks.1 V292 L54) := by rw [hV292]; exact hD
                          have hMV292 : rgd bM V292 := hMV291.put hV292 (i_full _)
                          have agV292 : agr [(0, 7), (0, 8), (0, 48), (0, 50), (0, 51), (0, 52)] [15, 19, 20, 21, 22, 23, 24, 25, 26, 27, 28, 29, 30, 31, 32, 33, 34, 35, 36, 37, 38, 45, 46, 47, 53] V V292 := agV291.up hV292 rfl
                          refine lv_aload_n hx hb dX12_toldComponent_276 rfl (lv_at hl 3 rfl) ?_
                          refine va_get (D := D) (ci := 12) (v := .ref (ad 33)) (C := RX12) (T := TX12) (N := 100) hx hb hg inX12 hown hK hP 0 rfl rfl 33 (by decide) (hg _ w1739) (fun _ h9 => h9) rfl dX12_toldComponent_277 ?_
                          refine lv_iload_n hx hb dX12_toldComponent_280 rfl (lv_at hl 2 rfl) ?_
                          refine lv_iconst (v := (-1)) hx hb dX12_toldComponent_281 (by decide) ?_
                          refine va_iast (D := D) (i := z5) (x := (-1)) hx hb hK hP hD hS 26 25 rfl rfl (i_in (a := z5.toInt) rfl (by as_aux_lemma => (first | exact om_aa704d15899a r2.1 r2.2 hz3 r4.1 r4.2 hz5 f7 | omega))) dX12_toldComponent_282 (fun H locs hP hD hS => ?_)
                          obtain ⟨V293, hV293⟩ : ∃ z, z = up2 V292 33 (Int32.toNatClampNeg z5) (-1) := ⟨_, rfl⟩
                          have hP : va_P D vwCl (mw ad kk ks.1 V293 L54) H := by rw [hV293]; exact hP
                          have hD : va_D A (mw ad kk ks.1 V293 L54) := by rw [hV293]; exact hD
                          have hMV293 : rgd bM V293 := hMV292.put hV293 (i_full _)
                          have agV293 : agr [(0, 7), (0, 8), (0, 48), (0, 50), (0, 51), (0, 52)] [15, 19, 20, 21, 22, 23, 24, 25, 26, 27, 28, 29, 30, 31, 32, 33, 34, 35, 36, 37, 38, 45, 46, 47, 53] V V293 := agV292.up hV293 rfl
                          refine lv_aload_n hx hb dX12_toldComponent_283 rfl (lv_at hl 3 rfl) ?_
                          refine lv_iload_n hx hb dX12_toldComponent_284 rfl (lv_at hl 2 rfl) ?_
                          refine va_put (D := D) (ci := 12) (v := .int z5) (ty := tyX12 51) (C := RX12) (T := TX12) (N := 100) hx hb hg inX12 tyX12 tyX12_ok nmX12 hown hK hP hD hS 0 rfl rfl 51 (by decide) (hg _ w1757) (fun _ h9 => h9) rfl (tyX12_ok 51 (by decide)) rfl rfl (Nat.le_of_ble_eq_true rfl) dX12_toldComponent_285 (fun H locs hP hD hS => ?_)
                          obtain ⟨V294, hV294⟩ : ∃ z, z = up2 V293 0 51 z5 := ⟨_, rfl⟩
                          have hP : va_P D vwCl (mw ad kk ks.1 V294 L54) H := by rw [hV294]; exact hP
                          have hD : va_D A (mw ad kk ks.1 V294 L54) := by rw [hV294]; exact hD
                          have hMV294 : rgd bM V294 := hMV293.put hV294 (show (-1) ≤ z5.toInt ∧ z5.toInt ≤ 47 from by as_aux_lemma => (first | exact om_fd8d970f3df8 r2.1 r2.2 hz3 r4.1 r4.2 hz5 f7 | omega))
                          have agV294 : agr [(0, 7), (0, 8), (0, 48), (0, 50), (0, 51), (0, 52)] [15, 19, 20, 21, 22, 23, 24, 25, 26, 27, 28, 29, 30, 31, 32, 33, 34, 35, 36, 37, 38, 45, 46, 47, 53] V V294 := agV293.up hV294 rfl
                          refine lv_aload_n hx hb dX12_toldComponent_288 rfl (lv_at hl 3 rfl) ?_
                          refine lv_iconst (v := 0) hx hb dX12_toldComponent_289 (by decide) ?_
                          refine va_put (D := D) (ci := 12) (v := .int 0) (ty := tyX12 52) (C := RX12) (T := TX12) (N := 100) hx hb hg inX12 tyX12 tyX12_ok nmX12 hown hK hP hD hS 0 rfl rfl 52 (by decide) (hg _ w1758) (fun _ h9 => h9) rfl (tyX12_ok 52 (by decide)) rfl rfl (Nat.le_of_ble_eq_true rfl) dX12_toldComponent_290 (fun H locs hP hD hS => ?_)
                          obtain ⟨V295, hV295⟩ : ∃ z, z = up2 V294 0 52 0 := ⟨_, rfl⟩
                          have hP : va_P D vwCl (mw ad kk ks.1 V295 L54) H := by rw [hV295]; exact hP
                          have hD : va_D A (mw ad kk ks.1 V295 L54) := by rw [hV295]; exact hD
                          have hMV295 : rgd bM V295 := hMV294.put hV295 (by decide)
                          have agV295 : agr [(0, 7), (0, 8), (0, 48), (0, 50), (0, 51), (0, 52)] [15, 19, 20, 21, 22, 23, 24, 25, 26, 27, 28, 29, 30, 31, 32, 33, 34, 35, 36, 37, 38, 45, 46, 47, 53] V V295 := agV294.up hV295 rfl
                          refine lv_aload_n hx hb dX12_toldComponent_293 rfl (lv_at hl 3 rfl) ?_
                          refine lv_bipush (v := 123) hx hb dX12_toldComponent_294 (by decide) ?_
                          have r296 : Int32.toInt 123 = 123 := by decide
                          have pq297 : (V295 0 8).toInt = ((V53 0 8)).toInt := congrArg Int32.toInt ((up2_k hV295 (by decide)).trans ((up2_k hV294 (by decide)).trans ((up2_o hV293 (by decide)).trans ((up2_o hV292 (by decide)).trans (up2_o hV291 (by decide))))))
                          refine gA_void (gA_runV (As := [.int 123]) (rest := []) (ci := 12) (q0 := 0) hx hb hml hown hg hP hD hK hS hA hnw hgk (s_takeSignB l D ks H.size ad kk V295 L54 123 hMV295 (show 1 ≤ (V295 0 8).toInt from by as_aux_lemma => (first | exact om_e3c391a03e81 f7 pq297 | omega))) w2075 w2077 w96 w172 w2078 rfl rfl hdV_yX12_takeSign ⟨Nat.le_of_ble_eq_true rfl, Nat.le_of_ble_eq_true rfl⟩ rfl hl.1 rfl (Nat.le_of_ble_eq_true rfl) dX12_toldComponent_296 ⟨Nat.le_of_ble_eq_true rfl, Nat.le_of_ble_eq_true rfl⟩) hP hD hK hS hA (fun u299 H locs w300 hP hD hK hS => ?_)
                          obtain ⟨V302, L303⟩ := u299
                          obtain ⟨hMV302, ajV302, axL303, t301⟩ := w300
                          have axL303 : L54 = L303 := Eq.symm axL303
                          subst axL303
                          replace hP : va_P D vwCl (mw ad kk ks.1 V302 L54) H := hP
                          replace hD : va_D A (mw ad kk ks.1 V302 L54) := hD
                          replace hMV302 : rgd bM V302 := hMV302
                          replace ajV302 : agr [(0, 7), (0, 8)] [] V295 V302 := ajV302
                          have agV302 : agr [(0, 7), (0, 8), (0, 48), (0, 50), (0, 51), (0, 52)] [15, 19, 20, 21, 22, 23, 24, 25, 26, 27, 28, 29, 30, 31, 32, 33, 34, 35, 36, 37, 38, 45, 46, 47, 53] V V302 := agV295.tr ajV302 (by decide) (by decide)
                          replace t301 : (V302 0 8).toInt = (V295 0 8).toInt := t301
                          have r304 : 0 ≤ ((V302 0 8)).toInt ∧ ((V302 0 8)).toInt ≤ 70000 := hMV302 0 8
                          have lp308 : ∀ (fulp308 : Nat) (g307 : Int) (V305 : Vf) (L306 : Lf) (H : Heap) (locs : List Loc) (ls : Array Slot), (((V305 0 8).toInt = 0 ∧ ∃ s1 : St, (∀ k, Rc gT (Crun gs (Istmt :: k)) (Crun s1 (Imember :: k))) ∧ RelM V305 L306 bq gn gT s1 (gs.2.1 2) ∧ gs.1 0 + 1 ≤ s1.1 0 ∧ OWm V305 gc s1 ∧ s1.2.1 2 = gs.2.1 2 ++ [wx32] ∧ s1.2.2.1 = gs.2.2.1 ∧ CNm V305 bq s1 ∧ CEm V305 bq s1) ∨ (1 ≤ (V305 0 8).toInt ∧ ∀ k, Rc gT (Crun gs (Istmt :: k)) (Cbad (V305 0 8).toInt))) → 0 ≤ g307 → Imp ((V305 0 8).toInt = 0) ((gn : Int) - (V305 0 7).toInt < g307) → Imp ((V305 0 8).toInt = 0) ((V305 0 48).toInt ≤ 2 * (V305 0 7).toInt) → (V305 0 48).toInt ≤ 8120 → (V305 0 51).toInt = z5.toInt → (V305 0 52).toInt = 0 → Imp (1 ≤ (V302 0 8).toInt) ((V305 0 8).toInt = (V302 0 8).toInt) → (RoV 19 bq V V305) → (RoV 35 bq V V305) → (RoV 37 bq V V305) → (RoL 20 24 bq L L306) → (RoL 36 20 bq L L306) → (RoL 38 20 bq L L306) → g307 < (fulp308 : Int) → agL [15, 19, 20, 21, 22, 23, 24, 25, 26, 27, 28, 29, 30, 31, 32, 33, 34, 35, 36, 37, 38, 45, 46, 47, 53] L L306 → agr [(0, 7), (0, 8), (0, 48), (0, 50)] [27, 28, 29, 30, 31, 32, 33, 34, 35, 36, 37, 38, 45, 46, 47] V302 V305 → rgd bM V305 → va_P D vwCl (mw ad kk ks.1 V305 L306) H → va_D A (mw ad kk ks.1 V305 L306) → va_S A s.heap H locs → lv_has ls 5 [(4, .int y46), (2, .long z25), (1, .int z5), (0, .ref (ad 0))] → W p l e r_s_toldComponentA s m ([.ref (ad 0)] : List Value).toArray below meth c H locs 0 0 (MQ below (q_s_toldComponentA D ks ad kk V L  bq gn gT gs A) ([.ref (ad 0)] : List Value).toArray s 0 0 A) (F0 m 299 ls []) := by
                            (try clear fz39); (try clear ps38); (try clear hr37); (try clear fz21); (try clear ps20); (try clear hr19); (try clear hr18)
                            intro fulp308
                            induction fulp308 with
                            | zero =>
                              intro g307 V305 L306 H locs ls xlp308_0 xlp308_1 xlp308_2 xlp308_3 xlp308_4 xlp308_5 xlp308_6 xlp308_7 xlp308_8 xlp308_9 xlp308_10 xlp308_11 xlp308_12 xlp308_13 hn alL306 ajV305 hMV305 hP hD hS hl
                              exfalso; (first | exact om_21e89d3d06d7 xlp308_1 hn | omega)
                            | succ fulp308 ihlp308 =>
                              intro g307 V305 L306 H locs ls xlp308_0 xlp308_1 xlp308_2 xlp308_3 xlp308_4 xlp308_5 xlp308_6 xlp308_7 xlp308_8 xlp308_9 xlp308_10 xlp308_11 xlp308_12 xlp308_13 hn alL306 ajV305 hMV305 hP hD hS hl
                              have agV305 : agr [(0, 7), (0, 8), (0, 48), (0, 50), (0, 51), (0, 52)] [15, 19, 20, 21, 22, 23, 24, 25, 26, 27, 28, 29, 30, 31, 32, 33, 34, 35, 36, 37, 38, 45, 46, 47, 53] V V305 := agV302.tr ajV305 (by decide) (by decide)
                              have r309 : 0 ≤ ((V305 0 8)).toInt ∧ ((V305 0 8)).toInt ≤ 70000 := hMV305 0 8
                              have r310 : 0 ≤ ((V305 0 48)).toInt ∧ ((V305 0 48)).toInt ≤ 10000 := hMV305 0 48
                              have pq311 : (V305 0 51).toInt = z5.toInt := congrArg Int32.toInt ((ajV305 0 51 rfl).trans ((ajV302 0 51 rfl).trans ((up2_k hV295 (by decide)).trans (up2_s hV294))))
                              have pq312 : (V305 0 52).toInt = 0 := (congrArg Int32.toInt ((ajV305 0 52 rfl).trans ((ajV302 0 52 rfl).trans (up2_s hV295)))).trans (by decide)
                              refine lv_aload_n hx hb dX12_toldComponent_299 rfl (lv_at hl 3 rfl) ?_
                              rcases xlp308_0 with ⟨f8, s1, hq, rq, gq1, oq, tq, wq, nq, eq9⟩ | ⟨f8, hq⟩
                              · skip
                                exfalso; first | omega | ((try (have i_xlp308_7 := Imp.go xlp308_7 (by omega))); (try (have i_xlp308_3 := Imp.go xlp308_3 (by omega))); (try (have i_xlp308_2 := Imp.go xlp308_2 (by omega))); (try (have i_xlp308_2 := Imp.go xlp308_2 (by omega))); (try (have i_xlp308_3 := Imp.go xlp308_3 (by omega))); (try (have i_xlp308_7 := Imp.go xlp308_7 (by omega))); omega)
                              · skip
                                refine va_get (D := D) (ci := 12) (v := .int (V305 0 8)) (C := RX12) (T := TX12) (N := 100) hx hb hg inX12 hown hK hP 0 rfl rfl 8 (by decide) (hg _ w1714) (fun _ h9 => h9) rfl dX12_toldComponent_300 ?_
                                refine lv_if_ne (tgt := 323) hx hb dX12_toldComponent_303 (by decide) (fun c313 => ?_) (fun c313 => ?_)
                                · skip
                                  have f314 : ((V305 0 8)).toInt ≠ 0 := b_neq rfl (by decide) c313
                                  refine lv_aload_n hx hb dX12_toldComponent_323 rfl (lv_at hl 3 rfl) ?_
                                  refine lv_bipush (v := 125) hx hb dX12_toldComponent_324 (by decide) ?_
                                  have r315 : Int32.toInt 125 = 125 := by decide
                                  refine gA_void (gA_runV (As := [.int 125]) (rest := []) (ci := 12) (q0 := 0) hx hb hml hown hg hP hD hK hS hA hnw hgk (s_takeSignB l D ks H.size ad kk V305 L306 125 hMV305 (show 1 ≤ (V305 0 8).toInt from by as_aux_lemma => first | exact om_76052c512981 r309.1 f314 | first | omega | ((try (have i_xlp308_7 := Imp.go xlp308_7 (by omega))); (try (have i_xlp308_3 := Imp.go xlp308_3 (by omega))); (try (have i_xlp308_2 := Imp.go xlp308_2 (by omega))); (try (have i_xlp308_2 := Imp.go xlp308_2 (by omega))); (try (have i_xlp308_3 := Imp.go xlp308_3 (by omega))); (try (have i_xlp308_7 := Imp.go xlp308_7 (by omega))); omega))) w2075 w2077 w96 w172 w2078 rfl rfl hdV_yX12_takeSign ⟨Nat.le_of_ble_eq_true rfl, Nat.le_of_ble_eq_true rfl⟩ rfl hl.1 rfl (Nat.le_of_ble_eq_true rfl) dX12_toldComponent_326 ⟨Nat.le_of_ble_eq_true rfl, Nat.le_of_ble_eq_true rfl⟩) hP hD hK hS hA (fun u317 H locs w318 hP hD hK hS => ?_)
                                  obtain ⟨V320, L321⟩ := u317
                                  obtain ⟨hMV320, ajV320, axL321, t319⟩ := w318
                                  have axL321 : L306 = L321 := Eq.symm axL321
                                  subst axL321
                                  replace hP : va_P D vwCl (mw ad kk ks.1 V320 L306) H := hP
                                  replace hD : va_D A (mw ad kk ks.1 V320 L306) := hD
                                  replace hMV320 : rgd bM V320 := hMV320
                                  replace ajV320 : agr [(0, 7), (0, 8)] [] V305 V320 := ajV320
                                  have agV320 : agr [(0, 7), (0, 8), (0, 48), (0, 50), (0, 51), (0, 52)] [15, 19, 20, 21, 22, 23, 24, 25, 26, 27, 28, 29, 30, 31, 32, 33, 34, 35, 36, 37, 38, 45, 46, 47, 53] V V320 := agV305.tr ajV320 (by decide) (by decide)
                                  replace t319 : (V320 0 8).toInt = (V305 0 8).toInt := t319
                                  have r322 : 0 ≤ ((V320 0 8)).toInt ∧ ((V320 0 8)).toInt ≤ 70000 := hMV320 0 8
                                  refine lv_aload_n hx hb dX12_toldComponent_329 rfl (lv_at hl 3 rfl) ?_
                                  refine va_get (D := D) (ci := 12) (v := .int (V320 0 8)) (C := RX12) (T := TX12) (N := 100) hx hb hg inX12 hown hK hP 0 rfl rfl 8 (by decide) (hg _ w1714) (fun _ h9 => h9) rfl dX12_toldComponent_330 ?_
                                  refine lv_if_le (tgt := 337) hx hb dX12_toldComponent_333 (by decide) (fun c323 => ?_) (fun c323 => ?_)
                                  · skip
                                    have f324 : ((V320 0 8)).toInt ≤ 0 := b_le rfl (by decide) c323
                                    exfalso; first | exact om_f61feb2e2de9 r309.1 f314 t319 f324 | first | omega | ((try (have i_xlp308_7 := Imp.go xlp308_7 (by omega))); (try (have i_xlp308_3 := Imp.go xlp308_3 (by omega))); (try (have i_xlp308_2 := Imp.go xlp308_2 (by omega))); (try (have i_xlp308_2 := Imp.go xlp308_2 (by omega))); (try (have i_xlp308_3 := Imp.go xlp308_3 (by omega))); (try (have i_xlp308_7 := Imp.go xlp308_7 (by omega))); omega)
                                  · skip
                                    have f325 : 0 < ((V320 0 8)).toInt := b_nle rfl (by decide) c323
                                    have pq326 : (V320 0 48).toInt = ((V305 0 48)).toInt := congrArg Int32.toInt (ajV320 0 48 rfl)
                                    have pq327 : (V320 0 12).toInt = ((V 0 12)).toInt := congrArg Int32.toInt ((ajV320 0 12 rfl).trans ((ajV305 0 12 rfl).trans ((ajV302 0 12 rfl).trans ((up2_k hV295 (by decide)).trans ((up2_k hV294 (by decide)).trans ((up2_o hV293 (by decide)).trans ((up2_o hV292 (by decide)).trans ((up2_o hV291 (by decide)).trans ((ajV53 0 12 rfl).trans ((ajV47 0 12 rfl).trans ((ajV42 0 12 rfl).trans ((ajV29 0 12 rfl).trans (ajV13 0 12 rfl)))))))))))))
                                    have rw328 : RoV 19 bq V V320 := (fun k hk => ((ajV320 19 k rfl).trans (xlp308_8 k hk)))
                                    have rw329 : RoV 35 bq V V320 := (fun k hk => ((ajV320 35 k rfl).trans (xlp308_9 k hk)))
                                    have rw330 : RoV 37 bq V V320 := (fun k hk => ((ajV320 37 k rfl).trans (xlp308_10 k hk)))
                                    have rw331 : RoL 20 24 bq L L306 := (fun k hk => (xlp308_11 k hk))
                                    have rw332 : RoL 36 20 bq L L306 := (fun k hk => (xlp308_12 k hk))
                                    have rw333 : RoL 38 20 bq L L306 := (fun k hk => (xlp308_13 k hk))
                                    exact W.vret hx hb hr (fun t ht hW => ⟨⟨(V320, L306), rfl, ⟨hMV320, agV320, alL306, (Imp.mk (fun hp => have hp : (V320 0 8).toInt = 0 := hp; (show (V320 0 48).toInt ≤ 2 * (V320 0 7).toInt from by as_aux_lemma => first | omega | ((try (have i_xlp308_7 := Imp.go xlp308_7 (by omega))); (try (have i_xlp308_3 := Imp.go xlp308_3 (by omega))); (try (have i_xlp308_2 := Imp.go xlp308_2 (by omega))); (try (have i_xlp308_2 := Imp.go xlp308_2 (by omega))); (try (have i_xlp308_3 := Imp.go xlp308_3 (by omega))); (try (have i_xlp308_7 := Imp.go xlp308_7 (by omega))); omega)))), (show (V320 0 48).toInt ≤ 8200 from by as_aux_lemma => first | exact om_286ba355964b xlp308_4 pq326 | first | omega | ((try (have i_xlp308_7 := Imp.go xlp308_7 (by omega))); (try (have i_xlp308_3 := Imp.go xlp308_3 (by omega))); (try (have i_xlp308_2 := Imp.go xlp308_2 (by omega))); (try (have i_xlp308_2 := Imp.go xlp308_2 (by omega))); (try (have i_xlp308_3 := Imp.go xlp308_3 (by omega))); (try (have i_xlp308_7 := Imp.go xlp308_7 (by omega))); omega)), (show (V320 0 12).toInt = (V 0 12).toInt from by as_aux_lemma => first | exact om_570b691c1130 pq327 | first | omega | ((try (have i_xlp308_7 := Imp.go xlp308_7 (by omega))); (try (have i_xlp308_3 := Imp.go xlp308_3 (by omega))); (try (have i_xlp308_2 := Imp.go xlp308_2 (by omega))); (try (have i_xlp308_2 := Imp.go xlp308_2 (by omega))); (try (have i_xlp308_3 := Imp.go xlp308_3 (by omega))); (try (have i_xlp308_7 := Imp.go xlp308_7 (by omega))); omega)), (Or.inr ⟨(show 1 ≤ (V320 0 8).toInt from by as_aux_lemma => (first | exact om_58cca7287cc1 f325 | omega)), (fun k => by rw [show (V320 0 8).toInt = (V305 0 8).toInt from by as_aux_lemma => omega]; exact hq k)⟩), rw328, rw329, rw330, rw331, rw332, rw333⟩, by rw [ht]; exact hP, va_K.moved hW.alike hK, hD⟩, hS.F ht⟩) hS.2.2 dX12_toldComponent_336
                                · skip
                                  have f334 : ((V305 0 8)).toInt = 0 := b_eq rfl (by decide) c313
                                  exfalso; first | exact om_09885ab343b9 f8 f334 | first | omega | ((try (have i_xlp308_7 := Imp.go xlp308_7 (by omega))); (try (have i_xlp308_3 := Imp.go xlp308_3 (by omega))); (try (have i_xlp308_2 := Imp.go xlp308_2 (by omega))); (try (have i_xlp308_2 := Imp.go xlp308_2 (by omega))); (try (have i_xlp308_3 := Imp.go xlp308_3 (by omega))); (try (have i_xlp308_7 := Imp.go xlp308_7 (by omega))); omega)
                          have pq335 : (V302 0 48).toInt = ((V 0 48)).toInt := congrArg Int32.toInt ((ajV302 0 48 rfl).trans ((up2_k hV295 (by decide)).trans ((up2_k hV294 (by decide)).trans ((up2_o hV293 (by decide)).trans ((up2_o hV292 (by decide)).trans ((up2_o hV291 (by decide)).trans ((ajV53 0 48 rfl).trans ((ajV47 0 48 rfl).trans ((ajV42 0 48 rfl).trans ((ajV29 0 48 rfl).trans (ajV13 0 48 rfl)))))))))))
                          have pq336 : (V302 0 51).toInt = z5.toInt := congrArg Int32.toInt ((ajV302 0 51 rfl).trans ((up2_k hV295 (by decide)).trans (up2_s hV294)))
                          have pq337 : (V302 0 52).toInt = 0 := (congrArg Int32.toInt ((ajV302 0 52 rfl).trans (up2_s hV295))).trans (by decide)
                          have rw338 : RoV 19 bq V V302 := (fun k hk => ((ajV302 19 k rfl).trans ((up2_o hV295 (by decide)).trans ((up2_o hV294 (by decide)).trans ((up2_o hV293 (by decide)).trans ((up2_o hV292 (by decide)).trans ((up2_o hV291 (by decide)).trans (xJ52_6 k hk))))))))
                          have rw339 : RoV 35 bq V V302 := (fun k hk => ((ajV302 35 k rfl).trans ((up2_o hV295 (by decide)).trans ((up2_o hV294 (by decide)).trans ((up2_o hV293 (by decide)).trans ((up2_o hV292 (by decide)).trans ((up2_o hV291 (by decide)).trans (xJ52_7 k hk))))))))
                          have rw340 : RoV 37 bq V V302 := (fun k hk => ((ajV302 37 k rfl).trans ((up2_o hV295 (by decide)).trans ((up2_o hV294 (by decide)).trans ((up2_o hV293 (by decide)).trans ((up2_o hV292 (by decide)).trans ((up2_o hV291 (by decide)).trans (xJ52_8 k hk))))))))
                          have rw341 : RoL 20 24 bq L L54 := (fun k hk => (xJ52_9 k hk))
                          have rw342 : RoL 36 20 bq L L54 := (fun k hk => (xJ52_10 k hk))
                          have rw343 : RoL 38 20 bq L L54 := (fun k hk => (xJ52_11 k hk))
                          exact lp308 ((((gn : Int) + 1) + 1 : Int).toNat) ((gn : Int) + 1) V302 L54 H locs ls (Or.inr ⟨(show 1 ≤ (V302 0 8).toInt from by as_aux_lemma => (first | exact om_2487ca371d8b f7 pq297 t301 | omega)), (fun k => by rw [show (V302 0 8).toInt = (V53 0 8).toInt from by as_aux_lemma => omega]; exact h1 k)⟩) (show 0 ≤ ((gn : Int) + 1) from by as_aux_lemma => (first | exact om_484f1d066a6d | omega)) (Imp.mk (fun hp => have hp : (V302 0 8).toInt = 0 := hp; (show (gn : Int) - (V302 0 7).toInt < ((gn : Int) + 1) from by as_aux_lemma => omega))) (Imp.mk (fun hp => have hp : (V302 0 8).toInt = 0 := hp; (show (V302 0 48).toInt ≤ 2 * (V302 0 7).toInt from by as_aux_lemma => omega))) (show (V302 0 48).toInt ≤ 8120 from by as_aux_lemma => (first | exact om_e48f75870c6d xJ52_3 pq55 pq335 | omega)) (show (V302 0 51).toInt = z5.toInt from by as_aux_lemma => (first | exact om_570b691c1130 pq336 | omega)) (show (V302 0 52).toInt = 0 from by as_aux_lemma => (first | exact om_b66ba74381d5 pq337 | omega)) (Imp.mk (fun hp => have hp : 1 ≤ (V302 0 8).toInt := hp; (show (V302 0 8).toInt = (V302 0 8).toInt from by as_aux_lemma => (first | exact om_4c2c879c4424 | omega)))) rw338 rw339 rw340 rw341 rw342 rw343 (by as_aux_lemma => (first | exact om_e44dd51abc87 | omega)) alL54 agr.rf hMV302 hP hD hS (lv_sub hl [0, 1, 2, 3] rfl)
                      refine lv_aload_n hx hb dX12_toldComponent_112 rfl (lv_at hl 3 rfl) ?_
                      refine lv_iconst (v := 4) hx hb dX12_toldComponent_113 (by decide) ?_
                      have rl344 : RelM V47 L bq gn gT (nx (nx gs 1) 1) (gs.2.1 2) := RelM.ag rl34 (show agr [] [21, 34] V29 V47 from (agr.tr (agr.tr agr.rf ajV42 (by decide) (by decide)) ajV47 (by decide) (by decide))) (by decide) (show agL [] L L from agL.rf) (by decide)
                      have r345 : Int32.toInt 4 = 4 := by decide
                      refine gA_void (gA_runV (As := [.int 4]) (rest := []) (ci := 12) (q0 := 0) hx hb hml hown hg hP hD hK hS hA hnw hgk (s_takeWordA l D ks H.size ad kk V47 L 4 (bq) (gn) (gT) ((nx (nx gs 1) 1)) ((gs.2.1 2)) hMV47 (by decide) rl344) w2092 w2094 w100 w172 w2095 rfl rfl hdV_yX12_takeWord ⟨Nat.le_of_ble_eq_true rfl, Nat.le_of_ble_eq_true rfl⟩ rfl hl.1 rfl (Nat.le_of_ble_eq_true rfl) dX12_toldComponent_114 ⟨Nat.le_of_ble_eq_true rfl, Nat.le_of_ble_eq_true rfl⟩) hP hD hK hS hA (fun u347 H locs w348 hP hD hK hS => ?_)
                      obtain ⟨V350, L351⟩ := u347
                      obtain ⟨hMV350, ajV350, axL351, t349⟩ := w348
                      have axL351 : L = L351 := Eq.symm axL351
                      subst axL351
                      replace hP : va_P D vwCl (mw ad kk ks.1 V350 L) H := hP
                      replace hD : va_D A (mw ad kk ks.1 V350 L) := hD
                      replace hMV350 : rgd bM V350 := hMV350
                      replace ajV350 : agr [(0, 7), (0, 8)] [] V47 V350 := ajV350
                      have agV350 : agr [(0, 7), (0, 8), (0, 48), (0, 50), (0, 51), (0, 52)] [15, 19, 20, 21, 22, 23, 24, 25, 26, 27, 28, 29, 30, 31, 32, 33, 34, 35, 36, 37, 38, 45, 46, 47, 53] V V350 := agV47.tr ajV350 (by decide) (by decide)
                      replace t349 : ((V350 0 8).toInt = 0 ∧ (gT).1 (((nx (nx gs 1) 1)).1 0) = 128 + (Int32.toInt 4) ∧ RelM V350 L (bq) (gn) (gT) (nx ((nx (nx gs 1) 1)) 1) ((gs.2.1 2))) ∨ (1 ≤ (V350 0 8).toInt ∧ (gT).1 (((nx (nx gs 1) 1)).1 0) ≠ 128 + (Int32.toInt 4) ∧ (V350 0 8).toInt = 1 + 16 * (gT).2.2 (((nx (nx gs 1) 1)).1 0)) := t349
                      rcases t349 with ⟨q352, h353, rl354⟩ | ⟨q352, h353, rl354⟩
                      · skip
                        have kd355 : gT.1 ((nx (nx gs 1) 1).1 0) = 132 := h353.trans (by decide)
                        have hr356 : ∀ k, Rc gT (Crun gs (Istmt :: k)) (Crun (nx (nx (nx gs 1) 1) 1) (Itypes 1 wx32 0 [] :: k)) := fun k => Rc.go1 (hr37 k) (tk_y kd355)
                        have ps357 : (nx (nx (nx gs 1) 1) 1).1 0 = (nx (nx gs 1) 1).1 0 + 1 := rfl
                        have fz358 := RelM.rg rl354
                        have r359 : 0 ≤ ((V350 0 8)).toInt ∧ ((V350 0 8)).toInt ≤ 70000 := hMV350 0 8
                        refine lv_aload_n hx hb dX12_toldComponent_117 rfl (lv_at hl 3 rfl) ?_
                        refine va_get (D := D) (ci := 12) (v := .int (V350 0 8)) (C := RX12) (T := TX12) (N := 100) hx hb hg inX12 hown hK hP 0 rfl rfl 8 (by decide) (hg _ w1714) (fun _ h9 => h9) rfl dX12_toldComponent_118 ?_
                        refine lv_if_ne (tgt := 133) hx hb dX12_toldComponent_121 (by decide) (fun c360 => ?_) (fun c360 => ?_)
                        · skip
                          have f361 : ((V350 0 8)).toInt ≠ 0 := b_neq rfl (by decide) c360
                          exfalso; (first | exact om_0b51723c7ef6 q352 f361 | omega)
                        · skip
                          have f362 : ((V350 0 8)).toInt = 0 := b_eq rfl (by decide) c360
                          refine lv_aload_n hx hb dX12_toldComponent_124 rfl (lv_at hl 3 rfl) ?_
                          refine lv_aload_n hx hb dX12_toldComponent_125 rfl (lv_at hl 3 rfl) ?_
                          refine va_get (D := D) (ci := 12) (v := .ref (ad 21)) (C := RX12) (T := TX12) (N := 100) hx hb hg inX12 hown hK hP 0 rfl rfl 21 (by decide) (hg _ w1727) (fun _ h9 => h9) rfl dX12_toldComponent_126 ?_
                          refine lv_iload_n hx hb dX12_toldComponent_129 rfl (lv_at hl 2 rfl) ?_
                          have cn363 : CNm V350 bq gs := CNm.ag xlp43_1 (show agr [(0, 7), (0, 8)] [34] V42 V350 from (agr.tr (agr.tr agr.rf ajV47 (by decide) (by decide)) ajV350 (by decide) (by decide))) (by decide) keepC.rf
                          have cn364 : CNm V350 bq (nx (nx (nx gs 1) 1) 1) := CNm.mv cn363 (fun _ _ _ => rfl) (keepC.tr (keepC.tr (keepC.tr (keepC.rf : keepC gs gs) (keepS.c (keepS.n1 1))) (keepS.c (keepS.n1 1))) (keepS.c (keepS.n1 1)))
                          refine gA_void (gA_runV (As := [.ref (ad 21), .int z5]) (rest := []) (ci := 12) (q0 := 0) hx hb hml hown hg hP hD hK hS hA hnw hgk (s_takeTypesA21 l D ks H.size ad kk V350 L z5 (bq) (gn) (gT) ((nx (nx (nx gs 1) 1) 1)) ((gs.2.1 2)) (1) (wx32) (gc) hMV350 (by as_aux_lemma => (first | exact om_fb62160a9b03 r2.1 r2.2 hz3 r4.1 r4.2 hz5 f7 | omega)) rl354 (show z5.toInt = ((gc) : Int) from by as_aux_lemma => omega) (show gc = 24 * bq + ((nx (nx (nx gs 1) 1) 1).2.1 2).length from by rw [((keepC.tr (keepC.tr (keepC.tr (keepC.rf : keepC gs gs) (keepS.c (keepS.n1 1))) (keepS.c (keepS.n1 1))) (keepS.c (keepS.n1 1)))).2 2 (by decide)]; exact hgc) cn364) w2055 w2057 w91 w172 w2058 rfl rfl hdV_yX12_takeTypes ⟨Nat.le_of_ble_eq_true rfl, Nat.le_of_ble_eq_true rfl⟩ rfl hl.1 rfl (Nat.le_of_ble_eq_true rfl) dX12_toldComponent_130 ⟨Nat.le_of_ble_eq_true rfl, Nat.le_of_ble_eq_true rfl⟩) hP hD hK hS hA (fun u366 H locs w367 hP hD hK hS => ?_)
                          obtain ⟨V369, L370⟩ := u366
                          obtain ⟨hMV369, ajV369, axL370, t368⟩ := w367
                          have axL370 : L = L370 := Eq.symm axL370
                          subst axL370
                          replace hP : va_P D vwCl (mw ad kk ks.1 V369 L) H := hP
                          replace hD : va_D A (mw ad kk ks.1 V369 L) := hD
                          replace hMV369 : rgd bM V369 := hMV369
                          replace ajV369 : agr [(0, 7), (0, 8)] [15, 21, 53] V350 V369 := ajV369
                          have agV369 : agr [(0, 7), (0, 8), (0, 48), (0, 50), (0, 51), (0, 52)] [15, 19, 20, 21, 22, 23, 24, 25, 26, 27, 28, 29, 30, 31, 32, 33, 34, 35, 36, 37, 38, 45, 46, 47, 53] V V369 := agV350.tr ajV369 (by decide) (by decide)
                          replace t368 : RdTm (gT) ((nx (nx (nx gs 1) 1) 1)) (1) (wx32) (V369 0 8).toInt (fun s9 sn => RelM V369 L (bq) (gn) (gT) s9 ((gs.2.1 2)) ∧ keepS ((nx (nx (nx gs 1) 1) 1)) 1 s9 ∧ keepL ((nx (nx (nx gs 1) 1) 1)) s9 ∧ UNm 21 (gc) V350 V369 ((nx (nx (nx gs 1) 1) 1)).1 sn ∧ CNm V369 (bq) ((nx (nx (nx gs 1) 1) 1))) := t368
                          rcases t368 with ⟨q371, sx372, sn373, h374, rl375, kp376, ll379, un377, cn378⟩ | ⟨q371, h374⟩
                          · skip
                            have hr380 : ∀ k, Rc gT (Crun gs (Istmt :: k)) (Crun sx372 (ItyD 1 wx32 sn373 :: k)) := fun k => (hr356 k).tr (h374 (k))
                            have fz381 := RelM.rg rl375
                            have r382 : 0 ≤ ((V369 0 8)).toInt ∧ ((V369 0 8)).toInt ≤ 70000 := hMV369 0 8
                            have ps383 := (kp376).1
                            have cn384 : CNm V369 bq gs := CNm.mv cn378 (fun _ _ _ => rfl) (keepC.sy (keepC.tr (keepC.tr (keepC.tr (keepC.rf : keepC gs gs) (keepS.c (keepS.n1 1))) (keepS.c (keepS.n1 1))) (keepS.c (keepS.n1 1))))
                            refine lv_aload_n hx hb dX12_toldComponent_133 rfl (lv_at hl 3 rfl) ?_
                            refine va_get (D := D) (ci := 12) (v := .ref (ad 22)) (C := RX12) (T := TX12) (N := 100) hx hb hg inX12 hown hK hP 0 rfl rfl 22 (by decide) (hg _ w1728) (fun _ h9 => h9) rfl dX12_toldComponent_134 ?_
                            refine lv_iload_n hx hb dX12_toldComponent_137 rfl (lv_at hl 2 rfl) ?_
                            refine lv_aload_n hx hb dX12_toldComponent_138 rfl (lv_at hl 3 rfl) ?_
                            refine lv_bipush (v := 20) hx hb dX12_toldComponent_139 (by decide) ?_
                            refine lv_iconst (v := 4) hx hb dX12_toldComponent_141 (by decide) ?_
                            have hr385 : ∀ k, Rc gT (Crun gs (Istmt :: k)) (Crun sx372 (Iscope wx32 sn373 :: k)) := fun k => Rc.go1 (hr380 k) (td_1 wx32 sn373)
                            have r386 : Int32.toInt 20 = 20 := by decide
                            refine gA_int (gA_runV (As := [.int 20, .int 4]) (rest := [.int z5, .ref (ad 22)]) (ci := 12) (q0 := 0) hx hb hml hown hg hP hD hK hS hA hnw hgk (s_oneOfA l D ks H.size ad kk V369 L 20 4 (bq) (gn) (gT) (sx372) ((gs.2.1 2)) hMV369 (by decide) (by decide) rl375 (show (Int32.toInt 20) + (Int32.toInt 4) ≤ 28 from by as_aux_lemma => (first | exact om_1b007844e976 r345 r386 | omega))) w2096 w2098 w101 w172 w2099 rfl rfl hdV_yX12_oneOf ⟨Nat.le_of_ble_eq_true rfl, Nat.le_of_ble_eq_true rfl⟩ rfl hl.1 rfl (Nat.le_of_ble_eq_true rfl) dX12_toldComponent_142 ⟨Nat.le_of_ble_eq_true rfl, Nat.le_of_ble_eq_true rfl⟩) hP hD hK hS hA (fun z387 u388 H locs w389 hP hD hK hS => ?_)
                            obtain ⟨V391, L392⟩ := u388
                            obtain ⟨hMV391, ajV391, axL392, rgz387, t390⟩ := w389
                            have axL392 : L = L392 := Eq.symm axL392
                            subst axL392
                            replace hP : va_P D vwCl (mw ad kk ks.1 V391 L) H := hP
                            replace hD : va_D A (mw ad kk ks.1 V391 L) := hD
                            replace hMV391 : rgd bM V391 := hMV391
                            replace ajV391 : agr [(0, 7), (0, 8)] [] V369 V391 := ajV391
                            have agV391 : agr [(0, 7), (0, 8), (0, 48), (0, 50), (0, 51), (0, 52)] [15, 19, 20, 21, 22, 23, 24, 25, 26, 27, 28, 29, 30, 31, 32, 33, 34, 35, 36, 37, 38, 45, 46, 47, 53] V V391 := agV369.tr ajV391 (by decide) (by decide)
                            replace rgz387 : 0 ≤ z387.toInt ∧ z387.toInt ≤ 3 := rgz387
                            replace t390 : ((V391 0 8).toInt = 0 ∧ (gT).1 ((sx372).1 0) = 128 + (Int32.toInt 20) + z387.toInt ∧ RelM V391 L (bq) (gn) (gT) (nx (sx372) 1) ((gs.2.1 2))) ∨ (1 ≤ (V391 0 8).toInt ∧ ((gT).1 ((sx372).1 0) < 128 + (Int32.toInt 20) ∨ 128 + (Int32.toInt 20) + (Int32.toInt 4) ≤ (gT).1 ((sx372).1 0)) ∧ (V391 0 8).toInt = 1 + 16 * (gT).2.2 ((sx372).1 0)) := t390
                            rcases t390 with ⟨q393, h394, rl395⟩ | ⟨q393, h394, rl395⟩
                            · skip
                              have hr396 : ∀ k, Rc gT (Crun gs (Istmt :: k)) (Crun (scopeS sx372) (IcalledH (msk sx372.1 sn373) (gT.1 (sx372.1 0) - 148) wx32 :: k)) := fun k => Rc.go1 (hr385 k) (sc_y wx32 sn373 (by as_aux_lemma => omega))
                              have sv397 : z387.toInt = (((gT.1 (sx372.1 0) - 148).toNat : Nat) : Int) := by as_aux_lemma => omega
                              have rl398 : RelM V391 L bq gn gT (scopeS sx372) (gs.2.1 2) := RelM.sc rl395
                              have fz399 := RelM.rg rl398
                              have r400 : 0 ≤ ((V391 0 8)).toInt ∧ ((V391 0 8)).toInt ≤ 70000 := hMV391 0 8
                              have ps401 : (scopeS sx372).1 0 = sx372.1 0 + 1 := rfl
                              refine va_iast (D := D) (i := z5) (x := z387) hx hb hK hP hD hS 15 14 rfl rfl (i_in (a := z5.toInt) rfl (by as_aux_lemma => (first | exact om_aa704d15899a r2.1 r2.2 hz3 r4.1 r4.2 hz5 f7 | omega))) dX12_toldComponent_145 (fun H locs hP hD hS => ?_)
                              obtain ⟨V402, hV402⟩ : ∃ z, z = up2 V391 22 (Int32.toNatClampNeg z5) z387 := ⟨_, rfl⟩
                              have hP : va_P D vwCl (mw ad kk ks.1 V402 L) H := by rw [hV402]; exact hP
                              have hD : va_D A (mw ad kk ks.1 V402 L) := by rw [hV402]; exact hD
                              have hMV402 : rgd bM V402 := hMV391.put hV402 (i_full _)
                              have agV402 : agr [(0, 7), (0, 8), (0, 48), (0, 50), (0, 51), (0, 52)] [15, 19, 20, 21, 22, 23, 24, 25, 26, 27, 28, 29, 30, 31, 32, 33, 34, 35, 36, 37, 38, 45, 46, 47, 53] V V402 := agV391.up hV402 rfl
                              have J403 : ∀ (V404 : Vf) (L405 : Lf) (H : Heap) (locs : List Loc) (ls : Array Slot), agL [15, 19, 20, 21, 22, 23, 24, 25, 26, 27, 28, 29, 30, 31, 32, 33, 34, 35, 36, 37, 38, 45, 46, 47, 53] L L405 → agr [(0, 7), (0, 8)] [23, 24, 35, 36, 37, 38] V402 V404 → rgd bM V404 → (((V404 0 8).toInt = 0 ∧ ∃ (s1 s0 : St) (m1 : Nat) (c1 : Int) (ca1 ra1 : Nat), (∀ k, Rc gT (Crun gs (Istmt :: k)) (Crun s1 (IwhenI m1 c1 (wx32) [ra1, ca1] :: k))) ∧ RelM V404 L405 bq gn gT s1 (gs.2.1 2) ∧ keepS (scopeS s0) 0 s1 ∧ s1.2.1 2 = gs.2.1 2 ∧ s1.2.2.1 = gs.2.2.1 ∧ gs.1 0 + 1 ≤ s1.1 0 ∧ (keepC gs s1 ∧ keepL gs s1) ∧ BTm V404 21 gc m1 ∧ (V404 22 gc).toInt = ((c1.toNat : Nat) : Int) ∧ (V404 23 gc).toInt + 1 = ((ca1 : Nat) : Int) ∧ (V404 24 gc).toInt = ((ra1 : Nat) : Int)) ∨ (1 ≤ (V404 0 8).toInt ∧ ∀ k, Rc gT (Crun gs (Istmt :: k)) (Cbad (V404 0 8).toInt))) → ((V404 0 8).toInt = 0 → CNm V404 bq gs) → ((V404 0 8).toInt = 0 → CEm V404 bq gs) → (V404 0 48).toInt ≤ 8000 → (V404 0 48).toInt = (V 0 48).toInt → (V404 0 12).toInt = (V 0 12).toInt → (RoV 19 bq V V404) → (RoV 35 bq V V404) → (RoV 37 bq V V404) → (RoL 20 24 bq L L405) → (RoL 36 20 bq L L405) → (RoL 38 20 bq L L405) → va_P D vwCl (mw ad kk ks.1 V404 L405) H → va_D A (mw ad kk ks.1 V404 L405) → va_S A s.heap H locs → lv_has ls 5 [(4, .int y46), (2, .long z25), (1, .int z5), (0, .ref (ad 0))] → W p l e r_s_toldComponentA s m ([.ref (ad 0)] : List Value).toArray below meth c H locs 0 0 (MQ below (q_s_toldComponentA D ks ad kk V L  bq gn gT gs A) ([.ref (ad 0)] : List Value).toArray s 0 0 A) (F0 m 202 ls []) := by
                                as_aux_lemma =>
                                (try clear ps401); (try clear fz399); (try clear rl398); (try clear hr396); (try clear hr385); (try clear ps383); (try clear fz381); (try clear hr380); (try clear fz358); (try clear ps357); (try clear hr356); (try clear kd355); (try clear rl344); (try clear fz39); (try clear ps38); (try clear hr37); (try clear fz21); (try clear ps20); (try clear hr19); (try clear hr18)
                                intro V404 L405 H locs ls alL405 ajV404 hMV404 xJ403_0 xJ403_1 xJ403_2 xJ403_3 xJ403_4 xJ403_5 xJ403_6 xJ403_7 xJ403_8 xJ403_9 xJ403_10 xJ403_11 hP hD hS hl
                                have agV404 : agr [(0, 7), (0, 8), (0, 48), (0, 50), (0, 51), (0, 52)] [15, 19, 20, 21, 22, 23, 24, 25, 26, 27, 28, 29, 30, 31, 32, 33, 34, 35, 36, 37, 38, 45, 46, 47, 53] V V404 := agV402.tr ajV404 (by decide) (by decide)
                                have pq406 : (V404 0 48).toInt = ((V 0 48)).toInt := congrArg Int32.toInt ((ajV404 0 48 rfl).trans ((up2_o hV402 (by decide)).trans ((ajV391 0 48 rfl).trans ((ajV369 0 48 rfl).trans ((ajV350 0 48 rfl).trans ((ajV47 0 48 rfl).trans ((ajV42 0 48 rfl).trans ((ajV29 0 48 rfl).trans (ajV13 0 48 rfl)))))))))
                                have pq407 : (V404 0 12).toInt = ((V 0 12)).toInt := congrArg Int32.toInt ((ajV404 0 12 rfl).trans ((up2_o hV402 (by decide)).trans ((ajV391 0 12 rfl).trans ((ajV369 0 12 rfl).trans ((ajV350 0 12 rfl).trans ((ajV47 0 12 rfl).trans ((ajV42 0 12 rfl).trans ((ajV29 0 12 rfl).trans (ajV13 0 12 rfl)))))))))
                                rcases xJ403_0 with ⟨f7, s1, s0, m1, c1, ca1, ra1, h1, r1, k1, t1, w1, g1, q1, b1, d1, e1, i1⟩ | ⟨f7, h1⟩
                                · skip
                                  have fz408 := RelM.rg r1
                                  have r409 : 0 ≤ ((V404 0 8)).toInt ∧ ((V404 0 8)).toInt ≤ 70000 := hMV404 0 8
                                  refine lv_aload_n hx hb dX12_toldComponent_202 rfl (lv_at hl 3 rfl) ?_
                                  refine va_get (D := D) (ci := 12) (v := .ref (ad 25)) (C := RX12) (T := TX12) (N := 100) hx hb hg inX12 hown hK hP 0 rfl rfl 25 (by decide) (hg _ w1731) (fun _ h9 => h9) rfl dX12_toldComponent_203 ?_
                                  refine lv_iload_n hx hb dX12_toldComponent_206 rfl (lv_at hl 2 rfl) ?_
                                  refine lv_iconst (v := (-1)) hx hb dX12_toldComponent_207 (by decide) ?_
                                  refine va_iast (D := D) (i := z5) (x := (-1)) hx hb hK hP hD hS 18 17 rfl rfl (i_in (a := z5.toInt) rfl (by as_aux_lemma => (first | exact om_aa704d15899a r2.1 r2.2 hz3 r4.1 r4.2 hz5 f7 | omega))) dX12_toldComponent_208 (fun H locs hP hD hS => ?_)
                                  obtain ⟨V410, hV410⟩ : ∃ z, z = up2 V404 25 (Int32.toNatClampNeg z5) (-1) := ⟨_, rfl⟩
                                  have hP : va_P D vwCl (mw ad kk ks.1 V410 L405) H := by rw [hV410]; exact hP
                                  have hD : va_D A (mw ad kk ks.1 V410 L405) := by rw [hV410]; exact hD
                                  have hMV410 : rgd bM V410 := hMV404.put hV410 (show (-1) ≤ Int32.toInt (-1) ∧ Int32.toInt (-1) ≤ 11 from by decide)
                                  have agV410 : agr [(0, 7), (0, 8), (0, 48), (0, 50), (0, 51), (0, 52)] [15, 19, 20, 21, 22, 23, 24, 25, 26, 27, 28, 29, 30, 31, 32, 33, 34, 35, 36, 37, 38, 45, 46, 47, 53] V V410 := agV404.up hV410 rfl
                                  refine lv_aload_n hx hb dX12_toldComponent_209 rfl (lv_at hl 3 rfl) ?_
                                  refine lv_bipush (v := 7) hx hb dX12_toldComponent_210 (by decide) ?_
                                  have rl411 : RelM V410 L405 bq gn gT s1 (gs.2.1 2) := RelM.ag r1 (show agr [] [25] V404 V410 from (agr.up agr.rf hV410 rfl)) (by decide) (show agL [] L405 L405 from agL.rf) (by decide)
                                  have r412 : Int32.toInt 7 = 7 := by decide
                                  refine gA_int (gA_runV (As := [.int 7]) (rest := []) (ci := 12) (q0 := 0) hx hb hml hown hg hP hD hK hS hA hnw hgk (s_hasWordA l D ks H.size ad kk V410 L405 7 (bq) (gn) (gT) (s1) ((gs.2.1 2)) hMV410 (by decide) rl411) w2051 w2053 w90 w172 w2054 rfl rfl hdV_yX12_hasWord ⟨Nat.le_of_ble_eq_true rfl, Nat.le_of_ble_eq_true rfl⟩ rfl hl.1 rfl (Nat.le_of_ble_eq_true rfl) dX12_toldComponent_212 ⟨Nat.le_of_ble_eq_true rfl, Nat.le_of_ble_eq_true rfl⟩) hP hD hK hS hA (fun z413 u414 H locs w415 hP hD hK hS => ?_)
                                  obtain ⟨V417, L418⟩ := u414
                                  obtain ⟨hMV417, ajV417, axL418, rgz413, t416⟩ := w415
                                  have axL418 : L405 = L418 := Eq.symm axL418
                                  subst axL418
                                  replace hP : va_P D vwCl (mw ad kk ks.1 V417 L405) H := hP
                                  replace hD : va_D A (mw ad kk ks.1 V417 L405) := hD
                                  replace hMV417 : rgd bM V417 := hMV417
                                  replace ajV417 : agr [(0, 7)] [] V410 V417 := ajV417
                                  have agV417 : agr [(0, 7), (0, 8), (0, 48), (0, 50), (0, 51), (0, 52)] [15, 19, 20, 21, 22, 23, 24, 25, 26, 27, 28, 29, 30, 31, 32, 33, 34, 35, 36, 37, 38, 45, 46, 47, 53] V V417 := agV410.tr ajV417 (by decide) (by decide)
                                  replace rgz413 : 0 ≤ z413.toInt ∧ z413.toInt ≤ 1 := rgz413
                                  replace t416 : (z413.toInt = 1 ∧ (gT).1 ((s1).1 0) = 128 + (Int32.toInt 7) ∧ RelM V417 L405 (bq) (gn) (gT) (nx (s1) 1) ((gs.2.1 2))) ∨ (z413.toInt = 0 ∧ (gT).1 ((s1).1 0) ≠ 128 + (Int32.toInt 7) ∧ RelM V417 L405 (bq) (gn) (gT) (s1) ((gs.2.1 2))) := t416
                                  rcases t416 with ⟨q419, h420, rl421⟩ | ⟨q419, h420, rl421⟩
                                  · skip
                                    have kd422 : gT.1 (s1.1 0) = 135 := h420.trans (by decide)
                                    have hr423 : ∀ k, Rc gT (Crun gs (Istmt :: k)) (Crun (nx s1 1) (IwhenS m1 c1 wx32 [ra1, ca1] :: k)) := fun k => Rc.go1 (h1 k) (when_y m1 c1 wx32 [ra1, ca1] kd422)
                                    have ps424 : (nx s1 1).1 0 = s1.1 0 + 1 := rfl
                                    have fz425 := RelM.rg rl421
                                    have pq426 : (V417 0 8).toInt = ((V404 0 8)).toInt := congrArg Int32.toInt ((ajV417 0 8 rfl).trans (up2_o hV410 (by decide)))
                                    refine lv_if_eq (tgt := 262) hx hb dX12_toldComponent_215 (by decide) (fun c427 => ?_) (fun c427 => ?_)
                                    · skip
                                      have f428 : z413.toInt = 0 := b_eq rfl (by decide) c427
                                      exfalso; (first | exact om_495ee03a60ae q419 f428 | omega)
                                    · skip
                                      have f429 : z413.toInt ≠ 0 := b_neq rfl (by decide) c427
                                      refine lv_aload_n hx hb dX12_toldComponent_218 rfl (lv_at hl 3 rfl) ?_
                                      refine va_get (D := D) (ci := 12) (v := .ref (ad 25)) (C := RX12) (T := TX12) (N := 100) hx hb hg inX12 hown hK hP 0 rfl rfl 25 (by decide) (hg _ w1731) (fun _ h9 => h9) rfl dX12_toldComponent_219 ?_
                                      refine lv_iload_n hx hb dX12_toldComponent_222 rfl (lv_at hl 2 rfl) ?_
                                      refine lv_aload_n hx hb dX12_toldComponent_223 rfl (lv_at hl 3 rfl) ?_
                                      refine lv_aload_n hx hb dX12_toldComponent_224 rfl (lv_at hl 3 rfl) ?_
                                      refine va_get (D := D) (ci := 12) (v := .ref (ad 17)) (C := RX12) (T := TX12) (N := 100) hx hb hg inX12 hown hK hP 0 rfl rfl 17 (by decide) (hg _ w1723) (fun _ h9 => h9) rfl dX12_toldComponent_225 ?_
                                      refine lv_bipush (v := 12) hx hb dX12_toldComponent_228 (by decide) ?_
                                      refine lv_aload_n hx hb dX12_toldComponent_230 rfl (lv_at hl 3 rfl) ?_
                                      refine va_get (D := D) (ci := 12) (v := .int (V417 0 12)) (C := RX12) (T := TX12) (N := 100) hx hb hg inX12 hown hK hP 0 rfl rfl 12 (by decide) (hg _ w1718) (fun _ h9 => h9) rfl dX12_toldComponent_231 ?_
                                      refine g_top (v := (V 0 12)) ((ajV417 0 12 rfl).trans ((up2_o hV410 (by decide)).trans ((ajV404 0 12 rfl).trans ((up2_o hV402 (by decide)).trans ((ajV391 0 12 rfl).trans ((ajV369 0 12 rfl).trans ((ajV350 0 12 rfl).trans ((ajV47 0 12 rfl).trans ((ajV42 0 12 rfl).trans ((ajV29 0 12 rfl).trans (ajV13 0 12 rfl))))))))))) ?_
                                      refine lv_imul hx hb dX12_toldComponent_234 ?_
                                      refine lv_topi (fun z430 ez430 => ?_)
                                      have hz430 : z430.toInt = 12 * ((V 0 12)).toInt := i_mul ez430 (by decide) rfl (by as_aux_lemma => (first | exact om_630bd6ee60c3 r2.1 r2.2 | omega))
                                      refine lv_aload_n hx hb dX12_toldComponent_235 rfl (lv_at hl 3 rfl) ?_
                                      refine va_get (D := D) (ci := 12) (v := .ref (ad 16)) (C := RX12) (T := TX12) (N := 100) hx hb hg inX12 hown hK hP 0 rfl rfl 16 (by decide) (hg _ w1722) (fun _ h9 => h9) rfl dX12_toldComponent_236 ?_
                                      refine lv_aload_n hx hb dX12_toldComponent_239 rfl (lv_at hl 3 rfl) ?_
                                      refine va_get (D := D) (ci := 12) (v := .int (V417 0 12)) (C := RX12) (T := TX12) (N := 100) hx hb hg inX12 hown hK hP 0 rfl rfl 12 (by decide) (hg _ w1718) (fun _ h9 => h9) rfl dX12_toldComponent_240 ?_
                                      refine g_top (v := (V 0 12)) ((ajV417 0 12 rfl).trans ((up2_o hV410 (by decide)).trans ((ajV404 0 12 rfl).trans ((up2_o hV402 (by decide)).trans ((ajV391 0 12 rfl).trans ((ajV369 0 12 rfl).trans ((ajV350 0 12 rfl).trans ((ajV47 0 12 rfl).trans ((ajV42 0 12 rfl).trans ((ajV29 0 12 rfl).trans (ajV13 0 12 rfl))))))))))) ?_
                                      refine va_iald (D := D) (i := (V 0 12)) hx hb hK hP 9 8 rfl rfl (i_in (a := ((V 0 12)).toInt) rfl (by as_aux_lemma => (first | exact om_8367a84723c7 r2.1 r2.2 | omega))) dX12_toldComponent_243 ?_
                                      refine g_top (v := (V 16 (Int32.toNatClampNeg (V 0 12)))) ((ajV417 16 (Int32.toNatClampNeg (V 0 12)) rfl).trans ((up2_o hV410 (by decide)).trans ((ajV404 16 (Int32.toNatClampNeg (V 0 12)) rfl).trans ((up2_o hV402 (by decide)).trans ((ajV391 16 (Int32.toNatClampNeg (V 0 12)) rfl).trans ((ajV369 16 (Int32.toNatClampNeg (V 0 12)) rfl).trans ((ajV350 16 (Int32.toNatClampNeg (V 0 12)) rfl).trans ((ajV47 16 (Int32.toNatClampNeg (V 0 12)) rfl).trans ((ajV42 16 (Int32.toNatClampNeg (V 0 12)) rfl).trans ((ajV29 16 (Int32.toNatClampNeg (V 0 12)) rfl).trans (ajV13 16 (Int32.toNatClampNeg (V 0 12)) rfl))))))))))) ?_
                                      have r431 : 0 ≤ ((V 16 (Int32.toNatClampNeg (V 0 12)))).toInt ∧ ((V 16 (Int32.toNatClampNeg (V 0 12)))).toInt ≤ 12 := hMV 16 (Int32.toNatClampNeg (V 0 12))
                                      have pq432 : (V417 16 bq).toInt = ((V 16 bq)).toInt := congrArg Int32.toInt ((ajV417 16 bq rfl).trans ((up2_o hV410 (by decide)).trans ((ajV404 16 bq rfl).trans ((up2_o hV402 (by decide)).trans ((ajV391 16 bq rfl).trans ((ajV369 16 bq rfl).trans ((ajV350 16 bq rfl).trans ((ajV47 16 bq rfl).trans ((ajV42 16 bq rfl).trans ((ajV29 16 bq rfl).trans (ajV13 16 bq rfl)))))))))))
                                      have r433 : 0 ≤ ((V 16 bq)).toInt ∧ ((V 16 bq)).toInt ≤ 12 := hMV 16 bq
                                      refine gA_int (gA_runV (As := [.ref (ad 17), .int z430, .int (V 16 (Int32.toNatClampNeg (V 0 12)))]) (rest := [.int z5, .ref (ad 25)]) (ci := 12) (q0 := 0) hx hb hml hown hg hP hD hK hS hA hnw hgk (s_named1 l D ks H.size ad kk V417 L405 z430 (V 16 (Int32.toNatClampNeg (V 0 12))) (bq) (gn) (gT) ((nx s1 1)) ((gs.2.1 2)) hMV417 (by as_aux_lemma => (first | exact om_cbb4348e7513 r2.1 r2.2 hz430 | omega)) (by as_aux_lemma => (first | exact om_9b5a1bfccef0 q16 r433.1 r433.2 | omega)) rl421 (show z430.toInt = ((12 * (bq) : Nat) : Int) from by as_aux_lemma => (first | exact om_de52539999e9 rg0.2.2.2.1 hz430 | omega)) (show ((V 16 (Int32.toNatClampNeg (V 0 12)))).toInt = (V417 16 (bq)).toInt from by as_aux_lemma => (first | exact om_aadb8b99336c q16 pq432 | omega))) w2063 w2065 w93 w172 w2066 rfl rfl hdV_yX12_named ⟨Nat.le_of_ble_eq_true rfl, Nat.le_of_ble_eq_true rfl⟩ rfl hl.1 rfl (Nat.le_of_ble_eq_true rfl) dX12_toldComponent_244 ⟨Nat.le_of_ble_eq_true rfl, Nat.le_of_ble_eq_true rfl⟩) hP hD hK hS hA (fun z434 u435 H locs w436 hP hD hK hS => ?_)
                                      obtain ⟨V440, L441⟩ := u435
                                      obtain ⟨hMV440, ajV440, axL441, rgz434, t437, t438, t439⟩ := w436
                                      have axL441 : L405 = L441 := Eq.symm axL441
                                      subst axL441
                                      replace hP : va_P D vwCl (mw ad kk ks.1 V440 L405) H := hP
                                      replace hD : va_D A (mw ad kk ks.1 V440 L405) := hD
                                      replace hMV440 : rgd bM V440 := hMV440
                                      replace ajV440 : agr [(0, 7), (0, 8)] [] V417 V440 := ajV440
                                      have agV440 : agr [(0, 7), (0, 8), (0, 48), (0, 50), (0, 51), (0, 52)] [15, 19, 20, 21, 22, 23, 24, 25, 26, 27, 28, 29, 30, 31, 32, 33, 34, 35, 36, 37, 38, 45, 46, 47, 53] V V440 := agV417.tr ajV440 (by decide) (by decide)
                                      replace rgz434 : (-1) ≤ z434.toInt ∧ z434.toInt ≤ 47 := rgz434
                                      replace t437 : KmN (look (gT) ((nx s1 1)) (((nx s1 1)).2.1 1)) (V440 0 8).toInt (fun f9 => RelM V440 L405 (bq) (gn) (gT) (nx ((nx s1 1)) 1) ((gs.2.1 2)) ∧ z434.toInt = ((f9 : Nat) : Int) ∧ f9 < 12) := t437
                                      replace t438 : z434.toInt < ((V 16 (Int32.toNatClampNeg (V 0 12)))).toInt := t438
                                      replace t439 : Imp ((V440 0 8).toInt = 0) (0 ≤ z434.toInt) := t439
                                      have r442 : 0 ≤ ((V440 0 8)).toInt ∧ ((V440 0 8)).toInt ≤ 70000 := hMV440 0 8
                                      rcases t437 with ⟨q443, fx444, h445, rl446, hf447, hb448⟩ | ⟨q443, h445⟩
                                      · skip
                                        have hr449 : ∀ k, Rc gT (Crun gs (Istmt :: k)) (Crun (nx (nx s1 1) 1) (IwhenN m1 c1 wx32 [fx444 + 1, ra1, ca1] :: k)) := fun k => Rc.go1 (hr423 k) (wS_y h445)
                                        have ps450 : (nx (nx s1 1) 1).1 0 = (nx s1 1).1 0 + 1 := rfl
                                        have fz451 := RelM.rg rl446
                                        refine va_iast (D := D) (i := z5) (x := z434) hx hb hK hP hD hS 18 17 rfl rfl (i_in (a := z5.toInt) rfl (by first | exact ⟨z5r, z5s⟩ | omega | ((try (have i_t439 := Imp.go t439 (by omega))); omega))) dX12_toldComponent_247 (fun H locs hP hD hS => ?_)
                                        obtain ⟨V452, hV452⟩ : ∃ z, z = up2 V440 25 (Int32.toNatClampNeg z5) z434 := ⟨_, rfl⟩
                                        have hP : va_P D vwCl (mw ad kk ks.1 V452 L405) H := by rw [hV452]; exact hP
                                        have hD : va_D A (mw ad kk ks.1 V452 L405) := by rw [hV452]; exact hD
                                        have hMV452 : rgd bM V452 := hMV440.put hV452 (show (-1) ≤ z434.toInt ∧ z434.toInt ≤ 11 from by as_aux_lemma => first | exact om_990cc15e8b77 q16 r433.2 rgz434.1 t438 | first | omega | ((try (have i_t439 := Imp.go t439 (by omega))); omega))
                                        have agV452 : agr [(0, 7), (0, 8), (0, 48), (0, 50), (0, 51), (0, 52)] [15, 19, 20, 21, 22, 23, 24, 25, 26, 27, 28, 29, 30, 31, 32, 33, 34, 35, 36, 37, 38, 45, 46, 47, 53] V V452 := agV440.up hV452 rfl
                                        refine lv_aload_n hx hb dX12_toldComponent_248 rfl (lv_at hl 3 rfl) ?_
                                        refine va_get (D := D) (ci := 12) (v := .ref (ad 26)) (C := RX12) (T := TX12) (N := 100) hx hb hg inX12 hown hK hP 0 rfl rfl 26 (by decide) (hg _ w1732) (fun _ h9 => h9) rfl dX12_toldComponent_249 ?_
                                        refine lv_iload_n hx hb dX12_toldComponent_252 rfl (lv_at hl 2 rfl) ?_
                                        refine lv_aload_n hx hb dX12_toldComponent_253 rfl (lv_at hl 3 rfl) ?_
                                        refine lv_iconst (v := 0) hx hb dX12_toldComponent_254 (by decide) ?_
                                        refine lv_ldcw (v := 999999999) hx hb hown (hg _ w2083) dX12_toldComponent_255 ?_
                                        have rl453 : RelM V452 L405 bq gn gT (nx (nx s1 1) 1) (gs.2.1 2) := RelM.ag rl446 (show agr [] [25] V440 V452 from (agr.up agr.rf hV452 rfl)) (by decide) (show agL [] L405 L405 from agL.rf) (by decide)
                                        have r454 : Int32.toInt 999999999 = 999999999 := by decide
                                        refine gA_int (gA_runV (As := [.int 0, .int 999999999]) (rest := [.int z5, .ref (ad 26)]) (ci := 12) (q0 := 0) hx hb hml hown hg hP hD hK hS hA hnw hgk (s_takeNumberA l D ks H.size ad kk V452 L405 0 999999999 (bq) (gn) (gT) ((nx (nx s1 1) 1)) ((gs.2.1 2)) hMV452 rl453 (show -1 ≤ (Int32.toInt 999999999) ∧ (Int32.toInt 999999999) ≤ 999999999 from by as_aux_lemma => first | exact om_0c238ee0b847 r454 | first | omega | ((try (have i_t439 := Imp.go t439 (by omega))); omega)) (show 0 ≤ (Int32.toInt 0) from by as_aux_lemma => first | exact om_1531b20f57e1 r8 | first | omega | ((try (have i_t439 := Imp.go t439 (by omega))); omega))) w2084 w2086 w98 w172 w2087 rfl rfl hdV_yX12_takeNumber ⟨Nat.le_of_ble_eq_true rfl, Nat.le_of_ble_eq_true rfl⟩ rfl hl.1 rfl (Nat.le_of_ble_eq_true rfl) dX12_toldComponent_258 ⟨Nat.le_of_ble_eq_true rfl, Nat.le_of_ble_eq_true rfl⟩) hP hD hK hS hA (fun z455 u456 H locs w457 hP hD hK hS => ?_)
                                        obtain ⟨V462, L463⟩ := u456
                                        obtain ⟨hMV462, ajV462, axL463, t458, t459, t460, t461⟩ := w457
                                        have axL463 : L405 = L463 := Eq.symm axL463
                                        subst axL463
                                        replace hP : va_P D vwCl (mw ad kk ks.1 V462 L405) H := hP
                                        replace hD : va_D A (mw ad kk ks.1 V462 L405) := hD
                                        replace hMV462 : rgd bM V462 := hMV462
                                        replace ajV462 : agr [(0, 7), (0, 8)] [] V452 V462 := ajV462
                                        have agV462 : agr [(0, 7), (0, 8), (0, 48), (0, 50), (0, 51), (0, 52)] [15, 19, 20, 21, 22, 23, 24, 25, 26, 27, 28, 29, 30, 31, 32, 33, 34, 35, 36, 37, 38, 45, 46, 47, 53] V V462 := agV452.tr ajV462 (by decide) (by decide)
                                        replace t458 : ((V462 0 8).toInt = 0 ∧ (gT).1 (((nx (nx s1 1) 1)).1 0) = 2 ∧ (Int32.toInt 0) ≤ ((gT).2.1 (((nx (nx s1 1) 1)).1 0)).toInt ∧ ((gT).2.1 (((nx (nx s1 1) 1)).1 0)).toInt ≤ (Int32.toInt 999999999) ∧ RelM V462 L405 (bq) (gn) (gT) (nx ((nx (nx s1 1) 1)) 1) ((gs.2.1 2))) ∨ (1 ≤ (V462 0 8).toInt ∧ (((gT).1 (((nx (nx s1 1) 1)).1 0) ≠ 2 ∧ (V462 0 8).toInt = 1 + 16 * (gT).2.2 (((nx (nx s1 1) 1)).1 0)) ∨ ((gT).1 (((nx (nx s1 1) 1)).1 0) = 2 ∧ (((gT).2.1 (((nx (nx s1 1) 1)).1 0)).toInt < (Int32.toInt 0) ∨ (Int32.toInt 999999999) < ((gT).2.1 (((nx (nx s1 1) 1)).1 0)).toInt) ∧ (V462 0 8).toInt = 4 + 16 * (gT).2.2 (((nx (nx s1 1) 1)).1 0)))) := t458
                                        replace t459 : Imp ((V462 0 8).toInt = 0) ((Int32.toInt 0) ≤ z455.toInt ∧ z455.toInt ≤ (Int32.toInt 999999999)) := t459
                                        replace t460 : Imp (1 ≤ (V462 0 8).toInt) (z455.toInt = 0) := t460
                                        replace t461 : Imp ((V462 0 8).toInt = 0) (z455.toInt = ((gT).2.1 (((nx (nx s1 1) 1)).1 0)).toInt) := t461
                                        have r464 : 0 ≤ ((V462 0 8)).toInt ∧ ((V462 0 8)).toInt ≤ 70000 := hMV462 0 8
                                        rcases t458 with ⟨q465, h466, h467, h468, rl469⟩ | ⟨q465, ⟨h466, rl469⟩ | ⟨h466, h467, rl469⟩⟩
                                        · skip
                                          have hr470 : ∀ k, Rc gT (Crun gs (Istmt :: k)) (Crun (nx (nx (nx s1 1) 1) 1) (Itake 123 :: IaddNm m1 c1 wx32 [(gT.2.1 ((nx (nx s1 1) 1).1 0)).toInt.toNat, fx444 + 1, ra1, ca1] :: Imember :: k)) := fun k => Rc.go1 (hr449 k) (vw_y h466 (by as_aux_lemma => omega) (by as_aux_lemma => omega))
                                          have nw471 := Imp.go t461 q465
                                          have ps472 : (nx (nx (nx s1 1) 1) 1).1 0 = (nx (nx s1 1) 1).1 0 + 1 := rfl
                                          have fz473 := RelM.rg rl469
                                          have nr474 := Imp.go t459 q465
                                          refine va_iast (D := D) (i := z5) (x := z455) hx hb hK hP hD hS 19 18 rfl rfl (i_in (a := z5.toInt) rfl (by first | exact ⟨z5r, z5s⟩ | omega | ((try (have i_t460 := Imp.go t460 (by omega))); (try (have i_t459 := Imp.go t459 (by (first | exact om_b1799fcf2d63 r464.1 q465 | omega)))); (try (have i_t439 := Imp.go t439 (by omega))); (try (have i_t439 := Imp.go t439 (by omega))); (try (have i_t459 := Imp.go t459 (by (first | exact om_b1799fcf2d63 r464.1 q465 | omega)))); (try (have i_t460 := Imp.go t460 (by omega))); omega))) dX12_toldComponent_261 (fun H locs hP hD hS => ?_)
                                          obtain ⟨V475, hV475⟩ : ∃ z, z = up2 V462 26 (Int32.toNatClampNeg z5) z455 := ⟨_, rfl⟩
                                          have hP : va_P D vwCl (mw ad kk ks.1 V475 L405) H := by rw [hV475]; exact hP
                                          have hD : va_D A (mw ad kk ks.1 V475 L405) := by rw [hV475]; exact hD
                                          have hMV475 : rgd bM V475 := hMV462.put hV475 (i_full _)
                                          have agV475 : agr [(0, 7), (0, 8), (0, 48), (0, 50), (0, 51), (0, 52)] [15, 19, 20, 21, 22, 23, 24, 25, 26, 27, 28, 29, 30, 31, 32, 33, 34, 35, 36, 37, 38, 45, 46, 47, 53] V V475 := agV462.up hV475 rfl
                                          have pq476 : (V475 0 48).toInt = ((V 0 48)).toInt := congrArg Int32.toInt ((up2_o hV475 (by decide)).trans ((ajV462 0 48 rfl).trans ((up2_o hV452 (by decide)).trans ((ajV440 0 48 rfl).trans ((ajV417 0 48 rfl).trans ((up2_o hV410 (by decide)).trans ((ajV404 0 48 rfl).trans ((up2_o hV402 (by decide)).trans ((ajV391 0 48 rfl).trans ((ajV369 0 48 rfl).trans ((ajV350 0 48 rfl).trans ((ajV47 0 48 rfl).trans ((ajV42 0 48 rfl).trans ((ajV29 0 48 rfl).trans (ajV13 0 48 rfl)))))))))))))))
                                          have pq477 : (V475 0 12).toInt = ((V 0 12)).toInt := congrArg Int32.toInt ((up2_o hV475 (by decide)).trans ((ajV462 0 12 rfl).trans ((up2_o hV452 (by decide)).trans ((ajV440 0 12 rfl).trans ((ajV417 0 12 rfl).trans ((up2_o hV410 (by decide)).trans ((ajV404 0 12 rfl).trans ((up2_o hV402 (by decide)).trans ((ajV391 0 12 rfl).trans ((ajV369 0 12 rfl).trans ((ajV350 0 12 rfl).trans ((ajV47 0 12 rfl).trans ((ajV42 0 12 rfl).trans ((ajV29 0 12 rfl).trans (ajV13 0 12 rfl)))))))))))))))
                                          have rl478 : RelM V475 L405 bq gn gT (nx (nx (nx s1 1) 1) 1) (gs.2.1 2) := RelM.ag rl469 (show agr [] [26] V462 V475 from (agr.up agr.rf hV475 rfl)) (by decide) (show agL [] L405 L405 from agL.rf) (by decide)
                                          have hj479 := d1
                                          have hj480 := e1
                                          have hj481 := i1
                                          have pq482 : (V475 22 gc).toInt = ((V402 22 gc)).toInt := congrArg Int32.toInt ((up2_o hV475 (by decide)).trans ((ajV462 22 gc rfl).trans ((up2_o hV452 (by decide)).trans ((ajV440 22 gc rfl).trans ((ajV417 22 gc rfl).trans ((up2_o hV410 (by decide)).trans (ajV404 22 gc rfl)))))))
                                          have pq483 : (V404 22 gc).toInt = ((V402 22 gc)).toInt := congrArg Int32.toInt (ajV404 22 gc rfl)
                                          have pq484 : (V475 23 gc).toInt = ((V404 23 gc)).toInt := congrArg Int32.toInt ((up2_o hV475 (by decide)).trans ((ajV462 23 gc rfl).trans ((up2_o hV452 (by decide)).trans ((ajV440 23 gc rfl).trans ((ajV417 23 gc rfl).trans (up2_o hV410 (by decide)))))))
                                          have pq485 : (V475 24 gc).toInt = ((V404 24 gc)).toInt := congrArg Int32.toInt ((up2_o hV475 (by decide)).trans ((ajV462 24 gc rfl).trans ((up2_o hV452 (by decide)).trans ((ajV440 24 gc rfl).trans ((ajV417 24 gc rfl).trans (up2_o hV410 (by decide)))))))
                                          have r486 : 0 ≤ ((V404 24 gc)).toInt ∧ ((V404 24 gc)).toInt ≤ 9 := hMV404 24 gc
                                          have pq487 : (V475 25 (Int32.toNatClampNeg z5)).toInt = z434.toInt := congrArg Int32.toInt ((up2_o hV475 (by decide)).trans ((ajV462 25 (Int32.toNatClampNeg z5) rfl).trans (up2_s hV452)))
                                          have gv488 : (V475 25 gc).toInt = (V475 25 (Int32.toNatClampNeg z5)).toInt := by rw [kgc]
                                          have pq489 : (V475 26 (Int32.toNatClampNeg z5)).toInt = z455.toInt := congrArg Int32.toInt (up2_s hV475)
                                          have gv490 : (V475 26 gc).toInt = (V475 26 (Int32.toNatClampNeg z5)).toInt := by rw [kgc]
                                          have ps491 : s1.1 0 + 1 ≤ (nx s1 1).1 0 := ((keepS.n1 1)).1
                                          have ps492 : (nx s1 1).1 0 + 1 ≤ (nx (nx s1 1) 1).1 0 := ((keepS.n1 1)).1
                                          have ps493 : (nx (nx s1 1) 1).1 0 + 1 ≤ (nx (nx (nx s1 1) 1) 1).1 0 := ((keepS.n1 1)).1
                                          have cn494 : CNm V410 bq gs := CNm.up (xJ403_1 f7) hV410 (fun q9 => by as_aux_lemma => have h9 := i_clamp (x := z5) rfl (by as_aux_lemma => (first | exact om_89f771ec639b r2.1 hz3 r4.1 hz5 | omega)); unfold rdm at q9; omega)
                                          have cn495 : CNm V440 bq gs := CNm.ag cn494 (show agr [(0, 7), (0, 8)] [] V410 V440 from (agr.tr (agr.tr agr.rf ajV417 (by decide) (by decide)) ajV440 (by decide) (by decide))) (by decide) keepC.rf
                                          have cn496 : CNm V452 bq gs := CNm.up cn495 hV452 (fun q9 => by as_aux_lemma => have h9 := i_clamp (x := z5) rfl (by as_aux_lemma => (first | exact om_89f771ec639b r2.1 hz3 r4.1 hz5 | omega)); unfold rdm at q9; omega)
                                          have cn497 : CNm V462 bq gs := CNm.ag cn496 (show agr [(0, 7), (0, 8)] [] V452 V462 from (agr.tr agr.rf ajV462 (by decide) (by decide))) (by decide) keepC.rf
                                          have cn498 : CNm V475 bq gs := CNm.up cn497 hV475 (fun q9 => by as_aux_lemma => have h9 := i_clamp (x := z5) rfl (by as_aux_lemma => (first | exact om_89f771ec639b r2.1 hz3 r4.1 hz5 | omega)); unfold rdm at q9; omega)
                                          have cd499 : CDm V475 (10000 * bq) gs := CDm.ag (xJ403_2 f7).1 (show agr [(0, 7), (0, 8)] [25, 26] V404 V475 from (agr.up (agr.tr (agr.up (agr.tr (agr.tr (agr.up agr.rf hV410 rfl) ajV417 (by decide) (by decide)) ajV440 (by decide) (by decide)) hV452 rfl) ajV462 (by decide) (by decide)) hV475 rfl)) ⟨rfl, rfl, fun _ => ⟨rfl, rfl, rfl⟩⟩
                                          have re500 : REm V475 bq gs := REm.ag (xJ403_2 f7).2.1 (show agr [(0, 7), (0, 8)] [25, 26] V404 V475 from (agr.up (agr.tr (agr.up (agr.tr (agr.tr (agr.up agr.rf hV410 rfl) ajV417 (by decide) (by decide)) ajV440 (by decide) (by decide)) hV452 rfl) ajV462 (by decide) (by decide)) hV475 rfl)) (fun _ => ⟨rfl, rfl, rfl⟩) keepE.rf rfl
                                          have wm501 : WMm V475 bq gs := WMm.ag (xJ403_2 f7).2.2 (show agr [(0, 7), (0, 8)] [25, 26] V404 V475 from (agr.up (agr.tr (agr.up (agr.tr (agr.tr (agr.up agr.rf hV410 rfl) ajV417 (by decide) (by decide)) ajV440 (by decide) (by decide)) hV452 rfl) ajV462 (by decide) (by decide)) hV475 rfl)) (fun _ => ⟨rfl, rfl, rfl, rfl, rfl⟩) (fun _ _ _ => rfl) rfl
                                          have rw502 : RoV 19 bq V V475 := (fun k hk => ((up2_o hV475 (by decide)).trans ((ajV462 19 k rfl).trans ((up2_o hV452 (by decide)).trans ((ajV440 19 k rfl).trans ((ajV417 19 k rfl).trans ((up2_o hV410 (by decide)).trans (xJ403_6 k hk))))))))
                                          have rw503 : RoV 35 bq V V475 := (fun k hk => ((up2_o hV475 (by decide)).trans ((ajV462 35 k rfl).trans ((up2_o hV452 (by decide)).trans ((ajV440 35 k rfl).trans ((ajV417 35 k rfl).trans ((up2_o hV410 (by decide)).trans (xJ403_7 k hk))))))))
                                          have rw504 : RoV 37 bq V V475 := (fun k hk => ((up2_o hV475 (by decide)).trans ((ajV462 37 k rfl).trans ((up2_o hV452 (by decide)).trans ((ajV440 37 k rfl).trans ((ajV417 37 k rfl).trans ((up2_o hV410 (by decide)).trans (xJ403_8 k hk))))))))
                                          have rw505 : RoL 20 24 bq L L405 := (fun k hk => (xJ403_9 k hk))
                                          have rw506 : RoL 36 20 bq L L405 := (fun k hk => (xJ403_10 k hk))
                                          have rw507 : RoL 38 20 bq L L405 := (fun k hk => (xJ403_11 k hk))
                                          exact J52 V475 L405 H locs ls alL405 (agr.up (agr.tr (agr.up (agr.tr (agr.tr (agr.up (agr.tr (agr.up (agr.tr (agr.tr (agr.tr agr.rf ajV350 (by decide) (by decide)) ajV369 (by decide) (by decide)) ajV391 (by decide) (by decide)) hV402 rfl) ajV404 (by decide) (by decide)) hV410 rfl) ajV417 (by decide) (by decide)) ajV440 (by decide) (by decide)) hV452 rfl) ajV462 (by decide) (by decide)) hV475 rfl) hMV475 (Or.inl ⟨W0 rl478, (nx (nx (nx s1 1) 1) 1), s0, m1, c1, ca1, ra1, fx444 + 1, (gT.2.1 ((nx (nx s1 1) 1).1 0)).toInt.toNat, hr470, rl478, keepS.le (keepS.tr (keepS.tr (keepS.tr (keepS.tr (keepS.rf : keepS (scopeS s0) 0 (scopeS s0)) k1) (keepS.n1 1)) (keepS.n1 1)) (keepS.n1 1)) (by decide), ((((keepS.n1 1)).2.2.1 2 (by decide)).trans ((((keepS.n1 1)).2.2.1 2 (by decide)).trans ((((keepS.n1 1)).2.2.1 2 (by decide)).trans t1))), ((congrArg (fun q9 => q9.1) ((keepS.n1 1)).2.2.2).trans ((congrArg (fun q9 => q9.1) ((keepS.n1 1)).2.2.2).trans ((congrArg (fun q9 => q9.1) ((keepS.n1 1)).2.2.2).trans w1))), (by as_aux_lemma => omega), ⟨(keepC.tr (keepC.tr (keepC.tr q1.1 (keepS.c (keepS.n1 1))) (keepS.c (keepS.n1 1))) (keepS.c (keepS.n1 1))), (show keepL gs (nx (nx (nx s1 1) 1) 1) from fun j9 h9 => ((show ∀ j9, 5 ≤ j9 → (nx (nx (nx s1 1) 1) 1).2.1 j9 = (nx (nx s1 1) 1).2.1 j9 from fun _ _ => rfl) j9 h9).trans ((show keepL gs (nx (nx s1 1) 1) from fun j9 h9 => ((show ∀ j9, 5 ≤ j9 → (nx (nx s1 1) 1).2.1 j9 = (nx s1 1).2.1 j9 from fun _ _ => rfl) j9 h9).trans ((show keepL gs (nx s1 1) from fun j9 h9 => ((show ∀ j9, 5 ≤ j9 → (nx s1 1).2.1 j9 = s1.2.1 j9 from fun _ _ => rfl) j9 h9).trans (q1.2 j9 h9)) j9 h9)) j9 h9))⟩, (BTm.ag b1 (by rw [(up2_fo hV475 (by decide) : V475 21 = V462 21), (funext (fun q => ajV462 21 q rfl) : V462 21 = V452 21), (up2_fo hV452 (by decide) : V452 21 = V440 21), (funext (fun q => ajV440 21 q rfl) : V440 21 = V417 21), (funext (fun q => ajV417 21 q rfl) : V417 21 = V410 21), (up2_fo hV410 (by decide) : V410 21 = V404 21)] : V475 21 = V404 21)), (show (V475 22 gc).toInt = _ from by as_aux_lemma => omega), (show (V475 23 gc).toInt + 1 = _ from by as_aux_lemma => omega), (show (V475 24 gc).toInt = _ from by as_aux_lemma => omega), (show (V475 25 gc).toInt + 1 = _ from by as_aux_lemma => omega), (fun h9 => show (V475 26 gc).toInt = _ from by as_aux_lemma => omega)⟩) (fun _ => cn498) (fun _ => ⟨cd499, re500, wm501⟩) (show (V475 0 48).toInt ≤ 8000 from by as_aux_lemma => first | exact om_17124963473a xJ403_3 pq406 pq476 | first | omega | ((try (have i_t460 := Imp.go t460 (by omega))); (try (have i_t459 := Imp.go t459 (by omega))); (try (have i_t439 := Imp.go t439 (by omega))); (try (have i_t439 := Imp.go t439 (by omega))); (try (have i_t459 := Imp.go t459 (by omega))); (try (have i_t460 := Imp.go t460 (by omega))); omega)) (show (V475 0 48).toInt = (V 0 48).toInt from by as_aux_lemma => first | exact om_570b691c1130 pq476 | first | omega | ((try (have i_t460 := Imp.go t460 (by omega))); (try (have i_t459 := Imp.go t459 (by omega))); (try (have i_t439 := Imp.go t439 (by omega))); (try (have i_t439 := Imp.go t439 (by omega))); (try (have i_t459 := Imp.go t459 (by omega))); (try (have i_t460 := Imp.go t460 (by omega))); omega)) (show (V475 0 12).toInt = (V 0 12).toInt from by as_aux_lemma => first | exact om_570b691c1130 pq477 | first | omega | ((try (have i_t460 := Imp.go t460 (by omega))); (try (have i_t459 := Imp.go t459 (by omega))); (try (have i_t439 := Imp.go t439 (by omega))); (try (have i_t439 := Imp.go t439 (by omega))); (try (have i_t459 := Imp.go t459 (by omega))); (try (have i_t460 := Imp.go t460 (by omega))); omega)) rw502 rw503 rw504 rw505 rw506 rw507 hP hD hS (lv_sub hl [0, 1, 2, 3] rfl)
                                        · skip
                                          have hb508 : ∀ k, Rc gT (Crun gs (Istmt :: k)) (Cbad (V462 0 8).toInt) := fun k => Rc.go1 (hr449 k) ((vw_1 h466).trans (fl_eq rfl rl469))
                                          have nr509 := Imp.go t460 q465
                                          refine va_iast (D := D) (i := z5) (x := z455) hx hb hK hP hD hS 19 18 rfl rfl (i_in (a := z5.toInt) rfl (by first | exact ⟨z5r, z5s⟩ | omega | ((try (have i_t460 := Imp.go t460 (by (first | exact om_f8d8213eda45 q465 | omega)))); (try (have i_t459 := Imp.go t459 (by omega))); (try (have i_t439 := Imp.go t439 (by omega))); (try (have i_t439 := Imp.go t439 (by omega))); (try (have i_t459 := Imp.go t459 (by omega))); (try (have i_t460 := Imp.go t460 (by (first | exact om_f8d8213eda45 q465 | omega)))); omega))) dX12_toldComponent_261 (fun H locs hP hD hS => ?_)
                                          obtain ⟨V510, hV510⟩ : ∃ z, z = up2 V462 26 (Int32.toNatClampNeg z5) z455 := ⟨_, rfl⟩
                                          have hP : va_P D vwCl (mw ad kk ks.1 V510 L405) H := by rw [hV510]; exact hP
                                          have hD : va_D A (mw ad kk ks.1 V510 L405) := by rw [hV510]; exact hD
                                          have hMV510 : rgd bM V510 := hMV462.put hV510 (i_full _)
                                          have agV510 : agr [(0, 7), (0, 8), (0, 48), (0, 50), (0, 51), (0, 52)] [15, 19, 20, 21, 22, 23, 24, 25, 26, 27, 28, 29, 30, 31, 32, 33, 34, 35, 36, 37, 38, 45, 46, 47, 53] V V510 := agV462.up hV510 rfl
                                          have pq511 : (V510 0 48).toInt = ((V 0 48)).toInt := congrArg Int32.toInt ((up2_o hV510 (by decide)).trans ((ajV462 0 48 rfl).trans ((up2_o hV452 (by decide)).trans ((ajV440 0 48 rfl).trans ((ajV417 0 48 rfl).trans ((up2_o hV410 (by decide)).trans ((ajV404 0 48 rfl).trans ((up2_o hV402 (by decide)).trans ((ajV391 0 48 rfl).trans ((ajV369 0 48 rfl).trans ((ajV350 0 48 rfl).trans ((ajV47 0 48 rfl).trans ((ajV42 0 48 rfl).trans ((ajV29 0 48 rfl).trans (ajV13 0 48 rfl)))))))))))))))
                                          have pq512 : (V510 0 12).toInt = ((V 0 12)).toInt := congrArg Int32.toInt ((up2_o hV510 (by decide)).trans ((ajV462 0 12 rfl).trans ((up2_o hV452 (by decide)).trans ((ajV440 0 12 rfl).trans ((ajV417 0 12 rfl).trans ((up2_o hV410 (by decide)).trans ((ajV404 0 12 rfl).trans ((up2_o hV402 (by decide)).trans ((ajV391 0 12 rfl).trans ((ajV369 0 12 rfl).trans ((ajV350 0 12 rfl).trans ((ajV47 0 12 rfl).trans ((ajV42 0 12 rfl).trans ((ajV29 0 12 rfl).trans (ajV13 0 12 rfl)))))))))))))))
                                          have pq513 : (V510 0 8).toInt = ((V462 0 8)).toInt := congrArg Int32.toInt (up2_o hV510 (by decide))
                                          have rw514 : RoV 19 bq V V510 := (fun k hk => ((up2_o hV510 (by decide)).trans ((ajV462 19 k rfl).trans ((up2_o hV452 (by decide)).trans ((ajV440 19 k rfl).trans ((ajV417 19 k rfl).trans ((up2_o hV410 (by decide)).trans (xJ403_6 k hk))))))))
                                          have rw515 : RoV 35 bq V V510 := (fun k hk => ((up2_o hV510 (by decide)).trans ((ajV462 35 k rfl).trans ((up2_o hV452 (by decide)).trans ((ajV440 35 k rfl).trans ((ajV417 35 k rfl).trans ((up2_o hV410 (by decide)).trans (xJ403_7 k hk))))))))
                                          have rw516 : RoV 37 bq V V510 := (fun k hk => ((up2_o hV510 (by decide)).trans ((ajV462 37 k rfl).trans ((up2_o hV452 (by decide)).trans ((ajV440 37 k rfl).trans ((ajV417 37 k rfl).trans ((up2_o hV410 (by decide)).trans (xJ403_8 k hk))))))))
                                          have rw517 : RoL 20 24 bq L L405 := (fun k hk => (xJ403_9 k hk))
                                          have rw518 : RoL 36 20 bq L L405 := (fun k hk => (xJ403_10 k hk))
                                          have rw519 : RoL 38 20 bq L L405 := (fun k hk => (xJ403_11 k hk))
                                          exact J52 V510 L405 H locs ls alL405 (agr.up (agr.tr (agr.up (agr.tr (agr.tr (agr.up (agr.tr (agr.up (agr.tr (agr.tr (agr.tr agr.rf ajV350 (by decide) (by decide)) ajV369 (by decide) (by decide)) ajV391 (by decide) (by decide)) hV402 rfl) ajV404 (by decide) (by decide)) hV410 rfl) ajV417 (by decide) (by decide)) ajV440 (by decide) (by decide)) hV452 rfl) ajV462 (by decide) (by decide)) hV510 rfl) hMV510 (Or.inr ⟨(show 1 ≤ (V510 0 8).toInt from by as_aux_lemma => (first | exact om_e3c391a03e81 q465 pq513 | omega)), (fun k => by rw [show (V510 0 8).toInt = (V462 0 8).toInt from by as_aux_lemma => omega]; exact hb508 k)⟩) (fun h9 => by exfalso; omega) (fun h9 => by exfalso; omega) (show (V510 0 48).toInt ≤ 8000 from by as_aux_lemma => first | exact om_17124963473a xJ403_3 pq406 pq511 | first | omega | ((try (have i_t460 := Imp.go t460 (by omega))); (try (have i_t459 := Imp.go t459 (by omega))); (try (have i_t439 := Imp.go t439 (by omega))); (try (have i_t439 := Imp.go t439 (by omega))); (try (have i_t459 := Imp.go t459 (by omega))); (try (have i_t460 := Imp.go t460 (by omega))); omega)) (show (V510 0 48).toInt = (V 0 48).toInt from by as_aux_lemma => first | exact om_570b691c1130 pq511 | first | omega | ((try (have i_t460 := Imp.go t460 (by omega))); (try (have i_t459 := Imp.go t459 (by omega))); (try (have i_t439 := Imp.go t439 (by omega))); (try (have i_t439 := Imp.go t439 (by omega))); (try (have i_t459 := Imp.go t459 (by omega))); (try (have i_t460 := Imp.go t460 (by omega))); omega)) (show (V510 0 12).toInt = (V 0 12).toInt from by as_aux_lemma => first | exact om_570b691c1130 pq512 | first | omega | ((try (have i_t460 := Imp.go t460 (by omega))); (try (have i_t459 := Imp.go t459 (by omega))); (try (have i_t439 := Imp.go t439 (by omega))); (try (have i_t439 := Imp.go t439 (by omega))); (try (have i_t459 := Imp.go t459 (by omega))); (try (have i_t460 := Imp.go t460 (by omega))); omega)) rw514 rw515 rw516 rw517 rw518 rw519 hP hD hS (lv_sub hl [0, 1, 2, 3] rfl)
                                        · skip
                                          have hb520 : ∀ k, Rc gT (Crun gs (Istmt :: k)) (Cbad (V462 0 8).toInt) := fun k => Rc.go1 (hr449 k) ((vw_4 h466 (by as_aux_lemma => omega)).trans (fl_eq rfl rl469))
                                          have nr521 := Imp.go t460 q465
                                          refine va_iast (D := D) (i := z5) (x := z455) hx hb hK hP hD hS 19 18 rfl rfl (i_in (a := z5.toInt) rfl (by first | exact ⟨z5r, z5s⟩ | omega | ((try (have i_t460 := Imp.go t460 (by omega))); (try (have i_t459 := Imp.go t459 (by omega))); (try (have i_t439 := Imp.go t439 (by omega))); (try (have i_t439 := Imp.go t439 (by omega))); (try (have i_t459 := Imp.go t459 (by omega))); (try (have i_t460 := Imp.go t460 (by omega))); omega))) dX12_toldComponent_261 (fun H locs hP hD hS => ?_)
                                          obtain ⟨V522, hV522⟩ : ∃ z, z = up2 V462 26 (Int32.toNatClampNeg z5) z455 := ⟨_, rfl⟩
                                          have hP : va_P D vwCl (mw ad kk ks.1 V522 L405) H := by rw [hV522]; exact hP
                                          have hD : va_D A (mw ad kk ks.1 V522 L405) := by rw [hV522]; exact hD
                                          have hMV522 : rgd bM V522 := hMV462.put hV522 (i_full _)
                                          have agV522 : agr [(0, 7), (0, 8), (0, 48), (0, 50), (0, 51), (0, 52)] [15, 19, 20, 21, 22, 23, 24, 25, 26, 27, 28, 29, 30, 31, 32, 33, 34, 35, 36, 37, 38, 45, 46, 47, 53] V V522 := agV462.up hV522 rfl
                                          have pq523 : (V522 0 48).toInt = ((V 0 48)).toInt := congrArg Int32.toInt ((up2_o hV522 (by decide)).trans ((ajV462 0 48 rfl).trans ((up2_o hV452 (by decide)).trans ((ajV440 0 48 rfl).trans ((ajV417 0 48 rfl).trans ((up2_o hV410 (by decide)).trans ((ajV404 0 48 rfl).trans ((up2_o hV402 (by decide)).trans ((ajV391 0 48 rfl).trans ((ajV369 0 48 rfl).trans ((ajV350 0 48 rfl).trans ((ajV47 0 48 rfl).trans ((ajV42 0 48 rfl).trans ((ajV29 0 48 rfl).trans (ajV13 0 48 rfl)))))))))))))))
                                          have pq524 : (V522 0 12).toInt = ((V 0 12)).toInt := congrArg Int32.toInt ((up2_o hV522 (by decide)).trans ((ajV462 0 12 rfl).trans ((up2_o hV452 (by decide)).trans ((ajV440 0 12 rfl).trans ((ajV417 0 12 rfl).trans ((up2_o hV410 (by decide)).trans ((ajV404 0 12 rfl).trans ((up2_o hV402 (by decide)).trans ((ajV391 0 12 rfl).trans ((ajV369 0 12 rfl).trans ((ajV350 0 12 rfl).trans ((ajV47 0 12 rfl).trans ((ajV42 0 12 rfl).trans ((ajV29 0 12 rfl).trans (ajV13 0 12 rfl)))))))))))))))
                                          have pq525 : (V522 0 8).toInt = ((V462 0 8)).toInt := congrArg Int32.toInt (up2_o hV522 (by decide))
                                          have rw526 : RoV 19 bq V V522 := (fun k hk => ((up2_o hV522 (by decide)).trans ((ajV462 19 k rfl).trans ((up2_o hV452 (by decide)).trans ((ajV440 19 k rfl).trans ((ajV417 19 k rfl).trans ((up2_o hV410 (by decide)).trans (xJ403_6 k hk))))))))
                                          have rw527 : RoV 35 bq V V522 := (fun k hk => ((up2_o hV522 (by decide)).trans ((ajV462 35 k rfl).trans ((up2_o hV452 (by decide)).trans ((ajV440 35 k rfl).trans ((ajV417 35 k rfl).trans ((up2_o hV410 (by decide)).trans (xJ403_7 k hk))))))))
                                          have rw528 : RoV 37 bq V V522 := (fun k hk => ((up2_o hV522 (by decide)).trans ((ajV462 37 k rfl).trans ((up2_o hV452 (by decide)).trans ((ajV440 37 k rfl).trans ((ajV417 37 k rfl).trans ((up2_o hV410 (by decide)).trans (xJ403_8 k hk))))))))
                                          have rw529 : RoL 20 24 bq L L405 := (fun k hk => (xJ403_9 k hk))
                                          have rw530 : RoL 36 20 bq L L405 := (fun k hk => (xJ403_10 k hk))
                                          have rw531 : RoL 38 20 bq L L405 := (fun k hk => (xJ403_11 k hk))
                                          exact J52 V522 L405 H locs ls alL405 (agr.up (agr.tr (agr.up (agr.tr (agr.tr (agr.up (agr.tr (agr.up (agr.tr (agr.tr (agr.tr agr.rf ajV350 (by decide) (by decide)) ajV369 (by decide) (by decide)) ajV391 (by decide) (by decide)) hV402 rfl) ajV404 (by decide) (by decide)) hV410 rfl) ajV417 (by decide) (by decide)) ajV440 (by decide) (by decide)) hV452 rfl) ajV462 (by decide) (by decide)) hV522 rfl) hMV522 (Or.inr ⟨(show 1 ≤ (V522 0 8).toInt from by as_aux_lemma => omega), (fun k => by rw [show (V522 0 8).toInt = (V462 0 8).toInt from by as_aux_lemma => omega]; exact hb520 k)⟩) (fun h9 => by exfalso; omega) (fun h9 => by exfalso; omega) (show (V522 0 48).toInt ≤ 8000 from by as_aux_lemma => first | exact om_17124963473a xJ403_3 pq406 pq523 | first | omega | ((try (have i_t460 := Imp.go t460 (by omega))); (try (have i_t459 := Imp.go t459 (by omega))); (try (have i_t439 := Imp.go t439 (by omega))); (try (have i_t439 := Imp.go t439 (by omega))); (try (have i_t459 := Imp.go t459 (by omega))); (try (have i_t460 := Imp.go t460 (by omega))); omega)) (show (V522 0 48).toInt = (V 0 48).toInt from by as_aux_lemma => first | exact om_570b691c1130 pq523 | first | omega | ((try (have i_t460 := Imp.go t460 (by omega))); (try (have i_t459 := Imp.go t459 (by omega))); (try (have i_t439 := Imp.go t439 (by omega))); (try (have i_t439 := Imp.go t439 (by omega))); (try (have i_t459 := Imp.go t459 (by omega))); (try (have i_t460 := Imp.go t460 (by omega))); omega)) (show (V522 0 12).toInt = (V 0 12).toInt from by as_aux_lemma => first | exact om_570b691c1130 pq524 | first | omega | ((try (have i_t460 := Imp.go t460 (by omega))); (try (have i_t459 := Imp.go t459 (by omega))); (try (have i_t439 := Imp.go t439 (by omega))); (try (have i_t439 := Imp.go t439 (by omega))); (try (have i_t459 := Imp.go t459 (by omega))); (try (have i_t460 := Imp.go t460 (by omega))); omega)) rw526 rw527 rw528 rw529 rw530 rw531 hP hD hS (lv_sub hl [0, 1, 2, 3] rfl)
                                      · skip
                                        have hb532 : ∀ k, Rc gT (Crun gs (Istmt :: k)) (Cbad (V440 0 8).toInt) := fun k => Rc.go1 (hr423 k) (wS_b h445)
                                        refine va_iast (D := D) (i := z5) (x := z434) hx hb hK hP hD hS 18 17 rfl rfl (i_in (a := z5.toInt) rfl (by first | exact ⟨z5r, z5s⟩ | omega | ((try (have i_t439 := Imp.go t439 (by omega))); omega))) dX12_toldComponent_247 (fun H locs hP hD hS => ?_)
                                        obtain ⟨V533, hV533⟩ : ∃ z, z = up2 V440 25 (Int32.toNatClampNeg z5) z434 := ⟨_, rfl⟩
                                        have hP : va_P D vwCl (mw ad kk ks.1 V533 L405) H := by rw [hV533]; exact hP
                                        have hD : va_D A (mw ad kk ks.1 V533 L405) := by rw [hV533]; exact hD
                                        have hMV533 : rgd bM V533 := hMV440.put hV533 (show (-1) ≤ z434.toInt ∧ z434.toInt ≤ 11 from by as_aux_lemma => first | exact om_990cc15e8b77 q16 r433.2 rgz434.1 t438 | first | omega | ((try (have i_t439 := Imp.go t439 (by omega))); omega))
                                        have agV533 : agr [(0, 7), (0, 8), (0, 48), (0, 50), (0, 51), (0, 52)] [15, 19, 20, 21, 22, 23, 24, 25, 26, 27, 28, 29, 30, 31, 32, 33, 34, 35, 36, 37, 38, 45, 46, 47, 53] V V533 := agV440.up hV533 rfl
                                        refine lv_aload_n hx hb dX12_toldComponent_248 rfl (lv_at hl 3 rfl) ?_
                                        refine va_get (D := D) (ci := 12) (v := .ref (ad 26)) (C := RX12) (T := TX12) (N := 100) hx hb hg inX12 hown hK hP 0 rfl rfl 26 (by decide) (hg _ w1732) (fun _ h9 => h9) rfl dX12_toldComponent_249 ?_
                                        refine lv_iload_n hx hb dX12_toldComponent_252 rfl (lv_at hl 2 rfl) ?_
                                        refine lv_aload_n hx hb dX12_toldComponent_253 rfl (lv_at hl 3 rfl) ?_
                                        refine lv_iconst (v := 0) hx hb dX12_toldComponent_254 (by decide) ?_
                                        refine lv_ldcw (v := 999999999) hx hb hown (hg _ w2083) dX12_toldComponent_255 ?_
                                        have r534 : Int32.toInt 999999999 = 999999999 := by decide
                                        have pq535 : (V533 0 8).toInt = ((V440 0 8)).toInt := congrArg Int32.toInt (up2_o hV533 (by decide))
                                        refine gA_int (gA_runV (As := [.int 0, .int 999999999]) (rest := [.int z5, .ref (ad 26)]) (ci := 12) (q0 := 0) hx hb hml hown hg hP hD hK hS hA hnw hgk (s_takeNumberB l D ks H.size ad kk V533 L405 0 999999999 hMV533 (show 1 ≤ (V533 0 8).toInt from by as_aux_lemma => first | omega | ((try (have i_t439 := Imp.go t439 (by omega))); omega))) w2084 w2086 w98 w172 w2087 rfl rfl hdV_yX12_takeNumber ⟨Nat.le_of_ble_eq_true rfl, Nat.le_of_ble_eq_true rfl⟩ rfl hl.1 rfl (Nat.le_of_ble_eq_true rfl) dX12_toldComponent_258 ⟨Nat.le_of_ble_eq_true rfl, Nat.le_of_ble_eq_true rfl⟩) hP hD hK hS hA (fun z536 u537 H locs w538 hP hD hK hS => ?_)
                                        obtain ⟨V540, L541⟩ := u537
                                        obtain ⟨hMV540, ajV540, axL541, rgz536, t539⟩ := w538
                                        have axL541 : L405 = L541 := Eq.symm axL541
                                        subst axL541
                                        replace hP : va_P D vwCl (mw ad kk ks.1 V540 L405) H := hP
                                        replace hD : va_D A (mw ad kk ks.1 V540 L405) := hD
                                        replace hMV540 : rgd bM V540 := hMV540
                                        replace ajV540 : agr [(0, 7), (0, 8)] [] V533 V540 := ajV540
                                        have agV540 : agr [(0, 7), (0, 8), (0, 48), (0, 50), (0, 51), (0, 52)] [15, 19, 20, 21, 22, 23, 24, 25, 26, 27, 28, 29, 30, 31, 32, 33, 34, 35, 36, 37, 38, 45, 46, 47, 53] V V540 := agV533.tr ajV540 (by decide) (by decide)
                                        replace rgz536 : 0 ≤ z536.toInt ∧ z536.toInt ≤ 0 := rgz536
                                        replace t539 : (V540 0 8).toInt = (V533 0 8).toInt := t539
                                        have r542 : 0 ≤ ((V540 0 8)).toInt ∧ ((V540 0 8)).toInt ≤ 70000 := hMV540 0 8
                                        refine va_iast (D := D) (i := z5) (x := z536) hx hb hK hP hD hS 19 18 rfl rfl (i_in (a := z5.toInt) rfl (by first | exact ⟨z5r, z5s⟩ | omega | ((try (have i_t439 := Imp.go t439 (by omega))); omega))) dX12_toldComponent_261 (fun H locs hP hD hS => ?_)
                                        obtain ⟨V543, hV543⟩ : ∃ z, z = up2 V540 26 (Int32.toNatClampNeg z5) z536 := ⟨_, rfl⟩
                                        have hP : va_P D vwCl (mw ad kk ks.1 V543 L405) H := by rw [hV543]; exact hP
                                        have hD : va_D A (mw ad kk ks.1 V543 L405) := by rw [hV543]; exact hD
                                        have hMV543 : rgd bM V543 := hMV540.put hV543 (i_full _)
                                        have agV543 : agr [(0, 7), (0, 8), (0, 48), (0, 50), (0, 51), (0, 52)] [15, 19, 20, 21, 22, 23, 24, 25, 26, 27, 28, 29, 30, 31, 32, 33, 34, 35, 36, 37, 38, 45, 46, 47, 53] V V543 := agV540.up hV543 rfl
                                        have pq544 : (V543 0 48).toInt = ((V 0 48)).toInt := congrArg Int32.toInt ((up2_o hV543 (by decide)).trans ((ajV540 0 48 rfl).trans ((up2_o hV533 (by decide)).trans ((ajV440 0 48 rfl).trans ((ajV417 0 48 rfl).trans ((up2_o hV410 (by decide)).trans ((ajV404 0 48 rfl).trans ((up2_o hV402 (by decide)).trans ((ajV391 0 48 rfl).trans ((ajV369 0 48 rfl).trans ((ajV350 0 48 rfl).trans ((ajV47 0 48 rfl).trans ((ajV42 0 48 rfl).trans ((ajV29 0 48 rfl).trans (ajV13 0 48 rfl)))))))))))))))
                                        have pq545 : (V543 0 12).toInt = ((V 0 12)).toInt := congrArg Int32.toInt ((up2_o hV543 (by decide)).trans ((ajV540 0 12 rfl).trans ((up2_o hV533 (by decide)).trans ((ajV440 0 12 rfl).trans ((ajV417 0 12 rfl).trans ((up2_o hV410 (by decide)).trans ((ajV404 0 12 rfl).trans ((up2_o hV402 (by decide)).trans ((ajV391 0 12 rfl).trans ((ajV369 0 12 rfl).trans ((ajV350 0 12 rfl).trans ((ajV47 0 12 rfl).trans ((ajV42 0 12 rfl).trans ((ajV29 0 12 rfl).trans (ajV13 0 12 rfl)))))))))))))))
                                        have pq546 : (V543 0 8).toInt = ((V540 0 8)).toInt := congrArg Int32.toInt (up2_o hV543 (by decide))
                                        have rw547 : RoV 19 bq V V543 := (fun k hk => ((up2_o hV543 (by decide)).trans ((ajV540 19 k rfl).trans ((up2_o hV533 (by decide)).trans ((ajV440 19 k rfl).trans ((ajV417 19 k rfl).trans ((up2_o hV410 (by decide)).trans (xJ403_6 k hk))))))))
                                        have rw548 : RoV 35 bq V V543 := (fun k hk => ((up2_o hV543 (by decide)).trans ((ajV540 35 k rfl).trans ((up2_o hV533 (by decide)).trans ((ajV440 35 k rfl).trans ((ajV417 35 k rfl).trans ((up2_o hV410 (by decide)).trans (xJ403_7 k hk))))))))
                                        have rw549 : RoV 37 bq V V543 := (fun k hk => ((up2_o hV543 (by decide)).trans ((ajV540 37 k rfl).trans ((up2_o hV533 (by decide)).trans ((ajV440 37 k rfl).trans ((ajV417 37 k rfl).trans ((up2_o hV410 (by decide)).trans (xJ403_8 k hk))))))))
                                        have rw550 : RoL 20 24 bq L L405 := (fun k hk => (xJ403_9 k hk))
                                        have rw551 : RoL 36 20 bq L L405 := (fun k hk => (xJ403_10 k hk))
                                        have rw552 : RoL 38 20 bq L L405 := (fun k hk => (xJ403_11 k hk))
                                        exact J52 V543 L405 H locs ls alL405 (agr.up (agr.tr (agr.up (agr.tr (agr.tr (agr.up (agr.tr (agr.up (agr.tr (agr.tr (agr.tr agr.rf ajV350 (by decide) (by decide)) ajV369 (by decide) (by decide)) ajV391 (by decide) (by decide)) hV402 rfl) ajV404 (by decide) (by decide)) hV410 rfl) ajV417 (by decide) (by decide)) ajV440 (by decide) (by decide)) hV533 rfl) ajV540 (by decide) (by decide)) hV543 rfl) hMV543 (Or.inr ⟨(show 1 ≤ (V543 0 8).toInt from by as_aux_lemma => omega), (fun k => by rw [show (V543 0 8).toInt = (V440 0 8).toInt from by as_aux_lemma => omega]; exact hb532 k)⟩) (fun h9 => by exfalso; omega) (fun h9 => by exfalso; omega) (show (V543 0 48).toInt ≤ 8000 from by as_aux_lemma => first | exact om_17124963473a xJ403_3 pq406 pq544 | first | omega | ((try (have i_t439 := Imp.go t439 (by omega))); omega)) (show (V543 0 48).toInt = (V 0 48).toInt from by as_aux_lemma => first | exact om_570b691c1130 pq544 | first | omega | ((try (have i_t439 := Imp.go t439 (by omega))); omega)) (show (V543 0 12).toInt = (V 0 12).toInt from by as_aux_lemma => first | exact om_570b691c1130 pq545 | first | omega | ((try (have i_t439 := Imp.go t439 (by omega))); omega)) rw547 rw548 rw549 rw550 rw551 rw552 hP hD hS (lv_sub hl [0, 1, 2, 3] rfl)
                                  · skip
                                    have kd553 : gT.1 (s1.1 0) ≠ 135 := fun h9 => h420 (h9.trans (by decide))
                                    have fz554 := RelM.rg rl421
                                    have pq555 : (V417 0 8).toInt = ((V404 0 8)).toInt := congrArg Int32.toInt ((ajV417 0 8 rfl).trans (up2_o hV410 (by decide)))
                                    refine lv_if_eq (tgt := 262) hx hb dX12_toldComponent_215 (by decide) (fun c556 => ?_) (fun c556 => ?_)
                                    · skip
                                      have f557 : z413.toInt = 0 := b_eq rfl (by decide) c556
                                      have pq558 : (V417 0 48).toInt = ((V 0 48)).toInt := congrArg Int32.toInt ((ajV417 0 48 rfl).trans ((up2_o hV410 (by decide)).trans ((ajV404 0 48 rfl).trans ((up2_o hV402 (by decide)).trans ((ajV391 0 48 rfl).trans ((ajV369 0 48 rfl).trans ((ajV350 0 48 rfl).trans ((ajV47 0 48 rfl).trans ((ajV42 0 48 rfl).trans ((ajV29 0 48 rfl).trans (ajV13 0 48 rfl)))))))))))
                                      have pq559 : (V417 0 12).toInt = ((V 0 12)).toInt := congrArg Int32.toInt ((ajV417 0 12 rfl).trans ((up2_o hV410 (by decide)).trans ((ajV404 0 12 rfl).trans ((up2_o hV402 (by decide)).trans ((ajV391 0 12 rfl).trans ((ajV369 0 12 rfl).trans ((ajV350 0 12 rfl).trans ((ajV47 0 12 rfl).trans ((ajV42 0 12 rfl).trans ((ajV29 0 12 rfl).trans (ajV13 0 12 rfl)))))))))))
                                      have hr560 : ∀ k, Rc gT (Crun gs (Istmt :: k)) (Crun s1 (Itake 123 :: IaddNm m1 c1 wx32 [0, 0, ra1, ca1] :: Imember :: k)) := fun k => Rc.go1 (h1 k) (when_n m1 c1 wx32 [ra1, ca1] kd553)
                                      have hj561 := d1
                                      have hj562 := e1
                                      have hj563 := i1
                                      have pq564 : (V417 22 gc).toInt = ((V402 22 gc)).toInt := congrArg Int32.toInt ((ajV417 22 gc rfl).trans ((up2_o hV410 (by decide)).trans (ajV404 22 gc rfl)))
                                      have pq565 : (V404 22 gc).toInt = ((V402 22 gc)).toInt := congrArg Int32.toInt (ajV404 22 gc rfl)
                                      have pq566 : (V417 23 gc).toInt = ((V404 23 gc)).toInt := congrArg Int32.toInt ((ajV417 23 gc rfl).trans (up2_o hV410 (by decide)))
                                      have pq567 : (V417 24 gc).toInt = ((V404 24 gc)).toInt := congrArg Int32.toInt ((ajV417 24 gc rfl).trans (up2_o hV410 (by decide)))
                                      have r568 : 0 ≤ ((V404 24 gc)).toInt ∧ ((V404 24 gc)).toInt ≤ 9 := hMV404 24 gc
                                      have pq569 : (V417 25 (Int32.toNatClampNeg z5)).toInt = (-1) := (congrArg Int32.toInt ((ajV417 25 (Int32.toNatClampNeg z5) rfl).trans (up2_s hV410))).trans (by decide)
                                      have gv570 : (V417 25 gc).toInt = (V417 25 (Int32.toNatClampNeg z5)).toInt := by rw [kgc]
                                      have pq571 : (V417 26 (Int32.toNatClampNeg z5)).toInt = ((V 26 (Int32.toNatClampNeg z5))).toInt := congrArg Int32.toInt ((ajV417 26 (Int32.toNatClampNeg z5) rfl).trans ((up2_o hV410 (by decide)).trans ((ajV404 26 (Int32.toNatClampNeg z5) rfl).trans ((up2_o hV402 (by decide)).trans ((ajV391 26 (Int32.toNatClampNeg z5) rfl).trans ((ajV369 26 (Int32.toNatClampNeg z5) rfl).trans ((ajV350 26 (Int32.toNatClampNeg z5) rfl).trans ((ajV47 26 (Int32.toNatClampNeg z5) rfl).trans ((ajV42 26 (Int32.toNatClampNeg z5) rfl).trans ((ajV29 26 (Int32.toNatClampNeg z5) rfl).trans (ajV13 26 (Int32.toNatClampNeg z5) rfl)))))))))))
                                      have gv572 : (V417 26 gc).toInt = (V417 26 (Int32.toNatClampNeg z5)).toInt := by rw [kgc]
                                      have cn573 : CNm V410 bq gs := CNm.up (xJ403_1 f7) hV410 (fun q9 => by as_aux_lemma => have h9 := i_clamp (x := z5) rfl (by as_aux_lemma => (first | exact om_89f771ec639b r2.1 hz3 r4.1 hz5 | omega)); unfold rdm at q9; omega)
                                      have cn574 : CNm V417 bq gs := CNm.ag cn573 (show agr [(0, 7)] [] V410 V417 from (agr.tr agr.rf ajV417 (by decide) (by decide))) (by decide) keepC.rf
                                      have cd575 : CDm V417 (10000 * bq) gs := CDm.ag (xJ403_2 f7).1 (show agr [(0, 7)] [25] V404 V417 from (agr.tr (agr.up agr.rf hV410 rfl) ajV417 (by decide) (by decide))) ⟨rfl, rfl, fun _ => ⟨rfl, rfl, rfl⟩⟩
                                      have re576 : REm V417 bq gs := REm.ag (xJ403_2 f7).2.1 (show agr [(0, 7)] [25] V404 V417 from (agr.tr (agr.up agr.rf hV410 rfl) ajV417 (by decide) (by decide))) (fun _ => ⟨rfl, rfl, rfl⟩) keepE.rf rfl
                                      have wm577 : WMm V417 bq gs := WMm.ag (xJ403_2 f7).2.2 (show agr [(0, 7)] [25] V404 V417 from (agr.tr (agr.up agr.rf hV410 rfl) ajV417 (by decide) (by decide))) (fun _ => ⟨rfl, rfl, rfl, rfl, rfl⟩) (fun _ _ _ => rfl) rfl
                                      have rw578 : RoV 19 bq V V417 := (fun k hk => ((ajV417 19 k rfl).trans ((up2_o hV410 (by decide)).trans (xJ403_6 k hk))))
                                      have rw579 : RoV 35 bq V V417 := (fun k hk => ((ajV417 35 k rfl).trans ((up2_o hV410 (by decide)).trans (xJ403_7 k hk))))
                                      have rw580 : RoV 37 bq V V417 := (fun k hk => ((ajV417 37 k rfl).trans ((up2_o hV410 (by decide)).trans (xJ403_8 k hk))))
                                      have rw581 : RoL 20 24 bq L L405 := (fun k hk => (xJ403_9 k hk))
                                      have rw582 : RoL 36 20 bq L L405 := (fun k hk => (xJ403_10 k hk))
                                      have rw583 : RoL 38 20 bq L L405 := (fun k hk => (xJ403_11 k hk))
                                      exact J52 V417 L405 H locs ls alL405 (agr.tr (agr.up (agr.tr (agr.up (agr.tr (agr.tr (agr.tr agr.rf ajV350 (by decide) (by decide)) ajV369 (by decide) (by decide)) ajV391 (by decide) (by decide)) hV402 rfl) ajV404 (by decide) (by decide)) hV410 rfl) ajV417 (by decide) (by decide)) hMV417 (Or.inl ⟨W0 rl421, s1, s0, m1, c1, ca1, ra1, 0, 0, hr560, rl421, keepS.le (keepS.tr (keepS.rf : keepS (scopeS s0) 0 (scopeS s0)) k1) (by decide), t1, w1, (by as_aux_lemma => omega), ⟨q1.1, q1.2⟩, (BTm.ag b1 (by rw [(funext (fun q => ajV417 21 q rfl) : V417 21 = V410 21), (up2_fo hV410 (by decide) : V410 21 = V404 21)] : V417 21 = V404 21)), (show (V417 22 gc).toInt = _ from by as_aux_lemma => omega), (show (V417 23 gc).toInt + 1 = _ from by as_aux_lemma => omega), (show (V417 24 gc).toInt = _ from by as_aux_lemma => omega), (show (V417 25 gc).toInt + 1 = _ from by as_aux_lemma => omega), (fun h9 => show (V417 26 gc).toInt = _ from by as_aux_lemma => omega)⟩) (fun _ => cn574) (fun _ => ⟨cd575, re576, wm577⟩) (show (V417 0 48).toInt ≤ 8000 from by as_aux_lemma => (first | exact om_17124963473a xJ403_3 pq406 pq558 | omega)) (show (V417 0 48).toInt = (V 0 48).toInt from by as_aux_lemma => (first | exact om_570b691c1130 pq558 | omega)) (show (V417 0 12).toInt = (V 0 12).toInt from by as_aux_lemma => (first | exact om_570b691c1130 pq559 | omega)) rw578 rw579 rw580 rw581 rw582 rw583 hP hD hS (lv_sub hl [0, 1, 2, 3] rfl)
                                    · skip
                                      have f584 : z413.toInt ≠ 0 := b_neq rfl (by decide) c556
                                      exfalso; (first | exact om_fb320d7600b7 rgz413.1 q419 f584 | omega)
                                · skip
                                  have r585 : 0 ≤ ((V404 0 8)).toInt ∧ ((V404 0 8)).toInt ≤ 70000 := hMV404 0 8
                                  refine lv_aload_n hx hb dX12_toldComponent_202 rfl (lv_at hl 3 rfl) ?_
                                  refine va_get (D := D) (ci := 12) (v := .ref (ad 25)) (C := RX12) (T := TX12) (N := 100) hx hb hg inX12 hown hK hP 0 rfl rfl 25 (by decide) (hg _ w1731) (fun _ h9 => h9) rfl dX12_toldComponent_203 ?_
                                  refine lv_iload_n hx hb dX12_toldComponent_206 rfl (lv_at hl 2 rfl) ?_
                                  refine lv_iconst (v := (-1)) hx hb dX12_toldComponent_207 (by decide) ?_
                                  refine va_iast (D := D) (i := z5) (x := (-1)) hx hb hK hP hD hS 18 17 rfl rfl (i_in (a := z5.toInt) rfl (by as_aux_lemma => (first | exact om_aa704d15899a r2.1 r2.2 hz3 r4.1 r4.2 hz5 f7 | omega))) dX12_toldComponent_208 (fun H locs hP hD hS => ?_)
                                  obtain ⟨V586, hV586⟩ : ∃ z, z = up2 V404 25 (Int32.toNatClampNeg z5) (-1) := ⟨_, rfl⟩
                                  have hP : va_P D vwCl (mw ad kk ks.1 V586 L405) H := by rw [hV586]; exact hP
                                  have hD : va_D A (mw ad kk ks.1 V586 L405) := by rw [hV586]; exact hD
                                  have hMV586 : rgd bM V586 := hMV404.put hV586 (show (-1) ≤ Int32.toInt (-1) ∧ Int32.toInt (-1) ≤ 11 from by decide)
                                  have agV586 : agr [(0, 7), (0, 8), (0, 48), (0, 50), (0, 51), (0, 52)] [15, 19, 20, 21, 22, 23, 24, 25, 26, 27, 28, 29, 30, 31, 32, 33, 34, 35, 36, 37, 38, 45, 46, 47, 53] V V586 := agV404.up hV586 rfl
                                  refine lv_aload_n hx hb dX12_toldComponent_209 rfl (lv_at hl 3 rfl) ?_
                                  refine lv_bipush (v := 7) hx hb dX12_toldComponent_210 (by decide) ?_
                                  have r587 : Int32.toInt 7 = 7 := by decide
                                  have pq588 : (V586 0 8).toInt = ((V404 0 8)).toInt := congrArg Int32.toInt (up2_o hV586 (by decide))
                                  refine gA_int (gA_runV (As := [.int 7]) (rest := []) (ci := 12) (q0 := 0) hx hb hml hown hg hP hD hK hS hA hnw hgk (s_hasWordB l D ks H.size ad kk V586 L405 7 hMV586 (by decide) (show 1 ≤ (V586 0 8).toInt from by as_aux_lemma => (first | exact om_e3c391a03e81 f7 pq588 | omega))) w2051 w2053 w90 w172 w2054 rfl rfl hdV_yX12_hasWord ⟨Nat.le_of_ble_eq_true rfl, Nat.le_of_ble_eq_true rfl⟩ rfl hl.1 rfl (Nat.le_of_ble_eq_true rfl) dX12_toldComponent_212 ⟨Nat.le_of_ble_eq_true rfl, Nat.le_of_ble_eq_true rfl⟩) hP hD hK hS hA (fun z589 u590 H locs w591 hP hD hK hS => ?_)
                                  obtain ⟨V593, L594⟩ := u590
                                  obtain ⟨hMV593, ajV593, axL594, rgz589, t592⟩ := w591
                                  have axL594 : L405 = L594 := Eq.symm axL594
                                  subst axL594
                                  replace hP : va_P D vwCl (mw ad kk ks.1 V593 L405) H := hP
                                  replace hD : va_D A (mw ad kk ks.1 V593 L405) := hD
                                  replace hMV593 : rgd bM V593 := hMV593
                                  replace ajV593 : agr [(0, 7)] [] V586 V593 := ajV593
                                  have agV593 : agr [(0, 7), (0, 8), (0, 48), (0, 50), (0, 51), (0, 52)] [15, 19, 20, 21, 22, 23, 24, 25, 26, 27, 28, 29, 30, 31, 32, 33, 34, 35, 36, 37, 38, 45, 46, 47, 53] V V593 := agV586.tr ajV593 (by decide) (by decide)
                                  replace rgz589 : 0 ≤ z589.toInt ∧ z589.toInt ≤ 0 := rgz589
                                  replace t592 : (V593 0 8).toInt = (V586 0 8).toInt := t592
                                  have pq595 : (V593 0 8).toInt = ((V404 0 8)).toInt := congrArg Int32.toInt ((ajV593 0 8 rfl).trans (up2_o hV586 (by decide)))
                                  refine lv_if_eq (tgt := 262) hx hb dX12_toldComponent_215 (by decide) (fun c596 => ?_) (fun c596 => ?_)
                                  · skip
                                    have f597 : z589.toInt = 0 := b_eq rfl (by decide) c596
                                    have pq598 : (V593 0 48).toInt = ((V 0 48)).toInt := congrArg Int32.toInt ((ajV593 0 48 rfl).trans ((up2_o hV586 (by decide)).trans ((ajV404 0 48 rfl).trans ((up2_o hV402 (by decide)).trans ((ajV391 0 48 rfl).trans ((ajV369 0 48 rfl).trans ((ajV350 0 48 rfl).trans ((ajV47 0 48 rfl).trans ((ajV42 0 48 rfl).trans ((ajV29 0 48 rfl).trans (ajV13 0 48 rfl)))))))))))
                                    have pq599 : (V593 0 12).toInt = ((V 0 12)).toInt := congrArg Int32.toInt ((ajV593 0 12 rfl).trans ((up2_o hV586 (by decide)).trans ((ajV404 0 12 rfl).trans ((up2_o hV402 (by decide)).trans ((ajV391 0 12 rfl).trans ((ajV369 0 12 rfl).trans ((ajV350 0 12 rfl).trans ((ajV47 0 12 rfl).trans ((ajV42 0 12 rfl).trans ((ajV29 0 12 rfl).trans (ajV13 0 12 rfl)))))))))))
                                    have rw600 : RoV 19 bq V V593 := (fun k hk => ((ajV593 19 k rfl).trans ((up2_o hV586 (by decide)).trans (xJ403_6 k hk))))
                                    have rw601 : RoV 35 bq V V593 := (fun k hk => ((ajV593 35 k rfl).trans ((up2_o hV586 (by decide)).trans (xJ403_7 k hk))))
                                    have rw602 : RoV 37 bq V V593 := (fun k hk => ((ajV593 37 k rfl).trans ((up2_o hV586 (by decide)).trans (xJ403_8 k hk))))
                                    have rw603 : RoL 20 24 bq L L405 := (fun k hk => (xJ403_9 k hk))
                                    have rw604 : RoL 36 20 bq L L405 := (fun k hk => (xJ403_10 k hk))
                                    have rw605 : RoL 38 20 bq L L405 := (fun k hk => (xJ403_11 k hk))
                                    exact J52 V593 L405 H locs ls alL405 (agr.tr (agr.up (agr.tr (agr.up (agr.tr (agr.tr (agr.tr agr.rf ajV350 (by decide) (by decide)) ajV369 (by decide) (by decide)) ajV391 (by decide) (by decide)) hV402 rfl) ajV404 (by decide) (by decide)) hV586 rfl) ajV593 (by decide) (by decide)) hMV593 (Or.inr ⟨(show 1 ≤ (V593 0 8).toInt from by as_aux_lemma => (first | exact om_2487ca371d8b f7 pq588 t592 | omega)), (fun k => by rw [show (V593 0 8).toInt = (V404 0 8).toInt from by as_aux_lemma => omega]; exact h1 k)⟩) (fun h9 => by exfalso; omega) (fun h9 => by exfalso; omega) (show (V593 0 48).toInt ≤ 8000 from by as_aux_lemma => (first | exact om_17124963473a xJ403_3 pq406 pq598 | omega)) (show (V593 0 48).toInt = (V 0 48).toInt from by as_aux_lemma => (first | exact om_570b691c1130 pq598 | omega)) (show (V593 0 12).toInt = (V 0 12).toInt from by as_aux_lemma => (first | exact om_570b691c1130 pq599 | omega)) rw600 rw601 rw602 rw603 rw604 rw605 hP hD hS (lv_sub hl [0, 1, 2, 3] rfl)
                                  · skip
                                    have f606 : z589.toInt ≠ 0 := b_neq rfl (by decide) c596
                                    exfalso; (first | exact om_0e608cc4b4f6 rgz589.1 rgz589.2 f606 | omega)
                              have J607 : ∀ (V608 : Vf) (L609 : Lf) (H : Heap) (locs : List Loc) (ls : Array Slot), agL [15, 19, 20, 21, 22, 23, 24, 25, 26, 27, 28, 29, 30, 31, 32, 33, 34, 35, 36, 37, 38, 45, 46, 47, 53] L L609 → agr [(0, 7), (0, 8)] [23, 35, 36, 37, 38] V402 V608 → rgd bM V608 → (((V608 0 8).toInt = 0 ∧ ∃ (s1 s0 : St) (m1 : Nat) (c1 : Int) (ca1 : Nat), (∀ k, Rc gT (Crun gs (Istmt :: k)) (Crun s1 (Irank m1 c1 (wx32) [ca1] :: k))) ∧ RelM V608 L609 bq gn gT s1 (gs.2.1 2) ∧ keepS (scopeS s0) 0 s1 ∧ s1.2.1 2 = gs.2.1 2 ∧ s1.2.2.1 = gs.2.2.1 ∧ gs.1 0 + 1 ≤ s1.1 0 ∧ (keepC gs s1 ∧ keepL gs s1) ∧ BTm V608 21 gc m1 ∧ (V608 22 gc).toInt = ((c1.toNat : Nat) : Int) ∧ (V608 23 gc).toInt + 1 = ((ca1 : Nat) : Int)) ∨ (1 ≤ (V608 0 8).toInt ∧ ∀ k, Rc gT (Crun gs (Istmt :: k)) (Cbad (V608 0 8).toInt))) → ((V608 0 8).toInt = 0 → CNm V608 bq gs) → ((V608 0 8).toInt = 0 → CEm V608 bq gs) → (V608 0 48).toInt ≤ 8000 → (V608 0 48).toInt = (V 0 48).toInt → (V608 0 12).toInt = (V 0 12).toInt → (RoV 19 bq V V608) → (RoV 35 bq V V608) → (RoV 37 bq V V608) → (RoL 20 24 bq L L609) → (RoL 36 20 bq L L609) → (RoL 38 20 bq L L609) → va_P D vwCl (mw ad kk ks.1 V608 L609) H → va_D A (mw ad kk ks.1 V608 L609) → va_S A s.heap H locs → lv_has ls 5 [(4, .int y46), (2, .long z25), (1, .int z5), (0, .ref (ad 0))] → W p l e r_s_toldComponentA s m ([.ref (ad 0)] : List Value).toArray below meth c H locs 0 0 (MQ below (q_s_toldComponentA D ks ad kk V L  bq gn gT gs A) ([.ref (ad 0)] : List Value).toArray s 0 0 A) (F0 m 176 ls []) := by
                                as_aux_lemma =>
                                (try clear ps401); (try clear fz399); (try clear rl398); (try clear hr396); (try clear hr385); (try clear ps383); (try clear fz381); (try clear hr380); (try clear fz358); (try clear ps357); (try clear hr356); (try clear kd355); (try clear rl344); (try clear fz39); (try clear ps38); (try clear hr37); (try clear fz21); (try clear ps20); (try clear hr19); (try clear hr18)
                                intro V608 L609 H locs ls alL609 ajV608 hMV608 xJ607_0 xJ607_1 xJ607_2 xJ607_3 xJ607_4 xJ607_5 xJ607_6 xJ607_7 xJ607_8 xJ607_9 xJ607_10 xJ607_11 hP hD hS hl
                                have agV608 : agr [(0, 7), (0, 8), (0, 48), (0, 50), (0, 51), (0, 52)] [15, 19, 20, 21, 22, 23, 24, 25, 26, 27, 28, 29, 30, 31, 32, 33, 34, 35, 36, 37, 38, 45, 46, 47, 53] V V608 := agV402.tr ajV608 (by decide) (by decide)
                                have pq610 : (V608 0 48).toInt = ((V 0 48)).toInt := congrArg Int32.toInt ((ajV608 0 48 rfl).trans ((up2_o hV402 (by decide)).trans ((ajV391 0 48 rfl).trans ((ajV369 0 48 rfl).trans ((ajV350 0 48 rfl).trans ((ajV47 0 48 rfl).trans ((ajV42 0 48 rfl).trans ((ajV29 0 48 rfl).trans (ajV13 0 48 rfl)))))))))
                                have pq611 : (V608 0 12).toInt = ((V 0 12)).toInt := congrArg Int32.toInt ((ajV608 0 12 rfl).trans ((up2_o hV402 (by decide)).trans ((ajV391 0 12 rfl).trans ((ajV369 0 12 rfl).trans ((ajV350 0 12 rfl).trans ((ajV47 0 12 rfl).trans ((ajV42 0 12 rfl).trans ((ajV29 0 12 rfl).trans (ajV13 0 12 rfl)))))))))
                                rcases xJ607_0 with ⟨f7, s1, s0, m1, c1, ca1, h1, r1, k1, t1, w1, g1, q1, b1, d1, e1⟩ | ⟨f7, h1⟩
                                · skip
                                  have fz612 := RelM.rg r1
                                  have r613 : 0 ≤ ((V608 0 8)).toInt ∧ ((V608 0 8)).toInt ≤ 70000 := hMV608 0 8
                                  refine lv_aload_n hx hb dX12_toldComponent_176 rfl (lv_at hl 3 rfl) ?_
                                  refine va_get (D := D) (ci := 12) (v := .ref (ad 24)) (C := RX12) (T := TX12) (N := 100) hx hb hg inX12 hown hK hP 0 rfl rfl 24 (by decide) (hg _ w1730) (fun _ h9 => h9) rfl dX12_toldComponent_177 ?_
                                  refine lv_iload_n hx hb dX12_toldComponent_180 rfl (lv_at hl 2 rfl) ?_
                                  refine lv_aload_n hx hb dX12_toldComponent_181 rfl (lv_at hl 3 rfl) ?_
                                  refine lv_bipush (v := 6) hx hb dX12_toldComponent_182 (by decide) ?_
                                  have r614 : Int32.toInt 6 = 6 := by decide
                                  refine gA_int (gA_runV (As := [.int 6]) (rest := [.int z5, .ref (ad 24)]) (ci := 12) (q0 := 0) hx hb hml hown hg hP hD hK hS hA hnw hgk (s_hasWordA l D ks H.size ad kk V608 L609 6 (bq) (gn) (gT) (s1) ((gs.2.1 2)) hMV608 (by decide) r1) w2051 w2053 w90 w172 w2054 rfl rfl hdV_yX12_hasWord ⟨Nat.le_of_ble_eq_true rfl, Nat.le_of_ble_eq_true rfl⟩ rfl hl.1 rfl (Nat.le_of_ble_eq_true rfl) dX12_toldComponent_184 ⟨Nat.le_of_ble_eq_true rfl, Nat.le_of_ble_eq_true rfl⟩) hP hD hK hS hA (fun z615 u616 H locs w617 hP hD hK hS => ?_)
                                  obtain ⟨V619, L620⟩ := u616
                                  obtain ⟨hMV619, ajV619, axL620, rgz615, t618⟩ := w617
                                  have axL620 : L609 = L620 := Eq.symm axL620
                                  subst axL620
                                  replace hP : va_P D vwCl (mw ad kk ks.1 V619 L609) H := hP
                                  replace hD : va_D A (mw ad kk ks.1 V619 L609) := hD
                                  replace hMV619 : rgd bM V619 := hMV619
                                  replace ajV619 : agr [(0, 7)] [] V608 V619 := ajV619
                                  have agV619 : agr [(0, 7), (0, 8), (0, 48), (0, 50), (0, 51), (0, 52)] [15, 19, 20, 21, 22, 23, 24, 25, 26, 27, 28, 29, 30, 31, 32, 33, 34, 35, 36, 37, 38, 45, 46, 47, 53] V V619 := agV608.tr ajV619 (by decide) (by decide)
                                  replace rgz615 : 0 ≤ z615.toInt ∧ z615.toInt ≤ 1 := rgz615
                                  replace t618 : (z615.toInt = 1 ∧ (gT).1 ((s1).1 0) = 128 + (Int32.toInt 6) ∧ RelM V619 L609 (bq) (gn) (gT) (nx (s1) 1) ((gs.2.1 2))) ∨ (z615.toInt = 0 ∧ (gT).1 ((s1).1 0) ≠ 128 + (Int32.toInt 6) ∧ RelM V619 L609 (bq) (gn) (gT) (s1) ((gs.2.1 2))) := t618
                                  rcases t618 with ⟨q621, h622, rl623⟩ | ⟨q621, h622, rl623⟩
                                  · skip
                                    have kd624 : gT.1 (s1.1 0) = 134 := h622.trans (by decide)
                                    have hr625 : ∀ k, Rc gT (Crun gs (Istmt :: k)) (Crun (nx s1 1) (IrankN m1 c1 wx32 [ca1] :: k)) := fun k => Rc.go1 (h1 k) (rank_y m1 c1 wx32 [ca1] kd624)
                                    have ps626 : (nx s1 1).1 0 = s1.1 0 + 1 := rfl
                                    have fz627 := RelM.rg rl623
                                    have pq628 : (V619 0 8).toInt = ((V608 0 8)).toInt := congrArg Int32.toInt (ajV619 0 8 rfl)
                                    refine lv_if_eq (tgt := 200) hx hb dX12_toldComponent_187 (by decide) (fun c629 => ?_) (fun c629 => ?_)
                                    · skip
                                      have f630 : z615.toInt = 0 := b_eq rfl (by decide) c629
                                      exfalso; (first | exact om_495ee03a60ae q621 f630 | omega)
                                    · skip
                                      have f631 : z615.toInt ≠ 0 := b_neq rfl (by decide) c629
                                      refine lv_aload_n hx hb dX12_toldComponent_190 rfl (lv_at hl 3 rfl) ?_
                                      refine lv_iconst (v := 0) hx hb dX12_toldComponent_191 (by decide) ?_
                                      refine lv_bipush (v := 9) hx hb dX12_toldComponent_192 (by decide) ?_
                                      have r632 : Int32.toInt 9 = 9 := by decide
                                      refine gA_int (gA_runV (As := [.int 0, .int 9]) (rest := [.int z5, .ref (ad 24)]) (ci := 12) (q0 := 0) hx hb hml hown hg hP hD hK hS hA hnw hgk (s_takeNumberA l D ks H.size ad kk V619 L609 0 9 (bq) (gn) (gT) ((nx s1 1)) ((gs.2.1 2)) hMV619 rl623 (show -1 ≤ (Int32.toInt 9) ∧ (Int32.toInt 9) ≤ 999999999 from by as_aux_lemma => (first | exact om_7d69c0605236 r632 | omega)) (show 0 ≤ (Int32.toInt 0) from by as_aux_lemma => (first | exact om_1531b20f57e1 r8 | omega))) w2084 w2086 w98 w172 w2087 rfl rfl hdV_yX12_takeNumber ⟨Nat.le_of_ble_eq_true rfl, Nat.le_of_ble_eq_true rfl⟩ rfl hl.1 rfl (Nat.le_of_ble_eq_true rfl) dX12_toldComponent_194 ⟨Nat.le_of_ble_eq_true rfl, Nat.le_of_ble_eq_true rfl⟩) hP hD hK hS hA (fun z633 u634 H locs w635 hP hD hK hS => ?_)
                                      obtain ⟨V640, L641⟩ := u634
                                      obtain ⟨hMV640, ajV640, axL641, t636, t637, t638, t639⟩ := w635
                                      have axL641 : L609 = L641 := Eq.symm axL641
                                      subst axL641
                                      replace hP : va_P D vwCl (mw ad kk ks.1 V640 L609) H := hP
                                      replace hD : va_D A (mw ad kk ks.1 V640 L609) := hD
                                      replace hMV640 : rgd bM V640 := hMV640
                                      replace ajV640 : agr [(0, 7), (0, 8)] [] V619 V640 := ajV640
                                      have agV640 : agr [(0, 7), (0, 8), (0, 48), (0, 50), (0, 51), (0, 52)] [15, 19, 20, 21, 22, 23, 24, 25, 26, 27, 28, 29, 30, 31, 32, 33, 34, 35, 36, 37, 38, 45, 46, 47, 53] V V640 := agV619.tr ajV640 (by decide) (by decide)
                                      replace t636 : ((V640 0 8).toInt = 0 ∧ (gT).1 (((nx s1 1)).1 0) = 2 ∧ (Int32.toInt 0) ≤ ((gT).2.1 (((nx s1 1)).1 0)).toInt ∧ ((gT).2.1 (((nx s1 1)).1 0)).toInt ≤ (Int32.toInt 9) ∧ RelM V640 L609 (bq) (gn) (gT) (nx ((nx s1 1)) 1) ((gs.2.1 2))) ∨ (1 ≤ (V640 0 8).toInt ∧ (((gT).1 (((nx s1 1)).1 0) ≠ 2 ∧ (V640 0 8).toInt = 1 + 16 * (gT).2.2 (((nx s1 1)).1 0)) ∨ ((gT).1 (((nx s1 1)).1 0) = 2 ∧ (((gT).2.1 (((nx s1 1)).1 0)).toInt < (Int32.toInt 0) ∨ (Int32.toInt 9) < ((gT).2.1 (((nx s1 1)).1 0)).toInt) ∧ (V640 0 8).toInt = 4 + 16 * (gT).2.2 (((nx s1 1)).1 0)))) := t636
                                      replace t637 : Imp ((V640 0 8).toInt = 0) ((Int32.toInt 0) ≤ z633.toInt ∧ z633.toInt ≤ (Int32.toInt 9)) := t637
                                      replace t638 : Imp (1 ≤ (V640 0 8).toInt) (z633.toInt = 0) := t638
                                      replace t639 : Imp ((V640 0 8).toInt = 0) (z633.toInt = ((gT).2.1 (((nx s1 1)).1 0)).toInt) := t639
                                      have r642 : 0 ≤ ((V640 0 8)).toInt ∧ ((V640 0 8)).toInt ≤ 70000 := hMV640 0 8
                                      rcases t636 with ⟨q643, h644, h645, h646, rl647⟩ | ⟨q643, ⟨h644, rl647⟩ | ⟨h644, h645, rl647⟩⟩
                                      · skip
                                        have hr648 : ∀ k, Rc gT (Crun gs (Istmt :: k)) (Crun (nx (nx s1 1) 1) (IwhenI m1 c1 wx32 [(gT.2.1 ((nx s1 1).1 0)).toInt.toNat, ca1] :: k)) := fun k => Rc.go1 (hr625 k) (vr_y h644 (by as_aux_lemma => omega) (by as_aux_lemma => omega))
                                        have nw649 := Imp.go t639 q643
                                        have ps650 : (nx (nx s1 1) 1).1 0 = (nx s1 1).1 0 + 1 := rfl
                                        have fz651 := RelM.rg rl647
                                        have nr652 := Imp.go t637 q643
                                        refine lv_goto (tgt := 201) hx hb dX12_toldComponent_197 (by decide) ?_
                                        refine va_iast (D := D) (i := z5) (x := z633) hx hb hK hP hD hS 17 16 rfl rfl (i_in (a := z5.toInt) rfl (by first | exact ⟨z5r, z5s⟩ | omega | ((try (have i_t638 := Imp.go t638 (by omega))); (try (have i_t637 := Imp.go t637 (by (first | exact om_b1799fcf2d63 r642.1 q643 | omega)))); (try (have i_t637 := Imp.go t637 (by (first | exact om_b1799fcf2d63 r642.1 q643 | omega)))); (try (have i_t638 := Imp.go t638 (by omega))); omega))) dX12_toldComponent_201 (fun H locs hP hD hS => ?_)
                                        obtain ⟨V653, hV653⟩ : ∃ z, z = up2 V640 24 (Int32.toNatClampNeg z5) z633 := ⟨_, rfl⟩
                                        have hP : va_P D vwCl (mw ad kk ks.1 V653 L609) H := by rw [hV653]; exact hP
                                        have hD : va_D A (mw ad kk ks.1 V653 L609) := by rw [hV653]; exact hD
                                        have hMV653 : rgd bM V653 := hMV640.put hV653 (show 0 ≤ z633.toInt ∧ z633.toInt ≤ 9 from by as_aux_lemma => first | exact om_97df3140a03e r8 r632 nr652.1 nr652.2 | first | omega | ((try (have i_t638 := Imp.go t638 (by omega))); (try (have i_t637 := Imp.go t637 (by omega))); (try (have i_t637 := Imp.go t637 (by omega))); (try (have i_t638 := Imp.go t638 (by omega))); omega))
                                        have agV653 : agr [(0, 7), (0, 8), (0, 48), (0, 50), (0, 51), (0, 52)] [15, 19, 20, 21, 22, 23, 24, 25, 26, 27, 28, 29, 30, 31, 32, 33, 34, 35, 36, 37, 38, 45, 46, 47, 53] V V653 := agV640.up hV653 rfl
                                        have pq654 : (V653 0 48).toInt = ((V 0 48)).toInt := congrArg Int32.toInt ((up2_o hV653 (by decide)).trans ((ajV640 0 48 rfl).trans ((ajV619 0 48 rfl).trans ((ajV608 0 48 rfl).trans ((up2_o hV402 (by decide)).trans ((ajV391 0 48 rfl).trans ((ajV369 0 48 rfl).trans ((ajV350 0 48 rfl).trans ((ajV47 0 48 rfl).trans ((ajV42 0 48 rfl).trans ((ajV29 0 48 rfl).trans (ajV13 0 48 rfl))))))))))))
                                        have pq655 : (V653 0 12).toInt = ((V 0 12)).toInt := congrArg Int32.toInt ((up2_o hV653 (by decide)).trans ((ajV640 0 12 rfl).trans ((ajV619 0 12 rfl).trans ((ajV608 0 12 rfl).trans ((up2_o hV402 (by decide)).trans ((ajV391 0 12 rfl).trans ((ajV369 0 12 rfl).trans ((ajV350 0 12 rfl).trans ((ajV47 0 12 rfl).trans ((ajV42 0 12 rfl).trans ((ajV29 0 12 rfl).trans (ajV13 0 12 rfl))))))))))))
                                        have rl656 : RelM V653 L609 bq gn gT (nx (nx s1 1) 1) (gs.2.1 2) := RelM.ag rl647 (show agr [] [24] V640 V653 from (agr.up agr.rf hV653 rfl)) (by decide) (show agL [] L609 L609 from agL.rf) (by decide)
                                        have hj657 := d1
                                        have hj658 := e1
                                        have pq659 : (V653 22 gc).toInt = ((V402 22 gc)).toInt := congrArg Int32.toInt ((up2_o hV653 (by decide)).trans ((ajV640 22 gc rfl).trans ((ajV619 22 gc rfl).trans (ajV608 22 gc rfl))))
                                        have pq660 : (V608 22 gc).toInt = ((V402 22 gc)).toInt := congrArg Int32.toInt (ajV608 22 gc rfl)
                                        have pq661 : (V653 23 gc).toInt = ((V608 23 gc)).toInt := congrArg Int32.toInt ((up2_o hV653 (by decide)).trans ((ajV640 23 gc rfl).trans (ajV619 23 gc rfl)))
                                        have pq662 : (V653 24 (Int32.toNatClampNeg z5)).toInt = z633.toInt := congrArg Int32.toInt (up2_s hV653)
                                        have gv663 : (V653 24 gc).toInt = (V653 24 (Int32.toNatClampNeg z5)).toInt := by rw [kgc]
                                        have ps664 : s1.1 0 + 1 ≤ (nx s1 1).1 0 := ((keepS.n1 1)).1
                                        have ps665 : (nx s1 1).1 0 + 1 ≤ (nx (nx s1 1) 1).1 0 := ((keepS.n1 1)).1
                                        have cn666 : CNm V640 bq gs := CNm.ag (xJ607_1 f7) (show agr [(0, 7), (0, 8)] [] V608 V640 from (agr.tr (agr.tr agr.rf ajV619 (by decide) (by decide)) ajV640 (by decide) (by decide))) (by decide) keepC.rf
                                        have cn667 : CNm V653 bq gs := CNm.up cn666 hV653 (fun q9 => by as_aux_lemma => have h9 := i_clamp (x := z5) rfl (by as_aux_lemma => (first | exact om_89f771ec639b r2.1 hz3 r4.1 hz5 | omega)); unfold rdm at q9; omega)
                                        have cd668 : CDm V653 (10000 * bq) gs := CDm.ag (xJ607_2 f7).1 (show agr [(0, 7), (0, 8)] [24] V608 V653 from (agr.up (agr.tr (agr.tr agr.rf ajV619 (by decide) (by decide)) ajV640 (by decide) (by decide)) hV653 rfl)) ⟨rfl, rfl, fun _ => ⟨rfl, rfl, rfl⟩⟩
                                        have re669 : REm V653 bq gs := REm.ag (xJ607_2 f7).2.1 (show agr [(0, 7), (0, 8)] [24] V608 V653 from (agr.up (agr.tr (agr.tr agr.rf ajV619 (by decide) (by decide)) ajV640 (by decide) (by decide)) hV653 rfl)) (fun _ => ⟨rfl, rfl, rfl⟩) keepE.rf rfl
                                        have wm670 : WMm V653 bq gs := WMm.ag (xJ607_2 f7).2.2 (show agr [(0, 7), (0, 8)] [24] V608 V653 from (agr.up (agr.tr (agr.tr agr.rf ajV619 (by decide) (by decide)) ajV640 (by decide) (by decide)) hV653 rfl)) (fun _ => ⟨rfl, rfl, rfl, rfl, rfl⟩) (fun _ _ _ => rfl) rfl
                                        have rw671 : RoV 19 bq V V653 := (fun k hk => ((up2_o hV653 (by decide)).trans ((ajV640 19 k rfl).trans ((ajV619 19 k rfl).trans (xJ607_6 k hk)))))
                                        have rw672 : RoV 35 bq V V653 := (fun k hk => ((up2_o hV653 (by decide)).trans ((ajV640 35 k rfl).trans ((ajV619 35 k rfl).trans (xJ607_7 k hk)))))
                                        have rw673 : RoV 37 bq V V653 := (fun k hk => ((up2_o hV653 (by decide)).trans ((ajV640 37 k rfl).trans ((ajV619 37 k rfl).trans (xJ607_8 k hk)))))
                                        have rw674 : RoL 20 24 bq L L609 := (fun k hk => (xJ607_9 k hk))
                                        have rw675 : RoL 36 20 bq L L609 := (fun k hk => (xJ607_10 k hk))
                                        have rw676 : RoL 38 20 bq L L609 := (fun k hk => (xJ607_11 k hk))
                                        exact J403 V653 L609 H locs ls alL609 (agr.up (agr.tr (agr.tr (agr.tr agr.rf ajV608 (by decide) (by decide)) ajV619 (by decide) (by decide)) ajV640 (by decide) (by decide)) hV653 rfl) hMV653 (Or.inl ⟨W0 rl656, (nx (nx s1 1) 1), s0, m1, c1, ca1, (gT.2.1 ((nx s1 1).1 0)).toInt.toNat, hr648, rl656, keepS.le (keepS.tr (keepS.tr (keepS.tr (keepS.rf : keepS (scopeS s0) 0 (scopeS s0)) k1) (keepS.n1 1)) (keepS.n1 1)) (by decide), ((((keepS.n1 1)).2.2.1 2 (by decide)).trans ((((keepS.n1 1)).2.2.1 2 (by decide)).trans t1)), ((congrArg (fun q9 => q9.1) ((keepS.n1 1)).2.2.2).trans ((congrArg (fun q9 => q9.1) ((keepS.n1 1)).2.2.2).trans w1)), (by as_aux_lemma => omega), ⟨(keepC.tr (keepC.tr q1.1 (keepS.c (keepS.n1 1))) (keepS.c (keepS.n1 1))), (show keepL gs (nx (nx s1 1) 1) from fun j9 h9 => ((show ∀ j9, 5 ≤ j9 → (nx (nx s1 1) 1).2.1 j9 = (nx s1 1).2.1 j9 from fun _ _ => rfl) j9 h9).trans ((show keepL gs (nx s1 1) from fun j9 h9 => ((show ∀ j9, 5 ≤ j9 → (nx s1 1).2.1 j9 = s1.2.1 j9 from fun _ _ => rfl) j9 h9).trans (q1.2 j9 h9)) j9 h9))⟩, (BTm.ag b1 (by rw [(up2_fo hV653 (by decide) : V653 21 = V640 21), (funext (fun q => ajV640 21 q rfl) : V640 21 = V619 21), (funext (fun q => ajV619 21 q rfl) : V619 21 = V608 21)] : V653 21 = V608 21)), (show (V653 22 gc).toInt = _ from by as_aux_lemma => omega), (show (V653 23 gc).toInt + 1 = _ from by as_aux_lemma => omega), (show (V653 24 gc).toInt = _ from by as_aux_lemma => omega)⟩) (fun _ => cn667) (fun _ => ⟨cd668, re669, wm670⟩) (show (V653 0 48).toInt ≤ 8000 from by as_aux_lemma => first | exact om_17124963473a xJ607_3 pq610 pq654 | first | omega | ((try (have i_t638 := Imp.go t638 (by omega))); (try (have i_t637 := Imp.go t637 (by omega))); (try (have i_t637 := Imp.go t637 (by omega))); (try (have i_t638 := Imp.go t638 (by omega))); omega)) (show (V653 0 48).toInt = (V 0 48).toInt from by as_aux_lemma => first | exact om_570b691c1130 pq654 | first | omega | ((try (have i_t638 := Imp.go t638 (by omega))); (try (have i_t637 := Imp.go t637 (by omega))); (try (have i_t637 := Imp.go t637 (by omega))); (try (have i_t638 := Imp.go t638 (by omega))); omega)) (show (V653 0 12).toInt = (V 0 12).toInt from by as_aux_lemma => first | exact om_570b691c1130 pq655 | first | omega | ((try (have i_t638 := Imp.go t638 (by omega))); (try (have i_t637 := Imp.go t637 (by omega))); (try (have i_t637 := Imp.go t637 (by omega))); (try (have i_t638 := Imp.go t638 (by omega))); omega)) rw671 rw672 rw673 rw674 rw675 rw676 hP hD hS (lv_sub hl [0, 1, 2, 3] rfl)
                                      · skip
                                        have hb677 : ∀ k, Rc gT (Crun gs (Istmt :: k)) (Cbad (V640 0 8).toInt) := fun k => Rc.go1 (hr625 k) ((vr_1 h644).trans (fl_eq rfl rl647))
                                        have nr678 := Imp.go t638 q643
                                        refine lv_goto (tgt := 201) hx hb dX12_toldComponent_197 (by decide) ?_
                                        refine va_iast (D := D) (i := z5) (x := z633) hx hb hK hP hD hS 17 16 rfl rfl (i_in (a := z5.toInt) rfl (by first | exact ⟨z5r, z5s⟩ | omega | ((try (have i_t638 := Imp.go t638 (by (first | exact om_f8d8213eda45 q643 | omega)))); (try (have i_t637 := Imp.go t637 (by omega))); (try (have i_t637 := Imp.go t637 (by omega))); (try (have i_t638 := Imp.go t638 (by (first | exact om_f8d8213eda45 q643 | omega)))); omega))) dX12_toldComponent_201 (fun H locs hP hD hS => ?_)
                                        obtain ⟨V679, hV679⟩ : ∃ z, z = up2 V640 24 (Int32.toNatClampNeg z5) z633 := ⟨_, rfl⟩
                                        have hP : va_P D vwCl (mw ad kk ks.1 V679 L609) H := by rw [hV679]; exact hP
                                        have hD : va_D A (mw ad kk ks.1 V679 L609) := by rw [hV679]; exact hD
                                        have hMV679 : rgd bM V679 := hMV640.put hV679 (show 0 ≤ z633.toInt ∧ z633.toInt ≤ 9 from by as_aux_lemma => first | exact om_8a49c059df01 nr678 | first | omega | ((try (have i_t638 := Imp.go t638 (by omega))); (try (have i_t637 := Imp.go t637 (by omega))); (try (have i_t637 := Imp.go t637 (by omega))); (try (have i_t638 := Imp.go t638 (by omega))); omega))
                                        have agV679 : agr [(0, 7), (0, 8), (0, 48), (0, 50), (0, 51), (0, 52)] [15, 19, 20, 21, 22, 23, 24, 25, 26, 27, 28, 29, 30, 31, 32, 33, 34, 35, 36, 37, 38, 45, 46, 47, 53] V V679 := agV640.up hV679 rfl
                                        have pq680 : (V679 0 48).toInt = ((V 0 48)).toInt := congrArg Int32.toInt ((up2_o hV679 (by decide)).trans ((ajV640 0 48 rfl).trans ((ajV619 0 48 rfl).trans ((ajV608 0 48 rfl).trans ((up2_o hV402 (by decide)).trans ((ajV391 0 48 rfl).trans ((ajV369 0 48 rfl).trans ((ajV350 0 48 rfl).trans ((ajV47 0 48 rfl).trans ((ajV42 0 48 rfl).trans ((ajV29 0 48 rfl).trans (ajV13 0 48 rfl))))))))))))
                                        have pq681 : (V679 0 12).toInt = ((V 0 12)).toInt := congrArg Int32.toInt ((up2_o hV679 (by decide)).trans ((ajV640 0 12 rfl).trans ((ajV619 0 12 rfl).trans ((ajV608 0 12 rfl).trans ((up2_o hV402 (by decide)).trans ((ajV391 0 12 rfl).trans ((ajV369 0 12 rfl).trans ((ajV350 0 12 rfl).trans ((ajV47 0 12 rfl).trans ((ajV42 0 12 rfl).trans ((ajV29 0 12 rfl).trans (ajV13 0 12 rfl))))))))))))
                                        have pq682 : (V679 0 8).toInt = ((V640 0 8)).toInt := congrArg Int32.toInt (up2_o hV679 (by decide))
                                        have rw683 : RoV 19 bq V V679 := (fun k hk => ((up2_o hV679 (by decide)).trans ((ajV640 19 k rfl).trans ((ajV619 19 k rfl).trans (xJ607_6 k hk)))))
                                        have rw684 : RoV 35 bq V V679 := (fun k hk => ((up2_o hV679 (by decide)).trans ((ajV640 35 k rfl).trans ((ajV619 35 k rfl).trans (xJ607_7 k hk)))))
                                        have rw685 : RoV 37 bq V V679 := (fun k hk => ((up2_o hV679 (by decide)).trans ((ajV640 37 k rfl).trans ((ajV619 37 k rfl).trans (xJ607_8 k hk)))))
                                        have rw686 : RoL 20 24 bq L L609 := (fun k hk => (xJ607_9 k hk))
                                        have rw687 : RoL 36 20 bq L L609 := (fun k hk => (xJ607_10 k hk))
                                        have rw688 : RoL 38 20 bq L L609 := (fun k hk => (xJ607_11 k hk))
                                        exact J403 V679 L609 H locs ls alL609 (agr.up (agr.tr (agr.tr (agr.tr agr.rf ajV608 (by decide) (by decide)) ajV619 (by decide) (by decide)) ajV640 (by decide) (by decide)) hV679 rfl) hMV679 (Or.inr ⟨(show 1 ≤ (V679 0 8).toInt from by as_aux_lemma => (first | exact om_e3c391a03e81 q643 pq682 | omega)), (fun k => by rw [show (V679 0 8).toInt = (V640 0 8).toInt from by as_aux_lemma => omega]; exact hb677 k)⟩) (fun h9 => by exfalso; omega) (fun h9 => by exfalso; omega) (show (V679 0 48).toInt ≤ 8000 from by as_aux_lemma => first | exact om_17124963473a xJ607_3 pq610 pq680 | first | omega | ((try (have i_t638 := Imp.go t638 (by omega))); (try (have i_t637 := Imp.go t637 (by omega))); (try (have i_t637 := Imp.go t637 (by omega))); (try (have i_t638 := Imp.go t638 (by omega))); omega)) (show (V679 0 48).toInt = (V 0 48).toInt from by as_aux_lemma => first | exact om_570b691c1130 pq680 | first | omega | ((try (have i_t638 := Imp.go t638 (by omega))); (try (have i_t637 := Imp.go t637 (by omega))); (try (have i_t637 := Imp.go t637 (by omega))); (try (have i_t638 := Imp.go t638 (by omega))); omega)) (show (V679 0 12).toInt = (V 0 12).toInt from by as_aux_lemma => first | exact om_570b691c1130 pq681 | first | omega | ((try (have i_t638 := Imp.go t638 (by omega))); (try (have i_t637 := Imp.go t637 (by omega))); (try (have i_t637 := Imp.go t637 (by omega))); (try (have i_t638 := Imp.go t638 (by omega))); omega)) rw683 rw684 rw685 rw686 rw687 rw688 hP hD hS (lv_sub hl [0, 1, 2, 3] rfl)
                                      · skip
                                        have hb689 : ∀ k, Rc gT (Crun gs (Istmt :: k)) (Cbad (V640 0 8).toInt) := fun k => Rc.go1 (hr625 k) ((vr_4 h644 (by as_aux_lemma => omega)).trans (fl_eq rfl rl647))
                                        have nr690 := Imp.go t638 q643
                                        refine lv_goto (tgt := 201) hx hb dX12_toldComponent_197 (by decide) ?_
                                        refine va_iast (D := D) (i := z5) (x := z633) hx hb hK hP hD hS 17 16 rfl rfl (i_in (a := z5.toInt) rfl (by first | exact ⟨z5r, z5s⟩ | omega | ((try (have i_t638 := Imp.go t638 (by omega))); (try (have i_t637 := Imp.go t637 (by omega))); (try (have i_t637 := Imp.go t637 (by omega))); (try (have i_t638 := Imp.go t638 (by omega))); omega))) dX12_toldComponent_201 (fun H locs hP hD hS => ?_)
                                        obtain ⟨V691, hV691⟩ : ∃ z, z = up2 V640 24 (Int32.toNatClampNeg z5) z633 := ⟨_, rfl⟩
                                        have hP : va_P D vwCl (mw ad kk ks.1 V691 L609) H := by rw [hV691]; exact hP
                                        have hD : va_D A (mw ad kk ks.1 V691 L609) := by rw [hV691]; exact hD
                                        have hMV691 : rgd bM V691 := hMV640.put hV691 (show 0 ≤ z633.toInt ∧ z633.toInt ≤ 9 from by as_aux_lemma => first | exact om_8a49c059df01 nr690 | first | omega | ((try (have i_t638 := Imp.go t638 (by omega))); (try (have i_t637 := Imp.go t637 (by omega))); (try (have i_t637 := Imp.go t637 (by omega))); (try (have i_t638 := Imp.go t638 (by omega))); omega))
                                        have agV691 : agr [(0, 7), (0, 8), (0, 48), (0, 50), (0, 51), (0, 52)] [15, 19, 20, 21, 22, 23, 24, 25, 26, 27, 28, 29, 30, 31, 32, 33, 34, 35, 36, 37, 38, 45, 46, 47, 53] V V691 := agV640.up hV691 rfl
                                        have pq692 : (V691 0 48).toInt = ((V 0 48)).toInt := congrArg Int32.toInt ((up2_o hV691 (by decide)).trans ((ajV640 0 48 rfl).trans ((ajV619 0 48 rfl).trans ((ajV608 0 48 rfl).trans ((up2_o hV402 (by decide)).trans ((ajV391 0 48 rfl).trans ((ajV369 0 48 rfl).trans ((ajV350 0 48 rfl).trans ((ajV47 0 48 rfl).trans ((ajV42 0 48 rfl).trans ((ajV29 0 48 rfl).trans (ajV13 0 48 rfl))))))))))))
                                        have pq693 : (V691 0 12).toInt = ((V 0 12)).toInt := congrArg Int32.toInt ((up2_o hV691 (by decide)).trans ((ajV640 0 12 rfl).trans ((ajV619 0 12 rfl).trans ((ajV608 0 12 rfl).trans ((up2_o hV402 (by decide)).trans ((ajV391 0 12 rfl).trans ((ajV369 0 12 rfl).trans ((ajV350 0 12 rfl).trans ((ajV47 0 12 rfl).trans ((ajV42 0 12 rfl).trans ((ajV29 0 12 rfl).trans (ajV13 0 12 rfl))))))))))))
                                        have pq694 : (V691 0 8).toInt = ((V640 0 8)).toInt := congrArg Int32.toInt (up2_o hV691 (by decide))
                                        have rw695 : RoV 19 bq V V691 := (fun k hk => ((up2_o hV691 (by decide)).trans ((ajV640 19 k rfl).trans ((ajV619 19 k rfl).trans (xJ607_6 k hk)))))
                                        have rw696 : RoV 35 bq V V691 := (fun k hk => ((up2_o hV691 (by decide)).trans ((ajV640 35 k rfl).trans ((ajV619 35 k rfl).trans (xJ607_7 k hk)))))
                                        have rw697 : RoV 37 bq V V691 := (fun k hk => ((up2_o hV691 (by decide)).trans ((ajV640 37 k rfl).trans ((ajV619 37 k rfl).trans (xJ607_8 k hk)))))
                                        have rw698 : RoL 20 24 bq L L609 := (fun k hk => (xJ607_9 k hk))
                                        have rw699 : RoL 36 20 bq L L609 := (fun k hk => (xJ607_10 k hk))
                                        have rw700 : RoL 38 20 bq L L609 := (fun k hk => (xJ607_11 k hk))
                                        exact J403 V691 L609 H locs ls alL609 (agr.up (agr.tr (agr.tr (agr.tr agr.rf ajV608 (by decide) (by decide)) ajV619 (by decide) (by decide)) ajV640 (by decide) (by decide)) hV691 rfl) hMV691 (Or.inr ⟨(show 1 ≤ (V691 0 8).toInt from by as_aux_lemma => omega), (fun k => by rw [show (V691 0 8).toInt = (V640 0 8).toInt from by as_aux_lemma => omega]; exact hb689 k)⟩) (fun h9 => by exfalso; omega) (fun h9 => by exfalso; omega) (show (V691 0 48).toInt ≤ 8000 from by as_aux_lemma => first | exact om_17124963473a xJ607_3 pq610 pq692 | first | omega | ((try (have i_t638 := Imp.go t638 (by omega))); (try (have i_t637 := Imp.go t637 (by omega))); (try (have i_t637 := Imp.go t637 (by omega))); (try (have i_t638 := Imp.go t638 (by omega))); omega)) (show (V691 0 48).toInt = (V 0 48).toInt from by as_aux_lemma => first | exact om_570b691c1130 pq692 | first | omega | ((try (have i_t638 := Imp.go t638 (by omega))); (try (have i_t637 := Imp.go t637 (by omega))); (try (have i_t637 := Imp.go t637 (by omega))); (try (have i_t638 := Imp.go t638 (by omega))); omega)) (show (V691 0 12).toInt = (V 0 12).toInt from by as_aux_lemma => first | exact om_570b691c1130 pq693 | first | omega | ((try (have i_t638 := Imp.go t638 (by omega))); (try (have i_t637 := Imp.go t637 (by omega))); (try (have i_t637 := Imp.go t637 (by omega))); (try (have i_t638 := Imp.go t638 (by omega))); omega)) rw695 rw696 rw697 rw698 rw699 rw700 hP hD hS (lv_sub hl [0, 1, 2, 3] rfl)
                                  · skip
                                    have kd701 : gT.1 (s1.1 0) ≠ 134 := fun h9 => h622 (h9.trans (by decide))
                                    have fz702 := RelM.rg rl623
                                    have pq703 : (V619 0 8).toInt = ((V608 0 8)).toInt := congrArg Int32.toInt (ajV619 0 8 rfl)
                                    refine lv_if_eq (tgt := 200) hx hb dX12_toldComponent_187 (by decide) (fun c704 => ?_) (fun c704 => ?_)
                                    · skip
                                      have f705 : z615.toInt = 0 := b_eq rfl (by decide) c704
                                      refine lv_iconst (v := 0) hx hb dX12_toldComponent_200 (by decide) ?_
                                      refine va_iast (D := D) (i := z5) (x := 0) hx hb hK hP hD hS 17 16 rfl rfl (i_in (a := z5.toInt) rfl (by as_aux_lemma => (first | exact om_aa704d15899a r2.1 r2.2 hz3 r4.1 r4.2 hz5 f7 | omega))) dX12_toldComponent_201 (fun H locs hP hD hS => ?_)
                                      obtain ⟨V706, hV706⟩ : ∃ z, z = up2 V619 24 (Int32.toNatClampNeg z5) 0 := ⟨_, rfl⟩
                                      have hP : va_P D vwCl (mw ad kk ks.1 V706 L609) H := by rw [hV706]; exact hP
                                      have hD : va_D A (mw ad kk ks.1 V706 L609) := by rw [hV706]; exact hD
                                      have hMV706 : rgd bM V706 := hMV619.put hV706 (show 0 ≤ Int32.toInt 0 ∧ Int32.toInt 0 ≤ 9 from by decide)
                                      have agV706 : agr [(0, 7), (0, 8), (0, 48), (0, 50), (0, 51), (0, 52)] [15, 19, 20, 21, 22, 23, 24, 25, 26, 27, 28, 29, 30, 31, 32, 33, 34, 35, 36, 37, 38, 45, 46, 47, 53] V V706 := agV619.up hV706 rfl
                                      have pq707 : (V706 0 48).toInt = ((V 0 48)).toInt := congrArg Int32.toInt ((up2_o hV706 (by decide)).trans ((ajV619 0 48 rfl).trans ((ajV608 0 48 rfl).trans ((up2_o hV402 (by decide)).trans ((ajV391 0 48 rfl).trans ((ajV369 0 48 rfl).trans ((ajV350 0 48 rfl).trans ((ajV47 0 48 rfl).trans ((ajV42 0 48 rfl).trans ((ajV29 0 48 rfl).trans (ajV13 0 48 rfl)))))))))))
                                      have pq708 : (V706 0 12).toInt = ((V 0 12)).toInt := congrArg Int32.toInt ((up2_o hV706 (by decide)).trans ((ajV619 0 12 rfl).trans ((ajV608 0 12 rfl).trans ((up2_o hV402 (by decide)).trans ((ajV391 0 12 rfl).trans ((ajV369 0 12 rfl).trans ((ajV350 0 12 rfl).trans ((ajV47 0 12 rfl).trans ((ajV42 0 12 rfl).trans ((ajV29 0 12 rfl).trans (ajV13 0 12 rfl)))))))))))
                                      have hr709 : ∀ k, Rc gT (Crun gs (Istmt :: k)) (Crun s1 (IwhenI m1 c1 wx32 [0, ca1] :: k)) := fun k => Rc.go1 (h1 k) (rank_n m1 c1 wx32 [ca1] kd701)
                                      have rl710 : RelM V706 L609 bq gn gT s1 (gs.2.1 2) := RelM.ag rl623 (show agr [] [24] V619 V706 from (agr.up agr.rf hV706 rfl)) (by decide) (show agL [] L609 L609 from agL.rf) (by decide)
                                      have hj711 := d1
                                      have hj712 := e1
                                      have pq713 : (V706 22 gc).toInt = ((V402 22 gc)).toInt := congrArg Int32.toInt ((up2_o hV706 (by decide)).trans ((ajV619 22 gc rfl).trans (ajV608 22 gc rfl)))
                                      have pq714 : (V608 22 gc).toInt = ((V402 22 gc)).toInt := congrArg Int32.toInt (ajV608 22 gc rfl)
                                      have pq715 : (V706 23 gc).toInt = ((V608 23 gc)).toInt := congrArg Int32.toInt ((up2_o hV706 (by decide)).trans (ajV619 23 gc rfl))
                                      have pq716 : (V706 24 (Int32.toNatClampNeg z5)).toInt = 0 := (congrArg Int32.toInt (up2_s hV706)).trans (by decide)
                                      have gv717 : (V706 24 gc).toInt = (V706 24 (Int32.toNatClampNeg z5)).toInt := by rw [kgc]
                                      have cn718 : CNm V619 bq gs := CNm.ag (xJ607_1 f7) (show agr [(0, 7)] [] V608 V619 from (agr.tr agr.rf ajV619 (by decide) (by decide))) (by decide) keepC.rf
                                      have cn719 : CNm V706 bq gs := CNm.up cn718 hV706 (fun q9 => by as_aux_lemma => have h9 := i_clamp (x := z5) rfl (by as_aux_lemma => (first | exact om_89f771ec639b r2.1 hz3 r4.1 hz5 | omega)); unfold rdm at q9; omega)
                                      have cd720 : CDm V706 (10000 * bq) gs := CDm.ag (xJ607_2 f7).1 (show agr [(0, 7)] [24] V608 V706 from (agr.up (agr.tr agr.rf ajV619 (by decide) (by decide)) hV706 rfl)) ⟨rfl, rfl, fun _ => ⟨rfl, rfl, rfl⟩⟩
                                      have re721 : REm V706 bq gs := REm.ag (xJ607_2 f7).2.1 (show agr [(0, 7)] [24] V608 V706 from (agr.up (agr.tr agr.rf ajV619 (by decide) (by decide)) hV706 rfl)) (fun _ => ⟨rfl, rfl, rfl⟩) keepE.rf rfl
                                      have wm722 : WMm V706 bq gs := WMm.ag (xJ607_2 f7).2.2 (show agr [(0, 7)] [24] V608 V706 from (agr.up (agr.tr agr.rf ajV619 (by decide) (by decide)) hV706 rfl)) (fun _ => ⟨rfl, rfl, rfl, rfl, rfl⟩) (fun _ _ _ => rfl) rfl
                                      have rw723 : RoV 19 bq V V706 := (fun k hk => ((up2_o hV706 (by decide)).trans ((ajV619 19 k rfl).trans (xJ607_6 k hk))))
                                      have rw724 : RoV 35 bq V V706 := (fun k hk => ((up2_o hV706 (by decide)).trans ((ajV619 35 k rfl).trans (xJ607_7 k hk))))
                                      have rw725 : RoV 37 bq V V706 := (fun k hk => ((up2_o hV706 (by decide)).trans ((ajV619 37 k rfl).trans (xJ607_8 k hk))))
                                      have rw726 : RoL 20 24 bq L L609 := (fun k hk => (xJ607_9 k hk))
                                      have rw727 : RoL 36 20 bq L L609 := (fun k hk => (xJ607_10 k hk))
                                      have rw728 : RoL 38 20 bq L L609 := (fun k hk => (xJ607_11 k hk))
                                      exact J403 V706 L609 H locs ls alL609 (agr.up (agr.tr (agr.tr agr.rf ajV608 (by decide) (by decide)) ajV619 (by decide) (by decide)) hV706 rfl) hMV706 (Or.inl ⟨W0 rl710, s1, s0, m1, c1, ca1, 0, hr709, rl710, keepS.le (keepS.tr (keepS.rf : keepS (scopeS s0) 0 (scopeS s0)) k1) (by decide), t1, w1, (by as_aux_lemma => omega), ⟨q1.1, q1.2⟩, (BTm.ag b1 (by rw [(up2_fo hV706 (by decide) : V706 21 = V619 21), (funext (fun q => ajV619 21 q rfl) : V619 21 = V608 21)] : V706 21 = V608 21)), (show (V706 22 gc).toInt = _ from by as_aux_lemma => omega), (show (V706 23 gc).toInt + 1 = _ from by as_aux_lemma => omega), (show (V706 24 gc).toInt = _ from by as_aux_lemma => omega)⟩) (fun _ => cn719) (fun _ => ⟨cd720, re721, wm722⟩) (show (V706 0 48).toInt ≤ 8000 from by as_aux_lemma => (first | exact om_17124963473a xJ607_3 pq610 pq707 | omega)) (show (V706 0 48).toInt = (V 0 48).toInt from by as_aux_lemma => (first | exact om_570b691c1130 pq707 | omega)) (show (V706 0 12).toInt = (V 0 12).toInt from by as_aux_lemma => (first | exact om_570b691c1130 pq708 | omega)) rw723 rw724 rw725 rw726 rw727 rw728 hP hD hS (lv_sub hl [0, 1, 2, 3] rfl)
                                    · skip
                                      have f729 : z615.toInt ≠ 0 := b_neq rfl (by decide) c704
                                      exfalso; (first | exact om_fb320d7600b7 rgz615.1 q621 f729 | omega)
                                · skip
                                  have r730 : 0 ≤ ((V608 0 8)).toInt ∧ ((V608 0 8)).toInt ≤ 70000 := hMV608 0 8
                                  refine lv_aload_n hx hb dX12_toldComponent_176 rfl (lv_at hl 3 rfl) ?_
                                  refine va_get (D := D) (ci := 12) (v := .ref (ad 24)) (C := RX12) (T := TX12) (N := 100) hx hb hg inX12 hown hK hP 0 rfl rfl 24 (by decide) (hg _ w1730) (fun _ h9 => h9) rfl dX12_toldComponent_177 ?_
                                  refine lv_iload_n hx hb dX12_toldComponent_180 rfl (lv_at hl 2 rfl) ?_
                                  refine lv_aload_n hx hb dX12_toldComponent_181 rfl (lv_at hl 3 rfl) ?_
                                  refine lv_bipush (v := 6) hx hb dX12_toldComponent_182 (by decide) ?_
                                  have r731 : Int32.toInt 6 = 6 := by decide
                                  refine gA_int (gA_runV (As := [.int 6]) (rest := [.int z5, .ref (ad 24)]) (ci := 12) (q0 := 0) hx hb hml hown hg hP hD hK hS hA hnw hgk (s_hasWordB l D ks H.size ad kk V608 L609 6 hMV608 (by decide) (show 1 ≤ (V608 0 8).toInt from by as_aux_lemma => (first | exact om_f8d8213eda45 f7 | omega))) w2051 w2053 w90 w172 w2054 rfl rfl hdV_yX12_hasWord ⟨Nat.le_of_ble_eq_true rfl, Nat.le_of_ble_eq_true rfl⟩ rfl hl.1 rfl (Nat.le_of_ble_eq_true rfl) dX12_toldComponent_184 ⟨Nat.le_of_ble_eq_true rfl, Nat.le_of_ble_eq_true rfl⟩) hP hD hK hS hA (fun z732 u733 H locs w734 hP hD hK hS => ?_)
                                  obtain ⟨V736, L737⟩ := u733
                                  obtain ⟨hMV736, ajV736, axL737, rgz732, t735⟩ := w734
                                  have axL737 : L609 = L737 := Eq.symm axL737
                                  subst axL737
                                  replace hP : va_P D vwCl (mw ad kk ks.1 V736 L609) H := hP
                                  replace hD : va_D A (mw ad kk ks.1 V736 L609) := hD
                                  replace hMV736 : rgd bM V736 := hMV736
                                  replace ajV736 : agr [(0, 7)] [] V608 V736 := ajV736
                                  have agV736 : agr [(0, 7), (0, 8), (0, 48), (0, 50), (0, 51), (0, 52)] [15, 19, 20, 21, 22, 23, 24, 25, 26, 27, 28, 29, 30, 31, 32, 33, 34, 35, 36, 37, 38, 45, 46, 47, 53] V V736 := agV608.tr ajV736 (by decide) (by decide)
                                  replace rgz732 : 0 ≤ z732.toInt ∧ z732.toInt ≤ 0 := rgz732
                                  replace t735 : (V736 0 8).toInt = (V608 0 8).toInt := t735
                                  have pq738 : (V736 0 8).toInt = ((V608 0 8)).toInt := congrArg Int32.toInt (ajV736 0 8 rfl)
                                  refine lv_if_eq (tgt := 200) hx hb dX12_toldComponent_187 (by decide) (fun c739 => ?_) (fun c739 => ?_)
                                  · skip
                                    have f740 : z732.toInt = 0 := b_eq rfl (by decide) c739
                                    refine lv_iconst (v := 0) hx hb dX12_toldComponent_200 (by decide) ?_
                                    refine va_iast (D := D) (i := z5) (x := 0) hx hb hK hP hD hS 17 16 rfl rfl (i_in (a := z5.toInt) rfl (by as_aux_lemma => (first | exact om_aa704d15899a r2.1 r2.2 hz3 r4.1 r4.2 hz5 f7 | omega))) dX12_toldComponent_201 (fun H locs hP hD hS => ?_)
                                    obtain ⟨V741, hV741⟩ : ∃ z, z = up2 V736 24 (Int32.toNatClampNeg z5) 0 := ⟨_, rfl⟩
                                    have hP : va_P D vwCl (mw ad kk ks.1 V741 L609) H := by rw [hV741]; exact hP
                                    have hD : va_D A (mw ad kk ks.1 V741 L609) := by rw [hV741]; exact hD
                                    have hMV741 : rgd bM V741 := hMV736.put hV741 (show 0 ≤ Int32.toInt 0 ∧ Int32.toInt 0 ≤ 9 from by decide)
                                    have agV741 : agr [(0, 7), (0, 8), (0, 48), (0, 50), (0, 51), (0, 52)] [15, 19, 20, 21, 22, 23, 24, 25, 26, 27, 28, 29, 30, 31, 32, 33, 34, 35, 36, 37, 38, 45, 46, 47, 53] V V741 := agV736.up hV741 rfl
                                    have pq742 : (V741 0 48).toInt = ((V 0 48)).toInt := congrArg Int32.toInt ((up2_o hV741 (by decide)).trans ((ajV736 0 48 rfl).trans ((ajV608 0 48 rfl).trans ((up2_o hV402 (by decide)).trans ((ajV391 0 48 rfl).trans ((ajV369 0 48 rfl).trans ((ajV350 0 48 rfl).trans ((ajV47 0 48 rfl).trans ((ajV42 0 48 rfl).trans ((ajV29 0 48 rfl).trans (ajV13 0 48 rfl)))))))))))
                                    have pq743 : (V741 0 12).toInt = ((V 0 12)).toInt := congrArg Int32.toInt ((up2_o hV741 (by decide)).trans ((ajV736 0 12 rfl).trans ((ajV608 0 12 rfl).trans ((up2_o hV402 (by decide)).trans ((ajV391 0 12 rfl).trans ((ajV369 0 12 rfl).trans ((ajV350 0 12 rfl).trans ((ajV47 0 12 rfl).trans ((ajV42 0 12 rfl).trans ((ajV29 0 12 rfl).trans (ajV13 0 12 rfl)))))))))))
                                    have pq744 : (V741 0 8).toInt = ((V608 0 8)).toInt := congrArg Int32.toInt ((up2_o hV741 (by decide)).trans (ajV736 0 8 rfl))
                                    have rw745 : RoV 19 bq V V741 := (fun k hk => ((up2_o hV741 (by decide)).trans ((ajV736 19 k rfl).trans (xJ607_6 k hk))))
                                    have rw746 : RoV 35 bq V V741 := (fun k hk => ((up2_o hV741 (by decide)).trans ((ajV736 35 k rfl).trans (xJ607_7 k hk))))
                                    have rw747 : RoV 37 bq V V741 := (fun k hk => ((up2_o hV741 (by decide)).trans ((ajV736 37 k rfl).trans (xJ607_8 k hk))))
                                    have rw748 : RoL 20 24 bq L L609 := (fun k hk => (xJ607_9 k hk))
                                    have rw749 : RoL 36 20 bq L L609 := (fun k hk => (xJ607_10 k hk))
                                    have rw750 : RoL 38 20 bq L L609 := (fun k hk => (xJ607_11 k hk))
                                    exact J403 V741 L609 H locs ls alL609 (agr.up (agr.tr (agr.tr agr.rf ajV608 (by decide) (by decide)) ajV736 (by decide) (by decide)) hV741 rfl) hMV741 (Or.inr ⟨(show 1 ≤ (V741 0 8).toInt from by as_aux_lemma => (first | exact om_e3c391a03e81 f7 pq744 | omega)), (fun k => by rw [show (V741 0 8).toInt = (V608 0 8).toInt from by as_aux_lemma => omega]; exact h1 k)⟩) (fun h9 => by exfalso; omega) (fun h9 => by exfalso; omega) (show (V741 0 48).toInt ≤ 8000 from by as_aux_lemma => (first | exact om_17124963473a xJ607_3 pq610 pq742 | omega)) (show (V741 0 48).toInt = (V 0 48).toInt from by as_aux_lemma => (first | exact om_570b691c1130 pq742 | omega)) (show (V741 0 12).toInt = (V 0 12).toInt from by as_aux_lemma => (first | exact om_570b691c1130 pq743 | omega)) rw745 rw746 rw747 rw748 rw749 rw750 hP hD hS (lv_sub hl [0, 1, 2, 3] rfl)
                                  · skip
                                    have f751 : z732.toInt ≠ 0 := b_neq rfl (by decide) c739
                                    exfalso; (first | exact om_0e608cc4b4f6 rgz732.1 rgz732.2 f751 | omega)
                              refine lv_aload_n hx hb dX12_toldComponent_146 rfl (lv_at hl 3 rfl) ?_
                              refine va_get (D := D) (ci := 12) (v := .ref (ad 23)) (C := RX12) (T := TX12) (N := 100) hx hb hg inX12 hown hK hP 0 rfl rfl 23 (by decide) (hg _ w1729) (fun _ h9 => h9) rfl dX12_toldComponent_147 ?_
                              refine lv_iload_n hx hb dX12_toldComponent_150 rfl (lv_at hl 2 rfl) ?_
                              refine lv_aload_n hx hb dX12_toldComponent_151 rfl (lv_at hl 3 rfl) ?_
                              refine lv_iconst (v := 5) hx hb dX12_toldComponent_152 (by decide) ?_
                              have rl752 : RelM V402 L bq gn gT (scopeS sx372) (gs.2.1 2) := RelM.ag rl398 (show agr [] [22] V391 V402 from (agr.up agr.rf hV402 rfl)) (by decide) (show agL [] L L from agL.rf) (by decide)
                              have r753 : Int32.toInt 5 = 5 := by decide
                              refine gA_int (gA_runV (As := [.int 5]) (rest := [.int z5, .ref (ad 23)]) (ci := 12) (q0 := 0) hx hb hml hown hg hP hD hK hS hA hnw hgk (s_hasWordA l D ks H.size ad kk V402 L 5 (bq) (gn) (gT) ((scopeS sx372)) ((gs.2.1 2)) hMV402 (by decide) rl752) w2051 w2053 w90 w172 w2054 rfl rfl hdV_yX12_hasWord ⟨Nat.le_of_ble_eq_true rfl, Nat.le_of_ble_eq_true rfl⟩ rfl hl.1 rfl (Nat.le_of_ble_eq_true rfl) dX12_toldComponent_153 ⟨Nat.le_of_ble_eq_true rfl, Nat.le_of_ble_eq_true rfl⟩) hP hD hK hS hA (fun z754 u755 H locs w756 hP hD hK hS => ?_)
                              obtain ⟨V758, L759⟩ := u755
                              obtain ⟨hMV758, ajV758, axL759, rgz754, t757⟩ := w756
                              have axL759 : L = L759 := Eq.symm axL759
                              subst axL759
                              replace hP : va_P D vwCl (mw ad kk ks.1 V758 L) H := hP
                              replace hD : va_D A (mw ad kk ks.1 V758 L) := hD
                              replace hMV758 : rgd bM V758 := hMV758
                              replace ajV758 : agr [(0, 7)] [] V402 V758 := ajV758
                              have agV758 : agr [(0, 7), (0, 8), (0, 48), (0, 50), (0, 51), (0, 52)] [15, 19, 20, 21, 22, 23, 24, 25, 26, 27, 28, 29, 30, 31, 32, 33, 34, 35, 36, 37, 38, 45, 46, 47, 53] V V758 := agV402.tr ajV758 (by decide) (by decide)
                              replace rgz754 : 0 ≤ z754.toInt ∧ z754.toInt ≤ 1 := rgz754
                              replace t757 : (z754.toInt = 1 ∧ (gT).1 (((scopeS sx372)).1 0) = 128 + (Int32.toInt 5) ∧ RelM V758 L (bq) (gn) (gT) (nx ((scopeS sx372)) 1) ((gs.2.1 2))) ∨ (z754.toInt = 0 ∧ (gT).1 (((scopeS sx372)).1 0) ≠ 128 + (Int32.toInt 5) ∧ RelM V758 L (bq) (gn) (gT) ((scopeS sx372)) ((gs.2.1 2))) := t757
                              rcases t757 with ⟨q760, h761, rl762⟩ | ⟨q760, h761, rl762⟩
                              · skip
                                have kd763 : gT.1 ((scopeS sx372).1 0) = 133 := h761.trans (by decide)
                                have hr764 : ∀ k, Rc gT (Crun gs (Istmt :: k)) (Crun (nx (scopeS sx372) 1) (IwordH (msk sx372.1 sn373) (gT.1 (sx372.1 0) - 148) wx32 :: k)) := fun k => Rc.go1 (hr396 k) (calledH_y (msk sx372.1 sn373) (gT.1 (sx372.1 0) - 148) wx32 kd763)
                                have ps765 : (nx (scopeS sx372) 1).1 0 = (scopeS sx372).1 0 + 1 := rfl
                                have fz766 := RelM.rg rl762
                                have pq767 : (V758 0 8).toInt = ((V391 0 8)).toInt := congrArg Int32.toInt ((ajV758 0 8 rfl).trans (up2_o hV402 (by decide)))
                                refine lv_if_eq (tgt := 174) hx hb dX12_toldComponent_156 (by decide) (fun c768 => ?_) (fun c768 => ?_)
                                · skip
                                  have f769 : z754.toInt = 0 := b_eq rfl (by decide) c768
                                  exfalso; (first | exact om_495ee03a60ae q760 f769 | omega)
                                · skip
                                  have f770 : z754.toInt ≠ 0 := b_neq rfl (by decide) c768
                                  refine lv_aload_n hx hb dX12_toldComponent_159 rfl (lv_at hl 3 rfl) ?_
                                  refine lv_aload_n hx hb dX12_toldComponent_160 rfl (lv_at hl 3 rfl) ?_
                                  refine va_get (D := D) (ci := 12) (v := .ref (ad 38)) (C := RX12) (T := TX12) (N := 100) hx hb hg inX12 hown hK hP 0 rfl rfl 38 (by decide) (hg _ w1744) (fun _ h9 => h9) rfl dX12_toldComponent_161 ?_
                                  refine lv_aload_n hx hb dX12_toldComponent_164 rfl (lv_at hl 3 rfl) ?_
                                  refine va_get (D := D) (ci := 12) (v := .ref (ad 37)) (C := RX12) (T := TX12) (N := 100) hx hb hg inX12 hown hK hP 0 rfl rfl 37 (by decide) (hg _ w1743) (fun _ h9 => h9) rfl dX12_toldComponent_165 ?_
                                  refine gA_int (gA_runV (As := [.ref (ad 38), .ref (ad 37)]) (rest := [.int z5, .ref (ad 23)]) (ci := 12) (q0 := 0) hx hb hml hown hg hP hD hK hS hA hnw hgk (s_takeWordOf4 l D ks H.size ad kk V758 L (bq) (gn) (gT) ((nx (scopeS sx372) 1)) ((gs.2.1 2)) hMV758 rl762) w2100 w2102 w102 w172 w2103 rfl rfl hdV_yX12_takeWordOf ⟨Nat.le_of_ble_eq_true rfl, Nat.le_of_ble_eq_true rfl⟩ rfl hl.1 rfl (Nat.le_of_ble_eq_true rfl) dX12_toldComponent_168 ⟨Nat.le_of_ble_eq_true rfl, Nat.le_of_ble_eq_true rfl⟩) hP hD hK hS hA (fun z771 u772 H locs w773 hP hD hK hS => ?_)
                                  obtain ⟨V779, L780⟩ := u772
                                  obtain ⟨hMV779, ajV779, axL780, rgz771, t774, t775, t776, t777, t778⟩ := w773
                                  have alL780 : agL [15, 19, 20, 21, 22, 23, 24, 25, 26, 27, 28, 29, 30, 31, 32, 33, 34, 35, 36, 37, 38, 45, 46, 47, 53] L L780 := agL.tr alL axL780 (by decide)
                                  replace hP : va_P D vwCl (mw ad kk ks.1 V779 L780) H := hP
                                  replace hD : va_D A (mw ad kk ks.1 V779 L780) := hD
                                  replace hMV779 : rgd bM V779 := hMV779
                                  replace ajV779 : agr [(0, 7), (0, 8)] [35, 36, 37, 38] V758 V779 := ajV779
                                  have agV779 : agr [(0, 7), (0, 8), (0, 48), (0, 50), (0, 51), (0, 52)] [15, 19, 20, 21, 22, 23, 24, 25, 26, 27, 28, 29, 30, 31, 32, 33, 34, 35, 36, 37, 38, 45, 46, 47, 53] V V779 := agV758.tr ajV779 (by decide) (by decide)
                                  replace rgz771 : (-1) ≤ z771.toInt ∧ z771.toInt ≤ 19 := rgz771
                                  replace t774 : KmS (mthW (gT) ((nx (scopeS sx372) 1)) 4) (V779 0 8).toInt (fun x9 => RelM V779 L780 (bq) (gn) (gT) x9.2 ((gs.2.1 2)) ∧ z771.toInt = ((x9.1 : Nat) : Int) ∧ x9.1 < 20 ∧ keepS ((nx (scopeS sx372) 1)) 1 x9.2 ∧ MTX (gT) ((nx (scopeS sx372) 1)) 4 x9) := t774
                                  replace t775 : RoV 35 (bq) V758 V779 := t775
                                  replace t776 : RoV 37 (bq) V758 V779 := t776
                                  replace t777 : RoL 36 20 (bq) L L780 := t777
                                  replace t778 : RoL 38 20 (bq) L L780 := t778
                                  rcases t774 with ⟨q781, mx782, h783, rl784, hf785, hb786, kp787, mt788⟩ | ⟨q781, h783⟩
                                  · skip
                                    have ps789 := kp787.1
                                    have hr790 : ∀ k, Rc gT (Crun gs (Istmt :: k)) (Crun mx782.2 (Irank (msk sx372.1 sn373) (gT.1 (sx372.1 0) - 148) wx32 [mx782.1 + 1] :: k)) := fun k => Rc.go1 (hr764 k) (wh_y h783)
                                    have fz791 := RelM.rg rl784
                                    have r792 : 0 ≤ ((V779 0 8)).toInt ∧ ((V779 0 8)).toInt ≤ 70000 := hMV779 0 8
                                    refine lv_goto (tgt := 175) hx hb dX12_toldComponent_171 (by decide) ?_
                                    refine va_iast (D := D) (i := z5) (x := z771) hx hb hK hP hD hS 16 15 rfl rfl (i_in (a := z5.toInt) rfl (by as_aux_lemma => (first | exact om_aa704d15899a r2.1 r2.2 hz3 r4.1 r4.2 hz5 f7 | omega))) dX12_toldComponent_175 (fun H locs hP hD hS => ?_)
                                    obtain ⟨V793, hV793⟩ : ∃ z, z = up2 V779 23 (Int32.toNatClampNeg z5) z771 := ⟨_, rfl⟩
                                    have hP : va_P D vwCl (mw ad kk ks.1 V793 L780) H := by rw [hV793]; exact hP
                                    have hD : va_D A (mw ad kk ks.1 V793 L780) := by rw [hV793]; exact hD
                                    have hMV793 : rgd bM V793 := hMV779.put hV793 (i_full _)
                                    have agV793 : agr [(0, 7), (0, 8), (0, 48), (0, 50), (0, 51), (0, 52)] [15, 19, 20, 21, 22, 23, 24, 25, 26, 27, 28, 29, 30, 31, 32, 33, 34, 35, 36, 37, 38, 45, 46, 47, 53] V V793 := agV779.up hV793 rfl
                                    have pq794 : (V793 0 48).toInt = ((V 0 48)).toInt := congrArg Int32.toInt ((up2_o hV793 (by decide)).trans ((ajV779 0 48 rfl).trans ((ajV758 0 48 rfl).trans ((up2_o hV402 (by decide)).trans ((ajV391 0 48 rfl).trans ((ajV369 0 48 rfl).trans ((ajV350 0 48 rfl).trans ((ajV47 0 48 rfl).trans ((ajV42 0 48 rfl).trans ((ajV29 0 48 rfl).trans (ajV13 0 48 rfl)))))))))))
                                    have pq795 : (V793 0 12).toInt = ((V 0 12)).toInt := congrArg Int32.toInt ((up2_o hV793 (by decide)).trans ((ajV779 0 12 rfl).trans ((ajV758 0 12 rfl).trans ((up2_o hV402 (by decide)).trans ((ajV391 0 12 rfl).trans ((ajV369 0 12 rfl).trans ((ajV350 0 12 rfl).trans ((ajV47 0 12 rfl).trans ((ajV42 0 12 rfl).trans ((ajV29 0 12 rfl).trans (ajV13 0 12 rfl)))))))))))
                                    have rl796 : RelM V793 L780 bq gn gT mx782.2 (gs.2.1 2) := RelM.ag rl784 (show agr [] [23] V779 V793 from (agr.up agr.rf hV793 rfl)) (by decide) (show agL [] L780 L780 from agL.rf) (by decide)
                                    have bt797 : BTm V793 21 gc (msk sx372.1 sn373) := BTm.ag (by rw [msk_eq ((keepC.tr (keepC.rf : keepC (nx (nx (nx gs 1) 1) 1) (nx (nx (nx gs 1) 1) 1)) (keepS.c kp376))).1 sn373]; exact BTm.of0 un377 (fun g hg => by rw [show V350 21 = V42 21 from (by rw [(funext (fun q => ajV350 21 q rfl) : V350 21 = V47 21), (funext (fun q => ajV47 21 q rfl) : V47 21 = V42 21)] : V350 21 = V42 21)]; exact xlp43_0 g (by as_aux_lemma => omega))) (by rw [(up2_fo hV793 (by decide) : V793 21 = V779 21), (funext (fun q => ajV779 21 q rfl) : V779 21 = V758 21), (funext (fun q => ajV758 21 q rfl) : V758 21 = V402 21), (up2_fo hV402 (by decide) : V402 21 = V391 21), (funext (fun q => ajV391 21 q rfl) : V391 21 = V369 21)] : V793 21 = V369 21)
                                    have pq798 : (V793 22 (Int32.toNatClampNeg z5)).toInt = z387.toInt := congrArg Int32.toInt ((up2_o hV793 (by decide)).trans ((ajV779 22 (Int32.toNatClampNeg z5) rfl).trans ((ajV758 22 (Int32.toNatClampNeg z5) rfl).trans (up2_s hV402))))
                                    have gv799 : (V793 22 gc).toInt = (V793 22 (Int32.toNatClampNeg z5)).toInt := by rw [kgc]
                                    have pq800 : (V793 23 (Int32.toNatClampNeg z5)).toInt = z771.toInt := congrArg Int32.toInt (up2_s hV793)
                                    have gv801 : (V793 23 gc).toInt = (V793 23 (Int32.toNatClampNeg z5)).toInt := by rw [kgc]
                                    have ps802 : gs.1 0 + 1 ≤ (nx gs 1).1 0 := ((keepS.n1 1)).1
                                    have ps803 : (nx gs 1).1 0 + 1 ≤ (nx (nx gs 1) 1).1 0 := ((keepS.n1 1)).1
                                    have ps804 : (nx (nx gs 1) 1).1 0 + 1 ≤ (nx (nx (nx gs 1) 1) 1).1 0 := ((keepS.n1 1)).1
                                    have ps805 : (nx (nx (nx gs 1) 1) 1).1 0 + 1 ≤ sx372.1 0 := (kp376).1
                                    have ps806 : sx372.1 0 + 1 ≤ (nx sx372 1).1 0 := ((keepS.n1 1)).1
                                    have ps807 : (scopeS sx372).1 0 = (nx sx372 1).1 0 := rfl
                                    have ps808 : (scopeS sx372).1 0 + 1 ≤ (nx (scopeS sx372) 1).1 0 := ((keepS.n1 1)).1
                                    have ps809 : (nx (scopeS sx372) 1).1 0 + 1 ≤ mx782.2.1 0 := (kp787).1
                                    have cn810 : CNm V391 bq gs := CNm.ag cn384 (show agr [(0, 7), (0, 8)] [] V369 V391 from (agr.tr agr.rf ajV391 (by decide) (by decide))) (by decide) keepC.rf
                                    have cn811 : CNm V402 bq gs := CNm.up cn810 hV402 (fun q9 => by as_aux_lemma => have h9 := i_clamp (x := z5) rfl (by as_aux_lemma => (first | exact om_89f771ec639b r2.1 hz3 r4.1 hz5 | omega)); unfold rdm at q9; omega)
                                    have cn812 : CNm V779 bq gs := CNm.ag cn811 (show agr [(0, 7), (0, 8)] [35, 36, 37, 38] V402 V779 from (agr.tr (agr.tr agr.rf ajV758 (by decide) (by decide)) ajV779 (by decide) (by decide))) (by decide) keepC.rf
                                    have cn813 : CNm V793 bq gs := CNm.up cn812 hV793 (fun q9 => by as_aux_lemma => have h9 := i_clamp (x := z5) rfl (by as_aux_lemma => (first | exact om_89f771ec639b r2.1 hz3 r4.1 hz5 | omega)); unfold rdm at q9; omega)
                                    have cd814 : CDm V793 (10000 * bq) gs := CDm.ag cem.1 (show agr [(0, 7), (0, 8)] [15, 21, 22, 23, 34, 35, 36, 37, 38, 53] V V793 from (agr.up (agr.tr (agr.tr (agr.up (agr.tr (agr.tr (agr.tr (agr.tr (agr.tr (agr.tr (agr.tr agr.rf ajV13 (by decide) (by decide)) ajV29 (by decide) (by decide)) ajV42 (by decide) (by decide)) ajV47 (by decide) (by decide)) ajV350 (by decide) (by decide)) ajV369 (by decide) (by decide)) ajV391 (by decide) (by decide)) hV402 rfl) ajV758 (by decide) (by decide)) ajV779 (by decide) (by decide)) hV793 rfl)) ⟨rfl, rfl, fun _ => ⟨rfl, rfl, rfl⟩⟩
                                    have re815 : REm V793 bq gs := REm.ag xlp48_1 (show agr [(0, 7), (0, 8)] [15, 21, 22, 23, 35, 36, 37, 38, 53] V47 V793 from (agr.up (agr.tr (agr.tr (agr.up (agr.tr (agr.tr (agr.tr agr.rf ajV350 (by decide) (by decide)) ajV369 (by decide) (by decide)) ajV391 (by decide) (by decide)) hV402 rfl) ajV758 (by decide) (by decide)) ajV779 (by decide) (by decide)) hV793 rfl)) (fun _ => ⟨rfl, rfl, rfl⟩) keepE.rf rfl
                                    have wm816 : WMm V793 bq gs := WMm.ag cem.2.2 (show agr [(0, 7), (0, 8)] [15, 21, 22, 23, 34, 35, 36, 37, 38, 53] V V793 from (agr.up (agr.tr (agr.tr (agr.up (agr.tr (agr.tr (agr.tr (agr.tr (agr.tr (agr.tr (agr.tr agr.rf ajV13 (by decide) (by decide)) ajV29 (by decide) (by decide)) ajV42 (by decide) (by decide)) ajV47 (by decide) (by decide)) ajV350 (by decide) (by decide)) ajV369 (by decide) (by decide)) ajV391 (by decide) (by decide)) hV402 rfl) ajV758 (by decide) (by decide)) ajV779 (by decide) (by decide)) hV793 rfl)) (fun _ => ⟨rfl, rfl, rfl, rfl, rfl⟩) (fun _ _ _ => rfl) rfl
                                    have rw817 : RoV 19 bq V V793 := (fun k hk => ((up2_o hV793 (by decide)).trans ((ajV779 19 k rfl).trans ((ajV758 19 k rfl).trans ((up2_o hV402 (by decide)).trans ((ajV391 19 k rfl).trans ((ajV369 19 k rfl).trans ((ajV350 19 k rfl).trans (xlp48_2 k hk)))))))))
                                    have rw818 : RoV 35 bq V V793 := (fun k hk => ((up2_o hV793 (by decide)).trans ((t775 k hk).trans ((ajV758 35 k rfl).trans ((up2_o hV402 (by decide)).trans ((ajV391 35 k rfl).trans ((ajV369 35 k rfl).trans ((ajV350 35 k rfl).trans (xlp48_3 k hk)))))))))
                                    have rw819 : RoV 37 bq V V793 := (fun k hk => ((up2_o hV793 (by decide)).trans ((t776 k hk).trans ((ajV758 37 k rfl).trans ((up2_o hV402 (by decide)).trans ((ajV391 37 k rfl).trans ((ajV369 37 k rfl).trans ((ajV350 37 k rfl).trans (xlp48_4 k hk)))))))))
                                    have rw820 : RoL 20 24 bq L L780 := (fun k hk => ((axL780 20 k rfl).trans rfl))
                                    have rw821 : RoL 36 20 bq L L780 := (fun k hk => ((t777 k hk).trans rfl))
                                    have rw822 : RoL 38 20 bq L L780 := (fun k hk => ((t778 k hk).trans rfl))
                                    exact J607 V793 L780 H locs ls alL780 (agr.up (agr.tr (agr.tr agr.rf ajV758 (by decide) (by decide)) ajV779 (by decide) (by decide)) hV793 rfl) hMV793 (Or.inl ⟨W0 rl796, mx782.2, sx372, (msk sx372.1 sn373), (gT.1 (sx372.1 0) - 148), mx782.1 + 1, hr790, rl796, keepS.le (keepS.tr (keepS.tr (keepS.rf : keepS (scopeS sx372) 0 (scopeS sx372)) (keepS.n1 1)) kp787) (by decide), (((kp787).2.2.1 2 (by decide)).trans ((((keepS.n1 1)).2.2.1 2 (by decide)).trans ((rfl : (scopeS sx372).2.1 2 = (nx sx372 1).2.1 2).trans ((((keepS.n1 1)).2.2.1 2 (by decide)).trans (((kp376).2.2.1 2 (by decide)).trans ((((keepS.n1 1)).2.2.1 2 (by decide)).trans ((((keepS.n1 1)).2.2.1 2 (by decide)).trans ((((keepS.n1 1)).2.2.1 2 (by decide)).trans (rfl : gs.2.1 2 = gs.2.1 2))))))))), ((congrArg (fun q9 => q9.1) (kp787).2.2.2).trans ((congrArg (fun q9 => q9.1) ((keepS.n1 1)).2.2.2).trans ((rfl : (scopeS sx372).2.2.1 = (nx sx372 1).2.2.1).trans ((congrArg (fun q9 => q9.1) ((keepS.n1 1)).2.2.2).trans ((congrArg (fun q9 => q9.1) (kp376).2.2.2).trans ((congrArg (fun q9 => q9.1) ((keepS.n1 1)).2.2.2).trans ((congrArg (fun q9 => q9.1) ((keepS.n1 1)).2.2.2).trans ((congrArg (fun q9 => q9.1) ((keepS.n1 1)).2.2.2).trans (rfl : gs.2.2.1 = gs.2.2.1))))))))), (by as_aux_lemma => omega), ⟨(keepC.tr (keepC.tr (keepC.tr (keepC.tr (keepC.tr (keepC.tr (keepC.tr (keepC.tr (keepC.rf : keepC gs gs) (keepS.c (keepS.n1 1))) (keepS.c (keepS.n1 1))) (keepS.c (keepS.n1 1))) (keepS.c kp376)) (keepS.c (keepS.n1 1))) (keepC.sc : keepC (nx sx372 1) (scopeS sx372))) (keepS.c (keepS.n1 1))) (keepS.c kp787)), (show keepL gs mx782.2 from fun j9 h9 => ((show ∀ j9, 5 ≤ j9 → mx782.2.2.1 j9 = (nx (scopeS sx372) 1).2.1 j9 from (mth_e (j0 := 4) (by decide) h783)) j9 h9).trans ((show keepL gs (nx (scopeS sx372) 1) from fun j9 h9 => ((show ∀ j9, 5 ≤ j9 → (nx (scopeS sx372) 1).2.1 j9 = (scopeS sx372).2.1 j9 from fun _ _ => rfl) j9 h9).trans ((show keepL gs (scopeS sx372) from fun j9 h9 => ((show ∀ j9, 5 ≤ j9 → (scopeS sx372).2.1 j9 = (nx sx372 1).2.1 j9 from fun _ _ => rfl) j9 h9).trans ((show keepL gs (nx sx372 1) from fun j9 h9 => ((show ∀ j9, 5 ≤ j9 → (nx sx372 1).2.1 j9 = sx372.2.1 j9 from fun _ _ => rfl) j9 h9).trans ((show keepL gs sx372 from fun j9 h9 => ((show ∀ j9, 5 ≤ j9 → sx372.2.1 j9 = (nx (nx (nx gs 1) 1) 1).2.1 j9 from ll379) j9 h9).trans ((show keepL gs (nx (nx (nx gs 1) 1) 1) from fun j9 h9 => ((show ∀ j9, 5 ≤ j9 → (nx (nx (nx gs 1) 1) 1).2.1 j9 = (nx (nx gs 1) 1).2.1 j9 from fun _ _ => rfl) j9 h9).trans ((show keepL gs (nx (nx gs 1) 1) from fun j9 h9 => ((show ∀ j9, 5 ≤ j9 → (nx (nx gs 1) 1).2.1 j9 = (nx gs 1).2.1 j9 from fun _ _ => rfl) j9 h9).trans ((show keepL gs (nx gs 1) from fun j9 h9 => ((show ∀ j9, 5 ≤ j9 → (nx gs 1).2.1 j9 = gs.2.1 j9 from fun _ _ => rfl) j9 h9).trans ((show keepL gs gs from fun _ _ => rfl) j9 h9)) j9 h9)) j9 h9)) j9 h9)) j9 h9)) j9 h9)) j9 h9)) j9 h9))⟩, bt797, (show (V793 22 gc).toInt = _ from by as_aux_lemma => omega), (show (V793 23 gc).toInt + 1 = _ from by as_aux_lemma => omega)⟩) (fun _ => cn813) (fun _ => ⟨cd814, re815, wm816⟩) (show (V793 0 48).toInt ≤ 8000 from by as_aux_lemma => omega) (show (V793 0 48).toInt = (V 0 48).toInt from by as_aux_lemma => (first | exact om_570b691c1130 pq794 | omega)) (show (V793 0 12).toInt = (V 0 12).toInt from by as_aux_lemma => (first | exact om_570b691c1130 pq795 | omega)) rw817 rw818 rw819 rw820 rw821 rw822 hP hD hS (lv_sub hl [0, 1, 2, 3] rfl)
                                  · skip
                                    have hb823 : ∀ k, Rc gT (Crun gs (Istmt :: k)) (Cbad (V779 0 8).toInt) := fun k => Rc.go1 (hr764 k) (wh_b h783)
                                    have r824 : 0 ≤ ((V779 0 8)).toInt ∧ ((V779 0 8)).toInt ≤ 70000 := hMV779 0 8
                                    refine lv_goto (tgt := 175) hx hb dX12_toldComponent_171 (by decide) ?_
                                    refine va_iast (D := D) (i := z5) (x := z771) hx hb hK hP hD hS 16 15 rfl rfl (i_in (a := z5.toInt) rfl (by as_aux_lemma => (first | exact om_aa704d15899a r2.1 r2.2 hz3 r4.1 r4.2 hz5 f7 | omega))) dX12_toldComponent_175 (fun H locs hP hD hS => ?_)
                                    obtain ⟨V825, hV825⟩ : ∃ z, z = up2 V779 23 (Int32.toNatClampNeg z5) z771 := ⟨_, rfl⟩
                                    have hP : va_P D vwCl (mw ad kk ks.1 V825 L780) H := by rw [hV825]; exact hP
                                    have hD : va_D A (mw ad kk ks.1 V825 L780) := by rw [hV825]; exact hD
                                    have hMV825 : rgd bM V825 := hMV779.put hV825 (i_full _)
                                    have agV825 : agr [(0, 7), (0, 8), (0, 48), (0, 50), (0, 51), (0, 52)] [15, 19, 20, 21, 22, 23, 24, 25, 26, 27, 28, 29, 30, 31, 32, 33, 34, 35, 36, 37, 38, 45, 46, 47, 53] V V825 := agV779.up hV825 rfl
                                    have pq826 : (V825 0 48).toInt = ((V 0 48)).toInt := congrArg Int32.toInt ((up2_o hV825 (by decide)).trans ((ajV779 0 48 rfl).trans ((ajV758 0 48 rfl).trans ((up2_o hV402 (by decide)).trans ((ajV391 0 48 rfl).trans ((ajV369 0 48 rfl).trans ((ajV350 0 48 rfl).trans ((ajV47 0 48 rfl).trans ((ajV42 0 48 rfl).trans ((ajV29 0 48 rfl).trans (ajV13 0 48 rfl)))))))))))
                                    have pq827 : (V825 0 12).toInt = ((V 0 12)).toInt := congrArg Int32.toInt ((up2_o hV825 (by decide)).trans ((ajV779 0 12 rfl).trans ((ajV758 0 12 rfl).trans ((up2_o hV402 (by decide)).trans ((ajV391 0 12 rfl).trans ((ajV369 0 12 rfl).trans ((ajV350 0 12 rfl).trans ((ajV47 0 12 rfl).trans ((ajV42 0 12 rfl).trans ((ajV29 0 12 rfl).trans (ajV13 0 12 rfl)))))))))))
                                    have pq828 : (V825 0 8).toInt = ((V779 0 8)).toInt := congrArg Int32.toInt (up2_o hV825 (by decide))
                                    have rw829 : RoV 19 bq V V825 := (fun k hk => ((up2_o hV825 (by decide)).trans ((ajV779 19 k rfl).trans ((ajV758 19 k rfl).trans ((up2_o hV402 (by decide)).trans ((ajV391 19 k rfl).trans ((ajV369 19 k rfl).trans ((ajV350 19 k rfl).trans (xlp48_2 k hk)))))))))
                                    have rw830 : RoV 35 bq V V825 := (fun k hk => ((up2_o hV825 (by decide)).trans ((t775 k hk).trans ((ajV758 35 k rfl).trans ((up2_o hV402 (by decide)).trans ((ajV391 35 k rfl).trans ((ajV369 35 k rfl).trans ((ajV350 35 k rfl).trans (xlp48_3 k hk)))))))))
                                    have rw831 : RoV 37 bq V V825 := (fun k hk => ((up2_o hV825 (by decide)).trans ((t776 k hk).trans ((ajV758 37 k rfl).trans ((up2_o hV402 (by decide)).trans ((ajV391 37 k rfl).trans ((ajV369 37 k rfl).trans ((ajV350 37 k rfl).trans (xlp48_4 k hk)))))))))
                                    have rw832 : RoL 20 24 bq L L780 := (fun k hk => ((axL780 20 k rfl).trans rfl))
                                    have rw833 : RoL 36 20 bq L L780 := (fun k hk => ((t777 k hk).trans rfl))
                                    have rw834 : RoL 38 20 bq L L780 := (fun k hk => ((t778 k hk).trans rfl))
                                    exact J607 V825 L780 H locs ls alL780 (agr.up (agr.tr (agr.tr agr.rf ajV758 (by decide) (by decide)) ajV779 (by decide) (by decide)) hV825 rfl) hMV825 (Or.inr ⟨(show 1 ≤ (V825 0 8).toInt from by as_aux_lemma => omega), (fun k => by rw [show (V825 0 8).toInt = (V779 0 8).toInt from by as_aux_lemma => omega]; exact hb823 k)⟩) (fun h9 => by exfalso; omega) (fun h9 => by exfalso; omega) (show (V825 0 48).toInt ≤ 8000 from by as_aux_lemma => omega) (show (V825 0 48).toInt = (V 0 48).toInt from by as_aux_lemma => (first | exact om_570b691c1130 pq826 | omega)) (show (V825 0 12).toInt = (V 0 12).toInt from by as_aux_lemma => (first | exact om_570b691c1130 pq827 | omega)) rw829 rw830 rw831 rw832 rw833 rw834 hP hD hS (lv_sub hl [0, 1, 2, 3] rfl)
                              · skip
                                have kd835 : gT.1 ((scopeS sx372).1 0) ≠ 133 := fun h9 => h761 (h9.trans (by decide))
                                have fz836 := RelM.rg rl762
                                have pq837 : (V758 0 8).toInt = ((V391 0 8)).toInt := congrArg Int32.toInt ((ajV758 0 8 rfl).trans (up2_o hV402 (by decide)))
                                refine lv_if_eq (tgt := 174) hx hb dX12_toldComponent_156 (by decide) (fun c838 => ?_) (fun c838 => ?_)
                                · skip
                                  have f839 : z754.toInt = 0 := b_eq rfl (by decide) c838
                                  refine lv_iconst (v := (-1)) hx hb dX12_toldComponent_174 (by decide) ?_
                                  refine va_iast (D := D) (i := z5) (x := (-1)) hx hb hK hP hD hS 16 15 rfl rfl (i_in (a := z5.toInt) rfl (by as_aux_lemma => (first | exact om_aa704d15899a r2.1 r2.2 hz3 r4.1 r4.2 hz5 f7 | omega))) dX12_toldComponent_175 (fun H locs hP hD hS => ?_)
                                  obtain ⟨V840, hV840⟩ : ∃ z, z = up2 V758 23 (Int32.toNatClampNeg z5) (-1) := ⟨_, rfl⟩
                                  have hP : va_P D vwCl (mw ad kk ks.1 V840 L) H := by rw [hV840]; exact hP
                                  have hD : va_D A (mw ad kk ks.1 V840 L) := by rw [hV840]; exact hD
                                  have hMV840 : rgd bM V840 := hMV758.put hV840 (i_full _)
                                  have agV840 : agr [(0, 7), (0, 8), (0, 48), (0, 50), (0, 51), (0, 52)] [15, 19, 20, 21, 22, 23, 24, 25, 26, 27, 28, 29, 30, 31, 32, 33, 34, 35, 36, 37, 38, 45, 46, 47, 53] V V840 := agV758.up hV840 rfl
                                  have pq841 : (V840 0 48).toInt = ((V 0 48)).toInt := congrArg Int32.toInt ((up2_o hV840 (by decide)).trans ((ajV758 0 48 rfl).trans ((up2_o hV402 (by decide)).trans ((ajV391 0 48 rfl).trans ((ajV369 0 48 rfl).trans ((ajV350 0 48 rfl).trans ((ajV47 0 48 rfl).trans ((ajV42 0 48 rfl).trans ((ajV29 0 48 rfl).trans (ajV13 0 48 rfl))))))))))
                                  have pq842 : (V840 0 12).toInt = ((V 0 12)).toInt := congrArg Int32.toInt ((up2_o hV840 (by decide)).trans ((ajV758 0 12 rfl).trans ((up2_o hV402 (by decide)).trans ((ajV391 0 12 rfl).trans ((ajV369 0 12 rfl).trans ((ajV350 0 12 rfl).trans ((ajV47 0 12 rfl).trans ((ajV42 0 12 rfl).trans ((ajV29 0 12 rfl).trans (ajV13 0 12 rfl))))))))))
                                  have hr843 : ∀ k, Rc gT (Crun gs (Istmt :: k)) (Crun (scopeS sx372) (Irank (msk sx372.1 sn373) (gT.1 (sx372.1 0) - 148) wx32 [0] :: k)) := fun k => Rc.go1 (hr396 k) (calledH_n (msk sx372.1 sn373) (gT.1 (sx372.1 0) - 148) wx32 kd835)
                                  have rl844 : RelM V840 L bq gn gT (scopeS sx372) (gs.2.1 2) := RelM.ag rl762 (show agr [] [23] V758 V840 from (agr.up agr.rf hV840 rfl)) (by decide) (show agL [] L L from agL.rf) (by decide)
                                  have bt845 : BTm V840 21 gc (msk sx372.1 sn373) := BTm.ag (by rw [msk_eq ((keepC.tr (keepC.rf : keepC (nx (nx (nx gs 1) 1) 1) (nx (nx (nx gs 1) 1) 1)) (keepS.c kp376))).1 sn373]; exact BTm.of0 un377 (fun g hg => by rw [show V350 21 = V42 21 from (by rw [(funext (fun q => ajV350 21 q rfl) : V350 21 = V47 21), (funext (fun q => ajV47 21 q rfl) : V47 21 = V42 21)] : V350 21 = V42 21)]; exact xlp43_0 g (by as_aux_lemma => omega))) (by rw [(up2_fo hV840 (by decide) : V840 21 = V758 21), (funext (fun q => ajV758 21 q rfl) : V758 21 = V402 21), (up2_fo hV402 (by decide) : V402 21 = V391 21), (funext (fun q => ajV391 21 q rfl) : V391 21 = V369 21)] : V840 21 = V369 21)
                                  have pq846 : (V840 22 (Int32.toNatClampNeg z5)).toInt = z387.toInt := congrArg Int32.toInt ((up2_o hV840 (by decide)).trans ((ajV758 22 (Int32.toNatClampNeg z5) rfl).trans (up2_s hV402)))
                                  have gv847 : (V840 22 gc).toInt = (V840 22 (Int32.toNatClampNeg z5)).toInt := by rw [kgc]
                                  have pq848 : (V840 23 (Int32.toNatClampNeg z5)).toInt = (-1) := (congrArg Int32.toInt (up2_s hV840)).trans (by decide)
                                  have gv849 : (V840 23 gc).toInt = (V840 23 (Int32.toNatClampNeg z5)).toInt := by rw [kgc]
                                  have ps850 : gs.1 0 + 1 ≤ (nx gs 1).1 0 := ((keepS.n1 1)).1
                                  have ps851 : (nx gs 1).1 0 + 1 ≤ (nx (nx gs 1) 1).1 0 := ((keepS.n1 1)).1
                                  have ps852 : (nx (nx gs 1) 1).1 0 + 1 ≤ (nx (nx (nx gs 1) 1) 1).1 0 := ((keepS.n1 1)).1
                                  have ps853 : (nx (nx (nx gs 1) 1) 1).1 0 + 1 ≤ sx372.1 0 := (kp376).1
                                  have ps854 : sx372.1 0 + 1 ≤ (nx sx372 1).1 0 := ((keepS.n1 1)).1
                                  have ps855 : (scopeS sx372).1 0 = (nx sx372 1).1 0 := rfl
                                  have cn856 : CNm V391 bq gs := CNm.ag cn384 (show agr [(0, 7), (0, 8)] [] V369 V391 from (agr.tr agr.rf ajV391 (by decide) (by decide))) (by decide) keepC.rf
                                  have cn857 : CNm V402 bq gs := CNm.up cn856 hV402 (fun q9 => by as_aux_lemma => have h9 := i_clamp (x := z5) rfl (by as_aux_lemma => (first | exact om_89f771ec639b r2.1 hz3 r4.1 hz5 | omega)); unfold rdm at q9; omega)
                                  have cn858 : CNm V758 bq gs := CNm.ag cn857 (show agr [(0, 7)] [] V402 V758 from (agr.tr agr.rf ajV758 (by decide) (by decide))) (by decide) keepC.rf
                                  have cn859 : CNm V840 bq gs := CNm.up cn858 hV840 (fun q9 => by as_aux_lemma => have h9 := i_clamp (x := z5) rfl (by as_aux_lemma => (first | exact om_89f771ec639b r2.1 hz3 r4.1 hz5 | omega)); unfold rdm at q9; omega)
                                  have cd860 : CDm V840 (10000 * bq) gs := CDm.ag cem.1 (show agr [(0, 7), (0, 8)] [15, 21, 22, 23, 34, 53] V V840 from (agr.up (agr.tr (agr.up (agr.tr (agr.tr (agr.tr (agr.tr (agr.tr (agr.tr (agr.tr agr.rf ajV13 (by decide) (by decide)) ajV29 (by decide) (by decide)) ajV42 (by decide) (by decide)) ajV47 (by decide) (by decide)) ajV350 (by decide) (by decide)) ajV369 (by decide) (by decide)) ajV391 (by decide) (by decide)) hV402 rfl) ajV758 (by decide) (by decide)) hV840 rfl)) ⟨rfl, rfl, fun _ => ⟨rfl, rfl, rfl⟩⟩
                                  have re861 : REm V840 bq gs := REm.ag xlp48_1 (show agr [(0, 7), (0, 8)] [15, 21, 22, 23, 53] V47 V840 from (agr.up (agr.tr (agr.up (agr.tr (agr.tr (agr.tr agr.rf ajV350 (by decide) (by decide)) ajV369 (by decide) (by decide)) ajV391 (by decide) (by decide)) hV402 rfl) ajV758 (by decide) (by decide)) hV840 rfl)) (fun _ => ⟨rfl, rfl, rfl⟩) keepE.rf rfl
                                  have wm862 : WMm V840 bq gs := WMm.ag cem.2.2 (show agr [(0, 7), (0, 8)] [15, 21, 22, 23, 34, 53] V V840 from (agr.up (agr.tr (agr.up (agr.tr (agr.tr (agr.tr (agr.tr (agr.tr (agr.tr (agr.tr agr.rf ajV13 (by decide) (by decide)) ajV29 (by decide) (by decide)) ajV42 (by decide) (by decide)) ajV47 (by decide) (by decide)) ajV350 (by decide) (by decide)) ajV369 (by decide) (by decide)) ajV391 (by decide) (by decide)) hV402 rfl) ajV758 (by decide) (by decide)) hV840 rfl)) (fun _ => ⟨rfl, rfl, rfl, rfl, rfl⟩) (fun _ _ _ => rfl) rfl
                                  have rw863 : RoV 19 bq V V840 := (fun k hk => ((up2_o hV840 (by decide)).trans ((ajV758 19 k rfl).trans ((up2_o hV402 (by decide)).trans ((ajV391 19 k rfl).trans ((ajV369 19 k rfl).trans ((ajV350 19 k rfl).trans (xlp48_2 k hk))))))))
                                  have rw864 : RoV 35 bq V V840 := (fun k hk => ((up2_o hV840 (by decide)).trans ((ajV758 35 k rfl).trans ((up2_o hV402 (by decide)).trans ((ajV391 35 k rfl).trans ((ajV369 35 k rfl).trans ((ajV350 35 k rfl).trans (xlp48_3 k hk))))))))
                                  have rw865 : RoV 37 bq V V840 := (fun k hk => ((up2_o hV840 (by decide)).trans ((ajV758 37 k rfl).trans ((up2_o hV402 (by decide)).trans ((ajV391 37 k rfl).trans ((ajV369 37 k rfl).trans ((ajV350 37 k rfl).trans (xlp48_4 k hk))))))))
                                  have rw866 : RoL 20 24 bq L L := (fun k hk => rfl)
                                  have rw867 : RoL 36 20 bq L L := (fun k hk => rfl)
                                  have rw868 : RoL 38 20 bq L L := (fun k hk => rfl)
                                  exact J607 V840 L H locs ls alL (agr.up (agr.tr agr.rf ajV758 (by decide) (by decide)) hV840 rfl) hMV840 (Or.inl ⟨W0 rl844, (scopeS sx372), sx372, (msk sx372.1 sn373), (gT.1 (sx372.1 0) - 148), 0, hr843, rl844, keepS.le (keepS.rf : keepS (scopeS sx372) 0 (scopeS sx372)) (by decide), ((rfl : (scopeS sx372).2.1 2 = (nx sx372 1).2.1 2).trans ((((keepS.n1 1)).2.2.1 2 (by decide)).trans (((kp376).2.2.1 2 (by decide)).trans ((((keepS.n1 1)).2.2.1 2 (by decide)).trans ((((keepS.n1 1)).2.2.1 2 (by decide)).trans ((((keepS.n1 1)).2.2.1 2 (by decide)).trans (rfl : gs.2.1 2 = gs.2.1 2))))))), ((rfl : (scopeS sx372).2.2.1 = (nx sx372 1).2.2.1).trans ((congrArg (fun q9 => q9.1) ((keepS.n1 1)).2.2.2).trans ((congrArg (fun q9 => q9.1) (kp376).2.2.2).trans ((congrArg (fun q9 => q9.1) ((keepS.n1 1)).2.2.2).trans ((congrArg (fun q9 => q9.1) ((keepS.n1 1)).2.2.2).trans ((congrArg (fun q9 => q9.1) ((keepS.n1 1)).2.2.2).trans (rfl : gs.2.2.1 = gs.2.2.1))))))), (by as_aux_lemma => omega), ⟨(keepC.tr (keepC.tr (keepC.tr (keepC.tr (keepC.tr (keepC.tr (keepC.rf : keepC gs gs) (keepS.c (keepS.n1 1))) (keepS.c (keepS.n1 1))) (keepS.c (keepS.n1 1))) (keepS.c kp376)) (keepS.c (keepS.n1 1))) (keepC.sc : keepC (nx sx372 1) (scopeS sx372))), (show keepL gs (scopeS sx372) from fun j9 h9 => ((show ∀ j9, 5 ≤ j9 → (scopeS sx372).2.1 j9 = (nx sx372 1).2.1 j9 from fun _ _ => rfl) j9 h9).trans ((show keepL gs (nx sx372 1) from fun j9 h9 => ((show ∀ j9, 5 ≤ j9 → (nx sx372 1).2.1 j9 = sx372.2.1 j9 from fun _ _ => rfl) j9 h9).trans ((show keepL gs sx372 from fun j9 h9 => ((show ∀ j9, 5 ≤ j9 → sx372.2.1 j9 = (nx (nx (nx gs 1) 1) 1).2.1 j9 from ll379) j9 h9).trans ((show keepL gs (nx (nx (nx gs 1) 1) 1) from fun j9 h9 => ((show ∀ j9, 5 ≤ j9 → (nx (nx (nx gs 1) 1) 1).2.1 j9 = (nx (nx gs 1) 1).2.1 j9 from fun _ _ => rfl) j9 h9).trans ((show keepL gs (nx (nx gs 1) 1) from fun j9 h9 => ((show ∀ j9, 5 ≤ j9 → (nx (nx gs 1) 1).2.1 j9 = (nx gs 1).2.1 j9 from fun _ _ => rfl) j9 h9).trans ((show keepL gs (nx gs 1) from fun j9 h9 => ((show ∀ j9, 5 ≤ j9 → (nx gs 1).2.1 j9 = gs.2.1 j9 from fun _ _ => rfl) j9 h9).trans ((show keepL gs gs from fun _ _ => rfl) j9 h9)) j9 h9)) j9 h9)) j9 h9)) j9 h9)) j9 h9))⟩, bt845, (show (V840 22 gc).toInt = _ from by as_aux_lemma => omega), (show (V840 23 gc).toInt + 1 = _ from by as_aux_lemma => omega)⟩) (fun _ => cn859) (fun _ => ⟨cd860, re861, wm862⟩) (show (V840 0 48).toInt ≤ 8000 from by as_aux_lemma => omega) (show (V840 0 48).toInt = (V 0 48).toInt from by as_aux_lemma => (first | exact om_570b691c1130 pq841 | omega)) (show (V840 0 12).toInt = (V 0 12).toInt from by as_aux_lemma => (first | exact om_570b691c1130 pq842 | omega)) rw863 rw864 rw865 rw866 rw867 rw868 hP hD hS (lv_sub hl [0, 1, 2, 3] rfl)
                                · skip
                                  have f869 : z754.toInt ≠ 0 := b_neq rfl (by decide) c838
                                  exfalso; (first | exact om_fb320d7600b7 rgz754.1 q760 f869 | omega)
                            · skip
                              have hb870 : ∀ k, Rc gT (Crun gs (Istmt :: k)) (Cbad (V391 0 8).toInt) := fun k => Rc.go1 (hr385 k) ((sc_n wx32 sn373 (by as_aux_lemma => omega)).trans (fl_eq rfl rl395))
                              have r871 : 0 ≤ ((V391 0 8)).toInt ∧ ((V391 0 8)).toInt ≤ 70000 := hMV391 0 8
                              refine va_iast (D := D) (i := z5) (x := z387) hx hb hK hP hD hS 15 14 rfl rfl (i_in (a := z5.toInt) rfl (by as_aux_lemma => (first | exact om_aa704d15899a r2.1 r2.2 hz3 r4.1 r4.2 hz5 f7 | omega))) dX12_toldComponent_145 (fun H locs hP hD hS => ?_)
                              obtain ⟨V872, hV872⟩ : ∃ z, z = up2 V391 22 (Int32.toNatClampNeg z5) z387 := ⟨_, rfl⟩
                              have hP : va_P D vwCl (mw ad kk ks.1 V872 L) H := by rw [hV872]; exact hP
                              have hD : va_D A (mw ad kk ks.1 V872 L) := by rw [hV872]; exact hD
                              have hMV872 : rgd bM V872 := hMV391.put hV872 (i_full _)
                              have agV872 : agr [(0, 7), (0, 8), (0, 48), (0, 50), (0, 51), (0, 52)] [15, 19, 20, 21, 22, 23, 24, 25, 26, 27, 28, 29, 30, 31, 32, 33, 34, 35, 36, 37, 38, 45, 46, 47, 53] V V872 := agV391.up hV872 rfl
                              refine lv_aload_n hx hb dX12_toldComponent_146 rfl (lv_at hl 3 rfl) ?_
                              refine va_get (D := D) (ci := 12) (v := .ref (ad 23)) (C := RX12) (T := TX12) (N := 100) hx hb hg inX12 hown hK hP 0 rfl rfl 23 (by decide) (hg _ w1729) (fun _ h9 => h9) rfl dX12_toldComponent_147 ?_
                              refine lv_iload_n hx hb dX12_toldComponent_150 rfl (lv_at hl 2 rfl) ?_
                              refine lv_aload_n hx hb dX12_toldComponent_151 rfl (lv_at hl 3 rfl) ?_
                              refine lv_iconst (v := 5) hx hb dX12_toldComponent_152 (by decide) ?_
                              have r873 : Int32.toInt 5 = 5 := by decide
                              have pq874 : (V872 0 8).toInt = ((V391 0 8)).toInt := congrArg Int32.toInt (up2_o hV872 (by decide))
                              refine gA_int (gA_runV (As := [.int 5]) (rest := [.int z5, .ref (ad 23)]) (ci := 12) (q0 := 0) hx hb hml hown hg hP hD hK hS hA hnw hgk (s_hasWordB l D ks H.size ad kk V872 L 5 hMV872 (by decide) (show 1 ≤ (V872 0 8).toInt from by as_aux_lemma => (first | exact om_e3c391a03e81 q393 pq874 | omega))) w2051 w2053 w90 w172 w2054 rfl rfl hdV_yX12_hasWord ⟨Nat.le_of_ble_eq_true rfl, Nat.le_of_ble_eq_true rfl⟩ rfl hl.1 rfl (Nat.le_of_ble_eq_true rfl) dX12_toldComponent_153 ⟨Nat.le_of_ble_eq_true rfl, Nat.le_of_ble_eq_true rfl⟩) hP hD hK hS hA (fun z875 u876 H locs w877 hP hD hK hS => ?_)
                              obtain ⟨V879, L880⟩ := u876
                              obtain ⟨hMV879, ajV879, axL880, rgz875, t878⟩ := w877
                              have axL880 : L = L880 := Eq.symm axL880
                              subst axL880
                              replace hP : va_P D vwCl (mw ad kk ks.1 V879 L) H := hP
                              replace hD : va_D A (mw ad kk ks.1 V879 L) := hD
                              replace hMV879 : rgd bM V879 := hMV879
                              replace ajV879 : agr [(0, 7)] [] V872 V879 := ajV879
                              have agV879 : agr [(0, 7), (0, 8), (0, 48), (0, 50), (0, 51), (0, 52)] [15, 19, 20, 21, 22, 23, 24, 25, 26, 27, 28, 29, 30, 31, 32, 33, 34, 35, 36, 37, 38, 45, 46, 47, 53] V V879 := agV872.tr ajV879 (by decide) (by decide)
                              replace rgz875 : 0 ≤ z875.toInt ∧ z875.toInt ≤ 0 := rgz875
                              replace t878 : (V879 0 8).toInt = (V872 0 8).toInt := t878
                              have pq881 : (V879 0 8).toInt = ((V391 0 8)).toInt := congrArg Int32.toInt ((ajV879 0 8 rfl).trans (up2_o hV872 (by decide)))
                              refine lv_if_eq (tgt := 174) hx hb dX12_toldComponent_156 (by decide) (fun c882 => ?_) (fun c882 => ?_)
                              · skip
                                have f883 : z875.toInt = 0 := b_eq rfl (by decide) c882
                                refine lv_iconst (v := (-1)) hx hb dX12_toldComponent_174 (by decide) ?_
                                refine va_iast (D := D) (i := z5) (x := (-1)) hx hb hK hP hD hS 16 15 rfl rfl (i_in (a := z5.toInt) rfl (by as_aux_lemma => (first | exact om_aa704d15899a r2.1 r2.2 hz3 r4.1 r4.2 hz5 f7 | omega))) dX12_toldComponent_175 (fun H locs hP hD hS => ?_)
                                obtain ⟨V884, hV884⟩ : ∃ z, z = up2 V879 23 (Int32.toNatClampNeg z5) (-1) := ⟨_, rfl⟩
                                have hP : va_P D vwCl (mw ad kk ks.1 V884 L) H := by rw [hV884]; exact hP
                                have hD : va_D A (mw ad kk ks.1 V884 L) := by rw [hV884]; exact hD
                                have hMV884 : rgd bM V884 := hMV879.put hV884 (i_full _)
                                have agV884 : agr [(0, 7), (0, 8), (0, 48), (0, 50), (0, 51), (0, 52)] [15, 19, 20, 21, 22, 23, 24, 25, 26, 27, 28, 29, 30, 31, 32, 33, 34, 35, 36, 37, 38, 45, 46, 47, 53] V V884 := agV879.up hV884 rfl
                                refine lv_aload_n hx hb dX12_toldComponent_176 rfl (lv_at hl 3 rfl) ?_
                                refine va_get (D := D) (ci := 12) (v := .ref (ad 24)) (C := RX12) (T := TX12) (N := 100) hx hb hg inX12 hown hK hP 0 rfl rfl 24 (by decide) (hg _ w1730) (fun _ h9 => h9) rfl dX12_toldComponent_177 ?_
                                refine lv_iload_n hx hb dX12_toldComponent_180 rfl (lv_at hl 2 rfl) ?_
                                refine lv_aload_n hx hb dX12_toldComponent_181 rfl (lv_at hl 3 rfl) ?_
                                refine lv_bipush (v := 6) hx hb dX12_toldComponent_182 (by decide) ?_
                                have r885 : Int32.toInt 6 = 6 := by decide
                                have pq886 : (V884 0 8).toInt = ((V391 0 8)).toInt := congrArg Int32.toInt ((up2_o hV884 (by decide)).trans ((ajV879 0 8 rfl).trans (up2_o hV872 (by decide))))
                                refine gA_int (gA_runV (As := [.int 6]) (rest := [.int z5, .ref (ad 24)]) (ci := 12) (q0 := 0) hx hb hml hown hg hP hD hK hS hA hnw hgk (s_hasWordB l D ks H.size ad kk V884 L 6 hMV884 (by decide) (show 1 ≤ (V884 0 8).toInt from by as_aux_lemma => (first | exact om_e3c391a03e81 q393 pq886 | omega))) w2051 w2053 w90 w172 w2054 rfl rfl hdV_yX12_hasWord ⟨Nat.le_of_ble_eq_true rfl, Nat.le_of_ble_eq_true rfl⟩ rfl hl.1 rfl (Nat.le_of_ble_eq_true rfl) dX12_toldComponent_184 ⟨Nat.le_of_ble_eq_true rfl, Nat.le_of_ble_eq_true rfl⟩) hP hD hK hS hA (fun z887 u888 H locs w889 hP hD hK hS => ?_)
                                obtain ⟨V891, L892⟩ := u888
                                obtain ⟨hMV891, ajV891, axL892, rgz887, t890⟩ := w889
                                have axL892 : L = L892 := Eq.symm axL892
                                subst axL892
                                replace hP : va_P D vwCl (mw ad kk ks.1 V891 L) H := hP
                                replace hD : va_D A (mw ad kk ks.1 V891 L) := hD
                                replace hMV891 : rgd bM V891 := hMV891
                                replace ajV891 : agr [(0, 7)] [] V884 V891 := ajV891
                                have agV891 : agr [(0, 7), (0, 8), (0, 48), (0, 50), (0, 51), (0, 52)] [15, 19, 20, 21, 22, 23, 24, 25, 26, 27, 28, 29, 30, 31, 32, 33, 34, 35, 36, 37, 38, 45, 46, 47, 53] V V891 := agV884.tr ajV891 (by decide) (by decide)
                                replace rgz887 : 0 ≤ z887.toInt ∧ z887.toInt ≤ 0 := rgz887
                                replace t890 : (V891 0 8).toInt = (V884 0 8).toInt := t890
                                have pq893 : (V891 0 8).toInt = ((V391 0 8)).toInt := congrArg Int32.toInt ((ajV891 0 8 rfl).trans ((up2_o hV884 (by decide)).trans ((ajV879 0 8 rfl).trans (up2_o hV872 (by decide)))))
                                refine lv_if_eq (tgt := 200) hx hb dX12_toldComponent_187 (by decide) (fun c894 => ?_) (fun c894 => ?_)
                                · skip
                                  have f895 : z887.toInt = 0 := b_eq rfl (by decide) c894
                                  refine lv_iconst (v := 0) hx hb dX12_toldComponent_200 (by decide) ?_
                                  refine va_iast (D := D) (i := z5) (x := 0) hx hb hK hP hD hS 17 16 rfl rfl (i_in (a := z5.toInt) rfl (by as_aux_lemma => (first | exact om_aa704d15899a r2.1 r2.2 hz3 r4.1 r4.2 hz5 f7 | omega))) dX12_toldComponent_201 (fun H locs hP hD hS => ?_)
                                  obtain ⟨V896, hV896⟩ : ∃ z, z = up2 V891 24 (Int32.toNatClampNeg z5) 0 := ⟨_, rfl⟩
                                  have hP : va_P D vwCl (mw ad kk ks.1 V896 L) H := by rw [hV896]; exact hP
                                  have hD : va_D A (mw ad kk ks.1 V896 L) := by rw [hV896]; exact hD
                                  have hMV896 : rgd bM V896 := hMV891.put hV896 (show 0 ≤ Int32.toInt 0 ∧ Int32.toInt 0 ≤ 9 from by decide)
                                  have agV896 : agr [(0, 7), (0, 8), (0, 48), (0, 50), (0, 51), (0, 52)] [15, 19, 20, 21, 22, 23, 24, 25, 26, 27, 28, 29, 30, 31, 32, 33, 34, 35, 36, 37, 38, 45, 46, 47, 53] V V896 := agV891.up hV896 rfl
                                  refine lv_aload_n hx hb dX12_toldComponent_202 rfl (lv_at hl 3 rfl) ?_
                                  refine va_get (D := D) (ci := 12) (v := .ref (ad 25)) (C := RX12) (T := TX12) (N := 100) hx hb hg inX12 hown hK hP 0 rfl rfl 25 (by decide) (hg _ w1731) (fun _ h9 => h9) rfl dX12_toldComponent_203 ?_
                                  refine lv_iload_n hx hb dX12_toldComponent_206 rfl (lv_at hl 2 rfl) ?_
                                  refine lv_iconst (v := (-1)) hx hb dX12_toldComponent_207 (by decide) ?_
                                  refine va_iast (D := D) (i := z5) (x := (-1)) hx hb hK hP hD hS 18 17 rfl rfl (i_in (a := z5.toInt) rfl (by as_aux_lemma => (first | exact om_aa704d15899a r2.1 r2.2 hz3 r4.1 r4.2 hz5 f7 | omega))) dX12_toldComponent_208 (fun H locs hP hD hS => ?_)
                                  obtain ⟨V897, hV897⟩ : ∃ z, z = up2 V896 25 (Int32.toNatClampNeg z5) (-1) := ⟨_, rfl⟩
                                  have hP : va_P D vwCl (mw ad kk ks.1 V897 L) H := by rw [hV897]; exact hP
                                  have hD : va_D A (mw ad kk ks.1 V897 L) := by rw [hV897]; exact hD
                                  have hMV897 : rgd bM V897 := hMV896.put hV897 (show (-1) ≤ Int32.toInt (-1) ∧ Int32.toInt (-1) ≤ 11 from by decide)
                                  have agV897 : agr [(0, 7), (0, 8), (0, 48), (0, 50), (0, 51), (0, 52)] [15, 19, 20, 21, 22, 23, 24, 25, 26, 27, 28, 29, 30, 31, 32, 33, 34, 35, 36, 37, 38, 45, 46, 47, 53] V V897 := agV896.up hV897 rfl
                                  refine lv_aload_n hx hb dX12_toldComponent_209 rfl (lv_at hl 3 rfl) ?_
                                  refine lv_bipush (v := 7) hx hb dX12_toldComponent_210 (by decide) ?_
                                  have r898 : Int32.toInt 7 = 7 := by decide
                                  have pq899 : (V897 0 8).toInt = ((V391 0 8)).toInt := congrArg Int32.toInt ((up2_o hV897 (by decide)).trans ((up2_o hV896 (by decide)).trans ((ajV891 0 8 rfl).trans ((up2_o hV884 (by decide)).trans ((ajV879 0 8 rfl).trans (up2_o hV872 (by decide)))))))
                                  refine gA_int (gA_runV (As := [.int 7]) (rest := []) (ci := 12) (q0 := 0) hx hb hml hown hg hP hD hK hS hA hnw hgk (s_hasWordB l D ks H.size ad kk V897 L 7 hMV897 (by decide) (show 1 ≤ (V897 0 8).toInt from by as_aux_lemma => (first | exact om_e3c391a03e81 q393 pq899 | omega))) w2051 w2053 w90 w172 w2054 rfl rfl hdV_yX12_hasWord ⟨Nat.le_of_ble_eq_true rfl, Nat.le_of_ble_eq_true rfl⟩ rfl hl.1 rfl (Nat.le_of_ble_eq_true rfl) dX12_toldComponent_212 ⟨Nat.le_of_ble_eq_true rfl, Nat.le_of_ble_eq_true rfl⟩) hP hD hK hS hA (fun z900 u901 H locs w902 hP hD hK hS => ?_)
                                  obtain ⟨V904, L905⟩ := u901
                                  obtain ⟨hMV904, ajV904, axL905, rgz900, t903⟩ := w902
                                  have axL905 : L = L905 := Eq.symm axL905
                                  subst axL905
                                  replace hP : va_P D vwCl (mw ad kk ks.1 V904 L) H := hP
                                  replace hD : va_D A (mw ad kk ks.1 V904 L) := hD
                                  replace hMV904 : rgd bM V904 := hMV904
                                  replace ajV904 : agr [(0, 7)] [] V897 V904 := ajV904
                                  have agV904 : agr [(0, 7), (0, 8), (0, 48), (0, 50), (0, 51), (0, 52)] [15, 19, 20, 21, 22, 23, 24, 25, 26, 27, 28, 29, 30, 31, 32, 33, 34, 35, 36, 37, 38, 45, 46, 47, 53] V V904 := agV897.tr ajV904 (by decide) (by decide)
                                  replace rgz900 : 0 ≤ z900.toInt ∧ z900.toInt ≤ 0 := rgz900
                                  replace t903 : (V904 0 8).toInt = (V897 0 8).toInt := t903
                                  have pq906 : (V904 0 8).toInt = ((V391 0 8)).toInt := congrArg Int32.toInt ((ajV904 0 8 rfl).trans ((up2_o hV897 (by decide)).trans ((up2_o hV896 (by decide)).trans ((ajV891 0 8 rfl).trans ((up2_o hV884 (by decide)).trans ((ajV879 0 8 rfl).trans (up2_o hV872 (by decide))))))))
                                  refine lv_if_eq (tgt := 262) hx hb dX12_toldComponent_215 (by decide) (fun c907 => ?_) (fun c907 => ?_)
                                  · skip
                                    have f908 : z900.toInt = 0 := b_eq rfl (by decide) c907
                                    have pq909 : (V904 0 48).toInt = ((V 0 48)).toInt := congrArg Int32.toInt ((ajV904 0 48 rfl).trans ((up2_o hV897 (by decide)).trans ((up2_o hV896 (by decide)).trans ((ajV891 0 48 rfl).trans ((up2_o hV884 (by decide)).trans ((ajV879 0 48 rfl).trans ((up2_o hV872 (by decide)).trans ((ajV391 0 48 rfl).trans ((ajV369 0 48 rfl).trans ((ajV350 0 48 rfl).trans ((ajV47 0 48 rfl).trans ((ajV42 0 48 rfl).trans ((ajV29 0 48 rfl).trans (ajV13 0 48 rfl))))))))))))))
                                    have pq910 : (V904 0 12).toInt = ((V 0 12)).toInt := congrArg Int32.toInt ((ajV904 0 12 rfl).trans ((up2_o hV897 (by decide)).trans ((up2_o hV896 (by decide)).trans ((ajV891 0 12 rfl).trans ((up2_o hV884 (by decide)).trans ((ajV879 0 12 rfl).trans ((up2_o hV872 (by decide)).trans ((ajV391 0 12 rfl).trans ((ajV369 0 12 rfl).trans ((ajV350 0 12 rfl).trans ((ajV47 0 12 rfl).trans ((ajV42 0 12 rfl).trans ((ajV29 0 12 rfl).trans (ajV13 0 12 rfl))))))))))))))
                                    have rw911 : RoV 19 bq V V904 := (fun k hk => ((ajV904 19 k rfl).trans ((up2_o hV897 (by decide)).trans ((up2_o hV896 (by decide)).trans ((ajV891 19 k rfl).trans ((up2_o hV884 (by decide)).trans ((ajV879 19 k rfl).trans ((up2_o hV872 (by decide)).trans ((ajV391 19 k rfl).trans ((ajV369 19 k rfl).trans ((ajV350 19 k rfl).trans (xlp48_2 k hk))))))))))))
                                    have rw912 : RoV 35 bq V V904 := (fun k hk => ((ajV904 35 k rfl).trans ((up2_o hV897 (by decide)).trans ((up2_o hV896 (by decide)).trans ((ajV891 35 k rfl).trans ((up2_o hV884 (by decide)).trans ((ajV879 35 k rfl).trans ((up2_o hV872 (by decide)).trans ((ajV391 35 k rfl).trans ((ajV369 35 k rfl).trans ((ajV350 35 k rfl).trans (xlp48_3 k hk))))))))))))
                                    have rw913 : RoV 37 bq V V904 := (fun k hk => ((ajV904 37 k rfl).trans ((up2_o hV897 (by decide)).trans ((up2_o hV896 (by decide)).trans ((ajV891 37 k rfl).trans ((up2_o hV884 (by decide)).trans ((ajV879 37 k rfl).trans ((up2_o hV872 (by decide)).trans ((ajV391 37 k rfl).trans ((ajV369 37 k rfl).trans ((ajV350 37 k rfl).trans (xlp48_4 k hk))))))))))))
                                    have rw914 : RoL 20 24 bq L L := (fun k hk => rfl)
                                    have rw915 : RoL 36 20 bq L L := (fun k hk => rfl)
                                    have rw916 : RoL 38 20 bq L L := (fun k hk => rfl)
                                    exact J52 V904 L H locs ls alL (agr.tr (agr.up (agr.up (agr.tr (agr.up (agr.tr (agr.up (agr.tr (agr.tr (agr.tr agr.rf ajV350 (by decide) (by decide)) ajV369 (by decide) (by decide)) ajV391 (by decide) (by decide)) hV872 rfl) ajV879 (by decide) (by decide)) hV884 rfl) ajV891 (by decide) (by decide)) hV896 rfl) hV897 rfl) ajV904 (by decide) (by decide)) hMV904 (Or.inr ⟨(show 1 ≤ (V904 0 8).toInt from by as_aux_lemma => (first | exact om_2487ca371d8b q393 pq899 t903 | omega)), (fun k => by rw [show (V904 0 8).toInt = (V391 0 8).toInt from by as_aux_lemma => omega]; exact hb870 k)⟩) (fun h9 => by exfalso; omega) (fun h9 => by exfalso; omega) (show (V904 0 48).toInt ≤ 8000 from by as_aux_lemma => omega) (show (V904 0 48).toInt = (V 0 48).toInt from by as_aux_lemma => (first | exact om_570b691c1130 pq909 | omega)) (show (V904 0 12).toInt = (V 0 12).toInt from by as_aux_lemma => (first | exact om_570b691c1130 pq910 | omega)) rw911 rw912 rw913 rw914 rw915 rw916 hP hD hS (lv_sub hl [0, 1, 2, 3] rfl)
                                  · skip
                                    have f917 : z900.toInt ≠ 0 := b_neq rfl (by decide) c907
                                    exfalso; (first | exact om_0e608cc4b4f6 rgz900.1 rgz900.2 f917 | omega)
                                · skip
                                  have f918 : z887.toInt ≠ 0 := b_neq rfl (by decide) c894
                                  exfalso; (first | exact om_0e608cc4b4f6 rgz887.1 rgz887.2 f918 | omega)
                              · skip
                                have f919 : z875.toInt ≠ 0 := b_neq rfl (by decide) c882
                                exfalso; (first | exact om_0e608cc4b4f6 rgz875.1 rgz875.2 f919 | omega)
                          · skip
                            have hb920 : ∀ k, Rc gT (Crun gs (Istmt :: k)) (Cbad (V369 0 8).toInt) := fun k => (hr356 k).tr (h374 (k))
                            have r921 : 0 ≤ ((V369 0 8)).toInt ∧ ((V369 0 8)).toInt ≤ 70000 := hMV369 0 8
                            refine lv_aload_n hx hb dX12_toldComponent_133 rfl (lv_at hl 3 rfl) ?_
                            refine va_get (D := D) (ci := 12) (v := .ref (ad 22)) (C := RX12) (T := TX12) (N := 100) hx hb hg inX12 hown hK hP 0 rfl rfl 22 (by decide) (hg _ w1728) (fun _ h9 => h9) rfl dX12_toldComponent_134 ?_
                            refine lv_iload_n hx hb dX12_toldComponent_137 rfl (lv_at hl 2 rfl) ?_
                            refine lv_aload_n hx hb dX12_toldComponent_138 rfl (lv_at hl 3 rfl) ?_
                            refine lv_bipush (v := 20) hx hb dX12_toldComponent_139 (by decide) ?_
                            refine lv_iconst (v := 4) hx hb dX12_toldComponent_141 (by decide) ?_
                            have r922 : Int32.toInt 20 = 20 := by decide
                            refine gA_int (gA_runV (As := [.int 20, .int 4]) (rest := [.int z5, .ref (ad 22)]) (ci := 12) (q0 := 0) hx hb hml hown hg hP hD hK hS hA hnw hgk (s_oneOfB l D ks H.size ad kk V369 L 20 4 hMV369 (by decide) (by decide) (show 1 ≤ (V369 0 8).toInt from by as_aux_lemma => omega)) w2096 w2098 w101 w172 w2099 rfl rfl hdV_yX12_oneOf ⟨Nat.le_of_ble_eq_true rfl, Nat.le_of_ble_eq_true rfl⟩ rfl hl.1 rfl (Nat.le_of_ble_eq_true rfl) dX12_toldComponent_142 ⟨Nat.le_of_ble_eq_true rfl, Nat.le_of_ble_eq_true rfl⟩) hP hD hK hS hA (fun z923 u924 H locs w925 hP hD hK hS => ?_)
                            obtain ⟨V927, L928⟩ := u924
                            obtain ⟨hMV927, ajV927, axL928, rgz923, t926⟩ := w925
                            have axL928 : L = L928 := Eq.symm axL928
                            subst axL928
                            replace hP : va_P D vwCl (mw ad kk ks.1 V927 L) H := hP
                            replace hD : va_D A (mw ad kk ks.1 V927 L) := hD
                            replace hMV927 : rgd bM V927 := hMV927
                            replace ajV927 : agr [(0, 7), (0, 8)] [] V369 V927 := ajV927
                            have agV927 : agr [(0, 7), (0, 8), (0, 48), (0, 50), (0, 51), (0, 52)] [15, 19, 20, 21, 22, 23, 24, 25, 26, 27, 28, 29, 30, 31, 32, 33, 34, 35, 36, 37, 38, 45, 46, 47, 53] V V927 := agV369.tr ajV927 (by decide) (by decide)
                            replace rgz923 : 0 ≤ z923.toInt ∧ z923.toInt ≤ 0 := rgz923
                            replace t926 : (V927 0 8).toInt = (V369 0 8).toInt := t926
                            have r929 : 0 ≤ ((V927 0 8)).toInt ∧ ((V927 0 8)).toInt ≤ 70000 := hMV927 0 8
                            refine va_iast (D := D) (i := z5) (x := z923) hx hb hK hP hD hS 15 14 rfl rfl (i_in (a := z5.toInt) rfl (by as_aux_lemma => (first | exact om_aa704d15899a r2.1 r2.2 hz3 r4.1 r4.2 hz5 f7 | omega))) dX12_toldComponent_145 (fun H locs hP hD hS => ?_)
                            obtain ⟨V930, hV930⟩ : ∃ z, z = up2 V927 22 (Int32.toNatClampNeg z5) z923 := ⟨_, rfl⟩
                            have hP : va_P D vwCl (mw ad kk ks.1 V930 L) H := by rw [hV930]; exact hP
                            have hD : va_D A (mw ad kk ks.1 V930 L) := by rw [hV930]; exact hD
                            have hMV930 : rgd bM V930 := hMV927.put hV930 (i_full _)
                            have agV930 : agr [(0, 7), (0, 8), (0, 48), (0, 50), (0, 51), (0, 52)] [15, 19, 20, 21, 22, 23, 24, 25, 26, 27, 28, 29, 30, 31, 32, 33, 34, 35, 36, 37, 38, 45, 46, 47, 53] V V930 := agV927.up hV930 rfl
                            refine lv_aload_n hx hb dX12_toldComponent_146 rfl (lv_at hl 3 rfl) ?_
                            refine va_get (D := D) (ci := 12) (v := .ref (ad 23)) (C := RX12) (T := TX12) (N := 100) hx hb hg inX12 hown hK hP 0 rfl rfl 23 (by decide) (hg _ w1729) (fun _ h9 => h9) rfl dX12_toldComponent_147 ?_
                            refine lv_iload_n hx hb dX12_toldComponent_150 rfl (lv_at hl 2 rfl) ?_
                            refine lv_aload_n hx hb dX12_toldComponent_151 rfl (lv_at hl 3 rfl) ?_
                            refine lv_iconst (v := 5) hx hb dX12_toldComponent_152 (by decide) ?_
                            have r931 : Int32.toInt 5 = 5 := by decide
                            have pq932 : (V930 0 8).toInt = ((V927 0 8)).toInt := congrArg Int32.toInt (up2_o hV930 (by decide))
                            refine gA_int (gA_runV (As := [.int 5]) (rest := [.int z5, .ref (ad 23)]) (ci := 12) (q0 := 0) hx hb hml hown hg hP hD hK hS hA hnw hgk (s_hasWordB l D ks H.size ad kk V930 L 5 hMV930 (by decide) (show 1 ≤ (V930 0 8).toInt from by as_aux_lemma => omega)) w2051 w2053 w90 w172 w2054 rfl rfl hdV_yX12_hasWord ⟨Nat.le_of_ble_eq_true rfl, Nat.le_of_ble_eq_true rfl⟩ rfl hl.1 rfl (Nat.le_of_ble_eq_true rfl) dX12_toldComponent_153 ⟨Nat.le_of_ble_eq_true rfl, Nat.le_of_ble_eq_true rfl⟩) hP hD hK hS hA (fun z933 u934 H locs w935 hP hD hK hS => ?_)
                            obtain ⟨V937, L938⟩ := u934
                            obtain ⟨hMV937, ajV937, axL938, rgz933, t936⟩ := w935
                            have axL938 : L = L938 := Eq.symm axL938
                            subst axL938
                            replace hP : va_P D vwCl (mw ad kk ks.1 V937 L) H := hP
                            replace hD : va_D A (mw ad kk ks.1 V937 L) := hD
                            replace hMV937 : rgd bM V937 := hMV937
                            replace ajV937 : agr [(0, 7)] [] V930 V937 := ajV937
                            have agV937 : agr [(0, 7), (0, 8), (0, 48), (0, 50), (0, 51), (0, 52)] [15, 19, 20, 21, 22, 23, 24, 25, 26, 27, 28, 29, 30, 31, 32, 33, 34, 35, 36, 37, 38, 45, 46, 47, 53] V V937 := agV930.tr ajV937 (by decide) (by decide)
                            replace rgz933 : 0 ≤ z933.toInt ∧ z933.toInt ≤ 0 := rgz933
                            replace t936 : (V937 0 8).toInt = (V930 0 8).toInt := t936
                            have pq939 : (V937 0 8).toInt = ((V927 0 8)).toInt := congrArg Int32.toInt ((ajV937 0 8 rfl).trans (up2_o hV930 (by decide)))
                            refine lv_if_eq (tgt := 174) hx hb dX12_toldComponent_156 (by decide) (fun c940 => ?_) (fun c940 => ?_)
                            · skip
                              have f941 : z933.toInt = 0 := b_eq rfl (by decide) c940
                              refine lv_iconst (v := (-1)) hx hb dX12_toldComponent_174 (by decide) ?_
                              refine va_iast (D := D) (i := z5) (x := (-1)) hx hb hK hP hD hS 16 15 rfl rfl (i_in (a := z5.toInt) rfl (by as_aux_lemma => (first | exact om_aa704d15899a r2.1 r2.2 hz3 r4.1 r4.2 hz5 f7 | omega))) dX12_toldComponent_175 (fun H locs hP hD hS => ?_)
                              obtain ⟨V942, hV942⟩ : ∃ z, z = up2 V937 23 (Int32.toNatClampNeg z5) (-1) := ⟨_, rfl⟩
                              have hP : va_P D vwCl (mw ad kk ks.1 V942 L) H := by rw [hV942]; exact hP
                              have hD : va_D A (mw ad kk ks.1 V942 L) := by rw [hV942]; exact hD
                              have hMV942 : rgd bM V942 := hMV937.put hV942 (i_full _)
                              have agV942 : agr [(0, 7), (0, 8), (0, 48), (0, 50), (0, 51), (0, 52)] [15, 19, 20, 21, 22, 23, 24, 25, 26, 27, 28, 29, 30, 31, 32, 33, 34, 35, 36, 37, 38, 45, 46, 47, 53] V V942 := agV937.up hV942 rfl
                              refine lv_aload_n hx hb dX12_toldComponent_176 rfl (lv_at hl 3 rfl) ?_
                              refine va_get (D := D) (ci := 12) (v := .ref (ad 24)) (C := RX12) (T := TX12) (N := 100) hx hb hg inX12 hown hK hP 0 rfl rfl 24 (by decide) (hg _ w1730) (fun _ h9 => h9) rfl dX12_toldComponent_177 ?_
                              refine lv_iload_n hx hb dX12_toldComponent_180 rfl (lv_at hl 2 rfl) ?_
                              refine lv_aload_n hx hb dX12_toldComponent_181 rfl (lv_at hl 3 rfl) ?_
                              refine lv_bipush (v := 6) hx hb dX12_toldComponent_182 (by decide) ?_
                              have r943 : Int32.toInt 6 = 6 := by decide
                              have pq944 : (V942 0 8).toInt = ((V927 0 8)).toInt := congrArg Int32.toInt ((up2_o hV942 (by decide)).trans ((ajV937 0 8 rfl).trans (up2_o hV930 (by decide))))
                              refine gA_int (gA_runV (As := [.int 6]) (rest := [.int z5, .ref (ad 24)]) (ci := 12) (q0 := 0) hx hb hml hown hg hP hD hK hS hA hnw hgk (s_hasWordB l D ks H.size ad kk V942 L 6 hMV942 (by decide) (show 1 ≤ (V942 0 8).toInt from by as_aux_lemma => omega)) w2051 w2053 w90 w172 w2054 rfl rfl hdV_yX12_hasWord ⟨Nat.le_of_ble_eq_true rfl, Nat.le_of_ble_eq_true rfl⟩ rfl hl.1 rfl (Nat.le_of_ble_eq_true rfl) dX12_toldComponent_184 ⟨Nat.le_of_ble_eq_true rfl, Nat.le_of_ble_eq_true rfl⟩) hP hD hK hS hA (fun z945 u946 H locs w947 hP hD hK hS => ?_)
                              obtain ⟨V949, L950⟩ := u946
                              obtain ⟨hMV949, ajV949, axL950, rgz945, t948⟩ := w947
                              have axL950 : L = L950 := Eq.symm axL950
                              subst axL950
                              replace hP : va_P D vwCl (mw ad kk ks.1 V949 L) H := hP
                              replace hD : va_D A (mw ad kk ks.1 V949 L) := hD
                              replace hMV949 : rgd bM V949 := hMV949
                              replace ajV949 : agr [(0, 7)] [] V942 V949 := ajV949
                              have agV949 : agr [(0, 7), (0, 8), (0, 48), (0, 50), (0, 51), (0, 52)] [15, 19, 20, 21, 22, 23, 24, 25, 26, 27, 28, 29, 30, 31, 32, 33, 34, 35, 36, 37, 38, 45, 46, 47, 53] V V949 := agV942.tr ajV949 (by decide) (by decide)
                              replace rgz945 : 0 ≤ z945.toInt ∧ z945.toInt ≤ 0 := rgz945
                              replace t948 : (V949 0 8).toInt = (V942 0 8).toInt := t948
                              have pq951 : (V949 0 8).toInt = ((V927 0 8)).toInt := congrArg Int32.toInt ((ajV949 0 8 rfl).trans ((up2_o hV942 (by decide)).trans ((ajV937 0 8 rfl).trans (up2_o hV930 (by decide)))))
                              refine lv_if_eq (tgt := 200) hx hb dX12_toldComponent_187 (by decide) (fun c952 => ?_) (fun c952 => ?_)
                              · skip
                                have f953 : z945.toInt = 0 := b_eq rfl (by decide) c952
                                refine lv_iconst (v := 0) hx hb dX12_toldComponent_200 (by decide) ?_
                                refine va_iast (D := D) (i := z5) (x := 0) hx hb hK hP hD hS 17 16 rfl rfl (i_in (a := z5.toInt) rfl (by as_aux_lemma => (first | exact om_aa704d15899a r2.1 r2.2 hz3 r4.1 r4.2 hz5 f7 | omega))) dX12_toldComponent_201 (fun H locs hP hD hS => ?_)
                                obtain ⟨V954, hV954⟩ : ∃ z, z = up2 V949 24 (Int32.toNatClampNeg z5) 0 := ⟨_, rfl⟩
                                have hP : va_P D vwCl (mw ad kk ks.1 V954 L) H := by rw [hV954]; exact hP
                                have hD : va_D A (mw ad kk ks.1 V954 L) := by rw [hV954]; exact hD
                                have hMV954 : rgd bM V954 := hMV949.put hV954 (show 0 ≤ Int32.toInt 0 ∧ Int32.toInt 0 ≤ 9 from by decide)
                                have agV954 : agr [(0, 7), (0, 8), (0, 48), (0, 50), (0, 51), (0, 52)] [15, 19, 20, 21, 22, 23, 24, 25, 26, 27, 28, 29, 30, 31, 32, 33, 34, 35, 36, 37, 38, 45, 46, 47, 53] V V954 := agV949.up hV954 rfl
                                refine lv_aload_n hx hb dX12_toldComponent_202 rfl (lv_at hl 3 rfl) ?_
                                refine va_get (D := D) (ci := 12) (v := .ref (ad 25)) (C := RX12) (T := TX12) (N := 100) hx hb hg inX12 hown hK hP 0 rfl rfl 25 (by decide) (hg _ w1731) (fun _ h9 => h9) rfl dX12_toldComponent_203 ?_
                                refine lv_iload_n hx hb dX12_toldComponent_206 rfl (lv_at hl 2 rfl) ?_
                                refine lv_iconst (v := (-1)) hx hb dX12_toldComponent_207 (by decide) ?_
                                refine va_iast (D := D) (i := z5) (x := (-1)) hx hb hK hP hD hS 18 17 rfl rfl (i_in (a := z5.toInt) rfl (by as_aux_lemma => (first | exact om_aa704d15899a r2.1 r2.2 hz3 r4.1 r4.2 hz5 f7 | omega))) dX12_toldComponent_208 (fun H locs hP hD hS => ?_)
                                obtain ⟨V955, hV955⟩ : ∃ z, z = up2 V954 25 (Int32.toNatClampNeg z5) (-1) := ⟨_, rfl⟩
                                have hP : va_P D vwCl (mw ad kk ks.1 V955 L) H := by rw [hV955]; exact hP
                                have hD : va_D A (mw ad kk ks.1 V955 L) := by rw [hV955]; exact hD
                                have hMV955 : rgd bM V955 := hMV954.put hV955 (show (-1) ≤ Int32.toInt (-1) ∧ Int32.toInt (-1) ≤ 11 from by decide)
                                have agV955 : agr [(0, 7), (0, 8), (0, 48), (0, 50), (0, 51), (0, 52)] [15, 19, 20, 21, 22, 23, 24, 25, 26, 27, 28, 29, 30, 31, 32, 33, 34, 35, 36, 37, 38, 45, 46, 47, 53] V V955 := agV954.up hV955 rfl
                                refine lv_aload_n hx hb dX12_toldComponent_209 rfl (lv_at hl 3 rfl) ?_
                                refine lv_bipush (v := 7) hx hb dX12_toldComponent_210 (by decide) ?_
                                have r956 : Int32.toInt 7 = 7 := by decide
                                have pq957 : (V955 0 8).toInt = ((V927 0 8)).toInt := congrArg Int32.toInt ((up2_o hV955 (by decide)).trans ((up2_o hV954 (by decide)).trans ((ajV949 0 8 rfl).trans ((up2_o hV942 (by decide)).trans ((ajV937 0 8 rfl).trans (up2_o hV930 (by decide)))))))
                                refine gA_int (gA_runV (As := [.int 7]) (rest := []) (ci := 12) (q0 := 0) hx hb hml hown hg hP hD hK hS hA hnw hgk (s_hasWordB l D ks H.size ad kk V955 L 7 hMV955 (by decide) (show 1 ≤ (V955 0 8).toInt from by as_aux_lemma => omega)) w2051 w2053 w90 w172 w2054 rfl rfl hdV_yX12_hasWord ⟨Nat.le_of_ble_eq_true rfl, Nat.le_of_ble_eq_true rfl⟩ rfl hl.1 rfl (Nat.le_of_ble_eq_true rfl) dX12_toldComponent_212 ⟨Nat.le_of_ble_eq_true rfl, Nat.le_of_ble_eq_true rfl⟩) hP hD hK hS hA (fun z958 u959 H locs w960 hP hD hK hS => ?_)
                                obtain ⟨V962, L963⟩ := u959
                                obtain ⟨hMV962, ajV962, axL963, rgz958, t961⟩ := w960
                                have axL963 : L = L963 := Eq.symm axL963
                                subst axL963
                                replace hP : va_P D vwCl (mw ad kk ks.1 V962 L) H := hP
                                replace hD : va_D A (mw ad kk ks.1 V962 L) := hD
                                replace hMV962 : rgd bM V962 := hMV962
                                replace ajV962 : agr [(0, 7)] [] V955 V962 := ajV962
                                have agV962 : agr [(0, 7), (0, 8), (0, 48), (0, 50), (0, 51), (0, 52)] [15, 19, 20, 21, 22, 23, 24, 25, 26, 27, 28, 29, 30, 31, 32, 33, 34, 35, 36, 37, 38, 45, 46, 47, 53] V V962 := agV955.tr ajV962 (by decide) (by decide)
                                replace rgz958 : 0 ≤ z958.toInt ∧ z958.toInt ≤ 0 := rgz958
                                replace t961 : (V962 0 8).toInt = (V955 0 8).toInt := t961
                                have pq964 : (V962 0 8).toInt = ((V927 0 8)).toInt := congrArg Int32.toInt ((ajV962 0 8 rfl).trans ((up2_o hV955 (by decide)).trans ((up2_o hV954 (by decide)).trans ((ajV949 0 8 rfl).trans ((up2_o hV942 (by decide)).trans ((ajV937 0 8 rfl).trans (up2_o hV930 (by decide))))))))
                                refine lv_if_eq (tgt := 262) hx hb dX12_toldComponent_215 (by decide) (fun c965 => ?_) (fun c965 => ?_)
                                · skip
                                  have f966 : z958.toInt = 0 := b_eq rfl (by decide) c965
                                  have pq967 : (V962 0 48).toInt = ((V 0 48)).toInt := congrArg Int32.toInt ((ajV962 0 48 rfl).trans ((up2_o hV955 (by decide)).trans ((up2_o hV954 (by decide)).trans ((ajV949 0 48 rfl).trans ((up2_o hV942 (by decide)).trans ((ajV937 0 48 rfl).trans ((up2_o hV930 (by decide)).trans ((ajV927 0 48 rfl).trans ((ajV369 0 48 rfl).trans ((ajV350 0 48 rfl).trans ((ajV47 0 48 rfl).trans ((ajV42 0 48 rfl).trans ((ajV29 0 48 rfl).trans (ajV13 0 48 rfl))))))))))))))
                                  have pq968 : (V962 0 12).toInt = ((V 0 12)).toInt := congrArg Int32.toInt ((ajV962 0 12 rfl).trans ((up2_o hV955 (by decide)).trans ((up2_o hV954 (by decide)).trans ((ajV949 0 12 rfl).trans ((up2_o hV942 (by decide)).trans ((ajV937 0 12 rfl).trans ((up2_o hV930 (by decide)).trans ((ajV927 0 12 rfl).trans ((ajV369 0 12 rfl).trans ((ajV350 0 12 rfl).trans ((ajV47 0 12 rfl).trans ((ajV42 0 12 rfl).trans ((ajV29 0 12 rfl).trans (ajV13 0 12 rfl))))))))))))))
                                  have rw969 : RoV 19 bq V V962 := (fun k hk => ((ajV962 19 k rfl).trans ((up2_o hV955 (by decide)).trans ((up2_o hV954 (by decide)).trans ((ajV949 19 k rfl).trans ((up2_o hV942 (by decide)).trans ((ajV937 19 k rfl).trans ((up2_o hV930 (by decide)).trans ((ajV927 19 k rfl).trans ((ajV369 19 k rfl).trans ((ajV350 19 k rfl).trans (xlp48_2 k hk))))))))))))
                                  have rw970 : RoV 35 bq V V962 := (fun k hk => ((ajV962 35 k rfl).trans ((up2_o hV955 (by decide)).trans ((up2_o hV954 (by decide)).trans ((ajV949 35 k rfl).trans ((up2_o hV942 (by decide)).trans ((ajV937 35 k rfl).trans ((up2_o hV930 (by decide)).trans ((ajV927 35 k rfl).trans ((ajV369 35 k rfl).trans ((ajV350 35 k rfl).trans (xlp48_3 k hk))))))))))))
                                  have rw971 : RoV 37 bq V V962 := (fun k hk => ((ajV962 37 k rfl).trans ((up2_o hV955 (by decide)).trans ((up2_o hV954 (by decide)).trans ((ajV949 37 k rfl).trans ((up2_o hV942 (by decide)).trans ((ajV937 37 k rfl).trans ((up2_o hV930 (by decide)).trans ((ajV927 37 k rfl).trans ((ajV369 37 k rfl).trans ((ajV350 37 k rfl).trans (xlp48_4 k hk))))))))))))
                                  have rw972 : RoL 20 24 bq L L := (fun k hk => rfl)
                                  have rw973 : RoL 36 20 bq L L := (fun k hk => rfl)
                                  have rw974 : RoL 38 20 bq L L := (fun k hk => rfl)
                                  exact J52 V962 L H locs ls alL (agr.tr (agr.up (agr.up (agr.tr (agr.up (agr.tr (agr.up (agr.tr (agr.tr (agr.tr agr.rf ajV350 (by decide) (by decide)) ajV369 (by decide) (by decide)) ajV927 (by decide) (by decide)) hV930 rfl) ajV937 (by decide) (by decide)) hV942 rfl) ajV949 (by decide) (by decide)) hV954 rfl) hV955 rfl) ajV962 (by decide) (by decide)) hMV962 (Or.inr ⟨(show 1 ≤ (V962 0 8).toInt from by as_aux_lemma => omega), (fun k => by rw [show (V962 0 8).toInt = (V369 0 8).toInt from by as_aux_lemma => omega]; exact hb920 k)⟩) (fun h9 => by exfalso; omega) (fun h9 => by exfalso; omega) (show (V962 0 48).toInt ≤ 8000 from by as_aux_lemma => omega) (show (V962 0 48).toInt = (V 0 48).toInt from by as_aux_lemma => (first | exact om_570b691c1130 pq967 | omega)) (show (V962 0 12).toInt = (V 0 12).toInt from by as_aux_lemma => (first | exact om_570b691c1130 pq968 | omega)) rw969 rw970 rw971 rw972 rw973 rw974 hP hD hS (lv_sub hl [0, 1, 2, 3] rfl)
                                · skip
                                  have f975 : z958.toInt ≠ 0 := b_neq rfl (by decide) c965
                                  exfalso; (first | exact om_0e608cc4b4f6 rgz958.1 rgz958.2 f975 | omega)
                              · skip
                                have f976 : z945.toInt ≠ 0 := b_neq rfl (by decide) c952
                                exfalso; (first | exact om_0e608cc4b4f6 rgz945.1 rgz945.2 f976 | omega)
                            · skip
                              have f977 : z933.toInt ≠ 0 := b_neq rfl (by decide) c940
                              exfalso; (first | exact om_0e608cc4b4f6 rgz933.1 rgz933.2 f977 | omega)
                      · skip
                        have kd978 : gT.1 ((nx (nx gs 1) 1).1 0) ≠ 132 := fun h9 => h353 (h9.trans (by decide))
                        have hb979 : ∀ k, Rc gT (Crun gs (Istmt :: k)) (Cbad (V350 0 8).toInt) := fun k => Rc.go1 (hr37 k) ((tk_n kd978).trans (fl_eq rfl rl354))
                        have r980 : 0 ≤ ((V350 0 8)).toInt ∧ ((V350 0 8)).toInt ≤ 70000 := hMV350 0 8
                        refine lv_aload_n hx hb dX12_toldComponent_117 rfl (lv_at hl 3 rfl) ?_
                        refine va_get (D := D) (ci := 12) (v := .int (V350 0 8)) (C := RX12) (T := TX12) (N := 100) hx hb hg inX12 hown hK hP 0 rfl rfl 8 (by decide) (hg _ w1714) (fun _ h9 => h9) rfl dX12_toldComponent_118 ?_
                        refine lv_if_ne (tgt := 133) hx hb dX12_toldComponent_121 (by decide) (fun c981 => ?_) (fun c981 => ?_)
                        · skip
                          have f982 : ((V350 0 8)).toInt ≠ 0 := b_neq rfl (by decide) c981
                          refine lv_aload_n hx hb dX12_toldComponent_133 rfl (lv_at hl 3 rfl) ?_
                          refine va_get (D := D) (ci := 12) (v := .ref (ad 22)) (C := RX12) (T := TX12) (N := 100) hx hb hg inX12 hown hK hP 0 rfl rfl 22 (by decide) (hg _ w1728) (fun _ h9 => h9) rfl dX12_toldComponent_134 ?_
                          refine lv_iload_n hx hb dX12_toldComponent_137 rfl (lv_at hl 2 rfl) ?_
                          refine lv_aload_n hx hb dX12_toldComponent_138 rfl (lv_at hl 3 rfl) ?_
                          refine lv_bipush (v := 20) hx hb dX12_toldComponent_139 (by decide) ?_
                          refine lv_iconst (v := 4) hx hb dX12_toldComponent_141 (by decide) ?_
                          have r983 : Int32.toInt 20 = 20 := by decide
                          refine gA_int (gA_runV (As := [.int 20, .int 4]) (rest := [.int z5, .ref (ad 22)]) (ci := 12) (q0 := 0) hx hb hml hown hg hP hD hK hS hA hnw hgk (s_oneOfB l D ks H.size ad kk V350 L 20 4 hMV350 (by decide) (by decide) (show 1 ≤ (V350 0 8).toInt from by as_aux_lemma => (first | exact om_76052c512981 r980.1 f982 | omega))) w2096 w2098 w101 w172 w2099 rfl rfl hdV_yX12_oneOf ⟨Nat.le_of_ble_eq_true rfl, Nat.le_of_ble_eq_true rfl⟩ rfl hl.1 rfl (Nat.le_of_ble_eq_true rfl) dX12_toldComponent_142 ⟨Nat.le_of_ble_eq_true rfl, Nat.le_of_ble_eq_true rfl⟩) hP hD hK hS hA (fun z984 u985 H locs w986 hP hD hK hS => ?_)
                          obtain ⟨V988, L989⟩ := u985
                          obtain ⟨hMV988, ajV988, axL989, rgz984, t987⟩ := w986
                          have axL989 : L = L989 := Eq.symm axL989
                          subst axL989
                          replace hP : va_P D vwCl (mw ad kk ks.1 V988 L) H := hP
                          replace hD : va_D A (mw ad kk ks.1 V988 L) := hD
                          replace hMV988 : rgd bM V988 := hMV988
                          replace ajV988 : agr [(0, 7), (0, 8)] [] V350 V988 := ajV988
                          have agV988 : agr [(0, 7), (0, 8), (0, 48), (0, 50), (0, 51), (0, 52)] [15, 19, 20, 21, 22, 23, 24, 25, 26, 27, 28, 29, 30, 31, 32, 33, 34, 35, 36, 37, 38, 45, 46, 47, 53] V V988 := agV350.tr ajV988 (by decide) (by decide)
                          replace rgz984 : 0 ≤ z984.toInt ∧ z984.toInt ≤ 0 := rgz984
                          replace t987 : (V988 0 8).toInt = (V350 0 8).toInt := t987
                          have r990 : 0 ≤ ((V988 0 8)).toInt ∧ ((V988 0 8)).toInt ≤ 70000 := hMV988 0 8
                          refine va_iast (D := D) (i := z5) (x := z984) hx hb hK hP hD hS 15 14 rfl rfl (i_in (a := z5.toInt) rfl (by as_aux_lemma => (first | exact om_aa704d15899a r2.1 r2.2 hz3 r4.1 r4.2 hz5 f7 | omega))) dX12_toldComponent_145 (fun H locs hP hD hS => ?_)
                          obtain ⟨V991, hV991⟩ : ∃ z, z = up2 V988 22 (Int32.toNatClampNeg z5) z984 := ⟨_, rfl⟩
                          have hP : va_P D vwCl (mw ad kk ks.1 V991 L) H := by rw [hV991]; exact hP
                          have hD : va_D A (mw ad kk ks.1 V991 L) := by rw [hV991]; exact hD
                          have hMV991 : rgd bM V991 := hMV988.put hV991 (i_full _)
                          have agV991 : agr [(0, 7), (0, 8), (0, 48), (0, 50), (0, 51), (0, 52)] [15, 19, 20, 21, 22, 23, 24, 25, 26, 27, 28, 29, 30, 31, 32, 33, 34, 35, 36, 37, 38, 45, 46, 47, 53] V V991 := agV988.up hV991 rfl
                          refine lv_aload_n hx hb dX12_toldComponent_146 rfl (lv_at hl 3 rfl) ?_
                          refine va_get (D := D) (ci := 12) (v := .ref (ad 23)) (C := RX12) (T := TX12) (N := 100) hx hb hg inX12 hown hK hP 0 rfl rfl 23 (by decide) (hg _ w1729) (fun _ h9 => h9) rfl dX12_toldComponent_147 ?_
                          refine lv_iload_n hx hb dX12_toldComponent_150 rfl (lv_at hl 2 rfl) ?_
                          refine lv_aload_n hx hb dX12_toldComponent_151 rfl (lv_at hl 3 rfl) ?_
                          refine lv_iconst (v := 5) hx hb dX12_toldComponent_152 (by decide) ?_
                          have r992 : Int32.toInt 5 = 5 := by decide
                          have pq993 : (V991 0 8).toInt = ((V988 0 8)).toInt := congrArg Int32.toInt (up2_o hV991 (by decide))
                          refine gA_int (gA_runV (As := [.int 5]) (rest := [.int z5, .ref (ad 23)]) (ci := 12) (q0 := 0) hx hb hml hown hg hP hD hK hS hA hnw hgk (s_hasWordB l D ks H.size ad kk V991 L 5 hMV991 (by decide) (show 1 ≤ (V991 0 8).toInt from by as_aux_lemma => (first | exact om_14e1582db31a r980.1 f982 t987 pq993 | omega))) w2051 w2053 w90 w172 w2054 rfl rfl hdV_yX12_hasWord ⟨Nat.le_of_ble_eq_true rfl, Nat.le_of_ble_eq_true rfl⟩ rfl hl.1 rfl (Nat.le_of_ble_eq_true rfl) dX12_toldComponent_153 ⟨Nat.le_of_ble_eq_true rfl, Nat.le_of_ble_eq_true rfl⟩) hP hD hK hS hA (fun z994 u995 H locs w996 hP hD hK hS => ?_)
                          obtain ⟨V998, L999⟩ := u995
                          obtain ⟨hMV998, ajV998, axL999, rgz994, t997⟩ := w996
                          have axL999 : L = L999 := Eq.symm axL999
                          subst axL999
                          replace hP : va_P D vwCl (mw ad kk ks.1 V998 L) H := hP
                          replace hD : va_D A (mw ad kk ks.1 V998 L) := hD
                          replace hMV998 : rgd bM V998 := hMV998
                          replace ajV998 : agr [(0, 7)] [] V991 V998 := ajV998
                          have agV998 : agr [(0, 7), (0, 8), (0, 48), (0, 50), (0, 51), (0, 52)] [15, 19, 20, 21, 22, 23, 24, 25, 26, 27, 28, 29, 30, 31, 32, 33, 34, 35, 36, 37, 38, 45, 46, 47, 53] V V998 := agV991.tr ajV998 (by decide) (by decide)
                          replace rgz994 : 0 ≤ z994.toInt ∧ z994.toInt ≤ 0 := rgz994
                          replace t997 : (V998 0 8).toInt = (V991 0 8).toInt := t997
                          have pq1000 : (V998 0 8).toInt = ((V988 0 8)).toInt := congrArg Int32.toInt ((ajV998 0 8 rfl).trans (up2_o hV991 (by decide)))
                          refine lv_if_eq (tgt := 174) hx hb dX12_toldComponent_156 (by decide) (fun c1001 => ?_) (fun c1001 => ?_)
                          · skip
                            have f1002 : z994.toInt = 0 := b_eq rfl (by decide) c1001
                            refine lv_iconst (v := (-1)) hx hb dX12_toldComponent_174 (by decide) ?_
                            refine va_iast (D := D) (i := z5) (x := (-1)) hx hb hK hP hD hS 16 15 rfl rfl (i_in (a := z5.toInt) rfl (by as_aux_lemma => (first | exact om_aa704d15899a r2.1 r2.2 hz3 r4.1 r4.2 hz5 f7 | omega))) dX12_toldComponent_175 (fun H locs hP hD hS => ?_)
                            obtain ⟨V1003, hV1003⟩ : ∃ z, z = up2 V998 23 (Int32.toNatClampNeg z5) (-1) := ⟨_, rfl⟩
                            have hP : va_P D vwCl (mw ad kk ks.1 V1003 L) H := by rw [hV1003]; exact hP
                            have hD : va_D A (mw ad kk ks.1 V1003 L) := by rw [hV1003]; exact hD
                            have hMV1003 : rgd bM V1003 := hMV998.put hV1003 (i_full _)
                            have agV1003 : agr [(0, 7), (0, 8), (0, 48), (0, 50), (0, 51), (0, 52)] [15, 19, 20, 21, 22, 23, 24, 25, 26, 27, 28, 29, 30, 31, 32, 33, 34, 35, 36, 37, 38, 45, 46, 47, 53] V V1003 := agV998.up hV1003 rfl
                            refine lv_aload_n hx hb dX12_toldComponent_176 rfl (lv_at hl 3 rfl) ?_
                            refine va_get (D := D) (ci := 12) (v := .ref (ad 24)) (C := RX12) (T := TX12) (N := 100) hx hb hg inX12 hown hK hP 0 rfl rfl 24 (by decide) (hg _ w1730) (fun _ h9 => h9) rfl dX12_toldComponent_177 ?_
                            refine lv_iload_n hx hb dX12_toldComponent_180 rfl (lv_at hl 2 rfl) ?_
                            refine lv_aload_n hx hb dX12_toldComponent_181 rfl (lv_at hl 3 rfl) ?_
                            refine lv_bipush (v := 6) hx hb dX12_toldComponent_182 (by decide) ?_
                            have r1004 : Int32.toInt 6 = 6 := by decide
                            have pq1005 : (V1003 0 8).toInt = ((V988 0 8)).toInt := congrArg Int32.toInt ((up2_o hV1003 (by decide)).trans ((ajV998 0 8 rfl).trans (up2_o hV991 (by decide))))
                            refine gA_int (gA_runV (As := [.int 6]) (rest := [.int z5, .ref (ad 24)]) (ci := 12) (q0 := 0) hx hb hml hown hg hP hD hK hS hA hnw hgk (s_hasWordB l D ks H.size ad kk V1003 L 6 hMV1003 (by decide) (show 1 ≤ (V1003 0 8).toInt from by as_aux_lemma => (first | exact om_14e1582db31a r980.1 f982 t987 pq1005 | omega))) w2051 w2053 w90 w172 w2054 rfl rfl hdV_yX12_hasWord ⟨Nat.le_of_ble_eq_true rfl, Nat.le_of_ble_eq_true rfl⟩ rfl hl.1 rfl (Nat.le_of_ble_eq_true rfl) dX12_toldComponent_184 ⟨Nat.le_of_ble_eq_true rfl, Nat.le_of_ble_eq_true rfl⟩) hP hD hK hS hA (fun z1006 u1007 H locs w1008 hP hD hK hS => ?_)
                            obtain ⟨V1010, L1011⟩ := u1007
                            obtain ⟨hMV1010, ajV1010, axL1011, rgz1006, t1009⟩ := w1008
                            have axL1011 : L = L1011 := Eq.symm axL1011
                            subst axL1011
                            replace hP : va_P D vwCl (mw ad kk ks.1 V1010 L) H := hP
                            replace hD : va_D A (mw ad kk ks.1 V1010 L) := hD
                            replace hMV1010 : rgd bM V1010 := hMV1010
                            replace ajV1010 : agr [(0, 7)] [] V1003 V1010 := ajV1010
                            have agV1010 : agr [(0, 7), (0, 8), (0, 48), (0, 50), (0, 51), (0, 52)] [15, 19, 20, 21, 22, 23, 24, 25, 26, 27, 28, 29, 30, 31, 32, 33, 34, 35, 36, 37, 38, 45, 46, 47, 53] V V1010 := agV1003.tr ajV1010 (by decide) (by decide)
                            replace rgz1006 : 0 ≤ z1006.toInt ∧ z1006.toInt ≤ 0 := rgz1006
                            replace t1009 : (V1010 0 8).toInt = (V1003 0 8).toInt := t1009
                            have pq1012 : (V1010 0 8).toInt = ((V988 0 8)).toInt := congrArg Int32.toInt ((ajV1010 0 8 rfl).trans ((up2_o hV1003 (by decide)).trans ((ajV998 0 8 rfl).trans (up2_o hV991 (by decide)))))
                            refine lv_if_eq (tgt := 200) hx hb dX12_toldComponent_187 (by decide) (fun c1013 => ?_) (fun c1013 => ?_)
                            · skip
                              have f1014 : z1006.toInt = 0 := b_eq rfl (by decide) c1013
                              refine lv_iconst (v := 0) hx hb dX12_toldComponent_200 (by decide) ?_
                              refine va_iast (D := D) (i := z5) (x := 0) hx hb hK hP hD hS 17 16 rfl rfl (i_in (a := z5.toInt) rfl (by as_aux_lemma => (first | exact om_aa704d15899a r2.1 r2.2 hz3 r4.1 r4.2 hz5 f7 | omega))) dX12_toldComponent_201 (fun H locs hP hD hS => ?_)
                              obtain ⟨V1015, hV1015⟩ : ∃ z, z = up2 V1010 24 (Int32.toNatClampNeg z5) 0 := ⟨_, rfl⟩
                              have hP : va_P D vwCl (mw ad kk ks.1 V1015 L) H := by rw [hV1015]; exact hP
                              have hD : va_D A (mw ad kk ks.1 V1015 L) := by rw [hV1015]; exact hD
                              have hMV1015 : rgd bM V1015 := hMV1010.put hV1015 (show 0 ≤ Int32.toInt 0 ∧ Int32.toInt 0 ≤ 9 from by decide)
                              have agV1015 : agr [(0, 7), (0, 8), (0, 48), (0, 50), (0, 51), (0, 52)] [15, 19, 20, 21, 22, 23, 24, 25, 26, 27, 28, 29, 30, 31, 32, 33, 34, 35, 36, 37, 38, 45, 46, 47, 53] V V1015 := agV1010.up hV1015 rfl
                              refine lv_aload_n hx hb dX12_toldComponent_202 rfl (lv_at hl 3 rfl) ?_
                              refine va_get (D := D) (ci := 12) (v := .ref (ad 25)) (C := RX12) (T := TX12) (N := 100) hx hb hg inX12 hown hK hP 0 rfl rfl 25 (by decide) (hg _ w1731) (fun _ h9 => h9) rfl dX12_toldComponent_203 ?_
                              refine lv_iload_n hx hb dX12_toldComponent_206 rfl (lv_at hl 2 rfl) ?_
                              refine lv_iconst (v := (-1)) hx hb dX12_toldComponent_207 (by decide) ?_
                              refine va_iast (D := D) (i := z5) (x := (-1)) hx hb hK hP hD hS 18 17 rfl rfl (i_in (a := z5.toInt) rfl (by as_aux_lemma => (first | exact om_aa704d15899a r2.1 r2.2 hz3 r4.1 r4.2 hz5 f7 | omega))) dX12_toldComponent_208 (fun H locs hP hD hS => ?_)
                              obtain ⟨V1016, hV1016⟩ : ∃ z, z = up2 V1015 25 (Int32.toNatClampNeg z5) (-1) := ⟨_, rfl⟩
                              have hP : va_P D vwCl (mw ad kk ks.1 V1016 L) H := by rw [hV1016]; exact hP
                              have hD : va_D A (mw ad kk ks.1 V1016 L) := by rw [hV1016]; exact hD
                              have hMV1016 : rgd bM V1016 := hMV1015.put hV1016 (show (-1) ≤ Int32.toInt (-1) ∧ Int32.toInt (-1) ≤ 11 from by decide)
                              have agV1016 : agr [(0, 7), (0, 8), (0, 48), (0, 50), (0, 51), (0, 52)] [15, 19, 20, 21, 22, 23, 24, 25, 26, 27, 28, 29, 30, 31, 32, 33, 34, 35, 36, 37, 38, 45, 46, 47, 53] V V1016 := agV1015.up hV1016 rfl
                              refine lv_aload_n hx hb dX12_toldComponent_209 rfl (lv_at hl 3 rfl) ?_
                              refine lv_bipush (v := 7) hx hb dX12_toldComponent_210 (by decide) ?_
                              have r1017 : Int32.toInt 7 = 7 := by decide
                              have pq1018 : (V1016 0 8).toInt = ((V988 0 8)).toInt := congrArg Int32.toInt ((up2_o hV1016 (by decide)).trans ((up2_o hV1015 (by decide)).trans ((ajV1010 0 8 rfl).trans ((up2_o hV1003 (by decide)).trans ((ajV998 0 8 rfl).trans (up2_o hV991 (by decide)))))))
                              refine gA_int (gA_runV (As := [.int 7]) (rest := []) (ci := 12) (q0 := 0) hx hb hml hown hg hP hD hK hS hA hnw hgk (s_hasWordB l D ks H.size ad kk V1016 L 7 hMV1016 (by decide) (show 1 ≤ (V1016 0 8).toInt from by as_aux_lemma => (first | exact om_14e1582db31a r980.1 f982 t987 pq1018 | omega))) w2051 w2053 w90 w172 w2054 rfl rfl hdV_yX12_hasWord ⟨Nat.le_of_ble_eq_true rfl, Nat.le_of_ble_eq_true rfl⟩ rfl hl.1 rfl (Nat.le_of_ble_eq_true rfl) dX12_toldComponent_212 ⟨Nat.le_of_ble_eq_true rfl, Nat.le_of_ble_eq_true rfl⟩) hP hD hK hS hA (fun z1019 u1020 H locs w1021 hP hD hK hS => ?_)
                              obtain ⟨V1023, L1024⟩ := u1020
                              obtain ⟨hMV1023, ajV1023, axL1024, rgz1019, t1022⟩ := w1021
                              have axL1024 : L = L1024 := Eq.symm axL1024
                              subst axL1024
                              replace hP : va_P D vwCl (mw ad kk ks.1 V1023 L) H := hP
                              replace hD : va_D A (mw ad kk ks.1 V1023 L) := hD
                              replace hMV1023 : rgd bM V1023 := hMV1023
                              replace ajV1023 : agr [(0, 7)] [] V1016 V1023 := ajV1023
                              have agV1023 : agr [(0, 7), (0, 8), (0, 48), (0, 50), (0, 51), (0, 52)] [15, 19, 20, 21, 22, 23, 24, 25, 26, 27, 28, 29, 30, 31, 32, 33, 34, 35, 36, 37, 38, 45, 46, 47, 53] V V1023 := agV1016.tr ajV1023 (by decide) (by decide)
                              replace rgz1019 : 0 ≤ z1019.toInt ∧ z1019.toInt ≤ 0 := rgz1019
                              replace t1022 : (V1023 0 8).toInt = (V1016 0 8).toInt := t1022
                              have pq1025 : (V1023 0 8).toInt = ((V988 0 8)).toInt := congrArg Int32.toInt ((ajV1023 0 8 rfl).trans ((up2_o hV1016 (by decide)).trans ((up2_o hV1015 (by decide)).trans ((ajV1010 0 8 rfl).trans ((up2_o hV1003 (by decide)).trans ((ajV998 0 8 rfl).trans (up2_o hV991 (by decide))))))))
                              refine lv_if_eq (tgt := 262) hx hb dX12_toldComponent_215 (by decide) (fun c1026 => ?_) (fun c1026 => ?_)
                              · skip
                                have f1027 : z1019.toInt = 0 := b_eq rfl (by decide) c1026
                                have pq1028 : (V1023 0 48).toInt = ((V 0 48)).toInt := congrArg Int32.toInt ((ajV1023 0 48 rfl).trans ((up2_o hV1016 (by decide)).trans ((up2_o hV1015 (by decide)).trans ((ajV1010 0 48 rfl).trans ((up2_o hV1003 (by decide)).trans ((ajV998 0 48 rfl).trans ((up2_o hV991 (by decide)).trans ((ajV988 0 48 rfl).trans ((ajV350 0 48 rfl).trans ((ajV47 0 48 rfl).trans ((ajV42 0 48 rfl).trans ((ajV29 0 48 rfl).trans (ajV13 0 48 rfl)))))))))))))
                                have pq1029 : (V1023 0 12).toInt = ((V 0 12)).toInt := congrArg Int32.toInt ((ajV1023 0 12 rfl).trans ((up2_o hV1016 (by decide)).trans ((up2_o hV1015 (by decide)).trans ((ajV1010 0 12 rfl).trans ((up2_o hV1003 (by decide)).trans ((ajV998 0 12 rfl).trans ((up2_o hV991 (by decide)).trans ((ajV988 0 12 rfl).trans ((ajV350 0 12 rfl).trans ((ajV47 0 12 rfl).trans ((ajV42 0 12 rfl).trans ((ajV29 0 12 rfl).trans (ajV13 0 12 rfl)))))))))))))
                                have rw1030 : RoV 19 bq V V1023 := (fun k hk => ((ajV1023 19 k rfl).trans ((up2_o hV1016 (by decide)).trans ((up2_o hV1015 (by decide)).trans ((ajV1010 19 k rfl).trans ((up2_o hV1003 (by decide)).trans ((ajV998 19 k rfl).trans ((up2_o hV991 (by decide)).trans ((ajV988 19 k rfl).trans ((ajV350 19 k rfl).trans (xlp48_2 k hk)))))))))))
                                have rw1031 : RoV 35 bq V V1023 := (fun k hk => ((ajV1023 35 k rfl).trans ((up2_o hV1016 (by decide)).trans ((up2_o hV1015 (by decide)).trans ((ajV1010 35 k rfl).trans ((up2_o hV1003 (by decide)).trans ((ajV998 35 k rfl).trans ((up2_o hV991 (by decide)).trans ((ajV988 35 k rfl).trans ((ajV350 35 k rfl).trans (xlp48_3 k hk)))))))))))
                                have rw1032 : RoV 37 bq V V1023 := (fun k hk => ((ajV1023 37 k rfl).trans ((up2_o hV1016 (by decide)).trans ((up2_o hV1015 (by decide)).trans ((ajV1010 37 k rfl).trans ((up2_o hV1003 (by decide)).trans ((ajV998 37 k rfl).trans ((up2_o hV991 (by decide)).trans ((ajV988 37 k rfl).trans ((ajV350 37 k rfl).trans (xlp48_4 k hk)))))))))))
                                have rw1033 : RoL 20 24 bq L L := (fun k hk => rfl)
                                have rw1034 : RoL 36 20 bq L L := (fun k hk => rfl)
                                have rw1035 : RoL 38 20 bq L L := (fun k hk => rfl)
                                exact J52 V1023 L H locs ls alL (agr.tr (agr.up (agr.up (agr.tr (agr.up (agr.tr (agr.up (agr.tr (agr.tr agr.rf ajV350 (by decide) (by decide)) ajV988 (by decide) (by decide)) hV991 rfl) ajV998 (by decide) (by decide)) hV1003 rfl) ajV1010 (by decide) (by decide)) hV1015 rfl) hV1016 rfl) ajV1023 (by decide) (by decide)) hMV1023 (Or.inr ⟨(show 1 ≤ (V1023 0 8).toInt from by as_aux_lemma => (first | exact om_14e1582db31a r980.1 f982 t987 pq1025 | omega)), (fun k => by rw [show (V1023 0 8).toInt = (V350 0 8).toInt from by as_aux_lemma => omega]; exact hb979 k)⟩) (fun h9 => by exfalso; omega) (fun h9 => by exfalso; omega) (show (V1023 0 48).toInt ≤ 8000 from by as_aux_lemma => omega) (show (V1023 0 48).toInt = (V 0 48).toInt from by as_aux_lemma => (first | exact om_570b691c1130 pq1028 | omega)) (show (V1023 0 12).toInt = (V 0 12).toInt from by as_aux_lemma => (first | exact om_570b691c1130 pq1029 | omega)) rw1030 rw1031 rw1032 rw1033 rw1034 rw1035 hP hD hS (lv_sub hl [0, 1, 2, 3] rfl)
                              · skip
                                have f1036 : z1019.toInt ≠ 0 := b_neq rfl (by decide) c1026
                                exfalso; (first | exact om_0e608cc4b4f6 rgz1019.1 rgz1019.2 f1036 | omega)
                            · skip
                              have f1037 : z1006.toInt ≠ 0 := b_neq rfl (by decide) c1013
                              exfalso; (first | exact om_0e608cc4b4f6 rgz1006.1 rgz1006.2 f1037 | omega)
                          · skip
                            have f1038 : z994.toInt ≠ 0 := b_neq rfl (by decide) c1001
                            exfalso; (first | exact om_0e608cc4b4f6 rgz994.1 rgz994.2 f1038 | omega)
                        · skip
                          have f1039 : ((V350 0 8)).toInt = 0 := b_eq rfl (by decide) c981
                          exfalso; (first | exact om_09885ab343b9 q352 f1039 | omega)
                    · skip
                      have f1040 : y46.toInt < 20 := b_nle (by decide) rfl c49
                      refine lv_aload_n hx hb dX12_toldComponent_93 rfl (lv_at hl 3 rfl) ?_
                      refine va_get (D := D) (ci := 12) (v := .ref (ad 34)) (C := RX12) (T := TX12) (N := 100) hx hb hg inX12 hown hK hP 0 rfl rfl 34 (by decide) (hg _ w1740) (fun _ h9 => h9) rfl dX12_toldComponent_94 ?_
                      refine lv_bipush (v := 20) hx hb dX12_toldComponent_97 (by decide) ?_
                      refine lv_iload_n hx hb dX12_toldComponent_99 rfl (lv_at hl 2 rfl) ?_
                      refine lv_imul hx hb dX12_toldComponent_100 ?_
                      refine lv_topi (fun z1041 ez1041 => ?_)
                      have hz1041 : z1041.toInt = 20 * z5.toInt := i_mul ez1041 (by decide) rfl (by as_aux_lemma => (first | exact om_ad1607af5b23 r2.1 r2.2 hz3 r4.1 r4.2 hz5 f7 | omega))
                      refine lv_iload hx hb dX12_toldComponent_101 (lv_at hl 0 rfl) ?_
                      refine lv_iadd hx hb dX12_toldComponent_103 ?_
                      refine lv_topi (fun z1042 ez1042 => ?_)
                      have hz1042 : z1042.toInt = z1041.toInt + y46.toInt := i_add ez1042 rfl rfl (by as_aux_lemma => (first | exact om_3aed94266775 r2.1 r2.2 hz3 r4.1 r4.2 hz5 f7 klp48_0.1 f1040 hz1041 | omega))
                      refine lv_iconst (v := (-1)) hx hb dX12_toldComponent_104 (by decide) ?_
                      refine va_iast (D := D) (i := z1042) (x := (-1)) hx hb hK hP hD hS 27 26 rfl rfl (i_in (a := z1042.toInt) rfl (by as_aux_lemma => (first | exact om_f68ebca5c121 r2.1 r2.2 hz3 r4.1 r4.2 hz5 f7 klp48_0.1 f1040 hz1041 hz1042 | omega))) dX12_toldComponent_105 (fun H locs hP hD hS => ?_)
                      obtain ⟨V1043, hV1043⟩ : ∃ z, z = up2 V47 34 (Int32.toNatClampNeg z1042) (-1) := ⟨_, rfl⟩
                      have hP : va_P D vwCl (mw ad kk ks.1 V1043 L) H := by rw [hV1043]; exact hP
                      have hD : va_D A (mw ad kk ks.1 V1043 L) := by rw [hV1043]; exact hD
                      have hMV1043 : rgd bM V1043 := hMV47.put hV1043 (i_full _)
                      have agV1043 : agr [(0, 7), (0, 8), (0, 48), (0, 50), (0, 51), (0, 52)] [15, 19, 20, 21, 22, 23, 24, 25, 26, 27, 28, 29, 30, 31, 32, 33, 34, 35, 36, 37, 38, 45, 46, 47, 53] V V1043 := agV47.up hV1043 rfl
                      obtain ⟨z1044, ez1044⟩ : ∃ y : Int32, y = y46 + 1 := ⟨_, rfl⟩
                      have hz1044 : z1044.toInt = y46.toInt + 1 := i_add ez1044 rfl (by decide) (by as_aux_lemma => (first | exact om_23af15ced7f9 klp48_0.1 f1040 | omega))
                      refine lv_iinc (v := z1044) (lv' := [(4, .int z1044), (2, .long z25), (1, .int z5), (0, .ref (ad 0))]) hx hb dX12_toldComponent_106 hl (k := 0) rfl (by rw [ez1044]; rfl) (by decide) rfl (fun ls hl => ?_)
                      refine lv_goto (tgt := 86) hx hb dX12_toldComponent_109 (by decide) ?_
                      have k34 := i_clamp (x := z1042) rfl (by as_aux_lemma => (first | exact om_236d49a2dcd5 r2.1 hz3 r4.1 hz5 klp48_0.1 hz1041 hz1042 | omega))
                      have re1045 : REm V1043 bq gs := REm.up xlp48_1 hV1043 (by as_aux_lemma => have h9 := i_clamp (x := z1042) rfl (by as_aux_lemma => (first | exact om_236d49a2dcd5 r2.1 hz3 r4.1 hz5 klp48_0.1 hz1041 hz1042 | omega)); omega)
                      have rw1046 : RoV 19 bq V V1043 := (fun k hk => ((up2_o hV1043 (by decide)).trans (xlp48_2 k hk)))
                      have rw1047 : RoV 35 bq V V1043 := (fun k hk => ((up2_o hV1043 (by decide)).trans (xlp48_3 k hk)))
                      have rw1048 : RoV 37 bq V V1043 := (fun k hk => ((up2_o hV1043 (by decide)).trans (xlp48_4 k hk)))
                      have rw1049 : RoL 20 24 bq L L := (fun k hk => rfl)
                      have rw1050 : RoL 36 20 bq L L := (fun k hk => rfl)
                      have rw1051 : RoL 38 20 bq L L := (fun k hk => rfl)
                      exact ihlp48 z1044 V1043 H locs ls (by as_aux_lemma => (first | exact om_77a2a7ad51d8 klp48_0.1 f1040 hz1044 | omega)) (fun j hj => by rcases Decidable.em (20 * gc + j = Int32.toNatClampNeg z1042) with hk | hk; (rw [hk, up2_s hV1043]; decide); (rw [up2_k hV1043 hk]; exact xlp48_0 j (by as_aux_lemma => omega))) re1045 rw1046 rw1047 rw1048 rw1049 rw1050 rw1051 (by as_aux_lemma => (first | exact om_b6249f72a63f hn hz1044 | omega)) (agr.up (agr.tr agr.rf ajV47 (by decide) (by decide)) hV1043 rfl) hMV1043 hP hD hS (lv_sub hl [0, 1, 2, 3] rfl)
                have re1052 : REm V42 bq gs := REm.ag cem.2.1 (show agr [(0, 7), (0, 8)] [21] V V42 from (agr.tr (agr.tr (agr.tr agr.rf ajV13 (by decide) (by decide)) ajV29 (by decide) (by decide)) ajV42 (by decide) (by decide))) (fun _ => ⟨rfl, rfl, rfl⟩) keepE.rf rfl
                have rw1053 : RoV 19 bq V V42 := (fun k hk => (xlp43_2 k hk))
                have rw1054 : RoV 35 bq V V42 := (fun k hk => (xlp43_3 k hk))
                have rw1055 : RoV 37 bq V V42 := (fun k hk => (xlp43_4 k hk))
                have rw1056 : RoL 20 24 bq L L := (fun k hk => rfl)
                have rw1057 : RoL 36 20 bq L L := (fun k hk => rfl)
                have rw1058 : RoL 38 20 bq L L := (fun k hk => rfl)
                exact lp48 ((20 - (Int32.toInt 0) + 1 : Int).toNat) 0 V42 H locs ls (by decide) (fun j hj => absurd hj (by as_aux_lemma => omega)) re1052 rw1053 rw1054 rw1055 rw1056 rw1057 rw1058 (by as_aux_lemma => (first | exact om_c81621550cec | omega)) agr.rf hMV42 hP hD hS (lv_sub hl [0, 1, 2, 3] rfl)
              · skip
                have f1059 : y41.toInt < 24 := b_nle (by decide) rfl c44
                refine lv_aload_n hx hb dX12_toldComponent_64 rfl (lv_at hl 3 rfl) ?_
                refine va_get (D := D) (ci := 12) (v := .ref (ad 21)) (C := RX12) (T := TX12) (N := 100) hx hb hg inX12 hown hK hP 0 rfl rfl 21 (by decide) (hg _ w1727) (fun _ h9 => h9) rfl dX12_toldComponent_65 ?_
                refine lv_bipush (v := 24) hx hb dX12_toldComponent_68 (by decide) ?_
                refine lv_iload_n hx hb dX12_toldComponent_70 rfl (lv_at hl 2 rfl) ?_
                refine lv_imul hx hb dX12_toldComponent_71 ?_
                refine lv_topi (fun z1060 ez1060 => ?_)
                have hz1060 : z1060.toInt = 24 * z5.toInt := i_mul ez1060 (by decide) rfl (by as_aux_lemma => (first | exact om_5113af4dba16 r2.1 r2.2 hz3 r4.1 r4.2 hz5 f7 | omega))
                refine lv_iload hx hb dX12_toldComponent_72 (lv_at hl 0 rfl) ?_
                refine lv_iadd hx hb dX12_toldComponent_74 ?_
                refine lv_topi (fun z1061 ez1061 => ?_)
                have hz1061 : z1061.toInt = z1060.toInt + y41.toInt := i_add ez1061 rfl rfl (by as_aux_lemma => (first | exact om_4a290ed80e15 r2.1 r2.2 hz3 r4.1 r4.2 hz5 f7 klp43_0.1 f1059 hz1060 | omega))
                refine lv_iconst (v := 0) hx hb dX12_toldComponent_75 (by decide) ?_
                refine va_zast (D := D) (i := z1061) (x := 0) hx hb hK hP hD hS 14 13 rfl rfl (i_in (a := z1061.toInt) rfl (by as_aux_lemma => (first | exact om_981286914071 r2.1 r2.2 hz3 r4.1 r4.2 hz5 f7 klp43_0.1 f1059 hz1060 hz1061 | omega))) dX12_toldComponent_76 (fun H locs hP hD hS => ?_)
                obtain ⟨V1062, hV1062⟩ : ∃ z, z = up2 V42 21 (Int32.toNatClampNeg z1061) (vp_nar .boolean 0) := ⟨_, rfl⟩
                have hP : va_P D vwCl (mw ad kk ks.1 V1062 L) H := by rw [hV1062]; exact hP
                have hD : va_D A (mw ad kk ks.1 V1062 L) := by rw [hV1062]; exact hD
                have hMV1062 : rgd bM V1062 := hMV42.put hV1062 (nar_b _)
                have agV1062 : agr [(0, 7), (0, 8), (0, 48), (0, 50), (0, 51), (0, 52)] [15, 19, 20, 21, 22, 23, 24, 25, 26, 27, 28, 29, 30, 31, 32, 33, 34, 35, 36, 37, 38, 45, 46, 47, 53] V V1062 := agV42.up hV1062 rfl
                obtain ⟨z1063, ez1063⟩ : ∃ y : Int32, y = y41 + 1 := ⟨_, rfl⟩
                have hz1063 : z1063.toInt = y41.toInt + 1 := i_add ez1063 rfl (by decide) (by as_aux_lemma => (first | exact om_bc9106cf44c9 klp43_0.1 f1059 | omega))
                refine lv_iinc (v := z1063) (lv' := [(4, .int z1063), (2, .long z25), (1, .int z5), (0, .ref (ad 0))]) hx hb dX12_toldComponent_77 hl (k := 0) rfl (by rw [ez1063]; rfl) (by decide) rfl (fun ls hl => ?_)
                refine lv_goto (tgt := 57) hx hb dX12_toldComponent_80 (by decide) ?_
                have kc5 := i_clamp (x := y41) rfl (by as_aux_lemma => (first | exact om_eafa9039069c klp43_0.1 | omega))
                have kp5 : (Int32.toNatClampNeg z1061) = 24 * gc + Int32.toNatClampNeg y41 := by as_aux_lemma => have h9 := i_clamp (x := z1061) rfl (by as_aux_lemma => (first | exact om_f34346e088fb r2.1 hz3 r4.1 hz5 klp43_0.1 hz1060 hz1061 | omega)); omega
                have cn1064 : CNm V1062 bq gs := CNm.up xlp43_1 hV1062 (fun q9 => by as_aux_lemma => have h9 := i_clamp (x := z1061) rfl (by as_aux_lemma => (first | exact om_f34346e088fb r2.1 hz3 r4.1 hz5 klp43_0.1 hz1060 hz1061 | omega)); unfold rdm at q9; omega)
                have rw1065 : RoV 19 bq V V1062 := (fun k hk => ((up2_o hV1062 (by decide)).trans (xlp43_2 k hk)))
                have rw1066 : RoV 35 bq V V1062 := (fun k hk => ((up2_o hV1062 (by decide)).trans (xlp43_3 k hk)))
                have rw1067 : RoV 37 bq V V1062 := (fun k hk => ((up2_o hV1062 (by decide)).trans (xlp43_4 k hk)))
                have rw1068 : RoL 20 24 bq L L := (fun k hk => rfl)
                have rw1069 : RoL 36 20 bq L L := (fun k hk => rfl)
                have rw1070 : RoL 38 20 bq L L := (fun k hk => rfl)
                exact ihlp43 z1063 V1062 H locs ls (by as_aux_lemma => (first | exact om_a5349b170263 klp43_0.1 f1059 hz1063 | omega)) (fun g hg => by by_cases hk : g = Int32.toNatClampNeg y41; (rw [hk, ← kp5, up2_s hV1062]; decide); (rw [up2_k hV1062 (by as_aux_lemma => omega)]; exact xlp43_0 g (by as_aux_lemma => omega))) cn1064 rw1065 rw1066 rw1067 rw1068 rw1069 rw1070 (by as_aux_lemma => (first | exact om_56c79def76de hn hz1063 | omega)) (agr.up (agr.tr agr.rf ajV42 (by decide) (by decide)) hV1062 rfl) hMV1062 hP hD hS (lv_sub hl [0, 1, 2, 3] rfl)
          have cn1071 : CNm V29 bq gs := CNm.ag cnm (show agr [(0, 7), (0, 8)] [] V V29 from (agr.tr (agr.tr agr.rf ajV13 (by decide) (by decide)) ajV29 (by decide) (by decide))) (by decide) keepC.rf
          have rw1072 : RoV 19 bq V V29 := (fun k hk => ((ajV29 19 k rfl).trans ((ajV13 19 k rfl).trans rfl)))
          have rw1073 : RoV 35 bq V V29 := (fun k hk => ((ajV29 35 k rfl).trans ((ajV13 35 k rfl).trans rfl)))
          have rw1074 : RoV 37 bq V V29 := (fun k hk => ((ajV29 37 k rfl).trans ((ajV13 37 k rfl).trans rfl)))
          have rw1075 : RoL 20 24 bq L L := (fun k hk => rfl)
          have rw1076 : RoL 36 20 bq L L := (fun k hk => rfl)
          have rw1077 : RoL 38 20 bq L L := (fun k hk => rfl)
          exact lp43 ((24 - (Int32.toInt 0) + 1 : Int).toNat) 0 V29 H locs ls (by decide) (fun g hg => absurd hg (by as_aux_lemma => omega)) cn1071 rw1072 rw1073 rw1074 rw1075 rw1076 rw1077 (by as_aux_lemma => (first | exact om_817980d3aa47 | omega)) agr.rf hMV29 hP hD hS (lv_sub hl [0, 1, 2, 3] rfl)
        · skip
          have hb1078 : ∀ k, Rc gT (Crun gs (Istmt :: k)) (Cbad (V29 0 8).toInt) := fun k => Rc.go1 (hr19 k) (nc_b h33)
          have r1079 : 0 ≤ ((V29 0 8)).toInt ∧ ((V29 0 8)).toInt ≤ 70000 := hMV29 0 8
          refine lv_lstore_n (lv' := [(2, .long z25), (1, .int z5), (0, .ref (ad 0))]) hx hb dX12_toldComponent_53 rfl hl (by decide) rfl (fun ls hl => ?_)
          have z5s : z5.toInt < 48 := by as_aux_lemma => (first | exact om_0b93f57c7e11 r2.2 hz3 r4.2 hz5 f7 | omega)
          refine lv_iconst (v := 0) hx hb dX12_toldComponent_54 (by decide) ?_
          refine lv_istore (lv' := [(4, .int 0), (2, .long z25), (1, .int z5), (0, .ref (ad 0))]) hx hb dX12_toldComponent_55 hl (by decide) rfl (fun ls hl => ?_)
          have lp1082 : ∀ (fulp1082 : Nat) (y1080 : Int32) (V1081 : Vf) (H : Heap) (locs : List Loc) (ls : Array Slot), 0 ≤ y1080.toInt ∧ y1080.toInt ≤ 24 → (∀ g : Nat, (g : Int) < y1080.toInt → (V1081 21 (24 * gc + g)).toInt = 0) → (CNm V1081 bq gs) → (RoV 19 bq V V1081) → (RoV 35 bq V V1081) → (RoV 37 bq V V1081) → (RoL 20 24 bq L L) → (RoL 36 20 bq L L) → (RoL 38 20 bq L L) → 24 - y1080.toInt < (fulp1082 : Int) → agr [] [21] V29 V1081 → rgd bM V1081 → va_P D vwCl (mw ad kk ks.1 V1081 L) H → va_D A (mw ad kk ks.1 V1081 L) → va_S A s.heap H locs → lv_has ls 5 [(4, .int y1080), (2, .long z25), (1, .int z5), (0, .ref (ad 0))] → W p l e r_s_toldComponentA s m ([.ref (ad 0)] : List Value).toArray below meth c H locs 0 0 (MQ below (q_s_toldComponentA D ks ad kk V L  bq gn gT gs A) ([.ref (ad 0)] : List Value).toArray s 0 0 A) (F0 m 57 ls []) := by
            (try clear fz21); (try clear ps20); (try clear hr19); (try clear hr18)
            intro fulp1082
            induction fulp1082 with
            | zero =>
              intro y1080 V1081 H locs ls klp1082_0 xlp1082_0 xlp1082_1 xlp1082_2 xlp1082_3 xlp1082_4 xlp1082_5 xlp1082_6 xlp1082_7 hn ajV1081 hMV1081 hP hD hS hl
              exfalso; (first | exact om_9386ef0df612 klp1082_0.2 hn | omega)
            | succ fulp1082 ihlp1082 =>
              intro y1080 V1081 H locs ls klp1082_0 xlp1082_0 xlp1082_1 xlp1082_2 xlp1082_3 xlp1082_4 xlp1082_5 xlp1082_6 xlp1082_7 hn ajV1081 hMV1081 hP hD hS hl
              have agV1081 : agr [(0, 7), (0, 8), (0, 48), (0, 50), (0, 51), (0, 52)] [15, 19, 20, 21, 22, 23, 24, 25, 26, 27, 28, 29, 30, 31, 32, 33, 34, 35, 36, 37, 38, 45, 46, 47, 53] V V1081 := agV29.tr ajV1081 (by decide) (by decide)
              refine lv_iload hx hb dX12_toldComponent_57 (lv_at hl 0 rfl) ?_
              refine lv_bipush (v := 24) hx hb dX12_toldComponent_59 (by decide) ?_
              refine lv_icmp_ge (tgt := 83) hx hb dX12_toldComponent_61 (by decide) (fun c1083 => ?_) (fun c1083 => ?_)
              · skip
                have f1084 : 24 ≤ y1080.toInt := b_le (by decide) rfl c1083
                refine lv_iconst (v := 0) hx hb dX12_toldComponent_83 (by decide) ?_
                refine lv_istore (lv' := [(4, .int 0), (2, .long z25), (1, .int z5), (0, .ref (ad 0))]) hx hb dX12_toldComponent_84 hl (by decide) rfl (fun ls hl => ?_)
                have lp1087 : ∀ (fulp1087 : Nat) (y1085 : Int32) (V1086 : Vf) (H : Heap) (locs : List Loc) (ls : Array Slot), 0 ≤ y1085.toInt ∧ y1085.toInt ≤ 20 → (∀ j : Nat, (j : Int) < y1085.toInt → (V1086 34 (20 * gc + j)).toInt = -1) → (REm V1086 bq gs) → (RoV 19 bq V V1086) → (RoV 35 bq V V1086) → (RoV 37 bq V V1086) → (RoL 20 24 bq L L) → (RoL 36 20 bq L L) → (RoL 38 20 bq L L) → 20 - y1085.toInt < (fulp1087 : Int) → agr [] [34] V1081 V1086 → rgd bM V1086 → va_P D vwCl (mw ad kk ks.1 V1086 L) H → va_D A (mw ad kk ks.1 V1086 L) → va_S A s.heap H locs → lv_has ls 5 [(4, .int y1085), (2, .long z25), (1, .int z5), (0, .ref (ad 0))] → W p l e r_s_toldComponentA s m ([.ref (ad 0)] : List Value).toArray below meth c H locs 0 0 (MQ below (q_s_toldComponentA D ks ad kk V L  bq gn gT gs A) ([.ref (ad 0)] : List Value).toArray s 0 0 A) (F0 m 86 ls []) := by
                  (try clear fz21); (try clear ps20); (try clear hr19); (try clear hr18)
                  intro fulp1087
                  induction fulp1087 with
                  | zero =>
                    intro y1085 V1086 H locs ls klp1087_0 xlp1087_0 xlp1087_1 xlp1087_2 xlp1087_3 xlp1087_4 xlp1087_5 xlp1087_6 xlp1087_7 hn ajV1086 hMV1086 hP hD hS hl
                    exfalso; (first | exact om_626e07862489 klp1087_0.2 hn | omega)
                  | succ fulp1087 ihlp1087 =>
                    intro y1085 V1086 H locs ls klp1087_0 xlp1087_0 xlp1087_1 xlp1087_2 xlp1087_3 xlp1087_4 xlp1087_5 xlp1087_6 xlp1087_7 hn ajV1086 hMV1086 hP hD hS hl
                    have agV1086 : agr [(0, 7), (0, 8), (0, 48), (0, 50), (0, 51), (0, 52)] [15, 19, 20, 21, 22, 23, 24, 25, 26, 27, 28, 29, 30, 31, 32, 33, 34, 35, 36, 37, 38, 45, 46, 47, 53] V V1086 := agV1081.tr ajV1086 (by decide) (by decide)
                    refine lv_iload hx hb dX12_toldComponent_86 (lv_at hl 0 rfl) ?_
                    refine lv_bipush (v := 20) hx hb dX12_toldComponent_88 (by decide) ?_
                    refine lv_icmp_ge (tgt := 112) hx hb dX12_toldComponent_90 (by decide) (fun c1088 => ?_) (fun c1088 => ?_)
                    · skip
                      have f1089 : 20 ≤ y1085.toInt := b_le (by decide) rfl c1088
                      have r31090 : ∀ j : Nat, j < 20 → (V1086 34 (20 * gc + j)).toInt = -1 := fun j hj => xlp1087_0 j (by as_aux_lemma => omega)
                      refine lv_aload_n hx hb dX12_toldComponent_112 rfl (lv_at hl 3 rfl) ?_
                      refine lv_iconst (v := 4) hx hb dX12_toldComponent_113 (by decide) ?_
                      have r1091 : Int32.toInt 4 = 4 := by decide
                      have pq1092 : (V1086 0 8).toInt = ((V29 0 8)).toInt := congrArg Int32.toInt ((ajV1086 0 8 rfl).trans (ajV1081 0 8 rfl))
                      refine gA_void (gA_runV (As := [.int 4]) (rest := []) (ci := 12) (q0 := 0) hx hb hml hown hg hP hD hK hS hA hnw hgk (s_takeWordB l D ks H.size ad kk V1086 L 4 hMV1086 (by decide) (show 1 ≤ (V1086 0 8).toInt from by as_aux_lemma => omega)) w2092 w2094 w100 w172 w2095 rfl rfl hdV_yX12_takeWord ⟨Nat.le_of_ble_eq_true rfl, Nat.le_of_ble_eq_true rfl⟩ rfl hl.1 rfl (Nat.le_of_ble_eq_true rfl) dX12_toldComponent_114 ⟨Nat.le_of_ble_eq_true rfl, Nat.le_of_ble_eq_true rfl⟩) hP hD hK hS hA (fun u1094 H locs w1095 hP hD hK hS => ?_)
                      obtain ⟨V1097, L1098⟩ := u1094
                      obtain ⟨hMV1097, ajV1097, axL1098, t1096⟩ := w1095
                      have axL1098 : L = L1098 := Eq.symm axL1098
                      subst axL1098
                      replace hP : va_P D vwCl (mw ad kk ks.1 V1097 L) H := hP
                      replace hD : va_D A (mw ad kk ks.1 V1097 L) := hD
                      replace hMV1097 : rgd bM V1097 := hMV1097
                      replace ajV1097 : agr [(0, 7), (0, 8)] [] V1086 V1097 := ajV1097
                      have agV1097 : agr [(0, 7), (0, 8), (0, 48), (0, 50), (0, 51), (0, 52)] [15, 19, 20, 21, 22, 23, 24, 25, 26, 27, 28, 29, 30, 31, 32, 33, 34, 35, 36, 37, 38, 45, 46, 47, 53] V V1097 := agV1086.tr ajV1097 (by decide) (by decide)
                      replace t1096 : (V1097 0 8).toInt = (V1086 0 8).toInt := t1096
                      have r1099 : 0 ≤ ((V1097 0 8)).toInt ∧ ((V1097 0 8)).toInt ≤ 70000 := hMV1097 0 8
                      refine lv_aload_n hx hb dX12_toldComponent_117 rfl (lv_at hl 3 rfl) ?_
                      refine va_get (D := D) (ci := 12) (v := .int (V1097 0 8)) (C := RX12) (T := TX12) (N := 100) hx hb hg inX12 hown hK hP 0 rfl rfl 8 (by decide) (hg _ w1714) (fun _ h9 => h9) rfl dX12_toldComponent_118 ?_
                      refine lv_if_ne (tgt := 133) hx hb dX12_toldComponent_121 (by decide) (fun c1100 => ?_) (fun c1100 => ?_)
                      · skip
                        have f1101 : ((V1097 0 8)).toInt ≠ 0 := b_neq rfl (by decide) c1100
                        refine lv_aload_n hx hb dX12_toldComponent_133 rfl (lv_at hl 3 rfl) ?_
                        refine va_get (D := D) (ci := 12) (v := .ref (ad 22)) (C := RX12) (T := TX12) (N := 100) hx hb hg inX12 hown hK hP 0 rfl rfl 22 (by decide) (hg _ w1728) (fun _ h9 => h9) rfl dX12_toldComponent_134 ?_
                        refine lv_iload_n hx hb dX12_toldComponent_137 rfl (lv_at hl 2 rfl) ?_
                        refine lv_aload_n hx hb dX12_toldComponent_138 rfl (lv_at hl 3 rfl) ?_
                        refine lv_bipush (v := 20) hx hb dX12_toldComponent_139 (by decide) ?_
                        refine lv_iconst (v := 4) hx hb dX12_toldComponent_141 (by decide) ?_
                        have r1102 : Int32.toInt 20 = 20 := by decide
                        refine gA_int (gA_runV (As := [.int 20, .int 4]) (rest := [.int z5, .ref (ad 22)]) (ci := 12) (q0 := 0) hx hb hml hown hg hP hD hK hS hA hnw hgk (s_oneOfB l D ks H.size ad kk V1097 L 20 4 hMV1097 (by decide) (by decide) (show 1 ≤ (V1097 0 8).toInt from by as_aux_lemma => (first | exact om_76052c512981 r1099.1 f1101 | omega))) w2096 w2098 w101 w172 w2099 rfl rfl hdV_yX12_oneOf ⟨Nat.le_of_ble_eq_true rfl, Nat.le_of_ble_eq_true rfl⟩ rfl hl.1 rfl (Nat.le_of_ble_eq_true rfl) dX12_toldComponent_142 ⟨Nat.le_of_ble_eq_true rfl, Nat.le_of_ble_eq_true rfl⟩) hP hD hK hS hA (fun z1103 u1104 H locs w1105 hP hD hK hS => ?_)
                        obtain ⟨V1107, L1108⟩ := u1104
                        obtain ⟨hMV1107, ajV1107, axL1108, rgz1103, t1106⟩ := w1105
                        have axL1108 : L = L1108 := Eq.symm axL1108
                        subst axL1108
                        replace hP : va_P D vwCl (mw ad kk ks.1 V1107 L) H := hP
                        replace hD : va_D A (mw ad kk ks.1 V1107 L) := hD
                        replace hMV1107 : rgd bM V1107 := hMV1107
                        replace ajV1107 : agr [(0, 7), (0, 8)] [] V1097 V1107 := ajV1107
                        have agV1107 : agr [(0, 7), (0, 8), (0, 48), (0, 50), (0, 51), (0, 52)] [15, 19, 20, 21, 22, 23, 24, 25, 26, 27, 28, 29, 30, 31, 32, 33, 34, 35, 36, 37, 38, 45, 46, 47, 53] V V1107 := agV1097.tr ajV1107 (by decide) (by decide)
                        replace rgz1103 : 0 ≤ z1103.toInt ∧ z1103.toInt ≤ 0 := rgz1103
                        replace t1106 : (V1107 0 8).toInt = (V1097 0 8).toInt := t1106
                        have r1109 : 0 ≤ ((V1107 0 8)).toInt ∧ ((V1107 0 8)).toInt ≤ 70000 := hMV1107 0 8
                        refine va_iast (D := D) (i := z5) (x := z1103) hx hb hK hP hD hS 15 14 rfl rfl (i_in (a := z5.toInt) rfl (by as_aux_lemma => (first | exact om_aa704d15899a r2.1 r2.2 hz3 r4.1 r4.2 hz5 f7 | omega))) dX12_toldComponent_145 (fun H locs hP hD hS => ?_)
                        obtain ⟨V1110, hV1110⟩ : ∃ z, z = up2 V1107 22 (Int32.toNatClampNeg z5) z1103 := ⟨_, rfl⟩
                        have hP : va_P D vwCl (mw ad kk ks.1 V1110 L) H := by rw [hV1110]; exact hP
                        have hD : va_D A (mw ad kk ks.1 V1110 L) := by rw [hV1110]; exact hD
                        have hMV1110 : rgd bM V1110 := hMV1107.put hV1110 (i_full _)
                        have agV1110 : agr [(0, 7), (0, 8), (0, 48), (0, 50), (0, 51), (0, 52)] [15, 19, 20, 21, 22, 23, 24, 25, 26, 27, 28, 29, 30, 31, 32, 33, 34, 35, 36, 37, 38, 45, 46, 47, 53] V V1110 := agV1107.up hV1110 rfl
                        refine lv_aload_n hx hb dX12_toldComponent_146 rfl (lv_at hl 3 rfl) ?_
                        refine va_get (D := D) (ci := 12) (v := .ref (ad 23)) (C := RX12) (T := TX12) (N := 100) hx hb hg inX12 hown hK hP 0 rfl rfl 23 (by decide) (hg _ w1729) (fun _ h9 => h9) rfl dX12_toldComponent_147 ?_
                        refine lv_iload_n hx hb dX12_toldComponent_150 rfl (lv_at hl 2 rfl) ?_
                        refine lv_aload_n hx hb dX12_toldComponent_151 rfl (lv_at hl 3 rfl) ?_
                        refine lv_iconst (v := 5) hx hb dX12_toldComponent_152 (by decide) ?_
                        have r1111 : Int32.toInt 5 = 5 := by decide
                        have pq1112 : (V1110 0 8).toInt = ((V1107 0 8)).toInt := congrArg Int32.toInt (up2_o hV1110 (by decide))
                        refine gA_int (gA_runV (As := [.int 5]) (rest := [.int z5, .ref (ad 23)]) (ci := 12) (q0 := 0) hx hb hml hown hg hP hD hK hS hA hnw hgk (s_hasWordB l D ks H.size ad kk V1110 L 5 hMV1110 (by decide) (show 1 ≤ (V1110 0 8).toInt from by as_aux_lemma => (first | exact om_14e1582db31a r1099.1 f1101 t1106 pq1112 | omega))) w2051 w2053 w90 w172 w2054 rfl rfl hdV_yX12_hasWord ⟨Nat.le_of_ble_eq_true rfl, Nat.le_of_ble_eq_true rfl⟩ rfl hl.1 rfl (Nat.le_of_ble_eq_true rfl) dX12_toldComponent_153 ⟨Nat.le_of_ble_eq_true rfl, Nat.le_of_ble_eq_true rfl⟩) hP hD hK hS hA (fun z1113 u1114 H locs w1115 hP hD hK hS => ?_)
                        obtain ⟨V1117, L1118⟩ := u1114
                        obtain ⟨hMV1117, ajV1117, axL1118, rgz1113, t1116⟩ := w1115
                        have axL1118 : L = L1118 := Eq.symm axL1118
                        subst axL1118
                        replace hP : va_P D vwCl (mw ad kk ks.1 V1117 L) H := hP
                        replace hD : va_D A (mw ad kk ks.1 V1117 L) := hD
                        replace hMV1117 : rgd bM V1117 := hMV1117
                        replace ajV1117 : agr [(0, 7)] [] V1110 V1117 := ajV1117
                        have agV1117 : agr [(0, 7), (0, 8), (0, 48), (0, 50), (0, 51), (0, 52)] [15, 19, 20, 21, 22, 23, 24, 25, 26, 27, 28, 29, 30, 31, 32, 33, 34, 35, 36, 37, 38, 45, 46, 47, 53] V V1117 := agV1110.tr ajV1117 (by decide) (by decide)
                        replace rgz1113 : 0 ≤ z1113.toInt ∧ z1113.toInt ≤ 0 := rgz1113
                        replace t1116 : (V1117 0 8).toInt = (V1110 0 8).toInt := t1116
                        have pq1119 : (V1117 0 8).toInt = ((V1107 0 8)).toInt := congrArg Int32.toInt ((ajV1117 0 8 rfl).trans (up2_o hV1110 (by decide)))
                        refine lv_if_eq (tgt := 174) hx hb dX12_toldComponent_156 (by decide) (fun c1120 => ?_) (fun c1120 => ?_)
                        · skip
                          have f1121 : z1113.toInt = 0 := b_eq rfl (by decide) c1120
                          refine lv_iconst (v := (-1)) hx hb dX12_toldComponent_174 (by decide) ?_
                          refine va_iast (D := D) (i := z5) (x := (-1)) hx hb hK hP hD hS 16 15 rfl rfl (i_in (a := z5.toInt) rfl (by as_aux_lemma => (first | exact om_aa704d15899a r2.1 r2.2 hz3 r4.1 r4.2 hz5 f7 | omega))) dX12_toldComponent_175 (fun H locs hP hD hS => ?_)
                          obtain ⟨V1122, hV1122⟩ : ∃ z, z = up2 V1117 23 (Int32.toNatClampNeg z5) (-1) := ⟨_, rfl⟩
                          have hP : va_P D vwCl (mw ad kk ks.1 V1122 L) H := by rw [hV1122]; exact hP
                          have hD : va_D A (mw ad kk ks.1 V1122 L) := by rw [hV1122]; exact hD
                          have hMV1122 : rgd bM V1122 := hMV1117.put hV1122 (i_full _)
                          have agV1122 : agr [(0, 7), (0, 8), (0, 48), (0, 50), (0, 51), (0, 52)] [15, 19, 20, 21, 22, 23, 24, 25, 26, 27, 28, 29, 30, 31, 32, 33, 34, 35, 36, 37, 38, 45, 46, 47, 53] V V1122 := agV1117.up hV1122 rfl
                          refine lv_aload_n hx hb dX12_toldComponent_176 rfl (lv_at hl 3 rfl) ?_
                          refine va_get (D := D) (ci := 12) (v := .ref (ad 24)) (C := RX12) (T := TX12) (N := 100) hx hb hg inX12 hown hK hP 0 rfl rfl 24 (by decide) (hg _ w1730) (fun _ h9 => h9) rfl dX12_toldComponent_177 ?_
                          refine lv_iload_n hx hb dX12_toldComponent_180 rfl (lv_at hl 2 rfl) ?_
                          refine lv_aload_n hx hb dX12_toldComponent_181 rfl (lv_at hl 3 rfl) ?_
                          refine lv_bipush (v := 6) hx hb dX12_toldComponent_182 (by decide) ?_
                          have r1123 : Int32.toInt 6 = 6 := by decide
                          have pq1124 : (V1122 0 8).toInt = ((V1107 0 8)).toInt := congrArg Int32.toInt ((up2_o hV1122 (by decide)).trans ((ajV1117 0 8 rfl).trans (up2_o hV1110 (by decide))))
                          refine gA_int (gA_runV (As := [.int 6]) (rest := [.int z5, .ref (ad 24)]) (ci := 12) (q0 := 0) hx hb hml hown hg hP hD hK hS hA hnw hgk (s_hasWordB l D ks H.size ad kk V1122 L 6 hMV1122 (by decide) (show 1 ≤ (V1122 0 8).toInt from by as_aux_lemma => (first | exact om_14e1582db31a r1099.1 f1101 t1106 pq1124 | omega))) w2051 w2053 w90 w172 w2054 rfl rfl hdV_yX12_hasWord ⟨Nat.le_of_ble_eq_true rfl, Nat.le_of_ble_eq_true rfl⟩ rfl hl.1 rfl (Nat.le_of_ble_eq_true rfl) dX12_toldComponent_184 ⟨Nat.le_of_ble_eq_true rfl, Nat.le_of_ble_eq_true rfl⟩) hP hD hK hS hA (fun z1125 u1126 H locs w1127 hP hD hK hS => ?_)
                          obtain ⟨V1129, L1130⟩ := u1126
                          obtain ⟨hMV1129, ajV1129, axL1130, rgz1125, t1128⟩ := w1127
                          have axL1130 : L = L1130 := Eq.symm axL1130
                          subst axL1130
                          replace hP : va_P D vwCl (mw ad kk ks.1 V1129 L) H := hP
                          replace hD : va_D A (mw ad kk ks.1 V1129 L) := hD
                          replace hMV1129 : rgd bM V1129 := hMV1129
                          replace ajV1129 : agr [(0, 7)] [] V1122 V1129 := ajV1129
                          have agV1129 : agr [(0, 7), (0, 8), (0, 48), (0, 50), (0, 51), (0, 52)] [15, 19, 20, 21, 22, 23, 24, 25, 26, 27, 28, 29, 30, 31, 32, 33, 34, 35, 36, 37, 38, 45, 46, 47, 53] V V1129 := agV1122.tr ajV1129 (by decide) (by decide)
                          replace rgz1125 : 0 ≤ z1125.toInt ∧ z1125.toInt ≤ 0 := rgz1125
                          replace t1128 : (V1129 0 8).toInt = (V1122 0 8).toInt := t1128
                          have pq1131 : (V1129 0 8).toInt = ((V1107 0 8)).toInt := congrArg Int32.toInt ((ajV1129 0 8 rfl).trans ((up2_o hV1122 (by decide)).trans ((ajV1117 0 8 rfl).trans (up2_o hV1110 (by decide)))))
                          refine lv_if_eq (tgt := 200) hx hb dX12_toldComponent_187 (by decide) (fun c1132 => ?_) (fun c1132 => ?_)
                          · skip
                            have f1133 : z1125.toInt = 0 := b_eq rfl (by decide) c1132
                            refine lv_iconst (v := 0) hx hb dX12_toldComponent_200 (by decide) ?_
                            refine va_iast (D := D) (i := z5) (x := 0) hx hb hK hP hD hS 17 16 rfl rfl (i_in (a := z5.toInt) rfl (by as_aux_lemma => (first | exact om_aa704d15899a r2.1 r2.2 hz3 r4.1 r4.2 hz5 f7 | omega))) dX12_toldComponent_201 (fun H locs hP hD hS => ?_)
                            obtain ⟨V1134, hV1134⟩ : ∃ z, z = up2 V1129 24 (Int32.toNatClampNeg z5) 0 := ⟨_, rfl⟩
                            have hP : va_P D vwCl (mw ad kk ks.1 V1134 L) H := by rw [hV1134]; exact hP
                            have hD : va_D A (mw ad kk ks.1 V1134 L) := by rw [hV1134]; exact hD
                            have hMV1134 : rgd bM V1134 := hMV1129.put hV1134 (show 0 ≤ Int32.toInt 0 ∧ Int32.toInt 0 ≤ 9 from by decide)
                            have agV1134 : agr [(0, 7), (0, 8), (0, 48), (0, 50), (0, 51), (0, 52)] [15, 19, 20, 21, 22, 23, 24, 25, 26, 27, 28, 29, 30, 31, 32, 33, 34, 35, 36, 37, 38, 45, 46, 47, 53] V V1134 := agV1129.up hV1134 rfl
                            refine lv_aload_n hx hb dX12_toldComponent_202 rfl (lv_at hl 3 rfl) ?_
                            refine va_get (D := D) (ci := 12) (v := .ref (ad 25)) (C := RX12) (T := TX12) (N := 100) hx hb hg inX12 hown hK hP 0 rfl rfl 25 (by decide) (hg _ w1731) (fun _ h9 => h9) rfl dX12_toldComponent_203 ?_
                            refine lv_iload_n hx hb dX12_toldComponent_206 rfl (lv_at hl 2 rfl) ?_
                            refine lv_iconst (v := (-1)) hx hb dX12_toldComponent_207 (by decide) ?_
                            refine va_iast (D := D) (i := z5) (x := (-1)) hx hb hK hP hD hS 18 17 rfl rfl (i_in (a := z5.toInt) rfl (by as_aux_lemma => (first | exact om_aa704d15899a r2.1 r2.2 hz3 r4.1 r4.2 hz5 f7 | omega))) dX12_toldComponent_208 (fun H locs hP hD hS => ?_)
                            obtain ⟨V1135, hV1135⟩ : ∃ z, z = up2 V1134 25 (Int32.toNatClampNeg z5) (-1) := ⟨_, rfl⟩
                            have hP : va_P D vwCl (mw ad kk ks.1 V1135 L) H := by rw [hV1135]; exact hP
                            have hD : va_D A (mw ad kk ks.1 V1135 L) := by rw [hV1135]; exact hD
                            have hMV1135 : rgd bM V1135 := hMV1134.put hV1135 (show (-1) ≤ Int32.toInt (-1) ∧ Int32.toInt (-1) ≤ 11 from by decide)
                            have agV1135 : agr [(0, 7), (0, 8), (0, 48), (0, 50), (0, 51), (0, 52)] [15, 19, 20, 21, 22, 23, 24, 25, 26, 27, 28, 29, 30, 31, 32, 33, 34, 35, 36, 37, 38, 45, 46, 47, 53] V V1135 := agV1134.up hV1135 rfl
                            refine lv_aload_n hx hb dX12_toldComponent_209 rfl (lv_at hl 3 rfl) ?_
                            refine lv_bipush (v := 7) hx hb dX12_toldComponent_210 (by decide) ?_
                            have r1136 : Int32.toInt 7 = 7 := by decide
                            have pq1137 : (V1135 0 8).toInt = ((V1107 0 8)).toInt := congrArg Int32.toInt ((up2_o hV1135 (by decide)).trans ((up2_o hV1134 (by decide)).trans ((ajV1129 0 8 rfl).trans ((up2_o hV1122 (by decide)).trans ((ajV1117 0 8 rfl).trans (up2_o hV1110 (by decide)))))))
                            refine gA_int (gA_runV (As := [.int 7]) (rest := []) (ci := 12) (q0 := 0) hx hb hml hown hg hP hD hK hS hA hnw hgk (s_hasWordB l D ks H.size ad kk V1135 L 7 hMV1135 (by decide) (show 1 ≤ (V1135 0 8).toInt from by as_aux_lemma => (first | exact om_14e1582db31a r1099.1 f1101 t1106 pq1137 | omega))) w2051 w2053 w90 w172 w2054 rfl rfl hdV_yX12_hasWord ⟨Nat.le_of_ble_eq_true rfl, Nat.le_of_ble_eq_true rfl⟩ rfl hl.1 rfl (Nat.le_of_ble_eq_true rfl) dX12_toldComponent_212 ⟨Nat.le_of_ble_eq_true rfl, Nat.le_of_ble_eq_true rfl⟩) hP hD hK hS hA (fun z1138 u1139 H locs w1140 hP hD hK hS => ?_)
                            obtain ⟨V1142, L1143⟩ := u1139
                            obtain ⟨hMV1142, ajV1142, axL1143, rgz1138, t1141⟩ := w1140
                            have axL1143 : L = L1143 := Eq.symm axL1143
                            subst axL1143
                            replace hP : va_P D vwCl (mw ad kk ks.1 V1142 L) H := hP
                            replace hD : va_D A (mw ad kk ks.1 V1142 L) := hD
                            replace hMV1142 : rgd bM V1142 := hMV1142
                            replace ajV1142 : agr [(0, 7)] [] V1135 V1142 := ajV1142
                            have agV1142 : agr [(0, 7), (0, 8), (0, 48), (0, 50), (0, 51), (0, 52)] [15, 19, 20, 21, 22, 23, 24, 25, 26, 27, 28, 29, 30, 31, 32, 33, 34, 35, 36, 37, 38, 45, 46, 47, 53] V V1142 := agV1135.tr ajV1142 (by decide) (by decide)
                            replace rgz1138 : 0 ≤ z1138.toInt ∧ z1138.toInt ≤ 0 := rgz1138
                            replace t1141 : (V1142 0 8).toInt = (V1135 0 8).toInt := t1141
                            have pq1144 : (V1142 0 8).toInt = ((V1107 0 8)).toInt := congrArg Int32.toInt ((ajV1142 0 8 rfl).trans ((up2_o hV1135 (by decide)).trans ((up2_o hV1134 (by decide)).trans ((ajV1129 0 8 rfl).trans ((up2_o hV1122 (by decide)).trans ((ajV1117 0 8 rfl).trans (up2_o hV1110 (by decide))))))))
                            refine lv_if_eq (tgt := 262) hx hb dX12_toldComponent_215 (by decide) (fun c1145 => ?_) (fun c1145 => ?_)
                            · skip
                              have f1146 : z1138.toInt = 0 := b_eq rfl (by decide) c1145
                              refine lv_aload_n hx hb dX12_toldComponent_262 rfl (lv_at hl 3 rfl) ?_
                              refine va_get (D := D) (ci := 12) (v := .ref (ad 27)) (C := RX12) (T := TX12) (N := 100) hx hb hg inX12 hown hK hP 0 rfl rfl 27 (by decide) (hg _ w1733) (fun _ h9 => h9) rfl dX12_toldComponent_263 ?_
                              refine lv_iload_n hx hb dX12_toldComponent_266 rfl (lv_at hl 2 rfl) ?_
                              refine lv_iconst (v := 0) hx hb dX12_toldComponent_267 (by decide) ?_
                              refine va_iast (D := D) (i := z5) (x := 0) hx hb hK hP hD hS 20 19 rfl rfl (i_in (a := z5.toInt) rfl (by as_aux_lemma => (first | exact om_aa704d15899a r2.1 r2.2 hz3 r4.1 r4.2 hz5 f7 | omega))) dX12_toldComponent_268 (fun H locs hP hD hS => ?_)
                              obtain ⟨V1147, hV1147⟩ : ∃ z, z = up2 V1142 27 (Int32.toNatClampNeg z5) 0 := ⟨_, rfl⟩
                              have hP : va_P D vwCl (mw ad kk ks.1 V1147 L) H := by rw [hV1147]; exact hP
                              have hD : va_D A (mw ad kk ks.1 V1147 L) := by rw [hV1147]; exact hD
                              have hMV1147 : rgd bM V1147 := hMV1142.put hV1147 (show 0 ≤ Int32.toInt 0 ∧ Int32.toInt 0 ≤ 8 from by decide)
                              have agV1147 : agr [(0, 7), (0, 8), (0, 48), (0, 50), (0, 51), (0, 52)] [15, 19, 20, 21, 22, 23, 24, 25, 26, 27, 28, 29, 30, 31, 32, 33, 34, 35, 36, 37, 38, 45, 46, 47, 53] V V1147 := agV1142.up hV1147 rfl
                              refine lv_aload_n hx hb dX12_toldComponent_269 rfl (lv_at hl 3 rfl) ?_
                              refine va_get (D := D) (ci := 12) (v := .ref (ad 32)) (C := RX12) (T := TX12) (N := 100) hx hb hg inX12 hown hK hP 0 rfl rfl 32 (by decide) (hg _ w1738) (fun _ h9 => h9) rfl dX12_toldComponent_270 ?_
                              refine lv_iload_n hx hb dX12_toldComponent_273 rfl (lv_at hl 2 rfl) ?_
                              refine lv_iconst (v := (-1)) hx hb dX12_toldComponent_274 (by decide) ?_
                              refine va_iast (D := D) (i := z5) (x := (-1)) hx hb hK hP hD hS 25 24 rfl rfl (i_in (a := z5.toInt) rfl (by as_aux_lemma => (first | exact om_aa704d15899a r2.1 r2.2 hz3 r4.1 r4.2 hz5 f7 | omega))) dX12_toldComponent_275 (fun H locs hP hD hS => ?_)
                              obtain ⟨V1148, hV1148⟩ : ∃ z, z = up2 V1147 32 (Int32.toNatClampNeg z5) (-1) := ⟨_, rfl⟩
                              have hP : va_P D vwCl (mw ad kk ks.1 V1148 L) H := by rw [hV1148]; exact hP
                              have hD : va_D A (mw ad kk ks.1 V1148 L) := by rw [hV1148]; exact hD
                              have hMV1148 : rgd bM V1148 := hMV1147.put hV1148 (i_full _)
                              have agV1148 : agr [(0, 7), (0, 8), (0, 48), (0, 50), (0, 51), (0, 52)] [15, 19, 20, 21, 22, 23, 24, 25, 26, 27, 28, 29, 30, 31, 32, 33, 34, 35, 36, 37, 38, 45, 46, 47, 53] V V1148 := agV1147.up hV1148 rfl
                              refine lv_aload_n hx hb dX12_toldComponent_276 rfl (lv_at hl 3 rfl) ?_
                              refine va_get (D := D) (ci := 12) (v := .ref (ad 33)) (C := RX12) (T := TX12) (N := 100) hx hb hg inX12 hown hK hP 0 rfl rfl 33 (by decide) (hg _ w1739) (fun _ h9 => h9) rfl dX12_toldComponent_277 ?_
                              refine lv_iload_n hx hb dX12_toldComponent_280 rfl (lv_at hl 2 rfl) ?_
                              refine lv_iconst (v := (-1)) hx hb dX12_toldComponent_281 (by decide) ?_
                              refine va_iast (D := D) (i := z5) (x := (-1)) hx hb hK hP hD hS 26 25 rfl rfl (i_in (a := z5.toInt) rfl (by as_aux_lemma => (first | exact om_aa704d15899a r2.1 r2.2 hz3 r4.1 r4.2 hz5 f7 | omega))) dX12_toldComponent_282 (fun H locs hP hD hS => ?_)
                              obtain ⟨V1149, hV1149⟩ : ∃ z, z = up2 V1148 33 (Int32.toNatClampNeg z5) (-1) := ⟨_, rfl⟩
                              have hP : va_P D vwCl (mw ad kk ks.1 V1149 L) H := by rw [hV1149]; exact hP
                              have hD : va_D A (mw ad kk ks.1 V1149 L) := by rw [hV1149]; exact hD
                              have hMV1149 : rgd bM V1149 := hMV1148.put hV1149 (i_full _)
                              have agV1149 : agr [(0, 7), (0, 8), (0, 48), (0, 50), (0, 51), (0, 52)] [15, 19, 20, 21, 22, 23, 24, 25, 26, 27, 28, 29, 30, 31, 32, 33, 34, 35, 36, 37, 38, 45, 46, 47, 53] V V1149 := agV1148.up hV1149 rfl
                              refine lv_aload_n hx hb dX12_toldComponent_283 rfl (lv_at hl 3 rfl) ?_
                              refine lv_iload_n hx hb dX12_toldComponent_284 rfl (lv_at hl 2 rfl) ?_
                              refine va_put (D := D) (ci := 12) (v := .int z5) (ty := tyX12 51) (C := RX12) (T := TX12) (N := 100) hx hb hg inX12 tyX12 tyX12_ok nmX12 hown hK hP hD hS 0 rfl rfl 51 (by decide) (hg _ w1757) (fun _ h9 => h9) rfl (tyX12_ok 51 (by decide)) rfl rfl (Nat.le_of_ble_eq_true rfl) dX12_toldComponent_285 (fun H locs hP hD hS => ?_)
                              obtain ⟨V1150, hV1150⟩ : ∃ z, z = up2 V1149 0 51 z5 := ⟨_, rfl⟩
                              have hP : va_P D vwCl (mw ad kk ks.1 V1150 L) H := by rw [hV1150]; exact hP
                              have hD : va_D A (mw ad kk ks.1 V1150 L) := by rw [hV1150]; exact hD
                              have hMV1150 : rgd bM V1150 := hMV1149.put hV1150 (show (-1) ≤ z5.toInt ∧ z5.toInt ≤ 47 from by as_aux_lemma => (first | exact om_fd8d970f3df8 r2.1 r2.2 hz3 r4.1 r4.2 hz5 f7 | omega))
                              have agV1150 : agr [(0, 7), (0, 8), (0, 48), (0, 50), (0, 51), (0, 52)] [15, 19, 20, 21, 22, 23, 24, 25, 26, 27, 28, 29, 30, 31, 32, 33, 34, 35, 36, 37, 38, 45, 46, 47, 53] V V1150 := agV1149.up hV1150 rfl
                              refine lv_aload_n hx hb dX12_toldComponent_288 rfl (lv_at hl 3 rfl) ?_
                              refine lv_iconst (v := 0) hx hb dX12_toldComponent_289 (by decide) ?_
                              refine va_put (D := D) (ci := 12) (v := .int 0) (ty := tyX12 52) (C := RX12) (T := TX12) (N := 100) hx hb hg inX12 tyX12 tyX12_ok nmX12 hown hK hP hD hS 0 rfl rfl 52 (by decide) (hg _ w1758) (fun _ h9 => h9) rfl (tyX12_ok 52 (by decide)) rfl rfl (Nat.le_of_ble_eq_true rfl) dX12_toldComponent_290 (fun H locs hP hD hS => ?_)
                              obtain ⟨V1151, hV1151⟩ : ∃ z, z = up2 V1150 0 52 0 := ⟨_, rfl⟩
                              have hP : va_P D vwCl (mw ad kk ks.1 V1151 L) H := by rw [hV1151]; exact hP
                              have hD : va_D A (mw ad kk ks.1 V1151 L) := by rw [hV1151]; exact hD
                              have hMV1151 : rgd bM V1151 := hMV1150.put hV1151 (by decide)
                              have agV1151 : agr [(0, 7), (0, 8), (0, 48), (0, 50), (0, 51), (0, 52)] [15, 19, 20, 21, 22, 23, 24, 25, 26, 27, 28, 29, 30, 31, 32, 33, 34, 35, 36, 37, 38, 45, 46, 47, 53] V V1151 := agV1150.up hV1151 rfl
                              refine lv_aload_n hx hb dX12_toldComponent_293 rfl (lv_at hl 3 rfl) ?_
                              refine lv_bipush (v := 123) hx hb dX12_toldComponent_294 (by decide) ?_
                              have r1152 : Int32.toInt 123 = 123 := by decide
                              have pq1153 : (V1151 0 8).toInt = ((V1107 0 8)).toInt := congrArg Int32.toInt ((up2_k hV1151 (by decide)).trans ((up2_k hV1150 (by decide)).trans ((up2_o hV1149 (by decide)).trans ((up2_o hV1148 (by decide)).trans ((up2_o hV1147 (by decide)).trans ((ajV1142 0 8 rfl).trans ((up2_o hV1135 (by decide)).trans ((up2_o hV1134 (by decide)).trans ((ajV1129 0 8 rfl).trans ((up2_o hV1122 (by decide)).trans ((ajV1117 0 8 rfl).trans (up2_o hV1110 (by decide)))))))))))))
                              refine gA_void (gA_runV (As := [.int 123]) (rest := []) (ci := 12) (q0 := 0) hx hb hml hown hg hP hD hK hS hA hnw hgk (s_takeSignB l D ks H.size ad kk V1151 L 123 hMV1151 (show 1 ≤ (V1151 0 8).toInt from by as_aux_lemma => (first | exact om_14e1582db31a r1099.1 f1101 t1106 pq1153 | omega))) w2075 w2077 w96 w172 w2078 rfl rfl hdV_yX12_takeSign ⟨Nat.le_of_ble_eq_true rfl, Nat.le_of_ble_eq_true rfl⟩ rfl hl.1 rfl (Nat.le_of_ble_eq_true rfl) dX12_toldComponent_296 ⟨Nat.le_of_ble_eq_true rfl, Nat.le_of_ble_eq_true rfl⟩) hP hD hK hS hA (fun u1155 H locs w1156 hP hD hK hS => ?_)
                              obtain ⟨V1158, L1159⟩ := u1155
                              obtain ⟨hMV1158, ajV1158, axL1159, t1157⟩ := w1156
                              have axL1159 : L = L1159 := Eq.symm axL1159
                              subst axL1159
                              replace hP : va_P D vwCl (mw ad kk ks.1 V1158 L) H := hP
                              replace hD : va_D A (mw ad kk ks.1 V1158 L) := hD
                              replace hMV1158 : rgd bM V1158 := hMV1158
                              replace ajV1158 : agr [(0, 7), (0, 8)] [] V1151 V1158 := ajV1158
                              have agV1158 : agr [(0, 7), (0, 8), (0, 48), (0, 50), (0, 51), (0, 52)] [15, 19, 20, 21, 22, 23, 24, 25, 26, 27, 28, 29, 30, 31, 32, 33, 34, 35, 36, 37, 38, 45, 46, 47, 53] V V1158 := agV1151.tr ajV1158 (by decide) (by decide)
                              replace t1157 : (V1158 0 8).toInt = (V1151 0 8).toInt := t1157
                              have r1160 : 0 ≤ ((V1158 0 8)).toInt ∧ ((V1158 0 8)).toInt ≤ 70000 := hMV1158 0 8
                              have lp1164 : ∀ (fulp1164 : Nat) (g1163 : Int) (V1161 : Vf) (L1162 : Lf) (H : Heap) (locs : List Loc) (ls : Array Slot), (((V1161 0 8).toInt = 0 ∧ ∃ s1 : St, (∀ k, Rc gT (Crun gs (Istmt :: k)) (Crun s1 (Imember :: k))) ∧ RelM V1161 L1162 bq gn gT s1 (gs.2.1 2) ∧ gs.1 0 + 1 ≤ s1.1 0 ∧ OWm V1161 gc s1 ∧ s1.2.1 2 = gs.2.1 2 ++ [0] ∧ s1.2.2.1 = gs.2.2.1 ∧ CNm V1161 bq s1 ∧ CEm V1161 bq s1) ∨ (1 ≤ (V1161 0 8).toInt ∧ ∀ k, Rc gT (Crun gs (Istmt :: k)) (Cbad (V1161 0 8).toInt))) → 0 ≤ g1163 → Imp ((V1161 0 8).toInt = 0) ((gn : Int) - (V1161 0 7).toInt < g1163) → Imp ((V1161 0 8).toInt = 0) ((V1161 0 48).toInt ≤ 2 * (V1161 0 7).toInt) → (V1161 0 48).toInt ≤ 8120 → (V1161 0 51).toInt = z5.toInt → (V1161 0 52).toInt = 0 → Imp (1 ≤ (V1158 0 8).toInt) ((V1161 0 8).toInt = (V1158 0 8).toInt) → (RoV 19 bq V V1161) → (RoV 35 bq V V1161) → (RoV 37 bq V V1161) → (RoL 20 24 bq L L1162) → (RoL 36 20 bq L L1162) → (RoL 38 20 bq L L1162) → g1163 < (fulp1164 : Int) → agL [15, 19, 20, 21, 22, 23, 24, 25, 26, 27, 28, 29, 30, 31, 32, 33, 34, 35, 36, 37, 38, 45, 46, 47, 53] L L1162 → agr [(0, 7), (0, 8), (0, 48), (0, 50)] [27, 28, 29, 30, 31, 32, 33, 34, 35, 36, 37, 38, 45, 46, 47] V1158 V1161 → rgd bM V1161 → va_P D vwCl (mw ad kk ks.1 V1161 L1162) H → va_D A (mw ad kk ks.1 V1161 L1162) → va_S A s.heap H locs → lv_has ls 5 [(4, .int y1085), (2, .long z25), (1, .int z5), (0, .ref (ad 0))] → W p l e r_s_toldComponentA s m ([.ref (ad 0)] : List Value).toArray below meth c H locs 0 0 (MQ below (q_s_toldComponentA D ks ad kk V L  bq gn gT gs A) ([.ref (ad 0)] : List Value).toArray s 0 0 A) (F0 m 299 ls []) := by
                                (try clear hb1078); (try clear fz21); (try clear ps20); (try clear hr19); (try clear hr18)
                                intro fulp1164
                                induction fulp1164 with
                                | zero =>
                                  intro g1163 V1161 L1162 H locs ls xlp1164_0 xlp1164_1 xlp1164_2 xlp1164_3 xlp1164_4 xlp1164_5 xlp1164_6 xlp1164_7 xlp1164_8 xlp1164_9 xlp1164_10 xlp1164_11 xlp1164_12 xlp1164_13 hn alL1162 ajV1161 hMV1161 hP hD hS hl
                                  exfalso; (first | exact om_21e89d3d06d7 xlp1164_1 hn | omega)
                                | succ fulp1164 ihlp1164 =>
                                  intro g1163 V1161 L1162 H locs ls xlp1164_0 xlp1164_1 xlp1164_2 xlp1164_3 xlp1164_4 xlp1164_5 xlp1164_6 xlp1164_7 xlp1164_8 xlp1164_9 xlp1164_10 xlp1164_11 xlp1164_12 xlp1164_13 hn alL1162 ajV1161 hMV1161 hP hD hS hl
                                  have agV1161 : agr [(0, 7), (0, 8), (0, 48), (0, 50), (0, 51), (0, 52)] [15, 19, 20, 21, 22, 23, 24, 25, 26, 27, 28, 29, 30, 31, 32, 33, 34, 35, 36, 37, 38, 45, 46, 47, 53] V V1161 := agV1158.tr ajV1161 (by decide) (by decide)
                                  have r1165 : 0 ≤ ((V1161 0 8)).toInt ∧ ((V1161 0 8)).toInt ≤ 70000 := hMV1161 0 8
                                  have r1166 : 0 ≤ ((V1161 0 48)).toInt ∧ ((V1161 0 48)).toInt ≤ 10000 := hMV1161 0 48
                                  have pq1167 : (V1161 0 51).toInt = z5.toInt := congrArg Int32.toInt ((ajV1161 0 51 rfl).trans ((ajV1158 0 51 rfl).trans ((up2_k hV1151 (by decide)).trans (up2_s hV1150))))
                                  have pq1168 : (V1161 0 52).toInt = 0 := (congrArg Int32.toInt ((ajV1161 0 52 rfl).trans ((ajV1158 0 52 rfl).trans (up2_s hV1151)))).trans (by decide)
                                  refine lv_aload_n hx hb dX12_toldComponent_299 rfl (lv_at hl 3 rfl) ?_
                                  rcases xlp1164_0 with ⟨f8, s1, hq, rq, gq1, oq, tq, wq, nq, eq9⟩ | ⟨f8, hq⟩
                                  · skip
                                    exfalso; first | omega | ((try (have i_xlp1164_7 := Imp.go xlp1164_7 (by omega))); (try (have i_xlp1164_3 := Imp.go xlp1164_3 (by omega))); (try (have i_xlp1164_2 := Imp.go xlp1164_2 (by omega))); (try (have i_xlp1164_2 := Imp.go xlp1164_2 (by omega))); (try (have i_xlp1164_3 := Imp.go xlp1164_3 (by omega))); (try (have i_xlp1164_7 := Imp.go xlp1164_7 (by omega))); omega)
                                  · skip
                                    refine va_get (D := D) (ci := 12) (v := .int (V1161 0 8)) (C := RX12) (T := TX12) (N := 100) hx hb hg inX12 hown hK hP 0 rfl rfl 8 (by decide) (hg _ w1714) (fun _ h9 => h9) rfl dX12_toldComponent_300 ?_
                                    refine lv_if_ne (tgt := 323) hx hb dX12_toldComponent_303 (by decide) (fun c1169 => ?_) (fun c1169 => ?_)
                                    · skip
                                      have f1170 : ((V1161 0 8)).toInt ≠ 0 := b_neq rfl (by decide) c1169
                                      refine lv_aload_n hx hb dX12_toldComponent_323 rfl (lv_at hl 3 rfl) ?_
                                      refine lv_bipush (v := 125) hx hb dX12_toldComponent_324 (by decide) ?_
                                      have r1171 : Int32.toInt 125 = 125 := by decide
                                      refine gA_void (gA_runV (As := [.int 125]) (rest := []) (ci := 12) (q0 := 0) hx hb hml hown hg hP hD hK hS hA hnw hgk (s_takeSignB l D ks H.size ad kk V1161 L1162 125 hMV1161 (show 1 ≤ (V1161 0 8).toInt from by as_aux_lemma => first | exact om_0e6295a3fd06 r1099.1 f1101 t1106 pq1153 t1157 ((Imp.go xlp1164_7 (imp_d (((t1157).trans (pq1153)).trans (t1106)) (imp_c (r1099.1) (f1101))))) | first | omega | ((try (have i_xlp1164_7 := Imp.go xlp1164_7 (by omega))); (try (have i_xlp1164_3 := Imp.go xlp1164_3 (by omega))); (try (have i_xlp1164_2 := Imp.go xlp1164_2 (by omega))); (try (have i_xlp1164_2 := Imp.go xlp1164_2 (by omega))); (try (have i_xlp1164_3 := Imp.go xlp1164_3 (by omega))); (try (have i_xlp1164_7 := Imp.go xlp1164_7 (by omega))); omega))) w2075 w2077 w96 w172 w2078 rfl rfl hdV_yX12_takeSign ⟨Nat.le_of_ble_eq_true rfl, Nat.le_of_ble_eq_true rfl⟩ rfl hl.1 rfl (Nat.le_of_ble_eq_true rfl) dX12_toldComponent_326 ⟨Nat.le_of_ble_eq_true rfl, Nat.le_of_ble_eq_true rfl⟩) hP hD hK hS hA (fun u1173 H locs w1174 hP hD hK hS => ?_)
                                      obtain ⟨V1176, L1177⟩ := u1173
                                      obtain ⟨hMV1176, ajV1176, axL1177, t1175⟩ := w1174
                                      have axL1177 : L1162 = L1177 := Eq.symm axL1177
                                      subst axL1177
                                      replace hP : va_P D vwCl (mw ad kk ks.1 V1176 L1162) H := hP
                                      replace hD : va_D A (mw ad kk ks.1 V1176 L1162) := hD
                                      replace hMV1176 : rgd bM V1176 := hMV1176
                                      replace ajV1176 : agr [(0, 7), (0, 8)] [] V1161 V1176 := ajV1176
                                      have agV1176 : agr [(0, 7), (0, 8), (0, 48), (0, 50), (0, 51), (0, 52)] [15, 19, 20, 21, 22, 23, 24, 25, 26, 27, 28, 29, 30, 31, 32, 33, 34, 35, 36, 37, 38, 45, 46, 47, 53] V V1176 := agV1161.tr ajV1176 (by decide) (by decide)
                                      replace t1175 : (V1176 0 8).toInt = (V1161 0 8).toInt := t1175
                                      have r1178 : 0 ≤ ((V1176 0 8)).toInt ∧ ((V1176 0 8)).toInt ≤ 70000 := hMV1176 0 8
                                      refine lv_aload_n hx hb dX12_toldComponent_329 rfl (lv_at hl 3 rfl) ?_
                                      refine va_get (D := D) (ci := 12) (v := .int (V1176 0 8)) (C := RX12) (T := TX12) (N := 100) hx hb hg inX12 hown hK hP 0 rfl rfl 8 (by decide) (hg _ w1714) (fun _ h9 => h9) rfl dX12_toldComponent_330 ?_
                                      refine lv_if_le (tgt := 337) hx hb dX12_toldComponent_333 (by decide) (fun c1179 => ?_) (fun c1179 => ?_)
                                      · skip
                                        have f1180 : ((V1176 0 8)).toInt ≤ 0 := b_le rfl (by decide) c1179
                                        exfalso; first | exact om_f61feb2e2de9 r1165.1 f1170 t1175 f1180 | first | omega | ((try (have i_xlp1164_7 := Imp.go xlp1164_7 (by omega))); (try (have i_xlp1164_3 := Imp.go xlp1164_3 (by omega))); (try (have i_xlp1164_2 := Imp.go xlp1164_2 (by omega))); (try (have i_xlp1164_2 := Imp.go xlp1164_2 (by omega))); (try (have i_xlp1164_3 := Imp.go xlp1164_3 (by omega))); (try (have i_xlp1164_7 := Imp.go xlp1164_7 (by omega))); omega)
                                      · skip
                                        have f1181 : 0 < ((V1176 0 8)).toInt := b_nle rfl (by decide) c1179
                                        have pq1182 : (V1176 0 48).toInt = ((V1161 0 48)).toInt := congrArg Int32.toInt (ajV1176 0 48 rfl)
                                        have pq1183 : (V1176 0 12).toInt = ((V 0 12)).toInt := congrArg Int32.toInt ((ajV1176 0 12 rfl).trans ((ajV1161 0 12 rfl).trans ((ajV1158 0 12 rfl).trans ((up2_k hV1151 (by decide)).trans ((up2_k hV1150 (by decide)).trans ((up2_o hV1149 (by decide)).trans ((up2_o hV1148 (by decide)).trans ((up2_o hV1147 (by decide)).trans ((ajV1142 0 12 rfl).trans ((up2_o hV1135 (by decide)).trans ((up2_o hV1134 (by decide)).trans ((ajV1129 0 12 rfl).trans ((up2_o hV1122 (by decide)).trans ((ajV1117 0 12 rfl).trans ((up2_o hV1110 (by decide)).trans ((ajV1107 0 12 rfl).trans ((ajV1097 0 12 rfl).trans ((ajV1086 0 12 rfl).trans ((ajV1081 0 12 rfl).trans ((ajV29 0 12 rfl).trans (ajV13 0 12 rfl)))))))))))))))))))))
                                        have rw1184 : RoV 19 bq V V1176 := (fun k hk => ((ajV1176 19 k rfl).trans (xlp1164_8 k hk)))
                                        have rw1185 : RoV 35 bq V V1176 := (fun k hk => ((ajV1176 35 k rfl).trans (xlp1164_9 k hk)))
                                        have rw1186 : RoV 37 bq V V1176 := (fun k hk => ((ajV1176 37 k rfl).trans (xlp1164_10 k hk)))
                                        have rw1187 : RoL 20 24 bq L L1162 := (fun k hk => (xlp1164_11 k hk))
                                        have rw1188 : RoL 36 20 bq L L1162 := (fun k hk => (xlp1164_12 k hk))
                                        have rw1189 : RoL 38 20 bq L L1162 := (fun k hk => (xlp1164_13 k hk))
                                        exact W.vret hx hb hr (fun t ht hW => ⟨⟨(V1176, L1162), rfl, ⟨hMV1176, agV1176, alL1162, (Imp.mk (fun hp => have hp : (V1176 0 8).toInt = 0 := hp; (show (V1176 0 48).toInt ≤ 2 * (V1176 0 7).toInt from by as_aux_lemma => first | omega | ((try (have i_xlp1164_7 := Imp.go xlp1164_7 (by omega))); (try (have i_xlp1164_3 := Imp.go xlp1164_3 (by omega))); (try (have i_xlp1164_2 := Imp.go xlp1164_2 (by omega))); (try (have i_xlp1164_2 := Imp.go xlp1164_2 (by omega))); (try (have i_xlp1164_3 := Imp.go xlp1164_3 (by omega))); (try (have i_xlp1164_7 := Imp.go xlp1164_7 (by omega))); omega)))), (show (V1176 0 48).toInt ≤ 8200 from by as_aux_lemma => first | exact om_286ba355964b xlp1164_4 pq1182 | first | omega | ((try (have i_xlp1164_7 := Imp.go xlp1164_7 (by omega))); (try (have i_xlp1164_3 := Imp.go xlp1164_3 (by omega))); (try (have i_xlp1164_2 := Imp.go xlp1164_2 (by omega))); (try (have i_xlp1164_2 := Imp.go xlp1164_2 (by omega))); (try (have i_xlp1164_3 := Imp.go xlp1164_3 (by omega))); (try (have i_xlp1164_7 := Imp.go xlp1164_7 (by omega))); omega)), (show (V1176 0 12).toInt = (V 0 12).toInt from by as_aux_lemma => first | exact om_570b691c1130 pq1183 | first | omega | ((try (have i_xlp1164_7 := Imp.go xlp1164_7 (by omega))); (try (have i_xlp1164_3 := Imp.go xlp1164_3 (by omega))); (try (have i_xlp1164_2 := Imp.go xlp1164_2 (by omega))); (try (have i_xlp1164_2 := Imp.go xlp1164_2 (by omega))); (try (have i_xlp1164_3 := Imp.go xlp1164_3 (by omega))); (try (have i_xlp1164_7 := Imp.go xlp1164_7 (by omega))); omega)), (Or.inr ⟨(show 1 ≤ (V1176 0 8).toInt from by as_aux_lemma => (first | exact om_58cca7287cc1 f1181 | omega)), (fun k => by rw [show (V1176 0 8).toInt = (V1161 0 8).toInt from by as_aux_lemma => omega]; exact hq k)⟩), rw1184, rw1185, rw1186, rw1187, rw1188, rw1189⟩, by rw [ht]; exact hP, va_K.moved hW.alike hK, hD⟩, hS.F ht⟩) hS.2.2 dX12_toldComponent_336
                                    · skip
                                      have f1190 : ((V1161 0 8)).toInt = 0 := b_eq rfl (by decide) c1169
                                      exfalso; first | exact om_c9f07382b595 r1099.1 f1101 t1106 pq1153 t1157 f1190 ((Imp.go xlp1164_7 (imp_d (((t1157).trans (pq1153)).trans (t1106)) (imp_c (r1099.1) (f1101))))) | first | omega | ((try (have i_xlp1164_7 := Imp.go xlp1164_7 (by omega))); (try (have i_xlp1164_3 := Imp.go xlp1164_3 (by omega))); (try (have i_xlp1164_2 := Imp.go xlp1164_2 (by omega))); (try (have i_xlp1164_2 := Imp.go xlp1164_2 (by omega))); (try (have i_xlp1164_3 := Imp.go xlp1164_3 (by omega))); (try (have i_xlp1164_7 := Imp.go xlp1164_7 (by omega))); omega)
                              have pq1191 : (V1158 0 48).toInt = ((V 0 48)).toInt := congrArg Int32.toInt ((ajV1158 0 48 rfl).trans ((up2_k hV1151 (by decide)).trans ((up2_k hV1150 (by decide)).trans ((up2_o hV1149 (by decide)).trans ((up2_o hV1148 (by decide)).trans ((up2_o hV1147 (by decide)).trans ((ajV1142 0 48 rfl).trans ((up2_o hV1135 (by decide)).trans ((up2_o hV1134 (by decide)).trans ((ajV1129 0 48 rfl).trans ((up2_o hV1122 (by decide)).trans ((ajV1117 0 48 rfl).trans ((up2_o hV1110 (by decide)).trans ((ajV1107 0 48 rfl).trans ((ajV1097 0 48 rfl).trans ((ajV1086 0 48 rfl).trans ((ajV1081 0 48 rfl).trans ((ajV29 0 48 rfl).trans (ajV13 0 48 rfl)))))))))))))))))))
                              have pq1192 : (V1158 0 51).toInt = z5.toInt := congrArg Int32.toInt ((ajV1158 0 51 rfl).trans ((up2_k hV1151 (by decide)).trans (up2_s hV1150)))
                              have pq1193 : (V1158 0 52).toInt = 0 := (congrArg Int32.toInt ((ajV1158 0 52 rfl).trans (up2_s hV1151))).trans (by decide)
                              have rw1194 : RoV 19 bq V V1158 := (fun k hk => ((ajV1158 19 k rfl).trans ((up2_o hV1151 (by decide)).trans ((up2_o hV1150 (by decide)).trans ((up2_o hV1149 (by decide)).trans ((up2_o hV1148 (by decide)).trans ((up2_o hV1147 (by decide)).trans ((ajV1142 19 k rfl).trans ((up2_o hV1135 (by decide)).trans ((up2_o hV1134 (by decide)).trans ((ajV1129 19 k rfl).trans ((up2_o hV1122 (by decide)).trans ((ajV1117 19 k rfl).trans ((up2_o hV1110 (by decide)).trans ((ajV1107 19 k rfl).trans ((ajV1097 19 k rfl).trans (xlp1087_2 k hk)))))))))))))))))
                              have rw1195 : RoV 35 bq V V1158 := (fun k hk => ((ajV1158 35 k rfl).trans ((up2_o hV1151 (by decide)).trans ((up2_o hV1150 (by decide)).trans ((up2_o hV1149 (by decide)).trans ((up2_o hV1148 (by decide)).trans ((up2_o hV1147 (by decide)).trans ((ajV1142 35 k rfl).trans ((up2_o hV1135 (by decide)).trans ((up2_o hV1134 (by decide)).trans ((ajV1129 35 k rfl).trans ((up2_o hV1122 (by decide)).trans ((ajV1117 35 k rfl).trans ((up2_o hV1110 (by decide)).trans ((ajV1107 35 k rfl).trans ((ajV1097 35 k rfl).trans (xlp1087_3 k hk)))))))))))))))))
                              have rw1196 : RoV 37 bq V V1158 := (fun k hk => ((ajV1158 37 k rfl).trans ((up2_o hV1151 (by decide)).trans ((up2_o hV1150 (by decide)).trans ((up2_o hV1149 (by decide)).trans ((up2_o hV1148 (by decide)).trans ((up2_o hV1147 (by decide)).trans ((ajV1142 37 k rfl).trans ((up2_o hV1135 (by decide)).trans ((up2_o hV1134 (by decide)).trans ((ajV1129 37 k rfl).trans ((up2_o hV1122 (by decide)).trans ((ajV1117 37 k rfl).trans ((up2_o hV1110 (by decide)).trans ((ajV1107 37 k rfl).trans ((ajV1097 37 k rfl).trans (xlp1087_4 k hk)))))))))))))))))
                              have rw1197 : RoL 20 24 bq L L := (fun k hk => rfl)
                              have rw1198 : RoL 36 20 bq L L := (fun k hk => rfl)
                              have rw1199 : RoL 38 20 bq L L := (fun k hk => rfl)
                              exact lp1164 ((((gn : Int) + 1) + 1 : Int).toNat) ((gn : Int) + 1) V1158 L H locs ls (Or.inr ⟨(show 1 ≤ (V1158 0 8).toInt from by as_aux_lemma => (first | exact om_311f27cabdb0 r1099.1 f1101 t1106 pq1153 t1157 | omega)), (fun k => by rw [show (V1158 0 8).toInt = (V29 0 8).toInt from by as_aux_lemma => omega]; exact hb1078 k)⟩) (show 0 ≤ ((gn : Int) + 1) from by as_aux_lemma => (first | exact om_484f1d066a6d | omega)) (Imp.mk (fun hp => have hp : (V1158 0 8).toInt = 0 := hp; (show (gn : Int) - (V1158 0 7).toInt < ((gn : Int) + 1) from by as_aux_lemma => omega))) (Imp.mk (fun hp => have hp : (V1158 0 8).toInt = 0 := hp; (show (V1158 0 48).toInt ≤ 2 * (V1158 0 7).toInt from by as_aux_lemma => omega))) (show (V1158 0 48).toInt ≤ 8120 from by as_aux_lemma => omega) (show (V1158 0 51).toInt = z5.toInt from by as_aux_lemma => (first | exact om_570b691c1130 pq1192 | omega)) (show (V1158 0 52).toInt = 0 from by as_aux_lemma => (first | exact om_b66ba74381d5 pq1193 | omega)) (Imp.mk (fun hp => have hp : 1 ≤ (V1158 0 8).toInt := hp; (show (V1158 0 8).toInt = (V1158 0 8).toInt from by as_aux_lemma => (first | exact om_4c2c879c4424 | omega)))) rw1194 rw1195 rw1196 rw1197 rw1198 rw1199 (by as_aux_lemma => (first | exact om_e44dd51abc87 | omega)) alL agr.rf hMV1158 hP hD hS (lv_sub hl [0, 1, 2, 3] rfl)
                            · skip
                              have f1200 : z1138.toInt ≠ 0 := b_neq rfl (by decide) c1145
                              exfalso; (first | exact om_0e608cc4b4f6 rgz1138.1 rgz1138.2 f1200 | omega)
                          · skip
                            have f1201 : z1125.toInt ≠ 0 := b_neq rfl (by decide) c1132
                            exfalso; (first | exact om_0e608cc4b4f6 rgz1125.1 rgz1125.2 f1201 | omega)
                        · skip
                          have f1202 : z1113.toInt ≠ 0 := b_neq rfl (by decide) c1120
                          exfalso; (first | exact om_0e608cc4b4f6 rgz1113.1 rgz1113.2 f1202 | omega)
                      · skip
                        have f1203 : ((V1097 0 8)).toInt = 0 := b_eq rfl (by decide) c1100
                        exfalso; omega
                    · skip
                      have f1204 : y1085.toInt < 20 := b_nle (by decide) rfl c1088
                      refine lv_aload_n hx hb dX12_toldComponent_93 rfl (lv_at hl 3 rfl) ?_
                      refine va_get (D := D) (ci := 12) (v := .ref (ad 34)) (C := RX12) (T := TX12) (N := 100) hx hb hg inX12 hown hK hP 0 rfl rfl 34 (by decide) (hg _ w1740) (fun _ h9 => h9) rfl dX12_toldComponent_94 ?_
                      refine lv_bipush (v := 20) hx hb dX12_toldComponent_97 (by decide) ?_
                      refine lv_iload_n hx hb dX12_toldComponent_99 rfl (lv_at hl 2 rfl) ?_
                      refine lv_imul hx hb dX12_toldComponent_100 ?_
                      refine lv_topi (fun z1205 ez1205 => ?_)
                      have hz1205 : z1205.toInt = 20 * z5.toInt := i_mul ez1205 (by decide) rfl (by as_aux_lemma => (first | exact om_ad1607af5b23 r2.1 r2.2 hz3 r4.1 r4.2 hz5 f7 | omega))
                      refine lv_iload hx hb dX12_toldComponent_101 (lv_at hl 0 rfl) ?_
                      refine lv_iadd hx hb dX12_toldComponent_103 ?_
                      refine lv_topi (fun z1206 ez1206 => ?_)
                      have hz1206 : z1206.toInt = z1205.toInt + y1085.toInt := i_add ez1206 rfl rfl (by as_aux_lemma => (first | exact om_3aed94266775 r2.1 r2.2 hz3 r4.1 r4.2 hz5 f7 klp1087_0.1 f1204 hz1205 | omega))
                      refine lv_iconst (v := (-1)) hx hb dX12_toldComponent_104 (by decide) ?_
                      refine va_iast (D := D) (i := z1206) (x := (-1)) hx hb hK hP hD hS 27 26 rfl rfl (i_in (a := z1206.toInt) rfl (by as_aux_lemma => (first | exact om_f68ebca5c121 r2.1 r2.2 hz3 r4.1 r4.2 hz5 f7 klp1087_0.1 f1204 hz1205 hz1206 | omega))) dX12_toldComponent_105 (fun H locs hP hD hS => ?_)
                      obtain ⟨V1207, hV1207⟩ : ∃ z, z = up2 V1086 34 (Int32.toNatClampNeg z1206) (-1) := ⟨_, rfl⟩
                      have hP : va_P D vwCl (mw ad kk ks.1 V1207 L) H := by rw [hV1207]; exact hP
                      have hD : va_D A (mw ad kk ks.1 V1207 L) := by rw [hV1207]; exact hD
                      have hMV1207 : rgd bM V1207 := hMV1086.put hV1207 (i_full _)
                      have agV1207 : agr [(0, 7), (0, 8), (0, 48), (0, 50), (0, 51), (0, 52)] [15, 19, 20, 21, 22, 23, 24, 25, 26, 27, 28, 29, 30, 31, 32, 33, 34, 35, 36, 37, 38, 45, 46, 47, 53] V V1207 := agV1086.up hV1207 rfl
                      obtain ⟨z1208, ez1208⟩ : ∃ y : Int32, y = y1085 + 1 := ⟨_, rfl⟩
                      have hz1208 : z1208.toInt = y1085.toInt + 1 := i_add ez1208 rfl (by decide) (by as_aux_lemma => (first | exact om_23af15ced7f9 klp1087_0.1 f1204 | omega))
                      refine lv_iinc (v := z1208) (lv' := [(4, .int z1208), (2, .long z25), (1, .int z5), (0, .ref (ad 0))]) hx hb dX12_toldComponent_106 hl (k := 0) rfl (by rw [ez1208]; rfl) (by decide) rfl (fun ls hl => ?_)
                      refine lv_goto (tgt := 86) hx hb dX12_toldComponent_109 (by decide) ?_
                      have k34 := i_clamp (x := z1206) rfl (by as_aux_lemma => (first | exact om_236d49a2dcd5 r2.1 hz3 r4.1 hz5 klp1087_0.1 hz1205 hz1206 | omega))
                      have re1209 : REm V1207 bq gs := REm.up xlp1087_1 hV1207 (by as_aux_lemma => have h9 := i_clamp (x := z1206) rfl (by as_aux_lemma => (first | exact om_236d49a2dcd5 r2.1 hz3 r4.1 hz5 klp1087_0.1 hz1205 hz1206 | omega)); omega)
                      have rw1210 : RoV 19 bq V V1207 := (fun k hk => ((up2_o hV1207 (by decide)).trans (xlp1087_2 k hk)))
                      have rw1211 : RoV 35 bq V V1207 := (fun k hk => ((up2_o hV1207 (by decide)).trans (xlp1087_3 k hk)))
                      have rw1212 : RoV 37 bq V V1207 := (fun k hk => ((up2_o hV1207 (by decide)).trans (xlp1087_4 k hk)))
                      have rw1213 : RoL 20 24 bq L L := (fun k hk => rfl)
                      have rw1214 : RoL 36 20 bq L L := (fun k hk => rfl)
                      have rw1215 : RoL 38 20 bq L L := (fun k hk => rfl)
                      exact ihlp1087 z1208 V1207 H locs ls (by as_aux_lemma => (first | exact om_77a2a7ad51d8 klp1087_0.1 f1204 hz1208 | omega)) (fun j hj => by rcases Decidable.em (20 * gc + j = Int32.toNatClampNeg z1206) with hk | hk; (rw [hk, up2_s hV1207]; decide); (rw [up2_k hV1207 hk]; exact xlp1087_0 j (by as_aux_lemma => omega))) re1209 rw1210 rw1211 rw1212 rw1213 rw1214 rw1215 (by as_aux_lemma => (first | exact om_b6249f72a63f hn hz1208 | omega)) (agr.up (agr.tr agr.rf ajV1086 (by decide) (by decide)) hV1207 rfl) hMV1207 hP hD hS (lv_sub hl [0, 1, 2, 3] rfl)
                have re1216 : REm V1081 bq gs := REm.ag cem.2.1 (show agr [(0, 7), (0, 8)] [21] V V1081 from (agr.tr (agr.tr (agr.tr agr.rf ajV13 (by decide) (by decide)) ajV29 (by decide) (by decide)) ajV1081 (by decide) (by decide))) (fun _ => ⟨rfl, rfl, rfl⟩) keepE.rf rfl
                have rw1217 : RoV 19 bq V V1081 := (fun k hk => (xlp1082_2 k hk))
                have rw1218 : RoV 35 bq V V1081 := (fun k hk => (xlp1082_3 k hk))
                have rw1219 : RoV 37 bq V V1081 := (fun k hk => (xlp1082_4 k hk))
                have rw1220 : RoL 20 24 bq L L := (fun k hk => rfl)
                have rw1221 : RoL 36 20 bq L L := (fun k hk => rfl)
                have rw1222 : RoL 38 20 bq L L := (fun k hk => rfl)
                exact lp1087 ((20 - (Int32.toInt 0) + 1 : Int).toNat) 0 V1081 H locs ls (by decide) (fun j hj => absurd hj (by as_aux_lemma => omega)) re1216 rw1217 rw1218 rw1219 rw1220 rw1221 rw1222 (by as_aux_lemma => (first | exact om_c81621550cec | omega)) agr.rf hMV1081 hP hD hS (lv_sub hl [0, 1, 2, 3] rfl)
              · skip
                have f1223 : y1080.toInt < 24 := b_nle (by decide) rfl c1083
                refine lv_aload_n hx hb dX12_toldComponent_64 rfl (lv_at hl 3 rfl) ?_
                refine va_get (D := D) (ci := 12) (v := .ref (ad 21)) (C := RX12) (T := TX12) (N := 100) hx hb hg inX12 hown hK hP 0 rfl rfl 21 (by decide) (hg _ w1727) (fun _ h9 => h9) rfl dX12_toldComponent_65 ?_
                refine lv_bipush (v := 24) hx hb dX12_toldComponent_68 (by decide) ?_
                refine lv_iload_n hx hb dX12_toldComponent_70 rfl (lv_at hl 2 rfl) ?_
                refine lv_imul hx hb dX12_toldComponent_71 ?_
                refine lv_topi (fun z1224 ez1224 => ?_)
                have hz1224 : z1224.toInt = 24 * z5.toInt := i_mul ez1224 (by decide) rfl (by as_aux_lemma => (first | exact om_5113af4dba16 r2.1 r2.2 hz3 r4.1 r4.2 hz5 f7 | omega))
                refine lv_iload hx hb dX12_toldComponent_72 (lv_at hl 0 rfl) ?_
                refine lv_iadd hx hb dX12_toldComponent_74 ?_
                refine lv_topi (fun z1225 ez1225 => ?_)
                have hz1225 : z1225.toInt = z1224.toInt + y1080.toInt := i_add ez1225 rfl rfl (by as_aux_lemma => (first | exact om_4a290ed80e15 r2.1 r2.2 hz3 r4.1 r4.2 hz5 f7 klp1082_0.1 f1223 hz1224 | omega))
                refine lv_iconst (v := 0) hx hb dX12_toldComponent_75 (by decide) ?_
                refine va_zast (D := D) (i := z1225) (x := 0) hx hb hK hP hD hS 14 13 rfl rfl (i_in (a := z1225.toInt) rfl (by as_aux_lemma => (first | exact om_981286914071 r2.1 r2.2 hz3 r4.1 r4.2 hz5 f7 klp1082_0.1 f1223 hz1224 hz1225 | omega))) dX12_toldComponent_76 (fun H locs hP hD hS => ?_)
                obtain ⟨V1226, hV1226⟩ : ∃ z, z = up2 V1081 21 (Int32.toNatClampNeg z1225) (vp_nar .boolean 0) := ⟨_, rfl⟩
                have hP : va_P D vwCl (mw ad kk ks.1 V1226 L) H := by rw [hV1226]; exact hP
                have hD : va_D A (mw ad kk ks.1 V1226 L) := by rw [hV1226]; exact hD
                have hMV1226 : rgd bM V1226 := hMV1081.put hV1226 (nar_b _)
                have agV1226 : agr [(0, 7), (0, 8), (0, 48), (0, 50), (0, 51), (0, 52)] [15, 19, 20, 21, 22, 23, 24, 25, 26, 27, 28, 29, 30, 31, 32, 33, 34, 35, 36, 37, 38, 45, 46, 47, 53] V V1226 := agV1081.up hV1226 rfl
                obtain ⟨z1227, ez1227⟩ : ∃ y : Int32, y = y1080 + 1 := ⟨_, rfl⟩
                have hz1227 : z1227.toInt = y1080.toInt + 1 := i_add ez1227 rfl (by decide) (by as_aux_lemma => (first | exact om_bc9106cf44c9 klp1082_0.1 f1223 | omega))
                refine lv_iinc (v := z1227) (lv' := [(4, .int z1227), (2, .long z25), (1, .int z5), (0, .ref (ad 0))]) hx hb dX12_toldComponent_77 hl (k := 0) rfl (by rw [ez1227]; rfl) (by decide) rfl (fun ls hl => ?_)
                refine lv_goto (tgt := 57) hx hb dX12_toldComponent_80 (by decide) ?_
                have kc5 := i_clamp (x := y1080) rfl (by as_aux_lemma => (first | exact om_eafa9039069c klp1082_0.1 | omega))
                have kp5 : (Int32.toNatClampNeg z1225) = 24 * gc + Int32.toNatClampNeg y1080 := by as_aux_lemma => have h9 := i_clamp (x := z1225) rfl (by as_aux_lemma => (first | exact om_f34346e088fb r2.1 hz3 r4.1 hz5 klp1082_0.1 hz1224 hz1225 | omega)); omega
                have cn1228 : CNm V1226 bq gs := CNm.up xlp1082_1 hV1226 (fun q9 => by as_aux_lemma => have h9 := i_clamp (x := z1225) rfl (by as_aux_lemma => (first | exact om_f34346e088fb r2.1 hz3 r4.1 hz5 klp1082_0.1 hz1224 hz1225 | omega)); unfold rdm at q9; omega)
                have rw1229 : RoV 19 bq V V1226 := (fun k hk => ((up2_o hV1226 (by decide)).trans (xlp1082_2 k hk)))
                have rw1230 : RoV 35 bq V V1226 := (fun k hk => ((up2_o hV1226 (by decide)).trans (xlp1082_3 k hk)))
                have rw1231 : RoV 37 bq V V1226 := (fun k hk => ((up2_o hV1226 (by decide)).trans (xlp1082_4 k hk)))
                have rw1232 : RoL 20 24 bq L L := (fun k hk => rfl)
                have rw1233 : RoL 36 20 bq L L := (fun k hk => rfl)
                have rw1234 : RoL 38 20 bq L L := (fun k hk => rfl)
                exact ihlp1082 z1227 V1226 H locs ls (by as_aux_lemma => (first | exact om_a5349b170263 klp1082_0.1 f1223 hz1227 | omega)) (fun g hg => by by_cases hk : g = Int32.toNatClampNeg y1080; (rw [hk, ← kp5, up2_s hV1226]; decide); (rw [up2_k hV1226 (by as_aux_lemma => omega)]; exact xlp1082_0 g (by as_aux_lemma => omega))) cn1228 rw1229 rw1230 rw1231 rw1232 rw1233 rw1234 (by as_aux_lemma => (first | exact om_56c79def76de hn hz1227 | omega)) (agr.up (agr.tr agr.rf ajV1081 (by decide) (by decide)) hV1226 rfl) hMV1226 hP hD hS (lv_sub hl [0, 1, 2, 3] rfl)
          have cn1235 : CNm V29 bq gs := CNm.ag cnm (show agr [(0, 7), (0, 8)] [] V V29 from (agr.tr (agr.tr agr.rf ajV13 (by decide) (by decide)) ajV29 (by decide) (by decide))) (by decide) keepC.rf
          have rw1236 : RoV 19 bq V V29 := (fun k hk => ((ajV29 19 k rfl).trans ((ajV13 19 k rfl).trans rfl)))
          have rw1237 : RoV 35 bq V V29 := (fun k hk => ((ajV29 35 k rfl).trans ((ajV13 35 k rfl).trans rfl)))
          have rw1238 : RoV 37 bq V V29 := (fun k hk => ((ajV29 37 k rfl).trans ((ajV13 37 k rfl).trans rfl)))
          have rw1239 : RoL 20 24 bq L L := (fun k hk => rfl)
          have rw1240 : RoL 36 20 bq L L := (fun k hk => rfl)
          have rw1241 : RoL 38 20 bq L L := (fun k hk => rfl)
          exact lp1082 ((24 - (Int32.toInt 0) + 1 : Int).toNat) 0 V29 H locs ls (by decide) (fun g hg => absurd hg (by as_aux_lemma => omega)) cn1235 rw1236 rw1237 rw1238 rw1239 rw1240 rw1241 (by as_aux_lemma => (first | exact om_817980d3aa47 | omega)) agr.rf hMV29 hP hD hS (lv_sub hl [0, 1, 2, 3] rfl)
      · skip
        have f1242 : 0 < ((V13 0 8)).toInt := b_nle rfl (by decide) c23
        exfalso; (first | exact om_bf2beb62232e f16 f1242 | omega)
    · skip
      exfalso; (first | exact om_4c701f2d8c50 r8 q15 | omega)
  · skip
    have f1243 : ((V 19 (Int32.toNatClampNeg (V 0 12)))).toInt = 24 := b_eq rfl (by decide) c6
    refine lv_iconst (v := 1) hx hb dX12_toldComponent_33 (by decide) ?_
    refine lv_goto (tgt := 38) hx hb dX12_toldComponent_34 (by decide) ?_
    have r1244 : Int32.toInt 1 = 1 := by decide
    refine gA_void (gA_runV (As := [.int 1]) (rest := []) (ci := 12) (q0 := 0) hx hb hml hown hg hP hD hK hS hA hnw hgk (s_beginsA l D ks H.size ad kk V L 1 (bq) (gn) (gT) (gs) ((gs.2.1 2)) hMV (by decide) rel (by rw [kd9]; decide)) w2031 w2033 w85 w172 w2034 rfl rfl hdV_yX12_begins ⟨Nat.le_of_ble_eq_true rfl, Nat.le_of_ble_eq_true rfl⟩ rfl hl.1 rfl (Nat.le_of_ble_eq_true rfl) dX12_toldComponent_38 ⟨Nat.le_of_ble_eq_true rfl, Nat.le_of_ble_eq_true rfl⟩) hP hD hK hS hA (fun u1246 H locs w1247 hP hD hK hS => ?_)
    obtain ⟨V1249, L1250⟩ := u1246
    obtain ⟨hMV1249, ajV1249, axL1250, t1248⟩ := w1247
    have axL1250 : L = L1250 := Eq.symm axL1250
    subst axL1250
    replace hP : va_P D vwCl (mw ad kk ks.1 V1249 L) H := hP
    replace hD : va_D A (mw ad kk ks.1 V1249 L) := hD
    replace hMV1249 : rgd bM V1249 := hMV1249
    replace ajV1249 : agr [(0, 7), (0, 8)] [] V V1249 := ajV1249
    have agV1249 : agr [(0, 7), (0, 8), (0, 48), (0, 50), (0, 51), (0, 52)] [15, 19, 20, 21, 22, 23, 24, 25, 26, 27, 28, 29, 30, 31, 32, 33, 34, 35, 36, 37, 38, 45, 46, 47, 53] V V1249 := agV.tr ajV1249 (by decide) (by decide)
    replace t1248 : ((Int32.toInt 1) = 0 ∧ (V1249 0 8).toInt = 0 ∧ RelM V1249 L (bq) (gn) (gT) (nx (gs) 1) ((gs.2.1 2))) ∨ ((Int32.toInt 1) = 1 ∧ 1 ≤ (V1249 0 8).toInt ∧ (V1249 0 8).toInt = 5 + 16 * (gT).2.2 ((gs).1 0)) := t1248
    rcases t1248 with ⟨q1251, f1252, rl1253⟩ | ⟨q1251, f1252, rl1253⟩
    · skip
      exfalso; (first | exact om_495ee03a60ae r1244 q1251 | omega)
    · skip
      have hr1254 : ∀ k, Rc gT (Crun gs (Istmt :: k)) (Crun gs (Istmt :: k)) := fun k => Rc.rf
      have hb1255 : ∀ k, Rc gT (Crun gs (Istmt :: k)) (Cbad (V1249 0 8).toInt) := fun k => Rc.go1 (hr1254 k) ((st_131f kd9 (by as_aux_lemma => omega)).trans (fl_eq rfl rl1253))
      have r1256 : 0 ≤ ((V1249 0 8)).toInt ∧ ((V1249 0 8)).toInt ≤ 70000 := hMV1249 0 8
      refine lv_aload_n hx hb dX12_toldComponent_41 rfl (lv_at hl 1 rfl) ?_
      refine va_get (D := D) (ci := 12) (v := .int (V1249 0 8)) (C := RX12) (T := TX12) (N := 100) hx hb hg inX12 hown hK hP 0 rfl rfl 8 (by decide) (hg _ w1714) (fun _ h9 => h9) rfl dX12_toldComponent_42 ?_
      refine lv_if_le (tgt := 49) hx hb dX12_toldComponent_45 (by decide) (fun c1257 => ?_) (fun c1257 => ?_)
      · skip
        have f1258 : ((V1249 0 8)).toInt ≤ 0 := b_le rfl (by decide) c1257
        exfalso; (first | exact om_f4ec09d15507 f1252 f1258 | omega)
      · skip
        have f1259 : 0 < ((V1249 0 8)).toInt := b_nle rfl (by decide) c1257
        have pq1260 : (V1249 0 48).toInt = ((V 0 48)).toInt := congrArg Int32.toInt (ajV1249 0 48 rfl)
        have pq1261 : (V1249 0 12).toInt = ((V 0 12)).toInt := congrArg Int32.toInt (ajV1249 0 12 rfl)
        have rw1262 : RoV 19 bq V V1249 := (fun k hk => ((ajV1249 19 k rfl).trans rfl))
        have rw1263 : RoV 35 bq V V1249 := (fun k hk => ((ajV1249 35 k rfl).trans rfl))
        have rw1264 : RoV 37 bq V V1249 := (fun k hk => ((ajV1249 37 k rfl).trans rfl))
        have rw1265 : RoL 20 24 bq L L := (fun k hk => rfl)
        have rw1266 : RoL 36 20 bq L L := (fun k hk => rfl)
        have rw1267 : RoL 38 20 bq L L := (fun k hk => rfl)
        exact W.vret hx hb hr (fun t ht hW => ⟨⟨(V1249, L), rfl, ⟨hMV1249, agV1249, alL, (Imp.mk (fun hp => have hp : (V1249 0 8).toInt = 0 := hp; (show (V1249 0 48).toInt ≤ 2 * (V1249 0 7).toInt from by as_aux_lemma => omega))), (show (V1249 0 48).toInt ≤ 8200 from by as_aux_lemma => omega), (show (V1249 0 12).toInt = (V 0 12).toInt from by as_aux_lemma => (first | exact om_570b691c1130 pq1261 | omega)), (Or.inr ⟨(show 1 ≤ (V1249 0 8).toInt from by as_aux_lemma => (first | exact om_58cca7287cc1 f1259 | omega)), hb1255⟩), rw1262, rw1263, rw1264, rw1265, rw1266, rw1267⟩, by rw [ht]; exact hP, va_K.moved hW.alike hK, hD⟩, hS.F ht⟩) hS.2.2 dX12_toldComponent_48
