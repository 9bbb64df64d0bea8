/-! components and wraps of the reference -/
theorem OWm.fresh {V : Vf} {o n : Nat} {s s' : St} (k : keepS (scopeS s) n s') (c27 : (V 27 o).toInt = 0) (c32 : (V 32 o).toInt = -1) (c33 : (V 33 o).toInt = -1) (c34 : ∀ q : Nat, q < 20 → (V 34 (20 * o + q)).toInt = -1) (w : Int64) : OWm V o (sA s' 2 w) := by
  refine ⟨?_, ⟨fun _ => ?_, fun _ => by omega⟩, ⟨fun _ => ?_, fun _ => by omega⟩, ?_, fun f hf => ?_, ?_⟩
  · show _ = ((s'.1 1 : Nat) : Int)
    rw [c27, k.2.1 1 (by decide)]
    rfl
  · show s'.1 2 ≠ 1
    rw [k.2.1 2 (by decide)]
    show (0 : Nat) ≠ 1
    decide
  · show s'.1 3 ≠ 1
    rw [k.2.1 3 (by decide)]
    show (0 : Nat) ≠ 1
    decide
  · show s'.1 4 = 0
    rw [k.2.1 4 (by decide)]
    rfl
  · show _ ↔ f ∈ s'.2.2.2
    rw [k.2.2.2]
    have z := c34 f hf
    exact ⟨fun q => absurd q (by omega), fun q => absurd q List.not_mem_nil⟩
  · show ∀ f ∈ s'.2.2.2, _
    rw [k.2.2.2]
    exact fun f hf => absurd hf List.not_mem_nil
theorem WRm.st {V : Vf} {q i f : Nat} {s : St} (h : WRm V q s) (hi : (i : Int) < (V 39 q).toInt) : arounds (s.2.2.1.take (i + 1)) f = arounds (s.2.2.1.take i) f + (if (V 43 (12 * q + i)).toInt = 1 ∧ (V 41 (12 * q + i)).toInt = (f : Int) then 1 else 0) := by
  have hl : i < s.2.2.1.length := by have := h.1; omega
  have z := h.2 i hl
  rw [take_s _ i hl, ar_app, z.2]
  congr 1
  by_cases c : (V 43 (12 * q + i)).toInt = 1 ∧ (V 41 (12 * q + i)).toInt = (f : Int)
  · rw [if_pos c, if_pos ⟨by show (V 41 (12 * q + i)).toInt.toNat = f; omega, decide_eq_true c.1⟩]
  · rw [if_neg c, if_neg (fun q9 => c ⟨of_decide_eq_true q9.2, by have q1 : (V 41 (12 * q + i)).toInt.toNat = f := q9.1; omega⟩)]
theorem WRm.all {V : Vf} {q i f : Nat} {s : St} (h : WRm V q s) (hi : (i : Int) = (V 39 q).toInt) : arounds (s.2.2.1.take i) f = arounds s.2.2.1 f := by
  rw [List.take_of_length_le (by have := h.1; omega)]
/-- a wrap's places ahead of its end: no one reads them yet -/
theorem RelM.w0 {V W : Vf} {L : Lf} {q n : Nat} {T : Tk} {s : St} {l2 : List Int64} {c : Nat} {a v : Int32} (h : RelM V L q n T s l2) (e : W = up2 V c (Int32.toNatClampNeg a) v) (hc : c = 41 ∨ c = 43) (ha : a.toInt = ((12 * q : Nat) : Int) + (V 39 q).toInt) (h0 : 0 ≤ (V 39 q).toInt) : RelM W L q n T s l2 := by
  have g : ∀ x, ¬ x = c → W x = V x := fun x hx => up2_fo e hx
  have kc := i_clamp (x := a) rfl (by omega)
  have t := h.2.2.1
  have w := h.2.2.2
  have wl := w.1
  refine ⟨by unfold HDm; rw [g 0 (by omega)]; exact h.1, h.2.1.ag (g 4 (by omega)) (g 5 (by omega)) rfl rfl, h.2.2.1.ag (congrFun (g 13 (by omega)) _) (congrFun (g 16 (by omega)) _) (congrFun (g 19 (by omega)) _) (congrFun (g 35 (by omega)) _) (congrFun (g 37 (by omega)) _) rfl rfl rfl rfl rfl rfl, ⟨by rw [g 39 (by omega)]; exact w.1, fun i hi => ?_⟩⟩
  have z := w.2 i hi
  rcases hc with hc | hc
  · subst hc
    rw [g 43 (by decide), up2_k e (by omega)]
    exact z
  · subst hc
    rw [g 41 (by decide), up2_k e (by omega)]
    exact z
theorem RelM.wr {V W : Vf} {L : Lf} {q n f : Nat} {T : Tk} {s : St} {l2 : List Int64} {z : Int32} {p : Int} (h : RelM V L q n T s l2) (ev : W = up2 V 39 q z) (hz : z.toInt = (V 39 q).toInt + 1) (h0 : 0 ≤ (V 39 q).toInt) (c41 : (V 41 (12 * q + (V 39 q).toInt.toNat)).toInt = (f : Int)) (c43 : (V 43 (12 * q + (V 39 q).toInt.toNat)).toInt = p) : RelM W L q n T (sW s (f, decide (p = 1))) l2 := by
  have g : ∀ x, ¬ x = 39 → W x = V x := fun x hx => up2_fo ev hx
  have w39 : W 39 q = z := up2_s ev
  have w := h.2.2.2
  have wl := w.1
  refine ⟨by unfold HDm; rw [g 0 (by decide)]; exact h.1, h.2.1.ag (g 4 (by decide)) (g 5 (by decide)) rfl rfl, h.2.2.1.ag (congrFun (g 13 (by decide)) _) (congrFun (g 16 (by decide)) _) (congrFun (g 19 (by decide)) _) (congrFun (g 35 (by decide)) _) (congrFun (g 37 (by decide)) _) rfl rfl rfl rfl rfl rfl, ⟨?_, ?_⟩⟩
  · show ((s.2.2.1 ++ [(f, decide (p = 1))]).length : Int) = _
    rw [List.length_append, w39, hz]
    show ((s.2.2.1.length + 1 : Nat) : Int) = _
    omega
  · show ∀ i (hi : i < (s.2.2.1 ++ [(f, decide (p = 1))]).length), 0 ≤ (W 41 (12 * q + i)).toInt ∧ (s.2.2.1 ++ [(f, decide (p = 1))])[i] = ((W 41 (12 * q + i)).toInt.toNat, decide ((W 43 (12 * q + i)).toInt = 1))
    intro i hi
    rw [g 41 (by decide), g 43 (by decide)]
    have hi2 : i < s.2.2.1.length + 1 := by rw [List.length_append] at hi; exact hi
    by_cases c : i < s.2.2.1.length
    · rw [List.getElem_append_left c]
      exact w.2 i c
    · have ei : i = (V 39 q).toInt.toNat := by omega
      rw [List.getElem_append_right (by omega)]
      subst ei
      rw [c41, c43, Int.toNat_natCast]
      exact ⟨by omega, List.getElem_singleton _⟩
theorem ARm.wr {s : St} {f : Nat} {p : Int} (h : ARm s) (c : p = 1 → ¬ 2 ≤ arounds s.2.2.1 f) : ARm (sW s (f, decide (p = 1))) := by
  intro g
  show arounds (s.2.2.1 ++ [(f, decide (p = 1))]) g ≤ 2
  rw [ar_app]
  have z := h g
  by_cases d : f = g ∧ decide (p = 1) = true
  · have y := c (of_decide_eq_true d.2)
    rw [d.1] at y
    split <;> omega
  · rw [if_neg d]
    omega
theorem EM.w {V : Vf} {s : St} (e51 : (V 0 51).toInt < 0) (h4 : s.1 4 = 1 ∨ s.1 4 = 2) (e : (V 0 52).toInt = 1 ↔ s.1 4 = 2) : EM V s := ⟨⟨fun q => absurd q (by omega), fun q => by omega⟩, e, fun q => absurd q (by omega)⟩
theorem RelM.en {V : Vf} {L : Lf} {q n : Nat} {T : Tk} {s : St} {l2 : List Int64} (h : RelM V L q n T s l2) : (V 4 (s.1 0)).toInt = 0 ↔ T.1 (s.1 0) = 0 := by
  rcases Nat.lt_or_eq_of_le h.1.2.1 with d | d
  · have z := (h.2.1.2.1 _ d).1.rg
    exact ⟨fun x => by omega, fun x => by omega⟩
  · rw [d]
    exact ⟨fun _ => h.2.1.2.2.1, fun _ => h.2.1.2.2.2.1⟩
theorem RelM.z {V : Vf} {L : Lf} {q n : Nat} {T : Tk} (t : TkM V L T n) (e7 : (V 0 7).toInt = 0) (e8 : (V 0 8).toInt = 0) (e12 : (V 0 12).toInt = (q : Int)) (hq : q < 2) (n0 : (V 13 q).toInt = 0) (n1 : (V 16 q).toInt = 0) (n2 : (V 19 q).toInt = 0) (n3 : (V 35 q).toInt = 0) (n4 : (V 37 q).toInt = 0) (n5 : (V 39 q).toInt = 0) : RelM V L q n T St0 (St0.2.1 2) :=
  have ls : ∀ (f : Nat → Int64) (x : Int), x = 0 → LSw [] f x ∧ NDl [] := fun f x hx => ⟨⟨by rw [hx]; rfl, fun i h => absurd h (Nat.not_lt_zero _)⟩, fun i j hi => absurd hi (Nat.not_lt_zero _)⟩
  ⟨⟨e7, Nat.zero_le _, e8, e12, hq⟩, t, ⟨ls _ _ n0, ls _ _ n1, ls _ _ n2, ls _ _ n3, ls _ _ n4⟩, ⟨by rw [n5]; rfl, fun i h => absurd h (Nat.not_lt_zero _)⟩⟩
theorem ARm.z : ARm St0 := fun f => by
  exact Nat.zero_le 2
theorem RelM.sc {V : Vf} {L : Lf} {q n : Nat} {T : Tk} {s : St} {l2 : List Int64} (h : RelM V L q n T (nx s 1) l2) : RelM V L q n T (scopeS s) l2 := ⟨h.1, h.2.1, h.2.2.1, h.2.2.2⟩
theorem RelM.p4 {V : Vf} {L : Lf} {q n v : Nat} {T : Tk} {s : St} {l2 : List Int64} (h : RelM V L q n T (nx s 1) l2) : RelM V L q n T (sN (nx s 1) 4 v) l2 := ⟨h.1, h.2.1, h.2.2.1, h.2.2.2⟩
theorem RelM.ad2 {V : Vf} {L : Lf} {q n : Nat} {T : Tk} {s : St} {l2 : List Int64} {w : Int64} (h : RelM V L q n T s l2) : RelM V L q n T (sA s 2 w) l2 := ⟨h.1, h.2.1, h.2.2.1, h.2.2.2⟩
theorem keepC.sy {s s' : St} (h : keepC s s') : keepC s' s := ⟨fun i hi => (h.1 i hi).symm, fun j hj => (h.2 j hj).symm⟩


abbrev r_s_toldComponentA : Room := { frames := 96, cells := 0, slots := 0, locals := 2886 }
abbrev q_s_toldComponentA (D : va_G) (ks : KS) (ad : Nat → Nat) (kk : Nat → ClassId) (V : Vf) (L : Lf) (bq : Nat) (gn : Nat) (gT : Tk) (gs : St) (A : Nat → Prop) : Array Value → State → Outcome → State → Prop := va_Qv (fun (u : Vf × Lf) => rgd bM u.1 ∧ agr [(0, 7), (0, 8), (0, 48), (0, 50), (0, 51), (0, 52)] [15, 19, 20, 21, 22, 23, 24, 25, 26, 27, 28, 29, 30, 31, 32, 33, 34, 35, 36, 37, 38, 45, 46, 47, 53] V u.1 ∧ agL [15, 19, 20, 21, 22, 23, 24, 25, 26, 27, 28, 29, 30, 31, 32, 33, 34, 35, 36, 37, 38, 45, 46, 47, 53] L u.2 ∧ (Imp ((u.1 0 8).toInt = 0) ((u.1 0 48).toInt ≤ 2 * (u.1 0 7).toInt)) ∧ ((u.1 0 48).toInt ≤ 8200) ∧ ((u.1 0 12).toInt = (V 0 12).toInt) ∧ (RdM gT gs (fun k => Istmt :: k) (fun k => Istmt :: k) (u.1 0 8).toInt (fun s9 => RelM u.1 u.2 bq gn gT s9 (s9.2.1 2) ∧ gs.1 0 + 1 ≤ s9.1 0 ∧ ARm s9 ∧ CNm u.1 bq s9)) ∧ (RoV 19 bq V u.1) ∧ (RoV 35 bq V u.1) ∧ (RoV 37 bq V u.1) ∧ (RoL 20 24 bq L u.2) ∧ (RoL 36 20 bq L u.2) ∧ (RoL 38 20 bq L u.2)) (fun u t => gq D A (mw ad kk ks.1 u.1 u.2) (mty kk) t) A
set_option maxHeartbeats 4000000 in
set_option maxRecDepth 100000 in
theorem s_toldComponentA (l : Launch) (D : va_G) (ks : KS) (sz : Nat) (ad : Nat → Nat) (kk : Nat → ClassId) (V : Vf) (L : Lf) (bq : Nat) (gn : Nat) (gT : Tk) (gs : St) (hMV : rgd bM V) (rel : RelM V L bq gn gT gs (gs.2.1 2)) (kd9 : gT.1 (gs.1 0) = 131) (cc : (V 0 48).toInt ≤ 2 * (V 0 7).toInt) (arm : ARm gs) (cnm : CNm V bq gs)  : Met l yX12_toldComponent (Cond.code yX12_toldComponent cX12_toldComponent 5 none :: GW) r_s_toldComponentA (va_Pc [.ref (ad 0)] (gp D ks (mw ad kk ks.1 V L) (mty kk) sz)) (q_s_toldComponentA D ks ad kk V L  bq gn gT gs (va_A (mw ad kk ks.1 V L) sz)) 0 0 (va_A (mw ad kk ks.1 V L) sz) := by
  refine g_met (q_s_toldComponentA D ks ad kk V L  bq gn gT gs) (by decide) (Nat.le_of_ble_eq_true rfl) ?_
  intro p e s m below meth c A ls H locs hx hb hr hml hown hg hlocks hin hnw hgk hP hK hD hS hA hl
  have hown : s.vm.findClass RX12 = some m.cls := hown
  have hl : lv_has ls 5 [(0, .ref (ad 0))] := hl
  have hP : va_P D vwCl (mw ad kk ks.1 V L) H := hP
  have hD : va_D A (mw ad kk ks.1 V L) := hD
  have hK : va_K D vwCl (mty kk) s := hK
  have agV : agr [(0, 7), (0, 8), (0, 48), (0, 50), (0, 51), (0, 52)] [15, 19, 20, 21, 22, 23, 24, 25, 26, 27, 28, 29, 30, 31, 32, 33, 34, 35, 36, 37, 38, 45, 46, 47, 53] V V := agr.rf
  have alL : agL [15, 19, 20, 21, 22, 23, 24, 25, 26, 27, 28, 29, 30, 31, 32, 33, 34, 35, 36, 37, 38, 45, 46, 47, 53] L L := agL.rf
  have r1 : 0 ≤ ((V 0 48)).toInt ∧ ((V 0 48)).toInt ≤ 10000 := hMV 0 48
  have rg0 := RelM.rg rel
  have cl0 := RelM.cl rel
  have cq0 := RelM.cq rel
  have ln0 := RelM.len rel
  have q13 : (V 13 (Int32.toNatClampNeg (V 0 12))).toInt = (V 13 bq).toInt := by rw [cq0]
  have q16 : (V 16 (Int32.toNatClampNeg (V 0 12))).toInt = (V 16 bq).toInt := by rw [cq0]
  have q19 : (V 19 (Int32.toNatClampNeg (V 0 12))).toInt = (V 19 bq).toInt := by rw [cq0]
  have q39 : (V 39 (Int32.toNatClampNeg (V 0 12))).toInt = (V 39 bq).toInt := by rw [cq0]
  obtain ⟨gc, hgc⟩ : ∃ g, g = 24 * bq + (gs.2.1 2).length := ⟨_, rfl⟩
  refine lv_bipush (v := 24) hx hb dX12_toldComponent_0 (by decide) ?_
  refine lv_aload_n hx hb dX12_toldComponent_2 rfl (lv_at hl 0 rfl) ?_
  refine va_get (D := D) (ci := 12) (v := .int (V 0 12)) (C := RX12) (T := TX12) (N := 100) hx hb hg inX12 hown hK hP 0 rfl rfl 12 (by decide) (hg _ w1722) (fun _ h9 => h9) rfl dX12_toldComponent_3 ?_
  have r2 : 0 ≤ ((V 0 12)).toInt ∧ ((V 0 12)).toInt ≤ 1 := hMV 0 12
  refine lv_imul hx hb dX12_toldComponent_6 ?_
  refine lv_topi (fun z3 ez3 => ?_)
  have hz3 : z3.toInt = 24 * ((V 0 12)).toInt := i_mul ez3 (by decide) rfl (by omega)
  refine lv_aload_n hx hb dX12_toldComponent_7 rfl (lv_at hl 0 rfl) ?_
  refine va_get (D := D) (ci := 12) (v := .ref (ad 19)) (C := RX12) (T := TX12) (N := 100) hx hb hg inX12 hown hK hP 0 rfl rfl 19 (by decide) (hg _ w1729) (fun _ h9 => h9) rfl dX12_toldComponent_8 ?_
  refine lv_aload_n hx hb dX12_toldComponent_11 rfl (lv_at hl 0 rfl) ?_
  refine va_get (D := D) (ci := 12) (v := .int (V 0 12)) (C := RX12) (T := TX12) (N := 100) hx hb hg inX12 hown hK hP 0 rfl rfl 12 (by decide) (hg _ w1722) (fun _ h9 => h9) rfl dX12_toldComponent_12 ?_
  refine va_iald (D := D) (i := (V 0 12)) hx hb hK hP 12 11 rfl rfl (i_in (a := ((V 0 12)).toInt) rfl (by omega)) dX12_toldComponent_15 ?_
  have r4 : 0 ≤ ((V 19 (Int32.toNatClampNeg (V 0 12)))).toInt ∧ ((V 19 (Int32.toNatClampNeg (V 0 12)))).toInt ≤ 24 := hMV 19 (Int32.toNatClampNeg (V 0 12))
  refine lv_iadd hx hb dX12_toldComponent_16 ?_
  refine lv_topi (fun z5 ez5 => ?_)
  have hz5 : z5.toInt = z3.toInt + ((V 19 (Int32.toNatClampNeg (V 0 12)))).toInt := i_add ez5 rfl rfl (by omega)
  refine lv_istore_n (lv' := [(1, .int z5), (0, .ref (ad 0))]) hx hb dX12_toldComponent_17 rfl hl (by decide) rfl (fun ls hl => ?_)
  have z5r : 0 ≤ z5.toInt := by omega
  have kgc : Int32.toNatClampNeg z5 = gc := by have h9 := i_clamp (x := z5) rfl (by omega); omega
  have kgi : z5.toInt = (gc : Int) := by have h9 := i_clamp (x := z5) rfl (by omega); omega
  refine lv_aload_n hx hb dX12_toldComponent_18 rfl (lv_at hl 1 rfl) ?_
  refine lv_aload_n hx hb dX12_toldComponent_19 rfl (lv_at hl 1 rfl) ?_
  refine va_get (D := D) (ci := 12) (v := .ref (ad 19)) (C := RX12) (T := TX12) (N := 100) hx hb hg inX12 hown hK hP 0 rfl rfl 19 (by decide) (hg _ w1729) (fun _ h9 => h9) rfl dX12_toldComponent_20 ?_
  refine lv_aload_n hx hb dX12_toldComponent_23 rfl (lv_at hl 1 rfl) ?_
  refine va_get (D := D) (ci := 12) (v := .int (V 0 12)) (C := RX12) (T := TX12) (N := 100) hx hb hg inX12 hown hK hP 0 rfl rfl 12 (by decide) (hg _ w1722) (fun _ h9 => h9) rfl dX12_toldComponent_24 ?_
  refine va_iald (D := D) (i := (V 0 12)) hx hb hK hP 12 11 rfl rfl (i_in (a := ((V 0 12)).toInt) rfl (by omega)) dX12_toldComponent_27 ?_
  refine lv_bipush (v := 24) hx hb dX12_toldComponent_28 (by decide) ?_
  refine lv_icmp_ne (tgt := 37) hx hb dX12_toldComponent_30 (by decide) (fun c6 => ?_) (fun c6 => ?_)
  · skip
    have f7 : ((V 19 (Int32.toNatClampNeg (V 0 12)))).toInt ≠ 24 := b_neq rfl (by decide) c6
    refine lv_iconst (v := 0) hx hb dX12_toldComponent_37 (by decide) ?_
    have r8 : Int32.toInt 0 = 0 := by decide
    refine gA_void (gA_runV (As := [.int 0]) (rest := []) (ci := 12) (q0 := 0) hx hb hml hown hg hP hD hK hS hA hnw hgk (s_beginsA l D ks H.size ad kk V L 0 (bq) (gn) (gT) (gs) ((gs.2.1 2)) hMV (by decide) rel (by rw [kd9]; decide)) w2035 w2037 w85 w172 w2038 rfl rfl hdV_yX12_begins ⟨Nat.le_of_ble_eq_true rfl, Nat.le_of_ble_eq_true rfl⟩ rfl hl.1 rfl (Nat.le_of_ble_eq_true rfl) dX12_toldComponent_38 ⟨Nat.le_of_ble_eq_true rfl, Nat.le_of_ble_eq_true rfl⟩) hP hD hK hS hA (fun u10 H locs w11 hP hD hK hS => ?_)
    obtain ⟨V13, L14⟩ := u10
    obtain ⟨hMV13, ajV13, axL14, t12⟩ := w11
    have axL14 : L = L14 := Eq.symm axL14
    subst axL14
    have hP : va_P D vwCl (mw ad kk ks.1 V13 L) H := hP
    have hD : va_D A (mw ad kk ks.1 V13 L) := hD
    have hMV13 : rgd bM V13 := hMV13
    have ajV13 : agr [(0, 7), (0, 8)] [] V V13 := ajV13
    have agV13 : agr [(0, 7), (0, 8), (0, 48), (0, 50), (0, 51), (0, 52)] [15, 19, 20, 21, 22, 23, 24, 25, 26, 27, 28, 29, 30, 31, 32, 33, 34, 35, 36, 37, 38, 45, 46, 47, 53] V V13 := agV.tr ajV13 (by decide) (by decide)
    have t12 : ((Int32.toInt 0) = 0 ∧ (V13 0 8).toInt = 0 ∧ RelM V13 L (bq) (gn) (gT) (nx (gs) 1) ((gs.2.1 2))) ∨ ((Int32.toInt 0) = 1 ∧ 1 ≤ (V13 0 8).toInt ∧ (V13 0 8).toInt = 5 + 16 * (gT).2.2 ((gs).1 0)) := t12
    rcases t12 with ⟨q15, f16, rl17⟩ | ⟨q15, f16, rl17⟩
    · skip
      have hr18 : ∀ k, Rc gT (Crun gs (Istmt :: k)) (Crun gs (Istmt :: k)) := fun k => Rc.rf
      have hr19 : ∀ k, Rc gT (Crun gs (Istmt :: k)) (Crun (nx gs 1) (InewComp :: k)) := fun k => Rc.go1 (hr18 k) (st_131 kd9 (by omega))
      have ps20 : (nx gs 1).1 0 = gs.1 0 + 1 := rfl
      have fz21 := RelM.rg rl17
      have r22 : 0 ≤ ((V13 0 8)).toInt ∧ ((V13 0 8)).toInt ≤ 70000 := hMV13 0 8
      refine lv_aload_n hx hb dX12_toldComponent_41 rfl (lv_at hl 1 rfl) ?_
      refine va_get (D := D) (ci := 12) (v := .int (V13 0 8)) (C := RX12) (T := TX12) (N := 100) hx hb hg inX12 hown hK hP 0 rfl rfl 8 (by decide) (hg _ w1718) (fun _ h9 => h9) rfl dX12_toldComponent_42 ?_
      refine lv_if_le (tgt := 49) hx hb dX12_toldComponent_45 (by decide) (fun c23 => ?_) (fun c23 => ?_)
      · skip
        have f24 : ((V13 0 8)).toInt ≤ 0 := b_le rfl (by decide) c23
        refine lv_aload_n hx hb dX12_toldComponent_49 rfl (lv_at hl 1 rfl) ?_
        refine gA_long (gA_runV (As := []) (rest := []) (ci := 12) (q0 := 0) hx hb hml hown hg hP hD hK hS hA hnw hgk (s_newNameA l D ks H.size ad kk V13 L (bq) (gn) (gT) ((nx gs 1)) hMV13 rl17) w2043 w2045 w87 w172 w2046 rfl rfl hdV_yX12_newName ⟨Nat.le_of_ble_eq_true rfl, Nat.le_of_ble_eq_true rfl⟩ rfl hl.1 rfl (Nat.le_of_ble_eq_true rfl) dX12_toldComponent_50 ⟨Nat.le_of_ble_eq_true rfl, Nat.le_of_ble_eq_true rfl⟩) hP hD hK hS hA (fun z25 u26 H locs w27 hP hD hK hS => ?_)
        obtain ⟨V29, L30⟩ := u26
        obtain ⟨hMV29, ajV29, axL30, t28⟩ := w27
        have axL30 : L = L30 := Eq.symm axL30
        subst axL30
        have hP : va_P D vwCl (mw ad kk ks.1 V29 L) H := hP
        have hD : va_D A (mw ad kk ks.1 V29 L) := hD
        have hMV29 : rgd bM V29 := hMV29
        have ajV29 : agr [(0, 7), (0, 8)] [] V13 V29 := ajV29
        have agV29 : agr [(0, 7), (0, 8), (0, 48), (0, 50), (0, 51), (0, 52)] [15, 19, 20, 21, 22, 23, 24, 25, 26, 27, 28, 29, 30, 31, 32, 33, 34, 35, 36, 37, 38, 45, 46, 47, 53] V V29 := agV13.tr ajV29 (by decide) (by decide)
        have t28 : KmW (newN (gT) ((nx gs 1))) (V29 0 8).toInt (fun w9 => RelM V29 L (bq) (gn) (gT) (nx ((nx gs 1)) 1) (((nx gs 1)).2.1 2) ∧ isTold ((nx gs 1)) w9 = false ∧ z25 = w9) := t28
        rcases t28 with ⟨q31, wx32, h33, rl34, tn35, hw36⟩ | ⟨q31, h33⟩
        · skip
          have hr37 : ∀ k, Rc gT (Crun gs (Istmt :: k)) (Crun (nx (nx gs 1) 1) (Itake 132 :: Itypes 1 wx32 0 [] :: k)) := fun k => Rc.go1 (hr19 k) (nc_y h33)
          have ps38 : (nx (nx gs 1) 1).1 0 = (nx gs 1).1 0 + 1 := rfl
          have fz39 := RelM.rg rl34
          have r40 : 0 ≤ ((V29 0 8)).toInt ∧ ((V29 0 8)).toInt ≤ 70000 := hMV29 0 8
          refine lv_lstore_n (lv' := [(2, .long z25), (1, .int z5), (0, .ref (ad 0))]) hx hb dX12_toldComponent_53 rfl hl (by decide) rfl (fun ls hl => ?_)
          have z5s : z5.toInt < 48 := by omega
          refine lv_iconst (v := 0) hx hb dX12_toldComponent_54 (by decide) ?_
          refine lv_istore (lv' := [(4, .int 0), (2, .long z25), (1, .int z5), (0, .ref (ad 0))]) hx hb dX12_toldComponent_55 hl (by decide) rfl (fun ls hl => ?_)
          have lp43 : ∀ (fulp43 : Nat) (y41 : Int32) (V42 : Vf) (H : Heap) (locs : List Loc) (ls : Array Slot), 0 ≤ y41.toInt ∧ y41.toInt ≤ 24 → (∀ g : Nat, (g : Int) < y41.toInt → (V42 21 (24 * gc + g)).toInt = 0) → (CNm V42 bq gs) → (RoV 19 bq V V42) → (RoV 35 bq V V42) → (RoV 37 bq V V42) → (RoL 20 24 bq L L) → (RoL 36 20 bq L L) → (RoL 38 20 bq L L) → 24 - y41.toInt < (fulp43 : Int) → agr [] [21] V29 V42 → rgd bM V42 → va_P D vwCl (mw ad kk ks.1 V42 L) H → va_D A (mw ad kk ks.1 V42 L) → va_S A s.heap H locs → lv_has ls 5 [(4, .int y41), (2, .long z25), (1, .int z5), (0, .ref (ad 0))] → W p l e r_s_toldComponentA s m ([.ref (ad 0)] : List Value).toArray below meth c H locs 0 0 (MQ below (q_s_toldComponentA D ks ad kk V L  bq gn gT gs A) ([.ref (ad 0)] : List Value).toArray s 0 0 A) (F0 m 57 ls []) := by
            (try clear fz39); (try clear ps38); (try clear fz21); (try clear ps20); (try clear hr19); (try clear hr18)
            intro fulp43
            induction fulp43 with
            | zero =>
              intro y41 V42 H locs ls klp43_0 xlp43_0 xlp43_1 xlp43_2 xlp43_3 xlp43_4 xlp43_5 xlp43_6 xlp43_7 hn ajV42 hMV42 hP hD hS hl
              exfalso; omega
            | succ fulp43 ihlp43 =>
              intro y41 V42 H locs ls klp43_0 xlp43_0 xlp43_1 xlp43_2 xlp43_3 xlp43_4 xlp43_5 xlp43_6 xlp43_7 hn ajV42 hMV42 hP hD hS hl
              have agV42 : agr [(0, 7), (0, 8), (0, 48), (0, 50), (0, 51), (0, 52)] [15, 19, 20, 21, 22, 23, 24, 25, 26, 27, 28, 29, 30, 31, 32, 33, 34, 35, 36, 37, 38, 45, 46, 47, 53] V V42 := agV29.tr ajV42 (by decide) (by decide)
              refine lv_iload hx hb dX12_toldComponent_57 (lv_at hl 0 rfl) ?_
              refine lv_bipush (v := 24) hx hb dX12_toldComponent_59 (by decide) ?_
              refine lv_icmp_ge (tgt := 83) hx hb dX12_toldComponent_61 (by decide) (fun c44 => ?_) (fun c44 => ?_)
              · skip
                have f45 : 24 ≤ y41.toInt := b_le (by decide) rfl c44
                refine lv_iconst (v := 0) hx hb dX12_toldComponent_83 (by decide) ?_
                refine lv_istore (lv' := [(4, .int 0), (2, .long z25), (1, .int z5), (0, .ref (ad 0))]) hx hb dX12_toldComponent_84 hl (by decide) rfl (fun ls hl => ?_)
                have lp48 : ∀ (fulp48 : Nat) (y46 : Int32) (V47 : Vf) (H : Heap) (locs : List Loc) (ls : Array Slot), 0 ≤ y46.toInt ∧ y46.toInt ≤ 20 → (∀ j : Nat, (j : Int) < y46.toInt → (V47 34 (20 * gc + j)).toInt = -1) → (RoV 19 bq V V47) → (RoV 35 bq V V47) → (RoV 37 bq V V47) → (RoL 20 24 bq L L) → (RoL 36 20 bq L L) → (RoL 38 20 bq L L) → 20 - y46.toInt < (fulp48 : Int) → agr [] [34] V42 V47 → rgd bM V47 → va_P D vwCl (mw ad kk ks.1 V47 L) H → va_D A (mw ad kk ks.1 V47 L) → va_S A s.heap H locs → lv_has ls 5 [(4, .int y46), (2, .long z25), (1, .int z5), (0, .ref (ad 0))] → W p l e r_s_toldComponentA s m ([.ref (ad 0)] : List Value).toArray below meth c H locs 0 0 (MQ below (q_s_toldComponentA D ks ad kk V L  bq gn gT gs A) ([.ref (ad 0)] : List Value).toArray s 0 0 A) (F0 m 86 ls []) := by
                  (try clear fz39); (try clear ps38); (try clear fz21); (try clear ps20); (try clear hr19); (try clear hr18)
                  intro fulp48
                  induction fulp48 with
                  | zero =>
                    intro y46 V47 H locs ls klp48_0 xlp48_0 xlp48_1 xlp48_2 xlp48_3 xlp48_4 xlp48_5 xlp48_6 hn ajV47 hMV47 hP hD hS hl
                    exfalso; omega
                  | succ fulp48 ihlp48 =>
                    intro y46 V47 H locs ls klp48_0 xlp48_0 xlp48_1 xlp48_2 xlp48_3 xlp48_4 xlp48_5 xlp48_6 hn ajV47 hMV47 hP hD hS hl
                    have agV47 : agr [(0, 7), (0, 8), (0, 48), (0, 50), (0, 51), (0, 52)] [15, 19, 20, 21, 22, 23, 24, 25, 26, 27, 28, 29, 30, 31, 32, 33, 34, 35, 36, 37, 38, 45, 46, 47, 53] V V47 := agV42.tr ajV47 (by decide) (by decide)
                    refine lv_iload hx hb dX12_toldComponent_86 (lv_at hl 0 rfl) ?_
                    refine lv_bipush (v := 20) hx hb dX12_toldComponent_88 (by decide) ?_
                    refine lv_icmp_ge (tgt := 112) hx hb dX12_toldComponent_90 (by decide) (fun c49 => ?_) (fun c49 => ?_)
                    · skip
                      have f50 : 20 ≤ y46.toInt := b_le (by decide) rfl c49
                      have r351 : ∀ j : Nat, j < 20 → (V47 34 (20 * gc + j)).toInt = -1 := fun j hj => xlp48_0 j (by omega)
                      have J52 : ∀ (V53 : Vf) (L54 : Lf) (H : Heap) (locs : List Loc) (ls : Array Slot), agL [15, 19, 20, 21, 22, 23, 24, 25, 26, 27, 28, 29, 30, 31, 32, 33, 34, 35, 36, 37, 38, 45, 46, 47, 53] L L54 → agr [(0, 7), (0, 8)] [15, 21, 22, 23, 24, 25, 26, 35, 36, 37, 38, 53] V47 V53 → rgd bM V53 → (((V53 0 8).toInt = 0 ∧ ∃ (s1 s0 : St) (m1 : Nat) (c1 : Int) (ca1 ra1 ws1 wv1 : Nat), (∀ k, Rc gT (Crun gs (Istmt :: k)) (Crun s1 (Itake 123 :: IaddNm m1 c1 (wx32) [wv1, ws1, ra1, ca1] :: Imember :: k))) ∧ RelM V53 L54 bq gn gT s1 (gs.2.1 2) ∧ keepS (scopeS s0) 0 s1 ∧ s1.2.1 2 = gs.2.1 2 ∧ s1.2.2.1 = gs.2.2.1 ∧ gs.1 0 + 1 ≤ s1.1 0 ∧ keepC gs s1 ∧ BTm V53 21 gc m1 ∧ (V53 22 gc).toInt = ((c1.toNat : Nat) : Int) ∧ (V53 23 gc).toInt + 1 = ((ca1 : Nat) : Int) ∧ (V53 24 gc).toInt = ((ra1 : Nat) : Int) ∧ (V53 25 gc).toInt + 1 = ((ws1 : Nat) : Int) ∧ (ws1 ≠ 0 → (V53 26 gc).toInt = ((wv1 : Nat) : Int))) ∨ (1 ≤ (V53 0 8).toInt ∧ ∀ k, Rc gT (Crun gs (Istmt :: k)) (Cbad (V53 0 8).toInt))) → ((V53 0 8).toInt = 0 → CNm V53 bq gs) → (V53 0 48).toInt ≤ 8000 → (V53 0 48).toInt = (V 0 48).toInt → (V53 0 12).toInt = (V 0 12).toInt → (RoV 19 bq V V53) → (RoV 35 bq V V53) → (RoV 37 bq V V53) → (RoL 20 24 bq L L54) → (RoL 36 20 bq L L54) → (RoL 38 20 bq L L54) → va_P D vwCl (mw ad kk ks.1 V53 L54) H → va_D A (mw ad kk ks.1 V53 L54) → va_S A s.heap H locs → lv_has ls 5 [(4, .int y46), (2, .long z25), (1, .int z5), (0, .ref (ad 0))] → W p l e r_s_toldComponentA s m ([.ref (ad 0)] : List Value).toArray below meth c H locs 0 0 (MQ below (q_s_toldComponentA D ks ad kk V L  bq gn gT gs A) ([.ref (ad 0)] : List Value).toArray s 0 0 A) (F0 m 262 ls []) := by
                        as_aux_lemma =>
                        (try clear fz39); (try clear ps38); (try clear hr37); (try clear fz21); (try clear ps20); (try clear hr19); (try clear hr18)
                        intro V53 L54 H locs ls alL54 ajV53 hMV53 xJ52_0 xJ52_1 xJ52_2 xJ52_3 xJ52_4 xJ52_5 xJ52_6 xJ52_7 xJ52_8 xJ52_9 xJ52_10 hP hD hS hl
                        have agV53 : agr [(0, 7), (0, 8), (0, 48), (0, 50), (0, 51), (0, 52)] [15, 19, 20, 21, 22, 23, 24, 25, 26, 27, 28, 29, 30, 31, 32, 33, 34, 35, 36, 37, 38, 45, 46, 47, 53] V V53 := agV47.tr ajV53 (by decide) (by decide)
                        have pq55 : (V53 0 48).toInt = ((V 0 48)).toInt := congrArg Int32.toInt ((ajV53 0 48 rfl).trans ((ajV47 0 48 rfl).trans ((ajV42 0 48 rfl).trans ((ajV29 0 48 rfl).trans (ajV13 0 48 rfl)))))
                        have pq56 : (V53 0 12).toInt = ((V 0 12)).toInt := congrArg Int32.toInt ((ajV53 0 12 rfl).trans ((ajV47 0 12 rfl).trans ((ajV42 0 12 rfl).trans ((ajV29 0 12 rfl).trans (ajV13 0 12 rfl)))))
                        rcases xJ52_0 with ⟨f7, s1, s0, m1, c1, ca1, ra1, ws1, wv1, h1, r1, k1, t1, w1, g1, q1, b1, d1, e1, i1, j1, o1⟩ | ⟨f7, h1⟩
                        · skip
                          have fz57 := RelM.rg r1
                          have r58 : 0 ≤ ((V53 0 8)).toInt ∧ ((V53 0 8)).toInt ≤ 70000 := hMV53 0 8
                          have hn59 : HDn V53 gc m1 c1.toNat ca1 ra1 ws1 wv1 := ⟨b1, d1, e1, i1, j1, o1⟩
                          refine lv_aload_n hx hb dX12_toldComponent_262 rfl (lv_at hl 3 rfl) ?_
                          refine va_get (D := D) (ci := 12) (v := .ref (ad 27)) (C := RX12) (T := TX12) (N := 100) hx hb hg inX12 hown hK hP 0 rfl rfl 27 (by decide) (hg _ w1737) (fun _ h9 => h9) rfl dX12_toldComponent_263 ?_
                          refine lv_iload_n hx hb dX12_toldComponent_266 rfl (lv_at hl 2 rfl) ?_
                          refine lv_iconst (v := 0) hx hb dX12_toldComponent_267 (by decide) ?_
                          refine va_iast (D := D) (i := z5) (x := 0) hx hb hK hP hD hS 20 19 rfl rfl (i_in (a := z5.toInt) rfl (by omega)) dX12_toldComponent_268 (fun H locs hP hD hS => ?_)
                          obtain ⟨V60, hV60⟩ : ∃ z, z = up2 V53 27 (Int32.toNatClampNeg z5) 0 := ⟨_, rfl⟩
                          have hP : va_P D vwCl (mw ad kk ks.1 V60 L54) H := by rw [hV60]; exact hP
                          have hD : va_D A (mw ad kk ks.1 V60 L54) := by rw [hV60]; exact hD
                          have hMV60 : rgd bM V60 := hMV53.put hV60 (show 0 ≤ Int32.toInt 0 ∧ Int32.toInt 0 ≤ 8 from by decide)
                          have agV60 : agr [(0, 7), (0, 8), (0, 48), (0, 50), (0, 51), (0, 52)] [15, 19, 20, 21, 22, 23, 24, 25, 26, 27, 28, 29, 30, 31, 32, 33, 34, 35, 36, 37, 38, 45, 46, 47, 53] V V60 := agV53.up hV60 rfl
                          refine lv_aload_n hx hb dX12_toldComponent_269 rfl (lv_at hl 3 rfl) ?_
                          refine va_get (D := D) (ci := 12) (v := .ref (ad 32)) (C := RX12) (T := TX12) (N := 100) hx hb hg inX12 hown hK hP 0 rfl rfl 32 (by decide) (hg _ w1742) (fun _ h9 => h9) rfl dX12_toldComponent_270 ?_
                          refine lv_iload_n hx hb dX12_toldComponent_273 rfl (lv_at hl 2 rfl) ?_
                          refine lv_iconst (v := (-1)) hx hb dX12_toldComponent_274 (by decide) ?_
                          refine va_iast (D := D) (i := z5) (x := (-1)) hx hb hK hP hD hS 25 24 rfl rfl (i_in (a := z5.toInt) rfl (by omega)) dX12_toldComponent_275 (fun H locs hP hD hS => ?_)
                          obtain ⟨V61, hV61⟩ : ∃ z, z = up2 V60 32 (Int32.toNatClampNeg z5) (-1) := ⟨_, rfl⟩
                          have hP : va_P D vwCl (mw ad kk ks.1 V61 L54) H := by rw [hV61]; exact hP
                          have hD : va_D A (mw ad kk ks.1 V61 L54) := by rw [hV61]; exact hD
                          have hMV61 : rgd bM V61 := hMV60.put hV61 (i_full _)
                          have agV61 : agr [(0, 7), (0, 8), (0, 48), (0, 50), (0, 51), (0, 52)] [15, 19, 20, 21, 22, 23, 24, 25, 26, 27, 28, 29, 30, 31, 32, 33, 34, 35, 36, 37, 38, 45, 46, 47, 53] V V61 := agV60.up hV61 rfl
                          refine lv_aload_n hx hb dX12_toldComponent_276 rfl (lv_at hl 3 rfl) ?_
                          refine va_get (D := D) (ci := 12) (v := .ref (ad 33)) (C := RX12) (T := TX12) (N := 100) hx hb hg inX12 hown hK hP 0 rfl rfl 33 (by decide) (hg _ w1743) (fun _ h9 => h9) rfl dX12_toldComponent_277 ?_
                          refine lv_iload_n hx hb dX12_toldComponent_280 rfl (lv_at hl 2 rfl) ?_
                          refine lv_iconst (v := (-1)) hx hb dX12_toldComponent_281 (by decide) ?_
                          refine va_iast (D := D) (i := z5) (x := (-1)) hx hb hK hP hD hS 26 25 rfl rfl (i_in (a := z5.toInt) rfl (by omega)) dX12_toldComponent_282 (fun H locs hP hD hS => ?_)
                          obtain ⟨V62, hV62⟩ : ∃ z, z = up2 V61 33 (Int32.toNatClampNeg z5) (-1) := ⟨_, rfl⟩
                          have hP : va_P D vwCl (mw ad kk ks.1 V62 L54) H := by rw [hV62]; exact hP
                          have hD : va_D A (mw ad kk ks.1 V62 L54) := by rw [hV62]; exact hD
                          have hMV62 : rgd bM V62 := hMV61.put hV62 (i_full _)
                          have agV62 : agr [(0, 7), (0, 8), (0, 48), (0, 50), (0, 51), (0, 52)] [15, 19, 20, 21, 22, 23, 24, 25, 26, 27, 28, 29, 30, 31, 32, 33, 34, 35, 36, 37, 38, 45, 46, 47, 53] V V62 := agV61.up hV62 rfl
                          refine lv_aload_n hx hb dX12_toldComponent_283 rfl (lv_at hl 3 rfl) ?_
                          refine lv_iload_n hx hb dX12_toldComponent_284 rfl (lv_at hl 2 rfl) ?_
                          refine va_put (D := D) (ci := 12) (v := .int z5) (ty := tyX12 51) (C := RX12) (T := TX12) (N := 100) hx hb hg inX12 tyX12 tyX12_ok nmX12 hown hK hP hD hS 0 rfl rfl 51 (by decide) (hg _ w1761) (fun _ h9 => h9) rfl (tyX12_ok 51 (by decide)) rfl rfl (Nat.le_of_ble_eq_true rfl) dX12_toldComponent_285 (fun H locs hP hD hS => ?_)
                          obtain ⟨V63, hV63⟩ : ∃ z, z = up2 V62 0 51 z5 := ⟨_, rfl⟩
                          have hP : va_P D vwCl (mw ad kk ks.1 V63 L54) H := by rw [hV63]; exact hP
                          have hD : va_D A (mw ad kk ks.1 V63 L54) := by rw [hV63]; exact hD
                          have hMV63 : rgd bM V63 := hMV62.put hV63 (show (-1) ≤ z5.toInt ∧ z5.toInt ≤ 47 from by omega)
                          have agV63 : agr [(0, 7), (0, 8), (0, 48), (0, 50), (0, 51), (0, 52)] [15, 19, 20, 21, 22, 23, 24, 25, 26, 27, 28, 29, 30, 31, 32, 33, 34, 35, 36, 37, 38, 45, 46, 47, 53] V V63 := agV62.up hV63 rfl
                          refine lv_aload_n hx hb dX12_toldComponent_288 rfl (lv_at hl 3 rfl) ?_
                          refine lv_iconst (v := 0) hx hb dX12_toldComponent_289 (by decide) ?_
                          refine va_put (D := D) (ci := 12) (v := .int 0) (ty := tyX12 52) (C := RX12) (T := TX12) (N := 100) hx hb hg inX12 tyX12 tyX12_ok nmX12 hown hK hP hD hS 0 rfl rfl 52 (by decide) (hg _ w1762) (fun _ h9 => h9) rfl (tyX12_ok 52 (by decide)) rfl rfl (Nat.le_of_ble_eq_true rfl) dX12_toldComponent_290 (fun H locs hP hD hS => ?_)
                          obtain ⟨V64, hV64⟩ : ∃ z, z = up2 V63 0 52 0 := ⟨_, rfl⟩
                          have hP : va_P D vwCl (mw ad kk ks.1 V64 L54) H := by rw [hV64]; exact hP
                          have hD : va_D A (mw ad kk ks.1 V64 L54) := by rw [hV64]; exact hD
                          have hMV64 : rgd bM V64 := hMV63.put hV64 (by decide)
                          have agV64 : agr [(0, 7), (0, 8), (0, 48), (0, 50), (0, 51), (0, 52)] [15, 19, 20, 21, 22, 23, 24, 25, 26, 27, 28, 29, 30, 31, 32, 33, 34, 35, 36, 37, 38, 45, 46, 47, 53] V V64 := agV63.up hV64 rfl
                          refine lv_aload_n hx hb dX12_toldComponent_293 rfl (lv_at hl 3 rfl) ?_
                          refine lv_bipush (v := 123) hx hb dX12_toldComponent_294 (by decide) ?_
                          have rl65 : RelM V64 L54 bq gn gT s1 (gs.2.1 2) := RelM.ag r1 (show agr [(0, 51), (0, 52)] [27, 32, 33] V53 V64 from (agr.up (agr.up (agr.up (agr.up (agr.up agr.rf hV60 rfl) hV61 rfl) hV62 rfl) hV63 rfl) hV64 rfl)) (by decide) (show agL [] L54 L54 from agL.rf) (by decide)
                          have r66 : Int32.toInt 123 = 123 := by decide
                          refine gA_void (gA_runV (As := [.int 123]) (rest := []) (ci := 12) (q0 := 0) hx hb hml hown hg hP hD hK hS hA hnw hgk (s_takeSignA l D ks H.size ad kk V64 L54 123 (bq) (gn) (gT) (s1) ((gs.2.1 2)) hMV64 rl65 (sg_yes (j := 123) (by decide) (by decide) (by decide))) w2079 w2081 w96 w172 w2082 rfl rfl hdV_yX12_takeSign ⟨Nat.le_of_ble_eq_true rfl, Nat.le_of_ble_eq_true rfl⟩ rfl hl.1 rfl (Nat.le_of_ble_eq_true rfl) dX12_toldComponent_296 ⟨Nat.le_of_ble_eq_true rfl, Nat.le_of_ble_eq_true rfl⟩) hP hD hK hS hA (fun u68 H locs w69 hP hD hK hS => ?_)
                          obtain ⟨V71, L72⟩ := u68
                          obtain ⟨hMV71, ajV71, axL72, t70⟩ := w69
                          have axL72 : L54 = L72 := Eq.symm axL72
                          subst axL72
                          have hP : va_P D vwCl (mw ad kk ks.1 V71 L54) H := hP
                          have hD : va_D A (mw ad kk ks.1 V71 L54) := hD
                          have hMV71 : rgd bM V71 := hMV71
                          have ajV71 : agr [(0, 7), (0, 8)] [] V64 V71 := ajV71
                          have agV71 : agr [(0, 7), (0, 8), (0, 48), (0, 50), (0, 51), (0, 52)] [15, 19, 20, 21, 22, 23, 24, 25, 26, 27, 28, 29, 30, 31, 32, 33, 34, 35, 36, 37, 38, 45, 46, 47, 53] V V71 := agV64.tr ajV71 (by decide) (by decide)
                          have t70 : ((V71 0 8).toInt = 0 ∧ (gT).1 ((s1).1 0) = (Int32.toInt 123) ∧ RelM V71 L54 (bq) (gn) (gT) (nx (s1) 1) ((gs.2.1 2))) ∨ (1 ≤ (V71 0 8).toInt ∧ (gT).1 ((s1).1 0) ≠ (Int32.toInt 123) ∧ (V71 0 8).toInt = 1 + 16 * (gT).2.2 ((s1).1 0)) := t70
                          rcases t70 with ⟨q73, h74, rl75⟩ | ⟨q73, h74, rl75⟩
                          · skip
                            have kd76 : gT.1 (s1.1 0) = 123 := h74.trans (by decide)
                            have hr77 : ∀ k, Rc gT (Crun gs (Istmt :: k)) (Crun (nx s1 1) (IaddNm m1 c1 wx32 [wv1, ws1, ra1, ca1] :: Imember :: k)) := fun k => Rc.go1 (h1 k) (tk_y kd76)
                            have ps78 : (nx s1 1).1 0 = s1.1 0 + 1 := rfl
                            have fz79 := RelM.rg rl75
                            have r80 : 0 ≤ ((V71 0 8)).toInt ∧ ((V71 0 8)).toInt ≤ 70000 := hMV71 0 8
                            have rl81 : RelM V71 L54 bq gn gT (nmS (nx s1 1) m1 c1 wx32 [wv1, ws1, ra1, ca1]) (gs.2.1 2) := RelM.nu (show RelM V71 L54 bq gn gT (sA (nx s1 1) 2 wx32) (gs.2.1 2) from RelM.ad2 rl75) (nmS_5 0 (by decide)) rfl
                            have hr82 : ∀ k, Rc gT (Crun gs (Istmt :: k)) (Crun (nmS (nx s1 1) m1 c1 wx32 [wv1, ws1, ra1, ca1]) (Imember :: k)) := fun k => Rc.go1 (hr77 k) (m_addNm m1 c1 wx32 [wv1, ws1, ra1, ca1])
                            have ow83 : OWm V71 gc (sA (nx s1 1) 2 wx32) := OWm.fresh (keepS.tr (keepS.tr (keepS.rf : keepS (scopeS s0) 0 (scopeS s0)) k1) (keepS.n1 1)) (by have h9 : V71 27 (Int32.toNatClampNeg z5) = 0 := ((ajV71 27 (Int32.toNatClampNeg z5) rfl).trans ((up2_o hV64 (by decide)).trans ((up2_o hV63 (by decide)).trans ((up2_o hV62 (by decide)).trans ((up2_o hV61 (by decide)).trans (up2_s hV60)))))); rw [kgc] at h9; rw [h9]; decide) (by have h9 : V71 32 (Int32.toNatClampNeg z5) = (-1) := ((ajV71 32 (Int32.toNatClampNeg z5) rfl).trans ((up2_o hV64 (by decide)).trans ((up2_o hV63 (by decide)).trans ((up2_o hV62 (by decide)).trans (up2_s hV61))))); rw [kgc] at h9; rw [h9]; decide) (by have h9 : V71 33 (Int32.toNatClampNeg z5) = (-1) := ((ajV71 33 (Int32.toNatClampNeg z5) rfl).trans ((up2_o hV64 (by decide)).trans ((up2_o hV63 (by decide)).trans (up2_s hV62)))); rw [kgc] at h9; rw [h9]; decide) (fun q hq => by rw [(show agr [(0, 7), (0, 8), (0, 51), (0, 52)] [15, 21, 22, 23, 24, 25, 26, 27, 32, 33, 35, 36, 37, 38, 53] V47 V71 from (agr.tr (agr.up (agr.up (agr.up (agr.up (agr.up (agr.tr agr.rf ajV53 (by decide) (by decide)) hV60 rfl) hV61 rfl) hV62 rfl) hV63 rfl) hV64 rfl) ajV71 (by decide) (by decide))) 34 _ rfl]; exact r351 q hq) wx32
                            have ow84 : OWm V71 gc (nmS (nx s1 1) m1 c1 wx32 [wv1, ws1, ra1, ca1]) := OWm.nu ow83 nmS_5 rfl
                            have cn85 : CNm V60 bq gs := CNm.up (xJ52_1 f7) hV60 (fun q9 => by have h9 := i_clamp (x := z5) rfl (by omega); unfold rdm at q9; omega)
                            have cn86 : CNm V71 bq gs := CNm.ag cn85 (show agr [(0, 7), (0, 8), (0, 51), (0, 52)] [32, 33] V60 V71 from (agr.tr (agr.up (agr.up (agr.up (agr.up agr.rf hV61 rfl) hV62 rfl) hV63 rfl) hV64 rfl) ajV71 (by decide) (by decide))) (by decide) keepC.rf
                            have cn87 : CNm V71 bq (nx s1 1) := CNm.mv cn86 (fun _ _ _ => rfl) (keepC.tr q1 (keepS.c (keepS.n1 1)))
                            have hd88 : HDn V71 gc m1 c1.toNat ca1 ra1 ws1 wv1 := HDn.mv6 hn59 (fun g hg => congrFun (by rw [(funext (fun q => ajV71 21 q rfl) : V71 21 = V64 21), (up2_fo hV64 (by decide) : V64 21 = V63 21), (up2_fo hV63 (by decide) : V63 21 = V62 21), (up2_fo hV62 (by decide) : V62 21 = V61 21), (up2_fo hV61 (by decide) : V61 21 = V60 21), (up2_fo hV60 (by decide) : V60 21 = V53 21)] : V71 21 = V53 21) _) (congrFun (by rw [(funext (fun q => ajV71 22 q rfl) : V71 22 = V64 22), (up2_fo hV64 (by decide) : V64 22 = V63 22), (up2_fo hV63 (by decide) : V63 22 = V62 22), (up2_fo hV62 (by decide) : V62 22 = V61 22), (up2_fo hV61 (by decide) : V61 22 = V60 22), (up2_fo hV60 (by decide) : V60 22 = V53 22)] : V71 22 = V53 22) _) (congrFun (by rw [(funext (fun q => ajV71 23 q rfl) : V71 23 = V64 23), (up2_fo hV64 (by decide) : V64 23 = V63 23), (up2_fo hV63 (by decide) : V63 23 = V62 23), (up2_fo hV62 (by decide) : V62 23 = V61 23), (up2_fo hV61 (by decide) : V61 23 = V60 23), (up2_fo hV60 (by decide) : V60 23 = V53 23)] : V71 23 = V53 23) _) (congrFun (by rw [(funext (fun q => ajV71 24 q rfl) : V71 24 = V64 24), (up2_fo hV64 (by decide) : V64 24 = V63 24), (up2_fo hV63 (by decide) : V63 24 = V62 24), (up2_fo hV62 (by decide) : V62 24 = V61 24), (up2_fo hV61 (by decide) : V61 24 = V60 24), (up2_fo hV60 (by decide) : V60 24 = V53 24)] : V71 24 = V53 24) _) (congrFun (by rw [(funext (fun q => ajV71 25 q rfl) : V71 25 = V64 25), (up2_fo hV64 (by decide) : V64 25 = V63 25), (up2_fo hV63 (by decide) : V63 25 = V62 25), (up2_fo hV62 (by decide) : V62 25 = V61 25), (up2_fo hV61 (by decide) : V61 25 = V60 25), (up2_fo hV60 (by decide) : V60 25 = V53 25)] : V71 25 = V53 25) _) (congrFun (by rw [(funext (fun q => ajV71 26 q rfl) : V71 26 = V64 26), (up2_fo hV64 (by decide) : V64 26 = V63 26), (up2_fo hV63 (by decide) : V63 26 = V62 26), (up2_fo hV62 (by decide) : V62 26 = V61 26), (up2_fo hV61 (by decide) : V61 26 = V60 26), (up2_fo hV60 (by decide) : V60 26 = V53 26)] : V71 26 = V53 26) _)
                            have cn89 : CNm V71 bq (nmS (nx s1 1) m1 c1 wx32 [wv1, ws1, ra1, ca1]) := CNm.nm cn87 (by rw [show ((nx s1 1).2.1 2).length = (gs.2.1 2).length from congrArg List.length (((((keepS.n1 1)).2.2.1 2 (by decide)).trans t1))]; exact hgc) hd88 (by have h9 : V71 27 (Int32.toNatClampNeg z5) = 0 := ((ajV71 27 (Int32.toNatClampNeg z5) rfl).trans ((up2_o hV64 (by decide)).trans ((up2_o hV63 (by decide)).trans ((up2_o hV62 (by decide)).trans ((up2_o hV61 (by decide)).trans (up2_s hV60)))))); rw [kgc] at h9; rw [h9]; decide) (by rw [show ((nx s1 1).2.1 2).length = (gs.2.1 2).length from congrArg List.length (((((keepS.n1 1)).2.2.1 2 (by decide)).trans t1))]; omega)
                            have tb7 : (nmS (nx s1 1) m1 c1 wx32 [wv1, ws1, ra1, ca1]).2.1 2 = gs.2.1 2 ++ [wx32] := by show (nx s1 1).2.1 2 ++ [wx32] = _; rw [((((keepS.n1 1)).2.2.1 2 (by decide)).trans t1)]
                            have wr7 : (nmS (nx s1 1) m1 c1 wx32 [wv1, ws1, ra1, ca1]).2.2.1 = gs.2.2.1 := ((rfl : (nmS (nx s1 1) m1 c1 wx32 [wv1, ws1, ra1, ca1]).2.2.1 = (nx s1 1).2.2.1).trans ((congrArg (fun q9 => q9.1) ((keepS.n1 1)).2.2.2).trans w1))
                            have ps90 : s1.1 0 + 1 ≤ (nx s1 1).1 0 := ((keepS.n1 1)).1
                            have ps91 : (nmS (nx s1 1) m1 c1 wx32 [wv1, ws1, ra1, ca1]).1 0 = (nx s1 1).1 0 := nmS_5 0 (by decide)
                            have gp7 : gs.1 0 + 1 ≤ (nmS (nx s1 1) m1 c1 wx32 [wv1, ws1, ra1, ca1]).1 0 := (by omega)
                            have lp95 : ∀ (fulp95 : Nat) (g94 : Int) (V92 : Vf) (L93 : Lf) (H : Heap) (locs : List Loc) (ls : Array Slot), (((V92 0 8).toInt = 0 ∧ ∃ s1 : St, (∀ k, Rc gT (Crun gs (Istmt :: k)) (Crun s1 (Imember :: k))) ∧ RelM V92 L93 bq gn gT s1 (gs.2.1 2) ∧ gs.1 0 + 1 ≤ s1.1 0 ∧ OWm V92 gc s1 ∧ s1.2.1 2 = gs.2.1 2 ++ [wx32] ∧ s1.2.2.1 = gs.2.2.1 ∧ CNm V92 bq s1) ∨ (1 ≤ (V92 0 8).toInt ∧ ∀ k, Rc gT (Crun gs (Istmt :: k)) (Cbad (V92 0 8).toInt))) → 0 ≤ g94 → Imp ((V92 0 8).toInt = 0) ((gn : Int) - (V92 0 7).toInt < g94) → Imp ((V92 0 8).toInt = 0) ((V92 0 48).toInt ≤ 2 * (V92 0 7).toInt) → (V92 0 48).toInt ≤ 8120 → (V92 0 51).toInt = z5.toInt → (V92 0 52).toInt = 0 → Imp (1 ≤ (V71 0 8).toInt) ((V92 0 8).toInt = (V71 0 8).toInt) → (RoV 19 bq V V92) → (RoV 35 bq V V92) → (RoV 37 bq V V92) → (RoL 20 24 bq L L93) → (RoL 36 20 bq L L93) → (RoL 38 20 bq L L93) → g94 < (fulp95 : Int) → agL [15, 19, 20, 21, 22, 23, 24, 25, 26, 27, 28, 29, 30, 31, 32, 33, 34, 35, 36, 37, 38, 45, 46, 47, 53] L L93 → agr [(0, 7), (0, 8), (0, 48), (0, 50)] [27, 28, 29, 30, 31, 32, 33, 34, 35, 36, 37, 38, 45, 46, 47] V71 V92 → rgd bM V92 → va_P D vwCl (mw ad kk ks.1 V92 L93) H → va_D A (mw ad kk ks.1 V92 L93) → va_S A s.heap H locs → lv_has ls 5 [(4, .int y46), (2, .long z25), (1, .int z5), (0, .ref (ad 0))] → W p l e r_s_toldComponentA s m ([.ref (ad 0)] : List Value).toArray below meth c H locs 0 0 (MQ below (q_s_toldComponentA D ks ad kk V L  bq gn gT gs A) ([.ref (ad 0)] : List Value).toArray s 0 0 A) (F0 m 299 ls []) := by
                              (try clear ps91); (try clear ps90); (try clear hr82); (try clear rl81); (try clear fz79); (try clear ps78); (try clear hr77); (try clear kd76); (try clear rl65); (try clear fz57); (try clear fz39); (try clear ps38); (try clear hr37); (try clear fz21); (try clear ps20); (try clear hr19); (try clear hr18)
                              intro fulp95
                              induction fulp95 with
                              | zero =>
                                intro g94 V92 L93 H locs ls xlp95_0 xlp95_1 xlp95_2 xlp95_3 xlp95_4 xlp95_5 xlp95_6 xlp95_7 xlp95_8 xlp95_9 xlp95_10 xlp95_11 xlp95_12 xlp95_13 hn alL93 ajV92 hMV92 hP hD hS hl
                                exfalso; omega
                              | succ fulp95 ihlp95 =>
                                intro g94 V92 L93 H locs ls xlp95_0 xlp95_1 xlp95_2 xlp95_3 xlp95_4 xlp95_5 xlp95_6 xlp95_7 xlp95_8 xlp95_9 xlp95_10 xlp95_11 xlp95_12 xlp95_13 hn alL93 ajV92 hMV92 hP hD hS hl
                                have agV92 : agr [(0, 7), (0, 8), (0, 48), (0, 50), (0, 51), (0, 52)] [15, 19, 20, 21, 22, 23, 24, 25, 26, 27, 28, 29, 30, 31, 32, 33, 34, 35, 36, 37, 38, 45, 46, 47, 53] V V92 := agV71.tr ajV92 (by decide) (by decide)
                                have r96 : 0 ≤ ((V92 0 8)).toInt ∧ ((V92 0 8)).toInt ≤ 70000 := hMV92 0 8
                                have r97 : 0 ≤ ((V92 0 48)).toInt ∧ ((V92 0 48)).toInt ≤ 10000 := hMV92 0 48
                                have pq98 : (V92 0 51).toInt = z5.toInt := congrArg Int32.toInt ((ajV92 0 51 rfl).trans ((ajV71 0 51 rfl).trans ((up2_k hV64 (by decide)).trans (up2_s hV63))))
                                have pq99 : (V92 0 52).toInt = 0 := (congrArg Int32.toInt ((ajV92 0 52 rfl).trans ((ajV71 0 52 rfl).trans (up2_s hV64)))).trans (by decide)
                                refine lv_aload_n hx hb dX12_toldComponent_299 rfl (lv_at hl 3 rfl) ?_
                                rcases xlp95_0 with ⟨f8, s1, hq, rq, gq1, oq, tq, wq, nq⟩ | ⟨f8, hq⟩
                                · skip
                                  have fz100 := RelM.rg rq
                                  refine va_get (D := D) (ci := 12) (v := .int (V92 0 8)) (C := RX12) (T := TX12) (N := 100) hx hb hg inX12 hown hK hP 0 rfl rfl 8 (by decide) (hg _ w1718) (fun _ h9 => h9) rfl dX12_toldComponent_300 ?_
                                  refine lv_if_ne (tgt := 323) hx hb dX12_toldComponent_303 (by decide) (fun c101 => ?_) (fun c101 => ?_)
                                  · skip
                                    have f102 : ((V92 0 8)).toInt ≠ 0 := b_neq rfl (by decide) c101
                                    exfalso; first | omega | ((try (have i_xlp95_7 := Imp.go xlp95_7 (by omega))); (try (have i_xlp95_3 := Imp.go xlp95_3 (by omega))); (try (have i_xlp95_2 := Imp.go xlp95_2 (by omega))); (try (have i_xlp95_2 := Imp.go xlp95_2 (by omega))); (try (have i_xlp95_3 := Imp.go xlp95_3 (by omega))); (try (have i_xlp95_7 := Imp.go xlp95_7 (by omega))); omega)
                                  · skip
                                    have f103 : ((V92 0 8)).toInt = 0 := b_eq rfl (by decide) c101
                                    refine lv_aload_n hx hb dX12_toldComponent_306 rfl (lv_at hl 3 rfl) ?_
                                    refine lv_bipush (v := 125) hx hb dX12_toldComponent_307 (by decide) ?_
                                    have r104 : Int32.toInt 125 = 125 := by decide
                                    refine gA_int (gA_runV (As := [.int 125]) (rest := []) (ci := 12) (q0 := 0) hx hb hml hown hg hP hD hK hS hA hnw hgk (s_isSignA l D ks H.size ad kk V92 L93 125 (bq) (gn) (gT) (s1) ((gs.2.1 2)) hMV92 rq (sg_yes (j := 125) (by decide) (by decide) (by decide))) w2075 w2077 w95 w172 w2078 rfl rfl hdV_yX12_isSign ⟨Nat.le_of_ble_eq_true rfl, Nat.le_of_ble_eq_true rfl⟩ rfl hl.1 rfl (Nat.le_of_ble_eq_true rfl) dX12_toldComponent_309 ⟨Nat.le_of_ble_eq_true rfl, Nat.le_of_ble_eq_true rfl⟩) hP hD hK hS hA (fun z105 u106 H locs w107 hP hD hK hS => ?_)
                                    obtain ⟨rgz105, t108⟩ := w107
                                    have rgz105 : 0 ≤ z105.toInt ∧ z105.toInt ≤ 1 := rgz105
                                    have t108 : (z105.toInt = 1 ∧ (gT).1 ((s1).1 0) = (Int32.toInt 125)) ∨ (z105.toInt = 0 ∧ (gT).1 ((s1).1 0) ≠ (Int32.toInt 125)) := t108
                                    rcases t108 with ⟨q109, h110⟩ | ⟨q109, h110⟩
                                    · skip
                                      have kd111 : gT.1 (s1.1 0) = 125 := h110.trans (by decide)
                                      refine lv_if_ne (tgt := 323) hx hb dX12_toldComponent_312 (by decide) (fun c112 => ?_) (fun c112 => ?_)
                                      · skip
                                        have f113 : z105.toInt ≠ 0 := b_neq rfl (by decide) c112
                                        refine lv_aload_n hx hb dX12_toldComponent_323 rfl (lv_at hl 3 rfl) ?_
                                        refine lv_bipush (v := 125) hx hb dX12_toldComponent_324 (by decide) ?_
                                        refine gA_void (gA_runV (As := [.int 125]) (rest := []) (ci := 12) (q0 := 0) hx hb hml hown hg hP hD hK hS hA hnw hgk (s_takeSignA l D ks H.size ad kk V92 L93 125 (bq) (gn) (gT) (s1) ((gs.2.1 2)) hMV92 rq (sg_yes (j := 125) (by decide) (by decide) (by decide))) w2079 w2081 w96 w172 w2082 rfl rfl hdV_yX12_takeSign ⟨Nat.le_of_ble_eq_true rfl, Nat.le_of_ble_eq_true rfl⟩ rfl hl.1 rfl (Nat.le_of_ble_eq_true rfl) dX12_toldComponent_326 ⟨Nat.le_of_ble_eq_true rfl, Nat.le_of_ble_eq_true rfl⟩) hP hD hK hS hA (fun u115 H locs w116 hP hD hK hS => ?_)
                                        obtain ⟨V118, L119⟩ := u115
                                        obtain ⟨hMV118, ajV118, axL119, t117⟩ := w116
                                        have axL119 : L93 = L119 := Eq.symm axL119
                                        subst axL119
                                        have hP : va_P D vwCl (mw ad kk ks.1 V118 L93) H := hP
                                        have hD : va_D A (mw ad kk ks.1 V118 L93) := hD
                                        have hMV118 : rgd bM V118 := hMV118
                                        have ajV118 : agr [(0, 7), (0, 8)] [] V92 V118 := ajV118
                                        have agV118 : agr [(0, 7), (0, 8), (0, 48), (0, 50), (0, 51), (0, 52)] [15, 19, 20, 21, 22, 23, 24, 25, 26, 27, 28, 29, 30, 31, 32, 33, 34, 35, 36, 37, 38, 45, 46, 47, 53] V V118 := agV92.tr ajV118 (by decide) (by decide)
                                        have t117 : ((V118 0 8).toInt = 0 ∧ (gT).1 ((s1).1 0) = (Int32.toInt 125) ∧ RelM V118 L93 (bq) (gn) (gT) (nx (s1) 1) ((gs.2.1 2))) ∨ (1 ≤ (V118 0 8).toInt ∧ (gT).1 ((s1).1 0) ≠ (Int32.toInt 125) ∧ (V118 0 8).toInt = 1 + 16 * (gT).2.2 ((s1).1 0)) := t117
                                        rcases t117 with ⟨q120, h121, rl122⟩ | ⟨q120, h121, rl122⟩
                                        · skip
                                          have kd123 : gT.1 (s1.1 0) = 125 := h121.trans (by decide)
                                          have fz124 := RelM.rg rl122
                                          have r125 : 0 ≤ ((V118 0 8)).toInt ∧ ((V118 0 8)).toInt ≤ 70000 := hMV118 0 8
                                          have hr126 : ∀ k, Rc gT (Crun gs (Istmt :: k)) (Crun (nx s1 1) (Istmt :: k)) := fun k => Rc.go1 (hq k) (mb_125 kd123)
                                          refine lv_aload_n hx hb dX12_toldComponent_329 rfl (lv_at hl 3 rfl) ?_
                                          refine va_get (D := D) (ci := 12) (v := .int (V118 0 8)) (C := RX12) (T := TX12) (N := 100) hx hb hg inX12 hown hK hP 0 rfl rfl 8 (by decide) (hg _ w1718) (fun _ h9 => h9) rfl dX12_toldComponent_330 ?_
                                          refine lv_if_le (tgt := 337) hx hb dX12_toldComponent_333 (by decide) (fun c127 => ?_) (fun c127 => ?_)
                                          · skip
                                            have f128 : ((V118 0 8)).toInt ≤ 0 := b_le rfl (by decide) c127
                                            refine lv_aload_n hx hb dX12_toldComponent_337 rfl (lv_at hl 3 rfl) ?_
                                            refine va_get (D := D) (ci := 12) (v := .ref (ad 20)) (C := RX12) (T := TX12) (N := 100) hx hb hg inX12 hown hK hP 0 rfl rfl 20 (by decide) (hg _ w1730) (fun _ h9 => h9) rfl dX12_toldComponent_338 ?_
                                            refine lv_iload_n hx hb dX12_toldComponent_341 rfl (lv_at hl 2 rfl) ?_
                                            refine lv_lload_n hx hb dX12_toldComponent_342 rfl (lv_at hl 1 rfl) ?_
                                            refine va_last (D := D) (i := z5) (x := z25) hx hb hK hP hD hS 13 12 rfl rfl (i_in (a := z5.toInt) rfl (by first | exact ⟨z5r, z5s⟩ | omega | ((try (have i_xlp95_7 := Imp.go xlp95_7 (by omega))); (try (have i_xlp95_3 := Imp.go xlp95_3 (by omega))); (try (have i_xlp95_2 := Imp.go xlp95_2 (by omega))); (try (have i_xlp95_2 := Imp.go xlp95_2 (by omega))); (try (have i_xlp95_3 := Imp.go xlp95_3 (by omega))); (try (have i_xlp95_7 := Imp.go xlp95_7 (by omega))); omega))) dX12_toldComponent_343 (fun H locs hP hD hS => ?_)
                                            obtain ⟨L129, hL129⟩ : ∃ z, z = upL L93 20 (Int32.toNatClampNeg z5) z25 := ⟨_, rfl⟩
                                            have hP : va_P D vwCl (mw ad kk ks.1 V118 L129) H := by rw [hL129]; exact hP
                                            have hD : va_D A (mw ad kk ks.1 V118 L129) := by rw [hL129]; exact hD
                                            have alL129 : agL [15, 19, 20, 21, 22, 23, 24, 25, 26, 27, 28, 29, 30, 31, 32, 33, 34, 35, 36, 37, 38, 45, 46, 47, 53] L L129 := agL.up alL93 hL129 rfl
                                            refine lv_aload_n hx hb dX12_toldComponent_344 rfl (lv_at hl 3 rfl) ?_
                                            refine va_get (D := D) (ci := 12) (v := .ref (ad 19)) (C := RX12) (T := TX12) (N := 100) hx hb hg inX12 hown hK hP 0 rfl rfl 19 (by decide) (hg _ w1729) (fun _ h9 => h9) rfl dX12_toldComponent_345 ?_
                                            refine lv_aload_n hx hb dX12_toldComponent_348 rfl (lv_at hl 3 rfl) ?_
                                            refine va_get (D := D) (ci := 12) (v := .int (V118 0 12)) (C := RX12) (T := TX12) (N := 100) hx hb hg inX12 hown hK hP 0 rfl rfl 12 (by decide) (hg _ w1722) (fun _ h9 => h9) rfl dX12_toldComponent_349 ?_
                                            refine g_top (v := (V 0 12)) ((ajV118 0 12 rfl).trans ((ajV92 0 12 rfl).trans ((ajV71 0 12 rfl).trans ((up2_k hV64 (by decide)).trans ((up2_k hV63 (by decide)).trans ((up2_o hV62 (by decide)).trans ((up2_o hV61 (by decide)).trans ((up2_o hV60 (by decide)).trans ((ajV53 0 12 rfl).trans ((ajV47 0 12 rfl).trans ((ajV42 0 12 rfl).trans ((ajV29 0 12 rfl).trans (ajV13 0 12 rfl))))))))))))) ?_
                                            refine lv_dup2_11 hx hb dX12_toldComponent_352 rfl rfl ?_
                                            refine va_iald (D := D) (i := (V 0 12)) hx hb hK hP 12 11 rfl rfl (i_in (a := ((V 0 12)).toInt) rfl (by first | omega | ((try (have i_xlp95_7 := Imp.go xlp95_7 (by omega))); (try (have i_xlp95_3 := Imp.go xlp95_3 (by omega))); (try (have i_xlp95_2 := Imp.go xlp95_2 (by omega))); (try (have i_xlp95_2 := Imp.go xlp95_2 (by omega))); (try (have i_xlp95_3 := Imp.go xlp95_3 (by omega))); (try (have i_xlp95_7 := Imp.go xlp95_7 (by omega))); omega))) dX12_toldComponent_353 ?_
                                            refine g_top (v := (V 19 (Int32.toNatClampNeg (V 0 12)))) ((ajV118 19 (Int32.toNatClampNeg (V 0 12)) rfl).trans ((ajV92 19 (Int32.toNatClampNeg (V 0 12)) rfl).trans ((ajV71 19 (Int32.toNatClampNeg (V 0 12)) rfl).trans ((up2_o hV64 (by decide)).trans ((up2_o hV63 (by decide)).trans ((up2_o hV62 (by decide)).trans ((up2_o hV61 (by decide)).trans ((up2_o hV60 (by decide)).trans ((ajV53 19 (Int32.toNatClampNeg (V 0 12)) rfl).trans ((ajV47 19 (Int32.toNatClampNeg (V 0 12)) rfl).trans ((ajV42 19 (Int32.toNatClampNeg (V 0 12)) rfl).trans ((ajV29 19 (Int32.toNatClampNeg (V 0 12)) rfl).trans (ajV13 19 (Int32.toNatClampNeg (V 0 12)) rfl))))))))))))) ?_
                                            refine lv_iconst (v := 1) hx hb dX12_toldComponent_354 (by decide) ?_
                                            refine lv_iadd hx hb dX12_toldComponent_355 ?_
                                            refine lv_topi (fun z130 ez130 => ?_)
                                            have hz130 : z130.toInt = ((V 19 (Int32.toNatClampNeg (V 0 12)))).toInt + 1 := i_add ez130 rfl (by decide) (by omega)
                                            refine va_iast (D := D) (i := (V 0 12)) (x := z130) hx hb hK hP hD hS 12 11 rfl rfl (i_in (a := ((V 0 12)).toInt) rfl (by first | omega | ((try (have i_xlp95_7 := Imp.go xlp95_7 (by omega))); (try (have i_xlp95_3 := Imp.go xlp95_3 (by omega))); (try (have i_xlp95_2 := Imp.go xlp95_2 (by omega))); (try (have i_xlp95_2 := Imp.go xlp95_2 (by omega))); (try (have i_xlp95_3 := Imp.go xlp95_3 (by omega))); (try (have i_xlp95_7 := Imp.go xlp95_7 (by omega))); omega))) dX12_toldComponent_356 (fun H locs hP hD hS => ?_)
                                            obtain ⟨V131, hV131⟩ : ∃ z, z = up2 V118 19 (Int32.toNatClampNeg (V 0 12)) z130 := ⟨_, rfl⟩
                                            have hP : va_P D vwCl (mw ad kk ks.1 V131 L129) H := by rw [hV131]; exact hP
                                            have hD : va_D A (mw ad kk ks.1 V131 L129) := by rw [hV131]; exact hD
                                            have hMV131 : rgd bM V131 := hMV118.put hV131 (show 0 ≤ z130.toInt ∧ z130.toInt ≤ 24 from by first | omega | ((try (have i_xlp95_7 := Imp.go xlp95_7 (by omega))); (try (have i_xlp95_3 := Imp.go xlp95_3 (by omega))); (try (have i_xlp95_2 := Imp.go xlp95_2 (by omega))); (try (have i_xlp95_2 := Imp.go xlp95_2 (by omega))); (try (have i_xlp95_3 := Imp.go xlp95_3 (by omega))); (try (have i_xlp95_7 := Imp.go xlp95_7 (by omega))); omega))
                                            have agV131 : agr [(0, 7), (0, 8), (0, 48), (0, 50), (0, 51), (0, 52)] [15, 19, 20, 21, 22, 23, 24, 25, 26, 27, 28, 29, 30, 31, 32, 33, 34, 35, 36, 37, 38, 45, 46, 47, 53] V V131 := agV118.up hV131 rfl
                                            have cq9 : (Int32.toNatClampNeg (V 0 12)) = bq := by have h9 := RelM.cq rl122; have h8 : V118 0 12 = (V 0 12) := ((ajV118 0 12 rfl).trans ((ajV92 0 12 rfl).trans ((ajV71 0 12 rfl).trans ((up2_k hV64 (by decide)).trans ((up2_k hV63 (by decide)).trans ((up2_o hV62 (by decide)).trans ((up2_o hV61 (by decide)).trans ((up2_o hV60 (by decide)).trans ((ajV53 0 12 rfl).trans ((ajV47 0 12 rfl).trans ((ajV42 0 12 rfl).trans ((ajV29 0 12 rfl).trans (ajV13 0 12 rfl))))))))))))); rw [h8] at h9; exact h9
                                            have hv9 := hV131
                                            rw [cq9] at hv9
                                            have pq132 : (V118 19 bq).toInt = ((V 19 bq)).toInt := congrArg Int32.toInt ((ajV118 19 bq rfl).trans ((ajV92 19 bq rfl).trans ((ajV71 19 bq rfl).trans ((up2_o hV64 (by decide)).trans ((up2_o hV63 (by decide)).trans ((up2_o hV62 (by decide)).trans ((up2_o hV61 (by decide)).trans ((up2_o hV60 (by decide)).trans ((ajV53 19 bq rfl).trans ((ajV47 19 bq rfl).trans ((ajV42 19 bq rfl).trans ((ajV29 19 bq rfl).trans (ajV13 19 bq rfl)))))))))))))
                                            have r133 : 0 ≤ ((V 19 bq)).toInt ∧ ((V 19 bq)).toInt ≤ 24 := hMV 19 bq
                                            have cv9 : (V118 19 (Int32.toNatClampNeg (V 0 12))).toInt = (V118 19 bq).toInt := by rw [cq9]
                                            have pq134 : (V118 19 (Int32.toNatClampNeg (V 0 12))).toInt = ((V 19 (Int32.toNatClampNeg (V 0 12)))).toInt := congrArg Int32.toInt ((ajV118 19 (Int32.toNatClampNeg (V 0 12)) rfl).trans ((ajV92 19 (Int32.toNatClampNeg (V 0 12)) rfl).trans ((ajV71 19 (Int32.toNatClampNeg (V 0 12)) rfl).trans ((up2_o hV64 (by decide)).trans ((up2_o hV63 (by decide)).trans ((up2_o hV62 (by decide)).trans ((up2_o hV61 (by decide)).trans ((up2_o hV60 (by decide)).trans ((ajV53 19 (Int32.toNatClampNeg (V 0 12)) rfl).trans ((ajV47 19 (Int32.toNatClampNeg (V 0 12)) rfl).trans ((ajV42 19 (Int32.toNatClampNeg (V 0 12)) rfl).trans ((ajV29 19 (Int32.toNatClampNeg (V 0 12)) rfl).trans (ajV13 19 (Int32.toNatClampNeg (V 0 12)) rfl)))))))))))))
                                            have r13 : 0 ≤ (V118 19 bq).toInt := (hMV118 19 bq).1
                                            have fn9 : fndI (gs.2.1 2) wx32 = none := (told_i tn35).2.2
                                            have lg9 := RelM.len rl122
                                            have ra9 : RelM V131 L129 bq gn gT (nx s1 1) (gs.2.1 2 ++ [wx32]) := RelM.a2 (a := z5) rl122 fn9 (by rw [← hw36]; exact hL129) (by omega) hv9 (by omega) r13
                                            have rl135 : RelM V131 L129 bq gn gT (nx s1 1) ((nx s1 1).2.1 2) := by rw [show (nx s1 1).2.1 2 = gs.2.1 2 ++ [wx32] from tq]; exact ra9
                                            have fz136 := RelM.rg rl135
                                            have pq137 : (V131 0 8).toInt = ((V118 0 8)).toInt := congrArg Int32.toInt (up2_o hV131 (by decide))
                                            have pq138 : (V131 0 7).toInt = ((V118 0 7)).toInt := congrArg Int32.toInt (up2_o hV131 (by decide))
                                            have pq139 : (V131 0 48).toInt = ((V92 0 48)).toInt := congrArg Int32.toInt ((up2_o hV131 (by decide)).trans (ajV118 0 48 rfl))
                                            have pq140 : (V131 0 12).toInt = ((V 0 12)).toInt := congrArg Int32.toInt ((up2_o hV131 (by decide)).trans ((ajV118 0 12 rfl).trans ((ajV92 0 12 rfl).trans ((ajV71 0 12 rfl).trans ((up2_k hV64 (by decide)).trans ((up2_k hV63 (by decide)).trans ((up2_o hV62 (by decide)).trans ((up2_o hV61 (by decide)).trans ((up2_o hV60 (by decide)).trans ((ajV53 0 12 rfl).trans ((ajV47 0 12 rfl).trans ((ajV42 0 12 rfl).trans ((ajV29 0 12 rfl).trans (ajV13 0 12 rfl))))))))))))))
                                            have ps141 : gs.1 0 + 1 ≤ s1.1 0 := gq1
                                            have ps142 : s1.1 0 + 1 ≤ (nx s1 1).1 0 := ((keepS.n1 1)).1
                                            have cn143 : CNm V131 bq s1 := CNm.ag nq (show agr [(0, 7), (0, 8)] [19] V92 V131 from (agr.up (agr.tr agr.rf ajV118 (by decide) (by decide)) hV131 rfl)) (by decide) keepC.rf
                                            have cn144 : CNm V131 bq (nx s1 1) := CNm.mv cn143 (fun _ _ _ => rfl) (keepC.tr (keepC.rf : keepC s1 s1) (keepS.c (keepS.n1 1)))
                                            have rw145 : RoV 19 bq V V131 := (fun k hk => ((up2_k hV131 (by omega)).trans ((ajV118 19 k rfl).trans (xlp95_8 k hk))))
                                            have rw146 : RoV 35 bq V V131 := (fun k hk => ((up2_o hV131 (by decide)).trans ((ajV118 35 k rfl).trans (xlp95_9 k hk))))
                                            have rw147 : RoV 37 bq V V131 := (fun k hk => ((up2_o hV131 (by decide)).trans ((ajV118 37 k rfl).trans (xlp95_10 k hk))))
                                            have rw148 : RoL 20 24 bq L L129 := (fun k hk => ((upL_k hL129 (by have h9 := i_clamp (x := z5) rfl (by omega); omega)).trans (xlp95_11 k hk)))
                                            have rw149 : RoL 36 20 bq L L129 := (fun k hk => ((upL_x hL129 (by decide)).trans (xlp95_12 k hk)))
                                            have rw150 : RoL 38 20 bq L L129 := (fun k hk => ((upL_x hL129 (by decide)).trans (xlp95_13 k hk)))
                                            exact W.vret hx hb hr (fun t ht hW => ⟨⟨(V131, L129), rfl, ⟨hMV131, agV131, alL129, (Imp.mk (fun hp => have hp : (V131 0 8).toInt = 0 := hp; (show (V131 0 48).toInt ≤ 2 * (V131 0 7).toInt from by first | omega | ((try (have i_xlp95_7 := Imp.go xlp95_7 (by omega))); (try (have i_xlp95_3 := Imp.go xlp95_3 (by omega))); (try (have i_xlp95_2 := Imp.go xlp95_2 (by omega))); (try (have i_xlp95_2 := Imp.go xlp95_2 (by omega))); (try (have i_xlp95_3 := Imp.go xlp95_3 (by omega))); (try (have i_xlp95_7 := Imp.go xlp95_7 (by omega))); omega)))), (show (V131 0 48).toInt ≤ 8200 from by first | omega | ((try (have i_xlp95_7 := Imp.go xlp95_7 (by omega))); (try (have i_xlp95_3 := Imp.go xlp95_3 (by omega))); (try (have i_xlp95_2 := Imp.go xlp95_2 (by omega))); (try (have i_xlp95_2 := Imp.go xlp95_2 (by omega))); (try (have i_xlp95_3 := Imp.go xlp95_3 (by omega))); (try (have i_xlp95_7 := Imp.go xlp95_7 (by omega))); omega)), (show (V131 0 12).toInt = (V 0 12).toInt from by first | omega | ((try (have i_xlp95_7 := Imp.go xlp95_7 (by omega))); (try (have i_xlp95_3 := Imp.go xlp95_3 (by omega))); (try (have i_xlp95_2 := Imp.go xlp95_2 (by omega))); (try (have i_xlp95_2 := Imp.go xlp95_2 (by omega))); (try (have i_xlp95_3 := Imp.go xlp95_3 (by omega))); (try (have i_xlp95_7 := Imp.go xlp95_7 (by omega))); omega)), (Or.inl ⟨W0 rl135, (nx s1 1), hr126, rl135, (by omega), (ARm.mv arm wq), cn144⟩), rw145, rw146, rw147, rw148, rw149, rw150⟩, by rw [ht]; exact hP, va_K.moved hW.alike hK, hD⟩, hS.F ht⟩) hS.2.2 dX12_toldComponent_357
                                          · skip
                                            have f151 : 0 < ((V118 0 8)).toInt := b_nle rfl (by decide) c127
                                            exfalso; first | omega | ((try (have i_xlp95_7 := Imp.go xlp95_7 (by omega))); (try (have i_xlp95_3 := Imp.go xlp95_3 (by omega))); (try (have i_xlp95_2 := Imp.go xlp95_2 (by omega))); (try (have i_xlp95_2 := Imp.go xlp95_2 (by omega))); (try (have i_xlp95_3 := Imp.go xlp95_3 (by omega))); (try (have i_xlp95_7 := Imp.go xlp95_7 (by omega))); omega)
                                        · skip
                                          have kd152 : gT.1 (s1.1 0) ≠ 125 := fun h9 => h121 (h9.trans (by decide))
                                          exact absurd kd111 kd152
                                      · skip
                                        have f153 : z105.toInt = 0 := b_eq rfl (by decide) c112
                                        exfalso; first | omega | ((try (have i_xlp95_7 := Imp.go xlp95_7 (by omega))); (try (have i_xlp95_3 := Imp.go xlp95_3 (by omega))); (try (have i_xlp95_2 := Imp.go xlp95_2 (by omega))); (try (have i_xlp95_2 := Imp.go xlp95_2 (by omega))); (try (have i_xlp95_3 := Imp.go xlp95_3 (by omega))); (try (have i_xlp95_7 := Imp.go xlp95_7 (by omega))); omega)
                                    · skip
                                      have kd154 : gT.1 (s1.1 0) ≠ 125 := fun h9 => h110 (h9.trans (by decide))
                                      refine lv_if_ne (tgt := 323) hx hb dX12_toldComponent_312 (by decide) (fun c155 => ?_) (fun c155 => ?_)
                                      · skip
                                        have f156 : z105.toInt ≠ 0 := b_neq rfl (by decide) c155
                                        exfalso; first | omega | ((try (have i_xlp95_7 := Imp.go xlp95_7 (by omega))); (try (have i_xlp95_3 := Imp.go xlp95_3 (by omega))); (try (have i_xlp95_2 := Imp.go xlp95_2 (by omega))); (try (have i_xlp95_2 := Imp.go xlp95_2 (by omega))); (try (have i_xlp95_3 := Imp.go xlp95_3 (by omega))); (try (have i_xlp95_7 := Imp.go xlp95_7 (by omega))); omega)
                                      · skip
                                        have f157 : z105.toInt = 0 := b_eq rfl (by decide) c155
                                        refine lv_aload_n hx hb dX12_toldComponent_315 rfl (lv_at hl 3 rfl) ?_
                                        refine lv_iload_n hx hb dX12_toldComponent_316 rfl (lv_at hl 2 rfl) ?_
                                        refine gA_void (gA_runV (As := [.int z5]) (rest := []) (ci := 12) (q0 := 0) hx hb hml hown hg hP hD hK hS hA hnw hgk (s_memberA l D ks H.size ad kk V92 L93 z5 (bq) (gn) (gT) (s1) ((gs.2.1 2)) (gc) hMV92 (by first | omega | ((try (have i_xlp95_7 := Imp.go xlp95_7 (by omega))); (try (have i_xlp95_3 := Imp.go xlp95_3 (by omega))); (try (have i_xlp95_2 := Imp.go xlp95_2 (by omega))); (try (have i_xlp95_2 := Imp.go xlp95_2 (by omega))); (try (have i_xlp95_3 := Imp.go xlp95_3 (by omega))); (try (have i_xlp95_7 := Imp.go xlp95_7 (by omega))); omega)) rq (show z5.toInt = ((gc) : Int) from by first | omega | ((try (have i_xlp95_7 := Imp.go xlp95_7 (by omega))); (try (have i_xlp95_3 := Imp.go xlp95_3 (by omega))); (try (have i_xlp95_2 := Imp.go xlp95_2 (by omega))); (try (have i_xlp95_2 := Imp.go xlp95_2 (by omega))); (try (have i_xlp95_3 := Imp.go xlp95_3 (by omega))); (try (have i_xlp95_7 := Imp.go xlp95_7 (by omega))); omega)) (show (gc) < 48 from by first | omega | ((try (have i_xlp95_7 := Imp.go xlp95_7 (by omega))); (try (have i_xlp95_3 := Imp.go xlp95_3 (by omega))); (try (have i_xlp95_2 := Imp.go xlp95_2 (by omega))); (try (have i_xlp95_2 := Imp.go xlp95_2 (by omega))); (try (have i_xlp95_3 := Imp.go xlp95_3 (by omega))); (try (have i_xlp95_7 := Imp.go xlp95_7 (by omega))); omega)) oq kd154 (show (V92 0 51).toInt = ((gc) : Int) from by first | omega | ((try (have i_xlp95_7 := Imp.go xlp95_7 (by omega))); (try (have i_xlp95_3 := Imp.go xlp95_3 (by omega))); (try (have i_xlp95_2 := Imp.go xlp95_2 (by omega))); (try (have i_xlp95_2 := Imp.go xlp95_2 (by omega))); (try (have i_xlp95_3 := Imp.go xlp95_3 (by omega))); (try (have i_xlp95_7 := Imp.go xlp95_7 (by omega))); omega)) (show (V92 0 52).toInt = 0 from by first | omega | ((try (have i_xlp95_7 := Imp.go xlp95_7 (by omega))); (try (have i_xlp95_3 := Imp.go xlp95_3 (by omega))); (try (have i_xlp95_2 := Imp.go xlp95_2 (by omega))); (try (have i_xlp95_2 := Imp.go xlp95_2 (by omega))); (try (have i_xlp95_3 := Imp.go xlp95_3 (by omega))); (try (have i_xlp95_7 := Imp.go xlp95_7 (by omega))); omega)) (show (V92 0 48).toInt ≤ 2 * (V92 0 7).toInt from by first | omega | ((try (have i_xlp95_7 := Imp.go xlp95_7 (by omega))); (try (have i_xlp95_3 := Imp.go xlp95_3 (by omega))); (try (have i_xlp95_2 := Imp.go xlp95_2 (by omega))); (try (have i_xlp95_2 := Imp.go xlp95_2 (by omega))); (try (have i_xlp95_3 := Imp.go xlp95_3 (by omega))); (try (have i_xlp95_7 := Imp.go xlp95_7 (by omega))); omega)) nq (by have h9 : (s1.2.1 2).length = (gs.2.1 2).length + 1 := (by rw [tq, List.length_append]; rfl); omega) (show 24 * (bq) ≤ (gc) from by first | omega | ((try (have i_xlp95_7 := Imp.go xlp95_7 (by omega))); (try (have i_xlp95_3 := Imp.go xlp95_3 (by omega))); (try (have i_xlp95_2 := Imp.go xlp95_2 (by omega))); (try (have i_xlp95_2 := Imp.go xlp95_2 (by omega))); (try (have i_xlp95_3 := Imp.go xlp95_3 (by omega))); (try (have i_xlp95_7 := Imp.go xlp95_7 (by omega))); omega))) w2108 w2110 w103 w172 w2111 rfl rfl hdV_yX12_member ⟨Nat.le_of_ble_eq_true rfl, Nat.le_of_ble_eq_true rfl⟩ rfl hl.1 rfl (Nat.le_of_ble_eq_true rfl) dX12_toldComponent_317 ⟨Nat.le_of_ble_eq_true rfl, Nat.le_of_ble_eq_true rfl⟩) hP hD hK hS hA (fun u159 H locs w160 hP hD hK hS => ?_)
                                        obtain ⟨V168, L169⟩ := u159
                                        obtain ⟨hMV168, ajV168, axL169, t161, t162, t163, t164, t165, t166, t167⟩ := w160
                                        have alL169 : agL [15, 19, 20, 21, 22, 23, 24, 25, 26, 27, 28, 29, 30, 31, 32, 33, 34, 35, 36, 37, 38, 45, 46, 47, 53] L L169 := agL.tr alL93 axL169 (by decide)
                                        have hP : va_P D vwCl (mw ad kk ks.1 V168 L169) H := hP
                                        have hD : va_D A (mw ad kk ks.1 V168 L169) := hD
                                        have hMV168 : rgd bM V168 := hMV168
                                        have ajV168 : agr [(0, 7), (0, 8), (0, 48), (0, 50)] [27, 28, 29, 30, 31, 32, 33, 34, 35, 36, 37, 38, 45, 46, 47] V92 V168 := ajV168
                                        have agV168 : agr [(0, 7), (0, 8), (0, 48), (0, 50), (0, 51), (0, 52)] [15, 19, 20, 21, 22, 23, 24, 25, 26, 27, 28, 29, 30, 31, 32, 33, 34, 35, 36, 37, 38, 45, 46, 47, 53] V V168 := agV92.tr ajV168 (by decide) (by decide)
                                        have t161 : Imp ((V168 0 8).toInt = 0) ((V168 0 48).toInt ≤ 2 * (V168 0 7).toInt) := t161
                                        have t162 : (V168 0 48).toInt ≤ 8120 := t162
                                        have t163 : RdM (gT) (s1) (fun k => Imember :: k) (fun k => Imember :: k) (V168 0 8).toInt (fun s9 => RelM V168 L169 (bq) (gn) (gT) s9 ((gs.2.1 2)) ∧ (s1).1 0 + 1 ≤ s9.1 0 ∧ OWm V168 (gc) s9 ∧ s9.2.1 2 = (s1).2.1 2 ∧ s9.2.2.1 = (s1).2.2.1 ∧ CNm V168 (bq) s9) := t163
                                        have t164 : RoV 35 (bq) V92 V168 := t164
                                        have t165 : RoV 37 (bq) V92 V168 := t165
                                        have t166 : RoL 36 20 (bq) L93 L169 := t166
                                        have t167 : RoL 38 20 (bq) L93 L169 := t167
                                        have r170 : 0 ≤ ((V168 0 48)).toInt ∧ ((V168 0 48)).toInt ≤ 10000 := hMV168 0 48
                                        have r171 : 0 ≤ ((V168 0 8)).toInt ∧ ((V168 0 8)).toInt ≤ 70000 := hMV168 0 8
                                        rcases t163 with ⟨q172, sx173, h174, rl175, kp176⟩ | ⟨q172, h174⟩
                                        · skip
                                          have hr177 : ∀ k, Rc gT (Crun gs (Istmt :: k)) (Crun sx173 (Imember :: k)) := fun k => (hq k).tr (h174 (k))
                                          have fz178 := RelM.rg rl175
                                          have ps179 := (kp176).1
                                          refine lv_goto (tgt := 299) hx hb dX12_toldComponent_320 (by decide) ?_
                                          have pq180 : (V168 0 51).toInt = z5.toInt := congrArg Int32.toInt ((ajV168 0 51 rfl).trans ((ajV92 0 51 rfl).trans ((ajV71 0 51 rfl).trans ((up2_k hV64 (by decide)).trans (up2_s hV63)))))
                                          have pq181 : (V168 0 52).toInt = 0 := (congrArg Int32.toInt ((ajV168 0 52 rfl).trans ((ajV92 0 52 rfl).trans ((ajV71 0 52 rfl).trans (up2_s hV64))))).trans (by decide)
                                          have rw182 : RoV 19 bq V V168 := (fun k hk => ((ajV168 19 k rfl).trans (xlp95_8 k hk)))
                                          have rw183 : RoV 35 bq V V168 := (fun k hk => ((t164 k hk).trans (xlp95_9 k hk)))
                                          have rw184 : RoV 37 bq V V168 := (fun k hk => ((t165 k hk).trans (xlp95_10 k hk)))
                                          have rw185 : RoL 20 24 bq L L169 := (fun k hk => ((axL169 20 k rfl).trans (xlp95_11 k hk)))
                                          have rw186 : RoL 36 20 bq L L169 := (fun k hk => ((t166 k hk).trans (xlp95_12 k hk)))
                                          have rw187 : RoL 38 20 bq L L169 := (fun k hk => ((t167 k hk).trans (xlp95_13 k hk)))
                                          exact ihlp95 (g94 - 1) V168 L169 H locs ls (Or.inl ⟨W0 rl175, sx173, hr177, rl175, (by omega), kp176.2.1, kp176.2.2.1.trans tq, kp176.2.2.2.1.trans wq, kp176.2.2.2.2⟩) (show 0 ≤ (g94 - 1) from by first | omega | ((try (have i_t161 := Imp.go t161 (by omega))); (try (have i_xlp95_7 := Imp.go xlp95_7 (by omega))); (try (have i_xlp95_3 := Imp.go xlp95_3 (by omega))); (try (have i_xlp95_2 := Imp.go xlp95_2 (by omega))); (try (have i_xlp95_2 := Imp.go xlp95_2 (by omega))); (try (have i_xlp95_3 := Imp.go xlp95_3 (by omega))); (try (have i_xlp95_7 := Imp.go xlp95_7 (by omega))); (try (have i_t161 := Imp.go t161 (by omega))); omega)) (Imp.mk (fun hp => have hp : (V168 0 8).toInt = 0 := hp; (show (gn : Int) - (V168 0 7).toInt < (g94 - 1) from by first | omega | ((try (have i_t161 := Imp.go t161 (by omega))); (try (have i_xlp95_7 := Imp.go xlp95_7 (by omega))); (try (have i_xlp95_3 := Imp.go xlp95_3 (by omega))); (try (have i_xlp95_2 := Imp.go xlp95_2 (by omega))); (try (have i_xlp95_2 := Imp.go xlp95_2 (by omega))); (try (have i_xlp95_3 := Imp.go xlp95_3 (by omega))); (try (have i_xlp95_7 := Imp.go xlp95_7 (by omega))); (try (have i_t161 := Imp.go t161 (by omega))); omega)))) (Imp.mk (fun hp => have hp : (V168 0 8).toInt = 0 := hp; (show (V168 0 48).toInt ≤ 2 * (V168 0 7).toInt from by first | omega | ((try (have i_t161 := Imp.go t161 (by omega))); (try (have i_xlp95_7 := Imp.go xlp95_7 (by omega))); (try (have i_xlp95_3 := Imp.go xlp95_3 (by omega))); (try (have i_xlp95_2 := Imp.go xlp95_2 (by omega))); (try (have i_xlp95_2 := Imp.go xlp95_2 (by omega))); (try (have i_xlp95_3 := Imp.go xlp95_3 (by omega))); (try (have i_xlp95_7 := Imp.go xlp95_7 (by omega))); (try (have i_t161 := Imp.go t161 (by omega))); omega)))) (show (V168 0 48).toInt ≤ 8120 from by first | omega | ((try (have i_t161 := Imp.go t161 (by omega))); (try (have i_xlp95_7 := Imp.go xlp95_7 (by omega))); (try (have i_xlp95_3 := Imp.go xlp95_3 (by omega))); (try (have i_xlp95_2 := Imp.go xlp95_2 (by omega))); (try (have i_xlp95_2 := Imp.go xlp95_2 (by omega))); (try (have i_xlp95_3 := Imp.go xlp95_3 (by omega))); (try (have i_xlp95_7 := Imp.go xlp95_7 (by omega))); (try (have i_t161 := Imp.go t161 (by omega))); omega)) (show (V168 0 51).toInt = z5.toInt from by first | omega | ((try (have i_t161 := Imp.go t161 (by omega))); (try (have i_xlp95_7 := Imp.go xlp95_7 (by omega))); (try (have i_xlp95_3 := Imp.go xlp95_3 (by omega))); (try (have i_xlp95_2 := Imp.go xlp95_2 (by omega))); (try (have i_xlp95_2 := Imp.go xlp95_2 (by omega))); (try (have i_xlp95_3 := Imp.go xlp95_3 (by omega))); (try (have i_xlp95_7 := Imp.go xlp95_7 (by omega))); (try (have i_t161 := Imp.go t161 (by omega))); omega)) (show (V168 0 52).toInt = 0 from by first | omega | ((try (have i_t161 := Imp.go t161 (by omega))); (try (have i_xlp95_7 := Imp.go xlp95_7 (by omega))); (try (have i_xlp95_3 := Imp.go xlp95_3 (by omega))); (try (have i_xlp95_2 := Imp.go xlp95_2 (by omega))); (try (have i_xlp95_2 := Imp.go xlp95_2 (by omega))); (try (have i_xlp95_3 := Imp.go xlp95_3 (by omega))); (try (have i_xlp95_7 := Imp.go xlp95_7 (by omega))); (try (have i_t161 := Imp.go t161 (by omega))); omega)) (Imp.mk (fun hp => have hp : 1 ≤ (V71 0 8).toInt := hp; (show (V168 0 8).toInt = (V71 0 8).toInt from by first | omega | ((try (have i_t161 := Imp.go t161 (by omega))); (try (have i_xlp95_7 := Imp.go xlp95_7 (by omega))); (try (have i_xlp95_3 := Imp.go xlp95_3 (by omega))); (try (have i_xlp95_2 := Imp.go xlp95_2 (by omega))); (try (have i_xlp95_2 := Imp.go xlp95_2 (by omega))); (try (have i_xlp95_3 := Imp.go xlp95_3 (by omega))); (try (have i_xlp95_7 := Imp.go xlp95_7 (by omega))); (try (have i_t161 := Imp.go t161 (by omega))); omega)))) rw182 rw183 rw184 rw185 rw186 rw187 (by first | omega | ((try (have i_t161 := Imp.go t161 (by omega))); (try (have i_xlp95_7 := Imp.go xlp95_7 (by omega))); (try (have i_xlp95_3 := Imp.go xlp95_3 (by omega))); (try (have i_xlp95_2 := Imp.go xlp95_2 (by omega))); (try (have i_xlp95_2 := Imp.go xlp95_2 (by omega))); (try (have i_xlp95_3 := Imp.go xlp95_3 (by omega))); (try (have i_xlp95_7 := Imp.go xlp95_7 (by omega))); (try (have i_t161 := Imp.go t161 (by omega))); omega)) alL169 (agr.tr (agr.tr agr.rf ajV92 (by decide) (by decide)) ajV168 (by decide) (by decide)) hMV168 hP hD hS (lv_sub hl [0, 1, 2, 3] rfl)
                                        · skip
                                          have hb188 : ∀ k, Rc gT (Crun gs (Istmt :: k)) (Cbad (V168 0 8).toInt) := fun k => (hq k).tr (h174 (k))
                                          refine lv_goto (tgt := 299) hx hb dX12_toldComponent_320 (by decide) ?_
                                          have pq189 : (V168 0 51).toInt = z5.toInt := congrArg Int32.toInt ((ajV168 0 51 rfl).trans ((ajV92 0 51 rfl).trans ((ajV71 0 51 rfl).trans ((up2_k hV64 (by decide)).trans (up2_s hV63)))))
                                          have pq190 : (V168 0 52).toInt = 0 := (congrArg Int32.toInt ((ajV168 0 52 rfl).trans ((ajV92 0 52 rfl).trans ((ajV71 0 52 rfl).trans (up2_s hV64))))).trans (by decide)
                                          have rw191 : RoV 19 bq V V168 := (fun k hk => ((ajV168 19 k rfl).trans (xlp95_8 k hk)))
                                          have rw192 : RoV 35 bq V V168 := (fun k hk => ((t164 k hk).trans (xlp95_9 k hk)))
                                          have rw193 : RoV 37 bq V V168 := (fun k hk => ((t165 k hk).trans (xlp95_10 k hk)))
                                          have rw194 : RoL 20 24 bq L L169 := (fun k hk => ((axL169 20 k rfl).trans (xlp95_11 k hk)))
                                          have rw195 : RoL 36 20 bq L L169 := (fun k hk => ((t166 k hk).trans (xlp95_12 k hk)))
                                          have rw196 : RoL 38 20 bq L L169 := (fun k hk => ((t167 k hk).trans (xlp95_13 k hk)))
                                          exact ihlp95 (g94 - 1) V168 L169 H locs ls (Or.inr ⟨(show 1 ≤ (V168 0 8).toInt from by omega), hb188⟩) (show 0 ≤ (g94 - 1) from by first | omega | ((try (have i_t161 := Imp.go t161 (by omega))); (try (have i_xlp95_7 := Imp.go xlp95_7 (by omega))); (try (have i_xlp95_3 := Imp.go xlp95_3 (by omega))); (try (have i_xlp95_2 := Imp.go xlp95_2 (by omega))); (try (have i_xlp95_2 := Imp.go xlp95_2 (by omega))); (try (have i_xlp95_3 := Imp.go xlp95_3 (by omega))); (try (have i_xlp95_7 := Imp.go xlp95_7 (by omega))); (try (have i_t161 := Imp.go t161 (by omega))); omega)) (Imp.mk (fun hp => have hp : (V168 0 8).toInt = 0 := hp; (show (gn : Int) - (V168 0 7).toInt < (g94 - 1) from by first | omega | ((try (have i_t161 := Imp.go t161 (by omega))); (try (have i_xlp95_7 := Imp.go xlp95_7 (by omega))); (try (have i_xlp95_3 := Imp.go xlp95_3 (by omega))); (try (have i_xlp95_2 := Imp.go xlp95_2 (by omega))); (try (have i_xlp95_2 := Imp.go xlp95_2 (by omega))); (try (have i_xlp95_3 := Imp.go xlp95_3 (by omega))); (try (have i_xlp95_7 := Imp.go xlp95_7 (by omega))); (try (have i_t161 := Imp.go t161 (by omega))); omega)))) (Imp.mk (fun hp => have hp : (V168 0 8).toInt = 0 := hp; (show (V168 0 48).toInt ≤ 2 * (V168 0 7).toInt from by first | omega | ((try (have i_t161 := Imp.go t161 (by omega))); (try (have i_xlp95_7 := Imp.go xlp95_7 (by omega))); (try (have i_xlp95_3 := Imp.go xlp95_3 (by omega))); (try (have i_xlp95_2 := Imp.go xlp95_2 (by omega))); (try (have i_xlp95_2 := Imp.go xlp95_2 (by omega))); (try (have i_xlp95_3 := Imp.go xlp95_3 (by omega))); (try (have i_xlp95_7 := Imp.go xlp95_7 (by omega))); (try (have i_t161 := Imp.go t161 (by omega))); omega)))) (show (V168 0 48).toInt ≤ 8120 from by first | omega | ((try (have i_t161 := Imp.go t161 (by omega))); (try (have i_xlp95_7 := Imp.go xlp95_7 (by omega))); (try (have i_xlp95_3 := Imp.go xlp95_3 (by omega))); (try (have i_xlp95_2 := Imp.go xlp95_2 (by omega))); (try (have i_xlp95_2 := Imp.go xlp95_2 (by omega))); (try (have i_xlp95_3 := Imp.go xlp95_3 (by omega))); (try (have i_xlp95_7 := Imp.go xlp95_7 (by omega))); (try (have i_t161 := Imp.go t161 (by omega))); omega)) (show (V168 0 51).toInt = z5.toInt from by first | omega | ((try (have i_t161 := Imp.go t161 (by omega))); (try (have i_xlp95_7 := Imp.go xlp95_7 (by omega))); (try (have i_xlp95_3 := Imp.go xlp95_3 (by omega))); (try (have i_xlp95_2 := Imp.go xlp95_2 (by omega))); (try (have i_xlp95_2 := Imp.go xlp95_2 (by omega))); (try (have i_xlp95_3 := Imp.go xlp95_3 (by omega))); (try (have i_xlp95_7 := Imp.go xlp95_7 (by omega))); (try (have i_t161 := Imp.go t161 (by omega))); omega)) (show (V168 0 52).toInt = 0 from by first | omega | ((try (have i_t161 := Imp.go t161 (by omega))); (try (have i_xlp95_7 := Imp.go xlp95_7 (by omega))); (try (have i_xlp95_3 := Imp.go xlp95_3 (by omega))); (try (have i_xlp95_2 := Imp.go xlp95_2 (by omega))); (try (have i_xlp95_2 := Imp.go xlp95_2 (by omega))); (try (have i_xlp95_3 := Imp.go xlp95_3 (by omega))); (try (have i_xlp95_7 := Imp.go xlp95_7 (by omega))); (try (have i_t161 := Imp.go t161 (by omega))); omega)) (Imp.mk (fun hp => have hp : 1 ≤ (V71 0 8).toInt := hp; (show (V168 0 8).toInt = (V71 0 8).toInt from by first | omega | ((try (have i_t161 := Imp.go t161 (by omega))); (try (have i_xlp95_7 := Imp.go xlp95_7 (by omega))); (try (have i_xlp95_3 := Imp.go xlp95_3 (by omega))); (try (have i_xlp95_2 := Imp.go xlp95_2 (by omega))); (try (have i_xlp95_2 := Imp.go xlp95_2 (by omega))); (try (have i_xlp95_3 := Imp.go xlp95_3 (by omega))); (try (have i_xlp95_7 := Imp.go xlp95_7 (by omega))); (try (have i_t161 := Imp.go t161 (by omega))); omega)))) rw191 rw192 rw193 rw194 rw195 rw196 (by first | omega | ((try (have i_t161 := Imp.go t161 (by omega))); (try (have i_xlp95_7 := Imp.go xlp95_7 (by omega))); (try (have i_xlp95_3 := Imp.go xlp95_3 (by omega))); (try (have i_xlp95_2 := Imp.go xlp95_2 (by omega))); (try (have i_xlp95_2 := Imp.go xlp95_2 (by omega))); (try (have i_xlp95_3 := Imp.go xlp95_3 (by omega))); (try (have i_xlp95_7 := Imp.go xlp95_7 (by omega))); (try (have i_t161 := Imp.go t161 (by omega))); omega)) alL169 (agr.tr (agr.tr agr.rf ajV92 (by decide) (by decide)) ajV168 (by decide) (by decide)) hMV168 hP hD hS (lv_sub hl [0, 1, 2, 3] rfl)
                                · skip
                                  refine va_get (D := D) (ci := 12) (v := .int (V92 0 8)) (C := RX12) (T := TX12) (N := 100) hx hb hg inX12 hown hK hP 0 rfl rfl 8 (by decide) (hg _ w1718) (fun _ h9 => h9) rfl dX12_toldComponent_300 ?_
                                  refine lv_if_ne (tgt := 323) hx hb dX12_toldComponent_303 (by decide) (fun c197 => ?_) (fun c197 => ?_)
                                  · skip
                                    have f198 : ((V92 0 8)).toInt ≠ 0 := b_neq rfl (by decide) c197
                                    refine lv_aload_n hx hb dX12_toldComponent_323 rfl (lv_at hl 3 rfl) ?_
                                    refine lv_bipush (v := 125) hx hb dX12_toldComponent_324 (by decide) ?_
                                    have r199 : Int32.toInt 125 = 125 := by decide
                                    refine gA_void (gA_runV (As := [.int 125]) (rest := []) (ci := 12) (q0 := 0) hx hb hml hown hg hP hD hK hS hA hnw hgk (s_takeSignB l D ks H.size ad kk V92 L93 125 hMV92 (show 1 ≤ (V92 0 8).toInt from by first | omega | ((try (have i_xlp95_7 := Imp.go xlp95_7 (by omega))); (try (have i_xlp95_3 := Imp.go xlp95_3 (by omega))); (try (have i_xlp95_2 := Imp.go xlp95_2 (by omega))); (try (have i_xlp95_2 := Imp.go xlp95_2 (by omega))); (try (have i_xlp95_3 := Imp.go xlp95_3 (by omega))); (try (have i_xlp95_7 := Imp.go xlp95_7 (by omega))); omega))) w2079 w2081 w96 w172 w2082 rfl rfl hdV_yX12_takeSign ⟨Nat.le_of_ble_eq_true rfl, Nat.le_of_ble_eq_true rfl⟩ rfl hl.1 rfl (Nat.le_of_ble_eq_true rfl) dX12_toldComponent_326 ⟨Nat.le_of_ble_eq_true rfl, Nat.le_of_ble_eq_true rfl⟩) hP hD hK hS hA (fun u201 H locs w202 hP hD hK hS => ?_)
                                    obtain ⟨V204, L205⟩ := u201
                                    obtain ⟨hMV204, ajV204, axL205, t203⟩ := w202
                                    have axL205 : L93 = L205 := Eq.symm axL205
                                    subst axL205
                                    have hP : va_P D vwCl (mw ad kk ks.1 V204 L93) H := hP
                                    have hD : va_D A (mw ad kk ks.1 V204 L93) := hD
                                    have hMV204 : rgd bM V204 := hMV204
                                    have ajV204 : agr [(0, 7), (0, 8)] [] V92 V204 := ajV204
                                    have agV204 : agr [(0, 7), (0, 8), (0, 48), (0, 50), (0, 51), (0, 52)] [15, 19, 20, 21, 22, 23, 24, 25, 26, 27, 28, 29, 30, 31, 32, 33, 34, 35, 36, 37, 38, 45, 46, 47, 53] V V204 := agV92.tr ajV204 (by decide) (by decide)
                                    have t203 : (V204 0 8).toInt = (V92 0 8).toInt := t203
                                    have r206 : 0 ≤ ((V204 0 8)).toInt ∧ ((V204 0 8)).toInt ≤ 70000 := hMV204 0 8
                                    refine lv_aload_n hx hb dX12_toldComponent_329 rfl (lv_at hl 3 rfl) ?_
                                    refine va_get (D := D) (ci := 12) (v := .int (V204 0 8)) (C := RX12) (T := TX12) (N := 100) hx hb hg inX12 hown hK hP 0 rfl rfl 8 (by decide) (hg _ w1718) (fun _ h9 => h9) rfl dX12_toldComponent_330 ?_
                                    refine lv_if_le (tgt := 337) hx hb dX12_toldComponent_333 (by decide) (fun c207 => ?_) (fun c207 => ?_)
                                    · skip
                                      have f208 : ((V204 0 8)).toInt ≤ 0 := b_le rfl (by decide) c207
                                      exfalso; first | omega | ((try (have i_xlp95_7 := Imp.go xlp95_7 (by omega))); (try (have i_xlp95_3 := Imp.go xlp95_3 (by omega))); (try (have i_xlp95_2 := Imp.go xlp95_2 (by omega))); (try (have i_xlp95_2 := Imp.go xlp95_2 (by omega))); (try (have i_xlp95_3 := Imp.go xlp95_3 (by omega))); (try (have i_xlp95_7 := Imp.go xlp95_7 (by omega))); omega)
                                    · skip
                                      have f209 : 0 < ((V204 0 8)).toInt := b_nle rfl (by decide) c207
                                      have pq210 : (V204 0 48).toInt = ((V92 0 48)).toInt := congrArg Int32.toInt (ajV204 0 48 rfl)
                                      have pq211 : (V204 0 12).toInt = ((V 0 12)).toInt := congrArg Int32.toInt ((ajV204 0 12 rfl).trans ((ajV92 0 12 rfl).trans ((ajV71 0 12 rfl).trans ((up2_k hV64 (by decide)).trans ((up2_k hV63 (by decide)).trans ((up2_o hV62 (by decide)).trans ((up2_o hV61 (by decide)).trans ((up2_o hV60 (by decide)).trans ((ajV53 0 12 rfl).trans ((ajV47 0 12 rfl).trans ((ajV42 0 12 rfl).trans ((ajV29 0 12 rfl).trans (ajV13 0 12 rfl)))))))))))))
                                      have rw212 : RoV 19 bq V V204 := (fun k hk => ((ajV204 19 k rfl).trans (xlp95_8 k hk)))
                                      have rw213 : RoV 35 bq V V204 := (fun k hk => ((ajV204 35 k rfl).trans (xlp95_9 k hk)))
                                      have rw214 : RoV 37 bq V V204 := (fun k hk => ((ajV204 37 k rfl).trans (xlp95_10 k hk)))
                                      have rw215 : RoL 20 24 bq L L93 := (fun k hk => (xlp95_11 k hk))
                                      have rw216 : RoL 36 20 bq L L93 := (fun k hk => (xlp95_12 k hk))
                                      have rw217 : RoL 38 20 bq L L93 := (fun k hk => (xlp95_13 k hk))
                                      exact W.vret hx hb hr (fun t ht hW => ⟨⟨(V204, L93), rfl, ⟨hMV204, agV204, alL93, (Imp.mk (fun hp => have hp : (V204 0 8).toInt = 0 := hp; (show (V204 0 48).toInt ≤ 2 * (V204 0 7).toInt from by first | omega | ((try (have i_xlp95_7 := Imp.go xlp95_7 (by omega))); (try (have i_xlp95_3 := Imp.go xlp95_3 (by omega))); (try (have i_xlp95_2 := Imp.go xlp95_2 (by omega))); (try (have i_xlp95_2 := Imp.go xlp95_2 (by omega))); (try (have i_xlp95_3 := Imp.go xlp95_3 (by omega))); (try (have i_xlp95_7 := Imp.go xlp95_7 (by omega))); omega)))), (show (V204 0 48).toInt ≤ 8200 from by first | omega | ((try (have i_xlp95_7 := Imp.go xlp95_7 (by omega))); (try (have i_xlp95_3 := Imp.go xlp95_3 (by omega))); (try (have i_xlp95_2 := Imp.go xlp95_2 (by omega))); (try (have i_xlp95_2 := Imp.go xlp95_2 (by omega))); (try (have i_xlp95_3 := Imp.go xlp95_3 (by omega))); (try (have i_xlp95_7 := Imp.go xlp95_7 (by omega))); omega)), (show (V204 0 12).toInt = (V 0 12).toInt from by first | omega | ((try (have i_xlp95_7 := Imp.go xlp95_7 (by omega))); (try (have i_xlp95_3 := Imp.go xlp95_3 (by omega))); (try (have i_xlp95_2 := Imp.go xlp95_2 (by omega))); (try (have i_xlp95_2 := Imp.go xlp95_2 (by omega))); (try (have i_xlp95_3 := Imp.go xlp95_3 (by omega))); (try (have i_xlp95_7 := Imp.go xlp95_7 (by omega))); omega)), (Or.inr ⟨(show 1 ≤ (V204 0 8).toInt from by omega), (fun k => by rw [show (V204 0 8).toInt = (V92 0 8).toInt from by omega]; exact hq k)⟩), rw212, rw213, rw214, rw215, rw216, rw217⟩, by rw [ht]; exact hP, va_K.moved hW.alike hK, hD⟩, hS.F ht⟩) hS.2.2 dX12_toldComponent_336
                                  · skip
                                    have f218 : ((V92 0 8)).toInt = 0 := b_eq rfl (by decide) c197
                                    exfalso; first | omega | ((try (have i_xlp95_7 := Imp.go xlp95_7 (by omega))); (try (have i_xlp95_3 := Imp.go xlp95_3 (by omega))); (try (have i_xlp95_2 := Imp.go xlp95_2 (by omega))); (try (have i_xlp95_2 := Imp.go xlp95_2 (by omega))); (try (have i_xlp95_3 := Imp.go xlp95_3 (by omega))); (try (have i_xlp95_7 := Imp.go xlp95_7 (by omega))); omega)
                            have pq219 : (V71 0 48).toInt = ((V 0 48)).toInt := congrArg Int32.toInt ((ajV71 0 48 rfl).trans ((up2_k hV64 (by decide)).trans ((up2_k hV63 (by decide)).trans ((up2_o hV62 (by decide)).trans ((up2_o hV61 (by decide)).trans ((up2_o hV60 (by decide)).trans ((ajV53 0 48 rfl).trans ((ajV47 0 48 rfl).trans ((ajV42 0 48 rfl).trans ((ajV29 0 48 rfl).trans (ajV13 0 48 rfl)))))))))))
                            have pq220 : (V71 0 51).toInt = z5.toInt := congrArg Int32.toInt ((ajV71 0 51 rfl).trans ((up2_k hV64 (by decide)).trans (up2_s hV63)))
                            have pq221 : (V71 0 52).toInt = 0 := (congrArg Int32.toInt ((ajV71 0 52 rfl).trans (up2_s hV64))).trans (by decide)
                            have rw222 : RoV 19 bq V V71 := (fun k hk => ((ajV71 19 k rfl).trans ((up2_o hV64 (by decide)).trans ((up2_o hV63 (by decide)).trans ((up2_o hV62 (by decide)).trans ((up2_o hV61 (by decide)).trans ((up2_o hV60 (by decide)).trans (xJ52_5 k hk))))))))
                            have rw223 : RoV 35 bq V V71 := (fun k hk => ((ajV71 35 k rfl).trans ((up2_o hV64 (by decide)).trans ((up2_o hV63 (by decide)).trans ((up2_o hV62 (by decide)).trans ((up2_o hV61 (by decide)).trans ((up2_o hV60 (by decide)).trans (xJ52_6 k hk))))))))
                            have rw224 : RoV 37 bq V V71 := (fun k hk => ((ajV71 37 k rfl).trans ((up2_o hV64 (by decide)).trans ((up2_o hV63 (by decide)).trans ((up2_o hV62 (by decide)).trans ((up2_o hV61 (by decide)).trans ((up2_o hV60 (by decide)).trans (xJ52_7 k hk))))))))
                            have rw225 : RoL 20 24 bq L L54 := (fun k hk => (xJ52_8 k hk))
                            have rw226 : RoL 36 20 bq L L54 := (fun k hk => (xJ52_9 k hk))
                            have rw227 : RoL 38 20 bq L L54 := (fun k hk => (xJ52_10 k hk))
                            exact lp95 ((((gn : Int) + 1) + 1 : Int).toNat) ((gn : Int) + 1) V71 L54 H locs ls (Or.inl ⟨W0 rl81, (nmS (nx s1 1) m1 c1 wx32 [wv1, ws1, ra1, ca1]), hr82, rl81, gp7, ow84, tb7, wr7, cn89⟩) (show 0 ≤ ((gn : Int) + 1) from by omega) (Imp.mk (fun hp => have hp : (V71 0 8).toInt = 0 := hp; (show (gn : Int) - (V71 0 7).toInt < ((gn : Int) + 1) from by omega))) (Imp.mk (fun hp => have hp : (V71 0 8).toInt = 0 := hp; (show (V71 0 48).toInt ≤ 2 * (V71 0 7).toInt from by omega))) (show (V71 0 48).toInt ≤ 8120 from by omega) (show (V71 0 51).toInt = z5.toInt from by omega) (show (V71 0 52).toInt = 0 from by omega) (Imp.mk (fun hp => have hp : 1 ≤ (V71 0 8).toInt := hp; (show (V71 0 8).toInt = (V71 0 8).toInt from by omega))) rw222 rw223 rw224 rw225 rw226 rw227 (by omega) alL54 agr.rf hMV71 hP hD hS (lv_sub hl [0, 1, 2, 3] rfl)
                          · skip
                            have kd228 : gT.1 (s1.1 0) ≠ 123 := fun h9 => h74 (h9.trans (by decide))
                            have hb229 : ∀ k, Rc gT (Crun gs (Istmt :: k)) (Cbad (V71 0 8).toInt) := fun k => Rc.go1 (h1 k) ((tk_n kd228).trans (fl_eq rfl rl75))
                            have r230 : 0 ≤ ((V71 0 8)).toInt ∧ ((V71 0 8)).toInt ≤ 70000 := hMV71 0 8
                            have lp234 : ∀ (fulp234 : Nat) (g233 : Int) (V231 : Vf) (L232 : Lf) (H : Heap) (locs : List Loc) (ls : Array Slot), (((V231 0 8).toInt = 0 ∧ ∃ s1 : St, (∀ k, Rc gT (Crun gs (Istmt :: k)) (Crun s1 (Imember :: k))) ∧ RelM V231 L232 bq gn gT s1 (gs.2.1 2) ∧ gs.1 0 + 1 ≤ s1.1 0 ∧ OWm V231 gc s1 ∧ s1.2.1 2 = gs.2.1 2 ++ [wx32] ∧ s1.2.2.1 = gs.2.2.1 ∧ CNm V231 bq s1) ∨ (1 ≤ (V231 0 8).toInt ∧ ∀ k, Rc gT (Crun gs (Istmt :: k)) (Cbad (V231 0 8).toInt))) → 0 ≤ g233 → Imp ((V231 0 8).toInt = 0) ((gn : Int) - (V231 0 7).toInt < g233) → Imp ((V231 0 8).toInt = 0) ((V231 0 48).toInt ≤ 2 * (V231 0 7).toInt) → (V231 0 48).toInt ≤ 8120 → (V231 0 51).toInt = z5.toInt → (V231 0 52).toInt = 0 → Imp (1 ≤ (V71 0 8).toInt) ((V231 0 8).toInt = (V71 0 8).toInt) → (RoV 19 bq V V231) → (RoV 35 bq V V231) → (RoV 37 bq V V231) → (RoL 20 24 bq L L232) → (RoL 36 20 bq L L232) → (RoL 38 20 bq L L232) → g233 < (fulp234 : Int) → agL [15, 19, 20, 21, 22, 23, 24, 25, 26, 27, 28, 29, 30, 31, 32, 33, 34, 35, 36, 37, 38, 45, 46, 47, 53] L L232 → agr [(0, 7), (0, 8), (0, 48), (0, 50)] [27, 28, 29, 30, 31, 32, 33, 34, 35, 36, 37, 38, 45, 46, 47] V71 V231 → rgd bM V231 → va_P D vwCl (mw ad kk ks.1 V231 L232) H → va_D A (mw ad kk ks.1 V231 L232) → va_S A s.heap H locs → lv_has ls 5 [(4, .int y46), (2, .long z25), (1, .int z5), (0, .ref (ad 0))] → W p l e r_s_toldComponentA s m ([.ref (ad 0)] : List Value).toArray below meth c H locs 0 0 (MQ below (q_s_toldComponentA D ks ad kk V L  bq gn gT gs A) ([.ref (ad 0)] : List Value).toArray s 0 0 A) (F0 m 299 ls []) := by
                              (try clear hb229); (try clear kd228); (try clear rl65); (try clear fz57); (try clear fz39); (try clear ps38); (try clear hr37); (try clear fz21); (try clear ps20); (try clear hr19); (try clear hr18)
                              intro fulp234
                              induction fulp234 with
                              | zero =>
                                intro g233 V231 L232 H locs ls xlp234_0 xlp234_1 xlp234_2 xlp234_3 xlp234_4 xlp234_5 xlp234_6 xlp234_7 xlp234_8 xlp234_9 xlp234_10 xlp234_11 xlp234_12 xlp234_13 hn alL232 ajV231 hMV231 hP hD hS hl
                                exfalso; omega
                              | succ fulp234 ihlp234 =>
                                intro g233 V231 L232 H locs ls xlp234_0 xlp234_1 xlp234_2 xlp234_3 xlp234_4 xlp234_5 xlp234_6 xlp234_7 xlp234_8 xlp234_9 xlp234_10 xlp234_11 xlp234_12 xlp234_13 hn alL232 ajV231 hMV231 hP hD hS hl
                                have agV231 : agr [(0, 7), (0, 8), (0, 48), (0, 50), (0, 51), (0, 52)] [15, 19, 20, 21, 22, 23, 24, 25, 26, 27, 28, 29, 30, 31, 32, 33, 34, 35, 36, 37, 38, 45, 46, 47, 53] V V231 := agV71.tr ajV231 (by decide) (by decide)
                                have r235 : 0 ≤ ((V231 0 8)).toInt ∧ ((V231 0 8)).toInt ≤ 70000 := hMV231 0 8
                                have r236 : 0 ≤ ((V231 0 48)).toInt ∧ ((V231 0 48)).toInt ≤ 10000 := hMV231 0 48
                                have pq237 : (V231 0 51).toInt = z5.toInt := congrArg Int32.toInt ((ajV231 0 51 rfl).trans ((ajV71 0 51 rfl).trans ((up2_k hV64 (by decide)).trans (up2_s hV63))))
                                have pq238 : (V231 0 52).toInt = 0 := (congrArg Int32.toInt ((ajV231 0 52 rfl).trans ((ajV71 0 52 rfl).trans (up2_s hV64)))).trans (by decide)
                                refine lv_aload_n hx hb dX12_toldComponent_299 rfl (lv_at hl 3 rfl) ?_
                                rcases xlp234_0 with ⟨f8, s1, hq, rq, gq1, oq, tq, wq, nq⟩ | ⟨f8, hq⟩
                                · skip
                                  exfalso; first | omega | ((try (have i_xlp234_7 := Imp.go xlp234_7 (by omega))); (try (have i_xlp234_3 := Imp.go xlp234_3 (by omega))); (try (have i_xlp234_2 := Imp.go xlp234_2 (by omega))); (try (have i_xlp234_2 := Imp.go xlp234_2 (by omega))); (try (have i_xlp234_3 := Imp.go xlp234_3 (by omega))); (try (have i_xlp234_7 := Imp.go xlp234_7 (by omega))); omega)
                                · skip
                                  refine va_get (D := D) (ci := 12) (v := .int (V231 0 8)) (C := RX12) (T := TX12) (N := 100) hx hb hg inX12 hown hK hP 0 rfl rfl 8 (by decide) (hg _ w1718) (fun _ h9 => h9) rfl dX12_toldComponent_300 ?_
                                  refine lv_if_ne (tgt := 323) hx hb dX12_toldComponent_303 (by decide) (fun c239 => ?_) (fun c239 => ?_)
                                  · skip
                                    have f240 : ((V231 0 8)).toInt ≠ 0 := b_neq rfl (by decide) c239
                                    refine lv_aload_n hx hb dX12_toldComponent_323 rfl (lv_at hl 3 rfl) ?_
                                    refine lv_bipush (v := 125) hx hb dX12_toldComponent_324 (by decide) ?_
                                    have r241 : Int32.toInt 125 = 125 := by decide
                                    refine gA_void (gA_runV (As := [.int 125]) (rest := []) (ci := 12) (q0 := 0) hx hb hml hown hg hP hD hK hS hA hnw hgk (s_takeSignB l D ks H.size ad kk V231 L232 125 hMV231 (show 1 ≤ (V231 0 8).toInt from by first | omega | ((try (have i_xlp234_7 := Imp.go xlp234_7 (by omega))); (try (have i_xlp234_3 := Imp.go xlp234_3 (by omega))); (try (have i_xlp234_2 := Imp.go xlp234_2 (by omega))); (try (have i_xlp234_2 := Imp.go xlp234_2 (by omega))); (try (have i_xlp234_3 := Imp.go xlp234_3 (by omega))); (try (have i_xlp234_7 := Imp.go xlp234_7 (by omega))); omega))) w2079 w2081 w96 w172 w2082 rfl rfl hdV_yX12_takeSign ⟨Nat.le_of_ble_eq_true rfl, Nat.le_of_ble_eq_true rfl⟩ rfl hl.1 rfl (Nat.le_of_ble_eq_true rfl) dX12_toldComponent_326 ⟨Nat.le_of_ble_eq_true rfl, Nat.le_of_ble_eq_true rfl⟩) hP hD hK hS hA (fun u243 H locs w244 hP hD hK hS => ?_)
                                    obtain ⟨V246, L247⟩ := u243
                                    obtain ⟨hMV246, ajV246, axL247, t245⟩ := w244
                                    have axL247 : L232 = L247 := Eq.symm axL247
                                    subst axL247
                                    have hP : va_P D vwCl (mw ad kk ks.1 V246 L232) H := hP
                                    have hD : va_D A (mw ad kk ks.1 V246 L232) := hD
                                    have hMV246 : rgd bM V246 := hMV246
                                    have ajV246 : agr [(0, 7), (0, 8)] [] V231 V246 := ajV246
                                    have agV246 : agr [(0, 7), (0, 8), (0, 48), (0, 50), (0, 51), (0, 52)] [15, 19, 20, 21, 22, 23, 24, 25, 26, 27, 28, 29, 30, 31, 32, 33, 34, 35, 36, 37, 38, 45, 46, 47, 53] V V246 := agV231.tr ajV246 (by decide) (by decide)
                                    have t245 : (V246 0 8).toInt = (V231 0 8).toInt := t245
                                    have r248 : 0 ≤ ((V246 0 8)).toInt ∧ ((V246 0 8)).toInt ≤ 70000 := hMV246 0 8
                                    refine lv_aload_n hx hb dX12_toldComponent_329 rfl (lv_at hl 3 rfl) ?_
                                    refine va_get (D := D) (ci := 12) (v := .int (V246 0 8)) (C := RX12) (T := TX12) (N := 100) hx hb hg inX12 hown hK hP 0 rfl rfl 8 (by decide) (hg _ w1718) (fun _ h9 => h9) rfl dX12_toldComponent_330 ?_
                                    refine lv_if_le (tgt := 337) hx hb dX12_toldComponent_333 (by decide) (fun c249 => ?_) (fun c249 => ?_)
                                    · skip
                                      have f250 : ((V246 0 8)).toInt ≤ 0 := b_le rfl (by decide) c249
                                      exfalso; first | omega | ((try (have i_xlp234_7 := Imp.go xlp234_7 (by omega))); (try (have i_xlp234_3 := Imp.go xlp234_3 (by omega))); (try (have i_xlp234_2 := Imp.go xlp234_2 (by omega))); (try (have i_xlp234_2 := Imp.go xlp234_2 (by omega))); (try (have i_xlp234_3 := Imp.go xlp234_3 (by omega))); (try (have i_xlp234_7 := Imp.go xlp234_7 (by omega))); omega)
                                    · skip
                                      have f251 : 0 < ((V246 0 8)).toInt := b_nle rfl (by decide) c249
                                      have pq252 : (V246 0 48).toInt = ((V231 0 48)).toInt := congrArg Int32.toInt (ajV246 0 48 rfl)
                                      have pq253 : (V246 0 12).toInt = ((V 0 12)).toInt := congrArg Int32.toInt ((ajV246 0 12 rfl).trans ((ajV231 0 12 rfl).trans ((ajV71 0 12 rfl).trans ((up2_k hV64 (by decide)).trans ((up2_k hV63 (by decide)).trans ((up2_o hV62 (by decide)).trans ((up2_o hV61 (by decide)).trans ((up2_o hV60 (by decide)).trans ((ajV53 0 12 rfl).trans ((ajV47 0 12 rfl).trans ((ajV42 0 12 rfl).trans ((ajV29 0 12 rfl).trans (ajV13 0 12 rfl)))))))))))))
                                      have rw254 : RoV 19 bq V V246 := (fun k hk => ((ajV246 19 k rfl).trans (xlp234_8 k hk)))
                                      have rw255 : RoV 35 bq V V246 := (fun k hk => ((ajV246 35 k rfl).trans (xlp234_9 k hk)))
                                      have rw256 : RoV 37 bq V V246 := (fun k hk => ((ajV246 37 k rfl).trans (xlp234_10 k hk)))
                                      have rw257 : RoL 20 24 bq L L232 := (fun k hk => (xlp234_11 k hk))
                                      have rw258 : RoL 36 20 bq L L232 := (fun k hk => (xlp234_12 k hk))
                                      have rw259 : RoL 38 20 bq L L232 := (fun k hk => (xlp234_13 k hk))
                                      exact W.vret hx hb hr (fun t ht hW => ⟨⟨(V246, L232), rfl, ⟨hMV246, agV246, alL232, (Imp.mk (fun hp => have hp : (V246 0 8).toInt = 0 := hp; (show (V246 0 48).toInt ≤ 2 * (V246 0 7).toInt from by first | omega | ((try (have i_xlp234_7 := Imp.go xlp234_7 (by omega))); (try (have i_xlp234_3 := Imp.go xlp234_3 (by omega))); (try (have i_xlp234_2 := Imp.go xlp234_2 (by omega))); (try (have i_xlp234_2 := Imp.go xlp234_2 (by omega))); (try (have i_xlp234_3 := Imp.go xlp234_3 (by omega))); (try (have i_xlp234_7 := Imp.go xlp234_7 (by omega))); omega)))), (show (V246 0 48).toInt ≤ 8200 from by first | omega | ((try (have i_xlp234_7 := Imp.go xlp234_7 (by omega))); (try (have i_xlp234_3 := Imp.go xlp234_3 (by omega))); (try (have i_xlp234_2 := Imp.go xlp234_2 (by omega))); (try (have i_xlp234_2 := Imp.go xlp234_2 (by omega))); (try (have i_xlp234_3 := Imp.go xlp234_3 (by omega))); (try (have i_xlp234_7 := Imp.go xlp234_7 (by omega))); omega)), (show (V246 0 12).toInt = (V 0 12).toInt from by first | omega | ((try (have i_xlp234_7 := Imp.go xlp234_7 (by omega))); (try (have i_xlp234_3 := Imp.go xlp234_3 (by omega))); (try (have i_xlp234_2 := Imp.go xlp234_2 (by omega))); (try (have i_xlp234_2 := Imp.go xlp234_2 (by omega))); (try (have i_xlp234_3 := Imp.go xlp234_3 (by omega))); (try (have i_xlp234_7 := Imp.go xlp234_7 (by omega))); omega)), (Or.inr ⟨(show 1 ≤ (V246 0 8).toInt from by omega), (fun k => by rw [show (V246 0 8).toInt = (V231 0 8).toInt from by omega]; exact hq k)⟩), rw254, rw255, rw256, rw257, rw258, rw259⟩, by rw [ht]; exact hP, va_K.moved hW.alike hK, hD⟩, hS.F ht⟩) hS.2.2 dX12_toldComponent_336
                                  · skip
                                    have f260 : ((V231 0 8)).toInt = 0 := b_eq rfl (by decide) c239
                                    exfalso; first | omega | ((try (have i_xlp234_7 := Imp.go xlp234_7 (by omega))); (try (have i_xlp234_3 := Imp.go xlp234_3 (by omega))); (try (have i_xlp234_2 := Imp.go xlp234_2 (by omega))); (try (have i_xlp234_2 := Imp.go xlp234_2 (by omega))); (try (have i_xlp234_3 := Imp.go xlp234_3 (by omega))); (try (have i_xlp234_7 := Imp.go xlp234_7 (by omega))); omega)
                            have pq261 : (V71 0 48).toInt = ((V 0 48)).toInt := congrArg Int32.toInt ((ajV71 0 48 rfl).trans ((up2_k hV64 (by decide)).trans ((up2_k hV63 (by decide)).trans ((up2_o hV62 (by decide)).trans ((up2_o hV61 (by decide)).trans ((up2_o hV60 (by decide)).trans ((ajV53 0 48 rfl).trans ((ajV47 0 48 rfl).trans ((ajV42 0 48 rfl).trans ((ajV29 0 48 rfl).trans (ajV13 0 48 rfl)))))))))))
                            have pq262 : (V71 0 51).toInt = z5.toInt := congrArg Int32.toInt ((ajV71 0 51 rfl).trans ((up2_k hV64 (by decide)).trans (up2_s hV63)))
                            have pq263 : (V71 0 52).toInt = 0 := (congrArg Int32.toInt ((ajV71 0 52 rfl).trans (up2_s hV64))).trans (by decide)
                            have rw264 : RoV 19 bq V V71 := (fun k hk => ((ajV71 19 k rfl).trans ((up2_o hV64 (by decide)).trans ((up2_o hV63 (by decide)).trans ((up2_o hV62 (by decide)).trans ((up2_o hV61 (by decide)).trans ((up2_o hV60 (by decide)).trans (xJ52_5 k hk))))))))
                            have rw265 : RoV 35 bq V V71 := (fun k hk => ((ajV71 35 k rfl).trans ((up2_o hV64 (by decide)).trans ((up2_o hV63 (by decide)).trans ((up2_o hV62 (by decide)).trans ((up2_o hV61 (by decide)).trans ((up2_o hV60 (by decide)).trans (xJ52_6 k hk))))))))
                            have rw266 : RoV 37 bq V V71 := (fun k hk => ((ajV71 37 k rfl).trans ((up2_o hV64 (by decide)).trans ((up2_o hV63 (by decide)).trans ((up2_o hV62 (by decide)).trans ((up2_o hV61 (by decide)).trans ((up2_o hV60 (by decide)).trans (xJ52_7 k hk))))))))
                            have rw267 : RoL 20 24 bq L L54 := (fun k hk => (xJ52_8 k hk))
                            have rw268 : RoL 36 20 bq L L54 := (fun k hk => (xJ52_9 k hk))
                            have rw269 : RoL 38 20 bq L L54 := (fun k hk => (xJ52_10 k hk))
                            exact lp234 ((((gn : Int) + 1) + 1 : Int).toNat) ((gn : Int) + 1) V71 L54 H locs ls (Or.inr ⟨(show 1 ≤ (V71 0 8).toInt from by omega), hb229⟩) (show 0 ≤ ((gn : Int) + 1) from by omega) (Imp.mk (fun hp => have hp : (V71 0 8).toInt = 0 := hp; (show (gn : Int) - (V71 0 7).toInt < ((gn : Int) + 1) from by omega))) (Imp.mk (fun hp => have hp : (V71 0 8).toInt = 0 := hp; (show (V71 0 48).toInt ≤ 2 * (V71 0 7).toInt from by omega))) (show (V71 0 48).toInt ≤ 8120 from by omega) (show (V71 0 51).toInt = z5.toInt from by omega) (show (V71 0 52).toInt = 0 from by omega) (Imp.mk (fun hp => have hp : 1 ≤ (V71 0 8).toInt := hp; (show (V71 0 8).toInt = (V71 0 8).toInt from by omega))) rw264 rw265 rw266 rw267 rw268 rw269 (by omega) alL54 agr.rf hMV71 hP hD hS (lv_sub hl [0, 1, 2, 3] rfl)
                        · skip
                          have r270 : 0 ≤ ((V53 0 8)).toInt ∧ ((V53 0 8)).toInt ≤ 70000 := hMV53 0 8
                          refine lv_aload_n hx hb dX12_toldComponent_262 rfl (lv_at hl 3 rfl) ?_
                          refine va_get (D := D) (ci := 12) (v := .ref (ad 27)) (C := RX12) (T := TX12) (N := 100) hx hb hg inX12 hown hK hP 0 rfl rfl 27 (by decide) (hg _ w1737) (fun _ h9 => h9) rfl dX12_toldComponent_263 ?_
                          refine lv_iload_n hx hb dX12_toldComponent_266 rfl (lv_at hl 2 rfl) ?_
                          refine lv_iconst (v := 0) hx hb dX12_toldComponent_267 (by decide) ?_
                          refine va_iast (D := D) (i := z5) (x := 0) hx hb hK hP hD hS 20 19 rfl rfl (i_in (a := z5.toInt) rfl (by omega)) dX12_toldComponent_268 (fun H locs hP hD hS => ?_)
                          obtain ⟨V271, hV271⟩ : ∃ z, z = up2 V53 27 (Int32.toNatClampNeg z5) 0 := ⟨_, rfl⟩
                          have hP : va_P D vwCl (mw ad kk ks.1 V271 L54) H := by rw [hV271]; exact hP
                          have hD : va_D A (mw ad kk ks.1 V271 L54) := by rw [hV271]; exact hD
                          have hMV271 : rgd bM V271 := hMV53.put hV271 (show 0 ≤ Int32.toInt 0 ∧ Int32.toInt 0 ≤ 8 from by decide)
                          have agV271 : agr [(0, 7), (0, 8), (0, 48), (0, 50), (0, 51), (0, 52)] [15, 19, 20, 21, 22, 23, 24, 25, 26, 27, 28, 29, 30, 31, 32, 33, 34, 35, 36, 37, 38, 45, 46, 47, 53] V V271 := agV53.up hV271 rfl
                          refine lv_aload_n hx hb dX12_toldComponent_269 rfl (lv_at hl 3 rfl) ?_
                          refine va_get (D := D) (ci := 12) (v := .ref (ad 32)) (C := RX12) (T := TX12) (N := 100) hx hb hg inX12 hown hK hP 0 rfl rfl 32 (by decide) (hg _ w1742) (fun _ h9 => h9) rfl dX12_toldComponent_270 ?_
                          refine lv_iload_n hx hb dX12_toldComponent_273 rfl (lv_at hl 2 rfl) ?_
                          refine lv_iconst (v := (-1)) hx hb dX12_toldComponent_274 (by decide) ?_
                          refine va_iast (D := D) (i := z5) (x := (-1)) hx hb hK hP hD hS 25 24 rfl rfl (i_in (a := z5.toInt) rfl (by omega)) dX12_toldComponent_275 (fun H locs hP hD hS => ?_)
                          obtain ⟨V272, hV272⟩ : ∃ z, z = up2 V271 32 (Int32.toNatClampNeg z5) (-1) := ⟨_, rfl⟩
                          have hP : va_P D vwCl (mw ad kk ks.1 V272 L54) H := by rw [hV272]; exact hP
                          have hD : va_D A (mw ad kk ks.1 V272 L54) := by rw [hV272]; exact hD
                          have hMV272 : rgd bM V272 := hMV271.put hV272 (i_full _)
                          have agV272 : agr [(0, 7), (0, 8), (0, 48), (0, 50), (0, 51), (0, 52)] [15, 19, 20, 21, 22, 23, 24, 25, 26, 27, 28, 29, 30, 31, 32, 33, 34, 35, 36, 37, 38, 45, 46, 47, 53] V V272 := agV271.up hV272 rfl
                          refine lv_aload_n hx hb dX12_toldComponent_276 rfl (lv_at hl 3 rfl) ?_
                          refine va_get (D := D) (ci := 12) (v := .ref (ad 33)) (C := RX12) (T := TX12) (N := 100) hx hb hg inX12 hown hK hP 0 rfl rfl 33 (by decide) (hg _ w1743) (fun _ h9 => h9) rfl dX12_toldComponent_277 ?_
                          refine lv_iload_n hx hb dX12_toldComponent_280 rfl (lv_at hl 2 rfl) ?_
                          refine lv_iconst (v := (-1)) hx hb dX12_toldComponent_281 (by decide) ?_
                          refine va_iast (D := D) (i := z5) (x := (-1)) hx hb hK hP hD hS 26 25 rfl rfl (i_in (a := z5.toInt) rfl (by omega)) dX12_toldComponent_282 (fun H locs hP hD hS => ?_)
                          obtain ⟨V273, hV273⟩ : ∃ z, z = up2 V272 33 (Int32.toNatClampNeg z5) (-1) := ⟨_, rfl⟩
                          have hP : va_P D vwCl (mw ad kk ks.1 V273 L54) H := by rw [hV273]; exact hP
                          have hD : va_D A (mw ad kk ks.1 V273 L54) := by rw [hV273]; exact hD
                          have hMV273 : rgd bM V273 := hMV272.put hV273 (i_full _)
                          have agV273 : agr [(0, 7), (0, 8), (0, 48), (0, 50), (0, 51), (0, 52)] [15, 19, 20, 21, 22, 23, 24, 25, 26, 27, 28, 29, 30, 31, 32, 33, 34, 35, 36, 37, 38, 45, 46, 47, 53] V V273 := agV272.up hV273 rfl
                          refine lv_aload_n hx hb dX12_toldComponent_283 rfl (lv_at hl 3 rfl) ?_
                          refine lv_iload_n hx hb dX12_toldComponent_284 rfl (lv_at hl 2 rfl) ?_
                          refine va_put (D := D) (ci := 12) (v := .int z5) (ty := tyX12 51) (C := RX12) (T := TX12) (N := 100) hx hb hg inX12 tyX12 tyX12_ok nmX12 hown hK hP hD hS 0 rfl rfl 51 (by decide) (hg _ w1761) (fun _ h9 => h9) rfl (tyX12_ok 51 (by decide)) rfl rfl (Nat.le_of_ble_eq_true rfl) dX12_toldComponent_285 (fun H locs hP hD hS => ?_)
                          obtain ⟨V274, hV274⟩ : ∃ z, z = up2 V273 0 51 z5 := ⟨_, rfl⟩
                          have hP : va_P D vwCl (mw ad kk ks.1 V274 L54) H := by rw [hV274]; exact hP
                          have hD : va_D A (mw ad kk ks.1 V274 L54) := by rw [hV274]; exact hD
                          have hMV274 : rgd bM V274 := hMV273.put hV274 (show (-1) ≤ z5.toInt ∧ z5.toInt ≤ 47 from by omega)
                          have agV274 : agr [(0, 7), (0, 8), (0, 48), (0, 50), (0, 51), (0, 52)] [15, 19, 20, 21, 22, 23, 24, 25, 26, 27, 28, 29, 30, 31, 32, 33, 34, 35, 36, 37, 38, 45, 46, 47, 53] V V274 := agV273.up hV274 rfl
                          refine lv_aload_n hx hb dX12_toldComponent_288 rfl (lv_at hl 3 rfl) ?_
                          refine lv_iconst (v := 0) hx hb dX12_toldComponent_289 (by decide) ?_
                          refine va_put (D := D) (ci := 12) (v := .int 0) (ty := tyX12 52) (C := RX12) (T := TX12) (N := 100) hx hb hg inX12 tyX12 tyX12_ok nmX12 hown hK hP hD hS 0 rfl rfl 52 (by decide) (hg _ w1762) (fun _ h9 => h9) rfl (tyX12_ok 52 (by decide)) rfl rfl (Nat.le_of_ble_eq_true rfl) dX12_toldComponent_290 (fun H locs hP hD hS => ?_)
                          obtain ⟨V275, hV275⟩ : ∃ z, z = up2 V274 0 52 0 := ⟨_, rfl⟩
                          have hP : va_P D vwCl (mw ad kk ks.1 V275 L54) H := by rw [hV275]; exact hP
                          have hD : va_D A (mw ad kk ks.1 V275 L54) := by rw [hV275]; exact hD
                          have hMV275 : rgd bM V275 := hMV274.put hV275 (by decide)
                          have agV275 : agr [(0, 7), (0, 8), (0, 48), (0, 50), (0, 51), (0, 52)] [15, 19, 20, 21, 22, 23, 24, 25, 26, 27, 28, 29, 30, 31, 32, 33, 34, 35, 36, 37, 38, 45, 46, 47, 53] V V275 := agV274.up hV275 rfl
                          refine lv_aload_n hx hb dX12_toldComponent_293 rfl (lv_at hl 3 rfl) ?_
                          refine lv_bipush (v := 123) hx hb dX12_toldComponent_294 (by decide) ?_
                          have r276 : Int32.toInt 123 = 123 := by decide
                          have pq277 : (V275 0 8).toInt = ((V53 0 8)).toInt := congrArg Int32.toInt ((up2_k hV275 (by decide)).trans ((up2_k hV274 (by decide)).trans ((up2_o hV273 (by decide)).trans ((up2_o hV272 (by decide)).trans (up2_o hV271 (by decide))))))
                          refine gA_void (gA_runV (As := [.int 123]) (rest := []) (ci := 12) (q0 := 0) hx hb hml hown hg hP hD hK hS hA hnw hgk (s_takeSignB l D ks H.size ad kk V275 L54 123 hMV275 (show 1 ≤ (V275 0 8).toInt from by omega)) w2079 w2081 w96 w172 w2082 rfl rfl hdV_yX12_takeSign ⟨Nat.le_of_ble_eq_true rfl, Nat.le_of_ble_eq_true rfl⟩ rfl hl.1 rfl (Nat.le_of_ble_eq_true rfl) dX12_toldComponent_296 ⟨Nat.le_of_ble_eq_true rfl, Nat.le_of_ble_eq_true rfl⟩) hP hD hK hS hA (fun u279 H locs w280 hP hD hK hS => ?_)
                          obtain ⟨V282, L283⟩ := u279
                          obtain ⟨hMV282, ajV282, axL283, t281⟩ := w280
                          have axL283 : L54 = L283 := Eq.symm axL283
                          subst axL283
                          have hP : va_P D vwCl (mw ad kk ks.1 V282 L54) H := hP
                          have hD : va_D A (mw ad kk ks.1 V282 L54) := hD
                          have hMV282 : rgd bM V282 := hMV282
                          have ajV282 : agr [(0, 7), (0, 8)] [] V275 V282 := ajV282
                          have agV282 : agr [(0, 7), (0, 8), (0, 48), (0, 50), (0, 51), (0, 52)] [15, 19, 20, 21, 22, 23, 24, 25, 26, 27, 28, 29, 30, 31, 32, 33, 34, 35, 36, 37, 38, 45, 46, 47, 53] V V282 := agV275.tr ajV282 (by decide) (by decide)
                          have t281 : (V282 0 8).toInt = (V275 0 8).toInt := t281
                          have r284 : 0 ≤ ((V282 0 8)).toInt ∧ ((V282 0 8)).toInt ≤ 70000 := hMV282 0 8
                          have lp288 : ∀ (fulp288 : Nat) (g287 : Int) (V285 : Vf) (L286 : Lf) (H : Heap) (locs : List Loc) (ls : Array Slot), (((V285 0 8).toInt = 0 ∧ ∃ s1 : St, (∀ k, Rc gT (Crun gs (Istmt :: k)) (Crun s1 (Imember :: k))) ∧ RelM V285 L286 bq gn gT s1 (gs.2.1 2) ∧ gs.1 0 + 1 ≤ s1.1 0 ∧ OWm V285 gc s1 ∧ s1.2.1 2 = gs.2.1 2 ++ [wx32] ∧ s1.2.2.1 = gs.2.2.1 ∧ CNm V285 bq s1) ∨ (1 ≤ (V285 0 8).toInt ∧ ∀ k, Rc gT (Crun gs (Istmt :: k)) (Cbad (V285 0 8).toInt))) → 0 ≤ g287 → Imp ((V285 0 8).toInt = 0) ((gn : Int) - (V285 0 7).toInt < g287) → Imp ((V285 0 8).toInt = 0) ((V285 0 48).toInt ≤ 2 * (V285 0 7).toInt) → (V285 0 48).toInt ≤ 8120 → (V285 0 51).toInt = z5.toInt → (V285 0 52).toInt = 0 → Imp (1 ≤ (V282 0 8).toInt) ((V285 0 8).toInt = (V282 0 8).toInt) → (RoV 19 bq V V285) → (RoV 35 bq V V285) → (RoV 37 bq V V285) → (RoL 20 24 bq L L286) → (RoL 36 20 bq L L286) → (RoL 38 20 bq L L286) → g287 < (fulp288 : Int) → agL [15, 19, 20, 21, 22, 23, 24, 25, 26, 27, 28, 29, 30, 31, 32, 33, 34, 35, 36, 37, 38, 45, 46, 47, 53] L L286 → agr [(0, 7), (0, 8), (0, 48), (0, 50)] [27, 28, 29, 30, 31, 32, 33, 34, 35, 36, 37, 38, 45, 46, 47] V282 V285 → rgd bM V285 → va_P D vwCl (mw ad kk ks.1 V285 L286) H → va_D A (mw ad kk ks.1 V285 L286) → va_S A s.heap H locs → lv_has ls 5 [(4, .int y46), (2, .long z25), (1, .int z5), (0, .ref (ad 0))] → W p l e r_s_toldComponentA s m ([.ref (ad 0)] : List Value).toArray below meth c H locs 0 0 (MQ below (q_s_toldComponentA D ks ad kk V L  bq gn gT gs A) ([.ref (ad 0)] : List Value).toArray s 0 0 A) (F0 m 299 ls []) := by
                            (try clear fz39); (try clear ps38); (try clear hr37); (try clear fz21); (try clear ps20); (try clear hr19); (try clear hr18)
                            intro fulp288
                            induction fulp288 with
                            | zero =>
                              intro g287 V285 L286 H locs ls xlp288_0 xlp288_1 xlp288_2 xlp288_3 xlp288_4 xlp288_5 xlp288_6 xlp288_7 xlp288_8 xlp288_9 xlp288_10 xlp288_11 xlp288_12 xlp288_13 hn alL286 ajV285 hMV285 hP hD hS hl
                              exfalso; omega
                            | succ fulp288 ihlp288 =>
                              intro g287 V285 L286 H locs ls xlp288_0 xlp288_1 xlp288_2 xlp288_3 xlp288_4 xlp288_5 xlp288_6 xlp288_7 xlp288_8 xlp288_9 xlp288_10 xlp288_11 xlp288_12 xlp288_13 hn alL286 ajV285 hMV285 hP hD hS hl
                              have agV285 : agr [(0, 7), (0, 8), (0, 48), (0, 50), (0, 51), (0, 52)] [15, 19, 20, 21, 22, 23, 24, 25, 26, 27, 28, 29, 30, 31, 32, 33, 34, 35, 36, 37, 38, 45, 46, 47, 53] V V285 := agV282.tr ajV285 (by decide) (by decide)
                              have r289 : 0 ≤ ((V285 0 8)).toInt ∧ ((V285 0 8)).toInt ≤ 70000 := hMV285 0 8
                              have r290 : 0 ≤ ((V285 0 48)).toInt ∧ ((V285 0 48)).toInt ≤ 10000 := hMV285 0 48
                              have pq291 : (V285 0 51).toInt = z5.toInt := congrArg Int32.toInt ((ajV285 0 51 rfl).trans ((ajV282 0 51 rfl).trans ((up2_k hV275 (by decide)).trans (up2_s hV274))))
                              have pq292 : (V285 0 52).toInt = 0 := (congrArg Int32.toInt ((ajV285 0 52 rfl).trans ((ajV282 0 52 rfl).trans (up2_s hV275)))).trans (by decide)
                              refine lv_aload_n hx hb dX12_toldComponent_299 rfl (lv_at hl 3 rfl) ?_
                              rcases xlp288_0 with ⟨f8, s1, hq, rq, gq1, oq, tq, wq, nq⟩ | ⟨f8, hq⟩
                              · skip
                                exfalso; first | omega | ((try (have i_xlp288_7 := Imp.go xlp288_7 (by omega))); (try (have i_xlp288_3 := Imp.go xlp288_3 (by omega))); (try (have i_xlp288_2 := Imp.go xlp288_2 (by omega))); (try (have i_xlp288_2 := Imp.go xlp288_2 (by omega))); (try (have i_xlp288_3 := Imp.go xlp288_3 (by omega))); (try (have i_xlp288_7 := Imp.go xlp288_7 (by omega))); omega)
                              · skip
                                refine va_get (D := D) (ci := 12) (v := .int (V285 0 8)) (C := RX12) (T := TX12) (N := 100) hx hb hg inX12 hown hK hP 0 rfl rfl 8 (by decide) (hg _ w1718) (fun _ h9 => h9) rfl dX12_toldComponent_300 ?_
                                refine lv_if_ne (tgt := 323) hx hb dX12_toldComponent_303 (by decide) (fun c293 => ?_) (fun c293 => ?_)
                                · skip
                                  have f294 : ((V285 0 8)).toInt ≠ 0 := b_neq rfl (by decide) c293
                                  refine lv_aload_n hx hb dX12_toldComponent_323 rfl (lv_at hl 3 rfl) ?_
                                  refine lv_bipush (v := 125) hx hb dX12_toldComponent_324 (by decide) ?_
                                  have r295 : Int32.toInt 125 = 125 := by decide
                                  refine gA_void (gA_runV (As := [.int 125]) (rest := []) (ci := 12) (q0 := 0) hx hb hml hown hg hP hD hK hS hA hnw hgk (s_takeSignB l D ks H.size ad kk V285 L286 125 hMV285 (show 1 ≤ (V285 0 8).toInt from by first | omega | ((try (have i_xlp288_7 := Imp.go xlp288_7 (by omega))); (try (have i_xlp288_3 := Imp.go xlp288_3 (by omega))); (try (have i_xlp288_2 := Imp.go xlp288_2 (by omega))); (try (have i_xlp288_2 := Imp.go xlp288_2 (by omega))); (try (have i_xlp288_3 := Imp.go xlp288_3 (by omega))); (try (have i_xlp288_7 := Imp.go xlp288_7 (by omega))); omega))) w2079 w2081 w96 w172 w2082 rfl rfl hdV_yX12_takeSign ⟨Nat.le_of_ble_eq_true rfl, Nat.le_of_ble_eq_true rfl⟩ rfl hl.1 rfl (Nat.le_of_ble_eq_true rfl) dX12_toldComponent_326 ⟨Nat.le_of_ble_eq_true rfl, Nat.le_of_ble_eq_true rfl⟩) hP hD hK hS hA (fun u297 H locs w298 hP hD hK hS => ?_)
                                  obtain ⟨V300, L301⟩ := u297
                                  obtain ⟨hMV300, ajV300, axL301, t299⟩ := w298
                                  have axL301 : L286 = L301 := Eq.symm axL301
                                  subst axL301
                                  have hP : va_P D vwCl (mw ad kk ks.1 V300 L286) H := hP
                                  have hD : va_D A (mw ad kk ks.1 V300 L286) := hD
                                  have hMV300 : rgd bM V300 := hMV300
                                  have ajV300 : agr [(0, 7), (0, 8)] [] V285 V300 := ajV300
                                  have agV300 : agr [(0, 7), (0, 8), (0, 48), (0, 50), (0, 51), (0, 52)] [15, 19, 20, 21, 22, 23, 24, 25, 26, 27, 28, 29, 30, 31, 32, 33, 34, 35, 36, 37, 38, 45, 46, 47, 53] V V300 := agV285.tr ajV300 (by decide) (by decide)
                                  have t299 : (V300 0 8).toInt = (V285 0 8).toInt := t299
                                  have r302 : 0 ≤ ((V300 0 8)).toInt ∧ ((V300 0 8)).toInt ≤ 70000 := hMV300 0 8
                                  refine lv_aload_n hx hb dX12_toldComponent_329 rfl (lv_at hl 3 rfl) ?_
                                  refine va_get (D := D) (ci := 12) (v := .int (V300 0 8)) (C := RX12) (T := TX12) (N := 100) hx hb hg inX12 hown hK hP 0 rfl rfl 8 (by decide) (hg _ w1718) (fun _ h9 => h9) rfl dX12_toldComponent_330 ?_
                                  refine lv_if_le (tgt := 337) hx hb dX12_toldComponent_333 (by decide) (fun c303 => ?_) (fun c303 => ?_)
                                  · skip
                                    have f304 : ((V300 0 8)).toInt ≤ 0 := b_le rfl (by decide) c303
                                    exfalso; first | omega | ((try (have i_xlp288_7 := Imp.go xlp288_7 (by omega))); (try (have i_xlp288_3 := Imp.go xlp288_3 (by omega))); (try (have i_xlp288_2 := Imp.go xlp288_2 (by omega))); (try (have i_xlp288_2 := Imp.go xlp288_2 (by omega))); (try (have i_xlp288_3 := Imp.go xlp288_3 (by omega))); (try (have i_xlp288_7 := Imp.go xlp288_7 (by omega))); omega)
                                  · skip
                                    have f305 : 0 < ((V300 0 8)).toInt := b_nle rfl (by decide) c303
                                    have pq306 : (V300 0 48).toInt = ((V285 0 48)).toInt := congrArg Int32.toInt (ajV300 0 48 rfl)
                                    have pq307 : (V300 0 12).toInt = ((V 0 12)).toInt := congrArg Int32.toInt ((ajV300 0 12 rfl).trans ((ajV285 0 12 rfl).trans ((ajV282 0 12 rfl).trans ((up2_k hV275 (by decide)).trans ((up2_k hV274 (by decide)).trans ((up2_o hV273 (by decide)).trans ((up2_o hV272 (by decide)).trans ((up2_o hV271 (by decide)).trans ((ajV53 0 12 rfl).trans ((ajV47 0 12 rfl).trans ((ajV42 0 12 rfl).trans ((ajV29 0 12 rfl).trans (ajV13 0 12 rfl)))))))))))))
                                    have rw308 : RoV 19 bq V V300 := (fun k hk => ((ajV300 19 k rfl).trans (xlp288_8 k hk)))
                                    have rw309 : RoV 35 bq V V300 := (fun k hk => ((ajV300 35 k rfl).trans (xlp288_9 k hk)))
                                    have rw310 : RoV 37 bq V V300 := (fun k hk => ((ajV300 37 k rfl).trans (xlp288_10 k hk)))
                                    have rw311 : RoL 20 24 bq L L286 := (fun k hk => (xlp288_11 k hk))
                                    have rw312 : RoL 36 20 bq L L286 := (fun k hk => (xlp288_12 k hk))
                                    have rw313 : RoL 38 20 bq L L286 := (fun k hk => (xlp288_13 k hk))
                                    exact W.vret hx hb hr (fun t ht hW => ⟨⟨(V300, L286), rfl, ⟨hMV300, agV300, alL286, (Imp.mk (fun hp => have hp : (V300 0 8).toInt = 0 := hp; (show (V300 0 48).toInt ≤ 2 * (V300 0 7).toInt from by first | omega | ((try (have i_xlp288_7 := Imp.go xlp288_7 (by omega))); (try (have i_xlp288_3 := Imp.go xlp288_3 (by omega))); (try (have i_xlp288_2 := Imp.go xlp288_2 (by omega))); (try (have i_xlp288_2 := Imp.go xlp288_2 (by omega))); (try (have i_xlp288_3 := Imp.go xlp288_3 (by omega))); (try (have i_xlp288_7 := Imp.go xlp288_7 (by omega))); omega)))), (show (V300 0 48).toInt ≤ 8200 from by first | omega | ((try (have i_xlp288_7 := Imp.go xlp288_7 (by omega))); (try (have i_xlp288_3 := Imp.go xlp288_3 (by omega))); (try (have i_xlp288_2 := Imp.go xlp288_2 (by omega))); (try (have i_xlp288_2 := Imp.go xlp288_2 (by omega))); (try (have i_xlp288_3 := Imp.go xlp288_3 (by omega))); (try (have i_xlp288_7 := Imp.go xlp288_7 (by omega))); omega)), (show (V300 0 12).toInt = (V 0 12).toInt from by first | omega | ((try (have i_xlp288_7 := Imp.go xlp288_7 (by omega))); (try (have i_xlp288_3 := Imp.go xlp288_3 (by omega))); (try (have i_xlp288_2 := Imp.go xlp288_2 (by omega))); (try (have i_xlp288_2 := Imp.go xlp288_2 (by omega))); (try (have i_xlp288_3 := Imp.go xlp288_3 (by omega))); (try (have i_xlp288_7 := Imp.go xlp288_7 (by omega))); omega)), (Or.inr ⟨(show 1 ≤ (V300 0 8).toInt from by omega), (fun k => by rw [show (V300 0 8).toInt = (V285 0 8).toInt from by omega]; exact hq k)⟩), rw308, rw309, rw310, rw311, rw312, rw313⟩, by rw [ht]; exact hP, va_K.moved hW.alike hK, hD⟩, hS.F ht⟩) hS.2.2 dX12_toldComponent_336
                                · skip
                                  have f314 : ((V285 0 8)).toInt = 0 := b_eq rfl (by decide) c293
                                  exfalso; first | omega | ((try (have i_xlp288_7 := Imp.go xlp288_7 (by omega))); (try (have i_xlp288_3 := Imp.go xlp288_3 (by omega))); (try (have i_xlp288_2 := Imp.go xlp288_2 (by omega))); (try (have i_xlp288_2 := Imp.go xlp288_2 (by omega))); (try (have i_xlp288_3 := Imp.go xlp288_3 (by omega))); (try (have i_xlp288_7 := Imp.go xlp288_7 (by omega))); omega)
                          have pq315 : (V282 0 48).toInt = ((V 0 48)).toInt := congrArg Int32.toInt ((ajV282 0 48 rfl).trans ((up2_k hV275 (by decide)).trans ((up2_k hV274 (by decide)).trans ((up2_o hV273 (by decide)).trans ((up2_o hV272 (by decide)).trans ((up2_o hV271 (by decide)).trans ((ajV53 0 48 rfl).trans ((ajV47 0 48 rfl).trans ((ajV42 0 48 rfl).trans ((ajV29 0 48 rfl).trans (ajV13 0 48 rfl)))))))))))
                          have pq316 : (V282 0 51).toInt = z5.toInt := congrArg Int32.toInt ((ajV282 0 51 rfl).trans ((up2_k hV275 (by decide)).trans (up2_s hV274)))
                          have pq317 : (V282 0 52).toInt = 0 := (congrArg Int32.toInt ((ajV282 0 52 rfl).trans (up2_s hV275))).trans (by decide)
                          have rw318 : RoV 19 bq V V282 := (fun k hk => ((ajV282 19 k rfl).trans ((up2_o hV275 (by decide)).trans ((up2_o hV274 (by decide)).trans ((up2_o hV273 (by decide)).trans ((up2_o hV272 (by decide)).trans ((up2_o hV271 (by decide)).trans (xJ52_5 k hk))))))))
                          have rw319 : RoV 35 bq V V282 := (fun k hk => ((ajV282 35 k rfl).trans ((up2_o hV275 (by decide)).trans ((up2_o hV274 (by decide)).trans ((up2_o hV273 (by decide)).trans ((up2_o hV272 (by decide)).trans ((up2_o hV271 (by decide)).trans (xJ52_6 k hk))))))))
                          have rw320 : RoV 37 bq V V282 := (fun k hk => ((ajV282 37 k rfl).trans ((up2_o hV275 (by decide)).trans ((up2_o hV274 (by decide)).trans ((up2_o hV273 (by decide)).trans ((up2_o hV272 (by decide)).trans ((up2_o hV271 (by decide)).trans (xJ52_7 k hk))))))))
                          have rw321 : RoL 20 24 bq L L54 := (fun k hk => (xJ52_8 k hk))
                          have rw322 : RoL 36 20 bq L L54 := (fun k hk => (xJ52_9 k hk))
                          have rw323 : RoL 38 20 bq L L54 := (fun k hk => (xJ52_10 k hk))
                          exact lp288 ((((gn : Int) + 1) + 1 : Int).toNat) ((gn : Int) + 1) V282 L54 H locs ls (Or.inr ⟨(show 1 ≤ (V282 0 8).toInt from by omega), (fun k => by rw [show (V282 0 8).toInt = (V53 0 8).toInt from by omega]; exact h1 k)⟩) (show 0 ≤ ((gn : Int) + 1) from by omega) (Imp.mk (fun hp => have hp : (V282 0 8).toInt = 0 := hp; (show (gn : Int) - (V282 0 7).toInt < ((gn : Int) + 1) from by omega))) (Imp.mk (fun hp => have hp : (V282 0 8).toInt = 0 := hp; (show (V282 0 48).toInt ≤ 2 * (V282 0 7).toInt from by omega))) (show (V282 0 48).toInt ≤ 8120 from by omega) (show (V282 0 51).toInt = z5.toInt from by omega) (show (V282 0 52).toInt = 0 from by omega) (Imp.mk (fun hp => have hp : 1 ≤ (V282 0 8).toInt := hp; (show (V282 0 8).toInt = (V282 0 8).toInt from by omega))) rw318 rw319 rw320 rw321 rw322 rw323 (by omega) alL54 agr.rf hMV282 hP hD hS (lv_sub hl [0, 1, 2, 3] rfl)
                      refine lv_aload_n hx hb dX12_toldComponent_112 rfl (lv_at hl 3 rfl) ?_
                      refine lv_iconst (v := 4) hx hb dX12_toldComponent_113 (by decide) ?_
                      have rl324 : RelM V47 L bq gn gT (nx (nx gs 1) 1) (gs.2.1 2) := RelM.ag rl34 (show agr [] [21, 34] V29 V47 from (agr.tr (agr.tr agr.rf ajV42 (by decide) (by decide)) ajV47 (by decide) (by decide))) (by decide) (show agL [] L L from agL.rf) (by decide)
                      have r325 : Int32.toInt 4 = 4 := by decide
                      refine gA_void (gA_runV (As := [.int 4]) (rest := []) (ci := 12) (q0 := 0) hx hb hml hown hg hP hD hK hS hA hnw hgk (s_takeWordA l D ks H.size ad kk V47 L 4 (bq) (gn) (gT) ((nx (nx gs 1) 1)) ((gs.2.1 2)) hMV47 (by decide) rl324) w2096 w2098 w100 w172 w2099 rfl rfl hdV_yX12_takeWord ⟨Nat.le_of_ble_eq_true rfl, Nat.le_of_ble_eq_true rfl⟩ rfl hl.1 rfl (Nat.le_of_ble_eq_true rfl) dX12_toldComponent_114 ⟨Nat.le_of_ble_eq_true rfl, Nat.le_of_ble_eq_true rfl⟩) hP hD hK hS hA (fun u327 H locs w328 hP hD hK hS => ?_)
                      obtain ⟨V330, L331⟩ := u327
                      obtain ⟨hMV330, ajV330, axL331, t329⟩ := w328
                      have axL331 : L = L331 := Eq.symm axL331
                      subst axL331
                      have hP : va_P D vwCl (mw ad kk ks.1 V330 L) H := hP
                      have hD : va_D A (mw ad kk ks.1 V330 L) := hD
                      have hMV330 : rgd bM V330 := hMV330
                      have ajV330 : agr [(0, 7), (0, 8)] [] V47 V330 := ajV330
                      have agV330 : agr [(0, 7), (0, 8), (0, 48), (0, 50), (0, 51), (0, 52)] [15, 19, 20, 21, 22, 23, 24, 25, 26, 27, 28, 29, 30, 31, 32, 33, 34, 35, 36, 37, 38, 45, 46, 47, 53] V V330 := agV47.tr ajV330 (by decide) (by decide)
                      have t329 : ((V330 0 8).toInt = 0 ∧ (gT).1 (((nx (nx gs 1) 1)).1 0) = 128 + (Int32.toInt 4) ∧ RelM V330 L (bq) (gn) (gT) (nx ((nx (nx gs 1) 1)) 1) ((gs.2.1 2))) ∨ (1 ≤ (V330 0 8).toInt ∧ (gT).1 (((nx (nx gs 1) 1)).1 0) ≠ 128 + (Int32.toInt 4) ∧ (V330 0 8).toInt = 1 + 16 * (gT).2.2 (((nx (nx gs 1) 1)).1 0)) := t329
                      rcases t329 with ⟨q332, h333, rl334⟩ | ⟨q332, h333, rl334⟩
                      · skip
                        have kd335 : gT.1 ((nx (nx gs 1) 1).1 0) = 132 := h333.trans (by decide)
                        have hr336 : ∀ k, Rc gT (Crun gs (Istmt :: k)) (Crun (nx (nx (nx gs 1) 1) 1) (Itypes 1 wx32 0 [] :: k)) := fun k => Rc.go1 (hr37 k) (tk_y kd335)
                        have ps337 : (nx (nx (nx gs 1) 1) 1).1 0 = (nx (nx gs 1) 1).1 0 + 1 := rfl
                        have fz338 := RelM.rg rl334
                        have r339 : 0 ≤ ((V330 0 8)).toInt ∧ ((V330 0 8)).toInt ≤ 70000 := hMV330 0 8
                        refine lv_aload_n hx hb dX12_toldComponent_117 rfl (lv_at hl 3 rfl) ?_
                        refine va_get (D := D) (ci := 12) (v := .int (V330 0 8)) (C := RX12) (T := TX12) (N := 100) hx hb hg inX12 hown hK hP 0 rfl rfl 8 (by decide) (hg _ w1718) (fun _ h9 => h9) rfl dX12_toldComponent_118 ?_
                        refine lv_if_ne (tgt := 133) hx hb dX12_toldComponent_121 (by decide) (fun c340 => ?_) (fun c340 => ?_)
                        · skip
                          have f341 : ((V330 0 8)).toInt ≠ 0 := b_neq rfl (by decide) c340
                          exfalso; omega
                        · skip
                          have f342 : ((V330 0 8)).toInt = 0 := b_eq rfl (by decide) c340
                          refine lv_aload_n hx hb dX12_toldComponent_124 rfl (lv_at hl 3 rfl) ?_
                          refine lv_aload_n hx hb dX12_toldComponent_125 rfl (lv_at hl 3 rfl) ?_
                          refine va_get (D := D) (ci := 12) (v := .ref (ad 21)) (C := RX12) (T := TX12) (N := 100) hx hb hg inX12 hown hK hP 0 rfl rfl 21 (by decide) (hg _ w1731) (fun _ h9 => h9) rfl dX12_toldComponent_126 ?_
                          refine lv_iload_n hx hb dX12_toldComponent_129 rfl (lv_at hl 2 rfl) ?_
                          have cn343 : CNm V330 bq gs := CNm.ag xlp43_1 (show agr [(0, 7), (0, 8)] [34] V42 V330 from (agr.tr (agr.tr agr.rf ajV47 (by decide) (by decide)) ajV330 (by decide) (by decide))) (by decide) keepC.rf
                          have cn344 : CNm V330 bq (nx (nx (nx gs 1) 1) 1) := CNm.mv cn343 (fun _ _ _ => rfl) (keepC.tr (keepC.tr (keepC.tr (keepC.rf : keepC gs gs) (keepS.c (keepS.n1 1))) (keepS.c (keepS.n1 1))) (keepS.c (keepS.n1 1)))
                          refine gA_void (gA_runV (As := [.ref (ad 21), .int z5]) (rest := []) (ci := 12) (q0 := 0) hx hb hml hown hg hP hD hK hS hA hnw hgk (s_takeTypesA21 l D ks H.size ad kk V330 L z5 (bq) (gn) (gT) ((nx (nx (nx gs 1) 1) 1)) ((gs.2.1 2)) (1) (wx32) (gc) hMV330 (by omega) rl334 (show z5.toInt = ((gc) : Int) from by omega) (show gc = 24 * bq + ((nx (nx (nx gs 1) 1) 1).2.1 2).length from by rw [((keepC.tr (keepC.tr (keepC.tr (keepC.rf : keepC gs gs) (keepS.c (keepS.n1 1))) (keepS.c (keepS.n1 1))) (keepS.c (keepS.n1 1)))).2 2 (by decide)]; exact hgc) cn344) w2059 w2061 w91 w172 w2062 rfl rfl hdV_yX12_takeTypes ⟨Nat.le_of_ble_eq_true rfl, Nat.le_of_ble_eq_true rfl⟩ rfl hl.1 rfl (Nat.le_of_ble_eq_true rfl) dX12_toldComponent_130 ⟨Nat.le_of_ble_eq_true rfl, Nat.le_of_ble_eq_true rfl⟩) hP hD hK hS hA (fun u346 H locs w347 hP hD hK hS => ?_)
                          obtain ⟨V349, L350⟩ := u346
                          obtain ⟨hMV349, ajV349, axL350, t348⟩ := w347
                          have axL350 : L = L350 := Eq.symm axL350
                          subst axL350
                          have hP : va_P D vwCl (mw ad kk ks.1 V349 L) H := hP
                          have hD : va_D A (mw ad kk ks.1 V349 L) := hD
                          have hMV349 : rgd bM V349 := hMV349
                          have ajV349 : agr [(0, 7), (0, 8)] [15, 21, 53] V330 V349 := ajV349
                          have agV349 : agr [(0, 7), (0, 8), (0, 48), (0, 50), (0, 51), (0, 52)] [15, 19, 20, 21, 22, 23, 24, 25, 26, 27, 28, 29, 30, 31, 32, 33, 34, 35, 36, 37, 38, 45, 46, 47, 53] V V349 := agV330.tr ajV349 (by decide) (by decide)
                          have t348 : RdTm (gT) ((nx (nx (nx gs 1) 1) 1)) (1) (wx32) (V349 0 8).toInt (fun s9 sn => RelM V349 L (bq) (gn) (gT) s9 ((gs.2.1 2)) ∧ keepS ((nx (nx (nx gs 1) 1) 1)) 1 s9 ∧ UNm 21 (gc) V330 V349 ((nx (nx (nx gs 1) 1) 1)).1 sn ∧ CNm V349 (bq) ((nx (nx (nx gs 1) 1) 1))) := t348
                          rcases t348 with ⟨q351, sx352, sn353, h354, rl355, kp356, un357, cn358⟩ | ⟨q351, h354⟩
                          · skip
                            have hr359 : ∀ k, Rc gT (Crun gs (Istmt :: k)) (Crun sx352 (ItyD 1 wx32 sn353 :: k)) := fun k => (hr336 k).tr (h354 (k))
                            have fz360 := RelM.rg rl355
                            have r361 : 0 ≤ ((V349 0 8)).toInt ∧ ((V349 0 8)).toInt ≤ 70000 := hMV349 0 8
                            have ps362 := (kp356).1
                            have cn363 : CNm V349 bq gs := CNm.mv cn358 (fun _ _ _ => rfl) (keepC.sy (keepC.tr (keepC.tr (keepC.tr (keepC.rf : keepC gs gs) (keepS.c (keepS.n1 1))) (keepS.c (keepS.n1 1))) (keepS.c (keepS.n1 1))))
                            refine lv_aload_n hx hb dX12_toldComponent_133 rfl (lv_at hl 3 rfl) ?_
                            refine va_get (D := D) (ci := 12) (v := .ref (ad 22)) (C := RX12) (T := TX12) (N := 100) hx hb hg inX12 hown hK hP 0 rfl rfl 22 (by decide) (hg _ w1732) (fun _ h9 => h9) rfl dX12_toldComponent_134 ?_
                            refine lv_iload_n hx hb dX12_toldComponent_137 rfl (lv_at hl 2 rfl) ?_
                            refine lv_aload_n hx hb dX12_toldComponent_138 rfl (lv_at hl 3 rfl) ?_
                            refine lv_bipush (v := 20) hx hb dX12_toldComponent_139 (by decide) ?_
                            refine lv_iconst (v := 4) hx hb dX12_toldComponent_141 (by decide) ?_
                            have hr364 : ∀ k, Rc gT (Crun gs (Istmt :: k)) (Crun sx352 (Iscope wx32 sn353 :: k)) := fun k => Rc.go1 (hr359 k) (td_1 wx32 sn353)
                            have r365 : Int32.toInt 20 = 20 := by decide
                            refine gA_int (gA_runV (As := [.int 20, .int 4]) (rest := [.int z5, .ref (ad 22)]) (ci := 12) (q0 := 0) hx hb hml hown hg hP hD hK hS hA hnw hgk (s_oneOfA l D ks H.size ad kk V349 L 20 4 (bq) (gn) (gT) (sx352) ((gs.2.1 2)) hMV349 (by decide) (by decide) rl355 (show (Int32.toInt 20) + (Int32.toInt 4) ≤ 28 from by omega)) w2100 w2102 w101 w172 w2103 rfl rfl hdV_yX12_oneOf ⟨Nat.le_of_ble_eq_true rfl, Nat.le_of_ble_eq_true rfl⟩ rfl hl.1 rfl (Nat.le_of_ble_eq_true rfl) dX12_toldComponent_142 ⟨Nat.le_of_ble_eq_true rfl, Nat.le_of_ble_eq_true rfl⟩) hP hD hK hS hA (fun z366 u367 H locs w368 hP hD hK hS => ?_)
                            obtain ⟨V370, L371⟩ := u367
                            obtain ⟨hMV370, ajV370, axL371, rgz366, t369⟩ := w368
                            have axL371 : L = L371 := Eq.symm axL371
                            subst axL371
                            have hP : va_P D vwCl (mw ad kk ks.1 V370 L) H := hP
                            have hD : va_D A (mw ad kk ks.1 V370 L) := hD
                            have hMV370 : rgd bM V370 := hMV370
                            have ajV370 : agr [(0, 7), (0, 8)] [] V349 V370 := ajV370
                            have agV370 : agr [(0, 7), (0, 8), (0, 48), (0, 50), (0, 51), (0, 52)] [15, 19, 20, 21, 22, 23, 24, 25, 26, 27, 28, 29, 30, 31, 32, 33, 34, 35, 36, 37, 38, 45, 46, 47, 53] V V370 := agV349.tr ajV370 (by decide) (by decide)
                            have rgz366 : 0 ≤ z366.toInt ∧ z366.toInt ≤ 3 := rgz366
                            have t369 : ((V370 0 8).toInt = 0 ∧ (gT).1 ((sx352).1 0) = 128 + (Int32.toInt 20) + z366.toInt ∧ RelM V370 L (bq) (gn) (gT) (nx (sx352) 1) ((gs.2.1 2))) ∨ (1 ≤ (V370 0 8).toInt ∧ ((gT).1 ((sx352).1 0) < 128 + (Int32.toInt 20) ∨ 128 + (Int32.toInt 20) + (Int32.toInt 4) ≤ (gT).1 ((sx352).1 0)) ∧ (V370 0 8).toInt = 1 + 16 * (gT).2.2 ((sx352).1 0)) := t369
                            rcases t369 with ⟨q372, h373, rl374⟩ | ⟨q372, h373, rl374⟩
                            · skip
                              have hr375 : ∀ k, Rc gT (Crun gs (Istmt :: k)) (Crun (scopeS sx352) (IcalledH (msk sx352.1 sn353) (gT.1 (sx352.1 0) - 148) wx32 :: k)) := fun k => Rc.go1 (hr364 k) (sc_y wx32 sn353 (by omega))
                              have sv376 : z366.toInt = (((gT.1 (sx352.1 0) - 148).toNat : Nat) : Int) := by omega
                              have rl377 : RelM V370 L bq gn gT (scopeS sx352) (gs.2.1 2) := RelM.sc rl374
                              have fz378 := RelM.rg rl377
                              have r379 : 0 ≤ ((V370 0 8)).toInt ∧ ((V370 0 8)).toInt ≤ 70000 := hMV370 0 8
                              have ps380 : (scopeS sx352).1 0 = sx352.1 0 + 1 := rfl
                              refine va_iast (D := D) (i := z5) (x := z366) hx hb hK hP hD hS 15 14 rfl rfl (i_in (a := z5.toInt) rfl (by omega)) dX12_toldComponent_145 (fun H locs hP hD hS => ?_)
                              obtain ⟨V381, hV381⟩ : ∃ z, z = up2 V370 22 (Int32.toNatClampNeg z5) z366 := ⟨_, rfl⟩
                              have hP : va_P D vwCl (mw ad kk ks.1 V381 L) H := by rw [hV381]; exact hP
                              have hD : va_D A (mw ad kk ks.1 V381 L) := by rw [hV381]; exact hD
                              have hMV381 : rgd bM V381 := hMV370.put hV381 (i_full _)
                              have agV381 : agr [(0, 7), (0, 8), (0, 48), (0, 50), (0, 51), (0, 52)] [15, 19, 20, 21, 22, 23, 24, 25, 26, 27, 28, 29, 30, 31, 32, 33, 34, 35, 36, 37, 38, 45, 46, 47, 53] V V381 := agV370.up hV381 rfl
                              have J382 : ∀ (V383 : Vf) (L384 : Lf) (H : Heap) (locs : List Loc) (ls : Array Slot), agL [15, 19, 20, 21, 22, 23, 24, 25, 26, 27, 28, 29, 30, 31, 32, 33, 34, 35, 36, 37, 38, 45, 46, 47, 53] L L384 → agr [(0, 7), (0, 8)] [23, 24, 35, 36, 37, 38] V381 V383 → rgd bM V383 → (((V383 0 8).toInt = 0 ∧ ∃ (s1 s0 : St) (m1 : Nat) (c1 : Int) (ca1 ra1 : Nat), (∀ k, Rc gT (Crun gs (Istmt :: k)) (Crun s1 (IwhenI m1 c1 (wx32) [ra1, ca1] :: k))) ∧ RelM V383 L384 bq gn gT s1 (gs.2.1 2) ∧ keepS (scopeS s0) 0 s1 ∧ s1.2.1 2 = gs.2.1 2 ∧ s1.2.2.1 = gs.2.2.1 ∧ gs.1 0 + 1 ≤ s1.1 0 ∧ keepC gs s1 ∧ BTm V383 21 gc m1 ∧ (V383 22 gc).toInt = ((c1.toNat : Nat) : Int) ∧ (V383 23 gc).toInt + 1 = ((ca1 : Nat) : Int) ∧ (V383 24 gc).toInt = ((ra1 : Nat) : Int)) ∨ (1 ≤ (V383 0 8).toInt ∧ ∀ k, Rc gT (Crun gs (Istmt :: k)) (Cbad (V383 0 8).toInt))) → ((V383 0 8).toInt = 0 → CNm V383 bq gs) → (V383 0 48).toInt ≤ 8000 → (V383 0 48).toInt = (V 0 48).toInt → (V383 0 12).toInt = (V 0 12).toInt → (RoV 19 bq V V383) → (RoV 35 bq V V383) → (RoV 37 bq V V383) → (RoL 20 24 bq L L384) → (RoL 36 20 bq L L384) → (RoL 38 20 bq L L384) → va_P D vwCl (mw ad kk ks.1 V383 L384) H → va_D A (mw ad kk ks.1 V383 L384) → va_S A s.heap H locs → lv_has ls 5 [(4, .int y46), (2, .long z25), (1, .int z5), (0, .ref (ad 0))] → W p l e r_s_toldComponentA s m ([.ref (ad 0)] : List Value).toArray below meth c H locs 0 0 (MQ below (q_s_toldComponentA D ks ad kk V L  bq gn gT gs A) ([.ref (ad 0)] : List Value).toArray s 0 0 A) (F0 m 202 ls []) := by
                                as_aux_lemma =>
                                (try clear ps380); (try clear fz378); (try clear rl377); (try clear hr375); (try clear hr364); (try clear ps362); (try clear fz360); (try clear hr359); (try clear fz338); (try clear ps337); (try clear hr336); (try clear kd335); (try clear rl324); (try clear fz39); (try clear ps38); (try clear hr37); (try clear fz21); (try clear ps20); (try clear hr19); (try clear hr18)
                                intro V383 L384 H locs ls alL384 ajV383 hMV383 xJ382_0 xJ382_1 xJ382_2 xJ382_3 xJ382_4 xJ382_5 xJ382_6 xJ382_7 xJ382_8 xJ382_9 xJ382_10 hP hD hS hl
                                have agV383 : agr [(0, 7), (0, 8), (0, 48), (0, 50), (0, 51), (0, 52)] [15, 19, 20, 21, 22, 23, 24, 25, 26, 27, 28, 29, 30, 31, 32, 33, 34, 35, 36, 37, 38, 45, 46, 47, 53] V V383 := agV381.tr ajV383 (by decide) (by decide)
                                have pq385 : (V383 0 48).toInt = ((V 0 48)).toInt := congrArg Int32.toInt ((ajV383 0 48 rfl).trans ((up2_o hV381 (by decide)).trans ((ajV370 0 48 rfl).trans ((ajV349 0 48 rfl).trans ((ajV330 0 48 rfl).trans ((ajV47 0 48 rfl).trans ((ajV42 0 48 rfl).trans ((ajV29 0 48 rfl).trans (ajV13 0 48 rfl)))))))))
                                have pq386 : (V383 0 12).toInt = ((V 0 12)).toInt := congrArg Int32.toInt ((ajV383 0 12 rfl).trans ((up2_o hV381 (by decide)).trans ((ajV370 0 12 rfl).trans ((ajV349 0 12 rfl).trans ((ajV330 0 12 rfl).trans ((ajV47 0 12 rfl).trans ((ajV42 0 12 rfl).trans ((ajV29 0 12 rfl).trans (ajV13 0 12 rfl)))))))))
                                rcases xJ382_0 with ⟨f7, s1, s0, m1, c1, ca1, ra1, h1, r1, k1, t1, w1, g1, q1, b1, d1, e1, i1⟩ | ⟨f7, h1⟩
                                · skip
                                  have fz387 := RelM.rg r1
                                  have r388 : 0 ≤ ((V383 0 8)).toInt ∧ ((V383 0 8)).toInt ≤ 70000 := hMV383 0 8
                                  refine lv_aload_n hx hb dX12_toldComponent_202 rfl (lv_at hl 3 rfl) ?_
                                  refine va_get (D := D) (ci := 12) (v := .ref (ad 25)) (C := RX12) (T := TX12) (N := 100) hx hb hg inX12 hown hK hP 0 rfl rfl 25 (by decide) (hg _ w1735) (fun _ h9 => h9) rfl dX12_toldComponent_203 ?_
                                  refine lv_iload_n hx hb dX12_toldComponent_206 rfl (lv_at hl 2 rfl) ?_
                                  refine lv_iconst (v := (-1)) hx hb dX12_toldComponent_207 (by decide) ?_
                                  refine va_iast (D := D) (i := z5) (x := (-1)) hx hb hK hP hD hS 18 17 rfl rfl (i_in (a := z5.toInt) rfl (by omega)) dX12_toldComponent_208 (fun H locs hP hD hS => ?_)
                                  obtain ⟨V389, hV389⟩ : ∃ z, z = up2 V383 25 (Int32.toNatClampNeg z5) (-1) := ⟨_, rfl⟩
                                  have hP : va_P D vwCl (mw ad kk ks.1 V389 L384) H := by rw [hV389]; exact hP
                                  have hD : va_D A (mw ad kk ks.1 V389 L384) := by rw [hV389]; exact hD
                                  have hMV389 : rgd bM V389 := hMV383.put hV389 (show (-1) ≤ Int32.toInt (-1) ∧ Int32.toInt (-1) ≤ 11 from by decide)
                                  have agV389 : agr [(0, 7), (0, 8), (0, 48), (0, 50), (0, 51), (0, 52)] [15, 19, 20, 21, 22, 23, 24, 25, 26, 27, 28, 29, 30, 31, 32, 33, 34, 35, 36, 37, 38, 45, 46, 47, 53] V V389 := agV383.up hV389 rfl
                                  refine lv_aload_n hx hb dX12_toldComponent_209 rfl (lv_at hl 3 rfl) ?_
                                  refine lv_bipush (v := 7) hx hb dX12_toldComponent_210 (by decide) ?_
                                  have rl390 : RelM V389 L384 bq gn gT s1 (gs.2.1 2) := RelM.ag r1 (show agr [] [25] V383 V389 from (agr.up agr.rf hV389 rfl)) (by decide) (show agL [] L384 L384 from agL.rf) (by decide)
                                  have r391 : Int32.toInt 7 = 7 := by decide
                                  refine gA_int (gA_runV (As := [.int 7]) (rest := []) (ci := 12) (q0 := 0) hx hb hml hown hg hP hD hK hS hA hnw hgk (s_hasWordA l D ks H.size ad kk V389 L384 7 (bq) (gn) (gT) (s1) ((gs.2.1 2)) hMV389 (by decide) rl390) w2055 w2057 w90 w172 w2058 rfl rfl hdV_yX12_hasWord ⟨Nat.le_of_ble_eq_true rfl, Nat.le_of_ble_eq_true rfl⟩ rfl hl.1 rfl (Nat.le_of_ble_eq_true rfl) dX12_toldComponent_212 ⟨Nat.le_of_ble_eq_true rfl, Nat.le_of_ble_eq_true rfl⟩) hP hD hK hS hA (fun z392 u393 H locs w394 hP hD hK hS => ?_)
                                  obtain ⟨V396, L397⟩ := u393
                                  obtain ⟨hMV396, ajV396, axL397, rgz392, t395⟩ := w394
                                  have axL397 : L384 = L397 := Eq.symm axL397
                                  subst axL397
                                  have hP : va_P D vwCl (mw ad kk ks.1 V396 L384) H := hP
                                  have hD : va_D A (mw ad kk ks.1 V396 L384) := hD
                                  have hMV396 : rgd bM V396 := hMV396
                                  have ajV396 : agr [(0, 7)] [] V389 V396 := ajV396
                                  have agV396 : agr [(0, 7), (0, 8), (0, 48), (0, 50), (0, 51), (0, 52)] [15, 19, 20, 21, 22, 23, 24, 25, 26, 27, 28, 29, 30, 31, 32, 33, 34, 35, 36, 37, 38, 45, 46, 47, 53] V V396 := agV389.tr ajV396 (by decide) (by decide)
                                  have rgz392 : 0 ≤ z392.toInt ∧ z392.toInt ≤ 1 := rgz392
                                  have t395 : (z392.toInt = 1 ∧ (gT).1 ((s1).1 0) = 128 + (Int32.toInt 7) ∧ RelM V396 L384 (bq) (gn) (gT) (nx (s1) 1) ((gs.2.1 2))) ∨ (z392.toInt = 0 ∧ (gT).1 ((s1).1 0) ≠ 128 + (Int32.toInt 7) ∧ RelM V396 L384 (bq) (gn) (gT) (s1) ((gs.2.1 2))) := t395
                                  rcases t395 with ⟨q398, h399, rl400⟩ | ⟨q398, h399, rl400⟩
                                  · skip
                                    have kd401 : gT.1 (s1.1 0) = 135 := h399.trans (by decide)
                                    have hr402 : ∀ k, Rc gT (Crun gs (Istmt :: k)) (Crun (nx s1 1) (IwhenS m1 c1 wx32 [ra1, ca1] :: k)) := fun k => Rc.go1 (h1 k) (when_y m1 c1 wx32 [ra1, ca1] kd401)
                                    have ps403 : (nx s1 1).1 0 = s1.1 0 + 1 := rfl
                                    have fz404 := RelM.rg rl400
                                    have pq405 : (V396 0 8).toInt = ((V383 0 8)).toInt := congrArg Int32.toInt ((ajV396 0 8 rfl).trans (up2_o hV389 (by decide)))
                                    refine lv_if_eq (tgt := 262) hx hb dX12_toldComponent_215 (by decide) (fun c406 => ?_) (fun c406 => ?_)
                                    · skip
                                      have f407 : z392.toInt = 0 := b_eq rfl (by decide) c406
                                      exfalso; omega
                                    · skip
                                      have f408 : z392.toInt ≠ 0 := b_neq rfl (by decide) c406
                                      refine lv_aload_n hx hb dX12_toldComponent_218 rfl (lv_at hl 3 rfl) ?_
                                      refine va_get (D := D) (ci := 12) (v := .ref (ad 25)) (C := RX12) (T := TX12) (N := 100) hx hb hg inX12 hown hK hP 0 rfl rfl 25 (by decide) (hg _ w1735) (fun _ h9 => h9) rfl dX12_toldComponent_219 ?_
                                      refine lv_iload_n hx hb dX12_toldComponent_222 rfl (lv_at hl 2 rfl) ?_
                                      refine lv_aload_n hx hb dX12_toldComponent_223 rfl (lv_at hl 3 rfl) ?_
                                      refine lv_aload_n hx hb dX12_toldComponent_224 rfl (lv_at hl 3 rfl) ?_
                                      refine va_get (D := D) (ci := 12) (v := .ref (ad 17)) (C := RX12) (T := TX12) (N := 100) hx hb hg inX12 hown hK hP 0 rfl rfl 17 (by decide) (hg _ w1727) (fun _ h9 => h9) rfl dX12_toldComponent_225 ?_
                                      refine lv_bipush (v := 12) hx hb dX12_toldComponent_228 (by decide) ?_
                                      refine lv_aload_n hx hb dX12_toldComponent_230 rfl (lv_at hl 3 rfl) ?_
                                      refine va_get (D := D) (ci := 12) (v := .int (V396 0 12)) (C := RX12) (T := TX12) (N := 100) hx hb hg inX12 hown hK hP 0 rfl rfl 12 (by decide) (hg _ w1722) (fun _ h9 => h9) rfl dX12_toldComponent_231 ?_
                                      refine g_top (v := (V 0 12)) ((ajV396 0 12 rfl).trans ((up2_o hV389 (by decide)).trans ((ajV383 0 12 rfl).trans ((up2_o hV381 (by decide)).trans ((ajV370 0 12 rfl).trans ((ajV349 0 12 rfl).trans ((ajV330 0 12 rfl).trans ((ajV47 0 12 rfl).trans ((ajV42 0 12 rfl).trans ((ajV29 0 12 rfl).trans (ajV13 0 12 rfl))))))))))) ?_
                                      refine lv_imul hx hb dX12_toldComponent_234 ?_
                                      refine lv_topi (fun z409 ez409 => ?_)
                                      have hz409 : z409.toInt = 12 * ((V 0 12)).toInt := i_mul ez409 (by decide) rfl (by omega)
                                      refine lv_aload_n hx hb dX12_toldComponent_235 rfl (lv_at hl 3 rfl) ?_
                                      refine va_get (D := D) (ci := 12) (v := .ref (ad 16)) (C := RX12) (T := TX12) (N := 100) hx hb hg inX12 hown hK hP 0 rfl rfl 16 (by decide) (hg _ w1726) (fun _ h9 => h9) rfl dX12_toldComponent_236 ?_
                                      refine lv_aload_n hx hb dX12_toldComponent_239 rfl (lv_at hl 3 rfl) ?_
                                      refine va_get (D := D) (ci := 12) (v := .int (V396 0 12)) (C := RX12) (T := TX12) (N := 100) hx hb hg inX12 hown hK hP 0 rfl rfl 12 (by decide) (hg _ w1722) (fun _ h9 => h9) rfl dX12_toldComponent_240 ?_
                                      refine g_top (v := (V 0 12)) ((ajV396 0 12 rfl).trans ((up2_o hV389 (by decide)).trans ((ajV383 0 12 rfl).trans ((up2_o hV381 (by decide)).trans ((ajV370 0 12 rfl).trans ((ajV349 0 12 rfl).trans ((ajV330 0 12 rfl).trans ((ajV47 0 12 rfl).trans ((ajV42 0 12 rfl).trans ((ajV29 0 12 rfl).trans (ajV13 0 12 rfl))))))))))) ?_
                                      refine va_iald (D := D) (i := (V 0 12)) hx hb hK hP 9 8 rfl rfl (i_in (a := ((V 0 12)).toInt) rfl (by omega)) dX12_toldComponent_243 ?_
                                      refine g_top (v := (V 16 (Int32.toNatClampNeg (V 0 12)))) ((ajV396 16 (Int32.toNatClampNeg (V 0 12)) rfl).trans ((up2_o hV389 (by decide)).trans ((ajV383 16 (Int32.toNatClampNeg (V 0 12)) rfl).trans ((up2_o hV381 (by decide)).trans ((ajV370 16 (Int32.toNatClampNeg (V 0 12)) rfl).trans ((ajV349 16 (Int32.toNatClampNeg (V 0 12)) rfl).trans ((ajV330 16 (Int32.toNatClampNeg (V 0 12)) rfl).trans ((ajV47 16 (Int32.toNatClampNeg (V 0 12)) rfl).trans ((ajV42 16 (Int32.toNatClampNeg (V 0 12)) rfl).trans ((ajV29 16 (Int32.toNatClampNeg (V 0 12)) rfl).trans (ajV13 16 (Int32.toNatClampNeg (V 0 12)) rfl))))))))))) ?_
                                      have r410 : 0 ≤ ((V 16 (Int32.toNatClampNeg (V 0 12)))).toInt ∧ ((V 16 (Int32.toNatClampNeg (V 0 12)))).toInt ≤ 12 := hMV 16 (Int32.toNatClampNeg (V 0 12))
                                      have pq411 : (V396 16 bq).toInt = ((V 16 bq)).toInt := congrArg Int32.toInt ((ajV396 16 bq rfl).trans ((up2_o hV389 (by decide)).trans ((ajV383 16 bq rfl).trans ((up2_o hV381 (by decide)).trans ((ajV370 16 bq rfl).trans ((ajV349 16 bq rfl).trans ((ajV330 16 bq rfl).trans ((ajV47 16 bq rfl).trans ((ajV42 16 bq rfl).trans ((ajV29 16 bq rfl).trans (ajV13 16 bq rfl)))))))))))
                                      have r412 : 0 ≤ ((V 16 bq)).toInt ∧ ((V 16 bq)).toInt ≤ 12 := hMV 16 bq
                                      refine gA_int (gA_runV (As := [.ref (ad 17), .int z409, .int (V 16 (Int32.toNatClampNeg (V 0 12)))]) (rest := [.int z5, .ref (ad 25)]) (ci := 12) (q0 := 0) hx hb hml hown hg hP hD hK hS hA hnw hgk (s_named1 l D ks H.size ad kk V396 L384 z409 (V 16 (Int32.toNatClampNeg (V 0 12))) (bq) (gn) (gT) ((nx s1 1)) ((gs.2.1 2)) hMV396 (by omega) (by omega) rl400 (show z409.toInt = ((12 * (bq) : Nat) : Int) from by omega) (show ((V 16 (Int32.toNatClampNeg (V 0 12)))).toInt = (V396 16 (bq)).toInt from by omega)) w2067 w2069 w93 w172 w2070 rfl rfl hdV_yX12_named ⟨Nat.le_of_ble_eq_true rfl, Nat.le_of_ble_eq_true rfl⟩ rfl hl.1 rfl (Nat.le_of_ble_eq_true rfl) dX12_toldComponent_244 ⟨Nat.le_of_ble_eq_true rfl, Nat.le_of_ble_eq_true rfl⟩) hP hD hK hS hA (fun z413 u414 H locs w415 hP hD hK hS => ?_)
                                      obtain ⟨V419, L420⟩ := u414
                                      obtain ⟨hMV419, ajV419, axL420, rgz413, t416, t417, t418⟩ := w415
                                      have axL420 : L384 = L420 := Eq.symm axL420
                                      subst axL420
                                      have hP : va_P D vwCl (mw ad kk ks.1 V419 L384) H := hP
                                      have hD : va_D A (mw ad kk ks.1 V419 L384) := hD
                                      have hMV419 : rgd bM V419 := hMV419
                                      have ajV419 : agr [(0, 7), (0, 8)] [] V396 V419 := ajV419
                                      have agV419 : agr [(0, 7), (0, 8), (0, 48), (0, 50), (0, 51), (0, 52)] [15, 19, 20, 21, 22, 23, 24, 25, 26, 27, 28, 29, 30, 31, 32, 33, 34, 35, 36, 37, 38, 45, 46, 47, 53] V V419 := agV396.tr ajV419 (by decide) (by decide)
                                      have rgz413 : (-1) ≤ z413.toInt ∧ z413.toInt ≤ 47 := rgz413
                                      have t416 : KmN (look (gT) ((nx s1 1)) (((nx s1 1)).2.1 1)) (V419 0 8).toInt (fun f9 => RelM V419 L384 (bq) (gn) (gT) (nx ((nx s1 1)) 1) ((gs.2.1 2)) ∧ z413.toInt = ((f9 : Nat) : Int) ∧ f9 < 12) := t416
                                      have t417 : z413.toInt < ((V 16 (Int32.toNatClampNeg (V 0 12)))).toInt := t417
                                      have t418 : Imp ((V419 0 8).toInt = 0) (0 ≤ z413.toInt) := t418
                                      have r421 : 0 ≤ ((V419 0 8)).toInt ∧ ((V419 0 8)).toInt ≤ 70000 := hMV419 0 8
                                      rcases t416 with ⟨q422, fx423, h424, rl425, hf426, hb427⟩ | ⟨q422, h424⟩
                                      · skip
                                        have hr428 : ∀ k, Rc gT (Crun gs (Istmt :: k)) (Crun (nx (nx s1 1) 1) (IwhenN m1 c1 wx32 [fx423 + 1, ra1, ca1] :: k)) := fun k => Rc.go1 (hr402 k) (wS_y h424)
                                        have ps429 : (nx (nx s1 1) 1).1 0 = (nx s1 1).1 0 + 1 := rfl
                                        have fz430 := RelM.rg rl425
                                        refine va_iast (D := D) (i := z5) (x := z413) hx hb hK hP hD hS 18 17 rfl rfl (i_in (a := z5.toInt) rfl (by first | exact ⟨z5r, z5s⟩ | omega | ((try (have i_t418 := Imp.go t418 (by omega))); omega))) dX12_toldComponent_247 (fun H locs hP hD hS => ?_)
                                        obtain ⟨V431, hV431⟩ : ∃ z, z = up2 V419 25 (Int32.toNatClampNeg z5) z413 := ⟨_, rfl⟩
                                        have hP : va_P D vwCl (mw ad kk ks.1 V431 L384) H := by rw [hV431]; exact hP
                                        have hD : va_D A (mw ad kk ks.1 V431 L384) := by rw [hV431]; exact hD
                                        have hMV431 : rgd bM V431 := hMV419.put hV431 (show (-1) ≤ z413.toInt ∧ z413.toInt ≤ 11 from by first | omega | ((try (have i_t418 := Imp.go t418 (by omega))); omega))
                                        have agV431 : agr [(0, 7), (0, 8), (0, 48), (0, 50), (0, 51), (0, 52)] [15, 19, 20, 21, 22, 23, 24, 25, 26, 27, 28, 29, 30, 31, 32, 33, 34, 35, 36, 37, 38, 45, 46, 47, 53] V V431 := agV419.up hV431 rfl
                                        refine lv_aload_n hx hb dX12_toldComponent_248 rfl (lv_at hl 3 rfl) ?_
                                        refine va_get (D := D) (ci := 12) (v := .ref (ad 26)) (C := RX12) (T := TX12) (N := 100) hx hb hg inX12 hown hK hP 0 rfl rfl 26 (by decide) (hg _ w1736) (fun _ h9 => h9) rfl dX12_toldComponent_249 ?_
                                        refine lv_iload_n hx hb dX12_toldComponent_252 rfl (lv_at hl 2 rfl) ?_
                                        refine lv_aload_n hx hb dX12_toldComponent_253 rfl (lv_at hl 3 rfl) ?_
                                        refine lv_iconst (v := 0) hx hb dX12_toldComponent_254 (by decide) ?_
                                        refine lv_ldcw (v := 999999999) hx hb hown (hg _ w2087) dX12_toldComponent_255 ?_
                                        have rl432 : RelM V431 L384 bq gn gT (nx (nx s1 1) 1) (gs.2.1 2) := RelM.ag rl425 (show agr [] [25] V419 V431 from (agr.up agr.rf hV431 rfl)) (by decide) (show agL [] L384 L384 from agL.rf) (by decide)
                                        have r433 : Int32.toInt 999999999 = 999999999 := by decide
                                        refine gA_int (gA_runV (As := [.int 0, .int 999999999]) (rest := [.int z5, .ref (ad 26)]) (ci := 12) (q0 := 0) hx hb hml hown hg hP hD hK hS hA hnw hgk (s_takeNumberA l D ks H.size ad kk V431 L384 0 999999999 (bq) (gn) (gT) ((nx (nx s1 1) 1)) ((gs.2.1 2)) hMV431 rl432 (show -1 ≤ (Int32.toInt 999999999) ∧ (Int32.toInt 999999999) ≤ 999999999 from by first | omega | ((try (have i_t418 := Imp.go t418 (by omega))); omega)) (show 0 ≤ (Int32.toInt 0) from by first | omega | ((try (have i_t418 := Imp.go t418 (by omega))); omega))) w2088 w2090 w98 w172 w2091 rfl rfl hdV_yX12_takeNumber ⟨Nat.le_of_ble_eq_true rfl, Nat.le_of_ble_eq_true rfl⟩ rfl hl.1 rfl (Nat.le_of_ble_eq_true rfl) dX12_toldComponent_258 ⟨Nat.le_of_ble_eq_true rfl, Nat.le_of_ble_eq_true rfl⟩) hP hD hK hS hA (fun z434 u435 H locs w436 hP hD hK hS => ?_)
                                        obtain ⟨V441, L442⟩ := u435
                                        obtain ⟨hMV441, ajV441, axL442, t437, t438, t439, t440⟩ := w436
                                        have axL442 : L384 = L442 := Eq.symm axL442
                                        subst axL442
                                        have hP : va_P D vwCl (mw ad kk ks.1 V441 L384) H := hP
                                        have hD : va_D A (mw ad kk ks.1 V441 L384) := hD
                                        have hMV441 : rgd bM V441 := hMV441
                                        have ajV441 : agr [(0, 7), (0, 8)] [] V431 V441 := ajV441
                                        have agV441 : agr [(0, 7), (0, 8), (0, 48), (0, 50), (0, 51), (0, 52)] [15, 19, 20, 21, 22, 23, 24, 25, 26, 27, 28, 29, 30, 31, 32, 33, 34, 35, 36, 37, 38, 45, 46, 47, 53] V V441 := agV431.tr ajV441 (by decide) (by decide)
                                        have t437 : ((V441 0 8).toInt = 0 ∧ (gT).1 (((nx (nx s1 1) 1)).1 0) = 2 ∧ (Int32.toInt 0) ≤ ((gT).2.1 (((nx (nx s1 1) 1)).1 0)).toInt ∧ ((gT).2.1 (((nx (nx s1 1) 1)).1 0)).toInt ≤ (Int32.toInt 999999999) ∧ RelM V441 L384 (bq) (gn) (gT) (nx ((nx (nx s1 1) 1)) 1) ((gs.2.1 2))) ∨ (1 ≤ (V441 0 8).toInt ∧ (((gT).1 (((nx (nx s1 1) 1)).1 0) ≠ 2 ∧ (V441 0 8).toInt = 1 + 16 * (gT).2.2 (((nx (nx s1 1) 1)).1 0)) ∨ ((gT).1 (((nx (nx s1 1) 1)).1 0) = 2 ∧ (((gT).2.1 (((nx (nx s1 1) 1)).1 0)).toInt < (Int32.toInt 0) ∨ (Int32.toInt 999999999) < ((gT).2.1 (((nx (nx s1 1) 1)).1 0)).toInt) ∧ (V441 0 8).toInt = 4 + 16 * (gT).2.2 (((nx (nx s1 1) 1)).1 0)))) := t437
                                        have t438 : Imp ((V441 0 8).toInt = 0) ((Int32.toInt 0) ≤ z434.toInt ∧ z434.toInt ≤ (Int32.toInt 999999999)) := t438
                                        have t439 : Imp (1 ≤ (V441 0 8).toInt) (z434.toInt = 0) := t439
                                        have t440 : Imp ((V441 0 8).toInt = 0) (z434.toInt = ((gT).2.1 (((nx (nx s1 1) 1)).1 0)).toInt) := t440
                                        have r443 : 0 ≤ ((V441 0 8)).toInt ∧ ((V441 0 8)).toInt ≤ 70000 := hMV441 0 8
                                        rcases t437 with ⟨q444, h445, h446, h447, rl448⟩ | ⟨q444, ⟨h445, rl448⟩ | ⟨h445, h446, rl448⟩⟩
                                        · skip
                                          have hr449 : ∀ k, Rc gT (Crun gs (Istmt :: k)) (Crun (nx (nx (nx s1 1) 1) 1) (Itake 123 :: IaddNm m1 c1 wx32 [(gT.2.1 ((nx (nx s1 1) 1).1 0)).toInt.toNat, fx423 + 1, ra1, ca1] :: Imember :: k)) := fun k => Rc.go1 (hr428 k) (vw_y h445 (by omega) (by omega))
                                          have nw450 := Imp.go t440 q444
                                          have ps451 : (nx (nx (nx s1 1) 1) 1).1 0 = (nx (nx s1 1) 1).1 0 + 1 := rfl
                                          have fz452 := RelM.rg rl448
                                          have nr453 := Imp.go t438 q444
                                          refine va_iast (D := D) (i := z5) (x := z434) hx hb hK hP hD hS 19 18 rfl rfl (i_in (a := z5.toInt) rfl (by first | exact ⟨z5r, z5s⟩ | omega | ((try (have i_t439 := Imp.go t439 (by omega))); (try (have i_t438 := Imp.go t438 (by omega))); (try (have i_t418 := Imp.go t418 (by omega))); (try (have i_t418 := Imp.go t418 (by omega))); (try (have i_t438 := Imp.go t438 (by omega))); (try (have i_t439 := Imp.go t439 (by omega))); omega))) dX12_toldComponent_261 (fun H locs hP hD hS => ?_)
                                          obtain ⟨V454, hV454⟩ : ∃ z, z = up2 V441 26 (Int32.toNatClampNeg z5) z434 := ⟨_, rfl⟩
                                          have hP : va_P D vwCl (mw ad kk ks.1 V454 L384) H := by rw [hV454]; exact hP
                                          have hD : va_D A (mw ad kk ks.1 V454 L384) := by rw [hV454]; exact hD
                                          have hMV454 : rgd bM V454 := hMV441.put hV454 (i_full _)
                                          have agV454 : agr [(0, 7), (0, 8), (0, 48), (0, 50), (0, 51), (0, 52)] [15, 19, 20, 21, 22, 23, 24, 25, 26, 27, 28, 29, 30, 31, 32, 33, 34, 35, 36, 37, 38, 45, 46, 47, 53] V V454 := agV441.up hV454 rfl
                                          have pq455 : (V454 0 48).toInt = ((V 0 48)).toInt := congrArg Int32.toInt ((up2_o hV454 (by decide)).trans ((ajV441 0 48 rfl).trans ((up2_o hV431 (by decide)).trans ((ajV419 0 48 rfl).trans ((ajV396 0 48 rfl).trans ((up2_o hV389 (by decide)).trans ((ajV383 0 48 rfl).trans ((up2_o hV381 (by decide)).trans ((ajV370 0 48 rfl).trans ((ajV349 0 48 rfl).trans ((ajV330 0 48 rfl).trans ((ajV47 0 48 rfl).trans ((ajV42 0 48 rfl).trans ((ajV29 0 48 rfl).trans (ajV13 0 48 rfl)))))))))))))))
                                          have pq456 : (V454 0 12).toInt = ((V 0 12)).toInt := congrArg Int32.toInt ((up2_o hV454 (by decide)).trans ((ajV441 0 12 rfl).trans ((up2_o hV431 (by decide)).trans ((ajV419 0 12 rfl).trans ((ajV396 0 12 rfl).trans ((up2_o hV389 (by decide)).trans ((ajV383 0 12 rfl).trans ((up2_o hV381 (by decide)).trans ((ajV370 0 12 rfl).trans ((ajV349 0 12 rfl).trans ((ajV330 0 12 rfl).trans ((ajV47 0 12 rfl).trans ((ajV42 0 12 rfl).trans ((ajV29 0 12 rfl).trans (ajV13 0 12 rfl)))))))))))))))
                                          have rl457 : RelM V454 L384 bq gn gT (nx (nx (nx s1 1) 1) 1) (gs.2.1 2) := RelM.ag rl448 (show agr [] [26] V441 V454 from (agr.up agr.rf hV454 rfl)) (by decide) (show agL [] L384 L384 from agL.rf) (by decide)
                                          have hj458 := d1
                                          have hj459 := e1
                                          have hj460 := i1
                                          have pq461 : (V454 22 gc).toInt = ((V381 22 gc)).toInt := congrArg Int32.toInt ((up2_o hV454 (by decide)).trans ((ajV441 22 gc rfl).trans ((up2_o hV431 (by decide)).trans ((ajV419 22 gc rfl).trans ((ajV396 22 gc rfl).trans ((up2_o hV389 (by decide)).trans (ajV383 22 gc rfl)))))))
                                          have pq462 : (V383 22 gc).toInt = ((V381 22 gc)).toInt := congrArg Int32.toInt (ajV383 22 gc rfl)
                                          have pq463 : (V454 23 gc).toInt = ((V383 23 gc)).toInt := congrArg Int32.toInt ((up2_o hV454 (by decide)).trans ((ajV441 23 gc rfl).trans ((up2_o hV431 (by decide)).trans ((ajV419 23 gc rfl).trans ((ajV396 23 gc rfl).trans (up2_o hV389 (by decide)))))))
                                          have pq464 : (V454 24 gc).toInt = ((V383 24 gc)).toInt := congrArg Int32.toInt ((up2_o hV454 (by decide)).trans ((ajV441 24 gc rfl).trans ((up2_o hV431 (by decide)).trans ((ajV419 24 gc rfl).trans ((ajV396 24 gc rfl).trans (up2_o hV389 (by decide)))))))
                                          have r465 : 0 ≤ ((V383 24 gc)).toInt ∧ ((V383 24 gc)).toInt ≤ 9 := hMV383 24 gc
                                          have pq466 : (V454 25 (Int32.toNatClampNeg z5)).toInt = z413.toInt := congrArg Int32.toInt ((up2_o hV454 (by decide)).trans ((ajV441 25 (Int32.toNatClampNeg z5) rfl).trans (up2_s hV431)))
                                          have gv467 : (V454 25 gc).toInt = (V454 25 (Int32.toNatClampNeg z5)).toInt := by rw [kgc]
                                          have pq468 : (V454 26 (Int32.toNatClampNeg z5)).toInt = z434.toInt := congrArg Int32.toInt (up2_s hV454)
                                          have gv469 : (V454 26 gc).toInt = (V454 26 (Int32.toNatClampNeg z5)).toInt := by rw [kgc]
                                          have ps470 : s1.1 0 + 1 ≤ (nx s1 1).1 0 := ((keepS.n1 1)).1
                                          have ps471 : (nx s1 1).1 0 + 1 ≤ (nx (nx s1 1) 1).1 0 := ((keepS.n1 1)).1
                                          have ps472 : (nx (nx s1 1) 1).1 0 + 1 ≤ (nx (nx (nx s1 1) 1) 1).1 0 := ((keepS.n1 1)).1
                                          have cn473 : CNm V389 bq gs := CNm.up (xJ382_1 f7) hV389 (fun q9 => by have h9 := i_clamp (x := z5) rfl (by omega); unfold rdm at q9; omega)
                                          have cn474 : CNm V419 bq gs := CNm.ag cn473 (show agr [(0, 7), (0, 8)] [] V389 V419 from (agr.tr (agr.tr agr.rf ajV396 (by decide) (by decide)) ajV419 (by decide) (by decide))) (by decide) keepC.rf
                                          have cn475 : CNm V431 bq gs := CNm.up cn474 hV431 (fun q9 => by have h9 := i_clamp (x := z5) rfl (by omega); unfold rdm at q9; omega)
                                          have cn476 : CNm V441 bq gs := CNm.ag cn475 (show agr [(0, 7), (0, 8)] [] V431 V441 from (agr.tr agr.rf ajV441 (by decide) (by decide))) (by decide) keepC.rf
                                          have cn477 : CNm V454 bq gs := CNm.up cn476 hV454 (fun q9 => by have h9 := i_clamp (x := z5) rfl (by omega); unfold rdm at q9; omega)
                                          have rw478 : RoV 19 bq V V454 := (fun k hk => ((up2_o hV454 (by decide)).trans ((ajV441 19 k rfl).trans ((up2_o hV431 (by decide)).trans ((ajV419 19 k rfl).trans ((ajV396 19 k rfl).trans ((up2_o hV389 (by decide)).trans (xJ382_5 k hk))))))))
                                          have rw479 : RoV 35 bq V V454 := (fun k hk => ((up2_o hV454 (by decide)).trans ((ajV441 35 k rfl).trans ((up2_o hV431 (by decide)).trans ((ajV419 35 k rfl).trans ((ajV396 35 k rfl).trans ((up2_o hV389 (by decide)).trans (xJ382_6 k hk))))))))
                                          have rw480 : RoV 37 bq V V454 := (fun k hk => ((up2_o hV454 (by decide)).trans ((ajV441 37 k rfl).trans ((up2_o hV431 (by decide)).trans ((ajV419 37 k rfl).trans ((ajV396 37 k rfl).trans ((up2_o hV389 (by decide)).trans (xJ382_7 k hk))))))))
                                          have rw481 : RoL 20 24 bq L L384 := (fun k hk => (xJ382_8 k hk))
                                          have rw482 : RoL 36 20 bq L L384 := (fun k hk => (xJ382_9 k hk))
                                          have rw483 : RoL 38 20 bq L L384 := (fun k hk => (xJ382_10 k hk))
                                          exact J52 V454 L384 H locs ls alL384 (agr.up (agr.tr (agr.up (agr.tr (agr.tr (agr.up (agr.tr (agr.up (agr.tr (agr.tr (agr.tr agr.rf ajV330 (by decide) (by decide)) ajV349 (by decide) (by decide)) ajV370 (by decide) (by decide)) hV381 rfl) ajV383 (by decide) (by decide)) hV389 rfl) ajV396 (by decide) (by decide)) ajV419 (by decide) (by decide)) hV431 rfl) ajV441 (by decide) (by decide)) hV454 rfl) hMV454 (Or.inl ⟨W0 rl457, (nx (nx (nx s1 1) 1) 1), s0, m1, c1, ca1, ra1, fx423 + 1, (gT.2.1 ((nx (nx s1 1) 1).1 0)).toInt.toNat, hr449, rl457, keepS.le (keepS.tr (keepS.tr (keepS.tr (keepS.tr (keepS.rf : keepS (scopeS s0) 0 (scopeS s0)) k1) (keepS.n1 1)) (keepS.n1 1)) (keepS.n1 1)) (by decide), ((((keepS.n1 1)).2.2.1 2 (by decide)).trans ((((keepS.n1 1)).2.2.1 2 (by decide)).trans ((((keepS.n1 1)).2.2.1 2 (by decide)).trans t1))), ((congrArg (fun q9 => q9.1) ((keepS.n1 1)).2.2.2).trans ((congrArg (fun q9 => q9.1) ((keepS.n1 1)).2.2.2).trans ((congrArg (fun q9 => q9.1) ((keepS.n1 1)).2.2.2).trans w1))), (by omega), (keepC.tr (keepC.tr (keepC.tr q1 (keepS.c (keepS.n1 1))) (keepS.c (keepS.n1 1))) (keepS.c (keepS.n1 1))), (BTm.ag b1 (by rw [(up2_fo hV454 (by decide) : V454 21 = V441 21), (funext (fun q => ajV441 21 q rfl) : V441 21 = V431 21), (up2_fo hV431 (by decide) : V431 21 = V419 21), (funext (fun q => ajV419 21 q rfl) : V419 21 = V396 21), (funext (fun q => ajV396 21 q rfl) : V396 21 = V389 21), (up2_fo hV389 (by decide) : V389 21 = V383 21)] : V454 21 = V383 21)), (show (V454 22 gc).toInt = _ from by omega), (show (V454 23 gc).toInt + 1 = _ from by omega), (show (V454 24 gc).toInt = _ from by omega), (show (V454 25 gc).toInt + 1 = _ from by omega), (fun h9 => show (V454 26 gc).toInt = _ from by omega)⟩) (fun _ => cn477) (show (V454 0 48).toInt ≤ 8000 from by first | omega | ((try (have i_t439 := Imp.go t439 (by omega))); (try (have i_t438 := Imp.go t438 (by omega))); (try (have i_t418 := Imp.go t418 (by omega))); (try (have i_t418 := Imp.go t418 (by omega))); (try (have i_t438 := Imp.go t438 (by omega))); (try (have i_t439 := Imp.go t439 (by omega))); omega)) (show (V454 0 48).toInt = (V 0 48).toInt from by first | omega | ((try (have i_t439 := Imp.go t439 (by omega))); (try (have i_t438 := Imp.go t438 (by omega))); (try (have i_t418 := Imp.go t418 (by omega))); (try (have i_t418 := Imp.go t418 (by omega))); (try (have i_t438 := Imp.go t438 (by omega))); (try (have i_t439 := Imp.go t439 (by omega))); omega)) (show (V454 0 12).toInt = (V 0 12).toInt from by first | omega | ((try (have i_t439 := Imp.go t439 (by omega))); (try (have i_t438 := Imp.go t438 (by omega))); (try (have i_t418 := Imp.go t418 (by omega))); (try (have i_t418 := Imp.go t418 (by omega))); (try (have i_t438 := Imp.go t438 (by omega))); (try (have i_t439 := Imp.go t439 (by omega))); omega)) rw478 rw479 rw480 rw481 rw482 rw483 hP hD hS (lv_sub hl [0, 1, 2, 3] rfl)
                                        · skip
                                          have hb484 : ∀ k, Rc gT (Crun gs (Istmt :: k)) (Cbad (V441 0 8).toInt) := fun k => Rc.go1 (hr428 k) ((vw_1 h445).trans (fl_eq rfl rl448))
                                          have nr485 := Imp.go t439 q444
                                          refine va_iast (D := D) (i := z5) (x := z434) hx hb hK hP hD hS 19 18 rfl rfl (i_in (a := z5.toInt) rfl (by first | exact ⟨z5r, z5s⟩ | omega | ((try (have i_t439 := Imp.go t439 (by omega))); (try (have i_t438 := Imp.go t438 (by omega))); (try (have i_t418 := Imp.go t418 (by omega))); (try (have i_t418 := Imp.go t418 (by omega))); (try (have i_t438 := Imp.go t438 (by omega))); (try (have i_t439 := Imp.go t439 (by omega))); omega))) dX12_toldComponent_261 (fun H locs hP hD hS => ?_)
                                          obtain ⟨V486, hV486⟩ : ∃ z, z = up2 V441 26 (Int32.toNatClampNeg z5) z434 := ⟨_, rfl⟩
                                          have hP : va_P D vwCl (mw ad kk ks.1 V486 L384) H := by rw [hV486]; exact hP
                                          have hD : va_D A (mw ad kk ks.1 V486 L384) := by rw [hV486]; exact hD
                                          have hMV486 : rgd bM V486 := hMV441.put hV486 (i_full _)
                                          have agV486 : agr [(0, 7), (0, 8), (0, 48), (0, 50), (0, 51), (0, 52)] [15, 19, 20, 21, 22, 23, 24, 25, 26, 27, 28, 29, 30, 31, 32, 33, 34, 35, 36, 37, 38, 45, 46, 47, 53] V V486 := agV441.up hV486 rfl
                                          have pq487 : (V486 0 48).toInt = ((V 0 48)).toInt := congrArg Int32.toInt ((up2_o hV486 (by decide)).trans ((ajV441 0 48 rfl).trans ((up2_o hV431 (by decide)).trans ((ajV419 0 48 rfl).trans ((ajV396 0 48 rfl).trans ((up2_o hV389 (by decide)).trans ((ajV383 0 48 rfl).trans ((up2_o hV381 (by decide)).trans ((ajV370 0 48 rfl).trans ((ajV349 0 48 rfl).trans ((ajV330 0 48 rfl).trans ((ajV47 0 48 rfl).trans ((ajV42 0 48 rfl).trans ((ajV29 0 48 rfl).trans (ajV13 0 48 rfl)))))))))))))))
                                          have pq488 : (V486 0 12).toInt = ((V 0 12)).toInt := congrArg Int32.toInt ((up2_o hV486 (by decide)).trans ((ajV441 0 12 rfl).trans ((up2_o hV431 (by decide)).trans ((ajV419 0 12 rfl).trans ((ajV396 0 12 rfl).trans ((up2_o hV389 (by decide)).trans ((ajV383 0 12 rfl).trans ((up2_o hV381 (by decide)).trans ((ajV370 0 12 rfl).trans ((ajV349 0 12 rfl).trans ((ajV330 0 12 rfl).trans ((ajV47 0 12 rfl).trans ((ajV42 0 12 rfl).trans ((ajV29 0 12 rfl).trans (ajV13 0 12 rfl)))))))))))))))
                                          have pq489 : (V486 0 8).toInt = ((V441 0 8)).toInt := congrArg Int32.toInt (up2_o hV486 (by decide))
                                          have rw490 : RoV 19 bq V V486 := (fun k hk => ((up2_o hV486 (by decide)).trans ((ajV441 19 k rfl).trans ((up2_o hV431 (by decide)).trans ((ajV419 19 k rfl).trans ((ajV396 19 k rfl).trans ((up2_o hV389 (by decide)).trans (xJ382_5 k hk))))))))
                                          have rw491 : RoV 35 bq V V486 := (fun k hk => ((up2_o hV486 (by decide)).trans ((ajV441 35 k rfl).trans ((up2_o hV431 (by decide)).trans ((ajV419 35 k rfl).trans ((ajV396 35 k rfl).trans ((up2_o hV389 (by decide)).trans (xJ382_6 k hk))))))))
                                          have rw492 : RoV 37 bq V V486 := (fun k hk => ((up2_o hV486 (by decide)).trans ((ajV441 37 k rfl).trans ((up2_o hV431 (by decide)).trans ((ajV419 37 k rfl).trans ((ajV396 37 k rfl).trans ((up2_o hV389 (by decide)).trans (xJ382_7 k hk))))))))
                                          have rw493 : RoL 20 24 bq L L384 := (fun k hk => (xJ382_8 k hk))
                                          have rw494 : RoL 36 20 bq L L384 := (fun k hk => (xJ382_9 k hk))
                                          have rw495 : RoL 38 20 bq L L384 := (fun k hk => (xJ382_10 k hk))
                                          exact J52 V486 L384 H locs ls alL384 (agr.up (agr.tr (agr.up (agr.tr (agr.tr (agr.up (agr.tr (agr.up (agr.tr (agr.tr (agr.tr agr.rf ajV330 (by decide) (by decide)) ajV349 (by decide) (by decide)) ajV370 (by decide) (by decide)) hV381 rfl) ajV383 (by decide) (by decide)) hV389 rfl) ajV396 (by decide) (by decide)) ajV419 (by decide) (by decide)) hV431 rfl) ajV441 (by decide) (by decide)) hV486 rfl) hMV486 (Or.inr ⟨(show 1 ≤ (V486 0 8).toInt from by omega), (fun k => by rw [show (V486 0 8).toInt = (V441 0 8).toInt from by omega]; exact hb484 k)⟩) (fun h9 => by exfalso; omega) (show (V486 0 48).toInt ≤ 8000 from by first | omega | ((try (have i_t439 := Imp.go t439 (by omega))); (try (have i_t438 := Imp.go t438 (by omega))); (try (have i_t418 := Imp.go t418 (by omega))); (try (have i_t418 := Imp.go t418 (by omega))); (try (have i_t438 := Imp.go t438 (by omega))); (try (have i_t439 := Imp.go t439 (by omega))); omega)) (show (V486 0 48).toInt = (V 0 48).toInt from by first | omega | ((try (have i_t439 := Imp.go t439 (by omega))); (try (have i_t438 := Imp.go t438 (by omega))); (try (have i_t418 := Imp.go t418 (by omega))); (try (have i_t418 := Imp.go t418 (by omega))); (try (have i_t438 := Imp.go t438 (by omega))); (try (have i_t439 := Imp.go t439 (by omega))); omega)) (show (V486 0 12).toInt = (V 0 12).toInt from by first | omega | ((try (have i_t439 := Imp.go t439 (by omega))); (try (have i_t438 := Imp.go t438 (by omega))); (try (have i_t418 := Imp.go t418 (by omega))); (try (have i_t418 := Imp.go t418 (by omega))); (try (have i_t438 := Imp.go t438 (by omega))); (try (have i_t439 := Imp.go t439 (by omega))); omega)) rw490 rw491 rw492 rw493 rw494 rw495 hP hD hS (lv_sub hl [0, 1, 2, 3] rfl)
                                        · skip
                                          have hb496 : ∀ k, Rc gT (Crun gs (Istmt :: k)) (Cbad (V441 0 8).toInt) := fun k => Rc.go1 (hr428 k) ((vw_4 h445 (by omega)).trans (fl_eq rfl rl448))
                                          have nr497 := Imp.go t439 q444
                                          refine va_iast (D := D) (i := z5) (x := z434) hx hb hK hP hD hS 19 18 rfl rfl (i_in (a := z5.toInt) rfl (by first | exact ⟨z5r, z5s⟩ | omega | ((try (have i_t439 := Imp.go t439 (by omega))); (try (have i_t438 := Imp.go t438 (by omega))); (try (have i_t418 := Imp.go t418 (by omega))); (try (have i_t418 := Imp.go t418 (by omega))); (try (have i_t438 := Imp.go t438 (by omega))); (try (have i_t439 := Imp.go t439 (by omega))); omega))) dX12_toldComponent_261 (fun H locs hP hD hS => ?_)
                                          obtain ⟨V498, hV498⟩ : ∃ z, z = up2 V441 26 (Int32.toNatClampNeg z5) z434 := ⟨_, rfl⟩
                                          have hP : va_P D vwCl (mw ad kk ks.1 V498 L384) H := by rw [hV498]; exact hP
                                          have hD : va_D A (mw ad kk ks.1 V498 L384) := by rw [hV498]; exact hD
                                          have hMV498 : rgd bM V498 := hMV441.put hV498 (i_full _)
                                          have agV498 : agr [(0, 7), (0, 8), (0, 48), (0, 50), (0, 51), (0, 52)] [15, 19, 20, 21, 22, 23, 24, 25, 26, 27, 28, 29, 30, 31, 32, 33, 34, 35, 36, 37, 38, 45, 46, 47, 53] V V498 := agV441.up hV498 rfl
                                          have pq499 : (V498 0 48).toInt = ((V 0 48)).toInt := congrArg Int32.toInt ((up2_o hV498 (by decide)).trans ((ajV441 0 48 rfl).trans ((up2_o hV431 (by decide)).trans ((ajV419 0 48 rfl).trans ((ajV396 0 48 rfl).trans ((up2_o hV389 (by decide)).trans ((ajV383 0 48 rfl).trans ((up2_o hV381 (by decide)).trans ((ajV370 0 48 rfl).trans ((ajV349 0 48 rfl).trans ((ajV330 0 48 rfl).trans ((ajV47 0 48 rfl).trans ((ajV42 0 48 rfl).trans ((ajV29 0 48 rfl).trans (ajV13 0 48 rfl)))))))))))))))
                                          have pq500 : (V498 0 12).toInt = ((V 0 12)).toInt := congrArg Int32.toInt ((up2_o hV498 (by decide)).trans ((ajV441 0 12 rfl).trans ((up2_o hV431 (by decide)).trans ((ajV419 0 12 rfl).trans ((ajV396 0 12 rfl).trans ((up2_o hV389 (by decide)).trans ((ajV383 0 12 rfl).trans ((up2_o hV381 (by decide)).trans ((ajV370 0 12 rfl).trans ((ajV349 0 12 rfl).trans ((ajV330 0 12 rfl).trans ((ajV47 0 12 rfl).trans ((ajV42 0 12 rfl).trans ((ajV29 0 12 rfl).trans (ajV13 0 12 rfl)))))))))))))))
                                          have pq501 : (V498 0 8).toInt = ((V441 0 8)).toInt := congrArg Int32.toInt (up2_o hV498 (by decide))
                                          have rw502 : RoV 19 bq V V498 := (fun k hk => ((up2_o hV498 (by decide)).trans ((ajV441 19 k rfl).trans ((up2_o hV431 (by decide)).trans ((ajV419 19 k rfl).trans ((ajV396 19 k rfl).trans ((up2_o hV389 (by decide)).trans (xJ382_5 k hk))))))))
                                          have rw503 : RoV 35 bq V V498 := (fun k hk => ((up2_o hV498 (by decide)).trans ((ajV441 35 k rfl).trans ((up2_o hV431 (by decide)).trans ((ajV419 35 k rfl).trans ((ajV396 35 k rfl).trans ((up2_o hV389 (by decide)).trans (xJ382_6 k hk))))))))
                                          have rw504 : RoV 37 bq V V498 := (fun k hk => ((up2_o hV498 (by decide)).trans ((ajV441 37 k rfl).trans ((up2_o hV431 (by decide)).trans ((ajV419 37 k rfl).trans ((ajV396 37 k rfl).trans ((up2_o hV389 (by decide)).trans (xJ382_7 k hk))))))))
                                          have rw505 : RoL 20 24 bq L L384 := (fun k hk => (xJ382_8 k hk))
                                          have rw506 : RoL 36 20 bq L L384 := (fun k hk => (xJ382_9 k hk))
                                          have rw507 : RoL 38 20 bq L L384 := (fun k hk => (xJ382_10 k hk))
                                          exact J52 V498 L384 H locs ls alL384 (agr.up (agr.tr (agr.up (agr.tr (agr.tr (agr.up (agr.tr (agr.up (agr.tr (agr.tr (agr.tr agr.rf ajV330 (by decide) (by decide)) ajV349 (by decide) (by decide)) ajV370 (by decide) (by decide)) hV381 rfl) ajV383 (by decide) (by decide)) hV389 rfl) ajV396 (by decide) (by decide)) ajV419 (by decide) (by decide)) hV431 rfl) ajV441 (by decide) (by decide)) hV498 rfl) hMV498 (Or.inr ⟨(show 1 ≤ (V498 0 8).toInt from by omega), (fun k => by rw [show (V498 0 8).toInt = (V441 0 8).toInt from by omega]; exact hb496 k)⟩) (fun h9 => by exfalso; omega) (show (V498 0 48).toInt ≤ 8000 from by first | omega | ((try (have i_t439 := Imp.go t439 (by omega))); (try (have i_t438 := Imp.go t438 (by omega))); (try (have i_t418 := Imp.go t418 (by omega))); (try (have i_t418 := Imp.go t418 (by omega))); (try (have i_t438 := Imp.go t438 (by omega))); (try (have i_t439 := Imp.go t439 (by omega))); omega)) (show (V498 0 48).toInt = (V 0 48).toInt from by first | omega | ((try (have i_t439 := Imp.go t439 (by omega))); (try (have i_t438 := Imp.go t438 (by omega))); (try (have i_t418 := Imp.go t418 (by omega))); (try (have i_t418 := Imp.go t418 (by omega))); (try (have i_t438 := Imp.go t438 (by omega))); (try (have i_t439 := Imp.go t439 (by omega))); omega)) (show (V498 0 12).toInt = (V 0 12).toInt from by first | omega | ((try (have i_t439 := Imp.go t439 (by omega))); (try (have i_t438 := Imp.go t438 (by omega))); (try (have i_t418 := Imp.go t418 (by omega))); (try (have i_t418 := Imp.go t418 (by omega))); (try (have i_t438 := Imp.go t438 (by omega))); (try (have i_t439 := Imp.go t439 (by omega))); omega)) rw502 rw503 rw504 rw505 rw506 rw507 hP hD hS (lv_sub hl [0, 1, 2, 3] rfl)
                                      · skip
                                        have hb508 : ∀ k, Rc gT (Crun gs (Istmt :: k)) (Cbad (V419 0 8).toInt) := fun k => Rc.go1 (hr402 k) (wS_b h424)
                                        refine va_iast (D := D) (i := z5) (x := z413) hx hb hK hP hD hS 18 17 rfl rfl (i_in (a := z5.toInt) rfl (by first | exact ⟨z5r, z5s⟩ | omega | ((try (have i_t418 := Imp.go t418 (by omega))); omega))) dX12_toldComponent_247 (fun H locs hP hD hS => ?_)
                                        obtain ⟨V509, hV509⟩ : ∃ z, z = up2 V419 25 (Int32.toNatClampNeg z5) z413 := ⟨_, rfl⟩
                                        have hP : va_P D vwCl (mw ad kk ks.1 V509 L384) H := by rw [hV509]; exact hP
                                        have hD : va_D A (mw ad kk ks.1 V509 L384) := by rw [hV509]; exact hD
                                        have hMV509 : rgd bM V509 := hMV419.put hV509 (show (-1) ≤ z413.toInt ∧ z413.toInt ≤ 11 from by first | omega | ((try (have i_t418 := Imp.go t418 (by omega))); omega))
                                        have agV509 : agr [(0, 7), (0, 8), (0, 48), (0, 50), (0, 51), (0, 52)] [15, 19, 20, 21, 22, 23, 24, 25, 26, 27, 28, 29, 30, 31, 32, 33, 34, 35, 36, 37, 38, 45, 46, 47, 53] V V509 := agV419.up hV509 rfl
                                        refine lv_aload_n hx hb dX12_toldComponent_248 rfl (lv_at hl 3 rfl) ?_
                                        refine va_get (D := D) (ci := 12) (v := .ref (ad 26)) (C := RX12) (T := TX12) (N := 100) hx hb hg inX12 hown hK hP 0 rfl rfl 26 (by decide) (hg _ w1736) (fun _ h9 => h9) rfl dX12_toldComponent_249 ?_
                                        refine lv_iload_n hx hb dX12_toldComponent_252 rfl (lv_at hl 2 rfl) ?_
                                        refine lv_aload_n hx hb dX12_toldComponent_253 rfl (lv_at hl 3 rfl) ?_
                                        refine lv_iconst (v := 0) hx hb dX12_toldComponent_254 (by decide) ?_
                                        refine lv_ldcw (v := 999999999) hx hb hown (hg _ w2087) dX12_toldComponent_255 ?_
                                        have r510 : Int32.toInt 999999999 = 999999999 := by decide
                                        have pq511 : (V509 0 8).toInt = ((V419 0 8)).toInt := congrArg Int32.toInt (up2_o hV509 (by decide))
                                        refine gA_int (gA_runV (As := [.int 0, .int 999999999]) (rest := [.int z5, .ref (ad 26)]) (ci := 12) (q0 := 0) hx hb hml hown hg hP hD hK hS hA hnw hgk (s_takeNumberB l D ks H.size ad kk V509 L384 0 999999999 hMV509 (show 1 ≤ (V509 0 8).toInt from by first | omega | ((try (have i_t418 := Imp.go t418 (by omega))); omega))) w2088 w2090 w98 w172 w2091 rfl rfl hdV_yX12_takeNumber ⟨Nat.le_of_ble_eq_true rfl, Nat.le_of_ble_eq_true rfl⟩ rfl hl.1 rfl (Nat.le_of_ble_eq_true rfl) dX12_toldComponent_258 ⟨Nat.le_of_ble_eq_true rfl, Nat.le_of_ble_eq_true rfl⟩) hP hD hK hS hA (fun z512 u513 H locs w514 hP hD hK hS => ?_)
                                        obtain ⟨V516, L517⟩ := u513
                                        obtain ⟨hMV516, ajV516, axL517, rgz512, t515⟩ := w514
                                        have axL517 : L384 = L517 := Eq.symm axL517
                                        subst axL517
                                        have hP : va_P D vwCl (mw ad kk ks.1 V516 L384) H := hP
                                        have hD : va_D A (mw ad kk ks.1 V516 L384) := hD
                                        have hMV516 : rgd bM V516 := hMV516
                                        have ajV516 : agr [(0, 7), (0, 8)] [] V509 V516 := ajV516
                                        have agV516 : agr [(0, 7), (0, 8), (0, 48), (0, 50), (0, 51), (0, 52)] [15, 19, 20, 21, 22, 23, 24, 25, 26, 27, 28, 29, 30, 31, 32, 33, 34, 35, 36, 37, 38, 45, 46, 47, 53] V V516 := agV509.tr ajV516 (by decide) (by decide)
                                        have rgz512 : 0 ≤ z512.toInt ∧ z512.toInt ≤ 0 := rgz512
                                        have t515 : (V516 0 8).toInt = (V509 0 8).toInt := t515
                                        have r518 : 0 ≤ ((V516 0 8)).toInt ∧ ((V516 0 8)).toInt ≤ 70000 := hMV516 0 8
                                        refine va_iast (D := D) (i := z5) (x := z512) hx hb hK hP hD hS 19 18 rfl rfl (i_in (a := z5.toInt) rfl (by first | exact ⟨z5r, z5s⟩ | omega | ((try (have i_t418 := Imp.go t418 (by omega))); omega))) dX12_toldComponent_261 (fun H locs hP hD hS => ?_)
                                        obtain ⟨V519, hV519⟩ : ∃ z, z = up2 V516 26 (Int32.toNatClampNeg z5) z512 := ⟨_, rfl⟩
                                        have hP : va_P D vwCl (mw ad kk ks.1 V519 L384) H := by rw [hV519]; exact hP
                                        have hD : va_D A (mw ad kk ks.1 V519 L384) := by rw [hV519]; exact hD
                                        have hMV519 : rgd bM V519 := hMV516.put hV519 (i_full _)
                                        have agV519 : agr [(0, 7), (0, 8), (0, 48), (0, 50), (0, 51), (0, 52)] [15, 19, 20, 21, 22, 23, 24, 25, 26, 27, 28, 29, 30, 31, 32, 33, 34, 35, 36, 37, 38, 45, 46, 47, 53] V V519 := agV516.up hV519 rfl
                                        have pq520 : (V519 0 48).toInt = ((V 0 48)).toInt := congrArg Int32.toInt ((up2_o hV519 (by decide)).trans ((ajV516 0 48 rfl).trans ((up2_o hV509 (by decide)).trans ((ajV419 0 48 rfl).trans ((ajV396 0 48 rfl).trans ((up2_o hV389 (by decide)).trans ((ajV383 0 48 rfl).trans ((up2_o hV381 (by decide)).trans ((ajV370 0 48 rfl).trans ((ajV349 0 48 rfl).trans ((ajV330 0 48 rfl).trans ((ajV47 0 48 rfl).trans ((ajV42 0 48 rfl).trans ((ajV29 0 48 rfl).trans (ajV13 0 48 rfl)))))))))))))))
                                        have pq521 : (V519 0 12).toInt = ((V 0 12)).toInt := congrArg Int32.toInt ((up2_o hV519 (by decide)).trans ((ajV516 0 12 rfl).trans ((up2_o hV509 (by decide)).trans ((ajV419 0 12 rfl).trans ((ajV396 0 12 rfl).trans ((up2_o hV389 (by decide)).trans ((ajV383 0 12 rfl).trans ((up2_o hV381 (by decide)).trans ((ajV370 0 12 rfl).trans ((ajV349 0 12 rfl).trans ((ajV330 0 12 rfl).trans ((ajV47 0 12 rfl).trans ((ajV42 0 12 rfl).trans ((ajV29 0 12 rfl).trans (ajV13 0 12 rfl)))))))))))))))
                                        have pq522 : (V519 0 8).toInt = ((V516 0 8)).toInt := congrArg Int32.toInt (up2_o hV519 (by decide))
                                        have rw523 : RoV 19 bq V V519 := (fun k hk => ((up2_o hV519 (by decide)).trans ((ajV516 19 k rfl).trans ((up2_o hV509 (by decide)).trans ((ajV419 19 k rfl).trans ((ajV396 19 k rfl).trans ((up2_o hV389 (by decide)).trans (xJ382_5 k hk))))))))
                                        have rw524 : RoV 35 bq V V519 := (fun k hk => ((up2_o hV519 (by decide)).trans ((ajV516 35 k rfl).trans ((up2_o hV509 (by decide)).trans ((ajV419 35 k rfl).trans ((ajV396 35 k rfl).trans ((up2_o hV389 (by decide)).trans (xJ382_6 k hk))))))))
                                        have rw525 : RoV 37 bq V V519 := (fun k hk => ((up2_o hV519 (by decide)).trans ((ajV516 37 k rfl).trans ((up2_o hV509 (by decide)).trans ((ajV419 37 k rfl).trans ((ajV396 37 k rfl).trans ((up2_o hV389 (by decide)).trans (xJ382_7 k hk))))))))
                                        have rw526 : RoL 20 24 bq L L384 := (fun k hk => (xJ382_8 k hk))
                                        have rw527 : RoL 36 20 bq L L384 := (fun k hk => (xJ382_9 k hk))
                                        have rw528 : RoL 38 20 bq L L384 := (fun k hk => (xJ382_10 k hk))
                                        exact J52 V519 L384 H locs ls alL384 (agr.up (agr.tr (agr.up (agr.tr (agr.tr (agr.up (agr.tr (agr.up (agr.tr (agr.tr (agr.tr agr.rf ajV330 (by decide) (by decide)) ajV349 (by decide) (by decide)) ajV370 (by decide) (by decide)) hV381 rfl) ajV383 (by decide) (by decide)) hV389 rfl) ajV396 (by decide) (by decide)) ajV419 (by decide) (by decide)) hV509 rfl) ajV516 (by decide) (by decide)) hV519 rfl) hMV519 (Or.inr ⟨(show 1 ≤ (V519 0 8).toInt from by omega), (fun k => by rw [show (V519 0 8).toInt = (V419 0 8).toInt from by omega]; exact hb508 k)⟩) (fun h9 => by exfalso; omega) (show (V519 0 48).toInt ≤ 8000 from by first | omega | ((try (have i_t418 := Imp.go t418 (by omega))); omega)) (show (V519 0 48).toInt = (V 0 48).toInt from by first | omega | ((try (have i_t418 := Imp.go t418 (by omega))); omega)) (show (V519 0 12).toInt = (V 0 12).toInt from by first | omega | ((try (have i_t418 := Imp.go t418 (by omega))); omega)) rw523 rw524 rw525 rw526 rw527 rw528 hP hD hS (lv_sub hl [0, 1, 2, 3] rfl)
                                  · skip
                                    have kd529 : gT.1 (s1.1 0) ≠ 135 := fun h9 => h399 (h9.trans (by decide))
                                    have fz530 := RelM.rg rl400
                                    have pq531 : (V396 0 8).toInt = ((V383 0 8)).toInt := congrArg Int32.toInt ((ajV396 0 8 rfl).trans (up2_o hV389 (by decide)))
                                    refine lv_if_eq (tgt := 262) hx hb dX12_toldComponent_215 (by decide) (fun c532 => ?_) (fun c532 => ?_)
                                    · skip
                                      have f533 : z392.toInt = 0 := b_eq rfl (by decide) c532
                                      have pq534 : (V396 0 48).toInt = ((V 0 48)).toInt := congrArg Int32.toInt ((ajV396 0 48 rfl).trans ((up2_o hV389 (by decide)).trans ((ajV383 0 48 rfl).trans ((up2_o hV381 (by decide)).trans ((ajV370 0 48 rfl).trans ((ajV349 0 48 rfl).trans ((ajV330 0 48 rfl).trans ((ajV47 0 48 rfl).trans ((ajV42 0 48 rfl).trans ((ajV29 0 48 rfl).trans (ajV13 0 48 rfl)))))))))))
                                      have pq535 : (V396 0 12).toInt = ((V 0 12)).toInt := congrArg Int32.toInt ((ajV396 0 12 rfl).trans ((up2_o hV389 (by decide)).trans ((ajV383 0 12 rfl).trans ((up2_o hV381 (by decide)).trans ((ajV370 0 12 rfl).trans ((ajV349 0 12 rfl).trans ((ajV330 0 12 rfl).trans ((ajV47 0 12 rfl).trans ((ajV42 0 12 rfl).trans ((ajV29 0 12 rfl).trans (ajV13 0 12 rfl)))))))))))
                                      have hr536 : ∀ k, Rc gT (Crun gs (Istmt :: k)) (Crun s1 (Itake 123 :: IaddNm m1 c1 wx32 [0, 0, ra1, ca1] :: Imember :: k)) := fun k => Rc.go1 (h1 k) (when_n m1 c1 wx32 [ra1, ca1] kd529)
                                      have hj537 := d1
                                      have hj538 := e1
                                      have hj539 := i1
                                      have pq540 : (V396 22 gc).toInt = ((V381 22 gc)).toInt := congrArg Int32.toInt ((ajV396 22 gc rfl).trans ((up2_o hV389 (by decide)).trans (ajV383 22 gc rfl)))
                                      have pq541 : (V383 22 gc).toInt = ((V381 22 gc)).toInt := congrArg Int32.toInt (ajV383 22 gc rfl)
                                      have pq542 : (V396 23 gc).toInt = ((V383 23 gc)).toInt := congrArg Int32.toInt ((ajV396 23 gc rfl).trans (up2_o hV389 (by decide)))
                                      have pq543 : (V396 24 gc).toInt = ((V383 24 gc)).toInt := congrArg Int32.toInt ((ajV396 24 gc rfl).trans (up2_o hV389 (by decide)))
                                      have r544 : 0 ≤ ((V383 24 gc)).toInt ∧ ((V383 24 gc)).toInt ≤ 9 := hMV383 24 gc
                                      have pq545 : (V396 25 (Int32.toNatClampNeg z5)).toInt = (-1) := (congrArg Int32.toInt ((ajV396 25 (Int32.toNatClampNeg z5) rfl).trans (up2_s hV389))).trans (by decide)
                                      have gv546 : (V396 25 gc).toInt = (V396 25 (Int32.toNatClampNeg z5)).toInt := by rw [kgc]
                                      have pq547 : (V396 26 (Int32.toNatClampNeg z5)).toInt = ((V 26 (Int32.toNatClampNeg z5))).toInt := congrArg Int32.toInt ((ajV396 26 (Int32.toNatClampNeg z5) rfl).trans ((up2_o hV389 (by decide)).trans ((ajV383 26 (Int32.toNatClampNeg z5) rfl).trans ((up2_o hV381 (by decide)).trans ((ajV370 26 (Int32.toNatClampNeg z5) rfl).trans ((ajV349 26 (Int32.toNatClampNeg z5) rfl).trans ((ajV330 26 (Int32.toNatClampNeg z5) rfl).trans ((ajV47 26 (Int32.toNatClampNeg z5) rfl).trans ((ajV42 26 (Int32.toNatClampNeg z5) rfl).trans ((ajV29 26 (Int32.toNatClampNeg z5) rfl).trans (ajV13 26 (Int32.toNatClampNeg z5) rfl)))))))))))
                                      have gv548 : (V396 26 gc).toInt = (V396 26 (Int32.toNatClampNeg z5)).toInt := by rw [kgc]
                                      have cn549 : CNm V389 bq gs := CNm.up (xJ382_1 f7) hV389 (fun q9 => by have h9 := i_clamp (x := z5) rfl (by omega); unfold rdm at q9; omega)
                                      have cn550 : CNm V396 bq gs := CNm.ag cn549 (show agr [(0, 7)] [] V389 V396 from (agr.tr agr.rf ajV396 (by decide) (by decide))) (by decide) keepC.rf
                                      have rw551 : RoV 19 bq V V396 := (fun k hk => ((ajV396 19 k rfl).trans ((up2_o hV389 (by decide)).trans (xJ382_5 k hk))))
                                      have rw552 : RoV 35 bq V V396 := (fun k hk => ((ajV396 35 k rfl).trans ((up2_o hV389 (by decide)).trans (xJ382_6 k hk))))
                                      have rw553 : RoV 37 bq V V396 := (fun k hk => ((ajV396 37 k rfl).trans ((up2_o hV389 (by decide)).trans (xJ382_7 k hk))))
                                      have rw554 : RoL 20 24 bq L L384 := (fun k hk => (xJ382_8 k hk))
                                      have rw555 : RoL 36 20 bq L L384 := (fun k hk => (xJ382_9 k hk))
                                      have rw556 : RoL 38 20 bq L L384 := (fun k hk => (xJ382_10 k hk))
                                      exact J52 V396 L384 H locs ls alL384 (agr.tr (agr.up (agr.tr (agr.up (agr.tr (agr.tr (agr.tr agr.rf ajV330 (by decide) (by decide)) ajV349 (by decide) (by decide)) ajV370 (by decide) (by decide)) hV381 rfl) ajV383 (by decide) (by decide)) hV389 rfl) ajV396 (by decide) (by decide)) hMV396 (Or.inl ⟨W0 rl400, s1, s0, m1, c1, ca1, ra1, 0, 0, hr536, rl400, keepS.le (keepS.tr (keepS.rf : keepS (scopeS s0) 0 (scopeS s0)) k1) (by decide), t1, w1, (by omega), q1, (BTm.ag b1 (by rw [(funext (fun q => ajV396 21 q rfl) : V396 21 = V389 21), (up2_fo hV389 (by decide) : V389 21 = V383 21)] : V396 21 = V383 21)), (show (V396 22 gc).toInt = _ from by omega), (show (V396 23 gc).toInt + 1 = _ from by omega), (show (V396 24 gc).toInt = _ from by omega), (show (V396 25 gc).toInt + 1 = _ from by omega), (fun h9 => show (V396 26 gc).toInt = _ from by omega)⟩) (fun _ => cn550) (show (V396 0 48).toInt ≤ 8000 from by omega) (show (V396 0 48).toInt = (V 0 48).toInt from by omega) (show (V396 0 12).toInt = (V 0 12).toInt from by omega) rw551 rw552 rw553 rw554 rw555 rw556 hP hD hS (lv_sub hl [0, 1, 2, 3] rfl)
                                    · skip
                                      have f557 : z392.toInt ≠ 0 := b_neq rfl (by decide) c532
                                      exfalso; omega
                                · skip
                                  have r558 : 0 ≤ ((V383 0 8)).toInt ∧ ((V383 0 8)).toInt ≤ 70000 := hMV383 0 8
                                  refine lv_aload_n hx hb dX12_toldComponent_202 rfl (lv_at hl 3 rfl) ?_
                                  refine va_get (D := D) (ci := 12) (v := .ref (ad 25)) (C := RX12) (T := TX12) (N := 100) hx hb hg inX12 hown hK hP 0 rfl rfl 25 (by decide) (hg _ w1735) (fun _ h9 => h9) rfl dX12_toldComponent_203 ?_
                                  refine lv_iload_n hx hb dX12_toldComponent_206 rfl (lv_at hl 2 rfl) ?_
                                  refine lv_iconst (v := (-1)) hx hb dX12_toldComponent_207 (by decide) ?_
                                  refine va_iast (D := D) (i := z5) (x := (-1)) hx hb hK hP hD hS 18 17 rfl rfl (i_in (a := z5.toInt) rfl (by omega)) dX12_toldComponent_208 (fun H locs hP hD hS => ?_)
                                  obtain ⟨V559, hV559⟩ : ∃ z, z = up2 V383 25 (Int32.toNatClampNeg z5) (-1) := ⟨_, rfl⟩
                                  have hP : va_P D vwCl (mw ad kk ks.1 V559 L384) H := by rw [hV559]; exact hP
                                  have hD : va_D A (mw ad kk ks.1 V559 L384) := by rw [hV559]; exact hD
                                  have hMV559 : rgd bM V559 := hMV383.put hV559 (show (-1) ≤ Int32.toInt (-1) ∧ Int32.toInt (-1) ≤ 11 from by decide)
                                  have agV559 : agr [(0, 7), (0, 8), (0, 48), (0, 50), (0, 51), (0, 52)] [15, 19, 20, 21, 22, 23, 24, 25, 26, 27, 28, 29, 30, 31, 32, 33, 34, 35, 36, 37, 38, 45, 46, 47, 53] V V559 := agV383.up hV559 rfl
                                  refine lv_aload_n hx hb dX12_toldComponent_209 rfl (lv_at hl 3 rfl) ?_
                                  refine lv_bipush (v := 7) hx hb dX12_toldComponent_210 (by decide) ?_
                                  have r560 : Int32.toInt 7 = 7 := by decide
                                  have pq561 : (V559 0 8).toInt = ((V383 0 8)).toInt := congrArg Int32.toInt (up2_o hV559 (by decide))
                                  refine gA_int (gA_runV (As := [.int 7]) (rest := []) (ci := 12) (q0 := 0) hx hb hml hown hg hP hD hK hS hA hnw hgk (s_hasWordB l D ks H.size ad kk V559 L384 7 hMV559 (by decide) (show 1 ≤ (V559 0 8).toInt from by omega)) w2055 w2057 w90 w172 w2058 rfl rfl hdV_yX12_hasWord ⟨Nat.le_of_ble_eq_true rfl, Nat.le_of_ble_eq_true rfl⟩ rfl hl.1 rfl (Nat.le_of_ble_eq_true rfl) dX12_toldComponent_212 ⟨Nat.le_of_ble_eq_true rfl, Nat.le_of_ble_eq_true rfl⟩) hP hD hK hS hA (fun z562 u563 H locs w564 hP hD hK hS => ?_)
                                  obtain ⟨V566, L567⟩ := u563
                                  obtain ⟨hMV566, ajV566, axL567, rgz562, t565⟩ := w564
                                  have axL567 : L384 = L567 := Eq.symm axL567
                                  subst axL567
                                  have hP : va_P D vwCl (mw ad kk ks.1 V566 L384) H := hP
                                  have hD : va_D A (mw ad kk ks.1 V566 L384) := hD
                                  have hMV566 : rgd bM V566 := hMV566
                                  have ajV566 : agr [(0, 7)] [] V559 V566 := ajV566
                                  have agV566 : agr [(0, 7), (0, 8), (0, 48), (0, 50), (0, 51), (0, 52)] [15, 19, 20, 21, 22, 23, 24, 25, 26, 27, 28, 29, 30, 31, 32, 33, 34, 35, 36, 37, 38, 45, 46, 47, 53] V V566 := agV559.tr ajV566 (by decide) (by decide)
                                  have rgz562 : 0 ≤ z562.toInt ∧ z562.toInt ≤ 0 := rgz562
                                  have t565 : (V566 0 8).toInt = (V559 0 8).toInt := t565
                                  have pq568 : (V566 0 8).toInt = ((V383 0 8)).toInt := congrArg Int32.toInt ((ajV566 0 8 rfl).trans (up2_o hV559 (by decide)))
                                  refine lv_if_eq (tgt := 262) hx hb dX12_toldComponent_215 (by decide) (fun c569 => ?_) (fun c569 => ?_)
                                  · skip
                                    have f570 : z562.toInt = 0 := b_eq rfl (by decide) c569
                                    have pq571 : (V566 0 48).toInt = ((V 0 48)).toInt := congrArg Int32.toInt ((ajV566 0 48 rfl).trans ((up2_o hV559 (by decide)).trans ((ajV383 0 48 rfl).trans ((up2_o hV381 (by decide)).trans ((ajV370 0 48 rfl).trans ((ajV349 0 48 rfl).trans ((ajV330 0 48 rfl).trans ((ajV47 0 48 rfl).trans ((ajV42 0 48 rfl).trans ((ajV29 0 48 rfl).trans (ajV13 0 48 rfl)))))))))))
                                    have pq572 : (V566 0 12).toInt = ((V 0 12)).toInt := congrArg Int32.toInt ((ajV566 0 12 rfl).trans ((up2_o hV559 (by decide)).trans ((ajV383 0 12 rfl).trans ((up2_o hV381 (by decide)).trans ((ajV370 0 12 rfl).trans ((ajV349 0 12 rfl).trans ((ajV330 0 12 rfl).trans ((ajV47 0 12 rfl).trans ((ajV42 0 12 rfl).trans ((ajV29 0 12 rfl).trans (ajV13 0 12 rfl)))))))))))
                                    have rw573 : RoV 19 bq V V566 := (fun k hk => ((ajV566 19 k rfl).trans ((up2_o hV559 (by decide)).trans (xJ382_5 k hk))))
                                    have rw574 : RoV 35 bq V V566 := (fun k hk => ((ajV566 35 k rfl).trans ((up2_o hV559 (by decide)).trans (xJ382_6 k hk))))
                                    have rw575 : RoV 37 bq V V566 := (fun k hk => ((ajV566 37 k rfl).trans ((up2_o hV559 (by decide)).trans (xJ382_7 k hk))))
                                    have rw576 : RoL 20 24 bq L L384 := (fun k hk => (xJ382_8 k hk))
                                    have rw577 : RoL 36 20 bq L L384 := (fun k hk => (xJ382_9 k hk))
                                    have rw578 : RoL 38 20 bq L L384 := (fun k hk => (xJ382_10 k hk))
                                    exact J52 V566 L384 H locs ls alL384 (agr.tr (agr.up (agr.tr (agr.up (agr.tr (agr.tr (agr.tr agr.rf ajV330 (by decide) (by decide)) ajV349 (by decide) (by decide)) ajV370 (by decide) (by decide)) hV381 rfl) ajV383 (by decide) (by decide)) hV559 rfl) ajV566 (by decide) (by decide)) hMV566 (Or.inr ⟨(show 1 ≤ (V566 0 8).toInt from by omega), (fun k => by rw [show (V566 0 8).toInt = (V383 0 8).toInt from by omega]; exact h1 k)⟩) (fun h9 => by exfalso; omega) (show (V566 0 48).toInt ≤ 8000 from by omega) (show (V566 0 48).toInt = (V 0 48).toInt from by omega) (show (V566 0 12).toInt = (V 0 12).toInt from by omega) rw573 rw574 rw575 rw576 rw577 rw578 hP hD hS (lv_sub hl [0, 1, 2, 3] rfl)
                                  · skip
                                    have f579 : z562.toInt ≠ 0 := b_neq rfl (by decide) c569
                                    exfalso; omega
                              have J580 : ∀ (V581 : Vf) (L582 : Lf) (H : Heap) (locs : List Loc) (ls : Array Slot), agL [15, 19, 20, 21, 22, 23, 24, 25, 26, 27, 28, 29, 30, 31, 32, 33, 34, 35, 36, 37, 38, 45, 46, 47, 53] L L582 → agr [(0, 7), (0, 8)] [23, 35, 36, 37, 38] V381 V581 → rgd bM V581 → (((V581 0 8).toInt = 0 ∧ ∃ (s1 s0 : St) (m1 : Nat) (c1 : Int) (ca1 : Nat), (∀ k, Rc gT (Crun gs (Istmt :: k)) (Crun s1 (Irank m1 c1 (wx32) [ca1] :: k))) ∧ RelM V581 L582 bq gn gT s1 (gs.2.1 2) ∧ keepS (scopeS s0) 0 s1 ∧ s1.2.1 2 = gs.2.1 2 ∧ s1.2.2.1 = gs.2.2.1 ∧ gs.1 0 + 1 ≤ s1.1 0 ∧ keepC gs s1 ∧ BTm V581 21 gc m1 ∧ (V581 22 gc).toInt = ((c1.toNat : Nat) : Int) ∧ (V581 23 gc).toInt + 1 = ((ca1 : Nat) : Int)) ∨ (1 ≤ (V581 0 8).toInt ∧ ∀ k, Rc gT (Crun gs (Istmt :: k)) (Cbad (V581 0 8).toInt))) → ((V581 0 8).toInt = 0 → CNm V581 bq gs) → (V581 0 48).toInt ≤ 8000 → (V581 0 48).toInt = (V 0 48).toInt → (V581 0 12).toInt = (V 0 12).toInt → (RoV 19 bq V V581) → (RoV 35 bq V V581) → (RoV 37 bq V V581) → (RoL 20 24 bq L L582) → (RoL 36 20 bq L L582) → (RoL 38 20 bq L L582) → va_P D vwCl (mw ad kk ks.1 V581 L582) H → va_D A (mw ad kk ks.1 V581 L582) → va_S A s.heap H locs → lv_has ls 5 [(4, .int y46), (2, .long z25), (1, .int z5), (0, .ref (ad 0))] → W p l e r_s_toldComponentA s m ([.ref (ad 0)] : List Value).toArray below meth c H locs 0 0 (MQ below (q_s_toldComponentA D ks ad kk V L  bq gn gT gs A) ([.ref (ad 0)] : List Value).toArray s 0 0 A) (F0 m 176 ls []) := by
                                as_aux_lemma =>
                                (try clear ps380); (try clear fz378); (try clear rl377); (try clear hr375); (try clear hr364); (try clear ps362); (try clear fz360); (try clear hr359); (try clear fz338); (try clear ps337); (try clear hr336); (try clear kd335); (try clear rl324); (try clear fz39); (try clear ps38); (try clear hr37); (try clear fz21); (try clear ps20); (try clear hr19); (try clear hr18)
                                intro V581 L582 H locs ls alL582 ajV581 hMV581 xJ580_0 xJ580_1 xJ580_2 xJ580_3 xJ580_4 xJ580_5 xJ580_6 xJ580_7 xJ580_8 xJ580_9 xJ580_10 hP hD hS hl
                                have agV581 : agr [(0, 7), (0, 8), (0, 48), (0, 50), (0, 51), (0, 52)] [15, 19, 20, 21, 22, 23, 24, 25, 26, 27, 28, 29, 30, 31, 32, 33, 34, 35, 36, 37, 38, 45, 46, 47, 53] V V581 := agV381.tr ajV581 (by decide) (by decide)
                                have pq583 : (V581 0 48).toInt = ((V 0 48)).toInt := congrArg Int32.toInt ((ajV581 0 48 rfl).trans ((up2_o hV381 (by decide)).trans ((ajV370 0 48 rfl).trans ((ajV349 0 48 rfl).trans ((ajV330 0 48 rfl).trans ((ajV47 0 48 rfl).trans ((ajV42 0 48 rfl).trans ((ajV29 0 48 rfl).trans (ajV13 0 48 rfl)))))))))
                                have pq584 : (V581 0 12).toInt = ((V 0 12)).toInt := congrArg Int32.toInt ((ajV581 0 12 rfl).trans ((up2_o hV381 (by decide)).trans ((ajV370 0 12 rfl).trans ((ajV349 0 12 rfl).trans ((ajV330 0 12 rfl).trans ((ajV47 0 12 rfl).trans ((ajV42 0 12 rfl).trans ((ajV29 0 12 rfl).trans (ajV13 0 12 rfl)))))))))
                                rcases xJ580_0 with ⟨f7, s1, s0, m1, c1, ca1, h1, r1, k1, t1, w1, g1, q1, b1, d1, e1⟩ | ⟨f7, h1⟩
                                · skip
                                  have fz585 := RelM.rg r1
                                  have r586 : 0 ≤ ((V581 0 8)).toInt ∧ ((V581 0 8)).toInt ≤ 70000 := hMV581 0 8
                                  refine lv_aload_n hx hb dX12_toldComponent_176 rfl (lv_at hl 3 rfl) ?_
                                  refine va_get (D := D) (ci := 12) (v := .ref (ad 24)) (C := RX12) (T := TX12) (N := 100) hx hb hg inX12 hown hK hP 0 rfl rfl 24 (by decide) (hg _ w1734) (fun _ h9 => h9) rfl dX12_toldComponent_177 ?_
                                  refine lv_iload_n hx hb dX12_toldComponent_180 rfl (lv_at hl 2 rfl) ?_
                                  refine lv_aload_n hx hb dX12_toldComponent_181 rfl (lv_at hl 3 rfl) ?_
                                  refine lv_bipush (v := 6) hx hb dX12_toldComponent_182 (by decide) ?_
                                  have r587 : Int32.toInt 6 = 6 := by decide
                                  refine gA_int (gA_runV (As := [.int 6]) (rest := [.int z5, .ref (ad 24)]) (ci := 12) (q0 := 0) hx hb hml hown hg hP hD hK hS hA hnw hgk (s_hasWordA l D ks H.size ad kk V581 L582 6 (bq) (gn) (gT) (s1) ((gs.2.1 2)) hMV581 (by decide) r1) w2055 w2057 w90 w172 w2058 rfl rfl hdV_yX12_hasWord ⟨Nat.le_of_ble_eq_true rfl, Nat.le_of_ble_eq_true rfl⟩ rfl hl.1 rfl (Nat.le_of_ble_eq_true rfl) dX12_toldComponent_184 ⟨Nat.le_of_ble_eq_true rfl, Nat.le_of_ble_eq_true rfl⟩) hP hD hK hS hA (fun z588 u589 H locs w590 hP hD hK hS => ?_)
                                  obtain ⟨V592, L593⟩ := u589
                                  obtain ⟨hMV592, ajV592, axL593, rgz588, t591⟩ := w590
                                  have axL593 : L582 = L593 := Eq.symm axL593
                                  subst axL593
                                  have hP : va_P D vwCl (mw ad kk ks.1 V592 L582) H := hP
                                  have hD : va_D A (mw ad kk ks.1 V592 L582) := hD
                                  have hMV592 : rgd bM V592 := hMV592
                                  have ajV592 : agr [(0, 7)] [] V581 V592 := ajV592
                                  have agV592 : agr [(0, 7), (0, 8), (0, 48), (0, 50), (0, 51), (0, 52)] [15, 19, 20, 21, 22, 23, 24, 25, 26, 27, 28, 29, 30, 31, 32, 33, 34, 35, 36, 37, 38, 45, 46, 47, 53] V V592 := agV581.tr ajV592 (by decide) (by decide)
                                  have rgz588 : 0 ≤ z588.toInt ∧ z588.toInt ≤ 1 := rgz588
                                  have t591 : (z588.toInt = 1 ∧ (gT).1 ((s1).1 0) = 128 + (Int32.toInt 6) ∧ RelM V592 L582 (bq) (gn) (gT) (nx (s1) 1) ((gs.2.1 2))) ∨ (z588.toInt = 0 ∧ (gT).1 ((s1).1 0) ≠ 128 + (Int32.toInt 6) ∧ RelM V592 L582 (bq) (gn) (gT) (s1) ((gs.2.1 2))) := t591
                                  rcases t591 with ⟨q594, h595, rl596⟩ | ⟨q594, h595, rl596⟩
                                  · skip
                                    have kd597 : gT.1 (s1.1 0) = 134 := h595.trans (by decide)
                                    have hr598 : ∀ k, Rc gT (Crun gs (Istmt :: k)) (Crun (nx s1 1) (IrankN m1 c1 wx32 [ca1] :: k)) := fun k => Rc.go1 (h1 k) (rank_y m1 c1 wx32 [ca1] kd597)
                                    have ps599 : (nx s1 1).1 0 = s1.1 0 + 1 := rfl
                                    have fz600 := RelM.rg rl596
                                    have pq601 : (V592 0 8).toInt = ((V581 0 8)).toInt := congrArg Int32.toInt (ajV592 0 8 rfl)
                                    refine lv_if_eq (tgt := 200) hx hb dX12_toldComponent_187 (by decide) (fun c602 => ?_) (fun c602 => ?_)
                                    · skip
                                      have f603 : z588.toInt = 0 := b_eq rfl (by decide) c602
                                      exfalso; omega
                                    · skip
                                      have f604 : z588.toInt ≠ 0 := b_neq rfl (by decide) c602
                                      refine lv_aload_n hx hb dX12_toldComponent_190 rfl (lv_at hl 3 rfl) ?_
                                      refine lv_iconst (v := 0) hx hb dX12_toldComponent_191 (by decide) ?_
                                      refine lv_bipush (v := 9) hx hb dX12_toldComponent_192 (by decide) ?_
                                      have r605 : Int32.toInt 9 = 9 := by decide
                                      refine gA_int (gA_runV (As := [.int 0, .int 9]) (rest := [.int z5, .ref (ad 24)]) (ci := 12) (q0 := 0) hx hb hml hown hg hP hD hK hS hA hnw hgk (s_takeNumberA l D ks H.size ad kk V592 L582 0 9 (bq) (gn) (gT) ((nx s1 1)) ((gs.2.1 2)) hMV592 rl596 (show -1 ≤ (Int32.toInt 9) ∧ (Int32.toInt 9) ≤ 999999999 from by omega) (show 0 ≤ (Int32.toInt 0) from by omega)) w2088 w2090 w98 w172 w2091 rfl rfl hdV_yX12_takeNumber ⟨Nat.le_of_ble_eq_true rfl, Nat.le_of_ble_eq_true rfl⟩ rfl hl.1 rfl (Nat.le_of_ble_eq_true rfl) dX12_toldComponent_194 ⟨Nat.le_of_ble_eq_true rfl, Nat.le_of_ble_eq_true rfl⟩) hP hD hK hS hA (fun z606 u607 H locs w608 hP hD hK hS => ?_)
                                      obtain ⟨V613, L614⟩ := u607
                                      obtain ⟨hMV613, ajV613, axL614, t609, t610, t611, t612⟩ := w608
                                      have axL614 : L582 = L614 := Eq.symm axL614
                                      subst axL614
                                      have hP : va_P D vwCl (mw ad kk ks.1 V613 L582) H := hP
                                      have hD : va_D A (mw ad kk ks.1 V613 L582) := hD
                                      have hMV613 : rgd bM V613 := hMV613
                                      have ajV613 : agr [(0, 7), (0, 8)] [] V592 V613 := ajV613
                                      have agV613 : agr [(0, 7), (0, 8), (0, 48), (0, 50), (0, 51), (0, 52)] [15, 19, 20, 21, 22, 23, 24, 25, 26, 27, 28, 29, 30, 31, 32, 33, 34, 35, 36, 37, 38, 45, 46, 47, 53] V V613 := agV592.tr ajV613 (by decide) (by decide)
                                      have t609 : ((V613 0 8).toInt = 0 ∧ (gT).1 (((nx s1 1)).1 0) = 2 ∧ (Int32.toInt 0) ≤ ((gT).2.1 (((nx s1 1)).1 0)).toInt ∧ ((gT).2.1 (((nx s1 1)).1 0)).toInt ≤ (Int32.toInt 9) ∧ RelM V613 L582 (bq) (gn) (gT) (nx ((nx s1 1)) 1) ((gs.2.1 2))) ∨ (1 ≤ (V613 0 8).toInt ∧ (((gT).1 (((nx s1 1)).1 0) ≠ 2 ∧ (V613 0 8).toInt = 1 + 16 * (gT).2.2 (((nx s1 1)).1 0)) ∨ ((gT).1 (((nx s1 1)).1 0) = 2 ∧ (((gT).2.1 (((nx s1 1)).1 0)).toInt < (Int32.toInt 0) ∨ (Int32.toInt 9) < ((gT).2.1 (((nx s1 1)).1 0)).toInt) ∧ (V613 0 8).toInt = 4 + 16 * (gT).2.2 (((nx s1 1)).1 0)))) := t609
                                      have t610 : Imp ((V613 0 8).toInt = 0) ((Int32.toInt 0) ≤ z606.toInt ∧ z606.toInt ≤ (Int32.toInt 9)) := t610
                                      have t611 : Imp (1 ≤ (V613 0 8).toInt) (z606.toInt = 0) := t611
                                      have t612 : Imp ((V613 0 8).toInt = 0) (z606.toInt = ((gT).2.1 (((nx s1 1)).1 0)).toInt) := t612
                                      have r615 : 0 ≤ ((V613 0 8)).toInt ∧ ((V613 0 8)).toInt ≤ 70000 := hMV613 0 8
                                      rcases t609 with ⟨q616, h617, h618, h619, rl620⟩ | ⟨q616, ⟨h617, rl620⟩ | ⟨h617, h618, rl620⟩⟩
                                      · skip
                                        have hr621 : ∀ k, Rc gT (Crun gs (Istmt :: k)) (Crun (nx (nx s1 1) 1) (IwhenI m1 c1 wx32 [(gT.2.1 ((nx s1 1).1 0)).toInt.toNat, ca1] :: k)) := fun k => Rc.go1 (hr598 k) (vr_y h617 (by omega) (by omega))
                                        have nw622 := Imp.go t612 q616
                                        have ps623 : (nx (nx s1 1) 1).1 0 = (nx s1 1).1 0 + 1 := rfl
                                        have fz624 := RelM.rg rl620
                                        have nr625 := Imp.go t610 q616
                                        refine lv_goto (tgt := 201) hx hb dX12_toldComponent_197 (by decide) ?_
                                        refine va_iast (D := D) (i := z5) (x := z606) hx hb hK hP hD hS 17 16 rfl rfl (i_in (a := z5.toInt) rfl (by first | exact ⟨z5r, z5s⟩ | omega | ((try (have i_t611 := Imp.go t611 (by omega))); (try (have i_t610 := Imp.go t610 (by omega))); (try (have i_t610 := Imp.go t610 (by omega))); (try (have i_t611 := Imp.go t611 (by omega))); omega))) dX12_toldComponent_201 (fun H locs hP hD hS => ?_)
                                        obtain ⟨V626, hV626⟩ : ∃ z, z = up2 V613 24 (Int32.toNatClampNeg z5) z606 := ⟨_, rfl⟩
                                        have hP : va_P D vwCl (mw ad kk ks.1 V626 L582) H := by rw [hV626]; exact hP
                                        have hD : va_D A (mw ad kk ks.1 V626 L582) := by rw [hV626]; exact hD
                                        have hMV626 : rgd bM V626 := hMV613.put hV626 (show 0 ≤ z606.toInt ∧ z606.toInt ≤ 9 from by first | omega | ((try (have i_t611 := Imp.go t611 (by omega))); (try (have i_t610 := Imp.go t610 (by omega))); (try (have i_t610 := Imp.go t610 (by omega))); (try (have i_t611 := Imp.go t611 (by omega))); omega))
                                        have agV626 : agr [(0, 7), (0, 8), (0, 48), (0, 50), (0, 51), (0, 52)] [15, 19, 20, 21, 22, 23, 24, 25, 26, 27, 28, 29, 30, 31, 32, 33, 34, 35, 36, 37, 38, 45, 46, 47, 53] V V626 := agV613.up hV626 rfl
                                        have pq627 : (V626 0 48).toInt = ((V 0 48)).toInt := congrArg Int32.toInt ((up2_o hV626 (by decide)).trans ((ajV613 0 48 rfl).trans ((ajV592 0 48 rfl).trans ((ajV581 0 48 rfl).trans ((up2_o hV381 (by decide)).trans ((ajV370 0 48 rfl).trans ((ajV349 0 48 rfl).trans ((ajV330 0 48 rfl).trans ((ajV47 0 48 rfl).trans ((ajV42 0 48 rfl).trans ((ajV29 0 48 rfl).trans (ajV13 0 48 rfl))))))))))))
                                        have pq628 : (V626 0 12).toInt = ((V 0 12)).toInt := congrArg Int32.toInt ((up2_o hV626 (by decide)).trans ((ajV613 0 12 rfl).trans ((ajV592 0 12 rfl).trans ((ajV581 0 12 rfl).trans ((up2_o hV381 (by decide)).trans ((ajV370 0 12 rfl).trans ((ajV349 0 12 rfl).trans ((ajV330 0 12 rfl).trans ((ajV47 0 12 rfl).trans ((ajV42 0 12 rfl).trans ((ajV29 0 12 rfl).trans (ajV13 0 12 rfl))))))))))))
                                        have rl629 : RelM V626 L582 bq gn gT (nx (nx s1 1) 1) (gs.2.1 2) := RelM.ag rl620 (show agr [] [24] V613 V626 from (agr.up agr.rf hV626 rfl)) (by decide) (show agL [] L582 L582 from agL.rf) (by decide)
                                        have hj630 := d1
                                        have hj631 := e1
                                        have pq632 : (V626 22 gc).toInt = ((V381 22 gc)).toInt := congrArg Int32.toInt ((up2_o hV626 (by decide)).trans ((ajV613 22 gc rfl).trans ((ajV592 22 gc rfl).trans (ajV581 22 gc rfl))))
                                        have pq633 : (V581 22 gc).toInt = ((V381 22 gc)).toInt := congrArg Int32.toInt (ajV581 22 gc rfl)
                                        have pq634 : (V626 23 gc).toInt = ((V581 23 gc)).toInt := congrArg Int32.toInt ((up2_o hV626 (by decide)).trans ((ajV613 23 gc rfl).trans (ajV592 23 gc rfl)))
                                        have pq635 : (V626 24 (Int32.toNatClampNeg z5)).toInt = z606.toInt := congrArg Int32.toInt (up2_s hV626)
                                        have gv636 : (V626 24 gc).toInt = (V626 24 (Int32.toNatClampNeg z5)).toInt := by rw [kgc]
                                        have ps637 : s1.1 0 + 1 ≤ (nx s1 1).1 0 := ((keepS.n1 1)).1
                                        have ps638 : (nx s1 1).1 0 + 1 ≤ (nx (nx s1 1) 1).1 0 := ((keepS.n1 1)).1
                                        have cn639 : CNm V613 bq gs := CNm.ag (xJ580_1 f7) (show agr [(0, 7), (0, 8)] [] V581 V613 from (agr.tr (agr.tr agr.rf ajV592 (by decide) (by decide)) ajV613 (by decide) (by decide))) (by decide) keepC.rf
                                        have cn640 : CNm V626 bq gs := CNm.up cn639 hV626 (fun q9 => by have h9 := i_clamp (x := z5) rfl (by omega); unfold rdm at q9; omega)
                                        have rw641 : RoV 19 bq V V626 := (fun k hk => ((up2_o hV626 (by decide)).trans ((ajV613 19 k rfl).trans ((ajV592 19 k rfl).trans (xJ580_5 k hk)))))
                                        have rw642 : RoV 35 bq V V626 := (fun k hk => ((up2_o hV626 (by decide)).trans ((ajV613 35 k rfl).trans ((ajV592 35 k rfl).trans (xJ580_6 k hk)))))
                                        have rw643 : RoV 37 bq V V626 := (fun k hk => ((up2_o hV626 (by decide)).trans ((ajV613 37 k rfl).trans ((ajV592 37 k rfl).trans (xJ580_7 k hk)))))
                                        have rw644 : RoL 20 24 bq L L582 := (fun k hk => (xJ580_8 k hk))
                                        have rw645 : RoL 36 20 bq L L582 := (fun k hk => (xJ580_9 k hk))
                                        have rw646 : RoL 38 20 bq L L582 := (fun k hk => (xJ580_10 k hk))
                                        exact J382 V626 L582 H locs ls alL582 (agr.up (agr.tr (agr.tr (agr.tr agr.rf ajV581 (by decide) (by decide)) ajV592 (by decide) (by decide)) ajV613 (by decide) (by decide)) hV626 rfl) hMV626 (Or.inl ⟨W0 rl629, (nx (nx s1 1) 1), s0, m1, c1, ca1, (gT.2.1 ((nx s1 1).1 0)).toInt.toNat, hr621, rl629, keepS.le (keepS.tr (keepS.tr (keepS.tr (keepS.rf : keepS (scopeS s0) 0 (scopeS s0)) k1) (keepS.n1 1)) (keepS.n1 1)) (by decide), ((((keepS.n1 1)).2.2.1 2 (by decide)).trans ((((keepS.n1 1)).2.2.1 2 (by decide)).trans t1)), ((congrArg (fun q9 => q9.1) ((keepS.n1 1)).2.2.2).trans ((congrArg (fun q9 => q9.1) ((keepS.n1 1)).2.2.2).trans w1)), (by omega), (keepC.tr (keepC.tr q1 (keepS.c (keepS.n1 1))) (keepS.c (keepS.n1 1))), (BTm.ag b1 (by rw [(up2_fo hV626 (by decide) : V626 21 = V613 21), (funext (fun q => ajV613 21 q rfl) : V613 21 = V592 21), (funext (fun q => ajV592 21 q rfl) : V592 21 = V581 21)] : V626 21 = V581 21)), (show (V626 22 gc).toInt = _ from by omega), (show (V626 23 gc).toInt + 1 = _ from by omega), (show (V626 24 gc).toInt = _ from by omega)⟩) (fun _ => cn640) (show (V626 0 48).toInt ≤ 8000 from by first | omega | ((try (have i_t611 := Imp.go t611 (by omega))); (try (have i_t610 := Imp.go t610 (by omega))); (try (have i_t610 := Imp.go t610 (by omega))); (try (have i_t611 := Imp.go t611 (by omega))); omega)) (show (V626 0 48).toInt = (V 0 48).toInt from by first | omega | ((try (have i_t611 := Imp.go t611 (by omega))); (try (have i_t610 := Imp.go t610 (by omega))); (try (have i_t610 := Imp.go t610 (by omega))); (try (have i_t611 := Imp.go t611 (by omega))); omega)) (show (V626 0 12).toInt = (V 0 12).toInt from by first | omega | ((try (have i_t611 := Imp.go t611 (by omega))); (try (have i_t610 := Imp.go t610 (by omega))); (try (have i_t610 := Imp.go t610 (by omega))); (try (have i_t611 := Imp.go t611 (by omega))); omega)) rw641 rw642 rw643 rw644 rw645 rw646 hP hD hS (lv_sub hl [0, 1, 2, 3] rfl)
                                      · skip
                                        have hb647 : ∀ k, Rc gT (Crun gs (Istmt :: k)) (Cbad (V613 0 8).toInt) := fun k => Rc.go1 (hr598 k) ((vr_1 h617).trans (fl_eq rfl rl620))
                                        have nr648 := Imp.go t611 q616
                                        refine lv_goto (tgt := 201) hx hb dX12_toldComponent_197 (by decide) ?_
                                        refine va_iast (D := D) (i := z5) (x := z606) hx hb hK hP hD hS 17 16 rfl rfl (i_in (a := z5.toInt) rfl (by first | exact ⟨z5r, z5s⟩ | omega | ((try (have i_t611 := Imp.go t611 (by omega))); (try (have i_t610 := Imp.go t610 (by omega))); (try (have i_t610 := Imp.go t610 (by omega))); (try (have i_t611 := Imp.go t611 (by omega))); omega))) dX12_toldComponent_201 (fun H locs hP hD hS => ?_)
                                        obtain ⟨V649, hV649⟩ : ∃ z, z = up2 V613 24 (Int32.toNatClampNeg z5) z606 := ⟨_, rfl⟩
                                        have hP : va_P D vwCl (mw ad kk ks.1 V649 L582) H := by rw [hV649]; exact hP
                                        have hD : va_D A (mw ad kk ks.1 V649 L582) := by rw [hV649]; exact hD
                                        have hMV649 : rgd bM V649 := hMV613.put hV649 (show 0 ≤ z606.toInt ∧ z606.toInt ≤ 9 from by first | omega | ((try (have i_t611 := Imp.go t611 (by omega))); (try (have i_t610 := Imp.go t610 (by omega))); (try (have i_t610 := Imp.go t610 (by omega))); (try (have i_t611 := Imp.go t611 (by omega))); omega))
                                        have agV649 : agr [(0, 7), (0, 8), (0, 48), (0, 50), (0, 51), (0, 52)] [15, 19, 20, 21, 22, 23, 24, 25, 26, 27, 28, 29, 30, 31, 32, 33, 34, 35, 36, 37, 38, 45, 46, 47, 53] V V649 := agV613.up hV649 rfl
                                        have pq650 : (V649 0 48).toInt = ((V 0 48)).toInt := congrArg Int32.toInt ((up2_o hV649 (by decide)).trans ((ajV613 0 48 rfl).trans ((ajV592 0 48 rfl).trans ((ajV581 0 48 rfl).trans ((up2_o hV381 (by decide)).trans ((ajV370 0 48 rfl).trans ((ajV349 0 48 rfl).trans ((ajV330 0 48 rfl).trans ((ajV47 0 48 rfl).trans ((ajV42 0 48 rfl).trans ((ajV29 0 48 rfl).trans (ajV13 0 48 rfl))))))))))))
                                        have pq651 : (V649 0 12).toInt = ((V 0 12)).toInt := congrArg Int32.toInt ((up2_o hV649 (by decide)).trans ((ajV613 0 12 rfl).trans ((ajV592 0 12 rfl).trans ((ajV581 0 12 rfl).trans ((up2_o hV381 (by decide)).trans ((ajV370 0 12 rfl).trans ((ajV349 0 12 rfl).trans ((ajV330 0 12 rfl).trans ((ajV47 0 12 rfl).trans ((ajV42 0 12 rfl).trans ((ajV29 0 12 rfl).trans (ajV13 0 12 rfl))))))))))))
                                        have pq652 : (V649 0 8).toInt = ((V613 0 8)).toInt := congrArg Int32.toInt (up2_o hV649 (by decide))
                                        have rw653 : RoV 19 bq V V649 := (fun k hk => ((up2_o hV649 (by decide)).trans ((ajV613 19 k rfl).trans ((ajV592 19 k rfl).trans (xJ580_5 k hk)))))
                                        have rw654 : RoV 35 bq V V649 := (fun k hk => ((up2_o hV649 (by decide)).trans ((ajV613 35 k rfl).trans ((ajV592 35 k rfl).trans (xJ580_6 k hk)))))
                                        have rw655 : RoV 37 bq V V649 := (fun k hk => ((up2_o hV649 (by decide)).trans ((ajV613 37 k rfl).trans ((ajV592 37 k rfl).trans (xJ580_7 k hk)))))
                                        have rw656 : RoL 20 24 bq L L582 := (fun k hk => (xJ580_8 k hk))
                                        have rw657 : RoL 36 20 bq L L582 := (fun k hk => (xJ580_9 k hk))
                                        have rw658 : RoL 38 20 bq L L582 := (fun k hk => (xJ580_10 k hk))
                                        exact J382 V649 L582 H locs ls alL582 (agr.up (agr.tr (agr.tr (agr.tr agr.rf ajV581 (by decide) (by decide)) ajV592 (by decide) (by decide)) ajV613 (by decide) (by decide)) hV649 rfl) hMV649 (Or.inr ⟨(show 1 ≤ (V649 0 8).toInt from by omega), (fun k => by rw [show (V649 0 8).toInt = (V613 0 8).toInt from by omega]; exact hb647 k)⟩) (fun h9 => by exfalso; omega) (show (V649 0 48).toInt ≤ 8000 from by first | omega | ((try (have i_t611 := Imp.go t611 (by omega))); (try (have i_t610 := Imp.go t610 (by omega))); (try (have i_t610 := Imp.go t610 (by omega))); (try (have i_t611 := Imp.go t611 (by omega))); omega)) (show (V649 0 48).toInt = (V 0 48).toInt from by first | omega | ((try (have i_t611 := Imp.go t611 (by omega))); (try (have i_t610 := Imp.go t610 (by omega))); (try (have i_t610 := Imp.go t610 (by omega))); (try (have i_t611 := Imp.go t611 (by omega))); omega)) (show (V649 0 12).toInt = (V 0 12).toInt from by first | omega | ((try (have i_t611 := Imp.go t611 (by omega))); (try (have i_t610 := Imp.go t610 (by omega))); (try (have i_t610 := Imp.go t610 (by omega))); (try (have i_t611 := Imp.go t611 (by omega))); omega)) rw653 rw654 rw655 rw656 rw657 rw658 hP hD hS (lv_sub hl [0, 1, 2, 3] rfl)
                                      · skip
                                        have hb659 : ∀ k, Rc gT (Crun gs (Istmt :: k)) (Cbad (V613 0 8).toInt) := fun k => Rc.go1 (hr598 k) ((vr_4 h617 (by omega)).trans (fl_eq rfl rl620))
                                        have nr660 := Imp.go t611 q616
                                        refine lv_goto (tgt := 201) hx hb dX12_toldComponent_197 (by decide) ?_
                                        refine va_iast (D := D) (i := z5) (x := z606) hx hb hK hP hD hS 17 16 rfl rfl (i_in (a := z5.toInt) rfl (by first | exact ⟨z5r, z5s⟩ | omega | ((try (have i_t611 := Imp.go t611 (by omega))); (try (have i_t610 := Imp.go t610 (by omega))); (try (have i_t610 := Imp.go t610 (by omega))); (try (have i_t611 := Imp.go t611 (by omega))); omega))) dX12_toldComponent_201 (fun H locs hP hD hS => ?_)
                                        obtain ⟨V661, hV661⟩ : ∃ z, z = up2 V613 24 (Int32.toNatClampNeg z5) z606 := ⟨_, rfl⟩
                                        have hP : va_P D vwCl (mw ad kk ks.1 V661 L582) H := by rw [hV661]; exact hP
                                        have hD : va_D A (mw ad kk ks.1 V661 L582) := by rw [hV661]; exact hD
                                        have hMV661 : rgd bM V661 := hMV613.put hV661 (show 0 ≤ z606.toInt ∧ z606.toInt ≤ 9 from by first | omega | ((try (have i_t611 := Imp.go t611 (by omega))); (try (have i_t610 := Imp.go t610 (by omega))); (try (have i_t610 := Imp.go t610 (by omega))); (try (have i_t611 := Imp.go t611 (by omega))); omega))
                                        have agV661 : agr [(0, 7), (0, 8), (0, 48), (0, 50), (0, 51), (0, 52)] [15, 19, 20, 21, 22, 23, 24, 25, 26, 27, 28, 29, 30, 31, 32, 33, 34, 35, 36, 37, 38, 45, 46, 47, 53] V V661 := agV613.up hV661 rfl
                                        have pq662 : (V661 0 48).toInt = ((V 0 48)).toInt := congrArg Int32.toInt ((up2_o hV661 (by decide)).trans ((ajV613 0 48 rfl).trans ((ajV592 0 48 rfl).trans ((ajV581 0 48 rfl).trans ((up2_o hV381 (by decide)).trans ((ajV370 0 48 rfl).trans ((ajV349 0 48 rfl).trans ((ajV330 0 48 rfl).trans ((ajV47 0 48 rfl).trans ((ajV42 0 48 rfl).trans ((ajV29 0 48 rfl).trans (ajV13 0 48 rfl))))))))))))
                                        have pq663 : (V661 0 12).toInt = ((V 0 12)).toInt := congrArg Int32.toInt ((up2_o hV661 (by decide)).trans ((ajV613 0 12 rfl).trans ((ajV592 0 12 rfl).trans ((ajV581 0 12 rfl).trans ((up2_o hV381 (by decide)).trans ((ajV370 0 12 rfl).trans ((ajV349 0 12 rfl).trans ((ajV330 0 12 rfl).trans ((ajV47 0 12 rfl).trans ((ajV42 0 12 rfl).trans ((ajV29 0 12 rfl).trans (ajV13 0 12 rfl))))))))))))
                                        have pq664 : (V661 0 8).toInt = ((V613 0 8)).toInt := congrArg Int32.toInt (up2_o hV661 (by decide))
                                        have rw665 : RoV 19 bq V V661 := (fun k hk => ((up2_o hV661 (by decide)).trans ((ajV613 19 k rfl).trans ((ajV592 19 k rfl).trans (xJ580_5 k hk)))))
                                        have rw666 : RoV 35 bq V V661 := (fun k hk => ((up2_o hV661 (by decide)).trans ((ajV613 35 k rfl).trans ((ajV592 35 k rfl).trans (xJ580_6 k hk)))))
                                        have rw667 : RoV 37 bq V V661 := (fun k hk => ((up2_o hV661 (by decide)).trans ((ajV613 37 k rfl).trans ((ajV592 37 k rfl).trans (xJ580_7 k hk)))))
                                        have rw668 : RoL 20 24 bq L L582 := (fun k hk => (xJ580_8 k hk))
                                        have rw669 : RoL 36 20 bq L L582 := (fun k hk => (xJ580_9 k hk))
                                        have rw670 : RoL 38 20 bq L L582 := (fun k hk => (xJ580_10 k hk))
                                        exact J382 V661 L582 H locs ls alL582 (agr.up (agr.tr (agr.tr (agr.tr agr.rf ajV581 (by decide) (by decide)) ajV592 (by decide) (by decide)) ajV613 (by decide) (by decide)) hV661 rfl) hMV661 (Or.inr ⟨(show 1 ≤ (V661 0 8).toInt from by omega), (fun k => by rw [show (V661 0 8).toInt = (V613 0 8).toInt from by omega]; exact hb659 k)⟩) (fun h9 => by exfalso; omega) (show (V661 0 48).toInt ≤ 8000 from by first | omega | ((try (have i_t611 := Imp.go t611 (by omega))); (try (have i_t610 := Imp.go t610 (by omega))); (try (have i_t610 := Imp.go t610 (by omega))); (try (have i_t611 := Imp.go t611 (by omega))); omega)) (show (V661 0 48).toInt = (V 0 48).toInt from by first | omega | ((try (have i_t611 := Imp.go t611 (by omega))); (try (have i_t610 := Imp.go t610 (by omega))); (try (have i_t610 := Imp.go t610 (by omega))); (try (have i_t611 := Imp.go t611 (by omega))); omega)) (show (V661 0 12).toInt = (V 0 12).toInt from by first | omega | ((try (have i_t611 := Imp.go t611 (by omega))); (try (have i_t610 := Imp.go t610 (by omega))); (try (have i_t610 := Imp.go t610 (by omega))); (try (have i_t611 := Imp.go t611 (by omega))); omega)) rw665 rw666 rw667 rw668 rw669 rw670 hP hD hS (lv_sub hl [0, 1, 2, 3] rfl)
                                  · skip
                                    have kd671 : gT.1 (s1.1 0) ≠ 134 := fun h9 => h595 (h9.trans (by decide))
                                    have fz672 := RelM.rg rl596
                                    have pq673 : (V592 0 8).toInt = ((V581 0 8)).toInt := congrArg Int32.toInt (ajV592 0 8 rfl)
                                    refine lv_if_eq (tgt := 200) hx hb dX12_toldComponent_187 (by decide) (fun c674 => ?_) (fun c674 => ?_)
                                    · skip
                                      have f675 : z588.toInt = 0 := b_eq rfl (by decide) c674
                                      refine lv_iconst (v := 0) hx hb dX12_toldComponent_200 (by decide) ?_
                                      refine va_iast (D := D) (i := z5) (x := 0) hx hb hK hP hD hS 17 16 rfl rfl (i_in (a := z5.toInt) rfl (by omega)) dX12_toldComponent_201 (fun H locs hP hD hS => ?_)
                                      obtain ⟨V676, hV676⟩ : ∃ z, z = up2 V592 24 (Int32.toNatClampNeg z5) 0 := ⟨_, rfl⟩
                                      have hP : va_P D vwCl (mw ad kk ks.1 V676 L582) H := by rw [hV676]; exact hP
                                      have hD : va_D A (mw ad kk ks.1 V676 L582) := by rw [hV676]; exact hD
                                      have hMV676 : rgd bM V676 := hMV592.put hV676 (show 0 ≤ Int32.toInt 0 ∧ Int32.toInt 0 ≤ 9 from by decide)
                                      have agV676 : agr [(0, 7), (0, 8), (0, 48), (0, 50), (0, 51), (0, 52)] [15, 19, 20, 21, 22, 23, 24, 25, 26, 27, 28, 29, 30, 31, 32, 33, 34, 35, 36, 37, 38, 45, 46, 47, 53] V V676 := agV592.up hV676 rfl
                                      have pq677 : (V676 0 48).toInt = ((V 0 48)).toInt := congrArg Int32.toInt ((up2_o hV676 (by decide)).trans ((ajV592 0 48 rfl).trans ((ajV581 0 48 rfl).trans ((up2_o hV381 (by decide)).trans ((ajV370 0 48 rfl).trans ((ajV349 0 48 rfl).trans ((ajV330 0 48 rfl).trans ((ajV47 0 48 rfl).trans ((ajV42 0 48 rfl).trans ((ajV29 0 48 rfl).trans (ajV13 0 48 rfl)))))))))))
                                      have pq678 : (V676 0 12).toInt = ((V 0 12)).toInt := congrArg Int32.toInt ((up2_o hV676 (by decide)).trans ((ajV592 0 12 rfl).trans ((ajV581 0 12 rfl).trans ((up2_o hV381 (by decide)).trans ((ajV370 0 12 rfl).trans ((ajV349 0 12 rfl).trans ((ajV330 0 12 rfl).trans ((ajV47 0 12 rfl).trans ((ajV42 0 12 rfl).trans ((ajV29 0 12 rfl).trans (ajV13 0 12 rfl)))))))))))
                                      have hr679 : ∀ k, Rc gT (Crun gs (Istmt :: k)) (Crun s1 (IwhenI m1 c1 wx32 [0, ca1] :: k)) := fun k => Rc.go1 (h1 k) (rank_n m1 c1 wx32 [ca1] kd671)
                                      have rl680 : RelM V676 L582 bq gn gT s1 (gs.2.1 2) := RelM.ag rl596 (show agr [] [24] V592 V676 from (agr.up agr.rf hV676 rfl)) (by decide) (show agL [] L582 L582 from agL.rf) (by decide)
                                      have hj681 := d1
                                      have hj682 := e1
                                      have pq683 : (V676 22 gc).toInt = ((V381 22 gc)).toInt := congrArg Int32.toInt ((up2_o hV676 (by decide)).trans ((ajV592 22 gc rfl).trans (ajV581 22 gc rfl)))
                                      have pq684 : (V581 22 gc).toInt = ((V381 22 gc)).toInt := congrArg Int32.toInt (ajV581 22 gc rfl)
                                      have pq685 : (V676 23 gc).toInt = ((V581 23 gc)).toInt := congrArg Int32.toInt ((up2_o hV676 (by decide)).trans (ajV592 23 gc rfl))
                                      have pq686 : (V676 24 (Int32.toNatClampNeg z5)).toInt = 0 := (congrArg Int32.toInt (up2_s hV676)).trans (by decide)
                                      have gv687 : (V676 24 gc).toInt = (V676 24 (Int32.toNatClampNeg z5)).toInt := by rw [kgc]
                                      have cn688 : CNm V592 bq gs := CNm.ag (xJ580_1 f7) (show agr [(0, 7)] [] V581 V592 from (agr.tr agr.rf ajV592 (by decide) (by decide))) (by decide) keepC.rf
                                      have cn689 : CNm V676 bq gs := CNm.up cn688 hV676 (fun q9 => by have h9 := i_clamp (x := z5) rfl (by omega); unfold rdm at q9; omega)
                                      have rw690 : RoV 19 bq V V676 := (fun k hk => ((up2_o hV676 (by decide)).trans ((ajV592 19 k rfl).trans (xJ580_5 k hk))))
                                      have rw691 : RoV 35 bq V V676 := (fun k hk => ((up2_o hV676 (by decide)).trans ((ajV592 35 k rfl).trans (xJ580_6 k hk))))
                                      have rw692 : RoV 37 bq V V676 := (fun k hk => ((up2_o hV676 (by decide)).trans ((ajV592 37 k rfl).trans (xJ580_7 k hk))))
                                      have rw693 : RoL 20 24 bq L L582 := (fun k hk => (xJ580_8 k hk))
                                      have rw694 : RoL 36 20 bq L L582 := (fun k hk => (xJ580_9 k hk))
                                      have rw695 : RoL 38 20 bq L L582 := (fun k hk => (xJ580_10 k hk))
                                      exact J382 V676 L582 H locs ls alL582 (agr.up (agr.tr (agr.tr agr.rf ajV581 (by decide) (by decide)) ajV592 (by decide) (by decide)) hV676 rfl) hMV676 (Or.inl ⟨W0 rl680, s1, s0, m1, c1, ca1, 0, hr679, rl680, keepS.le (keepS.tr (keepS.rf : keepS (scopeS s0) 0 (scopeS s0)) k1) (by decide), t1, w1, (by omega), q1, (BTm.ag b1 (by rw [(up2_fo hV676 (by decide) : V676 21 = V592 21), (funext (fun q => ajV592 21 q rfl) : V592 21 = V581 21)] : V676 21 = V581 21)), (show (V676 22 gc).toInt = _ from by omega), (show (V676 23 gc).toInt + 1 = _ from by omega), (show (V676 24 gc).toInt = _ from by omega)⟩) (fun _ => cn689) (show (V676 0 48).toInt ≤ 8000 from by omega) (show (V676 0 48).toInt = (V 0 48).toInt from by omega) (show (V676 0 12).toInt = (V 0 12).toInt from by omega) rw690 rw691 rw692 rw693 rw694 rw695 hP hD hS (lv_sub hl [0, 1, 2, 3] rfl)
                                    · skip
                                      have f696 : z588.toInt ≠ 0 := b_neq rfl (by decide) c674
                                      exfalso; omega
                                · skip
                                  have r697 : 0 ≤ ((V581 0 8)).toInt ∧ ((V581 0 8)).toInt ≤ 70000 := hMV581 0 8
                                  refine lv_aload_n hx hb dX12_toldComponent_176 rfl (lv_at hl 3 rfl) ?_
                                  refine va_get (D := D) (ci := 12) (v := .ref (ad 24)) (C := RX12) (T := TX12) (N := 100) hx hb hg inX12 hown hK hP 0 rfl rfl 24 (by decide) (hg _ w1734) (fun _ h9 => h9) rfl dX12_toldComponent_177 ?_
                                  refine lv_iload_n hx hb dX12_toldComponent_180 rfl (lv_at hl 2 rfl) ?_
                                  refine lv_aload_n hx hb dX12_toldComponent_181 rfl (lv_at hl 3 rfl) ?_
                                  refine lv_bipush (v := 6) hx hb dX12_toldComponent_182 (by decide) ?_
                                  have r698 : Int32.toInt 6 = 6 := by decide
                                  refine gA_int (gA_runV (As := [.int 6]) (rest := [.int z5, .ref (ad 24)]) (ci := 12) (q0 := 0) hx hb hml hown hg hP hD hK hS hA hnw hgk (s_hasWordB l D ks H.size ad kk V581 L582 6 hMV581 (by decide) (show 1 ≤ (V581 0 8).toInt from by omega)) w2055 w2057 w90 w172 w2058 rfl rfl hdV_yX12_hasWord ⟨Nat.le_of_ble_eq_true rfl, Nat.le_of_ble_eq_true rfl⟩ rfl hl.1 rfl (Nat.le_of_ble_eq_true rfl) dX12_toldComponent_184 ⟨Nat.le_of_ble_eq_true rfl, Nat.le_of_ble_eq_true rfl⟩) hP hD hK hS hA (fun z699 u700 H locs w701 hP hD hK hS => ?_)
                                  obtain ⟨V703, L704⟩ := u700
                                  obtain ⟨hMV703, ajV703, axL704, rgz699, t702⟩ := w701
                                  have axL704 : L582 = L704 := Eq.symm axL704
                                  subst axL704
                                  have hP : va_P D vwCl (mw ad kk ks.1 V703 L582) H := hP
                                  have hD : va_D A (mw ad kk ks.1 V703 L582) := hD
                                  have hMV703 : rgd bM V703 := hMV703
                                  have ajV703 : agr [(0, 7)] [] V581 V703 := ajV703
                                  have agV703 : agr [(0, 7), (0, 8), (0, 48), (0, 50), (0, 51), (0, 52)] [15, 19, 20, 21, 22, 23, 24, 25, 26, 27, 28, 29, 30, 31, 32, 33, 34, 35, 36, 37, 38, 45, 46, 47, 53] V V703 := agV581.tr ajV703 (by decide) (by decide)
                                  have rgz699 : 0 ≤ z699.toInt ∧ z699.toInt ≤ 0 := rgz699
                                  have t702 : (V703 0 8).toInt = (V581 0 8).toInt := t702
                                  have pq705 : (V703 0 8).toInt = ((V581 0 8)).toInt := congrArg Int32.toInt (ajV703 0 8 rfl)
                                  refine lv_if_eq (tgt := 200) hx hb dX12_toldComponent_187 (by decide) (fun c706 => ?_) (fun c706 => ?_)
                                  · skip
                                    have f707 : z699.toInt = 0 := b_eq rfl (by decide) c706
                                    refine lv_iconst (v := 0) hx hb dX12_toldComponent_200 (by decide) ?_
                                    refine va_iast (D := D) (i := z5) (x := 0) hx hb hK hP hD hS 17 16 rfl rfl (i_in (a := z5.toInt) rfl (by omega)) dX12_toldComponent_201 (fun H locs hP hD hS => ?_)
                                    obtain ⟨V708, hV708⟩ : ∃ z, z = up2 V703 24 (Int32.toNatClampNeg z5) 0 := ⟨_, rfl⟩
                                    have hP : va_P D vwCl (mw ad kk ks.1 V708 L582) H := by rw [hV708]; exact hP
                                    have hD : va_D A (mw ad kk ks.1 V708 L582) := by rw [hV708]; exact hD
                                    have hMV708 : rgd bM V708 := hMV703.put hV708 (show 0 ≤ Int32.toInt 0 ∧ Int32.toInt 0 ≤ 9 from by decide)
                                    have agV708 : agr [(0, 7), (0, 8), (0, 48), (0, 50), (0, 51), (0, 52)] [15, 19, 20, 21, 22, 23, 24, 25, 26, 27, 28, 29, 30, 31, 32, 33, 34, 35, 36, 37, 38, 45, 46, 47, 53] V V708 := agV703.up hV708 rfl
                                    have pq709 : (V708 0 48).toInt = ((V 0 48)).toInt := congrArg Int32.toInt ((up2_o hV708 (by decide)).trans ((ajV703 0 48 rfl).trans ((ajV581 0 48 rfl).trans ((up2_o hV381 (by decide)).trans ((ajV370 0 48 rfl).trans ((ajV349 0 48 rfl).trans ((ajV330 0 48 rfl).trans ((ajV47 0 48 rfl).trans ((ajV42 0 48 rfl).trans ((ajV29 0 48 rfl).trans (ajV13 0 48 rfl)))))))))))
                                    have pq710 : (V708 0 12).toInt = ((V 0 12)).toInt := congrArg Int32.toInt ((up2_o hV708 (by decide)).trans ((ajV703 0 12 rfl).trans ((ajV581 0 12 rfl).trans ((up2_o hV381 (by decide)).trans ((ajV370 0 12 rfl).trans ((ajV349 0 12 rfl).trans ((ajV330 0 12 rfl).trans ((ajV47 0 12 rfl).trans ((ajV42 0 12 rfl).trans ((ajV29 0 12 rfl).trans (ajV13 0 12 rfl)))))))))))
                                    have pq711 : (V708 0 8).toInt = ((V581 0 8)).toInt := congrArg Int32.toInt ((up2_o hV708 (by decide)).trans (ajV703 0 8 rfl))
                                    have rw712 : RoV 19 bq V V708 := (fun k hk => ((up2_o hV708 (by decide)).trans ((ajV703 19 k rfl).trans (xJ580_5 k hk))))
                                    have rw713 : RoV 35 bq V V708 := (fun k hk => ((up2_o hV708 (by decide)).trans ((ajV703 35 k rfl).trans (xJ580_6 k hk))))
                                    have rw714 : RoV 37 bq V V708 := (fun k hk => ((up2_o hV708 (by decide)).trans ((ajV703 37 k rfl).trans (xJ580_7 k hk))))
                                    have rw715 : RoL 20 24 bq L L582 := (fun k hk => (xJ580_8 k hk))
                                    have rw716 : RoL 36 20 bq L L582 := (fun k hk => (xJ580_9 k hk))
                                    have rw717 : RoL 38 20 bq L L582 := (fun k hk => (xJ580_10 k hk))
                                    exact J382 V708 L582 H locs ls alL582 (agr.up (agr.tr (agr.tr agr.rf ajV581 (by decide) (by decide)) ajV703 (by decide) (by decide)) hV708 rfl) hMV708 (Or.inr ⟨(show 1 ≤ (V708 0 8).toInt from by omega), (fun k => by rw [show (V708 0 8).toInt = (V581 0 8).toInt from by omega]; exact h1 k)⟩) (fun h9 => by exfalso; omega) (show (V708 0 48).toInt ≤ 8000 from by omega) (show (V708 0 48).toInt = (V 0 48).toInt from by omega) (show (V708 0 12).toInt = (V 0 12).toInt from by omega) rw712 rw713 rw714 rw715 rw716 rw717 hP hD hS (lv_sub hl [0, 1, 2, 3] rfl)
                                  · skip
                                    have f718 : z699.toInt ≠ 0 := b_neq rfl (by decide) c706
                                    exfalso; omega
                              refine lv_aload_n hx hb dX12_toldComponent_146 rfl (lv_at hl 3 rfl) ?_
                              refine va_get (D := D) (ci := 12) (v := .ref (ad 23)) (C := RX12) (T := TX12) (N := 100) hx hb hg inX12 hown hK hP 0 rfl rfl 23 (by decide) (hg _ w1733) (fun _ h9 => h9) rfl dX12_toldComponent_147 ?_
                              refine lv_iload_n hx hb dX12_toldComponent_150 rfl (lv_at hl 2 rfl) ?_
                              refine lv_aload_n hx hb dX12_toldComponent_151 rfl (lv_at hl 3 rfl) ?_
                              refine lv_iconst (v := 5) hx hb dX12_toldComponent_152 (by decide) ?_
                              have rl719 : RelM V381 L bq gn gT (scopeS sx352) (gs.2.1 2) := RelM.ag rl377 (show agr [] [22] V370 V381 from (agr.up agr.rf hV381 rfl)) (by decide) (show agL [] L L from agL.rf) (by decide)
                              have r720 : Int32.toInt 5 = 5 := by decide
                              refine gA_int (gA_runV (As := [.int 5]) (rest := [.int z5, .ref (ad 23)]) (ci := 12) (q0 := 0) hx hb hml hown hg hP hD hK hS hA hnw hgk (s_hasWordA l D ks H.size ad kk V381 L 5 (bq) (gn) (gT) ((scopeS sx352)) ((gs.2.1 2)) hMV381 (by decide) rl719) w2055 w2057 w90 w172 w2058 rfl rfl hdV_yX12_hasWord ⟨Nat.le_of_ble_eq_true rfl, Nat.le_of_ble_eq_true rfl⟩ rfl hl.1 rfl (Nat.le_of_ble_eq_true rfl) dX12_toldComponent_153 ⟨Nat.le_of_ble_eq_true rfl, Nat.le_of_ble_eq_true rfl⟩) hP hD hK hS hA (fun z721 u722 H locs w723 hP hD hK hS => ?_)
                              obtain ⟨V725, L726⟩ := u722
                              obtain ⟨hMV725, ajV725, axL726, rgz721, t724⟩ := w723
                              have axL726 : L = L726 := Eq.symm axL726
                              subst axL726
                              have hP : va_P D vwCl (mw ad kk ks.1 V725 L) H := hP
                              have hD : va_D A (mw ad kk ks.1 V725 L) := hD
                              have hMV725 : rgd bM V725 := hMV725
                              have ajV725 : agr [(0, 7)] [] V381 V725 := ajV725
                              have agV725 : agr [(0, 7), (0, 8), (0, 48), (0, 50), (0, 51), (0, 52)] [15, 19, 20, 21, 22, 23, 24, 25, 26, 27, 28, 29, 30, 31, 32, 33, 34, 35, 36, 37, 38, 45, 46, 47, 53] V V725 := agV381.tr ajV725 (by decide) (by decide)
                              have rgz721 : 0 ≤ z721.toInt ∧ z721.toInt ≤ 1 := rgz721
                              have t724 : (z721.toInt = 1 ∧ (gT).1 (((scopeS sx352)).1 0) = 128 + (Int32.toInt 5) ∧ RelM V725 L (bq) (gn) (gT) (nx ((scopeS sx352)) 1) ((gs.2.1 2))) ∨ (z721.toInt = 0 ∧ (gT).1 (((scopeS sx352)).1 0) ≠ 128 + (Int32.toInt 5) ∧ RelM V725 L (bq) (gn) (gT) ((scopeS sx352)) ((gs.2.1 2))) := t724
                              rcases t724 with ⟨q727, h728, rl729⟩ | ⟨q727, h728, rl729⟩
                              · skip
                                have kd730 : gT.1 ((scopeS sx352).1 0) = 133 := h728.trans (by decide)
                                have hr731 : ∀ k, Rc gT (Crun gs (Istmt :: k)) (Crun (nx (scopeS sx352) 1) (IwordH (msk sx352.1 sn353) (gT.1 (sx352.1 0) - 148) wx32 :: k)) := fun k => Rc.go1 (hr375 k) (calledH_y (msk sx352.1 sn353) (gT.1 (sx352.1 0) - 148) wx32 kd730)
                                have ps732 : (nx (scopeS sx352) 1).1 0 = (scopeS sx352).1 0 + 1 := rfl
                                have fz733 := RelM.rg rl729
                                have pq734 : (V725 0 8).toInt = ((V370 0 8)).toInt := congrArg Int32.toInt ((ajV725 0 8 rfl).trans (up2_o hV381 (by decide)))
                                refine lv_if_eq (tgt := 174) hx hb dX12_toldComponent_156 (by decide) (fun c735 => ?_) (fun c735 => ?_)
                                · skip
                                  have f736 : z721.toInt = 0 := b_eq rfl (by decide) c735
                                  exfalso; omega
                                · skip
                                  have f737 : z721.toInt ≠ 0 := b_neq rfl (by decide) c735
                                  refine lv_aload_n hx hb dX12_toldComponent_159 rfl (lv_at hl 3 rfl) ?_
                                  refine lv_aload_n hx hb dX12_toldComponent_160 rfl (lv_at hl 3 rfl) ?_
                                  refine va_get (D := D) (ci := 12) (v := .ref (ad 38)) (C := RX12) (T := TX12) (N := 100) hx hb hg inX12 hown hK hP 0 rfl rfl 38 (by decide) (hg _ w1748) (fun _ h9 => h9) rfl dX12_toldComponent_161 ?_
                                  refine lv_aload_n hx hb dX12_toldComponent_164 rfl (lv_at hl 3 rfl) ?_
                                  refine va_get (D := D) (ci := 12) (v := .ref (ad 37)) (C := RX12) (T := TX12) (N := 100) hx hb hg inX12 hown hK hP 0 rfl rfl 37 (by decide) (hg _ w1747) (fun _ h9 => h9) rfl dX12_toldComponent_165 ?_
                                  refine gA_int (gA_runV (As := [.ref (ad 38), .ref (ad 37)]) (rest := [.int z5, .ref (ad 23)]) (ci := 12) (q0 := 0) hx hb hml hown hg hP hD hK hS hA hnw hgk (s_takeWordOf4 l D ks H.size ad kk V725 L (bq) (gn) (gT) ((nx (scopeS sx352) 1)) ((gs.2.1 2)) hMV725 rl729) w2104 w2106 w102 w172 w2107 rfl rfl hdV_yX12_takeWordOf ⟨Nat.le_of_ble_eq_true rfl, Nat.le_of_ble_eq_true rfl⟩ rfl hl.1 rfl (Nat.le_of_ble_eq_true rfl) dX12_toldComponent_168 ⟨Nat.le_of_ble_eq_true rfl, Nat.le_of_ble_eq_true rfl⟩) hP hD hK hS hA (fun z738 u739 H locs w740 hP hD hK hS => ?_)
                                  obtain ⟨V746, L747⟩ := u739
                                  obtain ⟨hMV746, ajV746, axL747, rgz738, t741, t742, t743, t744, t745⟩ := w740
                                  have alL747 : agL [15, 19, 20, 21, 22, 23, 24, 25, 26, 27, 28, 29, 30, 31, 32, 33, 34, 35, 36, 37, 38, 45, 46, 47, 53] L L747 := agL.tr alL axL747 (by decide)
                                  have hP : va_P D vwCl (mw ad kk ks.1 V746 L747) H := hP
                                  have hD : va_D A (mw ad kk ks.1 V746 L747) := hD
                                  have hMV746 : rgd bM V746 := hMV746
                                  have ajV746 : agr [(0, 7), (0, 8)] [35, 36, 37, 38] V725 V746 := ajV746
                                  have agV746 : agr [(0, 7), (0, 8), (0, 48), (0, 50), (0, 51), (0, 52)] [15, 19, 20, 21, 22, 23, 24, 25, 26, 27, 28, 29, 30, 31, 32, 33, 34, 35, 36, 37, 38, 45, 46, 47, 53] V V746 := agV725.tr ajV746 (by decide) (by decide)
                                  have rgz738 : (-1) ≤ z738.toInt ∧ z738.toInt ≤ 19 := rgz738
                                  have t741 : KmS (mthW (gT) ((nx (scopeS sx352) 1)) 4) (V746 0 8).toInt (fun x9 => RelM V746 L747 (bq) (gn) (gT) x9.2 ((gs.2.1 2)) ∧ z738.toInt = ((x9.1 : Nat) : Int) ∧ x9.1 < 20 ∧ keepS ((nx (scopeS sx352) 1)) 1 x9.2 ∧ MTX (gT) ((nx (scopeS sx352) 1)) 4 x9) := t741
                                  have t742 : RoV 35 (bq) V725 V746 := t742
                                  have t743 : RoV 37 (bq) V725 V746 := t743
                                  have t744 : RoL 36 20 (bq) L L747 := t744
                                  have t745 : RoL 38 20 (bq) L L747 := t745
                                  rcases t741 with ⟨q748, mx749, h750, rl751, hf752, hb753, kp754, mt755⟩ | ⟨q748, h750⟩
                                  · skip
                                    have ps756 := kp754.1
                                    have hr757 : ∀ k, Rc gT (Crun gs (Istmt :: k)) (Crun mx749.2 (Irank (msk sx352.1 sn353) (gT.1 (sx352.1 0) - 148) wx32 [mx749.1 + 1] :: k)) := fun k => Rc.go1 (hr731 k) (wh_y h750)
                                    have fz758 := RelM.rg rl751
                                    have r759 : 0 ≤ ((V746 0 8)).toInt ∧ ((V746 0 8)).toInt ≤ 70000 := hMV746 0 8
                                    refine lv_goto (tgt := 175) hx hb dX12_toldComponent_171 (by decide) ?_
                                    refine va_iast (D := D) (i := z5) (x := z738) hx hb hK hP hD hS 16 15 rfl rfl (i_in (a := z5.toInt) rfl (by omega)) dX12_toldComponent_175 (fun H locs hP hD hS => ?_)
                                    obtain ⟨V760, hV760⟩ : ∃ z, z = up2 V746 23 (Int32.toNatClampNeg z5) z738 := ⟨_, rfl⟩
                                    have hP : va_P D vwCl (mw ad kk ks.1 V760 L747) H := by rw [hV760]; exact hP
                                    have hD : va_D A (mw ad kk ks.1 V760 L747) := by rw [hV760]; exact hD
                                    have hMV760 : rgd bM V760 := hMV746.put hV760 (i_full _)
                                    have agV760 : agr [(0, 7), (0, 8), (0, 48), (0, 50), (0, 51), (0, 52)] [15, 19, 20, 21, 22, 23, 24, 25, 26, 27, 28, 29, 30, 31, 32, 33, 34, 35, 36, 37, 38, 45, 46, 47, 53] V V760 := agV746.up hV760 rfl
                                    have pq761 : (V760 0 48).toInt = ((V 0 48)).toInt := congrArg Int32.toInt ((up2_o hV760 (by decide)).trans ((ajV746 0 48 rfl).trans ((ajV725 0 48 rfl).trans ((up2_o hV381 (by decide)).trans ((ajV370 0 48 rfl).trans ((ajV349 0 48 rfl).trans ((ajV330 0 48 rfl).trans ((ajV47 0 48 rfl).trans ((ajV42 0 48 rfl).trans ((ajV29 0 48 rfl).trans (ajV13 0 48 rfl)))))))))))
                                    have pq762 : (V760 0 12).toInt = ((V 0 12)).toInt := congrArg Int32.toInt ((up2_o hV760 (by decide)).trans ((ajV746 0 12 rfl).trans ((ajV725 0 12 rfl).trans ((up2_o hV381 (by decide)).trans ((ajV370 0 12 rfl).trans ((ajV349 0 12 rfl).trans ((ajV330 0 12 rfl).trans ((ajV47 0 12 rfl).trans ((ajV42 0 12 rfl).trans ((ajV29 0 12 rfl).trans (ajV13 0 12 rfl)))))))))))
                                    have rl763 : RelM V760 L747 bq gn gT mx749.2 (gs.2.1 2) := RelM.ag rl751 (show agr [] [23] V746 V760 from (agr.up agr.rf hV760 rfl)) (by decide) (show agL [] L747 L747 from agL.rf) (by decide)
                                    have bt764 : BTm V760 21 gc (msk sx352.1 sn353) := BTm.ag (by rw [msk_eq ((keepC.tr (keepC.rf : keepC (nx (nx (nx gs 1) 1) 1) (nx (nx (nx gs 1) 1) 1)) (keepS.c kp356))).1 sn353]; exact BTm.of0 un357 (fun g hg => by rw [show V330 21 = V42 21 from (by rw [(funext (fun q => ajV330 21 q rfl) : V330 21 = V47 21), (funext (fun q => ajV47 21 q rfl) : V47 21 = V42 21)] : V330 21 = V42 21)]; exact xlp43_0 g (by omega))) (by rw [(up2_fo hV760 (by decide) : V760 21 = V746 21), (funext (fun q => ajV746 21 q rfl) : V746 21 = V725 21), (funext (fun q => ajV725 21 q rfl) : V725 21 = V381 21), (up2_fo hV381 (by decide) : V381 21 = V370 21), (funext (fun q => ajV370 21 q rfl) : V370 21 = V349 21)] : V760 21 = V349 21)
                                    have pq765 : (V760 22 (Int32.toNatClampNeg z5)).toInt = z366.toInt := congrArg Int32.toInt ((up2_o hV760 (by decide)).trans ((ajV746 22 (Int32.toNatClampNeg z5) rfl).trans ((ajV725 22 (Int32.toNatClampNeg z5) rfl).trans (up2_s hV381))))
                                    have gv766 : (V760 22 gc).toInt = (V760 22 (Int32.toNatClampNeg z5)).toInt := by rw [kgc]
                                    have pq767 : (V760 23 (Int32.toNatClampNeg z5)).toInt = z738.toInt := congrArg Int32.toInt (up2_s hV760)
                                    have gv768 : (V760 23 gc).toInt = (V760 23 (Int32.toNatClampNeg z5)).toInt := by rw [kgc]
                                    have ps769 : gs.1 0 + 1 ≤ (nx gs 1).1 0 := ((keepS.n1 1)).1
                                    have ps770 : (nx gs 1).1 0 + 1 ≤ (nx (nx gs 1) 1).1 0 := ((keepS.n1 1)).1
                                    have ps771 : (nx (nx gs 1) 1).1 0 + 1 ≤ (nx (nx (nx gs 1) 1) 1).1 0 := ((keepS.n1 1)).1
                                    have ps772 : (nx (nx (nx gs 1) 1) 1).1 0 + 1 ≤ sx352.1 0 := (kp356).1
                                    have ps773 : sx352.1 0 + 1 ≤ (nx sx352 1).1 0 := ((keepS.n1 1)).1
                                    have ps774 : (scopeS sx352).1 0 = (nx sx352 1).1 0 := rfl
                                    have ps775 : (scopeS sx352).1 0 + 1 ≤ (nx (scopeS sx352) 1).1 0 := ((keepS.n1 1)).1
                                    have ps776 : (nx (scopeS sx352) 1).1 0 + 1 ≤ mx749.2.1 0 := (kp754).1
                                    have cn777 : CNm V370 bq gs := CNm.ag cn363 (show agr [(0, 7), (0, 8)] [] V349 V370 from (agr.tr agr.rf ajV370 (by decide) (by decide))) (by decide) keepC.rf
                                    have cn778 : CNm V381 bq gs := CNm.up cn777 hV381 (fun q9 => by have h9 := i_clamp (x := z5) rfl (by omega); unfold rdm at q9; omega)
                                    have cn779 : CNm V746 bq gs := CNm.ag cn778 (show agr [(0, 7), (0, 8)] [35, 36, 37, 38] V381 V746 from (agr.tr (agr.tr agr.rf ajV725 (by decide) (by decide)) ajV746 (by decide) (by decide))) (by decide) keepC.rf
                                    have cn780 : CNm V760 bq gs := CNm.up cn779 hV760 (fun q9 => by have h9 := i_clamp (x := z5) rfl (by omega); unfold rdm at q9; omega)
                                    have rw781 : RoV 19 bq V V760 := (fun k hk => ((up2_o hV760 (by decide)).trans ((ajV746 19 k rfl).trans ((ajV725 19 k rfl).trans ((up2_o hV381 (by decide)).trans ((ajV370 19 k rfl).trans ((ajV349 19 k rfl).trans ((ajV330 19 k rfl).trans (xlp48_1 k hk)))))))))
                                    have rw782 : RoV 35 bq V V760 := (fun k hk => ((up2_o hV760 (by decide)).trans ((t742 k hk).trans ((ajV725 35 k rfl).trans ((up2_o hV381 (by decide)).trans ((ajV370 35 k rfl).trans ((ajV349 35 k rfl).trans ((ajV330 35 k rfl).trans (xlp48_2 k hk)))))))))
                                    have rw783 : RoV 37 bq V V760 := (fun k hk => ((up2_o hV760 (by decide)).trans ((t743 k hk).trans ((ajV725 37 k rfl).trans ((up2_o hV381 (by decide)).trans ((ajV370 37 k rfl).trans ((ajV349 37 k rfl).trans ((ajV330 37 k rfl).trans (xlp48_3 k hk)))))))))
                                    have rw784 : RoL 20 24 bq L L747 := (fun k hk => ((axL747 20 k rfl).trans rfl))
                                    have rw785 : RoL 36 20 bq L L747 := (fun k hk => ((t744 k hk).trans rfl))
                                    have rw786 : RoL 38 20 bq L L747 := (fun k hk => ((t745 k hk).trans rfl))
                                    exact J580 V760 L747 H locs ls alL747 (agr.up (agr.tr (agr.tr agr.rf ajV725 (by decide) (by decide)) ajV746 (by decide) (by decide)) hV760 rfl) hMV760 (Or.inl ⟨W0 rl763, mx749.2, sx352, (msk sx352.1 sn353), (gT.1 (sx352.1 0) - 148), mx749.1 + 1, hr757, rl763, keepS.le (keepS.tr (keepS.tr (keepS.rf : keepS (scopeS sx352) 0 (scopeS sx352)) (keepS.n1 1)) kp754) (by decide), (((kp754).2.2.1 2 (by decide)).trans ((((keepS.n1 1)).2.2.1 2 (by decide)).trans ((rfl : (scopeS sx352).2.1 2 = (nx sx352 1).2.1 2).trans ((((keepS.n1 1)).2.2.1 2 (by decide)).trans (((kp356).2.2.1 2 (by decide)).trans ((((keepS.n1 1)).2.2.1 2 (by decide)).trans ((((keepS.n1 1)).2.2.1 2 (by decide)).trans ((((keepS.n1 1)).2.2.1 2 (by decide)).trans (rfl : gs.2.1 2 = gs.2.1 2))))))))), ((congrArg (fun q9 => q9.1) (kp754).2.2.2).trans ((congrArg (fun q9 => q9.1) ((keepS.n1 1)).2.2.2).trans ((rfl : (scopeS sx352).2.2.1 = (nx sx352 1).2.2.1).trans ((congrArg (fun q9 => q9.1) ((keepS.n1 1)).2.2.2).trans ((congrArg (fun q9 => q9.1) (kp356).2.2.2).trans ((congrArg (fun q9 => q9.1) ((keepS.n1 1)).2.2.2).trans ((congrArg (fun q9 => q9.1) ((keepS.n1 1)).2.2.2).trans ((congrArg (fun q9 => q9.1) ((keepS.n1 1)).2.2.2).trans (rfl : gs.2.2.1 = gs.2.2.1))))))))), (by omega), (keepC.tr (keepC.tr (keepC.tr (keepC.tr (keepC.tr (keepC.tr (keepC.tr (keepC.tr (keepC.rf : keepC gs gs) (keepS.c (keepS.n1 1))) (keepS.c (keepS.n1 1))) (keepS.c (keepS.n1 1))) (keepS.c kp356)) (keepS.c (keepS.n1 1))) (keepC.sc : keepC (nx sx352 1) (scopeS sx352))) (keepS.c (keepS.n1 1))) (keepS.c kp754)), bt764, (show (V760 22 gc).toInt = _ from by omega), (show (V760 23 gc).toInt + 1 = _ from by omega)⟩) (fun _ => cn780) (show (V760 0 48).toInt ≤ 8000 from by omega) (show (V760 0 48).toInt = (V 0 48).toInt from by omega) (show (V760 0 12).toInt = (V 0 12).toInt from by omega) rw781 rw782 rw783 rw784 rw785 rw786 hP hD hS (lv_sub hl [0, 1, 2, 3] rfl)
                                  · skip
                                    have hb787 : ∀ k, Rc gT (Crun gs (Istmt :: k)) (Cbad (V746 0 8).toInt) := fun k => Rc.go1 (hr731 k) (wh_b h750)
                                    have r788 : 0 ≤ ((V746 0 8)).toInt ∧ ((V746 0 8)).toInt ≤ 70000 := hMV746 0 8
                                    refine lv_goto (tgt := 175) hx hb dX12_toldComponent_171 (by decide) ?_
                                    refine va_iast (D := D) (i := z5) (x := z738) hx hb hK hP hD hS 16 15 rfl rfl (i_in (a := z5.toInt) rfl (by omega)) dX12_toldComponent_175 (fun H locs hP hD hS => ?_)
                                    obtain ⟨V789, hV789⟩ : ∃ z, z = up2 V746 23 (Int32.toNatClampNeg z5) z738 := ⟨_, rfl⟩
                                    have hP : va_P D vwCl (mw ad kk ks.1 V789 L747) H := by rw [hV789]; exact hP
                                    have hD : va_D A (mw ad kk ks.1 V789 L747) := by rw [hV789]; exact hD
                                    have hMV789 : rgd bM V789 := hMV746.put hV789 (i_full _)
                                    have agV789 : agr [(0, 7), (0, 8), (0, 48), (0, 50), (0, 51), (0, 52)] [15, 19, 20, 21, 22, 23, 24, 25, 26, 27, 28, 29, 30, 31, 32, 33, 34, 35, 36, 37, 38, 45, 46, 47, 53] V V789 := agV746.up hV789 rfl
                                    have pq790 : (V789 0 48).toInt = ((V 0 48)).toInt := congrArg Int32.toInt ((up2_o hV789 (by decide)).trans ((ajV746 0 48 rfl).trans ((ajV725 0 48 rfl).trans ((up2_o hV381 (by decide)).trans ((ajV370 0 48 rfl).trans ((ajV349 0 48 rfl).trans ((ajV330 0 48 rfl).trans ((ajV47 0 48 rfl).trans ((ajV42 0 48 rfl).trans ((ajV29 0 48 rfl).trans (ajV13 0 48 rfl)))))))))))
                                    have pq791 : (V789 0 12).toInt = ((V 0 12)).toInt := congrArg Int32.toInt ((up2_o hV789 (by decide)).trans ((ajV746 0 12 rfl).trans ((ajV725 0 12 rfl).trans ((up2_o hV381 (by decide)).trans ((ajV370 0 12 rfl).trans ((ajV349 0 12 rfl).trans ((ajV330 0 12 rfl).trans ((ajV47 0 12 rfl).trans ((ajV42 0 12 rfl).trans ((ajV29 0 12 rfl).trans (ajV13 0 12 rfl)))))))))))
                                    have pq792 : (V789 0 8).toInt = ((V746 0 8)).toInt := congrArg Int32.toInt (up2_o hV789 (by decide))
                                    have rw793 : RoV 19 bq V V789 := (fun k hk => ((up2_o hV789 (by decide)).trans ((ajV746 19 k rfl).trans ((ajV725 19 k rfl).trans ((up2_o hV381 (by decide)).trans ((ajV370 19 k rfl).trans ((ajV349 19 k rfl).trans ((ajV330 19 k rfl).trans (xlp48_1 k hk)))))))))
                                    have rw794 : RoV 35 bq V V789 := (fun k hk => ((up2_o hV789 (by decide)).trans ((t742 k hk).trans ((ajV725 35 k rfl).trans ((up2_o hV381 (by decide)).trans ((ajV370 35 k rfl).trans ((ajV349 35 k rfl).trans ((ajV330 35 k rfl).trans (xlp48_2 k hk)))))))))
                                    have rw795 : RoV 37 bq V V789 := (fun k hk => ((up2_o hV789 (by decide)).trans ((t743 k hk).trans ((ajV725 37 k rfl).trans ((up2_o hV381 (by decide)).trans ((ajV370 37 k rfl).trans ((ajV349 37 k rfl).trans ((ajV330 37 k rfl).trans (xlp48_3 k hk)))))))))
                                    have rw796 : RoL 20 24 bq L L747 := (fun k hk => ((axL747 20 k rfl).trans rfl))
                                    have rw797 : RoL 36 20 bq L L747 := (fun k hk => ((t744 k hk).trans rfl))
                                    have rw798 : RoL 38 20 bq L L747 := (fun k hk => ((t745 k hk).trans rfl))
                                    exact J580 V789 L747 H locs ls alL747 (agr.up (agr.tr (agr.tr agr.rf ajV725 (by decide) (by decide)) ajV746 (by decide) (by decide)) hV789 rfl) hMV789 (Or.inr ⟨(show 1 ≤ (V789 0 8).toInt from by omega), (fun k => by rw [show (V789 0 8).toInt = (V746 0 8).toInt from by omega]; exact hb787 k)⟩) (fun h9 => by exfalso; omega) (show (V789 0 48).toInt ≤ 8000 from by omega) (show (V789 0 48).toInt = (V 0 48).toInt from by omega) (show (V789 0 12).toInt = (V 0 12).toInt from by omega) rw793 rw794 rw795 rw796 rw797 rw798 hP hD hS (lv_sub hl [0, 1, 2, 3] rfl)
                              · skip
                                have kd799 : gT.1 ((scopeS sx352).1 0) ≠ 133 := fun h9 => h728 (h9.trans (by decide))
                                have fz800 := RelM.rg rl729
                                have pq801 : (V725 0 8).toInt = ((V370 0 8)).toInt := congrArg Int32.toInt ((ajV725 0 8 rfl).trans (up2_o hV381 (by decide)))
                                refine lv_if_eq (tgt := 174) hx hb dX12_toldComponent_156 (by decide) (fun c802 => ?_) (fun c802 => ?_)
                                · skip
                                  have f803 : z721.toInt = 0 := b_eq rfl (by decide) c802
                                  refine lv_iconst (v := (-1)) hx hb dX12_toldComponent_174 (by decide) ?_
                                  refine va_iast (D := D) (i := z5) (x := (-1)) hx hb hK hP hD hS 16 15 rfl rfl (i_in (a := z5.toInt) rfl (by omega)) dX12_toldComponent_175 (fun H locs hP hD hS => ?_)
                                  obtain ⟨V804, hV804⟩ : ∃ z, z = up2 V725 23 (Int32.toNatClampNeg z5) (-1) := ⟨_, rfl⟩
                                  have hP : va_P D vwCl (mw ad kk ks.1 V804 L) H := by rw [hV804]; exact hP
                                  have hD : va_D A (mw ad kk ks.1 V804 L) := by rw [hV804]; exact hD
                                  have hMV804 : rgd bM V804 := hMV725.put hV804 (i_full _)
                                  have agV804 : agr [(0, 7), (0, 8), (0, 48), (0, 50), (0, 51), (0, 52)] [15, 19, 20, 21, 22, 23, 24, 25, 26, 27, 28, 29, 30, 31, 32, 33, 34, 35, 36, 37, 38, 45, 46, 47, 53] V V804 := agV725.up hV804 rfl
                                  have pq805 : (V804 0 48).toInt = ((V 0 48)).toInt := congrArg Int32.toInt ((up2_o hV804 (by decide)).trans ((ajV725 0 48 rfl).trans ((up2_o hV381 (by decide)).trans ((ajV370 0 48 rfl).trans ((ajV349 0 48 rfl).trans ((ajV330 0 48 rfl).trans ((ajV47 0 48 rfl).trans ((ajV42 0 48 rfl).trans ((ajV29 0 48 rfl).trans (ajV13 0 48 rfl))))))))))
                                  have pq806 : (V804 0 12).toInt = ((V 0 12)).toInt := congrArg Int32.toInt ((up2_o hV804 (by decide)).trans ((ajV725 0 12 rfl).trans ((up2_o hV381 (by decide)).trans ((ajV370 0 12 rfl).trans ((ajV349 0 12 rfl).trans ((ajV330 0 12 rfl).trans ((ajV47 0 12 rfl).trans ((ajV42 0 12 rfl).trans ((ajV29 0 12 rfl).trans (ajV13 0 12 rfl))))))))))
                                  have hr807 : ∀ k, Rc gT (Crun gs (Istmt :: k)) (Crun (scopeS sx352) (Irank (msk sx352.1 sn353) (gT.1 (sx352.1 0) - 148) wx32 [0] :: k)) := fun k => Rc.go1 (hr375 k) (calledH_n (msk sx352.1 sn353) (gT.1 (sx352.1 0) - 148) wx32 kd799)
                                  have rl808 : RelM V804 L bq gn gT (scopeS sx352) (gs.2.1 2) := RelM.ag rl729 (show agr [] [23] V725 V804 from (agr.up agr.rf hV804 rfl)) (by decide) (show agL [] L L from agL.rf) (by decide)
                                  have bt809 : BTm V804 21 gc (msk sx352.1 sn353) := BTm.ag (by rw [msk_eq ((keepC.tr (keepC.rf : keepC (nx (nx (nx gs 1) 1) 1) (nx (nx (nx gs 1) 1) 1)) (keepS.c kp356))).1 sn353]; exact BTm.of0 un357 (fun g hg => by rw [show V330 21 = V42 21 from (by rw [(funext (fun q => ajV330 21 q rfl) : V330 21 = V47 21), (funext (fun q => ajV47 21 q rfl) : V47 21 = V42 21)] : V330 21 = V42 21)]; exact xlp43_0 g (by omega))) (by rw [(up2_fo hV804 (by decide) : V804 21 = V725 21), (funext (fun q => ajV725 21 q rfl) : V725 21 = V381 21), (up2_fo hV381 (by decide) : V381 21 = V370 21), (funext (fun q => ajV370 21 q rfl) : V370 21 = V349 21)] : V804 21 = V349 21)
                                  have pq810 : (V804 22 (Int32.toNatClampNeg z5)).toInt = z366.toInt := congrArg Int32.toInt ((up2_o hV804 (by decide)).trans ((ajV725 22 (Int32.toNatClampNeg z5) rfl).trans (up2_s hV381)))
                                  have gv811 : (V804 22 gc).toInt = (V804 22 (Int32.toNatClampNeg z5)).toInt := by rw [kgc]
                                  have pq812 : (V804 23 (Int32.toNatClampNeg z5)).toInt = (-1) := (congrArg Int32.toInt (up2_s hV804)).trans (by decide)
                                  have gv813 : (V804 23 gc).toInt = (V804 23 (Int32.toNatClampNeg z5)).toInt := by rw [kgc]
                                  have ps814 : gs.1 0 + 1 ≤ (nx gs 1).1 0 := ((keepS.n1 1)).1
                                  have ps815 : (nx gs 1).1 0 + 1 ≤ (nx (nx gs 1) 1).1 0 := ((keepS.n1 1)).1
                                  have ps816 : (nx (nx gs 1) 1).1 0 + 1 ≤ (nx (nx (nx gs 1) 1) 1).1 0 := ((keepS.n1 1)).1
                                  have ps817 : (nx (nx (nx gs 1) 1) 1).1 0 + 1 ≤ sx352.1 0 := (kp356).1
                                  have ps818 : sx352.1 0 + 1 ≤ (nx sx352 1).1 0 := ((keepS.n1 1)).1
                                  have ps819 : (scopeS sx352).1 0 = (nx sx352 1).1 0 := rfl
                                  have cn820 : CNm V370 bq gs := CNm.ag cn363 (show agr [(0, 7), (0, 8)] [] V349 V370 from (agr.tr agr.rf ajV370 (by decide) (by decide))) (by decide) keepC.rf
                                  have cn821 : CNm V381 bq gs := CNm.up cn820 hV381 (fun q9 => by have h9 := i_clamp (x := z5) rfl (by omega); unfold rdm at q9; omega)
                                  have cn822 : CNm V725 bq gs := CNm.ag cn821 (show agr [(0, 7)] [] V381 V725 from (agr.tr agr.rf ajV725 (by decide) (by decide))) (by decide) keepC.rf
                                  have cn823 : CNm V804 bq gs := CNm.up cn822 hV804 (fun q9 => by have h9 := i_clamp (x := z5) rfl (by omega); unfold rdm at q9; omega)
                                  have rw824 : RoV 19 bq V V804 := (fun k hk => ((up2_o hV804 (by decide)).trans ((ajV725 19 k rfl).trans ((up2_o hV381 (by decide)).trans ((ajV370 19 k rfl).trans ((ajV349 19 k rfl).trans ((ajV330 19 k rfl).trans (xlp48_1 k hk))))))))
                                  have rw825 : RoV 35 bq V V804 := (fun k hk => ((up2_o hV804 (by decide)).trans ((ajV725 35 k rfl).trans ((up2_o hV381 (by decide)).trans ((ajV370 35 k rfl).trans ((ajV349 35 k rfl).trans ((ajV330 35 k rfl).trans (xlp48_2 k hk))))))))
                                  have rw826 : RoV 37 bq V V804 := (fun k hk => ((up2_o hV804 (by decide)).trans ((ajV725 37 k rfl).trans ((up2_o hV381 (by decide)).trans ((ajV370 37 k rfl).trans ((ajV349 37 k rfl).trans ((ajV330 37 k rfl).trans (xlp48_3 k hk))))))))
                                  have rw827 : RoL 20 24 bq L L := (fun k hk => rfl)
                                  have rw828 : RoL 36 20 bq L L := (fun k hk => rfl)
                                  have rw829 : RoL 38 20 bq L L := (fun k hk => rfl)
                                  exact J580 V804 L H locs ls alL (agr.up (agr.tr agr.rf ajV725 (by decide) (by decide)) hV804 rfl) hMV804 (Or.inl ⟨W0 rl808, (scopeS sx352), sx352, (msk sx352.1 sn353), (gT.1 (sx352.1 0) - 148), 0, hr807, rl808, keepS.le (keepS.rf : keepS (scopeS sx352) 0 (scopeS sx352)) (by decide), ((rfl : (scopeS sx352).2.1 2 = (nx sx352 1).2.1 2).trans ((((keepS.n1 1)).2.2.1 2 (by decide)).trans (((kp356).2.2.1 2 (by decide)).trans ((((keepS.n1 1)).2.2.1 2 (by decide)).trans ((((keepS.n1 1)).2.2.1 2 (by decide)).trans ((((keepS.n1 1)).2.2.1 2 (by decide)).trans (rfl : gs.2.1 2 = gs.2.1 2))))))), ((rfl : (scopeS sx352).2.2.1 = (nx sx352 1).2.2.1).trans ((congrArg (fun q9 => q9.1) ((keepS.n1 1)).2.2.2).trans ((congrArg (fun q9 => q9.1) (kp356).2.2.2).trans ((congrArg (fun q9 => q9.1) ((keepS.n1 1)).2.2.2).trans ((congrArg (fun q9 => q9.1) ((keepS.n1 1)).2.2.2).trans ((congrArg (fun q9 => q9.1) ((keepS.n1 1)).2.2.2).trans (rfl : gs.2.2.1 = gs.2.2.1))))))), (by omega), (keepC.tr (keepC.tr (keepC.tr (keepC.tr (keepC.tr (keepC.tr (keepC.rf : keepC gs gs) (keepS.c (keepS.n1 1))) (keepS.c (keepS.n1 1))) (keepS.c (keepS.n1 1))) (keepS.c kp356)) (keepS.c (keepS.n1 1))) (keepC.sc : keepC (nx sx352 1) (scopeS sx352))), bt809, (show (V804 22 gc).toInt = _ from by omega), (show (V804 23 gc).toInt + 1 = _ from by omega)⟩) (fun _ => cn823) (show (V804 0 48).toInt ≤ 8000 from by omega) (show (V804 0 48).toInt = (V 0 48).toInt from by omega) (show (V804 0 12).toInt = (V 0 12).toInt from by omega) rw824 rw825 rw826 rw827 rw828 rw829 hP hD hS (lv_sub hl [0, 1, 2, 3] rfl)
                                · skip
                                  have f830 : z721.toInt ≠ 0 := b_neq rfl (by decide) c802
                                  exfalso; omega
                            · skip
                              have hb831 : ∀ k, Rc gT (Crun gs (Istmt :: k)) (Cbad (V370 0 8).toInt) := fun k => Rc.go1 (hr364 k) ((sc_n wx32 sn353 (by omega)).trans (fl_eq rfl rl374))
                              have r832 : 0 ≤ ((V370 0 8)).toInt ∧ ((V370 0 8)).toInt ≤ 70000 := hMV370 0 8
                              refine va_iast (D := D) (i := z5) (x := z366) hx hb hK hP hD hS 15 14 rfl rfl (i_in (a := z5.toInt) rfl (by omega)) dX12_toldComponent_145 (fun H locs hP hD hS => ?_)
                              obtain ⟨V833, hV833⟩ : ∃ z, z = up2 V370 22 (Int32.toNatClampNeg z5) z366 := ⟨_, rfl⟩
                              have hP : va_P D vwCl (mw ad kk ks.1 V833 L) H := by rw [hV833]; exact hP
                              have hD : va_D A (mw ad kk ks.1 V833 L) := by rw [hV833]; exact hD
                              have hMV833 : rgd bM V833 := hMV370.put hV833 (i_full _)
                              have agV833 : agr [(0, 7), (0, 8), (0, 48), (0, 50), (0, 51), (0, 52)] [15, 19, 20, 21, 22, 23, 24, 25, 26, 27, 28, 29, 30, 31, 32, 33, 34, 35, 36, 37, 38, 45, 46, 47, 53] V V833 := agV370.up hV833 rfl
                              refine lv_aload_n hx hb dX12_toldComponent_146 rfl (lv_at hl 3 rfl) ?_
                              refine va_get (D := D) (ci := 12) (v := .ref (ad 23)) (C := RX12) (T := TX12) (N := 100) hx hb hg inX12 hown hK hP 0 rfl rfl 23 (by decide) (hg _ w1733) (fun _ h9 => h9) rfl dX12_toldComponent_147 ?_
                              refine lv_iload_n hx hb dX12_toldComponent_150 rfl (lv_at hl 2 rfl) ?_
                              refine lv_aload_n hx hb dX12_toldComponent_151 rfl (lv_at hl 3 rfl) ?_
                              refine lv_iconst (v := 5) hx hb dX12_toldComponent_152 (by decide) ?_
                              have r834 : Int32.toInt 5 = 5 := by decide
                              have pq835 : (V833 0 8).toInt = ((V370 0 8)).toInt := congrArg Int32.toInt (up2_o hV833 (by decide))
                              refine gA_int (gA_runV (As := [.int 5]) (rest := [.int z5, .ref (ad 23)]) (ci := 12) (q0 := 0) hx hb hml hown hg hP hD hK hS hA hnw hgk (s_hasWordB l D ks H.size ad kk V833 L 5 hMV833 (by decide) (show 1 ≤ (V833 0 8).toInt from by omega)) w2055 w2057 w90 w172 w2058 rfl rfl hdV_yX12_hasWord ⟨Nat.le_of_ble_eq_true rfl, Nat.le_of_ble_eq_true rfl⟩ rfl hl.1 rfl (Nat.le_of_ble_eq_true rfl) dX12_toldComponent_153 ⟨Nat.le_of_ble_eq_true rfl, Nat.le_of_ble_eq_true rfl⟩) hP hD hK hS hA (fun z836 u837 H locs w838 hP hD hK hS => ?_)
                              obtain ⟨V840, L841⟩ := u837
                              obtain ⟨hMV840, ajV840, axL841, rgz836, t839⟩ := w838
                              have axL841 : L = L841 := Eq.symm axL841
                              subst axL841
                              have hP : va_P D vwCl (mw ad kk ks.1 V840 L) H := hP
                              have hD : va_D A (mw ad kk ks.1 V840 L) := hD
                              have hMV840 : rgd bM V840 := hMV840
                              have ajV840 : agr [(0, 7)] [] V833 V840 := ajV840
                              have agV840 : agr [(0, 7), (0, 8), (0, 48), (0, 50), (0, 51), (0, 52)] [15, 19, 20, 21, 22, 23, 24, 25, 26, 27, 28, 29, 30, 31, 32, 33, 34, 35, 36, 37, 38, 45, 46, 47, 53] V V840 := agV833.tr ajV840 (by decide) (by decide)
                              have rgz836 : 0 ≤ z836.toInt ∧ z836.toInt ≤ 0 := rgz836
                              have t839 : (V840 0 8).toInt = (V833 0 8).toInt := t839
                              have pq842 : (V840 0 8).toInt = ((V370 0 8)).toInt := congrArg Int32.toInt ((ajV840 0 8 rfl).trans (up2_o hV833 (by decide)))
                              refine lv_if_eq (tgt := 174) hx hb dX12_toldComponent_156 (by decide) (fun c843 => ?_) (fun c843 => ?_)
                              · skip
                                have f844 : z836.toInt = 0 := b_eq rfl (by decide) c843
                                refine lv_iconst (v := (-1)) hx hb dX12_toldComponent_174 (by decide) ?_
                                refine va_iast (D := D) (i := z5) (x := (-1)) hx hb hK hP hD hS 16 15 rfl rfl (i_in (a := z5.toInt) rfl (by omega)) dX12_toldComponent_175 (fun H locs hP hD hS => ?_)
                                obtain ⟨V845, hV845⟩ : ∃ z, z = up2 V840 23 (Int32.toNatClampNeg z5) (-1) := ⟨_, rfl⟩
                                have hP : va_P D vwCl (mw ad kk ks.1 V845 L) H := by rw [hV845]; exact hP
                                have hD : va_D A (mw ad kk ks.1 V845 L) := by rw [hV845]; exact hD
                                have hMV845 : rgd bM V845 := hMV840.put hV845 (i_full _)
                                have agV845 : agr [(0, 7), (0, 8), (0, 48), (0, 50), (0, 51), (0, 52)] [15, 19, 20, 21, 22, 23, 24, 25, 26, 27, 28, 29, 30, 31, 32, 33, 34, 35, 36, 37, 38, 45, 46, 47, 53] V V845 := agV840.up hV845 rfl
                                refine lv_aload_n hx hb dX12_toldComponent_176 rfl (lv_at hl 3 rfl) ?_
                                refine va_get (D := D) (ci := 12) (v := .ref (ad 24)) (C := RX12) (T := TX12) (N := 100) hx hb hg inX12 hown hK hP 0 rfl rfl 24 (by decide) (hg _ w1734) (fun _ h9 => h9) rfl dX12_toldComponent_177 ?_
                                refine lv_iload_n hx hb dX12_toldComponent_180 rfl (lv_at hl 2 rfl) ?_
                                refine lv_aload_n hx hb dX12_toldComponent_181 rfl (lv_at hl 3 rfl) ?_
                                refine lv_bipush (v := 6) hx hb dX12_toldComponent_182 (by decide) ?_
                                have r846 : Int32.toInt 6 = 6 := by decide
                                have pq847 : (V845 0 8).toInt = ((V370 0 8)).toInt := congrArg Int32.toInt ((up2_o hV845 (by decide)).trans ((ajV840 0 8 rfl).trans (up2_o hV833 (by decide))))
                                refine gA_int (gA_runV (As := [.int 6]) (rest := [.int z5, .ref (ad 24)]) (ci := 12) (q0 := 0) hx hb hml hown hg hP hD hK hS hA hnw hgk (s_hasWordB l D ks H.size ad kk V845 L 6 hMV845 (by decide) (show 1 ≤ (V845 0 8).toInt from by omega)) w2055 w2057 w90 w172 w2058 rfl rfl hdV_yX12_hasWord ⟨Nat.le_of_ble_eq_true rfl, Nat.le_of_ble_eq_true rfl⟩ rfl hl.1 rfl (Nat.le_of_ble_eq_true rfl) dX12_toldComponent_184 ⟨Nat.le_of_ble_eq_true rfl, Nat.le_of_ble_eq_true rfl⟩) hP hD hK hS hA (fun z848 u849 H locs w850 hP hD hK hS => ?_)
                                obtain ⟨V852, L853⟩ := u849
                                obtain ⟨hMV852, ajV852, axL853, rgz848, t851⟩ := w850
                                have axL853 : L = L853 := Eq.symm axL853
                                subst axL853
                                have hP : va_P D vwCl (mw ad kk ks.1 V852 L) H := hP
                                have hD : va_D A (mw ad kk ks.1 V852 L) := hD
                                have hMV852 : rgd bM V852 := hMV852
                                have ajV852 : agr [(0, 7)] [] V845 V852 := ajV852
                                have agV852 : agr [(0, 7), (0, 8), (0, 48), (0, 50), (0, 51), (0, 52)] [15, 19, 20, 21, 22, 23, 24, 25, 26, 27, 28, 29, 30, 31, 32, 33, 34, 35, 36, 37, 38, 45, 46, 47, 53] V V852 := agV845.tr ajV852 (by decide) (by decide)
                                have rgz848 : 0 ≤ z848.toInt ∧ z848.toInt ≤ 0 := rgz848
                                have t851 : (V852 0 8).toInt = (V845 0 8).toInt := t851
                                have pq854 : (V852 0 8).toInt = ((V370 0 8)).toInt := congrArg Int32.toInt ((ajV852 0 8 rfl).trans ((up2_o hV845 (by decide)).trans ((ajV840 0 8 rfl).trans (up2_o hV833 (by decide)))))
                                refine lv_if_eq (tgt := 200) hx hb dX12_toldComponent_187 (by decide) (fun c855 => ?_) (fun c855 => ?_)
                                · skip
                                  have f856 : z848.toInt = 0 := b_eq rfl (by decide) c855
                                  refine lv_iconst (v := 0) hx hb dX12_toldComponent_200 (by decide) ?_
                                  refine va_iast (D := D) (i := z5) (x := 0) hx hb hK hP hD hS 17 16 rfl rfl (i_in (a := z5.toInt) rfl (by omega)) dX12_toldComponent_201 (fun H locs hP hD hS => ?_)
                                  obtain ⟨V857, hV857⟩ : ∃ z, z = up2 V852 24 (Int32.toNatClampNeg z5) 0 := ⟨_, rfl⟩
                                  have hP : va_P D vwCl (mw ad kk ks.1 V857 L) H := by rw [hV857]; exact hP
                                  have hD : va_D A (mw ad kk ks.1 V857 L) := by rw [hV857]; exact hD
                                  have hMV857 : rgd bM V857 := hMV852.put hV857 (show 0 ≤ Int32.toInt 0 ∧ Int32.toInt 0 ≤ 9 from by decide)
                                  have agV857 : agr [(0, 7), (0, 8), (0, 48), (0, 50), (0, 51), (0, 52)] [15, 19, 20, 21, 22, 23, 24, 25, 26, 27, 28, 29, 30, 31, 32, 33, 34, 35, 36, 37, 38, 45, 46, 47, 53] V V857 := agV852.up hV857 rfl
                                  refine lv_aload_n hx hb dX12_toldComponent_202 rfl (lv_at hl 3 rfl) ?_
                                  refine va_get (D := D) (ci := 12) (v := .ref (ad 25)) (C := RX12) (T := TX12) (N := 100) hx hb hg inX12 hown hK hP 0 rfl rfl 25 (by decide) (hg _ w1735) (fun _ h9 => h9) rfl dX12_toldComponent_203 ?_
                                  refine lv_iload_n hx hb dX12_toldComponent_206 rfl (lv_at hl 2 rfl) ?_
                                  refine lv_iconst (v := (-1)) hx hb dX12_toldComponent_207 (by decide) ?_
                                  refine va_iast (D := D) (i := z5) (x := (-1)) hx hb hK hP hD hS 18 17 rfl rfl (i_in (a := z5.toInt) rfl (by omega)) dX12_toldComponent_208 (fun H locs hP hD hS => ?_)
                                  obtain ⟨V858, hV858⟩ : ∃ z, z = up2 V857 25 (Int32.toNatClampNeg z5) (-1) := ⟨_, rfl⟩
                                  have hP : va_P D vwCl (mw ad kk ks.1 V858 L) H := by rw [hV858]; exact hP
                                  have hD : va_D A (mw ad kk ks.1 V858 L) := by rw [hV858]; exact hD
                                  have hMV858 : rgd bM V858 := hMV857.put hV858 (show (-1) ≤ Int32.toInt (-1) ∧ Int32.toInt (-1) ≤ 11 from by decide)
                                  have agV858 : agr [(0, 7), (0, 8), (0, 48), (0, 50), (0, 51), (0, 52)] [15, 19, 20, 21, 22, 23, 24, 25, 26, 27, 28, 29, 30, 31, 32, 33, 34, 35, 36, 37, 38, 45, 46, 47, 53] V V858 := agV857.up hV858 rfl
                                  refine lv_aload_n hx hb dX12_toldComponent_209 rfl (lv_at hl 3 rfl) ?_
                                  refine lv_bipush (v := 7) hx hb dX12_toldComponent_210 (by decide) ?_
                                  have r859 : Int32.toInt 7 = 7 := by decide
                                  have pq860 : (V858 0 8).toInt = ((V370 0 8)).toInt := congrArg Int32.toInt ((up2_o hV858 (by decide)).trans ((up2_o hV857 (by decide)).trans ((ajV852 0 8 rfl).trans ((up2_o hV845 (by decide)).trans ((ajV840 0 8 rfl).trans (up2_o hV833 (by decide)))))))
                                  refine gA_int (gA_runV (As := [.int 7]) (rest := []) (ci := 12) (q0 := 0) hx hb hml hown hg hP hD hK hS hA hnw hgk (s_hasWordB l D ks H.size ad kk V858 L 7 hMV858 (by decide) (show 1 ≤ (V858 0 8).toInt from by omega)) w2055 w2057 w90 w172 w2058 rfl rfl hdV_yX12_hasWord ⟨Nat.le_of_ble_eq_true rfl, Nat.le_of_ble_eq_true rfl⟩ rfl hl.1 rfl (Nat.le_of_ble_eq_true rfl) dX12_toldComponent_212 ⟨Nat.le_of_ble_eq_true rfl, Nat.le_of_ble_eq_true rfl⟩) hP hD hK hS hA (fun z861 u862 H locs w863 hP hD hK hS => ?_)
                                  obtain ⟨V865, L866⟩ := u862
                                  obtain ⟨hMV865, ajV865, axL866, rgz861, t864⟩ := w863
                                  have axL866 : L = L866 := Eq.symm axL866
                                  subst axL866
                                  have hP : va_P D vwCl (mw ad kk ks.1 V865 L) H := hP
                                  have hD : va_D A (mw ad kk ks.1 V865 L) := hD
                                  have hMV865 : rgd bM V865 := hMV865
                                  have ajV865 : agr [(0, 7)] [] V858 V865 := ajV865
                                  have agV865 : agr [(0, 7), (0, 8), (0, 48), (0, 50), (0, 51), (0, 52)] [15, 19, 20, 21, 22, 23, 24, 25, 26, 27, 28, 29, 30, 31, 32, 33, 34, 35, 36, 37, 38, 45, 46, 47, 53] V V865 := agV858.tr ajV865 (by decide) (by decide)
                                  have rgz861 : 0 ≤ z861.toInt ∧ z861.toInt ≤ 0 := rgz861
                                  have t864 : (V865 0 8).toInt = (V858 0 8).toInt := t864
                                  have pq867 : (V865 0 8).toInt = ((V370 0 8)).toInt := congrArg Int32.toInt ((ajV865 0 8 rfl).trans ((up2_o hV858 (by decide)).trans ((up2_o hV857 (by decide)).trans ((ajV852 0 8 rfl).trans ((up2_o hV845 (by decide)).trans ((ajV840 0 8 rfl).trans (up2_o hV833 (by decide))))))))
                                  refine lv_if_eq (tgt := 262) hx hb dX12_toldComponent_215 (by decide) (fun c868 => ?_) (fun c868 => ?_)
                                  · skip
                                    have f869 : z861.toInt = 0 := b_eq rfl (by decide) c868
                                    have pq870 : (V865 0 48).toInt = ((V 0 48)).toInt := congrArg Int32.toInt ((ajV865 0 48 rfl).trans ((up2_o hV858 (by decide)).trans ((up2_o hV857 (by decide)).trans ((ajV852 0 48 rfl).trans ((up2_o hV845 (by decide)).trans ((ajV840 0 48 rfl).trans ((up2_o hV833 (by decide)).trans ((ajV370 0 48 rfl).trans ((ajV349 0 48 rfl).trans ((ajV330 0 48 rfl).trans ((ajV47 0 48 rfl).trans ((ajV42 0 48 rfl).trans ((ajV29 0 48 rfl).trans (ajV13 0 48 rfl))))))))))))))
                                    have pq871 : (V865 0 12).toInt = ((V 0 12)).toInt := congrArg Int32.toInt ((ajV865 0 12 rfl).trans ((up2_o hV858 (by decide)).trans ((up2_o hV857 (by decide)).trans ((ajV852 0 12 rfl).trans ((up2_o hV845 (by decide)).trans ((ajV840 0 12 rfl).trans ((up2_o hV833 (by decide)).trans ((ajV370 0 12 rfl).trans ((ajV349 0 12 rfl).trans ((ajV330 0 12 rfl).trans ((ajV47 0 12 rfl).trans ((ajV42 0 12 rfl).trans ((ajV29 0 12 rfl).trans (ajV13 0 12 rfl))))))))))))))
                                    have rw872 : RoV 19 bq V V865 := (fun k hk => ((ajV865 19 k rfl).trans ((up2_o hV858 (by decide)).trans ((up2_o hV857 (by decide)).trans ((ajV852 19 k rfl).trans ((up2_o hV845 (by decide)).trans ((ajV840 19 k rfl).trans ((up2_o hV833 (by decide)).trans ((ajV370 19 k rfl).trans ((ajV349 19 k rfl).trans ((ajV330 19 k rfl).trans (xlp48_1 k hk))))))))))))
                                    have rw873 : RoV 35 bq V V865 := (fun k hk => ((ajV865 35 k rfl).trans ((up2_o hV858 (by decide)).trans ((up2_o hV857 (by decide)).trans ((ajV852 35 k rfl).trans ((up2_o hV845 (by decide)).trans ((ajV840 35 k rfl).trans ((up2_o hV833 (by decide)).trans ((ajV370 35 k rfl).trans ((ajV349 35 k rfl).trans ((ajV330 35 k rfl).trans (xlp48_2 k hk))))))))))))
                                    have rw874 : RoV 37 bq V V865 := (fun k hk => ((ajV865 37 k rfl).trans ((up2_o hV858 (by decide)).trans ((up2_o hV857 (by decide)).trans ((ajV852 37 k rfl).trans ((up2_o hV845 (by decide)).trans ((ajV840 37 k rfl).trans ((up2_o hV833 (by decide)).trans ((ajV370 37 k rfl).trans ((ajV349 37 k rfl).trans ((ajV330 37 k rfl).trans (xlp48_3 k hk))))))))))))
                                    have rw875 : RoL 20 24 bq L L := (fun k hk => rfl)
                                    have rw876 : RoL 36 20 bq L L := (fun k hk => rfl)
                                    have rw877 : RoL 38 20 bq L L := (fun k hk => rfl)
                                    exact J52 V865 L H locs ls alL (agr.tr (agr.up (agr.up (agr.tr (agr.up (agr.tr (agr.up (agr.tr (agr.tr (agr.tr agr.rf ajV330 (by decide) (by decide)) ajV349 (by decide) (by decide)) ajV370 (by decide) (by decide)) hV833 rfl) ajV840 (by decide) (by decide)) hV845 rfl) ajV852 (by decide) (by decide)) hV857 rfl) hV858 rfl) ajV865 (by decide) (by decide)) hMV865 (Or.inr ⟨(show 1 ≤ (V865 0 8).toInt from by omega), (fun k => by rw [show (V865 0 8).toInt = (V370 0 8).toInt from by omega]; exact hb831 k)⟩) (fun h9 => by exfalso; omega) (show (V865 0 48).toInt ≤ 8000 from by omega) (show (V865 0 48).toInt = (V 0 48).toInt from by omega) (show (V865 0 12).toInt = (V 0 12).toInt from by omega) rw872 rw873 rw874 rw875 rw876 rw877 hP hD hS (lv_sub hl [0, 1, 2, 3] rfl)
                                  · skip
                                    have f878 : z861.toInt ≠ 0 := b_neq rfl (by decide) c868
                                    exfalso; omega
                                · skip
                                  have f879 : z848.toInt ≠ 0 := b_neq rfl (by decide) c855
                                  exfalso; omega
                              · skip
                                have f880 : z836.toInt ≠ 0 := b_neq rfl (by decide) c843
                                exfalso; omega
                          · skip
                            have hb881 : ∀ k, Rc gT (Crun gs (Istmt :: k)) (Cbad (V349 0 8).toInt) := fun k => (hr336 k).tr (h354 (k))
                            have r882 : 0 ≤ ((V349 0 8)).toInt ∧ ((V349 0 8)).toInt ≤ 70000 := hMV349 0 8
                            refine lv_aload_n hx hb dX12_toldComponent_133 rfl (lv_at hl 3 rfl) ?_
                            refine va_get (D := D) (ci := 12) (v := .ref (ad 22)) (C := RX12) (T := TX12) (N := 100) hx hb hg inX12 hown hK hP 0 rfl rfl 22 (by decide) (hg _ w1732) (fun _ h9 => h9) rfl dX12_toldComponent_134 ?_
                            refine lv_iload_n hx hb dX12_toldComponent_137 rfl (lv_at hl 2 rfl) ?_
                            refine lv_aload_n hx hb dX12_toldComponent_138 rfl (lv_at hl 3 rfl) ?_
                            refine lv_bipush (v := 20) hx hb dX12_toldComponent_139 (by decide) ?_
                            refine lv_iconst (v := 4) hx hb dX12_toldComponent_141 (by decide) ?_
                            have r883 : Int32.toInt 20 = 20 := by decide
                            refine gA_int (gA_runV (As := [.int 20, .int 4]) (rest := [.int z5, .ref (ad 22)]) (ci := 12) (q0 := 0) hx hb hml hown hg hP hD hK hS hA hnw hgk (s_oneOfB l D ks H.size ad kk V349 L 20 4 hMV349 (by decide) (by decide) (show 1 ≤ (V349 0 8).toInt from by omega)) w2100 w2102 w101 w172 w2103 rfl rfl hdV_yX12_oneOf ⟨Nat.le_of_ble_eq_true rfl, Nat.le_of_ble_eq_true rfl⟩ rfl hl.1 rfl (Nat.le_of_ble_eq_true rfl) dX12_toldComponent_142 ⟨Nat.le_of_ble_eq_true rfl, Nat.le_of_ble_eq_true rfl⟩) hP hD hK hS hA (fun z884 u885 H locs w886 hP hD hK hS => ?_)
                            obtain ⟨V888, L889⟩ := u885
                            obtain ⟨hMV888, ajV888, axL889, rgz884, t887⟩ := w886
                            have axL889 : L = L889 := Eq.symm axL889
                            subst axL889
                            have hP : va_P D vwCl (mw ad kk ks.1 V888 L) H := hP
                            have hD : va_D A (mw ad kk ks.1 V888 L) := hD
                            have hMV888 : rgd bM V888 := hMV888
                            have ajV888 : agr [(0, 7), (0, 8)] [] V349 V888 := ajV888
                            have agV888 : agr [(0, 7), (0, 8), (0, 48), (0, 50), (0, 51), (0, 52)] [15, 19, 20, 21, 22, 23, 24, 25, 26, 27, 28, 29, 30, 31, 32, 33, 34, 35, 36, 37, 38, 45, 46, 47, 53] V V888 := agV349.tr ajV888 (by decide) (by decide)
                            have rgz884 : 0 ≤ z884.toInt ∧ z884.toInt ≤ 0 := rgz884
                            have t887 : (V888 0 8).toInt = (V349 0 8).toInt := t887
                            have r890 : 0 ≤ ((V888 0 8)).toInt ∧ ((V888 0 8)).toInt ≤ 70000 := hMV888 0 8
                            refine va_iast (D := D) (i := z5) (x := z884) hx hb hK hP hD hS 15 14 rfl rfl (i_in (a := z5.toInt) rfl (by omega)) dX12_toldComponent_145 (fun H locs hP hD hS => ?_)
                            obtain ⟨V891, hV891⟩ : ∃ z, z = up2 V888 22 (Int32.toNatClampNeg z5) z884 := ⟨_, rfl⟩
                            have hP : va_P D vwCl (mw ad kk ks.1 V891 L) H := by rw [hV891]; exact hP
                            have hD : va_D A (mw ad kk ks.1 V891 L) := by rw [hV891]; exact hD
                            have hMV891 : rgd bM V891 := hMV888.put hV891 (i_full _)
                            have agV891 : agr [(0, 7), (0, 8), (0, 48), (0, 50), (0, 51), (0, 52)] [15, 19, 20, 21, 22, 23, 24, 25, 26, 27, 28, 29, 30, 31, 32, 33, 34, 35, 36, 37, 38, 45, 46, 47, 53] V V891 := agV888.up hV891 rfl
                            refine lv_aload_n hx hb dX12_toldComponent_146 rfl (lv_at hl 3 rfl) ?_
                            refine va_get (D := D) (ci := 12) (v := .ref (ad 23)) (C := RX12) (T := TX12) (N := 100) hx hb hg inX12 hown hK hP 0 rfl rfl 23 (by decide) (hg _ w1733) (fun _ h9 => h9) rfl dX12_toldComponent_147 ?_
                            refine lv_iload_n hx hb dX12_toldComponent_150 rfl (lv_at hl 2 rfl) ?_
                            refine lv_aload_n hx hb dX12_toldComponent_151 rfl (lv_at hl 3 rfl) ?_
                            refine lv_iconst (v := 5) hx hb dX12_toldComponent_152 (by decide) ?_
                            have r892 : Int32.toInt 5 = 5 := by decide
                            have pq893 : (V891 0 8).toInt = ((V888 0 8)).toInt := congrArg Int32.toInt (up2_o hV891 (by decide))
                            refine gA_int (gA_runV (As := [.int 5]) (rest := [.int z5, .ref (ad 23)]) (ci := 12) (q0 := 0) hx hb hml hown hg hP hD hK hS hA hnw hgk (s_hasWordB l D ks H.size ad kk V891 L 5 hMV891 (by decide) (show 1 ≤ (V891 0 8).toInt from by omega)) w2055 w2057 w90 w172 w2058 rfl rfl hdV_yX12_hasWord ⟨Nat.le_of_ble_eq_true rfl, Nat.le_of_ble_eq_true rfl⟩ rfl hl.1 rfl (Nat.le_of_ble_eq_true rfl) dX12_toldComponent_153 ⟨Nat.le_of_ble_eq_true rfl, Nat.le_of_ble_eq_true rfl⟩) hP hD hK hS hA (fun z894 u895 H locs w896 hP hD hK hS => ?_)
                            obtain ⟨V898, L899⟩ := u895
                            obtain ⟨hMV898, ajV898, axL899, rgz894, t897⟩ := w896
                            have axL899 : L = L899 := Eq.symm axL899
                            subst axL899
                            have hP : va_P D vwCl (mw ad kk ks.1 V898 L) H := hP
                            have hD : va_D A (mw ad kk ks.1 V898 L) := hD
                            have hMV898 : rgd bM V898 := hMV898
                            have ajV898 : agr [(0, 7)] [] V891 V898 := ajV898
                            have agV898 : agr [(0, 7), (0, 8), (0, 48), (0, 50), (0, 51), (0, 52)] [15, 19, 20, 21, 22, 23, 24, 25, 26, 27, 28, 29, 30, 31, 32, 33, 34, 35, 36, 37, 38, 45, 46, 47, 53] V V898 := agV891.tr ajV898 (by decide) (by decide)
                            have rgz894 : 0 ≤ z894.toInt ∧ z894.toInt ≤ 0 := rgz894
                            have t897 : (V898 0 8).toInt = (V891 0 8).toInt := t897
                            have pq900 : (V898 0 8).toInt = ((V888 0 8)).toInt := congrArg Int32.toInt ((ajV898 0 8 rfl).trans (up2_o hV891 (by decide)))
                            refine lv_if_eq (tgt := 174) hx hb dX12_toldComponent_156 (by decide) (fun c901 => ?_) (fun c901 => ?_)
                            · skip
                              have f902 : z894.toInt = 0 := b_eq rfl (by decide) c901
                              refine lv_iconst (v := (-1)) hx hb dX12_toldComponent_174 (by decide) ?_
                              refine va_iast (D := D) (i := z5) (x := (-1)) hx hb hK hP hD hS 16 15 rfl rfl (i_in (a := z5.toInt) rfl (by omega)) dX12_toldComponent_175 (fun H locs hP hD hS => ?_)
                              obtain ⟨V903, hV903⟩ : ∃ z, z = up2 V898 23 (Int32.toNatClampNeg z5) (-1) := ⟨_, rfl⟩
                              have hP : va_P D vwCl (mw ad kk ks.1 V903 L) H := by rw [hV903]; exact hP
                              have hD : va_D A (mw ad kk ks.1 V903 L) := by rw [hV903]; exact hD
                              have hMV903 : rgd bM V903 := hMV898.put hV903 (i_full _)
                              have agV903 : agr [(0, 7), (0, 8), (0, 48), (0, 50), (0, 51), (0, 52)] [15, 19, 20, 21, 22, 23, 24, 25, 26, 27, 28, 29, 30, 31, 32, 33, 34, 35, 36, 37, 38, 45, 46, 47, 53] V V903 := agV898.up hV903 rfl
                              refine lv_aload_n hx hb dX12_toldComponent_176 rfl (lv_at hl 3 rfl) ?_
                              refine va_get (D := D) (ci := 12) (v := .ref (ad 24)) (C := RX12) (T := TX12) (N := 100) hx hb hg inX12 hown hK hP 0 rfl rfl 24 (by decide) (hg _ w1734) (fun _ h9 => h9) rfl dX12_toldComponent_177 ?_
                              refine lv_iload_n hx hb dX12_toldComponent_180 rfl (lv_at hl 2 rfl) ?_
                              refine lv_aload_n hx hb dX12_toldComponent_181 rfl (lv_at hl 3 rfl) ?_
                              refine lv_bipush (v := 6) hx hb dX12_toldComponent_182 (by decide) ?_
                              have r904 : Int32.toInt 6 = 6 := by decide
                              have pq905 : (V903 0 8).toInt = ((V888 0 8)).toInt := congrArg Int32.toInt ((up2_o hV903 (by decide)).trans ((ajV898 0 8 rfl).trans (up2_o hV891 (by decide))))
                              refine gA_int (gA_runV (As := [.int 6]) (rest := [.int z5, .ref (ad 24)]) (ci := 12) (q0 := 0) hx hb hml hown hg hP hD hK hS hA hnw hgk (s_hasWordB l D ks H.size ad kk V903 L 6 hMV903 (by decide) (show 1 ≤ (V903 0 8).toInt from by omega)) w2055 w2057 w90 w172 w2058 rfl rfl hdV_yX12_hasWord ⟨Nat.le_of_ble_eq_true rfl, Nat.le_of_ble_eq_true rfl⟩ rfl hl.1 rfl (Nat.le_of_ble_eq_true rfl) dX12_toldComponent_184 ⟨Nat.le_of_ble_eq_true rfl, Nat.le_of_ble_eq_true rfl⟩) hP hD hK hS hA (fun z906 u907 H locs w908 hP hD hK hS => ?_)
                              obtain ⟨V910, L911⟩ := u907
                              obtain ⟨hMV910, ajV910, axL911, rgz906, t909⟩ := w908
                              have axL911 : L = L911 := Eq.symm axL911
                              subst axL911
                              have hP : va_P D vwCl (mw ad kk ks.1 V910 L) H := hP
                              have hD : va_D A (mw ad kk ks.1 V910 L) := hD
                              have hMV910 : rgd bM V910 := hMV910
                              have ajV910 : agr [(0, 7)] [] V903 V910 := ajV910
                              have agV910 : agr [(0, 7), (0, 8), (0, 48), (0, 50), (0, 51), (0, 52)] [15, 19, 20, 21, 22, 23, 24, 25, 26, 27, 28, 29, 30, 31, 32, 33, 34, 35, 36, 37, 38, 45, 46, 47, 53] V V910 := agV903.tr ajV910 (by decide) (by decide)
                              have rgz906 : 0 ≤ z906.toInt ∧ z906.toInt ≤ 0 := rgz906
                              have t909 : (V910 0 8).toInt = (V903 0 8).toInt := t909
                              have pq912 : (V910 0 8).toInt = ((V888 0 8)).toInt := congrArg Int32.toInt ((ajV910 0 8 rfl).trans ((up2_o hV903 (by decide)).trans ((ajV898 0 8 rfl).trans (up2_o hV891 (by decide)))))
                              refine lv_if_eq (tgt := 200) hx hb dX12_toldComponent_187 (by decide) (fun c913 => ?_) (fun c913 => ?_)
                              · skip
                                have f914 : z906.toInt = 0 := b_eq rfl (by decide) c913
                                refine lv_iconst (v := 0) hx hb dX12_toldComponent_200 (by decide) ?_
                                refine va_iast (D := D) (i := z5) (x := 0) hx hb hK hP hD hS 17 16 rfl rfl (i_in (a := z5.toInt) rfl (by omega)) dX12_toldComponent_201 (fun H locs hP hD hS => ?_)
                                obtain ⟨V915, hV915⟩ : ∃ z, z = up2 V910 24 (Int32.toNatClampNeg z5) 0 := ⟨_, rfl⟩
                                have hP : va_P D vwCl (mw ad kk ks.1 V915 L) H := by rw [hV915]; exact hP
                                have hD : va_D A (mw ad kk ks.1 V915 L) := by rw [hV915]; exact hD
                                have hMV915 : rgd bM V915 := hMV910.put hV915 (show 0 ≤ Int32.toInt 0 ∧ Int32.toInt 0 ≤ 9 from by decide)
                                have agV915 : agr [(0, 7), (0, 8), (0, 48), (0, 50), (0, 51), (0, 52)] [15, 19, 20, 21, 22, 23, 24, 25, 26, 27, 28, 29, 30, 31, 32, 33, 34, 35, 36, 37, 38, 45, 46, 47, 53] V V915 := agV910.up hV915 rfl
                                refine lv_aload_n hx hb dX12_toldComponent_202 rfl (lv_at hl 3 rfl) ?_
                                refine va_get (D := D) (ci := 12) (v := .ref (ad 25)) (C := RX12) (T := TX12) (N := 100) hx hb hg inX12 hown hK hP 0 rfl rfl 25 (by decide) (hg _ w1735) (fun _ h9 => h9) rfl dX12_toldComponent_203 ?_
                                refine lv_iload_n hx hb dX12_toldComponent_206 rfl (lv_at hl 2 rfl) ?_
                                refine lv_iconst (v := (-1)) hx hb dX12_toldComponent_207 (by decide) ?_
                                refine va_iast (D := D) (i := z5) (x := (-1)) hx hb hK hP hD hS 18 17 rfl rfl (i_in (a := z5.toInt) rfl (by omega)) dX12_toldComponent_208 (fun H locs hP hD hS => ?_)
                                obtain ⟨V916, hV916⟩ : ∃ z, z = up2 V915 25 (Int32.toNatClampNeg z5) (-1) := ⟨_, rfl⟩
                                have hP : va_P D vwCl (mw ad kk ks.1 V916 L) H := by rw [hV916]; exact hP
                                have hD : va_D A (mw ad kk ks.1 V916 L) := by rw [hV916]; exact hD
                                have hMV916 : rgd bM V916 := hMV915.put hV916 (show (-1) ≤ Int32.toInt (-1) ∧ Int32.toInt (-1) ≤ 11 from by decide)
                                have agV916 : agr [(0, 7), (0, 8), (0, 48), (0, 50), (0, 51), (0, 52)] [15, 19, 20, 21, 22, 23, 24, 25, 26, 27, 28, 29, 30, 31, 32, 33, 34, 35, 36, 37, 38, 45, 46, 47, 53] V V916 := agV915.up hV916 rfl
                                refine lv_aload_n hx hb dX12_toldComponent_209 rfl (lv_at hl 3 rfl) ?_
                                refine lv_bipush (v := 7) hx hb dX12_toldComponent_210 (by decide) ?_
                                have r917 : Int32.toInt 7 = 7 := by decide
                                have pq918 : (V916 0 8).toInt = ((V888 0 8)).toInt := congrArg Int32.toInt ((up2_o hV916 (by decide)).trans ((up2_o hV915 (by decide)).trans ((ajV910 0 8 rfl).trans ((up2_o hV903 (by decide)).trans ((ajV898 0 8 rfl).trans (up2_o hV891 (by decide)))))))
                                refine gA_int (gA_runV (As := [.int 7]) (rest := []) (ci := 12) (q0 := 0) hx hb hml hown hg hP hD hK hS hA hnw hgk (s_hasWordB l D ks H.size ad kk V916 L 7 hMV916 (by decide) (show 1 ≤ (V916 0 8).toInt from by omega)) w2055 w2057 w90 w172 w2058 rfl rfl hdV_yX12_hasWord ⟨Nat.le_of_ble_eq_true rfl, Nat.le_of_ble_eq_true rfl⟩ rfl hl.1 rfl (Nat.le_of_ble_eq_true rfl) dX12_toldComponent_212 ⟨Nat.le_of_ble_eq_true rfl, Nat.le_of_ble_eq_true rfl⟩) hP hD hK hS hA (fun z919 u920 H locs w921 hP hD hK hS => ?_)
                                obtain ⟨V923, L924⟩ := u920
                                obtain ⟨hMV923, ajV923, axL924, rgz919, t922⟩ := w921
                                have axL924 : L = L924 := Eq.symm axL924
                                subst axL924
                                have hP : va_P D vwCl (mw ad kk ks.1 V923 L) H := hP
                                have hD : va_D A (mw ad kk ks.1 V923 L) := hD
                                have hMV923 : rgd bM V923 := hMV923
                                have ajV923 : agr [(0, 7)] [] V916 V923 := ajV923
                                have agV923 : agr [(0, 7), (0, 8), (0, 48), (0, 50), (0, 51), (0, 52)] [15, 19, 20, 21, 22, 23, 24, 25, 26, 27, 28, 29, 30, 31, 32, 33, 34, 35, 36, 37, 38, 45, 46, 47, 53] V V923 := agV916.tr ajV923 (by decide) (by decide)
                                have rgz919 : 0 ≤ z919.toInt ∧ z919.toInt ≤ 0 := rgz919
                                have t922 : (V923 0 8).toInt = (V916 0 8).toInt := t922
                                have pq925 : (V923 0 8).toInt = ((V888 0 8)).toInt := congrArg Int32.toInt ((ajV923 0 8 rfl).trans ((up2_o hV916 (by decide)).trans ((up2_o hV915 (by decide)).trans ((ajV910 0 8 rfl).trans ((up2_o hV903 (by decide)).trans ((ajV898 0 8 rfl).trans (up2_o hV891 (by decide))))))))
                                refine lv_if_eq (tgt := 262) hx hb dX12_toldComponent_215 (by decide) (fun c926 => ?_) (fun c926 => ?_)
                                · skip
                                  have f927 : z919.toInt = 0 := b_eq rfl (by decide) c926
                                  have pq928 : (V923 0 48).toInt = ((V 0 48)).toInt := congrArg Int32.toInt ((ajV923 0 48 rfl).trans ((up2_o hV916 (by decide)).trans ((up2_o hV915 (by decide)).trans ((ajV910 0 48 rfl).trans ((up2_o hV903 (by decide)).trans ((ajV898 0 48 rfl).trans ((up2_o hV891 (by decide)).trans ((ajV888 0 48 rfl).trans ((ajV349 0 48 rfl).trans ((ajV330 0 48 rfl).trans ((ajV47 0 48 rfl).trans ((ajV42 0 48 rfl).trans ((ajV29 0 48 rfl).trans (ajV13 0 48 rfl))))))))))))))
                                  have pq929 : (V923 0 12).toInt = ((V 0 12)).toInt := congrArg Int32.toInt ((ajV923 0 12 rfl).trans ((up2_o hV916 (by decide)).trans ((up2_o hV915 (by decide)).trans ((ajV910 0 12 rfl).trans ((up2_o hV903 (by decide)).trans ((ajV898 0 12 rfl).trans ((up2_o hV891 (by decide)).trans ((ajV888 0 12 rfl).trans ((ajV349 0 12 rfl).trans ((ajV330 0 12 rfl).trans ((ajV47 0 12 rfl).trans ((ajV42 0 12 rfl).trans ((ajV29 0 12 rfl).trans (ajV13 0 12 rfl))))))))))))))
                                  have rw930 : RoV 19 bq V V923 := (fun k hk => ((ajV923 19 k rfl).trans ((up2_o hV916 (by decide)).trans ((up2_o hV915 (by decide)).trans ((ajV910 19 k rfl).trans ((up2_o hV903 (by decide)).trans ((ajV898 19 k rfl).trans ((up2_o hV891 (by decide)).trans ((ajV888 19 k rfl).trans ((ajV349 19 k rfl).trans ((ajV330 19 k rfl).trans (xlp48_1 k hk))))))))))))
                                  have rw931 : RoV 35 bq V V923 := (fun k hk => ((ajV923 35 k rfl).trans ((up2_o hV916 (by decide)).trans ((up2_o hV915 (by decide)).trans ((ajV910 35 k rfl).trans ((up2_o hV903 (by decide)).trans ((ajV898 35 k rfl).trans ((up2_o hV891 (by decide)).trans ((ajV888 35 k rfl).trans ((ajV349 35 k rfl).trans ((ajV330 35 k rfl).trans (xlp48_2 k hk))))))))))))
                                  have rw932 : RoV 37 bq V V923 := (fun k hk => ((ajV923 37 k rfl).trans ((up2_o hV916 (by decide)).trans ((up2_o hV915 (by decide)).trans ((ajV910 37 k rfl).trans ((up2_o hV903 (by decide)).trans ((ajV898 37 k rfl).trans ((up2_o hV891 (by decide)).trans ((ajV888 37 k rfl).trans ((ajV349 37 k rfl).trans ((ajV330 37 k rfl).trans (xlp48_3 k hk))))))))))))
                                  have rw933 : RoL 20 24 bq L L := (fun k hk => rfl)
                                  have rw934 : RoL 36 20 bq L L := (fun k hk => rfl)
                                  have rw935 : RoL 38 20 bq L L := (fun k hk => rfl)
                                  exact J52 V923 L H locs ls alL (agr.tr (agr.up (agr.up (agr.tr (agr.up (agr.tr (agr.up (agr.tr (agr.tr (agr.tr agr.rf ajV330 (by decide) (by decide)) ajV349 (by decide) (by decide)) ajV888 (by decide) (by decide)) hV891 rfl) ajV898 (by decide) (by decide)) hV903 rfl) ajV910 (by decide) (by decide)) hV915 rfl) hV916 rfl) ajV923 (by decide) (by decide)) hMV923 (Or.inr ⟨(show 1 ≤ (V923 0 8).toInt from by omega), (fun k => by rw [show (V923 0 8).toInt = (V349 0 8).toInt from by omega]; exact hb881 k)⟩) (fun h9 => by exfalso; omega) (show (V923 0 48).toInt ≤ 8000 from by omega) (show (V923 0 48).toInt = (V 0 48).toInt from by omega) (show (V923 0 12).toInt = (V 0 12).toInt from by omega) rw930 rw931 rw932 rw933 rw934 rw935 hP hD hS (lv_sub hl [0, 1, 2, 3] rfl)
                                · skip
                                  have f936 : z919.toInt ≠ 0 := b_neq rfl (by decide) c926
                                  exfalso; omega
                              · skip
                                have f937 : z906.toInt ≠ 0 := b_neq rfl (by decide) c913
                                exfalso; omega
                            · skip
                              have f938 : z894.toInt ≠ 0 := b_neq rfl (by decide) c901
                              exfalso; omega
                      · skip
                        have kd939 : gT.1 ((nx (nx gs 1) 1).1 0) ≠ 132 := fun h9 => h333 (h9.trans (by decide))
                        have hb940 : ∀ k, Rc gT (Crun gs (Istmt :: k)) (Cbad (V330 0 8).toInt) := fun k => Rc.go1 (hr37 k) ((tk_n kd939).trans (fl_eq rfl rl334))
                        have r941 : 0 ≤ ((V330 0 8)).toInt ∧ ((V330 0 8)).toInt ≤ 70000 := hMV330 0 8
                        refine lv_aload_n hx hb dX12_toldComponent_117 rfl (lv_at hl 3 rfl) ?_
                        refine va_get (D := D) (ci := 12) (v := .int (V330 0 8)) (C := RX12) (T := TX12) (N := 100) hx hb hg inX12 hown hK hP 0 rfl rfl 8 (by decide) (hg _ w1718) (fun _ h9 => h9) rfl dX12_toldComponent_118 ?_
                        refine lv_if_ne (tgt := 133) hx hb dX12_toldComponent_121 (by decide) (fun c942 => ?_) (fun c942 => ?_)
                        · skip
                          have f943 : ((V330 0 8)).toInt ≠ 0 := b_neq rfl (by decide) c942
                          refine lv_aload_n hx hb dX12_toldComponent_133 rfl (lv_at hl 3 rfl) ?_
                          refine va_get (D := D) (ci := 12) (v := .ref (ad 22)) (C := RX12) (T := TX12) (N := 100) hx hb hg inX12 hown hK hP 0 rfl rfl 22 (by decide) (hg _ w1732) (fun _ h9 => h9) rfl dX12_toldComponent_134 ?_
                          refine lv_iload_n hx hb dX12_toldComponent_137 rfl (lv_at hl 2 rfl) ?_
                          refine lv_aload_n hx hb dX12_toldComponent_138 rfl (lv_at hl 3 rfl) ?_
                          refine lv_bipush (v := 20) hx hb dX12_toldComponent_139 (by decide) ?_
                          refine lv_iconst (v := 4) hx hb dX12_toldComponent_141 (by decide) ?_
                          have r944 : Int32.toInt 20 = 20 := by decide
                          refine gA_int (gA_runV (As := [.int 20, .int 4]) (rest := [.int z5, .ref (ad 22)]) (ci := 12) (q0 := 0) hx hb hml hown hg hP hD hK hS hA hnw hgk (s_oneOfB l D ks H.size ad kk V330 L 20 4 hMV330 (by decide) (by decide) (show 1 ≤ (V330 0 8).toInt from by omega)) w2100 w2102 w101 w172 w2103 rfl rfl hdV_yX12_oneOf ⟨Nat.le_of_ble_eq_true rfl, Nat.le_of_ble_eq_true rfl⟩ rfl hl.1 rfl (Nat.le_of_ble_eq_true rfl) dX12_toldComponent_142 ⟨Nat.le_of_ble_eq_true rfl, Nat.le_of_ble_eq_true rfl⟩) hP hD hK hS hA (fun z945 u946 H locs w947 hP hD hK hS => ?_)
                          obtain ⟨V949, L950⟩ := u946
                          obtain ⟨hMV949, ajV949, axL950, rgz945, t948⟩ := w947
                          have axL950 : L = L950 := Eq.symm axL950
                          subst axL950
                          have hP : va_P D vwCl (mw ad kk ks.1 V949 L) H := hP
                          have hD : va_D A (mw ad kk ks.1 V949 L) := hD
                          have hMV949 : rgd bM V949 := hMV949
                          have ajV949 : agr [(0, 7), (0, 8)] [] V330 V949 := ajV949
                          have agV949 : agr [(0, 7), (0, 8), (0, 48), (0, 50), (0, 51), (0, 52)] [15, 19, 20, 21, 22, 23, 24, 25, 26, 27, 28, 29, 30, 31, 32, 33, 34, 35, 36, 37, 38, 45, 46, 47, 53] V V949 := agV330.tr ajV949 (by decide) (by decide)
                          have rgz945 : 0 ≤ z945.toInt ∧ z945.toInt ≤ 0 := rgz945
                          have t948 : (V949 0 8).toInt = (V330 0 8).toInt := t948
                          have r951 : 0 ≤ ((V949 0 8)).toInt ∧ ((V949 0 8)).toInt ≤ 70000 := hMV949 0 8
                          refine va_iast (D := D) (i := z5) (x := z945) hx hb hK hP hD hS 15 14 rfl rfl (i_in (a := z5.toInt) rfl (by omega)) dX12_toldComponent_145 (fun H locs hP hD hS => ?_)
                          obtain ⟨V952, hV952⟩ : ∃ z, z = up2 V949 22 (Int32.toNatClampNeg z5) z945 := ⟨_, rfl⟩
                          have hP : va_P D vwCl (mw ad kk ks.1 V952 L) H := by rw [hV952]; exact hP
                          have hD : va_D A (mw ad kk ks.1 V952 L) := by rw [hV952]; exact hD
                          have hMV952 : rgd bM V952 := hMV949.put hV952 (i_full _)
                          have agV952 : agr [(0, 7), (0, 8), (0, 48), (0, 50), (0, 51), (0, 52)] [15, 19, 20, 21, 22, 23, 24, 25, 26, 27, 28, 29, 30, 31, 32, 33, 34, 35, 36, 37, 38, 45, 46, 47, 53] V V952 := agV949.up hV952 rfl
                          refine lv_aload_n hx hb dX12_toldComponent_146 rfl (lv_at hl 3 rfl) ?_
                          refine va_get (D := D) (ci := 12) (v := .ref (ad 23)) (C := RX12) (T := TX12) (N := 100) hx hb hg inX12 hown hK hP 0 rfl rfl 23 (by decide) (hg _ w1733) (fun _ h9 => h9) rfl dX12_toldComponent_147 ?_
                          refine lv_iload_n hx hb dX12_toldComponent_150 rfl (lv_at hl 2 rfl) ?_
                          refine lv_aload_n hx hb dX12_toldComponent_151 rfl (lv_at hl 3 rfl) ?_
                          refine lv_iconst (v := 5) hx hb dX12_toldComponent_152 (by decide) ?_
                          have r953 : Int32.toInt 5 = 5 := by decide
                          have pq954 : (V952 0 8).toInt = ((V949 0 8)).toInt := congrArg Int32.toInt (up2_o hV952 (by decide))
                          refine gA_int (gA_runV (As := [.int 5]) (rest := [.int z5, .ref (ad 23)]) (ci := 12) (q0 := 0) hx hb hml hown hg hP hD hK hS hA hnw hgk (s_hasWordB l D ks H.size ad kk V952 L 5 hMV952 (by decide) (show 1 ≤ (V952 0 8).toInt from by omega)) w2055 w2057 w90 w172 w2058 rfl rfl hdV_yX12_hasWord ⟨Nat.le_of_ble_eq_true rfl, Nat.le_of_ble_eq_true rfl⟩ rfl hl.1 rfl (Nat.le_of_ble_eq_true rfl) dX12_toldComponent_153 ⟨Nat.le_of_ble_eq_true rfl, Nat.le_of_ble_eq_true rfl⟩) hP hD hK hS hA (fun z955 u956 H locs w957 hP hD hK hS => ?_)
                          obtain ⟨V959, L960⟩ := u956
                          obtain ⟨hMV959, ajV959, axL960, rgz955, t958⟩ := w957
                          have axL960 : L = L960 := Eq.symm axL960
                          subst axL960
                          have hP : va_P D vwCl (mw ad kk ks.1 V959 L) H := hP
                          have hD : va_D A (mw ad kk ks.1 V959 L) := hD
                          have hMV959 : rgd bM V959 := hMV959
                          have ajV959 : agr [(0, 7)] [] V952 V959 := ajV959
                          have agV959 : agr [(0, 7), (0, 8), (0, 48), (0, 50), (0, 51), (0, 52)] [15, 19, 20, 21, 22, 23, 24, 25, 26, 27, 28, 29, 30, 31, 32, 33, 34, 35, 36, 37, 38, 45, 46, 47, 53] V V959 := agV952.tr ajV959 (by decide) (by decide)
                          have rgz955 : 0 ≤ z955.toInt ∧ z955.toInt ≤ 0 := rgz955
                          have t958 : (V959 0 8).toInt = (V952 0 8).toInt := t958
                          have pq961 : (V959 0 8).toInt = ((V949 0 8)).toInt := congrArg Int32.toInt ((ajV959 0 8 rfl).trans (up2_o hV952 (by decide)))
                          refine lv_if_eq (tgt := 174) hx hb dX12_toldComponent_156 (by decide) (fun c962 => ?_) (fun c962 => ?_)
                          · skip
                            have f963 : z955.toInt = 0 := b_eq rfl (by decide) c962
                            refine lv_iconst (v := (-1)) hx hb dX12_toldComponent_174 (by decide) ?_
                            refine va_iast (D := D) (i := z5) (x := (-1)) hx hb hK hP hD hS 16 15 rfl rfl (i_in (a := z5.toInt) rfl (by omega)) dX12_toldComponent_175 (fun H locs hP hD hS => ?_)
                            obtain ⟨V964, hV964⟩ : ∃ z, z = up2 V959 23 (Int32.toNatClampNeg z5) (-1) := ⟨_, rfl⟩
                            have hP : va_P D vwCl (mw ad kk ks.1 V964 L) H := by rw [hV964]; exact hP
                            have hD : va_D A (mw ad kk ks.1 V964 L) := by rw [hV964]; exact hD
                            have hMV964 : rgd bM V964 := hMV959.put hV964 (i_full _)
                            have agV964 : agr [(0, 7), (0, 8), (0, 48), (0, 50), (0, 51), (0, 52)] [15, 19, 20, 21, 22, 23, 24, 25, 26, 27, 28, 29, 30, 31, 32, 33, 34, 35, 36, 37, 38, 45, 46, 47, 53] V V964 := agV959.up hV964 rfl
                            refine lv_aload_n hx hb dX12_toldComponent_176 rfl (lv_at hl 3 rfl) ?_
                            refine va_get (D := D) (ci := 12) (v := .ref (ad 24)) (C := RX12) (T := TX12) (N := 100) hx hb hg inX12 hown hK hP 0 rfl rfl 24 (by decide) (hg _ w1734) (fun _ h9 => h9) rfl dX12_toldComponent_177 ?_
                            refine lv_iload_n hx hb dX12_toldComponent_180 rfl (lv_at hl 2 rfl) ?_
                            refine lv_aload_n hx hb dX12_toldComponent_181 rfl (lv_at hl 3 rfl) ?_
                            refine lv_bipush (v := 6) hx hb dX12_toldComponent_182 (by decide) ?_
                            have r965 : Int32.toInt 6 = 6 := by decide
                            have pq966 : (V964 0 8).toInt = ((V949 0 8)).toInt := congrArg Int32.toInt ((up2_o hV964 (by decide)).trans ((ajV959 0 8 rfl).trans (up2_o hV952 (by decide))))
                            refine gA_int (gA_runV (As := [.int 6]) (rest := [.int z5, .ref (ad 24)]) (ci := 12) (q0 := 0) hx hb hml hown hg hP hD hK hS hA hnw hgk (s_hasWordB l D ks H.size ad kk V964 L 6 hMV964 (by decide) (show 1 ≤ (V964 0 8).toInt from by omega)) w2055 w2057 w90 w172 w2058 rfl rfl hdV_yX12_hasWord ⟨Nat.le_of_ble_eq_true rfl, Nat.le_of_ble_eq_true rfl⟩ rfl hl.1 rfl (Nat.le_of_ble_eq_true rfl) dX12_toldComponent_184 ⟨Nat.le_of_ble_eq_true rfl, Nat.le_of_ble_eq_true rfl⟩) hP hD hK hS hA (fun z967 u968 H locs w969 hP hD hK hS => ?_)
                            obtain ⟨V971, L972⟩ := u968
                            obtain ⟨hMV971, ajV971, axL972, rgz967, t970⟩ := w969
                            have axL972 : L = L972 := Eq.symm axL972
                            subst axL972
                            have hP : va_P D vwCl (mw ad kk ks.1 V971 L) H := hP
                            have hD : va_D A (mw ad kk ks.1 V971 L) := hD
                            have hMV971 : rgd bM V971 := hMV971
                            have ajV971 : agr [(0, 7)] [] V964 V971 := ajV971
                            have agV971 : agr [(0, 7), (0, 8), (0, 48), (0, 50), (0, 51), (0, 52)] [15, 19, 20, 21, 22, 23, 24, 25, 26, 27, 28, 29, 30, 31, 32, 33, 34, 35, 36, 37, 38, 45, 46, 47, 53] V V971 := agV964.tr ajV971 (by decide) (by decide)
                            have rgz967 : 0 ≤ z967.toInt ∧ z967.toInt ≤ 0 := rgz967
                            have t970 : (V971 0 8).toInt = (V964 0 8).toInt := t970
                            have pq973 : (V971 0 8).toInt = ((V949 0 8)).toInt := congrArg Int32.toInt ((ajV971 0 8 rfl).trans ((up2_o hV964 (by decide)).trans ((ajV959 0 8 rfl).trans (up2_o hV952 (by decide)))))
                            refine lv_if_eq (tgt := 200) hx hb dX12_toldComponent_187 (by decide) (fun c974 => ?_) (fun c974 => ?_)
                            · skip
                              have f975 : z967.toInt = 0 := b_eq rfl (by decide) c974
                              refine lv_iconst (v := 0) hx hb dX12_toldComponent_200 (by decide) ?_
                              refine va_iast (D := D) (i := z5) (x := 0) hx hb hK hP hD hS 17 16 rfl rfl (i_in (a := z5.toInt) rfl (by omega)) dX12_toldComponent_201 (fun H locs hP hD hS => ?_)
                              obtain ⟨V976, hV976⟩ : ∃ z, z = up2 V971 24 (Int32.toNatClampNeg z5) 0 := ⟨_, rfl⟩
                              have hP : va_P D vwCl (mw ad kk ks.1 V976 L) H := by rw [hV976]; exact hP
                              have hD : va_D A (mw ad kk ks.1 V976 L) := by rw [hV976]; exact hD
                              have hMV976 : rgd bM V976 := hMV971.put hV976 (show 0 ≤ Int32.toInt 0 ∧ Int32.toInt 0 ≤ 9 from by decide)
                              have agV976 : agr [(0, 7), (0, 8), (0, 48), (0, 50), (0, 51), (0, 52)] [15, 19, 20, 21, 22, 23, 24, 25, 26, 27, 28, 29, 30, 31, 32, 33, 34, 35, 36, 37, 38, 45, 46, 47, 53] V V976 := agV971.up hV976 rfl
                              refine lv_aload_n hx hb dX12_toldComponent_202 rfl (lv_at hl 3 rfl) ?_
                              refine va_get (D := D) (ci := 12) (v := .ref (ad 25)) (C := RX12) (T := TX12) (N := 100) hx hb hg inX12 hown hK hP 0 rfl rfl 25 (by decide) (hg _ w1735) (fun _ h9 => h9) rfl dX12_toldComponent_203 ?_
                              refine lv_iload_n hx hb dX12_toldComponent_206 rfl (lv_at hl 2 rfl) ?_
                              refine lv_iconst (v := (-1)) hx hb dX12_toldComponent_207 (by decide) ?_
                              refine va_iast (D := D) (i := z5) (x := (-1)) hx hb hK hP hD hS 18 17 rfl rfl (i_in (a := z5.toInt) rfl (by omega)) dX12_toldComponent_208 (fun H locs hP hD hS => ?_)
                              obtain ⟨V977, hV977⟩ : ∃ z, z = up2 V976 25 (Int32.toNatClampNeg z5) (-1) := ⟨_, rfl⟩
                              have hP : va_P D vwCl (mw ad kk ks.1 V977 L) H := by rw [hV977]; exact hP
                              have hD : va_D A (mw ad kk ks.1 V977 L) := by rw [hV977]; exact hD
                              have hMV977 : rgd bM V977 := hMV976.put hV977 (show (-1) ≤ Int32.toInt (-1) ∧ Int32.toInt (-1) ≤ 11 from by decide)
                              have agV977 : agr [(0, 7), (0, 8), (0, 48), (0, 50), (0, 51), (0, 52)] [15, 19, 20, 21, 22, 23, 24, 25, 26, 27, 28, 29, 30, 31, 32, 33, 34, 35, 36, 37, 38, 45, 46, 47, 53] V V977 := agV976.up hV977 rfl
                              refine lv_aload_n hx hb dX12_toldComponent_209 rfl (lv_at hl 3 rfl) ?_
                              refine lv_bipush (v := 7) hx hb dX12_toldComponent_210 (by decide) ?_
                              have r978 : Int32.toInt 7 = 7 := by decide
                              have pq979 : (V977 0 8).toInt = ((V949 0 8)).toInt := congrArg Int32.toInt ((up2_o hV977 (by decide)).trans ((up2_o hV976 (by decide)).trans ((ajV971 0 8 rfl).trans ((up2_o hV964 (by decide)).trans ((ajV959 0 8 rfl).trans (up2_o hV952 (by decide)))))))
                              refine gA_int (gA_runV (As := [.int 7]) (rest := []) (ci := 12) (q0 := 0) hx hb hml hown hg hP hD hK hS hA hnw hgk (s_hasWordB l D ks H.size ad kk V977 L 7 hMV977 (by decide) (show 1 ≤ (V977 0 8).toInt from by omega)) w2055 w2057 w90 w172 w2058 rfl rfl hdV_yX12_hasWord ⟨Nat.le_of_ble_eq_true rfl, Nat.le_of_ble_eq_true rfl⟩ rfl hl.1 rfl (Nat.le_of_ble_eq_true rfl) dX12_toldComponent_212 ⟨Nat.le_of_ble_eq_true rfl, Nat.le_of_ble_eq_true rfl⟩) hP hD hK hS hA (fun z980 u981 H locs w982 hP hD hK hS => ?_)
                              obtain ⟨V984, L985⟩ := u981
                              obtain ⟨hMV984, ajV984, axL985, rgz980, t983⟩ := w982
                              have axL985 : L = L985 := Eq.symm axL985
                              subst axL985
                              have hP : va_P D vwCl (mw ad kk ks.1 V984 L) H := hP
                              have hD : va_D A (mw ad kk ks.1 V984 L) := hD
                              have hMV984 : rgd bM V984 := hMV984
                              have ajV984 : agr [(0, 7)] [] V977 V984 := ajV984
                              have agV984 : agr [(0, 7), (0, 8), (0, 48), (0, 50), (0, 51), (0, 52)] [15, 19, 20, 21, 22, 23, 24, 25, 26, 27, 28, 29, 30, 31, 32, 33, 34, 35, 36, 37, 38, 45, 46, 47, 53] V V984 := agV977.tr ajV984 (by decide) (by decide)
                              have rgz980 : 0 ≤ z980.toInt ∧ z980.toInt ≤ 0 := rgz980
                              have t983 : (V984 0 8).toInt = (V977 0 8).toInt := t983
                              have pq986 : (V984 0 8).toInt = ((V949 0 8)).toInt := congrArg Int32.toInt ((ajV984 0 8 rfl).trans ((up2_o hV977 (by decide)).trans ((up2_o hV976 (by decide)).trans ((ajV971 0 8 rfl).trans ((up2_o hV964 (by decide)).trans ((ajV959 0 8 rfl).trans (up2_o hV952 (by decide))))))))
                              refine lv_if_eq (tgt := 262) hx hb dX12_toldComponent_215 (by decide) (fun c987 => ?_) (fun c987 => ?_)
                              · skip
                                have f988 : z980.toInt = 0 := b_eq rfl (by decide) c987
                                have pq989 : (V984 0 48).toInt = ((V 0 48)).toInt := congrArg Int32.toInt ((ajV984 0 48 rfl).trans ((up2_o hV977 (by decide)).trans ((up2_o hV976 (by decide)).trans ((ajV971 0 48 rfl).trans ((up2_o hV964 (by decide)).trans ((ajV959 0 48 rfl).trans ((up2_o hV952 (by decide)).trans ((ajV949 0 48 rfl).trans ((ajV330 0 48 rfl).trans ((ajV47 0 48 rfl).trans ((ajV42 0 48 rfl).trans ((ajV29 0 48 rfl).trans (ajV13 0 48 rfl)))))))))))))
                                have pq990 : (V984 0 12).toInt = ((V 0 12)).toInt := congrArg Int32.toInt ((ajV984 0 12 rfl).trans ((up2_o hV977 (by decide)).trans ((up2_o hV976 (by decide)).trans ((ajV971 0 12 rfl).trans ((up2_o hV964 (by decide)).trans ((ajV959 0 12 rfl).trans ((up2_o hV952 (by decide)).trans ((ajV949 0 12 rfl).trans ((ajV330 0 12 rfl).trans ((ajV47 0 12 rfl).trans ((ajV42 0 12 rfl).trans ((ajV29 0 12 rfl).trans (ajV13 0 12 rfl)))))))))))))
                                have rw991 : RoV 19 bq V V984 := (fun k hk => ((ajV984 19 k rfl).trans ((up2_o hV977 (by decide)).trans ((up2_o hV976 (by decide)).trans ((ajV971 19 k rfl).trans ((up2_o hV964 (by decide)).trans ((ajV959 19 k rfl).trans ((up2_o hV952 (by decide)).trans ((ajV949 19 k rfl).trans ((ajV330 19 k rfl).trans (xlp48_1 k hk)))))))))))
                                have rw992 : RoV 35 bq V V984 := (fun k hk => ((ajV984 35 k rfl).trans ((up2_o hV977 (by decide)).trans ((up2_o hV976 (by decide)).trans ((ajV971 35 k rfl).trans ((up2_o hV964 (by decide)).trans ((ajV959 35 k rfl).trans ((up2_o hV952 (by decide)).trans ((ajV949 35 k rfl).trans ((ajV330 35 k rfl).trans (xlp48_2 k hk)))))))))))
                                have rw993 : RoV 37 bq V V984 := (fun k hk => ((ajV984 37 k rfl).trans ((up2_o hV977 (by decide)).trans ((up2_o hV976 (by decide)).trans ((ajV971 37 k rfl).trans ((up2_o hV964 (by decide)).trans ((ajV959 37 k rfl).trans ((up2_o hV952 (by decide)).trans ((ajV949 37 k rfl).trans ((ajV330 37 k rfl).trans (xlp48_3 k hk)))))))))))
                                have rw994 : RoL 20 24 bq L L := (fun k hk => rfl)
                                have rw995 : RoL 36 20 bq L L := (fun k hk => rfl)
                                have rw996 : RoL 38 20 bq L L := (fun k hk => rfl)
                                exact J52 V984 L H locs ls alL (agr.tr (agr.up (agr.up (agr.tr (agr.up (agr.tr (agr.up (agr.tr (agr.tr agr.rf ajV330 (by decide) (by decide)) ajV949 (by decide) (by decide)) hV952 rfl) ajV959 (by decide) (by decide)) hV964 rfl) ajV971 (by decide) (by decide)) hV976 rfl) hV977 rfl) ajV984 (by decide) (by decide)) hMV984 (Or.inr ⟨(show 1 ≤ (V984 0 8).toInt from by omega), (fun k => by rw [show (V984 0 8).toInt = (V330 0 8).toInt from by omega]; exact hb940 k)⟩) (fun h9 => by exfalso; omega) (show (V984 0 48).toInt ≤ 8000 from by omega) (show (V984 0 48).toInt = (V 0 48).toInt from by omega) (show (V984 0 12).toInt = (V 0 12).toInt from by omega) rw991 rw992 rw993 rw994 rw995 rw996 hP hD hS (lv_sub hl [0, 1, 2, 3] rfl)
                              · skip
                                have f997 : z980.toInt ≠ 0 := b_neq rfl (by decide) c987
                                exfalso; omega
                            · skip
                              have f998 : z967.toInt ≠ 0 := b_neq rfl (by decide) c974
                              exfalso; omega
                          · skip
                            have f999 : z955.toInt ≠ 0 := b_neq rfl (by decide) c962
                            exfalso; omega
                        · skip
                          have f1000 : ((V330 0 8)).toInt = 0 := b_eq rfl (by decide) c942
                          exfalso; omega
                    · skip
                      have f1001 : y46.toInt < 20 := b_nle (by decide) rfl c49
                      refine lv_aload_n hx hb dX12_toldComponent_93 rfl (lv_at hl 3 rfl) ?_
                      refine va_get (D := D) (ci := 12) (v := .ref (ad 34)) (C := RX12) (T := TX12) (N := 100) hx hb hg inX12 hown hK hP 0 rfl rfl 34 (by decide) (hg _ w1744) (fun _ h9 => h9) rfl dX12_toldComponent_94 ?_
                      refine lv_bipush (v := 20) hx hb dX12_toldComponent_97 (by decide) ?_
                      refine lv_iload_n hx hb dX12_toldComponent_99 rfl (lv_at hl 2 rfl) ?_
                      refine lv_imul hx hb dX12_toldComponent_100 ?_
                      refine lv_topi (fun z1002 ez1002 => ?_)
                      have hz1002 : z1002.toInt = 20 * z5.toInt := i_mul ez1002 (by decide) rfl (by omega)
                      refine lv_iload hx hb dX12_toldComponent_101 (lv_at hl 0 rfl) ?_
                      refine lv_iadd hx hb dX12_toldComponent_103 ?_
                      refine lv_topi (fun z1003 ez1003 => ?_)
                      have hz1003 : z1003.toInt = z1002.toInt + y46.toInt := i_add ez1003 rfl rfl (by omega)
                      refine lv_iconst (v := (-1)) hx hb dX12_toldComponent_104 (by decide) ?_
                      refine va_iast (D := D) (i := z1003) (x := (-1)) hx hb hK hP hD hS 27 26 rfl rfl (i_in (a := z1003.toInt) rfl (by omega)) dX12_toldComponent_105 (fun H locs hP hD hS => ?_)
                      obtain ⟨V1004, hV1004⟩ : ∃ z, z = up2 V47 34 (Int32.toNatClampNeg z1003) (-1) := ⟨_, rfl⟩
                      have hP : va_P D vwCl (mw ad kk ks.1 V1004 L) H := by rw [hV1004]; exact hP
                      have hD : va_D A (mw ad kk ks.1 V1004 L) := by rw [hV1004]; exact hD
                      have hMV1004 : rgd bM V1004 := hMV47.put hV1004 (i_full _)
                      have agV1004 : agr [(0, 7), (0, 8), (0, 48), (0, 50), (0, 51), (0, 52)] [15, 19, 20, 21, 22, 23, 24, 25, 26, 27, 28, 29, 30, 31, 32, 33, 34, 35, 36, 37, 38, 45, 46, 47, 53] V V1004 := agV47.up hV1004 rfl
                      obtain ⟨z1005, ez1005⟩ : ∃ y : Int32, y = y46 + 1 := ⟨_, rfl⟩
                      have hz1005 : z1005.toInt = y46.toInt + 1 := i_add ez1005 rfl (by decide) (by omega)
                      refine lv_iinc (v := z1005) (lv' := [(4, .int z1005), (2, .long z25), (1, .int z5), (0, .ref (ad 0))]) hx hb dX12_toldComponent_106 hl (k := 0) rfl (by rw [ez1005]; rfl) (by decide) rfl (fun ls hl => ?_)
                      refine lv_goto (tgt := 86) hx hb dX12_toldComponent_109 (by decide) ?_
                      have k34 := i_clamp (x := z1003) rfl (by omega)
                      have rw1006 : RoV 19 bq V V1004 := (fun k hk => ((up2_o hV1004 (by decide)).trans (xlp48_1 k hk)))
                      have rw1007 : RoV 35 bq V V1004 := (fun k hk => ((up2_o hV1004 (by decide)).trans (xlp48_2 k hk)))
                      have rw1008 : RoV 37 bq V V1004 := (fun k hk => ((up2_o hV1004 (by decide)).trans (xlp48_3 k hk)))
                      have rw1009 : RoL 20 24 bq L L := (fun k hk => rfl)
                      have rw1010 : RoL 36 20 bq L L := (fun k hk => rfl)
                      have rw1011 : RoL 38 20 bq L L := (fun k hk => rfl)
                      exact ihlp48 z1005 V1004 H locs ls (by omega) (fun j hj => by rcases Decidable.em (20 * gc + j = Int32.toNatClampNeg z1003) with hk | hk; (rw [hk, up2_s hV1004]; decide); (rw [up2_k hV1004 hk]; exact xlp48_0 j (by omega))) rw1006 rw1007 rw1008 rw1009 rw1010 rw1011 (by omega) (agr.up (agr.tr agr.rf ajV47 (by decide) (by decide)) hV1004 rfl) hMV1004 hP hD hS (lv_sub hl [0, 1, 2, 3] rfl)
                have rw1012 : RoV 19 bq V V42 := (fun k hk => (xlp43_2 k hk))
                have rw1013 : RoV 35 bq V V42 := (fun k hk => (xlp43_3 k hk))
                have rw1014 : RoV 37 bq V V42 := (fun k hk => (xlp43_4 k hk))
                have rw1015 : RoL 20 24 bq L L := (fun k hk => rfl)
                have rw1016 : RoL 36 20 bq L L := (fun k hk => rfl)
                have rw1017 : RoL 38 20 bq L L := (fun k hk => rfl)
                exact lp48 ((20 - (Int32.toInt 0) + 1 : Int).toNat) 0 V42 H locs ls (by decide) (fun j hj => absurd hj (by omega)) rw1012 rw1013 rw1014 rw1015 rw1016 rw1017 (by omega) agr.rf hMV42 hP hD hS (lv_sub hl [0, 1, 2, 3] rfl)
              · skip
                have f1018 : y41.toInt < 24 := b_nle (by decide) rfl c44
                refine lv_aload_n hx hb dX12_toldComponent_64 rfl (lv_at hl 3 rfl) ?_
                refine va_get (D := D) (ci := 12) (v := .ref (ad 21)) (C := RX12) (T := TX12) (N := 100) hx hb hg inX12 hown hK hP 0 rfl rfl 21 (by decide) (hg _ w1731) (fun _ h9 => h9) rfl dX12_toldComponent_65 ?_
                refine lv_bipush (v := 24) hx hb dX12_toldComponent_68 (by decide) ?_
                refine lv_iload_n hx hb dX12_toldComponent_70 rfl (lv_at hl 2 rfl) ?_
                refine lv_imul hx hb dX12_toldComponent_71 ?_
                refine lv_topi (fun z1019 ez1019 => ?_)
                have hz1019 : z1019.toInt = 24 * z5.toInt := i_mul ez1019 (by decide) rfl (by omega)
                refine lv_iload hx hb dX12_toldComponent_72 (lv_at hl 0 rfl) ?_
                refine lv_iadd hx hb dX12_toldComponent_74 ?_
                refine lv_topi (fun z1020 ez1020 => ?_)
                have hz1020 : z1020.toInt = z1019.toInt + y41.toInt := i_add ez1020 rfl rfl (by omega)
                refine lv_iconst (v := 0) hx hb dX12_toldComponent_75 (by decide) ?_
                refine va_zast (D := D) (i := z1020) (x := 0) hx hb hK hP hD hS 14 13 rfl rfl (i_in (a := z1020.toInt) rfl (by omega)) dX12_toldComponent_76 (fun H locs hP hD hS => ?_)
                obtain ⟨V1021, hV1021⟩ : ∃ z, z = up2 V42 21 (Int32.toNatClampNeg z1020) (vp_nar .boolean 0) := ⟨_, rfl⟩
                have hP : va_P D vwCl (mw ad kk ks.1 V1021 L) H := by rw [hV1021]; exact hP
                have hD : va_D A (mw ad kk ks.1 V1021 L) := by rw [hV1021]; exact hD
                have hMV1021 : rgd bM V1021 := hMV42.put hV1021 (nar_b _)
                have agV1021 : agr [(0, 7), (0, 8), (0, 48), (0, 50), (0, 51), (0, 52)] [15, 19, 20, 21, 22, 23, 24, 25, 26, 27, 28, 29, 30, 31, 32, 33, 34, 35, 36, 37, 38, 45, 46, 47, 53] V V1021 := agV42.up hV1021 rfl
                obtain ⟨z1022, ez1022⟩ : ∃ y : Int32, y = y41 + 1 := ⟨_, rfl⟩
                have hz1022 : z1022.toInt = y41.toInt + 1 := i_add ez1022 rfl (by decide) (by omega)
                refine lv_iinc (v := z1022) (lv' := [(4, .int z1022), (2, .long z25), (1, .int z5), (0, .ref (ad 0))]) hx hb dX12_toldComponent_77 hl (k := 0) rfl (by rw [ez1022]; rfl) (by decide) rfl (fun ls hl => ?_)
                refine lv_goto (tgt := 57) hx hb dX12_toldComponent_80 (by decide) ?_
                have kc5 := i_clamp (x := y41) rfl (by omega)
                have kp5 : (Int32.toNatClampNeg z1020) = 24 * gc + Int32.toNatClampNeg y41 := by have h9 := i_clamp (x := z1020) rfl (by omega); omega
                have cn1023 : CNm V1021 bq gs := CNm.up xlp43_1 hV1021 (fun q9 => by have h9 := i_clamp (x := z1020) rfl (by omega); unfold rdm at q9; omega)
                have rw1024 : RoV 19 bq V V1021 := (fun k hk => ((up2_o hV1021 (by decide)).trans (xlp43_2 k hk)))
                have rw1025 : RoV 35 bq V V1021 := (fun k hk => ((up2_o hV1021 (by decide)).trans (xlp43_3 k hk)))
                have rw1026 : RoV 37 bq V V1021 := (fun k hk => ((up2_o hV1021 (by decide)).trans (xlp43_4 k hk)))
                have rw1027 : RoL 20 24 bq L L := (fun k hk => rfl)
                have rw1028 : RoL 36 20 bq L L := (fun k hk => rfl)
                have rw1029 : RoL 38 20 bq L L := (fun k hk => rfl)
                exact ihlp43 z1022 V1021 H locs ls (by omega) (fun g hg => by by_cases hk : g = Int32.toNatClampNeg y41; (rw [hk, ← kp5, up2_s hV1021]; decide); (rw [up2_k hV1021 (by omega)]; exact xlp43_0 g (by omega))) cn1023 rw1024 rw1025 rw1026 rw1027 rw1028 rw1029 (by omega) (agr.up (agr.tr agr.rf ajV42 (by decide) (by decide)) hV1021 rfl) hMV1021 hP hD hS (lv_sub hl [0, 1, 2, 3] rfl)
          have cn1030 : CNm V29 bq gs := CNm.ag cnm (show agr [(0, 7), (0, 8)] [] V V29 from (agr.tr (agr.tr agr.rf ajV13 (by decide) (by decide)) ajV29 (by decide) (by decide))) (by decide) keepC.rf
          have rw1031 : RoV 19 bq V V29 := (fun k hk => ((ajV29 19 k rfl).trans ((ajV13 19 k rfl).trans rfl)))
          have rw1032 : RoV 35 bq V V29 := (fun k hk => ((ajV29 35 k rfl).trans ((ajV13 35 k rfl).trans rfl)))
          have rw1033 : RoV 37 bq V V29 := (fun k hk => ((ajV29 37 k rfl).trans ((ajV13 37 k rfl).trans rfl)))
          have rw1034 : RoL 20 24 bq L L := (fun k hk => rfl)
          have rw1035 : RoL 36 20 bq L L := (fun k hk => rfl)
          have rw1036 : RoL 38 20 bq L L := (fun k hk => rfl)
          exact lp43 ((24 - (Int32.toInt 0) + 1 : Int).toNat) 0 V29 H locs ls (by decide) (fun g hg => absurd hg (by omega)) cn1030 rw1031 rw1032 rw1033 rw1034 rw1035 rw1036 (by omega) agr.rf hMV29 hP hD hS (lv_sub hl [0, 1, 2, 3] rfl)
        · skip
          have hb1037 : ∀ k, Rc gT (Crun gs (Istmt :: k)) (Cbad (V29 0 8).toInt) := fun k => Rc.go1 (hr19 k) (nc_b h33)
          have r1038 : 0 ≤ ((V29 0 8)).toInt ∧ ((V29 0 8)).toInt ≤ 70000 := hMV29 0 8
          refine lv_lstore_n (lv' := [(2, .long z25), (1, .int z5), (0, .ref (ad 0))]) hx hb dX12_toldComponent_53 rfl hl (by decide) rfl (fun ls hl => ?_)
          have z5s : z5.toInt < 48 := by omega
          refine lv_iconst (v := 0) hx hb dX12_toldComponent_54 (by decide) ?_
          refine lv_istore (lv' := [(4, .int 0), (2, .long z25), (1, .int z5), (0, .ref (ad 0))]) hx hb dX12_toldComponent_55 hl (by decide) rfl (fun ls hl => ?_)
          have lp1041 : ∀ (fulp1041 : Nat) (y1039 : Int32) (V1040 : Vf) (H : Heap) (locs : List Loc) (ls : Array Slot), 0 ≤ y1039.toInt ∧ y1039.toInt ≤ 24 → (∀ g : Nat, (g : Int) < y1039.toInt → (V1040 21 (24 * gc + g)).toInt = 0) → (CNm V1040 bq gs) → (RoV 19 bq V V1040) → (RoV 35 bq V V1040) → (RoV 37 bq V V1040) → (RoL 20 24 bq L L) → (RoL 36 20 bq L L) → (RoL 38 20 bq L L) → 24 - y1039.toInt < (fulp1041 : Int) → agr [] [21] V29 V1040 → rgd bM V1040 → va_P D vwCl (mw ad kk ks.1 V1040 L) H → va_D A (mw ad kk ks.1 V1040 L) → va_S A s.heap H locs → lv_has ls 5 [(4, .int y1039), (2, .long z25), (1, .int z5), (0, .ref (ad 0))] → W p l e r_s_toldComponentA s m ([.ref (ad 0)] : List Value).toArray below meth c H locs 0 0 (MQ below (q_s_toldComponentA D ks ad kk V L  bq gn gT gs A) ([.ref (ad 0)] : List Value).toArray s 0 0 A) (F0 m 57 ls []) := by
            (try clear fz21); (try clear ps20); (try clear hr19); (try clear hr18)
            intro fulp1041
            induction fulp1041 with
            | zero =>
              intro y1039 V1040 H locs ls klp1041_0 xlp1041_0 xlp1041_1 xlp1041_2 xlp1041_3 xlp1041_4 xlp1041_5 xlp1041_6 xlp1041_7 hn ajV1040 hMV1040 hP hD hS hl
              exfalso; omega
            | succ fulp1041 ihlp1041 =>
              intro y1039 V1040 H locs ls klp1041_0 xlp1041_0 xlp1041_1 xlp1041_2 xlp1041_3 xlp1041_4 xlp1041_5 xlp1041_6 xlp1041_7 hn ajV1040 hMV1040 hP hD hS hl
              have agV1040 : agr [(0, 7), (0, 8), (0, 48), (0, 50), (0, 51), (0, 52)] [15, 19, 20, 21, 22, 23, 24, 25, 26, 27, 28, 29, 30, 31, 32, 33, 34, 35, 36, 37, 38, 45, 46, 47, 53] V V1040 := agV29.tr ajV1040 (by decide) (by decide)
              refine lv_iload hx hb dX12_toldComponent_57 (lv_at hl 0 rfl) ?_
              refine lv_bipush (v := 24) hx hb dX12_toldComponent_59 (by decide) ?_
              refine lv_icmp_ge (tgt := 83) hx hb dX12_toldComponent_61 (by decide) (fun c1042 => ?_) (fun c1042 => ?_)
              · skip
                have f1043 : 24 ≤ y1039.toInt := b_le (by decide) rfl c1042
                refine lv_iconst (v := 0) hx hb dX12_toldComponent_83 (by decide) ?_
                refine lv_istore (lv' := [(4, .int 0), (2, .long z25), (1, .int z5), (0, .ref (ad 0))]) hx hb dX12_toldComponent_84 hl (by decide) rfl (fun ls hl => ?_)
                have lp1046 : ∀ (fulp1046 : Nat) (y1044 : Int32) (V1045 : Vf) (H : Heap) (locs : List Loc) (ls : Array Slot), 0 ≤ y1044.toInt ∧ y1044.toInt ≤ 20 → (∀ j : Nat, (j : Int) < y1044.toInt → (V1045 34 (20 * gc + j)).toInt = -1) → (RoV 19 bq V V1045) → (RoV 35 bq V V1045) → (RoV 37 bq V V1045) → (RoL 20 24 bq L L) → (RoL 36 20 bq L L) → (RoL 38 20 bq L L) → 20 - y1044.toInt < (fulp1046 : Int) → agr [] [34] V1040 V1045 → rgd bM V1045 → va_P D vwCl (mw ad kk ks.1 V1045 L) H → va_D A (mw ad kk ks.1 V1045 L) → va_S A s.heap H locs → lv_has ls 5 [(4, .int y1044), (2, .long z25), (1, .int z5), (0, .ref (ad 0))] → W p l e r_s_toldComponentA s m ([.ref (ad 0)] : List Value).toArray below meth c H locs 0 0 (MQ below (q_s_toldComponentA D ks ad kk V L  bq gn gT gs A) ([.ref (ad 0)] : List Value).toArray s 0 0 A) (F0 m 86 ls []) := by
                  (try clear fz21); (try clear ps20); (try clear hr19); (try clear hr18)
                  intro fulp1046
                  induction fulp1046 with
                  | zero =>
                    intro y1044 V1045 H locs ls klp1046_0 xlp1046_0 xlp1046_1 xlp1046_2 xlp1046_3 xlp1046_4 xlp1046_5 xlp1046_6 hn ajV1045 hMV1045 hP hD hS hl
                    exfalso; omega
                  | succ fulp1046 ihlp1046 =>
                    intro y1044 V1045 H locs ls klp1046_0 xlp1046_0 xlp1046_1 xlp1046_2 xlp1046_3 xlp1046_4 xlp1046_5 xlp1046_6 hn ajV1045 hMV1045 hP hD hS hl
                    have agV1045 : agr [(0, 7), (0, 8), (0, 48), (0, 50), (0, 51), (0, 52)] [15, 19, 20, 21, 22, 23, 24, 25, 26, 27, 28, 29, 30, 31, 32, 33, 34, 35, 36, 37, 38, 45, 46, 47, 53] V V1045 := agV1040.tr ajV1045 (by decide) (by decide)
                    refine lv_iload hx hb dX12_toldComponent_86 (lv_at hl 0 rfl) ?_
                    refine lv_bipush (v := 20) hx hb dX12_toldComponent_88 (by decide) ?_
                    refine lv_icmp_ge (tgt := 112) hx hb dX12_toldComponent_90 (by decide) (fun c1047 => ?_) (fun c1047 => ?_)
                    · skip
                      have f1048 : 20 ≤ y1044.toInt := b_le (by decide) rfl c1047
                      have r31049 : ∀ j : Nat, j < 20 → (V1045 34 (20 * gc + j)).toInt = -1 := fun j hj => xlp1046_0 j (by omega)
                      refine lv_aload_n hx hb dX12_toldComponent_112 rfl (lv_at hl 3 rfl) ?_
                      refine lv_iconst (v := 4) hx hb dX12_toldComponent_113 (by decide) ?_
                      have r1050 : Int32.toInt 4 = 4 := by decide
                      have pq1051 : (V1045 0 8).toInt = ((V29 0 8)).toInt := congrArg Int32.toInt ((ajV1045 0 8 rfl).trans (ajV1040 0 8 rfl))
                      refine gA_void (gA_runV (As := [.int 4]) (rest := []) (ci := 12) (q0 := 0) hx hb hml hown hg hP hD hK hS hA hnw hgk (s_takeWordB l D ks H.size ad kk V1045 L 4 hMV1045 (by decide) (show 1 ≤ (V1045 0 8).toInt from by omega)) w2096 w2098 w100 w172 w2099 rfl rfl hdV_yX12_takeWord ⟨Nat.le_of_ble_eq_true rfl, Nat.le_of_ble_eq_true rfl⟩ rfl hl.1 rfl (Nat.le_of_ble_eq_true rfl) dX12_toldComponent_114 ⟨Nat.le_of_ble_eq_true rfl, Nat.le_of_ble_eq_true rfl⟩) hP hD hK hS hA (fun u1053 H locs w1054 hP hD hK hS => ?_)
                      obtain ⟨V1056, L1057⟩ := u1053
                      obtain ⟨hMV1056, ajV1056, axL1057, t1055⟩ := w1054
                      have axL1057 : L = L1057 := Eq.symm axL1057
                      subst axL1057
                      have hP : va_P D vwCl (mw ad kk ks.1 V1056 L) H := hP
                      have hD : va_D A (mw ad kk ks.1 V1056 L) := hD
                      have hMV1056 : rgd bM V1056 := hMV1056
                      have ajV1056 : agr [(0, 7), (0, 8)] [] V1045 V1056 := ajV1056
                      have agV1056 : agr [(0, 7), (0, 8), (0, 48), (0, 50), (0, 51), (0, 52)] [15, 19, 20, 21, 22, 23, 24, 25, 26, 27, 28, 29, 30, 31, 32, 33, 34, 35, 36, 37, 38, 45, 46, 47, 53] V V1056 := agV1045.tr ajV1056 (by decide) (by decide)
                      have t1055 : (V1056 0 8).toInt = (V1045 0 8).toInt := t1055
                      have r1058 : 0 ≤ ((V1056 0 8)).toInt ∧ ((V1056 0 8)).toInt ≤ 70000 := hMV1056 0 8
                      refine lv_aload_n hx hb dX12_toldComponent_117 rfl (lv_at hl 3 rfl) ?_
                      refine va_get (D := D) (ci := 12) (v := .int (V1056 0 8)) (C := RX12) (T := TX12) (N := 100) hx hb hg inX12 hown hK hP 0 rfl rfl 8 (by decide) (hg _ w1718) (fun _ h9 => h9) rfl dX12_toldComponent_118 ?_
                      refine lv_if_ne (tgt := 133) hx hb dX12_toldComponent_121 (by decide) (fun c1059 => ?_) (fun c1059 => ?_)
                      · skip
                        have f1060 : ((V1056 0 8)).toInt ≠ 0 := b_neq rfl (by decide) c1059
                        refine lv_aload_n hx hb dX12_toldComponent_133 rfl (lv_at hl 3 rfl) ?_
                        refine va_get (D := D) (ci := 12) (v := .ref (ad 22)) (C := RX12) (T := TX12) (N := 100) hx hb hg inX12 hown hK hP 0 rfl rfl 22 (by decide) (hg _ w1732) (fun _ h9 => h9) rfl dX12_toldComponent_134 ?_
                        refine lv_iload_n hx hb dX12_toldComponent_137 rfl (lv_at hl 2 rfl) ?_
                        refine lv_aload_n hx hb dX12_toldComponent_138 rfl (lv_at hl 3 rfl) ?_
                        refine lv_bipush (v := 20) hx hb dX12_toldComponent_139 (by decide) ?_
                        refine lv_iconst (v := 4) hx hb dX12_toldComponent_141 (by decide) ?_
                        have r1061 : Int32.toInt 20 = 20 := by decide
                        refine gA_int (gA_runV (As := [.int 20, .int 4]) (rest := [.int z5, .ref (ad 22)]) (ci := 12) (q0 := 0) hx hb hml hown hg hP hD hK hS hA hnw hgk (s_oneOfB l D ks H.size ad kk V1056 L 20 4 hMV1056 (by decide) (by decide) (show 1 ≤ (V1056 0 8).toInt from by omega)) w2100 w2102 w101 w172 w2103 rfl rfl hdV_yX12_oneOf ⟨Nat.le_of_ble_eq_true rfl, Nat.le_of_ble_eq_true rfl⟩ rfl hl.1 rfl (Nat.le_of_ble_eq_true rfl) dX12_toldComponent_142 ⟨Nat.le_of_ble_eq_true rfl, Nat.le_of_ble_eq_true rfl⟩) hP hD hK hS hA (fun z1062 u1063 H locs w1064 hP hD hK hS => ?_)
                        obtain ⟨V1066, L1067⟩ := u1063
                        obtain ⟨hMV1066, ajV1066, axL1067, rgz1062, t1065⟩ := w1064
                        have axL1067 : L = L1067 := Eq.symm axL1067
                        subst axL1067
                        have hP : va_P D vwCl (mw ad kk ks.1 V1066 L) H := hP
                        have hD : va_D A (mw ad kk ks.1 V1066 L) := hD
                        have hMV1066 : rgd bM V1066 := hMV1066
                        have ajV1066 : agr [(0, 7), (0, 8)] [] V1056 V1066 := ajV1066
                        have agV1066 : agr [(0, 7), (0, 8), (0, 48), (0, 50), (0, 51), (0, 52)] [15, 19, 20, 21, 22, 23, 24, 25, 26, 27, 28, 29, 30, 31, 32, 33, 34, 35, 36, 37, 38, 45, 46, 47, 53] V V1066 := agV1056.tr ajV1066 (by decide) (by decide)
                        have rgz1062 : 0 ≤ z1062.toInt ∧ z1062.toInt ≤ 0 := rgz1062
                        have t1065 : (V1066 0 8).toInt = (V1056 0 8).toInt := t1065
                        have r1068 : 0 ≤ ((V1066 0 8)).toInt ∧ ((V1066 0 8)).toInt ≤ 70000 := hMV1066 0 8
                        refine va_iast (D := D) (i := z5) (x := z1062) hx hb hK hP hD hS 15 14 rfl rfl (i_in (a := z5.toInt) rfl (by omega)) dX12_toldComponent_145 (fun H locs hP hD hS => ?_)
                        obtain ⟨V1069, hV1069⟩ : ∃ z, z = up2 V1066 22 (Int32.toNatClampNeg z5) z1062 := ⟨_, rfl⟩
                        have hP : va_P D vwCl (mw ad kk ks.1 V1069 L) H := by rw [hV1069]; exact hP
                        have hD : va_D A (mw ad kk ks.1 V1069 L) := by rw [hV1069]; exact hD
                        have hMV1069 : rgd bM V1069 := hMV1066.put hV1069 (i_full _)
                        have agV1069 : agr [(0, 7), (0, 8), (0, 48), (0, 50), (0, 51), (0, 52)] [15, 19, 20, 21, 22, 23, 24, 25, 26, 27, 28, 29, 30, 31, 32, 33, 34, 35, 36, 37, 38, 45, 46, 47, 53] V V1069 := agV1066.up hV1069 rfl
                        refine lv_aload_n hx hb dX12_toldComponent_146 rfl (lv_at hl 3 rfl) ?_
                        refine va_get (D := D) (ci := 12) (v := .ref (ad 23)) (C := RX12) (T := TX12) (N := 100) hx hb hg inX12 hown hK hP 0 rfl rfl 23 (by decide) (hg _ w1733) (fun _ h9 => h9) rfl dX12_toldComponent_147 ?_
                        refine lv_iload_n hx hb dX12_toldComponent_150 rfl (lv_at hl 2 rfl) ?_
                        refine lv_aload_n hx hb dX12_toldComponent_151 rfl (lv_at hl 3 rfl) ?_
                        refine lv_iconst (v := 5) hx hb dX12_toldComponent_152 (by decide) ?_
                        have r1070 : Int32.toInt 5 = 5 := by decide
                        have pq1071 : (V1069 0 8).toInt = ((V1066 0 8)).toInt := congrArg Int32.toInt (up2_o hV1069 (by decide))
                        refine gA_int (gA_runV (As := [.int 5]) (rest := [.int z5, .ref (ad 23)]) (ci := 12) (q0 := 0) hx hb hml hown hg hP hD hK hS hA hnw hgk (s_hasWordB l D ks H.size ad kk V1069 L 5 hMV1069 (by decide) (show 1 ≤ (V1069 0 8).toInt from by omega)) w2055 w2057 w90 w172 w2058 rfl rfl hdV_yX12_hasWord ⟨Nat.le_of_ble_eq_true rfl, Nat.le_of_ble_eq_true rfl⟩ rfl hl.1 rfl (Nat.le_of_ble_eq_true rfl) dX12_toldComponent_153 ⟨Nat.le_of_ble_eq_true rfl, Nat.le_of_ble_eq_true rfl⟩) hP hD hK hS hA (fun z1072 u1073 H locs w1074 hP hD hK hS => ?_)
                        obtain ⟨V1076, L1077⟩ := u1073
                        obtain ⟨hMV1076, ajV1076, axL1077, rgz1072, t1075⟩ := w1074
                        have axL1077 : L = L1077 := Eq.symm axL1077
                        subst axL1077
                        have hP : va_P D vwCl (mw ad kk ks.1 V1076 L) H := hP
                        have hD : va_D A (mw ad kk ks.1 V1076 L) := hD
                        have hMV1076 : rgd bM V1076 := hMV1076
                        have ajV1076 : agr [(0, 7)] [] V1069 V1076 := ajV1076
                        have agV1076 : agr [(0, 7), (0, 8), (0, 48), (0, 50), (0, 51), (0, 52)] [15, 19, 20, 21, 22, 23, 24, 25, 26, 27, 28, 29, 30, 31, 32, 33, 34, 35, 36, 37, 38, 45, 46, 47, 53] V V1076 := agV1069.tr ajV1076 (by decide) (by decide)
                        have rgz1072 : 0 ≤ z1072.toInt ∧ z1072.toInt ≤ 0 := rgz1072
                        have t1075 : (V1076 0 8).toInt = (V1069 0 8).toInt := t1075
                        have pq1078 : (V1076 0 8).toInt = ((V1066 0 8)).toInt := congrArg Int32.toInt ((ajV1076 0 8 rfl).trans (up2_o hV1069 (by decide)))
                        refine lv_if_eq (tgt := 174) hx hb dX12_toldComponent_156 (by decide) (fun c1079 => ?_) (fun c1079 => ?_)
                        · skip
                          have f1080 : z1072.toInt = 0 := b_eq rfl (by decide) c1079
                          refine lv_iconst (v := (-1)) hx hb dX12_toldComponent_174 (by decide) ?_
                          refine va_iast (D := D) (i := z5) (x := (-1)) hx hb hK hP hD hS 16 15 rfl rfl (i_in (a := z5.toInt) rfl (by omega)) dX12_toldComponent_175 (fun H locs hP hD hS => ?_)
                          obtain ⟨V1081, hV1081⟩ : ∃ z, z = up2 V1076 23 (Int32.toNatClampNeg z5) (-1) := ⟨_, rfl⟩
                          have hP : va_P D vwCl (mw ad kk ks.1 V1081 L) H := by rw [hV1081]; exact hP
                          have hD : va_D A (mw ad kk ks.1 V1081 L) := by rw [hV1081]; exact hD
                          have hMV1081 : rgd bM V1081 := hMV1076.put hV1081 (i_full _)
                          have agV1081 : agr [(0, 7), (0, 8), (0, 48), (0, 50), (0, 51), (0, 52)] [15, 19, 20, 21, 22, 23, 24, 25, 26, 27, 28, 29, 30, 31, 32, 33, 34, 35, 36, 37, 38, 45, 46, 47, 53] V V1081 := agV1076.up hV1081 rfl
                          refine lv_aload_n hx hb dX12_toldComponent_176 rfl (lv_at hl 3 rfl) ?_
                          refine va_get (D := D) (ci := 12) (v := .ref (ad 24)) (C := RX12) (T := TX12) (N := 100) hx hb hg inX12 hown hK hP 0 rfl rfl 24 (by decide) (hg _ w1734) (fun _ h9 => h9) rfl dX12_toldComponent_177 ?_
                          refine lv_iload_n hx hb dX12_toldComponent_180 rfl (lv_at hl 2 rfl) ?_
                          refine lv_aload_n hx hb dX12_toldComponent_181 rfl (lv_at hl 3 rfl) ?_
                          refine lv_bipush (v := 6) hx hb dX12_toldComponent_182 (by decide) ?_
                          have r1082 : Int32.toInt 6 = 6 := by decide
                          have pq1083 : (V1081 0 8).toInt = ((V1066 0 8)).toInt := congrArg Int32.toInt ((up2_o hV1081 (by decide)).trans ((ajV1076 0 8 rfl).trans (up2_o hV1069 (by decide))))
                          refine gA_int (gA_runV (As := [.int 6]) (rest := [.int z5, .ref (ad 24)]) (ci := 12) (q0 := 0) hx hb hml hown hg hP hD hK hS hA hnw hgk (s_hasWordB l D ks H.size ad kk V1081 L 6 hMV1081 (by decide) (show 1 ≤ (V1081 0 8).toInt from by omega)) w2055 w2057 w90 w172 w2058 rfl rfl hdV_yX12_hasWord ⟨Nat.le_of_ble_eq_true rfl, Nat.le_of_ble_eq_true rfl⟩ rfl hl.1 rfl (Nat.le_of_ble_eq_true rfl) dX12_toldComponent_184 ⟨Nat.le_of_ble_eq_true rfl, Nat.le_of_ble_eq_true rfl⟩) hP hD hK hS hA (fun z1084 u1085 H locs w1086 hP hD hK hS => ?_)
                          obtain ⟨V1088, L1089⟩ := u1085
                          obtain ⟨hMV1088, ajV1088, axL1089, rgz1084, t1087⟩ := w1086
                          have axL1089 : L = L1089 := Eq.symm axL1089
                          subst axL1089
                          have hP : va_P D vwCl (mw ad kk ks.1 V1088 L) H := hP
                          have hD : va_D A (mw ad kk ks.1 V1088 L) := hD
                          have hMV1088 : rgd bM V1088 := hMV1088
                          have ajV1088 : agr [(0, 7)] [] V1081 V1088 := ajV1088
                          have agV1088 : agr [(0, 7), (0, 8), (0, 48), (0, 50), (0, 51), (0, 52)] [15, 19, 20, 21, 22, 23, 24, 25, 26, 27, 28, 29, 30, 31, 32, 33, 34, 35, 36, 37, 38, 45, 46, 47, 53] V V1088 := agV1081.tr ajV1088 (by decide) (by decide)
                          have rgz1084 : 0 ≤ z1084.toInt ∧ z1084.toInt ≤ 0 := rgz1084
                          have t1087 : (V1088 0 8).toInt = (V1081 0 8).toInt := t1087
                          have pq1090 : (V1088 0 8).toInt = ((V1066 0 8)).toInt := congrArg Int32.toInt ((ajV1088 0 8 rfl).trans ((up2_o hV1081 (by decide)).trans ((ajV1076 0 8 rfl).trans (up2_o hV1069 (by decide)))))
                          refine lv_if_eq (tgt := 200) hx hb dX12_toldComponent_187 (by decide) (fun c1091 => ?_) (fun c1091 => ?_)
                          · skip
                            have f1092 : z1084.toInt = 0 := b_eq rfl (by decide) c1091
                            refine lv_iconst (v := 0) hx hb dX12_toldComponent_200 (by decide) ?_
                            refine va_iast (D := D) (i := z5) (x := 0) hx hb hK hP hD hS 17 16 rfl rfl (i_in (a := z5.toInt) rfl (by omega)) dX12_toldComponent_201 (fun H locs hP hD hS => ?_)
                            obtain ⟨V1093, hV1093⟩ : ∃ z, z = up2 V1088 24 (Int32.toNatClampNeg z5) 0 := ⟨_, rfl⟩
                            have hP : va_P D vwCl (mw ad kk ks.1 V1093 L) H := by rw [hV1093]; exact hP
                            have hD : va_D A (mw ad kk ks.1 V1093 L) := by rw [hV1093]; exact hD
                            have hMV1093 : rgd bM V1093 := hMV1088.put hV1093 (show 0 ≤ Int32.toInt 0 ∧ Int32.toInt 0 ≤ 9 from by decide)
                            have agV1093 : agr [(0, 7), (0, 8), (0, 48), (0, 50), (0, 51), (0, 52)] [15, 19, 20, 21, 22, 23, 24, 25, 26, 27, 28, 29, 30, 31, 32, 33, 34, 35, 36, 37, 38, 45, 46, 47, 53] V V1093 := agV1088.up hV1093 rfl
                            refine lv_aload_n hx hb dX12_toldComponent_202 rfl (lv_at hl 3 rfl) ?_
                            refine va_get (D := D) (ci := 12) (v := .ref (ad 25)) (C := RX12) (T := TX12) (N := 100) hx hb hg inX12 hown hK hP 0 rfl rfl 25 (by decide) (hg _ w1735) (fun _ h9 => h9) rfl dX12_toldComponent_203 ?_
                            refine lv_iload_n hx hb dX12_toldComponent_206 rfl (lv_at hl 2 rfl) ?_
                            refine lv_iconst (v := (-1)) hx hb dX12_toldComponent_207 (by decide) ?_
                            refine va_iast (D := D) (i := z5) (x := (-1)) hx hb hK hP hD hS 18 17 rfl rfl (i_in (a := z5.toInt) rfl (by omega)) dX12_toldComponent_208 (fun H locs hP hD hS => ?_)
                            obtain ⟨V1094, hV1094⟩ : ∃ z, z = up2 V1093 25 (Int32.toNatClampNeg z5) (-1) := ⟨_, rfl⟩
                            have hP : va_P D vwCl (mw ad kk ks.1 V1094 L) H := by rw [hV1094]; exact hP
                            have hD : va_D A (mw ad kk ks.1 V1094 L) := by rw [hV1094]; exact hD
                            have hMV1094 : rgd bM V1094 := hMV1093.put hV1094 (show (-1) ≤ Int32.toInt (-1) ∧ Int32.toInt (-1) ≤ 11 from by decide)
                            have agV1094 : agr [(0, 7), (0, 8), (0, 48), (0, 50), (0, 51), (0, 52)] [15, 19, 20, 21, 22, 23, 24, 25, 26, 27, 28, 29, 30, 31, 32, 33, 34, 35, 36, 37, 38, 45, 46, 47, 53] V V1094 := agV1093.up hV1094 rfl
                            refine lv_aload_n hx hb dX12_toldComponent_209 rfl (lv_at hl 3 rfl) ?_
                            refine lv_bipush (v := 7) hx hb dX12_toldComponent_210 (by decide) ?_
                            have r1095 : Int32.toInt 7 = 7 := by decide
                            have pq1096 : (V1094 0 8).toInt = ((V1066 0 8)).toInt := congrArg Int32.toInt ((up2_o hV1094 (by decide)).trans ((up2_o hV1093 (by decide)).trans ((ajV1088 0 8 rfl).trans ((up2_o hV1081 (by decide)).trans ((ajV1076 0 8 rfl).trans (up2_o hV1069 (by decide)))))))
                            refine gA_int (gA_runV (As := [.int 7]) (rest := []) (ci := 12) (q0 := 0) hx hb hml hown hg hP hD hK hS hA hnw hgk (s_hasWordB l D ks H.size ad kk V1094 L 7 hMV1094 (by decide) (show 1 ≤ (V1094 0 8).toInt from by omega)) w2055 w2057 w90 w172 w2058 rfl rfl hdV_yX12_hasWord ⟨Nat.le_of_ble_eq_true rfl, Nat.le_of_ble_eq_true rfl⟩ rfl hl.1 rfl (Nat.le_of_ble_eq_true rfl) dX12_toldComponent_212 ⟨Nat.le_of_ble_eq_true rfl, Nat.le_of_ble_eq_true rfl⟩) hP hD hK hS hA (fun z1097 u1098 H locs w1099 hP hD hK hS => ?_)
                            obtain ⟨V1101, L1102⟩ := u1098
                            obtain ⟨hMV1101, ajV1101, axL1102, rgz1097, t1100⟩ := w1099
                            have axL1102 : L = L1102 := Eq.symm axL1102
                            subst axL1102
                            have hP : va_P D vwCl (mw ad kk ks.1 V1101 L) H := hP
                            have hD : va_D A (mw ad kk ks.1 V1101 L) := hD
                            have hMV1101 : rgd bM V1101 := hMV1101
                            have ajV1101 : agr [(0, 7)] [] V1094 V1101 := ajV1101
                            have agV1101 : agr [(0, 7), (0, 8), (0, 48), (0, 50), (0, 51), (0, 52)] [15, 19, 20, 21, 22, 23, 24, 25, 26, 27, 28, 29, 30, 31, 32, 33, 34, 35, 36, 37, 38, 45, 46, 47, 53] V V1101 := agV1094.tr ajV1101 (by decide) (by decide)
                            have rgz1097 : 0 ≤ z1097.toInt ∧ z1097.toInt ≤ 0 := rgz1097
                            have t1100 : (V1101 0 8).toInt = (V1094 0 8).toInt := t1100
                            have pq1103 : (V1101 0 8).toInt = ((V1066 0 8)).toInt := congrArg Int32.toInt ((ajV1101 0 8 rfl).trans ((up2_o hV1094 (by decide)).trans ((up2_o hV1093 (by decide)).trans ((ajV1088 0 8 rfl).trans ((up2_o hV1081 (by decide)).trans ((ajV1076 0 8 rfl).trans (up2_o hV1069 (by decide))))))))
                            refine lv_if_eq (tgt := 262) hx hb dX12_toldComponent_215 (by decide) (fun c1104 => ?_) (fun c1104 => ?_)
                            · skip
                              have f1105 : z1097.toInt = 0 := b_eq rfl (by decide) c1104
                              refine lv_aload_n hx hb dX12_toldComponent_262 rfl (lv_at hl 3 rfl) ?_
                              refine va_get (D := D) (ci := 12) (v := .ref (ad 27)) (C := RX12) (T := TX12) (N := 100) hx hb hg inX12 hown hK hP 0 rfl rfl 27 (by decide) (hg _ w1737) (fun _ h9 => h9) rfl dX12_toldComponent_263 ?_
                              refine lv_iload_n hx hb dX12_toldComponent_266 rfl (lv_at hl 2 rfl) ?_
                              refine lv_iconst (v := 0) hx hb dX12_toldComponent_267 (by decide) ?_
                              refine va_iast (D := D) (i := z5) (x := 0) hx hb hK hP hD hS 20 19 rfl rfl (i_in (a := z5.toInt) rfl (by omega)) dX12_toldComponent_268 (fun H locs hP hD hS => ?_)
                              obtain ⟨V1106, hV1106⟩ : ∃ z, z = up2 V1101 27 (Int32.toNatClampNeg z5) 0 := ⟨_, rfl⟩
                              have hP : va_P D vwCl (mw ad kk ks.1 V1106 L) H := by rw [hV1106]; exact hP
                              have hD : va_D A (mw ad kk ks.1 V1106 L) := by rw [hV1106]; exact hD
                              have hMV1106 : rgd bM V1106 := hMV1101.put hV1106 (show 0 ≤ Int32.toInt 0 ∧ Int32.toInt 0 ≤ 8 from by decide)
                              have agV1106 : agr [(0, 7), (0, 8), (0, 48), (0, 50), (0, 51), (0, 52)] [15, 19, 20, 21, 22, 23, 24, 25, 26, 27, 28, 29, 30, 31, 32, 33, 34, 35, 36, 37, 38, 45, 46, 47, 53] V V1106 := agV1101.up hV1106 rfl
                              refine lv_aload_n hx hb dX12_toldComponent_269 rfl (lv_at hl 3 rfl) ?_
                              refine va_get (D := D) (ci := 12) (v := .ref (ad 32)) (C := RX12) (T := TX12) (N := 100) hx hb hg inX12 hown hK hP 0 rfl rfl 32 (by decide) (hg _ w1742) (fun _ h9 => h9) rfl dX12_toldComponent_270 ?_
                              refine lv_iload_n hx hb dX12_toldComponent_273 rfl (lv_at hl 2 rfl) ?_
                              refine lv_iconst (v := (-1)) hx hb dX12_toldComponent_274 (by decide) ?_
                              refine va_iast (D := D) (i := z5) (x := (-1)) hx hb hK hP hD hS 25 24 rfl rfl (i_in (a := z5.toInt) rfl (by omega)) dX12_toldComponent_275 (fun H locs hP hD hS => ?_)
                              obtain ⟨V1107, hV1107⟩ : ∃ z, z = up2 V1106 32 (Int32.toNatClampNeg z5) (-1) := ⟨_, rfl⟩
                              have hP : va_P D vwCl (mw ad kk ks.1 V1107 L) H := by rw [hV1107]; exact hP
                              have hD : va_D A (mw ad kk ks.1 V1107 L) := by rw [hV1107]; exact hD
                              have hMV1107 : rgd bM V1107 := hMV1106.put hV1107 (i_full _)
                              have agV1107 : agr [(0, 7), (0, 8), (0, 48), (0, 50), (0, 51), (0, 52)] [15, 19, 20, 21, 22, 23, 24, 25, 26, 27, 28, 29, 30, 31, 32, 33, 34, 35, 36, 37, 38, 45, 46, 47, 53] V V1107 := agV1106.up hV1107 rfl
                              refine lv_aload_n hx hb dX12_toldComponent_276 rfl (lv_at hl 3 rfl) ?_
                              refine va_get (D := D) (ci := 12) (v := .ref (ad 33)) (C := RX12) (T := TX12) (N := 100) hx hb hg inX12 hown hK hP 0 rfl rfl 33 (by decide) (hg _ w1743) (fun _ h9 => h9) rfl dX12_toldComponent_277 ?_
                              refine lv_iload_n hx hb dX12_toldComponent_280 rfl (lv_at hl 2 rfl) ?_
                              refine lv_iconst (v := (-1)) hx hb dX12_toldComponent_281 (by decide) ?_
                              refine va_iast (D := D) (i := z5) (x := (-1)) hx hb hK hP hD hS 26 25 rfl rfl (i_in (a := z5.toInt) rfl (by omega)) dX12_toldComponent_282 (fun H locs hP hD hS => ?_)
                              obtain ⟨V1108, hV1108⟩ : ∃ z, z = up2 V1107 33 (Int32.toNatClampNeg z5) (-1) := ⟨_, rfl⟩
                              have hP : va_P D vwCl (mw ad kk ks.1 V1108 L) H := by rw [hV1108]; exact hP
                              have hD : va_D A (mw ad kk ks.1 V1108 L) := by rw [hV1108]; exact hD
                              have hMV1108 : rgd bM V1108 := hMV1107.put hV1108 (i_full _)
                              have agV1108 : agr [(0, 7), (0, 8), (0, 48), (0, 50), (0, 51), (0, 52)] [15, 19, 20, 21, 22, 23, 24, 25, 26, 27, 28, 29, 30, 31, 32, 33, 34, 35, 36, 37, 38, 45, 46, 47, 53] V V1108 := agV1107.up hV1108 rfl
                              refine lv_aload_n hx hb dX12_toldComponent_283 rfl (lv_at hl 3 rfl) ?_
                              refine lv_iload_n hx hb dX12_toldComponent_284 rfl (lv_at hl 2 rfl) ?_
                              refine va_put (D := D) (ci := 12) (v := .int z5) (ty := tyX12 51) (C := RX12) (T := TX12) (N := 100) hx hb hg inX12 tyX12 tyX12_ok nmX12 hown hK hP hD hS 0 rfl rfl 51 (by decide) (hg _ w1761) (fun _ h9 => h9) rfl (tyX12_ok 51 (by decide)) rfl rfl (Nat.le_of_ble_eq_true rfl) dX12_toldComponent_285 (fun H locs hP hD hS => ?_)
                              obtain ⟨V1109, hV1109⟩ : ∃ z, z = up2 V1108 0 51 z5 := ⟨_, rfl⟩
                              have hP : va_P D vwCl (mw ad kk ks.1 V1109 L) H := by rw [hV1109]; exact hP
                              have hD : va_D A (mw ad kk ks.1 V1109 L) := by rw [hV1109]; exact hD
                              have hMV1109 : rgd bM V1109 := hMV1108.put hV1109 (show (-1) ≤ z5.toInt ∧ z5.toInt ≤ 47 from by omega)
                              have agV1109 : agr [(0, 7), (0, 8), (0, 48), (0, 50), (0, 51), (0, 52)] [15, 19, 20, 21, 22, 23, 24, 25, 26, 27, 28, 29, 30, 31, 32, 33, 34, 35, 36, 37, 38, 45, 46, 47, 53] V V1109 := agV1108.up hV1109 rfl
                              refine lv_aload_n hx hb dX12_toldComponent_288 rfl (lv_at hl 3 rfl) ?_
                              refine lv_iconst (v := 0) hx hb dX12_toldComponent_289 (by decide) ?_
                              refine va_put (D := D) (ci := 12) (v := .int 0) (ty := tyX12 52) (C := RX12) (T := TX12) (N := 100) hx hb hg inX12 tyX12 tyX12_ok nmX12 hown hK hP hD hS 0 rfl rfl 52 (by decide) (hg _ w1762) (fun _ h9 => h9) rfl (tyX12_ok 52 (by decide)) rfl rfl (Nat.le_of_ble_eq_true rfl) dX12_toldComponent_290 (fun H locs hP hD hS => ?_)
                              obtain ⟨V1110, hV1110⟩ : ∃ z, z = up2 V1109 0 52 0 := ⟨_, rfl⟩
                              have hP : va_P D vwCl (mw ad kk ks.1 V1110 L) H := by rw [hV1110]; exact hP
                              have hD : va_D A (mw ad kk ks.1 V1110 L) := by rw [hV1110]; exact hD
                              have hMV1110 : rgd bM V1110 := hMV1109.put hV1110 (by decide)
                              have agV1110 : agr [(0, 7), (0, 8), (0, 48), (0, 50), (0, 51), (0, 52)] [15, 19, 20, 21, 22, 23, 24, 25, 26, 27, 28, 29, 30, 31, 32, 33, 34, 35, 36, 37, 38, 45, 46, 47, 53] V V1110 := agV1109.up hV1110 rfl
                              refine lv_aload_n hx hb dX12_toldComponent_293 rfl (lv_at hl 3 rfl) ?_
                              refine lv_bipush (v := 123) hx hb dX12_toldComponent_294 (by decide) ?_
                              have r1111 : Int32.toInt 123 = 123 := by decide
                              have pq1112 : (V1110 0 8).toInt = ((V1066 0 8)).toInt := congrArg Int32.toInt ((up2_k hV1110 (by decide)).trans ((up2_k hV1109 (by decide)).trans ((up2_o hV1108 (by decide)).trans ((up2_o hV1107 (by decide)).trans ((up2_o hV1106 (by decide)).trans ((ajV1101 0 8 rfl).trans ((up2_o hV1094 (by decide)).trans ((up2_o hV1093 (by decide)).trans ((ajV1088 0 8 rfl).trans ((up2_o hV1081 (by decide)).trans ((ajV1076 0 8 rfl).trans (up2_o hV1069 (by decide)))))))))))))
                              refine gA_void (gA_runV (As := [.int 123]) (rest := []) (ci := 12) (q0 := 0) hx hb hml hown hg hP hD hK hS hA hnw hgk (s_takeSignB l D ks H.size ad kk V1110 L 123 hMV1110 (show 1 ≤ (V1110 0 8).toInt from by omega)) w2079 w2081 w96 w172 w2082 rfl rfl hdV_yX12_takeSign ⟨Nat.le_of_ble_eq_true rfl, Nat.le_of_ble_eq_true rfl⟩ rfl hl.1 rfl (Nat.le_of_ble_eq_true rfl) dX12_toldComponent_296 ⟨Nat.le_of_ble_eq_true rfl, Nat.le_of_ble_eq_true rfl⟩) hP hD hK hS hA (fun u1114 H locs w1115 hP hD hK hS => ?_)
                              obtain ⟨V1117, L1118⟩ := u1114
                              obtain ⟨hMV1117, ajV1117, axL1118, t1116⟩ := w1115
                              have axL1118 : L = L1118 := Eq.symm axL1118
                              subst axL1118
                              have hP : va_P D vwCl (mw ad kk ks.1 V1117 L) H := hP
                              have hD : va_D A (mw ad kk ks.1 V1117 L) := hD
                              have hMV1117 : rgd bM V1117 := hMV1117
                              have ajV1117 : agr [(0, 7), (0, 8)] [] V1110 V1117 := ajV1117
                              have agV1117 : agr [(0, 7), (0, 8), (0, 48), (0, 50), (0, 51), (0, 52)] [15, 19, 20, 21, 22, 23, 24, 25, 26, 27, 28, 29, 30, 31, 32, 33, 34, 35, 36, 37, 38, 45, 46, 47, 53] V V1117 := agV1110.tr ajV1117 (by decide) (by decide)
                              have t1116 : (V1117 0 8).toInt = (V1110 0 8).toInt := t1116
                              have r1119 : 0 ≤ ((V1117 0 8)).toInt ∧ ((V1117 0 8)).toInt ≤ 70000 := hMV1117 0 8
                              have lp1123 : ∀ (fulp1123 : Nat) (g1122 : Int) (V1120 : Vf) (L1121 : Lf) (H : Heap) (locs : List Loc) (ls : Array Slot), (((V1120 0 8).toInt = 0 ∧ ∃ s1 : St, (∀ k, Rc gT (Crun gs (Istmt :: k)) (Crun s1 (Imember :: k))) ∧ RelM V1120 L1121 bq gn gT s1 (gs.2.1 2) ∧ gs.1 0 + 1 ≤ s1.1 0 ∧ OWm V1120 gc s1 ∧ s1.2.1 2 = gs.2.1 2 ++ [0] ∧ s1.2.2.1 = gs.2.2.1 ∧ CNm V1120 bq s1) ∨ (1 ≤ (V1120 0 8).toInt ∧ ∀ k, Rc gT (Crun gs (Istmt :: k)) (Cbad (V1120 0 8).toInt))) → 0 ≤ g1122 → Imp ((V1120 0 8).toInt = 0) ((gn : Int) - (V1120 0 7).toInt < g1122) → Imp ((V1120 0 8).toInt = 0) ((V1120 0 48).toInt ≤ 2 * (V1120 0 7).toInt) → (V1120 0 48).toInt ≤ 8120 → (V1120 0 51).toInt = z5.toInt → (V1120 0 52).toInt = 0 → Imp (1 ≤ (V1117 0 8).toInt) ((V1120 0 8).toInt = (V1117 0 8).toInt) → (RoV 19 bq V V1120) → (RoV 35 bq V V1120) → (RoV 37 bq V V1120) → (RoL 20 24 bq L L1121) → (RoL 36 20 bq L L1121) → (RoL 38 20 bq L L1121) → g1122 < (fulp1123 : Int) → agL [15, 19, 20, 21, 22, 23, 24, 25, 26, 27, 28, 29, 30, 31, 32, 33, 34, 35, 36, 37, 38, 45, 46, 47, 53] L L1121 → agr [(0, 7), (0, 8), (0, 48), (0, 50)] [27, 28, 29, 30, 31, 32, 33, 34, 35, 36, 37, 38, 45, 46, 47] V1117 V1120 → rgd bM V1120 → va_P D vwCl (mw ad kk ks.1 V1120 L1121) H → va_D A (mw ad kk ks.1 V1120 L1121) → va_S A s.heap H locs → lv_has ls 5 [(4, .int y1044), (2, .long z25), (1, .int z5), (0, .ref (ad 0))] → W p l e r_s_toldComponentA s m ([.ref (ad 0)] : List Value).toArray below meth c H locs 0 0 (MQ below (q_s_toldComponentA D ks ad kk V L  bq gn gT gs A) ([.ref (ad 0)] : List Value).toArray s 0 0 A) (F0 m 299 ls []) := by
                                (try clear hb1037); (try clear fz21); (try clear ps20); (try clear hr19); (try clear hr18)
                                intro fulp1123
                                induction fulp1123 with
                                | zero =>
                                  intro g1122 V1120 L1121 H locs ls xlp1123_0 xlp1123_1 xlp1123_2 xlp1123_3 xlp1123_4 xlp1123_5 xlp1123_6 xlp1123_7 xlp1123_8 xlp1123_9 xlp1123_10 xlp1123_11 xlp1123_12 xlp1123_13 hn alL1121 ajV1120 hMV1120 hP hD hS hl
                                  exfalso; omega
                                | succ fulp1123 ihlp1123 =>
                                  intro g1122 V1120 L1121 H locs ls xlp1123_0 xlp1123_1 xlp1123_2 xlp1123_3 xlp1123_4 xlp1123_5 xlp1123_6 xlp1123_7 xlp1123_8 xlp1123_9 xlp1123_10 xlp1123_11 xlp1123_12 xlp1123_13 hn alL1121 ajV1120 hMV1120 hP hD hS hl
                                  have agV1120 : agr [(0, 7), (0, 8), (0, 48), (0, 50), (0, 51), (0, 52)] [15, 19, 20, 21, 22, 23, 24, 25, 26, 27, 28, 29, 30, 31, 32, 33, 34, 35, 36, 37, 38, 45, 46, 47, 53] V V1120 := agV1117.tr ajV1120 (by decide) (by decide)
                                  have r1124 : 0 ≤ ((V1120 0 8)).toInt ∧ ((V1120 0 8)).toInt ≤ 70000 := hMV1120 0 8
                                  have r1125 : 0 ≤ ((V1120 0 48)).toInt ∧ ((V1120 0 48)).toInt ≤ 10000 := hMV1120 0 48
                                  have pq1126 : (V1120 0 51).toInt = z5.toInt := congrArg Int32.toInt ((ajV1120 0 51 rfl).trans ((ajV1117 0 51 rfl).trans ((up2_k hV1110 (by decide)).trans (up2_s hV1109))))
                                  have pq1127 : (V1120 0 52).toInt = 0 := (congrArg Int32.toInt ((ajV1120 0 52 rfl).trans ((ajV1117 0 52 rfl).trans (up2_s hV1110)))).trans (by decide)
                                  refine lv_aload_n hx hb dX12_toldComponent_299 rfl (lv_at hl 3 rfl) ?_
                                  rcases xlp1123_0 with ⟨f8, s1, hq, rq, gq1, oq, tq, wq, nq⟩ | ⟨f8, hq⟩
                                  · skip
                                    exfalso; first | omega | ((try (have i_xlp1123_7 := Imp.go xlp1123_7 (by omega))); (try (have i_xlp1123_3 := Imp.go xlp1123_3 (by omega))); (try (have i_xlp1123_2 := Imp.go xlp1123_2 (by omega))); (try (have i_xlp1123_2 := Imp.go xlp1123_2 (by omega))); (try (have i_xlp1123_3 := Imp.go xlp1123_3 (by omega))); (try (have i_xlp1123_7 := Imp.go xlp1123_7 (by omega))); omega)
                                  · skip
                                    refine va_get (D := D) (ci := 12) (v := .int (V1120 0 8)) (C := RX12) (T := TX12) (N := 100) hx hb hg inX12 hown hK hP 0 rfl rfl 8 (by decide) (hg _ w1718) (fun _ h9 => h9) rfl dX12_toldComponent_300 ?_
                                    refine lv_if_ne (tgt := 323) hx hb dX12_toldComponent_303 (by decide) (fun c1128 => ?_) (fun c1128 => ?_)
                                    · skip
                                      have f1129 : ((V1120 0 8)).toInt ≠ 0 := b_neq rfl (by decide) c1128
                                      refine lv_aload_n hx hb dX12_toldComponent_323 rfl (lv_at hl 3 rfl) ?_
                                      refine lv_bipush (v := 125) hx hb dX12_toldComponent_324 (by decide) ?_
                                      have r1130 : Int32.toInt 125 = 125 := by decide
                                      refine gA_void (gA_runV (As := [.int 125]) (rest := []) (ci := 12) (q0 := 0) hx hb hml hown hg hP hD hK hS hA hnw hgk (s_takeSignB l D ks H.size ad kk V1120 L1121 125 hMV1120 (show 1 ≤ (V1120 0 8).toInt from by first | omega | ((try (have i_xlp1123_7 := Imp.go xlp1123_7 (by omega))); (try (have i_xlp1123_3 := Imp.go xlp1123_3 (by omega))); (try (have i_xlp1123_2 := Imp.go xlp1123_2 (by omega))); (try (have i_xlp1123_2 := Imp.go xlp1123_2 (by omega))); (try (have i_xlp1123_3 := Imp.go xlp1123_3 (by omega))); (try (have i_xlp1123_7 := Imp.go xlp1123_7 (by omega))); omega))) w2079 w2081 w96 w172 w2082 rfl rfl hdV_yX12_takeSign ⟨Nat.le_of_ble_eq_true rfl, Nat.le_of_ble_eq_true rfl⟩ rfl hl.1 rfl (Nat.le_of_ble_eq_true rfl) dX12_toldComponent_326 ⟨Nat.le_of_ble_eq_true rfl, Nat.le_of_ble_eq_true rfl⟩) hP hD hK hS hA (fun u1132 H locs w1133 hP hD hK hS => ?_)
                                      obtain ⟨V1135, L1136⟩ := u1132
                                      obtain ⟨hMV1135, ajV1135, axL1136, t1134⟩ := w1133
                                      have axL1136 : L1121 = L1136 := Eq.symm axL1136
                                      subst axL1136
                                      have hP : va_P D vwCl (mw ad kk ks.1 V1135 L1121) H := hP
                                      have hD : va_D A (mw ad kk ks.1 V1135 L1121) := hD
                                      have hMV1135 : rgd bM V1135 := hMV1135
                                      have ajV1135 : agr [(0, 7), (0, 8)] [] V1120 V1135 := ajV1135
                                      have agV1135 : agr [(0, 7), (0, 8), (0, 48), (0, 50), (0, 51), (0, 52)] [15, 19, 20, 21, 22, 23, 24, 25, 26, 27, 28, 29, 30, 31, 32, 33, 34, 35, 36, 37, 38, 45, 46, 47, 53] V V1135 := agV1120.tr ajV1135 (by decide) (by decide)
                                      have t1134 : (V1135 0 8).toInt = (V1120 0 8).toInt := t1134
                                      have r1137 : 0 ≤ ((V1135 0 8)).toInt ∧ ((V1135 0 8)).toInt ≤ 70000 := hMV1135 0 8
                                      refine lv_aload_n hx hb dX12_toldComponent_329 rfl (lv_at hl 3 rfl) ?_
                                      refine va_get (D := D) (ci := 12) (v := .int (V1135 0 8)) (C := RX12) (T := TX12) (N := 100) hx hb hg inX12 hown hK hP 0 rfl rfl 8 (by decide) (hg _ w1718) (fun _ h9 => h9) rfl dX12_toldComponent_330 ?_
                                      refine lv_if_le (tgt := 337) hx hb dX12_toldComponent_333 (by decide) (fun c1138 => ?_) (fun c1138 => ?_)
                                      · skip
                                        have f1139 : ((V1135 0 8)).toInt ≤ 0 := b_le rfl (by decide) c1138
                                        exfalso; first | omega | ((try (have i_xlp1123_7 := Imp.go xlp1123_7 (by omega))); (try (have i_xlp1123_3 := Imp.go xlp1123_3 (by omega))); (try (have i_xlp1123_2 := Imp.go xlp1123_2 (by omega))); (try (have i_xlp1123_2 := Imp.go xlp1123_2 (by omega))); (try (have i_xlp1123_3 := Imp.go xlp1123_3 (by omega))); (try (have i_xlp1123_7 := Imp.go xlp1123_7 (by omega))); omega)
                                      · skip
                                        have f1140 : 0 < ((V1135 0 8)).toInt := b_nle rfl (by decide) c1138
                                        have pq1141 : (V1135 0 48).toInt = ((V1120 0 48)).toInt := congrArg Int32.toInt (ajV1135 0 48 rfl)
                                        have pq1142 : (V1135 0 12).toInt = ((V 0 12)).toInt := congrArg Int32.toInt ((ajV1135 0 12 rfl).trans ((ajV1120 0 12 rfl).trans ((ajV1117 0 12 rfl).trans ((up2_k hV1110 (by decide)).trans ((up2_k hV1109 (by decide)).trans ((up2_o hV1108 (by decide)).trans ((up2_o hV1107 (by decide)).trans ((up2_o hV1106 (by decide)).trans ((ajV1101 0 12 rfl).trans ((up2_o hV1094 (by decide)).trans ((up2_o hV1093 (by decide)).trans ((ajV1088 0 12 rfl).trans ((up2_o hV1081 (by decide)).trans ((ajV1076 0 12 rfl).trans ((up2_o hV1069 (by decide)).trans ((ajV1066 0 12 rfl).trans ((ajV1056 0 12 rfl).trans ((ajV1045 0 12 rfl).trans ((ajV1040 0 12 rfl).trans ((ajV29 0 12 rfl).trans (ajV13 0 12 rfl)))))))))))))))))))))
                                        have rw1143 : RoV 19 bq V V1135 := (fun k hk => ((ajV1135 19 k rfl).trans (xlp1123_8 k hk)))
                                        have rw1144 : RoV 35 bq V V1135 := (fun k hk => ((ajV1135 35 k rfl).trans (xlp1123_9 k hk)))
                                        have rw1145 : RoV 37 bq V V1135 := (fun k hk => ((ajV1135 37 k rfl).trans (xlp1123_10 k hk)))
                                        have rw1146 : RoL 20 24 bq L L1121 := (fun k hk => (xlp1123_11 k hk))
                                        have rw1147 : RoL 36 20 bq L L1121 := (fun k hk => (xlp1123_12 k hk))
                                        have rw1148 : RoL 38 20 bq L L1121 := (fun k hk => (xlp1123_13 k hk))
                                        exact W.vret hx hb hr (fun t ht hW => ⟨⟨(V1135, L1121), rfl, ⟨hMV1135, agV1135, alL1121, (Imp.mk (fun hp => have hp : (V1135 0 8).toInt = 0 := hp; (show (V1135 0 48).toInt ≤ 2 * (V1135 0 7).toInt from by first | omega | ((try (have i_xlp1123_7 := Imp.go xlp1123_7 (by omega))); (try (have i_xlp1123_3 := Imp.go xlp1123_3 (by omega))); (try (have i_xlp1123_2 := Imp.go xlp1123_2 (by omega))); (try (have i_xlp1123_2 := Imp.go xlp1123_2 (by omega))); (try (have i_xlp1123_3 := Imp.go xlp1123_3 (by omega))); (try (have i_xlp1123_7 := Imp.go xlp1123_7 (by omega))); omega)))), (show (V1135 0 48).toInt ≤ 8200 from by first | omega | ((try (have i_xlp1123_7 := Imp.go xlp1123_7 (by omega))); (try (have i_xlp1123_3 := Imp.go xlp1123_3 (by omega))); (try (have i_xlp1123_2 := Imp.go xlp1123_2 (by omega))); (try (have i_xlp1123_2 := Imp.go xlp1123_2 (by omega))); (try (have i_xlp1123_3 := Imp.go xlp1123_3 (by omega))); (try (have i_xlp1123_7 := Imp.go xlp1123_7 (by omega))); omega)), (show (V1135 0 12).toInt = (V 0 12).toInt from by first | omega | ((try (have i_xlp1123_7 := Imp.go xlp1123_7 (by omega))); (try (have i_xlp1123_3 := Imp.go xlp1123_3 (by omega))); (try (have i_xlp1123_2 := Imp.go xlp1123_2 (by omega))); (try (have i_xlp1123_2 := Imp.go xlp1123_2 (by omega))); (try (have i_xlp1123_3 := Imp.go xlp1123_3 (by omega))); (try (have i_xlp1123_7 := Imp.go xlp1123_7 (by omega))); omega)), (Or.inr ⟨(show 1 ≤ (V1135 0 8).toInt from by omega), (fun k => by rw [show (V1135 0 8).toInt = (V1120 0 8).toInt from by omega]; exact hq k)⟩), rw1143, rw1144, rw1145, rw1146, rw1147, rw1148⟩, by rw [ht]; exact hP, va_K.moved hW.alike hK, hD⟩, hS.F ht⟩) hS.2.2 dX12_toldComponent_336
                                    · skip
                                      have f1149 : ((V1120 0 8)).toInt = 0 := b_eq rfl (by decide) c1128
                                      exfalso; first | omega | ((try (have i_xlp1123_7 := Imp.go xlp1123_7 (by omega))); (try (have i_xlp1123_3 := Imp.go xlp1123_3 (by omega))); (try (have i_xlp1123_2 := Imp.go xlp1123_2 (by omega))); (try (have i_xlp1123_2 := Imp.go xlp1123_2 (by omega))); (try (have i_xlp1123_3 := Imp.go xlp1123_3 (by omega))); (try (have i_xlp1123_7 := Imp.go xlp1123_7 (by omega))); omega)
                              have pq1150 : (V1117 0 48).toInt = ((V 0 48)).toInt := congrArg Int32.toInt ((ajV1117 0 48 rfl).trans ((up2_k hV1110 (by decide)).trans ((up2_k hV1109 (by decide)).trans ((up2_o hV1108 (by decide)).trans ((up2_o hV1107 (by decide)).trans ((up2_o hV1106 (by decide)).trans ((ajV1101 0 48 rfl).trans ((up2_o hV1094 (by decide)).trans ((up2_o hV1093 (by decide)).trans ((ajV1088 0 48 rfl).trans ((up2_o hV1081 (by decide)).trans ((ajV1076 0 48 rfl).trans ((up2_o hV1069 (by decide)).trans ((ajV1066 0 48 rfl).trans ((ajV1056 0 48 rfl).trans ((ajV1045 0 48 rfl).trans ((ajV1040 0 48 rfl).trans ((ajV29 0 48 rfl).trans (ajV13 0 48 rfl)))))))))))))))))))
                              have pq1151 : (V1117 0 51).toInt = z5.toInt := congrArg Int32.toInt ((ajV1117 0 51 rfl).trans ((up2_k hV1110 (by decide)).trans (up2_s hV1109)))
                              have pq1152 : (V1117 0 52).toInt = 0 := (congrArg Int32.toInt ((ajV1117 0 52 rfl).trans (up2_s hV1110))).trans (by decide)
                              have rw1153 : RoV 19 bq V V1117 := (fun k hk => ((ajV1117 19 k rfl).trans ((up2_o hV1110 (by decide)).trans ((up2_o hV1109 (by decide)).trans ((up2_o hV1108 (by decide)).trans ((up2_o hV1107 (by decide)).trans ((up2_o hV1106 (by decide)).trans ((ajV1101 19 k rfl).trans ((up2_o hV1094 (by decide)).trans ((up2_o hV1093 (by decide)).trans ((ajV1088 19 k rfl).trans ((up2_o hV1081 (by decide)).trans ((ajV1076 19 k rfl).trans ((up2_o hV1069 (by decide)).trans ((ajV1066 19 k rfl).trans ((ajV1056 19 k rfl).trans (xlp1046_1 k hk)))))))))))))))))
                              have rw1154 : RoV 35 bq V V1117 := (fun k hk => ((ajV1117 35 k rfl).trans ((up2_o hV1110 (by decide)).trans ((up2_o hV1109 (by decide)).trans ((up2_o hV1108 (by decide)).trans ((up2_o hV1107 (by decide)).trans ((up2_o hV1106 (by decide)).trans ((ajV1101 35 k rfl).trans ((up2_o hV1094 (by decide)).trans ((up2_o hV1093 (by decide)).trans ((ajV1088 35 k rfl).trans ((up2_o hV1081 (by decide)).trans ((ajV1076 35 k rfl).trans ((up2_o hV1069 (by decide)).trans ((ajV1066 35 k rfl).trans ((ajV1056 35 k rfl).trans (xlp1046_2 k hk)))))))))))))))))
                              have rw1155 : RoV 37 bq V V1117 := (fun k hk => ((ajV1117 37 k rfl).trans ((up2_o hV1110 (by decide)).trans ((up2_o hV1109 (by decide)).trans ((up2_o hV1108 (by decide)).trans ((up2_o hV1107 (by decide)).trans ((up2_o hV1106 (by decide)).trans ((ajV1101 37 k rfl).trans ((up2_o hV1094 (by decide)).trans ((up2_o hV1093 (by decide)).trans ((ajV1088 37 k rfl).trans ((up2_o hV1081 (by decide)).trans ((ajV1076 37 k rfl).trans ((up2_o hV1069 (by decide)).trans ((ajV1066 37 k rfl).trans ((ajV1056 37 k rfl).trans (xlp1046_3 k hk)))))))))))))))))
                              have rw1156 : RoL 20 24 bq L L := (fun k hk => rfl)
                              have rw1157 : RoL 36 20 bq L L := (fun k hk => rfl)
                              have rw1158 : RoL 38 20 bq L L := (fun k hk => rfl)
                              exact lp1123 ((((gn : Int) + 1) + 1 : Int).toNat) ((gn : Int) + 1) V1117 L H locs ls (Or.inr ⟨(show 1 ≤ (V1117 0 8).toInt from by omega), (fun k => by rw [show (V1117 0 8).toInt = (V29 0 8).toInt from by omega]; exact hb1037 k)⟩) (show 0 ≤ ((gn : Int) + 1) from by omega) (Imp.mk (fun hp => have hp : (V1117 0 8).toInt = 0 := hp; (show (gn : Int) - (V1117 0 7).toInt < ((gn : Int) + 1) from by omega))) (Imp.mk (fun hp => have hp : (V1117 0 8).toInt = 0 := hp; (show (V1117 0 48).toInt ≤ 2 * (V1117 0 7).toInt from by omega))) (show (V1117 0 48).toInt ≤ 8120 from by omega) (show (V1117 0 51).toInt = z5.toInt from by omega) (show (V1117 0 52).toInt = 0 from by omega) (Imp.mk (fun hp => have hp : 1 ≤ (V1117 0 8).toInt := hp; (show (V1117 0 8).toInt = (V1117 0 8).toInt from by omega))) rw1153 rw1154 rw1155 rw1156 rw1157 rw1158 (by omega) alL agr.rf hMV1117 hP hD hS (lv_sub hl [0, 1, 2, 3] rfl)
                            · skip
                              have f1159 : z1097.toInt ≠ 0 := b_neq rfl (by decide) c1104
                              exfalso; omega
                          · skip
                            have f1160 : z1084.toInt ≠ 0 := b_neq rfl (by decide) c1091
                            exfalso; omega
                        · skip
                          have f1161 : z1072.toInt ≠ 0 := b_neq rfl (by decide) c1079
                          exfalso; omega
                      · skip
                        have f1162 : ((V1056 0 8)).toInt = 0 := b_eq rfl (by decide) c1059
                        exfalso; omega
                    · skip
                      have f1163 : y1044.toInt < 20 := b_nle (by decide) rfl c1047
                      refine lv_aload_n hx hb dX12_toldComponent_93 rfl (lv_at hl 3 rfl) ?_
                      refine va_get (D := D) (ci := 12) (v := .ref (ad 34)) (C := RX12) (T := TX12) (N := 100) hx hb hg inX12 hown hK hP 0 rfl rfl 34 (by decide) (hg _ w1744) (fun _ h9 => h9) rfl dX12_toldComponent_94 ?_
                      refine lv_bipush (v := 20) hx hb dX12_toldComponent_97 (by decide) ?_
                      refine lv_iload_n hx hb dX12_toldComponent_99 rfl (lv_at hl 2 rfl) ?_
                      refine lv_imul hx hb dX12_toldComponent_100 ?_
                      refine lv_topi (fun z1164 ez1164 => ?_)
                      have hz1164 : z1164.toInt = 20 * z5.toInt := i_mul ez1164 (by decide) rfl (by omega)
                      refine lv_iload hx hb dX12_toldComponent_101 (lv_at hl 0 rfl) ?_
                      refine lv_iadd hx hb dX12_toldComponent_103 ?_
                      refine lv_topi (fun z1165 ez1165 => ?_)
                      have hz1165 : z1165.toInt = z1164.toInt + y1044.toInt := i_add ez1165 rfl rfl (by omega)
                      refine lv_iconst (v := (-1)) hx hb dX12_toldComponent_104 (by decide) ?_
                      refine va_iast (D := D) (i := z1165) (x := (-1)) hx hb hK hP hD hS 27 26 rfl rfl (i_in (a := z1165.toInt) rfl (by omega)) dX12_toldComponent_105 (fun H locs hP hD hS => ?_)
                      obtain ⟨V1166, hV1166⟩ : ∃ z, z = up2 V1045 34 (Int32.toNatClampNeg z1165) (-1) := ⟨_, rfl⟩
                      have hP : va_P D vwCl (mw ad kk ks.1 V1166 L) H := by rw [hV1166]; exact hP
                      have hD : va_D A (mw ad kk ks.1 V1166 L) := by rw [hV1166]; exact hD
                      have hMV1166 : rgd bM V1166 := hMV1045.put hV1166 (i_full _)
                      have agV1166 : agr [(0, 7), (0, 8), (0, 48), (0, 50), (0, 51), (0, 52)] [15, 19, 20, 21, 22, 23, 24, 25, 26, 27, 28, 29, 30, 31, 32, 33, 34, 35, 36, 37, 38, 45, 46, 47, 53] V V1166 := agV1045.up hV1166 rfl
                      obtain ⟨z1167, ez1167⟩ : ∃ y : Int32, y = y1044 + 1 := ⟨_, rfl⟩
                      have hz1167 : z1167.toInt = y1044.toInt + 1 := i_add ez1167 rfl (by decide) (by omega)
                      refine lv_iinc (v := z1167) (lv' := [(4, .int z1167), (2, .long z25), (1, .int z5), (0, .ref (ad 0))]) hx hb dX12_toldComponent_106 hl (k := 0) rfl (by rw [ez1167]; rfl) (by decide) rfl (fun ls hl => ?_)
                      refine lv_goto (tgt := 86) hx hb dX12_toldComponent_109 (by decide) ?_
                      have k34 := i_clamp (x := z1165) rfl (by omega)
                      have rw1168 : RoV 19 bq V V1166 := (fun k hk => ((up2_o hV1166 (by decide)).trans (xlp1046_1 k hk)))
                      have rw1169 : RoV 35 bq V V1166 := (fun k hk => ((up2_o hV1166 (by decide)).trans (xlp1046_2 k hk)))
                      have rw1170 : RoV 37 bq V V1166 := (fun k hk => ((up2_o hV1166 (by decide)).trans (xlp1046_3 k hk)))
                      have rw1171 : RoL 20 24 bq L L := (fun k hk => rfl)
                      have rw1172 : RoL 36 20 bq L L := (fun k hk => rfl)
                      have rw1173 : RoL 38 20 bq L L := (fun k hk => rfl)
                      exact ihlp1046 z1167 V1166 H locs ls (by omega) (fun j hj => by rcases Decidable.em (20 * gc + j = Int32.toNatClampNeg z1165) with hk | hk; (rw [hk, up2_s hV1166]; decide); (rw [up2_k hV1166 hk]; exact xlp1046_0 j (by omega))) rw1168 rw1169 rw1170 rw1171 rw1172 rw1173 (by omega) (agr.up (agr.tr agr.rf ajV1045 (by decide) (by decide)) hV1166 rfl) hMV1166 hP hD hS (lv_sub hl [0, 1, 2, 3] rfl)
                have rw1174 : RoV 19 bq V V1040 := (fun k hk => (xlp1041_2 k hk))
                have rw1175 : RoV 35 bq V V1040 := (fun k hk => (xlp1041_3 k hk))
                have rw1176 : RoV 37 bq V V1040 := (fun k hk => (xlp1041_4 k hk))
                have rw1177 : RoL 20 24 bq L L := (fun k hk => rfl)
                have rw1178 : RoL 36 20 bq L L := (fun k hk => rfl)
                have rw1179 : RoL 38 20 bq L L := (fun k hk => rfl)
                exact lp1046 ((20 - (Int32.toInt 0) + 1 : Int).toNat) 0 V1040 H locs ls (by decide) (fun j hj => absurd hj (by omega)) rw1174 rw1175 rw1176 rw1177 rw1178 rw1179 (by omega) agr.rf hMV1040 hP hD hS (lv_sub hl [0, 1, 2, 3] rfl)
              · skip
                have f1180 : y1039.toInt < 24 := b_nle (by decide) rfl c1042
                refine lv_aload_n hx hb dX12_toldComponent_64 rfl (lv_at hl 3 rfl) ?_
                refine va_get (D := D) (ci := 12) (v := .ref (ad 21)) (C := RX12) (T := TX12) (N := 100) hx hb hg inX12 hown hK hP 0 rfl rfl 21 (by decide) (hg _ w1731) (fun _ h9 => h9) rfl dX12_toldComponent_65 ?_
                refine lv_bipush (v := 24) hx hb dX12_toldComponent_68 (by decide) ?_
                refine lv_iload_n hx hb dX12_toldComponent_70 rfl (lv_at hl 2 rfl) ?_
                refine lv_imul hx hb dX12_toldComponent_71 ?_
                refine lv_topi (fun z1181 ez1181 => ?_)
                have hz1181 : z1181.toInt = 24 * z5.toInt := i_mul ez1181 (by decide) rfl (by omega)
                refine lv_iload hx hb dX12_toldComponent_72 (lv_at hl 0 rfl) ?_
                refine lv_iadd hx hb dX12_toldComponent_74 ?_
                refine lv_topi (fun z1182 ez1182 => ?_)
                have hz1182 : z1182.toInt = z1181.toInt + y1039.toInt := i_add ez1182 rfl rfl (by omega)
                refine lv_iconst (v := 0) hx hb dX12_toldComponent_75 (by decide) ?_
                refine va_zast (D := D) (i := z1182) (x := 0) hx hb hK hP hD hS 14 13 rfl rfl (i_in (a := z1182.toInt) rfl (by omega)) dX12_toldComponent_76 (fun H locs hP hD hS => ?_)
                obtain ⟨V1183, hV1183⟩ : ∃ z, z = up2 V1040 21 (Int32.toNatClampNeg z1182) (vp_nar .boolean 0) := ⟨_, rfl⟩
                have hP : va_P D vwCl (mw ad kk ks.1 V1183 L) H := by rw [hV1183]; exact hP
                have hD : va_D A (mw ad kk ks.1 V1183 L) := by rw [hV1183]; exact hD
                have hMV1183 : rgd bM V1183 := hMV1040.put hV1183 (nar_b _)
                have agV1183 : agr [(0, 7), (0, 8), (0, 48), (0, 50), (0, 51), (0, 52)] [15, 19, 20, 21, 22, 23, 24, 25, 26, 27, 28, 29, 30, 31, 32, 33, 34, 35, 36, 37, 38, 45, 46, 47, 53] V V1183 := agV1040.up hV1183 rfl
                obtain ⟨z1184, ez1184⟩ : ∃ y : Int32, y = y1039 + 1 := ⟨_, rfl⟩
                have hz1184 : z1184.toInt = y1039.toInt + 1 := i_add ez1184 rfl (by decide) (by omega)
                refine lv_iinc (v := z1184) (lv' := [(4, .int z1184), (2, .long z25), (1, .int z5), (0, .ref (ad 0))]) hx hb dX12_toldComponent_77 hl (k := 0) rfl (by rw [ez1184]; rfl) (by decide) rfl (fun ls hl => ?_)
                refine lv_goto (tgt := 57) hx hb dX12_toldComponent_80 (by decide) ?_
                have kc5 := i_clamp (x := y1039) rfl (by omega)
                have kp5 : (Int32.toNatClampNeg z1182) = 24 * gc + Int32.toNatClampNeg y1039 := by have h9 := i_clamp (x := z1182) rfl (by omega); omega
                have cn1185 : CNm V1183 bq gs := CNm.up xlp1041_1 hV1183 (fun q9 => by have h9 := i_clamp (x := z1182) rfl (by omega); unfold rdm at q9; omega)
                have rw1186 : RoV 19 bq V V1183 := (fun k hk => ((up2_o hV1183 (by decide)).trans (xlp1041_2 k hk)))
                have rw1187 : RoV 35 bq V V1183 := (fun k hk => ((up2_o hV1183 (by decide)).trans (xlp1041_3 k hk)))
                have rw1188 : RoV 37 bq V V1183 := (fun k hk => ((up2_o hV1183 (by decide)).trans (xlp1041_4 k hk)))
                have rw1189 : RoL 20 24 bq L L := (fun k hk => rfl)
                have rw1190 : RoL 36 20 bq L L := (fun k hk => rfl)
                have rw1191 : RoL 38 20 bq L L := (fun k hk => rfl)
                exact ihlp1041 z1184 V1183 H locs ls (by omega) (fun g hg => by by_cases hk : g = Int32.toNatClampNeg y1039; (rw [hk, ← kp5, up2_s hV1183]; decide); (rw [up2_k hV1183 (by omega)]; exact xlp1041_0 g (by omega))) cn1185 rw1186 rw1187 rw1188 rw1189 rw1190 rw1191 (by omega) (agr.up (agr.tr agr.rf ajV1040 (by decide) (by decide)) hV1183 rfl) hMV1183 hP hD hS (lv_sub hl [0, 1, 2, 3] rfl)
          have cn1192 : CNm V29 bq gs := CNm.ag cnm (show agr [(0, 7), (0, 8)] [] V V29 from (agr.tr (agr.tr agr.rf ajV13 (by decide) (by decide)) ajV29 (by decide) (by decide))) (by decide) keepC.rf
          have rw1193 : RoV 19 bq V V29 := (fun k hk => ((ajV29 19 k rfl).trans ((ajV13 19 k rfl).trans rfl)))
          have rw1194 : RoV 35 bq V V29 := (fun k hk => ((ajV29 35 k rfl).trans ((ajV13 35 k rfl).trans rfl)))
          have rw1195 : RoV 37 bq V V29 := (fun k hk => ((ajV29 37 k rfl).trans ((ajV13 37 k rfl).trans rfl)))
          have rw1196 : RoL 20 24 bq L L := (fun k hk => rfl)
          have rw1197 : RoL 36 20 bq L L := (fun k hk => rfl)
          have rw1198 : RoL 38 20 bq L L := (fun k hk => rfl)
          exact lp1041 ((24 - (Int32.toInt 0) + 1 : Int).toNat) 0 V29 H locs ls (by decide) (fun g hg => absurd hg (by omega)) cn1192 rw1193 rw1194 rw1195 rw1196 rw1197 rw1198 (by omega) agr.rf hMV29 hP hD hS (lv_sub hl [0, 1, 2, 3] rfl)
      · skip
        have f1199 : 0 < ((V13 0 8)).toInt := b_nle rfl (by decide) c23
        exfalso; omega
    · skip
      exfalso; omega
  · skip
    have f1200 : ((V 19 (Int32.toNatClampNeg (V 0 12)))).toInt = 24 := b_eq rfl (by decide) c6
    refine lv_iconst (v := 1) hx hb dX12_toldComponent_33 (by decide) ?_
    refine lv_goto (tgt := 38) hx hb dX12_toldComponent_34 (by decide) ?_
    have r1201 : Int32.toInt 1 = 1 := by decide
    refine gA_void (gA_runV (As := [.int 1]) (rest := []) (ci := 12) (q0 := 0) hx hb hml hown hg hP hD hK hS hA hnw hgk (s_beginsA l D ks H.size ad kk V L 1 (bq) (gn) (gT) (gs) ((gs.2.1 2)) hMV (by decide) rel (by rw [kd9]; decide)) w2035 w2037 w85 w172 w2038 rfl rfl hdV_yX12_begins ⟨Nat.le_of_ble_eq_true rfl, Nat.le_of_ble_eq_true rfl⟩ rfl hl.1 rfl (Nat.le_of_ble_eq_true rfl) dX12_toldComponent_38 ⟨Nat.le_of_ble_eq_true rfl, Nat.le_of_ble_eq_true rfl⟩) hP hD hK hS hA (fun u1203 H locs w1204 hP hD hK hS => ?_)
    obtain ⟨V1206, L1207⟩ := u1203
    obtain ⟨hMV1206, ajV1206, axL1207, t1205⟩ := w1204
    have axL1207 : L = L1207 := Eq.symm axL1207
    subst axL1207
    have hP : va_P D vwCl (mw ad kk ks.1 V1206 L) H := hP
    have hD : va_D A (mw ad kk ks.1 V1206 L) := hD
    have hMV1206 : rgd bM V1206 := hMV1206
    have ajV1206 : agr [(0, 7), (0, 8)] [] V V1206 := ajV1206
    have agV1206 : agr [(0, 7), (0, 8), (0, 48), (0, 50), (0, 51), (0, 52)] [15, 19, 20, 21, 22, 23, 24, 25, 26, 27, 28, 29, 30, 31, 32, 33, 34, 35, 36, 37, 38, 45, 46, 47, 53] V V1206 := agV.tr ajV1206 (by decide) (by decide)
    have t1205 : ((Int32.toInt 1) = 0 ∧ (V1206 0 8).toInt = 0 ∧ RelM V1206 L (bq) (gn) (gT) (nx (gs) 1) ((gs.2.1 2))) ∨ ((Int32.toInt 1) = 1 ∧ 1 ≤ (V1206 0 8).toInt ∧ (V1206 0 8).toInt = 5 + 16 * (gT).2.2 ((gs).1 0)) := t1205
    rcases t1205 with ⟨q1208, f1209, rl1210⟩ | ⟨q1208, f1209, rl1210⟩
    · skip
      exfalso; omega
    · skip
      have hr1211 : ∀ k, Rc gT (Crun gs (Istmt :: k)) (Crun gs (Istmt :: k)) := fun k => Rc.rf
      have hb1212 : ∀ k, Rc gT (Crun gs (Istmt :: k)) (Cbad (V1206 0 8).toInt) := fun k => Rc.go1 (hr1211 k) ((st_131f kd9 (by omega)).trans (fl_eq rfl rl1210))
      have r1213 : 0 ≤ ((V1206 0 8)).toInt ∧ ((V1206 0 8)).toInt ≤ 70000 := hMV1206 0 8
      refine lv_aload_n hx hb dX12_toldComponent_41 rfl (lv_at hl 1 rfl) ?_
      refine va_get (D := D) (ci := 12) (v := .int (V1206 0 8)) (C := RX12) (T := TX12) (N := 100) hx hb hg inX12 hown hK hP 0 rfl rfl 8 (by decide) (hg _ w1718) (fun _ h9 => h9) rfl dX12_toldComponent_42 ?_
      refine lv_if_le (tgt := 49) hx hb dX12_toldComponent_45 (by decide) (fun c1214 => ?_) (fun c1214 => ?_)
      · skip
        have f1215 : ((V1206 0 8)).toInt ≤ 0 := b_le rfl (by decide) c1214
        exfalso; omega
      · skip
        have f1216 : 0 < ((V1206 0 8)).toInt := b_nle rfl (by decide) c1214
        have pq1217 : (V1206 0 48).toInt = ((V 0 48)).toInt := congrArg Int32.toInt (ajV1206 0 48 rfl)
        have pq1218 : (V1206 0 12).toInt = ((V 0 12)).toInt := congrArg Int32.toInt (ajV1206 0 12 rfl)
        have rw1219 : RoV 19 bq V V1206 := (fun k hk => ((ajV1206 19 k rfl).trans rfl))
        have rw1220 : RoV 35 bq V V1206 := (fun k hk => ((ajV1206 35 k rfl).trans rfl))
        have rw1221 : RoV 37 bq V V1206 := (fun k hk => ((ajV1206 37 k rfl).trans rfl))
        have rw1222 : RoL 20 24 bq L L := (fun k hk => rfl)
        have rw1223 : RoL 36 20 bq L L := (fun k hk => rfl)
        have rw1224 : RoL 38 20 bq L L := (fun k hk => rfl)
        exact W.vret hx hb hr (fun t ht hW => ⟨⟨(V1206, L), rfl, ⟨hMV1206, agV1206, alL, (Imp.mk (fun hp => have hp : (V1206 0 8).toInt = 0 := hp; (show (V1206 0 48).toInt ≤ 2 * (V1206 0 7).toInt from by omega))), (show (V1206 0 48).toInt ≤ 8200 from by omega), (show (V1206 0 12).toInt = (V 0 12).toInt from by omega), (Or.inr ⟨(show 1 ≤ (V1206 0 8).toInt from by omega), hb1212⟩), rw1219, rw1220, rw1221, rw1222, rw1223, rw1224⟩, by rw [ht]; exact hP, va_K.moved hW.alike hK, hD⟩, hS.F ht⟩) hS.2.2 dX12_toldComponent_48
