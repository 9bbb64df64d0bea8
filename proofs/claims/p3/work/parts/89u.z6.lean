/-! components and wraps of the reference -/
theorem OWm.fresh {V : Vf} {o n : Nat} {s s' : St} (k : keepS (scopeS s) n s') (c27 : (V 27 o).toInt = 0) (c32 : (V 32 o).toInt = -1) (c33 : (V 33 o).toInt = -1) (c34 : ∀ q : Nat, q < 20 → (V 34 (20 * o + q)).toInt = -1) (w : Int64) : OWm V o (sA s' 2 w) := by
  refine ⟨?_, ⟨fun _ => ?_, fun _ => by omega⟩, ⟨fun _ => ?_, fun _ => by omega⟩, ?_, fun f hf => ?_, ?_⟩
  · show _ = ((s'.1 1 : Nat) : Int)
    rw [c27, k.2.1 1 (by decide)]
    rfl
  · show s'.1 2 ≠ 1
    rw [k.2.1 2 (by decide)]
    show (0 : Nat) ≠ 1
    decide
  · show s'.1 3 ≠ 1
    rw [k.2.1 3 (by decide)]
    show (0 : Nat) ≠ 1
    decide
  · show s'.1 4 = 0
    rw [k.2.1 4 (by decide)]
    rfl
  · show _ ↔ f ∈ s'.2.2.2
    rw [k.2.2.2]
    have z := c34 f hf
    exact ⟨fun q => absurd q (by omega), fun q => absurd q List.not_mem_nil⟩
  · show ∀ f ∈ s'.2.2.2, _
    rw [k.2.2.2]
    exact fun f hf => absurd hf List.not_mem_nil
theorem WRm.st {V : Vf} {q i f : Nat} {s : St} (h : WRm V q s) (hi : (i : Int) < (V 39 q).toInt) : arounds (s.2.2.1.take (i + 1)) f = arounds (s.2.2.1.take i) f + (if (V 43 (12 * q + i)).toInt = 1 ∧ (V 41 (12 * q + i)).toInt = (f : Int) then 1 else 0) := by
  have hl : i < s.2.2.1.length := by have := h.1; omega
  have z := h.2 i hl
  rw [take_s _ i hl, ar_app, z.2]
  congr 1
  by_cases c : (V 43 (12 * q + i)).toInt = 1 ∧ (V 41 (12 * q + i)).toInt = (f : Int)
  · rw [if_pos c, if_pos ⟨by show (V 41 (12 * q + i)).toInt.toNat = f; omega, decide_eq_true c.1⟩]
  · rw [if_neg c, if_neg (fun q9 => c ⟨of_decide_eq_true q9.2, by have q1 : (V 41 (12 * q + i)).toInt.toNat = f := q9.1; omega⟩)]
theorem WRm.all {V : Vf} {q i f : Nat} {s : St} (h : WRm V q s) (hi : (i : Int) = (V 39 q).toInt) : arounds (s.2.2.1.take i) f = arounds s.2.2.1 f := by
  rw [List.take_of_length_le (by have := h.1; omega)]
/-- a wrap's places ahead of its end: no one reads them yet -/
theorem RelM.w0 {V W : Vf} {L : Lf} {q n : Nat} {T : Tk} {s : St} {l2 : List Int64} {c : Nat} {a v : Int32} (h : RelM V L q n T s l2) (e : W = up2 V c (Int32.toNatClampNeg a) v) (hc : c = 41 ∨ c = 43) (ha : a.toInt = ((12 * q : Nat) : Int) + (V 39 q).toInt) (h0 : 0 ≤ (V 39 q).toInt) : RelM W L q n T s l2 := by
  have g : ∀ x, ¬ x = c → W x = V x := fun x hx => up2_fo e hx
  have kc := i_clamp (x := a) rfl (by omega)
  have t := h.2.2.1
  have w := h.2.2.2
  have wl := w.1
  refine ⟨by unfold HDm; rw [g 0 (by omega)]; exact h.1, h.2.1.ag (g 4 (by omega)) (g 5 (by omega)) rfl rfl, h.2.2.1.ag (congrFun (g 13 (by omega)) _) (congrFun (g 16 (by omega)) _) (congrFun (g 19 (by omega)) _) (congrFun (g 35 (by omega)) _) (congrFun (g 37 (by omega)) _) rfl rfl rfl rfl rfl rfl, ⟨by rw [g 39 (by omega)]; exact w.1, fun i hi => ?_⟩⟩
  have z := w.2 i hi
  rcases hc with hc | hc
  · subst hc
    rw [g 43 (by decide), up2_k e (by omega)]
    exact z
  · subst hc
    rw [g 41 (by decide), up2_k e (by omega)]
    exact z
theorem RelM.wr {V W : Vf} {L : Lf} {q n f : Nat} {T : Tk} {s : St} {l2 : List Int64} {z : Int32} {p : Int} (h : RelM V L q n T s l2) (ev : W = up2 V 39 q z) (hz : z.toInt = (V 39 q).toInt + 1) (h0 : 0 ≤ (V 39 q).toInt) (c41 : (V 41 (12 * q + (V 39 q).toInt.toNat)).toInt = (f : Int)) (c43 : (V 43 (12 * q + (V 39 q).toInt.toNat)).toInt = p) : RelM W L q n T (sW s (f, decide (p = 1))) l2 := by
  have g : ∀ x, ¬ x = 39 → W x = V x := fun x hx => up2_fo ev hx
  have w39 : W 39 q = z := up2_s ev
  have w := h.2.2.2
  have wl := w.1
  refine ⟨by unfold HDm; rw [g 0 (by decide)]; exact h.1, h.2.1.ag (g 4 (by decide)) (g 5 (by decide)) rfl rfl, h.2.2.1.ag (congrFun (g 13 (by decide)) _) (congrFun (g 16 (by decide)) _) (congrFun (g 19 (by decide)) _) (congrFun (g 35 (by decide)) _) (congrFun (g 37 (by decide)) _) rfl rfl rfl rfl rfl rfl, ⟨?_, ?_⟩⟩
  · show ((s.2.2.1 ++ [(f, decide (p = 1))]).length : Int) = _
    rw [List.length_append, w39, hz]
    show ((s.2.2.1.length + 1 : Nat) : Int) = _
    omega
  · show ∀ i (hi : i < (s.2.2.1 ++ [(f, decide (p = 1))]).length), 0 ≤ (W 41 (12 * q + i)).toInt ∧ (s.2.2.1 ++ [(f, decide (p = 1))])[i] = ((W 41 (12 * q + i)).toInt.toNat, decide ((W 43 (12 * q + i)).toInt = 1))
    intro i hi
    rw [g 41 (by decide), g 43 (by decide)]
    have hi2 : i < s.2.2.1.length + 1 := by rw [List.length_append] at hi; exact hi
    by_cases c : i < s.2.2.1.length
    · rw [List.getElem_append_left c]
      exact w.2 i c
    · have ei : i = (V 39 q).toInt.toNat := by omega
      rw [List.getElem_append_right (by omega)]
      subst ei
      rw [c41, c43, Int.toNat_natCast]
      exact ⟨by omega, List.getElem_singleton _⟩
theorem ARm.wr {s : St} {f : Nat} {p : Int} (h : ARm s) (c : p = 1 → ¬ 2 ≤ arounds s.2.2.1 f) : ARm (sW s (f, decide (p = 1))) := by
  intro g
  show arounds (s.2.2.1 ++ [(f, decide (p = 1))]) g ≤ 2
  rw [ar_app]
  have z := h g
  by_cases d : f = g ∧ decide (p = 1) = true
  · have y := c (of_decide_eq_true d.2)
    rw [d.1] at y
    split <;> omega
  · rw [if_neg d]
    omega
theorem EM.w {V : Vf} {s : St} (e51 : (V 0 51).toInt < 0) (h4 : s.1 4 = 1 ∨ s.1 4 = 2) (e : (V 0 52).toInt = 1 ↔ s.1 4 = 2) : EM V s := ⟨⟨fun q => absurd q (by omega), fun q => by omega⟩, e, fun q => absurd q (by omega)⟩
theorem RelM.en {V : Vf} {L : Lf} {q n : Nat} {T : Tk} {s : St} {l2 : List Int64} (h : RelM V L q n T s l2) : (V 4 (s.1 0)).toInt = 0 ↔ T.1 (s.1 0) = 0 := by
  rcases Nat.lt_or_eq_of_le h.1.2.1 with d | d
  · have z := (h.2.1.2.1 _ d).1.rg
    exact ⟨fun x => by omega, fun x => by omega⟩
  · rw [d]
    exact ⟨fun _ => h.2.1.2.2.1, fun _ => h.2.1.2.2.2.1⟩
theorem RelM.z {V : Vf} {L : Lf} {q n : Nat} {T : Tk} (t : TkM V L T n) (e7 : (V 0 7).toInt = 0) (e8 : (V 0 8).toInt = 0) (e12 : (V 0 12).toInt = (q : Int)) (hq : q < 2) (n0 : (V 13 q).toInt = 0) (n1 : (V 16 q).toInt = 0) (n2 : (V 19 q).toInt = 0) (n3 : (V 35 q).toInt = 0) (n4 : (V 37 q).toInt = 0) (n5 : (V 39 q).toInt = 0) : RelM V L q n T St0 (St0.2.1 2) :=
  have ls : ∀ (f : Nat → Int64) (x : Int), x = 0 → LSw [] f x ∧ NDl [] := fun f x hx => ⟨⟨by rw [hx]; rfl, fun i h => absurd h (Nat.not_lt_zero _)⟩, fun i j hi => absurd hi (Nat.not_lt_zero _)⟩
  ⟨⟨e7, Nat.zero_le _, e8, e12, hq⟩, t, ⟨ls _ _ n0, ls _ _ n1, ls _ _ n2, ls _ _ n3, ls _ _ n4⟩, ⟨by rw [n5]; rfl, fun i h => absurd h (Nat.not_lt_zero _)⟩⟩
theorem ARm.z : ARm St0 := fun f => by
  exact Nat.zero_le 2
theorem RelM.sc {V : Vf} {L : Lf} {q n : Nat} {T : Tk} {s : St} {l2 : List Int64} (h : RelM V L q n T (nx s 1) l2) : RelM V L q n T (scopeS s) l2 := ⟨h.1, h.2.1, h.2.2.1, h.2.2.2⟩
theorem RelM.p4 {V : Vf} {L : Lf} {q n v : Nat} {T : Tk} {s : St} {l2 : List Int64} (h : RelM V L q n T (nx s 1) l2) : RelM V L q n T (sN (nx s 1) 4 v) l2 := ⟨h.1, h.2.1, h.2.2.1, h.2.2.2⟩
theorem RelM.ad2 {V : Vf} {L : Lf} {q n : Nat} {T : Tk} {s : St} {l2 : List Int64} {w : Int64} (h : RelM V L q n T s l2) : RelM V L q n T (sA s 2 w) l2 := ⟨h.1, h.2.1, h.2.2.1, h.2.2.2⟩


abbrev r_s_toldComponentA : Room := { frames := 96, cells := 0, slots := 0, locals := 2886 }
abbrev q_s_toldComponentA (D : va_G) (ks : KS) (ad : Nat → Nat) (kk : Nat → ClassId) (V : Vf) (L : Lf) (bq : Nat) (gn : Nat) (gT : Tk) (gs : St) (A : Nat → Prop) : Array Value → State → Outcome → State → Prop := va_Qv (fun (u : Vf × Lf) => rgd bM u.1 ∧ agr [(0, 7), (0, 8), (0, 48), (0, 50), (0, 51), (0, 52)] [15, 19, 20, 21, 22, 23, 24, 25, 26, 27, 28, 29, 30, 31, 32, 33, 34, 35, 36, 37, 38, 45, 46, 47, 53] V u.1 ∧ agL [15, 19, 20, 21, 22, 23, 24, 25, 26, 27, 28, 29, 30, 31, 32, 33, 34, 35, 36, 37, 38, 45, 46, 47, 53] L u.2 ∧ (Imp ((u.1 0 8).toInt = 0) ((u.1 0 48).toInt ≤ 2 * (u.1 0 7).toInt)) ∧ ((u.1 0 48).toInt ≤ 8200) ∧ ((u.1 0 12).toInt = (V 0 12).toInt) ∧ (RdM gT gs (fun k => Istmt :: k) (fun k => Istmt :: k) (u.1 0 8).toInt (fun s9 => RelM u.1 u.2 bq gn gT s9 (s9.2.1 2) ∧ gs.1 0 + 1 ≤ s9.1 0 ∧ ARm s9))) (fun u t => gq D A (mw ad kk ks.1 u.1 u.2) (mty kk) t) A
set_option maxHeartbeats 4000000 in
set_option maxRecDepth 100000 in
theorem s_toldComponentA (l : Launch) (D : va_G) (ks : KS) (sz : Nat) (ad : Nat → Nat) (kk : Nat → ClassId) (V : Vf) (L : Lf) (bq : Nat) (gn : Nat) (gT : Tk) (gs : St) (hMV : rgd bM V) (rel : RelM V L bq gn gT gs (gs.2.1 2)) (kd9 : gT.1 (gs.1 0) = 131) (cc : (V 0 48).toInt ≤ 2 * (V 0 7).toInt) (arm : ARm gs)  : Met l yX12_toldComponent (Cond.code yX12_toldComponent cX12_toldComponent 5 none :: GW) r_s_toldComponentA (va_Pc [.ref (ad 0)] (gp D ks (mw ad kk ks.1 V L) (mty kk) sz)) (q_s_toldComponentA D ks ad kk V L  bq gn gT gs (va_A (mw ad kk ks.1 V L) sz)) 0 0 (va_A (mw ad kk ks.1 V L) sz) := by
  refine g_met (q_s_toldComponentA D ks ad kk V L  bq gn gT gs) (by decide) (Nat.le_of_ble_eq_true rfl) ?_
  intro p e s m below meth c A ls H locs hx hb hr hml hown hg hlocks hin hnw hgk hP hK hD hS hA hl
  have hown : s.vm.findClass RX12 = some m.cls := hown
  have hl : lv_has ls 5 [(0, .ref (ad 0))] := hl
  have hP : va_P D vwCl (mw ad kk ks.1 V L) H := hP
  have hD : va_D A (mw ad kk ks.1 V L) := hD
  have hK : va_K D vwCl (mty kk) s := hK
  have agV : agr [(0, 7), (0, 8), (0, 48), (0, 50), (0, 51), (0, 52)] [15, 19, 20, 21, 22, 23, 24, 25, 26, 27, 28, 29, 30, 31, 32, 33, 34, 35, 36, 37, 38, 45, 46, 47, 53] V V := agr.rf
  have alL : agL [15, 19, 20, 21, 22, 23, 24, 25, 26, 27, 28, 29, 30, 31, 32, 33, 34, 35, 36, 37, 38, 45, 46, 47, 53] L L := agL.rf
  have r1 : 0 ≤ ((V 0 48)).toInt ∧ ((V 0 48)).toInt ≤ 10000 := hMV 0 48
  have rg0 := RelM.rg rel
  have cl0 := RelM.cl rel
  have cq0 := RelM.cq rel
  have ln0 := RelM.len rel
  have q13 : (V 13 (Int32.toNatClampNeg (V 0 12))).toInt = (V 13 bq).toInt := by rw [cq0]
  have q16 : (V 16 (Int32.toNatClampNeg (V 0 12))).toInt = (V 16 bq).toInt := by rw [cq0]
  have q19 : (V 19 (Int32.toNatClampNeg (V 0 12))).toInt = (V 19 bq).toInt := by rw [cq0]
  have q39 : (V 39 (Int32.toNatClampNeg (V 0 12))).toInt = (V 39 bq).toInt := by rw [cq0]
  obtain ⟨gc, hgc⟩ : ∃ g, g = 24 * bq + (gs.2.1 2).length := ⟨_, rfl⟩
  refine lv_bipush (v := 24) hx hb dX12_toldComponent_0 (by decide) ?_
  refine lv_aload_n hx hb dX12_toldComponent_2 rfl (lv_at hl 0 rfl) ?_
  refine va_get (D := D) (ci := 12) (v := .int (V 0 12)) (C := RX12) (T := TX12) (N := 100) hx hb hg inX12 hown hK hP 0 rfl rfl 12 (by decide) (hg _ w1718) (fun _ h9 => h9) rfl dX12_toldComponent_3 ?_
  have r2 : 0 ≤ ((V 0 12)).toInt ∧ ((V 0 12)).toInt ≤ 1 := hMV 0 12
  refine lv_imul hx hb dX12_toldComponent_6 ?_
  refine lv_topi (fun z3 ez3 => ?_)
  have hz3 : z3.toInt = 24 * ((V 0 12)).toInt := i_mul ez3 (by decide) rfl (by omega)
  refine lv_aload_n hx hb dX12_toldComponent_7 rfl (lv_at hl 0 rfl) ?_
  refine va_get (D := D) (ci := 12) (v := .ref (ad 19)) (C := RX12) (T := TX12) (N := 100) hx hb hg inX12 hown hK hP 0 rfl rfl 19 (by decide) (hg _ w1725) (fun _ h9 => h9) rfl dX12_toldComponent_8 ?_
  refine lv_aload_n hx hb dX12_toldComponent_11 rfl (lv_at hl 0 rfl) ?_
  refine va_get (D := D) (ci := 12) (v := .int (V 0 12)) (C := RX12) (T := TX12) (N := 100) hx hb hg inX12 hown hK hP 0 rfl rfl 12 (by decide) (hg _ w1718) (fun _ h9 => h9) rfl dX12_toldComponent_12 ?_
  refine va_iald (D := D) (i := (V 0 12)) hx hb hK hP 12 11 rfl rfl (i_in (a := ((V 0 12)).toInt) rfl (by omega)) dX12_toldComponent_15 ?_
  have r4 : 0 ≤ ((V 19 (Int32.toNatClampNeg (V 0 12)))).toInt ∧ ((V 19 (Int32.toNatClampNeg (V 0 12)))).toInt ≤ 24 := hMV 19 (Int32.toNatClampNeg (V 0 12))
  refine lv_iadd hx hb dX12_toldComponent_16 ?_
  refine lv_topi (fun z5 ez5 => ?_)
  have hz5 : z5.toInt = z3.toInt + ((V 19 (Int32.toNatClampNeg (V 0 12)))).toInt := i_add ez5 rfl rfl (by omega)
  refine lv_istore_n (lv' := [(1, .int z5), (0, .ref (ad 0))]) hx hb dX12_toldComponent_17 rfl hl (by decide) rfl (fun ls hl => ?_)
  have z5r : 0 ≤ z5.toInt := by omega
  have kgc : Int32.toNatClampNeg z5 = gc := by have h9 := i_clamp (x := z5) rfl (by omega); omega
  refine lv_aload_n hx hb dX12_toldComponent_18 rfl (lv_at hl 1 rfl) ?_
  refine lv_aload_n hx hb dX12_toldComponent_19 rfl (lv_at hl 1 rfl) ?_
  refine va_get (D := D) (ci := 12) (v := .ref (ad 19)) (C := RX12) (T := TX12) (N := 100) hx hb hg inX12 hown hK hP 0 rfl rfl 19 (by decide) (hg _ w1725) (fun _ h9 => h9) rfl dX12_toldComponent_20 ?_
  refine lv_aload_n hx hb dX12_toldComponent_23 rfl (lv_at hl 1 rfl) ?_
  refine va_get (D := D) (ci := 12) (v := .int (V 0 12)) (C := RX12) (T := TX12) (N := 100) hx hb hg inX12 hown hK hP 0 rfl rfl 12 (by decide) (hg _ w1718) (fun _ h9 => h9) rfl dX12_toldComponent_24 ?_
  refine va_iald (D := D) (i := (V 0 12)) hx hb hK hP 12 11 rfl rfl (i_in (a := ((V 0 12)).toInt) rfl (by omega)) dX12_toldComponent_27 ?_
  refine lv_bipush (v := 24) hx hb dX12_toldComponent_28 (by decide) ?_
  refine lv_icmp_ne (tgt := 37) hx hb dX12_toldComponent_30 (by decide) (fun c6 => ?_) (fun c6 => ?_)
  · skip
    have f7 : ((V 19 (Int32.toNatClampNeg (V 0 12)))).toInt ≠ 24 := b_neq rfl (by decide) c6
    refine lv_iconst (v := 0) hx hb dX12_toldComponent_37 (by decide) ?_
    have r8 : Int32.toInt 0 = 0 := by decide
    refine gA_void (gA_runV (As := [.int 0]) (rest := []) (ci := 12) (q0 := 0) hx hb hml hown hg hP hD hK hS hA hnw hgk (s_beginsA l D ks H.size ad kk V L 0 (bq) (gn) (gT) (gs) ((gs.2.1 2)) hMV (by decide) rel (by rw [kd9]; decide)) w2031 w2033 w85 w172 w2034 rfl rfl hdV_yX12_begins ⟨Nat.le_of_ble_eq_true rfl, Nat.le_of_ble_eq_true rfl⟩ rfl hl.1 rfl (Nat.le_of_ble_eq_true rfl) dX12_toldComponent_38 ⟨Nat.le_of_ble_eq_true rfl, Nat.le_of_ble_eq_true rfl⟩) hP hD hK hS hA (fun u10 H locs w11 hP hD hK hS => ?_)
    obtain ⟨V13, L14⟩ := u10
    obtain ⟨hMV13, ajV13, axL14, t12⟩ := w11
    have axL14 : L = L14 := Eq.symm axL14
    subst axL14
    have hP : va_P D vwCl (mw ad kk ks.1 V13 L) H := hP
    have hD : va_D A (mw ad kk ks.1 V13 L) := hD
    have hMV13 : rgd bM V13 := hMV13
    have ajV13 : agr [(0, 7), (0, 8)] [] V V13 := ajV13
    have agV13 : agr [(0, 7), (0, 8), (0, 48), (0, 50), (0, 51), (0, 52)] [15, 19, 20, 21, 22, 23, 24, 25, 26, 27, 28, 29, 30, 31, 32, 33, 34, 35, 36, 37, 38, 45, 46, 47, 53] V V13 := agV.tr ajV13 (by decide) (by decide)
    have t12 : ((Int32.toInt 0) = 0 ∧ (V13 0 8).toInt = 0 ∧ RelM V13 L (bq) (gn) (gT) (nx (gs) 1) ((gs.2.1 2))) ∨ ((Int32.toInt 0) = 1 ∧ 1 ≤ (V13 0 8).toInt ∧ (V13 0 8).toInt = 5 + 16 * (gT).2.2 ((gs).1 0)) := t12
    rcases t12 with ⟨q15, f16, rl17⟩ | ⟨q15, f16, rl17⟩
    · skip
      have hr18 : ∀ k, Rc gT (Crun gs (Istmt :: k)) (Crun gs (Istmt :: k)) := fun k => Rc.rf
      have hr19 : ∀ k, Rc gT (Crun gs (Istmt :: k)) (Crun (nx gs 1) (InewComp :: k)) := fun k => Rc.go1 (hr18 k) (st_131 kd9 (by omega))
      have ps20 : (nx gs 1).1 0 = gs.1 0 + 1 := rfl
      have fz21 := RelM.rg rl17
      have r22 : 0 ≤ ((V13 0 8)).toInt ∧ ((V13 0 8)).toInt ≤ 70000 := hMV13 0 8
      refine lv_aload_n hx hb dX12_toldComponent_41 rfl (lv_at hl 1 rfl) ?_
      refine va_get (D := D) (ci := 12) (v := .int (V13 0 8)) (C := RX12) (T := TX12) (N := 100) hx hb hg inX12 hown hK hP 0 rfl rfl 8 (by decide) (hg _ w1714) (fun _ h9 => h9) rfl dX12_toldComponent_42 ?_
      refine lv_if_le (tgt := 49) hx hb dX12_toldComponent_45 (by decide) (fun c23 => ?_) (fun c23 => ?_)
      · skip
        have f24 : ((V13 0 8)).toInt ≤ 0 := b_le rfl (by decide) c23
        refine lv_aload_n hx hb dX12_toldComponent_49 rfl (lv_at hl 1 rfl) ?_
        refine gA_long (gA_runV (As := []) (rest := []) (ci := 12) (q0 := 0) hx hb hml hown hg hP hD hK hS hA hnw hgk (s_newNameA l D ks H.size ad kk V13 L (bq) (gn) (gT) ((nx gs 1)) hMV13 rl17) w2039 w2041 w87 w172 w2042 rfl rfl hdV_yX12_newName ⟨Nat.le_of_ble_eq_true rfl, Nat.le_of_ble_eq_true rfl⟩ rfl hl.1 rfl (Nat.le_of_ble_eq_true rfl) dX12_toldComponent_50 ⟨Nat.le_of_ble_eq_true rfl, Nat.le_of_ble_eq_true rfl⟩) hP hD hK hS hA (fun z25 u26 H locs w27 hP hD hK hS => ?_)
        obtain ⟨V29, L30⟩ := u26
        obtain ⟨hMV29, ajV29, axL30, t28⟩ := w27
        have axL30 : L = L30 := Eq.symm axL30
        subst axL30
        have hP : va_P D vwCl (mw ad kk ks.1 V29 L) H := hP
        have hD : va_D A (mw ad kk ks.1 V29 L) := hD
        have hMV29 : rgd bM V29 := hMV29
        have ajV29 : agr [(0, 7), (0, 8)] [] V13 V29 := ajV29
        have agV29 : agr [(0, 7), (0, 8), (0, 48), (0, 50), (0, 51), (0, 52)] [15, 19, 20, 21, 22, 23, 24, 25, 26, 27, 28, 29, 30, 31, 32, 33, 34, 35, 36, 37, 38, 45, 46, 47, 53] V V29 := agV13.tr ajV29 (by decide) (by decide)
        have t28 : KmW (newN (gT) ((nx gs 1))) (V29 0 8).toInt (fun w9 => RelM V29 L (bq) (gn) (gT) (nx ((nx gs 1)) 1) (((nx gs 1)).2.1 2) ∧ isTold ((nx gs 1)) w9 = false ∧ z25 = w9) := t28
        rcases t28 with ⟨q31, wx32, h33, rl34, tn35, hw36⟩ | ⟨q31, h33⟩
        · skip
          have hr37 : ∀ k, Rc gT (Crun gs (Istmt :: k)) (Crun (nx (nx gs 1) 1) (Itake 132 :: Itypes 0 [] :: Iscope wx32 :: k)) := fun k => Rc.go1 (hr19 k) (nc_y h33)
          have ps38 : (nx (nx gs 1) 1).1 0 = (nx gs 1).1 0 + 1 := rfl
          have fz39 := RelM.rg rl34
          have r40 : 0 ≤ ((V29 0 8)).toInt ∧ ((V29 0 8)).toInt ≤ 70000 := hMV29 0 8
          refine lv_lstore_n (lv' := [(2, .long z25), (1, .int z5), (0, .ref (ad 0))]) hx hb dX12_toldComponent_53 rfl hl (by decide) rfl (fun ls hl => ?_)
          have z5s : z5.toInt < 48 := by omega
          refine lv_iconst (v := 0) hx hb dX12_toldComponent_54 (by decide) ?_
          refine lv_istore (lv' := [(4, .int 0), (2, .long z25), (1, .int z5), (0, .ref (ad 0))]) hx hb dX12_toldComponent_55 hl (by decide) rfl (fun ls hl => ?_)
          have lp43 : ∀ (fulp43 : Nat) (y41 : Int32) (V42 : Vf) (H : Heap) (locs : List Loc) (ls : Array Slot), 0 ≤ y41.toInt ∧ y41.toInt ≤ 24 → 24 - y41.toInt < (fulp43 : Int) → agr [] [21] V29 V42 → rgd bM V42 → va_P D vwCl (mw ad kk ks.1 V42 L) H → va_D A (mw ad kk ks.1 V42 L) → va_S A s.heap H locs → lv_has ls 5 [(4, .int y41), (2, .long z25), (1, .int z5), (0, .ref (ad 0))] → W p l e r_s_toldComponentA s m ([.ref (ad 0)] : List Value).toArray below meth c H locs 0 0 (MQ below (q_s_toldComponentA D ks ad kk V L  bq gn gT gs A) ([.ref (ad 0)] : List Value).toArray s 0 0 A) (F0 m 57 ls []) := by
            (try clear fz39); (try clear ps38); (try clear fz21); (try clear ps20); (try clear hr19); (try clear hr18)
            intro fulp43
            induction fulp43 with
            | zero =>
              intro y41 V42 H locs ls klp43_0 hn ajV42 hMV42 hP hD hS hl
              exfalso; omega
            | succ fulp43 ihlp43 =>
              intro y41 V42 H locs ls klp43_0 hn ajV42 hMV42 hP hD hS hl
              have agV42 : agr [(0, 7), (0, 8), (0, 48), (0, 50), (0, 51), (0, 52)] [15, 19, 20, 21, 22, 23, 24, 25, 26, 27, 28, 29, 30, 31, 32, 33, 34, 35, 36, 37, 38, 45, 46, 47, 53] V V42 := agV29.tr ajV42 (by decide) (by decide)
              refine lv_iload hx hb dX12_toldComponent_57 (lv_at hl 0 rfl) ?_
              refine lv_bipush (v := 24) hx hb dX12_toldComponent_59 (by decide) ?_
              refine lv_icmp_ge (tgt := 83) hx hb dX12_toldComponent_61 (by decide) (fun c44 => ?_) (fun c44 => ?_)
              · skip
                have f45 : 24 ≤ y41.toInt := b_le (by decide) rfl c44
                refine lv_iconst (v := 0) hx hb dX12_toldComponent_83 (by decide) ?_
                refine lv_istore (lv' := [(4, .int 0), (2, .long z25), (1, .int z5), (0, .ref (ad 0))]) hx hb dX12_toldComponent_84 hl (by decide) rfl (fun ls hl => ?_)
                have lp48 : ∀ (fulp48 : Nat) (y46 : Int32) (V47 : Vf) (H : Heap) (locs : List Loc) (ls : Array Slot), 0 ≤ y46.toInt ∧ y46.toInt ≤ 20 → (∀ j : Nat, (j : Int) < y46.toInt → (V47 34 (20 * gc + j)).toInt = -1) → 20 - y46.toInt < (fulp48 : Int) → agr [] [34] V42 V47 → rgd bM V47 → va_P D vwCl (mw ad kk ks.1 V47 L) H → va_D A (mw ad kk ks.1 V47 L) → va_S A s.heap H locs → lv_has ls 5 [(4, .int y46), (2, .long z25), (1, .int z5), (0, .ref (ad 0))] → W p l e r_s_toldComponentA s m ([.ref (ad 0)] : List Value).toArray below meth c H locs 0 0 (MQ below (q_s_toldComponentA D ks ad kk V L  bq gn gT gs A) ([.ref (ad 0)] : List Value).toArray s 0 0 A) (F0 m 86 ls []) := by
                  (try clear fz39); (try clear ps38); (try clear fz21); (try clear ps20); (try clear hr19); (try clear hr18)
                  intro fulp48
                  induction fulp48 with
                  | zero =>
                    intro y46 V47 H locs ls klp48_0 xlp48_0 hn ajV47 hMV47 hP hD hS hl
                    exfalso; omega
                  | succ fulp48 ihlp48 =>
                    intro y46 V47 H locs ls klp48_0 xlp48_0 hn ajV47 hMV47 hP hD hS hl
                    have agV47 : agr [(0, 7), (0, 8), (0, 48), (0, 50), (0, 51), (0, 52)] [15, 19, 20, 21, 22, 23, 24, 25, 26, 27, 28, 29, 30, 31, 32, 33, 34, 35, 36, 37, 38, 45, 46, 47, 53] V V47 := agV42.tr ajV47 (by decide) (by decide)
                    refine lv_iload hx hb dX12_toldComponent_86 (lv_at hl 0 rfl) ?_
                    refine lv_bipush (v := 20) hx hb dX12_toldComponent_88 (by decide) ?_
                    refine lv_icmp_ge (tgt := 112) hx hb dX12_toldComponent_90 (by decide) (fun c49 => ?_) (fun c49 => ?_)
                    · skip
                      have f50 : 20 ≤ y46.toInt := b_le (by decide) rfl c49
                      have r351 : ∀ j : Nat, j < 20 → (V47 34 (20 * gc + j)).toInt = -1 := fun j hj => xlp48_0 j (by omega)
                      have J52 : ∀ (V53 : Vf) (L54 : Lf) (H : Heap) (locs : List Loc) (ls : Array Slot), agL [15, 19, 20, 21, 22, 23, 24, 25, 26, 27, 28, 29, 30, 31, 32, 33, 34, 35, 36, 37, 38, 45, 46, 47, 53] L L54 → agr [(0, 7), (0, 8)] [15, 21, 22, 23, 24, 25, 26, 35, 36, 37, 38, 53] V47 V53 → rgd bM V53 → (((V53 0 8).toInt = 0 ∧ ∃ s1 s0 : St, (∀ k, Rc gT (Crun gs (Istmt :: k)) (Crun s1 (Itake 123 :: IaddNm (wx32) :: Imember :: k))) ∧ RelM V53 L54 bq gn gT s1 (gs.2.1 2) ∧ keepS (scopeS s0) 0 s1 ∧ s1.2.1 2 = gs.2.1 2 ∧ s1.2.2.1 = gs.2.2.1 ∧ gs.1 0 + 1 ≤ s1.1 0) ∨ (1 ≤ (V53 0 8).toInt ∧ ∀ k, Rc gT (Crun gs (Istmt :: k)) (Cbad (V53 0 8).toInt))) → (V53 0 48).toInt ≤ 8000 → (V53 0 48).toInt = (V 0 48).toInt → (V53 0 12).toInt = (V 0 12).toInt → va_P D vwCl (mw ad kk ks.1 V53 L54) H → va_D A (mw ad kk ks.1 V53 L54) → va_S A s.heap H locs → lv_has ls 5 [(4, .int y46), (2, .long z25), (1, .int z5), (0, .ref (ad 0))] → W p l e r_s_toldComponentA s m ([.ref (ad 0)] : List Value).toArray below meth c H locs 0 0 (MQ below (q_s_toldComponentA D ks ad kk V L  bq gn gT gs A) ([.ref (ad 0)] : List Value).toArray s 0 0 A) (F0 m 262 ls []) := by
                        as_aux_lemma =>
                        (try clear fz39); (try clear ps38); (try clear hr37); (try clear fz21); (try clear ps20); (try clear hr19); (try clear hr18)
                        intro V53 L54 H locs ls alL54 ajV53 hMV53 xJ52_0 xJ52_1 xJ52_2 xJ52_3 hP hD hS hl
                        have agV53 : agr [(0, 7), (0, 8), (0, 48), (0, 50), (0, 51), (0, 52)] [15, 19, 20, 21, 22, 23, 24, 25, 26, 27, 28, 29, 30, 31, 32, 33, 34, 35, 36, 37, 38, 45, 46, 47, 53] V V53 := agV47.tr ajV53 (by decide) (by decide)
                        have pq55 : (V53 0 48).toInt = ((V 0 48)).toInt := congrArg Int32.toInt ((ajV53 0 48 rfl).trans ((ajV47 0 48 rfl).trans ((ajV42 0 48 rfl).trans ((ajV29 0 48 rfl).trans (ajV13 0 48 rfl)))))
                        have pq56 : (V53 0 12).toInt = ((V 0 12)).toInt := congrArg Int32.toInt ((ajV53 0 12 rfl).trans ((ajV47 0 12 rfl).trans ((ajV42 0 12 rfl).trans ((ajV29 0 12 rfl).trans (ajV13 0 12 rfl)))))
                        rcases xJ52_0 with ⟨f7, s1, s0, h1, r1, k1, t1, w1, g1⟩ | ⟨f7, h1⟩
                        · skip
                          have fz57 := RelM.rg r1
                          have r58 : 0 ≤ ((V53 0 8)).toInt ∧ ((V53 0 8)).toInt ≤ 70000 := hMV53 0 8
                          refine lv_aload_n hx hb dX12_toldComponent_262 rfl (lv_at hl 3 rfl) ?_
                          refine va_get (D := D) (ci := 12) (v := .ref (ad 27)) (C := RX12) (T := TX12) (N := 100) hx hb hg inX12 hown hK hP 0 rfl rfl 27 (by decide) (hg _ w1733) (fun _ h9 => h9) rfl dX12_toldComponent_263 ?_
                          refine lv_iload_n hx hb dX12_toldComponent_266 rfl (lv_at hl 2 rfl) ?_
                          refine lv_iconst (v := 0) hx hb dX12_toldComponent_267 (by decide) ?_
                          refine va_iast (D := D) (i := z5) (x := 0) hx hb hK hP hD hS 20 19 rfl rfl (i_in (a := z5.toInt) rfl (by omega)) dX12_toldComponent_268 (fun H locs hP hD hS => ?_)
                          obtain ⟨V59, hV59⟩ : ∃ z, z = up2 V53 27 (Int32.toNatClampNeg z5) 0 := ⟨_, rfl⟩
                          have hP : va_P D vwCl (mw ad kk ks.1 V59 L54) H := by rw [hV59]; exact hP
                          have hD : va_D A (mw ad kk ks.1 V59 L54) := by rw [hV59]; exact hD
                          have hMV59 : rgd bM V59 := hMV53.put hV59 (show 0 ≤ Int32.toInt 0 ∧ Int32.toInt 0 ≤ 8 from by decide)
                          have agV59 : agr [(0, 7), (0, 8), (0, 48), (0, 50), (0, 51), (0, 52)] [15, 19, 20, 21, 22, 23, 24, 25, 26, 27, 28, 29, 30, 31, 32, 33, 34, 35, 36, 37, 38, 45, 46, 47, 53] V V59 := agV53.up hV59 rfl
                          refine lv_aload_n hx hb dX12_toldComponent_269 rfl (lv_at hl 3 rfl) ?_
                          refine va_get (D := D) (ci := 12) (v := .ref (ad 32)) (C := RX12) (T := TX12) (N := 100) hx hb hg inX12 hown hK hP 0 rfl rfl 32 (by decide) (hg _ w1738) (fun _ h9 => h9) rfl dX12_toldComponent_270 ?_
                          refine lv_iload_n hx hb dX12_toldComponent_273 rfl (lv_at hl 2 rfl) ?_
                          refine lv_iconst (v := (-1)) hx hb dX12_toldComponent_274 (by decide) ?_
                          refine va_iast (D := D) (i := z5) (x := (-1)) hx hb hK hP hD hS 25 24 rfl rfl (i_in (a := z5.toInt) rfl (by omega)) dX12_toldComponent_275 (fun H locs hP hD hS => ?_)
                          obtain ⟨V60, hV60⟩ : ∃ z, z = up2 V59 32 (Int32.toNatClampNeg z5) (-1) := ⟨_, rfl⟩
                          have hP : va_P D vwCl (mw ad kk ks.1 V60 L54) H := by rw [hV60]; exact hP
                          have hD : va_D A (mw ad kk ks.1 V60 L54) := by rw [hV60]; exact hD
                          have hMV60 : rgd bM V60 := hMV59.put hV60 (i_full _)
                          have agV60 : agr [(0, 7), (0, 8), (0, 48), (0, 50), (0, 51), (0, 52)] [15, 19, 20, 21, 22, 23, 24, 25, 26, 27, 28, 29, 30, 31, 32, 33, 34, 35, 36, 37, 38, 45, 46, 47, 53] V V60 := agV59.up hV60 rfl
                          refine lv_aload_n hx hb dX12_toldComponent_276 rfl (lv_at hl 3 rfl) ?_
                          refine va_get (D := D) (ci := 12) (v := .ref (ad 33)) (C := RX12) (T := TX12) (N := 100) hx hb hg inX12 hown hK hP 0 rfl rfl 33 (by decide) (hg _ w1739) (fun _ h9 => h9) rfl dX12_toldComponent_277 ?_
                          refine lv_iload_n hx hb dX12_toldComponent_280 rfl (lv_at hl 2 rfl) ?_
                          refine lv_iconst (v := (-1)) hx hb dX12_toldComponent_281 (by decide) ?_
                          refine va_iast (D := D) (i := z5) (x := (-1)) hx hb hK hP hD hS 26 25 rfl rfl (i_in (a := z5.toInt) rfl (by omega)) dX12_toldComponent_282 (fun H locs hP hD hS => ?_)
                          obtain ⟨V61, hV61⟩ : ∃ z, z = up2 V60 33 (Int32.toNatClampNeg z5) (-1) := ⟨_, rfl⟩
                          have hP : va_P D vwCl (mw ad kk ks.1 V61 L54) H := by rw [hV61]; exact hP
                          have hD : va_D A (mw ad kk ks.1 V61 L54) := by rw [hV61]; exact hD
                          have hMV61 : rgd bM V61 := hMV60.put hV61 (i_full _)
                          have agV61 : agr [(0, 7), (0, 8), (0, 48), (0, 50), (0, 51), (0, 52)] [15, 19, 20, 21, 22, 23, 24, 25, 26, 27, 28, 29, 30, 31, 32, 33, 34, 35, 36, 37, 38, 45, 46, 47, 53] V V61 := agV60.up hV61 rfl
                          refine lv_aload_n hx hb dX12_toldComponent_283 rfl (lv_at hl 3 rfl) ?_
                          refine lv_iload_n hx hb dX12_toldComponent_284 rfl (lv_at hl 2 rfl) ?_
                          refine va_put (D := D) (ci := 12) (v := .int z5) (ty := tyX12 51) (C := RX12) (T := TX12) (N := 100) hx hb hg inX12 tyX12 tyX12_ok nmX12 hown hK hP hD hS 0 rfl rfl 51 (by decide) (hg _ w1757) (fun _ h9 => h9) rfl (tyX12_ok 51 (by decide)) rfl rfl (Nat.le_of_ble_eq_true rfl) dX12_toldComponent_285 (fun H locs hP hD hS => ?_)
                          obtain ⟨V62, hV62⟩ : ∃ z, z = up2 V61 0 51 z5 := ⟨_, rfl⟩
                          have hP : va_P D vwCl (mw ad kk ks.1 V62 L54) H := by rw [hV62]; exact hP
                          have hD : va_D A (mw ad kk ks.1 V62 L54) := by rw [hV62]; exact hD
                          have hMV62 : rgd bM V62 := hMV61.put hV62 (show (-1) ≤ z5.toInt ∧ z5.toInt ≤ 47 from by omega)
                          have agV62 : agr [(0, 7), (0, 8), (0, 48), (0, 50), (0, 51), (0, 52)] [15, 19, 20, 21, 22, 23, 24, 25, 26, 27, 28, 29, 30, 31, 32, 33, 34, 35, 36, 37, 38, 45, 46, 47, 53] V V62 := agV61.up hV62 rfl
                          refine lv_aload_n hx hb dX12_toldComponent_288 rfl (lv_at hl 3 rfl) ?_
                          refine lv_iconst (v := 0) hx hb dX12_toldComponent_289 (by decide) ?_
                          refine va_put (D := D) (ci := 12) (v := .int 0) (ty := tyX12 52) (C := RX12) (T := TX12) (N := 100) hx hb hg inX12 tyX12 tyX12_ok nmX12 hown hK hP hD hS 0 rfl rfl 52 (by decide) (hg _ w1758) (fun _ h9 => h9) rfl (tyX12_ok 52 (by decide)) rfl rfl (Nat.le_of_ble_eq_true rfl) dX12_toldComponent_290 (fun H locs hP hD hS => ?_)
                          obtain ⟨V63, hV63⟩ : ∃ z, z = up2 V62 0 52 0 := ⟨_, rfl⟩
                          have hP : va_P D vwCl (mw ad kk ks.1 V63 L54) H := by rw [hV63]; exact hP
                          have hD : va_D A (mw ad kk ks.1 V63 L54) := by rw [hV63]; exact hD
                          have hMV63 : rgd bM V63 := hMV62.put hV63 (by decide)
                          have agV63 : agr [(0, 7), (0, 8), (0, 48), (0, 50), (0, 51), (0, 52)] [15, 19, 20, 21, 22, 23, 24, 25, 26, 27, 28, 29, 30, 31, 32, 33, 34, 35, 36, 37, 38, 45, 46, 47, 53] V V63 := agV62.up hV63 rfl
                          refine lv_aload_n hx hb dX12_toldComponent_293 rfl (lv_at hl 3 rfl) ?_
                          refine lv_bipush (v := 123) hx hb dX12_toldComponent_294 (by decide) ?_
                          have rl64 : RelM V63 L54 bq gn gT s1 (gs.2.1 2) := RelM.ag r1 (show agr [(0, 51), (0, 52)] [27, 32, 33] V53 V63 from (agr.up (agr.up (agr.up (agr.up (agr.up agr.rf hV59 rfl) hV60 rfl) hV61 rfl) hV62 rfl) hV63 rfl)) (by decide) (show agL [] L54 L54 from agL.rf) (by decide)
                          have r65 : Int32.toInt 123 = 123 := by decide
                          refine gA_void (gA_runV (As := [.int 123]) (rest := []) (ci := 12) (q0 := 0) hx hb hml hown hg hP hD hK hS hA hnw hgk (s_takeSignA l D ks H.size ad kk V63 L54 123 (bq) (gn) (gT) (s1) ((gs.2.1 2)) hMV63 rl64 (sg_yes (j := 123) (by decide) (by decide) (by decide))) w2075 w2077 w96 w172 w2078 rfl rfl hdV_yX12_takeSign ⟨Nat.le_of_ble_eq_true rfl, Nat.le_of_ble_eq_true rfl⟩ rfl hl.1 rfl (Nat.le_of_ble_eq_true rfl) dX12_toldComponent_296 ⟨Nat.le_of_ble_eq_true rfl, Nat.le_of_ble_eq_true rfl⟩) hP hD hK hS hA (fun u67 H locs w68 hP hD hK hS => ?_)
                          obtain ⟨V70, L71⟩ := u67
                          obtain ⟨hMV70, ajV70, axL71, t69⟩ := w68
                          have axL71 : L54 = L71 := Eq.symm axL71
                          subst axL71
                          have hP : va_P D vwCl (mw ad kk ks.1 V70 L54) H := hP
                          have hD : va_D A (mw ad kk ks.1 V70 L54) := hD
                          have hMV70 : rgd bM V70 := hMV70
                          have ajV70 : agr [(0, 7), (0, 8)] [] V63 V70 := ajV70
                          have agV70 : agr [(0, 7), (0, 8), (0, 48), (0, 50), (0, 51), (0, 52)] [15, 19, 20, 21, 22, 23, 24, 25, 26, 27, 28, 29, 30, 31, 32, 33, 34, 35, 36, 37, 38, 45, 46, 47, 53] V V70 := agV63.tr ajV70 (by decide) (by decide)
                          have t69 : ((V70 0 8).toInt = 0 ∧ (gT).1 ((s1).1 0) = (Int32.toInt 123) ∧ RelM V70 L54 (bq) (gn) (gT) (nx (s1) 1) ((gs.2.1 2))) ∨ (1 ≤ (V70 0 8).toInt ∧ (gT).1 ((s1).1 0) ≠ (Int32.toInt 123) ∧ (V70 0 8).toInt = 1 + 16 * (gT).2.2 ((s1).1 0)) := t69
                          rcases t69 with ⟨q72, h73, rl74⟩ | ⟨q72, h73, rl74⟩
                          · skip
                            have kd75 : gT.1 (s1.1 0) = 123 := h73.trans (by decide)
                            have hr76 : ∀ k, Rc gT (Crun gs (Istmt :: k)) (Crun (nx s1 1) (IaddNm wx32 :: Imember :: k)) := fun k => Rc.go1 (h1 k) (tk_y kd75)
                            have ps77 : (nx s1 1).1 0 = s1.1 0 + 1 := rfl
                            have fz78 := RelM.rg rl74
                            have r79 : 0 ≤ ((V70 0 8)).toInt ∧ ((V70 0 8)).toInt ≤ 70000 := hMV70 0 8
                            have rl80 : RelM V70 L54 bq gn gT (sA (nx s1 1) 2 wx32) (gs.2.1 2) := RelM.ad2 rl74
                            have hr81 : ∀ k, Rc gT (Crun gs (Istmt :: k)) (Crun (sA (nx s1 1) 2 wx32) (Imember :: k)) := fun k => Rc.go1 (hr76 k) (m_addNm wx32)
                            have ow82 : OWm V70 gc (sA (nx s1 1) 2 wx32) := OWm.fresh (keepS.tr (keepS.tr (keepS.rf : keepS (scopeS s0) 0 (scopeS s0)) k1) (keepS.n1 1)) (by have h9 : V70 27 (Int32.toNatClampNeg z5) = 0 := ((ajV70 27 (Int32.toNatClampNeg z5) rfl).trans ((up2_o hV63 (by decide)).trans ((up2_o hV62 (by decide)).trans ((up2_o hV61 (by decide)).trans ((up2_o hV60 (by decide)).trans (up2_s hV59)))))); rw [kgc] at h9; rw [h9]; decide) (by have h9 : V70 32 (Int32.toNatClampNeg z5) = (-1) := ((ajV70 32 (Int32.toNatClampNeg z5) rfl).trans ((up2_o hV63 (by decide)).trans ((up2_o hV62 (by decide)).trans ((up2_o hV61 (by decide)).trans (up2_s hV60))))); rw [kgc] at h9; rw [h9]; decide) (by have h9 : V70 33 (Int32.toNatClampNeg z5) = (-1) := ((ajV70 33 (Int32.toNatClampNeg z5) rfl).trans ((up2_o hV63 (by decide)).trans ((up2_o hV62 (by decide)).trans (up2_s hV61)))); rw [kgc] at h9; rw [h9]; decide) (fun q hq => by rw [(show agr [(0, 7), (0, 8), (0, 51), (0, 52)] [15, 21, 22, 23, 24, 25, 26, 27, 32, 33, 35, 36, 37, 38, 53] V47 V70 from (agr.tr (agr.up (agr.up (agr.up (agr.up (agr.up (agr.tr agr.rf ajV53 (by decide) (by decide)) hV59 rfl) hV60 rfl) hV61 rfl) hV62 rfl) hV63 rfl) ajV70 (by decide) (by decide))) 34 _ rfl]; exact r351 q hq) wx32
                            have tb7 : (sA (nx s1 1) 2 wx32).2.1 2 = gs.2.1 2 ++ [wx32] := by show (nx s1 1).2.1 2 ++ [wx32] = _; rw [((((keepS.n1 1)).2.2.1 2 (by decide)).trans t1)]
                            have wr7 : (sA (nx s1 1) 2 wx32).2.2.1 = gs.2.2.1 := ((rfl : (sA (nx s1 1) 2 wx32).2.2.1 = (nx s1 1).2.2.1).trans ((congrArg (fun q9 => q9.1) ((keepS.n1 1)).2.2.2).trans w1))
                            have ps83 : s1.1 0 + 1 ≤ (nx s1 1).1 0 := ((keepS.n1 1)).1
                            have ps84 : (sA (nx s1 1) 2 wx32).1 0 = (nx s1 1).1 0 := rfl
                            have gp7 : gs.1 0 + 1 ≤ (sA (nx s1 1) 2 wx32).1 0 := (by omega)
                            have lp88 : ∀ (fulp88 : Nat) (g87 : Int) (V85 : Vf) (L86 : Lf) (H : Heap) (locs : List Loc) (ls : Array Slot), (((V85 0 8).toInt = 0 ∧ ∃ s1 : St, (∀ k, Rc gT (Crun gs (Istmt :: k)) (Crun s1 (Imember :: k))) ∧ RelM V85 L86 bq gn gT s1 (gs.2.1 2) ∧ gs.1 0 + 1 ≤ s1.1 0 ∧ OWm V85 gc s1 ∧ s1.2.1 2 = gs.2.1 2 ++ [wx32] ∧ s1.2.2.1 = gs.2.2.1) ∨ (1 ≤ (V85 0 8).toInt ∧ ∀ k, Rc gT (Crun gs (Istmt :: k)) (Cbad (V85 0 8).toInt))) → 0 ≤ g87 → Imp ((V85 0 8).toInt = 0) ((gn : Int) - (V85 0 7).toInt < g87) → Imp ((V85 0 8).toInt = 0) ((V85 0 48).toInt ≤ 2 * (V85 0 7).toInt) → (V85 0 48).toInt ≤ 8120 → (V85 0 51).toInt = z5.toInt → (V85 0 52).toInt = 0 → Imp (1 ≤ (V70 0 8).toInt) ((V85 0 8).toInt = (V70 0 8).toInt) → g87 < (fulp88 : Int) → agL [15, 19, 20, 21, 22, 23, 24, 25, 26, 27, 28, 29, 30, 31, 32, 33, 34, 35, 36, 37, 38, 45, 46, 47, 53] L L86 → agr [(0, 7), (0, 8), (0, 48), (0, 50)] [27, 28, 29, 30, 31, 32, 33, 34, 35, 36, 37, 38, 45, 46, 47] V70 V85 → rgd bM V85 → va_P D vwCl (mw ad kk ks.1 V85 L86) H → va_D A (mw ad kk ks.1 V85 L86) → va_S A s.heap H locs → lv_has ls 5 [(4, .int y46), (2, .long z25), (1, .int z5), (0, .ref (ad 0))] → W p l e r_s_toldComponentA s m ([.ref (ad 0)] : List Value).toArray below meth c H locs 0 0 (MQ below (q_s_toldComponentA D ks ad kk V L  bq gn gT gs A) ([.ref (ad 0)] : List Value).toArray s 0 0 A) (F0 m 299 ls []) := by
                              (try clear ps84); (try clear ps83); (try clear hr81); (try clear rl80); (try clear fz78); (try clear ps77); (try clear hr76); (try clear kd75); (try clear rl64); (try clear fz57); (try clear fz39); (try clear ps38); (try clear hr37); (try clear fz21); (try clear ps20); (try clear hr19); (try clear hr18)
                              intro fulp88
                              induction fulp88 with
                              | zero =>
                                intro g87 V85 L86 H locs ls xlp88_0 xlp88_1 xlp88_2 xlp88_3 xlp88_4 xlp88_5 xlp88_6 xlp88_7 hn alL86 ajV85 hMV85 hP hD hS hl
                                exfalso; omega
                              | succ fulp88 ihlp88 =>
                                intro g87 V85 L86 H locs ls xlp88_0 xlp88_1 xlp88_2 xlp88_3 xlp88_4 xlp88_5 xlp88_6 xlp88_7 hn alL86 ajV85 hMV85 hP hD hS hl
                                have agV85 : agr [(0, 7), (0, 8), (0, 48), (0, 50), (0, 51), (0, 52)] [15, 19, 20, 21, 22, 23, 24, 25, 26, 27, 28, 29, 30, 31, 32, 33, 34, 35, 36, 37, 38, 45, 46, 47, 53] V V85 := agV70.tr ajV85 (by decide) (by decide)
                                have r89 : 0 ≤ ((V85 0 8)).toInt ∧ ((V85 0 8)).toInt ≤ 70000 := hMV85 0 8
                                have r90 : 0 ≤ ((V85 0 48)).toInt ∧ ((V85 0 48)).toInt ≤ 10000 := hMV85 0 48
                                have pq91 : (V85 0 51).toInt = z5.toInt := congrArg Int32.toInt ((ajV85 0 51 rfl).trans ((ajV70 0 51 rfl).trans ((up2_k hV63 (by decide)).trans (up2_s hV62))))
                                have pq92 : (V85 0 52).toInt = 0 := (congrArg Int32.toInt ((ajV85 0 52 rfl).trans ((ajV70 0 52 rfl).trans (up2_s hV63)))).trans (by decide)
                                refine lv_aload_n hx hb dX12_toldComponent_299 rfl (lv_at hl 3 rfl) ?_
                                rcases xlp88_0 with ⟨f8, s1, hq, rq, gq1, oq, tq, wq⟩ | ⟨f8, hq⟩
                                · skip
                                  have fz93 := RelM.rg rq
                                  refine va_get (D := D) (ci := 12) (v := .int (V85 0 8)) (C := RX12) (T := TX12) (N := 100) hx hb hg inX12 hown hK hP 0 rfl rfl 8 (by decide) (hg _ w1714) (fun _ h9 => h9) rfl dX12_toldComponent_300 ?_
                                  refine lv_if_ne (tgt := 323) hx hb dX12_toldComponent_303 (by decide) (fun c94 => ?_) (fun c94 => ?_)
                                  · skip
                                    have f95 : ((V85 0 8)).toInt ≠ 0 := b_neq rfl (by decide) c94
                                    exfalso; first | omega | ((try (have i_xlp88_7 := Imp.go xlp88_7 (by omega))); (try (have i_xlp88_3 := Imp.go xlp88_3 (by omega))); (try (have i_xlp88_2 := Imp.go xlp88_2 (by omega))); (try (have i_xlp88_2 := Imp.go xlp88_2 (by omega))); (try (have i_xlp88_3 := Imp.go xlp88_3 (by omega))); (try (have i_xlp88_7 := Imp.go xlp88_7 (by omega))); omega)
                                  · skip
                                    have f96 : ((V85 0 8)).toInt = 0 := b_eq rfl (by decide) c94
                                    refine lv_aload_n hx hb dX12_toldComponent_306 rfl (lv_at hl 3 rfl) ?_
                                    refine lv_bipush (v := 125) hx hb dX12_toldComponent_307 (by decide) ?_
                                    have r97 : Int32.toInt 125 = 125 := by decide
                                    refine gA_int (gA_runV (As := [.int 125]) (rest := []) (ci := 12) (q0 := 0) hx hb hml hown hg hP hD hK hS hA hnw hgk (s_isSignA l D ks H.size ad kk V85 L86 125 (bq) (gn) (gT) (s1) ((gs.2.1 2)) hMV85 rq (sg_yes (j := 125) (by decide) (by decide) (by decide))) w2071 w2073 w95 w172 w2074 rfl rfl hdV_yX12_isSign ⟨Nat.le_of_ble_eq_true rfl, Nat.le_of_ble_eq_true rfl⟩ rfl hl.1 rfl (Nat.le_of_ble_eq_true rfl) dX12_toldComponent_309 ⟨Nat.le_of_ble_eq_true rfl, Nat.le_of_ble_eq_true rfl⟩) hP hD hK hS hA (fun z98 u99 H locs w100 hP hD hK hS => ?_)
                                    obtain ⟨rgz98, t101⟩ := w100
                                    have rgz98 : 0 ≤ z98.toInt ∧ z98.toInt ≤ 1 := rgz98
                                    have t101 : (z98.toInt = 1 ∧ (gT).1 ((s1).1 0) = (Int32.toInt 125)) ∨ (z98.toInt = 0 ∧ (gT).1 ((s1).1 0) ≠ (Int32.toInt 125)) := t101
                                    rcases t101 with ⟨q102, h103⟩ | ⟨q102, h103⟩
                                    · skip
                                      have kd104 : gT.1 (s1.1 0) = 125 := h103.trans (by decide)
                                      refine lv_if_ne (tgt := 323) hx hb dX12_toldComponent_312 (by decide) (fun c105 => ?_) (fun c105 => ?_)
                                      · skip
                                        have f106 : z98.toInt ≠ 0 := b_neq rfl (by decide) c105
                                        refine lv_aload_n hx hb dX12_toldComponent_323 rfl (lv_at hl 3 rfl) ?_
                                        refine lv_bipush (v := 125) hx hb dX12_toldComponent_324 (by decide) ?_
                                        refine gA_void (gA_runV (As := [.int 125]) (rest := []) (ci := 12) (q0 := 0) hx hb hml hown hg hP hD hK hS hA hnw hgk (s_takeSignA l D ks H.size ad kk V85 L86 125 (bq) (gn) (gT) (s1) ((gs.2.1 2)) hMV85 rq (sg_yes (j := 125) (by decide) (by decide) (by decide))) w2075 w2077 w96 w172 w2078 rfl rfl hdV_yX12_takeSign ⟨Nat.le_of_ble_eq_true rfl, Nat.le_of_ble_eq_true rfl⟩ rfl hl.1 rfl (Nat.le_of_ble_eq_true rfl) dX12_toldComponent_326 ⟨Nat.le_of_ble_eq_true rfl, Nat.le_of_ble_eq_true rfl⟩) hP hD hK hS hA (fun u108 H locs w109 hP hD hK hS => ?_)
                                        obtain ⟨V111, L112⟩ := u108
                                        obtain ⟨hMV111, ajV111, axL112, t110⟩ := w109
                                        have axL112 : L86 = L112 := Eq.symm axL112
                                        subst axL112
                                        have hP : va_P D vwCl (mw ad kk ks.1 V111 L86) H := hP
                                        have hD : va_D A (mw ad kk ks.1 V111 L86) := hD
                                        have hMV111 : rgd bM V111 := hMV111
                                        have ajV111 : agr [(0, 7), (0, 8)] [] V85 V111 := ajV111
                                        have agV111 : agr [(0, 7), (0, 8), (0, 48), (0, 50), (0, 51), (0, 52)] [15, 19, 20, 21, 22, 23, 24, 25, 26, 27, 28, 29, 30, 31, 32, 33, 34, 35, 36, 37, 38, 45, 46, 47, 53] V V111 := agV85.tr ajV111 (by decide) (by decide)
                                        have t110 : ((V111 0 8).toInt = 0 ∧ (gT).1 ((s1).1 0) = (Int32.toInt 125) ∧ RelM V111 L86 (bq) (gn) (gT) (nx (s1) 1) ((gs.2.1 2))) ∨ (1 ≤ (V111 0 8).toInt ∧ (gT).1 ((s1).1 0) ≠ (Int32.toInt 125) ∧ (V111 0 8).toInt = 1 + 16 * (gT).2.2 ((s1).1 0)) := t110
                                        rcases t110 with ⟨q113, h114, rl115⟩ | ⟨q113, h114, rl115⟩
                                        · skip
                                          have kd116 : gT.1 (s1.1 0) = 125 := h114.trans (by decide)
                                          have fz117 := RelM.rg rl115
                                          have r118 : 0 ≤ ((V111 0 8)).toInt ∧ ((V111 0 8)).toInt ≤ 70000 := hMV111 0 8
                                          have hr119 : ∀ k, Rc gT (Crun gs (Istmt :: k)) (Crun (nx s1 1) (Istmt :: k)) := fun k => Rc.go1 (hq k) (mb_125 kd116)
                                          refine lv_aload_n hx hb dX12_toldComponent_329 rfl (lv_at hl 3 rfl) ?_
                                          refine va_get (D := D) (ci := 12) (v := .int (V111 0 8)) (C := RX12) (T := TX12) (N := 100) hx hb hg inX12 hown hK hP 0 rfl rfl 8 (by decide) (hg _ w1714) (fun _ h9 => h9) rfl dX12_toldComponent_330 ?_
                                          refine lv_if_le (tgt := 337) hx hb dX12_toldComponent_333 (by decide) (fun c120 => ?_) (fun c120 => ?_)
                                          · skip
                                            have f121 : ((V111 0 8)).toInt ≤ 0 := b_le rfl (by decide) c120
                                            refine lv_aload_n hx hb dX12_toldComponent_337 rfl (lv_at hl 3 rfl) ?_
                                            refine va_get (D := D) (ci := 12) (v := .ref (ad 20)) (C := RX12) (T := TX12) (N := 100) hx hb hg inX12 hown hK hP 0 rfl rfl 20 (by decide) (hg _ w1726) (fun _ h9 => h9) rfl dX12_toldComponent_338 ?_
                                            refine lv_iload_n hx hb dX12_toldComponent_341 rfl (lv_at hl 2 rfl) ?_
                                            refine lv_lload_n hx hb dX12_toldComponent_342 rfl (lv_at hl 1 rfl) ?_
                                            refine va_last (D := D) (i := z5) (x := z25) hx hb hK hP hD hS 13 12 rfl rfl (i_in (a := z5.toInt) rfl (by first | exact ⟨z5r, z5s⟩ | omega | ((try (have i_xlp88_7 := Imp.go xlp88_7 (by omega))); (try (have i_xlp88_3 := Imp.go xlp88_3 (by omega))); (try (have i_xlp88_2 := Imp.go xlp88_2 (by omega))); (try (have i_xlp88_2 := Imp.go xlp88_2 (by omega))); (try (have i_xlp88_3 := Imp.go xlp88_3 (by omega))); (try (have i_xlp88_7 := Imp.go xlp88_7 (by omega))); omega))) dX12_toldComponent_343 (fun H locs hP hD hS => ?_)
                                            obtain ⟨L122, hL122⟩ : ∃ z, z = upL L86 20 (Int32.toNatClampNeg z5) z25 := ⟨_, rfl⟩
                                            have hP : va_P D vwCl (mw ad kk ks.1 V111 L122) H := by rw [hL122]; exact hP
                                            have hD : va_D A (mw ad kk ks.1 V111 L122) := by rw [hL122]; exact hD
                                            have alL122 : agL [15, 19, 20, 21, 22, 23, 24, 25, 26, 27, 28, 29, 30, 31, 32, 33, 34, 35, 36, 37, 38, 45, 46, 47, 53] L L122 := agL.up alL86 hL122 rfl
                                            refine lv_aload_n hx hb dX12_toldComponent_344 rfl (lv_at hl 3 rfl) ?_
                                            refine va_get (D := D) (ci := 12) (v := .ref (ad 19)) (C := RX12) (T := TX12) (N := 100) hx hb hg inX12 hown hK hP 0 rfl rfl 19 (by decide) (hg _ w1725) (fun _ h9 => h9) rfl dX12_toldComponent_345 ?_
                                            refine lv_aload_n hx hb dX12_toldComponent_348 rfl (lv_at hl 3 rfl) ?_
                                            refine va_get (D := D) (ci := 12) (v := .int (V111 0 12)) (C := RX12) (T := TX12) (N := 100) hx hb hg inX12 hown hK hP 0 rfl rfl 12 (by decide) (hg _ w1718) (fun _ h9 => h9) rfl dX12_toldComponent_349 ?_
                                            refine g_top (v := (V 0 12)) ((ajV111 0 12 rfl).trans ((ajV85 0 12 rfl).trans ((ajV70 0 12 rfl).trans ((up2_k hV63 (by decide)).trans ((up2_k hV62 (by decide)).trans ((up2_o hV61 (by decide)).trans ((up2_o hV60 (by decide)).trans ((up2_o hV59 (by decide)).trans ((ajV53 0 12 rfl).trans ((ajV47 0 12 rfl).trans ((ajV42 0 12 rfl).trans ((ajV29 0 12 rfl).trans (ajV13 0 12 rfl))))))))))))) ?_
                                            refine lv_dup2_11 hx hb dX12_toldComponent_352 rfl rfl ?_
                                            refine va_iald (D := D) (i := (V 0 12)) hx hb hK hP 12 11 rfl rfl (i_in (a := ((V 0 12)).toInt) rfl (by first | omega | ((try (have i_xlp88_7 := Imp.go xlp88_7 (by omega))); (try (have i_xlp88_3 := Imp.go xlp88_3 (by omega))); (try (have i_xlp88_2 := Imp.go xlp88_2 (by omega))); (try (have i_xlp88_2 := Imp.go xlp88_2 (by omega))); (try (have i_xlp88_3 := Imp.go xlp88_3 (by omega))); (try (have i_xlp88_7 := Imp.go xlp88_7 (by omega))); omega))) dX12_toldComponent_353 ?_
                                            refine g_top (v := (V 19 (Int32.toNatClampNeg (V 0 12)))) ((ajV111 19 (Int32.toNatClampNeg (V 0 12)) rfl).trans ((ajV85 19 (Int32.toNatClampNeg (V 0 12)) rfl).trans ((ajV70 19 (Int32.toNatClampNeg (V 0 12)) rfl).trans ((up2_o hV63 (by decide)).trans ((up2_o hV62 (by decide)).trans ((up2_o hV61 (by decide)).trans ((up2_o hV60 (by decide)).trans ((up2_o hV59 (by decide)).trans ((ajV53 19 (Int32.toNatClampNeg (V 0 12)) rfl).trans ((ajV47 19 (Int32.toNatClampNeg (V 0 12)) rfl).trans ((ajV42 19 (Int32.toNatClampNeg (V 0 12)) rfl).trans ((ajV29 19 (Int32.toNatClampNeg (V 0 12)) rfl).trans (ajV13 19 (Int32.toNatClampNeg (V 0 12)) rfl))))))))))))) ?_
                                            refine lv_iconst (v := 1) hx hb dX12_toldComponent_354 (by decide) ?_
                                            refine lv_iadd hx hb dX12_toldComponent_355 ?_
                                            refine lv_topi (fun z123 ez123 => ?_)
                                            have hz123 : z123.toInt = ((V 19 (Int32.toNatClampNeg (V 0 12)))).toInt + 1 := i_add ez123 rfl (by decide) (by omega)
                                            refine va_iast (D := D) (i := (V 0 12)) (x := z123) hx hb hK hP hD hS 12 11 rfl rfl (i_in (a := ((V 0 12)).toInt) rfl (by first | omega | ((try (have i_xlp88_7 := Imp.go xlp88_7 (by omega))); (try (have i_xlp88_3 := Imp.go xlp88_3 (by omega))); (try (have i_xlp88_2 := Imp.go xlp88_2 (by omega))); (try (have i_xlp88_2 := Imp.go xlp88_2 (by omega))); (try (have i_xlp88_3 := Imp.go xlp88_3 (by omega))); (try (have i_xlp88_7 := Imp.go xlp88_7 (by omega))); omega))) dX12_toldComponent_356 (fun H locs hP hD hS => ?_)
                                            obtain ⟨V124, hV124⟩ : ∃ z, z = up2 V111 19 (Int32.toNatClampNeg (V 0 12)) z123 := ⟨_, rfl⟩
                                            have hP : va_P D vwCl (mw ad kk ks.1 V124 L122) H := by rw [hV124]; exact hP
                                            have hD : va_D A (mw ad kk ks.1 V124 L122) := by rw [hV124]; exact hD
                                            have hMV124 : rgd bM V124 := hMV111.put hV124 (show 0 ≤ z123.toInt ∧ z123.toInt ≤ 24 from by first | omega | ((try (have i_xlp88_7 := Imp.go xlp88_7 (by omega))); (try (have i_xlp88_3 := Imp.go xlp88_3 (by omega))); (try (have i_xlp88_2 := Imp.go xlp88_2 (by omega))); (try (have i_xlp88_2 := Imp.go xlp88_2 (by omega))); (try (have i_xlp88_3 := Imp.go xlp88_3 (by omega))); (try (have i_xlp88_7 := Imp.go xlp88_7 (by omega))); omega))
                                            have agV124 : agr [(0, 7), (0, 8), (0, 48), (0, 50), (0, 51), (0, 52)] [15, 19, 20, 21, 22, 23, 24, 25, 26, 27, 28, 29, 30, 31, 32, 33, 34, 35, 36, 37, 38, 45, 46, 47, 53] V V124 := agV111.up hV124 rfl
                                            have cq9 : (Int32.toNatClampNeg (V 0 12)) = bq := by have h9 := RelM.cq rl115; have h8 : V111 0 12 = (V 0 12) := ((ajV111 0 12 rfl).trans ((ajV85 0 12 rfl).trans ((ajV70 0 12 rfl).trans ((up2_k hV63 (by decide)).trans ((up2_k hV62 (by decide)).trans ((up2_o hV61 (by decide)).trans ((up2_o hV60 (by decide)).trans ((up2_o hV59 (by decide)).trans ((ajV53 0 12 rfl).trans ((ajV47 0 12 rfl).trans ((ajV42 0 12 rfl).trans ((ajV29 0 12 rfl).trans (ajV13 0 12 rfl))))))))))))); rw [h8] at h9; exact h9
                                            have hv9 := hV124
                                            rw [cq9] at hv9
                                            have pq125 : (V111 19 bq).toInt = ((V 19 bq)).toInt := congrArg Int32.toInt ((ajV111 19 bq rfl).trans ((ajV85 19 bq rfl).trans ((ajV70 19 bq rfl).trans ((up2_o hV63 (by decide)).trans ((up2_o hV62 (by decide)).trans ((up2_o hV61 (by decide)).trans ((up2_o hV60 (by decide)).trans ((up2_o hV59 (by decide)).trans ((ajV53 19 bq rfl).trans ((ajV47 19 bq rfl).trans ((ajV42 19 bq rfl).trans ((ajV29 19 bq rfl).trans (ajV13 19 bq rfl)))))))))))))
                                            have r126 : 0 ≤ ((V 19 bq)).toInt ∧ ((V 19 bq)).toInt ≤ 24 := hMV 19 bq
                                            have cv9 : (V111 19 (Int32.toNatClampNeg (V 0 12))).toInt = (V111 19 bq).toInt := by rw [cq9]
                                            have pq127 : (V111 19 (Int32.toNatClampNeg (V 0 12))).toInt = ((V 19 (Int32.toNatClampNeg (V 0 12)))).toInt := congrArg Int32.toInt ((ajV111 19 (Int32.toNatClampNeg (V 0 12)) rfl).trans ((ajV85 19 (Int32.toNatClampNeg (V 0 12)) rfl).trans ((ajV70 19 (Int32.toNatClampNeg (V 0 12)) rfl).trans ((up2_o hV63 (by decide)).trans ((up2_o hV62 (by decide)).trans ((up2_o hV61 (by decide)).trans ((up2_o hV60 (by decide)).trans ((up2_o hV59 (by decide)).trans ((ajV53 19 (Int32.toNatClampNeg (V 0 12)) rfl).trans ((ajV47 19 (Int32.toNatClampNeg (V 0 12)) rfl).trans ((ajV42 19 (Int32.toNatClampNeg (V 0 12)) rfl).trans ((ajV29 19 (Int32.toNatClampNeg (V 0 12)) rfl).trans (ajV13 19 (Int32.toNatClampNeg (V 0 12)) rfl)))))))))))))
                                            have r13 : 0 ≤ (V111 19 bq).toInt := (hMV111 19 bq).1
                                            have fn9 : fndI (gs.2.1 2) wx32 = none := (told_i tn35).2.2
                                            have lg9 := RelM.len rl115
                                            have ra9 : RelM V124 L122 bq gn gT (nx s1 1) (gs.2.1 2 ++ [wx32]) := RelM.a2 (a := z5) rl115 fn9 (by rw [← hw36]; exact hL122) (by omega) hv9 (by omega) r13
                                            have rl128 : RelM V124 L122 bq gn gT (nx s1 1) ((nx s1 1).2.1 2) := by rw [show (nx s1 1).2.1 2 = gs.2.1 2 ++ [wx32] from tq]; exact ra9
                                            have fz129 := RelM.rg rl128
                                            have pq130 : (V124 0 8).toInt = ((V111 0 8)).toInt := congrArg Int32.toInt (up2_o hV124 (by decide))
                                            have pq131 : (V124 0 7).toInt = ((V111 0 7)).toInt := congrArg Int32.toInt (up2_o hV124 (by decide))
                                            have pq132 : (V124 0 48).toInt = ((V85 0 48)).toInt := congrArg Int32.toInt ((up2_o hV124 (by decide)).trans (ajV111 0 48 rfl))
                                            have pq133 : (V124 0 12).toInt = ((V 0 12)).toInt := congrArg Int32.toInt ((up2_o hV124 (by decide)).trans ((ajV111 0 12 rfl).trans ((ajV85 0 12 rfl).trans ((ajV70 0 12 rfl).trans ((up2_k hV63 (by decide)).trans ((up2_k hV62 (by decide)).trans ((up2_o hV61 (by decide)).trans ((up2_o hV60 (by decide)).trans ((up2_o hV59 (by decide)).trans ((ajV53 0 12 rfl).trans ((ajV47 0 12 rfl).trans ((ajV42 0 12 rfl).trans ((ajV29 0 12 rfl).trans (ajV13 0 12 rfl))))))))))))))
                                            have ps134 : gs.1 0 + 1 ≤ s1.1 0 := gq1
                                            have ps135 : s1.1 0 + 1 ≤ (nx s1 1).1 0 := ((keepS.n1 1)).1
                                            exact W.vret hx hb hr (fun t ht hW => ⟨⟨(V124, L122), rfl, ⟨hMV124, agV124, alL122, (Imp.mk (fun hp => have hp : (V124 0 8).toInt = 0 := hp; (show (V124 0 48).toInt ≤ 2 * (V124 0 7).toInt from by first | omega | ((try (have i_xlp88_7 := Imp.go xlp88_7 (by omega))); (try (have i_xlp88_3 := Imp.go xlp88_3 (by omega))); (try (have i_xlp88_2 := Imp.go xlp88_2 (by omega))); (try (have i_xlp88_2 := Imp.go xlp88_2 (by omega))); (try (have i_xlp88_3 := Imp.go xlp88_3 (by omega))); (try (have i_xlp88_7 := Imp.go xlp88_7 (by omega))); omega)))), (show (V124 0 48).toInt ≤ 8200 from by first | omega | ((try (have i_xlp88_7 := Imp.go xlp88_7 (by omega))); (try (have i_xlp88_3 := Imp.go xlp88_3 (by omega))); (try (have i_xlp88_2 := Imp.go xlp88_2 (by omega))); (try (have i_xlp88_2 := Imp.go xlp88_2 (by omega))); (try (have i_xlp88_3 := Imp.go xlp88_3 (by omega))); (try (have i_xlp88_7 := Imp.go xlp88_7 (by omega))); omega)), (show (V124 0 12).toInt = (V 0 12).toInt from by first | omega | ((try (have i_xlp88_7 := Imp.go xlp88_7 (by omega))); (try (have i_xlp88_3 := Imp.go xlp88_3 (by omega))); (try (have i_xlp88_2 := Imp.go xlp88_2 (by omega))); (try (have i_xlp88_2 := Imp.go xlp88_2 (by omega))); (try (have i_xlp88_3 := Imp.go xlp88_3 (by omega))); (try (have i_xlp88_7 := Imp.go xlp88_7 (by omega))); omega)), (Or.inl ⟨W0 rl128, (nx s1 1), hr119, rl128, (by omega), (ARm.mv arm wq)⟩)⟩, by rw [ht]; exact hP, va_K.moved hW.alike hK, hD⟩, hS.F ht⟩) hS.2.2 dX12_toldComponent_357
                                          · skip
                                            have f136 : 0 < ((V111 0 8)).toInt := b_nle rfl (by decide) c120
                                            exfalso; first | omega | ((try (have i_xlp88_7 := Imp.go xlp88_7 (by omega))); (try (have i_xlp88_3 := Imp.go xlp88_3 (by omega))); (try (have i_xlp88_2 := Imp.go xlp88_2 (by omega))); (try (have i_xlp88_2 := Imp.go xlp88_2 (by omega))); (try (have i_xlp88_3 := Imp.go xlp88_3 (by omega))); (try (have i_xlp88_7 := Imp.go xlp88_7 (by omega))); omega)
                                        · skip
                                          have kd137 : gT.1 (s1.1 0) ≠ 125 := fun h9 => h114 (h9.trans (by decide))
                                          exact absurd kd104 kd137
                                      · skip
                                        have f138 : z98.toInt = 0 := b_eq rfl (by decide) c105
                                        exfalso; first | omega | ((try (have i_xlp88_7 := Imp.go xlp88_7 (by omega))); (try (have i_xlp88_3 := Imp.go xlp88_3 (by omega))); (try (have i_xlp88_2 := Imp.go xlp88_2 (by omega))); (try (have i_xlp88_2 := Imp.go xlp88_2 (by omega))); (try (have i_xlp88_3 := Imp.go xlp88_3 (by omega))); (try (have i_xlp88_7 := Imp.go xlp88_7 (by omega))); omega)
                                    · skip
                                      have kd139 : gT.1 (s1.1 0) ≠ 125 := fun h9 => h103 (h9.trans (by decide))
                                      refine lv_if_ne (tgt := 323) hx hb dX12_toldComponent_312 (by decide) (fun c140 => ?_) (fun c140 => ?_)
                                      · skip
                                        have f141 : z98.toInt ≠ 0 := b_neq rfl (by decide) c140
                                        exfalso; first | omega | ((try (have i_xlp88_7 := Imp.go xlp88_7 (by omega))); (try (have i_xlp88_3 := Imp.go xlp88_3 (by omega))); (try (have i_xlp88_2 := Imp.go xlp88_2 (by omega))); (try (have i_xlp88_2 := Imp.go xlp88_2 (by omega))); (try (have i_xlp88_3 := Imp.go xlp88_3 (by omega))); (try (have i_xlp88_7 := Imp.go xlp88_7 (by omega))); omega)
                                      · skip
                                        have f142 : z98.toInt = 0 := b_eq rfl (by decide) c140
                                        refine lv_aload_n hx hb dX12_toldComponent_315 rfl (lv_at hl 3 rfl) ?_
                                        refine lv_iload_n hx hb dX12_toldComponent_316 rfl (lv_at hl 2 rfl) ?_
                                        refine gA_void (gA_runV (As := [.int z5]) (rest := []) (ci := 12) (q0 := 0) hx hb hml hown hg hP hD hK hS hA hnw hgk (s_memberA l D ks H.size ad kk V85 L86 z5 (bq) (gn) (gT) (s1) ((gs.2.1 2)) (gc) hMV85 (by first | omega | ((try (have i_xlp88_7 := Imp.go xlp88_7 (by omega))); (try (have i_xlp88_3 := Imp.go xlp88_3 (by omega))); (try (have i_xlp88_2 := Imp.go xlp88_2 (by omega))); (try (have i_xlp88_2 := Imp.go xlp88_2 (by omega))); (try (have i_xlp88_3 := Imp.go xlp88_3 (by omega))); (try (have i_xlp88_7 := Imp.go xlp88_7 (by omega))); omega)) rq (show z5.toInt = ((gc) : Int) from by first | omega | ((try (have i_xlp88_7 := Imp.go xlp88_7 (by omega))); (try (have i_xlp88_3 := Imp.go xlp88_3 (by omega))); (try (have i_xlp88_2 := Imp.go xlp88_2 (by omega))); (try (have i_xlp88_2 := Imp.go xlp88_2 (by omega))); (try (have i_xlp88_3 := Imp.go xlp88_3 (by omega))); (try (have i_xlp88_7 := Imp.go xlp88_7 (by omega))); omega)) (show (gc) < 48 from by first | omega | ((try (have i_xlp88_7 := Imp.go xlp88_7 (by omega))); (try (have i_xlp88_3 := Imp.go xlp88_3 (by omega))); (try (have i_xlp88_2 := Imp.go xlp88_2 (by omega))); (try (have i_xlp88_2 := Imp.go xlp88_2 (by omega))); (try (have i_xlp88_3 := Imp.go xlp88_3 (by omega))); (try (have i_xlp88_7 := Imp.go xlp88_7 (by omega))); omega)) oq kd139 (show (V85 0 51).toInt = ((gc) : Int) from by first | omega | ((try (have i_xlp88_7 := Imp.go xlp88_7 (by omega))); (try (have i_xlp88_3 := Imp.go xlp88_3 (by omega))); (try (have i_xlp88_2 := Imp.go xlp88_2 (by omega))); (try (have i_xlp88_2 := Imp.go xlp88_2 (by omega))); (try (have i_xlp88_3 := Imp.go xlp88_3 (by omega))); (try (have i_xlp88_7 := Imp.go xlp88_7 (by omega))); omega)) (show (V85 0 52).toInt = 0 from by first | omega | ((try (have i_xlp88_7 := Imp.go xlp88_7 (by omega))); (try (have i_xlp88_3 := Imp.go xlp88_3 (by omega))); (try (have i_xlp88_2 := Imp.go xlp88_2 (by omega))); (try (have i_xlp88_2 := Imp.go xlp88_2 (by omega))); (try (have i_xlp88_3 := Imp.go xlp88_3 (by omega))); (try (have i_xlp88_7 := Imp.go xlp88_7 (by omega))); omega)) (show (V85 0 48).toInt ≤ 2 * (V85 0 7).toInt from by first | omega | ((try (have i_xlp88_7 := Imp.go xlp88_7 (by omega))); (try (have i_xlp88_3 := Imp.go xlp88_3 (by omega))); (try (have i_xlp88_2 := Imp.go xlp88_2 (by omega))); (try (have i_xlp88_2 := Imp.go xlp88_2 (by omega))); (try (have i_xlp88_3 := Imp.go xlp88_3 (by omega))); (try (have i_xlp88_7 := Imp.go xlp88_7 (by omega))); omega))) w2104 w2106 w103 w172 w2107 rfl rfl hdV_yX12_member ⟨Nat.le_of_ble_eq_true rfl, Nat.le_of_ble_eq_true rfl⟩ rfl hl.1 rfl (Nat.le_of_ble_eq_true rfl) dX12_toldComponent_317 ⟨Nat.le_of_ble_eq_true rfl, Nat.le_of_ble_eq_true rfl⟩) hP hD hK hS hA (fun u144 H locs w145 hP hD hK hS => ?_)
                                        obtain ⟨V149, L150⟩ := u144
                                        obtain ⟨hMV149, ajV149, axL150, t146, t147, t148⟩ := w145
                                        have alL150 : agL [15, 19, 20, 21, 22, 23, 24, 25, 26, 27, 28, 29, 30, 31, 32, 33, 34, 35, 36, 37, 38, 45, 46, 47, 53] L L150 := agL.tr alL86 axL150 (by decide)
                                        have hP : va_P D vwCl (mw ad kk ks.1 V149 L150) H := hP
                                        have hD : va_D A (mw ad kk ks.1 V149 L150) := hD
                                        have hMV149 : rgd bM V149 := hMV149
                                        have ajV149 : agr [(0, 7), (0, 8), (0, 48), (0, 50)] [27, 28, 29, 30, 31, 32, 33, 34, 35, 36, 37, 38, 45, 46, 47] V85 V149 := ajV149
                                        have agV149 : agr [(0, 7), (0, 8), (0, 48), (0, 50), (0, 51), (0, 52)] [15, 19, 20, 21, 22, 23, 24, 25, 26, 27, 28, 29, 30, 31, 32, 33, 34, 35, 36, 37, 38, 45, 46, 47, 53] V V149 := agV85.tr ajV149 (by decide) (by decide)
                                        have t146 : Imp ((V149 0 8).toInt = 0) ((V149 0 48).toInt ≤ 2 * (V149 0 7).toInt) := t146
                                        have t147 : (V149 0 48).toInt ≤ 8120 := t147
                                        have t148 : RdM (gT) (s1) (fun k => Imember :: k) (fun k => Imember :: k) (V149 0 8).toInt (fun s9 => RelM V149 L150 (bq) (gn) (gT) s9 ((gs.2.1 2)) ∧ (s1).1 0 + 1 ≤ s9.1 0 ∧ OWm V149 (gc) s9 ∧ s9.2.1 2 = (s1).2.1 2 ∧ s9.2.2.1 = (s1).2.2.1) := t148
                                        have r151 : 0 ≤ ((V149 0 48)).toInt ∧ ((V149 0 48)).toInt ≤ 10000 := hMV149 0 48
                                        have r152 : 0 ≤ ((V149 0 8)).toInt ∧ ((V149 0 8)).toInt ≤ 70000 := hMV149 0 8
                                        rcases t148 with ⟨q153, sx154, h155, rl156, kp157⟩ | ⟨q153, h155⟩
                                        · skip
                                          have hr158 : ∀ k, Rc gT (Crun gs (Istmt :: k)) (Crun sx154 (Imember :: k)) := fun k => (hq k).tr (h155 (k))
                                          have fz159 := RelM.rg rl156
                                          have ps160 := (kp157).1
                                          refine lv_goto (tgt := 299) hx hb dX12_toldComponent_320 (by decide) ?_
                                          have pq161 : (V149 0 51).toInt = z5.toInt := congrArg Int32.toInt ((ajV149 0 51 rfl).trans ((ajV85 0 51 rfl).trans ((ajV70 0 51 rfl).trans ((up2_k hV63 (by decide)).trans (up2_s hV62)))))
                                          have pq162 : (V149 0 52).toInt = 0 := (congrArg Int32.toInt ((ajV149 0 52 rfl).trans ((ajV85 0 52 rfl).trans ((ajV70 0 52 rfl).trans (up2_s hV63))))).trans (by decide)
                                          exact ihlp88 (g87 - 1) V149 L150 H locs ls (Or.inl ⟨W0 rl156, sx154, hr158, rl156, (by omega), kp157.2.1, kp157.2.2.1.trans tq, kp157.2.2.2.trans wq⟩) (show 0 ≤ (g87 - 1) from by first | omega | ((try (have i_t146 := Imp.go t146 (by omega))); (try (have i_xlp88_7 := Imp.go xlp88_7 (by omega))); (try (have i_xlp88_3 := Imp.go xlp88_3 (by omega))); (try (have i_xlp88_2 := Imp.go xlp88_2 (by omega))); (try (have i_xlp88_2 := Imp.go xlp88_2 (by omega))); (try (have i_xlp88_3 := Imp.go xlp88_3 (by omega))); (try (have i_xlp88_7 := Imp.go xlp88_7 (by omega))); (try (have i_t146 := Imp.go t146 (by omega))); omega)) (Imp.mk (fun hp => have hp : (V149 0 8).toInt = 0 := hp; (show (gn : Int) - (V149 0 7).toInt < (g87 - 1) from by first | omega | ((try (have i_t146 := Imp.go t146 (by omega))); (try (have i_xlp88_7 := Imp.go xlp88_7 (by omega))); (try (have i_xlp88_3 := Imp.go xlp88_3 (by omega))); (try (have i_xlp88_2 := Imp.go xlp88_2 (by omega))); (try (have i_xlp88_2 := Imp.go xlp88_2 (by omega))); (try (have i_xlp88_3 := Imp.go xlp88_3 (by omega))); (try (have i_xlp88_7 := Imp.go xlp88_7 (by omega))); (try (have i_t146 := Imp.go t146 (by omega))); omega)))) (Imp.mk (fun hp => have hp : (V149 0 8).toInt = 0 := hp; (show (V149 0 48).toInt ≤ 2 * (V149 0 7).toInt from by first | omega | ((try (have i_t146 := Imp.go t146 (by omega))); (try (have i_xlp88_7 := Imp.go xlp88_7 (by omega))); (try (have i_xlp88_3 := Imp.go xlp88_3 (by omega))); (try (have i_xlp88_2 := Imp.go xlp88_2 (by omega))); (try (have i_xlp88_2 := Imp.go xlp88_2 (by omega))); (try (have i_xlp88_3 := Imp.go xlp88_3 (by omega))); (try (have i_xlp88_7 := Imp.go xlp88_7 (by omega))); (try (have i_t146 := Imp.go t146 (by omega))); omega)))) (show (V149 0 48).toInt ≤ 8120 from by first | omega | ((try (have i_t146 := Imp.go t146 (by omega))); (try (have i_xlp88_7 := Imp.go xlp88_7 (by omega))); (try (have i_xlp88_3 := Imp.go xlp88_3 (by omega))); (try (have i_xlp88_2 := Imp.go xlp88_2 (by omega))); (try (have i_xlp88_2 := Imp.go xlp88_2 (by omega))); (try (have i_xlp88_3 := Imp.go xlp88_3 (by omega))); (try (have i_xlp88_7 := Imp.go xlp88_7 (by omega))); (try (have i_t146 := Imp.go t146 (by omega))); omega)) (show (V149 0 51).toInt = z5.toInt from by first | omega | ((try (have i_t146 := Imp.go t146 (by omega))); (try (have i_xlp88_7 := Imp.go xlp88_7 (by omega))); (try (have i_xlp88_3 := Imp.go xlp88_3 (by omega))); (try (have i_xlp88_2 := Imp.go xlp88_2 (by omega))); (try (have i_xlp88_2 := Imp.go xlp88_2 (by omega))); (try (have i_xlp88_3 := Imp.go xlp88_3 (by omega))); (try (have i_xlp88_7 := Imp.go xlp88_7 (by omega))); (try (have i_t146 := Imp.go t146 (by omega))); omega)) (show (V149 0 52).toInt = 0 from by first | omega | ((try (have i_t146 := Imp.go t146 (by omega))); (try (have i_xlp88_7 := Imp.go xlp88_7 (by omega))); (try (have i_xlp88_3 := Imp.go xlp88_3 (by omega))); (try (have i_xlp88_2 := Imp.go xlp88_2 (by omega))); (try (have i_xlp88_2 := Imp.go xlp88_2 (by omega))); (try (have i_xlp88_3 := Imp.go xlp88_3 (by omega))); (try (have i_xlp88_7 := Imp.go xlp88_7 (by omega))); (try (have i_t146 := Imp.go t146 (by omega))); omega)) (Imp.mk (fun hp => have hp : 1 ≤ (V70 0 8).toInt := hp; (show (V149 0 8).toInt = (V70 0 8).toInt from by first | omega | ((try (have i_t146 := Imp.go t146 (by omega))); (try (have i_xlp88_7 := Imp.go xlp88_7 (by omega))); (try (have i_xlp88_3 := Imp.go xlp88_3 (by omega))); (try (have i_xlp88_2 := Imp.go xlp88_2 (by omega))); (try (have i_xlp88_2 := Imp.go xlp88_2 (by omega))); (try (have i_xlp88_3 := Imp.go xlp88_3 (by omega))); (try (have i_xlp88_7 := Imp.go xlp88_7 (by omega))); (try (have i_t146 := Imp.go t146 (by omega))); omega)))) (by first | omega | ((try (have i_t146 := Imp.go t146 (by omega))); (try (have i_xlp88_7 := Imp.go xlp88_7 (by omega))); (try (have i_xlp88_3 := Imp.go xlp88_3 (by omega))); (try (have i_xlp88_2 := Imp.go xlp88_2 (by omega))); (try (have i_xlp88_2 := Imp.go xlp88_2 (by omega))); (try (have i_xlp88_3 := Imp.go xlp88_3 (by omega))); (try (have i_xlp88_7 := Imp.go xlp88_7 (by omega))); (try (have i_t146 := Imp.go t146 (by omega))); omega)) alL150 (agr.tr (agr.tr agr.rf ajV85 (by decide) (by decide)) ajV149 (by decide) (by decide)) hMV149 hP hD hS (lv_sub hl [0, 1, 2, 3] rfl)
                                        · skip
                                          have hb163 : ∀ k, Rc gT (Crun gs (Istmt :: k)) (Cbad (V149 0 8).toInt) := fun k => (hq k).tr (h155 (k))
                                          refine lv_goto (tgt := 299) hx hb dX12_toldComponent_320 (by decide) ?_
                                          have pq164 : (V149 0 51).toInt = z5.toInt := congrArg Int32.toInt ((ajV149 0 51 rfl).trans ((ajV85 0 51 rfl).trans ((ajV70 0 51 rfl).trans ((up2_k hV63 (by decide)).trans (up2_s hV62)))))
                                          have pq165 : (V149 0 52).toInt = 0 := (congrArg Int32.toInt ((ajV149 0 52 rfl).trans ((ajV85 0 52 rfl).trans ((ajV70 0 52 rfl).trans (up2_s hV63))))).trans (by decide)
                                          exact ihlp88 (g87 - 1) V149 L150 H locs ls (Or.inr ⟨(show 1 ≤ (V149 0 8).toInt from by omega), hb163⟩) (show 0 ≤ (g87 - 1) from by first | omega | ((try (have i_t146 := Imp.go t146 (by omega))); (try (have i_xlp88_7 := Imp.go xlp88_7 (by omega))); (try (have i_xlp88_3 := Imp.go xlp88_3 (by omega))); (try (have i_xlp88_2 := Imp.go xlp88_2 (by omega))); (try (have i_xlp88_2 := Imp.go xlp88_2 (by omega))); (try (have i_xlp88_3 := Imp.go xlp88_3 (by omega))); (try (have i_xlp88_7 := Imp.go xlp88_7 (by omega))); (try (have i_t146 := Imp.go t146 (by omega))); omega)) (Imp.mk (fun hp => have hp : (V149 0 8).toInt = 0 := hp; (show (gn : Int) - (V149 0 7).toInt < (g87 - 1) from by first | omega | ((try (have i_t146 := Imp.go t146 (by omega))); (try (have i_xlp88_7 := Imp.go xlp88_7 (by omega))); (try (have i_xlp88_3 := Imp.go xlp88_3 (by omega))); (try (have i_xlp88_2 := Imp.go xlp88_2 (by omega))); (try (have i_xlp88_2 := Imp.go xlp88_2 (by omega))); (try (have i_xlp88_3 := Imp.go xlp88_3 (by omega))); (try (have i_xlp88_7 := Imp.go xlp88_7 (by omega))); (try (have i_t146 := Imp.go t146 (by omega))); omega)))) (Imp.mk (fun hp => have hp : (V149 0 8).toInt = 0 := hp; (show (V149 0 48).toInt ≤ 2 * (V149 0 7).toInt from by first | omega | ((try (have i_t146 := Imp.go t146 (by omega))); (try (have i_xlp88_7 := Imp.go xlp88_7 (by omega))); (try (have i_xlp88_3 := Imp.go xlp88_3 (by omega))); (try (have i_xlp88_2 := Imp.go xlp88_2 (by omega))); (try (have i_xlp88_2 := Imp.go xlp88_2 (by omega))); (try (have i_xlp88_3 := Imp.go xlp88_3 (by omega))); (try (have i_xlp88_7 := Imp.go xlp88_7 (by omega))); (try (have i_t146 := Imp.go t146 (by omega))); omega)))) (show (V149 0 48).toInt ≤ 8120 from by first | omega | ((try (have i_t146 := Imp.go t146 (by omega))); (try (have i_xlp88_7 := Imp.go xlp88_7 (by omega))); (try (have i_xlp88_3 := Imp.go xlp88_3 (by omega))); (try (have i_xlp88_2 := Imp.go xlp88_2 (by omega))); (try (have i_xlp88_2 := Imp.go xlp88_2 (by omega))); (try (have i_xlp88_3 := Imp.go xlp88_3 (by omega))); (try (have i_xlp88_7 := Imp.go xlp88_7 (by omega))); (try (have i_t146 := Imp.go t146 (by omega))); omega)) (show (V149 0 51).toInt = z5.toInt from by first | omega | ((try (have i_t146 := Imp.go t146 (by omega))); (try (have i_xlp88_7 := Imp.go xlp88_7 (by omega))); (try (have i_xlp88_3 := Imp.go xlp88_3 (by omega))); (try (have i_xlp88_2 := Imp.go xlp88_2 (by omega))); (try (have i_xlp88_2 := Imp.go xlp88_2 (by omega))); (try (have i_xlp88_3 := Imp.go xlp88_3 (by omega))); (try (have i_xlp88_7 := Imp.go xlp88_7 (by omega))); (try (have i_t146 := Imp.go t146 (by omega))); omega)) (show (V149 0 52).toInt = 0 from by first | omega | ((try (have i_t146 := Imp.go t146 (by omega))); (try (have i_xlp88_7 := Imp.go xlp88_7 (by omega))); (try (have i_xlp88_3 := Imp.go xlp88_3 (by omega))); (try (have i_xlp88_2 := Imp.go xlp88_2 (by omega))); (try (have i_xlp88_2 := Imp.go xlp88_2 (by omega))); (try (have i_xlp88_3 := Imp.go xlp88_3 (by omega))); (try (have i_xlp88_7 := Imp.go xlp88_7 (by omega))); (try (have i_t146 := Imp.go t146 (by omega))); omega)) (Imp.mk (fun hp => have hp : 1 ≤ (V70 0 8).toInt := hp; (show (V149 0 8).toInt = (V70 0 8).toInt from by first | omega | ((try (have i_t146 := Imp.go t146 (by omega))); (try (have i_xlp88_7 := Imp.go xlp88_7 (by omega))); (try (have i_xlp88_3 := Imp.go xlp88_3 (by omega))); (try (have i_xlp88_2 := Imp.go xlp88_2 (by omega))); (try (have i_xlp88_2 := Imp.go xlp88_2 (by omega))); (try (have i_xlp88_3 := Imp.go xlp88_3 (by omega))); (try (have i_xlp88_7 := Imp.go xlp88_7 (by omega))); (try (have i_t146 := Imp.go t146 (by omega))); omega)))) (by first | omega | ((try (have i_t146 := Imp.go t146 (by omega))); (try (have i_xlp88_7 := Imp.go xlp88_7 (by omega))); (try (have i_xlp88_3 := Imp.go xlp88_3 (by omega))); (try (have i_xlp88_2 := Imp.go xlp88_2 (by omega))); (try (have i_xlp88_2 := Imp.go xlp88_2 (by omega))); (try (have i_xlp88_3 := Imp.go xlp88_3 (by omega))); (try (have i_xlp88_7 := Imp.go xlp88_7 (by omega))); (try (have i_t146 := Imp.go t146 (by omega))); omega)) alL150 (agr.tr (agr.tr agr.rf ajV85 (by decide) (by decide)) ajV149 (by decide) (by decide)) hMV149 hP hD hS (lv_sub hl [0, 1, 2, 3] rfl)
                                · skip
                                  refine va_get (D := D) (ci := 12) (v := .int (V85 0 8)) (C := RX12) (T := TX12) (N := 100) hx hb hg inX12 hown hK hP 0 rfl rfl 8 (by decide) (hg _ w1714) (fun _ h9 => h9) rfl dX12_toldComponent_300 ?_
                                  refine lv_if_ne (tgt := 323) hx hb dX12_toldComponent_303 (by decide) (fun c166 => ?_) (fun c166 => ?_)
                                  · skip
                                    have f167 : ((V85 0 8)).toInt ≠ 0 := b_neq rfl (by decide) c166
                                    refine lv_aload_n hx hb dX12_toldComponent_323 rfl (lv_at hl 3 rfl) ?_
                                    refine lv_bipush (v := 125) hx hb dX12_toldComponent_324 (by decide) ?_
                                    have r168 : Int32.toInt 125 = 125 := by decide
                                    refine gA_void (gA_runV (As := [.int 125]) (rest := []) (ci := 12) (q0 := 0) hx hb hml hown hg hP hD hK hS hA hnw hgk (s_takeSignB l D ks H.size ad kk V85 L86 125 hMV85 (show 1 ≤ (V85 0 8).toInt from by first | omega | ((try (have i_xlp88_7 := Imp.go xlp88_7 (by omega))); (try (have i_xlp88_3 := Imp.go xlp88_3 (by omega))); (try (have i_xlp88_2 := Imp.go xlp88_2 (by omega))); (try (have i_xlp88_2 := Imp.go xlp88_2 (by omega))); (try (have i_xlp88_3 := Imp.go xlp88_3 (by omega))); (try (have i_xlp88_7 := Imp.go xlp88_7 (by omega))); omega))) w2075 w2077 w96 w172 w2078 rfl rfl hdV_yX12_takeSign ⟨Nat.le_of_ble_eq_true rfl, Nat.le_of_ble_eq_true rfl⟩ rfl hl.1 rfl (Nat.le_of_ble_eq_true rfl) dX12_toldComponent_326 ⟨Nat.le_of_ble_eq_true rfl, Nat.le_of_ble_eq_true rfl⟩) hP hD hK hS hA (fun u170 H locs w171 hP hD hK hS => ?_)
                                    obtain ⟨V173, L174⟩ := u170
                                    obtain ⟨hMV173, ajV173, axL174, t172⟩ := w171
                                    have axL174 : L86 = L174 := Eq.symm axL174
                                    subst axL174
                                    have hP : va_P D vwCl (mw ad kk ks.1 V173 L86) H := hP
                                    have hD : va_D A (mw ad kk ks.1 V173 L86) := hD
                                    have hMV173 : rgd bM V173 := hMV173
                                    have ajV173 : agr [(0, 7), (0, 8)] [] V85 V173 := ajV173
                                    have agV173 : agr [(0, 7), (0, 8), (0, 48), (0, 50), (0, 51), (0, 52)] [15, 19, 20, 21, 22, 23, 24, 25, 26, 27, 28, 29, 30, 31, 32, 33, 34, 35, 36, 37, 38, 45, 46, 47, 53] V V173 := agV85.tr ajV173 (by decide) (by decide)
                                    have t172 : (V173 0 8).toInt = (V85 0 8).toInt := t172
                                    have r175 : 0 ≤ ((V173 0 8)).toInt ∧ ((V173 0 8)).toInt ≤ 70000 := hMV173 0 8
                                    refine lv_aload_n hx hb dX12_toldComponent_329 rfl (lv_at hl 3 rfl) ?_
                                    refine va_get (D := D) (ci := 12) (v := .int (V173 0 8)) (C := RX12) (T := TX12) (N := 100) hx hb hg inX12 hown hK hP 0 rfl rfl 8 (by decide) (hg _ w1714) (fun _ h9 => h9) rfl dX12_toldComponent_330 ?_
                                    refine lv_if_le (tgt := 337) hx hb dX12_toldComponent_333 (by decide) (fun c176 => ?_) (fun c176 => ?_)
                                    · skip
                                      have f177 : ((V173 0 8)).toInt ≤ 0 := b_le rfl (by decide) c176
                                      exfalso; first | omega | ((try (have i_xlp88_7 := Imp.go xlp88_7 (by omega))); (try (have i_xlp88_3 := Imp.go xlp88_3 (by omega))); (try (have i_xlp88_2 := Imp.go xlp88_2 (by omega))); (try (have i_xlp88_2 := Imp.go xlp88_2 (by omega))); (try (have i_xlp88_3 := Imp.go xlp88_3 (by omega))); (try (have i_xlp88_7 := Imp.go xlp88_7 (by omega))); omega)
                                    · skip
                                      have f178 : 0 < ((V173 0 8)).toInt := b_nle rfl (by decide) c176
                                      have pq179 : (V173 0 48).toInt = ((V85 0 48)).toInt := congrArg Int32.toInt (ajV173 0 48 rfl)
                                      have pq180 : (V173 0 12).toInt = ((V 0 12)).toInt := congrArg Int32.toInt ((ajV173 0 12 rfl).trans ((ajV85 0 12 rfl).trans ((ajV70 0 12 rfl).trans ((up2_k hV63 (by decide)).trans ((up2_k hV62 (by decide)).trans ((up2_o hV61 (by decide)).trans ((up2_o hV60 (by decide)).trans ((up2_o hV59 (by decide)).trans ((ajV53 0 12 rfl).trans ((ajV47 0 12 rfl).trans ((ajV42 0 12 rfl).trans ((ajV29 0 12 rfl).trans (ajV13 0 12 rfl)))))))))))))
                                      exact W.vret hx hb hr (fun t ht hW => ⟨⟨(V173, L86), rfl, ⟨hMV173, agV173, alL86, (Imp.mk (fun hp => have hp : (V173 0 8).toInt = 0 := hp; (show (V173 0 48).toInt ≤ 2 * (V173 0 7).toInt from by first | omega | ((try (have i_xlp88_7 := Imp.go xlp88_7 (by omega))); (try (have i_xlp88_3 := Imp.go xlp88_3 (by omega))); (try (have i_xlp88_2 := Imp.go xlp88_2 (by omega))); (try (have i_xlp88_2 := Imp.go xlp88_2 (by omega))); (try (have i_xlp88_3 := Imp.go xlp88_3 (by omega))); (try (have i_xlp88_7 := Imp.go xlp88_7 (by omega))); omega)))), (show (V173 0 48).toInt ≤ 8200 from by first | omega | ((try (have i_xlp88_7 := Imp.go xlp88_7 (by omega))); (try (have i_xlp88_3 := Imp.go xlp88_3 (by omega))); (try (have i_xlp88_2 := Imp.go xlp88_2 (by omega))); (try (have i_xlp88_2 := Imp.go xlp88_2 (by omega))); (try (have i_xlp88_3 := Imp.go xlp88_3 (by omega))); (try (have i_xlp88_7 := Imp.go xlp88_7 (by omega))); omega)), (show (V173 0 12).toInt = (V 0 12).toInt from by first | omega | ((try (have i_xlp88_7 := Imp.go xlp88_7 (by omega))); (try (have i_xlp88_3 := Imp.go xlp88_3 (by omega))); (try (have i_xlp88_2 := Imp.go xlp88_2 (by omega))); (try (have i_xlp88_2 := Imp.go xlp88_2 (by omega))); (try (have i_xlp88_3 := Imp.go xlp88_3 (by omega))); (try (have i_xlp88_7 := Imp.go xlp88_7 (by omega))); omega)), (Or.inr ⟨(show 1 ≤ (V173 0 8).toInt from by omega), (fun k => by rw [show (V173 0 8).toInt = (V85 0 8).toInt from by omega]; exact hq k)⟩)⟩, by rw [ht]; exact hP, va_K.moved hW.alike hK, hD⟩, hS.F ht⟩) hS.2.2 dX12_toldComponent_336
                                  · skip
                                    have f181 : ((V85 0 8)).toInt = 0 := b_eq rfl (by decide) c166
                                    exfalso; first | omega | ((try (have i_xlp88_7 := Imp.go xlp88_7 (by omega))); (try (have i_xlp88_3 := Imp.go xlp88_3 (by omega))); (try (have i_xlp88_2 := Imp.go xlp88_2 (by omega))); (try (have i_xlp88_2 := Imp.go xlp88_2 (by omega))); (try (have i_xlp88_3 := Imp.go xlp88_3 (by omega))); (try (have i_xlp88_7 := Imp.go xlp88_7 (by omega))); omega)
                            have pq182 : (V70 0 48).toInt = ((V 0 48)).toInt := congrArg Int32.toInt ((ajV70 0 48 rfl).trans ((up2_k hV63 (by decide)).trans ((up2_k hV62 (by decide)).trans ((up2_o hV61 (by decide)).trans ((up2_o hV60 (by decide)).trans ((up2_o hV59 (by decide)).trans ((ajV53 0 48 rfl).trans ((ajV47 0 48 rfl).trans ((ajV42 0 48 rfl).trans ((ajV29 0 48 rfl).trans (ajV13 0 48 rfl)))))))))))
                            have pq183 : (V70 0 51).toInt = z5.toInt := congrArg Int32.toInt ((ajV70 0 51 rfl).trans ((up2_k hV63 (by decide)).trans (up2_s hV62)))
                            have pq184 : (V70 0 52).toInt = 0 := (congrArg Int32.toInt ((ajV70 0 52 rfl).trans (up2_s hV63))).trans (by decide)
                            exact lp88 ((((gn : Int) + 1) + 1 : Int).toNat) ((gn : Int) + 1) V70 L54 H locs ls (Or.inl ⟨W0 rl80, (sA (nx s1 1) 2 wx32), hr81, rl80, gp7, ow82, tb7, wr7⟩) (show 0 ≤ ((gn : Int) + 1) from by omega) (Imp.mk (fun hp => have hp : (V70 0 8).toInt = 0 := hp; (show (gn : Int) - (V70 0 7).toInt < ((gn : Int) + 1) from by omega))) (Imp.mk (fun hp => have hp : (V70 0 8).toInt = 0 := hp; (show (V70 0 48).toInt ≤ 2 * (V70 0 7).toInt from by omega))) (show (V70 0 48).toInt ≤ 8120 from by omega) (show (V70 0 51).toInt = z5.toInt from by omega) (show (V70 0 52).toInt = 0 from by omega) (Imp.mk (fun hp => have hp : 1 ≤ (V70 0 8).toInt := hp; (show (V70 0 8).toInt = (V70 0 8).toInt from by omega))) (by omega) alL54 agr.rf hMV70 hP hD hS (lv_sub hl [0, 1, 2, 3] rfl)
                          · skip
                            have kd185 : gT.1 (s1.1 0) ≠ 123 := fun h9 => h73 (h9.trans (by decide))
                            have hb186 : ∀ k, Rc gT (Crun gs (Istmt :: k)) (Cbad (V70 0 8).toInt) := fun k => Rc.go1 (h1 k) ((tk_n kd185).trans (fl_eq rfl rl74))
                            have r187 : 0 ≤ ((V70 0 8)).toInt ∧ ((V70 0 8)).toInt ≤ 70000 := hMV70 0 8
                            have lp191 : ∀ (fulp191 : Nat) (g190 : Int) (V188 : Vf) (L189 : Lf) (H : Heap) (locs : List Loc) (ls : Array Slot), (((V188 0 8).toInt = 0 ∧ ∃ s1 : St, (∀ k, Rc gT (Crun gs (Istmt :: k)) (Crun s1 (Imember :: k))) ∧ RelM V188 L189 bq gn gT s1 (gs.2.1 2) ∧ gs.1 0 + 1 ≤ s1.1 0 ∧ OWm V188 gc s1 ∧ s1.2.1 2 = gs.2.1 2 ++ [wx32] ∧ s1.2.2.1 = gs.2.2.1) ∨ (1 ≤ (V188 0 8).toInt ∧ ∀ k, Rc gT (Crun gs (Istmt :: k)) (Cbad (V188 0 8).toInt))) → 0 ≤ g190 → Imp ((V188 0 8).toInt = 0) ((gn : Int) - (V188 0 7).toInt < g190) → Imp ((V188 0 8).toInt = 0) ((V188 0 48).toInt ≤ 2 * (V188 0 7).toInt) → (V188 0 48).toInt ≤ 8120 → (V188 0 51).toInt = z5.toInt → (V188 0 52).toInt = 0 → Imp (1 ≤ (V70 0 8).toInt) ((V188 0 8).toInt = (V70 0 8).toInt) → g190 < (fulp191 : Int) → agL [15, 19, 20, 21, 22, 23, 24, 25, 26, 27, 28, 29, 30, 31, 32, 33, 34, 35, 36, 37, 38, 45, 46, 47, 53] L L189 → agr [(0, 7), (0, 8), (0, 48), (0, 50)] [27, 28, 29, 30, 31, 32, 33, 34, 35, 36, 37, 38, 45, 46, 47] V70 V188 → rgd bM V188 → va_P D vwCl (mw ad kk ks.1 V188 L189) H → va_D A (mw ad kk ks.1 V188 L189) → va_S A s.heap H locs → lv_has ls 5 [(4, .int y46), (2, .long z25), (1, .int z5), (0, .ref (ad 0))] → W p l e r_s_toldComponentA s m ([.ref (ad 0)] : List Value).toArray below meth c H locs 0 0 (MQ below (q_s_toldComponentA D ks ad kk V L  bq gn gT gs A) ([.ref (ad 0)] : List Value).toArray s 0 0 A) (F0 m 299 ls []) := by
                              (try clear hb186); (try clear kd185); (try clear rl64); (try clear fz57); (try clear fz39); (try clear ps38); (try clear hr37); (try clear fz21); (try clear ps20); (try clear hr19); (try clear hr18)
                              intro fulp191
                              induction fulp191 with
                              | zero =>
                                intro g190 V188 L189 H locs ls xlp191_0 xlp191_1 xlp191_2 xlp191_3 xlp191_4 xlp191_5 xlp191_6 xlp191_7 hn alL189 ajV188 hMV188 hP hD hS hl
                                exfalso; omega
                              | succ fulp191 ihlp191 =>
                                intro g190 V188 L189 H locs ls xlp191_0 xlp191_1 xlp191_2 xlp191_3 xlp191_4 xlp191_5 xlp191_6 xlp191_7 hn alL189 ajV188 hMV188 hP hD hS hl
                                have agV188 : agr [(0, 7), (0, 8), (0, 48), (0, 50), (0, 51), (0, 52)] [15, 19, 20, 21, 22, 23, 24, 25, 26, 27, 28, 29, 30, 31, 32, 33, 34, 35, 36, 37, 38, 45, 46, 47, 53] V V188 := agV70.tr ajV188 (by decide) (by decide)
                                have r192 : 0 ≤ ((V188 0 8)).toInt ∧ ((V188 0 8)).toInt ≤ 70000 := hMV188 0 8
                                have r193 : 0 ≤ ((V188 0 48)).toInt ∧ ((V188 0 48)).toInt ≤ 10000 := hMV188 0 48
                                have pq194 : (V188 0 51).toInt = z5.toInt := congrArg Int32.toInt ((ajV188 0 51 rfl).trans ((ajV70 0 51 rfl).trans ((up2_k hV63 (by decide)).trans (up2_s hV62))))
                                have pq195 : (V188 0 52).toInt = 0 := (congrArg Int32.toInt ((ajV188 0 52 rfl).trans ((ajV70 0 52 rfl).trans (up2_s hV63)))).trans (by decide)
                                refine lv_aload_n hx hb dX12_toldComponent_299 rfl (lv_at hl 3 rfl) ?_
                                rcases xlp191_0 with ⟨f8, s1, hq, rq, gq1, oq, tq, wq⟩ | ⟨f8, hq⟩
                                · skip
                                  exfalso; first | omega | ((try (have i_xlp191_7 := Imp.go xlp191_7 (by omega))); (try (have i_xlp191_3 := Imp.go xlp191_3 (by omega))); (try (have i_xlp191_2 := Imp.go xlp191_2 (by omega))); (try (have i_xlp191_2 := Imp.go xlp191_2 (by omega))); (try (have i_xlp191_3 := Imp.go xlp191_3 (by omega))); (try (have i_xlp191_7 := Imp.go xlp191_7 (by omega))); omega)
                                · skip
                                  refine va_get (D := D) (ci := 12) (v := .int (V188 0 8)) (C := RX12) (T := TX12) (N := 100) hx hb hg inX12 hown hK hP 0 rfl rfl 8 (by decide) (hg _ w1714) (fun _ h9 => h9) rfl dX12_toldComponent_300 ?_
                                  refine lv_if_ne (tgt := 323) hx hb dX12_toldComponent_303 (by decide) (fun c196 => ?_) (fun c196 => ?_)
                                  · skip
                                    have f197 : ((V188 0 8)).toInt ≠ 0 := b_neq rfl (by decide) c196
                                    refine lv_aload_n hx hb dX12_toldComponent_323 rfl (lv_at hl 3 rfl) ?_
                                    refine lv_bipush (v := 125) hx hb dX12_toldComponent_324 (by decide) ?_
                                    have r198 : Int32.toInt 125 = 125 := by decide
                                    refine gA_void (gA_runV (As := [.int 125]) (rest := []) (ci := 12) (q0 := 0) hx hb hml hown hg hP hD hK hS hA hnw hgk (s_takeSignB l D ks H.size ad kk V188 L189 125 hMV188 (show 1 ≤ (V188 0 8).toInt from by first | omega | ((try (have i_xlp191_7 := Imp.go xlp191_7 (by omega))); (try (have i_xlp191_3 := Imp.go xlp191_3 (by omega))); (try (have i_xlp191_2 := Imp.go xlp191_2 (by omega))); (try (have i_xlp191_2 := Imp.go xlp191_2 (by omega))); (try (have i_xlp191_3 := Imp.go xlp191_3 (by omega))); (try (have i_xlp191_7 := Imp.go xlp191_7 (by omega))); omega))) w2075 w2077 w96 w172 w2078 rfl rfl hdV_yX12_takeSign ⟨Nat.le_of_ble_eq_true rfl, Nat.le_of_ble_eq_true rfl⟩ rfl hl.1 rfl (Nat.le_of_ble_eq_true rfl) dX12_toldComponent_326 ⟨Nat.le_of_ble_eq_true rfl, Nat.le_of_ble_eq_true rfl⟩) hP hD hK hS hA (fun u200 H locs w201 hP hD hK hS => ?_)
                                    obtain ⟨V203, L204⟩ := u200
                                    obtain ⟨hMV203, ajV203, axL204, t202⟩ := w201
                                    have axL204 : L189 = L204 := Eq.symm axL204
                                    subst axL204
                                    have hP : va_P D vwCl (mw ad kk ks.1 V203 L189) H := hP
                                    have hD : va_D A (mw ad kk ks.1 V203 L189) := hD
                                    have hMV203 : rgd bM V203 := hMV203
                                    have ajV203 : agr [(0, 7), (0, 8)] [] V188 V203 := ajV203
                                    have agV203 : agr [(0, 7), (0, 8), (0, 48), (0, 50), (0, 51), (0, 52)] [15, 19, 20, 21, 22, 23, 24, 25, 26, 27, 28, 29, 30, 31, 32, 33, 34, 35, 36, 37, 38, 45, 46, 47, 53] V V203 := agV188.tr ajV203 (by decide) (by decide)
                                    have t202 : (V203 0 8).toInt = (V188 0 8).toInt := t202
                                    have r205 : 0 ≤ ((V203 0 8)).toInt ∧ ((V203 0 8)).toInt ≤ 70000 := hMV203 0 8
                                    refine lv_aload_n hx hb dX12_toldComponent_329 rfl (lv_at hl 3 rfl) ?_
                                    refine va_get (D := D) (ci := 12) (v := .int (V203 0 8)) (C := RX12) (T := TX12) (N := 100) hx hb hg inX12 hown hK hP 0 rfl rfl 8 (by decide) (hg _ w1714) (fun _ h9 => h9) rfl dX12_toldComponent_330 ?_
                                    refine lv_if_le (tgt := 337) hx hb dX12_toldComponent_333 (by decide) (fun c206 => ?_) (fun c206 => ?_)
                                    · skip
                                      have f207 : ((V203 0 8)).toInt ≤ 0 := b_le rfl (by decide) c206
                                      exfalso; first | omega | ((try (have i_xlp191_7 := Imp.go xlp191_7 (by omega))); (try (have i_xlp191_3 := Imp.go xlp191_3 (by omega))); (try (have i_xlp191_2 := Imp.go xlp191_2 (by omega))); (try (have i_xlp191_2 := Imp.go xlp191_2 (by omega))); (try (have i_xlp191_3 := Imp.go xlp191_3 (by omega))); (try (have i_xlp191_7 := Imp.go xlp191_7 (by omega))); omega)
                                    · skip
                                      have f208 : 0 < ((V203 0 8)).toInt := b_nle rfl (by decide) c206
                                      have pq209 : (V203 0 48).toInt = ((V188 0 48)).toInt := congrArg Int32.toInt (ajV203 0 48 rfl)
                                      have pq210 : (V203 0 12).toInt = ((V 0 12)).toInt := congrArg Int32.toInt ((ajV203 0 12 rfl).trans ((ajV188 0 12 rfl).trans ((ajV70 0 12 rfl).trans ((up2_k hV63 (by decide)).trans ((up2_k hV62 (by decide)).trans ((up2_o hV61 (by decide)).trans ((up2_o hV60 (by decide)).trans ((up2_o hV59 (by decide)).trans ((ajV53 0 12 rfl).trans ((ajV47 0 12 rfl).trans ((ajV42 0 12 rfl).trans ((ajV29 0 12 rfl).trans (ajV13 0 12 rfl)))))))))))))
                                      exact W.vret hx hb hr (fun t ht hW => ⟨⟨(V203, L189), rfl, ⟨hMV203, agV203, alL189, (Imp.mk (fun hp => have hp : (V203 0 8).toInt = 0 := hp; (show (V203 0 48).toInt ≤ 2 * (V203 0 7).toInt from by first | omega | ((try (have i_xlp191_7 := Imp.go xlp191_7 (by omega))); (try (have i_xlp191_3 := Imp.go xlp191_3 (by omega))); (try (have i_xlp191_2 := Imp.go xlp191_2 (by omega))); (try (have i_xlp191_2 := Imp.go xlp191_2 (by omega))); (try (have i_xlp191_3 := Imp.go xlp191_3 (by omega))); (try (have i_xlp191_7 := Imp.go xlp191_7 (by omega))); omega)))), (show (V203 0 48).toInt ≤ 8200 from by first | omega | ((try (have i_xlp191_7 := Imp.go xlp191_7 (by omega))); (try (have i_xlp191_3 := Imp.go xlp191_3 (by omega))); (try (have i_xlp191_2 := Imp.go xlp191_2 (by omega))); (try (have i_xlp191_2 := Imp.go xlp191_2 (by omega))); (try (have i_xlp191_3 := Imp.go xlp191_3 (by omega))); (try (have i_xlp191_7 := Imp.go xlp191_7 (by omega))); omega)), (show (V203 0 12).toInt = (V 0 12).toInt from by first | omega | ((try (have i_xlp191_7 := Imp.go xlp191_7 (by omega))); (try (have i_xlp191_3 := Imp.go xlp191_3 (by omega))); (try (have i_xlp191_2 := Imp.go xlp191_2 (by omega))); (try (have i_xlp191_2 := Imp.go xlp191_2 (by omega))); (try (have i_xlp191_3 := Imp.go xlp191_3 (by omega))); (try (have i_xlp191_7 := Imp.go xlp191_7 (by omega))); omega)), (Or.inr ⟨(show 1 ≤ (V203 0 8).toInt from by omega), (fun k => by rw [show (V203 0 8).toInt = (V188 0 8).toInt from by omega]; exact hq k)⟩)⟩, by rw [ht]; exact hP, va_K.moved hW.alike hK, hD⟩, hS.F ht⟩) hS.2.2 dX12_toldComponent_336
                                  · skip
                                    have f211 : ((V188 0 8)).toInt = 0 := b_eq rfl (by decide) c196
                                    exfalso; first | omega | ((try (have i_xlp191_7 := Imp.go xlp191_7 (by omega))); (try (have i_xlp191_3 := Imp.go xlp191_3 (by omega))); (try (have i_xlp191_2 := Imp.go xlp191_2 (by omega))); (try (have i_xlp191_2 := Imp.go xlp191_2 (by omega))); (try (have i_xlp191_3 := Imp.go xlp191_3 (by omega))); (try (have i_xlp191_7 := Imp.go xlp191_7 (by omega))); omega)
                            have pq212 : (V70 0 48).toInt = ((V 0 48)).toInt := congrArg Int32.toInt ((ajV70 0 48 rfl).trans ((up2_k hV63 (by decide)).trans ((up2_k hV62 (by decide)).trans ((up2_o hV61 (by decide)).trans ((up2_o hV60 (by decide)).trans ((up2_o hV59 (by decide)).trans ((ajV53 0 48 rfl).trans ((ajV47 0 48 rfl).trans ((ajV42 0 48 rfl).trans ((ajV29 0 48 rfl).trans (ajV13 0 48 rfl)))))))))))
                            have pq213 : (V70 0 51).toInt = z5.toInt := congrArg Int32.toInt ((ajV70 0 51 rfl).trans ((up2_k hV63 (by decide)).trans (up2_s hV62)))
                            have pq214 : (V70 0 52).toInt = 0 := (congrArg Int32.toInt ((ajV70 0 52 rfl).trans (up2_s hV63))).trans (by decide)
                            exact lp191 ((((gn : Int) + 1) + 1 : Int).toNat) ((gn : Int) + 1) V70 L54 H locs ls (Or.inr ⟨(show 1 ≤ (V70 0 8).toInt from by omega), hb186⟩) (show 0 ≤ ((gn : Int) + 1) from by omega) (Imp.mk (fun hp => have hp : (V70 0 8).toInt = 0 := hp; (show (gn : Int) - (V70 0 7).toInt < ((gn : Int) + 1) from by omega))) (Imp.mk (fun hp => have hp : (V70 0 8).toInt = 0 := hp; (show (V70 0 48).toInt ≤ 2 * (V70 0 7).toInt from by omega))) (show (V70 0 48).toInt ≤ 8120 from by omega) (show (V70 0 51).toInt = z5.toInt from by omega) (show (V70 0 52).toInt = 0 from by omega) (Imp.mk (fun hp => have hp : 1 ≤ (V70 0 8).toInt := hp; (show (V70 0 8).toInt = (V70 0 8).toInt from by omega))) (by omega) alL54 agr.rf hMV70 hP hD hS (lv_sub hl [0, 1, 2, 3] rfl)
                        · skip
                          have r215 : 0 ≤ ((V53 0 8)).toInt ∧ ((V53 0 8)).toInt ≤ 70000 := hMV53 0 8
                          refine lv_aload_n hx hb dX12_toldComponent_262 rfl (lv_at hl 3 rfl) ?_
                          refine va_get (D := D) (ci := 12) (v := .ref (ad 27)) (C := RX12) (T := TX12) (N := 100) hx hb hg inX12 hown hK hP 0 rfl rfl 27 (by decide) (hg _ w1733) (fun _ h9 => h9) rfl dX12_toldComponent_263 ?_
                          refine lv_iload_n hx hb dX12_toldComponent_266 rfl (lv_at hl 2 rfl) ?_
                          refine lv_iconst (v := 0) hx hb dX12_toldComponent_267 (by decide) ?_
                          refine va_iast (D := D) (i := z5) (x := 0) hx hb hK hP hD hS 20 19 rfl rfl (i_in (a := z5.toInt) rfl (by omega)) dX12_toldComponent_268 (fun H locs hP hD hS => ?_)
                          obtain ⟨V216, hV216⟩ : ∃ z, z = up2 V53 27 (Int32.toNatClampNeg z5) 0 := ⟨_, rfl⟩
                          have hP : va_P D vwCl (mw ad kk ks.1 V216 L54) H := by rw [hV216]; exact hP
                          have hD : va_D A (mw ad kk ks.1 V216 L54) := by rw [hV216]; exact hD
                          have hMV216 : rgd bM V216 := hMV53.put hV216 (show 0 ≤ Int32.toInt 0 ∧ Int32.toInt 0 ≤ 8 from by decide)
                          have agV216 : agr [(0, 7), (0, 8), (0, 48), (0, 50), (0, 51), (0, 52)] [15, 19, 20, 21, 22, 23, 24, 25, 26, 27, 28, 29, 30, 31, 32, 33, 34, 35, 36, 37, 38, 45, 46, 47, 53] V V216 := agV53.up hV216 rfl
                          refine lv_aload_n hx hb dX12_toldComponent_269 rfl (lv_at hl 3 rfl) ?_
                          refine va_get (D := D) (ci := 12) (v := .ref (ad 32)) (C := RX12) (T := TX12) (N := 100) hx hb hg inX12 hown hK hP 0 rfl rfl 32 (by decide) (hg _ w1738) (fun _ h9 => h9) rfl dX12_toldComponent_270 ?_
                          refine lv_iload_n hx hb dX12_toldComponent_273 rfl (lv_at hl 2 rfl) ?_
                          refine lv_iconst (v := (-1)) hx hb dX12_toldComponent_274 (by decide) ?_
                          refine va_iast (D := D) (i := z5) (x := (-1)) hx hb hK hP hD hS 25 24 rfl rfl (i_in (a := z5.toInt) rfl (by omega)) dX12_toldComponent_275 (fun H locs hP hD hS => ?_)
                          obtain ⟨V217, hV217⟩ : ∃ z, z = up2 V216 32 (Int32.toNatClampNeg z5) (-1) := ⟨_, rfl⟩
                          have hP : va_P D vwCl (mw ad kk ks.1 V217 L54) H := by rw [hV217]; exact hP
                          have hD : va_D A (mw ad kk ks.1 V217 L54) := by rw [hV217]; exact hD
                          have hMV217 : rgd bM V217 := hMV216.put hV217 (i_full _)
                          have agV217 : agr [(0, 7), (0, 8), (0, 48), (0, 50), (0, 51), (0, 52)] [15, 19, 20, 21, 22, 23, 24, 25, 26, 27, 28, 29, 30, 31, 32, 33, 34, 35, 36, 37, 38, 45, 46, 47, 53] V V217 := agV216.up hV217 rfl
                          refine lv_aload_n hx hb dX12_toldComponent_276 rfl (lv_at hl 3 rfl) ?_
                          refine va_get (D := D) (ci := 12) (v := .ref (ad 33)) (C := RX12) (T := TX12) (N := 100) hx hb hg inX12 hown hK hP 0 rfl rfl 33 (by decide) (hg _ w1739) (fun _ h9 => h9) rfl dX12_toldComponent_277 ?_
                          refine lv_iload_n hx hb dX12_toldComponent_280 rfl (lv_at hl 2 rfl) ?_
                          refine lv_iconst (v := (-1)) hx hb dX12_toldComponent_281 (by decide) ?_
                          refine va_iast (D := D) (i := z5) (x := (-1)) hx hb hK hP hD hS 26 25 rfl rfl (i_in (a := z5.toInt) rfl (by omega)) dX12_toldComponent_282 (fun H locs hP hD hS => ?_)
                          obtain ⟨V218, hV218⟩ : ∃ z, z = up2 V217 33 (Int32.toNatClampNeg z5) (-1) := ⟨_, rfl⟩
                          have hP : va_P D vwCl (mw ad kk ks.1 V218 L54) H := by rw [hV218]; exact hP
                          have hD : va_D A (mw ad kk ks.1 V218 L54) := by rw [hV218]; exact hD
                          have hMV218 : rgd bM V218 := hMV217.put hV218 (i_full _)
                          have agV218 : agr [(0, 7), (0, 8), (0, 48), (0, 50), (0, 51), (0, 52)] [15, 19, 20, 21, 22, 23, 24, 25, 26, 27, 28, 29, 30, 31, 32, 33, 34, 35, 36, 37, 38, 45, 46, 47, 53] V V218 := agV217.up hV218 rfl
                          refine lv_aload_n hx hb dX12_toldComponent_283 rfl (lv_at hl 3 rfl) ?_
                          refine lv_iload_n hx hb dX12_toldComponent_284 rfl (lv_at hl 2 rfl) ?_
                          refine va_put (D := D) (ci := 12) (v := .int z5) (ty := tyX12 51) (C := RX12) (T := TX12) (N := 100) hx hb hg inX12 tyX12 tyX12_ok nmX12 hown hK hP hD hS 0 rfl rfl 51 (by decide) (hg _ w1757) (fun _ h9 => h9) rfl (tyX12_ok 51 (by decide)) rfl rfl (Nat.le_of_ble_eq_true rfl) dX12_toldComponent_285 (fun H locs hP hD hS => ?_)
                          obtain ⟨V219, hV219⟩ : ∃ z, z = up2 V218 0 51 z5 := ⟨_, rfl⟩
                          have hP : va_P D vwCl (mw ad kk ks.1 V219 L54) H := by rw [hV219]; exact hP
                          have hD : va_D A (mw ad kk ks.1 V219 L54) := by rw [hV219]; exact hD
                          have hMV219 : rgd bM V219 := hMV218.put hV219 (show (-1) ≤ z5.toInt ∧ z5.toInt ≤ 47 from by omega)
                          have agV219 : agr [(0, 7), (0, 8), (0, 48), (0, 50), (0, 51), (0, 52)] [15, 19, 20, 21, 22, 23, 24, 25, 26, 27, 28, 29, 30, 31, 32, 33, 34, 35, 36, 37, 38, 45, 46, 47, 53] V V219 := agV218.up hV219 rfl
                          refine lv_aload_n hx hb dX12_toldComponent_288 rfl (lv_at hl 3 rfl) ?_
                          refine lv_iconst (v := 0) hx hb dX12_toldComponent_289 (by decide) ?_
                          refine va_put (D := D) (ci := 12) (v := .int 0) (ty := tyX12 52) (C := RX12) (T := TX12) (N := 100) hx hb hg inX12 tyX12 tyX12_ok nmX12 hown hK hP hD hS 0 rfl rfl 52 (by decide) (hg _ w1758) (fun _ h9 => h9) rfl (tyX12_ok 52 (by decide)) rfl rfl (Nat.le_of_ble_eq_true rfl) dX12_toldComponent_290 (fun H locs hP hD hS => ?_)
                          obtain ⟨V220, hV220⟩ : ∃ z, z = up2 V219 0 52 0 := ⟨_, rfl⟩
                          have hP : va_P D vwCl (mw ad kk ks.1 V220 L54) H := by rw [hV220]; exact hP
                          have hD : va_D A (mw ad kk ks.1 V220 L54) := by rw [hV220]; exact hD
                          have hMV220 : rgd bM V220 := hMV219.put hV220 (by decide)
                          have agV220 : agr [(0, 7), (0, 8), (0, 48), (0, 50), (0, 51), (0, 52)] [15, 19, 20, 21, 22, 23, 24, 25, 26, 27, 28, 29, 30, 31, 32, 33, 34, 35, 36, 37, 38, 45, 46, 47, 53] V V220 := agV219.up hV220 rfl
                          refine lv_aload_n hx hb dX12_toldComponent_293 rfl (lv_at hl 3 rfl) ?_
                          refine lv_bipush (v := 123) hx hb dX12_toldComponent_294 (by decide) ?_
                          have r221 : Int32.toInt 123 = 123 := by decide
                          have pq222 : (V220 0 8).toInt = ((V53 0 8)).toInt := congrArg Int32.toInt ((up2_k hV220 (by decide)).trans ((up2_k hV219 (by decide)).trans ((up2_o hV218 (by decide)).trans ((up2_o hV217 (by decide)).trans (up2_o hV216 (by decide))))))
                          refine gA_void (gA_runV (As := [.int 123]) (rest := []) (ci := 12) (q0 := 0) hx hb hml hown hg hP hD hK hS hA hnw hgk (s_takeSignB l D ks H.size ad kk V220 L54 123 hMV220 (show 1 ≤ (V220 0 8).toInt from by omega)) w2075 w2077 w96 w172 w2078 rfl rfl hdV_yX12_takeSign ⟨Nat.le_of_ble_eq_true rfl, Nat.le_of_ble_eq_true rfl⟩ rfl hl.1 rfl (Nat.le_of_ble_eq_true rfl) dX12_toldComponent_296 ⟨Nat.le_of_ble_eq_true rfl, Nat.le_of_ble_eq_true rfl⟩) hP hD hK hS hA (fun u224 H locs w225 hP hD hK hS => ?_)
                          obtain ⟨V227, L228⟩ := u224
                          obtain ⟨hMV227, ajV227, axL228, t226⟩ := w225
                          have axL228 : L54 = L228 := Eq.symm axL228
                          subst axL228
                          have hP : va_P D vwCl (mw ad kk ks.1 V227 L54) H := hP
                          have hD : va_D A (mw ad kk ks.1 V227 L54) := hD
                          have hMV227 : rgd bM V227 := hMV227
                          have ajV227 : agr [(0, 7), (0, 8)] [] V220 V227 := ajV227
                          have agV227 : agr [(0, 7), (0, 8), (0, 48), (0, 50), (0, 51), (0, 52)] [15, 19, 20, 21, 22, 23, 24, 25, 26, 27, 28, 29, 30, 31, 32, 33, 34, 35, 36, 37, 38, 45, 46, 47, 53] V V227 := agV220.tr ajV227 (by decide) (by decide)
                          have t226 : (V227 0 8).toInt = (V220 0 8).toInt := t226
                          have r229 : 0 ≤ ((V227 0 8)).toInt ∧ ((V227 0 8)).toInt ≤ 70000 := hMV227 0 8
                          have lp233 : ∀ (fulp233 : Nat) (g232 : Int) (V230 : Vf) (L231 : Lf) (H : Heap) (locs : List Loc) (ls : Array Slot), (((V230 0 8).toInt = 0 ∧ ∃ s1 : St, (∀ k, Rc gT (Crun gs (Istmt :: k)) (Crun s1 (Imember :: k))) ∧ RelM V230 L231 bq gn gT s1 (gs.2.1 2) ∧ gs.1 0 + 1 ≤ s1.1 0 ∧ OWm V230 gc s1 ∧ s1.2.1 2 = gs.2.1 2 ++ [wx32] ∧ s1.2.2.1 = gs.2.2.1) ∨ (1 ≤ (V230 0 8).toInt ∧ ∀ k, Rc gT (Crun gs (Istmt :: k)) (Cbad (V230 0 8).toInt))) → 0 ≤ g232 → Imp ((V230 0 8).toInt = 0) ((gn : Int) - (V230 0 7).toInt < g232) → Imp ((V230 0 8).toInt = 0) ((V230 0 48).toInt ≤ 2 * (V230 0 7).toInt) → (V230 0 48).toInt ≤ 8120 → (V230 0 51).toInt = z5.toInt → (V230 0 52).toInt = 0 → Imp (1 ≤ (V227 0 8).toInt) ((V230 0 8).toInt = (V227 0 8).toInt) → g232 < (fulp233 : Int) → agL [15, 19, 20, 21, 22, 23, 24, 25, 26, 27, 28, 29, 30, 31, 32, 33, 34, 35, 36, 37, 38, 45, 46, 47, 53] L L231 → agr [(0, 7), (0, 8), (0, 48), (0, 50)] [27, 28, 29, 30, 31, 32, 33, 34, 35, 36, 37, 38, 45, 46, 47] V227 V230 → rgd bM V230 → va_P D vwCl (mw ad kk ks.1 V230 L231) H → va_D A (mw ad kk ks.1 V230 L231) → va_S A s.heap H locs → lv_has ls 5 [(4, .int y46), (2, .long z25), (1, .int z5), (0, .ref (ad 0))] → W p l e r_s_toldComponentA s m ([.ref (ad 0)] : List Value).toArray below meth c H locs 0 0 (MQ below (q_s_toldComponentA D ks ad kk V L  bq gn gT gs A) ([.ref (ad 0)] : List Value).toArray s 0 0 A) (F0 m 299 ls []) := by
                            (try clear fz39); (try clear ps38); (try clear hr37); (try clear fz21); (try clear ps20); (try clear hr19); (try clear hr18)
                            intro fulp233
                            induction fulp233 with
                            | zero =>
                              intro g232 V230 L231 H locs ls xlp233_0 xlp233_1 xlp233_2 xlp233_3 xlp233_4 xlp233_5 xlp233_6 xlp233_7 hn alL231 ajV230 hMV230 hP hD hS hl
                              exfalso; omega
                            | succ fulp233 ihlp233 =>
                              intro g232 V230 L231 H locs ls xlp233_0 xlp233_1 xlp233_2 xlp233_3 xlp233_4 xlp233_5 xlp233_6 xlp233_7 hn alL231 ajV230 hMV230 hP hD hS hl
                              have agV230 : agr [(0, 7), (0, 8), (0, 48), (0, 50), (0, 51), (0, 52)] [15, 19, 20, 21, 22, 23, 24, 25, 26, 27, 28, 29, 30, 31, 32, 33, 34, 35, 36, 37, 38, 45, 46, 47, 53] V V230 := agV227.tr ajV230 (by decide) (by decide)
                              have r234 : 0 ≤ ((V230 0 8)).toInt ∧ ((V230 0 8)).toInt ≤ 70000 := hMV230 0 8
                              have r235 : 0 ≤ ((V230 0 48)).toInt ∧ ((V230 0 48)).toInt ≤ 10000 := hMV230 0 48
                              have pq236 : (V230 0 51).toInt = z5.toInt := congrArg Int32.toInt ((ajV230 0 51 rfl).trans ((ajV227 0 51 rfl).trans ((up2_k hV220 (by decide)).trans (up2_s hV219))))
                              have pq237 : (V230 0 52).toInt = 0 := (congrArg Int32.toInt ((ajV230 0 52 rfl).trans ((ajV227 0 52 rfl).trans (up2_s hV220)))).trans (by decide)
                              refine lv_aload_n hx hb dX12_toldComponent_299 rfl (lv_at hl 3 rfl) ?_
                              rcases xlp233_0 with ⟨f8, s1, hq, rq, gq1, oq, tq, wq⟩ | ⟨f8, hq⟩
                              · skip
                                exfalso; first | omega | ((try (have i_xlp233_7 := Imp.go xlp233_7 (by omega))); (try (have i_xlp233_3 := Imp.go xlp233_3 (by omega))); (try (have i_xlp233_2 := Imp.go xlp233_2 (by omega))); (try (have i_xlp233_2 := Imp.go xlp233_2 (by omega))); (try (have i_xlp233_3 := Imp.go xlp233_3 (by omega))); (try (have i_xlp233_7 := Imp.go xlp233_7 (by omega))); omega)
                              · skip
                                refine va_get (D := D) (ci := 12) (v := .int (V230 0 8)) (C := RX12) (T := TX12) (N := 100) hx hb hg inX12 hown hK hP 0 rfl rfl 8 (by decide) (hg _ w1714) (fun _ h9 => h9) rfl dX12_toldComponent_300 ?_
                                refine lv_if_ne (tgt := 323) hx hb dX12_toldComponent_303 (by decide) (fun c238 => ?_) (fun c238 => ?_)
                                · skip
                                  have f239 : ((V230 0 8)).toInt ≠ 0 := b_neq rfl (by decide) c238
                                  refine lv_aload_n hx hb dX12_toldComponent_323 rfl (lv_at hl 3 rfl) ?_
                                  refine lv_bipush (v := 125) hx hb dX12_toldComponent_324 (by decide) ?_
                                  have r240 : Int32.toInt 125 = 125 := by decide
                                  refine gA_void (gA_runV (As := [.int 125]) (rest := []) (ci := 12) (q0 := 0) hx hb hml hown hg hP hD hK hS hA hnw hgk (s_takeSignB l D ks H.size ad kk V230 L231 125 hMV230 (show 1 ≤ (V230 0 8).toInt from by first | omega | ((try (have i_xlp233_7 := Imp.go xlp233_7 (by omega))); (try (have i_xlp233_3 := Imp.go xlp233_3 (by omega))); (try (have i_xlp233_2 := Imp.go xlp233_2 (by omega))); (try (have i_xlp233_2 := Imp.go xlp233_2 (by omega))); (try (have i_xlp233_3 := Imp.go xlp233_3 (by omega))); (try (have i_xlp233_7 := Imp.go xlp233_7 (by omega))); omega))) w2075 w2077 w96 w172 w2078 rfl rfl hdV_yX12_takeSign ⟨Nat.le_of_ble_eq_true rfl, Nat.le_of_ble_eq_true rfl⟩ rfl hl.1 rfl (Nat.le_of_ble_eq_true rfl) dX12_toldComponent_326 ⟨Nat.le_of_ble_eq_true rfl, Nat.le_of_ble_eq_true rfl⟩) hP hD hK hS hA (fun u242 H locs w243 hP hD hK hS => ?_)
                                  obtain ⟨V245, L246⟩ := u242
                                  obtain ⟨hMV245, ajV245, axL246, t244⟩ := w243
                                  have axL246 : L231 = L246 := Eq.symm axL246
                                  subst axL246
                                  have hP : va_P D vwCl (mw ad kk ks.1 V245 L231) H := hP
                                  have hD : va_D A (mw ad kk ks.1 V245 L231) := hD
                                  have hMV245 : rgd bM V245 := hMV245
                                  have ajV245 : agr [(0, 7), (0, 8)] [] V230 V245 := ajV245
                                  have agV245 : agr [(0, 7), (0, 8), (0, 48), (0, 50), (0, 51), (0, 52)] [15, 19, 20, 21, 22, 23, 24, 25, 26, 27, 28, 29, 30, 31, 32, 33, 34, 35, 36, 37, 38, 45, 46, 47, 53] V V245 := agV230.tr ajV245 (by decide) (by decide)
                                  have t244 : (V245 0 8).toInt = (V230 0 8).toInt := t244
                                  have r247 : 0 ≤ ((V245 0 8)).toInt ∧ ((V245 0 8)).toInt ≤ 70000 := hMV245 0 8
                                  refine lv_aload_n hx hb dX12_toldComponent_329 rfl (lv_at hl 3 rfl) ?_
                                  refine va_get (D := D) (ci := 12) (v := .int (V245 0 8)) (C := RX12) (T := TX12) (N := 100) hx hb hg inX12 hown hK hP 0 rfl rfl 8 (by decide) (hg _ w1714) (fun _ h9 => h9) rfl dX12_toldComponent_330 ?_
                                  refine lv_if_le (tgt := 337) hx hb dX12_toldComponent_333 (by decide) (fun c248 => ?_) (fun c248 => ?_)
                                  · skip
                                    have f249 : ((V245 0 8)).toInt ≤ 0 := b_le rfl (by decide) c248
                                    exfalso; first | omega | ((try (have i_xlp233_7 := Imp.go xlp233_7 (by omega))); (try (have i_xlp233_3 := Imp.go xlp233_3 (by omega))); (try (have i_xlp233_2 := Imp.go xlp233_2 (by omega))); (try (have i_xlp233_2 := Imp.go xlp233_2 (by omega))); (try (have i_xlp233_3 := Imp.go xlp233_3 (by omega))); (try (have i_xlp233_7 := Imp.go xlp233_7 (by omega))); omega)
                                  · skip
                                    have f250 : 0 < ((V245 0 8)).toInt := b_nle rfl (by decide) c248
                                    have pq251 : (V245 0 48).toInt = ((V230 0 48)).toInt := congrArg Int32.toInt (ajV245 0 48 rfl)
                                    have pq252 : (V245 0 12).toInt = ((V 0 12)).toInt := congrArg Int32.toInt ((ajV245 0 12 rfl).trans ((ajV230 0 12 rfl).trans ((ajV227 0 12 rfl).trans ((up2_k hV220 (by decide)).trans ((up2_k hV219 (by decide)).trans ((up2_o hV218 (by decide)).trans ((up2_o hV217 (by decide)).trans ((up2_o hV216 (by decide)).trans ((ajV53 0 12 rfl).trans ((ajV47 0 12 rfl).trans ((ajV42 0 12 rfl).trans ((ajV29 0 12 rfl).trans (ajV13 0 12 rfl)))))))))))))
                                    exact W.vret hx hb hr (fun t ht hW => ⟨⟨(V245, L231), rfl, ⟨hMV245, agV245, alL231, (Imp.mk (fun hp => have hp : (V245 0 8).toInt = 0 := hp; (show (V245 0 48).toInt ≤ 2 * (V245 0 7).toInt from by first | omega | ((try (have i_xlp233_7 := Imp.go xlp233_7 (by omega))); (try (have i_xlp233_3 := Imp.go xlp233_3 (by omega))); (try (have i_xlp233_2 := Imp.go xlp233_2 (by omega))); (try (have i_xlp233_2 := Imp.go xlp233_2 (by omega))); (try (have i_xlp233_3 := Imp.go xlp233_3 (by omega))); (try (have i_xlp233_7 := Imp.go xlp233_7 (by omega))); omega)))), (show (V245 0 48).toInt ≤ 8200 from by first | omega | ((try (have i_xlp233_7 := Imp.go xlp233_7 (by omega))); (try (have i_xlp233_3 := Imp.go xlp233_3 (by omega))); (try (have i_xlp233_2 := Imp.go xlp233_2 (by omega))); (try (have i_xlp233_2 := Imp.go xlp233_2 (by omega))); (try (have i_xlp233_3 := Imp.go xlp233_3 (by omega))); (try (have i_xlp233_7 := Imp.go xlp233_7 (by omega))); omega)), (show (V245 0 12).toInt = (V 0 12).toInt from by first | omega | ((try (have i_xlp233_7 := Imp.go xlp233_7 (by omega))); (try (have i_xlp233_3 := Imp.go xlp233_3 (by omega))); (try (have i_xlp233_2 := Imp.go xlp233_2 (by omega))); (try (have i_xlp233_2 := Imp.go xlp233_2 (by omega))); (try (have i_xlp233_3 := Imp.go xlp233_3 (by omega))); (try (have i_xlp233_7 := Imp.go xlp233_7 (by omega))); omega)), (Or.inr ⟨(show 1 ≤ (V245 0 8).toInt from by omega), (fun k => by rw [show (V245 0 8).toInt = (V230 0 8).toInt from by omega]; exact hq k)⟩)⟩, by rw [ht]; exact hP, va_K.moved hW.alike hK, hD⟩, hS.F ht⟩) hS.2.2 dX12_toldComponent_336
                                · skip
                                  have f253 : ((V230 0 8)).toInt = 0 := b_eq rfl (by decide) c238
                                  exfalso; first | omega | ((try (have i_xlp233_7 := Imp.go xlp233_7 (by omega))); (try (have i_xlp233_3 := Imp.go xlp233_3 (by omega))); (try (have i_xlp233_2 := Imp.go xlp233_2 (by omega))); (try (have i_xlp233_2 := Imp.go xlp233_2 (by omega))); (try (have i_xlp233_3 := Imp.go xlp233_3 (by omega))); (try (have i_xlp233_7 := Imp.go xlp233_7 (by omega))); omega)
                          have pq254 : (V227 0 48).toInt = ((V 0 48)).toInt := congrArg Int32.toInt ((ajV227 0 48 rfl).trans ((up2_k hV220 (by decide)).trans ((up2_k hV219 (by decide)).trans ((up2_o hV218 (by decide)).trans ((up2_o hV217 (by decide)).trans ((up2_o hV216 (by decide)).trans ((ajV53 0 48 rfl).trans ((ajV47 0 48 rfl).trans ((ajV42 0 48 rfl).trans ((ajV29 0 48 rfl).trans (ajV13 0 48 rfl)))))))))))
                          have pq255 : (V227 0 51).toInt = z5.toInt := congrArg Int32.toInt ((ajV227 0 51 rfl).trans ((up2_k hV220 (by decide)).trans (up2_s hV219)))
                          have pq256 : (V227 0 52).toInt = 0 := (congrArg Int32.toInt ((ajV227 0 52 rfl).trans (up2_s hV220))).trans (by decide)
                          exact lp233 ((((gn : Int) + 1) + 1 : Int).toNat) ((gn : Int) + 1) V227 L54 H locs ls (Or.inr ⟨(show 1 ≤ (V227 0 8).toInt from by omega), (fun k => by rw [show (V227 0 8).toInt = (V53 0 8).toInt from by omega]; exact h1 k)⟩) (show 0 ≤ ((gn : Int) + 1) from by omega) (Imp.mk (fun hp => have hp : (V227 0 8).toInt = 0 := hp; (show (gn : Int) - (V227 0 7).toInt < ((gn : Int) + 1) from by omega))) (Imp.mk (fun hp => have hp : (V227 0 8).toInt = 0 := hp; (show (V227 0 48).toInt ≤ 2 * (V227 0 7).toInt from by omega))) (show (V227 0 48).toInt ≤ 8120 from by omega) (show (V227 0 51).toInt = z5.toInt from by omega) (show (V227 0 52).toInt = 0 from by omega) (Imp.mk (fun hp => have hp : 1 ≤ (V227 0 8).toInt := hp; (show (V227 0 8).toInt = (V227 0 8).toInt from by omega))) (by omega) alL54 agr.rf hMV227 hP hD hS (lv_sub hl [0, 1, 2, 3] rfl)
                      refine lv_aload_n hx hb dX12_toldComponent_112 rfl (lv_at hl 3 rfl) ?_
                      refine lv_iconst (v := 4) hx hb dX12_toldComponent_113 (by decide) ?_
                      have rl257 : RelM V47 L bq gn gT (nx (nx gs 1) 1) (gs.2.1 2) := RelM.ag rl34 (show agr [] [21, 34] V29 V47 from (agr.tr (agr.tr agr.rf ajV42 (by decide) (by decide)) ajV47 (by decide) (by decide))) (by decide) (show agL [] L L from agL.rf) (by decide)
                      have r258 : Int32.toInt 4 = 4 := by decide
                      refine gA_void (gA_runV (As := [.int 4]) (rest := []) (ci := 12) (q0 := 0) hx hb hml hown hg hP hD hK hS hA hnw hgk (s_takeWordA l D ks H.size ad kk V47 L 4 (bq) (gn) (gT) ((nx (nx gs 1) 1)) ((gs.2.1 2)) hMV47 (by decide) rl257) w2092 w2094 w100 w172 w2095 rfl rfl hdV_yX12_takeWord ⟨Nat.le_of_ble_eq_true rfl, Nat.le_of_ble_eq_true rfl⟩ rfl hl.1 rfl (Nat.le_of_ble_eq_true rfl) dX12_toldComponent_114 ⟨Nat.le_of_ble_eq_true rfl, Nat.le_of_ble_eq_true rfl⟩) hP hD hK hS hA (fun u260 H locs w261 hP hD hK hS => ?_)
                      obtain ⟨V263, L264⟩ := u260
                      obtain ⟨hMV263, ajV263, axL264, t262⟩ := w261
                      have axL264 : L = L264 := Eq.symm axL264
                      subst axL264
                      have hP : va_P D vwCl (mw ad kk ks.1 V263 L) H := hP
                      have hD : va_D A (mw ad kk ks.1 V263 L) := hD
                      have hMV263 : rgd bM V263 := hMV263
                      have ajV263 : agr [(0, 7), (0, 8)] [] V47 V263 := ajV263
                      have agV263 : agr [(0, 7), (0, 8), (0, 48), (0, 50), (0, 51), (0, 52)] [15, 19, 20, 21, 22, 23, 24, 25, 26, 27, 28, 29, 30, 31, 32, 33, 34, 35, 36, 37, 38, 45, 46, 47, 53] V V263 := agV47.tr ajV263 (by decide) (by decide)
                      have t262 : ((V263 0 8).toInt = 0 ∧ (gT).1 (((nx (nx gs 1) 1)).1 0) = 128 + (Int32.toInt 4) ∧ RelM V263 L (bq) (gn) (gT) (nx ((nx (nx gs 1) 1)) 1) ((gs.2.1 2))) ∨ (1 ≤ (V263 0 8).toInt ∧ (gT).1 (((nx (nx gs 1) 1)).1 0) ≠ 128 + (Int32.toInt 4) ∧ (V263 0 8).toInt = 1 + 16 * (gT).2.2 (((nx (nx gs 1) 1)).1 0)) := t262
                      rcases t262 with ⟨q265, h266, rl267⟩ | ⟨q265, h266, rl267⟩
                      · skip
                        have kd268 : gT.1 ((nx (nx gs 1) 1).1 0) = 132 := h266.trans (by decide)
                        have hr269 : ∀ k, Rc gT (Crun gs (Istmt :: k)) (Crun (nx (nx (nx gs 1) 1) 1) (Itypes 0 [] :: Iscope wx32 :: k)) := fun k => Rc.go1 (hr37 k) (tk_y kd268)
                        have ps270 : (nx (nx (nx gs 1) 1) 1).1 0 = (nx (nx gs 1) 1).1 0 + 1 := rfl
                        have fz271 := RelM.rg rl267
                        have r272 : 0 ≤ ((V263 0 8)).toInt ∧ ((V263 0 8)).toInt ≤ 70000 := hMV263 0 8
                        refine lv_aload_n hx hb dX12_toldComponent_117 rfl (lv_at hl 3 rfl) ?_
                        refine va_get (D := D) (ci := 12) (v := .int (V263 0 8)) (C := RX12) (T := TX12) (N := 100) hx hb hg inX12 hown hK hP 0 rfl rfl 8 (by decide) (hg _ w1714) (fun _ h9 => h9) rfl dX12_toldComponent_118 ?_
                        refine lv_if_ne (tgt := 133) hx hb dX12_toldComponent_121 (by decide) (fun c273 => ?_) (fun c273 => ?_)
                        · skip
                          have f274 : ((V263 0 8)).toInt ≠ 0 := b_neq rfl (by decide) c273
                          exfalso; omega
                        · skip
                          have f275 : ((V263 0 8)).toInt = 0 := b_eq rfl (by decide) c273
                          refine lv_aload_n hx hb dX12_toldComponent_124 rfl (lv_at hl 3 rfl) ?_
                          refine lv_aload_n hx hb dX12_toldComponent_125 rfl (lv_at hl 3 rfl) ?_
                          refine va_get (D := D) (ci := 12) (v := .ref (ad 21)) (C := RX12) (T := TX12) (N := 100) hx hb hg inX12 hown hK hP 0 rfl rfl 21 (by decide) (hg _ w1727) (fun _ h9 => h9) rfl dX12_toldComponent_126 ?_
                          refine lv_iload_n hx hb dX12_toldComponent_129 rfl (lv_at hl 2 rfl) ?_
                          refine gA_void (gA_runV (As := [.ref (ad 21), .int z5]) (rest := []) (ci := 12) (q0 := 0) hx hb hml hown hg hP hD hK hS hA hnw hgk (s_takeTypesA21 l D ks H.size ad kk V263 L z5 (bq) (gn) (gT) ((nx (nx (nx gs 1) 1) 1)) ((gs.2.1 2)) hMV263 (by omega) rl267) w2055 w2057 w91 w172 w2058 rfl rfl hdV_yX12_takeTypes ⟨Nat.le_of_ble_eq_true rfl, Nat.le_of_ble_eq_true rfl⟩ rfl hl.1 rfl (Nat.le_of_ble_eq_true rfl) dX12_toldComponent_130 ⟨Nat.le_of_ble_eq_true rfl, Nat.le_of_ble_eq_true rfl⟩) hP hD hK hS hA (fun u277 H locs w278 hP hD hK hS => ?_)
                          obtain ⟨V280, L281⟩ := u277
                          obtain ⟨hMV280, ajV280, axL281, t279⟩ := w278
                          have axL281 : L = L281 := Eq.symm axL281
                          subst axL281
                          have hP : va_P D vwCl (mw ad kk ks.1 V280 L) H := hP
                          have hD : va_D A (mw ad kk ks.1 V280 L) := hD
                          have hMV280 : rgd bM V280 := hMV280
                          have ajV280 : agr [(0, 7), (0, 8)] [15, 21, 53] V263 V280 := ajV280
                          have agV280 : agr [(0, 7), (0, 8), (0, 48), (0, 50), (0, 51), (0, 52)] [15, 19, 20, 21, 22, 23, 24, 25, 26, 27, 28, 29, 30, 31, 32, 33, 34, 35, 36, 37, 38, 45, 46, 47, 53] V V280 := agV263.tr ajV280 (by decide) (by decide)
                          have t279 : RdM (gT) ((nx (nx (nx gs 1) 1) 1)) (fun k => Itypes 0 [] :: k) (fun k => k) (V280 0 8).toInt (fun s9 => RelM V280 L (bq) (gn) (gT) s9 ((gs.2.1 2)) ∧ keepS ((nx (nx (nx gs 1) 1) 1)) 1 s9) := t279
                          rcases t279 with ⟨q282, sx283, h284, rl285, kp286⟩ | ⟨q282, h284⟩
                          · skip
                            have hr287 : ∀ k, Rc gT (Crun gs (Istmt :: k)) (Crun sx283 (Iscope wx32 :: k)) := fun k => (hr269 k).tr (h284 (Iscope wx32 :: k))
                            have fz288 := RelM.rg rl285
                            have r289 : 0 ≤ ((V280 0 8)).toInt ∧ ((V280 0 8)).toInt ≤ 70000 := hMV280 0 8
                            have ps290 := (kp286).1
                            refine lv_aload_n hx hb dX12_toldComponent_133 rfl (lv_at hl 3 rfl) ?_
                            refine va_get (D := D) (ci := 12) (v := .ref (ad 22)) (C := RX12) (T := TX12) (N := 100) hx hb hg inX12 hown hK hP 0 rfl rfl 22 (by decide) (hg _ w1728) (fun _ h9 => h9) rfl dX12_toldComponent_134 ?_
                            refine lv_iload_n hx hb dX12_toldComponent_137 rfl (lv_at hl 2 rfl) ?_
                            refine lv_aload_n hx hb dX12_toldComponent_138 rfl (lv_at hl 3 rfl) ?_
                            refine lv_bipush (v := 20) hx hb dX12_toldComponent_139 (by decide) ?_
                            refine lv_iconst (v := 4) hx hb dX12_toldComponent_141 (by decide) ?_
                            have r291 : Int32.toInt 20 = 20 := by decide
                            refine gA_int (gA_runV (As := [.int 20, .int 4]) (rest := [.int z5, .ref (ad 22)]) (ci := 12) (q0 := 0) hx hb hml hown hg hP hD hK hS hA hnw hgk (s_oneOfA l D ks H.size ad kk V280 L 20 4 (bq) (gn) (gT) (sx283) ((gs.2.1 2)) hMV280 (by decide) (by decide) rl285 (show (Int32.toInt 20) + (Int32.toInt 4) ≤ 28 from by omega)) w2096 w2098 w101 w172 w2099 rfl rfl hdV_yX12_oneOf ⟨Nat.le_of_ble_eq_true rfl, Nat.le_of_ble_eq_true rfl⟩ rfl hl.1 rfl (Nat.le_of_ble_eq_true rfl) dX12_toldComponent_142 ⟨Nat.le_of_ble_eq_true rfl, Nat.le_of_ble_eq_true rfl⟩) hP hD hK hS hA (fun z292 u293 H locs w294 hP hD hK hS => ?_)
                            obtain ⟨V296, L297⟩ := u293
                            obtain ⟨hMV296, ajV296, axL297, rgz292, t295⟩ := w294
                            have axL297 : L = L297 := Eq.symm axL297
                            subst axL297
                            have hP : va_P D vwCl (mw ad kk ks.1 V296 L) H := hP
                            have hD : va_D A (mw ad kk ks.1 V296 L) := hD
                            have hMV296 : rgd bM V296 := hMV296
                            have ajV296 : agr [(0, 7), (0, 8)] [] V280 V296 := ajV296
                            have agV296 : agr [(0, 7), (0, 8), (0, 48), (0, 50), (0, 51), (0, 52)] [15, 19, 20, 21, 22, 23, 24, 25, 26, 27, 28, 29, 30, 31, 32, 33, 34, 35, 36, 37, 38, 45, 46, 47, 53] V V296 := agV280.tr ajV296 (by decide) (by decide)
                            have rgz292 : 0 ≤ z292.toInt ∧ z292.toInt ≤ 3 := rgz292
                            have t295 : ((V296 0 8).toInt = 0 ∧ (gT).1 ((sx283).1 0) = 128 + (Int32.toInt 20) + z292.toInt ∧ RelM V296 L (bq) (gn) (gT) (nx (sx283) 1) ((gs.2.1 2))) ∨ (1 ≤ (V296 0 8).toInt ∧ ((gT).1 ((sx283).1 0) < 128 + (Int32.toInt 20) ∨ 128 + (Int32.toInt 20) + (Int32.toInt 4) ≤ (gT).1 ((sx283).1 0)) ∧ (V296 0 8).toInt = 1 + 16 * (gT).2.2 ((sx283).1 0)) := t295
                            rcases t295 with ⟨q298, h299, rl300⟩ | ⟨q298, h299, rl300⟩
                            · skip
                              have hr301 : ∀ k, Rc gT (Crun gs (Istmt :: k)) (Crun (scopeS sx283) (Icalled :: Irank :: IwhenI :: Itake 123 :: IaddNm wx32 :: Imember :: k)) := fun k => Rc.go1 (hr287 k) (sc_y wx32 (by omega))
                              have rl302 : RelM V296 L bq gn gT (scopeS sx283) (gs.2.1 2) := RelM.sc rl300
                              have fz303 := RelM.rg rl302
                              have r304 : 0 ≤ ((V296 0 8)).toInt ∧ ((V296 0 8)).toInt ≤ 70000 := hMV296 0 8
                              have ps305 : (scopeS sx283).1 0 = sx283.1 0 + 1 := rfl
                              refine va_iast (D := D) (i := z5) (x := z292) hx hb hK hP hD hS 15 14 rfl rfl (i_in (a := z5.toInt) rfl (by omega)) dX12_toldComponent_145 (fun H locs hP hD hS => ?_)
                              obtain ⟨V306, hV306⟩ : ∃ z, z = up2 V296 22 (Int32.toNatClampNeg z5) z292 := ⟨_, rfl⟩
                              have hP : va_P D vwCl (mw ad kk ks.1 V306 L) H := by rw [hV306]; exact hP
                              have hD : va_D A (mw ad kk ks.1 V306 L) := by rw [hV306]; exact hD
                              have hMV306 : rgd bM V306 := hMV296.put hV306 (i_full _)
                              have agV306 : agr [(0, 7), (0, 8), (0, 48), (0, 50), (0, 51), (0, 52)] [15, 19, 20, 21, 22, 23, 24, 25, 26, 27, 28, 29, 30, 31, 32, 33, 34, 35, 36, 37, 38, 45, 46, 47, 53] V V306 := agV296.up hV306 rfl
                              have J307 : ∀ (V308 : Vf) (L309 : Lf) (H : Heap) (locs : List Loc) (ls : Array Slot), agL [15, 19, 20, 21, 22, 23, 24, 25, 26, 27, 28, 29, 30, 31, 32, 33, 34, 35, 36, 37, 38, 45, 46, 47, 53] L L309 → agr [(0, 7), (0, 8)] [23, 24, 35, 36, 37, 38] V306 V308 → rgd bM V308 → (((V308 0 8).toInt = 0 ∧ ∃ s1 s0 : St, (∀ k, Rc gT (Crun gs (Istmt :: k)) (Crun s1 (IwhenI :: Itake 123 :: IaddNm (wx32) :: Imember :: k))) ∧ RelM V308 L309 bq gn gT s1 (gs.2.1 2) ∧ keepS (scopeS s0) 0 s1 ∧ s1.2.1 2 = gs.2.1 2 ∧ s1.2.2.1 = gs.2.2.1 ∧ gs.1 0 + 1 ≤ s1.1 0) ∨ (1 ≤ (V308 0 8).toInt ∧ ∀ k, Rc gT (Crun gs (Istmt :: k)) (Cbad (V308 0 8).toInt))) → (V308 0 48).toInt ≤ 8000 → (V308 0 48).toInt = (V 0 48).toInt → (V308 0 12).toInt = (V 0 12).toInt → va_P D vwCl (mw ad kk ks.1 V308 L309) H → va_D A (mw ad kk ks.1 V308 L309) → va_S A s.heap H locs → lv_has ls 5 [(4, .int y46), (2, .long z25), (1, .int z5), (0, .ref (ad 0))] → W p l e r_s_toldComponentA s m ([.ref (ad 0)] : List Value).toArray below meth c H locs 0 0 (MQ below (q_s_toldComponentA D ks ad kk V L  bq gn gT gs A) ([.ref (ad 0)] : List Value).toArray s 0 0 A) (F0 m 202 ls []) := by
                                as_aux_lemma =>
                                (try clear ps305); (try clear fz303); (try clear rl302); (try clear hr301); (try clear ps290); (try clear fz288); (try clear hr287); (try clear fz271); (try clear ps270); (try clear hr269); (try clear kd268); (try clear rl257); (try clear fz39); (try clear ps38); (try clear hr37); (try clear fz21); (try clear ps20); (try clear hr19); (try clear hr18)
                                intro V308 L309 H locs ls alL309 ajV308 hMV308 xJ307_0 xJ307_1 xJ307_2 xJ307_3 hP hD hS hl
                                have agV308 : agr [(0, 7), (0, 8), (0, 48), (0, 50), (0, 51), (0, 52)] [15, 19, 20, 21, 22, 23, 24, 25, 26, 27, 28, 29, 30, 31, 32, 33, 34, 35, 36, 37, 38, 45, 46, 47, 53] V V308 := agV306.tr ajV308 (by decide) (by decide)
                                have pq310 : (V308 0 48).toInt = ((V 0 48)).toInt := congrArg Int32.toInt ((ajV308 0 48 rfl).trans ((up2_o hV306 (by decide)).trans ((ajV296 0 48 rfl).trans ((ajV280 0 48 rfl).trans ((ajV263 0 48 rfl).trans ((ajV47 0 48 rfl).trans ((ajV42 0 48 rfl).trans ((ajV29 0 48 rfl).trans (ajV13 0 48 rfl)))))))))
                                have pq311 : (V308 0 12).toInt = ((V 0 12)).toInt := congrArg Int32.toInt ((ajV308 0 12 rfl).trans ((up2_o hV306 (by decide)).trans ((ajV296 0 12 rfl).trans ((ajV280 0 12 rfl).trans ((ajV263 0 12 rfl).trans ((ajV47 0 12 rfl).trans ((ajV42 0 12 rfl).trans ((ajV29 0 12 rfl).trans (ajV13 0 12 rfl)))))))))
                                rcases xJ307_0 with ⟨f7, s1, s0, h1, r1, k1, t1, w1, g1⟩ | ⟨f7, h1⟩
                                · skip
                                  have fz312 := RelM.rg r1
                                  have r313 : 0 ≤ ((V308 0 8)).toInt ∧ ((V308 0 8)).toInt ≤ 70000 := hMV308 0 8
                                  refine lv_aload_n hx hb dX12_toldComponent_202 rfl (lv_at hl 3 rfl) ?_
                                  refine va_get (D := D) (ci := 12) (v := .ref (ad 25)) (C := RX12) (T := TX12) (N := 100) hx hb hg inX12 hown hK hP 0 rfl rfl 25 (by decide) (hg _ w1731) (fun _ h9 => h9) rfl dX12_toldComponent_203 ?_
                                  refine lv_iload_n hx hb dX12_toldComponent_206 rfl (lv_at hl 2 rfl) ?_
                                  refine lv_iconst (v := (-1)) hx hb dX12_toldComponent_207 (by decide) ?_
                                  refine va_iast (D := D) (i := z5) (x := (-1)) hx hb hK hP hD hS 18 17 rfl rfl (i_in (a := z5.toInt) rfl (by omega)) dX12_toldComponent_208 (fun H locs hP hD hS => ?_)
                                  obtain ⟨V314, hV314⟩ : ∃ z, z = up2 V308 25 (Int32.toNatClampNeg z5) (-1) := ⟨_, rfl⟩
                                  have hP : va_P D vwCl (mw ad kk ks.1 V314 L309) H := by rw [hV314]; exact hP
                                  have hD : va_D A (mw ad kk ks.1 V314 L309) := by rw [hV314]; exact hD
                                  have hMV314 : rgd bM V314 := hMV308.put hV314 (show (-1) ≤ Int32.toInt (-1) ∧ Int32.toInt (-1) ≤ 11 from by decide)
                                  have agV314 : agr [(0, 7), (0, 8), (0, 48), (0, 50), (0, 51), (0, 52)] [15, 19, 20, 21, 22, 23, 24, 25, 26, 27, 28, 29, 30, 31, 32, 33, 34, 35, 36, 37, 38, 45, 46, 47, 53] V V314 := agV308.up hV314 rfl
                                  refine lv_aload_n hx hb dX12_toldComponent_209 rfl (lv_at hl 3 rfl) ?_
                                  refine lv_bipush (v := 7) hx hb dX12_toldComponent_210 (by decide) ?_
                                  have rl315 : RelM V314 L309 bq gn gT s1 (gs.2.1 2) := RelM.ag r1 (show agr [] [25] V308 V314 from (agr.up agr.rf hV314 rfl)) (by decide) (show agL [] L309 L309 from agL.rf) (by decide)
                                  have r316 : Int32.toInt 7 = 7 := by decide
                                  refine gA_int (gA_runV (As := [.int 7]) (rest := []) (ci := 12) (q0 := 0) hx hb hml hown hg hP hD hK hS hA hnw hgk (s_hasWordA l D ks H.size ad kk V314 L309 7 (bq) (gn) (gT) (s1) ((gs.2.1 2)) hMV314 (by decide) rl315) w2051 w2053 w90 w172 w2054 rfl rfl hdV_yX12_hasWord ⟨Nat.le_of_ble_eq_true rfl, Nat.le_of_ble_eq_true rfl⟩ rfl hl.1 rfl (Nat.le_of_ble_eq_true rfl) dX12_toldComponent_212 ⟨Nat.le_of_ble_eq_true rfl, Nat.le_of_ble_eq_true rfl⟩) hP hD hK hS hA (fun z317 u318 H locs w319 hP hD hK hS => ?_)
                                  obtain ⟨V321, L322⟩ := u318
                                  obtain ⟨hMV321, ajV321, axL322, rgz317, t320⟩ := w319
                                  have axL322 : L309 = L322 := Eq.symm axL322
                                  subst axL322
                                  have hP : va_P D vwCl (mw ad kk ks.1 V321 L309) H := hP
                                  have hD : va_D A (mw ad kk ks.1 V321 L309) := hD
                                  have hMV321 : rgd bM V321 := hMV321
                                  have ajV321 : agr [(0, 7)] [] V314 V321 := ajV321
                                  have agV321 : agr [(0, 7), (0, 8), (0, 48), (0, 50), (0, 51), (0, 52)] [15, 19, 20, 21, 22, 23, 24, 25, 26, 27, 28, 29, 30, 31, 32, 33, 34, 35, 36, 37, 38, 45, 46, 47, 53] V V321 := agV314.tr ajV321 (by decide) (by decide)
                                  have rgz317 : 0 ≤ z317.toInt ∧ z317.toInt ≤ 1 := rgz317
                                  have t320 : (z317.toInt = 1 ∧ (gT).1 ((s1).1 0) = 128 + (Int32.toInt 7) ∧ RelM V321 L309 (bq) (gn) (gT) (nx (s1) 1) ((gs.2.1 2))) ∨ (z317.toInt = 0 ∧ (gT).1 ((s1).1 0) ≠ 128 + (Int32.toInt 7) ∧ RelM V321 L309 (bq) (gn) (gT) (s1) ((gs.2.1 2))) := t320
                                  rcases t320 with ⟨q323, h324, rl325⟩ | ⟨q323, h324, rl325⟩
                                  · skip
                                    have kd326 : gT.1 (s1.1 0) = 135 := h324.trans (by decide)
                                    have hr327 : ∀ k, Rc gT (Crun gs (Istmt :: k)) (Crun (nx s1 1) (Isetting :: Inum 0 999999999 :: Itake 123 :: IaddNm wx32 :: Imember :: k)) := fun k => Rc.go1 (h1 k) (when_y  kd326)
                                    have ps328 : (nx s1 1).1 0 = s1.1 0 + 1 := rfl
                                    have fz329 := RelM.rg rl325
                                    have pq330 : (V321 0 8).toInt = ((V308 0 8)).toInt := congrArg Int32.toInt ((ajV321 0 8 rfl).trans (up2_o hV314 (by decide)))
                                    refine lv_if_eq (tgt := 262) hx hb dX12_toldComponent_215 (by decide) (fun c331 => ?_) (fun c331 => ?_)
                                    · skip
                                      have f332 : z317.toInt = 0 := b_eq rfl (by decide) c331
                                      exfalso; omega
                                    · skip
                                      have f333 : z317.toInt ≠ 0 := b_neq rfl (by decide) c331
                                      refine lv_aload_n hx hb dX12_toldComponent_218 rfl (lv_at hl 3 rfl) ?_
                                      refine va_get (D := D) (ci := 12) (v := .ref (ad 25)) (C := RX12) (T := TX12) (N := 100) hx hb hg inX12 hown hK hP 0 rfl rfl 25 (by decide) (hg _ w1731) (fun _ h9 => h9) rfl dX12_toldComponent_219 ?_
                                      refine lv_iload_n hx hb dX12_toldComponent_222 rfl (lv_at hl 2 rfl) ?_
                                      refine lv_aload_n hx hb dX12_toldComponent_223 rfl (lv_at hl 3 rfl) ?_
                                      refine lv_aload_n hx hb dX12_toldComponent_224 rfl (lv_at hl 3 rfl) ?_
                                      refine va_get (D := D) (ci := 12) (v := .ref (ad 17)) (C := RX12) (T := TX12) (N := 100) hx hb hg inX12 hown hK hP 0 rfl rfl 17 (by decide) (hg _ w1723) (fun _ h9 => h9) rfl dX12_toldComponent_225 ?_
                                      refine lv_bipush (v := 12) hx hb dX12_toldComponent_228 (by decide) ?_
                                      refine lv_aload_n hx hb dX12_toldComponent_230 rfl (lv_at hl 3 rfl) ?_
                                      refine va_get (D := D) (ci := 12) (v := .int (V321 0 12)) (C := RX12) (T := TX12) (N := 100) hx hb hg inX12 hown hK hP 0 rfl rfl 12 (by decide) (hg _ w1718) (fun _ h9 => h9) rfl dX12_toldComponent_231 ?_
                                      refine g_top (v := (V 0 12)) ((ajV321 0 12 rfl).trans ((up2_o hV314 (by decide)).trans ((ajV308 0 12 rfl).trans ((up2_o hV306 (by decide)).trans ((ajV296 0 12 rfl).trans ((ajV280 0 12 rfl).trans ((ajV263 0 12 rfl).trans ((ajV47 0 12 rfl).trans ((ajV42 0 12 rfl).trans ((ajV29 0 12 rfl).trans (ajV13 0 12 rfl))))))))))) ?_
                                      refine lv_imul hx hb dX12_toldComponent_234 ?_
                                      refine lv_topi (fun z334 ez334 => ?_)
                                      have hz334 : z334.toInt = 12 * ((V 0 12)).toInt := i_mul ez334 (by decide) rfl (by omega)
                                      refine lv_aload_n hx hb dX12_toldComponent_235 rfl (lv_at hl 3 rfl) ?_
                                      refine va_get (D := D) (ci := 12) (v := .ref (ad 16)) (C := RX12) (T := TX12) (N := 100) hx hb hg inX12 hown hK hP 0 rfl rfl 16 (by decide) (hg _ w1722) (fun _ h9 => h9) rfl dX12_toldComponent_236 ?_
                                      refine lv_aload_n hx hb dX12_toldComponent_239 rfl (lv_at hl 3 rfl) ?_
                                      refine va_get (D := D) (ci := 12) (v := .int (V321 0 12)) (C := RX12) (T := TX12) (N := 100) hx hb hg inX12 hown hK hP 0 rfl rfl 12 (by decide) (hg _ w1718) (fun _ h9 => h9) rfl dX12_toldComponent_240 ?_
                                      refine g_top (v := (V 0 12)) ((ajV321 0 12 rfl).trans ((up2_o hV314 (by decide)).trans ((ajV308 0 12 rfl).trans ((up2_o hV306 (by decide)).trans ((ajV296 0 12 rfl).trans ((ajV280 0 12 rfl).trans ((ajV263 0 12 rfl).trans ((ajV47 0 12 rfl).trans ((ajV42 0 12 rfl).trans ((ajV29 0 12 rfl).trans (ajV13 0 12 rfl))))))))))) ?_
                                      refine va_iald (D := D) (i := (V 0 12)) hx hb hK hP 9 8 rfl rfl (i_in (a := ((V 0 12)).toInt) rfl (by omega)) dX12_toldComponent_243 ?_
                                      refine g_top (v := (V 16 (Int32.toNatClampNeg (V 0 12)))) ((ajV321 16 (Int32.toNatClampNeg (V 0 12)) rfl).trans ((up2_o hV314 (by decide)).trans ((ajV308 16 (Int32.toNatClampNeg (V 0 12)) rfl).trans ((up2_o hV306 (by decide)).trans ((ajV296 16 (Int32.toNatClampNeg (V 0 12)) rfl).trans ((ajV280 16 (Int32.toNatClampNeg (V 0 12)) rfl).trans ((ajV263 16 (Int32.toNatClampNeg (V 0 12)) rfl).trans ((ajV47 16 (Int32.toNatClampNeg (V 0 12)) rfl).trans ((ajV42 16 (Int32.toNatClampNeg (V 0 12)) rfl).trans ((ajV29 16 (Int32.toNatClampNeg (V 0 12)) rfl).trans (ajV13 16 (Int32.toNatClampNeg (V 0 12)) rfl))))))))))) ?_
                                      have r335 : 0 ≤ ((V 16 (Int32.toNatClampNeg (V 0 12)))).toInt ∧ ((V 16 (Int32.toNatClampNeg (V 0 12)))).toInt ≤ 12 := hMV 16 (Int32.toNatClampNeg (V 0 12))
                                      have pq336 : (V321 16 bq).toInt = ((V 16 bq)).toInt := congrArg Int32.toInt ((ajV321 16 bq rfl).trans ((up2_o hV314 (by decide)).trans ((ajV308 16 bq rfl).trans ((up2_o hV306 (by decide)).trans ((ajV296 16 bq rfl).trans ((ajV280 16 bq rfl).trans ((ajV263 16 bq rfl).trans ((ajV47 16 bq rfl).trans ((ajV42 16 bq rfl).trans ((ajV29 16 bq rfl).trans (ajV13 16 bq rfl)))))))))))
                                      have r337 : 0 ≤ ((V 16 bq)).toInt ∧ ((V 16 bq)).toInt ≤ 12 := hMV 16 bq
                                      refine gA_int (gA_runV (As := [.ref (ad 17), .int z334, .int (V 16 (Int32.toNatClampNeg (V 0 12)))]) (rest := [.int z5, .ref (ad 25)]) (ci := 12) (q0 := 0) hx hb hml hown hg hP hD hK hS hA hnw hgk (s_named1 l D ks H.size ad kk V321 L309 z334 (V 16 (Int32.toNatClampNeg (V 0 12))) (bq) (gn) (gT) ((nx s1 1)) ((gs.2.1 2)) hMV321 (by omega) (by omega) rl325 (show z334.toInt = ((12 * (bq) : Nat) : Int) from by omega) (show ((V 16 (Int32.toNatClampNeg (V 0 12)))).toInt = (V321 16 (bq)).toInt from by omega)) w2063 w2065 w93 w172 w2066 rfl rfl hdV_yX12_named ⟨Nat.le_of_ble_eq_true rfl, Nat.le_of_ble_eq_true rfl⟩ rfl hl.1 rfl (Nat.le_of_ble_eq_true rfl) dX12_toldComponent_244 ⟨Nat.le_of_ble_eq_true rfl, Nat.le_of_ble_eq_true rfl⟩) hP hD hK hS hA (fun z338 u339 H locs w340 hP hD hK hS => ?_)
                                      obtain ⟨V344, L345⟩ := u339
                                      obtain ⟨hMV344, ajV344, axL345, rgz338, t341, t342, t343⟩ := w340
                                      have axL345 : L309 = L345 := Eq.symm axL345
                                      subst axL345
                                      have hP : va_P D vwCl (mw ad kk ks.1 V344 L309) H := hP
                                      have hD : va_D A (mw ad kk ks.1 V344 L309) := hD
                                      have hMV344 : rgd bM V344 := hMV344
                                      have ajV344 : agr [(0, 7), (0, 8)] [] V321 V344 := ajV344
                                      have agV344 : agr [(0, 7), (0, 8), (0, 48), (0, 50), (0, 51), (0, 52)] [15, 19, 20, 21, 22, 23, 24, 25, 26, 27, 28, 29, 30, 31, 32, 33, 34, 35, 36, 37, 38, 45, 46, 47, 53] V V344 := agV321.tr ajV344 (by decide) (by decide)
                                      have rgz338 : (-1) ≤ z338.toInt ∧ z338.toInt ≤ 47 := rgz338
                                      have t341 : KmN (look (gT) ((nx s1 1)) (((nx s1 1)).2.1 1)) (V344 0 8).toInt (fun f9 => RelM V344 L309 (bq) (gn) (gT) (nx ((nx s1 1)) 1) ((gs.2.1 2)) ∧ z338.toInt = ((f9 : Nat) : Int) ∧ f9 < 12) := t341
                                      have t342 : z338.toInt < ((V 16 (Int32.toNatClampNeg (V 0 12)))).toInt := t342
                                      have t343 : Imp ((V344 0 8).toInt = 0) (0 ≤ z338.toInt) := t343
                                      have r346 : 0 ≤ ((V344 0 8)).toInt ∧ ((V344 0 8)).toInt ≤ 70000 := hMV344 0 8
                                      rcases t341 with ⟨q347, fx348, h349, rl350, hf351, hb352⟩ | ⟨q347, h349⟩
                                      · skip
                                        have hr353 : ∀ k, Rc gT (Crun gs (Istmt :: k)) (Crun (nx (nx s1 1) 1) (Inum 0 999999999 :: Itake 123 :: IaddNm wx32 :: Imember :: k)) := fun k => Rc.go1 (hr327 k) (se_y h349)
                                        have ps354 : (nx (nx s1 1) 1).1 0 = (nx s1 1).1 0 + 1 := rfl
                                        have fz355 := RelM.rg rl350
                                        refine va_iast (D := D) (i := z5) (x := z338) hx hb hK hP hD hS 18 17 rfl rfl (i_in (a := z5.toInt) rfl (by first | exact ⟨z5r, z5s⟩ | omega | ((try (have i_t343 := Imp.go t343 (by omega))); omega))) dX12_toldComponent_247 (fun H locs hP hD hS => ?_)
                                        obtain ⟨V356, hV356⟩ : ∃ z, z = up2 V344 25 (Int32.toNatClampNeg z5) z338 := ⟨_, rfl⟩
                                        have hP : va_P D vwCl (mw ad kk ks.1 V356 L309) H := by rw [hV356]; exact hP
                                        have hD : va_D A (mw ad kk ks.1 V356 L309) := by rw [hV356]; exact hD
                                        have hMV356 : rgd bM V356 := hMV344.put hV356 (show (-1) ≤ z338.toInt ∧ z338.toInt ≤ 11 from by first | omega | ((try (have i_t343 := Imp.go t343 (by omega))); omega))
                                        have agV356 : agr [(0, 7), (0, 8), (0, 48), (0, 50), (0, 51), (0, 52)] [15, 19, 20, 21, 22, 23, 24, 25, 26, 27, 28, 29, 30, 31, 32, 33, 34, 35, 36, 37, 38, 45, 46, 47, 53] V V356 := agV344.up hV356 rfl
                                        refine lv_aload_n hx hb dX12_toldComponent_248 rfl (lv_at hl 3 rfl) ?_
                                        refine va_get (D := D) (ci := 12) (v := .ref (ad 26)) (C := RX12) (T := TX12) (N := 100) hx hb hg inX12 hown hK hP 0 rfl rfl 26 (by decide) (hg _ w1732) (fun _ h9 => h9) rfl dX12_toldComponent_249 ?_
                                        refine lv_iload_n hx hb dX12_toldComponent_252 rfl (lv_at hl 2 rfl) ?_
                                        refine lv_aload_n hx hb dX12_toldComponent_253 rfl (lv_at hl 3 rfl) ?_
                                        refine lv_iconst (v := 0) hx hb dX12_toldComponent_254 (by decide) ?_
                                        refine lv_ldcw (v := 999999999) hx hb hown (hg _ w2083) dX12_toldComponent_255 ?_
                                        have rl357 : RelM V356 L309 bq gn gT (nx (nx s1 1) 1) (gs.2.1 2) := RelM.ag rl350 (show agr [] [25] V344 V356 from (agr.up agr.rf hV356 rfl)) (by decide) (show agL [] L309 L309 from agL.rf) (by decide)
                                        have r358 : Int32.toInt 999999999 = 999999999 := by decide
                                        refine gA_int (gA_runV (As := [.int 0, .int 999999999]) (rest := [.int z5, .ref (ad 26)]) (ci := 12) (q0 := 0) hx hb hml hown hg hP hD hK hS hA hnw hgk (s_takeNumberA l D ks H.size ad kk V356 L309 0 999999999 (bq) (gn) (gT) ((nx (nx s1 1) 1)) ((gs.2.1 2)) hMV356 rl357 (show -1 ≤ (Int32.toInt 999999999) ∧ (Int32.toInt 999999999) ≤ 999999999 from by first | omega | ((try (have i_t343 := Imp.go t343 (by omega))); omega)) (show 0 ≤ (Int32.toInt 0) from by first | omega | ((try (have i_t343 := Imp.go t343 (by omega))); omega))) w2084 w2086 w98 w172 w2087 rfl rfl hdV_yX12_takeNumber ⟨Nat.le_of_ble_eq_true rfl, Nat.le_of_ble_eq_true rfl⟩ rfl hl.1 rfl (Nat.le_of_ble_eq_true rfl) dX12_toldComponent_258 ⟨Nat.le_of_ble_eq_true rfl, Nat.le_of_ble_eq_true rfl⟩) hP hD hK hS hA (fun z359 u360 H locs w361 hP hD hK hS => ?_)
                                        obtain ⟨V365, L366⟩ := u360
                                        obtain ⟨hMV365, ajV365, axL366, t362, t363, t364⟩ := w361
                                        have axL366 : L309 = L366 := Eq.symm axL366
                                        subst axL366
                                        have hP : va_P D vwCl (mw ad kk ks.1 V365 L309) H := hP
                                        have hD : va_D A (mw ad kk ks.1 V365 L309) := hD
                                        have hMV365 : rgd bM V365 := hMV365
                                        have ajV365 : agr [(0, 7), (0, 8)] [] V356 V365 := ajV365
                                        have agV365 : agr [(0, 7), (0, 8), (0, 48), (0, 50), (0, 51), (0, 52)] [15, 19, 20, 21, 22, 23, 24, 25, 26, 27, 28, 29, 30, 31, 32, 33, 34, 35, 36, 37, 38, 45, 46, 47, 53] V V365 := agV356.tr ajV365 (by decide) (by decide)
                                        have t362 : ((V365 0 8).toInt = 0 ∧ (gT).1 (((nx (nx s1 1) 1)).1 0) = 2 ∧ (Int32.toInt 0) ≤ ((gT).2.1 (((nx (nx s1 1) 1)).1 0)).toInt ∧ ((gT).2.1 (((nx (nx s1 1) 1)).1 0)).toInt ≤ (Int32.toInt 999999999) ∧ RelM V365 L309 (bq) (gn) (gT) (nx ((nx (nx s1 1) 1)) 1) ((gs.2.1 2))) ∨ (1 ≤ (V365 0 8).toInt ∧ (((gT).1 (((nx (nx s1 1) 1)).1 0) ≠ 2 ∧ (V365 0 8).toInt = 1 + 16 * (gT).2.2 (((nx (nx s1 1) 1)).1 0)) ∨ ((gT).1 (((nx (nx s1 1) 1)).1 0) = 2 ∧ (((gT).2.1 (((nx (nx s1 1) 1)).1 0)).toInt < (Int32.toInt 0) ∨ (Int32.toInt 999999999) < ((gT).2.1 (((nx (nx s1 1) 1)).1 0)).toInt) ∧ (V365 0 8).toInt = 4 + 16 * (gT).2.2 (((nx (nx s1 1) 1)).1 0)))) := t362
                                        have t363 : Imp ((V365 0 8).toInt = 0) ((Int32.toInt 0) ≤ z359.toInt ∧ z359.toInt ≤ (Int32.toInt 999999999)) := t363
                                        have t364 : Imp (1 ≤ (V365 0 8).toInt) (z359.toInt = 0) := t364
                                        have r367 : 0 ≤ ((V365 0 8)).toInt ∧ ((V365 0 8)).toInt ≤ 70000 := hMV365 0 8
                                        rcases t362 with ⟨q368, h369, h370, h371, rl372⟩ | ⟨q368, ⟨h369, rl372⟩ | ⟨h369, h370, rl372⟩⟩
                                        · skip
                                          have hr373 : ∀ k, Rc gT (Crun gs (Istmt :: k)) (Crun (nx (nx (nx s1 1) 1) 1) (Itake 123 :: IaddNm wx32 :: Imember :: k)) := fun k => Rc.go1 (hr353 k) (nm_y h369 (by omega) (by omega))
                                          have ps374 : (nx (nx (nx s1 1) 1) 1).1 0 = (nx (nx s1 1) 1).1 0 + 1 := rfl
                                          have fz375 := RelM.rg rl372
                                          have nr376 := Imp.go t363 q368
                                          refine va_iast (D := D) (i := z5) (x := z359) hx hb hK hP hD hS 19 18 rfl rfl (i_in (a := z5.toInt) rfl (by first | exact ⟨z5r, z5s⟩ | omega | ((try (have i_t364 := Imp.go t364 (by omega))); (try (have i_t363 := Imp.go t363 (by omega))); (try (have i_t343 := Imp.go t343 (by omega))); (try (have i_t343 := Imp.go t343 (by omega))); (try (have i_t363 := Imp.go t363 (by omega))); (try (have i_t364 := Imp.go t364 (by omega))); omega))) dX12_toldComponent_261 (fun H locs hP hD hS => ?_)
                                          obtain ⟨V377, hV377⟩ : ∃ z, z = up2 V365 26 (Int32.toNatClampNeg z5) z359 := ⟨_, rfl⟩
                                          have hP : va_P D vwCl (mw ad kk ks.1 V377 L309) H := by rw [hV377]; exact hP
                                          have hD : va_D A (mw ad kk ks.1 V377 L309) := by rw [hV377]; exact hD
                                          have hMV377 : rgd bM V377 := hMV365.put hV377 (i_full _)
                                          have agV377 : agr [(0, 7), (0, 8), (0, 48), (0, 50), (0, 51), (0, 52)] [15, 19, 20, 21, 22, 23, 24, 25, 26, 27, 28, 29, 30, 31, 32, 33, 34, 35, 36, 37, 38, 45, 46, 47, 53] V V377 := agV365.up hV377 rfl
                                          have pq378 : (V377 0 48).toInt = ((V 0 48)).toInt := congrArg Int32.toInt ((up2_o hV377 (by decide)).trans ((ajV365 0 48 rfl).trans ((up2_o hV356 (by decide)).trans ((ajV344 0 48 rfl).trans ((ajV321 0 48 rfl).trans ((up2_o hV314 (by decide)).trans ((ajV308 0 48 rfl).trans ((up2_o hV306 (by decide)).trans ((ajV296 0 48 rfl).trans ((ajV280 0 48 rfl).trans ((ajV263 0 48 rfl).trans ((ajV47 0 48 rfl).trans ((ajV42 0 48 rfl).trans ((ajV29 0 48 rfl).trans (ajV13 0 48 rfl)))))))))))))))
                                          have pq379 : (V377 0 12).toInt = ((V 0 12)).toInt := congrArg Int32.toInt ((up2_o hV377 (by decide)).trans ((ajV365 0 12 rfl).trans ((up2_o hV356 (by decide)).trans ((ajV344 0 12 rfl).trans ((ajV321 0 12 rfl).trans ((up2_o hV314 (by decide)).trans ((ajV308 0 12 rfl).trans ((up2_o hV306 (by decide)).trans ((ajV296 0 12 rfl).trans ((ajV280 0 12 rfl).trans ((ajV263 0 12 rfl).trans ((ajV47 0 12 rfl).trans ((ajV42 0 12 rfl).trans ((ajV29 0 12 rfl).trans (ajV13 0 12 rfl)))))))))))))))
                                          have rl380 : RelM V377 L309 bq gn gT (nx (nx (nx s1 1) 1) 1) (gs.2.1 2) := RelM.ag rl372 (show agr [] [26] V365 V377 from (agr.up agr.rf hV377 rfl)) (by decide) (show agL [] L309 L309 from agL.rf) (by decide)
                                          have ps381 : s1.1 0 + 1 ≤ (nx s1 1).1 0 := ((keepS.n1 1)).1
                                          have ps382 : (nx s1 1).1 0 + 1 ≤ (nx (nx s1 1) 1).1 0 := ((keepS.n1 1)).1
                                          have ps383 : (nx (nx s1 1) 1).1 0 + 1 ≤ (nx (nx (nx s1 1) 1) 1).1 0 := ((keepS.n1 1)).1
                                          exact J52 V377 L309 H locs ls alL309 (agr.up (agr.tr (agr.up (agr.tr (agr.tr (agr.up (agr.tr (agr.up (agr.tr (agr.tr (agr.tr agr.rf ajV263 (by decide) (by decide)) ajV280 (by decide) (by decide)) ajV296 (by decide) (by decide)) hV306 rfl) ajV308 (by decide) (by decide)) hV314 rfl) ajV321 (by decide) (by decide)) ajV344 (by decide) (by decide)) hV356 rfl) ajV365 (by decide) (by decide)) hV377 rfl) hMV377 (Or.inl ⟨W0 rl380, (nx (nx (nx s1 1) 1) 1), s0, hr373, rl380, keepS.le (keepS.tr (keepS.tr (keepS.tr (keepS.tr (keepS.rf : keepS (scopeS s0) 0 (scopeS s0)) k1) (keepS.n1 1)) (keepS.n1 1)) (keepS.n1 1)) (by decide), ((((keepS.n1 1)).2.2.1 2 (by decide)).trans ((((keepS.n1 1)).2.2.1 2 (by decide)).trans ((((keepS.n1 1)).2.2.1 2 (by decide)).trans t1))), ((congrArg (fun q9 => q9.1) ((keepS.n1 1)).2.2.2).trans ((congrArg (fun q9 => q9.1) ((keepS.n1 1)).2.2.2).trans ((congrArg (fun q9 => q9.1) ((keepS.n1 1)).2.2.2).trans w1))), (by omega)⟩) (show (V377 0 48).toInt ≤ 8000 from by first | omega | ((try (have i_t364 := Imp.go t364 (by omega))); (try (have i_t363 := Imp.go t363 (by omega))); (try (have i_t343 := Imp.go t343 (by omega))); (try (have i_t343 := Imp.go t343 (by omega))); (try (have i_t363 := Imp.go t363 (by omega))); (try (have i_t364 := Imp.go t364 (by omega))); omega)) (show (V377 0 48).toInt = (V 0 48).toInt from by first | omega | ((try (have i_t364 := Imp.go t364 (by omega))); (try (have i_t363 := Imp.go t363 (by omega))); (try (have i_t343 := Imp.go t343 (by omega))); (try (have i_t343 := Imp.go t343 (by omega))); (try (have i_t363 := Imp.go t363 (by omega))); (try (have i_t364 := Imp.go t364 (by omega))); omega)) (show (V377 0 12).toInt = (V 0 12).toInt from by first | omega | ((try (have i_t364 := Imp.go t364 (by omega))); (try (have i_t363 := Imp.go t363 (by omega))); (try (have i_t343 := Imp.go t343 (by omega))); (try (have i_t343 := Imp.go t343 (by omega))); (try (have i_t363 := Imp.go t363 (by omega))); (try (have i_t364 := Imp.go t364 (by omega))); omega)) hP hD hS (lv_sub hl [0, 1, 2, 3] rfl)
                                        · skip
                                          have hb384 : ∀ k, Rc gT (Crun gs (Istmt :: k)) (Cbad (V365 0 8).toInt) := fun k => Rc.go1 (hr353 k) ((nm_1 h369).trans (fl_eq rfl rl372))
                                          have nr385 := Imp.go t364 q368
                                          refine va_iast (D := D) (i := z5) (x := z359) hx hb hK hP hD hS 19 18 rfl rfl (i_in (a := z5.toInt) rfl (by first | exact ⟨z5r, z5s⟩ | omega | ((try (have i_t364 := Imp.go t364 (by omega))); (try (have i_t363 := Imp.go t363 (by omega))); (try (have i_t343 := Imp.go t343 (by omega))); (try (have i_t343 := Imp.go t343 (by omega))); (try (have i_t363 := Imp.go t363 (by omega))); (try (have i_t364 := Imp.go t364 (by omega))); omega))) dX12_toldComponent_261 (fun H locs hP hD hS => ?_)
                                          obtain ⟨V386, hV386⟩ : ∃ z, z = up2 V365 26 (Int32.toNatClampNeg z5) z359 := ⟨_, rfl⟩
                                          have hP : va_P D vwCl (mw ad kk ks.1 V386 L309) H := by rw [hV386]; exact hP
                                          have hD : va_D A (mw ad kk ks.1 V386 L309) := by rw [hV386]; exact hD
                                          have hMV386 : rgd bM V386 := hMV365.put hV386 (i_full _)
                                          have agV386 : agr [(0, 7), (0, 8), (0, 48), (0, 50), (0, 51), (0, 52)] [15, 19, 20, 21, 22, 23, 24, 25, 26, 27, 28, 29, 30, 31, 32, 33, 34, 35, 36, 37, 38, 45, 46, 47, 53] V V386 := agV365.up hV386 rfl
                                          have pq387 : (V386 0 48).toInt = ((V 0 48)).toInt := congrArg Int32.toInt ((up2_o hV386 (by decide)).trans ((ajV365 0 48 rfl).trans ((up2_o hV356 (by decide)).trans ((ajV344 0 48 rfl).trans ((ajV321 0 48 rfl).trans ((up2_o hV314 (by decide)).trans ((ajV308 0 48 rfl).trans ((up2_o hV306 (by decide)).trans ((ajV296 0 48 rfl).trans ((ajV280 0 48 rfl).trans ((ajV263 0 48 rfl).trans ((ajV47 0 48 rfl).trans ((ajV42 0 48 rfl).trans ((ajV29 0 48 rfl).trans (ajV13 0 48 rfl)))))))))))))))
                                          have pq388 : (V386 0 12).toInt = ((V 0 12)).toInt := congrArg Int32.toInt ((up2_o hV386 (by decide)).trans ((ajV365 0 12 rfl).trans ((up2_o hV356 (by decide)).trans ((ajV344 0 12 rfl).trans ((ajV321 0 12 rfl).trans ((up2_o hV314 (by decide)).trans ((ajV308 0 12 rfl).trans ((up2_o hV306 (by decide)).trans ((ajV296 0 12 rfl).trans ((ajV280 0 12 rfl).trans ((ajV263 0 12 rfl).trans ((ajV47 0 12 rfl).trans ((ajV42 0 12 rfl).trans ((ajV29 0 12 rfl).trans (ajV13 0 12 rfl)))))))))))))))
                                          have pq389 : (V386 0 8).toInt = ((V365 0 8)).toInt := congrArg Int32.toInt (up2_o hV386 (by decide))
                                          exact J52 V386 L309 H locs ls alL309 (agr.up (agr.tr (agr.up (agr.tr (agr.tr (agr.up (agr.tr (agr.up (agr.tr (agr.tr (agr.tr agr.rf ajV263 (by decide) (by decide)) ajV280 (by decide) (by decide)) ajV296 (by decide) (by decide)) hV306 rfl) ajV308 (by decide) (by decide)) hV314 rfl) ajV321 (by decide) (by decide)) ajV344 (by decide) (by decide)) hV356 rfl) ajV365 (by decide) (by decide)) hV386 rfl) hMV386 (Or.inr ⟨(show 1 ≤ (V386 0 8).toInt from by omega), (fun k => by rw [show (V386 0 8).toInt = (V365 0 8).toInt from by omega]; exact hb384 k)⟩) (show (V386 0 48).toInt ≤ 8000 from by first | omega | ((try (have i_t364 := Imp.go t364 (by omega))); (try (have i_t363 := Imp.go t363 (by omega))); (try (have i_t343 := Imp.go t343 (by omega))); (try (have i_t343 := Imp.go t343 (by omega))); (try (have i_t363 := Imp.go t363 (by omega))); (try (have i_t364 := Imp.go t364 (by omega))); omega)) (show (V386 0 48).toInt = (V 0 48).toInt from by first | omega | ((try (have i_t364 := Imp.go t364 (by omega))); (try (have i_t363 := Imp.go t363 (by omega))); (try (have i_t343 := Imp.go t343 (by omega))); (try (have i_t343 := Imp.go t343 (by omega))); (try (have i_t363 := Imp.go t363 (by omega))); (try (have i_t364 := Imp.go t364 (by omega))); omega)) (show (V386 0 12).toInt = (V 0 12).toInt from by first | omega | ((try (have i_t364 := Imp.go t364 (by omega))); (try (have i_t363 := Imp.go t363 (by omega))); (try (have i_t343 := Imp.go t343 (by omega))); (try (have i_t343 := Imp.go t343 (by omega))); (try (have i_t363 := Imp.go t363 (by omega))); (try (have i_t364 := Imp.go t364 (by omega))); omega)) hP hD hS (lv_sub hl [0, 1, 2, 3] rfl)
                                        · skip
                                          have hb390 : ∀ k, Rc gT (Crun gs (Istmt :: k)) (Cbad (V365 0 8).toInt) := fun k => Rc.go1 (hr353 k) ((nm_4 h369 (by omega)).trans (fl_eq rfl rl372))
                                          have nr391 := Imp.go t364 q368
                                          refine va_iast (D := D) (i := z5) (x := z359) hx hb hK hP hD hS 19 18 rfl rfl (i_in (a := z5.toInt) rfl (by first | exact ⟨z5r, z5s⟩ | omega | ((try (have i_t364 := Imp.go t364 (by omega))); (try (have i_t363 := Imp.go t363 (by omega))); (try (have i_t343 := Imp.go t343 (by omega))); (try (have i_t343 := Imp.go t343 (by omega))); (try (have i_t363 := Imp.go t363 (by omega))); (try (have i_t364 := Imp.go t364 (by omega))); omega))) dX12_toldComponent_261 (fun H locs hP hD hS => ?_)
                                          obtain ⟨V392, hV392⟩ : ∃ z, z = up2 V365 26 (Int32.toNatClampNeg z5) z359 := ⟨_, rfl⟩
                                          have hP : va_P D vwCl (mw ad kk ks.1 V392 L309) H := by rw [hV392]; exact hP
                                          have hD : va_D A (mw ad kk ks.1 V392 L309) := by rw [hV392]; exact hD
                                          have hMV392 : rgd bM V392 := hMV365.put hV392 (i_full _)
                                          have agV392 : agr [(0, 7), (0, 8), (0, 48), (0, 50), (0, 51), (0, 52)] [15, 19, 20, 21, 22, 23, 24, 25, 26, 27, 28, 29, 30, 31, 32, 33, 34, 35, 36, 37, 38, 45, 46, 47, 53] V V392 := agV365.up hV392 rfl
                                          have pq393 : (V392 0 48).toInt = ((V 0 48)).toInt := congrArg Int32.toInt ((up2_o hV392 (by decide)).trans ((ajV365 0 48 rfl).trans ((up2_o hV356 (by decide)).trans ((ajV344 0 48 rfl).trans ((ajV321 0 48 rfl).trans ((up2_o hV314 (by decide)).trans ((ajV308 0 48 rfl).trans ((up2_o hV306 (by decide)).trans ((ajV296 0 48 rfl).trans ((ajV280 0 48 rfl).trans ((ajV263 0 48 rfl).trans ((ajV47 0 48 rfl).trans ((ajV42 0 48 rfl).trans ((ajV29 0 48 rfl).trans (ajV13 0 48 rfl)))))))))))))))
                                          have pq394 : (V392 0 12).toInt = ((V 0 12)).toInt := congrArg Int32.toInt ((up2_o hV392 (by decide)).trans ((ajV365 0 12 rfl).trans ((up2_o hV356 (by decide)).trans ((ajV344 0 12 rfl).trans ((ajV321 0 12 rfl).trans ((up2_o hV314 (by decide)).trans ((ajV308 0 12 rfl).trans ((up2_o hV306 (by decide)).trans ((ajV296 0 12 rfl).trans ((ajV280 0 12 rfl).trans ((ajV263 0 12 rfl).trans ((ajV47 0 12 rfl).trans ((ajV42 0 12 rfl).trans ((ajV29 0 12 rfl).trans (ajV13 0 12 rfl)))))))))))))))
                                          have pq395 : (V392 0 8).toInt = ((V365 0 8)).toInt := congrArg Int32.toInt (up2_o hV392 (by decide))
                                          exact J52 V392 L309 H locs ls alL309 (agr.up (agr.tr (agr.up (agr.tr (agr.tr (agr.up (agr.tr (agr.up (agr.tr (agr.tr (agr.tr agr.rf ajV263 (by decide) (by decide)) ajV280 (by decide) (by decide)) ajV296 (by decide) (by decide)) hV306 rfl) ajV308 (by decide) (by decide)) hV314 rfl) ajV321 (by decide) (by decide)) ajV344 (by decide) (by decide)) hV356 rfl) ajV365 (by decide) (by decide)) hV392 rfl) hMV392 (Or.inr ⟨(show 1 ≤ (V392 0 8).toInt from by omega), (fun k => by rw [show (V392 0 8).toInt = (V365 0 8).toInt from by omega]; exact hb390 k)⟩) (show (V392 0 48).toInt ≤ 8000 from by first | omega | ((try (have i_t364 := Imp.go t364 (by omega))); (try (have i_t363 := Imp.go t363 (by omega))); (try (have i_t343 := Imp.go t343 (by omega))); (try (have i_t343 := Imp.go t343 (by omega))); (try (have i_t363 := Imp.go t363 (by omega))); (try (have i_t364 := Imp.go t364 (by omega))); omega)) (show (V392 0 48).toInt = (V 0 48).toInt from by first | omega | ((try (have i_t364 := Imp.go t364 (by omega))); (try (have i_t363 := Imp.go t363 (by omega))); (try (have i_t343 := Imp.go t343 (by omega))); (try (have i_t343 := Imp.go t343 (by omega))); (try (have i_t363 := Imp.go t363 (by omega))); (try (have i_t364 := Imp.go t364 (by omega))); omega)) (show (V392 0 12).toInt = (V 0 12).toInt from by first | omega | ((try (have i_t364 := Imp.go t364 (by omega))); (try (have i_t363 := Imp.go t363 (by omega))); (try (have i_t343 := Imp.go t343 (by omega))); (try (have i_t343 := Imp.go t343 (by omega))); (try (have i_t363 := Imp.go t363 (by omega))); (try (have i_t364 := Imp.go t364 (by omega))); omega)) hP hD hS (lv_sub hl [0, 1, 2, 3] rfl)
                                      · skip
                                        have hb396 : ∀ k, Rc gT (Crun gs (Istmt :: k)) (Cbad (V344 0 8).toInt) := fun k => Rc.go1 (hr327 k) (se_b h349)
                                        refine va_iast (D := D) (i := z5) (x := z338) hx hb hK hP hD hS 18 17 rfl rfl (i_in (a := z5.toInt) rfl (by first | exact ⟨z5r, z5s⟩ | omega | ((try (have i_t343 := Imp.go t343 (by omega))); omega))) dX12_toldComponent_247 (fun H locs hP hD hS => ?_)
                                        obtain ⟨V397, hV397⟩ : ∃ z, z = up2 V344 25 (Int32.toNatClampNeg z5) z338 := ⟨_, rfl⟩
                                        have hP : va_P D vwCl (mw ad kk ks.1 V397 L309) H := by rw [hV397]; exact hP
                                        have hD : va_D A (mw ad kk ks.1 V397 L309) := by rw [hV397]; exact hD
                                        have hMV397 : rgd bM V397 := hMV344.put hV397 (show (-1) ≤ z338.toInt ∧ z338.toInt ≤ 11 from by first | omega | ((try (have i_t343 := Imp.go t343 (by omega))); omega))
                                        have agV397 : agr [(0, 7), (0, 8), (0, 48), (0, 50), (0, 51), (0, 52)] [15, 19, 20, 21, 22, 23, 24, 25, 26, 27, 28, 29, 30, 31, 32, 33, 34, 35, 36, 37, 38, 45, 46, 47, 53] V V397 := agV344.up hV397 rfl
                                        refine lv_aload_n hx hb dX12_toldComponent_248 rfl (lv_at hl 3 rfl) ?_
                                        refine va_get (D := D) (ci := 12) (v := .ref (ad 26)) (C := RX12) (T := TX12) (N := 100) hx hb hg inX12 hown hK hP 0 rfl rfl 26 (by decide) (hg _ w1732) (fun _ h9 => h9) rfl dX12_toldComponent_249 ?_
                                        refine lv_iload_n hx hb dX12_toldComponent_252 rfl (lv_at hl 2 rfl) ?_
                                        refine lv_aload_n hx hb dX12_toldComponent_253 rfl (lv_at hl 3 rfl) ?_
                                        refine lv_iconst (v := 0) hx hb dX12_toldComponent_254 (by decide) ?_
                                        refine lv_ldcw (v := 999999999) hx hb hown (hg _ w2083) dX12_toldComponent_255 ?_
                                        have r398 : Int32.toInt 999999999 = 999999999 := by decide
                                        have pq399 : (V397 0 8).toInt = ((V344 0 8)).toInt := congrArg Int32.toInt (up2_o hV397 (by decide))
                                        refine gA_int (gA_runV (As := [.int 0, .int 999999999]) (rest := [.int z5, .ref (ad 26)]) (ci := 12) (q0 := 0) hx hb hml hown hg hP hD hK hS hA hnw hgk (s_takeNumberB l D ks H.size ad kk V397 L309 0 999999999 hMV397 (show 1 ≤ (V397 0 8).toInt from by first | omega | ((try (have i_t343 := Imp.go t343 (by omega))); omega))) w2084 w2086 w98 w172 w2087 rfl rfl hdV_yX12_takeNumber ⟨Nat.le_of_ble_eq_true rfl, Nat.le_of_ble_eq_true rfl⟩ rfl hl.1 rfl (Nat.le_of_ble_eq_true rfl) dX12_toldComponent_258 ⟨Nat.le_of_ble_eq_true rfl, Nat.le_of_ble_eq_true rfl⟩) hP hD hK hS hA (fun z400 u401 H locs w402 hP hD hK hS => ?_)
                                        obtain ⟨V404, L405⟩ := u401
                                        obtain ⟨hMV404, ajV404, axL405, rgz400, t403⟩ := w402
                                        have axL405 : L309 = L405 := Eq.symm axL405
                                        subst axL405
                                        have hP : va_P D vwCl (mw ad kk ks.1 V404 L309) H := hP
                                        have hD : va_D A (mw ad kk ks.1 V404 L309) := hD
                                        have hMV404 : rgd bM V404 := hMV404
                                        have ajV404 : agr [(0, 7), (0, 8)] [] V397 V404 := ajV404
                                        have agV404 : agr [(0, 7), (0, 8), (0, 48), (0, 50), (0, 51), (0, 52)] [15, 19, 20, 21, 22, 23, 24, 25, 26, 27, 28, 29, 30, 31, 32, 33, 34, 35, 36, 37, 38, 45, 46, 47, 53] V V404 := agV397.tr ajV404 (by decide) (by decide)
                                        have rgz400 : 0 ≤ z400.toInt ∧ z400.toInt ≤ 0 := rgz400
                                        have t403 : (V404 0 8).toInt = (V397 0 8).toInt := t403
                                        have r406 : 0 ≤ ((V404 0 8)).toInt ∧ ((V404 0 8)).toInt ≤ 70000 := hMV404 0 8
                                        refine va_iast (D := D) (i := z5) (x := z400) hx hb hK hP hD hS 19 18 rfl rfl (i_in (a := z5.toInt) rfl (by first | exact ⟨z5r, z5s⟩ | omega | ((try (have i_t343 := Imp.go t343 (by omega))); omega))) dX12_toldComponent_261 (fun H locs hP hD hS => ?_)
                                        obtain ⟨V407, hV407⟩ : ∃ z, z = up2 V404 26 (Int32.toNatClampNeg z5) z400 := ⟨_, rfl⟩
                                        have hP : va_P D vwCl (mw ad kk ks.1 V407 L309) H := by rw [hV407]; exact hP
                                        have hD : va_D A (mw ad kk ks.1 V407 L309) := by rw [hV407]; exact hD
                                        have hMV407 : rgd bM V407 := hMV404.put hV407 (i_full _)
                                        have agV407 : agr [(0, 7), (0, 8), (0, 48), (0, 50), (0, 51), (0, 52)] [15, 19, 20, 21, 22, 23, 24, 25, 26, 27, 28, 29, 30, 31, 32, 33, 34, 35, 36, 37, 38, 45, 46, 47, 53] V V407 := agV404.up hV407 rfl
                                        have pq408 : (V407 0 48).toInt = ((V 0 48)).toInt := congrArg Int32.toInt ((up2_o hV407 (by decide)).trans ((ajV404 0 48 rfl).trans ((up2_o hV397 (by decide)).trans ((ajV344 0 48 rfl).trans ((ajV321 0 48 rfl).trans ((up2_o hV314 (by decide)).trans ((ajV308 0 48 rfl).trans ((up2_o hV306 (by decide)).trans ((ajV296 0 48 rfl).trans ((ajV280 0 48 rfl).trans ((ajV263 0 48 rfl).trans ((ajV47 0 48 rfl).trans ((ajV42 0 48 rfl).trans ((ajV29 0 48 rfl).trans (ajV13 0 48 rfl)))))))))))))))
                                        have pq409 : (V407 0 12).toInt = ((V 0 12)).toInt := congrArg Int32.toInt ((up2_o hV407 (by decide)).trans ((ajV404 0 12 rfl).trans ((up2_o hV397 (by decide)).trans ((ajV344 0 12 rfl).trans ((ajV321 0 12 rfl).trans ((up2_o hV314 (by decide)).trans ((ajV308 0 12 rfl).trans ((up2_o hV306 (by decide)).trans ((ajV296 0 12 rfl).trans ((ajV280 0 12 rfl).trans ((ajV263 0 12 rfl).trans ((ajV47 0 12 rfl).trans ((ajV42 0 12 rfl).trans ((ajV29 0 12 rfl).trans (ajV13 0 12 rfl)))))))))))))))
                                        have pq410 : (V407 0 8).toInt = ((V404 0 8)).toInt := congrArg Int32.toInt (up2_o hV407 (by decide))
                                        exact J52 V407 L309 H locs ls alL309 (agr.up (agr.tr (agr.up (agr.tr (agr.tr (agr.up (agr.tr (agr.up (agr.tr (agr.tr (agr.tr agr.rf ajV263 (by decide) (by decide)) ajV280 (by decide) (by decide)) ajV296 (by decide) (by decide)) hV306 rfl) ajV308 (by decide) (by decide)) hV314 rfl) ajV321 (by decide) (by decide)) ajV344 (by decide) (by decide)) hV397 rfl) ajV404 (by decide) (by decide)) hV407 rfl) hMV407 (Or.inr ⟨(show 1 ≤ (V407 0 8).toInt from by omega), (fun k => by rw [show (V407 0 8).toInt = (V344 0 8).toInt from by omega]; exact hb396 k)⟩) (show (V407 0 48).toInt ≤ 8000 from by first | omega | ((try (have i_t343 := Imp.go t343 (by omega))); omega)) (show (V407 0 48).toInt = (V 0 48).toInt from by first | omega | ((try (have i_t343 := Imp.go t343 (by omega))); omega)) (show (V407 0 12).toInt = (V 0 12).toInt from by first | omega | ((try (have i_t343 := Imp.go t343 (by omega))); omega)) hP hD hS (lv_sub hl [0, 1, 2, 3] rfl)
                                  · skip
                                    have kd411 : gT.1 (s1.1 0) ≠ 135 := fun h9 => h324 (h9.trans (by decide))
                                    have fz412 := RelM.rg rl325
                                    have pq413 : (V321 0 8).toInt = ((V308 0 8)).toInt := congrArg Int32.toInt ((ajV321 0 8 rfl).trans (up2_o hV314 (by decide)))
                                    refine lv_if_eq (tgt := 262) hx hb dX12_toldComponent_215 (by decide) (fun c414 => ?_) (fun c414 => ?_)
                                    · skip
                                      have f415 : z317.toInt = 0 := b_eq rfl (by decide) c414
                                      have pq416 : (V321 0 48).toInt = ((V 0 48)).toInt := congrArg Int32.toInt ((ajV321 0 48 rfl).trans ((up2_o hV314 (by decide)).trans ((ajV308 0 48 rfl).trans ((up2_o hV306 (by decide)).trans ((ajV296 0 48 rfl).trans ((ajV280 0 48 rfl).trans ((ajV263 0 48 rfl).trans ((ajV47 0 48 rfl).trans ((ajV42 0 48 rfl).trans ((ajV29 0 48 rfl).trans (ajV13 0 48 rfl)))))))))))
                                      have pq417 : (V321 0 12).toInt = ((V 0 12)).toInt := congrArg Int32.toInt ((ajV321 0 12 rfl).trans ((up2_o hV314 (by decide)).trans ((ajV308 0 12 rfl).trans ((up2_o hV306 (by decide)).trans ((ajV296 0 12 rfl).trans ((ajV280 0 12 rfl).trans ((ajV263 0 12 rfl).trans ((ajV47 0 12 rfl).trans ((ajV42 0 12 rfl).trans ((ajV29 0 12 rfl).trans (ajV13 0 12 rfl)))))))))))
                                      have hr418 : ∀ k, Rc gT (Crun gs (Istmt :: k)) (Crun s1 (Itake 123 :: IaddNm wx32 :: Imember :: k)) := fun k => Rc.go1 (h1 k) (when_n  kd411)
                                      exact J52 V321 L309 H locs ls alL309 (agr.tr (agr.up (agr.tr (agr.up (agr.tr (agr.tr (agr.tr agr.rf ajV263 (by decide) (by decide)) ajV280 (by decide) (by decide)) ajV296 (by decide) (by decide)) hV306 rfl) ajV308 (by decide) (by decide)) hV314 rfl) ajV321 (by decide) (by decide)) hMV321 (Or.inl ⟨W0 rl325, s1, s0, hr418, rl325, keepS.le (keepS.tr (keepS.rf : keepS (scopeS s0) 0 (scopeS s0)) k1) (by decide), t1, w1, (by omega)⟩) (show (V321 0 48).toInt ≤ 8000 from by omega) (show (V321 0 48).toInt = (V 0 48).toInt from by omega) (show (V321 0 12).toInt = (V 0 12).toInt from by omega) hP hD hS (lv_sub hl [0, 1, 2, 3] rfl)
                                    · skip
                                      have f419 : z317.toInt ≠ 0 := b_neq rfl (by decide) c414
                                      exfalso; omega
                                · skip
                                  have r420 : 0 ≤ ((V308 0 8)).toInt ∧ ((V308 0 8)).toInt ≤ 70000 := hMV308 0 8
                                  refine lv_aload_n hx hb dX12_toldComponent_202 rfl (lv_at hl 3 rfl) ?_
                                  refine va_get (D := D) (ci := 12) (v := .ref (ad 25)) (C := RX12) (T := TX12) (N := 100) hx hb hg inX12 hown hK hP 0 rfl rfl 25 (by decide) (hg _ w1731) (fun _ h9 => h9) rfl dX12_toldComponent_203 ?_
                                  refine lv_iload_n hx hb dX12_toldComponent_206 rfl (lv_at hl 2 rfl) ?_
                                  refine lv_iconst (v := (-1)) hx hb dX12_toldComponent_207 (by decide) ?_
                                  refine va_iast (D := D) (i := z5) (x := (-1)) hx hb hK hP hD hS 18 17 rfl rfl (i_in (a := z5.toInt) rfl (by omega)) dX12_toldComponent_208 (fun H locs hP hD hS => ?_)
                                  obtain ⟨V421, hV421⟩ : ∃ z, z = up2 V308 25 (Int32.toNatClampNeg z5) (-1) := ⟨_, rfl⟩
                                  have hP : va_P D vwCl (mw ad kk ks.1 V421 L309) H := by rw [hV421]; exact hP
                                  have hD : va_D A (mw ad kk ks.1 V421 L309) := by rw [hV421]; exact hD
                                  have hMV421 : rgd bM V421 := hMV308.put hV421 (show (-1) ≤ Int32.toInt (-1) ∧ Int32.toInt (-1) ≤ 11 from by decide)
                                  have agV421 : agr [(0, 7), (0, 8), (0, 48), (0, 50), (0, 51), (0, 52)] [15, 19, 20, 21, 22, 23, 24, 25, 26, 27, 28, 29, 30, 31, 32, 33, 34, 35, 36, 37, 38, 45, 46, 47, 53] V V421 := agV308.up hV421 rfl
                                  refine lv_aload_n hx hb dX12_toldComponent_209 rfl (lv_at hl 3 rfl) ?_
                                  refine lv_bipush (v := 7) hx hb dX12_toldComponent_210 (by decide) ?_
                                  have r422 : Int32.toInt 7 = 7 := by decide
                                  have pq423 : (V421 0 8).toInt = ((V308 0 8)).toInt := congrArg Int32.toInt (up2_o hV421 (by decide))
                                  refine gA_int (gA_runV (As := [.int 7]) (rest := []) (ci := 12) (q0 := 0) hx hb hml hown hg hP hD hK hS hA hnw hgk (s_hasWordB l D ks H.size ad kk V421 L309 7 hMV421 (by decide) (show 1 ≤ (V421 0 8).toInt from by omega)) w2051 w2053 w90 w172 w2054 rfl rfl hdV_yX12_hasWord ⟨Nat.le_of_ble_eq_true rfl, Nat.le_of_ble_eq_true rfl⟩ rfl hl.1 rfl (Nat.le_of_ble_eq_true rfl) dX12_toldComponent_212 ⟨Nat.le_of_ble_eq_true rfl, Nat.le_of_ble_eq_true rfl⟩) hP hD hK hS hA (fun z424 u425 H locs w426 hP hD hK hS => ?_)
                                  obtain ⟨V428, L429⟩ := u425
                                  obtain ⟨hMV428, ajV428, axL429, rgz424, t427⟩ := w426
                                  have axL429 : L309 = L429 := Eq.symm axL429
                                  subst axL429
                                  have hP : va_P D vwCl (mw ad kk ks.1 V428 L309) H := hP
                                  have hD : va_D A (mw ad kk ks.1 V428 L309) := hD
                                  have hMV428 : rgd bM V428 := hMV428
                                  have ajV428 : agr [(0, 7)] [] V421 V428 := ajV428
                                  have agV428 : agr [(0, 7), (0, 8), (0, 48), (0, 50), (0, 51), (0, 52)] [15, 19, 20, 21, 22, 23, 24, 25, 26, 27, 28, 29, 30, 31, 32, 33, 34, 35, 36, 37, 38, 45, 46, 47, 53] V V428 := agV421.tr ajV428 (by decide) (by decide)
                                  have rgz424 : 0 ≤ z424.toInt ∧ z424.toInt ≤ 0 := rgz424
                                  have t427 : (V428 0 8).toInt = (V421 0 8).toInt := t427
                                  have pq430 : (V428 0 8).toInt = ((V308 0 8)).toInt := congrArg Int32.toInt ((ajV428 0 8 rfl).trans (up2_o hV421 (by decide)))
                                  refine lv_if_eq (tgt := 262) hx hb dX12_toldComponent_215 (by decide) (fun c431 => ?_) (fun c431 => ?_)
                                  · skip
                                    have f432 : z424.toInt = 0 := b_eq rfl (by decide) c431
                                    have pq433 : (V428 0 48).toInt = ((V 0 48)).toInt := congrArg Int32.toInt ((ajV428 0 48 rfl).trans ((up2_o hV421 (by decide)).trans ((ajV308 0 48 rfl).trans ((up2_o hV306 (by decide)).trans ((ajV296 0 48 rfl).trans ((ajV280 0 48 rfl).trans ((ajV263 0 48 rfl).trans ((ajV47 0 48 rfl).trans ((ajV42 0 48 rfl).trans ((ajV29 0 48 rfl).trans (ajV13 0 48 rfl)))))))))))
                                    have pq434 : (V428 0 12).toInt = ((V 0 12)).toInt := congrArg Int32.toInt ((ajV428 0 12 rfl).trans ((up2_o hV421 (by decide)).trans ((ajV308 0 12 rfl).trans ((up2_o hV306 (by decide)).trans ((ajV296 0 12 rfl).trans ((ajV280 0 12 rfl).trans ((ajV263 0 12 rfl).trans ((ajV47 0 12 rfl).trans ((ajV42 0 12 rfl).trans ((ajV29 0 12 rfl).trans (ajV13 0 12 rfl)))))))))))
                                    exact J52 V428 L309 H locs ls alL309 (agr.tr (agr.up (agr.tr (agr.up (agr.tr (agr.tr (agr.tr agr.rf ajV263 (by decide) (by decide)) ajV280 (by decide) (by decide)) ajV296 (by decide) (by decide)) hV306 rfl) ajV308 (by decide) (by decide)) hV421 rfl) ajV428 (by decide) (by decide)) hMV428 (Or.inr ⟨(show 1 ≤ (V428 0 8).toInt from by omega), (fun k => by rw [show (V428 0 8).toInt = (V308 0 8).toInt from by omega]; exact h1 k)⟩) (show (V428 0 48).toInt ≤ 8000 from by omega) (show (V428 0 48).toInt = (V 0 48).toInt from by omega) (show (V428 0 12).toInt = (V 0 12).toInt from by omega) hP hD hS (lv_sub hl [0, 1, 2, 3] rfl)
                                  · skip
                                    have f435 : z424.toInt ≠ 0 := b_neq rfl (by decide) c431
                                    exfalso; omega
                              have J436 : ∀ (V437 : Vf) (L438 : Lf) (H : Heap) (locs : List Loc) (ls : Array Slot), agL [15, 19, 20, 21, 22, 23, 24, 25, 26, 27, 28, 29, 30, 31, 32, 33, 34, 35, 36, 37, 38, 45, 46, 47, 53] L L438 → agr [(0, 7), (0, 8)] [23, 35, 36, 37, 38] V306 V437 → rgd bM V437 → (((V437 0 8).toInt = 0 ∧ ∃ s1 s0 : St, (∀ k, Rc gT (Crun gs (Istmt :: k)) (Crun s1 (Irank :: IwhenI :: Itake 123 :: IaddNm (wx32) :: Imember :: k))) ∧ RelM V437 L438 bq gn gT s1 (gs.2.1 2) ∧ keepS (scopeS s0) 0 s1 ∧ s1.2.1 2 = gs.2.1 2 ∧ s1.2.2.1 = gs.2.2.1 ∧ gs.1 0 + 1 ≤ s1.1 0) ∨ (1 ≤ (V437 0 8).toInt ∧ ∀ k, Rc gT (Crun gs (Istmt :: k)) (Cbad (V437 0 8).toInt))) → (V437 0 48).toInt ≤ 8000 → (V437 0 48).toInt = (V 0 48).toInt → (V437 0 12).toInt = (V 0 12).toInt → va_P D vwCl (mw ad kk ks.1 V437 L438) H → va_D A (mw ad kk ks.1 V437 L438) → va_S A s.heap H locs → lv_has ls 5 [(4, .int y46), (2, .long z25), (1, .int z5), (0, .ref (ad 0))] → W p l e r_s_toldComponentA s m ([.ref (ad 0)] : List Value).toArray below meth c H locs 0 0 (MQ below (q_s_toldComponentA D ks ad kk V L  bq gn gT gs A) ([.ref (ad 0)] : List Value).toArray s 0 0 A) (F0 m 176 ls []) := by
                                as_aux_lemma =>
                                (try clear ps305); (try clear fz303); (try clear rl302); (try clear hr301); (try clear ps290); (try clear fz288); (try clear hr287); (try clear fz271); (try clear ps270); (try clear hr269); (try clear kd268); (try clear rl257); (try clear fz39); (try clear ps38); (try clear hr37); (try clear fz21); (try clear ps20); (try clear hr19); (try clear hr18)
                                intro V437 L438 H locs ls alL438 ajV437 hMV437 xJ436_0 xJ436_1 xJ436_2 xJ436_3 hP hD hS hl
                                have agV437 : agr [(0, 7), (0, 8), (0, 48), (0, 50), (0, 51), (0, 52)] [15, 19, 20, 21, 22, 23, 24, 25, 26, 27, 28, 29, 30, 31, 32, 33, 34, 35, 36, 37, 38, 45, 46, 47, 53] V V437 := agV306.tr ajV437 (by decide) (by decide)
                                have pq439 : (V437 0 48).toInt = ((V 0 48)).toInt := congrArg Int32.toInt ((ajV437 0 48 rfl).trans ((up2_o hV306 (by decide)).trans ((ajV296 0 48 rfl).trans ((ajV280 0 48 rfl).trans ((ajV263 0 48 rfl).trans ((ajV47 0 48 rfl).trans ((ajV42 0 48 rfl).trans ((ajV29 0 48 rfl).trans (ajV13 0 48 rfl)))))))))
                                have pq440 : (V437 0 12).toInt = ((V 0 12)).toInt := congrArg Int32.toInt ((ajV437 0 12 rfl).trans ((up2_o hV306 (by decide)).trans ((ajV296 0 12 rfl).trans ((ajV280 0 12 rfl).trans ((ajV263 0 12 rfl).trans ((ajV47 0 12 rfl).trans ((ajV42 0 12 rfl).trans ((ajV29 0 12 rfl).trans (ajV13 0 12 rfl)))))))))
                                rcases xJ436_0 with ⟨f7, s1, s0, h1, r1, k1, t1, w1, g1⟩ | ⟨f7, h1⟩
                                · skip
                                  have fz441 := RelM.rg r1
                                  have r442 : 0 ≤ ((V437 0 8)).toInt ∧ ((V437 0 8)).toInt ≤ 70000 := hMV437 0 8
                                  refine lv_aload_n hx hb dX12_toldComponent_176 rfl (lv_at hl 3 rfl) ?_
                                  refine va_get (D := D) (ci := 12) (v := .ref (ad 24)) (C := RX12) (T := TX12) (N := 100) hx hb hg inX12 hown hK hP 0 rfl rfl 24 (by decide) (hg _ w1730) (fun _ h9 => h9) rfl dX12_toldComponent_177 ?_
                                  refine lv_iload_n hx hb dX12_toldComponent_180 rfl (lv_at hl 2 rfl) ?_
                                  refine lv_aload_n hx hb dX12_toldComponent_181 rfl (lv_at hl 3 rfl) ?_
                                  refine lv_bipush (v := 6) hx hb dX12_toldComponent_182 (by decide) ?_
                                  have r443 : Int32.toInt 6 = 6 := by decide
                                  refine gA_int (gA_runV (As := [.int 6]) (rest := [.int z5, .ref (ad 24)]) (ci := 12) (q0 := 0) hx hb hml hown hg hP hD hK hS hA hnw hgk (s_hasWordA l D ks H.size ad kk V437 L438 6 (bq) (gn) (gT) (s1) ((gs.2.1 2)) hMV437 (by decide) r1) w2051 w2053 w90 w172 w2054 rfl rfl hdV_yX12_hasWord ⟨Nat.le_of_ble_eq_true rfl, Nat.le_of_ble_eq_true rfl⟩ rfl hl.1 rfl (Nat.le_of_ble_eq_true rfl) dX12_toldComponent_184 ⟨Nat.le_of_ble_eq_true rfl, Nat.le_of_ble_eq_true rfl⟩) hP hD hK hS hA (fun z444 u445 H locs w446 hP hD hK hS => ?_)
                                  obtain ⟨V448, L449⟩ := u445
                                  obtain ⟨hMV448, ajV448, axL449, rgz444, t447⟩ := w446
                                  have axL449 : L438 = L449 := Eq.symm axL449
                                  subst axL449
                                  have hP : va_P D vwCl (mw ad kk ks.1 V448 L438) H := hP
                                  have hD : va_D A (mw ad kk ks.1 V448 L438) := hD
                                  have hMV448 : rgd bM V448 := hMV448
                                  have ajV448 : agr [(0, 7)] [] V437 V448 := ajV448
                                  have agV448 : agr [(0, 7), (0, 8), (0, 48), (0, 50), (0, 51), (0, 52)] [15, 19, 20, 21, 22, 23, 24, 25, 26, 27, 28, 29, 30, 31, 32, 33, 34, 35, 36, 37, 38, 45, 46, 47, 53] V V448 := agV437.tr ajV448 (by decide) (by decide)
                                  have rgz444 : 0 ≤ z444.toInt ∧ z444.toInt ≤ 1 := rgz444
                                  have t447 : (z444.toInt = 1 ∧ (gT).1 ((s1).1 0) = 128 + (Int32.toInt 6) ∧ RelM V448 L438 (bq) (gn) (gT) (nx (s1) 1) ((gs.2.1 2))) ∨ (z444.toInt = 0 ∧ (gT).1 ((s1).1 0) ≠ 128 + (Int32.toInt 6) ∧ RelM V448 L438 (bq) (gn) (gT) (s1) ((gs.2.1 2))) := t447
                                  rcases t447 with ⟨q450, h451, rl452⟩ | ⟨q450, h451, rl452⟩
                                  · skip
                                    have kd453 : gT.1 (s1.1 0) = 134 := h451.trans (by decide)
                                    have hr454 : ∀ k, Rc gT (Crun gs (Istmt :: k)) (Crun (nx s1 1) (Inum 0 9 :: IwhenI :: Itake 123 :: IaddNm wx32 :: Imember :: k)) := fun k => Rc.go1 (h1 k) (rank_y  kd453)
                                    have ps455 : (nx s1 1).1 0 = s1.1 0 + 1 := rfl
                                    have fz456 := RelM.rg rl452
                                    have pq457 : (V448 0 8).toInt = ((V437 0 8)).toInt := congrArg Int32.toInt (ajV448 0 8 rfl)
                                    refine lv_if_eq (tgt := 200) hx hb dX12_toldComponent_187 (by decide) (fun c458 => ?_) (fun c458 => ?_)
                                    · skip
                                      have f459 : z444.toInt = 0 := b_eq rfl (by decide) c458
                                      exfalso; omega
                                    · skip
                                      have f460 : z444.toInt ≠ 0 := b_neq rfl (by decide) c458
                                      refine lv_aload_n hx hb dX12_toldComponent_190 rfl (lv_at hl 3 rfl) ?_
                                      refine lv_iconst (v := 0) hx hb dX12_toldComponent_191 (by decide) ?_
                                      refine lv_bipush (v := 9) hx hb dX12_toldComponent_192 (by decide) ?_
                                      have r461 : Int32.toInt 9 = 9 := by decide
                                      refine gA_int (gA_runV (As := [.int 0, .int 9]) (rest := [.int z5, .ref (ad 24)]) (ci := 12) (q0 := 0) hx hb hml hown hg hP hD hK hS hA hnw hgk (s_takeNumberA l D ks H.size ad kk V448 L438 0 9 (bq) (gn) (gT) ((nx s1 1)) ((gs.2.1 2)) hMV448 rl452 (show -1 ≤ (Int32.toInt 9) ∧ (Int32.toInt 9) ≤ 999999999 from by omega) (show 0 ≤ (Int32.toInt 0) from by omega)) w2084 w2086 w98 w172 w2087 rfl rfl hdV_yX12_takeNumber ⟨Nat.le_of_ble_eq_true rfl, Nat.le_of_ble_eq_true rfl⟩ rfl hl.1 rfl (Nat.le_of_ble_eq_true rfl) dX12_toldComponent_194 ⟨Nat.le_of_ble_eq_true rfl, Nat.le_of_ble_eq_true rfl⟩) hP hD hK hS hA (fun z462 u463 H locs w464 hP hD hK hS => ?_)
                                      obtain ⟨V468, L469⟩ := u463
                                      obtain ⟨hMV468, ajV468, axL469, t465, t466, t467⟩ := w464
                                      have axL469 : L438 = L469 := Eq.symm axL469
                                      subst axL469
                                      have hP : va_P D vwCl (mw ad kk ks.1 V468 L438) H := hP
                                      have hD : va_D A (mw ad kk ks.1 V468 L438) := hD
                                      have hMV468 : rgd bM V468 := hMV468
                                      have ajV468 : agr [(0, 7), (0, 8)] [] V448 V468 := ajV468
                                      have agV468 : agr [(0, 7), (0, 8), (0, 48), (0, 50), (0, 51), (0, 52)] [15, 19, 20, 21, 22, 23, 24, 25, 26, 27, 28, 29, 30, 31, 32, 33, 34, 35, 36, 37, 38, 45, 46, 47, 53] V V468 := agV448.tr ajV468 (by decide) (by decide)
                                      have t465 : ((V468 0 8).toInt = 0 ∧ (gT).1 (((nx s1 1)).1 0) = 2 ∧ (Int32.toInt 0) ≤ ((gT).2.1 (((nx s1 1)).1 0)).toInt ∧ ((gT).2.1 (((nx s1 1)).1 0)).toInt ≤ (Int32.toInt 9) ∧ RelM V468 L438 (bq) (gn) (gT) (nx ((nx s1 1)) 1) ((gs.2.1 2))) ∨ (1 ≤ (V468 0 8).toInt ∧ (((gT).1 (((nx s1 1)).1 0) ≠ 2 ∧ (V468 0 8).toInt = 1 + 16 * (gT).2.2 (((nx s1 1)).1 0)) ∨ ((gT).1 (((nx s1 1)).1 0) = 2 ∧ (((gT).2.1 (((nx s1 1)).1 0)).toInt < (Int32.toInt 0) ∨ (Int32.toInt 9) < ((gT).2.1 (((nx s1 1)).1 0)).toInt) ∧ (V468 0 8).toInt = 4 + 16 * (gT).2.2 (((nx s1 1)).1 0)))) := t465
                                      have t466 : Imp ((V468 0 8).toInt = 0) ((Int32.toInt 0) ≤ z462.toInt ∧ z462.toInt ≤ (Int32.toInt 9)) := t466
                                      have t467 : Imp (1 ≤ (V468 0 8).toInt) (z462.toInt = 0) := t467
                                      have r470 : 0 ≤ ((V468 0 8)).toInt ∧ ((V468 0 8)).toInt ≤ 70000 := hMV468 0 8
                                      rcases t465 with ⟨q471, h472, h473, h474, rl475⟩ | ⟨q471, ⟨h472, rl475⟩ | ⟨h472, h473, rl475⟩⟩
                                      · skip
                                        have hr476 : ∀ k, Rc gT (Crun gs (Istmt :: k)) (Crun (nx (nx s1 1) 1) (IwhenI :: Itake 123 :: IaddNm wx32 :: Imember :: k)) := fun k => Rc.go1 (hr454 k) (nm_y h472 (by omega) (by omega))
                                        have ps477 : (nx (nx s1 1) 1).1 0 = (nx s1 1).1 0 + 1 := rfl
                                        have fz478 := RelM.rg rl475
                                        have nr479 := Imp.go t466 q471
                                        refine lv_goto (tgt := 201) hx hb dX12_toldComponent_197 (by decide) ?_
                                        refine va_iast (D := D) (i := z5) (x := z462) hx hb hK hP hD hS 17 16 rfl rfl (i_in (a := z5.toInt) rfl (by first | exact ⟨z5r, z5s⟩ | omega | ((try (have i_t467 := Imp.go t467 (by omega))); (try (have i_t466 := Imp.go t466 (by omega))); (try (have i_t466 := Imp.go t466 (by omega))); (try (have i_t467 := Imp.go t467 (by omega))); omega))) dX12_toldComponent_201 (fun H locs hP hD hS => ?_)
                                        obtain ⟨V480, hV480⟩ : ∃ z, z = up2 V468 24 (Int32.toNatClampNeg z5) z462 := ⟨_, rfl⟩
                                        have hP : va_P D vwCl (mw ad kk ks.1 V480 L438) H := by rw [hV480]; exact hP
                                        have hD : va_D A (mw ad kk ks.1 V480 L438) := by rw [hV480]; exact hD
                                        have hMV480 : rgd bM V480 := hMV468.put hV480 (show 0 ≤ z462.toInt ∧ z462.toInt ≤ 9 from by first | omega | ((try (have i_t467 := Imp.go t467 (by omega))); (try (have i_t466 := Imp.go t466 (by omega))); (try (have i_t466 := Imp.go t466 (by omega))); (try (have i_t467 := Imp.go t467 (by omega))); omega))
                                        have agV480 : agr [(0, 7), (0, 8), (0, 48), (0, 50), (0, 51), (0, 52)] [15, 19, 20, 21, 22, 23, 24, 25, 26, 27, 28, 29, 30, 31, 32, 33, 34, 35, 36, 37, 38, 45, 46, 47, 53] V V480 := agV468.up hV480 rfl
                                        have pq481 : (V480 0 48).toInt = ((V 0 48)).toInt := congrArg Int32.toInt ((up2_o hV480 (by decide)).trans ((ajV468 0 48 rfl).trans ((ajV448 0 48 rfl).trans ((ajV437 0 48 rfl).trans ((up2_o hV306 (by decide)).trans ((ajV296 0 48 rfl).trans ((ajV280 0 48 rfl).trans ((ajV263 0 48 rfl).trans ((ajV47 0 48 rfl).trans ((ajV42 0 48 rfl).trans ((ajV29 0 48 rfl).trans (ajV13 0 48 rfl))))))))))))
                                        have pq482 : (V480 0 12).toInt = ((V 0 12)).toInt := congrArg Int32.toInt ((up2_o hV480 (by decide)).trans ((ajV468 0 12 rfl).trans ((ajV448 0 12 rfl).trans ((ajV437 0 12 rfl).trans ((up2_o hV306 (by decide)).trans ((ajV296 0 12 rfl).trans ((ajV280 0 12 rfl).trans ((ajV263 0 12 rfl).trans ((ajV47 0 12 rfl).trans ((ajV42 0 12 rfl).trans ((ajV29 0 12 rfl).trans (ajV13 0 12 rfl))))))))))))
                                        have rl483 : RelM V480 L438 bq gn gT (nx (nx s1 1) 1) (gs.2.1 2) := RelM.ag rl475 (show agr [] [24] V468 V480 from (agr.up agr.rf hV480 rfl)) (by decide) (show agL [] L438 L438 from agL.rf) (by decide)
                                        have ps484 : s1.1 0 + 1 ≤ (nx s1 1).1 0 := ((keepS.n1 1)).1
                                        have ps485 : (nx s1 1).1 0 + 1 ≤ (nx (nx s1 1) 1).1 0 := ((keepS.n1 1)).1
                                        exact J307 V480 L438 H locs ls alL438 (agr.up (agr.tr (agr.tr (agr.tr agr.rf ajV437 (by decide) (by decide)) ajV448 (by decide) (by decide)) ajV468 (by decide) (by decide)) hV480 rfl) hMV480 (Or.inl ⟨W0 rl483, (nx (nx s1 1) 1), s0, hr476, rl483, keepS.le (keepS.tr (keepS.tr (keepS.tr (keepS.rf : keepS (scopeS s0) 0 (scopeS s0)) k1) (keepS.n1 1)) (keepS.n1 1)) (by decide), ((((keepS.n1 1)).2.2.1 2 (by decide)).trans ((((keepS.n1 1)).2.2.1 2 (by decide)).trans t1)), ((congrArg (fun q9 => q9.1) ((keepS.n1 1)).2.2.2).trans ((congrArg (fun q9 => q9.1) ((keepS.n1 1)).2.2.2).trans w1)), (by omega)⟩) (show (V480 0 48).toInt ≤ 8000 from by first | omega | ((try (have i_t467 := Imp.go t467 (by omega))); (try (have i_t466 := Imp.go t466 (by omega))); (try (have i_t466 := Imp.go t466 (by omega))); (try (have i_t467 := Imp.go t467 (by omega))); omega)) (show (V480 0 48).toInt = (V 0 48).toInt from by first | omega | ((try (have i_t467 := Imp.go t467 (by omega))); (try (have i_t466 := Imp.go t466 (by omega))); (try (have i_t466 := Imp.go t466 (by omega))); (try (have i_t467 := Imp.go t467 (by omega))); omega)) (show (V480 0 12).toInt = (V 0 12).toInt from by first | omega | ((try (have i_t467 := Imp.go t467 (by omega))); (try (have i_t466 := Imp.go t466 (by omega))); (try (have i_t466 := Imp.go t466 (by omega))); (try (have i_t467 := Imp.go t467 (by omega))); omega)) hP hD hS (lv_sub hl [0, 1, 2, 3] rfl)
                                      · skip
                                        have hb486 : ∀ k, Rc gT (Crun gs (Istmt :: k)) (Cbad (V468 0 8).toInt) := fun k => Rc.go1 (hr454 k) ((nm_1 h472).trans (fl_eq rfl rl475))
                                        have nr487 := Imp.go t467 q471
                                        refine lv_goto (tgt := 201) hx hb dX12_toldComponent_197 (by decide) ?_
                                        refine va_iast (D := D) (i := z5) (x := z462) hx hb hK hP hD hS 17 16 rfl rfl (i_in (a := z5.toInt) rfl (by first | exact ⟨z5r, z5s⟩ | omega | ((try (have i_t467 := Imp.go t467 (by omega))); (try (have i_t466 := Imp.go t466 (by omega))); (try (have i_t466 := Imp.go t466 (by omega))); (try (have i_t467 := Imp.go t467 (by omega))); omega))) dX12_toldComponent_201 (fun H locs hP hD hS => ?_)
                                        obtain ⟨V488, hV488⟩ : ∃ z, z = up2 V468 24 (Int32.toNatClampNeg z5) z462 := ⟨_, rfl⟩
                                        have hP : va_P D vwCl (mw ad kk ks.1 V488 L438) H := by rw [hV488]; exact hP
                                        have hD : va_D A (mw ad kk ks.1 V488 L438) := by rw [hV488]; exact hD
                                        have hMV488 : rgd bM V488 := hMV468.put hV488 (show 0 ≤ z462.toInt ∧ z462.toInt ≤ 9 from by first | omega | ((try (have i_t467 := Imp.go t467 (by omega))); (try (have i_t466 := Imp.go t466 (by omega))); (try (have i_t466 := Imp.go t466 (by omega))); (try (have i_t467 := Imp.go t467 (by omega))); omega))
                                        have agV488 : agr [(0, 7), (0, 8), (0, 48), (0, 50), (0, 51), (0, 52)] [15, 19, 20, 21, 22, 23, 24, 25, 26, 27, 28, 29, 30, 31, 32, 33, 34, 35, 36, 37, 38, 45, 46, 47, 53] V V488 := agV468.up hV488 rfl
                                        have pq489 : (V488 0 48).toInt = ((V 0 48)).toInt := congrArg Int32.toInt ((up2_o hV488 (by decide)).trans ((ajV468 0 48 rfl).trans ((ajV448 0 48 rfl).trans ((ajV437 0 48 rfl).trans ((up2_o hV306 (by decide)).trans ((ajV296 0 48 rfl).trans ((ajV280 0 48 rfl).trans ((ajV263 0 48 rfl).trans ((ajV47 0 48 rfl).trans ((ajV42 0 48 rfl).trans ((ajV29 0 48 rfl).trans (ajV13 0 48 rfl))))))))))))
                                        have pq490 : (V488 0 12).toInt = ((V 0 12)).toInt := congrArg Int32.toInt ((up2_o hV488 (by decide)).trans ((ajV468 0 12 rfl).trans ((ajV448 0 12 rfl).trans ((ajV437 0 12 rfl).trans ((up2_o hV306 (by decide)).trans ((ajV296 0 12 rfl).trans ((ajV280 0 12 rfl).trans ((ajV263 0 12 rfl).trans ((ajV47 0 12 rfl).trans ((ajV42 0 12 rfl).trans ((ajV29 0 12 rfl).trans (ajV13 0 12 rfl))))))))))))
                                        have pq491 : (V488 0 8).toInt = ((V468 0 8)).toInt := congrArg Int32.toInt (up2_o hV488 (by decide))
                                        exact J307 V488 L438 H locs ls alL438 (agr.up (agr.tr (agr.tr (agr.tr agr.rf ajV437 (by decide) (by decide)) ajV448 (by decide) (by decide)) ajV468 (by decide) (by decide)) hV488 rfl) hMV488 (Or.inr ⟨(show 1 ≤ (V488 0 8).toInt from by omega), (fun k => by rw [show (V488 0 8).toInt = (V468 0 8).toInt from by omega]; exact hb486 k)⟩) (show (V488 0 48).toInt ≤ 8000 from by first | omega | ((try (have i_t467 := Imp.go t467 (by omega))); (try (have i_t466 := Imp.go t466 (by omega))); (try (have i_t466 := Imp.go t466 (by omega))); (try (have i_t467 := Imp.go t467 (by omega))); omega)) (show (V488 0 48).toInt = (V 0 48).toInt from by first | omega | ((try (have i_t467 := Imp.go t467 (by omega))); (try (have i_t466 := Imp.go t466 (by omega))); (try (have i_t466 := Imp.go t466 (by omega))); (try (have i_t467 := Imp.go t467 (by omega))); omega)) (show (V488 0 12).toInt = (V 0 12).toInt from by first | omega | ((try (have i_t467 := Imp.go t467 (by omega))); (try (have i_t466 := Imp.go t466 (by omega))); (try (have i_t466 := Imp.go t466 (by omega))); (try (have i_t467 := Imp.go t467 (by omega))); omega)) hP hD hS (lv_sub hl [0, 1, 2, 3] rfl)
                                      · skip
                                        have hb492 : ∀ k, Rc gT (Crun gs (Istmt :: k)) (Cbad (V468 0 8).toInt) := fun k => Rc.go1 (hr454 k) ((nm_4 h472 (by omega)).trans (fl_eq rfl rl475))
                                        have nr493 := Imp.go t467 q471
                                        refine lv_goto (tgt := 201) hx hb dX12_toldComponent_197 (by decide) ?_
                                        refine va_iast (D := D) (i := z5) (x := z462) hx hb hK hP hD hS 17 16 rfl rfl (i_in (a := z5.toInt) rfl (by first | exact ⟨z5r, z5s⟩ | omega | ((try (have i_t467 := Imp.go t467 (by omega))); (try (have i_t466 := Imp.go t466 (by omega))); (try (have i_t466 := Imp.go t466 (by omega))); (try (have i_t467 := Imp.go t467 (by omega))); omega))) dX12_toldComponent_201 (fun H locs hP hD hS => ?_)
                                        obtain ⟨V494, hV494⟩ : ∃ z, z = up2 V468 24 (Int32.toNatClampNeg z5) z462 := ⟨_, rfl⟩
                                        have hP : va_P D vwCl (mw ad kk ks.1 V494 L438) H := by rw [hV494]; exact hP
                                        have hD : va_D A (mw ad kk ks.1 V494 L438) := by rw [hV494]; exact hD
                                        have hMV494 : rgd bM V494 := hMV468.put hV494 (show 0 ≤ z462.toInt ∧ z462.toInt ≤ 9 from by first | omega | ((try (have i_t467 := Imp.go t467 (by omega))); (try (have i_t466 := Imp.go t466 (by omega))); (try (have i_t466 := Imp.go t466 (by omega))); (try (have i_t467 := Imp.go t467 (by omega))); omega))
                                        have agV494 : agr [(0, 7), (0, 8), (0, 48), (0, 50), (0, 51), (0, 52)] [15, 19, 20, 21, 22, 23, 24, 25, 26, 27, 28, 29, 30, 31, 32, 33, 34, 35, 36, 37, 38, 45, 46, 47, 53] V V494 := agV468.up hV494 rfl
                                        have pq495 : (V494 0 48).toInt = ((V 0 48)).toInt := congrArg Int32.toInt ((up2_o hV494 (by decide)).trans ((ajV468 0 48 rfl).trans ((ajV448 0 48 rfl).trans ((ajV437 0 48 rfl).trans ((up2_o hV306 (by decide)).trans ((ajV296 0 48 rfl).trans ((ajV280 0 48 rfl).trans ((ajV263 0 48 rfl).trans ((ajV47 0 48 rfl).trans ((ajV42 0 48 rfl).trans ((ajV29 0 48 rfl).trans (ajV13 0 48 rfl))))))))))))
                                        have pq496 : (V494 0 12).toInt = ((V 0 12)).toInt := congrArg Int32.toInt ((up2_o hV494 (by decide)).trans ((ajV468 0 12 rfl).trans ((ajV448 0 12 rfl).trans ((ajV437 0 12 rfl).trans ((up2_o hV306 (by decide)).trans ((ajV296 0 12 rfl).trans ((ajV280 0 12 rfl).trans ((ajV263 0 12 rfl).trans ((ajV47 0 12 rfl).trans ((ajV42 0 12 rfl).trans ((ajV29 0 12 rfl).trans (ajV13 0 12 rfl))))))))))))
                                        have pq497 : (V494 0 8).toInt = ((V468 0 8)).toInt := congrArg Int32.toInt (up2_o hV494 (by decide))
                                        exact J307 V494 L438 H locs ls alL438 (agr.up (agr.tr (agr.tr (agr.tr agr.rf ajV437 (by decide) (by decide)) ajV448 (by decide) (by decide)) ajV468 (by decide) (by decide)) hV494 rfl) hMV494 (Or.inr ⟨(show 1 ≤ (V494 0 8).toInt from by omega), (fun k => by rw [show (V494 0 8).toInt = (V468 0 8).toInt from by omega]; exact hb492 k)⟩) (show (V494 0 48).toInt ≤ 8000 from by first | omega | ((try (have i_t467 := Imp.go t467 (by omega))); (try (have i_t466 := Imp.go t466 (by omega))); (try (have i_t466 := Imp.go t466 (by omega))); (try (have i_t467 := Imp.go t467 (by omega))); omega)) (show (V494 0 48).toInt = (V 0 48).toInt from by first | omega | ((try (have i_t467 := Imp.go t467 (by omega))); (try (have i_t466 := Imp.go t466 (by omega))); (try (have i_t466 := Imp.go t466 (by omega))); (try (have i_t467 := Imp.go t467 (by omega))); omega)) (show (V494 0 12).toInt = (V 0 12).toInt from by first | omega | ((try (have i_t467 := Imp.go t467 (by omega))); (try (have i_t466 := Imp.go t466 (by omega))); (try (have i_t466 := Imp.go t466 (by omega))); (try (have i_t467 := Imp.go t467 (by omega))); omega)) hP hD hS (lv_sub hl [0, 1, 2, 3] rfl)
                                  · skip
                                    have kd498 : gT.1 (s1.1 0) ≠ 134 := fun h9 => h451 (h9.trans (by decide))
                                    have fz499 := RelM.rg rl452
                                    have pq500 : (V448 0 8).toInt = ((V437 0 8)).toInt := congrArg Int32.toInt (ajV448 0 8 rfl)
                                    refine lv_if_eq (tgt := 200) hx hb dX12_toldComponent_187 (by decide) (fun c501 => ?_) (fun c501 => ?_)
                                    · skip
                                      have f502 : z444.toInt = 0 := b_eq rfl (by decide) c501
                                      refine lv_iconst (v := 0) hx hb dX12_toldComponent_200 (by decide) ?_
                                      refine va_iast (D := D) (i := z5) (x := 0) hx hb hK hP hD hS 17 16 rfl rfl (i_in (a := z5.toInt) rfl (by omega)) dX12_toldComponent_201 (fun H locs hP hD hS => ?_)
                                      obtain ⟨V503, hV503⟩ : ∃ z, z = up2 V448 24 (Int32.toNatClampNeg z5) 0 := ⟨_, rfl⟩
                                      have hP : va_P D vwCl (mw ad kk ks.1 V503 L438) H := by rw [hV503]; exact hP
                                      have hD : va_D A (mw ad kk ks.1 V503 L438) := by rw [hV503]; exact hD
                                      have hMV503 : rgd bM V503 := hMV448.put hV503 (show 0 ≤ Int32.toInt 0 ∧ Int32.toInt 0 ≤ 9 from by decide)
                                      have agV503 : agr [(0, 7), (0, 8), (0, 48), (0, 50), (0, 51), (0, 52)] [15, 19, 20, 21, 22, 23, 24, 25, 26, 27, 28, 29, 30, 31, 32, 33, 34, 35, 36, 37, 38, 45, 46, 47, 53] V V503 := agV448.up hV503 rfl
                                      have pq504 : (V503 0 48).toInt = ((V 0 48)).toInt := congrArg Int32.toInt ((up2_o hV503 (by decide)).trans ((ajV448 0 48 rfl).trans ((ajV437 0 48 rfl).trans ((up2_o hV306 (by decide)).trans ((ajV296 0 48 rfl).trans ((ajV280 0 48 rfl).trans ((ajV263 0 48 rfl).trans ((ajV47 0 48 rfl).trans ((ajV42 0 48 rfl).trans ((ajV29 0 48 rfl).trans (ajV13 0 48 rfl)))))))))))
                                      have pq505 : (V503 0 12).toInt = ((V 0 12)).toInt := congrArg Int32.toInt ((up2_o hV503 (by decide)).trans ((ajV448 0 12 rfl).trans ((ajV437 0 12 rfl).trans ((up2_o hV306 (by decide)).trans ((ajV296 0 12 rfl).trans ((ajV280 0 12 rfl).trans ((ajV263 0 12 rfl).trans ((ajV47 0 12 rfl).trans ((ajV42 0 12 rfl).trans ((ajV29 0 12 rfl).trans (ajV13 0 12 rfl)))))))))))
                                      have hr506 : ∀ k, Rc gT (Crun gs (Istmt :: k)) (Crun s1 (IwhenI :: Itake 123 :: IaddNm wx32 :: Imember :: k)) := fun k => Rc.go1 (h1 k) (rank_n  kd498)
                                      have rl507 : RelM V503 L438 bq gn gT s1 (gs.2.1 2) := RelM.ag rl452 (show agr [] [24] V448 V503 from (agr.up agr.rf hV503 rfl)) (by decide) (show agL [] L438 L438 from agL.rf) (by decide)
                                      exact J307 V503 L438 H locs ls alL438 (agr.up (agr.tr (agr.tr agr.rf ajV437 (by decide) (by decide)) ajV448 (by decide) (by decide)) hV503 rfl) hMV503 (Or.inl ⟨W0 rl507, s1, s0, hr506, rl507, keepS.le (keepS.tr (keepS.rf : keepS (scopeS s0) 0 (scopeS s0)) k1) (by decide), t1, w1, (by omega)⟩) (show (V503 0 48).toInt ≤ 8000 from by omega) (show (V503 0 48).toInt = (V 0 48).toInt from by omega) (show (V503 0 12).toInt = (V 0 12).toInt from by omega) hP hD hS (lv_sub hl [0, 1, 2, 3] rfl)
                                    · skip
                                      have f508 : z444.toInt ≠ 0 := b_neq rfl (by decide) c501
                                      exfalso; omega
                                · skip
                                  have r509 : 0 ≤ ((V437 0 8)).toInt ∧ ((V437 0 8)).toInt ≤ 70000 := hMV437 0 8
                                  refine lv_aload_n hx hb dX12_toldComponent_176 rfl (lv_at hl 3 rfl) ?_
                                  refine va_get (D := D) (ci := 12) (v := .ref (ad 24)) (C := RX12) (T := TX12) (N := 100) hx hb hg inX12 hown hK hP 0 rfl rfl 24 (by decide) (hg _ w1730) (fun _ h9 => h9) rfl dX12_toldComponent_177 ?_
                                  refine lv_iload_n hx hb dX12_toldComponent_180 rfl (lv_at hl 2 rfl) ?_
                                  refine lv_aload_n hx hb dX12_toldComponent_181 rfl (lv_at hl 3 rfl) ?_
                                  refine lv_bipush (v := 6) hx hb dX12_toldComponent_182 (by decide) ?_
                                  have r510 : Int32.toInt 6 = 6 := by decide
                                  refine gA_int (gA_runV (As := [.int 6]) (rest := [.int z5, .ref (ad 24)]) (ci := 12) (q0 := 0) hx hb hml hown hg hP hD hK hS hA hnw hgk (s_hasWordB l D ks H.size ad kk V437 L438 6 hMV437 (by decide) (show 1 ≤ (V437 0 8).toInt from by omega)) w2051 w2053 w90 w172 w2054 rfl rfl hdV_yX12_hasWord ⟨Nat.le_of_ble_eq_true rfl, Nat.le_of_ble_eq_true rfl⟩ rfl hl.1 rfl (Nat.le_of_ble_eq_true rfl) dX12_toldComponent_184 ⟨Nat.le_of_ble_eq_true rfl, Nat.le_of_ble_eq_true rfl⟩) hP hD hK hS hA (fun z511 u512 H locs w513 hP hD hK hS => ?_)
                                  obtain ⟨V515, L516⟩ := u512
                                  obtain ⟨hMV515, ajV515, axL516, rgz511, t514⟩ := w513
                                  have axL516 : L438 = L516 := Eq.symm axL516
                                  subst axL516
                                  have hP : va_P D vwCl (mw ad kk ks.1 V515 L438) H := hP
                                  have hD : va_D A (mw ad kk ks.1 V515 L438) := hD
                                  have hMV515 : rgd bM V515 := hMV515
                                  have ajV515 : agr [(0, 7)] [] V437 V515 := ajV515
                                  have agV515 : agr [(0, 7), (0, 8), (0, 48), (0, 50), (0, 51), (0, 52)] [15, 19, 20, 21, 22, 23, 24, 25, 26, 27, 28, 29, 30, 31, 32, 33, 34, 35, 36, 37, 38, 45, 46, 47, 53] V V515 := agV437.tr ajV515 (by decide) (by decide)
                                  have rgz511 : 0 ≤ z511.toInt ∧ z511.toInt ≤ 0 := rgz511
                                  have t514 : (V515 0 8).toInt = (V437 0 8).toInt := t514
                                  have pq517 : (V515 0 8).toInt = ((V437 0 8)).toInt := congrArg Int32.toInt (ajV515 0 8 rfl)
                                  refine lv_if_eq (tgt := 200) hx hb dX12_toldComponent_187 (by decide) (fun c518 => ?_) (fun c518 => ?_)
                                  · skip
                                    have f519 : z511.toInt = 0 := b_eq rfl (by decide) c518
                                    refine lv_iconst (v := 0) hx hb dX12_toldComponent_200 (by decide) ?_
                                    refine va_iast (D := D) (i := z5) (x := 0) hx hb hK hP hD hS 17 16 rfl rfl (i_in (a := z5.toInt) rfl (by omega)) dX12_toldComponent_201 (fun H locs hP hD hS => ?_)
                                    obtain ⟨V520, hV520⟩ : ∃ z, z = up2 V515 24 (Int32.toNatClampNeg z5) 0 := ⟨_, rfl⟩
                                    have hP : va_P D vwCl (mw ad kk ks.1 V520 L438) H := by rw [hV520]; exact hP
                                    have hD : va_D A (mw ad kk ks.1 V520 L438) := by rw [hV520]; exact hD
                                    have hMV520 : rgd bM V520 := hMV515.put hV520 (show 0 ≤ Int32.toInt 0 ∧ Int32.toInt 0 ≤ 9 from by decide)
                                    have agV520 : agr [(0, 7), (0, 8), (0, 48), (0, 50), (0, 51), (0, 52)] [15, 19, 20, 21, 22, 23, 24, 25, 26, 27, 28, 29, 30, 31, 32, 33, 34, 35, 36, 37, 38, 45, 46, 47, 53] V V520 := agV515.up hV520 rfl
                                    have pq521 : (V520 0 48).toInt = ((V 0 48)).toInt := congrArg Int32.toInt ((up2_o hV520 (by decide)).trans ((ajV515 0 48 rfl).trans ((ajV437 0 48 rfl).trans ((up2_o hV306 (by decide)).trans ((ajV296 0 48 rfl).trans ((ajV280 0 48 rfl).trans ((ajV263 0 48 rfl).trans ((ajV47 0 48 rfl).trans ((ajV42 0 48 rfl).trans ((ajV29 0 48 rfl).trans (ajV13 0 48 rfl)))))))))))
                                    have pq522 : (V520 0 12).toInt = ((V 0 12)).toInt := congrArg Int32.toInt ((up2_o hV520 (by decide)).trans ((ajV515 0 12 rfl).trans ((ajV437 0 12 rfl).trans ((up2_o hV306 (by decide)).trans ((ajV296 0 12 rfl).trans ((ajV280 0 12 rfl).trans ((ajV263 0 12 rfl).trans ((ajV47 0 12 rfl).trans ((ajV42 0 12 rfl).trans ((ajV29 0 12 rfl).trans (ajV13 0 12 rfl)))))))))))
                                    have pq523 : (V520 0 8).toInt = ((V437 0 8)).toInt := congrArg Int32.toInt ((up2_o hV520 (by decide)).trans (ajV515 0 8 rfl))
                                    exact J307 V520 L438 H locs ls alL438 (agr.up (agr.tr (agr.tr agr.rf ajV437 (by decide) (by decide)) ajV515 (by decide) (by decide)) hV520 rfl) hMV520 (Or.inr ⟨(show 1 ≤ (V520 0 8).toInt from by omega), (fun k => by rw [show (V520 0 8).toInt = (V437 0 8).toInt from by omega]; exact h1 k)⟩) (show (V520 0 48).toInt ≤ 8000 from by omega) (show (V520 0 48).toInt = (V 0 48).toInt from by omega) (show (V520 0 12).toInt = (V 0 12).toInt from by omega) hP hD hS (lv_sub hl [0, 1, 2, 3] rfl)
                                  · skip
                                    have f524 : z511.toInt ≠ 0 := b_neq rfl (by decide) c518
                                    exfalso; omega
                              refine lv_aload_n hx hb dX12_toldComponent_146 rfl (lv_at hl 3 rfl) ?_
                              refine va_get (D := D) (ci := 12) (v := .ref (ad 23)) (C := RX12) (T := TX12) (N := 100) hx hb hg inX12 hown hK hP 0 rfl rfl 23 (by decide) (hg _ w1729) (fun _ h9 => h9) rfl dX12_toldComponent_147 ?_
                              refine lv_iload_n hx hb dX12_toldComponent_150 rfl (lv_at hl 2 rfl) ?_
                              refine lv_aload_n hx hb dX12_toldComponent_151 rfl (lv_at hl 3 rfl) ?_
                              refine lv_iconst (v := 5) hx hb dX12_toldComponent_152 (by decide) ?_
                              have rl525 : RelM V306 L bq gn gT (scopeS sx283) (gs.2.1 2) := RelM.ag rl302 (show agr [] [22] V296 V306 from (agr.up agr.rf hV306 rfl)) (by decide) (show agL [] L L from agL.rf) (by decide)
                              have r526 : Int32.toInt 5 = 5 := by decide
                              refine gA_int (gA_runV (As := [.int 5]) (rest := [.int z5, .ref (ad 23)]) (ci := 12) (q0 := 0) hx hb hml hown hg hP hD hK hS hA hnw hgk (s_hasWordA l D ks H.size ad kk V306 L 5 (bq) (gn) (gT) ((scopeS sx283)) ((gs.2.1 2)) hMV306 (by decide) rl525) w2051 w2053 w90 w172 w2054 rfl rfl hdV_yX12_hasWord ⟨Nat.le_of_ble_eq_true rfl, Nat.le_of_ble_eq_true rfl⟩ rfl hl.1 rfl (Nat.le_of_ble_eq_true rfl) dX12_toldComponent_153 ⟨Nat.le_of_ble_eq_true rfl, Nat.le_of_ble_eq_true rfl⟩) hP hD hK hS hA (fun z527 u528 H locs w529 hP hD hK hS => ?_)
                              obtain ⟨V531, L532⟩ := u528
                              obtain ⟨hMV531, ajV531, axL532, rgz527, t530⟩ := w529
                              have axL532 : L = L532 := Eq.symm axL532
                              subst axL532
                              have hP : va_P D vwCl (mw ad kk ks.1 V531 L) H := hP
                              have hD : va_D A (mw ad kk ks.1 V531 L) := hD
                              have hMV531 : rgd bM V531 := hMV531
                              have ajV531 : agr [(0, 7)] [] V306 V531 := ajV531
                              have agV531 : agr [(0, 7), (0, 8), (0, 48), (0, 50), (0, 51), (0, 52)] [15, 19, 20, 21, 22, 23, 24, 25, 26, 27, 28, 29, 30, 31, 32, 33, 34, 35, 36, 37, 38, 45, 46, 47, 53] V V531 := agV306.tr ajV531 (by decide) (by decide)
                              have rgz527 : 0 ≤ z527.toInt ∧ z527.toInt ≤ 1 := rgz527
                              have t530 : (z527.toInt = 1 ∧ (gT).1 (((scopeS sx283)).1 0) = 128 + (Int32.toInt 5) ∧ RelM V531 L (bq) (gn) (gT) (nx ((scopeS sx283)) 1) ((gs.2.1 2))) ∨ (z527.toInt = 0 ∧ (gT).1 (((scopeS sx283)).1 0) ≠ 128 + (Int32.toInt 5) ∧ RelM V531 L (bq) (gn) (gT) ((scopeS sx283)) ((gs.2.1 2))) := t530
                              rcases t530 with ⟨q533, h534, rl535⟩ | ⟨q533, h534, rl535⟩
                              · skip
                                have kd536 : gT.1 ((scopeS sx283).1 0) = 133 := h534.trans (by decide)
                                have hr537 : ∀ k, Rc gT (Crun gs (Istmt :: k)) (Crun (nx (scopeS sx283) 1) (Iword :: Irank :: IwhenI :: Itake 123 :: IaddNm wx32 :: Imember :: k)) := fun k => Rc.go1 (hr301 k) (called_y  kd536)
                                have ps538 : (nx (scopeS sx283) 1).1 0 = (scopeS sx283).1 0 + 1 := rfl
                                have fz539 := RelM.rg rl535
                                have pq540 : (V531 0 8).toInt = ((V296 0 8)).toInt := congrArg Int32.toInt ((ajV531 0 8 rfl).trans (up2_o hV306 (by decide)))
                                refine lv_if_eq (tgt := 174) hx hb dX12_toldComponent_156 (by decide) (fun c541 => ?_) (fun c541 => ?_)
                                · skip
                                  have f542 : z527.toInt = 0 := b_eq rfl (by decide) c541
                                  exfalso; omega
                                · skip
                                  have f543 : z527.toInt ≠ 0 := b_neq rfl (by decide) c541
                                  refine lv_aload_n hx hb dX12_toldComponent_159 rfl (lv_at hl 3 rfl) ?_
                                  refine lv_aload_n hx hb dX12_toldComponent_160 rfl (lv_at hl 3 rfl) ?_
                                  refine va_get (D := D) (ci := 12) (v := .ref (ad 38)) (C := RX12) (T := TX12) (N := 100) hx hb hg inX12 hown hK hP 0 rfl rfl 38 (by decide) (hg _ w1744) (fun _ h9 => h9) rfl dX12_toldComponent_161 ?_
                                  refine lv_aload_n hx hb dX12_toldComponent_164 rfl (lv_at hl 3 rfl) ?_
                                  refine va_get (D := D) (ci := 12) (v := .ref (ad 37)) (C := RX12) (T := TX12) (N := 100) hx hb hg inX12 hown hK hP 0 rfl rfl 37 (by decide) (hg _ w1743) (fun _ h9 => h9) rfl dX12_toldComponent_165 ?_
                                  refine gA_int (gA_runV (As := [.ref (ad 38), .ref (ad 37)]) (rest := [.int z5, .ref (ad 23)]) (ci := 12) (q0 := 0) hx hb hml hown hg hP hD hK hS hA hnw hgk (s_takeWordOf4 l D ks H.size ad kk V531 L (bq) (gn) (gT) ((nx (scopeS sx283) 1)) ((gs.2.1 2)) hMV531 rl535) w2100 w2102 w102 w172 w2103 rfl rfl hdV_yX12_takeWordOf ⟨Nat.le_of_ble_eq_true rfl, Nat.le_of_ble_eq_true rfl⟩ rfl hl.1 rfl (Nat.le_of_ble_eq_true rfl) dX12_toldComponent_168 ⟨Nat.le_of_ble_eq_true rfl, Nat.le_of_ble_eq_true rfl⟩) hP hD hK hS hA (fun z544 u545 H locs w546 hP hD hK hS => ?_)
                                  obtain ⟨V548, L549⟩ := u545
                                  obtain ⟨hMV548, ajV548, axL549, rgz544, t547⟩ := w546
                                  have alL549 : agL [15, 19, 20, 21, 22, 23, 24, 25, 26, 27, 28, 29, 30, 31, 32, 33, 34, 35, 36, 37, 38, 45, 46, 47, 53] L L549 := agL.tr alL axL549 (by decide)
                                  have hP : va_P D vwCl (mw ad kk ks.1 V548 L549) H := hP
                                  have hD : va_D A (mw ad kk ks.1 V548 L549) := hD
                                  have hMV548 : rgd bM V548 := hMV548
                                  have ajV548 : agr [(0, 7), (0, 8)] [35, 36, 37, 38] V531 V548 := ajV548
                                  have agV548 : agr [(0, 7), (0, 8), (0, 48), (0, 50), (0, 51), (0, 52)] [15, 19, 20, 21, 22, 23, 24, 25, 26, 27, 28, 29, 30, 31, 32, 33, 34, 35, 36, 37, 38, 45, 46, 47, 53] V V548 := agV531.tr ajV548 (by decide) (by decide)
                                  have rgz544 : (-1) ≤ z544.toInt ∧ z544.toInt ≤ 19 := rgz544
                                  have t547 : KmS (mthW (gT) ((nx (scopeS sx283) 1)) 4) (V548 0 8).toInt (fun x9 => RelM V548 L549 (bq) (gn) (gT) x9.2 ((gs.2.1 2)) ∧ z544.toInt = ((x9.1 : Nat) : Int) ∧ x9.1 < 20 ∧ keepS ((nx (scopeS sx283) 1)) 1 x9.2 ∧ MTX (gT) ((nx (scopeS sx283) 1)) 4 x9) := t547
                                  rcases t547 with ⟨q550, mx551, h552, rl553, hf554, hb555, kp556, mt557⟩ | ⟨q550, h552⟩
                                  · skip
                                    have ps558 := kp556.1
                                    have hr559 : ∀ k, Rc gT (Crun gs (Istmt :: k)) (Crun mx551.2 (Irank :: IwhenI :: Itake 123 :: IaddNm wx32 :: Imember :: k)) := fun k => Rc.go1 (hr537 k) (wo_y h552)
                                    have fz560 := RelM.rg rl553
                                    have r561 : 0 ≤ ((V548 0 8)).toInt ∧ ((V548 0 8)).toInt ≤ 70000 := hMV548 0 8
                                    refine lv_goto (tgt := 175) hx hb dX12_toldComponent_171 (by decide) ?_
                                    refine va_iast (D := D) (i := z5) (x := z544) hx hb hK hP hD hS 16 15 rfl rfl (i_in (a := z5.toInt) rfl (by omega)) dX12_toldComponent_175 (fun H locs hP hD hS => ?_)
                                    obtain ⟨V562, hV562⟩ : ∃ z, z = up2 V548 23 (Int32.toNatClampNeg z5) z544 := ⟨_, rfl⟩
                                    have hP : va_P D vwCl (mw ad kk ks.1 V562 L549) H := by rw [hV562]; exact hP
                                    have hD : va_D A (mw ad kk ks.1 V562 L549) := by rw [hV562]; exact hD
                                    have hMV562 : rgd bM V562 := hMV548.put hV562 (i_full _)
                                    have agV562 : agr [(0, 7), (0, 8), (0, 48), (0, 50), (0, 51), (0, 52)] [15, 19, 20, 21, 22, 23, 24, 25, 26, 27, 28, 29, 30, 31, 32, 33, 34, 35, 36, 37, 38, 45, 46, 47, 53] V V562 := agV548.up hV562 rfl
                                    have pq563 : (V562 0 48).toInt = ((V 0 48)).toInt := congrArg Int32.toInt ((up2_o hV562 (by decide)).trans ((ajV548 0 48 rfl).trans ((ajV531 0 48 rfl).trans ((up2_o hV306 (by decide)).trans ((ajV296 0 48 rfl).trans ((ajV280 0 48 rfl).trans ((ajV263 0 48 rfl).trans ((ajV47 0 48 rfl).trans ((ajV42 0 48 rfl).trans ((ajV29 0 48 rfl).trans (ajV13 0 48 rfl)))))))))))
                                    have pq564 : (V562 0 12).toInt = ((V 0 12)).toInt := congrArg Int32.toInt ((up2_o hV562 (by decide)).trans ((ajV548 0 12 rfl).trans ((ajV531 0 12 rfl).trans ((up2_o hV306 (by decide)).trans ((ajV296 0 12 rfl).trans ((ajV280 0 12 rfl).trans ((ajV263 0 12 rfl).trans ((ajV47 0 12 rfl).trans ((ajV42 0 12 rfl).trans ((ajV29 0 12 rfl).trans (ajV13 0 12 rfl)))))))))))
                                    have rl565 : RelM V562 L549 bq gn gT mx551.2 (gs.2.1 2) := RelM.ag rl553 (show agr [] [23] V548 V562 from (agr.up agr.rf hV562 rfl)) (by decide) (show agL [] L549 L549 from agL.rf) (by decide)
                                    have ps566 : gs.1 0 + 1 ≤ (nx gs 1).1 0 := ((keepS.n1 1)).1
                                    have ps567 : (nx gs 1).1 0 + 1 ≤ (nx (nx gs 1) 1).1 0 := ((keepS.n1 1)).1
                                    have ps568 : (nx (nx gs 1) 1).1 0 + 1 ≤ (nx (nx (nx gs 1) 1) 1).1 0 := ((keepS.n1 1)).1
                                    have ps569 : (nx (nx (nx gs 1) 1) 1).1 0 + 1 ≤ sx283.1 0 := (kp286).1
                                    have ps570 : sx283.1 0 + 1 ≤ (nx sx283 1).1 0 := ((keepS.n1 1)).1
                                    have ps571 : (scopeS sx283).1 0 = (nx sx283 1).1 0 := rfl
                                    have ps572 : (scopeS sx283).1 0 + 1 ≤ (nx (scopeS sx283) 1).1 0 := ((keepS.n1 1)).1
                                    have ps573 : (nx (scopeS sx283) 1).1 0 + 1 ≤ mx551.2.1 0 := (kp556).1
                                    exact J436 V562 L549 H locs ls alL549 (agr.up (agr.tr (agr.tr agr.rf ajV531 (by decide) (by decide)) ajV548 (by decide) (by decide)) hV562 rfl) hMV562 (Or.inl ⟨W0 rl565, mx551.2, sx283, hr559, rl565, keepS.le (keepS.tr (keepS.tr (keepS.rf : keepS (scopeS sx283) 0 (scopeS sx283)) (keepS.n1 1)) kp556) (by decide), (((kp556).2.2.1 2 (by decide)).trans ((((keepS.n1 1)).2.2.1 2 (by decide)).trans ((rfl : (scopeS sx283).2.1 2 = (nx sx283 1).2.1 2).trans ((((keepS.n1 1)).2.2.1 2 (by decide)).trans (((kp286).2.2.1 2 (by decide)).trans ((((keepS.n1 1)).2.2.1 2 (by decide)).trans ((((keepS.n1 1)).2.2.1 2 (by decide)).trans ((((keepS.n1 1)).2.2.1 2 (by decide)).trans (rfl : gs.2.1 2 = gs.2.1 2))))))))), ((congrArg (fun q9 => q9.1) (kp556).2.2.2).trans ((congrArg (fun q9 => q9.1) ((keepS.n1 1)).2.2.2).trans ((rfl : (scopeS sx283).2.2.1 = (nx sx283 1).2.2.1).trans ((congrArg (fun q9 => q9.1) ((keepS.n1 1)).2.2.2).trans ((congrArg (fun q9 => q9.1) (kp286).2.2.2).trans ((congrArg (fun q9 => q9.1) ((keepS.n1 1)).2.2.2).trans ((congrArg (fun q9 => q9.1) ((keepS.n1 1)).2.2.2).trans ((congrArg (fun q9 => q9.1) ((keepS.n1 1)).2.2.2).trans (rfl : gs.2.2.1 = gs.2.2.1))))))))), (by omega)⟩) (show (V562 0 48).toInt ≤ 8000 from by omega) (show (V562 0 48).toInt = (V 0 48).toInt from by omega) (show (V562 0 12).toInt = (V 0 12).toInt from by omega) hP hD hS (lv_sub hl [0, 1, 2, 3] rfl)
                                  · skip
                                    have hb574 : ∀ k, Rc gT (Crun gs (Istmt :: k)) (Cbad (V548 0 8).toInt) := fun k => Rc.go1 (hr537 k) (wo_b h552)
                                    have r575 : 0 ≤ ((V548 0 8)).toInt ∧ ((V548 0 8)).toInt ≤ 70000 := hMV548 0 8
                                    refine lv_goto (tgt := 175) hx hb dX12_toldComponent_171 (by decide) ?_
                                    refine va_iast (D := D) (i := z5) (x := z544) hx hb hK hP hD hS 16 15 rfl rfl (i_in (a := z5.toInt) rfl (by omega)) dX12_toldComponent_175 (fun H locs hP hD hS => ?_)
                                    obtain ⟨V576, hV576⟩ : ∃ z, z = up2 V548 23 (Int32.toNatClampNeg z5) z544 := ⟨_, rfl⟩
                                    have hP : va_P D vwCl (mw ad kk ks.1 V576 L549) H := by rw [hV576]; exact hP
                                    have hD : va_D A (mw ad kk ks.1 V576 L549) := by rw [hV576]; exact hD
                                    have hMV576 : rgd bM V576 := hMV548.put hV576 (i_full _)
                                    have agV576 : agr [(0, 7), (0, 8), (0, 48), (0, 50), (0, 51), (0, 52)] [15, 19, 20, 21, 22, 23, 24, 25, 26, 27, 28, 29, 30, 31, 32, 33, 34, 35, 36, 37, 38, 45, 46, 47, 53] V V576 := agV548.up hV576 rfl
                                    have pq577 : (V576 0 48).toInt = ((V 0 48)).toInt := congrArg Int32.toInt ((up2_o hV576 (by decide)).trans ((ajV548 0 48 rfl).trans ((ajV531 0 48 rfl).trans ((up2_o hV306 (by decide)).trans ((ajV296 0 48 rfl).trans ((ajV280 0 48 rfl).trans ((ajV263 0 48 rfl).trans ((ajV47 0 48 rfl).trans ((ajV42 0 48 rfl).trans ((ajV29 0 48 rfl).trans (ajV13 0 48 rfl)))))))))))
                                    have pq578 : (V576 0 12).toInt = ((V 0 12)).toInt := congrArg Int32.toInt ((up2_o hV576 (by decide)).trans ((ajV548 0 12 rfl).trans ((ajV531 0 12 rfl).trans ((up2_o hV306 (by decide)).trans ((ajV296 0 12 rfl).trans ((ajV280 0 12 rfl).trans ((ajV263 0 12 rfl).trans ((ajV47 0 12 rfl).trans ((ajV42 0 12 rfl).trans ((ajV29 0 12 rfl).trans (ajV13 0 12 rfl)))))))))))
                                    have pq579 : (V576 0 8).toInt = ((V548 0 8)).toInt := congrArg Int32.toInt (up2_o hV576 (by decide))
                                    exact J436 V576 L549 H locs ls alL549 (agr.up (agr.tr (agr.tr agr.rf ajV531 (by decide) (by decide)) ajV548 (by decide) (by decide)) hV576 rfl) hMV576 (Or.inr ⟨(show 1 ≤ (V576 0 8).toInt from by omega), (fun k => by rw [show (V576 0 8).toInt = (V548 0 8).toInt from by omega]; exact hb574 k)⟩) (show (V576 0 48).toInt ≤ 8000 from by omega) (show (V576 0 48).toInt = (V 0 48).toInt from by omega) (show (V576 0 12).toInt = (V 0 12).toInt from by omega) hP hD hS (lv_sub hl [0, 1, 2, 3] rfl)
                              · skip
                                have kd580 : gT.1 ((scopeS sx283).1 0) ≠ 133 := fun h9 => h534 (h9.trans (by decide))
                                have fz581 := RelM.rg rl535
                                have pq582 : (V531 0 8).toInt = ((V296 0 8)).toInt := congrArg Int32.toInt ((ajV531 0 8 rfl).trans (up2_o hV306 (by decide)))
                                refine lv_if_eq (tgt := 174) hx hb dX12_toldComponent_156 (by decide) (fun c583 => ?_) (fun c583 => ?_)
                                · skip
                                  have f584 : z527.toInt = 0 := b_eq rfl (by decide) c583
                                  refine lv_iconst (v := (-1)) hx hb dX12_toldComponent_174 (by decide) ?_
                                  refine va_iast (D := D) (i := z5) (x := (-1)) hx hb hK hP hD hS 16 15 rfl rfl (i_in (a := z5.toInt) rfl (by omega)) dX12_toldComponent_175 (fun H locs hP hD hS => ?_)
                                  obtain ⟨V585, hV585⟩ : ∃ z, z = up2 V531 23 (Int32.toNatClampNeg z5) (-1) := ⟨_, rfl⟩
                                  have hP : va_P D vwCl (mw ad kk ks.1 V585 L) H := by rw [hV585]; exact hP
                                  have hD : va_D A (mw ad kk ks.1 V585 L) := by rw [hV585]; exact hD
                                  have hMV585 : rgd bM V585 := hMV531.put hV585 (i_full _)
                                  have agV585 : agr [(0, 7), (0, 8), (0, 48), (0, 50), (0, 51), (0, 52)] [15, 19, 20, 21, 22, 23, 24, 25, 26, 27, 28, 29, 30, 31, 32, 33, 34, 35, 36, 37, 38, 45, 46, 47, 53] V V585 := agV531.up hV585 rfl
                                  have pq586 : (V585 0 48).toInt = ((V 0 48)).toInt := congrArg Int32.toInt ((up2_o hV585 (by decide)).trans ((ajV531 0 48 rfl).trans ((up2_o hV306 (by decide)).trans ((ajV296 0 48 rfl).trans ((ajV280 0 48 rfl).trans ((ajV263 0 48 rfl).trans ((ajV47 0 48 rfl).trans ((ajV42 0 48 rfl).trans ((ajV29 0 48 rfl).trans (ajV13 0 48 rfl))))))))))
                                  have pq587 : (V585 0 12).toInt = ((V 0 12)).toInt := congrArg Int32.toInt ((up2_o hV585 (by decide)).trans ((ajV531 0 12 rfl).trans ((up2_o hV306 (by decide)).trans ((ajV296 0 12 rfl).trans ((ajV280 0 12 rfl).trans ((ajV263 0 12 rfl).trans ((ajV47 0 12 rfl).trans ((ajV42 0 12 rfl).trans ((ajV29 0 12 rfl).trans (ajV13 0 12 rfl))))))))))
                                  have hr588 : ∀ k, Rc gT (Crun gs (Istmt :: k)) (Crun (scopeS sx283) (Irank :: IwhenI :: Itake 123 :: IaddNm wx32 :: Imember :: k)) := fun k => Rc.go1 (hr301 k) (called_n  kd580)
                                  have rl589 : RelM V585 L bq gn gT (scopeS sx283) (gs.2.1 2) := RelM.ag rl535 (show agr [] [23] V531 V585 from (agr.up agr.rf hV585 rfl)) (by decide) (show agL [] L L from agL.rf) (by decide)
                                  have ps590 : gs.1 0 + 1 ≤ (nx gs 1).1 0 := ((keepS.n1 1)).1
                                  have ps591 : (nx gs 1).1 0 + 1 ≤ (nx (nx gs 1) 1).1 0 := ((keepS.n1 1)).1
                                  have ps592 : (nx (nx gs 1) 1).1 0 + 1 ≤ (nx (nx (nx gs 1) 1) 1).1 0 := ((keepS.n1 1)).1
                                  have ps593 : (nx (nx (nx gs 1) 1) 1).1 0 + 1 ≤ sx283.1 0 := (kp286).1
                                  have ps594 : sx283.1 0 + 1 ≤ (nx sx283 1).1 0 := ((keepS.n1 1)).1
                                  have ps595 : (scopeS sx283).1 0 = (nx sx283 1).1 0 := rfl
                                  exact J436 V585 L H locs ls alL (agr.up (agr.tr agr.rf ajV531 (by decide) (by decide)) hV585 rfl) hMV585 (Or.inl ⟨W0 rl589, (scopeS sx283), sx283, hr588, rl589, keepS.le (keepS.rf : keepS (scopeS sx283) 0 (scopeS sx283)) (by decide), ((rfl : (scopeS sx283).2.1 2 = (nx sx283 1).2.1 2).trans ((((keepS.n1 1)).2.2.1 2 (by decide)).trans (((kp286).2.2.1 2 (by decide)).trans ((((keepS.n1 1)).2.2.1 2 (by decide)).trans ((((keepS.n1 1)).2.2.1 2 (by decide)).trans ((((keepS.n1 1)).2.2.1 2 (by decide)).trans (rfl : gs.2.1 2 = gs.2.1 2))))))), ((rfl : (scopeS sx283).2.2.1 = (nx sx283 1).2.2.1).trans ((congrArg (fun q9 => q9.1) ((keepS.n1 1)).2.2.2).trans ((congrArg (fun q9 => q9.1) (kp286).2.2.2).trans ((congrArg (fun q9 => q9.1) ((keepS.n1 1)).2.2.2).trans ((congrArg (fun q9 => q9.1) ((keepS.n1 1)).2.2.2).trans ((congrArg (fun q9 => q9.1) ((keepS.n1 1)).2.2.2).trans (rfl : gs.2.2.1 = gs.2.2.1))))))), (by omega)⟩) (show (V585 0 48).toInt ≤ 8000 from by omega) (show (V585 0 48).toInt = (V 0 48).toInt from by omega) (show (V585 0 12).toInt = (V 0 12).toInt from by omega) hP hD hS (lv_sub hl [0, 1, 2, 3] rfl)
                                · skip
                                  have f596 : z527.toInt ≠ 0 := b_neq rfl (by decide) c583
                                  exfalso; omega
                            · skip
                              have hb597 : ∀ k, Rc gT (Crun gs (Istmt :: k)) (Cbad (V296 0 8).toInt) := fun k => Rc.go1 (hr287 k) ((sc_n wx32 (by omega)).trans (fl_eq rfl rl300))
                              have r598 : 0 ≤ ((V296 0 8)).toInt ∧ ((V296 0 8)).toInt ≤ 70000 := hMV296 0 8
                              refine va_iast (D := D) (i := z5) (x := z292) hx hb hK hP hD hS 15 14 rfl rfl (i_in (a := z5.toInt) rfl (by omega)) dX12_toldComponent_145 (fun H locs hP hD hS => ?_)
                              obtain ⟨V599, hV599⟩ : ∃ z, z = up2 V296 22 (Int32.toNatClampNeg z5) z292 := ⟨_, rfl⟩
                              have hP : va_P D vwCl (mw ad kk ks.1 V599 L) H := by rw [hV599]; exact hP
                              have hD : va_D A (mw ad kk ks.1 V599 L) := by rw [hV599]; exact hD
                              have hMV599 : rgd bM V599 := hMV296.put hV599 (i_full _)
                              have agV599 : agr [(0, 7), (0, 8), (0, 48), (0, 50), (0, 51), (0, 52)] [15, 19, 20, 21, 22, 23, 24, 25, 26, 27, 28, 29, 30, 31, 32, 33, 34, 35, 36, 37, 38, 45, 46, 47, 53] V V599 := agV296.up hV599 rfl
                              refine lv_aload_n hx hb dX12_toldComponent_146 rfl (lv_at hl 3 rfl) ?_
                              refine va_get (D := D) (ci := 12) (v := .ref (ad 23)) (C := RX12) (T := TX12) (N := 100) hx hb hg inX12 hown hK hP 0 rfl rfl 23 (by decide) (hg _ w1729) (fun _ h9 => h9) rfl dX12_toldComponent_147 ?_
                              refine lv_iload_n hx hb dX12_toldComponent_150 rfl (lv_at hl 2 rfl) ?_
                              refine lv_aload_n hx hb dX12_toldComponent_151 rfl (lv_at hl 3 rfl) ?_
                              refine lv_iconst (v := 5) hx hb dX12_toldComponent_152 (by decide) ?_
                              have r600 : Int32.toInt 5 = 5 := by decide
                              have pq601 : (V599 0 8).toInt = ((V296 0 8)).toInt := congrArg Int32.toInt (up2_o hV599 (by decide))
                              refine gA_int (gA_runV (As := [.int 5]) (rest := [.int z5, .ref (ad 23)]) (ci := 12) (q0 := 0) hx hb hml hown hg hP hD hK hS hA hnw hgk (s_hasWordB l D ks H.size ad kk V599 L 5 hMV599 (by decide) (show 1 ≤ (V599 0 8).toInt from by omega)) w2051 w2053 w90 w172 w2054 rfl rfl hdV_yX12_hasWord ⟨Nat.le_of_ble_eq_true rfl, Nat.le_of_ble_eq_true rfl⟩ rfl hl.1 rfl (Nat.le_of_ble_eq_true rfl) dX12_toldComponent_153 ⟨Nat.le_of_ble_eq_true rfl, Nat.le_of_ble_eq_true rfl⟩) hP hD hK hS hA (fun z602 u603 H locs w604 hP hD hK hS => ?_)
                              obtain ⟨V606, L607⟩ := u603
                              obtain ⟨hMV606, ajV606, axL607, rgz602, t605⟩ := w604
                              have axL607 : L = L607 := Eq.symm axL607
                              subst axL607
                              have hP : va_P D vwCl (mw ad kk ks.1 V606 L) H := hP
                              have hD : va_D A (mw ad kk ks.1 V606 L) := hD
                              have hMV606 : rgd bM V606 := hMV606
                              have ajV606 : agr [(0, 7)] [] V599 V606 := ajV606
                              have agV606 : agr [(0, 7), (0, 8), (0, 48), (0, 50), (0, 51), (0, 52)] [15, 19, 20, 21, 22, 23, 24, 25, 26, 27, 28, 29, 30, 31, 32, 33, 34, 35, 36, 37, 38, 45, 46, 47, 53] V V606 := agV599.tr ajV606 (by decide) (by decide)
                              have rgz602 : 0 ≤ z602.toInt ∧ z602.toInt ≤ 0 := rgz602
                              have t605 : (V606 0 8).toInt = (V599 0 8).toInt := t605
                              have pq608 : (V606 0 8).toInt = ((V296 0 8)).toInt := congrArg Int32.toInt ((ajV606 0 8 rfl).trans (up2_o hV599 (by decide)))
                              refine lv_if_eq (tgt := 174) hx hb dX12_toldComponent_156 (by decide) (fun c609 => ?_) (fun c609 => ?_)
                              · skip
                                have f610 : z602.toInt = 0 := b_eq rfl (by decide) c609
                                refine lv_iconst (v := (-1)) hx hb dX12_toldComponent_174 (by decide) ?_
                                refine va_iast (D := D) (i := z5) (x := (-1)) hx hb hK hP hD hS 16 15 rfl rfl (i_in (a := z5.toInt) rfl (by omega)) dX12_toldComponent_175 (fun H locs hP hD hS => ?_)
                                obtain ⟨V611, hV611⟩ : ∃ z, z = up2 V606 23 (Int32.toNatClampNeg z5) (-1) := ⟨_, rfl⟩
                                have hP : va_P D vwCl (mw ad kk ks.1 V611 L) H := by rw [hV611]; exact hP
                                have hD : va_D A (mw ad kk ks.1 V611 L) := by rw [hV611]; exact hD
                                have hMV611 : rgd bM V611 := hMV606.put hV611 (i_full _)
                                have agV611 : agr [(0, 7), (0, 8), (0, 48), (0, 50), (0, 51), (0, 52)] [15, 19, 20, 21, 22, 23, 24, 25, 26, 27, 28, 29, 30, 31, 32, 33, 34, 35, 36, 37, 38, 45, 46, 47, 53] V V611 := agV606.up hV611 rfl
                                refine lv_aload_n hx hb dX12_toldComponent_176 rfl (lv_at hl 3 rfl) ?_
                                refine va_get (D := D) (ci := 12) (v := .ref (ad 24)) (C := RX12) (T := TX12) (N := 100) hx hb hg inX12 hown hK hP 0 rfl rfl 24 (by decide) (hg _ w1730) (fun _ h9 => h9) rfl dX12_toldComponent_177 ?_
                                refine lv_iload_n hx hb dX12_toldComponent_180 rfl (lv_at hl 2 rfl) ?_
                                refine lv_aload_n hx hb dX12_toldComponent_181 rfl (lv_at hl 3 rfl) ?_
                                refine lv_bipush (v := 6) hx hb dX12_toldComponent_182 (by decide) ?_
                                have r612 : Int32.toInt 6 = 6 := by decide
                                have pq613 : (V611 0 8).toInt = ((V296 0 8)).toInt := congrArg Int32.toInt ((up2_o hV611 (by decide)).trans ((ajV606 0 8 rfl).trans (up2_o hV599 (by decide))))
                                refine gA_int (gA_runV (As := [.int 6]) (rest := [.int z5, .ref (ad 24)]) (ci := 12) (q0 := 0) hx hb hml hown hg hP hD hK hS hA hnw hgk (s_hasWordB l D ks H.size ad kk V611 L 6 hMV611 (by decide) (show 1 ≤ (V611 0 8).toInt from by omega)) w2051 w2053 w90 w172 w2054 rfl rfl hdV_yX12_hasWord ⟨Nat.le_of_ble_eq_true rfl, Nat.le_of_ble_eq_true rfl⟩ rfl hl.1 rfl (Nat.le_of_ble_eq_true rfl) dX12_toldComponent_184 ⟨Nat.le_of_ble_eq_true rfl, Nat.le_of_ble_eq_true rfl⟩) hP hD hK hS hA (fun z614 u615 H locs w616 hP hD hK hS => ?_)
                                obtain ⟨V618, L619⟩ := u615
                                obtain ⟨hMV618, ajV618, axL619, rgz614, t617⟩ := w616
                                have axL619 : L = L619 := Eq.symm axL619
                                subst axL619
                                have hP : va_P D vwCl (mw ad kk ks.1 V618 L) H := hP
                                have hD : va_D A (mw ad kk ks.1 V618 L) := hD
                                have hMV618 : rgd bM V618 := hMV618
                                have ajV618 : agr [(0, 7)] [] V611 V618 := ajV618
                                have agV618 : agr [(0, 7), (0, 8), (0, 48), (0, 50), (0, 51), (0, 52)] [15, 19, 20, 21, 22, 23, 24, 25, 26, 27, 28, 29, 30, 31, 32, 33, 34, 35, 36, 37, 38, 45, 46, 47, 53] V V618 := agV611.tr ajV618 (by decide) (by decide)
                                have rgz614 : 0 ≤ z614.toInt ∧ z614.toInt ≤ 0 := rgz614
                                have t617 : (V618 0 8).toInt = (V611 0 8).toInt := t617
                                have pq620 : (V618 0 8).toInt = ((V296 0 8)).toInt := congrArg Int32.toInt ((ajV618 0 8 rfl).trans ((up2_o hV611 (by decide)).trans ((ajV606 0 8 rfl).trans (up2_o hV599 (by decide)))))
                                refine lv_if_eq (tgt := 200) hx hb dX12_toldComponent_187 (by decide) (fun c621 => ?_) (fun c621 => ?_)
                                · skip
                                  have f622 : z614.toInt = 0 := b_eq rfl (by decide) c621
                                  refine lv_iconst (v := 0) hx hb dX12_toldComponent_200 (by decide) ?_
                                  refine va_iast (D := D) (i := z5) (x := 0) hx hb hK hP hD hS 17 16 rfl rfl (i_in (a := z5.toInt) rfl (by omega)) dX12_toldComponent_201 (fun H locs hP hD hS => ?_)
                                  obtain ⟨V623, hV623⟩ : ∃ z, z = up2 V618 24 (Int32.toNatClampNeg z5) 0 := ⟨_, rfl⟩
                                  have hP : va_P D vwCl (mw ad kk ks.1 V623 L) H := by rw [hV623]; exact hP
                                  have hD : va_D A (mw ad kk ks.1 V623 L) := by rw [hV623]; exact hD
                                  have hMV623 : rgd bM V623 := hMV618.put hV623 (show 0 ≤ Int32.toInt 0 ∧ Int32.toInt 0 ≤ 9 from by decide)
                                  have agV623 : agr [(0, 7), (0, 8), (0, 48), (0, 50), (0, 51), (0, 52)] [15, 19, 20, 21, 22, 23, 24, 25, 26, 27, 28, 29, 30, 31, 32, 33, 34, 35, 36, 37, 38, 45, 46, 47, 53] V V623 := agV618.up hV623 rfl
                                  refine lv_aload_n hx hb dX12_toldComponent_202 rfl (lv_at hl 3 rfl) ?_
                                  refine va_get (D := D) (ci := 12) (v := .ref (ad 25)) (C := RX12) (T := TX12) (N := 100) hx hb hg inX12 hown hK hP 0 rfl rfl 25 (by decide) (hg _ w1731) (fun _ h9 => h9) rfl dX12_toldComponent_203 ?_
                                  refine lv_iload_n hx hb dX12_toldComponent_206 rfl (lv_at hl 2 rfl) ?_
                                  refine lv_iconst (v := (-1)) hx hb dX12_toldComponent_207 (by decide) ?_
                                  refine va_iast (D := D) (i := z5) (x := (-1)) hx hb hK hP hD hS 18 17 rfl rfl (i_in (a := z5.toInt) rfl (by omega)) dX12_toldComponent_208 (fun H locs hP hD hS => ?_)
                                  obtain ⟨V624, hV624⟩ : ∃ z, z = up2 V623 25 (Int32.toNatClampNeg z5) (-1) := ⟨_, rfl⟩
                                  have hP : va_P D vwCl (mw ad kk ks.1 V624 L) H := by rw [hV624]; exact hP
                                  have hD : va_D A (mw ad kk ks.1 V624 L) := by rw [hV624]; exact hD
                                  have hMV624 : rgd bM V624 := hMV623.put hV624 (show (-1) ≤ Int32.toInt (-1) ∧ Int32.toInt (-1) ≤ 11 from by decide)
                                  have agV624 : agr [(0, 7), (0, 8), (0, 48), (0, 50), (0, 51), (0, 52)] [15, 19, 20, 21, 22, 23, 24, 25, 26, 27, 28, 29, 30, 31, 32, 33, 34, 35, 36, 37, 38, 45, 46, 47, 53] V V624 := agV623.up hV624 rfl
                                  refine lv_aload_n hx hb dX12_toldComponent_209 rfl (lv_at hl 3 rfl) ?_
                                  refine lv_bipush (v := 7) hx hb dX12_toldComponent_210 (by decide) ?_
                                  have r625 : Int32.toInt 7 = 7 := by decide
                                  have pq626 : (V624 0 8).toInt = ((V296 0 8)).toInt := congrArg Int32.toInt ((up2_o hV624 (by decide)).trans ((up2_o hV623 (by decide)).trans ((ajV618 0 8 rfl).trans ((up2_o hV611 (by decide)).trans ((ajV606 0 8 rfl).trans (up2_o hV599 (by decide)))))))
                                  refine gA_int (gA_runV (As := [.int 7]) (rest := []) (ci := 12) (q0 := 0) hx hb hml hown hg hP hD hK hS hA hnw hgk (s_hasWordB l D ks H.size ad kk V624 L 7 hMV624 (by decide) (show 1 ≤ (V624 0 8).toInt from by omega)) w2051 w2053 w90 w172 w2054 rfl rfl hdV_yX12_hasWord ⟨Nat.le_of_ble_eq_true rfl, Nat.le_of_ble_eq_true rfl⟩ rfl hl.1 rfl (Nat.le_of_ble_eq_true rfl) dX12_toldComponent_212 ⟨Nat.le_of_ble_eq_true rfl, Nat.le_of_ble_eq_true rfl⟩) hP hD hK hS hA (fun z627 u628 H locs w629 hP hD hK hS => ?_)
                                  obtain ⟨V631, L632⟩ := u628
                                  obtain ⟨hMV631, ajV631, axL632, rgz627, t630⟩ := w629
                                  have axL632 : L = L632 := Eq.symm axL632
                                  subst axL632
                                  have hP : va_P D vwCl (mw ad kk ks.1 V631 L) H := hP
                                  have hD : va_D A (mw ad kk ks.1 V631 L) := hD
                                  have hMV631 : rgd bM V631 := hMV631
                                  have ajV631 : agr [(0, 7)] [] V624 V631 := ajV631
                                  have agV631 : agr [(0, 7), (0, 8), (0, 48), (0, 50), (0, 51), (0, 52)] [15, 19, 20, 21, 22, 23, 24, 25, 26, 27, 28, 29, 30, 31, 32, 33, 34, 35, 36, 37, 38, 45, 46, 47, 53] V V631 := agV624.tr ajV631 (by decide) (by decide)
                                  have rgz627 : 0 ≤ z627.toInt ∧ z627.toInt ≤ 0 := rgz627
                                  have t630 : (V631 0 8).toInt = (V624 0 8).toInt := t630
                                  have pq633 : (V631 0 8).toInt = ((V296 0 8)).toInt := congrArg Int32.toInt ((ajV631 0 8 rfl).trans ((up2_o hV624 (by decide)).trans ((up2_o hV623 (by decide)).trans ((ajV618 0 8 rfl).trans ((up2_o hV611 (by decide)).trans ((ajV606 0 8 rfl).trans (up2_o hV599 (by decide))))))))
                                  refine lv_if_eq (tgt := 262) hx hb dX12_toldComponent_215 (by decide) (fun c634 => ?_) (fun c634 => ?_)
                                  · skip
                                    have f635 : z627.toInt = 0 := b_eq rfl (by decide) c634
                                    have pq636 : (V631 0 48).toInt = ((V 0 48)).toInt := congrArg Int32.toInt ((ajV631 0 48 rfl).trans ((up2_o hV624 (by decide)).trans ((up2_o hV623 (by decide)).trans ((ajV618 0 48 rfl).trans ((up2_o hV611 (by decide)).trans ((ajV606 0 48 rfl).trans ((up2_o hV599 (by decide)).trans ((ajV296 0 48 rfl).trans ((ajV280 0 48 rfl).trans ((ajV263 0 48 rfl).trans ((ajV47 0 48 rfl).trans ((ajV42 0 48 rfl).trans ((ajV29 0 48 rfl).trans (ajV13 0 48 rfl))))))))))))))
                                    have pq637 : (V631 0 12).toInt = ((V 0 12)).toInt := congrArg Int32.toInt ((ajV631 0 12 rfl).trans ((up2_o hV624 (by decide)).trans ((up2_o hV623 (by decide)).trans ((ajV618 0 12 rfl).trans ((up2_o hV611 (by decide)).trans ((ajV606 0 12 rfl).trans ((up2_o hV599 (by decide)).trans ((ajV296 0 12 rfl).trans ((ajV280 0 12 rfl).trans ((ajV263 0 12 rfl).trans ((ajV47 0 12 rfl).trans ((ajV42 0 12 rfl).trans ((ajV29 0 12 rfl).trans (ajV13 0 12 rfl))))))))))))))
                                    exact J52 V631 L H locs ls alL (agr.tr (agr.up (agr.up (agr.tr (agr.up (agr.tr (agr.up (agr.tr (agr.tr (agr.tr agr.rf ajV263 (by decide) (by decide)) ajV280 (by decide) (by decide)) ajV296 (by decide) (by decide)) hV599 rfl) ajV606 (by decide) (by decide)) hV611 rfl) ajV618 (by decide) (by decide)) hV623 rfl) hV624 rfl) ajV631 (by decide) (by decide)) hMV631 (Or.inr ⟨(show 1 ≤ (V631 0 8).toInt from by omega), (fun k => by rw [show (V631 0 8).toInt = (V296 0 8).toInt from by omega]; exact hb597 k)⟩) (show (V631 0 48).toInt ≤ 8000 from by omega) (show (V631 0 48).toInt = (V 0 48).toInt from by omega) (show (V631 0 12).toInt = (V 0 12).toInt from by omega) hP hD hS (lv_sub hl [0, 1, 2, 3] rfl)
                                  · skip
                                    have f638 : z627.toInt ≠ 0 := b_neq rfl (by decide) c634
                                    exfalso; omega
                                · skip
                                  have f639 : z614.toInt ≠ 0 := b_neq rfl (by decide) c621
                                  exfalso; omega
                              · skip
                                have f640 : z602.toInt ≠ 0 := b_neq rfl (by decide) c609
                                exfalso; omega
                          · skip
                            have hb641 : ∀ k, Rc gT (Crun gs (Istmt :: k)) (Cbad (V280 0 8).toInt) := fun k => (hr269 k).tr (h284 (Iscope wx32 :: k))
                            have r642 : 0 ≤ ((V280 0 8)).toInt ∧ ((V280 0 8)).toInt ≤ 70000 := hMV280 0 8
                            refine lv_aload_n hx hb dX12_toldComponent_133 rfl (lv_at hl 3 rfl) ?_
                            refine va_get (D := D) (ci := 12) (v := .ref (ad 22)) (C := RX12) (T := TX12) (N := 100) hx hb hg inX12 hown hK hP 0 rfl rfl 22 (by decide) (hg _ w1728) (fun _ h9 => h9) rfl dX12_toldComponent_134 ?_
                            refine lv_iload_n hx hb dX12_toldComponent_137 rfl (lv_at hl 2 rfl) ?_
                            refine lv_aload_n hx hb dX12_toldComponent_138 rfl (lv_at hl 3 rfl) ?_
                            refine lv_bipush (v := 20) hx hb dX12_toldComponent_139 (by decide) ?_
                            refine lv_iconst (v := 4) hx hb dX12_toldComponent_141 (by decide) ?_
                            have r643 : Int32.toInt 20 = 20 := by decide
                            refine gA_int (gA_runV (As := [.int 20, .int 4]) (rest := [.int z5, .ref (ad 22)]) (ci := 12) (q0 := 0) hx hb hml hown hg hP hD hK hS hA hnw hgk (s_oneOfB l D ks H.size ad kk V280 L 20 4 hMV280 (by decide) (by decide) (show 1 ≤ (V280 0 8).toInt from by omega)) w2096 w2098 w101 w172 w2099 rfl rfl hdV_yX12_oneOf ⟨Nat.le_of_ble_eq_true rfl, Nat.le_of_ble_eq_true rfl⟩ rfl hl.1 rfl (Nat.le_of_ble_eq_true rfl) dX12_toldComponent_142 ⟨Nat.le_of_ble_eq_true rfl, Nat.le_of_ble_eq_true rfl⟩) hP hD hK hS hA (fun z644 u645 H locs w646 hP hD hK hS => ?_)
                            obtain ⟨V648, L649⟩ := u645
                            obtain ⟨hMV648, ajV648, axL649, rgz644, t647⟩ := w646
                            have axL649 : L = L649 := Eq.symm axL649
                            subst axL649
                            have hP : va_P D vwCl (mw ad kk ks.1 V648 L) H := hP
                            have hD : va_D A (mw ad kk ks.1 V648 L) := hD
                            have hMV648 : rgd bM V648 := hMV648
                            have ajV648 : agr [(0, 7), (0, 8)] [] V280 V648 := ajV648
                            have agV648 : agr [(0, 7), (0, 8), (0, 48), (0, 50), (0, 51), (0, 52)] [15, 19, 20, 21, 22, 23, 24, 25, 26, 27, 28, 29, 30, 31, 32, 33, 34, 35, 36, 37, 38, 45, 46, 47, 53] V V648 := agV280.tr ajV648 (by decide) (by decide)
                            have rgz644 : 0 ≤ z644.toInt ∧ z644.toInt ≤ 0 := rgz644
                            have t647 : (V648 0 8).toInt = (V280 0 8).toInt := t647
                            have r650 : 0 ≤ ((V648 0 8)).toInt ∧ ((V648 0 8)).toInt ≤ 70000 := hMV648 0 8
                            refine va_iast (D := D) (i := z5) (x := z644) hx hb hK hP hD hS 15 14 rfl rfl (i_in (a := z5.toInt) rfl (by omega)) dX12_toldComponent_145 (fun H locs hP hD hS => ?_)
                            obtain ⟨V651, hV651⟩ : ∃ z, z = up2 V648 22 (Int32.toNatClampNeg z5) z644 := ⟨_, rfl⟩
                            have hP : va_P D vwCl (mw ad kk ks.1 V651 L) H := by rw [hV651]; exact hP
                            have hD : va_D A (mw ad kk ks.1 V651 L) := by rw [hV651]; exact hD
                            have hMV651 : rgd bM V651 := hMV648.put hV651 (i_full _)
                            have agV651 : agr [(0, 7), (0, 8), (0, 48), (0, 50), (0, 51), (0, 52)] [15, 19, 20, 21, 22, 23, 24, 25, 26, 27, 28, 29, 30, 31, 32, 33, 34, 35, 36, 37, 38, 45, 46, 47, 53] V V651 := agV648.up hV651 rfl
                            refine lv_aload_n hx hb dX12_toldComponent_146 rfl (lv_at hl 3 rfl) ?_
                            refine va_get (D := D) (ci := 12) (v := .ref (ad 23)) (C := RX12) (T := TX12) (N := 100) hx hb hg inX12 hown hK hP 0 rfl rfl 23 (by decide) (hg _ w1729) (fun _ h9 => h9) rfl dX12_toldComponent_147 ?_
                            refine lv_iload_n hx hb dX12_toldComponent_150 rfl (lv_at hl 2 rfl) ?_
                            refine lv_aload_n hx hb dX12_toldComponent_151 rfl (lv_at hl 3 rfl) ?_
                            refine lv_iconst (v := 5) hx hb dX12_toldComponent_152 (by decide) ?_
                            have r652 : Int32.toInt 5 = 5 := by decide
                            have pq653 : (V651 0 8).toInt = ((V648 0 8)).toInt := congrArg Int32.toInt (up2_o hV651 (by decide))
                            refine gA_int (gA_runV (As := [.int 5]) (rest := [.int z5, .ref (ad 23)]) (ci := 12) (q0 := 0) hx hb hml hown hg hP hD hK hS hA hnw hgk (s_hasWordB l D ks H.size ad kk V651 L 5 hMV651 (by decide) (show 1 ≤ (V651 0 8).toInt from by omega)) w2051 w2053 w90 w172 w2054 rfl rfl hdV_yX12_hasWord ⟨Nat.le_of_ble_eq_true rfl, Nat.le_of_ble_eq_true rfl⟩ rfl hl.1 rfl (Nat.le_of_ble_eq_true rfl) dX12_toldComponent_153 ⟨Nat.le_of_ble_eq_true rfl, Nat.le_of_ble_eq_true rfl⟩) hP hD hK hS hA (fun z654 u655 H locs w656 hP hD hK hS => ?_)
                            obtain ⟨V658, L659⟩ := u655
                            obtain ⟨hMV658, ajV658, axL659, rgz654, t657⟩ := w656
                            have axL659 : L = L659 := Eq.symm axL659
                            subst axL659
                            have hP : va_P D vwCl (mw ad kk ks.1 V658 L) H := hP
                            have hD : va_D A (mw ad kk ks.1 V658 L) := hD
                            have hMV658 : rgd bM V658 := hMV658
                            have ajV658 : agr [(0, 7)] [] V651 V658 := ajV658
                            have agV658 : agr [(0, 7), (0, 8), (0, 48), (0, 50), (0, 51), (0, 52)] [15, 19, 20, 21, 22, 23, 24, 25, 26, 27, 28, 29, 30, 31, 32, 33, 34, 35, 36, 37, 38, 45, 46, 47, 53] V V658 := agV651.tr ajV658 (by decide) (by decide)
                            have rgz654 : 0 ≤ z654.toInt ∧ z654.toInt ≤ 0 := rgz654
                            have t657 : (V658 0 8).toInt = (V651 0 8).toInt := t657
                            have pq660 : (V658 0 8).toInt = ((V648 0 8)).toInt := congrArg Int32.toInt ((ajV658 0 8 rfl).trans (up2_o hV651 (by decide)))
                            refine lv_if_eq (tgt := 174) hx hb dX12_toldComponent_156 (by decide) (fun c661 => ?_) (fun c661 => ?_)
                            · skip
                              have f662 : z654.toInt = 0 := b_eq rfl (by decide) c661
                              refine lv_iconst (v := (-1)) hx hb dX12_toldComponent_174 (by decide) ?_
                              refine va_iast (D := D) (i := z5) (x := (-1)) hx hb hK hP hD hS 16 15 rfl rfl (i_in (a := z5.toInt) rfl (by omega)) dX12_toldComponent_175 (fun H locs hP hD hS => ?_)
                              obtain ⟨V663, hV663⟩ : ∃ z, z = up2 V658 23 (Int32.toNatClampNeg z5) (-1) := ⟨_, rfl⟩
                              have hP : va_P D vwCl (mw ad kk ks.1 V663 L) H := by rw [hV663]; exact hP
                              have hD : va_D A (mw ad kk ks.1 V663 L) := by rw [hV663]; exact hD
                              have hMV663 : rgd bM V663 := hMV658.put hV663 (i_full _)
                              have agV663 : agr [(0, 7), (0, 8), (0, 48), (0, 50), (0, 51), (0, 52)] [15, 19, 20, 21, 22, 23, 24, 25, 26, 27, 28, 29, 30, 31, 32, 33, 34, 35, 36, 37, 38, 45, 46, 47, 53] V V663 := agV658.up hV663 rfl
                              refine lv_aload_n hx hb dX12_toldComponent_176 rfl (lv_at hl 3 rfl) ?_
                              refine va_get (D := D) (ci := 12) (v := .ref (ad 24)) (C := RX12) (T := TX12) (N := 100) hx hb hg inX12 hown hK hP 0 rfl rfl 24 (by decide) (hg _ w1730) (fun _ h9 => h9) rfl dX12_toldComponent_177 ?_
                              refine lv_iload_n hx hb dX12_toldComponent_180 rfl (lv_at hl 2 rfl) ?_
                              refine lv_aload_n hx hb dX12_toldComponent_181 rfl (lv_at hl 3 rfl) ?_
                              refine lv_bipush (v := 6) hx hb dX12_toldComponent_182 (by decide) ?_
                              have r664 : Int32.toInt 6 = 6 := by decide
                              have pq665 : (V663 0 8).toInt = ((V648 0 8)).toInt := congrArg Int32.toInt ((up2_o hV663 (by decide)).trans ((ajV658 0 8 rfl).trans (up2_o hV651 (by decide))))
                              refine gA_int (gA_runV (As := [.int 6]) (rest := [.int z5, .ref (ad 24)]) (ci := 12) (q0 := 0) hx hb hml hown hg hP hD hK hS hA hnw hgk (s_hasWordB l D ks H.size ad kk V663 L 6 hMV663 (by decide) (show 1 ≤ (V663 0 8).toInt from by omega)) w2051 w2053 w90 w172 w2054 rfl rfl hdV_yX12_hasWord ⟨Nat.le_of_ble_eq_true rfl, Nat.le_of_ble_eq_true rfl⟩ rfl hl.1 rfl (Nat.le_of_ble_eq_true rfl) dX12_toldComponent_184 ⟨Nat.le_of_ble_eq_true rfl, Nat.le_of_ble_eq_true rfl⟩) hP hD hK hS hA (fun z666 u667 H locs w668 hP hD hK hS => ?_)
                              obtain ⟨V670, L671⟩ := u667
                              obtain ⟨hMV670, ajV670, axL671, rgz666, t669⟩ := w668
                              have axL671 : L = L671 := Eq.symm axL671
                              subst axL671
                              have hP : va_P D vwCl (mw ad kk ks.1 V670 L) H := hP
                              have hD : va_D A (mw ad kk ks.1 V670 L) := hD
                              have hMV670 : rgd bM V670 := hMV670
                              have ajV670 : agr [(0, 7)] [] V663 V670 := ajV670
                              have agV670 : agr [(0, 7), (0, 8), (0, 48), (0, 50), (0, 51), (0, 52)] [15, 19, 20, 21, 22, 23, 24, 25, 26, 27, 28, 29, 30, 31, 32, 33, 34, 35, 36, 37, 38, 45, 46, 47, 53] V V670 := agV663.tr ajV670 (by decide) (by decide)
                              have rgz666 : 0 ≤ z666.toInt ∧ z666.toInt ≤ 0 := rgz666
                              have t669 : (V670 0 8).toInt = (V663 0 8).toInt := t669
                              have pq672 : (V670 0 8).toInt = ((V648 0 8)).toInt := congrArg Int32.toInt ((ajV670 0 8 rfl).trans ((up2_o hV663 (by decide)).trans ((ajV658 0 8 rfl).trans (up2_o hV651 (by decide)))))
                              refine lv_if_eq (tgt := 200) hx hb dX12_toldComponent_187 (by decide) (fun c673 => ?_) (fun c673 => ?_)
                              · skip
                                have f674 : z666.toInt = 0 := b_eq rfl (by decide) c673
                                refine lv_iconst (v := 0) hx hb dX12_toldComponent_200 (by decide) ?_
                                refine va_iast (D := D) (i := z5) (x := 0) hx hb hK hP hD hS 17 16 rfl rfl (i_in (a := z5.toInt) rfl (by omega)) dX12_toldComponent_201 (fun H locs hP hD hS => ?_)
                                obtain ⟨V675, hV675⟩ : ∃ z, z = up2 V670 24 (Int32.toNatClampNeg z5) 0 := ⟨_, rfl⟩
                                have hP : va_P D vwCl (mw ad kk ks.1 V675 L) H := by rw [hV675]; exact hP
                                have hD : va_D A (mw ad kk ks.1 V675 L) := by rw [hV675]; exact hD
                                have hMV675 : rgd bM V675 := hMV670.put hV675 (show 0 ≤ Int32.toInt 0 ∧ Int32.toInt 0 ≤ 9 from by decide)
                                have agV675 : agr [(0, 7), (0, 8), (0, 48), (0, 50), (0, 51), (0, 52)] [15, 19, 20, 21, 22, 23, 24, 25, 26, 27, 28, 29, 30, 31, 32, 33, 34, 35, 36, 37, 38, 45, 46, 47, 53] V V675 := agV670.up hV675 rfl
                                refine lv_aload_n hx hb dX12_toldComponent_202 rfl (lv_at hl 3 rfl) ?_
                                refine va_get (D := D) (ci := 12) (v := .ref (ad 25)) (C := RX12) (T := TX12) (N := 100) hx hb hg inX12 hown hK hP 0 rfl rfl 25 (by decide) (hg _ w1731) (fun _ h9 => h9) rfl dX12_toldComponent_203 ?_
                                refine lv_iload_n hx hb dX12_toldComponent_206 rfl (lv_at hl 2 rfl) ?_
                                refine lv_iconst (v := (-1)) hx hb dX12_toldComponent_207 (by decide) ?_
                                refine va_iast (D := D) (i := z5) (x := (-1)) hx hb hK hP hD hS 18 17 rfl rfl (i_in (a := z5.toInt) rfl (by omega)) dX12_toldComponent_208 (fun H locs hP hD hS => ?_)
                                obtain ⟨V676, hV676⟩ : ∃ z, z = up2 V675 25 (Int32.toNatClampNeg z5) (-1) := ⟨_, rfl⟩
                                have hP : va_P D vwCl (mw ad kk ks.1 V676 L) H := by rw [hV676]; exact hP
                                have hD : va_D A (mw ad kk ks.1 V676 L) := by rw [hV676]; exact hD
                                have hMV676 : rgd bM V676 := hMV675.put hV676 (show (-1) ≤ Int32.toInt (-1) ∧ Int32.toInt (-1) ≤ 11 from by decide)
                                have agV676 : agr [(0, 7), (0, 8), (0, 48), (0, 50), (0, 51), (0, 52)] [15, 19, 20, 21, 22, 23, 24, 25, 26, 27, 28, 29, 30, 31, 32, 33, 34, 35, 36, 37, 38, 45, 46, 47, 53] V V676 := agV675.up hV676 rfl
                                refine lv_aload_n hx hb dX12_toldComponent_209 rfl (lv_at hl 3 rfl) ?_
                                refine lv_bipush (v := 7) hx hb dX12_toldComponent_210 (by decide) ?_
                                have r677 : Int32.toInt 7 = 7 := by decide
                                have pq678 : (V676 0 8).toInt = ((V648 0 8)).toInt := congrArg Int32.toInt ((up2_o hV676 (by decide)).trans ((up2_o hV675 (by decide)).trans ((ajV670 0 8 rfl).trans ((up2_o hV663 (by decide)).trans ((ajV658 0 8 rfl).trans (up2_o hV651 (by decide)))))))
                                refine gA_int (gA_runV (As := [.int 7]) (rest := []) (ci := 12) (q0 := 0) hx hb hml hown hg hP hD hK hS hA hnw hgk (s_hasWordB l D ks H.size ad kk V676 L 7 hMV676 (by decide) (show 1 ≤ (V676 0 8).toInt from by omega)) w2051 w2053 w90 w172 w2054 rfl rfl hdV_yX12_hasWord ⟨Nat.le_of_ble_eq_true rfl, Nat.le_of_ble_eq_true rfl⟩ rfl hl.1 rfl (Nat.le_of_ble_eq_true rfl) dX12_toldComponent_212 ⟨Nat.le_of_ble_eq_true rfl, Nat.le_of_ble_eq_true rfl⟩) hP hD hK hS hA (fun z679 u680 H locs w681 hP hD hK hS => ?_)
                                obtain ⟨V683, L684⟩ := u680
                                obtain ⟨hMV683, ajV683, axL684, rgz679, t682⟩ := w681
                                have axL684 : L = L684 := Eq.symm axL684
                                subst axL684
                                have hP : va_P D vwCl (mw ad kk ks.1 V683 L) H := hP
                                have hD : va_D A (mw ad kk ks.1 V683 L) := hD
                                have hMV683 : rgd bM V683 := hMV683
                                have ajV683 : agr [(0, 7)] [] V676 V683 := ajV683
                                have agV683 : agr [(0, 7), (0, 8), (0, 48), (0, 50), (0, 51), (0, 52)] [15, 19, 20, 21, 22, 23, 24, 25, 26, 27, 28, 29, 30, 31, 32, 33, 34, 35, 36, 37, 38, 45, 46, 47, 53] V V683 := agV676.tr ajV683 (by decide) (by decide)
                                have rgz679 : 0 ≤ z679.toInt ∧ z679.toInt ≤ 0 := rgz679
                                have t682 : (V683 0 8).toInt = (V676 0 8).toInt := t682
                                have pq685 : (V683 0 8).toInt = ((V648 0 8)).toInt := congrArg Int32.toInt ((ajV683 0 8 rfl).trans ((up2_o hV676 (by decide)).trans ((up2_o hV675 (by decide)).trans ((ajV670 0 8 rfl).trans ((up2_o hV663 (by decide)).trans ((ajV658 0 8 rfl).trans (up2_o hV651 (by decide))))))))
                                refine lv_if_eq (tgt := 262) hx hb dX12_toldComponent_215 (by decide) (fun c686 => ?_) (fun c686 => ?_)
                                · skip
                                  have f687 : z679.toInt = 0 := b_eq rfl (by decide) c686
                                  have pq688 : (V683 0 48).toInt = ((V 0 48)).toInt := congrArg Int32.toInt ((ajV683 0 48 rfl).trans ((up2_o hV676 (by decide)).trans ((up2_o hV675 (by decide)).trans ((ajV670 0 48 rfl).trans ((up2_o hV663 (by decide)).trans ((ajV658 0 48 rfl).trans ((up2_o hV651 (by decide)).trans ((ajV648 0 48 rfl).trans ((ajV280 0 48 rfl).trans ((ajV263 0 48 rfl).trans ((ajV47 0 48 rfl).trans ((ajV42 0 48 rfl).trans ((ajV29 0 48 rfl).trans (ajV13 0 48 rfl))))))))))))))
                                  have pq689 : (V683 0 12).toInt = ((V 0 12)).toInt := congrArg Int32.toInt ((ajV683 0 12 rfl).trans ((up2_o hV676 (by decide)).trans ((up2_o hV675 (by decide)).trans ((ajV670 0 12 rfl).trans ((up2_o hV663 (by decide)).trans ((ajV658 0 12 rfl).trans ((up2_o hV651 (by decide)).trans ((ajV648 0 12 rfl).trans ((ajV280 0 12 rfl).trans ((ajV263 0 12 rfl).trans ((ajV47 0 12 rfl).trans ((ajV42 0 12 rfl).trans ((ajV29 0 12 rfl).trans (ajV13 0 12 rfl))))))))))))))
                                  exact J52 V683 L H locs ls alL (agr.tr (agr.up (agr.up (agr.tr (agr.up (agr.tr (agr.up (agr.tr (agr.tr (agr.tr agr.rf ajV263 (by decide) (by decide)) ajV280 (by decide) (by decide)) ajV648 (by decide) (by decide)) hV651 rfl) ajV658 (by decide) (by decide)) hV663 rfl) ajV670 (by decide) (by decide)) hV675 rfl) hV676 rfl) ajV683 (by decide) (by decide)) hMV683 (Or.inr ⟨(show 1 ≤ (V683 0 8).toInt from by omega), (fun k => by rw [show (V683 0 8).toInt = (V280 0 8).toInt from by omega]; exact hb641 k)⟩) (show (V683 0 48).toInt ≤ 8000 from by omega) (show (V683 0 48).toInt = (V 0 48).toInt from by omega) (show (V683 0 12).toInt = (V 0 12).toInt from by omega) hP hD hS (lv_sub hl [0, 1, 2, 3] rfl)
                                · skip
                                  have f690 : z679.toInt ≠ 0 := b_neq rfl (by decide) c686
                                  exfalso; omega
                              · skip
                                have f691 : z666.toInt ≠ 0 := b_neq rfl (by decide) c673
                                exfalso; omega
                            · skip
                              have f692 : z654.toInt ≠ 0 := b_neq rfl (by decide) c661
                              exfalso; omega
                      · skip
                        have kd693 : gT.1 ((nx (nx gs 1) 1).1 0) ≠ 132 := fun h9 => h266 (h9.trans (by decide))
                        have hb694 : ∀ k, Rc gT (Crun gs (Istmt :: k)) (Cbad (V263 0 8).toInt) := fun k => Rc.go1 (hr37 k) ((tk_n kd693).trans (fl_eq rfl rl267))
                        have r695 : 0 ≤ ((V263 0 8)).toInt ∧ ((V263 0 8)).toInt ≤ 70000 := hMV263 0 8
                        refine lv_aload_n hx hb dX12_toldComponent_117 rfl (lv_at hl 3 rfl) ?_
                        refine va_get (D := D) (ci := 12) (v := .int (V263 0 8)) (C := RX12) (T := TX12) (N := 100) hx hb hg inX12 hown hK hP 0 rfl rfl 8 (by decide) (hg _ w1714) (fun _ h9 => h9) rfl dX12_toldComponent_118 ?_
                        refine lv_if_ne (tgt := 133) hx hb dX12_toldComponent_121 (by decide) (fun c696 => ?_) (fun c696 => ?_)
                        · skip
                          have f697 : ((V263 0 8)).toInt ≠ 0 := b_neq rfl (by decide) c696
                          refine lv_aload_n hx hb dX12_toldComponent_133 rfl (lv_at hl 3 rfl) ?_
                          refine va_get (D := D) (ci := 12) (v := .ref (ad 22)) (C := RX12) (T := TX12) (N := 100) hx hb hg inX12 hown hK hP 0 rfl rfl 22 (by decide) (hg _ w1728) (fun _ h9 => h9) rfl dX12_toldComponent_134 ?_
                          refine lv_iload_n hx hb dX12_toldComponent_137 rfl (lv_at hl 2 rfl) ?_
                          refine lv_aload_n hx hb dX12_toldComponent_138 rfl (lv_at hl 3 rfl) ?_
                          refine lv_bipush (v := 20) hx hb dX12_toldComponent_139 (by decide) ?_
                          refine lv_iconst (v := 4) hx hb dX12_toldComponent_141 (by decide) ?_
                          have r698 : Int32.toInt 20 = 20 := by decide
                          refine gA_int (gA_runV (As := [.int 20, .int 4]) (rest := [.int z5, .ref (ad 22)]) (ci := 12) (q0 := 0) hx hb hml hown hg hP hD hK hS hA hnw hgk (s_oneOfB l D ks H.size ad kk V263 L 20 4 hMV263 (by decide) (by decide) (show 1 ≤ (V263 0 8).toInt from by omega)) w2096 w2098 w101 w172 w2099 rfl rfl hdV_yX12_oneOf ⟨Nat.le_of_ble_eq_true rfl, Nat.le_of_ble_eq_true rfl⟩ rfl hl.1 rfl (Nat.le_of_ble_eq_true rfl) dX12_toldComponent_142 ⟨Nat.le_of_ble_eq_true rfl, Nat.le_of_ble_eq_true rfl⟩) hP hD hK hS hA (fun z699 u700 H locs w701 hP hD hK hS => ?_)
                          obtain ⟨V703, L704⟩ := u700
                          obtain ⟨hMV703, ajV703, axL704, rgz699, t702⟩ := w701
                          have axL704 : L = L704 := Eq.symm axL704
                          subst axL704
                          have hP : va_P D vwCl (mw ad kk ks.1 V703 L) H := hP
                          have hD : va_D A (mw ad kk ks.1 V703 L) := hD
                          have hMV703 : rgd bM V703 := hMV703
                          have ajV703 : agr [(0, 7), (0, 8)] [] V263 V703 := ajV703
                          have agV703 : agr [(0, 7), (0, 8), (0, 48), (0, 50), (0, 51), (0, 52)] [15, 19, 20, 21, 22, 23, 24, 25, 26, 27, 28, 29, 30, 31, 32, 33, 34, 35, 36, 37, 38, 45, 46, 47, 53] V V703 := agV263.tr ajV703 (by decide) (by decide)
                          have rgz699 : 0 ≤ z699.toInt ∧ z699.toInt ≤ 0 := rgz699
                          have t702 : (V703 0 8).toInt = (V263 0 8).toInt := t702
                          have r705 : 0 ≤ ((V703 0 8)).toInt ∧ ((V703 0 8)).toInt ≤ 70000 := hMV703 0 8
                          refine va_iast (D := D) (i := z5) (x := z699) hx hb hK hP hD hS 15 14 rfl rfl (i_in (a := z5.toInt) rfl (by omega)) dX12_toldComponent_145 (fun H locs hP hD hS => ?_)
                          obtain ⟨V706, hV706⟩ : ∃ z, z = up2 V703 22 (Int32.toNatClampNeg z5) z699 := ⟨_, rfl⟩
                          have hP : va_P D vwCl (mw ad kk ks.1 V706 L) H := by rw [hV706]; exact hP
                          have hD : va_D A (mw ad kk ks.1 V706 L) := by rw [hV706]; exact hD
                          have hMV706 : rgd bM V706 := hMV703.put hV706 (i_full _)
                          have agV706 : agr [(0, 7), (0, 8), (0, 48), (0, 50), (0, 51), (0, 52)] [15, 19, 20, 21, 22, 23, 24, 25, 26, 27, 28, 29, 30, 31, 32, 33, 34, 35, 36, 37, 38, 45, 46, 47, 53] V V706 := agV703.up hV706 rfl
                          refine lv_aload_n hx hb dX12_toldComponent_146 rfl (lv_at hl 3 rfl) ?_
                          refine va_get (D := D) (ci := 12) (v := .ref (ad 23)) (C := RX12) (T := TX12) (N := 100) hx hb hg inX12 hown hK hP 0 rfl rfl 23 (by decide) (hg _ w1729) (fun _ h9 => h9) rfl dX12_toldComponent_147 ?_
                          refine lv_iload_n hx hb dX12_toldComponent_150 rfl (lv_at hl 2 rfl) ?_
                          refine lv_aload_n hx hb dX12_toldComponent_151 rfl (lv_at hl 3 rfl) ?_
                          refine lv_iconst (v := 5) hx hb dX12_toldComponent_152 (by decide) ?_
                          have r707 : Int32.toInt 5 = 5 := by decide
                          have pq708 : (V706 0 8).toInt = ((V703 0 8)).toInt := congrArg Int32.toInt (up2_o hV706 (by decide))
                          refine gA_int (gA_runV (As := [.int 5]) (rest := [.int z5, .ref (ad 23)]) (ci := 12) (q0 := 0) hx hb hml hown hg hP hD hK hS hA hnw hgk (s_hasWordB l D ks H.size ad kk V706 L 5 hMV706 (by decide) (show 1 ≤ (V706 0 8).toInt from by omega)) w2051 w2053 w90 w172 w2054 rfl rfl hdV_yX12_hasWord ⟨Nat.le_of_ble_eq_true rfl, Nat.le_of_ble_eq_true rfl⟩ rfl hl.1 rfl (Nat.le_of_ble_eq_true rfl) dX12_toldComponent_153 ⟨Nat.le_of_ble_eq_true rfl, Nat.le_of_ble_eq_true rfl⟩) hP hD hK hS hA (fun z709 u710 H locs w711 hP hD hK hS => ?_)
                          obtain ⟨V713, L714⟩ := u710
                          obtain ⟨hMV713, ajV713, axL714, rgz709, t712⟩ := w711
                          have axL714 : L = L714 := Eq.symm axL714
                          subst axL714
                          have hP : va_P D vwCl (mw ad kk ks.1 V713 L) H := hP
                          have hD : va_D A (mw ad kk ks.1 V713 L) := hD
                          have hMV713 : rgd bM V713 := hMV713
                          have ajV713 : agr [(0, 7)] [] V706 V713 := ajV713
                          have agV713 : agr [(0, 7), (0, 8), (0, 48), (0, 50), (0, 51), (0, 52)] [15, 19, 20, 21, 22, 23, 24, 25, 26, 27, 28, 29, 30, 31, 32, 33, 34, 35, 36, 37, 38, 45, 46, 47, 53] V V713 := agV706.tr ajV713 (by decide) (by decide)
                          have rgz709 : 0 ≤ z709.toInt ∧ z709.toInt ≤ 0 := rgz709
                          have t712 : (V713 0 8).toInt = (V706 0 8).toInt := t712
                          have pq715 : (V713 0 8).toInt = ((V703 0 8)).toInt := congrArg Int32.toInt ((ajV713 0 8 rfl).trans (up2_o hV706 (by decide)))
                          refine lv_if_eq (tgt := 174) hx hb dX12_toldComponent_156 (by decide) (fun c716 => ?_) (fun c716 => ?_)
                          · skip
                            have f717 : z709.toInt = 0 := b_eq rfl (by decide) c716
                            refine lv_iconst (v := (-1)) hx hb dX12_toldComponent_174 (by decide) ?_
                            refine va_iast (D := D) (i := z5) (x := (-1)) hx hb hK hP hD hS 16 15 rfl rfl (i_in (a := z5.toInt) rfl (by omega)) dX12_toldComponent_175 (fun H locs hP hD hS => ?_)
                            obtain ⟨V718, hV718⟩ : ∃ z, z = up2 V713 23 (Int32.toNatClampNeg z5) (-1) := ⟨_, rfl⟩
                            have hP : va_P D vwCl (mw ad kk ks.1 V718 L) H := by rw [hV718]; exact hP
                            have hD : va_D A (mw ad kk ks.1 V718 L) := by rw [hV718]; exact hD
                            have hMV718 : rgd bM V718 := hMV713.put hV718 (i_full _)
                            have agV718 : agr [(0, 7), (0, 8), (0, 48), (0, 50), (0, 51), (0, 52)] [15, 19, 20, 21, 22, 23, 24, 25, 26, 27, 28, 29, 30, 31, 32, 33, 34, 35, 36, 37, 38, 45, 46, 47, 53] V V718 := agV713.up hV718 rfl
                            refine lv_aload_n hx hb dX12_toldComponent_176 rfl (lv_at hl 3 rfl) ?_
                            refine va_get (D := D) (ci := 12) (v := .ref (ad 24)) (C := RX12) (T := TX12) (N := 100) hx hb hg inX12 hown hK hP 0 rfl rfl 24 (by decide) (hg _ w1730) (fun _ h9 => h9) rfl dX12_toldComponent_177 ?_
                            refine lv_iload_n hx hb dX12_toldComponent_180 rfl (lv_at hl 2 rfl) ?_
                            refine lv_aload_n hx hb dX12_toldComponent_181 rfl (lv_at hl 3 rfl) ?_
                            refine lv_bipush (v := 6) hx hb dX12_toldComponent_182 (by decide) ?_
                            have r719 : Int32.toInt 6 = 6 := by decide
                            have pq720 : (V718 0 8).toInt = ((V703 0 8)).toInt := congrArg Int32.toInt ((up2_o hV718 (by decide)).trans ((ajV713 0 8 rfl).trans (up2_o hV706 (by decide))))
                            refine gA_int (gA_runV (As := [.int 6]) (rest := [.int z5, .ref (ad 24)]) (ci := 12) (q0 := 0) hx hb hml hown hg hP hD hK hS hA hnw hgk (s_hasWordB l D ks H.size ad kk V718 L 6 hMV718 (by decide) (show 1 ≤ (V718 0 8).toInt from by omega)) w2051 w2053 w90 w172 w2054 rfl rfl hdV_yX12_hasWord ⟨Nat.le_of_ble_eq_true rfl, Nat.le_of_ble_eq_true rfl⟩ rfl hl.1 rfl (Nat.le_of_ble_eq_true rfl) dX12_toldComponent_184 ⟨Nat.le_of_ble_eq_true rfl, Nat.le_of_ble_eq_true rfl⟩) hP hD hK hS hA (fun z721 u722 H locs w723 hP hD hK hS => ?_)
                            obtain ⟨V725, L726⟩ := u722
                            obtain ⟨hMV725, ajV725, axL726, rgz721, t724⟩ := w723
                            have axL726 : L = L726 := Eq.symm axL726
                            subst axL726
                            have hP : va_P D vwCl (mw ad kk ks.1 V725 L) H := hP
                            have hD : va_D A (mw ad kk ks.1 V725 L) := hD
                            have hMV725 : rgd bM V725 := hMV725
                            have ajV725 : agr [(0, 7)] [] V718 V725 := ajV725
                            have agV725 : agr [(0, 7), (0, 8), (0, 48), (0, 50), (0, 51), (0, 52)] [15, 19, 20, 21, 22, 23, 24, 25, 26, 27, 28, 29, 30, 31, 32, 33, 34, 35, 36, 37, 38, 45, 46, 47, 53] V V725 := agV718.tr ajV725 (by decide) (by decide)
                            have rgz721 : 0 ≤ z721.toInt ∧ z721.toInt ≤ 0 := rgz721
                            have t724 : (V725 0 8).toInt = (V718 0 8).toInt := t724
                            have pq727 : (V725 0 8).toInt = ((V703 0 8)).toInt := congrArg Int32.toInt ((ajV725 0 8 rfl).trans ((up2_o hV718 (by decide)).trans ((ajV713 0 8 rfl).trans (up2_o hV706 (by decide)))))
                            refine lv_if_eq (tgt := 200) hx hb dX12_toldComponent_187 (by decide) (fun c728 => ?_) (fun c728 => ?_)
                            · skip
                              have f729 : z721.toInt = 0 := b_eq rfl (by decide) c728
                              refine lv_iconst (v := 0) hx hb dX12_toldComponent_200 (by decide) ?_
                              refine va_iast (D := D) (i := z5) (x := 0) hx hb hK hP hD hS 17 16 rfl rfl (i_in (a := z5.toInt) rfl (by omega)) dX12_toldComponent_201 (fun H locs hP hD hS => ?_)
                              obtain ⟨V730, hV730⟩ : ∃ z, z = up2 V725 24 (Int32.toNatClampNeg z5) 0 := ⟨_, rfl⟩
                              have hP : va_P D vwCl (mw ad kk ks.1 V730 L) H := by rw [hV730]; exact hP
                              have hD : va_D A (mw ad kk ks.1 V730 L) := by rw [hV730]; exact hD
                              have hMV730 : rgd bM V730 := hMV725.put hV730 (show 0 ≤ Int32.toInt 0 ∧ Int32.toInt 0 ≤ 9 from by decide)
                              have agV730 : agr [(0, 7), (0, 8), (0, 48), (0, 50), (0, 51), (0, 52)] [15, 19, 20, 21, 22, 23, 24, 25, 26, 27, 28, 29, 30, 31, 32, 33, 34, 35, 36, 37, 38, 45, 46, 47, 53] V V730 := agV725.up hV730 rfl
                              refine lv_aload_n hx hb dX12_toldComponent_202 rfl (lv_at hl 3 rfl) ?_
                              refine va_get (D := D) (ci := 12) (v := .ref (ad 25)) (C := RX12) (T := TX12) (N := 100) hx hb hg inX12 hown hK hP 0 rfl rfl 25 (by decide) (hg _ w1731) (fun _ h9 => h9) rfl dX12_toldComponent_203 ?_
                              refine lv_iload_n hx hb dX12_toldComponent_206 rfl (lv_at hl 2 rfl) ?_
                              refine lv_iconst (v := (-1)) hx hb dX12_toldComponent_207 (by decide) ?_
                              refine va_iast (D := D) (i := z5) (x := (-1)) hx hb hK hP hD hS 18 17 rfl rfl (i_in (a := z5.toInt) rfl (by omega)) dX12_toldComponent_208 (fun H locs hP hD hS => ?_)
                              obtain ⟨V731, hV731⟩ : ∃ z, z = up2 V730 25 (Int32.toNatClampNeg z5) (-1) := ⟨_, rfl⟩
                              have hP : va_P D vwCl (mw ad kk ks.1 V731 L) H := by rw [hV731]; exact hP
                              have hD : va_D A (mw ad kk ks.1 V731 L) := by rw [hV731]; exact hD
                              have hMV731 : rgd bM V731 := hMV730.put hV731 (show (-1) ≤ Int32.toInt (-1) ∧ Int32.toInt (-1) ≤ 11 from by decide)
                              have agV731 : agr [(0, 7), (0, 8), (0, 48), (0, 50), (0, 51), (0, 52)] [15, 19, 20, 21, 22, 23, 24, 25, 26, 27, 28, 29, 30, 31, 32, 33, 34, 35, 36, 37, 38, 45, 46, 47, 53] V V731 := agV730.up hV731 rfl
                              refine lv_aload_n hx hb dX12_toldComponent_209 rfl (lv_at hl 3 rfl) ?_
                              refine lv_bipush (v := 7) hx hb dX12_toldComponent_210 (by decide) ?_
                              have r732 : Int32.toInt 7 = 7 := by decide
                              have pq733 : (V731 0 8).toInt = ((V703 0 8)).toInt := congrArg Int32.toInt ((up2_o hV731 (by decide)).trans ((up2_o hV730 (by decide)).trans ((ajV725 0 8 rfl).trans ((up2_o hV718 (by decide)).trans ((ajV713 0 8 rfl).trans (up2_o hV706 (by decide)))))))
                              refine gA_int (gA_runV (As := [.int 7]) (rest := []) (ci := 12) (q0 := 0) hx hb hml hown hg hP hD hK hS hA hnw hgk (s_hasWordB l D ks H.size ad kk V731 L 7 hMV731 (by decide) (show 1 ≤ (V731 0 8).toInt from by omega)) w2051 w2053 w90 w172 w2054 rfl rfl hdV_yX12_hasWord ⟨Nat.le_of_ble_eq_true rfl, Nat.le_of_ble_eq_true rfl⟩ rfl hl.1 rfl (Nat.le_of_ble_eq_true rfl) dX12_toldComponent_212 ⟨Nat.le_of_ble_eq_true rfl, Nat.le_of_ble_eq_true rfl⟩) hP hD hK hS hA (fun z734 u735 H locs w736 hP hD hK hS => ?_)
                              obtain ⟨V738, L739⟩ := u735
                              obtain ⟨hMV738, ajV738, axL739, rgz734, t737⟩ := w736
                              have axL739 : L = L739 := Eq.symm axL739
                              subst axL739
                              have hP : va_P D vwCl (mw ad kk ks.1 V738 L) H := hP
                              have hD : va_D A (mw ad kk ks.1 V738 L) := hD
                              have hMV738 : rgd bM V738 := hMV738
                              have ajV738 : agr [(0, 7)] [] V731 V738 := ajV738
                              have agV738 : agr [(0, 7), (0, 8), (0, 48), (0, 50), (0, 51), (0, 52)] [15, 19, 20, 21, 22, 23, 24, 25, 26, 27, 28, 29, 30, 31, 32, 33, 34, 35, 36, 37, 38, 45, 46, 47, 53] V V738 := agV731.tr ajV738 (by decide) (by decide)
                              have rgz734 : 0 ≤ z734.toInt ∧ z734.toInt ≤ 0 := rgz734
                              have t737 : (V738 0 8).toInt = (V731 0 8).toInt := t737
                              have pq740 : (V738 0 8).toInt = ((V703 0 8)).toInt := congrArg Int32.toInt ((ajV738 0 8 rfl).trans ((up2_o hV731 (by decide)).trans ((up2_o hV730 (by decide)).trans ((ajV725 0 8 rfl).trans ((up2_o hV718 (by decide)).trans ((ajV713 0 8 rfl).trans (up2_o hV706 (by decide))))))))
                              refine lv_if_eq (tgt := 262) hx hb dX12_toldComponent_215 (by decide) (fun c741 => ?_) (fun c741 => ?_)
                              · skip
                                have f742 : z734.toInt = 0 := b_eq rfl (by decide) c741
                                have pq743 : (V738 0 48).toInt = ((V 0 48)).toInt := congrArg Int32.toInt ((ajV738 0 48 rfl).trans ((up2_o hV731 (by decide)).trans ((up2_o hV730 (by decide)).trans ((ajV725 0 48 rfl).trans ((up2_o hV718 (by decide)).trans ((ajV713 0 48 rfl).trans ((up2_o hV706 (by decide)).trans ((ajV703 0 48 rfl).trans ((ajV263 0 48 rfl).trans ((ajV47 0 48 rfl).trans ((ajV42 0 48 rfl).trans ((ajV29 0 48 rfl).trans (ajV13 0 48 rfl)))))))))))))
                                have pq744 : (V738 0 12).toInt = ((V 0 12)).toInt := congrArg Int32.toInt ((ajV738 0 12 rfl).trans ((up2_o hV731 (by decide)).trans ((up2_o hV730 (by decide)).trans ((ajV725 0 12 rfl).trans ((up2_o hV718 (by decide)).trans ((ajV713 0 12 rfl).trans ((up2_o hV706 (by decide)).trans ((ajV703 0 12 rfl).trans ((ajV263 0 12 rfl).trans ((ajV47 0 12 rfl).trans ((ajV42 0 12 rfl).trans ((ajV29 0 12 rfl).trans (ajV13 0 12 rfl)))))))))))))
                                exact J52 V738 L H locs ls alL (agr.tr (agr.up (agr.up (agr.tr (agr.up (agr.tr (agr.up (agr.tr (agr.tr agr.rf ajV263 (by decide) (by decide)) ajV703 (by decide) (by decide)) hV706 rfl) ajV713 (by decide) (by decide)) hV718 rfl) ajV725 (by decide) (by decide)) hV730 rfl) hV731 rfl) ajV738 (by decide) (by decide)) hMV738 (Or.inr ⟨(show 1 ≤ (V738 0 8).toInt from by omega), (fun k => by rw [show (V738 0 8).toInt = (V263 0 8).toInt from by omega]; exact hb694 k)⟩) (show (V738 0 48).toInt ≤ 8000 from by omega) (show (V738 0 48).toInt = (V 0 48).toInt from by omega) (show (V738 0 12).toInt = (V 0 12).toInt from by omega) hP hD hS (lv_sub hl [0, 1, 2, 3] rfl)
                              · skip
                                have f745 : z734.toInt ≠ 0 := b_neq rfl (by decide) c741
                                exfalso; omega
                            · skip
                              have f746 : z721.toInt ≠ 0 := b_neq rfl (by decide) c728
                              exfalso; omega
                          · skip
                            have f747 : z709.toInt ≠ 0 := b_neq rfl (by decide) c716
                            exfalso; omega
                        · skip
                          have f748 : ((V263 0 8)).toInt = 0 := b_eq rfl (by decide) c696
                          exfalso; omega
                    · skip
                      have f749 : y46.toInt < 20 := b_nle (by decide) rfl c49
                      refine lv_aload_n hx hb dX12_toldComponent_93 rfl (lv_at hl 3 rfl) ?_
                      refine va_get (D := D) (ci := 12) (v := .ref (ad 34)) (C := RX12) (T := TX12) (N := 100) hx hb hg inX12 hown hK hP 0 rfl rfl 34 (by decide) (hg _ w1740) (fun _ h9 => h9) rfl dX12_toldComponent_94 ?_
                      refine lv_bipush (v := 20) hx hb dX12_toldComponent_97 (by decide) ?_
                      refine lv_iload_n hx hb dX12_toldComponent_99 rfl (lv_at hl 2 rfl) ?_
                      refine lv_imul hx hb dX12_toldComponent_100 ?_
                      refine lv_topi (fun z750 ez750 => ?_)
                      have hz750 : z750.toInt = 20 * z5.toInt := i_mul ez750 (by decide) rfl (by omega)
                      refine lv_iload hx hb dX12_toldComponent_101 (lv_at hl 0 rfl) ?_
                      refine lv_iadd hx hb dX12_toldComponent_103 ?_
                      refine lv_topi (fun z751 ez751 => ?_)
                      have hz751 : z751.toInt = z750.toInt + y46.toInt := i_add ez751 rfl rfl (by omega)
                      refine lv_iconst (v := (-1)) hx hb dX12_toldComponent_104 (by decide) ?_
                      refine va_iast (D := D) (i := z751) (x := (-1)) hx hb hK hP hD hS 27 26 rfl rfl (i_in (a := z751.toInt) rfl (by omega)) dX12_toldComponent_105 (fun H locs hP hD hS => ?_)
                      obtain ⟨V752, hV752⟩ : ∃ z, z = up2 V47 34 (Int32.toNatClampNeg z751) (-1) := ⟨_, rfl⟩
                      have hP : va_P D vwCl (mw ad kk ks.1 V752 L) H := by rw [hV752]; exact hP
                      have hD : va_D A (mw ad kk ks.1 V752 L) := by rw [hV752]; exact hD
                      have hMV752 : rgd bM V752 := hMV47.put hV752 (i_full _)
                      have agV752 : agr [(0, 7), (0, 8), (0, 48), (0, 50), (0, 51), (0, 52)] [15, 19, 20, 21, 22, 23, 24, 25, 26, 27, 28, 29, 30, 31, 32, 33, 34, 35, 36, 37, 38, 45, 46, 47, 53] V V752 := agV47.up hV752 rfl
                      obtain ⟨z753, ez753⟩ : ∃ y : Int32, y = y46 + 1 := ⟨_, rfl⟩
                      have hz753 : z753.toInt = y46.toInt + 1 := i_add ez753 rfl (by decide) (by omega)
                      refine lv_iinc (v := z753) (lv' := [(4, .int z753), (2, .long z25), (1, .int z5), (0, .ref (ad 0))]) hx hb dX12_toldComponent_106 hl (k := 0) rfl (by rw [ez753]; rfl) (by decide) rfl (fun ls hl => ?_)
                      refine lv_goto (tgt := 86) hx hb dX12_toldComponent_109 (by decide) ?_
                      have k34 := i_clamp (x := z751) rfl (by omega)
                      exact ihlp48 z753 V752 H locs ls (by omega) (fun j hj => by rcases Decidable.em (20 * gc + j = Int32.toNatClampNeg z751) with hk | hk; (rw [hk, up2_s hV752]; decide); (rw [up2_k hV752 hk]; exact xlp48_0 j (by omega))) (by omega) (agr.up (agr.tr agr.rf ajV47 (by decide) (by decide)) hV752 rfl) hMV752 hP hD hS (lv_sub hl [0, 1, 2, 3] rfl)
                exact lp48 ((20 - (Int32.toInt 0) + 1 : Int).toNat) 0 V42 H locs ls (by decide) (fun j hj => absurd hj (by omega)) (by omega) agr.rf hMV42 hP hD hS (lv_sub hl [0, 1, 2, 3] rfl)
              · skip
                have f754 : y41.toInt < 24 := b_nle (by decide) rfl c44
                refine lv_aload_n hx hb dX12_toldComponent_64 rfl (lv_at hl 3 rfl) ?_
                refine va_get (D := D) (ci := 12) (v := .ref (ad 21)) (C := RX12) (T := TX12) (N := 100) hx hb hg inX12 hown hK hP 0 rfl rfl 21 (by decide) (hg _ w1727) (fun _ h9 => h9) rfl dX12_toldComponent_65 ?_
                refine lv_bipush (v := 24) hx hb dX12_toldComponent_68 (by decide) ?_
                refine lv_iload_n hx hb dX12_toldComponent_70 rfl (lv_at hl 2 rfl) ?_
                refine lv_imul hx hb dX12_toldComponent_71 ?_
                refine lv_topi (fun z755 ez755 => ?_)
                have hz755 : z755.toInt = 24 * z5.toInt := i_mul ez755 (by decide) rfl (by omega)
                refine lv_iload hx hb dX12_toldComponent_72 (lv_at hl 0 rfl) ?_
                refine lv_iadd hx hb dX12_toldComponent_74 ?_
                refine lv_topi (fun z756 ez756 => ?_)
                have hz756 : z756.toInt = z755.toInt + y41.toInt := i_add ez756 rfl rfl (by omega)
                refine lv_iconst (v := 0) hx hb dX12_toldComponent_75 (by decide) ?_
                refine va_zast (D := D) (i := z756) (x := 0) hx hb hK hP hD hS 14 13 rfl rfl (i_in (a := z756.toInt) rfl (by omega)) dX12_toldComponent_76 (fun H locs hP hD hS => ?_)
                obtain ⟨V757, hV757⟩ : ∃ z, z = up2 V42 21 (Int32.toNatClampNeg z756) (vp_nar .boolean 0) := ⟨_, rfl⟩
                have hP : va_P D vwCl (mw ad kk ks.1 V757 L) H := by rw [hV757]; exact hP
                have hD : va_D A (mw ad kk ks.1 V757 L) := by rw [hV757]; exact hD
                have hMV757 : rgd bM V757 := hMV42.put hV757 (nar_b _)
                have agV757 : agr [(0, 7), (0, 8), (0, 48), (0, 50), (0, 51), (0, 52)] [15, 19, 20, 21, 22, 23, 24, 25, 26, 27, 28, 29, 30, 31, 32, 33, 34, 35, 36, 37, 38, 45, 46, 47, 53] V V757 := agV42.up hV757 rfl
                obtain ⟨z758, ez758⟩ : ∃ y : Int32, y = y41 + 1 := ⟨_, rfl⟩
                have hz758 : z758.toInt = y41.toInt + 1 := i_add ez758 rfl (by decide) (by omega)
                refine lv_iinc (v := z758) (lv' := [(4, .int z758), (2, .long z25), (1, .int z5), (0, .ref (ad 0))]) hx hb dX12_toldComponent_77 hl (k := 0) rfl (by rw [ez758]; rfl) (by decide) rfl (fun ls hl => ?_)
                refine lv_goto (tgt := 57) hx hb dX12_toldComponent_80 (by decide) ?_
                exact ihlp43 z758 V757 H locs ls (by omega) (by omega) (agr.up (agr.tr agr.rf ajV42 (by decide) (by decide)) hV757 rfl) hMV757 hP hD hS (lv_sub hl [0, 1, 2, 3] rfl)
          exact lp43 ((24 - (Int32.toInt 0) + 1 : Int).toNat) 0 V29 H locs ls (by decide) (by omega) agr.rf hMV29 hP hD hS (lv_sub hl [0, 1, 2, 3] rfl)
        · skip
          have hb759 : ∀ k, Rc gT (Crun gs (Istmt :: k)) (Cbad (V29 0 8).toInt) := fun k => Rc.go1 (hr19 k) (nc_b h33)
          have r760 : 0 ≤ ((V29 0 8)).toInt ∧ ((V29 0 8)).toInt ≤ 70000 := hMV29 0 8
          refine lv_lstore_n (lv' := [(2, .long z25), (1, .int z5), (0, .ref (ad 0))]) hx hb dX12_toldComponent_53 rfl hl (by decide) rfl (fun ls hl => ?_)
          have z5s : z5.toInt < 48 := by omega
          refine lv_iconst (v := 0) hx hb dX12_toldComponent_54 (by decide) ?_
          refine lv_istore (lv' := [(4, .int 0), (2, .long z25), (1, .int z5), (0, .ref (ad 0))]) hx hb dX12_toldComponent_55 hl (by decide) rfl (fun ls hl => ?_)
          have lp763 : ∀ (fulp763 : Nat) (y761 : Int32) (V762 : Vf) (H : Heap) (locs : List Loc) (ls : Array Slot), 0 ≤ y761.toInt ∧ y761.toInt ≤ 24 → 24 - y761.toInt < (fulp763 : Int) → agr [] [21] V29 V762 → rgd bM V762 → va_P D vwCl (mw ad kk ks.1 V762 L) H → va_D A (mw ad kk ks.1 V762 L) → va_S A s.heap H locs → lv_has ls 5 [(4, .int y761), (2, .long z25), (1, .int z5), (0, .ref (ad 0))] → W p l e r_s_toldComponentA s m ([.ref (ad 0)] : List Value).toArray below meth c H locs 0 0 (MQ below (q_s_toldComponentA D ks ad kk V L  bq gn gT gs A) ([.ref (ad 0)] : List Value).toArray s 0 0 A) (F0 m 57 ls []) := by
            (try clear fz21); (try clear ps20); (try clear hr19); (try clear hr18)
            intro fulp763
            induction fulp763 with
            | zero =>
              intro y761 V762 H locs ls klp763_0 hn ajV762 hMV762 hP hD hS hl
              exfalso; omega
            | succ fulp763 ihlp763 =>
              intro y761 V762 H locs ls klp763_0 hn ajV762 hMV762 hP hD hS hl
              have agV762 : agr [(0, 7), (0, 8), (0, 48), (0, 50), (0, 51), (0, 52)] [15, 19, 20, 21, 22, 23, 24, 25, 26, 27, 28, 29, 30, 31, 32, 33, 34, 35, 36, 37, 38, 45, 46, 47, 53] V V762 := agV29.tr ajV762 (by decide) (by decide)
              refine lv_iload hx hb dX12_toldComponent_57 (lv_at hl 0 rfl) ?_
              refine lv_bipush (v := 24) hx hb dX12_toldComponent_59 (by decide) ?_
              refine lv_icmp_ge (tgt := 83) hx hb dX12_toldComponent_61 (by decide) (fun c764 => ?_) (fun c764 => ?_)
              · skip
                have f765 : 24 ≤ y761.toInt := b_le (by decide) rfl c764
                refine lv_iconst (v := 0) hx hb dX12_toldComponent_83 (by decide) ?_
                refine lv_istore (lv' := [(4, .int 0), (2, .long z25), (1, .int z5), (0, .ref (ad 0))]) hx hb dX12_toldComponent_84 hl (by decide) rfl (fun ls hl => ?_)
                have lp768 : ∀ (fulp768 : Nat) (y766 : Int32) (V767 : Vf) (H : Heap) (locs : List Loc) (ls : Array Slot), 0 ≤ y766.toInt ∧ y766.toInt ≤ 20 → (∀ j : Nat, (j : Int) < y766.toInt → (V767 34 (20 * gc + j)).toInt = -1) → 20 - y766.toInt < (fulp768 : Int) → agr [] [34] V762 V767 → rgd bM V767 → va_P D vwCl (mw ad kk ks.1 V767 L) H → va_D A (mw ad kk ks.1 V767 L) → va_S A s.heap H locs → lv_has ls 5 [(4, .int y766), (2, .long z25), (1, .int z5), (0, .ref (ad 0))] → W p l e r_s_toldComponentA s m ([.ref (ad 0)] : List Value).toArray below meth c H locs 0 0 (MQ below (q_s_toldComponentA D ks ad kk V L  bq gn gT gs A) ([.ref (ad 0)] : List Value).toArray s 0 0 A) (F0 m 86 ls []) := by
                  (try clear fz21); (try clear ps20); (try clear hr19); (try clear hr18)
                  intro fulp768
                  induction fulp768 with
                  | zero =>
                    intro y766 V767 H locs ls klp768_0 xlp768_0 hn ajV767 hMV767 hP hD hS hl
                    exfalso; omega
                  | succ fulp768 ihlp768 =>
                    intro y766 V767 H locs ls klp768_0 xlp768_0 hn ajV767 hMV767 hP hD hS hl
                    have agV767 : agr [(0, 7), (0, 8), (0, 48), (0, 50), (0, 51), (0, 52)] [15, 19, 20, 21, 22, 23, 24, 25, 26, 27, 28, 29, 30, 31, 32, 33, 34, 35, 36, 37, 38, 45, 46, 47, 53] V V767 := agV762.tr ajV767 (by decide) (by decide)
                    refine lv_iload hx hb dX12_toldComponent_86 (lv_at hl 0 rfl) ?_
                    refine lv_bipush (v := 20) hx hb dX12_toldComponent_88 (by decide) ?_
                    refine lv_icmp_ge (tgt := 112) hx hb dX12_toldComponent_90 (by decide) (fun c769 => ?_) (fun c769 => ?_)
                    · skip
                      have f770 : 20 ≤ y766.toInt := b_le (by decide) rfl c769
                      have r3771 : ∀ j : Nat, j < 20 → (V767 34 (20 * gc + j)).toInt = -1 := fun j hj => xlp768_0 j (by omega)
                      refine lv_aload_n hx hb dX12_toldComponent_112 rfl (lv_at hl 3 rfl) ?_
                      refine lv_iconst (v := 4) hx hb dX12_toldComponent_113 (by decide) ?_
                      have r772 : Int32.toInt 4 = 4 := by decide
                      have pq773 : (V767 0 8).toInt = ((V29 0 8)).toInt := congrArg Int32.toInt ((ajV767 0 8 rfl).trans (ajV762 0 8 rfl))
                      refine gA_void (gA_runV (As := [.int 4]) (rest := []) (ci := 12) (q0 := 0) hx hb hml hown hg hP hD hK hS hA hnw hgk (s_takeWordB l D ks H.size ad kk V767 L 4 hMV767 (by decide) (show 1 ≤ (V767 0 8).toInt from by omega)) w2092 w2094 w100 w172 w2095 rfl rfl hdV_yX12_takeWord ⟨Nat.le_of_ble_eq_true rfl, Nat.le_of_ble_eq_true rfl⟩ rfl hl.1 rfl (Nat.le_of_ble_eq_true rfl) dX12_toldComponent_114 ⟨Nat.le_of_ble_eq_true rfl, Nat.le_of_ble_eq_true rfl⟩) hP hD hK hS hA (fun u775 H locs w776 hP hD hK hS => ?_)
                      obtain ⟨V778, L779⟩ := u775
                      obtain ⟨hMV778, ajV778, axL779, t777⟩ := w776
                      have axL779 : L = L779 := Eq.symm axL779
                      subst axL779
                      have hP : va_P D vwCl (mw ad kk ks.1 V778 L) H := hP
                      have hD : va_D A (mw ad kk ks.1 V778 L) := hD
                      have hMV778 : rgd bM V778 := hMV778
                      have ajV778 : agr [(0, 7), (0, 8)] [] V767 V778 := ajV778
                      have agV778 : agr [(0, 7), (0, 8), (0, 48), (0, 50), (0, 51), (0, 52)] [15, 19, 20, 21, 22, 23, 24, 25, 26, 27, 28, 29, 30, 31, 32, 33, 34, 35, 36, 37, 38, 45, 46, 47, 53] V V778 := agV767.tr ajV778 (by decide) (by decide)
                      have t777 : (V778 0 8).toInt = (V767 0 8).toInt := t777
                      have r780 : 0 ≤ ((V778 0 8)).toInt ∧ ((V778 0 8)).toInt ≤ 70000 := hMV778 0 8
                      refine lv_aload_n hx hb dX12_toldComponent_117 rfl (lv_at hl 3 rfl) ?_
                      refine va_get (D := D) (ci := 12) (v := .int (V778 0 8)) (C := RX12) (T := TX12) (N := 100) hx hb hg inX12 hown hK hP 0 rfl rfl 8 (by decide) (hg _ w1714) (fun _ h9 => h9) rfl dX12_toldComponent_118 ?_
                      refine lv_if_ne (tgt := 133) hx hb dX12_toldComponent_121 (by decide) (fun c781 => ?_) (fun c781 => ?_)
                      · skip
                        have f782 : ((V778 0 8)).toInt ≠ 0 := b_neq rfl (by decide) c781
                        refine lv_aload_n hx hb dX12_toldComponent_133 rfl (lv_at hl 3 rfl) ?_
                        refine va_get (D := D) (ci := 12) (v := .ref (ad 22)) (C := RX12) (T := TX12) (N := 100) hx hb hg inX12 hown hK hP 0 rfl rfl 22 (by decide) (hg _ w1728) (fun _ h9 => h9) rfl dX12_toldComponent_134 ?_
                        refine lv_iload_n hx hb dX12_toldComponent_137 rfl (lv_at hl 2 rfl) ?_
                        refine lv_aload_n hx hb dX12_toldComponent_138 rfl (lv_at hl 3 rfl) ?_
                        refine lv_bipush (v := 20) hx hb dX12_toldComponent_139 (by decide) ?_
                        refine lv_iconst (v := 4) hx hb dX12_toldComponent_141 (by decide) ?_
                        have r783 : Int32.toInt 20 = 20 := by decide
                        refine gA_int (gA_runV (As := [.int 20, .int 4]) (rest := [.int z5, .ref (ad 22)]) (ci := 12) (q0 := 0) hx hb hml hown hg hP hD hK hS hA hnw hgk (s_oneOfB l D ks H.size ad kk V778 L 20 4 hMV778 (by decide) (by decide) (show 1 ≤ (V778 0 8).toInt from by omega)) w2096 w2098 w101 w172 w2099 rfl rfl hdV_yX12_oneOf ⟨Nat.le_of_ble_eq_true rfl, Nat.le_of_ble_eq_true rfl⟩ rfl hl.1 rfl (Nat.le_of_ble_eq_true rfl) dX12_toldComponent_142 ⟨Nat.le_of_ble_eq_true rfl, Nat.le_of_ble_eq_true rfl⟩) hP hD hK hS hA (fun z784 u785 H locs w786 hP hD hK hS => ?_)
                        obtain ⟨V788, L789⟩ := u785
                        obtain ⟨hMV788, ajV788, axL789, rgz784, t787⟩ := w786
                        have axL789 : L = L789 := Eq.symm axL789
                        subst axL789
                        have hP : va_P D vwCl (mw ad kk ks.1 V788 L) H := hP
                        have hD : va_D A (mw ad kk ks.1 V788 L) := hD
                        have hMV788 : rgd bM V788 := hMV788
                        have ajV788 : agr [(0, 7), (0, 8)] [] V778 V788 := ajV788
                        have agV788 : agr [(0, 7), (0, 8), (0, 48), (0, 50), (0, 51), (0, 52)] [15, 19, 20, 21, 22, 23, 24, 25, 26, 27, 28, 29, 30, 31, 32, 33, 34, 35, 36, 37, 38, 45, 46, 47, 53] V V788 := agV778.tr ajV788 (by decide) (by decide)
                        have rgz784 : 0 ≤ z784.toInt ∧ z784.toInt ≤ 0 := rgz784
                        have t787 : (V788 0 8).toInt = (V778 0 8).toInt := t787
                        have r790 : 0 ≤ ((V788 0 8)).toInt ∧ ((V788 0 8)).toInt ≤ 70000 := hMV788 0 8
                        refine va_iast (D := D) (i := z5) (x := z784) hx hb hK hP hD hS 15 14 rfl rfl (i_in (a := z5.toInt) rfl (by omega)) dX12_toldComponent_145 (fun H locs hP hD hS => ?_)
                        obtain ⟨V791, hV791⟩ : ∃ z, z = up2 V788 22 (Int32.toNatClampNeg z5) z784 := ⟨_, rfl⟩
                        have hP : va_P D vwCl (mw ad kk ks.1 V791 L) H := by rw [hV791]; exact hP
                        have hD : va_D A (mw ad kk ks.1 V791 L) := by rw [hV791]; exact hD
                        have hMV791 : rgd bM V791 := hMV788.put hV791 (i_full _)
                        have agV791 : agr [(0, 7), (0, 8), (0, 48), (0, 50), (0, 51), (0, 52)] [15, 19, 20, 21, 22, 23, 24, 25, 26, 27, 28, 29, 30, 31, 32, 33, 34, 35, 36, 37, 38, 45, 46, 47, 53] V V791 := agV788.up hV791 rfl
                        refine lv_aload_n hx hb dX12_toldComponent_146 rfl (lv_at hl 3 rfl) ?_
                        refine va_get (D := D) (ci := 12) (v := .ref (ad 23)) (C := RX12) (T := TX12) (N := 100) hx hb hg inX12 hown hK hP 0 rfl rfl 23 (by decide) (hg _ w1729) (fun _ h9 => h9) rfl dX12_toldComponent_147 ?_
                        refine lv_iload_n hx hb dX12_toldComponent_150 rfl (lv_at hl 2 rfl) ?_
                        refine lv_aload_n hx hb dX12_toldComponent_151 rfl (lv_at hl 3 rfl) ?_
                        refine lv_iconst (v := 5) hx hb dX12_toldComponent_152 (by decide) ?_
                        have r792 : Int32.toInt 5 = 5 := by decide
                        have pq793 : (V791 0 8).toInt = ((V788 0 8)).toInt := congrArg Int32.toInt (up2_o hV791 (by decide))
                        refine gA_int (gA_runV (As := [.int 5]) (rest := [.int z5, .ref (ad 23)]) (ci := 12) (q0 := 0) hx hb hml hown hg hP hD hK hS hA hnw hgk (s_hasWordB l D ks H.size ad kk V791 L 5 hMV791 (by decide) (show 1 ≤ (V791 0 8).toInt from by omega)) w2051 w2053 w90 w172 w2054 rfl rfl hdV_yX12_hasWord ⟨Nat.le_of_ble_eq_true rfl, Nat.le_of_ble_eq_true rfl⟩ rfl hl.1 rfl (Nat.le_of_ble_eq_true rfl) dX12_toldComponent_153 ⟨Nat.le_of_ble_eq_true rfl, Nat.le_of_ble_eq_true rfl⟩) hP hD hK hS hA (fun z794 u795 H locs w796 hP hD hK hS => ?_)
                        obtain ⟨V798, L799⟩ := u795
                        obtain ⟨hMV798, ajV798, axL799, rgz794, t797⟩ := w796
                        have axL799 : L = L799 := Eq.symm axL799
                        subst axL799
                        have hP : va_P D vwCl (mw ad kk ks.1 V798 L) H := hP
                        have hD : va_D A (mw ad kk ks.1 V798 L) := hD
                        have hMV798 : rgd bM V798 := hMV798
                        have ajV798 : agr [(0, 7)] [] V791 V798 := ajV798
                        have agV798 : agr [(0, 7), (0, 8), (0, 48), (0, 50), (0, 51), (0, 52)] [15, 19, 20, 21, 22, 23, 24, 25, 26, 27, 28, 29, 30, 31, 32, 33, 34, 35, 36, 37, 38, 45, 46, 47, 53] V V798 := agV791.tr ajV798 (by decide) (by decide)
                        have rgz794 : 0 ≤ z794.toInt ∧ z794.toInt ≤ 0 := rgz794
                        have t797 : (V798 0 8).toInt = (V791 0 8).toInt := t797
                        have pq800 : (V798 0 8).toInt = ((V788 0 8)).toInt := congrArg Int32.toInt ((ajV798 0 8 rfl).trans (up2_o hV791 (by decide)))
                        refine lv_if_eq (tgt := 174) hx hb dX12_toldComponent_156 (by decide) (fun c801 => ?_) (fun c801 => ?_)
                        · skip
                          have f802 : z794.toInt = 0 := b_eq rfl (by decide) c801
                          refine lv_iconst (v := (-1)) hx hb dX12_toldComponent_174 (by decide) ?_
                          refine va_iast (D := D) (i := z5) (x := (-1)) hx hb hK hP hD hS 16 15 rfl rfl (i_in (a := z5.toInt) rfl (by omega)) dX12_toldComponent_175 (fun H locs hP hD hS => ?_)
                          obtain ⟨V803, hV803⟩ : ∃ z, z = up2 V798 23 (Int32.toNatClampNeg z5) (-1) := ⟨_, rfl⟩
                          have hP : va_P D vwCl (mw ad kk ks.1 V803 L) H := by rw [hV803]; exact hP
                          have hD : va_D A (mw ad kk ks.1 V803 L) := by rw [hV803]; exact hD
                          have hMV803 : rgd bM V803 := hMV798.put hV803 (i_full _)
                          have agV803 : agr [(0, 7), (0, 8), (0, 48), (0, 50), (0, 51), (0, 52)] [15, 19, 20, 21, 22, 23, 24, 25, 26, 27, 28, 29, 30, 31, 32, 33, 34, 35, 36, 37, 38, 45, 46, 47, 53] V V803 := agV798.up hV803 rfl
                          refine lv_aload_n hx hb dX12_toldComponent_176 rfl (lv_at hl 3 rfl) ?_
                          refine va_get (D := D) (ci := 12) (v := .ref (ad 24)) (C := RX12) (T := TX12) (N := 100) hx hb hg inX12 hown hK hP 0 rfl rfl 24 (by decide) (hg _ w1730) (fun _ h9 => h9) rfl dX12_toldComponent_177 ?_
                          refine lv_iload_n hx hb dX12_toldComponent_180 rfl (lv_at hl 2 rfl) ?_
                          refine lv_aload_n hx hb dX12_toldComponent_181 rfl (lv_at hl 3 rfl) ?_
                          refine lv_bipush (v := 6) hx hb dX12_toldComponent_182 (by decide) ?_
                          have r804 : Int32.toInt 6 = 6 := by decide
                          have pq805 : (V803 0 8).toInt = ((V788 0 8)).toInt := congrArg Int32.toInt ((up2_o hV803 (by decide)).trans ((ajV798 0 8 rfl).trans (up2_o hV791 (by decide))))
                          refine gA_int (gA_runV (As := [.int 6]) (rest := [.int z5, .ref (ad 24)]) (ci := 12) (q0 := 0) hx hb hml hown hg hP hD hK hS hA hnw hgk (s_hasWordB l D ks H.size ad kk V803 L 6 hMV803 (by decide) (show 1 ≤ (V803 0 8).toInt from by omega)) w2051 w2053 w90 w172 w2054 rfl rfl hdV_yX12_hasWord ⟨Nat.le_of_ble_eq_true rfl, Nat.le_of_ble_eq_true rfl⟩ rfl hl.1 rfl (Nat.le_of_ble_eq_true rfl) dX12_toldComponent_184 ⟨Nat.le_of_ble_eq_true rfl, Nat.le_of_ble_eq_true rfl⟩) hP hD hK hS hA (fun z806 u807 H locs w808 hP hD hK hS => ?_)
                          obtain ⟨V810, L811⟩ := u807
                          obtain ⟨hMV810, ajV810, axL811, rgz806, t809⟩ := w808
                          have axL811 : L = L811 := Eq.symm axL811
                          subst axL811
                          have hP : va_P D vwCl (mw ad kk ks.1 V810 L) H := hP
                          have hD : va_D A (mw ad kk ks.1 V810 L) := hD
                          have hMV810 : rgd bM V810 := hMV810
                          have ajV810 : agr [(0, 7)] [] V803 V810 := ajV810
                          have agV810 : agr [(0, 7), (0, 8), (0, 48), (0, 50), (0, 51), (0, 52)] [15, 19, 20, 21, 22, 23, 24, 25, 26, 27, 28, 29, 30, 31, 32, 33, 34, 35, 36, 37, 38, 45, 46, 47, 53] V V810 := agV803.tr ajV810 (by decide) (by decide)
                          have rgz806 : 0 ≤ z806.toInt ∧ z806.toInt ≤ 0 := rgz806
                          have t809 : (V810 0 8).toInt = (V803 0 8).toInt := t809
                          have pq812 : (V810 0 8).toInt = ((V788 0 8)).toInt := congrArg Int32.toInt ((ajV810 0 8 rfl).trans ((up2_o hV803 (by decide)).trans ((ajV798 0 8 rfl).trans (up2_o hV791 (by decide)))))
                          refine lv_if_eq (tgt := 200) hx hb dX12_toldComponent_187 (by decide) (fun c813 => ?_) (fun c813 => ?_)
                          · skip
                            have f814 : z806.toInt = 0 := b_eq rfl (by decide) c813
                            refine lv_iconst (v := 0) hx hb dX12_toldComponent_200 (by decide) ?_
                            refine va_iast (D := D) (i := z5) (x := 0) hx hb hK hP hD hS 17 16 rfl rfl (i_in (a := z5.toInt) rfl (by omega)) dX12_toldComponent_201 (fun H locs hP hD hS => ?_)
                            obtain ⟨V815, hV815⟩ : ∃ z, z = up2 V810 24 (Int32.toNatClampNeg z5) 0 := ⟨_, rfl⟩
                            have hP : va_P D vwCl (mw ad kk ks.1 V815 L) H := by rw [hV815]; exact hP
                            have hD : va_D A (mw ad kk ks.1 V815 L) := by rw [hV815]; exact hD
                            have hMV815 : rgd bM V815 := hMV810.put hV815 (show 0 ≤ Int32.toInt 0 ∧ Int32.toInt 0 ≤ 9 from by decide)
                            have agV815 : agr [(0, 7), (0, 8), (0, 48), (0, 50), (0, 51), (0, 52)] [15, 19, 20, 21, 22, 23, 24, 25, 26, 27, 28, 29, 30, 31, 32, 33, 34, 35, 36, 37, 38, 45, 46, 47, 53] V V815 := agV810.up hV815 rfl
                            refine lv_aload_n hx hb dX12_toldComponent_202 rfl (lv_at hl 3 rfl) ?_
                            refine va_get (D := D) (ci := 12) (v := .ref (ad 25)) (C := RX12) (T := TX12) (N := 100) hx hb hg inX12 hown hK hP 0 rfl rfl 25 (by decide) (hg _ w1731) (fun _ h9 => h9) rfl dX12_toldComponent_203 ?_
                            refine lv_iload_n hx hb dX12_toldComponent_206 rfl (lv_at hl 2 rfl) ?_
                            refine lv_iconst (v := (-1)) hx hb dX12_toldComponent_207 (by decide) ?_
                            refine va_iast (D := D) (i := z5) (x := (-1)) hx hb hK hP hD hS 18 17 rfl rfl (i_in (a := z5.toInt) rfl (by omega)) dX12_toldComponent_208 (fun H locs hP hD hS => ?_)
                            obtain ⟨V816, hV816⟩ : ∃ z, z = up2 V815 25 (Int32.toNatClampNeg z5) (-1) := ⟨_, rfl⟩
                            have hP : va_P D vwCl (mw ad kk ks.1 V816 L) H := by rw [hV816]; exact hP
                            have hD : va_D A (mw ad kk ks.1 V816 L) := by rw [hV816]; exact hD
                            have hMV816 : rgd bM V816 := hMV815.put hV816 (show (-1) ≤ Int32.toInt (-1) ∧ Int32.toInt (-1) ≤ 11 from by decide)
                            have agV816 : agr [(0, 7), (0, 8), (0, 48), (0, 50), (0, 51), (0, 52)] [15, 19, 20, 21, 22, 23, 24, 25, 26, 27, 28, 29, 30, 31, 32, 33, 34, 35, 36, 37, 38, 45, 46, 47, 53] V V816 := agV815.up hV816 rfl
                            refine lv_aload_n hx hb dX12_toldComponent_209 rfl (lv_at hl 3 rfl) ?_
                            refine lv_bipush (v := 7) hx hb dX12_toldComponent_210 (by decide) ?_
                            have r817 : Int32.toInt 7 = 7 := by decide
                            have pq818 : (V816 0 8).toInt = ((V788 0 8)).toInt := congrArg Int32.toInt ((up2_o hV816 (by decide)).trans ((up2_o hV815 (by decide)).trans ((ajV810 0 8 rfl).trans ((up2_o hV803 (by decide)).trans ((ajV798 0 8 rfl).trans (up2_o hV791 (by decide)))))))
                            refine gA_int (gA_runV (As := [.int 7]) (rest := []) (ci := 12) (q0 := 0) hx hb hml hown hg hP hD hK hS hA hnw hgk (s_hasWordB l D ks H.size ad kk V816 L 7 hMV816 (by decide) (show 1 ≤ (V816 0 8).toInt from by omega)) w2051 w2053 w90 w172 w2054 rfl rfl hdV_yX12_hasWord ⟨Nat.le_of_ble_eq_true rfl, Nat.le_of_ble_eq_true rfl⟩ rfl hl.1 rfl (Nat.le_of_ble_eq_true rfl) dX12_toldComponent_212 ⟨Nat.le_of_ble_eq_true rfl, Nat.le_of_ble_eq_true rfl⟩) hP hD hK hS hA (fun z819 u820 H locs w821 hP hD hK hS => ?_)
                            obtain ⟨V823, L824⟩ := u820
                            obtain ⟨hMV823, ajV823, axL824, rgz819, t822⟩ := w821
                            have axL824 : L = L824 := Eq.symm axL824
                            subst axL824
                            have hP : va_P D vwCl (mw ad kk ks.1 V823 L) H := hP
                            have hD : va_D A (mw ad kk ks.1 V823 L) := hD
                            have hMV823 : rgd bM V823 := hMV823
                            have ajV823 : agr [(0, 7)] [] V816 V823 := ajV823
                            have agV823 : agr [(0, 7), (0, 8), (0, 48), (0, 50), (0, 51), (0, 52)] [15, 19, 20, 21, 22, 23, 24, 25, 26, 27, 28, 29, 30, 31, 32, 33, 34, 35, 36, 37, 38, 45, 46, 47, 53] V V823 := agV816.tr ajV823 (by decide) (by decide)
                            have rgz819 : 0 ≤ z819.toInt ∧ z819.toInt ≤ 0 := rgz819
                            have t822 : (V823 0 8).toInt = (V816 0 8).toInt := t822
                            have pq825 : (V823 0 8).toInt = ((V788 0 8)).toInt := congrArg Int32.toInt ((ajV823 0 8 rfl).trans ((up2_o hV816 (by decide)).trans ((up2_o hV815 (by decide)).trans ((ajV810 0 8 rfl).trans ((up2_o hV803 (by decide)).trans ((ajV798 0 8 rfl).trans (up2_o hV791 (by decide))))))))
                            refine lv_if_eq (tgt := 262) hx hb dX12_toldComponent_215 (by decide) (fun c826 => ?_) (fun c826 => ?_)
                            · skip
                              have f827 : z819.toInt = 0 := b_eq rfl (by decide) c826
                              refine lv_aload_n hx hb dX12_toldComponent_262 rfl (lv_at hl 3 rfl) ?_
                              refine va_get (D := D) (ci := 12) (v := .ref (ad 27)) (C := RX12) (T := TX12) (N := 100) hx hb hg inX12 hown hK hP 0 rfl rfl 27 (by decide) (hg _ w1733) (fun _ h9 => h9) rfl dX12_toldComponent_263 ?_
                              refine lv_iload_n hx hb dX12_toldComponent_266 rfl (lv_at hl 2 rfl) ?_
                              refine lv_iconst (v := 0) hx hb dX12_toldComponent_267 (by decide) ?_
                              refine va_iast (D := D) (i := z5) (x := 0) hx hb hK hP hD hS 20 19 rfl rfl (i_in (a := z5.toInt) rfl (by omega)) dX12_toldComponent_268 (fun H locs hP hD hS => ?_)
                              obtain ⟨V828, hV828⟩ : ∃ z, z = up2 V823 27 (Int32.toNatClampNeg z5) 0 := ⟨_, rfl⟩
                              have hP : va_P D vwCl (mw ad kk ks.1 V828 L) H := by rw [hV828]; exact hP
                              have hD : va_D A (mw ad kk ks.1 V828 L) := by rw [hV828]; exact hD
                              have hMV828 : rgd bM V828 := hMV823.put hV828 (show 0 ≤ Int32.toInt 0 ∧ Int32.toInt 0 ≤ 8 from by decide)
                              have agV828 : agr [(0, 7), (0, 8), (0, 48), (0, 50), (0, 51), (0, 52)] [15, 19, 20, 21, 22, 23, 24, 25, 26, 27, 28, 29, 30, 31, 32, 33, 34, 35, 36, 37, 38, 45, 46, 47, 53] V V828 := agV823.up hV828 rfl
                              refine lv_aload_n hx hb dX12_toldComponent_269 rfl (lv_at hl 3 rfl) ?_
                              refine va_get (D := D) (ci := 12) (v := .ref (ad 32)) (C := RX12) (T := TX12) (N := 100) hx hb hg inX12 hown hK hP 0 rfl rfl 32 (by decide) (hg _ w1738) (fun _ h9 => h9) rfl dX12_toldComponent_270 ?_
                              refine lv_iload_n hx hb dX12_toldComponent_273 rfl (lv_at hl 2 rfl) ?_
                              refine lv_iconst (v := (-1)) hx hb dX12_toldComponent_274 (by decide) ?_
                              refine va_iast (D := D) (i := z5) (x := (-1)) hx hb hK hP hD hS 25 24 rfl rfl (i_in (a := z5.toInt) rfl (by omega)) dX12_toldComponent_275 (fun H locs hP hD hS => ?_)
                              obtain ⟨V829, hV829⟩ : ∃ z, z = up2 V828 32 (Int32.toNatClampNeg z5) (-1) := ⟨_, rfl⟩
                              have hP : va_P D vwCl (mw ad kk ks.1 V829 L) H := by rw [hV829]; exact hP
                              have hD : va_D A (mw ad kk ks.1 V829 L) := by rw [hV829]; exact hD
                              have hMV829 : rgd bM V829 := hMV828.put hV829 (i_full _)
                              have agV829 : agr [(0, 7), (0, 8), (0, 48), (0, 50), (0, 51), (0, 52)] [15, 19, 20, 21, 22, 23, 24, 25, 26, 27, 28, 29, 30, 31, 32, 33, 34, 35, 36, 37, 38, 45, 46, 47, 53] V V829 := agV828.up hV829 rfl
                              refine lv_aload_n hx hb dX12_toldComponent_276 rfl (lv_at hl 3 rfl) ?_
                              refine va_get (D := D) (ci := 12) (v := .ref (ad 33)) (C := RX12) (T := TX12) (N := 100) hx hb hg inX12 hown hK hP 0 rfl rfl 33 (by decide) (hg _ w1739) (fun _ h9 => h9) rfl dX12_toldComponent_277 ?_
                              refine lv_iload_n hx hb dX12_toldComponent_280 rfl (lv_at hl 2 rfl) ?_
                              refine lv_iconst (v := (-1)) hx hb dX12_toldComponent_281 (by decide) ?_
                              refine va_iast (D := D) (i := z5) (x := (-1)) hx hb hK hP hD hS 26 25 rfl rfl (i_in (a := z5.toInt) rfl (by omega)) dX12_toldComponent_282 (fun H locs hP hD hS => ?_)
                              obtain ⟨V830, hV830⟩ : ∃ z, z = up2 V829 33 (Int32.toNatClampNeg z5) (-1) := ⟨_, rfl⟩
                              have hP : va_P D vwCl (mw ad kk ks.1 V830 L) H := by rw [hV830]; exact hP
                              have hD : va_D A (mw ad kk ks.1 V830 L) := by rw [hV830]; exact hD
                              have hMV830 : rgd bM V830 := hMV829.put hV830 (i_full _)
                              have agV830 : agr [(0, 7), (0, 8), (0, 48), (0, 50), (0, 51), (0, 52)] [15, 19, 20, 21, 22, 23, 24, 25, 26, 27, 28, 29, 30, 31, 32, 33, 34, 35, 36, 37, 38, 45, 46, 47, 53] V V830 := agV829.up hV830 rfl
                              refine lv_aload_n hx hb dX12_toldComponent_283 rfl (lv_at hl 3 rfl) ?_
                              refine lv_iload_n hx hb dX12_toldComponent_284 rfl (lv_at hl 2 rfl) ?_
                              refine va_put (D := D) (ci := 12) (v := .int z5) (ty := tyX12 51) (C := RX12) (T := TX12) (N := 100) hx hb hg inX12 tyX12 tyX12_ok nmX12 hown hK hP hD hS 0 rfl rfl 51 (by decide) (hg _ w1757) (fun _ h9 => h9) rfl (tyX12_ok 51 (by decide)) rfl rfl (Nat.le_of_ble_eq_true rfl) dX12_toldComponent_285 (fun H locs hP hD hS => ?_)
                              obtain ⟨V831, hV831⟩ : ∃ z, z = up2 V830 0 51 z5 := ⟨_, rfl⟩
                              have hP : va_P D vwCl (mw ad kk ks.1 V831 L) H := by rw [hV831]; exact hP
                              have hD : va_D A (mw ad kk ks.1 V831 L) := by rw [hV831]; exact hD
                              have hMV831 : rgd bM V831 := hMV830.put hV831 (show (-1) ≤ z5.toInt ∧ z5.toInt ≤ 47 from by omega)
                              have agV831 : agr [(0, 7), (0, 8), (0, 48), (0, 50), (0, 51), (0, 52)] [15, 19, 20, 21, 22, 23, 24, 25, 26, 27, 28, 29, 30, 31, 32, 33, 34, 35, 36, 37, 38, 45, 46, 47, 53] V V831 := agV830.up hV831 rfl
                              refine lv_aload_n hx hb dX12_toldComponent_288 rfl (lv_at hl 3 rfl) ?_
                              refine lv_iconst (v := 0) hx hb dX12_toldComponent_289 (by decide) ?_
                              refine va_put (D := D) (ci := 12) (v := .int 0) (ty := tyX12 52) (C := RX12) (T := TX12) (N := 100) hx hb hg inX12 tyX12 tyX12_ok nmX12 hown hK hP hD hS 0 rfl rfl 52 (by decide) (hg _ w1758) (fun _ h9 => h9) rfl (tyX12_ok 52 (by decide)) rfl rfl (Nat.le_of_ble_eq_true rfl) dX12_toldComponent_290 (fun H locs hP hD hS => ?_)
                              obtain ⟨V832, hV832⟩ : ∃ z, z = up2 V831 0 52 0 := ⟨_, rfl⟩
                              have hP : va_P D vwCl (mw ad kk ks.1 V832 L) H := by rw [hV832]; exact hP
                              have hD : va_D A (mw ad kk ks.1 V832 L) := by rw [hV832]; exact hD
                              have hMV832 : rgd bM V832 := hMV831.put hV832 (by decide)
                              have agV832 : agr [(0, 7), (0, 8), (0, 48), (0, 50), (0, 51), (0, 52)] [15, 19, 20, 21, 22, 23, 24, 25, 26, 27, 28, 29, 30, 31, 32, 33, 34, 35, 36, 37, 38, 45, 46, 47, 53] V V832 := agV831.up hV832 rfl
                              refine lv_aload_n hx hb dX12_toldComponent_293 rfl (lv_at hl 3 rfl) ?_
                              refine lv_bipush (v := 123) hx hb dX12_toldComponent_294 (by decide) ?_
                              have r833 : Int32.toInt 123 = 123 := by decide
                              have pq834 : (V832 0 8).toInt = ((V788 0 8)).toInt := congrArg Int32.toInt ((up2_k hV832 (by decide)).trans ((up2_k hV831 (by decide)).trans ((up2_o hV830 (by decide)).trans ((up2_o hV829 (by decide)).trans ((up2_o hV828 (by decide)).trans ((ajV823 0 8 rfl).trans ((up2_o hV816 (by decide)).trans ((up2_o hV815 (by decide)).trans ((ajV810 0 8 rfl).trans ((up2_o hV803 (by decide)).trans ((ajV798 0 8 rfl).trans (up2_o hV791 (by decide)))))))))))))
                              refine gA_void (gA_runV (As := [.int 123]) (rest := []) (ci := 12) (q0 := 0) hx hb hml hown hg hP hD hK hS hA hnw hgk (s_takeSignB l D ks H.size ad kk V832 L 123 hMV832 (show 1 ≤ (V832 0 8).toInt from by omega)) w2075 w2077 w96 w172 w2078 rfl rfl hdV_yX12_takeSign ⟨Nat.le_of_ble_eq_true rfl, Nat.le_of_ble_eq_true rfl⟩ rfl hl.1 rfl (Nat.le_of_ble_eq_true rfl) dX12_toldComponent_296 ⟨Nat.le_of_ble_eq_true rfl, Nat.le_of_ble_eq_true rfl⟩) hP hD hK hS hA (fun u836 H locs w837 hP hD hK hS => ?_)
                              obtain ⟨V839, L840⟩ := u836
                              obtain ⟨hMV839, ajV839, axL840, t838⟩ := w837
                              have axL840 : L = L840 := Eq.symm axL840
                              subst axL840
                              have hP : va_P D vwCl (mw ad kk ks.1 V839 L) H := hP
                              have hD : va_D A (mw ad kk ks.1 V839 L) := hD
                              have hMV839 : rgd bM V839 := hMV839
                              have ajV839 : agr [(0, 7), (0, 8)] [] V832 V839 := ajV839
                              have agV839 : agr [(0, 7), (0, 8), (0, 48), (0, 50), (0, 51), (0, 52)] [15, 19, 20, 21, 22, 23, 24, 25, 26, 27, 28, 29, 30, 31, 32, 33, 34, 35, 36, 37, 38, 45, 46, 47, 53] V V839 := agV832.tr ajV839 (by decide) (by decide)
                              have t838 : (V839 0 8).toInt = (V832 0 8).toInt := t838
                              have r841 : 0 ≤ ((V839 0 8)).toInt ∧ ((V839 0 8)).toInt ≤ 70000 := hMV839 0 8
                              have lp845 : ∀ (fulp845 : Nat) (g844 : Int) (V842 : Vf) (L843 : Lf) (H : Heap) (locs : List Loc) (ls : Array Slot), (((V842 0 8).toInt = 0 ∧ ∃ s1 : St, (∀ k, Rc gT (Crun gs (Istmt :: k)) (Crun s1 (Imember :: k))) ∧ RelM V842 L843 bq gn gT s1 (gs.2.1 2) ∧ gs.1 0 + 1 ≤ s1.1 0 ∧ OWm V842 gc s1 ∧ s1.2.1 2 = gs.2.1 2 ++ [0] ∧ s1.2.2.1 = gs.2.2.1) ∨ (1 ≤ (V842 0 8).toInt ∧ ∀ k, Rc gT (Crun gs (Istmt :: k)) (Cbad (V842 0 8).toInt))) → 0 ≤ g844 → Imp ((V842 0 8).toInt = 0) ((gn : Int) - (V842 0 7).toInt < g844) → Imp ((V842 0 8).toInt = 0) ((V842 0 48).toInt ≤ 2 * (V842 0 7).toInt) → (V842 0 48).toInt ≤ 8120 → (V842 0 51).toInt = z5.toInt → (V842 0 52).toInt = 0 → Imp (1 ≤ (V839 0 8).toInt) ((V842 0 8).toInt = (V839 0 8).toInt) → g844 < (fulp845 : Int) → agL [15, 19, 20, 21, 22, 23, 24, 25, 26, 27, 28, 29, 30, 31, 32, 33, 34, 35, 36, 37, 38, 45, 46, 47, 53] L L843 → agr [(0, 7), (0, 8), (0, 48), (0, 50)] [27, 28, 29, 30, 31, 32, 33, 34, 35, 36, 37, 38, 45, 46, 47] V839 V842 → rgd bM V842 → va_P D vwCl (mw ad kk ks.1 V842 L843) H → va_D A (mw ad kk ks.1 V842 L843) → va_S A s.heap H locs → lv_has ls 5 [(4, .int y766), (2, .long z25), (1, .int z5), (0, .ref (ad 0))] → W p l e r_s_toldComponentA s m ([.ref (ad 0)] : List Value).toArray below meth c H locs 0 0 (MQ below (q_s_toldComponentA D ks ad kk V L  bq gn gT gs A) ([.ref (ad 0)] : List Value).toArray s 0 0 A) (F0 m 299 ls []) := by
                                (try clear hb759); (try clear fz21); (try clear ps20); (try clear hr19); (try clear hr18)
                                intro fulp845
                                induction fulp845 with
                                | zero =>
                                  intro g844 V842 L843 H locs ls xlp845_0 xlp845_1 xlp845_2 xlp845_3 xlp845_4 xlp845_5 xlp845_6 xlp845_7 hn alL843 ajV842 hMV842 hP hD hS hl
                                  exfalso; omega
                                | succ fulp845 ihlp845 =>
                                  intro g844 V842 L843 H locs ls xlp845_0 xlp845_1 xlp845_2 xlp845_3 xlp845_4 xlp845_5 xlp845_6 xlp845_7 hn alL843 ajV842 hMV842 hP hD hS hl
                                  have agV842 : agr [(0, 7), (0, 8), (0, 48), (0, 50), (0, 51), (0, 52)] [15, 19, 20, 21, 22, 23, 24, 25, 26, 27, 28, 29, 30, 31, 32, 33, 34, 35, 36, 37, 38, 45, 46, 47, 53] V V842 := agV839.tr ajV842 (by decide) (by decide)
                                  have r846 : 0 ≤ ((V842 0 8)).toInt ∧ ((V842 0 8)).toInt ≤ 70000 := hMV842 0 8
                                  have r847 : 0 ≤ ((V842 0 48)).toInt ∧ ((V842 0 48)).toInt ≤ 10000 := hMV842 0 48
                                  have pq848 : (V842 0 51).toInt = z5.toInt := congrArg Int32.toInt ((ajV842 0 51 rfl).trans ((ajV839 0 51 rfl).trans ((up2_k hV832 (by decide)).trans (up2_s hV831))))
                                  have pq849 : (V842 0 52).toInt = 0 := (congrArg Int32.toInt ((ajV842 0 52 rfl).trans ((ajV839 0 52 rfl).trans (up2_s hV832)))).trans (by decide)
                                  refine lv_aload_n hx hb dX12_toldComponent_299 rfl (lv_at hl 3 rfl) ?_
                                  rcases xlp845_0 with ⟨f8, s1, hq, rq, gq1, oq, tq, wq⟩ | ⟨f8, hq⟩
                                  · skip
                                    exfalso; first | omega | ((try (have i_xlp845_7 := Imp.go xlp845_7 (by omega))); (try (have i_xlp845_3 := Imp.go xlp845_3 (by omega))); (try (have i_xlp845_2 := Imp.go xlp845_2 (by omega))); (try (have i_xlp845_2 := Imp.go xlp845_2 (by omega))); (try (have i_xlp845_3 := Imp.go xlp845_3 (by omega))); (try (have i_xlp845_7 := Imp.go xlp845_7 (by omega))); omega)
                                  · skip
                                    refine va_get (D := D) (ci := 12) (v := .int (V842 0 8)) (C := RX12) (T := TX12) (N := 100) hx hb hg inX12 hown hK hP 0 rfl rfl 8 (by decide) (hg _ w1714) (fun _ h9 => h9) rfl dX12_toldComponent_300 ?_
                                    refine lv_if_ne (tgt := 323) hx hb dX12_toldComponent_303 (by decide) (fun c850 => ?_) (fun c850 => ?_)
                                    · skip
                                      have f851 : ((V842 0 8)).toInt ≠ 0 := b_neq rfl (by decide) c850
                                      refine lv_aload_n hx hb dX12_toldComponent_323 rfl (lv_at hl 3 rfl) ?_
                                      refine lv_bipush (v := 125) hx hb dX12_toldComponent_324 (by decide) ?_
                                      have r852 : Int32.toInt 125 = 125 := by decide
                                      refine gA_void (gA_runV (As := [.int 125]) (rest := []) (ci := 12) (q0 := 0) hx hb hml hown hg hP hD hK hS hA hnw hgk (s_takeSignB l D ks H.size ad kk V842 L843 125 hMV842 (show 1 ≤ (V842 0 8).toInt from by first | omega | ((try (have i_xlp845_7 := Imp.go xlp845_7 (by omega))); (try (have i_xlp845_3 := Imp.go xlp845_3 (by omega))); (try (have i_xlp845_2 := Imp.go xlp845_2 (by omega))); (try (have i_xlp845_2 := Imp.go xlp845_2 (by omega))); (try (have i_xlp845_3 := Imp.go xlp845_3 (by omega))); (try (have i_xlp845_7 := Imp.go xlp845_7 (by omega))); omega))) w2075 w2077 w96 w172 w2078 rfl rfl hdV_yX12_takeSign ⟨Nat.le_of_ble_eq_true rfl, Nat.le_of_ble_eq_true rfl⟩ rfl hl.1 rfl (Nat.le_of_ble_eq_true rfl) dX12_toldComponent_326 ⟨Nat.le_of_ble_eq_true rfl, Nat.le_of_ble_eq_true rfl⟩) hP hD hK hS hA (fun u854 H locs w855 hP hD hK hS => ?_)
                                      obtain ⟨V857, L858⟩ := u854
                                      obtain ⟨hMV857, ajV857, axL858, t856⟩ := w855
                                      have axL858 : L843 = L858 := Eq.symm axL858
                                      subst axL858
                                      have hP : va_P D vwCl (mw ad kk ks.1 V857 L843) H := hP
                                      have hD : va_D A (mw ad kk ks.1 V857 L843) := hD
                                      have hMV857 : rgd bM V857 := hMV857
                                      have ajV857 : agr [(0, 7), (0, 8)] [] V842 V857 := ajV857
                                      have agV857 : agr [(0, 7), (0, 8), (0, 48), (0, 50), (0, 51), (0, 52)] [15, 19, 20, 21, 22, 23, 24, 25, 26, 27, 28, 29, 30, 31, 32, 33, 34, 35, 36, 37, 38, 45, 46, 47, 53] V V857 := agV842.tr ajV857 (by decide) (by decide)
                                      have t856 : (V857 0 8).toInt = (V842 0 8).toInt := t856
                                      have r859 : 0 ≤ ((V857 0 8)).toInt ∧ ((V857 0 8)).toInt ≤ 70000 := hMV857 0 8
                                      refine lv_aload_n hx hb dX12_toldComponent_329 rfl (lv_at hl 3 rfl) ?_
                                      refine va_get (D := D) (ci := 12) (v := .int (V857 0 8)) (C := RX12) (T := TX12) (N := 100) hx hb hg inX12 hown hK hP 0 rfl rfl 8 (by decide) (hg _ w1714) (fun _ h9 => h9) rfl dX12_toldComponent_330 ?_
                                      refine lv_if_le (tgt := 337) hx hb dX12_toldComponent_333 (by decide) (fun c860 => ?_) (fun c860 => ?_)
                                      · skip
                                        have f861 : ((V857 0 8)).toInt ≤ 0 := b_le rfl (by decide) c860
                                        exfalso; first | omega | ((try (have i_xlp845_7 := Imp.go xlp845_7 (by omega))); (try (have i_xlp845_3 := Imp.go xlp845_3 (by omega))); (try (have i_xlp845_2 := Imp.go xlp845_2 (by omega))); (try (have i_xlp845_2 := Imp.go xlp845_2 (by omega))); (try (have i_xlp845_3 := Imp.go xlp845_3 (by omega))); (try (have i_xlp845_7 := Imp.go xlp845_7 (by omega))); omega)
                                      · skip
                                        have f862 : 0 < ((V857 0 8)).toInt := b_nle rfl (by decide) c860
                                        have pq863 : (V857 0 48).toInt = ((V842 0 48)).toInt := congrArg Int32.toInt (ajV857 0 48 rfl)
                                        have pq864 : (V857 0 12).toInt = ((V 0 12)).toInt := congrArg Int32.toInt ((ajV857 0 12 rfl).trans ((ajV842 0 12 rfl).trans ((ajV839 0 12 rfl).trans ((up2_k hV832 (by decide)).trans ((up2_k hV831 (by decide)).trans ((up2_o hV830 (by decide)).trans ((up2_o hV829 (by decide)).trans ((up2_o hV828 (by decide)).trans ((ajV823 0 12 rfl).trans ((up2_o hV816 (by decide)).trans ((up2_o hV815 (by decide)).trans ((ajV810 0 12 rfl).trans ((up2_o hV803 (by decide)).trans ((ajV798 0 12 rfl).trans ((up2_o hV791 (by decide)).trans ((ajV788 0 12 rfl).trans ((ajV778 0 12 rfl).trans ((ajV767 0 12 rfl).trans ((ajV762 0 12 rfl).trans ((ajV29 0 12 rfl).trans (ajV13 0 12 rfl)))))))))))))))))))))
                                        exact W.vret hx hb hr (fun t ht hW => ⟨⟨(V857, L843), rfl, ⟨hMV857, agV857, alL843, (Imp.mk (fun hp => have hp : (V857 0 8).toInt = 0 := hp; (show (V857 0 48).toInt ≤ 2 * (V857 0 7).toInt from by first | omega | ((try (have i_xlp845_7 := Imp.go xlp845_7 (by omega))); (try (have i_xlp845_3 := Imp.go xlp845_3 (by omega))); (try (have i_xlp845_2 := Imp.go xlp845_2 (by omega))); (try (have i_xlp845_2 := Imp.go xlp845_2 (by omega))); (try (have i_xlp845_3 := Imp.go xlp845_3 (by omega))); (try (have i_xlp845_7 := Imp.go xlp845_7 (by omega))); omega)))), (show (V857 0 48).toInt ≤ 8200 from by first | omega | ((try (have i_xlp845_7 := Imp.go xlp845_7 (by omega))); (try (have i_xlp845_3 := Imp.go xlp845_3 (by omega))); (try (have i_xlp845_2 := Imp.go xlp845_2 (by omega))); (try (have i_xlp845_2 := Imp.go xlp845_2 (by omega))); (try (have i_xlp845_3 := Imp.go xlp845_3 (by omega))); (try (have i_xlp845_7 := Imp.go xlp845_7 (by omega))); omega)), (show (V857 0 12).toInt = (V 0 12).toInt from by first | omega | ((try (have i_xlp845_7 := Imp.go xlp845_7 (by omega))); (try (have i_xlp845_3 := Imp.go xlp845_3 (by omega))); (try (have i_xlp845_2 := Imp.go xlp845_2 (by omega))); (try (have i_xlp845_2 := Imp.go xlp845_2 (by omega))); (try (have i_xlp845_3 := Imp.go xlp845_3 (by omega))); (try (have i_xlp845_7 := Imp.go xlp845_7 (by omega))); omega)), (Or.inr ⟨(show 1 ≤ (V857 0 8).toInt from by omega), (fun k => by rw [show (V857 0 8).toInt = (V842 0 8).toInt from by omega]; exact hq k)⟩)⟩, by rw [ht]; exact hP, va_K.moved hW.alike hK, hD⟩, hS.F ht⟩) hS.2.2 dX12_toldComponent_336
                                    · skip
                                      have f865 : ((V842 0 8)).toInt = 0 := b_eq rfl (by decide) c850
                                      exfalso; first | omega | ((try (have i_xlp845_7 := Imp.go xlp845_7 (by omega))); (try (have i_xlp845_3 := Imp.go xlp845_3 (by omega))); (try (have i_xlp845_2 := Imp.go xlp845_2 (by omega))); (try (have i_xlp845_2 := Imp.go xlp845_2 (by omega))); (try (have i_xlp845_3 := Imp.go xlp845_3 (by omega))); (try (have i_xlp845_7 := Imp.go xlp845_7 (by omega))); omega)
                              have pq866 : (V839 0 48).toInt = ((V 0 48)).toInt := congrArg Int32.toInt ((ajV839 0 48 rfl).trans ((up2_k hV832 (by decide)).trans ((up2_k hV831 (by decide)).trans ((up2_o hV830 (by decide)).trans ((up2_o hV829 (by decide)).trans ((up2_o hV828 (by decide)).trans ((ajV823 0 48 rfl).trans ((up2_o hV816 (by decide)).trans ((up2_o hV815 (by decide)).trans ((ajV810 0 48 rfl).trans ((up2_o hV803 (by decide)).trans ((ajV798 0 48 rfl).trans ((up2_o hV791 (by decide)).trans ((ajV788 0 48 rfl).trans ((ajV778 0 48 rfl).trans ((ajV767 0 48 rfl).trans ((ajV762 0 48 rfl).trans ((ajV29 0 48 rfl).trans (ajV13 0 48 rfl)))))))))))))))))))
                              have pq867 : (V839 0 51).toInt = z5.toInt := congrArg Int32.toInt ((ajV839 0 51 rfl).trans ((up2_k hV832 (by decide)).trans (up2_s hV831)))
                              have pq868 : (V839 0 52).toInt = 0 := (congrArg Int32.toInt ((ajV839 0 52 rfl).trans (up2_s hV832))).trans (by decide)
                              exact lp845 ((((gn : Int) + 1) + 1 : Int).toNat) ((gn : Int) + 1) V839 L H locs ls (Or.inr ⟨(show 1 ≤ (V839 0 8).toInt from by omega), (fun k => by rw [show (V839 0 8).toInt = (V29 0 8).toInt from by omega]; exact hb759 k)⟩) (show 0 ≤ ((gn : Int) + 1) from by omega) (Imp.mk (fun hp => have hp : (V839 0 8).toInt = 0 := hp; (show (gn : Int) - (V839 0 7).toInt < ((gn : Int) + 1) from by omega))) (Imp.mk (fun hp => have hp : (V839 0 8).toInt = 0 := hp; (show (V839 0 48).toInt ≤ 2 * (V839 0 7).toInt from by omega))) (show (V839 0 48).toInt ≤ 8120 from by omega) (show (V839 0 51).toInt = z5.toInt from by omega) (show (V839 0 52).toInt = 0 from by omega) (Imp.mk (fun hp => have hp : 1 ≤ (V839 0 8).toInt := hp; (show (V839 0 8).toInt = (V839 0 8).toInt from by omega))) (by omega) alL agr.rf hMV839 hP hD hS (lv_sub hl [0, 1, 2, 3] rfl)
                            · skip
                              have f869 : z819.toInt ≠ 0 := b_neq rfl (by decide) c826
                              exfalso; omega
                          · skip
                            have f870 : z806.toInt ≠ 0 := b_neq rfl (by decide) c813
                            exfalso; omega
                        · skip
                          have f871 : z794.toInt ≠ 0 := b_neq rfl (by decide) c801
                          exfalso; omega
                      · skip
                        have f872 : ((V778 0 8)).toInt = 0 := b_eq rfl (by decide) c781
                        exfalso; omega
                    · skip
                      have f873 : y766.toInt < 20 := b_nle (by decide) rfl c769
                      refine lv_aload_n hx hb dX12_toldComponent_93 rfl (lv_at hl 3 rfl) ?_
                      refine va_get (D := D) (ci := 12) (v := .ref (ad 34)) (C := RX12) (T := TX12) (N := 100) hx hb hg inX12 hown hK hP 0 rfl rfl 34 (by decide) (hg _ w1740) (fun _ h9 => h9) rfl dX12_toldComponent_94 ?_
                      refine lv_bipush (v := 20) hx hb dX12_toldComponent_97 (by decide) ?_
                      refine lv_iload_n hx hb dX12_toldComponent_99 rfl (lv_at hl 2 rfl) ?_
                      refine lv_imul hx hb dX12_toldComponent_100 ?_
                      refine lv_topi (fun z874 ez874 => ?_)
                      have hz874 : z874.toInt = 20 * z5.toInt := i_mul ez874 (by decide) rfl (by omega)
                      refine lv_iload hx hb dX12_toldComponent_101 (lv_at hl 0 rfl) ?_
                      refine lv_iadd hx hb dX12_toldComponent_103 ?_
                      refine lv_topi (fun z875 ez875 => ?_)
                      have hz875 : z875.toInt = z874.toInt + y766.toInt := i_add ez875 rfl rfl (by omega)
                      refine lv_iconst (v := (-1)) hx hb dX12_toldComponent_104 (by decide) ?_
                      refine va_iast (D := D) (i := z875) (x := (-1)) hx hb hK hP hD hS 27 26 rfl rfl (i_in (a := z875.toInt) rfl (by omega)) dX12_toldComponent_105 (fun H locs hP hD hS => ?_)
                      obtain ⟨V876, hV876⟩ : ∃ z, z = up2 V767 34 (Int32.toNatClampNeg z875) (-1) := ⟨_, rfl⟩
                      have hP : va_P D vwCl (mw ad kk ks.1 V876 L) H := by rw [hV876]; exact hP
                      have hD : va_D A (mw ad kk ks.1 V876 L) := by rw [hV876]; exact hD
                      have hMV876 : rgd bM V876 := hMV767.put hV876 (i_full _)
                      have agV876 : agr [(0, 7), (0, 8), (0, 48), (0, 50), (0, 51), (0, 52)] [15, 19, 20, 21, 22, 23, 24, 25, 26, 27, 28, 29, 30, 31, 32, 33, 34, 35, 36, 37, 38, 45, 46, 47, 53] V V876 := agV767.up hV876 rfl
                      obtain ⟨z877, ez877⟩ : ∃ y : Int32, y = y766 + 1 := ⟨_, rfl⟩
                      have hz877 : z877.toInt = y766.toInt + 1 := i_add ez877 rfl (by decide) (by omega)
                      refine lv_iinc (v := z877) (lv' := [(4, .int z877), (2, .long z25), (1, .int z5), (0, .ref (ad 0))]) hx hb dX12_toldComponent_106 hl (k := 0) rfl (by rw [ez877]; rfl) (by decide) rfl (fun ls hl => ?_)
                      refine lv_goto (tgt := 86) hx hb dX12_toldComponent_109 (by decide) ?_
                      have k34 := i_clamp (x := z875) rfl (by omega)
                      exact ihlp768 z877 V876 H locs ls (by omega) (fun j hj => by rcases Decidable.em (20 * gc + j = Int32.toNatClampNeg z875) with hk | hk; (rw [hk, up2_s hV876]; decide); (rw [up2_k hV876 hk]; exact xlp768_0 j (by omega))) (by omega) (agr.up (agr.tr agr.rf ajV767 (by decide) (by decide)) hV876 rfl) hMV876 hP hD hS (lv_sub hl [0, 1, 2, 3] rfl)
                exact lp768 ((20 - (Int32.toInt 0) + 1 : Int).toNat) 0 V762 H locs ls (by decide) (fun j hj => absurd hj (by omega)) (by omega) agr.rf hMV762 hP hD hS (lv_sub hl [0, 1, 2, 3] rfl)
              · skip
                have f878 : y761.toInt < 24 := b_nle (by decide) rfl c764
                refine lv_aload_n hx hb dX12_toldComponent_64 rfl (lv_at hl 3 rfl) ?_
                refine va_get (D := D) (ci := 12) (v := .ref (ad 21)) (C := RX12) (T := TX12) (N := 100) hx hb hg inX12 hown hK hP 0 rfl rfl 21 (by decide) (hg _ w1727) (fun _ h9 => h9) rfl dX12_toldComponent_65 ?_
                refine lv_bipush (v := 24) hx hb dX12_toldComponent_68 (by decide) ?_
                refine lv_iload_n hx hb dX12_toldComponent_70 rfl (lv_at hl 2 rfl) ?_
                refine lv_imul hx hb dX12_toldComponent_71 ?_
                refine lv_topi (fun z879 ez879 => ?_)
                have hz879 : z879.toInt = 24 * z5.toInt := i_mul ez879 (by decide) rfl (by omega)
                refine lv_iload hx hb dX12_toldComponent_72 (lv_at hl 0 rfl) ?_
                refine lv_iadd hx hb dX12_toldComponent_74 ?_
                refine lv_topi (fun z880 ez880 => ?_)
                have hz880 : z880.toInt = z879.toInt + y761.toInt := i_add ez880 rfl rfl (by omega)
                refine lv_iconst (v := 0) hx hb dX12_toldComponent_75 (by decide) ?_
                refine va_zast (D := D) (i := z880) (x := 0) hx hb hK hP hD hS 14 13 rfl rfl (i_in (a := z880.toInt) rfl (by omega)) dX12_toldComponent_76 (fun H locs hP hD hS => ?_)
                obtain ⟨V881, hV881⟩ : ∃ z, z = up2 V762 21 (Int32.toNatClampNeg z880) (vp_nar .boolean 0) := ⟨_, rfl⟩
                have hP : va_P D vwCl (mw ad kk ks.1 V881 L) H := by rw [hV881]; exact hP
                have hD : va_D A (mw ad kk ks.1 V881 L) := by rw [hV881]; exact hD
                have hMV881 : rgd bM V881 := hMV762.put hV881 (nar_b _)
                have agV881 : agr [(0, 7), (0, 8), (0, 48), (0, 50), (0, 51), (0, 52)] [15, 19, 20, 21, 22, 23, 24, 25, 26, 27, 28, 29, 30, 31, 32, 33, 34, 35, 36, 37, 38, 45, 46, 47, 53] V V881 := agV762.up hV881 rfl
                obtain ⟨z882, ez882⟩ : ∃ y : Int32, y = y761 + 1 := ⟨_, rfl⟩
                have hz882 : z882.toInt = y761.toInt + 1 := i_add ez882 rfl (by decide) (by omega)
                refine lv_iinc (v := z882) (lv' := [(4, .int z882), (2, .long z25), (1, .int z5), (0, .ref (ad 0))]) hx hb dX12_toldComponent_77 hl (k := 0) rfl (by rw [ez882]; rfl) (by decide) rfl (fun ls hl => ?_)
                refine lv_goto (tgt := 57) hx hb dX12_toldComponent_80 (by decide) ?_
                exact ihlp763 z882 V881 H locs ls (by omega) (by omega) (agr.up (agr.tr agr.rf ajV762 (by decide) (by decide)) hV881 rfl) hMV881 hP hD hS (lv_sub hl [0, 1, 2, 3] rfl)
          exact lp763 ((24 - (Int32.toInt 0) + 1 : Int).toNat) 0 V29 H locs ls (by decide) (by omega) agr.rf hMV29 hP hD hS (lv_sub hl [0, 1, 2, 3] rfl)
      · skip
        have f883 : 0 < ((V13 0 8)).toInt := b_nle rfl (by decide) c23
        exfalso; omega
    · skip
      exfalso; omega
  · skip
    have f884 : ((V 19 (Int32.toNatClampNeg (V 0 12)))).toInt = 24 := b_eq rfl (by decide) c6
    refine lv_iconst (v := 1) hx hb dX12_toldComponent_33 (by decide) ?_
    refine lv_goto (tgt := 38) hx hb dX12_toldComponent_34 (by decide) ?_
    have r885 : Int32.toInt 1 = 1 := by decide
    refine gA_void (gA_runV (As := [.int 1]) (rest := []) (ci := 12) (q0 := 0) hx hb hml hown hg hP hD hK hS hA hnw hgk (s_beginsA l D ks H.size ad kk V L 1 (bq) (gn) (gT) (gs) ((gs.2.1 2)) hMV (by decide) rel (by rw [kd9]; decide)) w2031 w2033 w85 w172 w2034 rfl rfl hdV_yX12_begins ⟨Nat.le_of_ble_eq_true rfl, Nat.le_of_ble_eq_true rfl⟩ rfl hl.1 rfl (Nat.le_of_ble_eq_true rfl) dX12_toldComponent_38 ⟨Nat.le_of_ble_eq_true rfl, Nat.le_of_ble_eq_true rfl⟩) hP hD hK hS hA (fun u887 H locs w888 hP hD hK hS => ?_)
    obtain ⟨V890, L891⟩ := u887
    obtain ⟨hMV890, ajV890, axL891, t889⟩ := w888
    have axL891 : L = L891 := Eq.symm axL891
    subst axL891
    have hP : va_P D vwCl (mw ad kk ks.1 V890 L) H := hP
    have hD : va_D A (mw ad kk ks.1 V890 L) := hD
    have hMV890 : rgd bM V890 := hMV890
    have ajV890 : agr [(0, 7), (0, 8)] [] V V890 := ajV890
    have agV890 : agr [(0, 7), (0, 8), (0, 48), (0, 50), (0, 51), (0, 52)] [15, 19, 20, 21, 22, 23, 24, 25, 26, 27, 28, 29, 30, 31, 32, 33, 34, 35, 36, 37, 38, 45, 46, 47, 53] V V890 := agV.tr ajV890 (by decide) (by decide)
    have t889 : ((Int32.toInt 1) = 0 ∧ (V890 0 8).toInt = 0 ∧ RelM V890 L (bq) (gn) (gT) (nx (gs) 1) ((gs.2.1 2))) ∨ ((Int32.toInt 1) = 1 ∧ 1 ≤ (V890 0 8).toInt ∧ (V890 0 8).toInt = 5 + 16 * (gT).2.2 ((gs).1 0)) := t889
    rcases t889 with ⟨q892, f893, rl894⟩ | ⟨q892, f893, rl894⟩
    · skip
      exfalso; omega
    · skip
      have hr895 : ∀ k, Rc gT (Crun gs (Istmt :: k)) (Crun gs (Istmt :: k)) := fun k => Rc.rf
      have hb896 : ∀ k, Rc gT (Crun gs (Istmt :: k)) (Cbad (V890 0 8).toInt) := fun k => Rc.go1 (hr895 k) ((st_131f kd9 (by omega)).trans (fl_eq rfl rl894))
      have r897 : 0 ≤ ((V890 0 8)).toInt ∧ ((V890 0 8)).toInt ≤ 70000 := hMV890 0 8
      refine lv_aload_n hx hb dX12_toldComponent_41 rfl (lv_at hl 1 rfl) ?_
      refine va_get (D := D) (ci := 12) (v := .int (V890 0 8)) (C := RX12) (T := TX12) (N := 100) hx hb hg inX12 hown hK hP 0 rfl rfl 8 (by decide) (hg _ w1714) (fun _ h9 => h9) rfl dX12_toldComponent_42 ?_
      refine lv_if_le (tgt := 49) hx hb dX12_toldComponent_45 (by decide) (fun c898 => ?_) (fun c898 => ?_)
      · skip
        have f899 : ((V890 0 8)).toInt ≤ 0 := b_le rfl (by decide) c898
        exfalso; omega
      · skip
        have f900 : 0 < ((V890 0 8)).toInt := b_nle rfl (by decide) c898
        have pq901 : (V890 0 48).toInt = ((V 0 48)).toInt := congrArg Int32.toInt (ajV890 0 48 rfl)
        have pq902 : (V890 0 12).toInt = ((V 0 12)).toInt := congrArg Int32.toInt (ajV890 0 12 rfl)
        exact W.vret hx hb hr (fun t ht hW => ⟨⟨(V890, L), rfl, ⟨hMV890, agV890, alL, (Imp.mk (fun hp => have hp : (V890 0 8).toInt = 0 := hp; (show (V890 0 48).toInt ≤ 2 * (V890 0 7).toInt from by omega))), (show (V890 0 48).toInt ≤ 8200 from by omega), (show (V890 0 12).toInt = (V 0 12).toInt from by omega), (Or.inr ⟨(show 1 ≤ (V890 0 8).toInt from by omega), hb896⟩)⟩, by rw [ht]; exact hP, va_K.moved hW.alike hK, hD⟩, hS.F ht⟩) hS.2.2 dX12_toldComponent_48
