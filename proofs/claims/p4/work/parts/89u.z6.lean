/-! components and wraps of the reference -/
theorem OWm.fresh {V : Vf} {o n : Nat} {s s' : St} (k : keepS (scopeS s) n s') (c27 : (V 27 o).toInt = 0) (c32 : (V 32 o).toInt = -1) (c33 : (V 33 o).toInt = -1) (c34 : ∀ q : Nat, q < 20 → (V 34 (20 * o + q)).toInt = -1) (w : Int64) : OWm V o (sA s' 2 w) := by
  refine ⟨?_, ⟨fun _ => ?_, fun _ => by omega⟩, ⟨fun _ => ?_, fun _ => by omega⟩, ?_, fun f hf => ?_, ?_⟩
  · show _ = ((s'.1 1 : Nat) : Int)
    rw [c27, k.2.1 1 (by decide)]
    rfl
  · show s'.1 2 ≠ 1
    rw [k.2.1 2 (by decide)]
    show (0 : Nat) ≠ 1
    decide
  · show s'.1 3 ≠ 1
    rw [k.2.1 3 (by decide)]
    show (0 : Nat) ≠ 1
    decide
  · show s'.1 4 = 0
    rw [k.2.1 4 (by decide)]
    rfl
  · show _ ↔ f ∈ s'.2.2.2
    rw [k.2.2.2]
    have z := c34 f hf
    exact ⟨fun q => absurd q (by omega), fun q => absurd q List.not_mem_nil⟩
  · show ∀ f ∈ s'.2.2.2, _
    rw [k.2.2.2]
    exact fun f hf => absurd hf List.not_mem_nil
theorem WRm.st {V : Vf} {q i f : Nat} {s : St} (h : WRm V q s) (hi : (i : Int) < (V 39 q).toInt) : arounds (s.2.2.1.take (i + 1)) f = arounds (s.2.2.1.take i) f + (if (V 43 (12 * q + i)).toInt = 1 ∧ (V 41 (12 * q + i)).toInt = (f : Int) then 1 else 0) := by
  have hl : i < s.2.2.1.length := by have := h.1; omega
  have z := h.2 i hl
  rw [take_s _ i hl, ar_app, z.2]
  congr 1
  by_cases c : (V 43 (12 * q + i)).toInt = 1 ∧ (V 41 (12 * q + i)).toInt = (f : Int)
  · rw [if_pos c, if_pos ⟨by show (V 41 (12 * q + i)).toInt.toNat = f; omega, decide_eq_true c.1⟩]
  · rw [if_neg c, if_neg (fun q9 => c ⟨of_decide_eq_true q9.2, by have q1 : (V 41 (12 * q + i)).toInt.toNat = f := q9.1; omega⟩)]
theorem WRm.all {V : Vf} {q i f : Nat} {s : St} (h : WRm V q s) (hi : (i : Int) = (V 39 q).toInt) : arounds (s.2.2.1.take i) f = arounds s.2.2.1 f := by
  rw [List.take_of_length_le (by have := h.1; omega)]
/-- a wrap's places ahead of its end: no one reads them yet -/
theorem RelM.w0 {V W : Vf} {L : Lf} {q n : Nat} {T : Tk} {s : St} {l2 : List Int64} {c : Nat} {a v : Int32} (h : RelM V L q n T s l2) (e : W = up2 V c (Int32.toNatClampNeg a) v) (hc : c = 41 ∨ c = 43) (ha : a.toInt = ((12 * q : Nat) : Int) + (V 39 q).toInt) (h0 : 0 ≤ (V 39 q).toInt) : RelM W L q n T s l2 := by
  have g : ∀ x, ¬ x = c → W x = V x := fun x hx => up2_fo e hx
  have kc := i_clamp (x := a) rfl (by omega)
  have t := h.2.2.1
  have w := h.2.2.2
  have wl := w.1
  refine ⟨by unfold HDm; rw [g 0 (by omega)]; exact h.1, h.2.1.ag (g 4 (by omega)) (g 5 (by omega)) rfl rfl, h.2.2.1.ag (congrFun (g 13 (by omega)) _) (congrFun (g 16 (by omega)) _) (congrFun (g 19 (by omega)) _) (congrFun (g 35 (by omega)) _) (congrFun (g 37 (by omega)) _) rfl rfl rfl rfl rfl rfl, ⟨by rw [g 39 (by omega)]; exact w.1, fun i hi => ?_⟩⟩
  have z := w.2 i hi
  rcases hc with hc | hc
  · subst hc
    rw [g 43 (by decide), up2_k e (by omega)]
    exact z
  · subst hc
    rw [g 41 (by decide), up2_k e (by omega)]
    exact z
theorem RelM.wr {V W : Vf} {L : Lf} {q n f : Nat} {T : Tk} {s : St} {l2 : List Int64} {z : Int32} {p : Int} (h : RelM V L q n T s l2) (ev : W = up2 V 39 q z) (hz : z.toInt = (V 39 q).toInt + 1) (h0 : 0 ≤ (V 39 q).toInt) (c41 : (V 41 (12 * q + (V 39 q).toInt.toNat)).toInt = (f : Int)) (c43 : (V 43 (12 * q + (V 39 q).toInt.toNat)).toInt = p) : RelM W L q n T (sW s (f, decide (p = 1))) l2 := by
  have g : ∀ x, ¬ x = 39 → W x = V x := fun x hx => up2_fo ev hx
  have w39 : W 39 q = z := up2_s ev
  have w := h.2.2.2
  have wl := w.1
  refine ⟨by unfold HDm; rw [g 0 (by decide)]; exact h.1, h.2.1.ag (g 4 (by decide)) (g 5 (by decide)) rfl rfl, h.2.2.1.ag (congrFun (g 13 (by decide)) _) (congrFun (g 16 (by decide)) _) (congrFun (g 19 (by decide)) _) (congrFun (g 35 (by decide)) _) (congrFun (g 37 (by decide)) _) rfl rfl rfl rfl rfl rfl, ⟨?_, ?_⟩⟩
  · show ((s.2.2.1 ++ [(f, decide (p = 1))]).length : Int) = _
    rw [List.length_append, w39, hz]
    show ((s.2.2.1.length + 1 : Nat) : Int) = _
    omega
  · show ∀ i (hi : i < (s.2.2.1 ++ [(f, decide (p = 1))]).length), 0 ≤ (W 41 (12 * q + i)).toInt ∧ (s.2.2.1 ++ [(f, decide (p = 1))])[i] = ((W 41 (12 * q + i)).toInt.toNat, decide ((W 43 (12 * q + i)).toInt = 1))
    intro i hi
    rw [g 41 (by decide), g 43 (by decide)]
    have hi2 : i < s.2.2.1.length + 1 := by rw [List.length_append] at hi; exact hi
    by_cases c : i < s.2.2.1.length
    · rw [List.getElem_append_left c]
      exact w.2 i c
    · have ei : i = (V 39 q).toInt.toNat := by omega
      rw [List.getElem_append_right (by omega)]
      subst ei
      rw [c41, c43, Int.toNat_natCast]
      exact ⟨by omega, List.getElem_singleton _⟩
theorem ARm.wr {s : St} {f : Nat} {p : Int} (h : ARm s) (c : p = 1 → ¬ 2 ≤ arounds s.2.2.1 f) : ARm (sW s (f, decide (p = 1))) := by
  intro g
  show arounds (s.2.2.1 ++ [(f, decide (p = 1))]) g ≤ 2
  rw [ar_app]
  have z := h g
  by_cases d : f = g ∧ decide (p = 1) = true
  · have y := c (of_decide_eq_true d.2)
    rw [d.1] at y
    split <;> omega
  · rw [if_neg d]
    omega
theorem EM.w {V : Vf} {s : St} (e51 : (V 0 51).toInt < 0) (h4 : s.1 4 = 1 ∨ s.1 4 = 2) (e : (V 0 52).toInt = 1 ↔ s.1 4 = 2) : EM V s := ⟨⟨fun q => absurd q (by omega), fun q => by omega⟩, e, fun q => absurd q (by omega)⟩
theorem RelM.en {V : Vf} {L : Lf} {q n : Nat} {T : Tk} {s : St} {l2 : List Int64} (h : RelM V L q n T s l2) : (V 4 (s.1 0)).toInt = 0 ↔ T.1 (s.1 0) = 0 := by
  rcases Nat.lt_or_eq_of_le h.1.2.1 with d | d
  · have z := (h.2.1.2.1 _ d).1.rg
    exact ⟨fun x => by omega, fun x => by omega⟩
  · rw [d]
    exact ⟨fun _ => h.2.1.2.2.1, fun _ => h.2.1.2.2.2.1⟩
theorem RelM.z {V : Vf} {L : Lf} {q n : Nat} {T : Tk} (t : TkM V L T n) (e7 : (V 0 7).toInt = 0) (e8 : (V 0 8).toInt = 0) (e12 : (V 0 12).toInt = (q : Int)) (hq : q < 2) (n0 : (V 13 q).toInt = 0) (n1 : (V 16 q).toInt = 0) (n2 : (V 19 q).toInt = 0) (n3 : (V 35 q).toInt = 0) (n4 : (V 37 q).toInt = 0) (n5 : (V 39 q).toInt = 0) : RelM V L q n T St0 (St0.2.1 2) :=
  have ls : ∀ (f : Nat → Int64) (x : Int), x = 0 → LSw [] f x ∧ NDl [] := fun f x hx => ⟨⟨by rw [hx]; rfl, fun i h => absurd h (Nat.not_lt_zero _)⟩, fun i j hi => absurd hi (Nat.not_lt_zero _)⟩
  ⟨⟨e7, Nat.zero_le _, e8, e12, hq⟩, t, ⟨ls _ _ n0, ls _ _ n1, ls _ _ n2, ls _ _ n3, ls _ _ n4⟩, ⟨by rw [n5]; rfl, fun i h => absurd h (Nat.not_lt_zero _)⟩⟩
theorem ARm.z : ARm St0 := fun f => by
  exact Nat.zero_le 2
theorem RelM.sc {V : Vf} {L : Lf} {q n : Nat} {T : Tk} {s : St} {l2 : List Int64} (h : RelM V L q n T (nx s 1) l2) : RelM V L q n T (scopeS s) l2 := ⟨h.1, h.2.1, h.2.2.1, h.2.2.2⟩
theorem RelM.p4 {V : Vf} {L : Lf} {q n v : Nat} {T : Tk} {s : St} {l2 : List Int64} (h : RelM V L q n T (nx s 1) l2) : RelM V L q n T (sN (nx s 1) 4 v) l2 := ⟨h.1, h.2.1, h.2.2.1, h.2.2.2⟩
theorem RelM.ad2 {V : Vf} {L : Lf} {q n : Nat} {T : Tk} {s : St} {l2 : List Int64} {w : Int64} (h : RelM V L q n T s l2) : RelM V L q n T (sA s 2 w) l2 := ⟨h.1, h.2.1, h.2.2.1, h.2.2.2⟩


abbrev r_s_toldComponentA : Room := { frames := 96, cells := 0, slots := 0, locals := 2886 }
abbrev q_s_toldComponentA (D : va_G) (ks : KS) (ad : Nat → Nat) (kk : Nat → ClassId) (V : Vf) (L : Lf) (bq : Nat) (gn : Nat) (gT : Tk) (gs : St) (A : Nat → Prop) : Array Value → State → Outcome → State → Prop := va_Qv (fun (u : Vf × Lf) => rgd bM u.1 ∧ agr [(0, 7), (0, 8), (0, 48), (0, 50), (0, 51), (0, 52)] [15, 19, 20, 21, 22, 23, 24, 25, 26, 27, 28, 29, 30, 31, 32, 33, 34, 35, 36, 37, 38, 45, 46, 47, 53] V u.1 ∧ agL [15, 19, 20, 21, 22, 23, 24, 25, 26, 27, 28, 29, 30, 31, 32, 33, 34, 35, 36, 37, 38, 45, 46, 47, 53] L u.2 ∧ (Imp ((u.1 0 8).toInt = 0) ((u.1 0 48).toInt ≤ 2 * (u.1 0 7).toInt)) ∧ ((u.1 0 48).toInt ≤ 8200) ∧ ((u.1 0 12).toInt = (V 0 12).toInt) ∧ (RdM gT gs (fun k => Istmt :: k) (fun k => Istmt :: k) (u.1 0 8).toInt (fun s9 => RelM u.1 u.2 bq gn gT s9 (s9.2.1 2) ∧ gs.1 0 + 1 ≤ s9.1 0 ∧ ARm s9)) ∧ (RoV 19 bq V u.1) ∧ (RoV 35 bq V u.1) ∧ (RoV 37 bq V u.1) ∧ (RoL 20 24 bq L u.2) ∧ (RoL 36 20 bq L u.2) ∧ (RoL 38 20 bq L u.2)) (fun u t => gq D A (mw ad kk ks.1 u.1 u.2) (mty kk) t) A
set_option maxHeartbeats 4000000 in
set_option maxRecDepth 100000 in
theorem s_toldComponentA (l : Launch) (D : va_G) (ks : KS) (sz : Nat) (ad : Nat → Nat) (kk : Nat → ClassId) (V : Vf) (L : Lf) (bq : Nat) (gn : Nat) (gT : Tk) (gs : St) (hMV : rgd bM V) (rel : RelM V L bq gn gT gs (gs.2.1 2)) (kd9 : gT.1 (gs.1 0) = 131) (cc : (V 0 48).toInt ≤ 2 * (V 0 7).toInt) (arm : ARm gs)  : Met l yX12_toldComponent (Cond.code yX12_toldComponent cX12_toldComponent 5 none :: GW) r_s_toldComponentA (va_Pc [.ref (ad 0)] (gp D ks (mw ad kk ks.1 V L) (mty kk) sz)) (q_s_toldComponentA D ks ad kk V L  bq gn gT gs (va_A (mw ad kk ks.1 V L) sz)) 0 0 (va_A (mw ad kk ks.1 V L) sz) := by
  refine g_met (q_s_toldComponentA D ks ad kk V L  bq gn gT gs) (by decide) (Nat.le_of_ble_eq_true rfl) ?_
  intro p e s m below meth c A ls H locs hx hb hr hml hown hg hlocks hin hnw hgk hP hK hD hS hA hl
  have hown : s.vm.findClass RX12 = some m.cls := hown
  have hl : lv_has ls 5 [(0, .ref (ad 0))] := hl
  have hP : va_P D vwCl (mw ad kk ks.1 V L) H := hP
  have hD : va_D A (mw ad kk ks.1 V L) := hD
  have hK : va_K D vwCl (mty kk) s := hK
  have agV : agr [(0, 7), (0, 8), (0, 48), (0, 50), (0, 51), (0, 52)] [15, 19, 20, 21, 22, 23, 24, 25, 26, 27, 28, 29, 30, 31, 32, 33, 34, 35, 36, 37, 38, 45, 46, 47, 53] V V := agr.rf
  have alL : agL [15, 19, 20, 21, 22, 23, 24, 25, 26, 27, 28, 29, 30, 31, 32, 33, 34, 35, 36, 37, 38, 45, 46, 47, 53] L L := agL.rf
  have r1 : 0 ≤ ((V 0 48)).toInt ∧ ((V 0 48)).toInt ≤ 10000 := hMV 0 48
  have rg0 := RelM.rg rel
  have cl0 := RelM.cl rel
  have cq0 := RelM.cq rel
  have ln0 := RelM.len rel
  have q13 : (V 13 (Int32.toNatClampNeg (V 0 12))).toInt = (V 13 bq).toInt := by rw [cq0]
  have q16 : (V 16 (Int32.toNatClampNeg (V 0 12))).toInt = (V 16 bq).toInt := by rw [cq0]
  have q19 : (V 19 (Int32.toNatClampNeg (V 0 12))).toInt = (V 19 bq).toInt := by rw [cq0]
  have q39 : (V 39 (Int32.toNatClampNeg (V 0 12))).toInt = (V 39 bq).toInt := by rw [cq0]
  obtain ⟨gc, hgc⟩ : ∃ g, g = 24 * bq + (gs.2.1 2).length := ⟨_, rfl⟩
  refine lv_bipush (v := 24) hx hb dX12_toldComponent_0 (by decide) ?_
  refine lv_aload_n hx hb dX12_toldComponent_2 rfl (lv_at hl 0 rfl) ?_
  refine va_get (D := D) (ci := 12) (v := .int (V 0 12)) (C := RX12) (T := TX12) (N := 100) hx hb hg inX12 hown hK hP 0 rfl rfl 12 (by decide) (hg _ w1718) (fun _ h9 => h9) rfl dX12_toldComponent_3 ?_
  have r2 : 0 ≤ ((V 0 12)).toInt ∧ ((V 0 12)).toInt ≤ 1 := hMV 0 12
  refine lv_imul hx hb dX12_toldComponent_6 ?_
  refine lv_topi (fun z3 ez3 => ?_)
  have hz3 : z3.toInt = 24 * ((V 0 12)).toInt := i_mul ez3 (by decide) rfl (by omega)
  refine lv_aload_n hx hb dX12_toldComponent_7 rfl (lv_at hl 0 rfl) ?_
  refine va_get (D := D) (ci := 12) (v := .ref (ad 19)) (C := RX12) (T := TX12) (N := 100) hx hb hg inX12 hown hK hP 0 rfl rfl 19 (by decide) (hg _ w1725) (fun _ h9 => h9) rfl dX12_toldComponent_8 ?_
  refine lv_aload_n hx hb dX12_toldComponent_11 rfl (lv_at hl 0 rfl) ?_
  refine va_get (D := D) (ci := 12) (v := .int (V 0 12)) (C := RX12) (T := TX12) (N := 100) hx hb hg inX12 hown hK hP 0 rfl rfl 12 (by decide) (hg _ w1718) (fun _ h9 => h9) rfl dX12_toldComponent_12 ?_
  refine va_iald (D := D) (i := (V 0 12)) hx hb hK hP 12 11 rfl rfl (i_in (a := ((V 0 12)).toInt) rfl (by omega)) dX12_toldComponent_15 ?_
  have r4 : 0 ≤ ((V 19 (Int32.toNatClampNeg (V 0 12)))).toInt ∧ ((V 19 (Int32.toNatClampNeg (V 0 12)))).toInt ≤ 24 := hMV 19 (Int32.toNatClampNeg (V 0 12))
  refine lv_iadd hx hb dX12_toldComponent_16 ?_
  refine lv_topi (fun z5 ez5 => ?_)
  have hz5 : z5.toInt = z3.toInt + ((V 19 (Int32.toNatClampNeg (V 0 12)))).toInt := i_add ez5 rfl rfl (by omega)
  refine lv_istore_n (lv' := [(1, .int z5), (0, .ref (ad 0))]) hx hb dX12_toldComponent_17 rfl hl (by decide) rfl (fun ls hl => ?_)
  have z5r : 0 ≤ z5.toInt := by omega
  have kgc : Int32.toNatClampNeg z5 = gc := by have h9 := i_clamp (x := z5) rfl (by omega); omega
  refine lv_aload_n hx hb dX12_toldComponent_18 rfl (lv_at hl 1 rfl) ?_
  refine lv_aload_n hx hb dX12_toldComponent_19 rfl (lv_at hl 1 rfl) ?_
  refine va_get (D := D) (ci := 12) (v := .ref (ad 19)) (C := RX12) (T := TX12) (N := 100) hx hb hg inX12 hown hK hP 0 rfl rfl 19 (by decide) (hg _ w1725) (fun _ h9 => h9) rfl dX12_toldComponent_20 ?_
  refine lv_aload_n hx hb dX12_toldComponent_23 rfl (lv_at hl 1 rfl) ?_
  refine va_get (D := D) (ci := 12) (v := .int (V 0 12)) (C := RX12) (T := TX12) (N := 100) hx hb hg inX12 hown hK hP 0 rfl rfl 12 (by decide) (hg _ w1718) (fun _ h9 => h9) rfl dX12_toldComponent_24 ?_
  refine va_iald (D := D) (i := (V 0 12)) hx hb hK hP 12 11 rfl rfl (i_in (a := ((V 0 12)).toInt) rfl (by omega)) dX12_toldComponent_27 ?_
  refine lv_bipush (v := 24) hx hb dX12_toldComponent_28 (by decide) ?_
  refine lv_icmp_ne (tgt := 37) hx hb dX12_toldComponent_30 (by decide) (fun c6 => ?_) (fun c6 => ?_)
  · skip
    have f7 : ((V 19 (Int32.toNatClampNeg (V 0 12)))).toInt ≠ 24 := b_neq rfl (by decide) c6
    refine lv_iconst (v := 0) hx hb dX12_toldComponent_37 (by decide) ?_
    have r8 : Int32.toInt 0 = 0 := by decide
    refine gA_void (gA_runV (As := [.int 0]) (rest := []) (ci := 12) (q0 := 0) hx hb hml hown hg hP hD hK hS hA hnw hgk (s_beginsA l D ks H.size ad kk V L 0 (bq) (gn) (gT) (gs) ((gs.2.1 2)) hMV (by decide) rel (by rw [kd9]; decide)) w2031 w2033 w85 w172 w2034 rfl rfl hdV_yX12_begins ⟨Nat.le_of_ble_eq_true rfl, Nat.le_of_ble_eq_true rfl⟩ rfl hl.1 rfl (Nat.le_of_ble_eq_true rfl) dX12_toldComponent_38 ⟨Nat.le_of_ble_eq_true rfl, Nat.le_of_ble_eq_true rfl⟩) hP hD hK hS hA (fun u10 H locs w11 hP hD hK hS => ?_)
    obtain ⟨V13, L14⟩ := u10
    obtain ⟨hMV13, ajV13, axL14, t12⟩ := w11
    have axL14 : L = L14 := Eq.symm axL14
    subst axL14
    have hP : va_P D vwCl (mw ad kk ks.1 V13 L) H := hP
    have hD : va_D A (mw ad kk ks.1 V13 L) := hD
    have hMV13 : rgd bM V13 := hMV13
    have ajV13 : agr [(0, 7), (0, 8)] [] V V13 := ajV13
    have agV13 : agr [(0, 7), (0, 8), (0, 48), (0, 50), (0, 51), (0, 52)] [15, 19, 20, 21, 22, 23, 24, 25, 26, 27, 28, 29, 30, 31, 32, 33, 34, 35, 36, 37, 38, 45, 46, 47, 53] V V13 := agV.tr ajV13 (by decide) (by decide)
    have t12 : ((Int32.toInt 0) = 0 ∧ (V13 0 8).toInt = 0 ∧ RelM V13 L (bq) (gn) (gT) (nx (gs) 1) ((gs.2.1 2))) ∨ ((Int32.toInt 0) = 1 ∧ 1 ≤ (V13 0 8).toInt ∧ (V13 0 8).toInt = 5 + 16 * (gT).2.2 ((gs).1 0)) := t12
    rcases t12 with ⟨q15, f16, rl17⟩ | ⟨q15, f16, rl17⟩
    · skip
      have hr18 : ∀ k, Rc gT (Crun gs (Istmt :: k)) (Crun gs (Istmt :: k)) := fun k => Rc.rf
      have hr19 : ∀ k, Rc gT (Crun gs (Istmt :: k)) (Crun (nx gs 1) (InewComp :: k)) := fun k => Rc.go1 (hr18 k) (st_131 kd9 (by omega))
      have ps20 : (nx gs 1).1 0 = gs.1 0 + 1 := rfl
      have fz21 := RelM.rg rl17
      have r22 : 0 ≤ ((V13 0 8)).toInt ∧ ((V13 0 8)).toInt ≤ 70000 := hMV13 0 8
      refine lv_aload_n hx hb dX12_toldComponent_41 rfl (lv_at hl 1 rfl) ?_
      refine va_get (D := D) (ci := 12) (v := .int (V13 0 8)) (C := RX12) (T := TX12) (N := 100) hx hb hg inX12 hown hK hP 0 rfl rfl 8 (by decide) (hg _ w1714) (fun _ h9 => h9) rfl dX12_toldComponent_42 ?_
      refine lv_if_le (tgt := 49) hx hb dX12_toldComponent_45 (by decide) (fun c23 => ?_) (fun c23 => ?_)
      · skip
        have f24 : ((V13 0 8)).toInt ≤ 0 := b_le rfl (by decide) c23
        refine lv_aload_n hx hb dX12_toldComponent_49 rfl (lv_at hl 1 rfl) ?_
        refine gA_long (gA_runV (As := []) (rest := []) (ci := 12) (q0 := 0) hx hb hml hown hg hP hD hK hS hA hnw hgk (s_newNameA l D ks H.size ad kk V13 L (bq) (gn) (gT) ((nx gs 1)) hMV13 rl17) w2039 w2041 w87 w172 w2042 rfl rfl hdV_yX12_newName ⟨Nat.le_of_ble_eq_true rfl, Nat.le_of_ble_eq_true rfl⟩ rfl hl.1 rfl (Nat.le_of_ble_eq_true rfl) dX12_toldComponent_50 ⟨Nat.le_of_ble_eq_true rfl, Nat.le_of_ble_eq_true rfl⟩) hP hD hK hS hA (fun z25 u26 H locs w27 hP hD hK hS => ?_)
        obtain ⟨V29, L30⟩ := u26
        obtain ⟨hMV29, ajV29, axL30, t28⟩ := w27
        have axL30 : L = L30 := Eq.symm axL30
        subst axL30
        have hP : va_P D vwCl (mw ad kk ks.1 V29 L) H := hP
        have hD : va_D A (mw ad kk ks.1 V29 L) := hD
        have hMV29 : rgd bM V29 := hMV29
        have ajV29 : agr [(0, 7), (0, 8)] [] V13 V29 := ajV29
        have agV29 : agr [(0, 7), (0, 8), (0, 48), (0, 50), (0, 51), (0, 52)] [15, 19, 20, 21, 22, 23, 24, 25, 26, 27, 28, 29, 30, 31, 32, 33, 34, 35, 36, 37, 38, 45, 46, 47, 53] V V29 := agV13.tr ajV29 (by decide) (by decide)
        have t28 : KmW (newN (gT) ((nx gs 1))) (V29 0 8).toInt (fun w9 => RelM V29 L (bq) (gn) (gT) (nx ((nx gs 1)) 1) (((nx gs 1)).2.1 2) ∧ isTold ((nx gs 1)) w9 = false ∧ z25 = w9) := t28
        rcases t28 with ⟨q31, wx32, h33, rl34, tn35, hw36⟩ | ⟨q31, h33⟩
        · skip
          have hr37 : ∀ k, Rc gT (Crun gs (Istmt :: k)) (Crun (nx (nx gs 1) 1) (Itake 132 :: Itypes 0 [] :: Iscope wx32 :: k)) := fun k => Rc.go1 (hr19 k) (nc_y h33)
          have ps38 : (nx (nx gs 1) 1).1 0 = (nx gs 1).1 0 + 1 := rfl
          have fz39 := RelM.rg rl34
          have r40 : 0 ≤ ((V29 0 8)).toInt ∧ ((V29 0 8)).toInt ≤ 70000 := hMV29 0 8
          refine lv_lstore_n (lv' := [(2, .long z25), (1, .int z5), (0, .ref (ad 0))]) hx hb dX12_toldComponent_53 rfl hl (by decide) rfl (fun ls hl => ?_)
          have z5s : z5.toInt < 48 := by omega
          refine lv_iconst (v := 0) hx hb dX12_toldComponent_54 (by decide) ?_
          refine lv_istore (lv' := [(4, .int 0), (2, .long z25), (1, .int z5), (0, .ref (ad 0))]) hx hb dX12_toldComponent_55 hl (by decide) rfl (fun ls hl => ?_)
          have lp43 : ∀ (fulp43 : Nat) (y41 : Int32) (V42 : Vf) (H : Heap) (locs : List Loc) (ls : Array Slot), 0 ≤ y41.toInt ∧ y41.toInt ≤ 24 → (RoV 19 bq V V42) → (RoV 35 bq V V42) → (RoV 37 bq V V42) → (RoL 20 24 bq L L) → (RoL 36 20 bq L L) → (RoL 38 20 bq L L) → 24 - y41.toInt < (fulp43 : Int) → agr [] [21] V29 V42 → rgd bM V42 → va_P D vwCl (mw ad kk ks.1 V42 L) H → va_D A (mw ad kk ks.1 V42 L) → va_S A s.heap H locs → lv_has ls 5 [(4, .int y41), (2, .long z25), (1, .int z5), (0, .ref (ad 0))] → W p l e r_s_toldComponentA s m ([.ref (ad 0)] : List Value).toArray below meth c H locs 0 0 (MQ below (q_s_toldComponentA D ks ad kk V L  bq gn gT gs A) ([.ref (ad 0)] : List Value).toArray s 0 0 A) (F0 m 57 ls []) := by
            (try clear fz39); (try clear ps38); (try clear fz21); (try clear ps20); (try clear hr19); (try clear hr18)
            intro fulp43
            induction fulp43 with
            | zero =>
              intro y41 V42 H locs ls klp43_0 xlp43_0 xlp43_1 xlp43_2 xlp43_3 xlp43_4 xlp43_5 hn ajV42 hMV42 hP hD hS hl
              exfalso; omega
            | succ fulp43 ihlp43 =>
              intro y41 V42 H locs ls klp43_0 xlp43_0 xlp43_1 xlp43_2 xlp43_3 xlp43_4 xlp43_5 hn ajV42 hMV42 hP hD hS hl
              have agV42 : agr [(0, 7), (0, 8), (0, 48), (0, 50), (0, 51), (0, 52)] [15, 19, 20, 21, 22, 23, 24, 25, 26, 27, 28, 29, 30, 31, 32, 33, 34, 35, 36, 37, 38, 45, 46, 47, 53] V V42 := agV29.tr ajV42 (by decide) (by decide)
              refine lv_iload hx hb dX12_toldComponent_57 (lv_at hl 0 rfl) ?_
              refine lv_bipush (v := 24) hx hb dX12_toldComponent_59 (by decide) ?_
              refine lv_icmp_ge (tgt := 83) hx hb dX12_toldComponent_61 (by decide) (fun c44 => ?_) (fun c44 => ?_)
              · skip
                have f45 : 24 ≤ y41.toInt := b_le (by decide) rfl c44
                refine lv_iconst (v := 0) hx hb dX12_toldComponent_83 (by decide) ?_
                refine lv_istore (lv' := [(4, .int 0), (2, .long z25), (1, .int z5), (0, .ref (ad 0))]) hx hb dX12_toldComponent_84 hl (by decide) rfl (fun ls hl => ?_)
                have lp48 : ∀ (fulp48 : Nat) (y46 : Int32) (V47 : Vf) (H : Heap) (locs : List Loc) (ls : Array Slot), 0 ≤ y46.toInt ∧ y46.toInt ≤ 20 → (∀ j : Nat, (j : Int) < y46.toInt → (V47 34 (20 * gc + j)).toInt = -1) → (RoV 19 bq V V47) → (RoV 35 bq V V47) → (RoV 37 bq V V47) → (RoL 20 24 bq L L) → (RoL 36 20 bq L L) → (RoL 38 20 bq L L) → 20 - y46.toInt < (fulp48 : Int) → agr [] [34] V42 V47 → rgd bM V47 → va_P D vwCl (mw ad kk ks.1 V47 L) H → va_D A (mw ad kk ks.1 V47 L) → va_S A s.heap H locs → lv_has ls 5 [(4, .int y46), (2, .long z25), (1, .int z5), (0, .ref (ad 0))] → W p l e r_s_toldComponentA s m ([.ref (ad 0)] : List Value).toArray below meth c H locs 0 0 (MQ below (q_s_toldComponentA D ks ad kk V L  bq gn gT gs A) ([.ref (ad 0)] : List Value).toArray s 0 0 A) (F0 m 86 ls []) := by
                  (try clear fz39); (try clear ps38); (try clear fz21); (try clear ps20); (try clear hr19); (try clear hr18)
                  intro fulp48
                  induction fulp48 with
                  | zero =>
                    intro y46 V47 H locs ls klp48_0 xlp48_0 xlp48_1 xlp48_2 xlp48_3 xlp48_4 xlp48_5 xlp48_6 hn ajV47 hMV47 hP hD hS hl
                    exfalso; omega
                  | succ fulp48 ihlp48 =>
                    intro y46 V47 H locs ls klp48_0 xlp48_0 xlp48_1 xlp48_2 xlp48_3 xlp48_4 xlp48_5 xlp48_6 hn ajV47 hMV47 hP hD hS hl
                    have agV47 : agr [(0, 7), (0, 8), (0, 48), (0, 50), (0, 51), (0, 52)] [15, 19, 20, 21, 22, 23, 24, 25, 26, 27, 28, 29, 30, 31, 32, 33, 34, 35, 36, 37, 38, 45, 46, 47, 53] V V47 := agV42.tr ajV47 (by decide) (by decide)
                    refine lv_iload hx hb dX12_toldComponent_86 (lv_at hl 0 rfl) ?_
                    refine lv_bipush (v := 20) hx hb dX12_toldComponent_88 (by decide) ?_
                    refine lv_icmp_ge (tgt := 112) hx hb dX12_toldComponent_90 (by decide) (fun c49 => ?_) (fun c49 => ?_)
                    · skip
                      have f50 : 20 ≤ y46.toInt := b_le (by decide) rfl c49
                      have r351 : ∀ j : Nat, j < 20 → (V47 34 (20 * gc + j)).toInt = -1 := fun j hj => xlp48_0 j (by omega)
                      have J52 : ∀ (V53 : Vf) (L54 : Lf) (H : Heap) (locs : List Loc) (ls : Array Slot), agL [15, 19, 20, 21, 22, 23, 24, 25, 26, 27, 28, 29, 30, 31, 32, 33, 34, 35, 36, 37, 38, 45, 46, 47, 53] L L54 → agr [(0, 7), (0, 8)] [15, 21, 22, 23, 24, 25, 26, 35, 36, 37, 38, 53] V47 V53 → rgd bM V53 → (((V53 0 8).toInt = 0 ∧ ∃ s1 s0 : St, (∀ k, Rc gT (Crun gs (Istmt :: k)) (Crun s1 (Itake 123 :: IaddNm (wx32) :: Imember :: k))) ∧ RelM V53 L54 bq gn gT s1 (gs.2.1 2) ∧ keepS (scopeS s0) 0 s1 ∧ s1.2.1 2 = gs.2.1 2 ∧ s1.2.2.1 = gs.2.2.1 ∧ gs.1 0 + 1 ≤ s1.1 0) ∨ (1 ≤ (V53 0 8).toInt ∧ ∀ k, Rc gT (Crun gs (Istmt :: k)) (Cbad (V53 0 8).toInt))) → (V53 0 48).toInt ≤ 8000 → (V53 0 48).toInt = (V 0 48).toInt → (V53 0 12).toInt = (V 0 12).toInt → (RoV 19 bq V V53) → (RoV 35 bq V V53) → (RoV 37 bq V V53) → (RoL 20 24 bq L L54) → (RoL 36 20 bq L L54) → (RoL 38 20 bq L L54) → va_P D vwCl (mw ad kk ks.1 V53 L54) H → va_D A (mw ad kk ks.1 V53 L54) → va_S A s.heap H locs → lv_has ls 5 [(4, .int y46), (2, .long z25), (1, .int z5), (0, .ref (ad 0))] → W p l e r_s_toldComponentA s m ([.ref (ad 0)] : List Value).toArray below meth c H locs 0 0 (MQ below (q_s_toldComponentA D ks ad kk V L  bq gn gT gs A) ([.ref (ad 0)] : List Value).toArray s 0 0 A) (F0 m 262 ls []) := by
                        as_aux_lemma =>
                        (try clear fz39); (try clear ps38); (try clear hr37); (try clear fz21); (try clear ps20); (try clear hr19); (try clear hr18)
                        intro V53 L54 H locs ls alL54 ajV53 hMV53 xJ52_0 xJ52_1 xJ52_2 xJ52_3 xJ52_4 xJ52_5 xJ52_6 xJ52_7 xJ52_8 xJ52_9 hP hD hS hl
                        have agV53 : agr [(0, 7), (0, 8), (0, 48), (0, 50), (0, 51), (0, 52)] [15, 19, 20, 21, 22, 23, 24, 25, 26, 27, 28, 29, 30, 31, 32, 33, 34, 35, 36, 37, 38, 45, 46, 47, 53] V V53 := agV47.tr ajV53 (by decide) (by decide)
                        have pq55 : (V53 0 48).toInt = ((V 0 48)).toInt := congrArg Int32.toInt ((ajV53 0 48 rfl).trans ((ajV47 0 48 rfl).trans ((ajV42 0 48 rfl).trans ((ajV29 0 48 rfl).trans (ajV13 0 48 rfl)))))
                        have pq56 : (V53 0 12).toInt = ((V 0 12)).toInt := congrArg Int32.toInt ((ajV53 0 12 rfl).trans ((ajV47 0 12 rfl).trans ((ajV42 0 12 rfl).trans ((ajV29 0 12 rfl).trans (ajV13 0 12 rfl)))))
                        rcases xJ52_0 with ⟨f7, s1, s0, h1, r1, k1, t1, w1, g1⟩ | ⟨f7, h1⟩
                        · skip
                          have fz57 := RelM.rg r1
                          have r58 : 0 ≤ ((V53 0 8)).toInt ∧ ((V53 0 8)).toInt ≤ 70000 := hMV53 0 8
                          refine lv_aload_n hx hb dX12_toldComponent_262 rfl (lv_at hl 3 rfl) ?_
                          refine va_get (D := D) (ci := 12) (v := .ref (ad 27)) (C := RX12) (T := TX12) (N := 100) hx hb hg inX12 hown hK hP 0 rfl rfl 27 (by decide) (hg _ w1733) (fun _ h9 => h9) rfl dX12_toldComponent_263 ?_
                          refine lv_iload_n hx hb dX12_toldComponent_266 rfl (lv_at hl 2 rfl) ?_
                          refine lv_iconst (v := 0) hx hb dX12_toldComponent_267 (by decide) ?_
                          refine va_iast (D := D) (i := z5) (x := 0) hx hb hK hP hD hS 20 19 rfl rfl (i_in (a := z5.toInt) rfl (by omega)) dX12_toldComponent_268 (fun H locs hP hD hS => ?_)
                          obtain ⟨V59, hV59⟩ : ∃ z, z = up2 V53 27 (Int32.toNatClampNeg z5) 0 := ⟨_, rfl⟩
                          have hP : va_P D vwCl (mw ad kk ks.1 V59 L54) H := by rw [hV59]; exact hP
                          have hD : va_D A (mw ad kk ks.1 V59 L54) := by rw [hV59]; exact hD
                          have hMV59 : rgd bM V59 := hMV53.put hV59 (show 0 ≤ Int32.toInt 0 ∧ Int32.toInt 0 ≤ 8 from by decide)
                          have agV59 : agr [(0, 7), (0, 8), (0, 48), (0, 50), (0, 51), (0, 52)] [15, 19, 20, 21, 22, 23, 24, 25, 26, 27, 28, 29, 30, 31, 32, 33, 34, 35, 36, 37, 38, 45, 46, 47, 53] V V59 := agV53.up hV59 rfl
                          refine lv_aload_n hx hb dX12_toldComponent_269 rfl (lv_at hl 3 rfl) ?_
                          refine va_get (D := D) (ci := 12) (v := .ref (ad 32)) (C := RX12) (T := TX12) (N := 100) hx hb hg inX12 hown hK hP 0 rfl rfl 32 (by decide) (hg _ w1738) (fun _ h9 => h9) rfl dX12_toldComponent_270 ?_
                          refine lv_iload_n hx hb dX12_toldComponent_273 rfl (lv_at hl 2 rfl) ?_
                          refine lv_iconst (v := (-1)) hx hb dX12_toldComponent_274 (by decide) ?_
                          refine va_iast (D := D) (i := z5) (x := (-1)) hx hb hK hP hD hS 25 24 rfl rfl (i_in (a := z5.toInt) rfl (by omega)) dX12_toldComponent_275 (fun H locs hP hD hS => ?_)
                          obtain ⟨V60, hV60⟩ : ∃ z, z = up2 V59 32 (Int32.toNatClampNeg z5) (-1) := ⟨_, rfl⟩
                          have hP : va_P D vwCl (mw ad kk ks.1 V60 L54) H := by rw [hV60]; exact hP
                          have hD : va_D A (mw ad kk ks.1 V60 L54) := by rw [hV60]; exact hD
                          have hMV60 : rgd bM V60 := hMV59.put hV60 (i_full _)
                          have agV60 : agr [(0, 7), (0, 8), (0, 48), (0, 50), (0, 51), (0, 52)] [15, 19, 20, 21, 22, 23, 24, 25, 26, 27, 28, 29, 30, 31, 32, 33, 34, 35, 36, 37, 38, 45, 46, 47, 53] V V60 := agV59.up hV60 rfl
                          refine lv_aload_n hx hb dX12_toldComponent_276 rfl (lv_at hl 3 rfl) ?_
                          refine va_get (D := D) (ci := 12) (v := .ref (ad 33)) (C := RX12) (T := TX12) (N := 100) hx hb hg inX12 hown hK hP 0 rfl rfl 33 (by decide) (hg _ w1739) (fun _ h9 => h9) rfl dX12_toldComponent_277 ?_
                          refine lv_iload_n hx hb dX12_toldComponent_280 rfl (lv_at hl 2 rfl) ?_
                          refine lv_iconst (v := (-1)) hx hb dX12_toldComponent_281 (by decide) ?_
                          refine va_iast (D := D) (i := z5) (x := (-1)) hx hb hK hP hD hS 26 25 rfl rfl (i_in (a := z5.toInt) rfl (by omega)) dX12_toldComponent_282 (fun H locs hP hD hS => ?_)
                          obtain ⟨V61, hV61⟩ : ∃ z, z = up2 V60 33 (Int32.toNatClampNeg z5) (-1) := ⟨_, rfl⟩
                          have hP : va_P D vwCl (mw ad kk ks.1 V61 L54) H := by rw [hV61]; exact hP
                          have hD : va_D A (mw ad kk ks.1 V61 L54) := by rw [hV61]; exact hD
                          have hMV61 : rgd bM V61 := hMV60.put hV61 (i_full _)
                          have agV61 : agr [(0, 7), (0, 8), (0, 48), (0, 50), (0, 51), (0, 52)] [15, 19, 20, 21, 22, 23, 24, 25, 26, 27, 28, 29, 30, 31, 32, 33, 34, 35, 36, 37, 38, 45, 46, 47, 53] V V61 := agV60.up hV61 rfl
                          refine lv_aload_n hx hb dX12_toldComponent_283 rfl (lv_at hl 3 rfl) ?_
                          refine lv_iload_n hx hb dX12_toldComponent_284 rfl (lv_at hl 2 rfl) ?_
                          refine va_put (D := D) (ci := 12) (v := .int z5) (ty := tyX12 51) (C := RX12) (T := TX12) (N := 100) hx hb hg inX12 tyX12 tyX12_ok nmX12 hown hK hP hD hS 0 rfl rfl 51 (by decide) (hg _ w1757) (fun _ h9 => h9) rfl (tyX12_ok 51 (by decide)) rfl rfl (Nat.le_of_ble_eq_true rfl) dX12_toldComponent_285 (fun H locs hP hD hS => ?_)
                          obtain ⟨V62, hV62⟩ : ∃ z, z = up2 V61 0 51 z5 := ⟨_, rfl⟩
                          have hP : va_P D vwCl (mw ad kk ks.1 V62 L54) H := by rw [hV62]; exact hP
                          have hD : va_D A (mw ad kk ks.1 V62 L54) := by rw [hV62]; exact hD
                          have hMV62 : rgd bM V62 := hMV61.put hV62 (show (-1) ≤ z5.toInt ∧ z5.toInt ≤ 47 from by omega)
                          have agV62 : agr [(0, 7), (0, 8), (0, 48), (0, 50), (0, 51), (0, 52)] [15, 19, 20, 21, 22, 23, 24, 25, 26, 27, 28, 29, 30, 31, 32, 33, 34, 35, 36, 37, 38, 45, 46, 47, 53] V V62 := agV61.up hV62 rfl
                          refine lv_aload_n hx hb dX12_toldComponent_288 rfl (lv_at hl 3 rfl) ?_
                          refine lv_iconst (v := 0) hx hb dX12_toldComponent_289 (by decide) ?_
                          refine va_put (D := D) (ci := 12) (v := .int 0) (ty := tyX12 52) (C := RX12) (T := TX12) (N := 100) hx hb hg inX12 tyX12 tyX12_ok nmX12 hown hK hP hD hS 0 rfl rfl 52 (by decide) (hg _ w1758) (fun _ h9 => h9) rfl (tyX12_ok 52 (by decide)) rfl rfl (Nat.le_of_ble_eq_true rfl) dX12_toldComponent_290 (fun H locs hP hD hS => ?_)
                          obtain ⟨V63, hV63⟩ : ∃ z, z = up2 V62 0 52 0 := ⟨_, rfl⟩
                          have hP : va_P D vwCl (mw ad kk ks.1 V63 L54) H := by rw [hV63]; exact hP
                          have hD : va_D A (mw ad kk ks.1 V63 L54) := by rw [hV63]; exact hD
                          have hMV63 : rgd bM V63 := hMV62.put hV63 (by decide)
                          have agV63 : agr [(0, 7), (0, 8), (0, 48), (0, 50), (0, 51), (0, 52)] [15, 19, 20, 21, 22, 23, 24, 25, 26, 27, 28, 29, 30, 31, 32, 33, 34, 35, 36, 37, 38, 45, 46, 47, 53] V V63 := agV62.up hV63 rfl
                          refine lv_aload_n hx hb dX12_toldComponent_293 rfl (lv_at hl 3 rfl) ?_
                          refine lv_bipush (v := 123) hx hb dX12_toldComponent_294 (by decide) ?_
                          have rl64 : RelM V63 L54 bq gn gT s1 (gs.2.1 2) := RelM.ag r1 (show agr [(0, 51), (0, 52)] [27, 32, 33] V53 V63 from (agr.up (agr.up (agr.up (agr.up (agr.up agr.rf hV59 rfl) hV60 rfl) hV61 rfl) hV62 rfl) hV63 rfl)) (by decide) (show agL [] L54 L54 from agL.rf) (by decide)
                          have r65 : Int32.toInt 123 = 123 := by decide
                          refine gA_void (gA_runV (As := [.int 123]) (rest := []) (ci := 12) (q0 := 0) hx hb hml hown hg hP hD hK hS hA hnw hgk (s_takeSignA l D ks H.size ad kk V63 L54 123 (bq) (gn) (gT) (s1) ((gs.2.1 2)) hMV63 rl64 (sg_yes (j := 123) (by decide) (by decide) (by decide))) w2075 w2077 w96 w172 w2078 rfl rfl hdV_yX12_takeSign ⟨Nat.le_of_ble_eq_true rfl, Nat.le_of_ble_eq_true rfl⟩ rfl hl.1 rfl (Nat.le_of_ble_eq_true rfl) dX12_toldComponent_296 ⟨Nat.le_of_ble_eq_true rfl, Nat.le_of_ble_eq_true rfl⟩) hP hD hK hS hA (fun u67 H locs w68 hP hD hK hS => ?_)
                          obtain ⟨V70, L71⟩ := u67
                          obtain ⟨hMV70, ajV70, axL71, t69⟩ := w68
                          have axL71 : L54 = L71 := Eq.symm axL71
                          subst axL71
                          have hP : va_P D vwCl (mw ad kk ks.1 V70 L54) H := hP
                          have hD : va_D A (mw ad kk ks.1 V70 L54) := hD
                          have hMV70 : rgd bM V70 := hMV70
                          have ajV70 : agr [(0, 7), (0, 8)] [] V63 V70 := ajV70
                          have agV70 : agr [(0, 7), (0, 8), (0, 48), (0, 50), (0, 51), (0, 52)] [15, 19, 20, 21, 22, 23, 24, 25, 26, 27, 28, 29, 30, 31, 32, 33, 34, 35, 36, 37, 38, 45, 46, 47, 53] V V70 := agV63.tr ajV70 (by decide) (by decide)
                          have t69 : ((V70 0 8).toInt = 0 ∧ (gT).1 ((s1).1 0) = (Int32.toInt 123) ∧ RelM V70 L54 (bq) (gn) (gT) (nx (s1) 1) ((gs.2.1 2))) ∨ (1 ≤ (V70 0 8).toInt ∧ (gT).1 ((s1).1 0) ≠ (Int32.toInt 123) ∧ (V70 0 8).toInt = 1 + 16 * (gT).2.2 ((s1).1 0)) := t69
                          rcases t69 with ⟨q72, h73, rl74⟩ | ⟨q72, h73, rl74⟩
                          · skip
                            have kd75 : gT.1 (s1.1 0) = 123 := h73.trans (by decide)
                            have hr76 : ∀ k, Rc gT (Crun gs (Istmt :: k)) (Crun (nx s1 1) (IaddNm wx32 :: Imember :: k)) := fun k => Rc.go1 (h1 k) (tk_y kd75)
                            have ps77 : (nx s1 1).1 0 = s1.1 0 + 1 := rfl
                            have fz78 := RelM.rg rl74
                            have r79 : 0 ≤ ((V70 0 8)).toInt ∧ ((V70 0 8)).toInt ≤ 70000 := hMV70 0 8
                            have rl80 : RelM V70 L54 bq gn gT (sA (nx s1 1) 2 wx32) (gs.2.1 2) := RelM.ad2 rl74
                            have hr81 : ∀ k, Rc gT (Crun gs (Istmt :: k)) (Crun (sA (nx s1 1) 2 wx32) (Imember :: k)) := fun k => Rc.go1 (hr76 k) (m_addNm wx32)
                            have ow82 : OWm V70 gc (sA (nx s1 1) 2 wx32) := OWm.fresh (keepS.tr (keepS.tr (keepS.rf : keepS (scopeS s0) 0 (scopeS s0)) k1) (keepS.n1 1)) (by have h9 : V70 27 (Int32.toNatClampNeg z5) = 0 := ((ajV70 27 (Int32.toNatClampNeg z5) rfl).trans ((up2_o hV63 (by decide)).trans ((up2_o hV62 (by decide)).trans ((up2_o hV61 (by decide)).trans ((up2_o hV60 (by decide)).trans (up2_s hV59)))))); rw [kgc] at h9; rw [h9]; decide) (by have h9 : V70 32 (Int32.toNatClampNeg z5) = (-1) := ((ajV70 32 (Int32.toNatClampNeg z5) rfl).trans ((up2_o hV63 (by decide)).trans ((up2_o hV62 (by decide)).trans ((up2_o hV61 (by decide)).trans (up2_s hV60))))); rw [kgc] at h9; rw [h9]; decide) (by have h9 : V70 33 (Int32.toNatClampNeg z5) = (-1) := ((ajV70 33 (Int32.toNatClampNeg z5) rfl).trans ((up2_o hV63 (by decide)).trans ((up2_o hV62 (by decide)).trans (up2_s hV61)))); rw [kgc] at h9; rw [h9]; decide) (fun q hq => by rw [(show agr [(0, 7), (0, 8), (0, 51), (0, 52)] [15, 21, 22, 23, 24, 25, 26, 27, 32, 33, 35, 36, 37, 38, 53] V47 V70 from (agr.tr (agr.up (agr.up (agr.up (agr.up (agr.up (agr.tr agr.rf ajV53 (by decide) (by decide)) hV59 rfl) hV60 rfl) hV61 rfl) hV62 rfl) hV63 rfl) ajV70 (by decide) (by decide))) 34 _ rfl]; exact r351 q hq) wx32
                            have tb7 : (sA (nx s1 1) 2 wx32).2.1 2 = gs.2.1 2 ++ [wx32] := by show (nx s1 1).2.1 2 ++ [wx32] = _; rw [((((keepS.n1 1)).2.2.1 2 (by decide)).trans t1)]
                            have wr7 : (sA (nx s1 1) 2 wx32).2.2.1 = gs.2.2.1 := ((rfl : (sA (nx s1 1) 2 wx32).2.2.1 = (nx s1 1).2.2.1).trans ((congrArg (fun q9 => q9.1) ((keepS.n1 1)).2.2.2).trans w1))
                            have ps83 : s1.1 0 + 1 ≤ (nx s1 1).1 0 := ((keepS.n1 1)).1
                            have ps84 : (sA (nx s1 1) 2 wx32).1 0 = (nx s1 1).1 0 := rfl
                            have gp7 : gs.1 0 + 1 ≤ (sA (nx s1 1) 2 wx32).1 0 := (by omega)
                            have lp88 : ∀ (fulp88 : Nat) (g87 : Int) (V85 : Vf) (L86 : Lf) (H : Heap) (locs : List Loc) (ls : Array Slot), (((V85 0 8).toInt = 0 ∧ ∃ s1 : St, (∀ k, Rc gT (Crun gs (Istmt :: k)) (Crun s1 (Imember :: k))) ∧ RelM V85 L86 bq gn gT s1 (gs.2.1 2) ∧ gs.1 0 + 1 ≤ s1.1 0 ∧ OWm V85 gc s1 ∧ s1.2.1 2 = gs.2.1 2 ++ [wx32] ∧ s1.2.2.1 = gs.2.2.1) ∨ (1 ≤ (V85 0 8).toInt ∧ ∀ k, Rc gT (Crun gs (Istmt :: k)) (Cbad (V85 0 8).toInt))) → 0 ≤ g87 → Imp ((V85 0 8).toInt = 0) ((gn : Int) - (V85 0 7).toInt < g87) → Imp ((V85 0 8).toInt = 0) ((V85 0 48).toInt ≤ 2 * (V85 0 7).toInt) → (V85 0 48).toInt ≤ 8120 → (V85 0 51).toInt = z5.toInt → (V85 0 52).toInt = 0 → Imp (1 ≤ (V70 0 8).toInt) ((V85 0 8).toInt = (V70 0 8).toInt) → (RoV 19 bq V V85) → (RoV 35 bq V V85) → (RoV 37 bq V V85) → (RoL 20 24 bq L L86) → (RoL 36 20 bq L L86) → (RoL 38 20 bq L L86) → g87 < (fulp88 : Int) → agL [15, 19, 20, 21, 22, 23, 24, 25, 26, 27, 28, 29, 30, 31, 32, 33, 34, 35, 36, 37, 38, 45, 46, 47, 53] L L86 → agr [(0, 7), (0, 8), (0, 48), (0, 50)] [27, 28, 29, 30, 31, 32, 33, 34, 35, 36, 37, 38, 45, 46, 47] V70 V85 → rgd bM V85 → va_P D vwCl (mw ad kk ks.1 V85 L86) H → va_D A (mw ad kk ks.1 V85 L86) → va_S A s.heap H locs → lv_has ls 5 [(4, .int y46), (2, .long z25), (1, .int z5), (0, .ref (ad 0))] → W p l e r_s_toldComponentA s m ([.ref (ad 0)] : List Value).toArray below meth c H locs 0 0 (MQ below (q_s_toldComponentA D ks ad kk V L  bq gn gT gs A) ([.ref (ad 0)] : List Value).toArray s 0 0 A) (F0 m 299 ls []) := by
                              (try clear ps84); (try clear ps83); (try clear hr81); (try clear rl80); (try clear fz78); (try clear ps77); (try clear hr76); (try clear kd75); (try clear rl64); (try clear fz57); (try clear fz39); (try clear ps38); (try clear hr37); (try clear fz21); (try clear ps20); (try clear hr19); (try clear hr18)
                              intro fulp88
                              induction fulp88 with
                              | zero =>
                                intro g87 V85 L86 H locs ls xlp88_0 xlp88_1 xlp88_2 xlp88_3 xlp88_4 xlp88_5 xlp88_6 xlp88_7 xlp88_8 xlp88_9 xlp88_10 xlp88_11 xlp88_12 xlp88_13 hn alL86 ajV85 hMV85 hP hD hS hl
                                exfalso; omega
                              | succ fulp88 ihlp88 =>
                                intro g87 V85 L86 H locs ls xlp88_0 xlp88_1 xlp88_2 xlp88_3 xlp88_4 xlp88_5 xlp88_6 xlp88_7 xlp88_8 xlp88_9 xlp88_10 xlp88_11 xlp88_12 xlp88_13 hn alL86 ajV85 hMV85 hP hD hS hl
                                have agV85 : agr [(0, 7), (0, 8), (0, 48), (0, 50), (0, 51), (0, 52)] [15, 19, 20, 21, 22, 23, 24, 25, 26, 27, 28, 29, 30, 31, 32, 33, 34, 35, 36, 37, 38, 45, 46, 47, 53] V V85 := agV70.tr ajV85 (by decide) (by decide)
                                have r89 : 0 ≤ ((V85 0 8)).toInt ∧ ((V85 0 8)).toInt ≤ 70000 := hMV85 0 8
                                have r90 : 0 ≤ ((V85 0 48)).toInt ∧ ((V85 0 48)).toInt ≤ 10000 := hMV85 0 48
                                have pq91 : (V85 0 51).toInt = z5.toInt := congrArg Int32.toInt ((ajV85 0 51 rfl).trans ((ajV70 0 51 rfl).trans ((up2_k hV63 (by decide)).trans (up2_s hV62))))
                                have pq92 : (V85 0 52).toInt = 0 := (congrArg Int32.toInt ((ajV85 0 52 rfl).trans ((ajV70 0 52 rfl).trans (up2_s hV63)))).trans (by decide)
                                refine lv_aload_n hx hb dX12_toldComponent_299 rfl (lv_at hl 3 rfl) ?_
                                rcases xlp88_0 with ⟨f8, s1, hq, rq, gq1, oq, tq, wq⟩ | ⟨f8, hq⟩
                                · skip
                                  have fz93 := RelM.rg rq
                                  refine va_get (D := D) (ci := 12) (v := .int (V85 0 8)) (C := RX12) (T := TX12) (N := 100) hx hb hg inX12 hown hK hP 0 rfl rfl 8 (by decide) (hg _ w1714) (fun _ h9 => h9) rfl dX12_toldComponent_300 ?_
                                  refine lv_if_ne (tgt := 323) hx hb dX12_toldComponent_303 (by decide) (fun c94 => ?_) (fun c94 => ?_)
                                  · skip
                                    have f95 : ((V85 0 8)).toInt ≠ 0 := b_neq rfl (by decide) c94
                                    exfalso; first | omega | ((try (have i_xlp88_7 := Imp.go xlp88_7 (by omega))); (try (have i_xlp88_3 := Imp.go xlp88_3 (by omega))); (try (have i_xlp88_2 := Imp.go xlp88_2 (by omega))); (try (have i_xlp88_2 := Imp.go xlp88_2 (by omega))); (try (have i_xlp88_3 := Imp.go xlp88_3 (by omega))); (try (have i_xlp88_7 := Imp.go xlp88_7 (by omega))); omega)
                                  · skip
                                    have f96 : ((V85 0 8)).toInt = 0 := b_eq rfl (by decide) c94
                                    refine lv_aload_n hx hb dX12_toldComponent_306 rfl (lv_at hl 3 rfl) ?_
                                    refine lv_bipush (v := 125) hx hb dX12_toldComponent_307 (by decide) ?_
                                    have r97 : Int32.toInt 125 = 125 := by decide
                                    refine gA_int (gA_runV (As := [.int 125]) (rest := []) (ci := 12) (q0 := 0) hx hb hml hown hg hP hD hK hS hA hnw hgk (s_isSignA l D ks H.size ad kk V85 L86 125 (bq) (gn) (gT) (s1) ((gs.2.1 2)) hMV85 rq (sg_yes (j := 125) (by decide) (by decide) (by decide))) w2071 w2073 w95 w172 w2074 rfl rfl hdV_yX12_isSign ⟨Nat.le_of_ble_eq_true rfl, Nat.le_of_ble_eq_true rfl⟩ rfl hl.1 rfl (Nat.le_of_ble_eq_true rfl) dX12_toldComponent_309 ⟨Nat.le_of_ble_eq_true rfl, Nat.le_of_ble_eq_true rfl⟩) hP hD hK hS hA (fun z98 u99 H locs w100 hP hD hK hS => ?_)
                                    obtain ⟨rgz98, t101⟩ := w100
                                    have rgz98 : 0 ≤ z98.toInt ∧ z98.toInt ≤ 1 := rgz98
                                    have t101 : (z98.toInt = 1 ∧ (gT).1 ((s1).1 0) = (Int32.toInt 125)) ∨ (z98.toInt = 0 ∧ (gT).1 ((s1).1 0) ≠ (Int32.toInt 125)) := t101
                                    rcases t101 with ⟨q102, h103⟩ | ⟨q102, h103⟩
                                    · skip
                                      have kd104 : gT.1 (s1.1 0) = 125 := h103.trans (by decide)
                                      refine lv_if_ne (tgt := 323) hx hb dX12_toldComponent_312 (by decide) (fun c105 => ?_) (fun c105 => ?_)
                                      · skip
                                        have f106 : z98.toInt ≠ 0 := b_neq rfl (by decide) c105
                                        refine lv_aload_n hx hb dX12_toldComponent_323 rfl (lv_at hl 3 rfl) ?_
                                        refine lv_bipush (v := 125) hx hb dX12_toldComponent_324 (by decide) ?_
                                        refine gA_void (gA_runV (As := [.int 125]) (rest := []) (ci := 12) (q0 := 0) hx hb hml hown hg hP hD hK hS hA hnw hgk (s_takeSignA l D ks H.size ad kk V85 L86 125 (bq) (gn) (gT) (s1) ((gs.2.1 2)) hMV85 rq (sg_yes (j := 125) (by decide) (by decide) (by decide))) w2075 w2077 w96 w172 w2078 rfl rfl hdV_yX12_takeSign ⟨Nat.le_of_ble_eq_true rfl, Nat.le_of_ble_eq_true rfl⟩ rfl hl.1 rfl (Nat.le_of_ble_eq_true rfl) dX12_toldComponent_326 ⟨Nat.le_of_ble_eq_true rfl, Nat.le_of_ble_eq_true rfl⟩) hP hD hK hS hA (fun u108 H locs w109 hP hD hK hS => ?_)
                                        obtain ⟨V111, L112⟩ := u108
                                        obtain ⟨hMV111, ajV111, axL112, t110⟩ := w109
                                        have axL112 : L86 = L112 := Eq.symm axL112
                                        subst axL112
                                        have hP : va_P D vwCl (mw ad kk ks.1 V111 L86) H := hP
                                        have hD : va_D A (mw ad kk ks.1 V111 L86) := hD
                                        have hMV111 : rgd bM V111 := hMV111
                                        have ajV111 : agr [(0, 7), (0, 8)] [] V85 V111 := ajV111
                                        have agV111 : agr [(0, 7), (0, 8), (0, 48), (0, 50), (0, 51), (0, 52)] [15, 19, 20, 21, 22, 23, 24, 25, 26, 27, 28, 29, 30, 31, 32, 33, 34, 35, 36, 37, 38, 45, 46, 47, 53] V V111 := agV85.tr ajV111 (by decide) (by decide)
                                        have t110 : ((V111 0 8).toInt = 0 ∧ (gT).1 ((s1).1 0) = (Int32.toInt 125) ∧ RelM V111 L86 (bq) (gn) (gT) (nx (s1) 1) ((gs.2.1 2))) ∨ (1 ≤ (V111 0 8).toInt ∧ (gT).1 ((s1).1 0) ≠ (Int32.toInt 125) ∧ (V111 0 8).toInt = 1 + 16 * (gT).2.2 ((s1).1 0)) := t110
                                        rcases t110 with ⟨q113, h114, rl115⟩ | ⟨q113, h114, rl115⟩
                                        · skip
                                          have kd116 : gT.1 (s1.1 0) = 125 := h114.trans (by decide)
                                          have fz117 := RelM.rg rl115
                                          have r118 : 0 ≤ ((V111 0 8)).toInt ∧ ((V111 0 8)).toInt ≤ 70000 := hMV111 0 8
                                          have hr119 : ∀ k, Rc gT (Crun gs (Istmt :: k)) (Crun (nx s1 1) (Istmt :: k)) := fun k => Rc.go1 (hq k) (mb_125 kd116)
                                          refine lv_aload_n hx hb dX12_toldComponent_329 rfl (lv_at hl 3 rfl) ?_
                                          refine va_get (D := D) (ci := 12) (v := .int (V111 0 8)) (C := RX12) (T := TX12) (N := 100) hx hb hg inX12 hown hK hP 0 rfl rfl 8 (by decide) (hg _ w1714) (fun _ h9 => h9) rfl dX12_toldComponent_330 ?_
                                          refine lv_if_le (tgt := 337) hx hb dX12_toldComponent_333 (by decide) (fun c120 => ?_) (fun c120 => ?_)
                                          · skip
                                            have f121 : ((V111 0 8)).toInt ≤ 0 := b_le rfl (by decide) c120
                                            refine lv_aload_n hx hb dX12_toldComponent_337 rfl (lv_at hl 3 rfl) ?_
                                            refine va_get (D := D) (ci := 12) (v := .ref (ad 20)) (C := RX12) (T := TX12) (N := 100) hx hb hg inX12 hown hK hP 0 rfl rfl 20 (by decide) (hg _ w1726) (fun _ h9 => h9) rfl dX12_toldComponent_338 ?_
                                            refine lv_iload_n hx hb dX12_toldComponent_341 rfl (lv_at hl 2 rfl) ?_
                                            refine lv_lload_n hx hb dX12_toldComponent_342 rfl (lv_at hl 1 rfl) ?_
                                            refine va_last (D := D) (i := z5) (x := z25) hx hb hK hP hD hS 13 12 rfl rfl (i_in (a := z5.toInt) rfl (by first | exact ⟨z5r, z5s⟩ | omega | ((try (have i_xlp88_7 := Imp.go xlp88_7 (by omega))); (try (have i_xlp88_3 := Imp.go xlp88_3 (by omega))); (try (have i_xlp88_2 := Imp.go xlp88_2 (by omega))); (try (have i_xlp88_2 := Imp.go xlp88_2 (by omega))); (try (have i_xlp88_3 := Imp.go xlp88_3 (by omega))); (try (have i_xlp88_7 := Imp.go xlp88_7 (by omega))); omega))) dX12_toldComponent_343 (fun H locs hP hD hS => ?_)
                                            obtain ⟨L122, hL122⟩ : ∃ z, z = upL L86 20 (Int32.toNatClampNeg z5) z25 := ⟨_, rfl⟩
                                            have hP : va_P D vwCl (mw ad kk ks.1 V111 L122) H := by rw [hL122]; exact hP
                                            have hD : va_D A (mw ad kk ks.1 V111 L122) := by rw [hL122]; exact hD
                                            have alL122 : agL [15, 19, 20, 21, 22, 23, 24, 25, 26, 27, 28, 29, 30, 31, 32, 33, 34, 35, 36, 37, 38, 45, 46, 47, 53] L L122 := agL.up alL86 hL122 rfl
                                            refine lv_aload_n hx hb dX12_toldComponent_344 rfl (lv_at hl 3 rfl) ?_
                                            refine va_get (D := D) (ci := 12) (v := .ref (ad 19)) (C := RX12) (T := TX12) (N := 100) hx hb hg inX12 hown hK hP 0 rfl rfl 19 (by decide) (hg _ w1725) (fun _ h9 => h9) rfl dX12_toldComponent_345 ?_
                                            refine lv_aload_n hx hb dX12_toldComponent_348 rfl (lv_at hl 3 rfl) ?_
                                            refine va_get (D := D) (ci := 12) (v := .int (V111 0 12)) (C := RX12) (T := TX12) (N := 100) hx hb hg inX12 hown hK hP 0 rfl rfl 12 (by decide) (hg _ w1718) (fun _ h9 => h9) rfl dX12_toldComponent_349 ?_
                                            refine g_top (v := (V 0 12)) ((ajV111 0 12 rfl).trans ((ajV85 0 12 rfl).trans ((ajV70 0 12 rfl).trans ((up2_k hV63 (by decide)).trans ((up2_k hV62 (by decide)).trans ((up2_o hV61 (by decide)).trans ((up2_o hV60 (by decide)).trans ((up2_o hV59 (by decide)).trans ((ajV53 0 12 rfl).trans ((ajV47 0 12 rfl).trans ((ajV42 0 12 rfl).trans ((ajV29 0 12 rfl).trans (ajV13 0 12 rfl))))))))))))) ?_
                                            refine lv_dup2_11 hx hb dX12_toldComponent_352 rfl rfl ?_
                                            refine va_iald (D := D) (i := (V 0 12)) hx hb hK hP 12 11 rfl rfl (i_in (a := ((V 0 12)).toInt) rfl (by first | omega | ((try (have i_xlp88_7 := Imp.go xlp88_7 (by omega))); (try (have i_xlp88_3 := Imp.go xlp88_3 (by omega))); (try (have i_xlp88_2 := Imp.go xlp88_2 (by omega))); (try (have i_xlp88_2 := Imp.go xlp88_2 (by omega))); (try (have i_xlp88_3 := Imp.go xlp88_3 (by omega))); (try (have i_xlp88_7 := Imp.go xlp88_7 (by omega))); omega))) dX12_toldComponent_353 ?_
                                            refine g_top (v := (V 19 (Int32.toNatClampNeg (V 0 12)))) ((ajV111 19 (Int32.toNatClampNeg (V 0 12)) rfl).trans ((ajV85 19 (Int32.toNatClampNeg (V 0 12)) rfl).trans ((ajV70 19 (Int32.toNatClampNeg (V 0 12)) rfl).trans ((up2_o hV63 (by decide)).trans ((up2_o hV62 (by decide)).trans ((up2_o hV61 (by decide)).trans ((up2_o hV60 (by decide)).trans ((up2_o hV59 (by decide)).trans ((ajV53 19 (Int32.toNatClampNeg (V 0 12)) rfl).trans ((ajV47 19 (Int32.toNatClampNeg (V 0 12)) rfl).trans ((ajV42 19 (Int32.toNatClampNeg (V 0 12)) rfl).trans ((ajV29 19 (Int32.toNatClampNeg (V 0 12)) rfl).trans (ajV13 19 (Int32.toNatClampNeg (V 0 12)) rfl))))))))))))) ?_
                                            refine lv_iconst (v := 1) hx hb dX12_toldComponent_354 (by decide) ?_
                                            refine lv_iadd hx hb dX12_toldComponent_355 ?_
                                            refine lv_topi (fun z123 ez123 => ?_)
                                            have hz123 : z123.toInt = ((V 19 (Int32.toNatClampNeg (V 0 12)))).toInt + 1 := i_add ez123 rfl (by decide) (by omega)
                                            refine va_iast (D := D) (i := (V 0 12)) (x := z123) hx hb hK hP hD hS 12 11 rfl rfl (i_in (a := ((V 0 12)).toInt) rfl (by first | omega | ((try (have i_xlp88_7 := Imp.go xlp88_7 (by omega))); (try (have i_xlp88_3 := Imp.go xlp88_3 (by omega))); (try (have i_xlp88_2 := Imp.go xlp88_2 (by omega))); (try (have i_xlp88_2 := Imp.go xlp88_2 (by omega))); (try (have i_xlp88_3 := Imp.go xlp88_3 (by omega))); (try (have i_xlp88_7 := Imp.go xlp88_7 (by omega))); omega))) dX12_toldComponent_356 (fun H locs hP hD hS => ?_)
                                            obtain ⟨V124, hV124⟩ : ∃ z, z = up2 V111 19 (Int32.toNatClampNeg (V 0 12)) z123 := ⟨_, rfl⟩
                                            have hP : va_P D vwCl (mw ad kk ks.1 V124 L122) H := by rw [hV124]; exact hP
                                            have hD : va_D A (mw ad kk ks.1 V124 L122) := by rw [hV124]; exact hD
                                            have hMV124 : rgd bM V124 := hMV111.put hV124 (show 0 ≤ z123.toInt ∧ z123.toInt ≤ 24 from by first | omega | ((try (have i_xlp88_7 := Imp.go xlp88_7 (by omega))); (try (have i_xlp88_3 := Imp.go xlp88_3 (by omega))); (try (have i_xlp88_2 := Imp.go xlp88_2 (by omega))); (try (have i_xlp88_2 := Imp.go xlp88_2 (by omega))); (try (have i_xlp88_3 := Imp.go xlp88_3 (by omega))); (try (have i_xlp88_7 := Imp.go xlp88_7 (by omega))); omega))
                                            have agV124 : agr [(0, 7), (0, 8), (0, 48), (0, 50), (0, 51), (0, 52)] [15, 19, 20, 21, 22, 23, 24, 25, 26, 27, 28, 29, 30, 31, 32, 33, 34, 35, 36, 37, 38, 45, 46, 47, 53] V V124 := agV111.up hV124 rfl
                                            have cq9 : (Int32.toNatClampNeg (V 0 12)) = bq := by have h9 := RelM.cq rl115; have h8 : V111 0 12 = (V 0 12) := ((ajV111 0 12 rfl).trans ((ajV85 0 12 rfl).trans ((ajV70 0 12 rfl).trans ((up2_k hV63 (by decide)).trans ((up2_k hV62 (by decide)).trans ((up2_o hV61 (by decide)).trans ((up2_o hV60 (by decide)).trans ((up2_o hV59 (by decide)).trans ((ajV53 0 12 rfl).trans ((ajV47 0 12 rfl).trans ((ajV42 0 12 rfl).trans ((ajV29 0 12 rfl).trans (ajV13 0 12 rfl))))))))))))); rw [h8] at h9; exact h9
                                            have hv9 := hV124
                                            rw [cq9] at hv9
                                            have pq125 : (V111 19 bq).toInt = ((V 19 bq)).toInt := congrArg Int32.toInt ((ajV111 19 bq rfl).trans ((ajV85 19 bq rfl).trans ((ajV70 19 bq rfl).trans ((up2_o hV63 (by decide)).trans ((up2_o hV62 (by decide)).trans ((up2_o hV61 (by decide)).trans ((up2_o hV60 (by decide)).trans ((up2_o hV59 (by decide)).trans ((ajV53 19 bq rfl).trans ((ajV47 19 bq rfl).trans ((ajV42 19 bq rfl).trans ((ajV29 19 bq rfl).trans (ajV13 19 bq rfl)))))))))))))
                                            have r126 : 0 ≤ ((V 19 bq)).toInt ∧ ((V 19 bq)).toInt ≤ 24 := hMV 19 bq
                                            have cv9 : (V111 19 (Int32.toNatClampNeg (V 0 12))).toInt = (V111 19 bq).toInt := by rw [cq9]
                                            have pq127 : (V111 19 (Int32.toNatClampNeg (V 0 12))).toInt = ((V 19 (Int32.toNatClampNeg (V 0 12)))).toInt := congrArg Int32.toInt ((ajV111 19 (Int32.toNatClampNeg (V 0 12)) rfl).trans ((ajV85 19 (Int32.toNatClampNeg (V 0 12)) rfl).trans ((ajV70 19 (Int32.toNatClampNeg (V 0 12)) rfl).trans ((up2_o hV63 (by decide)).trans ((up2_o hV62 (by decide)).trans ((up2_o hV61 (by decide)).trans ((up2_o hV60 (by decide)).trans ((up2_o hV59 (by decide)).trans ((ajV53 19 (Int32.toNatClampNeg (V 0 12)) rfl).trans ((ajV47 19 (Int32.toNatClampNeg (V 0 12)) rfl).trans ((ajV42 19 (Int32.toNatClampNeg (V 0 12)) rfl).trans ((ajV29 19 (Int32.toNatClampNeg (V 0 12)) rfl).trans (ajV13 19 (Int32.toNatClampNeg (V 0 12)) rfl)))))))))))))
                                            have r13 : 0 ≤ (V111 19 bq).toInt := (hMV111 19 bq).1
                                            have fn9 : fndI (gs.2.1 2) wx32 = none := (told_i tn35).2.2
                                            have lg9 := RelM.len rl115
                                            have ra9 : RelM V124 L122 bq gn gT (nx s1 1) (gs.2.1 2 ++ [wx32]) := RelM.a2 (a := z5) rl115 fn9 (by rw [← hw36]; exact hL122) (by omega) hv9 (by omega) r13
                                            have rl128 : RelM V124 L122 bq gn gT (nx s1 1) ((nx s1 1).2.1 2) := by rw [show (nx s1 1).2.1 2 = gs.2.1 2 ++ [wx32] from tq]; exact ra9
                                            have fz129 := RelM.rg rl128
                                            have pq130 : (V124 0 8).toInt = ((V111 0 8)).toInt := congrArg Int32.toInt (up2_o hV124 (by decide))
                                            have pq131 : (V124 0 7).toInt = ((V111 0 7)).toInt := congrArg Int32.toInt (up2_o hV124 (by decide))
                                            have pq132 : (V124 0 48).toInt = ((V85 0 48)).toInt := congrArg Int32.toInt ((up2_o hV124 (by decide)).trans (ajV111 0 48 rfl))
                                            have pq133 : (V124 0 12).toInt = ((V 0 12)).toInt := congrArg Int32.toInt ((up2_o hV124 (by decide)).trans ((ajV111 0 12 rfl).trans ((ajV85 0 12 rfl).trans ((ajV70 0 12 rfl).trans ((up2_k hV63 (by decide)).trans ((up2_k hV62 (by decide)).trans ((up2_o hV61 (by decide)).trans ((up2_o hV60 (by decide)).trans ((up2_o hV59 (by decide)).trans ((ajV53 0 12 rfl).trans ((ajV47 0 12 rfl).trans ((ajV42 0 12 rfl).trans ((ajV29 0 12 rfl).trans (ajV13 0 12 rfl))))))))))))))
                                            have ps134 : gs.1 0 + 1 ≤ s1.1 0 := gq1
                                            have ps135 : s1.1 0 + 1 ≤ (nx s1 1).1 0 := ((keepS.n1 1)).1
                                            have rw136 : RoV 19 bq V V124 := (fun k hk => ((up2_k hV124 (by omega)).trans ((ajV111 19 k rfl).trans (xlp88_8 k hk))))
                                            have rw137 : RoV 35 bq V V124 := (fun k hk => ((up2_o hV124 (by decide)).trans ((ajV111 35 k rfl).trans (xlp88_9 k hk))))
                                            have rw138 : RoV 37 bq V V124 := (fun k hk => ((up2_o hV124 (by decide)).trans ((ajV111 37 k rfl).trans (xlp88_10 k hk))))
                                            have rw139 : RoL 20 24 bq L L122 := (fun k hk => ((upL_k hL122 (by have h9 := i_clamp (x := z5) rfl (by omega); omega)).trans (xlp88_11 k hk)))
                                            have rw140 : RoL 36 20 bq L L122 := (fun k hk => ((upL_x hL122 (by decide)).trans (xlp88_12 k hk)))
                                            have rw141 : RoL 38 20 bq L L122 := (fun k hk => ((upL_x hL122 (by decide)).trans (xlp88_13 k hk)))
                                            exact W.vret hx hb hr (fun t ht hW => ⟨⟨(V124, L122), rfl, ⟨hMV124, agV124, alL122, (Imp.mk (fun hp => have hp : (V124 0 8).toInt = 0 := hp; (show (V124 0 48).toInt ≤ 2 * (V124 0 7).toInt from by first | omega | ((try (have i_xlp88_7 := Imp.go xlp88_7 (by omega))); (try (have i_xlp88_3 := Imp.go xlp88_3 (by omega))); (try (have i_xlp88_2 := Imp.go xlp88_2 (by omega))); (try (have i_xlp88_2 := Imp.go xlp88_2 (by omega))); (try (have i_xlp88_3 := Imp.go xlp88_3 (by omega))); (try (have i_xlp88_7 := Imp.go xlp88_7 (by omega))); omega)))), (show (V124 0 48).toInt ≤ 8200 from by first | omega | ((try (have i_xlp88_7 := Imp.go xlp88_7 (by omega))); (try (have i_xlp88_3 := Imp.go xlp88_3 (by omega))); (try (have i_xlp88_2 := Imp.go xlp88_2 (by omega))); (try (have i_xlp88_2 := Imp.go xlp88_2 (by omega))); (try (have i_xlp88_3 := Imp.go xlp88_3 (by omega))); (try (have i_xlp88_7 := Imp.go xlp88_7 (by omega))); omega)), (show (V124 0 12).toInt = (V 0 12).toInt from by first | omega | ((try (have i_xlp88_7 := Imp.go xlp88_7 (by omega))); (try (have i_xlp88_3 := Imp.go xlp88_3 (by omega))); (try (have i_xlp88_2 := Imp.go xlp88_2 (by omega))); (try (have i_xlp88_2 := Imp.go xlp88_2 (by omega))); (try (have i_xlp88_3 := Imp.go xlp88_3 (by omega))); (try (have i_xlp88_7 := Imp.go xlp88_7 (by omega))); omega)), (Or.inl ⟨W0 rl128, (nx s1 1), hr119, rl128, (by omega), (ARm.mv arm wq)⟩), rw136, rw137, rw138, rw139, rw140, rw141⟩, by rw [ht]; exact hP, va_K.moved hW.alike hK, hD⟩, hS.F ht⟩) hS.2.2 dX12_toldComponent_357
                                          · skip
                                            have f142 : 0 < ((V111 0 8)).toInt := b_nle rfl (by decide) c120
                                            exfalso; first | omega | ((try (have i_xlp88_7 := Imp.go xlp88_7 (by omega))); (try (have i_xlp88_3 := Imp.go xlp88_3 (by omega))); (try (have i_xlp88_2 := Imp.go xlp88_2 (by omega))); (try (have i_xlp88_2 := Imp.go xlp88_2 (by omega))); (try (have i_xlp88_3 := Imp.go xlp88_3 (by omega))); (try (have i_xlp88_7 := Imp.go xlp88_7 (by omega))); omega)
                                        · skip
                                          have kd143 : gT.1 (s1.1 0) ≠ 125 := fun h9 => h114 (h9.trans (by decide))
                                          exact absurd kd104 kd143
                                      · skip
                                        have f144 : z98.toInt = 0 := b_eq rfl (by decide) c105
                                        exfalso; first | omega | ((try (have i_xlp88_7 := Imp.go xlp88_7 (by omega))); (try (have i_xlp88_3 := Imp.go xlp88_3 (by omega))); (try (have i_xlp88_2 := Imp.go xlp88_2 (by omega))); (try (have i_xlp88_2 := Imp.go xlp88_2 (by omega))); (try (have i_xlp88_3 := Imp.go xlp88_3 (by omega))); (try (have i_xlp88_7 := Imp.go xlp88_7 (by omega))); omega)
                                    · skip
                                      have kd145 : gT.1 (s1.1 0) ≠ 125 := fun h9 => h103 (h9.trans (by decide))
                                      refine lv_if_ne (tgt := 323) hx hb dX12_toldComponent_312 (by decide) (fun c146 => ?_) (fun c146 => ?_)
                                      · skip
                                        have f147 : z98.toInt ≠ 0 := b_neq rfl (by decide) c146
                                        exfalso; first | omega | ((try (have i_xlp88_7 := Imp.go xlp88_7 (by omega))); (try (have i_xlp88_3 := Imp.go xlp88_3 (by omega))); (try (have i_xlp88_2 := Imp.go xlp88_2 (by omega))); (try (have i_xlp88_2 := Imp.go xlp88_2 (by omega))); (try (have i_xlp88_3 := Imp.go xlp88_3 (by omega))); (try (have i_xlp88_7 := Imp.go xlp88_7 (by omega))); omega)
                                      · skip
                                        have f148 : z98.toInt = 0 := b_eq rfl (by decide) c146
                                        refine lv_aload_n hx hb dX12_toldComponent_315 rfl (lv_at hl 3 rfl) ?_
                                        refine lv_iload_n hx hb dX12_toldComponent_316 rfl (lv_at hl 2 rfl) ?_
                                        refine gA_void (gA_runV (As := [.int z5]) (rest := []) (ci := 12) (q0 := 0) hx hb hml hown hg hP hD hK hS hA hnw hgk (s_memberA l D ks H.size ad kk V85 L86 z5 (bq) (gn) (gT) (s1) ((gs.2.1 2)) (gc) hMV85 (by first | omega | ((try (have i_xlp88_7 := Imp.go xlp88_7 (by omega))); (try (have i_xlp88_3 := Imp.go xlp88_3 (by omega))); (try (have i_xlp88_2 := Imp.go xlp88_2 (by omega))); (try (have i_xlp88_2 := Imp.go xlp88_2 (by omega))); (try (have i_xlp88_3 := Imp.go xlp88_3 (by omega))); (try (have i_xlp88_7 := Imp.go xlp88_7 (by omega))); omega)) rq (show z5.toInt = ((gc) : Int) from by first | omega | ((try (have i_xlp88_7 := Imp.go xlp88_7 (by omega))); (try (have i_xlp88_3 := Imp.go xlp88_3 (by omega))); (try (have i_xlp88_2 := Imp.go xlp88_2 (by omega))); (try (have i_xlp88_2 := Imp.go xlp88_2 (by omega))); (try (have i_xlp88_3 := Imp.go xlp88_3 (by omega))); (try (have i_xlp88_7 := Imp.go xlp88_7 (by omega))); omega)) (show (gc) < 48 from by first | omega | ((try (have i_xlp88_7 := Imp.go xlp88_7 (by omega))); (try (have i_xlp88_3 := Imp.go xlp88_3 (by omega))); (try (have i_xlp88_2 := Imp.go xlp88_2 (by omega))); (try (have i_xlp88_2 := Imp.go xlp88_2 (by omega))); (try (have i_xlp88_3 := Imp.go xlp88_3 (by omega))); (try (have i_xlp88_7 := Imp.go xlp88_7 (by omega))); omega)) oq kd145 (show (V85 0 51).toInt = ((gc) : Int) from by first | omega | ((try (have i_xlp88_7 := Imp.go xlp88_7 (by omega))); (try (have i_xlp88_3 := Imp.go xlp88_3 (by omega))); (try (have i_xlp88_2 := Imp.go xlp88_2 (by omega))); (try (have i_xlp88_2 := Imp.go xlp88_2 (by omega))); (try (have i_xlp88_3 := Imp.go xlp88_3 (by omega))); (try (have i_xlp88_7 := Imp.go xlp88_7 (by omega))); omega)) (show (V85 0 52).toInt = 0 from by first | omega | ((try (have i_xlp88_7 := Imp.go xlp88_7 (by omega))); (try (have i_xlp88_3 := Imp.go xlp88_3 (by omega))); (try (have i_xlp88_2 := Imp.go xlp88_2 (by omega))); (try (have i_xlp88_2 := Imp.go xlp88_2 (by omega))); (try (have i_xlp88_3 := Imp.go xlp88_3 (by omega))); (try (have i_xlp88_7 := Imp.go xlp88_7 (by omega))); omega)) (show (V85 0 48).toInt ≤ 2 * (V85 0 7).toInt from by first | omega | ((try (have i_xlp88_7 := Imp.go xlp88_7 (by omega))); (try (have i_xlp88_3 := Imp.go xlp88_3 (by omega))); (try (have i_xlp88_2 := Imp.go xlp88_2 (by omega))); (try (have i_xlp88_2 := Imp.go xlp88_2 (by omega))); (try (have i_xlp88_3 := Imp.go xlp88_3 (by omega))); (try (have i_xlp88_7 := Imp.go xlp88_7 (by omega))); omega))) w2104 w2106 w103 w172 w2107 rfl rfl hdV_yX12_member ⟨Nat.le_of_ble_eq_true rfl, Nat.le_of_ble_eq_true rfl⟩ rfl hl.1 rfl (Nat.le_of_ble_eq_true rfl) dX12_toldComponent_317 ⟨Nat.le_of_ble_eq_true rfl, Nat.le_of_ble_eq_true rfl⟩) hP hD hK hS hA (fun u150 H locs w151 hP hD hK hS => ?_)
                                        obtain ⟨V159, L160⟩ := u150
                                        obtain ⟨hMV159, ajV159, axL160, t152, t153, t154, t155, t156, t157, t158⟩ := w151
                                        have alL160 : agL [15, 19, 20, 21, 22, 23, 24, 25, 26, 27, 28, 29, 30, 31, 32, 33, 34, 35, 36, 37, 38, 45, 46, 47, 53] L L160 := agL.tr alL86 axL160 (by decide)
                                        have hP : va_P D vwCl (mw ad kk ks.1 V159 L160) H := hP
                                        have hD : va_D A (mw ad kk ks.1 V159 L160) := hD
                                        have hMV159 : rgd bM V159 := hMV159
                                        have ajV159 : agr [(0, 7), (0, 8), (0, 48), (0, 50)] [27, 28, 29, 30, 31, 32, 33, 34, 35, 36, 37, 38, 45, 46, 47] V85 V159 := ajV159
                                        have agV159 : agr [(0, 7), (0, 8), (0, 48), (0, 50), (0, 51), (0, 52)] [15, 19, 20, 21, 22, 23, 24, 25, 26, 27, 28, 29, 30, 31, 32, 33, 34, 35, 36, 37, 38, 45, 46, 47, 53] V V159 := agV85.tr ajV159 (by decide) (by decide)
                                        have t152 : Imp ((V159 0 8).toInt = 0) ((V159 0 48).toInt ≤ 2 * (V159 0 7).toInt) := t152
                                        have t153 : (V159 0 48).toInt ≤ 8120 := t153
                                        have t154 : RdM (gT) (s1) (fun k => Imember :: k) (fun k => Imember :: k) (V159 0 8).toInt (fun s9 => RelM V159 L160 (bq) (gn) (gT) s9 ((gs.2.1 2)) ∧ (s1).1 0 + 1 ≤ s9.1 0 ∧ OWm V159 (gc) s9 ∧ s9.2.1 2 = (s1).2.1 2 ∧ s9.2.2.1 = (s1).2.2.1) := t154
                                        have t155 : RoV 35 (bq) V85 V159 := t155
                                        have t156 : RoV 37 (bq) V85 V159 := t156
                                        have t157 : RoL 36 20 (bq) L86 L160 := t157
                                        have t158 : RoL 38 20 (bq) L86 L160 := t158
                                        have r161 : 0 ≤ ((V159 0 48)).toInt ∧ ((V159 0 48)).toInt ≤ 10000 := hMV159 0 48
                                        have r162 : 0 ≤ ((V159 0 8)).toInt ∧ ((V159 0 8)).toInt ≤ 70000 := hMV159 0 8
                                        rcases t154 with ⟨q163, sx164, h165, rl166, kp167⟩ | ⟨q163, h165⟩
                                        · skip
                                          have hr168 : ∀ k, Rc gT (Crun gs (Istmt :: k)) (Crun sx164 (Imember :: k)) := fun k => (hq k).tr (h165 (k))
                                          have fz169 := RelM.rg rl166
                                          have ps170 := (kp167).1
                                          refine lv_goto (tgt := 299) hx hb dX12_toldComponent_320 (by decide) ?_
                                          have pq171 : (V159 0 51).toInt = z5.toInt := congrArg Int32.toInt ((ajV159 0 51 rfl).trans ((ajV85 0 51 rfl).trans ((ajV70 0 51 rfl).trans ((up2_k hV63 (by decide)).trans (up2_s hV62)))))
                                          have pq172 : (V159 0 52).toInt = 0 := (congrArg Int32.toInt ((ajV159 0 52 rfl).trans ((ajV85 0 52 rfl).trans ((ajV70 0 52 rfl).trans (up2_s hV63))))).trans (by decide)
                                          have rw173 : RoV 19 bq V V159 := (fun k hk => ((ajV159 19 k rfl).trans (xlp88_8 k hk)))
                                          have rw174 : RoV 35 bq V V159 := (fun k hk => ((t155 k hk).trans (xlp88_9 k hk)))
                                          have rw175 : RoV 37 bq V V159 := (fun k hk => ((t156 k hk).trans (xlp88_10 k hk)))
                                          have rw176 : RoL 20 24 bq L L160 := (fun k hk => ((axL160 20 k rfl).trans (xlp88_11 k hk)))
                                          have rw177 : RoL 36 20 bq L L160 := (fun k hk => ((t157 k hk).trans (xlp88_12 k hk)))
                                          have rw178 : RoL 38 20 bq L L160 := (fun k hk => ((t158 k hk).trans (xlp88_13 k hk)))
                                          exact ihlp88 (g87 - 1) V159 L160 H locs ls (Or.inl ⟨W0 rl166, sx164, hr168, rl166, (by omega), kp167.2.1, kp167.2.2.1.trans tq, kp167.2.2.2.trans wq⟩) (show 0 ≤ (g87 - 1) from by first | omega | ((try (have i_t152 := Imp.go t152 (by omega))); (try (have i_xlp88_7 := Imp.go xlp88_7 (by omega))); (try (have i_xlp88_3 := Imp.go xlp88_3 (by omega))); (try (have i_xlp88_2 := Imp.go xlp88_2 (by omega))); (try (have i_xlp88_2 := Imp.go xlp88_2 (by omega))); (try (have i_xlp88_3 := Imp.go xlp88_3 (by omega))); (try (have i_xlp88_7 := Imp.go xlp88_7 (by omega))); (try (have i_t152 := Imp.go t152 (by omega))); omega)) (Imp.mk (fun hp => have hp : (V159 0 8).toInt = 0 := hp; (show (gn : Int) - (V159 0 7).toInt < (g87 - 1) from by first | omega | ((try (have i_t152 := Imp.go t152 (by omega))); (try (have i_xlp88_7 := Imp.go xlp88_7 (by omega))); (try (have i_xlp88_3 := Imp.go xlp88_3 (by omega))); (try (have i_xlp88_2 := Imp.go xlp88_2 (by omega))); (try (have i_xlp88_2 := Imp.go xlp88_2 (by omega))); (try (have i_xlp88_3 := Imp.go xlp88_3 (by omega))); (try (have i_xlp88_7 := Imp.go xlp88_7 (by omega))); (try (have i_t152 := Imp.go t152 (by omega))); omega)))) (Imp.mk (fun hp => have hp : (V159 0 8).toInt = 0 := hp; (show (V159 0 48).toInt ≤ 2 * (V159 0 7).toInt from by first | omega | ((try (have i_t152 := Imp.go t152 (by omega))); (try (have i_xlp88_7 := Imp.go xlp88_7 (by omega))); (try (have i_xlp88_3 := Imp.go xlp88_3 (by omega))); (try (have i_xlp88_2 := Imp.go xlp88_2 (by omega))); (try (have i_xlp88_2 := Imp.go xlp88_2 (by omega))); (try (have i_xlp88_3 := Imp.go xlp88_3 (by omega))); (try (have i_xlp88_7 := Imp.go xlp88_7 (by omega))); (try (have i_t152 := Imp.go t152 (by omega))); omega)))) (show (V159 0 48).toInt ≤ 8120 from by first | omega | ((try (have i_t152 := Imp.go t152 (by omega))); (try (have i_xlp88_7 := Imp.go xlp88_7 (by omega))); (try (have i_xlp88_3 := Imp.go xlp88_3 (by omega))); (try (have i_xlp88_2 := Imp.go xlp88_2 (by omega))); (try (have i_xlp88_2 := Imp.go xlp88_2 (by omega))); (try (have i_xlp88_3 := Imp.go xlp88_3 (by omega))); (try (have i_xlp88_7 := Imp.go xlp88_7 (by omega))); (try (have i_t152 := Imp.go t152 (by omega))); omega)) (show (V159 0 51).toInt = z5.toInt from by first | omega | ((try (have i_t152 := Imp.go t152 (by omega))); (try (have i_xlp88_7 := Imp.go xlp88_7 (by omega))); (try (have i_xlp88_3 := Imp.go xlp88_3 (by omega))); (try (have i_xlp88_2 := Imp.go xlp88_2 (by omega))); (try (have i_xlp88_2 := Imp.go xlp88_2 (by omega))); (try (have i_xlp88_3 := Imp.go xlp88_3 (by omega))); (try (have i_xlp88_7 := Imp.go xlp88_7 (by omega))); (try (have i_t152 := Imp.go t152 (by omega))); omega)) (show (V159 0 52).toInt = 0 from by first | omega | ((try (have i_t152 := Imp.go t152 (by omega))); (try (have i_xlp88_7 := Imp.go xlp88_7 (by omega))); (try (have i_xlp88_3 := Imp.go xlp88_3 (by omega))); (try (have i_xlp88_2 := Imp.go xlp88_2 (by omega))); (try (have i_xlp88_2 := Imp.go xlp88_2 (by omega))); (try (have i_xlp88_3 := Imp.go xlp88_3 (by omega))); (try (have i_xlp88_7 := Imp.go xlp88_7 (by omega))); (try (have i_t152 := Imp.go t152 (by omega))); omega)) (Imp.mk (fun hp => have hp : 1 ≤ (V70 0 8).toInt := hp; (show (V159 0 8).toInt = (V70 0 8).toInt from by first | omega | ((try (have i_t152 := Imp.go t152 (by omega))); (try (have i_xlp88_7 := Imp.go xlp88_7 (by omega))); (try (have i_xlp88_3 := Imp.go xlp88_3 (by omega))); (try (have i_xlp88_2 := Imp.go xlp88_2 (by omega))); (try (have i_xlp88_2 := Imp.go xlp88_2 (by omega))); (try (have i_xlp88_3 := Imp.go xlp88_3 (by omega))); (try (have i_xlp88_7 := Imp.go xlp88_7 (by omega))); (try (have i_t152 := Imp.go t152 (by omega))); omega)))) rw173 rw174 rw175 rw176 rw177 rw178 (by first | omega | ((try (have i_t152 := Imp.go t152 (by omega))); (try (have i_xlp88_7 := Imp.go xlp88_7 (by omega))); (try (have i_xlp88_3 := Imp.go xlp88_3 (by omega))); (try (have i_xlp88_2 := Imp.go xlp88_2 (by omega))); (try (have i_xlp88_2 := Imp.go xlp88_2 (by omega))); (try (have i_xlp88_3 := Imp.go xlp88_3 (by omega))); (try (have i_xlp88_7 := Imp.go xlp88_7 (by omega))); (try (have i_t152 := Imp.go t152 (by omega))); omega)) alL160 (agr.tr (agr.tr agr.rf ajV85 (by decide) (by decide)) ajV159 (by decide) (by decide)) hMV159 hP hD hS (lv_sub hl [0, 1, 2, 3] rfl)
                                        · skip
                                          have hb179 : ∀ k, Rc gT (Crun gs (Istmt :: k)) (Cbad (V159 0 8).toInt) := fun k => (hq k).tr (h165 (k))
                                          refine lv_goto (tgt := 299) hx hb dX12_toldComponent_320 (by decide) ?_
                                          have pq180 : (V159 0 51).toInt = z5.toInt := congrArg Int32.toInt ((ajV159 0 51 rfl).trans ((ajV85 0 51 rfl).trans ((ajV70 0 51 rfl).trans ((up2_k hV63 (by decide)).trans (up2_s hV62)))))
                                          have pq181 : (V159 0 52).toInt = 0 := (congrArg Int32.toInt ((ajV159 0 52 rfl).trans ((ajV85 0 52 rfl).trans ((ajV70 0 52 rfl).trans (up2_s hV63))))).trans (by decide)
                                          have rw182 : RoV 19 bq V V159 := (fun k hk => ((ajV159 19 k rfl).trans (xlp88_8 k hk)))
                                          have rw183 : RoV 35 bq V V159 := (fun k hk => ((t155 k hk).trans (xlp88_9 k hk)))
                                          have rw184 : RoV 37 bq V V159 := (fun k hk => ((t156 k hk).trans (xlp88_10 k hk)))
                                          have rw185 : RoL 20 24 bq L L160 := (fun k hk => ((axL160 20 k rfl).trans (xlp88_11 k hk)))
                                          have rw186 : RoL 36 20 bq L L160 := (fun k hk => ((t157 k hk).trans (xlp88_12 k hk)))
                                          have rw187 : RoL 38 20 bq L L160 := (fun k hk => ((t158 k hk).trans (xlp88_13 k hk)))
                                          exact ihlp88 (g87 - 1) V159 L160 H locs ls (Or.inr ⟨(show 1 ≤ (V159 0 8).toInt from by omega), hb179⟩) (show 0 ≤ (g87 - 1) from by first | omega | ((try (have i_t152 := Imp.go t152 (by omega))); (try (have i_xlp88_7 := Imp.go xlp88_7 (by omega))); (try (have i_xlp88_3 := Imp.go xlp88_3 (by omega))); (try (have i_xlp88_2 := Imp.go xlp88_2 (by omega))); (try (have i_xlp88_2 := Imp.go xlp88_2 (by omega))); (try (have i_xlp88_3 := Imp.go xlp88_3 (by omega))); (try (have i_xlp88_7 := Imp.go xlp88_7 (by omega))); (try (have i_t152 := Imp.go t152 (by omega))); omega)) (Imp.mk (fun hp => have hp : (V159 0 8).toInt = 0 := hp; (show (gn : Int) - (V159 0 7).toInt < (g87 - 1) from by first | omega | ((try (have i_t152 := Imp.go t152 (by omega))); (try (have i_xlp88_7 := Imp.go xlp88_7 (by omega))); (try (have i_xlp88_3 := Imp.go xlp88_3 (by omega))); (try (have i_xlp88_2 := Imp.go xlp88_2 (by omega))); (try (have i_xlp88_2 := Imp.go xlp88_2 (by omega))); (try (have i_xlp88_3 := Imp.go xlp88_3 (by omega))); (try (have i_xlp88_7 := Imp.go xlp88_7 (by omega))); (try (have i_t152 := Imp.go t152 (by omega))); omega)))) (Imp.mk (fun hp => have hp : (V159 0 8).toInt = 0 := hp; (show (V159 0 48).toInt ≤ 2 * (V159 0 7).toInt from by first | omega | ((try (have i_t152 := Imp.go t152 (by omega))); (try (have i_xlp88_7 := Imp.go xlp88_7 (by omega))); (try (have i_xlp88_3 := Imp.go xlp88_3 (by omega))); (try (have i_xlp88_2 := Imp.go xlp88_2 (by omega))); (try (have i_xlp88_2 := Imp.go xlp88_2 (by omega))); (try (have i_xlp88_3 := Imp.go xlp88_3 (by omega))); (try (have i_xlp88_7 := Imp.go xlp88_7 (by omega))); (try (have i_t152 := Imp.go t152 (by omega))); omega)))) (show (V159 0 48).toInt ≤ 8120 from by first | omega | ((try (have i_t152 := Imp.go t152 (by omega))); (try (have i_xlp88_7 := Imp.go xlp88_7 (by omega))); (try (have i_xlp88_3 := Imp.go xlp88_3 (by omega))); (try (have i_xlp88_2 := Imp.go xlp88_2 (by omega))); (try (have i_xlp88_2 := Imp.go xlp88_2 (by omega))); (try (have i_xlp88_3 := Imp.go xlp88_3 (by omega))); (try (have i_xlp88_7 := Imp.go xlp88_7 (by omega))); (try (have i_t152 := Imp.go t152 (by omega))); omega)) (show (V159 0 51).toInt = z5.toInt from by first | omega | ((try (have i_t152 := Imp.go t152 (by omega))); (try (have i_xlp88_7 := Imp.go xlp88_7 (by omega))); (try (have i_xlp88_3 := Imp.go xlp88_3 (by omega))); (try (have i_xlp88_2 := Imp.go xlp88_2 (by omega))); (try (have i_xlp88_2 := Imp.go xlp88_2 (by omega))); (try (have i_xlp88_3 := Imp.go xlp88_3 (by omega))); (try (have i_xlp88_7 := Imp.go xlp88_7 (by omega))); (try (have i_t152 := Imp.go t152 (by omega))); omega)) (show (V159 0 52).toInt = 0 from by first | omega | ((try (have i_t152 := Imp.go t152 (by omega))); (try (have i_xlp88_7 := Imp.go xlp88_7 (by omega))); (try (have i_xlp88_3 := Imp.go xlp88_3 (by omega))); (try (have i_xlp88_2 := Imp.go xlp88_2 (by omega))); (try (have i_xlp88_2 := Imp.go xlp88_2 (by omega))); (try (have i_xlp88_3 := Imp.go xlp88_3 (by omega))); (try (have i_xlp88_7 := Imp.go xlp88_7 (by omega))); (try (have i_t152 := Imp.go t152 (by omega))); omega)) (Imp.mk (fun hp => have hp : 1 ≤ (V70 0 8).toInt := hp; (show (V159 0 8).toInt = (V70 0 8).toInt from by first | omega | ((try (have i_t152 := Imp.go t152 (by omega))); (try (have i_xlp88_7 := Imp.go xlp88_7 (by omega))); (try (have i_xlp88_3 := Imp.go xlp88_3 (by omega))); (try (have i_xlp88_2 := Imp.go xlp88_2 (by omega))); (try (have i_xlp88_2 := Imp.go xlp88_2 (by omega))); (try (have i_xlp88_3 := Imp.go xlp88_3 (by omega))); (try (have i_xlp88_7 := Imp.go xlp88_7 (by omega))); (try (have i_t152 := Imp.go t152 (by omega))); omega)))) rw182 rw183 rw184 rw185 rw186 rw187 (by first | omega | ((try (have i_t152 := Imp.go t152 (by omega))); (try (have i_xlp88_7 := Imp.go xlp88_7 (by omega))); (try (have i_xlp88_3 := Imp.go xlp88_3 (by omega))); (try (have i_xlp88_2 := Imp.go xlp88_2 (by omega))); (try (have i_xlp88_2 := Imp.go xlp88_2 (by omega))); (try (have i_xlp88_3 := Imp.go xlp88_3 (by omega))); (try (have i_xlp88_7 := Imp.go xlp88_7 (by omega))); (try (have i_t152 := Imp.go t152 (by omega))); omega)) alL160 (agr.tr (agr.tr agr.rf ajV85 (by decide) (by decide)) ajV159 (by decide) (by decide)) hMV159 hP hD hS (lv_sub hl [0, 1, 2, 3] rfl)
                                · skip
                                  refine va_get (D := D) (ci := 12) (v := .int (V85 0 8)) (C := RX12) (T := TX12) (N := 100) hx hb hg inX12 hown hK hP 0 rfl rfl 8 (by decide) (hg _ w1714) (fun _ h9 => h9) rfl dX12_toldComponent_300 ?_
                                  refine lv_if_ne (tgt := 323) hx hb dX12_toldComponent_303 (by decide) (fun c188 => ?_) (fun c188 => ?_)
                                  · skip
                                    have f189 : ((V85 0 8)).toInt ≠ 0 := b_neq rfl (by decide) c188
                                    refine lv_aload_n hx hb dX12_toldComponent_323 rfl (lv_at hl 3 rfl) ?_
                                    refine lv_bipush (v := 125) hx hb dX12_toldComponent_324 (by decide) ?_
                                    have r190 : Int32.toInt 125 = 125 := by decide
                                    refine gA_void (gA_runV (As := [.int 125]) (rest := []) (ci := 12) (q0 := 0) hx hb hml hown hg hP hD hK hS hA hnw hgk (s_takeSignB l D ks H.size ad kk V85 L86 125 hMV85 (show 1 ≤ (V85 0 8).toInt from by first | omega | ((try (have i_xlp88_7 := Imp.go xlp88_7 (by omega))); (try (have i_xlp88_3 := Imp.go xlp88_3 (by omega))); (try (have i_xlp88_2 := Imp.go xlp88_2 (by omega))); (try (have i_xlp88_2 := Imp.go xlp88_2 (by omega))); (try (have i_xlp88_3 := Imp.go xlp88_3 (by omega))); (try (have i_xlp88_7 := Imp.go xlp88_7 (by omega))); omega))) w2075 w2077 w96 w172 w2078 rfl rfl hdV_yX12_takeSign ⟨Nat.le_of_ble_eq_true rfl, Nat.le_of_ble_eq_true rfl⟩ rfl hl.1 rfl (Nat.le_of_ble_eq_true rfl) dX12_toldComponent_326 ⟨Nat.le_of_ble_eq_true rfl, Nat.le_of_ble_eq_true rfl⟩) hP hD hK hS hA (fun u192 H locs w193 hP hD hK hS => ?_)
                                    obtain ⟨V195, L196⟩ := u192
                                    obtain ⟨hMV195, ajV195, axL196, t194⟩ := w193
                                    have axL196 : L86 = L196 := Eq.symm axL196
                                    subst axL196
                                    have hP : va_P D vwCl (mw ad kk ks.1 V195 L86) H := hP
                                    have hD : va_D A (mw ad kk ks.1 V195 L86) := hD
                                    have hMV195 : rgd bM V195 := hMV195
                                    have ajV195 : agr [(0, 7), (0, 8)] [] V85 V195 := ajV195
                                    have agV195 : agr [(0, 7), (0, 8), (0, 48), (0, 50), (0, 51), (0, 52)] [15, 19, 20, 21, 22, 23, 24, 25, 26, 27, 28, 29, 30, 31, 32, 33, 34, 35, 36, 37, 38, 45, 46, 47, 53] V V195 := agV85.tr ajV195 (by decide) (by decide)
                                    have t194 : (V195 0 8).toInt = (V85 0 8).toInt := t194
                                    have r197 : 0 ≤ ((V195 0 8)).toInt ∧ ((V195 0 8)).toInt ≤ 70000 := hMV195 0 8
                                    refine lv_aload_n hx hb dX12_toldComponent_329 rfl (lv_at hl 3 rfl) ?_
                                    refine va_get (D := D) (ci := 12) (v := .int (V195 0 8)) (C := RX12) (T := TX12) (N := 100) hx hb hg inX12 hown hK hP 0 rfl rfl 8 (by decide) (hg _ w1714) (fun _ h9 => h9) rfl dX12_toldComponent_330 ?_
                                    refine lv_if_le (tgt := 337) hx hb dX12_toldComponent_333 (by decide) (fun c198 => ?_) (fun c198 => ?_)
                                    · skip
                                      have f199 : ((V195 0 8)).toInt ≤ 0 := b_le rfl (by decide) c198
                                      exfalso; first | omega | ((try (have i_xlp88_7 := Imp.go xlp88_7 (by omega))); (try (have i_xlp88_3 := Imp.go xlp88_3 (by omega))); (try (have i_xlp88_2 := Imp.go xlp88_2 (by omega))); (try (have i_xlp88_2 := Imp.go xlp88_2 (by omega))); (try (have i_xlp88_3 := Imp.go xlp88_3 (by omega))); (try (have i_xlp88_7 := Imp.go xlp88_7 (by omega))); omega)
                                    · skip
                                      have f200 : 0 < ((V195 0 8)).toInt := b_nle rfl (by decide) c198
                                      have pq201 : (V195 0 48).toInt = ((V85 0 48)).toInt := congrArg Int32.toInt (ajV195 0 48 rfl)
                                      have pq202 : (V195 0 12).toInt = ((V 0 12)).toInt := congrArg Int32.toInt ((ajV195 0 12 rfl).trans ((ajV85 0 12 rfl).trans ((ajV70 0 12 rfl).trans ((up2_k hV63 (by decide)).trans ((up2_k hV62 (by decide)).trans ((up2_o hV61 (by decide)).trans ((up2_o hV60 (by decide)).trans ((up2_o hV59 (by decide)).trans ((ajV53 0 12 rfl).trans ((ajV47 0 12 rfl).trans ((ajV42 0 12 rfl).trans ((ajV29 0 12 rfl).trans (ajV13 0 12 rfl)))))))))))))
                                      have rw203 : RoV 19 bq V V195 := (fun k hk => ((ajV195 19 k rfl).trans (xlp88_8 k hk)))
                                      have rw204 : RoV 35 bq V V195 := (fun k hk => ((ajV195 35 k rfl).trans (xlp88_9 k hk)))
                                      have rw205 : RoV 37 bq V V195 := (fun k hk => ((ajV195 37 k rfl).trans (xlp88_10 k hk)))
                                      have rw206 : RoL 20 24 bq L L86 := (fun k hk => (xlp88_11 k hk))
                                      have rw207 : RoL 36 20 bq L L86 := (fun k hk => (xlp88_12 k hk))
                                      have rw208 : RoL 38 20 bq L L86 := (fun k hk => (xlp88_13 k hk))
                                      exact W.vret hx hb hr (fun t ht hW => ⟨⟨(V195, L86), rfl, ⟨hMV195, agV195, alL86, (Imp.mk (fun hp => have hp : (V195 0 8).toInt = 0 := hp; (show (V195 0 48).toInt ≤ 2 * (V195 0 7).toInt from by first | omega | ((try (have i_xlp88_7 := Imp.go xlp88_7 (by omega))); (try (have i_xlp88_3 := Imp.go xlp88_3 (by omega))); (try (have i_xlp88_2 := Imp.go xlp88_2 (by omega))); (try (have i_xlp88_2 := Imp.go xlp88_2 (by omega))); (try (have i_xlp88_3 := Imp.go xlp88_3 (by omega))); (try (have i_xlp88_7 := Imp.go xlp88_7 (by omega))); omega)))), (show (V195 0 48).toInt ≤ 8200 from by first | omega | ((try (have i_xlp88_7 := Imp.go xlp88_7 (by omega))); (try (have i_xlp88_3 := Imp.go xlp88_3 (by omega))); (try (have i_xlp88_2 := Imp.go xlp88_2 (by omega))); (try (have i_xlp88_2 := Imp.go xlp88_2 (by omega))); (try (have i_xlp88_3 := Imp.go xlp88_3 (by omega))); (try (have i_xlp88_7 := Imp.go xlp88_7 (by omega))); omega)), (show (V195 0 12).toInt = (V 0 12).toInt from by first | omega | ((try (have i_xlp88_7 := Imp.go xlp88_7 (by omega))); (try (have i_xlp88_3 := Imp.go xlp88_3 (by omega))); (try (have i_xlp88_2 := Imp.go xlp88_2 (by omega))); (try (have i_xlp88_2 := Imp.go xlp88_2 (by omega))); (try (have i_xlp88_3 := Imp.go xlp88_3 (by omega))); (try (have i_xlp88_7 := Imp.go xlp88_7 (by omega))); omega)), (Or.inr ⟨(show 1 ≤ (V195 0 8).toInt from by omega), (fun k => by rw [show (V195 0 8).toInt = (V85 0 8).toInt from by omega]; exact hq k)⟩), rw203, rw204, rw205, rw206, rw207, rw208⟩, by rw [ht]; exact hP, va_K.moved hW.alike hK, hD⟩, hS.F ht⟩) hS.2.2 dX12_toldComponent_336
                                  · skip
                                    have f209 : ((V85 0 8)).toInt = 0 := b_eq rfl (by decide) c188
                                    exfalso; first | omega | ((try (have i_xlp88_7 := Imp.go xlp88_7 (by omega))); (try (have i_xlp88_3 := Imp.go xlp88_3 (by omega))); (try (have i_xlp88_2 := Imp.go xlp88_2 (by omega))); (try (have i_xlp88_2 := Imp.go xlp88_2 (by omega))); (try (have i_xlp88_3 := Imp.go xlp88_3 (by omega))); (try (have i_xlp88_7 := Imp.go xlp88_7 (by omega))); omega)
                            have pq210 : (V70 0 48).toInt = ((V 0 48)).toInt := congrArg Int32.toInt ((ajV70 0 48 rfl).trans ((up2_k hV63 (by decide)).trans ((up2_k hV62 (by decide)).trans ((up2_o hV61 (by decide)).trans ((up2_o hV60 (by decide)).trans ((up2_o hV59 (by decide)).trans ((ajV53 0 48 rfl).trans ((ajV47 0 48 rfl).trans ((ajV42 0 48 rfl).trans ((ajV29 0 48 rfl).trans (ajV13 0 48 rfl)))))))))))
                            have pq211 : (V70 0 51).toInt = z5.toInt := congrArg Int32.toInt ((ajV70 0 51 rfl).trans ((up2_k hV63 (by decide)).trans (up2_s hV62)))
                            have pq212 : (V70 0 52).toInt = 0 := (congrArg Int32.toInt ((ajV70 0 52 rfl).trans (up2_s hV63))).trans (by decide)
                            have rw213 : RoV 19 bq V V70 := (fun k hk => ((ajV70 19 k rfl).trans ((up2_o hV63 (by decide)).trans ((up2_o hV62 (by decide)).trans ((up2_o hV61 (by decide)).trans ((up2_o hV60 (by decide)).trans ((up2_o hV59 (by decide)).trans (xJ52_4 k hk))))))))
                            have rw214 : RoV 35 bq V V70 := (fun k hk => ((ajV70 35 k rfl).trans ((up2_o hV63 (by decide)).trans ((up2_o hV62 (by decide)).trans ((up2_o hV61 (by decide)).trans ((up2_o hV60 (by decide)).trans ((up2_o hV59 (by decide)).trans (xJ52_5 k hk))))))))
                            have rw215 : RoV 37 bq V V70 := (fun k hk => ((ajV70 37 k rfl).trans ((up2_o hV63 (by decide)).trans ((up2_o hV62 (by decide)).trans ((up2_o hV61 (by decide)).trans ((up2_o hV60 (by decide)).trans ((up2_o hV59 (by decide)).trans (xJ52_6 k hk))))))))
                            have rw216 : RoL 20 24 bq L L54 := (fun k hk => (xJ52_7 k hk))
                            have rw217 : RoL 36 20 bq L L54 := (fun k hk => (xJ52_8 k hk))
                            have rw218 : RoL 38 20 bq L L54 := (fun k hk => (xJ52_9 k hk))
                            exact lp88 ((((gn : Int) + 1) + 1 : Int).toNat) ((gn : Int) + 1) V70 L54 H locs ls (Or.inl ⟨W0 rl80, (sA (nx s1 1) 2 wx32), hr81, rl80, gp7, ow82, tb7, wr7⟩) (show 0 ≤ ((gn : Int) + 1) from by omega) (Imp.mk (fun hp => have hp : (V70 0 8).toInt = 0 := hp; (show (gn : Int) - (V70 0 7).toInt < ((gn : Int) + 1) from by omega))) (Imp.mk (fun hp => have hp : (V70 0 8).toInt = 0 := hp; (show (V70 0 48).toInt ≤ 2 * (V70 0 7).toInt from by omega))) (show (V70 0 48).toInt ≤ 8120 from by omega) (show (V70 0 51).toInt = z5.toInt from by omega) (show (V70 0 52).toInt = 0 from by omega) (Imp.mk (fun hp => have hp : 1 ≤ (V70 0 8).toInt := hp; (show (V70 0 8).toInt = (V70 0 8).toInt from by omega))) rw213 rw214 rw215 rw216 rw217 rw218 (by omega) alL54 agr.rf hMV70 hP hD hS (lv_sub hl [0, 1, 2, 3] rfl)
                          · skip
                            have kd219 : gT.1 (s1.1 0) ≠ 123 := fun h9 => h73 (h9.trans (by decide))
                            have hb220 : ∀ k, Rc gT (Crun gs (Istmt :: k)) (Cbad (V70 0 8).toInt) := fun k => Rc.go1 (h1 k) ((tk_n kd219).trans (fl_eq rfl rl74))
                            have r221 : 0 ≤ ((V70 0 8)).toInt ∧ ((V70 0 8)).toInt ≤ 70000 := hMV70 0 8
                            have lp225 : ∀ (fulp225 : Nat) (g224 : Int) (V222 : Vf) (L223 : Lf) (H : Heap) (locs : List Loc) (ls : Array Slot), (((V222 0 8).toInt = 0 ∧ ∃ s1 : St, (∀ k, Rc gT (Crun gs (Istmt :: k)) (Crun s1 (Imember :: k))) ∧ RelM V222 L223 bq gn gT s1 (gs.2.1 2) ∧ gs.1 0 + 1 ≤ s1.1 0 ∧ OWm V222 gc s1 ∧ s1.2.1 2 = gs.2.1 2 ++ [wx32] ∧ s1.2.2.1 = gs.2.2.1) ∨ (1 ≤ (V222 0 8).toInt ∧ ∀ k, Rc gT (Crun gs (Istmt :: k)) (Cbad (V222 0 8).toInt))) → 0 ≤ g224 → Imp ((V222 0 8).toInt = 0) ((gn : Int) - (V222 0 7).toInt < g224) → Imp ((V222 0 8).toInt = 0) ((V222 0 48).toInt ≤ 2 * (V222 0 7).toInt) → (V222 0 48).toInt ≤ 8120 → (V222 0 51).toInt = z5.toInt → (V222 0 52).toInt = 0 → Imp (1 ≤ (V70 0 8).toInt) ((V222 0 8).toInt = (V70 0 8).toInt) → (RoV 19 bq V V222) → (RoV 35 bq V V222) → (RoV 37 bq V V222) → (RoL 20 24 bq L L223) → (RoL 36 20 bq L L223) → (RoL 38 20 bq L L223) → g224 < (fulp225 : Int) → agL [15, 19, 20, 21, 22, 23, 24, 25, 26, 27, 28, 29, 30, 31, 32, 33, 34, 35, 36, 37, 38, 45, 46, 47, 53] L L223 → agr [(0, 7), (0, 8), (0, 48), (0, 50)] [27, 28, 29, 30, 31, 32, 33, 34, 35, 36, 37, 38, 45, 46, 47] V70 V222 → rgd bM V222 → va_P D vwCl (mw ad kk ks.1 V222 L223) H → va_D A (mw ad kk ks.1 V222 L223) → va_S A s.heap H locs → lv_has ls 5 [(4, .int y46), (2, .long z25), (1, .int z5), (0, .ref (ad 0))] → W p l e r_s_toldComponentA s m ([.ref (ad 0)] : List Value).toArray below meth c H locs 0 0 (MQ below (q_s_toldComponentA D ks ad kk V L  bq gn gT gs A) ([.ref (ad 0)] : List Value).toArray s 0 0 A) (F0 m 299 ls []) := by
                              (try clear hb220); (try clear kd219); (try clear rl64); (try clear fz57); (try clear fz39); (try clear ps38); (try clear hr37); (try clear fz21); (try clear ps20); (try clear hr19); (try clear hr18)
                              intro fulp225
                              induction fulp225 with
                              | zero =>
                                intro g224 V222 L223 H locs ls xlp225_0 xlp225_1 xlp225_2 xlp225_3 xlp225_4 xlp225_5 xlp225_6 xlp225_7 xlp225_8 xlp225_9 xlp225_10 xlp225_11 xlp225_12 xlp225_13 hn alL223 ajV222 hMV222 hP hD hS hl
                                exfalso; omega
                              | succ fulp225 ihlp225 =>
                                intro g224 V222 L223 H locs ls xlp225_0 xlp225_1 xlp225_2 xlp225_3 xlp225_4 xlp225_5 xlp225_6 xlp225_7 xlp225_8 xlp225_9 xlp225_10 xlp225_11 xlp225_12 xlp225_13 hn alL223 ajV222 hMV222 hP hD hS hl
                                have agV222 : agr [(0, 7), (0, 8), (0, 48), (0, 50), (0, 51), (0, 52)] [15, 19, 20, 21, 22, 23, 24, 25, 26, 27, 28, 29, 30, 31, 32, 33, 34, 35, 36, 37, 38, 45, 46, 47, 53] V V222 := agV70.tr ajV222 (by decide) (by decide)
                                have r226 : 0 ≤ ((V222 0 8)).toInt ∧ ((V222 0 8)).toInt ≤ 70000 := hMV222 0 8
                                have r227 : 0 ≤ ((V222 0 48)).toInt ∧ ((V222 0 48)).toInt ≤ 10000 := hMV222 0 48
                                have pq228 : (V222 0 51).toInt = z5.toInt := congrArg Int32.toInt ((ajV222 0 51 rfl).trans ((ajV70 0 51 rfl).trans ((up2_k hV63 (by decide)).trans (up2_s hV62))))
                                have pq229 : (V222 0 52).toInt = 0 := (congrArg Int32.toInt ((ajV222 0 52 rfl).trans ((ajV70 0 52 rfl).trans (up2_s hV63)))).trans (by decide)
                                refine lv_aload_n hx hb dX12_toldComponent_299 rfl (lv_at hl 3 rfl) ?_
                                rcases xlp225_0 with ⟨f8, s1, hq, rq, gq1, oq, tq, wq⟩ | ⟨f8, hq⟩
                                · skip
                                  exfalso; first | omega | ((try (have i_xlp225_7 := Imp.go xlp225_7 (by omega))); (try (have i_xlp225_3 := Imp.go xlp225_3 (by omega))); (try (have i_xlp225_2 := Imp.go xlp225_2 (by omega))); (try (have i_xlp225_2 := Imp.go xlp225_2 (by omega))); (try (have i_xlp225_3 := Imp.go xlp225_3 (by omega))); (try (have i_xlp225_7 := Imp.go xlp225_7 (by omega))); omega)
                                · skip
                                  refine va_get (D := D) (ci := 12) (v := .int (V222 0 8)) (C := RX12) (T := TX12) (N := 100) hx hb hg inX12 hown hK hP 0 rfl rfl 8 (by decide) (hg _ w1714) (fun _ h9 => h9) rfl dX12_toldComponent_300 ?_
                                  refine lv_if_ne (tgt := 323) hx hb dX12_toldComponent_303 (by decide) (fun c230 => ?_) (fun c230 => ?_)
                                  · skip
                                    have f231 : ((V222 0 8)).toInt ≠ 0 := b_neq rfl (by decide) c230
                                    refine lv_aload_n hx hb dX12_toldComponent_323 rfl (lv_at hl 3 rfl) ?_
                                    refine lv_bipush (v := 125) hx hb dX12_toldComponent_324 (by decide) ?_
                                    have r232 : Int32.toInt 125 = 125 := by decide
                                    refine gA_void (gA_runV (As := [.int 125]) (rest := []) (ci := 12) (q0 := 0) hx hb hml hown hg hP hD hK hS hA hnw hgk (s_takeSignB l D ks H.size ad kk V222 L223 125 hMV222 (show 1 ≤ (V222 0 8).toInt from by first | omega | ((try (have i_xlp225_7 := Imp.go xlp225_7 (by omega))); (try (have i_xlp225_3 := Imp.go xlp225_3 (by omega))); (try (have i_xlp225_2 := Imp.go xlp225_2 (by omega))); (try (have i_xlp225_2 := Imp.go xlp225_2 (by omega))); (try (have i_xlp225_3 := Imp.go xlp225_3 (by omega))); (try (have i_xlp225_7 := Imp.go xlp225_7 (by omega))); omega))) w2075 w2077 w96 w172 w2078 rfl rfl hdV_yX12_takeSign ⟨Nat.le_of_ble_eq_true rfl, Nat.le_of_ble_eq_true rfl⟩ rfl hl.1 rfl (Nat.le_of_ble_eq_true rfl) dX12_toldComponent_326 ⟨Nat.le_of_ble_eq_true rfl, Nat.le_of_ble_eq_true rfl⟩) hP hD hK hS hA (fun u234 H locs w235 hP hD hK hS => ?_)
                                    obtain ⟨V237, L238⟩ := u234
                                    obtain ⟨hMV237, ajV237, axL238, t236⟩ := w235
                                    have axL238 : L223 = L238 := Eq.symm axL238
                                    subst axL238
                                    have hP : va_P D vwCl (mw ad kk ks.1 V237 L223) H := hP
                                    have hD : va_D A (mw ad kk ks.1 V237 L223) := hD
                                    have hMV237 : rgd bM V237 := hMV237
                                    have ajV237 : agr [(0, 7), (0, 8)] [] V222 V237 := ajV237
                                    have agV237 : agr [(0, 7), (0, 8), (0, 48), (0, 50), (0, 51), (0, 52)] [15, 19, 20, 21, 22, 23, 24, 25, 26, 27, 28, 29, 30, 31, 32, 33, 34, 35, 36, 37, 38, 45, 46, 47, 53] V V237 := agV222.tr ajV237 (by decide) (by decide)
                                    have t236 : (V237 0 8).toInt = (V222 0 8).toInt := t236
                                    have r239 : 0 ≤ ((V237 0 8)).toInt ∧ ((V237 0 8)).toInt ≤ 70000 := hMV237 0 8
                                    refine lv_aload_n hx hb dX12_toldComponent_329 rfl (lv_at hl 3 rfl) ?_
                                    refine va_get (D := D) (ci := 12) (v := .int (V237 0 8)) (C := RX12) (T := TX12) (N := 100) hx hb hg inX12 hown hK hP 0 rfl rfl 8 (by decide) (hg _ w1714) (fun _ h9 => h9) rfl dX12_toldComponent_330 ?_
                                    refine lv_if_le (tgt := 337) hx hb dX12_toldComponent_333 (by decide) (fun c240 => ?_) (fun c240 => ?_)
                                    · skip
                                      have f241 : ((V237 0 8)).toInt ≤ 0 := b_le rfl (by decide) c240
                                      exfalso; first | omega | ((try (have i_xlp225_7 := Imp.go xlp225_7 (by omega))); (try (have i_xlp225_3 := Imp.go xlp225_3 (by omega))); (try (have i_xlp225_2 := Imp.go xlp225_2 (by omega))); (try (have i_xlp225_2 := Imp.go xlp225_2 (by omega))); (try (have i_xlp225_3 := Imp.go xlp225_3 (by omega))); (try (have i_xlp225_7 := Imp.go xlp225_7 (by omega))); omega)
                                    · skip
                                      have f242 : 0 < ((V237 0 8)).toInt := b_nle rfl (by decide) c240
                                      have pq243 : (V237 0 48).toInt = ((V222 0 48)).toInt := congrArg Int32.toInt (ajV237 0 48 rfl)
                                      have pq244 : (V237 0 12).toInt = ((V 0 12)).toInt := congrArg Int32.toInt ((ajV237 0 12 rfl).trans ((ajV222 0 12 rfl).trans ((ajV70 0 12 rfl).trans ((up2_k hV63 (by decide)).trans ((up2_k hV62 (by decide)).trans ((up2_o hV61 (by decide)).trans ((up2_o hV60 (by decide)).trans ((up2_o hV59 (by decide)).trans ((ajV53 0 12 rfl).trans ((ajV47 0 12 rfl).trans ((ajV42 0 12 rfl).trans ((ajV29 0 12 rfl).trans (ajV13 0 12 rfl)))))))))))))
                                      have rw245 : RoV 19 bq V V237 := (fun k hk => ((ajV237 19 k rfl).trans (xlp225_8 k hk)))
                                      have rw246 : RoV 35 bq V V237 := (fun k hk => ((ajV237 35 k rfl).trans (xlp225_9 k hk)))
                                      have rw247 : RoV 37 bq V V237 := (fun k hk => ((ajV237 37 k rfl).trans (xlp225_10 k hk)))
                                      have rw248 : RoL 20 24 bq L L223 := (fun k hk => (xlp225_11 k hk))
                                      have rw249 : RoL 36 20 bq L L223 := (fun k hk => (xlp225_12 k hk))
                                      have rw250 : RoL 38 20 bq L L223 := (fun k hk => (xlp225_13 k hk))
                                      exact W.vret hx hb hr (fun t ht hW => ⟨⟨(V237, L223), rfl, ⟨hMV237, agV237, alL223, (Imp.mk (fun hp => have hp : (V237 0 8).toInt = 0 := hp; (show (V237 0 48).toInt ≤ 2 * (V237 0 7).toInt from by first | omega | ((try (have i_xlp225_7 := Imp.go xlp225_7 (by omega))); (try (have i_xlp225_3 := Imp.go xlp225_3 (by omega))); (try (have i_xlp225_2 := Imp.go xlp225_2 (by omega))); (try (have i_xlp225_2 := Imp.go xlp225_2 (by omega))); (try (have i_xlp225_3 := Imp.go xlp225_3 (by omega))); (try (have i_xlp225_7 := Imp.go xlp225_7 (by omega))); omega)))), (show (V237 0 48).toInt ≤ 8200 from by first | omega | ((try (have i_xlp225_7 := Imp.go xlp225_7 (by omega))); (try (have i_xlp225_3 := Imp.go xlp225_3 (by omega))); (try (have i_xlp225_2 := Imp.go xlp225_2 (by omega))); (try (have i_xlp225_2 := Imp.go xlp225_2 (by omega))); (try (have i_xlp225_3 := Imp.go xlp225_3 (by omega))); (try (have i_xlp225_7 := Imp.go xlp225_7 (by omega))); omega)), (show (V237 0 12).toInt = (V 0 12).toInt from by first | omega | ((try (have i_xlp225_7 := Imp.go xlp225_7 (by omega))); (try (have i_xlp225_3 := Imp.go xlp225_3 (by omega))); (try (have i_xlp225_2 := Imp.go xlp225_2 (by omega))); (try (have i_xlp225_2 := Imp.go xlp225_2 (by omega))); (try (have i_xlp225_3 := Imp.go xlp225_3 (by omega))); (try (have i_xlp225_7 := Imp.go xlp225_7 (by omega))); omega)), (Or.inr ⟨(show 1 ≤ (V237 0 8).toInt from by omega), (fun k => by rw [show (V237 0 8).toInt = (V222 0 8).toInt from by omega]; exact hq k)⟩), rw245, rw246, rw247, rw248, rw249, rw250⟩, by rw [ht]; exact hP, va_K.moved hW.alike hK, hD⟩, hS.F ht⟩) hS.2.2 dX12_toldComponent_336
                                  · skip
                                    have f251 : ((V222 0 8)).toInt = 0 := b_eq rfl (by decide) c230
                                    exfalso; first | omega | ((try (have i_xlp225_7 := Imp.go xlp225_7 (by omega))); (try (have i_xlp225_3 := Imp.go xlp225_3 (by omega))); (try (have i_xlp225_2 := Imp.go xlp225_2 (by omega))); (try (have i_xlp225_2 := Imp.go xlp225_2 (by omega))); (try (have i_xlp225_3 := Imp.go xlp225_3 (by omega))); (try (have i_xlp225_7 := Imp.go xlp225_7 (by omega))); omega)
                            have pq252 : (V70 0 48).toInt = ((V 0 48)).toInt := congrArg Int32.toInt ((ajV70 0 48 rfl).trans ((up2_k hV63 (by decide)).trans ((up2_k hV62 (by decide)).trans ((up2_o hV61 (by decide)).trans ((up2_o hV60 (by decide)).trans ((up2_o hV59 (by decide)).trans ((ajV53 0 48 rfl).trans ((ajV47 0 48 rfl).trans ((ajV42 0 48 rfl).trans ((ajV29 0 48 rfl).trans (ajV13 0 48 rfl)))))))))))
                            have pq253 : (V70 0 51).toInt = z5.toInt := congrArg Int32.toInt ((ajV70 0 51 rfl).trans ((up2_k hV63 (by decide)).trans (up2_s hV62)))
                            have pq254 : (V70 0 52).toInt = 0 := (congrArg Int32.toInt ((ajV70 0 52 rfl).trans (up2_s hV63))).trans (by decide)
                            have rw255 : RoV 19 bq V V70 := (fun k hk => ((ajV70 19 k rfl).trans ((up2_o hV63 (by decide)).trans ((up2_o hV62 (by decide)).trans ((up2_o hV61 (by decide)).trans ((up2_o hV60 (by decide)).trans ((up2_o hV59 (by decide)).trans (xJ52_4 k hk))))))))
                            have rw256 : RoV 35 bq V V70 := (fun k hk => ((ajV70 35 k rfl).trans ((up2_o hV63 (by decide)).trans ((up2_o hV62 (by decide)).trans ((up2_o hV61 (by decide)).trans ((up2_o hV60 (by decide)).trans ((up2_o hV59 (by decide)).trans (xJ52_5 k hk))))))))
                            have rw257 : RoV 37 bq V V70 := (fun k hk => ((ajV70 37 k rfl).trans ((up2_o hV63 (by decide)).trans ((up2_o hV62 (by decide)).trans ((up2_o hV61 (by decide)).trans ((up2_o hV60 (by decide)).trans ((up2_o hV59 (by decide)).trans (xJ52_6 k hk))))))))
                            have rw258 : RoL 20 24 bq L L54 := (fun k hk => (xJ52_7 k hk))
                            have rw259 : RoL 36 20 bq L L54 := (fun k hk => (xJ52_8 k hk))
                            have rw260 : RoL 38 20 bq L L54 := (fun k hk => (xJ52_9 k hk))
                            exact lp225 ((((gn : Int) + 1) + 1 : Int).toNat) ((gn : Int) + 1) V70 L54 H locs ls (Or.inr ⟨(show 1 ≤ (V70 0 8).toInt from by omega), hb220⟩) (show 0 ≤ ((gn : Int) + 1) from by omega) (Imp.mk (fun hp => have hp : (V70 0 8).toInt = 0 := hp; (show (gn : Int) - (V70 0 7).toInt < ((gn : Int) + 1) from by omega))) (Imp.mk (fun hp => have hp : (V70 0 8).toInt = 0 := hp; (show (V70 0 48).toInt ≤ 2 * (V70 0 7).toInt from by omega))) (show (V70 0 48).toInt ≤ 8120 from by omega) (show (V70 0 51).toInt = z5.toInt from by omega) (show (V70 0 52).toInt = 0 from by omega) (Imp.mk (fun hp => have hp : 1 ≤ (V70 0 8).toInt := hp; (show (V70 0 8).toInt = (V70 0 8).toInt from by omega))) rw255 rw256 rw257 rw258 rw259 rw260 (by omega) alL54 agr.rf hMV70 hP hD hS (lv_sub hl [0, 1, 2, 3] rfl)
                        · skip
                          have r261 : 0 ≤ ((V53 0 8)).toInt ∧ ((V53 0 8)).toInt ≤ 70000 := hMV53 0 8
                          refine lv_aload_n hx hb dX12_toldComponent_262 rfl (lv_at hl 3 rfl) ?_
                          refine va_get (D := D) (ci := 12) (v := .ref (ad 27)) (C := RX12) (T := TX12) (N := 100) hx hb hg inX12 hown hK hP 0 rfl rfl 27 (by decide) (hg _ w1733) (fun _ h9 => h9) rfl dX12_toldComponent_263 ?_
                          refine lv_iload_n hx hb dX12_toldComponent_266 rfl (lv_at hl 2 rfl) ?_
                          refine lv_iconst (v := 0) hx hb dX12_toldComponent_267 (by decide) ?_
                          refine va_iast (D := D) (i := z5) (x := 0) hx hb hK hP hD hS 20 19 rfl rfl (i_in (a := z5.toInt) rfl (by omega)) dX12_toldComponent_268 (fun H locs hP hD hS => ?_)
                          obtain ⟨V262, hV262⟩ : ∃ z, z = up2 V53 27 (Int32.toNatClampNeg z5) 0 := ⟨_, rfl⟩
                          have hP : va_P D vwCl (mw ad kk ks.1 V262 L54) H := by rw [hV262]; exact hP
                          have hD : va_D A (mw ad kk ks.1 V262 L54) := by rw [hV262]; exact hD
                          have hMV262 : rgd bM V262 := hMV53.put hV262 (show 0 ≤ Int32.toInt 0 ∧ Int32.toInt 0 ≤ 8 from by decide)
                          have agV262 : agr [(0, 7), (0, 8), (0, 48), (0, 50), (0, 51), (0, 52)] [15, 19, 20, 21, 22, 23, 24, 25, 26, 27, 28, 29, 30, 31, 32, 33, 34, 35, 36, 37, 38, 45, 46, 47, 53] V V262 := agV53.up hV262 rfl
                          refine lv_aload_n hx hb dX12_toldComponent_269 rfl (lv_at hl 3 rfl) ?_
                          refine va_get (D := D) (ci := 12) (v := .ref (ad 32)) (C := RX12) (T := TX12) (N := 100) hx hb hg inX12 hown hK hP 0 rfl rfl 32 (by decide) (hg _ w1738) (fun _ h9 => h9) rfl dX12_toldComponent_270 ?_
                          refine lv_iload_n hx hb dX12_toldComponent_273 rfl (lv_at hl 2 rfl) ?_
                          refine lv_iconst (v := (-1)) hx hb dX12_toldComponent_274 (by decide) ?_
                          refine va_iast (D := D) (i := z5) (x := (-1)) hx hb hK hP hD hS 25 24 rfl rfl (i_in (a := z5.toInt) rfl (by omega)) dX12_toldComponent_275 (fun H locs hP hD hS => ?_)
                          obtain ⟨V263, hV263⟩ : ∃ z, z = up2 V262 32 (Int32.toNatClampNeg z5) (-1) := ⟨_, rfl⟩
                          have hP : va_P D vwCl (mw ad kk ks.1 V263 L54) H := by rw [hV263]; exact hP
                          have hD : va_D A (mw ad kk ks.1 V263 L54) := by rw [hV263]; exact hD
                          have hMV263 : rgd bM V263 := hMV262.put hV263 (i_full _)
                          have agV263 : agr [(0, 7), (0, 8), (0, 48), (0, 50), (0, 51), (0, 52)] [15, 19, 20, 21, 22, 23, 24, 25, 26, 27, 28, 29, 30, 31, 32, 33, 34, 35, 36, 37, 38, 45, 46, 47, 53] V V263 := agV262.up hV263 rfl
                          refine lv_aload_n hx hb dX12_toldComponent_276 rfl (lv_at hl 3 rfl) ?_
                          refine va_get (D := D) (ci := 12) (v := .ref (ad 33)) (C := RX12) (T := TX12) (N := 100) hx hb hg inX12 hown hK hP 0 rfl rfl 33 (by decide) (hg _ w1739) (fun _ h9 => h9) rfl dX12_toldComponent_277 ?_
                          refine lv_iload_n hx hb dX12_toldComponent_280 rfl (lv_at hl 2 rfl) ?_
                          refine lv_iconst (v := (-1)) hx hb dX12_toldComponent_281 (by decide) ?_
                          refine va_iast (D := D) (i := z5) (x := (-1)) hx hb hK hP hD hS 26 25 rfl rfl (i_in (a := z5.toInt) rfl (by omega)) dX12_toldComponent_282 (fun H locs hP hD hS => ?_)
                          obtain ⟨V264, hV264⟩ : ∃ z, z = up2 V263 33 (Int32.toNatClampNeg z5) (-1) := ⟨_, rfl⟩
                          have hP : va_P D vwCl (mw ad kk ks.1 V264 L54) H := by rw [hV264]; exact hP
                          have hD : va_D A (mw ad kk ks.1 V264 L54) := by rw [hV264]; exact hD
                          have hMV264 : rgd bM V264 := hMV263.put hV264 (i_full _)
                          have agV264 : agr [(0, 7), (0, 8), (0, 48), (0, 50), (0, 51), (0, 52)] [15, 19, 20, 21, 22, 23, 24, 25, 26, 27, 28, 29, 30, 31, 32, 33, 34, 35, 36, 37, 38, 45, 46, 47, 53] V V264 := agV263.up hV264 rfl
                          refine lv_aload_n hx hb dX12_toldComponent_283 rfl (lv_at hl 3 rfl) ?_
                          refine lv_iload_n hx hb dX12_toldComponent_284 rfl (lv_at hl 2 rfl) ?_
                          refine va_put (D := D) (ci := 12) (v := .int z5) (ty := tyX12 51) (C := RX12) (T := TX12) (N := 100) hx hb hg inX12 tyX12 tyX12_ok nmX12 hown hK hP hD hS 0 rfl rfl 51 (by decide) (hg _ w1757) (fun _ h9 => h9) rfl (tyX12_ok 51 (by decide)) rfl rfl (Nat.le_of_ble_eq_true rfl) dX12_toldComponent_285 (fun H locs hP hD hS => ?_)
                          obtain ⟨V265, hV265⟩ : ∃ z, z = up2 V264 0 51 z5 := ⟨_, rfl⟩
                          have hP : va_P D vwCl (mw ad kk ks.1 V265 L54) H := by rw [hV265]; exact hP
                          have hD : va_D A (mw ad kk ks.1 V265 L54) := by rw [hV265]; exact hD
                          have hMV265 : rgd bM V265 := hMV264.put hV265 (show (-1) ≤ z5.toInt ∧ z5.toInt ≤ 47 from by omega)
                          have agV265 : agr [(0, 7), (0, 8), (0, 48), (0, 50), (0, 51), (0, 52)] [15, 19, 20, 21, 22, 23, 24, 25, 26, 27, 28, 29, 30, 31, 32, 33, 34, 35, 36, 37, 38, 45, 46, 47, 53] V V265 := agV264.up hV265 rfl
                          refine lv_aload_n hx hb dX12_toldComponent_288 rfl (lv_at hl 3 rfl) ?_
                          refine lv_iconst (v := 0) hx hb dX12_toldComponent_289 (by decide) ?_
                          refine va_put (D := D) (ci := 12) (v := .int 0) (ty := tyX12 52) (C := RX12) (T := TX12) (N := 100) hx hb hg inX12 tyX12 tyX12_ok nmX12 hown hK hP hD hS 0 rfl rfl 52 (by decide) (hg _ w1758) (fun _ h9 => h9) rfl (tyX12_ok 52 (by decide)) rfl rfl (Nat.le_of_ble_eq_true rfl) dX12_toldComponent_290 (fun H locs hP hD hS => ?_)
                          obtain ⟨V266, hV266⟩ : ∃ z, z = up2 V265 0 52 0 := ⟨_, rfl⟩
                          have hP : va_P D vwCl (mw ad kk ks.1 V266 L54) H := by rw [hV266]; exact hP
                          have hD : va_D A (mw ad kk ks.1 V266 L54) := by rw [hV266]; exact hD
                          have hMV266 : rgd bM V266 := hMV265.put hV266 (by decide)
                          have agV266 : agr [(0, 7), (0, 8), (0, 48), (0, 50), (0, 51), (0, 52)] [15, 19, 20, 21, 22, 23, 24, 25, 26, 27, 28, 29, 30, 31, 32, 33, 34, 35, 36, 37, 38, 45, 46, 47, 53] V V266 := agV265.up hV266 rfl
                          refine lv_aload_n hx hb dX12_toldComponent_293 rfl (lv_at hl 3 rfl) ?_
                          refine lv_bipush (v := 123) hx hb dX12_toldComponent_294 (by decide) ?_
                          have r267 : Int32.toInt 123 = 123 := by decide
                          have pq268 : (V266 0 8).toInt = ((V53 0 8)).toInt := congrArg Int32.toInt ((up2_k hV266 (by decide)).trans ((up2_k hV265 (by decide)).trans ((up2_o hV264 (by decide)).trans ((up2_o hV263 (by decide)).trans (up2_o hV262 (by decide))))))
                          refine gA_void (gA_runV (As := [.int 123]) (rest := []) (ci := 12) (q0 := 0) hx hb hml hown hg hP hD hK hS hA hnw hgk (s_takeSignB l D ks H.size ad kk V266 L54 123 hMV266 (show 1 ≤ (V266 0 8).toInt from by omega)) w2075 w2077 w96 w172 w2078 rfl rfl hdV_yX12_takeSign ⟨Nat.le_of_ble_eq_true rfl, Nat.le_of_ble_eq_true rfl⟩ rfl hl.1 rfl (Nat.le_of_ble_eq_true rfl) dX12_toldComponent_296 ⟨Nat.le_of_ble_eq_true rfl, Nat.le_of_ble_eq_true rfl⟩) hP hD hK hS hA (fun u270 H locs w271 hP hD hK hS => ?_)
                          obtain ⟨V273, L274⟩ := u270
                          obtain ⟨hMV273, ajV273, axL274, t272⟩ := w271
                          have axL274 : L54 = L274 := Eq.symm axL274
                          subst axL274
                          have hP : va_P D vwCl (mw ad kk ks.1 V273 L54) H := hP
                          have hD : va_D A (mw ad kk ks.1 V273 L54) := hD
                          have hMV273 : rgd bM V273 := hMV273
                          have ajV273 : agr [(0, 7), (0, 8)] [] V266 V273 := ajV273
                          have agV273 : agr [(0, 7), (0, 8), (0, 48), (0, 50), (0, 51), (0, 52)] [15, 19, 20, 21, 22, 23, 24, 25, 26, 27, 28, 29, 30, 31, 32, 33, 34, 35, 36, 37, 38, 45, 46, 47, 53] V V273 := agV266.tr ajV273 (by decide) (by decide)
                          have t272 : (V273 0 8).toInt = (V266 0 8).toInt := t272
                          have r275 : 0 ≤ ((V273 0 8)).toInt ∧ ((V273 0 8)).toInt ≤ 70000 := hMV273 0 8
                          have lp279 : ∀ (fulp279 : Nat) (g278 : Int) (V276 : Vf) (L277 : Lf) (H : Heap) (locs : List Loc) (ls : Array Slot), (((V276 0 8).toInt = 0 ∧ ∃ s1 : St, (∀ k, Rc gT (Crun gs (Istmt :: k)) (Crun s1 (Imember :: k))) ∧ RelM V276 L277 bq gn gT s1 (gs.2.1 2) ∧ gs.1 0 + 1 ≤ s1.1 0 ∧ OWm V276 gc s1 ∧ s1.2.1 2 = gs.2.1 2 ++ [wx32] ∧ s1.2.2.1 = gs.2.2.1) ∨ (1 ≤ (V276 0 8).toInt ∧ ∀ k, Rc gT (Crun gs (Istmt :: k)) (Cbad (V276 0 8).toInt))) → 0 ≤ g278 → Imp ((V276 0 8).toInt = 0) ((gn : Int) - (V276 0 7).toInt < g278) → Imp ((V276 0 8).toInt = 0) ((V276 0 48).toInt ≤ 2 * (V276 0 7).toInt) → (V276 0 48).toInt ≤ 8120 → (V276 0 51).toInt = z5.toInt → (V276 0 52).toInt = 0 → Imp (1 ≤ (V273 0 8).toInt) ((V276 0 8).toInt = (V273 0 8).toInt) → (RoV 19 bq V V276) → (RoV 35 bq V V276) → (RoV 37 bq V V276) → (RoL 20 24 bq L L277) → (RoL 36 20 bq L L277) → (RoL 38 20 bq L L277) → g278 < (fulp279 : Int) → agL [15, 19, 20, 21, 22, 23, 24, 25, 26, 27, 28, 29, 30, 31, 32, 33, 34, 35, 36, 37, 38, 45, 46, 47, 53] L L277 → agr [(0, 7), (0, 8), (0, 48), (0, 50)] [27, 28, 29, 30, 31, 32, 33, 34, 35, 36, 37, 38, 45, 46, 47] V273 V276 → rgd bM V276 → va_P D vwCl (mw ad kk ks.1 V276 L277) H → va_D A (mw ad kk ks.1 V276 L277) → va_S A s.heap H locs → lv_has ls 5 [(4, .int y46), (2, .long z25), (1, .int z5), (0, .ref (ad 0))] → W p l e r_s_toldComponentA s m ([.ref (ad 0)] : List Value).toArray below meth c H locs 0 0 (MQ below (q_s_toldComponentA D ks ad kk V L  bq gn gT gs A) ([.ref (ad 0)] : List Value).toArray s 0 0 A) (F0 m 299 ls []) := by
                            (try clear fz39); (try clear ps38); (try clear hr37); (try clear fz21); (try clear ps20); (try clear hr19); (try clear hr18)
                            intro fulp279
                            induction fulp279 with
                            | zero =>
                              intro g278 V276 L277 H locs ls xlp279_0 xlp279_1 xlp279_2 xlp279_3 xlp279_4 xlp279_5 xlp279_6 xlp279_7 xlp279_8 xlp279_9 xlp279_10 xlp279_11 xlp279_12 xlp279_13 hn alL277 ajV276 hMV276 hP hD hS hl
                              exfalso; omega
                            | succ fulp279 ihlp279 =>
                              intro g278 V276 L277 H locs ls xlp279_0 xlp279_1 xlp279_2 xlp279_3 xlp279_4 xlp279_5 xlp279_6 xlp279_7 xlp279_8 xlp279_9 xlp279_10 xlp279_11 xlp279_12 xlp279_13 hn alL277 ajV276 hMV276 hP hD hS hl
                              have agV276 : agr [(0, 7), (0, 8), (0, 48), (0, 50), (0, 51), (0, 52)] [15, 19, 20, 21, 22, 23, 24, 25, 26, 27, 28, 29, 30, 31, 32, 33, 34, 35, 36, 37, 38, 45, 46, 47, 53] V V276 := agV273.tr ajV276 (by decide) (by decide)
                              have r280 : 0 ≤ ((V276 0 8)).toInt ∧ ((V276 0 8)).toInt ≤ 70000 := hMV276 0 8
                              have r281 : 0 ≤ ((V276 0 48)).toInt ∧ ((V276 0 48)).toInt ≤ 10000 := hMV276 0 48
                              have pq282 : (V276 0 51).toInt = z5.toInt := congrArg Int32.toInt ((ajV276 0 51 rfl).trans ((ajV273 0 51 rfl).trans ((up2_k hV266 (by decide)).trans (up2_s hV265))))
                              have pq283 : (V276 0 52).toInt = 0 := (congrArg Int32.toInt ((ajV276 0 52 rfl).trans ((ajV273 0 52 rfl).trans (up2_s hV266)))).trans (by decide)
                              refine lv_aload_n hx hb dX12_toldComponent_299 rfl (lv_at hl 3 rfl) ?_
                              rcases xlp279_0 with ⟨f8, s1, hq, rq, gq1, oq, tq, wq⟩ | ⟨f8, hq⟩
                              · skip
                                exfalso; first | omega | ((try (have i_xlp279_7 := Imp.go xlp279_7 (by omega))); (try (have i_xlp279_3 := Imp.go xlp279_3 (by omega))); (try (have i_xlp279_2 := Imp.go xlp279_2 (by omega))); (try (have i_xlp279_2 := Imp.go xlp279_2 (by omega))); (try (have i_xlp279_3 := Imp.go xlp279_3 (by omega))); (try (have i_xlp279_7 := Imp.go xlp279_7 (by omega))); omega)
                              · skip
                                refine va_get (D := D) (ci := 12) (v := .int (V276 0 8)) (C := RX12) (T := TX12) (N := 100) hx hb hg inX12 hown hK hP 0 rfl rfl 8 (by decide) (hg _ w1714) (fun _ h9 => h9) rfl dX12_toldComponent_300 ?_
                                refine lv_if_ne (tgt := 323) hx hb dX12_toldComponent_303 (by decide) (fun c284 => ?_) (fun c284 => ?_)
                                · skip
                                  have f285 : ((V276 0 8)).toInt ≠ 0 := b_neq rfl (by decide) c284
                                  refine lv_aload_n hx hb dX12_toldComponent_323 rfl (lv_at hl 3 rfl) ?_
                                  refine lv_bipush (v := 125) hx hb dX12_toldComponent_324 (by decide) ?_
                                  have r286 : Int32.toInt 125 = 125 := by decide
                                  refine gA_void (gA_runV (As := [.int 125]) (rest := []) (ci := 12) (q0 := 0) hx hb hml hown hg hP hD hK hS hA hnw hgk (s_takeSignB l D ks H.size ad kk V276 L277 125 hMV276 (show 1 ≤ (V276 0 8).toInt from by first | omega | ((try (have i_xlp279_7 := Imp.go xlp279_7 (by omega))); (try (have i_xlp279_3 := Imp.go xlp279_3 (by omega))); (try (have i_xlp279_2 := Imp.go xlp279_2 (by omega))); (try (have i_xlp279_2 := Imp.go xlp279_2 (by omega))); (try (have i_xlp279_3 := Imp.go xlp279_3 (by omega))); (try (have i_xlp279_7 := Imp.go xlp279_7 (by omega))); omega))) w2075 w2077 w96 w172 w2078 rfl rfl hdV_yX12_takeSign ⟨Nat.le_of_ble_eq_true rfl, Nat.le_of_ble_eq_true rfl⟩ rfl hl.1 rfl (Nat.le_of_ble_eq_true rfl) dX12_toldComponent_326 ⟨Nat.le_of_ble_eq_true rfl, Nat.le_of_ble_eq_true rfl⟩) hP hD hK hS hA (fun u288 H locs w289 hP hD hK hS => ?_)
                                  obtain ⟨V291, L292⟩ := u288
                                  obtain ⟨hMV291, ajV291, axL292, t290⟩ := w289
                                  have axL292 : L277 = L292 := Eq.symm axL292
                                  subst axL292
                                  have hP : va_P D vwCl (mw ad kk ks.1 V291 L277) H := hP
                                  have hD : va_D A (mw ad kk ks.1 V291 L277) := hD
                                  have hMV291 : rgd bM V291 := hMV291
                                  have ajV291 : agr [(0, 7), (0, 8)] [] V276 V291 := ajV291
                                  have agV291 : agr [(0, 7), (0, 8), (0, 48), (0, 50), (0, 51), (0, 52)] [15, 19, 20, 21, 22, 23, 24, 25, 26, 27, 28, 29, 30, 31, 32, 33, 34, 35, 36, 37, 38, 45, 46, 47, 53] V V291 := agV276.tr ajV291 (by decide) (by decide)
                                  have t290 : (V291 0 8).toInt = (V276 0 8).toInt := t290
                                  have r293 : 0 ≤ ((V291 0 8)).toInt ∧ ((V291 0 8)).toInt ≤ 70000 := hMV291 0 8
                                  refine lv_aload_n hx hb dX12_toldComponent_329 rfl (lv_at hl 3 rfl) ?_
                                  refine va_get (D := D) (ci := 12) (v := .int (V291 0 8)) (C := RX12) (T := TX12) (N := 100) hx hb hg inX12 hown hK hP 0 rfl rfl 8 (by decide) (hg _ w1714) (fun _ h9 => h9) rfl dX12_toldComponent_330 ?_
                                  refine lv_if_le (tgt := 337) hx hb dX12_toldComponent_333 (by decide) (fun c294 => ?_) (fun c294 => ?_)
                                  · skip
                                    have f295 : ((V291 0 8)).toInt ≤ 0 := b_le rfl (by decide) c294
                                    exfalso; first | omega | ((try (have i_xlp279_7 := Imp.go xlp279_7 (by omega))); (try (have i_xlp279_3 := Imp.go xlp279_3 (by omega))); (try (have i_xlp279_2 := Imp.go xlp279_2 (by omega))); (try (have i_xlp279_2 := Imp.go xlp279_2 (by omega))); (try (have i_xlp279_3 := Imp.go xlp279_3 (by omega))); (try (have i_xlp279_7 := Imp.go xlp279_7 (by omega))); omega)
                                  · skip
                                    have f296 : 0 < ((V291 0 8)).toInt := b_nle rfl (by decide) c294
                                    have pq297 : (V291 0 48).toInt = ((V276 0 48)).toInt := congrArg Int32.toInt (ajV291 0 48 rfl)
                                    have pq298 : (V291 0 12).toInt = ((V 0 12)).toInt := congrArg Int32.toInt ((ajV291 0 12 rfl).trans ((ajV276 0 12 rfl).trans ((ajV273 0 12 rfl).trans ((up2_k hV266 (by decide)).trans ((up2_k hV265 (by decide)).trans ((up2_o hV264 (by decide)).trans ((up2_o hV263 (by decide)).trans ((up2_o hV262 (by decide)).trans ((ajV53 0 12 rfl).trans ((ajV47 0 12 rfl).trans ((ajV42 0 12 rfl).trans ((ajV29 0 12 rfl).trans (ajV13 0 12 rfl)))))))))))))
                                    have rw299 : RoV 19 bq V V291 := (fun k hk => ((ajV291 19 k rfl).trans (xlp279_8 k hk)))
                                    have rw300 : RoV 35 bq V V291 := (fun k hk => ((ajV291 35 k rfl).trans (xlp279_9 k hk)))
                                    have rw301 : RoV 37 bq V V291 := (fun k hk => ((ajV291 37 k rfl).trans (xlp279_10 k hk)))
                                    have rw302 : RoL 20 24 bq L L277 := (fun k hk => (xlp279_11 k hk))
                                    have rw303 : RoL 36 20 bq L L277 := (fun k hk => (xlp279_12 k hk))
                                    have rw304 : RoL 38 20 bq L L277 := (fun k hk => (xlp279_13 k hk))
                                    exact W.vret hx hb hr (fun t ht hW => ⟨⟨(V291, L277), rfl, ⟨hMV291, agV291, alL277, (Imp.mk (fun hp => have hp : (V291 0 8).toInt = 0 := hp; (show (V291 0 48).toInt ≤ 2 * (V291 0 7).toInt from by first | omega | ((try (have i_xlp279_7 := Imp.go xlp279_7 (by omega))); (try (have i_xlp279_3 := Imp.go xlp279_3 (by omega))); (try (have i_xlp279_2 := Imp.go xlp279_2 (by omega))); (try (have i_xlp279_2 := Imp.go xlp279_2 (by omega))); (try (have i_xlp279_3 := Imp.go xlp279_3 (by omega))); (try (have i_xlp279_7 := Imp.go xlp279_7 (by omega))); omega)))), (show (V291 0 48).toInt ≤ 8200 from by first | omega | ((try (have i_xlp279_7 := Imp.go xlp279_7 (by omega))); (try (have i_xlp279_3 := Imp.go xlp279_3 (by omega))); (try (have i_xlp279_2 := Imp.go xlp279_2 (by omega))); (try (have i_xlp279_2 := Imp.go xlp279_2 (by omega))); (try (have i_xlp279_3 := Imp.go xlp279_3 (by omega))); (try (have i_xlp279_7 := Imp.go xlp279_7 (by omega))); omega)), (show (V291 0 12).toInt = (V 0 12).toInt from by first | omega | ((try (have i_xlp279_7 := Imp.go xlp279_7 (by omega))); (try (have i_xlp279_3 := Imp.go xlp279_3 (by omega))); (try (have i_xlp279_2 := Imp.go xlp279_2 (by omega))); (try (have i_xlp279_2 := Imp.go xlp279_2 (by omega))); (try (have i_xlp279_3 := Imp.go xlp279_3 (by omega))); (try (have i_xlp279_7 := Imp.go xlp279_7 (by omega))); omega)), (Or.inr ⟨(show 1 ≤ (V291 0 8).toInt from by omega), (fun k => by rw [show (V291 0 8).toInt = (V276 0 8).toInt from by omega]; exact hq k)⟩), rw299, rw300, rw301, rw302, rw303, rw304⟩, by rw [ht]; exact hP, va_K.moved hW.alike hK, hD⟩, hS.F ht⟩) hS.2.2 dX12_toldComponent_336
                                · skip
                                  have f305 : ((V276 0 8)).toInt = 0 := b_eq rfl (by decide) c284
                                  exfalso; first | omega | ((try (have i_xlp279_7 := Imp.go xlp279_7 (by omega))); (try (have i_xlp279_3 := Imp.go xlp279_3 (by omega))); (try (have i_xlp279_2 := Imp.go xlp279_2 (by omega))); (try (have i_xlp279_2 := Imp.go xlp279_2 (by omega))); (try (have i_xlp279_3 := Imp.go xlp279_3 (by omega))); (try (have i_xlp279_7 := Imp.go xlp279_7 (by omega))); omega)
                          have pq306 : (V273 0 48).toInt = ((V 0 48)).toInt := congrArg Int32.toInt ((ajV273 0 48 rfl).trans ((up2_k hV266 (by decide)).trans ((up2_k hV265 (by decide)).trans ((up2_o hV264 (by decide)).trans ((up2_o hV263 (by decide)).trans ((up2_o hV262 (by decide)).trans ((ajV53 0 48 rfl).trans ((ajV47 0 48 rfl).trans ((ajV42 0 48 rfl).trans ((ajV29 0 48 rfl).trans (ajV13 0 48 rfl)))))))))))
                          have pq307 : (V273 0 51).toInt = z5.toInt := congrArg Int32.toInt ((ajV273 0 51 rfl).trans ((up2_k hV266 (by decide)).trans (up2_s hV265)))
                          have pq308 : (V273 0 52).toInt = 0 := (congrArg Int32.toInt ((ajV273 0 52 rfl).trans (up2_s hV266))).trans (by decide)
                          have rw309 : RoV 19 bq V V273 := (fun k hk => ((ajV273 19 k rfl).trans ((up2_o hV266 (by decide)).trans ((up2_o hV265 (by decide)).trans ((up2_o hV264 (by decide)).trans ((up2_o hV263 (by decide)).trans ((up2_o hV262 (by decide)).trans (xJ52_4 k hk))))))))
                          have rw310 : RoV 35 bq V V273 := (fun k hk => ((ajV273 35 k rfl).trans ((up2_o hV266 (by decide)).trans ((up2_o hV265 (by decide)).trans ((up2_o hV264 (by decide)).trans ((up2_o hV263 (by decide)).trans ((up2_o hV262 (by decide)).trans (xJ52_5 k hk))))))))
                          have rw311 : RoV 37 bq V V273 := (fun k hk => ((ajV273 37 k rfl).trans ((up2_o hV266 (by decide)).trans ((up2_o hV265 (by decide)).trans ((up2_o hV264 (by decide)).trans ((up2_o hV263 (by decide)).trans ((up2_o hV262 (by decide)).trans (xJ52_6 k hk))))))))
                          have rw312 : RoL 20 24 bq L L54 := (fun k hk => (xJ52_7 k hk))
                          have rw313 : RoL 36 20 bq L L54 := (fun k hk => (xJ52_8 k hk))
                          have rw314 : RoL 38 20 bq L L54 := (fun k hk => (xJ52_9 k hk))
                          exact lp279 ((((gn : Int) + 1) + 1 : Int).toNat) ((gn : Int) + 1) V273 L54 H locs ls (Or.inr ⟨(show 1 ≤ (V273 0 8).toInt from by omega), (fun k => by rw [show (V273 0 8).toInt = (V53 0 8).toInt from by omega]; exact h1 k)⟩) (show 0 ≤ ((gn : Int) + 1) from by omega) (Imp.mk (fun hp => have hp : (V273 0 8).toInt = 0 := hp; (show (gn : Int) - (V273 0 7).toInt < ((gn : Int) + 1) from by omega))) (Imp.mk (fun hp => have hp : (V273 0 8).toInt = 0 := hp; (show (V273 0 48).toInt ≤ 2 * (V273 0 7).toInt from by omega))) (show (V273 0 48).toInt ≤ 8120 from by omega) (show (V273 0 51).toInt = z5.toInt from by omega) (show (V273 0 52).toInt = 0 from by omega) (Imp.mk (fun hp => have hp : 1 ≤ (V273 0 8).toInt := hp; (show (V273 0 8).toInt = (V273 0 8).toInt from by omega))) rw309 rw310 rw311 rw312 rw313 rw314 (by omega) alL54 agr.rf hMV273 hP hD hS (lv_sub hl [0, 1, 2, 3] rfl)
                      refine lv_aload_n hx hb dX12_toldComponent_112 rfl (lv_at hl 3 rfl) ?_
                      refine lv_iconst (v := 4) hx hb dX12_toldComponent_113 (by decide) ?_
                      have rl315 : RelM V47 L bq gn gT (nx (nx gs 1) 1) (gs.2.1 2) := RelM.ag rl34 (show agr [] [21, 34] V29 V47 from (agr.tr (agr.tr agr.rf ajV42 (by decide) (by decide)) ajV47 (by decide) (by decide))) (by decide) (show agL [] L L from agL.rf) (by decide)
                      have r316 : Int32.toInt 4 = 4 := by decide
                      refine gA_void (gA_runV (As := [.int 4]) (rest := []) (ci := 12) (q0 := 0) hx hb hml hown hg hP hD hK hS hA hnw hgk (s_takeWordA l D ks H.size ad kk V47 L 4 (bq) (gn) (gT) ((nx (nx gs 1) 1)) ((gs.2.1 2)) hMV47 (by decide) rl315) w2092 w2094 w100 w172 w2095 rfl rfl hdV_yX12_takeWord ⟨Nat.le_of_ble_eq_true rfl, Nat.le_of_ble_eq_true rfl⟩ rfl hl.1 rfl (Nat.le_of_ble_eq_true rfl) dX12_toldComponent_114 ⟨Nat.le_of_ble_eq_true rfl, Nat.le_of_ble_eq_true rfl⟩) hP hD hK hS hA (fun u318 H locs w319 hP hD hK hS => ?_)
                      obtain ⟨V321, L322⟩ := u318
                      obtain ⟨hMV321, ajV321, axL322, t320⟩ := w319
                      have axL322 : L = L322 := Eq.symm axL322
                      subst axL322
                      have hP : va_P D vwCl (mw ad kk ks.1 V321 L) H := hP
                      have hD : va_D A (mw ad kk ks.1 V321 L) := hD
                      have hMV321 : rgd bM V321 := hMV321
                      have ajV321 : agr [(0, 7), (0, 8)] [] V47 V321 := ajV321
                      have agV321 : agr [(0, 7), (0, 8), (0, 48), (0, 50), (0, 51), (0, 52)] [15, 19, 20, 21, 22, 23, 24, 25, 26, 27, 28, 29, 30, 31, 32, 33, 34, 35, 36, 37, 38, 45, 46, 47, 53] V V321 := agV47.tr ajV321 (by decide) (by decide)
                      have t320 : ((V321 0 8).toInt = 0 ∧ (gT).1 (((nx (nx gs 1) 1)).1 0) = 128 + (Int32.toInt 4) ∧ RelM V321 L (bq) (gn) (gT) (nx ((nx (nx gs 1) 1)) 1) ((gs.2.1 2))) ∨ (1 ≤ (V321 0 8).toInt ∧ (gT).1 (((nx (nx gs 1) 1)).1 0) ≠ 128 + (Int32.toInt 4) ∧ (V321 0 8).toInt = 1 + 16 * (gT).2.2 (((nx (nx gs 1) 1)).1 0)) := t320
                      rcases t320 with ⟨q323, h324, rl325⟩ | ⟨q323, h324, rl325⟩
                      · skip
                        have kd326 : gT.1 ((nx (nx gs 1) 1).1 0) = 132 := h324.trans (by decide)
                        have hr327 : ∀ k, Rc gT (Crun gs (Istmt :: k)) (Crun (nx (nx (nx gs 1) 1) 1) (Itypes 0 [] :: Iscope wx32 :: k)) := fun k => Rc.go1 (hr37 k) (tk_y kd326)
                        have ps328 : (nx (nx (nx gs 1) 1) 1).1 0 = (nx (nx gs 1) 1).1 0 + 1 := rfl
                        have fz329 := RelM.rg rl325
                        have r330 : 0 ≤ ((V321 0 8)).toInt ∧ ((V321 0 8)).toInt ≤ 70000 := hMV321 0 8
                        refine lv_aload_n hx hb dX12_toldComponent_117 rfl (lv_at hl 3 rfl) ?_
                        refine va_get (D := D) (ci := 12) (v := .int (V321 0 8)) (C := RX12) (T := TX12) (N := 100) hx hb hg inX12 hown hK hP 0 rfl rfl 8 (by decide) (hg _ w1714) (fun _ h9 => h9) rfl dX12_toldComponent_118 ?_
                        refine lv_if_ne (tgt := 133) hx hb dX12_toldComponent_121 (by decide) (fun c331 => ?_) (fun c331 => ?_)
                        · skip
                          have f332 : ((V321 0 8)).toInt ≠ 0 := b_neq rfl (by decide) c331
                          exfalso; omega
                        · skip
                          have f333 : ((V321 0 8)).toInt = 0 := b_eq rfl (by decide) c331
                          refine lv_aload_n hx hb dX12_toldComponent_124 rfl (lv_at hl 3 rfl) ?_
                          refine lv_aload_n hx hb dX12_toldComponent_125 rfl (lv_at hl 3 rfl) ?_
                          refine va_get (D := D) (ci := 12) (v := .ref (ad 21)) (C := RX12) (T := TX12) (N := 100) hx hb hg inX12 hown hK hP 0 rfl rfl 21 (by decide) (hg _ w1727) (fun _ h9 => h9) rfl dX12_toldComponent_126 ?_
                          refine lv_iload_n hx hb dX12_toldComponent_129 rfl (lv_at hl 2 rfl) ?_
                          refine gA_void (gA_runV (As := [.ref (ad 21), .int z5]) (rest := []) (ci := 12) (q0 := 0) hx hb hml hown hg hP hD hK hS hA hnw hgk (s_takeTypesA21 l D ks H.size ad kk V321 L z5 (bq) (gn) (gT) ((nx (nx (nx gs 1) 1) 1)) ((gs.2.1 2)) hMV321 (by omega) rl325) w2055 w2057 w91 w172 w2058 rfl rfl hdV_yX12_takeTypes ⟨Nat.le_of_ble_eq_true rfl, Nat.le_of_ble_eq_true rfl⟩ rfl hl.1 rfl (Nat.le_of_ble_eq_true rfl) dX12_toldComponent_130 ⟨Nat.le_of_ble_eq_true rfl, Nat.le_of_ble_eq_true rfl⟩) hP hD hK hS hA (fun u335 H locs w336 hP hD hK hS => ?_)
                          obtain ⟨V338, L339⟩ := u335
                          obtain ⟨hMV338, ajV338, axL339, t337⟩ := w336
                          have axL339 : L = L339 := Eq.symm axL339
                          subst axL339
                          have hP : va_P D vwCl (mw ad kk ks.1 V338 L) H := hP
                          have hD : va_D A (mw ad kk ks.1 V338 L) := hD
                          have hMV338 : rgd bM V338 := hMV338
                          have ajV338 : agr [(0, 7), (0, 8)] [15, 21, 53] V321 V338 := ajV338
                          have agV338 : agr [(0, 7), (0, 8), (0, 48), (0, 50), (0, 51), (0, 52)] [15, 19, 20, 21, 22, 23, 24, 25, 26, 27, 28, 29, 30, 31, 32, 33, 34, 35, 36, 37, 38, 45, 46, 47, 53] V V338 := agV321.tr ajV338 (by decide) (by decide)
                          have t337 : RdM (gT) ((nx (nx (nx gs 1) 1) 1)) (fun k => Itypes 0 [] :: k) (fun k => k) (V338 0 8).toInt (fun s9 => RelM V338 L (bq) (gn) (gT) s9 ((gs.2.1 2)) ∧ keepS ((nx (nx (nx gs 1) 1) 1)) 1 s9) := t337
                          rcases t337 with ⟨q340, sx341, h342, rl343, kp344⟩ | ⟨q340, h342⟩
                          · skip
                            have hr345 : ∀ k, Rc gT (Crun gs (Istmt :: k)) (Crun sx341 (Iscope wx32 :: k)) := fun k => (hr327 k).tr (h342 (Iscope wx32 :: k))
                            have fz346 := RelM.rg rl343
                            have r347 : 0 ≤ ((V338 0 8)).toInt ∧ ((V338 0 8)).toInt ≤ 70000 := hMV338 0 8
                            have ps348 := (kp344).1
                            refine lv_aload_n hx hb dX12_toldComponent_133 rfl (lv_at hl 3 rfl) ?_
                            refine va_get (D := D) (ci := 12) (v := .ref (ad 22)) (C := RX12) (T := TX12) (N := 100) hx hb hg inX12 hown hK hP 0 rfl rfl 22 (by decide) (hg _ w1728) (fun _ h9 => h9) rfl dX12_toldComponent_134 ?_
                            refine lv_iload_n hx hb dX12_toldComponent_137 rfl (lv_at hl 2 rfl) ?_
                            refine lv_aload_n hx hb dX12_toldComponent_138 rfl (lv_at hl 3 rfl) ?_
                            refine lv_bipush (v := 20) hx hb dX12_toldComponent_139 (by decide) ?_
                            refine lv_iconst (v := 4) hx hb dX12_toldComponent_141 (by decide) ?_
                            have r349 : Int32.toInt 20 = 20 := by decide
                            refine gA_int (gA_runV (As := [.int 20, .int 4]) (rest := [.int z5, .ref (ad 22)]) (ci := 12) (q0 := 0) hx hb hml hown hg hP hD hK hS hA hnw hgk (s_oneOfA l D ks H.size ad kk V338 L 20 4 (bq) (gn) (gT) (sx341) ((gs.2.1 2)) hMV338 (by decide) (by decide) rl343 (show (Int32.toInt 20) + (Int32.toInt 4) ≤ 28 from by omega)) w2096 w2098 w101 w172 w2099 rfl rfl hdV_yX12_oneOf ⟨Nat.le_of_ble_eq_true rfl, Nat.le_of_ble_eq_true rfl⟩ rfl hl.1 rfl (Nat.le_of_ble_eq_true rfl) dX12_toldComponent_142 ⟨Nat.le_of_ble_eq_true rfl, Nat.le_of_ble_eq_true rfl⟩) hP hD hK hS hA (fun z350 u351 H locs w352 hP hD hK hS => ?_)
                            obtain ⟨V354, L355⟩ := u351
                            obtain ⟨hMV354, ajV354, axL355, rgz350, t353⟩ := w352
                            have axL355 : L = L355 := Eq.symm axL355
                            subst axL355
                            have hP : va_P D vwCl (mw ad kk ks.1 V354 L) H := hP
                            have hD : va_D A (mw ad kk ks.1 V354 L) := hD
                            have hMV354 : rgd bM V354 := hMV354
                            have ajV354 : agr [(0, 7), (0, 8)] [] V338 V354 := ajV354
                            have agV354 : agr [(0, 7), (0, 8), (0, 48), (0, 50), (0, 51), (0, 52)] [15, 19, 20, 21, 22, 23, 24, 25, 26, 27, 28, 29, 30, 31, 32, 33, 34, 35, 36, 37, 38, 45, 46, 47, 53] V V354 := agV338.tr ajV354 (by decide) (by decide)
                            have rgz350 : 0 ≤ z350.toInt ∧ z350.toInt ≤ 3 := rgz350
                            have t353 : ((V354 0 8).toInt = 0 ∧ (gT).1 ((sx341).1 0) = 128 + (Int32.toInt 20) + z350.toInt ∧ RelM V354 L (bq) (gn) (gT) (nx (sx341) 1) ((gs.2.1 2))) ∨ (1 ≤ (V354 0 8).toInt ∧ ((gT).1 ((sx341).1 0) < 128 + (Int32.toInt 20) ∨ 128 + (Int32.toInt 20) + (Int32.toInt 4) ≤ (gT).1 ((sx341).1 0)) ∧ (V354 0 8).toInt = 1 + 16 * (gT).2.2 ((sx341).1 0)) := t353
                            rcases t353 with ⟨q356, h357, rl358⟩ | ⟨q356, h357, rl358⟩
                            · skip
                              have hr359 : ∀ k, Rc gT (Crun gs (Istmt :: k)) (Crun (scopeS sx341) (Icalled :: Irank :: IwhenI :: Itake 123 :: IaddNm wx32 :: Imember :: k)) := fun k => Rc.go1 (hr345 k) (sc_y wx32 (by omega))
                              have rl360 : RelM V354 L bq gn gT (scopeS sx341) (gs.2.1 2) := RelM.sc rl358
                              have fz361 := RelM.rg rl360
                              have r362 : 0 ≤ ((V354 0 8)).toInt ∧ ((V354 0 8)).toInt ≤ 70000 := hMV354 0 8
                              have ps363 : (scopeS sx341).1 0 = sx341.1 0 + 1 := rfl
                              refine va_iast (D := D) (i := z5) (x := z350) hx hb hK hP hD hS 15 14 rfl rfl (i_in (a := z5.toInt) rfl (by omega)) dX12_toldComponent_145 (fun H locs hP hD hS => ?_)
                              obtain ⟨V364, hV364⟩ : ∃ z, z = up2 V354 22 (Int32.toNatClampNeg z5) z350 := ⟨_, rfl⟩
                              have hP : va_P D vwCl (mw ad kk ks.1 V364 L) H := by rw [hV364]; exact hP
                              have hD : va_D A (mw ad kk ks.1 V364 L) := by rw [hV364]; exact hD
                              have hMV364 : rgd bM V364 := hMV354.put hV364 (i_full _)
                              have agV364 : agr [(0, 7), (0, 8), (0, 48), (0, 50), (0, 51), (0, 52)] [15, 19, 20, 21, 22, 23, 24, 25, 26, 27, 28, 29, 30, 31, 32, 33, 34, 35, 36, 37, 38, 45, 46, 47, 53] V V364 := agV354.up hV364 rfl
                              have J365 : ∀ (V366 : Vf) (L367 : Lf) (H : Heap) (locs : List Loc) (ls : Array Slot), agL [15, 19, 20, 21, 22, 23, 24, 25, 26, 27, 28, 29, 30, 31, 32, 33, 34, 35, 36, 37, 38, 45, 46, 47, 53] L L367 → agr [(0, 7), (0, 8)] [23, 24, 35, 36, 37, 38] V364 V366 → rgd bM V366 → (((V366 0 8).toInt = 0 ∧ ∃ s1 s0 : St, (∀ k, Rc gT (Crun gs (Istmt :: k)) (Crun s1 (IwhenI :: Itake 123 :: IaddNm (wx32) :: Imember :: k))) ∧ RelM V366 L367 bq gn gT s1 (gs.2.1 2) ∧ keepS (scopeS s0) 0 s1 ∧ s1.2.1 2 = gs.2.1 2 ∧ s1.2.2.1 = gs.2.2.1 ∧ gs.1 0 + 1 ≤ s1.1 0) ∨ (1 ≤ (V366 0 8).toInt ∧ ∀ k, Rc gT (Crun gs (Istmt :: k)) (Cbad (V366 0 8).toInt))) → (V366 0 48).toInt ≤ 8000 → (V366 0 48).toInt = (V 0 48).toInt → (V366 0 12).toInt = (V 0 12).toInt → (RoV 19 bq V V366) → (RoV 35 bq V V366) → (RoV 37 bq V V366) → (RoL 20 24 bq L L367) → (RoL 36 20 bq L L367) → (RoL 38 20 bq L L367) → va_P D vwCl (mw ad kk ks.1 V366 L367) H → va_D A (mw ad kk ks.1 V366 L367) → va_S A s.heap H locs → lv_has ls 5 [(4, .int y46), (2, .long z25), (1, .int z5), (0, .ref (ad 0))] → W p l e r_s_toldComponentA s m ([.ref (ad 0)] : List Value).toArray below meth c H locs 0 0 (MQ below (q_s_toldComponentA D ks ad kk V L  bq gn gT gs A) ([.ref (ad 0)] : List Value).toArray s 0 0 A) (F0 m 202 ls []) := by
                                as_aux_lemma =>
                                (try clear ps363); (try clear fz361); (try clear rl360); (try clear hr359); (try clear ps348); (try clear fz346); (try clear hr345); (try clear fz329); (try clear ps328); (try clear hr327); (try clear kd326); (try clear rl315); (try clear fz39); (try clear ps38); (try clear hr37); (try clear fz21); (try clear ps20); (try clear hr19); (try clear hr18)
                                intro V366 L367 H locs ls alL367 ajV366 hMV366 xJ365_0 xJ365_1 xJ365_2 xJ365_3 xJ365_4 xJ365_5 xJ365_6 xJ365_7 xJ365_8 xJ365_9 hP hD hS hl
                                have agV366 : agr [(0, 7), (0, 8), (0, 48), (0, 50), (0, 51), (0, 52)] [15, 19, 20, 21, 22, 23, 24, 25, 26, 27, 28, 29, 30, 31, 32, 33, 34, 35, 36, 37, 38, 45, 46, 47, 53] V V366 := agV364.tr ajV366 (by decide) (by decide)
                                have pq368 : (V366 0 48).toInt = ((V 0 48)).toInt := congrArg Int32.toInt ((ajV366 0 48 rfl).trans ((up2_o hV364 (by decide)).trans ((ajV354 0 48 rfl).trans ((ajV338 0 48 rfl).trans ((ajV321 0 48 rfl).trans ((ajV47 0 48 rfl).trans ((ajV42 0 48 rfl).trans ((ajV29 0 48 rfl).trans (ajV13 0 48 rfl)))))))))
                                have pq369 : (V366 0 12).toInt = ((V 0 12)).toInt := congrArg Int32.toInt ((ajV366 0 12 rfl).trans ((up2_o hV364 (by decide)).trans ((ajV354 0 12 rfl).trans ((ajV338 0 12 rfl).trans ((ajV321 0 12 rfl).trans ((ajV47 0 12 rfl).trans ((ajV42 0 12 rfl).trans ((ajV29 0 12 rfl).trans (ajV13 0 12 rfl)))))))))
                                rcases xJ365_0 with ⟨f7, s1, s0, h1, r1, k1, t1, w1, g1⟩ | ⟨f7, h1⟩
                                · skip
                                  have fz370 := RelM.rg r1
                                  have r371 : 0 ≤ ((V366 0 8)).toInt ∧ ((V366 0 8)).toInt ≤ 70000 := hMV366 0 8
                                  refine lv_aload_n hx hb dX12_toldComponent_202 rfl (lv_at hl 3 rfl) ?_
                                  refine va_get (D := D) (ci := 12) (v := .ref (ad 25)) (C := RX12) (T := TX12) (N := 100) hx hb hg inX12 hown hK hP 0 rfl rfl 25 (by decide) (hg _ w1731) (fun _ h9 => h9) rfl dX12_toldComponent_203 ?_
                                  refine lv_iload_n hx hb dX12_toldComponent_206 rfl (lv_at hl 2 rfl) ?_
                                  refine lv_iconst (v := (-1)) hx hb dX12_toldComponent_207 (by decide) ?_
                                  refine va_iast (D := D) (i := z5) (x := (-1)) hx hb hK hP hD hS 18 17 rfl rfl (i_in (a := z5.toInt) rfl (by omega)) dX12_toldComponent_208 (fun H locs hP hD hS => ?_)
                                  obtain ⟨V372, hV372⟩ : ∃ z, z = up2 V366 25 (Int32.toNatClampNeg z5) (-1) := ⟨_, rfl⟩
                                  have hP : va_P D vwCl (mw ad kk ks.1 V372 L367) H := by rw [hV372]; exact hP
                                  have hD : va_D A (mw ad kk ks.1 V372 L367) := by rw [hV372]; exact hD
                                  have hMV372 : rgd bM V372 := hMV366.put hV372 (show (-1) ≤ Int32.toInt (-1) ∧ Int32.toInt (-1) ≤ 11 from by decide)
                                  have agV372 : agr [(0, 7), (0, 8), (0, 48), (0, 50), (0, 51), (0, 52)] [15, 19, 20, 21, 22, 23, 24, 25, 26, 27, 28, 29, 30, 31, 32, 33, 34, 35, 36, 37, 38, 45, 46, 47, 53] V V372 := agV366.up hV372 rfl
                                  refine lv_aload_n hx hb dX12_toldComponent_209 rfl (lv_at hl 3 rfl) ?_
                                  refine lv_bipush (v := 7) hx hb dX12_toldComponent_210 (by decide) ?_
                                  have rl373 : RelM V372 L367 bq gn gT s1 (gs.2.1 2) := RelM.ag r1 (show agr [] [25] V366 V372 from (agr.up agr.rf hV372 rfl)) (by decide) (show agL [] L367 L367 from agL.rf) (by decide)
                                  have r374 : Int32.toInt 7 = 7 := by decide
                                  refine gA_int (gA_runV (As := [.int 7]) (rest := []) (ci := 12) (q0 := 0) hx hb hml hown hg hP hD hK hS hA hnw hgk (s_hasWordA l D ks H.size ad kk V372 L367 7 (bq) (gn) (gT) (s1) ((gs.2.1 2)) hMV372 (by decide) rl373) w2051 w2053 w90 w172 w2054 rfl rfl hdV_yX12_hasWord ⟨Nat.le_of_ble_eq_true rfl, Nat.le_of_ble_eq_true rfl⟩ rfl hl.1 rfl (Nat.le_of_ble_eq_true rfl) dX12_toldComponent_212 ⟨Nat.le_of_ble_eq_true rfl, Nat.le_of_ble_eq_true rfl⟩) hP hD hK hS hA (fun z375 u376 H locs w377 hP hD hK hS => ?_)
                                  obtain ⟨V379, L380⟩ := u376
                                  obtain ⟨hMV379, ajV379, axL380, rgz375, t378⟩ := w377
                                  have axL380 : L367 = L380 := Eq.symm axL380
                                  subst axL380
                                  have hP : va_P D vwCl (mw ad kk ks.1 V379 L367) H := hP
                                  have hD : va_D A (mw ad kk ks.1 V379 L367) := hD
                                  have hMV379 : rgd bM V379 := hMV379
                                  have ajV379 : agr [(0, 7)] [] V372 V379 := ajV379
                                  have agV379 : agr [(0, 7), (0, 8), (0, 48), (0, 50), (0, 51), (0, 52)] [15, 19, 20, 21, 22, 23, 24, 25, 26, 27, 28, 29, 30, 31, 32, 33, 34, 35, 36, 37, 38, 45, 46, 47, 53] V V379 := agV372.tr ajV379 (by decide) (by decide)
                                  have rgz375 : 0 ≤ z375.toInt ∧ z375.toInt ≤ 1 := rgz375
                                  have t378 : (z375.toInt = 1 ∧ (gT).1 ((s1).1 0) = 128 + (Int32.toInt 7) ∧ RelM V379 L367 (bq) (gn) (gT) (nx (s1) 1) ((gs.2.1 2))) ∨ (z375.toInt = 0 ∧ (gT).1 ((s1).1 0) ≠ 128 + (Int32.toInt 7) ∧ RelM V379 L367 (bq) (gn) (gT) (s1) ((gs.2.1 2))) := t378
                                  rcases t378 with ⟨q381, h382, rl383⟩ | ⟨q381, h382, rl383⟩
                                  · skip
                                    have kd384 : gT.1 (s1.1 0) = 135 := h382.trans (by decide)
                                    have hr385 : ∀ k, Rc gT (Crun gs (Istmt :: k)) (Crun (nx s1 1) (Isetting :: Inum 0 999999999 :: Itake 123 :: IaddNm wx32 :: Imember :: k)) := fun k => Rc.go1 (h1 k) (when_y  kd384)
                                    have ps386 : (nx s1 1).1 0 = s1.1 0 + 1 := rfl
                                    have fz387 := RelM.rg rl383
                                    have pq388 : (V379 0 8).toInt = ((V366 0 8)).toInt := congrArg Int32.toInt ((ajV379 0 8 rfl).trans (up2_o hV372 (by decide)))
                                    refine lv_if_eq (tgt := 262) hx hb dX12_toldComponent_215 (by decide) (fun c389 => ?_) (fun c389 => ?_)
                                    · skip
                                      have f390 : z375.toInt = 0 := b_eq rfl (by decide) c389
                                      exfalso; omega
                                    · skip
                                      have f391 : z375.toInt ≠ 0 := b_neq rfl (by decide) c389
                                      refine lv_aload_n hx hb dX12_toldComponent_218 rfl (lv_at hl 3 rfl) ?_
                                      refine va_get (D := D) (ci := 12) (v := .ref (ad 25)) (C := RX12) (T := TX12) (N := 100) hx hb hg inX12 hown hK hP 0 rfl rfl 25 (by decide) (hg _ w1731) (fun _ h9 => h9) rfl dX12_toldComponent_219 ?_
                                      refine lv_iload_n hx hb dX12_toldComponent_222 rfl (lv_at hl 2 rfl) ?_
                                      refine lv_aload_n hx hb dX12_toldComponent_223 rfl (lv_at hl 3 rfl) ?_
                                      refine lv_aload_n hx hb dX12_toldComponent_224 rfl (lv_at hl 3 rfl) ?_
                                      refine va_get (D := D) (ci := 12) (v := .ref (ad 17)) (C := RX12) (T := TX12) (N := 100) hx hb hg inX12 hown hK hP 0 rfl rfl 17 (by decide) (hg _ w1723) (fun _ h9 => h9) rfl dX12_toldComponent_225 ?_
                                      refine lv_bipush (v := 12) hx hb dX12_toldComponent_228 (by decide) ?_
                                      refine lv_aload_n hx hb dX12_toldComponent_230 rfl (lv_at hl 3 rfl) ?_
                                      refine va_get (D := D) (ci := 12) (v := .int (V379 0 12)) (C := RX12) (T := TX12) (N := 100) hx hb hg inX12 hown hK hP 0 rfl rfl 12 (by decide) (hg _ w1718) (fun _ h9 => h9) rfl dX12_toldComponent_231 ?_
                                      refine g_top (v := (V 0 12)) ((ajV379 0 12 rfl).trans ((up2_o hV372 (by decide)).trans ((ajV366 0 12 rfl).trans ((up2_o hV364 (by decide)).trans ((ajV354 0 12 rfl).trans ((ajV338 0 12 rfl).trans ((ajV321 0 12 rfl).trans ((ajV47 0 12 rfl).trans ((ajV42 0 12 rfl).trans ((ajV29 0 12 rfl).trans (ajV13 0 12 rfl))))))))))) ?_
                                      refine lv_imul hx hb dX12_toldComponent_234 ?_
                                      refine lv_topi (fun z392 ez392 => ?_)
                                      have hz392 : z392.toInt = 12 * ((V 0 12)).toInt := i_mul ez392 (by decide) rfl (by omega)
                                      refine lv_aload_n hx hb dX12_toldComponent_235 rfl (lv_at hl 3 rfl) ?_
                                      refine va_get (D := D) (ci := 12) (v := .ref (ad 16)) (C := RX12) (T := TX12) (N := 100) hx hb hg inX12 hown hK hP 0 rfl rfl 16 (by decide) (hg _ w1722) (fun _ h9 => h9) rfl dX12_toldComponent_236 ?_
                                      refine lv_aload_n hx hb dX12_toldComponent_239 rfl (lv_at hl 3 rfl) ?_
                                      refine va_get (D := D) (ci := 12) (v := .int (V379 0 12)) (C := RX12) (T := TX12) (N := 100) hx hb hg inX12 hown hK hP 0 rfl rfl 12 (by decide) (hg _ w1718) (fun _ h9 => h9) rfl dX12_toldComponent_240 ?_
                                      refine g_top (v := (V 0 12)) ((ajV379 0 12 rfl).trans ((up2_o hV372 (by decide)).trans ((ajV366 0 12 rfl).trans ((up2_o hV364 (by decide)).trans ((ajV354 0 12 rfl).trans ((ajV338 0 12 rfl).trans ((ajV321 0 12 rfl).trans ((ajV47 0 12 rfl).trans ((ajV42 0 12 rfl).trans ((ajV29 0 12 rfl).trans (ajV13 0 12 rfl))))))))))) ?_
                                      refine va_iald (D := D) (i := (V 0 12)) hx hb hK hP 9 8 rfl rfl (i_in (a := ((V 0 12)).toInt) rfl (by omega)) dX12_toldComponent_243 ?_
                                      refine g_top (v := (V 16 (Int32.toNatClampNeg (V 0 12)))) ((ajV379 16 (Int32.toNatClampNeg (V 0 12)) rfl).trans ((up2_o hV372 (by decide)).trans ((ajV366 16 (Int32.toNatClampNeg (V 0 12)) rfl).trans ((up2_o hV364 (by decide)).trans ((ajV354 16 (Int32.toNatClampNeg (V 0 12)) rfl).trans ((ajV338 16 (Int32.toNatClampNeg (V 0 12)) rfl).trans ((ajV321 16 (Int32.toNatClampNeg (V 0 12)) rfl).trans ((ajV47 16 (Int32.toNatClampNeg (V 0 12)) rfl).trans ((ajV42 16 (Int32.toNatClampNeg (V 0 12)) rfl).trans ((ajV29 16 (Int32.toNatClampNeg (V 0 12)) rfl).trans (ajV13 16 (Int32.toNatClampNeg (V 0 12)) rfl))))))))))) ?_
                                      have r393 : 0 ≤ ((V 16 (Int32.toNatClampNeg (V 0 12)))).toInt ∧ ((V 16 (Int32.toNatClampNeg (V 0 12)))).toInt ≤ 12 := hMV 16 (Int32.toNatClampNeg (V 0 12))
                                      have pq394 : (V379 16 bq).toInt = ((V 16 bq)).toInt := congrArg Int32.toInt ((ajV379 16 bq rfl).trans ((up2_o hV372 (by decide)).trans ((ajV366 16 bq rfl).trans ((up2_o hV364 (by decide)).trans ((ajV354 16 bq rfl).trans ((ajV338 16 bq rfl).trans ((ajV321 16 bq rfl).trans ((ajV47 16 bq rfl).trans ((ajV42 16 bq rfl).trans ((ajV29 16 bq rfl).trans (ajV13 16 bq rfl)))))))))))
                                      have r395 : 0 ≤ ((V 16 bq)).toInt ∧ ((V 16 bq)).toInt ≤ 12 := hMV 16 bq
                                      refine gA_int (gA_runV (As := [.ref (ad 17), .int z392, .int (V 16 (Int32.toNatClampNeg (V 0 12)))]) (rest := [.int z5, .ref (ad 25)]) (ci := 12) (q0 := 0) hx hb hml hown hg hP hD hK hS hA hnw hgk (s_named1 l D ks H.size ad kk V379 L367 z392 (V 16 (Int32.toNatClampNeg (V 0 12))) (bq) (gn) (gT) ((nx s1 1)) ((gs.2.1 2)) hMV379 (by omega) (by omega) rl383 (show z392.toInt = ((12 * (bq) : Nat) : Int) from by omega) (show ((V 16 (Int32.toNatClampNeg (V 0 12)))).toInt = (V379 16 (bq)).toInt from by omega)) w2063 w2065 w93 w172 w2066 rfl rfl hdV_yX12_named ⟨Nat.le_of_ble_eq_true rfl, Nat.le_of_ble_eq_true rfl⟩ rfl hl.1 rfl (Nat.le_of_ble_eq_true rfl) dX12_toldComponent_244 ⟨Nat.le_of_ble_eq_true rfl, Nat.le_of_ble_eq_true rfl⟩) hP hD hK hS hA (fun z396 u397 H locs w398 hP hD hK hS => ?_)
                                      obtain ⟨V402, L403⟩ := u397
                                      obtain ⟨hMV402, ajV402, axL403, rgz396, t399, t400, t401⟩ := w398
                                      have axL403 : L367 = L403 := Eq.symm axL403
                                      subst axL403
                                      have hP : va_P D vwCl (mw ad kk ks.1 V402 L367) H := hP
                                      have hD : va_D A (mw ad kk ks.1 V402 L367) := hD
                                      have hMV402 : rgd bM V402 := hMV402
                                      have ajV402 : agr [(0, 7), (0, 8)] [] V379 V402 := ajV402
                                      have agV402 : agr [(0, 7), (0, 8), (0, 48), (0, 50), (0, 51), (0, 52)] [15, 19, 20, 21, 22, 23, 24, 25, 26, 27, 28, 29, 30, 31, 32, 33, 34, 35, 36, 37, 38, 45, 46, 47, 53] V V402 := agV379.tr ajV402 (by decide) (by decide)
                                      have rgz396 : (-1) ≤ z396.toInt ∧ z396.toInt ≤ 47 := rgz396
                                      have t399 : KmN (look (gT) ((nx s1 1)) (((nx s1 1)).2.1 1)) (V402 0 8).toInt (fun f9 => RelM V402 L367 (bq) (gn) (gT) (nx ((nx s1 1)) 1) ((gs.2.1 2)) ∧ z396.toInt = ((f9 : Nat) : Int) ∧ f9 < 12) := t399
                                      have t400 : z396.toInt < ((V 16 (Int32.toNatClampNeg (V 0 12)))).toInt := t400
                                      have t401 : Imp ((V402 0 8).toInt = 0) (0 ≤ z396.toInt) := t401
                                      have r404 : 0 ≤ ((V402 0 8)).toInt ∧ ((V402 0 8)).toInt ≤ 70000 := hMV402 0 8
                                      rcases t399 with ⟨q405, fx406, h407, rl408, hf409, hb410⟩ | ⟨q405, h407⟩
                                      · skip
                                        have hr411 : ∀ k, Rc gT (Crun gs (Istmt :: k)) (Crun (nx (nx s1 1) 1) (Inum 0 999999999 :: Itake 123 :: IaddNm wx32 :: Imember :: k)) := fun k => Rc.go1 (hr385 k) (se_y h407)
                                        have ps412 : (nx (nx s1 1) 1).1 0 = (nx s1 1).1 0 + 1 := rfl
                                        have fz413 := RelM.rg rl408
                                        refine va_iast (D := D) (i := z5) (x := z396) hx hb hK hP hD hS 18 17 rfl rfl (i_in (a := z5.toInt) rfl (by first | exact ⟨z5r, z5s⟩ | omega | ((try (have i_t401 := Imp.go t401 (by omega))); omega))) dX12_toldComponent_247 (fun H locs hP hD hS => ?_)
                                        obtain ⟨V414, hV414⟩ : ∃ z, z = up2 V402 25 (Int32.toNatClampNeg z5) z396 := ⟨_, rfl⟩
                                        have hP : va_P D vwCl (mw ad kk ks.1 V414 L367) H := by rw [hV414]; exact hP
                                        have hD : va_D A (mw ad kk ks.1 V414 L367) := by rw [hV414]; exact hD
                                        have hMV414 : rgd bM V414 := hMV402.put hV414 (show (-1) ≤ z396.toInt ∧ z396.toInt ≤ 11 from by first | omega | ((try (have i_t401 := Imp.go t401 (by omega))); omega))
                                        have agV414 : agr [(0, 7), (0, 8), (0, 48), (0, 50), (0, 51), (0, 52)] [15, 19, 20, 21, 22, 23, 24, 25, 26, 27, 28, 29, 30, 31, 32, 33, 34, 35, 36, 37, 38, 45, 46, 47, 53] V V414 := agV402.up hV414 rfl
                                        refine lv_aload_n hx hb dX12_toldComponent_248 rfl (lv_at hl 3 rfl) ?_
                                        refine va_get (D := D) (ci := 12) (v := .ref (ad 26)) (C := RX12) (T := TX12) (N := 100) hx hb hg inX12 hown hK hP 0 rfl rfl 26 (by decide) (hg _ w1732) (fun _ h9 => h9) rfl dX12_toldComponent_249 ?_
                                        refine lv_iload_n hx hb dX12_toldComponent_252 rfl (lv_at hl 2 rfl) ?_
                                        refine lv_aload_n hx hb dX12_toldComponent_253 rfl (lv_at hl 3 rfl) ?_
                                        refine lv_iconst (v := 0) hx hb dX12_toldComponent_254 (by decide) ?_
                                        refine lv_ldcw (v := 999999999) hx hb hown (hg _ w2083) dX12_toldComponent_255 ?_
                                        have rl415 : RelM V414 L367 bq gn gT (nx (nx s1 1) 1) (gs.2.1 2) := RelM.ag rl408 (show agr [] [25] V402 V414 from (agr.up agr.rf hV414 rfl)) (by decide) (show agL [] L367 L367 from agL.rf) (by decide)
                                        have r416 : Int32.toInt 999999999 = 999999999 := by decide
                                        refine gA_int (gA_runV (As := [.int 0, .int 999999999]) (rest := [.int z5, .ref (ad 26)]) (ci := 12) (q0 := 0) hx hb hml hown hg hP hD hK hS hA hnw hgk (s_takeNumberA l D ks H.size ad kk V414 L367 0 999999999 (bq) (gn) (gT) ((nx (nx s1 1) 1)) ((gs.2.1 2)) hMV414 rl415 (show -1 ≤ (Int32.toInt 999999999) ∧ (Int32.toInt 999999999) ≤ 999999999 from by first | omega | ((try (have i_t401 := Imp.go t401 (by omega))); omega)) (show 0 ≤ (Int32.toInt 0) from by first | omega | ((try (have i_t401 := Imp.go t401 (by omega))); omega))) w2084 w2086 w98 w172 w2087 rfl rfl hdV_yX12_takeNumber ⟨Nat.le_of_ble_eq_true rfl, Nat.le_of_ble_eq_true rfl⟩ rfl hl.1 rfl (Nat.le_of_ble_eq_true rfl) dX12_toldComponent_258 ⟨Nat.le_of_ble_eq_true rfl, Nat.le_of_ble_eq_true rfl⟩) hP hD hK hS hA (fun z417 u418 H locs w419 hP hD hK hS => ?_)
                                        obtain ⟨V423, L424⟩ := u418
                                        obtain ⟨hMV423, ajV423, axL424, t420, t421, t422⟩ := w419
                                        have axL424 : L367 = L424 := Eq.symm axL424
                                        subst axL424
                                        have hP : va_P D vwCl (mw ad kk ks.1 V423 L367) H := hP
                                        have hD : va_D A (mw ad kk ks.1 V423 L367) := hD
                                        have hMV423 : rgd bM V423 := hMV423
                                        have ajV423 : agr [(0, 7), (0, 8)] [] V414 V423 := ajV423
                                        have agV423 : agr [(0, 7), (0, 8), (0, 48), (0, 50), (0, 51), (0, 52)] [15, 19, 20, 21, 22, 23, 24, 25, 26, 27, 28, 29, 30, 31, 32, 33, 34, 35, 36, 37, 38, 45, 46, 47, 53] V V423 := agV414.tr ajV423 (by decide) (by decide)
                                        have t420 : ((V423 0 8).toInt = 0 ∧ (gT).1 (((nx (nx s1 1) 1)).1 0) = 2 ∧ (Int32.toInt 0) ≤ ((gT).2.1 (((nx (nx s1 1) 1)).1 0)).toInt ∧ ((gT).2.1 (((nx (nx s1 1) 1)).1 0)).toInt ≤ (Int32.toInt 999999999) ∧ RelM V423 L367 (bq) (gn) (gT) (nx ((nx (nx s1 1) 1)) 1) ((gs.2.1 2))) ∨ (1 ≤ (V423 0 8).toInt ∧ (((gT).1 (((nx (nx s1 1) 1)).1 0) ≠ 2 ∧ (V423 0 8).toInt = 1 + 16 * (gT).2.2 (((nx (nx s1 1) 1)).1 0)) ∨ ((gT).1 (((nx (nx s1 1) 1)).1 0) = 2 ∧ (((gT).2.1 (((nx (nx s1 1) 1)).1 0)).toInt < (Int32.toInt 0) ∨ (Int32.toInt 999999999) < ((gT).2.1 (((nx (nx s1 1) 1)).1 0)).toInt) ∧ (V423 0 8).toInt = 4 + 16 * (gT).2.2 (((nx (nx s1 1) 1)).1 0)))) := t420
                                        have t421 : Imp ((V423 0 8).toInt = 0) ((Int32.toInt 0) ≤ z417.toInt ∧ z417.toInt ≤ (Int32.toInt 999999999)) := t421
                                        have t422 : Imp (1 ≤ (V423 0 8).toInt) (z417.toInt = 0) := t422
                                        have r425 : 0 ≤ ((V423 0 8)).toInt ∧ ((V423 0 8)).toInt ≤ 70000 := hMV423 0 8
                                        rcases t420 with ⟨q426, h427, h428, h429, rl430⟩ | ⟨q426, ⟨h427, rl430⟩ | ⟨h427, h428, rl430⟩⟩
                                        · skip
                                          have hr431 : ∀ k, Rc gT (Crun gs (Istmt :: k)) (Crun (nx (nx (nx s1 1) 1) 1) (Itake 123 :: IaddNm wx32 :: Imember :: k)) := fun k => Rc.go1 (hr411 k) (nm_y h427 (by omega) (by omega))
                                          have ps432 : (nx (nx (nx s1 1) 1) 1).1 0 = (nx (nx s1 1) 1).1 0 + 1 := rfl
                                          have fz433 := RelM.rg rl430
                                          have nr434 := Imp.go t421 q426
                                          refine va_iast (D := D) (i := z5) (x := z417) hx hb hK hP hD hS 19 18 rfl rfl (i_in (a := z5.toInt) rfl (by first | exact ⟨z5r, z5s⟩ | omega | ((try (have i_t422 := Imp.go t422 (by omega))); (try (have i_t421 := Imp.go t421 (by omega))); (try (have i_t401 := Imp.go t401 (by omega))); (try (have i_t401 := Imp.go t401 (by omega))); (try (have i_t421 := Imp.go t421 (by omega))); (try (have i_t422 := Imp.go t422 (by omega))); omega))) dX12_toldComponent_261 (fun H locs hP hD hS => ?_)
                                          obtain ⟨V435, hV435⟩ : ∃ z, z = up2 V423 26 (Int32.toNatClampNeg z5) z417 := ⟨_, rfl⟩
                                          have hP : va_P D vwCl (mw ad kk ks.1 V435 L367) H := by rw [hV435]; exact hP
                                          have hD : va_D A (mw ad kk ks.1 V435 L367) := by rw [hV435]; exact hD
                                          have hMV435 : rgd bM V435 := hMV423.put hV435 (i_full _)
                                          have agV435 : agr [(0, 7), (0, 8), (0, 48), (0, 50), (0, 51), (0, 52)] [15, 19, 20, 21, 22, 23, 24, 25, 26, 27, 28, 29, 30, 31, 32, 33, 34, 35, 36, 37, 38, 45, 46, 47, 53] V V435 := agV423.up hV435 rfl
                                          have pq436 : (V435 0 48).toInt = ((V 0 48)).toInt := congrArg Int32.toInt ((up2_o hV435 (by decide)).trans ((ajV423 0 48 rfl).trans ((up2_o hV414 (by decide)).trans ((ajV402 0 48 rfl).trans ((ajV379 0 48 rfl).trans ((up2_o hV372 (by decide)).trans ((ajV366 0 48 rfl).trans ((up2_o hV364 (by decide)).trans ((ajV354 0 48 rfl).trans ((ajV338 0 48 rfl).trans ((ajV321 0 48 rfl).trans ((ajV47 0 48 rfl).trans ((ajV42 0 48 rfl).trans ((ajV29 0 48 rfl).trans (ajV13 0 48 rfl)))))))))))))))
                                          have pq437 : (V435 0 12).toInt = ((V 0 12)).toInt := congrArg Int32.toInt ((up2_o hV435 (by decide)).trans ((ajV423 0 12 rfl).trans ((up2_o hV414 (by decide)).trans ((ajV402 0 12 rfl).trans ((ajV379 0 12 rfl).trans ((up2_o hV372 (by decide)).trans ((ajV366 0 12 rfl).trans ((up2_o hV364 (by decide)).trans ((ajV354 0 12 rfl).trans ((ajV338 0 12 rfl).trans ((ajV321 0 12 rfl).trans ((ajV47 0 12 rfl).trans ((ajV42 0 12 rfl).trans ((ajV29 0 12 rfl).trans (ajV13 0 12 rfl)))))))))))))))
                                          have rl438 : RelM V435 L367 bq gn gT (nx (nx (nx s1 1) 1) 1) (gs.2.1 2) := RelM.ag rl430 (show agr [] [26] V423 V435 from (agr.up agr.rf hV435 rfl)) (by decide) (show agL [] L367 L367 from agL.rf) (by decide)
                                          have ps439 : s1.1 0 + 1 ≤ (nx s1 1).1 0 := ((keepS.n1 1)).1
                                          have ps440 : (nx s1 1).1 0 + 1 ≤ (nx (nx s1 1) 1).1 0 := ((keepS.n1 1)).1
                                          have ps441 : (nx (nx s1 1) 1).1 0 + 1 ≤ (nx (nx (nx s1 1) 1) 1).1 0 := ((keepS.n1 1)).1
                                          have rw442 : RoV 19 bq V V435 := (fun k hk => ((up2_o hV435 (by decide)).trans ((ajV423 19 k rfl).trans ((up2_o hV414 (by decide)).trans ((ajV402 19 k rfl).trans ((ajV379 19 k rfl).trans ((up2_o hV372 (by decide)).trans (xJ365_4 k hk))))))))
                                          have rw443 : RoV 35 bq V V435 := (fun k hk => ((up2_o hV435 (by decide)).trans ((ajV423 35 k rfl).trans ((up2_o hV414 (by decide)).trans ((ajV402 35 k rfl).trans ((ajV379 35 k rfl).trans ((up2_o hV372 (by decide)).trans (xJ365_5 k hk))))))))
                                          have rw444 : RoV 37 bq V V435 := (fun k hk => ((up2_o hV435 (by decide)).trans ((ajV423 37 k rfl).trans ((up2_o hV414 (by decide)).trans ((ajV402 37 k rfl).trans ((ajV379 37 k rfl).trans ((up2_o hV372 (by decide)).trans (xJ365_6 k hk))))))))
                                          have rw445 : RoL 20 24 bq L L367 := (fun k hk => (xJ365_7 k hk))
                                          have rw446 : RoL 36 20 bq L L367 := (fun k hk => (xJ365_8 k hk))
                                          have rw447 : RoL 38 20 bq L L367 := (fun k hk => (xJ365_9 k hk))
                                          exact J52 V435 L367 H locs ls alL367 (agr.up (agr.tr (agr.up (agr.tr (agr.tr (agr.up (agr.tr (agr.up (agr.tr (agr.tr (agr.tr agr.rf ajV321 (by decide) (by decide)) ajV338 (by decide) (by decide)) ajV354 (by decide) (by decide)) hV364 rfl) ajV366 (by decide) (by decide)) hV372 rfl) ajV379 (by decide) (by decide)) ajV402 (by decide) (by decide)) hV414 rfl) ajV423 (by decide) (by decide)) hV435 rfl) hMV435 (Or.inl ⟨W0 rl438, (nx (nx (nx s1 1) 1) 1), s0, hr431, rl438, keepS.le (keepS.tr (keepS.tr (keepS.tr (keepS.tr (keepS.rf : keepS (scopeS s0) 0 (scopeS s0)) k1) (keepS.n1 1)) (keepS.n1 1)) (keepS.n1 1)) (by decide), ((((keepS.n1 1)).2.2.1 2 (by decide)).trans ((((keepS.n1 1)).2.2.1 2 (by decide)).trans ((((keepS.n1 1)).2.2.1 2 (by decide)).trans t1))), ((congrArg (fun q9 => q9.1) ((keepS.n1 1)).2.2.2).trans ((congrArg (fun q9 => q9.1) ((keepS.n1 1)).2.2.2).trans ((congrArg (fun q9 => q9.1) ((keepS.n1 1)).2.2.2).trans w1))), (by omega)⟩) (show (V435 0 48).toInt ≤ 8000 from by first | omega | ((try (have i_t422 := Imp.go t422 (by omega))); (try (have i_t421 := Imp.go t421 (by omega))); (try (have i_t401 := Imp.go t401 (by omega))); (try (have i_t401 := Imp.go t401 (by omega))); (try (have i_t421 := Imp.go t421 (by omega))); (try (have i_t422 := Imp.go t422 (by omega))); omega)) (show (V435 0 48).toInt = (V 0 48).toInt from by first | omega | ((try (have i_t422 := Imp.go t422 (by omega))); (try (have i_t421 := Imp.go t421 (by omega))); (try (have i_t401 := Imp.go t401 (by omega))); (try (have i_t401 := Imp.go t401 (by omega))); (try (have i_t421 := Imp.go t421 (by omega))); (try (have i_t422 := Imp.go t422 (by omega))); omega)) (show (V435 0 12).toInt = (V 0 12).toInt from by first | omega | ((try (have i_t422 := Imp.go t422 (by omega))); (try (have i_t421 := Imp.go t421 (by omega))); (try (have i_t401 := Imp.go t401 (by omega))); (try (have i_t401 := Imp.go t401 (by omega))); (try (have i_t421 := Imp.go t421 (by omega))); (try (have i_t422 := Imp.go t422 (by omega))); omega)) rw442 rw443 rw444 rw445 rw446 rw447 hP hD hS (lv_sub hl [0, 1, 2, 3] rfl)
                                        · skip
                                          have hb448 : ∀ k, Rc gT (Crun gs (Istmt :: k)) (Cbad (V423 0 8).toInt) := fun k => Rc.go1 (hr411 k) ((nm_1 h427).trans (fl_eq rfl rl430))
                                          have nr449 := Imp.go t422 q426
                                          refine va_iast (D := D) (i := z5) (x := z417) hx hb hK hP hD hS 19 18 rfl rfl (i_in (a := z5.toInt) rfl (by first | exact ⟨z5r, z5s⟩ | omega | ((try (have i_t422 := Imp.go t422 (by omega))); (try (have i_t421 := Imp.go t421 (by omega))); (try (have i_t401 := Imp.go t401 (by omega))); (try (have i_t401 := Imp.go t401 (by omega))); (try (have i_t421 := Imp.go t421 (by omega))); (try (have i_t422 := Imp.go t422 (by omega))); omega))) dX12_toldComponent_261 (fun H locs hP hD hS => ?_)
                                          obtain ⟨V450, hV450⟩ : ∃ z, z = up2 V423 26 (Int32.toNatClampNeg z5) z417 := ⟨_, rfl⟩
                                          have hP : va_P D vwCl (mw ad kk ks.1 V450 L367) H := by rw [hV450]; exact hP
                                          have hD : va_D A (mw ad kk ks.1 V450 L367) := by rw [hV450]; exact hD
                                          have hMV450 : rgd bM V450 := hMV423.put hV450 (i_full _)
                                          have agV450 : agr [(0, 7), (0, 8), (0, 48), (0, 50), (0, 51), (0, 52)] [15, 19, 20, 21, 22, 23, 24, 25, 26, 27, 28, 29, 30, 31, 32, 33, 34, 35, 36, 37, 38, 45, 46, 47, 53] V V450 := agV423.up hV450 rfl
                                          have pq451 : (V450 0 48).toInt = ((V 0 48)).toInt := congrArg Int32.toInt ((up2_o hV450 (by decide)).trans ((ajV423 0 48 rfl).trans ((up2_o hV414 (by decide)).trans ((ajV402 0 48 rfl).trans ((ajV379 0 48 rfl).trans ((up2_o hV372 (by decide)).trans ((ajV366 0 48 rfl).trans ((up2_o hV364 (by decide)).trans ((ajV354 0 48 rfl).trans ((ajV338 0 48 rfl).trans ((ajV321 0 48 rfl).trans ((ajV47 0 48 rfl).trans ((ajV42 0 48 rfl).trans ((ajV29 0 48 rfl).trans (ajV13 0 48 rfl)))))))))))))))
                                          have pq452 : (V450 0 12).toInt = ((V 0 12)).toInt := congrArg Int32.toInt ((up2_o hV450 (by decide)).trans ((ajV423 0 12 rfl).trans ((up2_o hV414 (by decide)).trans ((ajV402 0 12 rfl).trans ((ajV379 0 12 rfl).trans ((up2_o hV372 (by decide)).trans ((ajV366 0 12 rfl).trans ((up2_o hV364 (by decide)).trans ((ajV354 0 12 rfl).trans ((ajV338 0 12 rfl).trans ((ajV321 0 12 rfl).trans ((ajV47 0 12 rfl).trans ((ajV42 0 12 rfl).trans ((ajV29 0 12 rfl).trans (ajV13 0 12 rfl)))))))))))))))
                                          have pq453 : (V450 0 8).toInt = ((V423 0 8)).toInt := congrArg Int32.toInt (up2_o hV450 (by decide))
                                          have rw454 : RoV 19 bq V V450 := (fun k hk => ((up2_o hV450 (by decide)).trans ((ajV423 19 k rfl).trans ((up2_o hV414 (by decide)).trans ((ajV402 19 k rfl).trans ((ajV379 19 k rfl).trans ((up2_o hV372 (by decide)).trans (xJ365_4 k hk))))))))
                                          have rw455 : RoV 35 bq V V450 := (fun k hk => ((up2_o hV450 (by decide)).trans ((ajV423 35 k rfl).trans ((up2_o hV414 (by decide)).trans ((ajV402 35 k rfl).trans ((ajV379 35 k rfl).trans ((up2_o hV372 (by decide)).trans (xJ365_5 k hk))))))))
                                          have rw456 : RoV 37 bq V V450 := (fun k hk => ((up2_o hV450 (by decide)).trans ((ajV423 37 k rfl).trans ((up2_o hV414 (by decide)).trans ((ajV402 37 k rfl).trans ((ajV379 37 k rfl).trans ((up2_o hV372 (by decide)).trans (xJ365_6 k hk))))))))
                                          have rw457 : RoL 20 24 bq L L367 := (fun k hk => (xJ365_7 k hk))
                                          have rw458 : RoL 36 20 bq L L367 := (fun k hk => (xJ365_8 k hk))
                                          have rw459 : RoL 38 20 bq L L367 := (fun k hk => (xJ365_9 k hk))
                                          exact J52 V450 L367 H locs ls alL367 (agr.up (agr.tr (agr.up (agr.tr (agr.tr (agr.up (agr.tr (agr.up (agr.tr (agr.tr (agr.tr agr.rf ajV321 (by decide) (by decide)) ajV338 (by decide) (by decide)) ajV354 (by decide) (by decide)) hV364 rfl) ajV366 (by decide) (by decide)) hV372 rfl) ajV379 (by decide) (by decide)) ajV402 (by decide) (by decide)) hV414 rfl) ajV423 (by decide) (by decide)) hV450 rfl) hMV450 (Or.inr ⟨(show 1 ≤ (V450 0 8).toInt from by omega), (fun k => by rw [show (V450 0 8).toInt = (V423 0 8).toInt from by omega]; exact hb448 k)⟩) (show (V450 0 48).toInt ≤ 8000 from by first | omega | ((try (have i_t422 := Imp.go t422 (by omega))); (try (have i_t421 := Imp.go t421 (by omega))); (try (have i_t401 := Imp.go t401 (by omega))); (try (have i_t401 := Imp.go t401 (by omega))); (try (have i_t421 := Imp.go t421 (by omega))); (try (have i_t422 := Imp.go t422 (by omega))); omega)) (show (V450 0 48).toInt = (V 0 48).toInt from by first | omega | ((try (have i_t422 := Imp.go t422 (by omega))); (try (have i_t421 := Imp.go t421 (by omega))); (try (have i_t401 := Imp.go t401 (by omega))); (try (have i_t401 := Imp.go t401 (by omega))); (try (have i_t421 := Imp.go t421 (by omega))); (try (have i_t422 := Imp.go t422 (by omega))); omega)) (show (V450 0 12).toInt = (V 0 12).toInt from by first | omega | ((try (have i_t422 := Imp.go t422 (by omega))); (try (have i_t421 := Imp.go t421 (by omega))); (try (have i_t401 := Imp.go t401 (by omega))); (try (have i_t401 := Imp.go t401 (by omega))); (try (have i_t421 := Imp.go t421 (by omega))); (try (have i_t422 := Imp.go t422 (by omega))); omega)) rw454 rw455 rw456 rw457 rw458 rw459 hP hD hS (lv_sub hl [0, 1, 2, 3] rfl)
                                        · skip
                                          have hb460 : ∀ k, Rc gT (Crun gs (Istmt :: k)) (Cbad (V423 0 8).toInt) := fun k => Rc.go1 (hr411 k) ((nm_4 h427 (by omega)).trans (fl_eq rfl rl430))
                                          have nr461 := Imp.go t422 q426
                                          refine va_iast (D := D) (i := z5) (x := z417) hx hb hK hP hD hS 19 18 rfl rfl (i_in (a := z5.toInt) rfl (by first | exact ⟨z5r, z5s⟩ | omega | ((try (have i_t422 := Imp.go t422 (by omega))); (try (have i_t421 := Imp.go t421 (by omega))); (try (have i_t401 := Imp.go t401 (by omega))); (try (have i_t401 := Imp.go t401 (by omega))); (try (have i_t421 := Imp.go t421 (by omega))); (try (have i_t422 := Imp.go t422 (by omega))); omega))) dX12_toldComponent_261 (fun H locs hP hD hS => ?_)
                                          obtain ⟨V462, hV462⟩ : ∃ z, z = up2 V423 26 (Int32.toNatClampNeg z5) z417 := ⟨_, rfl⟩
                                          have hP : va_P D vwCl (mw ad kk ks.1 V462 L367) H := by rw [hV462]; exact hP
                                          have hD : va_D A (mw ad kk ks.1 V462 L367) := by rw [hV462]; exact hD
                                          have hMV462 : rgd bM V462 := hMV423.put hV462 (i_full _)
                                          have agV462 : agr [(0, 7), (0, 8), (0, 48), (0, 50), (0, 51), (0, 52)] [15, 19, 20, 21, 22, 23, 24, 25, 26, 27, 28, 29, 30, 31, 32, 33, 34, 35, 36, 37, 38, 45, 46, 47, 53] V V462 := agV423.up hV462 rfl
                                          have pq463 : (V462 0 48).toInt = ((V 0 48)).toInt := congrArg Int32.toInt ((up2_o hV462 (by decide)).trans ((ajV423 0 48 rfl).trans ((up2_o hV414 (by decide)).trans ((ajV402 0 48 rfl).trans ((ajV379 0 48 rfl).trans ((up2_o hV372 (by decide)).trans ((ajV366 0 48 rfl).trans ((up2_o hV364 (by decide)).trans ((ajV354 0 48 rfl).trans ((ajV338 0 48 rfl).trans ((ajV321 0 48 rfl).trans ((ajV47 0 48 rfl).trans ((ajV42 0 48 rfl).trans ((ajV29 0 48 rfl).trans (ajV13 0 48 rfl)))))))))))))))
                                          have pq464 : (V462 0 12).toInt = ((V 0 12)).toInt := congrArg Int32.toInt ((up2_o hV462 (by decide)).trans ((ajV423 0 12 rfl).trans ((up2_o hV414 (by decide)).trans ((ajV402 0 12 rfl).trans ((ajV379 0 12 rfl).trans ((up2_o hV372 (by decide)).trans ((ajV366 0 12 rfl).trans ((up2_o hV364 (by decide)).trans ((ajV354 0 12 rfl).trans ((ajV338 0 12 rfl).trans ((ajV321 0 12 rfl).trans ((ajV47 0 12 rfl).trans ((ajV42 0 12 rfl).trans ((ajV29 0 12 rfl).trans (ajV13 0 12 rfl)))))))))))))))
                                          have pq465 : (V462 0 8).toInt = ((V423 0 8)).toInt := congrArg Int32.toInt (up2_o hV462 (by decide))
                                          have rw466 : RoV 19 bq V V462 := (fun k hk => ((up2_o hV462 (by decide)).trans ((ajV423 19 k rfl).trans ((up2_o hV414 (by decide)).trans ((ajV402 19 k rfl).trans ((ajV379 19 k rfl).trans ((up2_o hV372 (by decide)).trans (xJ365_4 k hk))))))))
                                          have rw467 : RoV 35 bq V V462 := (fun k hk => ((up2_o hV462 (by decide)).trans ((ajV423 35 k rfl).trans ((up2_o hV414 (by decide)).trans ((ajV402 35 k rfl).trans ((ajV379 35 k rfl).trans ((up2_o hV372 (by decide)).trans (xJ365_5 k hk))))))))
                                          have rw468 : RoV 37 bq V V462 := (fun k hk => ((up2_o hV462 (by decide)).trans ((ajV423 37 k rfl).trans ((up2_o hV414 (by decide)).trans ((ajV402 37 k rfl).trans ((ajV379 37 k rfl).trans ((up2_o hV372 (by decide)).trans (xJ365_6 k hk))))))))
                                          have rw469 : RoL 20 24 bq L L367 := (fun k hk => (xJ365_7 k hk))
                                          have rw470 : RoL 36 20 bq L L367 := (fun k hk => (xJ365_8 k hk))
                                          have rw471 : RoL 38 20 bq L L367 := (fun k hk => (xJ365_9 k hk))
                                          exact J52 V462 L367 H locs ls alL367 (agr.up (agr.tr (agr.up (agr.tr (agr.tr (agr.up (agr.tr (agr.up (agr.tr (agr.tr (agr.tr agr.rf ajV321 (by decide) (by decide)) ajV338 (by decide) (by decide)) ajV354 (by decide) (by decide)) hV364 rfl) ajV366 (by decide) (by decide)) hV372 rfl) ajV379 (by decide) (by decide)) ajV402 (by decide) (by decide)) hV414 rfl) ajV423 (by decide) (by decide)) hV462 rfl) hMV462 (Or.inr ⟨(show 1 ≤ (V462 0 8).toInt from by omega), (fun k => by rw [show (V462 0 8).toInt = (V423 0 8).toInt from by omega]; exact hb460 k)⟩) (show (V462 0 48).toInt ≤ 8000 from by first | omega | ((try (have i_t422 := Imp.go t422 (by omega))); (try (have i_t421 := Imp.go t421 (by omega))); (try (have i_t401 := Imp.go t401 (by omega))); (try (have i_t401 := Imp.go t401 (by omega))); (try (have i_t421 := Imp.go t421 (by omega))); (try (have i_t422 := Imp.go t422 (by omega))); omega)) (show (V462 0 48).toInt = (V 0 48).toInt from by first | omega | ((try (have i_t422 := Imp.go t422 (by omega))); (try (have i_t421 := Imp.go t421 (by omega))); (try (have i_t401 := Imp.go t401 (by omega))); (try (have i_t401 := Imp.go t401 (by omega))); (try (have i_t421 := Imp.go t421 (by omega))); (try (have i_t422 := Imp.go t422 (by omega))); omega)) (show (V462 0 12).toInt = (V 0 12).toInt from by first | omega | ((try (have i_t422 := Imp.go t422 (by omega))); (try (have i_t421 := Imp.go t421 (by omega))); (try (have i_t401 := Imp.go t401 (by omega))); (try (have i_t401 := Imp.go t401 (by omega))); (try (have i_t421 := Imp.go t421 (by omega))); (try (have i_t422 := Imp.go t422 (by omega))); omega)) rw466 rw467 rw468 rw469 rw470 rw471 hP hD hS (lv_sub hl [0, 1, 2, 3] rfl)
                                      · skip
                                        have hb472 : ∀ k, Rc gT (Crun gs (Istmt :: k)) (Cbad (V402 0 8).toInt) := fun k => Rc.go1 (hr385 k) (se_b h407)
                                        refine va_iast (D := D) (i := z5) (x := z396) hx hb hK hP hD hS 18 17 rfl rfl (i_in (a := z5.toInt) rfl (by first | exact ⟨z5r, z5s⟩ | omega | ((try (have i_t401 := Imp.go t401 (by omega))); omega))) dX12_toldComponent_247 (fun H locs hP hD hS => ?_)
                                        obtain ⟨V473, hV473⟩ : ∃ z, z = up2 V402 25 (Int32.toNatClampNeg z5) z396 := ⟨_, rfl⟩
                                        have hP : va_P D vwCl (mw ad kk ks.1 V473 L367) H := by rw [hV473]; exact hP
                                        have hD : va_D A (mw ad kk ks.1 V473 L367) := by rw [hV473]; exact hD
                                        have hMV473 : rgd bM V473 := hMV402.put hV473 (show (-1) ≤ z396.toInt ∧ z396.toInt ≤ 11 from by first | omega | ((try (have i_t401 := Imp.go t401 (by omega))); omega))
                                        have agV473 : agr [(0, 7), (0, 8), (0, 48), (0, 50), (0, 51), (0, 52)] [15, 19, 20, 21, 22, 23, 24, 25, 26, 27, 28, 29, 30, 31, 32, 33, 34, 35, 36, 37, 38, 45, 46, 47, 53] V V473 := agV402.up hV473 rfl
                                        refine lv_aload_n hx hb dX12_toldComponent_248 rfl (lv_at hl 3 rfl) ?_
                                        refine va_get (D := D) (ci := 12) (v := .ref (ad 26)) (C := RX12) (T := TX12) (N := 100) hx hb hg inX12 hown hK hP 0 rfl rfl 26 (by decide) (hg _ w1732) (fun _ h9 => h9) rfl dX12_toldComponent_249 ?_
                                        refine lv_iload_n hx hb dX12_toldComponent_252 rfl (lv_at hl 2 rfl) ?_
                                        refine lv_aload_n hx hb dX12_toldComponent_253 rfl (lv_at hl 3 rfl) ?_
                                        refine lv_iconst (v := 0) hx hb dX12_toldComponent_254 (by decide) ?_
                                        refine lv_ldcw (v := 999999999) hx hb hown (hg _ w2083) dX12_toldComponent_255 ?_
                                        have r474 : Int32.toInt 999999999 = 999999999 := by decide
                                        have pq475 : (V473 0 8).toInt = ((V402 0 8)).toInt := congrArg Int32.toInt (up2_o hV473 (by decide))
                                        refine gA_int (gA_runV (As := [.int 0, .int 999999999]) (rest := [.int z5, .ref (ad 26)]) (ci := 12) (q0 := 0) hx hb hml hown hg hP hD hK hS hA hnw hgk (s_takeNumberB l D ks H.size ad kk V473 L367 0 999999999 hMV473 (show 1 ≤ (V473 0 8).toInt from by first | omega | ((try (have i_t401 := Imp.go t401 (by omega))); omega))) w2084 w2086 w98 w172 w2087 rfl rfl hdV_yX12_takeNumber ⟨Nat.le_of_ble_eq_true rfl, Nat.le_of_ble_eq_true rfl⟩ rfl hl.1 rfl (Nat.le_of_ble_eq_true rfl) dX12_toldComponent_258 ⟨Nat.le_of_ble_eq_true rfl, Nat.le_of_ble_eq_true rfl⟩) hP hD hK hS hA (fun z476 u477 H locs w478 hP hD hK hS => ?_)
                                        obtain ⟨V480, L481⟩ := u477
                                        obtain ⟨hMV480, ajV480, axL481, rgz476, t479⟩ := w478
                                        have axL481 : L367 = L481 := Eq.symm axL481
                                        subst axL481
                                        have hP : va_P D vwCl (mw ad kk ks.1 V480 L367) H := hP
                                        have hD : va_D A (mw ad kk ks.1 V480 L367) := hD
                                        have hMV480 : rgd bM V480 := hMV480
                                        have ajV480 : agr [(0, 7), (0, 8)] [] V473 V480 := ajV480
                                        have agV480 : agr [(0, 7), (0, 8), (0, 48), (0, 50), (0, 51), (0, 52)] [15, 19, 20, 21, 22, 23, 24, 25, 26, 27, 28, 29, 30, 31, 32, 33, 34, 35, 36, 37, 38, 45, 46, 47, 53] V V480 := agV473.tr ajV480 (by decide) (by decide)
                                        have rgz476 : 0 ≤ z476.toInt ∧ z476.toInt ≤ 0 := rgz476
                                        have t479 : (V480 0 8).toInt = (V473 0 8).toInt := t479
                                        have r482 : 0 ≤ ((V480 0 8)).toInt ∧ ((V480 0 8)).toInt ≤ 70000 := hMV480 0 8
                                        refine va_iast (D := D) (i := z5) (x := z476) hx hb hK hP hD hS 19 18 rfl rfl (i_in (a := z5.toInt) rfl (by first | exact ⟨z5r, z5s⟩ | omega | ((try (have i_t401 := Imp.go t401 (by omega))); omega))) dX12_toldComponent_261 (fun H locs hP hD hS => ?_)
                                        obtain ⟨V483, hV483⟩ : ∃ z, z = up2 V480 26 (Int32.toNatClampNeg z5) z476 := ⟨_, rfl⟩
                                        have hP : va_P D vwCl (mw ad kk ks.1 V483 L367) H := by rw [hV483]; exact hP
                                        have hD : va_D A (mw ad kk ks.1 V483 L367) := by rw [hV483]; exact hD
                                        have hMV483 : rgd bM V483 := hMV480.put hV483 (i_full _)
                                        have agV483 : agr [(0, 7), (0, 8), (0, 48), (0, 50), (0, 51), (0, 52)] [15, 19, 20, 21, 22, 23, 24, 25, 26, 27, 28, 29, 30, 31, 32, 33, 34, 35, 36, 37, 38, 45, 46, 47, 53] V V483 := agV480.up hV483 rfl
                                        have pq484 : (V483 0 48).toInt = ((V 0 48)).toInt := congrArg Int32.toInt ((up2_o hV483 (by decide)).trans ((ajV480 0 48 rfl).trans ((up2_o hV473 (by decide)).trans ((ajV402 0 48 rfl).trans ((ajV379 0 48 rfl).trans ((up2_o hV372 (by decide)).trans ((ajV366 0 48 rfl).trans ((up2_o hV364 (by decide)).trans ((ajV354 0 48 rfl).trans ((ajV338 0 48 rfl).trans ((ajV321 0 48 rfl).trans ((ajV47 0 48 rfl).trans ((ajV42 0 48 rfl).trans ((ajV29 0 48 rfl).trans (ajV13 0 48 rfl)))))))))))))))
                                        have pq485 : (V483 0 12).toInt = ((V 0 12)).toInt := congrArg Int32.toInt ((up2_o hV483 (by decide)).trans ((ajV480 0 12 rfl).trans ((up2_o hV473 (by decide)).trans ((ajV402 0 12 rfl).trans ((ajV379 0 12 rfl).trans ((up2_o hV372 (by decide)).trans ((ajV366 0 12 rfl).trans ((up2_o hV364 (by decide)).trans ((ajV354 0 12 rfl).trans ((ajV338 0 12 rfl).trans ((ajV321 0 12 rfl).trans ((ajV47 0 12 rfl).trans ((ajV42 0 12 rfl).trans ((ajV29 0 12 rfl).trans (ajV13 0 12 rfl)))))))))))))))
                                        have pq486 : (V483 0 8).toInt = ((V480 0 8)).toInt := congrArg Int32.toInt (up2_o hV483 (by decide))
                                        have rw487 : RoV 19 bq V V483 := (fun k hk => ((up2_o hV483 (by decide)).trans ((ajV480 19 k rfl).trans ((up2_o hV473 (by decide)).trans ((ajV402 19 k rfl).trans ((ajV379 19 k rfl).trans ((up2_o hV372 (by decide)).trans (xJ365_4 k hk))))))))
                                        have rw488 : RoV 35 bq V V483 := (fun k hk => ((up2_o hV483 (by decide)).trans ((ajV480 35 k rfl).trans ((up2_o hV473 (by decide)).trans ((ajV402 35 k rfl).trans ((ajV379 35 k rfl).trans ((up2_o hV372 (by decide)).trans (xJ365_5 k hk))))))))
                                        have rw489 : RoV 37 bq V V483 := (fun k hk => ((up2_o hV483 (by decide)).trans ((ajV480 37 k rfl).trans ((up2_o hV473 (by decide)).trans ((ajV402 37 k rfl).trans ((ajV379 37 k rfl).trans ((up2_o hV372 (by decide)).trans (xJ365_6 k hk))))))))
                                        have rw490 : RoL 20 24 bq L L367 := (fun k hk => (xJ365_7 k hk))
                                        have rw491 : RoL 36 20 bq L L367 := (fun k hk => (xJ365_8 k hk))
                                        have rw492 : RoL 38 20 bq L L367 := (fun k hk => (xJ365_9 k hk))
                                        exact J52 V483 L367 H locs ls alL367 (agr.up (agr.tr (agr.up (agr.tr (agr.tr (agr.up (agr.tr (agr.up (agr.tr (agr.tr (agr.tr agr.rf ajV321 (by decide) (by decide)) ajV338 (by decide) (by decide)) ajV354 (by decide) (by decide)) hV364 rfl) ajV366 (by decide) (by decide)) hV372 rfl) ajV379 (by decide) (by decide)) ajV402 (by decide) (by decide)) hV473 rfl) ajV480 (by decide) (by decide)) hV483 rfl) hMV483 (Or.inr ⟨(show 1 ≤ (V483 0 8).toInt from by omega), (fun k => by rw [show (V483 0 8).toInt = (V402 0 8).toInt from by omega]; exact hb472 k)⟩) (show (V483 0 48).toInt ≤ 8000 from by first | omega | ((try (have i_t401 := Imp.go t401 (by omega))); omega)) (show (V483 0 48).toInt = (V 0 48).toInt from by first | omega | ((try (have i_t401 := Imp.go t401 (by omega))); omega)) (show (V483 0 12).toInt = (V 0 12).toInt from by first | omega | ((try (have i_t401 := Imp.go t401 (by omega))); omega)) rw487 rw488 rw489 rw490 rw491 rw492 hP hD hS (lv_sub hl [0, 1, 2, 3] rfl)
                                  · skip
                                    have kd493 : gT.1 (s1.1 0) ≠ 135 := fun h9 => h382 (h9.trans (by decide))
                                    have fz494 := RelM.rg rl383
                                    have pq495 : (V379 0 8).toInt = ((V366 0 8)).toInt := congrArg Int32.toInt ((ajV379 0 8 rfl).trans (up2_o hV372 (by decide)))
                                    refine lv_if_eq (tgt := 262) hx hb dX12_toldComponent_215 (by decide) (fun c496 => ?_) (fun c496 => ?_)
                                    · skip
                                      have f497 : z375.toInt = 0 := b_eq rfl (by decide) c496
                                      have pq498 : (V379 0 48).toInt = ((V 0 48)).toInt := congrArg Int32.toInt ((ajV379 0 48 rfl).trans ((up2_o hV372 (by decide)).trans ((ajV366 0 48 rfl).trans ((up2_o hV364 (by decide)).trans ((ajV354 0 48 rfl).trans ((ajV338 0 48 rfl).trans ((ajV321 0 48 rfl).trans ((ajV47 0 48 rfl).trans ((ajV42 0 48 rfl).trans ((ajV29 0 48 rfl).trans (ajV13 0 48 rfl)))))))))))
                                      have pq499 : (V379 0 12).toInt = ((V 0 12)).toInt := congrArg Int32.toInt ((ajV379 0 12 rfl).trans ((up2_o hV372 (by decide)).trans ((ajV366 0 12 rfl).trans ((up2_o hV364 (by decide)).trans ((ajV354 0 12 rfl).trans ((ajV338 0 12 rfl).trans ((ajV321 0 12 rfl).trans ((ajV47 0 12 rfl).trans ((ajV42 0 12 rfl).trans ((ajV29 0 12 rfl).trans (ajV13 0 12 rfl)))))))))))
                                      have hr500 : ∀ k, Rc gT (Crun gs (Istmt :: k)) (Crun s1 (Itake 123 :: IaddNm wx32 :: Imember :: k)) := fun k => Rc.go1 (h1 k) (when_n  kd493)
                                      have rw501 : RoV 19 bq V V379 := (fun k hk => ((ajV379 19 k rfl).trans ((up2_o hV372 (by decide)).trans (xJ365_4 k hk))))
                                      have rw502 : RoV 35 bq V V379 := (fun k hk => ((ajV379 35 k rfl).trans ((up2_o hV372 (by decide)).trans (xJ365_5 k hk))))
                                      have rw503 : RoV 37 bq V V379 := (fun k hk => ((ajV379 37 k rfl).trans ((up2_o hV372 (by decide)).trans (xJ365_6 k hk))))
                                      have rw504 : RoL 20 24 bq L L367 := (fun k hk => (xJ365_7 k hk))
                                      have rw505 : RoL 36 20 bq L L367 := (fun k hk => (xJ365_8 k hk))
                                      have rw506 : RoL 38 20 bq L L367 := (fun k hk => (xJ365_9 k hk))
                                      exact J52 V379 L367 H locs ls alL367 (agr.tr (agr.up (agr.tr (agr.up (agr.tr (agr.tr (agr.tr agr.rf ajV321 (by decide) (by decide)) ajV338 (by decide) (by decide)) ajV354 (by decide) (by decide)) hV364 rfl) ajV366 (by decide) (by decide)) hV372 rfl) ajV379 (by decide) (by decide)) hMV379 (Or.inl ⟨W0 rl383, s1, s0, hr500, rl383, keepS.le (keepS.tr (keepS.rf : keepS (scopeS s0) 0 (scopeS s0)) k1) (by decide), t1, w1, (by omega)⟩) (show (V379 0 48).toInt ≤ 8000 from by omega) (show (V379 0 48).toInt = (V 0 48).toInt from by omega) (show (V379 0 12).toInt = (V 0 12).toInt from by omega) rw501 rw502 rw503 rw504 rw505 rw506 hP hD hS (lv_sub hl [0, 1, 2, 3] rfl)
                                    · skip
                                      have f507 : z375.toInt ≠ 0 := b_neq rfl (by decide) c496
                                      exfalso; omega
                                · skip
                                  have r508 : 0 ≤ ((V366 0 8)).toInt ∧ ((V366 0 8)).toInt ≤ 70000 := hMV366 0 8
                                  refine lv_aload_n hx hb dX12_toldComponent_202 rfl (lv_at hl 3 rfl) ?_
                                  refine va_get (D := D) (ci := 12) (v := .ref (ad 25)) (C := RX12) (T := TX12) (N := 100) hx hb hg inX12 hown hK hP 0 rfl rfl 25 (by decide) (hg _ w1731) (fun _ h9 => h9) rfl dX12_toldComponent_203 ?_
                                  refine lv_iload_n hx hb dX12_toldComponent_206 rfl (lv_at hl 2 rfl) ?_
                                  refine lv_iconst (v := (-1)) hx hb dX12_toldComponent_207 (by decide) ?_
                                  refine va_iast (D := D) (i := z5) (x := (-1)) hx hb hK hP hD hS 18 17 rfl rfl (i_in (a := z5.toInt) rfl (by omega)) dX12_toldComponent_208 (fun H locs hP hD hS => ?_)
                                  obtain ⟨V509, hV509⟩ : ∃ z, z = up2 V366 25 (Int32.toNatClampNeg z5) (-1) := ⟨_, rfl⟩
                                  have hP : va_P D vwCl (mw ad kk ks.1 V509 L367) H := by rw [hV509]; exact hP
                                  have hD : va_D A (mw ad kk ks.1 V509 L367) := by rw [hV509]; exact hD
                                  have hMV509 : rgd bM V509 := hMV366.put hV509 (show (-1) ≤ Int32.toInt (-1) ∧ Int32.toInt (-1) ≤ 11 from by decide)
                                  have agV509 : agr [(0, 7), (0, 8), (0, 48), (0, 50), (0, 51), (0, 52)] [15, 19, 20, 21, 22, 23, 24, 25, 26, 27, 28, 29, 30, 31, 32, 33, 34, 35, 36, 37, 38, 45, 46, 47, 53] V V509 := agV366.up hV509 rfl
                                  refine lv_aload_n hx hb dX12_toldComponent_209 rfl (lv_at hl 3 rfl) ?_
                                  refine lv_bipush (v := 7) hx hb dX12_toldComponent_210 (by decide) ?_
                                  have r510 : Int32.toInt 7 = 7 := by decide
                                  have pq511 : (V509 0 8).toInt = ((V366 0 8)).toInt := congrArg Int32.toInt (up2_o hV509 (by decide))
                                  refine gA_int (gA_runV (As := [.int 7]) (rest := []) (ci := 12) (q0 := 0) hx hb hml hown hg hP hD hK hS hA hnw hgk (s_hasWordB l D ks H.size ad kk V509 L367 7 hMV509 (by decide) (show 1 ≤ (V509 0 8).toInt from by omega)) w2051 w2053 w90 w172 w2054 rfl rfl hdV_yX12_hasWord ⟨Nat.le_of_ble_eq_true rfl, Nat.le_of_ble_eq_true rfl⟩ rfl hl.1 rfl (Nat.le_of_ble_eq_true rfl) dX12_toldComponent_212 ⟨Nat.le_of_ble_eq_true rfl, Nat.le_of_ble_eq_true rfl⟩) hP hD hK hS hA (fun z512 u513 H locs w514 hP hD hK hS => ?_)
                                  obtain ⟨V516, L517⟩ := u513
                                  obtain ⟨hMV516, ajV516, axL517, rgz512, t515⟩ := w514
                                  have axL517 : L367 = L517 := Eq.symm axL517
                                  subst axL517
                                  have hP : va_P D vwCl (mw ad kk ks.1 V516 L367) H := hP
                                  have hD : va_D A (mw ad kk ks.1 V516 L367) := hD
                                  have hMV516 : rgd bM V516 := hMV516
                                  have ajV516 : agr [(0, 7)] [] V509 V516 := ajV516
                                  have agV516 : agr [(0, 7), (0, 8), (0, 48), (0, 50), (0, 51), (0, 52)] [15, 19, 20, 21, 22, 23, 24, 25, 26, 27, 28, 29, 30, 31, 32, 33, 34, 35, 36, 37, 38, 45, 46, 47, 53] V V516 := agV509.tr ajV516 (by decide) (by decide)
                                  have rgz512 : 0 ≤ z512.toInt ∧ z512.toInt ≤ 0 := rgz512
                                  have t515 : (V516 0 8).toInt = (V509 0 8).toInt := t515
                                  have pq518 : (V516 0 8).toInt = ((V366 0 8)).toInt := congrArg Int32.toInt ((ajV516 0 8 rfl).trans (up2_o hV509 (by decide)))
                                  refine lv_if_eq (tgt := 262) hx hb dX12_toldComponent_215 (by decide) (fun c519 => ?_) (fun c519 => ?_)
                                  · skip
                                    have f520 : z512.toInt = 0 := b_eq rfl (by decide) c519
                                    have pq521 : (V516 0 48).toInt = ((V 0 48)).toInt := congrArg Int32.toInt ((ajV516 0 48 rfl).trans ((up2_o hV509 (by decide)).trans ((ajV366 0 48 rfl).trans ((up2_o hV364 (by decide)).trans ((ajV354 0 48 rfl).trans ((ajV338 0 48 rfl).trans ((ajV321 0 48 rfl).trans ((ajV47 0 48 rfl).trans ((ajV42 0 48 rfl).trans ((ajV29 0 48 rfl).trans (ajV13 0 48 rfl)))))))))))
                                    have pq522 : (V516 0 12).toInt = ((V 0 12)).toInt := congrArg Int32.toInt ((ajV516 0 12 rfl).trans ((up2_o hV509 (by decide)).trans ((ajV366 0 12 rfl).trans ((up2_o hV364 (by decide)).trans ((ajV354 0 12 rfl).trans ((ajV338 0 12 rfl).trans ((ajV321 0 12 rfl).trans ((ajV47 0 12 rfl).trans ((ajV42 0 12 rfl).trans ((ajV29 0 12 rfl).trans (ajV13 0 12 rfl)))))))))))
                                    have rw523 : RoV 19 bq V V516 := (fun k hk => ((ajV516 19 k rfl).trans ((up2_o hV509 (by decide)).trans (xJ365_4 k hk))))
                                    have rw524 : RoV 35 bq V V516 := (fun k hk => ((ajV516 35 k rfl).trans ((up2_o hV509 (by decide)).trans (xJ365_5 k hk))))
                                    have rw525 : RoV 37 bq V V516 := (fun k hk => ((ajV516 37 k rfl).trans ((up2_o hV509 (by decide)).trans (xJ365_6 k hk))))
                                    have rw526 : RoL 20 24 bq L L367 := (fun k hk => (xJ365_7 k hk))
                                    have rw527 : RoL 36 20 bq L L367 := (fun k hk => (xJ365_8 k hk))
                                    have rw528 : RoL 38 20 bq L L367 := (fun k hk => (xJ365_9 k hk))
                                    exact J52 V516 L367 H locs ls alL367 (agr.tr (agr.up (agr.tr (agr.up (agr.tr (agr.tr (agr.tr agr.rf ajV321 (by decide) (by decide)) ajV338 (by decide) (by decide)) ajV354 (by decide) (by decide)) hV364 rfl) ajV366 (by decide) (by decide)) hV509 rfl) ajV516 (by decide) (by decide)) hMV516 (Or.inr ⟨(show 1 ≤ (V516 0 8).toInt from by omega), (fun k => by rw [show (V516 0 8).toInt = (V366 0 8).toInt from by omega]; exact h1 k)⟩) (show (V516 0 48).toInt ≤ 8000 from by omega) (show (V516 0 48).toInt = (V 0 48).toInt from by omega) (show (V516 0 12).toInt = (V 0 12).toInt from by omega) rw523 rw524 rw525 rw526 rw527 rw528 hP hD hS (lv_sub hl [0, 1, 2, 3] rfl)
                                  · skip
                                    have f529 : z512.toInt ≠ 0 := b_neq rfl (by decide) c519
                                    exfalso; omega
                              have J530 : ∀ (V531 : Vf) (L532 : Lf) (H : Heap) (locs : List Loc) (ls : Array Slot), agL [15, 19, 20, 21, 22, 23, 24, 25, 26, 27, 28, 29, 30, 31, 32, 33, 34, 35, 36, 37, 38, 45, 46, 47, 53] L L532 → agr [(0, 7), (0, 8)] [23, 35, 36, 37, 38] V364 V531 → rgd bM V531 → (((V531 0 8).toInt = 0 ∧ ∃ s1 s0 : St, (∀ k, Rc gT (Crun gs (Istmt :: k)) (Crun s1 (Irank :: IwhenI :: Itake 123 :: IaddNm (wx32) :: Imember :: k))) ∧ RelM V531 L532 bq gn gT s1 (gs.2.1 2) ∧ keepS (scopeS s0) 0 s1 ∧ s1.2.1 2 = gs.2.1 2 ∧ s1.2.2.1 = gs.2.2.1 ∧ gs.1 0 + 1 ≤ s1.1 0) ∨ (1 ≤ (V531 0 8).toInt ∧ ∀ k, Rc gT (Crun gs (Istmt :: k)) (Cbad (V531 0 8).toInt))) → (V531 0 48).toInt ≤ 8000 → (V531 0 48).toInt = (V 0 48).toInt → (V531 0 12).toInt = (V 0 12).toInt → (RoV 19 bq V V531) → (RoV 35 bq V V531) → (RoV 37 bq V V531) → (RoL 20 24 bq L L532) → (RoL 36 20 bq L L532) → (RoL 38 20 bq L L532) → va_P D vwCl (mw ad kk ks.1 V531 L532) H → va_D A (mw ad kk ks.1 V531 L532) → va_S A s.heap H locs → lv_has ls 5 [(4, .int y46), (2, .long z25), (1, .int z5), (0, .ref (ad 0))] → W p l e r_s_toldComponentA s m ([.ref (ad 0)] : List Value).toArray below meth c H locs 0 0 (MQ below (q_s_toldComponentA D ks ad kk V L  bq gn gT gs A) ([.ref (ad 0)] : List Value).toArray s 0 0 A) (F0 m 176 ls []) := by
                                as_aux_lemma =>
                                (try clear ps363); (try clear fz361); (try clear rl360); (try clear hr359); (try clear ps348); (try clear fz346); (try clear hr345); (try clear fz329); (try clear ps328); (try clear hr327); (try clear kd326); (try clear rl315); (try clear fz39); (try clear ps38); (try clear hr37); (try clear fz21); (try clear ps20); (try clear hr19); (try clear hr18)
                                intro V531 L532 H locs ls alL532 ajV531 hMV531 xJ530_0 xJ530_1 xJ530_2 xJ530_3 xJ530_4 xJ530_5 xJ530_6 xJ530_7 xJ530_8 xJ530_9 hP hD hS hl
                                have agV531 : agr [(0, 7), (0, 8), (0, 48), (0, 50), (0, 51), (0, 52)] [15, 19, 20, 21, 22, 23, 24, 25, 26, 27, 28, 29, 30, 31, 32, 33, 34, 35, 36, 37, 38, 45, 46, 47, 53] V V531 := agV364.tr ajV531 (by decide) (by decide)
                                have pq533 : (V531 0 48).toInt = ((V 0 48)).toInt := congrArg Int32.toInt ((ajV531 0 48 rfl).trans ((up2_o hV364 (by decide)).trans ((ajV354 0 48 rfl).trans ((ajV338 0 48 rfl).trans ((ajV321 0 48 rfl).trans ((ajV47 0 48 rfl).trans ((ajV42 0 48 rfl).trans ((ajV29 0 48 rfl).trans (ajV13 0 48 rfl)))))))))
                                have pq534 : (V531 0 12).toInt = ((V 0 12)).toInt := congrArg Int32.toInt ((ajV531 0 12 rfl).trans ((up2_o hV364 (by decide)).trans ((ajV354 0 12 rfl).trans ((ajV338 0 12 rfl).trans ((ajV321 0 12 rfl).trans ((ajV47 0 12 rfl).trans ((ajV42 0 12 rfl).trans ((ajV29 0 12 rfl).trans (ajV13 0 12 rfl)))))))))
                                rcases xJ530_0 with ⟨f7, s1, s0, h1, r1, k1, t1, w1, g1⟩ | ⟨f7, h1⟩
                                · skip
                                  have fz535 := RelM.rg r1
                                  have r536 : 0 ≤ ((V531 0 8)).toInt ∧ ((V531 0 8)).toInt ≤ 70000 := hMV531 0 8
                                  refine lv_aload_n hx hb dX12_toldComponent_176 rfl (lv_at hl 3 rfl) ?_
                                  refine va_get (D := D) (ci := 12) (v := .ref (ad 24)) (C := RX12) (T := TX12) (N := 100) hx hb hg inX12 hown hK hP 0 rfl rfl 24 (by decide) (hg _ w1730) (fun _ h9 => h9) rfl dX12_toldComponent_177 ?_
                                  refine lv_iload_n hx hb dX12_toldComponent_180 rfl (lv_at hl 2 rfl) ?_
                                  refine lv_aload_n hx hb dX12_toldComponent_181 rfl (lv_at hl 3 rfl) ?_
                                  refine lv_bipush (v := 6) hx hb dX12_toldComponent_182 (by decide) ?_
                                  have r537 : Int32.toInt 6 = 6 := by decide
                                  refine gA_int (gA_runV (As := [.int 6]) (rest := [.int z5, .ref (ad 24)]) (ci := 12) (q0 := 0) hx hb hml hown hg hP hD hK hS hA hnw hgk (s_hasWordA l D ks H.size ad kk V531 L532 6 (bq) (gn) (gT) (s1) ((gs.2.1 2)) hMV531 (by decide) r1) w2051 w2053 w90 w172 w2054 rfl rfl hdV_yX12_hasWord ⟨Nat.le_of_ble_eq_true rfl, Nat.le_of_ble_eq_true rfl⟩ rfl hl.1 rfl (Nat.le_of_ble_eq_true rfl) dX12_toldComponent_184 ⟨Nat.le_of_ble_eq_true rfl, Nat.le_of_ble_eq_true rfl⟩) hP hD hK hS hA (fun z538 u539 H locs w540 hP hD hK hS => ?_)
                                  obtain ⟨V542, L543⟩ := u539
                                  obtain ⟨hMV542, ajV542, axL543, rgz538, t541⟩ := w540
                                  have axL543 : L532 = L543 := Eq.symm axL543
                                  subst axL543
                                  have hP : va_P D vwCl (mw ad kk ks.1 V542 L532) H := hP
                                  have hD : va_D A (mw ad kk ks.1 V542 L532) := hD
                                  have hMV542 : rgd bM V542 := hMV542
                                  have ajV542 : agr [(0, 7)] [] V531 V542 := ajV542
                                  have agV542 : agr [(0, 7), (0, 8), (0, 48), (0, 50), (0, 51), (0, 52)] [15, 19, 20, 21, 22, 23, 24, 25, 26, 27, 28, 29, 30, 31, 32, 33, 34, 35, 36, 37, 38, 45, 46, 47, 53] V V542 := agV531.tr ajV542 (by decide) (by decide)
                                  have rgz538 : 0 ≤ z538.toInt ∧ z538.toInt ≤ 1 := rgz538
                                  have t541 : (z538.toInt = 1 ∧ (gT).1 ((s1).1 0) = 128 + (Int32.toInt 6) ∧ RelM V542 L532 (bq) (gn) (gT) (nx (s1) 1) ((gs.2.1 2))) ∨ (z538.toInt = 0 ∧ (gT).1 ((s1).1 0) ≠ 128 + (Int32.toInt 6) ∧ RelM V542 L532 (bq) (gn) (gT) (s1) ((gs.2.1 2))) := t541
                                  rcases t541 with ⟨q544, h545, rl546⟩ | ⟨q544, h545, rl546⟩
                                  · skip
                                    have kd547 : gT.1 (s1.1 0) = 134 := h545.trans (by decide)
                                    have hr548 : ∀ k, Rc gT (Crun gs (Istmt :: k)) (Crun (nx s1 1) (Inum 0 9 :: IwhenI :: Itake 123 :: IaddNm wx32 :: Imember :: k)) := fun k => Rc.go1 (h1 k) (rank_y  kd547)
                                    have ps549 : (nx s1 1).1 0 = s1.1 0 + 1 := rfl
                                    have fz550 := RelM.rg rl546
                                    have pq551 : (V542 0 8).toInt = ((V531 0 8)).toInt := congrArg Int32.toInt (ajV542 0 8 rfl)
                                    refine lv_if_eq (tgt := 200) hx hb dX12_toldComponent_187 (by decide) (fun c552 => ?_) (fun c552 => ?_)
                                    · skip
                                      have f553 : z538.toInt = 0 := b_eq rfl (by decide) c552
                                      exfalso; omega
                                    · skip
                                      have f554 : z538.toInt ≠ 0 := b_neq rfl (by decide) c552
                                      refine lv_aload_n hx hb dX12_toldComponent_190 rfl (lv_at hl 3 rfl) ?_
                                      refine lv_iconst (v := 0) hx hb dX12_toldComponent_191 (by decide) ?_
                                      refine lv_bipush (v := 9) hx hb dX12_toldComponent_192 (by decide) ?_
                                      have r555 : Int32.toInt 9 = 9 := by decide
                                      refine gA_int (gA_runV (As := [.int 0, .int 9]) (rest := [.int z5, .ref (ad 24)]) (ci := 12) (q0 := 0) hx hb hml hown hg hP hD hK hS hA hnw hgk (s_takeNumberA l D ks H.size ad kk V542 L532 0 9 (bq) (gn) (gT) ((nx s1 1)) ((gs.2.1 2)) hMV542 rl546 (show -1 ≤ (Int32.toInt 9) ∧ (Int32.toInt 9) ≤ 999999999 from by omega) (show 0 ≤ (Int32.toInt 0) from by omega)) w2084 w2086 w98 w172 w2087 rfl rfl hdV_yX12_takeNumber ⟨Nat.le_of_ble_eq_true rfl, Nat.le_of_ble_eq_true rfl⟩ rfl hl.1 rfl (Nat.le_of_ble_eq_true rfl) dX12_toldComponent_194 ⟨Nat.le_of_ble_eq_true rfl, Nat.le_of_ble_eq_true rfl⟩) hP hD hK hS hA (fun z556 u557 H locs w558 hP hD hK hS => ?_)
                                      obtain ⟨V562, L563⟩ := u557
                                      obtain ⟨hMV562, ajV562, axL563, t559, t560, t561⟩ := w558
                                      have axL563 : L532 = L563 := Eq.symm axL563
                                      subst axL563
                                      have hP : va_P D vwCl (mw ad kk ks.1 V562 L532) H := hP
                                      have hD : va_D A (mw ad kk ks.1 V562 L532) := hD
                                      have hMV562 : rgd bM V562 := hMV562
                                      have ajV562 : agr [(0, 7), (0, 8)] [] V542 V562 := ajV562
                                      have agV562 : agr [(0, 7), (0, 8), (0, 48), (0, 50), (0, 51), (0, 52)] [15, 19, 20, 21, 22, 23, 24, 25, 26, 27, 28, 29, 30, 31, 32, 33, 34, 35, 36, 37, 38, 45, 46, 47, 53] V V562 := agV542.tr ajV562 (by decide) (by decide)
                                      have t559 : ((V562 0 8).toInt = 0 ∧ (gT).1 (((nx s1 1)).1 0) = 2 ∧ (Int32.toInt 0) ≤ ((gT).2.1 (((nx s1 1)).1 0)).toInt ∧ ((gT).2.1 (((nx s1 1)).1 0)).toInt ≤ (Int32.toInt 9) ∧ RelM V562 L532 (bq) (gn) (gT) (nx ((nx s1 1)) 1) ((gs.2.1 2))) ∨ (1 ≤ (V562 0 8).toInt ∧ (((gT).1 (((nx s1 1)).1 0) ≠ 2 ∧ (V562 0 8).toInt = 1 + 16 * (gT).2.2 (((nx s1 1)).1 0)) ∨ ((gT).1 (((nx s1 1)).1 0) = 2 ∧ (((gT).2.1 (((nx s1 1)).1 0)).toInt < (Int32.toInt 0) ∨ (Int32.toInt 9) < ((gT).2.1 (((nx s1 1)).1 0)).toInt) ∧ (V562 0 8).toInt = 4 + 16 * (gT).2.2 (((nx s1 1)).1 0)))) := t559
                                      have t560 : Imp ((V562 0 8).toInt = 0) ((Int32.toInt 0) ≤ z556.toInt ∧ z556.toInt ≤ (Int32.toInt 9)) := t560
                                      have t561 : Imp (1 ≤ (V562 0 8).toInt) (z556.toInt = 0) := t561
                                      have r564 : 0 ≤ ((V562 0 8)).toInt ∧ ((V562 0 8)).toInt ≤ 70000 := hMV562 0 8
                                      rcases t559 with ⟨q565, h566, h567, h568, rl569⟩ | ⟨q565, ⟨h566, rl569⟩ | ⟨h566, h567, rl569⟩⟩
                                      · skip
                                        have hr570 : ∀ k, Rc gT (Crun gs (Istmt :: k)) (Crun (nx (nx s1 1) 1) (IwhenI :: Itake 123 :: IaddNm wx32 :: Imember :: k)) := fun k => Rc.go1 (hr548 k) (nm_y h566 (by omega) (by omega))
                                        have ps571 : (nx (nx s1 1) 1).1 0 = (nx s1 1).1 0 + 1 := rfl
                                        have fz572 := RelM.rg rl569
                                        have nr573 := Imp.go t560 q565
                                        refine lv_goto (tgt := 201) hx hb dX12_toldComponent_197 (by decide) ?_
                                        refine va_iast (D := D) (i := z5) (x := z556) hx hb hK hP hD hS 17 16 rfl rfl (i_in (a := z5.toInt) rfl (by first | exact ⟨z5r, z5s⟩ | omega | ((try (have i_t561 := Imp.go t561 (by omega))); (try (have i_t560 := Imp.go t560 (by omega))); (try (have i_t560 := Imp.go t560 (by omega))); (try (have i_t561 := Imp.go t561 (by omega))); omega))) dX12_toldComponent_201 (fun H locs hP hD hS => ?_)
                                        obtain ⟨V574, hV574⟩ : ∃ z, z = up2 V562 24 (Int32.toNatClampNeg z5) z556 := ⟨_, rfl⟩
                                        have hP : va_P D vwCl (mw ad kk ks.1 V574 L532) H := by rw [hV574]; exact hP
                                        have hD : va_D A (mw ad kk ks.1 V574 L532) := by rw [hV574]; exact hD
                                        have hMV574 : rgd bM V574 := hMV562.put hV574 (show 0 ≤ z556.toInt ∧ z556.toInt ≤ 9 from by first | omega | ((try (have i_t561 := Imp.go t561 (by omega))); (try (have i_t560 := Imp.go t560 (by omega))); (try (have i_t560 := Imp.go t560 (by omega))); (try (have i_t561 := Imp.go t561 (by omega))); omega))
                                        have agV574 : agr [(0, 7), (0, 8), (0, 48), (0, 50), (0, 51), (0, 52)] [15, 19, 20, 21, 22, 23, 24, 25, 26, 27, 28, 29, 30, 31, 32, 33, 34, 35, 36, 37, 38, 45, 46, 47, 53] V V574 := agV562.up hV574 rfl
                                        have pq575 : (V574 0 48).toInt = ((V 0 48)).toInt := congrArg Int32.toInt ((up2_o hV574 (by decide)).trans ((ajV562 0 48 rfl).trans ((ajV542 0 48 rfl).trans ((ajV531 0 48 rfl).trans ((up2_o hV364 (by decide)).trans ((ajV354 0 48 rfl).trans ((ajV338 0 48 rfl).trans ((ajV321 0 48 rfl).trans ((ajV47 0 48 rfl).trans ((ajV42 0 48 rfl).trans ((ajV29 0 48 rfl).trans (ajV13 0 48 rfl))))))))))))
                                        have pq576 : (V574 0 12).toInt = ((V 0 12)).toInt := congrArg Int32.toInt ((up2_o hV574 (by decide)).trans ((ajV562 0 12 rfl).trans ((ajV542 0 12 rfl).trans ((ajV531 0 12 rfl).trans ((up2_o hV364 (by decide)).trans ((ajV354 0 12 rfl).trans ((ajV338 0 12 rfl).trans ((ajV321 0 12 rfl).trans ((ajV47 0 12 rfl).trans ((ajV42 0 12 rfl).trans ((ajV29 0 12 rfl).trans (ajV13 0 12 rfl))))))))))))
                                        have rl577 : RelM V574 L532 bq gn gT (nx (nx s1 1) 1) (gs.2.1 2) := RelM.ag rl569 (show agr [] [24] V562 V574 from (agr.up agr.rf hV574 rfl)) (by decide) (show agL [] L532 L532 from agL.rf) (by decide)
                                        have ps578 : s1.1 0 + 1 ≤ (nx s1 1).1 0 := ((keepS.n1 1)).1
                                        have ps579 : (nx s1 1).1 0 + 1 ≤ (nx (nx s1 1) 1).1 0 := ((keepS.n1 1)).1
                                        have rw580 : RoV 19 bq V V574 := (fun k hk => ((up2_o hV574 (by decide)).trans ((ajV562 19 k rfl).trans ((ajV542 19 k rfl).trans (xJ530_4 k hk)))))
                                        have rw581 : RoV 35 bq V V574 := (fun k hk => ((up2_o hV574 (by decide)).trans ((ajV562 35 k rfl).trans ((ajV542 35 k rfl).trans (xJ530_5 k hk)))))
                                        have rw582 : RoV 37 bq V V574 := (fun k hk => ((up2_o hV574 (by decide)).trans ((ajV562 37 k rfl).trans ((ajV542 37 k rfl).trans (xJ530_6 k hk)))))
                                        have rw583 : RoL 20 24 bq L L532 := (fun k hk => (xJ530_7 k hk))
                                        have rw584 : RoL 36 20 bq L L532 := (fun k hk => (xJ530_8 k hk))
                                        have rw585 : RoL 38 20 bq L L532 := (fun k hk => (xJ530_9 k hk))
                                        exact J365 V574 L532 H locs ls alL532 (agr.up (agr.tr (agr.tr (agr.tr agr.rf ajV531 (by decide) (by decide)) ajV542 (by decide) (by decide)) ajV562 (by decide) (by decide)) hV574 rfl) hMV574 (Or.inl ⟨W0 rl577, (nx (nx s1 1) 1), s0, hr570, rl577, keepS.le (keepS.tr (keepS.tr (keepS.tr (keepS.rf : keepS (scopeS s0) 0 (scopeS s0)) k1) (keepS.n1 1)) (keepS.n1 1)) (by decide), ((((keepS.n1 1)).2.2.1 2 (by decide)).trans ((((keepS.n1 1)).2.2.1 2 (by decide)).trans t1)), ((congrArg (fun q9 => q9.1) ((keepS.n1 1)).2.2.2).trans ((congrArg (fun q9 => q9.1) ((keepS.n1 1)).2.2.2).trans w1)), (by omega)⟩) (show (V574 0 48).toInt ≤ 8000 from by first | omega | ((try (have i_t561 := Imp.go t561 (by omega))); (try (have i_t560 := Imp.go t560 (by omega))); (try (have i_t560 := Imp.go t560 (by omega))); (try (have i_t561 := Imp.go t561 (by omega))); omega)) (show (V574 0 48).toInt = (V 0 48).toInt from by first | omega | ((try (have i_t561 := Imp.go t561 (by omega))); (try (have i_t560 := Imp.go t560 (by omega))); (try (have i_t560 := Imp.go t560 (by omega))); (try (have i_t561 := Imp.go t561 (by omega))); omega)) (show (V574 0 12).toInt = (V 0 12).toInt from by first | omega | ((try (have i_t561 := Imp.go t561 (by omega))); (try (have i_t560 := Imp.go t560 (by omega))); (try (have i_t560 := Imp.go t560 (by omega))); (try (have i_t561 := Imp.go t561 (by omega))); omega)) rw580 rw581 rw582 rw583 rw584 rw585 hP hD hS (lv_sub hl [0, 1, 2, 3] rfl)
                                      · skip
                                        have hb586 : ∀ k, Rc gT (Crun gs (Istmt :: k)) (Cbad (V562 0 8).toInt) := fun k => Rc.go1 (hr548 k) ((nm_1 h566).trans (fl_eq rfl rl569))
                                        have nr587 := Imp.go t561 q565
                                        refine lv_goto (tgt := 201) hx hb dX12_toldComponent_197 (by decide) ?_
                                        refine va_iast (D := D) (i := z5) (x := z556) hx hb hK hP hD hS 17 16 rfl rfl (i_in (a := z5.toInt) rfl (by first | exact ⟨z5r, z5s⟩ | omega | ((try (have i_t561 := Imp.go t561 (by omega))); (try (have i_t560 := Imp.go t560 (by omega))); (try (have i_t560 := Imp.go t560 (by omega))); (try (have i_t561 := Imp.go t561 (by omega))); omega))) dX12_toldComponent_201 (fun H locs hP hD hS => ?_)
                                        obtain ⟨V588, hV588⟩ : ∃ z, z = up2 V562 24 (Int32.toNatClampNeg z5) z556 := ⟨_, rfl⟩
                                        have hP : va_P D vwCl (mw ad kk ks.1 V588 L532) H := by rw [hV588]; exact hP
                                        have hD : va_D A (mw ad kk ks.1 V588 L532) := by rw [hV588]; exact hD
                                        have hMV588 : rgd bM V588 := hMV562.put hV588 (show 0 ≤ z556.toInt ∧ z556.toInt ≤ 9 from by first | omega | ((try (have i_t561 := Imp.go t561 (by omega))); (try (have i_t560 := Imp.go t560 (by omega))); (try (have i_t560 := Imp.go t560 (by omega))); (try (have i_t561 := Imp.go t561 (by omega))); omega))
                                        have agV588 : agr [(0, 7), (0, 8), (0, 48), (0, 50), (0, 51), (0, 52)] [15, 19, 20, 21, 22, 23, 24, 25, 26, 27, 28, 29, 30, 31, 32, 33, 34, 35, 36, 37, 38, 45, 46, 47, 53] V V588 := agV562.up hV588 rfl
                                        have pq589 : (V588 0 48).toInt = ((V 0 48)).toInt := congrArg Int32.toInt ((up2_o hV588 (by decide)).trans ((ajV562 0 48 rfl).trans ((ajV542 0 48 rfl).trans ((ajV531 0 48 rfl).trans ((up2_o hV364 (by decide)).trans ((ajV354 0 48 rfl).trans ((ajV338 0 48 rfl).trans ((ajV321 0 48 rfl).trans ((ajV47 0 48 rfl).trans ((ajV42 0 48 rfl).trans ((ajV29 0 48 rfl).trans (ajV13 0 48 rfl))))))))))))
                                        have pq590 : (V588 0 12).toInt = ((V 0 12)).toInt := congrArg Int32.toInt ((up2_o hV588 (by decide)).trans ((ajV562 0 12 rfl).trans ((ajV542 0 12 rfl).trans ((ajV531 0 12 rfl).trans ((up2_o hV364 (by decide)).trans ((ajV354 0 12 rfl).trans ((ajV338 0 12 rfl).trans ((ajV321 0 12 rfl).trans ((ajV47 0 12 rfl).trans ((ajV42 0 12 rfl).trans ((ajV29 0 12 rfl).trans (ajV13 0 12 rfl))))))))))))
                                        have pq591 : (V588 0 8).toInt = ((V562 0 8)).toInt := congrArg Int32.toInt (up2_o hV588 (by decide))
                                        have rw592 : RoV 19 bq V V588 := (fun k hk => ((up2_o hV588 (by decide)).trans ((ajV562 19 k rfl).trans ((ajV542 19 k rfl).trans (xJ530_4 k hk)))))
                                        have rw593 : RoV 35 bq V V588 := (fun k hk => ((up2_o hV588 (by decide)).trans ((ajV562 35 k rfl).trans ((ajV542 35 k rfl).trans (xJ530_5 k hk)))))
                                        have rw594 : RoV 37 bq V V588 := (fun k hk => ((up2_o hV588 (by decide)).trans ((ajV562 37 k rfl).trans ((ajV542 37 k rfl).trans (xJ530_6 k hk)))))
                                        have rw595 : RoL 20 24 bq L L532 := (fun k hk => (xJ530_7 k hk))
                                        have rw596 : RoL 36 20 bq L L532 := (fun k hk => (xJ530_8 k hk))
                                        have rw597 : RoL 38 20 bq L L532 := (fun k hk => (xJ530_9 k hk))
                                        exact J365 V588 L532 H locs ls alL532 (agr.up (agr.tr (agr.tr (agr.tr agr.rf ajV531 (by decide) (by decide)) ajV542 (by decide) (by decide)) ajV562 (by decide) (by decide)) hV588 rfl) hMV588 (Or.inr ⟨(show 1 ≤ (V588 0 8).toInt from by omega), (fun k => by rw [show (V588 0 8).toInt = (V562 0 8).toInt from by omega]; exact hb586 k)⟩) (show (V588 0 48).toInt ≤ 8000 from by first | omega | ((try (have i_t561 := Imp.go t561 (by omega))); (try (have i_t560 := Imp.go t560 (by omega))); (try (have i_t560 := Imp.go t560 (by omega))); (try (have i_t561 := Imp.go t561 (by omega))); omega)) (show (V588 0 48).toInt = (V 0 48).toInt from by first | omega | ((try (have i_t561 := Imp.go t561 (by omega))); (try (have i_t560 := Imp.go t560 (by omega))); (try (have i_t560 := Imp.go t560 (by omega))); (try (have i_t561 := Imp.go t561 (by omega))); omega)) (show (V588 0 12).toInt = (V 0 12).toInt from by first | omega | ((try (have i_t561 := Imp.go t561 (by omega))); (try (have i_t560 := Imp.go t560 (by omega))); (try (have i_t560 := Imp.go t560 (by omega))); (try (have i_t561 := Imp.go t561 (by omega))); omega)) rw592 rw593 rw594 rw595 rw596 rw597 hP hD hS (lv_sub hl [0, 1, 2, 3] rfl)
                                      · skip
                                        have hb598 : ∀ k, Rc gT (Crun gs (Istmt :: k)) (Cbad (V562 0 8).toInt) := fun k => Rc.go1 (hr548 k) ((nm_4 h566 (by omega)).trans (fl_eq rfl rl569))
                                        have nr599 := Imp.go t561 q565
                                        refine lv_goto (tgt := 201) hx hb dX12_toldComponent_197 (by decide) ?_
                                        refine va_iast (D := D) (i := z5) (x := z556) hx hb hK hP hD hS 17 16 rfl rfl (i_in (a := z5.toInt) rfl (by first | exact ⟨z5r, z5s⟩ | omega | ((try (have i_t561 := Imp.go t561 (by omega))); (try (have i_t560 := Imp.go t560 (by omega))); (try (have i_t560 := Imp.go t560 (by omega))); (try (have i_t561 := Imp.go t561 (by omega))); omega))) dX12_toldComponent_201 (fun H locs hP hD hS => ?_)
                                        obtain ⟨V600, hV600⟩ : ∃ z, z = up2 V562 24 (Int32.toNatClampNeg z5) z556 := ⟨_, rfl⟩
                                        have hP : va_P D vwCl (mw ad kk ks.1 V600 L532) H := by rw [hV600]; exact hP
                                        have hD : va_D A (mw ad kk ks.1 V600 L532) := by rw [hV600]; exact hD
                                        have hMV600 : rgd bM V600 := hMV562.put hV600 (show 0 ≤ z556.toInt ∧ z556.toInt ≤ 9 from by first | omega | ((try (have i_t561 := Imp.go t561 (by omega))); (try (have i_t560 := Imp.go t560 (by omega))); (try (have i_t560 := Imp.go t560 (by omega))); (try (have i_t561 := Imp.go t561 (by omega))); omega))
                                        have agV600 : agr [(0, 7), (0, 8), (0, 48), (0, 50), (0, 51), (0, 52)] [15, 19, 20, 21, 22, 23, 24, 25, 26, 27, 28, 29, 30, 31, 32, 33, 34, 35, 36, 37, 38, 45, 46, 47, 53] V V600 := agV562.up hV600 rfl
                                        have pq601 : (V600 0 48).toInt = ((V 0 48)).toInt := congrArg Int32.toInt ((up2_o hV600 (by decide)).trans ((ajV562 0 48 rfl).trans ((ajV542 0 48 rfl).trans ((ajV531 0 48 rfl).trans ((up2_o hV364 (by decide)).trans ((ajV354 0 48 rfl).trans ((ajV338 0 48 rfl).trans ((ajV321 0 48 rfl).trans ((ajV47 0 48 rfl).trans ((ajV42 0 48 rfl).trans ((ajV29 0 48 rfl).trans (ajV13 0 48 rfl))))))))))))
                                        have pq602 : (V600 0 12).toInt = ((V 0 12)).toInt := congrArg Int32.toInt ((up2_o hV600 (by decide)).trans ((ajV562 0 12 rfl).trans ((ajV542 0 12 rfl).trans ((ajV531 0 12 rfl).trans ((up2_o hV364 (by decide)).trans ((ajV354 0 12 rfl).trans ((ajV338 0 12 rfl).trans ((ajV321 0 12 rfl).trans ((ajV47 0 12 rfl).trans ((ajV42 0 12 rfl).trans ((ajV29 0 12 rfl).trans (ajV13 0 12 rfl))))))))))))
                                        have pq603 : (V600 0 8).toInt = ((V562 0 8)).toInt := congrArg Int32.toInt (up2_o hV600 (by decide))
                                        have rw604 : RoV 19 bq V V600 := (fun k hk => ((up2_o hV600 (by decide)).trans ((ajV562 19 k rfl).trans ((ajV542 19 k rfl).trans (xJ530_4 k hk)))))
                                        have rw605 : RoV 35 bq V V600 := (fun k hk => ((up2_o hV600 (by decide)).trans ((ajV562 35 k rfl).trans ((ajV542 35 k rfl).trans (xJ530_5 k hk)))))
                                        have rw606 : RoV 37 bq V V600 := (fun k hk => ((up2_o hV600 (by decide)).trans ((ajV562 37 k rfl).trans ((ajV542 37 k rfl).trans (xJ530_6 k hk)))))
                                        have rw607 : RoL 20 24 bq L L532 := (fun k hk => (xJ530_7 k hk))
                                        have rw608 : RoL 36 20 bq L L532 := (fun k hk => (xJ530_8 k hk))
                                        have rw609 : RoL 38 20 bq L L532 := (fun k hk => (xJ530_9 k hk))
                                        exact J365 V600 L532 H locs ls alL532 (agr.up (agr.tr (agr.tr (agr.tr agr.rf ajV531 (by decide) (by decide)) ajV542 (by decide) (by decide)) ajV562 (by decide) (by decide)) hV600 rfl) hMV600 (Or.inr ⟨(show 1 ≤ (V600 0 8).toInt from by omega), (fun k => by rw [show (V600 0 8).toInt = (V562 0 8).toInt from by omega]; exact hb598 k)⟩) (show (V600 0 48).toInt ≤ 8000 from by first | omega | ((try (have i_t561 := Imp.go t561 (by omega))); (try (have i_t560 := Imp.go t560 (by omega))); (try (have i_t560 := Imp.go t560 (by omega))); (try (have i_t561 := Imp.go t561 (by omega))); omega)) (show (V600 0 48).toInt = (V 0 48).toInt from by first | omega | ((try (have i_t561 := Imp.go t561 (by omega))); (try (have i_t560 := Imp.go t560 (by omega))); (try (have i_t560 := Imp.go t560 (by omega))); (try (have i_t561 := Imp.go t561 (by omega))); omega)) (show (V600 0 12).toInt = (V 0 12).toInt from by first | omega | ((try (have i_t561 := Imp.go t561 (by omega))); (try (have i_t560 := Imp.go t560 (by omega))); (try (have i_t560 := Imp.go t560 (by omega))); (try (have i_t561 := Imp.go t561 (by omega))); omega)) rw604 rw605 rw606 rw607 rw608 rw609 hP hD hS (lv_sub hl [0, 1, 2, 3] rfl)
                                  · skip
                                    have kd610 : gT.1 (s1.1 0) ≠ 134 := fun h9 => h545 (h9.trans (by decide))
                                    have fz611 := RelM.rg rl546
                                    have pq612 : (V542 0 8).toInt = ((V531 0 8)).toInt := congrArg Int32.toInt (ajV542 0 8 rfl)
                                    refine lv_if_eq (tgt := 200) hx hb dX12_toldComponent_187 (by decide) (fun c613 => ?_) (fun c613 => ?_)
                                    · skip
                                      have f614 : z538.toInt = 0 := b_eq rfl (by decide) c613
                                      refine lv_iconst (v := 0) hx hb dX12_toldComponent_200 (by decide) ?_
                                      refine va_iast (D := D) (i := z5) (x := 0) hx hb hK hP hD hS 17 16 rfl rfl (i_in (a := z5.toInt) rfl (by omega)) dX12_toldComponent_201 (fun H locs hP hD hS => ?_)
                                      obtain ⟨V615, hV615⟩ : ∃ z, z = up2 V542 24 (Int32.toNatClampNeg z5) 0 := ⟨_, rfl⟩
                                      have hP : va_P D vwCl (mw ad kk ks.1 V615 L532) H := by rw [hV615]; exact hP
                                      have hD : va_D A (mw ad kk ks.1 V615 L532) := by rw [hV615]; exact hD
                                      have hMV615 : rgd bM V615 := hMV542.put hV615 (show 0 ≤ Int32.toInt 0 ∧ Int32.toInt 0 ≤ 9 from by decide)
                                      have agV615 : agr [(0, 7), (0, 8), (0, 48), (0, 50), (0, 51), (0, 52)] [15, 19, 20, 21, 22, 23, 24, 25, 26, 27, 28, 29, 30, 31, 32, 33, 34, 35, 36, 37, 38, 45, 46, 47, 53] V V615 := agV542.up hV615 rfl
                                      have pq616 : (V615 0 48).toInt = ((V 0 48)).toInt := congrArg Int32.toInt ((up2_o hV615 (by decide)).trans ((ajV542 0 48 rfl).trans ((ajV531 0 48 rfl).trans ((up2_o hV364 (by decide)).trans ((ajV354 0 48 rfl).trans ((ajV338 0 48 rfl).trans ((ajV321 0 48 rfl).trans ((ajV47 0 48 rfl).trans ((ajV42 0 48 rfl).trans ((ajV29 0 48 rfl).trans (ajV13 0 48 rfl)))))))))))
                                      have pq617 : (V615 0 12).toInt = ((V 0 12)).toInt := congrArg Int32.toInt ((up2_o hV615 (by decide)).trans ((ajV542 0 12 rfl).trans ((ajV531 0 12 rfl).trans ((up2_o hV364 (by decide)).trans ((ajV354 0 12 rfl).trans ((ajV338 0 12 rfl).trans ((ajV321 0 12 rfl).trans ((ajV47 0 12 rfl).trans ((ajV42 0 12 rfl).trans ((ajV29 0 12 rfl).trans (ajV13 0 12 rfl)))))))))))
                                      have hr618 : ∀ k, Rc gT (Crun gs (Istmt :: k)) (Crun s1 (IwhenI :: Itake 123 :: IaddNm wx32 :: Imember :: k)) := fun k => Rc.go1 (h1 k) (rank_n  kd610)
                                      have rl619 : RelM V615 L532 bq gn gT s1 (gs.2.1 2) := RelM.ag rl546 (show agr [] [24] V542 V615 from (agr.up agr.rf hV615 rfl)) (by decide) (show agL [] L532 L532 from agL.rf) (by decide)
                                      have rw620 : RoV 19 bq V V615 := (fun k hk => ((up2_o hV615 (by decide)).trans ((ajV542 19 k rfl).trans (xJ530_4 k hk))))
                                      have rw621 : RoV 35 bq V V615 := (fun k hk => ((up2_o hV615 (by decide)).trans ((ajV542 35 k rfl).trans (xJ530_5 k hk))))
                                      have rw622 : RoV 37 bq V V615 := (fun k hk => ((up2_o hV615 (by decide)).trans ((ajV542 37 k rfl).trans (xJ530_6 k hk))))
                                      have rw623 : RoL 20 24 bq L L532 := (fun k hk => (xJ530_7 k hk))
                                      have rw624 : RoL 36 20 bq L L532 := (fun k hk => (xJ530_8 k hk))
                                      have rw625 : RoL 38 20 bq L L532 := (fun k hk => (xJ530_9 k hk))
                                      exact J365 V615 L532 H locs ls alL532 (agr.up (agr.tr (agr.tr agr.rf ajV531 (by decide) (by decide)) ajV542 (by decide) (by decide)) hV615 rfl) hMV615 (Or.inl ⟨W0 rl619, s1, s0, hr618, rl619, keepS.le (keepS.tr (keepS.rf : keepS (scopeS s0) 0 (scopeS s0)) k1) (by decide), t1, w1, (by omega)⟩) (show (V615 0 48).toInt ≤ 8000 from by omega) (show (V615 0 48).toInt = (V 0 48).toInt from by omega) (show (V615 0 12).toInt = (V 0 12).toInt from by omega) rw620 rw621 rw622 rw623 rw624 rw625 hP hD hS (lv_sub hl [0, 1, 2, 3] rfl)
                                    · skip
                                      have f626 : z538.toInt ≠ 0 := b_neq rfl (by decide) c613
                                      exfalso; omega
                                · skip
                                  have r627 : 0 ≤ ((V531 0 8)).toInt ∧ ((V531 0 8)).toInt ≤ 70000 := hMV531 0 8
                                  refine lv_aload_n hx hb dX12_toldComponent_176 rfl (lv_at hl 3 rfl) ?_
                                  refine va_get (D := D) (ci := 12) (v := .ref (ad 24)) (C := RX12) (T := TX12) (N := 100) hx hb hg inX12 hown hK hP 0 rfl rfl 24 (by decide) (hg _ w1730) (fun _ h9 => h9) rfl dX12_toldComponent_177 ?_
                                  refine lv_iload_n hx hb dX12_toldComponent_180 rfl (lv_at hl 2 rfl) ?_
                                  refine lv_aload_n hx hb dX12_toldComponent_181 rfl (lv_at hl 3 rfl) ?_
                                  refine lv_bipush (v := 6) hx hb dX12_toldComponent_182 (by decide) ?_
                                  have r628 : Int32.toInt 6 = 6 := by decide
                                  refine gA_int (gA_runV (As := [.int 6]) (rest := [.int z5, .ref (ad 24)]) (ci := 12) (q0 := 0) hx hb hml hown hg hP hD hK hS hA hnw hgk (s_hasWordB l D ks H.size ad kk V531 L532 6 hMV531 (by decide) (show 1 ≤ (V531 0 8).toInt from by omega)) w2051 w2053 w90 w172 w2054 rfl rfl hdV_yX12_hasWord ⟨Nat.le_of_ble_eq_true rfl, Nat.le_of_ble_eq_true rfl⟩ rfl hl.1 rfl (Nat.le_of_ble_eq_true rfl) dX12_toldComponent_184 ⟨Nat.le_of_ble_eq_true rfl, Nat.le_of_ble_eq_true rfl⟩) hP hD hK hS hA (fun z629 u630 H locs w631 hP hD hK hS => ?_)
                                  obtain ⟨V633, L634⟩ := u630
                                  obtain ⟨hMV633, ajV633, axL634, rgz629, t632⟩ := w631
                                  have axL634 : L532 = L634 := Eq.symm axL634
                                  subst axL634
                                  have hP : va_P D vwCl (mw ad kk ks.1 V633 L532) H := hP
                                  have hD : va_D A (mw ad kk ks.1 V633 L532) := hD
                                  have hMV633 : rgd bM V633 := hMV633
                                  have ajV633 : agr [(0, 7)] [] V531 V633 := ajV633
                                  have agV633 : agr [(0, 7), (0, 8), (0, 48), (0, 50), (0, 51), (0, 52)] [15, 19, 20, 21, 22, 23, 24, 25, 26, 27, 28, 29, 30, 31, 32, 33, 34, 35, 36, 37, 38, 45, 46, 47, 53] V V633 := agV531.tr ajV633 (by decide) (by decide)
                                  have rgz629 : 0 ≤ z629.toInt ∧ z629.toInt ≤ 0 := rgz629
                                  have t632 : (V633 0 8).toInt = (V531 0 8).toInt := t632
                                  have pq635 : (V633 0 8).toInt = ((V531 0 8)).toInt := congrArg Int32.toInt (ajV633 0 8 rfl)
                                  refine lv_if_eq (tgt := 200) hx hb dX12_toldComponent_187 (by decide) (fun c636 => ?_) (fun c636 => ?_)
                                  · skip
                                    have f637 : z629.toInt = 0 := b_eq rfl (by decide) c636
                                    refine lv_iconst (v := 0) hx hb dX12_toldComponent_200 (by decide) ?_
                                    refine va_iast (D := D) (i := z5) (x := 0) hx hb hK hP hD hS 17 16 rfl rfl (i_in (a := z5.toInt) rfl (by omega)) dX12_toldComponent_201 (fun H locs hP hD hS => ?_)
                                    obtain ⟨V638, hV638⟩ : ∃ z, z = up2 V633 24 (Int32.toNatClampNeg z5) 0 := ⟨_, rfl⟩
                                    have hP : va_P D vwCl (mw ad kk ks.1 V638 L532) H := by rw [hV638]; exact hP
                                    have hD : va_D A (mw ad kk ks.1 V638 L532) := by rw [hV638]; exact hD
                                    have hMV638 : rgd bM V638 := hMV633.put hV638 (show 0 ≤ Int32.toInt 0 ∧ Int32.toInt 0 ≤ 9 from by decide)
                                    have agV638 : agr [(0, 7), (0, 8), (0, 48), (0, 50), (0, 51), (0, 52)] [15, 19, 20, 21, 22, 23, 24, 25, 26, 27, 28, 29, 30, 31, 32, 33, 34, 35, 36, 37, 38, 45, 46, 47, 53] V V638 := agV633.up hV638 rfl
                                    have pq639 : (V638 0 48).toInt = ((V 0 48)).toInt := congrArg Int32.toInt ((up2_o hV638 (by decide)).trans ((ajV633 0 48 rfl).trans ((ajV531 0 48 rfl).trans ((up2_o hV364 (by decide)).trans ((ajV354 0 48 rfl).trans ((ajV338 0 48 rfl).trans ((ajV321 0 48 rfl).trans ((ajV47 0 48 rfl).trans ((ajV42 0 48 rfl).trans ((ajV29 0 48 rfl).trans (ajV13 0 48 rfl)))))))))))
                                    have pq640 : (V638 0 12).toInt = ((V 0 12)).toInt := congrArg Int32.toInt ((up2_o hV638 (by decide)).trans ((ajV633 0 12 rfl).trans ((ajV531 0 12 rfl).trans ((up2_o hV364 (by decide)).trans ((ajV354 0 12 rfl).trans ((ajV338 0 12 rfl).trans ((ajV321 0 12 rfl).trans ((ajV47 0 12 rfl).trans ((ajV42 0 12 rfl).trans ((ajV29 0 12 rfl).trans (ajV13 0 12 rfl)))))))))))
                                    have pq641 : (V638 0 8).toInt = ((V531 0 8)).toInt := congrArg Int32.toInt ((up2_o hV638 (by decide)).trans (ajV633 0 8 rfl))
                                    have rw642 : RoV 19 bq V V638 := (fun k hk => ((up2_o hV638 (by decide)).trans ((ajV633 19 k rfl).trans (xJ530_4 k hk))))
                                    have rw643 : RoV 35 bq V V638 := (fun k hk => ((up2_o hV638 (by decide)).trans ((ajV633 35 k rfl).trans (xJ530_5 k hk))))
                                    have rw644 : RoV 37 bq V V638 := (fun k hk => ((up2_o hV638 (by decide)).trans ((ajV633 37 k rfl).trans (xJ530_6 k hk))))
                                    have rw645 : RoL 20 24 bq L L532 := (fun k hk => (xJ530_7 k hk))
                                    have rw646 : RoL 36 20 bq L L532 := (fun k hk => (xJ530_8 k hk))
                                    have rw647 : RoL 38 20 bq L L532 := (fun k hk => (xJ530_9 k hk))
                                    exact J365 V638 L532 H locs ls alL532 (agr.up (agr.tr (agr.tr agr.rf ajV531 (by decide) (by decide)) ajV633 (by decide) (by decide)) hV638 rfl) hMV638 (Or.inr ⟨(show 1 ≤ (V638 0 8).toInt from by omega), (fun k => by rw [show (V638 0 8).toInt = (V531 0 8).toInt from by omega]; exact h1 k)⟩) (show (V638 0 48).toInt ≤ 8000 from by omega) (show (V638 0 48).toInt = (V 0 48).toInt from by omega) (show (V638 0 12).toInt = (V 0 12).toInt from by omega) rw642 rw643 rw644 rw645 rw646 rw647 hP hD hS (lv_sub hl [0, 1, 2, 3] rfl)
                                  · skip
                                    have f648 : z629.toInt ≠ 0 := b_neq rfl (by decide) c636
                                    exfalso; omega
                              refine lv_aload_n hx hb dX12_toldComponent_146 rfl (lv_at hl 3 rfl) ?_
                              refine va_get (D := D) (ci := 12) (v := .ref (ad 23)) (C := RX12) (T := TX12) (N := 100) hx hb hg inX12 hown hK hP 0 rfl rfl 23 (by decide) (hg _ w1729) (fun _ h9 => h9) rfl dX12_toldComponent_147 ?_
                              refine lv_iload_n hx hb dX12_toldComponent_150 rfl (lv_at hl 2 rfl) ?_
                              refine lv_aload_n hx hb dX12_toldComponent_151 rfl (lv_at hl 3 rfl) ?_
                              refine lv_iconst (v := 5) hx hb dX12_toldComponent_152 (by decide) ?_
                              have rl649 : RelM V364 L bq gn gT (scopeS sx341) (gs.2.1 2) := RelM.ag rl360 (show agr [] [22] V354 V364 from (agr.up agr.rf hV364 rfl)) (by decide) (show agL [] L L from agL.rf) (by decide)
                              have r650 : Int32.toInt 5 = 5 := by decide
                              refine gA_int (gA_runV (As := [.int 5]) (rest := [.int z5, .ref (ad 23)]) (ci := 12) (q0 := 0) hx hb hml hown hg hP hD hK hS hA hnw hgk (s_hasWordA l D ks H.size ad kk V364 L 5 (bq) (gn) (gT) ((scopeS sx341)) ((gs.2.1 2)) hMV364 (by decide) rl649) w2051 w2053 w90 w172 w2054 rfl rfl hdV_yX12_hasWord ⟨Nat.le_of_ble_eq_true rfl, Nat.le_of_ble_eq_true rfl⟩ rfl hl.1 rfl (Nat.le_of_ble_eq_true rfl) dX12_toldComponent_153 ⟨Nat.le_of_ble_eq_true rfl, Nat.le_of_ble_eq_true rfl⟩) hP hD hK hS hA (fun z651 u652 H locs w653 hP hD hK hS => ?_)
                              obtain ⟨V655, L656⟩ := u652
                              obtain ⟨hMV655, ajV655, axL656, rgz651, t654⟩ := w653
                              have axL656 : L = L656 := Eq.symm axL656
                              subst axL656
                              have hP : va_P D vwCl (mw ad kk ks.1 V655 L) H := hP
                              have hD : va_D A (mw ad kk ks.1 V655 L) := hD
                              have hMV655 : rgd bM V655 := hMV655
                              have ajV655 : agr [(0, 7)] [] V364 V655 := ajV655
                              have agV655 : agr [(0, 7), (0, 8), (0, 48), (0, 50), (0, 51), (0, 52)] [15, 19, 20, 21, 22, 23, 24, 25, 26, 27, 28, 29, 30, 31, 32, 33, 34, 35, 36, 37, 38, 45, 46, 47, 53] V V655 := agV364.tr ajV655 (by decide) (by decide)
                              have rgz651 : 0 ≤ z651.toInt ∧ z651.toInt ≤ 1 := rgz651
                              have t654 : (z651.toInt = 1 ∧ (gT).1 (((scopeS sx341)).1 0) = 128 + (Int32.toInt 5) ∧ RelM V655 L (bq) (gn) (gT) (nx ((scopeS sx341)) 1) ((gs.2.1 2))) ∨ (z651.toInt = 0 ∧ (gT).1 (((scopeS sx341)).1 0) ≠ 128 + (Int32.toInt 5) ∧ RelM V655 L (bq) (gn) (gT) ((scopeS sx341)) ((gs.2.1 2))) := t654
                              rcases t654 with ⟨q657, h658, rl659⟩ | ⟨q657, h658, rl659⟩
                              · skip
                                have kd660 : gT.1 ((scopeS sx341).1 0) = 133 := h658.trans (by decide)
                                have hr661 : ∀ k, Rc gT (Crun gs (Istmt :: k)) (Crun (nx (scopeS sx341) 1) (Iword :: Irank :: IwhenI :: Itake 123 :: IaddNm wx32 :: Imember :: k)) := fun k => Rc.go1 (hr359 k) (called_y  kd660)
                                have ps662 : (nx (scopeS sx341) 1).1 0 = (scopeS sx341).1 0 + 1 := rfl
                                have fz663 := RelM.rg rl659
                                have pq664 : (V655 0 8).toInt = ((V354 0 8)).toInt := congrArg Int32.toInt ((ajV655 0 8 rfl).trans (up2_o hV364 (by decide)))
                                refine lv_if_eq (tgt := 174) hx hb dX12_toldComponent_156 (by decide) (fun c665 => ?_) (fun c665 => ?_)
                                · skip
                                  have f666 : z651.toInt = 0 := b_eq rfl (by decide) c665
                                  exfalso; omega
                                · skip
                                  have f667 : z651.toInt ≠ 0 := b_neq rfl (by decide) c665
                                  refine lv_aload_n hx hb dX12_toldComponent_159 rfl (lv_at hl 3 rfl) ?_
                                  refine lv_aload_n hx hb dX12_toldComponent_160 rfl (lv_at hl 3 rfl) ?_
                                  refine va_get (D := D) (ci := 12) (v := .ref (ad 38)) (C := RX12) (T := TX12) (N := 100) hx hb hg inX12 hown hK hP 0 rfl rfl 38 (by decide) (hg _ w1744) (fun _ h9 => h9) rfl dX12_toldComponent_161 ?_
                                  refine lv_aload_n hx hb dX12_toldComponent_164 rfl (lv_at hl 3 rfl) ?_
                                  refine va_get (D := D) (ci := 12) (v := .ref (ad 37)) (C := RX12) (T := TX12) (N := 100) hx hb hg inX12 hown hK hP 0 rfl rfl 37 (by decide) (hg _ w1743) (fun _ h9 => h9) rfl dX12_toldComponent_165 ?_
                                  refine gA_int (gA_runV (As := [.ref (ad 38), .ref (ad 37)]) (rest := [.int z5, .ref (ad 23)]) (ci := 12) (q0 := 0) hx hb hml hown hg hP hD hK hS hA hnw hgk (s_takeWordOf4 l D ks H.size ad kk V655 L (bq) (gn) (gT) ((nx (scopeS sx341) 1)) ((gs.2.1 2)) hMV655 rl659) w2100 w2102 w102 w172 w2103 rfl rfl hdV_yX12_takeWordOf ⟨Nat.le_of_ble_eq_true rfl, Nat.le_of_ble_eq_true rfl⟩ rfl hl.1 rfl (Nat.le_of_ble_eq_true rfl) dX12_toldComponent_168 ⟨Nat.le_of_ble_eq_true rfl, Nat.le_of_ble_eq_true rfl⟩) hP hD hK hS hA (fun z668 u669 H locs w670 hP hD hK hS => ?_)
                                  obtain ⟨V676, L677⟩ := u669
                                  obtain ⟨hMV676, ajV676, axL677, rgz668, t671, t672, t673, t674, t675⟩ := w670
                                  have alL677 : agL [15, 19, 20, 21, 22, 23, 24, 25, 26, 27, 28, 29, 30, 31, 32, 33, 34, 35, 36, 37, 38, 45, 46, 47, 53] L L677 := agL.tr alL axL677 (by decide)
                                  have hP : va_P D vwCl (mw ad kk ks.1 V676 L677) H := hP
                                  have hD : va_D A (mw ad kk ks.1 V676 L677) := hD
                                  have hMV676 : rgd bM V676 := hMV676
                                  have ajV676 : agr [(0, 7), (0, 8)] [35, 36, 37, 38] V655 V676 := ajV676
                                  have agV676 : agr [(0, 7), (0, 8), (0, 48), (0, 50), (0, 51), (0, 52)] [15, 19, 20, 21, 22, 23, 24, 25, 26, 27, 28, 29, 30, 31, 32, 33, 34, 35, 36, 37, 38, 45, 46, 47, 53] V V676 := agV655.tr ajV676 (by decide) (by decide)
                                  have rgz668 : (-1) ≤ z668.toInt ∧ z668.toInt ≤ 19 := rgz668
                                  have t671 : KmS (mthW (gT) ((nx (scopeS sx341) 1)) 4) (V676 0 8).toInt (fun x9 => RelM V676 L677 (bq) (gn) (gT) x9.2 ((gs.2.1 2)) ∧ z668.toInt = ((x9.1 : Nat) : Int) ∧ x9.1 < 20 ∧ keepS ((nx (scopeS sx341) 1)) 1 x9.2 ∧ MTX (gT) ((nx (scopeS sx341) 1)) 4 x9) := t671
                                  have t672 : RoV 35 (bq) V655 V676 := t672
                                  have t673 : RoV 37 (bq) V655 V676 := t673
                                  have t674 : RoL 36 20 (bq) L L677 := t674
                                  have t675 : RoL 38 20 (bq) L L677 := t675
                                  rcases t671 with ⟨q678, mx679, h680, rl681, hf682, hb683, kp684, mt685⟩ | ⟨q678, h680⟩
                                  · skip
                                    have ps686 := kp684.1
                                    have hr687 : ∀ k, Rc gT (Crun gs (Istmt :: k)) (Crun mx679.2 (Irank :: IwhenI :: Itake 123 :: IaddNm wx32 :: Imember :: k)) := fun k => Rc.go1 (hr661 k) (wo_y h680)
                                    have fz688 := RelM.rg rl681
                                    have r689 : 0 ≤ ((V676 0 8)).toInt ∧ ((V676 0 8)).toInt ≤ 70000 := hMV676 0 8
                                    refine lv_goto (tgt := 175) hx hb dX12_toldComponent_171 (by decide) ?_
                                    refine va_iast (D := D) (i := z5) (x := z668) hx hb hK hP hD hS 16 15 rfl rfl (i_in (a := z5.toInt) rfl (by omega)) dX12_toldComponent_175 (fun H locs hP hD hS => ?_)
                                    obtain ⟨V690, hV690⟩ : ∃ z, z = up2 V676 23 (Int32.toNatClampNeg z5) z668 := ⟨_, rfl⟩
                                    have hP : va_P D vwCl (mw ad kk ks.1 V690 L677) H := by rw [hV690]; exact hP
                                    have hD : va_D A (mw ad kk ks.1 V690 L677) := by rw [hV690]; exact hD
                                    have hMV690 : rgd bM V690 := hMV676.put hV690 (i_full _)
                                    have agV690 : agr [(0, 7), (0, 8), (0, 48), (0, 50), (0, 51), (0, 52)] [15, 19, 20, 21, 22, 23, 24, 25, 26, 27, 28, 29, 30, 31, 32, 33, 34, 35, 36, 37, 38, 45, 46, 47, 53] V V690 := agV676.up hV690 rfl
                                    have pq691 : (V690 0 48).toInt = ((V 0 48)).toInt := congrArg Int32.toInt ((up2_o hV690 (by decide)).trans ((ajV676 0 48 rfl).trans ((ajV655 0 48 rfl).trans ((up2_o hV364 (by decide)).trans ((ajV354 0 48 rfl).trans ((ajV338 0 48 rfl).trans ((ajV321 0 48 rfl).trans ((ajV47 0 48 rfl).trans ((ajV42 0 48 rfl).trans ((ajV29 0 48 rfl).trans (ajV13 0 48 rfl)))))))))))
                                    have pq692 : (V690 0 12).toInt = ((V 0 12)).toInt := congrArg Int32.toInt ((up2_o hV690 (by decide)).trans ((ajV676 0 12 rfl).trans ((ajV655 0 12 rfl).trans ((up2_o hV364 (by decide)).trans ((ajV354 0 12 rfl).trans ((ajV338 0 12 rfl).trans ((ajV321 0 12 rfl).trans ((ajV47 0 12 rfl).trans ((ajV42 0 12 rfl).trans ((ajV29 0 12 rfl).trans (ajV13 0 12 rfl)))))))))))
                                    have rl693 : RelM V690 L677 bq gn gT mx679.2 (gs.2.1 2) := RelM.ag rl681 (show agr [] [23] V676 V690 from (agr.up agr.rf hV690 rfl)) (by decide) (show agL [] L677 L677 from agL.rf) (by decide)
                                    have ps694 : gs.1 0 + 1 ≤ (nx gs 1).1 0 := ((keepS.n1 1)).1
                                    have ps695 : (nx gs 1).1 0 + 1 ≤ (nx (nx gs 1) 1).1 0 := ((keepS.n1 1)).1
                                    have ps696 : (nx (nx gs 1) 1).1 0 + 1 ≤ (nx (nx (nx gs 1) 1) 1).1 0 := ((keepS.n1 1)).1
                                    have ps697 : (nx (nx (nx gs 1) 1) 1).1 0 + 1 ≤ sx341.1 0 := (kp344).1
                                    have ps698 : sx341.1 0 + 1 ≤ (nx sx341 1).1 0 := ((keepS.n1 1)).1
                                    have ps699 : (scopeS sx341).1 0 = (nx sx341 1).1 0 := rfl
                                    have ps700 : (scopeS sx341).1 0 + 1 ≤ (nx (scopeS sx341) 1).1 0 := ((keepS.n1 1)).1
                                    have ps701 : (nx (scopeS sx341) 1).1 0 + 1 ≤ mx679.2.1 0 := (kp684).1
                                    have rw702 : RoV 19 bq V V690 := (fun k hk => ((up2_o hV690 (by decide)).trans ((ajV676 19 k rfl).trans ((ajV655 19 k rfl).trans ((up2_o hV364 (by decide)).trans ((ajV354 19 k rfl).trans ((ajV338 19 k rfl).trans ((ajV321 19 k rfl).trans (xlp48_1 k hk)))))))))
                                    have rw703 : RoV 35 bq V V690 := (fun k hk => ((up2_o hV690 (by decide)).trans ((t672 k hk).trans ((ajV655 35 k rfl).trans ((up2_o hV364 (by decide)).trans ((ajV354 35 k rfl).trans ((ajV338 35 k rfl).trans ((ajV321 35 k rfl).trans (xlp48_2 k hk)))))))))
                                    have rw704 : RoV 37 bq V V690 := (fun k hk => ((up2_o hV690 (by decide)).trans ((t673 k hk).trans ((ajV655 37 k rfl).trans ((up2_o hV364 (by decide)).trans ((ajV354 37 k rfl).trans ((ajV338 37 k rfl).trans ((ajV321 37 k rfl).trans (xlp48_3 k hk)))))))))
                                    have rw705 : RoL 20 24 bq L L677 := (fun k hk => ((axL677 20 k rfl).trans rfl))
                                    have rw706 : RoL 36 20 bq L L677 := (fun k hk => ((t674 k hk).trans rfl))
                                    have rw707 : RoL 38 20 bq L L677 := (fun k hk => ((t675 k hk).trans rfl))
                                    exact J530 V690 L677 H locs ls alL677 (agr.up (agr.tr (agr.tr agr.rf ajV655 (by decide) (by decide)) ajV676 (by decide) (by decide)) hV690 rfl) hMV690 (Or.inl ⟨W0 rl693, mx679.2, sx341, hr687, rl693, keepS.le (keepS.tr (keepS.tr (keepS.rf : keepS (scopeS sx341) 0 (scopeS sx341)) (keepS.n1 1)) kp684) (by decide), (((kp684).2.2.1 2 (by decide)).trans ((((keepS.n1 1)).2.2.1 2 (by decide)).trans ((rfl : (scopeS sx341).2.1 2 = (nx sx341 1).2.1 2).trans ((((keepS.n1 1)).2.2.1 2 (by decide)).trans (((kp344).2.2.1 2 (by decide)).trans ((((keepS.n1 1)).2.2.1 2 (by decide)).trans ((((keepS.n1 1)).2.2.1 2 (by decide)).trans ((((keepS.n1 1)).2.2.1 2 (by decide)).trans (rfl : gs.2.1 2 = gs.2.1 2))))))))), ((congrArg (fun q9 => q9.1) (kp684).2.2.2).trans ((congrArg (fun q9 => q9.1) ((keepS.n1 1)).2.2.2).trans ((rfl : (scopeS sx341).2.2.1 = (nx sx341 1).2.2.1).trans ((congrArg (fun q9 => q9.1) ((keepS.n1 1)).2.2.2).trans ((congrArg (fun q9 => q9.1) (kp344).2.2.2).trans ((congrArg (fun q9 => q9.1) ((keepS.n1 1)).2.2.2).trans ((congrArg (fun q9 => q9.1) ((keepS.n1 1)).2.2.2).trans ((congrArg (fun q9 => q9.1) ((keepS.n1 1)).2.2.2).trans (rfl : gs.2.2.1 = gs.2.2.1))))))))), (by omega)⟩) (show (V690 0 48).toInt ≤ 8000 from by omega) (show (V690 0 48).toInt = (V 0 48).toInt from by omega) (show (V690 0 12).toInt = (V 0 12).toInt from by omega) rw702 rw703 rw704 rw705 rw706 rw707 hP hD hS (lv_sub hl [0, 1, 2, 3] rfl)
                                  · skip
                                    have hb708 : ∀ k, Rc gT (Crun gs (Istmt :: k)) (Cbad (V676 0 8).toInt) := fun k => Rc.go1 (hr661 k) (wo_b h680)
                                    have r709 : 0 ≤ ((V676 0 8)).toInt ∧ ((V676 0 8)).toInt ≤ 70000 := hMV676 0 8
                                    refine lv_goto (tgt := 175) hx hb dX12_toldComponent_171 (by decide) ?_
                                    refine va_iast (D := D) (i := z5) (x := z668) hx hb hK hP hD hS 16 15 rfl rfl (i_in (a := z5.toInt) rfl (by omega)) dX12_toldComponent_175 (fun H locs hP hD hS => ?_)
                                    obtain ⟨V710, hV710⟩ : ∃ z, z = up2 V676 23 (Int32.toNatClampNeg z5) z668 := ⟨_, rfl⟩
                                    have hP : va_P D vwCl (mw ad kk ks.1 V710 L677) H := by rw [hV710]; exact hP
                                    have hD : va_D A (mw ad kk ks.1 V710 L677) := by rw [hV710]; exact hD
                                    have hMV710 : rgd bM V710 := hMV676.put hV710 (i_full _)
                                    have agV710 : agr [(0, 7), (0, 8), (0, 48), (0, 50), (0, 51), (0, 52)] [15, 19, 20, 21, 22, 23, 24, 25, 26, 27, 28, 29, 30, 31, 32, 33, 34, 35, 36, 37, 38, 45, 46, 47, 53] V V710 := agV676.up hV710 rfl
                                    have pq711 : (V710 0 48).toInt = ((V 0 48)).toInt := congrArg Int32.toInt ((up2_o hV710 (by decide)).trans ((ajV676 0 48 rfl).trans ((ajV655 0 48 rfl).trans ((up2_o hV364 (by decide)).trans ((ajV354 0 48 rfl).trans ((ajV338 0 48 rfl).trans ((ajV321 0 48 rfl).trans ((ajV47 0 48 rfl).trans ((ajV42 0 48 rfl).trans ((ajV29 0 48 rfl).trans (ajV13 0 48 rfl)))))))))))
                                    have pq712 : (V710 0 12).toInt = ((V 0 12)).toInt := congrArg Int32.toInt ((up2_o hV710 (by decide)).trans ((ajV676 0 12 rfl).trans ((ajV655 0 12 rfl).trans ((up2_o hV364 (by decide)).trans ((ajV354 0 12 rfl).trans ((ajV338 0 12 rfl).trans ((ajV321 0 12 rfl).trans ((ajV47 0 12 rfl).trans ((ajV42 0 12 rfl).trans ((ajV29 0 12 rfl).trans (ajV13 0 12 rfl)))))))))))
                                    have pq713 : (V710 0 8).toInt = ((V676 0 8)).toInt := congrArg Int32.toInt (up2_o hV710 (by decide))
                                    have rw714 : RoV 19 bq V V710 := (fun k hk => ((up2_o hV710 (by decide)).trans ((ajV676 19 k rfl).trans ((ajV655 19 k rfl).trans ((up2_o hV364 (by decide)).trans ((ajV354 19 k rfl).trans ((ajV338 19 k rfl).trans ((ajV321 19 k rfl).trans (xlp48_1 k hk)))))))))
                                    have rw715 : RoV 35 bq V V710 := (fun k hk => ((up2_o hV710 (by decide)).trans ((t672 k hk).trans ((ajV655 35 k rfl).trans ((up2_o hV364 (by decide)).trans ((ajV354 35 k rfl).trans ((ajV338 35 k rfl).trans ((ajV321 35 k rfl).trans (xlp48_2 k hk)))))))))
                                    have rw716 : RoV 37 bq V V710 := (fun k hk => ((up2_o hV710 (by decide)).trans ((t673 k hk).trans ((ajV655 37 k rfl).trans ((up2_o hV364 (by decide)).trans ((ajV354 37 k rfl).trans ((ajV338 37 k rfl).trans ((ajV321 37 k rfl).trans (xlp48_3 k hk)))))))))
                                    have rw717 : RoL 20 24 bq L L677 := (fun k hk => ((axL677 20 k rfl).trans rfl))
                                    have rw718 : RoL 36 20 bq L L677 := (fun k hk => ((t674 k hk).trans rfl))
                                    have rw719 : RoL 38 20 bq L L677 := (fun k hk => ((t675 k hk).trans rfl))
                                    exact J530 V710 L677 H locs ls alL677 (agr.up (agr.tr (agr.tr agr.rf ajV655 (by decide) (by decide)) ajV676 (by decide) (by decide)) hV710 rfl) hMV710 (Or.inr ⟨(show 1 ≤ (V710 0 8).toInt from by omega), (fun k => by rw [show (V710 0 8).toInt = (V676 0 8).toInt from by omega]; exact hb708 k)⟩) (show (V710 0 48).toInt ≤ 8000 from by omega) (show (V710 0 48).toInt = (V 0 48).toInt from by omega) (show (V710 0 12).toInt = (V 0 12).toInt from by omega) rw714 rw715 rw716 rw717 rw718 rw719 hP hD hS (lv_sub hl [0, 1, 2, 3] rfl)
                              · skip
                                have kd720 : gT.1 ((scopeS sx341).1 0) ≠ 133 := fun h9 => h658 (h9.trans (by decide))
                                have fz721 := RelM.rg rl659
                                have pq722 : (V655 0 8).toInt = ((V354 0 8)).toInt := congrArg Int32.toInt ((ajV655 0 8 rfl).trans (up2_o hV364 (by decide)))
                                refine lv_if_eq (tgt := 174) hx hb dX12_toldComponent_156 (by decide) (fun c723 => ?_) (fun c723 => ?_)
                                · skip
                                  have f724 : z651.toInt = 0 := b_eq rfl (by decide) c723
                                  refine lv_iconst (v := (-1)) hx hb dX12_toldComponent_174 (by decide) ?_
                                  refine va_iast (D := D) (i := z5) (x := (-1)) hx hb hK hP hD hS 16 15 rfl rfl (i_in (a := z5.toInt) rfl (by omega)) dX12_toldComponent_175 (fun H locs hP hD hS => ?_)
                                  obtain ⟨V725, hV725⟩ : ∃ z, z = up2 V655 23 (Int32.toNatClampNeg z5) (-1) := ⟨_, rfl⟩
                                  have hP : va_P D vwCl (mw ad kk ks.1 V725 L) H := by rw [hV725]; exact hP
                                  have hD : va_D A (mw ad kk ks.1 V725 L) := by rw [hV725]; exact hD
                                  have hMV725 : rgd bM V725 := hMV655.put hV725 (i_full _)
                                  have agV725 : agr [(0, 7), (0, 8), (0, 48), (0, 50), (0, 51), (0, 52)] [15, 19, 20, 21, 22, 23, 24, 25, 26, 27, 28, 29, 30, 31, 32, 33, 34, 35, 36, 37, 38, 45, 46, 47, 53] V V725 := agV655.up hV725 rfl
                                  have pq726 : (V725 0 48).toInt = ((V 0 48)).toInt := congrArg Int32.toInt ((up2_o hV725 (by decide)).trans ((ajV655 0 48 rfl).trans ((up2_o hV364 (by decide)).trans ((ajV354 0 48 rfl).trans ((ajV338 0 48 rfl).trans ((ajV321 0 48 rfl).trans ((ajV47 0 48 rfl).trans ((ajV42 0 48 rfl).trans ((ajV29 0 48 rfl).trans (ajV13 0 48 rfl))))))))))
                                  have pq727 : (V725 0 12).toInt = ((V 0 12)).toInt := congrArg Int32.toInt ((up2_o hV725 (by decide)).trans ((ajV655 0 12 rfl).trans ((up2_o hV364 (by decide)).trans ((ajV354 0 12 rfl).trans ((ajV338 0 12 rfl).trans ((ajV321 0 12 rfl).trans ((ajV47 0 12 rfl).trans ((ajV42 0 12 rfl).trans ((ajV29 0 12 rfl).trans (ajV13 0 12 rfl))))))))))
                                  have hr728 : ∀ k, Rc gT (Crun gs (Istmt :: k)) (Crun (scopeS sx341) (Irank :: IwhenI :: Itake 123 :: IaddNm wx32 :: Imember :: k)) := fun k => Rc.go1 (hr359 k) (called_n  kd720)
                                  have rl729 : RelM V725 L bq gn gT (scopeS sx341) (gs.2.1 2) := RelM.ag rl659 (show agr [] [23] V655 V725 from (agr.up agr.rf hV725 rfl)) (by decide) (show agL [] L L from agL.rf) (by decide)
                                  have ps730 : gs.1 0 + 1 ≤ (nx gs 1).1 0 := ((keepS.n1 1)).1
                                  have ps731 : (nx gs 1).1 0 + 1 ≤ (nx (nx gs 1) 1).1 0 := ((keepS.n1 1)).1
                                  have ps732 : (nx (nx gs 1) 1).1 0 + 1 ≤ (nx (nx (nx gs 1) 1) 1).1 0 := ((keepS.n1 1)).1
                                  have ps733 : (nx (nx (nx gs 1) 1) 1).1 0 + 1 ≤ sx341.1 0 := (kp344).1
                                  have ps734 : sx341.1 0 + 1 ≤ (nx sx341 1).1 0 := ((keepS.n1 1)).1
                                  have ps735 : (scopeS sx341).1 0 = (nx sx341 1).1 0 := rfl
                                  have rw736 : RoV 19 bq V V725 := (fun k hk => ((up2_o hV725 (by decide)).trans ((ajV655 19 k rfl).trans ((up2_o hV364 (by decide)).trans ((ajV354 19 k rfl).trans ((ajV338 19 k rfl).trans ((ajV321 19 k rfl).trans (xlp48_1 k hk))))))))
                                  have rw737 : RoV 35 bq V V725 := (fun k hk => ((up2_o hV725 (by decide)).trans ((ajV655 35 k rfl).trans ((up2_o hV364 (by decide)).trans ((ajV354 35 k rfl).trans ((ajV338 35 k rfl).trans ((ajV321 35 k rfl).trans (xlp48_2 k hk))))))))
                                  have rw738 : RoV 37 bq V V725 := (fun k hk => ((up2_o hV725 (by decide)).trans ((ajV655 37 k rfl).trans ((up2_o hV364 (by decide)).trans ((ajV354 37 k rfl).trans ((ajV338 37 k rfl).trans ((ajV321 37 k rfl).trans (xlp48_3 k hk))))))))
                                  have rw739 : RoL 20 24 bq L L := (fun k hk => rfl)
                                  have rw740 : RoL 36 20 bq L L := (fun k hk => rfl)
                                  have rw741 : RoL 38 20 bq L L := (fun k hk => rfl)
                                  exact J530 V725 L H locs ls alL (agr.up (agr.tr agr.rf ajV655 (by decide) (by decide)) hV725 rfl) hMV725 (Or.inl ⟨W0 rl729, (scopeS sx341), sx341, hr728, rl729, keepS.le (keepS.rf : keepS (scopeS sx341) 0 (scopeS sx341)) (by decide), ((rfl : (scopeS sx341).2.1 2 = (nx sx341 1).2.1 2).trans ((((keepS.n1 1)).2.2.1 2 (by decide)).trans (((kp344).2.2.1 2 (by decide)).trans ((((keepS.n1 1)).2.2.1 2 (by decide)).trans ((((keepS.n1 1)).2.2.1 2 (by decide)).trans ((((keepS.n1 1)).2.2.1 2 (by decide)).trans (rfl : gs.2.1 2 = gs.2.1 2))))))), ((rfl : (scopeS sx341).2.2.1 = (nx sx341 1).2.2.1).trans ((congrArg (fun q9 => q9.1) ((keepS.n1 1)).2.2.2).trans ((congrArg (fun q9 => q9.1) (kp344).2.2.2).trans ((congrArg (fun q9 => q9.1) ((keepS.n1 1)).2.2.2).trans ((congrArg (fun q9 => q9.1) ((keepS.n1 1)).2.2.2).trans ((congrArg (fun q9 => q9.1) ((keepS.n1 1)).2.2.2).trans (rfl : gs.2.2.1 = gs.2.2.1))))))), (by omega)⟩) (show (V725 0 48).toInt ≤ 8000 from by omega) (show (V725 0 48).toInt = (V 0 48).toInt from by omega) (show (V725 0 12).toInt = (V 0 12).toInt from by omega) rw736 rw737 rw738 rw739 rw740 rw741 hP hD hS (lv_sub hl [0, 1, 2, 3] rfl)
                                · skip
                                  have f742 : z651.toInt ≠ 0 := b_neq rfl (by decide) c723
                                  exfalso; omega
                            · skip
                              have hb743 : ∀ k, Rc gT (Crun gs (Istmt :: k)) (Cbad (V354 0 8).toInt) := fun k => Rc.go1 (hr345 k) ((sc_n wx32 (by omega)).trans (fl_eq rfl rl358))
                              have r744 : 0 ≤ ((V354 0 8)).toInt ∧ ((V354 0 8)).toInt ≤ 70000 := hMV354 0 8
                              refine va_iast (D := D) (i := z5) (x := z350) hx hb hK hP hD hS 15 14 rfl rfl (i_in (a := z5.toInt) rfl (by omega)) dX12_toldComponent_145 (fun H locs hP hD hS => ?_)
                              obtain ⟨V745, hV745⟩ : ∃ z, z = up2 V354 22 (Int32.toNatClampNeg z5) z350 := ⟨_, rfl⟩
                              have hP : va_P D vwCl (mw ad kk ks.1 V745 L) H := by rw [hV745]; exact hP
                              have hD : va_D A (mw ad kk ks.1 V745 L) := by rw [hV745]; exact hD
                              have hMV745 : rgd bM V745 := hMV354.put hV745 (i_full _)
                              have agV745 : agr [(0, 7), (0, 8), (0, 48), (0, 50), (0, 51), (0, 52)] [15, 19, 20, 21, 22, 23, 24, 25, 26, 27, 28, 29, 30, 31, 32, 33, 34, 35, 36, 37, 38, 45, 46, 47, 53] V V745 := agV354.up hV745 rfl
                              refine lv_aload_n hx hb dX12_toldComponent_146 rfl (lv_at hl 3 rfl) ?_
                              refine va_get (D := D) (ci := 12) (v := .ref (ad 23)) (C := RX12) (T := TX12) (N := 100) hx hb hg inX12 hown hK hP 0 rfl rfl 23 (by decide) (hg _ w1729) (fun _ h9 => h9) rfl dX12_toldComponent_147 ?_
                              refine lv_iload_n hx hb dX12_toldComponent_150 rfl (lv_at hl 2 rfl) ?_
                              refine lv_aload_n hx hb dX12_toldComponent_151 rfl (lv_at hl 3 rfl) ?_
                              refine lv_iconst (v := 5) hx hb dX12_toldComponent_152 (by decide) ?_
                              have r746 : Int32.toInt 5 = 5 := by decide
                              have pq747 : (V745 0 8).toInt = ((V354 0 8)).toInt := congrArg Int32.toInt (up2_o hV745 (by decide))
                              refine gA_int (gA_runV (As := [.int 5]) (rest := [.int z5, .ref (ad 23)]) (ci := 12) (q0 := 0) hx hb hml hown hg hP hD hK hS hA hnw hgk (s_hasWordB l D ks H.size ad kk V745 L 5 hMV745 (by decide) (show 1 ≤ (V745 0 8).toInt from by omega)) w2051 w2053 w90 w172 w2054 rfl rfl hdV_yX12_hasWord ⟨Nat.le_of_ble_eq_true rfl, Nat.le_of_ble_eq_true rfl⟩ rfl hl.1 rfl (Nat.le_of_ble_eq_true rfl) dX12_toldComponent_153 ⟨Nat.le_of_ble_eq_true rfl, Nat.le_of_ble_eq_true rfl⟩) hP hD hK hS hA (fun z748 u749 H locs w750 hP hD hK hS => ?_)
                              obtain ⟨V752, L753⟩ := u749
                              obtain ⟨hMV752, ajV752, axL753, rgz748, t751⟩ := w750
                              have axL753 : L = L753 := Eq.symm axL753
                              subst axL753
                              have hP : va_P D vwCl (mw ad kk ks.1 V752 L) H := hP
                              have hD : va_D A (mw ad kk ks.1 V752 L) := hD
                              have hMV752 : rgd bM V752 := hMV752
                              have ajV752 : agr [(0, 7)] [] V745 V752 := ajV752
                              have agV752 : agr [(0, 7), (0, 8), (0, 48), (0, 50), (0, 51), (0, 52)] [15, 19, 20, 21, 22, 23, 24, 25, 26, 27, 28, 29, 30, 31, 32, 33, 34, 35, 36, 37, 38, 45, 46, 47, 53] V V752 := agV745.tr ajV752 (by decide) (by decide)
                              have rgz748 : 0 ≤ z748.toInt ∧ z748.toInt ≤ 0 := rgz748
                              have t751 : (V752 0 8).toInt = (V745 0 8).toInt := t751
                              have pq754 : (V752 0 8).toInt = ((V354 0 8)).toInt := congrArg Int32.toInt ((ajV752 0 8 rfl).trans (up2_o hV745 (by decide)))
                              refine lv_if_eq (tgt := 174) hx hb dX12_toldComponent_156 (by decide) (fun c755 => ?_) (fun c755 => ?_)
                              · skip
                                have f756 : z748.toInt = 0 := b_eq rfl (by decide) c755
                                refine lv_iconst (v := (-1)) hx hb dX12_toldComponent_174 (by decide) ?_
                                refine va_iast (D := D) (i := z5) (x := (-1)) hx hb hK hP hD hS 16 15 rfl rfl (i_in (a := z5.toInt) rfl (by omega)) dX12_toldComponent_175 (fun H locs hP hD hS => ?_)
                                obtain ⟨V757, hV757⟩ : ∃ z, z = up2 V752 23 (Int32.toNatClampNeg z5) (-1) := ⟨_, rfl⟩
                                have hP : va_P D vwCl (mw ad kk ks.1 V757 L) H := by rw [hV757]; exact hP
                                have hD : va_D A (mw ad kk ks.1 V757 L) := by rw [hV757]; exact hD
                                have hMV757 : rgd bM V757 := hMV752.put hV757 (i_full _)
                                have agV757 : agr [(0, 7), (0, 8), (0, 48), (0, 50), (0, 51), (0, 52)] [15, 19, 20, 21, 22, 23, 24, 25, 26, 27, 28, 29, 30, 31, 32, 33, 34, 35, 36, 37, 38, 45, 46, 47, 53] V V757 := agV752.up hV757 rfl
                                refine lv_aload_n hx hb dX12_toldComponent_176 rfl (lv_at hl 3 rfl) ?_
                                refine va_get (D := D) (ci := 12) (v := .ref (ad 24)) (C := RX12) (T := TX12) (N := 100) hx hb hg inX12 hown hK hP 0 rfl rfl 24 (by decide) (hg _ w1730) (fun _ h9 => h9) rfl dX12_toldComponent_177 ?_
                                refine lv_iload_n hx hb dX12_toldComponent_180 rfl (lv_at hl 2 rfl) ?_
                                refine lv_aload_n hx hb dX12_toldComponent_181 rfl (lv_at hl 3 rfl) ?_
                                refine lv_bipush (v := 6) hx hb dX12_toldComponent_182 (by decide) ?_
                                have r758 : Int32.toInt 6 = 6 := by decide
                                have pq759 : (V757 0 8).toInt = ((V354 0 8)).toInt := congrArg Int32.toInt ((up2_o hV757 (by decide)).trans ((ajV752 0 8 rfl).trans (up2_o hV745 (by decide))))
                                refine gA_int (gA_runV (As := [.int 6]) (rest := [.int z5, .ref (ad 24)]) (ci := 12) (q0 := 0) hx hb hml hown hg hP hD hK hS hA hnw hgk (s_hasWordB l D ks H.size ad kk V757 L 6 hMV757 (by decide) (show 1 ≤ (V757 0 8).toInt from by omega)) w2051 w2053 w90 w172 w2054 rfl rfl hdV_yX12_hasWord ⟨Nat.le_of_ble_eq_true rfl, Nat.le_of_ble_eq_true rfl⟩ rfl hl.1 rfl (Nat.le_of_ble_eq_true rfl) dX12_toldComponent_184 ⟨Nat.le_of_ble_eq_true rfl, Nat.le_of_ble_eq_true rfl⟩) hP hD hK hS hA (fun z760 u761 H locs w762 hP hD hK hS => ?_)
                                obtain ⟨V764, L765⟩ := u761
                                obtain ⟨hMV764, ajV764, axL765, rgz760, t763⟩ := w762
                                have axL765 : L = L765 := Eq.symm axL765
                                subst axL765
                                have hP : va_P D vwCl (mw ad kk ks.1 V764 L) H := hP
                                have hD : va_D A (mw ad kk ks.1 V764 L) := hD
                                have hMV764 : rgd bM V764 := hMV764
                                have ajV764 : agr [(0, 7)] [] V757 V764 := ajV764
                                have agV764 : agr [(0, 7), (0, 8), (0, 48), (0, 50), (0, 51), (0, 52)] [15, 19, 20, 21, 22, 23, 24, 25, 26, 27, 28, 29, 30, 31, 32, 33, 34, 35, 36, 37, 38, 45, 46, 47, 53] V V764 := agV757.tr ajV764 (by decide) (by decide)
                                have rgz760 : 0 ≤ z760.toInt ∧ z760.toInt ≤ 0 := rgz760
                                have t763 : (V764 0 8).toInt = (V757 0 8).toInt := t763
                                have pq766 : (V764 0 8).toInt = ((V354 0 8)).toInt := congrArg Int32.toInt ((ajV764 0 8 rfl).trans ((up2_o hV757 (by decide)).trans ((ajV752 0 8 rfl).trans (up2_o hV745 (by decide)))))
                                refine lv_if_eq (tgt := 200) hx hb dX12_toldComponent_187 (by decide) (fun c767 => ?_) (fun c767 => ?_)
                                · skip
                                  have f768 : z760.toInt = 0 := b_eq rfl (by decide) c767
                                  refine lv_iconst (v := 0) hx hb dX12_toldComponent_200 (by decide) ?_
                                  refine va_iast (D := D) (i := z5) (x := 0) hx hb hK hP hD hS 17 16 rfl rfl (i_in (a := z5.toInt) rfl (by omega)) dX12_toldComponent_201 (fun H locs hP hD hS => ?_)
                                  obtain ⟨V769, hV769⟩ : ∃ z, z = up2 V764 24 (Int32.toNatClampNeg z5) 0 := ⟨_, rfl⟩
                                  have hP : va_P D vwCl (mw ad kk ks.1 V769 L) H := by rw [hV769]; exact hP
                                  have hD : va_D A (mw ad kk ks.1 V769 L) := by rw [hV769]; exact hD
                                  have hMV769 : rgd bM V769 := hMV764.put hV769 (show 0 ≤ Int32.toInt 0 ∧ Int32.toInt 0 ≤ 9 from by decide)
                                  have agV769 : agr [(0, 7), (0, 8), (0, 48), (0, 50), (0, 51), (0, 52)] [15, 19, 20, 21, 22, 23, 24, 25, 26, 27, 28, 29, 30, 31, 32, 33, 34, 35, 36, 37, 38, 45, 46, 47, 53] V V769 := agV764.up hV769 rfl
                                  refine lv_aload_n hx hb dX12_toldComponent_202 rfl (lv_at hl 3 rfl) ?_
                                  refine va_get (D := D) (ci := 12) (v := .ref (ad 25)) (C := RX12) (T := TX12) (N := 100) hx hb hg inX12 hown hK hP 0 rfl rfl 25 (by decide) (hg _ w1731) (fun _ h9 => h9) rfl dX12_toldComponent_203 ?_
                                  refine lv_iload_n hx hb dX12_toldComponent_206 rfl (lv_at hl 2 rfl) ?_
                                  refine lv_iconst (v := (-1)) hx hb dX12_toldComponent_207 (by decide) ?_
                                  refine va_iast (D := D) (i := z5) (x := (-1)) hx hb hK hP hD hS 18 17 rfl rfl (i_in (a := z5.toInt) rfl (by omega)) dX12_toldComponent_208 (fun H locs hP hD hS => ?_)
                                  obtain ⟨V770, hV770⟩ : ∃ z, z = up2 V769 25 (Int32.toNatClampNeg z5) (-1) := ⟨_, rfl⟩
                                  have hP : va_P D vwCl (mw ad kk ks.1 V770 L) H := by rw [hV770]; exact hP
                                  have hD : va_D A (mw ad kk ks.1 V770 L) := by rw [hV770]; exact hD
                                  have hMV770 : rgd bM V770 := hMV769.put hV770 (show (-1) ≤ Int32.toInt (-1) ∧ Int32.toInt (-1) ≤ 11 from by decide)
                                  have agV770 : agr [(0, 7), (0, 8), (0, 48), (0, 50), (0, 51), (0, 52)] [15, 19, 20, 21, 22, 23, 24, 25, 26, 27, 28, 29, 30, 31, 32, 33, 34, 35, 36, 37, 38, 45, 46, 47, 53] V V770 := agV769.up hV770 rfl
                                  refine lv_aload_n hx hb dX12_toldComponent_209 rfl (lv_at hl 3 rfl) ?_
                                  refine lv_bipush (v := 7) hx hb dX12_toldComponent_210 (by decide) ?_
                                  have r771 : Int32.toInt 7 = 7 := by decide
                                  have pq772 : (V770 0 8).toInt = ((V354 0 8)).toInt := congrArg Int32.toInt ((up2_o hV770 (by decide)).trans ((up2_o hV769 (by decide)).trans ((ajV764 0 8 rfl).trans ((up2_o hV757 (by decide)).trans ((ajV752 0 8 rfl).trans (up2_o hV745 (by decide)))))))
                                  refine gA_int (gA_runV (As := [.int 7]) (rest := []) (ci := 12) (q0 := 0) hx hb hml hown hg hP hD hK hS hA hnw hgk (s_hasWordB l D ks H.size ad kk V770 L 7 hMV770 (by decide) (show 1 ≤ (V770 0 8).toInt from by omega)) w2051 w2053 w90 w172 w2054 rfl rfl hdV_yX12_hasWord ⟨Nat.le_of_ble_eq_true rfl, Nat.le_of_ble_eq_true rfl⟩ rfl hl.1 rfl (Nat.le_of_ble_eq_true rfl) dX12_toldComponent_212 ⟨Nat.le_of_ble_eq_true rfl, Nat.le_of_ble_eq_true rfl⟩) hP hD hK hS hA (fun z773 u774 H locs w775 hP hD hK hS => ?_)
                                  obtain ⟨V777, L778⟩ := u774
                                  obtain ⟨hMV777, ajV777, axL778, rgz773, t776⟩ := w775
                                  have axL778 : L = L778 := Eq.symm axL778
                                  subst axL778
                                  have hP : va_P D vwCl (mw ad kk ks.1 V777 L) H := hP
                                  have hD : va_D A (mw ad kk ks.1 V777 L) := hD
                                  have hMV777 : rgd bM V777 := hMV777
                                  have ajV777 : agr [(0, 7)] [] V770 V777 := ajV777
                                  have agV777 : agr [(0, 7), (0, 8), (0, 48), (0, 50), (0, 51), (0, 52)] [15, 19, 20, 21, 22, 23, 24, 25, 26, 27, 28, 29, 30, 31, 32, 33, 34, 35, 36, 37, 38, 45, 46, 47, 53] V V777 := agV770.tr ajV777 (by decide) (by decide)
                                  have rgz773 : 0 ≤ z773.toInt ∧ z773.toInt ≤ 0 := rgz773
                                  have t776 : (V777 0 8).toInt = (V770 0 8).toInt := t776
                                  have pq779 : (V777 0 8).toInt = ((V354 0 8)).toInt := congrArg Int32.toInt ((ajV777 0 8 rfl).trans ((up2_o hV770 (by decide)).trans ((up2_o hV769 (by decide)).trans ((ajV764 0 8 rfl).trans ((up2_o hV757 (by decide)).trans ((ajV752 0 8 rfl).trans (up2_o hV745 (by decide))))))))
                                  refine lv_if_eq (tgt := 262) hx hb dX12_toldComponent_215 (by decide) (fun c780 => ?_) (fun c780 => ?_)
                                  · skip
                                    have f781 : z773.toInt = 0 := b_eq rfl (by decide) c780
                                    have pq782 : (V777 0 48).toInt = ((V 0 48)).toInt := congrArg Int32.toInt ((ajV777 0 48 rfl).trans ((up2_o hV770 (by decide)).trans ((up2_o hV769 (by decide)).trans ((ajV764 0 48 rfl).trans ((up2_o hV757 (by decide)).trans ((ajV752 0 48 rfl).trans ((up2_o hV745 (by decide)).trans ((ajV354 0 48 rfl).trans ((ajV338 0 48 rfl).trans ((ajV321 0 48 rfl).trans ((ajV47 0 48 rfl).trans ((ajV42 0 48 rfl).trans ((ajV29 0 48 rfl).trans (ajV13 0 48 rfl))))))))))))))
                                    have pq783 : (V777 0 12).toInt = ((V 0 12)).toInt := congrArg Int32.toInt ((ajV777 0 12 rfl).trans ((up2_o hV770 (by decide)).trans ((up2_o hV769 (by decide)).trans ((ajV764 0 12 rfl).trans ((up2_o hV757 (by decide)).trans ((ajV752 0 12 rfl).trans ((up2_o hV745 (by decide)).trans ((ajV354 0 12 rfl).trans ((ajV338 0 12 rfl).trans ((ajV321 0 12 rfl).trans ((ajV47 0 12 rfl).trans ((ajV42 0 12 rfl).trans ((ajV29 0 12 rfl).trans (ajV13 0 12 rfl))))))))))))))
                                    have rw784 : RoV 19 bq V V777 := (fun k hk => ((ajV777 19 k rfl).trans ((up2_o hV770 (by decide)).trans ((up2_o hV769 (by decide)).trans ((ajV764 19 k rfl).trans ((up2_o hV757 (by decide)).trans ((ajV752 19 k rfl).trans ((up2_o hV745 (by decide)).trans ((ajV354 19 k rfl).trans ((ajV338 19 k rfl).trans ((ajV321 19 k rfl).trans (xlp48_1 k hk))))))))))))
                                    have rw785 : RoV 35 bq V V777 := (fun k hk => ((ajV777 35 k rfl).trans ((up2_o hV770 (by decide)).trans ((up2_o hV769 (by decide)).trans ((ajV764 35 k rfl).trans ((up2_o hV757 (by decide)).trans ((ajV752 35 k rfl).trans ((up2_o hV745 (by decide)).trans ((ajV354 35 k rfl).trans ((ajV338 35 k rfl).trans ((ajV321 35 k rfl).trans (xlp48_2 k hk))))))))))))
                                    have rw786 : RoV 37 bq V V777 := (fun k hk => ((ajV777 37 k rfl).trans ((up2_o hV770 (by decide)).trans ((up2_o hV769 (by decide)).trans ((ajV764 37 k rfl).trans ((up2_o hV757 (by decide)).trans ((ajV752 37 k rfl).trans ((up2_o hV745 (by decide)).trans ((ajV354 37 k rfl).trans ((ajV338 37 k rfl).trans ((ajV321 37 k rfl).trans (xlp48_3 k hk))))))))))))
                                    have rw787 : RoL 20 24 bq L L := (fun k hk => rfl)
                                    have rw788 : RoL 36 20 bq L L := (fun k hk => rfl)
                                    have rw789 : RoL 38 20 bq L L := (fun k hk => rfl)
                                    exact J52 V777 L H locs ls alL (agr.tr (agr.up (agr.up (agr.tr (agr.up (agr.tr (agr.up (agr.tr (agr.tr (agr.tr agr.rf ajV321 (by decide) (by decide)) ajV338 (by decide) (by decide)) ajV354 (by decide) (by decide)) hV745 rfl) ajV752 (by decide) (by decide)) hV757 rfl) ajV764 (by decide) (by decide)) hV769 rfl) hV770 rfl) ajV777 (by decide) (by decide)) hMV777 (Or.inr ⟨(show 1 ≤ (V777 0 8).toInt from by omega), (fun k => by rw [show (V777 0 8).toInt = (V354 0 8).toInt from by omega]; exact hb743 k)⟩) (show (V777 0 48).toInt ≤ 8000 from by omega) (show (V777 0 48).toInt = (V 0 48).toInt from by omega) (show (V777 0 12).toInt = (V 0 12).toInt from by omega) rw784 rw785 rw786 rw787 rw788 rw789 hP hD hS (lv_sub hl [0, 1, 2, 3] rfl)
                                  · skip
                                    have f790 : z773.toInt ≠ 0 := b_neq rfl (by decide) c780
                                    exfalso; omega
                                · skip
                                  have f791 : z760.toInt ≠ 0 := b_neq rfl (by decide) c767
                                  exfalso; omega
                              · skip
                                have f792 : z748.toInt ≠ 0 := b_neq rfl (by decide) c755
                                exfalso; omega
                          · skip
                            have hb793 : ∀ k, Rc gT (Crun gs (Istmt :: k)) (Cbad (V338 0 8).toInt) := fun k => (hr327 k).tr (h342 (Iscope wx32 :: k))
                            have r794 : 0 ≤ ((V338 0 8)).toInt ∧ ((V338 0 8)).toInt ≤ 70000 := hMV338 0 8
                            refine lv_aload_n hx hb dX12_toldComponent_133 rfl (lv_at hl 3 rfl) ?_
                            refine va_get (D := D) (ci := 12) (v := .ref (ad 22)) (C := RX12) (T := TX12) (N := 100) hx hb hg inX12 hown hK hP 0 rfl rfl 22 (by decide) (hg _ w1728) (fun _ h9 => h9) rfl dX12_toldComponent_134 ?_
                            refine lv_iload_n hx hb dX12_toldComponent_137 rfl (lv_at hl 2 rfl) ?_
                            refine lv_aload_n hx hb dX12_toldComponent_138 rfl (lv_at hl 3 rfl) ?_
                            refine lv_bipush (v := 20) hx hb dX12_toldComponent_139 (by decide) ?_
                            refine lv_iconst (v := 4) hx hb dX12_toldComponent_141 (by decide) ?_
                            have r795 : Int32.toInt 20 = 20 := by decide
                            refine gA_int (gA_runV (As := [.int 20, .int 4]) (rest := [.int z5, .ref (ad 22)]) (ci := 12) (q0 := 0) hx hb hml hown hg hP hD hK hS hA hnw hgk (s_oneOfB l D ks H.size ad kk V338 L 20 4 hMV338 (by decide) (by decide) (show 1 ≤ (V338 0 8).toInt from by omega)) w2096 w2098 w101 w172 w2099 rfl rfl hdV_yX12_oneOf ⟨Nat.le_of_ble_eq_true rfl, Nat.le_of_ble_eq_true rfl⟩ rfl hl.1 rfl (Nat.le_of_ble_eq_true rfl) dX12_toldComponent_142 ⟨Nat.le_of_ble_eq_true rfl, Nat.le_of_ble_eq_true rfl⟩) hP hD hK hS hA (fun z796 u797 H locs w798 hP hD hK hS => ?_)
                            obtain ⟨V800, L801⟩ := u797
                            obtain ⟨hMV800, ajV800, axL801, rgz796, t799⟩ := w798
                            have axL801 : L = L801 := Eq.symm axL801
                            subst axL801
                            have hP : va_P D vwCl (mw ad kk ks.1 V800 L) H := hP
                            have hD : va_D A (mw ad kk ks.1 V800 L) := hD
                            have hMV800 : rgd bM V800 := hMV800
                            have ajV800 : agr [(0, 7), (0, 8)] [] V338 V800 := ajV800
                            have agV800 : agr [(0, 7), (0, 8), (0, 48), (0, 50), (0, 51), (0, 52)] [15, 19, 20, 21, 22, 23, 24, 25, 26, 27, 28, 29, 30, 31, 32, 33, 34, 35, 36, 37, 38, 45, 46, 47, 53] V V800 := agV338.tr ajV800 (by decide) (by decide)
                            have rgz796 : 0 ≤ z796.toInt ∧ z796.toInt ≤ 0 := rgz796
                            have t799 : (V800 0 8).toInt = (V338 0 8).toInt := t799
                            have r802 : 0 ≤ ((V800 0 8)).toInt ∧ ((V800 0 8)).toInt ≤ 70000 := hMV800 0 8
                            refine va_iast (D := D) (i := z5) (x := z796) hx hb hK hP hD hS 15 14 rfl rfl (i_in (a := z5.toInt) rfl (by omega)) dX12_toldComponent_145 (fun H locs hP hD hS => ?_)
                            obtain ⟨V803, hV803⟩ : ∃ z, z = up2 V800 22 (Int32.toNatClampNeg z5) z796 := ⟨_, rfl⟩
                            have hP : va_P D vwCl (mw ad kk ks.1 V803 L) H := by rw [hV803]; exact hP
                            have hD : va_D A (mw ad kk ks.1 V803 L) := by rw [hV803]; exact hD
                            have hMV803 : rgd bM V803 := hMV800.put hV803 (i_full _)
                            have agV803 : agr [(0, 7), (0, 8), (0, 48), (0, 50), (0, 51), (0, 52)] [15, 19, 20, 21, 22, 23, 24, 25, 26, 27, 28, 29, 30, 31, 32, 33, 34, 35, 36, 37, 38, 45, 46, 47, 53] V V803 := agV800.up hV803 rfl
                            refine lv_aload_n hx hb dX12_toldComponent_146 rfl (lv_at hl 3 rfl) ?_
                            refine va_get (D := D) (ci := 12) (v := .ref (ad 23)) (C := RX12) (T := TX12) (N := 100) hx hb hg inX12 hown hK hP 0 rfl rfl 23 (by decide) (hg _ w1729) (fun _ h9 => h9) rfl dX12_toldComponent_147 ?_
                            refine lv_iload_n hx hb dX12_toldComponent_150 rfl (lv_at hl 2 rfl) ?_
                            refine lv_aload_n hx hb dX12_toldComponent_151 rfl (lv_at hl 3 rfl) ?_
                            refine lv_iconst (v := 5) hx hb dX12_toldComponent_152 (by decide) ?_
                            have r804 : Int32.toInt 5 = 5 := by decide
                            have pq805 : (V803 0 8).toInt = ((V800 0 8)).toInt := congrArg Int32.toInt (up2_o hV803 (by decide))
                            refine gA_int (gA_runV (As := [.int 5]) (rest := [.int z5, .ref (ad 23)]) (ci := 12) (q0 := 0) hx hb hml hown hg hP hD hK hS hA hnw hgk (s_hasWordB l D ks H.size ad kk V803 L 5 hMV803 (by decide) (show 1 ≤ (V803 0 8).toInt from by omega)) w2051 w2053 w90 w172 w2054 rfl rfl hdV_yX12_hasWord ⟨Nat.le_of_ble_eq_true rfl, Nat.le_of_ble_eq_true rfl⟩ rfl hl.1 rfl (Nat.le_of_ble_eq_true rfl) dX12_toldComponent_153 ⟨Nat.le_of_ble_eq_true rfl, Nat.le_of_ble_eq_true rfl⟩) hP hD hK hS hA (fun z806 u807 H locs w808 hP hD hK hS => ?_)
                            obtain ⟨V810, L811⟩ := u807
                            obtain ⟨hMV810, ajV810, axL811, rgz806, t809⟩ := w808
                            have axL811 : L = L811 := Eq.symm axL811
                            subst axL811
                            have hP : va_P D vwCl (mw ad kk ks.1 V810 L) H := hP
                            have hD : va_D A (mw ad kk ks.1 V810 L) := hD
                            have hMV810 : rgd bM V810 := hMV810
                            have ajV810 : agr [(0, 7)] [] V803 V810 := ajV810
                            have agV810 : agr [(0, 7), (0, 8), (0, 48), (0, 50), (0, 51), (0, 52)] [15, 19, 20, 21, 22, 23, 24, 25, 26, 27, 28, 29, 30, 31, 32, 33, 34, 35, 36, 37, 38, 45, 46, 47, 53] V V810 := agV803.tr ajV810 (by decide) (by decide)
                            have rgz806 : 0 ≤ z806.toInt ∧ z806.toInt ≤ 0 := rgz806
                            have t809 : (V810 0 8).toInt = (V803 0 8).toInt := t809
                            have pq812 : (V810 0 8).toInt = ((V800 0 8)).toInt := congrArg Int32.toInt ((ajV810 0 8 rfl).trans (up2_o hV803 (by decide)))
                            refine lv_if_eq (tgt := 174) hx hb dX12_toldComponent_156 (by decide) (fun c813 => ?_) (fun c813 => ?_)
                            · skip
                              have f814 : z806.toInt = 0 := b_eq rfl (by decide) c813
                              refine lv_iconst (v := (-1)) hx hb dX12_toldComponent_174 (by decide) ?_
                              refine va_iast (D := D) (i := z5) (x := (-1)) hx hb hK hP hD hS 16 15 rfl rfl (i_in (a := z5.toInt) rfl (by omega)) dX12_toldComponent_175 (fun H locs hP hD hS => ?_)
                              obtain ⟨V815, hV815⟩ : ∃ z, z = up2 V810 23 (Int32.toNatClampNeg z5) (-1) := ⟨_, rfl⟩
                              have hP : va_P D vwCl (mw ad kk ks.1 V815 L) H := by rw [hV815]; exact hP
                              have hD : va_D A (mw ad kk ks.1 V815 L) := by rw [hV815]; exact hD
                              have hMV815 : rgd bM V815 := hMV810.put hV815 (i_full _)
                              have agV815 : agr [(0, 7), (0, 8), (0, 48), (0, 50), (0, 51), (0, 52)] [15, 19, 20, 21, 22, 23, 24, 25, 26, 27, 28, 29, 30, 31, 32, 33, 34, 35, 36, 37, 38, 45, 46, 47, 53] V V815 := agV810.up hV815 rfl
                              refine lv_aload_n hx hb dX12_toldComponent_176 rfl (lv_at hl 3 rfl) ?_
                              refine va_get (D := D) (ci := 12) (v := .ref (ad 24)) (C := RX12) (T := TX12) (N := 100) hx hb hg inX12 hown hK hP 0 rfl rfl 24 (by decide) (hg _ w1730) (fun _ h9 => h9) rfl dX12_toldComponent_177 ?_
                              refine lv_iload_n hx hb dX12_toldComponent_180 rfl (lv_at hl 2 rfl) ?_
                              refine lv_aload_n hx hb dX12_toldComponent_181 rfl (lv_at hl 3 rfl) ?_
                              refine lv_bipush (v := 6) hx hb dX12_toldComponent_182 (by decide) ?_
                              have r816 : Int32.toInt 6 = 6 := by decide
                              have pq817 : (V815 0 8).toInt = ((V800 0 8)).toInt := congrArg Int32.toInt ((up2_o hV815 (by decide)).trans ((ajV810 0 8 rfl).trans (up2_o hV803 (by decide))))
                              refine gA_int (gA_runV (As := [.int 6]) (rest := [.int z5, .ref (ad 24)]) (ci := 12) (q0 := 0) hx hb hml hown hg hP hD hK hS hA hnw hgk (s_hasWordB l D ks H.size ad kk V815 L 6 hMV815 (by decide) (show 1 ≤ (V815 0 8).toInt from by omega)) w2051 w2053 w90 w172 w2054 rfl rfl hdV_yX12_hasWord ⟨Nat.le_of_ble_eq_true rfl, Nat.le_of_ble_eq_true rfl⟩ rfl hl.1 rfl (Nat.le_of_ble_eq_true rfl) dX12_toldComponent_184 ⟨Nat.le_of_ble_eq_true rfl, Nat.le_of_ble_eq_true rfl⟩) hP hD hK hS hA (fun z818 u819 H locs w820 hP hD hK hS => ?_)
                              obtain ⟨V822, L823⟩ := u819
                              obtain ⟨hMV822, ajV822, axL823, rgz818, t821⟩ := w820
                              have axL823 : L = L823 := Eq.symm axL823
                              subst axL823
                              have hP : va_P D vwCl (mw ad kk ks.1 V822 L) H := hP
                              have hD : va_D A (mw ad kk ks.1 V822 L) := hD
                              have hMV822 : rgd bM V822 := hMV822
                              have ajV822 : agr [(0, 7)] [] V815 V822 := ajV822
                              have agV822 : agr [(0, 7), (0, 8), (0, 48), (0, 50), (0, 51), (0, 52)] [15, 19, 20, 21, 22, 23, 24, 25, 26, 27, 28, 29, 30, 31, 32, 33, 34, 35, 36, 37, 38, 45, 46, 47, 53] V V822 := agV815.tr ajV822 (by decide) (by decide)
                              have rgz818 : 0 ≤ z818.toInt ∧ z818.toInt ≤ 0 := rgz818
                              have t821 : (V822 0 8).toInt = (V815 0 8).toInt := t821
                              have pq824 : (V822 0 8).toInt = ((V800 0 8)).toInt := congrArg Int32.toInt ((ajV822 0 8 rfl).trans ((up2_o hV815 (by decide)).trans ((ajV810 0 8 rfl).trans (up2_o hV803 (by decide)))))
                              refine lv_if_eq (tgt := 200) hx hb dX12_toldComponent_187 (by decide) (fun c825 => ?_) (fun c825 => ?_)
                              · skip
                                have f826 : z818.toInt = 0 := b_eq rfl (by decide) c825
                                refine lv_iconst (v := 0) hx hb dX12_toldComponent_200 (by decide) ?_
                                refine va_iast (D := D) (i := z5) (x := 0) hx hb hK hP hD hS 17 16 rfl rfl (i_in (a := z5.toInt) rfl (by omega)) dX12_toldComponent_201 (fun H locs hP hD hS => ?_)
                                obtain ⟨V827, hV827⟩ : ∃ z, z = up2 V822 24 (Int32.toNatClampNeg z5) 0 := ⟨_, rfl⟩
                                have hP : va_P D vwCl (mw ad kk ks.1 V827 L) H := by rw [hV827]; exact hP
                                have hD : va_D A (mw ad kk ks.1 V827 L) := by rw [hV827]; exact hD
                                have hMV827 : rgd bM V827 := hMV822.put hV827 (show 0 ≤ Int32.toInt 0 ∧ Int32.toInt 0 ≤ 9 from by decide)
                                have agV827 : agr [(0, 7), (0, 8), (0, 48), (0, 50), (0, 51), (0, 52)] [15, 19, 20, 21, 22, 23, 24, 25, 26, 27, 28, 29, 30, 31, 32, 33, 34, 35, 36, 37, 38, 45, 46, 47, 53] V V827 := agV822.up hV827 rfl
                                refine lv_aload_n hx hb dX12_toldComponent_202 rfl (lv_at hl 3 rfl) ?_
                                refine va_get (D := D) (ci := 12) (v := .ref (ad 25)) (C := RX12) (T := TX12) (N := 100) hx hb hg inX12 hown hK hP 0 rfl rfl 25 (by decide) (hg _ w1731) (fun _ h9 => h9) rfl dX12_toldComponent_203 ?_
                                refine lv_iload_n hx hb dX12_toldComponent_206 rfl (lv_at hl 2 rfl) ?_
                                refine lv_iconst (v := (-1)) hx hb dX12_toldComponent_207 (by decide) ?_
                                refine va_iast (D := D) (i := z5) (x := (-1)) hx hb hK hP hD hS 18 17 rfl rfl (i_in (a := z5.toInt) rfl (by omega)) dX12_toldComponent_208 (fun H locs hP hD hS => ?_)
                                obtain ⟨V828, hV828⟩ : ∃ z, z = up2 V827 25 (Int32.toNatClampNeg z5) (-1) := ⟨_, rfl⟩
                                have hP : va_P D vwCl (mw ad kk ks.1 V828 L) H := by rw [hV828]; exact hP
                                have hD : va_D A (mw ad kk ks.1 V828 L) := by rw [hV828]; exact hD
                                have hMV828 : rgd bM V828 := hMV827.put hV828 (show (-1) ≤ Int32.toInt (-1) ∧ Int32.toInt (-1) ≤ 11 from by decide)
                                have agV828 : agr [(0, 7), (0, 8), (0, 48), (0, 50), (0, 51), (0, 52)] [15, 19, 20, 21, 22, 23, 24, 25, 26, 27, 28, 29, 30, 31, 32, 33, 34, 35, 36, 37, 38, 45, 46, 47, 53] V V828 := agV827.up hV828 rfl
                                refine lv_aload_n hx hb dX12_toldComponent_209 rfl (lv_at hl 3 rfl) ?_
                                refine lv_bipush (v := 7) hx hb dX12_toldComponent_210 (by decide) ?_
                                have r829 : Int32.toInt 7 = 7 := by decide
                                have pq830 : (V828 0 8).toInt = ((V800 0 8)).toInt := congrArg Int32.toInt ((up2_o hV828 (by decide)).trans ((up2_o hV827 (by decide)).trans ((ajV822 0 8 rfl).trans ((up2_o hV815 (by decide)).trans ((ajV810 0 8 rfl).trans (up2_o hV803 (by decide)))))))
                                refine gA_int (gA_runV (As := [.int 7]) (rest := []) (ci := 12) (q0 := 0) hx hb hml hown hg hP hD hK hS hA hnw hgk (s_hasWordB l D ks H.size ad kk V828 L 7 hMV828 (by decide) (show 1 ≤ (V828 0 8).toInt from by omega)) w2051 w2053 w90 w172 w2054 rfl rfl hdV_yX12_hasWord ⟨Nat.le_of_ble_eq_true rfl, Nat.le_of_ble_eq_true rfl⟩ rfl hl.1 rfl (Nat.le_of_ble_eq_true rfl) dX12_toldComponent_212 ⟨Nat.le_of_ble_eq_true rfl, Nat.le_of_ble_eq_true rfl⟩) hP hD hK hS hA (fun z831 u832 H locs w833 hP hD hK hS => ?_)
                                obtain ⟨V835, L836⟩ := u832
                                obtain ⟨hMV835, ajV835, axL836, rgz831, t834⟩ := w833
                                have axL836 : L = L836 := Eq.symm axL836
                                subst axL836
                                have hP : va_P D vwCl (mw ad kk ks.1 V835 L) H := hP
                                have hD : va_D A (mw ad kk ks.1 V835 L) := hD
                                have hMV835 : rgd bM V835 := hMV835
                                have ajV835 : agr [(0, 7)] [] V828 V835 := ajV835
                                have agV835 : agr [(0, 7), (0, 8), (0, 48), (0, 50), (0, 51), (0, 52)] [15, 19, 20, 21, 22, 23, 24, 25, 26, 27, 28, 29, 30, 31, 32, 33, 34, 35, 36, 37, 38, 45, 46, 47, 53] V V835 := agV828.tr ajV835 (by decide) (by decide)
                                have rgz831 : 0 ≤ z831.toInt ∧ z831.toInt ≤ 0 := rgz831
                                have t834 : (V835 0 8).toInt = (V828 0 8).toInt := t834
                                have pq837 : (V835 0 8).toInt = ((V800 0 8)).toInt := congrArg Int32.toInt ((ajV835 0 8 rfl).trans ((up2_o hV828 (by decide)).trans ((up2_o hV827 (by decide)).trans ((ajV822 0 8 rfl).trans ((up2_o hV815 (by decide)).trans ((ajV810 0 8 rfl).trans (up2_o hV803 (by decide))))))))
                                refine lv_if_eq (tgt := 262) hx hb dX12_toldComponent_215 (by decide) (fun c838 => ?_) (fun c838 => ?_)
                                · skip
                                  have f839 : z831.toInt = 0 := b_eq rfl (by decide) c838
                                  have pq840 : (V835 0 48).toInt = ((V 0 48)).toInt := congrArg Int32.toInt ((ajV835 0 48 rfl).trans ((up2_o hV828 (by decide)).trans ((up2_o hV827 (by decide)).trans ((ajV822 0 48 rfl).trans ((up2_o hV815 (by decide)).trans ((ajV810 0 48 rfl).trans ((up2_o hV803 (by decide)).trans ((ajV800 0 48 rfl).trans ((ajV338 0 48 rfl).trans ((ajV321 0 48 rfl).trans ((ajV47 0 48 rfl).trans ((ajV42 0 48 rfl).trans ((ajV29 0 48 rfl).trans (ajV13 0 48 rfl))))))))))))))
                                  have pq841 : (V835 0 12).toInt = ((V 0 12)).toInt := congrArg Int32.toInt ((ajV835 0 12 rfl).trans ((up2_o hV828 (by decide)).trans ((up2_o hV827 (by decide)).trans ((ajV822 0 12 rfl).trans ((up2_o hV815 (by decide)).trans ((ajV810 0 12 rfl).trans ((up2_o hV803 (by decide)).trans ((ajV800 0 12 rfl).trans ((ajV338 0 12 rfl).trans ((ajV321 0 12 rfl).trans ((ajV47 0 12 rfl).trans ((ajV42 0 12 rfl).trans ((ajV29 0 12 rfl).trans (ajV13 0 12 rfl))))))))))))))
                                  have rw842 : RoV 19 bq V V835 := (fun k hk => ((ajV835 19 k rfl).trans ((up2_o hV828 (by decide)).trans ((up2_o hV827 (by decide)).trans ((ajV822 19 k rfl).trans ((up2_o hV815 (by decide)).trans ((ajV810 19 k rfl).trans ((up2_o hV803 (by decide)).trans ((ajV800 19 k rfl).trans ((ajV338 19 k rfl).trans ((ajV321 19 k rfl).trans (xlp48_1 k hk))))))))))))
                                  have rw843 : RoV 35 bq V V835 := (fun k hk => ((ajV835 35 k rfl).trans ((up2_o hV828 (by decide)).trans ((up2_o hV827 (by decide)).trans ((ajV822 35 k rfl).trans ((up2_o hV815 (by decide)).trans ((ajV810 35 k rfl).trans ((up2_o hV803 (by decide)).trans ((ajV800 35 k rfl).trans ((ajV338 35 k rfl).trans ((ajV321 35 k rfl).trans (xlp48_2 k hk))))))))))))
                                  have rw844 : RoV 37 bq V V835 := (fun k hk => ((ajV835 37 k rfl).trans ((up2_o hV828 (by decide)).trans ((up2_o hV827 (by decide)).trans ((ajV822 37 k rfl).trans ((up2_o hV815 (by decide)).trans ((ajV810 37 k rfl).trans ((up2_o hV803 (by decide)).trans ((ajV800 37 k rfl).trans ((ajV338 37 k rfl).trans ((ajV321 37 k rfl).trans (xlp48_3 k hk))))))))))))
                                  have rw845 : RoL 20 24 bq L L := (fun k hk => rfl)
                                  have rw846 : RoL 36 20 bq L L := (fun k hk => rfl)
                                  have rw847 : RoL 38 20 bq L L := (fun k hk => rfl)
                                  exact J52 V835 L H locs ls alL (agr.tr (agr.up (agr.up (agr.tr (agr.up (agr.tr (agr.up (agr.tr (agr.tr (agr.tr agr.rf ajV321 (by decide) (by decide)) ajV338 (by decide) (by decide)) ajV800 (by decide) (by decide)) hV803 rfl) ajV810 (by decide) (by decide)) hV815 rfl) ajV822 (by decide) (by decide)) hV827 rfl) hV828 rfl) ajV835 (by decide) (by decide)) hMV835 (Or.inr ⟨(show 1 ≤ (V835 0 8).toInt from by omega), (fun k => by rw [show (V835 0 8).toInt = (V338 0 8).toInt from by omega]; exact hb793 k)⟩) (show (V835 0 48).toInt ≤ 8000 from by omega) (show (V835 0 48).toInt = (V 0 48).toInt from by omega) (show (V835 0 12).toInt = (V 0 12).toInt from by omega) rw842 rw843 rw844 rw845 rw846 rw847 hP hD hS (lv_sub hl [0, 1, 2, 3] rfl)
                                · skip
                                  have f848 : z831.toInt ≠ 0 := b_neq rfl (by decide) c838
                                  exfalso; omega
                              · skip
                                have f849 : z818.toInt ≠ 0 := b_neq rfl (by decide) c825
                                exfalso; omega
                            · skip
                              have f850 : z806.toInt ≠ 0 := b_neq rfl (by decide) c813
                              exfalso; omega
                      · skip
                        have kd851 : gT.1 ((nx (nx gs 1) 1).1 0) ≠ 132 := fun h9 => h324 (h9.trans (by decide))
                        have hb852 : ∀ k, Rc gT (Crun gs (Istmt :: k)) (Cbad (V321 0 8).toInt) := fun k => Rc.go1 (hr37 k) ((tk_n kd851).trans (fl_eq rfl rl325))
                        have r853 : 0 ≤ ((V321 0 8)).toInt ∧ ((V321 0 8)).toInt ≤ 70000 := hMV321 0 8
                        refine lv_aload_n hx hb dX12_toldComponent_117 rfl (lv_at hl 3 rfl) ?_
                        refine va_get (D := D) (ci := 12) (v := .int (V321 0 8)) (C := RX12) (T := TX12) (N := 100) hx hb hg inX12 hown hK hP 0 rfl rfl 8 (by decide) (hg _ w1714) (fun _ h9 => h9) rfl dX12_toldComponent_118 ?_
                        refine lv_if_ne (tgt := 133) hx hb dX12_toldComponent_121 (by decide) (fun c854 => ?_) (fun c854 => ?_)
                        · skip
                          have f855 : ((V321 0 8)).toInt ≠ 0 := b_neq rfl (by decide) c854
                          refine lv_aload_n hx hb dX12_toldComponent_133 rfl (lv_at hl 3 rfl) ?_
                          refine va_get (D := D) (ci := 12) (v := .ref (ad 22)) (C := RX12) (T := TX12) (N := 100) hx hb hg inX12 hown hK hP 0 rfl rfl 22 (by decide) (hg _ w1728) (fun _ h9 => h9) rfl dX12_toldComponent_134 ?_
                          refine lv_iload_n hx hb dX12_toldComponent_137 rfl (lv_at hl 2 rfl) ?_
                          refine lv_aload_n hx hb dX12_toldComponent_138 rfl (lv_at hl 3 rfl) ?_
                          refine lv_bipush (v := 20) hx hb dX12_toldComponent_139 (by decide) ?_
                          refine lv_iconst (v := 4) hx hb dX12_toldComponent_141 (by decide) ?_
                          have r856 : Int32.toInt 20 = 20 := by decide
                          refine gA_int (gA_runV (As := [.int 20, .int 4]) (rest := [.int z5, .ref (ad 22)]) (ci := 12) (q0 := 0) hx hb hml hown hg hP hD hK hS hA hnw hgk (s_oneOfB l D ks H.size ad kk V321 L 20 4 hMV321 (by decide) (by decide) (show 1 ≤ (V321 0 8).toInt from by omega)) w2096 w2098 w101 w172 w2099 rfl rfl hdV_yX12_oneOf ⟨Nat.le_of_ble_eq_true rfl, Nat.le_of_ble_eq_true rfl⟩ rfl hl.1 rfl (Nat.le_of_ble_eq_true rfl) dX12_toldComponent_142 ⟨Nat.le_of_ble_eq_true rfl, Nat.le_of_ble_eq_true rfl⟩) hP hD hK hS hA (fun z857 u858 H locs w859 hP hD hK hS => ?_)
                          obtain ⟨V861, L862⟩ := u858
                          obtain ⟨hMV861, ajV861, axL862, rgz857, t860⟩ := w859
                          have axL862 : L = L862 := Eq.symm axL862
                          subst axL862
                          have hP : va_P D vwCl (mw ad kk ks.1 V861 L) H := hP
                          have hD : va_D A (mw ad kk ks.1 V861 L) := hD
                          have hMV861 : rgd bM V861 := hMV861
                          have ajV861 : agr [(0, 7), (0, 8)] [] V321 V861 := ajV861
                          have agV861 : agr [(0, 7), (0, 8), (0, 48), (0, 50), (0, 51), (0, 52)] [15, 19, 20, 21, 22, 23, 24, 25, 26, 27, 28, 29, 30, 31, 32, 33, 34, 35, 36, 37, 38, 45, 46, 47, 53] V V861 := agV321.tr ajV861 (by decide) (by decide)
                          have rgz857 : 0 ≤ z857.toInt ∧ z857.toInt ≤ 0 := rgz857
                          have t860 : (V861 0 8).toInt = (V321 0 8).toInt := t860
                          have r863 : 0 ≤ ((V861 0 8)).toInt ∧ ((V861 0 8)).toInt ≤ 70000 := hMV861 0 8
                          refine va_iast (D := D) (i := z5) (x := z857) hx hb hK hP hD hS 15 14 rfl rfl (i_in (a := z5.toInt) rfl (by omega)) dX12_toldComponent_145 (fun H locs hP hD hS => ?_)
                          obtain ⟨V864, hV864⟩ : ∃ z, z = up2 V861 22 (Int32.toNatClampNeg z5) z857 := ⟨_, rfl⟩
                          have hP : va_P D vwCl (mw ad kk ks.1 V864 L) H := by rw [hV864]; exact hP
                          have hD : va_D A (mw ad kk ks.1 V864 L) := by rw [hV864]; exact hD
                          have hMV864 : rgd bM V864 := hMV861.put hV864 (i_full _)
                          have agV864 : agr [(0, 7), (0, 8), (0, 48), (0, 50), (0, 51), (0, 52)] [15, 19, 20, 21, 22, 23, 24, 25, 26, 27, 28, 29, 30, 31, 32, 33, 34, 35, 36, 37, 38, 45, 46, 47, 53] V V864 := agV861.up hV864 rfl
                          refine lv_aload_n hx hb dX12_toldComponent_146 rfl (lv_at hl 3 rfl) ?_
                          refine va_get (D := D) (ci := 12) (v := .ref (ad 23)) (C := RX12) (T := TX12) (N := 100) hx hb hg inX12 hown hK hP 0 rfl rfl 23 (by decide) (hg _ w1729) (fun _ h9 => h9) rfl dX12_toldComponent_147 ?_
                          refine lv_iload_n hx hb dX12_toldComponent_150 rfl (lv_at hl 2 rfl) ?_
                          refine lv_aload_n hx hb dX12_toldComponent_151 rfl (lv_at hl 3 rfl) ?_
                          refine lv_iconst (v := 5) hx hb dX12_toldComponent_152 (by decide) ?_
                          have r865 : Int32.toInt 5 = 5 := by decide
                          have pq866 : (V864 0 8).toInt = ((V861 0 8)).toInt := congrArg Int32.toInt (up2_o hV864 (by decide))
                          refine gA_int (gA_runV (As := [.int 5]) (rest := [.int z5, .ref (ad 23)]) (ci := 12) (q0 := 0) hx hb hml hown hg hP hD hK hS hA hnw hgk (s_hasWordB l D ks H.size ad kk V864 L 5 hMV864 (by decide) (show 1 ≤ (V864 0 8).toInt from by omega)) w2051 w2053 w90 w172 w2054 rfl rfl hdV_yX12_hasWord ⟨Nat.le_of_ble_eq_true rfl, Nat.le_of_ble_eq_true rfl⟩ rfl hl.1 rfl (Nat.le_of_ble_eq_true rfl) dX12_toldComponent_153 ⟨Nat.le_of_ble_eq_true rfl, Nat.le_of_ble_eq_true rfl⟩) hP hD hK hS hA (fun z867 u868 H locs w869 hP hD hK hS => ?_)
                          obtain ⟨V871, L872⟩ := u868
                          obtain ⟨hMV871, ajV871, axL872, rgz867, t870⟩ := w869
                          have axL872 : L = L872 := Eq.symm axL872
                          subst axL872
                          have hP : va_P D vwCl (mw ad kk ks.1 V871 L) H := hP
                          have hD : va_D A (mw ad kk ks.1 V871 L) := hD
                          have hMV871 : rgd bM V871 := hMV871
                          have ajV871 : agr [(0, 7)] [] V864 V871 := ajV871
                          have agV871 : agr [(0, 7), (0, 8), (0, 48), (0, 50), (0, 51), (0, 52)] [15, 19, 20, 21, 22, 23, 24, 25, 26, 27, 28, 29, 30, 31, 32, 33, 34, 35, 36, 37, 38, 45, 46, 47, 53] V V871 := agV864.tr ajV871 (by decide) (by decide)
                          have rgz867 : 0 ≤ z867.toInt ∧ z867.toInt ≤ 0 := rgz867
                          have t870 : (V871 0 8).toInt = (V864 0 8).toInt := t870
                          have pq873 : (V871 0 8).toInt = ((V861 0 8)).toInt := congrArg Int32.toInt ((ajV871 0 8 rfl).trans (up2_o hV864 (by decide)))
                          refine lv_if_eq (tgt := 174) hx hb dX12_toldComponent_156 (by decide) (fun c874 => ?_) (fun c874 => ?_)
                          · skip
                            have f875 : z867.toInt = 0 := b_eq rfl (by decide) c874
                            refine lv_iconst (v := (-1)) hx hb dX12_toldComponent_174 (by decide) ?_
                            refine va_iast (D := D) (i := z5) (x := (-1)) hx hb hK hP hD hS 16 15 rfl rfl (i_in (a := z5.toInt) rfl (by omega)) dX12_toldComponent_175 (fun H locs hP hD hS => ?_)
                            obtain ⟨V876, hV876⟩ : ∃ z, z = up2 V871 23 (Int32.toNatClampNeg z5) (-1) := ⟨_, rfl⟩
                            have hP : va_P D vwCl (mw ad kk ks.1 V876 L) H := by rw [hV876]; exact hP
                            have hD : va_D A (mw ad kk ks.1 V876 L) := by rw [hV876]; exact hD
                            have hMV876 : rgd bM V876 := hMV871.put hV876 (i_full _)
                            have agV876 : agr [(0, 7), (0, 8), (0, 48), (0, 50), (0, 51), (0, 52)] [15, 19, 20, 21, 22, 23, 24, 25, 26, 27, 28, 29, 30, 31, 32, 33, 34, 35, 36, 37, 38, 45, 46, 47, 53] V V876 := agV871.up hV876 rfl
                            refine lv_aload_n hx hb dX12_toldComponent_176 rfl (lv_at hl 3 rfl) ?_
                            refine va_get (D := D) (ci := 12) (v := .ref (ad 24)) (C := RX12) (T := TX12) (N := 100) hx hb hg inX12 hown hK hP 0 rfl rfl 24 (by decide) (hg _ w1730) (fun _ h9 => h9) rfl dX12_toldComponent_177 ?_
                            refine lv_iload_n hx hb dX12_toldComponent_180 rfl (lv_at hl 2 rfl) ?_
                            refine lv_aload_n hx hb dX12_toldComponent_181 rfl (lv_at hl 3 rfl) ?_
                            refine lv_bipush (v := 6) hx hb dX12_toldComponent_182 (by decide) ?_
                            have r877 : Int32.toInt 6 = 6 := by decide
                            have pq878 : (V876 0 8).toInt = ((V861 0 8)).toInt := congrArg Int32.toInt ((up2_o hV876 (by decide)).trans ((ajV871 0 8 rfl).trans (up2_o hV864 (by decide))))
                            refine gA_int (gA_runV (As := [.int 6]) (rest := [.int z5, .ref (ad 24)]) (ci := 12) (q0 := 0) hx hb hml hown hg hP hD hK hS hA hnw hgk (s_hasWordB l D ks H.size ad kk V876 L 6 hMV876 (by decide) (show 1 ≤ (V876 0 8).toInt from by omega)) w2051 w2053 w90 w172 w2054 rfl rfl hdV_yX12_hasWord ⟨Nat.le_of_ble_eq_true rfl, Nat.le_of_ble_eq_true rfl⟩ rfl hl.1 rfl (Nat.le_of_ble_eq_true rfl) dX12_toldComponent_184 ⟨Nat.le_of_ble_eq_true rfl, Nat.le_of_ble_eq_true rfl⟩) hP hD hK hS hA (fun z879 u880 H locs w881 hP hD hK hS => ?_)
                            obtain ⟨V883, L884⟩ := u880
                            obtain ⟨hMV883, ajV883, axL884, rgz879, t882⟩ := w881
                            have axL884 : L = L884 := Eq.symm axL884
                            subst axL884
                            have hP : va_P D vwCl (mw ad kk ks.1 V883 L) H := hP
                            have hD : va_D A (mw ad kk ks.1 V883 L) := hD
                            have hMV883 : rgd bM V883 := hMV883
                            have ajV883 : agr [(0, 7)] [] V876 V883 := ajV883
                            have agV883 : agr [(0, 7), (0, 8), (0, 48), (0, 50), (0, 51), (0, 52)] [15, 19, 20, 21, 22, 23, 24, 25, 26, 27, 28, 29, 30, 31, 32, 33, 34, 35, 36, 37, 38, 45, 46, 47, 53] V V883 := agV876.tr ajV883 (by decide) (by decide)
                            have rgz879 : 0 ≤ z879.toInt ∧ z879.toInt ≤ 0 := rgz879
                            have t882 : (V883 0 8).toInt = (V876 0 8).toInt := t882
                            have pq885 : (V883 0 8).toInt = ((V861 0 8)).toInt := congrArg Int32.toInt ((ajV883 0 8 rfl).trans ((up2_o hV876 (by decide)).trans ((ajV871 0 8 rfl).trans (up2_o hV864 (by decide)))))
                            refine lv_if_eq (tgt := 200) hx hb dX12_toldComponent_187 (by decide) (fun c886 => ?_) (fun c886 => ?_)
                            · skip
                              have f887 : z879.toInt = 0 := b_eq rfl (by decide) c886
                              refine lv_iconst (v := 0) hx hb dX12_toldComponent_200 (by decide) ?_
                              refine va_iast (D := D) (i := z5) (x := 0) hx hb hK hP hD hS 17 16 rfl rfl (i_in (a := z5.toInt) rfl (by omega)) dX12_toldComponent_201 (fun H locs hP hD hS => ?_)
                              obtain ⟨V888, hV888⟩ : ∃ z, z = up2 V883 24 (Int32.toNatClampNeg z5) 0 := ⟨_, rfl⟩
                              have hP : va_P D vwCl (mw ad kk ks.1 V888 L) H := by rw [hV888]; exact hP
                              have hD : va_D A (mw ad kk ks.1 V888 L) := by rw [hV888]; exact hD
                              have hMV888 : rgd bM V888 := hMV883.put hV888 (show 0 ≤ Int32.toInt 0 ∧ Int32.toInt 0 ≤ 9 from by decide)
                              have agV888 : agr [(0, 7), (0, 8), (0, 48), (0, 50), (0, 51), (0, 52)] [15, 19, 20, 21, 22, 23, 24, 25, 26, 27, 28, 29, 30, 31, 32, 33, 34, 35, 36, 37, 38, 45, 46, 47, 53] V V888 := agV883.up hV888 rfl
                              refine lv_aload_n hx hb dX12_toldComponent_202 rfl (lv_at hl 3 rfl) ?_
                              refine va_get (D := D) (ci := 12) (v := .ref (ad 25)) (C := RX12) (T := TX12) (N := 100) hx hb hg inX12 hown hK hP 0 rfl rfl 25 (by decide) (hg _ w1731) (fun _ h9 => h9) rfl dX12_toldComponent_203 ?_
                              refine lv_iload_n hx hb dX12_toldComponent_206 rfl (lv_at hl 2 rfl) ?_
                              refine lv_iconst (v := (-1)) hx hb dX12_toldComponent_207 (by decide) ?_
                              refine va_iast (D := D) (i := z5) (x := (-1)) hx hb hK hP hD hS 18 17 rfl rfl (i_in (a := z5.toInt) rfl (by omega)) dX12_toldComponent_208 (fun H locs hP hD hS => ?_)
                              obtain ⟨V889, hV889⟩ : ∃ z, z = up2 V888 25 (Int32.toNatClampNeg z5) (-1) := ⟨_, rfl⟩
                              have hP : va_P D vwCl (mw ad kk ks.1 V889 L) H := by rw [hV889]; exact hP
                              have hD : va_D A (mw ad kk ks.1 V889 L) := by rw [hV889]; exact hD
                              have hMV889 : rgd bM V889 := hMV888.put hV889 (show (-1) ≤ Int32.toInt (-1) ∧ Int32.toInt (-1) ≤ 11 from by decide)
                              have agV889 : agr [(0, 7), (0, 8), (0, 48), (0, 50), (0, 51), (0, 52)] [15, 19, 20, 21, 22, 23, 24, 25, 26, 27, 28, 29, 30, 31, 32, 33, 34, 35, 36, 37, 38, 45, 46, 47, 53] V V889 := agV888.up hV889 rfl
                              refine lv_aload_n hx hb dX12_toldComponent_209 rfl (lv_at hl 3 rfl) ?_
                              refine lv_bipush (v := 7) hx hb dX12_toldComponent_210 (by decide) ?_
                              have r890 : Int32.toInt 7 = 7 := by decide
                              have pq891 : (V889 0 8).toInt = ((V861 0 8)).toInt := congrArg Int32.toInt ((up2_o hV889 (by decide)).trans ((up2_o hV888 (by decide)).trans ((ajV883 0 8 rfl).trans ((up2_o hV876 (by decide)).trans ((ajV871 0 8 rfl).trans (up2_o hV864 (by decide)))))))
                              refine gA_int (gA_runV (As := [.int 7]) (rest := []) (ci := 12) (q0 := 0) hx hb hml hown hg hP hD hK hS hA hnw hgk (s_hasWordB l D ks H.size ad kk V889 L 7 hMV889 (by decide) (show 1 ≤ (V889 0 8).toInt from by omega)) w2051 w2053 w90 w172 w2054 rfl rfl hdV_yX12_hasWord ⟨Nat.le_of_ble_eq_true rfl, Nat.le_of_ble_eq_true rfl⟩ rfl hl.1 rfl (Nat.le_of_ble_eq_true rfl) dX12_toldComponent_212 ⟨Nat.le_of_ble_eq_true rfl, Nat.le_of_ble_eq_true rfl⟩) hP hD hK hS hA (fun z892 u893 H locs w894 hP hD hK hS => ?_)
                              obtain ⟨V896, L897⟩ := u893
                              obtain ⟨hMV896, ajV896, axL897, rgz892, t895⟩ := w894
                              have axL897 : L = L897 := Eq.symm axL897
                              subst axL897
                              have hP : va_P D vwCl (mw ad kk ks.1 V896 L) H := hP
                              have hD : va_D A (mw ad kk ks.1 V896 L) := hD
                              have hMV896 : rgd bM V896 := hMV896
                              have ajV896 : agr [(0, 7)] [] V889 V896 := ajV896
                              have agV896 : agr [(0, 7), (0, 8), (0, 48), (0, 50), (0, 51), (0, 52)] [15, 19, 20, 21, 22, 23, 24, 25, 26, 27, 28, 29, 30, 31, 32, 33, 34, 35, 36, 37, 38, 45, 46, 47, 53] V V896 := agV889.tr ajV896 (by decide) (by decide)
                              have rgz892 : 0 ≤ z892.toInt ∧ z892.toInt ≤ 0 := rgz892
                              have t895 : (V896 0 8).toInt = (V889 0 8).toInt := t895
                              have pq898 : (V896 0 8).toInt = ((V861 0 8)).toInt := congrArg Int32.toInt ((ajV896 0 8 rfl).trans ((up2_o hV889 (by decide)).trans ((up2_o hV888 (by decide)).trans ((ajV883 0 8 rfl).trans ((up2_o hV876 (by decide)).trans ((ajV871 0 8 rfl).trans (up2_o hV864 (by decide))))))))
                              refine lv_if_eq (tgt := 262) hx hb dX12_toldComponent_215 (by decide) (fun c899 => ?_) (fun c899 => ?_)
                              · skip
                                have f900 : z892.toInt = 0 := b_eq rfl (by decide) c899
                                have pq901 : (V896 0 48).toInt = ((V 0 48)).toInt := congrArg Int32.toInt ((ajV896 0 48 rfl).trans ((up2_o hV889 (by decide)).trans ((up2_o hV888 (by decide)).trans ((ajV883 0 48 rfl).trans ((up2_o hV876 (by decide)).trans ((ajV871 0 48 rfl).trans ((up2_o hV864 (by decide)).trans ((ajV861 0 48 rfl).trans ((ajV321 0 48 rfl).trans ((ajV47 0 48 rfl).trans ((ajV42 0 48 rfl).trans ((ajV29 0 48 rfl).trans (ajV13 0 48 rfl)))))))))))))
                                have pq902 : (V896 0 12).toInt = ((V 0 12)).toInt := congrArg Int32.toInt ((ajV896 0 12 rfl).trans ((up2_o hV889 (by decide)).trans ((up2_o hV888 (by decide)).trans ((ajV883 0 12 rfl).trans ((up2_o hV876 (by decide)).trans ((ajV871 0 12 rfl).trans ((up2_o hV864 (by decide)).trans ((ajV861 0 12 rfl).trans ((ajV321 0 12 rfl).trans ((ajV47 0 12 rfl).trans ((ajV42 0 12 rfl).trans ((ajV29 0 12 rfl).trans (ajV13 0 12 rfl)))))))))))))
                                have rw903 : RoV 19 bq V V896 := (fun k hk => ((ajV896 19 k rfl).trans ((up2_o hV889 (by decide)).trans ((up2_o hV888 (by decide)).trans ((ajV883 19 k rfl).trans ((up2_o hV876 (by decide)).trans ((ajV871 19 k rfl).trans ((up2_o hV864 (by decide)).trans ((ajV861 19 k rfl).trans ((ajV321 19 k rfl).trans (xlp48_1 k hk)))))))))))
                                have rw904 : RoV 35 bq V V896 := (fun k hk => ((ajV896 35 k rfl).trans ((up2_o hV889 (by decide)).trans ((up2_o hV888 (by decide)).trans ((ajV883 35 k rfl).trans ((up2_o hV876 (by decide)).trans ((ajV871 35 k rfl).trans ((up2_o hV864 (by decide)).trans ((ajV861 35 k rfl).trans ((ajV321 35 k rfl).trans (xlp48_2 k hk)))))))))))
                                have rw905 : RoV 37 bq V V896 := (fun k hk => ((ajV896 37 k rfl).trans ((up2_o hV889 (by decide)).trans ((up2_o hV888 (by decide)).trans ((ajV883 37 k rfl).trans ((up2_o hV876 (by decide)).trans ((ajV871 37 k rfl).trans ((up2_o hV864 (by decide)).trans ((ajV861 37 k rfl).trans ((ajV321 37 k rfl).trans (xlp48_3 k hk)))))))))))
                                have rw906 : RoL 20 24 bq L L := (fun k hk => rfl)
                                have rw907 : RoL 36 20 bq L L := (fun k hk => rfl)
                                have rw908 : RoL 38 20 bq L L := (fun k hk => rfl)
                                exact J52 V896 L H locs ls alL (agr.tr (agr.up (agr.up (agr.tr (agr.up (agr.tr (agr.up (agr.tr (agr.tr agr.rf ajV321 (by decide) (by decide)) ajV861 (by decide) (by decide)) hV864 rfl) ajV871 (by decide) (by decide)) hV876 rfl) ajV883 (by decide) (by decide)) hV888 rfl) hV889 rfl) ajV896 (by decide) (by decide)) hMV896 (Or.inr ⟨(show 1 ≤ (V896 0 8).toInt from by omega), (fun k => by rw [show (V896 0 8).toInt = (V321 0 8).toInt from by omega]; exact hb852 k)⟩) (show (V896 0 48).toInt ≤ 8000 from by omega) (show (V896 0 48).toInt = (V 0 48).toInt from by omega) (show (V896 0 12).toInt = (V 0 12).toInt from by omega) rw903 rw904 rw905 rw906 rw907 rw908 hP hD hS (lv_sub hl [0, 1, 2, 3] rfl)
                              · skip
                                have f909 : z892.toInt ≠ 0 := b_neq rfl (by decide) c899
                                exfalso; omega
                            · skip
                              have f910 : z879.toInt ≠ 0 := b_neq rfl (by decide) c886
                              exfalso; omega
                          · skip
                            have f911 : z867.toInt ≠ 0 := b_neq rfl (by decide) c874
                            exfalso; omega
                        · skip
                          have f912 : ((V321 0 8)).toInt = 0 := b_eq rfl (by decide) c854
                          exfalso; omega
                    · skip
                      have f913 : y46.toInt < 20 := b_nle (by decide) rfl c49
                      refine lv_aload_n hx hb dX12_toldComponent_93 rfl (lv_at hl 3 rfl) ?_
                      refine va_get (D := D) (ci := 12) (v := .ref (ad 34)) (C := RX12) (T := TX12) (N := 100) hx hb hg inX12 hown hK hP 0 rfl rfl 34 (by decide) (hg _ w1740) (fun _ h9 => h9) rfl dX12_toldComponent_94 ?_
                      refine lv_bipush (v := 20) hx hb dX12_toldComponent_97 (by decide) ?_
                      refine lv_iload_n hx hb dX12_toldComponent_99 rfl (lv_at hl 2 rfl) ?_
                      refine lv_imul hx hb dX12_toldComponent_100 ?_
                      refine lv_topi (fun z914 ez914 => ?_)
                      have hz914 : z914.toInt = 20 * z5.toInt := i_mul ez914 (by decide) rfl (by omega)
                      refine lv_iload hx hb dX12_toldComponent_101 (lv_at hl 0 rfl) ?_
                      refine lv_iadd hx hb dX12_toldComponent_103 ?_
                      refine lv_topi (fun z915 ez915 => ?_)
                      have hz915 : z915.toInt = z914.toInt + y46.toInt := i_add ez915 rfl rfl (by omega)
                      refine lv_iconst (v := (-1)) hx hb dX12_toldComponent_104 (by decide) ?_
                      refine va_iast (D := D) (i := z915) (x := (-1)) hx hb hK hP hD hS 27 26 rfl rfl (i_in (a := z915.toInt) rfl (by omega)) dX12_toldComponent_105 (fun H locs hP hD hS => ?_)
                      obtain ⟨V916, hV916⟩ : ∃ z, z = up2 V47 34 (Int32.toNatClampNeg z915) (-1) := ⟨_, rfl⟩
                      have hP : va_P D vwCl (mw ad kk ks.1 V916 L) H := by rw [hV916]; exact hP
                      have hD : va_D A (mw ad kk ks.1 V916 L) := by rw [hV916]; exact hD
                      have hMV916 : rgd bM V916 := hMV47.put hV916 (i_full _)
                      have agV916 : agr [(0, 7), (0, 8), (0, 48), (0, 50), (0, 51), (0, 52)] [15, 19, 20, 21, 22, 23, 24, 25, 26, 27, 28, 29, 30, 31, 32, 33, 34, 35, 36, 37, 38, 45, 46, 47, 53] V V916 := agV47.up hV916 rfl
                      obtain ⟨z917, ez917⟩ : ∃ y : Int32, y = y46 + 1 := ⟨_, rfl⟩
                      have hz917 : z917.toInt = y46.toInt + 1 := i_add ez917 rfl (by decide) (by omega)
                      refine lv_iinc (v := z917) (lv' := [(4, .int z917), (2, .long z25), (1, .int z5), (0, .ref (ad 0))]) hx hb dX12_toldComponent_106 hl (k := 0) rfl (by rw [ez917]; rfl) (by decide) rfl (fun ls hl => ?_)
                      refine lv_goto (tgt := 86) hx hb dX12_toldComponent_109 (by decide) ?_
                      have k34 := i_clamp (x := z915) rfl (by omega)
                      have rw918 : RoV 19 bq V V916 := (fun k hk => ((up2_o hV916 (by decide)).trans (xlp48_1 k hk)))
                      have rw919 : RoV 35 bq V V916 := (fun k hk => ((up2_o hV916 (by decide)).trans (xlp48_2 k hk)))
                      have rw920 : RoV 37 bq V V916 := (fun k hk => ((up2_o hV916 (by decide)).trans (xlp48_3 k hk)))
                      have rw921 : RoL 20 24 bq L L := (fun k hk => rfl)
                      have rw922 : RoL 36 20 bq L L := (fun k hk => rfl)
                      have rw923 : RoL 38 20 bq L L := (fun k hk => rfl)
                      exact ihlp48 z917 V916 H locs ls (by omega) (fun j hj => by rcases Decidable.em (20 * gc + j = Int32.toNatClampNeg z915) with hk | hk; (rw [hk, up2_s hV916]; decide); (rw [up2_k hV916 hk]; exact xlp48_0 j (by omega))) rw918 rw919 rw920 rw921 rw922 rw923 (by omega) (agr.up (agr.tr agr.rf ajV47 (by decide) (by decide)) hV916 rfl) hMV916 hP hD hS (lv_sub hl [0, 1, 2, 3] rfl)
                have rw924 : RoV 19 bq V V42 := (fun k hk => (xlp43_0 k hk))
                have rw925 : RoV 35 bq V V42 := (fun k hk => (xlp43_1 k hk))
                have rw926 : RoV 37 bq V V42 := (fun k hk => (xlp43_2 k hk))
                have rw927 : RoL 20 24 bq L L := (fun k hk => rfl)
                have rw928 : RoL 36 20 bq L L := (fun k hk => rfl)
                have rw929 : RoL 38 20 bq L L := (fun k hk => rfl)
                exact lp48 ((20 - (Int32.toInt 0) + 1 : Int).toNat) 0 V42 H locs ls (by decide) (fun j hj => absurd hj (by omega)) rw924 rw925 rw926 rw927 rw928 rw929 (by omega) agr.rf hMV42 hP hD hS (lv_sub hl [0, 1, 2, 3] rfl)
              · skip
                have f930 : y41.toInt < 24 := b_nle (by decide) rfl c44
                refine lv_aload_n hx hb dX12_toldComponent_64 rfl (lv_at hl 3 rfl) ?_
                refine va_get (D := D) (ci := 12) (v := .ref (ad 21)) (C := RX12) (T := TX12) (N := 100) hx hb hg inX12 hown hK hP 0 rfl rfl 21 (by decide) (hg _ w1727) (fun _ h9 => h9) rfl dX12_toldComponent_65 ?_
                refine lv_bipush (v := 24) hx hb dX12_toldComponent_68 (by decide) ?_
                refine lv_iload_n hx hb dX12_toldComponent_70 rfl (lv_at hl 2 rfl) ?_
                refine lv_imul hx hb dX12_toldComponent_71 ?_
                refine lv_topi (fun z931 ez931 => ?_)
                have hz931 : z931.toInt = 24 * z5.toInt := i_mul ez931 (by decide) rfl (by omega)
                refine lv_iload hx hb dX12_toldComponent_72 (lv_at hl 0 rfl) ?_
                refine lv_iadd hx hb dX12_toldComponent_74 ?_
                refine lv_topi (fun z932 ez932 => ?_)
                have hz932 : z932.toInt = z931.toInt + y41.toInt := i_add ez932 rfl rfl (by omega)
                refine lv_iconst (v := 0) hx hb dX12_toldComponent_75 (by decide) ?_
                refine va_zast (D := D) (i := z932) (x := 0) hx hb hK hP hD hS 14 13 rfl rfl (i_in (a := z932.toInt) rfl (by omega)) dX12_toldComponent_76 (fun H locs hP hD hS => ?_)
                obtain ⟨V933, hV933⟩ : ∃ z, z = up2 V42 21 (Int32.toNatClampNeg z932) (vp_nar .boolean 0) := ⟨_, rfl⟩
                have hP : va_P D vwCl (mw ad kk ks.1 V933 L) H := by rw [hV933]; exact hP
                have hD : va_D A (mw ad kk ks.1 V933 L) := by rw [hV933]; exact hD
                have hMV933 : rgd bM V933 := hMV42.put hV933 (nar_b _)
                have agV933 : agr [(0, 7), (0, 8), (0, 48), (0, 50), (0, 51), (0, 52)] [15, 19, 20, 21, 22, 23, 24, 25, 26, 27, 28, 29, 30, 31, 32, 33, 34, 35, 36, 37, 38, 45, 46, 47, 53] V V933 := agV42.up hV933 rfl
                obtain ⟨z934, ez934⟩ : ∃ y : Int32, y = y41 + 1 := ⟨_, rfl⟩
                have hz934 : z934.toInt = y41.toInt + 1 := i_add ez934 rfl (by decide) (by omega)
                refine lv_iinc (v := z934) (lv' := [(4, .int z934), (2, .long z25), (1, .int z5), (0, .ref (ad 0))]) hx hb dX12_toldComponent_77 hl (k := 0) rfl (by rw [ez934]; rfl) (by decide) rfl (fun ls hl => ?_)
                refine lv_goto (tgt := 57) hx hb dX12_toldComponent_80 (by decide) ?_
                have rw935 : RoV 19 bq V V933 := (fun k hk => ((up2_o hV933 (by decide)).trans (xlp43_0 k hk)))
                have rw936 : RoV 35 bq V V933 := (fun k hk => ((up2_o hV933 (by decide)).trans (xlp43_1 k hk)))
                have rw937 : RoV 37 bq V V933 := (fun k hk => ((up2_o hV933 (by decide)).trans (xlp43_2 k hk)))
                have rw938 : RoL 20 24 bq L L := (fun k hk => rfl)
                have rw939 : RoL 36 20 bq L L := (fun k hk => rfl)
                have rw940 : RoL 38 20 bq L L := (fun k hk => rfl)
                exact ihlp43 z934 V933 H locs ls (by omega) rw935 rw936 rw937 rw938 rw939 rw940 (by omega) (agr.up (agr.tr agr.rf ajV42 (by decide) (by decide)) hV933 rfl) hMV933 hP hD hS (lv_sub hl [0, 1, 2, 3] rfl)
          have rw941 : RoV 19 bq V V29 := (fun k hk => ((ajV29 19 k rfl).trans ((ajV13 19 k rfl).trans rfl)))
          have rw942 : RoV 35 bq V V29 := (fun k hk => ((ajV29 35 k rfl).trans ((ajV13 35 k rfl).trans rfl)))
          have rw943 : RoV 37 bq V V29 := (fun k hk => ((ajV29 37 k rfl).trans ((ajV13 37 k rfl).trans rfl)))
          have rw944 : RoL 20 24 bq L L := (fun k hk => rfl)
          have rw945 : RoL 36 20 bq L L := (fun k hk => rfl)
          have rw946 : RoL 38 20 bq L L := (fun k hk => rfl)
          exact lp43 ((24 - (Int32.toInt 0) + 1 : Int).toNat) 0 V29 H locs ls (by decide) rw941 rw942 rw943 rw944 rw945 rw946 (by omega) agr.rf hMV29 hP hD hS (lv_sub hl [0, 1, 2, 3] rfl)
        · skip
          have hb947 : ∀ k, Rc gT (Crun gs (Istmt :: k)) (Cbad (V29 0 8).toInt) := fun k => Rc.go1 (hr19 k) (nc_b h33)
          have r948 : 0 ≤ ((V29 0 8)).toInt ∧ ((V29 0 8)).toInt ≤ 70000 := hMV29 0 8
          refine lv_lstore_n (lv' := [(2, .long z25), (1, .int z5), (0, .ref (ad 0))]) hx hb dX12_toldComponent_53 rfl hl (by decide) rfl (fun ls hl => ?_)
          have z5s : z5.toInt < 48 := by omega
          refine lv_iconst (v := 0) hx hb dX12_toldComponent_54 (by decide) ?_
          refine lv_istore (lv' := [(4, .int 0), (2, .long z25), (1, .int z5), (0, .ref (ad 0))]) hx hb dX12_toldComponent_55 hl (by decide) rfl (fun ls hl => ?_)
          have lp951 : ∀ (fulp951 : Nat) (y949 : Int32) (V950 : Vf) (H : Heap) (locs : List Loc) (ls : Array Slot), 0 ≤ y949.toInt ∧ y949.toInt ≤ 24 → (RoV 19 bq V V950) → (RoV 35 bq V V950) → (RoV 37 bq V V950) → (RoL 20 24 bq L L) → (RoL 36 20 bq L L) → (RoL 38 20 bq L L) → 24 - y949.toInt < (fulp951 : Int) → agr [] [21] V29 V950 → rgd bM V950 → va_P D vwCl (mw ad kk ks.1 V950 L) H → va_D A (mw ad kk ks.1 V950 L) → va_S A s.heap H locs → lv_has ls 5 [(4, .int y949), (2, .long z25), (1, .int z5), (0, .ref (ad 0))] → W p l e r_s_toldComponentA s m ([.ref (ad 0)] : List Value).toArray below meth c H locs 0 0 (MQ below (q_s_toldComponentA D ks ad kk V L  bq gn gT gs A) ([.ref (ad 0)] : List Value).toArray s 0 0 A) (F0 m 57 ls []) := by
            (try clear fz21); (try clear ps20); (try clear hr19); (try clear hr18)
            intro fulp951
            induction fulp951 with
            | zero =>
              intro y949 V950 H locs ls klp951_0 xlp951_0 xlp951_1 xlp951_2 xlp951_3 xlp951_4 xlp951_5 hn ajV950 hMV950 hP hD hS hl
              exfalso; omega
            | succ fulp951 ihlp951 =>
              intro y949 V950 H locs ls klp951_0 xlp951_0 xlp951_1 xlp951_2 xlp951_3 xlp951_4 xlp951_5 hn ajV950 hMV950 hP hD hS hl
              have agV950 : agr [(0, 7), (0, 8), (0, 48), (0, 50), (0, 51), (0, 52)] [15, 19, 20, 21, 22, 23, 24, 25, 26, 27, 28, 29, 30, 31, 32, 33, 34, 35, 36, 37, 38, 45, 46, 47, 53] V V950 := agV29.tr ajV950 (by decide) (by decide)
              refine lv_iload hx hb dX12_toldComponent_57 (lv_at hl 0 rfl) ?_
              refine lv_bipush (v := 24) hx hb dX12_toldComponent_59 (by decide) ?_
              refine lv_icmp_ge (tgt := 83) hx hb dX12_toldComponent_61 (by decide) (fun c952 => ?_) (fun c952 => ?_)
              · skip
                have f953 : 24 ≤ y949.toInt := b_le (by decide) rfl c952
                refine lv_iconst (v := 0) hx hb dX12_toldComponent_83 (by decide) ?_
                refine lv_istore (lv' := [(4, .int 0), (2, .long z25), (1, .int z5), (0, .ref (ad 0))]) hx hb dX12_toldComponent_84 hl (by decide) rfl (fun ls hl => ?_)
                have lp956 : ∀ (fulp956 : Nat) (y954 : Int32) (V955 : Vf) (H : Heap) (locs : List Loc) (ls : Array Slot), 0 ≤ y954.toInt ∧ y954.toInt ≤ 20 → (∀ j : Nat, (j : Int) < y954.toInt → (V955 34 (20 * gc + j)).toInt = -1) → (RoV 19 bq V V955) → (RoV 35 bq V V955) → (RoV 37 bq V V955) → (RoL 20 24 bq L L) → (RoL 36 20 bq L L) → (RoL 38 20 bq L L) → 20 - y954.toInt < (fulp956 : Int) → agr [] [34] V950 V955 → rgd bM V955 → va_P D vwCl (mw ad kk ks.1 V955 L) H → va_D A (mw ad kk ks.1 V955 L) → va_S A s.heap H locs → lv_has ls 5 [(4, .int y954), (2, .long z25), (1, .int z5), (0, .ref (ad 0))] → W p l e r_s_toldComponentA s m ([.ref (ad 0)] : List Value).toArray below meth c H locs 0 0 (MQ below (q_s_toldComponentA D ks ad kk V L  bq gn gT gs A) ([.ref (ad 0)] : List Value).toArray s 0 0 A) (F0 m 86 ls []) := by
                  (try clear fz21); (try clear ps20); (try clear hr19); (try clear hr18)
                  intro fulp956
                  induction fulp956 with
                  | zero =>
                    intro y954 V955 H locs ls klp956_0 xlp956_0 xlp956_1 xlp956_2 xlp956_3 xlp956_4 xlp956_5 xlp956_6 hn ajV955 hMV955 hP hD hS hl
                    exfalso; omega
                  | succ fulp956 ihlp956 =>
                    intro y954 V955 H locs ls klp956_0 xlp956_0 xlp956_1 xlp956_2 xlp956_3 xlp956_4 xlp956_5 xlp956_6 hn ajV955 hMV955 hP hD hS hl
                    have agV955 : agr [(0, 7), (0, 8), (0, 48), (0, 50), (0, 51), (0, 52)] [15, 19, 20, 21, 22, 23, 24, 25, 26, 27, 28, 29, 30, 31, 32, 33, 34, 35, 36, 37, 38, 45, 46, 47, 53] V V955 := agV950.tr ajV955 (by decide) (by decide)
                    refine lv_iload hx hb dX12_toldComponent_86 (lv_at hl 0 rfl) ?_
                    refine lv_bipush (v := 20) hx hb dX12_toldComponent_88 (by decide) ?_
                    refine lv_icmp_ge (tgt := 112) hx hb dX12_toldComponent_90 (by decide) (fun c957 => ?_) (fun c957 => ?_)
                    · skip
                      have f958 : 20 ≤ y954.toInt := b_le (by decide) rfl c957
                      have r3959 : ∀ j : Nat, j < 20 → (V955 34 (20 * gc + j)).toInt = -1 := fun j hj => xlp956_0 j (by omega)
                      refine lv_aload_n hx hb dX12_toldComponent_112 rfl (lv_at hl 3 rfl) ?_
                      refine lv_iconst (v := 4) hx hb dX12_toldComponent_113 (by decide) ?_
                      have r960 : Int32.toInt 4 = 4 := by decide
                      have pq961 : (V955 0 8).toInt = ((V29 0 8)).toInt := congrArg Int32.toInt ((ajV955 0 8 rfl).trans (ajV950 0 8 rfl))
                      refine gA_void (gA_runV (As := [.int 4]) (rest := []) (ci := 12) (q0 := 0) hx hb hml hown hg hP hD hK hS hA hnw hgk (s_takeWordB l D ks H.size ad kk V955 L 4 hMV955 (by decide) (show 1 ≤ (V955 0 8).toInt from by omega)) w2092 w2094 w100 w172 w2095 rfl rfl hdV_yX12_takeWord ⟨Nat.le_of_ble_eq_true rfl, Nat.le_of_ble_eq_true rfl⟩ rfl hl.1 rfl (Nat.le_of_ble_eq_true rfl) dX12_toldComponent_114 ⟨Nat.le_of_ble_eq_true rfl, Nat.le_of_ble_eq_true rfl⟩) hP hD hK hS hA (fun u963 H locs w964 hP hD hK hS => ?_)
                      obtain ⟨V966, L967⟩ := u963
                      obtain ⟨hMV966, ajV966, axL967, t965⟩ := w964
                      have axL967 : L = L967 := Eq.symm axL967
                      subst axL967
                      have hP : va_P D vwCl (mw ad kk ks.1 V966 L) H := hP
                      have hD : va_D A (mw ad kk ks.1 V966 L) := hD
                      have hMV966 : rgd bM V966 := hMV966
                      have ajV966 : agr [(0, 7), (0, 8)] [] V955 V966 := ajV966
                      have agV966 : agr [(0, 7), (0, 8), (0, 48), (0, 50), (0, 51), (0, 52)] [15, 19, 20, 21, 22, 23, 24, 25, 26, 27, 28, 29, 30, 31, 32, 33, 34, 35, 36, 37, 38, 45, 46, 47, 53] V V966 := agV955.tr ajV966 (by decide) (by decide)
                      have t965 : (V966 0 8).toInt = (V955 0 8).toInt := t965
                      have r968 : 0 ≤ ((V966 0 8)).toInt ∧ ((V966 0 8)).toInt ≤ 70000 := hMV966 0 8
                      refine lv_aload_n hx hb dX12_toldComponent_117 rfl (lv_at hl 3 rfl) ?_
                      refine va_get (D := D) (ci := 12) (v := .int (V966 0 8)) (C := RX12) (T := TX12) (N := 100) hx hb hg inX12 hown hK hP 0 rfl rfl 8 (by decide) (hg _ w1714) (fun _ h9 => h9) rfl dX12_toldComponent_118 ?_
                      refine lv_if_ne (tgt := 133) hx hb dX12_toldComponent_121 (by decide) (fun c969 => ?_) (fun c969 => ?_)
                      · skip
                        have f970 : ((V966 0 8)).toInt ≠ 0 := b_neq rfl (by decide) c969
                        refine lv_aload_n hx hb dX12_toldComponent_133 rfl (lv_at hl 3 rfl) ?_
                        refine va_get (D := D) (ci := 12) (v := .ref (ad 22)) (C := RX12) (T := TX12) (N := 100) hx hb hg inX12 hown hK hP 0 rfl rfl 22 (by decide) (hg _ w1728) (fun _ h9 => h9) rfl dX12_toldComponent_134 ?_
                        refine lv_iload_n hx hb dX12_toldComponent_137 rfl (lv_at hl 2 rfl) ?_
                        refine lv_aload_n hx hb dX12_toldComponent_138 rfl (lv_at hl 3 rfl) ?_
                        refine lv_bipush (v := 20) hx hb dX12_toldComponent_139 (by decide) ?_
                        refine lv_iconst (v := 4) hx hb dX12_toldComponent_141 (by decide) ?_
                        have r971 : Int32.toInt 20 = 20 := by decide
                        refine gA_int (gA_runV (As := [.int 20, .int 4]) (rest := [.int z5, .ref (ad 22)]) (ci := 12) (q0 := 0) hx hb hml hown hg hP hD hK hS hA hnw hgk (s_oneOfB l D ks H.size ad kk V966 L 20 4 hMV966 (by decide) (by decide) (show 1 ≤ (V966 0 8).toInt from by omega)) w2096 w2098 w101 w172 w2099 rfl rfl hdV_yX12_oneOf ⟨Nat.le_of_ble_eq_true rfl, Nat.le_of_ble_eq_true rfl⟩ rfl hl.1 rfl (Nat.le_of_ble_eq_true rfl) dX12_toldComponent_142 ⟨Nat.le_of_ble_eq_true rfl, Nat.le_of_ble_eq_true rfl⟩) hP hD hK hS hA (fun z972 u973 H locs w974 hP hD hK hS => ?_)
                        obtain ⟨V976, L977⟩ := u973
                        obtain ⟨hMV976, ajV976, axL977, rgz972, t975⟩ := w974
                        have axL977 : L = L977 := Eq.symm axL977
                        subst axL977
                        have hP : va_P D vwCl (mw ad kk ks.1 V976 L) H := hP
                        have hD : va_D A (mw ad kk ks.1 V976 L) := hD
                        have hMV976 : rgd bM V976 := hMV976
                        have ajV976 : agr [(0, 7), (0, 8)] [] V966 V976 := ajV976
                        have agV976 : agr [(0, 7), (0, 8), (0, 48), (0, 50), (0, 51), (0, 52)] [15, 19, 20, 21, 22, 23, 24, 25, 26, 27, 28, 29, 30, 31, 32, 33, 34, 35, 36, 37, 38, 45, 46, 47, 53] V V976 := agV966.tr ajV976 (by decide) (by decide)
                        have rgz972 : 0 ≤ z972.toInt ∧ z972.toInt ≤ 0 := rgz972
                        have t975 : (V976 0 8).toInt = (V966 0 8).toInt := t975
                        have r978 : 0 ≤ ((V976 0 8)).toInt ∧ ((V976 0 8)).toInt ≤ 70000 := hMV976 0 8
                        refine va_iast (D := D) (i := z5) (x := z972) hx hb hK hP hD hS 15 14 rfl rfl (i_in (a := z5.toInt) rfl (by omega)) dX12_toldComponent_145 (fun H locs hP hD hS => ?_)
                        obtain ⟨V979, hV979⟩ : ∃ z, z = up2 V976 22 (Int32.toNatClampNeg z5) z972 := ⟨_, rfl⟩
                        have hP : va_P D vwCl (mw ad kk ks.1 V979 L) H := by rw [hV979]; exact hP
                        have hD : va_D A (mw ad kk ks.1 V979 L) := by rw [hV979]; exact hD
                        have hMV979 : rgd bM V979 := hMV976.put hV979 (i_full _)
                        have agV979 : agr [(0, 7), (0, 8), (0, 48), (0, 50), (0, 51), (0, 52)] [15, 19, 20, 21, 22, 23, 24, 25, 26, 27, 28, 29, 30, 31, 32, 33, 34, 35, 36, 37, 38, 45, 46, 47, 53] V V979 := agV976.up hV979 rfl
                        refine lv_aload_n hx hb dX12_toldComponent_146 rfl (lv_at hl 3 rfl) ?_
                        refine va_get (D := D) (ci := 12) (v := .ref (ad 23)) (C := RX12) (T := TX12) (N := 100) hx hb hg inX12 hown hK hP 0 rfl rfl 23 (by decide) (hg _ w1729) (fun _ h9 => h9) rfl dX12_toldComponent_147 ?_
                        refine lv_iload_n hx hb dX12_toldComponent_150 rfl (lv_at hl 2 rfl) ?_
                        refine lv_aload_n hx hb dX12_toldComponent_151 rfl (lv_at hl 3 rfl) ?_
                        refine lv_iconst (v := 5) hx hb dX12_toldComponent_152 (by decide) ?_
                        have r980 : Int32.toInt 5 = 5 := by decide
                        have pq981 : (V979 0 8).toInt = ((V976 0 8)).toInt := congrArg Int32.toInt (up2_o hV979 (by decide))
                        refine gA_int (gA_runV (As := [.int 5]) (rest := [.int z5, .ref (ad 23)]) (ci := 12) (q0 := 0) hx hb hml hown hg hP hD hK hS hA hnw hgk (s_hasWordB l D ks H.size ad kk V979 L 5 hMV979 (by decide) (show 1 ≤ (V979 0 8).toInt from by omega)) w2051 w2053 w90 w172 w2054 rfl rfl hdV_yX12_hasWord ⟨Nat.le_of_ble_eq_true rfl, Nat.le_of_ble_eq_true rfl⟩ rfl hl.1 rfl (Nat.le_of_ble_eq_true rfl) dX12_toldComponent_153 ⟨Nat.le_of_ble_eq_true rfl, Nat.le_of_ble_eq_true rfl⟩) hP hD hK hS hA (fun z982 u983 H locs w984 hP hD hK hS => ?_)
                        obtain ⟨V986, L987⟩ := u983
                        obtain ⟨hMV986, ajV986, axL987, rgz982, t985⟩ := w984
                        have axL987 : L = L987 := Eq.symm axL987
                        subst axL987
                        have hP : va_P D vwCl (mw ad kk ks.1 V986 L) H := hP
                        have hD : va_D A (mw ad kk ks.1 V986 L) := hD
                        have hMV986 : rgd bM V986 := hMV986
                        have ajV986 : agr [(0, 7)] [] V979 V986 := ajV986
                        have agV986 : agr [(0, 7), (0, 8), (0, 48), (0, 50), (0, 51), (0, 52)] [15, 19, 20, 21, 22, 23, 24, 25, 26, 27, 28, 29, 30, 31, 32, 33, 34, 35, 36, 37, 38, 45, 46, 47, 53] V V986 := agV979.tr ajV986 (by decide) (by decide)
                        have rgz982 : 0 ≤ z982.toInt ∧ z982.toInt ≤ 0 := rgz982
                        have t985 : (V986 0 8).toInt = (V979 0 8).toInt := t985
                        have pq988 : (V986 0 8).toInt = ((V976 0 8)).toInt := congrArg Int32.toInt ((ajV986 0 8 rfl).trans (up2_o hV979 (by decide)))
                        refine lv_if_eq (tgt := 174) hx hb dX12_toldComponent_156 (by decide) (fun c989 => ?_) (fun c989 => ?_)
                        · skip
                          have f990 : z982.toInt = 0 := b_eq rfl (by decide) c989
                          refine lv_iconst (v := (-1)) hx hb dX12_toldComponent_174 (by decide) ?_
                          refine va_iast (D := D) (i := z5) (x := (-1)) hx hb hK hP hD hS 16 15 rfl rfl (i_in (a := z5.toInt) rfl (by omega)) dX12_toldComponent_175 (fun H locs hP hD hS => ?_)
                          obtain ⟨V991, hV991⟩ : ∃ z, z = up2 V986 23 (Int32.toNatClampNeg z5) (-1) := ⟨_, rfl⟩
                          have hP : va_P D vwCl (mw ad kk ks.1 V991 L) H := by rw [hV991]; exact hP
                          have hD : va_D A (mw ad kk ks.1 V991 L) := by rw [hV991]; exact hD
                          have hMV991 : rgd bM V991 := hMV986.put hV991 (i_full _)
                          have agV991 : agr [(0, 7), (0, 8), (0, 48), (0, 50), (0, 51), (0, 52)] [15, 19, 20, 21, 22, 23, 24, 25, 26, 27, 28, 29, 30, 31, 32, 33, 34, 35, 36, 37, 38, 45, 46, 47, 53] V V991 := agV986.up hV991 rfl
                          refine lv_aload_n hx hb dX12_toldComponent_176 rfl (lv_at hl 3 rfl) ?_
                          refine va_get (D := D) (ci := 12) (v := .ref (ad 24)) (C := RX12) (T := TX12) (N := 100) hx hb hg inX12 hown hK hP 0 rfl rfl 24 (by decide) (hg _ w1730) (fun _ h9 => h9) rfl dX12_toldComponent_177 ?_
                          refine lv_iload_n hx hb dX12_toldComponent_180 rfl (lv_at hl 2 rfl) ?_
                          refine lv_aload_n hx hb dX12_toldComponent_181 rfl (lv_at hl 3 rfl) ?_
                          refine lv_bipush (v := 6) hx hb dX12_toldComponent_182 (by decide) ?_
                          have r992 : Int32.toInt 6 = 6 := by decide
                          have pq993 : (V991 0 8).toInt = ((V976 0 8)).toInt := congrArg Int32.toInt ((up2_o hV991 (by decide)).trans ((ajV986 0 8 rfl).trans (up2_o hV979 (by decide))))
                          refine gA_int (gA_runV (As := [.int 6]) (rest := [.int z5, .ref (ad 24)]) (ci := 12) (q0 := 0) hx hb hml hown hg hP hD hK hS hA hnw hgk (s_hasWordB l D ks H.size ad kk V991 L 6 hMV991 (by decide) (show 1 ≤ (V991 0 8).toInt from by omega)) w2051 w2053 w90 w172 w2054 rfl rfl hdV_yX12_hasWord ⟨Nat.le_of_ble_eq_true rfl, Nat.le_of_ble_eq_true rfl⟩ rfl hl.1 rfl (Nat.le_of_ble_eq_true rfl) dX12_toldComponent_184 ⟨Nat.le_of_ble_eq_true rfl, Nat.le_of_ble_eq_true rfl⟩) hP hD hK hS hA (fun z994 u995 H locs w996 hP hD hK hS => ?_)
                          obtain ⟨V998, L999⟩ := u995
                          obtain ⟨hMV998, ajV998, axL999, rgz994, t997⟩ := w996
                          have axL999 : L = L999 := Eq.symm axL999
                          subst axL999
                          have hP : va_P D vwCl (mw ad kk ks.1 V998 L) H := hP
                          have hD : va_D A (mw ad kk ks.1 V998 L) := hD
                          have hMV998 : rgd bM V998 := hMV998
                          have ajV998 : agr [(0, 7)] [] V991 V998 := ajV998
                          have agV998 : agr [(0, 7), (0, 8), (0, 48), (0, 50), (0, 51), (0, 52)] [15, 19, 20, 21, 22, 23, 24, 25, 26, 27, 28, 29, 30, 31, 32, 33, 34, 35, 36, 37, 38, 45, 46, 47, 53] V V998 := agV991.tr ajV998 (by decide) (by decide)
                          have rgz994 : 0 ≤ z994.toInt ∧ z994.toInt ≤ 0 := rgz994
                          have t997 : (V998 0 8).toInt = (V991 0 8).toInt := t997
                          have pq1000 : (V998 0 8).toInt = ((V976 0 8)).toInt := congrArg Int32.toInt ((ajV998 0 8 rfl).trans ((up2_o hV991 (by decide)).trans ((ajV986 0 8 rfl).trans (up2_o hV979 (by decide)))))
                          refine lv_if_eq (tgt := 200) hx hb dX12_toldComponent_187 (by decide) (fun c1001 => ?_) (fun c1001 => ?_)
                          · skip
                            have f1002 : z994.toInt = 0 := b_eq rfl (by decide) c1001
                            refine lv_iconst (v := 0) hx hb dX12_toldComponent_200 (by decide) ?_
                            refine va_iast (D := D) (i := z5) (x := 0) hx hb hK hP hD hS 17 16 rfl rfl (i_in (a := z5.toInt) rfl (by omega)) dX12_toldComponent_201 (fun H locs hP hD hS => ?_)
                            obtain ⟨V1003, hV1003⟩ : ∃ z, z = up2 V998 24 (Int32.toNatClampNeg z5) 0 := ⟨_, rfl⟩
                            have hP : va_P D vwCl (mw ad kk ks.1 V1003 L) H := by rw [hV1003]; exact hP
                            have hD : va_D A (mw ad kk ks.1 V1003 L) := by rw [hV1003]; exact hD
                            have hMV1003 : rgd bM V1003 := hMV998.put hV1003 (show 0 ≤ Int32.toInt 0 ∧ Int32.toInt 0 ≤ 9 from by decide)
                            have agV1003 : agr [(0, 7), (0, 8), (0, 48), (0, 50), (0, 51), (0, 52)] [15, 19, 20, 21, 22, 23, 24, 25, 26, 27, 28, 29, 30, 31, 32, 33, 34, 35, 36, 37, 38, 45, 46, 47, 53] V V1003 := agV998.up hV1003 rfl
                            refine lv_aload_n hx hb dX12_toldComponent_202 rfl (lv_at hl 3 rfl) ?_
                            refine va_get (D := D) (ci := 12) (v := .ref (ad 25)) (C := RX12) (T := TX12) (N := 100) hx hb hg inX12 hown hK hP 0 rfl rfl 25 (by decide) (hg _ w1731) (fun _ h9 => h9) rfl dX12_toldComponent_203 ?_
                            refine lv_iload_n hx hb dX12_toldComponent_206 rfl (lv_at hl 2 rfl) ?_
                            refine lv_iconst (v := (-1)) hx hb dX12_toldComponent_207 (by decide) ?_
                            refine va_iast (D := D) (i := z5) (x := (-1)) hx hb hK hP hD hS 18 17 rfl rfl (i_in (a := z5.toInt) rfl (by omega)) dX12_toldComponent_208 (fun H locs hP hD hS => ?_)
                            obtain ⟨V1004, hV1004⟩ : ∃ z, z = up2 V1003 25 (Int32.toNatClampNeg z5) (-1) := ⟨_, rfl⟩
                            have hP : va_P D vwCl (mw ad kk ks.1 V1004 L) H := by rw [hV1004]; exact hP
                            have hD : va_D A (mw ad kk ks.1 V1004 L) := by rw [hV1004]; exact hD
                            have hMV1004 : rgd bM V1004 := hMV1003.put hV1004 (show (-1) ≤ Int32.toInt (-1) ∧ Int32.toInt (-1) ≤ 11 from by decide)
                            have agV1004 : agr [(0, 7), (0, 8), (0, 48), (0, 50), (0, 51), (0, 52)] [15, 19, 20, 21, 22, 23, 24, 25, 26, 27, 28, 29, 30, 31, 32, 33, 34, 35, 36, 37, 38, 45, 46, 47, 53] V V1004 := agV1003.up hV1004 rfl
                            refine lv_aload_n hx hb dX12_toldComponent_209 rfl (lv_at hl 3 rfl) ?_
                            refine lv_bipush (v := 7) hx hb dX12_toldComponent_210 (by decide) ?_
                            have r1005 : Int32.toInt 7 = 7 := by decide
                            have pq1006 : (V1004 0 8).toInt = ((V976 0 8)).toInt := congrArg Int32.toInt ((up2_o hV1004 (by decide)).trans ((up2_o hV1003 (by decide)).trans ((ajV998 0 8 rfl).trans ((up2_o hV991 (by decide)).trans ((ajV986 0 8 rfl).trans (up2_o hV979 (by decide)))))))
                            refine gA_int (gA_runV (As := [.int 7]) (rest := []) (ci := 12) (q0 := 0) hx hb hml hown hg hP hD hK hS hA hnw hgk (s_hasWordB l D ks H.size ad kk V1004 L 7 hMV1004 (by decide) (show 1 ≤ (V1004 0 8).toInt from by omega)) w2051 w2053 w90 w172 w2054 rfl rfl hdV_yX12_hasWord ⟨Nat.le_of_ble_eq_true rfl, Nat.le_of_ble_eq_true rfl⟩ rfl hl.1 rfl (Nat.le_of_ble_eq_true rfl) dX12_toldComponent_212 ⟨Nat.le_of_ble_eq_true rfl, Nat.le_of_ble_eq_true rfl⟩) hP hD hK hS hA (fun z1007 u1008 H locs w1009 hP hD hK hS => ?_)
                            obtain ⟨V1011, L1012⟩ := u1008
                            obtain ⟨hMV1011, ajV1011, axL1012, rgz1007, t1010⟩ := w1009
                            have axL1012 : L = L1012 := Eq.symm axL1012
                            subst axL1012
                            have hP : va_P D vwCl (mw ad kk ks.1 V1011 L) H := hP
                            have hD : va_D A (mw ad kk ks.1 V1011 L) := hD
                            have hMV1011 : rgd bM V1011 := hMV1011
                            have ajV1011 : agr [(0, 7)] [] V1004 V1011 := ajV1011
                            have agV1011 : agr [(0, 7), (0, 8), (0, 48), (0, 50), (0, 51), (0, 52)] [15, 19, 20, 21, 22, 23, 24, 25, 26, 27, 28, 29, 30, 31, 32, 33, 34, 35, 36, 37, 38, 45, 46, 47, 53] V V1011 := agV1004.tr ajV1011 (by decide) (by decide)
                            have rgz1007 : 0 ≤ z1007.toInt ∧ z1007.toInt ≤ 0 := rgz1007
                            have t1010 : (V1011 0 8).toInt = (V1004 0 8).toInt := t1010
                            have pq1013 : (V1011 0 8).toInt = ((V976 0 8)).toInt := congrArg Int32.toInt ((ajV1011 0 8 rfl).trans ((up2_o hV1004 (by decide)).trans ((up2_o hV1003 (by decide)).trans ((ajV998 0 8 rfl).trans ((up2_o hV991 (by decide)).trans ((ajV986 0 8 rfl).trans (up2_o hV979 (by decide))))))))
                            refine lv_if_eq (tgt := 262) hx hb dX12_toldComponent_215 (by decide) (fun c1014 => ?_) (fun c1014 => ?_)
                            · skip
                              have f1015 : z1007.toInt = 0 := b_eq rfl (by decide) c1014
                              refine lv_aload_n hx hb dX12_toldComponent_262 rfl (lv_at hl 3 rfl) ?_
                              refine va_get (D := D) (ci := 12) (v := .ref (ad 27)) (C := RX12) (T := TX12) (N := 100) hx hb hg inX12 hown hK hP 0 rfl rfl 27 (by decide) (hg _ w1733) (fun _ h9 => h9) rfl dX12_toldComponent_263 ?_
                              refine lv_iload_n hx hb dX12_toldComponent_266 rfl (lv_at hl 2 rfl) ?_
                              refine lv_iconst (v := 0) hx hb dX12_toldComponent_267 (by decide) ?_
                              refine va_iast (D := D) (i := z5) (x := 0) hx hb hK hP hD hS 20 19 rfl rfl (i_in (a := z5.toInt) rfl (by omega)) dX12_toldComponent_268 (fun H locs hP hD hS => ?_)
                              obtain ⟨V1016, hV1016⟩ : ∃ z, z = up2 V1011 27 (Int32.toNatClampNeg z5) 0 := ⟨_, rfl⟩
                              have hP : va_P D vwCl (mw ad kk ks.1 V1016 L) H := by rw [hV1016]; exact hP
                              have hD : va_D A (mw ad kk ks.1 V1016 L) := by rw [hV1016]; exact hD
                              have hMV1016 : rgd bM V1016 := hMV1011.put hV1016 (show 0 ≤ Int32.toInt 0 ∧ Int32.toInt 0 ≤ 8 from by decide)
                              have agV1016 : agr [(0, 7), (0, 8), (0, 48), (0, 50), (0, 51), (0, 52)] [15, 19, 20, 21, 22, 23, 24, 25, 26, 27, 28, 29, 30, 31, 32, 33, 34, 35, 36, 37, 38, 45, 46, 47, 53] V V1016 := agV1011.up hV1016 rfl
                              refine lv_aload_n hx hb dX12_toldComponent_269 rfl (lv_at hl 3 rfl) ?_
                              refine va_get (D := D) (ci := 12) (v := .ref (ad 32)) (C := RX12) (T := TX12) (N := 100) hx hb hg inX12 hown hK hP 0 rfl rfl 32 (by decide) (hg _ w1738) (fun _ h9 => h9) rfl dX12_toldComponent_270 ?_
                              refine lv_iload_n hx hb dX12_toldComponent_273 rfl (lv_at hl 2 rfl) ?_
                              refine lv_iconst (v := (-1)) hx hb dX12_toldComponent_274 (by decide) ?_
                              refine va_iast (D := D) (i := z5) (x := (-1)) hx hb hK hP hD hS 25 24 rfl rfl (i_in (a := z5.toInt) rfl (by omega)) dX12_toldComponent_275 (fun H locs hP hD hS => ?_)
                              obtain ⟨V1017, hV1017⟩ : ∃ z, z = up2 V1016 32 (Int32.toNatClampNeg z5) (-1) := ⟨_, rfl⟩
                              have hP : va_P D vwCl (mw ad kk ks.1 V1017 L) H := by rw [hV1017]; exact hP
                              have hD : va_D A (mw ad kk ks.1 V1017 L) := by rw [hV1017]; exact hD
                              have hMV1017 : rgd bM V1017 := hMV1016.put hV1017 (i_full _)
                              have agV1017 : agr [(0, 7), (0, 8), (0, 48), (0, 50), (0, 51), (0, 52)] [15, 19, 20, 21, 22, 23, 24, 25, 26, 27, 28, 29, 30, 31, 32, 33, 34, 35, 36, 37, 38, 45, 46, 47, 53] V V1017 := agV1016.up hV1017 rfl
                              refine lv_aload_n hx hb dX12_toldComponent_276 rfl (lv_at hl 3 rfl) ?_
                              refine va_get (D := D) (ci := 12) (v := .ref (ad 33)) (C := RX12) (T := TX12) (N := 100) hx hb hg inX12 hown hK hP 0 rfl rfl 33 (by decide) (hg _ w1739) (fun _ h9 => h9) rfl dX12_toldComponent_277 ?_
                              refine lv_iload_n hx hb dX12_toldComponent_280 rfl (lv_at hl 2 rfl) ?_
                              refine lv_iconst (v := (-1)) hx hb dX12_toldComponent_281 (by decide) ?_
                              refine va_iast (D := D) (i := z5) (x := (-1)) hx hb hK hP hD hS 26 25 rfl rfl (i_in (a := z5.toInt) rfl (by omega)) dX12_toldComponent_282 (fun H locs hP hD hS => ?_)
                              obtain ⟨V1018, hV1018⟩ : ∃ z, z = up2 V1017 33 (Int32.toNatClampNeg z5) (-1) := ⟨_, rfl⟩
                              have hP : va_P D vwCl (mw ad kk ks.1 V1018 L) H := by rw [hV1018]; exact hP
                              have hD : va_D A (mw ad kk ks.1 V1018 L) := by rw [hV1018]; exact hD
                              have hMV1018 : rgd bM V1018 := hMV1017.put hV1018 (i_full _)
                              have agV1018 : agr [(0, 7), (0, 8), (0, 48), (0, 50), (0, 51), (0, 52)] [15, 19, 20, 21, 22, 23, 24, 25, 26, 27, 28, 29, 30, 31, 32, 33, 34, 35, 36, 37, 38, 45, 46, 47, 53] V V1018 := agV1017.up hV1018 rfl
                              refine lv_aload_n hx hb dX12_toldComponent_283 rfl (lv_at hl 3 rfl) ?_
                              refine lv_iload_n hx hb dX12_toldComponent_284 rfl (lv_at hl 2 rfl) ?_
                              refine va_put (D := D) (ci := 12) (v := .int z5) (ty := tyX12 51) (C := RX12) (T := TX12) (N := 100) hx hb hg inX12 tyX12 tyX12_ok nmX12 hown hK hP hD hS 0 rfl rfl 51 (by decide) (hg _ w1757) (fun _ h9 => h9) rfl (tyX12_ok 51 (by decide)) rfl rfl (Nat.le_of_ble_eq_true rfl) dX12_toldComponent_285 (fun H locs hP hD hS => ?_)
                              obtain ⟨V1019, hV1019⟩ : ∃ z, z = up2 V1018 0 51 z5 := ⟨_, rfl⟩
                              have hP : va_P D vwCl (mw ad kk ks.1 V1019 L) H := by rw [hV1019]; exact hP
                              have hD : va_D A (mw ad kk ks.1 V1019 L) := by rw [hV1019]; exact hD
                              have hMV1019 : rgd bM V1019 := hMV1018.put hV1019 (show (-1) ≤ z5.toInt ∧ z5.toInt ≤ 47 from by omega)
                              have agV1019 : agr [(0, 7), (0, 8), (0, 48), (0, 50), (0, 51), (0, 52)] [15, 19, 20, 21, 22, 23, 24, 25, 26, 27, 28, 29, 30, 31, 32, 33, 34, 35, 36, 37, 38, 45, 46, 47, 53] V V1019 := agV1018.up hV1019 rfl
                              refine lv_aload_n hx hb dX12_toldComponent_288 rfl (lv_at hl 3 rfl) ?_
                              refine lv_iconst (v := 0) hx hb dX12_toldComponent_289 (by decide) ?_
                              refine va_put (D := D) (ci := 12) (v := .int 0) (ty := tyX12 52) (C := RX12) (T := TX12) (N := 100) hx hb hg inX12 tyX12 tyX12_ok nmX12 hown hK hP hD hS 0 rfl rfl 52 (by decide) (hg _ w1758) (fun _ h9 => h9) rfl (tyX12_ok 52 (by decide)) rfl rfl (Nat.le_of_ble_eq_true rfl) dX12_toldComponent_290 (fun H locs hP hD hS => ?_)
                              obtain ⟨V1020, hV1020⟩ : ∃ z, z = up2 V1019 0 52 0 := ⟨_, rfl⟩
                              have hP : va_P D vwCl (mw ad kk ks.1 V1020 L) H := by rw [hV1020]; exact hP
                              have hD : va_D A (mw ad kk ks.1 V1020 L) := by rw [hV1020]; exact hD
                              have hMV1020 : rgd bM V1020 := hMV1019.put hV1020 (by decide)
                              have agV1020 : agr [(0, 7), (0, 8), (0, 48), (0, 50), (0, 51), (0, 52)] [15, 19, 20, 21, 22, 23, 24, 25, 26, 27, 28, 29, 30, 31, 32, 33, 34, 35, 36, 37, 38, 45, 46, 47, 53] V V1020 := agV1019.up hV1020 rfl
                              refine lv_aload_n hx hb dX12_toldComponent_293 rfl (lv_at hl 3 rfl) ?_
                              refine lv_bipush (v := 123) hx hb dX12_toldComponent_294 (by decide) ?_
                              have r1021 : Int32.toInt 123 = 123 := by decide
                              have pq1022 : (V1020 0 8).toInt = ((V976 0 8)).toInt := congrArg Int32.toInt ((up2_k hV1020 (by decide)).trans ((up2_k hV1019 (by decide)).trans ((up2_o hV1018 (by decide)).trans ((up2_o hV1017 (by decide)).trans ((up2_o hV1016 (by decide)).trans ((ajV1011 0 8 rfl).trans ((up2_o hV1004 (by decide)).trans ((up2_o hV1003 (by decide)).trans ((ajV998 0 8 rfl).trans ((up2_o hV991 (by decide)).trans ((ajV986 0 8 rfl).trans (up2_o hV979 (by decide)))))))))))))
                              refine gA_void (gA_runV (As := [.int 123]) (rest := []) (ci := 12) (q0 := 0) hx hb hml hown hg hP hD hK hS hA hnw hgk (s_takeSignB l D ks H.size ad kk V1020 L 123 hMV1020 (show 1 ≤ (V1020 0 8).toInt from by omega)) w2075 w2077 w96 w172 w2078 rfl rfl hdV_yX12_takeSign ⟨Nat.le_of_ble_eq_true rfl, Nat.le_of_ble_eq_true rfl⟩ rfl hl.1 rfl (Nat.le_of_ble_eq_true rfl) dX12_toldComponent_296 ⟨Nat.le_of_ble_eq_true rfl, Nat.le_of_ble_eq_true rfl⟩) hP hD hK hS hA (fun u1024 H locs w1025 hP hD hK hS => ?_)
                              obtain ⟨V1027, L1028⟩ := u1024
                              obtain ⟨hMV1027, ajV1027, axL1028, t1026⟩ := w1025
                              have axL1028 : L = L1028 := Eq.symm axL1028
                              subst axL1028
                              have hP : va_P D vwCl (mw ad kk ks.1 V1027 L) H := hP
                              have hD : va_D A (mw ad kk ks.1 V1027 L) := hD
                              have hMV1027 : rgd bM V1027 := hMV1027
                              have ajV1027 : agr [(0, 7), (0, 8)] [] V1020 V1027 := ajV1027
                              have agV1027 : agr [(0, 7), (0, 8), (0, 48), (0, 50), (0, 51), (0, 52)] [15, 19, 20, 21, 22, 23, 24, 25, 26, 27, 28, 29, 30, 31, 32, 33, 34, 35, 36, 37, 38, 45, 46, 47, 53] V V1027 := agV1020.tr ajV1027 (by decide) (by decide)
                              have t1026 : (V1027 0 8).toInt = (V1020 0 8).toInt := t1026
                              have r1029 : 0 ≤ ((V1027 0 8)).toInt ∧ ((V1027 0 8)).toInt ≤ 70000 := hMV1027 0 8
                              have lp1033 : ∀ (fulp1033 : Nat) (g1032 : Int) (V1030 : Vf) (L1031 : Lf) (H : Heap) (locs : List Loc) (ls : Array Slot), (((V1030 0 8).toInt = 0 ∧ ∃ s1 : St, (∀ k, Rc gT (Crun gs (Istmt :: k)) (Crun s1 (Imember :: k))) ∧ RelM V1030 L1031 bq gn gT s1 (gs.2.1 2) ∧ gs.1 0 + 1 ≤ s1.1 0 ∧ OWm V1030 gc s1 ∧ s1.2.1 2 = gs.2.1 2 ++ [0] ∧ s1.2.2.1 = gs.2.2.1) ∨ (1 ≤ (V1030 0 8).toInt ∧ ∀ k, Rc gT (Crun gs (Istmt :: k)) (Cbad (V1030 0 8).toInt))) → 0 ≤ g1032 → Imp ((V1030 0 8).toInt = 0) ((gn : Int) - (V1030 0 7).toInt < g1032) → Imp ((V1030 0 8).toInt = 0) ((V1030 0 48).toInt ≤ 2 * (V1030 0 7).toInt) → (V1030 0 48).toInt ≤ 8120 → (V1030 0 51).toInt = z5.toInt → (V1030 0 52).toInt = 0 → Imp (1 ≤ (V1027 0 8).toInt) ((V1030 0 8).toInt = (V1027 0 8).toInt) → (RoV 19 bq V V1030) → (RoV 35 bq V V1030) → (RoV 37 bq V V1030) → (RoL 20 24 bq L L1031) → (RoL 36 20 bq L L1031) → (RoL 38 20 bq L L1031) → g1032 < (fulp1033 : Int) → agL [15, 19, 20, 21, 22, 23, 24, 25, 26, 27, 28, 29, 30, 31, 32, 33, 34, 35, 36, 37, 38, 45, 46, 47, 53] L L1031 → agr [(0, 7), (0, 8), (0, 48), (0, 50)] [27, 28, 29, 30, 31, 32, 33, 34, 35, 36, 37, 38, 45, 46, 47] V1027 V1030 → rgd bM V1030 → va_P D vwCl (mw ad kk ks.1 V1030 L1031) H → va_D A (mw ad kk ks.1 V1030 L1031) → va_S A s.heap H locs → lv_has ls 5 [(4, .int y954), (2, .long z25), (1, .int z5), (0, .ref (ad 0))] → W p l e r_s_toldComponentA s m ([.ref (ad 0)] : List Value).toArray below meth c H locs 0 0 (MQ below (q_s_toldComponentA D ks ad kk V L  bq gn gT gs A) ([.ref (ad 0)] : List Value).toArray s 0 0 A) (F0 m 299 ls []) := by
                                (try clear hb947); (try clear fz21); (try clear ps20); (try clear hr19); (try clear hr18)
                                intro fulp1033
                                induction fulp1033 with
                                | zero =>
                                  intro g1032 V1030 L1031 H locs ls xlp1033_0 xlp1033_1 xlp1033_2 xlp1033_3 xlp1033_4 xlp1033_5 xlp1033_6 xlp1033_7 xlp1033_8 xlp1033_9 xlp1033_10 xlp1033_11 xlp1033_12 xlp1033_13 hn alL1031 ajV1030 hMV1030 hP hD hS hl
                                  exfalso; omega
                                | succ fulp1033 ihlp1033 =>
                                  intro g1032 V1030 L1031 H locs ls xlp1033_0 xlp1033_1 xlp1033_2 xlp1033_3 xlp1033_4 xlp1033_5 xlp1033_6 xlp1033_7 xlp1033_8 xlp1033_9 xlp1033_10 xlp1033_11 xlp1033_12 xlp1033_13 hn alL1031 ajV1030 hMV1030 hP hD hS hl
                                  have agV1030 : agr [(0, 7), (0, 8), (0, 48), (0, 50), (0, 51), (0, 52)] [15, 19, 20, 21, 22, 23, 24, 25, 26, 27, 28, 29, 30, 31, 32, 33, 34, 35, 36, 37, 38, 45, 46, 47, 53] V V1030 := agV1027.tr ajV1030 (by decide) (by decide)
                                  have r1034 : 0 ≤ ((V1030 0 8)).toInt ∧ ((V1030 0 8)).toInt ≤ 70000 := hMV1030 0 8
                                  have r1035 : 0 ≤ ((V1030 0 48)).toInt ∧ ((V1030 0 48)).toInt ≤ 10000 := hMV1030 0 48
                                  have pq1036 : (V1030 0 51).toInt = z5.toInt := congrArg Int32.toInt ((ajV1030 0 51 rfl).trans ((ajV1027 0 51 rfl).trans ((up2_k hV1020 (by decide)).trans (up2_s hV1019))))
                                  have pq1037 : (V1030 0 52).toInt = 0 := (congrArg Int32.toInt ((ajV1030 0 52 rfl).trans ((ajV1027 0 52 rfl).trans (up2_s hV1020)))).trans (by decide)
                                  refine lv_aload_n hx hb dX12_toldComponent_299 rfl (lv_at hl 3 rfl) ?_
                                  rcases xlp1033_0 with ⟨f8, s1, hq, rq, gq1, oq, tq, wq⟩ | ⟨f8, hq⟩
                                  · skip
                                    exfalso; first | omega | ((try (have i_xlp1033_7 := Imp.go xlp1033_7 (by omega))); (try (have i_xlp1033_3 := Imp.go xlp1033_3 (by omega))); (try (have i_xlp1033_2 := Imp.go xlp1033_2 (by omega))); (try (have i_xlp1033_2 := Imp.go xlp1033_2 (by omega))); (try (have i_xlp1033_3 := Imp.go xlp1033_3 (by omega))); (try (have i_xlp1033_7 := Imp.go xlp1033_7 (by omega))); omega)
                                  · skip
                                    refine va_get (D := D) (ci := 12) (v := .int (V1030 0 8)) (C := RX12) (T := TX12) (N := 100) hx hb hg inX12 hown hK hP 0 rfl rfl 8 (by decide) (hg _ w1714) (fun _ h9 => h9) rfl dX12_toldComponent_300 ?_
                                    refine lv_if_ne (tgt := 323) hx hb dX12_toldComponent_303 (by decide) (fun c1038 => ?_) (fun c1038 => ?_)
                                    · skip
                                      have f1039 : ((V1030 0 8)).toInt ≠ 0 := b_neq rfl (by decide) c1038
                                      refine lv_aload_n hx hb dX12_toldComponent_323 rfl (lv_at hl 3 rfl) ?_
                                      refine lv_bipush (v := 125) hx hb dX12_toldComponent_324 (by decide) ?_
                                      have r1040 : Int32.toInt 125 = 125 := by decide
                                      refine gA_void (gA_runV (As := [.int 125]) (rest := []) (ci := 12) (q0 := 0) hx hb hml hown hg hP hD hK hS hA hnw hgk (s_takeSignB l D ks H.size ad kk V1030 L1031 125 hMV1030 (show 1 ≤ (V1030 0 8).toInt from by first | omega | ((try (have i_xlp1033_7 := Imp.go xlp1033_7 (by omega))); (try (have i_xlp1033_3 := Imp.go xlp1033_3 (by omega))); (try (have i_xlp1033_2 := Imp.go xlp1033_2 (by omega))); (try (have i_xlp1033_2 := Imp.go xlp1033_2 (by omega))); (try (have i_xlp1033_3 := Imp.go xlp1033_3 (by omega))); (try (have i_xlp1033_7 := Imp.go xlp1033_7 (by omega))); omega))) w2075 w2077 w96 w172 w2078 rfl rfl hdV_yX12_takeSign ⟨Nat.le_of_ble_eq_true rfl, Nat.le_of_ble_eq_true rfl⟩ rfl hl.1 rfl (Nat.le_of_ble_eq_true rfl) dX12_toldComponent_326 ⟨Nat.le_of_ble_eq_true rfl, Nat.le_of_ble_eq_true rfl⟩) hP hD hK hS hA (fun u1042 H locs w1043 hP hD hK hS => ?_)
                                      obtain ⟨V1045, L1046⟩ := u1042
                                      obtain ⟨hMV1045, ajV1045, axL1046, t1044⟩ := w1043
                                      have axL1046 : L1031 = L1046 := Eq.symm axL1046
                                      subst axL1046
                                      have hP : va_P D vwCl (mw ad kk ks.1 V1045 L1031) H := hP
                                      have hD : va_D A (mw ad kk ks.1 V1045 L1031) := hD
                                      have hMV1045 : rgd bM V1045 := hMV1045
                                      have ajV1045 : agr [(0, 7), (0, 8)] [] V1030 V1045 := ajV1045
                                      have agV1045 : agr [(0, 7), (0, 8), (0, 48), (0, 50), (0, 51), (0, 52)] [15, 19, 20, 21, 22, 23, 24, 25, 26, 27, 28, 29, 30, 31, 32, 33, 34, 35, 36, 37, 38, 45, 46, 47, 53] V V1045 := agV1030.tr ajV1045 (by decide) (by decide)
                                      have t1044 : (V1045 0 8).toInt = (V1030 0 8).toInt := t1044
                                      have r1047 : 0 ≤ ((V1045 0 8)).toInt ∧ ((V1045 0 8)).toInt ≤ 70000 := hMV1045 0 8
                                      refine lv_aload_n hx hb dX12_toldComponent_329 rfl (lv_at hl 3 rfl) ?_
                                      refine va_get (D := D) (ci := 12) (v := .int (V1045 0 8)) (C := RX12) (T := TX12) (N := 100) hx hb hg inX12 hown hK hP 0 rfl rfl 8 (by decide) (hg _ w1714) (fun _ h9 => h9) rfl dX12_toldComponent_330 ?_
                                      refine lv_if_le (tgt := 337) hx hb dX12_toldComponent_333 (by decide) (fun c1048 => ?_) (fun c1048 => ?_)
                                      · skip
                                        have f1049 : ((V1045 0 8)).toInt ≤ 0 := b_le rfl (by decide) c1048
                                        exfalso; first | omega | ((try (have i_xlp1033_7 := Imp.go xlp1033_7 (by omega))); (try (have i_xlp1033_3 := Imp.go xlp1033_3 (by omega))); (try (have i_xlp1033_2 := Imp.go xlp1033_2 (by omega))); (try (have i_xlp1033_2 := Imp.go xlp1033_2 (by omega))); (try (have i_xlp1033_3 := Imp.go xlp1033_3 (by omega))); (try (have i_xlp1033_7 := Imp.go xlp1033_7 (by omega))); omega)
                                      · skip
                                        have f1050 : 0 < ((V1045 0 8)).toInt := b_nle rfl (by decide) c1048
                                        have pq1051 : (V1045 0 48).toInt = ((V1030 0 48)).toInt := congrArg Int32.toInt (ajV1045 0 48 rfl)
                                        have pq1052 : (V1045 0 12).toInt = ((V 0 12)).toInt := congrArg Int32.toInt ((ajV1045 0 12 rfl).trans ((ajV1030 0 12 rfl).trans ((ajV1027 0 12 rfl).trans ((up2_k hV1020 (by decide)).trans ((up2_k hV1019 (by decide)).trans ((up2_o hV1018 (by decide)).trans ((up2_o hV1017 (by decide)).trans ((up2_o hV1016 (by decide)).trans ((ajV1011 0 12 rfl).trans ((up2_o hV1004 (by decide)).trans ((up2_o hV1003 (by decide)).trans ((ajV998 0 12 rfl).trans ((up2_o hV991 (by decide)).trans ((ajV986 0 12 rfl).trans ((up2_o hV979 (by decide)).trans ((ajV976 0 12 rfl).trans ((ajV966 0 12 rfl).trans ((ajV955 0 12 rfl).trans ((ajV950 0 12 rfl).trans ((ajV29 0 12 rfl).trans (ajV13 0 12 rfl)))))))))))))))))))))
                                        have rw1053 : RoV 19 bq V V1045 := (fun k hk => ((ajV1045 19 k rfl).trans (xlp1033_8 k hk)))
                                        have rw1054 : RoV 35 bq V V1045 := (fun k hk => ((ajV1045 35 k rfl).trans (xlp1033_9 k hk)))
                                        have rw1055 : RoV 37 bq V V1045 := (fun k hk => ((ajV1045 37 k rfl).trans (xlp1033_10 k hk)))
                                        have rw1056 : RoL 20 24 bq L L1031 := (fun k hk => (xlp1033_11 k hk))
                                        have rw1057 : RoL 36 20 bq L L1031 := (fun k hk => (xlp1033_12 k hk))
                                        have rw1058 : RoL 38 20 bq L L1031 := (fun k hk => (xlp1033_13 k hk))
                                        exact W.vret hx hb hr (fun t ht hW => ⟨⟨(V1045, L1031), rfl, ⟨hMV1045, agV1045, alL1031, (Imp.mk (fun hp => have hp : (V1045 0 8).toInt = 0 := hp; (show (V1045 0 48).toInt ≤ 2 * (V1045 0 7).toInt from by first | omega | ((try (have i_xlp1033_7 := Imp.go xlp1033_7 (by omega))); (try (have i_xlp1033_3 := Imp.go xlp1033_3 (by omega))); (try (have i_xlp1033_2 := Imp.go xlp1033_2 (by omega))); (try (have i_xlp1033_2 := Imp.go xlp1033_2 (by omega))); (try (have i_xlp1033_3 := Imp.go xlp1033_3 (by omega))); (try (have i_xlp1033_7 := Imp.go xlp1033_7 (by omega))); omega)))), (show (V1045 0 48).toInt ≤ 8200 from by first | omega | ((try (have i_xlp1033_7 := Imp.go xlp1033_7 (by omega))); (try (have i_xlp1033_3 := Imp.go xlp1033_3 (by omega))); (try (have i_xlp1033_2 := Imp.go xlp1033_2 (by omega))); (try (have i_xlp1033_2 := Imp.go xlp1033_2 (by omega))); (try (have i_xlp1033_3 := Imp.go xlp1033_3 (by omega))); (try (have i_xlp1033_7 := Imp.go xlp1033_7 (by omega))); omega)), (show (V1045 0 12).toInt = (V 0 12).toInt from by first | omega | ((try (have i_xlp1033_7 := Imp.go xlp1033_7 (by omega))); (try (have i_xlp1033_3 := Imp.go xlp1033_3 (by omega))); (try (have i_xlp1033_2 := Imp.go xlp1033_2 (by omega))); (try (have i_xlp1033_2 := Imp.go xlp1033_2 (by omega))); (try (have i_xlp1033_3 := Imp.go xlp1033_3 (by omega))); (try (have i_xlp1033_7 := Imp.go xlp1033_7 (by omega))); omega)), (Or.inr ⟨(show 1 ≤ (V1045 0 8).toInt from by omega), (fun k => by rw [show (V1045 0 8).toInt = (V1030 0 8).toInt from by omega]; exact hq k)⟩), rw1053, rw1054, rw1055, rw1056, rw1057, rw1058⟩, by rw [ht]; exact hP, va_K.moved hW.alike hK, hD⟩, hS.F ht⟩) hS.2.2 dX12_toldComponent_336
                                    · skip
                                      have f1059 : ((V1030 0 8)).toInt = 0 := b_eq rfl (by decide) c1038
                                      exfalso; first | omega | ((try (have i_xlp1033_7 := Imp.go xlp1033_7 (by omega))); (try (have i_xlp1033_3 := Imp.go xlp1033_3 (by omega))); (try (have i_xlp1033_2 := Imp.go xlp1033_2 (by omega))); (try (have i_xlp1033_2 := Imp.go xlp1033_2 (by omega))); (try (have i_xlp1033_3 := Imp.go xlp1033_3 (by omega))); (try (have i_xlp1033_7 := Imp.go xlp1033_7 (by omega))); omega)
                              have pq1060 : (V1027 0 48).toInt = ((V 0 48)).toInt := congrArg Int32.toInt ((ajV1027 0 48 rfl).trans ((up2_k hV1020 (by decide)).trans ((up2_k hV1019 (by decide)).trans ((up2_o hV1018 (by decide)).trans ((up2_o hV1017 (by decide)).trans ((up2_o hV1016 (by decide)).trans ((ajV1011 0 48 rfl).trans ((up2_o hV1004 (by decide)).trans ((up2_o hV1003 (by decide)).trans ((ajV998 0 48 rfl).trans ((up2_o hV991 (by decide)).trans ((ajV986 0 48 rfl).trans ((up2_o hV979 (by decide)).trans ((ajV976 0 48 rfl).trans ((ajV966 0 48 rfl).trans ((ajV955 0 48 rfl).trans ((ajV950 0 48 rfl).trans ((ajV29 0 48 rfl).trans (ajV13 0 48 rfl)))))))))))))))))))
                              have pq1061 : (V1027 0 51).toInt = z5.toInt := congrArg Int32.toInt ((ajV1027 0 51 rfl).trans ((up2_k hV1020 (by decide)).trans (up2_s hV1019)))
                              have pq1062 : (V1027 0 52).toInt = 0 := (congrArg Int32.toInt ((ajV1027 0 52 rfl).trans (up2_s hV1020))).trans (by decide)
                              have rw1063 : RoV 19 bq V V1027 := (fun k hk => ((ajV1027 19 k rfl).trans ((up2_o hV1020 (by decide)).trans ((up2_o hV1019 (by decide)).trans ((up2_o hV1018 (by decide)).trans ((up2_o hV1017 (by decide)).trans ((up2_o hV1016 (by decide)).trans ((ajV1011 19 k rfl).trans ((up2_o hV1004 (by decide)).trans ((up2_o hV1003 (by decide)).trans ((ajV998 19 k rfl).trans ((up2_o hV991 (by decide)).trans ((ajV986 19 k rfl).trans ((up2_o hV979 (by decide)).trans ((ajV976 19 k rfl).trans ((ajV966 19 k rfl).trans (xlp956_1 k hk)))))))))))))))))
                              have rw1064 : RoV 35 bq V V1027 := (fun k hk => ((ajV1027 35 k rfl).trans ((up2_o hV1020 (by decide)).trans ((up2_o hV1019 (by decide)).trans ((up2_o hV1018 (by decide)).trans ((up2_o hV1017 (by decide)).trans ((up2_o hV1016 (by decide)).trans ((ajV1011 35 k rfl).trans ((up2_o hV1004 (by decide)).trans ((up2_o hV1003 (by decide)).trans ((ajV998 35 k rfl).trans ((up2_o hV991 (by decide)).trans ((ajV986 35 k rfl).trans ((up2_o hV979 (by decide)).trans ((ajV976 35 k rfl).trans ((ajV966 35 k rfl).trans (xlp956_2 k hk)))))))))))))))))
                              have rw1065 : RoV 37 bq V V1027 := (fun k hk => ((ajV1027 37 k rfl).trans ((up2_o hV1020 (by decide)).trans ((up2_o hV1019 (by decide)).trans ((up2_o hV1018 (by decide)).trans ((up2_o hV1017 (by decide)).trans ((up2_o hV1016 (by decide)).trans ((ajV1011 37 k rfl).trans ((up2_o hV1004 (by decide)).trans ((up2_o hV1003 (by decide)).trans ((ajV998 37 k rfl).trans ((up2_o hV991 (by decide)).trans ((ajV986 37 k rfl).trans ((up2_o hV979 (by decide)).trans ((ajV976 37 k rfl).trans ((ajV966 37 k rfl).trans (xlp956_3 k hk)))))))))))))))))
                              have rw1066 : RoL 20 24 bq L L := (fun k hk => rfl)
                              have rw1067 : RoL 36 20 bq L L := (fun k hk => rfl)
                              have rw1068 : RoL 38 20 bq L L := (fun k hk => rfl)
                              exact lp1033 ((((gn : Int) + 1) + 1 : Int).toNat) ((gn : Int) + 1) V1027 L H locs ls (Or.inr ⟨(show 1 ≤ (V1027 0 8).toInt from by omega), (fun k => by rw [show (V1027 0 8).toInt = (V29 0 8).toInt from by omega]; exact hb947 k)⟩) (show 0 ≤ ((gn : Int) + 1) from by omega) (Imp.mk (fun hp => have hp : (V1027 0 8).toInt = 0 := hp; (show (gn : Int) - (V1027 0 7).toInt < ((gn : Int) + 1) from by omega))) (Imp.mk (fun hp => have hp : (V1027 0 8).toInt = 0 := hp; (show (V1027 0 48).toInt ≤ 2 * (V1027 0 7).toInt from by omega))) (show (V1027 0 48).toInt ≤ 8120 from by omega) (show (V1027 0 51).toInt = z5.toInt from by omega) (show (V1027 0 52).toInt = 0 from by omega) (Imp.mk (fun hp => have hp : 1 ≤ (V1027 0 8).toInt := hp; (show (V1027 0 8).toInt = (V1027 0 8).toInt from by omega))) rw1063 rw1064 rw1065 rw1066 rw1067 rw1068 (by omega) alL agr.rf hMV1027 hP hD hS (lv_sub hl [0, 1, 2, 3] rfl)
                            · skip
                              have f1069 : z1007.toInt ≠ 0 := b_neq rfl (by decide) c1014
                              exfalso; omega
                          · skip
                            have f1070 : z994.toInt ≠ 0 := b_neq rfl (by decide) c1001
                            exfalso; omega
                        · skip
                          have f1071 : z982.toInt ≠ 0 := b_neq rfl (by decide) c989
                          exfalso; omega
                      · skip
                        have f1072 : ((V966 0 8)).toInt = 0 := b_eq rfl (by decide) c969
                        exfalso; omega
                    · skip
                      have f1073 : y954.toInt < 20 := b_nle (by decide) rfl c957
                      refine lv_aload_n hx hb dX12_toldComponent_93 rfl (lv_at hl 3 rfl) ?_
                      refine va_get (D := D) (ci := 12) (v := .ref (ad 34)) (C := RX12) (T := TX12) (N := 100) hx hb hg inX12 hown hK hP 0 rfl rfl 34 (by decide) (hg _ w1740) (fun _ h9 => h9) rfl dX12_toldComponent_94 ?_
                      refine lv_bipush (v := 20) hx hb dX12_toldComponent_97 (by decide) ?_
                      refine lv_iload_n hx hb dX12_toldComponent_99 rfl (lv_at hl 2 rfl) ?_
                      refine lv_imul hx hb dX12_toldComponent_100 ?_
                      refine lv_topi (fun z1074 ez1074 => ?_)
                      have hz1074 : z1074.toInt = 20 * z5.toInt := i_mul ez1074 (by decide) rfl (by omega)
                      refine lv_iload hx hb dX12_toldComponent_101 (lv_at hl 0 rfl) ?_
                      refine lv_iadd hx hb dX12_toldComponent_103 ?_
                      refine lv_topi (fun z1075 ez1075 => ?_)
                      have hz1075 : z1075.toInt = z1074.toInt + y954.toInt := i_add ez1075 rfl rfl (by omega)
                      refine lv_iconst (v := (-1)) hx hb dX12_toldComponent_104 (by decide) ?_
                      refine va_iast (D := D) (i := z1075) (x := (-1)) hx hb hK hP hD hS 27 26 rfl rfl (i_in (a := z1075.toInt) rfl (by omega)) dX12_toldComponent_105 (fun H locs hP hD hS => ?_)
                      obtain ⟨V1076, hV1076⟩ : ∃ z, z = up2 V955 34 (Int32.toNatClampNeg z1075) (-1) := ⟨_, rfl⟩
                      have hP : va_P D vwCl (mw ad kk ks.1 V1076 L) H := by rw [hV1076]; exact hP
                      have hD : va_D A (mw ad kk ks.1 V1076 L) := by rw [hV1076]; exact hD
                      have hMV1076 : rgd bM V1076 := hMV955.put hV1076 (i_full _)
                      have agV1076 : agr [(0, 7), (0, 8), (0, 48), (0, 50), (0, 51), (0, 52)] [15, 19, 20, 21, 22, 23, 24, 25, 26, 27, 28, 29, 30, 31, 32, 33, 34, 35, 36, 37, 38, 45, 46, 47, 53] V V1076 := agV955.up hV1076 rfl
                      obtain ⟨z1077, ez1077⟩ : ∃ y : Int32, y = y954 + 1 := ⟨_, rfl⟩
                      have hz1077 : z1077.toInt = y954.toInt + 1 := i_add ez1077 rfl (by decide) (by omega)
                      refine lv_iinc (v := z1077) (lv' := [(4, .int z1077), (2, .long z25), (1, .int z5), (0, .ref (ad 0))]) hx hb dX12_toldComponent_106 hl (k := 0) rfl (by rw [ez1077]; rfl) (by decide) rfl (fun ls hl => ?_)
                      refine lv_goto (tgt := 86) hx hb dX12_toldComponent_109 (by decide) ?_
                      have k34 := i_clamp (x := z1075) rfl (by omega)
                      have rw1078 : RoV 19 bq V V1076 := (fun k hk => ((up2_o hV1076 (by decide)).trans (xlp956_1 k hk)))
                      have rw1079 : RoV 35 bq V V1076 := (fun k hk => ((up2_o hV1076 (by decide)).trans (xlp956_2 k hk)))
                      have rw1080 : RoV 37 bq V V1076 := (fun k hk => ((up2_o hV1076 (by decide)).trans (xlp956_3 k hk)))
                      have rw1081 : RoL 20 24 bq L L := (fun k hk => rfl)
                      have rw1082 : RoL 36 20 bq L L := (fun k hk => rfl)
                      have rw1083 : RoL 38 20 bq L L := (fun k hk => rfl)
                      exact ihlp956 z1077 V1076 H locs ls (by omega) (fun j hj => by rcases Decidable.em (20 * gc + j = Int32.toNatClampNeg z1075) with hk | hk; (rw [hk, up2_s hV1076]; decide); (rw [up2_k hV1076 hk]; exact xlp956_0 j (by omega))) rw1078 rw1079 rw1080 rw1081 rw1082 rw1083 (by omega) (agr.up (agr.tr agr.rf ajV955 (by decide) (by decide)) hV1076 rfl) hMV1076 hP hD hS (lv_sub hl [0, 1, 2, 3] rfl)
                have rw1084 : RoV 19 bq V V950 := (fun k hk => (xlp951_0 k hk))
                have rw1085 : RoV 35 bq V V950 := (fun k hk => (xlp951_1 k hk))
                have rw1086 : RoV 37 bq V V950 := (fun k hk => (xlp951_2 k hk))
                have rw1087 : RoL 20 24 bq L L := (fun k hk => rfl)
                have rw1088 : RoL 36 20 bq L L := (fun k hk => rfl)
                have rw1089 : RoL 38 20 bq L L := (fun k hk => rfl)
                exact lp956 ((20 - (Int32.toInt 0) + 1 : Int).toNat) 0 V950 H locs ls (by decide) (fun j hj => absurd hj (by omega)) rw1084 rw1085 rw1086 rw1087 rw1088 rw1089 (by omega) agr.rf hMV950 hP hD hS (lv_sub hl [0, 1, 2, 3] rfl)
              · skip
                have f1090 : y949.toInt < 24 := b_nle (by decide) rfl c952
                refine lv_aload_n hx hb dX12_toldComponent_64 rfl (lv_at hl 3 rfl) ?_
                refine va_get (D := D) (ci := 12) (v := .ref (ad 21)) (C := RX12) (T := TX12) (N := 100) hx hb hg inX12 hown hK hP 0 rfl rfl 21 (by decide) (hg _ w1727) (fun _ h9 => h9) rfl dX12_toldComponent_65 ?_
                refine lv_bipush (v := 24) hx hb dX12_toldComponent_68 (by decide) ?_
                refine lv_iload_n hx hb dX12_toldComponent_70 rfl (lv_at hl 2 rfl) ?_
                refine lv_imul hx hb dX12_toldComponent_71 ?_
                refine lv_topi (fun z1091 ez1091 => ?_)
                have hz1091 : z1091.toInt = 24 * z5.toInt := i_mul ez1091 (by decide) rfl (by omega)
                refine lv_iload hx hb dX12_toldComponent_72 (lv_at hl 0 rfl) ?_
                refine lv_iadd hx hb dX12_toldComponent_74 ?_
                refine lv_topi (fun z1092 ez1092 => ?_)
                have hz1092 : z1092.toInt = z1091.toInt + y949.toInt := i_add ez1092 rfl rfl (by omega)
                refine lv_iconst (v := 0) hx hb dX12_toldComponent_75 (by decide) ?_
                refine va_zast (D := D) (i := z1092) (x := 0) hx hb hK hP hD hS 14 13 rfl rfl (i_in (a := z1092.toInt) rfl (by omega)) dX12_toldComponent_76 (fun H locs hP hD hS => ?_)
                obtain ⟨V1093, hV1093⟩ : ∃ z, z = up2 V950 21 (Int32.toNatClampNeg z1092) (vp_nar .boolean 0) := ⟨_, rfl⟩
                have hP : va_P D vwCl (mw ad kk ks.1 V1093 L) H := by rw [hV1093]; exact hP
                have hD : va_D A (mw ad kk ks.1 V1093 L) := by rw [hV1093]; exact hD
                have hMV1093 : rgd bM V1093 := hMV950.put hV1093 (nar_b _)
                have agV1093 : agr [(0, 7), (0, 8), (0, 48), (0, 50), (0, 51), (0, 52)] [15, 19, 20, 21, 22, 23, 24, 25, 26, 27, 28, 29, 30, 31, 32, 33, 34, 35, 36, 37, 38, 45, 46, 47, 53] V V1093 := agV950.up hV1093 rfl
                obtain ⟨z1094, ez1094⟩ : ∃ y : Int32, y = y949 + 1 := ⟨_, rfl⟩
                have hz1094 : z1094.toInt = y949.toInt + 1 := i_add ez1094 rfl (by decide) (by omega)
                refine lv_iinc (v := z1094) (lv' := [(4, .int z1094), (2, .long z25), (1, .int z5), (0, .ref (ad 0))]) hx hb dX12_toldComponent_77 hl (k := 0) rfl (by rw [ez1094]; rfl) (by decide) rfl (fun ls hl => ?_)
                refine lv_goto (tgt := 57) hx hb dX12_toldComponent_80 (by decide) ?_
                have rw1095 : RoV 19 bq V V1093 := (fun k hk => ((up2_o hV1093 (by decide)).trans (xlp951_0 k hk)))
                have rw1096 : RoV 35 bq V V1093 := (fun k hk => ((up2_o hV1093 (by decide)).trans (xlp951_1 k hk)))
                have rw1097 : RoV 37 bq V V1093 := (fun k hk => ((up2_o hV1093 (by decide)).trans (xlp951_2 k hk)))
                have rw1098 : RoL 20 24 bq L L := (fun k hk => rfl)
                have rw1099 : RoL 36 20 bq L L := (fun k hk => rfl)
                have rw1100 : RoL 38 20 bq L L := (fun k hk => rfl)
                exact ihlp951 z1094 V1093 H locs ls (by omega) rw1095 rw1096 rw1097 rw1098 rw1099 rw1100 (by omega) (agr.up (agr.tr agr.rf ajV950 (by decide) (by decide)) hV1093 rfl) hMV1093 hP hD hS (lv_sub hl [0, 1, 2, 3] rfl)
          have rw1101 : RoV 19 bq V V29 := (fun k hk => ((ajV29 19 k rfl).trans ((ajV13 19 k rfl).trans rfl)))
          have rw1102 : RoV 35 bq V V29 := (fun k hk => ((ajV29 35 k rfl).trans ((ajV13 35 k rfl).trans rfl)))
          have rw1103 : RoV 37 bq V V29 := (fun k hk => ((ajV29 37 k rfl).trans ((ajV13 37 k rfl).trans rfl)))
          have rw1104 : RoL 20 24 bq L L := (fun k hk => rfl)
          have rw1105 : RoL 36 20 bq L L := (fun k hk => rfl)
          have rw1106 : RoL 38 20 bq L L := (fun k hk => rfl)
          exact lp951 ((24 - (Int32.toInt 0) + 1 : Int).toNat) 0 V29 H locs ls (by decide) rw1101 rw1102 rw1103 rw1104 rw1105 rw1106 (by omega) agr.rf hMV29 hP hD hS (lv_sub hl [0, 1, 2, 3] rfl)
      · skip
        have f1107 : 0 < ((V13 0 8)).toInt := b_nle rfl (by decide) c23
        exfalso; omega
    · skip
      exfalso; omega
  · skip
    have f1108 : ((V 19 (Int32.toNatClampNeg (V 0 12)))).toInt = 24 := b_eq rfl (by decide) c6
    refine lv_iconst (v := 1) hx hb dX12_toldComponent_33 (by decide) ?_
    refine lv_goto (tgt := 38) hx hb dX12_toldComponent_34 (by decide) ?_
    have r1109 : Int32.toInt 1 = 1 := by decide
    refine gA_void (gA_runV (As := [.int 1]) (rest := []) (ci := 12) (q0 := 0) hx hb hml hown hg hP hD hK hS hA hnw hgk (s_beginsA l D ks H.size ad kk V L 1 (bq) (gn) (gT) (gs) ((gs.2.1 2)) hMV (by decide) rel (by rw [kd9]; decide)) w2031 w2033 w85 w172 w2034 rfl rfl hdV_yX12_begins ⟨Nat.le_of_ble_eq_true rfl, Nat.le_of_ble_eq_true rfl⟩ rfl hl.1 rfl (Nat.le_of_ble_eq_true rfl) dX12_toldComponent_38 ⟨Nat.le_of_ble_eq_true rfl, Nat.le_of_ble_eq_true rfl⟩) hP hD hK hS hA (fun u1111 H locs w1112 hP hD hK hS => ?_)
    obtain ⟨V1114, L1115⟩ := u1111
    obtain ⟨hMV1114, ajV1114, axL1115, t1113⟩ := w1112
    have axL1115 : L = L1115 := Eq.symm axL1115
    subst axL1115
    have hP : va_P D vwCl (mw ad kk ks.1 V1114 L) H := hP
    have hD : va_D A (mw ad kk ks.1 V1114 L) := hD
    have hMV1114 : rgd bM V1114 := hMV1114
    have ajV1114 : agr [(0, 7), (0, 8)] [] V V1114 := ajV1114
    have agV1114 : agr [(0, 7), (0, 8), (0, 48), (0, 50), (0, 51), (0, 52)] [15, 19, 20, 21, 22, 23, 24, 25, 26, 27, 28, 29, 30, 31, 32, 33, 34, 35, 36, 37, 38, 45, 46, 47, 53] V V1114 := agV.tr ajV1114 (by decide) (by decide)
    have t1113 : ((Int32.toInt 1) = 0 ∧ (V1114 0 8).toInt = 0 ∧ RelM V1114 L (bq) (gn) (gT) (nx (gs) 1) ((gs.2.1 2))) ∨ ((Int32.toInt 1) = 1 ∧ 1 ≤ (V1114 0 8).toInt ∧ (V1114 0 8).toInt = 5 + 16 * (gT).2.2 ((gs).1 0)) := t1113
    rcases t1113 with ⟨q1116, f1117, rl1118⟩ | ⟨q1116, f1117, rl1118⟩
    · skip
      exfalso; omega
    · skip
      have hr1119 : ∀ k, Rc gT (Crun gs (Istmt :: k)) (Crun gs (Istmt :: k)) := fun k => Rc.rf
      have hb1120 : ∀ k, Rc gT (Crun gs (Istmt :: k)) (Cbad (V1114 0 8).toInt) := fun k => Rc.go1 (hr1119 k) ((st_131f kd9 (by omega)).trans (fl_eq rfl rl1118))
      have r1121 : 0 ≤ ((V1114 0 8)).toInt ∧ ((V1114 0 8)).toInt ≤ 70000 := hMV1114 0 8
      refine lv_aload_n hx hb dX12_toldComponent_41 rfl (lv_at hl 1 rfl) ?_
      refine va_get (D := D) (ci := 12) (v := .int (V1114 0 8)) (C := RX12) (T := TX12) (N := 100) hx hb hg inX12 hown hK hP 0 rfl rfl 8 (by decide) (hg _ w1714) (fun _ h9 => h9) rfl dX12_toldComponent_42 ?_
      refine lv_if_le (tgt := 49) hx hb dX12_toldComponent_45 (by decide) (fun c1122 => ?_) (fun c1122 => ?_)
      · skip
        have f1123 : ((V1114 0 8)).toInt ≤ 0 := b_le rfl (by decide) c1122
        exfalso; omega
      · skip
        have f1124 : 0 < ((V1114 0 8)).toInt := b_nle rfl (by decide) c1122
        have pq1125 : (V1114 0 48).toInt = ((V 0 48)).toInt := congrArg Int32.toInt (ajV1114 0 48 rfl)
        have pq1126 : (V1114 0 12).toInt = ((V 0 12)).toInt := congrArg Int32.toInt (ajV1114 0 12 rfl)
        have rw1127 : RoV 19 bq V V1114 := (fun k hk => ((ajV1114 19 k rfl).trans rfl))
        have rw1128 : RoV 35 bq V V1114 := (fun k hk => ((ajV1114 35 k rfl).trans rfl))
        have rw1129 : RoV 37 bq V V1114 := (fun k hk => ((ajV1114 37 k rfl).trans rfl))
        have rw1130 : RoL 20 24 bq L L := (fun k hk => rfl)
        have rw1131 : RoL 36 20 bq L L := (fun k hk => rfl)
        have rw1132 : RoL 38 20 bq L L := (fun k hk => rfl)
        exact W.vret hx hb hr (fun t ht hW => ⟨⟨(V1114, L), rfl, ⟨hMV1114, agV1114, alL, (Imp.mk (fun hp => have hp : (V1114 0 8).toInt = 0 := hp; (show (V1114 0 48).toInt ≤ 2 * (V1114 0 7).toInt from by omega))), (show (V1114 0 48).toInt ≤ 8200 from by omega), (show (V1114 0 12).toInt = (V 0 12).toInt from by omega), (Or.inr ⟨(show 1 ≤ (V1114 0 8).toInt from by omega), hb1120⟩), rw1127, rw1128, rw1129, rw1130, rw1131, rw1132⟩, by rw [ht]; exact hP, va_K.moved hW.alike hK, hD⟩, hS.F ht⟩) hS.2.2 dX12_toldComponent_48
