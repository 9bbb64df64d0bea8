/-! statements of the reference -/
def OWm (V : Vf) (o : Nat) (s : St) : Prop := (V 27 o).toInt = ((s.1 1 : Nat) : Int) ∧ ((V 32 o).toInt < 0 ↔ s.1 2 ≠ 1) ∧ ((V 33 o).toInt < 0 ↔ s.1 3 ≠ 1) ∧ s.1 4 = 0 ∧ (∀ f, f < 20 → (0 ≤ (V 34 (20 * o + f)).toInt ↔ f ∈ s.2.2.2)) ∧ ∀ f ∈ s.2.2.2, f < (s.2.1 3).length
theorem OWm.mv {V W : Vf} {o : Nat} {s s' : St} (h : OWm V o s) (e27 : W 27 o = V 27 o) (e32 : W 32 o = V 32 o) (e33 : W 33 o = V 33 o) (e34 : ∀ f, f < 20 → W 34 (20 * o + f) = V 34 (20 * o + f)) (k : ∀ i, 1 ≤ i → s'.1 i = s.1 i) (t : s'.2.2 = s.2.2) (l : (s.2.1 3).length ≤ (s'.2.1 3).length) : OWm W o s' := by
  unfold OWm at h ⊢
  rw [e27, e32, e33, k 1 (by decide), k 2 (by decide), k 3 (by decide), k 4 (by decide), t]
  exact ⟨h.1, h.2.1, h.2.2.1, h.2.2.2.1, fun f hf => by rw [e34 f hf]; exact h.2.2.2.2.1 f hf, fun f hf => Nat.lt_of_lt_of_le (h.2.2.2.2.2 f hf) l⟩
theorem RelM.a0 {V W : Vf} {L M : Lf} {q n : Nat} {T : Tk} {s : St} {w : Int64} {a z : Int32} (h : RelM V L q n T s (s.2.1 2)) (f : fndI (s.2.1 0) w = none) (e : M = upL L 14 (Int32.toNatClampNeg a) w) (ha : a.toInt = ((24 * q : Nat) : Int) + (V 13 q).toInt) (ev : W = up2 V 13 q z) (hz : z.toInt = (V 13 q).toInt + 1) (h0 : 0 ≤ (V 13 q).toInt) : RelM W M q n T (sA s 0 w) ((sA s 0 w).2.1 2) := by
  have g : ∀ x, ¬ x = 13 → W x = V x := fun x hx => up2_fo ev hx
  have m : ∀ x, x ≠ 14 → M x = L x := fun x hx => upL_o e hx
  have w13 : W 13 q = z := up2_s ev
  have t := h.2.2.1
  refine ⟨by unfold HDm; rw [g 0 (by decide)]; exact h.1, h.2.1.ag (g 4 (by decide)) (g 5 (by decide)) (m 6 (by decide)) (m 10 (by decide)), ⟨?_, ?_, ?_, ?_, ?_⟩, h.2.2.2.ag (g 39 (by decide)) (g 41 (by decide)) (g 43 (by decide)) rfl⟩
  · rw [w13]
    exact ⟨LSw.ad (a := a.toInt) t.1.1 e ha h0 hz, t.1.2.add f⟩
  · rw [g 16 (by decide), m 17 (by decide)]
    exact t.2.1
  · rw [g 19 (by decide), m 20 (by decide)]
    exact t.2.2.1
  · rw [g 35 (by decide), m 36 (by decide)]
    exact t.2.2.2.1
  · rw [g 37 (by decide), m 38 (by decide)]
    exact t.2.2.2.2
theorem RelM.a1 {V W : Vf} {L M : Lf} {q n : Nat} {T : Tk} {s : St} {w : Int64} {a z : Int32} (h : RelM V L q n T s (s.2.1 2)) (f : fndI (s.2.1 1) w = none) (e : L 17 (Int32.toNatClampNeg a) = w) (ha : a.toInt = ((12 * q : Nat) : Int) + (V 16 q).toInt) (ev : W = up2 V 16 q z) (hz : z.toInt = (V 16 q).toInt + 1) (h0 : 0 ≤ (V 16 q).toInt) (eM : M = L) : RelM W M q n T (sA s 1 w) ((sA s 1 w).2.1 2) := by
  have g : ∀ x, ¬ x = 16 → W x = V x := fun x hx => up2_fo ev hx
  subst eM
  have w16 : W 16 q = z := up2_s ev
  have t := h.2.2.1
  refine ⟨by unfold HDm; rw [g 0 (by decide)]; exact h.1, h.2.1.ag (g 4 (by decide)) (g 5 (by decide)) rfl rfl, ⟨?_, ?_, ?_, ?_, ?_⟩, h.2.2.2.ag (g 39 (by decide)) (g 41 (by decide)) (g 43 (by decide)) rfl⟩
  · rw [g 13 (by decide)]
    exact t.1
  · rw [w16]
    refine ⟨t.2.1.1.add hz ?_ (fun _ _ => rfl), t.2.1.2.add f⟩
    show M 17 (12 * q + (V 16 q).toInt.toNat) = w
    have ea : 12 * q + (V 16 q).toInt.toNat = Int32.toNatClampNeg a := by
      have := i_clamp (x := a) rfl (by omega)
      omega
    rw [ea]
    exact e
  · rw [g 19 (by decide)]
    exact t.2.2.1
  · rw [g 35 (by decide)]
    exact t.2.2.2.1
  · rw [g 37 (by decide)]
    exact t.2.2.2.2
/-- the setting's name is laid ahead of its end: a place that no one reads yet -/
theorem RelM.l17 {V : Vf} {L M : Lf} {q n : Nat} {T : Tk} {s : St} {l2 : List Int64} {w : Int64} {a : Int32} (h : RelM V L q n T s l2) (e : M = upL L 17 (Int32.toNatClampNeg a) w) (ha : a.toInt = ((12 * q : Nat) : Int) + (V 16 q).toInt) (h0 : 0 ≤ (V 16 q).toInt) : RelM V M q n T s l2 := by
  have m : ∀ x, x ≠ 17 → M x = L x := fun x hx => upL_o e hx
  have t := h.2.2.1
  have kc := i_clamp (x := a) rfl (by omega)
  refine ⟨h.1, h.2.1.ag rfl rfl (m 6 (by decide)) (m 10 (by decide)), ⟨?_, ?_, ?_, ?_, ?_⟩, h.2.2.2⟩
  · rw [m 14 (by decide)]
    exact t.1
  · refine ⟨⟨t.2.1.1.1, fun i hi => ?_⟩, t.2.1.2⟩
    have z := t.2.1.1.1
    rw [t.2.1.1.2 i hi]
    show L 17 (12 * q + i) = M 17 (12 * q + i)
    rw [e]
    unfold upL vp_updL
    rw [if_pos rfl, if_neg (by omega)]
  · rw [m 20 (by decide)]
    exact t.2.2.1
  · rw [m 36 (by decide)]
    exact t.2.2.2.1
  · rw [m 38 (by decide)]
    exact t.2.2.2.2
theorem RelM.a2 {V W : Vf} {L M : Lf} {q n : Nat} {T : Tk} {s : St} {l2 : List Int64} {w : Int64} {a z : Int32} (h : RelM V L q n T s l2) (f : fndI l2 w = none) (e : M = upL L 20 (Int32.toNatClampNeg a) w) (ha : a.toInt = ((24 * q : Nat) : Int) + (V 19 q).toInt) (ev : W = up2 V 19 q z) (hz : z.toInt = (V 19 q).toInt + 1) (h0 : 0 ≤ (V 19 q).toInt) : RelM W M q n T s (l2 ++ [w]) := by
  have g : ∀ x, ¬ x = 19 → W x = V x := fun x hx => up2_fo ev hx
  have m : ∀ x, x ≠ 20 → M x = L x := fun x hx => upL_o e hx
  have w19 : W 19 q = z := up2_s ev
  have t := h.2.2.1
  refine ⟨by unfold HDm; rw [g 0 (by decide)]; exact h.1, h.2.1.ag (g 4 (by decide)) (g 5 (by decide)) (m 6 (by decide)) (m 10 (by decide)), ⟨?_, ?_, ?_, ?_, ?_⟩, h.2.2.2.ag (g 39 (by decide)) (g 41 (by decide)) (g 43 (by decide)) rfl⟩
  · rw [g 13 (by decide), m 14 (by decide)]
    exact t.1
  · rw [g 16 (by decide), m 17 (by decide)]
    exact t.2.1
  · rw [w19]
    exact ⟨LSw.ad (a := a.toInt) t.2.2.1.1 e ha h0 hz, t.2.2.1.2.add f⟩
  · rw [g 35 (by decide), m 36 (by decide)]
    exact t.2.2.2.1
  · rw [g 37 (by decide), m 38 (by decide)]
    exact t.2.2.2.2
theorem told_i {s : St} {w : Int64} (h : isTold s w = false) : fndI (s.2.1 0) w = none ∧ fndI (s.2.1 1) w = none ∧ fndI (s.2.1 2) w = none := by
  unfold isTold at h
  rw [Bool.or_eq_false_iff, Bool.or_eq_false_iff] at h
  exact ⟨Option.not_isSome_iff_eq_none.mp (by rw [h.1.1]; decide), Option.not_isSome_iff_eq_none.mp (by rw [h.1.2]; decide), Option.not_isSome_iff_eq_none.mp (by rw [h.2]; decide)⟩
def ARm (s : St) : Prop := ∀ f, arounds s.2.2.1 f ≤ 2
theorem ARm.mv {s s' : St} (h : ARm s) (e : s'.2.2.1 = s.2.2.1) : ARm s' := by
  unfold ARm at h ⊢
  rw [e]
  exact h


abbrev r_s_expressionA8 : Room := { frames := 93, cells := 0, slots := 0, locals := 2820 }
abbrev q_s_expressionA8 (D : va_G) (ks : KS) (ad : Nat → Nat) (kk : Nat → ClassId) (V : Vf) (L : Lf) (bq : Nat) (gn : Nat) (gT : Tk) (gs : St) (gl : List Int64) (A : Nat → Prop) : Array Value → State → Outcome → State → Prop := q_s_expressionA D ks ad kk V L bq gn gT gs gl 0 A
theorem s_expressionA8 (l : Launch) (D : va_G) (ks : KS) (sz : Nat) (ad : Nat → Nat) (kk : Nat → ClassId) (V : Vf) (L : Lf) (bq : Nat) (gn : Nat) (gT : Tk) (gs : St) (gl : List Int64) (hMV : rgd bM V) (rel : RelM V L bq gn gT gs gl) (c1 : (V 0 48).toInt ≤ 2 * (V 0 7).toInt) (em : EM V gs) (yd : (V 0 50).toInt = 0) : Met l yX12_expression (Cond.code yX12_expression cX12_expression 3 none :: GW) r_s_expressionA8 (va_Pc [.ref (ad 0)] (gp D ks (mw ad kk ks.1 V L) (mty kk) sz)) (q_s_expressionA8 D ks ad kk V L bq gn gT gs gl (va_A (mw ad kk ks.1 V L) sz)) 0 0 (va_A (mw ad kk ks.1 V L) sz) :=
  K_exprA 8 sz ad kk V L bq gn gT gs gl 0 hMV rel c1 (by omega) (by omega) em

abbrev r_s_codeA : Room := { frames := 94, cells := 0, slots := 0, locals := 2842 }
abbrev q_s_codeA (D : va_G) (ks : KS) (ad : Nat → Nat) (kk : Nat → ClassId) (V : Vf) (L : Lf) (bq : Nat) (gn : Nat) (gT : Tk) (gs : St) (gl : List Int64) (A : Nat → Prop) : Array Value → State → Outcome → State → Prop := va_Qi (fun (r : Int32) (u : Vf × Lf) => rgd bM u.1 ∧ agr [(0, 7), (0, 8), (0, 48), (0, 50)] [35, 36, 37, 38, 45, 46, 47] V u.1 ∧ agL [35, 36, 37, 38, 45, 46, 47] L u.2 ∧ (0 ≤ r.toInt ∧ r.toInt ≤ 20000) ∧ (Imp ((u.1 0 8).toInt = 0) ((u.1 0 48).toInt - (V 0 48).toInt ≤ 2 * ((u.1 0 7).toInt - (V 0 7).toInt) + 1)) ∧ ((u.1 0 48).toInt ≤ 8060) ∧ ((V 0 48).toInt ≤ (u.1 0 48).toInt) ∧ (r.toInt = (V 0 49).toInt + (V 0 48).toInt) ∧ (RdM gT gs (fun k => Iexpr 0 :: k) (fun k => k) (u.1 0 8).toInt (fun s9 => RelM u.1 u.2 bq gn gT s9 gl ∧ keepS gs 1 s9))) (fun u t => gq D A (mw ad kk ks.1 u.1 u.2) (mty kk) t) A
set_option maxHeartbeats 4000000 in
set_option maxRecDepth 100000 in
theorem s_codeA (l : Launch) (D : va_G) (ks : KS) (sz : Nat) (ad : Nat → Nat) (kk : Nat → ClassId) (V : Vf) (L : Lf) (bq : Nat) (gn : Nat) (gT : Tk) (gs : St) (gl : List Int64) (hMV : rgd bM V) (rel : RelM V L bq gn gT gs gl) (c1 : (V 0 48).toInt ≤ 2 * (V 0 7).toInt) (em : EM V gs)  : Met l yX12_code (Cond.code yX12_code cX12_code 3 (some .int) :: GW) r_s_codeA (va_Pc [.ref (ad 0)] (gp D ks (mw ad kk ks.1 V L) (mty kk) sz)) (q_s_codeA D ks ad kk V L  bq gn gT gs gl (va_A (mw ad kk ks.1 V L) sz)) 0 0 (va_A (mw ad kk ks.1 V L) sz) := by
  refine g_met (q_s_codeA D ks ad kk V L  bq gn gT gs gl) (by decide) (Nat.le_of_ble_eq_true rfl) ?_
  intro p e s m below meth c A ls H locs hx hb hr hml hown hg hlocks hin hnw hgk hP hK hD hS hA hl
  have hown : s.vm.findClass RX12 = some m.cls := hown
  have hl : lv_has ls 3 [(0, .ref (ad 0))] := hl
  have hP : va_P D vwCl (mw ad kk ks.1 V L) H := hP
  have hD : va_D A (mw ad kk ks.1 V L) := hD
  have hK : va_K D vwCl (mty kk) s := hK
  have agV : agr [(0, 7), (0, 8), (0, 48), (0, 50)] [35, 36, 37, 38, 45, 46, 47] V V := agr.rf
  have alL : agL [35, 36, 37, 38, 45, 46, 47] L L := agL.rf
  have r1 : 0 ≤ ((V 0 48)).toInt ∧ ((V 0 48)).toInt ≤ 10000 := hMV 0 48
  have rg0 := RelM.rg rel
  have cl0 := RelM.cl rel
  have cq0 := RelM.cq rel
  refine lv_aload_n hx hb dX12_code_0 rfl (lv_at hl 0 rfl) ?_
  refine va_get (D := D) (ci := 12) (v := .int (V 0 49)) (C := RX12) (T := TX12) (N := 100) hx hb hg inX12 hown hK hP 0 rfl rfl 49 (by decide) (hg _ w1755) (fun _ h9 => h9) rfl dX12_code_1 ?_
  have r2 : 0 ≤ ((V 0 49)).toInt ∧ ((V 0 49)).toInt ≤ 10000 := hMV 0 49
  refine lv_aload_n hx hb dX12_code_4 rfl (lv_at hl 0 rfl) ?_
  refine va_get (D := D) (ci := 12) (v := .int (V 0 48)) (C := RX12) (T := TX12) (N := 100) hx hb hg inX12 hown hK hP 0 rfl rfl 48 (by decide) (hg _ w1754) (fun _ h9 => h9) rfl dX12_code_5 ?_
  refine lv_iadd hx hb dX12_code_8 ?_
  refine lv_topi (fun z3 ez3 => ?_)
  have hz3 : z3.toInt = ((V 0 49)).toInt + ((V 0 48)).toInt := i_add ez3 rfl rfl (by omega)
  refine lv_istore_n (lv' := [(1, .int z3), (0, .ref (ad 0))]) hx hb dX12_code_9 rfl hl (by decide) rfl (fun ls hl => ?_)
  refine lv_aload_n hx hb dX12_code_10 rfl (lv_at hl 1 rfl) ?_
  refine lv_iconst (v := 0) hx hb dX12_code_11 (by decide) ?_
  refine va_put (D := D) (ci := 12) (v := .int 0) (ty := tyX12 50) (C := RX12) (T := TX12) (N := 100) hx hb hg inX12 tyX12 tyX12_ok nmX12 hown hK hP hD hS 0 rfl rfl 50 (by decide) (hg _ w1756) (fun _ h9 => h9) rfl (tyX12_ok 50 (by decide)) rfl rfl (Nat.le_of_ble_eq_true rfl) dX12_code_12 (fun H locs hP hD hS => ?_)
  obtain ⟨V4, hV4⟩ : ∃ z, z = up2 V 0 50 0 := ⟨_, rfl⟩
  have hP : va_P D vwCl (mw ad kk ks.1 V4 L) H := by rw [hV4]; exact hP
  have hD : va_D A (mw ad kk ks.1 V4 L) := by rw [hV4]; exact hD
  have hMV4 : rgd bM V4 := hMV.put hV4 (by decide)
  have agV4 : agr [(0, 7), (0, 8), (0, 48), (0, 50)] [35, 36, 37, 38, 45, 46, 47] V V4 := agV.up hV4 rfl
  refine lv_aload_n hx hb dX12_code_15 rfl (lv_at hl 1 rfl) ?_
  have rl5 : RelM V4 L bq gn gT gs gl := RelM.ag rel (show agr [(0, 50)] [] V V4 from (agr.up agr.rf hV4 rfl)) (by decide) (show agL [] L L from agL.rf) (by decide)
  have hr6 : ∀ k, Rc gT (Crun gs (Iexpr 0 :: k)) (Crun gs (Iexpr 0 :: k)) := fun k => Rc.rf
  have pq7 : (V4 0 7).toInt = ((V 0 7)).toInt := congrArg Int32.toInt (up2_k hV4 (by decide))
  have pq8 : (V4 0 48).toInt = ((V 0 48)).toInt := congrArg Int32.toInt (up2_k hV4 (by decide))
  have pq9 : (V4 0 50).toInt = 0 := (congrArg Int32.toInt (up2_s hV4)).trans (by decide)
  refine gA_void (gA_runV (As := []) (rest := []) (ci := 12) (q0 := 0) hx hb hml hown hg hP hD hK hS hA hnw hgk (s_expressionA8 l D ks H.size ad kk V4 L (bq) (gn) (gT) (gs) (gl) hMV4 rl5 (show (V4 0 48).toInt ≤ 2 * (V4 0 7).toInt from by omega) (EM.mv em (up2_k hV4 (by decide)) (up2_k hV4 (by decide)) (by rw [(up2_fo hV4 (by decide) : V4 27 = V 27)] : V4 27 = V 27) (fun _ _ => rfl)) (show (V4 0 50).toInt = 0 from by omega)) w2116 w2118 w106 w172 w2119 rfl rfl hdV_yX12_expression ⟨Nat.le_of_ble_eq_true rfl, Nat.le_of_ble_eq_true rfl⟩ rfl hl.1 rfl (Nat.le_of_ble_eq_true rfl) dX12_code_16 ⟨Nat.le_of_ble_eq_true rfl, Nat.le_of_ble_eq_true rfl⟩) hP hD hK hS hA (fun u11 H locs w12 hP hD hK hS => ?_)
  obtain ⟨V18, L19⟩ := u11
  obtain ⟨hMV18, ajV18, axL19, t13, t14, t15, t16, t17⟩ := w12
  have alL19 : agL [35, 36, 37, 38, 45, 46, 47] L L19 := agL.tr alL axL19 (by decide)
  have hP : va_P D vwCl (mw ad kk ks.1 V18 L19) H := hP
  have hD : va_D A (mw ad kk ks.1 V18 L19) := hD
  have hMV18 : rgd bM V18 := hMV18
  have ajV18 : agr [(0, 7), (0, 8), (0, 48), (0, 50)] [35, 36, 37, 38, 45, 46, 47] V4 V18 := ajV18
  have agV18 : agr [(0, 7), (0, 8), (0, 48), (0, 50)] [35, 36, 37, 38, 45, 46, 47] V V18 := agV4.tr ajV18 (by decide) (by decide)
  have t13 : Imp ((V18 0 8).toInt = 0) ((V18 0 48).toInt - (V4 0 48).toInt ≤ 2 * ((V18 0 7).toInt - (V4 0 7).toInt)) := t13
  have t14 : (V18 0 48).toInt ≤ 8051 - 6 * (V4 0 50).toInt := t14
  have t15 : (V18 0 50).toInt = (V4 0 50).toInt := t15
  have t16 : (V4 0 48).toInt ≤ (V18 0 48).toInt := t16
  have t17 : RdM (gT) (gs) (fun k => Iexpr 0 :: k) (fun k => k) (V18 0 8).toInt (fun s9 => RelM V18 L19 (bq) (gn) (gT) s9 (gl) ∧ keepS (gs) 1 s9) := t17
  have r20 : 0 ≤ ((V18 0 48)).toInt ∧ ((V18 0 48)).toInt ≤ 10000 := hMV18 0 48
  have r21 : 0 ≤ ((V18 0 8)).toInt ∧ ((V18 0 8)).toInt ≤ 70000 := hMV18 0 8
  have r22 : 0 ≤ ((V18 0 50)).toInt ∧ ((V18 0 50)).toInt ≤ 9 := hMV18 0 50
  rcases t17 with ⟨q23, sx24, h25, rl26, kp27⟩ | ⟨q23, h25⟩
  · skip
    have hr28 : ∀ k, Rc gT (Crun gs (Iexpr 0 :: k)) (Crun sx24 (k)) := fun k => (hr6 k).tr (h25 (k))
    have fz29 := RelM.rg rl26
    have ps30 := (kp27).1
    refine lv_aload_n hx hb dX12_code_19 rfl (lv_at hl 1 rfl) ?_
    refine lv_iconst (v := 0) hx hb dX12_code_20 (by decide) ?_
    refine lv_iconst (v := 0) hx hb dX12_code_21 (by decide) ?_
    refine lv_iconst (v := 0) hx hb dX12_code_22 (by decide) ?_
    have r31 : Int32.toInt 0 = 0 := by decide
    refine gA_int (gA_runV (As := [.int 0, .int 0, .int 0]) (rest := []) (ci := 12) (q0 := 0) hx hb hml hown hg hP hD hK hS hA hnw hgk (s_emit3 l D ks H.size ad kk V18 L19 0 0 0 hMV18 (show (V18 0 48).toInt ≤ 9999 from by first | omega | ((try (have i_t13 := Imp.go t13 (by omega))); omega))) w2136 w2138 w111 w172 w2139 rfl rfl hdV_yX12_emit ⟨Nat.le_of_ble_eq_true rfl, Nat.le_of_ble_eq_true rfl⟩ rfl hl.1 rfl (Nat.le_of_ble_eq_true rfl) dX12_code_23 ⟨Nat.le_of_ble_eq_true rfl, Nat.le_of_ble_eq_true rfl⟩) hP hD hK hS hA (fun z32 u33 H locs w34 hP hD hK hS => ?_)
    obtain ⟨V38, L39⟩ := u33
    obtain ⟨hMV38, ajV38, axL39, rgz32, t35, t36, t37⟩ := w34
    have axL39 : L19 = L39 := Eq.symm axL39
    subst axL39
    have hP : va_P D vwCl (mw ad kk ks.1 V38 L19) H := hP
    have hD : va_D A (mw ad kk ks.1 V38 L19) := hD
    have hMV38 : rgd bM V38 := hMV38
    have ajV38 : agr [(0, 48)] [45, 46, 47] V18 V38 := ajV38
    have agV38 : agr [(0, 7), (0, 8), (0, 48), (0, 50)] [35, 36, 37, 38, 45, 46, 47] V V38 := agV18.tr ajV38 (by decide) (by decide)
    have rgz32 : 0 ≤ z32.toInt ∧ z32.toInt ≤ 20000 := rgz32
    have t35 : (V38 0 48).toInt = (V18 0 48).toInt + 1 := t35
    have t36 : z32.toInt = (V18 0 49).toInt + (V18 0 48).toInt := t36
    have t37 : emitted V18 V38 (pA V18) 0 0 0 := t37
    have r40 : 0 ≤ ((V38 0 48)).toInt ∧ ((V38 0 48)).toInt ≤ 10000 := hMV38 0 48
    have pq41 : (V18 0 49).toInt = ((V 0 49)).toInt := congrArg Int32.toInt ((ajV18 0 49 rfl).trans (up2_k hV4 (by decide)))
    refine lv_istore_n (lv' := [(2, .int z32), (1, .int z3), (0, .ref (ad 0))]) hx hb dX12_code_26 rfl hl (by decide) rfl (fun ls hl => ?_)
    refine lv_iload_n hx hb dX12_code_27 rfl (lv_at hl 1 rfl) ?_
    have pq42 : (V38 0 7).toInt = ((V18 0 7)).toInt := congrArg Int32.toInt (ajV38 0 7 rfl)
    have pq43 : (V38 0 8).toInt = ((V18 0 8)).toInt := congrArg Int32.toInt (ajV38 0 8 rfl)
    have pq44 : (V38 0 49).toInt = ((V 0 49)).toInt := congrArg Int32.toInt ((ajV38 0 49 rfl).trans ((ajV18 0 49 rfl).trans (up2_k hV4 (by decide))))
    have rl45 : RelM V38 L19 bq gn gT sx24 gl := RelM.ag rl26 (show agr [(0, 48)] [45, 46, 47] V18 V38 from (agr.tr agr.rf ajV38 (by decide) (by decide))) (by decide) (show agL [] L19 L19 from agL.rf) (by decide)
    exact W.iret (v := z3) hx hb hr (fun t ht hW => ⟨⟨z3, (V38, L19), rfl, ⟨hMV38, agV38, alL19, (show 0 ≤ z3.toInt ∧ z3.toInt ≤ 20000 from by first | omega | ((try (have i_t13 := Imp.go t13 (by omega))); omega)), (Imp.mk (fun hp => have hp : (V38 0 8).toInt = 0 := hp; (show (V38 0 48).toInt - (V 0 48).toInt ≤ 2 * ((V38 0 7).toInt - (V 0 7).toInt) + 1 from by first | omega | ((try (have i_t13 := Imp.go t13 (by omega))); omega)))), (show (V38 0 48).toInt ≤ 8060 from by first | omega | ((try (have i_t13 := Imp.go t13 (by omega))); omega)), (show (V 0 48).toInt ≤ (V38 0 48).toInt from by first | omega | ((try (have i_t13 := Imp.go t13 (by omega))); omega)), (show z3.toInt = (V 0 49).toInt + (V 0 48).toInt from by first | omega | ((try (have i_t13 := Imp.go t13 (by omega))); omega)), (Or.inl ⟨W0 rl45, sx24, hr28, rl45, keepS.le (keepS.tr (keepS.rf : keepS gs 0 gs) kp27) (by decide)⟩)⟩, by rw [ht]; exact hP, va_K.moved hW.alike hK, hD⟩, hS.F ht⟩) hS.2.2 dX12_code_28
  · skip
    have hb46 : ∀ k, Rc gT (Crun gs (Iexpr 0 :: k)) (Cbad (V18 0 8).toInt) := fun k => (hr6 k).tr (h25 (k))
    refine lv_aload_n hx hb dX12_code_19 rfl (lv_at hl 1 rfl) ?_
    refine lv_iconst (v := 0) hx hb dX12_code_20 (by decide) ?_
    refine lv_iconst (v := 0) hx hb dX12_code_21 (by decide) ?_
    refine lv_iconst (v := 0) hx hb dX12_code_22 (by decide) ?_
    have r47 : Int32.toInt 0 = 0 := by decide
    refine gA_int (gA_runV (As := [.int 0, .int 0, .int 0]) (rest := []) (ci := 12) (q0 := 0) hx hb hml hown hg hP hD hK hS hA hnw hgk (s_emit3 l D ks H.size ad kk V18 L19 0 0 0 hMV18 (show (V18 0 48).toInt ≤ 9999 from by first | omega | ((try (have i_t13 := Imp.go t13 (by omega))); omega))) w2136 w2138 w111 w172 w2139 rfl rfl hdV_yX12_emit ⟨Nat.le_of_ble_eq_true rfl, Nat.le_of_ble_eq_true rfl⟩ rfl hl.1 rfl (Nat.le_of_ble_eq_true rfl) dX12_code_23 ⟨Nat.le_of_ble_eq_true rfl, Nat.le_of_ble_eq_true rfl⟩) hP hD hK hS hA (fun z48 u49 H locs w50 hP hD hK hS => ?_)
    obtain ⟨V54, L55⟩ := u49
    obtain ⟨hMV54, ajV54, axL55, rgz48, t51, t52, t53⟩ := w50
    have axL55 : L19 = L55 := Eq.symm axL55
    subst axL55
    have hP : va_P D vwCl (mw ad kk ks.1 V54 L19) H := hP
    have hD : va_D A (mw ad kk ks.1 V54 L19) := hD
    have hMV54 : rgd bM V54 := hMV54
    have ajV54 : agr [(0, 48)] [45, 46, 47] V18 V54 := ajV54
    have agV54 : agr [(0, 7), (0, 8), (0, 48), (0, 50)] [35, 36, 37, 38, 45, 46, 47] V V54 := agV18.tr ajV54 (by decide) (by decide)
    have rgz48 : 0 ≤ z48.toInt ∧ z48.toInt ≤ 20000 := rgz48
    have t51 : (V54 0 48).toInt = (V18 0 48).toInt + 1 := t51
    have t52 : z48.toInt = (V18 0 49).toInt + (V18 0 48).toInt := t52
    have t53 : emitted V18 V54 (pA V18) 0 0 0 := t53
    have r56 : 0 ≤ ((V54 0 48)).toInt ∧ ((V54 0 48)).toInt ≤ 10000 := hMV54 0 48
    have pq57 : (V18 0 49).toInt = ((V 0 49)).toInt := congrArg Int32.toInt ((ajV18 0 49 rfl).trans (up2_k hV4 (by decide)))
    refine lv_istore_n (lv' := [(2, .int z48), (1, .int z3), (0, .ref (ad 0))]) hx hb dX12_code_26 rfl hl (by decide) rfl (fun ls hl => ?_)
    refine lv_iload_n hx hb dX12_code_27 rfl (lv_at hl 1 rfl) ?_
    have pq58 : (V54 0 7).toInt = ((V18 0 7)).toInt := congrArg Int32.toInt (ajV54 0 7 rfl)
    have pq59 : (V54 0 8).toInt = ((V18 0 8)).toInt := congrArg Int32.toInt (ajV54 0 8 rfl)
    have pq60 : (V54 0 49).toInt = ((V 0 49)).toInt := congrArg Int32.toInt ((ajV54 0 49 rfl).trans ((ajV18 0 49 rfl).trans (up2_k hV4 (by decide))))
    exact W.iret (v := z3) hx hb hr (fun t ht hW => ⟨⟨z3, (V54, L19), rfl, ⟨hMV54, agV54, alL19, (show 0 ≤ z3.toInt ∧ z3.toInt ≤ 20000 from by first | omega | ((try (have i_t13 := Imp.go t13 (by omega))); omega)), (Imp.mk (fun hp => have hp : (V54 0 8).toInt = 0 := hp; (show (V54 0 48).toInt - (V 0 48).toInt ≤ 2 * ((V54 0 7).toInt - (V 0 7).toInt) + 1 from by first | omega | ((try (have i_t13 := Imp.go t13 (by omega))); omega)))), (show (V54 0 48).toInt ≤ 8060 from by first | omega | ((try (have i_t13 := Imp.go t13 (by omega))); omega)), (show (V 0 48).toInt ≤ (V54 0 48).toInt from by first | omega | ((try (have i_t13 := Imp.go t13 (by omega))); omega)), (show z3.toInt = (V 0 49).toInt + (V 0 48).toInt from by first | omega | ((try (have i_t13 := Imp.go t13 (by omega))); omega)), (Or.inr ⟨(show 1 ≤ (V54 0 8).toInt from by omega), (fun k => by rw [show (V54 0 8).toInt = (V18 0 8).toInt from by omega]; exact hb46 k)⟩)⟩, by rw [ht]; exact hP, va_K.moved hW.alike hK, hD⟩, hS.F ht⟩) hS.2.2 dX12_code_28
abbrev r_s_toldTypeA : Room := { frames := 4, cells := 0, slots := 0, locals := 97 }
abbrev q_s_toldTypeA (D : va_G) (ks : KS) (ad : Nat → Nat) (kk : Nat → ClassId) (V : Vf) (L : Lf) (bq : Nat) (gn : Nat) (gT : Tk) (gs : St) (A : Nat → Prop) : Array Value → State → Outcome → State → Prop := va_Qv (fun (u : Vf × Lf) => rgd bM u.1 ∧ agr [(0, 7), (0, 8)] [13, 14, 15, 21, 53] V u.1 ∧ agL [13, 14, 15, 21, 53] L u.2 ∧ (Imp ((u.1 0 8).toInt = 0) ((u.1 0 48).toInt ≤ 2 * (u.1 0 7).toInt)) ∧ ((u.1 0 48).toInt ≤ 8200) ∧ ((u.1 0 12).toInt = (V 0 12).toInt) ∧ (RdM gT gs (fun k => Istmt :: k) (fun k => Istmt :: k) (u.1 0 8).toInt (fun s9 => RelM u.1 u.2 bq gn gT s9 (s9.2.1 2) ∧ gs.1 0 + 1 ≤ s9.1 0 ∧ ARm s9))) (fun u t => gq D A (mw ad kk ks.1 u.1 u.2) (mty kk) t) A
set_option maxHeartbeats 4000000 in
set_option maxRecDepth 100000 in
theorem s_toldTypeA (l : Launch) (D : va_G) (ks : KS) (sz : Nat) (ad : Nat → Nat) (kk : Nat → ClassId) (V : Vf) (L : Lf) (bq : Nat) (gn : Nat) (gT : Tk) (gs : St) (hMV : rgd bM V) (rel : RelM V L bq gn gT gs (gs.2.1 2)) (kd9 : gT.1 (gs.1 0) = 128) (cc : (V 0 48).toInt ≤ 2 * (V 0 7).toInt) (arm : ARm gs)  : Met l yX12_toldType (Cond.code yX12_toldType cX12_toldType 5 none :: GW) r_s_toldTypeA (va_Pc [.ref (ad 0)] (gp D ks (mw ad kk ks.1 V L) (mty kk) sz)) (q_s_toldTypeA D ks ad kk V L  bq gn gT gs (va_A (mw ad kk ks.1 V L) sz)) 0 0 (va_A (mw ad kk ks.1 V L) sz) := by
  refine g_met (q_s_toldTypeA D ks ad kk V L  bq gn gT gs) (by decide) (Nat.le_of_ble_eq_true rfl) ?_
  intro p e s m below meth c A ls H locs hx hb hr hml hown hg hlocks hin hnw hgk hP hK hD hS hA hl
  have hown : s.vm.findClass RX12 = some m.cls := hown
  have hl : lv_has ls 5 [(0, .ref (ad 0))] := hl
  have hP : va_P D vwCl (mw ad kk ks.1 V L) H := hP
  have hD : va_D A (mw ad kk ks.1 V L) := hD
  have hK : va_K D vwCl (mty kk) s := hK
  have agV : agr [(0, 7), (0, 8)] [13, 14, 15, 21, 53] V V := agr.rf
  have alL : agL [13, 14, 15, 21, 53] L L := agL.rf
  have r1 : 0 ≤ ((V 0 48)).toInt ∧ ((V 0 48)).toInt ≤ 10000 := hMV 0 48
  have rg0 := RelM.rg rel
  have cl0 := RelM.cl rel
  have cq0 := RelM.cq rel
  have ln0 := RelM.len rel
  have q13 : (V 13 (Int32.toNatClampNeg (V 0 12))).toInt = (V 13 bq).toInt := by rw [cq0]
  have q16 : (V 16 (Int32.toNatClampNeg (V 0 12))).toInt = (V 16 bq).toInt := by rw [cq0]
  have q19 : (V 19 (Int32.toNatClampNeg (V 0 12))).toInt = (V 19 bq).toInt := by rw [cq0]
  have q39 : (V 39 (Int32.toNatClampNeg (V 0 12))).toInt = (V 39 bq).toInt := by rw [cq0]
  refine lv_bipush (v := 24) hx hb dX12_toldType_0 (by decide) ?_
  refine lv_aload_n hx hb dX12_toldType_2 rfl (lv_at hl 0 rfl) ?_
  refine va_get (D := D) (ci := 12) (v := .int (V 0 12)) (C := RX12) (T := TX12) (N := 100) hx hb hg inX12 hown hK hP 0 rfl rfl 12 (by decide) (hg _ w1718) (fun _ h9 => h9) rfl dX12_toldType_3 ?_
  have r2 : 0 ≤ ((V 0 12)).toInt ∧ ((V 0 12)).toInt ≤ 1 := hMV 0 12
  refine lv_imul hx hb dX12_toldType_6 ?_
  refine lv_topi (fun z3 ez3 => ?_)
  have hz3 : z3.toInt = 24 * ((V 0 12)).toInt := i_mul ez3 (by decide) rfl (by omega)
  refine lv_aload_n hx hb dX12_toldType_7 rfl (lv_at hl 0 rfl) ?_
  refine va_get (D := D) (ci := 12) (v := .ref (ad 13)) (C := RX12) (T := TX12) (N := 100) hx hb hg inX12 hown hK hP 0 rfl rfl 13 (by decide) (hg _ w1719) (fun _ h9 => h9) rfl dX12_toldType_8 ?_
  refine lv_aload_n hx hb dX12_toldType_11 rfl (lv_at hl 0 rfl) ?_
  refine va_get (D := D) (ci := 12) (v := .int (V 0 12)) (C := RX12) (T := TX12) (N := 100) hx hb hg inX12 hown hK hP 0 rfl rfl 12 (by decide) (hg _ w1718) (fun _ h9 => h9) rfl dX12_toldType_12 ?_
  refine va_iald (D := D) (i := (V 0 12)) hx hb hK hP 6 5 rfl rfl (i_in (a := ((V 0 12)).toInt) rfl (by omega)) dX12_toldType_15 ?_
  have r4 : 0 ≤ ((V 13 (Int32.toNatClampNeg (V 0 12)))).toInt ∧ ((V 13 (Int32.toNatClampNeg (V 0 12)))).toInt ≤ 24 := hMV 13 (Int32.toNatClampNeg (V 0 12))
  refine lv_iadd hx hb dX12_toldType_16 ?_
  refine lv_topi (fun z5 ez5 => ?_)
  have hz5 : z5.toInt = z3.toInt + ((V 13 (Int32.toNatClampNeg (V 0 12)))).toInt := i_add ez5 rfl rfl (by omega)
  refine lv_istore_n (lv' := [(1, .int z5), (0, .ref (ad 0))]) hx hb dX12_toldType_17 rfl hl (by decide) rfl (fun ls hl => ?_)
  refine lv_aload_n hx hb dX12_toldType_18 rfl (lv_at hl 1 rfl) ?_
  refine lv_aload_n hx hb dX12_toldType_19 rfl (lv_at hl 1 rfl) ?_
  refine va_get (D := D) (ci := 12) (v := .ref (ad 13)) (C := RX12) (T := TX12) (N := 100) hx hb hg inX12 hown hK hP 0 rfl rfl 13 (by decide) (hg _ w1719) (fun _ h9 => h9) rfl dX12_toldType_20 ?_
  refine lv_aload_n hx hb dX12_toldType_23 rfl (lv_at hl 1 rfl) ?_
  refine va_get (D := D) (ci := 12) (v := .int (V 0 12)) (C := RX12) (T := TX12) (N := 100) hx hb hg inX12 hown hK hP 0 rfl rfl 12 (by decide) (hg _ w1718) (fun _ h9 => h9) rfl dX12_toldType_24 ?_
  refine va_iald (D := D) (i := (V 0 12)) hx hb hK hP 6 5 rfl rfl (i_in (a := ((V 0 12)).toInt) rfl (by omega)) dX12_toldType_27 ?_
  refine lv_bipush (v := 24) hx hb dX12_toldType_28 (by decide) ?_
  refine lv_icmp_ne (tgt := 37) hx hb dX12_toldType_30 (by decide) (fun c6 => ?_) (fun c6 => ?_)
  · skip
    have f7 : ((V 13 (Int32.toNatClampNeg (V 0 12)))).toInt ≠ 24 := b_neq rfl (by decide) c6
    refine lv_iconst (v := 0) hx hb dX12_toldType_37 (by decide) ?_
    have r8 : Int32.toInt 0 = 0 := by decide
    refine gA_void (gA_runV (As := [.int 0]) (rest := []) (ci := 12) (q0 := 0) hx hb hml hown hg hP hD hK hS hA hnw hgk (s_beginsA l D ks H.size ad kk V L 0 (bq) (gn) (gT) (gs) ((gs.2.1 2)) hMV (by decide) rel (by rw [kd9]; decide)) w2031 w2033 w85 w172 w2034 rfl rfl hdV_yX12_begins ⟨Nat.le_of_ble_eq_true rfl, Nat.le_of_ble_eq_true rfl⟩ rfl hl.1 rfl (Nat.le_of_ble_eq_true rfl) dX12_toldType_38 ⟨Nat.le_of_ble_eq_true rfl, Nat.le_of_ble_eq_true rfl⟩) hP hD hK hS hA (fun u10 H locs w11 hP hD hK hS => ?_)
    obtain ⟨V13, L14⟩ := u10
    obtain ⟨hMV13, ajV13, axL14, t12⟩ := w11
    have axL14 : L = L14 := Eq.symm axL14
    subst axL14
    have hP : va_P D vwCl (mw ad kk ks.1 V13 L) H := hP
    have hD : va_D A (mw ad kk ks.1 V13 L) := hD
    have hMV13 : rgd bM V13 := hMV13
    have ajV13 : agr [(0, 7), (0, 8)] [] V V13 := ajV13
    have agV13 : agr [(0, 7), (0, 8)] [13, 14, 15, 21, 53] V V13 := agV.tr ajV13 (by decide) (by decide)
    have t12 : ((Int32.toInt 0) = 0 ∧ (V13 0 8).toInt = 0 ∧ RelM V13 L (bq) (gn) (gT) (nx (gs) 1) ((gs.2.1 2))) ∨ ((Int32.toInt 0) = 1 ∧ 1 ≤ (V13 0 8).toInt ∧ (V13 0 8).toInt = 5 + 16 * (gT).2.2 ((gs).1 0)) := t12
    rcases t12 with ⟨q15, f16, rl17⟩ | ⟨q15, f16, rl17⟩
    · skip
      have hr18 : ∀ k, Rc gT (Crun gs (Istmt :: k)) (Crun gs (Istmt :: k)) := fun k => Rc.rf
      have hr19 : ∀ k, Rc gT (Crun gs (Istmt :: k)) (Crun (nx gs 1) (InewType :: k)) := fun k => Rc.go1 (hr18 k) (st_128 kd9 (by omega))
      have ps20 : (nx gs 1).1 0 = gs.1 0 + 1 := rfl
      have fz21 := RelM.rg rl17
      have r22 : 0 ≤ ((V13 0 8)).toInt ∧ ((V13 0 8)).toInt ≤ 70000 := hMV13 0 8
      refine lv_aload_n hx hb dX12_toldType_41 rfl (lv_at hl 1 rfl) ?_
      refine va_get (D := D) (ci := 12) (v := .int (V13 0 8)) (C := RX12) (T := TX12) (N := 100) hx hb hg inX12 hown hK hP 0 rfl rfl 8 (by decide) (hg _ w1714) (fun _ h9 => h9) rfl dX12_toldType_42 ?_
      refine lv_if_le (tgt := 49) hx hb dX12_toldType_45 (by decide) (fun c23 => ?_) (fun c23 => ?_)
      · skip
        have f24 : ((V13 0 8)).toInt ≤ 0 := b_le rfl (by decide) c23
        refine lv_aload_n hx hb dX12_toldType_49 rfl (lv_at hl 1 rfl) ?_
        refine gA_long (gA_runV (As := []) (rest := []) (ci := 12) (q0 := 0) hx hb hml hown hg hP hD hK hS hA hnw hgk (s_newNameA l D ks H.size ad kk V13 L (bq) (gn) (gT) ((nx gs 1)) hMV13 rl17) w2039 w2041 w87 w172 w2042 rfl rfl hdV_yX12_newName ⟨Nat.le_of_ble_eq_true rfl, Nat.le_of_ble_eq_true rfl⟩ rfl hl.1 rfl (Nat.le_of_ble_eq_true rfl) dX12_toldType_50 ⟨Nat.le_of_ble_eq_true rfl, Nat.le_of_ble_eq_true rfl⟩) hP hD hK hS hA (fun z25 u26 H locs w27 hP hD hK hS => ?_)
        obtain ⟨V29, L30⟩ := u26
        obtain ⟨hMV29, ajV29, axL30, t28⟩ := w27
        have axL30 : L = L30 := Eq.symm axL30
        subst axL30
        have hP : va_P D vwCl (mw ad kk ks.1 V29 L) H := hP
        have hD : va_D A (mw ad kk ks.1 V29 L) := hD
        have hMV29 : rgd bM V29 := hMV29
        have ajV29 : agr [(0, 7), (0, 8)] [] V13 V29 := ajV29
        have agV29 : agr [(0, 7), (0, 8)] [13, 14, 15, 21, 53] V V29 := agV13.tr ajV29 (by decide) (by decide)
        have t28 : KmW (newN (gT) ((nx gs 1))) (V29 0 8).toInt (fun w9 => RelM V29 L (bq) (gn) (gT) (nx ((nx gs 1)) 1) (((nx gs 1)).2.1 2) ∧ isTold ((nx gs 1)) w9 = false ∧ z25 = w9) := t28
        rcases t28 with ⟨q31, wx32, h33, rl34, tn35, hw36⟩ | ⟨q31, h33⟩
        · skip
          have hr37 : ∀ k, Rc gT (Crun gs (Istmt :: k)) (Crun (nx (nx gs 1) 1) (Ilike wx32 :: k)) := fun k => Rc.go1 (hr19 k) (nt_y h33)
          have ps38 : (nx (nx gs 1) 1).1 0 = (nx gs 1).1 0 + 1 := rfl
          have fz39 := RelM.rg rl34
          have r40 : 0 ≤ ((V29 0 8)).toInt ∧ ((V29 0 8)).toInt ≤ 70000 := hMV29 0 8
          refine lv_lstore_n (lv' := [(2, .long z25), (1, .int z5), (0, .ref (ad 0))]) hx hb dX12_toldType_53 rfl hl (by decide) rfl (fun ls hl => ?_)
          refine lv_iconst (v := 0) hx hb dX12_toldType_54 (by decide) ?_
          refine lv_istore (lv' := [(4, .int 0), (2, .long z25), (1, .int z5), (0, .ref (ad 0))]) hx hb dX12_toldType_55 hl (by decide) rfl (fun ls hl => ?_)
          have lp43 : ∀ (fulp43 : Nat) (y41 : Int32) (V42 : Vf) (H : Heap) (locs : List Loc) (ls : Array Slot), 0 ≤ y41.toInt ∧ y41.toInt ≤ 24 → 24 - y41.toInt < (fulp43 : Int) → agr [] [15] V29 V42 → rgd bM V42 → va_P D vwCl (mw ad kk ks.1 V42 L) H → va_D A (mw ad kk ks.1 V42 L) → va_S A s.heap H locs → lv_has ls 5 [(4, .int y41), (2, .long z25), (1, .int z5), (0, .ref (ad 0))] → W p l e r_s_toldTypeA s m ([.ref (ad 0)] : List Value).toArray below meth c H locs 0 0 (MQ below (q_s_toldTypeA D ks ad kk V L  bq gn gT gs A) ([.ref (ad 0)] : List Value).toArray s 0 0 A) (F0 m 57 ls []) := by
            intro fulp43
            induction fulp43 with
            | zero =>
              intro y41 V42 H locs ls klp43_0 hn ajV42 hMV42 hP hD hS hl
              exfalso; omega
            | succ fulp43 ihlp43 =>
              intro y41 V42 H locs ls klp43_0 hn ajV42 hMV42 hP hD hS hl
              have agV42 : agr [(0, 7), (0, 8)] [13, 14, 15, 21, 53] V V42 := agV29.tr ajV42 (by decide) (by decide)
              refine lv_iload hx hb dX12_toldType_57 (lv_at hl 0 rfl) ?_
              refine lv_bipush (v := 24) hx hb dX12_toldType_59 (by decide) ?_
              refine lv_icmp_ge (tgt := 101) hx hb dX12_toldType_61 (by decide) (fun c44 => ?_) (fun c44 => ?_)
              · skip
                have f45 : 24 ≤ y41.toInt := b_le (by decide) rfl c44
                refine lv_aload_n hx hb dX12_toldType_101 rfl (lv_at hl 3 rfl) ?_
                refine lv_iconst (v := 1) hx hb dX12_toldType_102 (by decide) ?_
                have rl46 : RelM V42 L bq gn gT (nx (nx gs 1) 1) (gs.2.1 2) := RelM.ag rl34 (show agr [] [15] V29 V42 from (agr.tr agr.rf ajV42 (by decide) (by decide))) (by decide) (show agL [] L L from agL.rf) (by decide)
                have r47 : Int32.toInt 1 = 1 := by decide
                refine gA_int (gA_runV (As := [.int 1]) (rest := []) (ci := 12) (q0 := 0) hx hb hml hown hg hP hD hK hS hA hnw hgk (s_hasWordA l D ks H.size ad kk V42 L 1 (bq) (gn) (gT) ((nx (nx gs 1) 1)) ((gs.2.1 2)) hMV42 (by decide) rl46) w2051 w2053 w90 w172 w2054 rfl rfl hdV_yX12_hasWord ⟨Nat.le_of_ble_eq_true rfl, Nat.le_of_ble_eq_true rfl⟩ rfl hl.1 rfl (Nat.le_of_ble_eq_true rfl) dX12_toldType_103 ⟨Nat.le_of_ble_eq_true rfl, Nat.le_of_ble_eq_true rfl⟩) hP hD hK hS hA (fun z48 u49 H locs w50 hP hD hK hS => ?_)
                obtain ⟨V52, L53⟩ := u49
                obtain ⟨hMV52, ajV52, axL53, rgz48, t51⟩ := w50
                have axL53 : L = L53 := Eq.symm axL53
                subst axL53
                have hP : va_P D vwCl (mw ad kk ks.1 V52 L) H := hP
                have hD : va_D A (mw ad kk ks.1 V52 L) := hD
                have hMV52 : rgd bM V52 := hMV52
                have ajV52 : agr [(0, 7)] [] V42 V52 := ajV52
                have agV52 : agr [(0, 7), (0, 8)] [13, 14, 15, 21, 53] V V52 := agV42.tr ajV52 (by decide) (by decide)
                have rgz48 : 0 ≤ z48.toInt ∧ z48.toInt ≤ 1 := rgz48
                have t51 : (z48.toInt = 1 ∧ (gT).1 (((nx (nx gs 1) 1)).1 0) = 128 + (Int32.toInt 1) ∧ RelM V52 L (bq) (gn) (gT) (nx ((nx (nx gs 1) 1)) 1) ((gs.2.1 2))) ∨ (z48.toInt = 0 ∧ (gT).1 (((nx (nx gs 1) 1)).1 0) ≠ 128 + (Int32.toInt 1) ∧ RelM V52 L (bq) (gn) (gT) ((nx (nx gs 1) 1)) ((gs.2.1 2))) := t51
                rcases t51 with ⟨q54, h55, rl56⟩ | ⟨q54, h55, rl56⟩
                · skip
                  have kd57 : gT.1 ((nx (nx gs 1) 1).1 0) = 129 := h55.trans (by decide)
                  have hr58 : ∀ k, Rc gT (Crun gs (Istmt :: k)) (Crun (nx (nx (nx gs 1) 1) 1) (Itypes 0 [] :: Itake 59 :: IaddTy wx32 :: Istmt :: k)) := fun k => Rc.go1 (hr37 k) (like_y wx32 kd57)
                  have ps59 : (nx (nx (nx gs 1) 1) 1).1 0 = (nx (nx gs 1) 1).1 0 + 1 := rfl
                  have fz60 := RelM.rg rl56
                  have pq61 : (V52 0 8).toInt = ((V29 0 8)).toInt := congrArg Int32.toInt ((ajV52 0 8 rfl).trans (ajV42 0 8 rfl))
                  refine lv_if_eq (tgt := 118) hx hb dX12_toldType_106 (by decide) (fun c62 => ?_) (fun c62 => ?_)
                  · skip
                    have f63 : z48.toInt = 0 := b_eq rfl (by decide) c62
                    exfalso; omega
                  · skip
                    have f64 : z48.toInt ≠ 0 := b_neq rfl (by decide) c62
                    refine lv_aload_n hx hb dX12_toldType_109 rfl (lv_at hl 3 rfl) ?_
                    refine lv_aload_n hx hb dX12_toldType_110 rfl (lv_at hl 3 rfl) ?_
                    refine va_get (D := D) (ci := 12) (v := .ref (ad 15)) (C := RX12) (T := TX12) (N := 100) hx hb hg inX12 hown hK hP 0 rfl rfl 15 (by decide) (hg _ w1721) (fun _ h9 => h9) rfl dX12_toldType_111 ?_
                    refine lv_iload_n hx hb dX12_toldType_114 rfl (lv_at hl 2 rfl) ?_
                    refine gA_void (gA_runV (As := [.ref (ad 15), .int z5]) (rest := []) (ci := 12) (q0 := 0) hx hb hml hown hg hP hD hK hS hA hnw hgk (s_takeTypesA15 l D ks H.size ad kk V52 L z5 (bq) (gn) (gT) ((nx (nx (nx gs 1) 1) 1)) ((gs.2.1 2)) hMV52 (by omega) rl56) w2055 w2057 w91 w172 w2058 rfl rfl hdV_yX12_takeTypes ⟨Nat.le_of_ble_eq_true rfl, Nat.le_of_ble_eq_true rfl⟩ rfl hl.1 rfl (Nat.le_of_ble_eq_true rfl) dX12_toldType_115 ⟨Nat.le_of_ble_eq_true rfl, Nat.le_of_ble_eq_true rfl⟩) hP hD hK hS hA (fun u66 H locs w67 hP hD hK hS => ?_)
                    obtain ⟨V69, L70⟩ := u66
                    obtain ⟨hMV69, ajV69, axL70, t68⟩ := w67
                    have axL70 : L = L70 := Eq.symm axL70
                    subst axL70
                    have hP : va_P D vwCl (mw ad kk ks.1 V69 L) H := hP
                    have hD : va_D A (mw ad kk ks.1 V69 L) := hD
                    have hMV69 : rgd bM V69 := hMV69
                    have ajV69 : agr [(0, 7), (0, 8)] [15, 21, 53] V52 V69 := ajV69
                    have agV69 : agr [(0, 7), (0, 8)] [13, 14, 15, 21, 53] V V69 := agV52.tr ajV69 (by decide) (by decide)
                    have t68 : RdM (gT) ((nx (nx (nx gs 1) 1) 1)) (fun k => Itypes 0 [] :: k) (fun k => k) (V69 0 8).toInt (fun s9 => RelM V69 L (bq) (gn) (gT) s9 ((gs.2.1 2)) ∧ keepS ((nx (nx (nx gs 1) 1) 1)) 1 s9) := t68
                    rcases t68 with ⟨q71, sx72, h73, rl74, kp75⟩ | ⟨q71, h73⟩
                    · skip
                      have hr76 : ∀ k, Rc gT (Crun gs (Istmt :: k)) (Crun sx72 (Itake 59 :: IaddTy wx32 :: Istmt :: k)) := fun k => (hr58 k).tr (h73 (Itake 59 :: IaddTy wx32 :: Istmt :: k))
                      have fz77 := RelM.rg rl74
                      have r78 : 0 ≤ ((V69 0 8)).toInt ∧ ((V69 0 8)).toInt ≤ 70000 := hMV69 0 8
                      have ps79 := (kp75).1
                      refine lv_aload_n hx hb dX12_toldType_118 rfl (lv_at hl 3 rfl) ?_
                      refine lv_bipush (v := 59) hx hb dX12_toldType_119 (by decide) ?_
                      have r80 : Int32.toInt 59 = 59 := by decide
                      refine gA_void (gA_runV (As := [.int 59]) (rest := []) (ci := 12) (q0 := 0) hx hb hml hown hg hP hD hK hS hA hnw hgk (s_takeSignA l D ks H.size ad kk V69 L 59 (bq) (gn) (gT) (sx72) ((gs.2.1 2)) hMV69 rl74 (sg_yes (j := 59) (by decide) (by decide) (by decide))) w2075 w2077 w96 w172 w2078 rfl rfl hdV_yX12_takeSign ⟨Nat.le_of_ble_eq_true rfl, Nat.le_of_ble_eq_true rfl⟩ rfl hl.1 rfl (Nat.le_of_ble_eq_true rfl) dX12_toldType_121 ⟨Nat.le_of_ble_eq_true rfl, Nat.le_of_ble_eq_true rfl⟩) hP hD hK hS hA (fun u82 H locs w83 hP hD hK hS => ?_)
                      obtain ⟨V85, L86⟩ := u82
                      obtain ⟨hMV85, ajV85, axL86, t84⟩ := w83
                      have axL86 : L = L86 := Eq.symm axL86
                      subst axL86
                      have hP : va_P D vwCl (mw ad kk ks.1 V85 L) H := hP
                      have hD : va_D A (mw ad kk ks.1 V85 L) := hD
                      have hMV85 : rgd bM V85 := hMV85
                      have ajV85 : agr [(0, 7), (0, 8)] [] V69 V85 := ajV85
                      have agV85 : agr [(0, 7), (0, 8)] [13, 14, 15, 21, 53] V V85 := agV69.tr ajV85 (by decide) (by decide)
                      have t84 : ((V85 0 8).toInt = 0 ∧ (gT).1 ((sx72).1 0) = (Int32.toInt 59) ∧ RelM V85 L (bq) (gn) (gT) (nx (sx72) 1) ((gs.2.1 2))) ∨ (1 ≤ (V85 0 8).toInt ∧ (gT).1 ((sx72).1 0) ≠ (Int32.toInt 59) ∧ (V85 0 8).toInt = 1 + 16 * (gT).2.2 ((sx72).1 0)) := t84
                      rcases t84 with ⟨q87, h88, rl89⟩ | ⟨q87, h88, rl89⟩
                      · skip
                        have kd90 : gT.1 (sx72.1 0) = 59 := h88.trans (by decide)
                        have hr91 : ∀ k, Rc gT (Crun gs (Istmt :: k)) (Crun (nx sx72 1) (IaddTy wx32 :: Istmt :: k)) := fun k => Rc.go1 (hr76 k) (tk_y kd90)
                        have ps92 : (nx sx72 1).1 0 = sx72.1 0 + 1 := rfl
                        have fz93 := RelM.rg rl89
                        have r94 : 0 ≤ ((V85 0 8)).toInt ∧ ((V85 0 8)).toInt ≤ 70000 := hMV85 0 8
                        refine lv_aload_n hx hb dX12_toldType_124 rfl (lv_at hl 3 rfl) ?_
                        refine va_get (D := D) (ci := 12) (v := .ref (ad 14)) (C := RX12) (T := TX12) (N := 100) hx hb hg inX12 hown hK hP 0 rfl rfl 14 (by decide) (hg _ w1720) (fun _ h9 => h9) rfl dX12_toldType_125 ?_
                        refine lv_iload_n hx hb dX12_toldType_128 rfl (lv_at hl 2 rfl) ?_
                        refine lv_lload_n hx hb dX12_toldType_129 rfl (lv_at hl 1 rfl) ?_
                        refine va_last (D := D) (i := z5) (x := z25) hx hb hK hP hD hS 7 6 rfl rfl (i_in (a := z5.toInt) rfl (by omega)) dX12_toldType_130 (fun H locs hP hD hS => ?_)
                        obtain ⟨L95, hL95⟩ : ∃ z, z = upL L 14 (Int32.toNatClampNeg z5) z25 := ⟨_, rfl⟩
                        have hP : va_P D vwCl (mw ad kk ks.1 V85 L95) H := by rw [hL95]; exact hP
                        have hD : va_D A (mw ad kk ks.1 V85 L95) := by rw [hL95]; exact hD
                        have alL95 : agL [13, 14, 15, 21, 53] L L95 := agL.up alL hL95 rfl
                        refine lv_aload_n hx hb dX12_toldType_131 rfl (lv_at hl 3 rfl) ?_
                        refine va_get (D := D) (ci := 12) (v := .ref (ad 13)) (C := RX12) (T := TX12) (N := 100) hx hb hg inX12 hown hK hP 0 rfl rfl 13 (by decide) (hg _ w1719) (fun _ h9 => h9) rfl dX12_toldType_132 ?_
                        refine lv_aload_n hx hb dX12_toldType_135 rfl (lv_at hl 3 rfl) ?_
                        refine va_get (D := D) (ci := 12) (v := .int (V85 0 12)) (C := RX12) (T := TX12) (N := 100) hx hb hg inX12 hown hK hP 0 rfl rfl 12 (by decide) (hg _ w1718) (fun _ h9 => h9) rfl dX12_toldType_136 ?_
                        refine g_top (v := (V 0 12)) ((ajV85 0 12 rfl).trans ((ajV69 0 12 rfl).trans ((ajV52 0 12 rfl).trans ((ajV42 0 12 rfl).trans ((ajV29 0 12 rfl).trans (ajV13 0 12 rfl)))))) ?_
                        refine lv_dup2_11 hx hb dX12_toldType_139 rfl rfl ?_
                        refine va_iald (D := D) (i := (V 0 12)) hx hb hK hP 6 5 rfl rfl (i_in (a := ((V 0 12)).toInt) rfl (by omega)) dX12_toldType_140 ?_
                        refine g_top (v := (V 13 (Int32.toNatClampNeg (V 0 12)))) ((ajV85 13 (Int32.toNatClampNeg (V 0 12)) rfl).trans ((ajV69 13 (Int32.toNatClampNeg (V 0 12)) rfl).trans ((ajV52 13 (Int32.toNatClampNeg (V 0 12)) rfl).trans ((ajV42 13 (Int32.toNatClampNeg (V 0 12)) rfl).trans ((ajV29 13 (Int32.toNatClampNeg (V 0 12)) rfl).trans (ajV13 13 (Int32.toNatClampNeg (V 0 12)) rfl)))))) ?_
                        refine lv_iconst (v := 1) hx hb dX12_toldType_141 (by decide) ?_
                        refine lv_iadd hx hb dX12_toldType_142 ?_
                        refine lv_topi (fun z96 ez96 => ?_)
                        have hz96 : z96.toInt = ((V 13 (Int32.toNatClampNeg (V 0 12)))).toInt + 1 := i_add ez96 rfl (by decide) (by omega)
                        refine va_iast (D := D) (i := (V 0 12)) (x := z96) hx hb hK hP hD hS 6 5 rfl rfl (i_in (a := ((V 0 12)).toInt) rfl (by omega)) dX12_toldType_143 (fun H locs hP hD hS => ?_)
                        obtain ⟨V97, hV97⟩ : ∃ z, z = up2 V85 13 (Int32.toNatClampNeg (V 0 12)) z96 := ⟨_, rfl⟩
                        have hP : va_P D vwCl (mw ad kk ks.1 V97 L95) H := by rw [hV97]; exact hP
                        have hD : va_D A (mw ad kk ks.1 V97 L95) := by rw [hV97]; exact hD
                        have hMV97 : rgd bM V97 := hMV85.put hV97 (show 0 ≤ z96.toInt ∧ z96.toInt ≤ 24 from by omega)
                        have agV97 : agr [(0, 7), (0, 8)] [13, 14, 15, 21, 53] V V97 := agV85.up hV97 rfl
                        have fn9 : fndI ((nx sx72 1).2.1 0) wx32 = none := by rw [((keepS.tr (keepS.tr (keepS.tr (keepS.tr (keepS.rf : keepS (nx gs 1) 0 (nx gs 1)) (keepS.n1 1)) (keepS.n1 1)) kp75) (keepS.n1 1))).2.2.1 0 (by decide)]; exact (told_i tn35).1
                        have cq9 : (Int32.toNatClampNeg (V 0 12)) = bq := by have h9 := RelM.cq rl89; have h8 : V85 0 12 = (V 0 12) := ((ajV85 0 12 rfl).trans ((ajV69 0 12 rfl).trans ((ajV52 0 12 rfl).trans ((ajV42 0 12 rfl).trans ((ajV29 0 12 rfl).trans (ajV13 0 12 rfl)))))); rw [h8] at h9; exact h9
                        have hv9 := hV97
                        rw [cq9] at hv9
                        have pq98 : (V85 13 bq).toInt = ((V 13 bq)).toInt := congrArg Int32.toInt ((ajV85 13 bq rfl).trans ((ajV69 13 bq rfl).trans ((ajV52 13 bq rfl).trans ((ajV42 13 bq rfl).trans ((ajV29 13 bq rfl).trans (ajV13 13 bq rfl))))))
                        have r99 : 0 ≤ ((V 13 bq)).toInt ∧ ((V 13 bq)).toInt ≤ 24 := hMV 13 bq
                        have cv9 : (V85 13 (Int32.toNatClampNeg (V 0 12))).toInt = (V85 13 bq).toInt := by rw [cq9]
                        have pq100 : (V85 13 (Int32.toNatClampNeg (V 0 12))).toInt = ((V 13 (Int32.toNatClampNeg (V 0 12)))).toInt := congrArg Int32.toInt ((ajV85 13 (Int32.toNatClampNeg (V 0 12)) rfl).trans ((ajV69 13 (Int32.toNatClampNeg (V 0 12)) rfl).trans ((ajV52 13 (Int32.toNatClampNeg (V 0 12)) rfl).trans ((ajV42 13 (Int32.toNatClampNeg (V 0 12)) rfl).trans ((ajV29 13 (Int32.toNatClampNeg (V 0 12)) rfl).trans (ajV13 13 (Int32.toNatClampNeg (V 0 12)) rfl))))))
                        have r29 : RelM V85 L bq gn gT (nx sx72 1) ((nx sx72 1).2.1 2) := by rw [((keepS.tr (keepS.tr (keepS.tr (keepS.tr (keepS.tr (keepS.rf : keepS gs 0 gs) (keepS.n1 1)) (keepS.n1 1)) (keepS.n1 1)) kp75) (keepS.n1 1))).2.2.1 2 (by decide)]; exact rl89
                        have r13 : 0 ≤ (V85 13 bq).toInt := (hMV85 13 bq).1
                        have rl101 : RelM V97 L95 bq gn gT (sA (nx sx72 1) 0 wx32) ((sA (nx sx72 1) 0 wx32).2.1 2) := RelM.a0 (a := z5) r29 fn9 (by rw [← hw36]; exact hL95) (by omega) hv9 (by omega) r13
                        have hr102 : ∀ k, Rc gT (Crun gs (Istmt :: k)) (Crun (sA (nx sx72 1) 0 wx32) (Istmt :: k)) := fun k => Rc.go1 (hr91 k) (m_addTy wx32)
                        have fz103 := RelM.rg rl101
                        have pq104 : (V97 0 8).toInt = ((V85 0 8)).toInt := congrArg Int32.toInt (up2_o hV97 (by decide))
                        have pq105 : (V97 0 7).toInt = ((V85 0 7)).toInt := congrArg Int32.toInt (up2_o hV97 (by decide))
                        have pq106 : (V97 0 48).toInt = ((V 0 48)).toInt := congrArg Int32.toInt ((up2_o hV97 (by decide)).trans ((ajV85 0 48 rfl).trans ((ajV69 0 48 rfl).trans ((ajV52 0 48 rfl).trans ((ajV42 0 48 rfl).trans ((ajV29 0 48 rfl).trans (ajV13 0 48 rfl)))))))
                        have pq107 : (V97 0 12).toInt = ((V 0 12)).toInt := congrArg Int32.toInt ((up2_o hV97 (by decide)).trans ((ajV85 0 12 rfl).trans ((ajV69 0 12 rfl).trans ((ajV52 0 12 rfl).trans ((ajV42 0 12 rfl).trans ((ajV29 0 12 rfl).trans (ajV13 0 12 rfl)))))))
                        have ps108 : gs.1 0 + 1 ≤ (nx gs 1).1 0 := ((keepS.n1 1)).1
                        have ps109 : (nx gs 1).1 0 + 1 ≤ (nx (nx gs 1) 1).1 0 := ((keepS.n1 1)).1
                        have ps110 : (nx (nx gs 1) 1).1 0 + 1 ≤ (nx (nx (nx gs 1) 1) 1).1 0 := ((keepS.n1 1)).1
                        have ps111 : (nx (nx (nx gs 1) 1) 1).1 0 + 1 ≤ sx72.1 0 := (kp75).1
                        have ps112 : sx72.1 0 + 1 ≤ (nx sx72 1).1 0 := ((keepS.n1 1)).1
                        have ps113 : (sA (nx sx72 1) 0 wx32).1 0 = (nx sx72 1).1 0 := rfl
                        exact W.vret hx hb hr (fun t ht hW => ⟨⟨(V97, L95), rfl, ⟨hMV97, agV97, alL95, (Imp.mk (fun hp => have hp : (V97 0 8).toInt = 0 := hp; (show (V97 0 48).toInt ≤ 2 * (V97 0 7).toInt from by omega))), (show (V97 0 48).toInt ≤ 8200 from by omega), (show (V97 0 12).toInt = (V 0 12).toInt from by omega), (Or.inl ⟨W0 rl101, (sA (nx sx72 1) 0 wx32), hr102, rl101, (by omega), (ARm.mv arm ((rfl : (sA (nx sx72 1) 0 wx32).2.2.1 = (nx sx72 1).2.2.1).trans ((congrArg (fun q9 => q9.1) ((keepS.n1 1)).2.2.2).trans ((congrArg (fun q9 => q9.1) (kp75).2.2.2).trans ((congrArg (fun q9 => q9.1) ((keepS.n1 1)).2.2.2).trans ((congrArg (fun q9 => q9.1) ((keepS.n1 1)).2.2.2).trans ((congrArg (fun q9 => q9.1) ((keepS.n1 1)).2.2.2).trans (rfl : gs.2.2.1 = gs.2.2.1))))))))⟩)⟩, by rw [ht]; exact hP, va_K.moved hW.alike hK, hD⟩, hS.F ht⟩) hS.2.2 dX12_toldType_144
                      · skip
                        have kd114 : gT.1 (sx72.1 0) ≠ 59 := fun h9 => h88 (h9.trans (by decide))
                        have hb115 : ∀ k, Rc gT (Crun gs (Istmt :: k)) (Cbad (V85 0 8).toInt) := fun k => Rc.go1 (hr76 k) ((tk_n kd114).trans (fl_eq rfl rl89))
                        have r116 : 0 ≤ ((V85 0 8)).toInt ∧ ((V85 0 8)).toInt ≤ 70000 := hMV85 0 8
                        refine lv_aload_n hx hb dX12_toldType_124 rfl (lv_at hl 3 rfl) ?_
                        refine va_get (D := D) (ci := 12) (v := .ref (ad 14)) (C := RX12) (T := TX12) (N := 100) hx hb hg inX12 hown hK hP 0 rfl rfl 14 (by decide) (hg _ w1720) (fun _ h9 => h9) rfl dX12_toldType_125 ?_
                        refine lv_iload_n hx hb dX12_toldType_128 rfl (lv_at hl 2 rfl) ?_
                        refine lv_lload_n hx hb dX12_toldType_129 rfl (lv_at hl 1 rfl) ?_
                        refine va_last (D := D) (i := z5) (x := z25) hx hb hK hP hD hS 7 6 rfl rfl (i_in (a := z5.toInt) rfl (by omega)) dX12_toldType_130 (fun H locs hP hD hS => ?_)
                        obtain ⟨L117, hL117⟩ : ∃ z, z = upL L 14 (Int32.toNatClampNeg z5) z25 := ⟨_, rfl⟩
                        have hP : va_P D vwCl (mw ad kk ks.1 V85 L117) H := by rw [hL117]; exact hP
                        have hD : va_D A (mw ad kk ks.1 V85 L117) := by rw [hL117]; exact hD
                        have alL117 : agL [13, 14, 15, 21, 53] L L117 := agL.up alL hL117 rfl
                        refine lv_aload_n hx hb dX12_toldType_131 rfl (lv_at hl 3 rfl) ?_
                        refine va_get (D := D) (ci := 12) (v := .ref (ad 13)) (C := RX12) (T := TX12) (N := 100) hx hb hg inX12 hown hK hP 0 rfl rfl 13 (by decide) (hg _ w1719) (fun _ h9 => h9) rfl dX12_toldType_132 ?_
                        refine lv_aload_n hx hb dX12_toldType_135 rfl (lv_at hl 3 rfl) ?_
                        refine va_get (D := D) (ci := 12) (v := .int (V85 0 12)) (C := RX12) (T := TX12) (N := 100) hx hb hg inX12 hown hK hP 0 rfl rfl 12 (by decide) (hg _ w1718) (fun _ h9 => h9) rfl dX12_toldType_136 ?_
                        refine g_top (v := (V 0 12)) ((ajV85 0 12 rfl).trans ((ajV69 0 12 rfl).trans ((ajV52 0 12 rfl).trans ((ajV42 0 12 rfl).trans ((ajV29 0 12 rfl).trans (ajV13 0 12 rfl)))))) ?_
                        refine lv_dup2_11 hx hb dX12_toldType_139 rfl rfl ?_
                        refine va_iald (D := D) (i := (V 0 12)) hx hb hK hP 6 5 rfl rfl (i_in (a := ((V 0 12)).toInt) rfl (by omega)) dX12_toldType_140 ?_
                        refine g_top (v := (V 13 (Int32.toNatClampNeg (V 0 12)))) ((ajV85 13 (Int32.toNatClampNeg (V 0 12)) rfl).trans ((ajV69 13 (Int32.toNatClampNeg (V 0 12)) rfl).trans ((ajV52 13 (Int32.toNatClampNeg (V 0 12)) rfl).trans ((ajV42 13 (Int32.toNatClampNeg (V 0 12)) rfl).trans ((ajV29 13 (Int32.toNatClampNeg (V 0 12)) rfl).trans (ajV13 13 (Int32.toNatClampNeg (V 0 12)) rfl)))))) ?_
                        refine lv_iconst (v := 1) hx hb dX12_toldType_141 (by decide) ?_
                        refine lv_iadd hx hb dX12_toldType_142 ?_
                        refine lv_topi (fun z118 ez118 => ?_)
                        have hz118 : z118.toInt = ((V 13 (Int32.toNatClampNeg (V 0 12)))).toInt + 1 := i_add ez118 rfl (by decide) (by omega)
                        refine va_iast (D := D) (i := (V 0 12)) (x := z118) hx hb hK hP hD hS 6 5 rfl rfl (i_in (a := ((V 0 12)).toInt) rfl (by omega)) dX12_toldType_143 (fun H locs hP hD hS => ?_)
                        obtain ⟨V119, hV119⟩ : ∃ z, z = up2 V85 13 (Int32.toNatClampNeg (V 0 12)) z118 := ⟨_, rfl⟩
                        have hP : va_P D vwCl (mw ad kk ks.1 V119 L117) H := by rw [hV119]; exact hP
                        have hD : va_D A (mw ad kk ks.1 V119 L117) := by rw [hV119]; exact hD
                        have hMV119 : rgd bM V119 := hMV85.put hV119 (show 0 ≤ z118.toInt ∧ z118.toInt ≤ 24 from by omega)
                        have agV119 : agr [(0, 7), (0, 8)] [13, 14, 15, 21, 53] V V119 := agV85.up hV119 rfl
                        have pq120 : (V119 0 7).toInt = ((V85 0 7)).toInt := congrArg Int32.toInt (up2_o hV119 (by decide))
                        have pq121 : (V119 0 48).toInt = ((V 0 48)).toInt := congrArg Int32.toInt ((up2_o hV119 (by decide)).trans ((ajV85 0 48 rfl).trans ((ajV69 0 48 rfl).trans ((ajV52 0 48 rfl).trans ((ajV42 0 48 rfl).trans ((ajV29 0 48 rfl).trans (ajV13 0 48 rfl)))))))
                        have pq122 : (V119 0 8).toInt = ((V85 0 8)).toInt := congrArg Int32.toInt (up2_o hV119 (by decide))
                        have pq123 : (V119 0 12).toInt = ((V 0 12)).toInt := congrArg Int32.toInt ((up2_o hV119 (by decide)).trans ((ajV85 0 12 rfl).trans ((ajV69 0 12 rfl).trans ((ajV52 0 12 rfl).trans ((ajV42 0 12 rfl).trans ((ajV29 0 12 rfl).trans (ajV13 0 12 rfl)))))))
                        exact W.vret hx hb hr (fun t ht hW => ⟨⟨(V119, L117), rfl, ⟨hMV119, agV119, alL117, (Imp.mk (fun hp => have hp : (V119 0 8).toInt = 0 := hp; (show (V119 0 48).toInt ≤ 2 * (V119 0 7).toInt from by omega))), (show (V119 0 48).toInt ≤ 8200 from by omega), (show (V119 0 12).toInt = (V 0 12).toInt from by omega), (Or.inr ⟨(show 1 ≤ (V119 0 8).toInt from by omega), (fun k => by rw [show (V119 0 8).toInt = (V85 0 8).toInt from by omega]; exact hb115 k)⟩)⟩, by rw [ht]; exact hP, va_K.moved hW.alike hK, hD⟩, hS.F ht⟩) hS.2.2 dX12_toldType_144
                    · skip
                      have hb124 : ∀ k, Rc gT (Crun gs (Istmt :: k)) (Cbad (V69 0 8).toInt) := fun k => (hr58 k).tr (h73 (Itake 59 :: IaddTy wx32 :: Istmt :: k))
                      have r125 : 0 ≤ ((V69 0 8)).toInt ∧ ((V69 0 8)).toInt ≤ 70000 := hMV69 0 8
                      refine lv_aload_n hx hb dX12_toldType_118 rfl (lv_at hl 3 rfl) ?_
                      refine lv_bipush (v := 59) hx hb dX12_toldType_119 (by decide) ?_
                      have r126 : Int32.toInt 59 = 59 := by decide
                      refine gA_void (gA_runV (As := [.int 59]) (rest := []) (ci := 12) (q0 := 0) hx hb hml hown hg hP hD hK hS hA hnw hgk (s_takeSignB l D ks H.size ad kk V69 L 59 hMV69 (show 1 ≤ (V69 0 8).toInt from by omega)) w2075 w2077 w96 w172 w2078 rfl rfl hdV_yX12_takeSign ⟨Nat.le_of_ble_eq_true rfl, Nat.le_of_ble_eq_true rfl⟩ rfl hl.1 rfl (Nat.le_of_ble_eq_true rfl) dX12_toldType_121 ⟨Nat.le_of_ble_eq_true rfl, Nat.le_of_ble_eq_true rfl⟩) hP hD hK hS hA (fun u128 H locs w129 hP hD hK hS => ?_)
                      obtain ⟨V131, L132⟩ := u128
                      obtain ⟨hMV131, ajV131, axL132, t130⟩ := w129
                      have axL132 : L = L132 := Eq.symm axL132
                      subst axL132
                      have hP : va_P D vwCl (mw ad kk ks.1 V131 L) H := hP
                      have hD : va_D A (mw ad kk ks.1 V131 L) := hD
                      have hMV131 : rgd bM V131 := hMV131
                      have ajV131 : agr [(0, 7), (0, 8)] [] V69 V131 := ajV131
                      have agV131 : agr [(0, 7), (0, 8)] [13, 14, 15, 21, 53] V V131 := agV69.tr ajV131 (by decide) (by decide)
                      have t130 : (V131 0 8).toInt = (V69 0 8).toInt := t130
                      have r133 : 0 ≤ ((V131 0 8)).toInt ∧ ((V131 0 8)).toInt ≤ 70000 := hMV131 0 8
                      refine lv_aload_n hx hb dX12_toldType_124 rfl (lv_at hl 3 rfl) ?_
                      refine va_get (D := D) (ci := 12) (v := .ref (ad 14)) (C := RX12) (T := TX12) (N := 100) hx hb hg inX12 hown hK hP 0 rfl rfl 14 (by decide) (hg _ w1720) (fun _ h9 => h9) rfl dX12_toldType_125 ?_
                      refine lv_iload_n hx hb dX12_toldType_128 rfl (lv_at hl 2 rfl) ?_
                      refine lv_lload_n hx hb dX12_toldType_129 rfl (lv_at hl 1 rfl) ?_
                      refine va_last (D := D) (i := z5) (x := z25) hx hb hK hP hD hS 7 6 rfl rfl (i_in (a := z5.toInt) rfl (by omega)) dX12_toldType_130 (fun H locs hP hD hS => ?_)
                      obtain ⟨L134, hL134⟩ : ∃ z, z = upL L 14 (Int32.toNatClampNeg z5) z25 := ⟨_, rfl⟩
                      have hP : va_P D vwCl (mw ad kk ks.1 V131 L134) H := by rw [hL134]; exact hP
                      have hD : va_D A (mw ad kk ks.1 V131 L134) := by rw [hL134]; exact hD
                      have alL134 : agL [13, 14, 15, 21, 53] L L134 := agL.up alL hL134 rfl
                      refine lv_aload_n hx hb dX12_toldType_131 rfl (lv_at hl 3 rfl) ?_
                      refine va_get (D := D) (ci := 12) (v := .ref (ad 13)) (C := RX12) (T := TX12) (N := 100) hx hb hg inX12 hown hK hP 0 rfl rfl 13 (by decide) (hg _ w1719) (fun _ h9 => h9) rfl dX12_toldType_132 ?_
                      refine lv_aload_n hx hb dX12_toldType_135 rfl (lv_at hl 3 rfl) ?_
                      refine va_get (D := D) (ci := 12) (v := .int (V131 0 12)) (C := RX12) (T := TX12) (N := 100) hx hb hg inX12 hown hK hP 0 rfl rfl 12 (by decide) (hg _ w1718) (fun _ h9 => h9) rfl dX12_toldType_136 ?_
                      refine g_top (v := (V 0 12)) ((ajV131 0 12 rfl).trans ((ajV69 0 12 rfl).trans ((ajV52 0 12 rfl).trans ((ajV42 0 12 rfl).trans ((ajV29 0 12 rfl).trans (ajV13 0 12 rfl)))))) ?_
                      refine lv_dup2_11 hx hb dX12_toldType_139 rfl rfl ?_
                      refine va_iald (D := D) (i := (V 0 12)) hx hb hK hP 6 5 rfl rfl (i_in (a := ((V 0 12)).toInt) rfl (by omega)) dX12_toldType_140 ?_
                      refine g_top (v := (V 13 (Int32.toNatClampNeg (V 0 12)))) ((ajV131 13 (Int32.toNatClampNeg (V 0 12)) rfl).trans ((ajV69 13 (Int32.toNatClampNeg (V 0 12)) rfl).trans ((ajV52 13 (Int32.toNatClampNeg (V 0 12)) rfl).trans ((ajV42 13 (Int32.toNatClampNeg (V 0 12)) rfl).trans ((ajV29 13 (Int32.toNatClampNeg (V 0 12)) rfl).trans (ajV13 13 (Int32.toNatClampNeg (V 0 12)) rfl)))))) ?_
                      refine lv_iconst (v := 1) hx hb dX12_toldType_141 (by decide) ?_
                      refine lv_iadd hx hb dX12_toldType_142 ?_
                      refine lv_topi (fun z135 ez135 => ?_)
                      have hz135 : z135.toInt = ((V 13 (Int32.toNatClampNeg (V 0 12)))).toInt + 1 := i_add ez135 rfl (by decide) (by omega)
                      refine va_iast (D := D) (i := (V 0 12)) (x := z135) hx hb hK hP hD hS 6 5 rfl rfl (i_in (a := ((V 0 12)).toInt) rfl (by omega)) dX12_toldType_143 (fun H locs hP hD hS => ?_)
                      obtain ⟨V136, hV136⟩ : ∃ z, z = up2 V131 13 (Int32.toNatClampNeg (V 0 12)) z135 := ⟨_, rfl⟩
                      have hP : va_P D vwCl (mw ad kk ks.1 V136 L134) H := by rw [hV136]; exact hP
                      have hD : va_D A (mw ad kk ks.1 V136 L134) := by rw [hV136]; exact hD
                      have hMV136 : rgd bM V136 := hMV131.put hV136 (show 0 ≤ z135.toInt ∧ z135.toInt ≤ 24 from by omega)
                      have agV136 : agr [(0, 7), (0, 8)] [13, 14, 15, 21, 53] V V136 := agV131.up hV136 rfl
                      have pq137 : (V136 0 7).toInt = ((V131 0 7)).toInt := congrArg Int32.toInt (up2_o hV136 (by decide))
                      have pq138 : (V136 0 48).toInt = ((V 0 48)).toInt := congrArg Int32.toInt ((up2_o hV136 (by decide)).trans ((ajV131 0 48 rfl).trans ((ajV69 0 48 rfl).trans ((ajV52 0 48 rfl).trans ((ajV42 0 48 rfl).trans ((ajV29 0 48 rfl).trans (ajV13 0 48 rfl)))))))
                      have pq139 : (V136 0 8).toInt = ((V131 0 8)).toInt := congrArg Int32.toInt (up2_o hV136 (by decide))
                      have pq140 : (V136 0 12).toInt = ((V 0 12)).toInt := congrArg Int32.toInt ((up2_o hV136 (by decide)).trans ((ajV131 0 12 rfl).trans ((ajV69 0 12 rfl).trans ((ajV52 0 12 rfl).trans ((ajV42 0 12 rfl).trans ((ajV29 0 12 rfl).trans (ajV13 0 12 rfl)))))))
                      exact W.vret hx hb hr (fun t ht hW => ⟨⟨(V136, L134), rfl, ⟨hMV136, agV136, alL134, (Imp.mk (fun hp => have hp : (V136 0 8).toInt = 0 := hp; (show (V136 0 48).toInt ≤ 2 * (V136 0 7).toInt from by omega))), (show (V136 0 48).toInt ≤ 8200 from by omega), (show (V136 0 12).toInt = (V 0 12).toInt from by omega), (Or.inr ⟨(show 1 ≤ (V136 0 8).toInt from by omega), (fun k => by rw [show (V136 0 8).toInt = (V69 0 8).toInt from by omega]; exact hb124 k)⟩)⟩, by rw [ht]; exact hP, va_K.moved hW.alike hK, hD⟩, hS.F ht⟩) hS.2.2 dX12_toldType_144
                · skip
                  have kd141 : gT.1 ((nx (nx gs 1) 1).1 0) ≠ 129 := fun h9 => h55 (h9.trans (by decide))
                  have fz142 := RelM.rg rl56
                  have pq143 : (V52 0 8).toInt = ((V29 0 8)).toInt := congrArg Int32.toInt ((ajV52 0 8 rfl).trans (ajV42 0 8 rfl))
                  refine lv_if_eq (tgt := 118) hx hb dX12_toldType_106 (by decide) (fun c144 => ?_) (fun c144 => ?_)
                  · skip
                    have f145 : z48.toInt = 0 := b_eq rfl (by decide) c144
                    refine lv_aload_n hx hb dX12_toldType_118 rfl (lv_at hl 3 rfl) ?_
                    refine lv_bipush (v := 59) hx hb dX12_toldType_119 (by decide) ?_
                    have r146 : Int32.toInt 59 = 59 := by decide
                    refine gA_void (gA_runV (As := [.int 59]) (rest := []) (ci := 12) (q0 := 0) hx hb hml hown hg hP hD hK hS hA hnw hgk (s_takeSignA l D ks H.size ad kk V52 L 59 (bq) (gn) (gT) ((nx (nx gs 1) 1)) ((gs.2.1 2)) hMV52 rl56 (sg_yes (j := 59) (by decide) (by decide) (by decide))) w2075 w2077 w96 w172 w2078 rfl rfl hdV_yX12_takeSign ⟨Nat.le_of_ble_eq_true rfl, Nat.le_of_ble_eq_true rfl⟩ rfl hl.1 rfl (Nat.le_of_ble_eq_true rfl) dX12_toldType_121 ⟨Nat.le_of_ble_eq_true rfl, Nat.le_of_ble_eq_true rfl⟩) hP hD hK hS hA (fun u148 H locs w149 hP hD hK hS => ?_)
                    obtain ⟨V151, L152⟩ := u148
                    obtain ⟨hMV151, ajV151, axL152, t150⟩ := w149
                    have axL152 : L = L152 := Eq.symm axL152
                    subst axL152
                    have hP : va_P D vwCl (mw ad kk ks.1 V151 L) H := hP
                    have hD : va_D A (mw ad kk ks.1 V151 L) := hD
                    have hMV151 : rgd bM V151 := hMV151
                    have ajV151 : agr [(0, 7), (0, 8)] [] V52 V151 := ajV151
                    have agV151 : agr [(0, 7), (0, 8)] [13, 14, 15, 21, 53] V V151 := agV52.tr ajV151 (by decide) (by decide)
                    have t150 : ((V151 0 8).toInt = 0 ∧ (gT).1 (((nx (nx gs 1) 1)).1 0) = (Int32.toInt 59) ∧ RelM V151 L (bq) (gn) (gT) (nx ((nx (nx gs 1) 1)) 1) ((gs.2.1 2))) ∨ (1 ≤ (V151 0 8).toInt ∧ (gT).1 (((nx (nx gs 1) 1)).1 0) ≠ (Int32.toInt 59) ∧ (V151 0 8).toInt = 1 + 16 * (gT).2.2 (((nx (nx gs 1) 1)).1 0)) := t150
                    have hr156 : ∀ k, Rc gT (Crun gs (Istmt :: k)) (Crun (nx (nx gs 1) 1) (Itake 59 :: IaddTy wx32 :: Istmt :: k)) := fun k => Rc.go1 (hr37 k) (like_n wx32 kd141)
                    rcases t150 with ⟨q153, h154, rl155⟩ | ⟨q153, h154, rl155⟩
                    · skip
                      have kd157 : gT.1 ((nx (nx gs 1) 1).1 0) = 59 := h154.trans (by decide)
                      have hr158 : ∀ k, Rc gT (Crun gs (Istmt :: k)) (Crun (nx (nx (nx gs 1) 1) 1) (IaddTy wx32 :: Istmt :: k)) := fun k => Rc.go1 (hr156 k) (tk_y kd157)
                      have ps159 : (nx (nx (nx gs 1) 1) 1).1 0 = (nx (nx gs 1) 1).1 0 + 1 := rfl
                      have fz160 := RelM.rg rl155
                      have r161 : 0 ≤ ((V151 0 8)).toInt ∧ ((V151 0 8)).toInt ≤ 70000 := hMV151 0 8
                      refine lv_aload_n hx hb dX12_toldType_124 rfl (lv_at hl 3 rfl) ?_
                      refine va_get (D := D) (ci := 12) (v := .ref (ad 14)) (C := RX12) (T := TX12) (N := 100) hx hb hg inX12 hown hK hP 0 rfl rfl 14 (by decide) (hg _ w1720) (fun _ h9 => h9) rfl dX12_toldType_125 ?_
                      refine lv_iload_n hx hb dX12_toldType_128 rfl (lv_at hl 2 rfl) ?_
                      refine lv_lload_n hx hb dX12_toldType_129 rfl (lv_at hl 1 rfl) ?_
                      refine va_last (D := D) (i := z5) (x := z25) hx hb hK hP hD hS 7 6 rfl rfl (i_in (a := z5.toInt) rfl (by omega)) dX12_toldType_130 (fun H locs hP hD hS => ?_)
                      obtain ⟨L162, hL162⟩ : ∃ z, z = upL L 14 (Int32.toNatClampNeg z5) z25 := ⟨_, rfl⟩
                      have hP : va_P D vwCl (mw ad kk ks.1 V151 L162) H := by rw [hL162]; exact hP
                      have hD : va_D A (mw ad kk ks.1 V151 L162) := by rw [hL162]; exact hD
                      have alL162 : agL [13, 14, 15, 21, 53] L L162 := agL.up alL hL162 rfl
                      refine lv_aload_n hx hb dX12_toldType_131 rfl (lv_at hl 3 rfl) ?_
                      refine va_get (D := D) (ci := 12) (v := .ref (ad 13)) (C := RX12) (T := TX12) (N := 100) hx hb hg inX12 hown hK hP 0 rfl rfl 13 (by decide) (hg _ w1719) (fun _ h9 => h9) rfl dX12_toldType_132 ?_
                      refine lv_aload_n hx hb dX12_toldType_135 rfl (lv_at hl 3 rfl) ?_
                      refine va_get (D := D) (ci := 12) (v := .int (V151 0 12)) (C := RX12) (T := TX12) (N := 100) hx hb hg inX12 hown hK hP 0 rfl rfl 12 (by decide) (hg _ w1718) (fun _ h9 => h9) rfl dX12_toldType_136 ?_
                      refine g_top (v := (V 0 12)) ((ajV151 0 12 rfl).trans ((ajV52 0 12 rfl).trans ((ajV42 0 12 rfl).trans ((ajV29 0 12 rfl).trans (ajV13 0 12 rfl))))) ?_
                      refine lv_dup2_11 hx hb dX12_toldType_139 rfl rfl ?_
                      refine va_iald (D := D) (i := (V 0 12)) hx hb hK hP 6 5 rfl rfl (i_in (a := ((V 0 12)).toInt) rfl (by omega)) dX12_toldType_140 ?_
                      refine g_top (v := (V 13 (Int32.toNatClampNeg (V 0 12)))) ((ajV151 13 (Int32.toNatClampNeg (V 0 12)) rfl).trans ((ajV52 13 (Int32.toNatClampNeg (V 0 12)) rfl).trans ((ajV42 13 (Int32.toNatClampNeg (V 0 12)) rfl).trans ((ajV29 13 (Int32.toNatClampNeg (V 0 12)) rfl).trans (ajV13 13 (Int32.toNatClampNeg (V 0 12)) rfl))))) ?_
                      refine lv_iconst (v := 1) hx hb dX12_toldType_141 (by decide) ?_
                      refine lv_iadd hx hb dX12_toldType_142 ?_
                      refine lv_topi (fun z163 ez163 => ?_)
                      have hz163 : z163.toInt = ((V 13 (Int32.toNatClampNeg (V 0 12)))).toInt + 1 := i_add ez163 rfl (by decide) (by omega)
                      refine va_iast (D := D) (i := (V 0 12)) (x := z163) hx hb hK hP hD hS 6 5 rfl rfl (i_in (a := ((V 0 12)).toInt) rfl (by omega)) dX12_toldType_143 (fun H locs hP hD hS => ?_)
                      obtain ⟨V164, hV164⟩ : ∃ z, z = up2 V151 13 (Int32.toNatClampNeg (V 0 12)) z163 := ⟨_, rfl⟩
                      have hP : va_P D vwCl (mw ad kk ks.1 V164 L162) H := by rw [hV164]; exact hP
                      have hD : va_D A (mw ad kk ks.1 V164 L162) := by rw [hV164]; exact hD
                      have hMV164 : rgd bM V164 := hMV151.put hV164 (show 0 ≤ z163.toInt ∧ z163.toInt ≤ 24 from by omega)
                      have agV164 : agr [(0, 7), (0, 8)] [13, 14, 15, 21, 53] V V164 := agV151.up hV164 rfl
                      have fn9 : fndI ((nx (nx (nx gs 1) 1) 1).2.1 0) wx32 = none := by rw [((keepS.tr (keepS.tr (keepS.rf : keepS (nx gs 1) 0 (nx gs 1)) (keepS.n1 1)) (keepS.n1 1))).2.2.1 0 (by decide)]; exact (told_i tn35).1
                      have cq9 : (Int32.toNatClampNeg (V 0 12)) = bq := by have h9 := RelM.cq rl155; have h8 : V151 0 12 = (V 0 12) := ((ajV151 0 12 rfl).trans ((ajV52 0 12 rfl).trans ((ajV42 0 12 rfl).trans ((ajV29 0 12 rfl).trans (ajV13 0 12 rfl))))); rw [h8] at h9; exact h9
                      have hv9 := hV164
                      rw [cq9] at hv9
                      have pq165 : (V151 13 bq).toInt = ((V 13 bq)).toInt := congrArg Int32.toInt ((ajV151 13 bq rfl).trans ((ajV52 13 bq rfl).trans ((ajV42 13 bq rfl).trans ((ajV29 13 bq rfl).trans (ajV13 13 bq rfl)))))
                      have r166 : 0 ≤ ((V 13 bq)).toInt ∧ ((V 13 bq)).toInt ≤ 24 := hMV 13 bq
                      have cv9 : (V151 13 (Int32.toNatClampNeg (V 0 12))).toInt = (V151 13 bq).toInt := by rw [cq9]
                      have pq167 : (V151 13 (Int32.toNatClampNeg (V 0 12))).toInt = ((V 13 (Int32.toNatClampNeg (V 0 12)))).toInt := congrArg Int32.toInt ((ajV151 13 (Int32.toNatClampNeg (V 0 12)) rfl).trans ((ajV52 13 (Int32.toNatClampNeg (V 0 12)) rfl).trans ((ajV42 13 (Int32.toNatClampNeg (V 0 12)) rfl).trans ((ajV29 13 (Int32.toNatClampNeg (V 0 12)) rfl).trans (ajV13 13 (Int32.toNatClampNeg (V 0 12)) rfl)))))
                      have r29 : RelM V151 L bq gn gT (nx (nx (nx gs 1) 1) 1) ((nx (nx (nx gs 1) 1) 1).2.1 2) := by rw [((keepS.tr (keepS.tr (keepS.tr (keepS.rf : keepS gs 0 gs) (keepS.n1 1)) (keepS.n1 1)) (keepS.n1 1))).2.2.1 2 (by decide)]; exact rl155
                      have r13 : 0 ≤ (V151 13 bq).toInt := (hMV151 13 bq).1
                      have rl168 : RelM V164 L162 bq gn gT (sA (nx (nx (nx gs 1) 1) 1) 0 wx32) ((sA (nx (nx (nx gs 1) 1) 1) 0 wx32).2.1 2) := RelM.a0 (a := z5) r29 fn9 (by rw [← hw36]; exact hL162) (by omega) hv9 (by omega) r13
                      have hr169 : ∀ k, Rc gT (Crun gs (Istmt :: k)) (Crun (sA (nx (nx (nx gs 1) 1) 1) 0 wx32) (Istmt :: k)) := fun k => Rc.go1 (hr158 k) (m_addTy wx32)
                      have fz170 := RelM.rg rl168
                      have pq171 : (V164 0 8).toInt = ((V151 0 8)).toInt := congrArg Int32.toInt (up2_o hV164 (by decide))
                      have pq172 : (V164 0 7).toInt = ((V151 0 7)).toInt := congrArg Int32.toInt (up2_o hV164 (by decide))
                      have pq173 : (V164 0 48).toInt = ((V 0 48)).toInt := congrArg Int32.toInt ((up2_o hV164 (by decide)).trans ((ajV151 0 48 rfl).trans ((ajV52 0 48 rfl).trans ((ajV42 0 48 rfl).trans ((ajV29 0 48 rfl).trans (ajV13 0 48 rfl))))))
                      have pq174 : (V164 0 12).toInt = ((V 0 12)).toInt := congrArg Int32.toInt ((up2_o hV164 (by decide)).trans ((ajV151 0 12 rfl).trans ((ajV52 0 12 rfl).trans ((ajV42 0 12 rfl).trans ((ajV29 0 12 rfl).trans (ajV13 0 12 rfl))))))
                      have ps175 : gs.1 0 + 1 ≤ (nx gs 1).1 0 := ((keepS.n1 1)).1
                      have ps176 : (nx gs 1).1 0 + 1 ≤ (nx (nx gs 1) 1).1 0 := ((keepS.n1 1)).1
                      have ps177 : (nx (nx gs 1) 1).1 0 + 1 ≤ (nx (nx (nx gs 1) 1) 1).1 0 := ((keepS.n1 1)).1
                      have ps178 : (sA (nx (nx (nx gs 1) 1) 1) 0 wx32).1 0 = (nx (nx (nx gs 1) 1) 1).1 0 := rfl
                      exact W.vret hx hb hr (fun t ht hW => ⟨⟨(V164, L162), rfl, ⟨hMV164, agV164, alL162, (Imp.mk (fun hp => have hp : (V164 0 8).toInt = 0 := hp; (show (V164 0 48).toInt ≤ 2 * (V164 0 7).toInt from by omega))), (show (V164 0 48).toInt ≤ 8200 from by omega), (show (V164 0 12).toInt = (V 0 12).toInt from by omega), (Or.inl ⟨W0 rl168, (sA (nx (nx (nx gs 1) 1) 1) 0 wx32), hr169, rl168, (by omega), (ARm.mv arm ((rfl : (sA (nx (nx (nx gs 1) 1) 1) 0 wx32).2.2.1 = (nx (nx (nx gs 1) 1) 1).2.2.1).trans ((congrArg (fun q9 => q9.1) ((keepS.n1 1)).2.2.2).trans ((congrArg (fun q9 => q9.1) ((keepS.n1 1)).2.2.2).trans ((congrArg (fun q9 => q9.1) ((keepS.n1 1)).2.2.2).trans (rfl : gs.2.2.1 = gs.2.2.1))))))⟩)⟩, by rw [ht]; exact hP, va_K.moved hW.alike hK, hD⟩, hS.F ht⟩) hS.2.2 dX12_toldType_144
                    · skip
                      have kd179 : gT.1 ((nx (nx gs 1) 1).1 0) ≠ 59 := fun h9 => h154 (h9.trans (by decide))
                      have hb180 : ∀ k, Rc gT (Crun gs (Istmt :: k)) (Cbad (V151 0 8).toInt) := fun k => Rc.go1 (hr156 k) ((tk_n kd179).trans (fl_eq rfl rl155))
                      have r181 : 0 ≤ ((V151 0 8)).toInt ∧ ((V151 0 8)).toInt ≤ 70000 := hMV151 0 8
                      refine lv_aload_n hx hb dX12_toldType_124 rfl (lv_at hl 3 rfl) ?_
                      refine va_get (D := D) (ci := 12) (v := .ref (ad 14)) (C := RX12) (T := TX12) (N := 100) hx hb hg inX12 hown hK hP 0 rfl rfl 14 (by decide) (hg _ w1720) (fun _ h9 => h9) rfl dX12_toldType_125 ?_
                      refine lv_iload_n hx hb dX12_toldType_128 rfl (lv_at hl 2 rfl) ?_
                      refine lv_lload_n hx hb dX12_toldType_129 rfl (lv_at hl 1 rfl) ?_
                      refine va_last (D := D) (i := z5) (x := z25) hx hb hK hP hD hS 7 6 rfl rfl (i_in (a := z5.toInt) rfl (by omega)) dX12_toldType_130 (fun H locs hP hD hS => ?_)
                      obtain ⟨L182, hL182⟩ : ∃ z, z = upL L 14 (Int32.toNatClampNeg z5) z25 := ⟨_, rfl⟩
                      have hP : va_P D vwCl (mw ad kk ks.1 V151 L182) H := by rw [hL182]; exact hP
                      have hD : va_D A (mw ad kk ks.1 V151 L182) := by rw [hL182]; exact hD
                      have alL182 : agL [13, 14, 15, 21, 53] L L182 := agL.up alL hL182 rfl
                      refine lv_aload_n hx hb dX12_toldType_131 rfl (lv_at hl 3 rfl) ?_
                      refine va_get (D := D) (ci := 12) (v := .ref (ad 13)) (C := RX12) (T := TX12) (N := 100) hx hb hg inX12 hown hK hP 0 rfl rfl 13 (by decide) (hg _ w1719) (fun _ h9 => h9) rfl dX12_toldType_132 ?_
                      refine lv_aload_n hx hb dX12_toldType_135 rfl (lv_at hl 3 rfl) ?_
                      refine va_get (D := D) (ci := 12) (v := .int (V151 0 12)) (C := RX12) (T := TX12) (N := 100) hx hb hg inX12 hown hK hP 0 rfl rfl 12 (by decide) (hg _ w1718) (fun _ h9 => h9) rfl dX12_toldType_136 ?_
                      refine g_top (v := (V 0 12)) ((ajV151 0 12 rfl).trans ((ajV52 0 12 rfl).trans ((ajV42 0 12 rfl).trans ((ajV29 0 12 rfl).trans (ajV13 0 12 rfl))))) ?_
                      refine lv_dup2_11 hx hb dX12_toldType_139 rfl rfl ?_
                      refine va_iald (D := D) (i := (V 0 12)) hx hb hK hP 6 5 rfl rfl (i_in (a := ((V 0 12)).toInt) rfl (by omega)) dX12_toldType_140 ?_
                      refine g_top (v := (V 13 (Int32.toNatClampNeg (V 0 12)))) ((ajV151 13 (Int32.toNatClampNeg (V 0 12)) rfl).trans ((ajV52 13 (Int32.toNatClampNeg (V 0 12)) rfl).trans ((ajV42 13 (Int32.toNatClampNeg (V 0 12)) rfl).trans ((ajV29 13 (Int32.toNatClampNeg (V 0 12)) rfl).trans (ajV13 13 (Int32.toNatClampNeg (V 0 12)) rfl))))) ?_
                      refine lv_iconst (v := 1) hx hb dX12_toldType_141 (by decide) ?_
                      refine lv_iadd hx hb dX12_toldType_142 ?_
                      refine lv_topi (fun z183 ez183 => ?_)
                      have hz183 : z183.toInt = ((V 13 (Int32.toNatClampNeg (V 0 12)))).toInt + 1 := i_add ez183 rfl (by decide) (by omega)
                      refine va_iast (D := D) (i := (V 0 12)) (x := z183) hx hb hK hP hD hS 6 5 rfl rfl (i_in (a := ((V 0 12)).toInt) rfl (by omega)) dX12_toldType_143 (fun H locs hP hD hS => ?_)
                      obtain ⟨V184, hV184⟩ : ∃ z, z = up2 V151 13 (Int32.toNatClampNeg (V 0 12)) z183 := ⟨_, rfl⟩
                      have hP : va_P D vwCl (mw ad kk ks.1 V184 L182) H := by rw [hV184]; exact hP
                      have hD : va_D A (mw ad kk ks.1 V184 L182) := by rw [hV184]; exact hD
                      have hMV184 : rgd bM V184 := hMV151.put hV184 (show 0 ≤ z183.toInt ∧ z183.toInt ≤ 24 from by omega)
                      have agV184 : agr [(0, 7), (0, 8)] [13, 14, 15, 21, 53] V V184 := agV151.up hV184 rfl
                      have pq185 : (V184 0 7).toInt = ((V151 0 7)).toInt := congrArg Int32.toInt (up2_o hV184 (by decide))
                      have pq186 : (V184 0 48).toInt = ((V 0 48)).toInt := congrArg Int32.toInt ((up2_o hV184 (by decide)).trans ((ajV151 0 48 rfl).trans ((ajV52 0 48 rfl).trans ((ajV42 0 48 rfl).trans ((ajV29 0 48 rfl).trans (ajV13 0 48 rfl))))))
                      have pq187 : (V184 0 8).toInt = ((V151 0 8)).toInt := congrArg Int32.toInt (up2_o hV184 (by decide))
                      have pq188 : (V184 0 12).toInt = ((V 0 12)).toInt := congrArg Int32.toInt ((up2_o hV184 (by decide)).trans ((ajV151 0 12 rfl).trans ((ajV52 0 12 rfl).trans ((ajV42 0 12 rfl).trans ((ajV29 0 12 rfl).trans (ajV13 0 12 rfl))))))
                      exact W.vret hx hb hr (fun t ht hW => ⟨⟨(V184, L182), rfl, ⟨hMV184, agV184, alL182, (Imp.mk (fun hp => have hp : (V184 0 8).toInt = 0 := hp; (show (V184 0 48).toInt ≤ 2 * (V184 0 7).toInt from by omega))), (show (V184 0 48).toInt ≤ 8200 from by omega), (show (V184 0 12).toInt = (V 0 12).toInt from by omega), (Or.inr ⟨(show 1 ≤ (V184 0 8).toInt from by omega), (fun k => by rw [show (V184 0 8).toInt = (V151 0 8).toInt from by omega]; exact hb180 k)⟩)⟩, by rw [ht]; exact hP, va_K.moved hW.alike hK, hD⟩, hS.F ht⟩) hS.2.2 dX12_toldType_144
                  · skip
                    have f189 : z48.toInt ≠ 0 := b_neq rfl (by decide) c144
                    exfalso; omega
              · skip
                have f190 : y41.toInt < 24 := b_nle (by decide) rfl c44
                refine lv_aload_n hx hb dX12_toldType_64 rfl (lv_at hl 3 rfl) ?_
                refine va_get (D := D) (ci := 12) (v := .ref (ad 15)) (C := RX12) (T := TX12) (N := 100) hx hb hg inX12 hown hK hP 0 rfl rfl 15 (by decide) (hg _ w1721) (fun _ h9 => h9) rfl dX12_toldType_65 ?_
                refine lv_bipush (v := 24) hx hb dX12_toldType_68 (by decide) ?_
                refine lv_iload_n hx hb dX12_toldType_70 rfl (lv_at hl 2 rfl) ?_
                refine lv_imul hx hb dX12_toldType_71 ?_
                refine lv_topi (fun z191 ez191 => ?_)
                have hz191 : z191.toInt = 24 * z5.toInt := i_mul ez191 (by decide) rfl (by omega)
                refine lv_iload hx hb dX12_toldType_72 (lv_at hl 0 rfl) ?_
                refine lv_iadd hx hb dX12_toldType_74 ?_
                refine lv_topi (fun z192 ez192 => ?_)
                have hz192 : z192.toInt = z191.toInt + y41.toInt := i_add ez192 rfl rfl (by omega)
                refine lv_iload hx hb dX12_toldType_75 (lv_at hl 0 rfl) ?_
                refine lv_aload_n hx hb dX12_toldType_77 rfl (lv_at hl 3 rfl) ?_
                refine va_get (D := D) (ci := 12) (v := .ref (ad 13)) (C := RX12) (T := TX12) (N := 100) hx hb hg inX12 hown hK hP 0 rfl rfl 13 (by decide) (hg _ w1719) (fun _ h9 => h9) rfl dX12_toldType_78 ?_
                refine lv_aload_n hx hb dX12_toldType_81 rfl (lv_at hl 3 rfl) ?_
                refine va_get (D := D) (ci := 12) (v := .int (V42 0 12)) (C := RX12) (T := TX12) (N := 100) hx hb hg inX12 hown hK hP 0 rfl rfl 12 (by decide) (hg _ w1718) (fun _ h9 => h9) rfl dX12_toldType_82 ?_
                refine g_top (v := (V 0 12)) ((ajV42 0 12 rfl).trans ((ajV29 0 12 rfl).trans (ajV13 0 12 rfl))) ?_
                refine va_iald (D := D) (i := (V 0 12)) hx hb hK hP 6 5 rfl rfl (i_in (a := ((V 0 12)).toInt) rfl (by omega)) dX12_toldType_85 ?_
                refine g_top (v := (V 13 (Int32.toNatClampNeg (V 0 12)))) ((ajV42 13 (Int32.toNatClampNeg (V 0 12)) rfl).trans ((ajV29 13 (Int32.toNatClampNeg (V 0 12)) rfl).trans (ajV13 13 (Int32.toNatClampNeg (V 0 12)) rfl))) ?_
                refine lv_icmp_ne (tgt := 93) hx hb dX12_toldType_86 (by decide) (fun c193 => ?_) (fun c193 => ?_)
                · skip
                  have f194 : y41.toInt ≠ ((V 13 (Int32.toNatClampNeg (V 0 12)))).toInt := b_neq rfl rfl c193
                  refine lv_iconst (v := 0) hx hb dX12_toldType_93 (by decide) ?_
                  refine va_zast (D := D) (i := z192) (x := 0) hx hb hK hP hD hS 8 7 rfl rfl (i_in (a := z192.toInt) rfl (by omega)) dX12_toldType_94 (fun H locs hP hD hS => ?_)
                  obtain ⟨V195, hV195⟩ : ∃ z, z = up2 V42 15 (Int32.toNatClampNeg z192) (vp_nar .boolean 0) := ⟨_, rfl⟩
                  have hP : va_P D vwCl (mw ad kk ks.1 V195 L) H := by rw [hV195]; exact hP
                  have hD : va_D A (mw ad kk ks.1 V195 L) := by rw [hV195]; exact hD
                  have hMV195 : rgd bM V195 := hMV42.put hV195 (nar_b _)
                  have agV195 : agr [(0, 7), (0, 8)] [13, 14, 15, 21, 53] V V195 := agV42.up hV195 rfl
                  obtain ⟨z196, ez196⟩ : ∃ y : Int32, y = y41 + 1 := ⟨_, rfl⟩
                  have hz196 : z196.toInt = y41.toInt + 1 := i_add ez196 rfl (by decide) (by omega)
                  refine lv_iinc (v := z196) (lv' := [(4, .int z196), (2, .long z25), (1, .int z5), (0, .ref (ad 0))]) hx hb dX12_toldType_95 hl (k := 0) rfl (by rw [ez196]; rfl) (by decide) rfl (fun ls hl => ?_)
                  refine lv_goto (tgt := 57) hx hb dX12_toldType_98 (by decide) ?_
                  exact ihlp43 z196 V195 H locs ls (by omega) (by omega) (agr.up (agr.tr agr.rf ajV42 (by decide) (by decide)) hV195 rfl) hMV195 hP hD hS (lv_sub hl [0, 1, 2, 3] rfl)
                · skip
                  have f197 : y41.toInt = ((V 13 (Int32.toNatClampNeg (V 0 12)))).toInt := b_eq rfl rfl c193
                  refine lv_iconst (v := 1) hx hb dX12_toldType_89 (by decide) ?_
                  refine lv_goto (tgt := 94) hx hb dX12_toldType_90 (by decide) ?_
                  refine va_zast (D := D) (i := z192) (x := 1) hx hb hK hP hD hS 8 7 rfl rfl (i_in (a := z192.toInt) rfl (by omega)) dX12_toldType_94 (fun H locs hP hD hS => ?_)
                  obtain ⟨V198, hV198⟩ : ∃ z, z = up2 V42 15 (Int32.toNatClampNeg z192) (vp_nar .boolean 1) := ⟨_, rfl⟩
                  have hP : va_P D vwCl (mw ad kk ks.1 V198 L) H := by rw [hV198]; exact hP
                  have hD : va_D A (mw ad kk ks.1 V198 L) := by rw [hV198]; exact hD
                  have hMV198 : rgd bM V198 := hMV42.put hV198 (nar_b _)
                  have agV198 : agr [(0, 7), (0, 8)] [13, 14, 15, 21, 53] V V198 := agV42.up hV198 rfl
                  obtain ⟨z199, ez199⟩ : ∃ y : Int32, y = y41 + 1 := ⟨_, rfl⟩
                  have hz199 : z199.toInt = y41.toInt + 1 := i_add ez199 rfl (by decide) (by omega)
                  refine lv_iinc (v := z199) (lv' := [(4, .int z199), (2, .long z25), (1, .int z5), (0, .ref (ad 0))]) hx hb dX12_toldType_95 hl (k := 0) rfl (by rw [ez199]; rfl) (by decide) rfl (fun ls hl => ?_)
                  refine lv_goto (tgt := 57) hx hb dX12_toldType_98 (by decide) ?_
                  exact ihlp43 z199 V198 H locs ls (by omega) (by omega) (agr.up (agr.tr agr.rf ajV42 (by decide) (by decide)) hV198 rfl) hMV198 hP hD hS (lv_sub hl [0, 1, 2, 3] rfl)
          exact lp43 ((24 - (Int32.toInt 0) + 1 : Int).toNat) 0 V29 H locs ls (by decide) (by omega) agr.rf hMV29 hP hD hS (lv_sub hl [0, 1, 2, 3] rfl)
        · skip
          have hb200 : ∀ k, Rc gT (Crun gs (Istmt :: k)) (Cbad (V29 0 8).toInt) := fun k => Rc.go1 (hr19 k) (nt_b h33)
          have r201 : 0 ≤ ((V29 0 8)).toInt ∧ ((V29 0 8)).toInt ≤ 70000 := hMV29 0 8
          refine lv_lstore_n (lv' := [(2, .long z25), (1, .int z5), (0, .ref (ad 0))]) hx hb dX12_toldType_53 rfl hl (by decide) rfl (fun ls hl => ?_)
          refine lv_iconst (v := 0) hx hb dX12_toldType_54 (by decide) ?_
          refine lv_istore (lv' := [(4, .int 0), (2, .long z25), (1, .int z5), (0, .ref (ad 0))]) hx hb dX12_toldType_55 hl (by decide) rfl (fun ls hl => ?_)
          have lp204 : ∀ (fulp204 : Nat) (y202 : Int32) (V203 : Vf) (H : Heap) (locs : List Loc) (ls : Array Slot), 0 ≤ y202.toInt ∧ y202.toInt ≤ 24 → 24 - y202.toInt < (fulp204 : Int) → agr [] [15] V29 V203 → rgd bM V203 → va_P D vwCl (mw ad kk ks.1 V203 L) H → va_D A (mw ad kk ks.1 V203 L) → va_S A s.heap H locs → lv_has ls 5 [(4, .int y202), (2, .long z25), (1, .int z5), (0, .ref (ad 0))] → W p l e r_s_toldTypeA s m ([.ref (ad 0)] : List Value).toArray below meth c H locs 0 0 (MQ below (q_s_toldTypeA D ks ad kk V L  bq gn gT gs A) ([.ref (ad 0)] : List Value).toArray s 0 0 A) (F0 m 57 ls []) := by
            intro fulp204
            induction fulp204 with
            | zero =>
              intro y202 V203 H locs ls klp204_0 hn ajV203 hMV203 hP hD hS hl
              exfalso; omega
            | succ fulp204 ihlp204 =>
              intro y202 V203 H locs ls klp204_0 hn ajV203 hMV203 hP hD hS hl
              have agV203 : agr [(0, 7), (0, 8)] [13, 14, 15, 21, 53] V V203 := agV29.tr ajV203 (by decide) (by decide)
              refine lv_iload hx hb dX12_toldType_57 (lv_at hl 0 rfl) ?_
              refine lv_bipush (v := 24) hx hb dX12_toldType_59 (by decide) ?_
              refine lv_icmp_ge (tgt := 101) hx hb dX12_toldType_61 (by decide) (fun c205 => ?_) (fun c205 => ?_)
              · skip
                have f206 : 24 ≤ y202.toInt := b_le (by decide) rfl c205
                refine lv_aload_n hx hb dX12_toldType_101 rfl (lv_at hl 3 rfl) ?_
                refine lv_iconst (v := 1) hx hb dX12_toldType_102 (by decide) ?_
                have r207 : Int32.toInt 1 = 1 := by decide
                have pq208 : (V203 0 8).toInt = ((V29 0 8)).toInt := congrArg Int32.toInt (ajV203 0 8 rfl)
                refine gA_int (gA_runV (As := [.int 1]) (rest := []) (ci := 12) (q0 := 0) hx hb hml hown hg hP hD hK hS hA hnw hgk (s_hasWordB l D ks H.size ad kk V203 L 1 hMV203 (by decide) (show 1 ≤ (V203 0 8).toInt from by omega)) w2051 w2053 w90 w172 w2054 rfl rfl hdV_yX12_hasWord ⟨Nat.le_of_ble_eq_true rfl, Nat.le_of_ble_eq_true rfl⟩ rfl hl.1 rfl (Nat.le_of_ble_eq_true rfl) dX12_toldType_103 ⟨Nat.le_of_ble_eq_true rfl, Nat.le_of_ble_eq_true rfl⟩) hP hD hK hS hA (fun z209 u210 H locs w211 hP hD hK hS => ?_)
                obtain ⟨V213, L214⟩ := u210
                obtain ⟨hMV213, ajV213, axL214, rgz209, t212⟩ := w211
                have axL214 : L = L214 := Eq.symm axL214
                subst axL214
                have hP : va_P D vwCl (mw ad kk ks.1 V213 L) H := hP
                have hD : va_D A (mw ad kk ks.1 V213 L) := hD
                have hMV213 : rgd bM V213 := hMV213
                have ajV213 : agr [(0, 7)] [] V203 V213 := ajV213
                have agV213 : agr [(0, 7), (0, 8)] [13, 14, 15, 21, 53] V V213 := agV203.tr ajV213 (by decide) (by decide)
                have rgz209 : 0 ≤ z209.toInt ∧ z209.toInt ≤ 0 := rgz209
                have t212 : (V213 0 8).toInt = (V203 0 8).toInt := t212
                have pq215 : (V213 0 8).toInt = ((V29 0 8)).toInt := congrArg Int32.toInt ((ajV213 0 8 rfl).trans (ajV203 0 8 rfl))
                refine lv_if_eq (tgt := 118) hx hb dX12_toldType_106 (by decide) (fun c216 => ?_) (fun c216 => ?_)
                · skip
                  have f217 : z209.toInt = 0 := b_eq rfl (by decide) c216
                  refine lv_aload_n hx hb dX12_toldType_118 rfl (lv_at hl 3 rfl) ?_
                  refine lv_bipush (v := 59) hx hb dX12_toldType_119 (by decide) ?_
                  have r218 : Int32.toInt 59 = 59 := by decide
                  refine gA_void (gA_runV (As := [.int 59]) (rest := []) (ci := 12) (q0 := 0) hx hb hml hown hg hP hD hK hS hA hnw hgk (s_takeSignB l D ks H.size ad kk V213 L 59 hMV213 (show 1 ≤ (V213 0 8).toInt from by omega)) w2075 w2077 w96 w172 w2078 rfl rfl hdV_yX12_takeSign ⟨Nat.le_of_ble_eq_true rfl, Nat.le_of_ble_eq_true rfl⟩ rfl hl.1 rfl (Nat.le_of_ble_eq_true rfl) dX12_toldType_121 ⟨Nat.le_of_ble_eq_true rfl, Nat.le_of_ble_eq_true rfl⟩) hP hD hK hS hA (fun u220 H locs w221 hP hD hK hS => ?_)
                  obtain ⟨V223, L224⟩ := u220
                  obtain ⟨hMV223, ajV223, axL224, t222⟩ := w221
                  have axL224 : L = L224 := Eq.symm axL224
                  subst axL224
                  have hP : va_P D vwCl (mw ad kk ks.1 V223 L) H := hP
                  have hD : va_D A (mw ad kk ks.1 V223 L) := hD
                  have hMV223 : rgd bM V223 := hMV223
                  have ajV223 : agr [(0, 7), (0, 8)] [] V213 V223 := ajV223
                  have agV223 : agr [(0, 7), (0, 8)] [13, 14, 15, 21, 53] V V223 := agV213.tr ajV223 (by decide) (by decide)
                  have t222 : (V223 0 8).toInt = (V213 0 8).toInt := t222
                  have r225 : 0 ≤ ((V223 0 8)).toInt ∧ ((V223 0 8)).toInt ≤ 70000 := hMV223 0 8
                  refine lv_aload_n hx hb dX12_toldType_124 rfl (lv_at hl 3 rfl) ?_
                  refine va_get (D := D) (ci := 12) (v := .ref (ad 14)) (C := RX12) (T := TX12) (N := 100) hx hb hg inX12 hown hK hP 0 rfl rfl 14 (by decide) (hg _ w1720) (fun _ h9 => h9) rfl dX12_toldType_125 ?_
                  refine lv_iload_n hx hb dX12_toldType_128 rfl (lv_at hl 2 rfl) ?_
                  refine lv_lload_n hx hb dX12_toldType_129 rfl (lv_at hl 1 rfl) ?_
                  refine va_last (D := D) (i := z5) (x := z25) hx hb hK hP hD hS 7 6 rfl rfl (i_in (a := z5.toInt) rfl (by omega)) dX12_toldType_130 (fun H locs hP hD hS => ?_)
                  obtain ⟨L226, hL226⟩ : ∃ z, z = upL L 14 (Int32.toNatClampNeg z5) z25 := ⟨_, rfl⟩
                  have hP : va_P D vwCl (mw ad kk ks.1 V223 L226) H := by rw [hL226]; exact hP
                  have hD : va_D A (mw ad kk ks.1 V223 L226) := by rw [hL226]; exact hD
                  have alL226 : agL [13, 14, 15, 21, 53] L L226 := agL.up alL hL226 rfl
                  refine lv_aload_n hx hb dX12_toldType_131 rfl (lv_at hl 3 rfl) ?_
                  refine va_get (D := D) (ci := 12) (v := .ref (ad 13)) (C := RX12) (T := TX12) (N := 100) hx hb hg inX12 hown hK hP 0 rfl rfl 13 (by decide) (hg _ w1719) (fun _ h9 => h9) rfl dX12_toldType_132 ?_
                  refine lv_aload_n hx hb dX12_toldType_135 rfl (lv_at hl 3 rfl) ?_
                  refine va_get (D := D) (ci := 12) (v := .int (V223 0 12)) (C := RX12) (T := TX12) (N := 100) hx hb hg inX12 hown hK hP 0 rfl rfl 12 (by decide) (hg _ w1718) (fun _ h9 => h9) rfl dX12_toldType_136 ?_
                  refine g_top (v := (V 0 12)) ((ajV223 0 12 rfl).trans ((ajV213 0 12 rfl).trans ((ajV203 0 12 rfl).trans ((ajV29 0 12 rfl).trans (ajV13 0 12 rfl))))) ?_
                  refine lv_dup2_11 hx hb dX12_toldType_139 rfl rfl ?_
                  refine va_iald (D := D) (i := (V 0 12)) hx hb hK hP 6 5 rfl rfl (i_in (a := ((V 0 12)).toInt) rfl (by omega)) dX12_toldType_140 ?_
                  refine g_top (v := (V 13 (Int32.toNatClampNeg (V 0 12)))) ((ajV223 13 (Int32.toNatClampNeg (V 0 12)) rfl).trans ((ajV213 13 (Int32.toNatClampNeg (V 0 12)) rfl).trans ((ajV203 13 (Int32.toNatClampNeg (V 0 12)) rfl).trans ((ajV29 13 (Int32.toNatClampNeg (V 0 12)) rfl).trans (ajV13 13 (Int32.toNatClampNeg (V 0 12)) rfl))))) ?_
                  refine lv_iconst (v := 1) hx hb dX12_toldType_141 (by decide) ?_
                  refine lv_iadd hx hb dX12_toldType_142 ?_
                  refine lv_topi (fun z227 ez227 => ?_)
                  have hz227 : z227.toInt = ((V 13 (Int32.toNatClampNeg (V 0 12)))).toInt + 1 := i_add ez227 rfl (by decide) (by omega)
                  refine va_iast (D := D) (i := (V 0 12)) (x := z227) hx hb hK hP hD hS 6 5 rfl rfl (i_in (a := ((V 0 12)).toInt) rfl (by omega)) dX12_toldType_143 (fun H locs hP hD hS => ?_)
                  obtain ⟨V228, hV228⟩ : ∃ z, z = up2 V223 13 (Int32.toNatClampNeg (V 0 12)) z227 := ⟨_, rfl⟩
                  have hP : va_P D vwCl (mw ad kk ks.1 V228 L226) H := by rw [hV228]; exact hP
                  have hD : va_D A (mw ad kk ks.1 V228 L226) := by rw [hV228]; exact hD
                  have hMV228 : rgd bM V228 := hMV223.put hV228 (show 0 ≤ z227.toInt ∧ z227.toInt ≤ 24 from by omega)
                  have agV228 : agr [(0, 7), (0, 8)] [13, 14, 15, 21, 53] V V228 := agV223.up hV228 rfl
                  have pq229 : (V228 0 7).toInt = ((V223 0 7)).toInt := congrArg Int32.toInt (up2_o hV228 (by decide))
                  have pq230 : (V228 0 48).toInt = ((V 0 48)).toInt := congrArg Int32.toInt ((up2_o hV228 (by decide)).trans ((ajV223 0 48 rfl).trans ((ajV213 0 48 rfl).trans ((ajV203 0 48 rfl).trans ((ajV29 0 48 rfl).trans (ajV13 0 48 rfl))))))
                  have pq231 : (V228 0 8).toInt = ((V223 0 8)).toInt := congrArg Int32.toInt (up2_o hV228 (by decide))
                  have pq232 : (V228 0 12).toInt = ((V 0 12)).toInt := congrArg Int32.toInt ((up2_o hV228 (by decide)).trans ((ajV223 0 12 rfl).trans ((ajV213 0 12 rfl).trans ((ajV203 0 12 rfl).trans ((ajV29 0 12 rfl).trans (ajV13 0 12 rfl))))))
                  exact W.vret hx hb hr (fun t ht hW => ⟨⟨(V228, L226), rfl, ⟨hMV228, agV228, alL226, (Imp.mk (fun hp => have hp : (V228 0 8).toInt = 0 := hp; (show (V228 0 48).toInt ≤ 2 * (V228 0 7).toInt from by omega))), (show (V228 0 48).toInt ≤ 8200 from by omega), (show (V228 0 12).toInt = (V 0 12).toInt from by omega), (Or.inr ⟨(show 1 ≤ (V228 0 8).toInt from by omega), (fun k => by rw [show (V228 0 8).toInt = (V29 0 8).toInt from by omega]; exact hb200 k)⟩)⟩, by rw [ht]; exact hP, va_K.moved hW.alike hK, hD⟩, hS.F ht⟩) hS.2.2 dX12_toldType_144
                · skip
                  have f233 : z209.toInt ≠ 0 := b_neq rfl (by decide) c216
                  exfalso; omega
              · skip
                have f234 : y202.toInt < 24 := b_nle (by decide) rfl c205
                refine lv_aload_n hx hb dX12_toldType_64 rfl (lv_at hl 3 rfl) ?_
                refine va_get (D := D) (ci := 12) (v := .ref (ad 15)) (C := RX12) (T := TX12) (N := 100) hx hb hg inX12 hown hK hP 0 rfl rfl 15 (by decide) (hg _ w1721) (fun _ h9 => h9) rfl dX12_toldType_65 ?_
                refine lv_bipush (v := 24) hx hb dX12_toldType_68 (by decide) ?_
                refine lv_iload_n hx hb dX12_toldType_70 rfl (lv_at hl 2 rfl) ?_
                refine lv_imul hx hb dX12_toldType_71 ?_
                refine lv_topi (fun z235 ez235 => ?_)
                have hz235 : z235.toInt = 24 * z5.toInt := i_mul ez235 (by decide) rfl (by omega)
                refine lv_iload hx hb dX12_toldType_72 (lv_at hl 0 rfl) ?_
                refine lv_iadd hx hb dX12_toldType_74 ?_
                refine lv_topi (fun z236 ez236 => ?_)
                have hz236 : z236.toInt = z235.toInt + y202.toInt := i_add ez236 rfl rfl (by omega)
                refine lv_iload hx hb dX12_toldType_75 (lv_at hl 0 rfl) ?_
                refine lv_aload_n hx hb dX12_toldType_77 rfl (lv_at hl 3 rfl) ?_
                refine va_get (D := D) (ci := 12) (v := .ref (ad 13)) (C := RX12) (T := TX12) (N := 100) hx hb hg inX12 hown hK hP 0 rfl rfl 13 (by decide) (hg _ w1719) (fun _ h9 => h9) rfl dX12_toldType_78 ?_
                refine lv_aload_n hx hb dX12_toldType_81 rfl (lv_at hl 3 rfl) ?_
                refine va_get (D := D) (ci := 12) (v := .int (V203 0 12)) (C := RX12) (T := TX12) (N := 100) hx hb hg inX12 hown hK hP 0 rfl rfl 12 (by decide) (hg _ w1718) (fun _ h9 => h9) rfl dX12_toldType_82 ?_
                refine g_top (v := (V 0 12)) ((ajV203 0 12 rfl).trans ((ajV29 0 12 rfl).trans (ajV13 0 12 rfl))) ?_
                refine va_iald (D := D) (i := (V 0 12)) hx hb hK hP 6 5 rfl rfl (i_in (a := ((V 0 12)).toInt) rfl (by omega)) dX12_toldType_85 ?_
                refine g_top (v := (V 13 (Int32.toNatClampNeg (V 0 12)))) ((ajV203 13 (Int32.toNatClampNeg (V 0 12)) rfl).trans ((ajV29 13 (Int32.toNatClampNeg (V 0 12)) rfl).trans (ajV13 13 (Int32.toNatClampNeg (V 0 12)) rfl))) ?_
                refine lv_icmp_ne (tgt := 93) hx hb dX12_toldType_86 (by decide) (fun c237 => ?_) (fun c237 => ?_)
                · skip
                  have f238 : y202.toInt ≠ ((V 13 (Int32.toNatClampNeg (V 0 12)))).toInt := b_neq rfl rfl c237
                  refine lv_iconst (v := 0) hx hb dX12_toldType_93 (by decide) ?_
                  refine va_zast (D := D) (i := z236) (x := 0) hx hb hK hP hD hS 8 7 rfl rfl (i_in (a := z236.toInt) rfl (by omega)) dX12_toldType_94 (fun H locs hP hD hS => ?_)
                  obtain ⟨V239, hV239⟩ : ∃ z, z = up2 V203 15 (Int32.toNatClampNeg z236) (vp_nar .boolean 0) := ⟨_, rfl⟩
                  have hP : va_P D vwCl (mw ad kk ks.1 V239 L) H := by rw [hV239]; exact hP
                  have hD : va_D A (mw ad kk ks.1 V239 L) := by rw [hV239]; exact hD
                  have hMV239 : rgd bM V239 := hMV203.put hV239 (nar_b _)
                  have agV239 : agr [(0, 7), (0, 8)] [13, 14, 15, 21, 53] V V239 := agV203.up hV239 rfl
                  obtain ⟨z240, ez240⟩ : ∃ y : Int32, y = y202 + 1 := ⟨_, rfl⟩
                  have hz240 : z240.toInt = y202.toInt + 1 := i_add ez240 rfl (by decide) (by omega)
                  refine lv_iinc (v := z240) (lv' := [(4, .int z240), (2, .long z25), (1, .int z5), (0, .ref (ad 0))]) hx hb dX12_toldType_95 hl (k := 0) rfl (by rw [ez240]; rfl) (by decide) rfl (fun ls hl => ?_)
                  refine lv_goto (tgt := 57) hx hb dX12_toldType_98 (by decide) ?_
                  exact ihlp204 z240 V239 H locs ls (by omega) (by omega) (agr.up (agr.tr agr.rf ajV203 (by decide) (by decide)) hV239 rfl) hMV239 hP hD hS (lv_sub hl [0, 1, 2, 3] rfl)
                · skip
                  have f241 : y202.toInt = ((V 13 (Int32.toNatClampNeg (V 0 12)))).toInt := b_eq rfl rfl c237
                  refine lv_iconst (v := 1) hx hb dX12_toldType_89 (by decide) ?_
                  refine lv_goto (tgt := 94) hx hb dX12_toldType_90 (by decide) ?_
                  refine va_zast (D := D) (i := z236) (x := 1) hx hb hK hP hD hS 8 7 rfl rfl (i_in (a := z236.toInt) rfl (by omega)) dX12_toldType_94 (fun H locs hP hD hS => ?_)
                  obtain ⟨V242, hV242⟩ : ∃ z, z = up2 V203 15 (Int32.toNatClampNeg z236) (vp_nar .boolean 1) := ⟨_, rfl⟩
                  have hP : va_P D vwCl (mw ad kk ks.1 V242 L) H := by rw [hV242]; exact hP
                  have hD : va_D A (mw ad kk ks.1 V242 L) := by rw [hV242]; exact hD
                  have hMV242 : rgd bM V242 := hMV203.put hV242 (nar_b _)
                  have agV242 : agr [(0, 7), (0, 8)] [13, 14, 15, 21, 53] V V242 := agV203.up hV242 rfl
                  obtain ⟨z243, ez243⟩ : ∃ y : Int32, y = y202 + 1 := ⟨_, rfl⟩
                  have hz243 : z243.toInt = y202.toInt + 1 := i_add ez243 rfl (by decide) (by omega)
                  refine lv_iinc (v := z243) (lv' := [(4, .int z243), (2, .long z25), (1, .int z5), (0, .ref (ad 0))]) hx hb dX12_toldType_95 hl (k := 0) rfl (by rw [ez243]; rfl) (by decide) rfl (fun ls hl => ?_)
                  refine lv_goto (tgt := 57) hx hb dX12_toldType_98 (by decide) ?_
                  exact ihlp204 z243 V242 H locs ls (by omega) (by omega) (agr.up (agr.tr agr.rf ajV203 (by decide) (by decide)) hV242 rfl) hMV242 hP hD hS (lv_sub hl [0, 1, 2, 3] rfl)
          exact lp204 ((24 - (Int32.toInt 0) + 1 : Int).toNat) 0 V29 H locs ls (by decide) (by omega) agr.rf hMV29 hP hD hS (lv_sub hl [0, 1, 2, 3] rfl)
      · skip
        have f244 : 0 < ((V13 0 8)).toInt := b_nle rfl (by decide) c23
        exfalso; omega
    · skip
      exfalso; omega
  · skip
    have f245 : ((V 13 (Int32.toNatClampNeg (V 0 12)))).toInt = 24 := b_eq rfl (by decide) c6
    refine lv_iconst (v := 1) hx hb dX12_toldType_33 (by decide) ?_
    refine lv_goto (tgt := 38) hx hb dX12_toldType_34 (by decide) ?_
    have r246 : Int32.toInt 1 = 1 := by decide
    refine gA_void (gA_runV (As := [.int 1]) (rest := []) (ci := 12) (q0 := 0) hx hb hml hown hg hP hD hK hS hA hnw hgk (s_beginsA l D ks H.size ad kk V L 1 (bq) (gn) (gT) (gs) ((gs.2.1 2)) hMV (by decide) rel (by rw [kd9]; decide)) w2031 w2033 w85 w172 w2034 rfl rfl hdV_yX12_begins ⟨Nat.le_of_ble_eq_true rfl, Nat.le_of_ble_eq_true rfl⟩ rfl hl.1 rfl (Nat.le_of_ble_eq_true rfl) dX12_toldType_38 ⟨Nat.le_of_ble_eq_true rfl, Nat.le_of_ble_eq_true rfl⟩) hP hD hK hS hA (fun u248 H locs w249 hP hD hK hS => ?_)
    obtain ⟨V251, L252⟩ := u248
    obtain ⟨hMV251, ajV251, axL252, t250⟩ := w249
    have axL252 : L = L252 := Eq.symm axL252
    subst axL252
    have hP : va_P D vwCl (mw ad kk ks.1 V251 L) H := hP
    have hD : va_D A (mw ad kk ks.1 V251 L) := hD
    have hMV251 : rgd bM V251 := hMV251
    have ajV251 : agr [(0, 7), (0, 8)] [] V V251 := ajV251
    have agV251 : agr [(0, 7), (0, 8)] [13, 14, 15, 21, 53] V V251 := agV.tr ajV251 (by decide) (by decide)
    have t250 : ((Int32.toInt 1) = 0 ∧ (V251 0 8).toInt = 0 ∧ RelM V251 L (bq) (gn) (gT) (nx (gs) 1) ((gs.2.1 2))) ∨ ((Int32.toInt 1) = 1 ∧ 1 ≤ (V251 0 8).toInt ∧ (V251 0 8).toInt = 5 + 16 * (gT).2.2 ((gs).1 0)) := t250
    rcases t250 with ⟨q253, f254, rl255⟩ | ⟨q253, f254, rl255⟩
    · skip
      exfalso; omega
    · skip
      have hr256 : ∀ k, Rc gT (Crun gs (Istmt :: k)) (Crun gs (Istmt :: k)) := fun k => Rc.rf
      have hb257 : ∀ k, Rc gT (Crun gs (Istmt :: k)) (Cbad (V251 0 8).toInt) := fun k => Rc.go1 (hr256 k) ((st_128f kd9 (by omega)).trans (fl_eq rfl rl255))
      have r258 : 0 ≤ ((V251 0 8)).toInt ∧ ((V251 0 8)).toInt ≤ 70000 := hMV251 0 8
      refine lv_aload_n hx hb dX12_toldType_41 rfl (lv_at hl 1 rfl) ?_
      refine va_get (D := D) (ci := 12) (v := .int (V251 0 8)) (C := RX12) (T := TX12) (N := 100) hx hb hg inX12 hown hK hP 0 rfl rfl 8 (by decide) (hg _ w1714) (fun _ h9 => h9) rfl dX12_toldType_42 ?_
      refine lv_if_le (tgt := 49) hx hb dX12_toldType_45 (by decide) (fun c259 => ?_) (fun c259 => ?_)
      · skip
        have f260 : ((V251 0 8)).toInt ≤ 0 := b_le rfl (by decide) c259
        exfalso; omega
      · skip
        have f261 : 0 < ((V251 0 8)).toInt := b_nle rfl (by decide) c259
        have pq262 : (V251 0 48).toInt = ((V 0 48)).toInt := congrArg Int32.toInt (ajV251 0 48 rfl)
        have pq263 : (V251 0 12).toInt = ((V 0 12)).toInt := congrArg Int32.toInt (ajV251 0 12 rfl)
        exact W.vret hx hb hr (fun t ht hW => ⟨⟨(V251, L), rfl, ⟨hMV251, agV251, alL, (Imp.mk (fun hp => have hp : (V251 0 8).toInt = 0 := hp; (show (V251 0 48).toInt ≤ 2 * (V251 0 7).toInt from by omega))), (show (V251 0 48).toInt ≤ 8200 from by omega), (show (V251 0 12).toInt = (V 0 12).toInt from by omega), (Or.inr ⟨(show 1 ≤ (V251 0 8).toInt from by omega), hb257⟩)⟩, by rw [ht]; exact hP, va_K.moved hW.alike hK, hD⟩, hS.F ht⟩) hS.2.2 dX12_toldType_48
abbrev r_s_toldSettingA : Room := { frames := 2, cells := 0, slots := 0, locals := 47 }
abbrev q_s_toldSettingA (D : va_G) (ks : KS) (ad : Nat → Nat) (kk : Nat → ClassId) (V : Vf) (L : Lf) (bq : Nat) (gn : Nat) (gT : Tk) (gs : St) (A : Nat → Prop) : Array Value → State → Outcome → State → Prop := va_Qv (fun (u : Vf × Lf) => rgd bM u.1 ∧ agr [(0, 7), (0, 8)] [16, 17, 18] V u.1 ∧ agL [16, 17, 18] L u.2 ∧ (Imp ((u.1 0 8).toInt = 0) ((u.1 0 48).toInt ≤ 2 * (u.1 0 7).toInt)) ∧ ((u.1 0 48).toInt ≤ 8200) ∧ ((u.1 0 12).toInt = (V 0 12).toInt) ∧ (RdM gT gs (fun k => Istmt :: k) (fun k => Istmt :: k) (u.1 0 8).toInt (fun s9 => RelM u.1 u.2 bq gn gT s9 (s9.2.1 2) ∧ gs.1 0 + 1 ≤ s9.1 0 ∧ ARm s9))) (fun u t => gq D A (mw ad kk ks.1 u.1 u.2) (mty kk) t) A
set_option maxHeartbeats 4000000 in
set_option maxRecDepth 100000 in
theorem s_toldSettingA (l : Launch) (D : va_G) (ks : KS) (sz : Nat) (ad : Nat → Nat) (kk : Nat → ClassId) (V : Vf) (L : Lf) (bq : Nat) (gn : Nat) (gT : Tk) (gs : St) (hMV : rgd bM V) (rel : RelM V L bq gn gT gs (gs.2.1 2)) (kd9 : gT.1 (gs.1 0) = 130) (cc : (V 0 48).toInt ≤ 2 * (V 0 7).toInt) (arm : ARm gs)  : Met l yX12_toldSetting (Cond.code yX12_toldSetting cX12_toldSetting 2 none :: GW) r_s_toldSettingA (va_Pc [.ref (ad 0)] (gp D ks (mw ad kk ks.1 V L) (mty kk) sz)) (q_s_toldSettingA D ks ad kk V L  bq gn gT gs (va_A (mw ad kk ks.1 V L) sz)) 0 0 (va_A (mw ad kk ks.1 V L) sz) := by
  refine g_met (q_s_toldSettingA D ks ad kk V L  bq gn gT gs) (by decide) (Nat.le_of_ble_eq_true rfl) ?_
  intro p e s m below meth c A ls H locs hx hb hr hml hown hg hlocks hin hnw hgk hP hK hD hS hA hl
  have hown : s.vm.findClass RX12 = some m.cls := hown
  have hl : lv_has ls 2 [(0, .ref (ad 0))] := hl
  have hP : va_P D vwCl (mw ad kk ks.1 V L) H := hP
  have hD : va_D A (mw ad kk ks.1 V L) := hD
  have hK : va_K D vwCl (mty kk) s := hK
  have agV : agr [(0, 7), (0, 8)] [16, 17, 18] V V := agr.rf
  have alL : agL [16, 17, 18] L L := agL.rf
  have r1 : 0 ≤ ((V 0 48)).toInt ∧ ((V 0 48)).toInt ≤ 10000 := hMV 0 48
  have rg0 := RelM.rg rel
  have cl0 := RelM.cl rel
  have cq0 := RelM.cq rel
  have ln0 := RelM.len rel
  have q13 : (V 13 (Int32.toNatClampNeg (V 0 12))).toInt = (V 13 bq).toInt := by rw [cq0]
  have q16 : (V 16 (Int32.toNatClampNeg (V 0 12))).toInt = (V 16 bq).toInt := by rw [cq0]
  have q19 : (V 19 (Int32.toNatClampNeg (V 0 12))).toInt = (V 19 bq).toInt := by rw [cq0]
  have q39 : (V 39 (Int32.toNatClampNeg (V 0 12))).toInt = (V 39 bq).toInt := by rw [cq0]
  refine lv_bipush (v := 12) hx hb dX12_toldSetting_0 (by decide) ?_
  refine lv_aload_n hx hb dX12_toldSetting_2 rfl (lv_at hl 0 rfl) ?_
  refine va_get (D := D) (ci := 12) (v := .int (V 0 12)) (C := RX12) (T := TX12) (N := 100) hx hb hg inX12 hown hK hP 0 rfl rfl 12 (by decide) (hg _ w1718) (fun _ h9 => h9) rfl dX12_toldSetting_3 ?_
  have r2 : 0 ≤ ((V 0 12)).toInt ∧ ((V 0 12)).toInt ≤ 1 := hMV 0 12
  refine lv_imul hx hb dX12_toldSetting_6 ?_
  refine lv_topi (fun z3 ez3 => ?_)
  have hz3 : z3.toInt = 12 * ((V 0 12)).toInt := i_mul ez3 (by decide) rfl (by omega)
  refine lv_aload_n hx hb dX12_toldSetting_7 rfl (lv_at hl 0 rfl) ?_
  refine va_get (D := D) (ci := 12) (v := .ref (ad 16)) (C := RX12) (T := TX12) (N := 100) hx hb hg inX12 hown hK hP 0 rfl rfl 16 (by decide) (hg _ w1722) (fun _ h9 => h9) rfl dX12_toldSetting_8 ?_
  refine lv_aload_n hx hb dX12_toldSetting_11 rfl (lv_at hl 0 rfl) ?_
  refine va_get (D := D) (ci := 12) (v := .int (V 0 12)) (C := RX12) (T := TX12) (N := 100) hx hb hg inX12 hown hK hP 0 rfl rfl 12 (by decide) (hg _ w1718) (fun _ h9 => h9) rfl dX12_toldSetting_12 ?_
  refine va_iald (D := D) (i := (V 0 12)) hx hb hK hP 9 8 rfl rfl (i_in (a := ((V 0 12)).toInt) rfl (by omega)) dX12_toldSetting_15 ?_
  have r4 : 0 ≤ ((V 16 (Int32.toNatClampNeg (V 0 12)))).toInt ∧ ((V 16 (Int32.toNatClampNeg (V 0 12)))).toInt ≤ 12 := hMV 16 (Int32.toNatClampNeg (V 0 12))
  refine lv_iadd hx hb dX12_toldSetting_16 ?_
  refine lv_topi (fun z5 ez5 => ?_)
  have hz5 : z5.toInt = z3.toInt + ((V 16 (Int32.toNatClampNeg (V 0 12)))).toInt := i_add ez5 rfl rfl (by omega)
  refine lv_istore_n (lv' := [(1, .int z5), (0, .ref (ad 0))]) hx hb dX12_toldSetting_17 rfl hl (by decide) rfl (fun ls hl => ?_)
  refine lv_aload_n hx hb dX12_toldSetting_18 rfl (lv_at hl 1 rfl) ?_
  refine lv_aload_n hx hb dX12_toldSetting_19 rfl (lv_at hl 1 rfl) ?_
  refine va_get (D := D) (ci := 12) (v := .ref (ad 16)) (C := RX12) (T := TX12) (N := 100) hx hb hg inX12 hown hK hP 0 rfl rfl 16 (by decide) (hg _ w1722) (fun _ h9 => h9) rfl dX12_toldSetting_20 ?_
  refine lv_aload_n hx hb dX12_toldSetting_23 rfl (lv_at hl 1 rfl) ?_
  refine va_get (D := D) (ci := 12) (v := .int (V 0 12)) (C := RX12) (T := TX12) (N := 100) hx hb hg inX12 hown hK hP 0 rfl rfl 12 (by decide) (hg _ w1718) (fun _ h9 => h9) rfl dX12_toldSetting_24 ?_
  refine va_iald (D := D) (i := (V 0 12)) hx hb hK hP 9 8 rfl rfl (i_in (a := ((V 0 12)).toInt) rfl (by omega)) dX12_toldSetting_27 ?_
  refine lv_bipush (v := 12) hx hb dX12_toldSetting_28 (by decide) ?_
  refine lv_icmp_ne (tgt := 37) hx hb dX12_toldSetting_30 (by decide) (fun c6 => ?_) (fun c6 => ?_)
  · skip
    have f7 : ((V 16 (Int32.toNatClampNeg (V 0 12)))).toInt ≠ 12 := b_neq rfl (by decide) c6
    refine lv_iconst (v := 0) hx hb dX12_toldSetting_37 (by decide) ?_
    have r8 : Int32.toInt 0 = 0 := by decide
    refine gA_void (gA_runV (As := [.int 0]) (rest := []) (ci := 12) (q0 := 0) hx hb hml hown hg hP hD hK hS hA hnw hgk (s_beginsA l D ks H.size ad kk V L 0 (bq) (gn) (gT) (gs) ((gs.2.1 2)) hMV (by decide) rel (by rw [kd9]; decide)) w2031 w2033 w85 w172 w2034 rfl rfl hdV_yX12_begins ⟨Nat.le_of_ble_eq_true rfl, Nat.le_of_ble_eq_true rfl⟩ rfl hl.1 rfl (Nat.le_of_ble_eq_true rfl) dX12_toldSetting_38 ⟨Nat.le_of_ble_eq_true rfl, Nat.le_of_ble_eq_true rfl⟩) hP hD hK hS hA (fun u10 H locs w11 hP hD hK hS => ?_)
    obtain ⟨V13, L14⟩ := u10
    obtain ⟨hMV13, ajV13, axL14, t12⟩ := w11
    have axL14 : L = L14 := Eq.symm axL14
    subst axL14
    have hP : va_P D vwCl (mw ad kk ks.1 V13 L) H := hP
    have hD : va_D A (mw ad kk ks.1 V13 L) := hD
    have hMV13 : rgd bM V13 := hMV13
    have ajV13 : agr [(0, 7), (0, 8)] [] V V13 := ajV13
    have agV13 : agr [(0, 7), (0, 8)] [16, 17, 18] V V13 := agV.tr ajV13 (by decide) (by decide)
    have t12 : ((Int32.toInt 0) = 0 ∧ (V13 0 8).toInt = 0 ∧ RelM V13 L (bq) (gn) (gT) (nx (gs) 1) ((gs.2.1 2))) ∨ ((Int32.toInt 0) = 1 ∧ 1 ≤ (V13 0 8).toInt ∧ (V13 0 8).toInt = 5 + 16 * (gT).2.2 ((gs).1 0)) := t12
    rcases t12 with ⟨q15, f16, rl17⟩ | ⟨q15, f16, rl17⟩
    · skip
      have hr18 : ∀ k, Rc gT (Crun gs (Istmt :: k)) (Crun gs (Istmt :: k)) := fun k => Rc.rf
      have hr19 : ∀ k, Rc gT (Crun gs (Istmt :: k)) (Crun (nx gs 1) (InewSet :: k)) := fun k => Rc.go1 (hr18 k) (st_130 kd9 (by omega))
      have ps20 : (nx gs 1).1 0 = gs.1 0 + 1 := rfl
      have fz21 := RelM.rg rl17
      have r22 : 0 ≤ ((V13 0 8)).toInt ∧ ((V13 0 8)).toInt ≤ 70000 := hMV13 0 8
      refine lv_aload_n hx hb dX12_toldSetting_41 rfl (lv_at hl 1 rfl) ?_
      refine va_get (D := D) (ci := 12) (v := .int (V13 0 8)) (C := RX12) (T := TX12) (N := 100) hx hb hg inX12 hown hK hP 0 rfl rfl 8 (by decide) (hg _ w1714) (fun _ h9 => h9) rfl dX12_toldSetting_42 ?_
      refine lv_if_le (tgt := 49) hx hb dX12_toldSetting_45 (by decide) (fun c23 => ?_) (fun c23 => ?_)
      · skip
        have f24 : ((V13 0 8)).toInt ≤ 0 := b_le rfl (by decide) c23
        refine lv_aload_n hx hb dX12_toldSetting_49 rfl (lv_at hl 1 rfl) ?_
        refine va_get (D := D) (ci := 12) (v := .ref (ad 17)) (C := RX12) (T := TX12) (N := 100) hx hb hg inX12 hown hK hP 0 rfl rfl 17 (by decide) (hg _ w1723) (fun _ h9 => h9) rfl dX12_toldSetting_50 ?_
        refine lv_iload_n hx hb dX12_toldSetting_53 rfl (lv_at hl 0 rfl) ?_
        refine lv_aload_n hx hb dX12_toldSetting_54 rfl (lv_at hl 1 rfl) ?_
        refine gA_long (gA_runV (As := []) (rest := [.int z5, .ref (ad 17)]) (ci := 12) (q0 := 0) hx hb hml hown hg hP hD hK hS hA hnw hgk (s_newNameA l D ks H.size ad kk V13 L (bq) (gn) (gT) ((nx gs 1)) hMV13 rl17) w2039 w2041 w87 w172 w2042 rfl rfl hdV_yX12_newName ⟨Nat.le_of_ble_eq_true rfl, Nat.le_of_ble_eq_true rfl⟩ rfl hl.1 rfl (Nat.le_of_ble_eq_true rfl) dX12_toldSetting_55 ⟨Nat.le_of_ble_eq_true rfl, Nat.le_of_ble_eq_true rfl⟩) hP hD hK hS hA (fun z25 u26 H locs w27 hP hD hK hS => ?_)
        obtain ⟨V29, L30⟩ := u26
        obtain ⟨hMV29, ajV29, axL30, t28⟩ := w27
        have axL30 : L = L30 := Eq.symm axL30
        subst axL30
        have hP : va_P D vwCl (mw ad kk ks.1 V29 L) H := hP
        have hD : va_D A (mw ad kk ks.1 V29 L) := hD
        have hMV29 : rgd bM V29 := hMV29
        have ajV29 : agr [(0, 7), (0, 8)] [] V13 V29 := ajV29
        have agV29 : agr [(0, 7), (0, 8)] [16, 17, 18] V V29 := agV13.tr ajV29 (by decide) (by decide)
        have t28 : KmW (newN (gT) ((nx gs 1))) (V29 0 8).toInt (fun w9 => RelM V29 L (bq) (gn) (gT) (nx ((nx gs 1)) 1) (((nx gs 1)).2.1 2) ∧ isTold ((nx gs 1)) w9 = false ∧ z25 = w9) := t28
        rcases t28 with ⟨q31, wx32, h33, rl34, tn35, hw36⟩ | ⟨q31, h33⟩
        · skip
          have hr37 : ∀ k, Rc gT (Crun gs (Istmt :: k)) (Crun (nx (nx gs 1) 1) (Inum 0 999999999 :: Itake 59 :: IaddSe wx32 :: Istmt :: k)) := fun k => Rc.go1 (hr19 k) (ns_y h33)
          have ps38 : (nx (nx gs 1) 1).1 0 = (nx gs 1).1 0 + 1 := rfl
          have fz39 := RelM.rg rl34
          have r40 : 0 ≤ ((V29 0 8)).toInt ∧ ((V29 0 8)).toInt ≤ 70000 := hMV29 0 8
          refine va_last (D := D) (i := z5) (x := z25) hx hb hK hP hD hS 10 9 rfl rfl (i_in (a := z5.toInt) rfl (by omega)) dX12_toldSetting_58 (fun H locs hP hD hS => ?_)
          obtain ⟨L41, hL41⟩ : ∃ z, z = upL L 17 (Int32.toNatClampNeg z5) z25 := ⟨_, rfl⟩
          have hP : va_P D vwCl (mw ad kk ks.1 V29 L41) H := by rw [hL41]; exact hP
          have hD : va_D A (mw ad kk ks.1 V29 L41) := by rw [hL41]; exact hD
          have alL41 : agL [16, 17, 18] L L41 := agL.up alL hL41 rfl
          have pq43 : (V29 16 bq).toInt = ((V 16 bq)).toInt := congrArg Int32.toInt ((ajV29 16 bq rfl).trans (ajV13 16 bq rfl))
          have r44 : 0 ≤ ((V 16 bq)).toInt ∧ ((V 16 bq)).toInt ≤ 12 := hMV 16 bq
          have e17 : L41 17 (Int32.toNatClampNeg z5) = wx32 := (upL_s hL41).trans hw36
          have r16 : 0 ≤ (V29 16 bq).toInt := (hMV29 16 bq).1
          have rl42 : RelM V29 L41 bq gn gT (nx (nx gs 1) 1) (gs.2.1 2) := RelM.l17 (a := z5) rl34 hL41 (by omega) r16
          refine lv_aload_n hx hb dX12_toldSetting_59 rfl (lv_at hl 1 rfl) ?_
          refine va_get (D := D) (ci := 12) (v := .ref (ad 18)) (C := RX12) (T := TX12) (N := 100) hx hb hg inX12 hown hK hP 0 rfl rfl 18 (by decide) (hg _ w1724) (fun _ h9 => h9) rfl dX12_toldSetting_60 ?_
          refine lv_iload_n hx hb dX12_toldSetting_63 rfl (lv_at hl 0 rfl) ?_
          refine lv_aload_n hx hb dX12_toldSetting_64 rfl (lv_at hl 1 rfl) ?_
          refine lv_iconst (v := 0) hx hb dX12_toldSetting_65 (by decide) ?_
          refine lv_ldcw (v := 999999999) hx hb hown (hg _ w2083) dX12_toldSetting_66 ?_
          have r45 : Int32.toInt 999999999 = 999999999 := by decide
          refine gA_int (gA_runV (As := [.int 0, .int 999999999]) (rest := [.int z5, .ref (ad 18)]) (ci := 12) (q0 := 0) hx hb hml hown hg hP hD hK hS hA hnw hgk (s_takeNumberA l D ks H.size ad kk V29 L41 0 999999999 (bq) (gn) (gT) ((nx (nx gs 1) 1)) ((gs.2.1 2)) hMV29 rl42 (show -1 ≤ (Int32.toInt 999999999) ∧ (Int32.toInt 999999999) ≤ 999999999 from by omega) (show 0 ≤ (Int32.toInt 0) from by omega)) w2084 w2086 w98 w172 w2087 rfl rfl hdV_yX12_takeNumber ⟨Nat.le_of_ble_eq_true rfl, Nat.le_of_ble_eq_true rfl⟩ rfl hl.1 rfl (Nat.le_of_ble_eq_true rfl) dX12_toldSetting_69 ⟨Nat.le_of_ble_eq_true rfl, Nat.le_of_ble_eq_true rfl⟩) hP hD hK hS hA (fun z46 u47 H locs w48 hP hD hK hS => ?_)
          obtain ⟨V52, L53⟩ := u47
          obtain ⟨hMV52, ajV52, axL53, t49, t50, t51⟩ := w48
          have axL53 : L41 = L53 := Eq.symm axL53
          subst axL53
          have hP : va_P D vwCl (mw ad kk ks.1 V52 L41) H := hP
          have hD : va_D A (mw ad kk ks.1 V52 L41) := hD
          have hMV52 : rgd bM V52 := hMV52
          have ajV52 : agr [(0, 7), (0, 8)] [] V29 V52 := ajV52
          have agV52 : agr [(0, 7), (0, 8)] [16, 17, 18] V V52 := agV29.tr ajV52 (by decide) (by decide)
          have t49 : ((V52 0 8).toInt = 0 ∧ (gT).1 (((nx (nx gs 1) 1)).1 0) = 2 ∧ (Int32.toInt 0) ≤ ((gT).2.1 (((nx (nx gs 1) 1)).1 0)).toInt ∧ ((gT).2.1 (((nx (nx gs 1) 1)).1 0)).toInt ≤ (Int32.toInt 999999999) ∧ RelM V52 L41 (bq) (gn) (gT) (nx ((nx (nx gs 1) 1)) 1) ((gs.2.1 2))) ∨ (1 ≤ (V52 0 8).toInt ∧ (((gT).1 (((nx (nx gs 1) 1)).1 0) ≠ 2 ∧ (V52 0 8).toInt = 1 + 16 * (gT).2.2 (((nx (nx gs 1) 1)).1 0)) ∨ ((gT).1 (((nx (nx gs 1) 1)).1 0) = 2 ∧ (((gT).2.1 (((nx (nx gs 1) 1)).1 0)).toInt < (Int32.toInt 0) ∨ (Int32.toInt 999999999) < ((gT).2.1 (((nx (nx gs 1) 1)).1 0)).toInt) ∧ (V52 0 8).toInt = 4 + 16 * (gT).2.2 (((nx (nx gs 1) 1)).1 0)))) := t49
          have t50 : Imp ((V52 0 8).toInt = 0) ((Int32.toInt 0) ≤ z46.toInt ∧ z46.toInt ≤ (Int32.toInt 999999999)) := t50
          have t51 : Imp (1 ≤ (V52 0 8).toInt) (z46.toInt = 0) := t51
          have r54 : 0 ≤ ((V52 0 8)).toInt ∧ ((V52 0 8)).toInt ≤ 70000 := hMV52 0 8
          rcases t49 with ⟨q55, h56, h57, h58, rl59⟩ | ⟨q55, ⟨h56, rl59⟩ | ⟨h56, h57, rl59⟩⟩
          · skip
            have hr60 : ∀ k, Rc gT (Crun gs (Istmt :: k)) (Crun (nx (nx (nx gs 1) 1) 1) (Itake 59 :: IaddSe wx32 :: Istmt :: k)) := fun k => Rc.go1 (hr37 k) (nm_y h56 (by omega) (by omega))
            have ps61 : (nx (nx (nx gs 1) 1) 1).1 0 = (nx (nx gs 1) 1).1 0 + 1 := rfl
            have fz62 := RelM.rg rl59
            have nr63 := Imp.go t50 q55
            refine va_iast (D := D) (i := z5) (x := z46) hx hb hK hP hD hS 11 10 rfl rfl (i_in (a := z5.toInt) rfl (by first | omega | ((try (have i_t51 := Imp.go t51 (by omega))); (try (have i_t50 := Imp.go t50 (by omega))); (try (have i_t50 := Imp.go t50 (by omega))); (try (have i_t51 := Imp.go t51 (by omega))); omega))) dX12_toldSetting_72 (fun H locs hP hD hS => ?_)
            obtain ⟨V64, hV64⟩ : ∃ z, z = up2 V52 18 (Int32.toNatClampNeg z5) z46 := ⟨_, rfl⟩
            have hP : va_P D vwCl (mw ad kk ks.1 V64 L41) H := by rw [hV64]; exact hP
            have hD : va_D A (mw ad kk ks.1 V64 L41) := by rw [hV64]; exact hD
            have hMV64 : rgd bM V64 := hMV52.put hV64 (i_full _)
            have agV64 : agr [(0, 7), (0, 8)] [16, 17, 18] V V64 := agV52.up hV64 rfl
            refine lv_aload_n hx hb dX12_toldSetting_73 rfl (lv_at hl 1 rfl) ?_
            refine lv_bipush (v := 59) hx hb dX12_toldSetting_74 (by decide) ?_
            have rl65 : RelM V64 L41 bq gn gT (nx (nx (nx gs 1) 1) 1) (gs.2.1 2) := RelM.ag rl59 (show agr [] [18] V52 V64 from (agr.up agr.rf hV64 rfl)) (by decide) (show agL [] L41 L41 from agL.rf) (by decide)
            have r66 : Int32.toInt 59 = 59 := by decide
            refine gA_void (gA_runV (As := [.int 59]) (rest := []) (ci := 12) (q0 := 0) hx hb hml hown hg hP hD hK hS hA hnw hgk (s_takeSignA l D ks H.size ad kk V64 L41 59 (bq) (gn) (gT) ((nx (nx (nx gs 1) 1) 1)) ((gs.2.1 2)) hMV64 rl65 (sg_yes (j := 59) (by decide) (by decide) (by decide))) w2075 w2077 w96 w172 w2078 rfl rfl hdV_yX12_takeSign ⟨Nat.le_of_ble_eq_true rfl, Nat.le_of_ble_eq_true rfl⟩ rfl hl.1 rfl (Nat.le_of_ble_eq_true rfl) dX12_toldSetting_76 ⟨Nat.le_of_ble_eq_true rfl, Nat.le_of_ble_eq_true rfl⟩) hP hD hK hS hA (fun u68 H locs w69 hP hD hK hS => ?_)
            obtain ⟨V71, L72⟩ := u68
            obtain ⟨hMV71, ajV71, axL72, t70⟩ := w69
            have axL72 : L41 = L72 := Eq.symm axL72
            subst axL72
            have hP : va_P D vwCl (mw ad kk ks.1 V71 L41) H := hP
            have hD : va_D A (mw ad kk ks.1 V71 L41) := hD
            have hMV71 : rgd bM V71 := hMV71
            have ajV71 : agr [(0, 7), (0, 8)] [] V64 V71 := ajV71
            have agV71 : agr [(0, 7), (0, 8)] [16, 17, 18] V V71 := agV64.tr ajV71 (by decide) (by decide)
            have t70 : ((V71 0 8).toInt = 0 ∧ (gT).1 (((nx (nx (nx gs 1) 1) 1)).1 0) = (Int32.toInt 59) ∧ RelM V71 L41 (bq) (gn) (gT) (nx ((nx (nx (nx gs 1) 1) 1)) 1) ((gs.2.1 2))) ∨ (1 ≤ (V71 0 8).toInt ∧ (gT).1 (((nx (nx (nx gs 1) 1) 1)).1 0) ≠ (Int32.toInt 59) ∧ (V71 0 8).toInt = 1 + 16 * (gT).2.2 (((nx (nx (nx gs 1) 1) 1)).1 0)) := t70
            rcases t70 with ⟨q73, h74, rl75⟩ | ⟨q73, h74, rl75⟩
            · skip
              have kd76 : gT.1 ((nx (nx (nx gs 1) 1) 1).1 0) = 59 := h74.trans (by decide)
              have hr77 : ∀ k, Rc gT (Crun gs (Istmt :: k)) (Crun (nx (nx (nx (nx gs 1) 1) 1) 1) (IaddSe wx32 :: Istmt :: k)) := fun k => Rc.go1 (hr60 k) (tk_y kd76)
              have ps78 : (nx (nx (nx (nx gs 1) 1) 1) 1).1 0 = (nx (nx (nx gs 1) 1) 1).1 0 + 1 := rfl
              have fz79 := RelM.rg rl75
              have r80 : 0 ≤ ((V71 0 8)).toInt ∧ ((V71 0 8)).toInt ≤ 70000 := hMV71 0 8
              refine lv_aload_n hx hb dX12_toldSetting_79 rfl (lv_at hl 1 rfl) ?_
              refine va_get (D := D) (ci := 12) (v := .ref (ad 16)) (C := RX12) (T := TX12) (N := 100) hx hb hg inX12 hown hK hP 0 rfl rfl 16 (by decide) (hg _ w1722) (fun _ h9 => h9) rfl dX12_toldSetting_80 ?_
              refine lv_aload_n hx hb dX12_toldSetting_83 rfl (lv_at hl 1 rfl) ?_
              refine va_get (D := D) (ci := 12) (v := .int (V71 0 12)) (C := RX12) (T := TX12) (N := 100) hx hb hg inX12 hown hK hP 0 rfl rfl 12 (by decide) (hg _ w1718) (fun _ h9 => h9) rfl dX12_toldSetting_84 ?_
              refine g_top (v := (V 0 12)) ((ajV71 0 12 rfl).trans ((up2_o hV64 (by decide)).trans ((ajV52 0 12 rfl).trans ((ajV29 0 12 rfl).trans (ajV13 0 12 rfl))))) ?_
              refine lv_dup2_11 hx hb dX12_toldSetting_87 rfl rfl ?_
              refine va_iald (D := D) (i := (V 0 12)) hx hb hK hP 9 8 rfl rfl (i_in (a := ((V 0 12)).toInt) rfl (by first | omega | ((try (have i_t51 := Imp.go t51 (by omega))); (try (have i_t50 := Imp.go t50 (by omega))); (try (have i_t50 := Imp.go t50 (by omega))); (try (have i_t51 := Imp.go t51 (by omega))); omega))) dX12_toldSetting_88 ?_
              refine g_top (v := (V 16 (Int32.toNatClampNeg (V 0 12)))) ((ajV71 16 (Int32.toNatClampNeg (V 0 12)) rfl).trans ((up2_o hV64 (by decide)).trans ((ajV52 16 (Int32.toNatClampNeg (V 0 12)) rfl).trans ((ajV29 16 (Int32.toNatClampNeg (V 0 12)) rfl).trans (ajV13 16 (Int32.toNatClampNeg (V 0 12)) rfl))))) ?_
              refine lv_iconst (v := 1) hx hb dX12_toldSetting_89 (by decide) ?_
              refine lv_iadd hx hb dX12_toldSetting_90 ?_
              refine lv_topi (fun z81 ez81 => ?_)
              have hz81 : z81.toInt = ((V 16 (Int32.toNatClampNeg (V 0 12)))).toInt + 1 := i_add ez81 rfl (by decide) (by omega)
              refine va_iast (D := D) (i := (V 0 12)) (x := z81) hx hb hK hP hD hS 9 8 rfl rfl (i_in (a := ((V 0 12)).toInt) rfl (by first | omega | ((try (have i_t51 := Imp.go t51 (by omega))); (try (have i_t50 := Imp.go t50 (by omega))); (try (have i_t50 := Imp.go t50 (by omega))); (try (have i_t51 := Imp.go t51 (by omega))); omega))) dX12_toldSetting_91 (fun H locs hP hD hS => ?_)
              obtain ⟨V82, hV82⟩ : ∃ z, z = up2 V71 16 (Int32.toNatClampNeg (V 0 12)) z81 := ⟨_, rfl⟩
              have hP : va_P D vwCl (mw ad kk ks.1 V82 L41) H := by rw [hV82]; exact hP
              have hD : va_D A (mw ad kk ks.1 V82 L41) := by rw [hV82]; exact hD
              have hMV82 : rgd bM V82 := hMV71.put hV82 (show 0 ≤ z81.toInt ∧ z81.toInt ≤ 12 from by first | omega | ((try (have i_t51 := Imp.go t51 (by omega))); (try (have i_t50 := Imp.go t50 (by omega))); (try (have i_t50 := Imp.go t50 (by omega))); (try (have i_t51 := Imp.go t51 (by omega))); omega))
              have agV82 : agr [(0, 7), (0, 8)] [16, 17, 18] V V82 := agV71.up hV82 rfl
              have fn9 : fndI ((nx (nx (nx (nx gs 1) 1) 1) 1).2.1 1) wx32 = none := by rw [((keepS.tr (keepS.tr (keepS.tr (keepS.rf : keepS (nx gs 1) 0 (nx gs 1)) (keepS.n1 1)) (keepS.n1 1)) (keepS.n1 1))).2.2.1 1 (by decide)]; exact (told_i tn35).2.1
              have cq9 : (Int32.toNatClampNeg (V 0 12)) = bq := by have h9 := RelM.cq rl75; have h8 : V71 0 12 = (V 0 12) := ((ajV71 0 12 rfl).trans ((up2_o hV64 (by decide)).trans ((ajV52 0 12 rfl).trans ((ajV29 0 12 rfl).trans (ajV13 0 12 rfl))))); rw [h8] at h9; exact h9
              have hv9 := hV82
              rw [cq9] at hv9
              have pq83 : (V71 16 bq).toInt = ((V 16 bq)).toInt := congrArg Int32.toInt ((ajV71 16 bq rfl).trans ((up2_o hV64 (by decide)).trans ((ajV52 16 bq rfl).trans ((ajV29 16 bq rfl).trans (ajV13 16 bq rfl)))))
              have cv9 : (V71 16 (Int32.toNatClampNeg (V 0 12))).toInt = (V71 16 bq).toInt := by rw [cq9]
              have pq84 : (V71 16 (Int32.toNatClampNeg (V 0 12))).toInt = ((V 16 (Int32.toNatClampNeg (V 0 12)))).toInt := congrArg Int32.toInt ((ajV71 16 (Int32.toNatClampNeg (V 0 12)) rfl).trans ((up2_o hV64 (by decide)).trans ((ajV52 16 (Int32.toNatClampNeg (V 0 12)) rfl).trans ((ajV29 16 (Int32.toNatClampNeg (V 0 12)) rfl).trans (ajV13 16 (Int32.toNatClampNeg (V 0 12)) rfl)))))
              have r29 : RelM V71 L41 bq gn gT (nx (nx (nx (nx gs 1) 1) 1) 1) ((nx (nx (nx (nx gs 1) 1) 1) 1).2.1 2) := by rw [((keepS.tr (keepS.tr (keepS.tr (keepS.tr (keepS.rf : keepS gs 0 gs) (keepS.n1 1)) (keepS.n1 1)) (keepS.n1 1)) (keepS.n1 1))).2.2.1 2 (by decide)]; exact rl75
              have r13 : 0 ≤ (V71 16 bq).toInt := (hMV71 16 bq).1
              have rl85 : RelM V82 L41 bq gn gT (sA (nx (nx (nx (nx gs 1) 1) 1) 1) 1 wx32) ((sA (nx (nx (nx (nx gs 1) 1) 1) 1) 1 wx32).2.1 2) := RelM.a1 (a := z5) r29 fn9 (e17) (by omega) hv9 (by omega) r13 rfl
              have hr86 : ∀ k, Rc gT (Crun gs (Istmt :: k)) (Crun (sA (nx (nx (nx (nx gs 1) 1) 1) 1) 1 wx32) (Istmt :: k)) := fun k => Rc.go1 (hr77 k) (m_addSe wx32)
              have fz87 := RelM.rg rl85
              have pq88 : (V82 0 8).toInt = ((V71 0 8)).toInt := congrArg Int32.toInt (up2_o hV82 (by decide))
              have pq89 : (V82 0 7).toInt = ((V71 0 7)).toInt := congrArg Int32.toInt (up2_o hV82 (by decide))
              have pq90 : (V82 0 48).toInt = ((V 0 48)).toInt := congrArg Int32.toInt ((up2_o hV82 (by decide)).trans ((ajV71 0 48 rfl).trans ((up2_o hV64 (by decide)).trans ((ajV52 0 48 rfl).trans ((ajV29 0 48 rfl).trans (ajV13 0 48 rfl))))))
              have pq91 : (V82 0 12).toInt = ((V 0 12)).toInt := congrArg Int32.toInt ((up2_o hV82 (by decide)).trans ((ajV71 0 12 rfl).trans ((up2_o hV64 (by decide)).trans ((ajV52 0 12 rfl).trans ((ajV29 0 12 rfl).trans (ajV13 0 12 rfl))))))
              have ps92 : gs.1 0 + 1 ≤ (nx gs 1).1 0 := ((keepS.n1 1)).1
              have ps93 : (nx gs 1).1 0 + 1 ≤ (nx (nx gs 1) 1).1 0 := ((keepS.n1 1)).1
              have ps94 : (nx (nx gs 1) 1).1 0 + 1 ≤ (nx (nx (nx gs 1) 1) 1).1 0 := ((keepS.n1 1)).1
              have ps95 : (nx (nx (nx gs 1) 1) 1).1 0 + 1 ≤ (nx (nx (nx (nx gs 1) 1) 1) 1).1 0 := ((keepS.n1 1)).1
              have ps96 : (sA (nx (nx (nx (nx gs 1) 1) 1) 1) 1 wx32).1 0 = (nx (nx (nx (nx gs 1) 1) 1) 1).1 0 := rfl
              exact W.vret hx hb hr (fun t ht hW => ⟨⟨(V82, L41), rfl, ⟨hMV82, agV82, alL41, (Imp.mk (fun hp => have hp : (V82 0 8).toInt = 0 := hp; (show (V82 0 48).toInt ≤ 2 * (V82 0 7).toInt from by first | omega | ((try (have i_t51 := Imp.go t51 (by omega))); (try (have i_t50 := Imp.go t50 (by omega))); (try (have i_t50 := Imp.go t50 (by omega))); (try (have i_t51 := Imp.go t51 (by omega))); omega)))), (show (V82 0 48).toInt ≤ 8200 from by first | omega | ((try (have i_t51 := Imp.go t51 (by omega))); (try (have i_t50 := Imp.go t50 (by omega))); (try (have i_t50 := Imp.go t50 (by omega))); (try (have i_t51 := Imp.go t51 (by omega))); omega)), (show (V82 0 12).toInt = (V 0 12).toInt from by first | omega | ((try (have i_t51 := Imp.go t51 (by omega))); (try (have i_t50 := Imp.go t50 (by omega))); (try (have i_t50 := Imp.go t50 (by omega))); (try (have i_t51 := Imp.go t51 (by omega))); omega)), (Or.inl ⟨W0 rl85, (sA (nx (nx (nx (nx gs 1) 1) 1) 1) 1 wx32), hr86, rl85, (by omega), (ARm.mv arm ((rfl : (sA (nx (nx (nx (nx gs 1) 1) 1) 1) 1 wx32).2.2.1 = (nx (nx (nx (nx gs 1) 1) 1) 1).2.2.1).trans ((congrArg (fun q9 => q9.1) ((keepS.n1 1)).2.2.2).trans ((congrArg (fun q9 => q9.1) ((keepS.n1 1)).2.2.2).trans ((congrArg (fun q9 => q9.1) ((keepS.n1 1)).2.2.2).trans ((congrArg (fun q9 => q9.1) ((keepS.n1 1)).2.2.2).trans (rfl : gs.2.2.1 = gs.2.2.1)))))))⟩)⟩, by rw [ht]; exact hP, va_K.moved hW.alike hK, hD⟩, hS.F ht⟩) hS.2.2 dX12_toldSetting_92
            · skip
              have kd97 : gT.1 ((nx (nx (nx gs 1) 1) 1).1 0) ≠ 59 := fun h9 => h74 (h9.trans (by decide))
              have hb98 : ∀ k, Rc gT (Crun gs (Istmt :: k)) (Cbad (V71 0 8).toInt) := fun k => Rc.go1 (hr60 k) ((tk_n kd97).trans (fl_eq rfl rl75))
              have r99 : 0 ≤ ((V71 0 8)).toInt ∧ ((V71 0 8)).toInt ≤ 70000 := hMV71 0 8
              refine lv_aload_n hx hb dX12_toldSetting_79 rfl (lv_at hl 1 rfl) ?_
              refine va_get (D := D) (ci := 12) (v := .ref (ad 16)) (C := RX12) (T := TX12) (N := 100) hx hb hg inX12 hown hK hP 0 rfl rfl 16 (by decide) (hg _ w1722) (fun _ h9 => h9) rfl dX12_toldSetting_80 ?_
              refine lv_aload_n hx hb dX12_toldSetting_83 rfl (lv_at hl 1 rfl) ?_
              refine va_get (D := D) (ci := 12) (v := .int (V71 0 12)) (C := RX12) (T := TX12) (N := 100) hx hb hg inX12 hown hK hP 0 rfl rfl 12 (by decide) (hg _ w1718) (fun _ h9 => h9) rfl dX12_toldSetting_84 ?_
              refine g_top (v := (V 0 12)) ((ajV71 0 12 rfl).trans ((up2_o hV64 (by decide)).trans ((ajV52 0 12 rfl).trans ((ajV29 0 12 rfl).trans (ajV13 0 12 rfl))))) ?_
              refine lv_dup2_11 hx hb dX12_toldSetting_87 rfl rfl ?_
              refine va_iald (D := D) (i := (V 0 12)) hx hb hK hP 9 8 rfl rfl (i_in (a := ((V 0 12)).toInt) rfl (by first | omega | ((try (have i_t51 := Imp.go t51 (by omega))); (try (have i_t50 := Imp.go t50 (by omega))); (try (have i_t50 := Imp.go t50 (by omega))); (try (have i_t51 := Imp.go t51 (by omega))); omega))) dX12_toldSetting_88 ?_
              refine g_top (v := (V 16 (Int32.toNatClampNeg (V 0 12)))) ((ajV71 16 (Int32.toNatClampNeg (V 0 12)) rfl).trans ((up2_o hV64 (by decide)).trans ((ajV52 16 (Int32.toNatClampNeg (V 0 12)) rfl).trans ((ajV29 16 (Int32.toNatClampNeg (V 0 12)) rfl).trans (ajV13 16 (Int32.toNatClampNeg (V 0 12)) rfl))))) ?_
              refine lv_iconst (v := 1) hx hb dX12_toldSetting_89 (by decide) ?_
              refine lv_iadd hx hb dX12_toldSetting_90 ?_
              refine lv_topi (fun z100 ez100 => ?_)
              have hz100 : z100.toInt = ((V 16 (Int32.toNatClampNeg (V 0 12)))).toInt + 1 := i_add ez100 rfl (by decide) (by omega)
              refine va_iast (D := D) (i := (V 0 12)) (x := z100) hx hb hK hP hD hS 9 8 rfl rfl (i_in (a := ((V 0 12)).toInt) rfl (by first | omega | ((try (have i_t51 := Imp.go t51 (by omega))); (try (have i_t50 := Imp.go t50 (by omega))); (try (have i_t50 := Imp.go t50 (by omega))); (try (have i_t51 := Imp.go t51 (by omega))); omega))) dX12_toldSetting_91 (fun H locs hP hD hS => ?_)
              obtain ⟨V101, hV101⟩ : ∃ z, z = up2 V71 16 (Int32.toNatClampNeg (V 0 12)) z100 := ⟨_, rfl⟩
              have hP : va_P D vwCl (mw ad kk ks.1 V101 L41) H := by rw [hV101]; exact hP
              have hD : va_D A (mw ad kk ks.1 V101 L41) := by rw [hV101]; exact hD
              have hMV101 : rgd bM V101 := hMV71.put hV101 (show 0 ≤ z100.toInt ∧ z100.toInt ≤ 12 from by first | omega | ((try (have i_t51 := Imp.go t51 (by omega))); (try (have i_t50 := Imp.go t50 (by omega))); (try (have i_t50 := Imp.go t50 (by omega))); (try (have i_t51 := Imp.go t51 (by omega))); omega))
              have agV101 : agr [(0, 7), (0, 8)] [16, 17, 18] V V101 := agV71.up hV101 rfl
              have pq102 : (V101 0 7).toInt = ((V71 0 7)).toInt := congrArg Int32.toInt (up2_o hV101 (by decide))
              have pq103 : (V101 0 48).toInt = ((V 0 48)).toInt := congrArg Int32.toInt ((up2_o hV101 (by decide)).trans ((ajV71 0 48 rfl).trans ((up2_o hV64 (by decide)).trans ((ajV52 0 48 rfl).trans ((ajV29 0 48 rfl).trans (ajV13 0 48 rfl))))))
              have pq104 : (V101 0 8).toInt = ((V71 0 8)).toInt := congrArg Int32.toInt (up2_o hV101 (by decide))
              have pq105 : (V101 0 12).toInt = ((V 0 12)).toInt := congrArg Int32.toInt ((up2_o hV101 (by decide)).trans ((ajV71 0 12 rfl).trans ((up2_o hV64 (by decide)).trans ((ajV52 0 12 rfl).trans ((ajV29 0 12 rfl).trans (ajV13 0 12 rfl))))))
              exact W.vret hx hb hr (fun t ht hW => ⟨⟨(V101, L41), rfl, ⟨hMV101, agV101, alL41, (Imp.mk (fun hp => have hp : (V101 0 8).toInt = 0 := hp; (show (V101 0 48).toInt ≤ 2 * (V101 0 7).toInt from by first | omega | ((try (have i_t51 := Imp.go t51 (by omega))); (try (have i_t50 := Imp.go t50 (by omega))); (try (have i_t50 := Imp.go t50 (by omega))); (try (have i_t51 := Imp.go t51 (by omega))); omega)))), (show (V101 0 48).toInt ≤ 8200 from by first | omega | ((try (have i_t51 := Imp.go t51 (by omega))); (try (have i_t50 := Imp.go t50 (by omega))); (try (have i_t50 := Imp.go t50 (by omega))); (try (have i_t51 := Imp.go t51 (by omega))); omega)), (show (V101 0 12).toInt = (V 0 12).toInt from by first | omega | ((try (have i_t51 := Imp.go t51 (by omega))); (try (have i_t50 := Imp.go t50 (by omega))); (try (have i_t50 := Imp.go t50 (by omega))); (try (have i_t51 := Imp.go t51 (by omega))); omega)), (Or.inr ⟨(show 1 ≤ (V101 0 8).toInt from by omega), (fun k => by rw [show (V101 0 8).toInt = (V71 0 8).toInt from by omega]; exact hb98 k)⟩)⟩, by rw [ht]; exact hP, va_K.moved hW.alike hK, hD⟩, hS.F ht⟩) hS.2.2 dX12_toldSetting_92
          · skip
            have hb106 : ∀ k, Rc gT (Crun gs (Istmt :: k)) (Cbad (V52 0 8).toInt) := fun k => Rc.go1 (hr37 k) ((nm_1 h56).trans (fl_eq rfl rl59))
            have nr107 := Imp.go t51 q55
            refine va_iast (D := D) (i := z5) (x := z46) hx hb hK hP hD hS 11 10 rfl rfl (i_in (a := z5.toInt) rfl (by first | omega | ((try (have i_t51 := Imp.go t51 (by omega))); (try (have i_t50 := Imp.go t50 (by omega))); (try (have i_t50 := Imp.go t50 (by omega))); (try (have i_t51 := Imp.go t51 (by omega))); omega))) dX12_toldSetting_72 (fun H locs hP hD hS => ?_)
            obtain ⟨V108, hV108⟩ : ∃ z, z = up2 V52 18 (Int32.toNatClampNeg z5) z46 := ⟨_, rfl⟩
            have hP : va_P D vwCl (mw ad kk ks.1 V108 L41) H := by rw [hV108]; exact hP
            have hD : va_D A (mw ad kk ks.1 V108 L41) := by rw [hV108]; exact hD
            have hMV108 : rgd bM V108 := hMV52.put hV108 (i_full _)
            have agV108 : agr [(0, 7), (0, 8)] [16, 17, 18] V V108 := agV52.up hV108 rfl
            refine lv_aload_n hx hb dX12_toldSetting_73 rfl (lv_at hl 1 rfl) ?_
            refine lv_bipush (v := 59) hx hb dX12_toldSetting_74 (by decide) ?_
            have r109 : Int32.toInt 59 = 59 := by decide
            have pq110 : (V108 0 8).toInt = ((V52 0 8)).toInt := congrArg Int32.toInt (up2_o hV108 (by decide))
            refine gA_void (gA_runV (As := [.int 59]) (rest := []) (ci := 12) (q0 := 0) hx hb hml hown hg hP hD hK hS hA hnw hgk (s_takeSignB l D ks H.size ad kk V108 L41 59 hMV108 (show 1 ≤ (V108 0 8).toInt from by first | omega | ((try (have i_t51 := Imp.go t51 (by omega))); (try (have i_t50 := Imp.go t50 (by omega))); (try (have i_t50 := Imp.go t50 (by omega))); (try (have i_t51 := Imp.go t51 (by omega))); omega))) w2075 w2077 w96 w172 w2078 rfl rfl hdV_yX12_takeSign ⟨Nat.le_of_ble_eq_true rfl, Nat.le_of_ble_eq_true rfl⟩ rfl hl.1 rfl (Nat.le_of_ble_eq_true rfl) dX12_toldSetting_76 ⟨Nat.le_of_ble_eq_true rfl, Nat.le_of_ble_eq_true rfl⟩) hP hD hK hS hA (fun u112 H locs w113 hP hD hK hS => ?_)
            obtain ⟨V115, L116⟩ := u112
            obtain ⟨hMV115, ajV115, axL116, t114⟩ := w113
            have axL116 : L41 = L116 := Eq.symm axL116
            subst axL116
            have hP : va_P D vwCl (mw ad kk ks.1 V115 L41) H := hP
            have hD : va_D A (mw ad kk ks.1 V115 L41) := hD
            have hMV115 : rgd bM V115 := hMV115
            have ajV115 : agr [(0, 7), (0, 8)] [] V108 V115 := ajV115
            have agV115 : agr [(0, 7), (0, 8)] [16, 17, 18] V V115 := agV108.tr ajV115 (by decide) (by decide)
            have t114 : (V115 0 8).toInt = (V108 0 8).toInt := t114
            have r117 : 0 ≤ ((V115 0 8)).toInt ∧ ((V115 0 8)).toInt ≤ 70000 := hMV115 0 8
            refine lv_aload_n hx hb dX12_toldSetting_79 rfl (lv_at hl 1 rfl) ?_
            refine va_get (D := D) (ci := 12) (v := .ref (ad 16)) (C := RX12) (T := TX12) (N := 100) hx hb hg inX12 hown hK hP 0 rfl rfl 16 (by decide) (hg _ w1722) (fun _ h9 => h9) rfl dX12_toldSetting_80 ?_
            refine lv_aload_n hx hb dX12_toldSetting_83 rfl (lv_at hl 1 rfl) ?_
            refine va_get (D := D) (ci := 12) (v := .int (V115 0 12)) (C := RX12) (T := TX12) (N := 100) hx hb hg inX12 hown hK hP 0 rfl rfl 12 (by decide) (hg _ w1718) (fun _ h9 => h9) rfl dX12_toldSetting_84 ?_
            refine g_top (v := (V 0 12)) ((ajV115 0 12 rfl).trans ((up2_o hV108 (by decide)).trans ((ajV52 0 12 rfl).trans ((ajV29 0 12 rfl).trans (ajV13 0 12 rfl))))) ?_
            refine lv_dup2_11 hx hb dX12_toldSetting_87 rfl rfl ?_
            refine va_iald (D := D) (i := (V 0 12)) hx hb hK hP 9 8 rfl rfl (i_in (a := ((V 0 12)).toInt) rfl (by first | omega | ((try (have i_t51 := Imp.go t51 (by omega))); (try (have i_t50 := Imp.go t50 (by omega))); (try (have i_t50 := Imp.go t50 (by omega))); (try (have i_t51 := Imp.go t51 (by omega))); omega))) dX12_toldSetting_88 ?_
            refine g_top (v := (V 16 (Int32.toNatClampNeg (V 0 12)))) ((ajV115 16 (Int32.toNatClampNeg (V 0 12)) rfl).trans ((up2_o hV108 (by decide)).trans ((ajV52 16 (Int32.toNatClampNeg (V 0 12)) rfl).trans ((ajV29 16 (Int32.toNatClampNeg (V 0 12)) rfl).trans (ajV13 16 (Int32.toNatClampNeg (V 0 12)) rfl))))) ?_
            refine lv_iconst (v := 1) hx hb dX12_toldSetting_89 (by decide) ?_
            refine lv_iadd hx hb dX12_toldSetting_90 ?_
            refine lv_topi (fun z118 ez118 => ?_)
            have hz118 : z118.toInt = ((V 16 (Int32.toNatClampNeg (V 0 12)))).toInt + 1 := i_add ez118 rfl (by decide) (by omega)
            refine va_iast (D := D) (i := (V 0 12)) (x := z118) hx hb hK hP hD hS 9 8 rfl rfl (i_in (a := ((V 0 12)).toInt) rfl (by first | omega | ((try (have i_t51 := Imp.go t51 (by omega))); (try (have i_t50 := Imp.go t50 (by omega))); (try (have i_t50 := Imp.go t50 (by omega))); (try (have i_t51 := Imp.go t51 (by omega))); omega))) dX12_toldSetting_91 (fun H locs hP hD hS => ?_)
            obtain ⟨V119, hV119⟩ : ∃ z, z = up2 V115 16 (Int32.toNatClampNeg (V 0 12)) z118 := ⟨_, rfl⟩
            have hP : va_P D vwCl (mw ad kk ks.1 V119 L41) H := by rw [hV119]; exact hP
            have hD : va_D A (mw ad kk ks.1 V119 L41) := by rw [hV119]; exact hD
            have hMV119 : rgd bM V119 := hMV115.put hV119 (show 0 ≤ z118.toInt ∧ z118.toInt ≤ 12 from by first | omega | ((try (have i_t51 := Imp.go t51 (by omega))); (try (have i_t50 := Imp.go t50 (by omega))); (try (have i_t50 := Imp.go t50 (by omega))); (try (have i_t51 := Imp.go t51 (by omega))); omega))
            have agV119 : agr [(0, 7), (0, 8)] [16, 17, 18] V V119 := agV115.up hV119 rfl
            have pq120 : (V119 0 7).toInt = ((V115 0 7)).toInt := congrArg Int32.toInt (up2_o hV119 (by decide))
            have pq121 : (V119 0 48).toInt = ((V 0 48)).toInt := congrArg Int32.toInt ((up2_o hV119 (by decide)).trans ((ajV115 0 48 rfl).trans ((up2_o hV108 (by decide)).trans ((ajV52 0 48 rfl).trans ((ajV29 0 48 rfl).trans (ajV13 0 48 rfl))))))
            have pq122 : (V119 0 8).toInt = ((V115 0 8)).toInt := congrArg Int32.toInt (up2_o hV119 (by decide))
            have pq123 : (V119 0 12).toInt = ((V 0 12)).toInt := congrArg Int32.toInt ((up2_o hV119 (by decide)).trans ((ajV115 0 12 rfl).trans ((up2_o hV108 (by decide)).trans ((ajV52 0 12 rfl).trans ((ajV29 0 12 rfl).trans (ajV13 0 12 rfl))))))
            exact W.vret hx hb hr (fun t ht hW => ⟨⟨(V119, L41), rfl, ⟨hMV119, agV119, alL41, (Imp.mk (fun hp => have hp : (V119 0 8).toInt = 0 := hp; (show (V119 0 48).toInt ≤ 2 * (V119 0 7).toInt from by first | omega | ((try (have i_t51 := Imp.go t51 (by omega))); (try (have i_t50 := Imp.go t50 (by omega))); (try (have i_t50 := Imp.go t50 (by omega))); (try (have i_t51 := Imp.go t51 (by omega))); omega)))), (show (V119 0 48).toInt ≤ 8200 from by first | omega | ((try (have i_t51 := Imp.go t51 (by omega))); (try (have i_t50 := Imp.go t50 (by omega))); (try (have i_t50 := Imp.go t50 (by omega))); (try (have i_t51 := Imp.go t51 (by omega))); omega)), (show (V119 0 12).toInt = (V 0 12).toInt from by first | omega | ((try (have i_t51 := Imp.go t51 (by omega))); (try (have i_t50 := Imp.go t50 (by omega))); (try (have i_t50 := Imp.go t50 (by omega))); (try (have i_t51 := Imp.go t51 (by omega))); omega)), (Or.inr ⟨(show 1 ≤ (V119 0 8).toInt from by omega), (fun k => by rw [show (V119 0 8).toInt = (V52 0 8).toInt from by omega]; exact hb106 k)⟩)⟩, by rw [ht]; exact hP, va_K.moved hW.alike hK, hD⟩, hS.F ht⟩) hS.2.2 dX12_toldSetting_92
          · skip
            have hb124 : ∀ k, Rc gT (Crun gs (Istmt :: k)) (Cbad (V52 0 8).toInt) := fun k => Rc.go1 (hr37 k) ((nm_4 h56 (by omega)).trans (fl_eq rfl rl59))
            have nr125 := Imp.go t51 q55
            refine va_iast (D := D) (i := z5) (x := z46) hx hb hK hP hD hS 11 10 rfl rfl (i_in (a := z5.toInt) rfl (by first | omega | ((try (have i_t51 := Imp.go t51 (by omega))); (try (have i_t50 := Imp.go t50 (by omega))); (try (have i_t50 := Imp.go t50 (by omega))); (try (have i_t51 := Imp.go t51 (by omega))); omega))) dX12_toldSetting_72 (fun H locs hP hD hS => ?_)
            obtain ⟨V126, hV126⟩ : ∃ z, z = up2 V52 18 (Int32.toNatClampNeg z5) z46 := ⟨_, rfl⟩
            have hP : va_P D vwCl (mw ad kk ks.1 V126 L41) H := by rw [hV126]; exact hP
            have hD : va_D A (mw ad kk ks.1 V126 L41) := by rw [hV126]; exact hD
            have hMV126 : rgd bM V126 := hMV52.put hV126 (i_full _)
            have agV126 : agr [(0, 7), (0, 8)] [16, 17, 18] V V126 := agV52.up hV126 rfl
            refine lv_aload_n hx hb dX12_toldSetting_73 rfl (lv_at hl 1 rfl) ?_
            refine lv_bipush (v := 59) hx hb dX12_toldSetting_74 (by decide) ?_
            have r127 : Int32.toInt 59 = 59 := by decide
            have pq128 : (V126 0 8).toInt = ((V52 0 8)).toInt := congrArg Int32.toInt (up2_o hV126 (by decide))
            refine gA_void (gA_runV (As := [.int 59]) (rest := []) (ci := 12) (q0 := 0) hx hb hml hown hg hP hD hK hS hA hnw hgk (s_takeSignB l D ks H.size ad kk V126 L41 59 hMV126 (show 1 ≤ (V126 0 8).toInt from by first | omega | ((try (have i_t51 := Imp.go t51 (by omega))); (try (have i_t50 := Imp.go t50 (by omega))); (try (have i_t50 := Imp.go t50 (by omega))); (try (have i_t51 := Imp.go t51 (by omega))); omega))) w2075 w2077 w96 w172 w2078 rfl rfl hdV_yX12_takeSign ⟨Nat.le_of_ble_eq_true rfl, Nat.le_of_ble_eq_true rfl⟩ rfl hl.1 rfl (Nat.le_of_ble_eq_true rfl) dX12_toldSetting_76 ⟨Nat.le_of_ble_eq_true rfl, Nat.le_of_ble_eq_true rfl⟩) hP hD hK hS hA (fun u130 H locs w131 hP hD hK hS => ?_)
            obtain ⟨V133, L134⟩ := u130
            obtain ⟨hMV133, ajV133, axL134, t132⟩ := w131
            have axL134 : L41 = L134 := Eq.symm axL134
            subst axL134
            have hP : va_P D vwCl (mw ad kk ks.1 V133 L41) H := hP
            have hD : va_D A (mw ad kk ks.1 V133 L41) := hD
            have hMV133 : rgd bM V133 := hMV133
            have ajV133 : agr [(0, 7), (0, 8)] [] V126 V133 := ajV133
            have agV133 : agr [(0, 7), (0, 8)] [16, 17, 18] V V133 := agV126.tr ajV133 (by decide) (by decide)
            have t132 : (V133 0 8).toInt = (V126 0 8).toInt := t132
            have r135 : 0 ≤ ((V133 0 8)).toInt ∧ ((V133 0 8)).toInt ≤ 70000 := hMV133 0 8
            refine lv_aload_n hx hb dX12_toldSetting_79 rfl (lv_at hl 1 rfl) ?_
            refine va_get (D := D) (ci := 12) (v := .ref (ad 16)) (C := RX12) (T := TX12) (N := 100) hx hb hg inX12 hown hK hP 0 rfl rfl 16 (by decide) (hg _ w1722) (fun _ h9 => h9) rfl dX12_toldSetting_80 ?_
            refine lv_aload_n hx hb dX12_toldSetting_83 rfl (lv_at hl 1 rfl) ?_
            refine va_get (D := D) (ci := 12) (v := .int (V133 0 12)) (C := RX12) (T := TX12) (N := 100) hx hb hg inX12 hown hK hP 0 rfl rfl 12 (by decide) (hg _ w1718) (fun _ h9 => h9) rfl dX12_toldSetting_84 ?_
            refine g_top (v := (V 0 12)) ((ajV133 0 12 rfl).trans ((up2_o hV126 (by decide)).trans ((ajV52 0 12 rfl).trans ((ajV29 0 12 rfl).trans (ajV13 0 12 rfl))))) ?_
            refine lv_dup2_11 hx hb dX12_toldSetting_87 rfl rfl ?_
            refine va_iald (D := D) (i := (V 0 12)) hx hb hK hP 9 8 rfl rfl (i_in (a := ((V 0 12)).toInt) rfl (by first | omega | ((try (have i_t51 := Imp.go t51 (by omega))); (try (have i_t50 := Imp.go t50 (by omega))); (try (have i_t50 := Imp.go t50 (by omega))); (try (have i_t51 := Imp.go t51 (by omega))); omega))) dX12_toldSetting_88 ?_
            refine g_top (v := (V 16 (Int32.toNatClampNeg (V 0 12)))) ((ajV133 16 (Int32.toNatClampNeg (V 0 12)) rfl).trans ((up2_o hV126 (by decide)).trans ((ajV52 16 (Int32.toNatClampNeg (V 0 12)) rfl).trans ((ajV29 16 (Int32.toNatClampNeg (V 0 12)) rfl).trans (ajV13 16 (Int32.toNatClampNeg (V 0 12)) rfl))))) ?_
            refine lv_iconst (v := 1) hx hb dX12_toldSetting_89 (by decide) ?_
            refine lv_iadd hx hb dX12_toldSetting_90 ?_
            refine lv_topi (fun z136 ez136 => ?_)
            have hz136 : z136.toInt = ((V 16 (Int32.toNatClampNeg (V 0 12)))).toInt + 1 := i_add ez136 rfl (by decide) (by omega)
            refine va_iast (D := D) (i := (V 0 12)) (x := z136) hx hb hK hP hD hS 9 8 rfl rfl (i_in (a := ((V 0 12)).toInt) rfl (by first | omega | ((try (have i_t51 := Imp.go t51 (by omega))); (try (have i_t50 := Imp.go t50 (by omega))); (try (have i_t50 := Imp.go t50 (by omega))); (try (have i_t51 := Imp.go t51 (by omega))); omega))) dX12_toldSetting_91 (fun H locs hP hD hS => ?_)
            obtain ⟨V137, hV137⟩ : ∃ z, z = up2 V133 16 (Int32.toNatClampNeg (V 0 12)) z136 := ⟨_, rfl⟩
            have hP : va_P D vwCl (mw ad kk ks.1 V137 L41) H := by rw [hV137]; exact hP
            have hD : va_D A (mw ad kk ks.1 V137 L41) := by rw [hV137]; exact hD
            have hMV137 : rgd bM V137 := hMV133.put hV137 (show 0 ≤ z136.toInt ∧ z136.toInt ≤ 12 from by first | omega | ((try (have i_t51 := Imp.go t51 (by omega))); (try (have i_t50 := Imp.go t50 (by omega))); (try (have i_t50 := Imp.go t50 (by omega))); (try (have i_t51 := Imp.go t51 (by omega))); omega))
            have agV137 : agr [(0, 7), (0, 8)] [16, 17, 18] V V137 := agV133.up hV137 rfl
            have pq138 : (V137 0 7).toInt = ((V133 0 7)).toInt := congrArg Int32.toInt (up2_o hV137 (by decide))
            have pq139 : (V137 0 48).toInt = ((V 0 48)).toInt := congrArg Int32.toInt ((up2_o hV137 (by decide)).trans ((ajV133 0 48 rfl).trans ((up2_o hV126 (by decide)).trans ((ajV52 0 48 rfl).trans ((ajV29 0 48 rfl).trans (ajV13 0 48 rfl))))))
            have pq140 : (V137 0 8).toInt = ((V133 0 8)).toInt := congrArg Int32.toInt (up2_o hV137 (by decide))
            have pq141 : (V137 0 12).toInt = ((V 0 12)).toInt := congrArg Int32.toInt ((up2_o hV137 (by decide)).trans ((ajV133 0 12 rfl).trans ((up2_o hV126 (by decide)).trans ((ajV52 0 12 rfl).trans ((ajV29 0 12 rfl).trans (ajV13 0 12 rfl))))))
            exact W.vret hx hb hr (fun t ht hW => ⟨⟨(V137, L41), rfl, ⟨hMV137, agV137, alL41, (Imp.mk (fun hp => have hp : (V137 0 8).toInt = 0 := hp; (show (V137 0 48).toInt ≤ 2 * (V137 0 7).toInt from by first | omega | ((try (have i_t51 := Imp.go t51 (by omega))); (try (have i_t50 := Imp.go t50 (by omega))); (try (have i_t50 := Imp.go t50 (by omega))); (try (have i_t51 := Imp.go t51 (by omega))); omega)))), (show (V137 0 48).toInt ≤ 8200 from by first | omega | ((try (have i_t51 := Imp.go t51 (by omega))); (try (have i_t50 := Imp.go t50 (by omega))); (try (have i_t50 := Imp.go t50 (by omega))); (try (have i_t51 := Imp.go t51 (by omega))); omega)), (show (V137 0 12).toInt = (V 0 12).toInt from by first | omega | ((try (have i_t51 := Imp.go t51 (by omega))); (try (have i_t50 := Imp.go t50 (by omega))); (try (have i_t50 := Imp.go t50 (by omega))); (try (have i_t51 := Imp.go t51 (by omega))); omega)), (Or.inr ⟨(show 1 ≤ (V137 0 8).toInt from by omega), (fun k => by rw [show (V137 0 8).toInt = (V52 0 8).toInt from by omega]; exact hb124 k)⟩)⟩, by rw [ht]; exact hP, va_K.moved hW.alike hK, hD⟩, hS.F ht⟩) hS.2.2 dX12_toldSetting_92
        · skip
          have hb142 : ∀ k, Rc gT (Crun gs (Istmt :: k)) (Cbad (V29 0 8).toInt) := fun k => Rc.go1 (hr19 k) (ns_b h33)
          have r143 : 0 ≤ ((V29 0 8)).toInt ∧ ((V29 0 8)).toInt ≤ 70000 := hMV29 0 8
          refine va_last (D := D) (i := z5) (x := z25) hx hb hK hP hD hS 10 9 rfl rfl (i_in (a := z5.toInt) rfl (by omega)) dX12_toldSetting_58 (fun H locs hP hD hS => ?_)
          obtain ⟨L144, hL144⟩ : ∃ z, z = upL L 17 (Int32.toNatClampNeg z5) z25 := ⟨_, rfl⟩
          have hP : va_P D vwCl (mw ad kk ks.1 V29 L144) H := by rw [hL144]; exact hP
          have hD : va_D A (mw ad kk ks.1 V29 L144) := by rw [hL144]; exact hD
          have alL144 : agL [16, 17, 18] L L144 := agL.up alL hL144 rfl
          refine lv_aload_n hx hb dX12_toldSetting_59 rfl (lv_at hl 1 rfl) ?_
          refine va_get (D := D) (ci := 12) (v := .ref (ad 18)) (C := RX12) (T := TX12) (N := 100) hx hb hg inX12 hown hK hP 0 rfl rfl 18 (by decide) (hg _ w1724) (fun _ h9 => h9) rfl dX12_toldSetting_60 ?_
          refine lv_iload_n hx hb dX12_toldSetting_63 rfl (lv_at hl 0 rfl) ?_
          refine lv_aload_n hx hb dX12_toldSetting_64 rfl (lv_at hl 1 rfl) ?_
          refine lv_iconst (v := 0) hx hb dX12_toldSetting_65 (by decide) ?_
          refine lv_ldcw (v := 999999999) hx hb hown (hg _ w2083) dX12_toldSetting_66 ?_
          have r145 : Int32.toInt 999999999 = 999999999 := by decide
          refine gA_int (gA_runV (As := [.int 0, .int 999999999]) (rest := [.int z5, .ref (ad 18)]) (ci := 12) (q0 := 0) hx hb hml hown hg hP hD hK hS hA hnw hgk (s_takeNumberB l D ks H.size ad kk V29 L144 0 999999999 hMV29 (show 1 ≤ (V29 0 8).toInt from by omega)) w2084 w2086 w98 w172 w2087 rfl rfl hdV_yX12_takeNumber ⟨Nat.le_of_ble_eq_true rfl, Nat.le_of_ble_eq_true rfl⟩ rfl hl.1 rfl (Nat.le_of_ble_eq_true rfl) dX12_toldSetting_69 ⟨Nat.le_of_ble_eq_true rfl, Nat.le_of_ble_eq_true rfl⟩) hP hD hK hS hA (fun z146 u147 H locs w148 hP hD hK hS => ?_)
          obtain ⟨V150, L151⟩ := u147
          obtain ⟨hMV150, ajV150, axL151, rgz146, t149⟩ := w148
          have axL151 : L144 = L151 := Eq.symm axL151
          subst axL151
          have hP : va_P D vwCl (mw ad kk ks.1 V150 L144) H := hP
          have hD : va_D A (mw ad kk ks.1 V150 L144) := hD
          have hMV150 : rgd bM V150 := hMV150
          have ajV150 : agr [(0, 7), (0, 8)] [] V29 V150 := ajV150
          have agV150 : agr [(0, 7), (0, 8)] [16, 17, 18] V V150 := agV29.tr ajV150 (by decide) (by decide)
          have rgz146 : 0 ≤ z146.toInt ∧ z146.toInt ≤ 0 := rgz146
          have t149 : (V150 0 8).toInt = (V29 0 8).toInt := t149
          have r152 : 0 ≤ ((V150 0 8)).toInt ∧ ((V150 0 8)).toInt ≤ 70000 := hMV150 0 8
          refine va_iast (D := D) (i := z5) (x := z146) hx hb hK hP hD hS 11 10 rfl rfl (i_in (a := z5.toInt) rfl (by omega)) dX12_toldSetting_72 (fun H locs hP hD hS => ?_)
          obtain ⟨V153, hV153⟩ : ∃ z, z = up2 V150 18 (Int32.toNatClampNeg z5) z146 := ⟨_, rfl⟩
          have hP : va_P D vwCl (mw ad kk ks.1 V153 L144) H := by rw [hV153]; exact hP
          have hD : va_D A (mw ad kk ks.1 V153 L144) := by rw [hV153]; exact hD
          have hMV153 : rgd bM V153 := hMV150.put hV153 (i_full _)
          have agV153 : agr [(0, 7), (0, 8)] [16, 17, 18] V V153 := agV150.up hV153 rfl
          refine lv_aload_n hx hb dX12_toldSetting_73 rfl (lv_at hl 1 rfl) ?_
          refine lv_bipush (v := 59) hx hb dX12_toldSetting_74 (by decide) ?_
          have r154 : Int32.toInt 59 = 59 := by decide
          have pq155 : (V153 0 8).toInt = ((V150 0 8)).toInt := congrArg Int32.toInt (up2_o hV153 (by decide))
          refine gA_void (gA_runV (As := [.int 59]) (rest := []) (ci := 12) (q0 := 0) hx hb hml hown hg hP hD hK hS hA hnw hgk (s_takeSignB l D ks H.size ad kk V153 L144 59 hMV153 (show 1 ≤ (V153 0 8).toInt from by omega)) w2075 w2077 w96 w172 w2078 rfl rfl hdV_yX12_takeSign ⟨Nat.le_of_ble_eq_true rfl, Nat.le_of_ble_eq_true rfl⟩ rfl hl.1 rfl (Nat.le_of_ble_eq_true rfl) dX12_toldSetting_76 ⟨Nat.le_of_ble_eq_true rfl, Nat.le_of_ble_eq_true rfl⟩) hP hD hK hS hA (fun u157 H locs w158 hP hD hK hS => ?_)
          obtain ⟨V160, L161⟩ := u157
          obtain ⟨hMV160, ajV160, axL161, t159⟩ := w158
          have axL161 : L144 = L161 := Eq.symm axL161
          subst axL161
          have hP : va_P D vwCl (mw ad kk ks.1 V160 L144) H := hP
          have hD : va_D A (mw ad kk ks.1 V160 L144) := hD
          have hMV160 : rgd bM V160 := hMV160
          have ajV160 : agr [(0, 7), (0, 8)] [] V153 V160 := ajV160
          have agV160 : agr [(0, 7), (0, 8)] [16, 17, 18] V V160 := agV153.tr ajV160 (by decide) (by decide)
          have t159 : (V160 0 8).toInt = (V153 0 8).toInt := t159
          have r162 : 0 ≤ ((V160 0 8)).toInt ∧ ((V160 0 8)).toInt ≤ 70000 := hMV160 0 8
          refine lv_aload_n hx hb dX12_toldSetting_79 rfl (lv_at hl 1 rfl) ?_
          refine va_get (D := D) (ci := 12) (v := .ref (ad 16)) (C := RX12) (T := TX12) (N := 100) hx hb hg inX12 hown hK hP 0 rfl rfl 16 (by decide) (hg _ w1722) (fun _ h9 => h9) rfl dX12_toldSetting_80 ?_
          refine lv_aload_n hx hb dX12_toldSetting_83 rfl (lv_at hl 1 rfl) ?_
          refine va_get (D := D) (ci := 12) (v := .int (V160 0 12)) (C := RX12) (T := TX12) (N := 100) hx hb hg inX12 hown hK hP 0 rfl rfl 12 (by decide) (hg _ w1718) (fun _ h9 => h9) rfl dX12_toldSetting_84 ?_
          refine g_top (v := (V 0 12)) ((ajV160 0 12 rfl).trans ((up2_o hV153 (by decide)).trans ((ajV150 0 12 rfl).trans ((ajV29 0 12 rfl).trans (ajV13 0 12 rfl))))) ?_
          refine lv_dup2_11 hx hb dX12_toldSetting_87 rfl rfl ?_
          refine va_iald (D := D) (i := (V 0 12)) hx hb hK hP 9 8 rfl rfl (i_in (a := ((V 0 12)).toInt) rfl (by omega)) dX12_toldSetting_88 ?_
          refine g_top (v := (V 16 (Int32.toNatClampNeg (V 0 12)))) ((ajV160 16 (Int32.toNatClampNeg (V 0 12)) rfl).trans ((up2_o hV153 (by decide)).trans ((ajV150 16 (Int32.toNatClampNeg (V 0 12)) rfl).trans ((ajV29 16 (Int32.toNatClampNeg (V 0 12)) rfl).trans (ajV13 16 (Int32.toNatClampNeg (V 0 12)) rfl))))) ?_
          refine lv_iconst (v := 1) hx hb dX12_toldSetting_89 (by decide) ?_
          refine lv_iadd hx hb dX12_toldSetting_90 ?_
          refine lv_topi (fun z163 ez163 => ?_)
          have hz163 : z163.toInt = ((V 16 (Int32.toNatClampNeg (V 0 12)))).toInt + 1 := i_add ez163 rfl (by decide) (by omega)
          refine va_iast (D := D) (i := (V 0 12)) (x := z163) hx hb hK hP hD hS 9 8 rfl rfl (i_in (a := ((V 0 12)).toInt) rfl (by omega)) dX12_toldSetting_91 (fun H locs hP hD hS => ?_)
          obtain ⟨V164, hV164⟩ : ∃ z, z = up2 V160 16 (Int32.toNatClampNeg (V 0 12)) z163 := ⟨_, rfl⟩
          have hP : va_P D vwCl (mw ad kk ks.1 V164 L144) H := by rw [hV164]; exact hP
          have hD : va_D A (mw ad kk ks.1 V164 L144) := by rw [hV164]; exact hD
          have hMV164 : rgd bM V164 := hMV160.put hV164 (show 0 ≤ z163.toInt ∧ z163.toInt ≤ 12 from by omega)
          have agV164 : agr [(0, 7), (0, 8)] [16, 17, 18] V V164 := agV160.up hV164 rfl
          have pq165 : (V164 0 7).toInt = ((V160 0 7)).toInt := congrArg Int32.toInt (up2_o hV164 (by decide))
          have pq166 : (V164 0 48).toInt = ((V 0 48)).toInt := congrArg Int32.toInt ((up2_o hV164 (by decide)).trans ((ajV160 0 48 rfl).trans ((up2_o hV153 (by decide)).trans ((ajV150 0 48 rfl).trans ((ajV29 0 48 rfl).trans (ajV13 0 48 rfl))))))
          have pq167 : (V164 0 8).toInt = ((V160 0 8)).toInt := congrArg Int32.toInt (up2_o hV164 (by decide))
          have pq168 : (V164 0 12).toInt = ((V 0 12)).toInt := congrArg Int32.toInt ((up2_o hV164 (by decide)).trans ((ajV160 0 12 rfl).trans ((up2_o hV153 (by decide)).trans ((ajV150 0 12 rfl).trans ((ajV29 0 12 rfl).trans (ajV13 0 12 rfl))))))
          exact W.vret hx hb hr (fun t ht hW => ⟨⟨(V164, L144), rfl, ⟨hMV164, agV164, alL144, (Imp.mk (fun hp => have hp : (V164 0 8).toInt = 0 := hp; (show (V164 0 48).toInt ≤ 2 * (V164 0 7).toInt from by omega))), (show (V164 0 48).toInt ≤ 8200 from by omega), (show (V164 0 12).toInt = (V 0 12).toInt from by omega), (Or.inr ⟨(show 1 ≤ (V164 0 8).toInt from by omega), (fun k => by rw [show (V164 0 8).toInt = (V29 0 8).toInt from by omega]; exact hb142 k)⟩)⟩, by rw [ht]; exact hP, va_K.moved hW.alike hK, hD⟩, hS.F ht⟩) hS.2.2 dX12_toldSetting_92
      · skip
        have f169 : 0 < ((V13 0 8)).toInt := b_nle rfl (by decide) c23
        exfalso; omega
    · skip
      exfalso; omega
  · skip
    have f170 : ((V 16 (Int32.toNatClampNeg (V 0 12)))).toInt = 12 := b_eq rfl (by decide) c6
    refine lv_iconst (v := 1) hx hb dX12_toldSetting_33 (by decide) ?_
    refine lv_goto (tgt := 38) hx hb dX12_toldSetting_34 (by decide) ?_
    have r171 : Int32.toInt 1 = 1 := by decide
    refine gA_void (gA_runV (As := [.int 1]) (rest := []) (ci := 12) (q0 := 0) hx hb hml hown hg hP hD hK hS hA hnw hgk (s_beginsA l D ks H.size ad kk V L 1 (bq) (gn) (gT) (gs) ((gs.2.1 2)) hMV (by decide) rel (by rw [kd9]; decide)) w2031 w2033 w85 w172 w2034 rfl rfl hdV_yX12_begins ⟨Nat.le_of_ble_eq_true rfl, Nat.le_of_ble_eq_true rfl⟩ rfl hl.1 rfl (Nat.le_of_ble_eq_true rfl) dX12_toldSetting_38 ⟨Nat.le_of_ble_eq_true rfl, Nat.le_of_ble_eq_true rfl⟩) hP hD hK hS hA (fun u173 H locs w174 hP hD hK hS => ?_)
    obtain ⟨V176, L177⟩ := u173
    obtain ⟨hMV176, ajV176, axL177, t175⟩ := w174
    have axL177 : L = L177 := Eq.symm axL177
    subst axL177
    have hP : va_P D vwCl (mw ad kk ks.1 V176 L) H := hP
    have hD : va_D A (mw ad kk ks.1 V176 L) := hD
    have hMV176 : rgd bM V176 := hMV176
    have ajV176 : agr [(0, 7), (0, 8)] [] V V176 := ajV176
    have agV176 : agr [(0, 7), (0, 8)] [16, 17, 18] V V176 := agV.tr ajV176 (by decide) (by decide)
    have t175 : ((Int32.toInt 1) = 0 ∧ (V176 0 8).toInt = 0 ∧ RelM V176 L (bq) (gn) (gT) (nx (gs) 1) ((gs.2.1 2))) ∨ ((Int32.toInt 1) = 1 ∧ 1 ≤ (V176 0 8).toInt ∧ (V176 0 8).toInt = 5 + 16 * (gT).2.2 ((gs).1 0)) := t175
    rcases t175 with ⟨q178, f179, rl180⟩ | ⟨q178, f179, rl180⟩
    · skip
      exfalso; omega
    · skip
      have hr181 : ∀ k, Rc gT (Crun gs (Istmt :: k)) (Crun gs (Istmt :: k)) := fun k => Rc.rf
      have hb182 : ∀ k, Rc gT (Crun gs (Istmt :: k)) (Cbad (V176 0 8).toInt) := fun k => Rc.go1 (hr181 k) ((st_130f kd9 (by omega)).trans (fl_eq rfl rl180))
      have r183 : 0 ≤ ((V176 0 8)).toInt ∧ ((V176 0 8)).toInt ≤ 70000 := hMV176 0 8
      refine lv_aload_n hx hb dX12_toldSetting_41 rfl (lv_at hl 1 rfl) ?_
      refine va_get (D := D) (ci := 12) (v := .int (V176 0 8)) (C := RX12) (T := TX12) (N := 100) hx hb hg inX12 hown hK hP 0 rfl rfl 8 (by decide) (hg _ w1714) (fun _ h9 => h9) rfl dX12_toldSetting_42 ?_
      refine lv_if_le (tgt := 49) hx hb dX12_toldSetting_45 (by decide) (fun c184 => ?_) (fun c184 => ?_)
      · skip
        have f185 : ((V176 0 8)).toInt ≤ 0 := b_le rfl (by decide) c184
        exfalso; omega
      · skip
        have f186 : 0 < ((V176 0 8)).toInt := b_nle rfl (by decide) c184
        have pq187 : (V176 0 48).toInt = ((V 0 48)).toInt := congrArg Int32.toInt (ajV176 0 48 rfl)
        have pq188 : (V176 0 12).toInt = ((V 0 12)).toInt := congrArg Int32.toInt (ajV176 0 12 rfl)
        exact W.vret hx hb hr (fun t ht hW => ⟨⟨(V176, L), rfl, ⟨hMV176, agV176, alL, (Imp.mk (fun hp => have hp : (V176 0 8).toInt = 0 := hp; (show (V176 0 48).toInt ≤ 2 * (V176 0 7).toInt from by omega))), (show (V176 0 48).toInt ≤ 8200 from by omega), (show (V176 0 12).toInt = (V 0 12).toInt from by omega), (Or.inr ⟨(show 1 ≤ (V176 0 8).toInt from by omega), hb182⟩)⟩, by rw [ht]; exact hP, va_K.moved hW.alike hK, hD⟩, hS.F ht⟩) hS.2.2 dX12_toldSetting_48
