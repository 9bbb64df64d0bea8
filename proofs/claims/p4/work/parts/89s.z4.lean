/-! statements of the reference -/
def OWm (V : Vf) (o : Nat) (s : St) : Prop := (V 27 o).toInt = ((s.1 1 : Nat) : Int) ∧ ((V 32 o).toInt < 0 ↔ s.1 2 ≠ 1) ∧ ((V 33 o).toInt < 0 ↔ s.1 3 ≠ 1) ∧ s.1 4 = 0 ∧ (∀ f, f < 20 → (0 ≤ (V 34 (20 * o + f)).toInt ↔ f ∈ s.2.2.2)) ∧ ∀ f ∈ s.2.2.2, f < (s.2.1 3).length
theorem OWm.mv {V W : Vf} {o : Nat} {s s' : St} (h : OWm V o s) (e27 : W 27 o = V 27 o) (e32 : W 32 o = V 32 o) (e33 : W 33 o = V 33 o) (e34 : ∀ f, f < 20 → W 34 (20 * o + f) = V 34 (20 * o + f)) (k : ∀ i, 1 ≤ i → s'.1 i = s.1 i) (t : s'.2.2 = s.2.2) (l : (s.2.1 3).length ≤ (s'.2.1 3).length) : OWm W o s' := by
  unfold OWm at h ⊢
  rw [e27, e32, e33, k 1 (by decide), k 2 (by decide), k 3 (by decide), k 4 (by decide), t]
  exact ⟨h.1, h.2.1, h.2.2.1, h.2.2.2.1, fun f hf => by rw [e34 f hf]; exact h.2.2.2.2.1 f hf, fun f hf => Nat.lt_of_lt_of_le (h.2.2.2.2.2 f hf) l⟩
theorem RelM.a0 {V W : Vf} {L M : Lf} {q n : Nat} {T : Tk} {s : St} {w : Int64} {a z : Int32} (h : RelM V L q n T s (s.2.1 2)) (f : fndI (s.2.1 0) w = none) (e : M = upL L 14 (Int32.toNatClampNeg a) w) (ha : a.toInt = ((24 * q : Nat) : Int) + (V 13 q).toInt) (ev : W = up2 V 13 q z) (hz : z.toInt = (V 13 q).toInt + 1) (h0 : 0 ≤ (V 13 q).toInt) : RelM W M q n T (sA s 0 w) ((sA s 0 w).2.1 2) := by
  have g : ∀ x, ¬ x = 13 → W x = V x := fun x hx => up2_fo ev hx
  have m : ∀ x, x ≠ 14 → M x = L x := fun x hx => upL_o e hx
  have w13 : W 13 q = z := up2_s ev
  have t := h.2.2.1
  refine ⟨by unfold HDm; rw [g 0 (by decide)]; exact h.1, h.2.1.ag (g 4 (by decide)) (g 5 (by decide)) (m 6 (by decide)) (m 10 (by decide)), ⟨?_, ?_, ?_, ?_, ?_⟩, h.2.2.2.ag (g 39 (by decide)) (g 41 (by decide)) (g 43 (by decide)) rfl⟩
  · rw [w13]
    exact ⟨LSw.ad (a := a.toInt) t.1.1 e ha h0 hz, t.1.2.add f⟩
  · rw [g 16 (by decide), m 17 (by decide)]
    exact t.2.1
  · rw [g 19 (by decide), m 20 (by decide)]
    exact t.2.2.1
  · rw [g 35 (by decide), m 36 (by decide)]
    exact t.2.2.2.1
  · rw [g 37 (by decide), m 38 (by decide)]
    exact t.2.2.2.2
theorem RelM.a1 {V W : Vf} {L M : Lf} {q n : Nat} {T : Tk} {s : St} {w : Int64} {a z : Int32} (h : RelM V L q n T s (s.2.1 2)) (f : fndI (s.2.1 1) w = none) (e : L 17 (Int32.toNatClampNeg a) = w) (ha : a.toInt = ((12 * q : Nat) : Int) + (V 16 q).toInt) (ev : W = up2 V 16 q z) (hz : z.toInt = (V 16 q).toInt + 1) (h0 : 0 ≤ (V 16 q).toInt) (eM : M = L) : RelM W M q n T (sA s 1 w) ((sA s 1 w).2.1 2) := by
  have g : ∀ x, ¬ x = 16 → W x = V x := fun x hx => up2_fo ev hx
  subst eM
  have w16 : W 16 q = z := up2_s ev
  have t := h.2.2.1
  refine ⟨by unfold HDm; rw [g 0 (by decide)]; exact h.1, h.2.1.ag (g 4 (by decide)) (g 5 (by decide)) rfl rfl, ⟨?_, ?_, ?_, ?_, ?_⟩, h.2.2.2.ag (g 39 (by decide)) (g 41 (by decide)) (g 43 (by decide)) rfl⟩
  · rw [g 13 (by decide)]
    exact t.1
  · rw [w16]
    refine ⟨t.2.1.1.add hz ?_ (fun _ _ => rfl), t.2.1.2.add f⟩
    show M 17 (12 * q + (V 16 q).toInt.toNat) = w
    have ea : 12 * q + (V 16 q).toInt.toNat = Int32.toNatClampNeg a := by
      have := i_clamp (x := a) rfl (by omega)
      omega
    rw [ea]
    exact e
  · rw [g 19 (by decide)]
    exact t.2.2.1
  · rw [g 35 (by decide)]
    exact t.2.2.2.1
  · rw [g 37 (by decide)]
    exact t.2.2.2.2
/-- the setting's name is laid ahead of its end: a place that no one reads yet -/
theorem RelM.l17 {V : Vf} {L M : Lf} {q n : Nat} {T : Tk} {s : St} {l2 : List Int64} {w : Int64} {a : Int32} (h : RelM V L q n T s l2) (e : M = upL L 17 (Int32.toNatClampNeg a) w) (ha : a.toInt = ((12 * q : Nat) : Int) + (V 16 q).toInt) (h0 : 0 ≤ (V 16 q).toInt) : RelM V M q n T s l2 := by
  have m : ∀ x, x ≠ 17 → M x = L x := fun x hx => upL_o e hx
  have t := h.2.2.1
  have kc := i_clamp (x := a) rfl (by omega)
  refine ⟨h.1, h.2.1.ag rfl rfl (m 6 (by decide)) (m 10 (by decide)), ⟨?_, ?_, ?_, ?_, ?_⟩, h.2.2.2⟩
  · rw [m 14 (by decide)]
    exact t.1
  · refine ⟨⟨t.2.1.1.1, fun i hi => ?_⟩, t.2.1.2⟩
    have z := t.2.1.1.1
    rw [t.2.1.1.2 i hi]
    show L 17 (12 * q + i) = M 17 (12 * q + i)
    rw [e]
    unfold upL vp_updL
    rw [if_pos rfl, if_neg (by omega)]
  · rw [m 20 (by decide)]
    exact t.2.2.1
  · rw [m 36 (by decide)]
    exact t.2.2.2.1
  · rw [m 38 (by decide)]
    exact t.2.2.2.2
theorem RelM.a2 {V W : Vf} {L M : Lf} {q n : Nat} {T : Tk} {s : St} {l2 : List Int64} {w : Int64} {a z : Int32} (h : RelM V L q n T s l2) (f : fndI l2 w = none) (e : M = upL L 20 (Int32.toNatClampNeg a) w) (ha : a.toInt = ((24 * q : Nat) : Int) + (V 19 q).toInt) (ev : W = up2 V 19 q z) (hz : z.toInt = (V 19 q).toInt + 1) (h0 : 0 ≤ (V 19 q).toInt) : RelM W M q n T s (l2 ++ [w]) := by
  have g : ∀ x, ¬ x = 19 → W x = V x := fun x hx => up2_fo ev hx
  have m : ∀ x, x ≠ 20 → M x = L x := fun x hx => upL_o e hx
  have w19 : W 19 q = z := up2_s ev
  have t := h.2.2.1
  refine ⟨by unfold HDm; rw [g 0 (by decide)]; exact h.1, h.2.1.ag (g 4 (by decide)) (g 5 (by decide)) (m 6 (by decide)) (m 10 (by decide)), ⟨?_, ?_, ?_, ?_, ?_⟩, h.2.2.2.ag (g 39 (by decide)) (g 41 (by decide)) (g 43 (by decide)) rfl⟩
  · rw [g 13 (by decide), m 14 (by decide)]
    exact t.1
  · rw [g 16 (by decide), m 17 (by decide)]
    exact t.2.1
  · rw [w19]
    exact ⟨LSw.ad (a := a.toInt) t.2.2.1.1 e ha h0 hz, t.2.2.1.2.add f⟩
  · rw [g 35 (by decide), m 36 (by decide)]
    exact t.2.2.2.1
  · rw [g 37 (by decide), m 38 (by decide)]
    exact t.2.2.2.2
theorem told_i {s : St} {w : Int64} (h : isTold s w = false) : fndI (s.2.1 0) w = none ∧ fndI (s.2.1 1) w = none ∧ fndI (s.2.1 2) w = none := by
  unfold isTold at h
  rw [Bool.or_eq_false_iff, Bool.or_eq_false_iff] at h
  exact ⟨Option.not_isSome_iff_eq_none.mp (by rw [h.1.1]; decide), Option.not_isSome_iff_eq_none.mp (by rw [h.1.2]; decide), Option.not_isSome_iff_eq_none.mp (by rw [h.2]; decide)⟩
def ARm (s : St) : Prop := ∀ f, arounds s.2.2.1 f ≤ 2
theorem ARm.mv {s s' : St} (h : ARm s) (e : s'.2.2.1 = s.2.2.1) : ARm s' := by
  unfold ARm at h ⊢
  rw [e]
  exact h


abbrev r_s_expressionA8 : Room := { frames := 93, cells := 0, slots := 0, locals := 2820 }
abbrev q_s_expressionA8 (D : va_G) (ks : KS) (ad : Nat → Nat) (kk : Nat → ClassId) (V : Vf) (L : Lf) (bq : Nat) (gn : Nat) (gT : Tk) (gs : St) (gl : List Int64) (A : Nat → Prop) : Array Value → State → Outcome → State → Prop := q_s_expressionA D ks ad kk V L bq gn gT gs gl 0 A
theorem s_expressionA8 (l : Launch) (D : va_G) (ks : KS) (sz : Nat) (ad : Nat → Nat) (kk : Nat → ClassId) (V : Vf) (L : Lf) (bq : Nat) (gn : Nat) (gT : Tk) (gs : St) (gl : List Int64) (hMV : rgd bM V) (rel : RelM V L bq gn gT gs gl) (c1 : (V 0 48).toInt ≤ 2 * (V 0 7).toInt) (em : EM V gs) (yd : (V 0 50).toInt = 0) : Met l yX12_expression (Cond.code yX12_expression cX12_expression 3 none :: GW) r_s_expressionA8 (va_Pc [.ref (ad 0)] (gp D ks (mw ad kk ks.1 V L) (mty kk) sz)) (q_s_expressionA8 D ks ad kk V L bq gn gT gs gl (va_A (mw ad kk ks.1 V L) sz)) 0 0 (va_A (mw ad kk ks.1 V L) sz) :=
  K_exprA 8 sz ad kk V L bq gn gT gs gl 0 hMV rel c1 (by omega) (by omega) em

abbrev r_s_codeA : Room := { frames := 94, cells := 0, slots := 0, locals := 2842 }
abbrev q_s_codeA (D : va_G) (ks : KS) (ad : Nat → Nat) (kk : Nat → ClassId) (V : Vf) (L : Lf) (bq : Nat) (gn : Nat) (gT : Tk) (gs : St) (gl : List Int64) (A : Nat → Prop) : Array Value → State → Outcome → State → Prop := va_Qi (fun (r : Int32) (u : Vf × Lf) => rgd bM u.1 ∧ agr [(0, 7), (0, 8), (0, 48), (0, 50)] [35, 36, 37, 38, 45, 46, 47] V u.1 ∧ agL [35, 36, 37, 38, 45, 46, 47] L u.2 ∧ (0 ≤ r.toInt ∧ r.toInt ≤ 20000) ∧ (Imp ((u.1 0 8).toInt = 0) ((u.1 0 48).toInt - (V 0 48).toInt ≤ 2 * ((u.1 0 7).toInt - (V 0 7).toInt) + 1)) ∧ ((u.1 0 48).toInt ≤ 8060) ∧ ((V 0 48).toInt ≤ (u.1 0 48).toInt) ∧ (r.toInt = (V 0 49).toInt + (V 0 48).toInt) ∧ (RdM gT gs (fun k => Iexpr 0 :: k) (fun k => k) (u.1 0 8).toInt (fun s9 => RelM u.1 u.2 bq gn gT s9 gl ∧ keepS gs 1 s9)) ∧ (RoV 35 bq V u.1) ∧ (RoV 37 bq V u.1) ∧ (RoL 36 20 bq L u.2) ∧ (RoL 38 20 bq L u.2)) (fun u t => gq D A (mw ad kk ks.1 u.1 u.2) (mty kk) t) A
set_option maxHeartbeats 4000000 in
set_option maxRecDepth 100000 in
theorem s_codeA (l : Launch) (D : va_G) (ks : KS) (sz : Nat) (ad : Nat → Nat) (kk : Nat → ClassId) (V : Vf) (L : Lf) (bq : Nat) (gn : Nat) (gT : Tk) (gs : St) (gl : List Int64) (hMV : rgd bM V) (rel : RelM V L bq gn gT gs gl) (c1 : (V 0 48).toInt ≤ 2 * (V 0 7).toInt) (em : EM V gs)  : Met l yX12_code (Cond.code yX12_code cX12_code 3 (some .int) :: GW) r_s_codeA (va_Pc [.ref (ad 0)] (gp D ks (mw ad kk ks.1 V L) (mty kk) sz)) (q_s_codeA D ks ad kk V L  bq gn gT gs gl (va_A (mw ad kk ks.1 V L) sz)) 0 0 (va_A (mw ad kk ks.1 V L) sz) := by
  refine g_met (q_s_codeA D ks ad kk V L  bq gn gT gs gl) (by decide) (Nat.le_of_ble_eq_true rfl) ?_
  intro p e s m below meth c A ls H locs hx hb hr hml hown hg hlocks hin hnw hgk hP hK hD hS hA hl
  have hown : s.vm.findClass RX12 = some m.cls := hown
  have hl : lv_has ls 3 [(0, .ref (ad 0))] := hl
  have hP : va_P D vwCl (mw ad kk ks.1 V L) H := hP
  have hD : va_D A (mw ad kk ks.1 V L) := hD
  have hK : va_K D vwCl (mty kk) s := hK
  have agV : agr [(0, 7), (0, 8), (0, 48), (0, 50)] [35, 36, 37, 38, 45, 46, 47] V V := agr.rf
  have alL : agL [35, 36, 37, 38, 45, 46, 47] L L := agL.rf
  have r1 : 0 ≤ ((V 0 48)).toInt ∧ ((V 0 48)).toInt ≤ 10000 := hMV 0 48
  have rg0 := RelM.rg rel
  have cl0 := RelM.cl rel
  have cq0 := RelM.cq rel
  refine lv_aload_n hx hb dX12_code_0 rfl (lv_at hl 0 rfl) ?_
  refine va_get (D := D) (ci := 12) (v := .int (V 0 49)) (C := RX12) (T := TX12) (N := 100) hx hb hg inX12 hown hK hP 0 rfl rfl 49 (by decide) (hg _ w1755) (fun _ h9 => h9) rfl dX12_code_1 ?_
  have r2 : 0 ≤ ((V 0 49)).toInt ∧ ((V 0 49)).toInt ≤ 10000 := hMV 0 49
  refine lv_aload_n hx hb dX12_code_4 rfl (lv_at hl 0 rfl) ?_
  refine va_get (D := D) (ci := 12) (v := .int (V 0 48)) (C := RX12) (T := TX12) (N := 100) hx hb hg inX12 hown hK hP 0 rfl rfl 48 (by decide) (hg _ w1754) (fun _ h9 => h9) rfl dX12_code_5 ?_
  refine lv_iadd hx hb dX12_code_8 ?_
  refine lv_topi (fun z3 ez3 => ?_)
  have hz3 : z3.toInt = ((V 0 49)).toInt + ((V 0 48)).toInt := i_add ez3 rfl rfl (by omega)
  refine lv_istore_n (lv' := [(1, .int z3), (0, .ref (ad 0))]) hx hb dX12_code_9 rfl hl (by decide) rfl (fun ls hl => ?_)
  refine lv_aload_n hx hb dX12_code_10 rfl (lv_at hl 1 rfl) ?_
  refine lv_iconst (v := 0) hx hb dX12_code_11 (by decide) ?_
  refine va_put (D := D) (ci := 12) (v := .int 0) (ty := tyX12 50) (C := RX12) (T := TX12) (N := 100) hx hb hg inX12 tyX12 tyX12_ok nmX12 hown hK hP hD hS 0 rfl rfl 50 (by decide) (hg _ w1756) (fun _ h9 => h9) rfl (tyX12_ok 50 (by decide)) rfl rfl (Nat.le_of_ble_eq_true rfl) dX12_code_12 (fun H locs hP hD hS => ?_)
  obtain ⟨V4, hV4⟩ : ∃ z, z = up2 V 0 50 0 := ⟨_, rfl⟩
  have hP : va_P D vwCl (mw ad kk ks.1 V4 L) H := by rw [hV4]; exact hP
  have hD : va_D A (mw ad kk ks.1 V4 L) := by rw [hV4]; exact hD
  have hMV4 : rgd bM V4 := hMV.put hV4 (by decide)
  have agV4 : agr [(0, 7), (0, 8), (0, 48), (0, 50)] [35, 36, 37, 38, 45, 46, 47] V V4 := agV.up hV4 rfl
  refine lv_aload_n hx hb dX12_code_15 rfl (lv_at hl 1 rfl) ?_
  have rl5 : RelM V4 L bq gn gT gs gl := RelM.ag rel (show agr [(0, 50)] [] V V4 from (agr.up agr.rf hV4 rfl)) (by decide) (show agL [] L L from agL.rf) (by decide)
  have hr6 : ∀ k, Rc gT (Crun gs (Iexpr 0 :: k)) (Crun gs (Iexpr 0 :: k)) := fun k => Rc.rf
  have pq7 : (V4 0 7).toInt = ((V 0 7)).toInt := congrArg Int32.toInt (up2_k hV4 (by decide))
  have pq8 : (V4 0 48).toInt = ((V 0 48)).toInt := congrArg Int32.toInt (up2_k hV4 (by decide))
  have pq9 : (V4 0 50).toInt = 0 := (congrArg Int32.toInt (up2_s hV4)).trans (by decide)
  refine gA_void (gA_runV (As := []) (rest := []) (ci := 12) (q0 := 0) hx hb hml hown hg hP hD hK hS hA hnw hgk (s_expressionA8 l D ks H.size ad kk V4 L (bq) (gn) (gT) (gs) (gl) hMV4 rl5 (show (V4 0 48).toInt ≤ 2 * (V4 0 7).toInt from by omega) (EM.mv em (up2_k hV4 (by decide)) (up2_k hV4 (by decide)) (by rw [(up2_fo hV4 (by decide) : V4 27 = V 27)] : V4 27 = V 27) (fun _ _ => rfl)) (show (V4 0 50).toInt = 0 from by omega)) w2116 w2118 w106 w172 w2119 rfl rfl hdV_yX12_expression ⟨Nat.le_of_ble_eq_true rfl, Nat.le_of_ble_eq_true rfl⟩ rfl hl.1 rfl (Nat.le_of_ble_eq_true rfl) dX12_code_16 ⟨Nat.le_of_ble_eq_true rfl, Nat.le_of_ble_eq_true rfl⟩) hP hD hK hS hA (fun u11 H locs w12 hP hD hK hS => ?_)
  obtain ⟨V22, L23⟩ := u11
  obtain ⟨hMV22, ajV22, axL23, t13, t14, t15, t16, t17, t18, t19, t20, t21⟩ := w12
  have alL23 : agL [35, 36, 37, 38, 45, 46, 47] L L23 := agL.tr alL axL23 (by decide)
  have hP : va_P D vwCl (mw ad kk ks.1 V22 L23) H := hP
  have hD : va_D A (mw ad kk ks.1 V22 L23) := hD
  have hMV22 : rgd bM V22 := hMV22
  have ajV22 : agr [(0, 7), (0, 8), (0, 48), (0, 50)] [35, 36, 37, 38, 45, 46, 47] V4 V22 := ajV22
  have agV22 : agr [(0, 7), (0, 8), (0, 48), (0, 50)] [35, 36, 37, 38, 45, 46, 47] V V22 := agV4.tr ajV22 (by decide) (by decide)
  have t13 : Imp ((V22 0 8).toInt = 0) ((V22 0 48).toInt - (V4 0 48).toInt ≤ 2 * ((V22 0 7).toInt - (V4 0 7).toInt)) := t13
  have t14 : (V22 0 48).toInt ≤ 8051 - 6 * (V4 0 50).toInt := t14
  have t15 : (V22 0 50).toInt = (V4 0 50).toInt := t15
  have t16 : (V4 0 48).toInt ≤ (V22 0 48).toInt := t16
  have t17 : RdM (gT) (gs) (fun k => Iexpr 0 :: k) (fun k => k) (V22 0 8).toInt (fun s9 => RelM V22 L23 (bq) (gn) (gT) s9 (gl) ∧ keepS (gs) 1 s9) := t17
  have t18 : RoV 35 (bq) V4 V22 := t18
  have t19 : RoV 37 (bq) V4 V22 := t19
  have t20 : RoL 36 20 (bq) L L23 := t20
  have t21 : RoL 38 20 (bq) L L23 := t21
  have r24 : 0 ≤ ((V22 0 48)).toInt ∧ ((V22 0 48)).toInt ≤ 10000 := hMV22 0 48
  have r25 : 0 ≤ ((V22 0 8)).toInt ∧ ((V22 0 8)).toInt ≤ 70000 := hMV22 0 8
  have r26 : 0 ≤ ((V22 0 50)).toInt ∧ ((V22 0 50)).toInt ≤ 9 := hMV22 0 50
  rcases t17 with ⟨q27, sx28, h29, rl30, kp31⟩ | ⟨q27, h29⟩
  · skip
    have hr32 : ∀ k, Rc gT (Crun gs (Iexpr 0 :: k)) (Crun sx28 (k)) := fun k => (hr6 k).tr (h29 (k))
    have fz33 := RelM.rg rl30
    have ps34 := (kp31).1
    refine lv_aload_n hx hb dX12_code_19 rfl (lv_at hl 1 rfl) ?_
    refine lv_iconst (v := 0) hx hb dX12_code_20 (by decide) ?_
    refine lv_iconst (v := 0) hx hb dX12_code_21 (by decide) ?_
    refine lv_iconst (v := 0) hx hb dX12_code_22 (by decide) ?_
    have r35 : Int32.toInt 0 = 0 := by decide
    refine gA_int (gA_runV (As := [.int 0, .int 0, .int 0]) (rest := []) (ci := 12) (q0 := 0) hx hb hml hown hg hP hD hK hS hA hnw hgk (s_emit3 l D ks H.size ad kk V22 L23 0 0 0 hMV22 (show (V22 0 48).toInt ≤ 9999 from by first | omega | ((try (have i_t13 := Imp.go t13 (by omega))); omega))) w2136 w2138 w111 w172 w2139 rfl rfl hdV_yX12_emit ⟨Nat.le_of_ble_eq_true rfl, Nat.le_of_ble_eq_true rfl⟩ rfl hl.1 rfl (Nat.le_of_ble_eq_true rfl) dX12_code_23 ⟨Nat.le_of_ble_eq_true rfl, Nat.le_of_ble_eq_true rfl⟩) hP hD hK hS hA (fun z36 u37 H locs w38 hP hD hK hS => ?_)
    obtain ⟨V42, L43⟩ := u37
    obtain ⟨hMV42, ajV42, axL43, rgz36, t39, t40, t41⟩ := w38
    have axL43 : L23 = L43 := Eq.symm axL43
    subst axL43
    have hP : va_P D vwCl (mw ad kk ks.1 V42 L23) H := hP
    have hD : va_D A (mw ad kk ks.1 V42 L23) := hD
    have hMV42 : rgd bM V42 := hMV42
    have ajV42 : agr [(0, 48)] [45, 46, 47] V22 V42 := ajV42
    have agV42 : agr [(0, 7), (0, 8), (0, 48), (0, 50)] [35, 36, 37, 38, 45, 46, 47] V V42 := agV22.tr ajV42 (by decide) (by decide)
    have rgz36 : 0 ≤ z36.toInt ∧ z36.toInt ≤ 20000 := rgz36
    have t39 : (V42 0 48).toInt = (V22 0 48).toInt + 1 := t39
    have t40 : z36.toInt = (V22 0 49).toInt + (V22 0 48).toInt := t40
    have t41 : emitted V22 V42 (pA V22) 0 0 0 := t41
    have r44 : 0 ≤ ((V42 0 48)).toInt ∧ ((V42 0 48)).toInt ≤ 10000 := hMV42 0 48
    have pq45 : (V22 0 49).toInt = ((V 0 49)).toInt := congrArg Int32.toInt ((ajV22 0 49 rfl).trans (up2_k hV4 (by decide)))
    refine lv_istore_n (lv' := [(2, .int z36), (1, .int z3), (0, .ref (ad 0))]) hx hb dX12_code_26 rfl hl (by decide) rfl (fun ls hl => ?_)
    refine lv_iload_n hx hb dX12_code_27 rfl (lv_at hl 1 rfl) ?_
    have pq46 : (V42 0 7).toInt = ((V22 0 7)).toInt := congrArg Int32.toInt (ajV42 0 7 rfl)
    have pq47 : (V42 0 8).toInt = ((V22 0 8)).toInt := congrArg Int32.toInt (ajV42 0 8 rfl)
    have pq48 : (V42 0 49).toInt = ((V 0 49)).toInt := congrArg Int32.toInt ((ajV42 0 49 rfl).trans ((ajV22 0 49 rfl).trans (up2_k hV4 (by decide))))
    have rl49 : RelM V42 L23 bq gn gT sx28 gl := RelM.ag rl30 (show agr [(0, 48)] [45, 46, 47] V22 V42 from (agr.tr agr.rf ajV42 (by decide) (by decide))) (by decide) (show agL [] L23 L23 from agL.rf) (by decide)
    have rw50 : RoV 35 bq V V42 := (fun k hk => ((ajV42 35 k rfl).trans ((t18 k hk).trans ((up2_o hV4 (by decide)).trans rfl))))
    have rw51 : RoV 37 bq V V42 := (fun k hk => ((ajV42 37 k rfl).trans ((t19 k hk).trans ((up2_o hV4 (by decide)).trans rfl))))
    have rw52 : RoL 36 20 bq L L23 := (fun k hk => ((t20 k hk).trans rfl))
    have rw53 : RoL 38 20 bq L L23 := (fun k hk => ((t21 k hk).trans rfl))
    exact W.iret (v := z3) hx hb hr (fun t ht hW => ⟨⟨z3, (V42, L23), rfl, ⟨hMV42, agV42, alL23, (show 0 ≤ z3.toInt ∧ z3.toInt ≤ 20000 from by first | omega | ((try (have i_t13 := Imp.go t13 (by omega))); omega)), (Imp.mk (fun hp => have hp : (V42 0 8).toInt = 0 := hp; (show (V42 0 48).toInt - (V 0 48).toInt ≤ 2 * ((V42 0 7).toInt - (V 0 7).toInt) + 1 from by first | omega | ((try (have i_t13 := Imp.go t13 (by omega))); omega)))), (show (V42 0 48).toInt ≤ 8060 from by first | omega | ((try (have i_t13 := Imp.go t13 (by omega))); omega)), (show (V 0 48).toInt ≤ (V42 0 48).toInt from by first | omega | ((try (have i_t13 := Imp.go t13 (by omega))); omega)), (show z3.toInt = (V 0 49).toInt + (V 0 48).toInt from by first | omega | ((try (have i_t13 := Imp.go t13 (by omega))); omega)), (Or.inl ⟨W0 rl49, sx28, hr32, rl49, keepS.le (keepS.tr (keepS.rf : keepS gs 0 gs) kp31) (by decide)⟩), rw50, rw51, rw52, rw53⟩, by rw [ht]; exact hP, va_K.moved hW.alike hK, hD⟩, hS.F ht⟩) hS.2.2 dX12_code_28
  · skip
    have hb54 : ∀ k, Rc gT (Crun gs (Iexpr 0 :: k)) (Cbad (V22 0 8).toInt) := fun k => (hr6 k).tr (h29 (k))
    refine lv_aload_n hx hb dX12_code_19 rfl (lv_at hl 1 rfl) ?_
    refine lv_iconst (v := 0) hx hb dX12_code_20 (by decide) ?_
    refine lv_iconst (v := 0) hx hb dX12_code_21 (by decide) ?_
    refine lv_iconst (v := 0) hx hb dX12_code_22 (by decide) ?_
    have r55 : Int32.toInt 0 = 0 := by decide
    refine gA_int (gA_runV (As := [.int 0, .int 0, .int 0]) (rest := []) (ci := 12) (q0 := 0) hx hb hml hown hg hP hD hK hS hA hnw hgk (s_emit3 l D ks H.size ad kk V22 L23 0 0 0 hMV22 (show (V22 0 48).toInt ≤ 9999 from by first | omega | ((try (have i_t13 := Imp.go t13 (by omega))); omega))) w2136 w2138 w111 w172 w2139 rfl rfl hdV_yX12_emit ⟨Nat.le_of_ble_eq_true rfl, Nat.le_of_ble_eq_true rfl⟩ rfl hl.1 rfl (Nat.le_of_ble_eq_true rfl) dX12_code_23 ⟨Nat.le_of_ble_eq_true rfl, Nat.le_of_ble_eq_true rfl⟩) hP hD hK hS hA (fun z56 u57 H locs w58 hP hD hK hS => ?_)
    obtain ⟨V62, L63⟩ := u57
    obtain ⟨hMV62, ajV62, axL63, rgz56, t59, t60, t61⟩ := w58
    have axL63 : L23 = L63 := Eq.symm axL63
    subst axL63
    have hP : va_P D vwCl (mw ad kk ks.1 V62 L23) H := hP
    have hD : va_D A (mw ad kk ks.1 V62 L23) := hD
    have hMV62 : rgd bM V62 := hMV62
    have ajV62 : agr [(0, 48)] [45, 46, 47] V22 V62 := ajV62
    have agV62 : agr [(0, 7), (0, 8), (0, 48), (0, 50)] [35, 36, 37, 38, 45, 46, 47] V V62 := agV22.tr ajV62 (by decide) (by decide)
    have rgz56 : 0 ≤ z56.toInt ∧ z56.toInt ≤ 20000 := rgz56
    have t59 : (V62 0 48).toInt = (V22 0 48).toInt + 1 := t59
    have t60 : z56.toInt = (V22 0 49).toInt + (V22 0 48).toInt := t60
    have t61 : emitted V22 V62 (pA V22) 0 0 0 := t61
    have r64 : 0 ≤ ((V62 0 48)).toInt ∧ ((V62 0 48)).toInt ≤ 10000 := hMV62 0 48
    have pq65 : (V22 0 49).toInt = ((V 0 49)).toInt := congrArg Int32.toInt ((ajV22 0 49 rfl).trans (up2_k hV4 (by decide)))
    refine lv_istore_n (lv' := [(2, .int z56), (1, .int z3), (0, .ref (ad 0))]) hx hb dX12_code_26 rfl hl (by decide) rfl (fun ls hl => ?_)
    refine lv_iload_n hx hb dX12_code_27 rfl (lv_at hl 1 rfl) ?_
    have pq66 : (V62 0 7).toInt = ((V22 0 7)).toInt := congrArg Int32.toInt (ajV62 0 7 rfl)
    have pq67 : (V62 0 8).toInt = ((V22 0 8)).toInt := congrArg Int32.toInt (ajV62 0 8 rfl)
    have pq68 : (V62 0 49).toInt = ((V 0 49)).toInt := congrArg Int32.toInt ((ajV62 0 49 rfl).trans ((ajV22 0 49 rfl).trans (up2_k hV4 (by decide))))
    have rw69 : RoV 35 bq V V62 := (fun k hk => ((ajV62 35 k rfl).trans ((t18 k hk).trans ((up2_o hV4 (by decide)).trans rfl))))
    have rw70 : RoV 37 bq V V62 := (fun k hk => ((ajV62 37 k rfl).trans ((t19 k hk).trans ((up2_o hV4 (by decide)).trans rfl))))
    have rw71 : RoL 36 20 bq L L23 := (fun k hk => ((t20 k hk).trans rfl))
    have rw72 : RoL 38 20 bq L L23 := (fun k hk => ((t21 k hk).trans rfl))
    exact W.iret (v := z3) hx hb hr (fun t ht hW => ⟨⟨z3, (V62, L23), rfl, ⟨hMV62, agV62, alL23, (show 0 ≤ z3.toInt ∧ z3.toInt ≤ 20000 from by first | omega | ((try (have i_t13 := Imp.go t13 (by omega))); omega)), (Imp.mk (fun hp => have hp : (V62 0 8).toInt = 0 := hp; (show (V62 0 48).toInt - (V 0 48).toInt ≤ 2 * ((V62 0 7).toInt - (V 0 7).toInt) + 1 from by first | omega | ((try (have i_t13 := Imp.go t13 (by omega))); omega)))), (show (V62 0 48).toInt ≤ 8060 from by first | omega | ((try (have i_t13 := Imp.go t13 (by omega))); omega)), (show (V 0 48).toInt ≤ (V62 0 48).toInt from by first | omega | ((try (have i_t13 := Imp.go t13 (by omega))); omega)), (show z3.toInt = (V 0 49).toInt + (V 0 48).toInt from by first | omega | ((try (have i_t13 := Imp.go t13 (by omega))); omega)), (Or.inr ⟨(show 1 ≤ (V62 0 8).toInt from by omega), (fun k => by rw [show (V62 0 8).toInt = (V22 0 8).toInt from by omega]; exact hb54 k)⟩), rw69, rw70, rw71, rw72⟩, by rw [ht]; exact hP, va_K.moved hW.alike hK, hD⟩, hS.F ht⟩) hS.2.2 dX12_code_28
abbrev r_s_toldTypeA : Room := { frames := 4, cells := 0, slots := 0, locals := 97 }
abbrev q_s_toldTypeA (D : va_G) (ks : KS) (ad : Nat → Nat) (kk : Nat → ClassId) (V : Vf) (L : Lf) (bq : Nat) (gn : Nat) (gT : Tk) (gs : St) (A : Nat → Prop) : Array Value → State → Outcome → State → Prop := va_Qv (fun (u : Vf × Lf) => rgd bM u.1 ∧ agr [(0, 7), (0, 8)] [13, 14, 15, 21, 53] V u.1 ∧ agL [13, 14, 15, 21, 53] L u.2 ∧ (Imp ((u.1 0 8).toInt = 0) ((u.1 0 48).toInt ≤ 2 * (u.1 0 7).toInt)) ∧ ((u.1 0 48).toInt ≤ 8200) ∧ ((u.1 0 12).toInt = (V 0 12).toInt) ∧ (RdM gT gs (fun k => Istmt :: k) (fun k => Istmt :: k) (u.1 0 8).toInt (fun s9 => RelM u.1 u.2 bq gn gT s9 (s9.2.1 2) ∧ gs.1 0 + 1 ≤ s9.1 0 ∧ ARm s9)) ∧ (RoV 13 bq V u.1) ∧ (RoL 14 24 bq L u.2)) (fun u t => gq D A (mw ad kk ks.1 u.1 u.2) (mty kk) t) A
set_option maxHeartbeats 4000000 in
set_option maxRecDepth 100000 in
theorem s_toldTypeA (l : Launch) (D : va_G) (ks : KS) (sz : Nat) (ad : Nat → Nat) (kk : Nat → ClassId) (V : Vf) (L : Lf) (bq : Nat) (gn : Nat) (gT : Tk) (gs : St) (hMV : rgd bM V) (rel : RelM V L bq gn gT gs (gs.2.1 2)) (kd9 : gT.1 (gs.1 0) = 128) (cc : (V 0 48).toInt ≤ 2 * (V 0 7).toInt) (arm : ARm gs)  : Met l yX12_toldType (Cond.code yX12_toldType cX12_toldType 5 none :: GW) r_s_toldTypeA (va_Pc [.ref (ad 0)] (gp D ks (mw ad kk ks.1 V L) (mty kk) sz)) (q_s_toldTypeA D ks ad kk V L  bq gn gT gs (va_A (mw ad kk ks.1 V L) sz)) 0 0 (va_A (mw ad kk ks.1 V L) sz) := by
  refine g_met (q_s_toldTypeA D ks ad kk V L  bq gn gT gs) (by decide) (Nat.le_of_ble_eq_true rfl) ?_
  intro p e s m below meth c A ls H locs hx hb hr hml hown hg hlocks hin hnw hgk hP hK hD hS hA hl
  have hown : s.vm.findClass RX12 = some m.cls := hown
  have hl : lv_has ls 5 [(0, .ref (ad 0))] := hl
  have hP : va_P D vwCl (mw ad kk ks.1 V L) H := hP
  have hD : va_D A (mw ad kk ks.1 V L) := hD
  have hK : va_K D vwCl (mty kk) s := hK
  have agV : agr [(0, 7), (0, 8)] [13, 14, 15, 21, 53] V V := agr.rf
  have alL : agL [13, 14, 15, 21, 53] L L := agL.rf
  have r1 : 0 ≤ ((V 0 48)).toInt ∧ ((V 0 48)).toInt ≤ 10000 := hMV 0 48
  have rg0 := RelM.rg rel
  have cl0 := RelM.cl rel
  have cq0 := RelM.cq rel
  have ln0 := RelM.len rel
  have q13 : (V 13 (Int32.toNatClampNeg (V 0 12))).toInt = (V 13 bq).toInt := by rw [cq0]
  have q16 : (V 16 (Int32.toNatClampNeg (V 0 12))).toInt = (V 16 bq).toInt := by rw [cq0]
  have q19 : (V 19 (Int32.toNatClampNeg (V 0 12))).toInt = (V 19 bq).toInt := by rw [cq0]
  have q39 : (V 39 (Int32.toNatClampNeg (V 0 12))).toInt = (V 39 bq).toInt := by rw [cq0]
  refine lv_bipush (v := 24) hx hb dX12_toldType_0 (by decide) ?_
  refine lv_aload_n hx hb dX12_toldType_2 rfl (lv_at hl 0 rfl) ?_
  refine va_get (D := D) (ci := 12) (v := .int (V 0 12)) (C := RX12) (T := TX12) (N := 100) hx hb hg inX12 hown hK hP 0 rfl rfl 12 (by decide) (hg _ w1718) (fun _ h9 => h9) rfl dX12_toldType_3 ?_
  have r2 : 0 ≤ ((V 0 12)).toInt ∧ ((V 0 12)).toInt ≤ 1 := hMV 0 12
  refine lv_imul hx hb dX12_toldType_6 ?_
  refine lv_topi (fun z3 ez3 => ?_)
  have hz3 : z3.toInt = 24 * ((V 0 12)).toInt := i_mul ez3 (by decide) rfl (by omega)
  refine lv_aload_n hx hb dX12_toldType_7 rfl (lv_at hl 0 rfl) ?_
  refine va_get (D := D) (ci := 12) (v := .ref (ad 13)) (C := RX12) (T := TX12) (N := 100) hx hb hg inX12 hown hK hP 0 rfl rfl 13 (by decide) (hg _ w1719) (fun _ h9 => h9) rfl dX12_toldType_8 ?_
  refine lv_aload_n hx hb dX12_toldType_11 rfl (lv_at hl 0 rfl) ?_
  refine va_get (D := D) (ci := 12) (v := .int (V 0 12)) (C := RX12) (T := TX12) (N := 100) hx hb hg inX12 hown hK hP 0 rfl rfl 12 (by decide) (hg _ w1718) (fun _ h9 => h9) rfl dX12_toldType_12 ?_
  refine va_iald (D := D) (i := (V 0 12)) hx hb hK hP 6 5 rfl rfl (i_in (a := ((V 0 12)).toInt) rfl (by omega)) dX12_toldType_15 ?_
  have r4 : 0 ≤ ((V 13 (Int32.toNatClampNeg (V 0 12)))).toInt ∧ ((V 13 (Int32.toNatClampNeg (V 0 12)))).toInt ≤ 24 := hMV 13 (Int32.toNatClampNeg (V 0 12))
  refine lv_iadd hx hb dX12_toldType_16 ?_
  refine lv_topi (fun z5 ez5 => ?_)
  have hz5 : z5.toInt = z3.toInt + ((V 13 (Int32.toNatClampNeg (V 0 12)))).toInt := i_add ez5 rfl rfl (by omega)
  refine lv_istore_n (lv' := [(1, .int z5), (0, .ref (ad 0))]) hx hb dX12_toldType_17 rfl hl (by decide) rfl (fun ls hl => ?_)
  refine lv_aload_n hx hb dX12_toldType_18 rfl (lv_at hl 1 rfl) ?_
  refine lv_aload_n hx hb dX12_toldType_19 rfl (lv_at hl 1 rfl) ?_
  refine va_get (D := D) (ci := 12) (v := .ref (ad 13)) (C := RX12) (T := TX12) (N := 100) hx hb hg inX12 hown hK hP 0 rfl rfl 13 (by decide) (hg _ w1719) (fun _ h9 => h9) rfl dX12_toldType_20 ?_
  refine lv_aload_n hx hb dX12_toldType_23 rfl (lv_at hl 1 rfl) ?_
  refine va_get (D := D) (ci := 12) (v := .int (V 0 12)) (C := RX12) (T := TX12) (N := 100) hx hb hg inX12 hown hK hP 0 rfl rfl 12 (by decide) (hg _ w1718) (fun _ h9 => h9) rfl dX12_toldType_24 ?_
  refine va_iald (D := D) (i := (V 0 12)) hx hb hK hP 6 5 rfl rfl (i_in (a := ((V 0 12)).toInt) rfl (by omega)) dX12_toldType_27 ?_
  refine lv_bipush (v := 24) hx hb dX12_toldType_28 (by decide) ?_
  refine lv_icmp_ne (tgt := 37) hx hb dX12_toldType_30 (by decide) (fun c6 => ?_) (fun c6 => ?_)
  · skip
    have f7 : ((V 13 (Int32.toNatClampNeg (V 0 12)))).toInt ≠ 24 := b_neq rfl (by decide) c6
    refine lv_iconst (v := 0) hx hb dX12_toldType_37 (by decide) ?_
    have r8 : Int32.toInt 0 = 0 := by decide
    refine gA_void (gA_runV (As := [.int 0]) (rest := []) (ci := 12) (q0 := 0) hx hb hml hown hg hP hD hK hS hA hnw hgk (s_beginsA l D ks H.size ad kk V L 0 (bq) (gn) (gT) (gs) ((gs.2.1 2)) hMV (by decide) rel (by rw [kd9]; decide)) w2031 w2033 w85 w172 w2034 rfl rfl hdV_yX12_begins ⟨Nat.le_of_ble_eq_true rfl, Nat.le_of_ble_eq_true rfl⟩ rfl hl.1 rfl (Nat.le_of_ble_eq_true rfl) dX12_toldType_38 ⟨Nat.le_of_ble_eq_true rfl, Nat.le_of_ble_eq_true rfl⟩) hP hD hK hS hA (fun u10 H locs w11 hP hD hK hS => ?_)
    obtain ⟨V13, L14⟩ := u10
    obtain ⟨hMV13, ajV13, axL14, t12⟩ := w11
    have axL14 : L = L14 := Eq.symm axL14
    subst axL14
    have hP : va_P D vwCl (mw ad kk ks.1 V13 L) H := hP
    have hD : va_D A (mw ad kk ks.1 V13 L) := hD
    have hMV13 : rgd bM V13 := hMV13
    have ajV13 : agr [(0, 7), (0, 8)] [] V V13 := ajV13
    have agV13 : agr [(0, 7), (0, 8)] [13, 14, 15, 21, 53] V V13 := agV.tr ajV13 (by decide) (by decide)
    have t12 : ((Int32.toInt 0) = 0 ∧ (V13 0 8).toInt = 0 ∧ RelM V13 L (bq) (gn) (gT) (nx (gs) 1) ((gs.2.1 2))) ∨ ((Int32.toInt 0) = 1 ∧ 1 ≤ (V13 0 8).toInt ∧ (V13 0 8).toInt = 5 + 16 * (gT).2.2 ((gs).1 0)) := t12
    rcases t12 with ⟨q15, f16, rl17⟩ | ⟨q15, f16, rl17⟩
    · skip
      have hr18 : ∀ k, Rc gT (Crun gs (Istmt :: k)) (Crun gs (Istmt :: k)) := fun k => Rc.rf
      have hr19 : ∀ k, Rc gT (Crun gs (Istmt :: k)) (Crun (nx gs 1) (InewType :: k)) := fun k => Rc.go1 (hr18 k) (st_128 kd9 (by omega))
      have ps20 : (nx gs 1).1 0 = gs.1 0 + 1 := rfl
      have fz21 := RelM.rg rl17
      have r22 : 0 ≤ ((V13 0 8)).toInt ∧ ((V13 0 8)).toInt ≤ 70000 := hMV13 0 8
      refine lv_aload_n hx hb dX12_toldType_41 rfl (lv_at hl 1 rfl) ?_
      refine va_get (D := D) (ci := 12) (v := .int (V13 0 8)) (C := RX12) (T := TX12) (N := 100) hx hb hg inX12 hown hK hP 0 rfl rfl 8 (by decide) (hg _ w1714) (fun _ h9 => h9) rfl dX12_toldType_42 ?_
      refine lv_if_le (tgt := 49) hx hb dX12_toldType_45 (by decide) (fun c23 => ?_) (fun c23 => ?_)
      · skip
        have f24 : ((V13 0 8)).toInt ≤ 0 := b_le rfl (by decide) c23
        refine lv_aload_n hx hb dX12_toldType_49 rfl (lv_at hl 1 rfl) ?_
        refine gA_long (gA_runV (As := []) (rest := []) (ci := 12) (q0 := 0) hx hb hml hown hg hP hD hK hS hA hnw hgk (s_newNameA l D ks H.size ad kk V13 L (bq) (gn) (gT) ((nx gs 1)) hMV13 rl17) w2039 w2041 w87 w172 w2042 rfl rfl hdV_yX12_newName ⟨Nat.le_of_ble_eq_true rfl, Nat.le_of_ble_eq_true rfl⟩ rfl hl.1 rfl (Nat.le_of_ble_eq_true rfl) dX12_toldType_50 ⟨Nat.le_of_ble_eq_true rfl, Nat.le_of_ble_eq_true rfl⟩) hP hD hK hS hA (fun z25 u26 H locs w27 hP hD hK hS => ?_)
        obtain ⟨V29, L30⟩ := u26
        obtain ⟨hMV29, ajV29, axL30, t28⟩ := w27
        have axL30 : L = L30 := Eq.symm axL30
        subst axL30
        have hP : va_P D vwCl (mw ad kk ks.1 V29 L) H := hP
        have hD : va_D A (mw ad kk ks.1 V29 L) := hD
        have hMV29 : rgd bM V29 := hMV29
        have ajV29 : agr [(0, 7), (0, 8)] [] V13 V29 := ajV29
        have agV29 : agr [(0, 7), (0, 8)] [13, 14, 15, 21, 53] V V29 := agV13.tr ajV29 (by decide) (by decide)
        have t28 : KmW (newN (gT) ((nx gs 1))) (V29 0 8).toInt (fun w9 => RelM V29 L (bq) (gn) (gT) (nx ((nx gs 1)) 1) (((nx gs 1)).2.1 2) ∧ isTold ((nx gs 1)) w9 = false ∧ z25 = w9) := t28
        rcases t28 with ⟨q31, wx32, h33, rl34, tn35, hw36⟩ | ⟨q31, h33⟩
        · skip
          have hr37 : ∀ k, Rc gT (Crun gs (Istmt :: k)) (Crun (nx (nx gs 1) 1) (Ilike wx32 :: k)) := fun k => Rc.go1 (hr19 k) (nt_y h33)
          have ps38 : (nx (nx gs 1) 1).1 0 = (nx gs 1).1 0 + 1 := rfl
          have fz39 := RelM.rg rl34
          have r40 : 0 ≤ ((V29 0 8)).toInt ∧ ((V29 0 8)).toInt ≤ 70000 := hMV29 0 8
          refine lv_lstore_n (lv' := [(2, .long z25), (1, .int z5), (0, .ref (ad 0))]) hx hb dX12_toldType_53 rfl hl (by decide) rfl (fun ls hl => ?_)
          refine lv_iconst (v := 0) hx hb dX12_toldType_54 (by decide) ?_
          refine lv_istore (lv' := [(4, .int 0), (2, .long z25), (1, .int z5), (0, .ref (ad 0))]) hx hb dX12_toldType_55 hl (by decide) rfl (fun ls hl => ?_)
          have lp43 : ∀ (fulp43 : Nat) (y41 : Int32) (V42 : Vf) (H : Heap) (locs : List Loc) (ls : Array Slot), 0 ≤ y41.toInt ∧ y41.toInt ≤ 24 → (RoV 13 bq V V42) → (RoL 14 24 bq L L) → 24 - y41.toInt < (fulp43 : Int) → agr [] [15] V29 V42 → rgd bM V42 → va_P D vwCl (mw ad kk ks.1 V42 L) H → va_D A (mw ad kk ks.1 V42 L) → va_S A s.heap H locs → lv_has ls 5 [(4, .int y41), (2, .long z25), (1, .int z5), (0, .ref (ad 0))] → W p l e r_s_toldTypeA s m ([.ref (ad 0)] : List Value).toArray below meth c H locs 0 0 (MQ below (q_s_toldTypeA D ks ad kk V L  bq gn gT gs A) ([.ref (ad 0)] : List Value).toArray s 0 0 A) (F0 m 57 ls []) := by
            intro fulp43
            induction fulp43 with
            | zero =>
              intro y41 V42 H locs ls klp43_0 xlp43_0 xlp43_1 hn ajV42 hMV42 hP hD hS hl
              exfalso; omega
            | succ fulp43 ihlp43 =>
              intro y41 V42 H locs ls klp43_0 xlp43_0 xlp43_1 hn ajV42 hMV42 hP hD hS hl
              have agV42 : agr [(0, 7), (0, 8)] [13, 14, 15, 21, 53] V V42 := agV29.tr ajV42 (by decide) (by decide)
              refine lv_iload hx hb dX12_toldType_57 (lv_at hl 0 rfl) ?_
              refine lv_bipush (v := 24) hx hb dX12_toldType_59 (by decide) ?_
              refine lv_icmp_ge (tgt := 101) hx hb dX12_toldType_61 (by decide) (fun c44 => ?_) (fun c44 => ?_)
              · skip
                have f45 : 24 ≤ y41.toInt := b_le (by decide) rfl c44
                refine lv_aload_n hx hb dX12_toldType_101 rfl (lv_at hl 3 rfl) ?_
                refine lv_iconst (v := 1) hx hb dX12_toldType_102 (by decide) ?_
                have rl46 : RelM V42 L bq gn gT (nx (nx gs 1) 1) (gs.2.1 2) := RelM.ag rl34 (show agr [] [15] V29 V42 from (agr.tr agr.rf ajV42 (by decide) (by decide))) (by decide) (show agL [] L L from agL.rf) (by decide)
                have r47 : Int32.toInt 1 = 1 := by decide
                refine gA_int (gA_runV (As := [.int 1]) (rest := []) (ci := 12) (q0 := 0) hx hb hml hown hg hP hD hK hS hA hnw hgk (s_hasWordA l D ks H.size ad kk V42 L 1 (bq) (gn) (gT) ((nx (nx gs 1) 1)) ((gs.2.1 2)) hMV42 (by decide) rl46) w2051 w2053 w90 w172 w2054 rfl rfl hdV_yX12_hasWord ⟨Nat.le_of_ble_eq_true rfl, Nat.le_of_ble_eq_true rfl⟩ rfl hl.1 rfl (Nat.le_of_ble_eq_true rfl) dX12_toldType_103 ⟨Nat.le_of_ble_eq_true rfl, Nat.le_of_ble_eq_true rfl⟩) hP hD hK hS hA (fun z48 u49 H locs w50 hP hD hK hS => ?_)
                obtain ⟨V52, L53⟩ := u49
                obtain ⟨hMV52, ajV52, axL53, rgz48, t51⟩ := w50
                have axL53 : L = L53 := Eq.symm axL53
                subst axL53
                have hP : va_P D vwCl (mw ad kk ks.1 V52 L) H := hP
                have hD : va_D A (mw ad kk ks.1 V52 L) := hD
                have hMV52 : rgd bM V52 := hMV52
                have ajV52 : agr [(0, 7)] [] V42 V52 := ajV52
                have agV52 : agr [(0, 7), (0, 8)] [13, 14, 15, 21, 53] V V52 := agV42.tr ajV52 (by decide) (by decide)
                have rgz48 : 0 ≤ z48.toInt ∧ z48.toInt ≤ 1 := rgz48
                have t51 : (z48.toInt = 1 ∧ (gT).1 (((nx (nx gs 1) 1)).1 0) = 128 + (Int32.toInt 1) ∧ RelM V52 L (bq) (gn) (gT) (nx ((nx (nx gs 1) 1)) 1) ((gs.2.1 2))) ∨ (z48.toInt = 0 ∧ (gT).1 (((nx (nx gs 1) 1)).1 0) ≠ 128 + (Int32.toInt 1) ∧ RelM V52 L (bq) (gn) (gT) ((nx (nx gs 1) 1)) ((gs.2.1 2))) := t51
                rcases t51 with ⟨q54, h55, rl56⟩ | ⟨q54, h55, rl56⟩
                · skip
                  have kd57 : gT.1 ((nx (nx gs 1) 1).1 0) = 129 := h55.trans (by decide)
                  have hr58 : ∀ k, Rc gT (Crun gs (Istmt :: k)) (Crun (nx (nx (nx gs 1) 1) 1) (Itypes 0 [] :: Itake 59 :: IaddTy wx32 :: Istmt :: k)) := fun k => Rc.go1 (hr37 k) (like_y wx32 kd57)
                  have ps59 : (nx (nx (nx gs 1) 1) 1).1 0 = (nx (nx gs 1) 1).1 0 + 1 := rfl
                  have fz60 := RelM.rg rl56
                  have pq61 : (V52 0 8).toInt = ((V29 0 8)).toInt := congrArg Int32.toInt ((ajV52 0 8 rfl).trans (ajV42 0 8 rfl))
                  refine lv_if_eq (tgt := 118) hx hb dX12_toldType_106 (by decide) (fun c62 => ?_) (fun c62 => ?_)
                  · skip
                    have f63 : z48.toInt = 0 := b_eq rfl (by decide) c62
                    exfalso; omega
                  · skip
                    have f64 : z48.toInt ≠ 0 := b_neq rfl (by decide) c62
                    refine lv_aload_n hx hb dX12_toldType_109 rfl (lv_at hl 3 rfl) ?_
                    refine lv_aload_n hx hb dX12_toldType_110 rfl (lv_at hl 3 rfl) ?_
                    refine va_get (D := D) (ci := 12) (v := .ref (ad 15)) (C := RX12) (T := TX12) (N := 100) hx hb hg inX12 hown hK hP 0 rfl rfl 15 (by decide) (hg _ w1721) (fun _ h9 => h9) rfl dX12_toldType_111 ?_
                    refine lv_iload_n hx hb dX12_toldType_114 rfl (lv_at hl 2 rfl) ?_
                    refine gA_void (gA_runV (As := [.ref (ad 15), .int z5]) (rest := []) (ci := 12) (q0 := 0) hx hb hml hown hg hP hD hK hS hA hnw hgk (s_takeTypesA15 l D ks H.size ad kk V52 L z5 (bq) (gn) (gT) ((nx (nx (nx gs 1) 1) 1)) ((gs.2.1 2)) hMV52 (by omega) rl56) w2055 w2057 w91 w172 w2058 rfl rfl hdV_yX12_takeTypes ⟨Nat.le_of_ble_eq_true rfl, Nat.le_of_ble_eq_true rfl⟩ rfl hl.1 rfl (Nat.le_of_ble_eq_true rfl) dX12_toldType_115 ⟨Nat.le_of_ble_eq_true rfl, Nat.le_of_ble_eq_true rfl⟩) hP hD hK hS hA (fun u66 H locs w67 hP hD hK hS => ?_)
                    obtain ⟨V69, L70⟩ := u66
                    obtain ⟨hMV69, ajV69, axL70, t68⟩ := w67
                    have axL70 : L = L70 := Eq.symm axL70
                    subst axL70
                    have hP : va_P D vwCl (mw ad kk ks.1 V69 L) H := hP
                    have hD : va_D A (mw ad kk ks.1 V69 L) := hD
                    have hMV69 : rgd bM V69 := hMV69
                    have ajV69 : agr [(0, 7), (0, 8)] [15, 21, 53] V52 V69 := ajV69
                    have agV69 : agr [(0, 7), (0, 8)] [13, 14, 15, 21, 53] V V69 := agV52.tr ajV69 (by decide) (by decide)
                    have t68 : RdM (gT) ((nx (nx (nx gs 1) 1) 1)) (fun k => Itypes 0 [] :: k) (fun k => k) (V69 0 8).toInt (fun s9 => RelM V69 L (bq) (gn) (gT) s9 ((gs.2.1 2)) ∧ keepS ((nx (nx (nx gs 1) 1) 1)) 1 s9) := t68
                    rcases t68 with ⟨q71, sx72, h73, rl74, kp75⟩ | ⟨q71, h73⟩
                    · skip
                      have hr76 : ∀ k, Rc gT (Crun gs (Istmt :: k)) (Crun sx72 (Itake 59 :: IaddTy wx32 :: Istmt :: k)) := fun k => (hr58 k).tr (h73 (Itake 59 :: IaddTy wx32 :: Istmt :: k))
                      have fz77 := RelM.rg rl74
                      have r78 : 0 ≤ ((V69 0 8)).toInt ∧ ((V69 0 8)).toInt ≤ 70000 := hMV69 0 8
                      have ps79 := (kp75).1
                      refine lv_aload_n hx hb dX12_toldType_118 rfl (lv_at hl 3 rfl) ?_
                      refine lv_bipush (v := 59) hx hb dX12_toldType_119 (by decide) ?_
                      have r80 : Int32.toInt 59 = 59 := by decide
                      refine gA_void (gA_runV (As := [.int 59]) (rest := []) (ci := 12) (q0 := 0) hx hb hml hown hg hP hD hK hS hA hnw hgk (s_takeSignA l D ks H.size ad kk V69 L 59 (bq) (gn) (gT) (sx72) ((gs.2.1 2)) hMV69 rl74 (sg_yes (j := 59) (by decide) (by decide) (by decide))) w2075 w2077 w96 w172 w2078 rfl rfl hdV_yX12_takeSign ⟨Nat.le_of_ble_eq_true rfl, Nat.le_of_ble_eq_true rfl⟩ rfl hl.1 rfl (Nat.le_of_ble_eq_true rfl) dX12_toldType_121 ⟨Nat.le_of_ble_eq_true rfl, Nat.le_of_ble_eq_true rfl⟩) hP hD hK hS hA (fun u82 H locs w83 hP hD hK hS => ?_)
                      obtain ⟨V85, L86⟩ := u82
                      obtain ⟨hMV85, ajV85, axL86, t84⟩ := w83
                      have axL86 : L = L86 := Eq.symm axL86
                      subst axL86
                      have hP : va_P D vwCl (mw ad kk ks.1 V85 L) H := hP
                      have hD : va_D A (mw ad kk ks.1 V85 L) := hD
                      have hMV85 : rgd bM V85 := hMV85
                      have ajV85 : agr [(0, 7), (0, 8)] [] V69 V85 := ajV85
                      have agV85 : agr [(0, 7), (0, 8)] [13, 14, 15, 21, 53] V V85 := agV69.tr ajV85 (by decide) (by decide)
                      have t84 : ((V85 0 8).toInt = 0 ∧ (gT).1 ((sx72).1 0) = (Int32.toInt 59) ∧ RelM V85 L (bq) (gn) (gT) (nx (sx72) 1) ((gs.2.1 2))) ∨ (1 ≤ (V85 0 8).toInt ∧ (gT).1 ((sx72).1 0) ≠ (Int32.toInt 59) ∧ (V85 0 8).toInt = 1 + 16 * (gT).2.2 ((sx72).1 0)) := t84
                      rcases t84 with ⟨q87, h88, rl89⟩ | ⟨q87, h88, rl89⟩
                      · skip
                        have kd90 : gT.1 (sx72.1 0) = 59 := h88.trans (by decide)
                        have hr91 : ∀ k, Rc gT (Crun gs (Istmt :: k)) (Crun (nx sx72 1) (IaddTy wx32 :: Istmt :: k)) := fun k => Rc.go1 (hr76 k) (tk_y kd90)
                        have ps92 : (nx sx72 1).1 0 = sx72.1 0 + 1 := rfl
                        have fz93 := RelM.rg rl89
                        have r94 : 0 ≤ ((V85 0 8)).toInt ∧ ((V85 0 8)).toInt ≤ 70000 := hMV85 0 8
                        refine lv_aload_n hx hb dX12_toldType_124 rfl (lv_at hl 3 rfl) ?_
                        refine va_get (D := D) (ci := 12) (v := .ref (ad 14)) (C := RX12) (T := TX12) (N := 100) hx hb hg inX12 hown hK hP 0 rfl rfl 14 (by decide) (hg _ w1720) (fun _ h9 => h9) rfl dX12_toldType_125 ?_
                        refine lv_iload_n hx hb dX12_toldType_128 rfl (lv_at hl 2 rfl) ?_
                        refine lv_lload_n hx hb dX12_toldType_129 rfl (lv_at hl 1 rfl) ?_
                        refine va_last (D := D) (i := z5) (x := z25) hx hb hK hP hD hS 7 6 rfl rfl (i_in (a := z5.toInt) rfl (by omega)) dX12_toldType_130 (fun H locs hP hD hS => ?_)
                        obtain ⟨L95, hL95⟩ : ∃ z, z = upL L 14 (Int32.toNatClampNeg z5) z25 := ⟨_, rfl⟩
                        have hP : va_P D vwCl (mw ad kk ks.1 V85 L95) H := by rw [hL95]; exact hP
                        have hD : va_D A (mw ad kk ks.1 V85 L95) := by rw [hL95]; exact hD
                        have alL95 : agL [13, 14, 15, 21, 53] L L95 := agL.up alL hL95 rfl
                        refine lv_aload_n hx hb dX12_toldType_131 rfl (lv_at hl 3 rfl) ?_
                        refine va_get (D := D) (ci := 12) (v := .ref (ad 13)) (C := RX12) (T := TX12) (N := 100) hx hb hg inX12 hown hK hP 0 rfl rfl 13 (by decide) (hg _ w1719) (fun _ h9 => h9) rfl dX12_toldType_132 ?_
                        refine lv_aload_n hx hb dX12_toldType_135 rfl (lv_at hl 3 rfl) ?_
                        refine va_get (D := D) (ci := 12) (v := .int (V85 0 12)) (C := RX12) (T := TX12) (N := 100) hx hb hg inX12 hown hK hP 0 rfl rfl 12 (by decide) (hg _ w1718) (fun _ h9 => h9) rfl dX12_toldType_136 ?_
                        refine g_top (v := (V 0 12)) ((ajV85 0 12 rfl).trans ((ajV69 0 12 rfl).trans ((ajV52 0 12 rfl).trans ((ajV42 0 12 rfl).trans ((ajV29 0 12 rfl).trans (ajV13 0 12 rfl)))))) ?_
                        refine lv_dup2_11 hx hb dX12_toldType_139 rfl rfl ?_
                        refine va_iald (D := D) (i := (V 0 12)) hx hb hK hP 6 5 rfl rfl (i_in (a := ((V 0 12)).toInt) rfl (by omega)) dX12_toldType_140 ?_
                        refine g_top (v := (V 13 (Int32.toNatClampNeg (V 0 12)))) ((ajV85 13 (Int32.toNatClampNeg (V 0 12)) rfl).trans ((ajV69 13 (Int32.toNatClampNeg (V 0 12)) rfl).trans ((ajV52 13 (Int32.toNatClampNeg (V 0 12)) rfl).trans ((ajV42 13 (Int32.toNatClampNeg (V 0 12)) rfl).trans ((ajV29 13 (Int32.toNatClampNeg (V 0 12)) rfl).trans (ajV13 13 (Int32.toNatClampNeg (V 0 12)) rfl)))))) ?_
                        refine lv_iconst (v := 1) hx hb dX12_toldType_141 (by decide) ?_
                        refine lv_iadd hx hb dX12_toldType_142 ?_
                        refine lv_topi (fun z96 ez96 => ?_)
                        have hz96 : z96.toInt = ((V 13 (Int32.toNatClampNeg (V 0 12)))).toInt + 1 := i_add ez96 rfl (by decide) (by omega)
                        refine va_iast (D := D) (i := (V 0 12)) (x := z96) hx hb hK hP hD hS 6 5 rfl rfl (i_in (a := ((V 0 12)).toInt) rfl (by omega)) dX12_toldType_143 (fun H locs hP hD hS => ?_)
                        obtain ⟨V97, hV97⟩ : ∃ z, z = up2 V85 13 (Int32.toNatClampNeg (V 0 12)) z96 := ⟨_, rfl⟩
                        have hP : va_P D vwCl (mw ad kk ks.1 V97 L95) H := by rw [hV97]; exact hP
                        have hD : va_D A (mw ad kk ks.1 V97 L95) := by rw [hV97]; exact hD
                        have hMV97 : rgd bM V97 := hMV85.put hV97 (show 0 ≤ z96.toInt ∧ z96.toInt ≤ 24 from by omega)
                        have agV97 : agr [(0, 7), (0, 8)] [13, 14, 15, 21, 53] V V97 := agV85.up hV97 rfl
                        have fn9 : fndI ((nx sx72 1).2.1 0) wx32 = none := by rw [((keepS.tr (keepS.tr (keepS.tr (keepS.tr (keepS.rf : keepS (nx gs 1) 0 (nx gs 1)) (keepS.n1 1)) (keepS.n1 1)) kp75) (keepS.n1 1))).2.2.1 0 (by decide)]; exact (told_i tn35).1
                        have cq9 : (Int32.toNatClampNeg (V 0 12)) = bq := by have h9 := RelM.cq rl89; have h8 : V85 0 12 = (V 0 12) := ((ajV85 0 12 rfl).trans ((ajV69 0 12 rfl).trans ((ajV52 0 12 rfl).trans ((ajV42 0 12 rfl).trans ((ajV29 0 12 rfl).trans (ajV13 0 12 rfl)))))); rw [h8] at h9; exact h9
                        have hv9 := hV97
                        rw [cq9] at hv9
                        have pq98 : (V85 13 bq).toInt = ((V 13 bq)).toInt := congrArg Int32.toInt ((ajV85 13 bq rfl).trans ((ajV69 13 bq rfl).trans ((ajV52 13 bq rfl).trans ((ajV42 13 bq rfl).trans ((ajV29 13 bq rfl).trans (ajV13 13 bq rfl))))))
                        have r99 : 0 ≤ ((V 13 bq)).toInt ∧ ((V 13 bq)).toInt ≤ 24 := hMV 13 bq
                        have cv9 : (V85 13 (Int32.toNatClampNeg (V 0 12))).toInt = (V85 13 bq).toInt := by rw [cq9]
                        have pq100 : (V85 13 (Int32.toNatClampNeg (V 0 12))).toInt = ((V 13 (Int32.toNatClampNeg (V 0 12)))).toInt := congrArg Int32.toInt ((ajV85 13 (Int32.toNatClampNeg (V 0 12)) rfl).trans ((ajV69 13 (Int32.toNatClampNeg (V 0 12)) rfl).trans ((ajV52 13 (Int32.toNatClampNeg (V 0 12)) rfl).trans ((ajV42 13 (Int32.toNatClampNeg (V 0 12)) rfl).trans ((ajV29 13 (Int32.toNatClampNeg (V 0 12)) rfl).trans (ajV13 13 (Int32.toNatClampNeg (V 0 12)) rfl))))))
                        have r29 : RelM V85 L bq gn gT (nx sx72 1) ((nx sx72 1).2.1 2) := by rw [((keepS.tr (keepS.tr (keepS.tr (keepS.tr (keepS.tr (keepS.rf : keepS gs 0 gs) (keepS.n1 1)) (keepS.n1 1)) (keepS.n1 1)) kp75) (keepS.n1 1))).2.2.1 2 (by decide)]; exact rl89
                        have r13 : 0 ≤ (V85 13 bq).toInt := (hMV85 13 bq).1
                        have rl101 : RelM V97 L95 bq gn gT (sA (nx sx72 1) 0 wx32) ((sA (nx sx72 1) 0 wx32).2.1 2) := RelM.a0 (a := z5) r29 fn9 (by rw [← hw36]; exact hL95) (by omega) hv9 (by omega) r13
                        have hr102 : ∀ k, Rc gT (Crun gs (Istmt :: k)) (Crun (sA (nx sx72 1) 0 wx32) (Istmt :: k)) := fun k => Rc.go1 (hr91 k) (m_addTy wx32)
                        have fz103 := RelM.rg rl101
                        have pq104 : (V97 0 8).toInt = ((V85 0 8)).toInt := congrArg Int32.toInt (up2_o hV97 (by decide))
                        have pq105 : (V97 0 7).toInt = ((V85 0 7)).toInt := congrArg Int32.toInt (up2_o hV97 (by decide))
                        have pq106 : (V97 0 48).toInt = ((V 0 48)).toInt := congrArg Int32.toInt ((up2_o hV97 (by decide)).trans ((ajV85 0 48 rfl).trans ((ajV69 0 48 rfl).trans ((ajV52 0 48 rfl).trans ((ajV42 0 48 rfl).trans ((ajV29 0 48 rfl).trans (ajV13 0 48 rfl)))))))
                        have pq107 : (V97 0 12).toInt = ((V 0 12)).toInt := congrArg Int32.toInt ((up2_o hV97 (by decide)).trans ((ajV85 0 12 rfl).trans ((ajV69 0 12 rfl).trans ((ajV52 0 12 rfl).trans ((ajV42 0 12 rfl).trans ((ajV29 0 12 rfl).trans (ajV13 0 12 rfl)))))))
                        have ps108 : gs.1 0 + 1 ≤ (nx gs 1).1 0 := ((keepS.n1 1)).1
                        have ps109 : (nx gs 1).1 0 + 1 ≤ (nx (nx gs 1) 1).1 0 := ((keepS.n1 1)).1
                        have ps110 : (nx (nx gs 1) 1).1 0 + 1 ≤ (nx (nx (nx gs 1) 1) 1).1 0 := ((keepS.n1 1)).1
                        have ps111 : (nx (nx (nx gs 1) 1) 1).1 0 + 1 ≤ sx72.1 0 := (kp75).1
                        have ps112 : sx72.1 0 + 1 ≤ (nx sx72 1).1 0 := ((keepS.n1 1)).1
                        have ps113 : (sA (nx sx72 1) 0 wx32).1 0 = (nx sx72 1).1 0 := rfl
                        have rw114 : RoV 13 bq V V97 := (fun k hk => ((up2_k hV97 (by omega)).trans ((ajV85 13 k rfl).trans ((ajV69 13 k rfl).trans ((ajV52 13 k rfl).trans (xlp43_0 k hk))))))
                        have rw115 : RoL 14 24 bq L L95 := (fun k hk => ((upL_k hL95 (by have h9 := i_clamp (x := z5) rfl (by omega); omega)).trans rfl))
                        exact W.vret hx hb hr (fun t ht hW => ⟨⟨(V97, L95), rfl, ⟨hMV97, agV97, alL95, (Imp.mk (fun hp => have hp : (V97 0 8).toInt = 0 := hp; (show (V97 0 48).toInt ≤ 2 * (V97 0 7).toInt from by omega))), (show (V97 0 48).toInt ≤ 8200 from by omega), (show (V97 0 12).toInt = (V 0 12).toInt from by omega), (Or.inl ⟨W0 rl101, (sA (nx sx72 1) 0 wx32), hr102, rl101, (by omega), (ARm.mv arm ((rfl : (sA (nx sx72 1) 0 wx32).2.2.1 = (nx sx72 1).2.2.1).trans ((congrArg (fun q9 => q9.1) ((keepS.n1 1)).2.2.2).trans ((congrArg (fun q9 => q9.1) (kp75).2.2.2).trans ((congrArg (fun q9 => q9.1) ((keepS.n1 1)).2.2.2).trans ((congrArg (fun q9 => q9.1) ((keepS.n1 1)).2.2.2).trans ((congrArg (fun q9 => q9.1) ((keepS.n1 1)).2.2.2).trans (rfl : gs.2.2.1 = gs.2.2.1))))))))⟩), rw114, rw115⟩, by rw [ht]; exact hP, va_K.moved hW.alike hK, hD⟩, hS.F ht⟩) hS.2.2 dX12_toldType_144
                      · skip
                        have kd116 : gT.1 (sx72.1 0) ≠ 59 := fun h9 => h88 (h9.trans (by decide))
                        have hb117 : ∀ k, Rc gT (Crun gs (Istmt :: k)) (Cbad (V85 0 8).toInt) := fun k => Rc.go1 (hr76 k) ((tk_n kd116).trans (fl_eq rfl rl89))
                        have r118 : 0 ≤ ((V85 0 8)).toInt ∧ ((V85 0 8)).toInt ≤ 70000 := hMV85 0 8
                        refine lv_aload_n hx hb dX12_toldType_124 rfl (lv_at hl 3 rfl) ?_
                        refine va_get (D := D) (ci := 12) (v := .ref (ad 14)) (C := RX12) (T := TX12) (N := 100) hx hb hg inX12 hown hK hP 0 rfl rfl 14 (by decide) (hg _ w1720) (fun _ h9 => h9) rfl dX12_toldType_125 ?_
                        refine lv_iload_n hx hb dX12_toldType_128 rfl (lv_at hl 2 rfl) ?_
                        refine lv_lload_n hx hb dX12_toldType_129 rfl (lv_at hl 1 rfl) ?_
                        refine va_last (D := D) (i := z5) (x := z25) hx hb hK hP hD hS 7 6 rfl rfl (i_in (a := z5.toInt) rfl (by omega)) dX12_toldType_130 (fun H locs hP hD hS => ?_)
                        obtain ⟨L119, hL119⟩ : ∃ z, z = upL L 14 (Int32.toNatClampNeg z5) z25 := ⟨_, rfl⟩
                        have hP : va_P D vwCl (mw ad kk ks.1 V85 L119) H := by rw [hL119]; exact hP
                        have hD : va_D A (mw ad kk ks.1 V85 L119) := by rw [hL119]; exact hD
                        have alL119 : agL [13, 14, 15, 21, 53] L L119 := agL.up alL hL119 rfl
                        refine lv_aload_n hx hb dX12_toldType_131 rfl (lv_at hl 3 rfl) ?_
                        refine va_get (D := D) (ci := 12) (v := .ref (ad 13)) (C := RX12) (T := TX12) (N := 100) hx hb hg inX12 hown hK hP 0 rfl rfl 13 (by decide) (hg _ w1719) (fun _ h9 => h9) rfl dX12_toldType_132 ?_
                        refine lv_aload_n hx hb dX12_toldType_135 rfl (lv_at hl 3 rfl) ?_
                        refine va_get (D := D) (ci := 12) (v := .int (V85 0 12)) (C := RX12) (T := TX12) (N := 100) hx hb hg inX12 hown hK hP 0 rfl rfl 12 (by decide) (hg _ w1718) (fun _ h9 => h9) rfl dX12_toldType_136 ?_
                        refine g_top (v := (V 0 12)) ((ajV85 0 12 rfl).trans ((ajV69 0 12 rfl).trans ((ajV52 0 12 rfl).trans ((ajV42 0 12 rfl).trans ((ajV29 0 12 rfl).trans (ajV13 0 12 rfl)))))) ?_
                        refine lv_dup2_11 hx hb dX12_toldType_139 rfl rfl ?_
                        refine va_iald (D := D) (i := (V 0 12)) hx hb hK hP 6 5 rfl rfl (i_in (a := ((V 0 12)).toInt) rfl (by omega)) dX12_toldType_140 ?_
                        refine g_top (v := (V 13 (Int32.toNatClampNeg (V 0 12)))) ((ajV85 13 (Int32.toNatClampNeg (V 0 12)) rfl).trans ((ajV69 13 (Int32.toNatClampNeg (V 0 12)) rfl).trans ((ajV52 13 (Int32.toNatClampNeg (V 0 12)) rfl).trans ((ajV42 13 (Int32.toNatClampNeg (V 0 12)) rfl).trans ((ajV29 13 (Int32.toNatClampNeg (V 0 12)) rfl).trans (ajV13 13 (Int32.toNatClampNeg (V 0 12)) rfl)))))) ?_
                        refine lv_iconst (v := 1) hx hb dX12_toldType_141 (by decide) ?_
                        refine lv_iadd hx hb dX12_toldType_142 ?_
                        refine lv_topi (fun z120 ez120 => ?_)
                        have hz120 : z120.toInt = ((V 13 (Int32.toNatClampNeg (V 0 12)))).toInt + 1 := i_add ez120 rfl (by decide) (by omega)
                        refine va_iast (D := D) (i := (V 0 12)) (x := z120) hx hb hK hP hD hS 6 5 rfl rfl (i_in (a := ((V 0 12)).toInt) rfl (by omega)) dX12_toldType_143 (fun H locs hP hD hS => ?_)
                        obtain ⟨V121, hV121⟩ : ∃ z, z = up2 V85 13 (Int32.toNatClampNeg (V 0 12)) z120 := ⟨_, rfl⟩
                        have hP : va_P D vwCl (mw ad kk ks.1 V121 L119) H := by rw [hV121]; exact hP
                        have hD : va_D A (mw ad kk ks.1 V121 L119) := by rw [hV121]; exact hD
                        have hMV121 : rgd bM V121 := hMV85.put hV121 (show 0 ≤ z120.toInt ∧ z120.toInt ≤ 24 from by omega)
                        have agV121 : agr [(0, 7), (0, 8)] [13, 14, 15, 21, 53] V V121 := agV85.up hV121 rfl
                        have pq122 : (V121 0 7).toInt = ((V85 0 7)).toInt := congrArg Int32.toInt (up2_o hV121 (by decide))
                        have pq123 : (V121 0 48).toInt = ((V 0 48)).toInt := congrArg Int32.toInt ((up2_o hV121 (by decide)).trans ((ajV85 0 48 rfl).trans ((ajV69 0 48 rfl).trans ((ajV52 0 48 rfl).trans ((ajV42 0 48 rfl).trans ((ajV29 0 48 rfl).trans (ajV13 0 48 rfl)))))))
                        have pq124 : (V121 0 8).toInt = ((V85 0 8)).toInt := congrArg Int32.toInt (up2_o hV121 (by decide))
                        have pq125 : (V121 0 12).toInt = ((V 0 12)).toInt := congrArg Int32.toInt ((up2_o hV121 (by decide)).trans ((ajV85 0 12 rfl).trans ((ajV69 0 12 rfl).trans ((ajV52 0 12 rfl).trans ((ajV42 0 12 rfl).trans ((ajV29 0 12 rfl).trans (ajV13 0 12 rfl)))))))
                        have rw126 : RoV 13 bq V V121 := (fun k hk => ((up2_k hV121 (by omega)).trans ((ajV85 13 k rfl).trans ((ajV69 13 k rfl).trans ((ajV52 13 k rfl).trans (xlp43_0 k hk))))))
                        have rw127 : RoL 14 24 bq L L119 := (fun k hk => ((upL_k hL119 (by have h9 := i_clamp (x := z5) rfl (by omega); omega)).trans rfl))
                        exact W.vret hx hb hr (fun t ht hW => ⟨⟨(V121, L119), rfl, ⟨hMV121, agV121, alL119, (Imp.mk (fun hp => have hp : (V121 0 8).toInt = 0 := hp; (show (V121 0 48).toInt ≤ 2 * (V121 0 7).toInt from by omega))), (show (V121 0 48).toInt ≤ 8200 from by omega), (show (V121 0 12).toInt = (V 0 12).toInt from by omega), (Or.inr ⟨(show 1 ≤ (V121 0 8).toInt from by omega), (fun k => by rw [show (V121 0 8).toInt = (V85 0 8).toInt from by omega]; exact hb117 k)⟩), rw126, rw127⟩, by rw [ht]; exact hP, va_K.moved hW.alike hK, hD⟩, hS.F ht⟩) hS.2.2 dX12_toldType_144
                    · skip
                      have hb128 : ∀ k, Rc gT (Crun gs (Istmt :: k)) (Cbad (V69 0 8).toInt) := fun k => (hr58 k).tr (h73 (Itake 59 :: IaddTy wx32 :: Istmt :: k))
                      have r129 : 0 ≤ ((V69 0 8)).toInt ∧ ((V69 0 8)).toInt ≤ 70000 := hMV69 0 8
                      refine lv_aload_n hx hb dX12_toldType_118 rfl (lv_at hl 3 rfl) ?_
                      refine lv_bipush (v := 59) hx hb dX12_toldType_119 (by decide) ?_
                      have r130 : Int32.toInt 59 = 59 := by decide
                      refine gA_void (gA_runV (As := [.int 59]) (rest := []) (ci := 12) (q0 := 0) hx hb hml hown hg hP hD hK hS hA hnw hgk (s_takeSignB l D ks H.size ad kk V69 L 59 hMV69 (show 1 ≤ (V69 0 8).toInt from by omega)) w2075 w2077 w96 w172 w2078 rfl rfl hdV_yX12_takeSign ⟨Nat.le_of_ble_eq_true rfl, Nat.le_of_ble_eq_true rfl⟩ rfl hl.1 rfl (Nat.le_of_ble_eq_true rfl) dX12_toldType_121 ⟨Nat.le_of_ble_eq_true rfl, Nat.le_of_ble_eq_true rfl⟩) hP hD hK hS hA (fun u132 H locs w133 hP hD hK hS => ?_)
                      obtain ⟨V135, L136⟩ := u132
                      obtain ⟨hMV135, ajV135, axL136, t134⟩ := w133
                      have axL136 : L = L136 := Eq.symm axL136
                      subst axL136
                      have hP : va_P D vwCl (mw ad kk ks.1 V135 L) H := hP
                      have hD : va_D A (mw ad kk ks.1 V135 L) := hD
                      have hMV135 : rgd bM V135 := hMV135
                      have ajV135 : agr [(0, 7), (0, 8)] [] V69 V135 := ajV135
                      have agV135 : agr [(0, 7), (0, 8)] [13, 14, 15, 21, 53] V V135 := agV69.tr ajV135 (by decide) (by decide)
                      have t134 : (V135 0 8).toInt = (V69 0 8).toInt := t134
                      have r137 : 0 ≤ ((V135 0 8)).toInt ∧ ((V135 0 8)).toInt ≤ 70000 := hMV135 0 8
                      refine lv_aload_n hx hb dX12_toldType_124 rfl (lv_at hl 3 rfl) ?_
                      refine va_get (D := D) (ci := 12) (v := .ref (ad 14)) (C := RX12) (T := TX12) (N := 100) hx hb hg inX12 hown hK hP 0 rfl rfl 14 (by decide) (hg _ w1720) (fun _ h9 => h9) rfl dX12_toldType_125 ?_
                      refine lv_iload_n hx hb dX12_toldType_128 rfl (lv_at hl 2 rfl) ?_
                      refine lv_lload_n hx hb dX12_toldType_129 rfl (lv_at hl 1 rfl) ?_
                      refine va_last (D := D) (i := z5) (x := z25) hx hb hK hP hD hS 7 6 rfl rfl (i_in (a := z5.toInt) rfl (by omega)) dX12_toldType_130 (fun H locs hP hD hS => ?_)
                      obtain ⟨L138, hL138⟩ : ∃ z, z = upL L 14 (Int32.toNatClampNeg z5) z25 := ⟨_, rfl⟩
                      have hP : va_P D vwCl (mw ad kk ks.1 V135 L138) H := by rw [hL138]; exact hP
                      have hD : va_D A (mw ad kk ks.1 V135 L138) := by rw [hL138]; exact hD
                      have alL138 : agL [13, 14, 15, 21, 53] L L138 := agL.up alL hL138 rfl
                      refine lv_aload_n hx hb dX12_toldType_131 rfl (lv_at hl 3 rfl) ?_
                      refine va_get (D := D) (ci := 12) (v := .ref (ad 13)) (C := RX12) (T := TX12) (N := 100) hx hb hg inX12 hown hK hP 0 rfl rfl 13 (by decide) (hg _ w1719) (fun _ h9 => h9) rfl dX12_toldType_132 ?_
                      refine lv_aload_n hx hb dX12_toldType_135 rfl (lv_at hl 3 rfl) ?_
                      refine va_get (D := D) (ci := 12) (v := .int (V135 0 12)) (C := RX12) (T := TX12) (N := 100) hx hb hg inX12 hown hK hP 0 rfl rfl 12 (by decide) (hg _ w1718) (fun _ h9 => h9) rfl dX12_toldType_136 ?_
                      refine g_top (v := (V 0 12)) ((ajV135 0 12 rfl).trans ((ajV69 0 12 rfl).trans ((ajV52 0 12 rfl).trans ((ajV42 0 12 rfl).trans ((ajV29 0 12 rfl).trans (ajV13 0 12 rfl)))))) ?_
                      refine lv_dup2_11 hx hb dX12_toldType_139 rfl rfl ?_
                      refine va_iald (D := D) (i := (V 0 12)) hx hb hK hP 6 5 rfl rfl (i_in (a := ((V 0 12)).toInt) rfl (by omega)) dX12_toldType_140 ?_
                      refine g_top (v := (V 13 (Int32.toNatClampNeg (V 0 12)))) ((ajV135 13 (Int32.toNatClampNeg (V 0 12)) rfl).trans ((ajV69 13 (Int32.toNatClampNeg (V 0 12)) rfl).trans ((ajV52 13 (Int32.toNatClampNeg (V 0 12)) rfl).trans ((ajV42 13 (Int32.toNatClampNeg (V 0 12)) rfl).trans ((ajV29 13 (Int32.toNatClampNeg (V 0 12)) rfl).trans (ajV13 13 (Int32.toNatClampNeg (V 0 12)) rfl)))))) ?_
                      refine lv_iconst (v := 1) hx hb dX12_toldType_141 (by decide) ?_
                      refine lv_iadd hx hb dX12_toldType_142 ?_
                      refine lv_topi (fun z139 ez139 => ?_)
                      have hz139 : z139.toInt = ((V 13 (Int32.toNatClampNeg (V 0 12)))).toInt + 1 := i_add ez139 rfl (by decide) (by omega)
                      refine va_iast (D := D) (i := (V 0 12)) (x := z139) hx hb hK hP hD hS 6 5 rfl rfl (i_in (a := ((V 0 12)).toInt) rfl (by omega)) dX12_toldType_143 (fun H locs hP hD hS => ?_)
                      obtain ⟨V140, hV140⟩ : ∃ z, z = up2 V135 13 (Int32.toNatClampNeg (V 0 12)) z139 := ⟨_, rfl⟩
                      have hP : va_P D vwCl (mw ad kk ks.1 V140 L138) H := by rw [hV140]; exact hP
                      have hD : va_D A (mw ad kk ks.1 V140 L138) := by rw [hV140]; exact hD
                      have hMV140 : rgd bM V140 := hMV135.put hV140 (show 0 ≤ z139.toInt ∧ z139.toInt ≤ 24 from by omega)
                      have agV140 : agr [(0, 7), (0, 8)] [13, 14, 15, 21, 53] V V140 := agV135.up hV140 rfl
                      have pq141 : (V140 0 7).toInt = ((V135 0 7)).toInt := congrArg Int32.toInt (up2_o hV140 (by decide))
                      have pq142 : (V140 0 48).toInt = ((V 0 48)).toInt := congrArg Int32.toInt ((up2_o hV140 (by decide)).trans ((ajV135 0 48 rfl).trans ((ajV69 0 48 rfl).trans ((ajV52 0 48 rfl).trans ((ajV42 0 48 rfl).trans ((ajV29 0 48 rfl).trans (ajV13 0 48 rfl)))))))
                      have pq143 : (V140 0 8).toInt = ((V135 0 8)).toInt := congrArg Int32.toInt (up2_o hV140 (by decide))
                      have pq144 : (V140 0 12).toInt = ((V 0 12)).toInt := congrArg Int32.toInt ((up2_o hV140 (by decide)).trans ((ajV135 0 12 rfl).trans ((ajV69 0 12 rfl).trans ((ajV52 0 12 rfl).trans ((ajV42 0 12 rfl).trans ((ajV29 0 12 rfl).trans (ajV13 0 12 rfl)))))))
                      have rw145 : RoV 13 bq V V140 := (fun k hk => ((up2_k hV140 (by omega)).trans ((ajV135 13 k rfl).trans ((ajV69 13 k rfl).trans ((ajV52 13 k rfl).trans (xlp43_0 k hk))))))
                      have rw146 : RoL 14 24 bq L L138 := (fun k hk => ((upL_k hL138 (by have h9 := i_clamp (x := z5) rfl (by omega); omega)).trans rfl))
                      exact W.vret hx hb hr (fun t ht hW => ⟨⟨(V140, L138), rfl, ⟨hMV140, agV140, alL138, (Imp.mk (fun hp => have hp : (V140 0 8).toInt = 0 := hp; (show (V140 0 48).toInt ≤ 2 * (V140 0 7).toInt from by omega))), (show (V140 0 48).toInt ≤ 8200 from by omega), (show (V140 0 12).toInt = (V 0 12).toInt from by omega), (Or.inr ⟨(show 1 ≤ (V140 0 8).toInt from by omega), (fun k => by rw [show (V140 0 8).toInt = (V69 0 8).toInt from by omega]; exact hb128 k)⟩), rw145, rw146⟩, by rw [ht]; exact hP, va_K.moved hW.alike hK, hD⟩, hS.F ht⟩) hS.2.2 dX12_toldType_144
                · skip
                  have kd147 : gT.1 ((nx (nx gs 1) 1).1 0) ≠ 129 := fun h9 => h55 (h9.trans (by decide))
                  have fz148 := RelM.rg rl56
                  have pq149 : (V52 0 8).toInt = ((V29 0 8)).toInt := congrArg Int32.toInt ((ajV52 0 8 rfl).trans (ajV42 0 8 rfl))
                  refine lv_if_eq (tgt := 118) hx hb dX12_toldType_106 (by decide) (fun c150 => ?_) (fun c150 => ?_)
                  · skip
                    have f151 : z48.toInt = 0 := b_eq rfl (by decide) c150
                    refine lv_aload_n hx hb dX12_toldType_118 rfl (lv_at hl 3 rfl) ?_
                    refine lv_bipush (v := 59) hx hb dX12_toldType_119 (by decide) ?_
                    have r152 : Int32.toInt 59 = 59 := by decide
                    refine gA_void (gA_runV (As := [.int 59]) (rest := []) (ci := 12) (q0 := 0) hx hb hml hown hg hP hD hK hS hA hnw hgk (s_takeSignA l D ks H.size ad kk V52 L 59 (bq) (gn) (gT) ((nx (nx gs 1) 1)) ((gs.2.1 2)) hMV52 rl56 (sg_yes (j := 59) (by decide) (by decide) (by decide))) w2075 w2077 w96 w172 w2078 rfl rfl hdV_yX12_takeSign ⟨Nat.le_of_ble_eq_true rfl, Nat.le_of_ble_eq_true rfl⟩ rfl hl.1 rfl (Nat.le_of_ble_eq_true rfl) dX12_toldType_121 ⟨Nat.le_of_ble_eq_true rfl, Nat.le_of_ble_eq_true rfl⟩) hP hD hK hS hA (fun u154 H locs w155 hP hD hK hS => ?_)
                    obtain ⟨V157, L158⟩ := u154
                    obtain ⟨hMV157, ajV157, axL158, t156⟩ := w155
                    have axL158 : L = L158 := Eq.symm axL158
                    subst axL158
                    have hP : va_P D vwCl (mw ad kk ks.1 V157 L) H := hP
                    have hD : va_D A (mw ad kk ks.1 V157 L) := hD
                    have hMV157 : rgd bM V157 := hMV157
                    have ajV157 : agr [(0, 7), (0, 8)] [] V52 V157 := ajV157
                    have agV157 : agr [(0, 7), (0, 8)] [13, 14, 15, 21, 53] V V157 := agV52.tr ajV157 (by decide) (by decide)
                    have t156 : ((V157 0 8).toInt = 0 ∧ (gT).1 (((nx (nx gs 1) 1)).1 0) = (Int32.toInt 59) ∧ RelM V157 L (bq) (gn) (gT) (nx ((nx (nx gs 1) 1)) 1) ((gs.2.1 2))) ∨ (1 ≤ (V157 0 8).toInt ∧ (gT).1 (((nx (nx gs 1) 1)).1 0) ≠ (Int32.toInt 59) ∧ (V157 0 8).toInt = 1 + 16 * (gT).2.2 (((nx (nx gs 1) 1)).1 0)) := t156
                    have hr162 : ∀ k, Rc gT (Crun gs (Istmt :: k)) (Crun (nx (nx gs 1) 1) (Itake 59 :: IaddTy wx32 :: Istmt :: k)) := fun k => Rc.go1 (hr37 k) (like_n wx32 kd147)
                    rcases t156 with ⟨q159, h160, rl161⟩ | ⟨q159, h160, rl161⟩
                    · skip
                      have kd163 : gT.1 ((nx (nx gs 1) 1).1 0) = 59 := h160.trans (by decide)
                      have hr164 : ∀ k, Rc gT (Crun gs (Istmt :: k)) (Crun (nx (nx (nx gs 1) 1) 1) (IaddTy wx32 :: Istmt :: k)) := fun k => Rc.go1 (hr162 k) (tk_y kd163)
                      have ps165 : (nx (nx (nx gs 1) 1) 1).1 0 = (nx (nx gs 1) 1).1 0 + 1 := rfl
                      have fz166 := RelM.rg rl161
                      have r167 : 0 ≤ ((V157 0 8)).toInt ∧ ((V157 0 8)).toInt ≤ 70000 := hMV157 0 8
                      refine lv_aload_n hx hb dX12_toldType_124 rfl (lv_at hl 3 rfl) ?_
                      refine va_get (D := D) (ci := 12) (v := .ref (ad 14)) (C := RX12) (T := TX12) (N := 100) hx hb hg inX12 hown hK hP 0 rfl rfl 14 (by decide) (hg _ w1720) (fun _ h9 => h9) rfl dX12_toldType_125 ?_
                      refine lv_iload_n hx hb dX12_toldType_128 rfl (lv_at hl 2 rfl) ?_
                      refine lv_lload_n hx hb dX12_toldType_129 rfl (lv_at hl 1 rfl) ?_
                      refine va_last (D := D) (i := z5) (x := z25) hx hb hK hP hD hS 7 6 rfl rfl (i_in (a := z5.toInt) rfl (by omega)) dX12_toldType_130 (fun H locs hP hD hS => ?_)
                      obtain ⟨L168, hL168⟩ : ∃ z, z = upL L 14 (Int32.toNatClampNeg z5) z25 := ⟨_, rfl⟩
                      have hP : va_P D vwCl (mw ad kk ks.1 V157 L168) H := by rw [hL168]; exact hP
                      have hD : va_D A (mw ad kk ks.1 V157 L168) := by rw [hL168]; exact hD
                      have alL168 : agL [13, 14, 15, 21, 53] L L168 := agL.up alL hL168 rfl
                      refine lv_aload_n hx hb dX12_toldType_131 rfl (lv_at hl 3 rfl) ?_
                      refine va_get (D := D) (ci := 12) (v := .ref (ad 13)) (C := RX12) (T := TX12) (N := 100) hx hb hg inX12 hown hK hP 0 rfl rfl 13 (by decide) (hg _ w1719) (fun _ h9 => h9) rfl dX12_toldType_132 ?_
                      refine lv_aload_n hx hb dX12_toldType_135 rfl (lv_at hl 3 rfl) ?_
                      refine va_get (D := D) (ci := 12) (v := .int (V157 0 12)) (C := RX12) (T := TX12) (N := 100) hx hb hg inX12 hown hK hP 0 rfl rfl 12 (by decide) (hg _ w1718) (fun _ h9 => h9) rfl dX12_toldType_136 ?_
                      refine g_top (v := (V 0 12)) ((ajV157 0 12 rfl).trans ((ajV52 0 12 rfl).trans ((ajV42 0 12 rfl).trans ((ajV29 0 12 rfl).trans (ajV13 0 12 rfl))))) ?_
                      refine lv_dup2_11 hx hb dX12_toldType_139 rfl rfl ?_
                      refine va_iald (D := D) (i := (V 0 12)) hx hb hK hP 6 5 rfl rfl (i_in (a := ((V 0 12)).toInt) rfl (by omega)) dX12_toldType_140 ?_
                      refine g_top (v := (V 13 (Int32.toNatClampNeg (V 0 12)))) ((ajV157 13 (Int32.toNatClampNeg (V 0 12)) rfl).trans ((ajV52 13 (Int32.toNatClampNeg (V 0 12)) rfl).trans ((ajV42 13 (Int32.toNatClampNeg (V 0 12)) rfl).trans ((ajV29 13 (Int32.toNatClampNeg (V 0 12)) rfl).trans (ajV13 13 (Int32.toNatClampNeg (V 0 12)) rfl))))) ?_
                      refine lv_iconst (v := 1) hx hb dX12_toldType_141 (by decide) ?_
                      refine lv_iadd hx hb dX12_toldType_142 ?_
                      refine lv_topi (fun z169 ez169 => ?_)
                      have hz169 : z169.toInt = ((V 13 (Int32.toNatClampNeg (V 0 12)))).toInt + 1 := i_add ez169 rfl (by decide) (by omega)
                      refine va_iast (D := D) (i := (V 0 12)) (x := z169) hx hb hK hP hD hS 6 5 rfl rfl (i_in (a := ((V 0 12)).toInt) rfl (by omega)) dX12_toldType_143 (fun H locs hP hD hS => ?_)
                      obtain ⟨V170, hV170⟩ : ∃ z, z = up2 V157 13 (Int32.toNatClampNeg (V 0 12)) z169 := ⟨_, rfl⟩
                      have hP : va_P D vwCl (mw ad kk ks.1 V170 L168) H := by rw [hV170]; exact hP
                      have hD : va_D A (mw ad kk ks.1 V170 L168) := by rw [hV170]; exact hD
                      have hMV170 : rgd bM V170 := hMV157.put hV170 (show 0 ≤ z169.toInt ∧ z169.toInt ≤ 24 from by omega)
                      have agV170 : agr [(0, 7), (0, 8)] [13, 14, 15, 21, 53] V V170 := agV157.up hV170 rfl
                      have fn9 : fndI ((nx (nx (nx gs 1) 1) 1).2.1 0) wx32 = none := by rw [((keepS.tr (keepS.tr (keepS.rf : keepS (nx gs 1) 0 (nx gs 1)) (keepS.n1 1)) (keepS.n1 1))).2.2.1 0 (by decide)]; exact (told_i tn35).1
                      have cq9 : (Int32.toNatClampNeg (V 0 12)) = bq := by have h9 := RelM.cq rl161; have h8 : V157 0 12 = (V 0 12) := ((ajV157 0 12 rfl).trans ((ajV52 0 12 rfl).trans ((ajV42 0 12 rfl).trans ((ajV29 0 12 rfl).trans (ajV13 0 12 rfl))))); rw [h8] at h9; exact h9
                      have hv9 := hV170
                      rw [cq9] at hv9
                      have pq171 : (V157 13 bq).toInt = ((V 13 bq)).toInt := congrArg Int32.toInt ((ajV157 13 bq rfl).trans ((ajV52 13 bq rfl).trans ((ajV42 13 bq rfl).trans ((ajV29 13 bq rfl).trans (ajV13 13 bq rfl)))))
                      have r172 : 0 ≤ ((V 13 bq)).toInt ∧ ((V 13 bq)).toInt ≤ 24 := hMV 13 bq
                      have cv9 : (V157 13 (Int32.toNatClampNeg (V 0 12))).toInt = (V157 13 bq).toInt := by rw [cq9]
                      have pq173 : (V157 13 (Int32.toNatClampNeg (V 0 12))).toInt = ((V 13 (Int32.toNatClampNeg (V 0 12)))).toInt := congrArg Int32.toInt ((ajV157 13 (Int32.toNatClampNeg (V 0 12)) rfl).trans ((ajV52 13 (Int32.toNatClampNeg (V 0 12)) rfl).trans ((ajV42 13 (Int32.toNatClampNeg (V 0 12)) rfl).trans ((ajV29 13 (Int32.toNatClampNeg (V 0 12)) rfl).trans (ajV13 13 (Int32.toNatClampNeg (V 0 12)) rfl)))))
                      have r29 : RelM V157 L bq gn gT (nx (nx (nx gs 1) 1) 1) ((nx (nx (nx gs 1) 1) 1).2.1 2) := by rw [((keepS.tr (keepS.tr (keepS.tr (keepS.rf : keepS gs 0 gs) (keepS.n1 1)) (keepS.n1 1)) (keepS.n1 1))).2.2.1 2 (by decide)]; exact rl161
                      have r13 : 0 ≤ (V157 13 bq).toInt := (hMV157 13 bq).1
                      have rl174 : RelM V170 L168 bq gn gT (sA (nx (nx (nx gs 1) 1) 1) 0 wx32) ((sA (nx (nx (nx gs 1) 1) 1) 0 wx32).2.1 2) := RelM.a0 (a := z5) r29 fn9 (by rw [← hw36]; exact hL168) (by omega) hv9 (by omega) r13
                      have hr175 : ∀ k, Rc gT (Crun gs (Istmt :: k)) (Crun (sA (nx (nx (nx gs 1) 1) 1) 0 wx32) (Istmt :: k)) := fun k => Rc.go1 (hr164 k) (m_addTy wx32)
                      have fz176 := RelM.rg rl174
                      have pq177 : (V170 0 8).toInt = ((V157 0 8)).toInt := congrArg Int32.toInt (up2_o hV170 (by decide))
                      have pq178 : (V170 0 7).toInt = ((V157 0 7)).toInt := congrArg Int32.toInt (up2_o hV170 (by decide))
                      have pq179 : (V170 0 48).toInt = ((V 0 48)).toInt := congrArg Int32.toInt ((up2_o hV170 (by decide)).trans ((ajV157 0 48 rfl).trans ((ajV52 0 48 rfl).trans ((ajV42 0 48 rfl).trans ((ajV29 0 48 rfl).trans (ajV13 0 48 rfl))))))
                      have pq180 : (V170 0 12).toInt = ((V 0 12)).toInt := congrArg Int32.toInt ((up2_o hV170 (by decide)).trans ((ajV157 0 12 rfl).trans ((ajV52 0 12 rfl).trans ((ajV42 0 12 rfl).trans ((ajV29 0 12 rfl).trans (ajV13 0 12 rfl))))))
                      have ps181 : gs.1 0 + 1 ≤ (nx gs 1).1 0 := ((keepS.n1 1)).1
                      have ps182 : (nx gs 1).1 0 + 1 ≤ (nx (nx gs 1) 1).1 0 := ((keepS.n1 1)).1
                      have ps183 : (nx (nx gs 1) 1).1 0 + 1 ≤ (nx (nx (nx gs 1) 1) 1).1 0 := ((keepS.n1 1)).1
                      have ps184 : (sA (nx (nx (nx gs 1) 1) 1) 0 wx32).1 0 = (nx (nx (nx gs 1) 1) 1).1 0 := rfl
                      have rw185 : RoV 13 bq V V170 := (fun k hk => ((up2_k hV170 (by omega)).trans ((ajV157 13 k rfl).trans ((ajV52 13 k rfl).trans (xlp43_0 k hk)))))
                      have rw186 : RoL 14 24 bq L L168 := (fun k hk => ((upL_k hL168 (by have h9 := i_clamp (x := z5) rfl (by omega); omega)).trans rfl))
                      exact W.vret hx hb hr (fun t ht hW => ⟨⟨(V170, L168), rfl, ⟨hMV170, agV170, alL168, (Imp.mk (fun hp => have hp : (V170 0 8).toInt = 0 := hp; (show (V170 0 48).toInt ≤ 2 * (V170 0 7).toInt from by omega))), (show (V170 0 48).toInt ≤ 8200 from by omega), (show (V170 0 12).toInt = (V 0 12).toInt from by omega), (Or.inl ⟨W0 rl174, (sA (nx (nx (nx gs 1) 1) 1) 0 wx32), hr175, rl174, (by omega), (ARm.mv arm ((rfl : (sA (nx (nx (nx gs 1) 1) 1) 0 wx32).2.2.1 = (nx (nx (nx gs 1) 1) 1).2.2.1).trans ((congrArg (fun q9 => q9.1) ((keepS.n1 1)).2.2.2).trans ((congrArg (fun q9 => q9.1) ((keepS.n1 1)).2.2.2).trans ((congrArg (fun q9 => q9.1) ((keepS.n1 1)).2.2.2).trans (rfl : gs.2.2.1 = gs.2.2.1))))))⟩), rw185, rw186⟩, by rw [ht]; exact hP, va_K.moved hW.alike hK, hD⟩, hS.F ht⟩) hS.2.2 dX12_toldType_144
                    · skip
                      have kd187 : gT.1 ((nx (nx gs 1) 1).1 0) ≠ 59 := fun h9 => h160 (h9.trans (by decide))
                      have hb188 : ∀ k, Rc gT (Crun gs (Istmt :: k)) (Cbad (V157 0 8).toInt) := fun k => Rc.go1 (hr162 k) ((tk_n kd187).trans (fl_eq rfl rl161))
                      have r189 : 0 ≤ ((V157 0 8)).toInt ∧ ((V157 0 8)).toInt ≤ 70000 := hMV157 0 8
                      refine lv_aload_n hx hb dX12_toldType_124 rfl (lv_at hl 3 rfl) ?_
                      refine va_get (D := D) (ci := 12) (v := .ref (ad 14)) (C := RX12) (T := TX12) (N := 100) hx hb hg inX12 hown hK hP 0 rfl rfl 14 (by decide) (hg _ w1720) (fun _ h9 => h9) rfl dX12_toldType_125 ?_
                      refine lv_iload_n hx hb dX12_toldType_128 rfl (lv_at hl 2 rfl) ?_
                      refine lv_lload_n hx hb dX12_toldType_129 rfl (lv_at hl 1 rfl) ?_
                      refine va_last (D := D) (i := z5) (x := z25) hx hb hK hP hD hS 7 6 rfl rfl (i_in (a := z5.toInt) rfl (by omega)) dX12_toldType_130 (fun H locs hP hD hS => ?_)
                      obtain ⟨L190, hL190⟩ : ∃ z, z = upL L 14 (Int32.toNatClampNeg z5) z25 := ⟨_, rfl⟩
                      have hP : va_P D vwCl (mw ad kk ks.1 V157 L190) H := by rw [hL190]; exact hP
                      have hD : va_D A (mw ad kk ks.1 V157 L190) := by rw [hL190]; exact hD
                      have alL190 : agL [13, 14, 15, 21, 53] L L190 := agL.up alL hL190 rfl
                      refine lv_aload_n hx hb dX12_toldType_131 rfl (lv_at hl 3 rfl) ?_
                      refine va_get (D := D) (ci := 12) (v := .ref (ad 13)) (C := RX12) (T := TX12) (N := 100) hx hb hg inX12 hown hK hP 0 rfl rfl 13 (by decide) (hg _ w1719) (fun _ h9 => h9) rfl dX12_toldType_132 ?_
                      refine lv_aload_n hx hb dX12_toldType_135 rfl (lv_at hl 3 rfl) ?_
                      refine va_get (D := D) (ci := 12) (v := .int (V157 0 12)) (C := RX12) (T := TX12) (N := 100) hx hb hg inX12 hown hK hP 0 rfl rfl 12 (by decide) (hg _ w1718) (fun _ h9 => h9) rfl dX12_toldType_136 ?_
                      refine g_top (v := (V 0 12)) ((ajV157 0 12 rfl).trans ((ajV52 0 12 rfl).trans ((ajV42 0 12 rfl).trans ((ajV29 0 12 rfl).trans (ajV13 0 12 rfl))))) ?_
                      refine lv_dup2_11 hx hb dX12_toldType_139 rfl rfl ?_
                      refine va_iald (D := D) (i := (V 0 12)) hx hb hK hP 6 5 rfl rfl (i_in (a := ((V 0 12)).toInt) rfl (by omega)) dX12_toldType_140 ?_
                      refine g_top (v := (V 13 (Int32.toNatClampNeg (V 0 12)))) ((ajV157 13 (Int32.toNatClampNeg (V 0 12)) rfl).trans ((ajV52 13 (Int32.toNatClampNeg (V 0 12)) rfl).trans ((ajV42 13 (Int32.toNatClampNeg (V 0 12)) rfl).trans ((ajV29 13 (Int32.toNatClampNeg (V 0 12)) rfl).trans (ajV13 13 (Int32.toNatClampNeg (V 0 12)) rfl))))) ?_
                      refine lv_iconst (v := 1) hx hb dX12_toldType_141 (by decide) ?_
                      refine lv_iadd hx hb dX12_toldType_142 ?_
                      refine lv_topi (fun z191 ez191 => ?_)
                      have hz191 : z191.toInt = ((V 13 (Int32.toNatClampNeg (V 0 12)))).toInt + 1 := i_add ez191 rfl (by decide) (by omega)
                      refine va_iast (D := D) (i := (V 0 12)) (x := z191) hx hb hK hP hD hS 6 5 rfl rfl (i_in (a := ((V 0 12)).toInt) rfl (by omega)) dX12_toldType_143 (fun H locs hP hD hS => ?_)
                      obtain ⟨V192, hV192⟩ : ∃ z, z = up2 V157 13 (Int32.toNatClampNeg (V 0 12)) z191 := ⟨_, rfl⟩
                      have hP : va_P D vwCl (mw ad kk ks.1 V192 L190) H := by rw [hV192]; exact hP
                      have hD : va_D A (mw ad kk ks.1 V192 L190) := by rw [hV192]; exact hD
                      have hMV192 : rgd bM V192 := hMV157.put hV192 (show 0 ≤ z191.toInt ∧ z191.toInt ≤ 24 from by omega)
                      have agV192 : agr [(0, 7), (0, 8)] [13, 14, 15, 21, 53] V V192 := agV157.up hV192 rfl
                      have pq193 : (V192 0 7).toInt = ((V157 0 7)).toInt := congrArg Int32.toInt (up2_o hV192 (by decide))
                      have pq194 : (V192 0 48).toInt = ((V 0 48)).toInt := congrArg Int32.toInt ((up2_o hV192 (by decide)).trans ((ajV157 0 48 rfl).trans ((ajV52 0 48 rfl).trans ((ajV42 0 48 rfl).trans ((ajV29 0 48 rfl).trans (ajV13 0 48 rfl))))))
                      have pq195 : (V192 0 8).toInt = ((V157 0 8)).toInt := congrArg Int32.toInt (up2_o hV192 (by decide))
                      have pq196 : (V192 0 12).toInt = ((V 0 12)).toInt := congrArg Int32.toInt ((up2_o hV192 (by decide)).trans ((ajV157 0 12 rfl).trans ((ajV52 0 12 rfl).trans ((ajV42 0 12 rfl).trans ((ajV29 0 12 rfl).trans (ajV13 0 12 rfl))))))
                      have rw197 : RoV 13 bq V V192 := (fun k hk => ((up2_k hV192 (by omega)).trans ((ajV157 13 k rfl).trans ((ajV52 13 k rfl).trans (xlp43_0 k hk)))))
                      have rw198 : RoL 14 24 bq L L190 := (fun k hk => ((upL_k hL190 (by have h9 := i_clamp (x := z5) rfl (by omega); omega)).trans rfl))
                      exact W.vret hx hb hr (fun t ht hW => ⟨⟨(V192, L190), rfl, ⟨hMV192, agV192, alL190, (Imp.mk (fun hp => have hp : (V192 0 8).toInt = 0 := hp; (show (V192 0 48).toInt ≤ 2 * (V192 0 7).toInt from by omega))), (show (V192 0 48).toInt ≤ 8200 from by omega), (show (V192 0 12).toInt = (V 0 12).toInt from by omega), (Or.inr ⟨(show 1 ≤ (V192 0 8).toInt from by omega), (fun k => by rw [show (V192 0 8).toInt = (V157 0 8).toInt from by omega]; exact hb188 k)⟩), rw197, rw198⟩, by rw [ht]; exact hP, va_K.moved hW.alike hK, hD⟩, hS.F ht⟩) hS.2.2 dX12_toldType_144
                  · skip
                    have f199 : z48.toInt ≠ 0 := b_neq rfl (by decide) c150
                    exfalso; omega
              · skip
                have f200 : y41.toInt < 24 := b_nle (by decide) rfl c44
                refine lv_aload_n hx hb dX12_toldType_64 rfl (lv_at hl 3 rfl) ?_
                refine va_get (D := D) (ci := 12) (v := .ref (ad 15)) (C := RX12) (T := TX12) (N := 100) hx hb hg inX12 hown hK hP 0 rfl rfl 15 (by decide) (hg _ w1721) (fun _ h9 => h9) rfl dX12_toldType_65 ?_
                refine lv_bipush (v := 24) hx hb dX12_toldType_68 (by decide) ?_
                refine lv_iload_n hx hb dX12_toldType_70 rfl (lv_at hl 2 rfl) ?_
                refine lv_imul hx hb dX12_toldType_71 ?_
                refine lv_topi (fun z201 ez201 => ?_)
                have hz201 : z201.toInt = 24 * z5.toInt := i_mul ez201 (by decide) rfl (by omega)
                refine lv_iload hx hb dX12_toldType_72 (lv_at hl 0 rfl) ?_
                refine lv_iadd hx hb dX12_toldType_74 ?_
                refine lv_topi (fun z202 ez202 => ?_)
                have hz202 : z202.toInt = z201.toInt + y41.toInt := i_add ez202 rfl rfl (by omega)
                refine lv_iload hx hb dX12_toldType_75 (lv_at hl 0 rfl) ?_
                refine lv_aload_n hx hb dX12_toldType_77 rfl (lv_at hl 3 rfl) ?_
                refine va_get (D := D) (ci := 12) (v := .ref (ad 13)) (C := RX12) (T := TX12) (N := 100) hx hb hg inX12 hown hK hP 0 rfl rfl 13 (by decide) (hg _ w1719) (fun _ h9 => h9) rfl dX12_toldType_78 ?_
                refine lv_aload_n hx hb dX12_toldType_81 rfl (lv_at hl 3 rfl) ?_
                refine va_get (D := D) (ci := 12) (v := .int (V42 0 12)) (C := RX12) (T := TX12) (N := 100) hx hb hg inX12 hown hK hP 0 rfl rfl 12 (by decide) (hg _ w1718) (fun _ h9 => h9) rfl dX12_toldType_82 ?_
                refine g_top (v := (V 0 12)) ((ajV42 0 12 rfl).trans ((ajV29 0 12 rfl).trans (ajV13 0 12 rfl))) ?_
                refine va_iald (D := D) (i := (V 0 12)) hx hb hK hP 6 5 rfl rfl (i_in (a := ((V 0 12)).toInt) rfl (by omega)) dX12_toldType_85 ?_
                refine g_top (v := (V 13 (Int32.toNatClampNeg (V 0 12)))) ((ajV42 13 (Int32.toNatClampNeg (V 0 12)) rfl).trans ((ajV29 13 (Int32.toNatClampNeg (V 0 12)) rfl).trans (ajV13 13 (Int32.toNatClampNeg (V 0 12)) rfl))) ?_
                refine lv_icmp_ne (tgt := 93) hx hb dX12_toldType_86 (by decide) (fun c203 => ?_) (fun c203 => ?_)
                · skip
                  have f204 : y41.toInt ≠ ((V 13 (Int32.toNatClampNeg (V 0 12)))).toInt := b_neq rfl rfl c203
                  refine lv_iconst (v := 0) hx hb dX12_toldType_93 (by decide) ?_
                  refine va_zast (D := D) (i := z202) (x := 0) hx hb hK hP hD hS 8 7 rfl rfl (i_in (a := z202.toInt) rfl (by omega)) dX12_toldType_94 (fun H locs hP hD hS => ?_)
                  obtain ⟨V205, hV205⟩ : ∃ z, z = up2 V42 15 (Int32.toNatClampNeg z202) (vp_nar .boolean 0) := ⟨_, rfl⟩
                  have hP : va_P D vwCl (mw ad kk ks.1 V205 L) H := by rw [hV205]; exact hP
                  have hD : va_D A (mw ad kk ks.1 V205 L) := by rw [hV205]; exact hD
                  have hMV205 : rgd bM V205 := hMV42.put hV205 (nar_b _)
                  have agV205 : agr [(0, 7), (0, 8)] [13, 14, 15, 21, 53] V V205 := agV42.up hV205 rfl
                  obtain ⟨z206, ez206⟩ : ∃ y : Int32, y = y41 + 1 := ⟨_, rfl⟩
                  have hz206 : z206.toInt = y41.toInt + 1 := i_add ez206 rfl (by decide) (by omega)
                  refine lv_iinc (v := z206) (lv' := [(4, .int z206), (2, .long z25), (1, .int z5), (0, .ref (ad 0))]) hx hb dX12_toldType_95 hl (k := 0) rfl (by rw [ez206]; rfl) (by decide) rfl (fun ls hl => ?_)
                  refine lv_goto (tgt := 57) hx hb dX12_toldType_98 (by decide) ?_
                  have rw207 : RoV 13 bq V V205 := (fun k hk => ((up2_o hV205 (by decide)).trans (xlp43_0 k hk)))
                  have rw208 : RoL 14 24 bq L L := (fun k hk => rfl)
                  exact ihlp43 z206 V205 H locs ls (by omega) rw207 rw208 (by omega) (agr.up (agr.tr agr.rf ajV42 (by decide) (by decide)) hV205 rfl) hMV205 hP hD hS (lv_sub hl [0, 1, 2, 3] rfl)
                · skip
                  have f209 : y41.toInt = ((V 13 (Int32.toNatClampNeg (V 0 12)))).toInt := b_eq rfl rfl c203
                  refine lv_iconst (v := 1) hx hb dX12_toldType_89 (by decide) ?_
                  refine lv_goto (tgt := 94) hx hb dX12_toldType_90 (by decide) ?_
                  refine va_zast (D := D) (i := z202) (x := 1) hx hb hK hP hD hS 8 7 rfl rfl (i_in (a := z202.toInt) rfl (by omega)) dX12_toldType_94 (fun H locs hP hD hS => ?_)
                  obtain ⟨V210, hV210⟩ : ∃ z, z = up2 V42 15 (Int32.toNatClampNeg z202) (vp_nar .boolean 1) := ⟨_, rfl⟩
                  have hP : va_P D vwCl (mw ad kk ks.1 V210 L) H := by rw [hV210]; exact hP
                  have hD : va_D A (mw ad kk ks.1 V210 L) := by rw [hV210]; exact hD
                  have hMV210 : rgd bM V210 := hMV42.put hV210 (nar_b _)
                  have agV210 : agr [(0, 7), (0, 8)] [13, 14, 15, 21, 53] V V210 := agV42.up hV210 rfl
                  obtain ⟨z211, ez211⟩ : ∃ y : Int32, y = y41 + 1 := ⟨_, rfl⟩
                  have hz211 : z211.toInt = y41.toInt + 1 := i_add ez211 rfl (by decide) (by omega)
                  refine lv_iinc (v := z211) (lv' := [(4, .int z211), (2, .long z25), (1, .int z5), (0, .ref (ad 0))]) hx hb dX12_toldType_95 hl (k := 0) rfl (by rw [ez211]; rfl) (by decide) rfl (fun ls hl => ?_)
                  refine lv_goto (tgt := 57) hx hb dX12_toldType_98 (by decide) ?_
                  have rw212 : RoV 13 bq V V210 := (fun k hk => ((up2_o hV210 (by decide)).trans (xlp43_0 k hk)))
                  have rw213 : RoL 14 24 bq L L := (fun k hk => rfl)
                  exact ihlp43 z211 V210 H locs ls (by omega) rw212 rw213 (by omega) (agr.up (agr.tr agr.rf ajV42 (by decide) (by decide)) hV210 rfl) hMV210 hP hD hS (lv_sub hl [0, 1, 2, 3] rfl)
          have rw214 : RoV 13 bq V V29 := (fun k hk => ((ajV29 13 k rfl).trans ((ajV13 13 k rfl).trans rfl)))
          have rw215 : RoL 14 24 bq L L := (fun k hk => rfl)
          exact lp43 ((24 - (Int32.toInt 0) + 1 : Int).toNat) 0 V29 H locs ls (by decide) rw214 rw215 (by omega) agr.rf hMV29 hP hD hS (lv_sub hl [0, 1, 2, 3] rfl)
        · skip
          have hb216 : ∀ k, Rc gT (Crun gs (Istmt :: k)) (Cbad (V29 0 8).toInt) := fun k => Rc.go1 (hr19 k) (nt_b h33)
          have r217 : 0 ≤ ((V29 0 8)).toInt ∧ ((V29 0 8)).toInt ≤ 70000 := hMV29 0 8
          refine lv_lstore_n (lv' := [(2, .long z25), (1, .int z5), (0, .ref (ad 0))]) hx hb dX12_toldType_53 rfl hl (by decide) rfl (fun ls hl => ?_)
          refine lv_iconst (v := 0) hx hb dX12_toldType_54 (by decide) ?_
          refine lv_istore (lv' := [(4, .int 0), (2, .long z25), (1, .int z5), (0, .ref (ad 0))]) hx hb dX12_toldType_55 hl (by decide) rfl (fun ls hl => ?_)
          have lp220 : ∀ (fulp220 : Nat) (y218 : Int32) (V219 : Vf) (H : Heap) (locs : List Loc) (ls : Array Slot), 0 ≤ y218.toInt ∧ y218.toInt ≤ 24 → (RoV 13 bq V V219) → (RoL 14 24 bq L L) → 24 - y218.toInt < (fulp220 : Int) → agr [] [15] V29 V219 → rgd bM V219 → va_P D vwCl (mw ad kk ks.1 V219 L) H → va_D A (mw ad kk ks.1 V219 L) → va_S A s.heap H locs → lv_has ls 5 [(4, .int y218), (2, .long z25), (1, .int z5), (0, .ref (ad 0))] → W p l e r_s_toldTypeA s m ([.ref (ad 0)] : List Value).toArray below meth c H locs 0 0 (MQ below (q_s_toldTypeA D ks ad kk V L  bq gn gT gs A) ([.ref (ad 0)] : List Value).toArray s 0 0 A) (F0 m 57 ls []) := by
            intro fulp220
            induction fulp220 with
            | zero =>
              intro y218 V219 H locs ls klp220_0 xlp220_0 xlp220_1 hn ajV219 hMV219 hP hD hS hl
              exfalso; omega
            | succ fulp220 ihlp220 =>
              intro y218 V219 H locs ls klp220_0 xlp220_0 xlp220_1 hn ajV219 hMV219 hP hD hS hl
              have agV219 : agr [(0, 7), (0, 8)] [13, 14, 15, 21, 53] V V219 := agV29.tr ajV219 (by decide) (by decide)
              refine lv_iload hx hb dX12_toldType_57 (lv_at hl 0 rfl) ?_
              refine lv_bipush (v := 24) hx hb dX12_toldType_59 (by decide) ?_
              refine lv_icmp_ge (tgt := 101) hx hb dX12_toldType_61 (by decide) (fun c221 => ?_) (fun c221 => ?_)
              · skip
                have f222 : 24 ≤ y218.toInt := b_le (by decide) rfl c221
                refine lv_aload_n hx hb dX12_toldType_101 rfl (lv_at hl 3 rfl) ?_
                refine lv_iconst (v := 1) hx hb dX12_toldType_102 (by decide) ?_
                have r223 : Int32.toInt 1 = 1 := by decide
                have pq224 : (V219 0 8).toInt = ((V29 0 8)).toInt := congrArg Int32.toInt (ajV219 0 8 rfl)
                refine gA_int (gA_runV (As := [.int 1]) (rest := []) (ci := 12) (q0 := 0) hx hb hml hown hg hP hD hK hS hA hnw hgk (s_hasWordB l D ks H.size ad kk V219 L 1 hMV219 (by decide) (show 1 ≤ (V219 0 8).toInt from by omega)) w2051 w2053 w90 w172 w2054 rfl rfl hdV_yX12_hasWord ⟨Nat.le_of_ble_eq_true rfl, Nat.le_of_ble_eq_true rfl⟩ rfl hl.1 rfl (Nat.le_of_ble_eq_true rfl) dX12_toldType_103 ⟨Nat.le_of_ble_eq_true rfl, Nat.le_of_ble_eq_true rfl⟩) hP hD hK hS hA (fun z225 u226 H locs w227 hP hD hK hS => ?_)
                obtain ⟨V229, L230⟩ := u226
                obtain ⟨hMV229, ajV229, axL230, rgz225, t228⟩ := w227
                have axL230 : L = L230 := Eq.symm axL230
                subst axL230
                have hP : va_P D vwCl (mw ad kk ks.1 V229 L) H := hP
                have hD : va_D A (mw ad kk ks.1 V229 L) := hD
                have hMV229 : rgd bM V229 := hMV229
                have ajV229 : agr [(0, 7)] [] V219 V229 := ajV229
                have agV229 : agr [(0, 7), (0, 8)] [13, 14, 15, 21, 53] V V229 := agV219.tr ajV229 (by decide) (by decide)
                have rgz225 : 0 ≤ z225.toInt ∧ z225.toInt ≤ 0 := rgz225
                have t228 : (V229 0 8).toInt = (V219 0 8).toInt := t228
                have pq231 : (V229 0 8).toInt = ((V29 0 8)).toInt := congrArg Int32.toInt ((ajV229 0 8 rfl).trans (ajV219 0 8 rfl))
                refine lv_if_eq (tgt := 118) hx hb dX12_toldType_106 (by decide) (fun c232 => ?_) (fun c232 => ?_)
                · skip
                  have f233 : z225.toInt = 0 := b_eq rfl (by decide) c232
                  refine lv_aload_n hx hb dX12_toldType_118 rfl (lv_at hl 3 rfl) ?_
                  refine lv_bipush (v := 59) hx hb dX12_toldType_119 (by decide) ?_
                  have r234 : Int32.toInt 59 = 59 := by decide
                  refine gA_void (gA_runV (As := [.int 59]) (rest := []) (ci := 12) (q0 := 0) hx hb hml hown hg hP hD hK hS hA hnw hgk (s_takeSignB l D ks H.size ad kk V229 L 59 hMV229 (show 1 ≤ (V229 0 8).toInt from by omega)) w2075 w2077 w96 w172 w2078 rfl rfl hdV_yX12_takeSign ⟨Nat.le_of_ble_eq_true rfl, Nat.le_of_ble_eq_true rfl⟩ rfl hl.1 rfl (Nat.le_of_ble_eq_true rfl) dX12_toldType_121 ⟨Nat.le_of_ble_eq_true rfl, Nat.le_of_ble_eq_true rfl⟩) hP hD hK hS hA (fun u236 H locs w237 hP hD hK hS => ?_)
                  obtain ⟨V239, L240⟩ := u236
                  obtain ⟨hMV239, ajV239, axL240, t238⟩ := w237
                  have axL240 : L = L240 := Eq.symm axL240
                  subst axL240
                  have hP : va_P D vwCl (mw ad kk ks.1 V239 L) H := hP
                  have hD : va_D A (mw ad kk ks.1 V239 L) := hD
                  have hMV239 : rgd bM V239 := hMV239
                  have ajV239 : agr [(0, 7), (0, 8)] [] V229 V239 := ajV239
                  have agV239 : agr [(0, 7), (0, 8)] [13, 14, 15, 21, 53] V V239 := agV229.tr ajV239 (by decide) (by decide)
                  have t238 : (V239 0 8).toInt = (V229 0 8).toInt := t238
                  have r241 : 0 ≤ ((V239 0 8)).toInt ∧ ((V239 0 8)).toInt ≤ 70000 := hMV239 0 8
                  refine lv_aload_n hx hb dX12_toldType_124 rfl (lv_at hl 3 rfl) ?_
                  refine va_get (D := D) (ci := 12) (v := .ref (ad 14)) (C := RX12) (T := TX12) (N := 100) hx hb hg inX12 hown hK hP 0 rfl rfl 14 (by decide) (hg _ w1720) (fun _ h9 => h9) rfl dX12_toldType_125 ?_
                  refine lv_iload_n hx hb dX12_toldType_128 rfl (lv_at hl 2 rfl) ?_
                  refine lv_lload_n hx hb dX12_toldType_129 rfl (lv_at hl 1 rfl) ?_
                  refine va_last (D := D) (i := z5) (x := z25) hx hb hK hP hD hS 7 6 rfl rfl (i_in (a := z5.toInt) rfl (by omega)) dX12_toldType_130 (fun H locs hP hD hS => ?_)
                  obtain ⟨L242, hL242⟩ : ∃ z, z = upL L 14 (Int32.toNatClampNeg z5) z25 := ⟨_, rfl⟩
                  have hP : va_P D vwCl (mw ad kk ks.1 V239 L242) H := by rw [hL242]; exact hP
                  have hD : va_D A (mw ad kk ks.1 V239 L242) := by rw [hL242]; exact hD
                  have alL242 : agL [13, 14, 15, 21, 53] L L242 := agL.up alL hL242 rfl
                  refine lv_aload_n hx hb dX12_toldType_131 rfl (lv_at hl 3 rfl) ?_
                  refine va_get (D := D) (ci := 12) (v := .ref (ad 13)) (C := RX12) (T := TX12) (N := 100) hx hb hg inX12 hown hK hP 0 rfl rfl 13 (by decide) (hg _ w1719) (fun _ h9 => h9) rfl dX12_toldType_132 ?_
                  refine lv_aload_n hx hb dX12_toldType_135 rfl (lv_at hl 3 rfl) ?_
                  refine va_get (D := D) (ci := 12) (v := .int (V239 0 12)) (C := RX12) (T := TX12) (N := 100) hx hb hg inX12 hown hK hP 0 rfl rfl 12 (by decide) (hg _ w1718) (fun _ h9 => h9) rfl dX12_toldType_136 ?_
                  refine g_top (v := (V 0 12)) ((ajV239 0 12 rfl).trans ((ajV229 0 12 rfl).trans ((ajV219 0 12 rfl).trans ((ajV29 0 12 rfl).trans (ajV13 0 12 rfl))))) ?_
                  refine lv_dup2_11 hx hb dX12_toldType_139 rfl rfl ?_
                  refine va_iald (D := D) (i := (V 0 12)) hx hb hK hP 6 5 rfl rfl (i_in (a := ((V 0 12)).toInt) rfl (by omega)) dX12_toldType_140 ?_
                  refine g_top (v := (V 13 (Int32.toNatClampNeg (V 0 12)))) ((ajV239 13 (Int32.toNatClampNeg (V 0 12)) rfl).trans ((ajV229 13 (Int32.toNatClampNeg (V 0 12)) rfl).trans ((ajV219 13 (Int32.toNatClampNeg (V 0 12)) rfl).trans ((ajV29 13 (Int32.toNatClampNeg (V 0 12)) rfl).trans (ajV13 13 (Int32.toNatClampNeg (V 0 12)) rfl))))) ?_
                  refine lv_iconst (v := 1) hx hb dX12_toldType_141 (by decide) ?_
                  refine lv_iadd hx hb dX12_toldType_142 ?_
                  refine lv_topi (fun z243 ez243 => ?_)
                  have hz243 : z243.toInt = ((V 13 (Int32.toNatClampNeg (V 0 12)))).toInt + 1 := i_add ez243 rfl (by decide) (by omega)
                  refine va_iast (D := D) (i := (V 0 12)) (x := z243) hx hb hK hP hD hS 6 5 rfl rfl (i_in (a := ((V 0 12)).toInt) rfl (by omega)) dX12_toldType_143 (fun H locs hP hD hS => ?_)
                  obtain ⟨V244, hV244⟩ : ∃ z, z = up2 V239 13 (Int32.toNatClampNeg (V 0 12)) z243 := ⟨_, rfl⟩
                  have hP : va_P D vwCl (mw ad kk ks.1 V244 L242) H := by rw [hV244]; exact hP
                  have hD : va_D A (mw ad kk ks.1 V244 L242) := by rw [hV244]; exact hD
                  have hMV244 : rgd bM V244 := hMV239.put hV244 (show 0 ≤ z243.toInt ∧ z243.toInt ≤ 24 from by omega)
                  have agV244 : agr [(0, 7), (0, 8)] [13, 14, 15, 21, 53] V V244 := agV239.up hV244 rfl
                  have pq245 : (V244 0 7).toInt = ((V239 0 7)).toInt := congrArg Int32.toInt (up2_o hV244 (by decide))
                  have pq246 : (V244 0 48).toInt = ((V 0 48)).toInt := congrArg Int32.toInt ((up2_o hV244 (by decide)).trans ((ajV239 0 48 rfl).trans ((ajV229 0 48 rfl).trans ((ajV219 0 48 rfl).trans ((ajV29 0 48 rfl).trans (ajV13 0 48 rfl))))))
                  have pq247 : (V244 0 8).toInt = ((V239 0 8)).toInt := congrArg Int32.toInt (up2_o hV244 (by decide))
                  have pq248 : (V244 0 12).toInt = ((V 0 12)).toInt := congrArg Int32.toInt ((up2_o hV244 (by decide)).trans ((ajV239 0 12 rfl).trans ((ajV229 0 12 rfl).trans ((ajV219 0 12 rfl).trans ((ajV29 0 12 rfl).trans (ajV13 0 12 rfl))))))
                  have rw249 : RoV 13 bq V V244 := (fun k hk => ((up2_k hV244 (by omega)).trans ((ajV239 13 k rfl).trans ((ajV229 13 k rfl).trans (xlp220_0 k hk)))))
                  have rw250 : RoL 14 24 bq L L242 := (fun k hk => ((upL_k hL242 (by have h9 := i_clamp (x := z5) rfl (by omega); omega)).trans rfl))
                  exact W.vret hx hb hr (fun t ht hW => ⟨⟨(V244, L242), rfl, ⟨hMV244, agV244, alL242, (Imp.mk (fun hp => have hp : (V244 0 8).toInt = 0 := hp; (show (V244 0 48).toInt ≤ 2 * (V244 0 7).toInt from by omega))), (show (V244 0 48).toInt ≤ 8200 from by omega), (show (V244 0 12).toInt = (V 0 12).toInt from by omega), (Or.inr ⟨(show 1 ≤ (V244 0 8).toInt from by omega), (fun k => by rw [show (V244 0 8).toInt = (V29 0 8).toInt from by omega]; exact hb216 k)⟩), rw249, rw250⟩, by rw [ht]; exact hP, va_K.moved hW.alike hK, hD⟩, hS.F ht⟩) hS.2.2 dX12_toldType_144
                · skip
                  have f251 : z225.toInt ≠ 0 := b_neq rfl (by decide) c232
                  exfalso; omega
              · skip
                have f252 : y218.toInt < 24 := b_nle (by decide) rfl c221
                refine lv_aload_n hx hb dX12_toldType_64 rfl (lv_at hl 3 rfl) ?_
                refine va_get (D := D) (ci := 12) (v := .ref (ad 15)) (C := RX12) (T := TX12) (N := 100) hx hb hg inX12 hown hK hP 0 rfl rfl 15 (by decide) (hg _ w1721) (fun _ h9 => h9) rfl dX12_toldType_65 ?_
                refine lv_bipush (v := 24) hx hb dX12_toldType_68 (by decide) ?_
                refine lv_iload_n hx hb dX12_toldType_70 rfl (lv_at hl 2 rfl) ?_
                refine lv_imul hx hb dX12_toldType_71 ?_
                refine lv_topi (fun z253 ez253 => ?_)
                have hz253 : z253.toInt = 24 * z5.toInt := i_mul ez253 (by decide) rfl (by omega)
                refine lv_iload hx hb dX12_toldType_72 (lv_at hl 0 rfl) ?_
                refine lv_iadd hx hb dX12_toldType_74 ?_
                refine lv_topi (fun z254 ez254 => ?_)
                have hz254 : z254.toInt = z253.toInt + y218.toInt := i_add ez254 rfl rfl (by omega)
                refine lv_iload hx hb dX12_toldType_75 (lv_at hl 0 rfl) ?_
                refine lv_aload_n hx hb dX12_toldType_77 rfl (lv_at hl 3 rfl) ?_
                refine va_get (D := D) (ci := 12) (v := .ref (ad 13)) (C := RX12) (T := TX12) (N := 100) hx hb hg inX12 hown hK hP 0 rfl rfl 13 (by decide) (hg _ w1719) (fun _ h9 => h9) rfl dX12_toldType_78 ?_
                refine lv_aload_n hx hb dX12_toldType_81 rfl (lv_at hl 3 rfl) ?_
                refine va_get (D := D) (ci := 12) (v := .int (V219 0 12)) (C := RX12) (T := TX12) (N := 100) hx hb hg inX12 hown hK hP 0 rfl rfl 12 (by decide) (hg _ w1718) (fun _ h9 => h9) rfl dX12_toldType_82 ?_
                refine g_top (v := (V 0 12)) ((ajV219 0 12 rfl).trans ((ajV29 0 12 rfl).trans (ajV13 0 12 rfl))) ?_
                refine va_iald (D := D) (i := (V 0 12)) hx hb hK hP 6 5 rfl rfl (i_in (a := ((V 0 12)).toInt) rfl (by omega)) dX12_toldType_85 ?_
                refine g_top (v := (V 13 (Int32.toNatClampNeg (V 0 12)))) ((ajV219 13 (Int32.toNatClampNeg (V 0 12)) rfl).trans ((ajV29 13 (Int32.toNatClampNeg (V 0 12)) rfl).trans (ajV13 13 (Int32.toNatClampNeg (V 0 12)) rfl))) ?_
                refine lv_icmp_ne (tgt := 93) hx hb dX12_toldType_86 (by decide) (fun c255 => ?_) (fun c255 => ?_)
                · skip
                  have f256 : y218.toInt ≠ ((V 13 (Int32.toNatClampNeg (V 0 12)))).toInt := b_neq rfl rfl c255
                  refine lv_iconst (v := 0) hx hb dX12_toldType_93 (by decide) ?_
                  refine va_zast (D := D) (i := z254) (x := 0) hx hb hK hP hD hS 8 7 rfl rfl (i_in (a := z254.toInt) rfl (by omega)) dX12_toldType_94 (fun H locs hP hD hS => ?_)
                  obtain ⟨V257, hV257⟩ : ∃ z, z = up2 V219 15 (Int32.toNatClampNeg z254) (vp_nar .boolean 0) := ⟨_, rfl⟩
                  have hP : va_P D vwCl (mw ad kk ks.1 V257 L) H := by rw [hV257]; exact hP
                  have hD : va_D A (mw ad kk ks.1 V257 L) := by rw [hV257]; exact hD
                  have hMV257 : rgd bM V257 := hMV219.put hV257 (nar_b _)
                  have agV257 : agr [(0, 7), (0, 8)] [13, 14, 15, 21, 53] V V257 := agV219.up hV257 rfl
                  obtain ⟨z258, ez258⟩ : ∃ y : Int32, y = y218 + 1 := ⟨_, rfl⟩
                  have hz258 : z258.toInt = y218.toInt + 1 := i_add ez258 rfl (by decide) (by omega)
                  refine lv_iinc (v := z258) (lv' := [(4, .int z258), (2, .long z25), (1, .int z5), (0, .ref (ad 0))]) hx hb dX12_toldType_95 hl (k := 0) rfl (by rw [ez258]; rfl) (by decide) rfl (fun ls hl => ?_)
                  refine lv_goto (tgt := 57) hx hb dX12_toldType_98 (by decide) ?_
                  have rw259 : RoV 13 bq V V257 := (fun k hk => ((up2_o hV257 (by decide)).trans (xlp220_0 k hk)))
                  have rw260 : RoL 14 24 bq L L := (fun k hk => rfl)
                  exact ihlp220 z258 V257 H locs ls (by omega) rw259 rw260 (by omega) (agr.up (agr.tr agr.rf ajV219 (by decide) (by decide)) hV257 rfl) hMV257 hP hD hS (lv_sub hl [0, 1, 2, 3] rfl)
                · skip
                  have f261 : y218.toInt = ((V 13 (Int32.toNatClampNeg (V 0 12)))).toInt := b_eq rfl rfl c255
                  refine lv_iconst (v := 1) hx hb dX12_toldType_89 (by decide) ?_
                  refine lv_goto (tgt := 94) hx hb dX12_toldType_90 (by decide) ?_
                  refine va_zast (D := D) (i := z254) (x := 1) hx hb hK hP hD hS 8 7 rfl rfl (i_in (a := z254.toInt) rfl (by omega)) dX12_toldType_94 (fun H locs hP hD hS => ?_)
                  obtain ⟨V262, hV262⟩ : ∃ z, z = up2 V219 15 (Int32.toNatClampNeg z254) (vp_nar .boolean 1) := ⟨_, rfl⟩
                  have hP : va_P D vwCl (mw ad kk ks.1 V262 L) H := by rw [hV262]; exact hP
                  have hD : va_D A (mw ad kk ks.1 V262 L) := by rw [hV262]; exact hD
                  have hMV262 : rgd bM V262 := hMV219.put hV262 (nar_b _)
                  have agV262 : agr [(0, 7), (0, 8)] [13, 14, 15, 21, 53] V V262 := agV219.up hV262 rfl
                  obtain ⟨z263, ez263⟩ : ∃ y : Int32, y = y218 + 1 := ⟨_, rfl⟩
                  have hz263 : z263.toInt = y218.toInt + 1 := i_add ez263 rfl (by decide) (by omega)
                  refine lv_iinc (v := z263) (lv' := [(4, .int z263), (2, .long z25), (1, .int z5), (0, .ref (ad 0))]) hx hb dX12_toldType_95 hl (k := 0) rfl (by rw [ez263]; rfl) (by decide) rfl (fun ls hl => ?_)
                  refine lv_goto (tgt := 57) hx hb dX12_toldType_98 (by decide) ?_
                  have rw264 : RoV 13 bq V V262 := (fun k hk => ((up2_o hV262 (by decide)).trans (xlp220_0 k hk)))
                  have rw265 : RoL 14 24 bq L L := (fun k hk => rfl)
                  exact ihlp220 z263 V262 H locs ls (by omega) rw264 rw265 (by omega) (agr.up (agr.tr agr.rf ajV219 (by decide) (by decide)) hV262 rfl) hMV262 hP hD hS (lv_sub hl [0, 1, 2, 3] rfl)
          have rw266 : RoV 13 bq V V29 := (fun k hk => ((ajV29 13 k rfl).trans ((ajV13 13 k rfl).trans rfl)))
          have rw267 : RoL 14 24 bq L L := (fun k hk => rfl)
          exact lp220 ((24 - (Int32.toInt 0) + 1 : Int).toNat) 0 V29 H locs ls (by decide) rw266 rw267 (by omega) agr.rf hMV29 hP hD hS (lv_sub hl [0, 1, 2, 3] rfl)
      · skip
        have f268 : 0 < ((V13 0 8)).toInt := b_nle rfl (by decide) c23
        exfalso; omega
    · skip
      exfalso; omega
  · skip
    have f269 : ((V 13 (Int32.toNatClampNeg (V 0 12)))).toInt = 24 := b_eq rfl (by decide) c6
    refine lv_iconst (v := 1) hx hb dX12_toldType_33 (by decide) ?_
    refine lv_goto (tgt := 38) hx hb dX12_toldType_34 (by decide) ?_
    have r270 : Int32.toInt 1 = 1 := by decide
    refine gA_void (gA_runV (As := [.int 1]) (rest := []) (ci := 12) (q0 := 0) hx hb hml hown hg hP hD hK hS hA hnw hgk (s_beginsA l D ks H.size ad kk V L 1 (bq) (gn) (gT) (gs) ((gs.2.1 2)) hMV (by decide) rel (by rw [kd9]; decide)) w2031 w2033 w85 w172 w2034 rfl rfl hdV_yX12_begins ⟨Nat.le_of_ble_eq_true rfl, Nat.le_of_ble_eq_true rfl⟩ rfl hl.1 rfl (Nat.le_of_ble_eq_true rfl) dX12_toldType_38 ⟨Nat.le_of_ble_eq_true rfl, Nat.le_of_ble_eq_true rfl⟩) hP hD hK hS hA (fun u272 H locs w273 hP hD hK hS => ?_)
    obtain ⟨V275, L276⟩ := u272
    obtain ⟨hMV275, ajV275, axL276, t274⟩ := w273
    have axL276 : L = L276 := Eq.symm axL276
    subst axL276
    have hP : va_P D vwCl (mw ad kk ks.1 V275 L) H := hP
    have hD : va_D A (mw ad kk ks.1 V275 L) := hD
    have hMV275 : rgd bM V275 := hMV275
    have ajV275 : agr [(0, 7), (0, 8)] [] V V275 := ajV275
    have agV275 : agr [(0, 7), (0, 8)] [13, 14, 15, 21, 53] V V275 := agV.tr ajV275 (by decide) (by decide)
    have t274 : ((Int32.toInt 1) = 0 ∧ (V275 0 8).toInt = 0 ∧ RelM V275 L (bq) (gn) (gT) (nx (gs) 1) ((gs.2.1 2))) ∨ ((Int32.toInt 1) = 1 ∧ 1 ≤ (V275 0 8).toInt ∧ (V275 0 8).toInt = 5 + 16 * (gT).2.2 ((gs).1 0)) := t274
    rcases t274 with ⟨q277, f278, rl279⟩ | ⟨q277, f278, rl279⟩
    · skip
      exfalso; omega
    · skip
      have hr280 : ∀ k, Rc gT (Crun gs (Istmt :: k)) (Crun gs (Istmt :: k)) := fun k => Rc.rf
      have hb281 : ∀ k, Rc gT (Crun gs (Istmt :: k)) (Cbad (V275 0 8).toInt) := fun k => Rc.go1 (hr280 k) ((st_128f kd9 (by omega)).trans (fl_eq rfl rl279))
      have r282 : 0 ≤ ((V275 0 8)).toInt ∧ ((V275 0 8)).toInt ≤ 70000 := hMV275 0 8
      refine lv_aload_n hx hb dX12_toldType_41 rfl (lv_at hl 1 rfl) ?_
      refine va_get (D := D) (ci := 12) (v := .int (V275 0 8)) (C := RX12) (T := TX12) (N := 100) hx hb hg inX12 hown hK hP 0 rfl rfl 8 (by decide) (hg _ w1714) (fun _ h9 => h9) rfl dX12_toldType_42 ?_
      refine lv_if_le (tgt := 49) hx hb dX12_toldType_45 (by decide) (fun c283 => ?_) (fun c283 => ?_)
      · skip
        have f284 : ((V275 0 8)).toInt ≤ 0 := b_le rfl (by decide) c283
        exfalso; omega
      · skip
        have f285 : 0 < ((V275 0 8)).toInt := b_nle rfl (by decide) c283
        have pq286 : (V275 0 48).toInt = ((V 0 48)).toInt := congrArg Int32.toInt (ajV275 0 48 rfl)
        have pq287 : (V275 0 12).toInt = ((V 0 12)).toInt := congrArg Int32.toInt (ajV275 0 12 rfl)
        have rw288 : RoV 13 bq V V275 := (fun k hk => ((ajV275 13 k rfl).trans rfl))
        have rw289 : RoL 14 24 bq L L := (fun k hk => rfl)
        exact W.vret hx hb hr (fun t ht hW => ⟨⟨(V275, L), rfl, ⟨hMV275, agV275, alL, (Imp.mk (fun hp => have hp : (V275 0 8).toInt = 0 := hp; (show (V275 0 48).toInt ≤ 2 * (V275 0 7).toInt from by omega))), (show (V275 0 48).toInt ≤ 8200 from by omega), (show (V275 0 12).toInt = (V 0 12).toInt from by omega), (Or.inr ⟨(show 1 ≤ (V275 0 8).toInt from by omega), hb281⟩), rw288, rw289⟩, by rw [ht]; exact hP, va_K.moved hW.alike hK, hD⟩, hS.F ht⟩) hS.2.2 dX12_toldType_48
abbrev r_s_toldSettingA : Room := { frames := 2, cells := 0, slots := 0, locals := 47 }
abbrev q_s_toldSettingA (D : va_G) (ks : KS) (ad : Nat → Nat) (kk : Nat → ClassId) (V : Vf) (L : Lf) (bq : Nat) (gn : Nat) (gT : Tk) (gs : St) (A : Nat → Prop) : Array Value → State → Outcome → State → Prop := va_Qv (fun (u : Vf × Lf) => rgd bM u.1 ∧ agr [(0, 7), (0, 8)] [16, 17, 18] V u.1 ∧ agL [16, 17, 18] L u.2 ∧ (Imp ((u.1 0 8).toInt = 0) ((u.1 0 48).toInt ≤ 2 * (u.1 0 7).toInt)) ∧ ((u.1 0 48).toInt ≤ 8200) ∧ ((u.1 0 12).toInt = (V 0 12).toInt) ∧ (RdM gT gs (fun k => Istmt :: k) (fun k => Istmt :: k) (u.1 0 8).toInt (fun s9 => RelM u.1 u.2 bq gn gT s9 (s9.2.1 2) ∧ gs.1 0 + 1 ≤ s9.1 0 ∧ ARm s9)) ∧ (RoV 16 bq V u.1) ∧ (RoL 17 12 bq L u.2)) (fun u t => gq D A (mw ad kk ks.1 u.1 u.2) (mty kk) t) A
set_option maxHeartbeats 4000000 in
set_option maxRecDepth 100000 in
theorem s_toldSettingA (l : Launch) (D : va_G) (ks : KS) (sz : Nat) (ad : Nat → Nat) (kk : Nat → ClassId) (V : Vf) (L : Lf) (bq : Nat) (gn : Nat) (gT : Tk) (gs : St) (hMV : rgd bM V) (rel : RelM V L bq gn gT gs (gs.2.1 2)) (kd9 : gT.1 (gs.1 0) = 130) (cc : (V 0 48).toInt ≤ 2 * (V 0 7).toInt) (arm : ARm gs)  : Met l yX12_toldSetting (Cond.code yX12_toldSetting cX12_toldSetting 2 none :: GW) r_s_toldSettingA (va_Pc [.ref (ad 0)] (gp D ks (mw ad kk ks.1 V L) (mty kk) sz)) (q_s_toldSettingA D ks ad kk V L  bq gn gT gs (va_A (mw ad kk ks.1 V L) sz)) 0 0 (va_A (mw ad kk ks.1 V L) sz) := by
  refine g_met (q_s_toldSettingA D ks ad kk V L  bq gn gT gs) (by decide) (Nat.le_of_ble_eq_true rfl) ?_
  intro p e s m below meth c A ls H locs hx hb hr hml hown hg hlocks hin hnw hgk hP hK hD hS hA hl
  have hown : s.vm.findClass RX12 = some m.cls := hown
  have hl : lv_has ls 2 [(0, .ref (ad 0))] := hl
  have hP : va_P D vwCl (mw ad kk ks.1 V L) H := hP
  have hD : va_D A (mw ad kk ks.1 V L) := hD
  have hK : va_K D vwCl (mty kk) s := hK
  have agV : agr [(0, 7), (0, 8)] [16, 17, 18] V V := agr.rf
  have alL : agL [16, 17, 18] L L := agL.rf
  have r1 : 0 ≤ ((V 0 48)).toInt ∧ ((V 0 48)).toInt ≤ 10000 := hMV 0 48
  have rg0 := RelM.rg rel
  have cl0 := RelM.cl rel
  have cq0 := RelM.cq rel
  have ln0 := RelM.len rel
  have q13 : (V 13 (Int32.toNatClampNeg (V 0 12))).toInt = (V 13 bq).toInt := by rw [cq0]
  have q16 : (V 16 (Int32.toNatClampNeg (V 0 12))).toInt = (V 16 bq).toInt := by rw [cq0]
  have q19 : (V 19 (Int32.toNatClampNeg (V 0 12))).toInt = (V 19 bq).toInt := by rw [cq0]
  have q39 : (V 39 (Int32.toNatClampNeg (V 0 12))).toInt = (V 39 bq).toInt := by rw [cq0]
  refine lv_bipush (v := 12) hx hb dX12_toldSetting_0 (by decide) ?_
  refine lv_aload_n hx hb dX12_toldSetting_2 rfl (lv_at hl 0 rfl) ?_
  refine va_get (D := D) (ci := 12) (v := .int (V 0 12)) (C := RX12) (T := TX12) (N := 100) hx hb hg inX12 hown hK hP 0 rfl rfl 12 (by decide) (hg _ w1718) (fun _ h9 => h9) rfl dX12_toldSetting_3 ?_
  have r2 : 0 ≤ ((V 0 12)).toInt ∧ ((V 0 12)).toInt ≤ 1 := hMV 0 12
  refine lv_imul hx hb dX12_toldSetting_6 ?_
  refine lv_topi (fun z3 ez3 => ?_)
  have hz3 : z3.toInt = 12 * ((V 0 12)).toInt := i_mul ez3 (by decide) rfl (by omega)
  refine lv_aload_n hx hb dX12_toldSetting_7 rfl (lv_at hl 0 rfl) ?_
  refine va_get (D := D) (ci := 12) (v := .ref (ad 16)) (C := RX12) (T := TX12) (N := 100) hx hb hg inX12 hown hK hP 0 rfl rfl 16 (by decide) (hg _ w1722) (fun _ h9 => h9) rfl dX12_toldSetting_8 ?_
  refine lv_aload_n hx hb dX12_toldSetting_11 rfl (lv_at hl 0 rfl) ?_
  refine va_get (D := D) (ci := 12) (v := .int (V 0 12)) (C := RX12) (T := TX12) (N := 100) hx hb hg inX12 hown hK hP 0 rfl rfl 12 (by decide) (hg _ w1718) (fun _ h9 => h9) rfl dX12_toldSetting_12 ?_
  refine va_iald (D := D) (i := (V 0 12)) hx hb hK hP 9 8 rfl rfl (i_in (a := ((V 0 12)).toInt) rfl (by omega)) dX12_toldSetting_15 ?_
  have r4 : 0 ≤ ((V 16 (Int32.toNatClampNeg (V 0 12)))).toInt ∧ ((V 16 (Int32.toNatClampNeg (V 0 12)))).toInt ≤ 12 := hMV 16 (Int32.toNatClampNeg (V 0 12))
  refine lv_iadd hx hb dX12_toldSetting_16 ?_
  refine lv_topi (fun z5 ez5 => ?_)
  have hz5 : z5.toInt = z3.toInt + ((V 16 (Int32.toNatClampNeg (V 0 12)))).toInt := i_add ez5 rfl rfl (by omega)
  refine lv_istore_n (lv' := [(1, .int z5), (0, .ref (ad 0))]) hx hb dX12_toldSetting_17 rfl hl (by decide) rfl (fun ls hl => ?_)
  refine lv_aload_n hx hb dX12_toldSetting_18 rfl (lv_at hl 1 rfl) ?_
  refine lv_aload_n hx hb dX12_toldSetting_19 rfl (lv_at hl 1 rfl) ?_
  refine va_get (D := D) (ci := 12) (v := .ref (ad 16)) (C := RX12) (T := TX12) (N := 100) hx hb hg inX12 hown hK hP 0 rfl rfl 16 (by decide) (hg _ w1722) (fun _ h9 => h9) rfl dX12_toldSetting_20 ?_
  refine lv_aload_n hx hb dX12_toldSetting_23 rfl (lv_at hl 1 rfl) ?_
  refine va_get (D := D) (ci := 12) (v := .int (V 0 12)) (C := RX12) (T := TX12) (N := 100) hx hb hg inX12 hown hK hP 0 rfl rfl 12 (by decide) (hg _ w1718) (fun _ h9 => h9) rfl dX12_toldSetting_24 ?_
  refine va_iald (D := D) (i := (V 0 12)) hx hb hK hP 9 8 rfl rfl (i_in (a := ((V 0 12)).toInt) rfl (by omega)) dX12_toldSetting_27 ?_
  refine lv_bipush (v := 12) hx hb dX12_toldSetting_28 (by decide) ?_
  refine lv_icmp_ne (tgt := 37) hx hb dX12_toldSetting_30 (by decide) (fun c6 => ?_) (fun c6 => ?_)
  · skip
    have f7 : ((V 16 (Int32.toNatClampNeg (V 0 12)))).toInt ≠ 12 := b_neq rfl (by decide) c6
    refine lv_iconst (v := 0) hx hb dX12_toldSetting_37 (by decide) ?_
    have r8 : Int32.toInt 0 = 0 := by decide
    refine gA_void (gA_runV (As := [.int 0]) (rest := []) (ci := 12) (q0 := 0) hx hb hml hown hg hP hD hK hS hA hnw hgk (s_beginsA l D ks H.size ad kk V L 0 (bq) (gn) (gT) (gs) ((gs.2.1 2)) hMV (by decide) rel (by rw [kd9]; decide)) w2031 w2033 w85 w172 w2034 rfl rfl hdV_yX12_begins ⟨Nat.le_of_ble_eq_true rfl, Nat.le_of_ble_eq_true rfl⟩ rfl hl.1 rfl (Nat.le_of_ble_eq_true rfl) dX12_toldSetting_38 ⟨Nat.le_of_ble_eq_true rfl, Nat.le_of_ble_eq_true rfl⟩) hP hD hK hS hA (fun u10 H locs w11 hP hD hK hS => ?_)
    obtain ⟨V13, L14⟩ := u10
    obtain ⟨hMV13, ajV13, axL14, t12⟩ := w11
    have axL14 : L = L14 := Eq.symm axL14
    subst axL14
    have hP : va_P D vwCl (mw ad kk ks.1 V13 L) H := hP
    have hD : va_D A (mw ad kk ks.1 V13 L) := hD
    have hMV13 : rgd bM V13 := hMV13
    have ajV13 : agr [(0, 7), (0, 8)] [] V V13 := ajV13
    have agV13 : agr [(0, 7), (0, 8)] [16, 17, 18] V V13 := agV.tr ajV13 (by decide) (by decide)
    have t12 : ((Int32.toInt 0) = 0 ∧ (V13 0 8).toInt = 0 ∧ RelM V13 L (bq) (gn) (gT) (nx (gs) 1) ((gs.2.1 2))) ∨ ((Int32.toInt 0) = 1 ∧ 1 ≤ (V13 0 8).toInt ∧ (V13 0 8).toInt = 5 + 16 * (gT).2.2 ((gs).1 0)) := t12
    rcases t12 with ⟨q15, f16, rl17⟩ | ⟨q15, f16, rl17⟩
    · skip
      have hr18 : ∀ k, Rc gT (Crun gs (Istmt :: k)) (Crun gs (Istmt :: k)) := fun k => Rc.rf
      have hr19 : ∀ k, Rc gT (Crun gs (Istmt :: k)) (Crun (nx gs 1) (InewSet :: k)) := fun k => Rc.go1 (hr18 k) (st_130 kd9 (by omega))
      have ps20 : (nx gs 1).1 0 = gs.1 0 + 1 := rfl
      have fz21 := RelM.rg rl17
      have r22 : 0 ≤ ((V13 0 8)).toInt ∧ ((V13 0 8)).toInt ≤ 70000 := hMV13 0 8
      refine lv_aload_n hx hb dX12_toldSetting_41 rfl (lv_at hl 1 rfl) ?_
      refine va_get (D := D) (ci := 12) (v := .int (V13 0 8)) (C := RX12) (T := TX12) (N := 100) hx hb hg inX12 hown hK hP 0 rfl rfl 8 (by decide) (hg _ w1714) (fun _ h9 => h9) rfl dX12_toldSetting_42 ?_
      refine lv_if_le (tgt := 49) hx hb dX12_toldSetting_45 (by decide) (fun c23 => ?_) (fun c23 => ?_)
      · skip
        have f24 : ((V13 0 8)).toInt ≤ 0 := b_le rfl (by decide) c23
        refine lv_aload_n hx hb dX12_toldSetting_49 rfl (lv_at hl 1 rfl) ?_
        refine va_get (D := D) (ci := 12) (v := .ref (ad 17)) (C := RX12) (T := TX12) (N := 100) hx hb hg inX12 hown hK hP 0 rfl rfl 17 (by decide) (hg _ w1723) (fun _ h9 => h9) rfl dX12_toldSetting_50 ?_
        refine lv_iload_n hx hb dX12_toldSetting_53 rfl (lv_at hl 0 rfl) ?_
        refine lv_aload_n hx hb dX12_toldSetting_54 rfl (lv_at hl 1 rfl) ?_
        refine gA_long (gA_runV (As := []) (rest := [.int z5, .ref (ad 17)]) (ci := 12) (q0 := 0) hx hb hml hown hg hP hD hK hS hA hnw hgk (s_newNameA l D ks H.size ad kk V13 L (bq) (gn) (gT) ((nx gs 1)) hMV13 rl17) w2039 w2041 w87 w172 w2042 rfl rfl hdV_yX12_newName ⟨Nat.le_of_ble_eq_true rfl, Nat.le_of_ble_eq_true rfl⟩ rfl hl.1 rfl (Nat.le_of_ble_eq_true rfl) dX12_toldSetting_55 ⟨Nat.le_of_ble_eq_true rfl, Nat.le_of_ble_eq_true rfl⟩) hP hD hK hS hA (fun z25 u26 H locs w27 hP hD hK hS => ?_)
        obtain ⟨V29, L30⟩ := u26
        obtain ⟨hMV29, ajV29, axL30, t28⟩ := w27
        have axL30 : L = L30 := Eq.symm axL30
        subst axL30
        have hP : va_P D vwCl (mw ad kk ks.1 V29 L) H := hP
        have hD : va_D A (mw ad kk ks.1 V29 L) := hD
        have hMV29 : rgd bM V29 := hMV29
        have ajV29 : agr [(0, 7), (0, 8)] [] V13 V29 := ajV29
        have agV29 : agr [(0, 7), (0, 8)] [16, 17, 18] V V29 := agV13.tr ajV29 (by decide) (by decide)
        have t28 : KmW (newN (gT) ((nx gs 1))) (V29 0 8).toInt (fun w9 => RelM V29 L (bq) (gn) (gT) (nx ((nx gs 1)) 1) (((nx gs 1)).2.1 2) ∧ isTold ((nx gs 1)) w9 = false ∧ z25 = w9) := t28
        rcases t28 with ⟨q31, wx32, h33, rl34, tn35, hw36⟩ | ⟨q31, h33⟩
        · skip
          have hr37 : ∀ k, Rc gT (Crun gs (Istmt :: k)) (Crun (nx (nx gs 1) 1) (Inum 0 999999999 :: Itake 59 :: IaddSe wx32 :: Istmt :: k)) := fun k => Rc.go1 (hr19 k) (ns_y h33)
          have ps38 : (nx (nx gs 1) 1).1 0 = (nx gs 1).1 0 + 1 := rfl
          have fz39 := RelM.rg rl34
          have r40 : 0 ≤ ((V29 0 8)).toInt ∧ ((V29 0 8)).toInt ≤ 70000 := hMV29 0 8
          refine va_last (D := D) (i := z5) (x := z25) hx hb hK hP hD hS 10 9 rfl rfl (i_in (a := z5.toInt) rfl (by omega)) dX12_toldSetting_58 (fun H locs hP hD hS => ?_)
          obtain ⟨L41, hL41⟩ : ∃ z, z = upL L 17 (Int32.toNatClampNeg z5) z25 := ⟨_, rfl⟩
          have hP : va_P D vwCl (mw ad kk ks.1 V29 L41) H := by rw [hL41]; exact hP
          have hD : va_D A (mw ad kk ks.1 V29 L41) := by rw [hL41]; exact hD
          have alL41 : agL [16, 17, 18] L L41 := agL.up alL hL41 rfl
          have pq43 : (V29 16 bq).toInt = ((V 16 bq)).toInt := congrArg Int32.toInt ((ajV29 16 bq rfl).trans (ajV13 16 bq rfl))
          have r44 : 0 ≤ ((V 16 bq)).toInt ∧ ((V 16 bq)).toInt ≤ 12 := hMV 16 bq
          have e17 : L41 17 (Int32.toNatClampNeg z5) = wx32 := (upL_s hL41).trans hw36
          have r16 : 0 ≤ (V29 16 bq).toInt := (hMV29 16 bq).1
          have rl42 : RelM V29 L41 bq gn gT (nx (nx gs 1) 1) (gs.2.1 2) := RelM.l17 (a := z5) rl34 hL41 (by omega) r16
          refine lv_aload_n hx hb dX12_toldSetting_59 rfl (lv_at hl 1 rfl) ?_
          refine va_get (D := D) (ci := 12) (v := .ref (ad 18)) (C := RX12) (T := TX12) (N := 100) hx hb hg inX12 hown hK hP 0 rfl rfl 18 (by decide) (hg _ w1724) (fun _ h9 => h9) rfl dX12_toldSetting_60 ?_
          refine lv_iload_n hx hb dX12_toldSetting_63 rfl (lv_at hl 0 rfl) ?_
          refine lv_aload_n hx hb dX12_toldSetting_64 rfl (lv_at hl 1 rfl) ?_
          refine lv_iconst (v := 0) hx hb dX12_toldSetting_65 (by decide) ?_
          refine lv_ldcw (v := 999999999) hx hb hown (hg _ w2083) dX12_toldSetting_66 ?_
          have r45 : Int32.toInt 999999999 = 999999999 := by decide
          refine gA_int (gA_runV (As := [.int 0, .int 999999999]) (rest := [.int z5, .ref (ad 18)]) (ci := 12) (q0 := 0) hx hb hml hown hg hP hD hK hS hA hnw hgk (s_takeNumberA l D ks H.size ad kk V29 L41 0 999999999 (bq) (gn) (gT) ((nx (nx gs 1) 1)) ((gs.2.1 2)) hMV29 rl42 (show -1 ≤ (Int32.toInt 999999999) ∧ (Int32.toInt 999999999) ≤ 999999999 from by omega) (show 0 ≤ (Int32.toInt 0) from by omega)) w2084 w2086 w98 w172 w2087 rfl rfl hdV_yX12_takeNumber ⟨Nat.le_of_ble_eq_true rfl, Nat.le_of_ble_eq_true rfl⟩ rfl hl.1 rfl (Nat.le_of_ble_eq_true rfl) dX12_toldSetting_69 ⟨Nat.le_of_ble_eq_true rfl, Nat.le_of_ble_eq_true rfl⟩) hP hD hK hS hA (fun z46 u47 H locs w48 hP hD hK hS => ?_)
          obtain ⟨V52, L53⟩ := u47
          obtain ⟨hMV52, ajV52, axL53, t49, t50, t51⟩ := w48
          have axL53 : L41 = L53 := Eq.symm axL53
          subst axL53
          have hP : va_P D vwCl (mw ad kk ks.1 V52 L41) H := hP
          have hD : va_D A (mw ad kk ks.1 V52 L41) := hD
          have hMV52 : rgd bM V52 := hMV52
          have ajV52 : agr [(0, 7), (0, 8)] [] V29 V52 := ajV52
          have agV52 : agr [(0, 7), (0, 8)] [16, 17, 18] V V52 := agV29.tr ajV52 (by decide) (by decide)
          have t49 : ((V52 0 8).toInt = 0 ∧ (gT).1 (((nx (nx gs 1) 1)).1 0) = 2 ∧ (Int32.toInt 0) ≤ ((gT).2.1 (((nx (nx gs 1) 1)).1 0)).toInt ∧ ((gT).2.1 (((nx (nx gs 1) 1)).1 0)).toInt ≤ (Int32.toInt 999999999) ∧ RelM V52 L41 (bq) (gn) (gT) (nx ((nx (nx gs 1) 1)) 1) ((gs.2.1 2))) ∨ (1 ≤ (V52 0 8).toInt ∧ (((gT).1 (((nx (nx gs 1) 1)).1 0) ≠ 2 ∧ (V52 0 8).toInt = 1 + 16 * (gT).2.2 (((nx (nx gs 1) 1)).1 0)) ∨ ((gT).1 (((nx (nx gs 1) 1)).1 0) = 2 ∧ (((gT).2.1 (((nx (nx gs 1) 1)).1 0)).toInt < (Int32.toInt 0) ∨ (Int32.toInt 999999999) < ((gT).2.1 (((nx (nx gs 1) 1)).1 0)).toInt) ∧ (V52 0 8).toInt = 4 + 16 * (gT).2.2 (((nx (nx gs 1) 1)).1 0)))) := t49
          have t50 : Imp ((V52 0 8).toInt = 0) ((Int32.toInt 0) ≤ z46.toInt ∧ z46.toInt ≤ (Int32.toInt 999999999)) := t50
          have t51 : Imp (1 ≤ (V52 0 8).toInt) (z46.toInt = 0) := t51
          have r54 : 0 ≤ ((V52 0 8)).toInt ∧ ((V52 0 8)).toInt ≤ 70000 := hMV52 0 8
          rcases t49 with ⟨q55, h56, h57, h58, rl59⟩ | ⟨q55, ⟨h56, rl59⟩ | ⟨h56, h57, rl59⟩⟩
          · skip
            have hr60 : ∀ k, Rc gT (Crun gs (Istmt :: k)) (Crun (nx (nx (nx gs 1) 1) 1) (Itake 59 :: IaddSe wx32 :: Istmt :: k)) := fun k => Rc.go1 (hr37 k) (nm_y h56 (by omega) (by omega))
            have ps61 : (nx (nx (nx gs 1) 1) 1).1 0 = (nx (nx gs 1) 1).1 0 + 1 := rfl
            have fz62 := RelM.rg rl59
            have nr63 := Imp.go t50 q55
            refine va_iast (D := D) (i := z5) (x := z46) hx hb hK hP hD hS 11 10 rfl rfl (i_in (a := z5.toInt) rfl (by first | omega | ((try (have i_t51 := Imp.go t51 (by omega))); (try (have i_t50 := Imp.go t50 (by omega))); (try (have i_t50 := Imp.go t50 (by omega))); (try (have i_t51 := Imp.go t51 (by omega))); omega))) dX12_toldSetting_72 (fun H locs hP hD hS => ?_)
            obtain ⟨V64, hV64⟩ : ∃ z, z = up2 V52 18 (Int32.toNatClampNeg z5) z46 := ⟨_, rfl⟩
            have hP : va_P D vwCl (mw ad kk ks.1 V64 L41) H := by rw [hV64]; exact hP
            have hD : va_D A (mw ad kk ks.1 V64 L41) := by rw [hV64]; exact hD
            have hMV64 : rgd bM V64 := hMV52.put hV64 (i_full _)
            have agV64 : agr [(0, 7), (0, 8)] [16, 17, 18] V V64 := agV52.up hV64 rfl
            refine lv_aload_n hx hb dX12_toldSetting_73 rfl (lv_at hl 1 rfl) ?_
            refine lv_bipush (v := 59) hx hb dX12_toldSetting_74 (by decide) ?_
            have rl65 : RelM V64 L41 bq gn gT (nx (nx (nx gs 1) 1) 1) (gs.2.1 2) := RelM.ag rl59 (show agr [] [18] V52 V64 from (agr.up agr.rf hV64 rfl)) (by decide) (show agL [] L41 L41 from agL.rf) (by decide)
            have r66 : Int32.toInt 59 = 59 := by decide
            refine gA_void (gA_runV (As := [.int 59]) (rest := []) (ci := 12) (q0 := 0) hx hb hml hown hg hP hD hK hS hA hnw hgk (s_takeSignA l D ks H.size ad kk V64 L41 59 (bq) (gn) (gT) ((nx (nx (nx gs 1) 1) 1)) ((gs.2.1 2)) hMV64 rl65 (sg_yes (j := 59) (by decide) (by decide) (by decide))) w2075 w2077 w96 w172 w2078 rfl rfl hdV_yX12_takeSign ⟨Nat.le_of_ble_eq_true rfl, Nat.le_of_ble_eq_true rfl⟩ rfl hl.1 rfl (Nat.le_of_ble_eq_true rfl) dX12_toldSetting_76 ⟨Nat.le_of_ble_eq_true rfl, Nat.le_of_ble_eq_true rfl⟩) hP hD hK hS hA (fun u68 H locs w69 hP hD hK hS => ?_)
            obtain ⟨V71, L72⟩ := u68
            obtain ⟨hMV71, ajV71, axL72, t70⟩ := w69
            have axL72 : L41 = L72 := Eq.symm axL72
            subst axL72
            have hP : va_P D vwCl (mw ad kk ks.1 V71 L41) H := hP
            have hD : va_D A (mw ad kk ks.1 V71 L41) := hD
            have hMV71 : rgd bM V71 := hMV71
            have ajV71 : agr [(0, 7), (0, 8)] [] V64 V71 := ajV71
            have agV71 : agr [(0, 7), (0, 8)] [16, 17, 18] V V71 := agV64.tr ajV71 (by decide) (by decide)
            have t70 : ((V71 0 8).toInt = 0 ∧ (gT).1 (((nx (nx (nx gs 1) 1) 1)).1 0) = (Int32.toInt 59) ∧ RelM V71 L41 (bq) (gn) (gT) (nx ((nx (nx (nx gs 1) 1) 1)) 1) ((gs.2.1 2))) ∨ (1 ≤ (V71 0 8).toInt ∧ (gT).1 (((nx (nx (nx gs 1) 1) 1)).1 0) ≠ (Int32.toInt 59) ∧ (V71 0 8).toInt = 1 + 16 * (gT).2.2 (((nx (nx (nx gs 1) 1) 1)).1 0)) := t70
            rcases t70 with ⟨q73, h74, rl75⟩ | ⟨q73, h74, rl75⟩
            · skip
              have kd76 : gT.1 ((nx (nx (nx gs 1) 1) 1).1 0) = 59 := h74.trans (by decide)
              have hr77 : ∀ k, Rc gT (Crun gs (Istmt :: k)) (Crun (nx (nx (nx (nx gs 1) 1) 1) 1) (IaddSe wx32 :: Istmt :: k)) := fun k => Rc.go1 (hr60 k) (tk_y kd76)
              have ps78 : (nx (nx (nx (nx gs 1) 1) 1) 1).1 0 = (nx (nx (nx gs 1) 1) 1).1 0 + 1 := rfl
              have fz79 := RelM.rg rl75
              have r80 : 0 ≤ ((V71 0 8)).toInt ∧ ((V71 0 8)).toInt ≤ 70000 := hMV71 0 8
              refine lv_aload_n hx hb dX12_toldSetting_79 rfl (lv_at hl 1 rfl) ?_
              refine va_get (D := D) (ci := 12) (v := .ref (ad 16)) (C := RX12) (T := TX12) (N := 100) hx hb hg inX12 hown hK hP 0 rfl rfl 16 (by decide) (hg _ w1722) (fun _ h9 => h9) rfl dX12_toldSetting_80 ?_
              refine lv_aload_n hx hb dX12_toldSetting_83 rfl (lv_at hl 1 rfl) ?_
              refine va_get (D := D) (ci := 12) (v := .int (V71 0 12)) (C := RX12) (T := TX12) (N := 100) hx hb hg inX12 hown hK hP 0 rfl rfl 12 (by decide) (hg _ w1718) (fun _ h9 => h9) rfl dX12_toldSetting_84 ?_
              refine g_top (v := (V 0 12)) ((ajV71 0 12 rfl).trans ((up2_o hV64 (by decide)).trans ((ajV52 0 12 rfl).trans ((ajV29 0 12 rfl).trans (ajV13 0 12 rfl))))) ?_
              refine lv_dup2_11 hx hb dX12_toldSetting_87 rfl rfl ?_
              refine va_iald (D := D) (i := (V 0 12)) hx hb hK hP 9 8 rfl rfl (i_in (a := ((V 0 12)).toInt) rfl (by first | omega | ((try (have i_t51 := Imp.go t51 (by omega))); (try (have i_t50 := Imp.go t50 (by omega))); (try (have i_t50 := Imp.go t50 (by omega))); (try (have i_t51 := Imp.go t51 (by omega))); omega))) dX12_toldSetting_88 ?_
              refine g_top (v := (V 16 (Int32.toNatClampNeg (V 0 12)))) ((ajV71 16 (Int32.toNatClampNeg (V 0 12)) rfl).trans ((up2_o hV64 (by decide)).trans ((ajV52 16 (Int32.toNatClampNeg (V 0 12)) rfl).trans ((ajV29 16 (Int32.toNatClampNeg (V 0 12)) rfl).trans (ajV13 16 (Int32.toNatClampNeg (V 0 12)) rfl))))) ?_
              refine lv_iconst (v := 1) hx hb dX12_toldSetting_89 (by decide) ?_
              refine lv_iadd hx hb dX12_toldSetting_90 ?_
              refine lv_topi (fun z81 ez81 => ?_)
              have hz81 : z81.toInt = ((V 16 (Int32.toNatClampNeg (V 0 12)))).toInt + 1 := i_add ez81 rfl (by decide) (by omega)
              refine va_iast (D := D) (i := (V 0 12)) (x := z81) hx hb hK hP hD hS 9 8 rfl rfl (i_in (a := ((V 0 12)).toInt) rfl (by first | omega | ((try (have i_t51 := Imp.go t51 (by omega))); (try (have i_t50 := Imp.go t50 (by omega))); (try (have i_t50 := Imp.go t50 (by omega))); (try (have i_t51 := Imp.go t51 (by omega))); omega))) dX12_toldSetting_91 (fun H locs hP hD hS => ?_)
              obtain ⟨V82, hV82⟩ : ∃ z, z = up2 V71 16 (Int32.toNatClampNeg (V 0 12)) z81 := ⟨_, rfl⟩
              have hP : va_P D vwCl (mw ad kk ks.1 V82 L41) H := by rw [hV82]; exact hP
              have hD : va_D A (mw ad kk ks.1 V82 L41) := by rw [hV82]; exact hD
              have hMV82 : rgd bM V82 := hMV71.put hV82 (show 0 ≤ z81.toInt ∧ z81.toInt ≤ 12 from by first | omega | ((try (have i_t51 := Imp.go t51 (by omega))); (try (have i_t50 := Imp.go t50 (by omega))); (try (have i_t50 := Imp.go t50 (by omega))); (try (have i_t51 := Imp.go t51 (by omega))); omega))
              have agV82 : agr [(0, 7), (0, 8)] [16, 17, 18] V V82 := agV71.up hV82 rfl
              have fn9 : fndI ((nx (nx (nx (nx gs 1) 1) 1) 1).2.1 1) wx32 = none := by rw [((keepS.tr (keepS.tr (keepS.tr (keepS.rf : keepS (nx gs 1) 0 (nx gs 1)) (keepS.n1 1)) (keepS.n1 1)) (keepS.n1 1))).2.2.1 1 (by decide)]; exact (told_i tn35).2.1
              have cq9 : (Int32.toNatClampNeg (V 0 12)) = bq := by have h9 := RelM.cq rl75; have h8 : V71 0 12 = (V 0 12) := ((ajV71 0 12 rfl).trans ((up2_o hV64 (by decide)).trans ((ajV52 0 12 rfl).trans ((ajV29 0 12 rfl).trans (ajV13 0 12 rfl))))); rw [h8] at h9; exact h9
              have hv9 := hV82
              rw [cq9] at hv9
              have pq83 : (V71 16 bq).toInt = ((V 16 bq)).toInt := congrArg Int32.toInt ((ajV71 16 bq rfl).trans ((up2_o hV64 (by decide)).trans ((ajV52 16 bq rfl).trans ((ajV29 16 bq rfl).trans (ajV13 16 bq rfl)))))
              have cv9 : (V71 16 (Int32.toNatClampNeg (V 0 12))).toInt = (V71 16 bq).toInt := by rw [cq9]
              have pq84 : (V71 16 (Int32.toNatClampNeg (V 0 12))).toInt = ((V 16 (Int32.toNatClampNeg (V 0 12)))).toInt := congrArg Int32.toInt ((ajV71 16 (Int32.toNatClampNeg (V 0 12)) rfl).trans ((up2_o hV64 (by decide)).trans ((ajV52 16 (Int32.toNatClampNeg (V 0 12)) rfl).trans ((ajV29 16 (Int32.toNatClampNeg (V 0 12)) rfl).trans (ajV13 16 (Int32.toNatClampNeg (V 0 12)) rfl)))))
              have r29 : RelM V71 L41 bq gn gT (nx (nx (nx (nx gs 1) 1) 1) 1) ((nx (nx (nx (nx gs 1) 1) 1) 1).2.1 2) := by rw [((keepS.tr (keepS.tr (keepS.tr (keepS.tr (keepS.rf : keepS gs 0 gs) (keepS.n1 1)) (keepS.n1 1)) (keepS.n1 1)) (keepS.n1 1))).2.2.1 2 (by decide)]; exact rl75
              have r13 : 0 ≤ (V71 16 bq).toInt := (hMV71 16 bq).1
              have rl85 : RelM V82 L41 bq gn gT (sA (nx (nx (nx (nx gs 1) 1) 1) 1) 1 wx32) ((sA (nx (nx (nx (nx gs 1) 1) 1) 1) 1 wx32).2.1 2) := RelM.a1 (a := z5) r29 fn9 (e17) (by omega) hv9 (by omega) r13 rfl
              have hr86 : ∀ k, Rc gT (Crun gs (Istmt :: k)) (Crun (sA (nx (nx (nx (nx gs 1) 1) 1) 1) 1 wx32) (Istmt :: k)) := fun k => Rc.go1 (hr77 k) (m_addSe wx32)
              have fz87 := RelM.rg rl85
              have pq88 : (V82 0 8).toInt = ((V71 0 8)).toInt := congrArg Int32.toInt (up2_o hV82 (by decide))
              have pq89 : (V82 0 7).toInt = ((V71 0 7)).toInt := congrArg Int32.toInt (up2_o hV82 (by decide))
              have pq90 : (V82 0 48).toInt = ((V 0 48)).toInt := congrArg Int32.toInt ((up2_o hV82 (by decide)).trans ((ajV71 0 48 rfl).trans ((up2_o hV64 (by decide)).trans ((ajV52 0 48 rfl).trans ((ajV29 0 48 rfl).trans (ajV13 0 48 rfl))))))
              have pq91 : (V82 0 12).toInt = ((V 0 12)).toInt := congrArg Int32.toInt ((up2_o hV82 (by decide)).trans ((ajV71 0 12 rfl).trans ((up2_o hV64 (by decide)).trans ((ajV52 0 12 rfl).trans ((ajV29 0 12 rfl).trans (ajV13 0 12 rfl))))))
              have ps92 : gs.1 0 + 1 ≤ (nx gs 1).1 0 := ((keepS.n1 1)).1
              have ps93 : (nx gs 1).1 0 + 1 ≤ (nx (nx gs 1) 1).1 0 := ((keepS.n1 1)).1
              have ps94 : (nx (nx gs 1) 1).1 0 + 1 ≤ (nx (nx (nx gs 1) 1) 1).1 0 := ((keepS.n1 1)).1
              have ps95 : (nx (nx (nx gs 1) 1) 1).1 0 + 1 ≤ (nx (nx (nx (nx gs 1) 1) 1) 1).1 0 := ((keepS.n1 1)).1
              have ps96 : (sA (nx (nx (nx (nx gs 1) 1) 1) 1) 1 wx32).1 0 = (nx (nx (nx (nx gs 1) 1) 1) 1).1 0 := rfl
              have rw97 : RoV 16 bq V V82 := (fun k hk => ((up2_k hV82 (by omega)).trans ((ajV71 16 k rfl).trans ((up2_o hV64 (by decide)).trans ((ajV52 16 k rfl).trans ((ajV29 16 k rfl).trans ((ajV13 16 k rfl).trans rfl)))))))
              have rw98 : RoL 17 12 bq L L41 := (fun k hk => ((upL_k hL41 (by have h9 := i_clamp (x := z5) rfl (by omega); omega)).trans rfl))
              exact W.vret hx hb hr (fun t ht hW => ⟨⟨(V82, L41), rfl, ⟨hMV82, agV82, alL41, (Imp.mk (fun hp => have hp : (V82 0 8).toInt = 0 := hp; (show (V82 0 48).toInt ≤ 2 * (V82 0 7).toInt from by first | omega | ((try (have i_t51 := Imp.go t51 (by omega))); (try (have i_t50 := Imp.go t50 (by omega))); (try (have i_t50 := Imp.go t50 (by omega))); (try (have i_t51 := Imp.go t51 (by omega))); omega)))), (show (V82 0 48).toInt ≤ 8200 from by first | omega | ((try (have i_t51 := Imp.go t51 (by omega))); (try (have i_t50 := Imp.go t50 (by omega))); (try (have i_t50 := Imp.go t50 (by omega))); (try (have i_t51 := Imp.go t51 (by omega))); omega)), (show (V82 0 12).toInt = (V 0 12).toInt from by first | omega | ((try (have i_t51 := Imp.go t51 (by omega))); (try (have i_t50 := Imp.go t50 (by omega))); (try (have i_t50 := Imp.go t50 (by omega))); (try (have i_t51 := Imp.go t51 (by omega))); omega)), (Or.inl ⟨W0 rl85, (sA (nx (nx (nx (nx gs 1) 1) 1) 1) 1 wx32), hr86, rl85, (by omega), (ARm.mv arm ((rfl : (sA (nx (nx (nx (nx gs 1) 1) 1) 1) 1 wx32).2.2.1 = (nx (nx (nx (nx gs 1) 1) 1) 1).2.2.1).trans ((congrArg (fun q9 => q9.1) ((keepS.n1 1)).2.2.2).trans ((congrArg (fun q9 => q9.1) ((keepS.n1 1)).2.2.2).trans ((congrArg (fun q9 => q9.1) ((keepS.n1 1)).2.2.2).trans ((congrArg (fun q9 => q9.1) ((keepS.n1 1)).2.2.2).trans (rfl : gs.2.2.1 = gs.2.2.1)))))))⟩), rw97, rw98⟩, by rw [ht]; exact hP, va_K.moved hW.alike hK, hD⟩, hS.F ht⟩) hS.2.2 dX12_toldSetting_92
            · skip
              have kd99 : gT.1 ((nx (nx (nx gs 1) 1) 1).1 0) ≠ 59 := fun h9 => h74 (h9.trans (by decide))
              have hb100 : ∀ k, Rc gT (Crun gs (Istmt :: k)) (Cbad (V71 0 8).toInt) := fun k => Rc.go1 (hr60 k) ((tk_n kd99).trans (fl_eq rfl rl75))
              have r101 : 0 ≤ ((V71 0 8)).toInt ∧ ((V71 0 8)).toInt ≤ 70000 := hMV71 0 8
              refine lv_aload_n hx hb dX12_toldSetting_79 rfl (lv_at hl 1 rfl) ?_
              refine va_get (D := D) (ci := 12) (v := .ref (ad 16)) (C := RX12) (T := TX12) (N := 100) hx hb hg inX12 hown hK hP 0 rfl rfl 16 (by decide) (hg _ w1722) (fun _ h9 => h9) rfl dX12_toldSetting_80 ?_
              refine lv_aload_n hx hb dX12_toldSetting_83 rfl (lv_at hl 1 rfl) ?_
              refine va_get (D := D) (ci := 12) (v := .int (V71 0 12)) (C := RX12) (T := TX12) (N := 100) hx hb hg inX12 hown hK hP 0 rfl rfl 12 (by decide) (hg _ w1718) (fun _ h9 => h9) rfl dX12_toldSetting_84 ?_
              refine g_top (v := (V 0 12)) ((ajV71 0 12 rfl).trans ((up2_o hV64 (by decide)).trans ((ajV52 0 12 rfl).trans ((ajV29 0 12 rfl).trans (ajV13 0 12 rfl))))) ?_
              refine lv_dup2_11 hx hb dX12_toldSetting_87 rfl rfl ?_
              refine va_iald (D := D) (i := (V 0 12)) hx hb hK hP 9 8 rfl rfl (i_in (a := ((V 0 12)).toInt) rfl (by first | omega | ((try (have i_t51 := Imp.go t51 (by omega))); (try (have i_t50 := Imp.go t50 (by omega))); (try (have i_t50 := Imp.go t50 (by omega))); (try (have i_t51 := Imp.go t51 (by omega))); omega))) dX12_toldSetting_88 ?_
              refine g_top (v := (V 16 (Int32.toNatClampNeg (V 0 12)))) ((ajV71 16 (Int32.toNatClampNeg (V 0 12)) rfl).trans ((up2_o hV64 (by decide)).trans ((ajV52 16 (Int32.toNatClampNeg (V 0 12)) rfl).trans ((ajV29 16 (Int32.toNatClampNeg (V 0 12)) rfl).trans (ajV13 16 (Int32.toNatClampNeg (V 0 12)) rfl))))) ?_
              refine lv_iconst (v := 1) hx hb dX12_toldSetting_89 (by decide) ?_
              refine lv_iadd hx hb dX12_toldSetting_90 ?_
              refine lv_topi (fun z102 ez102 => ?_)
              have hz102 : z102.toInt = ((V 16 (Int32.toNatClampNeg (V 0 12)))).toInt + 1 := i_add ez102 rfl (by decide) (by omega)
              refine va_iast (D := D) (i := (V 0 12)) (x := z102) hx hb hK hP hD hS 9 8 rfl rfl (i_in (a := ((V 0 12)).toInt) rfl (by first | omega | ((try (have i_t51 := Imp.go t51 (by omega))); (try (have i_t50 := Imp.go t50 (by omega))); (try (have i_t50 := Imp.go t50 (by omega))); (try (have i_t51 := Imp.go t51 (by omega))); omega))) dX12_toldSetting_91 (fun H locs hP hD hS => ?_)
              obtain ⟨V103, hV103⟩ : ∃ z, z = up2 V71 16 (Int32.toNatClampNeg (V 0 12)) z102 := ⟨_, rfl⟩
              have hP : va_P D vwCl (mw ad kk ks.1 V103 L41) H := by rw [hV103]; exact hP
              have hD : va_D A (mw ad kk ks.1 V103 L41) := by rw [hV103]; exact hD
              have hMV103 : rgd bM V103 := hMV71.put hV103 (show 0 ≤ z102.toInt ∧ z102.toInt ≤ 12 from by first | omega | ((try (have i_t51 := Imp.go t51 (by omega))); (try (have i_t50 := Imp.go t50 (by omega))); (try (have i_t50 := Imp.go t50 (by omega))); (try (have i_t51 := Imp.go t51 (by omega))); omega))
              have agV103 : agr [(0, 7), (0, 8)] [16, 17, 18] V V103 := agV71.up hV103 rfl
              have pq104 : (V103 0 7).toInt = ((V71 0 7)).toInt := congrArg Int32.toInt (up2_o hV103 (by decide))
              have pq105 : (V103 0 48).toInt = ((V 0 48)).toInt := congrArg Int32.toInt ((up2_o hV103 (by decide)).trans ((ajV71 0 48 rfl).trans ((up2_o hV64 (by decide)).trans ((ajV52 0 48 rfl).trans ((ajV29 0 48 rfl).trans (ajV13 0 48 rfl))))))
              have pq106 : (V103 0 8).toInt = ((V71 0 8)).toInt := congrArg Int32.toInt (up2_o hV103 (by decide))
              have pq107 : (V103 0 12).toInt = ((V 0 12)).toInt := congrArg Int32.toInt ((up2_o hV103 (by decide)).trans ((ajV71 0 12 rfl).trans ((up2_o hV64 (by decide)).trans ((ajV52 0 12 rfl).trans ((ajV29 0 12 rfl).trans (ajV13 0 12 rfl))))))
              have rw108 : RoV 16 bq V V103 := (fun k hk => ((up2_k hV103 (by omega)).trans ((ajV71 16 k rfl).trans ((up2_o hV64 (by decide)).trans ((ajV52 16 k rfl).trans ((ajV29 16 k rfl).trans ((ajV13 16 k rfl).trans rfl)))))))
              have rw109 : RoL 17 12 bq L L41 := (fun k hk => ((upL_k hL41 (by have h9 := i_clamp (x := z5) rfl (by omega); omega)).trans rfl))
              exact W.vret hx hb hr (fun t ht hW => ⟨⟨(V103, L41), rfl, ⟨hMV103, agV103, alL41, (Imp.mk (fun hp => have hp : (V103 0 8).toInt = 0 := hp; (show (V103 0 48).toInt ≤ 2 * (V103 0 7).toInt from by first | omega | ((try (have i_t51 := Imp.go t51 (by omega))); (try (have i_t50 := Imp.go t50 (by omega))); (try (have i_t50 := Imp.go t50 (by omega))); (try (have i_t51 := Imp.go t51 (by omega))); omega)))), (show (V103 0 48).toInt ≤ 8200 from by first | omega | ((try (have i_t51 := Imp.go t51 (by omega))); (try (have i_t50 := Imp.go t50 (by omega))); (try (have i_t50 := Imp.go t50 (by omega))); (try (have i_t51 := Imp.go t51 (by omega))); omega)), (show (V103 0 12).toInt = (V 0 12).toInt from by first | omega | ((try (have i_t51 := Imp.go t51 (by omega))); (try (have i_t50 := Imp.go t50 (by omega))); (try (have i_t50 := Imp.go t50 (by omega))); (try (have i_t51 := Imp.go t51 (by omega))); omega)), (Or.inr ⟨(show 1 ≤ (V103 0 8).toInt from by omega), (fun k => by rw [show (V103 0 8).toInt = (V71 0 8).toInt from by omega]; exact hb100 k)⟩), rw108, rw109⟩, by rw [ht]; exact hP, va_K.moved hW.alike hK, hD⟩, hS.F ht⟩) hS.2.2 dX12_toldSetting_92
          · skip
            have hb110 : ∀ k, Rc gT (Crun gs (Istmt :: k)) (Cbad (V52 0 8).toInt) := fun k => Rc.go1 (hr37 k) ((nm_1 h56).trans (fl_eq rfl rl59))
            have nr111 := Imp.go t51 q55
            refine va_iast (D := D) (i := z5) (x := z46) hx hb hK hP hD hS 11 10 rfl rfl (i_in (a := z5.toInt) rfl (by first | omega | ((try (have i_t51 := Imp.go t51 (by omega))); (try (have i_t50 := Imp.go t50 (by omega))); (try (have i_t50 := Imp.go t50 (by omega))); (try (have i_t51 := Imp.go t51 (by omega))); omega))) dX12_toldSetting_72 (fun H locs hP hD hS => ?_)
            obtain ⟨V112, hV112⟩ : ∃ z, z = up2 V52 18 (Int32.toNatClampNeg z5) z46 := ⟨_, rfl⟩
            have hP : va_P D vwCl (mw ad kk ks.1 V112 L41) H := by rw [hV112]; exact hP
            have hD : va_D A (mw ad kk ks.1 V112 L41) := by rw [hV112]; exact hD
            have hMV112 : rgd bM V112 := hMV52.put hV112 (i_full _)
            have agV112 : agr [(0, 7), (0, 8)] [16, 17, 18] V V112 := agV52.up hV112 rfl
            refine lv_aload_n hx hb dX12_toldSetting_73 rfl (lv_at hl 1 rfl) ?_
            refine lv_bipush (v := 59) hx hb dX12_toldSetting_74 (by decide) ?_
            have r113 : Int32.toInt 59 = 59 := by decide
            have pq114 : (V112 0 8).toInt = ((V52 0 8)).toInt := congrArg Int32.toInt (up2_o hV112 (by decide))
            refine gA_void (gA_runV (As := [.int 59]) (rest := []) (ci := 12) (q0 := 0) hx hb hml hown hg hP hD hK hS hA hnw hgk (s_takeSignB l D ks H.size ad kk V112 L41 59 hMV112 (show 1 ≤ (V112 0 8).toInt from by first | omega | ((try (have i_t51 := Imp.go t51 (by omega))); (try (have i_t50 := Imp.go t50 (by omega))); (try (have i_t50 := Imp.go t50 (by omega))); (try (have i_t51 := Imp.go t51 (by omega))); omega))) w2075 w2077 w96 w172 w2078 rfl rfl hdV_yX12_takeSign ⟨Nat.le_of_ble_eq_true rfl, Nat.le_of_ble_eq_true rfl⟩ rfl hl.1 rfl (Nat.le_of_ble_eq_true rfl) dX12_toldSetting_76 ⟨Nat.le_of_ble_eq_true rfl, Nat.le_of_ble_eq_true rfl⟩) hP hD hK hS hA (fun u116 H locs w117 hP hD hK hS => ?_)
            obtain ⟨V119, L120⟩ := u116
            obtain ⟨hMV119, ajV119, axL120, t118⟩ := w117
            have axL120 : L41 = L120 := Eq.symm axL120
            subst axL120
            have hP : va_P D vwCl (mw ad kk ks.1 V119 L41) H := hP
            have hD : va_D A (mw ad kk ks.1 V119 L41) := hD
            have hMV119 : rgd bM V119 := hMV119
            have ajV119 : agr [(0, 7), (0, 8)] [] V112 V119 := ajV119
            have agV119 : agr [(0, 7), (0, 8)] [16, 17, 18] V V119 := agV112.tr ajV119 (by decide) (by decide)
            have t118 : (V119 0 8).toInt = (V112 0 8).toInt := t118
            have r121 : 0 ≤ ((V119 0 8)).toInt ∧ ((V119 0 8)).toInt ≤ 70000 := hMV119 0 8
            refine lv_aload_n hx hb dX12_toldSetting_79 rfl (lv_at hl 1 rfl) ?_
            refine va_get (D := D) (ci := 12) (v := .ref (ad 16)) (C := RX12) (T := TX12) (N := 100) hx hb hg inX12 hown hK hP 0 rfl rfl 16 (by decide) (hg _ w1722) (fun _ h9 => h9) rfl dX12_toldSetting_80 ?_
            refine lv_aload_n hx hb dX12_toldSetting_83 rfl (lv_at hl 1 rfl) ?_
            refine va_get (D := D) (ci := 12) (v := .int (V119 0 12)) (C := RX12) (T := TX12) (N := 100) hx hb hg inX12 hown hK hP 0 rfl rfl 12 (by decide) (hg _ w1718) (fun _ h9 => h9) rfl dX12_toldSetting_84 ?_
            refine g_top (v := (V 0 12)) ((ajV119 0 12 rfl).trans ((up2_o hV112 (by decide)).trans ((ajV52 0 12 rfl).trans ((ajV29 0 12 rfl).trans (ajV13 0 12 rfl))))) ?_
            refine lv_dup2_11 hx hb dX12_toldSetting_87 rfl rfl ?_
            refine va_iald (D := D) (i := (V 0 12)) hx hb hK hP 9 8 rfl rfl (i_in (a := ((V 0 12)).toInt) rfl (by first | omega | ((try (have i_t51 := Imp.go t51 (by omega))); (try (have i_t50 := Imp.go t50 (by omega))); (try (have i_t50 := Imp.go t50 (by omega))); (try (have i_t51 := Imp.go t51 (by omega))); omega))) dX12_toldSetting_88 ?_
            refine g_top (v := (V 16 (Int32.toNatClampNeg (V 0 12)))) ((ajV119 16 (Int32.toNatClampNeg (V 0 12)) rfl).trans ((up2_o hV112 (by decide)).trans ((ajV52 16 (Int32.toNatClampNeg (V 0 12)) rfl).trans ((ajV29 16 (Int32.toNatClampNeg (V 0 12)) rfl).trans (ajV13 16 (Int32.toNatClampNeg (V 0 12)) rfl))))) ?_
            refine lv_iconst (v := 1) hx hb dX12_toldSetting_89 (by decide) ?_
            refine lv_iadd hx hb dX12_toldSetting_90 ?_
            refine lv_topi (fun z122 ez122 => ?_)
            have hz122 : z122.toInt = ((V 16 (Int32.toNatClampNeg (V 0 12)))).toInt + 1 := i_add ez122 rfl (by decide) (by omega)
            refine va_iast (D := D) (i := (V 0 12)) (x := z122) hx hb hK hP hD hS 9 8 rfl rfl (i_in (a := ((V 0 12)).toInt) rfl (by first | omega | ((try (have i_t51 := Imp.go t51 (by omega))); (try (have i_t50 := Imp.go t50 (by omega))); (try (have i_t50 := Imp.go t50 (by omega))); (try (have i_t51 := Imp.go t51 (by omega))); omega))) dX12_toldSetting_91 (fun H locs hP hD hS => ?_)
            obtain ⟨V123, hV123⟩ : ∃ z, z = up2 V119 16 (Int32.toNatClampNeg (V 0 12)) z122 := ⟨_, rfl⟩
            have hP : va_P D vwCl (mw ad kk ks.1 V123 L41) H := by rw [hV123]; exact hP
            have hD : va_D A (mw ad kk ks.1 V123 L41) := by rw [hV123]; exact hD
            have hMV123 : rgd bM V123 := hMV119.put hV123 (show 0 ≤ z122.toInt ∧ z122.toInt ≤ 12 from by first | omega | ((try (have i_t51 := Imp.go t51 (by omega))); (try (have i_t50 := Imp.go t50 (by omega))); (try (have i_t50 := Imp.go t50 (by omega))); (try (have i_t51 := Imp.go t51 (by omega))); omega))
            have agV123 : agr [(0, 7), (0, 8)] [16, 17, 18] V V123 := agV119.up hV123 rfl
            have pq124 : (V123 0 7).toInt = ((V119 0 7)).toInt := congrArg Int32.toInt (up2_o hV123 (by decide))
            have pq125 : (V123 0 48).toInt = ((V 0 48)).toInt := congrArg Int32.toInt ((up2_o hV123 (by decide)).trans ((ajV119 0 48 rfl).trans ((up2_o hV112 (by decide)).trans ((ajV52 0 48 rfl).trans ((ajV29 0 48 rfl).trans (ajV13 0 48 rfl))))))
            have pq126 : (V123 0 8).toInt = ((V119 0 8)).toInt := congrArg Int32.toInt (up2_o hV123 (by decide))
            have pq127 : (V123 0 12).toInt = ((V 0 12)).toInt := congrArg Int32.toInt ((up2_o hV123 (by decide)).trans ((ajV119 0 12 rfl).trans ((up2_o hV112 (by decide)).trans ((ajV52 0 12 rfl).trans ((ajV29 0 12 rfl).trans (ajV13 0 12 rfl))))))
            have rw128 : RoV 16 bq V V123 := (fun k hk => ((up2_k hV123 (by omega)).trans ((ajV119 16 k rfl).trans ((up2_o hV112 (by decide)).trans ((ajV52 16 k rfl).trans ((ajV29 16 k rfl).trans ((ajV13 16 k rfl).trans rfl)))))))
            have rw129 : RoL 17 12 bq L L41 := (fun k hk => ((upL_k hL41 (by have h9 := i_clamp (x := z5) rfl (by omega); omega)).trans rfl))
            exact W.vret hx hb hr (fun t ht hW => ⟨⟨(V123, L41), rfl, ⟨hMV123, agV123, alL41, (Imp.mk (fun hp => have hp : (V123 0 8).toInt = 0 := hp; (show (V123 0 48).toInt ≤ 2 * (V123 0 7).toInt from by first | omega | ((try (have i_t51 := Imp.go t51 (by omega))); (try (have i_t50 := Imp.go t50 (by omega))); (try (have i_t50 := Imp.go t50 (by omega))); (try (have i_t51 := Imp.go t51 (by omega))); omega)))), (show (V123 0 48).toInt ≤ 8200 from by first | omega | ((try (have i_t51 := Imp.go t51 (by omega))); (try (have i_t50 := Imp.go t50 (by omega))); (try (have i_t50 := Imp.go t50 (by omega))); (try (have i_t51 := Imp.go t51 (by omega))); omega)), (show (V123 0 12).toInt = (V 0 12).toInt from by first | omega | ((try (have i_t51 := Imp.go t51 (by omega))); (try (have i_t50 := Imp.go t50 (by omega))); (try (have i_t50 := Imp.go t50 (by omega))); (try (have i_t51 := Imp.go t51 (by omega))); omega)), (Or.inr ⟨(show 1 ≤ (V123 0 8).toInt from by omega), (fun k => by rw [show (V123 0 8).toInt = (V52 0 8).toInt from by omega]; exact hb110 k)⟩), rw128, rw129⟩, by rw [ht]; exact hP, va_K.moved hW.alike hK, hD⟩, hS.F ht⟩) hS.2.2 dX12_toldSetting_92
          · skip
            have hb130 : ∀ k, Rc gT (Crun gs (Istmt :: k)) (Cbad (V52 0 8).toInt) := fun k => Rc.go1 (hr37 k) ((nm_4 h56 (by omega)).trans (fl_eq rfl rl59))
            have nr131 := Imp.go t51 q55
            refine va_iast (D := D) (i := z5) (x := z46) hx hb hK hP hD hS 11 10 rfl rfl (i_in (a := z5.toInt) rfl (by first | omega | ((try (have i_t51 := Imp.go t51 (by omega))); (try (have i_t50 := Imp.go t50 (by omega))); (try (have i_t50 := Imp.go t50 (by omega))); (try (have i_t51 := Imp.go t51 (by omega))); omega))) dX12_toldSetting_72 (fun H locs hP hD hS => ?_)
            obtain ⟨V132, hV132⟩ : ∃ z, z = up2 V52 18 (Int32.toNatClampNeg z5) z46 := ⟨_, rfl⟩
            have hP : va_P D vwCl (mw ad kk ks.1 V132 L41) H := by rw [hV132]; exact hP
            have hD : va_D A (mw ad kk ks.1 V132 L41) := by rw [hV132]; exact hD
            have hMV132 : rgd bM V132 := hMV52.put hV132 (i_full _)
            have agV132 : agr [(0, 7), (0, 8)] [16, 17, 18] V V132 := agV52.up hV132 rfl
            refine lv_aload_n hx hb dX12_toldSetting_73 rfl (lv_at hl 1 rfl) ?_
            refine lv_bipush (v := 59) hx hb dX12_toldSetting_74 (by decide) ?_
            have r133 : Int32.toInt 59 = 59 := by decide
            have pq134 : (V132 0 8).toInt = ((V52 0 8)).toInt := congrArg Int32.toInt (up2_o hV132 (by decide))
            refine gA_void (gA_runV (As := [.int 59]) (rest := []) (ci := 12) (q0 := 0) hx hb hml hown hg hP hD hK hS hA hnw hgk (s_takeSignB l D ks H.size ad kk V132 L41 59 hMV132 (show 1 ≤ (V132 0 8).toInt from by first | omega | ((try (have i_t51 := Imp.go t51 (by omega))); (try (have i_t50 := Imp.go t50 (by omega))); (try (have i_t50 := Imp.go t50 (by omega))); (try (have i_t51 := Imp.go t51 (by omega))); omega))) w2075 w2077 w96 w172 w2078 rfl rfl hdV_yX12_takeSign ⟨Nat.le_of_ble_eq_true rfl, Nat.le_of_ble_eq_true rfl⟩ rfl hl.1 rfl (Nat.le_of_ble_eq_true rfl) dX12_toldSetting_76 ⟨Nat.le_of_ble_eq_true rfl, Nat.le_of_ble_eq_true rfl⟩) hP hD hK hS hA (fun u136 H locs w137 hP hD hK hS => ?_)
            obtain ⟨V139, L140⟩ := u136
            obtain ⟨hMV139, ajV139, axL140, t138⟩ := w137
            have axL140 : L41 = L140 := Eq.symm axL140
            subst axL140
            have hP : va_P D vwCl (mw ad kk ks.1 V139 L41) H := hP
            have hD : va_D A (mw ad kk ks.1 V139 L41) := hD
            have hMV139 : rgd bM V139 := hMV139
            have ajV139 : agr [(0, 7), (0, 8)] [] V132 V139 := ajV139
            have agV139 : agr [(0, 7), (0, 8)] [16, 17, 18] V V139 := agV132.tr ajV139 (by decide) (by decide)
            have t138 : (V139 0 8).toInt = (V132 0 8).toInt := t138
            have r141 : 0 ≤ ((V139 0 8)).toInt ∧ ((V139 0 8)).toInt ≤ 70000 := hMV139 0 8
            refine lv_aload_n hx hb dX12_toldSetting_79 rfl (lv_at hl 1 rfl) ?_
            refine va_get (D := D) (ci := 12) (v := .ref (ad 16)) (C := RX12) (T := TX12) (N := 100) hx hb hg inX12 hown hK hP 0 rfl rfl 16 (by decide) (hg _ w1722) (fun _ h9 => h9) rfl dX12_toldSetting_80 ?_
            refine lv_aload_n hx hb dX12_toldSetting_83 rfl (lv_at hl 1 rfl) ?_
            refine va_get (D := D) (ci := 12) (v := .int (V139 0 12)) (C := RX12) (T := TX12) (N := 100) hx hb hg inX12 hown hK hP 0 rfl rfl 12 (by decide) (hg _ w1718) (fun _ h9 => h9) rfl dX12_toldSetting_84 ?_
            refine g_top (v := (V 0 12)) ((ajV139 0 12 rfl).trans ((up2_o hV132 (by decide)).trans ((ajV52 0 12 rfl).trans ((ajV29 0 12 rfl).trans (ajV13 0 12 rfl))))) ?_
            refine lv_dup2_11 hx hb dX12_toldSetting_87 rfl rfl ?_
            refine va_iald (D := D) (i := (V 0 12)) hx hb hK hP 9 8 rfl rfl (i_in (a := ((V 0 12)).toInt) rfl (by first | omega | ((try (have i_t51 := Imp.go t51 (by omega))); (try (have i_t50 := Imp.go t50 (by omega))); (try (have i_t50 := Imp.go t50 (by omega))); (try (have i_t51 := Imp.go t51 (by omega))); omega))) dX12_toldSetting_88 ?_
            refine g_top (v := (V 16 (Int32.toNatClampNeg (V 0 12)))) ((ajV139 16 (Int32.toNatClampNeg (V 0 12)) rfl).trans ((up2_o hV132 (by decide)).trans ((ajV52 16 (Int32.toNatClampNeg (V 0 12)) rfl).trans ((ajV29 16 (Int32.toNatClampNeg (V 0 12)) rfl).trans (ajV13 16 (Int32.toNatClampNeg (V 0 12)) rfl))))) ?_
            refine lv_iconst (v := 1) hx hb dX12_toldSetting_89 (by decide) ?_
            refine lv_iadd hx hb dX12_toldSetting_90 ?_
            refine lv_topi (fun z142 ez142 => ?_)
            have hz142 : z142.toInt = ((V 16 (Int32.toNatClampNeg (V 0 12)))).toInt + 1 := i_add ez142 rfl (by decide) (by omega)
            refine va_iast (D := D) (i := (V 0 12)) (x := z142) hx hb hK hP hD hS 9 8 rfl rfl (i_in (a := ((V 0 12)).toInt) rfl (by first | omega | ((try (have i_t51 := Imp.go t51 (by omega))); (try (have i_t50 := Imp.go t50 (by omega))); (try (have i_t50 := Imp.go t50 (by omega))); (try (have i_t51 := Imp.go t51 (by omega))); omega))) dX12_toldSetting_91 (fun H locs hP hD hS => ?_)
            obtain ⟨V143, hV143⟩ : ∃ z, z = up2 V139 16 (Int32.toNatClampNeg (V 0 12)) z142 := ⟨_, rfl⟩
            have hP : va_P D vwCl (mw ad kk ks.1 V143 L41) H := by rw [hV143]; exact hP
            have hD : va_D A (mw ad kk ks.1 V143 L41) := by rw [hV143]; exact hD
            have hMV143 : rgd bM V143 := hMV139.put hV143 (show 0 ≤ z142.toInt ∧ z142.toInt ≤ 12 from by first | omega | ((try (have i_t51 := Imp.go t51 (by omega))); (try (have i_t50 := Imp.go t50 (by omega))); (try (have i_t50 := Imp.go t50 (by omega))); (try (have i_t51 := Imp.go t51 (by omega))); omega))
            have agV143 : agr [(0, 7), (0, 8)] [16, 17, 18] V V143 := agV139.up hV143 rfl
            have pq144 : (V143 0 7).toInt = ((V139 0 7)).toInt := congrArg Int32.toInt (up2_o hV143 (by decide))
            have pq145 : (V143 0 48).toInt = ((V 0 48)).toInt := congrArg Int32.toInt ((up2_o hV143 (by decide)).trans ((ajV139 0 48 rfl).trans ((up2_o hV132 (by decide)).trans ((ajV52 0 48 rfl).trans ((ajV29 0 48 rfl).trans (ajV13 0 48 rfl))))))
            have pq146 : (V143 0 8).toInt = ((V139 0 8)).toInt := congrArg Int32.toInt (up2_o hV143 (by decide))
            have pq147 : (V143 0 12).toInt = ((V 0 12)).toInt := congrArg Int32.toInt ((up2_o hV143 (by decide)).trans ((ajV139 0 12 rfl).trans ((up2_o hV132 (by decide)).trans ((ajV52 0 12 rfl).trans ((ajV29 0 12 rfl).trans (ajV13 0 12 rfl))))))
            have rw148 : RoV 16 bq V V143 := (fun k hk => ((up2_k hV143 (by omega)).trans ((ajV139 16 k rfl).trans ((up2_o hV132 (by decide)).trans ((ajV52 16 k rfl).trans ((ajV29 16 k rfl).trans ((ajV13 16 k rfl).trans rfl)))))))
            have rw149 : RoL 17 12 bq L L41 := (fun k hk => ((upL_k hL41 (by have h9 := i_clamp (x := z5) rfl (by omega); omega)).trans rfl))
            exact W.vret hx hb hr (fun t ht hW => ⟨⟨(V143, L41), rfl, ⟨hMV143, agV143, alL41, (Imp.mk (fun hp => have hp : (V143 0 8).toInt = 0 := hp; (show (V143 0 48).toInt ≤ 2 * (V143 0 7).toInt from by first | omega | ((try (have i_t51 := Imp.go t51 (by omega))); (try (have i_t50 := Imp.go t50 (by omega))); (try (have i_t50 := Imp.go t50 (by omega))); (try (have i_t51 := Imp.go t51 (by omega))); omega)))), (show (V143 0 48).toInt ≤ 8200 from by first | omega | ((try (have i_t51 := Imp.go t51 (by omega))); (try (have i_t50 := Imp.go t50 (by omega))); (try (have i_t50 := Imp.go t50 (by omega))); (try (have i_t51 := Imp.go t51 (by omega))); omega)), (show (V143 0 12).toInt = (V 0 12).toInt from by first | omega | ((try (have i_t51 := Imp.go t51 (by omega))); (try (have i_t50 := Imp.go t50 (by omega))); (try (have i_t50 := Imp.go t50 (by omega))); (try (have i_t51 := Imp.go t51 (by omega))); omega)), (Or.inr ⟨(show 1 ≤ (V143 0 8).toInt from by omega), (fun k => by rw [show (V143 0 8).toInt = (V52 0 8).toInt from by omega]; exact hb130 k)⟩), rw148, rw149⟩, by rw [ht]; exact hP, va_K.moved hW.alike hK, hD⟩, hS.F ht⟩) hS.2.2 dX12_toldSetting_92
        · skip
          have hb150 : ∀ k, Rc gT (Crun gs (Istmt :: k)) (Cbad (V29 0 8).toInt) := fun k => Rc.go1 (hr19 k) (ns_b h33)
          have r151 : 0 ≤ ((V29 0 8)).toInt ∧ ((V29 0 8)).toInt ≤ 70000 := hMV29 0 8
          refine va_last (D := D) (i := z5) (x := z25) hx hb hK hP hD hS 10 9 rfl rfl (i_in (a := z5.toInt) rfl (by omega)) dX12_toldSetting_58 (fun H locs hP hD hS => ?_)
          obtain ⟨L152, hL152⟩ : ∃ z, z = upL L 17 (Int32.toNatClampNeg z5) z25 := ⟨_, rfl⟩
          have hP : va_P D vwCl (mw ad kk ks.1 V29 L152) H := by rw [hL152]; exact hP
          have hD : va_D A (mw ad kk ks.1 V29 L152) := by rw [hL152]; exact hD
          have alL152 : agL [16, 17, 18] L L152 := agL.up alL hL152 rfl
          refine lv_aload_n hx hb dX12_toldSetting_59 rfl (lv_at hl 1 rfl) ?_
          refine va_get (D := D) (ci := 12) (v := .ref (ad 18)) (C := RX12) (T := TX12) (N := 100) hx hb hg inX12 hown hK hP 0 rfl rfl 18 (by decide) (hg _ w1724) (fun _ h9 => h9) rfl dX12_toldSetting_60 ?_
          refine lv_iload_n hx hb dX12_toldSetting_63 rfl (lv_at hl 0 rfl) ?_
          refine lv_aload_n hx hb dX12_toldSetting_64 rfl (lv_at hl 1 rfl) ?_
          refine lv_iconst (v := 0) hx hb dX12_toldSetting_65 (by decide) ?_
          refine lv_ldcw (v := 999999999) hx hb hown (hg _ w2083) dX12_toldSetting_66 ?_
          have r153 : Int32.toInt 999999999 = 999999999 := by decide
          refine gA_int (gA_runV (As := [.int 0, .int 999999999]) (rest := [.int z5, .ref (ad 18)]) (ci := 12) (q0 := 0) hx hb hml hown hg hP hD hK hS hA hnw hgk (s_takeNumberB l D ks H.size ad kk V29 L152 0 999999999 hMV29 (show 1 ≤ (V29 0 8).toInt from by omega)) w2084 w2086 w98 w172 w2087 rfl rfl hdV_yX12_takeNumber ⟨Nat.le_of_ble_eq_true rfl, Nat.le_of_ble_eq_true rfl⟩ rfl hl.1 rfl (Nat.le_of_ble_eq_true rfl) dX12_toldSetting_69 ⟨Nat.le_of_ble_eq_true rfl, Nat.le_of_ble_eq_true rfl⟩) hP hD hK hS hA (fun z154 u155 H locs w156 hP hD hK hS => ?_)
          obtain ⟨V158, L159⟩ := u155
          obtain ⟨hMV158, ajV158, axL159, rgz154, t157⟩ := w156
          have axL159 : L152 = L159 := Eq.symm axL159
          subst axL159
          have hP : va_P D vwCl (mw ad kk ks.1 V158 L152) H := hP
          have hD : va_D A (mw ad kk ks.1 V158 L152) := hD
          have hMV158 : rgd bM V158 := hMV158
          have ajV158 : agr [(0, 7), (0, 8)] [] V29 V158 := ajV158
          have agV158 : agr [(0, 7), (0, 8)] [16, 17, 18] V V158 := agV29.tr ajV158 (by decide) (by decide)
          have rgz154 : 0 ≤ z154.toInt ∧ z154.toInt ≤ 0 := rgz154
          have t157 : (V158 0 8).toInt = (V29 0 8).toInt := t157
          have r160 : 0 ≤ ((V158 0 8)).toInt ∧ ((V158 0 8)).toInt ≤ 70000 := hMV158 0 8
          refine va_iast (D := D) (i := z5) (x := z154) hx hb hK hP hD hS 11 10 rfl rfl (i_in (a := z5.toInt) rfl (by omega)) dX12_toldSetting_72 (fun H locs hP hD hS => ?_)
          obtain ⟨V161, hV161⟩ : ∃ z, z = up2 V158 18 (Int32.toNatClampNeg z5) z154 := ⟨_, rfl⟩
          have hP : va_P D vwCl (mw ad kk ks.1 V161 L152) H := by rw [hV161]; exact hP
          have hD : va_D A (mw ad kk ks.1 V161 L152) := by rw [hV161]; exact hD
          have hMV161 : rgd bM V161 := hMV158.put hV161 (i_full _)
          have agV161 : agr [(0, 7), (0, 8)] [16, 17, 18] V V161 := agV158.up hV161 rfl
          refine lv_aload_n hx hb dX12_toldSetting_73 rfl (lv_at hl 1 rfl) ?_
          refine lv_bipush (v := 59) hx hb dX12_toldSetting_74 (by decide) ?_
          have r162 : Int32.toInt 59 = 59 := by decide
          have pq163 : (V161 0 8).toInt = ((V158 0 8)).toInt := congrArg Int32.toInt (up2_o hV161 (by decide))
          refine gA_void (gA_runV (As := [.int 59]) (rest := []) (ci := 12) (q0 := 0) hx hb hml hown hg hP hD hK hS hA hnw hgk (s_takeSignB l D ks H.size ad kk V161 L152 59 hMV161 (show 1 ≤ (V161 0 8).toInt from by omega)) w2075 w2077 w96 w172 w2078 rfl rfl hdV_yX12_takeSign ⟨Nat.le_of_ble_eq_true rfl, Nat.le_of_ble_eq_true rfl⟩ rfl hl.1 rfl (Nat.le_of_ble_eq_true rfl) dX12_toldSetting_76 ⟨Nat.le_of_ble_eq_true rfl, Nat.le_of_ble_eq_true rfl⟩) hP hD hK hS hA (fun u165 H locs w166 hP hD hK hS => ?_)
          obtain ⟨V168, L169⟩ := u165
          obtain ⟨hMV168, ajV168, axL169, t167⟩ := w166
          have axL169 : L152 = L169 := Eq.symm axL169
          subst axL169
          have hP : va_P D vwCl (mw ad kk ks.1 V168 L152) H := hP
          have hD : va_D A (mw ad kk ks.1 V168 L152) := hD
          have hMV168 : rgd bM V168 := hMV168
          have ajV168 : agr [(0, 7), (0, 8)] [] V161 V168 := ajV168
          have agV168 : agr [(0, 7), (0, 8)] [16, 17, 18] V V168 := agV161.tr ajV168 (by decide) (by decide)
          have t167 : (V168 0 8).toInt = (V161 0 8).toInt := t167
          have r170 : 0 ≤ ((V168 0 8)).toInt ∧ ((V168 0 8)).toInt ≤ 70000 := hMV168 0 8
          refine lv_aload_n hx hb dX12_toldSetting_79 rfl (lv_at hl 1 rfl) ?_
          refine va_get (D := D) (ci := 12) (v := .ref (ad 16)) (C := RX12) (T := TX12) (N := 100) hx hb hg inX12 hown hK hP 0 rfl rfl 16 (by decide) (hg _ w1722) (fun _ h9 => h9) rfl dX12_toldSetting_80 ?_
          refine lv_aload_n hx hb dX12_toldSetting_83 rfl (lv_at hl 1 rfl) ?_
          refine va_get (D := D) (ci := 12) (v := .int (V168 0 12)) (C := RX12) (T := TX12) (N := 100) hx hb hg inX12 hown hK hP 0 rfl rfl 12 (by decide) (hg _ w1718) (fun _ h9 => h9) rfl dX12_toldSetting_84 ?_
          refine g_top (v := (V 0 12)) ((ajV168 0 12 rfl).trans ((up2_o hV161 (by decide)).trans ((ajV158 0 12 rfl).trans ((ajV29 0 12 rfl).trans (ajV13 0 12 rfl))))) ?_
          refine lv_dup2_11 hx hb dX12_toldSetting_87 rfl rfl ?_
          refine va_iald (D := D) (i := (V 0 12)) hx hb hK hP 9 8 rfl rfl (i_in (a := ((V 0 12)).toInt) rfl (by omega)) dX12_toldSetting_88 ?_
          refine g_top (v := (V 16 (Int32.toNatClampNeg (V 0 12)))) ((ajV168 16 (Int32.toNatClampNeg (V 0 12)) rfl).trans ((up2_o hV161 (by decide)).trans ((ajV158 16 (Int32.toNatClampNeg (V 0 12)) rfl).trans ((ajV29 16 (Int32.toNatClampNeg (V 0 12)) rfl).trans (ajV13 16 (Int32.toNatClampNeg (V 0 12)) rfl))))) ?_
          refine lv_iconst (v := 1) hx hb dX12_toldSetting_89 (by decide) ?_
          refine lv_iadd hx hb dX12_toldSetting_90 ?_
          refine lv_topi (fun z171 ez171 => ?_)
          have hz171 : z171.toInt = ((V 16 (Int32.toNatClampNeg (V 0 12)))).toInt + 1 := i_add ez171 rfl (by decide) (by omega)
          refine va_iast (D := D) (i := (V 0 12)) (x := z171) hx hb hK hP hD hS 9 8 rfl rfl (i_in (a := ((V 0 12)).toInt) rfl (by omega)) dX12_toldSetting_91 (fun H locs hP hD hS => ?_)
          obtain ⟨V172, hV172⟩ : ∃ z, z = up2 V168 16 (Int32.toNatClampNeg (V 0 12)) z171 := ⟨_, rfl⟩
          have hP : va_P D vwCl (mw ad kk ks.1 V172 L152) H := by rw [hV172]; exact hP
          have hD : va_D A (mw ad kk ks.1 V172 L152) := by rw [hV172]; exact hD
          have hMV172 : rgd bM V172 := hMV168.put hV172 (show 0 ≤ z171.toInt ∧ z171.toInt ≤ 12 from by omega)
          have agV172 : agr [(0, 7), (0, 8)] [16, 17, 18] V V172 := agV168.up hV172 rfl
          have pq173 : (V172 0 7).toInt = ((V168 0 7)).toInt := congrArg Int32.toInt (up2_o hV172 (by decide))
          have pq174 : (V172 0 48).toInt = ((V 0 48)).toInt := congrArg Int32.toInt ((up2_o hV172 (by decide)).trans ((ajV168 0 48 rfl).trans ((up2_o hV161 (by decide)).trans ((ajV158 0 48 rfl).trans ((ajV29 0 48 rfl).trans (ajV13 0 48 rfl))))))
          have pq175 : (V172 0 8).toInt = ((V168 0 8)).toInt := congrArg Int32.toInt (up2_o hV172 (by decide))
          have pq176 : (V172 0 12).toInt = ((V 0 12)).toInt := congrArg Int32.toInt ((up2_o hV172 (by decide)).trans ((ajV168 0 12 rfl).trans ((up2_o hV161 (by decide)).trans ((ajV158 0 12 rfl).trans ((ajV29 0 12 rfl).trans (ajV13 0 12 rfl))))))
          have rw177 : RoV 16 bq V V172 := (fun k hk => ((up2_k hV172 (by omega)).trans ((ajV168 16 k rfl).trans ((up2_o hV161 (by decide)).trans ((ajV158 16 k rfl).trans ((ajV29 16 k rfl).trans ((ajV13 16 k rfl).trans rfl)))))))
          have rw178 : RoL 17 12 bq L L152 := (fun k hk => ((upL_k hL152 (by have h9 := i_clamp (x := z5) rfl (by omega); omega)).trans rfl))
          exact W.vret hx hb hr (fun t ht hW => ⟨⟨(V172, L152), rfl, ⟨hMV172, agV172, alL152, (Imp.mk (fun hp => have hp : (V172 0 8).toInt = 0 := hp; (show (V172 0 48).toInt ≤ 2 * (V172 0 7).toInt from by omega))), (show (V172 0 48).toInt ≤ 8200 from by omega), (show (V172 0 12).toInt = (V 0 12).toInt from by omega), (Or.inr ⟨(show 1 ≤ (V172 0 8).toInt from by omega), (fun k => by rw [show (V172 0 8).toInt = (V29 0 8).toInt from by omega]; exact hb150 k)⟩), rw177, rw178⟩, by rw [ht]; exact hP, va_K.moved hW.alike hK, hD⟩, hS.F ht⟩) hS.2.2 dX12_toldSetting_92
      · skip
        have f179 : 0 < ((V13 0 8)).toInt := b_nle rfl (by decide) c23
        exfalso; omega
    · skip
      exfalso; omega
  · skip
    have f180 : ((V 16 (Int32.toNatClampNeg (V 0 12)))).toInt = 12 := b_eq rfl (by decide) c6
    refine lv_iconst (v := 1) hx hb dX12_toldSetting_33 (by decide) ?_
    refine lv_goto (tgt := 38) hx hb dX12_toldSetting_34 (by decide) ?_
    have r181 : Int32.toInt 1 = 1 := by decide
    refine gA_void (gA_runV (As := [.int 1]) (rest := []) (ci := 12) (q0 := 0) hx hb hml hown hg hP hD hK hS hA hnw hgk (s_beginsA l D ks H.size ad kk V L 1 (bq) (gn) (gT) (gs) ((gs.2.1 2)) hMV (by decide) rel (by rw [kd9]; decide)) w2031 w2033 w85 w172 w2034 rfl rfl hdV_yX12_begins ⟨Nat.le_of_ble_eq_true rfl, Nat.le_of_ble_eq_true rfl⟩ rfl hl.1 rfl (Nat.le_of_ble_eq_true rfl) dX12_toldSetting_38 ⟨Nat.le_of_ble_eq_true rfl, Nat.le_of_ble_eq_true rfl⟩) hP hD hK hS hA (fun u183 H locs w184 hP hD hK hS => ?_)
    obtain ⟨V186, L187⟩ := u183
    obtain ⟨hMV186, ajV186, axL187, t185⟩ := w184
    have axL187 : L = L187 := Eq.symm axL187
    subst axL187
    have hP : va_P D vwCl (mw ad kk ks.1 V186 L) H := hP
    have hD : va_D A (mw ad kk ks.1 V186 L) := hD
    have hMV186 : rgd bM V186 := hMV186
    have ajV186 : agr [(0, 7), (0, 8)] [] V V186 := ajV186
    have agV186 : agr [(0, 7), (0, 8)] [16, 17, 18] V V186 := agV.tr ajV186 (by decide) (by decide)
    have t185 : ((Int32.toInt 1) = 0 ∧ (V186 0 8).toInt = 0 ∧ RelM V186 L (bq) (gn) (gT) (nx (gs) 1) ((gs.2.1 2))) ∨ ((Int32.toInt 1) = 1 ∧ 1 ≤ (V186 0 8).toInt ∧ (V186 0 8).toInt = 5 + 16 * (gT).2.2 ((gs).1 0)) := t185
    rcases t185 with ⟨q188, f189, rl190⟩ | ⟨q188, f189, rl190⟩
    · skip
      exfalso; omega
    · skip
      have hr191 : ∀ k, Rc gT (Crun gs (Istmt :: k)) (Crun gs (Istmt :: k)) := fun k => Rc.rf
      have hb192 : ∀ k, Rc gT (Crun gs (Istmt :: k)) (Cbad (V186 0 8).toInt) := fun k => Rc.go1 (hr191 k) ((st_130f kd9 (by omega)).trans (fl_eq rfl rl190))
      have r193 : 0 ≤ ((V186 0 8)).toInt ∧ ((V186 0 8)).toInt ≤ 70000 := hMV186 0 8
      refine lv_aload_n hx hb dX12_toldSetting_41 rfl (lv_at hl 1 rfl) ?_
      refine va_get (D := D) (ci := 12) (v := .int (V186 0 8)) (C := RX12) (T := TX12) (N := 100) hx hb hg inX12 hown hK hP 0 rfl rfl 8 (by decide) (hg _ w1714) (fun _ h9 => h9) rfl dX12_toldSetting_42 ?_
      refine lv_if_le (tgt := 49) hx hb dX12_toldSetting_45 (by decide) (fun c194 => ?_) (fun c194 => ?_)
      · skip
        have f195 : ((V186 0 8)).toInt ≤ 0 := b_le rfl (by decide) c194
        exfalso; omega
      · skip
        have f196 : 0 < ((V186 0 8)).toInt := b_nle rfl (by decide) c194
        have pq197 : (V186 0 48).toInt = ((V 0 48)).toInt := congrArg Int32.toInt (ajV186 0 48 rfl)
        have pq198 : (V186 0 12).toInt = ((V 0 12)).toInt := congrArg Int32.toInt (ajV186 0 12 rfl)
        have rw199 : RoV 16 bq V V186 := (fun k hk => ((ajV186 16 k rfl).trans rfl))
        have rw200 : RoL 17 12 bq L L := (fun k hk => rfl)
        exact W.vret hx hb hr (fun t ht hW => ⟨⟨(V186, L), rfl, ⟨hMV186, agV186, alL, (Imp.mk (fun hp => have hp : (V186 0 8).toInt = 0 := hp; (show (V186 0 48).toInt ≤ 2 * (V186 0 7).toInt from by omega))), (show (V186 0 48).toInt ≤ 8200 from by omega), (show (V186 0 12).toInt = (V 0 12).toInt from by omega), (Or.inr ⟨(show 1 ≤ (V186 0 8).toInt from by omega), hb192⟩), rw199, rw200⟩, by rw [ht]; exact hP, va_K.moved hW.alike hK, hD⟩, hS.F ht⟩) hS.2.2 dX12_toldSetting_48
