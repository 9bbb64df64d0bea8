/-! statements of the reference -/
def OWm (V : Vf) (o : Nat) (s : St) : Prop := (V 27 o).toInt = ((s.1 1 : Nat) : Int) ∧ ((V 32 o).toInt < 0 ↔ s.1 2 ≠ 1) ∧ ((V 33 o).toInt < 0 ↔ s.1 3 ≠ 1) ∧ s.1 4 = 0 ∧ (∀ f, f < 20 → (0 ≤ (V 34 (20 * o + f)).toInt ↔ f ∈ s.2.2.2)) ∧ ∀ f ∈ s.2.2.2, f < (s.2.1 3).length
theorem OWm.mv {V W : Vf} {o : Nat} {s s' : St} (h : OWm V o s) (e27 : W 27 o = V 27 o) (e32 : W 32 o = V 32 o) (e33 : W 33 o = V 33 o) (e34 : ∀ f, f < 20 → W 34 (20 * o + f) = V 34 (20 * o + f)) (k : ∀ i, 1 ≤ i → s'.1 i = s.1 i) (t : s'.2.2 = s.2.2) (l : (s.2.1 3).length ≤ (s'.2.1 3).length) : OWm W o s' := by
  unfold OWm at h ⊢
  rw [e27, e32, e33, k 1 (by decide), k 2 (by decide), k 3 (by decide), k 4 (by decide), t]
  exact ⟨h.1, h.2.1, h.2.2.1, h.2.2.2.1, fun f hf => by rw [e34 f hf]; exact h.2.2.2.2.1 f hf, fun f hf => Nat.lt_of_lt_of_le (h.2.2.2.2.2 f hf) l⟩
theorem RelM.a0 {V W : Vf} {L M : Lf} {q n : Nat} {T : Tk} {s : St} {w : Int64} {a z : Int32} (h : RelM V L q n T s (s.2.1 2)) (f : fndI (s.2.1 0) w = none) (e : M = upL L 14 (Int32.toNatClampNeg a) w) (ha : a.toInt = ((24 * q : Nat) : Int) + (V 13 q).toInt) (ev : W = up2 V 13 q z) (hz : z.toInt = (V 13 q).toInt + 1) (h0 : 0 ≤ (V 13 q).toInt) : RelM W M q n T (sA s 0 w) ((sA s 0 w).2.1 2) := by
  have g : ∀ x, ¬ x = 13 → W x = V x := fun x hx => up2_fo ev hx
  have m : ∀ x, x ≠ 14 → M x = L x := fun x hx => upL_o e hx
  have w13 : W 13 q = z := up2_s ev
  have t := h.2.2.1
  refine ⟨by unfold HDm; rw [g 0 (by decide)]; exact h.1, h.2.1.ag (g 4 (by decide)) (g 5 (by decide)) (m 6 (by decide)) (m 10 (by decide)), ⟨?_, ?_, ?_, ?_, ?_⟩, h.2.2.2.ag (g 39 (by decide)) (g 41 (by decide)) (g 43 (by decide)) rfl⟩
  · rw [w13]
    exact ⟨LSw.ad (a := a.toInt) t.1.1 e ha h0 hz, t.1.2.add f⟩
  · rw [g 16 (by decide), m 17 (by decide)]
    exact t.2.1
  · rw [g 19 (by decide), m 20 (by decide)]
    exact t.2.2.1
  · rw [g 35 (by decide), m 36 (by decide)]
    exact t.2.2.2.1
  · rw [g 37 (by decide), m 38 (by decide)]
    exact t.2.2.2.2
theorem RelM.a1 {V W : Vf} {L M : Lf} {q n : Nat} {T : Tk} {s : St} {w : Int64} {a z : Int32} (h : RelM V L q n T s (s.2.1 2)) (f : fndI (s.2.1 1) w = none) (e : L 17 (Int32.toNatClampNeg a) = w) (ha : a.toInt = ((12 * q : Nat) : Int) + (V 16 q).toInt) (ev : W = up2 V 16 q z) (hz : z.toInt = (V 16 q).toInt + 1) (h0 : 0 ≤ (V 16 q).toInt) (eM : M = L) : RelM W M q n T (sA s 1 w) ((sA s 1 w).2.1 2) := by
  have g : ∀ x, ¬ x = 16 → W x = V x := fun x hx => up2_fo ev hx
  subst eM
  have w16 : W 16 q = z := up2_s ev
  have t := h.2.2.1
  refine ⟨by unfold HDm; rw [g 0 (by decide)]; exact h.1, h.2.1.ag (g 4 (by decide)) (g 5 (by decide)) rfl rfl, ⟨?_, ?_, ?_, ?_, ?_⟩, h.2.2.2.ag (g 39 (by decide)) (g 41 (by decide)) (g 43 (by decide)) rfl⟩
  · rw [g 13 (by decide)]
    exact t.1
  · rw [w16]
    refine ⟨t.2.1.1.add hz ?_ (fun _ _ => rfl), t.2.1.2.add f⟩
    show M 17 (12 * q + (V 16 q).toInt.toNat) = w
    have ea : 12 * q + (V 16 q).toInt.toNat = Int32.toNatClampNeg a := by
      have := i_clamp (x := a) rfl (by omega)
      omega
    rw [ea]
    exact e
  · rw [g 19 (by decide)]
    exact t.2.2.1
  · rw [g 35 (by decide)]
    exact t.2.2.2.1
  · rw [g 37 (by decide)]
    exact t.2.2.2.2
/-- the setting's name is laid ahead of its end: a place that no one reads yet -/
theorem RelM.l17 {V : Vf} {L M : Lf} {q n : Nat} {T : Tk} {s : St} {l2 : List Int64} {w : Int64} {a : Int32} (h : RelM V L q n T s l2) (e : M = upL L 17 (Int32.toNatClampNeg a) w) (ha : a.toInt = ((12 * q : Nat) : Int) + (V 16 q).toInt) (h0 : 0 ≤ (V 16 q).toInt) : RelM V M q n T s l2 := by
  have m : ∀ x, x ≠ 17 → M x = L x := fun x hx => upL_o e hx
  have t := h.2.2.1
  have kc := i_clamp (x := a) rfl (by omega)
  refine ⟨h.1, h.2.1.ag rfl rfl (m 6 (by decide)) (m 10 (by decide)), ⟨?_, ?_, ?_, ?_, ?_⟩, h.2.2.2⟩
  · rw [m 14 (by decide)]
    exact t.1
  · refine ⟨⟨t.2.1.1.1, fun i hi => ?_⟩, t.2.1.2⟩
    have z := t.2.1.1.1
    rw [t.2.1.1.2 i hi]
    show L 17 (12 * q + i) = M 17 (12 * q + i)
    rw [e]
    unfold upL vp_updL
    rw [if_pos rfl, if_neg (by omega)]
  · rw [m 20 (by decide)]
    exact t.2.2.1
  · rw [m 36 (by decide)]
    exact t.2.2.2.1
  · rw [m 38 (by decide)]
    exact t.2.2.2.2
theorem RelM.a2 {V W : Vf} {L M : Lf} {q n : Nat} {T : Tk} {s : St} {l2 : List Int64} {w : Int64} {a z : Int32} (h : RelM V L q n T s l2) (f : fndI l2 w = none) (e : M = upL L 20 (Int32.toNatClampNeg a) w) (ha : a.toInt = ((24 * q : Nat) : Int) + (V 19 q).toInt) (ev : W = up2 V 19 q z) (hz : z.toInt = (V 19 q).toInt + 1) (h0 : 0 ≤ (V 19 q).toInt) : RelM W M q n T s (l2 ++ [w]) := by
  have g : ∀ x, ¬ x = 19 → W x = V x := fun x hx => up2_fo ev hx
  have m : ∀ x, x ≠ 20 → M x = L x := fun x hx => upL_o e hx
  have w19 : W 19 q = z := up2_s ev
  have t := h.2.2.1
  refine ⟨by unfold HDm; rw [g 0 (by decide)]; exact h.1, h.2.1.ag (g 4 (by decide)) (g 5 (by decide)) (m 6 (by decide)) (m 10 (by decide)), ⟨?_, ?_, ?_, ?_, ?_⟩, h.2.2.2.ag (g 39 (by decide)) (g 41 (by decide)) (g 43 (by decide)) rfl⟩
  · rw [g 13 (by decide), m 14 (by decide)]
    exact t.1
  · rw [g 16 (by decide), m 17 (by decide)]
    exact t.2.1
  · rw [w19]
    exact ⟨LSw.ad (a := a.toInt) t.2.2.1.1 e ha h0 hz, t.2.2.1.2.add f⟩
  · rw [g 35 (by decide), m 36 (by decide)]
    exact t.2.2.2.1
  · rw [g 37 (by decide), m 38 (by decide)]
    exact t.2.2.2.2
theorem told_i {s : St} {w : Int64} (h : isTold s w = false) : fndI (s.2.1 0) w = none ∧ fndI (s.2.1 1) w = none ∧ fndI (s.2.1 2) w = none := by
  unfold isTold at h
  rw [Bool.or_eq_false_iff, Bool.or_eq_false_iff] at h
  exact ⟨Option.not_isSome_iff_eq_none.mp (by rw [h.1.1]; decide), Option.not_isSome_iff_eq_none.mp (by rw [h.1.2]; decide), Option.not_isSome_iff_eq_none.mp (by rw [h.2]; decide)⟩
def ARm (s : St) : Prop := ∀ f, arounds s.2.2.1 f ≤ 2
theorem ARm.mv {s s' : St} (h : ARm s) (e : s'.2.2.1 = s.2.2.1) : ARm s' := by
  unfold ARm at h ⊢
  rw [e]
  exact h
theorem OWm.nu {V : Vf} {o : Nat} {s s' : St} (h : OWm V o s) (e : ∀ i, i < 5 → s'.1 i = s.1 i) (e2 : s'.2 = s.2) : OWm V o s' := by
  unfold OWm at h ⊢
  rw [e 1 (by decide), e 2 (by decide), e 3 (by decide), e 4 (by decide), e2]
  exact h


abbrev r_s_expressionA8 : Room := { frames := 93, cells := 0, slots := 0, locals := 2820 }
abbrev q_s_expressionA8 (D : va_G) (ks : KS) (ad : Nat → Nat) (kk : Nat → ClassId) (V : Vf) (L : Lf) (bq : Nat) (gn : Nat) (gT : Tk) (gs : St) (gl : List Int64) (A : Nat → Prop) : Array Value → State → Outcome → State → Prop := q_s_expressionA D ks ad kk V L bq gn gT gs gl 0 A
theorem s_expressionA8 (l : Launch) (D : va_G) (ks : KS) (sz : Nat) (ad : Nat → Nat) (kk : Nat → ClassId) (V : Vf) (L : Lf) (bq : Nat) (gn : Nat) (gT : Tk) (gs : St) (gl : List Int64) (hMV : rgd bM V) (rel : RelM V L bq gn gT gs gl) (c1 : (V 0 48).toInt ≤ 2 * (V 0 7).toInt) (em : EM V gs) (yd : (V 0 50).toInt = 0) : Met l yX12_expression (Cond.code yX12_expression cX12_expression 3 none :: GW) r_s_expressionA8 (va_Pc [.ref (ad 0)] (gp D ks (mw ad kk ks.1 V L) (mty kk) sz)) (q_s_expressionA8 D ks ad kk V L bq gn gT gs gl (va_A (mw ad kk ks.1 V L) sz)) 0 0 (va_A (mw ad kk ks.1 V L) sz) :=
  K_exprA 8 sz ad kk V L bq gn gT gs gl 0 hMV rel c1 (by omega) (by omega) em

abbrev r_s_codeA : Room := { frames := 94, cells := 0, slots := 0, locals := 2842 }
abbrev q_s_codeA (D : va_G) (ks : KS) (ad : Nat → Nat) (kk : Nat → ClassId) (V : Vf) (L : Lf) (bq : Nat) (gn : Nat) (gT : Tk) (gs : St) (gl : List Int64) (A : Nat → Prop) : Array Value → State → Outcome → State → Prop := va_Qi (fun (r : Int32) (u : Vf × Lf) => rgd bM u.1 ∧ agr [(0, 7), (0, 8), (0, 48), (0, 50)] [35, 36, 37, 38, 45, 46, 47] V u.1 ∧ agL [35, 36, 37, 38, 45, 46, 47] L u.2 ∧ (0 ≤ r.toInt ∧ r.toInt ≤ 20000) ∧ (Imp ((u.1 0 8).toInt = 0) ((u.1 0 48).toInt - (V 0 48).toInt ≤ 2 * ((u.1 0 7).toInt - (V 0 7).toInt) + 1)) ∧ ((u.1 0 48).toInt ≤ 8060) ∧ ((V 0 48).toInt ≤ (u.1 0 48).toInt) ∧ (r.toInt = (V 0 49).toInt + (V 0 48).toInt) ∧ (RdM gT gs (fun k => Iexpr 0 :: k) (fun k => k) (u.1 0 8).toInt (fun s9 => RelM u.1 u.2 bq gn gT s9 gl ∧ keepS gs 1 s9)) ∧ (RoV 35 bq V u.1) ∧ (RoV 37 bq V u.1) ∧ (RoL 36 20 bq L u.2) ∧ (RoL 38 20 bq L u.2)) (fun u t => gq D A (mw ad kk ks.1 u.1 u.2) (mty kk) t) A
set_option maxHeartbeats 4000000 in
set_option maxRecDepth 100000 in
theorem s_codeA (l : Launch) (D : va_G) (ks : KS) (sz : Nat) (ad : Nat → Nat) (kk : Nat → ClassId) (V : Vf) (L : Lf) (bq : Nat) (gn : Nat) (gT : Tk) (gs : St) (gl : List Int64) (hMV : rgd bM V) (rel : RelM V L bq gn gT gs gl) (c1 : (V 0 48).toInt ≤ 2 * (V 0 7).toInt) (em : EM V gs)  : Met l yX12_code (Cond.code yX12_code cX12_code 3 (some .int) :: GW) r_s_codeA (va_Pc [.ref (ad 0)] (gp D ks (mw ad kk ks.1 V L) (mty kk) sz)) (q_s_codeA D ks ad kk V L  bq gn gT gs gl (va_A (mw ad kk ks.1 V L) sz)) 0 0 (va_A (mw ad kk ks.1 V L) sz) := by
  refine g_met (q_s_codeA D ks ad kk V L  bq gn gT gs gl) (by decide) (Nat.le_of_ble_eq_true rfl) ?_
  intro p e s m below meth c A ls H locs hx hb hr hml hown hg hlocks hin hnw hgk hP hK hD hS hA hl
  have hown : s.vm.findClass RX12 = some m.cls := hown
  have hl : lv_has ls 3 [(0, .ref (ad 0))] := hl
  have hP : va_P D vwCl (mw ad kk ks.1 V L) H := hP
  have hD : va_D A (mw ad kk ks.1 V L) := hD
  have hK : va_K D vwCl (mty kk) s := hK
  have agV : agr [(0, 7), (0, 8), (0, 48), (0, 50)] [35, 36, 37, 38, 45, 46, 47] V V := agr.rf
  have alL : agL [35, 36, 37, 38, 45, 46, 47] L L := agL.rf
  have r1 : 0 ≤ ((V 0 48)).toInt ∧ ((V 0 48)).toInt ≤ 10000 := hMV 0 48
  have rg0 := RelM.rg rel
  have cl0 := RelM.cl rel
  have cq0 := RelM.cq rel
  refine lv_aload_n hx hb dX12_code_0 rfl (lv_at hl 0 rfl) ?_
  refine va_get (D := D) (ci := 12) (v := .int (V 0 49)) (C := RX12) (T := TX12) (N := 100) hx hb hg inX12 hown hK hP 0 rfl rfl 49 (by decide) (hg _ w1759) (fun _ h9 => h9) rfl dX12_code_1 ?_
  have r2 : 0 ≤ ((V 0 49)).toInt ∧ ((V 0 49)).toInt ≤ 10000 := hMV 0 49
  refine lv_aload_n hx hb dX12_code_4 rfl (lv_at hl 0 rfl) ?_
  refine va_get (D := D) (ci := 12) (v := .int (V 0 48)) (C := RX12) (T := TX12) (N := 100) hx hb hg inX12 hown hK hP 0 rfl rfl 48 (by decide) (hg _ w1758) (fun _ h9 => h9) rfl dX12_code_5 ?_
  refine lv_iadd hx hb dX12_code_8 ?_
  refine lv_topi (fun z3 ez3 => ?_)
  have hz3 : z3.toInt = ((V 0 49)).toInt + ((V 0 48)).toInt := i_add ez3 rfl rfl (by omega)
  refine lv_istore_n (lv' := [(1, .int z3), (0, .ref (ad 0))]) hx hb dX12_code_9 rfl hl (by decide) rfl (fun ls hl => ?_)
  refine lv_aload_n hx hb dX12_code_10 rfl (lv_at hl 1 rfl) ?_
  refine lv_iconst (v := 0) hx hb dX12_code_11 (by decide) ?_
  refine va_put (D := D) (ci := 12) (v := .int 0) (ty := tyX12 50) (C := RX12) (T := TX12) (N := 100) hx hb hg inX12 tyX12 tyX12_ok nmX12 hown hK hP hD hS 0 rfl rfl 50 (by decide) (hg _ w1760) (fun _ h9 => h9) rfl (tyX12_ok 50 (by decide)) rfl rfl (Nat.le_of_ble_eq_true rfl) dX12_code_12 (fun H locs hP hD hS => ?_)
  obtain ⟨V4, hV4⟩ : ∃ z, z = up2 V 0 50 0 := ⟨_, rfl⟩
  have hP : va_P D vwCl (mw ad kk ks.1 V4 L) H := by rw [hV4]; exact hP
  have hD : va_D A (mw ad kk ks.1 V4 L) := by rw [hV4]; exact hD
  have hMV4 : rgd bM V4 := hMV.put hV4 (by decide)
  have agV4 : agr [(0, 7), (0, 8), (0, 48), (0, 50)] [35, 36, 37, 38, 45, 46, 47] V V4 := agV.up hV4 rfl
  refine lv_aload_n hx hb dX12_code_15 rfl (lv_at hl 1 rfl) ?_
  have rl5 : RelM V4 L bq gn gT gs gl := RelM.ag rel (show agr [(0, 50)] [] V V4 from (agr.up agr.rf hV4 rfl)) (by decide) (show agL [] L L from agL.rf) (by decide)
  have hr6 : ∀ k, Rc gT (Crun gs (Iexpr 0 :: k)) (Crun gs (Iexpr 0 :: k)) := fun k => Rc.rf
  have pq7 : (V4 0 7).toInt = ((V 0 7)).toInt := congrArg Int32.toInt (up2_k hV4 (by decide))
  have pq8 : (V4 0 48).toInt = ((V 0 48)).toInt := congrArg Int32.toInt (up2_k hV4 (by decide))
  have pq9 : (V4 0 50).toInt = 0 := (congrArg Int32.toInt (up2_s hV4)).trans (by decide)
  refine gA_void (gA_runV (As := []) (rest := []) (ci := 12) (q0 := 0) hx hb hml hown hg hP hD hK hS hA hnw hgk (s_expressionA8 l D ks H.size ad kk V4 L (bq) (gn) (gT) (gs) (gl) hMV4 rl5 (show (V4 0 48).toInt ≤ 2 * (V4 0 7).toInt from by omega) (EM.mv em (up2_k hV4 (by decide)) (up2_k hV4 (by decide)) (by rw [(up2_fo hV4 (by decide) : V4 27 = V 27)] : V4 27 = V 27) (fun _ _ => rfl)) (show (V4 0 50).toInt = 0 from by omega)) w2120 w2122 w106 w172 w2123 rfl rfl hdV_yX12_expression ⟨Nat.le_of_ble_eq_true rfl, Nat.le_of_ble_eq_true rfl⟩ rfl hl.1 rfl (Nat.le_of_ble_eq_true rfl) dX12_code_16 ⟨Nat.le_of_ble_eq_true rfl, Nat.le_of_ble_eq_true rfl⟩) hP hD hK hS hA (fun u11 H locs w12 hP hD hK hS => ?_)
  obtain ⟨V22, L23⟩ := u11
  obtain ⟨hMV22, ajV22, axL23, t13, t14, t15, t16, t17, t18, t19, t20, t21⟩ := w12
  have alL23 : agL [35, 36, 37, 38, 45, 46, 47] L L23 := agL.tr alL axL23 (by decide)
  have hP : va_P D vwCl (mw ad kk ks.1 V22 L23) H := hP
  have hD : va_D A (mw ad kk ks.1 V22 L23) := hD
  have hMV22 : rgd bM V22 := hMV22
  have ajV22 : agr [(0, 7), (0, 8), (0, 48), (0, 50)] [35, 36, 37, 38, 45, 46, 47] V4 V22 := ajV22
  have agV22 : agr [(0, 7), (0, 8), (0, 48), (0, 50)] [35, 36, 37, 38, 45, 46, 47] V V22 := agV4.tr ajV22 (by decide) (by decide)
  have t13 : Imp ((V22 0 8).toInt = 0) ((V22 0 48).toInt - (V4 0 48).toInt ≤ 2 * ((V22 0 7).toInt - (V4 0 7).toInt)) := t13
  have t14 : (V22 0 48).toInt ≤ 8051 - 6 * (V4 0 50).toInt := t14
  have t15 : (V22 0 50).toInt = (V4 0 50).toInt := t15
  have t16 : (V4 0 48).toInt ≤ (V22 0 48).toInt := t16
  have t17 : RdM (gT) (gs) (fun k => Iexpr 0 :: k) (fun k => k) (V22 0 8).toInt (fun s9 => RelM V22 L23 (bq) (gn) (gT) s9 (gl) ∧ keepS (gs) 1 s9) := t17
  have t18 : RoV 35 (bq) V4 V22 := t18
  have t19 : RoV 37 (bq) V4 V22 := t19
  have t20 : RoL 36 20 (bq) L L23 := t20
  have t21 : RoL 38 20 (bq) L L23 := t21
  have r24 : 0 ≤ ((V22 0 48)).toInt ∧ ((V22 0 48)).toInt ≤ 10000 := hMV22 0 48
  have r25 : 0 ≤ ((V22 0 8)).toInt ∧ ((V22 0 8)).toInt ≤ 70000 := hMV22 0 8
  have r26 : 0 ≤ ((V22 0 50)).toInt ∧ ((V22 0 50)).toInt ≤ 9 := hMV22 0 50
  rcases t17 with ⟨q27, sx28, h29, rl30, kp31⟩ | ⟨q27, h29⟩
  · skip
    have hr32 : ∀ k, Rc gT (Crun gs (Iexpr 0 :: k)) (Crun sx28 (k)) := fun k => (hr6 k).tr (h29 (k))
    have fz33 := RelM.rg rl30
    have ps34 := (kp31).1
    refine lv_aload_n hx hb dX12_code_19 rfl (lv_at hl 1 rfl) ?_
    refine lv_iconst (v := 0) hx hb dX12_code_20 (by decide) ?_
    refine lv_iconst (v := 0) hx hb dX12_code_21 (by decide) ?_
    refine lv_iconst (v := 0) hx hb dX12_code_22 (by decide) ?_
    have r35 : Int32.toInt 0 = 0 := by decide
    refine gA_int (gA_runV (As := [.int 0, .int 0, .int 0]) (rest := []) (ci := 12) (q0 := 0) hx hb hml hown hg hP hD hK hS hA hnw hgk (s_emit3 l D ks H.size ad kk V22 L23 0 0 0 hMV22 (show (V22 0 48).toInt ≤ 9999 from by first | omega | ((try (have i_t13 := Imp.go t13 (by omega))); omega))) w2140 w2142 w111 w172 w2143 rfl rfl hdV_yX12_emit ⟨Nat.le_of_ble_eq_true rfl, Nat.le_of_ble_eq_true rfl⟩ rfl hl.1 rfl (Nat.le_of_ble_eq_true rfl) dX12_code_23 ⟨Nat.le_of_ble_eq_true rfl, Nat.le_of_ble_eq_true rfl⟩) hP hD hK hS hA (fun z36 u37 H locs w38 hP hD hK hS => ?_)
    obtain ⟨V42, L43⟩ := u37
    obtain ⟨hMV42, ajV42, axL43, rgz36, t39, t40, t41⟩ := w38
    have axL43 : L23 = L43 := Eq.symm axL43
    subst axL43
    have hP : va_P D vwCl (mw ad kk ks.1 V42 L23) H := hP
    have hD : va_D A (mw ad kk ks.1 V42 L23) := hD
    have hMV42 : rgd bM V42 := hMV42
    have ajV42 : agr [(0, 48)] [45, 46, 47] V22 V42 := ajV42
    have agV42 : agr [(0, 7), (0, 8), (0, 48), (0, 50)] [35, 36, 37, 38, 45, 46, 47] V V42 := agV22.tr ajV42 (by decide) (by decide)
    have rgz36 : 0 ≤ z36.toInt ∧ z36.toInt ≤ 20000 := rgz36
    have t39 : (V42 0 48).toInt = (V22 0 48).toInt + 1 := t39
    have t40 : z36.toInt = (V22 0 49).toInt + (V22 0 48).toInt := t40
    have t41 : emitted V22 V42 (pA V22) 0 0 0 := t41
    have r44 : 0 ≤ ((V42 0 48)).toInt ∧ ((V42 0 48)).toInt ≤ 10000 := hMV42 0 48
    have pq45 : (V22 0 49).toInt = ((V 0 49)).toInt := congrArg Int32.toInt ((ajV22 0 49 rfl).trans (up2_k hV4 (by decide)))
    refine lv_istore_n (lv' := [(2, .int z36), (1, .int z3), (0, .ref (ad 0))]) hx hb dX12_code_26 rfl hl (by decide) rfl (fun ls hl => ?_)
    refine lv_iload_n hx hb dX12_code_27 rfl (lv_at hl 1 rfl) ?_
    have pq46 : (V42 0 7).toInt = ((V22 0 7)).toInt := congrArg Int32.toInt (ajV42 0 7 rfl)
    have pq47 : (V42 0 8).toInt = ((V22 0 8)).toInt := congrArg Int32.toInt (ajV42 0 8 rfl)
    have pq48 : (V42 0 49).toInt = ((V 0 49)).toInt := congrArg Int32.toInt ((ajV42 0 49 rfl).trans ((ajV22 0 49 rfl).trans (up2_k hV4 (by decide))))
    have rl49 : RelM V42 L23 bq gn gT sx28 gl := RelM.ag rl30 (show agr [(0, 48)] [45, 46, 47] V22 V42 from (agr.tr agr.rf ajV42 (by decide) (by decide))) (by decide) (show agL [] L23 L23 from agL.rf) (by decide)
    have rw50 : RoV 35 bq V V42 := (fun k hk => ((ajV42 35 k rfl).trans ((t18 k hk).trans ((up2_o hV4 (by decide)).trans rfl))))
    have rw51 : RoV 37 bq V V42 := (fun k hk => ((ajV42 37 k rfl).trans ((t19 k hk).trans ((up2_o hV4 (by decide)).trans rfl))))
    have rw52 : RoL 36 20 bq L L23 := (fun k hk => ((t20 k hk).trans rfl))
    have rw53 : RoL 38 20 bq L L23 := (fun k hk => ((t21 k hk).trans rfl))
    exact W.iret (v := z3) hx hb hr (fun t ht hW => ⟨⟨z3, (V42, L23), rfl, ⟨hMV42, agV42, alL23, (show 0 ≤ z3.toInt ∧ z3.toInt ≤ 20000 from by first | omega | ((try (have i_t13 := Imp.go t13 (by omega))); omega)), (Imp.mk (fun hp => have hp : (V42 0 8).toInt = 0 := hp; (show (V42 0 48).toInt - (V 0 48).toInt ≤ 2 * ((V42 0 7).toInt - (V 0 7).toInt) + 1 from by first | omega | ((try (have i_t13 := Imp.go t13 (by omega))); omega)))), (show (V42 0 48).toInt ≤ 8060 from by first | omega | ((try (have i_t13 := Imp.go t13 (by omega))); omega)), (show (V 0 48).toInt ≤ (V42 0 48).toInt from by first | omega | ((try (have i_t13 := Imp.go t13 (by omega))); omega)), (show z3.toInt = (V 0 49).toInt + (V 0 48).toInt from by first | omega | ((try (have i_t13 := Imp.go t13 (by omega))); omega)), (Or.inl ⟨W0 rl49, sx28, hr32, rl49, keepS.le (keepS.tr (keepS.rf : keepS gs 0 gs) kp31) (by decide)⟩), rw50, rw51, rw52, rw53⟩, by rw [ht]; exact hP, va_K.moved hW.alike hK, hD⟩, hS.F ht⟩) hS.2.2 dX12_code_28
  · skip
    have hb54 : ∀ k, Rc gT (Crun gs (Iexpr 0 :: k)) (Cbad (V22 0 8).toInt) := fun k => (hr6 k).tr (h29 (k))
    refine lv_aload_n hx hb dX12_code_19 rfl (lv_at hl 1 rfl) ?_
    refine lv_iconst (v := 0) hx hb dX12_code_20 (by decide) ?_
    refine lv_iconst (v := 0) hx hb dX12_code_21 (by decide) ?_
    refine lv_iconst (v := 0) hx hb dX12_code_22 (by decide) ?_
    have r55 : Int32.toInt 0 = 0 := by decide
    refine gA_int (gA_runV (As := [.int 0, .int 0, .int 0]) (rest := []) (ci := 12) (q0 := 0) hx hb hml hown hg hP hD hK hS hA hnw hgk (s_emit3 l D ks H.size ad kk V22 L23 0 0 0 hMV22 (show (V22 0 48).toInt ≤ 9999 from by first | omega | ((try (have i_t13 := Imp.go t13 (by omega))); omega))) w2140 w2142 w111 w172 w2143 rfl rfl hdV_yX12_emit ⟨Nat.le_of_ble_eq_true rfl, Nat.le_of_ble_eq_true rfl⟩ rfl hl.1 rfl (Nat.le_of_ble_eq_true rfl) dX12_code_23 ⟨Nat.le_of_ble_eq_true rfl, Nat.le_of_ble_eq_true rfl⟩) hP hD hK hS hA (fun z56 u57 H locs w58 hP hD hK hS => ?_)
    obtain ⟨V62, L63⟩ := u57
    obtain ⟨hMV62, ajV62, axL63, rgz56, t59, t60, t61⟩ := w58
    have axL63 : L23 = L63 := Eq.symm axL63
    subst axL63
    have hP : va_P D vwCl (mw ad kk ks.1 V62 L23) H := hP
    have hD : va_D A (mw ad kk ks.1 V62 L23) := hD
    have hMV62 : rgd bM V62 := hMV62
    have ajV62 : agr [(0, 48)] [45, 46, 47] V22 V62 := ajV62
    have agV62 : agr [(0, 7), (0, 8), (0, 48), (0, 50)] [35, 36, 37, 38, 45, 46, 47] V V62 := agV22.tr ajV62 (by decide) (by decide)
    have rgz56 : 0 ≤ z56.toInt ∧ z56.toInt ≤ 20000 := rgz56
    have t59 : (V62 0 48).toInt = (V22 0 48).toInt + 1 := t59
    have t60 : z56.toInt = (V22 0 49).toInt + (V22 0 48).toInt := t60
    have t61 : emitted V22 V62 (pA V22) 0 0 0 := t61
    have r64 : 0 ≤ ((V62 0 48)).toInt ∧ ((V62 0 48)).toInt ≤ 10000 := hMV62 0 48
    have pq65 : (V22 0 49).toInt = ((V 0 49)).toInt := congrArg Int32.toInt ((ajV22 0 49 rfl).trans (up2_k hV4 (by decide)))
    refine lv_istore_n (lv' := [(2, .int z56), (1, .int z3), (0, .ref (ad 0))]) hx hb dX12_code_26 rfl hl (by decide) rfl (fun ls hl => ?_)
    refine lv_iload_n hx hb dX12_code_27 rfl (lv_at hl 1 rfl) ?_
    have pq66 : (V62 0 7).toInt = ((V22 0 7)).toInt := congrArg Int32.toInt (ajV62 0 7 rfl)
    have pq67 : (V62 0 8).toInt = ((V22 0 8)).toInt := congrArg Int32.toInt (ajV62 0 8 rfl)
    have pq68 : (V62 0 49).toInt = ((V 0 49)).toInt := congrArg Int32.toInt ((ajV62 0 49 rfl).trans ((ajV22 0 49 rfl).trans (up2_k hV4 (by decide))))
    have rw69 : RoV 35 bq V V62 := (fun k hk => ((ajV62 35 k rfl).trans ((t18 k hk).trans ((up2_o hV4 (by decide)).trans rfl))))
    have rw70 : RoV 37 bq V V62 := (fun k hk => ((ajV62 37 k rfl).trans ((t19 k hk).trans ((up2_o hV4 (by decide)).trans rfl))))
    have rw71 : RoL 36 20 bq L L23 := (fun k hk => ((t20 k hk).trans rfl))
    have rw72 : RoL 38 20 bq L L23 := (fun k hk => ((t21 k hk).trans rfl))
    exact W.iret (v := z3) hx hb hr (fun t ht hW => ⟨⟨z3, (V62, L23), rfl, ⟨hMV62, agV62, alL23, (show 0 ≤ z3.toInt ∧ z3.toInt ≤ 20000 from by first | omega | ((try (have i_t13 := Imp.go t13 (by omega))); omega)), (Imp.mk (fun hp => have hp : (V62 0 8).toInt = 0 := hp; (show (V62 0 48).toInt - (V 0 48).toInt ≤ 2 * ((V62 0 7).toInt - (V 0 7).toInt) + 1 from by first | omega | ((try (have i_t13 := Imp.go t13 (by omega))); omega)))), (show (V62 0 48).toInt ≤ 8060 from by first | omega | ((try (have i_t13 := Imp.go t13 (by omega))); omega)), (show (V 0 48).toInt ≤ (V62 0 48).toInt from by first | omega | ((try (have i_t13 := Imp.go t13 (by omega))); omega)), (show z3.toInt = (V 0 49).toInt + (V 0 48).toInt from by first | omega | ((try (have i_t13 := Imp.go t13 (by omega))); omega)), (Or.inr ⟨(show 1 ≤ (V62 0 8).toInt from by omega), (fun k => by rw [show (V62 0 8).toInt = (V22 0 8).toInt from by omega]; exact hb54 k)⟩), rw69, rw70, rw71, rw72⟩, by rw [ht]; exact hP, va_K.moved hW.alike hK, hD⟩, hS.F ht⟩) hS.2.2 dX12_code_28
