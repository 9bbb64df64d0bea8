section
/-! what a list of types has told: the reference's row -/
def LST (V : Vf) (n : Int) (l : List Nat) : Prop := ∀ x : Nat, x ∈ l ↔ ∃ k : Nat, (k : Int) < n ∧ (V 53 k).toInt = (x : Int)
theorem LST.z {V : Vf} {n : Int} (h : n = 0) : LST V n [] := fun x => ⟨fun q => absurd q List.not_mem_nil, fun ⟨k, q, _⟩ => by omega⟩
theorem LST.ag {V W : Vf} {n : Int} {l : List Nat} (h : LST V n l) (e : W 53 = V 53) : LST W n l := by
  unfold LST at h ⊢
  rw [e]
  exact h
theorem LST.add {V W : Vf} {n m : Int} {l : List Nat} {a t : Int32} {x : Nat} (h : LST V n l) (e : W = up2 V 53 (Int32.toNatClampNeg a) t) (ha : a.toInt = n) (h0 : 0 ≤ n) (hm : m = n + 1) (ht : t.toInt = (x : Int)) : LST W m (x :: l) := by
  have kc := i_clamp (x := a) rfl (by (first | exact om_ec2623e552ae ha h0 | omega))
  intro y
  rw [List.mem_cons, h y]
  constructor
  · rintro (q | ⟨k, q1, q2⟩)
    · exact ⟨Int32.toNatClampNeg a, by omega, by rw [up2_s e, ht, q]⟩
    · exact ⟨k, by omega, by rw [up2_k e (by omega)]; exact q2⟩
  · rintro ⟨k, q1, q2⟩
    by_cases c : k = Int32.toNatClampNeg a
    · rw [c, up2_s e, ht] at q2
      left
      omega
    · rw [up2_k e c] at q2
      exact Or.inr ⟨k, by omega, q2⟩
theorem LST.no {V : Vf} {n : Int} {l : List Nat} {x : Nat} (h : LST V n l) (q : ∀ k : Nat, (k : Int) < n → (V 53 k).toInt ≠ (x : Int)) : x ∉ l := fun m => by
  obtain ⟨k, a, b⟩ := (h x).mp m
  exact q k a b
theorem RelM.v8 {V W : Vf} {L : Lf} {q n : Nat} {T : Tk} {s : St} {l2 : List Int64} {z : Int32} (h : RelM V L q n T (nx s 1) l2) (e : W = up2 V 0 7 z) (hz : z.toInt = (V 0 7).toInt - 1) : RelM W L q n T s l2 := by
  have a := h.1.1
  have b := h.1.2.1
  have e0 : (nx s 1).1 0 = s.1 0 + 1 := rfl
  rw [e0] at a b
  exact h.mv e (by omega) (by omega) rfl rfl


abbrev r_s_oneOfA : Room := { frames := 2, cells := 0, slots := 0, locals := 43 }
abbrev q_s_oneOfA (D : va_G) (ks : KS) (ad : Nat → Nat) (kk : Nat → ClassId) (V : Vf) (L : Lf) (p0 : Int32) (p1 : Int32) (bq : Nat) (gn : Nat) (gT : Tk) (gs : St) (gl : List Int64) (A : Nat → Prop) : Array Value → State → Outcome → State → Prop := va_Qi (fun (r : Int32) (u : Vf × Lf) => rgd bM u.1 ∧ agr [(0, 7), (0, 8)] [] V u.1 ∧ u.2 = L ∧ (0 ≤ r.toInt ∧ r.toInt ≤ 3) ∧ (((u.1 0 8).toInt = 0 ∧ gT.1 (gs.1 0) = 128 + p0.toInt + r.toInt ∧ RelM u.1 u.2 bq gn gT (nx gs 1) gl) ∨ (1 ≤ (u.1 0 8).toInt ∧ (gT.1 (gs.1 0) < 128 + p0.toInt ∨ 128 + p0.toInt + p1.toInt ≤ gT.1 (gs.1 0)) ∧ (u.1 0 8).toInt = 1 + 16 * gT.2.2 (gs.1 0)))) (fun u t => gq D A (mw ad kk ks.1 u.1 u.2) (mty kk) t) A
set_option maxHeartbeats 4000000 in
set_option maxRecDepth 100000 in
theorem s_oneOfA (l : Launch) (D : va_G) (ks : KS) (sz : Nat) (ad : Nat → Nat) (kk : Nat → ClassId) (V : Vf) (L : Lf) (p0 : Int32) (p1 : Int32) (bq : Nat) (gn : Nat) (gT : Tk) (gs : St) (gl : List Int64) (hMV : rgd bM V) (rg_p0 : 0 ≤ p0.toInt ∧ p0.toInt ≤ 24) (rg_p1 : 0 ≤ p1.toInt ∧ p1.toInt ≤ 4) (rel : RelM V L bq gn gT gs gl) (y1 : p0.toInt + p1.toInt ≤ 28)  : Met l yX12_oneOf (Cond.code yX12_oneOf cX12_oneOf 4 (some .int) :: GW) r_s_oneOfA (va_Pc [.ref (ad 0), .int p0, .int p1] (gp D ks (mw ad kk ks.1 V L) (mty kk) sz)) (q_s_oneOfA D ks ad kk V L p0 p1 bq gn gT gs gl (va_A (mw ad kk ks.1 V L) sz)) 0 0 (va_A (mw ad kk ks.1 V L) sz) := by
  refine g_met (q_s_oneOfA D ks ad kk V L p0 p1 bq gn gT gs gl) (by decide) (Nat.le_of_ble_eq_true rfl) ?_
  intro p e s m below meth c A ls H locs hx hb hr hml hown hg hlocks hin hnw hgk hP hK hD hS hA hl
  have hown : s.vm.findClass RX12 = some m.cls := hown
  have hl : lv_has ls 4 [(0, .ref (ad 0)), (1, .int p0), (2, .int p1)] := hl
  have hP : va_P D vwCl (mw ad kk ks.1 V L) H := hP
  have hD : va_D A (mw ad kk ks.1 V L) := hD
  have hK : va_K D vwCl (mty kk) s := hK
  have agV : agr [(0, 7), (0, 8)] [] V V := agr.rf
  have rf_p0 := i_full p0
  have rf_p1 := i_full p1
  have rg0 := RelM.rg rel
  have cl0 := RelM.cl rel
  have cq0 := RelM.cq rel
  refine lv_iconst (v := 0) hx hb dX12_oneOf_0 (by decide) ?_
  refine lv_istore_n (lv' := [(3, .int 0), (0, .ref (ad 0)), (1, .int p0), (2, .int p1)]) hx hb dX12_oneOf_1 rfl hl (by decide) rfl (fun ls hl => ?_)
  have lp3 : ∀ (fulp3 : Nat) (y1 : Int32) (V2 : Vf) (H : Heap) (locs : List Loc) (ls : Array Slot), 0 ≤ y1.toInt ∧ y1.toInt ≤ 4 → (RelM V2 L bq gn gT gs gl ∧ (∀ j : Int, p0.toInt ≤ j → j < p0.toInt + y1.toInt → gT.1 (gs.1 0) ≠ 128 + j)) → y1.toInt ≤ p1.toInt → p1.toInt - y1.toInt < (fulp3 : Int) → agr [(0, 7)] [] V V2 → rgd bM V2 → va_P D vwCl (mw ad kk ks.1 V2 L) H → va_D A (mw ad kk ks.1 V2 L) → va_S A s.heap H locs → lv_has ls 4 [(3, .int y1), (0, .ref (ad 0)), (1, .int p0), (2, .int p1)] → W p l e r_s_oneOfA s m ([.ref (ad 0), .int p0, .int p1] : List Value).toArray below meth c H locs 0 0 (MQ below (q_s_oneOfA D ks ad kk V L p0 p1 bq gn gT gs gl A) ([.ref (ad 0), .int p0, .int p1] : List Value).toArray s 0 0 A) (F0 m 2 ls []) := by
    intro fulp3
    induction fulp3 with
    | zero =>
      intro y1 V2 H locs ls klp3_0 xlp3_0 xlp3_1 hn ajV2 hMV2 hP hD hS hl
      exfalso; (first | exact om_4634b1278845 xlp3_1 hn | omega)
    | succ fulp3 ihlp3 =>
      intro y1 V2 H locs ls klp3_0 xlp3_0 xlp3_1 hn ajV2 hMV2 hP hD hS hl
      have agV2 : agr [(0, 7), (0, 8)] [] V V2 := agV.tr ajV2 (by decide) (by decide)
      refine lv_iload_n hx hb dX12_oneOf_2 rfl (lv_at hl 0 rfl) ?_
      obtain ⟨rq, nq⟩ := xlp3_0
      have fz4 := RelM.rg rq
      have pq5 : (V2 0 8).toInt = ((V 0 8)).toInt := congrArg Int32.toInt (ajV2 0 8 rfl)
      have r6 : 0 ≤ ((V 0 8)).toInt ∧ ((V 0 8)).toInt ≤ 70000 := hMV 0 8
      refine lv_iload_n hx hb dX12_oneOf_3 rfl (lv_at hl 3 rfl) ?_
      refine lv_icmp_ge (tgt := 25) hx hb dX12_oneOf_4 (by decide) (fun c7 => ?_) (fun c7 => ?_)
      · skip
        have f8 : p1.toInt ≤ y1.toInt := b_le rfl rfl c7
        refine lv_aload_n hx hb dX12_oneOf_25 rfl (lv_at hl 1 rfl) ?_
        refine lv_iconst (v := 1) hx hb dX12_oneOf_26 (by decide) ?_
        have r9 : Int32.toInt 1 = 1 := by decide
        refine gA_void (gA_runV (As := [.int 1]) (rest := []) (ci := 12) (q0 := 0) hx hb hml hown hg hP hD hK hS hA hnw hgk (s_wrongA l D ks H.size ad kk V2 L 1 (bq) (gn) (gT) (gs) (gl) hMV2 (by decide) rq) w2035 w2037 w86 w172 w2038 rfl rfl hdV_yX12_wrong ⟨Nat.le_of_ble_eq_true rfl, Nat.le_of_ble_eq_true rfl⟩ rfl hl.1 rfl (Nat.le_of_ble_eq_true rfl) dX12_oneOf_27 ⟨Nat.le_of_ble_eq_true rfl, Nat.le_of_ble_eq_true rfl⟩) hP hD hK hS hA (fun u11 H locs w12 hP hD hK hS => ?_)
        obtain ⟨V15, L16⟩ := u11
        obtain ⟨hMV15, ajV15, axL16, t13, t14⟩ := w12
        have axL16 : L = L16 := Eq.symm axL16
        subst axL16
        have hP : va_P D vwCl (mw ad kk ks.1 V15 L) H := hP
        have hD : va_D A (mw ad kk ks.1 V15 L) := hD
        have hMV15 : rgd bM V15 := hMV15
        have ajV15 : agr [(0, 8)] [] V2 V15 := ajV15
        have agV15 : agr [(0, 7), (0, 8)] [] V V15 := agV2.tr ajV15 (by decide) (by decide)
        have t13 : 1 ≤ (V15 0 8).toInt := t13
        have t14 : (V15 0 8).toInt = (Int32.toInt 1) + 16 * (gT).2.2 ((gs).1 0) := t14
        have r17 : 0 ≤ ((V15 0 8)).toInt ∧ ((V15 0 8)).toInt ≤ 70000 := hMV15 0 8
        refine lv_iconst (v := 0) hx hb dX12_oneOf_30 (by decide) ?_
        exact W.iret (v := 0) hx hb hr (fun t ht hW => ⟨⟨0, (V15, L), rfl, ⟨hMV15, agV15, rfl, (by decide), (Or.inr ⟨(show 1 ≤ (V15 0 8).toInt from by (first | exact om_f8d8213eda45 t13 | omega)), (by rcases Int.lt_or_le (gT.1 (gs.1 0)) (128 + p0.toInt) with c9 | c9; exact Or.inl c9; rcases Int.lt_or_le (gT.1 (gs.1 0)) (128 + p0.toInt + p1.toInt) with c8 | c8; exact absurd (show gT.1 (gs.1 0) = 128 + (gT.1 (gs.1 0) - 128) from by omega) (nq _ (by omega) (by omega)); exact Or.inr c8), (show (V15 0 8).toInt = 1 + 16 * gT.2.2 (gs.1 0) from by omega)⟩)⟩, by rw [ht]; exact hP, va_K.moved hW.alike hK, hD⟩, hS.F ht⟩) hS.2.2 dX12_oneOf_31
      · skip
        have f18 : y1.toInt < p1.toInt := b_nle rfl rfl c7
        refine lv_aload_n hx hb dX12_oneOf_7 rfl (lv_at hl 1 rfl) ?_
        refine lv_iload_n hx hb dX12_oneOf_8 rfl (lv_at hl 2 rfl) ?_
        refine lv_iload_n hx hb dX12_oneOf_9 rfl (lv_at hl 0 rfl) ?_
        refine lv_iadd hx hb dX12_oneOf_10 ?_
        refine lv_topi (fun z19 ez19 => ?_)
        have hz19 : z19.toInt = p0.toInt + y1.toInt := i_add ez19 rfl rfl (by (first | exact om_f069f9799d0b rg_p0.1 rg_p0.2 rg_p1.2 klp3_0.1 f18 | omega))
        refine gA_int (gA_runV (As := [.int z19]) (rest := []) (ci := 12) (q0 := 0) hx hb hml hown hg hP hD hK hS hA hnw hgk (s_hasWordA l D ks H.size ad kk V2 L z19 (bq) (gn) (gT) (gs) (gl) hMV2 (by (first | exact om_23f683ec3621 rg_p0.1 rg_p0.2 rg_p1.2 klp3_0.1 f18 hz19 | omega)) rq) w2051 w2053 w90 w172 w2054 rfl rfl hdV_yX12_hasWord ⟨Nat.le_of_ble_eq_true rfl, Nat.le_of_ble_eq_true rfl⟩ rfl hl.1 rfl (Nat.le_of_ble_eq_true rfl) dX12_oneOf_11 ⟨Nat.le_of_ble_eq_true rfl, Nat.le_of_ble_eq_true rfl⟩) hP hD hK hS hA (fun z20 u21 H locs w22 hP hD hK hS => ?_)
        obtain ⟨V24, L25⟩ := u21
        obtain ⟨hMV24, ajV24, axL25, rgz20, t23⟩ := w22
        have axL25 : L = L25 := Eq.symm axL25
        subst axL25
        have hP : va_P D vwCl (mw ad kk ks.1 V24 L) H := hP
        have hD : va_D A (mw ad kk ks.1 V24 L) := hD
        have hMV24 : rgd bM V24 := hMV24
        have ajV24 : agr [(0, 7)] [] V2 V24 := ajV24
        have agV24 : agr [(0, 7), (0, 8)] [] V V24 := agV2.tr ajV24 (by decide) (by decide)
        have rgz20 : 0 ≤ z20.toInt ∧ z20.toInt ≤ 1 := rgz20
        have t23 : (z20.toInt = 1 ∧ (gT).1 ((gs).1 0) = 128 + z19.toInt ∧ RelM V24 L (bq) (gn) (gT) (nx (gs) 1) (gl)) ∨ (z20.toInt = 0 ∧ (gT).1 ((gs).1 0) ≠ 128 + z19.toInt ∧ RelM V24 L (bq) (gn) (gT) (gs) (gl)) := t23
        rcases t23 with ⟨q26, h27, rl28⟩ | ⟨q26, h27, rl28⟩
        · skip
          have ps29 : (nx gs 1).1 0 = gs.1 0 + 1 := rfl
          have fz30 := RelM.rg rl28
          have pq31 : (V24 0 8).toInt = ((V 0 8)).toInt := congrArg Int32.toInt ((ajV24 0 8 rfl).trans (ajV2 0 8 rfl))
          refine lv_if_eq (tgt := 19) hx hb dX12_oneOf_14 (by decide) (fun c32 => ?_) (fun c32 => ?_)
          · skip
            have f33 : z20.toInt = 0 := b_eq rfl (by decide) c32
            exfalso; (first | exact om_495ee03a60ae q26 f33 | omega)
          · skip
            have f34 : z20.toInt ≠ 0 := b_neq rfl (by decide) c32
            refine lv_iload_n hx hb dX12_oneOf_17 rfl (lv_at hl 0 rfl) ?_
            exact W.iret (v := y1) hx hb hr (fun t ht hW => ⟨⟨y1, (V24, L), rfl, ⟨hMV24, agV24, rfl, (show 0 ≤ y1.toInt ∧ y1.toInt ≤ 3 from by (first | exact om_0be7ea43cf85 rg_p1.2 klp3_0.1 f18 | omega)), (Or.inl ⟨W0 rl28, (by omega), rl28⟩)⟩, by rw [ht]; exact hP, va_K.moved hW.alike hK, hD⟩, hS.F ht⟩) hS.2.2 dX12_oneOf_18
        · skip
          have fz35 := RelM.rg rl28
          have pq36 : (V24 0 8).toInt = ((V 0 8)).toInt := congrArg Int32.toInt ((ajV24 0 8 rfl).trans (ajV2 0 8 rfl))
          refine lv_if_eq (tgt := 19) hx hb dX12_oneOf_14 (by decide) (fun c37 => ?_) (fun c37 => ?_)
          · skip
            have f38 : z20.toInt = 0 := b_eq rfl (by decide) c37
            obtain ⟨z39, ez39⟩ : ∃ y : Int32, y = y1 + 1 := ⟨_, rfl⟩
            have hz39 : z39.toInt = y1.toInt + 1 := i_add ez39 rfl (by decide) (by (first | exact om_f9dc9c403a6b rg_p1.2 klp3_0.1 f18 | omega))
            refine lv_iinc (v := z39) (lv' := [(3, .int z39), (0, .ref (ad 0)), (1, .int p0), (2, .int p1)]) hx hb dX12_oneOf_19 hl (k := 0) rfl (by rw [ez39]; rfl) (by decide) rfl (fun ls hl => ?_)
            refine lv_goto (tgt := 2) hx hb dX12_oneOf_22 (by decide) ?_
            exact ihlp3 z39 V24 H locs ls (by (first | exact om_35946ed5e904 rg_p1.2 klp3_0.1 f18 hz39 | omega)) ⟨rl28, fun j h8 h9 => by by_cases c9 : j < p0.toInt + y1.toInt; exact nq j h8 c9; exact fun h7 => h27 (by omega)⟩ (show z39.toInt ≤ p1.toInt from by (first | exact om_7fe9249fc074 f18 hz39 | omega)) (by (first | exact om_9e7d2b874257 hn hz39 | omega)) (agr.tr (agr.tr agr.rf ajV2 (by decide) (by decide)) ajV24 (by decide) (by decide)) hMV24 hP hD hS (lv_sub hl [0, 1, 2, 3] rfl)
          · skip
            have f40 : z20.toInt ≠ 0 := b_neq rfl (by decide) c37
            exfalso; (first | exact om_fb320d7600b7 rgz20.1 q26 f40 | omega)
  have r41 : Int32.toInt 0 = 0 := by decide
  exact lp3 ((p1.toInt - (Int32.toInt 0) + 1 : Int).toNat) 0 V H locs ls (by decide) ⟨rel, fun j h8 h9 => by exfalso; omega⟩ (show (Int32.toInt 0) ≤ p1.toInt from by (first | exact om_6f9bb8cf3bec rg_p1.1 r41 | omega)) (by (first | exact om_7441a7786481 | omega)) agr.rf hMV hP hD hS (lv_sub hl [0, 1, 2, 3] rfl)
abbrev r_s_oneOfB : Room := { frames := 2, cells := 0, slots := 0, locals := 43 }
abbrev q_s_oneOfB (D : va_G) (ks : KS) (ad : Nat → Nat) (kk : Nat → ClassId) (V : Vf) (L : Lf) (p0 : Int32) (p1 : Int32) (A : Nat → Prop) : Array Value → State → Outcome → State → Prop := va_Qi (fun (r : Int32) (u : Vf × Lf) => rgd bM u.1 ∧ agr [(0, 7), (0, 8)] [] V u.1 ∧ u.2 = L ∧ (0 ≤ r.toInt ∧ r.toInt ≤ 0) ∧ ((u.1 0 8).toInt = (V 0 8).toInt)) (fun u t => gq D A (mw ad kk ks.1 u.1 u.2) (mty kk) t) A
set_option maxHeartbeats 4000000 in
set_option maxRecDepth 100000 in
theorem s_oneOfB (l : Launch) (D : va_G) (ks : KS) (sz : Nat) (ad : Nat → Nat) (kk : Nat → ClassId) (V : Vf) (L : Lf) (p0 : Int32) (p1 : Int32) (hMV : rgd bM V) (rg_p0 : 0 ≤ p0.toInt ∧ p0.toInt ≤ 24) (rg_p1 : 0 ≤ p1.toInt ∧ p1.toInt ≤ 4) (bf : 1 ≤ (V 0 8).toInt)  : Met l yX12_oneOf (Cond.code yX12_oneOf cX12_oneOf 4 (some .int) :: GW) r_s_oneOfB (va_Pc [.ref (ad 0), .int p0, .int p1] (gp D ks (mw ad kk ks.1 V L) (mty kk) sz)) (q_s_oneOfB D ks ad kk V L p0 p1 (va_A (mw ad kk ks.1 V L) sz)) 0 0 (va_A (mw ad kk ks.1 V L) sz) := by
  refine g_met (q_s_oneOfB D ks ad kk V L p0 p1) (by decide) (Nat.le_of_ble_eq_true rfl) ?_
  intro p e s m below meth c A ls H locs hx hb hr hml hown hg hlocks hin hnw hgk hP hK hD hS hA hl
  have hown : s.vm.findClass RX12 = some m.cls := hown
  have hl : lv_has ls 4 [(0, .ref (ad 0)), (1, .int p0), (2, .int p1)] := hl
  have hP : va_P D vwCl (mw ad kk ks.1 V L) H := hP
  have hD : va_D A (mw ad kk ks.1 V L) := hD
  have hK : va_K D vwCl (mty kk) s := hK
  have agV : agr [(0, 7), (0, 8)] [] V V := agr.rf
  have rf_p0 := i_full p0
  have rf_p1 := i_full p1
  have r1 : 0 ≤ ((V 0 8)).toInt ∧ ((V 0 8)).toInt ≤ 70000 := hMV 0 8
  refine lv_iconst (v := 0) hx hb dX12_oneOf_0 (by decide) ?_
  refine lv_istore_n (lv' := [(3, .int 0), (0, .ref (ad 0)), (1, .int p0), (2, .int p1)]) hx hb dX12_oneOf_1 rfl hl (by decide) rfl (fun ls hl => ?_)
  have lp4 : ∀ (fulp4 : Nat) (y2 : Int32) (V3 : Vf) (H : Heap) (locs : List Loc) (ls : Array Slot), 0 ≤ y2.toInt ∧ y2.toInt ≤ 4 → y2.toInt ≤ p1.toInt → (V3 0 8).toInt = (V 0 8).toInt → p1.toInt - y2.toInt < (fulp4 : Int) → agr [(0, 7)] [] V V3 → rgd bM V3 → va_P D vwCl (mw ad kk ks.1 V3 L) H → va_D A (mw ad kk ks.1 V3 L) → va_S A s.heap H locs → lv_has ls 4 [(3, .int y2), (0, .ref (ad 0)), (1, .int p0), (2, .int p1)] → W p l e r_s_oneOfB s m ([.ref (ad 0), .int p0, .int p1] : List Value).toArray below meth c H locs 0 0 (MQ below (q_s_oneOfB D ks ad kk V L p0 p1 A) ([.ref (ad 0), .int p0, .int p1] : List Value).toArray s 0 0 A) (F0 m 2 ls []) := by
    intro fulp4
    induction fulp4 with
    | zero =>
      intro y2 V3 H locs ls klp4_0 xlp4_0 xlp4_1 hn ajV3 hMV3 hP hD hS hl
      exfalso; (first | exact om_4634b1278845 xlp4_0 hn | omega)
    | succ fulp4 ihlp4 =>
      intro y2 V3 H locs ls klp4_0 xlp4_0 xlp4_1 hn ajV3 hMV3 hP hD hS hl
      have agV3 : agr [(0, 7), (0, 8)] [] V V3 := agV.tr ajV3 (by decide) (by decide)
      have pq5 : (V3 0 8).toInt = ((V 0 8)).toInt := congrArg Int32.toInt (ajV3 0 8 rfl)
      refine lv_iload_n hx hb dX12_oneOf_2 rfl (lv_at hl 0 rfl) ?_
      refine lv_iload_n hx hb dX12_oneOf_3 rfl (lv_at hl 3 rfl) ?_
      refine lv_icmp_ge (tgt := 25) hx hb dX12_oneOf_4 (by decide) (fun c6 => ?_) (fun c6 => ?_)
      · skip
        have f7 : p1.toInt ≤ y2.toInt := b_le rfl rfl c6
        refine lv_aload_n hx hb dX12_oneOf_25 rfl (lv_at hl 1 rfl) ?_
        refine lv_iconst (v := 1) hx hb dX12_oneOf_26 (by decide) ?_
        have r8 : Int32.toInt 1 = 1 := by decide
        refine gA_void (gA_runV (As := [.int 1]) (rest := []) (ci := 12) (q0 := 0) hx hb hml hown hg hP hD hK hS hA hnw hgk (s_wrongB l D ks H.size ad kk V3 L 1 hMV3 (show 1 ≤ (V3 0 8).toInt from by (first | exact om_e3c391a03e81 bf pq5 | omega))) w2035 w2037 w86 w172 w2038 rfl rfl hdV_yX12_wrong ⟨Nat.le_of_ble_eq_true rfl, Nat.le_of_ble_eq_true rfl⟩ rfl hl.1 rfl (Nat.le_of_ble_eq_true rfl) dX12_oneOf_27 ⟨Nat.le_of_ble_eq_true rfl, Nat.le_of_ble_eq_true rfl⟩) hP hD hK hS hA (fun u10 H locs w11 hP hD hK hS => ?_)
        obtain ⟨V13, L14⟩ := u10
        obtain ⟨hMV13, ajV13, axL14, t12⟩ := w11
        have axL14 : L = L14 := Eq.symm axL14
        subst axL14
        have hP : va_P D vwCl (mw ad kk ks.1 V13 L) H := hP
        have hD : va_D A (mw ad kk ks.1 V13 L) := hD
        have hMV13 : rgd bM V13 := hMV13
        have ajV13 : agr [(0, 8)] [] V3 V13 := ajV13
        have agV13 : agr [(0, 7), (0, 8)] [] V V13 := agV3.tr ajV13 (by decide) (by decide)
        have t12 : (V13 0 8).toInt = (V3 0 8).toInt := t12
        have r15 : 0 ≤ ((V13 0 8)).toInt ∧ ((V13 0 8)).toInt ≤ 70000 := hMV13 0 8
        refine lv_iconst (v := 0) hx hb dX12_oneOf_30 (by decide) ?_
        exact W.iret (v := 0) hx hb hr (fun t ht hW => ⟨⟨0, (V13, L), rfl, ⟨hMV13, agV13, rfl, (by decide), (show (V13 0 8).toInt = (V 0 8).toInt from by (first | exact om_cd7d0a6a31bc xlp4_1 t12 | omega))⟩, by rw [ht]; exact hP, va_K.moved hW.alike hK, hD⟩, hS.F ht⟩) hS.2.2 dX12_oneOf_31
      · skip
        have f16 : y2.toInt < p1.toInt := b_nle rfl rfl c6
        refine lv_aload_n hx hb dX12_oneOf_7 rfl (lv_at hl 1 rfl) ?_
        refine lv_iload_n hx hb dX12_oneOf_8 rfl (lv_at hl 2 rfl) ?_
        refine lv_iload_n hx hb dX12_oneOf_9 rfl (lv_at hl 0 rfl) ?_
        refine lv_iadd hx hb dX12_oneOf_10 ?_
        refine lv_topi (fun z17 ez17 => ?_)
        have hz17 : z17.toInt = p0.toInt + y2.toInt := i_add ez17 rfl rfl (by (first | exact om_f069f9799d0b rg_p0.1 rg_p0.2 rg_p1.2 klp4_0.1 f16 | omega))
        refine gA_int (gA_runV (As := [.int z17]) (rest := []) (ci := 12) (q0 := 0) hx hb hml hown hg hP hD hK hS hA hnw hgk (s_hasWordB l D ks H.size ad kk V3 L z17 hMV3 (by (first | exact om_c8989bf9160c rg_p0.1 rg_p0.2 rg_p1.2 klp4_0.1 f16 hz17 | omega)) (show 1 ≤ (V3 0 8).toInt from by (first | exact om_e3c391a03e81 bf pq5 | omega))) w2051 w2053 w90 w172 w2054 rfl rfl hdV_yX12_hasWord ⟨Nat.le_of_ble_eq_true rfl, Nat.le_of_ble_eq_true rfl⟩ rfl hl.1 rfl (Nat.le_of_ble_eq_true rfl) dX12_oneOf_11 ⟨Nat.le_of_ble_eq_true rfl, Nat.le_of_ble_eq_true rfl⟩) hP hD hK hS hA (fun z18 u19 H locs w20 hP hD hK hS => ?_)
        obtain ⟨V22, L23⟩ := u19
        obtain ⟨hMV22, ajV22, axL23, rgz18, t21⟩ := w20
        have axL23 : L = L23 := Eq.symm axL23
        subst axL23
        have hP : va_P D vwCl (mw ad kk ks.1 V22 L) H := hP
        have hD : va_D A (mw ad kk ks.1 V22 L) := hD
        have hMV22 : rgd bM V22 := hMV22
        have ajV22 : agr [(0, 7)] [] V3 V22 := ajV22
        have agV22 : agr [(0, 7), (0, 8)] [] V V22 := agV3.tr ajV22 (by decide) (by decide)
        have rgz18 : 0 ≤ z18.toInt ∧ z18.toInt ≤ 0 := rgz18
        have t21 : (V22 0 8).toInt = (V3 0 8).toInt := t21
        have pq24 : (V22 0 8).toInt = ((V 0 8)).toInt := congrArg Int32.toInt ((ajV22 0 8 rfl).trans (ajV3 0 8 rfl))
        refine lv_if_eq (tgt := 19) hx hb dX12_oneOf_14 (by decide) (fun c25 => ?_) (fun c25 => ?_)
        · skip
          have f26 : z18.toInt = 0 := b_eq rfl (by decide) c25
          obtain ⟨z27, ez27⟩ : ∃ y : Int32, y = y2 + 1 := ⟨_, rfl⟩
          have hz27 : z27.toInt = y2.toInt + 1 := i_add ez27 rfl (by decide) (by (first | exact om_f9dc9c403a6b rg_p1.2 klp4_0.1 f16 | omega))
          refine lv_iinc (v := z27) (lv' := [(3, .int z27), (0, .ref (ad 0)), (1, .int p0), (2, .int p1)]) hx hb dX12_oneOf_19 hl (k := 0) rfl (by rw [ez27]; rfl) (by decide) rfl (fun ls hl => ?_)
          refine lv_goto (tgt := 2) hx hb dX12_oneOf_22 (by decide) ?_
          exact ihlp4 z27 V22 H locs ls (by (first | exact om_35946ed5e904 rg_p1.2 klp4_0.1 f16 hz27 | omega)) (show z27.toInt ≤ p1.toInt from by (first | exact om_7fe9249fc074 f16 hz27 | omega)) (show (V22 0 8).toInt = (V 0 8).toInt from by (first | exact om_cd7d0a6a31bc xlp4_1 t21 | omega)) (by (first | exact om_9e7d2b874257 hn hz27 | omega)) (agr.tr (agr.tr agr.rf ajV3 (by decide) (by decide)) ajV22 (by decide) (by decide)) hMV22 hP hD hS (lv_sub hl [0, 1, 2, 3] rfl)
        · skip
          have f28 : z18.toInt ≠ 0 := b_neq rfl (by decide) c25
          exfalso; (first | exact om_0e608cc4b4f6 rgz18.1 rgz18.2 f28 | omega)
  have r29 : Int32.toInt 0 = 0 := by decide
  exact lp4 ((p1.toInt - (Int32.toInt 0) + 1 : Int).toNat) 0 V H locs ls (by decide) (show (Int32.toInt 0) ≤ p1.toInt from by (first | exact om_6f9bb8cf3bec rg_p1.1 r29 | omega)) (show (V 0 8).toInt = (V 0 8).toInt from by (first | exact om_4c2c879c4424 | omega)) (by (first | exact om_7441a7786481 | omega)) agr.rf hMV hP hD hS (lv_sub hl [0, 1, 2, 3] rfl)
abbrev r_s_beginsA : Room := { frames := 1, cells := 0, slots := 0, locals := 21 }
abbrev q_s_beginsA (D : va_G) (ks : KS) (ad : Nat → Nat) (kk : Nat → ClassId) (V : Vf) (L : Lf) (p0 : Int32) (bq : Nat) (gn : Nat) (gT : Tk) (gs : St) (gl : List Int64) (A : Nat → Prop) : Array Value → State → Outcome → State → Prop := va_Qv (fun (u : Vf × Lf) => rgd bM u.1 ∧ agr [(0, 7), (0, 8)] [] V u.1 ∧ u.2 = L ∧ ((p0.toInt = 0 ∧ (u.1 0 8).toInt = 0 ∧ RelM u.1 u.2 bq gn gT (nx gs 1) gl) ∨ (p0.toInt = 1 ∧ 1 ≤ (u.1 0 8).toInt ∧ (u.1 0 8).toInt = 5 + 16 * gT.2.2 (gs.1 0)))) (fun u t => gq D A (mw ad kk ks.1 u.1 u.2) (mty kk) t) A
set_option maxHeartbeats 4000000 in
set_option maxRecDepth 100000 in
theorem s_beginsA (l : Launch) (D : va_G) (ks : KS) (sz : Nat) (ad : Nat → Nat) (kk : Nat → ClassId) (V : Vf) (L : Lf) (p0 : Int32) (bq : Nat) (gn : Nat) (gT : Tk) (gs : St) (gl : List Int64) (hMV : rgd bM V) (rg_p0 : 0 ≤ p0.toInt ∧ p0.toInt ≤ 1) (rel : RelM V L bq gn gT gs gl) (kn0 : gT.1 (gs.1 0) ≠ 0)  : Met l yX12_begins (Cond.code yX12_begins cX12_begins 2 none :: GW) r_s_beginsA (va_Pc [.ref (ad 0), .int p0] (gp D ks (mw ad kk ks.1 V L) (mty kk) sz)) (q_s_beginsA D ks ad kk V L p0 bq gn gT gs gl (va_A (mw ad kk ks.1 V L) sz)) 0 0 (va_A (mw ad kk ks.1 V L) sz) := by
  refine g_met (q_s_beginsA D ks ad kk V L p0 bq gn gT gs gl) (by decide) (Nat.le_of_ble_eq_true rfl) ?_
  intro p e s m below meth c A ls H locs hx hb hr hml hown hg hlocks hin hnw hgk hP hK hD hS hA hl
  have hown : s.vm.findClass RX12 = some m.cls := hown
  have hl : lv_has ls 2 [(0, .ref (ad 0)), (1, .int p0)] := hl
  have hP : va_P D vwCl (mw ad kk ks.1 V L) H := hP
  have hD : va_D A (mw ad kk ks.1 V L) := hD
  have hK : va_K D vwCl (mty kk) s := hK
  have agV : agr [(0, 7), (0, 8)] [] V V := agr.rf
  have rg0 := RelM.rg rel
  have cl0 := RelM.cl rel
  have cq0 := RelM.cq rel
  refine lv_iload_n hx hb dX12_begins_0 rfl (lv_at hl 1 rfl) ?_
  refine lv_if_eq (tgt := 9) hx hb dX12_begins_1 (by decide) (fun c1 => ?_) (fun c1 => ?_)
  · skip
    have f2 : p0.toInt = 0 := b_eq rfl (by decide) c1
    refine lv_aload_n hx hb dX12_begins_9 rfl (lv_at hl 0 rfl) ?_
    refine lv_dup hx hb dX12_begins_10 rfl ?_
    refine va_get (D := D) (ci := 12) (v := .int (V 0 7)) (C := RX12) (T := TX12) (N := 100) hx hb hg inX12 hown hK hP 0 rfl rfl 7 (by decide) (hg _ w1713) (fun _ h9 => h9) rfl dX12_begins_11 ?_
    refine lv_iconst (v := 1) hx hb dX12_begins_14 (by decide) ?_
    refine lv_iadd hx hb dX12_begins_15 ?_
    refine lv_topi (fun z3 ez3 => ?_)
    have hz3 : z3.toInt = ((V 0 7)).toInt + 1 := i_add ez3 rfl (by decide) (by omega)
    refine va_put (D := D) (ci := 12) (v := .int z3) (ty := tyX12 7) (C := RX12) (T := TX12) (N := 100) hx hb hg inX12 tyX12 tyX12_ok nmX12 hown hK hP hD hS 0 rfl rfl 7 (by decide) (hg _ w1713) (fun _ h9 => h9) rfl (tyX12_ok 7 (by decide)) rfl rfl (Nat.le_of_ble_eq_true rfl) dX12_begins_16 (fun H locs hP hD hS => ?_)
    obtain ⟨V4, hV4⟩ : ∃ z, z = up2 V 0 7 z3 := ⟨_, rfl⟩
    have hP : va_P D vwCl (mw ad kk ks.1 V4 L) H := by rw [hV4]; exact hP
    have hD : va_D A (mw ad kk ks.1 V4 L) := by rw [hV4]; exact hD
    have hMV4 : rgd bM V4 := hMV.put hV4 (i_full _)
    have agV4 : agr [(0, 7), (0, 8)] [] V V4 := agV.up hV4 rfl
    have pq5 : (V4 0 8).toInt = ((V 0 8)).toInt := congrArg Int32.toInt (up2_k hV4 (by decide))
    have r6 : 0 ≤ ((V 0 8)).toInt ∧ ((V 0 8)).toInt ≤ 70000 := hMV 0 8
    exact W.vret hx hb hr (fun t ht hW => ⟨⟨(V4, L), rfl, ⟨hMV4, agV4, rfl, (Or.inl ⟨(by omega), W0 (RelM.n1 rel hV4 (by (first | exact om_55c67efb91e5 hz3 | omega)) kn0), (RelM.n1 rel hV4 (by (first | exact om_55c67efb91e5 hz3 | omega)) kn0)⟩)⟩, by rw [ht]; exact hP, va_K.moved hW.alike hK, hD⟩, hS.F ht⟩) hS.2.2 dX12_begins_19
  · skip
    have f7 : p0.toInt ≠ 0 := b_neq rfl (by decide) c1
    refine lv_aload_n hx hb dX12_begins_4 rfl (lv_at hl 0 rfl) ?_
    refine lv_iconst (v := 5) hx hb dX12_begins_5 (by decide) ?_
    have r8 : Int32.toInt 5 = 5 := by decide
    refine gA_void (gA_runV (As := [.int 5]) (rest := []) (ci := 12) (q0 := 0) hx hb hml hown hg hP hD hK hS hA hnw hgk (s_wrongA l D ks H.size ad kk V L 5 (bq) (gn) (gT) (gs) (gl) hMV (by decide) rel) w2035 w2037 w86 w172 w2038 rfl rfl hdV_yX12_wrong ⟨Nat.le_of_ble_eq_true rfl, Nat.le_of_ble_eq_true rfl⟩ rfl hl.1 rfl (Nat.le_of_ble_eq_true rfl) dX12_begins_6 ⟨Nat.le_of_ble_eq_true rfl, Nat.le_of_ble_eq_true rfl⟩) hP hD hK hS hA (fun u10 H locs w11 hP hD hK hS => ?_)
    obtain ⟨V14, L15⟩ := u10
    obtain ⟨hMV14, ajV14, axL15, t12, t13⟩ := w11
    have axL15 : L = L15 := Eq.symm axL15
    subst axL15
    have hP : va_P D vwCl (mw ad kk ks.1 V14 L) H := hP
    have hD : va_D A (mw ad kk ks.1 V14 L) := hD
    have hMV14 : rgd bM V14 := hMV14
    have ajV14 : agr [(0, 8)] [] V V14 := ajV14
    have agV14 : agr [(0, 7), (0, 8)] [] V V14 := agV.tr ajV14 (by decide) (by decide)
    have t12 : 1 ≤ (V14 0 8).toInt := t12
    have t13 : (V14 0 8).toInt = (Int32.toInt 5) + 16 * (gT).2.2 ((gs).1 0) := t13
    have r16 : 0 ≤ ((V14 0 8)).toInt ∧ ((V14 0 8)).toInt ≤ 70000 := hMV14 0 8
    refine lv_aload_n hx hb dX12_begins_9 rfl (lv_at hl 0 rfl) ?_
    refine lv_dup hx hb dX12_begins_10 rfl ?_
    refine va_get (D := D) (ci := 12) (v := .int (V14 0 7)) (C := RX12) (T := TX12) (N := 100) hx hb hg inX12 hown hK hP 0 rfl rfl 7 (by decide) (hg _ w1713) (fun _ h9 => h9) rfl dX12_begins_11 ?_
    refine g_top (v := (V 0 7)) (ajV14 0 7 rfl) ?_
    refine lv_iconst (v := 1) hx hb dX12_begins_14 (by decide) ?_
    refine lv_iadd hx hb dX12_begins_15 ?_
    refine lv_topi (fun z17 ez17 => ?_)
    have hz17 : z17.toInt = ((V 0 7)).toInt + 1 := i_add ez17 rfl (by decide) (by omega)
    refine va_put (D := D) (ci := 12) (v := .int z17) (ty := tyX12 7) (C := RX12) (T := TX12) (N := 100) hx hb hg inX12 tyX12 tyX12_ok nmX12 hown hK hP hD hS 0 rfl rfl 7 (by decide) (hg _ w1713) (fun _ h9 => h9) rfl (tyX12_ok 7 (by decide)) rfl rfl (Nat.le_of_ble_eq_true rfl) dX12_begins_16 (fun H locs hP hD hS => ?_)
    obtain ⟨V18, hV18⟩ : ∃ z, z = up2 V14 0 7 z17 := ⟨_, rfl⟩
    have hP : va_P D vwCl (mw ad kk ks.1 V18 L) H := by rw [hV18]; exact hP
    have hD : va_D A (mw ad kk ks.1 V18 L) := by rw [hV18]; exact hD
    have hMV18 : rgd bM V18 := hMV14.put hV18 (i_full _)
    have agV18 : agr [(0, 7), (0, 8)] [] V V18 := agV14.up hV18 rfl
    have pq19 : (V18 0 8).toInt = ((V14 0 8)).toInt := congrArg Int32.toInt (up2_k hV18 (by decide))
    exact W.vret hx hb hr (fun t ht hW => ⟨⟨(V18, L), rfl, ⟨hMV18, agV18, rfl, (Or.inr ⟨(by omega), (show 1 ≤ (V18 0 8).toInt from by (first | exact om_e3c391a03e81 t12 pq19 | omega)), (show (V18 0 8).toInt = 5 + 16 * gT.2.2 (gs.1 0) from by omega)⟩)⟩, by rw [ht]; exact hP, va_K.moved hW.alike hK, hD⟩, hS.F ht⟩) hS.2.2 dX12_begins_19
abbrev r_s_newNameA : Room := { frames := 1, cells := 0, slots := 0, locals := 27 }
abbrev q_s_newNameA (D : va_G) (ks : KS) (ad : Nat → Nat) (kk : Nat → ClassId) (V : Vf) (L : Lf) (bq : Nat) (gn : Nat) (gT : Tk) (gs : St) (A : Nat → Prop) : Array Value → State → Outcome → State → Prop := va_Ql (fun (r : Int64) (u : Vf × Lf) => rgd bM u.1 ∧ agr [(0, 7), (0, 8)] [] V u.1 ∧ u.2 = L ∧ (KmW (newN gT gs) (u.1 0 8).toInt (fun w9 => RelM u.1 u.2 bq gn gT (nx gs 1) (gs.2.1 2) ∧ isTold gs w9 = false ∧ r = w9))) (fun u t => gq D A (mw ad kk ks.1 u.1 u.2) (mty kk) t) A
set_option maxHeartbeats 4000000 in
set_option maxRecDepth 100000 in
theorem s_newNameA (l : Launch) (D : va_G) (ks : KS) (sz : Nat) (ad : Nat → Nat) (kk : Nat → ClassId) (V : Vf) (L : Lf) (bq : Nat) (gn : Nat) (gT : Tk) (gs : St) (hMV : rgd bM V) (rel : RelM V L bq gn gT gs (gs.2.1 2))  : Met l yX12_newName (Cond.code yX12_newName cX12_newName 1 (some .long) :: GW) r_s_newNameA (va_Pc [.ref (ad 0)] (gp D ks (mw ad kk ks.1 V L) (mty kk) sz)) (q_s_newNameA D ks ad kk V L  bq gn gT gs (va_A (mw ad kk ks.1 V L) sz)) 0 0 (va_A (mw ad kk ks.1 V L) sz) := by
  refine g_met (q_s_newNameA D ks ad kk V L  bq gn gT gs) (by decide) (Nat.le_of_ble_eq_true rfl) ?_
  intro p e s m below meth c A ls H locs hx hb hr hml hown hg hlocks hin hnw hgk hP hK hD hS hA hl
  have hown : s.vm.findClass RX12 = some m.cls := hown
  have hl : lv_has ls 1 [(0, .ref (ad 0))] := hl
  have hP : va_P D vwCl (mw ad kk ks.1 V L) H := hP
  have hD : va_D A (mw ad kk ks.1 V L) := hD
  have hK : va_K D vwCl (mty kk) s := hK
  have agV : agr [(0, 7), (0, 8)] [] V V := agr.rf
  have rg0 := RelM.rg rel
  have cl0 := RelM.cl rel
  have cq0 := RelM.cq rel
  refine lv_aload_n hx hb dX12_newName_0 rfl (lv_at hl 0 rfl) ?_
  refine va_get (D := D) (ci := 12) (v := .int (V 0 8)) (C := RX12) (T := TX12) (N := 100) hx hb hg inX12 hown hK hP 0 rfl rfl 8 (by decide) (hg _ w1714) (fun _ h9 => h9) rfl dX12_newName_1 ?_
  have r1 : 0 ≤ ((V 0 8)).toInt ∧ ((V 0 8)).toInt ≤ 70000 := hMV 0 8
  refine lv_if_ne (tgt := 22) hx hb dX12_newName_4 (by decide) (fun c2 => ?_) (fun c2 => ?_)
  · skip
    have f3 : ((V 0 8)).toInt ≠ 0 := b_neq rfl (by decide) c2
    exfalso; (first | exact om_0b51723c7ef6 rg0.2.2.1 f3 | omega)
  · skip
    have f4 : ((V 0 8)).toInt = 0 := b_eq rfl (by decide) c2
    refine lv_aload_n hx hb dX12_newName_7 rfl (lv_at hl 0 rfl) ?_
    refine gA_int (gA_runV (As := []) (rest := []) (ci := 12) (q0 := 0) hx hb hml hown hg hP hD hK hS hA hnw hgk (s_isNameA l D ks H.size ad kk V L (bq) (gn) (gT) (gs) ((gs.2.1 2)) hMV rel) w2043 w2045 w88 w172 w2046 rfl rfl hdV_yX12_isName ⟨Nat.le_of_ble_eq_true rfl, Nat.le_of_ble_eq_true rfl⟩ rfl hl.1 rfl (Nat.le_of_ble_eq_true rfl) dX12_newName_8 ⟨Nat.le_of_ble_eq_true rfl, Nat.le_of_ble_eq_true rfl⟩) hP hD hK hS hA (fun z5 u6 H locs w7 hP hD hK hS => ?_)
    obtain ⟨rgz5, t8⟩ := w7
    have rgz5 : 0 ≤ z5.toInt ∧ z5.toInt ≤ 1 := rgz5
    have t8 : (z5.toInt = 1 ∧ (gT).1 ((gs).1 0) = 3) ∨ (z5.toInt = 0 ∧ (gT).1 ((gs).1 0) ≠ 3) := t8
    rcases t8 with ⟨q9, h10⟩ | ⟨q9, h10⟩
    · skip
      refine lv_if_ne (tgt := 22) hx hb dX12_newName_11 (by decide) (fun c11 => ?_) (fun c11 => ?_)
      · skip
        have f12 : z5.toInt ≠ 0 := b_neq rfl (by decide) c11
        have vl3 := RelM.vl rel (Or.inr h10)
        refine lv_aload_n hx hb dX12_newName_22 rfl (lv_at hl 0 rfl) ?_
        refine va_get (D := D) (ci := 12) (v := .int (V 0 8)) (C := RX12) (T := TX12) (N := 100) hx hb hg inX12 hown hK hP 0 rfl rfl 8 (by decide) (hg _ w1714) (fun _ h9 => h9) rfl dX12_newName_23 ?_
        refine lv_if_ne (tgt := 142) hx hb dX12_newName_26 (by decide) (fun c13 => ?_) (fun c13 => ?_)
        · skip
          have f14 : ((V 0 8)).toInt ≠ 0 := b_neq rfl (by decide) c13
          exfalso; (first | exact om_fb320d7600b7 r1.1 f4 f14 | omega)
        · skip
          have f15 : ((V 0 8)).toInt = 0 := b_eq rfl (by decide) c13
          refine lv_aload_n hx hb dX12_newName_29 rfl (lv_at hl 0 rfl) ?_
          refine lv_aload_n hx hb dX12_newName_30 rfl (lv_at hl 0 rfl) ?_
          refine va_get (D := D) (ci := 12) (v := .ref (ad 14)) (C := RX12) (T := TX12) (N := 100) hx hb hg inX12 hown hK hP 0 rfl rfl 14 (by decide) (hg _ w1720) (fun _ h9 => h9) rfl dX12_newName_31 ?_
          refine lv_bipush (v := 24) hx hb dX12_newName_34 (by decide) ?_
          refine lv_aload_n hx hb dX12_newName_36 rfl (lv_at hl 0 rfl) ?_
          refine va_get (D := D) (ci := 12) (v := .int (V 0 12)) (C := RX12) (T := TX12) (N := 100) hx hb hg inX12 hown hK hP 0 rfl rfl 12 (by decide) (hg _ w1718) (fun _ h9 => h9) rfl dX12_newName_37 ?_
          have r16 : 0 ≤ ((V 0 12)).toInt ∧ ((V 0 12)).toInt ≤ 1 := hMV 0 12
          refine lv_imul hx hb dX12_newName_40 ?_
          refine lv_topi (fun z17 ez17 => ?_)
          have hz17 : z17.toInt = 24 * ((V 0 12)).toInt := i_mul ez17 (by decide) rfl (by (first | exact om_3f8aba7b6ce1 r16.1 r16.2 | omega))
          refine lv_aload_n hx hb dX12_newName_41 rfl (lv_at hl 0 rfl) ?_
          refine va_get (D := D) (ci := 12) (v := .ref (ad 13)) (C := RX12) (T := TX12) (N := 100) hx hb hg inX12 hown hK hP 0 rfl rfl 13 (by decide) (hg _ w1719) (fun _ h9 => h9) rfl dX12_newName_42 ?_
          refine lv_aload_n hx hb dX12_newName_45 rfl (lv_at hl 0 rfl) ?_
          refine va_get (D := D) (ci := 12) (v := .int (V 0 12)) (C := RX12) (T := TX12) (N := 100) hx hb hg inX12 hown hK hP 0 rfl rfl 12 (by decide) (hg _ w1718) (fun _ h9 => h9) rfl dX12_newName_46 ?_
          refine va_iald (D := D) (i := (V 0 12)) hx hb hK hP 6 5 rfl rfl (i_in (a := ((V 0 12)).toInt) rfl (by (first | exact om_27c603097004 rg0.2.2.2.1 rg0.2.2.2.2.1 | omega))) dX12_newName_49 ?_
          have r18 : 0 ≤ ((V 13 (Int32.toNatClampNeg (V 0 12)))).toInt ∧ ((V 13 (Int32.toNatClampNeg (V 0 12)))).toInt ≤ 24 := hMV 13 (Int32.toNatClampNeg (V 0 12))
          refine lv_aload_n hx hb dX12_newName_50 rfl (lv_at hl 0 rfl) ?_
          refine va_get (D := D) (ci := 12) (v := .ref (ad 6)) (C := RX12) (T := TX12) (N := 100) hx hb hg inX12 hown hK hP 0 rfl rfl 6 (by decide) (hg _ w1712) (fun _ h9 => h9) rfl dX12_newName_51 ?_
          refine lv_aload_n hx hb dX12_newName_54 rfl (lv_at hl 0 rfl) ?_
          refine va_get (D := D) (ci := 12) (v := .int (V 0 7)) (C := RX12) (T := TX12) (N := 100) hx hb hg inX12 hown hK hP 0 rfl rfl 7 (by decide) (hg _ w1713) (fun _ h9 => h9) rfl dX12_newName_55 ?_
          refine va_lald (D := D) (i := (V 0 7)) hx hb hK hP 4 3 rfl rfl (i_in (a := ((V 0 7)).toInt) rfl (by omega)) dX12_newName_58 ?_
          refine gA_int (gA_runV (As := [.ref (ad 14), .int z17, .int (V 13 (Int32.toNatClampNeg (V 0 12))), .long (L 6 (Int32.toNatClampNeg (V 0 7)))]) (rest := []) (ci := 12) (q0 := 0) hx hb hml hown hg hP hD hK hS hA hnw hgk (s_find2_typeName l D ks H.size ad kk V L z17 (V 13 (Int32.toNatClampNeg (V 0 12))) (L 6 (Int32.toNatClampNeg (V 0 7))) hMV (by (first | exact om_c44c09625d4d r16.1 r16.2 hz17 | omega)) (by (first | exact om_f82fee59341f r18.1 r18.2 | omega)) (show z17.toInt + ((V 13 (Int32.toNatClampNeg (V 0 12)))).toInt ≤ 48 from by (first | exact om_6f18d472129c r16.2 hz17 r18.2 | omega))) w2047 w2049 w89 w172 w2050 rfl rfl hdV_yX12_find ⟨Nat.le_of_ble_eq_true rfl, Nat.le_of_ble_eq_true rfl⟩ rfl hl.1 rfl (Nat.le_of_ble_eq_true rfl) dX12_newName_59 ⟨Nat.le_of_ble_eq_true rfl, Nat.le_of_ble_eq_true rfl⟩) hP hD hK hS hA (fun z19 u20 H locs w21 hP hD hK hS => ?_)
          obtain ⟨rgz19, t22, t23⟩ := w21
          have rgz19 : (-1) ≤ z19.toInt ∧ z19.toInt ≤ 47 := rgz19
          have t22 : z19.toInt < ((V 13 (Int32.toNatClampNeg (V 0 12)))).toInt := t22
          have t23 : LF (fun i => L 14 (z17.toInt.toNat + i)) ((V 13 (Int32.toNatClampNeg (V 0 12)))).toInt ((L 6 (Int32.toNatClampNeg (V 0 7)))) z19.toInt := t23
          have lf24 : LF (fun i => L 14 (24 * bq + i)) (V 13 bq).toInt (L 6 (Int32.toNatClampNeg (V 0 7))) z19.toInt := by have h9 := t23; rw [show z17.toInt.toNat = 24 * bq from by omega, show ((V 13 (Int32.toNatClampNeg (V 0 12)))).toInt = (V 13 bq).toInt from by rw [cq0]] at h9; exact h9
          refine lv_if_ge (tgt := 137) hx hb dX12_newName_62 (by decide) (fun c25 => ?_) (fun c25 => ?_)
          · skip
            have f26 : 0 ≤ z19.toInt := b_le (by decide) rfl c25
            refine lv_aload_n hx hb dX12_newName_137 rfl (lv_at hl 0 rfl) ?_
            refine lv_iconst (v := 3) hx hb dX12_newName_138 (by decide) ?_
            have r27 : Int32.toInt 3 = 3 := by decide
            refine gA_void (gA_runV (As := [.int 3]) (rest := []) (ci := 12) (q0 := 0) hx hb hml hown hg hP hD hK hS hA hnw hgk (s_wrongA l D ks H.size ad kk V L 3 (bq) (gn) (gT) (gs) ((gs.2.1 2)) hMV (by decide) rel) w2035 w2037 w86 w172 w2038 rfl rfl hdV_yX12_wrong ⟨Nat.le_of_ble_eq_true rfl, Nat.le_of_ble_eq_true rfl⟩ rfl hl.1 rfl (Nat.le_of_ble_eq_true rfl) dX12_newName_139 ⟨Nat.le_of_ble_eq_true rfl, Nat.le_of_ble_eq_true rfl⟩) hP hD hK hS hA (fun u29 H locs w30 hP hD hK hS => ?_)
            obtain ⟨V33, L34⟩ := u29
            obtain ⟨hMV33, ajV33, axL34, t31, t32⟩ := w30
            have axL34 : L = L34 := Eq.symm axL34
            subst axL34
            have hP : va_P D vwCl (mw ad kk ks.1 V33 L) H := hP
            have hD : va_D A (mw ad kk ks.1 V33 L) := hD
            have hMV33 : rgd bM V33 := hMV33
            have ajV33 : agr [(0, 8)] [] V V33 := ajV33
            have agV33 : agr [(0, 7), (0, 8)] [] V V33 := agV.tr ajV33 (by decide) (by decide)
            have t31 : 1 ≤ (V33 0 8).toInt := t31
            have t32 : (V33 0 8).toInt = (Int32.toInt 3) + 16 * (gT).2.2 ((gs).1 0) := t32
            have r35 : 0 ≤ ((V33 0 8)).toInt ∧ ((V33 0 8)).toInt ≤ 70000 := hMV33 0 8
            refine lv_aload_n hx hb dX12_newName_142 rfl (lv_at hl 0 rfl) ?_
            refine lv_dup hx hb dX12_newName_143 rfl ?_
            refine va_get (D := D) (ci := 12) (v := .int (V33 0 7)) (C := RX12) (T := TX12) (N := 100) hx hb hg inX12 hown hK hP 0 rfl rfl 7 (by decide) (hg _ w1713) (fun _ h9 => h9) rfl dX12_newName_144 ?_
            refine g_top (v := (V 0 7)) (ajV33 0 7 rfl) ?_
            refine lv_iconst (v := 1) hx hb dX12_newName_147 (by decide) ?_
            refine lv_iadd hx hb dX12_newName_148 ?_
            refine lv_topi (fun z36 ez36 => ?_)
            have hz36 : z36.toInt = ((V 0 7)).toInt + 1 := i_add ez36 rfl (by decide) (by omega)
            refine va_put (D := D) (ci := 12) (v := .int z36) (ty := tyX12 7) (C := RX12) (T := TX12) (N := 100) hx hb hg inX12 tyX12 tyX12_ok nmX12 hown hK hP hD hS 0 rfl rfl 7 (by decide) (hg _ w1713) (fun _ h9 => h9) rfl (tyX12_ok 7 (by decide)) rfl rfl (Nat.le_of_ble_eq_true rfl) dX12_newName_149 (fun H locs hP hD hS => ?_)
            obtain ⟨V37, hV37⟩ : ∃ z, z = up2 V33 0 7 z36 := ⟨_, rfl⟩
            have hP : va_P D vwCl (mw ad kk ks.1 V37 L) H := by rw [hV37]; exact hP
            have hD : va_D A (mw ad kk ks.1 V37 L) := by rw [hV37]; exact hD
            have hMV37 : rgd bM V37 := hMV33.put hV37 (i_full _)
            have agV37 : agr [(0, 7), (0, 8)] [] V V37 := agV33.up hV37 rfl
            refine lv_aload_n hx hb dX12_newName_152 rfl (lv_at hl 0 rfl) ?_
            refine va_get (D := D) (ci := 12) (v := .ref (ad 6)) (C := RX12) (T := TX12) (N := 100) hx hb hg inX12 hown hK hP 0 rfl rfl 6 (by decide) (hg _ w1712) (fun _ h9 => h9) rfl dX12_newName_153 ?_
            refine lv_aload_n hx hb dX12_newName_156 rfl (lv_at hl 0 rfl) ?_
            refine va_get (D := D) (ci := 12) (v := .int (V37 0 7)) (C := RX12) (T := TX12) (N := 100) hx hb hg inX12 hown hK hP 0 rfl rfl 7 (by decide) (hg _ w1713) (fun _ h9 => h9) rfl dX12_newName_157 ?_
            refine g_top (v := z36) (up2_s hV37) ?_
            refine lv_iconst (v := 1) hx hb dX12_newName_160 (by decide) ?_
            refine lv_isub hx hb dX12_newName_161 ?_
            refine lv_topi (fun z38 ez38 => ?_)
            have hz38 : z38.toInt = z36.toInt - 1 := i_sub ez38 rfl (by decide) (by omega)
            have q39 : z38 = (V 0 7) := Int32.toInt_inj.mp (by omega)
            rw [q39]
            refine va_lald (D := D) (i := (V 0 7)) hx hb hK hP 4 3 rfl rfl (i_in (a := ((V 0 7)).toInt) rfl (by omega)) dX12_newName_162 ?_
            have pq40 : (V37 0 8).toInt = ((V33 0 8)).toInt := congrArg Int32.toInt (up2_k hV37 (by decide))
            exact W.lret (v := (L 6 (Int32.toNatClampNeg (V 0 7)))) hx hb hr (fun t ht hW => ⟨⟨(L 6 (Int32.toNatClampNeg (V 0 7))), (V37, L), rfl, ⟨hMV37, agV37, rfl, (Or.inr ⟨(show 1 ≤ (V37 0 8).toInt from by (first | exact om_e3c391a03e81 t31 pq40 | omega)), fun kk => (newN_3 h10 (told_1 (by rw [vl3, ← cl0]; exact LF.yes lf24 rel.2.2.1.1.1 rel.2.2.1.1.2 (by omega))) kk).trans (fl_eq rfl (show (V37 0 8).toInt = 3 + 16 * gT.2.2 (gs.1 0) from by omega))⟩)⟩, by rw [ht]; exact hP, va_K.moved hW.alike hK, hD⟩, hS.F ht⟩) hS.2.2 dX12_newName_163
          · skip
            have f41 : z19.toInt < 0 := b_nle (by decide) rfl c25
            refine lv_aload_n hx hb dX12_newName_65 rfl (lv_at hl 0 rfl) ?_
            refine lv_aload_n hx hb dX12_newName_66 rfl (lv_at hl 0 rfl) ?_
            refine va_get (D := D) (ci := 12) (v := .ref (ad 17)) (C := RX12) (T := TX12) (N := 100) hx hb hg inX12 hown hK hP 0 rfl rfl 17 (by decide) (hg _ w1723) (fun _ h9 => h9) rfl dX12_newName_67 ?_
            refine lv_bipush (v := 12) hx hb dX12_newName_70 (by decide) ?_
            refine lv_aload_n hx hb dX12_newName_72 rfl (lv_at hl 0 rfl) ?_
            refine va_get (D := D) (ci := 12) (v := .int (V 0 12)) (C := RX12) (T := TX12) (N := 100) hx hb hg inX12 hown hK hP 0 rfl rfl 12 (by decide) (hg _ w1718) (fun _ h9 => h9) rfl dX12_newName_73 ?_
            refine lv_imul hx hb dX12_newName_76 ?_
            refine lv_topi (fun z42 ez42 => ?_)
            have hz42 : z42.toInt = 12 * ((V 0 12)).toInt := i_mul ez42 (by decide) rfl (by (first | exact om_630bd6ee60c3 r16.1 r16.2 | omega))
            refine lv_aload_n hx hb dX12_newName_77 rfl (lv_at hl 0 rfl) ?_
            refine va_get (D := D) (ci := 12) (v := .ref (ad 16)) (C := RX12) (T := TX12) (N := 100) hx hb hg inX12 hown hK hP 0 rfl rfl 16 (by decide) (hg _ w1722) (fun _ h9 => h9) rfl dX12_newName_78 ?_
            refine lv_aload_n hx hb dX12_newName_81 rfl (lv_at hl 0 rfl) ?_
            refine va_get (D := D) (ci := 12) (v := .int (V 0 12)) (C := RX12) (T := TX12) (N := 100) hx hb hg inX12 hown hK hP 0 rfl rfl 12 (by decide) (hg _ w1718) (fun _ h9 => h9) rfl dX12_newName_82 ?_
            refine va_iald (D := D) (i := (V 0 12)) hx hb hK hP 9 8 rfl rfl (i_in (a := ((V 0 12)).toInt) rfl (by (first | exact om_27c603097004 rg0.2.2.2.1 rg0.2.2.2.2.1 | omega))) dX12_newName_85 ?_
            have r43 : 0 ≤ ((V 16 (Int32.toNatClampNeg (V 0 12)))).toInt ∧ ((V 16 (Int32.toNatClampNeg (V 0 12)))).toInt ≤ 12 := hMV 16 (Int32.toNatClampNeg (V 0 12))
            refine lv_aload_n hx hb dX12_newName_86 rfl (lv_at hl 0 rfl) ?_
            refine va_get (D := D) (ci := 12) (v := .ref (ad 6)) (C := RX12) (T := TX12) (N := 100) hx hb hg inX12 hown hK hP 0 rfl rfl 6 (by decide) (hg _ w1712) (fun _ h9 => h9) rfl dX12_newName_87 ?_
            refine lv_aload_n hx hb dX12_newName_90 rfl (lv_at hl 0 rfl) ?_
            refine va_get (D := D) (ci := 12) (v := .int (V 0 7)) (C := RX12) (T := TX12) (N := 100) hx hb hg inX12 hown hK hP 0 rfl rfl 7 (by decide) (hg _ w1713) (fun _ h9 => h9) rfl dX12_newName_91 ?_
            refine va_lald (D := D) (i := (V 0 7)) hx hb hK hP 4 3 rfl rfl (i_in (a := ((V 0 7)).toInt) rfl (by omega)) dX12_newName_94 ?_
            refine gA_int (gA_runV (As := [.ref (ad 17), .int z42, .int (V 16 (Int32.toNatClampNeg (V 0 12))), .long (L 6 (Int32.toNatClampNeg (V 0 7)))]) (rest := []) (ci := 12) (q0 := 0) hx hb hml hown hg hP hD hK hS hA hnw hgk (s_find2_settingName l D ks H.size ad kk V L z42 (V 16 (Int32.toNatClampNeg (V 0 12))) (L 6 (Int32.toNatClampNeg (V 0 7))) hMV (by (first | exact om_cbb4348e7513 r16.1 r16.2 hz42 | omega)) (by (first | exact om_f5a2411b9512 r43.1 r43.2 | omega)) (show z42.toInt + ((V 16 (Int32.toNatClampNeg (V 0 12)))).toInt ≤ 24 from by (first | exact om_789d02abd9c5 r16.2 hz42 r43.2 | omega))) w2047 w2049 w89 w172 w2050 rfl rfl hdV_yX12_find ⟨Nat.le_of_ble_eq_true rfl, Nat.le_of_ble_eq_true rfl⟩ rfl hl.1 rfl (Nat.le_of_ble_eq_true rfl) dX12_newName_95 ⟨Nat.le_of_ble_eq_true rfl, Nat.le_of_ble_eq_true rfl⟩) hP hD hK hS hA (fun z44 u45 H locs w46 hP hD hK hS => ?_)
            obtain ⟨rgz44, t47, t48⟩ := w46
            have rgz44 : (-1) ≤ z44.toInt ∧ z44.toInt ≤ 47 := rgz44
            have t47 : z44.toInt < ((V 16 (Int32.toNatClampNeg (V 0 12)))).toInt := t47
            have t48 : LF (fun i => L 17 (z42.toInt.toNat + i)) ((V 16 (Int32.toNatClampNeg (V 0 12)))).toInt ((L 6 (Int32.toNatClampNeg (V 0 7)))) z44.toInt := t48
            have lf49 : LF (fun i => L 17 (12 * bq + i)) (V 16 bq).toInt (L 6 (Int32.toNatClampNeg (V 0 7))) z44.toInt := by have h9 := t48; rw [show z42.toInt.toNat = 12 * bq from by omega, show ((V 16 (Int32.toNatClampNeg (V 0 12)))).toInt = (V 16 bq).toInt from by rw [cq0]] at h9; exact h9
            refine lv_if_ge (tgt := 137) hx hb dX12_newName_98 (by decide) (fun c50 => ?_) (fun c50 => ?_)
            · skip
              have f51 : 0 ≤ z44.toInt := b_le (by decide) rfl c50
              refine lv_aload_n hx hb dX12_newName_137 rfl (lv_at hl 0 rfl) ?_
              refine lv_iconst (v := 3) hx hb dX12_newName_138 (by decide) ?_
              have r52 : Int32.toInt 3 = 3 := by decide
              refine gA_void (gA_runV (As := [.int 3]) (rest := []) (ci := 12) (q0 := 0) hx hb hml hown hg hP hD hK hS hA hnw hgk (s_wrongA l D ks H.size ad kk V L 3 (bq) (gn) (gT) (gs) ((gs.2.1 2)) hMV (by decide) rel) w2035 w2037 w86 w172 w2038 rfl rfl hdV_yX12_wrong ⟨Nat.le_of_ble_eq_true rfl, Nat.le_of_ble_eq_true rfl⟩ rfl hl.1 rfl (Nat.le_of_ble_eq_true rfl) dX12_newName_139 ⟨Nat.le_of_ble_eq_true rfl, Nat.le_of_ble_eq_true rfl⟩) hP hD hK hS hA (fun u54 H locs w55 hP hD hK hS => ?_)
              obtain ⟨V58, L59⟩ := u54
              obtain ⟨hMV58, ajV58, axL59, t56, t57⟩ := w55
              have axL59 : L = L59 := Eq.symm axL59
              subst axL59
              have hP : va_P D vwCl (mw ad kk ks.1 V58 L) H := hP
              have hD : va_D A (mw ad kk ks.1 V58 L) := hD
              have hMV58 : rgd bM V58 := hMV58
              have ajV58 : agr [(0, 8)] [] V V58 := ajV58
              have agV58 : agr [(0, 7), (0, 8)] [] V V58 := agV.tr ajV58 (by decide) (by decide)
              have t56 : 1 ≤ (V58 0 8).toInt := t56
              have t57 : (V58 0 8).toInt = (Int32.toInt 3) + 16 * (gT).2.2 ((gs).1 0) := t57
              have r60 : 0 ≤ ((V58 0 8)).toInt ∧ ((V58 0 8)).toInt ≤ 70000 := hMV58 0 8
              refine lv_aload_n hx hb dX12_newName_142 rfl (lv_at hl 0 rfl) ?_
              refine lv_dup hx hb dX12_newName_143 rfl ?_
              refine va_get (D := D) (ci := 12) (v := .int (V58 0 7)) (C := RX12) (T := TX12) (N := 100) hx hb hg inX12 hown hK hP 0 rfl rfl 7 (by decide) (hg _ w1713) (fun _ h9 => h9) rfl dX12_newName_144 ?_
              refine g_top (v := (V 0 7)) (ajV58 0 7 rfl) ?_
              refine lv_iconst (v := 1) hx hb dX12_newName_147 (by decide) ?_
              refine lv_iadd hx hb dX12_newName_148 ?_
              refine lv_topi (fun z61 ez61 => ?_)
              have hz61 : z61.toInt = ((V 0 7)).toInt + 1 := i_add ez61 rfl (by decide) (by omega)
              refine va_put (D := D) (ci := 12) (v := .int z61) (ty := tyX12 7) (C := RX12) (T := TX12) (N := 100) hx hb hg inX12 tyX12 tyX12_ok nmX12 hown hK hP hD hS 0 rfl rfl 7 (by decide) (hg _ w1713) (fun _ h9 => h9) rfl (tyX12_ok 7 (by decide)) rfl rfl (Nat.le_of_ble_eq_true rfl) dX12_newName_149 (fun H locs hP hD hS => ?_)
              obtain ⟨V62, hV62⟩ : ∃ z, z = up2 V58 0 7 z61 := ⟨_, rfl⟩
              have hP : va_P D vwCl (mw ad kk ks.1 V62 L) H := by rw [hV62]; exact hP
              have hD : va_D A (mw ad kk ks.1 V62 L) := by rw [hV62]; exact hD
              have hMV62 : rgd bM V62 := hMV58.put hV62 (i_full _)
              have agV62 : agr [(0, 7), (0, 8)] [] V V62 := agV58.up hV62 rfl
              refine lv_aload_n hx hb dX12_newName_152 rfl (lv_at hl 0 rfl) ?_
              refine va_get (D := D) (ci := 12) (v := .ref (ad 6)) (C := RX12) (T := TX12) (N := 100) hx hb hg inX12 hown hK hP 0 rfl rfl 6 (by decide) (hg _ w1712) (fun _ h9 => h9) rfl dX12_newName_153 ?_
              refine lv_aload_n hx hb dX12_newName_156 rfl (lv_at hl 0 rfl) ?_
              refine va_get (D := D) (ci := 12) (v := .int (V62 0 7)) (C := RX12) (T := TX12) (N := 100) hx hb hg inX12 hown hK hP 0 rfl rfl 7 (by decide) (hg _ w1713) (fun _ h9 => h9) rfl dX12_newName_157 ?_
              refine g_top (v := z61) (up2_s hV62) ?_
              refine lv_iconst (v := 1) hx hb dX12_newName_160 (by decide) ?_
              refine lv_isub hx hb dX12_newName_161 ?_
              refine lv_topi (fun z63 ez63 => ?_)
              have hz63 : z63.toInt = z61.toInt - 1 := i_sub ez63 rfl (by decide) (by omega)
              have q64 : z63 = (V 0 7) := Int32.toInt_inj.mp (by omega)
              rw [q64]
              refine va_lald (D := D) (i := (V 0 7)) hx hb hK hP 4 3 rfl rfl (i_in (a := ((V 0 7)).toInt) rfl (by omega)) dX12_newName_162 ?_
              have pq65 : (V62 0 8).toInt = ((V58 0 8)).toInt := congrArg Int32.toInt (up2_k hV62 (by decide))
              exact W.lret (v := (L 6 (Int32.toNatClampNeg (V 0 7)))) hx hb hr (fun t ht hW => ⟨⟨(L 6 (Int32.toNatClampNeg (V 0 7))), (V62, L), rfl, ⟨hMV62, agV62, rfl, (Or.inr ⟨(show 1 ≤ (V62 0 8).toInt from by (first | exact om_e3c391a03e81 t56 pq65 | omega)), fun kk => (newN_3 h10 (told_2 (by rw [vl3, ← cl0]; exact LF.no lf24 rel.2.2.1.1.1 (by omega)) (by rw [vl3, ← cl0]; exact LF.yes lf49 rel.2.2.1.2.1.1 rel.2.2.1.2.1.2 (by omega))) kk).trans (fl_eq rfl (show (V62 0 8).toInt = 3 + 16 * gT.2.2 (gs.1 0) from by omega))⟩)⟩, by rw [ht]; exact hP, va_K.moved hW.alike hK, hD⟩, hS.F ht⟩) hS.2.2 dX12_newName_163
            · skip
              have f66 : z44.toInt < 0 := b_nle (by decide) rfl c50
              refine lv_aload_n hx hb dX12_newName_101 rfl (lv_at hl 0 rfl) ?_
              refine lv_aload_n hx hb dX12_newName_102 rfl (lv_at hl 0 rfl) ?_
              refine va_get (D := D) (ci := 12) (v := .ref (ad 20)) (C := RX12) (T := TX12) (N := 100) hx hb hg inX12 hown hK hP 0 rfl rfl 20 (by decide) (hg _ w1726) (fun _ h9 => h9) rfl dX12_newName_103 ?_
              refine lv_bipush (v := 24) hx hb dX12_newName_106 (by decide) ?_
              refine lv_aload_n hx hb dX12_newName_108 rfl (lv_at hl 0 rfl) ?_
              refine va_get (D := D) (ci := 12) (v := .int (V 0 12)) (C := RX12) (T := TX12) (N := 100) hx hb hg inX12 hown hK hP 0 rfl rfl 12 (by decide) (hg _ w1718) (fun _ h9 => h9) rfl dX12_newName_109 ?_
              refine lv_imul hx hb dX12_newName_112 ?_
              refine lv_topi (fun z67 ez67 => ?_)
              have hz67 : z67.toInt = 24 * ((V 0 12)).toInt := i_mul ez67 (by decide) rfl (by (first | exact om_3f8aba7b6ce1 r16.1 r16.2 | omega))
              refine lv_aload_n hx hb dX12_newName_113 rfl (lv_at hl 0 rfl) ?_
              refine va_get (D := D) (ci := 12) (v := .ref (ad 19)) (C := RX12) (T := TX12) (N := 100) hx hb hg inX12 hown hK hP 0 rfl rfl 19 (by decide) (hg _ w1725) (fun _ h9 => h9) rfl dX12_newName_114 ?_
              refine lv_aload_n hx hb dX12_newName_117 rfl (lv_at hl 0 rfl) ?_
              refine va_get (D := D) (ci := 12) (v := .int (V 0 12)) (C := RX12) (T := TX12) (N := 100) hx hb hg inX12 hown hK hP 0 rfl rfl 12 (by decide) (hg _ w1718) (fun _ h9 => h9) rfl dX12_newName_118 ?_
              refine va_iald (D := D) (i := (V 0 12)) hx hb hK hP 12 11 rfl rfl (i_in (a := ((V 0 12)).toInt) rfl (by (first | exact om_27c603097004 rg0.2.2.2.1 rg0.2.2.2.2.1 | omega))) dX12_newName_121 ?_
              have r68 : 0 ≤ ((V 19 (Int32.toNatClampNeg (V 0 12)))).toInt ∧ ((V 19 (Int32.toNatClampNeg (V 0 12)))).toInt ≤ 24 := hMV 19 (Int32.toNatClampNeg (V 0 12))
              refine lv_aload_n hx hb dX12_newName_122 rfl (lv_at hl 0 rfl) ?_
              refine va_get (D := D) (ci := 12) (v := .ref (ad 6)) (C := RX12) (T := TX12) (N := 100) hx hb hg inX12 hown hK hP 0 rfl rfl 6 (by decide) (hg _ w1712) (fun _ h9 => h9) rfl dX12_newName_123 ?_
              refine lv_aload_n hx hb dX12_newName_126 rfl (lv_at hl 0 rfl) ?_
              refine va_get (D := D) (ci := 12) (v := .int (V 0 7)) (C := RX12) (T := TX12) (N := 100) hx hb hg inX12 hown hK hP 0 rfl rfl 7 (by decide) (hg _ w1713) (fun _ h9 => h9) rfl dX12_newName_127 ?_
              refine va_lald (D := D) (i := (V 0 7)) hx hb hK hP 4 3 rfl rfl (i_in (a := ((V 0 7)).toInt) rfl (by omega)) dX12_newName_130 ?_
              refine gA_int (gA_runV (As := [.ref (ad 20), .int z67, .int (V 19 (Int32.toNatClampNeg (V 0 12))), .long (L 6 (Int32.toNatClampNeg (V 0 7)))]) (rest := []) (ci := 12) (q0 := 0) hx hb hml hown hg hP hD hK hS hA hnw hgk (s_find2_componentName l D ks H.size ad kk V L z67 (V 19 (Int32.toNatClampNeg (V 0 12))) (L 6 (Int32.toNatClampNeg (V 0 7))) hMV (by (first | exact om_c44c09625d4d r16.1 r16.2 hz67 | omega)) (by (first | exact om_f82fee59341f r68.1 r68.2 | omega)) (show z67.toInt + ((V 19 (Int32.toNatClampNeg (V 0 12)))).toInt ≤ 48 from by (first | exact om_6f18d472129c r16.2 hz67 r68.2 | omega))) w2047 w2049 w89 w172 w2050 rfl rfl hdV_yX12_find ⟨Nat.le_of_ble_eq_true rfl, Nat.le_of_ble_eq_true rfl⟩ rfl hl.1 rfl (Nat.le_of_ble_eq_true rfl) dX12_newName_131 ⟨Nat.le_of_ble_eq_true rfl, Nat.le_of_ble_eq_true rfl⟩) hP hD hK hS hA (fun z69 u70 H locs w71 hP hD hK hS => ?_)
              obtain ⟨rgz69, t72, t73⟩ := w71
              have rgz69 : (-1) ≤ z69.toInt ∧ z69.toInt ≤ 47 := rgz69
              have t72 : z69.toInt < ((V 19 (Int32.toNatClampNeg (V 0 12)))).toInt := t72
              have t73 : LF (fun i => L 20 (z67.toInt.toNat + i)) ((V 19 (Int32.toNatClampNeg (V 0 12)))).toInt ((L 6 (Int32.toNatClampNeg (V 0 7)))) z69.toInt := t73
              have lf74 : LF (fun i => L 20 (24 * bq + i)) (V 19 bq).toInt (L 6 (Int32.toNatClampNeg (V 0 7))) z69.toInt := by have h9 := t73; rw [show z67.toInt.toNat = 24 * bq from by omega, show ((V 19 (Int32.toNatClampNeg (V 0 12)))).toInt = (V 19 bq).toInt from by rw [cq0]] at h9; exact h9
              refine lv_if_lt (tgt := 142) hx hb dX12_newName_134 (by decide) (fun c75 => ?_) (fun c75 => ?_)
              · skip
                have f76 : z69.toInt < 0 := b_lt rfl (by decide) c75
                refine lv_aload_n hx hb dX12_newName_142 rfl (lv_at hl 0 rfl) ?_
                refine lv_dup hx hb dX12_newName_143 rfl ?_
                refine va_get (D := D) (ci := 12) (v := .int (V 0 7)) (C := RX12) (T := TX12) (N := 100) hx hb hg inX12 hown hK hP 0 rfl rfl 7 (by decide) (hg _ w1713) (fun _ h9 => h9) rfl dX12_newName_144 ?_
                refine lv_iconst (v := 1) hx hb dX12_newName_147 (by decide) ?_
                refine lv_iadd hx hb dX12_newName_148 ?_
                refine lv_topi (fun z77 ez77 => ?_)
                have hz77 : z77.toInt = ((V 0 7)).toInt + 1 := i_add ez77 rfl (by decide) (by omega)
                refine va_put (D := D) (ci := 12) (v := .int z77) (ty := tyX12 7) (C := RX12) (T := TX12) (N := 100) hx hb hg inX12 tyX12 tyX12_ok nmX12 hown hK hP hD hS 0 rfl rfl 7 (by decide) (hg _ w1713) (fun _ h9 => h9) rfl (tyX12_ok 7 (by decide)) rfl rfl (Nat.le_of_ble_eq_true rfl) dX12_newName_149 (fun H locs hP hD hS => ?_)
                obtain ⟨V78, hV78⟩ : ∃ z, z = up2 V 0 7 z77 := ⟨_, rfl⟩
                have hP : va_P D vwCl (mw ad kk ks.1 V78 L) H := by rw [hV78]; exact hP
                have hD : va_D A (mw ad kk ks.1 V78 L) := by rw [hV78]; exact hD
                have hMV78 : rgd bM V78 := hMV.put hV78 (i_full _)
                have agV78 : agr [(0, 7), (0, 8)] [] V V78 := agV.up hV78 rfl
                refine lv_aload_n hx hb dX12_newName_152 rfl (lv_at hl 0 rfl) ?_
                refine va_get (D := D) (ci := 12) (v := .ref (ad 6)) (C := RX12) (T := TX12) (N := 100) hx hb hg inX12 hown hK hP 0 rfl rfl 6 (by decide) (hg _ w1712) (fun _ h9 => h9) rfl dX12_newName_153 ?_
                refine lv_aload_n hx hb dX12_newName_156 rfl (lv_at hl 0 rfl) ?_
                refine va_get (D := D) (ci := 12) (v := .int (V78 0 7)) (C := RX12) (T := TX12) (N := 100) hx hb hg inX12 hown hK hP 0 rfl rfl 7 (by decide) (hg _ w1713) (fun _ h9 => h9) rfl dX12_newName_157 ?_
                refine g_top (v := z77) (up2_s hV78) ?_
                refine lv_iconst (v := 1) hx hb dX12_newName_160 (by decide) ?_
                refine lv_isub hx hb dX12_newName_161 ?_
                refine lv_topi (fun z79 ez79 => ?_)
                have hz79 : z79.toInt = z77.toInt - 1 := i_sub ez79 rfl (by decide) (by omega)
                have q80 : z79 = (V 0 7) := Int32.toInt_inj.mp (by omega)
                rw [q80]
                refine va_lald (D := D) (i := (V 0 7)) hx hb hK hP 4 3 rfl rfl (i_in (a := ((V 0 7)).toInt) rfl (by omega)) dX12_newName_162 ?_
                have pq81 : (V78 0 8).toInt = ((V 0 8)).toInt := congrArg Int32.toInt (up2_k hV78 (by decide))
                have tn0 : isTold gs (gT.2.1 (gs.1 0)) = false := told_0 (by rw [vl3, ← cl0]; exact LF.no lf24 rel.2.2.1.1.1 (by omega)) (by rw [vl3, ← cl0]; exact LF.no lf49 rel.2.2.1.2.1.1 (by omega)) (by rw [vl3, ← cl0]; exact LF.no lf74 rel.2.2.1.2.2.1.1 (by omega))
                exact W.lret (v := (L 6 (Int32.toNatClampNeg (V 0 7)))) hx hb hr (fun t ht hW => ⟨⟨(L 6 (Int32.toNatClampNeg (V 0 7))), (V78, L), rfl, ⟨hMV78, agV78, rfl, (Or.inl ⟨W0 (RelM.n1 rel hV78 (by (first | exact om_55c67efb91e5 hz77 | omega)) (by rw [h10]; decide)), gT.2.1 (gs.1 0), fun kk => newN_y h10 (by rw [tn0]; decide) kk, (RelM.n1 rel hV78 (by (first | exact om_55c67efb91e5 hz77 | omega)) (by rw [h10]; decide)), tn0, (show (L 6 (Int32.toNatClampNeg (V 0 7))) = gT.2.1 (gs.1 0) from by rw [vl3, ← cl0])⟩)⟩, by rw [ht]; exact hP, va_K.moved hW.alike hK, hD⟩, hS.F ht⟩) hS.2.2 dX12_newName_163
              · skip
                have f82 : 0 ≤ z69.toInt := b_nlt rfl (by decide) c75
                refine lv_aload_n hx hb dX12_newName_137 rfl (lv_at hl 0 rfl) ?_
                refine lv_iconst (v := 3) hx hb dX12_newName_138 (by decide) ?_
                have r83 : Int32.toInt 3 = 3 := by decide
                refine gA_void (gA_runV (As := [.int 3]) (rest := []) (ci := 12) (q0 := 0) hx hb hml hown hg hP hD hK hS hA hnw hgk (s_wrongA l D ks H.size ad kk V L 3 (bq) (gn) (gT) (gs) ((gs.2.1 2)) hMV (by decide) rel) w2035 w2037 w86 w172 w2038 rfl rfl hdV_yX12_wrong ⟨Nat.le_of_ble_eq_true rfl, Nat.le_of_ble_eq_true rfl⟩ rfl hl.1 rfl (Nat.le_of_ble_eq_true rfl) dX12_newName_139 ⟨Nat.le_of_ble_eq_true rfl, Nat.le_of_ble_eq_true rfl⟩) hP hD hK hS hA (fun u85 H locs w86 hP hD hK hS => ?_)
                obtain ⟨V89, L90⟩ := u85
                obtain ⟨hMV89, ajV89, axL90, t87, t88⟩ := w86
                have axL90 : L = L90 := Eq.symm axL90
                subst axL90
                have hP : va_P D vwCl (mw ad kk ks.1 V89 L) H := hP
                have hD : va_D A (mw ad kk ks.1 V89 L) := hD
                have hMV89 : rgd bM V89 := hMV89
                have ajV89 : agr [(0, 8)] [] V V89 := ajV89
                have agV89 : agr [(0, 7), (0, 8)] [] V V89 := agV.tr ajV89 (by decide) (by decide)
                have t87 : 1 ≤ (V89 0 8).toInt := t87
                have t88 : (V89 0 8).toInt = (Int32.toInt 3) + 16 * (gT).2.2 ((gs).1 0) := t88
                have r91 : 0 ≤ ((V89 0 8)).toInt ∧ ((V89 0 8)).toInt ≤ 70000 := hMV89 0 8
                refine lv_aload_n hx hb dX12_newName_142 rfl (lv_at hl 0 rfl) ?_
                refine lv_dup hx hb dX12_newName_143 rfl ?_
                refine va_get (D := D) (ci := 12) (v := .int (V89 0 7)) (C := RX12) (T := TX12) (N := 100) hx hb hg inX12 hown hK hP 0 rfl rfl 7 (by decide) (hg _ w1713) (fun _ h9 => h9) rfl dX12_newName_144 ?_
                refine g_top (v := (V 0 7)) (ajV89 0 7 rfl) ?_
                refine lv_iconst (v := 1) hx hb dX12_newName_147 (by decide) ?_
                refine lv_iadd hx hb dX12_newName_148 ?_
                refine lv_topi (fun z92 ez92 => ?_)
                have hz92 : z92.toInt = ((V 0 7)).toInt + 1 := i_add ez92 rfl (by decide) (by omega)
                refine va_put (D := D) (ci := 12) (v := .int z92) (ty := tyX12 7) (C := RX12) (T := TX12) (N := 100) hx hb hg inX12 tyX12 tyX12_ok nmX12 hown hK hP hD hS 0 rfl rfl 7 (by decide) (hg _ w1713) (fun _ h9 => h9) rfl (tyX12_ok 7 (by decide)) rfl rfl (Nat.le_of_ble_eq_true rfl) dX12_newName_149 (fun H locs hP hD hS => ?_)
                obtain ⟨V93, hV93⟩ : ∃ z, z = up2 V89 0 7 z92 := ⟨_, rfl⟩
                have hP : va_P D vwCl (mw ad kk ks.1 V93 L) H := by rw [hV93]; exact hP
                have hD : va_D A (mw ad kk ks.1 V93 L) := by rw [hV93]; exact hD
                have hMV93 : rgd bM V93 := hMV89.put hV93 (i_full _)
                have agV93 : agr [(0, 7), (0, 8)] [] V V93 := agV89.up hV93 rfl
                refine lv_aload_n hx hb dX12_newName_152 rfl (lv_at hl 0 rfl) ?_
                refine va_get (D := D) (ci := 12) (v := .ref (ad 6)) (C := RX12) (T := TX12) (N := 100) hx hb hg inX12 hown hK hP 0 rfl rfl 6 (by decide) (hg _ w1712) (fun _ h9 => h9) rfl dX12_newName_153 ?_
                refine lv_aload_n hx hb dX12_newName_156 rfl (lv_at hl 0 rfl) ?_
                refine va_get (D := D) (ci := 12) (v := .int (V93 0 7)) (C := RX12) (T := TX12) (N := 100) hx hb hg inX12 hown hK hP 0 rfl rfl 7 (by decide) (hg _ w1713) (fun _ h9 => h9) rfl dX12_newName_157 ?_
                refine g_top (v := z92) (up2_s hV93) ?_
                refine lv_iconst (v := 1) hx hb dX12_newName_160 (by decide) ?_
                refine lv_isub hx hb dX12_newName_161 ?_
                refine lv_topi (fun z94 ez94 => ?_)
                have hz94 : z94.toInt = z92.toInt - 1 := i_sub ez94 rfl (by decide) (by omega)
                have q95 : z94 = (V 0 7) := Int32.toInt_inj.mp (by omega)
                rw [q95]
                refine va_lald (D := D) (i := (V 0 7)) hx hb hK hP 4 3 rfl rfl (i_in (a := ((V 0 7)).toInt) rfl (by omega)) dX12_newName_162 ?_
                have pq96 : (V93 0 8).toInt = ((V89 0 8)).toInt := congrArg Int32.toInt (up2_k hV93 (by decide))
                exact W.lret (v := (L 6 (Int32.toNatClampNeg (V 0 7)))) hx hb hr (fun t ht hW => ⟨⟨(L 6 (Int32.toNatClampNeg (V 0 7))), (V93, L), rfl, ⟨hMV93, agV93, rfl, (Or.inr ⟨(show 1 ≤ (V93 0 8).toInt from by (first | exact om_e3c391a03e81 t87 pq96 | omega)), fun kk => (newN_3 h10 (told_3 (by rw [vl3, ← cl0]; exact LF.no lf24 rel.2.2.1.1.1 (by omega)) (by rw [vl3, ← cl0]; exact LF.no lf49 rel.2.2.1.2.1.1 (by omega)) (by rw [vl3, ← cl0]; exact LF.yes lf74 rel.2.2.1.2.2.1.1 rel.2.2.1.2.2.1.2 (by omega))) kk).trans (fl_eq rfl (show (V93 0 8).toInt = 3 + 16 * gT.2.2 (gs.1 0) from by omega))⟩)⟩, by rw [ht]; exact hP, va_K.moved hW.alike hK, hD⟩, hS.F ht⟩) hS.2.2 dX12_newName_163
      · skip
        have f97 : z5.toInt = 0 := b_eq rfl (by decide) c11
        exfalso; (first | exact om_495ee03a60ae q9 f97 | omega)
    · skip
      refine lv_if_ne (tgt := 22) hx hb dX12_newName_11 (by decide) (fun c98 => ?_) (fun c98 => ?_)
      · skip
        have f99 : z5.toInt ≠ 0 := b_neq rfl (by decide) c98
        exfalso; (first | exact om_fb320d7600b7 rgz5.1 q9 f99 | omega)
      · skip
        have f100 : z5.toInt = 0 := b_eq rfl (by decide) c98
        refine lv_aload_n hx hb dX12_newName_14 rfl (lv_at hl 0 rfl) ?_
        refine lv_iconst (v := 1) hx hb dX12_newName_15 (by decide) ?_
        have r101 : Int32.toInt 1 = 1 := by decide
        refine gA_void (gA_runV (As := [.int 1]) (rest := []) (ci := 12) (q0 := 0) hx hb hml hown hg hP hD hK hS hA hnw hgk (s_wrongA l D ks H.size ad kk V L 1 (bq) (gn) (gT) (gs) ((gs.2.1 2)) hMV (by decide) rel) w2035 w2037 w86 w172 w2038 rfl rfl hdV_yX12_wrong ⟨Nat.le_of_ble_eq_true rfl, Nat.le_of_ble_eq_true rfl⟩ rfl hl.1 rfl (Nat.le_of_ble_eq_true rfl) dX12_newName_16 ⟨Nat.le_of_ble_eq_true rfl, Nat.le_of_ble_eq_true rfl⟩) hP hD hK hS hA (fun u103 H locs w104 hP hD hK hS => ?_)
        obtain ⟨V107, L108⟩ := u103
        obtain ⟨hMV107, ajV107, axL108, t105, t106⟩ := w104
        have axL108 : L = L108 := Eq.symm axL108
        subst axL108
        have hP : va_P D vwCl (mw ad kk ks.1 V107 L) H := hP
        have hD : va_D A (mw ad kk ks.1 V107 L) := hD
        have hMV107 : rgd bM V107 := hMV107
        have ajV107 : agr [(0, 8)] [] V V107 := ajV107
        have agV107 : agr [(0, 7), (0, 8)] [] V V107 := agV.tr ajV107 (by decide) (by decide)
        have t105 : 1 ≤ (V107 0 8).toInt := t105
        have t106 : (V107 0 8).toInt = (Int32.toInt 1) + 16 * (gT).2.2 ((gs).1 0) := t106
        have r109 : 0 ≤ ((V107 0 8)).toInt ∧ ((V107 0 8)).toInt ≤ 70000 := hMV107 0 8
        refine lv_goto (tgt := 142) hx hb dX12_newName_19 (by decide) ?_
        refine lv_aload_n hx hb dX12_newName_142 rfl (lv_at hl 0 rfl) ?_
        refine lv_dup hx hb dX12_newName_143 rfl ?_
        refine va_get (D := D) (ci := 12) (v := .int (V107 0 7)) (C := RX12) (T := TX12) (N := 100) hx hb hg inX12 hown hK hP 0 rfl rfl 7 (by decide) (hg _ w1713) (fun _ h9 => h9) rfl dX12_newName_144 ?_
        refine g_top (v := (V 0 7)) (ajV107 0 7 rfl) ?_
        refine lv_iconst (v := 1) hx hb dX12_newName_147 (by decide) ?_
        refine lv_iadd hx hb dX12_newName_148 ?_
        refine lv_topi (fun z110 ez110 => ?_)
        have hz110 : z110.toInt = ((V 0 7)).toInt + 1 := i_add ez110 rfl (by decide) (by omega)
        refine va_put (D := D) (ci := 12) (v := .int z110) (ty := tyX12 7) (C := RX12) (T := TX12) (N := 100) hx hb hg inX12 tyX12 tyX12_ok nmX12 hown hK hP hD hS 0 rfl rfl 7 (by decide) (hg _ w1713) (fun _ h9 => h9) rfl (tyX12_ok 7 (by decide)) rfl rfl (Nat.le_of_ble_eq_true rfl) dX12_newName_149 (fun H locs hP hD hS => ?_)
        obtain ⟨V111, hV111⟩ : ∃ z, z = up2 V107 0 7 z110 := ⟨_, rfl⟩
        have hP : va_P D vwCl (mw ad kk ks.1 V111 L) H := by rw [hV111]; exact hP
        have hD : va_D A (mw ad kk ks.1 V111 L) := by rw [hV111]; exact hD
        have hMV111 : rgd bM V111 := hMV107.put hV111 (i_full _)
        have agV111 : agr [(0, 7), (0, 8)] [] V V111 := agV107.up hV111 rfl
        refine lv_aload_n hx hb dX12_newName_152 rfl (lv_at hl 0 rfl) ?_
        refine va_get (D := D) (ci := 12) (v := .ref (ad 6)) (C := RX12) (T := TX12) (N := 100) hx hb hg inX12 hown hK hP 0 rfl rfl 6 (by decide) (hg _ w1712) (fun _ h9 => h9) rfl dX12_newName_153 ?_
        refine lv_aload_n hx hb dX12_newName_156 rfl (lv_at hl 0 rfl) ?_
        refine va_get (D := D) (ci := 12) (v := .int (V111 0 7)) (C := RX12) (T := TX12) (N := 100) hx hb hg inX12 hown hK hP 0 rfl rfl 7 (by decide) (hg _ w1713) (fun _ h9 => h9) rfl dX12_newName_157 ?_
        refine g_top (v := z110) (up2_s hV111) ?_
        refine lv_iconst (v := 1) hx hb dX12_newName_160 (by decide) ?_
        refine lv_isub hx hb dX12_newName_161 ?_
        refine lv_topi (fun z112 ez112 => ?_)
        have hz112 : z112.toInt = z110.toInt - 1 := i_sub ez112 rfl (by decide) (by omega)
        have q113 : z112 = (V 0 7) := Int32.toInt_inj.mp (by omega)
        rw [q113]
        refine va_lald (D := D) (i := (V 0 7)) hx hb hK hP 4 3 rfl rfl (i_in (a := ((V 0 7)).toInt) rfl (by omega)) dX12_newName_162 ?_
        have pq114 : (V111 0 8).toInt = ((V107 0 8)).toInt := congrArg Int32.toInt (up2_k hV111 (by decide))
        exact W.lret (v := (L 6 (Int32.toNatClampNeg (V 0 7)))) hx hb hr (fun t ht hW => ⟨⟨(L 6 (Int32.toNatClampNeg (V 0 7))), (V111, L), rfl, ⟨hMV111, agV111, rfl, (Or.inr ⟨(show 1 ≤ (V111 0 8).toInt from by (first | exact om_e3c391a03e81 t105 pq114 | omega)), fun kk => (newN_1 h10 kk).trans (fl_eq rfl (show (V111 0 8).toInt = 1 + 16 * gT.2.2 (gs.1 0) from by omega))⟩)⟩, by rw [ht]; exact hP, va_K.moved hW.alike hK, hD⟩, hS.F ht⟩) hS.2.2 dX12_newName_163
abbrev r_s_named0 : Room := { frames := 1, cells := 0, slots := 0, locals := 27 }
abbrev q_s_named0 (D : va_G) (ks : KS) (ad : Nat → Nat) (kk : Nat → ClassId) (V : Vf) (L : Lf) (p1 : Int32) (p2 : Int32) (bq : Nat) (gn : Nat) (gT : Tk) (gs : St) (gl : List Int64) (A : Nat → Prop) : Array Value → State → Outcome → State → Prop := va_Qi (fun (r : Int32) (u : Vf × Lf) => rgd bM u.1 ∧ agr [(0, 7), (0, 8)] [] V u.1 ∧ u.2 = L ∧ ((-1) ≤ r.toInt ∧ r.toInt ≤ 47) ∧ (KmN (look gT gs (gs.2.1 0)) (u.1 0 8).toInt (fun f9 => RelM u.1 u.2 bq gn gT (nx gs 1) gl ∧ r.toInt = ((f9 : Nat) : Int) ∧ f9 < 24)) ∧ (r.toInt < p2.toInt) ∧ (Imp ((u.1 0 8).toInt = 0) (0 ≤ r.toInt))) (fun u t => gq D A (mw ad kk ks.1 u.1 u.2) (mty kk) t) A
set_option maxHeartbeats 4000000 in
set_option maxRecDepth 100000 in
theorem s_named0 (l : Launch) (D : va_G) (ks : KS) (sz : Nat) (ad : Nat → Nat) (kk : Nat → ClassId) (V : Vf) (L : Lf) (p1 : Int32) (p2 : Int32) (bq : Nat) (gn : Nat) (gT : Tk) (gs : St) (gl : List Int64) (hMV : rgd bM V) (rg_p1 : 0 ≤ p1.toInt ∧ p1.toInt ≤ 24) (rg_p2 : 0 ≤ p2.toInt ∧ p2.toInt ≤ 24) (rel : RelM V L bq gn gT gs gl) (yp : p1.toInt = ((24 * bq : Nat) : Int)) (yq : p2.toInt = (V 13 bq).toInt)  : Met l yX12_named (Cond.code yX12_named cX12_named 5 (some .int) :: GW) r_s_named0 (va_Pc [.ref (ad 0), .ref (ad 14), .int p1, .int p2] (gp D ks (mw ad kk ks.1 V L) (mty kk) sz)) (q_s_named0 D ks ad kk V L p1 p2 bq gn gT gs gl (va_A (mw ad kk ks.1 V L) sz)) 0 0 (va_A (mw ad kk ks.1 V L) sz) := by
  refine g_met (q_s_named0 D ks ad kk V L p1 p2 bq gn gT gs gl) (by decide) (Nat.le_of_ble_eq_true rfl) ?_
  intro p e s m below meth c A ls H locs hx hb hr hml hown hg hlocks hin hnw hgk hP hK hD hS hA hl
  have hown : s.vm.findClass RX12 = some m.cls := hown
  have hl : lv_has ls 5 [(0, .ref (ad 0)), (1, .ref (ad 14)), (2, .int p1), (3, .int p2)] := hl
  have hP : va_P D vwCl (mw ad kk ks.1 V L) H := hP
  have hD : va_D A (mw ad kk ks.1 V L) := hD
  have hK : va_K D vwCl (mty kk) s := hK
  have agV : agr [(0, 7), (0, 8)] [] V V := agr.rf
  have rf_p1 := i_full p1
  have rf_p2 := i_full p2
  have r1 : 0 ≤ ((V 13 bq)).toInt ∧ ((V 13 bq)).toInt ≤ 24 := hMV 13 bq
  have rg0 := RelM.rg rel
  have cl0 := RelM.cl rel
  have cq0 := RelM.cq rel
  refine lv_aload_n hx hb dX12_named_0 rfl (lv_at hl 0 rfl) ?_
  refine va_get (D := D) (ci := 12) (v := .int (V 0 8)) (C := RX12) (T := TX12) (N := 100) hx hb hg inX12 hown hK hP 0 rfl rfl 8 (by decide) (hg _ w1714) (fun _ h9 => h9) rfl dX12_named_1 ?_
  have r2 : 0 ≤ ((V 0 8)).toInt ∧ ((V 0 8)).toInt ≤ 70000 := hMV 0 8
  refine lv_if_ne (tgt := 19) hx hb dX12_named_4 (by decide) (fun c3 => ?_) (fun c3 => ?_)
  · skip
    have f4 : ((V 0 8)).toInt ≠ 0 := b_neq rfl (by decide) c3
    exfalso; (first | exact om_0b51723c7ef6 rg0.2.2.1 f4 | omega)
  · skip
    have f5 : ((V 0 8)).toInt = 0 := b_eq rfl (by decide) c3
    refine lv_aload_n hx hb dX12_named_7 rfl (lv_at hl 0 rfl) ?_
    refine gA_int (gA_runV (As := []) (rest := []) (ci := 12) (q0 := 0) hx hb hml hown hg hP hD hK hS hA hnw hgk (s_isNameA l D ks H.size ad kk V L (bq) (gn) (gT) (gs) (gl) hMV rel) w2043 w2045 w88 w172 w2046 rfl rfl hdV_yX12_isName ⟨Nat.le_of_ble_eq_true rfl, Nat.le_of_ble_eq_true rfl⟩ rfl hl.1 rfl (Nat.le_of_ble_eq_true rfl) dX12_named_8 ⟨Nat.le_of_ble_eq_true rfl, Nat.le_of_ble_eq_true rfl⟩) hP hD hK hS hA (fun z6 u7 H locs w8 hP hD hK hS => ?_)
    obtain ⟨rgz6, t9⟩ := w8
    have rgz6 : 0 ≤ z6.toInt ∧ z6.toInt ≤ 1 := rgz6
    have t9 : (z6.toInt = 1 ∧ (gT).1 ((gs).1 0) = 3) ∨ (z6.toInt = 0 ∧ (gT).1 ((gs).1 0) ≠ 3) := t9
    rcases t9 with ⟨q10, h11⟩ | ⟨q10, h11⟩
    · skip
      refine lv_if_ne (tgt := 19) hx hb dX12_named_11 (by decide) (fun c12 => ?_) (fun c12 => ?_)
      · skip
        have f13 : z6.toInt ≠ 0 := b_neq rfl (by decide) c12
        have vl3 := RelM.vl rel (Or.inr h11)
        refine lv_aload_n hx hb dX12_named_19 rfl (lv_at hl 0 rfl) ?_
        refine va_get (D := D) (ci := 12) (v := .int (V 0 8)) (C := RX12) (T := TX12) (N := 100) hx hb hg inX12 hown hK hP 0 rfl rfl 8 (by decide) (hg _ w1714) (fun _ h9 => h9) rfl dX12_named_20 ?_
        refine lv_if_ne (tgt := 45) hx hb dX12_named_23 (by decide) (fun c14 => ?_) (fun c14 => ?_)
        · skip
          have f15 : ((V 0 8)).toInt ≠ 0 := b_neq rfl (by decide) c14
          exfalso; (first | exact om_fb320d7600b7 r2.1 f5 f15 | omega)
        · skip
          have f16 : ((V 0 8)).toInt = 0 := b_eq rfl (by decide) c14
          refine lv_aload_n hx hb dX12_named_26 rfl (lv_at hl 0 rfl) ?_
          refine lv_aload_n hx hb dX12_named_27 rfl (lv_at hl 1 rfl) ?_
          refine lv_iload_n hx hb dX12_named_28 rfl (lv_at hl 2 rfl) ?_
          refine lv_iload_n hx hb dX12_named_29 rfl (lv_at hl 3 rfl) ?_
          refine lv_aload_n hx hb dX12_named_30 rfl (lv_at hl 0 rfl) ?_
          refine va_get (D := D) (ci := 12) (v := .ref (ad 6)) (C := RX12) (T := TX12) (N := 100) hx hb hg inX12 hown hK hP 0 rfl rfl 6 (by decide) (hg _ w1712) (fun _ h9 => h9) rfl dX12_named_31 ?_
          refine lv_aload_n hx hb dX12_named_34 rfl (lv_at hl 0 rfl) ?_
          refine va_get (D := D) (ci := 12) (v := .int (V 0 7)) (C := RX12) (T := TX12) (N := 100) hx hb hg inX12 hown hK hP 0 rfl rfl 7 (by decide) (hg _ w1713) (fun _ h9 => h9) rfl dX12_named_35 ?_
          refine va_lald (D := D) (i := (V 0 7)) hx hb hK hP 4 3 rfl rfl (i_in (a := ((V 0 7)).toInt) rfl (by omega)) dX12_named_38 ?_
          refine gA_int (gA_runV (As := [.ref (ad 14), .int p1, .int p2, .long (L 6 (Int32.toNatClampNeg (V 0 7)))]) (rest := []) (ci := 12) (q0 := 0) hx hb hml hown hg hP hD hK hS hA hnw hgk (s_find2_typeName l D ks H.size ad kk V L p1 p2 (L 6 (Int32.toNatClampNeg (V 0 7))) hMV (by (first | exact om_f82fee59341f rg_p1.1 rg_p1.2 | omega)) (by (first | exact om_f82fee59341f rg_p2.1 rg_p2.2 | omega)) (show p1.toInt + p2.toInt ≤ 48 from by (first | exact om_a32fe5cb4247 rg_p1.2 rg_p2.2 | omega))) w2047 w2049 w89 w172 w2050 rfl rfl hdV_yX12_find ⟨Nat.le_of_ble_eq_true rfl, Nat.le_of_ble_eq_true rfl⟩ rfl hl.1 rfl (Nat.le_of_ble_eq_true rfl) dX12_named_39 ⟨Nat.le_of_ble_eq_true rfl, Nat.le_of_ble_eq_true rfl⟩) hP hD hK hS hA (fun z17 u18 H locs w19 hP hD hK hS => ?_)
          obtain ⟨rgz17, t20, t21⟩ := w19
          have rgz17 : (-1) ≤ z17.toInt ∧ z17.toInt ≤ 47 := rgz17
          have t20 : z17.toInt < p2.toInt := t20
          have t21 : LF (fun i => L 14 (p1.toInt.toNat + i)) p2.toInt ((L 6 (Int32.toNatClampNeg (V 0 7)))) z17.toInt := t21
          have lf22 : LF (fun i => L 14 (24 * bq + i)) (V 13 bq).toInt (L 6 (Int32.toNatClampNeg (V 0 7))) z17.toInt := by have h9 := t21; rw [show p1.toInt.toNat = 24 * bq from by omega, show p2.toInt = (V 13 bq).toInt from by omega] at h9; exact h9
          refine lv_goto (tgt := 46) hx hb dX12_named_42 (by decide) ?_
          refine lv_istore (lv' := [(4, .int z17), (0, .ref (ad 0)), (1, .ref (ad 14)), (2, .int p1), (3, .int p2)]) hx hb dX12_named_46 hl (by decide) rfl (fun ls hl => ?_)
          refine lv_aload_n hx hb dX12_named_48 rfl (lv_at hl 1 rfl) ?_
          refine va_get (D := D) (ci := 12) (v := .int (V 0 8)) (C := RX12) (T := TX12) (N := 100) hx hb hg inX12 hown hK hP 0 rfl rfl 8 (by decide) (hg _ w1714) (fun _ h9 => h9) rfl dX12_named_49 ?_
          refine lv_if_ne (tgt := 65) hx hb dX12_named_52 (by decide) (fun c23 => ?_) (fun c23 => ?_)
          · skip
            have f24 : ((V 0 8)).toInt ≠ 0 := b_neq rfl (by decide) c23
            exfalso; (first | exact om_fb320d7600b7 r2.1 f5 f24 | omega)
          · skip
            have f25 : ((V 0 8)).toInt = 0 := b_eq rfl (by decide) c23
            refine lv_iload hx hb dX12_named_55 (lv_at hl 0 rfl) ?_
            refine lv_if_ge (tgt := 65) hx hb dX12_named_57 (by decide) (fun c26 => ?_) (fun c26 => ?_)
            · skip
              have f27 : 0 ≤ z17.toInt := b_le (by decide) rfl c26
              refine lv_aload_n hx hb dX12_named_65 rfl (lv_at hl 1 rfl) ?_
              refine lv_dup hx hb dX12_named_66 rfl ?_
              refine va_get (D := D) (ci := 12) (v := .int (V 0 7)) (C := RX12) (T := TX12) (N := 100) hx hb hg inX12 hown hK hP 0 rfl rfl 7 (by decide) (hg _ w1713) (fun _ h9 => h9) rfl dX12_named_67 ?_
              refine lv_iconst (v := 1) hx hb dX12_named_70 (by decide) ?_
              refine lv_iadd hx hb dX12_named_71 ?_
              refine lv_topi (fun z28 ez28 => ?_)
              have hz28 : z28.toInt = ((V 0 7)).toInt + 1 := i_add ez28 rfl (by decide) (by omega)
              refine va_put (D := D) (ci := 12) (v := .int z28) (ty := tyX12 7) (C := RX12) (T := TX12) (N := 100) hx hb hg inX12 tyX12 tyX12_ok nmX12 hown hK hP hD hS 0 rfl rfl 7 (by decide) (hg _ w1713) (fun _ h9 => h9) rfl (tyX12_ok 7 (by decide)) rfl rfl (Nat.le_of_ble_eq_true rfl) dX12_named_72 (fun H locs hP hD hS => ?_)
              obtain ⟨V29, hV29⟩ : ∃ z, z = up2 V 0 7 z28 := ⟨_, rfl⟩
              have hP : va_P D vwCl (mw ad kk ks.1 V29 L) H := by rw [hV29]; exact hP
              have hD : va_D A (mw ad kk ks.1 V29 L) := by rw [hV29]; exact hD
              have hMV29 : rgd bM V29 := hMV.put hV29 (i_full _)
              have agV29 : agr [(0, 7), (0, 8)] [] V V29 := agV.up hV29 rfl
              refine lv_iload hx hb dX12_named_75 (lv_at hl 0 rfl) ?_
              have pq30 : (V29 0 8).toInt = ((V 0 8)).toInt := congrArg Int32.toInt (up2_k hV29 (by decide))
              exact W.iret (v := z17) hx hb hr (fun t ht hW => ⟨⟨z17, (V29, L), rfl, ⟨hMV29, agV29, rfl, (show (-1) ≤ z17.toInt ∧ z17.toInt ≤ 47 from by (first | exact om_f6f243504409 rg_p2.2 t20 f27 | omega)), (Or.inl ⟨W0 (RelM.n1 rel hV29 (by (first | exact om_55c67efb91e5 hz28 | omega)) (by rw [h11]; decide)), z17.toInt.toNat, fun kk => look_y h11 (by rw [vl3, ← cl0]; exact LF.yes lf22 rel.2.2.1.1.1 rel.2.2.1.1.2 (by omega)) kk, (RelM.n1 rel hV29 (by (first | exact om_55c67efb91e5 hz28 | omega)) (by rw [h11]; decide)), (show z17.toInt = ((z17.toInt.toNat : Nat) : Int) from by (first | exact om_bb68b85f87a5 f27 | omega)), (show z17.toInt.toNat < 24 from by (first | exact om_bf0e3b534480 rg_p2.2 t20 f27 | omega))⟩), (show z17.toInt < p2.toInt from by (first | exact om_0e9116797efb t20 | omega)), (Imp.mk (fun hp => have hp : (V29 0 8).toInt = 0 := hp; (show 0 ≤ z17.toInt from by (first | exact om_eafa9039069c f27 | omega))))⟩, by rw [ht]; exact hP, va_K.moved hW.alike hK, hD⟩, hS.F ht⟩) hS.2.2 dX12_named_77
            · skip
              have f31 : z17.toInt < 0 := b_nle (by decide) rfl c26
              refine lv_aload_n hx hb dX12_named_60 rfl (lv_at hl 1 rfl) ?_
              refine lv_iconst (v := 2) hx hb dX12_named_61 (by decide) ?_
              have r32 : Int32.toInt 2 = 2 := by decide
              refine gA_void (gA_runV (As := [.int 2]) (rest := []) (ci := 12) (q0 := 0) hx hb hml hown hg hP hD hK hS hA hnw hgk (s_wrongA l D ks H.size ad kk V L 2 (bq) (gn) (gT) (gs) (gl) hMV (by decide) rel) w2035 w2037 w86 w172 w2038 rfl rfl hdV_yX12_wrong ⟨Nat.le_of_ble_eq_true rfl, Nat.le_of_ble_eq_true rfl⟩ rfl hl.1 rfl (Nat.le_of_ble_eq_true rfl) dX12_named_62 ⟨Nat.le_of_ble_eq_true rfl, Nat.le_of_ble_eq_true rfl⟩) hP hD hK hS hA (fun u34 H locs w35 hP hD hK hS => ?_)
              obtain ⟨V38, L39⟩ := u34
              obtain ⟨hMV38, ajV38, axL39, t36, t37⟩ := w35
              have axL39 : L = L39 := Eq.symm axL39
              subst axL39
              have hP : va_P D vwCl (mw ad kk ks.1 V38 L) H := hP
              have hD : va_D A (mw ad kk ks.1 V38 L) := hD
              have hMV38 : rgd bM V38 := hMV38
              have ajV38 : agr [(0, 8)] [] V V38 := ajV38
              have agV38 : agr [(0, 7), (0, 8)] [] V V38 := agV.tr ajV38 (by decide) (by decide)
              have t36 : 1 ≤ (V38 0 8).toInt := t36
              have t37 : (V38 0 8).toInt = (Int32.toInt 2) + 16 * (gT).2.2 ((gs).1 0) := t37
              have r40 : 0 ≤ ((V38 0 8)).toInt ∧ ((V38 0 8)).toInt ≤ 70000 := hMV38 0 8
              refine lv_aload_n hx hb dX12_named_65 rfl (lv_at hl 1 rfl) ?_
              refine lv_dup hx hb dX12_named_66 rfl ?_
              refine va_get (D := D) (ci := 12) (v := .int (V38 0 7)) (C := RX12) (T := TX12) (N := 100) hx hb hg inX12 hown hK hP 0 rfl rfl 7 (by decide) (hg _ w1713) (fun _ h9 => h9) rfl dX12_named_67 ?_
              refine g_top (v := (V 0 7)) (ajV38 0 7 rfl) ?_
              refine lv_iconst (v := 1) hx hb dX12_named_70 (by decide) ?_
              refine lv_iadd hx hb dX12_named_71 ?_
              refine lv_topi (fun z41 ez41 => ?_)
              have hz41 : z41.toInt = ((V 0 7)).toInt + 1 := i_add ez41 rfl (by decide) (by omega)
              refine va_put (D := D) (ci := 12) (v := .int z41) (ty := tyX12 7) (C := RX12) (T := TX12) (N := 100) hx hb hg inX12 tyX12 tyX12_ok nmX12 hown hK hP hD hS 0 rfl rfl 7 (by decide) (hg _ w1713) (fun _ h9 => h9) rfl (tyX12_ok 7 (by decide)) rfl rfl (Nat.le_of_ble_eq_true rfl) dX12_named_72 (fun H locs hP hD hS => ?_)
              obtain ⟨V42, hV42⟩ : ∃ z, z = up2 V38 0 7 z41 := ⟨_, rfl⟩
              have hP : va_P D vwCl (mw ad kk ks.1 V42 L) H := by rw [hV42]; exact hP
              have hD : va_D A (mw ad kk ks.1 V42 L) := by rw [hV42]; exact hD
              have hMV42 : rgd bM V42 := hMV38.put hV42 (i_full _)
              have agV42 : agr [(0, 7), (0, 8)] [] V V42 := agV38.up hV42 rfl
              refine lv_iload hx hb dX12_named_75 (lv_at hl 0 rfl) ?_
              have pq43 : (V42 0 8).toInt = ((V38 0 8)).toInt := congrArg Int32.toInt (up2_k hV42 (by decide))
              exact W.iret (v := z17) hx hb hr (fun t ht hW => ⟨⟨z17, (V42, L), rfl, ⟨hMV42, agV42, rfl, (show (-1) ≤ z17.toInt ∧ z17.toInt ≤ 47 from by (first | exact om_ad2789741d59 rgz17.1 f31 | omega)), (Or.inr ⟨(show 1 ≤ (V42 0 8).toInt from by (first | exact om_e3c391a03e81 t36 pq43 | omega)), fun kk => (look_2 h11 (by rw [vl3, ← cl0]; exact LF.no lf22 rel.2.2.1.1.1 (by omega)) kk).trans (fl_eq rfl (show (V42 0 8).toInt = 2 + 16 * gT.2.2 (gs.1 0) from by omega))⟩), (show z17.toInt < p2.toInt from by (first | exact om_8ee6a8695b20 rg_p2.1 f31 | omega)), (Imp.mk (fun hp => have hp : (V42 0 8).toInt = 0 := hp; (show 0 ≤ z17.toInt from by omega)))⟩, by rw [ht]; exact hP, va_K.moved hW.alike hK, hD⟩, hS.F ht⟩) hS.2.2 dX12_named_77
      · skip
        have f44 : z6.toInt = 0 := b_eq rfl (by decide) c12
        exfalso; (first | exact om_495ee03a60ae q10 f44 | omega)
    · skip
      refine lv_if_ne (tgt := 19) hx hb dX12_named_11 (by decide) (fun c45 => ?_) (fun c45 => ?_)
      · skip
        have f46 : z6.toInt ≠ 0 := b_neq rfl (by decide) c45
        exfalso; (first | exact om_fb320d7600b7 rgz6.1 q10 f46 | omega)
      · skip
        have f47 : z6.toInt = 0 := b_eq rfl (by decide) c45
        refine lv_aload_n hx hb dX12_named_14 rfl (lv_at hl 0 rfl) ?_
        refine lv_iconst (v := 1) hx hb dX12_named_15 (by decide) ?_
        have r48 : Int32.toInt 1 = 1 := by decide
        refine gA_void (gA_runV (As := [.int 1]) (rest := []) (ci := 12) (q0 := 0) hx hb hml hown hg hP hD hK hS hA hnw hgk (s_wrongA l D ks H.size ad kk V L 1 (bq) (gn) (gT) (gs) (gl) hMV (by decide) rel) w2035 w2037 w86 w172 w2038 rfl rfl hdV_yX12_wrong ⟨Nat.le_of_ble_eq_true rfl, Nat.le_of_ble_eq_true rfl⟩ rfl hl.1 rfl (Nat.le_of_ble_eq_true rfl) dX12_named_16 ⟨Nat.le_of_ble_eq_true rfl, Nat.le_of_ble_eq_true rfl⟩) hP hD hK hS hA (fun u50 H locs w51 hP hD hK hS => ?_)
        obtain ⟨V54, L55⟩ := u50
        obtain ⟨hMV54, ajV54, axL55, t52, t53⟩ := w51
        have axL55 : L = L55 := Eq.symm axL55
        subst axL55
        have hP : va_P D vwCl (mw ad kk ks.1 V54 L) H := hP
        have hD : va_D A (mw ad kk ks.1 V54 L) := hD
        have hMV54 : rgd bM V54 := hMV54
        have ajV54 : agr [(0, 8)] [] V V54 := ajV54
        have agV54 : agr [(0, 7), (0, 8)] [] V V54 := agV.tr ajV54 (by decide) (by decide)
        have t52 : 1 ≤ (V54 0 8).toInt := t52
        have t53 : (V54 0 8).toInt = (Int32.toInt 1) + 16 * (gT).2.2 ((gs).1 0) := t53
        have r56 : 0 ≤ ((V54 0 8)).toInt ∧ ((V54 0 8)).toInt ≤ 70000 := hMV54 0 8
        refine lv_aload_n hx hb dX12_named_19 rfl (lv_at hl 0 rfl) ?_
        refine va_get (D := D) (ci := 12) (v := .int (V54 0 8)) (C := RX12) (T := TX12) (N := 100) hx hb hg inX12 hown hK hP 0 rfl rfl 8 (by decide) (hg _ w1714) (fun _ h9 => h9) rfl dX12_named_20 ?_
        refine lv_if_ne (tgt := 45) hx hb dX12_named_23 (by decide) (fun c57 => ?_) (fun c57 => ?_)
        · skip
          have f58 : ((V54 0 8)).toInt ≠ 0 := b_neq rfl (by decide) c57
          refine lv_iconst (v := (-1)) hx hb dX12_named_45 (by decide) ?_
          refine lv_istore (lv' := [(4, .int (-1)), (0, .ref (ad 0)), (1, .ref (ad 14)), (2, .int p1), (3, .int p2)]) hx hb dX12_named_46 hl (by decide) rfl (fun ls hl => ?_)
          refine lv_aload_n hx hb dX12_named_48 rfl (lv_at hl 1 rfl) ?_
          refine va_get (D := D) (ci := 12) (v := .int (V54 0 8)) (C := RX12) (T := TX12) (N := 100) hx hb hg inX12 hown hK hP 0 rfl rfl 8 (by decide) (hg _ w1714) (fun _ h9 => h9) rfl dX12_named_49 ?_
          refine lv_if_ne (tgt := 65) hx hb dX12_named_52 (by decide) (fun c59 => ?_) (fun c59 => ?_)
          · skip
            have f60 : ((V54 0 8)).toInt ≠ 0 := b_neq rfl (by decide) c59
            refine lv_aload_n hx hb dX12_named_65 rfl (lv_at hl 1 rfl) ?_
            refine lv_dup hx hb dX12_named_66 rfl ?_
            refine va_get (D := D) (ci := 12) (v := .int (V54 0 7)) (C := RX12) (T := TX12) (N := 100) hx hb hg inX12 hown hK hP 0 rfl rfl 7 (by decide) (hg _ w1713) (fun _ h9 => h9) rfl dX12_named_67 ?_
            refine g_top (v := (V 0 7)) (ajV54 0 7 rfl) ?_
            refine lv_iconst (v := 1) hx hb dX12_named_70 (by decide) ?_
            refine lv_iadd hx hb dX12_named_71 ?_
            refine lv_topi (fun z61 ez61 => ?_)
            have hz61 : z61.toInt = ((V 0 7)).toInt + 1 := i_add ez61 rfl (by decide) (by omega)
            refine va_put (D := D) (ci := 12) (v := .int z61) (ty := tyX12 7) (C := RX12) (T := TX12) (N := 100) hx hb hg inX12 tyX12 tyX12_ok nmX12 hown hK hP hD hS 0 rfl rfl 7 (by decide) (hg _ w1713) (fun _ h9 => h9) rfl (tyX12_ok 7 (by decide)) rfl rfl (Nat.le_of_ble_eq_true rfl) dX12_named_72 (fun H locs hP hD hS => ?_)
            obtain ⟨V62, hV62⟩ : ∃ z, z = up2 V54 0 7 z61 := ⟨_, rfl⟩
            have hP : va_P D vwCl (mw ad kk ks.1 V62 L) H := by rw [hV62]; exact hP
            have hD : va_D A (mw ad kk ks.1 V62 L) := by rw [hV62]; exact hD
            have hMV62 : rgd bM V62 := hMV54.put hV62 (i_full _)
            have agV62 : agr [(0, 7), (0, 8)] [] V V62 := agV54.up hV62 rfl
            refine lv_iload hx hb dX12_named_75 (lv_at hl 0 rfl) ?_
            have pq63 : (V62 0 8).toInt = ((V54 0 8)).toInt := congrArg Int32.toInt (up2_k hV62 (by decide))
            exact W.iret (v := (-1)) hx hb hr (fun t ht hW => ⟨⟨(-1), (V62, L), rfl, ⟨hMV62, agV62, rfl, (by decide), (Or.inr ⟨(show 1 ≤ (V62 0 8).toInt from by (first | exact om_e3c391a03e81 t52 pq63 | omega)), fun kk => (look_1 h11 kk).trans (fl_eq rfl (show (V62 0 8).toInt = 1 + 16 * gT.2.2 (gs.1 0) from by omega))⟩), (show (-1) < p2.toInt from by (first | exact om_550cdc110816 rg_p2.1 | omega)), (Imp.mk (fun hp => have hp : (V62 0 8).toInt = 0 := hp; (show 0 ≤ (-1) from by omega)))⟩, by rw [ht]; exact hP, va_K.moved hW.alike hK, hD⟩, hS.F ht⟩) hS.2.2 dX12_named_77
          · skip
            have f64 : ((V54 0 8)).toInt = 0 := b_eq rfl (by decide) c59
            exfalso; (first | exact om_b02ddf2a5870 t52 f58 f64 | omega)
        · skip
          have f65 : ((V54 0 8)).toInt = 0 := b_eq rfl (by decide) c57
          exfalso; (first | exact om_09885ab343b9 t52 f65 | omega)
abbrev r_s_named1 : Room := { frames := 1, cells := 0, slots := 0, locals := 27 }
abbrev q_s_named1 (D : va_G) (ks : KS) (ad : Nat → Nat) (kk : Nat → ClassId) (V : Vf) (L : Lf) (p1 : Int32) (p2 : Int32) (bq : Nat) (gn : Nat) (gT : Tk) (gs : St) (gl : List Int64) (A : Nat → Prop) : Array Value → State → Outcome → State → Prop := va_Qi (fun (r : Int32) (u : Vf × Lf) => rgd bM u.1 ∧ agr [(0, 7), (0, 8)] [] V u.1 ∧ u.2 = L ∧ ((-1) ≤ r.toInt ∧ r.toInt ≤ 47) ∧ (KmN (look gT gs (gs.2.1 1)) (u.1 0 8).toInt (fun f9 => RelM u.1 u.2 bq gn gT (nx gs 1) gl ∧ r.toInt = ((f9 : Nat) : Int) ∧ f9 < 12)) ∧ (r.toInt < p2.toInt) ∧ (Imp ((u.1 0 8).toInt = 0) (0 ≤ r.toInt))) (fun u t => gq D A (mw ad kk ks.1 u.1 u.2) (mty kk) t) A
set_option maxHeartbeats 4000000 in
set_option maxRecDepth 100000 in
theorem s_named1 (l : Launch) (D : va_G) (ks : KS) (sz : Nat) (ad : Nat → Nat) (kk : Nat → ClassId) (V : Vf) (L : Lf) (p1 : Int32) (p2 : Int32) (bq : Nat) (gn : Nat) (gT : Tk) (gs : St) (gl : List Int64) (hMV : rgd bM V) (rg_p1 : 0 ≤ p1.toInt ∧ p1.toInt ≤ 24) (rg_p2 : 0 ≤ p2.toInt ∧ p2.toInt ≤ 12) (rel : RelM V L bq gn gT gs gl) (yp : p1.toInt = ((12 * bq : Nat) : Int)) (yq : p2.toInt = (V 16 bq).toInt)  : Met l yX12_named (Cond.code yX12_named cX12_named 5 (some .int) :: GW) r_s_named1 (va_Pc [.ref (ad 0), .ref (ad 17), .int p1, .int p2] (gp D ks (mw ad kk ks.1 V L) (mty kk) sz)) (q_s_named1 D ks ad kk V L p1 p2 bq gn gT gs gl (va_A (mw ad kk ks.1 V L) sz)) 0 0 (va_A (mw ad kk ks.1 V L) sz) := by
  refine g_met (q_s_named1 D ks ad kk V L p1 p2 bq gn gT gs gl) (by decide) (Nat.le_of_ble_eq_true rfl) ?_
  intro p e s m below meth c A ls H locs hx hb hr hml hown hg hlocks hin hnw hgk hP hK hD hS hA hl
  have hown : s.vm.findClass RX12 = some m.cls := hown
  have hl : lv_has ls 5 [(0, .ref (ad 0)), (1, .ref (ad 17)), (2, .int p1), (3, .int p2)] := hl
  have hP : va_P D vwCl (mw ad kk ks.1 V L) H := hP
  have hD : va_D A (mw ad kk ks.1 V L) := hD
  have hK : va_K D vwCl (mty kk) s := hK
  have agV : agr [(0, 7), (0, 8)] [] V V := agr.rf
  have rf_p1 := i_full p1
  have rf_p2 := i_full p2
  have r1 : 0 ≤ ((V 16 bq)).toInt ∧ ((V 16 bq)).toInt ≤ 12 := hMV 16 bq
  have rg0 := RelM.rg rel
  have cl0 := RelM.cl rel
  have cq0 := RelM.cq rel
  refine lv_aload_n hx hb dX12_named_0 rfl (lv_at hl 0 rfl) ?_
  refine va_get (D := D) (ci := 12) (v := .int (V 0 8)) (C := RX12) (T := TX12) (N := 100) hx hb hg inX12 hown hK hP 0 rfl rfl 8 (by decide) (hg _ w1714) (fun _ h9 => h9) rfl dX12_named_1 ?_
  have r2 : 0 ≤ ((V 0 8)).toInt ∧ ((V 0 8)).toInt ≤ 70000 := hMV 0 8
  refine lv_if_ne (tgt := 19) hx hb dX12_named_4 (by decide) (fun c3 => ?_) (fun c3 => ?_)
  · skip
    have f4 : ((V 0 8)).toInt ≠ 0 := b_neq rfl (by decide) c3
    exfalso; (first | exact om_0b51723c7ef6 rg0.2.2.1 f4 | omega)
  · skip
    have f5 : ((V 0 8)).toInt = 0 := b_eq rfl (by decide) c3
    refine lv_aload_n hx hb dX12_named_7 rfl (lv_at hl 0 rfl) ?_
    refine gA_int (gA_runV (As := []) (rest := []) (ci := 12) (q0 := 0) hx hb hml hown hg hP hD hK hS hA hnw hgk (s_isNameA l D ks H.size ad kk V L (bq) (gn) (gT) (gs) (gl) hMV rel) w2043 w2045 w88 w172 w2046 rfl rfl hdV_yX12_isName ⟨Nat.le_of_ble_eq_true rfl, Nat.le_of_ble_eq_true rfl⟩ rfl hl.1 rfl (Nat.le_of_ble_eq_true rfl) dX12_named_8 ⟨Nat.le_of_ble_eq_true rfl, Nat.le_of_ble_eq_true rfl⟩) hP hD hK hS hA (fun z6 u7 H locs w8 hP hD hK hS => ?_)
    obtain ⟨rgz6, t9⟩ := w8
    have rgz6 : 0 ≤ z6.toInt ∧ z6.toInt ≤ 1 := rgz6
    have t9 : (z6.toInt = 1 ∧ (gT).1 ((gs).1 0) = 3) ∨ (z6.toInt = 0 ∧ (gT).1 ((gs).1 0) ≠ 3) := t9
    rcases t9 with ⟨q10, h11⟩ | ⟨q10, h11⟩
    · skip
      refine lv_if_ne (tgt := 19) hx hb dX12_named_11 (by decide) (fun c12 => ?_) (fun c12 => ?_)
      · skip
        have f13 : z6.toInt ≠ 0 := b_neq rfl (by decide) c12
        have vl3 := RelM.vl rel (Or.inr h11)
        refine lv_aload_n hx hb dX12_named_19 rfl (lv_at hl 0 rfl) ?_
        refine va_get (D := D) (ci := 12) (v := .int (V 0 8)) (C := RX12) (T := TX12) (N := 100) hx hb hg inX12 hown hK hP 0 rfl rfl 8 (by decide) (hg _ w1714) (fun _ h9 => h9) rfl dX12_named_20 ?_
        refine lv_if_ne (tgt := 45) hx hb dX12_named_23 (by decide) (fun c14 => ?_) (fun c14 => ?_)
        · skip
          have f15 : ((V 0 8)).toInt ≠ 0 := b_neq rfl (by decide) c14
          exfalso; (first | exact om_fb320d7600b7 r2.1 f5 f15 | omega)
        · skip
          have f16 : ((V 0 8)).toInt = 0 := b_eq rfl (by decide) c14
          refine lv_aload_n hx hb dX12_named_26 rfl (lv_at hl 0 rfl) ?_
          refine lv_aload_n hx hb dX12_named_27 rfl (lv_at hl 1 rfl) ?_
          refine lv_iload_n hx hb dX12_named_28 rfl (lv_at hl 2 rfl) ?_
          refine lv_iload_n hx hb dX12_named_29 rfl (lv_at hl 3 rfl) ?_
          refine lv_aload_n hx hb dX12_named_30 rfl (lv_at hl 0 rfl) ?_
          refine va_get (D := D) (ci := 12) (v := .ref (ad 6)) (C := RX12) (T := TX12) (N := 100) hx hb hg inX12 hown hK hP 0 rfl rfl 6 (by decide) (hg _ w1712) (fun _ h9 => h9) rfl dX12_named_31 ?_
          refine lv_aload_n hx hb dX12_named_34 rfl (lv_at hl 0 rfl) ?_
          refine va_get (D := D) (ci := 12) (v := .int (V 0 7)) (C := RX12) (T := TX12) (N := 100) hx hb hg inX12 hown hK hP 0 rfl rfl 7 (by decide) (hg _ w1713) (fun _ h9 => h9) rfl dX12_named_35 ?_
          refine va_lald (D := D) (i := (V 0 7)) hx hb hK hP 4 3 rfl rfl (i_in (a := ((V 0 7)).toInt) rfl (by omega)) dX12_named_38 ?_
          refine gA_int (gA_runV (As := [.ref (ad 17), .int p1, .int p2, .long (L 6 (Int32.toNatClampNeg (V 0 7)))]) (rest := []) (ci := 12) (q0 := 0) hx hb hml hown hg hP hD hK hS hA hnw hgk (s_find2_settingName l D ks H.size ad kk V L p1 p2 (L 6 (Int32.toNatClampNeg (V 0 7))) hMV (by (first | exact om_f82fee59341f rg_p1.1 rg_p1.2 | omega)) (by (first | exact om_f5a2411b9512 rg_p2.1 rg_p2.2 | omega)) (show p1.toInt + p2.toInt ≤ 24 from by (first | exact om_46a300d55166 rg_p2.2 yp rg0.2.2.2.2.1 | omega))) w2047 w2049 w89 w172 w2050 rfl rfl hdV_yX12_find ⟨Nat.le_of_ble_eq_true rfl, Nat.le_of_ble_eq_true rfl⟩ rfl hl.1 rfl (Nat.le_of_ble_eq_true rfl) dX12_named_39 ⟨Nat.le_of_ble_eq_true rfl, Nat.le_of_ble_eq_true rfl⟩) hP hD hK hS hA (fun z17 u18 H locs w19 hP hD hK hS => ?_)
          obtain ⟨rgz17, t20, t21⟩ := w19
          have rgz17 : (-1) ≤ z17.toInt ∧ z17.toInt ≤ 47 := rgz17
          have t20 : z17.toInt < p2.toInt := t20
          have t21 : LF (fun i => L 17 (p1.toInt.toNat + i)) p2.toInt ((L 6 (Int32.toNatClampNeg (V 0 7)))) z17.toInt := t21
          have lf22 : LF (fun i => L 17 (12 * bq + i)) (V 16 bq).toInt (L 6 (Int32.toNatClampNeg (V 0 7))) z17.toInt := by have h9 := t21; rw [show p1.toInt.toNat = 12 * bq from by omega, show p2.toInt = (V 16 bq).toInt from by omega] at h9; exact h9
          refine lv_goto (tgt := 46) hx hb dX12_named_42 (by decide) ?_
          refine lv_istore (lv' := [(4, .int z17), (0, .ref (ad 0)), (1, .ref (ad 17)), (2, .int p1), (3, .int p2)]) hx hb dX12_named_46 hl (by decide) rfl (fun ls hl => ?_)
          refine lv_aload_n hx hb dX12_named_48 rfl (lv_at hl 1 rfl) ?_
          refine va_get (D := D) (ci := 12) (v := .int (V 0 8)) (C := RX12) (T := TX12) (N := 100) hx hb hg inX12 hown hK hP 0 rfl rfl 8 (by decide) (hg _ w1714) (fun _ h9 => h9) rfl dX12_named_49 ?_
          refine lv_if_ne (tgt := 65) hx hb dX12_named_52 (by decide) (fun c23 => ?_) (fun c23 => ?_)
          · skip
            have f24 : ((V 0 8)).toInt ≠ 0 := b_neq rfl (by decide) c23
            exfalso; (first | exact om_fb320d7600b7 r2.1 f5 f24 | omega)
          · skip
            have f25 : ((V 0 8)).toInt = 0 := b_eq rfl (by decide) c23
            refine lv_iload hx hb dX12_named_55 (lv_at hl 0 rfl) ?_
            refine lv_if_ge (tgt := 65) hx hb dX12_named_57 (by decide) (fun c26 => ?_) (fun c26 => ?_)
            · skip
              have f27 : 0 ≤ z17.toInt := b_le (by decide) rfl c26
              refine lv_aload_n hx hb dX12_named_65 rfl (lv_at hl 1 rfl) ?_
              refine lv_dup hx hb dX12_named_66 rfl ?_
              refine va_get (D := D) (ci := 12) (v := .int (V 0 7)) (C := RX12) (T := TX12) (N := 100) hx hb hg inX12 hown hK hP 0 rfl rfl 7 (by decide) (hg _ w1713) (fun _ h9 => h9) rfl dX12_named_67 ?_
              refine lv_iconst (v := 1) hx hb dX12_named_70 (by decide) ?_
              refine lv_iadd hx hb dX12_named_71 ?_
              refine lv_topi (fun z28 ez28 => ?_)
              have hz28 : z28.toInt = ((V 0 7)).toInt + 1 := i_add ez28 rfl (by decide) (by omega)
              refine va_put (D := D) (ci := 12) (v := .int z28) (ty := tyX12 7) (C := RX12) (T := TX12) (N := 100) hx hb hg inX12 tyX12 tyX12_ok nmX12 hown hK hP hD hS 0 rfl rfl 7 (by decide) (hg _ w1713) (fun _ h9 => h9) rfl (tyX12_ok 7 (by decide)) rfl rfl (Nat.le_of_ble_eq_true rfl) dX12_named_72 (fun H locs hP hD hS => ?_)
              obtain ⟨V29, hV29⟩ : ∃ z, z = up2 V 0 7 z28 := ⟨_, rfl⟩
              have hP : va_P D vwCl (mw ad kk ks.1 V29 L) H := by rw [hV29]; exact hP
              have hD : va_D A (mw ad kk ks.1 V29 L) := by rw [hV29]; exact hD
              have hMV29 : rgd bM V29 := hMV.put hV29 (i_full _)
              have agV29 : agr [(0, 7), (0, 8)] [] V V29 := agV.up hV29 rfl
              refine lv_iload hx hb dX12_named_75 (lv_at hl 0 rfl) ?_
              have pq30 : (V29 0 8).toInt = ((V 0 8)).toInt := congrArg Int32.toInt (up2_k hV29 (by decide))
              exact W.iret (v := z17) hx hb hr (fun t ht hW => ⟨⟨z17, (V29, L), rfl, ⟨hMV29, agV29, rfl, (show (-1) ≤ z17.toInt ∧ z17.toInt ≤ 47 from by (first | exact om_30e81084b2be rg_p2.2 t20 f27 | omega)), (Or.inl ⟨W0 (RelM.n1 rel hV29 (by (first | exact om_55c67efb91e5 hz28 | omega)) (by rw [h11]; decide)), z17.toInt.toNat, fun kk => look_y h11 (by rw [vl3, ← cl0]; exact LF.yes lf22 rel.2.2.1.2.1.1 rel.2.2.1.2.1.2 (by omega)) kk, (RelM.n1 rel hV29 (by (first | exact om_55c67efb91e5 hz28 | omega)) (by rw [h11]; decide)), (show z17.toInt = ((z17.toInt.toNat : Nat) : Int) from by (first | exact om_bb68b85f87a5 f27 | omega)), (show z17.toInt.toNat < 12 from by (first | exact om_cbf1915840be rg_p2.2 t20 f27 | omega))⟩), (show z17.toInt < p2.toInt from by (first | exact om_0e9116797efb t20 | omega)), (Imp.mk (fun hp => have hp : (V29 0 8).toInt = 0 := hp; (show 0 ≤ z17.toInt from by (first | exact om_eafa9039069c f27 | omega))))⟩, by rw [ht]; exact hP, va_K.moved hW.alike hK, hD⟩, hS.F ht⟩) hS.2.2 dX12_named_77
            · skip
              have f31 : z17.toInt < 0 := b_nle (by decide) rfl c26
              refine lv_aload_n hx hb dX12_named_60 rfl (lv_at hl 1 rfl) ?_
              refine lv_iconst (v := 2) hx hb dX12_named_61 (by decide) ?_
              have r32 : Int32.toInt 2 = 2 := by decide
              refine gA_void (gA_runV (As := [.int 2]) (rest := []) (ci := 12) (q0 := 0) hx hb hml hown hg hP hD hK hS hA hnw hgk (s_wrongA l D ks H.size ad kk V L 2 (bq) (gn) (gT) (gs) (gl) hMV (by decide) rel) w2035 w2037 w86 w172 w2038 rfl rfl hdV_yX12_wrong ⟨Nat.le_of_ble_eq_true rfl, Nat.le_of_ble_eq_true rfl⟩ rfl hl.1 rfl (Nat.le_of_ble_eq_true rfl) dX12_named_62 ⟨Nat.le_of_ble_eq_true rfl, Nat.le_of_ble_eq_true rfl⟩) hP hD hK hS hA (fun u34 H locs w35 hP hD hK hS => ?_)
              obtain ⟨V38, L39⟩ := u34
              obtain ⟨hMV38, ajV38, axL39, t36, t37⟩ := w35
              have axL39 : L = L39 := Eq.symm axL39
              subst axL39
              have hP : va_P D vwCl (mw ad kk ks.1 V38 L) H := hP
              have hD : va_D A (mw ad kk ks.1 V38 L) := hD
              have hMV38 : rgd bM V38 := hMV38
              have ajV38 : agr [(0, 8)] [] V V38 := ajV38
              have agV38 : agr [(0, 7), (0, 8)] [] V V38 := agV.tr ajV38 (by decide) (by decide)
              have t36 : 1 ≤ (V38 0 8).toInt := t36
              have t37 : (V38 0 8).toInt = (Int32.toInt 2) + 16 * (gT).2.2 ((gs).1 0) := t37
              have r40 : 0 ≤ ((V38 0 8)).toInt ∧ ((V38 0 8)).toInt ≤ 70000 := hMV38 0 8
              refine lv_aload_n hx hb dX12_named_65 rfl (lv_at hl 1 rfl) ?_
              refine lv_dup hx hb dX12_named_66 rfl ?_
              refine va_get (D := D) (ci := 12) (v := .int (V38 0 7)) (C := RX12) (T := TX12) (N := 100) hx hb hg inX12 hown hK hP 0 rfl rfl 7 (by decide) (hg _ w1713) (fun _ h9 => h9) rfl dX12_named_67 ?_
              refine g_top (v := (V 0 7)) (ajV38 0 7 rfl) ?_
              refine lv_iconst (v := 1) hx hb dX12_named_70 (by decide) ?_
              refine lv_iadd hx hb dX12_named_71 ?_
              refine lv_topi (fun z41 ez41 => ?_)
              have hz41 : z41.toInt = ((V 0 7)).toInt + 1 := i_add ez41 rfl (by decide) (by omega)
              refine va_put (D := D) (ci := 12) (v := .int z41) (ty := tyX12 7) (C := RX12) (T := TX12) (N := 100) hx hb hg inX12 tyX12 tyX12_ok nmX12 hown hK hP hD hS 0 rfl rfl 7 (by decide) (hg _ w1713) (fun _ h9 => h9) rfl (tyX12_ok 7 (by decide)) rfl rfl (Nat.le_of_ble_eq_true rfl) dX12_named_72 (fun H locs hP hD hS => ?_)
              obtain ⟨V42, hV42⟩ : ∃ z, z = up2 V38 0 7 z41 := ⟨_, rfl⟩
              have hP : va_P D vwCl (mw ad kk ks.1 V42 L) H := by rw [hV42]; exact hP
              have hD : va_D A (mw ad kk ks.1 V42 L) := by rw [hV42]; exact hD
              have hMV42 : rgd bM V42 := hMV38.put hV42 (i_full _)
              have agV42 : agr [(0, 7), (0, 8)] [] V V42 := agV38.up hV42 rfl
              refine lv_iload hx hb dX12_named_75 (lv_at hl 0 rfl) ?_
              have pq43 : (V42 0 8).toInt = ((V38 0 8)).toInt := congrArg Int32.toInt (up2_k hV42 (by decide))
              exact W.iret (v := z17) hx hb hr (fun t ht hW => ⟨⟨z17, (V42, L), rfl, ⟨hMV42, agV42, rfl, (show (-1) ≤ z17.toInt ∧ z17.toInt ≤ 47 from by (first | exact om_ad2789741d59 rgz17.1 f31 | omega)), (Or.inr ⟨(show 1 ≤ (V42 0 8).toInt from by (first | exact om_e3c391a03e81 t36 pq43 | omega)), fun kk => (look_2 h11 (by rw [vl3, ← cl0]; exact LF.no lf22 rel.2.2.1.2.1.1 (by omega)) kk).trans (fl_eq rfl (show (V42 0 8).toInt = 2 + 16 * gT.2.2 (gs.1 0) from by omega))⟩), (show z17.toInt < p2.toInt from by (first | exact om_8ee6a8695b20 rg_p2.1 f31 | omega)), (Imp.mk (fun hp => have hp : (V42 0 8).toInt = 0 := hp; (show 0 ≤ z17.toInt from by omega)))⟩, by rw [ht]; exact hP, va_K.moved hW.alike hK, hD⟩, hS.F ht⟩) hS.2.2 dX12_named_77
      · skip
        have f44 : z6.toInt = 0 := b_eq rfl (by decide) c12
        exfalso; (first | exact om_495ee03a60ae q10 f44 | omega)
    · skip
      refine lv_if_ne (tgt := 19) hx hb dX12_named_11 (by decide) (fun c45 => ?_) (fun c45 => ?_)
      · skip
        have f46 : z6.toInt ≠ 0 := b_neq rfl (by decide) c45
        exfalso; (first | exact om_fb320d7600b7 rgz6.1 q10 f46 | omega)
      · skip
        have f47 : z6.toInt = 0 := b_eq rfl (by decide) c45
        refine lv_aload_n hx hb dX12_named_14 rfl (lv_at hl 0 rfl) ?_
        refine lv_iconst (v := 1) hx hb dX12_named_15 (by decide) ?_
        have r48 : Int32.toInt 1 = 1 := by decide
        refine gA_void (gA_runV (As := [.int 1]) (rest := []) (ci := 12) (q0 := 0) hx hb hml hown hg hP hD hK hS hA hnw hgk (s_wrongA l D ks H.size ad kk V L 1 (bq) (gn) (gT) (gs) (gl) hMV (by decide) rel) w2035 w2037 w86 w172 w2038 rfl rfl hdV_yX12_wrong ⟨Nat.le_of_ble_eq_true rfl, Nat.le_of_ble_eq_true rfl⟩ rfl hl.1 rfl (Nat.le_of_ble_eq_true rfl) dX12_named_16 ⟨Nat.le_of_ble_eq_true rfl, Nat.le_of_ble_eq_true rfl⟩) hP hD hK hS hA (fun u50 H locs w51 hP hD hK hS => ?_)
        obtain ⟨V54, L55⟩ := u50
        obtain ⟨hMV54, ajV54, axL55, t52, t53⟩ := w51
        have axL55 : L = L55 := Eq.symm axL55
        subst axL55
        have hP : va_P D vwCl (mw ad kk ks.1 V54 L) H := hP
        have hD : va_D A (mw ad kk ks.1 V54 L) := hD
        have hMV54 : rgd bM V54 := hMV54
        have ajV54 : agr [(0, 8)] [] V V54 := ajV54
        have agV54 : agr [(0, 7), (0, 8)] [] V V54 := agV.tr ajV54 (by decide) (by decide)
        have t52 : 1 ≤ (V54 0 8).toInt := t52
        have t53 : (V54 0 8).toInt = (Int32.toInt 1) + 16 * (gT).2.2 ((gs).1 0) := t53
        have r56 : 0 ≤ ((V54 0 8)).toInt ∧ ((V54 0 8)).toInt ≤ 70000 := hMV54 0 8
        refine lv_aload_n hx hb dX12_named_19 rfl (lv_at hl 0 rfl) ?_
        refine va_get (D := D) (ci := 12) (v := .int (V54 0 8)) (C := RX12) (T := TX12) (N := 100) hx hb hg inX12 hown hK hP 0 rfl rfl 8 (by decide) (hg _ w1714) (fun _ h9 => h9) rfl dX12_named_20 ?_
        refine lv_if_ne (tgt := 45) hx hb dX12_named_23 (by decide) (fun c57 => ?_) (fun c57 => ?_)
        · skip
          have f58 : ((V54 0 8)).toInt ≠ 0 := b_neq rfl (by decide) c57
          refine lv_iconst (v := (-1)) hx hb dX12_named_45 (by decide) ?_
          refine lv_istore (lv' := [(4, .int (-1)), (0, .ref (ad 0)), (1, .ref (ad 17)), (2, .int p1), (3, .int p2)]) hx hb dX12_named_46 hl (by decide) rfl (fun ls hl => ?_)
          refine lv_aload_n hx hb dX12_named_48 rfl (lv_at hl 1 rfl) ?_
          refine va_get (D := D) (ci := 12) (v := .int (V54 0 8)) (C := RX12) (T := TX12) (N := 100) hx hb hg inX12 hown hK hP 0 rfl rfl 8 (by decide) (hg _ w1714) (fun _ h9 => h9) rfl dX12_named_49 ?_
          refine lv_if_ne (tgt := 65) hx hb dX12_named_52 (by decide) (fun c59 => ?_) (fun c59 => ?_)
          · skip
            have f60 : ((V54 0 8)).toInt ≠ 0 := b_neq rfl (by decide) c59
            refine lv_aload_n hx hb dX12_named_65 rfl (lv_at hl 1 rfl) ?_
            refine lv_dup hx hb dX12_named_66 rfl ?_
            refine va_get (D := D) (ci := 12) (v := .int (V54 0 7)) (C := RX12) (T := TX12) (N := 100) hx hb hg inX12 hown hK hP 0 rfl rfl 7 (by decide) (hg _ w1713) (fun _ h9 => h9) rfl dX12_named_67 ?_
            refine g_top (v := (V 0 7)) (ajV54 0 7 rfl) ?_
            refine lv_iconst (v := 1) hx hb dX12_named_70 (by decide) ?_
            refine lv_iadd hx hb dX12_named_71 ?_
            refine lv_topi (fun z61 ez61 => ?_)
            have hz61 : z61.toInt = ((V 0 7)).toInt + 1 := i_add ez61 rfl (by decide) (by omega)
            refine va_put (D := D) (ci := 12) (v := .int z61) (ty := tyX12 7) (C := RX12) (T := TX12) (N := 100) hx hb hg inX12 tyX12 tyX12_ok nmX12 hown hK hP hD hS 0 rfl rfl 7 (by decide) (hg _ w1713) (fun _ h9 => h9) rfl (tyX12_ok 7 (by decide)) rfl rfl (Nat.le_of_ble_eq_true rfl) dX12_named_72 (fun H locs hP hD hS => ?_)
            obtain ⟨V62, hV62⟩ : ∃ z, z = up2 V54 0 7 z61 := ⟨_, rfl⟩
            have hP : va_P D vwCl (mw ad kk ks.1 V62 L) H := by rw [hV62]; exact hP
            have hD : va_D A (mw ad kk ks.1 V62 L) := by rw [hV62]; exact hD
            have hMV62 : rgd bM V62 := hMV54.put hV62 (i_full _)
            have agV62 : agr [(0, 7), (0, 8)] [] V V62 := agV54.up hV62 rfl
            refine lv_iload hx hb dX12_named_75 (lv_at hl 0 rfl) ?_
            have pq63 : (V62 0 8).toInt = ((V54 0 8)).toInt := congrArg Int32.toInt (up2_k hV62 (by decide))
            exact W.iret (v := (-1)) hx hb hr (fun t ht hW => ⟨⟨(-1), (V62, L), rfl, ⟨hMV62, agV62, rfl, (by decide), (Or.inr ⟨(show 1 ≤ (V62 0 8).toInt from by (first | exact om_e3c391a03e81 t52 pq63 | omega)), fun kk => (look_1 h11 kk).trans (fl_eq rfl (show (V62 0 8).toInt = 1 + 16 * gT.2.2 (gs.1 0) from by omega))⟩), (show (-1) < p2.toInt from by (first | exact om_550cdc110816 rg_p2.1 | omega)), (Imp.mk (fun hp => have hp : (V62 0 8).toInt = 0 := hp; (show 0 ≤ (-1) from by omega)))⟩, by rw [ht]; exact hP, va_K.moved hW.alike hK, hD⟩, hS.F ht⟩) hS.2.2 dX12_named_77
          · skip
            have f64 : ((V54 0 8)).toInt = 0 := b_eq rfl (by decide) c59
            exfalso; (first | exact om_b02ddf2a5870 t52 f58 f64 | omega)
        · skip
          have f65 : ((V54 0 8)).toInt = 0 := b_eq rfl (by decide) c57
          exfalso; (first | exact om_09885ab343b9 t52 f65 | omega)
abbrev r_s_takeTypeA : Room := { frames := 2, cells := 0, slots := 0, locals := 51 }
abbrev q_s_takeTypeA (D : va_G) (ks : KS) (ad : Nat → Nat) (kk : Nat → ClassId) (V : Vf) (L : Lf) (bq : Nat) (gn : Nat) (gT : Tk) (gs : St) (gl : List Int64) (A : Nat → Prop) : Array Value → State → Outcome → State → Prop := va_Qi (fun (r : Int32) (u : Vf × Lf) => rgd bM u.1 ∧ agr [(0, 7), (0, 8)] [] V u.1 ∧ u.2 = L ∧ ((-1) ≤ r.toInt ∧ r.toInt ≤ 23) ∧ (KmN (look gT gs (gs.2.1 0)) (u.1 0 8).toInt (fun f9 => RelM u.1 u.2 bq gn gT (nx gs 1) gl ∧ r.toInt = ((f9 : Nat) : Int) ∧ f9 < 24))) (fun u t => gq D A (mw ad kk ks.1 u.1 u.2) (mty kk) t) A
set_option maxHeartbeats 4000000 in
set_option maxRecDepth 100000 in
theorem s_takeTypeA (l : Launch) (D : va_G) (ks : KS) (sz : Nat) (ad : Nat → Nat) (kk : Nat → ClassId) (V : Vf) (L : Lf) (bq : Nat) (gn : Nat) (gT : Tk) (gs : St) (gl : List Int64) (hMV : rgd bM V) (rel : RelM V L bq gn gT gs gl)  : Met l yX12_takeType (Cond.code yX12_takeType cX12_takeType 1 (some .int) :: GW) r_s_takeTypeA (va_Pc [.ref (ad 0)] (gp D ks (mw ad kk ks.1 V L) (mty kk) sz)) (q_s_takeTypeA D ks ad kk V L  bq gn gT gs gl (va_A (mw ad kk ks.1 V L) sz)) 0 0 (va_A (mw ad kk ks.1 V L) sz) := by
  refine g_met (q_s_takeTypeA D ks ad kk V L  bq gn gT gs gl) (by decide) (Nat.le_of_ble_eq_true rfl) ?_
  intro p e s m below meth c A ls H locs hx hb hr hml hown hg hlocks hin hnw hgk hP hK hD hS hA hl
  have hown : s.vm.findClass RX12 = some m.cls := hown
  have hl : lv_has ls 1 [(0, .ref (ad 0))] := hl
  have hP : va_P D vwCl (mw ad kk ks.1 V L) H := hP
  have hD : va_D A (mw ad kk ks.1 V L) := hD
  have hK : va_K D vwCl (mty kk) s := hK
  have agV : agr [(0, 7), (0, 8)] [] V V := agr.rf
  have rg0 := RelM.rg rel
  have cl0 := RelM.cl rel
  have cq0 := RelM.cq rel
  refine lv_aload_n hx hb dX12_takeType_0 rfl (lv_at hl 0 rfl) ?_
  refine lv_aload_n hx hb dX12_takeType_1 rfl (lv_at hl 0 rfl) ?_
  refine va_get (D := D) (ci := 12) (v := .ref (ad 14)) (C := RX12) (T := TX12) (N := 100) hx hb hg inX12 hown hK hP 0 rfl rfl 14 (by decide) (hg _ w1720) (fun _ h9 => h9) rfl dX12_takeType_2 ?_
  refine lv_bipush (v := 24) hx hb dX12_takeType_5 (by decide) ?_
  refine lv_aload_n hx hb dX12_takeType_7 rfl (lv_at hl 0 rfl) ?_
  refine va_get (D := D) (ci := 12) (v := .int (V 0 12)) (C := RX12) (T := TX12) (N := 100) hx hb hg inX12 hown hK hP 0 rfl rfl 12 (by decide) (hg _ w1718) (fun _ h9 => h9) rfl dX12_takeType_8 ?_
  have r1 : 0 ≤ ((V 0 12)).toInt ∧ ((V 0 12)).toInt ≤ 1 := hMV 0 12
  refine lv_imul hx hb dX12_takeType_11 ?_
  refine lv_topi (fun z2 ez2 => ?_)
  have hz2 : z2.toInt = 24 * ((V 0 12)).toInt := i_mul ez2 (by decide) rfl (by (first | exact om_3f8aba7b6ce1 r1.1 r1.2 | omega))
  refine lv_aload_n hx hb dX12_takeType_12 rfl (lv_at hl 0 rfl) ?_
  refine va_get (D := D) (ci := 12) (v := .ref (ad 13)) (C := RX12) (T := TX12) (N := 100) hx hb hg inX12 hown hK hP 0 rfl rfl 13 (by decide) (hg _ w1719) (fun _ h9 => h9) rfl dX12_takeType_13 ?_
  refine lv_aload_n hx hb dX12_takeType_16 rfl (lv_at hl 0 rfl) ?_
  refine va_get (D := D) (ci := 12) (v := .int (V 0 12)) (C := RX12) (T := TX12) (N := 100) hx hb hg inX12 hown hK hP 0 rfl rfl 12 (by decide) (hg _ w1718) (fun _ h9 => h9) rfl dX12_takeType_17 ?_
  refine va_iald (D := D) (i := (V 0 12)) hx hb hK hP 6 5 rfl rfl (i_in (a := ((V 0 12)).toInt) rfl (by (first | exact om_27c603097004 rg0.2.2.2.1 rg0.2.2.2.2.1 | omega))) dX12_takeType_20 ?_
  have r3 : 0 ≤ ((V 13 (Int32.toNatClampNeg (V 0 12)))).toInt ∧ ((V 13 (Int32.toNatClampNeg (V 0 12)))).toInt ≤ 24 := hMV 13 (Int32.toNatClampNeg (V 0 12))
  have q13 : (V 13 (Int32.toNatClampNeg (V 0 12))).toInt = (V 13 bq).toInt := by rw [cq0]
  have r4 : 0 ≤ ((V 13 bq)).toInt ∧ ((V 13 bq)).toInt ≤ 24 := hMV 13 bq
  refine gA_int (gA_runV (As := [.ref (ad 14), .int z2, .int (V 13 (Int32.toNatClampNeg (V 0 12)))]) (rest := []) (ci := 12) (q0 := 0) hx hb hml hown hg hP hD hK hS hA hnw hgk (s_named0 l D ks H.size ad kk V L z2 (V 13 (Int32.toNatClampNeg (V 0 12))) (bq) (gn) (gT) (gs) (gl) hMV (by (first | exact om_c44c09625d4d r1.1 r1.2 hz2 | omega)) (by (first | exact om_e4f628196420 q13 r4.1 r4.2 | omega)) rel (show z2.toInt = ((24 * (bq) : Nat) : Int) from by (first | exact om_4b4dbad62956 rg0.2.2.2.1 hz2 | omega)) (show ((V 13 (Int32.toNatClampNeg (V 0 12)))).toInt = (V 13 (bq)).toInt from by (first | exact om_570b691c1130 q13 | omega))) w2063 w2065 w93 w172 w2066 rfl rfl hdV_yX12_named ⟨Nat.le_of_ble_eq_true rfl, Nat.le_of_ble_eq_true rfl⟩ rfl hl.1 rfl (Nat.le_of_ble_eq_true rfl) dX12_takeType_21 ⟨Nat.le_of_ble_eq_true rfl, Nat.le_of_ble_eq_true rfl⟩) hP hD hK hS hA (fun z5 u6 H locs w7 hP hD hK hS => ?_)
  obtain ⟨V11, L12⟩ := u6
  obtain ⟨hMV11, ajV11, axL12, rgz5, t8, t9, t10⟩ := w7
  have axL12 : L = L12 := Eq.symm axL12
  subst axL12
  have hP : va_P D vwCl (mw ad kk ks.1 V11 L) H := hP
  have hD : va_D A (mw ad kk ks.1 V11 L) := hD
  have hMV11 : rgd bM V11 := hMV11
  have ajV11 : agr [(0, 7), (0, 8)] [] V V11 := ajV11
  have agV11 : agr [(0, 7), (0, 8)] [] V V11 := agV.tr ajV11 (by decide) (by decide)
  have rgz5 : (-1) ≤ z5.toInt ∧ z5.toInt ≤ 47 := rgz5
  have t8 : KmN (look (gT) (gs) ((gs).2.1 0)) (V11 0 8).toInt (fun f9 => RelM V11 L (bq) (gn) (gT) (nx (gs) 1) (gl) ∧ z5.toInt = ((f9 : Nat) : Int) ∧ f9 < 24) := t8
  have t9 : z5.toInt < ((V 13 (Int32.toNatClampNeg (V 0 12)))).toInt := t9
  have t10 : Imp ((V11 0 8).toInt = 0) (0 ≤ z5.toInt) := t10
  have r13 : 0 ≤ ((V11 0 8)).toInt ∧ ((V11 0 8)).toInt ≤ 70000 := hMV11 0 8
  exact W.iret (v := z5) hx hb hr (fun t ht hW => ⟨⟨z5, (V11, L), rfl, ⟨hMV11, agV11, rfl, (show (-1) ≤ z5.toInt ∧ z5.toInt ≤ 23 from by first | exact om_fd9066f9ee7e q13 r4.2 rgz5.1 t9 | first | omega | ((try (have i_t10 := Imp.go t10 (by omega))); omega)), t8⟩, by rw [ht]; exact hP, va_K.moved hW.alike hK, hD⟩, hS.F ht⟩) hS.2.2 dX12_takeType_24
abbrev r_s_takeWordOf3 : Room := { frames := 1, cells := 0, slots := 0, locals := 27 }
abbrev q_s_takeWordOf3 (D : va_G) (ks : KS) (ad : Nat → Nat) (kk : Nat → ClassId) (V : Vf) (L : Lf) (bq : Nat) (gn : Nat) (gT : Tk) (gs : St) (gl : List Int64) (A : Nat → Prop) : Array Value → State → Outcome → State → Prop := va_Qi (fun (r : Int32) (u : Vf × Lf) => rgd bM u.1 ∧ agr [(0, 7), (0, 8)] [35, 36, 37, 38] V u.1 ∧ agL [35, 36, 37, 38] L u.2 ∧ ((-1) ≤ r.toInt ∧ r.toInt ≤ 19) ∧ (KmS (mthW gT gs 3) (u.1 0 8).toInt (fun x9 => RelM u.1 u.2 bq gn gT x9.2 gl ∧ r.toInt = ((x9.1 : Nat) : Int) ∧ x9.1 < 20 ∧ keepS gs 1 x9.2 ∧ MTX gT gs 3 x9)) ∧ (RoV 35 bq V u.1) ∧ (RoV 37 bq V u.1) ∧ (RoL 36 20 bq L u.2) ∧ (RoL 38 20 bq L u.2)) (fun u t => gq D A (mw ad kk ks.1 u.1 u.2) (mty kk) t) A
set_option maxHeartbeats 4000000 in
set_option maxRecDepth 100000 in
theorem s_takeWordOf3 (l : Launch) (D : va_G) (ks : KS) (sz : Nat) (ad : Nat → Nat) (kk : Nat → ClassId) (V : Vf) (L : Lf) (bq : Nat) (gn : Nat) (gT : Tk) (gs : St) (gl : List Int64) (hMV : rgd bM V) (rel : RelM V L bq gn gT gs gl)  : Met l yX12_takeWordOf (Cond.code yX12_takeWordOf cX12_takeWordOf 4 (some .int) :: GW) r_s_takeWordOf3 (va_Pc [.ref (ad 0), .ref (ad 36), .ref (ad 35)] (gp D ks (mw ad kk ks.1 V L) (mty kk) sz)) (q_s_takeWordOf3 D ks ad kk V L  bq gn gT gs gl (va_A (mw ad kk ks.1 V L) sz)) 0 0 (va_A (mw ad kk ks.1 V L) sz) := by
  refine g_met (q_s_takeWordOf3 D ks ad kk V L  bq gn gT gs gl) (by decide) (Nat.le_of_ble_eq_true rfl) ?_
  intro p e s m below meth c A ls H locs hx hb hr hml hown hg hlocks hin hnw hgk hP hK hD hS hA hl
  have hown : s.vm.findClass RX12 = some m.cls := hown
  have hl : lv_has ls 4 [(0, .ref (ad 0)), (1, .ref (ad 36)), (2, .ref (ad 35))] := hl
  have hP : va_P D vwCl (mw ad kk ks.1 V L) H := hP
  have hD : va_D A (mw ad kk ks.1 V L) := hD
  have hK : va_K D vwCl (mty kk) s := hK
  have agV : agr [(0, 7), (0, 8)] [35, 36, 37, 38] V V := agr.rf
  have alL : agL [35, 36, 37, 38] L L := agL.rf
  have rg0 := RelM.rg rel
  have cl0 := RelM.cl rel
  have cq0 := RelM.cq rel
  refine lv_aload_n hx hb dX12_takeWordOf_0 rfl (lv_at hl 0 rfl) ?_
  refine va_get (D := D) (ci := 12) (v := .int (V 0 8)) (C := RX12) (T := TX12) (N := 100) hx hb hg inX12 hown hK hP 0 rfl rfl 8 (by decide) (hg _ w1714) (fun _ h9 => h9) rfl dX12_takeWordOf_1 ?_
  have r1 : 0 ≤ ((V 0 8)).toInt ∧ ((V 0 8)).toInt ≤ 70000 := hMV 0 8
  refine lv_if_ne (tgt := 19) hx hb dX12_takeWordOf_4 (by decide) (fun c2 => ?_) (fun c2 => ?_)
  · skip
    have f3 : ((V 0 8)).toInt ≠ 0 := b_neq rfl (by decide) c2
    exfalso; (first | exact om_0b51723c7ef6 rg0.2.2.1 f3 | omega)
  · skip
    have f4 : ((V 0 8)).toInt = 0 := b_eq rfl (by decide) c2
    refine lv_aload_n hx hb dX12_takeWordOf_7 rfl (lv_at hl 0 rfl) ?_
    refine gA_int (gA_runV (As := []) (rest := []) (ci := 12) (q0 := 0) hx hb hml hown hg hP hD hK hS hA hnw hgk (s_isNameA l D ks H.size ad kk V L (bq) (gn) (gT) (gs) (gl) hMV rel) w2043 w2045 w88 w172 w2046 rfl rfl hdV_yX12_isName ⟨Nat.le_of_ble_eq_true rfl, Nat.le_of_ble_eq_true rfl⟩ rfl hl.1 rfl (Nat.le_of_ble_eq_true rfl) dX12_takeWordOf_8 ⟨Nat.le_of_ble_eq_true rfl, Nat.le_of_ble_eq_true rfl⟩) hP hD hK hS hA (fun z5 u6 H locs w7 hP hD hK hS => ?_)
    obtain ⟨rgz5, t8⟩ := w7
    have rgz5 : 0 ≤ z5.toInt ∧ z5.toInt ≤ 1 := rgz5
    have t8 : (z5.toInt = 1 ∧ (gT).1 ((gs).1 0) = 3) ∨ (z5.toInt = 0 ∧ (gT).1 ((gs).1 0) ≠ 3) := t8
    rcases t8 with ⟨q9, h10⟩ | ⟨q9, h10⟩
    · skip
      refine lv_if_ne (tgt := 19) hx hb dX12_takeWordOf_11 (by decide) (fun c11 => ?_) (fun c11 => ?_)
      · skip
        have f12 : z5.toInt ≠ 0 := b_neq rfl (by decide) c11
        have vl3 := RelM.vl rel (Or.inr h10)
        refine lv_aload_n hx hb dX12_takeWordOf_19 rfl (lv_at hl 0 rfl) ?_
        refine va_get (D := D) (ci := 12) (v := .int (V 0 8)) (C := RX12) (T := TX12) (N := 100) hx hb hg inX12 hown hK hP 0 rfl rfl 8 (by decide) (hg _ w1714) (fun _ h9 => h9) rfl dX12_takeWordOf_20 ?_
        refine lv_if_ne (tgt := 56) hx hb dX12_takeWordOf_23 (by decide) (fun c13 => ?_) (fun c13 => ?_)
        · skip
          have f14 : ((V 0 8)).toInt ≠ 0 := b_neq rfl (by decide) c13
          exfalso; (first | exact om_fb320d7600b7 r1.1 f4 f14 | omega)
        · skip
          have f15 : ((V 0 8)).toInt = 0 := b_eq rfl (by decide) c13
          refine lv_aload_n hx hb dX12_takeWordOf_26 rfl (lv_at hl 0 rfl) ?_
          refine lv_aload_n hx hb dX12_takeWordOf_27 rfl (lv_at hl 1 rfl) ?_
          refine lv_bipush (v := 20) hx hb dX12_takeWordOf_28 (by decide) ?_
          refine lv_aload_n hx hb dX12_takeWordOf_30 rfl (lv_at hl 0 rfl) ?_
          refine va_get (D := D) (ci := 12) (v := .int (V 0 12)) (C := RX12) (T := TX12) (N := 100) hx hb hg inX12 hown hK hP 0 rfl rfl 12 (by decide) (hg _ w1718) (fun _ h9 => h9) rfl dX12_takeWordOf_31 ?_
          have r16 : 0 ≤ ((V 0 12)).toInt ∧ ((V 0 12)).toInt ≤ 1 := hMV 0 12
          refine lv_imul hx hb dX12_takeWordOf_34 ?_
          refine lv_topi (fun z17 ez17 => ?_)
          have hz17 : z17.toInt = 20 * ((V 0 12)).toInt := i_mul ez17 (by decide) rfl (by (first | exact om_1c36e316c123 r16.1 r16.2 | omega))
          refine lv_aload_n hx hb dX12_takeWordOf_35 rfl (lv_at hl 2 rfl) ?_
          refine lv_aload_n hx hb dX12_takeWordOf_36 rfl (lv_at hl 0 rfl) ?_
          refine va_get (D := D) (ci := 12) (v := .int (V 0 12)) (C := RX12) (T := TX12) (N := 100) hx hb hg inX12 hown hK hP 0 rfl rfl 12 (by decide) (hg _ w1718) (fun _ h9 => h9) rfl dX12_takeWordOf_37 ?_
          refine va_iald (D := D) (i := (V 0 12)) hx hb hK hP 28 27 rfl rfl (i_in (a := ((V 0 12)).toInt) rfl (by (first | exact om_27c603097004 rg0.2.2.2.1 rg0.2.2.2.2.1 | omega))) dX12_takeWordOf_40 ?_
          have r18 : 0 ≤ ((V 35 (Int32.toNatClampNeg (V 0 12)))).toInt ∧ ((V 35 (Int32.toNatClampNeg (V 0 12)))).toInt ≤ 20 := hMV 35 (Int32.toNatClampNeg (V 0 12))
          refine lv_aload_n hx hb dX12_takeWordOf_41 rfl (lv_at hl 0 rfl) ?_
          refine va_get (D := D) (ci := 12) (v := .ref (ad 6)) (C := RX12) (T := TX12) (N := 100) hx hb hg inX12 hown hK hP 0 rfl rfl 6 (by decide) (hg _ w1712) (fun _ h9 => h9) rfl dX12_takeWordOf_42 ?_
          refine lv_aload_n hx hb dX12_takeWordOf_45 rfl (lv_at hl 0 rfl) ?_
          refine va_get (D := D) (ci := 12) (v := .int (V 0 7)) (C := RX12) (T := TX12) (N := 100) hx hb hg inX12 hown hK hP 0 rfl rfl 7 (by decide) (hg _ w1713) (fun _ h9 => h9) rfl dX12_takeWordOf_46 ?_
          refine va_lald (D := D) (i := (V 0 7)) hx hb hK hP 4 3 rfl rfl (i_in (a := ((V 0 7)).toInt) rfl (by omega)) dX12_takeWordOf_49 ?_
          refine gA_int (gA_runV (As := [.ref (ad 36), .int z17, .int (V 35 (Int32.toNatClampNeg (V 0 12))), .long (L 6 (Int32.toNatClampNeg (V 0 7)))]) (rest := []) (ci := 12) (q0 := 0) hx hb hml hown hg hP hD hK hS hA hnw hgk (s_find2_methodName l D ks H.size ad kk V L z17 (V 35 (Int32.toNatClampNeg (V 0 12))) (L 6 (Int32.toNatClampNeg (V 0 7))) hMV (by (first | exact om_c7296700d4dd r16.1 r16.2 hz17 | omega)) (by (first | exact om_ad40d0ac5b52 r18.1 r18.2 | omega)) (show z17.toInt + ((V 35 (Int32.toNatClampNeg (V 0 12)))).toInt ≤ 40 from by (first | exact om_03a4a2dc5d03 r16.2 hz17 r18.2 | omega))) w2047 w2049 w89 w172 w2050 rfl rfl hdV_yX12_find ⟨Nat.le_of_ble_eq_true rfl, Nat.le_of_ble_eq_true rfl⟩ rfl hl.1 rfl (Nat.le_of_ble_eq_true rfl) dX12_takeWordOf_50 ⟨Nat.le_of_ble_eq_true rfl, Nat.le_of_ble_eq_true rfl⟩) hP hD hK hS hA (fun z19 u20 H locs w21 hP hD hK hS => ?_)
          obtain ⟨rgz19, t22, t23⟩ := w21
          have rgz19 : (-1) ≤ z19.toInt ∧ z19.toInt ≤ 47 := rgz19
          have t22 : z19.toInt < ((V 35 (Int32.toNatClampNeg (V 0 12)))).toInt := t22
          have t23 : LF (fun i => L 36 (z17.toInt.toNat + i)) ((V 35 (Int32.toNatClampNeg (V 0 12)))).toInt ((L 6 (Int32.toNatClampNeg (V 0 7)))) z19.toInt := t23
          have lf24 : LF (fun i => L 36 (20 * bq + i)) (V 35 bq).toInt (L 6 (Int32.toNatClampNeg (V 0 7))) z19.toInt := by have h9 := t23; rw [show z17.toInt.toNat = 20 * bq from by omega, show ((V 35 (Int32.toNatClampNeg (V 0 12)))).toInt = (V 35 bq).toInt from by rw [cq0]] at h9; exact h9
          refine lv_goto (tgt := 57) hx hb dX12_takeWordOf_53 (by decide) ?_
          refine lv_istore_n (lv' := [(3, .int z19), (0, .ref (ad 0)), (1, .ref (ad 36)), (2, .ref (ad 35))]) hx hb dX12_takeWordOf_57 rfl hl (by decide) rfl (fun ls hl => ?_)
          refine lv_aload_n hx hb dX12_takeWordOf_58 rfl (lv_at hl 1 rfl) ?_
          refine va_get (D := D) (ci := 12) (v := .int (V 0 8)) (C := RX12) (T := TX12) (N := 100) hx hb hg inX12 hown hK hP 0 rfl rfl 8 (by decide) (hg _ w1714) (fun _ h9 => h9) rfl dX12_takeWordOf_59 ?_
          refine lv_if_ne (tgt := 85) hx hb dX12_takeWordOf_62 (by decide) (fun c25 => ?_) (fun c25 => ?_)
          · skip
            have f26 : ((V 0 8)).toInt ≠ 0 := b_neq rfl (by decide) c25
            exfalso; (first | exact om_fb320d7600b7 r1.1 f4 f26 | omega)
          · skip
            have f27 : ((V 0 8)).toInt = 0 := b_eq rfl (by decide) c25
            refine lv_iload_n hx hb dX12_takeWordOf_65 rfl (lv_at hl 0 rfl) ?_
            refine lv_if_ge (tgt := 85) hx hb dX12_takeWordOf_66 (by decide) (fun c28 => ?_) (fun c28 => ?_)
            · skip
              have f29 : 0 ≤ z19.toInt := b_le (by decide) rfl c28
              refine lv_aload_n hx hb dX12_takeWordOf_85 rfl (lv_at hl 1 rfl) ?_
              refine va_get (D := D) (ci := 12) (v := .int (V 0 8)) (C := RX12) (T := TX12) (N := 100) hx hb hg inX12 hown hK hP 0 rfl rfl 8 (by decide) (hg _ w1714) (fun _ h9 => h9) rfl dX12_takeWordOf_86 ?_
              refine lv_if_ne (tgt := 133) hx hb dX12_takeWordOf_89 (by decide) (fun c30 => ?_) (fun c30 => ?_)
              · skip
                have f31 : ((V 0 8)).toInt ≠ 0 := b_neq rfl (by decide) c30
                exfalso; (first | exact om_fb320d7600b7 r1.1 f4 f31 | omega)
              · skip
                have f32 : ((V 0 8)).toInt = 0 := b_eq rfl (by decide) c30
                refine lv_iload_n hx hb dX12_takeWordOf_92 rfl (lv_at hl 0 rfl) ?_
                refine lv_if_ge (tgt := 133) hx hb dX12_takeWordOf_93 (by decide) (fun c33 => ?_) (fun c33 => ?_)
                · skip
                  have f34 : 0 ≤ z19.toInt := b_le (by decide) rfl c33
                  refine lv_aload_n hx hb dX12_takeWordOf_133 rfl (lv_at hl 1 rfl) ?_
                  refine lv_dup hx hb dX12_takeWordOf_134 rfl ?_
                  refine va_get (D := D) (ci := 12) (v := .int (V 0 7)) (C := RX12) (T := TX12) (N := 100) hx hb hg inX12 hown hK hP 0 rfl rfl 7 (by decide) (hg _ w1713) (fun _ h9 => h9) rfl dX12_takeWordOf_135 ?_
                  refine lv_iconst (v := 1) hx hb dX12_takeWordOf_138 (by decide) ?_
                  refine lv_iadd hx hb dX12_takeWordOf_139 ?_
                  refine lv_topi (fun z35 ez35 => ?_)
                  have hz35 : z35.toInt = ((V 0 7)).toInt + 1 := i_add ez35 rfl (by decide) (by omega)
                  refine va_put (D := D) (ci := 12) (v := .int z35) (ty := tyX12 7) (C := RX12) (T := TX12) (N := 100) hx hb hg inX12 tyX12 tyX12_ok nmX12 hown hK hP hD hS 0 rfl rfl 7 (by decide) (hg _ w1713) (fun _ h9 => h9) rfl (tyX12_ok 7 (by decide)) rfl rfl (Nat.le_of_ble_eq_true rfl) dX12_takeWordOf_140 (fun H locs hP hD hS => ?_)
                  obtain ⟨V36, hV36⟩ : ∃ z, z = up2 V 0 7 z35 := ⟨_, rfl⟩
                  have hP : va_P D vwCl (mw ad kk ks.1 V36 L) H := by rw [hV36]; exact hP
                  have hD : va_D A (mw ad kk ks.1 V36 L) := by rw [hV36]; exact hD
                  have hMV36 : rgd bM V36 := hMV.put hV36 (i_full _)
                  have agV36 : agr [(0, 7), (0, 8)] [35, 36, 37, 38] V V36 := agV.up hV36 rfl
                  refine lv_iload_n hx hb dX12_takeWordOf_143 rfl (lv_at hl 0 rfl) ?_
                  have pq37 : (V36 0 8).toInt = ((V 0 8)).toInt := congrArg Int32.toInt (up2_k hV36 (by decide))
                  have rw38 : RoV 35 bq V V36 := (fun k hk => ((up2_o hV36 (by decide)).trans rfl))
                  have rw39 : RoV 37 bq V V36 := (fun k hk => ((up2_o hV36 (by decide)).trans rfl))
                  have rw40 : RoL 36 20 bq L L := (fun k hk => rfl)
                  have rw41 : RoL 38 20 bq L L := (fun k hk => rfl)
                  exact W.iret (v := z19) hx hb hr (fun t ht hW => ⟨⟨z19, (V36, L), rfl, ⟨hMV36, agV36, alL, (show (-1) ≤ z19.toInt ∧ z19.toInt ≤ 19 from by (first | exact om_3625e73a4d19 r18.2 t22 f29 | omega)), (Or.inl ⟨W0 (RelM.n1 rel hV36 (by (first | exact om_55c67efb91e5 hz35 | omega)) (by rw [h10]; decide)), (z19.toInt.toNat, nx gs 1), fun kk => (mth_y h10 kk).trans (nbr_y (by rw [vl3, ← cl0]; exact LF.yes lf24 rel.2.2.1.2.2.2.1.1 rel.2.2.1.2.2.2.1.2 (by omega)) kk), (RelM.n1 rel hV36 (by (first | exact om_55c67efb91e5 hz35 | omega)) (by rw [h10]; decide)), (show z19.toInt = ((z19.toInt.toNat : Nat) : Int) from by (first | exact om_bb68b85f87a5 f29 | omega)), (show z19.toInt.toNat < 20 from by (first | exact om_1fdfe16a6bb5 r18.2 t22 f29 | omega)), keepS.n1 1, Or.inl ⟨(by rw [vl3, ← cl0]; exact LF.yes lf24 rel.2.2.1.2.2.2.1.1 rel.2.2.1.2.2.2.1.2 (by omega)), rfl⟩⟩), rw38, rw39, rw40, rw41⟩, by rw [ht]; exact hP, va_K.moved hW.alike hK, hD⟩, hS.F ht⟩) hS.2.2 dX12_takeWordOf_144
                · skip
                  have f42 : z19.toInt < 0 := b_nle (by decide) rfl c33
                  exfalso; (first | exact om_1b10ca75f5f0 f29 f42 | omega)
            · skip
              have f43 : z19.toInt < 0 := b_nle (by decide) rfl c28
              refine lv_aload_n hx hb dX12_takeWordOf_69 rfl (lv_at hl 3 rfl) ?_
              refine lv_aload_n hx hb dX12_takeWordOf_70 rfl (lv_at hl 1 rfl) ?_
              refine va_get (D := D) (ci := 12) (v := .int (V 0 12)) (C := RX12) (T := TX12) (N := 100) hx hb hg inX12 hown hK hP 0 rfl rfl 12 (by decide) (hg _ w1718) (fun _ h9 => h9) rfl dX12_takeWordOf_71 ?_
              refine va_iald (D := D) (i := (V 0 12)) hx hb hK hP 28 27 rfl rfl (i_in (a := ((V 0 12)).toInt) rfl (by (first | exact om_27c603097004 rg0.2.2.2.1 rg0.2.2.2.2.1 | omega))) dX12_takeWordOf_74 ?_
              refine lv_bipush (v := 20) hx hb dX12_takeWordOf_75 (by decide) ?_
              refine lv_icmp_ne (tgt := 85) hx hb dX12_takeWordOf_77 (by decide) (fun c44 => ?_) (fun c44 => ?_)
              · skip
                have f45 : ((V 35 (Int32.toNatClampNeg (V 0 12)))).toInt ≠ 20 := b_neq rfl (by decide) c44
                refine lv_aload_n hx hb dX12_takeWordOf_85 rfl (lv_at hl 1 rfl) ?_
                refine va_get (D := D) (ci := 12) (v := .int (V 0 8)) (C := RX12) (T := TX12) (N := 100) hx hb hg inX12 hown hK hP 0 rfl rfl 8 (by decide) (hg _ w1714) (fun _ h9 => h9) rfl dX12_takeWordOf_86 ?_
                refine lv_if_ne (tgt := 133) hx hb dX12_takeWordOf_89 (by decide) (fun c46 => ?_) (fun c46 => ?_)
                · skip
                  have f47 : ((V 0 8)).toInt ≠ 0 := b_neq rfl (by decide) c46
                  exfalso; (first | exact om_fb320d7600b7 r1.1 f4 f47 | omega)
                · skip
                  have f48 : ((V 0 8)).toInt = 0 := b_eq rfl (by decide) c46
                  refine lv_iload_n hx hb dX12_takeWordOf_92 rfl (lv_at hl 0 rfl) ?_
                  refine lv_if_ge (tgt := 133) hx hb dX12_takeWordOf_93 (by decide) (fun c49 => ?_) (fun c49 => ?_)
                  · skip
                    have f50 : 0 ≤ z19.toInt := b_le (by decide) rfl c49
                    exfalso; (first | exact om_54ab17f89714 f43 f50 | omega)
                  · skip
                    have f51 : z19.toInt < 0 := b_nle (by decide) rfl c49
                    refine lv_aload_n hx hb dX12_takeWordOf_96 rfl (lv_at hl 3 rfl) ?_
                    refine lv_aload_n hx hb dX12_takeWordOf_97 rfl (lv_at hl 1 rfl) ?_
                    refine va_get (D := D) (ci := 12) (v := .int (V 0 12)) (C := RX12) (T := TX12) (N := 100) hx hb hg inX12 hown hK hP 0 rfl rfl 12 (by decide) (hg _ w1718) (fun _ h9 => h9) rfl dX12_takeWordOf_98 ?_
                    refine va_iald (D := D) (i := (V 0 12)) hx hb hK hP 28 27 rfl rfl (i_in (a := ((V 0 12)).toInt) rfl (by (first | exact om_27c603097004 rg0.2.2.2.1 rg0.2.2.2.2.1 | omega))) dX12_takeWordOf_101 ?_
                    refine lv_istore_n (lv' := [(3, .int (V 35 (Int32.toNatClampNeg (V 0 12)))), (0, .ref (ad 0)), (1, .ref (ad 36)), (2, .ref (ad 35))]) hx hb dX12_takeWordOf_102 rfl hl (by decide) rfl (fun ls hl => ?_)
                    refine lv_aload_n hx hb dX12_takeWordOf_103 rfl (lv_at hl 2 rfl) ?_
                    refine lv_bipush (v := 20) hx hb dX12_takeWordOf_104 (by decide) ?_
                    refine lv_aload_n hx hb dX12_takeWordOf_106 rfl (lv_at hl 1 rfl) ?_
                    refine va_get (D := D) (ci := 12) (v := .int (V 0 12)) (C := RX12) (T := TX12) (N := 100) hx hb hg inX12 hown hK hP 0 rfl rfl 12 (by decide) (hg _ w1718) (fun _ h9 => h9) rfl dX12_takeWordOf_107 ?_
                    refine lv_imul hx hb dX12_takeWordOf_110 ?_
                    refine lv_topi (fun z52 ez52 => ?_)
                    have hz52 : z52.toInt = 20 * ((V 0 12)).toInt := i_mul ez52 (by decide) rfl (by (first | exact om_1c36e316c123 r16.1 r16.2 | omega))
                    refine lv_iload_n hx hb dX12_takeWordOf_111 rfl (lv_at hl 0 rfl) ?_
                    refine lv_iadd hx hb dX12_takeWordOf_112 ?_
                    refine lv_topi (fun z53 ez53 => ?_)
                    have hz53 : z53.toInt = z52.toInt + ((V 35 (Int32.toNatClampNeg (V 0 12)))).toInt := i_add ez53 rfl rfl (by (first | exact om_17e47abb59b2 r16.1 r16.2 r18.1 r18.2 f45 hz52 | omega))
                    refine lv_aload_n hx hb dX12_takeWordOf_113 rfl (lv_at hl 1 rfl) ?_
                    refine va_get (D := D) (ci := 12) (v := .ref (ad 6)) (C := RX12) (T := TX12) (N := 100) hx hb hg inX12 hown hK hP 0 rfl rfl 6 (by decide) (hg _ w1712) (fun _ h9 => h9) rfl dX12_takeWordOf_114 ?_
                    refine lv_aload_n hx hb dX12_takeWordOf_117 rfl (lv_at hl 1 rfl) ?_
                    refine va_get (D := D) (ci := 12) (v := .int (V 0 7)) (C := RX12) (T := TX12) (N := 100) hx hb hg inX12 hown hK hP 0 rfl rfl 7 (by decide) (hg _ w1713) (fun _ h9 => h9) rfl dX12_takeWordOf_118 ?_
                    refine va_lald (D := D) (i := (V 0 7)) hx hb hK hP 4 3 rfl rfl (i_in (a := ((V 0 7)).toInt) rfl (by omega)) dX12_takeWordOf_121 ?_
                    refine va_last (D := D) (i := z53) (x := (L 6 (Int32.toNatClampNeg (V 0 7)))) hx hb hK hP hD hS 29 28 rfl rfl (i_in (a := z53.toInt) rfl (by (first | exact om_ce5636e369f7 r16.1 r16.2 r18.1 r18.2 f45 hz52 hz53 | omega))) dX12_takeWordOf_122 (fun H locs hP hD hS => ?_)
                    obtain ⟨L54, hL54⟩ : ∃ z, z = upL L 36 (Int32.toNatClampNeg z53) (L 6 (Int32.toNatClampNeg (V 0 7))) := ⟨_, rfl⟩
                    have hP : va_P D vwCl (mw ad kk ks.1 V L54) H := by rw [hL54]; exact hP
                    have hD : va_D A (mw ad kk ks.1 V L54) := by rw [hL54]; exact hD
                    have alL54 : agL [35, 36, 37, 38] L L54 := agL.up alL hL54 rfl
                    refine lv_aload_n hx hb dX12_takeWordOf_123 rfl (lv_at hl 3 rfl) ?_
                    refine lv_aload_n hx hb dX12_takeWordOf_124 rfl (lv_at hl 1 rfl) ?_
                    refine va_get (D := D) (ci := 12) (v := .int (V 0 12)) (C := RX12) (T := TX12) (N := 100) hx hb hg inX12 hown hK hP 0 rfl rfl 12 (by decide) (hg _ w1718) (fun _ h9 => h9) rfl dX12_takeWordOf_125 ?_
                    refine lv_dup2_11 hx hb dX12_takeWordOf_128 rfl rfl ?_
                    refine va_iald (D := D) (i := (V 0 12)) hx hb hK hP 28 27 rfl rfl (i_in (a := ((V 0 12)).toInt) rfl (by (first | exact om_27c603097004 rg0.2.2.2.1 rg0.2.2.2.2.1 | omega))) dX12_takeWordOf_129 ?_
                    refine lv_iconst (v := 1) hx hb dX12_takeWordOf_130 (by decide) ?_
                    refine lv_iadd hx hb dX12_takeWordOf_131 ?_
                    refine lv_topi (fun z55 ez55 => ?_)
                    have hz55 : z55.toInt = ((V 35 (Int32.toNatClampNeg (V 0 12)))).toInt + 1 := i_add ez55 rfl (by decide) (by (first | exact om_27c928885e36 r18.1 r18.2 f45 | omega))
                    refine va_iast (D := D) (i := (V 0 12)) (x := z55) hx hb hK hP hD hS 28 27 rfl rfl (i_in (a := ((V 0 12)).toInt) rfl (by (first | exact om_27c603097004 rg0.2.2.2.1 rg0.2.2.2.2.1 | omega))) dX12_takeWordOf_132 (fun H locs hP hD hS => ?_)
                    obtain ⟨V56, hV56⟩ : ∃ z, z = up2 V 35 (Int32.toNatClampNeg (V 0 12)) z55 := ⟨_, rfl⟩
                    have hP : va_P D vwCl (mw ad kk ks.1 V56 L54) H := by rw [hV56]; exact hP
                    have hD : va_D A (mw ad kk ks.1 V56 L54) := by rw [hV56]; exact hD
                    have hMV56 : rgd bM V56 := hMV.put hV56 (show 0 ≤ z55.toInt ∧ z55.toInt ≤ 20 from by (first | exact om_f4eeecdf3ac8 r18.1 r18.2 f45 hz55 | omega))
                    have agV56 : agr [(0, 7), (0, 8)] [35, 36, 37, 38] V V56 := agV.up hV56 rfl
                    have hv9 := hV56
                    rw [cq0] at hv9
                    have hl9 : L54 = upL L 36 (Int32.toNatClampNeg z53) (gT.2.1 (gs.1 0)) := by rw [vl3, ← cl0]; exact hL54
                    have q9 : (V 35 (Int32.toNatClampNeg (V 0 12))).toInt = (V 35 bq).toInt := by rw [cq0]
                    have rl57 : RelM V56 L54 bq gn gT (sA gs 3 (gT.2.1 (gs.1 0))) gl := RelM.a3 rel (by rw [vl3, ← cl0]; exact LF.no lf24 rel.2.2.1.2.2.2.1.1 (by omega)) hl9 (by (first | exact om_350c6ecf6297 rg0.2.2.2.1 hz52 hz53 q9 | omega)) hv9 (by (first | exact om_bf335c4e2c2c hz55 q9 | omega)) (by (first | exact om_daf12137c7c2 r18.1 q9 | omega))
                    have fz58 := RelM.rg rl57
                    have pq59 : (V56 0 8).toInt = ((V 0 8)).toInt := congrArg Int32.toInt (up2_o hV56 (by decide))
                    have pq60 : (V56 0 7).toInt = ((V 0 7)).toInt := congrArg Int32.toInt (up2_o hV56 (by decide))
                    refine lv_aload_n hx hb dX12_takeWordOf_133 rfl (lv_at hl 1 rfl) ?_
                    refine lv_dup hx hb dX12_takeWordOf_134 rfl ?_
                    refine va_get (D := D) (ci := 12) (v := .int (V56 0 7)) (C := RX12) (T := TX12) (N := 100) hx hb hg inX12 hown hK hP 0 rfl rfl 7 (by decide) (hg _ w1713) (fun _ h9 => h9) rfl dX12_takeWordOf_135 ?_
                    refine g_top (v := (V 0 7)) (up2_o hV56 (by decide)) ?_
                    refine lv_iconst (v := 1) hx hb dX12_takeWordOf_138 (by decide) ?_
                    refine lv_iadd hx hb dX12_takeWordOf_139 ?_
                    refine lv_topi (fun z61 ez61 => ?_)
                    have hz61 : z61.toInt = ((V 0 7)).toInt + 1 := i_add ez61 rfl (by decide) (by omega)
                    refine va_put (D := D) (ci := 12) (v := .int z61) (ty := tyX12 7) (C := RX12) (T := TX12) (N := 100) hx hb hg inX12 tyX12 tyX12_ok nmX12 hown hK hP hD hS 0 rfl rfl 7 (by decide) (hg _ w1713) (fun _ h9 => h9) rfl (tyX12_ok 7 (by decide)) rfl rfl (Nat.le_of_ble_eq_true rfl) dX12_takeWordOf_140 (fun H locs hP hD hS => ?_)
                    obtain ⟨V62, hV62⟩ : ∃ z, z = up2 V56 0 7 z61 := ⟨_, rfl⟩
                    have hP : va_P D vwCl (mw ad kk ks.1 V62 L54) H := by rw [hV62]; exact hP
                    have hD : va_D A (mw ad kk ks.1 V62 L54) := by rw [hV62]; exact hD
                    have hMV62 : rgd bM V62 := hMV56.put hV62 (i_full _)
                    have agV62 : agr [(0, 7), (0, 8)] [35, 36, 37, 38] V V62 := agV56.up hV62 rfl
                    refine lv_iload_n hx hb dX12_takeWordOf_143 rfl (lv_at hl 0 rfl) ?_
                    have pq63 : (V62 0 8).toInt = ((V 0 8)).toInt := congrArg Int32.toInt ((up2_k hV62 (by decide)).trans (up2_o hV56 (by decide)))
                    have rl64 : RelM V62 L54 bq gn gT (sA (nx gs 1) 3 (gT.2.1 (gs.1 0))) gl := RelM.n1 rl57 hV62 (by (first | exact om_f8adf868c938 pq60 hz61 | omega)) (by show gT.1 (gs.1 0) ≠ 0; rw [h10]; decide)
                    have lg9 := RelM.len rel
                    have rw65 : RoV 35 bq V V62 := (fun k hk => ((up2_o hV62 (by decide)).trans ((up2_k hV56 (by omega)).trans rfl)))
                    have rw66 : RoV 37 bq V V62 := (fun k hk => ((up2_o hV62 (by decide)).trans ((up2_o hV56 (by decide)).trans rfl)))
                    have rw67 : RoL 36 20 bq L L54 := (fun k hk => ((upL_k hL54 (by have h9 := i_clamp (x := z53) rfl (by (first | exact om_b54cd86badd2 r16.1 r18.1 hz52 hz53 | omega)); omega)).trans rfl))
                    have rw68 : RoL 38 20 bq L L54 := (fun k hk => ((upL_x hL54 (by decide)).trans rfl))
                    exact W.iret (v := (V 35 (Int32.toNatClampNeg (V 0 12)))) hx hb hr (fun t ht hW => ⟨⟨(V 35 (Int32.toNatClampNeg (V 0 12))), (V62, L54), rfl, ⟨hMV62, agV62, alL54, (show (-1) ≤ ((V 35 (Int32.toNatClampNeg (V 0 12)))).toInt ∧ ((V 35 (Int32.toNatClampNeg (V 0 12)))).toInt ≤ 19 from by (first | exact om_f725c6527e42 r18.1 r18.2 f45 | omega)), (Or.inl ⟨W0 rl64, ((gs.2.1 3).length, sA (nx gs 1) 3 (gT.2.1 (gs.1 0))), fun kk => (mth_y h10 kk).trans (nbr_n (by rw [vl3, ← cl0]; exact LF.no lf24 rel.2.2.1.2.2.2.1.1 (by omega)) (by omega) kk), rl64, (show (V 35 (Int32.toNatClampNeg (V 0 12))).toInt = (((gs.2.1 3).length : Nat) : Int) from by (first | exact om_b0778af03df4 q9 lg9.2.2.2.1 | omega)), (show (gs.2.1 3).length < 20 from by (first | exact om_e0612de9b658 r18.2 f45 q9 lg9.2.2.2.1 | omega)), keepS.nA (by decide), Or.inr ⟨(by rw [vl3, ← cl0]; exact LF.no lf24 rel.2.2.1.2.2.2.1.1 (by omega)), rfl, rfl⟩⟩), rw65, rw66, rw67, rw68⟩, by rw [ht]; exact hP, va_K.moved hW.alike hK, hD⟩, hS.F ht⟩) hS.2.2 dX12_takeWordOf_144
              · skip
                have f69 : ((V 35 (Int32.toNatClampNeg (V 0 12)))).toInt = 20 := b_eq rfl (by decide) c44
                refine lv_aload_n hx hb dX12_takeWordOf_80 rfl (lv_at hl 1 rfl) ?_
                refine lv_iconst (v := 5) hx hb dX12_takeWordOf_81 (by decide) ?_
                have r70 : Int32.toInt 5 = 5 := by decide
                refine gA_void (gA_runV (As := [.int 5]) (rest := []) (ci := 12) (q0 := 0) hx hb hml hown hg hP hD hK hS hA hnw hgk (s_wrongA l D ks H.size ad kk V L 5 (bq) (gn) (gT) (gs) (gl) hMV (by decide) rel) w2035 w2037 w86 w172 w2038 rfl rfl hdV_yX12_wrong ⟨Nat.le_of_ble_eq_true rfl, Nat.le_of_ble_eq_true rfl⟩ rfl hl.1 rfl (Nat.le_of_ble_eq_true rfl) dX12_takeWordOf_82 ⟨Nat.le_of_ble_eq_true rfl, Nat.le_of_ble_eq_true rfl⟩) hP hD hK hS hA (fun u72 H locs w73 hP hD hK hS => ?_)
                obtain ⟨V76, L77⟩ := u72
                obtain ⟨hMV76, ajV76, axL77, t74, t75⟩ := w73
                have axL77 : L = L77 := Eq.symm axL77
                subst axL77
                have hP : va_P D vwCl (mw ad kk ks.1 V76 L) H := hP
                have hD : va_D A (mw ad kk ks.1 V76 L) := hD
                have hMV76 : rgd bM V76 := hMV76
                have ajV76 : agr [(0, 8)] [] V V76 := ajV76
                have agV76 : agr [(0, 7), (0, 8)] [35, 36, 37, 38] V V76 := agV.tr ajV76 (by decide) (by decide)
                have t74 : 1 ≤ (V76 0 8).toInt := t74
                have t75 : (V76 0 8).toInt = (Int32.toInt 5) + 16 * (gT).2.2 ((gs).1 0) := t75
                have r78 : 0 ≤ ((V76 0 8)).toInt ∧ ((V76 0 8)).toInt ≤ 70000 := hMV76 0 8
                refine lv_aload_n hx hb dX12_takeWordOf_85 rfl (lv_at hl 1 rfl) ?_
                refine va_get (D := D) (ci := 12) (v := .int (V76 0 8)) (C := RX12) (T := TX12) (N := 100) hx hb hg inX12 hown hK hP 0 rfl rfl 8 (by decide) (hg _ w1714) (fun _ h9 => h9) rfl dX12_takeWordOf_86 ?_
                refine lv_if_ne (tgt := 133) hx hb dX12_takeWordOf_89 (by decide) (fun c79 => ?_) (fun c79 => ?_)
                · skip
                  have f80 : ((V76 0 8)).toInt ≠ 0 := b_neq rfl (by decide) c79
                  refine lv_aload_n hx hb dX12_takeWordOf_133 rfl (lv_at hl 1 rfl) ?_
                  refine lv_dup hx hb dX12_takeWordOf_134 rfl ?_
                  refine va_get (D := D) (ci := 12) (v := .int (V76 0 7)) (C := RX12) (T := TX12) (N := 100) hx hb hg inX12 hown hK hP 0 rfl rfl 7 (by decide) (hg _ w1713) (fun _ h9 => h9) rfl dX12_takeWordOf_135 ?_
                  refine g_top (v := (V 0 7)) (ajV76 0 7 rfl) ?_
                  refine lv_iconst (v := 1) hx hb dX12_takeWordOf_138 (by decide) ?_
                  refine lv_iadd hx hb dX12_takeWordOf_139 ?_
                  refine lv_topi (fun z81 ez81 => ?_)
                  have hz81 : z81.toInt = ((V 0 7)).toInt + 1 := i_add ez81 rfl (by decide) (by omega)
                  refine va_put (D := D) (ci := 12) (v := .int z81) (ty := tyX12 7) (C := RX12) (T := TX12) (N := 100) hx hb hg inX12 tyX12 tyX12_ok nmX12 hown hK hP hD hS 0 rfl rfl 7 (by decide) (hg _ w1713) (fun _ h9 => h9) rfl (tyX12_ok 7 (by decide)) rfl rfl (Nat.le_of_ble_eq_true rfl) dX12_takeWordOf_140 (fun H locs hP hD hS => ?_)
                  obtain ⟨V82, hV82⟩ : ∃ z, z = up2 V76 0 7 z81 := ⟨_, rfl⟩
                  have hP : va_P D vwCl (mw ad kk ks.1 V82 L) H := by rw [hV82]; exact hP
                  have hD : va_D A (mw ad kk ks.1 V82 L) := by rw [hV82]; exact hD
                  have hMV82 : rgd bM V82 := hMV76.put hV82 (i_full _)
                  have agV82 : agr [(0, 7), (0, 8)] [35, 36, 37, 38] V V82 := agV76.up hV82 rfl
                  refine lv_iload_n hx hb dX12_takeWordOf_143 rfl (lv_at hl 0 rfl) ?_
                  have pq83 : (V82 0 8).toInt = ((V76 0 8)).toInt := congrArg Int32.toInt (up2_k hV82 (by decide))
                  have rw84 : RoV 35 bq V V82 := (fun k hk => ((up2_o hV82 (by decide)).trans ((ajV76 35 k rfl).trans rfl)))
                  have rw85 : RoV 37 bq V V82 := (fun k hk => ((up2_o hV82 (by decide)).trans ((ajV76 37 k rfl).trans rfl)))
                  have rw86 : RoL 36 20 bq L L := (fun k hk => rfl)
                  have rw87 : RoL 38 20 bq L L := (fun k hk => rfl)
                  exact W.iret (v := z19) hx hb hr (fun t ht hW => ⟨⟨z19, (V82, L), rfl, ⟨hMV82, agV82, alL, (show (-1) ≤ z19.toInt ∧ z19.toInt ≤ 19 from by (first | exact om_d0ba04e598f0 rgz19.1 f43 | omega)), (Or.inr ⟨(show 1 ≤ (V82 0 8).toInt from by (first | exact om_e3c391a03e81 t74 pq83 | omega)), fun kk => ((mth_y h10 kk).trans (nbr_5 (by rw [vl3, ← cl0]; exact LF.no lf24 rel.2.2.1.2.2.2.1.1 (by omega)) (by have h9 := RelM.len rel; have h8 : (V 35 (Int32.toNatClampNeg (V 0 12))).toInt = (V 35 bq).toInt := (by rw [cq0]); omega) kk)).trans (fl_eq rfl (show (V82 0 8).toInt = 5 + 16 * gT.2.2 (gs.1 0) from by omega))⟩), rw84, rw85, rw86, rw87⟩, by rw [ht]; exact hP, va_K.moved hW.alike hK, hD⟩, hS.F ht⟩) hS.2.2 dX12_takeWordOf_144
                · skip
                  have f88 : ((V76 0 8)).toInt = 0 := b_eq rfl (by decide) c79
                  exfalso; (first | exact om_09885ab343b9 t74 f88 | omega)
      · skip
        have f89 : z5.toInt = 0 := b_eq rfl (by decide) c11
        exfalso; (first | exact om_495ee03a60ae q9 f89 | omega)
    · skip
      refine lv_if_ne (tgt := 19) hx hb dX12_takeWordOf_11 (by decide) (fun c90 => ?_) (fun c90 => ?_)
      · skip
        have f91 : z5.toInt ≠ 0 := b_neq rfl (by decide) c90
        exfalso; (first | exact om_fb320d7600b7 rgz5.1 q9 f91 | omega)
      · skip
        have f92 : z5.toInt = 0 := b_eq rfl (by decide) c90
        refine lv_aload_n hx hb dX12_takeWordOf_14 rfl (lv_at hl 0 rfl) ?_
        refine lv_iconst (v := 1) hx hb dX12_takeWordOf_15 (by decide) ?_
        have r93 : Int32.toInt 1 = 1 := by decide
        refine gA_void (gA_runV (As := [.int 1]) (rest := []) (ci := 12) (q0 := 0) hx hb hml hown hg hP hD hK hS hA hnw hgk (s_wrongA l D ks H.size ad kk V L 1 (bq) (gn) (gT) (gs) (gl) hMV (by decide) rel) w2035 w2037 w86 w172 w2038 rfl rfl hdV_yX12_wrong ⟨Nat.le_of_ble_eq_true rfl, Nat.le_of_ble_eq_true rfl⟩ rfl hl.1 rfl (Nat.le_of_ble_eq_true rfl) dX12_takeWordOf_16 ⟨Nat.le_of_ble_eq_true rfl, Nat.le_of_ble_eq_true rfl⟩) hP hD hK hS hA (fun u95 H locs w96 hP hD hK hS => ?_)
        obtain ⟨V99, L100⟩ := u95
        obtain ⟨hMV99, ajV99, axL100, t97, t98⟩ := w96
        have axL100 : L = L100 := Eq.symm axL100
        subst axL100
        have hP : va_P D vwCl (mw ad kk ks.1 V99 L) H := hP
        have hD : va_D A (mw ad kk ks.1 V99 L) := hD
        have hMV99 : rgd bM V99 := hMV99
        have ajV99 : agr [(0, 8)] [] V V99 := ajV99
        have agV99 : agr [(0, 7), (0, 8)] [35, 36, 37, 38] V V99 := agV.tr ajV99 (by decide) (by decide)
        have t97 : 1 ≤ (V99 0 8).toInt := t97
        have t98 : (V99 0 8).toInt = (Int32.toInt 1) + 16 * (gT).2.2 ((gs).1 0) := t98
        have r101 : 0 ≤ ((V99 0 8)).toInt ∧ ((V99 0 8)).toInt ≤ 70000 := hMV99 0 8
        refine lv_aload_n hx hb dX12_takeWordOf_19 rfl (lv_at hl 0 rfl) ?_
        refine va_get (D := D) (ci := 12) (v := .int (V99 0 8)) (C := RX12) (T := TX12) (N := 100) hx hb hg inX12 hown hK hP 0 rfl rfl 8 (by decide) (hg _ w1714) (fun _ h9 => h9) rfl dX12_takeWordOf_20 ?_
        refine lv_if_ne (tgt := 56) hx hb dX12_takeWordOf_23 (by decide) (fun c102 => ?_) (fun c102 => ?_)
        · skip
          have f103 : ((V99 0 8)).toInt ≠ 0 := b_neq rfl (by decide) c102
          refine lv_iconst (v := (-1)) hx hb dX12_takeWordOf_56 (by decide) ?_
          refine lv_istore_n (lv' := [(3, .int (-1)), (0, .ref (ad 0)), (1, .ref (ad 36)), (2, .ref (ad 35))]) hx hb dX12_takeWordOf_57 rfl hl (by decide) rfl (fun ls hl => ?_)
          refine lv_aload_n hx hb dX12_takeWordOf_58 rfl (lv_at hl 1 rfl) ?_
          refine va_get (D := D) (ci := 12) (v := .int (V99 0 8)) (C := RX12) (T := TX12) (N := 100) hx hb hg inX12 hown hK hP 0 rfl rfl 8 (by decide) (hg _ w1714) (fun _ h9 => h9) rfl dX12_takeWordOf_59 ?_
          refine lv_if_ne (tgt := 85) hx hb dX12_takeWordOf_62 (by decide) (fun c104 => ?_) (fun c104 => ?_)
          · skip
            have f105 : ((V99 0 8)).toInt ≠ 0 := b_neq rfl (by decide) c104
            refine lv_aload_n hx hb dX12_takeWordOf_85 rfl (lv_at hl 1 rfl) ?_
            refine va_get (D := D) (ci := 12) (v := .int (V99 0 8)) (C := RX12) (T := TX12) (N := 100) hx hb hg inX12 hown hK hP 0 rfl rfl 8 (by decide) (hg _ w1714) (fun _ h9 => h9) rfl dX12_takeWordOf_86 ?_
            refine lv_if_ne (tgt := 133) hx hb dX12_takeWordOf_89 (by decide) (fun c106 => ?_) (fun c106 => ?_)
            · skip
              have f107 : ((V99 0 8)).toInt ≠ 0 := b_neq rfl (by decide) c106
              refine lv_aload_n hx hb dX12_takeWordOf_133 rfl (lv_at hl 1 rfl) ?_
              refine lv_dup hx hb dX12_takeWordOf_134 rfl ?_
              refine va_get (D := D) (ci := 12) (v := .int (V99 0 7)) (C := RX12) (T := TX12) (N := 100) hx hb hg inX12 hown hK hP 0 rfl rfl 7 (by decide) (hg _ w1713) (fun _ h9 => h9) rfl dX12_takeWordOf_135 ?_
              refine g_top (v := (V 0 7)) (ajV99 0 7 rfl) ?_
              refine lv_iconst (v := 1) hx hb dX12_takeWordOf_138 (by decide) ?_
              refine lv_iadd hx hb dX12_takeWordOf_139 ?_
              refine lv_topi (fun z108 ez108 => ?_)
              have hz108 : z108.toInt = ((V 0 7)).toInt + 1 := i_add ez108 rfl (by decide) (by omega)
              refine va_put (D := D) (ci := 12) (v := .int z108) (ty := tyX12 7) (C := RX12) (T := TX12) (N := 100) hx hb hg inX12 tyX12 tyX12_ok nmX12 hown hK hP hD hS 0 rfl rfl 7 (by decide) (hg _ w1713) (fun _ h9 => h9) rfl (tyX12_ok 7 (by decide)) rfl rfl (Nat.le_of_ble_eq_true rfl) dX12_takeWordOf_140 (fun H locs hP hD hS => ?_)
              obtain ⟨V109, hV109⟩ : ∃ z, z = up2 V99 0 7 z108 := ⟨_, rfl⟩
              have hP : va_P D vwCl (mw ad kk ks.1 V109 L) H := by rw [hV109]; exact hP
              have hD : va_D A (mw ad kk ks.1 V109 L) := by rw [hV109]; exact hD
              have hMV109 : rgd bM V109 := hMV99.put hV109 (i_full _)
              have agV109 : agr [(0, 7), (0, 8)] [35, 36, 37, 38] V V109 := agV99.up hV109 rfl
              refine lv_iload_n hx hb dX12_takeWordOf_143 rfl (lv_at hl 0 rfl) ?_
              have pq110 : (V109 0 8).toInt = ((V99 0 8)).toInt := congrArg Int32.toInt (up2_k hV109 (by decide))
              have rw111 : RoV 35 bq V V109 := (fun k hk => ((up2_o hV109 (by decide)).trans ((ajV99 35 k rfl).trans rfl)))
              have rw112 : RoV 37 bq V V109 := (fun k hk => ((up2_o hV109 (by decide)).trans ((ajV99 37 k rfl).trans rfl)))
              have rw113 : RoL 36 20 bq L L := (fun k hk => rfl)
              have rw114 : RoL 38 20 bq L L := (fun k hk => rfl)
              exact W.iret (v := (-1)) hx hb hr (fun t ht hW => ⟨⟨(-1), (V109, L), rfl, ⟨hMV109, agV109, alL, (by decide), (Or.inr ⟨(show 1 ≤ (V109 0 8).toInt from by (first | exact om_e3c391a03e81 t97 pq110 | omega)), fun kk => (mth_1 h10 kk).trans (fl_eq rfl (show (V109 0 8).toInt = 1 + 16 * gT.2.2 (gs.1 0) from by omega))⟩), rw111, rw112, rw113, rw114⟩, by rw [ht]; exact hP, va_K.moved hW.alike hK, hD⟩, hS.F ht⟩) hS.2.2 dX12_takeWordOf_144
            · skip
              have f115 : ((V99 0 8)).toInt = 0 := b_eq rfl (by decide) c106
              exfalso; (first | exact om_b02ddf2a5870 t97 f103 f115 | omega)
          · skip
            have f116 : ((V99 0 8)).toInt = 0 := b_eq rfl (by decide) c104
            exfalso; (first | exact om_b02ddf2a5870 t97 f103 f116 | omega)
        · skip
          have f117 : ((V99 0 8)).toInt = 0 := b_eq rfl (by decide) c102
          exfalso; (first | exact om_09885ab343b9 t97 f117 | omega)
abbrev r_s_takeWordOfB3 : Room := { frames := 0, cells := 0, slots := 0, locals := 0 }
abbrev q_s_takeWordOfB3 (D : va_G) (ks : KS) (ad : Nat → Nat) (kk : Nat → ClassId) (V : Vf) (L : Lf) (A : Nat → Prop) : Array Value → State → Outcome → State → Prop := va_Qi (fun (r : Int32) (u : Vf × Lf) => rgd bM u.1 ∧ agr [(0, 7), (0, 8)] [35, 36, 37, 38] V u.1 ∧ agL [35, 36, 37, 38] L u.2 ∧ ((-1) ≤ r.toInt ∧ r.toInt ≤ (-1)) ∧ ((u.1 0 8).toInt = (V 0 8).toInt) ∧ (NoV 35 V u.1) ∧ (NoV 37 V u.1) ∧ (NoL 36 L u.2) ∧ (NoL 38 L u.2)) (fun u t => gq D A (mw ad kk ks.1 u.1 u.2) (mty kk) t) A
set_option maxHeartbeats 4000000 in
set_option maxRecDepth 100000 in
theorem s_takeWordOfB3 (l : Launch) (D : va_G) (ks : KS) (sz : Nat) (ad : Nat → Nat) (kk : Nat → ClassId) (V : Vf) (L : Lf)  (hMV : rgd bM V) (bf : 1 ≤ (V 0 8).toInt)  : Met l yX12_takeWordOf (Cond.code yX12_takeWordOf cX12_takeWordOf 4 (some .int) :: GW) r_s_takeWordOfB3 (va_Pc [.ref (ad 0), .ref (ad 36), .ref (ad 35)] (gp D ks (mw ad kk ks.1 V L) (mty kk) sz)) (q_s_takeWordOfB3 D ks ad kk V L  (va_A (mw ad kk ks.1 V L) sz)) 0 0 (va_A (mw ad kk ks.1 V L) sz) := by
  refine g_met (q_s_takeWordOfB3 D ks ad kk V L) (by decide) (Nat.le_of_ble_eq_true rfl) ?_
  intro p e s m below meth c A ls H locs hx hb hr hml hown hg hlocks hin hnw hgk hP hK hD hS hA hl
  have hown : s.vm.findClass RX12 = some m.cls := hown
  have hl : lv_has ls 4 [(0, .ref (ad 0)), (1, .ref (ad 36)), (2, .ref (ad 35))] := hl
  have hP : va_P D vwCl (mw ad kk ks.1 V L) H := hP
  have hD : va_D A (mw ad kk ks.1 V L) := hD
  have hK : va_K D vwCl (mty kk) s := hK
  have agV : agr [(0, 7), (0, 8)] [35, 36, 37, 38] V V := agr.rf
  have alL : agL [35, 36, 37, 38] L L := agL.rf
  have r1 : 0 ≤ ((V 0 8)).toInt ∧ ((V 0 8)).toInt ≤ 70000 := hMV 0 8
  refine lv_aload_n hx hb dX12_takeWordOf_0 rfl (lv_at hl 0 rfl) ?_
  refine va_get (D := D) (ci := 12) (v := .int (V 0 8)) (C := RX12) (T := TX12) (N := 100) hx hb hg inX12 hown hK hP 0 rfl rfl 8 (by decide) (hg _ w1714) (fun _ h9 => h9) rfl dX12_takeWordOf_1 ?_
  refine lv_if_ne (tgt := 19) hx hb dX12_takeWordOf_4 (by decide) (fun c2 => ?_) (fun c2 => ?_)
  · skip
    have f3 : ((V 0 8)).toInt ≠ 0 := b_neq rfl (by decide) c2
    refine lv_aload_n hx hb dX12_takeWordOf_19 rfl (lv_at hl 0 rfl) ?_
    refine va_get (D := D) (ci := 12) (v := .int (V 0 8)) (C := RX12) (T := TX12) (N := 100) hx hb hg inX12 hown hK hP 0 rfl rfl 8 (by decide) (hg _ w1714) (fun _ h9 => h9) rfl dX12_takeWordOf_20 ?_
    refine lv_if_ne (tgt := 56) hx hb dX12_takeWordOf_23 (by decide) (fun c4 => ?_) (fun c4 => ?_)
    · skip
      have f5 : ((V 0 8)).toInt ≠ 0 := b_neq rfl (by decide) c4
      refine lv_iconst (v := (-1)) hx hb dX12_takeWordOf_56 (by decide) ?_
      refine lv_istore_n (lv' := [(3, .int (-1)), (0, .ref (ad 0)), (1, .ref (ad 36)), (2, .ref (ad 35))]) hx hb dX12_takeWordOf_57 rfl hl (by decide) rfl (fun ls hl => ?_)
      refine lv_aload_n hx hb dX12_takeWordOf_58 rfl (lv_at hl 1 rfl) ?_
      refine va_get (D := D) (ci := 12) (v := .int (V 0 8)) (C := RX12) (T := TX12) (N := 100) hx hb hg inX12 hown hK hP 0 rfl rfl 8 (by decide) (hg _ w1714) (fun _ h9 => h9) rfl dX12_takeWordOf_59 ?_
      refine lv_if_ne (tgt := 85) hx hb dX12_takeWordOf_62 (by decide) (fun c6 => ?_) (fun c6 => ?_)
      · skip
        have f7 : ((V 0 8)).toInt ≠ 0 := b_neq rfl (by decide) c6
        refine lv_aload_n hx hb dX12_takeWordOf_85 rfl (lv_at hl 1 rfl) ?_
        refine va_get (D := D) (ci := 12) (v := .int (V 0 8)) (C := RX12) (T := TX12) (N := 100) hx hb hg inX12 hown hK hP 0 rfl rfl 8 (by decide) (hg _ w1714) (fun _ h9 => h9) rfl dX12_takeWordOf_86 ?_
        refine lv_if_ne (tgt := 133) hx hb dX12_takeWordOf_89 (by decide) (fun c8 => ?_) (fun c8 => ?_)
        · skip
          have f9 : ((V 0 8)).toInt ≠ 0 := b_neq rfl (by decide) c8
          refine lv_aload_n hx hb dX12_takeWordOf_133 rfl (lv_at hl 1 rfl) ?_
          refine lv_dup hx hb dX12_takeWordOf_134 rfl ?_
          refine va_get (D := D) (ci := 12) (v := .int (V 0 7)) (C := RX12) (T := TX12) (N := 100) hx hb hg inX12 hown hK hP 0 rfl rfl 7 (by decide) (hg _ w1713) (fun _ h9 => h9) rfl dX12_takeWordOf_135 ?_
          refine lv_iconst (v := 1) hx hb dX12_takeWordOf_138 (by decide) ?_
          refine lv_iadd hx hb dX12_takeWordOf_139 ?_
          have r10 := i_full (V 0 7)
          refine lv_topi (fun z11 ez11 => ?_)
          have hz11 : Imp (-2147483648 ≤ ((V 0 7)).toInt + 1 ∧ ((V 0 7)).toInt + 1 ≤ 2147483647) (z11.toInt = ((V 0 7)).toInt + 1) := Imp.mk (fun hp => i_add ez11 rfl (by decide) hp)
          refine va_put (D := D) (ci := 12) (v := .int z11) (ty := tyX12 7) (C := RX12) (T := TX12) (N := 100) hx hb hg inX12 tyX12 tyX12_ok nmX12 hown hK hP hD hS 0 rfl rfl 7 (by decide) (hg _ w1713) (fun _ h9 => h9) rfl (tyX12_ok 7 (by decide)) rfl rfl (Nat.le_of_ble_eq_true rfl) dX12_takeWordOf_140 (fun H locs hP hD hS => ?_)
          obtain ⟨V12, hV12⟩ : ∃ z, z = up2 V 0 7 z11 := ⟨_, rfl⟩
          have hP : va_P D vwCl (mw ad kk ks.1 V12 L) H := by rw [hV12]; exact hP
          have hD : va_D A (mw ad kk ks.1 V12 L) := by rw [hV12]; exact hD
          have hMV12 : rgd bM V12 := hMV.put hV12 (i_full _)
          have agV12 : agr [(0, 7), (0, 8)] [35, 36, 37, 38] V V12 := agV.up hV12 rfl
          refine lv_iload_n hx hb dX12_takeWordOf_143 rfl (lv_at hl 0 rfl) ?_
          have pq13 : (V12 0 8).toInt = ((V 0 8)).toInt := congrArg Int32.toInt (up2_k hV12 (by decide))
          have rw14 : NoV 35 V V12 := (fun k => ((up2_o hV12 (by decide)).trans rfl))
          have rw15 : NoV 37 V V12 := (fun k => ((up2_o hV12 (by decide)).trans rfl))
          have rw16 : NoL 36 L L := (fun k => rfl)
          have rw17 : NoL 38 L L := (fun k => rfl)
          exact W.iret (v := (-1)) hx hb hr (fun t ht hW => ⟨⟨(-1), (V12, L), rfl, ⟨hMV12, agV12, alL, (by decide), (show (V12 0 8).toInt = (V 0 8).toInt from by first | exact om_570b691c1130 pq13 | first | omega | ((try (have i_hz11 := Imp.go hz11 (by omega))); omega)), rw14, rw15, rw16, rw17⟩, by rw [ht]; exact hP, va_K.moved hW.alike hK, hD⟩, hS.F ht⟩) hS.2.2 dX12_takeWordOf_144
        · skip
          have f18 : ((V 0 8)).toInt = 0 := b_eq rfl (by decide) c8
          exfalso; (first | exact om_b02ddf2a5870 bf f3 f18 | omega)
      · skip
        have f19 : ((V 0 8)).toInt = 0 := b_eq rfl (by decide) c6
        exfalso; (first | exact om_b02ddf2a5870 bf f3 f19 | omega)
    · skip
      have f20 : ((V 0 8)).toInt = 0 := b_eq rfl (by decide) c4
      exfalso; (first | exact om_b02ddf2a5870 bf f3 f20 | omega)
  · skip
    have f21 : ((V 0 8)).toInt = 0 := b_eq rfl (by decide) c2
    exfalso; (first | exact om_09885ab343b9 bf f21 | omega)
abbrev r_s_takeWordOf4 : Room := { frames := 1, cells := 0, slots := 0, locals := 27 }
abbrev q_s_takeWordOf4 (D : va_G) (ks : KS) (ad : Nat → Nat) (kk : Nat → ClassId) (V : Vf) (L : Lf) (bq : Nat) (gn : Nat) (gT : Tk) (gs : St) (gl : List Int64) (A : Nat → Prop) : Array Value → State → Outcome → State → Prop := va_Qi (fun (r : Int32) (u : Vf × Lf) => rgd bM u.1 ∧ agr [(0, 7), (0, 8)] [35, 36, 37, 38] V u.1 ∧ agL [35, 36, 37, 38] L u.2 ∧ ((-1) ≤ r.toInt ∧ r.toInt ≤ 19) ∧ (KmS (mthW gT gs 4) (u.1 0 8).toInt (fun x9 => RelM u.1 u.2 bq gn gT x9.2 gl ∧ r.toInt = ((x9.1 : Nat) : Int) ∧ x9.1 < 20 ∧ keepS gs 1 x9.2 ∧ MTX gT gs 4 x9)) ∧ (RoV 35 bq V u.1) ∧ (RoV 37 bq V u.1) ∧ (RoL 36 20 bq L u.2) ∧ (RoL 38 20 bq L u.2)) (fun u t => gq D A (mw ad kk ks.1 u.1 u.2) (mty kk) t) A
set_option maxHeartbeats 4000000 in
set_option maxRecDepth 100000 in
theorem s_takeWordOf4 (l : Launch) (D : va_G) (ks : KS) (sz : Nat) (ad : Nat → Nat) (kk : Nat → ClassId) (V : Vf) (L : Lf) (bq : Nat) (gn : Nat) (gT : Tk) (gs : St) (gl : List Int64) (hMV : rgd bM V) (rel : RelM V L bq gn gT gs gl)  : Met l yX12_takeWordOf (Cond.code yX12_takeWordOf cX12_takeWordOf 4 (some .int) :: GW) r_s_takeWordOf4 (va_Pc [.ref (ad 0), .ref (ad 38), .ref (ad 37)] (gp D ks (mw ad kk ks.1 V L) (mty kk) sz)) (q_s_takeWordOf4 D ks ad kk V L  bq gn gT gs gl (va_A (mw ad kk ks.1 V L) sz)) 0 0 (va_A (mw ad kk ks.1 V L) sz) := by
  refine g_met (q_s_takeWordOf4 D ks ad kk V L  bq gn gT gs gl) (by decide) (Nat.le_of_ble_eq_true rfl) ?_
  intro p e s m below meth c A ls H locs hx hb hr hml hown hg hlocks hin hnw hgk hP hK hD hS hA hl
  have hown : s.vm.findClass RX12 = some m.cls := hown
  have hl : lv_has ls 4 [(0, .ref (ad 0)), (1, .ref (ad 38)), (2, .ref (ad 37))] := hl
  have hP : va_P D vwCl (mw ad kk ks.1 V L) H := hP
  have hD : va_D A (mw ad kk ks.1 V L) := hD
  have hK : va_K D vwCl (mty kk) s := hK
  have agV : agr [(0, 7), (0, 8)] [35, 36, 37, 38] V V := agr.rf
  have alL : agL [35, 36, 37, 38] L L := agL.rf
  have rg0 := RelM.rg rel
  have cl0 := RelM.cl rel
  have cq0 := RelM.cq rel
  refine lv_aload_n hx hb dX12_takeWordOf_0 rfl (lv_at hl 0 rfl) ?_
  refine va_get (D := D) (ci := 12) (v := .int (V 0 8)) (C := RX12) (T := TX12) (N := 100) hx hb hg inX12 hown hK hP 0 rfl rfl 8 (by decide) (hg _ w1714) (fun _ h9 => h9) rfl dX12_takeWordOf_1 ?_
  have r1 : 0 ≤ ((V 0 8)).toInt ∧ ((V 0 8)).toInt ≤ 70000 := hMV 0 8
  refine lv_if_ne (tgt := 19) hx hb dX12_takeWordOf_4 (by decide) (fun c2 => ?_) (fun c2 => ?_)
  · skip
    have f3 : ((V 0 8)).toInt ≠ 0 := b_neq rfl (by decide) c2
    exfalso; (first | exact om_0b51723c7ef6 rg0.2.2.1 f3 | omega)
  · skip
    have f4 : ((V 0 8)).toInt = 0 := b_eq rfl (by decide) c2
    refine lv_aload_n hx hb dX12_takeWordOf_7 rfl (lv_at hl 0 rfl) ?_
    refine gA_int (gA_runV (As := []) (rest := []) (ci := 12) (q0 := 0) hx hb hml hown hg hP hD hK hS hA hnw hgk (s_isNameA l D ks H.size ad kk V L (bq) (gn) (gT) (gs) (gl) hMV rel) w2043 w2045 w88 w172 w2046 rfl rfl hdV_yX12_isName ⟨Nat.le_of_ble_eq_true rfl, Nat.le_of_ble_eq_true rfl⟩ rfl hl.1 rfl (Nat.le_of_ble_eq_true rfl) dX12_takeWordOf_8 ⟨Nat.le_of_ble_eq_true rfl, Nat.le_of_ble_eq_true rfl⟩) hP hD hK hS hA (fun z5 u6 H locs w7 hP hD hK hS => ?_)
    obtain ⟨rgz5, t8⟩ := w7
    have rgz5 : 0 ≤ z5.toInt ∧ z5.toInt ≤ 1 := rgz5
    have t8 : (z5.toInt = 1 ∧ (gT).1 ((gs).1 0) = 3) ∨ (z5.toInt = 0 ∧ (gT).1 ((gs).1 0) ≠ 3) := t8
    rcases t8 with ⟨q9, h10⟩ | ⟨q9, h10⟩
    · skip
      refine lv_if_ne (tgt := 19) hx hb dX12_takeWordOf_11 (by decide) (fun c11 => ?_) (fun c11 => ?_)
      · skip
        have f12 : z5.toInt ≠ 0 := b_neq rfl (by decide) c11
        have vl3 := RelM.vl rel (Or.inr h10)
        refine lv_aload_n hx hb dX12_takeWordOf_19 rfl (lv_at hl 0 rfl) ?_
        refine va_get (D := D) (ci := 12) (v := .int (V 0 8)) (C := RX12) (T := TX12) (N := 100) hx hb hg inX12 hown hK hP 0 rfl rfl 8 (by decide) (hg _ w1714) (fun _ h9 => h9) rfl dX12_takeWordOf_20 ?_
        refine lv_if_ne (tgt := 56) hx hb dX12_takeWordOf_23 (by decide) (fun c13 => ?_) (fun c13 => ?_)
        · skip
          have f14 : ((V 0 8)).toInt ≠ 0 := b_neq rfl (by decide) c13
          exfalso; (first | exact om_fb320d7600b7 r1.1 f4 f14 | omega)
        · skip
          have f15 : ((V 0 8)).toInt = 0 := b_eq rfl (by decide) c13
          refine lv_aload_n hx hb dX12_takeWordOf_26 rfl (lv_at hl 0 rfl) ?_
          refine lv_aload_n hx hb dX12_takeWordOf_27 rfl (lv_at hl 1 rfl) ?_
          refine lv_bipush (v := 20) hx hb dX12_takeWordOf_28 (by decide) ?_
          refine lv_aload_n hx hb dX12_takeWordOf_30 rfl (lv_at hl 0 rfl) ?_
          refine va_get (D := D) (ci := 12) (v := .int (V 0 12)) (C := RX12) (T := TX12) (N := 100) hx hb hg inX12 hown hK hP 0 rfl rfl 12 (by decide) (hg _ w1718) (fun _ h9 => h9) rfl dX12_takeWordOf_31 ?_
          have r16 : 0 ≤ ((V 0 12)).toInt ∧ ((V 0 12)).toInt ≤ 1 := hMV 0 12
          refine lv_imul hx hb dX12_takeWordOf_34 ?_
          refine lv_topi (fun z17 ez17 => ?_)
          have hz17 : z17.toInt = 20 * ((V 0 12)).toInt := i_mul ez17 (by decide) rfl (by (first | exact om_1c36e316c123 r16.1 r16.2 | omega))
          refine lv_aload_n hx hb dX12_takeWordOf_35 rfl (lv_at hl 2 rfl) ?_
          refine lv_aload_n hx hb dX12_takeWordOf_36 rfl (lv_at hl 0 rfl) ?_
          refine va_get (D := D) (ci := 12) (v := .int (V 0 12)) (C := RX12) (T := TX12) (N := 100) hx hb hg inX12 hown hK hP 0 rfl rfl 12 (by decide) (hg _ w1718) (fun _ h9 => h9) rfl dX12_takeWordOf_37 ?_
          refine va_iald (D := D) (i := (V 0 12)) hx hb hK hP 30 29 rfl rfl (i_in (a := ((V 0 12)).toInt) rfl (by (first | exact om_27c603097004 rg0.2.2.2.1 rg0.2.2.2.2.1 | omega))) dX12_takeWordOf_40 ?_
          have r18 : 0 ≤ ((V 37 (Int32.toNatClampNeg (V 0 12)))).toInt ∧ ((V 37 (Int32.toNatClampNeg (V 0 12)))).toInt ≤ 20 := hMV 37 (Int32.toNatClampNeg (V 0 12))
          refine lv_aload_n hx hb dX12_takeWordOf_41 rfl (lv_at hl 0 rfl) ?_
          refine va_get (D := D) (ci := 12) (v := .ref (ad 6)) (C := RX12) (T := TX12) (N := 100) hx hb hg inX12 hown hK hP 0 rfl rfl 6 (by decide) (hg _ w1712) (fun _ h9 => h9) rfl dX12_takeWordOf_42 ?_
          refine lv_aload_n hx hb dX12_takeWordOf_45 rfl (lv_at hl 0 rfl) ?_
          refine va_get (D := D) (ci := 12) (v := .int (V 0 7)) (C := RX12) (T := TX12) (N := 100) hx hb hg inX12 hown hK hP 0 rfl rfl 7 (by decide) (hg _ w1713) (fun _ h9 => h9) rfl dX12_takeWordOf_46 ?_
          refine va_lald (D := D) (i := (V 0 7)) hx hb hK hP 4 3 rfl rfl (i_in (a := ((V 0 7)).toInt) rfl (by omega)) dX12_takeWordOf_49 ?_
          refine gA_int (gA_runV (As := [.ref (ad 38), .int z17, .int (V 37 (Int32.toNatClampNeg (V 0 12))), .long (L 6 (Int32.toNatClampNeg (V 0 7)))]) (rest := []) (ci := 12) (q0 := 0) hx hb hml hown hg hP hD hK hS hA hnw hgk (s_find2_callName l D ks H.size ad kk V L z17 (V 37 (Int32.toNatClampNeg (V 0 12))) (L 6 (Int32.toNatClampNeg (V 0 7))) hMV (by (first | exact om_c7296700d4dd r16.1 r16.2 hz17 | omega)) (by (first | exact om_ad40d0ac5b52 r18.1 r18.2 | omega)) (show z17.toInt + ((V 37 (Int32.toNatClampNeg (V 0 12)))).toInt ≤ 40 from by (first | exact om_03a4a2dc5d03 r16.2 hz17 r18.2 | omega))) w2047 w2049 w89 w172 w2050 rfl rfl hdV_yX12_find ⟨Nat.le_of_ble_eq_true rfl, Nat.le_of_ble_eq_true rfl⟩ rfl hl.1 rfl (Nat.le_of_ble_eq_true rfl) dX12_takeWordOf_50 ⟨Nat.le_of_ble_eq_true rfl, Nat.le_of_ble_eq_true rfl⟩) hP hD hK hS hA (fun z19 u20 H locs w21 hP hD hK hS => ?_)
          obtain ⟨rgz19, t22, t23⟩ := w21
          have rgz19 : (-1) ≤ z19.toInt ∧ z19.toInt ≤ 47 := rgz19
          have t22 : z19.toInt < ((V 37 (Int32.toNatClampNeg (V 0 12)))).toInt := t22
          have t23 : LF (fun i => L 38 (z17.toInt.toNat + i)) ((V 37 (Int32.toNatClampNeg (V 0 12)))).toInt ((L 6 (Int32.toNatClampNeg (V 0 7)))) z19.toInt := t23
          have lf24 : LF (fun i => L 38 (20 * bq + i)) (V 37 bq).toInt (L 6 (Int32.toNatClampNeg (V 0 7))) z19.toInt := by have h9 := t23; rw [show z17.toInt.toNat = 20 * bq from by omega, show ((V 37 (Int32.toNatClampNeg (V 0 12)))).toInt = (V 37 bq).toInt from by rw [cq0]] at h9; exact h9
          refine lv_goto (tgt := 57) hx hb dX12_takeWordOf_53 (by decide) ?_
          refine lv_istore_n (lv' := [(3, .int z19), (0, .ref (ad 0)), (1, .ref (ad 38)), (2, .ref (ad 37))]) hx hb dX12_takeWordOf_57 rfl hl (by decide) rfl (fun ls hl => ?_)
          refine lv_aload_n hx hb dX12_takeWordOf_58 rfl (lv_at hl 1 rfl) ?_
          refine va_get (D := D) (ci := 12) (v := .int (V 0 8)) (C := RX12) (T := TX12) (N := 100) hx hb hg inX12 hown hK hP 0 rfl rfl 8 (by decide) (hg _ w1714) (fun _ h9 => h9) rfl dX12_takeWordOf_59 ?_
          refine lv_if_ne (tgt := 85) hx hb dX12_takeWordOf_62 (by decide) (fun c25 => ?_) (fun c25 => ?_)
          · skip
            have f26 : ((V 0 8)).toInt ≠ 0 := b_neq rfl (by decide) c25
            exfalso; (first | exact om_fb320d7600b7 r1.1 f4 f26 | omega)
          · skip
            have f27 : ((V 0 8)).toInt = 0 := b_eq rfl (by decide) c25
            refine lv_iload_n hx hb dX12_takeWordOf_65 rfl (lv_at hl 0 rfl) ?_
            refine lv_if_ge (tgt := 85) hx hb dX12_takeWordOf_66 (by decide) (fun c28 => ?_) (fun c28 => ?_)
            · skip
              have f29 : 0 ≤ z19.toInt := b_le (by decide) rfl c28
              refine lv_aload_n hx hb dX12_takeWordOf_85 rfl (lv_at hl 1 rfl) ?_
              refine va_get (D := D) (ci := 12) (v := .int (V 0 8)) (C := RX12) (T := TX12) (N := 100) hx hb hg inX12 hown hK hP 0 rfl rfl 8 (by decide) (hg _ w1714) (fun _ h9 => h9) rfl dX12_takeWordOf_86 ?_
              refine lv_if_ne (tgt := 133) hx hb dX12_takeWordOf_89 (by decide) (fun c30 => ?_) (fun c30 => ?_)
              · skip
                have f31 : ((V 0 8)).toInt ≠ 0 := b_neq rfl (by decide) c30
                exfalso; (first | exact om_fb320d7600b7 r1.1 f4 f31 | omega)
              · skip
                have f32 : ((V 0 8)).toInt = 0 := b_eq rfl (by decide) c30
                refine lv_iload_n hx hb dX12_takeWordOf_92 rfl (lv_at hl 0 rfl) ?_
                refine lv_if_ge (tgt := 133) hx hb dX12_takeWordOf_93 (by decide) (fun c33 => ?_) (fun c33 => ?_)
                · skip
                  have f34 : 0 ≤ z19.toInt := b_le (by decide) rfl c33
                  refine lv_aload_n hx hb dX12_takeWordOf_133 rfl (lv_at hl 1 rfl) ?_
                  refine lv_dup hx hb dX12_takeWordOf_134 rfl ?_
                  refine va_get (D := D) (ci := 12) (v := .int (V 0 7)) (C := RX12) (T := TX12) (N := 100) hx hb hg inX12 hown hK hP 0 rfl rfl 7 (by decide) (hg _ w1713) (fun _ h9 => h9) rfl dX12_takeWordOf_135 ?_
                  refine lv_iconst (v := 1) hx hb dX12_takeWordOf_138 (by decide) ?_
                  refine lv_iadd hx hb dX12_takeWordOf_139 ?_
                  refine lv_topi (fun z35 ez35 => ?_)
                  have hz35 : z35.toInt = ((V 0 7)).toInt + 1 := i_add ez35 rfl (by decide) (by omega)
                  refine va_put (D := D) (ci := 12) (v := .int z35) (ty := tyX12 7) (C := RX12) (T := TX12) (N := 100) hx hb hg inX12 tyX12 tyX12_ok nmX12 hown hK hP hD hS 0 rfl rfl 7 (by decide) (hg _ w1713) (fun _ h9 => h9) rfl (tyX12_ok 7 (by decide)) rfl rfl (Nat.le_of_ble_eq_true rfl) dX12_takeWordOf_140 (fun H locs hP hD hS => ?_)
                  obtain ⟨V36, hV36⟩ : ∃ z, z = up2 V 0 7 z35 := ⟨_, rfl⟩
                  have hP : va_P D vwCl (mw ad kk ks.1 V36 L) H := by rw [hV36]; exact hP
                  have hD : va_D A (mw ad kk ks.1 V36 L) := by rw [hV36]; exact hD
                  have hMV36 : rgd bM V36 := hMV.put hV36 (i_full _)
                  have agV36 : agr [(0, 7), (0, 8)] [35, 36, 37, 38] V V36 := agV.up hV36 rfl
                  refine lv_iload_n hx hb dX12_takeWordOf_143 rfl (lv_at hl 0 rfl) ?_
                  have pq37 : (V36 0 8).toInt = ((V 0 8)).toInt := congrArg Int32.toInt (up2_k hV36 (by decide))
                  have rw38 : RoV 35 bq V V36 := (fun k hk => ((up2_o hV36 (by decide)).trans rfl))
                  have rw39 : RoV 37 bq V V36 := (fun k hk => ((up2_o hV36 (by decide)).trans rfl))
                  have rw40 : RoL 36 20 bq L L := (fun k hk => rfl)
                  have rw41 : RoL 38 20 bq L L := (fun k hk => rfl)
                  exact W.iret (v := z19) hx hb hr (fun t ht hW => ⟨⟨z19, (V36, L), rfl, ⟨hMV36, agV36, alL, (show (-1) ≤ z19.toInt ∧ z19.toInt ≤ 19 from by (first | exact om_3625e73a4d19 r18.2 t22 f29 | omega)), (Or.inl ⟨W0 (RelM.n1 rel hV36 (by (first | exact om_55c67efb91e5 hz35 | omega)) (by rw [h10]; decide)), (z19.toInt.toNat, nx gs 1), fun kk => (mth_y h10 kk).trans (nbr_y (by rw [vl3, ← cl0]; exact LF.yes lf24 rel.2.2.1.2.2.2.2.1 rel.2.2.1.2.2.2.2.2 (by omega)) kk), (RelM.n1 rel hV36 (by (first | exact om_55c67efb91e5 hz35 | omega)) (by rw [h10]; decide)), (show z19.toInt = ((z19.toInt.toNat : Nat) : Int) from by (first | exact om_bb68b85f87a5 f29 | omega)), (show z19.toInt.toNat < 20 from by (first | exact om_1fdfe16a6bb5 r18.2 t22 f29 | omega)), keepS.n1 1, Or.inl ⟨(by rw [vl3, ← cl0]; exact LF.yes lf24 rel.2.2.1.2.2.2.2.1 rel.2.2.1.2.2.2.2.2 (by omega)), rfl⟩⟩), rw38, rw39, rw40, rw41⟩, by rw [ht]; exact hP, va_K.moved hW.alike hK, hD⟩, hS.F ht⟩) hS.2.2 dX12_takeWordOf_144
                · skip
                  have f42 : z19.toInt < 0 := b_nle (by decide) rfl c33
                  exfalso; (first | exact om_1b10ca75f5f0 f29 f42 | omega)
            · skip
              have f43 : z19.toInt < 0 := b_nle (by decide) rfl c28
              refine lv_aload_n hx hb dX12_takeWordOf_69 rfl (lv_at hl 3 rfl) ?_
              refine lv_aload_n hx hb dX12_takeWordOf_70 rfl (lv_at hl 1 rfl) ?_
              refine va_get (D := D) (ci := 12) (v := .int (V 0 12)) (C := RX12) (T := TX12) (N := 100) hx hb hg inX12 hown hK hP 0 rfl rfl 12 (by decide) (hg _ w1718) (fun _ h9 => h9) rfl dX12_takeWordOf_71 ?_
              refine va_iald (D := D) (i := (V 0 12)) hx hb hK hP 30 29 rfl rfl (i_in (a := ((V 0 12)).toInt) rfl (by (first | exact om_27c603097004 rg0.2.2.2.1 rg0.2.2.2.2.1 | omega))) dX12_takeWordOf_74 ?_
              refine lv_bipush (v := 20) hx hb dX12_takeWordOf_75 (by decide) ?_
              refine lv_icmp_ne (tgt := 85) hx hb dX12_takeWordOf_77 (by decide) (fun c44 => ?_) (fun c44 => ?_)
              · skip
                have f45 : ((V 37 (Int32.toNatClampNeg (V 0 12)))).toInt ≠ 20 := b_neq rfl (by decide) c44
                refine lv_aload_n hx hb dX12_takeWordOf_85 rfl (lv_at hl 1 rfl) ?_
                refine va_get (D := D) (ci := 12) (v := .int (V 0 8)) (C := RX12) (T := TX12) (N := 100) hx hb hg inX12 hown hK hP 0 rfl rfl 8 (by decide) (hg _ w1714) (fun _ h9 => h9) rfl dX12_takeWordOf_86 ?_
                refine lv_if_ne (tgt := 133) hx hb dX12_takeWordOf_89 (by decide) (fun c46 => ?_) (fun c46 => ?_)
                · skip
                  have f47 : ((V 0 8)).toInt ≠ 0 := b_neq rfl (by decide) c46
                  exfalso; (first | exact om_fb320d7600b7 r1.1 f4 f47 | omega)
                · skip
                  have f48 : ((V 0 8)).toInt = 0 := b_eq rfl (by decide) c46
                  refine lv_iload_n hx hb dX12_takeWordOf_92 rfl (lv_at hl 0 rfl) ?_
                  refine lv_if_ge (tgt := 133) hx hb dX12_takeWordOf_93 (by decide) (fun c49 => ?_) (fun c49 => ?_)
                  · skip
                    have f50 : 0 ≤ z19.toInt := b_le (by decide) rfl c49
                    exfalso; (first | exact om_54ab17f89714 f43 f50 | omega)
                  · skip
                    have f51 : z19.toInt < 0 := b_nle (by decide) rfl c49
                    refine lv_aload_n hx hb dX12_takeWordOf_96 rfl (lv_at hl 3 rfl) ?_
                    refine lv_aload_n hx hb dX12_takeWordOf_97 rfl (lv_at hl 1 rfl) ?_
                    refine va_get (D := D) (ci := 12) (v := .int (V 0 12)) (C := RX12) (T := TX12) (N := 100) hx hb hg inX12 hown hK hP 0 rfl rfl 12 (by decide) (hg _ w1718) (fun _ h9 => h9) rfl dX12_takeWordOf_98 ?_
                    refine va_iald (D := D) (i := (V 0 12)) hx hb hK hP 30 29 rfl rfl (i_in (a := ((V 0 12)).toInt) rfl (by (first | exact om_27c603097004 rg0.2.2.2.1 rg0.2.2.2.2.1 | omega))) dX12_takeWordOf_101 ?_
                    refine lv_istore_n (lv' := [(3, .int (V 37 (Int32.toNatClampNeg (V 0 12)))), (0, .ref (ad 0)), (1, .ref (ad 38)), (2, .ref (ad 37))]) hx hb dX12_takeWordOf_102 rfl hl (by decide) rfl (fun ls hl => ?_)
                    refine lv_aload_n hx hb dX12_takeWordOf_103 rfl (lv_at hl 2 rfl) ?_
                    refine lv_bipush (v := 20) hx hb dX12_takeWordOf_104 (by decide) ?_
                    refine lv_aload_n hx hb dX12_takeWordOf_106 rfl (lv_at hl 1 rfl) ?_
                    refine va_get (D := D) (ci := 12) (v := .int (V 0 12)) (C := RX12) (T := TX12) (N := 100) hx hb hg inX12 hown hK hP 0 rfl rfl 12 (by decide) (hg _ w1718) (fun _ h9 => h9) rfl dX12_takeWordOf_107 ?_
                    refine lv_imul hx hb dX12_takeWordOf_110 ?_
                    refine lv_topi (fun z52 ez52 => ?_)
                    have hz52 : z52.toInt = 20 * ((V 0 12)).toInt := i_mul ez52 (by decide) rfl (by (first | exact om_1c36e316c123 r16.1 r16.2 | omega))
                    refine lv_iload_n hx hb dX12_takeWordOf_111 rfl (lv_at hl 0 rfl) ?_
                    refine lv_iadd hx hb dX12_takeWordOf_112 ?_
                    refine lv_topi (fun z53 ez53 => ?_)
                    have hz53 : z53.toInt = z52.toInt + ((V 37 (Int32.toNatClampNeg (V 0 12)))).toInt := i_add ez53 rfl rfl (by (first | exact om_17e47abb59b2 r16.1 r16.2 r18.1 r18.2 f45 hz52 | omega))
                    refine lv_aload_n hx hb dX12_takeWordOf_113 rfl (lv_at hl 1 rfl) ?_
                    refine va_get (D := D) (ci := 12) (v := .ref (ad 6)) (C := RX12) (T := TX12) (N := 100) hx hb hg inX12 hown hK hP 0 rfl rfl 6 (by decide) (hg _ w1712) (fun _ h9 => h9) rfl dX12_takeWordOf_114 ?_
                    refine lv_aload_n hx hb dX12_takeWordOf_117 rfl (lv_at hl 1 rfl) ?_
                    refine va_get (D := D) (ci := 12) (v := .int (V 0 7)) (C := RX12) (T := TX12) (N := 100) hx hb hg inX12 hown hK hP 0 rfl rfl 7 (by decide) (hg _ w1713) (fun _ h9 => h9) rfl dX12_takeWordOf_118 ?_
                    refine va_lald (D := D) (i := (V 0 7)) hx hb hK hP 4 3 rfl rfl (i_in (a := ((V 0 7)).toInt) rfl (by omega)) dX12_takeWordOf_121 ?_
                    refine va_last (D := D) (i := z53) (x := (L 6 (Int32.toNatClampNeg (V 0 7)))) hx hb hK hP hD hS 31 30 rfl rfl (i_in (a := z53.toInt) rfl (by (first | exact om_ce5636e369f7 r16.1 r16.2 r18.1 r18.2 f45 hz52 hz53 | omega))) dX12_takeWordOf_122 (fun H locs hP hD hS => ?_)
                    obtain ⟨L54, hL54⟩ : ∃ z, z = upL L 38 (Int32.toNatClampNeg z53) (L 6 (Int32.toNatClampNeg (V 0 7))) := ⟨_, rfl⟩
                    have hP : va_P D vwCl (mw ad kk ks.1 V L54) H := by rw [hL54]; exact hP
                    have hD : va_D A (mw ad kk ks.1 V L54) := by rw [hL54]; exact hD
                    have alL54 : agL [35, 36, 37, 38] L L54 := agL.up alL hL54 rfl
                    refine lv_aload_n hx hb dX12_takeWordOf_123 rfl (lv_at hl 3 rfl) ?_
                    refine lv_aload_n hx hb dX12_takeWordOf_124 rfl (lv_at hl 1 rfl) ?_
                    refine va_get (D := D) (ci := 12) (v := .int (V 0 12)) (C := RX12) (T := TX12) (N := 100) hx hb hg inX12 hown hK hP 0 rfl rfl 12 (by decide) (hg _ w1718) (fun _ h9 => h9) rfl dX12_takeWordOf_125 ?_
                    refine lv_dup2_11 hx hb dX12_takeWordOf_128 rfl rfl ?_
                    refine va_iald (D := D) (i := (V 0 12)) hx hb hK hP 30 29 rfl rfl (i_in (a := ((V 0 12)).toInt) rfl (by (first | exact om_27c603097004 rg0.2.2.2.1 rg0.2.2.2.2.1 | omega))) dX12_takeWordOf_129 ?_
                    refine lv_iconst (v := 1) hx hb dX12_takeWordOf_130 (by decide) ?_
                    refine lv_iadd hx hb dX12_takeWordOf_131 ?_
                    refine lv_topi (fun z55 ez55 => ?_)
                    have hz55 : z55.toInt = ((V 37 (Int32.toNatClampNeg (V 0 12)))).toInt + 1 := i_add ez55 rfl (by decide) (by (first | exact om_27c928885e36 r18.1 r18.2 f45 | omega))
                    refine va_iast (D := D) (i := (V 0 12)) (x := z55) hx hb hK hP hD hS 30 29 rfl rfl (i_in (a := ((V 0 12)).toInt) rfl (by (first | exact om_27c603097004 rg0.2.2.2.1 rg0.2.2.2.2.1 | omega))) dX12_takeWordOf_132 (fun H locs hP hD hS => ?_)
                    obtain ⟨V56, hV56⟩ : ∃ z, z = up2 V 37 (Int32.toNatClampNeg (V 0 12)) z55 := ⟨_, rfl⟩
                    have hP : va_P D vwCl (mw ad kk ks.1 V56 L54) H := by rw [hV56]; exact hP
                    have hD : va_D A (mw ad kk ks.1 V56 L54) := by rw [hV56]; exact hD
                    have hMV56 : rgd bM V56 := hMV.put hV56 (show 0 ≤ z55.toInt ∧ z55.toInt ≤ 20 from by (first | exact om_f4eeecdf3ac8 r18.1 r18.2 f45 hz55 | omega))
                    have agV56 : agr [(0, 7), (0, 8)] [35, 36, 37, 38] V V56 := agV.up hV56 rfl
                    have hv9 := hV56
                    rw [cq0] at hv9
                    have hl9 : L54 = upL L 38 (Int32.toNatClampNeg z53) (gT.2.1 (gs.1 0)) := by rw [vl3, ← cl0]; exact hL54
                    have q9 : (V 37 (Int32.toNatClampNeg (V 0 12))).toInt = (V 37 bq).toInt := by rw [cq0]
                    have rl57 : RelM V56 L54 bq gn gT (sA gs 4 (gT.2.1 (gs.1 0))) gl := RelM.a4 rel (by rw [vl3, ← cl0]; exact LF.no lf24 rel.2.2.1.2.2.2.2.1 (by omega)) hl9 (by (first | exact om_350c6ecf6297 rg0.2.2.2.1 hz52 hz53 q9 | omega)) hv9 (by (first | exact om_bf335c4e2c2c hz55 q9 | omega)) (by (first | exact om_daf12137c7c2 r18.1 q9 | omega))
                    have fz58 := RelM.rg rl57
                    have pq59 : (V56 0 8).toInt = ((V 0 8)).toInt := congrArg Int32.toInt (up2_o hV56 (by decide))
                    have pq60 : (V56 0 7).toInt = ((V 0 7)).toInt := congrArg Int32.toInt (up2_o hV56 (by decide))
                    refine lv_aload_n hx hb dX12_takeWordOf_133 rfl (lv_at hl 1 rfl) ?_
                    refine lv_dup hx hb dX12_takeWordOf_134 rfl ?_
                    refine va_get (D := D) (ci := 12) (v := .int (V56 0 7)) (C := RX12) (T := TX12) (N := 100) hx hb hg inX12 hown hK hP 0 rfl rfl 7 (by decide) (hg _ w1713) (fun _ h9 => h9) rfl dX12_takeWordOf_135 ?_
                    refine g_top (v := (V 0 7)) (up2_o hV56 (by decide)) ?_
                    refine lv_iconst (v := 1) hx hb dX12_takeWordOf_138 (by decide) ?_
                    refine lv_iadd hx hb dX12_takeWordOf_139 ?_
                    refine lv_topi (fun z61 ez61 => ?_)
                    have hz61 : z61.toInt = ((V 0 7)).toInt + 1 := i_add ez61 rfl (by decide) (by omega)
                    refine va_put (D := D) (ci := 12) (v := .int z61) (ty := tyX12 7) (C := RX12) (T := TX12) (N := 100) hx hb hg inX12 tyX12 tyX12_ok nmX12 hown hK hP hD hS 0 rfl rfl 7 (by decide) (hg _ w1713) (fun _ h9 => h9) rfl (tyX12_ok 7 (by decide)) rfl rfl (Nat.le_of_ble_eq_true rfl) dX12_takeWordOf_140 (fun H locs hP hD hS => ?_)
                    obtain ⟨V62, hV62⟩ : ∃ z, z = up2 V56 0 7 z61 := ⟨_, rfl⟩
                    have hP : va_P D vwCl (mw ad kk ks.1 V62 L54) H := by rw [hV62]; exact hP
                    have hD : va_D A (mw ad kk ks.1 V62 L54) := by rw [hV62]; exact hD
                    have hMV62 : rgd bM V62 := hMV56.put hV62 (i_full _)
                    have agV62 : agr [(0, 7), (0, 8)] [35, 36, 37, 38] V V62 := agV56.up hV62 rfl
                    refine lv_iload_n hx hb dX12_takeWordOf_143 rfl (lv_at hl 0 rfl) ?_
                    have pq63 : (V62 0 8).toInt = ((V 0 8)).toInt := congrArg Int32.toInt ((up2_k hV62 (by decide)).trans (up2_o hV56 (by decide)))
                    have rl64 : RelM V62 L54 bq gn gT (sA (nx gs 1) 4 (gT.2.1 (gs.1 0))) gl := RelM.n1 rl57 hV62 (by (first | exact om_f8adf868c938 pq60 hz61 | omega)) (by show gT.1 (gs.1 0) ≠ 0; rw [h10]; decide)
                    have lg9 := RelM.len rel
                    have rw65 : RoV 35 bq V V62 := (fun k hk => ((up2_o hV62 (by decide)).trans ((up2_o hV56 (by decide)).trans rfl)))
                    have rw66 : RoV 37 bq V V62 := (fun k hk => ((up2_o hV62 (by decide)).trans ((up2_k hV56 (by omega)).trans rfl)))
                    have rw67 : RoL 36 20 bq L L54 := (fun k hk => ((upL_x hL54 (by decide)).trans rfl))
                    have rw68 : RoL 38 20 bq L L54 := (fun k hk => ((upL_k hL54 (by have h9 := i_clamp (x := z53) rfl (by (first | exact om_b54cd86badd2 r16.1 r18.1 hz52 hz53 | omega)); omega)).trans rfl))
                    exact W.iret (v := (V 37 (Int32.toNatClampNeg (V 0 12)))) hx hb hr (fun t ht hW => ⟨⟨(V 37 (Int32.toNatClampNeg (V 0 12))), (V62, L54), rfl, ⟨hMV62, agV62, alL54, (show (-1) ≤ ((V 37 (Int32.toNatClampNeg (V 0 12)))).toInt ∧ ((V 37 (Int32.toNatClampNeg (V 0 12)))).toInt ≤ 19 from by (first | exact om_f725c6527e42 r18.1 r18.2 f45 | omega)), (Or.inl ⟨W0 rl64, ((gs.2.1 4).length, sA (nx gs 1) 4 (gT.2.1 (gs.1 0))), fun kk => (mth_y h10 kk).trans (nbr_n (by rw [vl3, ← cl0]; exact LF.no lf24 rel.2.2.1.2.2.2.2.1 (by omega)) (by omega) kk), rl64, (show (V 37 (Int32.toNatClampNeg (V 0 12))).toInt = (((gs.2.1 4).length : Nat) : Int) from by (first | exact om_b0778af03df4 q9 lg9.2.2.2.2.1 | omega)), (show (gs.2.1 4).length < 20 from by (first | exact om_e0612de9b658 r18.2 f45 q9 lg9.2.2.2.2.1 | omega)), keepS.nA (by decide), Or.inr ⟨(by rw [vl3, ← cl0]; exact LF.no lf24 rel.2.2.1.2.2.2.2.1 (by omega)), rfl, rfl⟩⟩), rw65, rw66, rw67, rw68⟩, by rw [ht]; exact hP, va_K.moved hW.alike hK, hD⟩, hS.F ht⟩) hS.2.2 dX12_takeWordOf_144
              · skip
                have f69 : ((V 37 (Int32.toNatClampNeg (V 0 12)))).toInt = 20 := b_eq rfl (by decide) c44
                refine lv_aload_n hx hb dX12_takeWordOf_80 rfl (lv_at hl 1 rfl) ?_
                refine lv_iconst (v := 5) hx hb dX12_takeWordOf_81 (by decide) ?_
                have r70 : Int32.toInt 5 = 5 := by decide
                refine gA_void (gA_runV (As := [.int 5]) (rest := []) (ci := 12) (q0 := 0) hx hb hml hown hg hP hD hK hS hA hnw hgk (s_wrongA l D ks H.size ad kk V L 5 (bq) (gn) (gT) (gs) (gl) hMV (by decide) rel) w2035 w2037 w86 w172 w2038 rfl rfl hdV_yX12_wrong ⟨Nat.le_of_ble_eq_true rfl, Nat.le_of_ble_eq_true rfl⟩ rfl hl.1 rfl (Nat.le_of_ble_eq_true rfl) dX12_takeWordOf_82 ⟨Nat.le_of_ble_eq_true rfl, Nat.le_of_ble_eq_true rfl⟩) hP hD hK hS hA (fun u72 H locs w73 hP hD hK hS => ?_)
                obtain ⟨V76, L77⟩ := u72
                obtain ⟨hMV76, ajV76, axL77, t74, t75⟩ := w73
                have axL77 : L = L77 := Eq.symm axL77
                subst axL77
                have hP : va_P D vwCl (mw ad kk ks.1 V76 L) H := hP
                have hD : va_D A (mw ad kk ks.1 V76 L) := hD
                have hMV76 : rgd bM V76 := hMV76
                have ajV76 : agr [(0, 8)] [] V V76 := ajV76
                have agV76 : agr [(0, 7), (0, 8)] [35, 36, 37, 38] V V76 := agV.tr ajV76 (by decide) (by decide)
                have t74 : 1 ≤ (V76 0 8).toInt := t74
                have t75 : (V76 0 8).toInt = (Int32.toInt 5) + 16 * (gT).2.2 ((gs).1 0) := t75
                have r78 : 0 ≤ ((V76 0 8)).toInt ∧ ((V76 0 8)).toInt ≤ 70000 := hMV76 0 8
                refine lv_aload_n hx hb dX12_takeWordOf_85 rfl (lv_at hl 1 rfl) ?_
                refine va_get (D := D) (ci := 12) (v := .int (V76 0 8)) (C := RX12) (T := TX12) (N := 100) hx hb hg inX12 hown hK hP 0 rfl rfl 8 (by decide) (hg _ w1714) (fun _ h9 => h9) rfl dX12_takeWordOf_86 ?_
                refine lv_if_ne (tgt := 133) hx hb dX12_takeWordOf_89 (by decide) (fun c79 => ?_) (fun c79 => ?_)
                · skip
                  have f80 : ((V76 0 8)).toInt ≠ 0 := b_neq rfl (by decide) c79
                  refine lv_aload_n hx hb dX12_takeWordOf_133 rfl (lv_at hl 1 rfl) ?_
                  refine lv_dup hx hb dX12_takeWordOf_134 rfl ?_
                  refine va_get (D := D) (ci := 12) (v := .int (V76 0 7)) (C := RX12) (T := TX12) (N := 100) hx hb hg inX12 hown hK hP 0 rfl rfl 7 (by decide) (hg _ w1713) (fun _ h9 => h9) rfl dX12_takeWordOf_135 ?_
                  refine g_top (v := (V 0 7)) (ajV76 0 7 rfl) ?_
                  refine lv_iconst (v := 1) hx hb dX12_takeWordOf_138 (by decide) ?_
                  refine lv_iadd hx hb dX12_takeWordOf_139 ?_
                  refine lv_topi (fun z81 ez81 => ?_)
                  have hz81 : z81.toInt = ((V 0 7)).toInt + 1 := i_add ez81 rfl (by decide) (by omega)
                  refine va_put (D := D) (ci := 12) (v := .int z81) (ty := tyX12 7) (C := RX12) (T := TX12) (N := 100) hx hb hg inX12 tyX12 tyX12_ok nmX12 hown hK hP hD hS 0 rfl rfl 7 (by decide) (hg _ w1713) (fun _ h9 => h9) rfl (tyX12_ok 7 (by decide)) rfl rfl (Nat.le_of_ble_eq_true rfl) dX12_takeWordOf_140 (fun H locs hP hD hS => ?_)
                  obtain ⟨V82, hV82⟩ : ∃ z, z = up2 V76 0 7 z81 := ⟨_, rfl⟩
                  have hP : va_P D vwCl (mw ad kk ks.1 V82 L) H := by rw [hV82]; exact hP
                  have hD : va_D A (mw ad kk ks.1 V82 L) := by rw [hV82]; exact hD
                  have hMV82 : rgd bM V82 := hMV76.put hV82 (i_full _)
                  have agV82 : agr [(0, 7), (0, 8)] [35, 36, 37, 38] V V82 := agV76.up hV82 rfl
                  refine lv_iload_n hx hb dX12_takeWordOf_143 rfl (lv_at hl 0 rfl) ?_
                  have pq83 : (V82 0 8).toInt = ((V76 0 8)).toInt := congrArg Int32.toInt (up2_k hV82 (by decide))
                  have rw84 : RoV 35 bq V V82 := (fun k hk => ((up2_o hV82 (by decide)).trans ((ajV76 35 k rfl).trans rfl)))
                  have rw85 : RoV 37 bq V V82 := (fun k hk => ((up2_o hV82 (by decide)).trans ((ajV76 37 k rfl).trans rfl)))
                  have rw86 : RoL 36 20 bq L L := (fun k hk => rfl)
                  have rw87 : RoL 38 20 bq L L := (fun k hk => rfl)
                  exact W.iret (v := z19) hx hb hr (fun t ht hW => ⟨⟨z19, (V82, L), rfl, ⟨hMV82, agV82, alL, (show (-1) ≤ z19.toInt ∧ z19.toInt ≤ 19 from by (first | exact om_d0ba04e598f0 rgz19.1 f43 | omega)), (Or.inr ⟨(show 1 ≤ (V82 0 8).toInt from by (first | exact om_e3c391a03e81 t74 pq83 | omega)), fun kk => ((mth_y h10 kk).trans (nbr_5 (by rw [vl3, ← cl0]; exact LF.no lf24 rel.2.2.1.2.2.2.2.1 (by omega)) (by have h9 := RelM.len rel; have h8 : (V 37 (Int32.toNatClampNeg (V 0 12))).toInt = (V 37 bq).toInt := (by rw [cq0]); omega) kk)).trans (fl_eq rfl (show (V82 0 8).toInt = 5 + 16 * gT.2.2 (gs.1 0) from by omega))⟩), rw84, rw85, rw86, rw87⟩, by rw [ht]; exact hP, va_K.moved hW.alike hK, hD⟩, hS.F ht⟩) hS.2.2 dX12_takeWordOf_144
                · skip
                  have f88 : ((V76 0 8)).toInt = 0 := b_eq rfl (by decide) c79
                  exfalso; (first | exact om_09885ab343b9 t74 f88 | omega)
      · skip
        have f89 : z5.toInt = 0 := b_eq rfl (by decide) c11
        exfalso; (first | exact om_495ee03a60ae q9 f89 | omega)
    · skip
      refine lv_if_ne (tgt := 19) hx hb dX12_takeWordOf_11 (by decide) (fun c90 => ?_) (fun c90 => ?_)
      · skip
        have f91 : z5.toInt ≠ 0 := b_neq rfl (by decide) c90
        exfalso; (first | exact om_fb320d7600b7 rgz5.1 q9 f91 | omega)
      · skip
        have f92 : z5.toInt = 0 := b_eq rfl (by decide) c90
        refine lv_aload_n hx hb dX12_takeWordOf_14 rfl (lv_at hl 0 rfl) ?_
        refine lv_iconst (v := 1) hx hb dX12_takeWordOf_15 (by decide) ?_
        have r93 : Int32.toInt 1 = 1 := by decide
        refine gA_void (gA_runV (As := [.int 1]) (rest := []) (ci := 12) (q0 := 0) hx hb hml hown hg hP hD hK hS hA hnw hgk (s_wrongA l D ks H.size ad kk V L 1 (bq) (gn) (gT) (gs) (gl) hMV (by decide) rel) w2035 w2037 w86 w172 w2038 rfl rfl hdV_yX12_wrong ⟨Nat.le_of_ble_eq_true rfl, Nat.le_of_ble_eq_true rfl⟩ rfl hl.1 rfl (Nat.le_of_ble_eq_true rfl) dX12_takeWordOf_16 ⟨Nat.le_of_ble_eq_true rfl, Nat.le_of_ble_eq_true rfl⟩) hP hD hK hS hA (fun u95 H locs w96 hP hD hK hS => ?_)
        obtain ⟨V99, L100⟩ := u95
        obtain ⟨hMV99, ajV99, axL100, t97, t98⟩ := w96
        have axL100 : L = L100 := Eq.symm axL100
        subst axL100
        have hP : va_P D vwCl (mw ad kk ks.1 V99 L) H := hP
        have hD : va_D A (mw ad kk ks.1 V99 L) := hD
        have hMV99 : rgd bM V99 := hMV99
        have ajV99 : agr [(0, 8)] [] V V99 := ajV99
        have agV99 : agr [(0, 7), (0, 8)] [35, 36, 37, 38] V V99 := agV.tr ajV99 (by decide) (by decide)
        have t97 : 1 ≤ (V99 0 8).toInt := t97
        have t98 : (V99 0 8).toInt = (Int32.toInt 1) + 16 * (gT).2.2 ((gs).1 0) := t98
        have r101 : 0 ≤ ((V99 0 8)).toInt ∧ ((V99 0 8)).toInt ≤ 70000 := hMV99 0 8
        refine lv_aload_n hx hb dX12_takeWordOf_19 rfl (lv_at hl 0 rfl) ?_
        refine va_get (D := D) (ci := 12) (v := .int (V99 0 8)) (C := RX12) (T := TX12) (N := 100) hx hb hg inX12 hown hK hP 0 rfl rfl 8 (by decide) (hg _ w1714) (fun _ h9 => h9) rfl dX12_takeWordOf_20 ?_
        refine lv_if_ne (tgt := 56) hx hb dX12_takeWordOf_23 (by decide) (fun c102 => ?_) (fun c102 => ?_)
        · skip
          have f103 : ((V99 0 8)).toInt ≠ 0 := b_neq rfl (by decide) c102
          refine lv_iconst (v := (-1)) hx hb dX12_takeWordOf_56 (by decide) ?_
          refine lv_istore_n (lv' := [(3, .int (-1)), (0, .ref (ad 0)), (1, .ref (ad 38)), (2, .ref (ad 37))]) hx hb dX12_takeWordOf_57 rfl hl (by decide) rfl (fun ls hl => ?_)
          refine lv_aload_n hx hb dX12_takeWordOf_58 rfl (lv_at hl 1 rfl) ?_
          refine va_get (D := D) (ci := 12) (v := .int (V99 0 8)) (C := RX12) (T := TX12) (N := 100) hx hb hg inX12 hown hK hP 0 rfl rfl 8 (by decide) (hg _ w1714) (fun _ h9 => h9) rfl dX12_takeWordOf_59 ?_
          refine lv_if_ne (tgt := 85) hx hb dX12_takeWordOf_62 (by decide) (fun c104 => ?_) (fun c104 => ?_)
          · skip
            have f105 : ((V99 0 8)).toInt ≠ 0 := b_neq rfl (by decide) c104
            refine lv_aload_n hx hb dX12_takeWordOf_85 rfl (lv_at hl 1 rfl) ?_
            refine va_get (D := D) (ci := 12) (v := .int (V99 0 8)) (C := RX12) (T := TX12) (N := 100) hx hb hg inX12 hown hK hP 0 rfl rfl 8 (by decide) (hg _ w1714) (fun _ h9 => h9) rfl dX12_takeWordOf_86 ?_
            refine lv_if_ne (tgt := 133) hx hb dX12_takeWordOf_89 (by decide) (fun c106 => ?_) (fun c106 => ?_)
            · skip
              have f107 : ((V99 0 8)).toInt ≠ 0 := b_neq rfl (by decide) c106
              refine lv_aload_n hx hb dX12_takeWordOf_133 rfl (lv_at hl 1 rfl) ?_
              refine lv_dup hx hb dX12_takeWordOf_134 rfl ?_
              refine va_get (D := D) (ci := 12) (v := .int (V99 0 7)) (C := RX12) (T := TX12) (N := 100) hx hb hg inX12 hown hK hP 0 rfl rfl 7 (by decide) (hg _ w1713) (fun _ h9 => h9) rfl dX12_takeWordOf_135 ?_
              refine g_top (v := (V 0 7)) (ajV99 0 7 rfl) ?_
              refine lv_iconst (v := 1) hx hb dX12_takeWordOf_138 (by decide) ?_
              refine lv_iadd hx hb dX12_takeWordOf_139 ?_
              refine lv_topi (fun z108 ez108 => ?_)
              have hz108 : z108.toInt = ((V 0 7)).toInt + 1 := i_add ez108 rfl (by decide) (by omega)
              refine va_put (D := D) (ci := 12) (v := .int z108) (ty := tyX12 7) (C := RX12) (T := TX12) (N := 100) hx hb hg inX12 tyX12 tyX12_ok nmX12 hown hK hP hD hS 0 rfl rfl 7 (by decide) (hg _ w1713) (fun _ h9 => h9) rfl (tyX12_ok 7 (by decide)) rfl rfl (Nat.le_of_ble_eq_true rfl) dX12_takeWordOf_140 (fun H locs hP hD hS => ?_)
              obtain ⟨V109, hV109⟩ : ∃ z, z = up2 V99 0 7 z108 := ⟨_, rfl⟩
              have hP : va_P D vwCl (mw ad kk ks.1 V109 L) H := by rw [hV109]; exact hP
              have hD : va_D A (mw ad kk ks.1 V109 L) := by rw [hV109]; exact hD
              have hMV109 : rgd bM V109 := hMV99.put hV109 (i_full _)
              have agV109 : agr [(0, 7), (0, 8)] [35, 36, 37, 38] V V109 := agV99.up hV109 rfl
              refine lv_iload_n hx hb dX12_takeWordOf_143 rfl (lv_at hl 0 rfl) ?_
              have pq110 : (V109 0 8).toInt = ((V99 0 8)).toInt := congrArg Int32.toInt (up2_k hV109 (by decide))
              have rw111 : RoV 35 bq V V109 := (fun k hk => ((up2_o hV109 (by decide)).trans ((ajV99 35 k rfl).trans rfl)))
              have rw112 : RoV 37 bq V V109 := (fun k hk => ((up2_o hV109 (by decide)).trans ((ajV99 37 k rfl).trans rfl)))
              have rw113 : RoL 36 20 bq L L := (fun k hk => rfl)
              have rw114 : RoL 38 20 bq L L := (fun k hk => rfl)
              exact W.iret (v := (-1)) hx hb hr (fun t ht hW => ⟨⟨(-1), (V109, L), rfl, ⟨hMV109, agV109, alL, (by decide), (Or.inr ⟨(show 1 ≤ (V109 0 8).toInt from by (first | exact om_e3c391a03e81 t97 pq110 | omega)), fun kk => (mth_1 h10 kk).trans (fl_eq rfl (show (V109 0 8).toInt = 1 + 16 * gT.2.2 (gs.1 0) from by omega))⟩), rw111, rw112, rw113, rw114⟩, by rw [ht]; exact hP, va_K.moved hW.alike hK, hD⟩, hS.F ht⟩) hS.2.2 dX12_takeWordOf_144
            · skip
              have f115 : ((V99 0 8)).toInt = 0 := b_eq rfl (by decide) c106
              exfalso; (first | exact om_b02ddf2a5870 t97 f103 f115 | omega)
          · skip
            have f116 : ((V99 0 8)).toInt = 0 := b_eq rfl (by decide) c104
            exfalso; (first | exact om_b02ddf2a5870 t97 f103 f116 | omega)
        · skip
          have f117 : ((V99 0 8)).toInt = 0 := b_eq rfl (by decide) c102
          exfalso; (first | exact om_09885ab343b9 t97 f117 | omega)
abbrev r_s_takeWordOfB4 : Room := { frames := 0, cells := 0, slots := 0, locals := 0 }
abbrev q_s_takeWordOfB4 (D : va_G) (ks : KS) (ad : Nat → Nat) (kk : Nat → ClassId) (V : Vf) (L : Lf) (A : Nat → Prop) : Array Value → State → Outcome → State → Prop := va_Qi (fun (r : Int32) (u : Vf × Lf) => rgd bM u.1 ∧ agr [(0, 7), (0, 8)] [35, 36, 37, 38] V u.1 ∧ agL [35, 36, 37, 38] L u.2 ∧ ((-1) ≤ r.toInt ∧ r.toInt ≤ (-1)) ∧ ((u.1 0 8).toInt = (V 0 8).toInt) ∧ (NoV 35 V u.1) ∧ (NoV 37 V u.1) ∧ (NoL 36 L u.2) ∧ (NoL 38 L u.2)) (fun u t => gq D A (mw ad kk ks.1 u.1 u.2) (mty kk) t) A
end
section
/-! the content of a BOOK (the reference's cells) beside the machine's numbers -/
def SEm (V : Vf) (q : Nat) (s : St) : Prop := ∀ i, i < (s.2.1 1).length → (V 18 (12 * q + i)).toInt = ((s.1 (10 + i) : Nat) : Int)
def BTm (V : Vf) (x o m : Nat) : Prop := ∀ g, g < 24 → ((V x (24 * o + g)).toInt = 1 ↔ m.testBit g = true)
def TYm (V : Vf) (q : Nat) (s : St) : Prop := ∀ t, t < (s.2.1 0).length → BTm V 15 (24 * q + t) (s.1 (30 + t))
def NEm (V : Vf) (o : Nat) (f : Nat → Nat) (c j : Nat) : Prop := (V 28 (8 * o + j)).toInt = ((f (300 + 32 * c + 4 * j) : Nat) : Int) ∧ ((V 29 (8 * o + j)).toInt = 1 ↔ f (301 + 32 * c + 4 * j) = 1) ∧ ((V 30 (8 * o + j)).toInt = 1 ↔ f (301 + 32 * c + 4 * j) = 2) ∧ (V 31 (8 * o + j)).toInt + 1 = ((f (302 + 32 * c + 4 * j) : Nat) : Int)
def HDn (V : Vf) (o m sc ca ra ws wv : Nat) : Prop := BTm V 21 o m ∧ (V 22 o).toInt = (sc : Int) ∧ (V 23 o).toInt + 1 = (ca : Int) ∧ (V 24 o).toInt = (ra : Int) ∧ (V 25 o).toInt + 1 = (ws : Int) ∧ (ws ≠ 0 → (V 26 o).toInt = (wv : Int))
def COm (V : Vf) (o : Nat) (f : Nat → Nat) (c : Nat) : Prop := HDn V o (f (60 + 8 * c)) (f (61 + 8 * c)) (f (62 + 8 * c)) (f (63 + 8 * c)) (f (64 + 8 * c)) (f (65 + 8 * c)) ∧ (V 27 o).toInt = ((f (66 + 8 * c) : Nat) : Int) ∧ f (66 + 8 * c) ≤ 8 ∧ ∀ j, j < f (66 + 8 * c) → NEm V o f c j
def CNm (V : Vf) (q : Nat) (s : St) : Prop := LNb s ∧ SEm V q s ∧ TYm V q s ∧ ∀ c, c < (s.2.1 2).length → COm V (24 * q + c) s.1 c
def rdm (q n0 n1 n2 x k : Nat) : Prop := (x = 15 ∧ 576 * q ≤ k ∧ k < 576 * q + 24 * n0) ∨ (x = 18 ∧ 12 * q ≤ k ∧ k < 12 * q + n1) ∨ (x = 21 ∧ 576 * q ≤ k ∧ k < 576 * q + 24 * n2) ∨ (22 ≤ x ∧ x ≤ 27 ∧ 24 * q ≤ k ∧ k < 24 * q + n2) ∨ (28 ≤ x ∧ x ≤ 31 ∧ 192 * q ≤ k ∧ k < 192 * q + 8 * n2)
theorem HDn.mv {V W : Vf} {o m sc ca ra ws wv : Nat} (h : HDn V o m sc ca ra ws wv) (e0 : ∀ g, g < 24 → W 21 (24 * o + g) = V 21 (24 * o + g)) (e : ∀ x, 22 ≤ x → x ≤ 27 → W x o = V x o) : HDn W o m sc ca ra ws wv := by
  unfold HDn at h ⊢
  rw [e 22 (by decide) (by decide), e 23 (by decide) (by decide), e 24 (by decide) (by decide), e 25 (by decide) (by decide), e 26 (by decide) (by decide)]
  exact ⟨fun g hg => by rw [e0 g hg]; exact h.1 g hg, h.2⟩
theorem COm.mv {V W : Vf} {o c : Nat} {f g : Nat → Nat} (h : COm V o f c) (e0 : ∀ g, g < 24 → W 21 (24 * o + g) = V 21 (24 * o + g)) (e : ∀ x, 22 ≤ x → x ≤ 27 → W x o = V x o) (e2 : ∀ x j, 28 ≤ x → x ≤ 31 → j < 8 → W x (8 * o + j) = V x (8 * o + j)) (k : ∀ i, 60 ≤ i → g i = f i) : COm W o g c := by
  obtain ⟨h1, h2, h3, h4⟩ := h
  have k6 := k (66 + 8 * c) (by omega)
  refine ⟨?_, by rw [e 27 (by decide) (by decide), k6]; exact h2, by rw [k6]; exact h3, fun j hj => ?_⟩
  · rw [k (60 + 8 * c) (by omega), k (61 + 8 * c) (by omega), k (62 + 8 * c) (by omega), k (63 + 8 * c) (by omega), k (64 + 8 * c) (by omega), k (65 + 8 * c) (by omega)]
    exact h1.mv e0 e
  · rw [k6] at hj
    have z := h4 j hj
    unfold NEm at z ⊢
    rw [e2 28 j (by decide) (by decide) (by omega), e2 29 j (by decide) (by decide) (by omega), e2 30 j (by decide) (by decide) (by omega), e2 31 j (by decide) (by decide) (by omega), k (300 + 32 * c + 4 * j) (by omega), k (301 + 32 * c + 4 * j) (by omega), k (302 + 32 * c + 4 * j) (by omega)]
    exact z
theorem CNm.mv {V W : Vf} {q : Nat} {s s' : St} (h : CNm V q s) (e : ∀ x k, rdm q (s.2.1 0).length (s.2.1 1).length (s.2.1 2).length x k → W x k = V x k) (k : keepC s s') : CNm W q s' := by
  obtain ⟨h0, h1, h2, h3⟩ := h
  unfold CNm LNb SEm TYm
  rw [k.2 0 (by decide), k.2 1 (by decide), k.2 2 (by decide)]
  refine ⟨h0, fun i hi => ?_, fun t ht g hg => ?_, fun c hc => ?_⟩
  · rw [e 18 _ (Or.inr (Or.inl ⟨rfl, by omega, by omega⟩)), k.1 _ (by omega)]
    exact h1 i hi
  · rw [e 15 _ (Or.inl ⟨rfl, by omega, by omega⟩), k.1 _ (by omega)]
    exact h2 t ht g hg
  · exact (h3 c hc).mv (fun g hg => e 21 _ (Or.inr (Or.inr (Or.inl ⟨rfl, by omega, by omega⟩)))) (fun x a1 a2 => e x _ (Or.inr (Or.inr (Or.inr (Or.inl ⟨a1, a2, by omega, by omega⟩))))) (fun x j a1 a2 hj => e x _ (Or.inr (Or.inr (Or.inr (Or.inr ⟨a1, a2, by omega, by omega⟩))))) (fun i hi => k.1 i (by omega))
def okKm (fs : List (Nat × Nat)) (cs : List Nat) : Bool := cs.all (fun c => !([15, 18, 21, 22, 23, 24, 25, 26, 27, 28, 29, 30, 31].contains c)) && fs.all (fun x => !(([] : List (Nat × Nat)).contains x) && decide (x.1 ≤ 0))
theorem rdm.in {q n0 n1 n2 x k : Nat} (h : rdm q n0 n1 n2 x k) : [15, 18, 21, 22, 23, 24, 25, 26, 27, 28, 29, 30, 31].contains x = true ∧ 0 < x := by
  have z : x = 15 ∨ x = 18 ∨ x = 21 ∨ x = 22 ∨ x = 23 ∨ x = 24 ∨ x = 25 ∨ x = 26 ∨ x = 27 ∨ x = 28 ∨ x = 29 ∨ x = 30 ∨ x = 31 := by
    unfold rdm at h
    omega
  rcases z with z | z | z | z | z | z | z | z | z | z | z | z | z <;> (subst z; exact ⟨by decide, by decide⟩)
theorem CNm.ag {V W : Vf} {q : Nat} {s s' : St} {fs : List (Nat × Nat)} {cs : List Nat} (h : CNm V q s) (a : agr fs cs V W) (o : okKm fs cs = true) (k : keepC s s') : CNm W q s' :=
  h.mv (fun x i z => okm_use a o z.in.1 (Or.inl z.in.2)) k
theorem CNm.up {V W : Vf} {q c p : Nat} {v : Int32} {s : St} (h : CNm V q s) (e : W = up2 V c p v) (hp : ¬ rdm q (s.2.1 0).length (s.2.1 1).length (s.2.1 2).length c p) : CNm W q s :=
  h.mv (fun x k z => by rw [e]; exact up2_pl (fun y => hp (by rw [y.1, y.2] at z; exact z))) keepC.rf
/-- a setting more -/
theorem CNm.se {V : Vf} {q v : Nat} {s : St} {w : Int64} (h : CNm V q s) (hx : (V 18 (12 * q + (s.2.1 1).length)).toInt = (v : Int)) (hl : (s.2.1 1).length < 12) : CNm V q (seS s w v) := by
  obtain ⟨h0, h1, h2, h3⟩ := h
  have l0 : ((seS s w v).2.1 0) = s.2.1 0 := (show upB s.2.1 1 w 0 = s.2.1 0 from lenB_o (by decide))
  have l1 : ((seS s w v).2.1 1).length = (s.2.1 1).length + 1 := (show (upB s.2.1 1 w 1).length = _ from lenB_s _ _ _)
  have l2 : ((seS s w v).2.1 2) = s.2.1 2 := (show upB s.2.1 1 w 2 = s.2.1 2 from lenB_o (by decide))
  have n : ∀ i, i ≠ 10 + (s.2.1 1).length → (seS s w v).1 i = s.1 i := fun i hi => upN_o _ _ _ hi
  have m : (seS s w v).1 (10 + (s.2.1 1).length) = v := upN_s _ _ _
  unfold LNb at h0
  unfold CNm LNb SEm TYm
  rw [l0, l1, l2]
  refine ⟨by omega, fun i hi => ?_, fun t ht => ?_, fun c hc => ?_⟩
  · by_cases c : i = (s.2.1 1).length
    · subst c
      rw [m]
      exact hx
    · rw [n _ (by omega)]
      exact h1 i (by omega)
  · rw [n _ (by omega)]
    exact h2 t ht
  · exact (h3 c hc).mv (fun g hg => rfl) (fun x a1 a2 => rfl) (fun x j a1 a2 hj => rfl) (fun i hi => n i (by omega))
/-- a type more -/
theorem CNm.ty {V : Vf} {q : Nat} {s : St} {w : Int64} {l : List Nat} (h : CNm V q s) (hx : BTm V 15 (24 * q + (s.2.1 0).length) (msk s.1 l ||| 2 ^ (s.2.1 0).length)) (hl : (s.2.1 0).length < 24) : CNm V q (tyS s w l) := by
  obtain ⟨h0, h1, h2, h3⟩ := h
  have l0 : ((tyS s w l).2.1 0).length = (s.2.1 0).length + 1 := (show (upB s.2.1 0 w 0).length = _ from lenB_s _ _ _)
  have l1 : ((tyS s w l).2.1 1) = s.2.1 1 := (show upB s.2.1 0 w 1 = s.2.1 1 from lenB_o (by decide))
  have l2 : ((tyS s w l).2.1 2) = s.2.1 2 := (show upB s.2.1 0 w 2 = s.2.1 2 from lenB_o (by decide))
  have n : ∀ i, i ≠ 30 + (s.2.1 0).length → (tyS s w l).1 i = s.1 i := fun i hi => upN_o _ _ _ hi
  have m : (tyS s w l).1 (30 + (s.2.1 0).length) = msk s.1 l ||| 2 ^ (s.2.1 0).length := upN_s _ _ _
  unfold LNb at h0
  unfold CNm LNb SEm TYm
  rw [l0, l1, l2]
  refine ⟨by omega, fun i hi => ?_, fun t ht => ?_, fun c hc => ?_⟩
  · rw [n _ (by omega)]
    exact h1 i hi
  · by_cases c : t = (s.2.1 0).length
    · subst c
      rw [m]
      exact hx
    · rw [n _ (by omega)]
      exact h2 t (by omega)
  · exact (h3 c hc).mv (fun g hg => rfl) (fun x a1 a2 => rfl) (fun x j a1 a2 hj => rfl) (fun i hi => n i (by omega))
/-- a component more -/
theorem CNm.nm {V : Vf} {q o m : Nat} {sc : Int} {ca ra ws wv : Nat} {s : St} {w : Int64} (h : CNm V q s) (ho : o = 24 * q + (s.2.1 2).length) (hd : HDn V o m sc.toNat ca ra ws wv) (n0 : (V 27 o).toInt = 0) (hl : (s.2.1 2).length < 24) : CNm V q (nmS s m sc w [wv, ws, ra, ca]) := by
  obtain ⟨h0, h1, h2, h3⟩ := h
  have l0 : ((nmS s m sc w [wv, ws, ra, ca]).2.1 0) = s.2.1 0 := (show upB s.2.1 2 w 0 = s.2.1 0 from lenB_o (by decide))
  have l1 : ((nmS s m sc w [wv, ws, ra, ca]).2.1 1) = s.2.1 1 := (show upB s.2.1 2 w 1 = s.2.1 1 from lenB_o (by decide))
  have l2 : ((nmS s m sc w [wv, ws, ra, ca]).2.1 2).length = (s.2.1 2).length + 1 := (show (upB s.2.1 2 w 2).length = _ from lenB_s _ _ _)
  have n : ∀ i, i < 60 + 8 * (s.2.1 2).length ∨ 68 + 8 * (s.2.1 2).length ≤ i → (nmS s m sc w [wv, ws, ra, ca]).1 i = s.1 i := fun i hi => hdr_o hi
  have qq : ∀ r, r < 8 → (nmS s m sc w [wv, ws, ra, ca]).1 (60 + 8 * (s.2.1 2).length + r) = hvl m sc.toNat [wv, ws, ra, ca] r := fun r hr => hdr_i hr
  unfold LNb at h0
  unfold CNm LNb SEm TYm
  rw [l0, l1, l2]
  refine ⟨by omega, fun i hi => ?_, fun t ht => ?_, fun c hc => ?_⟩
  · rw [n _ (by omega)]
    exact h1 i hi
  · rw [n _ (by omega)]
    exact h2 t ht
  · by_cases e : c = (s.2.1 2).length
    · subst e
      have q0 := qq 0 (by decide)
      have q1 := qq 1 (by decide)
      have q2 := qq 2 (by decide)
      have q3 := qq 3 (by decide)
      have q4 := qq 4 (by decide)
      have q5 := qq 5 (by decide)
      have q6 := qq 6 (by decide)
      unfold COm
      rw [show 60 + 8 * (s.2.1 2).length = 60 + 8 * (s.2.1 2).length + 0 from rfl, q0, show 61 + 8 * (s.2.1 2).length = 60 + 8 * (s.2.1 2).length + 1 from by omega, q1, show 62 + 8 * (s.2.1 2).length = 60 + 8 * (s.2.1 2).length + 2 from by omega, q2, show 63 + 8 * (s.2.1 2).length = 60 + 8 * (s.2.1 2).length + 3 from by omega, q3, show 64 + 8 * (s.2.1 2).length = 60 + 8 * (s.2.1 2).length + 4 from by omega, q4, show 65 + 8 * (s.2.1 2).length = 60 + 8 * (s.2.1 2).length + 5 from by omega, q5, show 66 + 8 * (s.2.1 2).length = 60 + 8 * (s.2.1 2).length + 6 from by omega, q6, ← ho]
      exact ⟨hd, n0, Nat.zero_le _, fun j hj => absurd hj (Nat.not_lt_zero _)⟩
    · have z := h3 c (by omega)
      have nn : ∀ i, (60 ≤ i ∧ i < 60 + 8 * (s.2.1 2).length ∨ 68 + 8 * (s.2.1 2).length ≤ i) → (nmS s m sc w [wv, ws, ra, ca]).1 i = s.1 i := fun i hi => n i (by omega)
      unfold COm at z ⊢
      rw [n _ (by omega), n _ (by omega), n _ (by omega), n _ (by omega), n _ (by omega), n _ (by omega), n _ (by omega)]
      refine ⟨z.1, z.2.1, z.2.2.1, fun j hj => ?_⟩
      have y := z.2.2.2 j hj
      have y3 := z.2.2.1
      unfold NEm at y ⊢
      rw [n (300 + 32 * c + 4 * j) (by omega), n (301 + 32 * c + 4 * j) (by omega), n (302 + 32 * c + 4 * j) (by omega)]
      exact y
/-- a need more -/
theorem CNm.nd {V W : Vf} {q o f ca : Nat} {a : Int} {s : St} (h : CNm V q s) (ho : o + 1 = 24 * q + (s.2.1 2).length) (hb : 24 * q ≤ o) (h1 : (V 27 o).toInt = ((s.1 1 : Nat) : Int)) (h8 : s.1 1 < 8) (e45 : W 15 = V 15) (e46 : W 18 = V 18) (e50 : ∀ x, 21 ≤ x → x ≤ 26 → W x = V x) (e27 : ∀ k, k ≠ o → W 27 k = V 27 k) (n27 : (W 27 o).toInt = (V 27 o).toInt + 1) (e58 : ∀ x k, 28 ≤ x → x ≤ 31 → k ≠ 8 * o + s.1 1 → W x k = V x k) (c28 : (W 28 (8 * o + s.1 1)).toInt = (f : Int)) (c29 : (W 29 (8 * o + s.1 1)).toInt = 1 ↔ a.toNat = 1) (c30 : (W 30 (8 * o + s.1 1)).toInt = 1 ↔ a.toNat = 2) (c31 : (W 31 (8 * o + s.1 1)).toInt + 1 = (ca : Int)) : CNm W q (ndS s a f ca) := by
  obtain ⟨h0, hs, ht, hc⟩ := h
  have l24 := h0.2.2
  obtain ⟨c0, ec⟩ : ∃ c0, c0 + 1 = (s.2.1 2).length := ⟨(s.2.1 2).length - 1, by omega⟩
  have ec2 : (s.2.1 2).length - 1 = c0 := by omega
  have eo : o = 24 * q + c0 := by omega
  have e66 : s.1 (66 + 8 * c0) = s.1 1 := by
    have z := (hc c0 (by omega)).2.1
    rw [← eo] at z
    omega
  have num : ∀ i, (ndS s a f ca).1 i = ndf s.1 c0 a.toNat f ca i := fun i => by
    show ndf s.1 ((s.2.1 2).length - 1) a.toNat f ca i = _
    rw [ec2]
  refine ⟨h0, fun i hi => ?_, fun t ht' => ?_, fun c hc' => ?_⟩
  · have l1 : i < 12 := Nat.lt_of_lt_of_le hi h0.2.1
    rw [num, ndf_lo (by omega) (by omega), e46]
    exact hs i hi
  · have l1 : t < 24 := Nat.lt_of_lt_of_le ht' h0.1
    rw [num, ndf_lo (by omega) (by omega)]
    unfold BTm
    rw [e45]
    exact ht t ht'
  · have hc2 : c < (s.2.1 2).length := hc'
    have z := hc c hc2
    have hd : HDn W (24 * q + c) (s.1 (60 + 8 * c)) (s.1 (61 + 8 * c)) (s.1 (62 + 8 * c)) (s.1 (63 + 8 * c)) (s.1 (64 + 8 * c)) (s.1 (65 + 8 * c)) := by
      have z1 := z.1
      unfold HDn BTm at z1 ⊢
      rw [e50 21 (by decide) (by decide), e50 22 (by decide) (by decide), e50 23 (by decide) (by decide), e50 24 (by decide) (by decide), e50 25 (by decide) (by decide), e50 26 (by decide) (by decide)]
      exact z1
    have hn : ∀ r, r < 6 → (ndS s a f ca).1 (60 + r + 8 * c) = s.1 (60 + r + 8 * c) := fun r hr => by
      rw [num, ndf_h (by omega) (by omega) (by omega)]
    have g0 : (ndS s a f ca).1 (60 + 8 * c) = s.1 (60 + 8 * c) := hn 0 (by decide)
    have g1 : (ndS s a f ca).1 (61 + 8 * c) = s.1 (61 + 8 * c) := hn 1 (by decide)
    have g2 : (ndS s a f ca).1 (62 + 8 * c) = s.1 (62 + 8 * c) := hn 2 (by decide)
    have g3 : (ndS s a f ca).1 (63 + 8 * c) = s.1 (63 + 8 * c) := hn 3 (by decide)
    have g4 : (ndS s a f ca).1 (64 + 8 * c) = s.1 (64 + 8 * c) := hn 4 (by decide)
    have g5 : (ndS s a f ca).1 (65 + 8 * c) = s.1 (65 + 8 * c) := hn 5 (by decide)
    unfold COm
    rw [g0, g1, g2, g3, g4, g5]
    refine ⟨hd, ?_⟩
    by_cases qc : c = c0
    · subst qc
      rw [num, ndf_n, ← eo]
      refine ⟨by rw [n27, h1]; omega, by omega, fun j hj => ?_⟩
      unfold NEm
      by_cases d : j = s.1 1
      · subst d
        rw [num, num, num, ndf_t (by omega), ndf_k (by omega), ndf_w (by omega)]
        exact ⟨c28, c29, c30, c31⟩
      · have y := z.2.2.2 j (by omega)
        unfold NEm at y
        rw [← eo] at y
        rw [num (300 + 32 * c + 4 * j), num (301 + 32 * c + 4 * j), num (302 + 32 * c + 4 * j), ndf_o (i := 300 + 32 * c + 4 * j) (by omega) (by omega) (by omega), ndf_o (i := 301 + 32 * c + 4 * j) (by omega) (by omega) (by omega), ndf_o (i := 302 + 32 * c + 4 * j) (by omega) (by omega) (by omega), e58 28 _ (by decide) (by decide) (by omega), e58 29 _ (by decide) (by decide) (by omega), e58 30 _ (by decide) (by decide) (by omega), e58 31 _ (by decide) (by decide) (by omega)]
        exact y
    · have k6 : (ndS s a f ca).1 (66 + 8 * c) = s.1 (66 + 8 * c) := by
        rw [num, ndf_h (by omega) (by omega) (by omega)]
      rw [k6, e27 _ (by omega)]
      refine ⟨z.2.1, z.2.2.1, fun j hj => ?_⟩
      have y := z.2.2.2 j hj
      have y3 := z.2.2.1
      unfold NEm at y ⊢
      rw [num (300 + 32 * c + 4 * j), num (301 + 32 * c + 4 * j), num (302 + 32 * c + 4 * j), ndf_o (i := 300 + 32 * c + 4 * j) (by omega) (by omega) (by omega), ndf_o (i := 301 + 32 * c + 4 * j) (by omega) (by omega) (by omega), ndf_o (i := 302 + 32 * c + 4 * j) (by omega) (by omega) (by omega), e58 28 _ (by decide) (by decide) (by omega), e58 29 _ (by decide) (by decide) (by omega), e58 30 _ (by decide) (by decide) (by omega), e58 31 _ (by decide) (by decide) (by omega)]
      exact y
theorem CNm.z {V : Vf} {q : Nat} : CNm V q St0 := ⟨⟨Nat.zero_le _, Nat.zero_le _, Nat.zero_le _⟩, fun i h => absurd h (Nat.not_lt_zero _), fun i h => absurd h (Nat.not_lt_zero _), fun i h => absurd h (Nat.not_lt_zero _)⟩
theorem RelM.nu {V : Vf} {L : Lf} {q n : Nat} {T : Tk} {s s' : St} {l2 : List Int64} (h : RelM V L q n T s l2) (e : s'.1 0 = s.1 0) (e2 : s'.2 = s.2) : RelM V L q n T s' l2 := by
  obtain ⟨a, c⟩ := s
  obtain ⟨a', c'⟩ := s'
  have e3 : c' = c := e2
  subst e3
  refine ⟨?_, h.2.1, h.2.2.1, h.2.2.2⟩
  have z := h.1
  unfold HDm at z ⊢
  rw [e]
  exact z
end
section
theorem Km_mthN {T : Tk} {s : St} {F : Int} (h : ∀ kk, mthW T s 3 kk = Cbad F) (kk : Nat × St → Cf) : mthN T s kk = Cbad F := by
  have hn : ¬ (T.1 (s.1 0) = 3 ∧ mTold s (T.2.1 (s.1 0)) = true) := by
    rintro ⟨a, b⟩
    have z := h (fun _ => Cdone s)
    rw [mth_y a] at z
    unfold mTold at b
    unfold nbrW at z
    cases e : fndI (s.2.1 3) (T.2.1 (s.1 0)) with
    | none => rw [e] at b; exact absurd (show false = true from b) (by decide)
    | some f => rw [e] at z; exact absurd z (fun q => by cases q)
  exact (mthN_y hn kk).trans (h kk)
/-! a list of types, E's (reference) -/
/-- a row's bits: those that were, and those of a list of types -/
def UNm (x o : Nat) (V W : Vf) (f : Nat → Nat) (l : List Nat) : Prop := ∀ g, g < 24 → ((W x (24 * o + g)).toInt = 1 ↔ ((V x (24 * o + g)).toInt = 1 ∨ (msk f l).testBit g = true))
def UNx (x o : Nat) (V W : Vf) (f : Nat → Nat) (m : Int) (l l' : List Nat) : Prop := ∀ g : Nat, g < 24 → ((W x (24 * o + g)).toInt = 1 ↔ ((V x (24 * o + g)).toInt = 1 ∨ (msk f (if (g : Int) < m then l else l')).testBit g = true))
theorem UNm.z {x o : Nat} {V : Vf} {f : Nat → Nat} : UNm x o V V f [] := fun g _ => by
  rw [show (msk f []).testBit g = false from Nat.zero_testBit g]
  exact ⟨Or.inl, fun h => h.elim id (fun q => by cases q)⟩
theorem UNm.ag {x o : Nat} {V W W' : Vf} {f : Nat → Nat} {l : List Nat} (h : UNm x o V W f l) (e : W' x = W x) : UNm x o V W' f l := by
  unfold UNm at h ⊢
  rw [e]
  exact h
theorem UNx.z {x o : Nat} {V W W' : Vf} {f : Nat → Nat} {m : Int} {l l' : List Nat} (h : UNm x o V W f l') (e : W' x = W x) (hm : m ≤ 0) : UNx x o V W' f m l l' := fun g hg => by
  rw [e, if_neg (by omega)]
  exact h g hg
theorem UNx.all {x o : Nat} {V W : Vf} {f : Nat → Nat} {m : Int} {l l' : List Nat} (h : UNx x o V W f m l l') (hm : 24 ≤ m) : UNm x o V W f l := fun g hg => by
  have z := h g hg
  rw [if_pos (by omega)] at z
  exact z
theorem UNx.st {x o u t y p : Nat} {V W W' : Vf} {f : Nat → Nat} {m m' : Int} {v : Int32} {l' : List Nat} (h : UNx x o V W f m (t :: l') l') (e : W' = up2 W x p v) (hp : p = 24 * o + y) (hy : y < 24) (em : m = (y : Int)) (em' : m' = (y : Int) + 1) (hb : BTm W 15 u (f (30 + t))) (hv : v.toInt = 1 ↔ ((W x (24 * o + y)).toInt = 1 ∨ (W 15 (24 * u + y)).toInt = 1)) : UNx x o V W' f m' (t :: l') l' := fun g hg => by
  have z := h g hg
  by_cases c : g = y
  · subst c
    rw [if_neg (by omega)] at z
    rw [if_pos (by omega), ← hp, up2_s e, hv, z, hb g hg, msk_cons, Nat.testBit_or, Bool.or_eq_true, hp]
    constructor
    · rintro ((a | a) | a)
      · exact Or.inl a
      · exact Or.inr (Or.inr a)
      · exact Or.inr (Or.inl a)
    · rintro (a | a | a)
      · exact Or.inl (Or.inl a)
      · exact Or.inr a
      · exact Or.inl (Or.inr a)
  · rw [up2_k e (by omega)]
    by_cases d : (g : Int) < m
    · rw [if_pos d] at z
      rw [if_pos (by omega)]
      exact z
    · rw [if_neg d] at z
      rw [if_neg (by omega)]
      exact z
theorem BTm.of {o t : Nat} {V W : Vf} {f : Nat → Nat} {l : List Nat} (h : UNm 15 o V W f l) (b : ∀ g, g < 24 → ((V 15 (24 * o + g)).toInt = 1 ↔ g = t)) : BTm W 15 o (msk f l ||| 2 ^ t) := fun g hg => by
  rw [h g hg, b g hg, Nat.testBit_or, Nat.testBit_two_pow, Bool.or_eq_true, decide_eq_true_iff]
  exact ⟨fun q => q.elim (fun e => Or.inr e.symm) Or.inl, fun q => q.elim Or.inr (fun e => Or.inl e.symm)⟩
theorem BTm.of0 {o : Nat} {V W : Vf} {f : Nat → Nat} {l : List Nat} (h : UNm 21 o V W f l) (b : ∀ g, g < 24 → (V 21 (24 * o + g)).toInt = 0) : BTm W 21 o (msk f l) := fun g hg => by
  rw [h g hg, b g hg]
  exact ⟨fun q => q.elim (fun e => absurd e (by decide)) id, Or.inr⟩
theorem BTm.ag {x o m : Nat} {V W : Vf} (h : BTm V x o m) (e : W x = V x) : BTm W x o m := by
  unfold BTm at h ⊢
  rw [e]
  exact h
def LTI (V0 : Vf) (x o : Nat) (c : Int) (w : Int64) (V : Vf) (L : Lf) (q n : Nat) (T : Tk) (s : St) (l2 : List Int64) (m more : Int) : Prop :=
  ((V 0 8).toInt = 0 ∧ more = 1 ∧ ∃ (s1 : St) (sn : List Nat), (∀ k, Rc T (Crun s (Itypes c w 0 [] :: k)) (Crun s1 (Itypes c w m.toNat sn :: k))) ∧ RelM V L q n T s1 l2 ∧ (keepS s 0 s1 ∧ keepL s s1) ∧ LST V m sn ∧ UNm x o V0 V s.1 sn ∧ CNm V q s) ∨ ((V 0 8).toInt = 0 ∧ more = 0 ∧ ∃ (s1 : St) (sn : List Nat), (∀ k, Rc T (Crun s (Itypes c w 0 [] :: k)) (Crun s1 (ItyD c w sn :: k))) ∧ RelM V L q n T s1 l2 ∧ (keepS s 1 s1 ∧ keepL s s1) ∧ UNm x o V0 V s.1 sn ∧ CNm V q s) ∨ (1 ≤ (V 0 8).toInt ∧ ∀ k, Rc T (Crun s (Itypes c w 0 [] :: k)) (Cbad (V 0 8).toInt))
abbrev RdTm (T : Tk) (s : St) (c : Int) (w : Int64) (flt : Int) (P : St → List Nat → Prop) : Prop := (flt = 0 ∧ ∃ (s' : St) (sn : List Nat), (∀ k, Rc T (Crun s (Itypes c w 0 [] :: k)) (Crun s' (ItyD c w sn :: k))) ∧ P s' sn) ∨ (1 ≤ flt ∧ ∀ k, Rc T (Crun s (Itypes c w 0 [] :: k)) (Cbad flt))
theorem EM.of {V : Vf} {s : St} (h : EM V s) (k : s.1 4 = 0) : 0 ≤ (V 0 51).toInt ∧ (V 27 (Int32.toNatClampNeg (V 0 51))).toInt = ((s.1 1 : Nat) : Int) := ⟨h.1.mpr k, h.2.2 (h.1.mpr k)⟩


abbrev r_s_takeTypesA15 : Room := { frames := 3, cells := 0, slots := 0, locals := 71 }
abbrev q_s_takeTypesA15 (D : va_G) (ks : KS) (ad : Nat → Nat) (kk : Nat → ClassId) (V : Vf) (L : Lf) (p1 : Int32) (bq : Nat) (gn : Nat) (gT : Tk) (gs : St) (gl : List Int64) (gy : Int) (gw : Int64) (go : Nat) (A : Nat → Prop) : Array Value → State → Outcome → State → Prop := va_Qv (fun (u : Vf × Lf) => rgd bM u.1 ∧ agr [(0, 7), (0, 8)] [15, 21, 53] V u.1 ∧ u.2 = L ∧ (RdTm gT gs gy gw (u.1 0 8).toInt (fun s9 sn => RelM u.1 u.2 bq gn gT s9 gl ∧ keepS gs 1 s9 ∧ keepL gs s9 ∧ UNm 15 go V u.1 gs.1 sn ∧ CNm u.1 bq gs))) (fun u t => gq D A (mw ad kk ks.1 u.1 u.2) (mty kk) t) A
set_option maxHeartbeats 4000000 in
set_option maxRecDepth 100000 in
theorem s_takeTypesA15 (l : Launch) (D : va_G) (ks : KS) (sz : Nat) (ad : Nat → Nat) (kk : Nat → ClassId) (V : Vf) (L : Lf) (p1 : Int32) (bq : Nat) (gn : Nat) (gT : Tk) (gs : St) (gl : List Int64) (gy : Int) (gw : Int64) (go : Nat) (hMV : rgd bM V) (rg_p1 : 0 ≤ p1.toInt ∧ p1.toInt ≤ 47) (rel : RelM V L bq gn gT gs gl) (pgo : p1.toInt = (go : Int)) (gfr : go = 24 * bq + (gs.2.1 0).length) (cnm : CNm V bq gs)  : Met l yX12_takeTypes (Cond.code yX12_takeTypes cX12_takeTypes 7 none :: GW) r_s_takeTypesA15 (va_Pc [.ref (ad 0), .ref (ad 15), .int p1] (gp D ks (mw ad kk ks.1 V L) (mty kk) sz)) (q_s_takeTypesA15 D ks ad kk V L p1 bq gn gT gs gl gy gw go (va_A (mw ad kk ks.1 V L) sz)) 0 0 (va_A (mw ad kk ks.1 V L) sz) := by
  refine g_met (q_s_takeTypesA15 D ks ad kk V L p1 bq gn gT gs gl gy gw go) (by decide) (Nat.le_of_ble_eq_true rfl) ?_
  intro p e s m below meth c A ls H locs hx hb hr hml hown hg hlocks hin hnw hgk hP hK hD hS hA hl
  have hown : s.vm.findClass RX12 = some m.cls := hown
  have hl : lv_has ls 7 [(0, .ref (ad 0)), (1, .ref (ad 15)), (2, .int p1)] := hl
  have hP : va_P D vwCl (mw ad kk ks.1 V L) H := hP
  have hD : va_D A (mw ad kk ks.1 V L) := hD
  have hK : va_K D vwCl (mty kk) s := hK
  have agV : agr [(0, 7), (0, 8)] [15, 21, 53] V V := agr.rf
  have rf_p1 := i_full p1
  have rg0 := RelM.rg rel
  have cl0 := RelM.cl rel
  have cq0 := RelM.cq rel
  refine lv_iconst (v := 0) hx hb dX12_takeTypes_0 (by decide) ?_
  refine lv_istore_n (lv' := [(3, .int 0), (0, .ref (ad 0)), (1, .ref (ad 15)), (2, .int p1)]) hx hb dX12_takeTypes_1 rfl hl (by decide) rfl (fun ls hl => ?_)
  refine lv_iconst (v := 1) hx hb dX12_takeTypes_2 (by decide) ?_
  refine lv_istore (lv' := [(4, .int 1), (3, .int 0), (0, .ref (ad 0)), (1, .ref (ad 15)), (2, .int p1)]) hx hb dX12_takeTypes_3 hl (by decide) rfl (fun ls hl => ?_)
  have lp5 : ∀ (fulp5 : Nat) (g4 : Int) (y1 : Int32) (y2 : Int32) (V3 : Vf) (H : Heap) (locs : List Loc) (ls : Array Slot), 0 ≤ y1.toInt ∧ y1.toInt ≤ 1 → 0 ≤ y2.toInt ∧ y2.toInt ≤ 6 → LTI V 15 go gy gw V3 L bq gn gT gs gl y2.toInt y1.toInt → 0 ≤ g4 → y2.toInt ≤ 6 → Imp ((V3 0 8).toInt = 0) (7 - y2.toInt < g4) → (V3 0 12).toInt = (V 0 12).toInt → g4 < (fulp5 : Int) → agr [(0, 7), (0, 8)] [15, 21, 53] V V3 → rgd bM V3 → va_P D vwCl (mw ad kk ks.1 V3 L) H → va_D A (mw ad kk ks.1 V3 L) → va_S A s.heap H locs → lv_has ls 7 [(4, .int y1), (3, .int y2), (0, .ref (ad 0)), (1, .ref (ad 15)), (2, .int p1)] → W p l e r_s_takeTypesA15 s m ([.ref (ad 0), .ref (ad 15), .int p1] : List Value).toArray below meth c H locs 0 0 (MQ below (q_s_takeTypesA15 D ks ad kk V L p1 bq gn gT gs gl gy gw go A) ([.ref (ad 0), .ref (ad 15), .int p1] : List Value).toArray s 0 0 A) (F0 m 5 ls []) := by
    intro fulp5
    induction fulp5 with
    | zero =>
      intro g4 y1 y2 V3 H locs ls klp5_0 klp5_1 xlp5_0 xlp5_1 xlp5_2 xlp5_3 xlp5_4 hn ajV3 hMV3 hP hD hS hl
      exfalso; (first | exact om_21e89d3d06d7 xlp5_1 hn | omega)
    | succ fulp5 ihlp5 =>
      intro g4 y1 y2 V3 H locs ls klp5_0 klp5_1 xlp5_0 xlp5_1 xlp5_2 xlp5_3 xlp5_4 hn ajV3 hMV3 hP hD hS hl
      have agV3 : agr [(0, 7), (0, 8)] [15, 21, 53] V V3 := agV.tr ajV3 (by decide) (by decide)
      have r6 : 0 ≤ ((V3 0 8)).toInt ∧ ((V3 0 8)).toInt ≤ 70000 := hMV3 0 8
      have pq7 : (V3 0 12).toInt = ((V 0 12)).toInt := congrArg Int32.toInt (ajV3 0 12 rfl)
      have r8 : 0 ≤ ((V 0 12)).toInt ∧ ((V 0 12)).toInt ≤ 1 := hMV 0 12
      refine lv_iload hx hb dX12_takeTypes_5 (lv_at hl 0 rfl) ?_
      rcases xlp5_0 with ⟨f8, m8, s1, sn, hq, rq, ⟨kq, ll9⟩, lq, uq, cq⟩ | ⟨f8, m8, s1, sn, hq, rq, ⟨kq, ll9⟩, uq, cq⟩ | ⟨f8, hq⟩
      · skip
        have fz9 := RelM.rg rq
        refine lv_if_eq (tgt := 195) hx hb dX12_takeTypes_7 (by decide) (fun c10 => ?_) (fun c10 => ?_)
        · skip
          have f11 : y1.toInt = 0 := b_eq rfl (by decide) c10
          exfalso; first | omega | ((try (have i_xlp5_3 := Imp.go xlp5_3 (by omega))); omega)
        · skip
          have f12 : y1.toInt ≠ 0 := b_neq rfl (by decide) c10
          refine lv_aload_n hx hb dX12_takeTypes_10 rfl (lv_at hl 2 rfl) ?_
          refine va_get (D := D) (ci := 12) (v := .int (V3 0 8)) (C := RX12) (T := TX12) (N := 100) hx hb hg inX12 hown hK hP 0 rfl rfl 8 (by decide) (hg _ w1714) (fun _ h9 => h9) rfl dX12_takeTypes_11 ?_
          refine lv_if_ne (tgt := 195) hx hb dX12_takeTypes_14 (by decide) (fun c13 => ?_) (fun c13 => ?_)
          · skip
            have f14 : ((V3 0 8)).toInt ≠ 0 := b_neq rfl (by decide) c13
            exfalso; first | omega | ((try (have i_xlp5_3 := Imp.go xlp5_3 (by omega))); omega)
          · skip
            have f15 : ((V3 0 8)).toInt = 0 := b_eq rfl (by decide) c13
            refine lv_aload_n hx hb dX12_takeTypes_17 rfl (lv_at hl 2 rfl) ?_
            refine gA_int (gA_runV (As := []) (rest := []) (ci := 12) (q0 := 0) hx hb hml hown hg hP hD hK hS hA hnw hgk (s_takeTypeA l D ks H.size ad kk V3 L (bq) (gn) (gT) (s1) (gl) hMV3 rq) w2059 w2061 w92 w172 w2062 rfl rfl hdV_yX12_takeType ⟨Nat.le_of_ble_eq_true rfl, Nat.le_of_ble_eq_true rfl⟩ rfl hl.1 rfl (Nat.le_of_ble_eq_true rfl) dX12_takeTypes_18 ⟨Nat.le_of_ble_eq_true rfl, Nat.le_of_ble_eq_true rfl⟩) hP hD hK hS hA (fun z16 u17 H locs w18 hP hD hK hS => ?_)
            obtain ⟨V20, L21⟩ := u17
            obtain ⟨hMV20, ajV20, axL21, rgz16, t19⟩ := w18
            have axL21 : L = L21 := Eq.symm axL21
            subst axL21
            have hP : va_P D vwCl (mw ad kk ks.1 V20 L) H := hP
            have hD : va_D A (mw ad kk ks.1 V20 L) := hD
            have hMV20 : rgd bM V20 := hMV20
            have ajV20 : agr [(0, 7), (0, 8)] [] V3 V20 := ajV20
            have agV20 : agr [(0, 7), (0, 8)] [15, 21, 53] V V20 := agV3.tr ajV20 (by decide) (by decide)
            have rgz16 : (-1) ≤ z16.toInt ∧ z16.toInt ≤ 23 := rgz16
            have t19 : KmN (look (gT) (s1) ((s1).2.1 0)) (V20 0 8).toInt (fun f9 => RelM V20 L (bq) (gn) (gT) (nx (s1) 1) (gl) ∧ z16.toInt = ((f9 : Nat) : Int) ∧ f9 < 24) := t19
            rcases t19 with ⟨q22, fx23, h24, rl25, hf26, hb27⟩ | ⟨q22, h24⟩
            · skip
              have ps28 : (nx s1 1).1 0 = s1.1 0 + 1 := rfl
              have fz29 := RelM.rg rl25
              have r30 : 0 ≤ ((V20 0 8)).toInt ∧ ((V20 0 8)).toInt ≤ 70000 := hMV20 0 8
              refine lv_istore (lv' := [(5, .int z16), (4, .int y1), (3, .int y2), (0, .ref (ad 0)), (1, .ref (ad 15)), (2, .int p1)]) hx hb dX12_takeTypes_21 hl (by decide) rfl (fun ls hl => ?_)
              refine lv_aload_n hx hb dX12_takeTypes_23 rfl (lv_at hl 3 rfl) ?_
              refine lv_dup hx hb dX12_takeTypes_24 rfl ?_
              refine va_get (D := D) (ci := 12) (v := .int (V20 0 7)) (C := RX12) (T := TX12) (N := 100) hx hb hg inX12 hown hK hP 0 rfl rfl 7 (by decide) (hg _ w1713) (fun _ h9 => h9) rfl dX12_takeTypes_25 ?_
              refine lv_iconst (v := 1) hx hb dX12_takeTypes_28 (by decide) ?_
              refine lv_isub hx hb dX12_takeTypes_29 ?_
              refine lv_topi (fun z31 ez31 => ?_)
              have hz31 : z31.toInt = ((V20 0 7)).toInt - 1 := i_sub ez31 rfl (by decide) (by omega)
              refine va_put (D := D) (ci := 12) (v := .int z31) (ty := tyX12 7) (C := RX12) (T := TX12) (N := 100) hx hb hg inX12 tyX12 tyX12_ok nmX12 hown hK hP hD hS 0 rfl rfl 7 (by decide) (hg _ w1713) (fun _ h9 => h9) rfl (tyX12_ok 7 (by decide)) rfl rfl (Nat.le_of_ble_eq_true rfl) dX12_takeTypes_30 (fun H locs hP hD hS => ?_)
              obtain ⟨V32, hV32⟩ : ∃ z, z = up2 V20 0 7 z31 := ⟨_, rfl⟩
              have hP : va_P D vwCl (mw ad kk ks.1 V32 L) H := by rw [hV32]; exact hP
              have hD : va_D A (mw ad kk ks.1 V32 L) := by rw [hV32]; exact hD
              have hMV32 : rgd bM V32 := hMV20.put hV32 (i_full _)
              have agV32 : agr [(0, 7), (0, 8)] [15, 21, 53] V V32 := agV20.up hV32 rfl
              have pq33 : (V32 0 8).toInt = ((V20 0 8)).toInt := congrArg Int32.toInt (up2_k hV32 (by decide))
              have rz34 : -5 ≤ z31.toInt ∧ z31.toInt ≤ 5000 := by first | omega | ((try (have i_xlp5_3 := Imp.go xlp5_3 (by omega))); omega)
              have rl35 : RelM V32 L bq gn gT s1 gl := RelM.v8 rl25 hV32 (by (first | exact om_a53909a885f5 hz31 | omega))
              have fz36 := RelM.rg rl35
              have pq37 : (V32 0 7).toInt = z31.toInt := congrArg Int32.toInt (up2_s hV32)
              refine lv_iconst (v := 0) hx hb dX12_takeTypes_33 (by decide) ?_
              refine lv_istore (lv' := [(6, .int 0), (5, .int z16), (4, .int y1), (3, .int y2), (0, .ref (ad 0)), (1, .ref (ad 15)), (2, .int p1)]) hx hb dX12_takeTypes_34 hl (by decide) rfl (fun ls hl => ?_)
              have lp40 : ∀ (fulp40 : Nat) (y38 : Int32) (V39 : Vf) (H : Heap) (locs : List Loc) (ls : Array Slot), 0 ≤ y38.toInt ∧ y38.toInt ≤ 6 → (((V39 0 8).toInt = 0 ∧ RelM V39 L bq gn gT s1 gl ∧ (∀ k : Nat, (k : Int) < y38.toInt → (V39 53 k).toInt ≠ z16.toInt)) ∨ (1 ≤ (V39 0 8).toInt ∧ ∀ k, Rc gT (Crun gs (Itypes gy gw 0 [] :: k)) (Cbad (V39 0 8).toInt))) → y38.toInt ≤ y2.toInt → Imp (1 ≤ (V32 0 8).toInt) ((V39 0 8).toInt = (V32 0 8).toInt) → y2.toInt - y38.toInt < (fulp40 : Int) → agr [(0, 8)] [] V32 V39 → rgd bM V39 → va_P D vwCl (mw ad kk ks.1 V39 L) H → va_D A (mw ad kk ks.1 V39 L) → va_S A s.heap H locs → lv_has ls 7 [(6, .int y38), (5, .int z16), (4, .int y1), (3, .int y2), (0, .ref (ad 0)), (1, .ref (ad 15)), (2, .int p1)] → W p l e r_s_takeTypesA15 s m ([.ref (ad 0), .ref (ad 15), .int p1] : List Value).toArray below meth c H locs 0 0 (MQ below (q_s_takeTypesA15 D ks ad kk V L p1 bq gn gT gs gl gy gw go A) ([.ref (ad 0), .ref (ad 15), .int p1] : List Value).toArray s 0 0 A) (F0 m 36 ls []) := by
                (try clear fz36); (try clear rl35); (try clear fz29); (try clear ps28); (try clear fz9)
                intro fulp40
                induction fulp40 with
                | zero =>
                  intro y38 V39 H locs ls klp40_0 xlp40_0 xlp40_1 xlp40_2 hn ajV39 hMV39 hP hD hS hl
                  exfalso; (first | exact om_4634b1278845 xlp40_1 hn | omega)
                | succ fulp40 ihlp40 =>
                  intro y38 V39 H locs ls klp40_0 xlp40_0 xlp40_1 xlp40_2 hn ajV39 hMV39 hP hD hS hl
                  have agV39 : agr [(0, 7), (0, 8)] [15, 21, 53] V V39 := agV32.tr ajV39 (by decide) (by decide)
                  refine lv_iload hx hb dX12_takeTypes_36 (lv_at hl 0 rfl) ?_
                  rcases xlp40_0 with ⟨f7, ri, ni⟩ | ⟨f7, hi⟩
                  · skip
                    have fz41 := RelM.rg ri
                    have r42 : 0 ≤ ((V39 0 8)).toInt ∧ ((V39 0 8)).toInt ≤ 70000 := hMV39 0 8
                    have pq43 : (V39 0 7).toInt = z31.toInt := congrArg Int32.toInt ((ajV39 0 7 rfl).trans (up2_s hV32))
                    refine lv_iload_n hx hb dX12_takeTypes_38 rfl (lv_at hl 3 rfl) ?_
                    refine lv_icmp_ge (tgt := 72) hx hb dX12_takeTypes_39 (by decide) (fun c44 => ?_) (fun c44 => ?_)
                    · skip
                      have f45 : y2.toInt ≤ y38.toInt := b_le rfl rfl c44
                      refine lv_aload_n hx hb dX12_takeTypes_72 rfl (lv_at hl 4 rfl) ?_
                      refine va_get (D := D) (ci := 12) (v := .int (V39 0 8)) (C := RX12) (T := TX12) (N := 100) hx hb hg inX12 hown hK hP 0 rfl rfl 8 (by decide) (hg _ w1714) (fun _ h9 => h9) rfl dX12_takeTypes_73 ?_
                      refine lv_if_ne (tgt := 90) hx hb dX12_takeTypes_76 (by decide) (fun c46 => ?_) (fun c46 => ?_)
                      · skip
                        have f47 : ((V39 0 8)).toInt ≠ 0 := b_neq rfl (by decide) c46
                        exfalso; first | exact om_0b51723c7ef6 f7 f47 | first | omega | ((try (have i_xlp40_2 := Imp.go xlp40_2 (by omega))); (try (have i_xlp5_3 := Imp.go xlp5_3 (by omega))); (try (have i_xlp5_3 := Imp.go xlp5_3 (by omega))); (try (have i_xlp40_2 := Imp.go xlp40_2 (by omega))); omega)
                      · skip
                        have f48 : ((V39 0 8)).toInt = 0 := b_eq rfl (by decide) c46
                        refine lv_iload_n hx hb dX12_takeTypes_79 rfl (lv_at hl 3 rfl) ?_
                        refine lv_bipush (v := 6) hx hb dX12_takeTypes_80 (by decide) ?_
                        refine lv_icmp_ne (tgt := 90) hx hb dX12_takeTypes_82 (by decide) (fun c49 => ?_) (fun c49 => ?_)
                        · skip
                          have f50 : y2.toInt ≠ 6 := b_neq rfl (by decide) c49
                          refine lv_aload_n hx hb dX12_takeTypes_90 rfl (lv_at hl 4 rfl) ?_
                          refine lv_dup hx hb dX12_takeTypes_91 rfl ?_
                          refine va_get (D := D) (ci := 12) (v := .int (V39 0 7)) (C := RX12) (T := TX12) (N := 100) hx hb hg inX12 hown hK hP 0 rfl rfl 7 (by decide) (hg _ w1713) (fun _ h9 => h9) rfl dX12_takeTypes_92 ?_
                          refine g_top (v := z31) ((ajV39 0 7 rfl).trans (up2_s hV32)) ?_
                          refine lv_iconst (v := 1) hx hb dX12_takeTypes_95 (by decide) ?_
                          refine lv_iadd hx hb dX12_takeTypes_96 ?_
                          refine lv_topi (fun z51 ez51 => ?_)
                          have hz51 : z51.toInt = z31.toInt + 1 := i_add ez51 rfl (by decide) (by (first | exact om_37595bfb6665 rz34.1 rz34.2 | omega))
                          refine va_put (D := D) (ci := 12) (v := .int z51) (ty := tyX12 7) (C := RX12) (T := TX12) (N := 100) hx hb hg inX12 tyX12 tyX12_ok nmX12 hown hK hP hD hS 0 rfl rfl 7 (by decide) (hg _ w1713) (fun _ h9 => h9) rfl (tyX12_ok 7 (by decide)) rfl rfl (Nat.le_of_ble_eq_true rfl) dX12_takeTypes_97 (fun H locs hP hD hS => ?_)
                          obtain ⟨V52, hV52⟩ : ∃ z, z = up2 V39 0 7 z51 := ⟨_, rfl⟩
                          have hP : va_P D vwCl (mw ad kk ks.1 V52 L) H := by rw [hV52]; exact hP
                          have hD : va_D A (mw ad kk ks.1 V52 L) := by rw [hV52]; exact hD
                          have hMV52 : rgd bM V52 := hMV39.put hV52 (i_full _)
                          have agV52 : agr [(0, 7), (0, 8)] [15, 21, 53] V V52 := agV39.up hV52 rfl
                          have nn53 : fx23 ∉ sn := (LST.no (LST.ag lq (by rw [(funext (fun q => ajV39 53 q rfl) : V39 53 = V32 53), (up2_fo hV32 (by decide) : V32 53 = V20 53), (funext (fun q => ajV20 53 q rfl) : V20 53 = V3 53)] : V39 53 = V3 53)) (fun k h9 => by rw [← hf26]; exact ni k (by omega)))
                          have kd54 : gT.1 (s1.1 0) ≠ 0 := look_ne h24
                          have rl55 : RelM V52 L bq gn gT (nx s1 1) gl := RelM.n1 ri hV52 (by (first | exact om_f8adf868c938 pq43 hz51 | omega)) kd54
                          have hr56 : ∀ k, Rc gT (Crun gs (Itypes gy gw 0 [] :: k)) (Crun (nx s1 1) (Imore gy gw (y2.toInt.toNat + 1) (fx23 :: sn) :: k)) := fun k => Rc.go1 (hq k) (ty_y h24 nn53 (by omega))
                          have fz57 := RelM.rg rl55
                          have pq58 : (V52 0 8).toInt = ((V39 0 8)).toInt := congrArg Int32.toInt (up2_k hV52 (by decide))
                          have pq59 : (V52 0 7).toInt = z51.toInt := congrArg Int32.toInt (up2_s hV52)
                          refine lv_aload_n hx hb dX12_takeTypes_100 rfl (lv_at hl 4 rfl) ?_
                          refine va_get (D := D) (ci := 12) (v := .int (V52 0 8)) (C := RX12) (T := TX12) (N := 100) hx hb hg inX12 hown hK hP 0 rfl rfl 8 (by decide) (hg _ w1714) (fun _ h9 => h9) rfl dX12_takeTypes_101 ?_
                          refine g_top (v := (V39 0 8)) (up2_k hV52 (by decide)) ?_
                          refine lv_if_ne (tgt := 184) hx hb dX12_takeTypes_104 (by decide) (fun c60 => ?_) (fun c60 => ?_)
                          · skip
                            have f61 : ((V39 0 8)).toInt ≠ 0 := b_neq rfl (by decide) c60
                            exfalso; first | exact om_fb320d7600b7 r42.1 f48 f61 | first | omega | ((try (have i_xlp40_2 := Imp.go xlp40_2 (by omega))); (try (have i_xlp5_3 := Imp.go xlp5_3 (by omega))); (try (have i_xlp5_3 := Imp.go xlp5_3 (by omega))); (try (have i_xlp40_2 := Imp.go xlp40_2 (by omega))); omega)
                          · skip
                            have f62 : ((V39 0 8)).toInt = 0 := b_eq rfl (by decide) c60
                            refine lv_aload_n hx hb dX12_takeTypes_107 rfl (lv_at hl 4 rfl) ?_
                            refine va_get (D := D) (ci := 12) (v := .ref (ad 53)) (C := RX12) (T := TX12) (N := 100) hx hb hg inX12 hown hK hP 0 rfl rfl 53 (by decide) (hg _ w1759) (fun _ h9 => h9) rfl dX12_takeTypes_108 ?_
                            refine lv_iload_n hx hb dX12_takeTypes_111 rfl (lv_at hl 3 rfl) ?_
                            refine lv_iload hx hb dX12_takeTypes_112 (lv_at hl 1 rfl) ?_
                            refine va_iast (D := D) (i := y2) (x := z16) hx hb hK hP hD hS 41 40 rfl rfl (i_in (a := y2.toInt) rfl (by first | exact om_24404d21e4ca klp5_1.1 klp5_1.2 f50 | first | omega | ((try (have i_xlp40_2 := Imp.go xlp40_2 (by omega))); (try (have i_xlp5_3 := Imp.go xlp5_3 (by omega))); (try (have i_xlp5_3 := Imp.go xlp5_3 (by omega))); (try (have i_xlp40_2 := Imp.go xlp40_2 (by omega))); omega))) dX12_takeTypes_114 (fun H locs hP hD hS => ?_)
                            obtain ⟨V63, hV63⟩ : ∃ z, z = up2 V52 53 (Int32.toNatClampNeg y2) z16 := ⟨_, rfl⟩
                            have hP : va_P D vwCl (mw ad kk ks.1 V63 L) H := by rw [hV63]; exact hP
                            have hD : va_D A (mw ad kk ks.1 V63 L) := by rw [hV63]; exact hD
                            have hMV63 : rgd bM V63 := hMV52.put hV63 (show (-1) ≤ z16.toInt ∧ z16.toInt ≤ 23 from by first | exact om_b5ea211f5a81 rgz16.1 rgz16.2 | first | omega | ((try (have i_xlp40_2 := Imp.go xlp40_2 (by omega))); (try (have i_xlp5_3 := Imp.go xlp5_3 (by omega))); (try (have i_xlp5_3 := Imp.go xlp5_3 (by omega))); (try (have i_xlp40_2 := Imp.go xlp40_2 (by omega))); omega))
                            have agV63 : agr [(0, 7), (0, 8)] [15, 21, 53] V V63 := agV52.up hV63 rfl
                            obtain ⟨z65, ez65⟩ : ∃ y : Int32, y = y2 + 1 := ⟨_, rfl⟩
                            have hz65 : z65.toInt = y2.toInt + 1 := i_add ez65 rfl (by decide) (by (first | exact om_875f8b1f1696 klp5_1.1 klp5_1.2 f50 | omega))
                            refine lv_iinc (v := z65) (lv' := [(3, .int z65), (6, .int y38), (5, .int z16), (4, .int y1), (0, .ref (ad 0)), (1, .ref (ad 15)), (2, .int p1)]) hx hb dX12_takeTypes_115 hl (k := 3) rfl (by rw [ez65]; rfl) (by decide) rfl (fun ls hl => ?_)
                            have ls66 : LST V63 z65.toInt (fx23 :: sn) := LST.add (LST.ag lq (by rw [(up2_fo hV52 (by decide) : V52 53 = V39 53), (funext (fun q => ajV39 53 q rfl) : V39 53 = V32 53), (up2_fo hV32 (by decide) : V32 53 = V20 53), (funext (fun q => ajV20 53 q rfl) : V20 53 = V3 53)] : V52 53 = V3 53)) hV63 rfl (by omega) (by omega) (by omega)
                            refine lv_iconst (v := 0) hx hb dX12_takeTypes_118 (by decide) ?_
                            refine lv_istore (lv' := [(6, .int 0), (3, .int z65), (5, .int z16), (4, .int y1), (0, .ref (ad 0)), (1, .ref (ad 15)), (2, .int p1)]) hx hb dX12_takeTypes_119 hl (by decide) rfl (fun ls hl => ?_)
                            have lp69 : ∀ (fulp69 : Nat) (y67 : Int32) (V68 : Vf) (H : Heap) (locs : List Loc) (ls : Array Slot), 0 ≤ y67.toInt ∧ y67.toInt ≤ 24 → (UNx 15 go V V68 gs.1 y67.toInt (fx23 :: sn) sn) → (CNm V68 bq gs) → 24 - y67.toInt < (fulp69 : Int) → agr [] [15, 21] V63 V68 → rgd bM V68 → va_P D vwCl (mw ad kk ks.1 V68 L) H → va_D A (mw ad kk ks.1 V68 L) → va_S A s.heap H locs → lv_has ls 7 [(6, .int y67), (3, .int z65), (5, .int z16), (4, .int y1), (0, .ref (ad 0)), (1, .ref (ad 15)), (2, .int p1)] → W p l e r_s_takeTypesA15 s m ([.ref (ad 0), .ref (ad 15), .int p1] : List Value).toArray below meth c H locs 0 0 (MQ below (q_s_takeTypesA15 D ks ad kk V L p1 bq gn gT gs gl gy gw go A) ([.ref (ad 0), .ref (ad 15), .int p1] : List Value).toArray s 0 0 A) (F0 m 121 ls []) := by
                              (try clear fz57); (try clear kd54); (try clear fz41); (try clear fz36); (try clear rl35); (try clear fz29); (try clear ps28); (try clear fz9)
                              intro fulp69
                              induction fulp69 with
                              | zero =>
                                intro y67 V68 H locs ls klp69_0 xlp69_0 xlp69_1 hn ajV68 hMV68 hP hD hS hl
                                exfalso; (first | exact om_9386ef0df612 klp69_0.2 hn | omega)
                              | succ fulp69 ihlp69 =>
                                intro y67 V68 H locs ls klp69_0 xlp69_0 xlp69_1 hn ajV68 hMV68 hP hD hS hl
                                have agV68 : agr [(0, 7), (0, 8)] [15, 21, 53] V V68 := agV63.tr ajV68 (by decide) (by decide)
                                refine lv_iload hx hb dX12_takeTypes_121 (lv_at hl 0 rfl) ?_
                                refine lv_bipush (v := 24) hx hb dX12_takeTypes_123 (by decide) ?_
                                refine lv_icmp_ge (tgt := 184) hx hb dX12_takeTypes_125 (by decide) (fun c70 => ?_) (fun c70 => ?_)
                                · skip
                                  have f71 : 24 ≤ y67.toInt := b_le (by decide) rfl c70
                                  have un72 : UNm 15 go V V68 gs.1 (fx23 :: sn) := UNx.all xlp69_0 (by (first | exact om_69cd31f94d1d f71 | omega))
                                  refine lv_aload_n hx hb dX12_takeTypes_184 rfl (lv_at hl 4 rfl) ?_
                                  refine lv_bipush (v := 44) hx hb dX12_takeTypes_185 (by decide) ?_
                                  have rl73 : RelM V68 L bq gn gT (nx s1 1) gl := RelM.ag rl55 (show agr [] [15, 21, 53] V52 V68 from (agr.tr (agr.up agr.rf hV63 rfl) ajV68 (by decide) (by decide))) (by decide) (show agL [] L L from agL.rf) (by decide)
                                  have r74 : Int32.toInt 44 = 44 := by decide
                                  refine gA_int (gA_runV (As := [.int 44]) (rest := []) (ci := 12) (q0 := 0) hx hb hml hown hg hP hD hK hS hA hnw hgk (s_hasSignA l D ks H.size ad kk V68 L 44 (bq) (gn) (gT) ((nx s1 1)) (gl) hMV68 rl73 (sg_yes (j := 44) (by decide) (by decide) (by decide))) w2067 w2069 w94 w172 w2070 rfl rfl hdV_yX12_hasSign ⟨Nat.le_of_ble_eq_true rfl, Nat.le_of_ble_eq_true rfl⟩ rfl hl.1 rfl (Nat.le_of_ble_eq_true rfl) dX12_takeTypes_187 ⟨Nat.le_of_ble_eq_true rfl, Nat.le_of_ble_eq_true rfl⟩) hP hD hK hS hA (fun z75 u76 H locs w77 hP hD hK hS => ?_)
                                  obtain ⟨V79, L80⟩ := u76
                                  obtain ⟨hMV79, ajV79, axL80, rgz75, t78⟩ := w77
                                  have axL80 : L = L80 := Eq.symm axL80
                                  subst axL80
                                  have hP : va_P D vwCl (mw ad kk ks.1 V79 L) H := hP
                                  have hD : va_D A (mw ad kk ks.1 V79 L) := hD
                                  have hMV79 : rgd bM V79 := hMV79
                                  have ajV79 : agr [(0, 7)] [] V68 V79 := ajV79
                                  have agV79 : agr [(0, 7), (0, 8)] [15, 21, 53] V V79 := agV68.tr ajV79 (by decide) (by decide)
                                  have rgz75 : 0 ≤ z75.toInt ∧ z75.toInt ≤ 1 := rgz75
                                  have t78 : (z75.toInt = 1 ∧ (gT).1 (((nx s1 1)).1 0) = (Int32.toInt 44) ∧ RelM V79 L (bq) (gn) (gT) (nx ((nx s1 1)) 1) (gl)) ∨ (z75.toInt = 0 ∧ (gT).1 (((nx s1 1)).1 0) ≠ (Int32.toInt 44) ∧ RelM V79 L (bq) (gn) (gT) ((nx s1 1)) (gl)) := t78
                                  rcases t78 with ⟨q81, h82, rl83⟩ | ⟨q81, h82, rl83⟩
                                  · skip
                                    have kd84 : gT.1 ((nx s1 1).1 0) = 44 := h82.trans (by decide)
                                    have hr85 : ∀ k, Rc gT (Crun gs (Itypes gy gw 0 [] :: k)) (Crun (nx (nx s1 1) 1) (Itypes gy gw (y2.toInt.toNat + 1) (fx23 :: sn) :: k)) := fun k => Rc.go1 (hr56 k) (more_y gy gw (y2.toInt.toNat + 1) (fx23 :: sn) kd84)
                                    have ps86 : (nx (nx s1 1) 1).1 0 = (nx s1 1).1 0 + 1 := rfl
                                    have fz87 := RelM.rg rl83
                                    have pq88 : (V79 0 8).toInt = ((V39 0 8)).toInt := congrArg Int32.toInt ((ajV79 0 8 rfl).trans ((ajV68 0 8 rfl).trans ((up2_o hV63 (by decide)).trans (up2_k hV52 (by decide)))))
                                    refine lv_istore (lv' := [(4, .int z75), (6, .int y67), (3, .int z65), (5, .int z16), (0, .ref (ad 0)), (1, .ref (ad 15)), (2, .int p1)]) hx hb dX12_takeTypes_190 hl (by decide) rfl (fun ls hl => ?_)
                                    refine lv_goto (tgt := 5) hx hb dX12_takeTypes_192 (by decide) ?_
                                    have pq89 : (V79 0 12).toInt = ((V 0 12)).toInt := congrArg Int32.toInt ((ajV79 0 12 rfl).trans ((ajV68 0 12 rfl).trans ((up2_o hV63 (by decide)).trans ((up2_k hV52 (by decide)).trans ((ajV39 0 12 rfl).trans ((up2_k hV32 (by decide)).trans ((ajV20 0 12 rfl).trans (ajV3 0 12 rfl))))))))
                                    have cn90 : CNm V79 bq gs := CNm.ag xlp69_1 (show agr [(0, 7)] [] V68 V79 from (agr.tr agr.rf ajV79 (by decide) (by decide))) (by decide) keepC.rf
                                    exact ihlp5 (g4 - 1) z75 z65 V79 H locs ls (by first | exact om_eb7af9d60398 rgz75.1 rgz75.2 | first | omega | ((try (have i_xlp40_2 := Imp.go xlp40_2 (by omega))); (try (have i_xlp5_3 := Imp.go xlp5_3 (by omega))); (try (have i_xlp5_3 := Imp.go xlp5_3 (by omega))); (try (have i_xlp40_2 := Imp.go xlp40_2 (by omega))); omega)) (by first | exact om_6575912fbdd9 klp5_1.1 klp5_1.2 f50 hz65 | first | omega | ((try (have i_xlp40_2 := Imp.go xlp40_2 (by omega))); (try (have i_xlp5_3 := Imp.go xlp5_3 (by omega))); (try (have i_xlp5_3 := Imp.go xlp5_3 (by omega))); (try (have i_xlp40_2 := Imp.go xlp40_2 (by omega))); omega)) (Or.inl ⟨W0 rl83, (by omega), (nx (nx s1 1) 1), (fx23 :: sn), (by rw [show z65.toInt.toNat = (y2.toInt.toNat + 1) from by omega]; exact hr85), rl83, ⟨keepS.le (keepS.tr (keepS.tr (keepS.tr (keepS.rf : keepS gs 0 gs) kq) (keepS.n1 1)) (keepS.n1 1)) (by decide), (show keepL gs (nx (nx s1 1) 1) from fun j9 h9 => ((show ∀ j9, 5 ≤ j9 → (nx (nx s1 1) 1).2.1 j9 = (nx s1 1).2.1 j9 from fun _ _ => rfl) j9 h9).trans ((show keepL gs (nx s1 1) from fun j9 h9 => ((show ∀ j9, 5 ≤ j9 → (nx s1 1).2.1 j9 = s1.2.1 j9 from fun _ _ => rfl) j9 h9).trans ((show keepL gs s1 from fun j9 h9 => ((show ∀ j9, 5 ≤ j9 → s1.2.1 j9 = gs.2.1 j9 from ll9) j9 h9).trans ((show keepL gs gs from fun _ _ => rfl) j9 h9)) j9 h9)) j9 h9))⟩, LST.ag ls66 (by rw [(funext (fun q => ajV79 53 q rfl) : V79 53 = V68 53), (funext (fun q => ajV68 53 q rfl) : V68 53 = V63 53)] : V79 53 = V63 53), (UNm.ag un72 (by rw [(funext (fun q => ajV79 15 q rfl) : V79 15 = V68 15)] : V79 15 = V68 15)), cn90⟩) (show 0 ≤ (g4 - 1) from by first | exact om_63465e109454 klp5_1.2 f50 ((Imp.go xlp5_3 (f15))) | first | omega | ((try (have i_xlp40_2 := Imp.go xlp40_2 (by omega))); (try (have i_xlp5_3 := Imp.go xlp5_3 (by omega))); (try (have i_xlp5_3 := Imp.go xlp5_3 (by omega))); (try (have i_xlp40_2 := Imp.go xlp40_2 (by omega))); omega)) (show z65.toInt ≤ 6 from by first | exact om_1e1b103e2e8d klp5_1.2 f50 hz65 | first | omega | ((try (have i_xlp40_2 := Imp.go xlp40_2 (by omega))); (try (have i_xlp5_3 := Imp.go xlp5_3 (by omega))); (try (have i_xlp5_3 := Imp.go xlp5_3 (by omega))); (try (have i_xlp40_2 := Imp.go xlp40_2 (by omega))); omega)) (Imp.mk (fun hp => have hp : (V79 0 8).toInt = 0 := hp; (show 7 - z65.toInt < (g4 - 1) from by first | exact om_3b5c2a59e72f hz65 ((Imp.go xlp5_3 (f15))) | first | omega | ((try (have i_xlp40_2 := Imp.go xlp40_2 (by omega))); (try (have i_xlp5_3 := Imp.go xlp5_3 (by omega))); (try (have i_xlp5_3 := Imp.go xlp5_3 (by omega))); (try (have i_xlp40_2 := Imp.go xlp40_2 (by omega))); omega)))) (show (V79 0 12).toInt = (V 0 12).toInt from by first | exact om_570b691c1130 pq89 | first | omega | ((try (have i_xlp40_2 := Imp.go xlp40_2 (by omega))); (try (have i_xlp5_3 := Imp.go xlp5_3 (by omega))); (try (have i_xlp5_3 := Imp.go xlp5_3 (by omega))); (try (have i_xlp40_2 := Imp.go xlp40_2 (by omega))); omega)) (by first | omega | ((try (have i_xlp40_2 := Imp.go xlp40_2 (by omega))); (try (have i_xlp5_3 := Imp.go xlp5_3 (by omega))); (try (have i_xlp5_3 := Imp.go xlp5_3 (by omega))); (try (have i_xlp40_2 := Imp.go xlp40_2 (by omega))); omega)) (agr.tr (agr.tr (agr.up (agr.up (agr.tr (agr.up (agr.tr (agr.tr agr.rf ajV3 (by decide) (by decide)) ajV20 (by decide) (by decide)) hV32 rfl) ajV39 (by decide) (by decide)) hV52 rfl) hV63 rfl) ajV68 (by decide) (by decide)) ajV79 (by decide) (by decide)) hMV79 hP hD hS (lv_sub hl [0, 2, 4, 5, 6] rfl)
                                  · skip
                                    have kd91 : gT.1 ((nx s1 1).1 0) ≠ 44 := fun h9 => h82 (h9.trans (by decide))
                                    have fz92 := RelM.rg rl83
                                    have pq93 : (V79 0 8).toInt = ((V39 0 8)).toInt := congrArg Int32.toInt ((ajV79 0 8 rfl).trans ((ajV68 0 8 rfl).trans ((up2_o hV63 (by decide)).trans (up2_k hV52 (by decide)))))
                                    refine lv_istore (lv' := [(4, .int z75), (6, .int y67), (3, .int z65), (5, .int z16), (0, .ref (ad 0)), (1, .ref (ad 15)), (2, .int p1)]) hx hb dX12_takeTypes_190 hl (by decide) rfl (fun ls hl => ?_)
                                    refine lv_goto (tgt := 5) hx hb dX12_takeTypes_192 (by decide) ?_
                                    have pq94 : (V79 0 12).toInt = ((V 0 12)).toInt := congrArg Int32.toInt ((ajV79 0 12 rfl).trans ((ajV68 0 12 rfl).trans ((up2_o hV63 (by decide)).trans ((up2_k hV52 (by decide)).trans ((ajV39 0 12 rfl).trans ((up2_k hV32 (by decide)).trans ((ajV20 0 12 rfl).trans (ajV3 0 12 rfl))))))))
                                    have hr95 : ∀ k, Rc gT (Crun gs (Itypes gy gw 0 [] :: k)) (Crun (nx s1 1) (ItyD gy gw (fx23 :: sn) :: k)) := fun k => Rc.go1 (hr56 k) (more_n gy gw (y2.toInt.toNat + 1) (fx23 :: sn) kd91)
                                    have cn96 : CNm V79 bq gs := CNm.ag xlp69_1 (show agr [(0, 7)] [] V68 V79 from (agr.tr agr.rf ajV79 (by decide) (by decide))) (by decide) keepC.rf
                                    exact ihlp5 (g4 - 1) z75 z65 V79 H locs ls (by first | exact om_eb7af9d60398 rgz75.1 rgz75.2 | first | omega | ((try (have i_xlp40_2 := Imp.go xlp40_2 (by omega))); (try (have i_xlp5_3 := Imp.go xlp5_3 (by omega))); (try (have i_xlp5_3 := Imp.go xlp5_3 (by omega))); (try (have i_xlp40_2 := Imp.go xlp40_2 (by omega))); omega)) (by first | exact om_6575912fbdd9 klp5_1.1 klp5_1.2 f50 hz65 | first | omega | ((try (have i_xlp40_2 := Imp.go xlp40_2 (by omega))); (try (have i_xlp5_3 := Imp.go xlp5_3 (by omega))); (try (have i_xlp5_3 := Imp.go xlp5_3 (by omega))); (try (have i_xlp40_2 := Imp.go xlp40_2 (by omega))); omega)) (Or.inr (Or.inl ⟨W0 rl83, (by omega), (nx s1 1), (fx23 :: sn), hr95, rl83, ⟨keepS.le (keepS.tr (keepS.tr (keepS.rf : keepS gs 0 gs) kq) (keepS.n1 1)) (by decide), (show keepL gs (nx s1 1) from fun j9 h9 => ((show ∀ j9, 5 ≤ j9 → (nx s1 1).2.1 j9 = s1.2.1 j9 from fun _ _ => rfl) j9 h9).trans ((show keepL gs s1 from fun j9 h9 => ((show ∀ j9, 5 ≤ j9 → s1.2.1 j9 = gs.2.1 j9 from ll9) j9 h9).trans ((show keepL gs gs from fun _ _ => rfl) j9 h9)) j9 h9))⟩, (UNm.ag un72 (by rw [(funext (fun q => ajV79 15 q rfl) : V79 15 = V68 15)] : V79 15 = V68 15)), cn96⟩)) (show 0 ≤ (g4 - 1) from by first | exact om_63465e109454 klp5_1.2 f50 ((Imp.go xlp5_3 (f15))) | first | omega | ((try (have i_xlp40_2 := Imp.go xlp40_2 (by omega))); (try (have i_xlp5_3 := Imp.go xlp5_3 (by omega))); (try (have i_xlp5_3 := Imp.go xlp5_3 (by omega))); (try (have i_xlp40_2 := Imp.go xlp40_2 (by omega))); omega)) (show z65.toInt ≤ 6 from by first | exact om_1e1b103e2e8d klp5_1.2 f50 hz65 | first | omega | ((try (have i_xlp40_2 := Imp.go xlp40_2 (by omega))); (try (have i_xlp5_3 := Imp.go xlp5_3 (by omega))); (try (have i_xlp5_3 := Imp.go xlp5_3 (by omega))); (try (have i_xlp40_2 := Imp.go xlp40_2 (by omega))); omega)) (Imp.mk (fun hp => have hp : (V79 0 8).toInt = 0 := hp; (show 7 - z65.toInt < (g4 - 1) from by first | exact om_3b5c2a59e72f hz65 ((Imp.go xlp5_3 (f15))) | first | omega | ((try (have i_xlp40_2 := Imp.go xlp40_2 (by omega))); (try (have i_xlp5_3 := Imp.go xlp5_3 (by omega))); (try (have i_xlp5_3 := Imp.go xlp5_3 (by omega))); (try (have i_xlp40_2 := Imp.go xlp40_2 (by omega))); omega)))) (show (V79 0 12).toInt = (V 0 12).toInt from by first | exact om_570b691c1130 pq94 | first | omega | ((try (have i_xlp40_2 := Imp.go xlp40_2 (by omega))); (try (have i_xlp5_3 := Imp.go xlp5_3 (by omega))); (try (have i_xlp5_3 := Imp.go xlp5_3 (by omega))); (try (have i_xlp40_2 := Imp.go xlp40_2 (by omega))); omega)) (by first | omega | ((try (have i_xlp40_2 := Imp.go xlp40_2 (by omega))); (try (have i_xlp5_3 := Imp.go xlp5_3 (by omega))); (try (have i_xlp5_3 := Imp.go xlp5_3 (by omega))); (try (have i_xlp40_2 := Imp.go xlp40_2 (by omega))); omega)) (agr.tr (agr.tr (agr.up (agr.up (agr.tr (agr.up (agr.tr (agr.tr agr.rf ajV3 (by decide) (by decide)) ajV20 (by decide) (by decide)) hV32 rfl) ajV39 (by decide) (by decide)) hV52 rfl) hV63 rfl) ajV68 (by decide) (by decide)) ajV79 (by decide) (by decide)) hMV79 hP hD hS (lv_sub hl [0, 2, 4, 5, 6] rfl)
                                · skip
                                  have f97 : y67.toInt < 24 := b_nle (by decide) rfl c70
                                  refine lv_aload_n hx hb dX12_takeTypes_128 rfl (lv_at hl 5 rfl) ?_
                                  refine lv_bipush (v := 24) hx hb dX12_takeTypes_129 (by decide) ?_
                                  refine lv_iload_n hx hb dX12_takeTypes_131 rfl (lv_at hl 6 rfl) ?_
                                  refine lv_imul hx hb dX12_takeTypes_132 ?_
                                  refine lv_topi (fun z98 ez98 => ?_)
                                  have hz98 : z98.toInt = 24 * p1.toInt := i_mul ez98 (by decide) rfl (by (first | exact om_71c20f736ea3 rg_p1.2 pgo gfr | omega))
                                  refine lv_iload hx hb dX12_takeTypes_133 (lv_at hl 0 rfl) ?_
                                  refine lv_iadd hx hb dX12_takeTypes_135 ?_
                                  refine lv_topi (fun z99 ez99 => ?_)
                                  have hz99 : z99.toInt = z98.toInt + y67.toInt := i_add ez99 rfl rfl (by (first | exact om_ce4b95d991a9 rg_p1.2 pgo gfr klp69_0.1 f97 hz98 | omega))
                                  refine lv_aload_n hx hb dX12_takeTypes_136 rfl (lv_at hl 5 rfl) ?_
                                  refine lv_bipush (v := 24) hx hb dX12_takeTypes_137 (by decide) ?_
                                  refine lv_iload_n hx hb dX12_takeTypes_139 rfl (lv_at hl 6 rfl) ?_
                                  refine lv_imul hx hb dX12_takeTypes_140 ?_
                                  refine lv_topi (fun z100 ez100 => ?_)
                                  have hz100 : z100.toInt = 24 * p1.toInt := i_mul ez100 (by decide) rfl (by (first | exact om_71c20f736ea3 rg_p1.2 pgo gfr | omega))
                                  refine lv_iload hx hb dX12_takeTypes_141 (lv_at hl 0 rfl) ?_
                                  refine lv_iadd hx hb dX12_takeTypes_143 ?_
                                  refine lv_topi (fun z101 ez101 => ?_)
                                  have hz101 : z101.toInt = z100.toInt + y67.toInt := i_add ez101 rfl rfl (by (first | exact om_ce4b95d991a9 rg_p1.2 pgo gfr klp69_0.1 f97 hz100 | omega))
                                  refine va_zald (D := D) (i := z101) hx hb hK hP 8 7 rfl rfl (i_in (a := z101.toInt) rfl (by first | exact om_e21fd4bb223a rg_p1.1 rg_p1.2 klp69_0.1 f97 hz100 hz101 | first | omega | ((try (have i_xlp40_2 := Imp.go xlp40_2 (by omega))); (try (have i_xlp5_3 := Imp.go xlp5_3 (by omega))); (try (have i_xlp5_3 := Imp.go xlp5_3 (by omega))); (try (have i_xlp40_2 := Imp.go xlp40_2 (by omega))); omega))) dX12_takeTypes_144 ?_
                                  have r102 : 0 ≤ ((V68 15 (Int32.toNatClampNeg z101))).toInt ∧ ((V68 15 (Int32.toNatClampNeg z101))).toInt ≤ 1 := hMV68 15 (Int32.toNatClampNeg z101)
                                  refine lv_if_ne (tgt := 172) hx hb dX12_takeTypes_145 (by decide) (fun c103 => ?_) (fun c103 => ?_)
                                  · skip
                                    have f104 : ((V68 15 (Int32.toNatClampNeg z101))).toInt ≠ 0 := b_neq rfl (by decide) c103
                                    refine lv_iconst (v := 1) hx hb dX12_takeTypes_172 (by decide) ?_
                                    refine lv_goto (tgt := 177) hx hb dX12_takeTypes_173 (by decide) ?_
                                    refine va_zast (D := D) (i := z99) (x := 1) hx hb hK hP hD hS 8 7 rfl rfl (i_in (a := z99.toInt) rfl (by first | exact om_e21fd4bb223a rg_p1.1 rg_p1.2 klp69_0.1 f97 hz98 hz99 | first | omega | ((try (have i_xlp40_2 := Imp.go xlp40_2 (by omega))); (try (have i_xlp5_3 := Imp.go xlp5_3 (by omega))); (try (have i_xlp5_3 := Imp.go xlp5_3 (by omega))); (try (have i_xlp40_2 := Imp.go xlp40_2 (by omega))); omega))) dX12_takeTypes_177 (fun H locs hP hD hS => ?_)
                                    obtain ⟨V105, hV105⟩ : ∃ z, z = up2 V68 15 (Int32.toNatClampNeg z99) (vp_nar .boolean 1) := ⟨_, rfl⟩
                                    have hP : va_P D vwCl (mw ad kk ks.1 V105 L) H := by rw [hV105]; exact hP
                                    have hD : va_D A (mw ad kk ks.1 V105 L) := by rw [hV105]; exact hD
                                    have hMV105 : rgd bM V105 := hMV68.put hV105 (nar_b _)
                                    have agV105 : agr [(0, 7), (0, 8)] [15, 21, 53] V V105 := agV68.up hV105 rfl
                                    obtain ⟨z106, ez106⟩ : ∃ y : Int32, y = y67 + 1 := ⟨_, rfl⟩
                                    have hz106 : z106.toInt = y67.toInt + 1 := i_add ez106 rfl (by decide) (by (first | exact om_bc9106cf44c9 klp69_0.1 f97 | omega))
                                    refine lv_iinc (v := z106) (lv' := [(6, .int z106), (3, .int z65), (5, .int z16), (4, .int y1), (0, .ref (ad 0)), (1, .ref (ad 15)), (2, .int p1)]) hx hb dX12_takeTypes_178 hl (k := 0) rfl (by rw [ez106]; rfl) (by decide) rfl (fun ls hl => ?_)
                                    refine lv_goto (tgt := 121) hx hb dX12_takeTypes_181 (by decide) ?_
                                    have kc107 := i_clamp (x := y67) rfl (by (first | exact om_eafa9039069c klp69_0.1 | omega))
                                    have kp110 : (Int32.toNatClampNeg z99) = 24 * go + (Int32.toNatClampNeg y67) := by have h9 := i_clamp (x := z99) rfl (by (first | exact om_eca9e79ec4c2 pgo gfr klp69_0.1 hz98 hz99 | omega)); (first | exact om_b57d09e2e28e pgo hz98 hz99 kc107 h9 | omega)
                                    have kA108 : (V68 15 (Int32.toNatClampNeg z101)).toInt = (V68 15 (24 * go + (Int32.toNatClampNeg y67))).toInt := by rw [show Int32.toNatClampNeg z101 = 24 * go + (Int32.toNatClampNeg y67) from by have h9 := i_clamp (x := z101) rfl (by (first | exact om_eca9e79ec4c2 pgo gfr klp69_0.1 hz100 hz101 | omega)); omega]
                                    have r111 : 0 ≤ (V68 15 (24 * go + (Int32.toNatClampNeg y67))).toInt ∧ (V68 15 (24 * go + (Int32.toNatClampNeg y67))).toInt ≤ 1 := hMV68 15 _
                                    have r112 : 0 ≤ (V68 15 (24 * (24 * bq + fx23) + (Int32.toNatClampNeg y67))).toInt ∧ (V68 15 (24 * (24 * bq + fx23) + (Int32.toNatClampNeg y67))).toInt ≤ 1 := hMV68 15 _
                                    have nr113 : (vp_nar .boolean 1).toInt = 1 := by decide
                                    have lt9 : fx23 < (gs.2.1 0).length := by have h9 := look_lt h24; rw [((keepS.tr (keepS.rf : keepS gs 0 gs) kq)).2.2.1 0 (by decide)] at h9; exact h9
                                    have cn114 : CNm V105 bq gs := CNm.up xlp69_1 hV105 (fun q9 => by have h9 := i_clamp (x := z99) rfl (by (first | exact om_eca9e79ec4c2 pgo gfr klp69_0.1 hz98 hz99 | omega)); unfold rdm at q9; omega)
                                    exact ihlp69 z106 V105 H locs ls (by first | exact om_a5349b170263 klp69_0.1 f97 hz106 | first | omega | ((try (have i_xlp40_2 := Imp.go xlp40_2 (by omega))); (try (have i_xlp5_3 := Imp.go xlp5_3 (by omega))); (try (have i_xlp5_3 := Imp.go xlp5_3 (by omega))); (try (have i_xlp40_2 := Imp.go xlp40_2 (by omega))); omega)) (UNx.st (u := 24 * bq + fx23) (y := (Int32.toNatClampNeg y67)) xlp69_0 hV105 kp110 (by omega) (by omega) (by omega) (xlp69_1.2.2.1 fx23 lt9) (show ((vp_nar .boolean 1)).toInt = 1 ↔ _ from iff_of_true (by decide) (Or.inl (by omega)))) cn114 (by first | exact om_9592d9319ffa hn hz106 | first | omega | ((try (have i_xlp40_2 := Imp.go xlp40_2 (by omega))); (try (have i_xlp5_3 := Imp.go xlp5_3 (by omega))); (try (have i_xlp5_3 := Imp.go xlp5_3 (by omega))); (try (have i_xlp40_2 := Imp.go xlp40_2 (by omega))); omega)) (agr.up (agr.tr agr.rf ajV68 (by decide) (by decide)) hV105 rfl) hMV105 hP hD hS (lv_sub hl [0, 1, 2, 3, 4, 5, 6] rfl)
                                  · skip
                                    have f115 : ((V68 15 (Int32.toNatClampNeg z101))).toInt = 0 := b_eq rfl (by decide) c103
                                    refine lv_aload_n hx hb dX12_takeTypes_148 rfl (lv_at hl 4 rfl) ?_
                                    refine va_get (D := D) (ci := 12) (v := .ref (ad 15)) (C := RX12) (T := TX12) (N := 100) hx hb hg inX12 hown hK hP 0 rfl rfl 15 (by decide) (hg _ w1721) (fun _ h9 => h9) rfl dX12_takeTypes_149 ?_
                                    refine lv_bipush (v := 24) hx hb dX12_takeTypes_152 (by decide) ?_
                                    refine lv_bipush (v := 24) hx hb dX12_takeTypes_154 (by decide) ?_
                                    refine lv_aload_n hx hb dX12_takeTypes_156 rfl (lv_at hl 4 rfl) ?_
                                    refine va_get (D := D) (ci := 12) (v := .int (V68 0 12)) (C := RX12) (T := TX12) (N := 100) hx hb hg inX12 hown hK hP 0 rfl rfl 12 (by decide) (hg _ w1718) (fun _ h9 => h9) rfl dX12_takeTypes_157 ?_
                                    refine g_top (v := (V 0 12)) ((ajV68 0 12 rfl).trans ((up2_o hV63 (by decide)).trans ((up2_k hV52 (by decide)).trans ((ajV39 0 12 rfl).trans ((up2_k hV32 (by decide)).trans ((ajV20 0 12 rfl).trans (ajV3 0 12 rfl))))))) ?_
                                    refine lv_imul hx hb dX12_takeTypes_160 ?_
                                    refine lv_topi (fun z116 ez116 => ?_)
                                    have hz116 : z116.toInt = 24 * ((V 0 12)).toInt := i_mul ez116 (by decide) rfl (by (first | exact om_3f8aba7b6ce1 r8.1 r8.2 | omega))
                                    refine lv_iload hx hb dX12_takeTypes_161 (lv_at hl 2 rfl) ?_
                                    refine lv_iadd hx hb dX12_takeTypes_163 ?_
                                    refine lv_topi (fun z117 ez117 => ?_)
                                    have hz117 : z117.toInt = z116.toInt + z16.toInt := i_add ez117 rfl rfl (by (first | exact om_28492b8d939d r8.1 r8.2 rgz16.1 rgz16.2 hz116 | omega))
                                    refine lv_imul hx hb dX12_takeTypes_164 ?_
                                    refine lv_topi (fun z118 ez118 => ?_)
                                    have hz118 : z118.toInt = 24 * z117.toInt := i_mul ez118 (by decide) rfl (by (first | exact om_fc84c92ae077 r8.1 r8.2 rgz16.1 rgz16.2 hz116 hz117 | omega))
                                    refine lv_iload hx hb dX12_takeTypes_165 (lv_at hl 0 rfl) ?_
                                    refine lv_iadd hx hb dX12_takeTypes_167 ?_
                                    refine lv_topi (fun z119 ez119 => ?_)
                                    have hz119 : z119.toInt = z118.toInt + y67.toInt := i_add ez119 rfl rfl (by (first | exact om_44ef469b3d0d r8.1 r8.2 rgz16.1 rgz16.2 klp69_0.1 f97 hz116 hz117 hz118 | omega))
                                    refine va_zald (D := D) (i := z119) hx hb hK hP 8 7 rfl rfl (i_in (a := z119.toInt) rfl (by first | omega | ((try (have i_xlp40_2 := Imp.go xlp40_2 (by omega))); (try (have i_xlp5_3 := Imp.go xlp5_3 (by omega))); (try (have i_xlp5_3 := Imp.go xlp5_3 (by omega))); (try (have i_xlp40_2 := Imp.go xlp40_2 (by omega))); omega))) dX12_takeTypes_168 ?_
                                    have r120 : 0 ≤ ((V68 15 (Int32.toNatClampNeg z119))).toInt ∧ ((V68 15 (Int32.toNatClampNeg z119))).toInt ≤ 1 := hMV68 15 (Int32.toNatClampNeg z119)
                                    refine lv_if_eq (tgt := 176) hx hb dX12_takeTypes_169 (by decide) (fun c121 => ?_) (fun c121 => ?_)
                                    · skip
                                      have f122 : ((V68 15 (Int32.toNatClampNeg z119))).toInt = 0 := b_eq rfl (by decide) c121
                                      refine lv_iconst (v := 0) hx hb dX12_takeTypes_176 (by decide) ?_
                                      refine va_zast (D := D) (i := z99) (x := 0) hx hb hK hP hD hS 8 7 rfl rfl (i_in (a := z99.toInt) rfl (by first | exact om_e21fd4bb223a rg_p1.1 rg_p1.2 klp69_0.1 f97 hz98 hz99 | first | omega | ((try (have i_xlp40_2 := Imp.go xlp40_2 (by omega))); (try (have i_xlp5_3 := Imp.go xlp5_3 (by omega))); (try (have i_xlp5_3 := Imp.go xlp5_3 (by omega))); (try (have i_xlp40_2 := Imp.go xlp40_2 (by omega))); omega))) dX12_takeTypes_177 (fun H locs hP hD hS => ?_)
                                      obtain ⟨V123, hV123⟩ : ∃ z, z = up2 V68 15 (Int32.toNatClampNeg z99) (vp_nar .boolean 0) := ⟨_, rfl⟩
                                      have hP : va_P D vwCl (mw ad kk ks.1 V123 L) H := by rw [hV123]; exact hP
                                      have hD : va_D A (mw ad kk ks.1 V123 L) := by rw [hV123]; exact hD
                                      have hMV123 : rgd bM V123 := hMV68.put hV123 (nar_b _)
                                      have agV123 : agr [(0, 7), (0, 8)] [15, 21, 53] V V123 := agV68.up hV123 rfl
                                      obtain ⟨z124, ez124⟩ : ∃ y : Int32, y = y67 + 1 := ⟨_, rfl⟩
                                      have hz124 : z124.toInt = y67.toInt + 1 := i_add ez124 rfl (by decide) (by (first | exact om_bc9106cf44c9 klp69_0.1 f97 | omega))
                                      refine lv_iinc (v := z124) (lv' := [(6, .int z124), (3, .int z65), (5, .int z16), (4, .int y1), (0, .ref (ad 0)), (1, .ref (ad 15)), (2, .int p1)]) hx hb dX12_takeTypes_178 hl (k := 0) rfl (by rw [ez124]; rfl) (by decide) rfl (fun ls hl => ?_)
                                      refine lv_goto (tgt := 121) hx hb dX12_takeTypes_181 (by decide) ?_
                                      have kc125 := i_clamp (x := y67) rfl (by (first | exact om_eafa9039069c klp69_0.1 | omega))
                                      have kp128 : (Int32.toNatClampNeg z99) = 24 * go + (Int32.toNatClampNeg y67) := by have h9 := i_clamp (x := z99) rfl (by (first | exact om_eca9e79ec4c2 pgo gfr klp69_0.1 hz98 hz99 | omega)); (first | exact om_b57d09e2e28e pgo hz98 hz99 kc125 h9 | omega)
                                      have kA126 : (V68 15 (Int32.toNatClampNeg z101)).toInt = (V68 15 (24 * go + (Int32.toNatClampNeg y67))).toInt := by rw [show Int32.toNatClampNeg z101 = 24 * go + (Int32.toNatClampNeg y67) from by have h9 := i_clamp (x := z101) rfl (by (first | exact om_eca9e79ec4c2 pgo gfr klp69_0.1 hz100 hz101 | omega)); omega]
                                      have r129 : 0 ≤ (V68 15 (24 * go + (Int32.toNatClampNeg y67))).toInt ∧ (V68 15 (24 * go + (Int32.toNatClampNeg y67))).toInt ≤ 1 := hMV68 15 _
                                      have r130 : 0 ≤ (V68 15 (24 * (24 * bq + fx23) + (Int32.toNatClampNeg y67))).toInt ∧ (V68 15 (24 * (24 * bq + fx23) + (Int32.toNatClampNeg y67))).toInt ≤ 1 := hMV68 15 _
                                      have kB127 : (V68 15 (Int32.toNatClampNeg z119)).toInt = (V68 15 (24 * (24 * bq + fx23) + (Int32.toNatClampNeg y67))).toInt := by rw [show Int32.toNatClampNeg z119 = 24 * (24 * bq + fx23) + (Int32.toNatClampNeg y67) from by have h9 := i_clamp (x := z119) rfl (by omega); omega]
                                      have nr131 : (vp_nar .boolean 0).toInt = 0 := by decide
                                      have lt9 : fx23 < (gs.2.1 0).length := by have h9 := look_lt h24; rw [((keepS.tr (keepS.rf : keepS gs 0 gs) kq)).2.2.1 0 (by decide)] at h9; exact h9
                                      have cn132 : CNm V123 bq gs := CNm.up xlp69_1 hV123 (fun q9 => by have h9 := i_clamp (x := z99) rfl (by (first | exact om_eca9e79ec4c2 pgo gfr klp69_0.1 hz98 hz99 | omega)); unfold rdm at q9; omega)
                                      exact ihlp69 z124 V123 H locs ls (by first | exact om_a5349b170263 klp69_0.1 f97 hz124 | first | omega | ((try (have i_xlp40_2 := Imp.go xlp40_2 (by omega))); (try (have i_xlp5_3 := Imp.go xlp5_3 (by omega))); (try (have i_xlp5_3 := Imp.go xlp5_3 (by omega))); (try (have i_xlp40_2 := Imp.go xlp40_2 (by omega))); omega)) (UNx.st (u := 24 * bq + fx23) (y := (Int32.toNatClampNeg y67)) xlp69_0 hV123 kp128 (by omega) (by omega) (by omega) (xlp69_1.2.2.1 fx23 lt9) (show ((vp_nar .boolean 0)).toInt = 1 ↔ _ from iff_of_false (by decide) (fun h9 => h9.elim (fun h8 => by omega) (fun h8 => by omega)))) cn132 (by first | exact om_9592d9319ffa hn hz124 | first | omega | ((try (have i_xlp40_2 := Imp.go xlp40_2 (by omega))); (try (have i_xlp5_3 := Imp.go xlp5_3 (by omega))); (try (have i_xlp5_3 := Imp.go xlp5_3 (by omega))); (try (have i_xlp40_2 := Imp.go xlp40_2 (by omega))); omega)) (agr.up (agr.tr agr.rf ajV68 (by decide) (by decide)) hV123 rfl) hMV123 hP hD hS (lv_sub hl [0, 1, 2, 3, 4, 5, 6] rfl)
                                    · skip
                                      have f133 : ((V68 15 (Int32.toNatClampNeg z119))).toInt ≠ 0 := b_neq rfl (by decide) c121
                                      refine lv_iconst (v := 1) hx hb dX12_takeTypes_172 (by decide) ?_
                                      refine lv_goto (tgt := 177) hx hb dX12_takeTypes_173 (by decide) ?_
                                      refine va_zast (D := D) (i := z99) (x := 1) hx hb hK hP hD hS 8 7 rfl rfl (i_in (a := z99.toInt) rfl (by first | exact om_e21fd4bb223a rg_p1.1 rg_p1.2 klp69_0.1 f97 hz98 hz99 | first | omega | ((try (have i_xlp40_2 := Imp.go xlp40_2 (by omega))); (try (have i_xlp5_3 := Imp.go xlp5_3 (by omega))); (try (have i_xlp5_3 := Imp.go xlp5_3 (by omega))); (try (have i_xlp40_2 := Imp.go xlp40_2 (by omega))); omega))) dX12_takeTypes_177 (fun H locs hP hD hS => ?_)
                                      obtain ⟨V134, hV134⟩ : ∃ z, z = up2 V68 15 (Int32.toNatClampNeg z99) (vp_nar .boolean 1) := ⟨_, rfl⟩
                                      have hP : va_P D vwCl (mw ad kk ks.1 V134 L) H := by rw [hV134]; exact hP
                                      have hD : va_D A (mw ad kk ks.1 V134 L) := by rw [hV134]; exact hD
                                      have hMV134 : rgd bM V134 := hMV68.put hV134 (nar_b _)
                                      have agV134 : agr [(0, 7), (0, 8)] [15, 21, 53] V V134 := agV68.up hV134 rfl
                                      obtain ⟨z135, ez135⟩ : ∃ y : Int32, y = y67 + 1 := ⟨_, rfl⟩
                                      have hz135 : z135.toInt = y67.toInt + 1 := i_add ez135 rfl (by decide) (by (first | exact om_bc9106cf44c9 klp69_0.1 f97 | omega))
                                      refine lv_iinc (v := z135) (lv' := [(6, .int z135), (3, .int z65), (5, .int z16), (4, .int y1), (0, .ref (ad 0)), (1, .ref (ad 15)), (2, .int p1)]) hx hb dX12_takeTypes_178 hl (k := 0) rfl (by rw [ez135]; rfl) (by decide) rfl (fun ls hl => ?_)
                                      refine lv_goto (tgt := 121) hx hb dX12_takeTypes_181 (by decide) ?_
                                      have kc136 := i_clamp (x := y67) rfl (by (first | exact om_eafa9039069c klp69_0.1 | omega))
                                      have kp139 : (Int32.toNatClampNeg z99) = 24 * go + (Int32.toNatClampNeg y67) := by have h9 := i_clamp (x := z99) rfl (by (first | exact om_eca9e79ec4c2 pgo gfr klp69_0.1 hz98 hz99 | omega)); (first | exact om_b57d09e2e28e pgo hz98 hz99 kc136 h9 | omega)
                                      have kA137 : (V68 15 (Int32.toNatClampNeg z101)).toInt = (V68 15 (24 * go + (Int32.toNatClampNeg y67))).toInt := by rw [show Int32.toNatClampNeg z101 = 24 * go + (Int32.toNatClampNeg y67) from by have h9 := i_clamp (x := z101) rfl (by (first | exact om_eca9e79ec4c2 pgo gfr klp69_0.1 hz100 hz101 | omega)); omega]
                                      have r140 : 0 ≤ (V68 15 (24 * go + (Int32.toNatClampNeg y67))).toInt ∧ (V68 15 (24 * go + (Int32.toNatClampNeg y67))).toInt ≤ 1 := hMV68 15 _
                                      have r141 : 0 ≤ (V68 15 (24 * (24 * bq + fx23) + (Int32.toNatClampNeg y67))).toInt ∧ (V68 15 (24 * (24 * bq + fx23) + (Int32.toNatClampNeg y67))).toInt ≤ 1 := hMV68 15 _
                                      have kB138 : (V68 15 (Int32.toNatClampNeg z119)).toInt = (V68 15 (24 * (24 * bq + fx23) + (Int32.toNatClampNeg y67))).toInt := by rw [show Int32.toNatClampNeg z119 = 24 * (24 * bq + fx23) + (Int32.toNatClampNeg y67) from by have h9 := i_clamp (x := z119) rfl (by omega); omega]
                                      have nr142 : (vp_nar .boolean 1).toInt = 1 := by decide
                                      have lt9 : fx23 < (gs.2.1 0).length := by have h9 := look_lt h24; rw [((keepS.tr (keepS.rf : keepS gs 0 gs) kq)).2.2.1 0 (by decide)] at h9; exact h9
                                      have cn143 : CNm V134 bq gs := CNm.up xlp69_1 hV134 (fun q9 => by have h9 := i_clamp (x := z99) rfl (by (first | exact om_eca9e79ec4c2 pgo gfr klp69_0.1 hz98 hz99 | omega)); unfold rdm at q9; omega)
                                      exact ihlp69 z135 V134 H locs ls (by first | exact om_a5349b170263 klp69_0.1 f97 hz135 | first | omega | ((try (have i_xlp40_2 := Imp.go xlp40_2 (by omega))); (try (have i_xlp5_3 := Imp.go xlp5_3 (by omega))); (try (have i_xlp5_3 := Imp.go xlp5_3 (by omega))); (try (have i_xlp40_2 := Imp.go xlp40_2 (by omega))); omega)) (UNx.st (u := 24 * bq + fx23) (y := (Int32.toNatClampNeg y67)) xlp69_0 hV134 kp139 (by omega) (by omega) (by omega) (xlp69_1.2.2.1 fx23 lt9) (show ((vp_nar .boolean 1)).toInt = 1 ↔ _ from iff_of_true (by decide) (Or.inr (by omega)))) cn143 (by first | exact om_9592d9319ffa hn hz135 | first | omega | ((try (have i_xlp40_2 := Imp.go xlp40_2 (by omega))); (try (have i_xlp5_3 := Imp.go xlp5_3 (by omega))); (try (have i_xlp5_3 := Imp.go xlp5_3 (by omega))); (try (have i_xlp40_2 := Imp.go xlp40_2 (by omega))); omega)) (agr.up (agr.tr agr.rf ajV68 (by decide) (by decide)) hV134 rfl) hMV134 hP hD hS (lv_sub hl [0, 1, 2, 3, 4, 5, 6] rfl)
                            have r144 : Int32.toInt 0 = 0 := by decide
                            have cn145 : CNm V63 bq gs := CNm.ag cq (show agr [(0, 7), (0, 8)] [53] V3 V63 from (agr.up (agr.up (agr.tr (agr.up (agr.tr agr.rf ajV20 (by decide) (by decide)) hV32 rfl) ajV39 (by decide) (by decide)) hV52 rfl) hV63 rfl)) (by decide) keepC.rf
                            exact lp69 ((24 - (Int32.toInt 0) + 1 : Int).toNat) 0 V63 H locs ls (by decide) (UNx.z uq (by rw [(up2_fo hV63 (by decide) : V63 15 = V52 15), (up2_fo hV52 (by decide) : V52 15 = V39 15), (funext (fun q => ajV39 15 q rfl) : V39 15 = V32 15), (up2_fo hV32 (by decide) : V32 15 = V20 15), (funext (fun q => ajV20 15 q rfl) : V20 15 = V3 15)] : V63 15 = V3 15) (by decide)) cn145 (by first | exact om_817980d3aa47 | first | omega | ((try (have i_xlp40_2 := Imp.go xlp40_2 (by omega))); (try (have i_xlp5_3 := Imp.go xlp5_3 (by omega))); (try (have i_xlp5_3 := Imp.go xlp5_3 (by omega))); (try (have i_xlp40_2 := Imp.go xlp40_2 (by omega))); omega)) agr.rf hMV63 hP hD hS (lv_sub hl [0, 1, 2, 3, 4, 5, 6] rfl)
                        · skip
                          have f146 : y2.toInt = 6 := b_eq rfl (by decide) c49
                          refine lv_aload_n hx hb dX12_takeTypes_85 rfl (lv_at hl 4 rfl) ?_
                          refine lv_iconst (v := 5) hx hb dX12_takeTypes_86 (by decide) ?_
                          have r147 : Int32.toInt 5 = 5 := by decide
                          refine gA_void (gA_runV (As := [.int 5]) (rest := []) (ci := 12) (q0 := 0) hx hb hml hown hg hP hD hK hS hA hnw hgk (s_wrongA l D ks H.size ad kk V39 L 5 (bq) (gn) (gT) (s1) (gl) hMV39 (by decide) ri) w2035 w2037 w86 w172 w2038 rfl rfl hdV_yX12_wrong ⟨Nat.le_of_ble_eq_true rfl, Nat.le_of_ble_eq_true rfl⟩ rfl hl.1 rfl (Nat.le_of_ble_eq_true rfl) dX12_takeTypes_87 ⟨Nat.le_of_ble_eq_true rfl, Nat.le_of_ble_eq_true rfl⟩) hP hD hK hS hA (fun u149 H locs w150 hP hD hK hS => ?_)
                          obtain ⟨V153, L154⟩ := u149
                          obtain ⟨hMV153, ajV153, axL154, t151, t152⟩ := w150
                          have axL154 : L = L154 := Eq.symm axL154
                          subst axL154
                          have hP : va_P D vwCl (mw ad kk ks.1 V153 L) H := hP
                          have hD : va_D A (mw ad kk ks.1 V153 L) := hD
                          have hMV153 : rgd bM V153 := hMV153
                          have ajV153 : agr [(0, 8)] [] V39 V153 := ajV153
                          have agV153 : agr [(0, 7), (0, 8)] [15, 21, 53] V V153 := agV39.tr ajV153 (by decide) (by decide)
                          have t151 : 1 ≤ (V153 0 8).toInt := t151
                          have t152 : (V153 0 8).toInt = (Int32.toInt 5) + 16 * (gT).2.2 ((s1).1 0) := t152
                          have r155 : 0 ≤ ((V153 0 8)).toInt ∧ ((V153 0 8)).toInt ≤ 70000 := hMV153 0 8
                          have hb156 : ∀ k, Rc gT (Crun gs (Itypes gy gw 0 [] :: k)) (Cbad (V153 0 8).toInt) := fun k => Rc.go1 (hq k) ((ty_5 h24 (LST.no (LST.ag lq (by rw [(funext (fun q => ajV39 53 q rfl) : V39 53 = V32 53), (up2_fo hV32 (by decide) : V32 53 = V20 53), (funext (fun q => ajV20 53 q rfl) : V20 53 = V3 53)] : V39 53 = V3 53)) (fun k h9 => by rw [← hf26]; exact ni k (by omega))) (by omega)).trans (fl_eq rfl (show (V153 0 8).toInt = 5 + 16 * gT.2.2 (s1.1 0) from by omega)))
                          refine lv_aload_n hx hb dX12_takeTypes_90 rfl (lv_at hl 4 rfl) ?_
                          refine lv_dup hx hb dX12_takeTypes_91 rfl ?_
                          refine va_get (D := D) (ci := 12) (v := .int (V153 0 7)) (C := RX12) (T := TX12) (N := 100) hx hb hg inX12 hown hK hP 0 rfl rfl 7 (by decide) (hg _ w1713) (fun _ h9 => h9) rfl dX12_takeTypes_92 ?_
                          refine g_top (v := z31) ((ajV153 0 7 rfl).trans ((ajV39 0 7 rfl).trans (up2_s hV32))) ?_
                          refine lv_iconst (v := 1) hx hb dX12_takeTypes_95 (by decide) ?_
                          refine lv_iadd hx hb dX12_takeTypes_96 ?_
                          refine lv_topi (fun z157 ez157 => ?_)
                          have hz157 : z157.toInt = z31.toInt + 1 := i_add ez157 rfl (by decide) (by (first | exact om_37595bfb6665 rz34.1 rz34.2 | omega))
                          refine va_put (D := D) (ci := 12) (v := .int z157) (ty := tyX12 7) (C := RX12) (T := TX12) (N := 100) hx hb hg inX12 tyX12 tyX12_ok nmX12 hown hK hP hD hS 0 rfl rfl 7 (by decide) (hg _ w1713) (fun _ h9 => h9) rfl (tyX12_ok 7 (by decide)) rfl rfl (Nat.le_of_ble_eq_true rfl) dX12_takeTypes_97 (fun H locs hP hD hS => ?_)
                          obtain ⟨V158, hV158⟩ : ∃ z, z = up2 V153 0 7 z157 := ⟨_, rfl⟩
                          have hP : va_P D vwCl (mw ad kk ks.1 V158 L) H := by rw [hV158]; exact hP
                          have hD : va_D A (mw ad kk ks.1 V158 L) := by rw [hV158]; exact hD
                          have hMV158 : rgd bM V158 := hMV153.put hV158 (i_full _)
                          have agV158 : agr [(0, 7), (0, 8)] [15, 21, 53] V V158 := agV153.up hV158 rfl
                          refine lv_aload_n hx hb dX12_takeTypes_100 rfl (lv_at hl 4 rfl) ?_
                          refine va_get (D := D) (ci := 12) (v := .int (V158 0 8)) (C := RX12) (T := TX12) (N := 100) hx hb hg inX12 hown hK hP 0 rfl rfl 8 (by decide) (hg _ w1714) (fun _ h9 => h9) rfl dX12_takeTypes_101 ?_
                          refine g_top (v := (V153 0 8)) (up2_k hV158 (by decide)) ?_
                          refine lv_if_ne (tgt := 184) hx hb dX12_takeTypes_104 (by decide) (fun c159 => ?_) (fun c159 => ?_)
                          · skip
                            have f160 : ((V153 0 8)).toInt ≠ 0 := b_neq rfl (by decide) c159
                            refine lv_aload_n hx hb dX12_takeTypes_184 rfl (lv_at hl 4 rfl) ?_
                            refine lv_bipush (v := 44) hx hb dX12_takeTypes_185 (by decide) ?_
                            have r161 : Int32.toInt 44 = 44 := by decide
                            have pq162 : (V158 0 8).toInt = ((V153 0 8)).toInt := congrArg Int32.toInt (up2_k hV158 (by decide))
                            refine gA_int (gA_runV (As := [.int 44]) (rest := []) (ci := 12) (q0 := 0) hx hb hml hown hg hP hD hK hS hA hnw hgk (s_hasSignB l D ks H.size ad kk V158 L 44 hMV158 (show 1 ≤ (V158 0 8).toInt from by first | exact om_e3c391a03e81 t151 pq162 | first | omega | ((try (have i_xlp40_2 := Imp.go xlp40_2 (by omega))); (try (have i_xlp5_3 := Imp.go xlp5_3 (by omega))); (try (have i_xlp5_3 := Imp.go xlp5_3 (by omega))); (try (have i_xlp40_2 := Imp.go xlp40_2 (by omega))); omega))) w2067 w2069 w94 w172 w2070 rfl rfl hdV_yX12_hasSign ⟨Nat.le_of_ble_eq_true rfl, Nat.le_of_ble_eq_true rfl⟩ rfl hl.1 rfl (Nat.le_of_ble_eq_true rfl) dX12_takeTypes_187 ⟨Nat.le_of_ble_eq_true rfl, Nat.le_of_ble_eq_true rfl⟩) hP hD hK hS hA (fun z163 u164 H locs w165 hP hD hK hS => ?_)
                            obtain ⟨V167, L168⟩ := u164
                            obtain ⟨hMV167, ajV167, axL168, rgz163, t166⟩ := w165
                            have axL168 : L = L168 := Eq.symm axL168
                            subst axL168
                            have hP : va_P D vwCl (mw ad kk ks.1 V167 L) H := hP
                            have hD : va_D A (mw ad kk ks.1 V167 L) := hD
                            have hMV167 : rgd bM V167 := hMV167
                            have ajV167 : agr [(0, 7)] [] V158 V167 := ajV167
                            have agV167 : agr [(0, 7), (0, 8)] [15, 21, 53] V V167 := agV158.tr ajV167 (by decide) (by decide)
                            have rgz163 : 0 ≤ z163.toInt ∧ z163.toInt ≤ 0 := rgz163
                            have t166 : (V167 0 8).toInt = (V158 0 8).toInt := t166
                            have pq169 : (V167 0 8).toInt = ((V153 0 8)).toInt := congrArg Int32.toInt ((ajV167 0 8 rfl).trans (up2_k hV158 (by decide)))
                            refine lv_istore (lv' := [(4, .int z163), (6, .int y38), (5, .int z16), (3, .int y2), (0, .ref (ad 0)), (1, .ref (ad 15)), (2, .int p1)]) hx hb dX12_takeTypes_190 hl (by decide) rfl (fun ls hl => ?_)
                            refine lv_goto (tgt := 5) hx hb dX12_takeTypes_192 (by decide) ?_
                            have pq170 : (V167 0 12).toInt = ((V 0 12)).toInt := congrArg Int32.toInt ((ajV167 0 12 rfl).trans ((up2_k hV158 (by decide)).trans ((ajV153 0 12 rfl).trans ((ajV39 0 12 rfl).trans ((up2_k hV32 (by decide)).trans ((ajV20 0 12 rfl).trans (ajV3 0 12 rfl)))))))
                            exact ihlp5 (g4 - 1) z163 y2 V167 H locs ls (by first | exact om_641b3f05f166 rgz163.1 rgz163.2 | first | omega | ((try (have i_xlp40_2 := Imp.go xlp40_2 (by omega))); (try (have i_xlp5_3 := Imp.go xlp5_3 (by omega))); (try (have i_xlp5_3 := Imp.go xlp5_3 (by omega))); (try (have i_xlp40_2 := Imp.go xlp40_2 (by omega))); omega)) (by first | exact om_bcf072f18d8c klp5_1.2 f146 | first | omega | ((try (have i_xlp40_2 := Imp.go xlp40_2 (by omega))); (try (have i_xlp5_3 := Imp.go xlp5_3 (by omega))); (try (have i_xlp5_3 := Imp.go xlp5_3 (by omega))); (try (have i_xlp40_2 := Imp.go xlp40_2 (by omega))); omega)) (Or.inr (Or.inr ⟨(show 1 ≤ (V167 0 8).toInt from by (first | exact om_2487ca371d8b t151 pq162 t166 | omega)), (fun k => by rw [show (V167 0 8).toInt = (V153 0 8).toInt from by omega]; exact hb156 k)⟩)) (show 0 ≤ (g4 - 1) from by first | exact om_76a34b28fb8f klp5_1.2 ((Imp.go xlp5_3 (f15))) | first | omega | ((try (have i_xlp40_2 := Imp.go xlp40_2 (by omega))); (try (have i_xlp5_3 := Imp.go xlp5_3 (by omega))); (try (have i_xlp5_3 := Imp.go xlp5_3 (by omega))); (try (have i_xlp40_2 := Imp.go xlp40_2 (by omega))); omega)) (show y2.toInt ≤ 6 from by first | exact om_1cd470348f7c klp5_1.2 | first | omega | ((try (have i_xlp40_2 := Imp.go xlp40_2 (by omega))); (try (have i_xlp5_3 := Imp.go xlp5_3 (by omega))); (try (have i_xlp5_3 := Imp.go xlp5_3 (by omega))); (try (have i_xlp40_2 := Imp.go xlp40_2 (by omega))); omega)) (Imp.mk (fun hp => have hp : (V167 0 8).toInt = 0 := hp; (show 7 - y2.toInt < (g4 - 1) from by first | omega | ((try (have i_xlp40_2 := Imp.go xlp40_2 (by omega))); (try (have i_xlp5_3 := Imp.go xlp5_3 (by omega))); (try (have i_xlp5_3 := Imp.go xlp5_3 (by omega))); (try (have i_xlp40_2 := Imp.go xlp40_2 (by omega))); omega)))) (show (V167 0 12).toInt = (V 0 12).toInt from by first | exact om_570b691c1130 pq170 | first | omega | ((try (have i_xlp40_2 := Imp.go xlp40_2 (by omega))); (try (have i_xlp5_3 := Imp.go xlp5_3 (by omega))); (try (have i_xlp5_3 := Imp.go xlp5_3 (by omega))); (try (have i_xlp40_2 := Imp.go xlp40_2 (by omega))); omega)) (by first | omega | ((try (have i_xlp40_2 := Imp.go xlp40_2 (by omega))); (try (have i_xlp5_3 := Imp.go xlp5_3 (by omega))); (try (have i_xlp5_3 := Imp.go xlp5_3 (by omega))); (try (have i_xlp40_2 := Imp.go xlp40_2 (by omega))); omega)) (agr.tr (agr.up (agr.tr (agr.tr (agr.up (agr.tr (agr.tr agr.rf ajV3 (by decide) (by decide)) ajV20 (by decide) (by decide)) hV32 rfl) ajV39 (by decide) (by decide)) ajV153 (by decide) (by decide)) hV158 rfl) ajV167 (by decide) (by decide)) hMV167 hP hD hS (lv_sub hl [0, 3, 4, 5, 6] rfl)
                          · skip
                            have f171 : ((V153 0 8)).toInt = 0 := b_eq rfl (by decide) c159
                            exfalso; first | exact om_09885ab343b9 t151 f171 | first | omega | ((try (have i_xlp40_2 := Imp.go xlp40_2 (by omega))); (try (have i_xlp5_3 := Imp.go xlp5_3 (by omega))); (try (have i_xlp5_3 := Imp.go xlp5_3 (by omega))); (try (have i_xlp40_2 := Imp.go xlp40_2 (by omega))); omega)
                    · skip
                      have f172 : y38.toInt < y2.toInt := b_nle rfl rfl c44
                      refine lv_aload_n hx hb dX12_takeTypes_42 rfl (lv_at hl 4 rfl) ?_
                      refine va_get (D := D) (ci := 12) (v := .int (V39 0 8)) (C := RX12) (T := TX12) (N := 100) hx hb hg inX12 hown hK hP 0 rfl rfl 8 (by decide) (hg _ w1714) (fun _ h9 => h9) rfl dX12_takeTypes_43 ?_
                      refine lv_if_ne (tgt := 72) hx hb dX12_takeTypes_46 (by decide) (fun c173 => ?_) (fun c173 => ?_)
                      · skip
                        have f174 : ((V39 0 8)).toInt ≠ 0 := b_neq rfl (by decide) c173
                        exfalso; first | exact om_0b51723c7ef6 f7 f174 | first | omega | ((try (have i_xlp40_2 := Imp.go xlp40_2 (by omega))); (try (have i_xlp5_3 := Imp.go xlp5_3 (by omega))); (try (have i_xlp5_3 := Imp.go xlp5_3 (by omega))); (try (have i_xlp40_2 := Imp.go xlp40_2 (by omega))); omega)
                      · skip
                        have f175 : ((V39 0 8)).toInt = 0 := b_eq rfl (by decide) c173
                        refine lv_aload_n hx hb dX12_takeTypes_49 rfl (lv_at hl 4 rfl) ?_
                        refine va_get (D := D) (ci := 12) (v := .ref (ad 53)) (C := RX12) (T := TX12) (N := 100) hx hb hg inX12 hown hK hP 0 rfl rfl 53 (by decide) (hg _ w1759) (fun _ h9 => h9) rfl dX12_takeTypes_50 ?_
                        refine lv_iload hx hb dX12_takeTypes_53 (lv_at hl 0 rfl) ?_
                        refine va_iald (D := D) (i := y38) hx hb hK hP 41 40 rfl rfl (i_in (a := y38.toInt) rfl (by first | exact om_d031f10f3d19 klp5_1.2 klp40_0.1 f172 | first | omega | ((try (have i_xlp40_2 := Imp.go xlp40_2 (by omega))); (try (have i_xlp5_3 := Imp.go xlp5_3 (by omega))); (try (have i_xlp5_3 := Imp.go xlp5_3 (by omega))); (try (have i_xlp40_2 := Imp.go xlp40_2 (by omega))); omega))) dX12_takeTypes_55 ?_
                        refine g_top (v := (V3 53 (Int32.toNatClampNeg y38))) ((ajV39 53 (Int32.toNatClampNeg y38) rfl).trans ((up2_o hV32 (by decide)).trans (ajV20 53 (Int32.toNatClampNeg y38) rfl))) ?_
                        have r176 : (-1) ≤ ((V3 53 (Int32.toNatClampNeg y38))).toInt ∧ ((V3 53 (Int32.toNatClampNeg y38))).toInt ≤ 23 := hMV3 53 (Int32.toNatClampNeg y38)
                        refine lv_iload hx hb dX12_takeTypes_56 (lv_at hl 1 rfl) ?_
                        refine lv_icmp_ne (tgt := 66) hx hb dX12_takeTypes_58 (by decide) (fun c177 => ?_) (fun c177 => ?_)
                        · skip
                          have f178 : ((V3 53 (Int32.toNatClampNeg y38))).toInt ≠ z16.toInt := b_neq rfl rfl c177
                          obtain ⟨z179, ez179⟩ : ∃ y : Int32, y = y38 + 1 := ⟨_, rfl⟩
                          have hz179 : z179.toInt = y38.toInt + 1 := i_add ez179 rfl (by decide) (by (first | exact om_65d898249a5b klp5_1.2 klp40_0.1 f172 | omega))
                          refine lv_iinc (v := z179) (lv' := [(6, .int z179), (5, .int z16), (4, .int y1), (3, .int y2), (0, .ref (ad 0)), (1, .ref (ad 15)), (2, .int p1)]) hx hb dX12_takeTypes_66 hl (k := 0) rfl (by rw [ez179]; rfl) (by decide) rfl (fun ls hl => ?_)
                          refine lv_goto (tgt := 36) hx hb dX12_takeTypes_69 (by decide) ?_
                          have kc180 := i_clamp (x := y38) rfl (by (first | exact om_eafa9039069c klp40_0.1 | omega))
                          have pq181 : (V39 53 (Int32.toNatClampNeg y38)).toInt = ((V3 53 (Int32.toNatClampNeg y38))).toInt := congrArg Int32.toInt ((ajV39 53 (Int32.toNatClampNeg y38) rfl).trans ((up2_o hV32 (by decide)).trans (ajV20 53 (Int32.toNatClampNeg y38) rfl)))
                          exact ihlp40 z179 V39 H locs ls (by first | exact om_d043005af2aa klp5_1.2 klp40_0.1 f172 hz179 | first | omega | ((try (have i_xlp40_2 := Imp.go xlp40_2 (by omega))); (try (have i_xlp5_3 := Imp.go xlp5_3 (by omega))); (try (have i_xlp5_3 := Imp.go xlp5_3 (by omega))); (try (have i_xlp40_2 := Imp.go xlp40_2 (by omega))); omega)) (Or.inl ⟨W0 ri, ri, fun k h9 => by by_cases c9 : (k : Int) < y38.toInt; exact ni k c9; have ek : k = Int32.toNatClampNeg y38 := (by omega); rw [ek]; omega⟩) (show z179.toInt ≤ y2.toInt from by first | exact om_7fe9249fc074 f172 hz179 | first | omega | ((try (have i_xlp40_2 := Imp.go xlp40_2 (by omega))); (try (have i_xlp5_3 := Imp.go xlp5_3 (by omega))); (try (have i_xlp5_3 := Imp.go xlp5_3 (by omega))); (try (have i_xlp40_2 := Imp.go xlp40_2 (by omega))); omega)) (Imp.mk (fun hp => have hp : 1 ≤ (V32 0 8).toInt := hp; (show (V39 0 8).toInt = (V32 0 8).toInt from by first | omega | ((try (have i_xlp40_2 := Imp.go xlp40_2 (by omega))); (try (have i_xlp5_3 := Imp.go xlp5_3 (by omega))); (try (have i_xlp5_3 := Imp.go xlp5_3 (by omega))); (try (have i_xlp40_2 := Imp.go xlp40_2 (by omega))); omega)))) (by first | exact om_9e7d2b874257 hn hz179 | first | omega | ((try (have i_xlp40_2 := Imp.go xlp40_2 (by omega))); (try (have i_xlp5_3 := Imp.go xlp5_3 (by omega))); (try (have i_xlp5_3 := Imp.go xlp5_3 (by omega))); (try (have i_xlp40_2 := Imp.go xlp40_2 (by omega))); omega)) (agr.tr agr.rf ajV39 (by decide) (by decide)) hMV39 hP hD hS (lv_sub hl [0, 1, 2, 3, 4, 5, 6] rfl)
                        · skip
                          have f182 : ((V3 53 (Int32.toNatClampNeg y38))).toInt = z16.toInt := b_eq rfl rfl c177
                          refine lv_aload_n hx hb dX12_takeTypes_61 rfl (lv_at hl 4 rfl) ?_
                          refine lv_iconst (v := 3) hx hb dX12_takeTypes_62 (by decide) ?_
                          have r183 : Int32.toInt 3 = 3 := by decide
                          refine gA_void (gA_runV (As := [.int 3]) (rest := []) (ci := 12) (q0 := 0) hx hb hml hown hg hP hD hK hS hA hnw hgk (s_wrongA l D ks H.size ad kk V39 L 3 (bq) (gn) (gT) (s1) (gl) hMV39 (by decide) ri) w2035 w2037 w86 w172 w2038 rfl rfl hdV_yX12_wrong ⟨Nat.le_of_ble_eq_true rfl, Nat.le_of_ble_eq_true rfl⟩ rfl hl.1 rfl (Nat.le_of_ble_eq_true rfl) dX12_takeTypes_63 ⟨Nat.le_of_ble_eq_true rfl, Nat.le_of_ble_eq_true rfl⟩) hP hD hK hS hA (fun u185 H locs w186 hP hD hK hS => ?_)
                          obtain ⟨V189, L190⟩ := u185
                          obtain ⟨hMV189, ajV189, axL190, t187, t188⟩ := w186
                          have axL190 : L = L190 := Eq.symm axL190
                          subst axL190
                          have hP : va_P D vwCl (mw ad kk ks.1 V189 L) H := hP
                          have hD : va_D A (mw ad kk ks.1 V189 L) := hD
                          have hMV189 : rgd bM V189 := hMV189
                          have ajV189 : agr [(0, 8)] [] V39 V189 := ajV189
                          have agV189 : agr [(0, 7), (0, 8)] [15, 21, 53] V V189 := agV39.tr ajV189 (by decide) (by decide)
                          have t187 : 1 ≤ (V189 0 8).toInt := t187
                          have t188 : (V189 0 8).toInt = (Int32.toInt 3) + 16 * (gT).2.2 ((s1).1 0) := t188
                          have r191 : 0 ≤ ((V189 0 8)).toInt ∧ ((V189 0 8)).toInt ≤ 70000 := hMV189 0 8
                          have kc192 := i_clamp (x := y38) rfl (by (first | exact om_eafa9039069c klp40_0.1 | omega))
                          have hb193 : ∀ k, Rc gT (Crun gs (Itypes gy gw 0 [] :: k)) (Cbad (V189 0 8).toInt) := fun k => Rc.go1 (hq k) ((ty_3 h24 ((lq fx23).mpr ⟨Int32.toNatClampNeg y38, by omega, by omega⟩)).trans (fl_eq rfl (show (V189 0 8).toInt = 3 + 16 * gT.2.2 (s1.1 0) from by omega)))
                          obtain ⟨z194, ez194⟩ : ∃ y : Int32, y = y38 + 1 := ⟨_, rfl⟩
                          have hz194 : z194.toInt = y38.toInt + 1 := i_add ez194 rfl (by decide) (by (first | exact om_65d898249a5b klp5_1.2 klp40_0.1 f172 | omega))
                          refine lv_iinc (v := z194) (lv' := [(6, .int z194), (5, .int z16), (4, .int y1), (3, .int y2), (0, .ref (ad 0)), (1, .ref (ad 15)), (2, .int p1)]) hx hb dX12_takeTypes_66 hl (k := 0) rfl (by rw [ez194]; rfl) (by decide) rfl (fun ls hl => ?_)
                          refine lv_goto (tgt := 36) hx hb dX12_takeTypes_69 (by decide) ?_
                          exact ihlp40 z194 V189 H locs ls (by first | exact om_d043005af2aa klp5_1.2 klp40_0.1 f172 hz194 | first | omega | ((try (have i_xlp40_2 := Imp.go xlp40_2 (by omega))); (try (have i_xlp5_3 := Imp.go xlp5_3 (by omega))); (try (have i_xlp5_3 := Imp.go xlp5_3 (by omega))); (try (have i_xlp40_2 := Imp.go xlp40_2 (by omega))); omega)) (Or.inr ⟨(show 1 ≤ (V189 0 8).toInt from by (first | exact om_f8d8213eda45 t187 | omega)), hb193⟩) (show z194.toInt ≤ y2.toInt from by first | exact om_7fe9249fc074 f172 hz194 | first | omega | ((try (have i_xlp40_2 := Imp.go xlp40_2 (by omega))); (try (have i_xlp5_3 := Imp.go xlp5_3 (by omega))); (try (have i_xlp5_3 := Imp.go xlp5_3 (by omega))); (try (have i_xlp40_2 := Imp.go xlp40_2 (by omega))); omega)) (Imp.mk (fun hp => have hp : 1 ≤ (V32 0 8).toInt := hp; (show (V189 0 8).toInt = (V32 0 8).toInt from by first | omega | ((try (have i_xlp40_2 := Imp.go xlp40_2 (by omega))); (try (have i_xlp5_3 := Imp.go xlp5_3 (by omega))); (try (have i_xlp5_3 := Imp.go xlp5_3 (by omega))); (try (have i_xlp40_2 := Imp.go xlp40_2 (by omega))); omega)))) (by first | exact om_9e7d2b874257 hn hz194 | first | omega | ((try (have i_xlp40_2 := Imp.go xlp40_2 (by omega))); (try (have i_xlp5_3 := Imp.go xlp5_3 (by omega))); (try (have i_xlp5_3 := Imp.go xlp5_3 (by omega))); (try (have i_xlp40_2 := Imp.go xlp40_2 (by omega))); omega)) (agr.tr (agr.tr agr.rf ajV39 (by decide) (by decide)) ajV189 (by decide) (by decide)) hMV189 hP hD hS (lv_sub hl [0, 1, 2, 3, 4, 5, 6] rfl)
                  · skip
                    have r195 : 0 ≤ ((V39 0 8)).toInt ∧ ((V39 0 8)).toInt ≤ 70000 := hMV39 0 8
                    refine lv_iload_n hx hb dX12_takeTypes_38 rfl (lv_at hl 3 rfl) ?_
                    refine lv_icmp_ge (tgt := 72) hx hb dX12_takeTypes_39 (by decide) (fun c196 => ?_) (fun c196 => ?_)
                    · skip
                      have f197 : y2.toInt ≤ y38.toInt := b_le rfl rfl c196
                      refine lv_aload_n hx hb dX12_takeTypes_72 rfl (lv_at hl 4 rfl) ?_
                      refine va_get (D := D) (ci := 12) (v := .int (V39 0 8)) (C := RX12) (T := TX12) (N := 100) hx hb hg inX12 hown hK hP 0 rfl rfl 8 (by decide) (hg _ w1714) (fun _ h9 => h9) rfl dX12_takeTypes_73 ?_
                      refine lv_if_ne (tgt := 90) hx hb dX12_takeTypes_76 (by decide) (fun c198 => ?_) (fun c198 => ?_)
                      · skip
                        have f199 : ((V39 0 8)).toInt ≠ 0 := b_neq rfl (by decide) c198
                        refine lv_aload_n hx hb dX12_takeTypes_90 rfl (lv_at hl 4 rfl) ?_
                        refine lv_dup hx hb dX12_takeTypes_91 rfl ?_
                        refine va_get (D := D) (ci := 12) (v := .int (V39 0 7)) (C := RX12) (T := TX12) (N := 100) hx hb hg inX12 hown hK hP 0 rfl rfl 7 (by decide) (hg _ w1713) (fun _ h9 => h9) rfl dX12_takeTypes_92 ?_
                        refine g_top (v := z31) ((ajV39 0 7 rfl).trans (up2_s hV32)) ?_
                        refine lv_iconst (v := 1) hx hb dX12_takeTypes_95 (by decide) ?_
                        refine lv_iadd hx hb dX12_takeTypes_96 ?_
                        refine lv_topi (fun z200 ez200 => ?_)
                        have hz200 : z200.toInt = z31.toInt + 1 := i_add ez200 rfl (by decide) (by (first | exact om_37595bfb6665 rz34.1 rz34.2 | omega))
                        refine va_put (D := D) (ci := 12) (v := .int z200) (ty := tyX12 7) (C := RX12) (T := TX12) (N := 100) hx hb hg inX12 tyX12 tyX12_ok nmX12 hown hK hP hD hS 0 rfl rfl 7 (by decide) (hg _ w1713) (fun _ h9 => h9) rfl (tyX12_ok 7 (by decide)) rfl rfl (Nat.le_of_ble_eq_true rfl) dX12_takeTypes_97 (fun H locs hP hD hS => ?_)
                        obtain ⟨V201, hV201⟩ : ∃ z, z = up2 V39 0 7 z200 := ⟨_, rfl⟩
                        have hP : va_P D vwCl (mw ad kk ks.1 V201 L) H := by rw [hV201]; exact hP
                        have hD : va_D A (mw ad kk ks.1 V201 L) := by rw [hV201]; exact hD
                        have hMV201 : rgd bM V201 := hMV39.put hV201 (i_full _)
                        have agV201 : agr [(0, 7), (0, 8)] [15, 21, 53] V V201 := agV39.up hV201 rfl
                        refine lv_aload_n hx hb dX12_takeTypes_100 rfl (lv_at hl 4 rfl) ?_
                        refine va_get (D := D) (ci := 12) (v := .int (V201 0 8)) (C := RX12) (T := TX12) (N := 100) hx hb hg inX12 hown hK hP 0 rfl rfl 8 (by decide) (hg _ w1714) (fun _ h9 => h9) rfl dX12_takeTypes_101 ?_
                        refine g_top (v := (V39 0 8)) (up2_k hV201 (by decide)) ?_
                        refine lv_if_ne (tgt := 184) hx hb dX12_takeTypes_104 (by decide) (fun c202 => ?_) (fun c202 => ?_)
                        · skip
                          have f203 : ((V39 0 8)).toInt ≠ 0 := b_neq rfl (by decide) c202
                          refine lv_aload_n hx hb dX12_takeTypes_184 rfl (lv_at hl 4 rfl) ?_
                          refine lv_bipush (v := 44) hx hb dX12_takeTypes_185 (by decide) ?_
                          have r204 : Int32.toInt 44 = 44 := by decide
                          have pq205 : (V201 0 8).toInt = ((V39 0 8)).toInt := congrArg Int32.toInt (up2_k hV201 (by decide))
                          refine gA_int (gA_runV (As := [.int 44]) (rest := []) (ci := 12) (q0 := 0) hx hb hml hown hg hP hD hK hS hA hnw hgk (s_hasSignB l D ks H.size ad kk V201 L 44 hMV201 (show 1 ≤ (V201 0 8).toInt from by first | exact om_1499017b39b7 r195.1 f199 pq205 | first | omega | ((try (have i_xlp40_2 := Imp.go xlp40_2 (by omega))); (try (have i_xlp5_3 := Imp.go xlp5_3 (by omega))); (try (have i_xlp5_3 := Imp.go xlp5_3 (by omega))); (try (have i_xlp40_2 := Imp.go xlp40_2 (by omega))); omega))) w2067 w2069 w94 w172 w2070 rfl rfl hdV_yX12_hasSign ⟨Nat.le_of_ble_eq_true rfl, Nat.le_of_ble_eq_true rfl⟩ rfl hl.1 rfl (Nat.le_of_ble_eq_true rfl) dX12_takeTypes_187 ⟨Nat.le_of_ble_eq_true rfl, Nat.le_of_ble_eq_true rfl⟩) hP hD hK hS hA (fun z206 u207 H locs w208 hP hD hK hS => ?_)
                          obtain ⟨V210, L211⟩ := u207
                          obtain ⟨hMV210, ajV210, axL211, rgz206, t209⟩ := w208
                          have axL211 : L = L211 := Eq.symm axL211
                          subst axL211
                          have hP : va_P D vwCl (mw ad kk ks.1 V210 L) H := hP
                          have hD : va_D A (mw ad kk ks.1 V210 L) := hD
                          have hMV210 : rgd bM V210 := hMV210
                          have ajV210 : agr [(0, 7)] [] V201 V210 := ajV210
                          have agV210 : agr [(0, 7), (0, 8)] [15, 21, 53] V V210 := agV201.tr ajV210 (by decide) (by decide)
                          have rgz206 : 0 ≤ z206.toInt ∧ z206.toInt ≤ 0 := rgz206
                          have t209 : (V210 0 8).toInt = (V201 0 8).toInt := t209
                          have pq212 : (V210 0 8).toInt = ((V39 0 8)).toInt := congrArg Int32.toInt ((ajV210 0 8 rfl).trans (up2_k hV201 (by decide)))
                          refine lv_istore (lv' := [(4, .int z206), (6, .int y38), (5, .int z16), (3, .int y2), (0, .ref (ad 0)), (1, .ref (ad 15)), (2, .int p1)]) hx hb dX12_takeTypes_190 hl (by decide) rfl (fun ls hl => ?_)
                          refine lv_goto (tgt := 5) hx hb dX12_takeTypes_192 (by decide) ?_
                          have pq213 : (V210 0 12).toInt = ((V 0 12)).toInt := congrArg Int32.toInt ((ajV210 0 12 rfl).trans ((up2_k hV201 (by decide)).trans ((ajV39 0 12 rfl).trans ((up2_k hV32 (by decide)).trans ((ajV20 0 12 rfl).trans (ajV3 0 12 rfl))))))
                          exact ihlp5 (g4 - 1) z206 y2 V210 H locs ls (by first | exact om_641b3f05f166 rgz206.1 rgz206.2 | first | omega | ((try (have i_xlp40_2 := Imp.go xlp40_2 (by omega))); (try (have i_xlp5_3 := Imp.go xlp5_3 (by omega))); (try (have i_xlp5_3 := Imp.go xlp5_3 (by omega))); (try (have i_xlp40_2 := Imp.go xlp40_2 (by omega))); omega)) (by first | exact om_5de5485ce193 klp40_0.1 klp40_0.2 xlp40_1 f197 | first | omega | ((try (have i_xlp40_2 := Imp.go xlp40_2 (by omega))); (try (have i_xlp5_3 := Imp.go xlp5_3 (by omega))); (try (have i_xlp5_3 := Imp.go xlp5_3 (by omega))); (try (have i_xlp40_2 := Imp.go xlp40_2 (by omega))); omega)) (Or.inr (Or.inr ⟨(show 1 ≤ (V210 0 8).toInt from by (first | exact om_14e1582db31a r195.1 f199 pq205 t209 | omega)), (fun k => by rw [show (V210 0 8).toInt = (V39 0 8).toInt from by omega]; exact hi k)⟩)) (show 0 ≤ (g4 - 1) from by first | exact om_53bb2050c72d klp40_0.2 f197 ((Imp.go xlp5_3 (f15))) | first | omega | ((try (have i_xlp40_2 := Imp.go xlp40_2 (by omega))); (try (have i_xlp5_3 := Imp.go xlp5_3 (by omega))); (try (have i_xlp5_3 := Imp.go xlp5_3 (by omega))); (try (have i_xlp40_2 := Imp.go xlp40_2 (by omega))); omega)) (show y2.toInt ≤ 6 from by first | exact om_95b7a1d732ac klp40_0.2 f197 | first | omega | ((try (have i_xlp40_2 := Imp.go xlp40_2 (by omega))); (try (have i_xlp5_3 := Imp.go xlp5_3 (by omega))); (try (have i_xlp5_3 := Imp.go xlp5_3 (by omega))); (try (have i_xlp40_2 := Imp.go xlp40_2 (by omega))); omega)) (Imp.mk (fun hp => have hp : (V210 0 8).toInt = 0 := hp; (show 7 - y2.toInt < (g4 - 1) from by first | omega | ((try (have i_xlp40_2 := Imp.go xlp40_2 (by omega))); (try (have i_xlp5_3 := Imp.go xlp5_3 (by omega))); (try (have i_xlp5_3 := Imp.go xlp5_3 (by omega))); (try (have i_xlp40_2 := Imp.go xlp40_2 (by omega))); omega)))) (show (V210 0 12).toInt = (V 0 12).toInt from by first | exact om_570b691c1130 pq213 | first | omega | ((try (have i_xlp40_2 := Imp.go xlp40_2 (by omega))); (try (have i_xlp5_3 := Imp.go xlp5_3 (by omega))); (try (have i_xlp5_3 := Imp.go xlp5_3 (by omega))); (try (have i_xlp40_2 := Imp.go xlp40_2 (by omega))); omega)) (by first | omega | ((try (have i_xlp40_2 := Imp.go xlp40_2 (by omega))); (try (have i_xlp5_3 := Imp.go xlp5_3 (by omega))); (try (have i_xlp5_3 := Imp.go xlp5_3 (by omega))); (try (have i_xlp40_2 := Imp.go xlp40_2 (by omega))); omega)) (agr.tr (agr.up (agr.tr (agr.up (agr.tr (agr.tr agr.rf ajV3 (by decide) (by decide)) ajV20 (by decide) (by decide)) hV32 rfl) ajV39 (by decide) (by decide)) hV201 rfl) ajV210 (by decide) (by decide)) hMV210 hP hD hS (lv_sub hl [0, 3, 4, 5, 6] rfl)
                        · skip
                          have f214 : ((V39 0 8)).toInt = 0 := b_eq rfl (by decide) c202
                          exfalso; first | exact om_0abcda13baee r195.1 f199 f214 | first | omega | ((try (have i_xlp40_2 := Imp.go xlp40_2 (by omega))); (try (have i_xlp5_3 := Imp.go xlp5_3 (by omega))); (try (have i_xlp5_3 := Imp.go xlp5_3 (by omega))); (try (have i_xlp40_2 := Imp.go xlp40_2 (by omega))); omega)
                      · skip
                        have f215 : ((V39 0 8)).toInt = 0 := b_eq rfl (by decide) c198
                        exfalso; first | exact om_09885ab343b9 f7 f215 | first | omega | ((try (have i_xlp40_2 := Imp.go xlp40_2 (by omega))); (try (have i_xlp5_3 := Imp.go xlp5_3 (by omega))); (try (have i_xlp5_3 := Imp.go xlp5_3 (by omega))); (try (have i_xlp40_2 := Imp.go xlp40_2 (by omega))); omega)
                    · skip
                      have f216 : y38.toInt < y2.toInt := b_nle rfl rfl c196
                      refine lv_aload_n hx hb dX12_takeTypes_42 rfl (lv_at hl 4 rfl) ?_
                      refine va_get (D := D) (ci := 12) (v := .int (V39 0 8)) (C := RX12) (T := TX12) (N := 100) hx hb hg inX12 hown hK hP 0 rfl rfl 8 (by decide) (hg _ w1714) (fun _ h9 => h9) rfl dX12_takeTypes_43 ?_
                      refine lv_if_ne (tgt := 72) hx hb dX12_takeTypes_46 (by decide) (fun c217 => ?_) (fun c217 => ?_)
                      · skip
                        have f218 : ((V39 0 8)).toInt ≠ 0 := b_neq rfl (by decide) c217
                        refine lv_aload_n hx hb dX12_takeTypes_72 rfl (lv_at hl 4 rfl) ?_
                        refine va_get (D := D) (ci := 12) (v := .int (V39 0 8)) (C := RX12) (T := TX12) (N := 100) hx hb hg inX12 hown hK hP 0 rfl rfl 8 (by decide) (hg _ w1714) (fun _ h9 => h9) rfl dX12_takeTypes_73 ?_
                        refine lv_if_ne (tgt := 90) hx hb dX12_takeTypes_76 (by decide) (fun c219 => ?_) (fun c219 => ?_)
                        · skip
                          have f220 : ((V39 0 8)).toInt ≠ 0 := b_neq rfl (by decide) c219
                          refine lv_aload_n hx hb dX12_takeTypes_90 rfl (lv_at hl 4 rfl) ?_
                          refine lv_dup hx hb dX12_takeTypes_91 rfl ?_
                          refine va_get (D := D) (ci := 12) (v := .int (V39 0 7)) (C := RX12) (T := TX12) (N := 100) hx hb hg inX12 hown hK hP 0 rfl rfl 7 (by decide) (hg _ w1713) (fun _ h9 => h9) rfl dX12_takeTypes_92 ?_
                          refine g_top (v := z31) ((ajV39 0 7 rfl).trans (up2_s hV32)) ?_
                          refine lv_iconst (v := 1) hx hb dX12_takeTypes_95 (by decide) ?_
                          refine lv_iadd hx hb dX12_takeTypes_96 ?_
                          refine lv_topi (fun z221 ez221 => ?_)
                          have hz221 : z221.toInt = z31.toInt + 1 := i_add ez221 rfl (by decide) (by (first | exact om_37595bfb6665 rz34.1 rz34.2 | omega))
                          refine va_put (D := D) (ci := 12) (v := .int z221) (ty := tyX12 7) (C := RX12) (T := TX12) (N := 100) hx hb hg inX12 tyX12 tyX12_ok nmX12 hown hK hP hD hS 0 rfl rfl 7 (by decide) (hg _ w1713) (fun _ h9 => h9) rfl (tyX12_ok 7 (by decide)) rfl rfl (Nat.le_of_ble_eq_true rfl) dX12_takeTypes_97 (fun H locs hP hD hS => ?_)
                          obtain ⟨V222, hV222⟩ : ∃ z, z = up2 V39 0 7 z221 := ⟨_, rfl⟩
                          have hP : va_P D vwCl (mw ad kk ks.1 V222 L) H := by rw [hV222]; exact hP
                          have hD : va_D A (mw ad kk ks.1 V222 L) := by rw [hV222]; exact hD
                          have hMV222 : rgd bM V222 := hMV39.put hV222 (i_full _)
                          have agV222 : agr [(0, 7), (0, 8)] [15, 21, 53] V V222 := agV39.up hV222 rfl
                          refine lv_aload_n hx hb dX12_takeTypes_100 rfl (lv_at hl 4 rfl) ?_
                          refine va_get (D := D) (ci := 12) (v := .int (V222 0 8)) (C := RX12) (T := TX12) (N := 100) hx hb hg inX12 hown hK hP 0 rfl rfl 8 (by decide) (hg _ w1714) (fun _ h9 => h9) rfl dX12_takeTypes_101 ?_
                          refine g_top (v := (V39 0 8)) (up2_k hV222 (by decide)) ?_
                          refine lv_if_ne (tgt := 184) hx hb dX12_takeTypes_104 (by decide) (fun c223 => ?_) (fun c223 => ?_)
                          · skip
                            have f224 : ((V39 0 8)).toInt ≠ 0 := b_neq rfl (by decide) c223
                            refine lv_aload_n hx hb dX12_takeTypes_184 rfl (lv_at hl 4 rfl) ?_
                            refine lv_bipush (v := 44) hx hb dX12_takeTypes_185 (by decide) ?_
                            have r225 : Int32.toInt 44 = 44 := by decide
                            have pq226 : (V222 0 8).toInt = ((V39 0 8)).toInt := congrArg Int32.toInt (up2_k hV222 (by decide))
                            refine gA_int (gA_runV (As := [.int 44]) (rest := []) (ci := 12) (q0 := 0) hx hb hml hown hg hP hD hK hS hA hnw hgk (s_hasSignB l D ks H.size ad kk V222 L 44 hMV222 (show 1 ≤ (V222 0 8).toInt from by first | exact om_1499017b39b7 r195.1 f218 pq226 | first | omega | ((try (have i_xlp40_2 := Imp.go xlp40_2 (by omega))); (try (have i_xlp5_3 := Imp.go xlp5_3 (by omega))); (try (have i_xlp5_3 := Imp.go xlp5_3 (by omega))); (try (have i_xlp40_2 := Imp.go xlp40_2 (by omega))); omega))) w2067 w2069 w94 w172 w2070 rfl rfl hdV_yX12_hasSign ⟨Nat.le_of_ble_eq_true rfl, Nat.le_of_ble_eq_true rfl⟩ rfl hl.1 rfl (Nat.le_of_ble_eq_true rfl) dX12_takeTypes_187 ⟨Nat.le_of_ble_eq_true rfl, Nat.le_of_ble_eq_true rfl⟩) hP hD hK hS hA (fun z227 u228 H locs w229 hP hD hK hS => ?_)
                            obtain ⟨V231, L232⟩ := u228
                            obtain ⟨hMV231, ajV231, axL232, rgz227, t230⟩ := w229
                            have axL232 : L = L232 := Eq.symm axL232
                            subst axL232
                            have hP : va_P D vwCl (mw ad kk ks.1 V231 L) H := hP
                            have hD : va_D A (mw ad kk ks.1 V231 L) := hD
                            have hMV231 : rgd bM V231 := hMV231
                            have ajV231 : agr [(0, 7)] [] V222 V231 := ajV231
                            have agV231 : agr [(0, 7), (0, 8)] [15, 21, 53] V V231 := agV222.tr ajV231 (by decide) (by decide)
                            have rgz227 : 0 ≤ z227.toInt ∧ z227.toInt ≤ 0 := rgz227
                            have t230 : (V231 0 8).toInt = (V222 0 8).toInt := t230
                            have pq233 : (V231 0 8).toInt = ((V39 0 8)).toInt := congrArg Int32.toInt ((ajV231 0 8 rfl).trans (up2_k hV222 (by decide)))
                            refine lv_istore (lv' := [(4, .int z227), (6, .int y38), (5, .int z16), (3, .int y2), (0, .ref (ad 0)), (1, .ref (ad 15)), (2, .int p1)]) hx hb dX12_takeTypes_190 hl (by decide) rfl (fun ls hl => ?_)
                            refine lv_goto (tgt := 5) hx hb dX12_takeTypes_192 (by decide) ?_
                            have pq234 : (V231 0 12).toInt = ((V 0 12)).toInt := congrArg Int32.toInt ((ajV231 0 12 rfl).trans ((up2_k hV222 (by decide)).trans ((ajV39 0 12 rfl).trans ((up2_k hV32 (by decide)).trans ((ajV20 0 12 rfl).trans (ajV3 0 12 rfl))))))
                            exact ihlp5 (g4 - 1) z227 y2 V231 H locs ls (by first | exact om_641b3f05f166 rgz227.1 rgz227.2 | first | omega | ((try (have i_xlp40_2 := Imp.go xlp40_2 (by omega))); (try (have i_xlp5_3 := Imp.go xlp5_3 (by omega))); (try (have i_xlp5_3 := Imp.go xlp5_3 (by omega))); (try (have i_xlp40_2 := Imp.go xlp40_2 (by omega))); omega)) (by first | exact om_420c7ba86e3d klp5_1.2 klp40_0.1 f216 | first | omega | ((try (have i_xlp40_2 := Imp.go xlp40_2 (by omega))); (try (have i_xlp5_3 := Imp.go xlp5_3 (by omega))); (try (have i_xlp5_3 := Imp.go xlp5_3 (by omega))); (try (have i_xlp40_2 := Imp.go xlp40_2 (by omega))); omega)) (Or.inr (Or.inr ⟨(show 1 ≤ (V231 0 8).toInt from by (first | exact om_14e1582db31a r195.1 f218 pq226 t230 | omega)), (fun k => by rw [show (V231 0 8).toInt = (V39 0 8).toInt from by omega]; exact hi k)⟩)) (show 0 ≤ (g4 - 1) from by first | exact om_76a34b28fb8f klp5_1.2 ((Imp.go xlp5_3 (f15))) | first | omega | ((try (have i_xlp40_2 := Imp.go xlp40_2 (by omega))); (try (have i_xlp5_3 := Imp.go xlp5_3 (by omega))); (try (have i_xlp5_3 := Imp.go xlp5_3 (by omega))); (try (have i_xlp40_2 := Imp.go xlp40_2 (by omega))); omega)) (show y2.toInt ≤ 6 from by first | exact om_1cd470348f7c klp5_1.2 | first | omega | ((try (have i_xlp40_2 := Imp.go xlp40_2 (by omega))); (try (have i_xlp5_3 := Imp.go xlp5_3 (by omega))); (try (have i_xlp5_3 := Imp.go xlp5_3 (by omega))); (try (have i_xlp40_2 := Imp.go xlp40_2 (by omega))); omega)) (Imp.mk (fun hp => have hp : (V231 0 8).toInt = 0 := hp; (show 7 - y2.toInt < (g4 - 1) from by first | omega | ((try (have i_xlp40_2 := Imp.go xlp40_2 (by omega))); (try (have i_xlp5_3 := Imp.go xlp5_3 (by omega))); (try (have i_xlp5_3 := Imp.go xlp5_3 (by omega))); (try (have i_xlp40_2 := Imp.go xlp40_2 (by omega))); omega)))) (show (V231 0 12).toInt = (V 0 12).toInt from by first | exact om_570b691c1130 pq234 | first | omega | ((try (have i_xlp40_2 := Imp.go xlp40_2 (by omega))); (try (have i_xlp5_3 := Imp.go xlp5_3 (by omega))); (try (have i_xlp5_3 := Imp.go xlp5_3 (by omega))); (try (have i_xlp40_2 := Imp.go xlp40_2 (by omega))); omega)) (by first | omega | ((try (have i_xlp40_2 := Imp.go xlp40_2 (by omega))); (try (have i_xlp5_3 := Imp.go xlp5_3 (by omega))); (try (have i_xlp5_3 := Imp.go xlp5_3 (by omega))); (try (have i_xlp40_2 := Imp.go xlp40_2 (by omega))); omega)) (agr.tr (agr.up (agr.tr (agr.up (agr.tr (agr.tr agr.rf ajV3 (by decide) (by decide)) ajV20 (by decide) (by decide)) hV32 rfl) ajV39 (by decide) (by decide)) hV222 rfl) ajV231 (by decide) (by decide)) hMV231 hP hD hS (lv_sub hl [0, 3, 4, 5, 6] rfl)
                          · skip
                            have f235 : ((V39 0 8)).toInt = 0 := b_eq rfl (by decide) c223
                            exfalso; first | exact om_0abcda13baee r195.1 f218 f235 | first | omega | ((try (have i_xlp40_2 := Imp.go xlp40_2 (by omega))); (try (have i_xlp5_3 := Imp.go xlp5_3 (by omega))); (try (have i_xlp5_3 := Imp.go xlp5_3 (by omega))); (try (have i_xlp40_2 := Imp.go xlp40_2 (by omega))); omega)
                        · skip
                          have f236 : ((V39 0 8)).toInt = 0 := b_eq rfl (by decide) c219
                          exfalso; first | exact om_0abcda13baee r195.1 f218 f236 | first | omega | ((try (have i_xlp40_2 := Imp.go xlp40_2 (by omega))); (try (have i_xlp5_3 := Imp.go xlp5_3 (by omega))); (try (have i_xlp5_3 := Imp.go xlp5_3 (by omega))); (try (have i_xlp40_2 := Imp.go xlp40_2 (by omega))); omega)
                      · skip
                        have f237 : ((V39 0 8)).toInt = 0 := b_eq rfl (by decide) c217
                        exfalso; first | exact om_09885ab343b9 f7 f237 | first | omega | ((try (have i_xlp40_2 := Imp.go xlp40_2 (by omega))); (try (have i_xlp5_3 := Imp.go xlp5_3 (by omega))); (try (have i_xlp5_3 := Imp.go xlp5_3 (by omega))); (try (have i_xlp40_2 := Imp.go xlp40_2 (by omega))); omega)
              have r238 : Int32.toInt 0 = 0 := by decide
              exact lp40 ((y2.toInt - (Int32.toInt 0) + 1 : Int).toNat) 0 V32 H locs ls (by decide) (Or.inl ⟨W0 rl35, rl35, fun k h9 => by exfalso; omega⟩) (show (Int32.toInt 0) ≤ y2.toInt from by first | exact om_6f9bb8cf3bec klp5_1.1 r238 | first | omega | ((try (have i_xlp5_3 := Imp.go xlp5_3 (by omega))); omega)) (Imp.mk (fun hp => have hp : 1 ≤ (V32 0 8).toInt := hp; (show (V32 0 8).toInt = (V32 0 8).toInt from by first | exact om_4c2c879c4424 | first | omega | ((try (have i_xlp5_3 := Imp.go xlp5_3 (by omega))); omega)))) (by first | exact om_7441a7786481 | first | omega | ((try (have i_xlp5_3 := Imp.go xlp5_3 (by omega))); omega)) agr.rf hMV32 hP hD hS (lv_sub hl [0, 1, 2, 3, 4, 5, 6] rfl)
            · skip
              have hb239 : ∀ k, Rc gT (Crun gs (Itypes gy gw 0 [] :: k)) (Cbad (V20 0 8).toInt) := fun k => Rc.go1 (hq k) (ty_b h24)
              have r240 : 0 ≤ ((V20 0 8)).toInt ∧ ((V20 0 8)).toInt ≤ 70000 := hMV20 0 8
              refine lv_istore (lv' := [(5, .int z16), (4, .int y1), (3, .int y2), (0, .ref (ad 0)), (1, .ref (ad 15)), (2, .int p1)]) hx hb dX12_takeTypes_21 hl (by decide) rfl (fun ls hl => ?_)
              refine lv_aload_n hx hb dX12_takeTypes_23 rfl (lv_at hl 3 rfl) ?_
              refine lv_dup hx hb dX12_takeTypes_24 rfl ?_
              refine va_get (D := D) (ci := 12) (v := .int (V20 0 7)) (C := RX12) (T := TX12) (N := 100) hx hb hg inX12 hown hK hP 0 rfl rfl 7 (by decide) (hg _ w1713) (fun _ h9 => h9) rfl dX12_takeTypes_25 ?_
              refine lv_iconst (v := 1) hx hb dX12_takeTypes_28 (by decide) ?_
              refine lv_isub hx hb dX12_takeTypes_29 ?_
              have r241 := i_full (V20 0 7)
              refine lv_topi (fun z242 ez242 => ?_)
              have hz242 : Imp (-2147483648 ≤ ((V20 0 7)).toInt - 1 ∧ ((V20 0 7)).toInt - 1 ≤ 2147483647) (z242.toInt = ((V20 0 7)).toInt - 1) := Imp.mk (fun hp => i_sub ez242 rfl (by decide) hp)
              refine va_put (D := D) (ci := 12) (v := .int z242) (ty := tyX12 7) (C := RX12) (T := TX12) (N := 100) hx hb hg inX12 tyX12 tyX12_ok nmX12 hown hK hP hD hS 0 rfl rfl 7 (by decide) (hg _ w1713) (fun _ h9 => h9) rfl (tyX12_ok 7 (by decide)) rfl rfl (Nat.le_of_ble_eq_true rfl) dX12_takeTypes_30 (fun H locs hP hD hS => ?_)
              obtain ⟨V243, hV243⟩ : ∃ z, z = up2 V20 0 7 z242 := ⟨_, rfl⟩
              have hP : va_P D vwCl (mw ad kk ks.1 V243 L) H := by rw [hV243]; exact hP
              have hD : va_D A (mw ad kk ks.1 V243 L) := by rw [hV243]; exact hD
              have hMV243 : rgd bM V243 := hMV20.put hV243 (i_full _)
              have agV243 : agr [(0, 7), (0, 8)] [15, 21, 53] V V243 := agV20.up hV243 rfl
              have pq244 : (V243 0 8).toInt = ((V20 0 8)).toInt := congrArg Int32.toInt (up2_k hV243 (by decide))
              refine lv_iconst (v := 0) hx hb dX12_takeTypes_33 (by decide) ?_
              refine lv_istore (lv' := [(6, .int 0), (5, .int z16), (4, .int y1), (3, .int y2), (0, .ref (ad 0)), (1, .ref (ad 15)), (2, .int p1)]) hx hb dX12_takeTypes_34 hl (by decide) rfl (fun ls hl => ?_)
              have lp247 : ∀ (fulp247 : Nat) (y245 : Int32) (V246 : Vf) (H : Heap) (locs : List Loc) (ls : Array Slot), 0 ≤ y245.toInt ∧ y245.toInt ≤ 6 → (((V246 0 8).toInt = 0 ∧ RelM V246 L bq gn gT s1 gl ∧ (∀ k : Nat, (k : Int) < y245.toInt → (V246 53 k).toInt ≠ z16.toInt)) ∨ (1 ≤ (V246 0 8).toInt ∧ ∀ k, Rc gT (Crun gs (Itypes gy gw 0 [] :: k)) (Cbad (V246 0 8).toInt))) → y245.toInt ≤ y2.toInt → Imp (1 ≤ (V243 0 8).toInt) ((V246 0 8).toInt = (V243 0 8).toInt) → y2.toInt - y245.toInt < (fulp247 : Int) → agr [(0, 8)] [] V243 V246 → rgd bM V246 → va_P D vwCl (mw ad kk ks.1 V246 L) H → va_D A (mw ad kk ks.1 V246 L) → va_S A s.heap H locs → lv_has ls 7 [(6, .int y245), (5, .int z16), (4, .int y1), (3, .int y2), (0, .ref (ad 0)), (1, .ref (ad 15)), (2, .int p1)] → W p l e r_s_takeTypesA15 s m ([.ref (ad 0), .ref (ad 15), .int p1] : List Value).toArray below meth c H locs 0 0 (MQ below (q_s_takeTypesA15 D ks ad kk V L p1 bq gn gT gs gl gy gw go A) ([.ref (ad 0), .ref (ad 15), .int p1] : List Value).toArray s 0 0 A) (F0 m 36 ls []) := by
                (try clear hb239); (try clear fz9)
                intro fulp247
                induction fulp247 with
                | zero =>
                  intro y245 V246 H locs ls klp247_0 xlp247_0 xlp247_1 xlp247_2 hn ajV246 hMV246 hP hD hS hl
                  exfalso; (first | exact om_4634b1278845 xlp247_1 hn | omega)
                | succ fulp247 ihlp247 =>
                  intro y245 V246 H locs ls klp247_0 xlp247_0 xlp247_1 xlp247_2 hn ajV246 hMV246 hP hD hS hl
                  have agV246 : agr [(0, 7), (0, 8)] [15, 21, 53] V V246 := agV243.tr ajV246 (by decide) (by decide)
                  refine lv_iload hx hb dX12_takeTypes_36 (lv_at hl 0 rfl) ?_
                  rcases xlp247_0 with ⟨f7, ri, ni⟩ | ⟨f7, hi⟩
                  · skip
                    exfalso; first | omega | ((try (have i_xlp247_2 := Imp.go xlp247_2 (by omega))); (try (have i_hz242 := Imp.go hz242 (by omega))); (try (have i_xlp5_3 := Imp.go xlp5_3 (by omega))); (try (have i_xlp5_3 := Imp.go xlp5_3 (by omega))); (try (have i_hz242 := Imp.go hz242 (by omega))); (try (have i_xlp247_2 := Imp.go xlp247_2 (by omega))); omega)
                  · skip
                    have r248 : 0 ≤ ((V246 0 8)).toInt ∧ ((V246 0 8)).toInt ≤ 70000 := hMV246 0 8
                    refine lv_iload_n hx hb dX12_takeTypes_38 rfl (lv_at hl 3 rfl) ?_
                    refine lv_icmp_ge (tgt := 72) hx hb dX12_takeTypes_39 (by decide) (fun c249 => ?_) (fun c249 => ?_)
                    · skip
                      have f250 : y2.toInt ≤ y245.toInt := b_le rfl rfl c249
                      refine lv_aload_n hx hb dX12_takeTypes_72 rfl (lv_at hl 4 rfl) ?_
                      refine va_get (D := D) (ci := 12) (v := .int (V246 0 8)) (C := RX12) (T := TX12) (N := 100) hx hb hg inX12 hown hK hP 0 rfl rfl 8 (by decide) (hg _ w1714) (fun _ h9 => h9) rfl dX12_takeTypes_73 ?_
                      refine lv_if_ne (tgt := 90) hx hb dX12_takeTypes_76 (by decide) (fun c251 => ?_) (fun c251 => ?_)
                      · skip
                        have f252 : ((V246 0 8)).toInt ≠ 0 := b_neq rfl (by decide) c251
                        refine lv_aload_n hx hb dX12_takeTypes_90 rfl (lv_at hl 4 rfl) ?_
                        refine lv_dup hx hb dX12_takeTypes_91 rfl ?_
                        refine va_get (D := D) (ci := 12) (v := .int (V246 0 7)) (C := RX12) (T := TX12) (N := 100) hx hb hg inX12 hown hK hP 0 rfl rfl 7 (by decide) (hg _ w1713) (fun _ h9 => h9) rfl dX12_takeTypes_92 ?_
                        refine g_top (v := z242) ((ajV246 0 7 rfl).trans (up2_s hV243)) ?_
                        refine lv_iconst (v := 1) hx hb dX12_takeTypes_95 (by decide) ?_
                        refine lv_iadd hx hb dX12_takeTypes_96 ?_
                        have r253 := i_full z242
                        refine lv_topi (fun z254 ez254 => ?_)
                        have hz254 : Imp (-2147483648 ≤ z242.toInt + 1 ∧ z242.toInt + 1 ≤ 2147483647) (z254.toInt = z242.toInt + 1) := Imp.mk (fun hp => i_add ez254 rfl (by decide) hp)
                        refine va_put (D := D) (ci := 12) (v := .int z254) (ty := tyX12 7) (C := RX12) (T := TX12) (N := 100) hx hb hg inX12 tyX12 tyX12_ok nmX12 hown hK hP hD hS 0 rfl rfl 7 (by decide) (hg _ w1713) (fun _ h9 => h9) rfl (tyX12_ok 7 (by decide)) rfl rfl (Nat.le_of_ble_eq_true rfl) dX12_takeTypes_97 (fun H locs hP hD hS => ?_)
                        obtain ⟨V255, hV255⟩ : ∃ z, z = up2 V246 0 7 z254 := ⟨_, rfl⟩
                        have hP : va_P D vwCl (mw ad kk ks.1 V255 L) H := by rw [hV255]; exact hP
                        have hD : va_D A (mw ad kk ks.1 V255 L) := by rw [hV255]; exact hD
                        have hMV255 : rgd bM V255 := hMV246.put hV255 (i_full _)
                        have agV255 : agr [(0, 7), (0, 8)] [15, 21, 53] V V255 := agV246.up hV255 rfl
                        refine lv_aload_n hx hb dX12_takeTypes_100 rfl (lv_at hl 4 rfl) ?_
                        refine va_get (D := D) (ci := 12) (v := .int (V255 0 8)) (C := RX12) (T := TX12) (N := 100) hx hb hg inX12 hown hK hP 0 rfl rfl 8 (by decide) (hg _ w1714) (fun _ h9 => h9) rfl dX12_takeTypes_101 ?_
                        refine g_top (v := (V246 0 8)) (up2_k hV255 (by decide)) ?_
                        refine lv_if_ne (tgt := 184) hx hb dX12_takeTypes_104 (by decide) (fun c256 => ?_) (fun c256 => ?_)
                        · skip
                          have f257 : ((V246 0 8)).toInt ≠ 0 := b_neq rfl (by decide) c256
                          refine lv_aload_n hx hb dX12_takeTypes_184 rfl (lv_at hl 4 rfl) ?_
                          refine lv_bipush (v := 44) hx hb dX12_takeTypes_185 (by decide) ?_
                          have r258 : Int32.toInt 44 = 44 := by decide
                          have pq259 : (V255 0 8).toInt = ((V246 0 8)).toInt := congrArg Int32.toInt (up2_k hV255 (by decide))
                          refine gA_int (gA_runV (As := [.int 44]) (rest := []) (ci := 12) (q0 := 0) hx hb hml hown hg hP hD hK hS hA hnw hgk (s_hasSignB l D ks H.size ad kk V255 L 44 hMV255 (show 1 ≤ (V255 0 8).toInt from by first | exact om_1499017b39b7 r248.1 f252 pq259 | first | omega | ((try (have i_xlp5_3 := Imp.go xlp5_3 (f15))); omega) | ((try (have i_hz254 := Imp.go hz254 (by omega))); (try (have i_xlp247_2 := Imp.go xlp247_2 (by omega))); (try (have i_hz242 := Imp.go hz242 (by omega))); (try (have i_xlp5_3 := Imp.go xlp5_3 (by omega))); first | omega | ((try (have i_xlp5_3 := Imp.go xlp5_3 (by omega))); (try (have i_hz242 := Imp.go hz242 (by omega))); (try (have i_xlp247_2 := Imp.go xlp247_2 (by omega))); (try (have i_hz254 := Imp.go hz254 (by omega))); omega)))) w2067 w2069 w94 w172 w2070 rfl rfl hdV_yX12_hasSign ⟨Nat.le_of_ble_eq_true rfl, Nat.le_of_ble_eq_true rfl⟩ rfl hl.1 rfl (Nat.le_of_ble_eq_true rfl) dX12_takeTypes_187 ⟨Nat.le_of_ble_eq_true rfl, Nat.le_of_ble_eq_true rfl⟩) hP hD hK hS hA (fun z260 u261 H locs w262 hP hD hK hS => ?_)
                          obtain ⟨V264, L265⟩ := u261
                          obtain ⟨hMV264, ajV264, axL265, rgz260, t263⟩ := w262
                          have axL265 : L = L265 := Eq.symm axL265
                          subst axL265
                          have hP : va_P D vwCl (mw ad kk ks.1 V264 L) H := hP
                          have hD : va_D A (mw ad kk ks.1 V264 L) := hD
                          have hMV264 : rgd bM V264 := hMV264
                          have ajV264 : agr [(0, 7)] [] V255 V264 := ajV264
                          have agV264 : agr [(0, 7), (0, 8)] [15, 21, 53] V V264 := agV255.tr ajV264 (by decide) (by decide)
                          have rgz260 : 0 ≤ z260.toInt ∧ z260.toInt ≤ 0 := rgz260
                          have t263 : (V264 0 8).toInt = (V255 0 8).toInt := t263
                          have pq266 : (V264 0 8).toInt = ((V246 0 8)).toInt := congrArg Int32.toInt ((ajV264 0 8 rfl).trans (up2_k hV255 (by decide)))
                          refine lv_istore (lv' := [(4, .int z260), (6, .int y245), (5, .int z16), (3, .int y2), (0, .ref (ad 0)), (1, .ref (ad 15)), (2, .int p1)]) hx hb dX12_takeTypes_190 hl (by decide) rfl (fun ls hl => ?_)
                          refine lv_goto (tgt := 5) hx hb dX12_takeTypes_192 (by decide) ?_
                          have pq267 : (V264 0 12).toInt = ((V 0 12)).toInt := congrArg Int32.toInt ((ajV264 0 12 rfl).trans ((up2_k hV255 (by decide)).trans ((ajV246 0 12 rfl).trans ((up2_k hV243 (by decide)).trans ((ajV20 0 12 rfl).trans (ajV3 0 12 rfl))))))
                          exact ihlp5 (g4 - 1) z260 y2 V264 H locs ls (by first | exact om_641b3f05f166 rgz260.1 rgz260.2 | first | omega | ((try (have i_xlp5_3 := Imp.go xlp5_3 (f15))); omega) | ((try (have i_hz254 := Imp.go hz254 (by omega))); (try (have i_xlp247_2 := Imp.go xlp247_2 (by omega))); (try (have i_hz242 := Imp.go hz242 (by omega))); (try (have i_xlp5_3 := Imp.go xlp5_3 (by omega))); first | omega | ((try (have i_xlp5_3 := Imp.go xlp5_3 (by omega))); (try (have i_hz242 := Imp.go hz242 (by omega))); (try (have i_xlp247_2 := Imp.go xlp247_2 (by omega))); (try (have i_hz254 := Imp.go hz254 (by omega))); omega))) (by first | exact om_5de5485ce193 klp247_0.1 klp247_0.2 xlp247_1 f250 | first | omega | ((try (have i_xlp5_3 := Imp.go xlp5_3 (f15))); omega) | ((try (have i_hz254 := Imp.go hz254 (by omega))); (try (have i_xlp247_2 := Imp.go xlp247_2 (by omega))); (try (have i_hz242 := Imp.go hz242 (by omega))); (try (have i_xlp5_3 := Imp.go xlp5_3 (by omega))); first | omega | ((try (have i_xlp5_3 := Imp.go xlp5_3 (by omega))); (try (have i_hz242 := Imp.go hz242 (by omega))); (try (have i_xlp247_2 := Imp.go xlp247_2 (by omega))); (try (have i_hz254 := Imp.go hz254 (by omega))); omega))) (Or.inr (Or.inr ⟨(show 1 ≤ (V264 0 8).toInt from by (first | exact om_14e1582db31a r248.1 f252 pq259 t263 | omega)), (fun k => by rw [show (V264 0 8).toInt = (V246 0 8).toInt from by omega]; exact hi k)⟩)) (show 0 ≤ (g4 - 1) from by first | exact om_53bb2050c72d klp247_0.2 f250 ((Imp.go xlp5_3 (f15))) | first | omega | ((try (have i_xlp5_3 := Imp.go xlp5_3 (f15))); omega) | ((try (have i_hz254 := Imp.go hz254 (by omega))); (try (have i_xlp247_2 := Imp.go xlp247_2 (by omega))); (try (have i_hz242 := Imp.go hz242 (by omega))); (try (have i_xlp5_3 := Imp.go xlp5_3 (by omega))); first | omega | ((try (have i_xlp5_3 := Imp.go xlp5_3 (by omega))); (try (have i_hz242 := Imp.go hz242 (by omega))); (try (have i_xlp247_2 := Imp.go xlp247_2 (by omega))); (try (have i_hz254 := Imp.go hz254 (by omega))); omega))) (show y2.toInt ≤ 6 from by first | exact om_95b7a1d732ac klp247_0.2 f250 | first | omega | ((try (have i_xlp5_3 := Imp.go xlp5_3 (f15))); omega) | ((try (have i_hz254 := Imp.go hz254 (by omega))); (try (have i_xlp247_2 := Imp.go xlp247_2 (by omega))); (try (have i_hz242 := Imp.go hz242 (by omega))); (try (have i_xlp5_3 := Imp.go xlp5_3 (by omega))); first | omega | ((try (have i_xlp5_3 := Imp.go xlp5_3 (by omega))); (try (have i_hz242 := Imp.go hz242 (by omega))); (try (have i_xlp247_2 := Imp.go xlp247_2 (by omega))); (try (have i_hz254 := Imp.go hz254 (by omega))); omega))) (Imp.mk (fun hp => have hp : (V264 0 8).toInt = 0 := hp; (show 7 - y2.toInt < (g4 - 1) from by first | omega | ((try (have i_xlp5_3 := Imp.go xlp5_3 (f15))); omega) | ((try (have i_hz254 := Imp.go hz254 (by omega))); (try (have i_xlp247_2 := Imp.go xlp247_2 (by omega))); (try (have i_hz242 := Imp.go hz242 (by omega))); (try (have i_xlp5_3 := Imp.go xlp5_3 (by omega))); first | omega | ((try (have i_xlp5_3 := Imp.go xlp5_3 (by omega))); (try (have i_hz242 := Imp.go hz242 (by omega))); (try (have i_xlp247_2 := Imp.go xlp247_2 (by omega))); (try (have i_hz254 := Imp.go hz254 (by omega))); omega))))) (show (V264 0 12).toInt = (V 0 12).toInt from by first | exact om_570b691c1130 pq267 | first | omega | ((try (have i_xlp5_3 := Imp.go xlp5_3 (f15))); omega) | ((try (have i_hz254 := Imp.go hz254 (by omega))); (try (have i_xlp247_2 := Imp.go xlp247_2 (by omega))); (try (have i_hz242 := Imp.go hz242 (by omega))); (try (have i_xlp5_3 := Imp.go xlp5_3 (by omega))); first | omega | ((try (have i_xlp5_3 := Imp.go xlp5_3 (by omega))); (try (have i_hz242 := Imp.go hz242 (by omega))); (try (have i_xlp247_2 := Imp.go xlp247_2 (by omega))); (try (have i_hz254 := Imp.go hz254 (by omega))); omega))) (by first | omega | ((try (have i_xlp5_3 := Imp.go xlp5_3 (f15))); omega) | ((try (have i_hz254 := Imp.go hz254 (by omega))); (try (have i_xlp247_2 := Imp.go xlp247_2 (by omega))); (try (have i_hz242 := Imp.go hz242 (by omega))); (try (have i_xlp5_3 := Imp.go xlp5_3 (by omega))); first | omega | ((try (have i_xlp5_3 := Imp.go xlp5_3 (by omega))); (try (have i_hz242 := Imp.go hz242 (by omega))); (try (have i_xlp247_2 := Imp.go xlp247_2 (by omega))); (try (have i_hz254 := Imp.go hz254 (by omega))); omega))) (agr.tr (agr.up (agr.tr (agr.up (agr.tr (agr.tr agr.rf ajV3 (by decide) (by decide)) ajV20 (by decide) (by decide)) hV243 rfl) ajV246 (by decide) (by decide)) hV255 rfl) ajV264 (by decide) (by decide)) hMV264 hP hD hS (lv_sub hl [0, 3, 4, 5, 6] rfl)
                        · skip
                          have f268 : ((V246 0 8)).toInt = 0 := b_eq rfl (by decide) c256
                          exfalso; first | exact om_0abcda13baee r248.1 f252 f268 | first | omega | ((try (have i_xlp5_3 := Imp.go xlp5_3 (f15))); omega) | ((try (have i_hz254 := Imp.go hz254 (by omega))); (try (have i_xlp247_2 := Imp.go xlp247_2 (by omega))); (try (have i_hz242 := Imp.go hz242 (by omega))); (try (have i_xlp5_3 := Imp.go xlp5_3 (by omega))); first | omega | ((try (have i_xlp5_3 := Imp.go xlp5_3 (by omega))); (try (have i_hz242 := Imp.go hz242 (by omega))); (try (have i_xlp247_2 := Imp.go xlp247_2 (by omega))); (try (have i_hz254 := Imp.go hz254 (by omega))); omega))
                      · skip
                        have f269 : ((V246 0 8)).toInt = 0 := b_eq rfl (by decide) c251
                        exfalso; first | exact om_09885ab343b9 f7 f269 | first | omega | ((try (have i_xlp247_2 := Imp.go xlp247_2 (by omega))); (try (have i_hz242 := Imp.go hz242 (by omega))); (try (have i_xlp5_3 := Imp.go xlp5_3 (by omega))); (try (have i_xlp5_3 := Imp.go xlp5_3 (by omega))); (try (have i_hz242 := Imp.go hz242 (by omega))); (try (have i_xlp247_2 := Imp.go xlp247_2 (by omega))); omega)
                    · skip
                      have f270 : y245.toInt < y2.toInt := b_nle rfl rfl c249
                      refine lv_aload_n hx hb dX12_takeTypes_42 rfl (lv_at hl 4 rfl) ?_
                      refine va_get (D := D) (ci := 12) (v := .int (V246 0 8)) (C := RX12) (T := TX12) (N := 100) hx hb hg inX12 hown hK hP 0 rfl rfl 8 (by decide) (hg _ w1714) (fun _ h9 => h9) rfl dX12_takeTypes_43 ?_
                      refine lv_if_ne (tgt := 72) hx hb dX12_takeTypes_46 (by decide) (fun c271 => ?_) (fun c271 => ?_)
                      · skip
                        have f272 : ((V246 0 8)).toInt ≠ 0 := b_neq rfl (by decide) c271
                        refine lv_aload_n hx hb dX12_takeTypes_72 rfl (lv_at hl 4 rfl) ?_
                        refine va_get (D := D) (ci := 12) (v := .int (V246 0 8)) (C := RX12) (T := TX12) (N := 100) hx hb hg inX12 hown hK hP 0 rfl rfl 8 (by decide) (hg _ w1714) (fun _ h9 => h9) rfl dX12_takeTypes_73 ?_
                        refine lv_if_ne (tgt := 90) hx hb dX12_takeTypes_76 (by decide) (fun c273 => ?_) (fun c273 => ?_)
                        · skip
                          have f274 : ((V246 0 8)).toInt ≠ 0 := b_neq rfl (by decide) c273
                          refine lv_aload_n hx hb dX12_takeTypes_90 rfl (lv_at hl 4 rfl) ?_
                          refine lv_dup hx hb dX12_takeTypes_91 rfl ?_
                          refine va_get (D := D) (ci := 12) (v := .int (V246 0 7)) (C := RX12) (T := TX12) (N := 100) hx hb hg inX12 hown hK hP 0 rfl rfl 7 (by decide) (hg _ w1713) (fun _ h9 => h9) rfl dX12_takeTypes_92 ?_
                          refine g_top (v := z242) ((ajV246 0 7 rfl).trans (up2_s hV243)) ?_
                          refine lv_iconst (v := 1) hx hb dX12_takeTypes_95 (by decide) ?_
                          refine lv_iadd hx hb dX12_takeTypes_96 ?_
                          have r275 := i_full z242
                          refine lv_topi (fun z276 ez276 => ?_)
                          have hz276 : Imp (-2147483648 ≤ z242.toInt + 1 ∧ z242.toInt + 1 ≤ 2147483647) (z276.toInt = z242.toInt + 1) := Imp.mk (fun hp => i_add ez276 rfl (by decide) hp)
                          refine va_put (D := D) (ci := 12) (v := .int z276) (ty := tyX12 7) (C := RX12) (T := TX12) (N := 100) hx hb hg inX12 tyX12 tyX12_ok nmX12 hown hK hP hD hS 0 rfl rfl 7 (by decide) (hg _ w1713) (fun _ h9 => h9) rfl (tyX12_ok 7 (by decide)) rfl rfl (Nat.le_of_ble_eq_true rfl) dX12_takeTypes_97 (fun H locs hP hD hS => ?_)
                          obtain ⟨V277, hV277⟩ : ∃ z, z = up2 V246 0 7 z276 := ⟨_, rfl⟩
                          have hP : va_P D vwCl (mw ad kk ks.1 V277 L) H := by rw [hV277]; exact hP
                          have hD : va_D A (mw ad kk ks.1 V277 L) := by rw [hV277]; exact hD
                          have hMV277 : rgd bM V277 := hMV246.put hV277 (i_full _)
                          have agV277 : agr [(0, 7), (0, 8)] [15, 21, 53] V V277 := agV246.up hV277 rfl
                          refine lv_aload_n hx hb dX12_takeTypes_100 rfl (lv_at hl 4 rfl) ?_
                          refine va_get (D := D) (ci := 12) (v := .int (V277 0 8)) (C := RX12) (T := TX12) (N := 100) hx hb hg inX12 hown hK hP 0 rfl rfl 8 (by decide) (hg _ w1714) (fun _ h9 => h9) rfl dX12_takeTypes_101 ?_
                          refine g_top (v := (V246 0 8)) (up2_k hV277 (by decide)) ?_
                          refine lv_if_ne (tgt := 184) hx hb dX12_takeTypes_104 (by decide) (fun c278 => ?_) (fun c278 => ?_)
                          · skip
                            have f279 : ((V246 0 8)).toInt ≠ 0 := b_neq rfl (by decide) c278
                            refine lv_aload_n hx hb dX12_takeTypes_184 rfl (lv_at hl 4 rfl) ?_
                            refine lv_bipush (v := 44) hx hb dX12_takeTypes_185 (by decide) ?_
                            have r280 : Int32.toInt 44 = 44 := by decide
                            have pq281 : (V277 0 8).toInt = ((V246 0 8)).toInt := congrArg Int32.toInt (up2_k hV277 (by decide))
                            refine gA_int (gA_runV (As := [.int 44]) (rest := []) (ci := 12) (q0 := 0) hx hb hml hown hg hP hD hK hS hA hnw hgk (s_hasSignB l D ks H.size ad kk V277 L 44 hMV277 (show 1 ≤ (V277 0 8).toInt from by first | exact om_1499017b39b7 r248.1 f272 pq281 | first | omega | ((try (have i_xlp5_3 := Imp.go xlp5_3 (f15))); omega) | ((try (have i_hz276 := Imp.go hz276 (by omega))); (try (have i_xlp247_2 := Imp.go xlp247_2 (by omega))); (try (have i_hz242 := Imp.go hz242 (by omega))); (try (have i_xlp5_3 := Imp.go xlp5_3 (by omega))); first | omega | ((try (have i_xlp5_3 := Imp.go xlp5_3 (by omega))); (try (have i_hz242 := Imp.go hz242 (by omega))); (try (have i_xlp247_2 := Imp.go xlp247_2 (by omega))); (try (have i_hz276 := Imp.go hz276 (by omega))); omega)))) w2067 w2069 w94 w172 w2070 rfl rfl hdV_yX12_hasSign ⟨Nat.le_of_ble_eq_true rfl, Nat.le_of_ble_eq_true rfl⟩ rfl hl.1 rfl (Nat.le_of_ble_eq_true rfl) dX12_takeTypes_187 ⟨Nat.le_of_ble_eq_true rfl, Nat.le_of_ble_eq_true rfl⟩) hP hD hK hS hA (fun z282 u283 H locs w284 hP hD hK hS => ?_)
                            obtain ⟨V286, L287⟩ := u283
                            obtain ⟨hMV286, ajV286, axL287, rgz282, t285⟩ := w284
                            have axL287 : L = L287 := Eq.symm axL287
                            subst axL287
                            have hP : va_P D vwCl (mw ad kk ks.1 V286 L) H := hP
                            have hD : va_D A (mw ad kk ks.1 V286 L) := hD
                            have hMV286 : rgd bM V286 := hMV286
                            have ajV286 : agr [(0, 7)] [] V277 V286 := ajV286
                            have agV286 : agr [(0, 7), (0, 8)] [15, 21, 53] V V286 := agV277.tr ajV286 (by decide) (by decide)
                            have rgz282 : 0 ≤ z282.toInt ∧ z282.toInt ≤ 0 := rgz282
                            have t285 : (V286 0 8).toInt = (V277 0 8).toInt := t285
                            have pq288 : (V286 0 8).toInt = ((V246 0 8)).toInt := congrArg Int32.toInt ((ajV286 0 8 rfl).trans (up2_k hV277 (by decide)))
                            refine lv_istore (lv' := [(4, .int z282), (6, .int y245), (5, .int z16), (3, .int y2), (0, .ref (ad 0)), (1, .ref (ad 15)), (2, .int p1)]) hx hb dX12_takeTypes_190 hl (by decide) rfl (fun ls hl => ?_)
                            refine lv_goto (tgt := 5) hx hb dX12_takeTypes_192 (by decide) ?_
                            have pq289 : (V286 0 12).toInt = ((V 0 12)).toInt := congrArg Int32.toInt ((ajV286 0 12 rfl).trans ((up2_k hV277 (by decide)).trans ((ajV246 0 12 rfl).trans ((up2_k hV243 (by decide)).trans ((ajV20 0 12 rfl).trans (ajV3 0 12 rfl))))))
                            exact ihlp5 (g4 - 1) z282 y2 V286 H locs ls (by first | exact om_641b3f05f166 rgz282.1 rgz282.2 | first | omega | ((try (have i_xlp5_3 := Imp.go xlp5_3 (f15))); omega) | ((try (have i_hz276 := Imp.go hz276 (by omega))); (try (have i_xlp247_2 := Imp.go xlp247_2 (by omega))); (try (have i_hz242 := Imp.go hz242 (by omega))); (try (have i_xlp5_3 := Imp.go xlp5_3 (by omega))); first | omega | ((try (have i_xlp5_3 := Imp.go xlp5_3 (by omega))); (try (have i_hz242 := Imp.go hz242 (by omega))); (try (have i_xlp247_2 := Imp.go xlp247_2 (by omega))); (try (have i_hz276 := Imp.go hz276 (by omega))); omega))) (by first | exact om_420c7ba86e3d klp5_1.2 klp247_0.1 f270 | first | omega | ((try (have i_xlp5_3 := Imp.go xlp5_3 (f15))); omega) | ((try (have i_hz276 := Imp.go hz276 (by omega))); (try (have i_xlp247_2 := Imp.go xlp247_2 (by omega))); (try (have i_hz242 := Imp.go hz242 (by omega))); (try (have i_xlp5_3 := Imp.go xlp5_3 (by omega))); first | omega | ((try (have i_xlp5_3 := Imp.go xlp5_3 (by omega))); (try (have i_hz242 := Imp.go hz242 (by omega))); (try (have i_xlp247_2 := Imp.go xlp247_2 (by omega))); (try (have i_hz276 := Imp.go hz276 (by omega))); omega))) (Or.inr (Or.inr ⟨(show 1 ≤ (V286 0 8).toInt from by (first | exact om_14e1582db31a r248.1 f272 pq281 t285 | omega)), (fun k => by rw [show (V286 0 8).toInt = (V246 0 8).toInt from by omega]; exact hi k)⟩)) (show 0 ≤ (g4 - 1) from by first | exact om_76a34b28fb8f klp5_1.2 ((Imp.go xlp5_3 (f15))) | first | omega | ((try (have i_xlp5_3 := Imp.go xlp5_3 (f15))); omega) | ((try (have i_hz276 := Imp.go hz276 (by omega))); (try (have i_xlp247_2 := Imp.go xlp247_2 (by omega))); (try (have i_hz242 := Imp.go hz242 (by omega))); (try (have i_xlp5_3 := Imp.go xlp5_3 (by omega))); first | omega | ((try (have i_xlp5_3 := Imp.go xlp5_3 (by omega))); (try (have i_hz242 := Imp.go hz242 (by omega))); (try (have i_xlp247_2 := Imp.go xlp247_2 (by omega))); (try (have i_hz276 := Imp.go hz276 (by omega))); omega))) (show y2.toInt ≤ 6 from by first | exact om_1cd470348f7c klp5_1.2 | first | omega | ((try (have i_xlp5_3 := Imp.go xlp5_3 (f15))); omega) | ((try (have i_hz276 := Imp.go hz276 (by omega))); (try (have i_xlp247_2 := Imp.go xlp247_2 (by omega))); (try (have i_hz242 := Imp.go hz242 (by omega))); (try (have i_xlp5_3 := Imp.go xlp5_3 (by omega))); first | omega | ((try (have i_xlp5_3 := Imp.go xlp5_3 (by omega))); (try (have i_hz242 := Imp.go hz242 (by omega))); (try (have i_xlp247_2 := Imp.go xlp247_2 (by omega))); (try (have i_hz276 := Imp.go hz276 (by omega))); omega))) (Imp.mk (fun hp => have hp : (V286 0 8).toInt = 0 := hp; (show 7 - y2.toInt < (g4 - 1) from by first | omega | ((try (have i_xlp5_3 := Imp.go xlp5_3 (f15))); omega) | ((try (have i_hz276 := Imp.go hz276 (by omega))); (try (have i_xlp247_2 := Imp.go xlp247_2 (by omega))); (try (have i_hz242 := Imp.go hz242 (by omega))); (try (have i_xlp5_3 := Imp.go xlp5_3 (by omega))); first | omega | ((try (have i_xlp5_3 := Imp.go xlp5_3 (by omega))); (try (have i_hz242 := Imp.go hz242 (by omega))); (try (have i_xlp247_2 := Imp.go xlp247_2 (by omega))); (try (have i_hz276 := Imp.go hz276 (by omega))); omega))))) (show (V286 0 12).toInt = (V 0 12).toInt from by first | exact om_570b691c1130 pq289 | first | omega | ((try (have i_xlp5_3 := Imp.go xlp5_3 (f15))); omega) | ((try (have i_hz276 := Imp.go hz276 (by omega))); (try (have i_xlp247_2 := Imp.go xlp247_2 (by omega))); (try (have i_hz242 := Imp.go hz242 (by omega))); (try (have i_xlp5_3 := Imp.go xlp5_3 (by omega))); first | omega | ((try (have i_xlp5_3 := Imp.go xlp5_3 (by omega))); (try (have i_hz242 := Imp.go hz242 (by omega))); (try (have i_xlp247_2 := Imp.go xlp247_2 (by omega))); (try (have i_hz276 := Imp.go hz276 (by omega))); omega))) (by first | omega | ((try (have i_xlp5_3 := Imp.go xlp5_3 (f15))); omega) | ((try (have i_hz276 := Imp.go hz276 (by omega))); (try (have i_xlp247_2 := Imp.go xlp247_2 (by omega))); (try (have i_hz242 := Imp.go hz242 (by omega))); (try (have i_xlp5_3 := Imp.go xlp5_3 (by omega))); first | omega | ((try (have i_xlp5_3 := Imp.go xlp5_3 (by omega))); (try (have i_hz242 := Imp.go hz242 (by omega))); (try (have i_xlp247_2 := Imp.go xlp247_2 (by omega))); (try (have i_hz276 := Imp.go hz276 (by omega))); omega))) (agr.tr (agr.up (agr.tr (agr.up (agr.tr (agr.tr agr.rf ajV3 (by decide) (by decide)) ajV20 (by decide) (by decide)) hV243 rfl) ajV246 (by decide) (by decide)) hV277 rfl) ajV286 (by decide) (by decide)) hMV286 hP hD hS (lv_sub hl [0, 3, 4, 5, 6] rfl)
                          · skip
                            have f290 : ((V246 0 8)).toInt = 0 := b_eq rfl (by decide) c278
                            exfalso; first | exact om_0abcda13baee r248.1 f272 f290 | first | omega | ((try (have i_xlp5_3 := Imp.go xlp5_3 (f15))); omega) | ((try (have i_hz276 := Imp.go hz276 (by omega))); (try (have i_xlp247_2 := Imp.go xlp247_2 (by omega))); (try (have i_hz242 := Imp.go hz242 (by omega))); (try (have i_xlp5_3 := Imp.go xlp5_3 (by omega))); first | omega | ((try (have i_xlp5_3 := Imp.go xlp5_3 (by omega))); (try (have i_hz242 := Imp.go hz242 (by omega))); (try (have i_xlp247_2 := Imp.go xlp247_2 (by omega))); (try (have i_hz276 := Imp.go hz276 (by omega))); omega))
                        · skip
                          have f291 : ((V246 0 8)).toInt = 0 := b_eq rfl (by decide) c273
                          exfalso; first | exact om_0abcda13baee r248.1 f272 f291 | first | omega | ((try (have i_xlp247_2 := Imp.go xlp247_2 (by omega))); (try (have i_hz242 := Imp.go hz242 (by omega))); (try (have i_xlp5_3 := Imp.go xlp5_3 (by omega))); (try (have i_xlp5_3 := Imp.go xlp5_3 (by omega))); (try (have i_hz242 := Imp.go hz242 (by omega))); (try (have i_xlp247_2 := Imp.go xlp247_2 (by omega))); omega)
                      · skip
                        have f292 : ((V246 0 8)).toInt = 0 := b_eq rfl (by decide) c271
                        exfalso; first | exact om_09885ab343b9 f7 f292 | first | omega | ((try (have i_xlp247_2 := Imp.go xlp247_2 (by omega))); (try (have i_hz242 := Imp.go hz242 (by omega))); (try (have i_xlp5_3 := Imp.go xlp5_3 (by omega))); (try (have i_xlp5_3 := Imp.go xlp5_3 (by omega))); (try (have i_hz242 := Imp.go hz242 (by omega))); (try (have i_xlp247_2 := Imp.go xlp247_2 (by omega))); omega)
              have r293 : Int32.toInt 0 = 0 := by decide
              exact lp247 ((y2.toInt - (Int32.toInt 0) + 1 : Int).toNat) 0 V243 H locs ls (by decide) (Or.inr ⟨(show 1 ≤ (V243 0 8).toInt from by omega), (fun k => by rw [show (V243 0 8).toInt = (V20 0 8).toInt from by omega]; exact hb239 k)⟩) (show (Int32.toInt 0) ≤ y2.toInt from by first | exact om_6f9bb8cf3bec klp5_1.1 r293 | first | omega | ((try (have i_hz242 := Imp.go hz242 (by omega))); (try (have i_xlp5_3 := Imp.go xlp5_3 (by omega))); (try (have i_xlp5_3 := Imp.go xlp5_3 (by omega))); (try (have i_hz242 := Imp.go hz242 (by omega))); omega)) (Imp.mk (fun hp => have hp : 1 ≤ (V243 0 8).toInt := hp; (show (V243 0 8).toInt = (V243 0 8).toInt from by first | exact om_4c2c879c4424 | first | omega | ((try (have i_hz242 := Imp.go hz242 (by omega))); (try (have i_xlp5_3 := Imp.go xlp5_3 (by omega))); (try (have i_xlp5_3 := Imp.go xlp5_3 (by omega))); (try (have i_hz242 := Imp.go hz242 (by omega))); omega)))) (by first | exact om_7441a7786481 | first | omega | ((try (have i_hz242 := Imp.go hz242 (by omega))); (try (have i_xlp5_3 := Imp.go xlp5_3 (by omega))); (try (have i_xlp5_3 := Imp.go xlp5_3 (by omega))); (try (have i_hz242 := Imp.go hz242 (by omega))); omega)) agr.rf hMV243 hP hD hS (lv_sub hl [0, 1, 2, 3, 4, 5, 6] rfl)
      · skip
        have fz294 := RelM.rg rq
        refine lv_if_eq (tgt := 195) hx hb dX12_takeTypes_7 (by decide) (fun c295 => ?_) (fun c295 => ?_)
        · skip
          have f296 : y1.toInt = 0 := b_eq rfl (by decide) c295
          exact W.vret hx hb hr (fun t ht hW => ⟨⟨(V3, L), rfl, ⟨hMV3, agV3, rfl, (Or.inl ⟨W0 rq, s1, sn, hq, rq, keepS.le (keepS.tr (keepS.rf : keepS gs 0 gs) kq) (by decide), (show keepL gs s1 from fun j9 h9 => ((show ∀ j9, 5 ≤ j9 → s1.2.1 j9 = gs.2.1 j9 from ll9) j9 h9).trans ((show keepL gs gs from fun _ _ => rfl) j9 h9)), (UNm.ag uq (rfl : V3 15 = V3 15)), cq⟩)⟩, by rw [ht]; exact hP, va_K.moved hW.alike hK, hD⟩, hS.F ht⟩) hS.2.2 dX12_takeTypes_195
        · skip
          have f297 : y1.toInt ≠ 0 := b_neq rfl (by decide) c295
          exfalso; first | omega | ((try (have i_xlp5_3 := Imp.go xlp5_3 (by omega))); omega)
      · skip
        refine lv_if_eq (tgt := 195) hx hb dX12_takeTypes_7 (by decide) (fun c298 => ?_) (fun c298 => ?_)
        · skip
          have f299 : y1.toInt = 0 := b_eq rfl (by decide) c298
          exact W.vret hx hb hr (fun t ht hW => ⟨⟨(V3, L), rfl, ⟨hMV3, agV3, rfl, (Or.inr ⟨(show 1 ≤ (V3 0 8).toInt from by omega), hq⟩)⟩, by rw [ht]; exact hP, va_K.moved hW.alike hK, hD⟩, hS.F ht⟩) hS.2.2 dX12_takeTypes_195
        · skip
          have f300 : y1.toInt ≠ 0 := b_neq rfl (by decide) c298
          refine lv_aload_n hx hb dX12_takeTypes_10 rfl (lv_at hl 2 rfl) ?_
          refine va_get (D := D) (ci := 12) (v := .int (V3 0 8)) (C := RX12) (T := TX12) (N := 100) hx hb hg inX12 hown hK hP 0 rfl rfl 8 (by decide) (hg _ w1714) (fun _ h9 => h9) rfl dX12_takeTypes_11 ?_
          refine lv_if_ne (tgt := 195) hx hb dX12_takeTypes_14 (by decide) (fun c301 => ?_) (fun c301 => ?_)
          · skip
            have f302 : ((V3 0 8)).toInt ≠ 0 := b_neq rfl (by decide) c301
            exact W.vret hx hb hr (fun t ht hW => ⟨⟨(V3, L), rfl, ⟨hMV3, agV3, rfl, (Or.inr ⟨(show 1 ≤ (V3 0 8).toInt from by (first | exact om_76052c512981 r6.1 f302 | omega)), hq⟩)⟩, by rw [ht]; exact hP, va_K.moved hW.alike hK, hD⟩, hS.F ht⟩) hS.2.2 dX12_takeTypes_195
          · skip
            have f303 : ((V3 0 8)).toInt = 0 := b_eq rfl (by decide) c301
            exfalso; first | omega | ((try (have i_xlp5_3 := Imp.go xlp5_3 (by omega))); omega)
  have r304 : Int32.toInt 1 = 1 := by decide
  have r305 : Int32.toInt 0 = 0 := by decide
  have r306 : 0 ≤ ((V 0 8)).toInt ∧ ((V 0 8)).toInt ≤ 70000 := hMV 0 8
  have r307 : 0 ≤ ((V 0 12)).toInt ∧ ((V 0 12)).toInt ≤ 1 := hMV 0 12
  have z00 : (Int32.toInt 0).toNat = 0 := by decide
  exact lp5 ((9 + 1 : Int).toNat) 9 1 0 V H locs ls (by decide) (by decide) (Or.inl ⟨W0 rel, by decide, gs, [], (by rw [z00]; exact fun k => Rc.rf), rel, ⟨keepS.rf, fun _ _ => rfl⟩, LST.z (by decide), UNm.z, cnm⟩) (show 0 ≤ 9 from by omega) (show (Int32.toInt 0) ≤ 6 from by (first | exact om_5d5a707c7800 r305 | omega)) (Imp.mk (fun hp => have hp : (V 0 8).toInt = 0 := hp; (show 7 - (Int32.toInt 0) < 9 from by (first | exact om_f530ea408148 r305 | omega)))) (show (V 0 12).toInt = (V 0 12).toInt from by (first | exact om_4c2c879c4424 | omega)) (by (first | exact om_2f55e767c825 | omega)) agr.rf hMV hP hD hS (lv_sub hl [0, 1, 2, 3, 4] rfl)
abbrev r_s_takeTypesA21 : Room := { frames := 3, cells := 0, slots := 0, locals := 71 }
abbrev q_s_takeTypesA21 (D : va_G) (ks : KS) (ad : Nat → Nat) (kk : Nat → ClassId) (V : Vf) (L : Lf) (p1 : Int32) (bq : Nat) (gn : Nat) (gT : Tk) (gs : St) (gl : List Int64) (gy : Int) (gw : Int64) (go : Nat) (A : Nat → Prop) : Array Value → State → Outcome → State → Prop := va_Qv (fun (u : Vf × Lf) => rgd bM u.1 ∧ agr [(0, 7), (0, 8)] [15, 21, 53] V u.1 ∧ u.2 = L ∧ (RdTm gT gs gy gw (u.1 0 8).toInt (fun s9 sn => RelM u.1 u.2 bq gn gT s9 gl ∧ keepS gs 1 s9 ∧ keepL gs s9 ∧ UNm 21 go V u.1 gs.1 sn ∧ CNm u.1 bq gs))) (fun u t => gq D A (mw ad kk ks.1 u.1 u.2) (mty kk) t) A
set_option maxHeartbeats 4000000 in
set_option maxRecDepth 100000 in
theorem s_takeTypesA21 (l : Launch) (D : va_G) (ks : KS) (sz : Nat) (ad : Nat → Nat) (kk : Nat → ClassId) (V : Vf) (L : Lf) (p1 : Int32) (bq : Nat) (gn : Nat) (gT : Tk) (gs : St) (gl : List Int64) (gy : Int) (gw : Int64) (go : Nat) (hMV : rgd bM V) (rg_p1 : 0 ≤ p1.toInt ∧ p1.toInt ≤ 47) (rel : RelM V L bq gn gT gs gl) (pgo : p1.toInt = (go : Int)) (gfr : go = 24 * bq + (gs.2.1 2).length) (cnm : CNm V bq gs)  : Met l yX12_takeTypes (Cond.code yX12_takeTypes cX12_takeTypes 7 none :: GW) r_s_takeTypesA21 (va_Pc [.ref (ad 0), .ref (ad 21), .int p1] (gp D ks (mw ad kk ks.1 V L) (mty kk) sz)) (q_s_takeTypesA21 D ks ad kk V L p1 bq gn gT gs gl gy gw go (va_A (mw ad kk ks.1 V L) sz)) 0 0 (va_A (mw ad kk ks.1 V L) sz) := by
  refine g_met (q_s_takeTypesA21 D ks ad kk V L p1 bq gn gT gs gl gy gw go) (by decide) (Nat.le_of_ble_eq_true rfl) ?_
  intro p e s m below meth c A ls H locs hx hb hr hml hown hg hlocks hin hnw hgk hP hK hD hS hA hl
  have hown : s.vm.findClass RX12 = some m.cls := hown
  have hl : lv_has ls 7 [(0, .ref (ad 0)), (1, .ref (ad 21)), (2, .int p1)] := hl
  have hP : va_P D vwCl (mw ad kk ks.1 V L) H := hP
  have hD : va_D A (mw ad kk ks.1 V L) := hD
  have hK : va_K D vwCl (mty kk) s := hK
  have agV : agr [(0, 7), (0, 8)] [15, 21, 53] V V := agr.rf
  have rf_p1 := i_full p1
  have rg0 := RelM.rg rel
  have cl0 := RelM.cl rel
  have cq0 := RelM.cq rel
  refine lv_iconst (v := 0) hx hb dX12_takeTypes_0 (by decide) ?_
  refine lv_istore_n (lv' := [(3, .int 0), (0, .ref (ad 0)), (1, .ref (ad 21)), (2, .int p1)]) hx hb dX12_takeTypes_1 rfl hl (by decide) rfl (fun ls hl => ?_)
  refine lv_iconst (v := 1) hx hb dX12_takeTypes_2 (by decide) ?_
  refine lv_istore (lv' := [(4, .int 1), (3, .int 0), (0, .ref (ad 0)), (1, .ref (ad 21)), (2, .int p1)]) hx hb dX12_takeTypes_3 hl (by decide) rfl (fun ls hl => ?_)
  have lp5 : ∀ (fulp5 : Nat) (g4 : Int) (y1 : Int32) (y2 : Int32) (V3 : Vf) (H : Heap) (locs : List Loc) (ls : Array Slot), 0 ≤ y1.toInt ∧ y1.toInt ≤ 1 → 0 ≤ y2.toInt ∧ y2.toInt ≤ 6 → LTI V 21 go gy gw V3 L bq gn gT gs gl y2.toInt y1.toInt → 0 ≤ g4 → y2.toInt ≤ 6 → Imp ((V3 0 8).toInt = 0) (7 - y2.toInt < g4) → (V3 0 12).toInt = (V 0 12).toInt → g4 < (fulp5 : Int) → agr [(0, 7), (0, 8)] [15, 21, 53] V V3 → rgd bM V3 → va_P D vwCl (mw ad kk ks.1 V3 L) H → va_D A (mw ad kk ks.1 V3 L) → va_S A s.heap H locs → lv_has ls 7 [(4, .int y1), (3, .int y2), (0, .ref (ad 0)), (1, .ref (ad 21)), (2, .int p1)] → W p l e r_s_takeTypesA21 s m ([.ref (ad 0), .ref (ad 21), .int p1] : List Value).toArray below meth c H locs 0 0 (MQ below (q_s_takeTypesA21 D ks ad kk V L p1 bq gn gT gs gl gy gw go A) ([.ref (ad 0), .ref (ad 21), .int p1] : List Value).toArray s 0 0 A) (F0 m 5 ls []) := by
    intro fulp5
    induction fulp5 with
    | zero =>
      intro g4 y1 y2 V3 H locs ls klp5_0 klp5_1 xlp5_0 xlp5_1 xlp5_2 xlp5_3 xlp5_4 hn ajV3 hMV3 hP hD hS hl
      exfalso; (first | exact om_21e89d3d06d7 xlp5_1 hn | omega)
    | succ fulp5 ihlp5 =>
      intro g4 y1 y2 V3 H locs ls klp5_0 klp5_1 xlp5_0 xlp5_1 xlp5_2 xlp5_3 xlp5_4 hn ajV3 hMV3 hP hD hS hl
      have agV3 : agr [(0, 7), (0, 8)] [15, 21, 53] V V3 := agV.tr ajV3 (by decide) (by decide)
      have r6 : 0 ≤ ((V3 0 8)).toInt ∧ ((V3 0 8)).toInt ≤ 70000 := hMV3 0 8
      have pq7 : (V3 0 12).toInt = ((V 0 12)).toInt := congrArg Int32.toInt (ajV3 0 12 rfl)
      have r8 : 0 ≤ ((V 0 12)).toInt ∧ ((V 0 12)).toInt ≤ 1 := hMV 0 12
      refine lv_iload hx hb dX12_takeTypes_5 (lv_at hl 0 rfl) ?_
      rcases xlp5_0 with ⟨f8, m8, s1, sn, hq, rq, ⟨kq, ll9⟩, lq, uq, cq⟩ | ⟨f8, m8, s1, sn, hq, rq, ⟨kq, ll9⟩, uq, cq⟩ | ⟨f8, hq⟩
      · skip
        have fz9 := RelM.rg rq
        refine lv_if_eq (tgt := 195) hx hb dX12_takeTypes_7 (by decide) (fun c10 => ?_) (fun c10 => ?_)
        · skip
          have f11 : y1.toInt = 0 := b_eq rfl (by decide) c10
          exfalso; first | omega | ((try (have i_xlp5_3 := Imp.go xlp5_3 (by omega))); omega)
        · skip
          have f12 : y1.toInt ≠ 0 := b_neq rfl (by decide) c10
          refine lv_aload_n hx hb dX12_takeTypes_10 rfl (lv_at hl 2 rfl) ?_
          refine va_get (D := D) (ci := 12) (v := .int (V3 0 8)) (C := RX12) (T := TX12) (N := 100) hx hb hg inX12 hown hK hP 0 rfl rfl 8 (by decide) (hg _ w1714) (fun _ h9 => h9) rfl dX12_takeTypes_11 ?_
          refine lv_if_ne (tgt := 195) hx hb dX12_takeTypes_14 (by decide) (fun c13 => ?_) (fun c13 => ?_)
          · skip
            have f14 : ((V3 0 8)).toInt ≠ 0 := b_neq rfl (by decide) c13
            exfalso; first | omega | ((try (have i_xlp5_3 := Imp.go xlp5_3 (by omega))); omega)
          · skip
            have f15 : ((V3 0 8)).toInt = 0 := b_eq rfl (by decide) c13
            refine lv_aload_n hx hb dX12_takeTypes_17 rfl (lv_at hl 2 rfl) ?_
            refine gA_int (gA_runV (As := []) (rest := []) (ci := 12) (q0 := 0) hx hb hml hown hg hP hD hK hS hA hnw hgk (s_takeTypeA l D ks H.size ad kk V3 L (bq) (gn) (gT) (s1) (gl) hMV3 rq) w2059 w2061 w92 w172 w2062 rfl rfl hdV_yX12_takeType ⟨Nat.le_of_ble_eq_true rfl, Nat.le_of_ble_eq_true rfl⟩ rfl hl.1 rfl (Nat.le_of_ble_eq_true rfl) dX12_takeTypes_18 ⟨Nat.le_of_ble_eq_true rfl, Nat.le_of_ble_eq_true rfl⟩) hP hD hK hS hA (fun z16 u17 H locs w18 hP hD hK hS => ?_)
            obtain ⟨V20, L21⟩ := u17
            obtain ⟨hMV20, ajV20, axL21, rgz16, t19⟩ := w18
            have axL21 : L = L21 := Eq.symm axL21
            subst axL21
            have hP : va_P D vwCl (mw ad kk ks.1 V20 L) H := hP
            have hD : va_D A (mw ad kk ks.1 V20 L) := hD
            have hMV20 : rgd bM V20 := hMV20
            have ajV20 : agr [(0, 7), (0, 8)] [] V3 V20 := ajV20
            have agV20 : agr [(0, 7), (0, 8)] [15, 21, 53] V V20 := agV3.tr ajV20 (by decide) (by decide)
            have rgz16 : (-1) ≤ z16.toInt ∧ z16.toInt ≤ 23 := rgz16
            have t19 : KmN (look (gT) (s1) ((s1).2.1 0)) (V20 0 8).toInt (fun f9 => RelM V20 L (bq) (gn) (gT) (nx (s1) 1) (gl) ∧ z16.toInt = ((f9 : Nat) : Int) ∧ f9 < 24) := t19
            rcases t19 with ⟨q22, fx23, h24, rl25, hf26, hb27⟩ | ⟨q22, h24⟩
            · skip
              have ps28 : (nx s1 1).1 0 = s1.1 0 + 1 := rfl
              have fz29 := RelM.rg rl25
              have r30 : 0 ≤ ((V20 0 8)).toInt ∧ ((V20 0 8)).toInt ≤ 70000 := hMV20 0 8
              refine lv_istore (lv' := [(5, .int z16), (4, .int y1), (3, .int y2), (0, .ref (ad 0)), (1, .ref (ad 21)), (2, .int p1)]) hx hb dX12_takeTypes_21 hl (by decide) rfl (fun ls hl => ?_)
              refine lv_aload_n hx hb dX12_takeTypes_23 rfl (lv_at hl 3 rfl) ?_
              refine lv_dup hx hb dX12_takeTypes_24 rfl ?_
              refine va_get (D := D) (ci := 12) (v := .int (V20 0 7)) (C := RX12) (T := TX12) (N := 100) hx hb hg inX12 hown hK hP 0 rfl rfl 7 (by decide) (hg _ w1713) (fun _ h9 => h9) rfl dX12_takeTypes_25 ?_
              refine lv_iconst (v := 1) hx hb dX12_takeTypes_28 (by decide) ?_
              refine lv_isub hx hb dX12_takeTypes_29 ?_
              refine lv_topi (fun z31 ez31 => ?_)
              have hz31 : z31.toInt = ((V20 0 7)).toInt - 1 := i_sub ez31 rfl (by decide) (by omega)
              refine va_put (D := D) (ci := 12) (v := .int z31) (ty := tyX12 7) (C := RX12) (T := TX12) (N := 100) hx hb hg inX12 tyX12 tyX12_ok nmX12 hown hK hP hD hS 0 rfl rfl 7 (by decide) (hg _ w1713) (fun _ h9 => h9) rfl (tyX12_ok 7 (by decide)) rfl rfl (Nat.le_of_ble_eq_true rfl) dX12_takeTypes_30 (fun H locs hP hD hS => ?_)
              obtain ⟨V32, hV32⟩ : ∃ z, z = up2 V20 0 7 z31 := ⟨_, rfl⟩
              have hP : va_P D vwCl (mw ad kk ks.1 V32 L) H := by rw [hV32]; exact hP
              have hD : va_D A (mw ad kk ks.1 V32 L) := by rw [hV32]; exact hD
              have hMV32 : rgd bM V32 := hMV20.put hV32 (i_full _)
              have agV32 : agr [(0, 7), (0, 8)] [15, 21, 53] V V32 := agV20.up hV32 rfl
              have pq33 : (V32 0 8).toInt = ((V20 0 8)).toInt := congrArg Int32.toInt (up2_k hV32 (by decide))
              have rz34 : -5 ≤ z31.toInt ∧ z31.toInt ≤ 5000 := by first | omega | ((try (have i_xlp5_3 := Imp.go xlp5_3 (by omega))); omega)
              have rl35 : RelM V32 L bq gn gT s1 gl := RelM.v8 rl25 hV32 (by (first | exact om_a53909a885f5 hz31 | omega))
              have fz36 := RelM.rg rl35
              have pq37 : (V32 0 7).toInt = z31.toInt := congrArg Int32.toInt (up2_s hV32)
              refine lv_iconst (v := 0) hx hb dX12_takeTypes_33 (by decide) ?_
              refine lv_istore (lv' := [(6, .int 0), (5, .int z16), (4, .int y1), (3, .int y2), (0, .ref (ad 0)), (1, .ref (ad 21)), (2, .int p1)]) hx hb dX12_takeTypes_34 hl (by decide) rfl (fun ls hl => ?_)
              have lp40 : ∀ (fulp40 : Nat) (y38 : Int32) (V39 : Vf) (H : Heap) (locs : List Loc) (ls : Array Slot), 0 ≤ y38.toInt ∧ y38.toInt ≤ 6 → (((V39 0 8).toInt = 0 ∧ RelM V39 L bq gn gT s1 gl ∧ (∀ k : Nat, (k : Int) < y38.toInt → (V39 53 k).toInt ≠ z16.toInt)) ∨ (1 ≤ (V39 0 8).toInt ∧ ∀ k, Rc gT (Crun gs (Itypes gy gw 0 [] :: k)) (Cbad (V39 0 8).toInt))) → y38.toInt ≤ y2.toInt → Imp (1 ≤ (V32 0 8).toInt) ((V39 0 8).toInt = (V32 0 8).toInt) → y2.toInt - y38.toInt < (fulp40 : Int) → agr [(0, 8)] [] V32 V39 → rgd bM V39 → va_P D vwCl (mw ad kk ks.1 V39 L) H → va_D A (mw ad kk ks.1 V39 L) → va_S A s.heap H locs → lv_has ls 7 [(6, .int y38), (5, .int z16), (4, .int y1), (3, .int y2), (0, .ref (ad 0)), (1, .ref (ad 21)), (2, .int p1)] → W p l e r_s_takeTypesA21 s m ([.ref (ad 0), .ref (ad 21), .int p1] : List Value).toArray below meth c H locs 0 0 (MQ below (q_s_takeTypesA21 D ks ad kk V L p1 bq gn gT gs gl gy gw go A) ([.ref (ad 0), .ref (ad 21), .int p1] : List Value).toArray s 0 0 A) (F0 m 36 ls []) := by
                (try clear fz36); (try clear rl35); (try clear fz29); (try clear ps28); (try clear fz9)
                intro fulp40
                induction fulp40 with
                | zero =>
                  intro y38 V39 H locs ls klp40_0 xlp40_0 xlp40_1 xlp40_2 hn ajV39 hMV39 hP hD hS hl
                  exfalso; (first | exact om_4634b1278845 xlp40_1 hn | omega)
                | succ fulp40 ihlp40 =>
                  intro y38 V39 H locs ls klp40_0 xlp40_0 xlp40_1 xlp40_2 hn ajV39 hMV39 hP hD hS hl
                  have agV39 : agr [(0, 7), (0, 8)] [15, 21, 53] V V39 := agV32.tr ajV39 (by decide) (by decide)
                  refine lv_iload hx hb dX12_takeTypes_36 (lv_at hl 0 rfl) ?_
                  rcases xlp40_0 with ⟨f7, ri, ni⟩ | ⟨f7, hi⟩
                  · skip
                    have fz41 := RelM.rg ri
                    have r42 : 0 ≤ ((V39 0 8)).toInt ∧ ((V39 0 8)).toInt ≤ 70000 := hMV39 0 8
                    have pq43 : (V39 0 7).toInt = z31.toInt := congrArg Int32.toInt ((ajV39 0 7 rfl).trans (up2_s hV32))
                    refine lv_iload_n hx hb dX12_takeTypes_38 rfl (lv_at hl 3 rfl) ?_
                    refine lv_icmp_ge (tgt := 72) hx hb dX12_takeTypes_39 (by decide) (fun c44 => ?_) (fun c44 => ?_)
                    · skip
                      have f45 : y2.toInt ≤ y38.toInt := b_le rfl rfl c44
                      refine lv_aload_n hx hb dX12_takeTypes_72 rfl (lv_at hl 4 rfl) ?_
                      refine va_get (D := D) (ci := 12) (v := .int (V39 0 8)) (C := RX12) (T := TX12) (N := 100) hx hb hg inX12 hown hK hP 0 rfl rfl 8 (by decide) (hg _ w1714) (fun _ h9 => h9) rfl dX12_takeTypes_73 ?_
                      refine lv_if_ne (tgt := 90) hx hb dX12_takeTypes_76 (by decide) (fun c46 => ?_) (fun c46 => ?_)
                      · skip
                        have f47 : ((V39 0 8)).toInt ≠ 0 := b_neq rfl (by decide) c46
                        exfalso; first | exact om_0b51723c7ef6 f7 f47 | first | omega | ((try (have i_xlp40_2 := Imp.go xlp40_2 (by omega))); (try (have i_xlp5_3 := Imp.go xlp5_3 (by omega))); (try (have i_xlp5_3 := Imp.go xlp5_3 (by omega))); (try (have i_xlp40_2 := Imp.go xlp40_2 (by omega))); omega)
                      · skip
                        have f48 : ((V39 0 8)).toInt = 0 := b_eq rfl (by decide) c46
                        refine lv_iload_n hx hb dX12_takeTypes_79 rfl (lv_at hl 3 rfl) ?_
                        refine lv_bipush (v := 6) hx hb dX12_takeTypes_80 (by decide) ?_
                        refine lv_icmp_ne (tgt := 90) hx hb dX12_takeTypes_82 (by decide) (fun c49 => ?_) (fun c49 => ?_)
                        · skip
                          have f50 : y2.toInt ≠ 6 := b_neq rfl (by decide) c49
                          refine lv_aload_n hx hb dX12_takeTypes_90 rfl (lv_at hl 4 rfl) ?_
                          refine lv_dup hx hb dX12_takeTypes_91 rfl ?_
                          refine va_get (D := D) (ci := 12) (v := .int (V39 0 7)) (C := RX12) (T := TX12) (N := 100) hx hb hg inX12 hown hK hP 0 rfl rfl 7 (by decide) (hg _ w1713) (fun _ h9 => h9) rfl dX12_takeTypes_92 ?_
                          refine g_top (v := z31) ((ajV39 0 7 rfl).trans (up2_s hV32)) ?_
                          refine lv_iconst (v := 1) hx hb dX12_takeTypes_95 (by decide) ?_
                          refine lv_iadd hx hb dX12_takeTypes_96 ?_
                          refine lv_topi (fun z51 ez51 => ?_)
                          have hz51 : z51.toInt = z31.toInt + 1 := i_add ez51 rfl (by decide) (by (first | exact om_37595bfb6665 rz34.1 rz34.2 | omega))
                          refine va_put (D := D) (ci := 12) (v := .int z51) (ty := tyX12 7) (C := RX12) (T := TX12) (N := 100) hx hb hg inX12 tyX12 tyX12_ok nmX12 hown hK hP hD hS 0 rfl rfl 7 (by decide) (hg _ w1713) (fun _ h9 => h9) rfl (tyX12_ok 7 (by decide)) rfl rfl (Nat.le_of_ble_eq_true rfl) dX12_takeTypes_97 (fun H locs hP hD hS => ?_)
                          obtain ⟨V52, hV52⟩ : ∃ z, z = up2 V39 0 7 z51 := ⟨_, rfl⟩
                          have hP : va_P D vwCl (mw ad kk ks.1 V52 L) H := by rw [hV52]; exact hP
                          have hD : va_D A (mw ad kk ks.1 V52 L) := by rw [hV52]; exact hD
                          have hMV52 : rgd bM V52 := hMV39.put hV52 (i_full _)
                          have agV52 : agr [(0, 7), (0, 8)] [15, 21, 53] V V52 := agV39.up hV52 rfl
                          have nn53 : fx23 ∉ sn := (LST.no (LST.ag lq (by rw [(funext (fun q => ajV39 53 q rfl) : V39 53 = V32 53), (up2_fo hV32 (by decide) : V32 53 = V20 53), (funext (fun q => ajV20 53 q rfl) : V20 53 = V3 53)] : V39 53 = V3 53)) (fun k h9 => by rw [← hf26]; exact ni k (by omega)))
                          have kd54 : gT.1 (s1.1 0) ≠ 0 := look_ne h24
                          have rl55 : RelM V52 L bq gn gT (nx s1 1) gl := RelM.n1 ri hV52 (by (first | exact om_f8adf868c938 pq43 hz51 | omega)) kd54
                          have hr56 : ∀ k, Rc gT (Crun gs (Itypes gy gw 0 [] :: k)) (Crun (nx s1 1) (Imore gy gw (y2.toInt.toNat + 1) (fx23 :: sn) :: k)) := fun k => Rc.go1 (hq k) (ty_y h24 nn53 (by omega))
                          have fz57 := RelM.rg rl55
                          have pq58 : (V52 0 8).toInt = ((V39 0 8)).toInt := congrArg Int32.toInt (up2_k hV52 (by decide))
                          have pq59 : (V52 0 7).toInt = z51.toInt := congrArg Int32.toInt (up2_s hV52)
                          refine lv_aload_n hx hb dX12_takeTypes_100 rfl (lv_at hl 4 rfl) ?_
                          refine va_get (D := D) (ci := 12) (v := .int (V52 0 8)) (C := RX12) (T := TX12) (N := 100) hx hb hg inX12 hown hK hP 0 rfl rfl 8 (by decide) (hg _ w1714) (fun _ h9 => h9) rfl dX12_takeTypes_101 ?_
                          refine g_top (v := (V39 0 8)) (up2_k hV52 (by decide)) ?_
                          refine lv_if_ne (tgt := 184) hx hb dX12_takeTypes_104 (by decide) (fun c60 => ?_) (fun c60 => ?_)
                          · skip
                            have f61 : ((V39 0 8)).toInt ≠ 0 := b_neq rfl (by decide) c60
                            exfalso; first | exact om_fb320d7600b7 r42.1 f48 f61 | first | omega | ((try (have i_xlp40_2 := Imp.go xlp40_2 (by omega))); (try (have i_xlp5_3 := Imp.go xlp5_3 (by omega))); (try (have i_xlp5_3 := Imp.go xlp5_3 (by omega))); (try (have i_xlp40_2 := Imp.go xlp40_2 (by omega))); omega)
                          · skip
                            have f62 : ((V39 0 8)).toInt = 0 := b_eq rfl (by decide) c60
                            refine lv_aload_n hx hb dX12_takeTypes_107 rfl (lv_at hl 4 rfl) ?_
                            refine va_get (D := D) (ci := 12) (v := .ref (ad 53)) (C := RX12) (T := TX12) (N := 100) hx hb hg inX12 hown hK hP 0 rfl rfl 53 (by decide) (hg _ w1759) (fun _ h9 => h9) rfl dX12_takeTypes_108 ?_
                            refine lv_iload_n hx hb dX12_takeTypes_111 rfl (lv_at hl 3 rfl) ?_
                            refine lv_iload hx hb dX12_takeTypes_112 (lv_at hl 1 rfl) ?_
                            refine va_iast (D := D) (i := y2) (x := z16) hx hb hK hP hD hS 41 40 rfl rfl (i_in (a := y2.toInt) rfl (by first | exact om_24404d21e4ca klp5_1.1 klp5_1.2 f50 | first | omega | ((try (have i_xlp40_2 := Imp.go xlp40_2 (by omega))); (try (have i_xlp5_3 := Imp.go xlp5_3 (by omega))); (try (have i_xlp5_3 := Imp.go xlp5_3 (by omega))); (try (have i_xlp40_2 := Imp.go xlp40_2 (by omega))); omega))) dX12_takeTypes_114 (fun H locs hP hD hS => ?_)
                            obtain ⟨V63, hV63⟩ : ∃ z, z = up2 V52 53 (Int32.toNatClampNeg y2) z16 := ⟨_, rfl⟩
                            have hP : va_P D vwCl (mw ad kk ks.1 V63 L) H := by rw [hV63]; exact hP
                            have hD : va_D A (mw ad kk ks.1 V63 L) := by rw [hV63]; exact hD
                            have hMV63 : rgd bM V63 := hMV52.put hV63 (show (-1) ≤ z16.toInt ∧ z16.toInt ≤ 23 from by first | exact om_b5ea211f5a81 rgz16.1 rgz16.2 | first | omega | ((try (have i_xlp40_2 := Imp.go xlp40_2 (by omega))); (try (have i_xlp5_3 := Imp.go xlp5_3 (by omega))); (try (have i_xlp5_3 := Imp.go xlp5_3 (by omega))); (try (have i_xlp40_2 := Imp.go xlp40_2 (by omega))); omega))
                            have agV63 : agr [(0, 7), (0, 8)] [15, 21, 53] V V63 := agV52.up hV63 rfl
                            obtain ⟨z65, ez65⟩ : ∃ y : Int32, y = y2 + 1 := ⟨_, rfl⟩
                            have hz65 : z65.toInt = y2.toInt + 1 := i_add ez65 rfl (by decide) (by (first | exact om_875f8b1f1696 klp5_1.1 klp5_1.2 f50 | omega))
                            refine lv_iinc (v := z65) (lv' := [(3, .int z65), (6, .int y38), (5, .int z16), (4, .int y1), (0, .ref (ad 0)), (1, .ref (ad 21)), (2, .int p1)]) hx hb dX12_takeTypes_115 hl (k := 3) rfl (by rw [ez65]; rfl) (by decide) rfl (fun ls hl => ?_)
                            have ls66 : LST V63 z65.toInt (fx23 :: sn) := LST.add (LST.ag lq (by rw [(up2_fo hV52 (by decide) : V52 53 = V39 53), (funext (fun q => ajV39 53 q rfl) : V39 53 = V32 53), (up2_fo hV32 (by decide) : V32 53 = V20 53), (funext (fun q => ajV20 53 q rfl) : V20 53 = V3 53)] : V52 53 = V3 53)) hV63 rfl (by omega) (by omega) (by omega)
                            refine lv_iconst (v := 0) hx hb dX12_takeTypes_118 (by decide) ?_
                            refine lv_istore (lv' := [(6, .int 0), (3, .int z65), (5, .int z16), (4, .int y1), (0, .ref (ad 0)), (1, .ref (ad 21)), (2, .int p1)]) hx hb dX12_takeTypes_119 hl (by decide) rfl (fun ls hl => ?_)
                            have lp69 : ∀ (fulp69 : Nat) (y67 : Int32) (V68 : Vf) (H : Heap) (locs : List Loc) (ls : Array Slot), 0 ≤ y67.toInt ∧ y67.toInt ≤ 24 → (UNx 21 go V V68 gs.1 y67.toInt (fx23 :: sn) sn) → (CNm V68 bq gs) → 24 - y67.toInt < (fulp69 : Int) → agr [] [15, 21] V63 V68 → rgd bM V68 → va_P D vwCl (mw ad kk ks.1 V68 L) H → va_D A (mw ad kk ks.1 V68 L) → va_S A s.heap H locs → lv_has ls 7 [(6, .int y67), (3, .int z65), (5, .int z16), (4, .int y1), (0, .ref (ad 0)), (1, .ref (ad 21)), (2, .int p1)] → W p l e r_s_takeTypesA21 s m ([.ref (ad 0), .ref (ad 21), .int p1] : List Value).toArray below meth c H locs 0 0 (MQ below (q_s_takeTypesA21 D ks ad kk V L p1 bq gn gT gs gl gy gw go A) ([.ref (ad 0), .ref (ad 21), .int p1] : List Value).toArray s 0 0 A) (F0 m 121 ls []) := by
                              (try clear fz57); (try clear kd54); (try clear fz41); (try clear fz36); (try clear rl35); (try clear fz29); (try clear ps28); (try clear fz9)
                              intro fulp69
                              induction fulp69 with
                              | zero =>
                                intro y67 V68 H locs ls klp69_0 xlp69_0 xlp69_1 hn ajV68 hMV68 hP hD hS hl
                                exfalso; (first | exact om_9386ef0df612 klp69_0.2 hn | omega)
                              | succ fulp69 ihlp69 =>
                                intro y67 V68 H locs ls klp69_0 xlp69_0 xlp69_1 hn ajV68 hMV68 hP hD hS hl
                                have agV68 : agr [(0, 7), (0, 8)] [15, 21, 53] V V68 := agV63.tr ajV68 (by decide) (by decide)
                                refine lv_iload hx hb dX12_takeTypes_121 (lv_at hl 0 rfl) ?_
                                refine lv_bipush (v := 24) hx hb dX12_takeTypes_123 (by decide) ?_
                                refine lv_icmp_ge (tgt := 184) hx hb dX12_takeTypes_125 (by decide) (fun c70 => ?_) (fun c70 => ?_)
                                · skip
                                  have f71 : 24 ≤ y67.toInt := b_le (by decide) rfl c70
                                  have un72 : UNm 21 go V V68 gs.1 (fx23 :: sn) := UNx.all xlp69_0 (by (first | exact om_69cd31f94d1d f71 | omega))
                                  refine lv_aload_n hx hb dX12_takeTypes_184 rfl (lv_at hl 4 rfl) ?_
                                  refine lv_bipush (v := 44) hx hb dX12_takeTypes_185 (by decide) ?_
                                  have rl73 : RelM V68 L bq gn gT (nx s1 1) gl := RelM.ag rl55 (show agr [] [15, 21, 53] V52 V68 from (agr.tr (agr.up agr.rf hV63 rfl) ajV68 (by decide) (by decide))) (by decide) (show agL [] L L from agL.rf) (by decide)
                                  have r74 : Int32.toInt 44 = 44 := by decide
                                  refine gA_int (gA_runV (As := [.int 44]) (rest := []) (ci := 12) (q0 := 0) hx hb hml hown hg hP hD hK hS hA hnw hgk (s_hasSignA l D ks H.size ad kk V68 L 44 (bq) (gn) (gT) ((nx s1 1)) (gl) hMV68 rl73 (sg_yes (j := 44) (by decide) (by decide) (by decide))) w2067 w2069 w94 w172 w2070 rfl rfl hdV_yX12_hasSign ⟨Nat.le_of_ble_eq_true rfl, Nat.le_of_ble_eq_true rfl⟩ rfl hl.1 rfl (Nat.le_of_ble_eq_true rfl) dX12_takeTypes_187 ⟨Nat.le_of_ble_eq_true rfl, Nat.le_of_ble_eq_true rfl⟩) hP hD hK hS hA (fun z75 u76 H locs w77 hP hD hK hS => ?_)
                                  obtain ⟨V79, L80⟩ := u76
                                  obtain ⟨hMV79, ajV79, axL80, rgz75, t78⟩ := w77
                                  have axL80 : L = L80 := Eq.symm axL80
                                  subst axL80
                                  have hP : va_P D vwCl (mw ad kk ks.1 V79 L) H := hP
                                  have hD : va_D A (mw ad kk ks.1 V79 L) := hD
                                  have hMV79 : rgd bM V79 := hMV79
                                  have ajV79 : agr [(0, 7)] [] V68 V79 := ajV79
                                  have agV79 : agr [(0, 7), (0, 8)] [15, 21, 53] V V79 := agV68.tr ajV79 (by decide) (by decide)
                                  have rgz75 : 0 ≤ z75.toInt ∧ z75.toInt ≤ 1 := rgz75
                                  have t78 : (z75.toInt = 1 ∧ (gT).1 (((nx s1 1)).1 0) = (Int32.toInt 44) ∧ RelM V79 L (bq) (gn) (gT) (nx ((nx s1 1)) 1) (gl)) ∨ (z75.toInt = 0 ∧ (gT).1 (((nx s1 1)).1 0) ≠ (Int32.toInt 44) ∧ RelM V79 L (bq) (gn) (gT) ((nx s1 1)) (gl)) := t78
                                  rcases t78 with ⟨q81, h82, rl83⟩ | ⟨q81, h82, rl83⟩
                                  · skip
                                    have kd84 : gT.1 ((nx s1 1).1 0) = 44 := h82.trans (by decide)
                                    have hr85 : ∀ k, Rc gT (Crun gs (Itypes gy gw 0 [] :: k)) (Crun (nx (nx s1 1) 1) (Itypes gy gw (y2.toInt.toNat + 1) (fx23 :: sn) :: k)) := fun k => Rc.go1 (hr56 k) (more_y gy gw (y2.toInt.toNat + 1) (fx23 :: sn) kd84)
                                    have ps86 : (nx (nx s1 1) 1).1 0 = (nx s1 1).1 0 + 1 := rfl
                                    have fz87 := RelM.rg rl83
                                    have pq88 : (V79 0 8).toInt = ((V39 0 8)).toInt := congrArg Int32.toInt ((ajV79 0 8 rfl).trans ((ajV68 0 8 rfl).trans ((up2_o hV63 (by decide)).trans (up2_k hV52 (by decide)))))
                                    refine lv_istore (lv' := [(4, .int z75), (6, .int y67), (3, .int z65), (5, .int z16), (0, .ref (ad 0)), (1, .ref (ad 21)), (2, .int p1)]) hx hb dX12_takeTypes_190 hl (by decide) rfl (fun ls hl => ?_)
                                    refine lv_goto (tgt := 5) hx hb dX12_takeTypes_192 (by decide) ?_
                                    have pq89 : (V79 0 12).toInt = ((V 0 12)).toInt := congrArg Int32.toInt ((ajV79 0 12 rfl).trans ((ajV68 0 12 rfl).trans ((up2_o hV63 (by decide)).trans ((up2_k hV52 (by decide)).trans ((ajV39 0 12 rfl).trans ((up2_k hV32 (by decide)).trans ((ajV20 0 12 rfl).trans (ajV3 0 12 rfl))))))))
                                    have cn90 : CNm V79 bq gs := CNm.ag xlp69_1 (show agr [(0, 7)] [] V68 V79 from (agr.tr agr.rf ajV79 (by decide) (by decide))) (by decide) keepC.rf
                                    exact ihlp5 (g4 - 1) z75 z65 V79 H locs ls (by first | exact om_eb7af9d60398 rgz75.1 rgz75.2 | first | omega | ((try (have i_xlp40_2 := Imp.go xlp40_2 (by omega))); (try (have i_xlp5_3 := Imp.go xlp5_3 (by omega))); (try (have i_xlp5_3 := Imp.go xlp5_3 (by omega))); (try (have i_xlp40_2 := Imp.go xlp40_2 (by omega))); omega)) (by first | exact om_6575912fbdd9 klp5_1.1 klp5_1.2 f50 hz65 | first | omega | ((try (have i_xlp40_2 := Imp.go xlp40_2 (by omega))); (try (have i_xlp5_3 := Imp.go xlp5_3 (by omega))); (try (have i_xlp5_3 := Imp.go xlp5_3 (by omega))); (try (have i_xlp40_2 := Imp.go xlp40_2 (by omega))); omega)) (Or.inl ⟨W0 rl83, (by omega), (nx (nx s1 1) 1), (fx23 :: sn), (by rw [show z65.toInt.toNat = (y2.toInt.toNat + 1) from by omega]; exact hr85), rl83, ⟨keepS.le (keepS.tr (keepS.tr (keepS.tr (keepS.rf : keepS gs 0 gs) kq) (keepS.n1 1)) (keepS.n1 1)) (by decide), (show keepL gs (nx (nx s1 1) 1) from fun j9 h9 => ((show ∀ j9, 5 ≤ j9 → (nx (nx s1 1) 1).2.1 j9 = (nx s1 1).2.1 j9 from fun _ _ => rfl) j9 h9).trans ((show keepL gs (nx s1 1) from fun j9 h9 => ((show ∀ j9, 5 ≤ j9 → (nx s1 1).2.1 j9 = s1.2.1 j9 from fun _ _ => rfl) j9 h9).trans ((show keepL gs s1 from fun j9 h9 => ((show ∀ j9, 5 ≤ j9 → s1.2.1 j9 = gs.2.1 j9 from ll9) j9 h9).trans ((show keepL gs gs from fun _ _ => rfl) j9 h9)) j9 h9)) j9 h9))⟩, LST.ag ls66 (by rw [(funext (fun q => ajV79 53 q rfl) : V79 53 = V68 53), (funext (fun q => ajV68 53 q rfl) : V68 53 = V63 53)] : V79 53 = V63 53), (UNm.ag un72 (by rw [(funext (fun q => ajV79 21 q rfl) : V79 21 = V68 21)] : V79 21 = V68 21)), cn90⟩) (show 0 ≤ (g4 - 1) from by first | exact om_63465e109454 klp5_1.2 f50 ((Imp.go xlp5_3 (f15))) | first | omega | ((try (have i_xlp40_2 := Imp.go xlp40_2 (by omega))); (try (have i_xlp5_3 := Imp.go xlp5_3 (by omega))); (try (have i_xlp5_3 := Imp.go xlp5_3 (by omega))); (try (have i_xlp40_2 := Imp.go xlp40_2 (by omega))); omega)) (show z65.toInt ≤ 6 from by first | exact om_1e1b103e2e8d klp5_1.2 f50 hz65 | first | omega | ((try (have i_xlp40_2 := Imp.go xlp40_2 (by omega))); (try (have i_xlp5_3 := Imp.go xlp5_3 (by omega))); (try (have i_xlp5_3 := Imp.go xlp5_3 (by omega))); (try (have i_xlp40_2 := Imp.go xlp40_2 (by omega))); omega)) (Imp.mk (fun hp => have hp : (V79 0 8).toInt = 0 := hp; (show 7 - z65.toInt < (g4 - 1) from by first | exact om_3b5c2a59e72f hz65 ((Imp.go xlp5_3 (f15))) | first | omega | ((try (have i_xlp40_2 := Imp.go xlp40_2 (by omega))); (try (have i_xlp5_3 := Imp.go xlp5_3 (by omega))); (try (have i_xlp5_3 := Imp.go xlp5_3 (by omega))); (try (have i_xlp40_2 := Imp.go xlp40_2 (by omega))); omega)))) (show (V79 0 12).toInt = (V 0 12).toInt from by first | exact om_570b691c1130 pq89 | first | omega | ((try (have i_xlp40_2 := Imp.go xlp40_2 (by omega))); (try (have i_xlp5_3 := Imp.go xlp5_3 (by omega))); (try (have i_xlp5_3 := Imp.go xlp5_3 (by omega))); (try (have i_xlp40_2 := Imp.go xlp40_2 (by omega))); omega)) (by first | omega | ((try (have i_xlp40_2 := Imp.go xlp40_2 (by omega))); (try (have i_xlp5_3 := Imp.go xlp5_3 (by omega))); (try (have i_xlp5_3 := Imp.go xlp5_3 (by omega))); (try (have i_xlp40_2 := Imp.go xlp40_2 (by omega))); omega)) (agr.tr (agr.tr (agr.up (agr.up (agr.tr (agr.up (agr.tr (agr.tr agr.rf ajV3 (by decide) (by decide)) ajV20 (by decide) (by decide)) hV32 rfl) ajV39 (by decide) (by decide)) hV52 rfl) hV63 rfl) ajV68 (by decide) (by decide)) ajV79 (by decide) (by decide)) hMV79 hP hD hS (lv_sub hl [0, 2, 4, 5, 6] rfl)
                                  · skip
                                    have kd91 : gT.1 ((nx s1 1).1 0) ≠ 44 := fun h9 => h82 (h9.trans (by decide))
                                    have fz92 := RelM.rg rl83
                                    have pq93 : (V79 0 8).toInt = ((V39 0 8)).toInt := congrArg Int32.toInt ((ajV79 0 8 rfl).trans ((ajV68 0 8 rfl).trans ((up2_o hV63 (by decide)).trans (up2_k hV52 (by decide)))))
                                    refine lv_istore (lv' := [(4, .int z75), (6, .int y67), (3, .int z65), (5, .int z16), (0, .ref (ad 0)), (1, .ref (ad 21)), (2, .int p1)]) hx hb dX12_takeTypes_190 hl (by decide) rfl (fun ls hl => ?_)
                                    refine lv_goto (tgt := 5) hx hb dX12_takeTypes_192 (by decide) ?_
                                    have pq94 : (V79 0 12).toInt = ((V 0 12)).toInt := congrArg Int32.toInt ((ajV79 0 12 rfl).trans ((ajV68 0 12 rfl).trans ((up2_o hV63 (by decide)).trans ((up2_k hV52 (by decide)).trans ((ajV39 0 12 rfl).trans ((up2_k hV32 (by decide)).trans ((ajV20 0 12 rfl).trans (ajV3 0 12 rfl))))))))
                                    have hr95 : ∀ k, Rc gT (Crun gs (Itypes gy gw 0 [] :: k)) (Crun (nx s1 1) (ItyD gy gw (fx23 :: sn) :: k)) := fun k => Rc.go1 (hr56 k) (more_n gy gw (y2.toInt.toNat + 1) (fx23 :: sn) kd91)
                                    have cn96 : CNm V79 bq gs := CNm.ag xlp69_1 (show agr [(0, 7)] [] V68 V79 from (agr.tr agr.rf ajV79 (by decide) (by decide))) (by decide) keepC.rf
                                    exact ihlp5 (g4 - 1) z75 z65 V79 H locs ls (by first | exact om_eb7af9d60398 rgz75.1 rgz75.2 | first | omega | ((try (have i_xlp40_2 := Imp.go xlp40_2 (by omega))); (try (have i_xlp5_3 := Imp.go xlp5_3 (by omega))); (try (have i_xlp5_3 := Imp.go xlp5_3 (by omega))); (try (have i_xlp40_2 := Imp.go xlp40_2 (by omega))); omega)) (by first | exact om_6575912fbdd9 klp5_1.1 klp5_1.2 f50 hz65 | first | omega | ((try (have i_xlp40_2 := Imp.go xlp40_2 (by omega))); (try (have i_xlp5_3 := Imp.go xlp5_3 (by omega))); (try (have i_xlp5_3 := Imp.go xlp5_3 (by omega))); (try (have i_xlp40_2 := Imp.go xlp40_2 (by omega))); omega)) (Or.inr (Or.inl ⟨W0 rl83, (by omega), (nx s1 1), (fx23 :: sn), hr95, rl83, ⟨keepS.le (keepS.tr (keepS.tr (keepS.rf : keepS gs 0 gs) kq) (keepS.n1 1)) (by decide), (show keepL gs (nx s1 1) from fun j9 h9 => ((show ∀ j9, 5 ≤ j9 → (nx s1 1).2.1 j9 = s1.2.1 j9 from fun _ _ => rfl) j9 h9).trans ((show keepL gs s1 from fun j9 h9 => ((show ∀ j9, 5 ≤ j9 → s1.2.1 j9 = gs.2.1 j9 from ll9) j9 h9).trans ((show keepL gs gs from fun _ _ => rfl) j9 h9)) j9 h9))⟩, (UNm.ag un72 (by rw [(funext (fun q => ajV79 21 q rfl) : V79 21 = V68 21)] : V79 21 = V68 21)), cn96⟩)) (show 0 ≤ (g4 - 1) from by first | exact om_63465e109454 klp5_1.2 f50 ((Imp.go xlp5_3 (f15))) | first | omega | ((try (have i_xlp40_2 := Imp.go xlp40_2 (by omega))); (try (have i_xlp5_3 := Imp.go xlp5_3 (by omega))); (try (have i_xlp5_3 := Imp.go xlp5_3 (by omega))); (try (have i_xlp40_2 := Imp.go xlp40_2 (by omega))); omega)) (show z65.toInt ≤ 6 from by first | exact om_1e1b103e2e8d klp5_1.2 f50 hz65 | first | omega | ((try (have i_xlp40_2 := Imp.go xlp40_2 (by omega))); (try (have i_xlp5_3 := Imp.go xlp5_3 (by omega))); (try (have i_xlp5_3 := Imp.go xlp5_3 (by omega))); (try (have i_xlp40_2 := Imp.go xlp40_2 (by omega))); omega)) (Imp.mk (fun hp => have hp : (V79 0 8).toInt = 0 := hp; (show 7 - z65.toInt < (g4 - 1) from by first | exact om_3b5c2a59e72f hz65 ((Imp.go xlp5_3 (f15))) | first | omega | ((try (have i_xlp40_2 := Imp.go xlp40_2 (by omega))); (try (have i_xlp5_3 := Imp.go xlp5_3 (by omega))); (try (have i_xlp5_3 := Imp.go xlp5_3 (by omega))); (try (have i_xlp40_2 := Imp.go xlp40_2 (by omega))); omega)))) (show (V79 0 12).toInt = (V 0 12).toInt from by first | exact om_570b691c1130 pq94 | first | omega | ((try (have i_xlp40_2 := Imp.go xlp40_2 (by omega))); (try (have i_xlp5_3 := Imp.go xlp5_3 (by omega))); (try (have i_xlp5_3 := Imp.go xlp5_3 (by omega))); (try (have i_xlp40_2 := Imp.go xlp40_2 (by omega))); omega)) (by first | omega | ((try (have i_xlp40_2 := Imp.go xlp40_2 (by omega))); (try (have i_xlp5_3 := Imp.go xlp5_3 (by omega))); (try (have i_xlp5_3 := Imp.go xlp5_3 (by omega))); (try (have i_xlp40_2 := Imp.go xlp40_2 (by omega))); omega)) (agr.tr (agr.tr (agr.up (agr.up (agr.tr (agr.up (agr.tr (agr.tr agr.rf ajV3 (by decide) (by decide)) ajV20 (by decide) (by decide)) hV32 rfl) ajV39 (by decide) (by decide)) hV52 rfl) hV63 rfl) ajV68 (by decide) (by decide)) ajV79 (by decide) (by decide)) hMV79 hP hD hS (lv_sub hl [0, 2, 4, 5, 6] rfl)
                                · skip
                                  have f97 : y67.toInt < 24 := b_nle (by decide) rfl c70
                                  refine lv_aload_n hx hb dX12_takeTypes_128 rfl (lv_at hl 5 rfl) ?_
                                  refine lv_bipush (v := 24) hx hb dX12_takeTypes_129 (by decide) ?_
                                  refine lv_iload_n hx hb dX12_takeTypes_131 rfl (lv_at hl 6 rfl) ?_
                                  refine lv_imul hx hb dX12_takeTypes_132 ?_
                                  refine lv_topi (fun z98 ez98 => ?_)
                                  have hz98 : z98.toInt = 24 * p1.toInt := i_mul ez98 (by decide) rfl (by (first | exact om_71c20f736ea3 rg_p1.2 pgo gfr | omega))
                                  refine lv_iload hx hb dX12_takeTypes_133 (lv_at hl 0 rfl) ?_
                                  refine lv_iadd hx hb dX12_takeTypes_135 ?_
                                  refine lv_topi (fun z99 ez99 => ?_)
                                  have hz99 : z99.toInt = z98.toInt + y67.toInt := i_add ez99 rfl rfl (by (first | exact om_ce4b95d991a9 rg_p1.2 pgo gfr klp69_0.1 f97 hz98 | omega))
                                  refine lv_aload_n hx hb dX12_takeTypes_136 rfl (lv_at hl 5 rfl) ?_
                                  refine lv_bipush (v := 24) hx hb dX12_takeTypes_137 (by decide) ?_
                                  refine lv_iload_n hx hb dX12_takeTypes_139 rfl (lv_at hl 6 rfl) ?_
                                  refine lv_imul hx hb dX12_takeTypes_140 ?_
                                  refine lv_topi (fun z100 ez100 => ?_)
                                  have hz100 : z100.toInt = 24 * p1.toInt := i_mul ez100 (by decide) rfl (by (first | exact om_71c20f736ea3 rg_p1.2 pgo gfr | omega))
                                  refine lv_iload hx hb dX12_takeTypes_141 (lv_at hl 0 rfl) ?_
                                  refine lv_iadd hx hb dX12_takeTypes_143 ?_
                                  refine lv_topi (fun z101 ez101 => ?_)
                                  have hz101 : z101.toInt = z100.toInt + y67.toInt := i_add ez101 rfl rfl (by (first | exact om_ce4b95d991a9 rg_p1.2 pgo gfr klp69_0.1 f97 hz100 | omega))
                                  refine va_zald (D := D) (i := z101) hx hb hK hP 14 13 rfl rfl (i_in (a := z101.toInt) rfl (by first | exact om_e21fd4bb223a rg_p1.1 rg_p1.2 klp69_0.1 f97 hz100 hz101 | first | omega | ((try (have i_xlp40_2 := Imp.go xlp40_2 (by omega))); (try (have i_xlp5_3 := Imp.go xlp5_3 (by omega))); (try (have i_xlp5_3 := Imp.go xlp5_3 (by omega))); (try (have i_xlp40_2 := Imp.go xlp40_2 (by omega))); omega))) dX12_takeTypes_144 ?_
                                  have r102 : 0 ≤ ((V68 21 (Int32.toNatClampNeg z101))).toInt ∧ ((V68 21 (Int32.toNatClampNeg z101))).toInt ≤ 1 := hMV68 21 (Int32.toNatClampNeg z101)
                                  refine lv_if_ne (tgt := 172) hx hb dX12_takeTypes_145 (by decide) (fun c103 => ?_) (fun c103 => ?_)
                                  · skip
                                    have f104 : ((V68 21 (Int32.toNatClampNeg z101))).toInt ≠ 0 := b_neq rfl (by decide) c103
                                    refine lv_iconst (v := 1) hx hb dX12_takeTypes_172 (by decide) ?_
                                    refine lv_goto (tgt := 177) hx hb dX12_takeTypes_173 (by decide) ?_
                                    refine va_zast (D := D) (i := z99) (x := 1) hx hb hK hP hD hS 14 13 rfl rfl (i_in (a := z99.toInt) rfl (by first | exact om_e21fd4bb223a rg_p1.1 rg_p1.2 klp69_0.1 f97 hz98 hz99 | first | omega | ((try (have i_xlp40_2 := Imp.go xlp40_2 (by omega))); (try (have i_xlp5_3 := Imp.go xlp5_3 (by omega))); (try (have i_xlp5_3 := Imp.go xlp5_3 (by omega))); (try (have i_xlp40_2 := Imp.go xlp40_2 (by omega))); omega))) dX12_takeTypes_177 (fun H locs hP hD hS => ?_)
                                    obtain ⟨V105, hV105⟩ : ∃ z, z = up2 V68 21 (Int32.toNatClampNeg z99) (vp_nar .boolean 1) := ⟨_, rfl⟩
                                    have hP : va_P D vwCl (mw ad kk ks.1 V105 L) H := by rw [hV105]; exact hP
                                    have hD : va_D A (mw ad kk ks.1 V105 L) := by rw [hV105]; exact hD
                                    have hMV105 : rgd bM V105 := hMV68.put hV105 (nar_b _)
                                    have agV105 : agr [(0, 7), (0, 8)] [15, 21, 53] V V105 := agV68.up hV105 rfl
                                    obtain ⟨z106, ez106⟩ : ∃ y : Int32, y = y67 + 1 := ⟨_, rfl⟩
                                    have hz106 : z106.toInt = y67.toInt + 1 := i_add ez106 rfl (by decide) (by (first | exact om_bc9106cf44c9 klp69_0.1 f97 | omega))
                                    refine lv_iinc (v := z106) (lv' := [(6, .int z106), (3, .int z65), (5, .int z16), (4, .int y1), (0, .ref (ad 0)), (1, .ref (ad 21)), (2, .int p1)]) hx hb dX12_takeTypes_178 hl (k := 0) rfl (by rw [ez106]; rfl) (by decide) rfl (fun ls hl => ?_)
                                    refine lv_goto (tgt := 121) hx hb dX12_takeTypes_181 (by decide) ?_
                                    have kc107 := i_clamp (x := y67) rfl (by (first | exact om_eafa9039069c klp69_0.1 | omega))
                                    have kp110 : (Int32.toNatClampNeg z99) = 24 * go + (Int32.toNatClampNeg y67) := by have h9 := i_clamp (x := z99) rfl (by (first | exact om_eca9e79ec4c2 pgo gfr klp69_0.1 hz98 hz99 | omega)); (first | exact om_b57d09e2e28e pgo hz98 hz99 kc107 h9 | omega)
                                    have kA108 : (V68 21 (Int32.toNatClampNeg z101)).toInt = (V68 21 (24 * go + (Int32.toNatClampNeg y67))).toInt := by rw [show Int32.toNatClampNeg z101 = 24 * go + (Int32.toNatClampNeg y67) from by have h9 := i_clamp (x := z101) rfl (by (first | exact om_eca9e79ec4c2 pgo gfr klp69_0.1 hz100 hz101 | omega)); omega]
                                    have r111 : 0 ≤ (V68 21 (24 * go + (Int32.toNatClampNeg y67))).toInt ∧ (V68 21 (24 * go + (Int32.toNatClampNeg y67))).toInt ≤ 1 := hMV68 21 _
                                    have r112 : 0 ≤ (V68 15 (24 * (24 * bq + fx23) + (Int32.toNatClampNeg y67))).toInt ∧ (V68 15 (24 * (24 * bq + fx23) + (Int32.toNatClampNeg y67))).toInt ≤ 1 := hMV68 15 _
                                    have nr113 : (vp_nar .boolean 1).toInt = 1 := by decide
                                    have lt9 : fx23 < (gs.2.1 0).length := by have h9 := look_lt h24; rw [((keepS.tr (keepS.rf : keepS gs 0 gs) kq)).2.2.1 0 (by decide)] at h9; exact h9
                                    have cn114 : CNm V105 bq gs := CNm.up xlp69_1 hV105 (fun q9 => by have h9 := i_clamp (x := z99) rfl (by (first | exact om_eca9e79ec4c2 pgo gfr klp69_0.1 hz98 hz99 | omega)); unfold rdm at q9; omega)
                                    exact ihlp69 z106 V105 H locs ls (by first | exact om_a5349b170263 klp69_0.1 f97 hz106 | first | omega | ((try (have i_xlp40_2 := Imp.go xlp40_2 (by omega))); (try (have i_xlp5_3 := Imp.go xlp5_3 (by omega))); (try (have i_xlp5_3 := Imp.go xlp5_3 (by omega))); (try (have i_xlp40_2 := Imp.go xlp40_2 (by omega))); omega)) (UNx.st (u := 24 * bq + fx23) (y := (Int32.toNatClampNeg y67)) xlp69_0 hV105 kp110 (by omega) (by omega) (by omega) (xlp69_1.2.2.1 fx23 lt9) (show ((vp_nar .boolean 1)).toInt = 1 ↔ _ from iff_of_true (by decide) (Or.inl (by omega)))) cn114 (by first | exact om_9592d9319ffa hn hz106 | first | omega | ((try (have i_xlp40_2 := Imp.go xlp40_2 (by omega))); (try (have i_xlp5_3 := Imp.go xlp5_3 (by omega))); (try (have i_xlp5_3 := Imp.go xlp5_3 (by omega))); (try (have i_xlp40_2 := Imp.go xlp40_2 (by omega))); omega)) (agr.up (agr.tr agr.rf ajV68 (by decide) (by decide)) hV105 rfl) hMV105 hP hD hS (lv_sub hl [0, 1, 2, 3, 4, 5, 6] rfl)
                                  · skip
                                    have f115 : ((V68 21 (Int32.toNatClampNeg z101))).toInt = 0 := b_eq rfl (by decide) c103
                                    refine lv_aload_n hx hb dX12_takeTypes_148 rfl (lv_at hl 4 rfl) ?_
                                    refine va_get (D := D) (ci := 12) (v := .ref (ad 15)) (C := RX12) (T := TX12) (N := 100) hx hb hg inX12 hown hK hP 0 rfl rfl 15 (by decide) (hg _ w1721) (fun _ h9 => h9) rfl dX12_takeTypes_149 ?_
                                    refine lv_bipush (v := 24) hx hb dX12_takeTypes_152 (by decide) ?_
                                    refine lv_bipush (v := 24) hx hb dX12_takeTypes_154 (by decide) ?_
                                    refine lv_aload_n hx hb dX12_takeTypes_156 rfl (lv_at hl 4 rfl) ?_
                                    refine va_get (D := D) (ci := 12) (v := .int (V68 0 12)) (C := RX12) (T := TX12) (N := 100) hx hb hg inX12 hown hK hP 0 rfl rfl 12 (by decide) (hg _ w1718) (fun _ h9 => h9) rfl dX12_takeTypes_157 ?_
                                    refine g_top (v := (V 0 12)) ((ajV68 0 12 rfl).trans ((up2_o hV63 (by decide)).trans ((up2_k hV52 (by decide)).trans ((ajV39 0 12 rfl).trans ((up2_k hV32 (by decide)).trans ((ajV20 0 12 rfl).trans (ajV3 0 12 rfl))))))) ?_
                                    refine lv_imul hx hb dX12_takeTypes_160 ?_
                                    refine lv_topi (fun z116 ez116 => ?_)
                                    have hz116 : z116.toInt = 24 * ((V 0 12)).toInt := i_mul ez116 (by decide) rfl (by (first | exact om_3f8aba7b6ce1 r8.1 r8.2 | omega))
                                    refine lv_iload hx hb dX12_takeTypes_161 (lv_at hl 2 rfl) ?_
                                    refine lv_iadd hx hb dX12_takeTypes_163 ?_
                                    refine lv_topi (fun z117 ez117 => ?_)
                                    have hz117 : z117.toInt = z116.toInt + z16.toInt := i_add ez117 rfl rfl (by (first | exact om_28492b8d939d r8.1 r8.2 rgz16.1 rgz16.2 hz116 | omega))
                                    refine lv_imul hx hb dX12_takeTypes_164 ?_
                                    refine lv_topi (fun z118 ez118 => ?_)
                                    have hz118 : z118.toInt = 24 * z117.toInt := i_mul ez118 (by decide) rfl (by (first | exact om_fc84c92ae077 r8.1 r8.2 rgz16.1 rgz16.2 hz116 hz117 | omega))
                                    refine lv_iload hx hb dX12_takeTypes_165 (lv_at hl 0 rfl) ?_
                                    refine lv_iadd hx hb dX12_takeTypes_167 ?_
                                    refine lv_topi (fun z119 ez119 => ?_)
                                    have hz119 : z119.toInt = z118.toInt + y67.toInt := i_add ez119 rfl rfl (by (first | exact om_44ef469b3d0d r8.1 r8.2 rgz16.1 rgz16.2 klp69_0.1 f97 hz116 hz117 hz118 | omega))
                                    refine va_zald (D := D) (i := z119) hx hb hK hP 8 7 rfl rfl (i_in (a := z119.toInt) rfl (by first | omega | ((try (have i_xlp40_2 := Imp.go xlp40_2 (by omega))); (try (have i_xlp5_3 := Imp.go xlp5_3 (by omega))); (try (have i_xlp5_3 := Imp.go xlp5_3 (by omega))); (try (have i_xlp40_2 := Imp.go xlp40_2 (by omega))); omega))) dX12_takeTypes_168 ?_
                                    have r120 : 0 ≤ ((V68 15 (Int32.toNatClampNeg z119))).toInt ∧ ((V68 15 (Int32.toNatClampNeg z119))).toInt ≤ 1 := hMV68 15 (Int32.toNatClampNeg z119)
                                    refine lv_if_eq (tgt := 176) hx hb dX12_takeTypes_169 (by decide) (fun c121 => ?_) (fun c121 => ?_)
                                    · skip
                                      have f122 : ((V68 15 (Int32.toNatClampNeg z119))).toInt = 0 := b_eq rfl (by decide) c121
                                      refine lv_iconst (v := 0) hx hb dX12_takeTypes_176 (by decide) ?_
                                      refine va_zast (D := D) (i := z99) (x := 0) hx hb hK hP hD hS 14 13 rfl rfl (i_in (a := z99.toInt) rfl (by first | exact om_e21fd4bb223a rg_p1.1 rg_p1.2 klp69_0.1 f97 hz98 hz99 | first | omega | ((try (have i_xlp40_2 := Imp.go xlp40_2 (by omega))); (try (have i_xlp5_3 := Imp.go xlp5_3 (by omega))); (try (have i_xlp5_3 := Imp.go xlp5_3 (by omega))); (try (have i_xlp40_2 := Imp.go xlp40_2 (by omega))); omega))) dX12_takeTypes_177 (fun H locs hP hD hS => ?_)
                                      obtain ⟨V123, hV123⟩ : ∃ z, z = up2 V68 21 (Int32.toNatClampNeg z99) (vp_nar .boolean 0) := ⟨_, rfl⟩
                                      have hP : va_P D vwCl (mw ad kk ks.1 V123 L) H := by rw [hV123]; exact hP
                                      have hD : va_D A (mw ad kk ks.1 V123 L) := by rw [hV123]; exact hD
                                      have hMV123 : rgd bM V123 := hMV68.put hV123 (nar_b _)
                                      have agV123 : agr [(0, 7), (0, 8)] [15, 21, 53] V V123 := agV68.up hV123 rfl
                                      obtain ⟨z124, ez124⟩ : ∃ y : Int32, y = y67 + 1 := ⟨_, rfl⟩
                                      have hz124 : z124.toInt = y67.toInt + 1 := i_add ez124 rfl (by decide) (by (first | exact om_bc9106cf44c9 klp69_0.1 f97 | omega))
                                      refine lv_iinc (v := z124) (lv' := [(6, .int z124), (3, .int z65), (5, .int z16), (4, .int y1), (0, .ref (ad 0)), (1, .ref (ad 21)), (2, .int p1)]) hx hb dX12_takeTypes_178 hl (k := 0) rfl (by rw [ez124]; rfl) (by decide) rfl (fun ls hl => ?_)
                                      refine lv_goto (tgt := 121) hx hb dX12_takeTypes_181 (by decide) ?_
                                      have kc125 := i_clamp (x := y67) rfl (by (first | exact om_eafa9039069c klp69_0.1 | omega))
                                      have kp128 : (Int32.toNatClampNeg z99) = 24 * go + (Int32.toNatClampNeg y67) := by have h9 := i_clamp (x := z99) rfl (by (first | exact om_eca9e79ec4c2 pgo gfr klp69_0.1 hz98 hz99 | omega)); (first | exact om_b57d09e2e28e pgo hz98 hz99 kc125 h9 | omega)
                                      have kA126 : (V68 21 (Int32.toNatClampNeg z101)).toInt = (V68 21 (24 * go + (Int32.toNatClampNeg y67))).toInt := by rw [show Int32.toNatClampNeg z101 = 24 * go + (Int32.toNatClampNeg y67) from by have h9 := i_clamp (x := z101) rfl (by (first | exact om_eca9e79ec4c2 pgo gfr klp69_0.1 hz100 hz101 | omega)); omega]
                                      have r129 : 0 ≤ (V68 21 (24 * go + (Int32.toNatClampNeg y67))).toInt ∧ (V68 21 (24 * go + (Int32.toNatClampNeg y67))).toInt ≤ 1 := hMV68 21 _
                                      have r130 : 0 ≤ (V68 15 (24 * (24 * bq + fx23) + (Int32.toNatClampNeg y67))).toInt ∧ (V68 15 (24 * (24 * bq + fx23) + (Int32.toNatClampNeg y67))).toInt ≤ 1 := hMV68 15 _
                                      have kB127 : (V68 15 (Int32.toNatClampNeg z119)).toInt = (V68 15 (24 * (24 * bq + fx23) + (Int32.toNatClampNeg y67))).toInt := by rw [show Int32.toNatClampNeg z119 = 24 * (24 * bq + fx23) + (Int32.toNatClampNeg y67) from by have h9 := i_clamp (x := z119) rfl (by omega); omega]
                                      have nr131 : (vp_nar .boolean 0).toInt = 0 := by decide
                                      have lt9 : fx23 < (gs.2.1 0).length := by have h9 := look_lt h24; rw [((keepS.tr (keepS.rf : keepS gs 0 gs) kq)).2.2.1 0 (by decide)] at h9; exact h9
                                      have cn132 : CNm V123 bq gs := CNm.up xlp69_1 hV123 (fun q9 => by have h9 := i_clamp (x := z99) rfl (by (first | exact om_eca9e79ec4c2 pgo gfr klp69_0.1 hz98 hz99 | omega)); unfold rdm at q9; omega)
                                      exact ihlp69 z124 V123 H locs ls (by first | exact om_a5349b170263 klp69_0.1 f97 hz124 | first | omega | ((try (have i_xlp40_2 := Imp.go xlp40_2 (by omega))); (try (have i_xlp5_3 := Imp.go xlp5_3 (by omega))); (try (have i_xlp5_3 := Imp.go xlp5_3 (by omega))); (try (have i_xlp40_2 := Imp.go xlp40_2 (by omega))); omega)) (UNx.st (u := 24 * bq + fx23) (y := (Int32.toNatClampNeg y67)) xlp69_0 hV123 kp128 (by omega) (by omega) (by omega) (xlp69_1.2.2.1 fx23 lt9) (show ((vp_nar .boolean 0)).toInt = 1 ↔ _ from iff_of_false (by decide) (fun h9 => h9.elim (fun h8 => by omega) (fun h8 => by omega)))) cn132 (by first | exact om_9592d9319ffa hn hz124 | first | omega | ((try (have i_xlp40_2 := Imp.go xlp40_2 (by omega))); (try (have i_xlp5_3 := Imp.go xlp5_3 (by omega))); (try (have i_xlp5_3 := Imp.go xlp5_3 (by omega))); (try (have i_xlp40_2 := Imp.go xlp40_2 (by omega))); omega)) (agr.up (agr.tr agr.rf ajV68 (by decide) (by decide)) hV123 rfl) hMV123 hP hD hS (lv_sub hl [0, 1, 2, 3, 4, 5, 6] rfl)
                                    · skip
                                      have f133 : ((V68 15 (Int32.toNatClampNeg z119))).toInt ≠ 0 := b_neq rfl (by decide) c121
                                      refine lv_iconst (v := 1) hx hb dX12_takeTypes_172 (by decide) ?_
                                      refine lv_goto (tgt := 177) hx hb dX12_takeTypes_173 (by decide) ?_
                                      refine va_zast (D := D) (i := z99) (x := 1) hx hb hK hP hD hS 14 13 rfl rfl (i_in (a := z99.toInt) rfl (by first | exact om_e21fd4bb223a rg_p1.1 rg_p1.2 klp69_0.1 f97 hz98 hz99 | first | omega | ((try (have i_xlp40_2 := Imp.go xlp40_2 (by omega))); (try (have i_xlp5_3 := Imp.go xlp5_3 (by omega))); (try (have i_xlp5_3 := Imp.go xlp5_3 (by omega))); (try (have i_xlp40_2 := Imp.go xlp40_2 (by omega))); omega))) dX12_takeTypes_177 (fun H locs hP hD hS => ?_)
                                      obtain ⟨V134, hV134⟩ : ∃ z, z = up2 V68 21 (Int32.toNatClampNeg z99) (vp_nar .boolean 1) := ⟨_, rfl⟩
                                      have hP : va_P D vwCl (mw ad kk ks.1 V134 L) H := by rw [hV134]; exact hP
                                      have hD : va_D A (mw ad kk ks.1 V134 L) := by rw [hV134]; exact hD
                                      have hMV134 : rgd bM V134 := hMV68.put hV134 (nar_b _)
                                      have agV134 : agr [(0, 7), (0, 8)] [15, 21, 53] V V134 := agV68.up hV134 rfl
                                      obtain ⟨z135, ez135⟩ : ∃ y : Int32, y = y67 + 1 := ⟨_, rfl⟩
                                      have hz135 : z135.toInt = y67.toInt + 1 := i_add ez135 rfl (by decide) (by (first | exact om_bc9106cf44c9 klp69_0.1 f97 | omega))
                                      refine lv_iinc (v := z135) (lv' := [(6, .int z135), (3, .int z65), (5, .int z16), (4, .int y1), (0, .ref (ad 0)), (1, .ref (ad 21)), (2, .int p1)]) hx hb dX12_takeTypes_178 hl (k := 0) rfl (by rw [ez135]; rfl) (by decide) rfl (fun ls hl => ?_)
                                      refine lv_goto (tgt := 121) hx hb dX12_takeTypes_181 (by decide) ?_
                                      have kc136 := i_clamp (x := y67) rfl (by (first | exact om_eafa9039069c klp69_0.1 | omega))
                                      have kp139 : (Int32.toNatClampNeg z99) = 24 * go + (Int32.toNatClampNeg y67) := by have h9 := i_clamp (x := z99) rfl (by (first | exact om_eca9e79ec4c2 pgo gfr klp69_0.1 hz98 hz99 | omega)); (first | exact om_b57d09e2e28e pgo hz98 hz99 kc136 h9 | omega)
                                      have kA137 : (V68 21 (Int32.toNatClampNeg z101)).toInt = (V68 21 (24 * go + (Int32.toNatClampNeg y67))).toInt := by rw [show Int32.toNatClampNeg z101 = 24 * go + (Int32.toNatClampNeg y67) from by have h9 := i_clamp (x := z101) rfl (by (first | exact om_eca9e79ec4c2 pgo gfr klp69_0.1 hz100 hz101 | omega)); omega]
                                      have r140 : 0 ≤ (V68 21 (24 * go + (Int32.toNatClampNeg y67))).toInt ∧ (V68 21 (24 * go + (Int32.toNatClampNeg y67))).toInt ≤ 1 := hMV68 21 _
                                      have r141 : 0 ≤ (V68 15 (24 * (24 * bq + fx23) + (Int32.toNatClampNeg y67))).toInt ∧ (V68 15 (24 * (24 * bq + fx23) + (Int32.toNatClampNeg y67))).toInt ≤ 1 := hMV68 15 _
                                      have kB138 : (V68 15 (Int32.toNatClampNeg z119)).toInt = (V68 15 (24 * (24 * bq + fx23) + (Int32.toNatClampNeg y67))).toInt := by rw [show Int32.toNatClampNeg z119 = 24 * (24 * bq + fx23) + (Int32.toNatClampNeg y67) from by have h9 := i_clamp (x := z119) rfl (by omega); omega]
                                      have nr142 : (vp_nar .boolean 1).toInt = 1 := by decide
                                      have lt9 : fx23 < (gs.2.1 0).length := by have h9 := look_lt h24; rw [((keepS.tr (keepS.rf : keepS gs 0 gs) kq)).2.2.1 0 (by decide)] at h9; exact h9
                                      have cn143 : CNm V134 bq gs := CNm.up xlp69_1 hV134 (fun q9 => by have h9 := i_clamp (x := z99) rfl (by (first | exact om_eca9e79ec4c2 pgo gfr klp69_0.1 hz98 hz99 | omega)); unfold rdm at q9; omega)
                                      exact ihlp69 z135 V134 H locs ls (by first | exact om_a5349b170263 klp69_0.1 f97 hz135 | first | omega | ((try (have i_xlp40_2 := Imp.go xlp40_2 (by omega))); (try (have i_xlp5_3 := Imp.go xlp5_3 (by omega))); (try (have i_xlp5_3 := Imp.go xlp5_3 (by omega))); (try (have i_xlp40_2 := Imp.go xlp40_2 (by omega))); omega)) (UNx.st (u := 24 * bq + fx23) (y := (Int32.toNatClampNeg y67)) xlp69_0 hV134 kp139 (by omega) (by omega) (by omega) (xlp69_1.2.2.1 fx23 lt9) (show ((vp_nar .boolean 1)).toInt = 1 ↔ _ from iff_of_true (by decide) (Or.inr (by omega)))) cn143 (by first | exact om_9592d9319ffa hn hz135 | first | omega | ((try (have i_xlp40_2 := Imp.go xlp40_2 (by omega))); (try (have i_xlp5_3 := Imp.go xlp5_3 (by omega))); (try (have i_xlp5_3 := Imp.go xlp5_3 (by omega))); (try (have i_xlp40_2 := Imp.go xlp40_2 (by omega))); omega)) (agr.up (agr.tr agr.rf ajV68 (by decide) (by decide)) hV134 rfl) hMV134 hP hD hS (lv_sub hl [0, 1, 2, 3, 4, 5, 6] rfl)
                            have r144 : Int32.toInt 0 = 0 := by decide
                            have cn145 : CNm V63 bq gs := CNm.ag cq (show agr [(0, 7), (0, 8)] [53] V3 V63 from (agr.up (agr.up (agr.tr (agr.up (agr.tr agr.rf ajV20 (by decide) (by decide)) hV32 rfl) ajV39 (by decide) (by decide)) hV52 rfl) hV63 rfl)) (by decide) keepC.rf
                            exact lp69 ((24 - (Int32.toInt 0) + 1 : Int).toNat) 0 V63 H locs ls (by decide) (UNx.z uq (by rw [(up2_fo hV63 (by decide) : V63 21 = V52 21), (up2_fo hV52 (by decide) : V52 21 = V39 21), (funext (fun q => ajV39 21 q rfl) : V39 21 = V32 21), (up2_fo hV32 (by decide) : V32 21 = V20 21), (funext (fun q => ajV20 21 q rfl) : V20 21 = V3 21)] : V63 21 = V3 21) (by decide)) cn145 (by first | exact om_817980d3aa47 | first | omega | ((try (have i_xlp40_2 := Imp.go xlp40_2 (by omega))); (try (have i_xlp5_3 := Imp.go xlp5_3 (by omega))); (try (have i_xlp5_3 := Imp.go xlp5_3 (by omega))); (try (have i_xlp40_2 := Imp.go xlp40_2 (by omega))); omega)) agr.rf hMV63 hP hD hS (lv_sub hl [0, 1, 2, 3, 4, 5, 6] rfl)
                        · skip
                          have f146 : y2.toInt = 6 := b_eq rfl (by decide) c49
                          refine lv_aload_n hx hb dX12_takeTypes_85 rfl (lv_at hl 4 rfl) ?_
                          refine lv_iconst (v := 5) hx hb dX12_takeTypes_86 (by decide) ?_
                          have r147 : Int32.toInt 5 = 5 := by decide
                          refine gA_void (gA_runV (As := [.int 5]) (rest := []) (ci := 12) (q0 := 0) hx hb hml hown hg hP hD hK hS hA hnw hgk (s_wrongA l D ks H.size ad kk V39 L 5 (bq) (gn) (gT) (s1) (gl) hMV39 (by decide) ri) w2035 w2037 w86 w172 w2038 rfl rfl hdV_yX12_wrong ⟨Nat.le_of_ble_eq_true rfl, Nat.le_of_ble_eq_true rfl⟩ rfl hl.1 rfl (Nat.le_of_ble_eq_true rfl) dX12_takeTypes_87 ⟨Nat.le_of_ble_eq_true rfl, Nat.le_of_ble_eq_true rfl⟩) hP hD hK hS hA (fun u149 H locs w150 hP hD hK hS => ?_)
                          obtain ⟨V153, L154⟩ := u149
                          obtain ⟨hMV153, ajV153, axL154, t151, t152⟩ := w150
                          have axL154 : L = L154 := Eq.symm axL154
                          subst axL154
                          have hP : va_P D vwCl (mw ad kk ks.1 V153 L) H := hP
                          have hD : va_D A (mw ad kk ks.1 V153 L) := hD
                          have hMV153 : rgd bM V153 := hMV153
                          have ajV153 : agr [(0, 8)] [] V39 V153 := ajV153
                          have agV153 : agr [(0, 7), (0, 8)] [15, 21, 53] V V153 := agV39.tr ajV153 (by decide) (by decide)
                          have t151 : 1 ≤ (V153 0 8).toInt := t151
                          have t152 : (V153 0 8).toInt = (Int32.toInt 5) + 16 * (gT).2.2 ((s1).1 0) := t152
                          have r155 : 0 ≤ ((V153 0 8)).toInt ∧ ((V153 0 8)).toInt ≤ 70000 := hMV153 0 8
                          have hb156 : ∀ k, Rc gT (Crun gs (Itypes gy gw 0 [] :: k)) (Cbad (V153 0 8).toInt) := fun k => Rc.go1 (hq k) ((ty_5 h24 (LST.no (LST.ag lq (by rw [(funext (fun q => ajV39 53 q rfl) : V39 53 = V32 53), (up2_fo hV32 (by decide) : V32 53 = V20 53), (funext (fun q => ajV20 53 q rfl) : V20 53 = V3 53)] : V39 53 = V3 53)) (fun k h9 => by rw [← hf26]; exact ni k (by omega))) (by omega)).trans (fl_eq rfl (show (V153 0 8).toInt = 5 + 16 * gT.2.2 (s1.1 0) from by omega)))
                          refine lv_aload_n hx hb dX12_takeTypes_90 rfl (lv_at hl 4 rfl) ?_
                          refine lv_dup hx hb dX12_takeTypes_91 rfl ?_
                          refine va_get (D := D) (ci := 12) (v := .int (V153 0 7)) (C := RX12) (T := TX12) (N := 100) hx hb hg inX12 hown hK hP 0 rfl rfl 7 (by decide) (hg _ w1713) (fun _ h9 => h9) rfl dX12_takeTypes_92 ?_
                          refine g_top (v := z31) ((ajV153 0 7 rfl).trans ((ajV39 0 7 rfl).trans (up2_s hV32))) ?_
                          refine lv_iconst (v := 1) hx hb dX12_takeTypes_95 (by decide) ?_
                          refine lv_iadd hx hb dX12_takeTypes_96 ?_
                          refine lv_topi (fun z157 ez157 => ?_)
                          have hz157 : z157.toInt = z31.toInt + 1 := i_add ez157 rfl (by decide) (by (first | exact om_37595bfb6665 rz34.1 rz34.2 | omega))
                          refine va_put (D := D) (ci := 12) (v := .int z157) (ty := tyX12 7) (C := RX12) (T := TX12) (N := 100) hx hb hg inX12 tyX12 tyX12_ok nmX12 hown hK hP hD hS 0 rfl rfl 7 (by decide) (hg _ w1713) (fun _ h9 => h9) rfl (tyX12_ok 7 (by decide)) rfl rfl (Nat.le_of_ble_eq_true rfl) dX12_takeTypes_97 (fun H locs hP hD hS => ?_)
                          obtain ⟨V158, hV158⟩ : ∃ z, z = up2 V153 0 7 z157 := ⟨_, rfl⟩
                          have hP : va_P D vwCl (mw ad kk ks.1 V158 L) H := by rw [hV158]; exact hP
                          have hD : va_D A (mw ad kk ks.1 V158 L) := by rw [hV158]; exact hD
                          have hMV158 : rgd bM V158 := hMV153.put hV158 (i_full _)
                          have agV158 : agr [(0, 7), (0, 8)] [15, 21, 53] V V158 := agV153.up hV158 rfl
                          refine lv_aload_n hx hb dX12_takeTypes_100 rfl (lv_at hl 4 rfl) ?_
                          refine va_get (D := D) (ci := 12) (v := .int (V158 0 8)) (C := RX12) (T := TX12) (N := 100) hx hb hg inX12 hown hK hP 0 rfl rfl 8 (by decide) (hg _ w1714) (fun _ h9 => h9) rfl dX12_takeTypes_101 ?_
                          refine g_top (v := (V153 0 8)) (up2_k hV158 (by decide)) ?_
                          refine lv_if_ne (tgt := 184) hx hb dX12_takeTypes_104 (by decide) (fun c159 => ?_) (fun c159 => ?_)
                          · skip
                            have f160 : ((V153 0 8)).toInt ≠ 0 := b_neq rfl (by decide) c159
                            refine lv_aload_n hx hb dX12_takeTypes_184 rfl (lv_at hl 4 rfl) ?_
                            refine lv_bipush (v := 44) hx hb dX12_takeTypes_185 (by decide) ?_
                            have r161 : Int32.toInt 44 = 44 := by decide
                            have pq162 : (V158 0 8).toInt = ((V153 0 8)).toInt := congrArg Int32.toInt (up2_k hV158 (by decide))
                            refine gA_int (gA_runV (As := [.int 44]) (rest := []) (ci := 12) (q0 := 0) hx hb hml hown hg hP hD hK hS hA hnw hgk (s_hasSignB l D ks H.size ad kk V158 L 44 hMV158 (show 1 ≤ (V158 0 8).toInt from by first | exact om_e3c391a03e81 t151 pq162 | first | omega | ((try (have i_xlp40_2 := Imp.go xlp40_2 (by omega))); (try (have i_xlp5_3 := Imp.go xlp5_3 (by omega))); (try (have i_xlp5_3 := Imp.go xlp5_3 (by omega))); (try (have i_xlp40_2 := Imp.go xlp40_2 (by omega))); omega))) w2067 w2069 w94 w172 w2070 rfl rfl hdV_yX12_hasSign ⟨Nat.le_of_ble_eq_true rfl, Nat.le_of_ble_eq_true rfl⟩ rfl hl.1 rfl (Nat.le_of_ble_eq_true rfl) dX12_takeTypes_187 ⟨Nat.le_of_ble_eq_true rfl, Nat.le_of_ble_eq_true rfl⟩) hP hD hK hS hA (fun z163 u164 H locs w165 hP hD hK hS => ?_)
                            obtain ⟨V167, L168⟩ := u164
                            obtain ⟨hMV167, ajV167, axL168, rgz163, t166⟩ := w165
                            have axL168 : L = L168 := Eq.symm axL168
                            subst axL168
                            have hP : va_P D vwCl (mw ad kk ks.1 V167 L) H := hP
                            have hD : va_D A (mw ad kk ks.1 V167 L) := hD
                            have hMV167 : rgd bM V167 := hMV167
                            have ajV167 : agr [(0, 7)] [] V158 V167 := ajV167
                            have agV167 : agr [(0, 7), (0, 8)] [15, 21, 53] V V167 := agV158.tr ajV167 (by decide) (by decide)
                            have rgz163 : 0 ≤ z163.toInt ∧ z163.toInt ≤ 0 := rgz163
                            have t166 : (V167 0 8).toInt = (V158 0 8).toInt := t166
                            have pq169 : (V167 0 8).toInt = ((V153 0 8)).toInt := congrArg Int32.toInt ((ajV167 0 8 rfl).trans (up2_k hV158 (by decide)))
                            refine lv_istore (lv' := [(4, .int z163), (6, .int y38), (5, .int z16), (3, .int y2), (0, .ref (ad 0)), (1, .ref (ad 21)), (2, .int p1)]) hx hb dX12_takeTypes_190 hl (by decide) rfl (fun ls hl => ?_)
                            refine lv_goto (tgt := 5) hx hb dX12_takeTypes_192 (by decide) ?_
                            have pq170 : (V167 0 12).toInt = ((V 0 12)).toInt := congrArg Int32.toInt ((ajV167 0 12 rfl).trans ((up2_k hV158 (by decide)).trans ((ajV153 0 12 rfl).trans ((ajV39 0 12 rfl).trans ((up2_k hV32 (by decide)).trans ((ajV20 0 12 rfl).trans (ajV3 0 12 rfl)))))))
                            exact ihlp5 (g4 - 1) z163 y2 V167 H locs ls (by first | exact om_641b3f05f166 rgz163.1 rgz163.2 | first | omega | ((try (have i_xlp40_2 := Imp.go xlp40_2 (by omega))); (try (have i_xlp5_3 := Imp.go xlp5_3 (by omega))); (try (have i_xlp5_3 := Imp.go xlp5_3 (by omega))); (try (have i_xlp40_2 := Imp.go xlp40_2 (by omega))); omega)) (by first | exact om_bcf072f18d8c klp5_1.2 f146 | first | omega | ((try (have i_xlp40_2 := Imp.go xlp40_2 (by omega))); (try (have i_xlp5_3 := Imp.go xlp5_3 (by omega))); (try (have i_xlp5_3 := Imp.go xlp5_3 (by omega))); (try (have i_xlp40_2 := Imp.go xlp40_2 (by omega))); omega)) (Or.inr (Or.inr ⟨(show 1 ≤ (V167 0 8).toInt from by (first | exact om_2487ca371d8b t151 pq162 t166 | omega)), (fun k => by rw [show (V167 0 8).toInt = (V153 0 8).toInt from by omega]; exact hb156 k)⟩)) (show 0 ≤ (g4 - 1) from by first | exact om_76a34b28fb8f klp5_1.2 ((Imp.go xlp5_3 (f15))) | first | omega | ((try (have i_xlp40_2 := Imp.go xlp40_2 (by omega))); (try (have i_xlp5_3 := Imp.go xlp5_3 (by omega))); (try (have i_xlp5_3 := Imp.go xlp5_3 (by omega))); (try (have i_xlp40_2 := Imp.go xlp40_2 (by omega))); omega)) (show y2.toInt ≤ 6 from by first | exact om_1cd470348f7c klp5_1.2 | first | omega | ((try (have i_xlp40_2 := Imp.go xlp40_2 (by omega))); (try (have i_xlp5_3 := Imp.go xlp5_3 (by omega))); (try (have i_xlp5_3 := Imp.go xlp5_3 (by omega))); (try (have i_xlp40_2 := Imp.go xlp40_2 (by omega))); omega)) (Imp.mk (fun hp => have hp : (V167 0 8).toInt = 0 := hp; (show 7 - y2.toInt < (g4 - 1) from by first | omega | ((try (have i_xlp40_2 := Imp.go xlp40_2 (by omega))); (try (have i_xlp5_3 := Imp.go xlp5_3 (by omega))); (try (have i_xlp5_3 := Imp.go xlp5_3 (by omega))); (try (have i_xlp40_2 := Imp.go xlp40_2 (by omega))); omega)))) (show (V167 0 12).toInt = (V 0 12).toInt from by first | exact om_570b691c1130 pq170 | first | omega | ((try (have i_xlp40_2 := Imp.go xlp40_2 (by omega))); (try (have i_xlp5_3 := Imp.go xlp5_3 (by omega))); (try (have i_xlp5_3 := Imp.go xlp5_3 (by omega))); (try (have i_xlp40_2 := Imp.go xlp40_2 (by omega))); omega)) (by first | omega | ((try (have i_xlp40_2 := Imp.go xlp40_2 (by omega))); (try (have i_xlp5_3 := Imp.go xlp5_3 (by omega))); (try (have i_xlp5_3 := Imp.go xlp5_3 (by omega))); (try (have i_xlp40_2 := Imp.go xlp40_2 (by omega))); omega)) (agr.tr (agr.up (agr.tr (agr.tr (agr.up (agr.tr (agr.tr agr.rf ajV3 (by decide) (by decide)) ajV20 (by decide) (by decide)) hV32 rfl) ajV39 (by decide) (by decide)) ajV153 (by decide) (by decide)) hV158 rfl) ajV167 (by decide) (by decide)) hMV167 hP hD hS (lv_sub hl [0, 3, 4, 5, 6] rfl)
                          · skip
                            have f171 : ((V153 0 8)).toInt = 0 := b_eq rfl (by decide) c159
                            exfalso; first | exact om_09885ab343b9 t151 f171 | first | omega | ((try (have i_xlp40_2 := Imp.go xlp40_2 (by omega))); (try (have i_xlp5_3 := Imp.go xlp5_3 (by omega))); (try (have i_xlp5_3 := Imp.go xlp5_3 (by omega))); (try (have i_xlp40_2 := Imp.go xlp40_2 (by omega))); omega)
                    · skip
                      have f172 : y38.toInt < y2.toInt := b_nle rfl rfl c44
                      refine lv_aload_n hx hb dX12_takeTypes_42 rfl (lv_at hl 4 rfl) ?_
                      refine va_get (D := D) (ci := 12) (v := .int (V39 0 8)) (C := RX12) (T := TX12) (N := 100) hx hb hg inX12 hown hK hP 0 rfl rfl 8 (by decide) (hg _ w1714) (fun _ h9 => h9) rfl dX12_takeTypes_43 ?_
                      refine lv_if_ne (tgt := 72) hx hb dX12_takeTypes_46 (by decide) (fun c173 => ?_) (fun c173 => ?_)
                      · skip
                        have f174 : ((V39 0 8)).toInt ≠ 0 := b_neq rfl (by decide) c173
                        exfalso; first | exact om_0b51723c7ef6 f7 f174 | first | omega | ((try (have i_xlp40_2 := Imp.go xlp40_2 (by omega))); (try (have i_xlp5_3 := Imp.go xlp5_3 (by omega))); (try (have i_xlp5_3 := Imp.go xlp5_3 (by omega))); (try (have i_xlp40_2 := Imp.go xlp40_2 (by omega))); omega)
                      · skip
                        have f175 : ((V39 0 8)).toInt = 0 := b_eq rfl (by decide) c173
                        refine lv_aload_n hx hb dX12_takeTypes_49 rfl (lv_at hl 4 rfl) ?_
                        refine va_get (D := D) (ci := 12) (v := .ref (ad 53)) (C := RX12) (T := TX12) (N := 100) hx hb hg inX12 hown hK hP 0 rfl rfl 53 (by decide) (hg _ w1759) (fun _ h9 => h9) rfl dX12_takeTypes_50 ?_
                        refine lv_iload hx hb dX12_takeTypes_53 (lv_at hl 0 rfl) ?_
                        refine va_iald (D := D) (i := y38) hx hb hK hP 41 40 rfl rfl (i_in (a := y38.toInt) rfl (by first | exact om_d031f10f3d19 klp5_1.2 klp40_0.1 f172 | first | omega | ((try (have i_xlp40_2 := Imp.go xlp40_2 (by omega))); (try (have i_xlp5_3 := Imp.go xlp5_3 (by omega))); (try (have i_xlp5_3 := Imp.go xlp5_3 (by omega))); (try (have i_xlp40_2 := Imp.go xlp40_2 (by omega))); omega))) dX12_takeTypes_55 ?_
                        refine g_top (v := (V3 53 (Int32.toNatClampNeg y38))) ((ajV39 53 (Int32.toNatClampNeg y38) rfl).trans ((up2_o hV32 (by decide)).trans (ajV20 53 (Int32.toNatClampNeg y38) rfl))) ?_
                        have r176 : (-1) ≤ ((V3 53 (Int32.toNatClampNeg y38))).toInt ∧ ((V3 53 (Int32.toNatClampNeg y38))).toInt ≤ 23 := hMV3 53 (Int32.toNatClampNeg y38)
                        refine lv_iload hx hb dX12_takeTypes_56 (lv_at hl 1 rfl) ?_
                        refine lv_icmp_ne (tgt := 66) hx hb dX12_takeTypes_58 (by decide) (fun c177 => ?_) (fun c177 => ?_)
                        · skip
                          have f178 : ((V3 53 (Int32.toNatClampNeg y38))).toInt ≠ z16.toInt := b_neq rfl rfl c177
                          obtain ⟨z179, ez179⟩ : ∃ y : Int32, y = y38 + 1 := ⟨_, rfl⟩
                          have hz179 : z179.toInt = y38.toInt + 1 := i_add ez179 rfl (by decide) (by (first | exact om_65d898249a5b klp5_1.2 klp40_0.1 f172 | omega))
                          refine lv_iinc (v := z179) (lv' := [(6, .int z179), (5, .int z16), (4, .int y1), (3, .int y2), (0, .ref (ad 0)), (1, .ref (ad 21)), (2, .int p1)]) hx hb dX12_takeTypes_66 hl (k := 0) rfl (by rw [ez179]; rfl) (by decide) rfl (fun ls hl => ?_)
                          refine lv_goto (tgt := 36) hx hb dX12_takeTypes_69 (by decide) ?_
                          have kc180 := i_clamp (x := y38) rfl (by (first | exact om_eafa9039069c klp40_0.1 | omega))
                          have pq181 : (V39 53 (Int32.toNatClampNeg y38)).toInt = ((V3 53 (Int32.toNatClampNeg y38))).toInt := congrArg Int32.toInt ((ajV39 53 (Int32.toNatClampNeg y38) rfl).trans ((up2_o hV32 (by decide)).trans (ajV20 53 (Int32.toNatClampNeg y38) rfl)))
                          exact ihlp40 z179 V39 H locs ls (by first | exact om_d043005af2aa klp5_1.2 klp40_0.1 f172 hz179 | first | omega | ((try (have i_xlp40_2 := Imp.go xlp40_2 (by omega))); (try (have i_xlp5_3 := Imp.go xlp5_3 (by omega))); (try (have i_xlp5_3 := Imp.go xlp5_3 (by omega))); (try (have i_xlp40_2 := Imp.go xlp40_2 (by omega))); omega)) (Or.inl ⟨W0 ri, ri, fun k h9 => by by_cases c9 : (k : Int) < y38.toInt; exact ni k c9; have ek : k = Int32.toNatClampNeg y38 := (by omega); rw [ek]; omega⟩) (show z179.toInt ≤ y2.toInt from by first | exact om_7fe9249fc074 f172 hz179 | first | omega | ((try (have i_xlp40_2 := Imp.go xlp40_2 (by omega))); (try (have i_xlp5_3 := Imp.go xlp5_3 (by omega))); (try (have i_xlp5_3 := Imp.go xlp5_3 (by omega))); (try (have i_xlp40_2 := Imp.go xlp40_2 (by omega))); omega)) (Imp.mk (fun hp => have hp : 1 ≤ (V32 0 8).toInt := hp; (show (V39 0 8).toInt = (V32 0 8).toInt from by first | omega | ((try (have i_xlp40_2 := Imp.go xlp40_2 (by omega))); (try (have i_xlp5_3 := Imp.go xlp5_3 (by omega))); (try (have i_xlp5_3 := Imp.go xlp5_3 (by omega))); (try (have i_xlp40_2 := Imp.go xlp40_2 (by omega))); omega)))) (by first | exact om_9e7d2b874257 hn hz179 | first | omega | ((try (have i_xlp40_2 := Imp.go xlp40_2 (by omega))); (try (have i_xlp5_3 := Imp.go xlp5_3 (by omega))); (try (have i_xlp5_3 := Imp.go xlp5_3 (by omega))); (try (have i_xlp40_2 := Imp.go xlp40_2 (by omega))); omega)) (agr.tr agr.rf ajV39 (by decide) (by decide)) hMV39 hP hD hS (lv_sub hl [0, 1, 2, 3, 4, 5, 6] rfl)
                        · skip
                          have f182 : ((V3 53 (Int32.toNatClampNeg y38))).toInt = z16.toInt := b_eq rfl rfl c177
                          refine lv_aload_n hx hb dX12_takeTypes_61 rfl (lv_at hl 4 rfl) ?_
                          refine lv_iconst (v := 3) hx hb dX12_takeTypes_62 (by decide) ?_
                          have r183 : Int32.toInt 3 = 3 := by decide
                          refine gA_void (gA_runV (As := [.int 3]) (rest := []) (ci := 12) (q0 := 0) hx hb hml hown hg hP hD hK hS hA hnw hgk (s_wrongA l D ks H.size ad kk V39 L 3 (bq) (gn) (gT) (s1) (gl) hMV39 (by decide) ri) w2035 w2037 w86 w172 w2038 rfl rfl hdV_yX12_wrong ⟨Nat.le_of_ble_eq_true rfl, Nat.le_of_ble_eq_true rfl⟩ rfl hl.1 rfl (Nat.le_of_ble_eq_true rfl) dX12_takeTypes_63 ⟨Nat.le_of_ble_eq_true rfl, Nat.le_of_ble_eq_true rfl⟩) hP hD hK hS hA (fun u185 H locs w186 hP hD hK hS => ?_)
                          obtain ⟨V189, L190⟩ := u185
                          obtain ⟨hMV189, ajV189, axL190, t187, t188⟩ := w186
                          have axL190 : L = L190 := Eq.symm axL190
                          subst axL190
                          have hP : va_P D vwCl (mw ad kk ks.1 V189 L) H := hP
                          have hD : va_D A (mw ad kk ks.1 V189 L) := hD
                          have hMV189 : rgd bM V189 := hMV189
                          have ajV189 : agr [(0, 8)] [] V39 V189 := ajV189
                          have agV189 : agr [(0, 7), (0, 8)] [15, 21, 53] V V189 := agV39.tr ajV189 (by decide) (by decide)
                          have t187 : 1 ≤ (V189 0 8).toInt := t187
                          have t188 : (V189 0 8).toInt = (Int32.toInt 3) + 16 * (gT).2.2 ((s1).1 0) := t188
                          have r191 : 0 ≤ ((V189 0 8)).toInt ∧ ((V189 0 8)).toInt ≤ 70000 := hMV189 0 8
                          have kc192 := i_clamp (x := y38) rfl (by (first | exact om_eafa9039069c klp40_0.1 | omega))
                          have hb193 : ∀ k, Rc gT (Crun gs (Itypes gy gw 0 [] :: k)) (Cbad (V189 0 8).toInt) := fun k => Rc.go1 (hq k) ((ty_3 h24 ((lq fx23).mpr ⟨Int32.toNatClampNeg y38, by omega, by omega⟩)).trans (fl_eq rfl (show (V189 0 8).toInt = 3 + 16 * gT.2.2 (s1.1 0) from by omega)))
                          obtain ⟨z194, ez194⟩ : ∃ y : Int32, y = y38 + 1 := ⟨_, rfl⟩
                          have hz194 : z194.toInt = y38.toInt + 1 := i_add ez194 rfl (by decide) (by (first | exact om_65d898249a5b klp5_1.2 klp40_0.1 f172 | omega))
                          refine lv_iinc (v := z194) (lv' := [(6, .int z194), (5, .int z16), (4, .int y1), (3, .int y2), (0, .ref (ad 0)), (1, .ref (ad 21)), (2, .int p1)]) hx hb dX12_takeTypes_66 hl (k := 0) rfl (by rw [ez194]; rfl) (by decide) rfl (fun ls hl => ?_)
                          refine lv_goto (tgt := 36) hx hb dX12_takeTypes_69 (by decide) ?_
                          exact ihlp40 z194 V189 H locs ls (by first | exact om_d043005af2aa klp5_1.2 klp40_0.1 f172 hz194 | first | omega | ((try (have i_xlp40_2 := Imp.go xlp40_2 (by omega))); (try (have i_xlp5_3 := Imp.go xlp5_3 (by omega))); (try (have i_xlp5_3 := Imp.go xlp5_3 (by omega))); (try (have i_xlp40_2 := Imp.go xlp40_2 (by omega))); omega)) (Or.inr ⟨(show 1 ≤ (V189 0 8).toInt from by (first | exact om_f8d8213eda45 t187 | omega)), hb193⟩) (show z194.toInt ≤ y2.toInt from by first | exact om_7fe9249fc074 f172 hz194 | first | omega | ((try (have i_xlp40_2 := Imp.go xlp40_2 (by omega))); (try (have i_xlp5_3 := Imp.go xlp5_3 (by omega))); (try (have i_xlp5_3 := Imp.go xlp5_3 (by omega))); (try (have i_xlp40_2 := Imp.go xlp40_2 (by omega))); omega)) (Imp.mk (fun hp => have hp : 1 ≤ (V32 0 8).toInt := hp; (show (V189 0 8).toInt = (V32 0 8).toInt from by first | omega | ((try (have i_xlp40_2 := Imp.go xlp40_2 (by omega))); (try (have i_xlp5_3 := Imp.go xlp5_3 (by omega))); (try (have i_xlp5_3 := Imp.go xlp5_3 (by omega))); (try (have i_xlp40_2 := Imp.go xlp40_2 (by omega))); omega)))) (by first | exact om_9e7d2b874257 hn hz194 | first | omega | ((try (have i_xlp40_2 := Imp.go xlp40_2 (by omega))); (try (have i_xlp5_3 := Imp.go xlp5_3 (by omega))); (try (have i_xlp5_3 := Imp.go xlp5_3 (by omega))); (try (have i_xlp40_2 := Imp.go xlp40_2 (by omega))); omega)) (agr.tr (agr.tr agr.rf ajV39 (by decide) (by decide)) ajV189 (by decide) (by decide)) hMV189 hP hD hS (lv_sub hl [0, 1, 2, 3, 4, 5, 6] rfl)
                  · skip
                    have r195 : 0 ≤ ((V39 0 8)).toInt ∧ ((V39 0 8)).toInt ≤ 70000 := hMV39 0 8
                    refine lv_iload_n hx hb dX12_takeTypes_38 rfl (lv_at hl 3 rfl) ?_
                    refine lv_icmp_ge (tgt := 72) hx hb dX12_takeTypes_39 (by decide) (fun c196 => ?_) (fun c196 => ?_)
                    · skip
                      have f197 : y2.toInt ≤ y38.toInt := b_le rfl rfl c196
                      refine lv_aload_n hx hb dX12_takeTypes_72 rfl (lv_at hl 4 rfl) ?_
                      refine va_get (D := D) (ci := 12) (v := .int (V39 0 8)) (C := RX12) (T := TX12) (N := 100) hx hb hg inX12 hown hK hP 0 rfl rfl 8 (by decide) (hg _ w1714) (fun _ h9 => h9) rfl dX12_takeTypes_73 ?_
                      refine lv_if_ne (tgt := 90) hx hb dX12_takeTypes_76 (by decide) (fun c198 => ?_) (fun c198 => ?_)
                      · skip
                        have f199 : ((V39 0 8)).toInt ≠ 0 := b_neq rfl (by decide) c198
                        refine lv_aload_n hx hb dX12_takeTypes_90 rfl (lv_at hl 4 rfl) ?_
                        refine lv_dup hx hb dX12_takeTypes_91 rfl ?_
                        refine va_get (D := D) (ci := 12) (v := .int (V39 0 7)) (C := RX12) (T := TX12) (N := 100) hx hb hg inX12 hown hK hP 0 rfl rfl 7 (by decide) (hg _ w1713) (fun _ h9 => h9) rfl dX12_takeTypes_92 ?_
                        refine g_top (v := z31) ((ajV39 0 7 rfl).trans (up2_s hV32)) ?_
                        refine lv_iconst (v := 1) hx hb dX12_takeTypes_95 (by decide) ?_
                        refine lv_iadd hx hb dX12_takeTypes_96 ?_
                        refine lv_topi (fun z200 ez200 => ?_)
                        have hz200 : z200.toInt = z31.toInt + 1 := i_add ez200 rfl (by decide) (by (first | exact om_37595bfb6665 rz34.1 rz34.2 | omega))
                        refine va_put (D := D) (ci := 12) (v := .int z200) (ty := tyX12 7) (C := RX12) (T := TX12) (N := 100) hx hb hg inX12 tyX12 tyX12_ok nmX12 hown hK hP hD hS 0 rfl rfl 7 (by decide) (hg _ w1713) (fun _ h9 => h9) rfl (tyX12_ok 7 (by decide)) rfl rfl (Nat.le_of_ble_eq_true rfl) dX12_takeTypes_97 (fun H locs hP hD hS => ?_)
                        obtain ⟨V201, hV201⟩ : ∃ z, z = up2 V39 0 7 z200 := ⟨_, rfl⟩
                        have hP : va_P D vwCl (mw ad kk ks.1 V201 L) H := by rw [hV201]; exact hP
                        have hD : va_D A (mw ad kk ks.1 V201 L) := by rw [hV201]; exact hD
                        have hMV201 : rgd bM V201 := hMV39.put hV201 (i_full _)
                        have agV201 : agr [(0, 7), (0, 8)] [15, 21, 53] V V201 := agV39.up hV201 rfl
                        refine lv_aload_n hx hb dX12_takeTypes_100 rfl (lv_at hl 4 rfl) ?_
                        refine va_get (D := D) (ci := 12) (v := .int (V201 0 8)) (C := RX12) (T := TX12) (N := 100) hx hb hg inX12 hown hK hP 0 rfl rfl 8 (by decide) (hg _ w1714) (fun _ h9 => h9) rfl dX12_takeTypes_101 ?_
                        refine g_top (v := (V39 0 8)) (up2_k hV201 (by decide)) ?_
                        refine lv_if_ne (tgt := 184) hx hb dX12_takeTypes_104 (by decide) (fun c202 => ?_) (fun c202 => ?_)
                        · skip
                          have f203 : ((V39 0 8)).toInt ≠ 0 := b_neq rfl (by decide) c202
                          refine lv_aload_n hx hb dX12_takeTypes_184 rfl (lv_at hl 4 rfl) ?_
                          refine lv_bipush (v := 44) hx hb dX12_takeTypes_185 (by decide) ?_
                          have r204 : Int32.toInt 44 = 44 := by decide
                          have pq205 : (V201 0 8).toInt = ((V39 0 8)).toInt := congrArg Int32.toInt (up2_k hV201 (by decide))
                          refine gA_int (gA_runV (As := [.int 44]) (rest := []) (ci := 12) (q0 := 0) hx hb hml hown hg hP hD hK hS hA hnw hgk (s_hasSignB l D ks H.size ad kk V201 L 44 hMV201 (show 1 ≤ (V201 0 8).toInt from by first | exact om_1499017b39b7 r195.1 f199 pq205 | first | omega | ((try (have i_xlp40_2 := Imp.go xlp40_2 (by omega))); (try (have i_xlp5_3 := Imp.go xlp5_3 (by omega))); (try (have i_xlp5_3 := Imp.go xlp5_3 (by omega))); (try (have i_xlp40_2 := Imp.go xlp40_2 (by omega))); omega))) w2067 w2069 w94 w172 w2070 rfl rfl hdV_yX12_hasSign ⟨Nat.le_of_ble_eq_true rfl, Nat.le_of_ble_eq_true rfl⟩ rfl hl.1 rfl (Nat.le_of_ble_eq_true rfl) dX12_takeTypes_187 ⟨Nat.le_of_ble_eq_true rfl, Nat.le_of_ble_eq_true rfl⟩) hP hD hK hS hA (fun z206 u207 H locs w208 hP hD hK hS => ?_)
                          obtain ⟨V210, L211⟩ := u207
                          obtain ⟨hMV210, ajV210, axL211, rgz206, t209⟩ := w208
                          have axL211 : L = L211 := Eq.symm axL211
                          subst axL211
                          have hP : va_P D vwCl (mw ad kk ks.1 V210 L) H := hP
                          have hD : va_D A (mw ad kk ks.1 V210 L) := hD
                          have hMV210 : rgd bM V210 := hMV210
                          have ajV210 : agr [(0, 7)] [] V201 V210 := ajV210
                          have agV210 : agr [(0, 7), (0, 8)] [15, 21, 53] V V210 := agV201.tr ajV210 (by decide) (by decide)
                          have rgz206 : 0 ≤ z206.toInt ∧ z206.toInt ≤ 0 := rgz206
                          have t209 : (V210 0 8).toInt = (V201 0 8).toInt := t209
                          have pq212 : (V210 0 8).toInt = ((V39 0 8)).toInt := congrArg Int32.toInt ((ajV210 0 8 rfl).trans (up2_k hV201 (by decide)))
                          refine lv_istore (lv' := [(4, .int z206), (6, .int y38), (5, .int z16), (3, .int y2), (0, .ref (ad 0)), (1, .ref (ad 21)), (2, .int p1)]) hx hb dX12_takeTypes_190 hl (by decide) rfl (fun ls hl => ?_)
                          refine lv_goto (tgt := 5) hx hb dX12_takeTypes_192 (by decide) ?_
                          have pq213 : (V210 0 12).toInt = ((V 0 12)).toInt := congrArg Int32.toInt ((ajV210 0 12 rfl).trans ((up2_k hV201 (by decide)).trans ((ajV39 0 12 rfl).trans ((up2_k hV32 (by decide)).trans ((ajV20 0 12 rfl).trans (ajV3 0 12 rfl))))))
                          exact ihlp5 (g4 - 1) z206 y2 V210 H locs ls (by first | exact om_641b3f05f166 rgz206.1 rgz206.2 | first | omega | ((try (have i_xlp40_2 := Imp.go xlp40_2 (by omega))); (try (have i_xlp5_3 := Imp.go xlp5_3 (by omega))); (try (have i_xlp5_3 := Imp.go xlp5_3 (by omega))); (try (have i_xlp40_2 := Imp.go xlp40_2 (by omega))); omega)) (by first | exact om_5de5485ce193 klp40_0.1 klp40_0.2 xlp40_1 f197 | first | omega | ((try (have i_xlp40_2 := Imp.go xlp40_2 (by omega))); (try (have i_xlp5_3 := Imp.go xlp5_3 (by omega))); (try (have i_xlp5_3 := Imp.go xlp5_3 (by omega))); (try (have i_xlp40_2 := Imp.go xlp40_2 (by omega))); omega)) (Or.inr (Or.inr ⟨(show 1 ≤ (V210 0 8).toInt from by (first | exact om_14e1582db31a r195.1 f199 pq205 t209 | omega)), (fun k => by rw [show (V210 0 8).toInt = (V39 0 8).toInt from by omega]; exact hi k)⟩)) (show 0 ≤ (g4 - 1) from by first | exact om_53bb2050c72d klp40_0.2 f197 ((Imp.go xlp5_3 (f15))) | first | omega | ((try (have i_xlp40_2 := Imp.go xlp40_2 (by omega))); (try (have i_xlp5_3 := Imp.go xlp5_3 (by omega))); (try (have i_xlp5_3 := Imp.go xlp5_3 (by omega))); (try (have i_xlp40_2 := Imp.go xlp40_2 (by omega))); omega)) (show y2.toInt ≤ 6 from by first | exact om_95b7a1d732ac klp40_0.2 f197 | first | omega | ((try (have i_xlp40_2 := Imp.go xlp40_2 (by omega))); (try (have i_xlp5_3 := Imp.go xlp5_3 (by omega))); (try (have i_xlp5_3 := Imp.go xlp5_3 (by omega))); (try (have i_xlp40_2 := Imp.go xlp40_2 (by omega))); omega)) (Imp.mk (fun hp => have hp : (V210 0 8).toInt = 0 := hp; (show 7 - y2.toInt < (g4 - 1) from by first | omega | ((try (have i_xlp40_2 := Imp.go xlp40_2 (by omega))); (try (have i_xlp5_3 := Imp.go xlp5_3 (by omega))); (try (have i_xlp5_3 := Imp.go xlp5_3 (by omega))); (try (have i_xlp40_2 := Imp.go xlp40_2 (by omega))); omega)))) (show (V210 0 12).toInt = (V 0 12).toInt from by first | exact om_570b691c1130 pq213 | first | omega | ((try (have i_xlp40_2 := Imp.go xlp40_2 (by omega))); (try (have i_xlp5_3 := Imp.go xlp5_3 (by omega))); (try (have i_xlp5_3 := Imp.go xlp5_3 (by omega))); (try (have i_xlp40_2 := Imp.go xlp40_2 (by omega))); omega)) (by first | omega | ((try (have i_xlp40_2 := Imp.go xlp40_2 (by omega))); (try (have i_xlp5_3 := Imp.go xlp5_3 (by omega))); (try (have i_xlp5_3 := Imp.go xlp5_3 (by omega))); (try (have i_xlp40_2 := Imp.go xlp40_2 (by omega))); omega)) (agr.tr (agr.up (agr.tr (agr.up (agr.tr (agr.tr agr.rf ajV3 (by decide) (by decide)) ajV20 (by decide) (by decide)) hV32 rfl) ajV39 (by decide) (by decide)) hV201 rfl) ajV210 (by decide) (by decide)) hMV210 hP hD hS (lv_sub hl [0, 3, 4, 5, 6] rfl)
                        · skip
                          have f214 : ((V39 0 8)).toInt = 0 := b_eq rfl (by decide) c202
                          exfalso; first | exact om_0abcda13baee r195.1 f199 f214 | first | omega | ((try (have i_xlp40_2 := Imp.go xlp40_2 (by omega))); (try (have i_xlp5_3 := Imp.go xlp5_3 (by omega))); (try (have i_xlp5_3 := Imp.go xlp5_3 (by omega))); (try (have i_xlp40_2 := Imp.go xlp40_2 (by omega))); omega)
                      · skip
                        have f215 : ((V39 0 8)).toInt = 0 := b_eq rfl (by decide) c198
                        exfalso; first | exact om_09885ab343b9 f7 f215 | first | omega | ((try (have i_xlp40_2 := Imp.go xlp40_2 (by omega))); (try (have i_xlp5_3 := Imp.go xlp5_3 (by omega))); (try (have i_xlp5_3 := Imp.go xlp5_3 (by omega))); (try (have i_xlp40_2 := Imp.go xlp40_2 (by omega))); omega)
                    · skip
                      have f216 : y38.toInt < y2.toInt := b_nle rfl rfl c196
                      refine lv_aload_n hx hb dX12_takeTypes_42 rfl (lv_at hl 4 rfl) ?_
                      refine va_get (D := D) (ci := 12) (v := .int (V39 0 8)) (C := RX12) (T := TX12) (N := 100) hx hb hg inX12 hown hK hP 0 rfl rfl 8 (by decide) (hg _ w1714) (fun _ h9 => h9) rfl dX12_takeTypes_43 ?_
                      refine lv_if_ne (tgt := 72) hx hb dX12_takeTypes_46 (by decide) (fun c217 => ?_) (fun c217 => ?_)
                      · skip
                        have f218 : ((V39 0 8)).toInt ≠ 0 := b_neq rfl (by decide) c217
                        refine lv_aload_n hx hb dX12_takeTypes_72 rfl (lv_at hl 4 rfl) ?_
                        refine va_get (D := D) (ci := 12) (v := .int (V39 0 8)) (C := RX12) (T := TX12) (N := 100) hx hb hg inX12 hown hK hP 0 rfl rfl 8 (by decide) (hg _ w1714) (fun _ h9 => h9) rfl dX12_takeTypes_73 ?_
                        refine lv_if_ne (tgt := 90) hx hb dX12_takeTypes_76 (by decide) (fun c219 => ?_) (fun c219 => ?_)
                        · skip
                          have f220 : ((V39 0 8)).toInt ≠ 0 := b_neq rfl (by decide) c219
                          refine lv_aload_n hx hb dX12_takeTypes_90 rfl (lv_at hl 4 rfl) ?_
                          refine lv_dup hx hb dX12_takeTypes_91 rfl ?_
                          refine va_get (D := D) (ci := 12) (v := .int (V39 0 7)) (C := RX12) (T := TX12) (N := 100) hx hb hg inX12 hown hK hP 0 rfl rfl 7 (by decide) (hg _ w1713) (fun _ h9 => h9) rfl dX12_takeTypes_92 ?_
                          refine g_top (v := z31) ((ajV39 0 7 rfl).trans (up2_s hV32)) ?_
                          refine lv_iconst (v := 1) hx hb dX12_takeTypes_95 (by decide) ?_
                          refine lv_iadd hx hb dX12_takeTypes_96 ?_
                          refine lv_topi (fun z221 ez221 => ?_)
                          have hz221 : z221.toInt = z31.toInt + 1 := i_add ez221 rfl (by decide) (by (first | exact om_37595bfb6665 rz34.1 rz34.2 | omega))
                          refine va_put (D := D) (ci := 12) (v := .int z221) (ty := tyX12 7) (C := RX12) (T := TX12) (N := 100) hx hb hg inX12 tyX12 tyX12_ok nmX12 hown hK hP hD hS 0 rfl rfl 7 (by decide) (hg _ w1713) (fun _ h9 => h9) rfl (tyX12_ok 7 (by decide)) rfl rfl (Nat.le_of_ble_eq_true rfl) dX12_takeTypes_97 (fun H locs hP hD hS => ?_)
                          obtain ⟨V222, hV222⟩ : ∃ z, z = up2 V39 0 7 z221 := ⟨_, rfl⟩
                          have hP : va_P D vwCl (mw ad kk ks.1 V222 L) H := by rw [hV222]; exact hP
                          have hD : va_D A (mw ad kk ks.1 V222 L) := by rw [hV222]; exact hD
                          have hMV222 : rgd bM V222 := hMV39.put hV222 (i_full _)
                          have agV222 : agr [(0, 7), (0, 8)] [15, 21, 53] V V222 := agV39.up hV222 rfl
                          refine lv_aload_n hx hb dX12_takeTypes_100 rfl (lv_at hl 4 rfl) ?_
                          refine va_get (D := D) (ci := 12) (v := .int (V222 0 8)) (C := RX12) (T := TX12) (N := 100) hx hb hg inX12 hown hK hP 0 rfl rfl 8 (by decide) (hg _ w1714) (fun _ h9 => h9) rfl dX12_takeTypes_101 ?_
                          refine g_top (v := (V39 0 8)) (up2_k hV222 (by decide)) ?_
                          refine lv_if_ne (tgt := 184) hx hb dX12_takeTypes_104 (by decide) (fun c223 => ?_) (fun c223 => ?_)
                          · skip
                            have f224 : ((V39 0 8)).toInt ≠ 0 := b_neq rfl (by decide) c223
                            refine lv_aload_n hx hb dX12_takeTypes_184 rfl (lv_at hl 4 rfl) ?_
                            refine lv_bipush (v := 44) hx hb dX12_takeTypes_185 (by decide) ?_
                            have r225 : Int32.toInt 44 = 44 := by decide
                            have pq226 : (V222 0 8).toInt = ((V39 0 8)).toInt := congrArg Int32.toInt (up2_k hV222 (by decide))
                            refine gA_int (gA_runV (As := [.int 44]) (rest := []) (ci := 12) (q0 := 0) hx hb hml hown hg hP hD hK hS hA hnw hgk (s_hasSignB l D ks H.size ad kk V222 L 44 hMV222 (show 1 ≤ (V222 0 8).toInt from by first | exact om_1499017b39b7 r195.1 f218 pq226 | first | omega | ((try (have i_xlp40_2 := Imp.go xlp40_2 (by omega))); (try (have i_xlp5_3 := Imp.go xlp5_3 (by omega))); (try (have i_xlp5_3 := Imp.go xlp5_3 (by omega))); (try (have i_xlp40_2 := Imp.go xlp40_2 (by omega))); omega))) w2067 w2069 w94 w172 w2070 rfl rfl hdV_yX12_hasSign ⟨Nat.le_of_ble_eq_true rfl, Nat.le_of_ble_eq_true rfl⟩ rfl hl.1 rfl (Nat.le_of_ble_eq_true rfl) dX12_takeTypes_187 ⟨Nat.le_of_ble_eq_true rfl, Nat.le_of_ble_eq_true rfl⟩) hP hD hK hS hA (fun z227 u228 H locs w229 hP hD hK hS => ?_)
                            obtain ⟨V231, L232⟩ := u228
                            obtain ⟨hMV231, ajV231, axL232, rgz227, t230⟩ := w229
                            have axL232 : L = L232 := Eq.symm axL232
                            subst axL232
                            have hP : va_P D vwCl (mw ad kk ks.1 V231 L) H := hP
                            have hD : va_D A (mw ad kk ks.1 V231 L) := hD
                            have hMV231 : rgd bM V231 := hMV231
                            have ajV231 : agr [(0, 7)] [] V222 V231 := ajV231
                            have agV231 : agr [(0, 7), (0, 8)] [15, 21, 53] V V231 := agV222.tr ajV231 (by decide) (by decide)
                            have rgz227 : 0 ≤ z227.toInt ∧ z227.toInt ≤ 0 := rgz227
                            have t230 : (V231 0 8).toInt = (V222 0 8).toInt := t230
                            have pq233 : (V231 0 8).toInt = ((V39 0 8)).toInt := congrArg Int32.toInt ((ajV231 0 8 rfl).trans (up2_k hV222 (by decide)))
                            refine lv_istore (lv' := [(4, .int z227), (6, .int y38), (5, .int z16), (3, .int y2), (0, .ref (ad 0)), (1, .ref (ad 21)), (2, .int p1)]) hx hb dX12_takeTypes_190 hl (by decide) rfl (fun ls hl => ?_)
                            refine lv_goto (tgt := 5) hx hb dX12_takeTypes_192 (by decide) ?_
                            have pq234 : (V231 0 12).toInt = ((V 0 12)).toInt := congrArg Int32.toInt ((ajV231 0 12 rfl).trans ((up2_k hV222 (by decide)).trans ((ajV39 0 12 rfl).trans ((up2_k hV32 (by decide)).trans ((ajV20 0 12 rfl).trans (ajV3 0 12 rfl))))))
                            exact ihlp5 (g4 - 1) z227 y2 V231 H locs ls (by first | exact om_641b3f05f166 rgz227.1 rgz227.2 | first | omega | ((try (have i_xlp40_2 := Imp.go xlp40_2 (by omega))); (try (have i_xlp5_3 := Imp.go xlp5_3 (by omega))); (try (have i_xlp5_3 := Imp.go xlp5_3 (by omega))); (try (have i_xlp40_2 := Imp.go xlp40_2 (by omega))); omega)) (by first | exact om_420c7ba86e3d klp5_1.2 klp40_0.1 f216 | first | omega | ((try (have i_xlp40_2 := Imp.go xlp40_2 (by omega))); (try (have i_xlp5_3 := Imp.go xlp5_3 (by omega))); (try (have i_xlp5_3 := Imp.go xlp5_3 (by omega))); (try (have i_xlp40_2 := Imp.go xlp40_2 (by omega))); omega)) (Or.inr (Or.inr ⟨(show 1 ≤ (V231 0 8).toInt from by (first | exact om_14e1582db31a r195.1 f218 pq226 t230 | omega)), (fun k => by rw [show (V231 0 8).toInt = (V39 0 8).toInt from by omega]; exact hi k)⟩)) (show 0 ≤ (g4 - 1) from by first | exact om_76a34b28fb8f klp5_1.2 ((Imp.go xlp5_3 (f15))) | first | omega | ((try (have i_xlp40_2 := Imp.go xlp40_2 (by omega))); (try (have i_xlp5_3 := Imp.go xlp5_3 (by omega))); (try (have i_xlp5_3 := Imp.go xlp5_3 (by omega))); (try (have i_xlp40_2 := Imp.go xlp40_2 (by omega))); omega)) (show y2.toInt ≤ 6 from by first | exact om_1cd470348f7c klp5_1.2 | first | omega | ((try (have i_xlp40_2 := Imp.go xlp40_2 (by omega))); (try (have i_xlp5_3 := Imp.go xlp5_3 (by omega))); (try (have i_xlp5_3 := Imp.go xlp5_3 (by omega))); (try (have i_xlp40_2 := Imp.go xlp40_2 (by omega))); omega)) (Imp.mk (fun hp => have hp : (V231 0 8).toInt = 0 := hp; (show 7 - y2.toInt < (g4 - 1) from by first | omega | ((try (have i_xlp40_2 := Imp.go xlp40_2 (by omega))); (try (have i_xlp5_3 := Imp.go xlp5_3 (by omega))); (try (have i_xlp5_3 := Imp.go xlp5_3 (by omega))); (try (have i_xlp40_2 := Imp.go xlp40_2 (by omega))); omega)))) (show (V231 0 12).toInt = (V 0 12).toInt from by first | exact om_570b691c1130 pq234 | first | omega | ((try (have i_xlp40_2 := Imp.go xlp40_2 (by omega))); (try (have i_xlp5_3 := Imp.go xlp5_3 (by omega))); (try (have i_xlp5_3 := Imp.go xlp5_3 (by omega))); (try (have i_xlp40_2 := Imp.go xlp40_2 (by omega))); omega)) (by first | omega | ((try (have i_xlp40_2 := Imp.go xlp40_2 (by omega))); (try (have i_xlp5_3 := Imp.go xlp5_3 (by omega))); (try (have i_xlp5_3 := Imp.go xlp5_3 (by omega))); (try (have i_xlp40_2 := Imp.go xlp40_2 (by omega))); omega)) (agr.tr (agr.up (agr.tr (agr.up (agr.tr (agr.tr agr.rf ajV3 (by decide) (by decide)) ajV20 (by decide) (by decide)) hV32 rfl) ajV39 (by decide) (by decide)) hV222 rfl) ajV231 (by decide) (by decide)) hMV231 hP hD hS (lv_sub hl [0, 3, 4, 5, 6] rfl)
                          · skip
                            have f235 : ((V39 0 8)).toInt = 0 := b_eq rfl (by decide) c223
                            exfalso; first | exact om_0abcda13baee r195.1 f218 f235 | first | omega | ((try (have i_xlp40_2 := Imp.go xlp40_2 (by omega))); (try (have i_xlp5_3 := Imp.go xlp5_3 (by omega))); (try (have i_xlp5_3 := Imp.go xlp5_3 (by omega))); (try (have i_xlp40_2 := Imp.go xlp40_2 (by omega))); omega)
                        · skip
                          have f236 : ((V39 0 8)).toInt = 0 := b_eq rfl (by decide) c219
                          exfalso; first | exact om_0abcda13baee r195.1 f218 f236 | first | omega | ((try (have i_xlp40_2 := Imp.go xlp40_2 (by omega))); (try (have i_xlp5_3 := Imp.go xlp5_3 (by omega))); (try (have i_xlp5_3 := Imp.go xlp5_3 (by omega))); (try (have i_xlp40_2 := Imp.go xlp40_2 (by omega))); omega)
                      · skip
                        have f237 : ((V39 0 8)).toInt = 0 := b_eq rfl (by decide) c217
                        exfalso; first | exact om_09885ab343b9 f7 f237 | first | omega | ((try (have i_xlp40_2 := Imp.go xlp40_2 (by omega))); (try (have i_xlp5_3 := Imp.go xlp5_3 (by omega))); (try (have i_xlp5_3 := Imp.go xlp5_3 (by omega))); (try (have i_xlp40_2 := Imp.go xlp40_2 (by omega))); omega)
              have r238 : Int32.toInt 0 = 0 := by decide
              exact lp40 ((y2.toInt - (Int32.toInt 0) + 1 : Int).toNat) 0 V32 H locs ls (by decide) (Or.inl ⟨W0 rl35, rl35, fun k h9 => by exfalso; omega⟩) (show (Int32.toInt 0) ≤ y2.toInt from by first | exact om_6f9bb8cf3bec klp5_1.1 r238 | first | omega | ((try (have i_xlp5_3 := Imp.go xlp5_3 (by omega))); omega)) (Imp.mk (fun hp => have hp : 1 ≤ (V32 0 8).toInt := hp; (show (V32 0 8).toInt = (V32 0 8).toInt from by first | exact om_4c2c879c4424 | first | omega | ((try (have i_xlp5_3 := Imp.go xlp5_3 (by omega))); omega)))) (by first | exact om_7441a7786481 | first | omega | ((try (have i_xlp5_3 := Imp.go xlp5_3 (by omega))); omega)) agr.rf hMV32 hP hD hS (lv_sub hl [0, 1, 2, 3, 4, 5, 6] rfl)
            · skip
              have hb239 : ∀ k, Rc gT (Crun gs (Itypes gy gw 0 [] :: k)) (Cbad (V20 0 8).toInt) := fun k => Rc.go1 (hq k) (ty_b h24)
              have r240 : 0 ≤ ((V20 0 8)).toInt ∧ ((V20 0 8)).toInt ≤ 70000 := hMV20 0 8
              refine lv_istore (lv' := [(5, .int z16), (4, .int y1), (3, .int y2), (0, .ref (ad 0)), (1, .ref (ad 21)), (2, .int p1)]) hx hb dX12_takeTypes_21 hl (by decide) rfl (fun ls hl => ?_)
              refine lv_aload_n hx hb dX12_takeTypes_23 rfl (lv_at hl 3 rfl) ?_
              refine lv_dup hx hb dX12_takeTypes_24 rfl ?_
              refine va_get (D := D) (ci := 12) (v := .int (V20 0 7)) (C := RX12) (T := TX12) (N := 100) hx hb hg inX12 hown hK hP 0 rfl rfl 7 (by decide) (hg _ w1713) (fun _ h9 => h9) rfl dX12_takeTypes_25 ?_
              refine lv_iconst (v := 1) hx hb dX12_takeTypes_28 (by decide) ?_
              refine lv_isub hx hb dX12_takeTypes_29 ?_
              have r241 := i_full (V20 0 7)
              refine lv_topi (fun z242 ez242 => ?_)
              have hz242 : Imp (-2147483648 ≤ ((V20 0 7)).toInt - 1 ∧ ((V20 0 7)).toInt - 1 ≤ 2147483647) (z242.toInt = ((V20 0 7)).toInt - 1) := Imp.mk (fun hp => i_sub ez242 rfl (by decide) hp)
              refine va_put (D := D) (ci := 12) (v := .int z242) (ty := tyX12 7) (C := RX12) (T := TX12) (N := 100) hx hb hg inX12 tyX12 tyX12_ok nmX12 hown hK hP hD hS 0 rfl rfl 7 (by decide) (hg _ w1713) (fun _ h9 => h9) rfl (tyX12_ok 7 (by decide)) rfl rfl (Nat.le_of_ble_eq_true rfl) dX12_takeTypes_30 (fun H locs hP hD hS => ?_)
              obtain ⟨V243, hV243⟩ : ∃ z, z = up2 V20 0 7 z242 := ⟨_, rfl⟩
              have hP : va_P D vwCl (mw ad kk ks.1 V243 L) H := by rw [hV243]; exact hP
              have hD : va_D A (mw ad kk ks.1 V243 L) := by rw [hV243]; exact hD
              have hMV243 : rgd bM V243 := hMV20.put hV243 (i_full _)
              have agV243 : agr [(0, 7), (0, 8)] [15, 21, 53] V V243 := agV20.up hV243 rfl
              have pq244 : (V243 0 8).toInt = ((V20 0 8)).toInt := congrArg Int32.toInt (up2_k hV243 (by decide))
              refine lv_iconst (v := 0) hx hb dX12_takeTypes_33 (by decide) ?_
              refine lv_istore (lv' := [(6, .int 0), (5, .int z16), (4, .int y1), (3, .int y2), (0, .ref (ad 0)), (1, .ref (ad 21)), (2, .int p1)]) hx hb dX12_takeTypes_34 hl (by decide) rfl (fun ls hl => ?_)
              have lp247 : ∀ (fulp247 : Nat) (y245 : Int32) (V246 : Vf) (H : Heap) (locs : List Loc) (ls : Array Slot), 0 ≤ y245.toInt ∧ y245.toInt ≤ 6 → (((V246 0 8).toInt = 0 ∧ RelM V246 L bq gn gT s1 gl ∧ (∀ k : Nat, (k : Int) < y245.toInt → (V246 53 k).toInt ≠ z16.toInt)) ∨ (1 ≤ (V246 0 8).toInt ∧ ∀ k, Rc gT (Crun gs (Itypes gy gw 0 [] :: k)) (Cbad (V246 0 8).toInt))) → y245.toInt ≤ y2.toInt → Imp (1 ≤ (V243 0 8).toInt) ((V246 0 8).toInt = (V243 0 8).toInt) → y2.toInt - y245.toInt < (fulp247 : Int) → agr [(0, 8)] [] V243 V246 → rgd bM V246 → va_P D vwCl (mw ad kk ks.1 V246 L) H → va_D A (mw ad kk ks.1 V246 L) → va_S A s.heap H locs → lv_has ls 7 [(6, .int y245), (5, .int z16), (4, .int y1), (3, .int y2), (0, .ref (ad 0)), (1, .ref (ad 21)), (2, .int p1)] → W p l e r_s_takeTypesA21 s m ([.ref (ad 0), .ref (ad 21), .int p1] : List Value).toArray below meth c H locs 0 0 (MQ below (q_s_takeTypesA21 D ks ad kk V L p1 bq gn gT gs gl gy gw go A) ([.ref (ad 0), .ref (ad 21), .int p1] : List Value).toArray s 0 0 A) (F0 m 36 ls []) := by
                (try clear hb239); (try clear fz9)
                intro fulp247
                induction fulp247 with
                | zero =>
                  intro y245 V246 H locs ls klp247_0 xlp247_0 xlp247_1 xlp247_2 hn ajV246 hMV246 hP hD hS hl
                  exfalso; (first | exact om_4634b1278845 xlp247_1 hn | omega)
                | succ fulp247 ihlp247 =>
                  intro y245 V246 H locs ls klp247_0 xlp247_0 xlp247_1 xlp247_2 hn ajV246 hMV246 hP hD hS hl
                  have agV246 : agr [(0, 7), (0, 8)] [15, 21, 53] V V246 := agV243.tr ajV246 (by decide) (by decide)
                  refine lv_iload hx hb dX12_takeTypes_36 (lv_at hl 0 rfl) ?_
                  rcases xlp247_0 with ⟨f7, ri, ni⟩ | ⟨f7, hi⟩
                  · skip
                    exfalso; first | omega | ((try (have i_xlp247_2 := Imp.go xlp247_2 (by omega))); (try (have i_hz242 := Imp.go hz242 (by omega))); (try (have i_xlp5_3 := Imp.go xlp5_3 (by omega))); (try (have i_xlp5_3 := Imp.go xlp5_3 (by omega))); (try (have i_hz242 := Imp.go hz242 (by omega))); (try (have i_xlp247_2 := Imp.go xlp247_2 (by omega))); omega)
                  · skip
                    have r248 : 0 ≤ ((V246 0 8)).toInt ∧ ((V246 0 8)).toInt ≤ 70000 := hMV246 0 8
                    refine lv_iload_n hx hb dX12_takeTypes_38 rfl (lv_at hl 3 rfl) ?_
                    refine lv_icmp_ge (tgt := 72) hx hb dX12_takeTypes_39 (by decide) (fun c249 => ?_) (fun c249 => ?_)
                    · skip
                      have f250 : y2.toInt ≤ y245.toInt := b_le rfl rfl c249
                      refine lv_aload_n hx hb dX12_takeTypes_72 rfl (lv_at hl 4 rfl) ?_
                      refine va_get (D := D) (ci := 12) (v := .int (V246 0 8)) (C := RX12) (T := TX12) (N := 100) hx hb hg inX12 hown hK hP 0 rfl rfl 8 (by decide) (hg _ w1714) (fun _ h9 => h9) rfl dX12_takeTypes_73 ?_
                      refine lv_if_ne (tgt := 90) hx hb dX12_takeTypes_76 (by decide) (fun c251 => ?_) (fun c251 => ?_)
                      · skip
                        have f252 : ((V246 0 8)).toInt ≠ 0 := b_neq rfl (by decide) c251
                        refine lv_aload_n hx hb dX12_takeTypes_90 rfl (lv_at hl 4 rfl) ?_
                        refine lv_dup hx hb dX12_takeTypes_91 rfl ?_
                        refine va_get (D := D) (ci := 12) (v := .int (V246 0 7)) (C := RX12) (T := TX12) (N := 100) hx hb hg inX12 hown hK hP 0 rfl rfl 7 (by decide) (hg _ w1713) (fun _ h9 => h9) rfl dX12_takeTypes_92 ?_
                        refine g_top (v := z242) ((ajV246 0 7 rfl).trans (up2_s hV243)) ?_
                        refine lv_iconst (v := 1) hx hb dX12_takeTypes_95 (by decide) ?_
                        refine lv_iadd hx hb dX12_takeTypes_96 ?_
                        have r253 := i_full z242
                        refine lv_topi (fun z254 ez254 => ?_)
                        have hz254 : Imp (-2147483648 ≤ z242.toInt + 1 ∧ z242.toInt + 1 ≤ 2147483647) (z254.toInt = z242.toInt + 1) := Imp.mk (fun hp => i_add ez254 rfl (by decide) hp)
                        refine va_put (D := D) (ci := 12) (v := .int z254) (ty := tyX12 7) (C := RX12) (T := TX12) (N := 100) hx hb hg inX12 tyX12 tyX12_ok nmX12 hown hK hP hD hS 0 rfl rfl 7 (by decide) (hg _ w1713) (fun _ h9 => h9) rfl (tyX12_ok 7 (by decide)) rfl rfl (Nat.le_of_ble_eq_true rfl) dX12_takeTypes_97 (fun H locs hP hD hS => ?_)
                        obtain ⟨V255, hV255⟩ : ∃ z, z = up2 V246 0 7 z254 := ⟨_, rfl⟩
                        have hP : va_P D vwCl (mw ad kk ks.1 V255 L) H := by rw [hV255]; exact hP
                        have hD : va_D A (mw ad kk ks.1 V255 L) := by rw [hV255]; exact hD
                        have hMV255 : rgd bM V255 := hMV246.put hV255 (i_full _)
                        have agV255 : agr [(0, 7), (0, 8)] [15, 21, 53] V V255 := agV246.up hV255 rfl
                        refine lv_aload_n hx hb dX12_takeTypes_100 rfl (lv_at hl 4 rfl) ?_
                        refine va_get (D := D) (ci := 12) (v := .int (V255 0 8)) (C := RX12) (T := TX12) (N := 100) hx hb hg inX12 hown hK hP 0 rfl rfl 8 (by decide) (hg _ w1714) (fun _ h9 => h9) rfl dX12_takeTypes_101 ?_
                        refine g_top (v := (V246 0 8)) (up2_k hV255 (by decide)) ?_
                        refine lv_if_ne (tgt := 184) hx hb dX12_takeTypes_104 (by decide) (fun c256 => ?_) (fun c256 => ?_)
                        · skip
                          have f257 : ((V246 0 8)).toInt ≠ 0 := b_neq rfl (by decide) c256
                          refine lv_aload_n hx hb dX12_takeTypes_184 rfl (lv_at hl 4 rfl) ?_
                          refine lv_bipush (v := 44) hx hb dX12_takeTypes_185 (by decide) ?_
                          have r258 : Int32.toInt 44 = 44 := by decide
                          have pq259 : (V255 0 8).toInt = ((V246 0 8)).toInt := congrArg Int32.toInt (up2_k hV255 (by decide))
                          refine gA_int (gA_runV (As := [.int 44]) (rest := []) (ci := 12) (q0 := 0) hx hb hml hown hg hP hD hK hS hA hnw hgk (s_hasSignB l D ks H.size ad kk V255 L 44 hMV255 (show 1 ≤ (V255 0 8).toInt from by first | exact om_1499017b39b7 r248.1 f252 pq259 | first | omega | ((try (have i_xlp5_3 := Imp.go xlp5_3 (f15))); omega) | ((try (have i_hz254 := Imp.go hz254 (by omega))); (try (have i_xlp247_2 := Imp.go xlp247_2 (by omega))); (try (have i_hz242 := Imp.go hz242 (by omega))); (try (have i_xlp5_3 := Imp.go xlp5_3 (by omega))); first | omega | ((try (have i_xlp5_3 := Imp.go xlp5_3 (by omega))); (try (have i_hz242 := Imp.go hz242 (by omega))); (try (have i_xlp247_2 := Imp.go xlp247_2 (by omega))); (try (have i_hz254 := Imp.go hz254 (by omega))); omega)))) w2067 w2069 w94 w172 w2070 rfl rfl hdV_yX12_hasSign ⟨Nat.le_of_ble_eq_true rfl, Nat.le_of_ble_eq_true rfl⟩ rfl hl.1 rfl (Nat.le_of_ble_eq_true rfl) dX12_takeTypes_187 ⟨Nat.le_of_ble_eq_true rfl, Nat.le_of_ble_eq_true rfl⟩) hP hD hK hS hA (fun z260 u261 H locs w262 hP hD hK hS => ?_)
                          obtain ⟨V264, L265⟩ := u261
                          obtain ⟨hMV264, ajV264, axL265, rgz260, t263⟩ := w262
                          have axL265 : L = L265 := Eq.symm axL265
                          subst axL265
                          have hP : va_P D vwCl (mw ad kk ks.1 V264 L) H := hP
                          have hD : va_D A (mw ad kk ks.1 V264 L) := hD
                          have hMV264 : rgd bM V264 := hMV264
                          have ajV264 : agr [(0, 7)] [] V255 V264 := ajV264
                          have agV264 : agr [(0, 7), (0, 8)] [15, 21, 53] V V264 := agV255.tr ajV264 (by decide) (by decide)
                          have rgz260 : 0 ≤ z260.toInt ∧ z260.toInt ≤ 0 := rgz260
                          have t263 : (V264 0 8).toInt = (V255 0 8).toInt := t263
                          have pq266 : (V264 0 8).toInt = ((V246 0 8)).toInt := congrArg Int32.toInt ((ajV264 0 8 rfl).trans (up2_k hV255 (by decide)))
                          refine lv_istore (lv' := [(4, .int z260), (6, .int y245), (5, .int z16), (3, .int y2), (0, .ref (ad 0)), (1, .ref (ad 21)), (2, .int p1)]) hx hb dX12_takeTypes_190 hl (by decide) rfl (fun ls hl => ?_)
                          refine lv_goto (tgt := 5) hx hb dX12_takeTypes_192 (by decide) ?_
                          have pq267 : (V264 0 12).toInt = ((V 0 12)).toInt := congrArg Int32.toInt ((ajV264 0 12 rfl).trans ((up2_k hV255 (by decide)).trans ((ajV246 0 12 rfl).trans ((up2_k hV243 (by decide)).trans ((ajV20 0 12 rfl).trans (ajV3 0 12 rfl))))))
                          exact ihlp5 (g4 - 1) z260 y2 V264 H locs ls (by first | exact om_641b3f05f166 rgz260.1 rgz260.2 | first | omega | ((try (have i_xlp5_3 := Imp.go xlp5_3 (f15))); omega) | ((try (have i_hz254 := Imp.go hz254 (by omega))); (try (have i_xlp247_2 := Imp.go xlp247_2 (by omega))); (try (have i_hz242 := Imp.go hz242 (by omega))); (try (have i_xlp5_3 := Imp.go xlp5_3 (by omega))); first | omega | ((try (have i_xlp5_3 := Imp.go xlp5_3 (by omega))); (try (have i_hz242 := Imp.go hz242 (by omega))); (try (have i_xlp247_2 := Imp.go xlp247_2 (by omega))); (try (have i_hz254 := Imp.go hz254 (by omega))); omega))) (by first | exact om_5de5485ce193 klp247_0.1 klp247_0.2 xlp247_1 f250 | first | omega | ((try (have i_xlp5_3 := Imp.go xlp5_3 (f15))); omega) | ((try (have i_hz254 := Imp.go hz254 (by omega))); (try (have i_xlp247_2 := Imp.go xlp247_2 (by omega))); (try (have i_hz242 := Imp.go hz242 (by omega))); (try (have i_xlp5_3 := Imp.go xlp5_3 (by omega))); first | omega | ((try (have i_xlp5_3 := Imp.go xlp5_3 (by omega))); (try (have i_hz242 := Imp.go hz242 (by omega))); (try (have i_xlp247_2 := Imp.go xlp247_2 (by omega))); (try (have i_hz254 := Imp.go hz254 (by omega))); omega))) (Or.inr (Or.inr ⟨(show 1 ≤ (V264 0 8).toInt from by (first | exact om_14e1582db31a r248.1 f252 pq259 t263 | omega)), (fun k => by rw [show (V264 0 8).toInt = (V246 0 8).toInt from by omega]; exact hi k)⟩)) (show 0 ≤ (g4 - 1) from by first | exact om_53bb2050c72d klp247_0.2 f250 ((Imp.go xlp5_3 (f15))) | first | omega | ((try (have i_xlp5_3 := Imp.go xlp5_3 (f15))); omega) | ((try (have i_hz254 := Imp.go hz254 (by omega))); (try (have i_xlp247_2 := Imp.go xlp247_2 (by omega))); (try (have i_hz242 := Imp.go hz242 (by omega))); (try (have i_xlp5_3 := Imp.go xlp5_3 (by omega))); first | omega | ((try (have i_xlp5_3 := Imp.go xlp5_3 (by omega))); (try (have i_hz242 := Imp.go hz242 (by omega))); (try (have i_xlp247_2 := Imp.go xlp247_2 (by omega))); (try (have i_hz254 := Imp.go hz254 (by omega))); omega))) (show y2.toInt ≤ 6 from by first | exact om_95b7a1d732ac klp247_0.2 f250 | first | omega | ((try (have i_xlp5_3 := Imp.go xlp5_3 (f15))); omega) | ((try (have i_hz254 := Imp.go hz254 (by omega))); (try (have i_xlp247_2 := Imp.go xlp247_2 (by omega))); (try (have i_hz242 := Imp.go hz242 (by omega))); (try (have i_xlp5_3 := Imp.go xlp5_3 (by omega))); first | omega | ((try (have i_xlp5_3 := Imp.go xlp5_3 (by omega))); (try (have i_hz242 := Imp.go hz242 (by omega))); (try (have i_xlp247_2 := Imp.go xlp247_2 (by omega))); (try (have i_hz254 := Imp.go hz254 (by omega))); omega))) (Imp.mk (fun hp => have hp : (V264 0 8).toInt = 0 := hp; (show 7 - y2.toInt < (g4 - 1) from by first | omega | ((try (have i_xlp5_3 := Imp.go xlp5_3 (f15))); omega) | ((try (have i_hz254 := Imp.go hz254 (by omega))); (try (have i_xlp247_2 := Imp.go xlp247_2 (by omega))); (try (have i_hz242 := Imp.go hz242 (by omega))); (try (have i_xlp5_3 := Imp.go xlp5_3 (by omega))); first | omega | ((try (have i_xlp5_3 := Imp.go xlp5_3 (by omega))); (try (have i_hz242 := Imp.go hz242 (by omega))); (try (have i_xlp247_2 := Imp.go xlp247_2 (by omega))); (try (have i_hz254 := Imp.go hz254 (by omega))); omega))))) (show (V264 0 12).toInt = (V 0 12).toInt from by first | exact om_570b691c1130 pq267 | first | omega | ((try (have i_xlp5_3 := Imp.go xlp5_3 (f15))); omega) | ((try (have i_hz254 := Imp.go hz254 (by omega))); (try (have i_xlp247_2 := Imp.go xlp247_2 (by omega))); (try (have i_hz242 := Imp.go hz242 (by omega))); (try (have i_xlp5_3 := Imp.go xlp5_3 (by omega))); first | omega | ((try (have i_xlp5_3 := Imp.go xlp5_3 (by omega))); (try (have i_hz242 := Imp.go hz242 (by omega))); (try (have i_xlp247_2 := Imp.go xlp247_2 (by omega))); (try (have i_hz254 := Imp.go hz254 (by omega))); omega))) (by first | omega | ((try (have i_xlp5_3 := Imp.go xlp5_3 (f15))); omega) | ((try (have i_hz254 := Imp.go hz254 (by omega))); (try (have i_xlp247_2 := Imp.go xlp247_2 (by omega))); (try (have i_hz242 := Imp.go hz242 (by omega))); (try (have i_xlp5_3 := Imp.go xlp5_3 (by omega))); first | omega | ((try (have i_xlp5_3 := Imp.go xlp5_3 (by omega))); (try (have i_hz242 := Imp.go hz242 (by omega))); (try (have i_xlp247_2 := Imp.go xlp247_2 (by omega))); (try (have i_hz254 := Imp.go hz254 (by omega))); omega))) (agr.tr (agr.up (agr.tr (agr.up (agr.tr (agr.tr agr.rf ajV3 (by decide) (by decide)) ajV20 (by decide) (by decide)) hV243 rfl) ajV246 (by decide) (by decide)) hV255 rfl) ajV264 (by decide) (by decide)) hMV264 hP hD hS (lv_sub hl [0, 3, 4, 5, 6] rfl)
                        · skip
                          have f268 : ((V246 0 8)).toInt = 0 := b_eq rfl (by decide) c256
                          exfalso; first | exact om_0abcda13baee r248.1 f252 f268 | first | omega | ((try (have i_xlp5_3 := Imp.go xlp5_3 (f15))); omega) | ((try (have i_hz254 := Imp.go hz254 (by omega))); (try (have i_xlp247_2 := Imp.go xlp247_2 (by omega))); (try (have i_hz242 := Imp.go hz242 (by omega))); (try (have i_xlp5_3 := Imp.go xlp5_3 (by omega))); first | omega | ((try (have i_xlp5_3 := Imp.go xlp5_3 (by omega))); (try (have i_hz242 := Imp.go hz242 (by omega))); (try (have i_xlp247_2 := Imp.go xlp247_2 (by omega))); (try (have i_hz254 := Imp.go hz254 (by omega))); omega))
                      · skip
                        have f269 : ((V246 0 8)).toInt = 0 := b_eq rfl (by decide) c251
                        exfalso; first | exact om_09885ab343b9 f7 f269 | first | omega | ((try (have i_xlp247_2 := Imp.go xlp247_2 (by omega))); (try (have i_hz242 := Imp.go hz242 (by omega))); (try (have i_xlp5_3 := Imp.go xlp5_3 (by omega))); (try (have i_xlp5_3 := Imp.go xlp5_3 (by omega))); (try (have i_hz242 := Imp.go hz242 (by omega))); (try (have i_xlp247_2 := Imp.go xlp247_2 (by omega))); omega)
                    · skip
                      have f270 : y245.toInt < y2.toInt := b_nle rfl rfl c249
                      refine lv_aload_n hx hb dX12_takeTypes_42 rfl (lv_at hl 4 rfl) ?_
                      refine va_get (D := D) (ci := 12) (v := .int (V246 0 8)) (C := RX12) (T := TX12) (N := 100) hx hb hg inX12 hown hK hP 0 rfl rfl 8 (by decide) (hg _ w1714) (fun _ h9 => h9) rfl dX12_takeTypes_43 ?_
                      refine lv_if_ne (tgt := 72) hx hb dX12_takeTypes_46 (by decide) (fun c271 => ?_) (fun c271 => ?_)
                      · skip
                        have f272 : ((V246 0 8)).toInt ≠ 0 := b_neq rfl (by decide) c271
                        refine lv_aload_n hx hb dX12_takeTypes_72 rfl (lv_at hl 4 rfl) ?_
                        refine va_get (D := D) (ci := 12) (v := .int (V246 0 8)) (C := RX12) (T := TX12) (N := 100) hx hb hg inX12 hown hK hP 0 rfl rfl 8 (by decide) (hg _ w1714) (fun _ h9 => h9) rfl dX12_takeTypes_73 ?_
                        refine lv_if_ne (tgt := 90) hx hb dX12_takeTypes_76 (by decide) (fun c273 => ?_) (fun c273 => ?_)
                        · skip
                          have f274 : ((V246 0 8)).toInt ≠ 0 := b_neq rfl (by decide) c273
                          refine lv_aload_n hx hb dX12_takeTypes_90 rfl (lv_at hl 4 rfl) ?_
                          refine lv_dup hx hb dX12_takeTypes_91 rfl ?_
                          refine va_get (D := D) (ci := 12) (v := .int (V246 0 7)) (C := RX12) (T := TX12) (N := 100) hx hb hg inX12 hown hK hP 0 rfl rfl 7 (by decide) (hg _ w1713) (fun _ h9 => h9) rfl dX12_takeTypes_92 ?_
                          refine g_top (v := z242) ((ajV246 0 7 rfl).trans (up2_s hV243)) ?_
                          refine lv_iconst (v := 1) hx hb dX12_takeTypes_95 (by decide) ?_
                          refine lv_iadd hx hb dX12_takeTypes_96 ?_
                          have r275 := i_full z242
                          refine lv_topi (fun z276 ez276 => ?_)
                          have hz276 : Imp (-2147483648 ≤ z242.toInt + 1 ∧ z242.toInt + 1 ≤ 2147483647) (z276.toInt = z242.toInt + 1) := Imp.mk (fun hp => i_add ez276 rfl (by decide) hp)
                          refine va_put (D := D) (ci := 12) (v := .int z276) (ty := tyX12 7) (C := RX12) (T := TX12) (N := 100) hx hb hg inX12 tyX12 tyX12_ok nmX12 hown hK hP hD hS 0 rfl rfl 7 (by decide) (hg _ w1713) (fun _ h9 => h9) rfl (tyX12_ok 7 (by decide)) rfl rfl (Nat.le_of_ble_eq_true rfl) dX12_takeTypes_97 (fun H locs hP hD hS => ?_)
                          obtain ⟨V277, hV277⟩ : ∃ z, z = up2 V246 0 7 z276 := ⟨_, rfl⟩
                          have hP : va_P D vwCl (mw ad kk ks.1 V277 L) H := by rw [hV277]; exact hP
                          have hD : va_D A (mw ad kk ks.1 V277 L) := by rw [hV277]; exact hD
                          have hMV277 : rgd bM V277 := hMV246.put hV277 (i_full _)
                          have agV277 : agr [(0, 7), (0, 8)] [15, 21, 53] V V277 := agV246.up hV277 rfl
                          refine lv_aload_n hx hb dX12_takeTypes_100 rfl (lv_at hl 4 rfl) ?_
                          refine va_get (D := D) (ci := 12) (v := .int (V277 0 8)) (C := RX12) (T := TX12) (N := 100) hx hb hg inX12 hown hK hP 0 rfl rfl 8 (by decide) (hg _ w1714) (fun _ h9 => h9) rfl dX12_takeTypes_101 ?_
                          refine g_top (v := (V246 0 8)) (up2_k hV277 (by decide)) ?_
                          refine lv_if_ne (tgt := 184) hx hb dX12_takeTypes_104 (by decide) (fun c278 => ?_) (fun c278 => ?_)
                          · skip
                            have f279 : ((V246 0 8)).toInt ≠ 0 := b_neq rfl (by decide) c278
                            refine lv_aload_n hx hb dX12_takeTypes_184 rfl (lv_at hl 4 rfl) ?_
                            refine lv_bipush (v := 44) hx hb dX12_takeTypes_185 (by decide) ?_
                            have r280 : Int32.toInt 44 = 44 := by decide
                            have pq281 : (V277 0 8).toInt = ((V246 0 8)).toInt := congrArg Int32.toInt (up2_k hV277 (by decide))
                            refine gA_int (gA_runV (As := [.int 44]) (rest := []) (ci := 12) (q0 := 0) hx hb hml hown hg hP hD hK hS hA hnw hgk (s_hasSignB l D ks H.size ad kk V277 L 44 hMV277 (show 1 ≤ (V277 0 8).toInt from by first | exact om_1499017b39b7 r248.1 f272 pq281 | first | omega | ((try (have i_xlp5_3 := Imp.go xlp5_3 (f15))); omega) | ((try (have i_hz276 := Imp.go hz276 (by omega))); (try (have i_xlp247_2 := Imp.go xlp247_2 (by omega))); (try (have i_hz242 := Imp.go hz242 (by omega))); (try (have i_xlp5_3 := Imp.go xlp5_3 (by omega))); first | omega | ((try (have i_xlp5_3 := Imp.go xlp5_3 (by omega))); (try (have i_hz242 := Imp.go hz242 (by omega))); (try (have i_xlp247_2 := Imp.go xlp247_2 (by omega))); (try (have i_hz276 := Imp.go hz276 (by omega))); omega)))) w2067 w2069 w94 w172 w2070 rfl rfl hdV_yX12_hasSign ⟨Nat.le_of_ble_eq_true rfl, Nat.le_of_ble_eq_true rfl⟩ rfl hl.1 rfl (Nat.le_of_ble_eq_true rfl) dX12_takeTypes_187 ⟨Nat.le_of_ble_eq_true rfl, Nat.le_of_ble_eq_true rfl⟩) hP hD hK hS hA (fun z282 u283 H locs w284 hP hD hK hS => ?_)
                            obtain ⟨V286, L287⟩ := u283
                            obtain ⟨hMV286, ajV286, axL287, rgz282, t285⟩ := w284
                            have axL287 : L = L287 := Eq.symm axL287
                            subst axL287
                            have hP : va_P D vwCl (mw ad kk ks.1 V286 L) H := hP
                            have hD : va_D A (mw ad kk ks.1 V286 L) := hD
                            have hMV286 : rgd bM V286 := hMV286
                            have ajV286 : agr [(0, 7)] [] V277 V286 := ajV286
                            have agV286 : agr [(0, 7), (0, 8)] [15, 21, 53] V V286 := agV277.tr ajV286 (by decide) (by decide)
                            have rgz282 : 0 ≤ z282.toInt ∧ z282.toInt ≤ 0 := rgz282
                            have t285 : (V286 0 8).toInt = (V277 0 8).toInt := t285
                            have pq288 : (V286 0 8).toInt = ((V246 0 8)).toInt := congrArg Int32.toInt ((ajV286 0 8 rfl).trans (up2_k hV277 (by decide)))
                            refine lv_istore (lv' := [(4, .int z282), (6, .int y245), (5, .int z16), (3, .int y2), (0, .ref (ad 0)), (1, .ref (ad 21)), (2, .int p1)]) hx hb dX12_takeTypes_190 hl (by decide) rfl (fun ls hl => ?_)
                            refine lv_goto (tgt := 5) hx hb dX12_takeTypes_192 (by decide) ?_
                            have pq289 : (V286 0 12).toInt = ((V 0 12)).toInt := congrArg Int32.toInt ((ajV286 0 12 rfl).trans ((up2_k hV277 (by decide)).trans ((ajV246 0 12 rfl).trans ((up2_k hV243 (by decide)).trans ((ajV20 0 12 rfl).trans (ajV3 0 12 rfl))))))
                            exact ihlp5 (g4 - 1) z282 y2 V286 H locs ls (by first | exact om_641b3f05f166 rgz282.1 rgz282.2 | first | omega | ((try (have i_xlp5_3 := Imp.go xlp5_3 (f15))); omega) | ((try (have i_hz276 := Imp.go hz276 (by omega))); (try (have i_xlp247_2 := Imp.go xlp247_2 (by omega))); (try (have i_hz242 := Imp.go hz242 (by omega))); (try (have i_xlp5_3 := Imp.go xlp5_3 (by omega))); first | omega | ((try (have i_xlp5_3 := Imp.go xlp5_3 (by omega))); (try (have i_hz242 := Imp.go hz242 (by omega))); (try (have i_xlp247_2 := Imp.go xlp247_2 (by omega))); (try (have i_hz276 := Imp.go hz276 (by omega))); omega))) (by first | exact om_420c7ba86e3d klp5_1.2 klp247_0.1 f270 | first | omega | ((try (have i_xlp5_3 := Imp.go xlp5_3 (f15))); omega) | ((try (have i_hz276 := Imp.go hz276 (by omega))); (try (have i_xlp247_2 := Imp.go xlp247_2 (by omega))); (try (have i_hz242 := Imp.go hz242 (by omega))); (try (have i_xlp5_3 := Imp.go xlp5_3 (by omega))); first | omega | ((try (have i_xlp5_3 := Imp.go xlp5_3 (by omega))); (try (have i_hz242 := Imp.go hz242 (by omega))); (try (have i_xlp247_2 := Imp.go xlp247_2 (by omega))); (try (have i_hz276 := Imp.go hz276 (by omega))); omega))) (Or.inr (Or.inr ⟨(show 1 ≤ (V286 0 8).toInt from by (first | exact om_14e1582db31a r248.1 f272 pq281 t285 | omega)), (fun k => by rw [show (V286 0 8).toInt = (V246 0 8).toInt from by omega]; exact hi k)⟩)) (show 0 ≤ (g4 - 1) from by first | exact om_76a34b28fb8f klp5_1.2 ((Imp.go xlp5_3 (f15))) | first | omega | ((try (have i_xlp5_3 := Imp.go xlp5_3 (f15))); omega) | ((try (have i_hz276 := Imp.go hz276 (by omega))); (try (have i_xlp247_2 := Imp.go xlp247_2 (by omega))); (try (have i_hz242 := Imp.go hz242 (by omega))); (try (have i_xlp5_3 := Imp.go xlp5_3 (by omega))); first | omega | ((try (have i_xlp5_3 := Imp.go xlp5_3 (by omega))); (try (have i_hz242 := Imp.go hz242 (by omega))); (try (have i_xlp247_2 := Imp.go xlp247_2 (by omega))); (try (have i_hz276 := Imp.go hz276 (by omega))); omega))) (show y2.toInt ≤ 6 from by first | exact om_1cd470348f7c klp5_1.2 | first | omega | ((try (have i_xlp5_3 := Imp.go xlp5_3 (f15))); omega) | ((try (have i_hz276 := Imp.go hz276 (by omega))); (try (have i_xlp247_2 := Imp.go xlp247_2 (by omega))); (try (have i_hz242 := Imp.go hz242 (by omega))); (try (have i_xlp5_3 := Imp.go xlp5_3 (by omega))); first | omega | ((try (have i_xlp5_3 := Imp.go xlp5_3 (by omega))); (try (have i_hz242 := Imp.go hz242 (by omega))); (try (have i_xlp247_2 := Imp.go xlp247_2 (by omega))); (try (have i_hz276 := Imp.go hz276 (by omega))); omega))) (Imp.mk (fun hp => have hp : (V286 0 8).toInt = 0 := hp; (show 7 - y2.toInt < (g4 - 1) from by first | omega | ((try (have i_xlp5_3 := Imp.go xlp5_3 (f15))); omega) | ((try (have i_hz276 := Imp.go hz276 (by omega))); (try (have i_xlp247_2 := Imp.go xlp247_2 (by omega))); (try (have i_hz242 := Imp.go hz242 (by omega))); (try (have i_xlp5_3 := Imp.go xlp5_3 (by omega))); first | omega | ((try (have i_xlp5_3 := Imp.go xlp5_3 (by omega))); (try (have i_hz242 := Imp.go hz242 (by omega))); (try (have i_xlp247_2 := Imp.go xlp247_2 (by omega))); (try (have i_hz276 := Imp.go hz276 (by omega))); omega))))) (show (V286 0 12).toInt = (V 0 12).toInt from by first | exact om_570b691c1130 pq289 | first | omega | ((try (have i_xlp5_3 := Imp.go xlp5_3 (f15))); omega) | ((try (have i_hz276 := Imp.go hz276 (by omega))); (try (have i_xlp247_2 := Imp.go xlp247_2 (by omega))); (try (have i_hz242 := Imp.go hz242 (by omega))); (try (have i_xlp5_3 := Imp.go xlp5_3 (by omega))); first | omega | ((try (have i_xlp5_3 := Imp.go xlp5_3 (by omega))); (try (have i_hz242 := Imp.go hz242 (by omega))); (try (have i_xlp247_2 := Imp.go xlp247_2 (by omega))); (try (have i_hz276 := Imp.go hz276 (by omega))); omega))) (by first | omega | ((try (have i_xlp5_3 := Imp.go xlp5_3 (f15))); omega) | ((try (have i_hz276 := Imp.go hz276 (by omega))); (try (have i_xlp247_2 := Imp.go xlp247_2 (by omega))); (try (have i_hz242 := Imp.go hz242 (by omega))); (try (have i_xlp5_3 := Imp.go xlp5_3 (by omega))); first | omega | ((try (have i_xlp5_3 := Imp.go xlp5_3 (by omega))); (try (have i_hz242 := Imp.go hz242 (by omega))); (try (have i_xlp247_2 := Imp.go xlp247_2 (by omega))); (try (have i_hz276 := Imp.go hz276 (by omega))); omega))) (agr.tr (agr.up (agr.tr (agr.up (agr.tr (agr.tr agr.rf ajV3 (by decide) (by decide)) ajV20 (by decide) (by decide)) hV243 rfl) ajV246 (by decide) (by decide)) hV277 rfl) ajV286 (by decide) (by decide)) hMV286 hP hD hS (lv_sub hl [0, 3, 4, 5, 6] rfl)
                          · skip
                            have f290 : ((V246 0 8)).toInt = 0 := b_eq rfl (by decide) c278
                            exfalso; first | exact om_0abcda13baee r248.1 f272 f290 | first | omega | ((try (have i_xlp5_3 := Imp.go xlp5_3 (f15))); omega) | ((try (have i_hz276 := Imp.go hz276 (by omega))); (try (have i_xlp247_2 := Imp.go xlp247_2 (by omega))); (try (have i_hz242 := Imp.go hz242 (by omega))); (try (have i_xlp5_3 := Imp.go xlp5_3 (by omega))); first | omega | ((try (have i_xlp5_3 := Imp.go xlp5_3 (by omega))); (try (have i_hz242 := Imp.go hz242 (by omega))); (try (have i_xlp247_2 := Imp.go xlp247_2 (by omega))); (try (have i_hz276 := Imp.go hz276 (by omega))); omega))
                        · skip
                          have f291 : ((V246 0 8)).toInt = 0 := b_eq rfl (by decide) c273
                          exfalso; first | exact om_0abcda13baee r248.1 f272 f291 | first | omega | ((try (have i_xlp247_2 := Imp.go xlp247_2 (by omega))); (try (have i_hz242 := Imp.go hz242 (by omega))); (try (have i_xlp5_3 := Imp.go xlp5_3 (by omega))); (try (have i_xlp5_3 := Imp.go xlp5_3 (by omega))); (try (have i_hz242 := Imp.go hz242 (by omega))); (try (have i_xlp247_2 := Imp.go xlp247_2 (by omega))); omega)
                      · skip
                        have f292 : ((V246 0 8)).toInt = 0 := b_eq rfl (by decide) c271
                        exfalso; first | exact om_09885ab343b9 f7 f292 | first | omega | ((try (have i_xlp247_2 := Imp.go xlp247_2 (by omega))); (try (have i_hz242 := Imp.go hz242 (by omega))); (try (have i_xlp5_3 := Imp.go xlp5_3 (by omega))); (try (have i_xlp5_3 := Imp.go xlp5_3 (by omega))); (try (have i_hz242 := Imp.go hz242 (by omega))); (try (have i_xlp247_2 := Imp.go xlp247_2 (by omega))); omega)
              have r293 : Int32.toInt 0 = 0 := by decide
              exact lp247 ((y2.toInt - (Int32.toInt 0) + 1 : Int).toNat) 0 V243 H locs ls (by decide) (Or.inr ⟨(show 1 ≤ (V243 0 8).toInt from by omega), (fun k => by rw [show (V243 0 8).toInt = (V20 0 8).toInt from by omega]; exact hb239 k)⟩) (show (Int32.toInt 0) ≤ y2.toInt from by first | exact om_6f9bb8cf3bec klp5_1.1 r293 | first | omega | ((try (have i_hz242 := Imp.go hz242 (by omega))); (try (have i_xlp5_3 := Imp.go xlp5_3 (by omega))); (try (have i_xlp5_3 := Imp.go xlp5_3 (by omega))); (try (have i_hz242 := Imp.go hz242 (by omega))); omega)) (Imp.mk (fun hp => have hp : 1 ≤ (V243 0 8).toInt := hp; (show (V243 0 8).toInt = (V243 0 8).toInt from by first | exact om_4c2c879c4424 | first | omega | ((try (have i_hz242 := Imp.go hz242 (by omega))); (try (have i_xlp5_3 := Imp.go xlp5_3 (by omega))); (try (have i_xlp5_3 := Imp.go xlp5_3 (by omega))); (try (have i_hz242 := Imp.go hz242 (by omega))); omega)))) (by first | exact om_7441a7786481 | first | omega | ((try (have i_hz242 := Imp.go hz242 (by omega))); (try (have i_xlp5_3 := Imp.go xlp5_3 (by omega))); (try (have i_xlp5_3 := Imp.go xlp5_3 (by omega))); (try (have i_hz242 := Imp.go hz242 (by omega))); omega)) agr.rf hMV243 hP hD hS (lv_sub hl [0, 1, 2, 3, 4, 5, 6] rfl)
      · skip
        have fz294 := RelM.rg rq
        refine lv_if_eq (tgt := 195) hx hb dX12_takeTypes_7 (by decide) (fun c295 => ?_) (fun c295 => ?_)
        · skip
          have f296 : y1.toInt = 0 := b_eq rfl (by decide) c295
          exact W.vret hx hb hr (fun t ht hW => ⟨⟨(V3, L), rfl, ⟨hMV3, agV3, rfl, (Or.inl ⟨W0 rq, s1, sn, hq, rq, keepS.le (keepS.tr (keepS.rf : keepS gs 0 gs) kq) (by decide), (show keepL gs s1 from fun j9 h9 => ((show ∀ j9, 5 ≤ j9 → s1.2.1 j9 = gs.2.1 j9 from ll9) j9 h9).trans ((show keepL gs gs from fun _ _ => rfl) j9 h9)), (UNm.ag uq (rfl : V3 21 = V3 21)), cq⟩)⟩, by rw [ht]; exact hP, va_K.moved hW.alike hK, hD⟩, hS.F ht⟩) hS.2.2 dX12_takeTypes_195
        · skip
          have f297 : y1.toInt ≠ 0 := b_neq rfl (by decide) c295
          exfalso; first | omega | ((try (have i_xlp5_3 := Imp.go xlp5_3 (by omega))); omega)
      · skip
        refine lv_if_eq (tgt := 195) hx hb dX12_takeTypes_7 (by decide) (fun c298 => ?_) (fun c298 => ?_)
        · skip
          have f299 : y1.toInt = 0 := b_eq rfl (by decide) c298
          exact W.vret hx hb hr (fun t ht hW => ⟨⟨(V3, L), rfl, ⟨hMV3, agV3, rfl, (Or.inr ⟨(show 1 ≤ (V3 0 8).toInt from by omega), hq⟩)⟩, by rw [ht]; exact hP, va_K.moved hW.alike hK, hD⟩, hS.F ht⟩) hS.2.2 dX12_takeTypes_195
        · skip
          have f300 : y1.toInt ≠ 0 := b_neq rfl (by decide) c298
          refine lv_aload_n hx hb dX12_takeTypes_10 rfl (lv_at hl 2 rfl) ?_
          refine va_get (D := D) (ci := 12) (v := .int (V3 0 8)) (C := RX12) (T := TX12) (N := 100) hx hb hg inX12 hown hK hP 0 rfl rfl 8 (by decide) (hg _ w1714) (fun _ h9 => h9) rfl dX12_takeTypes_11 ?_
          refine lv_if_ne (tgt := 195) hx hb dX12_takeTypes_14 (by decide) (fun c301 => ?_) (fun c301 => ?_)
          · skip
            have f302 : ((V3 0 8)).toInt ≠ 0 := b_neq rfl (by decide) c301
            exact W.vret hx hb hr (fun t ht hW => ⟨⟨(V3, L), rfl, ⟨hMV3, agV3, rfl, (Or.inr ⟨(show 1 ≤ (V3 0 8).toInt from by (first | exact om_76052c512981 r6.1 f302 | omega)), hq⟩)⟩, by rw [ht]; exact hP, va_K.moved hW.alike hK, hD⟩, hS.F ht⟩) hS.2.2 dX12_takeTypes_195
          · skip
            have f303 : ((V3 0 8)).toInt = 0 := b_eq rfl (by decide) c301
            exfalso; first | omega | ((try (have i_xlp5_3 := Imp.go xlp5_3 (by omega))); omega)
  have r304 : Int32.toInt 1 = 1 := by decide
  have r305 : Int32.toInt 0 = 0 := by decide
  have r306 : 0 ≤ ((V 0 8)).toInt ∧ ((V 0 8)).toInt ≤ 70000 := hMV 0 8
  have r307 : 0 ≤ ((V 0 12)).toInt ∧ ((V 0 12)).toInt ≤ 1 := hMV 0 12
  have z00 : (Int32.toInt 0).toNat = 0 := by decide
  exact lp5 ((9 + 1 : Int).toNat) 9 1 0 V H locs ls (by decide) (by decide) (Or.inl ⟨W0 rel, by decide, gs, [], (by rw [z00]; exact fun k => Rc.rf), rel, ⟨keepS.rf, fun _ _ => rfl⟩, LST.z (by decide), UNm.z, cnm⟩) (show 0 ≤ 9 from by omega) (show (Int32.toInt 0) ≤ 6 from by (first | exact om_5d5a707c7800 r305 | omega)) (Imp.mk (fun hp => have hp : (V 0 8).toInt = 0 := hp; (show 7 - (Int32.toInt 0) < 9 from by (first | exact om_f530ea408148 r305 | omega)))) (show (V 0 12).toInt = (V 0 12).toInt from by (first | exact om_4c2c879c4424 | omega)) (by (first | exact om_2f55e767c825 | omega)) agr.rf hMV hP hD hS (lv_sub hl [0, 1, 2, 3, 4] rfl)
end
