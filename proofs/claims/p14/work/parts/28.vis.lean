/-! the visits: how many components are not visited yet; what is on the way -/
def cz (V : Vf) : Nat → Nat
  | 0 => 0
  | n + 1 => cz V n + (if (V 87 n).toInt = 0 then 1 else 0)
theorem cz_ext {V W : Vf} : ∀ n, (∀ k, k < n → W 87 k = V 87 k) → cz W n = cz V n
  | 0, _ => rfl
  | n + 1, h => by
    show cz W n + (if (W 87 n).toInt = 0 then 1 else 0) = cz V n + (if (V 87 n).toInt = 0 then 1 else 0)
    rw [cz_ext n (fun k hk => h k (by omega)), h n (by omega)]
theorem cz_ag {fs : List (Nat × Nat)} {cs : List Nat} {V W : Vf} {n : Nat} (a : agr fs cs V W) (h : ∀ k, wrL fs cs 87 k = false) : cz W n = cz V n := cz_ext n (fun k _ => a _ _ (h k))
theorem cz_o {V W : Vf} {c k n : Nat} {v : Int32} (e : W = up2 V c k v) (hc : ¬ 87 = c) : cz W n = cz V n := cz_ext n (fun _ _ => up2_o e hc)
theorem cz_put {V W : Vf} {k : Nat} {v : Int32} (e : W = up2 V 87 k v) (hv : v.toInt ≠ 0) : ∀ n, cz W n ≤ cz V n ∧ (k < n → (V 87 k).toInt = 0 → cz W n + 1 = cz V n) ∧ (n ≤ k → cz W n = cz V n)
  | 0 => ⟨Nat.le_refl _, fun h => absurd h (by omega), fun _ => rfl⟩
  | n + 1 => by
    have ih := cz_put e hv n
    have e1 : cz W (n + 1) = cz W n + (if (W 87 n).toInt = 0 then 1 else 0) := rfl
    have e2 : cz V (n + 1) = cz V n + (if (V 87 n).toInt = 0 then 1 else 0) := rfl
    by_cases hk : n = k
    · subst hk
      have e3 : (W 87 n).toInt ≠ 0 := by rw [up2_s e]; exact hv
      rw [if_neg e3] at e1
      have e4 := ih.2.2 (Nat.le_refl _)
      refine ⟨?_, fun _ h0 => ?_, fun h => absurd h (by omega)⟩
      · omega
      · rw [if_pos h0] at e2
        omega
    · have e3 : W 87 n = V 87 n := up2_k e hk
      rw [e3] at e1
      refine ⟨by omega, fun h h0 => ?_, fun h => ?_⟩
      · have := ih.2.1 (by omega) h0
        omega
      · have := ih.2.2 (by omega)
        omega
theorem cz_le (V : Vf) : ∀ n, cz V n ≤ n
  | 0 => Nat.le_refl _
  | n + 1 => by
    have ih := cz_le V n
    have e : cz V (n + 1) = cz V n + (if (V 87 n).toInt = 0 then 1 else 0) := rfl
    rw [e]
    split <;> omega
def visI (V0 V : Vf) (c : Nat) : Prop := (∀ d : Nat, (V 87 d).toInt = 1 → (V0 87 d).toInt = 1 ∨ d = c) ∧ (∀ j : Nat, (j : Int) < (V0 0 89).toInt → V 88 j = V0 88 j) ∧ (∀ j : Nat, (j : Int) = (V0 0 89).toInt → (V 88 j).toInt = (c : Int))
def visP (V W : Vf) : Prop := (∀ d : Nat, (W 87 d).toInt = 1 → (V 87 d).toInt = 1) ∧ (∀ j : Nat, (j : Int) < (V 0 89).toInt → W 88 j = V 88 j)
def WY (V : Vf) : Prop := ∀ d : Nat, (d : Int) < (V 19 (nwh V)).toInt → (V 87 d).toInt = 1 → ∃ j : Nat, (j : Int) < (V 0 89).toInt ∧ (V 88 j).toInt = (d : Int)
theorem WY.I {V0 V : Vf} {c : Nat} (h : WY V0) (i : visI V0 V c) (e : (V 0 89).toInt = (V0 0 89).toInt + 1) (h0 : 0 ≤ (V0 0 89).toInt) (hc : V 19 (nwh V) = V0 19 (nwh V0)) : WY V := by
  intro d hd h1
  rw [hc] at hd
  rcases i.1 d h1 with q | q
  · obtain ⟨j, j1, j2⟩ := h d hd q
    exact ⟨j, by omega, by rw [i.2.1 j j1]; exact j2⟩
  · exact ⟨(V0 0 89).toInt.toNat, by omega, by rw [i.2.2 _ (by omega), q]⟩
theorem visI.ag {fs : List (Nat × Nat)} {cs : List Nat} {V0 V W : Vf} {c : Nat} (h : visI V0 V c) (a : agr fs cs V W) (h1 : ∀ k, wrL fs cs 87 k = false) (h2 : ∀ k, wrL fs cs 88 k = false) : visI V0 W c :=
  ⟨fun d q => h.1 d (by rw [a _ _ (h1 d)] at q; exact q), fun j q => (a _ _ (h2 j)).trans (h.2.1 j q), fun j q => by rw [a _ _ (h2 j)]; exact h.2.2 j q⟩
theorem visI.P {V0 V W : Vf} {c : Nat} (h : visI V0 V c) (p : visP V W) (e : (V 0 89).toInt = (V0 0 89).toInt + 1) : visI V0 W c :=
  ⟨fun d q => h.1 d (p.1 d q), fun j q => (p.2 j (by omega)).trans (h.2.1 j q), fun j q => by rw [p.2 j (by omega)]; exact h.2.2 j q⟩
theorem visI.new {V V1 V2 V3 : Vf} {c k m : Nat} {v x y : Int32} (e1 : V1 = up2 V 87 k x) (e2 : V2 = up2 V1 88 m v) (e3 : V3 = up2 V2 0 89 y) (hk : k = c) (hm : (m : Int) = (V 0 89).toInt) (hv : v.toInt = (c : Int)) : visI V V3 c := by
  refine ⟨fun d q => ?_, fun j q => ?_, fun j q => ?_⟩
  · by_cases hd : d = k
    · exact Or.inr (hd.trans hk)
    · left
      rw [up2_o e3 (by decide), up2_o e2 (by decide), up2_k e1 hd] at q
      exact q
  · rw [up2_o e3 (by decide), up2_k e2 (by omega), up2_o e1 (by decide)]
  · have e : j = m := by omega
    rw [up2_o e3 (by decide), e, up2_s e2]
    exact hv
theorem visP.fin {V0 V W1 W : Vf} {c k : Nat} {x y : Int32} (h : visI V0 V c) (e1 : W1 = up2 V 0 89 x) (e2 : W = up2 W1 87 k y) (hk : k = c) (hy : y.toInt ≠ 1) : visP V0 W := by
  refine ⟨fun d q => ?_, fun j q => ?_⟩
  · by_cases hd : d = k
    · rw [hd, up2_s e2] at q
      exact absurd q hy
    · rw [up2_k e2 hd, up2_o e1 (by decide)] at q
      exact (h.1 d q).resolve_right (fun z => hd (z.trans hk.symm))
  · rw [up2_o e2 (by decide), up2_o e1 (by decide)]
    exact h.2.1 j q
theorem nwh_ag {fs : List (Nat × Nat)} {cs : List Nat} {V W : Vf} (a : agr fs cs V W) (q : thC fs cs) : nwh W = nwh V ∧ W 19 (nwh W) = V 19 (nwh V) := by
  have e : nwh W = nwh V := by unfold nwh; rw [a 0 11 q.1]
  exact ⟨e, by rw [e, a _ _ (q.2.2.1 _)]⟩
theorem cz_pos {V : Vf} {k n : Nat} (hk : k < n) (h0 : (V 87 k).toInt = 0) : 1 ≤ cz V n := by
  have h := (cz_put (V := V) (W := up2 V 87 k 1) rfl (by decide) n).2.1 hk h0
  omega


abbrev r_s_checkNeed2 : Room := { frames := 3, cells := 0, slots := 0, locals := 69 }
abbrev q_s_checkNeed2 (D : va_G) (ks : KS) (ad : Nat → Nat) (kk : Nat → ClassId) (V : Vf) (L : Lf) (p0 : Int32) (p1 : Int32) (A : Nat → Prop) : Array Value → State → Outcome → State → Prop := va_Qv (fun (u : Vf × Lf) => rgd bM u.1 ∧ agr [(0, 81)] [80, 82, 83, 84, 86] V u.1 ∧ u.2 = L ∧ ((u.1 0 81).toInt ≤ (V 0 81).toInt + 1) ∧ ((V 0 81).toInt ≤ (u.1 0 81).toInt) ∧ (c0k V u.1) ∧ (Imp ((u.1 0 81).toInt = (V 0 81).toInt) (1 ≤ (V 30 (8 * (24 * nwh V + Int32.toNatClampNeg p0) + Int32.toNatClampNeg p1)).toInt ∨ th V (cd0 u.1)))) (fun u t => gq D A (mw ad kk ks.1 u.1 u.2) (mty kk) t) A
set_option maxHeartbeats 4000000 in
set_option maxRecDepth 100000 in
theorem s_checkNeed2 (l : Launch) (D : va_G) (ks : KS) (sz : Nat) (ad : Nat → Nat) (kk : Nat → ClassId) (V : Vf) (L : Lf) (p0 : Int32) (p1 : Int32) (hMV : rgd bM V) (rg_p0 : 0 ≤ p0.toInt ∧ p0.toInt ≤ 23) (rg_p1 : 0 ≤ p1.toInt ∧ p1.toInt ≤ 7) (y1 : 0 ≤ (V 28 (8 * (24 * nwh V + Int32.toNatClampNeg p0) + Int32.toNatClampNeg p1)).toInt) (y2 : (V 0 81).toInt ≤ 999999)  : Met l yX12_checkNeed (Cond.code yX12_checkNeed cX12_checkNeed 10 none :: GW) r_s_checkNeed2 (va_Pc [.ref (ad 0), .int p0, .int p1] (gp D ks (mw ad kk ks.1 V L) (mty kk) sz)) (q_s_checkNeed2 D ks ad kk V L p0 p1 (va_A (mw ad kk ks.1 V L) sz)) 0 0 (va_A (mw ad kk ks.1 V L) sz) := by
  refine g_met (q_s_checkNeed2 D ks ad kk V L p0 p1) (by decide) (Nat.le_of_ble_eq_true rfl) ?_
  intro p e s m below meth c A ls H locs hx hb hr hml hown hg hlocks hin hnw hgk hP hK hD hS hA hl
  have hown : s.vm.findClass RX12 = some m.cls := hown
  have hl : lv_has ls 10 [(0, .ref (ad 0)), (1, .int p0), (2, .int p1)] := hl
  have hP : va_P D vwCl (mw ad kk ks.1 V L) H := hP
  have hD : va_D A (mw ad kk ks.1 V L) := hD
  have hK : va_K D vwCl (mty kk) s := hK
  have agV : agr [(0, 81)] [80, 82, 83, 84, 86] V V := agr.rf
  have r1 : 0 ≤ ((V 0 81)).toInt ∧ ((V 0 81)).toInt ≤ 1000000 := hMV 0 81
  refine lv_bipush (v := 8) hx hb dX12_checkNeed_0 (by decide) ?_
  refine lv_bipush (v := 24) hx hb dX12_checkNeed_2 (by decide) ?_
  refine lv_aload_n hx hb dX12_checkNeed_4 rfl (lv_at hl 0 rfl) ?_
  refine va_get (D := D) (ci := 12) (v := .int (V 0 11)) (C := RX12) (T := TX12) (N := 100) hx hb hg inX12 hown hK hP 0 rfl rfl 11 (by decide) (hg _ w1717) (fun _ h9 => h9) rfl dX12_checkNeed_5 ?_
  have r2 : 0 ≤ ((V 0 11)).toInt ∧ ((V 0 11)).toInt ≤ 1 := hMV 0 11
  refine lv_imul hx hb dX12_checkNeed_8 ?_
  refine lv_topi (fun z3 ez3 => ?_)
  have hz3 : z3.toInt = 24 * ((V 0 11)).toInt := i_mul ez3 (by decide) rfl (by omega)
  refine lv_iload_n hx hb dX12_checkNeed_9 rfl (lv_at hl 1 rfl) ?_
  refine lv_iadd hx hb dX12_checkNeed_10 ?_
  refine lv_topi (fun z4 ez4 => ?_)
  have hz4 : z4.toInt = z3.toInt + p0.toInt := i_add ez4 rfl rfl (by omega)
  refine lv_imul hx hb dX12_checkNeed_11 ?_
  refine lv_topi (fun z5 ez5 => ?_)
  have hz5 : z5.toInt = 8 * z4.toInt := i_mul ez5 (by decide) rfl (by omega)
  refine lv_iload_n hx hb dX12_checkNeed_12 rfl (lv_at hl 2 rfl) ?_
  refine lv_iadd hx hb dX12_checkNeed_13 ?_
  refine lv_topi (fun z6 ez6 => ?_)
  have hz6 : z6.toInt = z5.toInt + p1.toInt := i_add ez6 rfl rfl (by omega)
  refine lv_istore_n (lv' := [(3, .int z6), (0, .ref (ad 0)), (1, .int p0), (2, .int p1)]) hx hb dX12_checkNeed_14 rfl hl (by decide) rfl (fun ls hl => ?_)
  refine lv_aload_n hx hb dX12_checkNeed_15 rfl (lv_at hl 1 rfl) ?_
  refine lv_iload_n hx hb dX12_checkNeed_16 rfl (lv_at hl 0 rfl) ?_
  have kn : (nwh V : Int) = (V 0 11).toInt := i_clamp (x := V 0 11) rfl (by omega)
  have kp0 := i_clamp (x := p0) rfl (by omega)
  have kp1 := i_clamp (x := p1) rfl (by omega)
  have kN : Int32.toNatClampNeg z6 = 8 * (24 * nwh V + Int32.toNatClampNeg p0) + Int32.toNatClampNeg p1 := by have h9 := i_clamp (x := z6) rfl (by omega); omega
  have nt : 0 ≤ (V 28 (Int32.toNatClampNeg z6)).toInt := by rw [kN]; exact y1
  have r7 : (-1) ≤ ((V 28 (Int32.toNatClampNeg z6))).toInt ∧ ((V 28 (Int32.toNatClampNeg z6))).toInt ≤ 23 := hMV 28 (Int32.toNatClampNeg z6)
  refine gA_int (gA_runV (As := [.int z6]) (rest := []) (ci := 12) (q0 := 0) hx hb hml hown hg hP hD hK hS hA hnw hgk (s_candidatesOf2 l D ks H.size ad kk V L z6 hMV (by first | omega | ((try (have i_y1 := Imp.go y1 (by omega))); omega)) (show 0 ≤ (V 28 (Int32.toNatClampNeg z6)).toInt from by first | omega | ((try (have i_y1 := Imp.go y1 (by omega))); omega))) w2172 w2174 w119 w172 w2175 rfl rfl hdV_yX12_candidatesOf ⟨Nat.le_of_ble_eq_true rfl, Nat.le_of_ble_eq_true rfl⟩ rfl hl.1 rfl (Nat.le_of_ble_eq_true rfl) dX12_checkNeed_17 ⟨Nat.le_of_ble_eq_true rfl, Nat.le_of_ble_eq_true rfl⟩) hP hD hK hS hA (fun z8 u9 H locs w10 hP hD hK hS => ?_)
  obtain ⟨V13, L14⟩ := u9
  obtain ⟨hMV13, ajV13, axL14, rgz8, t11, t12⟩ := w10
  have axL14 : L = L14 := Eq.symm axL14
  subst axL14
  have hP : va_P D vwCl (mw ad kk ks.1 V13 L) H := hP
  have hD : va_D A (mw ad kk ks.1 V13 L) := hD
  have hMV13 : rgd bM V13 := hMV13
  have ajV13 : agr [] [80] V V13 := ajV13
  have agV13 : agr [(0, 81)] [80, 82, 83, 84, 86] V V13 := agV.tr ajV13 (by decide) (by decide)
  have rgz8 : 0 ≤ z8.toInt ∧ z8.toInt ≤ 24 := rgz8
  have t11 : ∀ i : Nat, (i : Int) < z8.toInt → th V (Int32.toNatClampNeg (V13 80 i)) := t11
  have t12 : c0k V V13 := t12
  refine lv_istore (lv' := [(4, .int z8), (3, .int z6), (0, .ref (ad 0)), (1, .int p0), (2, .int p1)]) hx hb dX12_checkNeed_20 hl (by decide) rfl (fun ls hl => ?_)
  refine lv_iload hx hb dX12_checkNeed_22 (lv_at hl 0 rfl) ?_
  have J15 : ∀ (y16 : Int32) (H : Heap) (locs : List Loc) (ls : Array Slot), 0 ≤ y16.toInt ∧ y16.toInt ≤ 1 → Imp (y16.toInt = 0) (1 ≤ z8.toInt ∨ 1 ≤ (V13 30 (Int32.toNatClampNeg z6)).toInt) → va_P D vwCl (mw ad kk ks.1 V13 L) H → va_D A (mw ad kk ks.1 V13 L) → va_S A s.heap H locs → lv_has ls 10 [(4, .int z8), (3, .int z6), (0, .ref (ad 0)), (1, .int p0), (2, .int p1)] → W p l e r_s_checkNeed2 s m ([.ref (ad 0), .int p0, .int p1] : List Value).toArray below meth c H locs 0 0 (MQ below (q_s_checkNeed2 D ks ad kk V L p0 p1 A) ([.ref (ad 0), .int p0, .int p1] : List Value).toArray s 0 0 A) (F0 m 41 ls [.int y16]) := by
    intro y16 H locs ls kJ15_0 xJ15_0 hP hD hS hl
    have pq17 : (V13 30 (Int32.toNatClampNeg z6)).toInt = ((V 30 (Int32.toNatClampNeg z6))).toInt := congrArg Int32.toInt (ajV13 30 (Int32.toNatClampNeg z6) rfl)
    have r18 : 0 ≤ ((V 30 (Int32.toNatClampNeg z6))).toInt ∧ ((V 30 (Int32.toNatClampNeg z6))).toInt ≤ 1 := hMV 30 (Int32.toNatClampNeg z6)
    refine lv_istore (lv' := [(5, .int y16), (4, .int z8), (3, .int z6), (0, .ref (ad 0)), (1, .int p0), (2, .int p1)]) hx hb dX12_checkNeed_41 hl (by decide) rfl (fun ls hl => ?_)
    refine lv_iload hx hb dX12_checkNeed_43 (lv_at hl 1 rfl) ?_
    refine lv_iconst (v := 1) hx hb dX12_checkNeed_45 (by decide) ?_
    have J19 : ∀ (y20 : Int32) (H : Heap) (locs : List Loc) (ls : Array Slot), 0 ≤ y20.toInt ∧ y20.toInt ≤ 1 → va_P D vwCl (mw ad kk ks.1 V13 L) H → va_D A (mw ad kk ks.1 V13 L) → va_S A s.heap H locs → lv_has ls 10 [(5, .int y16), (4, .int z8), (3, .int z6), (0, .ref (ad 0)), (1, .int p0), (2, .int p1)] → W p l e r_s_checkNeed2 s m ([.ref (ad 0), .int p0, .int p1] : List Value).toArray below meth c H locs 0 0 (MQ below (q_s_checkNeed2 D ks ad kk V L p0 p1 A) ([.ref (ad 0), .int p0, .int p1] : List Value).toArray s 0 0 A) (F0 m 63 ls [.int y20]) := by
      intro y20 H locs ls kJ19_0 hP hD hS hl
      refine lv_istore (lv' := [(6, .int y20), (5, .int y16), (4, .int z8), (3, .int z6), (0, .ref (ad 0)), (1, .int p0), (2, .int p1)]) hx hb dX12_checkNeed_63 hl (by decide) rfl (fun ls hl => ?_)
      refine lv_aload_n hx hb dX12_checkNeed_65 rfl (lv_at hl 4 rfl) ?_
      refine va_get (D := D) (ci := 12) (v := .ref (ad 86)) (C := RX12) (T := TX12) (N := 100) hx hb hg inX12 hown hK hP 0 rfl rfl 86 (by decide) (hg _ w1792) (fun _ h9 => h9) rfl dX12_checkNeed_66 ?_
      refine lv_bipush (v := 8) hx hb dX12_checkNeed_69 (by decide) ?_
      refine lv_iload_n hx hb dX12_checkNeed_71 rfl (lv_at hl 5 rfl) ?_
      refine lv_imul hx hb dX12_checkNeed_72 ?_
      refine lv_topi (fun z21 ez21 => ?_)
      have hz21 : z21.toInt = 8 * p0.toInt := i_mul ez21 (by decide) rfl (by omega)
      refine lv_iload_n hx hb dX12_checkNeed_73 rfl (lv_at hl 6 rfl) ?_
      refine lv_iadd hx hb dX12_checkNeed_74 ?_
      refine lv_topi (fun z22 ez22 => ?_)
      have hz22 : z22.toInt = z21.toInt + p1.toInt := i_add ez22 rfl rfl (by omega)
      refine lv_iload hx hb dX12_checkNeed_75 (lv_at hl 1 rfl) ?_
      have J23 : ∀ (y24 : Int32) (H : Heap) (locs : List Loc) (ls : Array Slot), 0 ≤ y24.toInt ∧ y24.toInt ≤ 1 → va_P D vwCl (mw ad kk ks.1 V13 L) H → va_D A (mw ad kk ks.1 V13 L) → va_S A s.heap H locs → lv_has ls 10 [(6, .int y20), (5, .int y16), (4, .int z8), (3, .int z6), (0, .ref (ad 0)), (1, .int p0), (2, .int p1)] → W p l e r_s_checkNeed2 s m ([.ref (ad 0), .int p0, .int p1] : List Value).toArray below meth c H locs 0 0 (MQ below (q_s_checkNeed2 D ks ad kk V L p0 p1 A) ([.ref (ad 0), .int p0, .int p1] : List Value).toArray s 0 0 A) (F0 m 90 ls [.int y24, .int z22, .ref (ad 86)]) := by
        intro y24 H locs ls kJ23_0 hP hD hS hl
        refine va_zast (D := D) (i := z22) (x := y24) hx hb hK hP hD hS 62 61 rfl rfl (i_in (a := z22.toInt) rfl (by first | omega | ((try (have i_xJ15_0 := Imp.go xJ15_0 (by omega))); (try (have i_y1 := Imp.go y1 (by omega))); (try (have i_y1 := Imp.go y1 (by omega))); (try (have i_xJ15_0 := Imp.go xJ15_0 (by omega))); omega))) dX12_checkNeed_90 (fun H locs hP hD hS => ?_)
        obtain ⟨V25, hV25⟩ : ∃ z, z = up2 V13 86 (Int32.toNatClampNeg z22) (vp_nar .boolean y24) := ⟨_, rfl⟩
        have hP : va_P D vwCl (mw ad kk ks.1 V25 L) H := by rw [hV25]; exact hP
        have hD : va_D A (mw ad kk ks.1 V25 L) := by rw [hV25]; exact hD
        have hMV25 : rgd bM V25 := hMV13.put hV25 (nar_b _)
        have agV25 : agr [(0, 81)] [80, 82, 83, 84, 86] V V25 := agV13.up hV25 rfl
        refine lv_iconst (v := 0) hx hb dX12_checkNeed_91 (by decide) ?_
        refine lv_istore (lv' := [(7, .int 0), (6, .int y20), (5, .int y16), (4, .int z8), (3, .int z6), (0, .ref (ad 0)), (1, .int p0), (2, .int p1)]) hx hb dX12_checkNeed_92 hl (by decide) rfl (fun ls hl => ?_)
        refine lv_iconst (v := 0) hx hb dX12_checkNeed_94 (by decide) ?_
        refine lv_istore (lv' := [(8, .int 0), (7, .int 0), (6, .int y20), (5, .int y16), (4, .int z8), (3, .int z6), (0, .ref (ad 0)), (1, .int p0), (2, .int p1)]) hx hb dX12_checkNeed_95 hl (by decide) rfl (fun ls hl => ?_)
        have lp28 : ∀ (fulp28 : Nat) (y26 : Int32) (y27 : Int32) (H : Heap) (locs : List Loc) (ls : Array Slot), 0 ≤ y26.toInt ∧ y26.toInt ≤ 24 → 0 ≤ y27.toInt ∧ y27.toInt ≤ 1 → y26.toInt ≤ z8.toInt → z8.toInt - y26.toInt < (fulp28 : Int) → va_P D vwCl (mw ad kk ks.1 V25 L) H → va_D A (mw ad kk ks.1 V25 L) → va_S A s.heap H locs → lv_has ls 10 [(8, .int y26), (7, .int y27), (6, .int y20), (5, .int y16), (4, .int z8), (3, .int z6), (0, .ref (ad 0)), (1, .int p0), (2, .int p1)] → W p l e r_s_checkNeed2 s m ([.ref (ad 0), .int p0, .int p1] : List Value).toArray below meth c H locs 0 0 (MQ below (q_s_checkNeed2 D ks ad kk V L p0 p1 A) ([.ref (ad 0), .int p0, .int p1] : List Value).toArray s 0 0 A) (F0 m 97 ls []) := by
          intro fulp28
          induction fulp28 with
          | zero =>
            intro y26 y27 H locs ls klp28_0 klp28_1 xlp28_0 hn  hP hD hS hl
            exfalso; omega
          | succ fulp28 ihlp28 =>
            intro y26 y27 H locs ls klp28_0 klp28_1 xlp28_0 hn  hP hD hS hl
            refine lv_iload hx hb dX12_checkNeed_97 (lv_at hl 0 rfl) ?_
            refine lv_iload hx hb dX12_checkNeed_99 (lv_at hl 4 rfl) ?_
            have J29 : ∀ (H : Heap) (locs : List Loc) (ls : Array Slot), va_P D vwCl (mw ad kk ks.1 V25 L) H → va_D A (mw ad kk ks.1 V25 L) → va_S A s.heap H locs → lv_has ls 10 [(8, .int y26), (7, .int y27), (6, .int y20), (5, .int y16), (4, .int z8), (3, .int z6), (0, .ref (ad 0)), (1, .int p0), (2, .int p1)] → W p l e r_s_checkNeed2 s m ([.ref (ad 0), .int p0, .int p1] : List Value).toArray below meth c H locs 0 0 (MQ below (q_s_checkNeed2 D ks ad kk V L p0 p1 A) ([.ref (ad 0), .int p0, .int p1] : List Value).toArray s 0 0 A) (F0 m 184 ls []) := by
              intro H locs ls  hP hD hS hl
              refine lv_iload hx hb dX12_checkNeed_184 (lv_at hl 3 rfl) ?_
              refine lv_if_ne (tgt := 199) hx hb dX12_checkNeed_186 (by decide) (fun c30 => ?_) (fun c30 => ?_)
              · skip
                have f31 : y16.toInt ≠ 0 := b_neq rfl (by decide) c30
                refine lv_aload_n hx hb dX12_checkNeed_199 rfl (lv_at hl 6 rfl) ?_
                refine lv_iload hx hb dX12_checkNeed_200 (lv_at hl 3 rfl) ?_
                refine lv_if_eq (tgt := 209) hx hb dX12_checkNeed_202 (by decide) (fun c32 => ?_) (fun c32 => ?_)
                · skip
                  have f33 : y16.toInt = 0 := b_eq rfl (by decide) c32
                  exfalso; first | omega | ((try (have i_xJ15_0 := Imp.go xJ15_0 (by omega))); (try (have i_y1 := Imp.go y1 (by omega))); (try (have i_y1 := Imp.go y1 (by omega))); (try (have i_xJ15_0 := Imp.go xJ15_0 (by omega))); omega)
                · skip
                  have f34 : y16.toInt ≠ 0 := b_neq rfl (by decide) c32
                  refine lv_iconst (v := 1) hx hb dX12_checkNeed_205 (by decide) ?_
                  refine lv_goto (tgt := 219) hx hb dX12_checkNeed_206 (by decide) ?_
                  refine lv_iload_n hx hb dX12_checkNeed_219 rfl (lv_at hl 7 rfl) ?_
                  refine lv_iload_n hx hb dX12_checkNeed_220 rfl (lv_at hl 8 rfl) ?_
                  have r35 : Int32.toInt 1 = 1 := by decide
                  have pq36 : (V25 0 81).toInt = ((V 0 81)).toInt := congrArg Int32.toInt ((up2_o hV25 (by decide)).trans (ajV13 0 81 rfl))
                  refine gA_void (gA_runV (As := [.int 1, .int p0, .int p1]) (rest := []) (ci := 12) (q0 := 0) hx hb hml hown hg hP hD hK hS hA hnw hgk (s_addFault l D ks H.size ad kk V25 L 1 p0 p1 hMV25 (by first | omega | ((try (have i_xJ15_0 := Imp.go xJ15_0 (by omega))); (try (have i_y1 := Imp.go y1 (by omega))); (try (have i_y1 := Imp.go y1 (by omega))); (try (have i_xJ15_0 := Imp.go xJ15_0 (by omega))); omega)) (show (V25 0 81).toInt ≤ 999999 from by first | omega | ((try (have i_xJ15_0 := Imp.go xJ15_0 (by omega))); (try (have i_y1 := Imp.go y1 (by omega))); (try (have i_y1 := Imp.go y1 (by omega))); (try (have i_xJ15_0 := Imp.go xJ15_0 (by omega))); omega))) w2183 w2185 w121 w172 w2186 rfl rfl hdV_yX12_addFault ⟨Nat.le_of_ble_eq_true rfl, Nat.le_of_ble_eq_true rfl⟩ rfl hl.1 rfl (Nat.le_of_ble_eq_true rfl) dX12_checkNeed_221 ⟨Nat.le_of_ble_eq_true rfl, Nat.le_of_ble_eq_true rfl⟩) hP hD hK hS hA (fun u38 H locs w39 hP hD hK hS => ?_)
                  obtain ⟨V41, L42⟩ := u38
                  obtain ⟨hMV41, ajV41, axL42, t40⟩ := w39
                  have axL42 : L = L42 := Eq.symm axL42
                  subst axL42
                  have hP : va_P D vwCl (mw ad kk ks.1 V41 L) H := hP
                  have hD : va_D A (mw ad kk ks.1 V41 L) := hD
                  have hMV41 : rgd bM V41 := hMV41
                  have ajV41 : agr [(0, 81)] [82, 83, 84] V25 V41 := ajV41
                  have agV41 : agr [(0, 81)] [80, 82, 83, 84, 86] V V41 := agV25.tr ajV41 (by decide) (by decide)
                  have t40 : (V41 0 81).toInt = (V25 0 81).toInt + 1 := t40
                  have r43 : 0 ≤ ((V41 0 81)).toInt ∧ ((V41 0 81)).toInt ≤ 1000000 := hMV41 0 81
                  have c044 : c0k V V41 := c0k.tr t12 (c0k.ag (show agr [(0, 81)] [82, 83, 84, 86] V13 V41 from (agr.tr (agr.up agr.rf hV25 rfl) ajV41 (by decide) (by decide))) rfl) ajV13 ⟨rfl, fun _ => rfl, fun _ => rfl, fun _ => rfl, fun _ => rfl, fun _ => rfl, fun _ => rfl⟩
                  exact W.vret hx hb hr (fun t ht hW => ⟨⟨(V41, L), rfl, ⟨hMV41, agV41, rfl, (show (V41 0 81).toInt ≤ (V 0 81).toInt + 1 from by first | omega | ((try (have i_xJ15_0 := Imp.go xJ15_0 (by omega))); (try (have i_y1 := Imp.go y1 (by omega))); (try (have i_y1 := Imp.go y1 (by omega))); (try (have i_xJ15_0 := Imp.go xJ15_0 (by omega))); omega)), (show (V 0 81).toInt ≤ (V41 0 81).toInt from by first | omega | ((try (have i_xJ15_0 := Imp.go xJ15_0 (by omega))); (try (have i_y1 := Imp.go y1 (by omega))); (try (have i_y1 := Imp.go y1 (by omega))); (try (have i_xJ15_0 := Imp.go xJ15_0 (by omega))); omega)), c044, (Imp.mk (fun hp => by exfalso; first | omega | ((try (have i_xJ15_0 := Imp.go xJ15_0 (by omega))); (try (have i_y1 := Imp.go y1 (by omega))); (try (have i_y1 := Imp.go y1 (by omega))); (try (have i_xJ15_0 := Imp.go xJ15_0 (by omega))); omega)))⟩, by rw [ht]; exact hP, va_K.moved hW.alike hK, hD⟩, hS.F ht⟩) hS.2.2 dX12_checkNeed_224
              · skip
                have f45 : y16.toInt = 0 := b_eq rfl (by decide) c30
                refine lv_iload hx hb dX12_checkNeed_189 (lv_at hl 2 rfl) ?_
                refine lv_if_ne (tgt := 199) hx hb dX12_checkNeed_191 (by decide) (fun c46 => ?_) (fun c46 => ?_)
                · skip
                  have f47 : y20.toInt ≠ 0 := b_neq rfl (by decide) c46
                  refine lv_aload_n hx hb dX12_checkNeed_199 rfl (lv_at hl 6 rfl) ?_
                  refine lv_iload hx hb dX12_checkNeed_200 (lv_at hl 3 rfl) ?_
                  refine lv_if_eq (tgt := 209) hx hb dX12_checkNeed_202 (by decide) (fun c48 => ?_) (fun c48 => ?_)
                  · skip
                    have f49 : y16.toInt = 0 := b_eq rfl (by decide) c48
                    refine lv_iload hx hb dX12_checkNeed_209 (lv_at hl 2 rfl) ?_
                    refine lv_if_eq (tgt := 218) hx hb dX12_checkNeed_211 (by decide) (fun c50 => ?_) (fun c50 => ?_)
                    · skip
                      have f51 : y20.toInt = 0 := b_eq rfl (by decide) c50
                      exfalso; first | omega | ((try (have i_xJ15_0 := Imp.go xJ15_0 (by omega))); (try (have i_y1 := Imp.go y1 (by omega))); (try (have i_y1 := Imp.go y1 (by omega))); (try (have i_xJ15_0 := Imp.go xJ15_0 (by omega))); omega)
                    · skip
                      have f52 : y20.toInt ≠ 0 := b_neq rfl (by decide) c50
                      refine lv_iconst (v := 2) hx hb dX12_checkNeed_214 (by decide) ?_
                      refine lv_goto (tgt := 219) hx hb dX12_checkNeed_215 (by decide) ?_
                      refine lv_iload_n hx hb dX12_checkNeed_219 rfl (lv_at hl 7 rfl) ?_
                      refine lv_iload_n hx hb dX12_checkNeed_220 rfl (lv_at hl 8 rfl) ?_
                      have r53 : Int32.toInt 2 = 2 := by decide
                      have pq54 : (V25 0 81).toInt = ((V 0 81)).toInt := congrArg Int32.toInt ((up2_o hV25 (by decide)).trans (ajV13 0 81 rfl))
                      refine gA_void (gA_runV (As := [.int 2, .int p0, .int p1]) (rest := []) (ci := 12) (q0 := 0) hx hb hml hown hg hP hD hK hS hA hnw hgk (s_addFault l D ks H.size ad kk V25 L 2 p0 p1 hMV25 (by first | omega | ((try (have i_xJ15_0 := Imp.go xJ15_0 (by omega))); (try (have i_y1 := Imp.go y1 (by omega))); (try (have i_y1 := Imp.go y1 (by omega))); (try (have i_xJ15_0 := Imp.go xJ15_0 (by omega))); omega)) (show (V25 0 81).toInt ≤ 999999 from by first | omega | ((try (have i_xJ15_0 := Imp.go xJ15_0 (by omega))); (try (have i_y1 := Imp.go y1 (by omega))); (try (have i_y1 := Imp.go y1 (by omega))); (try (have i_xJ15_0 := Imp.go xJ15_0 (by omega))); omega))) w2183 w2185 w121 w172 w2186 rfl rfl hdV_yX12_addFault ⟨Nat.le_of_ble_eq_true rfl, Nat.le_of_ble_eq_true rfl⟩ rfl hl.1 rfl (Nat.le_of_ble_eq_true rfl) dX12_checkNeed_221 ⟨Nat.le_of_ble_eq_true rfl, Nat.le_of_ble_eq_true rfl⟩) hP hD hK hS hA (fun u56 H locs w57 hP hD hK hS => ?_)
                      obtain ⟨V59, L60⟩ := u56
                      obtain ⟨hMV59, ajV59, axL60, t58⟩ := w57
                      have axL60 : L = L60 := Eq.symm axL60
                      subst axL60
                      have hP : va_P D vwCl (mw ad kk ks.1 V59 L) H := hP
                      have hD : va_D A (mw ad kk ks.1 V59 L) := hD
                      have hMV59 : rgd bM V59 := hMV59
                      have ajV59 : agr [(0, 81)] [82, 83, 84] V25 V59 := ajV59
                      have agV59 : agr [(0, 81)] [80, 82, 83, 84, 86] V V59 := agV25.tr ajV59 (by decide) (by decide)
                      have t58 : (V59 0 81).toInt = (V25 0 81).toInt + 1 := t58
                      have r61 : 0 ≤ ((V59 0 81)).toInt ∧ ((V59 0 81)).toInt ≤ 1000000 := hMV59 0 81
                      have c062 : c0k V V59 := c0k.tr t12 (c0k.ag (show agr [(0, 81)] [82, 83, 84, 86] V13 V59 from (agr.tr (agr.up agr.rf hV25 rfl) ajV59 (by decide) (by decide))) rfl) ajV13 ⟨rfl, fun _ => rfl, fun _ => rfl, fun _ => rfl, fun _ => rfl, fun _ => rfl, fun _ => rfl⟩
                      exact W.vret hx hb hr (fun t ht hW => ⟨⟨(V59, L), rfl, ⟨hMV59, agV59, rfl, (show (V59 0 81).toInt ≤ (V 0 81).toInt + 1 from by first | omega | ((try (have i_xJ15_0 := Imp.go xJ15_0 (by omega))); (try (have i_y1 := Imp.go y1 (by omega))); (try (have i_y1 := Imp.go y1 (by omega))); (try (have i_xJ15_0 := Imp.go xJ15_0 (by omega))); omega)), (show (V 0 81).toInt ≤ (V59 0 81).toInt from by first | omega | ((try (have i_xJ15_0 := Imp.go xJ15_0 (by omega))); (try (have i_y1 := Imp.go y1 (by omega))); (try (have i_y1 := Imp.go y1 (by omega))); (try (have i_xJ15_0 := Imp.go xJ15_0 (by omega))); omega)), c062, (Imp.mk (fun hp => by exfalso; first | omega | ((try (have i_xJ15_0 := Imp.go xJ15_0 (by omega))); (try (have i_y1 := Imp.go y1 (by omega))); (try (have i_y1 := Imp.go y1 (by omega))); (try (have i_xJ15_0 := Imp.go xJ15_0 (by omega))); omega)))⟩, by rw [ht]; exact hP, va_K.moved hW.alike hK, hD⟩, hS.F ht⟩) hS.2.2 dX12_checkNeed_224
                  · skip
                    have f63 : y16.toInt ≠ 0 := b_neq rfl (by decide) c48
                    exfalso; first | omega | ((try (have i_xJ15_0 := Imp.go xJ15_0 (by omega))); (try (have i_y1 := Imp.go y1 (by omega))); (try (have i_y1 := Imp.go y1 (by omega))); (try (have i_xJ15_0 := Imp.go xJ15_0 (by omega))); omega)
                · skip
                  have f64 : y20.toInt = 0 := b_eq rfl (by decide) c46
                  refine lv_iload hx hb dX12_checkNeed_194 (lv_at hl 1 rfl) ?_
                  refine lv_if_eq (tgt := 224) hx hb dX12_checkNeed_196 (by decide) (fun c65 => ?_) (fun c65 => ?_)
                  · skip
                    have f66 : y27.toInt = 0 := b_eq rfl (by decide) c65
                    have pq67 : (V25 0 81).toInt = ((V 0 81)).toInt := congrArg Int32.toInt ((up2_o hV25 (by decide)).trans (ajV13 0 81 rfl))
                    have c068 : c0k V V25 := c0k.tr t12 (c0k.ag (show agr [] [86] V13 V25 from (agr.up agr.rf hV25 rfl)) rfl) ajV13 ⟨rfl, fun _ => rfl, fun _ => rfl, fun _ => rfl, fun _ => rfl, fun _ => rfl, fun _ => rfl⟩
                    have e80 : V25 80 0 = V13 80 0 := (show agr [] [86] V13 V25 from (agr.up agr.rf hV25 rfl)) 80 _ rfl
                    have cn69 : Imp ((V25 0 81).toInt = (V 0 81).toInt) (1 ≤ (V 30 (8 * (24 * nwh V + Int32.toNatClampNeg p0) + Int32.toNatClampNeg p1)).toInt ∨ th V (cd0 V25)) := Imp.mk (fun _ => by rcases (Imp.go xJ15_0 (by first | omega | ((try (have i_xJ15_0 := Imp.go xJ15_0 (by omega))); (try (have i_y1 := Imp.go y1 (by omega))); (try (have i_y1 := Imp.go y1 (by omega))); (try (have i_xJ15_0 := Imp.go xJ15_0 (by omega))); omega))) with h9 | h9; (right; unfold cd0; rw [e80]; exact t11 0 (by omega)); (left; rw [← kN]; omega))
                    exact W.vret hx hb hr (fun t ht hW => ⟨⟨(V25, L), rfl, ⟨hMV25, agV25, rfl, (show (V25 0 81).toInt ≤ (V 0 81).toInt + 1 from by first | omega | ((try (have i_xJ15_0 := Imp.go xJ15_0 (by omega))); (try (have i_y1 := Imp.go y1 (by omega))); (try (have i_y1 := Imp.go y1 (by omega))); (try (have i_xJ15_0 := Imp.go xJ15_0 (by omega))); omega)), (show (V 0 81).toInt ≤ (V25 0 81).toInt from by first | omega | ((try (have i_xJ15_0 := Imp.go xJ15_0 (by omega))); (try (have i_y1 := Imp.go y1 (by omega))); (try (have i_y1 := Imp.go y1 (by omega))); (try (have i_xJ15_0 := Imp.go xJ15_0 (by omega))); omega)), c068, cn69⟩, by rw [ht]; exact hP, va_K.moved hW.alike hK, hD⟩, hS.F ht⟩) hS.2.2 dX12_checkNeed_224
                  · skip
                    have f70 : y27.toInt ≠ 0 := b_neq rfl (by decide) c65
                    refine lv_aload_n hx hb dX12_checkNeed_199 rfl (lv_at hl 6 rfl) ?_
                    refine lv_iload hx hb dX12_checkNeed_200 (lv_at hl 3 rfl) ?_
                    refine lv_if_eq (tgt := 209) hx hb dX12_checkNeed_202 (by decide) (fun c71 => ?_) (fun c71 => ?_)
                    · skip
                      have f72 : y16.toInt = 0 := b_eq rfl (by decide) c71
                      refine lv_iload hx hb dX12_checkNeed_209 (lv_at hl 2 rfl) ?_
                      refine lv_if_eq (tgt := 218) hx hb dX12_checkNeed_211 (by decide) (fun c73 => ?_) (fun c73 => ?_)
                      · skip
                        have f74 : y20.toInt = 0 := b_eq rfl (by decide) c73
                        refine lv_iconst (v := 4) hx hb dX12_checkNeed_218 (by decide) ?_
                        refine lv_iload_n hx hb dX12_checkNeed_219 rfl (lv_at hl 7 rfl) ?_
                        refine lv_iload_n hx hb dX12_checkNeed_220 rfl (lv_at hl 8 rfl) ?_
                        have r75 : Int32.toInt 4 = 4 := by decide
                        have pq76 : (V25 0 81).toInt = ((V 0 81)).toInt := congrArg Int32.toInt ((up2_o hV25 (by decide)).trans (ajV13 0 81 rfl))
                        refine gA_void (gA_runV (As := [.int 4, .int p0, .int p1]) (rest := []) (ci := 12) (q0 := 0) hx hb hml hown hg hP hD hK hS hA hnw hgk (s_addFault l D ks H.size ad kk V25 L 4 p0 p1 hMV25 (by first | omega | ((try (have i_xJ15_0 := Imp.go xJ15_0 (by omega))); (try (have i_y1 := Imp.go y1 (by omega))); (try (have i_y1 := Imp.go y1 (by omega))); (try (have i_xJ15_0 := Imp.go xJ15_0 (by omega))); omega)) (show (V25 0 81).toInt ≤ 999999 from by first | omega | ((try (have i_xJ15_0 := Imp.go xJ15_0 (by omega))); (try (have i_y1 := Imp.go y1 (by omega))); (try (have i_y1 := Imp.go y1 (by omega))); (try (have i_xJ15_0 := Imp.go xJ15_0 (by omega))); omega))) w2183 w2185 w121 w172 w2186 rfl rfl hdV_yX12_addFault ⟨Nat.le_of_ble_eq_true rfl, Nat.le_of_ble_eq_true rfl⟩ rfl hl.1 rfl (Nat.le_of_ble_eq_true rfl) dX12_checkNeed_221 ⟨Nat.le_of_ble_eq_true rfl, Nat.le_of_ble_eq_true rfl⟩) hP hD hK hS hA (fun u78 H locs w79 hP hD hK hS => ?_)
                        obtain ⟨V81, L82⟩ := u78
                        obtain ⟨hMV81, ajV81, axL82, t80⟩ := w79
                        have axL82 : L = L82 := Eq.symm axL82
                        subst axL82
                        have hP : va_P D vwCl (mw ad kk ks.1 V81 L) H := hP
                        have hD : va_D A (mw ad kk ks.1 V81 L) := hD
                        have hMV81 : rgd bM V81 := hMV81
                        have ajV81 : agr [(0, 81)] [82, 83, 84] V25 V81 := ajV81
                        have agV81 : agr [(0, 81)] [80, 82, 83, 84, 86] V V81 := agV25.tr ajV81 (by decide) (by decide)
                        have t80 : (V81 0 81).toInt = (V25 0 81).toInt + 1 := t80
                        have r83 : 0 ≤ ((V81 0 81)).toInt ∧ ((V81 0 81)).toInt ≤ 1000000 := hMV81 0 81
                        have c084 : c0k V V81 := c0k.tr t12 (c0k.ag (show agr [(0, 81)] [82, 83, 84, 86] V13 V81 from (agr.tr (agr.up agr.rf hV25 rfl) ajV81 (by decide) (by decide))) rfl) ajV13 ⟨rfl, fun _ => rfl, fun _ => rfl, fun _ => rfl, fun _ => rfl, fun _ => rfl, fun _ => rfl⟩
                        exact W.vret hx hb hr (fun t ht hW => ⟨⟨(V81, L), rfl, ⟨hMV81, agV81, rfl, (show (V81 0 81).toInt ≤ (V 0 81).toInt + 1 from by first | omega | ((try (have i_xJ15_0 := Imp.go xJ15_0 (by omega))); (try (have i_y1 := Imp.go y1 (by omega))); (try (have i_y1 := Imp.go y1 (by omega))); (try (have i_xJ15_0 := Imp.go xJ15_0 (by omega))); omega)), (show (V 0 81).toInt ≤ (V81 0 81).toInt from by first | omega | ((try (have i_xJ15_0 := Imp.go xJ15_0 (by omega))); (try (have i_y1 := Imp.go y1 (by omega))); (try (have i_y1 := Imp.go y1 (by omega))); (try (have i_xJ15_0 := Imp.go xJ15_0 (by omega))); omega)), c084, (Imp.mk (fun hp => by exfalso; first | omega | ((try (have i_xJ15_0 := Imp.go xJ15_0 (by omega))); (try (have i_y1 := Imp.go y1 (by omega))); (try (have i_y1 := Imp.go y1 (by omega))); (try (have i_xJ15_0 := Imp.go xJ15_0 (by omega))); omega)))⟩, by rw [ht]; exact hP, va_K.moved hW.alike hK, hD⟩, hS.F ht⟩) hS.2.2 dX12_checkNeed_224
                      · skip
                        have f85 : y20.toInt ≠ 0 := b_neq rfl (by decide) c73
                        exfalso; first | omega | ((try (have i_xJ15_0 := Imp.go xJ15_0 (by omega))); (try (have i_y1 := Imp.go y1 (by omega))); (try (have i_y1 := Imp.go y1 (by omega))); (try (have i_xJ15_0 := Imp.go xJ15_0 (by omega))); omega)
                    · skip
                      have f86 : y16.toInt ≠ 0 := b_neq rfl (by decide) c71
                      exfalso; first | omega | ((try (have i_xJ15_0 := Imp.go xJ15_0 (by omega))); (try (have i_y1 := Imp.go y1 (by omega))); (try (have i_y1 := Imp.go y1 (by omega))); (try (have i_xJ15_0 := Imp.go xJ15_0 (by omega))); omega)
            refine lv_icmp_ge (tgt := 184) hx hb dX12_checkNeed_101 (by decide) (fun c87 => ?_) (fun c87 => ?_)
            · skip
              have f88 : z8.toInt ≤ y26.toInt := b_le rfl rfl c87
              exact J29  H locs ls  hP hD hS (lv_sub hl [0, 1, 2, 3, 4, 5, 6, 7, 8] rfl)
            · skip
              have f89 : y26.toInt < z8.toInt := b_nle rfl rfl c87
              refine lv_aload_n hx hb dX12_checkNeed_104 rfl (lv_at hl 6 rfl) ?_
              refine va_get (D := D) (ci := 12) (v := .ref (ad 29)) (C := RX12) (T := TX12) (N := 100) hx hb hg inX12 hown hK hP 0 rfl rfl 29 (by decide) (hg _ w1735) (fun _ h9 => h9) rfl dX12_checkNeed_105 ?_
              refine lv_iload_n hx hb dX12_checkNeed_108 rfl (lv_at hl 5 rfl) ?_
              refine va_zald (D := D) (i := z6) hx hb hK hP 22 21 rfl rfl (i_in (a := z6.toInt) rfl (by first | omega | ((try (have i_xJ15_0 := Imp.go xJ15_0 (by omega))); (try (have i_y1 := Imp.go y1 (by omega))); (try (have i_y1 := Imp.go y1 (by omega))); (try (have i_xJ15_0 := Imp.go xJ15_0 (by omega))); omega))) dX12_checkNeed_109 ?_
              refine g_top (v := (V 29 (Int32.toNatClampNeg z6))) ((up2_o hV25 (by decide)).trans (ajV13 29 (Int32.toNatClampNeg z6) rfl)) ?_
              have r90 : 0 ≤ ((V 29 (Int32.toNatClampNeg z6))).toInt ∧ ((V 29 (Int32.toNatClampNeg z6))).toInt ≤ 1 := hMV 29 (Int32.toNatClampNeg z6)
              refine lv_if_ne (tgt := 184) hx hb dX12_checkNeed_110 (by decide) (fun c91 => ?_) (fun c91 => ?_)
              · skip
                have f92 : ((V 29 (Int32.toNatClampNeg z6))).toInt ≠ 0 := b_neq rfl (by decide) c91
                exact J29  H locs ls  hP hD hS (lv_sub hl [0, 1, 2, 3, 4, 5, 6, 7, 8] rfl)
              · skip
                have f93 : ((V 29 (Int32.toNatClampNeg z6))).toInt = 0 := b_eq rfl (by decide) c91
                refine lv_aload_n hx hb dX12_checkNeed_113 rfl (lv_at hl 6 rfl) ?_
                refine va_get (D := D) (ci := 12) (v := .ref (ad 22)) (C := RX12) (T := TX12) (N := 100) hx hb hg inX12 hown hK hP 0 rfl rfl 22 (by decide) (hg _ w1728) (fun _ h9 => h9) rfl dX12_checkNeed_114 ?_
                refine lv_bipush (v := 24) hx hb dX12_checkNeed_117 (by decide) ?_
                refine lv_aload_n hx hb dX12_checkNeed_119 rfl (lv_at hl 6 rfl) ?_
                refine va_get (D := D) (ci := 12) (v := .int (V25 0 11)) (C := RX12) (T := TX12) (N := 100) hx hb hg inX12 hown hK hP 0 rfl rfl 11 (by decide) (hg _ w1717) (fun _ h9 => h9) rfl dX12_checkNeed_120 ?_
                refine g_top (v := (V 0 11)) ((up2_o hV25 (by decide)).trans (ajV13 0 11 rfl)) ?_
                refine lv_imul hx hb dX12_checkNeed_123 ?_
                refine lv_topi (fun z94 ez94 => ?_)
                have hz94 : z94.toInt = 24 * ((V 0 11)).toInt := i_mul ez94 (by decide) rfl (by omega)
                refine lv_aload_n hx hb dX12_checkNeed_124 rfl (lv_at hl 6 rfl) ?_
                refine va_get (D := D) (ci := 12) (v := .ref (ad 80)) (C := RX12) (T := TX12) (N := 100) hx hb hg inX12 hown hK hP 0 rfl rfl 80 (by decide) (hg _ w1786) (fun _ h9 => h9) rfl dX12_checkNeed_125 ?_
                refine lv_iload hx hb dX12_checkNeed_128 (lv_at hl 0 rfl) ?_
                refine va_iald (D := D) (i := y26) hx hb hK hP 57 56 rfl rfl (i_in (a := y26.toInt) rfl (by first | omega | ((try (have i_xJ15_0 := Imp.go xJ15_0 (by omega))); (try (have i_y1 := Imp.go y1 (by omega))); (try (have i_y1 := Imp.go y1 (by omega))); (try (have i_xJ15_0 := Imp.go xJ15_0 (by omega))); omega))) dX12_checkNeed_130 ?_
                refine g_top (v := (V13 80 (Int32.toNatClampNeg y26))) (up2_o hV25 (by decide)) ?_
                have r95 : 0 ≤ ((V13 80 (Int32.toNatClampNeg y26))).toInt ∧ ((V13 80 (Int32.toNatClampNeg y26))).toInt ≤ 23 := hMV13 80 (Int32.toNatClampNeg y26)
                refine lv_iadd hx hb dX12_checkNeed_131 ?_
                refine lv_topi (fun z96 ez96 => ?_)
                have hz96 : z96.toInt = z94.toInt + ((V13 80 (Int32.toNatClampNeg y26))).toInt := i_add ez96 rfl rfl (by omega)
                refine va_iald (D := D) (i := z96) hx hb hK hP 15 14 rfl rfl (i_in (a := z96.toInt) rfl (by first | omega | ((try (have i_xJ15_0 := Imp.go xJ15_0 (by omega))); (try (have i_y1 := Imp.go y1 (by omega))); (try (have i_y1 := Imp.go y1 (by omega))); (try (have i_xJ15_0 := Imp.go xJ15_0 (by omega))); omega))) dX12_checkNeed_132 ?_
                refine g_top (v := (V 22 (Int32.toNatClampNeg z96))) ((up2_o hV25 (by decide)).trans (ajV13 22 (Int32.toNatClampNeg z96) rfl)) ?_
                refine lv_istore (lv' := [(9, .int (V 22 (Int32.toNatClampNeg z96))), (8, .int y26), (7, .int y27), (6, .int y20), (5, .int y16), (4, .int z8), (3, .int z6), (0, .ref (ad 0)), (1, .int p0), (2, .int p1)]) hx hb dX12_checkNeed_133 hl (by decide) rfl (fun ls hl => ?_)
                refine lv_iload hx hb dX12_checkNeed_135 (lv_at hl 2 rfl) ?_
                refine lv_if_ne (tgt := 171) hx hb dX12_checkNeed_137 (by decide) (fun c97 => ?_) (fun c97 => ?_)
                · skip
                  have f98 : y27.toInt ≠ 0 := b_neq rfl (by decide) c97
                  refine lv_iconst (v := 1) hx hb dX12_checkNeed_171 (by decide) ?_
                  refine lv_goto (tgt := 176) hx hb dX12_checkNeed_172 (by decide) ?_
                  refine lv_istore (lv' := [(7, .int 1), (9, .int (V 22 (Int32.toNatClampNeg z96))), (8, .int y26), (6, .int y20), (5, .int y16), (4, .int z8), (3, .int z6), (0, .ref (ad 0)), (1, .int p0), (2, .int p1)]) hx hb dX12_checkNeed_176 hl (by decide) rfl (fun ls hl => ?_)
                  obtain ⟨z99, ez99⟩ : ∃ y : Int32, y = y26 + 1 := ⟨_, rfl⟩
                  have hz99 : z99.toInt = y26.toInt + 1 := i_add ez99 rfl (by decide) (by omega)
                  refine lv_iinc (v := z99) (lv' := [(8, .int z99), (7, .int 1), (9, .int (V 22 (Int32.toNatClampNeg z96))), (6, .int y20), (5, .int y16), (4, .int z8), (3, .int z6), (0, .ref (ad 0)), (1, .int p0), (2, .int p1)]) hx hb dX12_checkNeed_178 hl (k := 2) rfl (by rw [ez99]; rfl) (by decide) rfl (fun ls hl => ?_)
                  refine lv_goto (tgt := 97) hx hb dX12_checkNeed_181 (by decide) ?_
                  have r100 : Int32.toInt 1 = 1 := by decide
                  exact ihlp28 z99 1 H locs ls (by first | omega | ((try (have i_xJ15_0 := Imp.go xJ15_0 (by omega))); (try (have i_y1 := Imp.go y1 (by omega))); (try (have i_y1 := Imp.go y1 (by omega))); (try (have i_xJ15_0 := Imp.go xJ15_0 (by omega))); omega)) (by decide) (show z99.toInt ≤ z8.toInt from by first | omega | ((try (have i_xJ15_0 := Imp.go xJ15_0 (by omega))); (try (have i_y1 := Imp.go y1 (by omega))); (try (have i_y1 := Imp.go y1 (by omega))); (try (have i_xJ15_0 := Imp.go xJ15_0 (by omega))); omega)) (by first | omega | ((try (have i_xJ15_0 := Imp.go xJ15_0 (by omega))); (try (have i_y1 := Imp.go y1 (by omega))); (try (have i_y1 := Imp.go y1 (by omega))); (try (have i_xJ15_0 := Imp.go xJ15_0 (by omega))); omega)) hP hD hS (lv_sub hl [0, 1, 3, 4, 5, 6, 7, 8, 9] rfl)
                · skip
                  have f101 : y27.toInt = 0 := b_eq rfl (by decide) c97
                  refine lv_iload hx hb dX12_checkNeed_140 (lv_at hl 0 rfl) ?_
                  refine lv_iconst (v := 3) hx hb dX12_checkNeed_142 (by decide) ?_
                  refine lv_icmp_eq (tgt := 175) hx hb dX12_checkNeed_143 (by decide) (fun c102 => ?_) (fun c102 => ?_)
                  · skip
                    have f103 : ((V 22 (Int32.toNatClampNeg z96))).toInt = 3 := b_eq rfl (by decide) c102
                    refine lv_iconst (v := 0) hx hb dX12_checkNeed_175 (by decide) ?_
                    refine lv_istore (lv' := [(7, .int 0), (9, .int (V 22 (Int32.toNatClampNeg z96))), (8, .int y26), (6, .int y20), (5, .int y16), (4, .int z8), (3, .int z6), (0, .ref (ad 0)), (1, .int p0), (2, .int p1)]) hx hb dX12_checkNeed_176 hl (by decide) rfl (fun ls hl => ?_)
                    obtain ⟨z104, ez104⟩ : ∃ y : Int32, y = y26 + 1 := ⟨_, rfl⟩
                    have hz104 : z104.toInt = y26.toInt + 1 := i_add ez104 rfl (by decide) (by omega)
                    refine lv_iinc (v := z104) (lv' := [(8, .int z104), (7, .int 0), (9, .int (V 22 (Int32.toNatClampNeg z96))), (6, .int y20), (5, .int y16), (4, .int z8), (3, .int z6), (0, .ref (ad 0)), (1, .int p0), (2, .int p1)]) hx hb dX12_checkNeed_178 hl (k := 2) rfl (by rw [ez104]; rfl) (by decide) rfl (fun ls hl => ?_)
                    refine lv_goto (tgt := 97) hx hb dX12_checkNeed_181 (by decide) ?_
                    have r105 : Int32.toInt 0 = 0 := by decide
                    exact ihlp28 z104 0 H locs ls (by first | omega | ((try (have i_xJ15_0 := Imp.go xJ15_0 (by omega))); (try (have i_y1 := Imp.go y1 (by omega))); (try (have i_y1 := Imp.go y1 (by omega))); (try (have i_xJ15_0 := Imp.go xJ15_0 (by omega))); omega)) (by decide) (show z104.toInt ≤ z8.toInt from by first | omega | ((try (have i_xJ15_0 := Imp.go xJ15_0 (by omega))); (try (have i_y1 := Imp.go y1 (by omega))); (try (have i_y1 := Imp.go y1 (by omega))); (try (have i_xJ15_0 := Imp.go xJ15_0 (by omega))); omega)) (by first | omega | ((try (have i_xJ15_0 := Imp.go xJ15_0 (by omega))); (try (have i_y1 := Imp.go y1 (by omega))); (try (have i_y1 := Imp.go y1 (by omega))); (try (have i_xJ15_0 := Imp.go xJ15_0 (by omega))); omega)) hP hD hS (lv_sub hl [0, 1, 3, 4, 5, 6, 7, 8, 9] rfl)
                  · skip
                    have f106 : ((V 22 (Int32.toNatClampNeg z96))).toInt ≠ 3 := b_neq rfl (by decide) c102
                    refine lv_iload hx hb dX12_checkNeed_146 (lv_at hl 0 rfl) ?_
                    refine gE_int (g_runS (As := [.int (V 22 (Int32.toNatClampNeg z96))]) (rest := []) (wc := []) (tc := []) hx hb hml hown hg gw_self hP hD hK hS hA hnw hgk [] [] (by decide) rfl rfl (s_longness l D ks H.size (V 22 (Int32.toNatClampNeg z96)) ) w2180 w2181 w172 w2182 hdS_yX12_longness ⟨Nat.le_of_ble_eq_true rfl, Nat.le_of_ble_eq_true rfl⟩ rfl hl.1 rfl (Nat.le_of_ble_eq_true rfl) dX12_checkNeed_148 ⟨Nat.le_of_ble_eq_true rfl, Nat.le_of_ble_eq_true rfl⟩) hP hD hK hS hA (fun z107 u108 H locs w109 hP hD hK hS => ?_)
                    refine lv_aload_n hx hb dX12_checkNeed_151 rfl (lv_at hl 7 rfl) ?_
                    refine va_get (D := D) (ci := 12) (v := .ref (ad 22)) (C := RX12) (T := TX12) (N := 100) hx hb hg inX12 hown hK hP 0 rfl rfl 22 (by decide) (hg _ w1728) (fun _ h9 => h9) rfl dX12_checkNeed_152 ?_
                    refine lv_bipush (v := 24) hx hb dX12_checkNeed_155 (by decide) ?_
                    refine lv_aload_n hx hb dX12_checkNeed_157 rfl (lv_at hl 7 rfl) ?_
                    refine va_get (D := D) (ci := 12) (v := .int (V25 0 11)) (C := RX12) (T := TX12) (N := 100) hx hb hg inX12 hown hK hP 0 rfl rfl 11 (by decide) (hg _ w1717) (fun _ h9 => h9) rfl dX12_checkNeed_158 ?_
                    refine g_top (v := (V 0 11)) ((up2_o hV25 (by decide)).trans (ajV13 0 11 rfl)) ?_
                    refine lv_imul hx hb dX12_checkNeed_161 ?_
                    refine lv_topi (fun z110 ez110 => ?_)
                    have hz110 : z110.toInt = 24 * ((V 0 11)).toInt := i_mul ez110 (by decide) rfl (by omega)
                    refine lv_iload_n hx hb dX12_checkNeed_162 rfl (lv_at hl 8 rfl) ?_
                    refine lv_iadd hx hb dX12_checkNeed_163 ?_
                    refine lv_topi (fun z111 ez111 => ?_)
                    have hz111 : z111.toInt = z110.toInt + p0.toInt := i_add ez111 rfl rfl (by omega)
                    refine va_iald (D := D) (i := z111) hx hb hK hP 15 14 rfl rfl (i_in (a := z111.toInt) rfl (by first | omega | ((try (have i_xJ15_0 := Imp.go xJ15_0 (by omega))); (try (have i_y1 := Imp.go y1 (by omega))); (try (have i_y1 := Imp.go y1 (by omega))); (try (have i_xJ15_0 := Imp.go xJ15_0 (by omega))); omega))) dX12_checkNeed_164 ?_
                    refine g_top (v := (V 22 (Int32.toNatClampNeg z111))) ((up2_o hV25 (by decide)).trans (ajV13 22 (Int32.toNatClampNeg z111) rfl)) ?_
                    refine gE_int (g_runS (As := [.int (V 22 (Int32.toNatClampNeg z111))]) (rest := [.int z107]) (wc := []) (tc := []) hx hb hml hown hg gw_self hP hD hK hS hA hnw hgk [] [] (by decide) rfl rfl (s_longness l D ks H.size (V 22 (Int32.toNatClampNeg z111)) ) w2180 w2181 w172 w2182 hdS_yX12_longness ⟨Nat.le_of_ble_eq_true rfl, Nat.le_of_ble_eq_true rfl⟩ rfl hl.1 rfl (Nat.le_of_ble_eq_true rfl) dX12_checkNeed_165 ⟨Nat.le_of_ble_eq_true rfl, Nat.le_of_ble_eq_true rfl⟩) hP hD hK hS hA (fun z112 u113 H locs w114 hP hD hK hS => ?_)
                    refine lv_icmp_ge (tgt := 175) hx hb dX12_checkNeed_168 (by decide) (fun c115 => ?_) (fun c115 => ?_)
                    · skip
                      have f116 : z112.toInt ≤ z107.toInt := b_le rfl rfl c115
                      refine lv_iconst (v := 0) hx hb dX12_checkNeed_175 (by decide) ?_
                      refine lv_istore (lv' := [(7, .int 0), (9, .int (V 22 (Int32.toNatClampNeg z96))), (8, .int y26), (6, .int y20), (5, .int y16), (4, .int z8), (3, .int z6), (0, .ref (ad 0)), (1, .int p0), (2, .int p1)]) hx hb dX12_checkNeed_176 hl (by decide) rfl (fun ls hl => ?_)
                      obtain ⟨z117, ez117⟩ : ∃ y : Int32, y = y26 + 1 := ⟨_, rfl⟩
                      have hz117 : z117.toInt = y26.toInt + 1 := i_add ez117 rfl (by decide) (by omega)
                      refine lv_iinc (v := z117) (lv' := [(8, .int z117), (7, .int 0), (9, .int (V 22 (Int32.toNatClampNeg z96))), (6, .int y20), (5, .int y16), (4, .int z8), (3, .int z6), (0, .ref (ad 0)), (1, .int p0), (2, .int p1)]) hx hb dX12_checkNeed_178 hl (k := 2) rfl (by rw [ez117]; rfl) (by decide) rfl (fun ls hl => ?_)
                      refine lv_goto (tgt := 97) hx hb dX12_checkNeed_181 (by decide) ?_
                      have r118 : Int32.toInt 0 = 0 := by decide
                      exact ihlp28 z117 0 H locs ls (by first | omega | ((try (have i_xJ15_0 := Imp.go xJ15_0 (by omega))); (try (have i_y1 := Imp.go y1 (by omega))); (try (have i_y1 := Imp.go y1 (by omega))); (try (have i_xJ15_0 := Imp.go xJ15_0 (by omega))); omega)) (by decide) (show z117.toInt ≤ z8.toInt from by first | omega | ((try (have i_xJ15_0 := Imp.go xJ15_0 (by omega))); (try (have i_y1 := Imp.go y1 (by omega))); (try (have i_y1 := Imp.go y1 (by omega))); (try (have i_xJ15_0 := Imp.go xJ15_0 (by omega))); omega)) (by first | omega | ((try (have i_xJ15_0 := Imp.go xJ15_0 (by omega))); (try (have i_y1 := Imp.go y1 (by omega))); (try (have i_y1 := Imp.go y1 (by omega))); (try (have i_xJ15_0 := Imp.go xJ15_0 (by omega))); omega)) hP hD hS (lv_sub hl [0, 1, 3, 4, 5, 6, 7, 8, 9] rfl)
                    · skip
                      have f119 : z107.toInt < z112.toInt := b_nle rfl rfl c115
                      refine lv_iconst (v := 1) hx hb dX12_checkNeed_171 (by decide) ?_
                      refine lv_goto (tgt := 176) hx hb dX12_checkNeed_172 (by decide) ?_
                      refine lv_istore (lv' := [(7, .int 1), (9, .int (V 22 (Int32.toNatClampNeg z96))), (8, .int y26), (6, .int y20), (5, .int y16), (4, .int z8), (3, .int z6), (0, .ref (ad 0)), (1, .int p0), (2, .int p1)]) hx hb dX12_checkNeed_176 hl (by decide) rfl (fun ls hl => ?_)
                      obtain ⟨z120, ez120⟩ : ∃ y : Int32, y = y26 + 1 := ⟨_, rfl⟩
                      have hz120 : z120.toInt = y26.toInt + 1 := i_add ez120 rfl (by decide) (by omega)
                      refine lv_iinc (v := z120) (lv' := [(8, .int z120), (7, .int 1), (9, .int (V 22 (Int32.toNatClampNeg z96))), (6, .int y20), (5, .int y16), (4, .int z8), (3, .int z6), (0, .ref (ad 0)), (1, .int p0), (2, .int p1)]) hx hb dX12_checkNeed_178 hl (k := 2) rfl (by rw [ez120]; rfl) (by decide) rfl (fun ls hl => ?_)
                      refine lv_goto (tgt := 97) hx hb dX12_checkNeed_181 (by decide) ?_
                      have r121 : Int32.toInt 1 = 1 := by decide
                      exact ihlp28 z120 1 H locs ls (by first | omega | ((try (have i_xJ15_0 := Imp.go xJ15_0 (by omega))); (try (have i_y1 := Imp.go y1 (by omega))); (try (have i_y1 := Imp.go y1 (by omega))); (try (have i_xJ15_0 := Imp.go xJ15_0 (by omega))); omega)) (by decide) (show z120.toInt ≤ z8.toInt from by first | omega | ((try (have i_xJ15_0 := Imp.go xJ15_0 (by omega))); (try (have i_y1 := Imp.go y1 (by omega))); (try (have i_y1 := Imp.go y1 (by omega))); (try (have i_xJ15_0 := Imp.go xJ15_0 (by omega))); omega)) (by first | omega | ((try (have i_xJ15_0 := Imp.go xJ15_0 (by omega))); (try (have i_y1 := Imp.go y1 (by omega))); (try (have i_y1 := Imp.go y1 (by omega))); (try (have i_xJ15_0 := Imp.go xJ15_0 (by omega))); omega)) hP hD hS (lv_sub hl [0, 1, 3, 4, 5, 6, 7, 8, 9] rfl)
        have r122 : Int32.toInt 0 = 0 := by decide
        exact lp28 ((z8.toInt - (Int32.toInt 0) + 1 : Int).toNat) 0 0 H locs ls (by decide) (by decide) (show (Int32.toInt 0) ≤ z8.toInt from by first | omega | ((try (have i_xJ15_0 := Imp.go xJ15_0 (by omega))); (try (have i_y1 := Imp.go y1 (by omega))); (try (have i_y1 := Imp.go y1 (by omega))); (try (have i_xJ15_0 := Imp.go xJ15_0 (by omega))); omega)) (by first | omega | ((try (have i_xJ15_0 := Imp.go xJ15_0 (by omega))); (try (have i_y1 := Imp.go y1 (by omega))); (try (have i_y1 := Imp.go y1 (by omega))); (try (have i_xJ15_0 := Imp.go xJ15_0 (by omega))); omega)) hP hD hS (lv_sub hl [0, 1, 2, 3, 4, 5, 6, 7, 8] rfl)
      refine lv_if_ne (tgt := 85) hx hb dX12_checkNeed_77 (by decide) (fun c123 => ?_) (fun c123 => ?_)
      · skip
        have f124 : y16.toInt ≠ 0 := b_neq rfl (by decide) c123
        refine lv_iconst (v := 1) hx hb dX12_checkNeed_85 (by decide) ?_
        refine lv_goto (tgt := 90) hx hb dX12_checkNeed_86 (by decide) ?_
        have r125 : Int32.toInt 1 = 1 := by decide
        exact J23 1 H locs ls (by decide) hP hD hS (lv_sub hl [0, 1, 2, 3, 4, 5, 6] rfl)
      · skip
        have f126 : y16.toInt = 0 := b_eq rfl (by decide) c123
        refine lv_iload hx hb dX12_checkNeed_80 (lv_at hl 0 rfl) ?_
        refine lv_if_eq (tgt := 89) hx hb dX12_checkNeed_82 (by decide) (fun c127 => ?_) (fun c127 => ?_)
        · skip
          have f128 : y20.toInt = 0 := b_eq rfl (by decide) c127
          refine lv_iconst (v := 0) hx hb dX12_checkNeed_89 (by decide) ?_
          have r129 : Int32.toInt 0 = 0 := by decide
          exact J23 0 H locs ls (by decide) hP hD hS (lv_sub hl [0, 1, 2, 3, 4, 5, 6] rfl)
        · skip
          have f130 : y20.toInt ≠ 0 := b_neq rfl (by decide) c127
          refine lv_iconst (v := 1) hx hb dX12_checkNeed_85 (by decide) ?_
          refine lv_goto (tgt := 90) hx hb dX12_checkNeed_86 (by decide) ?_
          have r131 : Int32.toInt 1 = 1 := by decide
          exact J23 1 H locs ls (by decide) hP hD hS (lv_sub hl [0, 1, 2, 3, 4, 5, 6] rfl)
    refine lv_icmp_le (tgt := 62) hx hb dX12_checkNeed_46 (by decide) (fun c132 => ?_) (fun c132 => ?_)
    · skip
      have f133 : z8.toInt ≤ 1 := b_le rfl (by decide) c132
      refine lv_iconst (v := 0) hx hb dX12_checkNeed_62 (by decide) ?_
      have r134 : Int32.toInt 0 = 0 := by decide
      exact J19 0 H locs ls (by decide) hP hD hS (lv_sub hl [0, 1, 2, 3, 4, 5] rfl)
    · skip
      have f135 : 1 < z8.toInt := b_nle rfl (by decide) c132
      refine lv_aload_n hx hb dX12_checkNeed_49 rfl (lv_at hl 3 rfl) ?_
      refine va_get (D := D) (ci := 12) (v := .ref (ad 30)) (C := RX12) (T := TX12) (N := 100) hx hb hg inX12 hown hK hP 0 rfl rfl 30 (by decide) (hg _ w1736) (fun _ h9 => h9) rfl dX12_checkNeed_50 ?_
      refine lv_iload_n hx hb dX12_checkNeed_53 rfl (lv_at hl 2 rfl) ?_
      refine va_zald (D := D) (i := z6) hx hb hK hP 23 22 rfl rfl (i_in (a := z6.toInt) rfl (by first | omega | ((try (have i_xJ15_0 := Imp.go xJ15_0 (by omega))); (try (have i_y1 := Imp.go y1 (by omega))); (try (have i_y1 := Imp.go y1 (by omega))); (try (have i_xJ15_0 := Imp.go xJ15_0 (by omega))); omega))) dX12_checkNeed_54 ?_
      refine g_top (v := (V 30 (Int32.toNatClampNeg z6))) (ajV13 30 (Int32.toNatClampNeg z6) rfl) ?_
      refine lv_if_ne (tgt := 62) hx hb dX12_checkNeed_55 (by decide) (fun c136 => ?_) (fun c136 => ?_)
      · skip
        have f137 : ((V 30 (Int32.toNatClampNeg z6))).toInt ≠ 0 := b_neq rfl (by decide) c136
        refine lv_iconst (v := 0) hx hb dX12_checkNeed_62 (by decide) ?_
        have r138 : Int32.toInt 0 = 0 := by decide
        exact J19 0 H locs ls (by decide) hP hD hS (lv_sub hl [0, 1, 2, 3, 4, 5] rfl)
      · skip
        have f139 : ((V 30 (Int32.toNatClampNeg z6))).toInt = 0 := b_eq rfl (by decide) c136
        refine lv_iconst (v := 1) hx hb dX12_checkNeed_58 (by decide) ?_
        refine lv_goto (tgt := 63) hx hb dX12_checkNeed_59 (by decide) ?_
        have r140 : Int32.toInt 1 = 1 := by decide
        exact J19 1 H locs ls (by decide) hP hD hS (lv_sub hl [0, 1, 2, 3, 4, 5] rfl)
  refine lv_if_ne (tgt := 40) hx hb dX12_checkNeed_24 (by decide) (fun c141 => ?_) (fun c141 => ?_)
  · skip
    have f142 : z8.toInt ≠ 0 := b_neq rfl (by decide) c141
    refine lv_iconst (v := 0) hx hb dX12_checkNeed_40 (by decide) ?_
    have r143 : Int32.toInt 0 = 0 := by decide
    have pq144 : (V13 30 (Int32.toNatClampNeg z6)).toInt = ((V 30 (Int32.toNatClampNeg z6))).toInt := congrArg Int32.toInt (ajV13 30 (Int32.toNatClampNeg z6) rfl)
    have r145 : 0 ≤ ((V 30 (Int32.toNatClampNeg z6))).toInt ∧ ((V 30 (Int32.toNatClampNeg z6))).toInt ≤ 1 := hMV 30 (Int32.toNatClampNeg z6)
    exact J15 0 H locs ls (by decide) (Imp.mk (fun _ => (show 1 ≤ z8.toInt ∨ 1 ≤ (V13 30 (Int32.toNatClampNeg z6)).toInt from by first | omega | ((try (have i_y1 := Imp.go y1 (by omega))); omega)))) hP hD hS (lv_sub hl [0, 1, 2, 3, 4] rfl)
  · skip
    have f146 : z8.toInt = 0 := b_eq rfl (by decide) c141
    refine lv_aload_n hx hb dX12_checkNeed_27 rfl (lv_at hl 2 rfl) ?_
    refine va_get (D := D) (ci := 12) (v := .ref (ad 30)) (C := RX12) (T := TX12) (N := 100) hx hb hg inX12 hown hK hP 0 rfl rfl 30 (by decide) (hg _ w1736) (fun _ h9 => h9) rfl dX12_checkNeed_28 ?_
    refine lv_iload_n hx hb dX12_checkNeed_31 rfl (lv_at hl 1 rfl) ?_
    refine va_zald (D := D) (i := z6) hx hb hK hP 23 22 rfl rfl (i_in (a := z6.toInt) rfl (by first | omega | ((try (have i_y1 := Imp.go y1 (by omega))); omega))) dX12_checkNeed_32 ?_
    refine g_top (v := (V 30 (Int32.toNatClampNeg z6))) (ajV13 30 (Int32.toNatClampNeg z6) rfl) ?_
    have r147 : 0 ≤ ((V 30 (Int32.toNatClampNeg z6))).toInt ∧ ((V 30 (Int32.toNatClampNeg z6))).toInt ≤ 1 := hMV 30 (Int32.toNatClampNeg z6)
    refine lv_if_ne (tgt := 40) hx hb dX12_checkNeed_33 (by decide) (fun c148 => ?_) (fun c148 => ?_)
    · skip
      have f149 : ((V 30 (Int32.toNatClampNeg z6))).toInt ≠ 0 := b_neq rfl (by decide) c148
      refine lv_iconst (v := 0) hx hb dX12_checkNeed_40 (by decide) ?_
      have r150 : Int32.toInt 0 = 0 := by decide
      have pq151 : (V13 30 (Int32.toNatClampNeg z6)).toInt = ((V 30 (Int32.toNatClampNeg z6))).toInt := congrArg Int32.toInt (ajV13 30 (Int32.toNatClampNeg z6) rfl)
      exact J15 0 H locs ls (by decide) (Imp.mk (fun _ => (show 1 ≤ z8.toInt ∨ 1 ≤ (V13 30 (Int32.toNatClampNeg z6)).toInt from by first | omega | ((try (have i_y1 := Imp.go y1 (by omega))); omega)))) hP hD hS (lv_sub hl [0, 1, 2, 3, 4] rfl)
    · skip
      have f152 : ((V 30 (Int32.toNatClampNeg z6))).toInt = 0 := b_eq rfl (by decide) c148
      refine lv_iconst (v := 1) hx hb dX12_checkNeed_36 (by decide) ?_
      refine lv_goto (tgt := 41) hx hb dX12_checkNeed_37 (by decide) ?_
      have r153 : Int32.toInt 1 = 1 := by decide
      have pq154 : (V13 30 (Int32.toNatClampNeg z6)).toInt = ((V 30 (Int32.toNatClampNeg z6))).toInt := congrArg Int32.toInt (ajV13 30 (Int32.toNatClampNeg z6) rfl)
      exact J15 1 H locs ls (by decide) (Imp.mk (fun hp => absurd hp (by decide))) hP hD hS (lv_sub hl [0, 1, 2, 3, 4] rfl)
