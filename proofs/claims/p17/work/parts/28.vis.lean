section
/-! the visits: how many components are not visited yet; what is on the way -/
def cz (V : Vf) : Nat → Nat
  | 0 => 0
  | n + 1 => cz V n + (if (V 87 n).toInt = 0 then 1 else 0)
theorem cz_ext {V W : Vf} : ∀ n, (∀ k, k < n → W 87 k = V 87 k) → cz W n = cz V n
  | 0, _ => rfl
  | n + 1, h => by
    show cz W n + (if (W 87 n).toInt = 0 then 1 else 0) = cz V n + (if (V 87 n).toInt = 0 then 1 else 0)
    rw [cz_ext n (fun k hk => h k (by omega)), h n (by omega)]
theorem cz_ag {fs : List (Nat × Nat)} {cs : List Nat} {V W : Vf} {n : Nat} (a : agr fs cs V W) (h : ∀ k, wrL fs cs 87 k = false) : cz W n = cz V n := cz_ext n (fun k _ => a _ _ (h k))
theorem cz_o {V W : Vf} {c k n : Nat} {v : Int32} (e : W = up2 V c k v) (hc : ¬ 87 = c) : cz W n = cz V n := cz_ext n (fun _ _ => up2_o e hc)
theorem cz_put {V W : Vf} {k : Nat} {v : Int32} (e : W = up2 V 87 k v) (hv : v.toInt ≠ 0) : ∀ n, cz W n ≤ cz V n ∧ (k < n → (V 87 k).toInt = 0 → cz W n + 1 = cz V n) ∧ (n ≤ k → cz W n = cz V n)
  | 0 => ⟨Nat.le_refl _, fun h => absurd h (by omega), fun _ => rfl⟩
  | n + 1 => by
    have ih := cz_put e hv n
    have e1 : cz W (n + 1) = cz W n + (if (W 87 n).toInt = 0 then 1 else 0) := rfl
    have e2 : cz V (n + 1) = cz V n + (if (V 87 n).toInt = 0 then 1 else 0) := rfl
    by_cases hk : n = k
    · subst hk
      have e3 : (W 87 n).toInt ≠ 0 := by rw [up2_s e]; exact hv
      rw [if_neg e3] at e1
      have e4 := ih.2.2 (Nat.le_refl _)
      refine ⟨?_, fun _ h0 => ?_, fun h => absurd h (by omega)⟩
      · omega
      · rw [if_pos h0] at e2
        omega
    · have e3 : W 87 n = V 87 n := up2_k e hk
      rw [e3] at e1
      refine ⟨by omega, fun h h0 => ?_, fun h => ?_⟩
      · have := ih.2.1 (by omega) h0
        omega
      · have := ih.2.2 (by omega)
        omega
theorem cz_le (V : Vf) : ∀ n, cz V n ≤ n
  | 0 => Nat.le_refl _
  | n + 1 => by
    have ih := cz_le V n
    have e : cz V (n + 1) = cz V n + (if (V 87 n).toInt = 0 then 1 else 0) := rfl
    rw [e]
    split <;> omega
def visI (V0 V : Vf) (c : Nat) : Prop := (∀ d : Nat, (V 87 d).toInt = 1 → (V0 87 d).toInt = 1 ∨ d = c) ∧ (∀ j : Nat, (j : Int) < (V0 0 89).toInt → V 88 j = V0 88 j) ∧ (∀ j : Nat, (j : Int) = (V0 0 89).toInt → (V 88 j).toInt = (c : Int))
def visP (V W : Vf) : Prop := (∀ d : Nat, (W 87 d).toInt = 1 → (V 87 d).toInt = 1) ∧ (∀ j : Nat, (j : Int) < (V 0 89).toInt → W 88 j = V 88 j)
def WY (V : Vf) : Prop := ∀ d : Nat, (d : Int) < (V 19 (nwh V)).toInt → (V 87 d).toInt = 1 → ∃ j : Nat, (j : Int) < (V 0 89).toInt ∧ (V 88 j).toInt = (d : Int)
theorem WY.I {V0 V : Vf} {c : Nat} (h : WY V0) (i : visI V0 V c) (e : (V 0 89).toInt = (V0 0 89).toInt + 1) (h0 : 0 ≤ (V0 0 89).toInt) (hc : V 19 (nwh V) = V0 19 (nwh V0)) : WY V := by
  intro d hd h1
  rw [hc] at hd
  rcases i.1 d h1 with q | q
  · obtain ⟨j, j1, j2⟩ := h d hd q
    exact ⟨j, by omega, by rw [i.2.1 j j1]; exact j2⟩
  · exact ⟨(V0 0 89).toInt.toNat, by omega, by rw [i.2.2 _ (by omega), q]⟩
theorem visI.ag {fs : List (Nat × Nat)} {cs : List Nat} {V0 V W : Vf} {c : Nat} (h : visI V0 V c) (a : agr fs cs V W) (h1 : ∀ k, wrL fs cs 87 k = false) (h2 : ∀ k, wrL fs cs 88 k = false) : visI V0 W c :=
  ⟨fun d q => h.1 d (by rw [a _ _ (h1 d)] at q; exact q), fun j q => (a _ _ (h2 j)).trans (h.2.1 j q), fun j q => by rw [a _ _ (h2 j)]; exact h.2.2 j q⟩
theorem visI.P {V0 V W : Vf} {c : Nat} (h : visI V0 V c) (p : visP V W) (e : (V 0 89).toInt = (V0 0 89).toInt + 1) : visI V0 W c :=
  ⟨fun d q => h.1 d (p.1 d q), fun j q => (p.2 j (by omega)).trans (h.2.1 j q), fun j q => by rw [p.2 j (by omega)]; exact h.2.2 j q⟩
theorem visI.new {V V1 V2 V3 : Vf} {c k m : Nat} {v x y : Int32} (e1 : V1 = up2 V 87 k x) (e2 : V2 = up2 V1 88 m v) (e3 : V3 = up2 V2 0 89 y) (hk : k = c) (hm : (m : Int) = (V 0 89).toInt) (hv : v.toInt = (c : Int)) : visI V V3 c := by
  refine ⟨fun d q => ?_, fun j q => ?_, fun j q => ?_⟩
  · by_cases hd : d = k
    · exact Or.inr (hd.trans hk)
    · left
      rw [up2_o e3 (by decide), up2_o e2 (by decide), up2_k e1 hd] at q
      exact q
  · rw [up2_o e3 (by decide), up2_k e2 (by omega), up2_o e1 (by decide)]
  · have e : j = m := by omega
    rw [up2_o e3 (by decide), e, up2_s e2]
    exact hv
theorem visP.fin {V0 V W1 W : Vf} {c k : Nat} {x y : Int32} (h : visI V0 V c) (e1 : W1 = up2 V 0 89 x) (e2 : W = up2 W1 87 k y) (hk : k = c) (hy : y.toInt ≠ 1) : visP V0 W := by
  refine ⟨fun d q => ?_, fun j q => ?_⟩
  · by_cases hd : d = k
    · rw [hd, up2_s e2] at q
      exact absurd q hy
    · rw [up2_k e2 hd, up2_o e1 (by decide)] at q
      exact (h.1 d q).resolve_right (fun z => hd (z.trans hk.symm))
  · rw [up2_o e2 (by decide), up2_o e1 (by decide)]
    exact h.2.1 j q
theorem nwh_ag {fs : List (Nat × Nat)} {cs : List Nat} {V W : Vf} (a : agr fs cs V W) (q : thC fs cs) : nwh W = nwh V ∧ W 19 (nwh W) = V 19 (nwh V) := by
  have e : nwh W = nwh V := by unfold nwh; rw [a 0 11 q.1]
  exact ⟨e, by rw [e, a _ _ (q.2.2.1 _)]⟩
theorem cz_pos {V : Vf} {k n : Nat} (hk : k < n) (h0 : (V 87 k).toInt = 0) : 1 ≤ cz V n := by
  have h := (cz_put (V := V) (W := up2 V 87 k 1) rfl (by decide) n).2.1 hk h0
  omega


abbrev r_s_checkNeed2 : Room := { frames := 3, cells := 0, slots := 0, locals := 69 }
abbrev q_s_checkNeed2 (D : va_G) (ks : KS) (ad : Nat → Nat) (kk : Nat → ClassId) (V : Vf) (L : Lf) (p0 : Int32) (p1 : Int32) (A : Nat → Prop) : Array Value → State → Outcome → State → Prop := va_Qv (fun (u : Vf × Lf) => rgd bM u.1 ∧ agr [(0, 81)] [80, 82, 83, 84, 86] V u.1 ∧ u.2 = L ∧ ((u.1 0 81).toInt ≤ (V 0 81).toInt + 1) ∧ ((V 0 81).toInt ≤ (u.1 0 81).toInt) ∧ (c0k V u.1) ∧ (Imp ((u.1 0 81).toInt = (V 0 81).toInt) (1 ≤ (V 30 (8 * (24 * nwh V + Int32.toNatClampNeg p0) + Int32.toNatClampNeg p1)).toInt ∨ th V (cd0 u.1)))) (fun u t => gq D A (mw ad kk ks.1 u.1 u.2) (mty kk) t) A
set_option maxHeartbeats 4000000 in
set_option maxRecDepth 100000 in
theorem s_checkNeed2 (l : Launch) (D : va_G) (ks : KS) (sz : Nat) (ad : Nat → Nat) (kk : Nat → ClassId) (V : Vf) (L : Lf) (p0 : Int32) (p1 : Int32) (hMV : rgd bM V) (rg_p0 : 0 ≤ p0.toInt ∧ p0.toInt ≤ 23) (rg_p1 : 0 ≤ p1.toInt ∧ p1.toInt ≤ 7) (y1 : 0 ≤ (V 28 (8 * (24 * nwh V + Int32.toNatClampNeg p0) + Int32.toNatClampNeg p1)).toInt) (y2 : (V 0 81).toInt ≤ 999999)  : Met l yX12_checkNeed (Cond.code yX12_checkNeed cX12_checkNeed 10 none :: GW) r_s_checkNeed2 (va_Pc [.ref (ad 0), .int p0, .int p1] (gp D ks (mw ad kk ks.1 V L) (mty kk) sz)) (q_s_checkNeed2 D ks ad kk V L p0 p1 (va_A (mw ad kk ks.1 V L) sz)) 0 0 (va_A (mw ad kk ks.1 V L) sz) := by
  refine g_met (q_s_checkNeed2 D ks ad kk V L p0 p1) (by decide) (Nat.le_of_ble_eq_true rfl) ?_
  intro p e s m below meth c A ls H locs hx hb hr hml hown hg hlocks hin hnw hgk hP hK hD hS hA hl
  have hown : s.vm.findClass RX12 = some m.cls := hown
  have hl : lv_has ls 10 [(0, .ref (ad 0)), (1, .int p0), (2, .int p1)] := hl
  have hP : va_P D vwCl (mw ad kk ks.1 V L) H := hP
  have hD : va_D A (mw ad kk ks.1 V L) := hD
  have hK : va_K D vwCl (mty kk) s := hK
  have agV : agr [(0, 81)] [80, 82, 83, 84, 86] V V := agr.rf
  have r1 : 0 ≤ ((V 0 81)).toInt ∧ ((V 0 81)).toInt ≤ 1000000 := hMV 0 81
  refine lv_bipush (v := 8) hx hb dX12_checkNeed_0 (by decide) ?_
  refine lv_bipush (v := 24) hx hb dX12_checkNeed_2 (by decide) ?_
  refine lv_aload_n hx hb dX12_checkNeed_4 rfl (lv_at hl 0 rfl) ?_
  refine va_get (D := D) (ci := 12) (v := .int (V 0 11)) (C := RX12) (T := TX12) (N := 100) hx hb hg inX12 hown hK hP 0 rfl rfl 11 (by decide) (hg _ w1717) (fun _ h9 => h9) rfl dX12_checkNeed_5 ?_
  have r2 : 0 ≤ ((V 0 11)).toInt ∧ ((V 0 11)).toInt ≤ 1 := hMV 0 11
  refine lv_imul hx hb dX12_checkNeed_8 ?_
  refine lv_topi (fun z3 ez3 => ?_)
  have hz3 : z3.toInt = 24 * ((V 0 11)).toInt := i_mul ez3 (by decide) rfl (by (first | exact om_3f8aba7b6ce1 r2.1 r2.2 | omega))
  refine lv_iload_n hx hb dX12_checkNeed_9 rfl (lv_at hl 1 rfl) ?_
  refine lv_iadd hx hb dX12_checkNeed_10 ?_
  refine lv_topi (fun z4 ez4 => ?_)
  have hz4 : z4.toInt = z3.toInt + p0.toInt := i_add ez4 rfl rfl (by (first | exact om_6c84dfc0d33f rg_p0.1 rg_p0.2 r2.1 r2.2 hz3 | omega))
  refine lv_imul hx hb dX12_checkNeed_11 ?_
  refine lv_topi (fun z5 ez5 => ?_)
  have hz5 : z5.toInt = 8 * z4.toInt := i_mul ez5 (by decide) rfl (by (first | exact om_43f57588f3c1 rg_p0.1 rg_p0.2 r2.1 r2.2 hz3 hz4 | omega))
  refine lv_iload_n hx hb dX12_checkNeed_12 rfl (lv_at hl 2 rfl) ?_
  refine lv_iadd hx hb dX12_checkNeed_13 ?_
  refine lv_topi (fun z6 ez6 => ?_)
  have hz6 : z6.toInt = z5.toInt + p1.toInt := i_add ez6 rfl rfl (by (first | exact om_b6c1b024e6af rg_p0.1 rg_p0.2 rg_p1.1 rg_p1.2 r2.1 r2.2 hz3 hz4 hz5 | omega))
  refine lv_istore_n (lv' := [(3, .int z6), (0, .ref (ad 0)), (1, .int p0), (2, .int p1)]) hx hb dX12_checkNeed_14 rfl hl (by decide) rfl (fun ls hl => ?_)
  refine lv_aload_n hx hb dX12_checkNeed_15 rfl (lv_at hl 1 rfl) ?_
  refine lv_iload_n hx hb dX12_checkNeed_16 rfl (lv_at hl 0 rfl) ?_
  have kn : (nwh V : Int) = (V 0 11).toInt := i_clamp (x := V 0 11) rfl (by (first | exact om_eafa9039069c r2.1 | omega))
  have kp0 := i_clamp (x := p0) rfl (by (first | exact om_eafa9039069c rg_p0.1 | omega))
  have kp1 := i_clamp (x := p1) rfl (by (first | exact om_eafa9039069c rg_p1.1 | omega))
  have kN : Int32.toNatClampNeg z6 = 8 * (24 * nwh V + Int32.toNatClampNeg p0) + Int32.toNatClampNeg p1 := by have h9 := i_clamp (x := z6) rfl (by (first | exact om_0223b868096c rg_p0.1 rg_p1.1 r2.1 hz3 hz4 hz5 hz6 | omega)); (first | exact om_ae2f849a0b98 hz3 hz4 hz5 hz6 kn kp0 kp1 h9 | omega)
  have nt : 0 ≤ (V 28 (Int32.toNatClampNeg z6)).toInt := by rw [kN]; exact y1
  have r7 : (-1) ≤ ((V 28 (Int32.toNatClampNeg z6))).toInt ∧ ((V 28 (Int32.toNatClampNeg z6))).toInt ≤ 23 := hMV 28 (Int32.toNatClampNeg z6)
  refine gA_int (gA_runV (As := [.int z6]) (rest := []) (ci := 12) (q0 := 0) hx hb hml hown hg hP hD hK hS hA hnw hgk (s_candidatesOf2 l D ks H.size ad kk V L z6 hMV (by first | exact om_8c842566bb12 rg_p0.1 rg_p0.2 rg_p1.1 rg_p1.2 r2.1 r2.2 hz3 hz4 hz5 hz6 | first | omega | ((try (have i_y1 := Imp.go y1 (by omega))); omega)) (show 0 ≤ (V 28 (Int32.toNatClampNeg z6)).toInt from by first | exact om_eafa9039069c nt | first | omega | ((try (have i_y1 := Imp.go y1 (by omega))); omega))) w2172 w2174 w119 w172 w2175 rfl rfl hdV_yX12_candidatesOf ⟨Nat.le_of_ble_eq_true rfl, Nat.le_of_ble_eq_true rfl⟩ rfl hl.1 rfl (Nat.le_of_ble_eq_true rfl) dX12_checkNeed_17 ⟨Nat.le_of_ble_eq_true rfl, Nat.le_of_ble_eq_true rfl⟩) hP hD hK hS hA (fun z8 u9 H locs w10 hP hD hK hS => ?_)
  obtain ⟨V13, L14⟩ := u9
  obtain ⟨hMV13, ajV13, axL14, rgz8, t11, t12⟩ := w10
  have axL14 : L = L14 := Eq.symm axL14
  subst axL14
  have hP : va_P D vwCl (mw ad kk ks.1 V13 L) H := hP
  have hD : va_D A (mw ad kk ks.1 V13 L) := hD
  have hMV13 : rgd bM V13 := hMV13
  have ajV13 : agr [] [80] V V13 := ajV13
  have agV13 : agr [(0, 81)] [80, 82, 83, 84, 86] V V13 := agV.tr ajV13 (by decide) (by decide)
  have rgz8 : 0 ≤ z8.toInt ∧ z8.toInt ≤ 24 := rgz8
  have t11 : ∀ i : Nat, (i : Int) < z8.toInt → th V (Int32.toNatClampNeg (V13 80 i)) := t11
  have t12 : c0k V V13 := t12
  refine lv_istore (lv' := [(4, .int z8), (3, .int z6), (0, .ref (ad 0)), (1, .int p0), (2, .int p1)]) hx hb dX12_checkNeed_20 hl (by decide) rfl (fun ls hl => ?_)
  refine lv_iload hx hb dX12_checkNeed_22 (lv_at hl 0 rfl) ?_
  have J15 : ∀ (y16 : Int32) (H : Heap) (locs : List Loc) (ls : Array Slot), 0 ≤ y16.toInt ∧ y16.toInt ≤ 1 → Imp (y16.toInt = 0) (1 ≤ z8.toInt ∨ 1 ≤ (V13 30 (Int32.toNatClampNeg z6)).toInt) → va_P D vwCl (mw ad kk ks.1 V13 L) H → va_D A (mw ad kk ks.1 V13 L) → va_S A s.heap H locs → lv_has ls 10 [(4, .int z8), (3, .int z6), (0, .ref (ad 0)), (1, .int p0), (2, .int p1)] → W p l e r_s_checkNeed2 s m ([.ref (ad 0), .int p0, .int p1] : List Value).toArray below meth c H locs 0 0 (MQ below (q_s_checkNeed2 D ks ad kk V L p0 p1 A) ([.ref (ad 0), .int p0, .int p1] : List Value).toArray s 0 0 A) (F0 m 41 ls [.int y16]) := by
    intro y16 H locs ls kJ15_0 xJ15_0 hP hD hS hl
    have pq17 : (V13 30 (Int32.toNatClampNeg z6)).toInt = ((V 30 (Int32.toNatClampNeg z6))).toInt := congrArg Int32.toInt (ajV13 30 (Int32.toNatClampNeg z6) rfl)
    have r18 : 0 ≤ ((V 30 (Int32.toNatClampNeg z6))).toInt ∧ ((V 30 (Int32.toNatClampNeg z6))).toInt ≤ 1 := hMV 30 (Int32.toNatClampNeg z6)
    refine lv_istore (lv' := [(5, .int y16), (4, .int z8), (3, .int z6), (0, .ref (ad 0)), (1, .int p0), (2, .int p1)]) hx hb dX12_checkNeed_41 hl (by decide) rfl (fun ls hl => ?_)
    refine lv_iload hx hb dX12_checkNeed_43 (lv_at hl 1 rfl) ?_
    refine lv_iconst (v := 1) hx hb dX12_checkNeed_45 (by decide) ?_
    have J19 : ∀ (y20 : Int32) (H : Heap) (locs : List Loc) (ls : Array Slot), 0 ≤ y20.toInt ∧ y20.toInt ≤ 1 → va_P D vwCl (mw ad kk ks.1 V13 L) H → va_D A (mw ad kk ks.1 V13 L) → va_S A s.heap H locs → lv_has ls 10 [(5, .int y16), (4, .int z8), (3, .int z6), (0, .ref (ad 0)), (1, .int p0), (2, .int p1)] → W p l e r_s_checkNeed2 s m ([.ref (ad 0), .int p0, .int p1] : List Value).toArray below meth c H locs 0 0 (MQ below (q_s_checkNeed2 D ks ad kk V L p0 p1 A) ([.ref (ad 0), .int p0, .int p1] : List Value).toArray s 0 0 A) (F0 m 63 ls [.int y20]) := by
      intro y20 H locs ls kJ19_0 hP hD hS hl
      refine lv_istore (lv' := [(6, .int y20), (5, .int y16), (4, .int z8), (3, .int z6), (0, .ref (ad 0)), (1, .int p0), (2, .int p1)]) hx hb dX12_checkNeed_63 hl (by decide) rfl (fun ls hl => ?_)
      refine lv_aload_n hx hb dX12_checkNeed_65 rfl (lv_at hl 4 rfl) ?_
      refine va_get (D := D) (ci := 12) (v := .ref (ad 86)) (C := RX12) (T := TX12) (N := 100) hx hb hg inX12 hown hK hP 0 rfl rfl 86 (by decide) (hg _ w1792) (fun _ h9 => h9) rfl dX12_checkNeed_66 ?_
      refine lv_bipush (v := 8) hx hb dX12_checkNeed_69 (by decide) ?_
      refine lv_iload_n hx hb dX12_checkNeed_71 rfl (lv_at hl 5 rfl) ?_
      refine lv_imul hx hb dX12_checkNeed_72 ?_
      refine lv_topi (fun z21 ez21 => ?_)
      have hz21 : z21.toInt = 8 * p0.toInt := i_mul ez21 (by decide) rfl (by (first | exact om_9e4b7225c539 rg_p0.1 rg_p0.2 | omega))
      refine lv_iload_n hx hb dX12_checkNeed_73 rfl (lv_at hl 6 rfl) ?_
      refine lv_iadd hx hb dX12_checkNeed_74 ?_
      refine lv_topi (fun z22 ez22 => ?_)
      have hz22 : z22.toInt = z21.toInt + p1.toInt := i_add ez22 rfl rfl (by (first | exact om_9f730d8f8954 rg_p0.1 rg_p0.2 rg_p1.1 rg_p1.2 hz21 | omega))
      refine lv_iload hx hb dX12_checkNeed_75 (lv_at hl 1 rfl) ?_
      have J23 : ∀ (y24 : Int32) (H : Heap) (locs : List Loc) (ls : Array Slot), 0 ≤ y24.toInt ∧ y24.toInt ≤ 1 → va_P D vwCl (mw ad kk ks.1 V13 L) H → va_D A (mw ad kk ks.1 V13 L) → va_S A s.heap H locs → lv_has ls 10 [(6, .int y20), (5, .int y16), (4, .int z8), (3, .int z6), (0, .ref (ad 0)), (1, .int p0), (2, .int p1)] → W p l e r_s_checkNeed2 s m ([.ref (ad 0), .int p0, .int p1] : List Value).toArray below meth c H locs 0 0 (MQ below (q_s_checkNeed2 D ks ad kk V L p0 p1 A) ([.ref (ad 0), .int p0, .int p1] : List Value).toArray s 0 0 A) (F0 m 90 ls [.int y24, .int z22, .ref (ad 86)]) := by
        intro y24 H locs ls kJ23_0 hP hD hS hl
        refine va_zast (D := D) (i := z22) (x := y24) hx hb hK hP hD hS 62 61 rfl rfl (i_in (a := z22.toInt) rfl (by first | exact om_acd96330a334 rg_p0.1 rg_p0.2 rg_p1.1 rg_p1.2 hz21 hz22 | first | omega | ((try (have i_xJ15_0 := Imp.go xJ15_0 (by omega))); (try (have i_y1 := Imp.go y1 (by omega))); (try (have i_y1 := Imp.go y1 (by omega))); (try (have i_xJ15_0 := Imp.go xJ15_0 (by omega))); omega))) dX12_checkNeed_90 (fun H locs hP hD hS => ?_)
        obtain ⟨V25, hV25⟩ : ∃ z, z = up2 V13 86 (Int32.toNatClampNeg z22) (vp_nar .boolean y24) := ⟨_, rfl⟩
        have hP : va_P D vwCl (mw ad kk ks.1 V25 L) H := by rw [hV25]; exact hP
        have hD : va_D A (mw ad kk ks.1 V25 L) := by rw [hV25]; exact hD
        have hMV25 : rgd bM V25 := hMV13.put hV25 (nar_b _)
        have agV25 : agr [(0, 81)] [80, 82, 83, 84, 86] V V25 := agV13.up hV25 rfl
        refine lv_iconst (v := 0) hx hb dX12_checkNeed_91 (by decide) ?_
        refine lv_istore (lv' := [(7, .int 0), (6, .int y20), (5, .int y16), (4, .int z8), (3, .int z6), (0, .ref (ad 0)), (1, .int p0), (2, .int p1)]) hx hb dX12_checkNeed_92 hl (by decide) rfl (fun ls hl => ?_)
        refine lv_iconst (v := 0) hx hb dX12_checkNeed_94 (by decide) ?_
        refine lv_istore (lv' := [(8, .int 0), (7, .int 0), (6, .int y20), (5, .int y16), (4, .int z8), (3, .int z6), (0, .ref (ad 0)), (1, .int p0), (2, .int p1)]) hx hb dX12_checkNeed_95 hl (by decide) rfl (fun ls hl => ?_)
        have lp28 : ∀ (fulp28 : Nat) (y26 : Int32) (y27 : Int32) (H : Heap) (locs : List Loc) (ls : Array Slot), 0 ≤ y26.toInt ∧ y26.toInt ≤ 24 → 0 ≤ y27.toInt ∧ y27.toInt ≤ 1 → y26.toInt ≤ z8.toInt → z8.toInt - y26.toInt < (fulp28 : Int) → va_P D vwCl (mw ad kk ks.1 V25 L) H → va_D A (mw ad kk ks.1 V25 L) → va_S A s.heap H locs → lv_has ls 10 [(8, .int y26), (7, .int y27), (6, .int y20), (5, .int y16), (4, .int z8), (3, .int z6), (0, .ref (ad 0)), (1, .int p0), (2, .int p1)] → W p l e r_s_checkNeed2 s m ([.ref (ad 0), .int p0, .int p1] : List Value).toArray below meth c H locs 0 0 (MQ below (q_s_checkNeed2 D ks ad kk V L p0 p1 A) ([.ref (ad 0), .int p0, .int p1] : List Value).toArray s 0 0 A) (F0 m 97 ls []) := by
          intro fulp28
          induction fulp28 with
          | zero =>
            intro y26 y27 H locs ls klp28_0 klp28_1 xlp28_0 hn  hP hD hS hl
            exfalso; (first | exact om_4634b1278845 xlp28_0 hn | omega)
          | succ fulp28 ihlp28 =>
            intro y26 y27 H locs ls klp28_0 klp28_1 xlp28_0 hn  hP hD hS hl
            refine lv_iload hx hb dX12_checkNeed_97 (lv_at hl 0 rfl) ?_
            refine lv_iload hx hb dX12_checkNeed_99 (lv_at hl 4 rfl) ?_
            have J29 : ∀ (H : Heap) (locs : List Loc) (ls : Array Slot), va_P D vwCl (mw ad kk ks.1 V25 L) H → va_D A (mw ad kk ks.1 V25 L) → va_S A s.heap H locs → lv_has ls 10 [(8, .int y26), (7, .int y27), (6, .int y20), (5, .int y16), (4, .int z8), (3, .int z6), (0, .ref (ad 0)), (1, .int p0), (2, .int p1)] → W p l e r_s_checkNeed2 s m ([.ref (ad 0), .int p0, .int p1] : List Value).toArray below meth c H locs 0 0 (MQ below (q_s_checkNeed2 D ks ad kk V L p0 p1 A) ([.ref (ad 0), .int p0, .int p1] : List Value).toArray s 0 0 A) (F0 m 184 ls []) := by
              intro H locs ls  hP hD hS hl
              refine lv_iload hx hb dX12_checkNeed_184 (lv_at hl 3 rfl) ?_
              refine lv_if_ne (tgt := 199) hx hb dX12_checkNeed_186 (by decide) (fun c30 => ?_) (fun c30 => ?_)
              · skip
                have f31 : y16.toInt ≠ 0 := b_neq rfl (by decide) c30
                refine lv_aload_n hx hb dX12_checkNeed_199 rfl (lv_at hl 6 rfl) ?_
                refine lv_iload hx hb dX12_checkNeed_200 (lv_at hl 3 rfl) ?_
                refine lv_if_eq (tgt := 209) hx hb dX12_checkNeed_202 (by decide) (fun c32 => ?_) (fun c32 => ?_)
                · skip
                  have f33 : y16.toInt = 0 := b_eq rfl (by decide) c32
                  exfalso; first | exact om_0abcda13baee kJ15_0.1 f31 f33 | first | omega | ((try (have i_xJ15_0 := Imp.go xJ15_0 (by omega))); (try (have i_y1 := Imp.go y1 (by omega))); (try (have i_y1 := Imp.go y1 (by omega))); (try (have i_xJ15_0 := Imp.go xJ15_0 (by omega))); omega)
                · skip
                  have f34 : y16.toInt ≠ 0 := b_neq rfl (by decide) c32
                  refine lv_iconst (v := 1) hx hb dX12_checkNeed_205 (by decide) ?_
                  refine lv_goto (tgt := 219) hx hb dX12_checkNeed_206 (by decide) ?_
                  refine lv_iload_n hx hb dX12_checkNeed_219 rfl (lv_at hl 7 rfl) ?_
                  refine lv_iload_n hx hb dX12_checkNeed_220 rfl (lv_at hl 8 rfl) ?_
                  have r35 : Int32.toInt 1 = 1 := by decide
                  have pq36 : (V25 0 81).toInt = ((V 0 81)).toInt := congrArg Int32.toInt ((up2_o hV25 (by decide)).trans (ajV13 0 81 rfl))
                  refine gA_void (gA_runV (As := [.int 1, .int p0, .int p1]) (rest := []) (ci := 12) (q0 := 0) hx hb hml hown hg hP hD hK hS hA hnw hgk (s_addFault l D ks H.size ad kk V25 L 1 p0 p1 hMV25 (by first | exact om_b6da0344f992 rg_p1.1 rg_p1.2 | first | omega | ((try (have i_xJ15_0 := Imp.go xJ15_0 (by omega))); (try (have i_y1 := Imp.go y1 (by omega))); (try (have i_y1 := Imp.go y1 (by omega))); (try (have i_xJ15_0 := Imp.go xJ15_0 (by omega))); omega)) (show (V25 0 81).toInt ≤ 999999 from by first | exact om_92a90bb16346 y2 pq36 | first | omega | ((try (have i_xJ15_0 := Imp.go xJ15_0 (by omega))); (try (have i_y1 := Imp.go y1 (by omega))); (try (have i_y1 := Imp.go y1 (by omega))); (try (have i_xJ15_0 := Imp.go xJ15_0 (by omega))); omega))) w2183 w2185 w121 w172 w2186 rfl rfl hdV_yX12_addFault ⟨Nat.le_of_ble_eq_true rfl, Nat.le_of_ble_eq_true rfl⟩ rfl hl.1 rfl (Nat.le_of_ble_eq_true rfl) dX12_checkNeed_221 ⟨Nat.le_of_ble_eq_true rfl, Nat.le_of_ble_eq_true rfl⟩) hP hD hK hS hA (fun u38 H locs w39 hP hD hK hS => ?_)
                  obtain ⟨V41, L42⟩ := u38
                  obtain ⟨hMV41, ajV41, axL42, t40⟩ := w39
                  have axL42 : L = L42 := Eq.symm axL42
                  subst axL42
                  have hP : va_P D vwCl (mw ad kk ks.1 V41 L) H := hP
                  have hD : va_D A (mw ad kk ks.1 V41 L) := hD
                  have hMV41 : rgd bM V41 := hMV41
                  have ajV41 : agr [(0, 81)] [82, 83, 84] V25 V41 := ajV41
                  have agV41 : agr [(0, 81)] [80, 82, 83, 84, 86] V V41 := agV25.tr ajV41 (by decide) (by decide)
                  have t40 : (V41 0 81).toInt = (V25 0 81).toInt + 1 := t40
                  have r43 : 0 ≤ ((V41 0 81)).toInt ∧ ((V41 0 81)).toInt ≤ 1000000 := hMV41 0 81
                  have c044 : c0k V V41 := c0k.tr t12 (c0k.ag (show agr [(0, 81)] [82, 83, 84, 86] V13 V41 from (agr.tr (agr.up agr.rf hV25 rfl) ajV41 (by decide) (by decide))) rfl) ajV13 ⟨rfl, fun _ => rfl, fun _ => rfl, fun _ => rfl, fun _ => rfl, fun _ => rfl, fun _ => rfl⟩
                  exact W.vret hx hb hr (fun t ht hW => ⟨⟨(V41, L), rfl, ⟨hMV41, agV41, rfl, (show (V41 0 81).toInt ≤ (V 0 81).toInt + 1 from by first | exact om_4073e2f93091 pq36 t40 | first | omega | ((try (have i_xJ15_0 := Imp.go xJ15_0 (by omega))); (try (have i_y1 := Imp.go y1 (by omega))); (try (have i_y1 := Imp.go y1 (by omega))); (try (have i_xJ15_0 := Imp.go xJ15_0 (by omega))); omega)), (show (V 0 81).toInt ≤ (V41 0 81).toInt from by first | exact om_7fa199aab32e pq36 t40 | first | omega | ((try (have i_xJ15_0 := Imp.go xJ15_0 (by omega))); (try (have i_y1 := Imp.go y1 (by omega))); (try (have i_y1 := Imp.go y1 (by omega))); (try (have i_xJ15_0 := Imp.go xJ15_0 (by omega))); omega)), c044, (Imp.mk (fun hp => by exfalso; first | omega | ((try (have i_xJ15_0 := Imp.go xJ15_0 (by omega))); (try (have i_y1 := Imp.go y1 (by omega))); (try (have i_y1 := Imp.go y1 (by omega))); (try (have i_xJ15_0 := Imp.go xJ15_0 (by omega))); omega)))⟩, by rw [ht]; exact hP, va_K.moved hW.alike hK, hD⟩, hS.F ht⟩) hS.2.2 dX12_checkNeed_224
              · skip
                have f45 : y16.toInt = 0 := b_eq rfl (by decide) c30
                refine lv_iload hx hb dX12_checkNeed_189 (lv_at hl 2 rfl) ?_
                refine lv_if_ne (tgt := 199) hx hb dX12_checkNeed_191 (by decide) (fun c46 => ?_) (fun c46 => ?_)
                · skip
                  have f47 : y20.toInt ≠ 0 := b_neq rfl (by decide) c46
                  refine lv_aload_n hx hb dX12_checkNeed_199 rfl (lv_at hl 6 rfl) ?_
                  refine lv_iload hx hb dX12_checkNeed_200 (lv_at hl 3 rfl) ?_
                  refine lv_if_eq (tgt := 209) hx hb dX12_checkNeed_202 (by decide) (fun c48 => ?_) (fun c48 => ?_)
                  · skip
                    have f49 : y16.toInt = 0 := b_eq rfl (by decide) c48
                    refine lv_iload hx hb dX12_checkNeed_209 (lv_at hl 2 rfl) ?_
                    refine lv_if_eq (tgt := 218) hx hb dX12_checkNeed_211 (by decide) (fun c50 => ?_) (fun c50 => ?_)
                    · skip
                      have f51 : y20.toInt = 0 := b_eq rfl (by decide) c50
                      exfalso; first | exact om_0abcda13baee kJ19_0.1 f47 f51 | first | omega | ((try (have i_xJ15_0 := Imp.go xJ15_0 (by omega))); (try (have i_y1 := Imp.go y1 (by omega))); (try (have i_y1 := Imp.go y1 (by omega))); (try (have i_xJ15_0 := Imp.go xJ15_0 (by omega))); omega)
                    · skip
                      have f52 : y20.toInt ≠ 0 := b_neq rfl (by decide) c50
                      refine lv_iconst (v := 2) hx hb dX12_checkNeed_214 (by decide) ?_
                      refine lv_goto (tgt := 219) hx hb dX12_checkNeed_215 (by decide) ?_
                      refine lv_iload_n hx hb dX12_checkNeed_219 rfl (lv_at hl 7 rfl) ?_
                      refine lv_iload_n hx hb dX12_checkNeed_220 rfl (lv_at hl 8 rfl) ?_
                      have r53 : Int32.toInt 2 = 2 := by decide
                      have pq54 : (V25 0 81).toInt = ((V 0 81)).toInt := congrArg Int32.toInt ((up2_o hV25 (by decide)).trans (ajV13 0 81 rfl))
                      refine gA_void (gA_runV (As := [.int 2, .int p0, .int p1]) (rest := []) (ci := 12) (q0 := 0) hx hb hml hown hg hP hD hK hS hA hnw hgk (s_addFault l D ks H.size ad kk V25 L 2 p0 p1 hMV25 (by first | exact om_b6da0344f992 rg_p1.1 rg_p1.2 | first | omega | ((try (have i_xJ15_0 := Imp.go xJ15_0 (by omega))); (try (have i_y1 := Imp.go y1 (by omega))); (try (have i_y1 := Imp.go y1 (by omega))); (try (have i_xJ15_0 := Imp.go xJ15_0 (by omega))); omega)) (show (V25 0 81).toInt ≤ 999999 from by first | exact om_92a90bb16346 y2 pq54 | first | omega | ((try (have i_xJ15_0 := Imp.go xJ15_0 (by omega))); (try (have i_y1 := Imp.go y1 (by omega))); (try (have i_y1 := Imp.go y1 (by omega))); (try (have i_xJ15_0 := Imp.go xJ15_0 (by omega))); omega))) w2183 w2185 w121 w172 w2186 rfl rfl hdV_yX12_addFault ⟨Nat.le_of_ble_eq_true rfl, Nat.le_of_ble_eq_true rfl⟩ rfl hl.1 rfl (Nat.le_of_ble_eq_true rfl) dX12_checkNeed_221 ⟨Nat.le_of_ble_eq_true rfl, Nat.le_of_ble_eq_true rfl⟩) hP hD hK hS hA (fun u56 H locs w57 hP hD hK hS => ?_)
                      obtain ⟨V59, L60⟩ := u56
                      obtain ⟨hMV59, ajV59, axL60, t58⟩ := w57
                      have axL60 : L = L60 := Eq.symm axL60
                      subst axL60
                      have hP : va_P D vwCl (mw ad kk ks.1 V59 L) H := hP
                      have hD : va_D A (mw ad kk ks.1 V59 L) := hD
                      have hMV59 : rgd bM V59 := hMV59
                      have ajV59 : agr [(0, 81)] [82, 83, 84] V25 V59 := ajV59
                      have agV59 : agr [(0, 81)] [80, 82, 83, 84, 86] V V59 := agV25.tr ajV59 (by decide) (by decide)
                      have t58 : (V59 0 81).toInt = (V25 0 81).toInt + 1 := t58
                      have r61 : 0 ≤ ((V59 0 81)).toInt ∧ ((V59 0 81)).toInt ≤ 1000000 := hMV59 0 81
                      have c062 : c0k V V59 := c0k.tr t12 (c0k.ag (show agr [(0, 81)] [82, 83, 84, 86] V13 V59 from (agr.tr (agr.up agr.rf hV25 rfl) ajV59 (by decide) (by decide))) rfl) ajV13 ⟨rfl, fun _ => rfl, fun _ => rfl, fun _ => rfl, fun _ => rfl, fun _ => rfl, fun _ => rfl⟩
                      exact W.vret hx hb hr (fun t ht hW => ⟨⟨(V59, L), rfl, ⟨hMV59, agV59, rfl, (show (V59 0 81).toInt ≤ (V 0 81).toInt + 1 from by first | exact om_4073e2f93091 pq54 t58 | first | omega | ((try (have i_xJ15_0 := Imp.go xJ15_0 (by omega))); (try (have i_y1 := Imp.go y1 (by omega))); (try (have i_y1 := Imp.go y1 (by omega))); (try (have i_xJ15_0 := Imp.go xJ15_0 (by omega))); omega)), (show (V 0 81).toInt ≤ (V59 0 81).toInt from by first | exact om_7fa199aab32e pq54 t58 | first | omega | ((try (have i_xJ15_0 := Imp.go xJ15_0 (by omega))); (try (have i_y1 := Imp.go y1 (by omega))); (try (have i_y1 := Imp.go y1 (by omega))); (try (have i_xJ15_0 := Imp.go xJ15_0 (by omega))); omega)), c062, (Imp.mk (fun hp => by exfalso; first | omega | ((try (have i_xJ15_0 := Imp.go xJ15_0 (by omega))); (try (have i_y1 := Imp.go y1 (by omega))); (try (have i_y1 := Imp.go y1 (by omega))); (try (have i_xJ15_0 := Imp.go xJ15_0 (by omega))); omega)))⟩, by rw [ht]; exact hP, va_K.moved hW.alike hK, hD⟩, hS.F ht⟩) hS.2.2 dX12_checkNeed_224
                  · skip
                    have f63 : y16.toInt ≠ 0 := b_neq rfl (by decide) c48
                    exfalso; first | exact om_fb320d7600b7 kJ15_0.1 f45 f63 | first | omega | ((try (have i_xJ15_0 := Imp.go xJ15_0 (by omega))); (try (have i_y1 := Imp.go y1 (by omega))); (try (have i_y1 := Imp.go y1 (by omega))); (try (have i_xJ15_0 := Imp.go xJ15_0 (by omega))); omega)
                · skip
                  have f64 : y20.toInt = 0 := b_eq rfl (by decide) c46
                  refine lv_iload hx hb dX12_checkNeed_194 (lv_at hl 1 rfl) ?_
                  refine lv_if_eq (tgt := 224) hx hb dX12_checkNeed_196 (by decide) (fun c65 => ?_) (fun c65 => ?_)
                  · skip
                    have f66 : y27.toInt = 0 := b_eq rfl (by decide) c65
                    have pq67 : (V25 0 81).toInt = ((V 0 81)).toInt := congrArg Int32.toInt ((up2_o hV25 (by decide)).trans (ajV13 0 81 rfl))
                    have c068 : c0k V V25 := c0k.tr t12 (c0k.ag (show agr [] [86] V13 V25 from (agr.up agr.rf hV25 rfl)) rfl) ajV13 ⟨rfl, fun _ => rfl, fun _ => rfl, fun _ => rfl, fun _ => rfl, fun _ => rfl, fun _ => rfl⟩
                    have e80 : V25 80 0 = V13 80 0 := (show agr [] [86] V13 V25 from (agr.up agr.rf hV25 rfl)) 80 _ rfl
                    have cn69 : Imp ((V25 0 81).toInt = (V 0 81).toInt) (1 ≤ (V 30 (8 * (24 * nwh V + Int32.toNatClampNeg p0) + Int32.toNatClampNeg p1)).toInt ∨ th V (cd0 V25)) := Imp.mk (fun _ => by rcases (Imp.go xJ15_0 (by first | exact om_b1799fcf2d63 kJ15_0.1 f45 | first | omega | ((try (have i_xJ15_0 := Imp.go xJ15_0 (by omega))); (try (have i_y1 := Imp.go y1 (by omega))); (try (have i_y1 := Imp.go y1 (by omega))); (try (have i_xJ15_0 := Imp.go xJ15_0 (by omega))); omega))) with h9 | h9; (right; unfold cd0; rw [e80]; exact t11 0 (by omega)); (left; rw [← kN]; omega))
                    exact W.vret hx hb hr (fun t ht hW => ⟨⟨(V25, L), rfl, ⟨hMV25, agV25, rfl, (show (V25 0 81).toInt ≤ (V 0 81).toInt + 1 from by first | exact om_c3b61c06432f pq67 | first | omega | ((try (have i_xJ15_0 := Imp.go xJ15_0 (by omega))); (try (have i_y1 := Imp.go y1 (by omega))); (try (have i_y1 := Imp.go y1 (by omega))); (try (have i_xJ15_0 := Imp.go xJ15_0 (by omega))); omega)), (show (V 0 81).toInt ≤ (V25 0 81).toInt from by first | exact om_abdc88b0c8fc pq67 | first | omega | ((try (have i_xJ15_0 := Imp.go xJ15_0 (by omega))); (try (have i_y1 := Imp.go y1 (by omega))); (try (have i_y1 := Imp.go y1 (by omega))); (try (have i_xJ15_0 := Imp.go xJ15_0 (by omega))); omega)), c068, cn69⟩, by rw [ht]; exact hP, va_K.moved hW.alike hK, hD⟩, hS.F ht⟩) hS.2.2 dX12_checkNeed_224
                  · skip
                    have f70 : y27.toInt ≠ 0 := b_neq rfl (by decide) c65
                    refine lv_aload_n hx hb dX12_checkNeed_199 rfl (lv_at hl 6 rfl) ?_
                    refine lv_iload hx hb dX12_checkNeed_200 (lv_at hl 3 rfl) ?_
                    refine lv_if_eq (tgt := 209) hx hb dX12_checkNeed_202 (by decide) (fun c71 => ?_) (fun c71 => ?_)
                    · skip
                      have f72 : y16.toInt = 0 := b_eq rfl (by decide) c71
                      refine lv_iload hx hb dX12_checkNeed_209 (lv_at hl 2 rfl) ?_
                      refine lv_if_eq (tgt := 218) hx hb dX12_checkNeed_211 (by decide) (fun c73 => ?_) (fun c73 => ?_)
                      · skip
                        have f74 : y20.toInt = 0 := b_eq rfl (by decide) c73
                        refine lv_iconst (v := 4) hx hb dX12_checkNeed_218 (by decide) ?_
                        refine lv_iload_n hx hb dX12_checkNeed_219 rfl (lv_at hl 7 rfl) ?_
                        refine lv_iload_n hx hb dX12_checkNeed_220 rfl (lv_at hl 8 rfl) ?_
                        have r75 : Int32.toInt 4 = 4 := by decide
                        have pq76 : (V25 0 81).toInt = ((V 0 81)).toInt := congrArg Int32.toInt ((up2_o hV25 (by decide)).trans (ajV13 0 81 rfl))
                        refine gA_void (gA_runV (As := [.int 4, .int p0, .int p1]) (rest := []) (ci := 12) (q0 := 0) hx hb hml hown hg hP hD hK hS hA hnw hgk (s_addFault l D ks H.size ad kk V25 L 4 p0 p1 hMV25 (by first | exact om_b6da0344f992 rg_p1.1 rg_p1.2 | first | omega | ((try (have i_xJ15_0 := Imp.go xJ15_0 (by omega))); (try (have i_y1 := Imp.go y1 (by omega))); (try (have i_y1 := Imp.go y1 (by omega))); (try (have i_xJ15_0 := Imp.go xJ15_0 (by omega))); omega)) (show (V25 0 81).toInt ≤ 999999 from by first | exact om_92a90bb16346 y2 pq76 | first | omega | ((try (have i_xJ15_0 := Imp.go xJ15_0 (by omega))); (try (have i_y1 := Imp.go y1 (by omega))); (try (have i_y1 := Imp.go y1 (by omega))); (try (have i_xJ15_0 := Imp.go xJ15_0 (by omega))); omega))) w2183 w2185 w121 w172 w2186 rfl rfl hdV_yX12_addFault ⟨Nat.le_of_ble_eq_true rfl, Nat.le_of_ble_eq_true rfl⟩ rfl hl.1 rfl (Nat.le_of_ble_eq_true rfl) dX12_checkNeed_221 ⟨Nat.le_of_ble_eq_true rfl, Nat.le_of_ble_eq_true rfl⟩) hP hD hK hS hA (fun u78 H locs w79 hP hD hK hS => ?_)
                        obtain ⟨V81, L82⟩ := u78
                        obtain ⟨hMV81, ajV81, axL82, t80⟩ := w79
                        have axL82 : L = L82 := Eq.symm axL82
                        subst axL82
                        have hP : va_P D vwCl (mw ad kk ks.1 V81 L) H := hP
                        have hD : va_D A (mw ad kk ks.1 V81 L) := hD
                        have hMV81 : rgd bM V81 := hMV81
                        have ajV81 : agr [(0, 81)] [82, 83, 84] V25 V81 := ajV81
                        have agV81 : agr [(0, 81)] [80, 82, 83, 84, 86] V V81 := agV25.tr ajV81 (by decide) (by decide)
                        have t80 : (V81 0 81).toInt = (V25 0 81).toInt + 1 := t80
                        have r83 : 0 ≤ ((V81 0 81)).toInt ∧ ((V81 0 81)).toInt ≤ 1000000 := hMV81 0 81
                        have c084 : c0k V V81 := c0k.tr t12 (c0k.ag (show agr [(0, 81)] [82, 83, 84, 86] V13 V81 from (agr.tr (agr.up agr.rf hV25 rfl) ajV81 (by decide) (by decide))) rfl) ajV13 ⟨rfl, fun _ => rfl, fun _ => rfl, fun _ => rfl, fun _ => rfl, fun _ => rfl, fun _ => rfl⟩
                        exact W.vret hx hb hr (fun t ht hW => ⟨⟨(V81, L), rfl, ⟨hMV81, agV81, rfl, (show (V81 0 81).toInt ≤ (V 0 81).toInt + 1 from by first | exact om_4073e2f93091 pq76 t80 | first | omega | ((try (have i_xJ15_0 := Imp.go xJ15_0 (by omega))); (try (have i_y1 := Imp.go y1 (by omega))); (try (have i_y1 := Imp.go y1 (by omega))); (try (have i_xJ15_0 := Imp.go xJ15_0 (by omega))); omega)), (show (V 0 81).toInt ≤ (V81 0 81).toInt from by first | exact om_7fa199aab32e pq76 t80 | first | omega | ((try (have i_xJ15_0 := Imp.go xJ15_0 (by omega))); (try (have i_y1 := Imp.go y1 (by omega))); (try (have i_y1 := Imp.go y1 (by omega))); (try (have i_xJ15_0 := Imp.go xJ15_0 (by omega))); omega)), c084, (Imp.mk (fun hp => by exfalso; first | omega | ((try (have i_xJ15_0 := Imp.go xJ15_0 (by omega))); (try (have i_y1 := Imp.go y1 (by omega))); (try (have i_y1 := Imp.go y1 (by omega))); (try (have i_xJ15_0 := Imp.go xJ15_0 (by omega))); omega)))⟩, by rw [ht]; exact hP, va_K.moved hW.alike hK, hD⟩, hS.F ht⟩) hS.2.2 dX12_checkNeed_224
                      · skip
                        have f85 : y20.toInt ≠ 0 := b_neq rfl (by decide) c73
                        exfalso; first | exact om_fb320d7600b7 kJ19_0.1 f64 f85 | first | omega | ((try (have i_xJ15_0 := Imp.go xJ15_0 (by omega))); (try (have i_y1 := Imp.go y1 (by omega))); (try (have i_y1 := Imp.go y1 (by omega))); (try (have i_xJ15_0 := Imp.go xJ15_0 (by omega))); omega)
                    · skip
                      have f86 : y16.toInt ≠ 0 := b_neq rfl (by decide) c71
                      exfalso; first | exact om_fb320d7600b7 kJ15_0.1 f45 f86 | first | omega | ((try (have i_xJ15_0 := Imp.go xJ15_0 (by omega))); (try (have i_y1 := Imp.go y1 (by omega))); (try (have i_y1 := Imp.go y1 (by omega))); (try (have i_xJ15_0 := Imp.go xJ15_0 (by omega))); omega)
            refine lv_icmp_ge (tgt := 184) hx hb dX12_checkNeed_101 (by decide) (fun c87 => ?_) (fun c87 => ?_)
            · skip
              have f88 : z8.toInt ≤ y26.toInt := b_le rfl rfl c87
              exact J29  H locs ls  hP hD hS (lv_sub hl [0, 1, 2, 3, 4, 5, 6, 7, 8] rfl)
            · skip
              have f89 : y26.toInt < z8.toInt := b_nle rfl rfl c87
              refine lv_aload_n hx hb dX12_checkNeed_104 rfl (lv_at hl 6 rfl) ?_
              refine va_get (D := D) (ci := 12) (v := .ref (ad 29)) (C := RX12) (T := TX12) (N := 100) hx hb hg inX12 hown hK hP 0 rfl rfl 29 (by decide) (hg _ w1735) (fun _ h9 => h9) rfl dX12_checkNeed_105 ?_
              refine lv_iload_n hx hb dX12_checkNeed_108 rfl (lv_at hl 5 rfl) ?_
              refine va_zald (D := D) (i := z6) hx hb hK hP 22 21 rfl rfl (i_in (a := z6.toInt) rfl (by first | exact om_fbf295219f60 rg_p0.1 rg_p0.2 rg_p1.1 rg_p1.2 r2.1 r2.2 hz3 hz4 hz5 hz6 | first | omega | ((try (have i_xJ15_0 := Imp.go xJ15_0 (by omega))); (try (have i_y1 := Imp.go y1 (by omega))); (try (have i_y1 := Imp.go y1 (by omega))); (try (have i_xJ15_0 := Imp.go xJ15_0 (by omega))); omega))) dX12_checkNeed_109 ?_
              refine g_top (v := (V 29 (Int32.toNatClampNeg z6))) ((up2_o hV25 (by decide)).trans (ajV13 29 (Int32.toNatClampNeg z6) rfl)) ?_
              have r90 : 0 ≤ ((V 29 (Int32.toNatClampNeg z6))).toInt ∧ ((V 29 (Int32.toNatClampNeg z6))).toInt ≤ 1 := hMV 29 (Int32.toNatClampNeg z6)
              refine lv_if_ne (tgt := 184) hx hb dX12_checkNeed_110 (by decide) (fun c91 => ?_) (fun c91 => ?_)
              · skip
                have f92 : ((V 29 (Int32.toNatClampNeg z6))).toInt ≠ 0 := b_neq rfl (by decide) c91
                exact J29  H locs ls  hP hD hS (lv_sub hl [0, 1, 2, 3, 4, 5, 6, 7, 8] rfl)
              · skip
                have f93 : ((V 29 (Int32.toNatClampNeg z6))).toInt = 0 := b_eq rfl (by decide) c91
                refine lv_aload_n hx hb dX12_checkNeed_113 rfl (lv_at hl 6 rfl) ?_
                refine va_get (D := D) (ci := 12) (v := .ref (ad 22)) (C := RX12) (T := TX12) (N := 100) hx hb hg inX12 hown hK hP 0 rfl rfl 22 (by decide) (hg _ w1728) (fun _ h9 => h9) rfl dX12_checkNeed_114 ?_
                refine lv_bipush (v := 24) hx hb dX12_checkNeed_117 (by decide) ?_
                refine lv_aload_n hx hb dX12_checkNeed_119 rfl (lv_at hl 6 rfl) ?_
                refine va_get (D := D) (ci := 12) (v := .int (V25 0 11)) (C := RX12) (T := TX12) (N := 100) hx hb hg inX12 hown hK hP 0 rfl rfl 11 (by decide) (hg _ w1717) (fun _ h9 => h9) rfl dX12_checkNeed_120 ?_
                refine g_top (v := (V 0 11)) ((up2_o hV25 (by decide)).trans (ajV13 0 11 rfl)) ?_
                refine lv_imul hx hb dX12_checkNeed_123 ?_
                refine lv_topi (fun z94 ez94 => ?_)
                have hz94 : z94.toInt = 24 * ((V 0 11)).toInt := i_mul ez94 (by decide) rfl (by (first | exact om_3f8aba7b6ce1 r2.1 r2.2 | omega))
                refine lv_aload_n hx hb dX12_checkNeed_124 rfl (lv_at hl 6 rfl) ?_
                refine va_get (D := D) (ci := 12) (v := .ref (ad 80)) (C := RX12) (T := TX12) (N := 100) hx hb hg inX12 hown hK hP 0 rfl rfl 80 (by decide) (hg _ w1786) (fun _ h9 => h9) rfl dX12_checkNeed_125 ?_
                refine lv_iload hx hb dX12_checkNeed_128 (lv_at hl 0 rfl) ?_
                refine va_iald (D := D) (i := y26) hx hb hK hP 57 56 rfl rfl (i_in (a := y26.toInt) rfl (by first | exact om_b50422aacf88 rgz8.2 klp28_0.1 f89 | first | omega | ((try (have i_xJ15_0 := Imp.go xJ15_0 (by omega))); (try (have i_y1 := Imp.go y1 (by omega))); (try (have i_y1 := Imp.go y1 (by omega))); (try (have i_xJ15_0 := Imp.go xJ15_0 (by omega))); omega))) dX12_checkNeed_130 ?_
                refine g_top (v := (V13 80 (Int32.toNatClampNeg y26))) (up2_o hV25 (by decide)) ?_
                have r95 : 0 ≤ ((V13 80 (Int32.toNatClampNeg y26))).toInt ∧ ((V13 80 (Int32.toNatClampNeg y26))).toInt ≤ 23 := hMV13 80 (Int32.toNatClampNeg y26)
                refine lv_iadd hx hb dX12_checkNeed_131 ?_
                refine lv_topi (fun z96 ez96 => ?_)
                have hz96 : z96.toInt = z94.toInt + ((V13 80 (Int32.toNatClampNeg y26))).toInt := i_add ez96 rfl rfl (by (first | exact om_2303d3558cdc r2.1 r2.2 hz94 r95.1 r95.2 | omega))
                refine va_iald (D := D) (i := z96) hx hb hK hP 15 14 rfl rfl (i_in (a := z96.toInt) rfl (by first | exact om_b4cc9a042e74 r2.1 r2.2 hz94 r95.1 r95.2 hz96 | first | omega | ((try (have i_xJ15_0 := Imp.go xJ15_0 (by omega))); (try (have i_y1 := Imp.go y1 (by omega))); (try (have i_y1 := Imp.go y1 (by omega))); (try (have i_xJ15_0 := Imp.go xJ15_0 (by omega))); omega))) dX12_checkNeed_132 ?_
                refine g_top (v := (V 22 (Int32.toNatClampNeg z96))) ((up2_o hV25 (by decide)).trans (ajV13 22 (Int32.toNatClampNeg z96) rfl)) ?_
                refine lv_istore (lv' := [(9, .int (V 22 (Int32.toNatClampNeg z96))), (8, .int y26), (7, .int y27), (6, .int y20), (5, .int y16), (4, .int z8), (3, .int z6), (0, .ref (ad 0)), (1, .int p0), (2, .int p1)]) hx hb dX12_checkNeed_133 hl (by decide) rfl (fun ls hl => ?_)
                refine lv_iload hx hb dX12_checkNeed_135 (lv_at hl 2 rfl) ?_
                refine lv_if_ne (tgt := 171) hx hb dX12_checkNeed_137 (by decide) (fun c97 => ?_) (fun c97 => ?_)
                · skip
                  have f98 : y27.toInt ≠ 0 := b_neq rfl (by decide) c97
                  refine lv_iconst (v := 1) hx hb dX12_checkNeed_171 (by decide) ?_
                  refine lv_goto (tgt := 176) hx hb dX12_checkNeed_172 (by decide) ?_
                  refine lv_istore (lv' := [(7, .int 1), (9, .int (V 22 (Int32.toNatClampNeg z96))), (8, .int y26), (6, .int y20), (5, .int y16), (4, .int z8), (3, .int z6), (0, .ref (ad 0)), (1, .int p0), (2, .int p1)]) hx hb dX12_checkNeed_176 hl (by decide) rfl (fun ls hl => ?_)
                  obtain ⟨z99, ez99⟩ : ∃ y : Int32, y = y26 + 1 := ⟨_, rfl⟩
                  have hz99 : z99.toInt = y26.toInt + 1 := i_add ez99 rfl (by decide) (by (first | exact om_ef5c713ba60b rgz8.2 klp28_0.1 f89 | omega))
                  refine lv_iinc (v := z99) (lv' := [(8, .int z99), (7, .int 1), (9, .int (V 22 (Int32.toNatClampNeg z96))), (6, .int y20), (5, .int y16), (4, .int z8), (3, .int z6), (0, .ref (ad 0)), (1, .int p0), (2, .int p1)]) hx hb dX12_checkNeed_178 hl (k := 2) rfl (by rw [ez99]; rfl) (by decide) rfl (fun ls hl => ?_)
                  refine lv_goto (tgt := 97) hx hb dX12_checkNeed_181 (by decide) ?_
                  have r100 : Int32.toInt 1 = 1 := by decide
                  exact ihlp28 z99 1 H locs ls (by first | exact om_66f93e1729e3 rgz8.2 klp28_0.1 f89 hz99 | first | omega | ((try (have i_xJ15_0 := Imp.go xJ15_0 (by omega))); (try (have i_y1 := Imp.go y1 (by omega))); (try (have i_y1 := Imp.go y1 (by omega))); (try (have i_xJ15_0 := Imp.go xJ15_0 (by omega))); omega)) (by decide) (show z99.toInt ≤ z8.toInt from by first | exact om_7fe9249fc074 f89 hz99 | first | omega | ((try (have i_xJ15_0 := Imp.go xJ15_0 (by omega))); (try (have i_y1 := Imp.go y1 (by omega))); (try (have i_y1 := Imp.go y1 (by omega))); (try (have i_xJ15_0 := Imp.go xJ15_0 (by omega))); omega)) (by first | exact om_9e7d2b874257 hn hz99 | first | omega | ((try (have i_xJ15_0 := Imp.go xJ15_0 (by omega))); (try (have i_y1 := Imp.go y1 (by omega))); (try (have i_y1 := Imp.go y1 (by omega))); (try (have i_xJ15_0 := Imp.go xJ15_0 (by omega))); omega)) hP hD hS (lv_sub hl [0, 1, 3, 4, 5, 6, 7, 8, 9] rfl)
                · skip
                  have f101 : y27.toInt = 0 := b_eq rfl (by decide) c97
                  refine lv_iload hx hb dX12_checkNeed_140 (lv_at hl 0 rfl) ?_
                  refine lv_iconst (v := 3) hx hb dX12_checkNeed_142 (by decide) ?_
                  refine lv_icmp_eq (tgt := 175) hx hb dX12_checkNeed_143 (by decide) (fun c102 => ?_) (fun c102 => ?_)
                  · skip
                    have f103 : ((V 22 (Int32.toNatClampNeg z96))).toInt = 3 := b_eq rfl (by decide) c102
                    refine lv_iconst (v := 0) hx hb dX12_checkNeed_175 (by decide) ?_
                    refine lv_istore (lv' := [(7, .int 0), (9, .int (V 22 (Int32.toNatClampNeg z96))), (8, .int y26), (6, .int y20), (5, .int y16), (4, .int z8), (3, .int z6), (0, .ref (ad 0)), (1, .int p0), (2, .int p1)]) hx hb dX12_checkNeed_176 hl (by decide) rfl (fun ls hl => ?_)
                    obtain ⟨z104, ez104⟩ : ∃ y : Int32, y = y26 + 1 := ⟨_, rfl⟩
                    have hz104 : z104.toInt = y26.toInt + 1 := i_add ez104 rfl (by decide) (by (first | exact om_ef5c713ba60b rgz8.2 klp28_0.1 f89 | omega))
                    refine lv_iinc (v := z104) (lv' := [(8, .int z104), (7, .int 0), (9, .int (V 22 (Int32.toNatClampNeg z96))), (6, .int y20), (5, .int y16), (4, .int z8), (3, .int z6), (0, .ref (ad 0)), (1, .int p0), (2, .int p1)]) hx hb dX12_checkNeed_178 hl (k := 2) rfl (by rw [ez104]; rfl) (by decide) rfl (fun ls hl => ?_)
                    refine lv_goto (tgt := 97) hx hb dX12_checkNeed_181 (by decide) ?_
                    have r105 : Int32.toInt 0 = 0 := by decide
                    exact ihlp28 z104 0 H locs ls (by first | exact om_66f93e1729e3 rgz8.2 klp28_0.1 f89 hz104 | first | omega | ((try (have i_xJ15_0 := Imp.go xJ15_0 (by omega))); (try (have i_y1 := Imp.go y1 (by omega))); (try (have i_y1 := Imp.go y1 (by omega))); (try (have i_xJ15_0 := Imp.go xJ15_0 (by omega))); omega)) (by decide) (show z104.toInt ≤ z8.toInt from by first | exact om_7fe9249fc074 f89 hz104 | first | omega | ((try (have i_xJ15_0 := Imp.go xJ15_0 (by omega))); (try (have i_y1 := Imp.go y1 (by omega))); (try (have i_y1 := Imp.go y1 (by omega))); (try (have i_xJ15_0 := Imp.go xJ15_0 (by omega))); omega)) (by first | exact om_9e7d2b874257 hn hz104 | first | omega | ((try (have i_xJ15_0 := Imp.go xJ15_0 (by omega))); (try (have i_y1 := Imp.go y1 (by omega))); (try (have i_y1 := Imp.go y1 (by omega))); (try (have i_xJ15_0 := Imp.go xJ15_0 (by omega))); omega)) hP hD hS (lv_sub hl [0, 1, 3, 4, 5, 6, 7, 8, 9] rfl)
                  · skip
                    have f106 : ((V 22 (Int32.toNatClampNeg z96))).toInt ≠ 3 := b_neq rfl (by decide) c102
                    refine lv_iload hx hb dX12_checkNeed_146 (lv_at hl 0 rfl) ?_
                    refine gE_int (g_runS (As := [.int (V 22 (Int32.toNatClampNeg z96))]) (rest := []) (wc := []) (tc := []) hx hb hml hown hg gw_self hP hD hK hS hA hnw hgk [] [] (by decide) rfl rfl (s_longness l D ks H.size (V 22 (Int32.toNatClampNeg z96)) ) w2180 w2181 w172 w2182 hdS_yX12_longness ⟨Nat.le_of_ble_eq_true rfl, Nat.le_of_ble_eq_true rfl⟩ rfl hl.1 rfl (Nat.le_of_ble_eq_true rfl) dX12_checkNeed_148 ⟨Nat.le_of_ble_eq_true rfl, Nat.le_of_ble_eq_true rfl⟩) hP hD hK hS hA (fun z107 u108 H locs w109 hP hD hK hS => ?_)
                    refine lv_aload_n hx hb dX12_checkNeed_151 rfl (lv_at hl 7 rfl) ?_
                    refine va_get (D := D) (ci := 12) (v := .ref (ad 22)) (C := RX12) (T := TX12) (N := 100) hx hb hg inX12 hown hK hP 0 rfl rfl 22 (by decide) (hg _ w1728) (fun _ h9 => h9) rfl dX12_checkNeed_152 ?_
                    refine lv_bipush (v := 24) hx hb dX12_checkNeed_155 (by decide) ?_
                    refine lv_aload_n hx hb dX12_checkNeed_157 rfl (lv_at hl 7 rfl) ?_
                    refine va_get (D := D) (ci := 12) (v := .int (V25 0 11)) (C := RX12) (T := TX12) (N := 100) hx hb hg inX12 hown hK hP 0 rfl rfl 11 (by decide) (hg _ w1717) (fun _ h9 => h9) rfl dX12_checkNeed_158 ?_
                    refine g_top (v := (V 0 11)) ((up2_o hV25 (by decide)).trans (ajV13 0 11 rfl)) ?_
                    refine lv_imul hx hb dX12_checkNeed_161 ?_
                    refine lv_topi (fun z110 ez110 => ?_)
                    have hz110 : z110.toInt = 24 * ((V 0 11)).toInt := i_mul ez110 (by decide) rfl (by (first | exact om_3f8aba7b6ce1 r2.1 r2.2 | omega))
                    refine lv_iload_n hx hb dX12_checkNeed_162 rfl (lv_at hl 8 rfl) ?_
                    refine lv_iadd hx hb dX12_checkNeed_163 ?_
                    refine lv_topi (fun z111 ez111 => ?_)
                    have hz111 : z111.toInt = z110.toInt + p0.toInt := i_add ez111 rfl rfl (by (first | exact om_6c84dfc0d33f rg_p0.1 rg_p0.2 r2.1 r2.2 hz110 | omega))
                    refine va_iald (D := D) (i := z111) hx hb hK hP 15 14 rfl rfl (i_in (a := z111.toInt) rfl (by first | exact om_cf341bf82a51 rg_p0.1 rg_p0.2 r2.1 r2.2 hz110 hz111 | first | omega | ((try (have i_xJ15_0 := Imp.go xJ15_0 (by omega))); (try (have i_y1 := Imp.go y1 (by omega))); (try (have i_y1 := Imp.go y1 (by omega))); (try (have i_xJ15_0 := Imp.go xJ15_0 (by omega))); omega))) dX12_checkNeed_164 ?_
                    refine g_top (v := (V 22 (Int32.toNatClampNeg z111))) ((up2_o hV25 (by decide)).trans (ajV13 22 (Int32.toNatClampNeg z111) rfl)) ?_
                    refine gE_int (g_runS (As := [.int (V 22 (Int32.toNatClampNeg z111))]) (rest := [.int z107]) (wc := []) (tc := []) hx hb hml hown hg gw_self hP hD hK hS hA hnw hgk [] [] (by decide) rfl rfl (s_longness l D ks H.size (V 22 (Int32.toNatClampNeg z111)) ) w2180 w2181 w172 w2182 hdS_yX12_longness ⟨Nat.le_of_ble_eq_true rfl, Nat.le_of_ble_eq_true rfl⟩ rfl hl.1 rfl (Nat.le_of_ble_eq_true rfl) dX12_checkNeed_165 ⟨Nat.le_of_ble_eq_true rfl, Nat.le_of_ble_eq_true rfl⟩) hP hD hK hS hA (fun z112 u113 H locs w114 hP hD hK hS => ?_)
                    refine lv_icmp_ge (tgt := 175) hx hb dX12_checkNeed_168 (by decide) (fun c115 => ?_) (fun c115 => ?_)
                    · skip
                      have f116 : z112.toInt ≤ z107.toInt := b_le rfl rfl c115
                      refine lv_iconst (v := 0) hx hb dX12_checkNeed_175 (by decide) ?_
                      refine lv_istore (lv' := [(7, .int 0), (9, .int (V 22 (Int32.toNatClampNeg z96))), (8, .int y26), (6, .int y20), (5, .int y16), (4, .int z8), (3, .int z6), (0, .ref (ad 0)), (1, .int p0), (2, .int p1)]) hx hb dX12_checkNeed_176 hl (by decide) rfl (fun ls hl => ?_)
                      obtain ⟨z117, ez117⟩ : ∃ y : Int32, y = y26 + 1 := ⟨_, rfl⟩
                      have hz117 : z117.toInt = y26.toInt + 1 := i_add ez117 rfl (by decide) (by (first | exact om_ef5c713ba60b rgz8.2 klp28_0.1 f89 | omega))
                      refine lv_iinc (v := z117) (lv' := [(8, .int z117), (7, .int 0), (9, .int (V 22 (Int32.toNatClampNeg z96))), (6, .int y20), (5, .int y16), (4, .int z8), (3, .int z6), (0, .ref (ad 0)), (1, .int p0), (2, .int p1)]) hx hb dX12_checkNeed_178 hl (k := 2) rfl (by rw [ez117]; rfl) (by decide) rfl (fun ls hl => ?_)
                      refine lv_goto (tgt := 97) hx hb dX12_checkNeed_181 (by decide) ?_
                      have r118 : Int32.toInt 0 = 0 := by decide
                      exact ihlp28 z117 0 H locs ls (by first | exact om_66f93e1729e3 rgz8.2 klp28_0.1 f89 hz117 | first | omega | ((try (have i_xJ15_0 := Imp.go xJ15_0 (by omega))); (try (have i_y1 := Imp.go y1 (by omega))); (try (have i_y1 := Imp.go y1 (by omega))); (try (have i_xJ15_0 := Imp.go xJ15_0 (by omega))); omega)) (by decide) (show z117.toInt ≤ z8.toInt from by first | exact om_7fe9249fc074 f89 hz117 | first | omega | ((try (have i_xJ15_0 := Imp.go xJ15_0 (by omega))); (try (have i_y1 := Imp.go y1 (by omega))); (try (have i_y1 := Imp.go y1 (by omega))); (try (have i_xJ15_0 := Imp.go xJ15_0 (by omega))); omega)) (by first | exact om_9e7d2b874257 hn hz117 | first | omega | ((try (have i_xJ15_0 := Imp.go xJ15_0 (by omega))); (try (have i_y1 := Imp.go y1 (by omega))); (try (have i_y1 := Imp.go y1 (by omega))); (try (have i_xJ15_0 := Imp.go xJ15_0 (by omega))); omega)) hP hD hS (lv_sub hl [0, 1, 3, 4, 5, 6, 7, 8, 9] rfl)
                    · skip
                      have f119 : z107.toInt < z112.toInt := b_nle rfl rfl c115
                      refine lv_iconst (v := 1) hx hb dX12_checkNeed_171 (by decide) ?_
                      refine lv_goto (tgt := 176) hx hb dX12_checkNeed_172 (by decide) ?_
                      refine lv_istore (lv' := [(7, .int 1), (9, .int (V 22 (Int32.toNatClampNeg z96))), (8, .int y26), (6, .int y20), (5, .int y16), (4, .int z8), (3, .int z6), (0, .ref (ad 0)), (1, .int p0), (2, .int p1)]) hx hb dX12_checkNeed_176 hl (by decide) rfl (fun ls hl => ?_)
                      obtain ⟨z120, ez120⟩ : ∃ y : Int32, y = y26 + 1 := ⟨_, rfl⟩
                      have hz120 : z120.toInt = y26.toInt + 1 := i_add ez120 rfl (by decide) (by (first | exact om_ef5c713ba60b rgz8.2 klp28_0.1 f89 | omega))
                      refine lv_iinc (v := z120) (lv' := [(8, .int z120), (7, .int 1), (9, .int (V 22 (Int32.toNatClampNeg z96))), (6, .int y20), (5, .int y16), (4, .int z8), (3, .int z6), (0, .ref (ad 0)), (1, .int p0), (2, .int p1)]) hx hb dX12_checkNeed_178 hl (k := 2) rfl (by rw [ez120]; rfl) (by decide) rfl (fun ls hl => ?_)
                      refine lv_goto (tgt := 97) hx hb dX12_checkNeed_181 (by decide) ?_
                      have r121 : Int32.toInt 1 = 1 := by decide
                      exact ihlp28 z120 1 H locs ls (by first | exact om_66f93e1729e3 rgz8.2 klp28_0.1 f89 hz120 | first | omega | ((try (have i_xJ15_0 := Imp.go xJ15_0 (by omega))); (try (have i_y1 := Imp.go y1 (by omega))); (try (have i_y1 := Imp.go y1 (by omega))); (try (have i_xJ15_0 := Imp.go xJ15_0 (by omega))); omega)) (by decide) (show z120.toInt ≤ z8.toInt from by first | exact om_7fe9249fc074 f89 hz120 | first | omega | ((try (have i_xJ15_0 := Imp.go xJ15_0 (by omega))); (try (have i_y1 := Imp.go y1 (by omega))); (try (have i_y1 := Imp.go y1 (by omega))); (try (have i_xJ15_0 := Imp.go xJ15_0 (by omega))); omega)) (by first | exact om_9e7d2b874257 hn hz120 | first | omega | ((try (have i_xJ15_0 := Imp.go xJ15_0 (by omega))); (try (have i_y1 := Imp.go y1 (by omega))); (try (have i_y1 := Imp.go y1 (by omega))); (try (have i_xJ15_0 := Imp.go xJ15_0 (by omega))); omega)) hP hD hS (lv_sub hl [0, 1, 3, 4, 5, 6, 7, 8, 9] rfl)
        have r122 : Int32.toInt 0 = 0 := by decide
        exact lp28 ((z8.toInt - (Int32.toInt 0) + 1 : Int).toNat) 0 0 H locs ls (by decide) (by decide) (show (Int32.toInt 0) ≤ z8.toInt from by first | exact om_6f9bb8cf3bec rgz8.1 r122 | first | omega | ((try (have i_xJ15_0 := Imp.go xJ15_0 (by omega))); (try (have i_y1 := Imp.go y1 (by omega))); (try (have i_y1 := Imp.go y1 (by omega))); (try (have i_xJ15_0 := Imp.go xJ15_0 (by omega))); omega)) (by first | exact om_7441a7786481 | first | omega | ((try (have i_xJ15_0 := Imp.go xJ15_0 (by omega))); (try (have i_y1 := Imp.go y1 (by omega))); (try (have i_y1 := Imp.go y1 (by omega))); (try (have i_xJ15_0 := Imp.go xJ15_0 (by omega))); omega)) hP hD hS (lv_sub hl [0, 1, 2, 3, 4, 5, 6, 7, 8] rfl)
      refine lv_if_ne (tgt := 85) hx hb dX12_checkNeed_77 (by decide) (fun c123 => ?_) (fun c123 => ?_)
      · skip
        have f124 : y16.toInt ≠ 0 := b_neq rfl (by decide) c123
        refine lv_iconst (v := 1) hx hb dX12_checkNeed_85 (by decide) ?_
        refine lv_goto (tgt := 90) hx hb dX12_checkNeed_86 (by decide) ?_
        have r125 : Int32.toInt 1 = 1 := by decide
        exact J23 1 H locs ls (by decide) hP hD hS (lv_sub hl [0, 1, 2, 3, 4, 5, 6] rfl)
      · skip
        have f126 : y16.toInt = 0 := b_eq rfl (by decide) c123
        refine lv_iload hx hb dX12_checkNeed_80 (lv_at hl 0 rfl) ?_
        refine lv_if_eq (tgt := 89) hx hb dX12_checkNeed_82 (by decide) (fun c127 => ?_) (fun c127 => ?_)
        · skip
          have f128 : y20.toInt = 0 := b_eq rfl (by decide) c127
          refine lv_iconst (v := 0) hx hb dX12_checkNeed_89 (by decide) ?_
          have r129 : Int32.toInt 0 = 0 := by decide
          exact J23 0 H locs ls (by decide) hP hD hS (lv_sub hl [0, 1, 2, 3, 4, 5, 6] rfl)
        · skip
          have f130 : y20.toInt ≠ 0 := b_neq rfl (by decide) c127
          refine lv_iconst (v := 1) hx hb dX12_checkNeed_85 (by decide) ?_
          refine lv_goto (tgt := 90) hx hb dX12_checkNeed_86 (by decide) ?_
          have r131 : Int32.toInt 1 = 1 := by decide
          exact J23 1 H locs ls (by decide) hP hD hS (lv_sub hl [0, 1, 2, 3, 4, 5, 6] rfl)
    refine lv_icmp_le (tgt := 62) hx hb dX12_checkNeed_46 (by decide) (fun c132 => ?_) (fun c132 => ?_)
    · skip
      have f133 : z8.toInt ≤ 1 := b_le rfl (by decide) c132
      refine lv_iconst (v := 0) hx hb dX12_checkNeed_62 (by decide) ?_
      have r134 : Int32.toInt 0 = 0 := by decide
      exact J19 0 H locs ls (by decide) hP hD hS (lv_sub hl [0, 1, 2, 3, 4, 5] rfl)
    · skip
      have f135 : 1 < z8.toInt := b_nle rfl (by decide) c132
      refine lv_aload_n hx hb dX12_checkNeed_49 rfl (lv_at hl 3 rfl) ?_
      refine va_get (D := D) (ci := 12) (v := .ref (ad 30)) (C := RX12) (T := TX12) (N := 100) hx hb hg inX12 hown hK hP 0 rfl rfl 30 (by decide) (hg _ w1736) (fun _ h9 => h9) rfl dX12_checkNeed_50 ?_
      refine lv_iload_n hx hb dX12_checkNeed_53 rfl (lv_at hl 2 rfl) ?_
      refine va_zald (D := D) (i := z6) hx hb hK hP 23 22 rfl rfl (i_in (a := z6.toInt) rfl (by first | exact om_fbf295219f60 rg_p0.1 rg_p0.2 rg_p1.1 rg_p1.2 r2.1 r2.2 hz3 hz4 hz5 hz6 | first | omega | ((try (have i_xJ15_0 := Imp.go xJ15_0 (by omega))); (try (have i_y1 := Imp.go y1 (by omega))); (try (have i_y1 := Imp.go y1 (by omega))); (try (have i_xJ15_0 := Imp.go xJ15_0 (by omega))); omega))) dX12_checkNeed_54 ?_
      refine g_top (v := (V 30 (Int32.toNatClampNeg z6))) (ajV13 30 (Int32.toNatClampNeg z6) rfl) ?_
      refine lv_if_ne (tgt := 62) hx hb dX12_checkNeed_55 (by decide) (fun c136 => ?_) (fun c136 => ?_)
      · skip
        have f137 : ((V 30 (Int32.toNatClampNeg z6))).toInt ≠ 0 := b_neq rfl (by decide) c136
        refine lv_iconst (v := 0) hx hb dX12_checkNeed_62 (by decide) ?_
        have r138 : Int32.toInt 0 = 0 := by decide
        exact J19 0 H locs ls (by decide) hP hD hS (lv_sub hl [0, 1, 2, 3, 4, 5] rfl)
      · skip
        have f139 : ((V 30 (Int32.toNatClampNeg z6))).toInt = 0 := b_eq rfl (by decide) c136
        refine lv_iconst (v := 1) hx hb dX12_checkNeed_58 (by decide) ?_
        refine lv_goto (tgt := 63) hx hb dX12_checkNeed_59 (by decide) ?_
        have r140 : Int32.toInt 1 = 1 := by decide
        exact J19 1 H locs ls (by decide) hP hD hS (lv_sub hl [0, 1, 2, 3, 4, 5] rfl)
  refine lv_if_ne (tgt := 40) hx hb dX12_checkNeed_24 (by decide) (fun c141 => ?_) (fun c141 => ?_)
  · skip
    have f142 : z8.toInt ≠ 0 := b_neq rfl (by decide) c141
    refine lv_iconst (v := 0) hx hb dX12_checkNeed_40 (by decide) ?_
    have r143 : Int32.toInt 0 = 0 := by decide
    have pq144 : (V13 30 (Int32.toNatClampNeg z6)).toInt = ((V 30 (Int32.toNatClampNeg z6))).toInt := congrArg Int32.toInt (ajV13 30 (Int32.toNatClampNeg z6) rfl)
    have r145 : 0 ≤ ((V 30 (Int32.toNatClampNeg z6))).toInt ∧ ((V 30 (Int32.toNatClampNeg z6))).toInt ≤ 1 := hMV 30 (Int32.toNatClampNeg z6)
    exact J15 0 H locs ls (by decide) (Imp.mk (fun _ => (show 1 ≤ z8.toInt ∨ 1 ≤ (V13 30 (Int32.toNatClampNeg z6)).toInt from by first | omega | ((try (have i_y1 := Imp.go y1 (by omega))); omega)))) hP hD hS (lv_sub hl [0, 1, 2, 3, 4] rfl)
  · skip
    have f146 : z8.toInt = 0 := b_eq rfl (by decide) c141
    refine lv_aload_n hx hb dX12_checkNeed_27 rfl (lv_at hl 2 rfl) ?_
    refine va_get (D := D) (ci := 12) (v := .ref (ad 30)) (C := RX12) (T := TX12) (N := 100) hx hb hg inX12 hown hK hP 0 rfl rfl 30 (by decide) (hg _ w1736) (fun _ h9 => h9) rfl dX12_checkNeed_28 ?_
    refine lv_iload_n hx hb dX12_checkNeed_31 rfl (lv_at hl 1 rfl) ?_
    refine va_zald (D := D) (i := z6) hx hb hK hP 23 22 rfl rfl (i_in (a := z6.toInt) rfl (by first | exact om_fbf295219f60 rg_p0.1 rg_p0.2 rg_p1.1 rg_p1.2 r2.1 r2.2 hz3 hz4 hz5 hz6 | first | omega | ((try (have i_y1 := Imp.go y1 (by omega))); omega))) dX12_checkNeed_32 ?_
    refine g_top (v := (V 30 (Int32.toNatClampNeg z6))) (ajV13 30 (Int32.toNatClampNeg z6) rfl) ?_
    have r147 : 0 ≤ ((V 30 (Int32.toNatClampNeg z6))).toInt ∧ ((V 30 (Int32.toNatClampNeg z6))).toInt ≤ 1 := hMV 30 (Int32.toNatClampNeg z6)
    refine lv_if_ne (tgt := 40) hx hb dX12_checkNeed_33 (by decide) (fun c148 => ?_) (fun c148 => ?_)
    · skip
      have f149 : ((V 30 (Int32.toNatClampNeg z6))).toInt ≠ 0 := b_neq rfl (by decide) c148
      refine lv_iconst (v := 0) hx hb dX12_checkNeed_40 (by decide) ?_
      have r150 : Int32.toInt 0 = 0 := by decide
      have pq151 : (V13 30 (Int32.toNatClampNeg z6)).toInt = ((V 30 (Int32.toNatClampNeg z6))).toInt := congrArg Int32.toInt (ajV13 30 (Int32.toNatClampNeg z6) rfl)
      exact J15 0 H locs ls (by decide) (Imp.mk (fun _ => (show 1 ≤ z8.toInt ∨ 1 ≤ (V13 30 (Int32.toNatClampNeg z6)).toInt from by first | omega | ((try (have i_y1 := Imp.go y1 (by omega))); omega)))) hP hD hS (lv_sub hl [0, 1, 2, 3, 4] rfl)
    · skip
      have f152 : ((V 30 (Int32.toNatClampNeg z6))).toInt = 0 := b_eq rfl (by decide) c148
      refine lv_iconst (v := 1) hx hb dX12_checkNeed_36 (by decide) ?_
      refine lv_goto (tgt := 41) hx hb dX12_checkNeed_37 (by decide) ?_
      have r153 : Int32.toInt 1 = 1 := by decide
      have pq154 : (V13 30 (Int32.toNatClampNeg z6)).toInt = ((V 30 (Int32.toNatClampNeg z6))).toInt := congrArg Int32.toInt (ajV13 30 (Int32.toNatClampNeg z6) rfl)
      exact J15 1 H locs ls (by decide) (Imp.mk (fun hp => absurd hp (by decide))) hP hD hS (lv_sub hl [0, 1, 2, 3, 4] rfl)
end
section
theorem w1793 : Cond.fieldLink RX12 216 "WiringHouseModel" "visit" "[I" ∈ GW := gw_k tk9_7 198 (by decide +kernel) rfl
theorem w2194 : Cond.code yX12_isCandidate cX12_isCandidate 6 (some .boolean) ∈ GW := gw_k tk9_9 119 (rfl) rfl
theorem w2191 : Cond.methodLink RX12 465 yX12_isCandidate ∈ GW := gw_k tk9_9 116 (by decide +kernel) rfl
theorem w2193 : Cond.instanceMethod yX12_isCandidate ∈ GW := gw_k tk9_9 118 (by decide +kernel) rfl
theorem w123 : Cond.selects RX12 yX12_isCandidate yX12_isCandidate ∈ GW := gw_mem 123 (by decide +kernel) rfl
theorem hdV_yX12_isCandidate : yX12_isCandidate.cls = RX12 ∧ yX12_isCandidate.cls ≠ "java/lang/invoke/MethodHandle" ∧ yX12_isCandidate.cls ≠ "java/lang/invoke/VarHandle" ∧ (parseMethodDescriptor yX12_isCandidate.desc).map (fun d => d.parameters.length) = some 2 := by decide +kernel
theorem w2190 : Cond.code yX12_visits cX12_visits 5 none ∈ GW := gw_k tk9_9 115 (rfl) rfl
theorem w2187 : Cond.methodLink RX12 452 yX12_visits ∈ GW := gw_k tk9_9 112 (by decide +kernel) rfl
theorem w2189 : Cond.instanceMethod yX12_visits ∈ GW := gw_k tk9_9 114 (by decide +kernel) rfl
theorem w122 : Cond.selects RX12 yX12_visits yX12_visits ∈ GW := gw_mem 122 (by decide +kernel) rfl
theorem hdV_yX12_visits : yX12_visits.cls = RX12 ∧ yX12_visits.cls ≠ "java/lang/invoke/MethodHandle" ∧ yX12_visits.cls ≠ "java/lang/invoke/VarHandle" ∧ (parseMethodDescriptor yX12_visits.desc).map (fun d => d.parameters.length) = some 1 := by decide +kernel
theorem w2198 : Cond.code yX12_addCycle cX12_addCycle 4 none ∈ GW := gw_k tk9_9 123 (rfl) rfl
theorem w2195 : Cond.methodLink RX12 468 yX12_addCycle ∈ GW := gw_k tk9_9 120 (by decide +kernel) rfl
theorem w2197 : Cond.instanceMethod yX12_addCycle ∈ GW := gw_k tk9_9 122 (by decide +kernel) rfl
theorem w124 : Cond.selects RX12 yX12_addCycle yX12_addCycle ∈ GW := gw_mem 124 (by decide +kernel) rfl
theorem hdV_yX12_addCycle : yX12_addCycle.cls = RX12 ∧ yX12_addCycle.cls ≠ "java/lang/invoke/MethodHandle" ∧ yX12_addCycle.cls ≠ "java/lang/invoke/VarHandle" ∧ (parseMethodDescriptor yX12_addCycle.desc).map (fun d => d.parameters.length) = some 1 := by decide +kernel
theorem dk9_dX12_visits_0_0 : dOk cX12_visits [(0, .aload_n 0, 1), (1, .getfield 216, 3), (4, .iload_n 1, 1), (5, .iconst 1, 1), (6, .iastore, 1), (7, .aload_n 0, 1), (8, .getfield 219, 3), (11, .aload_n 0, 1), (12, .getfield 449, 3), (15, .iload_n 1, 1), (16, .iastore, 1), (17, .aload_n 0, 1), (18, .dup, 1), (19, .getfield 449, 3), (22, .iconst 1, 1), (23, .iadd, 1), (24, .putfield 449, 3), (27, .iconst 0, 1), (28, .istore_n 2, 1), (29, .iload_n 2, 1), (30, .aload_n 0, 1), (31, .getfield 86, 3), (34, .bipush 24, 2), (36, .aload_n 0, 1)] = true ∧ dOk cX12_visits [(37, .getfield 286, 3), (40, .imul, 1), (41, .iload_n 1, 1), (42, .iadd, 1), (43, .iaload, 1), (44, .if_icmp .ge 122, 3), (166, .aload_n 0, 1), (167, .dup, 1), (168, .getfield 449, 3), (171, .iconst 1, 1), (172, .isub, 1), (173, .putfield 449, 3), (176, .aload_n 0, 1), (177, .getfield 216, 3), (180, .iload_n 1, 1), (181, .iconst 2, 1), (182, .iastore, 1), (183, .return_, 1), (47, .bipush 8, 2), (49, .bipush 24, 2), (51, .aload_n 0, 1), (52, .getfield 286, 3), (55, .imul, 1), (56, .iload_n 1, 1)] = true ∧ dOk cX12_visits [(57, .iadd, 1), (58, .imul, 1), (59, .iload_n 2, 1), (60, .iadd, 1), (61, .istore_n 3, 1), (62, .aload_n 0, 1), (63, .getfield 92, 3), (66, .iload_n 3, 1), (67, .baload, 1), (68, .ifCond .ne 92, 3), (160, .iinc 2 1, 3), (163, .goto (-134), 3), (71, .aload_n 0, 1), (72, .getfield 213, 3), (75, .bipush 8, 2), (77, .iload_n 1, 1), (78, .imul, 1), (79, .iload_n 2, 1), (80, .iadd, 1), (81, .baload, 1), (82, .ifCond .eq 6, 3), (88, .iconst 0, 1), (89, .istore 4, 2), (91, .iload 4, 2)] = true ∧ dOk cX12_visits [(93, .aload_n 0, 1), (94, .getfield 62, 3), (97, .aload_n 0, 1), (98, .getfield 286, 3), (101, .iaload, 1), (102, .if_icmp .ge 58, 3), (105, .aload_n 0, 1), (106, .iload_n 3, 1), (107, .iload 4, 2), (109, .invokevirtual 465, 3), (112, .ifCond .ne 6, 3), (118, .aload_n 0, 1), (119, .getfield 216, 3), (122, .iload 4, 2), (124, .iaload, 1), (125, .iconst 1, 1), (126, .if_icmp .ne 12, 3), (138, .aload_n 0, 1), (139, .getfield 216, 3), (142, .iload 4, 2), (144, .iaload, 1), (145, .ifCond .ne 9, 3), (154, .iinc 4 1, 3), (157, .goto (-66), 3)] = true ∧ dOk cX12_visits [(148, .aload_n 0, 1), (149, .iload 4, 2), (151, .invokevirtual 452, 3), (129, .aload_n 0, 1), (130, .iload 4, 2), (132, .invokevirtual 468, 3), (135, .goto 19, 3), (115, .goto 39, 3), (85, .goto 75, 3)] = true := by decide +kernel
theorem dX12_visits_0 : decode cX12_visits 0 = .ok (.aload_n 0, 1) := dr9 dk9_dX12_visits_0_0.1 0 (0, .aload_n 0, 1) rfl
theorem dX12_visits_1 : decode cX12_visits 1 = .ok (.getfield 216, 3) := dr9 dk9_dX12_visits_0_0.1 1 (1, .getfield 216, 3) rfl
theorem dX12_visits_4 : decode cX12_visits 4 = .ok (.iload_n 1, 1) := dr9 dk9_dX12_visits_0_0.1 2 (4, .iload_n 1, 1) rfl
theorem dX12_visits_5 : decode cX12_visits 5 = .ok (.iconst 1, 1) := dr9 dk9_dX12_visits_0_0.1 3 (5, .iconst 1, 1) rfl
theorem dX12_visits_6 : decode cX12_visits 6 = .ok (.iastore, 1) := dr9 dk9_dX12_visits_0_0.1 4 (6, .iastore, 1) rfl
theorem dX12_visits_7 : decode cX12_visits 7 = .ok (.aload_n 0, 1) := dr9 dk9_dX12_visits_0_0.1 5 (7, .aload_n 0, 1) rfl
theorem dX12_visits_8 : decode cX12_visits 8 = .ok (.getfield 219, 3) := dr9 dk9_dX12_visits_0_0.1 6 (8, .getfield 219, 3) rfl
theorem dX12_visits_11 : decode cX12_visits 11 = .ok (.aload_n 0, 1) := dr9 dk9_dX12_visits_0_0.1 7 (11, .aload_n 0, 1) rfl
theorem dX12_visits_12 : decode cX12_visits 12 = .ok (.getfield 449, 3) := dr9 dk9_dX12_visits_0_0.1 8 (12, .getfield 449, 3) rfl
theorem dX12_visits_15 : decode cX12_visits 15 = .ok (.iload_n 1, 1) := dr9 dk9_dX12_visits_0_0.1 9 (15, .iload_n 1, 1) rfl
theorem dX12_visits_16 : decode cX12_visits 16 = .ok (.iastore, 1) := dr9 dk9_dX12_visits_0_0.1 10 (16, .iastore, 1) rfl
theorem dX12_visits_17 : decode cX12_visits 17 = .ok (.aload_n 0, 1) := dr9 dk9_dX12_visits_0_0.1 11 (17, .aload_n 0, 1) rfl
theorem dX12_visits_18 : decode cX12_visits 18 = .ok (.dup, 1) := dr9 dk9_dX12_visits_0_0.1 12 (18, .dup, 1) rfl
theorem dX12_visits_19 : decode cX12_visits 19 = .ok (.getfield 449, 3) := dr9 dk9_dX12_visits_0_0.1 13 (19, .getfield 449, 3) rfl
theorem dX12_visits_22 : decode cX12_visits 22 = .ok (.iconst 1, 1) := dr9 dk9_dX12_visits_0_0.1 14 (22, .iconst 1, 1) rfl
theorem dX12_visits_23 : decode cX12_visits 23 = .ok (.iadd, 1) := dr9 dk9_dX12_visits_0_0.1 15 (23, .iadd, 1) rfl
theorem dX12_visits_24 : decode cX12_visits 24 = .ok (.putfield 449, 3) := dr9 dk9_dX12_visits_0_0.1 16 (24, .putfield 449, 3) rfl
theorem dX12_visits_27 : decode cX12_visits 27 = .ok (.iconst 0, 1) := dr9 dk9_dX12_visits_0_0.1 17 (27, .iconst 0, 1) rfl
theorem dX12_visits_28 : decode cX12_visits 28 = .ok (.istore_n 2, 1) := dr9 dk9_dX12_visits_0_0.1 18 (28, .istore_n 2, 1) rfl
theorem dX12_visits_29 : decode cX12_visits 29 = .ok (.iload_n 2, 1) := dr9 dk9_dX12_visits_0_0.1 19 (29, .iload_n 2, 1) rfl
theorem dX12_visits_30 : decode cX12_visits 30 = .ok (.aload_n 0, 1) := dr9 dk9_dX12_visits_0_0.1 20 (30, .aload_n 0, 1) rfl
theorem dX12_visits_31 : decode cX12_visits 31 = .ok (.getfield 86, 3) := dr9 dk9_dX12_visits_0_0.1 21 (31, .getfield 86, 3) rfl
theorem dX12_visits_34 : decode cX12_visits 34 = .ok (.bipush 24, 2) := dr9 dk9_dX12_visits_0_0.1 22 (34, .bipush 24, 2) rfl
theorem dX12_visits_36 : decode cX12_visits 36 = .ok (.aload_n 0, 1) := dr9 dk9_dX12_visits_0_0.1 23 (36, .aload_n 0, 1) rfl
theorem dX12_visits_37 : decode cX12_visits 37 = .ok (.getfield 286, 3) := dr9 dk9_dX12_visits_0_0.2.1 0 (37, .getfield 286, 3) rfl
theorem dX12_visits_40 : decode cX12_visits 40 = .ok (.imul, 1) := dr9 dk9_dX12_visits_0_0.2.1 1 (40, .imul, 1) rfl
theorem dX12_visits_41 : decode cX12_visits 41 = .ok (.iload_n 1, 1) := dr9 dk9_dX12_visits_0_0.2.1 2 (41, .iload_n 1, 1) rfl
theorem dX12_visits_42 : decode cX12_visits 42 = .ok (.iadd, 1) := dr9 dk9_dX12_visits_0_0.2.1 3 (42, .iadd, 1) rfl
theorem dX12_visits_43 : decode cX12_visits 43 = .ok (.iaload, 1) := dr9 dk9_dX12_visits_0_0.2.1 4 (43, .iaload, 1) rfl
theorem dX12_visits_44 : decode cX12_visits 44 = .ok (.if_icmp .ge 122, 3) := dr9 dk9_dX12_visits_0_0.2.1 5 (44, .if_icmp .ge 122, 3) rfl
theorem dX12_visits_166 : decode cX12_visits 166 = .ok (.aload_n 0, 1) := dr9 dk9_dX12_visits_0_0.2.1 6 (166, .aload_n 0, 1) rfl
theorem dX12_visits_167 : decode cX12_visits 167 = .ok (.dup, 1) := dr9 dk9_dX12_visits_0_0.2.1 7 (167, .dup, 1) rfl
theorem dX12_visits_168 : decode cX12_visits 168 = .ok (.getfield 449, 3) := dr9 dk9_dX12_visits_0_0.2.1 8 (168, .getfield 449, 3) rfl
theorem dX12_visits_171 : decode cX12_visits 171 = .ok (.iconst 1, 1) := dr9 dk9_dX12_visits_0_0.2.1 9 (171, .iconst 1, 1) rfl
theorem dX12_visits_172 : decode cX12_visits 172 = .ok (.isub, 1) := dr9 dk9_dX12_visits_0_0.2.1 10 (172, .isub, 1) rfl
theorem dX12_visits_173 : decode cX12_visits 173 = .ok (.putfield 449, 3) := dr9 dk9_dX12_visits_0_0.2.1 11 (173, .putfield 449, 3) rfl
theorem dX12_visits_176 : decode cX12_visits 176 = .ok (.aload_n 0, 1) := dr9 dk9_dX12_visits_0_0.2.1 12 (176, .aload_n 0, 1) rfl
theorem dX12_visits_177 : decode cX12_visits 177 = .ok (.getfield 216, 3) := dr9 dk9_dX12_visits_0_0.2.1 13 (177, .getfield 216, 3) rfl
theorem dX12_visits_180 : decode cX12_visits 180 = .ok (.iload_n 1, 1) := dr9 dk9_dX12_visits_0_0.2.1 14 (180, .iload_n 1, 1) rfl
theorem dX12_visits_181 : decode cX12_visits 181 = .ok (.iconst 2, 1) := dr9 dk9_dX12_visits_0_0.2.1 15 (181, .iconst 2, 1) rfl
theorem dX12_visits_182 : decode cX12_visits 182 = .ok (.iastore, 1) := dr9 dk9_dX12_visits_0_0.2.1 16 (182, .iastore, 1) rfl
theorem dX12_visits_183 : decode cX12_visits 183 = .ok (.return_, 1) := dr9 dk9_dX12_visits_0_0.2.1 17 (183, .return_, 1) rfl
theorem dX12_visits_47 : decode cX12_visits 47 = .ok (.bipush 8, 2) := dr9 dk9_dX12_visits_0_0.2.1 18 (47, .bipush 8, 2) rfl
theorem dX12_visits_49 : decode cX12_visits 49 = .ok (.bipush 24, 2) := dr9 dk9_dX12_visits_0_0.2.1 19 (49, .bipush 24, 2) rfl
theorem dX12_visits_51 : decode cX12_visits 51 = .ok (.aload_n 0, 1) := dr9 dk9_dX12_visits_0_0.2.1 20 (51, .aload_n 0, 1) rfl
theorem dX12_visits_52 : decode cX12_visits 52 = .ok (.getfield 286, 3) := dr9 dk9_dX12_visits_0_0.2.1 21 (52, .getfield 286, 3) rfl
theorem dX12_visits_55 : decode cX12_visits 55 = .ok (.imul, 1) := dr9 dk9_dX12_visits_0_0.2.1 22 (55, .imul, 1) rfl
theorem dX12_visits_56 : decode cX12_visits 56 = .ok (.iload_n 1, 1) := dr9 dk9_dX12_visits_0_0.2.1 23 (56, .iload_n 1, 1) rfl
theorem dX12_visits_57 : decode cX12_visits 57 = .ok (.iadd, 1) := dr9 dk9_dX12_visits_0_0.2.2.1 0 (57, .iadd, 1) rfl
theorem dX12_visits_58 : decode cX12_visits 58 = .ok (.imul, 1) := dr9 dk9_dX12_visits_0_0.2.2.1 1 (58, .imul, 1) rfl
theorem dX12_visits_59 : decode cX12_visits 59 = .ok (.iload_n 2, 1) := dr9 dk9_dX12_visits_0_0.2.2.1 2 (59, .iload_n 2, 1) rfl
theorem dX12_visits_60 : decode cX12_visits 60 = .ok (.iadd, 1) := dr9 dk9_dX12_visits_0_0.2.2.1 3 (60, .iadd, 1) rfl
theorem dX12_visits_61 : decode cX12_visits 61 = .ok (.istore_n 3, 1) := dr9 dk9_dX12_visits_0_0.2.2.1 4 (61, .istore_n 3, 1) rfl
theorem dX12_visits_62 : decode cX12_visits 62 = .ok (.aload_n 0, 1) := dr9 dk9_dX12_visits_0_0.2.2.1 5 (62, .aload_n 0, 1) rfl
theorem dX12_visits_63 : decode cX12_visits 63 = .ok (.getfield 92, 3) := dr9 dk9_dX12_visits_0_0.2.2.1 6 (63, .getfield 92, 3) rfl
theorem dX12_visits_66 : decode cX12_visits 66 = .ok (.iload_n 3, 1) := dr9 dk9_dX12_visits_0_0.2.2.1 7 (66, .iload_n 3, 1) rfl
theorem dX12_visits_67 : decode cX12_visits 67 = .ok (.baload, 1) := dr9 dk9_dX12_visits_0_0.2.2.1 8 (67, .baload, 1) rfl
theorem dX12_visits_68 : decode cX12_visits 68 = .ok (.ifCond .ne 92, 3) := dr9 dk9_dX12_visits_0_0.2.2.1 9 (68, .ifCond .ne 92, 3) rfl
theorem dX12_visits_160 : decode cX12_visits 160 = .ok (.iinc 2 1, 3) := dr9 dk9_dX12_visits_0_0.2.2.1 10 (160, .iinc 2 1, 3) rfl
theorem dX12_visits_163 : decode cX12_visits 163 = .ok (.goto (-134), 3) := dr9 dk9_dX12_visits_0_0.2.2.1 11 (163, .goto (-134), 3) rfl
theorem dX12_visits_71 : decode cX12_visits 71 = .ok (.aload_n 0, 1) := dr9 dk9_dX12_visits_0_0.2.2.1 12 (71, .aload_n 0, 1) rfl
theorem dX12_visits_72 : decode cX12_visits 72 = .ok (.getfield 213, 3) := dr9 dk9_dX12_visits_0_0.2.2.1 13 (72, .getfield 213, 3) rfl
theorem dX12_visits_75 : decode cX12_visits 75 = .ok (.bipush 8, 2) := dr9 dk9_dX12_visits_0_0.2.2.1 14 (75, .bipush 8, 2) rfl
theorem dX12_visits_77 : decode cX12_visits 77 = .ok (.iload_n 1, 1) := dr9 dk9_dX12_visits_0_0.2.2.1 15 (77, .iload_n 1, 1) rfl
theorem dX12_visits_78 : decode cX12_visits 78 = .ok (.imul, 1) := dr9 dk9_dX12_visits_0_0.2.2.1 16 (78, .imul, 1) rfl
theorem dX12_visits_79 : decode cX12_visits 79 = .ok (.iload_n 2, 1) := dr9 dk9_dX12_visits_0_0.2.2.1 17 (79, .iload_n 2, 1) rfl
theorem dX12_visits_80 : decode cX12_visits 80 = .ok (.iadd, 1) := dr9 dk9_dX12_visits_0_0.2.2.1 18 (80, .iadd, 1) rfl
theorem dX12_visits_81 : decode cX12_visits 81 = .ok (.baload, 1) := dr9 dk9_dX12_visits_0_0.2.2.1 19 (81, .baload, 1) rfl
theorem dX12_visits_82 : decode cX12_visits 82 = .ok (.ifCond .eq 6, 3) := dr9 dk9_dX12_visits_0_0.2.2.1 20 (82, .ifCond .eq 6, 3) rfl
theorem dX12_visits_88 : decode cX12_visits 88 = .ok (.iconst 0, 1) := dr9 dk9_dX12_visits_0_0.2.2.1 21 (88, .iconst 0, 1) rfl
theorem dX12_visits_89 : decode cX12_visits 89 = .ok (.istore 4, 2) := dr9 dk9_dX12_visits_0_0.2.2.1 22 (89, .istore 4, 2) rfl
theorem dX12_visits_91 : decode cX12_visits 91 = .ok (.iload 4, 2) := dr9 dk9_dX12_visits_0_0.2.2.1 23 (91, .iload 4, 2) rfl
theorem dX12_visits_93 : decode cX12_visits 93 = .ok (.aload_n 0, 1) := dr9 dk9_dX12_visits_0_0.2.2.2.1 0 (93, .aload_n 0, 1) rfl
theorem dX12_visits_94 : decode cX12_visits 94 = .ok (.getfield 62, 3) := dr9 dk9_dX12_visits_0_0.2.2.2.1 1 (94, .getfield 62, 3) rfl
theorem dX12_visits_97 : decode cX12_visits 97 = .ok (.aload_n 0, 1) := dr9 dk9_dX12_visits_0_0.2.2.2.1 2 (97, .aload_n 0, 1) rfl
theorem dX12_visits_98 : decode cX12_visits 98 = .ok (.getfield 286, 3) := dr9 dk9_dX12_visits_0_0.2.2.2.1 3 (98, .getfield 286, 3) rfl
theorem dX12_visits_101 : decode cX12_visits 101 = .ok (.iaload, 1) := dr9 dk9_dX12_visits_0_0.2.2.2.1 4 (101, .iaload, 1) rfl
theorem dX12_visits_102 : decode cX12_visits 102 = .ok (.if_icmp .ge 58, 3) := dr9 dk9_dX12_visits_0_0.2.2.2.1 5 (102, .if_icmp .ge 58, 3) rfl
theorem dX12_visits_105 : decode cX12_visits 105 = .ok (.aload_n 0, 1) := dr9 dk9_dX12_visits_0_0.2.2.2.1 6 (105, .aload_n 0, 1) rfl
theorem dX12_visits_106 : decode cX12_visits 106 = .ok (.iload_n 3, 1) := dr9 dk9_dX12_visits_0_0.2.2.2.1 7 (106, .iload_n 3, 1) rfl
theorem dX12_visits_107 : decode cX12_visits 107 = .ok (.iload 4, 2) := dr9 dk9_dX12_visits_0_0.2.2.2.1 8 (107, .iload 4, 2) rfl
theorem dX12_visits_109 : decode cX12_visits 109 = .ok (.invokevirtual 465, 3) := dr9 dk9_dX12_visits_0_0.2.2.2.1 9 (109, .invokevirtual 465, 3) rfl
theorem dX12_visits_112 : decode cX12_visits 112 = .ok (.ifCond .ne 6, 3) := dr9 dk9_dX12_visits_0_0.2.2.2.1 10 (112, .ifCond .ne 6, 3) rfl
theorem dX12_visits_118 : decode cX12_visits 118 = .ok (.aload_n 0, 1) := dr9 dk9_dX12_visits_0_0.2.2.2.1 11 (118, .aload_n 0, 1) rfl
theorem dX12_visits_119 : decode cX12_visits 119 = .ok (.getfield 216, 3) := dr9 dk9_dX12_visits_0_0.2.2.2.1 12 (119, .getfield 216, 3) rfl
theorem dX12_visits_122 : decode cX12_visits 122 = .ok (.iload 4, 2) := dr9 dk9_dX12_visits_0_0.2.2.2.1 13 (122, .iload 4, 2) rfl
theorem dX12_visits_124 : decode cX12_visits 124 = .ok (.iaload, 1) := dr9 dk9_dX12_visits_0_0.2.2.2.1 14 (124, .iaload, 1) rfl
theorem dX12_visits_125 : decode cX12_visits 125 = .ok (.iconst 1, 1) := dr9 dk9_dX12_visits_0_0.2.2.2.1 15 (125, .iconst 1, 1) rfl
theorem dX12_visits_126 : decode cX12_visits 126 = .ok (.if_icmp .ne 12, 3) := dr9 dk9_dX12_visits_0_0.2.2.2.1 16 (126, .if_icmp .ne 12, 3) rfl
theorem dX12_visits_138 : decode cX12_visits 138 = .ok (.aload_n 0, 1) := dr9 dk9_dX12_visits_0_0.2.2.2.1 17 (138, .aload_n 0, 1) rfl
theorem dX12_visits_139 : decode cX12_visits 139 = .ok (.getfield 216, 3) := dr9 dk9_dX12_visits_0_0.2.2.2.1 18 (139, .getfield 216, 3) rfl
theorem dX12_visits_142 : decode cX12_visits 142 = .ok (.iload 4, 2) := dr9 dk9_dX12_visits_0_0.2.2.2.1 19 (142, .iload 4, 2) rfl
theorem dX12_visits_144 : decode cX12_visits 144 = .ok (.iaload, 1) := dr9 dk9_dX12_visits_0_0.2.2.2.1 20 (144, .iaload, 1) rfl
theorem dX12_visits_145 : decode cX12_visits 145 = .ok (.ifCond .ne 9, 3) := dr9 dk9_dX12_visits_0_0.2.2.2.1 21 (145, .ifCond .ne 9, 3) rfl
theorem dX12_visits_154 : decode cX12_visits 154 = .ok (.iinc 4 1, 3) := dr9 dk9_dX12_visits_0_0.2.2.2.1 22 (154, .iinc 4 1, 3) rfl
theorem dX12_visits_157 : decode cX12_visits 157 = .ok (.goto (-66), 3) := dr9 dk9_dX12_visits_0_0.2.2.2.1 23 (157, .goto (-66), 3) rfl
theorem dX12_visits_148 : decode cX12_visits 148 = .ok (.aload_n 0, 1) := dr9 dk9_dX12_visits_0_0.2.2.2.2 0 (148, .aload_n 0, 1) rfl
theorem dX12_visits_149 : decode cX12_visits 149 = .ok (.iload 4, 2) := dr9 dk9_dX12_visits_0_0.2.2.2.2 1 (149, .iload 4, 2) rfl
theorem dX12_visits_151 : decode cX12_visits 151 = .ok (.invokevirtual 452, 3) := dr9 dk9_dX12_visits_0_0.2.2.2.2 2 (151, .invokevirtual 452, 3) rfl
theorem dX12_visits_129 : decode cX12_visits 129 = .ok (.aload_n 0, 1) := dr9 dk9_dX12_visits_0_0.2.2.2.2 3 (129, .aload_n 0, 1) rfl
theorem dX12_visits_130 : decode cX12_visits 130 = .ok (.iload 4, 2) := dr9 dk9_dX12_visits_0_0.2.2.2.2 4 (130, .iload 4, 2) rfl
theorem dX12_visits_132 : decode cX12_visits 132 = .ok (.invokevirtual 468, 3) := dr9 dk9_dX12_visits_0_0.2.2.2.2 5 (132, .invokevirtual 468, 3) rfl
theorem dX12_visits_135 : decode cX12_visits 135 = .ok (.goto 19, 3) := dr9 dk9_dX12_visits_0_0.2.2.2.2 6 (135, .goto 19, 3) rfl
theorem dX12_visits_115 : decode cX12_visits 115 = .ok (.goto 39, 3) := dr9 dk9_dX12_visits_0_0.2.2.2.2 7 (115, .goto 39, 3) rfl
theorem dX12_visits_85 : decode cX12_visits 85 = .ok (.goto 75, 3) := dr9 dk9_dX12_visits_0_0.2.2.2.2 8 (85, .goto 75, 3) rfl
abbrev q_s_visits (D : va_G) (ks : KS) (ad : Nat → Nat) (kk : Nat → ClassId) (V : Vf) (L : Lf) (p0 : Int32) (FM : Int) (A : Nat → Prop) : Array Value → State → Outcome → State → Prop := va_Qv (fun (u : Vf × Lf) => rgd bM u.1 ∧ agr [(0, 81), (0, 89)] [80, 82, 83, 84, 85, 87, 88] V u.1 ∧ u.2 = L ∧ ((u.1 0 89).toInt = (V 0 89).toInt) ∧ ((cz u.1 24 : Int) + 1 ≤ (cz V 24 : Int)) ∧ ((u.1 0 81).toInt + 192 * (cz u.1 24 : Int) ≤ FM) ∧ ((V 0 81).toInt ≤ (u.1 0 81).toInt) ∧ (visP V u.1) ∧ (c0k V u.1)) (fun u t => gq D A (mw ad kk ks.1 u.1 u.2) (mty kk) t) A
def K_s_visits (l : Launch) (D : va_G) (ks : KS) (dd : Nat) : Prop := ∀ (sz : Nat) (ad : Nat → Nat) (kk : Nat → ClassId) (V : Vf) (L : Lf) (p0 : Int32) (FM : Int) (hMV : rgd bM V) (rg_p0 : 0 ≤ p0.toInt ∧ p0.toInt ≤ 23) (v1 : (cz V 24 : Int) ≤ (dd : Int)) (v2 : (V 0 89).toInt + (cz V 24 : Int) ≤ 24) (v3 : (V 87 (Int32.toNatClampNeg p0)).toInt = 0) (v4 : WY V) (v5 : (V 0 81).toInt + 192 * (cz V 24 : Int) ≤ FM) (v7 : FM ≤ 999000) (v6 : p0.toInt < (V 19 (nwh V)).toInt) (tb : TB V) , Met l yX12_visits (Cond.code yX12_visits cX12_visits 5 none :: GW) (rK 8 260 dd) (va_Pc [.ref (ad 0), .int p0] (gp D ks (mw ad kk ks.1 V L) (mty kk) sz)) (q_s_visits D ks ad kk V L p0 FM (va_A (mw ad kk ks.1 V L) sz)) 0 0 (va_A (mw ad kk ks.1 V L) sz)
set_option maxHeartbeats 4000000 in
set_option maxRecDepth 100000 in
theorem s_visits {l : Launch} {D : va_G} {ks : KS} {dd : Nat} (hk_s_visits : ∀ d9, dd = d9 + 1 → K_s_visits l D ks d9) : K_s_visits l D ks dd := by
  intro sz ad kk V L p0 FM hMV rg_p0 v1 v2 v3 v4 v5 v7 v6 tb
  refine g_met (q_s_visits D ks ad kk V L p0 FM) (by decide) (Nat.le_of_ble_eq_true rfl) ?_
  intro p e s m below meth c A ls H locs hx hb hr hml hown hg hlocks hin hnw hgk hP hK hD hS hA hl
  have hown : s.vm.findClass RX12 = some m.cls := hown
  have hl : lv_has ls 5 [(0, .ref (ad 0)), (1, .int p0)] := hl
  have hP : va_P D vwCl (mw ad kk ks.1 V L) H := hP
  have hD : va_D A (mw ad kk ks.1 V L) := hD
  have hK : va_K D vwCl (mty kk) s := hK
  have agV : agr [(0, 81), (0, 89)] [80, 82, 83, 84, 85, 87, 88] V V := agr.rf
  have r1 : 0 ≤ ((V 0 89)).toInt ∧ ((V 0 89)).toInt ≤ 24 := hMV 0 89
  have r2 : 0 ≤ ((V 87 (Int32.toNatClampNeg p0))).toInt ∧ ((V 87 (Int32.toNatClampNeg p0))).toInt ≤ 2 := hMV 87 (Int32.toNatClampNeg p0)
  have r3 : 0 ≤ ((V 0 81)).toInt ∧ ((V 0 81)).toInt ≤ 1000000 := hMV 0 81
  have v6b : p0.toInt < (V 19 (Int32.toNatClampNeg (V 0 11))).toInt := v6
  have v6c : p0.toInt < (V 19 (nwh V)).toInt := v6
  have czl := cz_le V 24
  have czp := cz_pos (V := V) (k := Int32.toNatClampNeg p0) (n := 24) (by have h9 := i_clamp (x := p0) rfl (by (first | exact om_eafa9039069c rg_p0.1 | omega)); omega) v3
  refine lv_aload_n hx hb dX12_visits_0 rfl (lv_at hl 0 rfl) ?_
  refine va_get (D := D) (ci := 12) (v := .ref (ad 87)) (C := RX12) (T := TX12) (N := 100) hx hb hg inX12 hown hK hP 0 rfl rfl 87 (by decide) (hg _ w1793) (fun _ h9 => h9) rfl dX12_visits_1 ?_
  refine lv_iload_n hx hb dX12_visits_4 rfl (lv_at hl 1 rfl) ?_
  refine lv_iconst (v := 1) hx hb dX12_visits_5 (by decide) ?_
  refine va_iast (D := D) (i := p0) (x := 1) hx hb hK hP hD hS 63 62 rfl rfl (i_in (a := p0.toInt) rfl (by first | exact om_dbb25e99819b rg_p0.1 rg_p0.2 | first | omega | ((try (have i_tb := Imp.go tb (by omega))); (try (have i_v6 := Imp.go v6 (by omega))); (try (have i_v4 := Imp.go v4 (by omega))); (try (have i_v4 := Imp.go v4 (by omega))); (try (have i_v6 := Imp.go v6 (by omega))); (try (have i_tb := Imp.go tb (by omega))); omega))) dX12_visits_6 (fun H locs hP hD hS => ?_)
  obtain ⟨V4, hV4⟩ : ∃ z, z = up2 V 87 (Int32.toNatClampNeg p0) 1 := ⟨_, rfl⟩
  have hP : va_P D vwCl (mw ad kk ks.1 V4 L) H := by rw [hV4]; exact hP
  have hD : va_D A (mw ad kk ks.1 V4 L) := by rw [hV4]; exact hD
  have hMV4 : rgd bM V4 := hMV.put hV4 (show 0 ≤ Int32.toInt 1 ∧ Int32.toInt 1 ≤ 2 from by decide)
  have agV4 : agr [(0, 81), (0, 89)] [80, 82, 83, 84, 85, 87, 88] V V4 := agV.up hV4 rfl
  refine lv_aload_n hx hb dX12_visits_7 rfl (lv_at hl 0 rfl) ?_
  refine va_get (D := D) (ci := 12) (v := .ref (ad 88)) (C := RX12) (T := TX12) (N := 100) hx hb hg inX12 hown hK hP 0 rfl rfl 88 (by decide) (hg _ w1794) (fun _ h9 => h9) rfl dX12_visits_8 ?_
  refine lv_aload_n hx hb dX12_visits_11 rfl (lv_at hl 0 rfl) ?_
  refine va_get (D := D) (ci := 12) (v := .int (V4 0 89)) (C := RX12) (T := TX12) (N := 100) hx hb hg inX12 hown hK hP 0 rfl rfl 89 (by decide) (hg _ w1795) (fun _ h9 => h9) rfl dX12_visits_12 ?_
  refine g_top (v := (V 0 89)) (up2_o hV4 (by decide)) ?_
  refine lv_iload_n hx hb dX12_visits_15 rfl (lv_at hl 1 rfl) ?_
  refine va_iast (D := D) (i := (V 0 89)) (x := p0) hx hb hK hP hD hS 64 63 rfl rfl (i_in (a := ((V 0 89)).toInt) rfl (by first | exact om_f5912bdc5b76 v2 r1.1 czp | first | omega | ((try (have i_tb := Imp.go tb (by omega))); (try (have i_v6 := Imp.go v6 (by omega))); (try (have i_v4 := Imp.go v4 (by omega))); (try (have i_v4 := Imp.go v4 (by omega))); (try (have i_v6 := Imp.go v6 (by omega))); (try (have i_tb := Imp.go tb (by omega))); omega))) dX12_visits_16 (fun H locs hP hD hS => ?_)
  obtain ⟨V5, hV5⟩ : ∃ z, z = up2 V4 88 (Int32.toNatClampNeg (V 0 89)) p0 := ⟨_, rfl⟩
  have hP : va_P D vwCl (mw ad kk ks.1 V5 L) H := by rw [hV5]; exact hP
  have hD : va_D A (mw ad kk ks.1 V5 L) := by rw [hV5]; exact hD
  have hMV5 : rgd bM V5 := hMV4.put hV5 (show 0 ≤ p0.toInt ∧ p0.toInt ≤ 23 from by first | exact om_d3435e1acec6 rg_p0.1 rg_p0.2 | first | omega | ((try (have i_tb := Imp.go tb (by omega))); (try (have i_v6 := Imp.go v6 (by omega))); (try (have i_v4 := Imp.go v4 (by omega))); (try (have i_v4 := Imp.go v4 (by omega))); (try (have i_v6 := Imp.go v6 (by omega))); (try (have i_tb := Imp.go tb (by omega))); omega))
  have agV5 : agr [(0, 81), (0, 89)] [80, 82, 83, 84, 85, 87, 88] V V5 := agV4.up hV5 rfl
  refine lv_aload_n hx hb dX12_visits_17 rfl (lv_at hl 0 rfl) ?_
  refine lv_dup hx hb dX12_visits_18 rfl ?_
  refine va_get (D := D) (ci := 12) (v := .int (V5 0 89)) (C := RX12) (T := TX12) (N := 100) hx hb hg inX12 hown hK hP 0 rfl rfl 89 (by decide) (hg _ w1795) (fun _ h9 => h9) rfl dX12_visits_19 ?_
  refine g_top (v := (V 0 89)) ((up2_o hV5 (by decide)).trans (up2_o hV4 (by decide))) ?_
  refine lv_iconst (v := 1) hx hb dX12_visits_22 (by decide) ?_
  refine lv_iadd hx hb dX12_visits_23 ?_
  refine lv_topi (fun z6 ez6 => ?_)
  have hz6 : z6.toInt = ((V 0 89)).toInt + 1 := i_add ez6 rfl (by decide) (by (first | exact om_e66fa98a5d27 r1.1 r1.2 | omega))
  refine va_put (D := D) (ci := 12) (v := .int z6) (ty := tyX12 89) (C := RX12) (T := TX12) (N := 100) hx hb hg inX12 tyX12 tyX12_ok nmX12 hown hK hP hD hS 0 rfl rfl 89 (by decide) (hg _ w1795) (fun _ h9 => h9) rfl (tyX12_ok 89 (by decide)) rfl rfl (Nat.le_of_ble_eq_true rfl) dX12_visits_24 (fun H locs hP hD hS => ?_)
  obtain ⟨V7, hV7⟩ : ∃ z, z = up2 V5 0 89 z6 := ⟨_, rfl⟩
  have hP : va_P D vwCl (mw ad kk ks.1 V7 L) H := by rw [hV7]; exact hP
  have hD : va_D A (mw ad kk ks.1 V7 L) := by rw [hV7]; exact hD
  have hMV7 : rgd bM V7 := hMV5.put hV7 (show 0 ≤ z6.toInt ∧ z6.toInt ≤ 24 from by first | exact om_5aa64c556f18 v2 r1.1 czp hz6 | first | omega | ((try (have i_tb := Imp.go tb (by omega))); (try (have i_v6 := Imp.go v6 (by omega))); (try (have i_v4 := Imp.go v4 (by omega))); (try (have i_v4 := Imp.go v4 (by omega))); (try (have i_v6 := Imp.go v6 (by omega))); (try (have i_tb := Imp.go tb (by omega))); omega))
  have agV7 : agr [(0, 81), (0, 89)] [80, 82, 83, 84, 85, 87, 88] V V7 := agV5.up hV7 rfl
  refine lv_iconst (v := 0) hx hb dX12_visits_27 (by decide) ?_
  refine lv_istore_n (lv' := [(2, .int 0), (0, .ref (ad 0)), (1, .int p0)]) hx hb dX12_visits_28 rfl hl (by decide) rfl (fun ls hl => ?_)
  have lp10 : ∀ (fulp10 : Nat) (y8 : Int32) (V9 : Vf) (H : Heap) (locs : List Loc) (ls : Array Slot), 0 ≤ y8.toInt ∧ y8.toInt ≤ 8 → (V9 0 89).toInt = (V 0 89).toInt + 1 → (cz V9 24 : Int) + 1 ≤ (cz V 24 : Int) → (V9 0 81).toInt + 192 * (cz V9 24 : Int) + 192 ≤ FM + 24 * y8.toInt → (V 0 81).toInt ≤ (V9 0 81).toInt → visI V V9 (Int32.toNatClampNeg p0) → c0k V V9 → 8 - y8.toInt < (fulp10 : Int) → agr [(0, 81), (0, 89)] [80, 82, 83, 84, 85, 87, 88] V7 V9 → rgd bM V9 → va_P D vwCl (mw ad kk ks.1 V9 L) H → va_D A (mw ad kk ks.1 V9 L) → va_S A s.heap H locs → lv_has ls 5 [(2, .int y8), (0, .ref (ad 0)), (1, .int p0)] → W p l e (rK 8 260 dd) s m ([.ref (ad 0), .int p0] : List Value).toArray below meth c H locs 0 0 (MQ below (q_s_visits D ks ad kk V L p0 FM A) ([.ref (ad 0), .int p0] : List Value).toArray s 0 0 A) (F0 m 29 ls []) := by
    intro fulp10
    induction fulp10 with
    | zero =>
      intro y8 V9 H locs ls klp10_0 xlp10_0 xlp10_1 xlp10_2 xlp10_3 xlp10_4 xlp10_5 hn ajV9 hMV9 hP hD hS hl
      exfalso; (first | exact om_e2d570575604 klp10_0.2 hn | omega)
    | succ fulp10 ihlp10 =>
      intro y8 V9 H locs ls klp10_0 xlp10_0 xlp10_1 xlp10_2 xlp10_3 xlp10_4 xlp10_5 hn ajV9 hMV9 hP hD hS hl
      have agV9 : agr [(0, 81), (0, 89)] [80, 82, 83, 84, 85, 87, 88] V V9 := agV7.tr ajV9 (by decide) (by decide)
      have r11 : 0 ≤ ((V9 0 89)).toInt ∧ ((V9 0 89)).toInt ≤ 24 := hMV9 0 89
      have r12 : 0 ≤ ((V9 0 81)).toInt ∧ ((V9 0 81)).toInt ≤ 1000000 := hMV9 0 81
      refine lv_iload_n hx hb dX12_visits_29 rfl (lv_at hl 0 rfl) ?_
      refine lv_aload_n hx hb dX12_visits_30 rfl (lv_at hl 1 rfl) ?_
      refine va_get (D := D) (ci := 12) (v := .ref (ad 27)) (C := RX12) (T := TX12) (N := 100) hx hb hg inX12 hown hK hP 0 rfl rfl 27 (by decide) (hg _ w1733) (fun _ h9 => h9) rfl dX12_visits_31 ?_
      refine lv_bipush (v := 24) hx hb dX12_visits_34 (by decide) ?_
      refine lv_aload_n hx hb dX12_visits_36 rfl (lv_at hl 1 rfl) ?_
      refine va_get (D := D) (ci := 12) (v := .int (V9 0 11)) (C := RX12) (T := TX12) (N := 100) hx hb hg inX12 hown hK hP 0 rfl rfl 11 (by decide) (hg _ w1717) (fun _ h9 => h9) rfl dX12_visits_37 ?_
      refine g_top (v := (V 0 11)) ((ajV9 0 11 rfl).trans ((up2_k hV7 (by decide)).trans ((up2_o hV5 (by decide)).trans (up2_o hV4 (by decide))))) ?_
      have r13 : 0 ≤ ((V 0 11)).toInt ∧ ((V 0 11)).toInt ≤ 1 := hMV 0 11
      refine lv_imul hx hb dX12_visits_40 ?_
      refine lv_topi (fun z14 ez14 => ?_)
      have hz14 : z14.toInt = 24 * ((V 0 11)).toInt := i_mul ez14 (by decide) rfl (by (first | exact om_3f8aba7b6ce1 r13.1 r13.2 | omega))
      refine lv_iload_n hx hb dX12_visits_41 rfl (lv_at hl 2 rfl) ?_
      refine lv_iadd hx hb dX12_visits_42 ?_
      refine lv_topi (fun z15 ez15 => ?_)
      have hz15 : z15.toInt = z14.toInt + p0.toInt := i_add ez15 rfl rfl (by (first | exact om_6c84dfc0d33f rg_p0.1 rg_p0.2 r13.1 r13.2 hz14 | omega))
      refine va_iald (D := D) (i := z15) hx hb hK hP 20 19 rfl rfl (i_in (a := z15.toInt) rfl (by first | exact om_cf341bf82a51 rg_p0.1 rg_p0.2 r13.1 r13.2 hz14 hz15 | first | omega | ((try (have i_tb := Imp.go tb (by omega))); (try (have i_v6 := Imp.go v6 (by omega))); (try (have i_v4 := Imp.go v4 (by omega))); (try (have i_v4 := Imp.go v4 (by omega))); (try (have i_v6 := Imp.go v6 (by omega))); (try (have i_tb := Imp.go tb (by omega))); omega))) dX12_visits_43 ?_
      refine g_top (v := (V 27 (Int32.toNatClampNeg z15))) ((ajV9 27 (Int32.toNatClampNeg z15) rfl).trans ((up2_o hV7 (by decide)).trans ((up2_o hV5 (by decide)).trans (up2_o hV4 (by decide))))) ?_
      have r16 : 0 ≤ ((V 27 (Int32.toNatClampNeg z15))).toInt ∧ ((V 27 (Int32.toNatClampNeg z15))).toInt ≤ 8 := hMV 27 (Int32.toNatClampNeg z15)
      refine lv_icmp_ge (tgt := 166) hx hb dX12_visits_44 (by decide) (fun c17 => ?_) (fun c17 => ?_)
      · skip
        have f18 : ((V 27 (Int32.toNatClampNeg z15))).toInt ≤ y8.toInt := b_le rfl rfl c17
        refine lv_aload_n hx hb dX12_visits_166 rfl (lv_at hl 1 rfl) ?_
        refine lv_dup hx hb dX12_visits_167 rfl ?_
        refine va_get (D := D) (ci := 12) (v := .int (V9 0 89)) (C := RX12) (T := TX12) (N := 100) hx hb hg inX12 hown hK hP 0 rfl rfl 89 (by decide) (hg _ w1795) (fun _ h9 => h9) rfl dX12_visits_168 ?_
        refine lv_iconst (v := 1) hx hb dX12_visits_171 (by decide) ?_
        refine lv_isub hx hb dX12_visits_172 ?_
        refine lv_topi (fun z19 ez19 => ?_)
        have hz19 : z19.toInt = ((V9 0 89)).toInt - 1 := i_sub ez19 rfl (by decide) (by (first | exact om_6e1157ec7ad9 v2 r1.1 xlp10_0 xlp10_1 | omega))
        refine va_put (D := D) (ci := 12) (v := .int z19) (ty := tyX12 89) (C := RX12) (T := TX12) (N := 100) hx hb hg inX12 tyX12 tyX12_ok nmX12 hown hK hP hD hS 0 rfl rfl 89 (by decide) (hg _ w1795) (fun _ h9 => h9) rfl (tyX12_ok 89 (by decide)) rfl rfl (Nat.le_of_ble_eq_true rfl) dX12_visits_173 (fun H locs hP hD hS => ?_)
        obtain ⟨V20, hV20⟩ : ∃ z, z = up2 V9 0 89 z19 := ⟨_, rfl⟩
        have hP : va_P D vwCl (mw ad kk ks.1 V20 L) H := by rw [hV20]; exact hP
        have hD : va_D A (mw ad kk ks.1 V20 L) := by rw [hV20]; exact hD
        have hMV20 : rgd bM V20 := hMV9.put hV20 (show 0 ≤ z19.toInt ∧ z19.toInt ≤ 24 from by first | exact om_d876c47cf84f v2 r1.1 xlp10_0 xlp10_1 hz19 | first | omega | ((try (have i_tb := Imp.go tb (by omega))); (try (have i_v6 := Imp.go v6 (by omega))); (try (have i_v4 := Imp.go v4 (by omega))); (try (have i_v4 := Imp.go v4 (by omega))); (try (have i_v6 := Imp.go v6 (by omega))); (try (have i_tb := Imp.go tb (by omega))); omega))
        have agV20 : agr [(0, 81), (0, 89)] [80, 82, 83, 84, 85, 87, 88] V V20 := agV9.up hV20 rfl
        refine lv_aload_n hx hb dX12_visits_176 rfl (lv_at hl 1 rfl) ?_
        refine va_get (D := D) (ci := 12) (v := .ref (ad 87)) (C := RX12) (T := TX12) (N := 100) hx hb hg inX12 hown hK hP 0 rfl rfl 87 (by decide) (hg _ w1793) (fun _ h9 => h9) rfl dX12_visits_177 ?_
        refine lv_iload_n hx hb dX12_visits_180 rfl (lv_at hl 2 rfl) ?_
        refine lv_iconst (v := 2) hx hb dX12_visits_181 (by decide) ?_
        refine va_iast (D := D) (i := p0) (x := 2) hx hb hK hP hD hS 63 62 rfl rfl (i_in (a := p0.toInt) rfl (by first | exact om_dbb25e99819b rg_p0.1 rg_p0.2 | first | omega | ((try (have i_tb := Imp.go tb (by omega))); (try (have i_v6 := Imp.go v6 (by omega))); (try (have i_v4 := Imp.go v4 (by omega))); (try (have i_v4 := Imp.go v4 (by omega))); (try (have i_v6 := Imp.go v6 (by omega))); (try (have i_tb := Imp.go tb (by omega))); omega))) dX12_visits_182 (fun H locs hP hD hS => ?_)
        obtain ⟨V21, hV21⟩ : ∃ z, z = up2 V20 87 (Int32.toNatClampNeg p0) 2 := ⟨_, rfl⟩
        have hP : va_P D vwCl (mw ad kk ks.1 V21 L) H := by rw [hV21]; exact hP
        have hD : va_D A (mw ad kk ks.1 V21 L) := by rw [hV21]; exact hD
        have hMV21 : rgd bM V21 := hMV20.put hV21 (show 0 ≤ Int32.toInt 2 ∧ Int32.toInt 2 ≤ 2 from by decide)
        have agV21 : agr [(0, 81), (0, 89)] [80, 82, 83, 84, 85, 87, 88] V V21 := agV20.up hV21 rfl
        have pq22 : (V21 0 89).toInt = z19.toInt := congrArg Int32.toInt ((up2_o hV21 (by decide)).trans (up2_s hV20))
        have cz23 : cz V20 24 = cz V9 24 := cz_o hV20 (by decide)
        have cz24 : cz V21 24 ≤ cz V20 24 := (cz_put hV21 (by decide) 24).1
        have pq25 : (V21 0 81).toInt = ((V9 0 81)).toInt := congrArg Int32.toInt ((up2_o hV21 (by decide)).trans (up2_k hV20 (by decide)))
        have c026 : c0k V V21 := (c0k.tr (V := V) (W := V20) (X := V21) (c0k.tr (V := V) (W := V9) (X := V20) xlp10_5 (Or.inl (up2_o hV20 (by decide))) agV9 ⟨rfl, fun _ => rfl, fun _ => rfl, fun _ => rfl, fun _ => rfl, fun _ => rfl, fun _ => rfl⟩) (Or.inl (up2_o hV21 (by decide))) agV20 ⟨rfl, fun _ => rfl, fun _ => rfl, fun _ => rfl, fun _ => rfl, fun _ => rfl, fun _ => rfl⟩)
        exact W.vret hx hb hr (fun t ht hW => ⟨⟨(V21, L), rfl, ⟨hMV21, agV21, rfl, (show (V21 0 89).toInt = (V 0 89).toInt from by first | exact om_688aeadf4b2f xlp10_0 hz19 pq22 | first | omega | ((try (have i_tb := Imp.go tb (by omega))); (try (have i_v6 := Imp.go v6 (by omega))); (try (have i_v4 := Imp.go v4 (by omega))); (try (have i_v4 := Imp.go v4 (by omega))); (try (have i_v6 := Imp.go v6 (by omega))); (try (have i_tb := Imp.go tb (by omega))); omega)), (show (cz V21 24 : Int) + 1 ≤ (cz V 24 : Int) from by first | exact om_3dc1647238e7 xlp10_1 cz23 cz24 | first | omega | ((try (have i_tb := Imp.go tb (by omega))); (try (have i_v6 := Imp.go v6 (by omega))); (try (have i_v4 := Imp.go v4 (by omega))); (try (have i_v4 := Imp.go v4 (by omega))); (try (have i_v6 := Imp.go v6 (by omega))); (try (have i_tb := Imp.go tb (by omega))); omega)), (show (V21 0 81).toInt + 192 * (cz V21 24 : Int) ≤ FM from by first | exact om_6fbb89b1a08a klp10_0.2 xlp10_2 cz23 cz24 pq25 | first | omega | ((try (have i_tb := Imp.go tb (by omega))); (try (have i_v6 := Imp.go v6 (by omega))); (try (have i_v4 := Imp.go v4 (by omega))); (try (have i_v4 := Imp.go v4 (by omega))); (try (have i_v6 := Imp.go v6 (by omega))); (try (have i_tb := Imp.go tb (by omega))); omega)), (show (V 0 81).toInt ≤ (V21 0 81).toInt from by first | exact om_a40cdd94799e xlp10_3 pq25 | first | omega | ((try (have i_tb := Imp.go tb (by omega))); (try (have i_v6 := Imp.go v6 (by omega))); (try (have i_v4 := Imp.go v4 (by omega))); (try (have i_v4 := Imp.go v4 (by omega))); (try (have i_v6 := Imp.go v6 (by omega))); (try (have i_tb := Imp.go tb (by omega))); omega)), (visP.fin xlp10_4 hV20 hV21 rfl (by decide)), c026⟩, by rw [ht]; exact hP, va_K.moved hW.alike hK, hD⟩, hS.F ht⟩) hS.2.2 dX12_visits_183
      · skip
        have f27 : y8.toInt < ((V 27 (Int32.toNatClampNeg z15))).toInt := b_nle rfl rfl c17
        refine lv_bipush (v := 8) hx hb dX12_visits_47 (by decide) ?_
        refine lv_bipush (v := 24) hx hb dX12_visits_49 (by decide) ?_
        refine lv_aload_n hx hb dX12_visits_51 rfl (lv_at hl 1 rfl) ?_
        refine va_get (D := D) (ci := 12) (v := .int (V9 0 11)) (C := RX12) (T := TX12) (N := 100) hx hb hg inX12 hown hK hP 0 rfl rfl 11 (by decide) (hg _ w1717) (fun _ h9 => h9) rfl dX12_visits_52 ?_
        refine g_top (v := (V 0 11)) ((ajV9 0 11 rfl).trans ((up2_k hV7 (by decide)).trans ((up2_o hV5 (by decide)).trans (up2_o hV4 (by decide))))) ?_
        refine lv_imul hx hb dX12_visits_55 ?_
        refine lv_topi (fun z28 ez28 => ?_)
        have hz28 : z28.toInt = 24 * ((V 0 11)).toInt := i_mul ez28 (by decide) rfl (by (first | exact om_3f8aba7b6ce1 r13.1 r13.2 | omega))
        refine lv_iload_n hx hb dX12_visits_56 rfl (lv_at hl 2 rfl) ?_
        refine lv_iadd hx hb dX12_visits_57 ?_
        refine lv_topi (fun z29 ez29 => ?_)
        have hz29 : z29.toInt = z28.toInt + p0.toInt := i_add ez29 rfl rfl (by (first | exact om_6c84dfc0d33f rg_p0.1 rg_p0.2 r13.1 r13.2 hz28 | omega))
        refine lv_imul hx hb dX12_visits_58 ?_
        refine lv_topi (fun z30 ez30 => ?_)
        have hz30 : z30.toInt = 8 * z29.toInt := i_mul ez30 (by decide) rfl (by (first | exact om_43f57588f3c1 rg_p0.1 rg_p0.2 r13.1 r13.2 hz28 hz29 | omega))
        refine lv_iload_n hx hb dX12_visits_59 rfl (lv_at hl 0 rfl) ?_
        refine lv_iadd hx hb dX12_visits_60 ?_
        refine lv_topi (fun z31 ez31 => ?_)
        have hz31 : z31.toInt = z30.toInt + y8.toInt := i_add ez31 rfl rfl (by (first | exact om_38bc6d147a26 rg_p0.1 rg_p0.2 klp10_0.1 r13.1 r13.2 r16.2 f27 hz28 hz29 hz30 | omega))
        refine lv_istore_n (lv' := [(3, .int z31), (2, .int y8), (0, .ref (ad 0)), (1, .int p0)]) hx hb dX12_visits_61 rfl hl (by decide) rfl (fun ls hl => ?_)
        have kn : (nwh V : Int) = (V 0 11).toInt := i_clamp (x := V 0 11) rfl (by (first | exact om_eafa9039069c r13.1 | omega))
        have kp0 := i_clamp (x := p0) rfl (by (first | exact om_eafa9039069c rg_p0.1 | omega))
        have kl2 := i_clamp (x := y8) rfl (by (first | exact om_eafa9039069c klp10_0.1 | omega))
        have ki : Int32.toNatClampNeg z15 = 24 * nwh V + Int32.toNatClampNeg p0 := by have h9 := i_clamp (x := z15) rfl (by (first | exact om_11587583f9f8 rg_p0.1 r13.1 hz14 hz15 | omega)); (first | exact om_513b2bd4b43e hz14 hz15 kn kp0 h9 | omega)
        have k3 : Int32.toNatClampNeg z31 = 8 * (24 * nwh V + Int32.toNatClampNeg p0) + Int32.toNatClampNeg y8 := by have h9 := i_clamp (x := z31) rfl (by (first | exact om_0223b868096c rg_p0.1 klp10_0.1 r13.1 hz28 hz29 hz30 hz31 | omega)); (first | exact om_ae2f849a0b98 hz28 hz29 hz30 hz31 kn kp0 kl2 h9 | omega)
        have q27 : (V 27 (24 * nwh V + Int32.toNatClampNeg p0)).toInt = (V 27 (Int32.toNatClampNeg z15)).toInt := by rw [ki]
        have nt : 0 ≤ (V 28 (Int32.toNatClampNeg z31)).toInt := by rw [k3]; exact (((show TBL V (nwh V) _ from tb).1 (Int32.toNatClampNeg p0) (by omega)).2.2.2 (Int32.toNatClampNeg y8) (by omega)).1
        refine lv_aload_n hx hb dX12_visits_62 rfl (lv_at hl 2 rfl) ?_
        refine va_get (D := D) (ci := 12) (v := .ref (ad 29)) (C := RX12) (T := TX12) (N := 100) hx hb hg inX12 hown hK hP 0 rfl rfl 29 (by decide) (hg _ w1735) (fun _ h9 => h9) rfl dX12_visits_63 ?_
        refine lv_iload_n hx hb dX12_visits_66 rfl (lv_at hl 0 rfl) ?_
        refine va_zald (D := D) (i := z31) hx hb hK hP 22 21 rfl rfl (i_in (a := z31.toInt) rfl (by first | exact om_c29a07f2e188 rg_p0.1 rg_p0.2 klp10_0.1 r13.1 r13.2 r16.2 f27 hz28 hz29 hz30 hz31 | first | omega | ((try (have i_tb := Imp.go tb (by omega))); (try (have i_v6 := Imp.go v6 (by omega))); (try (have i_v4 := Imp.go v4 (by omega))); (try (have i_v4 := Imp.go v4 (by omega))); (try (have i_v6 := Imp.go v6 (by omega))); (try (have i_tb := Imp.go tb (by omega))); omega))) dX12_visits_67 ?_
        refine g_top (v := (V 29 (Int32.toNatClampNeg z31))) ((ajV9 29 (Int32.toNatClampNeg z31) rfl).trans ((up2_o hV7 (by decide)).trans ((up2_o hV5 (by decide)).trans (up2_o hV4 (by decide))))) ?_
        have r32 : 0 ≤ ((V 29 (Int32.toNatClampNeg z31))).toInt ∧ ((V 29 (Int32.toNatClampNeg z31))).toInt ≤ 1 := hMV 29 (Int32.toNatClampNeg z31)
        refine lv_if_ne (tgt := 160) hx hb dX12_visits_68 (by decide) (fun c33 => ?_) (fun c33 => ?_)
        · skip
          have f34 : ((V 29 (Int32.toNatClampNeg z31))).toInt ≠ 0 := b_neq rfl (by decide) c33
          obtain ⟨z35, ez35⟩ : ∃ y : Int32, y = y8 + 1 := ⟨_, rfl⟩
          have hz35 : z35.toInt = y8.toInt + 1 := i_add ez35 rfl (by decide) (by (first | exact om_56ff1e099a1d klp10_0.1 r16.2 f27 | omega))
          refine lv_iinc (v := z35) (lv' := [(2, .int z35), (3, .int z31), (0, .ref (ad 0)), (1, .int p0)]) hx hb dX12_visits_160 hl (k := 1) rfl (by rw [ez35]; rfl) (by decide) rfl (fun ls hl => ?_)
          refine lv_goto (tgt := 29) hx hb dX12_visits_163 (by decide) ?_
          have c036 : c0k V V9 := xlp10_5
          exact ihlp10 z35 V9 H locs ls (by first | exact om_7c19206264d1 klp10_0.1 r16.2 f27 hz35 | first | omega | ((try (have i_tb := Imp.go tb (by omega))); (try (have i_v6 := Imp.go v6 (by omega))); (try (have i_v4 := Imp.go v4 (by omega))); (try (have i_v4 := Imp.go v4 (by omega))); (try (have i_v6 := Imp.go v6 (by omega))); (try (have i_tb := Imp.go tb (by omega))); omega)) (show (V9 0 89).toInt = (V 0 89).toInt + 1 from by first | exact om_55c67efb91e5 xlp10_0 | first | omega | ((try (have i_tb := Imp.go tb (by omega))); (try (have i_v6 := Imp.go v6 (by omega))); (try (have i_v4 := Imp.go v4 (by omega))); (try (have i_v4 := Imp.go v4 (by omega))); (try (have i_v6 := Imp.go v6 (by omega))); (try (have i_tb := Imp.go tb (by omega))); omega)) (show (cz V9 24 : Int) + 1 ≤ (cz V 24 : Int) from by first | exact om_3196453e4318 xlp10_1 | first | omega | ((try (have i_tb := Imp.go tb (by omega))); (try (have i_v6 := Imp.go v6 (by omega))); (try (have i_v4 := Imp.go v4 (by omega))); (try (have i_v4 := Imp.go v4 (by omega))); (try (have i_v6 := Imp.go v6 (by omega))); (try (have i_tb := Imp.go tb (by omega))); omega)) (show (V9 0 81).toInt + 192 * (cz V9 24 : Int) + 192 ≤ FM + 24 * z35.toInt from by first | exact om_9b8773cb5ff2 xlp10_2 hz35 | first | omega | ((try (have i_tb := Imp.go tb (by omega))); (try (have i_v6 := Imp.go v6 (by omega))); (try (have i_v4 := Imp.go v4 (by omega))); (try (have i_v4 := Imp.go v4 (by omega))); (try (have i_v6 := Imp.go v6 (by omega))); (try (have i_tb := Imp.go tb (by omega))); omega)) (show (V 0 81).toInt ≤ (V9 0 81).toInt from by first | exact om_f4906d00fa52 xlp10_3 | first | omega | ((try (have i_tb := Imp.go tb (by omega))); (try (have i_v6 := Imp.go v6 (by omega))); (try (have i_v4 := Imp.go v4 (by omega))); (try (have i_v4 := Imp.go v4 (by omega))); (try (have i_v6 := Imp.go v6 (by omega))); (try (have i_tb := Imp.go tb (by omega))); omega)) xlp10_4 c036 (by first | exact om_b0e3ceac5369 hn hz35 | first | omega | ((try (have i_tb := Imp.go tb (by omega))); (try (have i_v6 := Imp.go v6 (by omega))); (try (have i_v4 := Imp.go v4 (by omega))); (try (have i_v4 := Imp.go v4 (by omega))); (try (have i_v6 := Imp.go v6 (by omega))); (try (have i_tb := Imp.go tb (by omega))); omega)) (agr.tr agr.rf ajV9 (by decide) (by decide)) hMV9 hP hD hS (lv_sub hl [0, 2, 3] rfl)
        · skip
          have f37 : ((V 29 (Int32.toNatClampNeg z31))).toInt = 0 := b_eq rfl (by decide) c33
          refine lv_aload_n hx hb dX12_visits_71 rfl (lv_at hl 2 rfl) ?_
          refine va_get (D := D) (ci := 12) (v := .ref (ad 86)) (C := RX12) (T := TX12) (N := 100) hx hb hg inX12 hown hK hP 0 rfl rfl 86 (by decide) (hg _ w1792) (fun _ h9 => h9) rfl dX12_visits_72 ?_
          refine lv_bipush (v := 8) hx hb dX12_visits_75 (by decide) ?_
          refine lv_iload_n hx hb dX12_visits_77 rfl (lv_at hl 3 rfl) ?_
          refine lv_imul hx hb dX12_visits_78 ?_
          refine lv_topi (fun z38 ez38 => ?_)
          have hz38 : z38.toInt = 8 * p0.toInt := i_mul ez38 (by decide) rfl (by (first | exact om_9e4b7225c539 rg_p0.1 rg_p0.2 | omega))
          refine lv_iload_n hx hb dX12_visits_79 rfl (lv_at hl 1 rfl) ?_
          refine lv_iadd hx hb dX12_visits_80 ?_
          refine lv_topi (fun z39 ez39 => ?_)
          have hz39 : z39.toInt = z38.toInt + y8.toInt := i_add ez39 rfl rfl (by (first | exact om_3f4737cdcc85 rg_p0.1 rg_p0.2 klp10_0.1 r16.2 f27 hz38 | omega))
          refine va_zald (D := D) (i := z39) hx hb hK hP 62 61 rfl rfl (i_in (a := z39.toInt) rfl (by first | exact om_a17e8f5b65af rg_p0.1 rg_p0.2 klp10_0.1 r16.2 f27 hz38 hz39 | first | omega | ((try (have i_tb := Imp.go tb (by omega))); (try (have i_v6 := Imp.go v6 (by omega))); (try (have i_v4 := Imp.go v4 (by omega))); (try (have i_v4 := Imp.go v4 (by omega))); (try (have i_v6 := Imp.go v6 (by omega))); (try (have i_tb := Imp.go tb (by omega))); omega))) dX12_visits_81 ?_
          refine g_top (v := (V 86 (Int32.toNatClampNeg z39))) ((ajV9 86 (Int32.toNatClampNeg z39) rfl).trans ((up2_o hV7 (by decide)).trans ((up2_o hV5 (by decide)).trans (up2_o hV4 (by decide))))) ?_
          have r40 : 0 ≤ ((V 86 (Int32.toNatClampNeg z39))).toInt ∧ ((V 86 (Int32.toNatClampNeg z39))).toInt ≤ 1 := hMV 86 (Int32.toNatClampNeg z39)
          refine lv_if_eq (tgt := 88) hx hb dX12_visits_82 (by decide) (fun c41 => ?_) (fun c41 => ?_)
          · skip
            have f42 : ((V 86 (Int32.toNatClampNeg z39))).toInt = 0 := b_eq rfl (by decide) c41
            refine lv_iconst (v := 0) hx hb dX12_visits_88 (by decide) ?_
            refine lv_istore (lv' := [(4, .int 0), (3, .int z31), (2, .int y8), (0, .ref (ad 0)), (1, .int p0)]) hx hb dX12_visits_89 hl (by decide) rfl (fun ls hl => ?_)
            have lp45 : ∀ (fulp45 : Nat) (y43 : Int32) (V44 : Vf) (H : Heap) (locs : List Loc) (ls : Array Slot), 0 ≤ y43.toInt ∧ y43.toInt ≤ 24 → (V44 0 89).toInt = (V 0 89).toInt + 1 → (cz V44 24 : Int) + 1 ≤ (cz V 24 : Int) → (V44 0 81).toInt + 192 * (cz V44 24 : Int) + 192 ≤ FM + 24 * y8.toInt + y43.toInt → (V 0 81).toInt ≤ (V44 0 81).toInt → visI V V44 (Int32.toNatClampNeg p0) → c0k V V44 → 24 - y43.toInt < (fulp45 : Int) → agr [(0, 81), (0, 89)] [80, 82, 83, 84, 85, 87, 88] V9 V44 → rgd bM V44 → va_P D vwCl (mw ad kk ks.1 V44 L) H → va_D A (mw ad kk ks.1 V44 L) → va_S A s.heap H locs → lv_has ls 5 [(4, .int y43), (3, .int z31), (2, .int y8), (0, .ref (ad 0)), (1, .int p0)] → W p l e (rK 8 260 dd) s m ([.ref (ad 0), .int p0] : List Value).toArray below meth c H locs 0 0 (MQ below (q_s_visits D ks ad kk V L p0 FM A) ([.ref (ad 0), .int p0] : List Value).toArray s 0 0 A) (F0 m 91 ls []) := by
              intro fulp45
              induction fulp45 with
              | zero =>
                intro y43 V44 H locs ls klp45_0 xlp45_0 xlp45_1 xlp45_2 xlp45_3 xlp45_4 xlp45_5 hn ajV44 hMV44 hP hD hS hl
                exfalso; (first | exact om_9386ef0df612 klp45_0.2 hn | omega)
              | succ fulp45 ihlp45 =>
                intro y43 V44 H locs ls klp45_0 xlp45_0 xlp45_1 xlp45_2 xlp45_3 xlp45_4 xlp45_5 hn ajV44 hMV44 hP hD hS hl
                have agV44 : agr [(0, 81), (0, 89)] [80, 82, 83, 84, 85, 87, 88] V V44 := agV9.tr ajV44 (by decide) (by decide)
                have r46 : 0 ≤ ((V44 0 89)).toInt ∧ ((V44 0 89)).toInt ≤ 24 := hMV44 0 89
                have r47 : 0 ≤ ((V44 0 81)).toInt ∧ ((V44 0 81)).toInt ≤ 1000000 := hMV44 0 81
                refine lv_iload hx hb dX12_visits_91 (lv_at hl 0 rfl) ?_
                refine lv_aload_n hx hb dX12_visits_93 rfl (lv_at hl 3 rfl) ?_
                refine va_get (D := D) (ci := 12) (v := .ref (ad 19)) (C := RX12) (T := TX12) (N := 100) hx hb hg inX12 hown hK hP 0 rfl rfl 19 (by decide) (hg _ w1725) (fun _ h9 => h9) rfl dX12_visits_94 ?_
                refine lv_aload_n hx hb dX12_visits_97 rfl (lv_at hl 3 rfl) ?_
                refine va_get (D := D) (ci := 12) (v := .int (V44 0 11)) (C := RX12) (T := TX12) (N := 100) hx hb hg inX12 hown hK hP 0 rfl rfl 11 (by decide) (hg _ w1717) (fun _ h9 => h9) rfl dX12_visits_98 ?_
                refine g_top (v := (V 0 11)) ((ajV44 0 11 rfl).trans ((ajV9 0 11 rfl).trans ((up2_k hV7 (by decide)).trans ((up2_o hV5 (by decide)).trans (up2_o hV4 (by decide)))))) ?_
                refine va_iald (D := D) (i := (V 0 11)) hx hb hK hP 12 11 rfl rfl (i_in (a := ((V 0 11)).toInt) rfl (by first | exact om_8367a84723c7 r13.1 r13.2 | first | omega | ((try (have i_tb := Imp.go tb (by omega))); (try (have i_v6 := Imp.go v6 (by omega))); (try (have i_v4 := Imp.go v4 (by omega))); (try (have i_v4 := Imp.go v4 (by omega))); (try (have i_v6 := Imp.go v6 (by omega))); (try (have i_tb := Imp.go tb (by omega))); omega))) dX12_visits_101 ?_
                refine g_top (v := (V 19 (Int32.toNatClampNeg (V 0 11)))) ((ajV44 19 (Int32.toNatClampNeg (V 0 11)) rfl).trans ((ajV9 19 (Int32.toNatClampNeg (V 0 11)) rfl).trans ((up2_o hV7 (by decide)).trans ((up2_o hV5 (by decide)).trans (up2_o hV4 (by decide)))))) ?_
                have r48 : 0 ≤ ((V 19 (Int32.toNatClampNeg (V 0 11)))).toInt ∧ ((V 19 (Int32.toNatClampNeg (V 0 11)))).toInt ≤ 24 := hMV 19 (Int32.toNatClampNeg (V 0 11))
                refine lv_icmp_ge (tgt := 160) hx hb dX12_visits_102 (by decide) (fun c49 => ?_) (fun c49 => ?_)
                · skip
                  have f50 : ((V 19 (Int32.toNatClampNeg (V 0 11)))).toInt ≤ y43.toInt := b_le rfl rfl c49
                  obtain ⟨z51, ez51⟩ : ∃ y : Int32, y = y8 + 1 := ⟨_, rfl⟩
                  have hz51 : z51.toInt = y8.toInt + 1 := i_add ez51 rfl (by decide) (by (first | exact om_56ff1e099a1d klp10_0.1 r16.2 f27 | omega))
                  refine lv_iinc (v := z51) (lv' := [(2, .int z51), (4, .int y43), (3, .int z31), (0, .ref (ad 0)), (1, .int p0)]) hx hb dX12_visits_160 hl (k := 2) rfl (by rw [ez51]; rfl) (by decide) rfl (fun ls hl => ?_)
                  refine lv_goto (tgt := 29) hx hb dX12_visits_163 (by decide) ?_
                  have c052 : c0k V V44 := xlp45_5
                  exact ihlp10 z51 V44 H locs ls (by first | exact om_7c19206264d1 klp10_0.1 r16.2 f27 hz51 | first | omega | ((try (have i_tb := Imp.go tb (by omega))); (try (have i_v6 := Imp.go v6 (by omega))); (try (have i_v4 := Imp.go v4 (by omega))); (try (have i_v4 := Imp.go v4 (by omega))); (try (have i_v6 := Imp.go v6 (by omega))); (try (have i_tb := Imp.go tb (by omega))); omega)) (show (V44 0 89).toInt = (V 0 89).toInt + 1 from by first | exact om_55c67efb91e5 xlp45_0 | first | omega | ((try (have i_tb := Imp.go tb (by omega))); (try (have i_v6 := Imp.go v6 (by omega))); (try (have i_v4 := Imp.go v4 (by omega))); (try (have i_v4 := Imp.go v4 (by omega))); (try (have i_v6 := Imp.go v6 (by omega))); (try (have i_tb := Imp.go tb (by omega))); omega)) (show (cz V44 24 : Int) + 1 ≤ (cz V 24 : Int) from by first | exact om_3196453e4318 xlp45_1 | first | omega | ((try (have i_tb := Imp.go tb (by omega))); (try (have i_v6 := Imp.go v6 (by omega))); (try (have i_v4 := Imp.go v4 (by omega))); (try (have i_v4 := Imp.go v4 (by omega))); (try (have i_v6 := Imp.go v6 (by omega))); (try (have i_tb := Imp.go tb (by omega))); omega)) (show (V44 0 81).toInt + 192 * (cz V44 24 : Int) + 192 ≤ FM + 24 * z51.toInt from by first | exact om_43b23c57d548 klp45_0.2 xlp45_2 hz51 | first | omega | ((try (have i_tb := Imp.go tb (by omega))); (try (have i_v6 := Imp.go v6 (by omega))); (try (have i_v4 := Imp.go v4 (by omega))); (try (have i_v4 := Imp.go v4 (by omega))); (try (have i_v6 := Imp.go v6 (by omega))); (try (have i_tb := Imp.go tb (by omega))); omega)) (show (V 0 81).toInt ≤ (V44 0 81).toInt from by first | exact om_f4906d00fa52 xlp45_3 | first | omega | ((try (have i_tb := Imp.go tb (by omega))); (try (have i_v6 := Imp.go v6 (by omega))); (try (have i_v4 := Imp.go v4 (by omega))); (try (have i_v4 := Imp.go v4 (by omega))); (try (have i_v6 := Imp.go v6 (by omega))); (try (have i_tb := Imp.go tb (by omega))); omega)) xlp45_4 c052 (by first | omega | ((try (have i_tb := Imp.go tb (by omega))); (try (have i_v6 := Imp.go v6 (by omega))); (try (have i_v4 := Imp.go v4 (by omega))); (try (have i_v4 := Imp.go v4 (by omega))); (try (have i_v6 := Imp.go v6 (by omega))); (try (have i_tb := Imp.go tb (by omega))); omega)) (agr.tr (agr.tr agr.rf ajV9 (by decide) (by decide)) ajV44 (by decide) (by decide)) hMV44 hP hD hS (lv_sub hl [0, 3, 4] rfl)
                · skip
                  have f53 : y43.toInt < ((V 19 (Int32.toNatClampNeg (V 0 11)))).toInt := b_nle rfl rfl c49
                  refine lv_aload_n hx hb dX12_visits_105 rfl (lv_at hl 3 rfl) ?_
                  refine lv_iload_n hx hb dX12_visits_106 rfl (lv_at hl 1 rfl) ?_
                  refine lv_iload hx hb dX12_visits_107 (lv_at hl 0 rfl) ?_
                  have pq54 : (V44 28 (Int32.toNatClampNeg z31)).toInt = ((V 28 (Int32.toNatClampNeg z31))).toInt := congrArg Int32.toInt ((ajV44 28 (Int32.toNatClampNeg z31) rfl).trans ((ajV9 28 (Int32.toNatClampNeg z31) rfl).trans ((up2_o hV7 (by decide)).trans ((up2_o hV5 (by decide)).trans (up2_o hV4 (by decide))))))
                  have r55 : (-1) ≤ ((V 28 (Int32.toNatClampNeg z31))).toInt ∧ ((V 28 (Int32.toNatClampNeg z31))).toInt ≤ 23 := hMV 28 (Int32.toNatClampNeg z31)
                  refine gA_int (gA_runV (As := [.int z31, .int y43]) (rest := []) (ci := 12) (q0 := 0) hx hb hml hown hg hP hD hK hS hA hnw hgk (s_isCandidate2 l D ks H.size ad kk V44 L z31 y43 hMV44 (by first | exact om_c1f77f9aa7cd rg_p0.1 rg_p0.2 klp10_0.1 r13.1 r13.2 r16.2 f27 hz28 hz29 hz30 hz31 | first | omega | ((try (have i_tb := Imp.go tb (by omega))); (try (have i_v6 := Imp.go v6 (by omega))); (try (have i_v4 := Imp.go v4 (by omega))); (try (have i_v4 := Imp.go v4 (by omega))); (try (have i_v6 := Imp.go v6 (by omega))); (try (have i_tb := Imp.go tb (by omega))); omega)) (show 0 ≤ (V44 28 (Int32.toNatClampNeg z31)).toInt from by first | exact om_ac0b685ca4ca nt pq54 | first | omega | ((try (have i_tb := Imp.go tb (by omega))); (try (have i_v6 := Imp.go v6 (by omega))); (try (have i_v4 := Imp.go v4 (by omega))); (try (have i_v4 := Imp.go v4 (by omega))); (try (have i_v6 := Imp.go v6 (by omega))); (try (have i_tb := Imp.go tb (by omega))); omega))) w2191 w2193 w123 w172 w2194 rfl rfl hdV_yX12_isCandidate ⟨(by show 3 + 1 ≤ 10 * dd + 8; (first | exact om_9a523fff2738 v1 xlp45_1 | omega)), (by show 8 + (6 + 11) + (69) ≤ 300 * dd + 260; (first | exact om_5e02d6e3ffb0 v1 xlp45_1 | omega))⟩ rfl hl.1 rfl (Nat.le_of_ble_eq_true rfl) dX12_visits_109 ⟨Nat.le_of_ble_eq_true rfl, Nat.le_of_ble_eq_true rfl⟩) hP hD hK hS hA (fun z56 u57 H locs w58 hP hD hK hS => ?_)
                  obtain ⟨V61, L62⟩ := u57
                  obtain ⟨hMV61, ajV61, axL62, rgz56, t59, t60⟩ := w58
                  have axL62 : L = L62 := Eq.symm axL62
                  subst axL62
                  have hP : va_P D vwCl (mw ad kk ks.1 V61 L) H := hP
                  have hD : va_D A (mw ad kk ks.1 V61 L) := hD
                  have hMV61 : rgd bM V61 := hMV61
                  have ajV61 : agr [] [80] V44 V61 := ajV61
                  have agV61 : agr [(0, 81), (0, 89)] [80, 82, 83, 84, 85, 87, 88] V V61 := agV44.tr ajV61 (by decide) (by decide)
                  have rgz56 : 0 ≤ z56.toInt ∧ z56.toInt ≤ 1 := rgz56
                  have t59 : Imp (z56.toInt = 1) (th V44 (Int32.toNatClampNeg y43)) := t59
                  have t60 : c0k V44 V61 := t60
                  refine lv_if_ne (tgt := 118) hx hb dX12_visits_112 (by decide) (fun c63 => ?_) (fun c63 => ?_)
                  · skip
                    have f64 : z56.toInt ≠ 0 := b_neq rfl (by decide) c63
                    refine lv_aload_n hx hb dX12_visits_118 rfl (lv_at hl 3 rfl) ?_
                    refine va_get (D := D) (ci := 12) (v := .ref (ad 87)) (C := RX12) (T := TX12) (N := 100) hx hb hg inX12 hown hK hP 0 rfl rfl 87 (by decide) (hg _ w1793) (fun _ h9 => h9) rfl dX12_visits_119 ?_
                    refine lv_iload hx hb dX12_visits_122 (lv_at hl 0 rfl) ?_
                    refine va_iald (D := D) (i := y43) hx hb hK hP 63 62 rfl rfl (i_in (a := y43.toInt) rfl (by first | exact om_f72f4702fe79 klp45_0.1 r48.2 f53 | first | omega | ((try (have i_tb := Imp.go tb (by omega))); (try (have i_v6 := Imp.go v6 (by omega))); (try (have i_v4 := Imp.go v4 (by omega))); (try (have i_v4 := Imp.go v4 (by omega))); (try (have i_v6 := Imp.go v6 (by omega))); (try (have i_tb := Imp.go tb (by omega))); omega))) dX12_visits_124 ?_
                    refine g_top (v := (V44 87 (Int32.toNatClampNeg y43))) (ajV61 87 (Int32.toNatClampNeg y43) rfl) ?_
                    have r65 : 0 ≤ ((V44 87 (Int32.toNatClampNeg y43))).toInt ∧ ((V44 87 (Int32.toNatClampNeg y43))).toInt ≤ 2 := hMV44 87 (Int32.toNatClampNeg y43)
                    refine lv_iconst (v := 1) hx hb dX12_visits_125 (by decide) ?_
                    refine lv_icmp_ne (tgt := 138) hx hb dX12_visits_126 (by decide) (fun c66 => ?_) (fun c66 => ?_)
                    · skip
                      have f67 : ((V44 87 (Int32.toNatClampNeg y43))).toInt ≠ 1 := b_neq rfl (by decide) c66
                      refine lv_aload_n hx hb dX12_visits_138 rfl (lv_at hl 3 rfl) ?_
                      refine va_get (D := D) (ci := 12) (v := .ref (ad 87)) (C := RX12) (T := TX12) (N := 100) hx hb hg inX12 hown hK hP 0 rfl rfl 87 (by decide) (hg _ w1793) (fun _ h9 => h9) rfl dX12_visits_139 ?_
                      refine lv_iload hx hb dX12_visits_142 (lv_at hl 0 rfl) ?_
                      refine va_iald (D := D) (i := y43) hx hb hK hP 63 62 rfl rfl (i_in (a := y43.toInt) rfl (by first | exact om_f72f4702fe79 klp45_0.1 r48.2 f53 | first | omega | ((try (have i_tb := Imp.go tb (by omega))); (try (have i_v6 := Imp.go v6 (by omega))); (try (have i_v4 := Imp.go v4 (by omega))); (try (have i_v4 := Imp.go v4 (by omega))); (try (have i_v6 := Imp.go v6 (by omega))); (try (have i_tb := Imp.go tb (by omega))); omega))) dX12_visits_144 ?_
                      refine g_top (v := (V44 87 (Int32.toNatClampNeg y43))) (ajV61 87 (Int32.toNatClampNeg y43) rfl) ?_
                      refine lv_if_ne (tgt := 154) hx hb dX12_visits_145 (by decide) (fun c68 => ?_) (fun c68 => ?_)
                      · skip
                        have f69 : ((V44 87 (Int32.toNatClampNeg y43))).toInt ≠ 0 := b_neq rfl (by decide) c68
                        obtain ⟨z70, ez70⟩ : ∃ y : Int32, y = y43 + 1 := ⟨_, rfl⟩
                        have hz70 : z70.toInt = y43.toInt + 1 := i_add ez70 rfl (by decide) (by (first | exact om_d1b22b2ae31e klp45_0.1 r48.2 f53 | omega))
                        refine lv_iinc (v := z70) (lv' := [(4, .int z70), (3, .int z31), (2, .int y8), (0, .ref (ad 0)), (1, .int p0)]) hx hb dX12_visits_154 hl (k := 0) rfl (by rw [ez70]; rfl) (by decide) rfl (fun ls hl => ?_)
                        refine lv_goto (tgt := 91) hx hb dX12_visits_157 (by decide) ?_
                        have pq71 : (V61 0 89).toInt = ((V44 0 89)).toInt := congrArg Int32.toInt (ajV61 0 89 rfl)
                        have cz72 : cz V61 24 = cz V44 24 := cz_ag ajV61 (fun _ => rfl)
                        have pq73 : (V61 0 81).toInt = ((V44 0 81)).toInt := congrArg Int32.toInt (ajV61 0 81 rfl)
                        have c074 : c0k V V61 := (c0k.tr (V := V) (W := V44) (X := V61) xlp45_5 t60 agV44 ⟨rfl, fun _ => rfl, fun _ => rfl, fun _ => rfl, fun _ => rfl, fun _ => rfl, fun _ => rfl⟩)
                        exact ihlp45 z70 V61 H locs ls (by first | exact om_5c2541dbcd85 klp45_0.1 r48.2 f53 hz70 | first | omega | ((try (have i_tb := Imp.go tb (by omega))); (try (have i_v6 := Imp.go v6 (by omega))); (try (have i_v4 := Imp.go v4 (by omega))); (try (have i_v4 := Imp.go v4 (by omega))); (try (have i_v6 := Imp.go v6 (by omega))); (try (have i_tb := Imp.go tb (by omega))); omega)) (show (V61 0 89).toInt = (V 0 89).toInt + 1 from by first | exact om_689eeacb6d53 xlp45_0 pq71 | first | omega | ((try (have i_tb := Imp.go tb (by omega))); (try (have i_v6 := Imp.go v6 (by omega))); (try (have i_v4 := Imp.go v4 (by omega))); (try (have i_v4 := Imp.go v4 (by omega))); (try (have i_v6 := Imp.go v6 (by omega))); (try (have i_tb := Imp.go tb (by omega))); omega)) (show (cz V61 24 : Int) + 1 ≤ (cz V 24 : Int) from by first | exact om_16973c22d95d xlp45_1 cz72 | first | omega | ((try (have i_tb := Imp.go tb (by omega))); (try (have i_v6 := Imp.go v6 (by omega))); (try (have i_v4 := Imp.go v4 (by omega))); (try (have i_v4 := Imp.go v4 (by omega))); (try (have i_v6 := Imp.go v6 (by omega))); (try (have i_tb := Imp.go tb (by omega))); omega)) (show (V61 0 81).toInt + 192 * (cz V61 24 : Int) + 192 ≤ FM + 24 * y8.toInt + z70.toInt from by first | exact om_d2e1df22ebfc xlp45_2 hz70 cz72 pq73 | first | omega | ((try (have i_tb := Imp.go tb (by omega))); (try (have i_v6 := Imp.go v6 (by omega))); (try (have i_v4 := Imp.go v4 (by omega))); (try (have i_v4 := Imp.go v4 (by omega))); (try (have i_v6 := Imp.go v6 (by omega))); (try (have i_tb := Imp.go tb (by omega))); omega)) (show (V 0 81).toInt ≤ (V61 0 81).toInt from by first | exact om_a40cdd94799e xlp45_3 pq73 | first | omega | ((try (have i_tb := Imp.go tb (by omega))); (try (have i_v6 := Imp.go v6 (by omega))); (try (have i_v4 := Imp.go v4 (by omega))); (try (have i_v4 := Imp.go v4 (by omega))); (try (have i_v6 := Imp.go v6 (by omega))); (try (have i_tb := Imp.go tb (by omega))); omega)) (visI.ag xlp45_4 ajV61 (fun _ => rfl) (fun _ => rfl)) c074 (by first | exact om_9592d9319ffa hn hz70 | first | omega | ((try (have i_tb := Imp.go tb (by omega))); (try (have i_v6 := Imp.go v6 (by omega))); (try (have i_v4 := Imp.go v4 (by omega))); (try (have i_v4 := Imp.go v4 (by omega))); (try (have i_v6 := Imp.go v6 (by omega))); (try (have i_tb := Imp.go tb (by omega))); omega)) (agr.tr (agr.tr agr.rf ajV44 (by decide) (by decide)) ajV61 (by decide) (by decide)) hMV61 hP hD hS (lv_sub hl [0, 1, 2, 3, 4] rfl)
                      · skip
                        have f75 : ((V44 87 (Int32.toNatClampNeg y43))).toInt = 0 := b_eq rfl (by decide) c68
                        have pq76 : (V61 0 89).toInt = ((V44 0 89)).toInt := congrArg Int32.toInt (ajV61 0 89 rfl)
                        have wy : WY V61 := WY.I v4 (visI.ag xlp45_4 ajV61 (fun _ => rfl) (fun _ => rfl)) (by (first | exact om_689eeacb6d53 xlp45_0 pq76 | omega)) (by (first | exact om_eafa9039069c r1.1 | omega)) (nwh_ag agV61 ⟨rfl, fun _ => rfl, fun _ => rfl, fun _ => rfl, fun _ => rfl, fun _ => rfl, fun _ => rfl⟩).2
                        have cz77 : cz V61 24 = cz V44 24 := cz_ag ajV61 (fun _ => rfl)
                        have pq78 : (V61 0 81).toInt = ((V44 0 81)).toInt := congrArg Int32.toInt (ajV61 0 81 rfl)
                        obtain ⟨d9, rfl⟩ : ∃ d9, dd = d9 + 1 := ⟨dd - 1, by omega⟩
                        refine lv_aload_n hx hb dX12_visits_148 rfl (lv_at hl 3 rfl) ?_
                        refine lv_iload hx hb dX12_visits_149 (lv_at hl 0 rfl) ?_
                        have pq79 : (V61 87 (Int32.toNatClampNeg y43)).toInt = ((V44 87 (Int32.toNatClampNeg y43))).toInt := congrArg Int32.toInt (ajV61 87 (Int32.toNatClampNeg y43) rfl)
                        refine gA_void (gA_runV (As := [.int y43]) (rest := []) (ci := 12) (q0 := 0) hx hb hml hown hg hP hD hK hS hA hnw hgk ((hk_s_visits d9 rfl) H.size ad kk V61 L y43 (((V61 0 81).toInt + 192 * (cz V61 24 : Int))) hMV61 (by first | omega | ((try (have i_tb := Imp.go tb (by omega))); (try (have i_v6 := Imp.go v6 (by omega))); (try (have i_v4 := Imp.go v4 (by omega))); (try (have i_v4 := Imp.go v4 (by omega))); (try (have i_v6 := Imp.go v6 (by omega))); (try (have i_tb := Imp.go tb (by omega))); omega)) (show (cz V61 24 : Int) ≤ ((d9 : Nat) : Int) from by first | omega | ((try (have i_tb := Imp.go tb (by omega))); (try (have i_v6 := Imp.go v6 (by omega))); (try (have i_v4 := Imp.go v4 (by omega))); (try (have i_v4 := Imp.go v4 (by omega))); (try (have i_v6 := Imp.go v6 (by omega))); (try (have i_tb := Imp.go tb (by omega))); omega)) (show (V61 0 89).toInt + (cz V61 24 : Int) ≤ 24 from by first | exact om_612402a5debc v2 xlp45_0 xlp45_1 pq76 cz77 | first | omega | ((try (have i_tb := Imp.go tb (by omega))); (try (have i_v6 := Imp.go v6 (by omega))); (try (have i_v4 := Imp.go v4 (by omega))); (try (have i_v4 := Imp.go v4 (by omega))); (try (have i_v6 := Imp.go v6 (by omega))); (try (have i_tb := Imp.go tb (by omega))); omega)) (show (V61 87 (Int32.toNatClampNeg y43)).toInt = 0 from by first | exact om_97b844acc88a r65.1 f75 pq79 | first | omega | ((try (have i_tb := Imp.go tb (by omega))); (try (have i_v6 := Imp.go v6 (by omega))); (try (have i_v4 := Imp.go v4 (by omega))); (try (have i_v4 := Imp.go v4 (by omega))); (try (have i_v6 := Imp.go v6 (by omega))); (try (have i_tb := Imp.go tb (by omega))); omega)) wy (show (V61 0 81).toInt + 192 * (cz V61 24 : Int) ≤ (((V61 0 81).toInt + 192 * (cz V61 24 : Int))) from by first | exact om_b0110067cd1f | first | omega | ((try (have i_tb := Imp.go tb (by omega))); (try (have i_v6 := Imp.go v6 (by omega))); (try (have i_v4 := Imp.go v4 (by omega))); (try (have i_v4 := Imp.go v4 (by omega))); (try (have i_v6 := Imp.go v6 (by omega))); (try (have i_tb := Imp.go tb (by omega))); omega)) (show (((V61 0 81).toInt + 192 * (cz V61 24 : Int))) ≤ 999000 from by first | exact om_845b6c2e6137 v7 r16.2 f27 xlp45_2 r48.2 f53 cz77 pq78 | first | omega | ((try (have i_tb := Imp.go tb (by omega))); (try (have i_v6 := Imp.go v6 (by omega))); (try (have i_v4 := Imp.go v4 (by omega))); (try (have i_v4 := Imp.go v4 (by omega))); (try (have i_v6 := Imp.go v6 (by omega))); (try (have i_tb := Imp.go tb (by omega))); omega)) (by rw [(nwh_ag agV61 ⟨rfl, fun _ => rfl, fun _ => rfl, fun _ => rfl, fun _ => rfl, fun _ => rfl, fun _ => rfl⟩).2]; show y43.toInt < (V 19 (Int32.toNatClampNeg (V 0 11))).toInt; first | omega | ((try (have i_tb := Imp.go tb (by omega))); (try (have i_v6 := Imp.go v6 (by omega))); (try (have i_v4 := Imp.go v4 (by omega))); (try (have i_v4 := Imp.go v4 (by omega))); (try (have i_v6 := Imp.go v6 (by omega))); (try (have i_tb := Imp.go tb (by omega))); omega)) (TB.ag tb hMV agV61 rfl (by decide) (by decide))) w2187 w2189 w122 w172 w2190 rfl rfl hdV_yX12_visits ⟨(by show 10 * d9 + 8 + 1 ≤ 10 * (d9 + 1) + 8; omega), (by show 8 + (5 + 11) + (300 * d9 + 260) ≤ 300 * (d9 + 1) + 260; omega)⟩ rfl hl.1 rfl (Nat.le_of_ble_eq_true rfl) dX12_visits_151 ⟨Nat.le_of_ble_eq_true rfl, Nat.le_of_ble_eq_true rfl⟩) hP hD hK hS hA (fun u81 H locs w82 hP hD hK hS => ?_)
                        obtain ⟨V89, L90⟩ := u81
                        obtain ⟨hMV89, ajV89, axL90, t83, t84, t85, t86, t87, t88⟩ := w82
                        have axL90 : L = L90 := Eq.symm axL90
                        subst axL90
                        have hP : va_P D vwCl (mw ad kk ks.1 V89 L) H := hP
                        have hD : va_D A (mw ad kk ks.1 V89 L) := hD
                        have hMV89 : rgd bM V89 := hMV89
                        have ajV89 : agr [(0, 81), (0, 89)] [80, 82, 83, 84, 85, 87, 88] V61 V89 := ajV89
                        have agV89 : agr [(0, 81), (0, 89)] [80, 82, 83, 84, 85, 87, 88] V V89 := agV61.tr ajV89 (by decide) (by decide)
                        have t83 : (V89 0 89).toInt = (V61 0 89).toInt := t83
                        have t84 : (cz V89 24 : Int) + 1 ≤ (cz V61 24 : Int) := t84
                        have t85 : (V89 0 81).toInt + 192 * (cz V89 24 : Int) ≤ (((V61 0 81).toInt + 192 * (cz V61 24 : Int))) := t85
                        have t86 : (V61 0 81).toInt ≤ (V89 0 81).toInt := t86
                        have t87 : visP V61 V89 := t87
                        have t88 : c0k V61 V89 := t88
                        have r91 : 0 ≤ ((V89 0 89)).toInt ∧ ((V89 0 89)).toInt ≤ 24 := hMV89 0 89
                        have r92 : 0 ≤ ((V89 0 81)).toInt ∧ ((V89 0 81)).toInt ≤ 1000000 := hMV89 0 81
                        obtain ⟨z93, ez93⟩ : ∃ y : Int32, y = y43 + 1 := ⟨_, rfl⟩
                        have hz93 : z93.toInt = y43.toInt + 1 := i_add ez93 rfl (by decide) (by (first | exact om_d1b22b2ae31e klp45_0.1 r48.2 f53 | omega))
                        refine lv_iinc (v := z93) (lv' := [(4, .int z93), (3, .int z31), (2, .int y8), (0, .ref (ad 0)), (1, .int p0)]) hx hb dX12_visits_154 hl (k := 0) rfl (by rw [ez93]; rfl) (by decide) rfl (fun ls hl => ?_)
                        refine lv_goto (tgt := 91) hx hb dX12_visits_157 (by decide) ?_
                        have c094 : c0k V V89 := (c0k.tr (V := V) (W := V61) (X := V89) (c0k.tr (V := V) (W := V44) (X := V61) xlp45_5 t60 agV44 ⟨rfl, fun _ => rfl, fun _ => rfl, fun _ => rfl, fun _ => rfl, fun _ => rfl, fun _ => rfl⟩) t88 agV61 ⟨rfl, fun _ => rfl, fun _ => rfl, fun _ => rfl, fun _ => rfl, fun _ => rfl, fun _ => rfl⟩)
                        exact ihlp45 z93 V89 H locs ls (by first | exact om_5c2541dbcd85 klp45_0.1 r48.2 f53 hz93 | first | omega | ((try (have i_tb := Imp.go tb (by omega))); (try (have i_v6 := Imp.go v6 (by omega))); (try (have i_v4 := Imp.go v4 (by omega))); (try (have i_v4 := Imp.go v4 (by omega))); (try (have i_v6 := Imp.go v6 (by omega))); (try (have i_tb := Imp.go tb (by omega))); omega)) (show (V89 0 89).toInt = (V 0 89).toInt + 1 from by first | exact om_f75c7fdf50ff xlp45_0 pq76 t83 | first | omega | ((try (have i_tb := Imp.go tb (by omega))); (try (have i_v6 := Imp.go v6 (by omega))); (try (have i_v4 := Imp.go v4 (by omega))); (try (have i_v4 := Imp.go v4 (by omega))); (try (have i_v6 := Imp.go v6 (by omega))); (try (have i_tb := Imp.go tb (by omega))); omega)) (show (cz V89 24 : Int) + 1 ≤ (cz V 24 : Int) from by first | exact om_8afc3d38cc82 xlp45_1 cz77 t84 | first | omega | ((try (have i_tb := Imp.go tb (by omega))); (try (have i_v6 := Imp.go v6 (by omega))); (try (have i_v4 := Imp.go v4 (by omega))); (try (have i_v4 := Imp.go v4 (by omega))); (try (have i_v6 := Imp.go v6 (by omega))); (try (have i_tb := Imp.go tb (by omega))); omega)) (show (V89 0 81).toInt + 192 * (cz V89 24 : Int) + 192 ≤ FM + 24 * y8.toInt + z93.toInt from by first | exact om_c193b4947be9 xlp45_2 cz77 pq78 t85 hz93 | first | omega | ((try (have i_tb := Imp.go tb (by omega))); (try (have i_v6 := Imp.go v6 (by omega))); (try (have i_v4 := Imp.go v4 (by omega))); (try (have i_v4 := Imp.go v4 (by omega))); (try (have i_v6 := Imp.go v6 (by omega))); (try (have i_tb := Imp.go tb (by omega))); omega)) (show (V 0 81).toInt ≤ (V89 0 81).toInt from by first | exact om_860317e29598 xlp45_3 pq78 t86 | first | omega | ((try (have i_tb := Imp.go tb (by omega))); (try (have i_v6 := Imp.go v6 (by omega))); (try (have i_v4 := Imp.go v4 (by omega))); (try (have i_v4 := Imp.go v4 (by omega))); (try (have i_v6 := Imp.go v6 (by omega))); (try (have i_tb := Imp.go tb (by omega))); omega)) (visI.P (visI.ag xlp45_4 ajV61 (fun _ => rfl) (fun _ => rfl)) t87 (by omega)) c094 (by first | exact om_9592d9319ffa hn hz93 | first | omega | ((try (have i_tb := Imp.go tb (by omega))); (try (have i_v6 := Imp.go v6 (by omega))); (try (have i_v4 := Imp.go v4 (by omega))); (try (have i_v4 := Imp.go v4 (by omega))); (try (have i_v6 := Imp.go v6 (by omega))); (try (have i_tb := Imp.go tb (by omega))); omega)) (agr.tr (agr.tr (agr.tr agr.rf ajV44 (by decide) (by decide)) ajV61 (by decide) (by decide)) ajV89 (by decide) (by decide)) hMV89 hP hD hS (lv_sub hl [0, 1, 2, 3, 4] rfl)
                    · skip
                      have f95 : ((V44 87 (Int32.toNatClampNeg y43))).toInt = 1 := b_eq rfl (by decide) c66
                      have pq96 : (V61 0 89).toInt = ((V44 0 89)).toInt := congrArg Int32.toInt (ajV61 0 89 rfl)
                      have wy : WY V61 := WY.I v4 (visI.ag xlp45_4 ajV61 (fun _ => rfl) (fun _ => rfl)) (by (first | exact om_689eeacb6d53 xlp45_0 pq96 | omega)) (by (first | exact om_eafa9039069c r1.1 | omega)) (nwh_ag agV61 ⟨rfl, fun _ => rfl, fun _ => rfl, fun _ => rfl, fun _ => rfl, fun _ => rfl, fun _ => rfl⟩).2
                      have kd := i_clamp (x := y43) rfl (by (first | exact om_eafa9039069c klp45_0.1 | omega))
                      have pq97 : (V61 87 (Int32.toNatClampNeg y43)).toInt = ((V44 87 (Int32.toNatClampNeg y43))).toInt := congrArg Int32.toInt (ajV61 87 (Int32.toNatClampNeg y43) rfl)
                      have e19 := congrArg Int32.toInt (nwh_ag agV61 ⟨rfl, fun _ => rfl, fun _ => rfl, fun _ => rfl, fun _ => rfl, fun _ => rfl, fun _ => rfl⟩).2
                      have e19b : (V 19 (nwh V)).toInt = (V 19 (Int32.toNatClampNeg (V 0 11))).toInt := rfl
                      obtain ⟨jj, hj1, hj2⟩ := wy (Int32.toNatClampNeg y43) (by omega) (by omega)
                      refine lv_aload_n hx hb dX12_visits_129 rfl (lv_at hl 3 rfl) ?_
                      refine lv_iload hx hb dX12_visits_130 (lv_at hl 0 rfl) ?_
                      have pq98 : (V61 0 81).toInt = ((V44 0 81)).toInt := congrArg Int32.toInt (ajV61 0 81 rfl)
                      have pq99 : (V61 88 jj).toInt = ((V44 88 jj)).toInt := congrArg Int32.toInt (ajV61 88 jj rfl)
                      have r100 : 0 ≤ ((V44 88 jj)).toInt ∧ ((V44 88 jj)).toInt ≤ 23 := hMV44 88 jj
                      refine gA_void (gA_runV (As := [.int y43]) (rest := []) (ci := 12) (q0 := 0) hx hb hml hown hg hP hD hK hS hA hnw hgk (s_addCycle l D ks H.size ad kk V61 L y43 (jj) hMV61 (by first | exact om_ac7b8d4d9f10 klp45_0.1 r48.2 f53 | first | omega | ((try (have i_tb := Imp.go tb (by omega))); (try (have i_v6 := Imp.go v6 (by omega))); (try (have i_v4 := Imp.go v4 (by omega))); (try (have i_v4 := Imp.go v4 (by omega))); (try (have i_v6 := Imp.go v6 (by omega))); (try (have i_tb := Imp.go tb (by omega))); omega)) (show (V61 0 81).toInt ≤ 999999 from by first | exact om_d2882168c7a4 v7 r16.2 f27 xlp45_2 r48.2 f53 pq98 | first | omega | ((try (have i_tb := Imp.go tb (by omega))); (try (have i_v6 := Imp.go v6 (by omega))); (try (have i_v4 := Imp.go v4 (by omega))); (try (have i_v4 := Imp.go v4 (by omega))); (try (have i_v6 := Imp.go v6 (by omega))); (try (have i_tb := Imp.go tb (by omega))); omega)) (show (V61 88 (jj)).toInt = y43.toInt from by first | omega | ((try (have i_tb := Imp.go tb (by omega))); (try (have i_v6 := Imp.go v6 (by omega))); (try (have i_v4 := Imp.go v4 (by omega))); (try (have i_v4 := Imp.go v4 (by omega))); (try (have i_v6 := Imp.go v6 (by omega))); (try (have i_tb := Imp.go tb (by omega))); omega)) (show (jj) < (V61 0 89).toInt from by first | omega | ((try (have i_tb := Imp.go tb (by omega))); (try (have i_v6 := Imp.go v6 (by omega))); (try (have i_v4 := Imp.go v4 (by omega))); (try (have i_v4 := Imp.go v4 (by omega))); (try (have i_v6 := Imp.go v6 (by omega))); (try (have i_tb := Imp.go tb (by omega))); omega))) w2195 w2197 w124 w172 w2198 rfl rfl hdV_yX12_addCycle ⟨(by show 1 + 1 ≤ 10 * dd + 8; (first | exact om_491333b5ac6e v1 xlp45_1 | omega)), (by show 8 + (4 + 11) + (23) ≤ 300 * dd + 260; (first | exact om_16c3656e2818 v1 xlp45_1 | omega))⟩ rfl hl.1 rfl (Nat.le_of_ble_eq_true rfl) dX12_visits_132 ⟨Nat.le_of_ble_eq_true rfl, Nat.le_of_ble_eq_true rfl⟩) hP hD hK hS hA (fun u102 H locs w103 hP hD hK hS => ?_)
                      obtain ⟨V105, L106⟩ := u102
                      obtain ⟨hMV105, ajV105, axL106, t104⟩ := w103
                      have axL106 : L = L106 := Eq.symm axL106
                      subst axL106
                      have hP : va_P D vwCl (mw ad kk ks.1 V105 L) H := hP
                      have hD : va_D A (mw ad kk ks.1 V105 L) := hD
                      have hMV105 : rgd bM V105 := hMV105
                      have ajV105 : agr [(0, 81)] [82, 83, 84, 85] V61 V105 := ajV105
                      have agV105 : agr [(0, 81), (0, 89)] [80, 82, 83, 84, 85, 87, 88] V V105 := agV61.tr ajV105 (by decide) (by decide)
                      have t104 : (V105 0 81).toInt = (V61 0 81).toInt + 1 := t104
                      have r107 : 0 ≤ ((V105 0 81)).toInt ∧ ((V105 0 81)).toInt ≤ 1000000 := hMV105 0 81
                      refine lv_goto (tgt := 154) hx hb dX12_visits_135 (by decide) ?_
                      obtain ⟨z108, ez108⟩ : ∃ y : Int32, y = y43 + 1 := ⟨_, rfl⟩
                      have hz108 : z108.toInt = y43.toInt + 1 := i_add ez108 rfl (by decide) (by (first | exact om_d1b22b2ae31e klp45_0.1 r48.2 f53 | omega))
                      refine lv_iinc (v := z108) (lv' := [(4, .int z108), (3, .int z31), (2, .int y8), (0, .ref (ad 0)), (1, .int p0)]) hx hb dX12_visits_154 hl (k := 0) rfl (by rw [ez108]; rfl) (by decide) rfl (fun ls hl => ?_)
                      refine lv_goto (tgt := 91) hx hb dX12_visits_157 (by decide) ?_
                      have pq109 : (V105 0 89).toInt = ((V44 0 89)).toInt := congrArg Int32.toInt ((ajV105 0 89 rfl).trans (ajV61 0 89 rfl))
                      have cz110 : cz V61 24 = cz V44 24 := cz_ag ajV61 (fun _ => rfl)
                      have cz111 : cz V105 24 = cz V61 24 := cz_ag ajV105 (fun _ => rfl)
                      have c0112 : c0k V V105 := (c0k.tr (V := V) (W := V61) (X := V105) (c0k.tr (V := V) (W := V44) (X := V61) xlp45_5 t60 agV44 ⟨rfl, fun _ => rfl, fun _ => rfl, fun _ => rfl, fun _ => rfl, fun _ => rfl, fun _ => rfl⟩) (c0k.ag ajV105 rfl) agV61 ⟨rfl, fun _ => rfl, fun _ => rfl, fun _ => rfl, fun _ => rfl, fun _ => rfl, fun _ => rfl⟩)
                      exact ihlp45 z108 V105 H locs ls (by first | exact om_5c2541dbcd85 klp45_0.1 r48.2 f53 hz108 | first | omega | ((try (have i_tb := Imp.go tb (by omega))); (try (have i_v6 := Imp.go v6 (by omega))); (try (have i_v4 := Imp.go v4 (by omega))); (try (have i_v4 := Imp.go v4 (by omega))); (try (have i_v6 := Imp.go v6 (by omega))); (try (have i_tb := Imp.go tb (by omega))); omega)) (show (V105 0 89).toInt = (V 0 89).toInt + 1 from by first | exact om_689eeacb6d53 xlp45_0 pq109 | first | omega | ((try (have i_tb := Imp.go tb (by omega))); (try (have i_v6 := Imp.go v6 (by omega))); (try (have i_v4 := Imp.go v4 (by omega))); (try (have i_v4 := Imp.go v4 (by omega))); (try (have i_v6 := Imp.go v6 (by omega))); (try (have i_tb := Imp.go tb (by omega))); omega)) (show (cz V105 24 : Int) + 1 ≤ (cz V 24 : Int) from by first | exact om_1b06118e3a49 xlp45_1 cz110 cz111 | first | omega | ((try (have i_tb := Imp.go tb (by omega))); (try (have i_v6 := Imp.go v6 (by omega))); (try (have i_v4 := Imp.go v4 (by omega))); (try (have i_v4 := Imp.go v4 (by omega))); (try (have i_v6 := Imp.go v6 (by omega))); (try (have i_tb := Imp.go tb (by omega))); omega)) (show (V105 0 81).toInt + 192 * (cz V105 24 : Int) + 192 ≤ FM + 24 * y8.toInt + z108.toInt from by first | exact om_375f92f23f70 xlp45_2 pq98 t104 hz108 cz110 cz111 | first | omega | ((try (have i_tb := Imp.go tb (by omega))); (try (have i_v6 := Imp.go v6 (by omega))); (try (have i_v4 := Imp.go v4 (by omega))); (try (have i_v4 := Imp.go v4 (by omega))); (try (have i_v6 := Imp.go v6 (by omega))); (try (have i_tb := Imp.go tb (by omega))); omega)) (show (V 0 81).toInt ≤ (V105 0 81).toInt from by first | exact om_593f1437d28d xlp45_3 pq98 t104 | first | omega | ((try (have i_tb := Imp.go tb (by omega))); (try (have i_v6 := Imp.go v6 (by omega))); (try (have i_v4 := Imp.go v4 (by omega))); (try (have i_v4 := Imp.go v4 (by omega))); (try (have i_v6 := Imp.go v6 (by omega))); (try (have i_tb := Imp.go tb (by omega))); omega)) (visI.ag (visI.ag xlp45_4 ajV61 (fun _ => rfl) (fun _ => rfl)) ajV105 (fun _ => rfl) (fun _ => rfl)) c0112 (by first | exact om_9592d9319ffa hn hz108 | first | omega | ((try (have i_tb := Imp.go tb (by omega))); (try (have i_v6 := Imp.go v6 (by omega))); (try (have i_v4 := Imp.go v4 (by omega))); (try (have i_v4 := Imp.go v4 (by omega))); (try (have i_v6 := Imp.go v6 (by omega))); (try (have i_tb := Imp.go tb (by omega))); omega)) (agr.tr (agr.tr (agr.tr agr.rf ajV44 (by decide) (by decide)) ajV61 (by decide) (by decide)) ajV105 (by decide) (by decide)) hMV105 hP hD hS (lv_sub hl [0, 1, 2, 3, 4] rfl)
                  · skip
                    have f113 : z56.toInt = 0 := b_eq rfl (by decide) c63
                    refine lv_goto (tgt := 154) hx hb dX12_visits_115 (by decide) ?_
                    obtain ⟨z114, ez114⟩ : ∃ y : Int32, y = y43 + 1 := ⟨_, rfl⟩
                    have hz114 : z114.toInt = y43.toInt + 1 := i_add ez114 rfl (by decide) (by (first | exact om_d1b22b2ae31e klp45_0.1 r48.2 f53 | omega))
                    refine lv_iinc (v := z114) (lv' := [(4, .int z114), (3, .int z31), (2, .int y8), (0, .ref (ad 0)), (1, .int p0)]) hx hb dX12_visits_154 hl (k := 0) rfl (by rw [ez114]; rfl) (by decide) rfl (fun ls hl => ?_)
                    refine lv_goto (tgt := 91) hx hb dX12_visits_157 (by decide) ?_
                    have pq115 : (V61 0 89).toInt = ((V44 0 89)).toInt := congrArg Int32.toInt (ajV61 0 89 rfl)
                    have cz116 : cz V61 24 = cz V44 24 := cz_ag ajV61 (fun _ => rfl)
                    have pq117 : (V61 0 81).toInt = ((V44 0 81)).toInt := congrArg Int32.toInt (ajV61 0 81 rfl)
                    have c0118 : c0k V V61 := (c0k.tr (V := V) (W := V44) (X := V61) xlp45_5 t60 agV44 ⟨rfl, fun _ => rfl, fun _ => rfl, fun _ => rfl, fun _ => rfl, fun _ => rfl, fun _ => rfl⟩)
                    exact ihlp45 z114 V61 H locs ls (by first | exact om_5c2541dbcd85 klp45_0.1 r48.2 f53 hz114 | first | omega | ((try (have i_tb := Imp.go tb (by omega))); (try (have i_v6 := Imp.go v6 (by omega))); (try (have i_v4 := Imp.go v4 (by omega))); (try (have i_v4 := Imp.go v4 (by omega))); (try (have i_v6 := Imp.go v6 (by omega))); (try (have i_tb := Imp.go tb (by omega))); omega)) (show (V61 0 89).toInt = (V 0 89).toInt + 1 from by first | exact om_689eeacb6d53 xlp45_0 pq115 | first | omega | ((try (have i_tb := Imp.go tb (by omega))); (try (have i_v6 := Imp.go v6 (by omega))); (try (have i_v4 := Imp.go v4 (by omega))); (try (have i_v4 := Imp.go v4 (by omega))); (try (have i_v6 := Imp.go v6 (by omega))); (try (have i_tb := Imp.go tb (by omega))); omega)) (show (cz V61 24 : Int) + 1 ≤ (cz V 24 : Int) from by first | exact om_16973c22d95d xlp45_1 cz116 | first | omega | ((try (have i_tb := Imp.go tb (by omega))); (try (have i_v6 := Imp.go v6 (by omega))); (try (have i_v4 := Imp.go v4 (by omega))); (try (have i_v4 := Imp.go v4 (by omega))); (try (have i_v6 := Imp.go v6 (by omega))); (try (have i_tb := Imp.go tb (by omega))); omega)) (show (V61 0 81).toInt + 192 * (cz V61 24 : Int) + 192 ≤ FM + 24 * y8.toInt + z114.toInt from by first | exact om_d2e1df22ebfc xlp45_2 hz114 cz116 pq117 | first | omega | ((try (have i_tb := Imp.go tb (by omega))); (try (have i_v6 := Imp.go v6 (by omega))); (try (have i_v4 := Imp.go v4 (by omega))); (try (have i_v4 := Imp.go v4 (by omega))); (try (have i_v6 := Imp.go v6 (by omega))); (try (have i_tb := Imp.go tb (by omega))); omega)) (show (V 0 81).toInt ≤ (V61 0 81).toInt from by first | exact om_a40cdd94799e xlp45_3 pq117 | first | omega | ((try (have i_tb := Imp.go tb (by omega))); (try (have i_v6 := Imp.go v6 (by omega))); (try (have i_v4 := Imp.go v4 (by omega))); (try (have i_v4 := Imp.go v4 (by omega))); (try (have i_v6 := Imp.go v6 (by omega))); (try (have i_tb := Imp.go tb (by omega))); omega)) (visI.ag xlp45_4 ajV61 (fun _ => rfl) (fun _ => rfl)) c0118 (by first | exact om_9592d9319ffa hn hz114 | first | omega | ((try (have i_tb := Imp.go tb (by omega))); (try (have i_v6 := Imp.go v6 (by omega))); (try (have i_v4 := Imp.go v4 (by omega))); (try (have i_v4 := Imp.go v4 (by omega))); (try (have i_v6 := Imp.go v6 (by omega))); (try (have i_tb := Imp.go tb (by omega))); omega)) (agr.tr (agr.tr agr.rf ajV44 (by decide) (by decide)) ajV61 (by decide) (by decide)) hMV61 hP hD hS (lv_sub hl [0, 1, 2, 3, 4] rfl)
            have r119 : Int32.toInt 0 = 0 := by decide
            have c0120 : c0k V V9 := xlp10_5
            exact lp45 ((24 - (Int32.toInt 0) + 1 : Int).toNat) 0 V9 H locs ls (by decide) (show (V9 0 89).toInt = (V 0 89).toInt + 1 from by first | exact om_55c67efb91e5 xlp10_0 | first | omega | ((try (have i_tb := Imp.go tb (by omega))); (try (have i_v6 := Imp.go v6 (by omega))); (try (have i_v4 := Imp.go v4 (by omega))); (try (have i_v4 := Imp.go v4 (by omega))); (try (have i_v6 := Imp.go v6 (by omega))); (try (have i_tb := Imp.go tb (by omega))); omega)) (show (cz V9 24 : Int) + 1 ≤ (cz V 24 : Int) from by first | exact om_3196453e4318 xlp10_1 | first | omega | ((try (have i_tb := Imp.go tb (by omega))); (try (have i_v6 := Imp.go v6 (by omega))); (try (have i_v4 := Imp.go v4 (by omega))); (try (have i_v4 := Imp.go v4 (by omega))); (try (have i_v6 := Imp.go v6 (by omega))); (try (have i_tb := Imp.go tb (by omega))); omega)) (show (V9 0 81).toInt + 192 * (cz V9 24 : Int) + 192 ≤ FM + 24 * y8.toInt + (Int32.toInt 0) from by first | exact om_47f5b5143481 xlp10_2 r119 | first | omega | ((try (have i_tb := Imp.go tb (by omega))); (try (have i_v6 := Imp.go v6 (by omega))); (try (have i_v4 := Imp.go v4 (by omega))); (try (have i_v4 := Imp.go v4 (by omega))); (try (have i_v6 := Imp.go v6 (by omega))); (try (have i_tb := Imp.go tb (by omega))); omega)) (show (V 0 81).toInt ≤ (V9 0 81).toInt from by first | exact om_f4906d00fa52 xlp10_3 | first | omega | ((try (have i_tb := Imp.go tb (by omega))); (try (have i_v6 := Imp.go v6 (by omega))); (try (have i_v4 := Imp.go v4 (by omega))); (try (have i_v4 := Imp.go v4 (by omega))); (try (have i_v6 := Imp.go v6 (by omega))); (try (have i_tb := Imp.go tb (by omega))); omega)) xlp10_4 c0120 (by first | exact om_817980d3aa47 | first | omega | ((try (have i_tb := Imp.go tb (by omega))); (try (have i_v6 := Imp.go v6 (by omega))); (try (have i_v4 := Imp.go v4 (by omega))); (try (have i_v4 := Imp.go v4 (by omega))); (try (have i_v6 := Imp.go v6 (by omega))); (try (have i_tb := Imp.go tb (by omega))); omega)) agr.rf hMV9 hP hD hS (lv_sub hl [0, 1, 2, 3, 4] rfl)
          · skip
            have f121 : ((V 86 (Int32.toNatClampNeg z39))).toInt ≠ 0 := b_neq rfl (by decide) c41
            refine lv_goto (tgt := 160) hx hb dX12_visits_85 (by decide) ?_
            obtain ⟨z122, ez122⟩ : ∃ y : Int32, y = y8 + 1 := ⟨_, rfl⟩
            have hz122 : z122.toInt = y8.toInt + 1 := i_add ez122 rfl (by decide) (by (first | exact om_56ff1e099a1d klp10_0.1 r16.2 f27 | omega))
            refine lv_iinc (v := z122) (lv' := [(2, .int z122), (3, .int z31), (0, .ref (ad 0)), (1, .int p0)]) hx hb dX12_visits_160 hl (k := 1) rfl (by rw [ez122]; rfl) (by decide) rfl (fun ls hl => ?_)
            refine lv_goto (tgt := 29) hx hb dX12_visits_163 (by decide) ?_
            have c0123 : c0k V V9 := xlp10_5
            exact ihlp10 z122 V9 H locs ls (by first | exact om_7c19206264d1 klp10_0.1 r16.2 f27 hz122 | first | omega | ((try (have i_tb := Imp.go tb (by omega))); (try (have i_v6 := Imp.go v6 (by omega))); (try (have i_v4 := Imp.go v4 (by omega))); (try (have i_v4 := Imp.go v4 (by omega))); (try (have i_v6 := Imp.go v6 (by omega))); (try (have i_tb := Imp.go tb (by omega))); omega)) (show (V9 0 89).toInt = (V 0 89).toInt + 1 from by first | exact om_55c67efb91e5 xlp10_0 | first | omega | ((try (have i_tb := Imp.go tb (by omega))); (try (have i_v6 := Imp.go v6 (by omega))); (try (have i_v4 := Imp.go v4 (by omega))); (try (have i_v4 := Imp.go v4 (by omega))); (try (have i_v6 := Imp.go v6 (by omega))); (try (have i_tb := Imp.go tb (by omega))); omega)) (show (cz V9 24 : Int) + 1 ≤ (cz V 24 : Int) from by first | exact om_3196453e4318 xlp10_1 | first | omega | ((try (have i_tb := Imp.go tb (by omega))); (try (have i_v6 := Imp.go v6 (by omega))); (try (have i_v4 := Imp.go v4 (by omega))); (try (have i_v4 := Imp.go v4 (by omega))); (try (have i_v6 := Imp.go v6 (by omega))); (try (have i_tb := Imp.go tb (by omega))); omega)) (show (V9 0 81).toInt + 192 * (cz V9 24 : Int) + 192 ≤ FM + 24 * z122.toInt from by first | exact om_9b8773cb5ff2 xlp10_2 hz122 | first | omega | ((try (have i_tb := Imp.go tb (by omega))); (try (have i_v6 := Imp.go v6 (by omega))); (try (have i_v4 := Imp.go v4 (by omega))); (try (have i_v4 := Imp.go v4 (by omega))); (try (have i_v6 := Imp.go v6 (by omega))); (try (have i_tb := Imp.go tb (by omega))); omega)) (show (V 0 81).toInt ≤ (V9 0 81).toInt from by first | exact om_f4906d00fa52 xlp10_3 | first | omega | ((try (have i_tb := Imp.go tb (by omega))); (try (have i_v6 := Imp.go v6 (by omega))); (try (have i_v4 := Imp.go v4 (by omega))); (try (have i_v4 := Imp.go v4 (by omega))); (try (have i_v6 := Imp.go v6 (by omega))); (try (have i_tb := Imp.go tb (by omega))); omega)) xlp10_4 c0123 (by first | exact om_b0e3ceac5369 hn hz122 | first | omega | ((try (have i_tb := Imp.go tb (by omega))); (try (have i_v6 := Imp.go v6 (by omega))); (try (have i_v4 := Imp.go v4 (by omega))); (try (have i_v4 := Imp.go v4 (by omega))); (try (have i_v6 := Imp.go v6 (by omega))); (try (have i_tb := Imp.go tb (by omega))); omega)) (agr.tr agr.rf ajV9 (by decide) (by decide)) hMV9 hP hD hS (lv_sub hl [0, 2, 3] rfl)
  have r124 : Int32.toInt 0 = 0 := by decide
  have pq125 : (V7 0 89).toInt = z6.toInt := congrArg Int32.toInt (up2_s hV7)
  have cz126 : cz V4 24 + 1 = cz V 24 := (cz_put hV4 (by decide) 24).2.1 (by have h9 := i_clamp (x := p0) rfl (by (first | exact om_eafa9039069c rg_p0.1 | omega)); omega) (by omega)
  have cz127 : cz V5 24 = cz V4 24 := cz_o hV5 (by decide)
  have cz128 : cz V7 24 = cz V5 24 := cz_o hV7 (by decide)
  have pq129 : (V7 0 81).toInt = ((V 0 81)).toInt := congrArg Int32.toInt ((up2_k hV7 (by decide)).trans ((up2_o hV5 (by decide)).trans (up2_o hV4 (by decide))))
  have kq := i_clamp (x := (V 0 89)) rfl (by (first | exact om_eafa9039069c r1.1 | omega))
  have kp := i_clamp (x := p0) rfl (by (first | exact om_eafa9039069c rg_p0.1 | omega))
  have c0130 : c0k V V7 := (c0k.tr (V := V) (W := V5) (X := V7) (c0k.tr (V := V) (W := V4) (X := V5) (c0k.tr (V := V) (W := V) (X := V4) c0k.rf (Or.inl (up2_o hV4 (by decide))) agV ⟨rfl, fun _ => rfl, fun _ => rfl, fun _ => rfl, fun _ => rfl, fun _ => rfl, fun _ => rfl⟩) (Or.inl (up2_o hV5 (by decide))) agV4 ⟨rfl, fun _ => rfl, fun _ => rfl, fun _ => rfl, fun _ => rfl, fun _ => rfl, fun _ => rfl⟩) (Or.inl (up2_o hV7 (by decide))) agV5 ⟨rfl, fun _ => rfl, fun _ => rfl, fun _ => rfl, fun _ => rfl, fun _ => rfl, fun _ => rfl⟩)
  exact lp10 ((8 - (Int32.toInt 0) + 1 : Int).toNat) 0 V7 H locs ls (by decide) (show (V7 0 89).toInt = (V 0 89).toInt + 1 from by first | exact om_689eeacb6d53 hz6 pq125 | first | omega | ((try (have i_tb := Imp.go tb (by omega))); (try (have i_v6 := Imp.go v6 (by omega))); (try (have i_v4 := Imp.go v4 (by omega))); (try (have i_v4 := Imp.go v4 (by omega))); (try (have i_v6 := Imp.go v6 (by omega))); (try (have i_tb := Imp.go tb (by omega))); omega)) (show (cz V7 24 : Int) + 1 ≤ (cz V 24 : Int) from by first | exact om_47921a11ec63 cz126 cz127 cz128 | first | omega | ((try (have i_tb := Imp.go tb (by omega))); (try (have i_v6 := Imp.go v6 (by omega))); (try (have i_v4 := Imp.go v4 (by omega))); (try (have i_v4 := Imp.go v4 (by omega))); (try (have i_v6 := Imp.go v6 (by omega))); (try (have i_tb := Imp.go tb (by omega))); omega)) (show (V7 0 81).toInt + 192 * (cz V7 24 : Int) + 192 ≤ FM + 24 * (Int32.toInt 0) from by first | exact om_3548175b5d28 v5 r124 cz126 cz127 cz128 pq129 | first | omega | ((try (have i_tb := Imp.go tb (by omega))); (try (have i_v6 := Imp.go v6 (by omega))); (try (have i_v4 := Imp.go v4 (by omega))); (try (have i_v4 := Imp.go v4 (by omega))); (try (have i_v6 := Imp.go v6 (by omega))); (try (have i_tb := Imp.go tb (by omega))); omega)) (show (V 0 81).toInt ≤ (V7 0 81).toInt from by first | exact om_abdc88b0c8fc pq129 | first | omega | ((try (have i_tb := Imp.go tb (by omega))); (try (have i_v6 := Imp.go v6 (by omega))); (try (have i_v4 := Imp.go v4 (by omega))); (try (have i_v4 := Imp.go v4 (by omega))); (try (have i_v6 := Imp.go v6 (by omega))); (try (have i_tb := Imp.go tb (by omega))); omega)) (visI.new hV4 hV5 hV7 rfl (by (first | exact om_639da7453e33 kq | omega)) (by omega)) c0130 (by first | exact om_a4cbf953e09c | first | omega | ((try (have i_tb := Imp.go tb (by omega))); (try (have i_v6 := Imp.go v6 (by omega))); (try (have i_v4 := Imp.go v4 (by omega))); (try (have i_v4 := Imp.go v4 (by omega))); (try (have i_v6 := Imp.go v6 (by omega))); (try (have i_tb := Imp.go tb (by omega))); omega)) agr.rf hMV7 hP hD hS (lv_sub hl [0, 1, 2] rfl)
theorem K_visits {l : Launch} {D : va_G} {ks : KS} : ∀ dd, K_s_visits l D ks dd
  | 0 => s_visits (fun d9 h => absurd h (by omega))
  | d + 1 => s_visits (fun d9 h => by
    have e : d9 = d := by omega
    subst e
    exact K_visits d9)
end
section
theorem DD.nx {fs : List (Nat × Nat)} {cs : List Nat} {V W : Vf} {l k : Int} {c j lo hi : Nat} (h : DD V l k) (c0 : c0k V W) (a : agr fs cs V W) (q : thC fs cs) (hn : 1 ≤ (V 30 (8 * (24 * nwh V + c) + j)).toInt ∨ th V (cd0 W)) (cok : cOK V lo hi (24 * nwh V + c)) (hc : (c : Int) = l) (hj : (j : Int) = k) : DD W l (k + 1) := by
  rcases hn with hn | hn
  · have h2 : DD V l (k + 1) := by
      rcases h with h | h
      · exact Or.inl h
      · refine Or.inr (fun c' j' hq ht hL => ?_)
        by_cases e : (c' : Int) = l ∧ (j' : Int) = k
        · have e1 : c' = c := by omega
          have e2 : j' = j := by omega
          subst e1
          subst e2
          have h9 := (cok.2.2.2 j' hL.1).2 hL.2
          omega
        · exact h c' j' (by omega) ht hL
    exact h2.st a q c0
  · exact Or.inl (hn.ag a q)
theorem DD.up1 {V : Vf} {l k : Int} {c : Nat} (h : DD V l k) (hc : (c : Int) = l) (hx : (V 27 (24 * nwh V + c)).toInt ≤ k ∨ ¬ th V c) : DD V (l + 1) 0 := by
  rcases h with h | h
  · exact Or.inl h
  · refine Or.inr (fun c' j' hq ht hL => ?_)
    by_cases e : (c' : Int) < l
    · exact h c' j' (Or.inl e) ht hL
    · have e1 : c' = c := by omega
      subst e1
      rcases hx with hx | hx
      · exact h c' j' (Or.inr ⟨hc, by have := hL.1; omega⟩) ht hL
      · exact hx ht
theorem DD.le {V : Vf} {l l' k : Int} (h : DD V l k) (hl : l' ≤ l) : DD V l' 0 := by
  rcases h with h | h
  · exact Or.inl h
  · exact Or.inr (fun c j hq => h c j (by omega))
theorem DD.z {V : Vf} {l : Int} (hl : l ≤ 0) : DD V l 0 := Or.inr (fun c j hq => absurd hq (by omega))
theorem DD.RD {V : Vf} {l k : Int} (h : DD V l k) (hl : (V 19 (nwh V)).toInt ≤ l) : th V (cd0 V) ∨ ∀ c j : Nat, th V c → ¬ ndL V c j := by
  rcases h with h | h
  · exact Or.inl h
  · exact Or.inr (fun c j ht => h c j (Or.inl (by have := ht.1; omega)) ht)
theorem RD_st {fs : List (Nat × Nat)} {cs : List Nat} {V W : Vf} (h : th V (cd0 V) ∨ ∀ c j : Nat, th V c → ¬ ndL V c j) (a : agr fs cs V W) (q : thC fs cs) (c0 : c0k V W) : th W (cd0 W) ∨ ∀ c j : Nat, th W c → ¬ ndL W c j := by
  rcases h with h | h
  · rcases c0 with c0 | c0
    · left
      have e : cd0 W = cd0 V := by unfold cd0; rw [c0]
      rw [e]
      exact h.ag a q
    · exact Or.inl (c0.ag a q)
  · exact Or.inr (fun c j ht hn => h c j (ht.ag a.sy q) (hn.ag a.sy q))

theorem w2171 : Cond.code yX12_checkNeed cX12_checkNeed 10 none ∈ GW := gw_k tk9_9 96 (rfl) rfl
theorem w2168 : Cond.methodLink RX12 445 yX12_checkNeed ∈ GW := gw_k tk9_9 93 (by decide +kernel) rfl
theorem w2170 : Cond.instanceMethod yX12_checkNeed ∈ GW := gw_k tk9_9 95 (by decide +kernel) rfl
theorem w118 : Cond.selects RX12 yX12_checkNeed yX12_checkNeed ∈ GW := gw_mem 118 (by decide +kernel) rfl
theorem hdV_yX12_checkNeed : yX12_checkNeed.cls = RX12 ∧ yX12_checkNeed.cls ≠ "java/lang/invoke/MethodHandle" ∧ yX12_checkNeed.cls ≠ "java/lang/invoke/VarHandle" ∧ (parseMethodDescriptor yX12_checkNeed.desc).map (fun d => d.parameters.length) = some 2 := by decide +kernel
theorem dk9_dX12_check_0_0 : dOk cX12_check [(0, .aload_n 0, 1), (1, .iconst 0, 1), (2, .putfield 1, 3), (5, .aload_n 0, 1), (6, .iconst 0, 1), (7, .putfield 435, 3), (10, .iconst 0, 1), (11, .istore_n 1, 1), (12, .iload_n 1, 1), (13, .aload_n 0, 1), (14, .getfield 62, 3), (17, .aload_n 0, 1), (18, .getfield 286, 3), (21, .iaload, 1), (22, .if_icmp .ge 56, 3), (78, .aload_n 0, 1), (79, .iconst 0, 1), (80, .putfield 449, 3), (83, .iconst 0, 1), (84, .istore_n 1, 1), (85, .iload_n 1, 1), (86, .aload_n 0, 1), (87, .getfield 62, 3), (90, .aload_n 0, 1)] = true ∧ dOk cX12_check [(91, .getfield 286, 3), (94, .iaload, 1), (95, .if_icmp .ge 31, 3), (126, .aload_n 0, 1), (127, .aload_n 0, 1), (128, .getfield 408, 3), (131, .ifCond .ne 10, 3), (141, .iconst 1, 1), (142, .goto 4, 3), (146, .putfield 408, 3), (149, .aload_n 0, 1), (150, .getfield 435, 3), (153, .ireturn, 1), (134, .aload_n 0, 1), (135, .getfield 435, 3), (138, .ifCond .ne 7, 3), (145, .iconst 0, 1), (98, .aload_n 0, 1), (99, .iload_n 1, 1), (100, .invokevirtual 438, 3), (103, .ifCond .eq 17, 3), (120, .iinc 1 1, 3), (123, .goto (-38), 3), (106, .aload_n 0, 1)] = true ∧ dOk cX12_check [(107, .getfield 216, 3), (110, .iload_n 1, 1), (111, .iaload, 1), (112, .ifCond .ne 8, 3), (115, .aload_n 0, 1), (116, .iload_n 1, 1), (117, .invokevirtual 452, 3), (25, .aload_n 0, 1), (26, .getfield 216, 3), (29, .iload_n 1, 1), (30, .iconst 0, 1), (31, .iastore, 1), (32, .iconst 0, 1), (33, .istore_n 2, 1), (34, .iload_n 2, 1), (35, .aload_n 0, 1), (36, .getfield 86, 3), (39, .bipush 24, 2), (41, .aload_n 0, 1), (42, .getfield 286, 3), (45, .imul, 1), (46, .iload_n 1, 1), (47, .iadd, 1), (48, .iaload, 1)] = true ∧ dOk cX12_check [(49, .if_icmp .ge 23, 3), (72, .iinc 1 1, 3), (75, .goto (-63), 3), (52, .aload_n 0, 1), (53, .iload_n 1, 1), (54, .invokevirtual 438, 3), (57, .ifCond .eq 15, 3), (60, .aload_n 0, 1), (61, .iload_n 1, 1), (62, .iload_n 2, 1), (63, .invokevirtual 445, 3), (66, .iinc 2 1, 3), (69, .goto (-35), 3)] = true := by decide +kernel
theorem dX12_check_0 : decode cX12_check 0 = .ok (.aload_n 0, 1) := dr9 dk9_dX12_check_0_0.1 0 (0, .aload_n 0, 1) rfl
theorem dX12_check_1 : decode cX12_check 1 = .ok (.iconst 0, 1) := dr9 dk9_dX12_check_0_0.1 1 (1, .iconst 0, 1) rfl
theorem dX12_check_2 : decode cX12_check 2 = .ok (.putfield 1, 3) := dr9 dk9_dX12_check_0_0.1 2 (2, .putfield 1, 3) rfl
theorem dX12_check_5 : decode cX12_check 5 = .ok (.aload_n 0, 1) := dr9 dk9_dX12_check_0_0.1 3 (5, .aload_n 0, 1) rfl
theorem dX12_check_6 : decode cX12_check 6 = .ok (.iconst 0, 1) := dr9 dk9_dX12_check_0_0.1 4 (6, .iconst 0, 1) rfl
theorem dX12_check_7 : decode cX12_check 7 = .ok (.putfield 435, 3) := dr9 dk9_dX12_check_0_0.1 5 (7, .putfield 435, 3) rfl
theorem dX12_check_10 : decode cX12_check 10 = .ok (.iconst 0, 1) := dr9 dk9_dX12_check_0_0.1 6 (10, .iconst 0, 1) rfl
theorem dX12_check_11 : decode cX12_check 11 = .ok (.istore_n 1, 1) := dr9 dk9_dX12_check_0_0.1 7 (11, .istore_n 1, 1) rfl
theorem dX12_check_12 : decode cX12_check 12 = .ok (.iload_n 1, 1) := dr9 dk9_dX12_check_0_0.1 8 (12, .iload_n 1, 1) rfl
theorem dX12_check_13 : decode cX12_check 13 = .ok (.aload_n 0, 1) := dr9 dk9_dX12_check_0_0.1 9 (13, .aload_n 0, 1) rfl
theorem dX12_check_14 : decode cX12_check 14 = .ok (.getfield 62, 3) := dr9 dk9_dX12_check_0_0.1 10 (14, .getfield 62, 3) rfl
theorem dX12_check_17 : decode cX12_check 17 = .ok (.aload_n 0, 1) := dr9 dk9_dX12_check_0_0.1 11 (17, .aload_n 0, 1) rfl
theorem dX12_check_18 : decode cX12_check 18 = .ok (.getfield 286, 3) := dr9 dk9_dX12_check_0_0.1 12 (18, .getfield 286, 3) rfl
theorem dX12_check_21 : decode cX12_check 21 = .ok (.iaload, 1) := dr9 dk9_dX12_check_0_0.1 13 (21, .iaload, 1) rfl
theorem dX12_check_22 : decode cX12_check 22 = .ok (.if_icmp .ge 56, 3) := dr9 dk9_dX12_check_0_0.1 14 (22, .if_icmp .ge 56, 3) rfl
theorem dX12_check_78 : decode cX12_check 78 = .ok (.aload_n 0, 1) := dr9 dk9_dX12_check_0_0.1 15 (78, .aload_n 0, 1) rfl
theorem dX12_check_79 : decode cX12_check 79 = .ok (.iconst 0, 1) := dr9 dk9_dX12_check_0_0.1 16 (79, .iconst 0, 1) rfl
theorem dX12_check_80 : decode cX12_check 80 = .ok (.putfield 449, 3) := dr9 dk9_dX12_check_0_0.1 17 (80, .putfield 449, 3) rfl
theorem dX12_check_83 : decode cX12_check 83 = .ok (.iconst 0, 1) := dr9 dk9_dX12_check_0_0.1 18 (83, .iconst 0, 1) rfl
theorem dX12_check_84 : decode cX12_check 84 = .ok (.istore_n 1, 1) := dr9 dk9_dX12_check_0_0.1 19 (84, .istore_n 1, 1) rfl
theorem dX12_check_85 : decode cX12_check 85 = .ok (.iload_n 1, 1) := dr9 dk9_dX12_check_0_0.1 20 (85, .iload_n 1, 1) rfl
theorem dX12_check_86 : decode cX12_check 86 = .ok (.aload_n 0, 1) := dr9 dk9_dX12_check_0_0.1 21 (86, .aload_n 0, 1) rfl
theorem dX12_check_87 : decode cX12_check 87 = .ok (.getfield 62, 3) := dr9 dk9_dX12_check_0_0.1 22 (87, .getfield 62, 3) rfl
theorem dX12_check_90 : decode cX12_check 90 = .ok (.aload_n 0, 1) := dr9 dk9_dX12_check_0_0.1 23 (90, .aload_n 0, 1) rfl
theorem dX12_check_91 : decode cX12_check 91 = .ok (.getfield 286, 3) := dr9 dk9_dX12_check_0_0.2.1 0 (91, .getfield 286, 3) rfl
theorem dX12_check_94 : decode cX12_check 94 = .ok (.iaload, 1) := dr9 dk9_dX12_check_0_0.2.1 1 (94, .iaload, 1) rfl
theorem dX12_check_95 : decode cX12_check 95 = .ok (.if_icmp .ge 31, 3) := dr9 dk9_dX12_check_0_0.2.1 2 (95, .if_icmp .ge 31, 3) rfl
theorem dX12_check_126 : decode cX12_check 126 = .ok (.aload_n 0, 1) := dr9 dk9_dX12_check_0_0.2.1 3 (126, .aload_n 0, 1) rfl
theorem dX12_check_127 : decode cX12_check 127 = .ok (.aload_n 0, 1) := dr9 dk9_dX12_check_0_0.2.1 4 (127, .aload_n 0, 1) rfl
theorem dX12_check_128 : decode cX12_check 128 = .ok (.getfield 408, 3) := dr9 dk9_dX12_check_0_0.2.1 5 (128, .getfield 408, 3) rfl
theorem dX12_check_131 : decode cX12_check 131 = .ok (.ifCond .ne 10, 3) := dr9 dk9_dX12_check_0_0.2.1 6 (131, .ifCond .ne 10, 3) rfl
theorem dX12_check_141 : decode cX12_check 141 = .ok (.iconst 1, 1) := dr9 dk9_dX12_check_0_0.2.1 7 (141, .iconst 1, 1) rfl
theorem dX12_check_142 : decode cX12_check 142 = .ok (.goto 4, 3) := dr9 dk9_dX12_check_0_0.2.1 8 (142, .goto 4, 3) rfl
theorem dX12_check_146 : decode cX12_check 146 = .ok (.putfield 408, 3) := dr9 dk9_dX12_check_0_0.2.1 9 (146, .putfield 408, 3) rfl
theorem dX12_check_149 : decode cX12_check 149 = .ok (.aload_n 0, 1) := dr9 dk9_dX12_check_0_0.2.1 10 (149, .aload_n 0, 1) rfl
theorem dX12_check_150 : decode cX12_check 150 = .ok (.getfield 435, 3) := dr9 dk9_dX12_check_0_0.2.1 11 (150, .getfield 435, 3) rfl
theorem dX12_check_153 : decode cX12_check 153 = .ok (.ireturn, 1) := dr9 dk9_dX12_check_0_0.2.1 12 (153, .ireturn, 1) rfl
theorem dX12_check_134 : decode cX12_check 134 = .ok (.aload_n 0, 1) := dr9 dk9_dX12_check_0_0.2.1 13 (134, .aload_n 0, 1) rfl
theorem dX12_check_135 : decode cX12_check 135 = .ok (.getfield 435, 3) := dr9 dk9_dX12_check_0_0.2.1 14 (135, .getfield 435, 3) rfl
theorem dX12_check_138 : decode cX12_check 138 = .ok (.ifCond .ne 7, 3) := dr9 dk9_dX12_check_0_0.2.1 15 (138, .ifCond .ne 7, 3) rfl
theorem dX12_check_145 : decode cX12_check 145 = .ok (.iconst 0, 1) := dr9 dk9_dX12_check_0_0.2.1 16 (145, .iconst 0, 1) rfl
theorem dX12_check_98 : decode cX12_check 98 = .ok (.aload_n 0, 1) := dr9 dk9_dX12_check_0_0.2.1 17 (98, .aload_n 0, 1) rfl
theorem dX12_check_99 : decode cX12_check 99 = .ok (.iload_n 1, 1) := dr9 dk9_dX12_check_0_0.2.1 18 (99, .iload_n 1, 1) rfl
theorem dX12_check_100 : decode cX12_check 100 = .ok (.invokevirtual 438, 3) := dr9 dk9_dX12_check_0_0.2.1 19 (100, .invokevirtual 438, 3) rfl
theorem dX12_check_103 : decode cX12_check 103 = .ok (.ifCond .eq 17, 3) := dr9 dk9_dX12_check_0_0.2.1 20 (103, .ifCond .eq 17, 3) rfl
theorem dX12_check_120 : decode cX12_check 120 = .ok (.iinc 1 1, 3) := dr9 dk9_dX12_check_0_0.2.1 21 (120, .iinc 1 1, 3) rfl
theorem dX12_check_123 : decode cX12_check 123 = .ok (.goto (-38), 3) := dr9 dk9_dX12_check_0_0.2.1 22 (123, .goto (-38), 3) rfl
theorem dX12_check_106 : decode cX12_check 106 = .ok (.aload_n 0, 1) := dr9 dk9_dX12_check_0_0.2.1 23 (106, .aload_n 0, 1) rfl
theorem dX12_check_107 : decode cX12_check 107 = .ok (.getfield 216, 3) := dr9 dk9_dX12_check_0_0.2.2.1 0 (107, .getfield 216, 3) rfl
theorem dX12_check_110 : decode cX12_check 110 = .ok (.iload_n 1, 1) := dr9 dk9_dX12_check_0_0.2.2.1 1 (110, .iload_n 1, 1) rfl
theorem dX12_check_111 : decode cX12_check 111 = .ok (.iaload, 1) := dr9 dk9_dX12_check_0_0.2.2.1 2 (111, .iaload, 1) rfl
theorem dX12_check_112 : decode cX12_check 112 = .ok (.ifCond .ne 8, 3) := dr9 dk9_dX12_check_0_0.2.2.1 3 (112, .ifCond .ne 8, 3) rfl
theorem dX12_check_115 : decode cX12_check 115 = .ok (.aload_n 0, 1) := dr9 dk9_dX12_check_0_0.2.2.1 4 (115, .aload_n 0, 1) rfl
theorem dX12_check_116 : decode cX12_check 116 = .ok (.iload_n 1, 1) := dr9 dk9_dX12_check_0_0.2.2.1 5 (116, .iload_n 1, 1) rfl
theorem dX12_check_117 : decode cX12_check 117 = .ok (.invokevirtual 452, 3) := dr9 dk9_dX12_check_0_0.2.2.1 6 (117, .invokevirtual 452, 3) rfl
theorem dX12_check_25 : decode cX12_check 25 = .ok (.aload_n 0, 1) := dr9 dk9_dX12_check_0_0.2.2.1 7 (25, .aload_n 0, 1) rfl
theorem dX12_check_26 : decode cX12_check 26 = .ok (.getfield 216, 3) := dr9 dk9_dX12_check_0_0.2.2.1 8 (26, .getfield 216, 3) rfl
theorem dX12_check_29 : decode cX12_check 29 = .ok (.iload_n 1, 1) := dr9 dk9_dX12_check_0_0.2.2.1 9 (29, .iload_n 1, 1) rfl
theorem dX12_check_30 : decode cX12_check 30 = .ok (.iconst 0, 1) := dr9 dk9_dX12_check_0_0.2.2.1 10 (30, .iconst 0, 1) rfl
theorem dX12_check_31 : decode cX12_check 31 = .ok (.iastore, 1) := dr9 dk9_dX12_check_0_0.2.2.1 11 (31, .iastore, 1) rfl
theorem dX12_check_32 : decode cX12_check 32 = .ok (.iconst 0, 1) := dr9 dk9_dX12_check_0_0.2.2.1 12 (32, .iconst 0, 1) rfl
theorem dX12_check_33 : decode cX12_check 33 = .ok (.istore_n 2, 1) := dr9 dk9_dX12_check_0_0.2.2.1 13 (33, .istore_n 2, 1) rfl
theorem dX12_check_34 : decode cX12_check 34 = .ok (.iload_n 2, 1) := dr9 dk9_dX12_check_0_0.2.2.1 14 (34, .iload_n 2, 1) rfl
theorem dX12_check_35 : decode cX12_check 35 = .ok (.aload_n 0, 1) := dr9 dk9_dX12_check_0_0.2.2.1 15 (35, .aload_n 0, 1) rfl
theorem dX12_check_36 : decode cX12_check 36 = .ok (.getfield 86, 3) := dr9 dk9_dX12_check_0_0.2.2.1 16 (36, .getfield 86, 3) rfl
theorem dX12_check_39 : decode cX12_check 39 = .ok (.bipush 24, 2) := dr9 dk9_dX12_check_0_0.2.2.1 17 (39, .bipush 24, 2) rfl
theorem dX12_check_41 : decode cX12_check 41 = .ok (.aload_n 0, 1) := dr9 dk9_dX12_check_0_0.2.2.1 18 (41, .aload_n 0, 1) rfl
theorem dX12_check_42 : decode cX12_check 42 = .ok (.getfield 286, 3) := dr9 dk9_dX12_check_0_0.2.2.1 19 (42, .getfield 286, 3) rfl
theorem dX12_check_45 : decode cX12_check 45 = .ok (.imul, 1) := dr9 dk9_dX12_check_0_0.2.2.1 20 (45, .imul, 1) rfl
theorem dX12_check_46 : decode cX12_check 46 = .ok (.iload_n 1, 1) := dr9 dk9_dX12_check_0_0.2.2.1 21 (46, .iload_n 1, 1) rfl
theorem dX12_check_47 : decode cX12_check 47 = .ok (.iadd, 1) := dr9 dk9_dX12_check_0_0.2.2.1 22 (47, .iadd, 1) rfl
theorem dX12_check_48 : decode cX12_check 48 = .ok (.iaload, 1) := dr9 dk9_dX12_check_0_0.2.2.1 23 (48, .iaload, 1) rfl
theorem dX12_check_49 : decode cX12_check 49 = .ok (.if_icmp .ge 23, 3) := dr9 dk9_dX12_check_0_0.2.2.2 0 (49, .if_icmp .ge 23, 3) rfl
theorem dX12_check_72 : decode cX12_check 72 = .ok (.iinc 1 1, 3) := dr9 dk9_dX12_check_0_0.2.2.2 1 (72, .iinc 1 1, 3) rfl
theorem dX12_check_75 : decode cX12_check 75 = .ok (.goto (-63), 3) := dr9 dk9_dX12_check_0_0.2.2.2 2 (75, .goto (-63), 3) rfl
theorem dX12_check_52 : decode cX12_check 52 = .ok (.aload_n 0, 1) := dr9 dk9_dX12_check_0_0.2.2.2 3 (52, .aload_n 0, 1) rfl
theorem dX12_check_53 : decode cX12_check 53 = .ok (.iload_n 1, 1) := dr9 dk9_dX12_check_0_0.2.2.2 4 (53, .iload_n 1, 1) rfl
theorem dX12_check_54 : decode cX12_check 54 = .ok (.invokevirtual 438, 3) := dr9 dk9_dX12_check_0_0.2.2.2 5 (54, .invokevirtual 438, 3) rfl
theorem dX12_check_57 : decode cX12_check 57 = .ok (.ifCond .eq 15, 3) := dr9 dk9_dX12_check_0_0.2.2.2 6 (57, .ifCond .eq 15, 3) rfl
theorem dX12_check_60 : decode cX12_check 60 = .ok (.aload_n 0, 1) := dr9 dk9_dX12_check_0_0.2.2.2 7 (60, .aload_n 0, 1) rfl
theorem dX12_check_61 : decode cX12_check 61 = .ok (.iload_n 1, 1) := dr9 dk9_dX12_check_0_0.2.2.2 8 (61, .iload_n 1, 1) rfl
theorem dX12_check_62 : decode cX12_check 62 = .ok (.iload_n 2, 1) := dr9 dk9_dX12_check_0_0.2.2.2 9 (62, .iload_n 2, 1) rfl
theorem dX12_check_63 : decode cX12_check 63 = .ok (.invokevirtual 445, 3) := dr9 dk9_dX12_check_0_0.2.2.2 10 (63, .invokevirtual 445, 3) rfl
theorem dX12_check_66 : decode cX12_check 66 = .ok (.iinc 2 1, 3) := dr9 dk9_dX12_check_0_0.2.2.2 11 (66, .iinc 2 1, 3) rfl
theorem dX12_check_69 : decode cX12_check 69 = .ok (.goto (-35), 3) := dr9 dk9_dX12_check_0_0.2.2.2 12 (69, .goto (-35), 3) rfl
abbrev r_s_visits24 : Room := { frames := 248, cells := 0, slots := 0, locals := 7460 }
abbrev q_s_visits24 (D : va_G) (ks : KS) (ad : Nat → Nat) (kk : Nat → ClassId) (V : Vf) (L : Lf) (p0 : Int32) (FM : Int) (A : Nat → Prop) : Array Value → State → Outcome → State → Prop := q_s_visits D ks ad kk V L p0 FM A
theorem s_visits24 (l : Launch) (D : va_G) (ks : KS) (sz : Nat) (ad : Nat → Nat) (kk : Nat → ClassId) (V : Vf) (L : Lf) (p0 : Int32) (FM : Int) (hMV : rgd bM V) (rg_p0 : 0 ≤ p0.toInt ∧ p0.toInt ≤ 23) (v2 : (V 0 89).toInt + (cz V 24 : Int) ≤ 24) (v3 : (V 87 (Int32.toNatClampNeg p0)).toInt = 0) (v4 : WY V) (v5 : (V 0 81).toInt + 192 * (cz V 24 : Int) ≤ FM) (v7 : FM ≤ 999000) (v6 : p0.toInt < (V 19 (nwh V)).toInt) (tb : TB V) : Met l yX12_visits (Cond.code yX12_visits cX12_visits 5 none :: GW) r_s_visits24 (va_Pc [.ref (ad 0), .int p0] (gp D ks (mw ad kk ks.1 V L) (mty kk) sz)) (q_s_visits24 D ks ad kk V L p0 FM (va_A (mw ad kk ks.1 V L) sz)) 0 0 (va_A (mw ad kk ks.1 V L) sz) :=
  K_visits 24 sz ad kk V L p0 FM hMV rg_p0 (by have h9 := cz_le V 24; omega) v2 v3 v4 v5 v7 v6 tb

abbrev r_s_check2 : Room := { frames := 249, cells := 0, slots := 0, locals := 7484 }
abbrev q_s_check2 (D : va_G) (ks : KS) (ad : Nat → Nat) (kk : Nat → ClassId) (V : Vf) (L : Lf) (A : Nat → Prop) : Array Value → State → Outcome → State → Prop := va_Qi (fun (r : Int32) (u : Vf × Lf) => rgd bM u.1 ∧ agr [(0, 0), (0, 54), (0, 81), (0, 89)] [80, 82, 83, 84, 85, 86, 87, 88] V u.1 ∧ u.2 = L ∧ (RD u.1) ∧ (Imp ((V 0 54).toInt = 1) ((u.1 0 54).toInt = 1))) (fun u t => gq D A (mw ad kk ks.1 u.1 u.2) (mty kk) t) A
set_option maxHeartbeats 4000000 in
set_option maxRecDepth 100000 in
theorem s_check2 (l : Launch) (D : va_G) (ks : KS) (sz : Nat) (ad : Nat → Nat) (kk : Nat → ClassId) (V : Vf) (L : Lf)  (hMV : rgd bM V) (tb : TB V) (rd : RD V)  : Met l yX12_check (Cond.code yX12_check cX12_check 3 (some .int) :: GW) r_s_check2 (va_Pc [.ref (ad 0)] (gp D ks (mw ad kk ks.1 V L) (mty kk) sz)) (q_s_check2 D ks ad kk V L  (va_A (mw ad kk ks.1 V L) sz)) 0 0 (va_A (mw ad kk ks.1 V L) sz) := by
  refine g_met (q_s_check2 D ks ad kk V L) (by decide) (Nat.le_of_ble_eq_true rfl) ?_
  intro p e s m below meth c A ls H locs hx hb hr hml hown hg hlocks hin hnw hgk hP hK hD hS hA hl
  have hown : s.vm.findClass RX12 = some m.cls := hown
  have hl : lv_has ls 3 [(0, .ref (ad 0))] := hl
  have hP : va_P D vwCl (mw ad kk ks.1 V L) H := hP
  have hD : va_D A (mw ad kk ks.1 V L) := hD
  have hK : va_K D vwCl (mty kk) s := hK
  have agV : agr [(0, 0), (0, 54), (0, 81), (0, 89)] [80, 82, 83, 84, 85, 86, 87, 88] V V := agr.rf
  refine lv_aload_n hx hb dX12_check_0 rfl (lv_at hl 0 rfl) ?_
  refine lv_iconst (v := 0) hx hb dX12_check_1 (by decide) ?_
  refine va_put (D := D) (ci := 12) (v := .int 0) (ty := tyX12 0) (C := RX12) (T := TX12) (N := 100) hx hb hg inX12 tyX12 tyX12_ok nmX12 hown hK hP hD hS 0 rfl rfl 0 (by decide) (hg _ w1706) (fun _ h9 => h9) rfl (tyX12_ok 0 (by decide)) rfl rfl (Nat.le_of_ble_eq_true rfl) dX12_check_2 (fun H locs hP hD hS => ?_)
  obtain ⟨V1, hV1⟩ : ∃ z, z = up2 V 0 0 0 := ⟨_, rfl⟩
  have hP : va_P D vwCl (mw ad kk ks.1 V1 L) H := by rw [hV1]; exact hP
  have hD : va_D A (mw ad kk ks.1 V1 L) := by rw [hV1]; exact hD
  have hMV1 : rgd bM V1 := hMV.put hV1 (i_full _)
  have agV1 : agr [(0, 0), (0, 54), (0, 81), (0, 89)] [80, 82, 83, 84, 85, 86, 87, 88] V V1 := agV.up hV1 rfl
  refine lv_aload_n hx hb dX12_check_5 rfl (lv_at hl 0 rfl) ?_
  refine lv_iconst (v := 0) hx hb dX12_check_6 (by decide) ?_
  refine va_put (D := D) (ci := 12) (v := .int 0) (ty := tyX12 81) (C := RX12) (T := TX12) (N := 100) hx hb hg inX12 tyX12 tyX12_ok nmX12 hown hK hP hD hS 0 rfl rfl 81 (by decide) (hg _ w1787) (fun _ h9 => h9) rfl (tyX12_ok 81 (by decide)) rfl rfl (Nat.le_of_ble_eq_true rfl) dX12_check_7 (fun H locs hP hD hS => ?_)
  obtain ⟨V2, hV2⟩ : ∃ z, z = up2 V1 0 81 0 := ⟨_, rfl⟩
  have hP : va_P D vwCl (mw ad kk ks.1 V2 L) H := by rw [hV2]; exact hP
  have hD : va_D A (mw ad kk ks.1 V2 L) := by rw [hV2]; exact hD
  have hMV2 : rgd bM V2 := hMV1.put hV2 (by decide)
  have agV2 : agr [(0, 0), (0, 54), (0, 81), (0, 89)] [80, 82, 83, 84, 85, 86, 87, 88] V V2 := agV1.up hV2 rfl
  refine lv_iconst (v := 0) hx hb dX12_check_10 (by decide) ?_
  refine lv_istore_n (lv' := [(1, .int 0), (0, .ref (ad 0))]) hx hb dX12_check_11 rfl hl (by decide) rfl (fun ls hl => ?_)
  have lp5 : ∀ (fulp5 : Nat) (y3 : Int32) (V4 : Vf) (H : Heap) (locs : List Loc) (ls : Array Slot), 0 ≤ y3.toInt ∧ y3.toInt ≤ 24 → (V4 0 81).toInt ≤ 8 * y3.toInt → (∀ d : Nat, (d : Int) < y3.toInt → (V4 87 d).toInt = 0) → Imp ((V4 0 81).toInt = 0) (DD V4 y3.toInt 0) → c0k V V4 → 24 - y3.toInt < (fulp5 : Int) → agr [(0, 81)] [80, 82, 83, 84, 86, 87] V2 V4 → rgd bM V4 → va_P D vwCl (mw ad kk ks.1 V4 L) H → va_D A (mw ad kk ks.1 V4 L) → va_S A s.heap H locs → lv_has ls 3 [(1, .int y3), (0, .ref (ad 0))] → W p l e r_s_check2 s m ([.ref (ad 0)] : List Value).toArray below meth c H locs 0 0 (MQ below (q_s_check2 D ks ad kk V L  A) ([.ref (ad 0)] : List Value).toArray s 0 0 A) (F0 m 12 ls []) := by
    intro fulp5
    induction fulp5 with
    | zero =>
      intro y3 V4 H locs ls klp5_0 xlp5_0 xlp5_1 xlp5_2 xlp5_3 hn ajV4 hMV4 hP hD hS hl
      exfalso; (first | exact om_9386ef0df612 klp5_0.2 hn | omega)
    | succ fulp5 ihlp5 =>
      intro y3 V4 H locs ls klp5_0 xlp5_0 xlp5_1 xlp5_2 xlp5_3 hn ajV4 hMV4 hP hD hS hl
      have agV4 : agr [(0, 0), (0, 54), (0, 81), (0, 89)] [80, 82, 83, 84, 85, 86, 87, 88] V V4 := agV2.tr ajV4 (by decide) (by decide)
      have r6 : 0 ≤ ((V4 0 81)).toInt ∧ ((V4 0 81)).toInt ≤ 1000000 := hMV4 0 81
      refine lv_iload_n hx hb dX12_check_12 rfl (lv_at hl 0 rfl) ?_
      refine lv_aload_n hx hb dX12_check_13 rfl (lv_at hl 1 rfl) ?_
      refine va_get (D := D) (ci := 12) (v := .ref (ad 19)) (C := RX12) (T := TX12) (N := 100) hx hb hg inX12 hown hK hP 0 rfl rfl 19 (by decide) (hg _ w1725) (fun _ h9 => h9) rfl dX12_check_14 ?_
      refine lv_aload_n hx hb dX12_check_17 rfl (lv_at hl 1 rfl) ?_
      refine va_get (D := D) (ci := 12) (v := .int (V4 0 11)) (C := RX12) (T := TX12) (N := 100) hx hb hg inX12 hown hK hP 0 rfl rfl 11 (by decide) (hg _ w1717) (fun _ h9 => h9) rfl dX12_check_18 ?_
      refine g_top (v := (V 0 11)) ((ajV4 0 11 rfl).trans ((up2_k hV2 (by decide)).trans (up2_k hV1 (by decide)))) ?_
      have r7 : 0 ≤ ((V 0 11)).toInt ∧ ((V 0 11)).toInt ≤ 1 := hMV 0 11
      refine va_iald (D := D) (i := (V 0 11)) hx hb hK hP 12 11 rfl rfl (i_in (a := ((V 0 11)).toInt) rfl (by first | exact om_8367a84723c7 r7.1 r7.2 | first | omega | ((try (have i_rd := Imp.go rd (by omega))); (try (have i_tb := Imp.go tb (by omega))); (try (have i_tb := Imp.go tb (by omega))); (try (have i_rd := Imp.go rd (by omega))); omega))) dX12_check_21 ?_
      refine g_top (v := (V 19 (Int32.toNatClampNeg (V 0 11)))) ((ajV4 19 (Int32.toNatClampNeg (V 0 11)) rfl).trans ((up2_o hV2 (by decide)).trans (up2_o hV1 (by decide)))) ?_
      have r8 : 0 ≤ ((V 19 (Int32.toNatClampNeg (V 0 11)))).toInt ∧ ((V 19 (Int32.toNatClampNeg (V 0 11)))).toInt ≤ 24 := hMV 19 (Int32.toNatClampNeg (V 0 11))
      refine lv_icmp_ge (tgt := 78) hx hb dX12_check_22 (by decide) (fun c9 => ?_) (fun c9 => ?_)
      · skip
        have f10 : ((V 19 (Int32.toNatClampNeg (V 0 11)))).toInt ≤ y3.toInt := b_le rfl rfl c9
        have czl0 := cz_le V4 24
        refine lv_aload_n hx hb dX12_check_78 rfl (lv_at hl 1 rfl) ?_
        refine lv_iconst (v := 0) hx hb dX12_check_79 (by decide) ?_
        refine va_put (D := D) (ci := 12) (v := .int 0) (ty := tyX12 89) (C := RX12) (T := TX12) (N := 100) hx hb hg inX12 tyX12 tyX12_ok nmX12 hown hK hP hD hS 0 rfl rfl 89 (by decide) (hg _ w1795) (fun _ h9 => h9) rfl (tyX12_ok 89 (by decide)) rfl rfl (Nat.le_of_ble_eq_true rfl) dX12_check_80 (fun H locs hP hD hS => ?_)
        obtain ⟨V11, hV11⟩ : ∃ z, z = up2 V4 0 89 0 := ⟨_, rfl⟩
        have hP : va_P D vwCl (mw ad kk ks.1 V11 L) H := by rw [hV11]; exact hP
        have hD : va_D A (mw ad kk ks.1 V11 L) := by rw [hV11]; exact hD
        have hMV11 : rgd bM V11 := hMV4.put hV11 (by decide)
        have agV11 : agr [(0, 0), (0, 54), (0, 81), (0, 89)] [80, 82, 83, 84, 85, 86, 87, 88] V V11 := agV4.up hV11 rfl
        refine lv_iconst (v := 0) hx hb dX12_check_83 (by decide) ?_
        refine lv_istore_n (lv' := [(1, .int 0), (0, .ref (ad 0))]) hx hb dX12_check_84 rfl hl (by decide) rfl (fun ls hl => ?_)
        have lp14 : ∀ (fulp14 : Nat) (y12 : Int32) (V13 : Vf) (H : Heap) (locs : List Loc) (ls : Array Slot), 0 ≤ y12.toInt ∧ y12.toInt ≤ 24 → (V13 0 89).toInt = 0 → (V13 0 81).toInt + 192 * (cz V13 24 : Int) ≤ 4800 → (∀ d : Nat, (d : Int) < (V 19 (nwh V)).toInt → (V13 87 d).toInt ≠ 1) → c0k V V13 → Imp ((V13 0 81).toInt = 0) (DD V13 (V 19 (nwh V)).toInt 0) → 24 - y12.toInt < (fulp14 : Int) → agr [(0, 81), (0, 89)] [80, 82, 83, 84, 85, 87, 88] V11 V13 → rgd bM V13 → va_P D vwCl (mw ad kk ks.1 V13 L) H → va_D A (mw ad kk ks.1 V13 L) → va_S A s.heap H locs → lv_has ls 3 [(1, .int y12), (0, .ref (ad 0))] → W p l e r_s_check2 s m ([.ref (ad 0)] : List Value).toArray below meth c H locs 0 0 (MQ below (q_s_check2 D ks ad kk V L  A) ([.ref (ad 0)] : List Value).toArray s 0 0 A) (F0 m 85 ls []) := by
          intro fulp14
          induction fulp14 with
          | zero =>
            intro y12 V13 H locs ls klp14_0 xlp14_0 xlp14_1 xlp14_2 xlp14_3 xlp14_4 hn ajV13 hMV13 hP hD hS hl
            exfalso; (first | exact om_9386ef0df612 klp14_0.2 hn | omega)
          | succ fulp14 ihlp14 =>
            intro y12 V13 H locs ls klp14_0 xlp14_0 xlp14_1 xlp14_2 xlp14_3 xlp14_4 hn ajV13 hMV13 hP hD hS hl
            have agV13 : agr [(0, 0), (0, 54), (0, 81), (0, 89)] [80, 82, 83, 84, 85, 86, 87, 88] V V13 := agV11.tr ajV13 (by decide) (by decide)
            have r15 : 0 ≤ ((V13 0 89)).toInt ∧ ((V13 0 89)).toInt ≤ 24 := hMV13 0 89
            have r16 : 0 ≤ ((V13 0 81)).toInt ∧ ((V13 0 81)).toInt ≤ 1000000 := hMV13 0 81
            refine lv_iload_n hx hb dX12_check_85 rfl (lv_at hl 0 rfl) ?_
            refine lv_aload_n hx hb dX12_check_86 rfl (lv_at hl 1 rfl) ?_
            refine va_get (D := D) (ci := 12) (v := .ref (ad 19)) (C := RX12) (T := TX12) (N := 100) hx hb hg inX12 hown hK hP 0 rfl rfl 19 (by decide) (hg _ w1725) (fun _ h9 => h9) rfl dX12_check_87 ?_
            refine lv_aload_n hx hb dX12_check_90 rfl (lv_at hl 1 rfl) ?_
            refine va_get (D := D) (ci := 12) (v := .int (V13 0 11)) (C := RX12) (T := TX12) (N := 100) hx hb hg inX12 hown hK hP 0 rfl rfl 11 (by decide) (hg _ w1717) (fun _ h9 => h9) rfl dX12_check_91 ?_
            refine g_top (v := (V 0 11)) ((ajV13 0 11 rfl).trans ((up2_k hV11 (by decide)).trans ((ajV4 0 11 rfl).trans ((up2_k hV2 (by decide)).trans (up2_k hV1 (by decide)))))) ?_
            refine va_iald (D := D) (i := (V 0 11)) hx hb hK hP 12 11 rfl rfl (i_in (a := ((V 0 11)).toInt) rfl (by first | exact om_8367a84723c7 r7.1 r7.2 | first | omega | ((try (have i_rd := Imp.go rd (by omega))); (try (have i_tb := Imp.go tb (by omega))); (try (have i_tb := Imp.go tb (by omega))); (try (have i_rd := Imp.go rd (by omega))); omega))) dX12_check_94 ?_
            refine g_top (v := (V 19 (Int32.toNatClampNeg (V 0 11)))) ((ajV13 19 (Int32.toNatClampNeg (V 0 11)) rfl).trans ((up2_o hV11 (by decide)).trans ((ajV4 19 (Int32.toNatClampNeg (V 0 11)) rfl).trans ((up2_o hV2 (by decide)).trans (up2_o hV1 (by decide)))))) ?_
            refine lv_icmp_ge (tgt := 126) hx hb dX12_check_95 (by decide) (fun c17 => ?_) (fun c17 => ?_)
            · skip
              have f18 : ((V 19 (Int32.toNatClampNeg (V 0 11)))).toInt ≤ y12.toInt := b_le rfl rfl c17
              refine lv_aload_n hx hb dX12_check_126 rfl (lv_at hl 1 rfl) ?_
              refine lv_aload_n hx hb dX12_check_127 rfl (lv_at hl 1 rfl) ?_
              refine va_get (D := D) (ci := 12) (v := .int (V13 0 54)) (C := RX12) (T := TX12) (N := 100) hx hb hg inX12 hown hK hP 0 rfl rfl 54 (by decide) (hg _ w1760) (fun _ h9 => h9) rfl dX12_check_128 ?_
              refine g_top (v := (V 0 54)) ((ajV13 0 54 rfl).trans ((up2_k hV11 (by decide)).trans ((ajV4 0 54 rfl).trans ((up2_k hV2 (by decide)).trans (up2_k hV1 (by decide)))))) ?_
              have r19 : 0 ≤ ((V 0 54)).toInt ∧ ((V 0 54)).toInt ≤ 1 := hMV 0 54
              refine lv_if_ne (tgt := 141) hx hb dX12_check_131 (by decide) (fun c20 => ?_) (fun c20 => ?_)
              · skip
                have f21 : ((V 0 54)).toInt ≠ 0 := b_neq rfl (by decide) c20
                refine lv_iconst (v := 1) hx hb dX12_check_141 (by decide) ?_
                refine lv_goto (tgt := 146) hx hb dX12_check_142 (by decide) ?_
                refine va_put (D := D) (ci := 12) (v := .int 1) (ty := tyX12 54) (C := RX12) (T := TX12) (N := 100) hx hb hg inX12 tyX12 tyX12_ok nmX12 hown hK hP hD hS 0 rfl rfl 54 (by decide) (hg _ w1760) (fun _ h9 => h9) rfl (tyX12_ok 54 (by decide)) rfl rfl (Nat.le_of_ble_eq_true rfl) dX12_check_146 (fun H locs hP hD hS => ?_)
                obtain ⟨V22, hV22⟩ : ∃ z, z = up2 V13 0 54 1 := ⟨_, rfl⟩
                have hP : va_P D vwCl (mw ad kk ks.1 V22 L) H := by rw [hV22]; exact hP
                have hD : va_D A (mw ad kk ks.1 V22 L) := by rw [hV22]; exact hD
                have hMV22 : rgd bM V22 := hMV13.put hV22 (by decide)
                have agV22 : agr [(0, 0), (0, 54), (0, 81), (0, 89)] [80, 82, 83, 84, 85, 86, 87, 88] V V22 := agV13.up hV22 rfl
                refine lv_aload_n hx hb dX12_check_149 rfl (lv_at hl 1 rfl) ?_
                refine va_get (D := D) (ci := 12) (v := .int (V22 0 81)) (C := RX12) (T := TX12) (N := 100) hx hb hg inX12 hown hK hP 0 rfl rfl 81 (by decide) (hg _ w1787) (fun _ h9 => h9) rfl dX12_check_150 ?_
                refine g_top (v := (V13 0 81)) (up2_k hV22 (by decide)) ?_
                have pq23 : (V22 0 54).toInt = 1 := (congrArg Int32.toInt (up2_s hV22)).trans (by decide)
                have a54 : agr [(0, 54)] [] V13 V22 := agr.up agr.rf hV22 rfl
                have c025 : c0k V V13 := xlp14_3
                have rd24 : RD V22 := fun _ => RD_st (RD_st (rd (by omega)) agV13 ⟨rfl, fun _ => rfl, fun _ => rfl, fun _ => rfl, fun _ => rfl, fun _ => rfl, fun _ => rfl⟩ c025) a54 ⟨rfl, fun _ => rfl, fun _ => rfl, fun _ => rfl, fun _ => rfl, fun _ => rfl, fun _ => rfl⟩ (c0k.ag a54 rfl)
                exact W.iret (v := (V13 0 81)) hx hb hr (fun t ht hW => ⟨⟨(V13 0 81), (V22, L), rfl, ⟨hMV22, agV22, rfl, rd24, (Imp.mk (fun hp => have hp : (V 0 54).toInt = 1 := hp; (show (V22 0 54).toInt = 1 from by first | exact om_710535a98d88 pq23 | first | omega | ((try (have i_rd := Imp.go rd (by omega))); (try (have i_tb := Imp.go tb (by omega))); (try (have i_tb := Imp.go tb (by omega))); (try (have i_rd := Imp.go rd (by omega))); omega))))⟩, by rw [ht]; exact hP, va_K.moved hW.alike hK, hD⟩, hS.F ht⟩) hS.2.2 dX12_check_153
              · skip
                have f26 : ((V 0 54)).toInt = 0 := b_eq rfl (by decide) c20
                refine lv_aload_n hx hb dX12_check_134 rfl (lv_at hl 1 rfl) ?_
                refine va_get (D := D) (ci := 12) (v := .int (V13 0 81)) (C := RX12) (T := TX12) (N := 100) hx hb hg inX12 hown hK hP 0 rfl rfl 81 (by decide) (hg _ w1787) (fun _ h9 => h9) rfl dX12_check_135 ?_
                refine lv_if_ne (tgt := 145) hx hb dX12_check_138 (by decide) (fun c27 => ?_) (fun c27 => ?_)
                · skip
                  have f28 : ((V13 0 81)).toInt ≠ 0 := b_neq rfl (by decide) c27
                  refine lv_iconst (v := 0) hx hb dX12_check_145 (by decide) ?_
                  refine va_put (D := D) (ci := 12) (v := .int 0) (ty := tyX12 54) (C := RX12) (T := TX12) (N := 100) hx hb hg inX12 tyX12 tyX12_ok nmX12 hown hK hP hD hS 0 rfl rfl 54 (by decide) (hg _ w1760) (fun _ h9 => h9) rfl (tyX12_ok 54 (by decide)) rfl rfl (Nat.le_of_ble_eq_true rfl) dX12_check_146 (fun H locs hP hD hS => ?_)
                  obtain ⟨V29, hV29⟩ : ∃ z, z = up2 V13 0 54 0 := ⟨_, rfl⟩
                  have hP : va_P D vwCl (mw ad kk ks.1 V29 L) H := by rw [hV29]; exact hP
                  have hD : va_D A (mw ad kk ks.1 V29 L) := by rw [hV29]; exact hD
                  have hMV29 : rgd bM V29 := hMV13.put hV29 (by decide)
                  have agV29 : agr [(0, 0), (0, 54), (0, 81), (0, 89)] [80, 82, 83, 84, 85, 86, 87, 88] V V29 := agV13.up hV29 rfl
                  refine lv_aload_n hx hb dX12_check_149 rfl (lv_at hl 1 rfl) ?_
                  refine va_get (D := D) (ci := 12) (v := .int (V29 0 81)) (C := RX12) (T := TX12) (N := 100) hx hb hg inX12 hown hK hP 0 rfl rfl 81 (by decide) (hg _ w1787) (fun _ h9 => h9) rfl dX12_check_150 ?_
                  refine g_top (v := (V13 0 81)) (up2_k hV29 (by decide)) ?_
                  have pq30 : (V29 0 54).toInt = 0 := (congrArg Int32.toInt (up2_s hV29)).trans (by decide)
                  have a54 : agr [(0, 54)] [] V13 V29 := agr.up agr.rf hV29 rfl
                  have rd31 : RD V29 := fun h1 => absurd h1 (by rw [up2_s hV29]; decide)
                  exact W.iret (v := (V13 0 81)) hx hb hr (fun t ht hW => ⟨⟨(V13 0 81), (V29, L), rfl, ⟨hMV29, agV29, rfl, rd31, (Imp.mk (fun hp => have hp : (V 0 54).toInt = 1 := hp; (show (V29 0 54).toInt = 1 from by first | omega | ((try (have i_rd := Imp.go rd (by omega))); (try (have i_tb := Imp.go tb (by omega))); (try (have i_tb := Imp.go tb (by omega))); (try (have i_rd := Imp.go rd (by omega))); omega))))⟩, by rw [ht]; exact hP, va_K.moved hW.alike hK, hD⟩, hS.F ht⟩) hS.2.2 dX12_check_153
                · skip
                  have f32 : ((V13 0 81)).toInt = 0 := b_eq rfl (by decide) c27
                  refine lv_iconst (v := 1) hx hb dX12_check_141 (by decide) ?_
                  refine lv_goto (tgt := 146) hx hb dX12_check_142 (by decide) ?_
                  refine va_put (D := D) (ci := 12) (v := .int 1) (ty := tyX12 54) (C := RX12) (T := TX12) (N := 100) hx hb hg inX12 tyX12 tyX12_ok nmX12 hown hK hP hD hS 0 rfl rfl 54 (by decide) (hg _ w1760) (fun _ h9 => h9) rfl (tyX12_ok 54 (by decide)) rfl rfl (Nat.le_of_ble_eq_true rfl) dX12_check_146 (fun H locs hP hD hS => ?_)
                  obtain ⟨V33, hV33⟩ : ∃ z, z = up2 V13 0 54 1 := ⟨_, rfl⟩
                  have hP : va_P D vwCl (mw ad kk ks.1 V33 L) H := by rw [hV33]; exact hP
                  have hD : va_D A (mw ad kk ks.1 V33 L) := by rw [hV33]; exact hD
                  have hMV33 : rgd bM V33 := hMV13.put hV33 (by decide)
                  have agV33 : agr [(0, 0), (0, 54), (0, 81), (0, 89)] [80, 82, 83, 84, 85, 86, 87, 88] V V33 := agV13.up hV33 rfl
                  refine lv_aload_n hx hb dX12_check_149 rfl (lv_at hl 1 rfl) ?_
                  refine va_get (D := D) (ci := 12) (v := .int (V33 0 81)) (C := RX12) (T := TX12) (N := 100) hx hb hg inX12 hown hK hP 0 rfl rfl 81 (by decide) (hg _ w1787) (fun _ h9 => h9) rfl dX12_check_150 ?_
                  refine g_top (v := (V13 0 81)) (up2_k hV33 (by decide)) ?_
                  have pq34 : (V33 0 54).toInt = 1 := (congrArg Int32.toInt (up2_s hV33)).trans (by decide)
                  have a54 : agr [(0, 54)] [] V13 V33 := agr.up agr.rf hV33 rfl
                  have rd35 : RD V33 := fun _ => RD_st (DD.RD (Imp.go xlp14_4 (by (first | exact om_b1799fcf2d63 r16.1 f32 | omega))) (by rw [(nwh_ag agV13 ⟨rfl, fun _ => rfl, fun _ => rfl, fun _ => rfl, fun _ => rfl, fun _ => rfl, fun _ => rfl⟩).2]; exact Int.le_refl _)) a54 ⟨rfl, fun _ => rfl, fun _ => rfl, fun _ => rfl, fun _ => rfl, fun _ => rfl, fun _ => rfl⟩ (c0k.ag a54 rfl)
                  exact W.iret (v := (V13 0 81)) hx hb hr (fun t ht hW => ⟨⟨(V13 0 81), (V33, L), rfl, ⟨hMV33, agV33, rfl, rd35, (Imp.mk (fun hp => have hp : (V 0 54).toInt = 1 := hp; (show (V33 0 54).toInt = 1 from by first | omega | ((try (have i_rd := Imp.go rd (by omega))); (try (have i_tb := Imp.go tb (by omega))); (try (have i_tb := Imp.go tb (by omega))); (try (have i_rd := Imp.go rd (by omega))); omega))))⟩, by rw [ht]; exact hP, va_K.moved hW.alike hK, hD⟩, hS.F ht⟩) hS.2.2 dX12_check_153
            · skip
              have f36 : y12.toInt < ((V 19 (Int32.toNatClampNeg (V 0 11)))).toInt := b_nle rfl rfl c17
              refine lv_aload_n hx hb dX12_check_98 rfl (lv_at hl 1 rfl) ?_
              refine lv_iload_n hx hb dX12_check_99 rfl (lv_at hl 0 rfl) ?_
              refine gA_int (gA_runV (As := [.int y12]) (rest := []) (ci := 12) (q0 := 0) hx hb hml hown hg hP hD hK hS hA hnw hgk (s_isThere2 l D ks H.size ad kk V13 L y12 hMV13 ) w2164 w2166 w117 w172 w2167 rfl rfl hdV_yX12_isThere ⟨Nat.le_of_ble_eq_true rfl, Nat.le_of_ble_eq_true rfl⟩ rfl hl.1 rfl (Nat.le_of_ble_eq_true rfl) dX12_check_100 ⟨Nat.le_of_ble_eq_true rfl, Nat.le_of_ble_eq_true rfl⟩) hP hD hK hS hA (fun z37 u38 H locs w39 hP hD hK hS => ?_)
              obtain ⟨rgz37, t40, t41, t42⟩ := w39
              have rgz37 : 0 ≤ z37.toInt ∧ z37.toInt ≤ 1 := rgz37
              have t40 : Imp (z37.toInt = 1) (0 ≤ y12.toInt ∧ y12.toInt ≤ 23) := t40
              have t41 : Imp (z37.toInt = 1) (th V13 (Int32.toNatClampNeg y12)) := t41
              have t42 : Imp (z37.toInt = 0) (0 ≤ y12.toInt → ¬ th V13 (Int32.toNatClampNeg y12)) := t42
              refine lv_if_eq (tgt := 120) hx hb dX12_check_103 (by decide) (fun c43 => ?_) (fun c43 => ?_)
              · skip
                have f44 : z37.toInt = 0 := b_eq rfl (by decide) c43
                obtain ⟨z45, ez45⟩ : ∃ y : Int32, y = y12 + 1 := ⟨_, rfl⟩
                have hz45 : z45.toInt = y12.toInt + 1 := i_add ez45 rfl (by decide) (by (first | exact om_ef5c713ba60b r8.2 klp14_0.1 f36 | omega))
                refine lv_iinc (v := z45) (lv' := [(1, .int z45), (0, .ref (ad 0))]) hx hb dX12_check_120 hl (k := 0) rfl (by rw [ez45]; rfl) (by decide) rfl (fun ls hl => ?_)
                refine lv_goto (tgt := 85) hx hb dX12_check_123 (by decide) ?_
                have c046 : c0k V V13 := xlp14_3
                exact ihlp14 z45 V13 H locs ls (by first | exact om_66f93e1729e3 r8.2 klp14_0.1 f36 hz45 | first | omega | ((try (have i_t40 := Imp.go t40 (by omega))); (try (have i_rd := Imp.go rd (by omega))); (try (have i_tb := Imp.go tb (by omega))); (try (have i_tb := Imp.go tb (by omega))); (try (have i_rd := Imp.go rd (by omega))); (try (have i_t40 := Imp.go t40 (by omega))); omega)) (show (V13 0 89).toInt = 0 from by first | exact om_b66ba74381d5 xlp14_0 | first | omega | ((try (have i_t40 := Imp.go t40 (by omega))); (try (have i_rd := Imp.go rd (by omega))); (try (have i_tb := Imp.go tb (by omega))); (try (have i_tb := Imp.go tb (by omega))); (try (have i_rd := Imp.go rd (by omega))); (try (have i_t40 := Imp.go t40 (by omega))); omega)) (show (V13 0 81).toInt + 192 * (cz V13 24 : Int) ≤ 4800 from by first | exact om_35839bd490a5 xlp14_1 | first | omega | ((try (have i_t40 := Imp.go t40 (by omega))); (try (have i_rd := Imp.go rd (by omega))); (try (have i_tb := Imp.go tb (by omega))); (try (have i_tb := Imp.go tb (by omega))); (try (have i_rd := Imp.go rd (by omega))); (try (have i_t40 := Imp.go t40 (by omega))); omega)) xlp14_2 c046 xlp14_4 (by first | exact om_9592d9319ffa hn hz45 | first | omega | ((try (have i_t40 := Imp.go t40 (by omega))); (try (have i_rd := Imp.go rd (by omega))); (try (have i_tb := Imp.go tb (by omega))); (try (have i_tb := Imp.go tb (by omega))); (try (have i_rd := Imp.go rd (by omega))); (try (have i_t40 := Imp.go t40 (by omega))); omega)) (agr.tr agr.rf ajV13 (by decide) (by decide)) hMV13 hP hD hS (lv_sub hl [0, 1] rfl)
              · skip
                have f47 : z37.toInt ≠ 0 := b_neq rfl (by decide) c43
                refine lv_aload_n hx hb dX12_check_106 rfl (lv_at hl 1 rfl) ?_
                refine va_get (D := D) (ci := 12) (v := .ref (ad 87)) (C := RX12) (T := TX12) (N := 100) hx hb hg inX12 hown hK hP 0 rfl rfl 87 (by decide) (hg _ w1793) (fun _ h9 => h9) rfl dX12_check_107 ?_
                refine lv_iload_n hx hb dX12_check_110 rfl (lv_at hl 0 rfl) ?_
                refine va_iald (D := D) (i := y12) hx hb hK hP 63 62 rfl rfl (i_in (a := y12.toInt) rfl (by first | exact om_b50422aacf88 r8.2 klp14_0.1 f36 | first | omega | ((try (have i_t40 := Imp.go t40 (by omega))); (try (have i_rd := Imp.go rd (by omega))); (try (have i_tb := Imp.go tb (by omega))); (try (have i_tb := Imp.go tb (by omega))); (try (have i_rd := Imp.go rd (by omega))); (try (have i_t40 := Imp.go t40 (by omega))); omega))) dX12_check_111 ?_
                have r48 : 0 ≤ ((V13 87 (Int32.toNatClampNeg y12))).toInt ∧ ((V13 87 (Int32.toNatClampNeg y12))).toInt ≤ 2 := hMV13 87 (Int32.toNatClampNeg y12)
                refine lv_if_ne (tgt := 120) hx hb dX12_check_112 (by decide) (fun c49 => ?_) (fun c49 => ?_)
                · skip
                  have f50 : ((V13 87 (Int32.toNatClampNeg y12))).toInt ≠ 0 := b_neq rfl (by decide) c49
                  obtain ⟨z51, ez51⟩ : ∃ y : Int32, y = y12 + 1 := ⟨_, rfl⟩
                  have hz51 : z51.toInt = y12.toInt + 1 := i_add ez51 rfl (by decide) (by (first | exact om_ef5c713ba60b r8.2 klp14_0.1 f36 | omega))
                  refine lv_iinc (v := z51) (lv' := [(1, .int z51), (0, .ref (ad 0))]) hx hb dX12_check_120 hl (k := 0) rfl (by rw [ez51]; rfl) (by decide) rfl (fun ls hl => ?_)
                  refine lv_goto (tgt := 85) hx hb dX12_check_123 (by decide) ?_
                  have c052 : c0k V V13 := xlp14_3
                  exact ihlp14 z51 V13 H locs ls (by first | exact om_c62257e9ef2f klp14_0.1 hz51 ((Imp.go t40 (imp_a (rgz37.1) (rgz37.2) (f47))).2) | first | omega | ((try (have i_t40 := Imp.go t40 (by omega))); (try (have i_rd := Imp.go rd (by omega))); (try (have i_tb := Imp.go tb (by omega))); (try (have i_tb := Imp.go tb (by omega))); (try (have i_rd := Imp.go rd (by omega))); (try (have i_t40 := Imp.go t40 (by omega))); omega)) (show (V13 0 89).toInt = 0 from by first | exact om_b66ba74381d5 xlp14_0 | first | omega | ((try (have i_t40 := Imp.go t40 (by omega))); (try (have i_rd := Imp.go rd (by omega))); (try (have i_tb := Imp.go tb (by omega))); (try (have i_tb := Imp.go tb (by omega))); (try (have i_rd := Imp.go rd (by omega))); (try (have i_t40 := Imp.go t40 (by omega))); omega)) (show (V13 0 81).toInt + 192 * (cz V13 24 : Int) ≤ 4800 from by first | exact om_35839bd490a5 xlp14_1 | first | omega | ((try (have i_t40 := Imp.go t40 (by omega))); (try (have i_rd := Imp.go rd (by omega))); (try (have i_tb := Imp.go tb (by omega))); (try (have i_tb := Imp.go tb (by omega))); (try (have i_rd := Imp.go rd (by omega))); (try (have i_t40 := Imp.go t40 (by omega))); omega)) xlp14_2 c052 xlp14_4 (by first | exact om_9592d9319ffa hn hz51 | first | omega | ((try (have i_t40 := Imp.go t40 (by omega))); (try (have i_rd := Imp.go rd (by omega))); (try (have i_tb := Imp.go tb (by omega))); (try (have i_tb := Imp.go tb (by omega))); (try (have i_rd := Imp.go rd (by omega))); (try (have i_t40 := Imp.go t40 (by omega))); omega)) (agr.tr agr.rf ajV13 (by decide) (by decide)) hMV13 hP hD hS (lv_sub hl [0, 1] rfl)
                · skip
                  have f53 : ((V13 87 (Int32.toNatClampNeg y12))).toInt = 0 := b_eq rfl (by decide) c49
                  have czl := cz_le V13 24
                  refine lv_aload_n hx hb dX12_check_115 rfl (lv_at hl 1 rfl) ?_
                  refine lv_iload_n hx hb dX12_check_116 rfl (lv_at hl 0 rfl) ?_
                  refine gA_void (gA_runV (As := [.int y12]) (rest := []) (ci := 12) (q0 := 0) hx hb hml hown hg hP hD hK hS hA hnw hgk (s_visits24 l D ks H.size ad kk V13 L y12 (4800) hMV13 (by first | exact om_8840667578a5 r8.2 klp14_0.1 f36 | first | omega | ((try (have i_t40 := Imp.go t40 (by omega))); (try (have i_rd := Imp.go rd (by omega))); (try (have i_tb := Imp.go tb (by omega))); (try (have i_tb := Imp.go tb (by omega))); (try (have i_rd := Imp.go rd (by omega))); (try (have i_t40 := Imp.go t40 (by omega))); omega)) (show (V13 0 89).toInt + (cz V13 24 : Int) ≤ 24 from by first | omega | ((try (have i_t40 := Imp.go t40 (by omega))); (try (have i_rd := Imp.go rd (by omega))); (try (have i_tb := Imp.go tb (by omega))); (try (have i_tb := Imp.go tb (by omega))); (try (have i_rd := Imp.go rd (by omega))); (try (have i_t40 := Imp.go t40 (by omega))); omega)) (show (V13 87 (Int32.toNatClampNeg y12)).toInt = 0 from by first | exact om_b1799fcf2d63 r48.1 f53 | first | omega | ((try (have i_t40 := Imp.go t40 (by omega))); (try (have i_rd := Imp.go rd (by omega))); (try (have i_tb := Imp.go tb (by omega))); (try (have i_tb := Imp.go tb (by omega))); (try (have i_rd := Imp.go rd (by omega))); (try (have i_t40 := Imp.go t40 (by omega))); omega)) (fun d hd h1 => absurd h1 (xlp14_2 d (by rw [(nwh_ag agV13 ⟨rfl, fun _ => rfl, fun _ => rfl, fun _ => rfl, fun _ => rfl, fun _ => rfl, fun _ => rfl⟩).2] at hd; exact hd))) (show (V13 0 81).toInt + 192 * (cz V13 24 : Int) ≤ (4800) from by first | exact om_35839bd490a5 xlp14_1 | first | omega | ((try (have i_t40 := Imp.go t40 (by omega))); (try (have i_rd := Imp.go rd (by omega))); (try (have i_tb := Imp.go tb (by omega))); (try (have i_tb := Imp.go tb (by omega))); (try (have i_rd := Imp.go rd (by omega))); (try (have i_t40 := Imp.go t40 (by omega))); omega)) (show (4800) ≤ 999000 from by first | omega | ((try (have i_t40 := Imp.go t40 (by omega))); (try (have i_rd := Imp.go rd (by omega))); (try (have i_tb := Imp.go tb (by omega))); (try (have i_tb := Imp.go tb (by omega))); (try (have i_rd := Imp.go rd (by omega))); (try (have i_t40 := Imp.go t40 (by omega))); omega)) (by rw [(nwh_ag agV13 ⟨rfl, fun _ => rfl, fun _ => rfl, fun _ => rfl, fun _ => rfl, fun _ => rfl, fun _ => rfl⟩).2]; show y12.toInt < (V 19 (Int32.toNatClampNeg (V 0 11))).toInt; first | omega | ((try (have i_t40 := Imp.go t40 (by omega))); (try (have i_rd := Imp.go rd (by omega))); (try (have i_tb := Imp.go tb (by omega))); (try (have i_tb := Imp.go tb (by omega))); (try (have i_rd := Imp.go rd (by omega))); (try (have i_t40 := Imp.go t40 (by omega))); omega)) (TB.ag tb hMV agV13 rfl (by decide) (by decide))) w2187 w2189 w122 w172 w2190 rfl rfl hdV_yX12_visits ⟨Nat.le_of_ble_eq_true rfl, Nat.le_of_ble_eq_true rfl⟩ rfl hl.1 rfl (Nat.le_of_ble_eq_true rfl) dX12_check_117 ⟨Nat.le_of_ble_eq_true rfl, Nat.le_of_ble_eq_true rfl⟩) hP hD hK hS hA (fun u55 H locs w56 hP hD hK hS => ?_)
                  obtain ⟨V63, L64⟩ := u55
                  obtain ⟨hMV63, ajV63, axL64, t57, t58, t59, t60, t61, t62⟩ := w56
                  have axL64 : L = L64 := Eq.symm axL64
                  subst axL64
                  have hP : va_P D vwCl (mw ad kk ks.1 V63 L) H := hP
                  have hD : va_D A (mw ad kk ks.1 V63 L) := hD
                  have hMV63 : rgd bM V63 := hMV63
                  have ajV63 : agr [(0, 81), (0, 89)] [80, 82, 83, 84, 85, 87, 88] V13 V63 := ajV63
                  have agV63 : agr [(0, 0), (0, 54), (0, 81), (0, 89)] [80, 82, 83, 84, 85, 86, 87, 88] V V63 := agV13.tr ajV63 (by decide) (by decide)
                  have t57 : (V63 0 89).toInt = (V13 0 89).toInt := t57
                  have t58 : (cz V63 24 : Int) + 1 ≤ (cz V13 24 : Int) := t58
                  have t59 : (V63 0 81).toInt + 192 * (cz V63 24 : Int) ≤ (4800) := t59
                  have t60 : (V13 0 81).toInt ≤ (V63 0 81).toInt := t60
                  have t61 : visP V13 V63 := t61
                  have t62 : c0k V13 V63 := t62
                  have r65 : 0 ≤ ((V63 0 89)).toInt ∧ ((V63 0 89)).toInt ≤ 24 := hMV63 0 89
                  have r66 : 0 ≤ ((V63 0 81)).toInt ∧ ((V63 0 81)).toInt ≤ 1000000 := hMV63 0 81
                  obtain ⟨z67, ez67⟩ : ∃ y : Int32, y = y12 + 1 := ⟨_, rfl⟩
                  have hz67 : z67.toInt = y12.toInt + 1 := i_add ez67 rfl (by decide) (by (first | exact om_ef5c713ba60b r8.2 klp14_0.1 f36 | omega))
                  refine lv_iinc (v := z67) (lv' := [(1, .int z67), (0, .ref (ad 0))]) hx hb dX12_check_120 hl (k := 0) rfl (by rw [ez67]; rfl) (by decide) rfl (fun ls hl => ?_)
                  refine lv_goto (tgt := 85) hx hb dX12_check_123 (by decide) ?_
                  have c068 : c0k V V63 := (c0k.tr (V := V) (W := V13) (X := V63) xlp14_3 t62 agV13 ⟨rfl, fun _ => rfl, fun _ => rfl, fun _ => rfl, fun _ => rfl, fun _ => rfl, fun _ => rfl⟩)
                  exact ihlp14 z67 V63 H locs ls (by first | exact om_c62257e9ef2f klp14_0.1 hz67 ((Imp.go t40 (imp_a (rgz37.1) (rgz37.2) (f47))).2) | first | omega | ((try (have i_t40 := Imp.go t40 (by omega))); (try (have i_rd := Imp.go rd (by omega))); (try (have i_tb := Imp.go tb (by omega))); (try (have i_tb := Imp.go tb (by omega))); (try (have i_rd := Imp.go rd (by omega))); (try (have i_t40 := Imp.go t40 (by omega))); omega)) (show (V63 0 89).toInt = 0 from by first | exact om_36161e850215 xlp14_0 t57 | first | omega | ((try (have i_t40 := Imp.go t40 (by omega))); (try (have i_rd := Imp.go rd (by omega))); (try (have i_tb := Imp.go tb (by omega))); (try (have i_tb := Imp.go tb (by omega))); (try (have i_rd := Imp.go rd (by omega))); (try (have i_t40 := Imp.go t40 (by omega))); omega)) (show (V63 0 81).toInt + 192 * (cz V63 24 : Int) ≤ 4800 from by first | exact om_35839bd490a5 t59 | first | omega | ((try (have i_t40 := Imp.go t40 (by omega))); (try (have i_rd := Imp.go rd (by omega))); (try (have i_tb := Imp.go tb (by omega))); (try (have i_tb := Imp.go tb (by omega))); (try (have i_rd := Imp.go rd (by omega))); (try (have i_t40 := Imp.go t40 (by omega))); omega)) (fun d hd h1 => xlp14_2 d hd (t61.1 d h1)) c068 (Imp.mk (fun hp => DD.st (Imp.go xlp14_4 (by omega)) ajV63 ⟨rfl, fun _ => rfl, fun _ => rfl, fun _ => rfl, fun _ => rfl, fun _ => rfl, fun _ => rfl⟩ t62)) (by first | exact om_9592d9319ffa hn hz67 | first | omega | ((try (have i_t40 := Imp.go t40 (by omega))); (try (have i_rd := Imp.go rd (by omega))); (try (have i_tb := Imp.go tb (by omega))); (try (have i_tb := Imp.go tb (by omega))); (try (have i_rd := Imp.go rd (by omega))); (try (have i_t40 := Imp.go t40 (by omega))); omega)) (agr.tr (agr.tr agr.rf ajV13 (by decide) (by decide)) ajV63 (by decide) (by decide)) hMV63 hP hD hS (lv_sub hl [0, 1] rfl)
        have r69 : Int32.toInt 0 = 0 := by decide
        have pq70 : (V11 0 89).toInt = 0 := (congrArg Int32.toInt (up2_s hV11)).trans (by decide)
        have cz71 : cz V11 24 = cz V4 24 := cz_o hV11 (by decide)
        have pq72 : (V11 0 81).toInt = ((V4 0 81)).toInt := congrArg Int32.toInt (up2_k hV11 (by decide))
        have e19c : (V 19 (nwh V)).toInt = (V 19 (Int32.toNatClampNeg (V 0 11))).toInt := rfl
        have c073 : c0k V V11 := (c0k.tr (V := V) (W := V4) (X := V11) xlp5_3 (Or.inl (up2_o hV11 (by decide))) agV4 ⟨rfl, fun _ => rfl, fun _ => rfl, fun _ => rfl, fun _ => rfl, fun _ => rfl, fun _ => rfl⟩)
        exact lp14 ((24 - (Int32.toInt 0) + 1 : Int).toNat) 0 V11 H locs ls (by decide) (show (V11 0 89).toInt = 0 from by first | exact om_b66ba74381d5 pq70 | first | omega | ((try (have i_rd := Imp.go rd (by omega))); (try (have i_tb := Imp.go tb (by omega))); (try (have i_tb := Imp.go tb (by omega))); (try (have i_rd := Imp.go rd (by omega))); omega)) (show (V11 0 81).toInt + 192 * (cz V11 24 : Int) ≤ 4800 from by first | omega | ((try (have i_rd := Imp.go rd (by omega))); (try (have i_tb := Imp.go tb (by omega))); (try (have i_tb := Imp.go tb (by omega))); (try (have i_rd := Imp.go rd (by omega))); omega)) (fun d hd h1 => by rw [(show agr [(0, 89)] [] V4 V11 from (agr.up agr.rf hV11 rfl)) 87 _ rfl] at h1; have h9 := xlp5_1 d (by omega); omega) c073 (Imp.mk (fun hp => DD.le (DD.st (Imp.go xlp5_2 (by omega)) (show agr [(0, 89)] [] V4 V11 from (agr.up agr.rf hV11 rfl)) ⟨rfl, fun _ => rfl, fun _ => rfl, fun _ => rfl, fun _ => rfl, fun _ => rfl, fun _ => rfl⟩ (c0k.ag (show agr [(0, 89)] [] V4 V11 from (agr.up agr.rf hV11 rfl)) rfl)) (by omega))) (by first | exact om_817980d3aa47 | first | omega | ((try (have i_rd := Imp.go rd (by omega))); (try (have i_tb := Imp.go tb (by omega))); (try (have i_tb := Imp.go tb (by omega))); (try (have i_rd := Imp.go rd (by omega))); omega)) agr.rf hMV11 hP hD hS (lv_sub hl [0, 1] rfl)
      · skip
        have f74 : y3.toInt < ((V 19 (Int32.toNatClampNeg (V 0 11)))).toInt := b_nle rfl rfl c9
        refine lv_aload_n hx hb dX12_check_25 rfl (lv_at hl 1 rfl) ?_
        refine va_get (D := D) (ci := 12) (v := .ref (ad 87)) (C := RX12) (T := TX12) (N := 100) hx hb hg inX12 hown hK hP 0 rfl rfl 87 (by decide) (hg _ w1793) (fun _ h9 => h9) rfl dX12_check_26 ?_
        refine lv_iload_n hx hb dX12_check_29 rfl (lv_at hl 0 rfl) ?_
        refine lv_iconst (v := 0) hx hb dX12_check_30 (by decide) ?_
        refine va_iast (D := D) (i := y3) (x := 0) hx hb hK hP hD hS 63 62 rfl rfl (i_in (a := y3.toInt) rfl (by first | exact om_f72f4702fe79 klp5_0.1 r8.2 f74 | first | omega | ((try (have i_rd := Imp.go rd (by omega))); (try (have i_tb := Imp.go tb (by omega))); (try (have i_tb := Imp.go tb (by omega))); (try (have i_rd := Imp.go rd (by omega))); omega))) dX12_check_31 (fun H locs hP hD hS => ?_)
        obtain ⟨V75, hV75⟩ : ∃ z, z = up2 V4 87 (Int32.toNatClampNeg y3) 0 := ⟨_, rfl⟩
        have hP : va_P D vwCl (mw ad kk ks.1 V75 L) H := by rw [hV75]; exact hP
        have hD : va_D A (mw ad kk ks.1 V75 L) := by rw [hV75]; exact hD
        have hMV75 : rgd bM V75 := hMV4.put hV75 (show 0 ≤ Int32.toInt 0 ∧ Int32.toInt 0 ≤ 2 from by decide)
        have agV75 : agr [(0, 0), (0, 54), (0, 81), (0, 89)] [80, 82, 83, 84, 85, 86, 87, 88] V V75 := agV4.up hV75 rfl
        refine lv_iconst (v := 0) hx hb dX12_check_32 (by decide) ?_
        refine lv_istore_n (lv' := [(2, .int 0), (1, .int y3), (0, .ref (ad 0))]) hx hb dX12_check_33 rfl hl (by decide) rfl (fun ls hl => ?_)
        have lp78 : ∀ (fulp78 : Nat) (y76 : Int32) (V77 : Vf) (H : Heap) (locs : List Loc) (ls : Array Slot), 0 ≤ y76.toInt ∧ y76.toInt ≤ 8 → (V77 0 81).toInt ≤ 8 * y3.toInt + y76.toInt → (∀ d : Nat, (d : Int) < y3.toInt + 1 → (V77 87 d).toInt = 0) → Imp ((V77 0 81).toInt = 0) (DD V77 y3.toInt y76.toInt) → c0k V V77 → 8 - y76.toInt < (fulp78 : Int) → agr [(0, 81)] [80, 82, 83, 84, 86] V75 V77 → rgd bM V77 → va_P D vwCl (mw ad kk ks.1 V77 L) H → va_D A (mw ad kk ks.1 V77 L) → va_S A s.heap H locs → lv_has ls 3 [(2, .int y76), (1, .int y3), (0, .ref (ad 0))] → W p l e r_s_check2 s m ([.ref (ad 0)] : List Value).toArray below meth c H locs 0 0 (MQ below (q_s_check2 D ks ad kk V L  A) ([.ref (ad 0)] : List Value).toArray s 0 0 A) (F0 m 34 ls []) := by
          intro fulp78
          induction fulp78 with
          | zero =>
            intro y76 V77 H locs ls klp78_0 xlp78_0 xlp78_1 xlp78_2 xlp78_3 hn ajV77 hMV77 hP hD hS hl
            exfalso; (first | exact om_e2d570575604 klp78_0.2 hn | omega)
          | succ fulp78 ihlp78 =>
            intro y76 V77 H locs ls klp78_0 xlp78_0 xlp78_1 xlp78_2 xlp78_3 hn ajV77 hMV77 hP hD hS hl
            have agV77 : agr [(0, 0), (0, 54), (0, 81), (0, 89)] [80, 82, 83, 84, 85, 86, 87, 88] V V77 := agV75.tr ajV77 (by decide) (by decide)
            have r79 : 0 ≤ ((V77 0 81)).toInt ∧ ((V77 0 81)).toInt ≤ 1000000 := hMV77 0 81
            refine lv_iload_n hx hb dX12_check_34 rfl (lv_at hl 0 rfl) ?_
            refine lv_aload_n hx hb dX12_check_35 rfl (lv_at hl 2 rfl) ?_
            refine va_get (D := D) (ci := 12) (v := .ref (ad 27)) (C := RX12) (T := TX12) (N := 100) hx hb hg inX12 hown hK hP 0 rfl rfl 27 (by decide) (hg _ w1733) (fun _ h9 => h9) rfl dX12_check_36 ?_
            refine lv_bipush (v := 24) hx hb dX12_check_39 (by decide) ?_
            refine lv_aload_n hx hb dX12_check_41 rfl (lv_at hl 2 rfl) ?_
            refine va_get (D := D) (ci := 12) (v := .int (V77 0 11)) (C := RX12) (T := TX12) (N := 100) hx hb hg inX12 hown hK hP 0 rfl rfl 11 (by decide) (hg _ w1717) (fun _ h9 => h9) rfl dX12_check_42 ?_
            refine g_top (v := (V 0 11)) ((ajV77 0 11 rfl).trans ((up2_o hV75 (by decide)).trans ((ajV4 0 11 rfl).trans ((up2_k hV2 (by decide)).trans (up2_k hV1 (by decide)))))) ?_
            refine lv_imul hx hb dX12_check_45 ?_
            refine lv_topi (fun z80 ez80 => ?_)
            have hz80 : z80.toInt = 24 * ((V 0 11)).toInt := i_mul ez80 (by decide) rfl (by (first | exact om_3f8aba7b6ce1 r7.1 r7.2 | omega))
            refine lv_iload_n hx hb dX12_check_46 rfl (lv_at hl 1 rfl) ?_
            refine lv_iadd hx hb dX12_check_47 ?_
            refine lv_topi (fun z81 ez81 => ?_)
            have hz81 : z81.toInt = z80.toInt + y3.toInt := i_add ez81 rfl rfl (by (first | exact om_140f5757d01d klp5_0.1 r7.1 r7.2 r8.2 f74 hz80 | omega))
            refine va_iald (D := D) (i := z81) hx hb hK hP 20 19 rfl rfl (i_in (a := z81.toInt) rfl (by first | exact om_af63ae00f401 klp5_0.1 r7.1 r7.2 r8.2 f74 hz80 hz81 | first | omega | ((try (have i_rd := Imp.go rd (by omega))); (try (have i_tb := Imp.go tb (by omega))); (try (have i_tb := Imp.go tb (by omega))); (try (have i_rd := Imp.go rd (by omega))); omega))) dX12_check_48 ?_
            refine g_top (v := (V 27 (Int32.toNatClampNeg z81))) ((ajV77 27 (Int32.toNatClampNeg z81) rfl).trans ((up2_o hV75 (by decide)).trans ((ajV4 27 (Int32.toNatClampNeg z81) rfl).trans ((up2_o hV2 (by decide)).trans (up2_o hV1 (by decide)))))) ?_
            have r82 : 0 ≤ ((V 27 (Int32.toNatClampNeg z81))).toInt ∧ ((V 27 (Int32.toNatClampNeg z81))).toInt ≤ 8 := hMV 27 (Int32.toNatClampNeg z81)
            refine lv_icmp_ge (tgt := 72) hx hb dX12_check_49 (by decide) (fun c83 => ?_) (fun c83 => ?_)
            · skip
              have f84 : ((V 27 (Int32.toNatClampNeg z81))).toInt ≤ y76.toInt := b_le rfl rfl c83
              have kn : (nwh V : Int) = (V 0 11).toInt := i_clamp (x := V 0 11) rfl (by (first | exact om_eafa9039069c r7.1 | omega))
              have kl1 := i_clamp (x := y3) rfl (by (first | exact om_eafa9039069c klp5_0.1 | omega))
              have e19b : (V 19 (nwh V)).toInt = (V 19 (Int32.toNatClampNeg (V 0 11))).toInt := rfl
              have ki : Int32.toNatClampNeg z81 = 24 * nwh V + Int32.toNatClampNeg y3 := by have h9 := i_clamp (x := z81) rfl (by (first | exact om_11587583f9f8 klp5_0.1 r7.1 hz80 hz81 | omega)); (first | exact om_513b2bd4b43e hz80 hz81 kn kl1 h9 | omega)
              have q27 : (V 27 (24 * nwh V + Int32.toNatClampNeg y3)).toInt = (V 27 (Int32.toNatClampNeg z81)).toInt := by rw [ki]
              obtain ⟨z85, ez85⟩ : ∃ y : Int32, y = y3 + 1 := ⟨_, rfl⟩
              have hz85 : z85.toInt = y3.toInt + 1 := i_add ez85 rfl (by decide) (by (first | exact om_d1b22b2ae31e klp5_0.1 r8.2 f74 | omega))
              refine lv_iinc (v := z85) (lv' := [(1, .int z85), (2, .int y76), (0, .ref (ad 0))]) hx hb dX12_check_72 hl (k := 1) rfl (by rw [ez85]; rfl) (by decide) rfl (fun ls hl => ?_)
              refine lv_goto (tgt := 12) hx hb dX12_check_75 (by decide) ?_
              have c086 : c0k V V77 := xlp78_3
              exact ihlp5 z85 V77 H locs ls (by first | exact om_5c2541dbcd85 klp5_0.1 r8.2 f74 hz85 | first | omega | ((try (have i_rd := Imp.go rd (by omega))); (try (have i_tb := Imp.go tb (by omega))); (try (have i_tb := Imp.go tb (by omega))); (try (have i_rd := Imp.go rd (by omega))); omega)) (show (V77 0 81).toInt ≤ 8 * z85.toInt from by first | exact om_d8544cdc4a51 klp78_0.2 xlp78_0 hz85 | first | omega | ((try (have i_rd := Imp.go rd (by omega))); (try (have i_tb := Imp.go tb (by omega))); (try (have i_tb := Imp.go tb (by omega))); (try (have i_rd := Imp.go rd (by omega))); omega)) (fun d hd => xlp78_1 d (by omega)) (Imp.mk (fun hp => by have h9 := DD.up1 (c := Int32.toNatClampNeg y3) (Imp.go xlp78_2 hp) (by omega) (Or.inl (by rw [(nwh_ag agV77 ⟨rfl, fun _ => rfl, fun _ => rfl, fun _ => rfl, fun _ => rfl, fun _ => rfl, fun _ => rfl⟩).1, agV77 27 _ rfl]; omega)); have e9 : z85.toInt = y3.toInt + 1 := (by omega); rw [e9]; exact h9)) c086 (by first | omega | ((try (have i_rd := Imp.go rd (by omega))); (try (have i_tb := Imp.go tb (by omega))); (try (have i_tb := Imp.go tb (by omega))); (try (have i_rd := Imp.go rd (by omega))); omega)) (agr.tr (agr.up (agr.tr agr.rf ajV4 (by decide) (by decide)) hV75 rfl) ajV77 (by decide) (by decide)) hMV77 hP hD hS (lv_sub hl [0, 2] rfl)
            · skip
              have f87 : y76.toInt < ((V 27 (Int32.toNatClampNeg z81))).toInt := b_nle rfl rfl c83
              have kn : (nwh V : Int) = (V 0 11).toInt := i_clamp (x := V 0 11) rfl (by (first | exact om_eafa9039069c r7.1 | omega))
              have kl1 := i_clamp (x := y3) rfl (by (first | exact om_eafa9039069c klp5_0.1 | omega))
              have e19b : (V 19 (nwh V)).toInt = (V 19 (Int32.toNatClampNeg (V 0 11))).toInt := rfl
              have ki : Int32.toNatClampNeg z81 = 24 * nwh V + Int32.toNatClampNeg y3 := by have h9 := i_clamp (x := z81) rfl (by (first | exact om_11587583f9f8 klp5_0.1 r7.1 hz80 hz81 | omega)); (first | exact om_513b2bd4b43e hz80 hz81 kn kl1 h9 | omega)
              have q27 : (V 27 (24 * nwh V + Int32.toNatClampNeg y3)).toInt = (V 27 (Int32.toNatClampNeg z81)).toInt := by rw [ki]
              refine lv_aload_n hx hb dX12_check_52 rfl (lv_at hl 2 rfl) ?_
              refine lv_iload_n hx hb dX12_check_53 rfl (lv_at hl 1 rfl) ?_
              refine gA_int (gA_runV (As := [.int y3]) (rest := []) (ci := 12) (q0 := 0) hx hb hml hown hg hP hD hK hS hA hnw hgk (s_isThere2 l D ks H.size ad kk V77 L y3 hMV77 ) w2164 w2166 w117 w172 w2167 rfl rfl hdV_yX12_isThere ⟨Nat.le_of_ble_eq_true rfl, Nat.le_of_ble_eq_true rfl⟩ rfl hl.1 rfl (Nat.le_of_ble_eq_true rfl) dX12_check_54 ⟨Nat.le_of_ble_eq_true rfl, Nat.le_of_ble_eq_true rfl⟩) hP hD hK hS hA (fun z88 u89 H locs w90 hP hD hK hS => ?_)
              obtain ⟨rgz88, t91, t92, t93⟩ := w90
              have rgz88 : 0 ≤ z88.toInt ∧ z88.toInt ≤ 1 := rgz88
              have t91 : Imp (z88.toInt = 1) (0 ≤ y3.toInt ∧ y3.toInt ≤ 23) := t91
              have t92 : Imp (z88.toInt = 1) (th V77 (Int32.toNatClampNeg y3)) := t92
              have t93 : Imp (z88.toInt = 0) (0 ≤ y3.toInt → ¬ th V77 (Int32.toNatClampNeg y3)) := t93
              refine lv_if_eq (tgt := 72) hx hb dX12_check_57 (by decide) (fun c94 => ?_) (fun c94 => ?_)
              · skip
                have f95 : z88.toInt = 0 := b_eq rfl (by decide) c94
                obtain ⟨z96, ez96⟩ : ∃ y : Int32, y = y3 + 1 := ⟨_, rfl⟩
                have hz96 : z96.toInt = y3.toInt + 1 := i_add ez96 rfl (by decide) (by (first | exact om_d1b22b2ae31e klp5_0.1 r8.2 f74 | omega))
                refine lv_iinc (v := z96) (lv' := [(1, .int z96), (2, .int y76), (0, .ref (ad 0))]) hx hb dX12_check_72 hl (k := 1) rfl (by rw [ez96]; rfl) (by decide) rfl (fun ls hl => ?_)
                refine lv_goto (tgt := 12) hx hb dX12_check_75 (by decide) ?_
                have c097 : c0k V V77 := xlp78_3
                exact ihlp5 z96 V77 H locs ls (by first | exact om_5c2541dbcd85 klp5_0.1 r8.2 f74 hz96 | first | omega | ((try (have i_t91 := Imp.go t91 (by omega))); (try (have i_rd := Imp.go rd (by omega))); (try (have i_tb := Imp.go tb (by omega))); (try (have i_tb := Imp.go tb (by omega))); (try (have i_rd := Imp.go rd (by omega))); (try (have i_t91 := Imp.go t91 (by omega))); omega)) (show (V77 0 81).toInt ≤ 8 * z96.toInt from by first | exact om_3565982d3de2 xlp78_0 r82.2 f87 hz96 | first | omega | ((try (have i_t91 := Imp.go t91 (by omega))); (try (have i_rd := Imp.go rd (by omega))); (try (have i_tb := Imp.go tb (by omega))); (try (have i_tb := Imp.go tb (by omega))); (try (have i_rd := Imp.go rd (by omega))); (try (have i_t91 := Imp.go t91 (by omega))); omega)) (fun d hd => xlp78_1 d (by omega)) (Imp.mk (fun hp => by have h9 := DD.up1 (c := Int32.toNatClampNeg y3) (Imp.go xlp78_2 hp) (by omega) (Or.inr ((Imp.go t93 (by (first | exact om_b1799fcf2d63 rgz88.1 f95 | omega))) (by omega))); have e9 : z96.toInt = y3.toInt + 1 := (by omega); rw [e9]; exact h9)) c097 (by first | omega | ((try (have i_t91 := Imp.go t91 (by omega))); (try (have i_rd := Imp.go rd (by omega))); (try (have i_tb := Imp.go tb (by omega))); (try (have i_tb := Imp.go tb (by omega))); (try (have i_rd := Imp.go rd (by omega))); (try (have i_t91 := Imp.go t91 (by omega))); omega)) (agr.tr (agr.up (agr.tr agr.rf ajV4 (by decide) (by decide)) hV75 rfl) ajV77 (by decide) (by decide)) hMV77 hP hD hS (lv_sub hl [0, 2] rfl)
              · skip
                have f98 : z88.toInt ≠ 0 := b_neq rfl (by decide) c94
                refine lv_aload_n hx hb dX12_check_60 rfl (lv_at hl 2 rfl) ?_
                refine lv_iload_n hx hb dX12_check_61 rfl (lv_at hl 1 rfl) ?_
                refine lv_iload_n hx hb dX12_check_62 rfl (lv_at hl 0 rfl) ?_
                have kl2 := i_clamp (x := y76) rfl (by (first | exact om_eafa9039069c klp78_0.1 | omega))
                have cok := (show TBL V (nwh V) _ from tb).1 (Int32.toNatClampNeg y3) (by omega)
                refine gA_void (gA_runV (As := [.int y3, .int y76]) (rest := []) (ci := 12) (q0 := 0) hx hb hml hown hg hP hD hK hS hA hnw hgk (s_checkNeed2 l D ks H.size ad kk V77 L y3 y76 hMV77 (by first | exact om_d3435e1acec6 klp5_0.1 ((Imp.go t91 (imp_a (rgz88.1) (rgz88.2) (f98))).2) | first | omega | ((try (have i_t91 := Imp.go t91 (by omega))); (try (have i_rd := Imp.go rd (by omega))); (try (have i_tb := Imp.go tb (by omega))); (try (have i_tb := Imp.go tb (by omega))); (try (have i_rd := Imp.go rd (by omega))); (try (have i_t91 := Imp.go t91 (by omega))); omega)) (by first | exact om_45aa31722d3e klp78_0.1 r82.2 f87 | first | omega | ((try (have i_t91 := Imp.go t91 (by omega))); (try (have i_rd := Imp.go rd (by omega))); (try (have i_tb := Imp.go tb (by omega))); (try (have i_tb := Imp.go tb (by omega))); (try (have i_rd := Imp.go rd (by omega))); (try (have i_t91 := Imp.go t91 (by omega))); omega)) (by rw [(nwh_ag agV77 ⟨rfl, fun _ => rfl, fun _ => rfl, fun _ => rfl, fun _ => rfl, fun _ => rfl, fun _ => rfl⟩).1, agV77 28 _ rfl]; exact (cok.2.2.2 (Int32.toNatClampNeg y76) (by omega)).1) (show (V77 0 81).toInt ≤ 999999 from by first | exact om_4ba97e7cbe13 xlp78_0 r82.2 f87 ((Imp.go t91 (imp_a (rgz88.1) (rgz88.2) (f98))).2) | first | omega | ((try (have i_t91 := Imp.go t91 (by omega))); (try (have i_rd := Imp.go rd (by omega))); (try (have i_tb := Imp.go tb (by omega))); (try (have i_tb := Imp.go tb (by omega))); (try (have i_rd := Imp.go rd (by omega))); (try (have i_t91 := Imp.go t91 (by omega))); omega))) w2168 w2170 w118 w172 w2171 rfl rfl hdV_yX12_checkNeed ⟨Nat.le_of_ble_eq_true rfl, Nat.le_of_ble_eq_true rfl⟩ rfl hl.1 rfl (Nat.le_of_ble_eq_true rfl) dX12_check_63 ⟨Nat.le_of_ble_eq_true rfl, Nat.le_of_ble_eq_true rfl⟩) hP hD hK hS hA (fun u100 H locs w101 hP hD hK hS => ?_)
                obtain ⟨V106, L107⟩ := u100
                obtain ⟨hMV106, ajV106, axL107, t102, t103, t104, t105⟩ := w101
                have axL107 : L = L107 := Eq.symm axL107
                subst axL107
                have hP : va_P D vwCl (mw ad kk ks.1 V106 L) H := hP
                have hD : va_D A (mw ad kk ks.1 V106 L) := hD
                have hMV106 : rgd bM V106 := hMV106
                have ajV106 : agr [(0, 81)] [80, 82, 83, 84, 86] V77 V106 := ajV106
                have agV106 : agr [(0, 0), (0, 54), (0, 81), (0, 89)] [80, 82, 83, 84, 85, 86, 87, 88] V V106 := agV77.tr ajV106 (by decide) (by decide)
                have t102 : (V106 0 81).toInt ≤ (V77 0 81).toInt + 1 := t102
                have t103 : (V77 0 81).toInt ≤ (V106 0 81).toInt := t103
                have t104 : c0k V77 V106 := t104
                have t105 : Imp ((V106 0 81).toInt = (V77 0 81).toInt) (1 ≤ (V77 30 (8 * (24 * nwh V77 + Int32.toNatClampNeg y3) + Int32.toNatClampNeg y76)).toInt ∨ th V77 (cd0 V106)) := t105
                have r108 : 0 ≤ ((V106 0 81)).toInt ∧ ((V106 0 81)).toInt ≤ 1000000 := hMV106 0 81
                obtain ⟨z109, ez109⟩ : ∃ y : Int32, y = y76 + 1 := ⟨_, rfl⟩
                have hz109 : z109.toInt = y76.toInt + 1 := i_add ez109 rfl (by decide) (by (first | exact om_56ff1e099a1d klp78_0.1 r82.2 f87 | omega))
                refine lv_iinc (v := z109) (lv' := [(2, .int z109), (1, .int y3), (0, .ref (ad 0))]) hx hb dX12_check_66 hl (k := 0) rfl (by rw [ez109]; rfl) (by decide) rfl (fun ls hl => ?_)
                refine lv_goto (tgt := 34) hx hb dX12_check_69 (by decide) ?_
                have c0110 : c0k V V106 := (c0k.tr (V := V) (W := V77) (X := V106) xlp78_3 t104 agV77 ⟨rfl, fun _ => rfl, fun _ => rfl, fun _ => rfl, fun _ => rfl, fun _ => rfl, fun _ => rfl⟩)
                exact ihlp78 z109 V106 H locs ls (by first | exact om_7c19206264d1 klp78_0.1 r82.2 f87 hz109 | first | omega | ((try (have i_t91 := Imp.go t91 (by omega))); (try (have i_rd := Imp.go rd (by omega))); (try (have i_tb := Imp.go tb (by omega))); (try (have i_tb := Imp.go tb (by omega))); (try (have i_rd := Imp.go rd (by omega))); (try (have i_t91 := Imp.go t91 (by omega))); omega)) (show (V106 0 81).toInt ≤ 8 * y3.toInt + z109.toInt from by first | exact om_44f900edd785 xlp78_0 t102 hz109 | first | omega | ((try (have i_t91 := Imp.go t91 (by omega))); (try (have i_rd := Imp.go rd (by omega))); (try (have i_tb := Imp.go tb (by omega))); (try (have i_tb := Imp.go tb (by omega))); (try (have i_rd := Imp.go rd (by omega))); (try (have i_t91 := Imp.go t91 (by omega))); omega)) (fun d hd => by rw [(show agr [(0, 81)] [80, 82, 83, 84, 86] V77 V106 from (agr.tr agr.rf ajV106 (by decide) (by decide))) 87 _ rfl]; exact xlp78_1 d (by omega)) (Imp.mk (fun hp => by have h9 := DD.nx (c := Int32.toNatClampNeg y3) (j := Int32.toNatClampNeg y76) (Imp.go xlp78_2 (by omega)) t104 ajV106 ⟨rfl, fun _ => rfl, fun _ => rfl, fun _ => rfl, fun _ => rfl, fun _ => rfl, fun _ => rfl⟩ (Imp.go t105 (by omega)) (by have h8 := cOK.ag cok hMV agV77 (fun _ _ _ => ⟨agV77 _ _ rfl, agV77 _ _ rfl, agV77 _ _ rfl⟩) (Nat.le_refl _) (fun _ => rfl) (fun _ => rfl) (fun _ => rfl) (fun _ => rfl) (fun _ => rfl) (fun _ => rfl) (fun _ => rfl); rw [(nwh_ag agV77 ⟨rfl, fun _ => rfl, fun _ => rfl, fun _ => rfl, fun _ => rfl, fun _ => rfl, fun _ => rfl⟩).1]; exact h8) (by omega) (by omega); have e9 : z109.toInt = y76.toInt + 1 := (by omega); rw [e9]; exact h9)) c0110 (by first | exact om_b0e3ceac5369 hn hz109 | first | omega | ((try (have i_t91 := Imp.go t91 (by omega))); (try (have i_rd := Imp.go rd (by omega))); (try (have i_tb := Imp.go tb (by omega))); (try (have i_tb := Imp.go tb (by omega))); (try (have i_rd := Imp.go rd (by omega))); (try (have i_t91 := Imp.go t91 (by omega))); omega)) (agr.tr (agr.tr agr.rf ajV77 (by decide) (by decide)) ajV106 (by decide) (by decide)) hMV106 hP hD hS (lv_sub hl [0, 1, 2] rfl)
        have r111 : Int32.toInt 0 = 0 := by decide
        have pq112 : (V75 0 81).toInt = ((V4 0 81)).toInt := congrArg Int32.toInt (up2_o hV75 (by decide))
        have kz9 := i_clamp (x := y3) rfl (by (first | exact om_3c6ae676fc75 xlp5_0 r6.1 | omega))
        have c0113 : c0k V V75 := (c0k.tr (V := V) (W := V4) (X := V75) xlp5_3 (Or.inl (up2_o hV75 (by decide))) agV4 ⟨rfl, fun _ => rfl, fun _ => rfl, fun _ => rfl, fun _ => rfl, fun _ => rfl, fun _ => rfl⟩)
        exact lp78 ((8 - (Int32.toInt 0) + 1 : Int).toNat) 0 V75 H locs ls (by decide) (show (V75 0 81).toInt ≤ 8 * y3.toInt + (Int32.toInt 0) from by first | exact om_a33138690906 xlp5_0 r111 pq112 | first | omega | ((try (have i_rd := Imp.go rd (by omega))); (try (have i_tb := Imp.go tb (by omega))); (try (have i_tb := Imp.go tb (by omega))); (try (have i_rd := Imp.go rd (by omega))); omega)) (fun d hd => by rcases Decidable.em (d = Int32.toNatClampNeg y3) with hk | hk; (rw [hk, up2_s hV75]; decide); (rw [up2_k hV75 hk]; exact xlp5_1 d (by omega))) (Imp.mk (fun hp => DD.st (Imp.go xlp5_2 (by omega)) (show agr [] [87] V4 V75 from (agr.up agr.rf hV75 rfl)) ⟨rfl, fun _ => rfl, fun _ => rfl, fun _ => rfl, fun _ => rfl, fun _ => rfl, fun _ => rfl⟩ (c0k.ag (show agr [] [87] V4 V75 from (agr.up agr.rf hV75 rfl)) rfl))) c0113 (by first | exact om_a4cbf953e09c | first | omega | ((try (have i_rd := Imp.go rd (by omega))); (try (have i_tb := Imp.go tb (by omega))); (try (have i_tb := Imp.go tb (by omega))); (try (have i_rd := Imp.go rd (by omega))); omega)) agr.rf hMV75 hP hD hS (lv_sub hl [0, 1, 2] rfl)
  have r114 : Int32.toInt 0 = 0 := by decide
  have pq115 : (V2 0 81).toInt = 0 := (congrArg Int32.toInt (up2_s hV2)).trans (by decide)
  have c0116 : c0k V V2 := (c0k.tr (V := V) (W := V1) (X := V2) (c0k.tr (V := V) (W := V) (X := V1) c0k.rf (Or.inl (up2_o hV1 (by decide))) agV ⟨rfl, fun _ => rfl, fun _ => rfl, fun _ => rfl, fun _ => rfl, fun _ => rfl, fun _ => rfl⟩) (Or.inl (up2_o hV2 (by decide))) agV1 ⟨rfl, fun _ => rfl, fun _ => rfl, fun _ => rfl, fun _ => rfl, fun _ => rfl, fun _ => rfl⟩)
  exact lp5 ((24 - (Int32.toInt 0) + 1 : Int).toNat) 0 V2 H locs ls (by decide) (show (V2 0 81).toInt ≤ 8 * (Int32.toInt 0) from by first | exact om_a750ed116da7 r114 pq115 | first | omega | ((try (have i_rd := Imp.go rd (by omega))); (try (have i_tb := Imp.go tb (by omega))); (try (have i_tb := Imp.go tb (by omega))); (try (have i_rd := Imp.go rd (by omega))); omega)) (fun d hd => absurd hd (by omega)) (Imp.mk (fun _ => DD.z (by omega))) c0116 (by first | exact om_817980d3aa47 | first | omega | ((try (have i_rd := Imp.go rd (by omega))); (try (have i_tb := Imp.go tb (by omega))); (try (have i_tb := Imp.go tb (by omega))); (try (have i_rd := Imp.go rd (by omega))); omega)) agr.rf hMV2 hP hD hS (lv_sub hl [0, 1] rfl)
end
section
/-! the wraps of a method: which, how many, in which order -/
def isWb (V : Vf) (o m ph : Int32) (j : Nat) : Bool := decide (V 41 (12 * nwh V + j) = m ∧ V 43 (12 * nwh V + j) = ph ∧ (V 21 (24 * (24 * nwh V + (V 61 (Int32.toNatClampNeg o)).toInt.toNat) + (V 40 (12 * nwh V + j)).toInt.toNat)).toInt ≠ 0)
def wnum (V : Vf) (j : Nat) : Int := (V 42 (12 * nwh V + j)).toInt
def wmany (V : Vf) : Nat := (V 39 (nwh V)).toInt.toNat
def gwc (f : Nat → Bool) (g : Nat → Int) (n : Int) (w : Nat) : Nat → Nat
  | 0 => 0
  | j + 1 => gwc f g n w j + (if f j = true ∧ (g j < n ∨ (g j = n ∧ j < w)) then 1 else 0)
def wcn (f : Nat → Bool) : Nat → Nat
  | 0 => 0
  | j + 1 => wcn f j + (if f j = true then 1 else 0)
theorem wcn_s (f : Nat → Bool) (W : Nat) : wcn f (W + 1) = wcn f W + (if f W = true then 1 else 0) := rfl
theorem w1803 : Cond.fieldLink RX12 225 "WiringHouseModel" "pile" "[I" ∈ GW := gw_k tk9_7 208 (by decide +kernel) rfl
theorem w2307 : Cond.code yX12_push cX12_push 2 none ∈ GW := gw_k tk9_9 232 (rfl) rfl
theorem w2304 : Cond.methodLink RX12 554 yX12_push ∈ GW := gw_k tk9_9 229 (by decide +kernel) rfl
theorem w2306 : Cond.instanceMethod yX12_push ∈ GW := gw_k tk9_9 231 (by decide +kernel) rfl
theorem w145 : Cond.selects RX12 yX12_push yX12_push ∈ GW := gw_mem 145 (by decide +kernel) rfl
theorem hdV_yX12_push : yX12_push.cls = RX12 ∧ yX12_push.cls ≠ "java/lang/invoke/MethodHandle" ∧ yX12_push.cls ≠ "java/lang/invoke/VarHandle" ∧ (parseMethodDescriptor yX12_push.desc).map (fun d => d.parameters.length) = some 1 := by decide +kernel
theorem w2279 : Cond.code yX12_pop cX12_pop 1 (some .int) ∈ GW := gw_k tk9_9 204 (rfl) rfl
theorem w2276 : Cond.methodLink RX12 551 yX12_pop ∈ GW := gw_k tk9_9 201 (by decide +kernel) rfl
theorem w2278 : Cond.instanceMethod yX12_pop ∈ GW := gw_k tk9_9 203 (by decide +kernel) rfl
theorem w138 : Cond.selects RX12 yX12_pop yX12_pop ∈ GW := gw_mem 138 (by decide +kernel) rfl
theorem hdV_yX12_pop : yX12_pop.cls = RX12 ∧ yX12_pop.cls ≠ "java/lang/invoke/MethodHandle" ∧ yX12_pop.cls ≠ "java/lang/invoke/VarHandle" ∧ (parseMethodDescriptor yX12_pop.desc).map (fun d => d.parameters.length) = some 0 := by decide +kernel
theorem w2250 : Cond.code yX12_fails cX12_fails 2 (some .int) ∈ GW := gw_k tk9_9 175 (rfl) rfl
theorem w2247 : Cond.methodLink RX12 484 yX12_fails ∈ GW := gw_k tk9_9 172 (by decide +kernel) rfl
theorem w2249 : Cond.instanceMethod yX12_fails ∈ GW := gw_k tk9_9 174 (by decide +kernel) rfl
theorem w131 : Cond.selects RX12 yX12_fails yX12_fails ∈ GW := gw_mem 131 (by decide +kernel) rfl
theorem hdV_yX12_fails : yX12_fails.cls = RX12 ∧ yX12_fails.cls ≠ "java/lang/invoke/MethodHandle" ∧ yX12_fails.cls ≠ "java/lang/invoke/VarHandle" ∧ (parseMethodDescriptor yX12_fails.desc).map (fun d => d.parameters.length) = some 1 := by decide +kernel
theorem w2262 : Cond.code yX12_step cX12_step 1 (some .boolean) ∈ GW := gw_k tk9_9 187 (rfl) rfl
theorem w2259 : Cond.methodLink RX12 497 yX12_step ∈ GW := gw_k tk9_9 184 (by decide +kernel) rfl
theorem w2261 : Cond.instanceMethod yX12_step ∈ GW := gw_k tk9_9 186 (by decide +kernel) rfl
theorem w134 : Cond.selects RX12 yX12_step yX12_step ∈ GW := gw_mem 134 (by decide +kernel) rfl
theorem hdV_yX12_step : yX12_step.cls = RX12 ∧ yX12_step.cls ≠ "java/lang/invoke/MethodHandle" ∧ yX12_step.cls ≠ "java/lang/invoke/VarHandle" ∧ (parseMethodDescriptor yX12_step.desc).map (fun d => d.parameters.length) = some 0 := by decide +kernel
theorem w2291 : Cond.code yX12_isWrap cX12_isWrap 6 (some .boolean) ∈ GW := gw_k tk9_9 216 (rfl) rfl
theorem w2288 : Cond.methodLink RX12 516 yX12_isWrap ∈ GW := gw_k tk9_9 213 (by decide +kernel) rfl
theorem w2290 : Cond.instanceMethod yX12_isWrap ∈ GW := gw_k tk9_9 215 (by decide +kernel) rfl
theorem w141 : Cond.selects RX12 yX12_isWrap yX12_isWrap ∈ GW := gw_mem 141 (by decide +kernel) rfl
theorem hdV_yX12_isWrap : yX12_isWrap.cls = RX12 ∧ yX12_isWrap.cls ≠ "java/lang/invoke/MethodHandle" ∧ yX12_isWrap.cls ≠ "java/lang/invoke/VarHandle" ∧ (parseMethodDescriptor yX12_isWrap.desc).map (fun d => d.parameters.length) = some 4 := by decide +kernel
theorem dk9_dX12_push_0_0 : dOk cX12_push [(0, .aload_n 0, 1), (1, .getfield 225, 3), (4, .aload_n 0, 1), (5, .getfield 548, 3), (8, .iload_n 1, 1), (9, .iastore, 1), (10, .aload_n 0, 1), (11, .dup, 1), (12, .getfield 548, 3), (15, .iconst 1, 1), (16, .iadd, 1), (17, .putfield 548, 3), (20, .return_, 1)] = true := by decide +kernel
theorem dX12_push_0 : decode cX12_push 0 = .ok (.aload_n 0, 1) := dr9 dk9_dX12_push_0_0 0 (0, .aload_n 0, 1) rfl
theorem dX12_push_1 : decode cX12_push 1 = .ok (.getfield 225, 3) := dr9 dk9_dX12_push_0_0 1 (1, .getfield 225, 3) rfl
theorem dX12_push_4 : decode cX12_push 4 = .ok (.aload_n 0, 1) := dr9 dk9_dX12_push_0_0 2 (4, .aload_n 0, 1) rfl
theorem dX12_push_5 : decode cX12_push 5 = .ok (.getfield 548, 3) := dr9 dk9_dX12_push_0_0 3 (5, .getfield 548, 3) rfl
theorem dX12_push_8 : decode cX12_push 8 = .ok (.iload_n 1, 1) := dr9 dk9_dX12_push_0_0 4 (8, .iload_n 1, 1) rfl
theorem dX12_push_9 : decode cX12_push 9 = .ok (.iastore, 1) := dr9 dk9_dX12_push_0_0 5 (9, .iastore, 1) rfl
theorem dX12_push_10 : decode cX12_push 10 = .ok (.aload_n 0, 1) := dr9 dk9_dX12_push_0_0 6 (10, .aload_n 0, 1) rfl
theorem dX12_push_11 : decode cX12_push 11 = .ok (.dup, 1) := dr9 dk9_dX12_push_0_0 7 (11, .dup, 1) rfl
theorem dX12_push_12 : decode cX12_push 12 = .ok (.getfield 548, 3) := dr9 dk9_dX12_push_0_0 8 (12, .getfield 548, 3) rfl
theorem dX12_push_15 : decode cX12_push 15 = .ok (.iconst 1, 1) := dr9 dk9_dX12_push_0_0 9 (15, .iconst 1, 1) rfl
theorem dX12_push_16 : decode cX12_push 16 = .ok (.iadd, 1) := dr9 dk9_dX12_push_0_0 10 (16, .iadd, 1) rfl
theorem dX12_push_17 : decode cX12_push 17 = .ok (.putfield 548, 3) := dr9 dk9_dX12_push_0_0 11 (17, .putfield 548, 3) rfl
theorem dX12_push_20 : decode cX12_push 20 = .ok (.return_, 1) := dr9 dk9_dX12_push_0_0 12 (20, .return_, 1) rfl
theorem dk9_dX12_pop_0_0 : dOk cX12_pop [(0, .aload_n 0, 1), (1, .dup, 1), (2, .getfield 548, 3), (5, .iconst 1, 1), (6, .isub, 1), (7, .putfield 548, 3), (10, .aload_n 0, 1), (11, .getfield 225, 3), (14, .aload_n 0, 1), (15, .getfield 548, 3), (18, .iaload, 1), (19, .ireturn, 1)] = true := by decide +kernel
theorem dX12_pop_0 : decode cX12_pop 0 = .ok (.aload_n 0, 1) := dr9 dk9_dX12_pop_0_0 0 (0, .aload_n 0, 1) rfl
theorem dX12_pop_1 : decode cX12_pop 1 = .ok (.dup, 1) := dr9 dk9_dX12_pop_0_0 1 (1, .dup, 1) rfl
theorem dX12_pop_2 : decode cX12_pop 2 = .ok (.getfield 548, 3) := dr9 dk9_dX12_pop_0_0 2 (2, .getfield 548, 3) rfl
theorem dX12_pop_5 : decode cX12_pop 5 = .ok (.iconst 1, 1) := dr9 dk9_dX12_pop_0_0 3 (5, .iconst 1, 1) rfl
theorem dX12_pop_6 : decode cX12_pop 6 = .ok (.isub, 1) := dr9 dk9_dX12_pop_0_0 4 (6, .isub, 1) rfl
theorem dX12_pop_7 : decode cX12_pop 7 = .ok (.putfield 548, 3) := dr9 dk9_dX12_pop_0_0 5 (7, .putfield 548, 3) rfl
theorem dX12_pop_10 : decode cX12_pop 10 = .ok (.aload_n 0, 1) := dr9 dk9_dX12_pop_0_0 6 (10, .aload_n 0, 1) rfl
theorem dX12_pop_11 : decode cX12_pop 11 = .ok (.getfield 225, 3) := dr9 dk9_dX12_pop_0_0 7 (11, .getfield 225, 3) rfl
theorem dX12_pop_14 : decode cX12_pop 14 = .ok (.aload_n 0, 1) := dr9 dk9_dX12_pop_0_0 8 (14, .aload_n 0, 1) rfl
theorem dX12_pop_15 : decode cX12_pop 15 = .ok (.getfield 548, 3) := dr9 dk9_dX12_pop_0_0 9 (15, .getfield 548, 3) rfl
theorem dX12_pop_18 : decode cX12_pop 18 = .ok (.iaload, 1) := dr9 dk9_dX12_pop_0_0 10 (18, .iaload, 1) rfl
theorem dX12_pop_19 : decode cX12_pop 19 = .ok (.ireturn, 1) := dr9 dk9_dX12_pop_0_0 11 (19, .ireturn, 1) rfl
theorem dk9_dX12_reckons_0_0 : dOk cX12_reckons [(0, .iload_n 1, 1), (1, .iconst 1, 1), (2, .if_icmp .ne 16, 3), (18, .iload_n 1, 1), (19, .bipush 10, 2), (21, .if_icmp .ne 9, 3), (30, .iload_n 1, 1), (31, .iconst 2, 1), (32, .if_icmp .eq 9, 3), (41, .aload_n 0, 1), (42, .iload_n 1, 1), (43, .iconst 2, 1), (44, .if_icmp .ne 7, 3), (47, .iload_n 2, 1), (48, .goto 17, 3), (65, .invokevirtual 554, 3), (68, .goto 104, 3), (172, .iconst 0, 1), (173, .ireturn, 1), (35, .iload_n 1, 1), (36, .bipush 11, 2), (38, .if_icmp .ne 33, 3), (71, .iload_n 1, 1), (72, .iconst 4, 1)] = true ∧ dOk cX12_reckons [(73, .if_icmp .ne 15, 3), (88, .aload_n 0, 1), (89, .invokevirtual 551, 3), (92, .istore_n 3, 1), (93, .aload_n 0, 1), (94, .invokevirtual 551, 3), (97, .istore 4, 2), (99, .aload_n 0, 1), (100, .iload_n 1, 1), (101, .iconst 5, 1), (102, .if_icmp .ne 10, 3), (112, .iload_n 1, 1), (113, .bipush 6, 2), (115, .if_icmp .ne 10, 3), (125, .iload_n 1, 1), (126, .bipush 7, 2), (128, .if_icmp .ne 10, 3), (138, .iload_n 1, 1), (139, .bipush 8, 2), (141, .if_icmp .ne 17, 3), (158, .iload 4, 2), (160, .iload_n 3, 1), (161, .if_icmp .ne 7, 3), (168, .iconst 0, 1)] = true ∧ dOk cX12_reckons [(169, .invokevirtual 554, 3), (164, .iconst 1, 1), (165, .goto 4, 3), (144, .iload 4, 2), (146, .iload_n 3, 1), (147, .if_icmp .ge 7, 3), (154, .iconst 0, 1), (155, .goto 14, 3), (150, .iconst 1, 1), (151, .goto 18, 3), (131, .iload 4, 2), (133, .iload_n 3, 1), (134, .isub, 1), (135, .goto 34, 3), (118, .iload 4, 2), (120, .iload_n 3, 1), (121, .iadd, 1), (122, .goto 47, 3), (105, .iload 4, 2), (107, .iload_n 3, 1), (108, .imul, 1), (109, .goto 60, 3), (76, .aload_n 0, 1), (77, .aload_n 0, 1)] = true ∧ dOk cX12_reckons [(78, .invokevirtual 551, 3), (81, .ineg, 1), (82, .invokevirtual 554, 3), (85, .goto 87, 3), (51, .aload_n 0, 1), (52, .getfield 59, 3), (55, .bipush 12, 2), (57, .aload_n 0, 1), (58, .getfield 286, 3), (61, .imul, 1), (62, .iload_n 2, 1), (63, .iadd, 1), (64, .iaload, 1), (24, .aload_n 0, 1), (25, .iload_n 2, 1), (26, .invokevirtual 484, 3), (29, .ireturn, 1), (5, .aload_n 0, 1), (6, .invokevirtual 497, 3), (9, .ifCond .eq 7, 3), (16, .iconst 2, 1), (17, .ireturn, 1), (12, .iconst 0, 1), (13, .goto 4, 3)] = true := by decide +kernel
theorem dX12_reckons_0 : decode cX12_reckons 0 = .ok (.iload_n 1, 1) := dr9 dk9_dX12_reckons_0_0.1 0 (0, .iload_n 1, 1) rfl
theorem dX12_reckons_1 : decode cX12_reckons 1 = .ok (.iconst 1, 1) := dr9 dk9_dX12_reckons_0_0.1 1 (1, .iconst 1, 1) rfl
theorem dX12_reckons_2 : decode cX12_reckons 2 = .ok (.if_icmp .ne 16, 3) := dr9 dk9_dX12_reckons_0_0.1 2 (2, .if_icmp .ne 16, 3) rfl
theorem dX12_reckons_18 : decode cX12_reckons 18 = .ok (.iload_n 1, 1) := dr9 dk9_dX12_reckons_0_0.1 3 (18, .iload_n 1, 1) rfl
theorem dX12_reckons_19 : decode cX12_reckons 19 = .ok (.bipush 10, 2) := dr9 dk9_dX12_reckons_0_0.1 4 (19, .bipush 10, 2) rfl
theorem dX12_reckons_21 : decode cX12_reckons 21 = .ok (.if_icmp .ne 9, 3) := dr9 dk9_dX12_reckons_0_0.1 5 (21, .if_icmp .ne 9, 3) rfl
theorem dX12_reckons_30 : decode cX12_reckons 30 = .ok (.iload_n 1, 1) := dr9 dk9_dX12_reckons_0_0.1 6 (30, .iload_n 1, 1) rfl
theorem dX12_reckons_31 : decode cX12_reckons 31 = .ok (.iconst 2, 1) := dr9 dk9_dX12_reckons_0_0.1 7 (31, .iconst 2, 1) rfl
theorem dX12_reckons_32 : decode cX12_reckons 32 = .ok (.if_icmp .eq 9, 3) := dr9 dk9_dX12_reckons_0_0.1 8 (32, .if_icmp .eq 9, 3) rfl
theorem dX12_reckons_41 : decode cX12_reckons 41 = .ok (.aload_n 0, 1) := dr9 dk9_dX12_reckons_0_0.1 9 (41, .aload_n 0, 1) rfl
theorem dX12_reckons_42 : decode cX12_reckons 42 = .ok (.iload_n 1, 1) := dr9 dk9_dX12_reckons_0_0.1 10 (42, .iload_n 1, 1) rfl
theorem dX12_reckons_43 : decode cX12_reckons 43 = .ok (.iconst 2, 1) := dr9 dk9_dX12_reckons_0_0.1 11 (43, .iconst 2, 1) rfl
theorem dX12_reckons_44 : decode cX12_reckons 44 = .ok (.if_icmp .ne 7, 3) := dr9 dk9_dX12_reckons_0_0.1 12 (44, .if_icmp .ne 7, 3) rfl
theorem dX12_reckons_47 : decode cX12_reckons 47 = .ok (.iload_n 2, 1) := dr9 dk9_dX12_reckons_0_0.1 13 (47, .iload_n 2, 1) rfl
theorem dX12_reckons_48 : decode cX12_reckons 48 = .ok (.goto 17, 3) := dr9 dk9_dX12_reckons_0_0.1 14 (48, .goto 17, 3) rfl
theorem dX12_reckons_65 : decode cX12_reckons 65 = .ok (.invokevirtual 554, 3) := dr9 dk9_dX12_reckons_0_0.1 15 (65, .invokevirtual 554, 3) rfl
theorem dX12_reckons_68 : decode cX12_reckons 68 = .ok (.goto 104, 3) := dr9 dk9_dX12_reckons_0_0.1 16 (68, .goto 104, 3) rfl
theorem dX12_reckons_172 : decode cX12_reckons 172 = .ok (.iconst 0, 1) := dr9 dk9_dX12_reckons_0_0.1 17 (172, .iconst 0, 1) rfl
theorem dX12_reckons_173 : decode cX12_reckons 173 = .ok (.ireturn, 1) := dr9 dk9_dX12_reckons_0_0.1 18 (173, .ireturn, 1) rfl
theorem dX12_reckons_35 : decode cX12_reckons 35 = .ok (.iload_n 1, 1) := dr9 dk9_dX12_reckons_0_0.1 19 (35, .iload_n 1, 1) rfl
theorem dX12_reckons_36 : decode cX12_reckons 36 = .ok (.bipush 11, 2) := dr9 dk9_dX12_reckons_0_0.1 20 (36, .bipush 11, 2) rfl
theorem dX12_reckons_38 : decode cX12_reckons 38 = .ok (.if_icmp .ne 33, 3) := dr9 dk9_dX12_reckons_0_0.1 21 (38, .if_icmp .ne 33, 3) rfl
theorem dX12_reckons_71 : decode cX12_reckons 71 = .ok (.iload_n 1, 1) := dr9 dk9_dX12_reckons_0_0.1 22 (71, .iload_n 1, 1) rfl
theorem dX12_reckons_72 : decode cX12_reckons 72 = .ok (.iconst 4, 1) := dr9 dk9_dX12_reckons_0_0.1 23 (72, .iconst 4, 1) rfl
theorem dX12_reckons_73 : decode cX12_reckons 73 = .ok (.if_icmp .ne 15, 3) := dr9 dk9_dX12_reckons_0_0.2.1 0 (73, .if_icmp .ne 15, 3) rfl
theorem dX12_reckons_88 : decode cX12_reckons 88 = .ok (.aload_n 0, 1) := dr9 dk9_dX12_reckons_0_0.2.1 1 (88, .aload_n 0, 1) rfl
theorem dX12_reckons_89 : decode cX12_reckons 89 = .ok (.invokevirtual 551, 3) := dr9 dk9_dX12_reckons_0_0.2.1 2 (89, .invokevirtual 551, 3) rfl
theorem dX12_reckons_92 : decode cX12_reckons 92 = .ok (.istore_n 3, 1) := dr9 dk9_dX12_reckons_0_0.2.1 3 (92, .istore_n 3, 1) rfl
theorem dX12_reckons_93 : decode cX12_reckons 93 = .ok (.aload_n 0, 1) := dr9 dk9_dX12_reckons_0_0.2.1 4 (93, .aload_n 0, 1) rfl
theorem dX12_reckons_94 : decode cX12_reckons 94 = .ok (.invokevirtual 551, 3) := dr9 dk9_dX12_reckons_0_0.2.1 5 (94, .invokevirtual 551, 3) rfl
theorem dX12_reckons_97 : decode cX12_reckons 97 = .ok (.istore 4, 2) := dr9 dk9_dX12_reckons_0_0.2.1 6 (97, .istore 4, 2) rfl
theorem dX12_reckons_99 : decode cX12_reckons 99 = .ok (.aload_n 0, 1) := dr9 dk9_dX12_reckons_0_0.2.1 7 (99, .aload_n 0, 1) rfl
theorem dX12_reckons_100 : decode cX12_reckons 100 = .ok (.iload_n 1, 1) := dr9 dk9_dX12_reckons_0_0.2.1 8 (100, .iload_n 1, 1) rfl
theorem dX12_reckons_101 : decode cX12_reckons 101 = .ok (.iconst 5, 1) := dr9 dk9_dX12_reckons_0_0.2.1 9 (101, .iconst 5, 1) rfl
theorem dX12_reckons_102 : decode cX12_reckons 102 = .ok (.if_icmp .ne 10, 3) := dr9 dk9_dX12_reckons_0_0.2.1 10 (102, .if_icmp .ne 10, 3) rfl
theorem dX12_reckons_112 : decode cX12_reckons 112 = .ok (.iload_n 1, 1) := dr9 dk9_dX12_reckons_0_0.2.1 11 (112, .iload_n 1, 1) rfl
theorem dX12_reckons_113 : decode cX12_reckons 113 = .ok (.bipush 6, 2) := dr9 dk9_dX12_reckons_0_0.2.1 12 (113, .bipush 6, 2) rfl
theorem dX12_reckons_115 : decode cX12_reckons 115 = .ok (.if_icmp .ne 10, 3) := dr9 dk9_dX12_reckons_0_0.2.1 13 (115, .if_icmp .ne 10, 3) rfl
theorem dX12_reckons_125 : decode cX12_reckons 125 = .ok (.iload_n 1, 1) := dr9 dk9_dX12_reckons_0_0.2.1 14 (125, .iload_n 1, 1) rfl
theorem dX12_reckons_126 : decode cX12_reckons 126 = .ok (.bipush 7, 2) := dr9 dk9_dX12_reckons_0_0.2.1 15 (126, .bipush 7, 2) rfl
theorem dX12_reckons_128 : decode cX12_reckons 128 = .ok (.if_icmp .ne 10, 3) := dr9 dk9_dX12_reckons_0_0.2.1 16 (128, .if_icmp .ne 10, 3) rfl
theorem dX12_reckons_138 : decode cX12_reckons 138 = .ok (.iload_n 1, 1) := dr9 dk9_dX12_reckons_0_0.2.1 17 (138, .iload_n 1, 1) rfl
theorem dX12_reckons_139 : decode cX12_reckons 139 = .ok (.bipush 8, 2) := dr9 dk9_dX12_reckons_0_0.2.1 18 (139, .bipush 8, 2) rfl
theorem dX12_reckons_141 : decode cX12_reckons 141 = .ok (.if_icmp .ne 17, 3) := dr9 dk9_dX12_reckons_0_0.2.1 19 (141, .if_icmp .ne 17, 3) rfl
theorem dX12_reckons_158 : decode cX12_reckons 158 = .ok (.iload 4, 2) := dr9 dk9_dX12_reckons_0_0.2.1 20 (158, .iload 4, 2) rfl
theorem dX12_reckons_160 : decode cX12_reckons 160 = .ok (.iload_n 3, 1) := dr9 dk9_dX12_reckons_0_0.2.1 21 (160, .iload_n 3, 1) rfl
theorem dX12_reckons_161 : decode cX12_reckons 161 = .ok (.if_icmp .ne 7, 3) := dr9 dk9_dX12_reckons_0_0.2.1 22 (161, .if_icmp .ne 7, 3) rfl
theorem dX12_reckons_168 : decode cX12_reckons 168 = .ok (.iconst 0, 1) := dr9 dk9_dX12_reckons_0_0.2.1 23 (168, .iconst 0, 1) rfl
theorem dX12_reckons_169 : decode cX12_reckons 169 = .ok (.invokevirtual 554, 3) := dr9 dk9_dX12_reckons_0_0.2.2.1 0 (169, .invokevirtual 554, 3) rfl
theorem dX12_reckons_164 : decode cX12_reckons 164 = .ok (.iconst 1, 1) := dr9 dk9_dX12_reckons_0_0.2.2.1 1 (164, .iconst 1, 1) rfl
theorem dX12_reckons_165 : decode cX12_reckons 165 = .ok (.goto 4, 3) := dr9 dk9_dX12_reckons_0_0.2.2.1 2 (165, .goto 4, 3) rfl
theorem dX12_reckons_144 : decode cX12_reckons 144 = .ok (.iload 4, 2) := dr9 dk9_dX12_reckons_0_0.2.2.1 3 (144, .iload 4, 2) rfl
theorem dX12_reckons_146 : decode cX12_reckons 146 = .ok (.iload_n 3, 1) := dr9 dk9_dX12_reckons_0_0.2.2.1 4 (146, .iload_n 3, 1) rfl
theorem dX12_reckons_147 : decode cX12_reckons 147 = .ok (.if_icmp .ge 7, 3) := dr9 dk9_dX12_reckons_0_0.2.2.1 5 (147, .if_icmp .ge 7, 3) rfl
theorem dX12_reckons_154 : decode cX12_reckons 154 = .ok (.iconst 0, 1) := dr9 dk9_dX12_reckons_0_0.2.2.1 6 (154, .iconst 0, 1) rfl
theorem dX12_reckons_155 : decode cX12_reckons 155 = .ok (.goto 14, 3) := dr9 dk9_dX12_reckons_0_0.2.2.1 7 (155, .goto 14, 3) rfl
theorem dX12_reckons_150 : decode cX12_reckons 150 = .ok (.iconst 1, 1) := dr9 dk9_dX12_reckons_0_0.2.2.1 8 (150, .iconst 1, 1) rfl
theorem dX12_reckons_151 : decode cX12_reckons 151 = .ok (.goto 18, 3) := dr9 dk9_dX12_reckons_0_0.2.2.1 9 (151, .goto 18, 3) rfl
theorem dX12_reckons_131 : decode cX12_reckons 131 = .ok (.iload 4, 2) := dr9 dk9_dX12_reckons_0_0.2.2.1 10 (131, .iload 4, 2) rfl
theorem dX12_reckons_133 : decode cX12_reckons 133 = .ok (.iload_n 3, 1) := dr9 dk9_dX12_reckons_0_0.2.2.1 11 (133, .iload_n 3, 1) rfl
theorem dX12_reckons_134 : decode cX12_reckons 134 = .ok (.isub, 1) := dr9 dk9_dX12_reckons_0_0.2.2.1 12 (134, .isub, 1) rfl
theorem dX12_reckons_135 : decode cX12_reckons 135 = .ok (.goto 34, 3) := dr9 dk9_dX12_reckons_0_0.2.2.1 13 (135, .goto 34, 3) rfl
theorem dX12_reckons_118 : decode cX12_reckons 118 = .ok (.iload 4, 2) := dr9 dk9_dX12_reckons_0_0.2.2.1 14 (118, .iload 4, 2) rfl
theorem dX12_reckons_120 : decode cX12_reckons 120 = .ok (.iload_n 3, 1) := dr9 dk9_dX12_reckons_0_0.2.2.1 15 (120, .iload_n 3, 1) rfl
theorem dX12_reckons_121 : decode cX12_reckons 121 = .ok (.iadd, 1) := dr9 dk9_dX12_reckons_0_0.2.2.1 16 (121, .iadd, 1) rfl
theorem dX12_reckons_122 : decode cX12_reckons 122 = .ok (.goto 47, 3) := dr9 dk9_dX12_reckons_0_0.2.2.1 17 (122, .goto 47, 3) rfl
theorem dX12_reckons_105 : decode cX12_reckons 105 = .ok (.iload 4, 2) := dr9 dk9_dX12_reckons_0_0.2.2.1 18 (105, .iload 4, 2) rfl
theorem dX12_reckons_107 : decode cX12_reckons 107 = .ok (.iload_n 3, 1) := dr9 dk9_dX12_reckons_0_0.2.2.1 19 (107, .iload_n 3, 1) rfl
theorem dX12_reckons_108 : decode cX12_reckons 108 = .ok (.imul, 1) := dr9 dk9_dX12_reckons_0_0.2.2.1 20 (108, .imul, 1) rfl
theorem dX12_reckons_109 : decode cX12_reckons 109 = .ok (.goto 60, 3) := dr9 dk9_dX12_reckons_0_0.2.2.1 21 (109, .goto 60, 3) rfl
theorem dX12_reckons_76 : decode cX12_reckons 76 = .ok (.aload_n 0, 1) := dr9 dk9_dX12_reckons_0_0.2.2.1 22 (76, .aload_n 0, 1) rfl
theorem dX12_reckons_77 : decode cX12_reckons 77 = .ok (.aload_n 0, 1) := dr9 dk9_dX12_reckons_0_0.2.2.1 23 (77, .aload_n 0, 1) rfl
theorem dX12_reckons_78 : decode cX12_reckons 78 = .ok (.invokevirtual 551, 3) := dr9 dk9_dX12_reckons_0_0.2.2.2 0 (78, .invokevirtual 551, 3) rfl
theorem dX12_reckons_81 : decode cX12_reckons 81 = .ok (.ineg, 1) := dr9 dk9_dX12_reckons_0_0.2.2.2 1 (81, .ineg, 1) rfl
theorem dX12_reckons_82 : decode cX12_reckons 82 = .ok (.invokevirtual 554, 3) := dr9 dk9_dX12_reckons_0_0.2.2.2 2 (82, .invokevirtual 554, 3) rfl
theorem dX12_reckons_85 : decode cX12_reckons 85 = .ok (.goto 87, 3) := dr9 dk9_dX12_reckons_0_0.2.2.2 3 (85, .goto 87, 3) rfl
theorem dX12_reckons_51 : decode cX12_reckons 51 = .ok (.aload_n 0, 1) := dr9 dk9_dX12_reckons_0_0.2.2.2 4 (51, .aload_n 0, 1) rfl
theorem dX12_reckons_52 : decode cX12_reckons 52 = .ok (.getfield 59, 3) := dr9 dk9_dX12_reckons_0_0.2.2.2 5 (52, .getfield 59, 3) rfl
theorem dX12_reckons_55 : decode cX12_reckons 55 = .ok (.bipush 12, 2) := dr9 dk9_dX12_reckons_0_0.2.2.2 6 (55, .bipush 12, 2) rfl
theorem dX12_reckons_57 : decode cX12_reckons 57 = .ok (.aload_n 0, 1) := dr9 dk9_dX12_reckons_0_0.2.2.2 7 (57, .aload_n 0, 1) rfl
theorem dX12_reckons_58 : decode cX12_reckons 58 = .ok (.getfield 286, 3) := dr9 dk9_dX12_reckons_0_0.2.2.2 8 (58, .getfield 286, 3) rfl
theorem dX12_reckons_61 : decode cX12_reckons 61 = .ok (.imul, 1) := dr9 dk9_dX12_reckons_0_0.2.2.2 9 (61, .imul, 1) rfl
theorem dX12_reckons_62 : decode cX12_reckons 62 = .ok (.iload_n 2, 1) := dr9 dk9_dX12_reckons_0_0.2.2.2 10 (62, .iload_n 2, 1) rfl
theorem dX12_reckons_63 : decode cX12_reckons 63 = .ok (.iadd, 1) := dr9 dk9_dX12_reckons_0_0.2.2.2 11 (63, .iadd, 1) rfl
theorem dX12_reckons_64 : decode cX12_reckons 64 = .ok (.iaload, 1) := dr9 dk9_dX12_reckons_0_0.2.2.2 12 (64, .iaload, 1) rfl
theorem dX12_reckons_24 : decode cX12_reckons 24 = .ok (.aload_n 0, 1) := dr9 dk9_dX12_reckons_0_0.2.2.2 13 (24, .aload_n 0, 1) rfl
theorem dX12_reckons_25 : decode cX12_reckons 25 = .ok (.iload_n 2, 1) := dr9 dk9_dX12_reckons_0_0.2.2.2 14 (25, .iload_n 2, 1) rfl
theorem dX12_reckons_26 : decode cX12_reckons 26 = .ok (.invokevirtual 484, 3) := dr9 dk9_dX12_reckons_0_0.2.2.2 15 (26, .invokevirtual 484, 3) rfl
theorem dX12_reckons_29 : decode cX12_reckons 29 = .ok (.ireturn, 1) := dr9 dk9_dX12_reckons_0_0.2.2.2 16 (29, .ireturn, 1) rfl
theorem dX12_reckons_5 : decode cX12_reckons 5 = .ok (.aload_n 0, 1) := dr9 dk9_dX12_reckons_0_0.2.2.2 17 (5, .aload_n 0, 1) rfl
theorem dX12_reckons_6 : decode cX12_reckons 6 = .ok (.invokevirtual 497, 3) := dr9 dk9_dX12_reckons_0_0.2.2.2 18 (6, .invokevirtual 497, 3) rfl
theorem dX12_reckons_9 : decode cX12_reckons 9 = .ok (.ifCond .eq 7, 3) := dr9 dk9_dX12_reckons_0_0.2.2.2 19 (9, .ifCond .eq 7, 3) rfl
theorem dX12_reckons_16 : decode cX12_reckons 16 = .ok (.iconst 2, 1) := dr9 dk9_dX12_reckons_0_0.2.2.2 20 (16, .iconst 2, 1) rfl
theorem dX12_reckons_17 : decode cX12_reckons 17 = .ok (.ireturn, 1) := dr9 dk9_dX12_reckons_0_0.2.2.2 21 (17, .ireturn, 1) rfl
theorem dX12_reckons_12 : decode cX12_reckons 12 = .ok (.iconst 0, 1) := dr9 dk9_dX12_reckons_0_0.2.2.2 22 (12, .iconst 0, 1) rfl
theorem dX12_reckons_13 : decode cX12_reckons 13 = .ok (.goto 4, 3) := dr9 dk9_dX12_reckons_0_0.2.2.2 23 (13, .goto 4, 3) rfl
theorem dk9_dX12_isWrap_0_0 : dOk cX12_isWrap [(0, .bipush 12, 2), (2, .aload_n 0, 1), (3, .getfield 286, 3), (6, .imul, 1), (7, .iload_n 1, 1), (8, .iadd, 1), (9, .istore 5, 2), (11, .aload_n 0, 1), (12, .getfield 128, 3), (15, .iload 5, 2), (17, .iaload, 1), (18, .iload_n 3, 1), (19, .if_icmp .ne 52, 3), (71, .iconst 0, 1), (72, .ireturn, 1), (22, .aload_n 0, 1), (23, .getfield 134, 3), (26, .iload 5, 2), (28, .iaload, 1), (29, .iload 4, 2), (31, .if_icmp .ne 40, 3), (34, .aload_n 0, 1), (35, .getfield 68, 3), (38, .bipush 24, 2)] = true ∧ dOk cX12_isWrap [(40, .bipush 24, 2), (42, .aload_n 0, 1), (43, .getfield 286, 3), (46, .imul, 1), (47, .aload_n 0, 1), (48, .getfield 164, 3), (51, .iload_n 2, 1), (52, .iaload, 1), (53, .iadd, 1), (54, .imul, 1), (55, .aload_n 0, 1), (56, .getfield 125, 3), (59, .iload 5, 2), (61, .iaload, 1), (62, .iadd, 1), (63, .baload, 1), (64, .ifCond .eq 7, 3), (67, .iconst 1, 1), (68, .goto 4, 3)] = true := by decide +kernel
theorem dX12_isWrap_0 : decode cX12_isWrap 0 = .ok (.bipush 12, 2) := dr9 dk9_dX12_isWrap_0_0.1 0 (0, .bipush 12, 2) rfl
theorem dX12_isWrap_2 : decode cX12_isWrap 2 = .ok (.aload_n 0, 1) := dr9 dk9_dX12_isWrap_0_0.1 1 (2, .aload_n 0, 1) rfl
theorem dX12_isWrap_3 : decode cX12_isWrap 3 = .ok (.getfield 286, 3) := dr9 dk9_dX12_isWrap_0_0.1 2 (3, .getfield 286, 3) rfl
theorem dX12_isWrap_6 : decode cX12_isWrap 6 = .ok (.imul, 1) := dr9 dk9_dX12_isWrap_0_0.1 3 (6, .imul, 1) rfl
theorem dX12_isWrap_7 : decode cX12_isWrap 7 = .ok (.iload_n 1, 1) := dr9 dk9_dX12_isWrap_0_0.1 4 (7, .iload_n 1, 1) rfl
theorem dX12_isWrap_8 : decode cX12_isWrap 8 = .ok (.iadd, 1) := dr9 dk9_dX12_isWrap_0_0.1 5 (8, .iadd, 1) rfl
theorem dX12_isWrap_9 : decode cX12_isWrap 9 = .ok (.istore 5, 2) := dr9 dk9_dX12_isWrap_0_0.1 6 (9, .istore 5, 2) rfl
theorem dX12_isWrap_11 : decode cX12_isWrap 11 = .ok (.aload_n 0, 1) := dr9 dk9_dX12_isWrap_0_0.1 7 (11, .aload_n 0, 1) rfl
theorem dX12_isWrap_12 : decode cX12_isWrap 12 = .ok (.getfield 128, 3) := dr9 dk9_dX12_isWrap_0_0.1 8 (12, .getfield 128, 3) rfl
theorem dX12_isWrap_15 : decode cX12_isWrap 15 = .ok (.iload 5, 2) := dr9 dk9_dX12_isWrap_0_0.1 9 (15, .iload 5, 2) rfl
theorem dX12_isWrap_17 : decode cX12_isWrap 17 = .ok (.iaload, 1) := dr9 dk9_dX12_isWrap_0_0.1 10 (17, .iaload, 1) rfl
theorem dX12_isWrap_18 : decode cX12_isWrap 18 = .ok (.iload_n 3, 1) := dr9 dk9_dX12_isWrap_0_0.1 11 (18, .iload_n 3, 1) rfl
theorem dX12_isWrap_19 : decode cX12_isWrap 19 = .ok (.if_icmp .ne 52, 3) := dr9 dk9_dX12_isWrap_0_0.1 12 (19, .if_icmp .ne 52, 3) rfl
theorem dX12_isWrap_71 : decode cX12_isWrap 71 = .ok (.iconst 0, 1) := dr9 dk9_dX12_isWrap_0_0.1 13 (71, .iconst 0, 1) rfl
theorem dX12_isWrap_72 : decode cX12_isWrap 72 = .ok (.ireturn, 1) := dr9 dk9_dX12_isWrap_0_0.1 14 (72, .ireturn, 1) rfl
theorem dX12_isWrap_22 : decode cX12_isWrap 22 = .ok (.aload_n 0, 1) := dr9 dk9_dX12_isWrap_0_0.1 15 (22, .aload_n 0, 1) rfl
theorem dX12_isWrap_23 : decode cX12_isWrap 23 = .ok (.getfield 134, 3) := dr9 dk9_dX12_isWrap_0_0.1 16 (23, .getfield 134, 3) rfl
theorem dX12_isWrap_26 : decode cX12_isWrap 26 = .ok (.iload 5, 2) := dr9 dk9_dX12_isWrap_0_0.1 17 (26, .iload 5, 2) rfl
theorem dX12_isWrap_28 : decode cX12_isWrap 28 = .ok (.iaload, 1) := dr9 dk9_dX12_isWrap_0_0.1 18 (28, .iaload, 1) rfl
theorem dX12_isWrap_29 : decode cX12_isWrap 29 = .ok (.iload 4, 2) := dr9 dk9_dX12_isWrap_0_0.1 19 (29, .iload 4, 2) rfl
theorem dX12_isWrap_31 : decode cX12_isWrap 31 = .ok (.if_icmp .ne 40, 3) := dr9 dk9_dX12_isWrap_0_0.1 20 (31, .if_icmp .ne 40, 3) rfl
theorem dX12_isWrap_34 : decode cX12_isWrap 34 = .ok (.aload_n 0, 1) := dr9 dk9_dX12_isWrap_0_0.1 21 (34, .aload_n 0, 1) rfl
theorem dX12_isWrap_35 : decode cX12_isWrap 35 = .ok (.getfield 68, 3) := dr9 dk9_dX12_isWrap_0_0.1 22 (35, .getfield 68, 3) rfl
theorem dX12_isWrap_38 : decode cX12_isWrap 38 = .ok (.bipush 24, 2) := dr9 dk9_dX12_isWrap_0_0.1 23 (38, .bipush 24, 2) rfl
theorem dX12_isWrap_40 : decode cX12_isWrap 40 = .ok (.bipush 24, 2) := dr9 dk9_dX12_isWrap_0_0.2 0 (40, .bipush 24, 2) rfl
theorem dX12_isWrap_42 : decode cX12_isWrap 42 = .ok (.aload_n 0, 1) := dr9 dk9_dX12_isWrap_0_0.2 1 (42, .aload_n 0, 1) rfl
theorem dX12_isWrap_43 : decode cX12_isWrap 43 = .ok (.getfield 286, 3) := dr9 dk9_dX12_isWrap_0_0.2 2 (43, .getfield 286, 3) rfl
theorem dX12_isWrap_46 : decode cX12_isWrap 46 = .ok (.imul, 1) := dr9 dk9_dX12_isWrap_0_0.2 3 (46, .imul, 1) rfl
theorem dX12_isWrap_47 : decode cX12_isWrap 47 = .ok (.aload_n 0, 1) := dr9 dk9_dX12_isWrap_0_0.2 4 (47, .aload_n 0, 1) rfl
theorem dX12_isWrap_48 : decode cX12_isWrap 48 = .ok (.getfield 164, 3) := dr9 dk9_dX12_isWrap_0_0.2 5 (48, .getfield 164, 3) rfl
theorem dX12_isWrap_51 : decode cX12_isWrap 51 = .ok (.iload_n 2, 1) := dr9 dk9_dX12_isWrap_0_0.2 6 (51, .iload_n 2, 1) rfl
theorem dX12_isWrap_52 : decode cX12_isWrap 52 = .ok (.iaload, 1) := dr9 dk9_dX12_isWrap_0_0.2 7 (52, .iaload, 1) rfl
theorem dX12_isWrap_53 : decode cX12_isWrap 53 = .ok (.iadd, 1) := dr9 dk9_dX12_isWrap_0_0.2 8 (53, .iadd, 1) rfl
theorem dX12_isWrap_54 : decode cX12_isWrap 54 = .ok (.imul, 1) := dr9 dk9_dX12_isWrap_0_0.2 9 (54, .imul, 1) rfl
theorem dX12_isWrap_55 : decode cX12_isWrap 55 = .ok (.aload_n 0, 1) := dr9 dk9_dX12_isWrap_0_0.2 10 (55, .aload_n 0, 1) rfl
theorem dX12_isWrap_56 : decode cX12_isWrap 56 = .ok (.getfield 125, 3) := dr9 dk9_dX12_isWrap_0_0.2 11 (56, .getfield 125, 3) rfl
theorem dX12_isWrap_59 : decode cX12_isWrap 59 = .ok (.iload 5, 2) := dr9 dk9_dX12_isWrap_0_0.2 12 (59, .iload 5, 2) rfl
theorem dX12_isWrap_61 : decode cX12_isWrap 61 = .ok (.iaload, 1) := dr9 dk9_dX12_isWrap_0_0.2 13 (61, .iaload, 1) rfl
theorem dX12_isWrap_62 : decode cX12_isWrap 62 = .ok (.iadd, 1) := dr9 dk9_dX12_isWrap_0_0.2 14 (62, .iadd, 1) rfl
theorem dX12_isWrap_63 : decode cX12_isWrap 63 = .ok (.baload, 1) := dr9 dk9_dX12_isWrap_0_0.2 15 (63, .baload, 1) rfl
theorem dX12_isWrap_64 : decode cX12_isWrap 64 = .ok (.ifCond .eq 7, 3) := dr9 dk9_dX12_isWrap_0_0.2 16 (64, .ifCond .eq 7, 3) rfl
theorem dX12_isWrap_67 : decode cX12_isWrap 67 = .ok (.iconst 1, 1) := dr9 dk9_dX12_isWrap_0_0.2 17 (67, .iconst 1, 1) rfl
theorem dX12_isWrap_68 : decode cX12_isWrap 68 = .ok (.goto 4, 3) := dr9 dk9_dX12_isWrap_0_0.2 18 (68, .goto 4, 3) rfl
theorem dk9_dX12_wrapsOf_0_0 : dOk cX12_wrapsOf [(0, .iconst 0, 1), (1, .istore 4, 2), (3, .iconst 0, 1), (4, .istore 5, 2), (6, .iload 5, 2), (8, .aload_n 0, 1), (9, .getfield 122, 3), (12, .aload_n 0, 1), (13, .getfield 286, 3), (16, .iaload, 1), (17, .if_icmp .ge 31, 3), (48, .iload 4, 2), (50, .ireturn, 1), (20, .iload 4, 2), (22, .aload_n 0, 1), (23, .iload 5, 2), (25, .iload_n 1, 1), (26, .iload_n 2, 1), (27, .iload_n 3, 1), (28, .invokevirtual 516, 3), (31, .ifCond .eq 7, 3), (38, .iconst 0, 1), (39, .iadd, 1), (40, .istore 4, 2)] = true ∧ dOk cX12_wrapsOf [(42, .iinc 5 1, 3), (45, .goto (-39), 3), (34, .iconst 1, 1), (35, .goto 4, 3)] = true := by decide +kernel
theorem dX12_wrapsOf_0 : decode cX12_wrapsOf 0 = .ok (.iconst 0, 1) := dr9 dk9_dX12_wrapsOf_0_0.1 0 (0, .iconst 0, 1) rfl
theorem dX12_wrapsOf_1 : decode cX12_wrapsOf 1 = .ok (.istore 4, 2) := dr9 dk9_dX12_wrapsOf_0_0.1 1 (1, .istore 4, 2) rfl
theorem dX12_wrapsOf_3 : decode cX12_wrapsOf 3 = .ok (.iconst 0, 1) := dr9 dk9_dX12_wrapsOf_0_0.1 2 (3, .iconst 0, 1) rfl
theorem dX12_wrapsOf_4 : decode cX12_wrapsOf 4 = .ok (.istore 5, 2) := dr9 dk9_dX12_wrapsOf_0_0.1 3 (4, .istore 5, 2) rfl
theorem dX12_wrapsOf_6 : decode cX12_wrapsOf 6 = .ok (.iload 5, 2) := dr9 dk9_dX12_wrapsOf_0_0.1 4 (6, .iload 5, 2) rfl
theorem dX12_wrapsOf_8 : decode cX12_wrapsOf 8 = .ok (.aload_n 0, 1) := dr9 dk9_dX12_wrapsOf_0_0.1 5 (8, .aload_n 0, 1) rfl
theorem dX12_wrapsOf_9 : decode cX12_wrapsOf 9 = .ok (.getfield 122, 3) := dr9 dk9_dX12_wrapsOf_0_0.1 6 (9, .getfield 122, 3) rfl
theorem dX12_wrapsOf_12 : decode cX12_wrapsOf 12 = .ok (.aload_n 0, 1) := dr9 dk9_dX12_wrapsOf_0_0.1 7 (12, .aload_n 0, 1) rfl
theorem dX12_wrapsOf_13 : decode cX12_wrapsOf 13 = .ok (.getfield 286, 3) := dr9 dk9_dX12_wrapsOf_0_0.1 8 (13, .getfield 286, 3) rfl
theorem dX12_wrapsOf_16 : decode cX12_wrapsOf 16 = .ok (.iaload, 1) := dr9 dk9_dX12_wrapsOf_0_0.1 9 (16, .iaload, 1) rfl
theorem dX12_wrapsOf_17 : decode cX12_wrapsOf 17 = .ok (.if_icmp .ge 31, 3) := dr9 dk9_dX12_wrapsOf_0_0.1 10 (17, .if_icmp .ge 31, 3) rfl
theorem dX12_wrapsOf_48 : decode cX12_wrapsOf 48 = .ok (.iload 4, 2) := dr9 dk9_dX12_wrapsOf_0_0.1 11 (48, .iload 4, 2) rfl
theorem dX12_wrapsOf_50 : decode cX12_wrapsOf 50 = .ok (.ireturn, 1) := dr9 dk9_dX12_wrapsOf_0_0.1 12 (50, .ireturn, 1) rfl
theorem dX12_wrapsOf_20 : decode cX12_wrapsOf 20 = .ok (.iload 4, 2) := dr9 dk9_dX12_wrapsOf_0_0.1 13 (20, .iload 4, 2) rfl
theorem dX12_wrapsOf_22 : decode cX12_wrapsOf 22 = .ok (.aload_n 0, 1) := dr9 dk9_dX12_wrapsOf_0_0.1 14 (22, .aload_n 0, 1) rfl
theorem dX12_wrapsOf_23 : decode cX12_wrapsOf 23 = .ok (.iload 5, 2) := dr9 dk9_dX12_wrapsOf_0_0.1 15 (23, .iload 5, 2) rfl
theorem dX12_wrapsOf_25 : decode cX12_wrapsOf 25 = .ok (.iload_n 1, 1) := dr9 dk9_dX12_wrapsOf_0_0.1 16 (25, .iload_n 1, 1) rfl
theorem dX12_wrapsOf_26 : decode cX12_wrapsOf 26 = .ok (.iload_n 2, 1) := dr9 dk9_dX12_wrapsOf_0_0.1 17 (26, .iload_n 2, 1) rfl
theorem dX12_wrapsOf_27 : decode cX12_wrapsOf 27 = .ok (.iload_n 3, 1) := dr9 dk9_dX12_wrapsOf_0_0.1 18 (27, .iload_n 3, 1) rfl
theorem dX12_wrapsOf_28 : decode cX12_wrapsOf 28 = .ok (.invokevirtual 516, 3) := dr9 dk9_dX12_wrapsOf_0_0.1 19 (28, .invokevirtual 516, 3) rfl
theorem dX12_wrapsOf_31 : decode cX12_wrapsOf 31 = .ok (.ifCond .eq 7, 3) := dr9 dk9_dX12_wrapsOf_0_0.1 20 (31, .ifCond .eq 7, 3) rfl
theorem dX12_wrapsOf_38 : decode cX12_wrapsOf 38 = .ok (.iconst 0, 1) := dr9 dk9_dX12_wrapsOf_0_0.1 21 (38, .iconst 0, 1) rfl
theorem dX12_wrapsOf_39 : decode cX12_wrapsOf 39 = .ok (.iadd, 1) := dr9 dk9_dX12_wrapsOf_0_0.1 22 (39, .iadd, 1) rfl
theorem dX12_wrapsOf_40 : decode cX12_wrapsOf 40 = .ok (.istore 4, 2) := dr9 dk9_dX12_wrapsOf_0_0.1 23 (40, .istore 4, 2) rfl
theorem dX12_wrapsOf_42 : decode cX12_wrapsOf 42 = .ok (.iinc 5 1, 3) := dr9 dk9_dX12_wrapsOf_0_0.2 0 (42, .iinc 5 1, 3) rfl
theorem dX12_wrapsOf_45 : decode cX12_wrapsOf 45 = .ok (.goto (-39), 3) := dr9 dk9_dX12_wrapsOf_0_0.2 1 (45, .goto (-39), 3) rfl
theorem dX12_wrapsOf_34 : decode cX12_wrapsOf 34 = .ok (.iconst 1, 1) := dr9 dk9_dX12_wrapsOf_0_0.2 2 (34, .iconst 1, 1) rfl
theorem dX12_wrapsOf_35 : decode cX12_wrapsOf 35 = .ok (.goto 4, 3) := dr9 dk9_dX12_wrapsOf_0_0.2 3 (35, .goto 4, 3) rfl
theorem dk9_dX12_wrapAt_0_0 : dOk cX12_wrapAt [(0, .iload_n 1, 1), (1, .istore 5, 2), (3, .iconst 0, 1), (4, .istore 6, 2), (6, .iload 6, 2), (8, .bipush 100, 2), (10, .if_icmp .ge 76, 3), (86, .iconst (-1), 1), (87, .ireturn, 1), (13, .iconst 0, 1), (14, .istore 7, 2), (16, .iload 7, 2), (18, .aload_n 0, 1), (19, .getfield 122, 3), (22, .aload_n 0, 1), (23, .getfield 286, 3), (26, .iaload, 1), (27, .if_icmp .ge 53, 3), (80, .iinc 6 1, 3), (83, .goto (-77), 3), (30, .aload_n 0, 1), (31, .iload 7, 2), (33, .iload_n 2, 1), (34, .iload_n 3, 1)] = true ∧ dOk cX12_wrapAt [(35, .iload 4, 2), (37, .invokevirtual 516, 3), (40, .ifCond .eq 34, 3), (74, .iinc 7 1, 3), (77, .goto (-61), 3), (43, .aload_n 0, 1), (44, .getfield 131, 3), (47, .bipush 12, 2), (49, .aload_n 0, 1), (50, .getfield 286, 3), (53, .imul, 1), (54, .iload 7, 2), (56, .iadd, 1), (57, .iaload, 1), (58, .iload 6, 2), (60, .if_icmp .ne 14, 3), (63, .iload 5, 2), (65, .ifCond .ne 6, 3), (71, .iinc 5 (-1), 3), (68, .iload 7, 2), (70, .ireturn, 1)] = true := by decide +kernel
theorem dX12_wrapAt_0 : decode cX12_wrapAt 0 = .ok (.iload_n 1, 1) := dr9 dk9_dX12_wrapAt_0_0.1 0 (0, .iload_n 1, 1) rfl
theorem dX12_wrapAt_1 : decode cX12_wrapAt 1 = .ok (.istore 5, 2) := dr9 dk9_dX12_wrapAt_0_0.1 1 (1, .istore 5, 2) rfl
theorem dX12_wrapAt_3 : decode cX12_wrapAt 3 = .ok (.iconst 0, 1) := dr9 dk9_dX12_wrapAt_0_0.1 2 (3, .iconst 0, 1) rfl
theorem dX12_wrapAt_4 : decode cX12_wrapAt 4 = .ok (.istore 6, 2) := dr9 dk9_dX12_wrapAt_0_0.1 3 (4, .istore 6, 2) rfl
theorem dX12_wrapAt_6 : decode cX12_wrapAt 6 = .ok (.iload 6, 2) := dr9 dk9_dX12_wrapAt_0_0.1 4 (6, .iload 6, 2) rfl
theorem dX12_wrapAt_8 : decode cX12_wrapAt 8 = .ok (.bipush 100, 2) := dr9 dk9_dX12_wrapAt_0_0.1 5 (8, .bipush 100, 2) rfl
theorem dX12_wrapAt_10 : decode cX12_wrapAt 10 = .ok (.if_icmp .ge 76, 3) := dr9 dk9_dX12_wrapAt_0_0.1 6 (10, .if_icmp .ge 76, 3) rfl
theorem dX12_wrapAt_86 : decode cX12_wrapAt 86 = .ok (.iconst (-1), 1) := dr9 dk9_dX12_wrapAt_0_0.1 7 (86, .iconst (-1), 1) rfl
theorem dX12_wrapAt_87 : decode cX12_wrapAt 87 = .ok (.ireturn, 1) := dr9 dk9_dX12_wrapAt_0_0.1 8 (87, .ireturn, 1) rfl
theorem dX12_wrapAt_13 : decode cX12_wrapAt 13 = .ok (.iconst 0, 1) := dr9 dk9_dX12_wrapAt_0_0.1 9 (13, .iconst 0, 1) rfl
theorem dX12_wrapAt_14 : decode cX12_wrapAt 14 = .ok (.istore 7, 2) := dr9 dk9_dX12_wrapAt_0_0.1 10 (14, .istore 7, 2) rfl
theorem dX12_wrapAt_16 : decode cX12_wrapAt 16 = .ok (.iload 7, 2) := dr9 dk9_dX12_wrapAt_0_0.1 11 (16, .iload 7, 2) rfl
theorem dX12_wrapAt_18 : decode cX12_wrapAt 18 = .ok (.aload_n 0, 1) := dr9 dk9_dX12_wrapAt_0_0.1 12 (18, .aload_n 0, 1) rfl
theorem dX12_wrapAt_19 : decode cX12_wrapAt 19 = .ok (.getfield 122, 3) := dr9 dk9_dX12_wrapAt_0_0.1 13 (19, .getfield 122, 3) rfl
theorem dX12_wrapAt_22 : decode cX12_wrapAt 22 = .ok (.aload_n 0, 1) := dr9 dk9_dX12_wrapAt_0_0.1 14 (22, .aload_n 0, 1) rfl
theorem dX12_wrapAt_23 : decode cX12_wrapAt 23 = .ok (.getfield 286, 3) := dr9 dk9_dX12_wrapAt_0_0.1 15 (23, .getfield 286, 3) rfl
theorem dX12_wrapAt_26 : decode cX12_wrapAt 26 = .ok (.iaload, 1) := dr9 dk9_dX12_wrapAt_0_0.1 16 (26, .iaload, 1) rfl
theorem dX12_wrapAt_27 : decode cX12_wrapAt 27 = .ok (.if_icmp .ge 53, 3) := dr9 dk9_dX12_wrapAt_0_0.1 17 (27, .if_icmp .ge 53, 3) rfl
theorem dX12_wrapAt_80 : decode cX12_wrapAt 80 = .ok (.iinc 6 1, 3) := dr9 dk9_dX12_wrapAt_0_0.1 18 (80, .iinc 6 1, 3) rfl
theorem dX12_wrapAt_83 : decode cX12_wrapAt 83 = .ok (.goto (-77), 3) := dr9 dk9_dX12_wrapAt_0_0.1 19 (83, .goto (-77), 3) rfl
theorem dX12_wrapAt_30 : decode cX12_wrapAt 30 = .ok (.aload_n 0, 1) := dr9 dk9_dX12_wrapAt_0_0.1 20 (30, .aload_n 0, 1) rfl
theorem dX12_wrapAt_31 : decode cX12_wrapAt 31 = .ok (.iload 7, 2) := dr9 dk9_dX12_wrapAt_0_0.1 21 (31, .iload 7, 2) rfl
theorem dX12_wrapAt_33 : decode cX12_wrapAt 33 = .ok (.iload_n 2, 1) := dr9 dk9_dX12_wrapAt_0_0.1 22 (33, .iload_n 2, 1) rfl
theorem dX12_wrapAt_34 : decode cX12_wrapAt 34 = .ok (.iload_n 3, 1) := dr9 dk9_dX12_wrapAt_0_0.1 23 (34, .iload_n 3, 1) rfl
theorem dX12_wrapAt_35 : decode cX12_wrapAt 35 = .ok (.iload 4, 2) := dr9 dk9_dX12_wrapAt_0_0.2 0 (35, .iload 4, 2) rfl
theorem dX12_wrapAt_37 : decode cX12_wrapAt 37 = .ok (.invokevirtual 516, 3) := dr9 dk9_dX12_wrapAt_0_0.2 1 (37, .invokevirtual 516, 3) rfl
theorem dX12_wrapAt_40 : decode cX12_wrapAt 40 = .ok (.ifCond .eq 34, 3) := dr9 dk9_dX12_wrapAt_0_0.2 2 (40, .ifCond .eq 34, 3) rfl
theorem dX12_wrapAt_74 : decode cX12_wrapAt 74 = .ok (.iinc 7 1, 3) := dr9 dk9_dX12_wrapAt_0_0.2 3 (74, .iinc 7 1, 3) rfl
theorem dX12_wrapAt_77 : decode cX12_wrapAt 77 = .ok (.goto (-61), 3) := dr9 dk9_dX12_wrapAt_0_0.2 4 (77, .goto (-61), 3) rfl
theorem dX12_wrapAt_43 : decode cX12_wrapAt 43 = .ok (.aload_n 0, 1) := dr9 dk9_dX12_wrapAt_0_0.2 5 (43, .aload_n 0, 1) rfl
theorem dX12_wrapAt_44 : decode cX12_wrapAt 44 = .ok (.getfield 131, 3) := dr9 dk9_dX12_wrapAt_0_0.2 6 (44, .getfield 131, 3) rfl
theorem dX12_wrapAt_47 : decode cX12_wrapAt 47 = .ok (.bipush 12, 2) := dr9 dk9_dX12_wrapAt_0_0.2 7 (47, .bipush 12, 2) rfl
theorem dX12_wrapAt_49 : decode cX12_wrapAt 49 = .ok (.aload_n 0, 1) := dr9 dk9_dX12_wrapAt_0_0.2 8 (49, .aload_n 0, 1) rfl
theorem dX12_wrapAt_50 : decode cX12_wrapAt 50 = .ok (.getfield 286, 3) := dr9 dk9_dX12_wrapAt_0_0.2 9 (50, .getfield 286, 3) rfl
theorem dX12_wrapAt_53 : decode cX12_wrapAt 53 = .ok (.imul, 1) := dr9 dk9_dX12_wrapAt_0_0.2 10 (53, .imul, 1) rfl
theorem dX12_wrapAt_54 : decode cX12_wrapAt 54 = .ok (.iload 7, 2) := dr9 dk9_dX12_wrapAt_0_0.2 11 (54, .iload 7, 2) rfl
theorem dX12_wrapAt_56 : decode cX12_wrapAt 56 = .ok (.iadd, 1) := dr9 dk9_dX12_wrapAt_0_0.2 12 (56, .iadd, 1) rfl
theorem dX12_wrapAt_57 : decode cX12_wrapAt 57 = .ok (.iaload, 1) := dr9 dk9_dX12_wrapAt_0_0.2 13 (57, .iaload, 1) rfl
theorem dX12_wrapAt_58 : decode cX12_wrapAt 58 = .ok (.iload 6, 2) := dr9 dk9_dX12_wrapAt_0_0.2 14 (58, .iload 6, 2) rfl
theorem dX12_wrapAt_60 : decode cX12_wrapAt 60 = .ok (.if_icmp .ne 14, 3) := dr9 dk9_dX12_wrapAt_0_0.2 15 (60, .if_icmp .ne 14, 3) rfl
theorem dX12_wrapAt_63 : decode cX12_wrapAt 63 = .ok (.iload 5, 2) := dr9 dk9_dX12_wrapAt_0_0.2 16 (63, .iload 5, 2) rfl
theorem dX12_wrapAt_65 : decode cX12_wrapAt 65 = .ok (.ifCond .ne 6, 3) := dr9 dk9_dX12_wrapAt_0_0.2 17 (65, .ifCond .ne 6, 3) rfl
theorem dX12_wrapAt_71 : decode cX12_wrapAt 71 = .ok (.iinc 5 (-1), 3) := dr9 dk9_dX12_wrapAt_0_0.2 18 (71, .iinc 5 (-1), 3) rfl
theorem dX12_wrapAt_68 : decode cX12_wrapAt 68 = .ok (.iload 7, 2) := dr9 dk9_dX12_wrapAt_0_0.2 19 (68, .iload 7, 2) rfl
theorem dX12_wrapAt_70 : decode cX12_wrapAt 70 = .ok (.ireturn, 1) := dr9 dk9_dX12_wrapAt_0_0.2 20 (70, .ireturn, 1) rfl
abbrev r_s_step2 : Room := { frames := 0, cells := 0, slots := 0, locals := 0 }
abbrev q_s_step2 (D : va_G) (ks : KS) (ad : Nat → Nat) (kk : Nat → ClassId) (V : Vf) (L : Lf) (A : Nat → Prop) : Array Value → State → Outcome → State → Prop := va_Qi (fun (r : Int32) (u : Vf × Lf) => rgd bM u.1 ∧ agr [(0, 68), (0, 69)] [] V u.1 ∧ u.2 = L ∧ (0 ≤ r.toInt ∧ r.toInt ≤ 1) ∧ (Imp (r.toInt = 1) ((u.1 0 69).toInt = (V 0 69).toInt + 1 ∧ (u.1 0 68).toInt = (V 0 68).toInt + 1)) ∧ (Imp (r.toInt = 0) ((u.1 0 69).toInt = (V 0 69).toInt ∧ (u.1 0 68).toInt = (V 0 68).toInt))) (fun u t => gq D A (mw ad kk ks.1 u.1 u.2) (mty kk) t) A
abbrev r_s_fails2 : Room := { frames := 0, cells := 0, slots := 0, locals := 0 }
abbrev q_s_fails2 (D : va_G) (ks : KS) (ad : Nat → Nat) (kk : Nat → ClassId) (V : Vf) (L : Lf) (p0 : Int32) (A : Nat → Prop) : Array Value → State → Outcome → State → Prop := va_Qi (fun (r : Int32) (u : Vf × Lf) => rgd bM u.1 ∧ agr [(0, 90), (0, 91)] [] V u.1 ∧ u.2 = L ∧ (1 ≤ r.toInt ∧ r.toInt ≤ 1)) (fun u t => gq D A (mw ad kk ks.1 u.1 u.2) (mty kk) t) A
abbrev r_s_push2 : Room := { frames := 0, cells := 0, slots := 0, locals := 0 }
abbrev q_s_push2 (D : va_G) (ks : KS) (ad : Nat → Nat) (kk : Nat → ClassId) (V : Vf) (L : Lf) (p0 : Int32) (A : Nat → Prop) : Array Value → State → Outcome → State → Prop := va_Qv (fun (u : Vf × Lf) => rgd bM u.1 ∧ agr [(0, 98)] [97] V u.1 ∧ u.2 = L ∧ ((u.1 0 98).toInt = (V 0 98).toInt + 1)) (fun u t => gq D A (mw ad kk ks.1 u.1 u.2) (mty kk) t) A
abbrev r_s_pop2 : Room := { frames := 0, cells := 0, slots := 0, locals := 0 }
abbrev q_s_pop2 (D : va_G) (ks : KS) (ad : Nat → Nat) (kk : Nat → ClassId) (V : Vf) (L : Lf) (A : Nat → Prop) : Array Value → State → Outcome → State → Prop := va_Qi (fun (r : Int32) (u : Vf × Lf) => rgd bM u.1 ∧ agr [(0, 98)] [] V u.1 ∧ u.2 = L ∧ ((u.1 0 98).toInt = (V 0 98).toInt - 1)) (fun u t => gq D A (mw ad kk ks.1 u.1 u.2) (mty kk) t) A
abbrev r_s_notes2 : Room := { frames := 0, cells := 0, slots := 0, locals := 0 }
abbrev q_s_notes2 (D : va_G) (ks : KS) (ad : Nat → Nat) (kk : Nat → ClassId) (V : Vf) (L : Lf) (p0 : Int32) (p1 : Int32) (p2 : Int32) (A : Nat → Prop) : Array Value → State → Outcome → State → Prop := va_Qv (fun (u : Vf × Lf) => rgd bM u.1 ∧ agr [(0, 76)] [77, 78, 79] V u.1 ∧ u.2 = L ∧ ((u.1 0 76).toInt = (V 0 76).toInt + 1)) (fun u t => gq D A (mw ad kk ks.1 u.1 u.2) (mty kk) t) A
set_option maxHeartbeats 4000000 in
set_option maxRecDepth 100000 in
theorem s_notes2 (l : Launch) (D : va_G) (ks : KS) (sz : Nat) (ad : Nat → Nat) (kk : Nat → ClassId) (V : Vf) (L : Lf) (p0 : Int32) (p1 : Int32) (p2 : Int32) (hMV : rgd bM V) (y1 : (V 0 76).toInt ≤ 1999999999)  : Met l yX12_notes (Cond.code yX12_notes cX12_notes 4 none :: GW) r_s_notes2 (va_Pc [.ref (ad 0), .int p0, .int p1, .int p2] (gp D ks (mw ad kk ks.1 V L) (mty kk) sz)) (q_s_notes2 D ks ad kk V L p0 p1 p2 (va_A (mw ad kk ks.1 V L) sz)) 0 0 (va_A (mw ad kk ks.1 V L) sz) := by
  refine g_met (q_s_notes2 D ks ad kk V L p0 p1 p2) (by decide) (Nat.le_of_ble_eq_true rfl) ?_
  intro p e s m below meth c A ls H locs hx hb hr hml hown hg hlocks hin hnw hgk hP hK hD hS hA hl
  have hown : s.vm.findClass RX12 = some m.cls := hown
  have hl : lv_has ls 4 [(0, .ref (ad 0)), (1, .int p0), (2, .int p1), (3, .int p2)] := hl
  have hP : va_P D vwCl (mw ad kk ks.1 V L) H := hP
  have hD : va_D A (mw ad kk ks.1 V L) := hD
  have hK : va_K D vwCl (mty kk) s := hK
  have agV : agr [(0, 76)] [77, 78, 79] V V := agr.rf
  have r1 : 0 ≤ ((V 0 76)).toInt ∧ ((V 0 76)).toInt ≤ 2000000000 := hMV 0 76
  refine lv_aload_n hx hb dX12_notes_0 rfl (lv_at hl 0 rfl) ?_
  refine va_get (D := D) (ci := 12) (v := .int (V 0 76)) (C := RX12) (T := TX12) (N := 100) hx hb hg inX12 hown hK hP 0 rfl rfl 76 (by decide) (hg _ w1782) (fun _ h9 => h9) rfl dX12_notes_1 ?_
  refine lv_bipush (v := 100) hx hb dX12_notes_4 (by decide) ?_
  have J2 : ∀ (V3 : Vf) (H : Heap) (locs : List Loc) (ls : Array Slot), agr [] [77, 78, 79] V V3 → rgd bM V3 → va_P D vwCl (mw ad kk ks.1 V3 L) H → va_D A (mw ad kk ks.1 V3 L) → va_S A s.heap H locs → lv_has ls 4 [(0, .ref (ad 0)), (1, .int p0), (2, .int p1), (3, .int p2)] → W p l e r_s_notes2 s m ([.ref (ad 0), .int p0, .int p1, .int p2] : List Value).toArray below meth c H locs 0 0 (MQ below (q_s_notes2 D ks ad kk V L p0 p1 p2 A) ([.ref (ad 0), .int p0, .int p1, .int p2] : List Value).toArray s 0 0 A) (F0 m 39 ls []) := by
    intro V3 H locs ls ajV3 hMV3 hP hD hS hl
    have agV3 : agr [(0, 76)] [77, 78, 79] V V3 := agV.tr ajV3 (by decide) (by decide)
    refine lv_aload_n hx hb dX12_notes_39 rfl (lv_at hl 0 rfl) ?_
    refine lv_dup hx hb dX12_notes_40 rfl ?_
    refine va_get (D := D) (ci := 12) (v := .int (V3 0 76)) (C := RX12) (T := TX12) (N := 100) hx hb hg inX12 hown hK hP 0 rfl rfl 76 (by decide) (hg _ w1782) (fun _ h9 => h9) rfl dX12_notes_41 ?_
    refine g_top (v := (V 0 76)) (ajV3 0 76 rfl) ?_
    refine lv_iconst (v := 1) hx hb dX12_notes_44 (by decide) ?_
    refine lv_iadd hx hb dX12_notes_45 ?_
    refine lv_topi (fun z4 ez4 => ?_)
    have hz4 : z4.toInt = ((V 0 76)).toInt + 1 := i_add ez4 rfl (by decide) (by (first | exact om_7a636f26a41c y1 r1.1 | omega))
    refine va_put (D := D) (ci := 12) (v := .int z4) (ty := tyX12 76) (C := RX12) (T := TX12) (N := 100) hx hb hg inX12 tyX12 tyX12_ok nmX12 hown hK hP hD hS 0 rfl rfl 76 (by decide) (hg _ w1782) (fun _ h9 => h9) rfl (tyX12_ok 76 (by decide)) rfl rfl (Nat.le_of_ble_eq_true rfl) dX12_notes_46 (fun H locs hP hD hS => ?_)
    obtain ⟨V5, hV5⟩ : ∃ z, z = up2 V3 0 76 z4 := ⟨_, rfl⟩
    have hP : va_P D vwCl (mw ad kk ks.1 V5 L) H := by rw [hV5]; exact hP
    have hD : va_D A (mw ad kk ks.1 V5 L) := by rw [hV5]; exact hD
    have hMV5 : rgd bM V5 := hMV3.put hV5 (show 0 ≤ z4.toInt ∧ z4.toInt ≤ 2000000000 from by (first | exact om_baf450322de8 y1 r1.1 hz4 | omega))
    have agV5 : agr [(0, 76)] [77, 78, 79] V V5 := agV3.up hV5 rfl
    have pq6 : (V5 0 76).toInt = z4.toInt := congrArg Int32.toInt (up2_s hV5)
    exact W.vret hx hb hr (fun t ht hW => ⟨⟨(V5, L), rfl, ⟨hMV5, agV5, rfl, (show (V5 0 76).toInt = (V 0 76).toInt + 1 from by (first | exact om_689eeacb6d53 hz4 pq6 | omega))⟩, by rw [ht]; exact hP, va_K.moved hW.alike hK, hD⟩, hS.F ht⟩) hS.2.2 dX12_notes_49
  refine lv_icmp_ge (tgt := 39) hx hb dX12_notes_6 (by decide) (fun c7 => ?_) (fun c7 => ?_)
  · skip
    have f8 : 100 ≤ ((V 0 76)).toInt := b_le (by decide) rfl c7
    exact J2 V H locs ls agr.rf hMV hP hD hS (lv_sub hl [0, 1, 2, 3] rfl)
  · skip
    have f9 : ((V 0 76)).toInt < 100 := b_nle (by decide) rfl c7
    refine lv_aload_n hx hb dX12_notes_9 rfl (lv_at hl 0 rfl) ?_
    refine va_get (D := D) (ci := 12) (v := .ref (ad 77)) (C := RX12) (T := TX12) (N := 100) hx hb hg inX12 hown hK hP 0 rfl rfl 77 (by decide) (hg _ w1783) (fun _ h9 => h9) rfl dX12_notes_10 ?_
    refine lv_aload_n hx hb dX12_notes_13 rfl (lv_at hl 0 rfl) ?_
    refine va_get (D := D) (ci := 12) (v := .int (V 0 76)) (C := RX12) (T := TX12) (N := 100) hx hb hg inX12 hown hK hP 0 rfl rfl 76 (by decide) (hg _ w1782) (fun _ h9 => h9) rfl dX12_notes_14 ?_
    refine lv_iload_n hx hb dX12_notes_17 rfl (lv_at hl 1 rfl) ?_
    refine va_iast (D := D) (i := (V 0 76)) (x := p0) hx hb hK hP hD hS 54 53 rfl rfl (i_in (a := ((V 0 76)).toInt) rfl (by (first | exact om_84fa328245f5 r1.1 f9 | omega))) dX12_notes_18 (fun H locs hP hD hS => ?_)
    obtain ⟨V10, hV10⟩ : ∃ z, z = up2 V 77 (Int32.toNatClampNeg (V 0 76)) p0 := ⟨_, rfl⟩
    have hP : va_P D vwCl (mw ad kk ks.1 V10 L) H := by rw [hV10]; exact hP
    have hD : va_D A (mw ad kk ks.1 V10 L) := by rw [hV10]; exact hD
    have hMV10 : rgd bM V10 := hMV.put hV10 (i_full _)
    have agV10 : agr [(0, 76)] [77, 78, 79] V V10 := agV.up hV10 rfl
    refine lv_aload_n hx hb dX12_notes_19 rfl (lv_at hl 0 rfl) ?_
    refine va_get (D := D) (ci := 12) (v := .ref (ad 78)) (C := RX12) (T := TX12) (N := 100) hx hb hg inX12 hown hK hP 0 rfl rfl 78 (by decide) (hg _ w1784) (fun _ h9 => h9) rfl dX12_notes_20 ?_
    refine lv_aload_n hx hb dX12_notes_23 rfl (lv_at hl 0 rfl) ?_
    refine va_get (D := D) (ci := 12) (v := .int (V10 0 76)) (C := RX12) (T := TX12) (N := 100) hx hb hg inX12 hown hK hP 0 rfl rfl 76 (by decide) (hg _ w1782) (fun _ h9 => h9) rfl dX12_notes_24 ?_
    refine g_top (v := (V 0 76)) (up2_o hV10 (by decide)) ?_
    refine lv_iload_n hx hb dX12_notes_27 rfl (lv_at hl 2 rfl) ?_
    refine va_iast (D := D) (i := (V 0 76)) (x := p1) hx hb hK hP hD hS 55 54 rfl rfl (i_in (a := ((V 0 76)).toInt) rfl (by (first | exact om_84fa328245f5 r1.1 f9 | omega))) dX12_notes_28 (fun H locs hP hD hS => ?_)
    obtain ⟨V11, hV11⟩ : ∃ z, z = up2 V10 78 (Int32.toNatClampNeg (V 0 76)) p1 := ⟨_, rfl⟩
    have hP : va_P D vwCl (mw ad kk ks.1 V11 L) H := by rw [hV11]; exact hP
    have hD : va_D A (mw ad kk ks.1 V11 L) := by rw [hV11]; exact hD
    have hMV11 : rgd bM V11 := hMV10.put hV11 (i_full _)
    have agV11 : agr [(0, 76)] [77, 78, 79] V V11 := agV10.up hV11 rfl
    refine lv_aload_n hx hb dX12_notes_29 rfl (lv_at hl 0 rfl) ?_
    refine va_get (D := D) (ci := 12) (v := .ref (ad 79)) (C := RX12) (T := TX12) (N := 100) hx hb hg inX12 hown hK hP 0 rfl rfl 79 (by decide) (hg _ w1785) (fun _ h9 => h9) rfl dX12_notes_30 ?_
    refine lv_aload_n hx hb dX12_notes_33 rfl (lv_at hl 0 rfl) ?_
    refine va_get (D := D) (ci := 12) (v := .int (V11 0 76)) (C := RX12) (T := TX12) (N := 100) hx hb hg inX12 hown hK hP 0 rfl rfl 76 (by decide) (hg _ w1782) (fun _ h9 => h9) rfl dX12_notes_34 ?_
    refine g_top (v := (V 0 76)) ((up2_o hV11 (by decide)).trans (up2_o hV10 (by decide))) ?_
    refine lv_iload_n hx hb dX12_notes_37 rfl (lv_at hl 3 rfl) ?_
    refine va_iast (D := D) (i := (V 0 76)) (x := p2) hx hb hK hP hD hS 56 55 rfl rfl (i_in (a := ((V 0 76)).toInt) rfl (by (first | exact om_84fa328245f5 r1.1 f9 | omega))) dX12_notes_38 (fun H locs hP hD hS => ?_)
    obtain ⟨V12, hV12⟩ : ∃ z, z = up2 V11 79 (Int32.toNatClampNeg (V 0 76)) p2 := ⟨_, rfl⟩
    have hP : va_P D vwCl (mw ad kk ks.1 V12 L) H := by rw [hV12]; exact hP
    have hD : va_D A (mw ad kk ks.1 V12 L) := by rw [hV12]; exact hD
    have hMV12 : rgd bM V12 := hMV11.put hV12 (i_full _)
    have agV12 : agr [(0, 76)] [77, 78, 79] V V12 := agV11.up hV12 rfl
    exact J2 V12 H locs ls (agr.up (agr.up (agr.up agr.rf hV10 rfl) hV11 rfl) hV12 rfl) hMV12 hP hD hS (lv_sub hl [0, 1, 2, 3] rfl)
abbrev r_s_reckons2 : Room := { frames := 1, cells := 0, slots := 0, locals := 21 }
abbrev q_s_reckons2 (D : va_G) (ks : KS) (ad : Nat → Nat) (kk : Nat → ClassId) (V : Vf) (L : Lf) (p0 : Int32) (p1 : Int32) (A : Nat → Prop) : Array Value → State → Outcome → State → Prop := va_Qi (fun (r : Int32) (u : Vf × Lf) => rgd bM u.1 ∧ agr [(0, 68), (0, 69), (0, 90), (0, 91), (0, 98)] [97] V u.1 ∧ u.2 = L ∧ (0 ≤ r.toInt ∧ r.toInt ≤ 2) ∧ (Imp (p0.toInt = 1) ((u.1 0 98).toInt = (V 0 98).toInt ∧ ((r.toInt = 0 ∧ (u.1 0 69).toInt = (V 0 69).toInt + 1 ∧ (u.1 0 68).toInt = (V 0 68).toInt + 1) ∨ (r.toInt = 2 ∧ (u.1 0 69).toInt = (V 0 69).toInt ∧ (u.1 0 68).toInt = (V 0 68).toInt)))) ∧ (Imp (p0.toInt = 10) (r.toInt = 1 ∧ (u.1 0 98).toInt = (V 0 98).toInt)) ∧ (Imp (p0.toInt = 2 ∨ p0.toInt = 11) (r.toInt = 0 ∧ (u.1 0 98).toInt = (V 0 98).toInt + 1)) ∧ (Imp (p0.toInt = 4) (r.toInt = 0 ∧ (u.1 0 98).toInt = (V 0 98).toInt)) ∧ (Imp (5 ≤ p0.toInt ∧ p0.toInt ≤ 9) (r.toInt = 0 ∧ (u.1 0 98).toInt = (V 0 98).toInt - 1)) ∧ (Imp (p0.toInt ≠ 1) ((u.1 0 69).toInt = (V 0 69).toInt ∧ (u.1 0 68).toInt = (V 0 68).toInt))) (fun u t => gq D A (mw ad kk ks.1 u.1 u.2) (mty kk) t) A
abbrev r_s_isWrap2 : Room := { frames := 0, cells := 0, slots := 0, locals := 0 }
abbrev q_s_isWrap2 (D : va_G) (ks : KS) (ad : Nat → Nat) (kk : Nat → ClassId) (V : Vf) (L : Lf) (p0 : Int32) (p1 : Int32) (p2 : Int32) (p3 : Int32) (A : Nat → Prop) : Array Value → State → Outcome → State → Prop := va_Qi (fun (r : Int32) (_ : Unit) => (0 ≤ r.toInt ∧ r.toInt ≤ 1) ∧ (Imp (r.toInt = 1) (isWb V p1 p2 p3 (Int32.toNatClampNeg p0) = true)) ∧ (Imp (r.toInt = 0) (isWb V p1 p2 p3 (Int32.toNatClampNeg p0) = false))) (fun _ t => gq D A (mw ad kk ks.1 V L) (mty kk) t) A
set_option maxHeartbeats 4000000 in
set_option maxRecDepth 100000 in
theorem s_isWrap2 (l : Launch) (D : va_G) (ks : KS) (sz : Nat) (ad : Nat → Nat) (kk : Nat → ClassId) (V : Vf) (L : Lf) (p0 : Int32) (p1 : Int32) (p2 : Int32) (p3 : Int32) (hMV : rgd bM V) (rg_p0 : 0 ≤ p0.toInt ∧ p0.toInt ≤ 11) (rg_p1 : 0 ≤ p1.toInt ∧ p1.toInt ≤ 299) (wt : 0 ≤ (V 40 (12 * nwh V + Int32.toNatClampNeg p0)).toInt)  : Met l yX12_isWrap (Cond.code yX12_isWrap cX12_isWrap 6 (some .boolean) :: GW) r_s_isWrap2 (va_Pc [.ref (ad 0), .int p0, .int p1, .int p2, .int p3] (gp D ks (mw ad kk ks.1 V L) (mty kk) sz)) (q_s_isWrap2 D ks ad kk V L p0 p1 p2 p3 (va_A (mw ad kk ks.1 V L) sz)) 0 0 (va_A (mw ad kk ks.1 V L) sz) := by
  refine g_met (q_s_isWrap2 D ks ad kk V L p0 p1 p2 p3) (by decide) (Nat.le_of_ble_eq_true rfl) ?_
  intro p e s m below meth c A ls H locs hx hb hr hml hown hg hlocks hin hnw hgk hP hK hD hS hA hl
  have hown : s.vm.findClass RX12 = some m.cls := hown
  have hl : lv_has ls 6 [(0, .ref (ad 0)), (1, .int p0), (2, .int p1), (3, .int p2), (4, .int p3)] := hl
  have hP : va_P D vwCl (mw ad kk ks.1 V L) H := hP
  have hD : va_D A (mw ad kk ks.1 V L) := hD
  have hK : va_K D vwCl (mty kk) s := hK
  refine lv_bipush (v := 12) hx hb dX12_isWrap_0 (by decide) ?_
  refine lv_aload_n hx hb dX12_isWrap_2 rfl (lv_at hl 0 rfl) ?_
  refine va_get (D := D) (ci := 12) (v := .int (V 0 11)) (C := RX12) (T := TX12) (N := 100) hx hb hg inX12 hown hK hP 0 rfl rfl 11 (by decide) (hg _ w1717) (fun _ h9 => h9) rfl dX12_isWrap_3 ?_
  have r1 : 0 ≤ ((V 0 11)).toInt ∧ ((V 0 11)).toInt ≤ 1 := hMV 0 11
  refine lv_imul hx hb dX12_isWrap_6 ?_
  refine lv_topi (fun z2 ez2 => ?_)
  have hz2 : z2.toInt = 12 * ((V 0 11)).toInt := i_mul ez2 (by decide) rfl (by (first | exact om_630bd6ee60c3 r1.1 r1.2 | omega))
  refine lv_iload_n hx hb dX12_isWrap_7 rfl (lv_at hl 1 rfl) ?_
  refine lv_iadd hx hb dX12_isWrap_8 ?_
  refine lv_topi (fun z3 ez3 => ?_)
  have hz3 : z3.toInt = z2.toInt + p0.toInt := i_add ez3 rfl rfl (by (first | exact om_cd8bcbd39e48 rg_p0.1 rg_p0.2 r1.1 r1.2 hz2 | omega))
  refine lv_istore (lv' := [(5, .int z3), (0, .ref (ad 0)), (1, .int p0), (2, .int p1), (3, .int p2), (4, .int p3)]) hx hb dX12_isWrap_9 hl (by decide) rfl (fun ls hl => ?_)
  have kn_ : (nwh V : Int) = (V 0 11).toInt := i_clamp (x := V 0 11) rfl (by (first | exact om_eafa9039069c r1.1 | omega))
  have k0_ := i_clamp (x := p0) rfl (by (first | exact om_eafa9039069c rg_p0.1 | omega))
  have wt2 : 0 ≤ (V 40 (Int32.toNatClampNeg z3)).toInt := by have k5 : Int32.toNatClampNeg z3 = 12 * nwh V + Int32.toNatClampNeg p0 := (by have h9 := i_clamp (x := z3) rfl (by (first | exact om_7ea21d029263 rg_p0.1 r1.1 hz2 hz3 | omega)); omega); rw [k5]; exact wt
  refine lv_aload_n hx hb dX12_isWrap_11 rfl (lv_at hl 1 rfl) ?_
  refine va_get (D := D) (ci := 12) (v := .ref (ad 41)) (C := RX12) (T := TX12) (N := 100) hx hb hg inX12 hown hK hP 0 rfl rfl 41 (by decide) (hg _ w1747) (fun _ h9 => h9) rfl dX12_isWrap_12 ?_
  refine lv_iload hx hb dX12_isWrap_15 (lv_at hl 0 rfl) ?_
  refine va_iald (D := D) (i := z3) hx hb hK hP 34 33 rfl rfl (i_in (a := z3.toInt) rfl (by first | exact om_6f504b73971b rg_p0.1 rg_p0.2 r1.1 r1.2 hz2 hz3 | first | omega | ((try (have i_wt := Imp.go wt (by omega))); omega))) dX12_isWrap_17 ?_
  refine lv_iload_n hx hb dX12_isWrap_18 rfl (lv_at hl 4 rfl) ?_
  refine lv_icmp_ne (tgt := 71) hx hb dX12_isWrap_19 (by decide) (fun c4 => ?_) (fun c4 => ?_)
  · skip
    have f5 : ((V 41 (Int32.toNatClampNeg z3))).toInt ≠ p2.toInt := b_neq rfl rfl c4
    refine lv_iconst (v := 0) hx hb dX12_isWrap_71 (by decide) ?_
    have kn : (nwh V : Int) = (V 0 11).toInt := i_clamp (x := V 0 11) rfl (by (first | exact om_eafa9039069c r1.1 | omega))
    have k0 := i_clamp (x := p0) rfl (by (first | exact om_eafa9039069c rg_p0.1 | omega))
    have k5 : Int32.toNatClampNeg z3 = 12 * nwh V + Int32.toNatClampNeg p0 := by have h9 := i_clamp (x := z3) rfl (by (first | exact om_7ea21d029263 rg_p0.1 r1.1 hz2 hz3 | omega)); (first | exact om_4106d378e013 hz2 hz3 kn_ k0_ kn k0 h9 | omega)
    have q40 : V 40 (12 * nwh V + Int32.toNatClampNeg p0) = V 40 (Int32.toNatClampNeg z3) := by rw [k5]
    have q41 : V 41 (12 * nwh V + Int32.toNatClampNeg p0) = V 41 (Int32.toNatClampNeg z3) := by rw [k5]
    have q43 : V 43 (12 * nwh V + Int32.toNatClampNeg p0) = V 43 (Int32.toNatClampNeg z3) := by rw [k5]
    exact W.zret (v := 0) hx hb hr rfl (fun t ht hW => ⟨⟨0, (), rfl, ⟨(by decide), (Imp.mk (fun hp => absurd hp (by decide))), (Imp.mk (fun _ => decide_eq_false (fun h => by have h9 := h.1; rw [q41] at h9; have h8 := congrArg Int32.toInt h9; omega)))⟩, by rw [ht]; exact hP, va_K.moved hW.alike hK, hD⟩, hS.F ht⟩) hS.2.2 dX12_isWrap_72
  · skip
    have f6 : ((V 41 (Int32.toNatClampNeg z3))).toInt = p2.toInt := b_eq rfl rfl c4
    refine lv_aload_n hx hb dX12_isWrap_22 rfl (lv_at hl 1 rfl) ?_
    refine va_get (D := D) (ci := 12) (v := .ref (ad 43)) (C := RX12) (T := TX12) (N := 100) hx hb hg inX12 hown hK hP 0 rfl rfl 43 (by decide) (hg _ w1749) (fun _ h9 => h9) rfl dX12_isWrap_23 ?_
    refine lv_iload hx hb dX12_isWrap_26 (lv_at hl 0 rfl) ?_
    refine va_iald (D := D) (i := z3) hx hb hK hP 36 35 rfl rfl (i_in (a := z3.toInt) rfl (by first | exact om_6f504b73971b rg_p0.1 rg_p0.2 r1.1 r1.2 hz2 hz3 | first | omega | ((try (have i_wt := Imp.go wt (by omega))); omega))) dX12_isWrap_28 ?_
    have r7 : 0 ≤ ((V 43 (Int32.toNatClampNeg z3))).toInt ∧ ((V 43 (Int32.toNatClampNeg z3))).toInt ≤ 3 := hMV 43 (Int32.toNatClampNeg z3)
    refine lv_iload hx hb dX12_isWrap_29 (lv_at hl 5 rfl) ?_
    refine lv_icmp_ne (tgt := 71) hx hb dX12_isWrap_31 (by decide) (fun c8 => ?_) (fun c8 => ?_)
    · skip
      have f9 : ((V 43 (Int32.toNatClampNeg z3))).toInt ≠ p3.toInt := b_neq rfl rfl c8
      refine lv_iconst (v := 0) hx hb dX12_isWrap_71 (by decide) ?_
      have kn : (nwh V : Int) = (V 0 11).toInt := i_clamp (x := V 0 11) rfl (by (first | exact om_eafa9039069c r1.1 | omega))
      have k0 := i_clamp (x := p0) rfl (by (first | exact om_eafa9039069c rg_p0.1 | omega))
      have k5 : Int32.toNatClampNeg z3 = 12 * nwh V + Int32.toNatClampNeg p0 := by have h9 := i_clamp (x := z3) rfl (by (first | exact om_65569660ecb2 rg_p0.1 hz2 hz3 kn_ | omega)); (first | exact om_4106d378e013 hz2 hz3 kn_ k0_ kn k0 h9 | omega)
      have q40 : V 40 (12 * nwh V + Int32.toNatClampNeg p0) = V 40 (Int32.toNatClampNeg z3) := by rw [k5]
      have q41 : V 41 (12 * nwh V + Int32.toNatClampNeg p0) = V 41 (Int32.toNatClampNeg z3) := by rw [k5]
      have q43 : V 43 (12 * nwh V + Int32.toNatClampNeg p0) = V 43 (Int32.toNatClampNeg z3) := by rw [k5]
      exact W.zret (v := 0) hx hb hr rfl (fun t ht hW => ⟨⟨0, (), rfl, ⟨(by decide), (Imp.mk (fun hp => absurd hp (by decide))), (Imp.mk (fun _ => decide_eq_false (fun h => by have h9 := h.2.1; rw [q43] at h9; have h8 := congrArg Int32.toInt h9; omega)))⟩, by rw [ht]; exact hP, va_K.moved hW.alike hK, hD⟩, hS.F ht⟩) hS.2.2 dX12_isWrap_72
    · skip
      have f10 : ((V 43 (Int32.toNatClampNeg z3))).toInt = p3.toInt := b_eq rfl rfl c8
      refine lv_aload_n hx hb dX12_isWrap_34 rfl (lv_at hl 1 rfl) ?_
      refine va_get (D := D) (ci := 12) (v := .ref (ad 21)) (C := RX12) (T := TX12) (N := 100) hx hb hg inX12 hown hK hP 0 rfl rfl 21 (by decide) (hg _ w1727) (fun _ h9 => h9) rfl dX12_isWrap_35 ?_
      refine lv_bipush (v := 24) hx hb dX12_isWrap_38 (by decide) ?_
      refine lv_bipush (v := 24) hx hb dX12_isWrap_40 (by decide) ?_
      refine lv_aload_n hx hb dX12_isWrap_42 rfl (lv_at hl 1 rfl) ?_
      refine va_get (D := D) (ci := 12) (v := .int (V 0 11)) (C := RX12) (T := TX12) (N := 100) hx hb hg inX12 hown hK hP 0 rfl rfl 11 (by decide) (hg _ w1717) (fun _ h9 => h9) rfl dX12_isWrap_43 ?_
      refine lv_imul hx hb dX12_isWrap_46 ?_
      refine lv_topi (fun z11 ez11 => ?_)
      have hz11 : z11.toInt = 24 * ((V 0 11)).toInt := i_mul ez11 (by decide) rfl (by (first | exact om_3f8aba7b6ce1 r1.1 r1.2 | omega))
      refine lv_aload_n hx hb dX12_isWrap_47 rfl (lv_at hl 1 rfl) ?_
      refine va_get (D := D) (ci := 12) (v := .ref (ad 61)) (C := RX12) (T := TX12) (N := 100) hx hb hg inX12 hown hK hP 0 rfl rfl 61 (by decide) (hg _ w1767) (fun _ h9 => h9) rfl dX12_isWrap_48 ?_
      refine lv_iload_n hx hb dX12_isWrap_51 rfl (lv_at hl 3 rfl) ?_
      refine va_iald (D := D) (i := p1) hx hb hK hP 46 45 rfl rfl (i_in (a := p1.toInt) rfl (by first | exact om_375eda9ff8f1 rg_p1.1 rg_p1.2 | first | omega | ((try (have i_wt := Imp.go wt (by omega))); omega))) dX12_isWrap_52 ?_
      have r12 : 0 ≤ ((V 61 (Int32.toNatClampNeg p1))).toInt ∧ ((V 61 (Int32.toNatClampNeg p1))).toInt ≤ 23 := hMV 61 (Int32.toNatClampNeg p1)
      refine lv_iadd hx hb dX12_isWrap_53 ?_
      refine lv_topi (fun z13 ez13 => ?_)
      have hz13 : z13.toInt = z11.toInt + ((V 61 (Int32.toNatClampNeg p1))).toInt := i_add ez13 rfl rfl (by (first | exact om_2303d3558cdc r1.1 r1.2 hz11 r12.1 r12.2 | omega))
      refine lv_imul hx hb dX12_isWrap_54 ?_
      refine lv_topi (fun z14 ez14 => ?_)
      have hz14 : z14.toInt = 24 * z13.toInt := i_mul ez14 (by decide) rfl (by (first | exact om_8487347ce0c4 r1.1 r1.2 hz11 r12.1 r12.2 hz13 | omega))
      refine lv_aload_n hx hb dX12_isWrap_55 rfl (lv_at hl 1 rfl) ?_
      refine va_get (D := D) (ci := 12) (v := .ref (ad 40)) (C := RX12) (T := TX12) (N := 100) hx hb hg inX12 hown hK hP 0 rfl rfl 40 (by decide) (hg _ w1746) (fun _ h9 => h9) rfl dX12_isWrap_56 ?_
      refine lv_iload hx hb dX12_isWrap_59 (lv_at hl 0 rfl) ?_
      refine va_iald (D := D) (i := z3) hx hb hK hP 33 32 rfl rfl (i_in (a := z3.toInt) rfl (by first | exact om_6f504b73971b rg_p0.1 rg_p0.2 r1.1 r1.2 hz2 hz3 | first | omega | ((try (have i_wt := Imp.go wt (by omega))); omega))) dX12_isWrap_61 ?_
      have r15 : (-1) ≤ ((V 40 (Int32.toNatClampNeg z3))).toInt ∧ ((V 40 (Int32.toNatClampNeg z3))).toInt ≤ 23 := hMV 40 (Int32.toNatClampNeg z3)
      refine lv_iadd hx hb dX12_isWrap_62 ?_
      refine lv_topi (fun z16 ez16 => ?_)
      have hz16 : z16.toInt = z14.toInt + ((V 40 (Int32.toNatClampNeg z3))).toInt := i_add ez16 rfl rfl (by (first | exact om_db97e3e93e0e r1.1 r1.2 wt2 hz11 r12.1 r12.2 hz13 hz14 r15.2 | omega))
      refine va_zald (D := D) (i := z16) hx hb hK hP 14 13 rfl rfl (i_in (a := z16.toInt) rfl (by first | exact om_62f383528da6 r1.1 r1.2 wt2 hz11 r12.1 r12.2 hz13 hz14 r15.2 hz16 | first | omega | ((try (have i_wt := Imp.go wt (by omega))); omega))) dX12_isWrap_63 ?_
      have r17 : 0 ≤ ((V 21 (Int32.toNatClampNeg z16))).toInt ∧ ((V 21 (Int32.toNatClampNeg z16))).toInt ≤ 1 := hMV 21 (Int32.toNatClampNeg z16)
      refine lv_if_eq (tgt := 71) hx hb dX12_isWrap_64 (by decide) (fun c18 => ?_) (fun c18 => ?_)
      · skip
        have f19 : ((V 21 (Int32.toNatClampNeg z16))).toInt = 0 := b_eq rfl (by decide) c18
        refine lv_iconst (v := 0) hx hb dX12_isWrap_71 (by decide) ?_
        have kn : (nwh V : Int) = (V 0 11).toInt := i_clamp (x := V 0 11) rfl (by (first | exact om_eafa9039069c r1.1 | omega))
        have k0 := i_clamp (x := p0) rfl (by (first | exact om_eafa9039069c rg_p0.1 | omega))
        have k5 : Int32.toNatClampNeg z3 = 12 * nwh V + Int32.toNatClampNeg p0 := by have h9 := i_clamp (x := z3) rfl (by (first | exact om_65569660ecb2 rg_p0.1 hz2 hz3 kn_ | omega)); (first | exact om_4106d378e013 hz2 hz3 kn_ k0_ kn k0 h9 | omega)
        have q40 : V 40 (12 * nwh V + Int32.toNatClampNeg p0) = V 40 (Int32.toNatClampNeg z3) := by rw [k5]
        have q41 : V 41 (12 * nwh V + Int32.toNatClampNeg p0) = V 41 (Int32.toNatClampNeg z3) := by rw [k5]
        have q43 : V 43 (12 * nwh V + Int32.toNatClampNeg p0) = V 43 (Int32.toNatClampNeg z3) := by rw [k5]
        have r40 := congrArg Int32.toInt q40
        have r61 : 0 ≤ (V 61 (Int32.toNatClampNeg p1)).toInt ∧ (V 61 (Int32.toNatClampNeg p1)).toInt ≤ 23 := hMV 61 _
        have kx : Int32.toNatClampNeg z16 = 24 * (24 * nwh V + (V 61 (Int32.toNatClampNeg p1)).toInt.toNat) + (V 40 (12 * nwh V + Int32.toNatClampNeg p0)).toInt.toNat := by have h9 := i_clamp (x := z16) rfl (by (first | exact om_7e5b18790823 kn_ wt2 hz11 r12.1 hz13 hz14 hz16 | omega)); omega
        have q21 : (V 21 (24 * (24 * nwh V + (V 61 (Int32.toNatClampNeg p1)).toInt.toNat) + (V 40 (12 * nwh V + Int32.toNatClampNeg p0)).toInt.toNat)).toInt = (V 21 (Int32.toNatClampNeg z16)).toInt := by rw [kx]
        exact W.zret (v := 0) hx hb hr rfl (fun t ht hW => ⟨⟨0, (), rfl, ⟨(by decide), (Imp.mk (fun hp => absurd hp (by decide))), (Imp.mk (fun _ => decide_eq_false (fun h => by have h9 := h.2.2; omega)))⟩, by rw [ht]; exact hP, va_K.moved hW.alike hK, hD⟩, hS.F ht⟩) hS.2.2 dX12_isWrap_72
      · skip
        have f20 : ((V 21 (Int32.toNatClampNeg z16))).toInt ≠ 0 := b_neq rfl (by decide) c18
        refine lv_iconst (v := 1) hx hb dX12_isWrap_67 (by decide) ?_
        refine lv_goto (tgt := 72) hx hb dX12_isWrap_68 (by decide) ?_
        have kn : (nwh V : Int) = (V 0 11).toInt := i_clamp (x := V 0 11) rfl (by (first | exact om_eafa9039069c r1.1 | omega))
        have k0 := i_clamp (x := p0) rfl (by (first | exact om_eafa9039069c rg_p0.1 | omega))
        have k5 : Int32.toNatClampNeg z3 = 12 * nwh V + Int32.toNatClampNeg p0 := by have h9 := i_clamp (x := z3) rfl (by (first | exact om_65569660ecb2 rg_p0.1 hz2 hz3 kn_ | omega)); (first | exact om_4106d378e013 hz2 hz3 kn_ k0_ kn k0 h9 | omega)
        have q40 : V 40 (12 * nwh V + Int32.toNatClampNeg p0) = V 40 (Int32.toNatClampNeg z3) := by rw [k5]
        have q41 : V 41 (12 * nwh V + Int32.toNatClampNeg p0) = V 41 (Int32.toNatClampNeg z3) := by rw [k5]
        have q43 : V 43 (12 * nwh V + Int32.toNatClampNeg p0) = V 43 (Int32.toNatClampNeg z3) := by rw [k5]
        have r40 := congrArg Int32.toInt q40
        have r61 : 0 ≤ (V 61 (Int32.toNatClampNeg p1)).toInt ∧ (V 61 (Int32.toNatClampNeg p1)).toInt ≤ 23 := hMV 61 _
        have kx : Int32.toNatClampNeg z16 = 24 * (24 * nwh V + (V 61 (Int32.toNatClampNeg p1)).toInt.toNat) + (V 40 (12 * nwh V + Int32.toNatClampNeg p0)).toInt.toNat := by have h9 := i_clamp (x := z16) rfl (by (first | exact om_7e5b18790823 kn_ wt2 hz11 r12.1 hz13 hz14 hz16 | omega)); omega
        have q21 : (V 21 (24 * (24 * nwh V + (V 61 (Int32.toNatClampNeg p1)).toInt.toNat) + (V 40 (12 * nwh V + Int32.toNatClampNeg p0)).toInt.toNat)).toInt = (V 21 (Int32.toNatClampNeg z16)).toInt := by rw [kx]
        exact W.zret (v := 1) hx hb hr rfl (fun t ht hW => ⟨⟨1, (), rfl, ⟨(by decide), (Imp.mk (fun _ => decide_eq_true ⟨by rw [q41]; exact Int32.toInt_inj.mp (by omega), by rw [q43]; exact Int32.toInt_inj.mp (by omega), by omega⟩)), (Imp.mk (fun hp => absurd hp (by decide)))⟩, by rw [ht]; exact hP, va_K.moved hW.alike hK, hD⟩, hS.F ht⟩) hS.2.2 dX12_isWrap_72
abbrev r_s_wrapsOf2 : Room := { frames := 1, cells := 0, slots := 0, locals := 25 }
abbrev q_s_wrapsOf2 (D : va_G) (ks : KS) (ad : Nat → Nat) (kk : Nat → ClassId) (V : Vf) (L : Lf) (p0 : Int32) (p1 : Int32) (p2 : Int32) (A : Nat → Prop) : Array Value → State → Outcome → State → Prop := va_Qi (fun (r : Int32) (_ : Unit) => (0 ≤ r.toInt ∧ r.toInt ≤ 12) ∧ (r.toInt = ((wcn (isWb V p0 p1 p2) (wmany V) : Nat) : Int))) (fun _ t => gq D A (mw ad kk ks.1 V L) (mty kk) t) A
set_option maxHeartbeats 4000000 in
set_option maxRecDepth 100000 in
theorem s_wrapsOf2 (l : Launch) (D : va_G) (ks : KS) (sz : Nat) (ad : Nat → Nat) (kk : Nat → ClassId) (V : Vf) (L : Lf) (p0 : Int32) (p1 : Int32) (p2 : Int32) (hMV : rgd bM V) (rg_p0 : 0 ≤ p0.toInt ∧ p0.toInt ≤ 299) (tb : TB V)  : Met l yX12_wrapsOf (Cond.code yX12_wrapsOf cX12_wrapsOf 6 (some .int) :: GW) r_s_wrapsOf2 (va_Pc [.ref (ad 0), .int p0, .int p1, .int p2] (gp D ks (mw ad kk ks.1 V L) (mty kk) sz)) (q_s_wrapsOf2 D ks ad kk V L p0 p1 p2 (va_A (mw ad kk ks.1 V L) sz)) 0 0 (va_A (mw ad kk ks.1 V L) sz) := by
  refine g_met (q_s_wrapsOf2 D ks ad kk V L p0 p1 p2) (by decide) (Nat.le_of_ble_eq_true rfl) ?_
  intro p e s m below meth c A ls H locs hx hb hr hml hown hg hlocks hin hnw hgk hP hK hD hS hA hl
  have hown : s.vm.findClass RX12 = some m.cls := hown
  have hl : lv_has ls 6 [(0, .ref (ad 0)), (1, .int p0), (2, .int p1), (3, .int p2)] := hl
  have hP : va_P D vwCl (mw ad kk ks.1 V L) H := hP
  have hD : va_D A (mw ad kk ks.1 V L) := hD
  have hK : va_K D vwCl (mty kk) s := hK
  have r39h : 0 ≤ (V 39 (Int32.toNatClampNeg (V 0 11))).toInt ∧ (V 39 (Int32.toNatClampNeg (V 0 11))).toInt ≤ 12 := hMV 39 _
  refine lv_iconst (v := 0) hx hb dX12_wrapsOf_0 (by decide) ?_
  refine lv_istore (lv' := [(4, .int 0), (0, .ref (ad 0)), (1, .int p0), (2, .int p1), (3, .int p2)]) hx hb dX12_wrapsOf_1 hl (by decide) rfl (fun ls hl => ?_)
  refine lv_iconst (v := 0) hx hb dX12_wrapsOf_3 (by decide) ?_
  refine lv_istore (lv' := [(5, .int 0), (4, .int 0), (0, .ref (ad 0)), (1, .int p0), (2, .int p1), (3, .int p2)]) hx hb dX12_wrapsOf_4 hl (by decide) rfl (fun ls hl => ?_)
  have lp3 : ∀ (fulp3 : Nat) (y1 : Int32) (y2 : Int32) (H : Heap) (locs : List Loc) (ls : Array Slot), 0 ≤ y1.toInt ∧ y1.toInt ≤ 12 → 0 ≤ y2.toInt ∧ y2.toInt ≤ 12 → y2.toInt ≤ y1.toInt → y1.toInt ≤ (V 39 (Int32.toNatClampNeg (V 0 11))).toInt → y2.toInt = ((wcn (isWb V p0 p1 p2) (Int32.toNatClampNeg y1) : Nat) : Int) → 12 - y1.toInt < (fulp3 : Int) → va_P D vwCl (mw ad kk ks.1 V L) H → va_D A (mw ad kk ks.1 V L) → va_S A s.heap H locs → lv_has ls 6 [(5, .int y1), (4, .int y2), (0, .ref (ad 0)), (1, .int p0), (2, .int p1), (3, .int p2)] → W p l e r_s_wrapsOf2 s m ([.ref (ad 0), .int p0, .int p1, .int p2] : List Value).toArray below meth c H locs 0 0 (MQ below (q_s_wrapsOf2 D ks ad kk V L p0 p1 p2 A) ([.ref (ad 0), .int p0, .int p1, .int p2] : List Value).toArray s 0 0 A) (F0 m 6 ls []) := by
    intro fulp3
    induction fulp3 with
    | zero =>
      intro y1 y2 H locs ls klp3_0 klp3_1 xlp3_0 xlp3_1 xlp3_2 hn  hP hD hS hl
      exfalso; (first | exact om_b9de4c342026 klp3_0.2 hn | omega)
    | succ fulp3 ihlp3 =>
      intro y1 y2 H locs ls klp3_0 klp3_1 xlp3_0 xlp3_1 xlp3_2 hn  hP hD hS hl
      refine lv_iload hx hb dX12_wrapsOf_6 (lv_at hl 0 rfl) ?_
      refine lv_aload_n hx hb dX12_wrapsOf_8 rfl (lv_at hl 2 rfl) ?_
      refine va_get (D := D) (ci := 12) (v := .ref (ad 39)) (C := RX12) (T := TX12) (N := 100) hx hb hg inX12 hown hK hP 0 rfl rfl 39 (by decide) (hg _ w1745) (fun _ h9 => h9) rfl dX12_wrapsOf_9 ?_
      refine lv_aload_n hx hb dX12_wrapsOf_12 rfl (lv_at hl 2 rfl) ?_
      refine va_get (D := D) (ci := 12) (v := .int (V 0 11)) (C := RX12) (T := TX12) (N := 100) hx hb hg inX12 hown hK hP 0 rfl rfl 11 (by decide) (hg _ w1717) (fun _ h9 => h9) rfl dX12_wrapsOf_13 ?_
      have r4 : 0 ≤ ((V 0 11)).toInt ∧ ((V 0 11)).toInt ≤ 1 := hMV 0 11
      refine va_iald (D := D) (i := (V 0 11)) hx hb hK hP 32 31 rfl rfl (i_in (a := ((V 0 11)).toInt) rfl (by first | exact om_8367a84723c7 r4.1 r4.2 | first | omega | ((try (have i_tb := Imp.go tb (by omega))); omega))) dX12_wrapsOf_16 ?_
      have r5 : 0 ≤ ((V 39 (Int32.toNatClampNeg (V 0 11)))).toInt ∧ ((V 39 (Int32.toNatClampNeg (V 0 11)))).toInt ≤ 12 := hMV 39 (Int32.toNatClampNeg (V 0 11))
      refine lv_icmp_ge (tgt := 48) hx hb dX12_wrapsOf_17 (by decide) (fun c6 => ?_) (fun c6 => ?_)
      · skip
        have f7 : ((V 39 (Int32.toNatClampNeg (V 0 11)))).toInt ≤ y1.toInt := b_le rfl rfl c6
        refine lv_iload hx hb dX12_wrapsOf_48 (lv_at hl 1 rfl) ?_
        have kc5 := i_clamp (x := y1) rfl (by (first | exact om_eafa9039069c klp3_0.1 | omega))
        have r39 : 0 ≤ (V 39 (nwh V)).toInt := (hMV 39 _).1
        have e39 : (V 39 (nwh V)).toInt = (V 39 (Int32.toNatClampNeg (V 0 11))).toInt := rfl
        have kw : wmany V = Int32.toNatClampNeg y1 := by unfold wmany; omega
        exact W.iret (v := y2) hx hb hr (fun t ht hW => ⟨⟨y2, (), rfl, ⟨(show 0 ≤ y2.toInt ∧ y2.toInt ≤ 12 from by first | exact om_a66a4f3d1604 klp3_0.2 klp3_1.1 xlp3_0 | first | omega | ((try (have i_tb := Imp.go tb (by omega))); omega)), (by rw [kw]; exact xlp3_2)⟩, by rw [ht]; exact hP, va_K.moved hW.alike hK, hD⟩, hS.F ht⟩) hS.2.2 dX12_wrapsOf_50
      · skip
        have f8 : y1.toInt < ((V 39 (Int32.toNatClampNeg (V 0 11)))).toInt := b_nle rfl rfl c6
        refine lv_iload hx hb dX12_wrapsOf_20 (lv_at hl 1 rfl) ?_
        refine lv_aload_n hx hb dX12_wrapsOf_22 rfl (lv_at hl 2 rfl) ?_
        refine lv_iload hx hb dX12_wrapsOf_23 (lv_at hl 0 rfl) ?_
        refine lv_iload_n hx hb dX12_wrapsOf_25 rfl (lv_at hl 3 rfl) ?_
        refine lv_iload_n hx hb dX12_wrapsOf_26 rfl (lv_at hl 4 rfl) ?_
        refine lv_iload_n hx hb dX12_wrapsOf_27 rfl (lv_at hl 5 rfl) ?_
        have kw9 := i_clamp (x := y1) rfl (by (first | exact om_12cf676bc652 klp3_1.1 xlp3_0 | omega))
        have e39 : (V 39 (nwh V)).toInt = (V 39 (Int32.toNatClampNeg (V 0 11))).toInt := rfl
        refine gA_int (gA_runV (As := [.int y1, .int p0, .int p1, .int p2]) (rest := [.int y2]) (ci := 12) (q0 := 0) hx hb hml hown hg hP hD hK hS hA hnw hgk (s_isWrap2 l D ks H.size ad kk V L y1 p0 p1 p2 hMV (by first | exact om_1ad90c7041d3 r39h.2 klp3_0.1 f8 | first | omega | ((try (have i_tb := Imp.go tb (by omega))); omega)) (by first | exact om_cb67e99158ac rg_p0.1 rg_p0.2 | first | omega | ((try (have i_tb := Imp.go tb (by omega))); omega)) ((show TBL V (nwh V) _ from tb).2 (Int32.toNatClampNeg y1) (by omega)).2.2) w2288 w2290 w141 w172 w2291 rfl rfl hdV_yX12_isWrap ⟨Nat.le_of_ble_eq_true rfl, Nat.le_of_ble_eq_true rfl⟩ rfl hl.1 rfl (Nat.le_of_ble_eq_true rfl) dX12_wrapsOf_28 ⟨Nat.le_of_ble_eq_true rfl, Nat.le_of_ble_eq_true rfl⟩) hP hD hK hS hA (fun z10 u11 H locs w12 hP hD hK hS => ?_)
        obtain ⟨rgz10, t13, t14⟩ := w12
        have rgz10 : 0 ≤ z10.toInt ∧ z10.toInt ≤ 1 := rgz10
        have t13 : Imp (z10.toInt = 1) (isWb V p0 p1 p2 (Int32.toNatClampNeg y1) = true) := t13
        have t14 : Imp (z10.toInt = 0) (isWb V p0 p1 p2 (Int32.toNatClampNeg y1) = false) := t14
        refine lv_if_eq (tgt := 38) hx hb dX12_wrapsOf_31 (by decide) (fun c15 => ?_) (fun c15 => ?_)
        · skip
          have f16 : z10.toInt = 0 := b_eq rfl (by decide) c15
          refine lv_iconst (v := 0) hx hb dX12_wrapsOf_38 (by decide) ?_
          refine lv_iadd hx hb dX12_wrapsOf_39 ?_
          refine lv_topi (fun z17 ez17 => ?_)
          have hz17 : z17.toInt = y2.toInt + 0 := i_add ez17 rfl (by decide) (by (first | exact om_051d4a9b5095 r39h.2 klp3_1.1 xlp3_0 f8 | omega))
          refine lv_istore (lv' := [(4, .int z17), (5, .int y1), (0, .ref (ad 0)), (1, .int p0), (2, .int p1), (3, .int p2)]) hx hb dX12_wrapsOf_40 hl (by decide) rfl (fun ls hl => ?_)
          obtain ⟨z18, ez18⟩ : ∃ y : Int32, y = y1 + 1 := ⟨_, rfl⟩
          have hz18 : z18.toInt = y1.toInt + 1 := i_add ez18 rfl (by decide) (by (first | exact om_18aaedfb7f0e r39h.2 klp3_0.1 f8 | omega))
          refine lv_iinc (v := z18) (lv' := [(5, .int z18), (4, .int z17), (0, .ref (ad 0)), (1, .int p0), (2, .int p1), (3, .int p2)]) hx hb dX12_wrapsOf_42 hl (k := 1) rfl (by rw [ez18]; rfl) (by decide) rfl (fun ls hl => ?_)
          refine lv_goto (tgt := 6) hx hb dX12_wrapsOf_45 (by decide) ?_
          have kc5 := i_clamp (x := y1) rfl (by (first | exact om_eafa9039069c klp3_0.1 | omega))
          have kc6 : Int32.toNatClampNeg z18 = Int32.toNatClampNeg y1 + 1 := by have h9 := i_clamp (x := z18) rfl (by (first | exact om_1a8c13602466 kw9 hz18 | omega)); (first | exact om_53eba9d5f07d kw9 hz18 kc5 h9 | omega)
          have ws := wcn_s (isWb V p0 p1 p2) (Int32.toNatClampNeg y1)
          rw [if_neg (by rw [Imp.go t14 (by omega)]; decide)] at ws
          exact ihlp3 z18 z17 H locs ls (by first | exact om_5c55627118e7 r39h.2 f8 kw9 hz18 | first | omega | ((try (have i_tb := Imp.go tb (by omega))); omega)) (by first | exact om_10e36f4137c8 r39h.2 klp3_1.1 xlp3_0 f8 hz17 | first | omega | ((try (have i_tb := Imp.go tb (by omega))); omega)) (show z17.toInt ≤ z18.toInt from by first | exact om_ccfa9b02440b xlp3_0 hz17 hz18 | first | omega | ((try (have i_tb := Imp.go tb (by omega))); omega)) (show z18.toInt ≤ (V 39 (Int32.toNatClampNeg (V 0 11))).toInt from by first | exact om_7fe9249fc074 f8 hz18 | first | omega | ((try (have i_tb := Imp.go tb (by omega))); omega)) (by rw [kc6, ws]; omega) (by first | exact om_95514e7aa9e9 hn hz18 | first | omega | ((try (have i_tb := Imp.go tb (by omega))); omega)) hP hD hS (lv_sub hl [0, 1, 2, 3, 4, 5] rfl)
        · skip
          have f19 : z10.toInt ≠ 0 := b_neq rfl (by decide) c15
          refine lv_iconst (v := 1) hx hb dX12_wrapsOf_34 (by decide) ?_
          refine lv_goto (tgt := 39) hx hb dX12_wrapsOf_35 (by decide) ?_
          refine lv_iadd hx hb dX12_wrapsOf_39 ?_
          refine lv_topi (fun z20 ez20 => ?_)
          have hz20 : z20.toInt = y2.toInt + 1 := i_add ez20 rfl (by decide) (by (first | exact om_047f8a1f1ea5 r39h.2 klp3_1.1 xlp3_0 f8 | omega))
          refine lv_istore (lv' := [(4, .int z20), (5, .int y1), (0, .ref (ad 0)), (1, .int p0), (2, .int p1), (3, .int p2)]) hx hb dX12_wrapsOf_40 hl (by decide) rfl (fun ls hl => ?_)
          obtain ⟨z21, ez21⟩ : ∃ y : Int32, y = y1 + 1 := ⟨_, rfl⟩
          have hz21 : z21.toInt = y1.toInt + 1 := i_add ez21 rfl (by decide) (by (first | exact om_18aaedfb7f0e r39h.2 klp3_0.1 f8 | omega))
          refine lv_iinc (v := z21) (lv' := [(5, .int z21), (4, .int z20), (0, .ref (ad 0)), (1, .int p0), (2, .int p1), (3, .int p2)]) hx hb dX12_wrapsOf_42 hl (k := 1) rfl (by rw [ez21]; rfl) (by decide) rfl (fun ls hl => ?_)
          refine lv_goto (tgt := 6) hx hb dX12_wrapsOf_45 (by decide) ?_
          have kc5 := i_clamp (x := y1) rfl (by (first | exact om_eafa9039069c klp3_0.1 | omega))
          have kc6 : Int32.toNatClampNeg z21 = Int32.toNatClampNeg y1 + 1 := by have h9 := i_clamp (x := z21) rfl (by (first | exact om_1a8c13602466 kw9 hz21 | omega)); (first | exact om_53eba9d5f07d kw9 hz21 kc5 h9 | omega)
          have ws := wcn_s (isWb V p0 p1 p2) (Int32.toNatClampNeg y1)
          rw [if_pos (Imp.go t13 (by (first | exact om_2ebe32d50835 rgz10.1 rgz10.2 f19 | omega)))] at ws
          exact ihlp3 z21 z20 H locs ls (by first | exact om_5c55627118e7 r39h.2 f8 kw9 hz21 | first | omega | ((try (have i_tb := Imp.go tb (by omega))); omega)) (by first | exact om_33e1ed8d0efb r39h.2 klp3_1.1 xlp3_0 f8 hz20 | first | omega | ((try (have i_tb := Imp.go tb (by omega))); omega)) (show z20.toInt ≤ z21.toInt from by first | exact om_953ed16b636a xlp3_0 hz20 hz21 | first | omega | ((try (have i_tb := Imp.go tb (by omega))); omega)) (show z21.toInt ≤ (V 39 (Int32.toNatClampNeg (V 0 11))).toInt from by first | exact om_7fe9249fc074 f8 hz21 | first | omega | ((try (have i_tb := Imp.go tb (by omega))); omega)) (by rw [kc6, ws]; omega) (by first | exact om_95514e7aa9e9 hn hz21 | first | omega | ((try (have i_tb := Imp.go tb (by omega))); omega)) hP hD hS (lv_sub hl [0, 1, 2, 3, 4, 5] rfl)
  have r22 : Int32.toInt 0 = 0 := by decide
  exact lp3 ((12 - (Int32.toInt 0) + 1 : Int).toNat) 0 0 H locs ls (by decide) (by decide) (show (Int32.toInt 0) ≤ (Int32.toInt 0) from by first | exact om_5977f3d8a10f | first | omega | ((try (have i_tb := Imp.go tb (by omega))); omega)) (show (Int32.toInt 0) ≤ (V 39 (Int32.toNatClampNeg (V 0 11))).toInt from by first | exact om_6f9bb8cf3bec r39h.1 r22 | first | omega | ((try (have i_tb := Imp.go tb (by omega))); omega)) (show (Int32.toInt 0) = ((wcn (isWb V p0 p1 p2) (Int32.toNatClampNeg 0) : Nat) : Int) from rfl) (by first | exact om_10cc180fa1f4 | first | omega | ((try (have i_tb := Imp.go tb (by omega))); omega)) hP hD hS (lv_sub hl [0, 1, 2, 3, 4, 5] rfl)
abbrev r_s_wrapAt2 : Room := { frames := 1, cells := 0, slots := 0, locals := 25 }
abbrev q_s_wrapAt2 (D : va_G) (ks : KS) (ad : Nat → Nat) (kk : Nat → ClassId) (V : Vf) (L : Lf) (p0 : Int32) (p1 : Int32) (p2 : Int32) (p3 : Int32) (A : Nat → Prop) : Array Value → State → Outcome → State → Prop := va_Qi (fun (r : Int32) (_ : Unit) => ((-1) ≤ r.toInt ∧ r.toInt ≤ 11) ∧ (Imp (0 ≤ r.toInt) (r.toInt < (V 39 (nwh V)).toInt ∧ isWb V p1 p2 p3 (Int32.toNatClampNeg r) = true ∧ p0.toInt < ((wcn (isWb V p1 p2 p3) (wmany V) : Nat) : Int))) ∧ (Imp (r.toInt = -1) (((wcn (isWb V p1 p2 p3) (wmany V) : Nat) : Int) ≤ p0.toInt))) (fun _ t => gq D A (mw ad kk ks.1 V L) (mty kk) t) A
end
section
/-! what a call keeps (RT), and what it leaves of what was there (FRM; e: the object whose joins are being laid, or none) -/
abbrev rK2 (F L : Nat) : Room := { frames := F, cells := 0, slots := 0, locals := L }
def RT (V : Vf) : Prop := TB V ∧ (th V (cd0 V) ∨ ∀ c j : Nat, th V c → ¬ ndL V c j) ∧ (∀ o : Nat, (o : Int) < (V 0 60).toInt → th V (Int32.toNatClampNeg (V 61 o))) ∧ (∀ o k i : Nat, (o : Int) < (V 0 60).toInt → k < 8 → (i : Int) < (V 66 (8 * o + k)).toInt → (V 67 (24 * (8 * o + k) + i)).toInt < (V 0 60).toInt) ∧ (∀ i : Nat, (i : Int) < (V 0 95).toInt → (V 94 i).toInt < (V 0 60).toInt ∧ 1 ≤ (V 63 (Int32.toNatClampNeg (V 94 i))).toInt)
def FRM (V W : Vf) (e : Int) : Prop := (V 0 60).toInt ≤ (W 0 60).toInt ∧ (∀ o : Nat, (o : Int) < (V 0 60).toInt → W 61 o = V 61 o ∧ W 62 o = V 62 o ∧ ((V 63 o).toInt = 0 → (W 63 o).toInt = 0) ∧ (1 ≤ (V 63 o).toInt → (V 63 o).toInt ≤ (W 63 o).toInt)) ∧ (∀ o k : Nat, (o : Int) < (V 0 60).toInt → (o : Int) ≠ e → k < 8 → (V 29 (8 * (24 * nwh V + Int32.toNatClampNeg (V 61 o)) + k)).toInt ≠ 1 → W 66 (8 * o + k) = V 66 (8 * o + k)) ∧ (∀ i : Nat, (i : Int) < (V 0 95).toInt → W 94 i = V 94 i)
/-- none of the cells of what is made was written -/
def rtC (fs : List (Nat × Nat)) (cs : List Nat) : Prop := thC fs cs ∧ (∀ y ∈ fs, y.1 = 0) ∧ (∀ y ∈ cs, trk y = false) ∧ wrL fs cs 0 60 = false ∧ wrL fs cs 0 95 = false ∧ (∀ k, wrL fs cs 61 k = false) ∧ (∀ k, wrL fs cs 62 k = false) ∧ (∀ k, wrL fs cs 63 k = false) ∧ (∀ k, wrL fs cs 66 k = false) ∧ (∀ k, wrL fs cs 67 k = false) ∧ (∀ k, wrL fs cs 94 k = false)
theorem RT.ag {fs : List (Nat × Nat)} {cs : List Nat} {V W : Vf} (h : RT V) (hM : rgd bM V) (a : agr fs cs V W) (q : rtC fs cs) (c0 : c0k V W) : RT W := by
  obtain ⟨q1, q2, q3, q60, q95, q61, q62, q63, q66, q67, q94⟩ := q
  refine ⟨TB.ag h.1 hM a q1.1 q2 q3, RD_st h.2.1 a q1 c0, ?_, ?_, ?_⟩
  · intro o ho
    rw [a 0 60 q60] at ho
    rw [a _ _ (q61 o)]
    exact (h.2.2.1 o ho).ag a q1
  · intro o k i ho hk hi
    rw [a 0 60 q60] at ho ⊢
    rw [a _ _ (q66 _)] at hi
    rw [a _ _ (q67 _)]
    exact h.2.2.2.1 o k i ho hk hi
  · intro i hi
    rw [a 0 95 q95] at hi
    rw [a _ _ (q94 i), a 0 60 q60, a _ _ (q63 _)]
    exact h.2.2.2.2 i hi
theorem FRM.rf {V : Vf} {e : Int} : FRM V V e := ⟨Int.le_refl _, fun _ _ => ⟨rfl, rfl, id, fun _ => Int.le_refl _⟩, fun _ _ _ _ _ _ => rfl, fun _ _ => rfl⟩
theorem FRM.ag {fs : List (Nat × Nat)} {cs : List Nat} {V W : Vf} {e : Int} (a : agr fs cs V W) (q : rtC fs cs) : FRM V W e := by
  obtain ⟨q1, q2, q3, q60, q95, q61, q62, q63, q66, q67, q94⟩ := q
  refine ⟨by rw [a 0 60 q60]; exact Int.le_refl _, fun o _ => ⟨a _ _ (q61 o), a _ _ (q62 o), fun h => by rw [a _ _ (q63 o)]; exact h, fun h => by rw [a _ _ (q63 o)]; exact Int.le_refl _⟩, fun o k _ _ _ _ => a _ _ (q66 _), fun i _ => a _ _ (q94 i)⟩
theorem FRM.tr {fs : List (Nat × Nat)} {cs : List Nat} {V W X : Vf} {e : Int} (h1 : FRM V W e) (h2 : FRM W X e) (a : agr fs cs V W) (q : thC fs cs) (hf : (V 0 95).toInt ≤ (W 0 95).toInt) : FRM V X e := by
  have en : nwh W = nwh V := by unfold nwh; rw [a 0 11 q.1]
  refine ⟨Int.le_trans h1.1 h2.1, fun o ho => ?_, fun o k ho he hk hl => ?_, fun i hi => ?_⟩
  · have b1 := h1.2.1 o ho
    have b2 := h2.2.1 o (by have := h1.1; omega)
    refine ⟨b2.1.trans b1.1, b2.2.1.trans b1.2.1, fun h => b2.2.2.1 (b1.2.2.1 h), fun h => ?_⟩
    have c1 := b1.2.2.2 h
    have c2 := b2.2.2.2 (by omega)
    omega
  · have b1 := h1.2.2.1 o k ho he hk hl
    have b2 := h2.2.2.1 o k (by have := h1.1; omega) he hk (by rw [en, (h1.2.1 o ho).1, a _ _ (q.2.2.2.2.2.2 _)]; exact hl)
    exact b2.trans b1
  · exact (h2.2.2.2 i (by omega)).trans (h1.2.2.2 i hi)
theorem FRM.weak {V W : Vf} {e : Int} (h : FRM V W (-1)) : FRM V W e := ⟨h.1, h.2.1, fun o k ho _ hk hl => h.2.2.1 o k ho (by omega) hk hl, h.2.2.2⟩
/-- an object's state is raised -/
theorem RT.state {V W : Vf} {k : Nat} {v : Int32} (h : RT V) (hM : rgd bM V) (e : W = up2 V 63 k v) (hv : 1 ≤ v.toInt) : RT W := by
  have a : agr [] [63] V W := agr.up agr.rf e rfl
  have q : thC [] [63] := ⟨rfl, fun _ => rfl, fun _ => rfl, fun _ => rfl, fun _ => rfl, fun _ => rfl, fun _ => rfl⟩
  refine ⟨TB.ag h.1 hM a rfl (by decide) (by decide), RD_st h.2.1 a q (c0k.ag a rfl), ?_, ?_, ?_⟩
  · intro o ho
    rw [a 0 60 rfl] at ho
    rw [a 61 _ rfl]
    exact (h.2.2.1 o ho).ag a q
  · intro o k i ho hk hi
    rw [a 0 60 rfl] at ho ⊢
    rw [a 66 _ rfl] at hi
    rw [a 67 _ rfl]
    exact h.2.2.2.1 o k i ho hk hi
  · intro i hi
    rw [a 0 95 rfl] at hi
    rw [a 94 _ rfl, a 0 60 rfl]
    have b := h.2.2.2.2 i hi
    refine ⟨b.1, ?_⟩
    by_cases hk : Int32.toNatClampNeg (V 94 i) = k
    · rw [hk, up2_s e]
      exact hv
    · rw [up2_k e hk]
      exact b.2
theorem FRM.state {V W : Vf} {k : Nat} {v : Int32} {x : Int} (e : W = up2 V 63 k v) (h0 : (V 0 60).toInt ≤ (k : Int) ∨ (1 ≤ (V 63 k).toInt ∧ (V 63 k).toInt ≤ v.toInt)) : FRM V W x := by
  have a : agr [] [63] V W := agr.up agr.rf e rfl
  refine ⟨by rw [a 0 60 rfl]; exact Int.le_refl _, fun o ho => ⟨a 61 _ rfl, a 62 _ rfl, ?_, ?_⟩, fun _ _ _ _ _ _ => a 66 _ rfl, fun _ _ => a 94 _ rfl⟩
  · intro h
    by_cases hk : o = k
    · subst hk
      omega
    · rw [up2_k e hk]
      exact h
  · intro h
    by_cases hk : o = k
    · subst hk
      rw [up2_s e]
      omega
    · rw [up2_k e hk]
      exact Int.le_refl _
/-- fewer fresh ones -/
theorem RT.fewer {V W : Vf} {v : Int32} (h : RT V) (hM : rgd bM V) (e : W = up2 V 0 95 v) (hv : v.toInt ≤ (V 0 95).toInt) : RT W := by
  have a : agr [(0, 95)] [] V W := agr.up agr.rf e rfl
  have q : thC [(0, 95)] [] := ⟨rfl, fun _ => rfl, fun _ => rfl, fun _ => rfl, fun _ => rfl, fun _ => rfl, fun _ => rfl⟩
  refine ⟨TB.ag h.1 hM a rfl (by decide) (by decide), RD_st h.2.1 a q (c0k.ag a rfl), ?_, ?_, ?_⟩
  · intro o ho
    rw [a 0 60 rfl] at ho
    rw [a 61 _ rfl]
    exact (h.2.2.1 o ho).ag a q
  · intro o k i ho hk hi
    rw [a 0 60 rfl] at ho ⊢
    rw [a 66 _ rfl] at hi
    rw [a 67 _ rfl]
    exact h.2.2.2.1 o k i ho hk hi
  · intro i hi
    rw [up2_s e] at hi
    rw [a 94 _ rfl, a 0 60 rfl, a 63 _ rfl]
    exact h.2.2.2.2 i (by omega)
/-- one fresh one more -/
theorem RT.more {V V1 W : Vf} {k : Nat} {o v : Int32} (h : RT V) (hM : rgd bM V) (e1 : V1 = up2 V 94 k o) (e2 : W = up2 V1 0 95 v) (hk : (k : Int) = (V 0 95).toInt) (hv : v.toInt = (V 0 95).toInt + 1) (ho : 0 ≤ o.toInt ∧ o.toInt < (V 0 60).toInt) (hs : 1 ≤ (V 63 (Int32.toNatClampNeg o)).toInt) : RT W := by
  have a : agr [(0, 95)] [94] V W := agr.up (agr.up agr.rf e1 rfl) e2 rfl
  have q : thC [(0, 95)] [94] := ⟨rfl, fun _ => rfl, fun _ => rfl, fun _ => rfl, fun _ => rfl, fun _ => rfl, fun _ => rfl⟩
  refine ⟨TB.ag h.1 hM a rfl (by decide) (by decide), RD_st h.2.1 a q (c0k.ag a rfl), ?_, ?_, ?_⟩
  · intro o ho
    rw [a 0 60 rfl] at ho
    rw [a 61 _ rfl]
    exact (h.2.2.1 o ho).ag a q
  · intro o k i ho hk hi
    rw [a 0 60 rfl] at ho ⊢
    rw [a 66 _ rfl] at hi
    rw [a 67 _ rfl]
    exact h.2.2.2.1 o k i ho hk hi
  · intro i hi
    rw [up2_s e2] at hi
    have e94 : W 94 i = V1 94 i := up2_o e2 (by decide)
    rw [e94, a 0 60 rfl, a 63 _ rfl]
    by_cases hik : i = k
    · rw [hik, up2_s e1]
      exact ⟨ho.2, hs⟩
    · rw [up2_k e1 hik]
      exact h.2.2.2.2 i (by omega)
/-- a join is laid: who, then how many -/
theorem RT.join {V V1 W : Vf} {o k : Nat} {g v : Int32} (h : RT V) (hM : rgd bM V) {p r : Nat} (e1 : V1 = up2 V 67 p g) (e2 : W = up2 V1 66 r v) (hr : r = 8 * o + k) (hp : (p : Int) = 24 * (8 * (o : Int) + k) + (V 66 (8 * o + k)).toInt) (hk : k < 8) (hv : v.toInt = (V 66 (8 * o + k)).toInt + 1) (h24 : (V 66 (8 * o + k)).toInt ≤ 23) (hg : g.toInt < (V 0 60).toInt) : RT W := by
  have a : agr [] [66, 67] V W := agr.up (agr.up agr.rf e1 rfl) e2 rfl
  have q : thC [] [66, 67] := ⟨rfl, fun _ => rfl, fun _ => rfl, fun _ => rfl, fun _ => rfl, fun _ => rfl, fun _ => rfl⟩
  have h0 : 0 ≤ (V 66 (8 * o + k)).toInt := (hM 66 _).1
  refine ⟨TB.ag h.1 hM a rfl (by decide) (by decide), RD_st h.2.1 a q (c0k.ag a rfl), ?_, ?_, ?_⟩
  · intro o ho
    rw [a 0 60 rfl] at ho
    rw [a 61 _ rfl]
    exact (h.2.2.1 o ho).ag a q
  · intro o' k' i ho hk' hi
    rw [a 0 60 rfl] at ho ⊢
    have e67 : W 67 (24 * (8 * o' + k') + i) = V1 67 (24 * (8 * o' + k') + i) := up2_o e2 (by decide)
    rw [e67]
    by_cases hj : 8 * o' + k' = r
    · rw [hj, up2_s e2] at hi
      by_cases hi2 : 24 * (8 * o' + k') + i = p
      · rw [hi2, up2_s e1]
        exact hg
      · rw [up2_k e1 hi2]
        have e3 : 8 * o' + k' = 8 * o + k := by omega
        exact h.2.2.2.1 o' k' i ho hk' (by rw [e3]; omega)
    · have e66 : W 66 (8 * o' + k') = V 66 (8 * o' + k') := (up2_k e2 hj).trans (up2_o e1 (by decide))
      rw [e66] at hi
      have hb : (V 66 (8 * o' + k')).toInt ≤ 24 := (hM 66 _).2
      rw [up2_k e1 (by omega)]
      exact h.2.2.2.1 o' k' i ho hk' hi
  · intro i hi
    rw [a 0 95 rfl] at hi
    rw [a 94 _ rfl, a 0 60 rfl, a 63 _ rfl]
    exact h.2.2.2.2 i hi
theorem FRM.join {V V1 W : Vf} {o k : Nat} {g v : Int32} {x : Int} {p r : Nat} (e1 : V1 = up2 V 67 p g) (e2 : W = up2 V1 66 r v) (hr : r = 8 * o + k) (hk : k < 8) (hx : (o : Int) = x ∨ (V 29 (8 * (24 * nwh V + Int32.toNatClampNeg (V 61 o)) + k)).toInt = 1) : FRM V W x := by
  have a : agr [] [66, 67] V W := agr.up (agr.up agr.rf e1 rfl) e2 rfl
  refine ⟨by rw [a 0 60 rfl]; exact Int.le_refl _, fun o ho => ⟨a 61 _ rfl, a 62 _ rfl, fun h => by rw [a 63 _ rfl]; exact h, fun h => by rw [a 63 _ rfl]; exact Int.le_refl _⟩, fun o' k' ho he hk' hl => ?_, fun _ _ => a 94 _ rfl⟩
  by_cases hj : 8 * o' + k' = r
  · have e3 : o' = o := by omega
    have e4 : k' = k := by omega
    subst e3
    subst e4
    rcases hx with hx | hx
    · exact absurd hx he
    · exact absurd hx hl
  · exact (up2_k e2 hj).trans (up2_o e1 (by decide))
/-- a new object -/
theorem RT.new {V W : Vf} {o : Nat} (h : RT V) (hM : rgd bM V) (a : agr [(0, 60)] [61, 62, 63, 66] V W) (h60 : (W 0 60).toInt = (V 0 60).toInt + 1) (ho : (o : Int) = (V 0 60).toInt) (f61 : ∀ x, x ≠ o → W 61 x = V 61 x) (n61 : th V (Int32.toNatClampNeg (W 61 o))) (f63 : ∀ x, x ≠ o → W 63 x = V 63 x) (f66 : ∀ x, x < 8 * o ∨ 8 * o + 8 ≤ x → W 66 x = V 66 x) (n66 : ∀ k, k < 8 → (W 66 (8 * o + k)).toInt = 0) : RT W := by
  have q : thC [(0, 60)] [61, 62, 63, 66] := ⟨rfl, fun _ => rfl, fun _ => rfl, fun _ => rfl, fun _ => rfl, fun _ => rfl, fun _ => rfl⟩
  refine ⟨TB.ag h.1 hM a rfl (by decide) (by decide), RD_st h.2.1 a q (c0k.ag a rfl), ?_, ?_, ?_⟩
  · intro x hx
    by_cases e : x = o
    · rw [e]
      exact n61.ag a q
    · rw [f61 x e]
      exact (h.2.2.1 x (by omega)).ag a q
  · intro x k i hx hk hi
    by_cases e : x = o
    · rw [e, n66 k hk] at hi
      omega
    · rw [f66 _ (by omega)] at hi
      have e67 : W 67 (24 * (8 * x + k) + i) = V 67 (24 * (8 * x + k) + i) := a 67 _ rfl
      rw [e67]
      have := h.2.2.2.1 x k i (by omega) hk hi
      omega
  · intro i hi
    rw [a 0 95 rfl] at hi
    rw [a 94 _ rfl]
    have b := h.2.2.2.2 i hi
    have b0 : 0 ≤ (V 94 i).toInt := (hM 94 i).1
    have bc := i_clamp (x := V 94 i) rfl b0
    rw [f63 _ (by omega)]
    exact ⟨by omega, b.2⟩
theorem FRM.new {V W : Vf} {o : Nat} {x : Int} (a : agr [(0, 60)] [61, 62, 63, 66] V W) (h60 : (W 0 60).toInt = (V 0 60).toInt + 1) (ho : (o : Int) = (V 0 60).toInt) (f61 : ∀ x, x ≠ o → W 61 x = V 61 x) (f62 : ∀ x, x ≠ o → W 62 x = V 62 x) (f63 : ∀ x, x ≠ o → W 63 x = V 63 x) (f66 : ∀ x, x < 8 * o ∨ 8 * o + 8 ≤ x → W 66 x = V 66 x) : FRM V W x :=
  ⟨by omega, fun y hy => ⟨f61 y (by omega), f62 y (by omega), fun h => by rw [f63 y (by omega)]; exact h, fun h => by rw [f63 y (by omega)]; exact Int.le_refl _⟩, fun y k hy _ hk _ => f66 _ (by omega), fun _ _ => a 94 _ rfl⟩

theorem w2283 : Cond.code yX12_arounds cX12_arounds 7 (some .int) ∈ GW := gw_k tk9_9 208 (rfl) rfl
theorem w2280 : Cond.methodLink RX12 523 yX12_arounds ∈ GW := gw_k tk9_9 205 (by decide +kernel) rfl
theorem w2282 : Cond.instanceMethod yX12_arounds ∈ GW := gw_k tk9_9 207 (by decide +kernel) rfl
theorem w139 : Cond.selects RX12 yX12_arounds yX12_arounds ∈ GW := gw_mem 139 (by decide +kernel) rfl
theorem hdV_yX12_arounds : yX12_arounds.cls = RX12 ∧ yX12_arounds.cls ≠ "java/lang/invoke/MethodHandle" ∧ yX12_arounds.cls ≠ "java/lang/invoke/VarHandle" ∧ (parseMethodDescriptor yX12_arounds.desc).map (fun d => d.parameters.length) = some 5 := by decide +kernel
theorem w2323 : Cond.code yX12_failings cX12_failings 11 (some .int) ∈ GW := gw_k tk9_10 8 (rfl) rfl
theorem w2320 : Cond.methodLink RX12 526 yX12_failings ∈ GW := gw_k tk9_10 5 (by decide +kernel) rfl
theorem w2322 : Cond.instanceMethod yX12_failings ∈ GW := gw_k tk9_10 7 (by decide +kernel) rfl
theorem w149 : Cond.selects RX12 yX12_failings yX12_failings ∈ GW := gw_mem 149 (by decide +kernel) rfl
theorem hdV_yX12_failings : yX12_failings.cls = RX12 ∧ yX12_failings.cls ≠ "java/lang/invoke/MethodHandle" ∧ yX12_failings.cls ≠ "java/lang/invoke/VarHandle" ∧ (parseMethodDescriptor yX12_failings.desc).map (fun d => d.parameters.length) = some 3 := by decide +kernel
theorem dk9_dX12_calls_0_0 : dOk cX12_calls [(0, .aload_n 0, 1), (1, .invokevirtual 497, 3), (4, .ifCond .ne 5, 3), (9, .aload_n 0, 1), (10, .getfield 520, 3), (13, .bipush 10, 2), (15, .if_icmp .ne 10, 3), (25, .aload_n 0, 1), (26, .getfield 170, 3), (29, .iload_n 1, 1), (30, .iaload, 1), (31, .iconst 2, 1), (32, .if_icmp .ne 10, 3), (42, .aload_n 0, 1), (43, .dup, 1), (44, .getfield 520, 3), (47, .iconst 1, 1), (48, .iadd, 1), (49, .putfield 520, 3), (52, .aload_n 0, 1), (53, .iconst 0, 1), (54, .iload_n 1, 1), (55, .iload_n 2, 1), (56, .iload_n 3, 1)] = true ∧ dOk cX12_calls [(57, .iload 4, 2), (59, .invokevirtual 523, 3), (62, .istore 5, 2), (64, .iload 5, 2), (66, .iconst 1, 1), (67, .if_icmp .ne 12, 3), (79, .aload_n 0, 1), (80, .dup, 1), (81, .getfield 520, 3), (84, .iconst 1, 1), (85, .isub, 1), (86, .putfield 520, 3), (89, .iload 5, 2), (91, .ireturn, 1), (70, .aload_n 0, 1), (71, .iload_n 1, 1), (72, .iload_n 2, 1), (73, .iload_n 3, 1), (74, .invokevirtual 526, 3), (77, .istore 5, 2), (35, .aload_n 0, 1), (36, .bipush 17, 2), (38, .invokevirtual 484, 3), (41, .ireturn, 1)] = true ∧ dOk cX12_calls [(18, .aload_n 0, 1), (19, .bipush 13, 2), (21, .invokevirtual 484, 3), (24, .ireturn, 1), (7, .iconst 2, 1), (8, .ireturn, 1)] = true := by decide +kernel
theorem dX12_calls_0 : decode cX12_calls 0 = .ok (.aload_n 0, 1) := dr9 dk9_dX12_calls_0_0.1 0 (0, .aload_n 0, 1) rfl
theorem dX12_calls_1 : decode cX12_calls 1 = .ok (.invokevirtual 497, 3) := dr9 dk9_dX12_calls_0_0.1 1 (1, .invokevirtual 497, 3) rfl
theorem dX12_calls_4 : decode cX12_calls 4 = .ok (.ifCond .ne 5, 3) := dr9 dk9_dX12_calls_0_0.1 2 (4, .ifCond .ne 5, 3) rfl
theorem dX12_calls_9 : decode cX12_calls 9 = .ok (.aload_n 0, 1) := dr9 dk9_dX12_calls_0_0.1 3 (9, .aload_n 0, 1) rfl
theorem dX12_calls_10 : decode cX12_calls 10 = .ok (.getfield 520, 3) := dr9 dk9_dX12_calls_0_0.1 4 (10, .getfield 520, 3) rfl
theorem dX12_calls_13 : decode cX12_calls 13 = .ok (.bipush 10, 2) := dr9 dk9_dX12_calls_0_0.1 5 (13, .bipush 10, 2) rfl
theorem dX12_calls_15 : decode cX12_calls 15 = .ok (.if_icmp .ne 10, 3) := dr9 dk9_dX12_calls_0_0.1 6 (15, .if_icmp .ne 10, 3) rfl
theorem dX12_calls_25 : decode cX12_calls 25 = .ok (.aload_n 0, 1) := dr9 dk9_dX12_calls_0_0.1 7 (25, .aload_n 0, 1) rfl
theorem dX12_calls_26 : decode cX12_calls 26 = .ok (.getfield 170, 3) := dr9 dk9_dX12_calls_0_0.1 8 (26, .getfield 170, 3) rfl
theorem dX12_calls_29 : decode cX12_calls 29 = .ok (.iload_n 1, 1) := dr9 dk9_dX12_calls_0_0.1 9 (29, .iload_n 1, 1) rfl
theorem dX12_calls_30 : decode cX12_calls 30 = .ok (.iaload, 1) := dr9 dk9_dX12_calls_0_0.1 10 (30, .iaload, 1) rfl
theorem dX12_calls_31 : decode cX12_calls 31 = .ok (.iconst 2, 1) := dr9 dk9_dX12_calls_0_0.1 11 (31, .iconst 2, 1) rfl
theorem dX12_calls_32 : decode cX12_calls 32 = .ok (.if_icmp .ne 10, 3) := dr9 dk9_dX12_calls_0_0.1 12 (32, .if_icmp .ne 10, 3) rfl
theorem dX12_calls_42 : decode cX12_calls 42 = .ok (.aload_n 0, 1) := dr9 dk9_dX12_calls_0_0.1 13 (42, .aload_n 0, 1) rfl
theorem dX12_calls_43 : decode cX12_calls 43 = .ok (.dup, 1) := dr9 dk9_dX12_calls_0_0.1 14 (43, .dup, 1) rfl
theorem dX12_calls_44 : decode cX12_calls 44 = .ok (.getfield 520, 3) := dr9 dk9_dX12_calls_0_0.1 15 (44, .getfield 520, 3) rfl
theorem dX12_calls_47 : decode cX12_calls 47 = .ok (.iconst 1, 1) := dr9 dk9_dX12_calls_0_0.1 16 (47, .iconst 1, 1) rfl
theorem dX12_calls_48 : decode cX12_calls 48 = .ok (.iadd, 1) := dr9 dk9_dX12_calls_0_0.1 17 (48, .iadd, 1) rfl
theorem dX12_calls_49 : decode cX12_calls 49 = .ok (.putfield 520, 3) := dr9 dk9_dX12_calls_0_0.1 18 (49, .putfield 520, 3) rfl
theorem dX12_calls_52 : decode cX12_calls 52 = .ok (.aload_n 0, 1) := dr9 dk9_dX12_calls_0_0.1 19 (52, .aload_n 0, 1) rfl
theorem dX12_calls_53 : decode cX12_calls 53 = .ok (.iconst 0, 1) := dr9 dk9_dX12_calls_0_0.1 20 (53, .iconst 0, 1) rfl
theorem dX12_calls_54 : decode cX12_calls 54 = .ok (.iload_n 1, 1) := dr9 dk9_dX12_calls_0_0.1 21 (54, .iload_n 1, 1) rfl
theorem dX12_calls_55 : decode cX12_calls 55 = .ok (.iload_n 2, 1) := dr9 dk9_dX12_calls_0_0.1 22 (55, .iload_n 2, 1) rfl
theorem dX12_calls_56 : decode cX12_calls 56 = .ok (.iload_n 3, 1) := dr9 dk9_dX12_calls_0_0.1 23 (56, .iload_n 3, 1) rfl
theorem dX12_calls_57 : decode cX12_calls 57 = .ok (.iload 4, 2) := dr9 dk9_dX12_calls_0_0.2.1 0 (57, .iload 4, 2) rfl
theorem dX12_calls_59 : decode cX12_calls 59 = .ok (.invokevirtual 523, 3) := dr9 dk9_dX12_calls_0_0.2.1 1 (59, .invokevirtual 523, 3) rfl
theorem dX12_calls_62 : decode cX12_calls 62 = .ok (.istore 5, 2) := dr9 dk9_dX12_calls_0_0.2.1 2 (62, .istore 5, 2) rfl
theorem dX12_calls_64 : decode cX12_calls 64 = .ok (.iload 5, 2) := dr9 dk9_dX12_calls_0_0.2.1 3 (64, .iload 5, 2) rfl
theorem dX12_calls_66 : decode cX12_calls 66 = .ok (.iconst 1, 1) := dr9 dk9_dX12_calls_0_0.2.1 4 (66, .iconst 1, 1) rfl
theorem dX12_calls_67 : decode cX12_calls 67 = .ok (.if_icmp .ne 12, 3) := dr9 dk9_dX12_calls_0_0.2.1 5 (67, .if_icmp .ne 12, 3) rfl
theorem dX12_calls_79 : decode cX12_calls 79 = .ok (.aload_n 0, 1) := dr9 dk9_dX12_calls_0_0.2.1 6 (79, .aload_n 0, 1) rfl
theorem dX12_calls_80 : decode cX12_calls 80 = .ok (.dup, 1) := dr9 dk9_dX12_calls_0_0.2.1 7 (80, .dup, 1) rfl
theorem dX12_calls_81 : decode cX12_calls 81 = .ok (.getfield 520, 3) := dr9 dk9_dX12_calls_0_0.2.1 8 (81, .getfield 520, 3) rfl
theorem dX12_calls_84 : decode cX12_calls 84 = .ok (.iconst 1, 1) := dr9 dk9_dX12_calls_0_0.2.1 9 (84, .iconst 1, 1) rfl
theorem dX12_calls_85 : decode cX12_calls 85 = .ok (.isub, 1) := dr9 dk9_dX12_calls_0_0.2.1 10 (85, .isub, 1) rfl
theorem dX12_calls_86 : decode cX12_calls 86 = .ok (.putfield 520, 3) := dr9 dk9_dX12_calls_0_0.2.1 11 (86, .putfield 520, 3) rfl
theorem dX12_calls_89 : decode cX12_calls 89 = .ok (.iload 5, 2) := dr9 dk9_dX12_calls_0_0.2.1 12 (89, .iload 5, 2) rfl
theorem dX12_calls_91 : decode cX12_calls 91 = .ok (.ireturn, 1) := dr9 dk9_dX12_calls_0_0.2.1 13 (91, .ireturn, 1) rfl
theorem dX12_calls_70 : decode cX12_calls 70 = .ok (.aload_n 0, 1) := dr9 dk9_dX12_calls_0_0.2.1 14 (70, .aload_n 0, 1) rfl
theorem dX12_calls_71 : decode cX12_calls 71 = .ok (.iload_n 1, 1) := dr9 dk9_dX12_calls_0_0.2.1 15 (71, .iload_n 1, 1) rfl
theorem dX12_calls_72 : decode cX12_calls 72 = .ok (.iload_n 2, 1) := dr9 dk9_dX12_calls_0_0.2.1 16 (72, .iload_n 2, 1) rfl
theorem dX12_calls_73 : decode cX12_calls 73 = .ok (.iload_n 3, 1) := dr9 dk9_dX12_calls_0_0.2.1 17 (73, .iload_n 3, 1) rfl
theorem dX12_calls_74 : decode cX12_calls 74 = .ok (.invokevirtual 526, 3) := dr9 dk9_dX12_calls_0_0.2.1 18 (74, .invokevirtual 526, 3) rfl
theorem dX12_calls_77 : decode cX12_calls 77 = .ok (.istore 5, 2) := dr9 dk9_dX12_calls_0_0.2.1 19 (77, .istore 5, 2) rfl
theorem dX12_calls_35 : decode cX12_calls 35 = .ok (.aload_n 0, 1) := dr9 dk9_dX12_calls_0_0.2.1 20 (35, .aload_n 0, 1) rfl
theorem dX12_calls_36 : decode cX12_calls 36 = .ok (.bipush 17, 2) := dr9 dk9_dX12_calls_0_0.2.1 21 (36, .bipush 17, 2) rfl
theorem dX12_calls_38 : decode cX12_calls 38 = .ok (.invokevirtual 484, 3) := dr9 dk9_dX12_calls_0_0.2.1 22 (38, .invokevirtual 484, 3) rfl
theorem dX12_calls_41 : decode cX12_calls 41 = .ok (.ireturn, 1) := dr9 dk9_dX12_calls_0_0.2.1 23 (41, .ireturn, 1) rfl
theorem dX12_calls_18 : decode cX12_calls 18 = .ok (.aload_n 0, 1) := dr9 dk9_dX12_calls_0_0.2.2 0 (18, .aload_n 0, 1) rfl
theorem dX12_calls_19 : decode cX12_calls 19 = .ok (.bipush 13, 2) := dr9 dk9_dX12_calls_0_0.2.2 1 (19, .bipush 13, 2) rfl
theorem dX12_calls_21 : decode cX12_calls 21 = .ok (.invokevirtual 484, 3) := dr9 dk9_dX12_calls_0_0.2.2 2 (21, .invokevirtual 484, 3) rfl
theorem dX12_calls_24 : decode cX12_calls 24 = .ok (.ireturn, 1) := dr9 dk9_dX12_calls_0_0.2.2 3 (24, .ireturn, 1) rfl
theorem dX12_calls_7 : decode cX12_calls 7 = .ok (.iconst 2, 1) := dr9 dk9_dX12_calls_0_0.2.2 4 (7, .iconst 2, 1) rfl
theorem dX12_calls_8 : decode cX12_calls 8 = .ok (.ireturn, 1) := dr9 dk9_dX12_calls_0_0.2.2 5 (8, .ireturn, 1) rfl
abbrev q_s_calls (D : va_G) (ks : KS) (ad : Nat → Nat) (kk : Nat → ClassId) (V : Vf) (L : Lf) (p0 : Int32) (p1 : Int32) (p2 : Int32) (p3 : Int32) (A : Nat → Prop) : Array Value → State → Outcome → State → Prop := va_Qi (fun (r : Int32) (u : Vf × Lf) => rgd bM u.1 ∧ agr [(0, 60), (0, 65), (0, 68), (0, 69), (0, 73), (0, 76), (0, 90), (0, 91), (0, 92), (0, 93), (0, 95), (0, 96), (0, 98)] [59, 61, 62, 63, 64, 66, 67, 74, 75, 77, 78, 79, 80, 94, 97] V u.1 ∧ u.2 = L ∧ (0 ≤ r.toInt ∧ r.toInt ≤ 2) ∧ ((u.1 0 93).toInt = (V 0 93).toInt) ∧ ((u.1 0 98).toInt = (V 0 98).toInt) ∧ ((V 0 60).toInt ≤ (u.1 0 60).toInt) ∧ ((V 0 65).toInt ≤ (u.1 0 65).toInt) ∧ ((u.1 0 65).toInt - (V 0 65).toInt ≤ (u.1 0 60).toInt - (V 0 60).toInt) ∧ ((u.1 0 73).toInt + (u.1 0 95).toInt - (u.1 0 65).toInt ≤ (V 0 73).toInt + (V 0 95).toInt - (V 0 65).toInt) ∧ ((V 0 73).toInt ≤ (u.1 0 73).toInt) ∧ ((V 0 69).toInt ≤ (u.1 0 69).toInt) ∧ ((u.1 0 95).toInt = (V 0 95).toInt) ∧ ((u.1 0 76).toInt - (u.1 0 69).toInt - (u.1 0 73).toInt ≤ (V 0 76).toInt - (V 0 69).toInt - (V 0 73).toInt) ∧ (RT u.1) ∧ (FRM V u.1 (-1))) (fun u t => gq D A (mw ad kk ks.1 u.1 u.2) (mty kk) t) A
def K_s_calls (l : Launch) (D : va_G) (ks : KS) (d1 d2 : Nat) : Prop := ∀ (sz : Nat) (ad : Nat → Nat) (kk : Nat → ClassId) (V : Vf) (L : Lf) (p0 : Int32) (p1 : Int32) (p2 : Int32) (p3 : Int32) (hMV : rgd bM V) (rg_p0 : 0 ≤ p0.toInt ∧ p0.toInt ≤ 299) (rg_p1 : 0 ≤ p1.toInt ∧ p1.toInt ≤ 19) (rg_p2 : 0 ≤ p2.toInt ∧ p2.toInt ≤ 39) (rt : RT V) (n1 : (V 0 65).toInt ≤ (V 0 60).toInt) (n2 : (V 0 95).toInt ≤ (V 0 65).toInt) (n3 : (V 0 73).toInt + (V 0 95).toInt - (V 0 65).toInt ≤ 999000) (n4 : (V 0 76).toInt - (V 0 69).toInt - (V 0 73).toInt ≤ 1000000000) (n5 : 300 - (V 0 60).toInt ≤ (d1 : Int)) (n6 : 10 - (V 0 93).toInt ≤ (d2 : Int)) (oq1 : p0.toInt < (V 0 60).toInt) (n7 : (V 0 98).toInt + 400 * (d2 : Int) ≤ 19000) , Met l yX12_calls (Cond.code yX12_calls cX12_calls 6 (some .int) :: GW) (rK2 (4 * d1 + 40 * d2 + 8) (100 * d1 + 1000 * d2 + 320)) (va_Pc [.ref (ad 0), .int p0, .int p1, .int p2, .int p3] (gp D ks (mw ad kk ks.1 V L) (mty kk) sz)) (q_s_calls D ks ad kk V L p0 p1 p2 p3 (va_A (mw ad kk ks.1 V L) sz)) 0 0 (va_A (mw ad kk ks.1 V L) sz)
abbrev q_s_arounds (D : va_G) (ks : KS) (ad : Nat → Nat) (kk : Nat → ClassId) (V : Vf) (L : Lf) (p0 : Int32) (p1 : Int32) (p2 : Int32) (p3 : Int32) (p4 : Int32) (A : Nat → Prop) : Array Value → State → Outcome → State → Prop := va_Qi (fun (r : Int32) (u : Vf × Lf) => rgd bM u.1 ∧ agr [(0, 60), (0, 65), (0, 68), (0, 69), (0, 73), (0, 76), (0, 90), (0, 91), (0, 92), (0, 93), (0, 95), (0, 96), (0, 98)] [59, 61, 62, 63, 64, 66, 67, 74, 75, 77, 78, 79, 80, 94, 97] V u.1 ∧ u.2 = L ∧ (0 ≤ r.toInt ∧ r.toInt ≤ 2) ∧ ((u.1 0 93).toInt = (V 0 93).toInt) ∧ ((u.1 0 98).toInt = (V 0 98).toInt) ∧ ((V 0 60).toInt ≤ (u.1 0 60).toInt) ∧ ((V 0 65).toInt ≤ (u.1 0 65).toInt) ∧ ((u.1 0 65).toInt - (V 0 65).toInt ≤ (u.1 0 60).toInt - (V 0 60).toInt) ∧ ((u.1 0 73).toInt + (u.1 0 95).toInt - (u.1 0 65).toInt ≤ (V 0 73).toInt + (V 0 95).toInt - (V 0 65).toInt) ∧ ((V 0 73).toInt ≤ (u.1 0 73).toInt) ∧ ((V 0 69).toInt ≤ (u.1 0 69).toInt) ∧ ((u.1 0 95).toInt = (V 0 95).toInt) ∧ ((u.1 0 76).toInt - (u.1 0 69).toInt - (u.1 0 73).toInt ≤ (V 0 76).toInt - (V 0 69).toInt - (V 0 73).toInt + 1) ∧ (Imp (r.toInt ≠ 2) ((u.1 0 76).toInt - (u.1 0 69).toInt - (u.1 0 73).toInt ≤ (V 0 76).toInt - (V 0 69).toInt - (V 0 73).toInt)) ∧ (RT u.1) ∧ (FRM V u.1 (-1))) (fun u t => gq D A (mw ad kk ks.1 u.1 u.2) (mty kk) t) A
def K_s_arounds (l : Launch) (D : va_G) (ks : KS) (d1 d2 d3 : Nat) : Prop := ∀ (sz : Nat) (ad : Nat → Nat) (kk : Nat → ClassId) (V : Vf) (L : Lf) (p0 : Int32) (p1 : Int32) (p2 : Int32) (p3 : Int32) (p4 : Int32) (hMV : rgd bM V) (rg_p0 : 0 ≤ p0.toInt ∧ p0.toInt ≤ 12) (rg_p1 : 0 ≤ p1.toInt ∧ p1.toInt ≤ 299) (rg_p2 : 0 ≤ p2.toInt ∧ p2.toInt ≤ 19) (rg_p3 : 0 ≤ p3.toInt ∧ p3.toInt ≤ 39) (rt : RT V) (n1 : (V 0 65).toInt ≤ (V 0 60).toInt) (n2 : (V 0 95).toInt ≤ (V 0 65).toInt) (n3 : (V 0 73).toInt + (V 0 95).toInt - (V 0 65).toInt ≤ 999000) (n4 : (V 0 76).toInt - (V 0 69).toInt - (V 0 73).toInt ≤ 1000000000) (n5 : 300 - (V 0 60).toInt ≤ (d1 : Int)) (n6 : 10 - (V 0 93).toInt ≤ (d2 : Int)) (oq1 : p1.toInt < (V 0 60).toInt) (n7 : (V 0 98).toInt + 400 * (d2 : Int) + 30 * (13 - p0.toInt) ≤ 19000) (n8 : 12 - p0.toInt ≤ (d3 : Int)) , Met l yX12_arounds (Cond.code yX12_arounds cX12_arounds 7 (some .int) :: GW) (rK2 (4 * d1 + 40 * d2 + 14 + 2 * d3) (100 * d1 + 1000 * d2 + 560 + 60 * d3)) (va_Pc [.ref (ad 0), .int p0, .int p1, .int p2, .int p3, .int p4] (gp D ks (mw ad kk ks.1 V L) (mty kk) sz)) (q_s_arounds D ks ad kk V L p0 p1 p2 p3 p4 (va_A (mw ad kk ks.1 V L) sz)) 0 0 (va_A (mw ad kk ks.1 V L) sz)
abbrev q_s_failings (D : va_G) (ks : KS) (ad : Nat → Nat) (kk : Nat → ClassId) (V : Vf) (L : Lf) (p0 : Int32) (p1 : Int32) (p2 : Int32) (A : Nat → Prop) : Array Value → State → Outcome → State → Prop := va_Qi (fun (r : Int32) (u : Vf × Lf) => rgd bM u.1 ∧ agr [(0, 60), (0, 65), (0, 68), (0, 69), (0, 73), (0, 76), (0, 90), (0, 91), (0, 92), (0, 93), (0, 95), (0, 96), (0, 98)] [59, 61, 62, 63, 64, 66, 67, 74, 75, 77, 78, 79, 80, 94, 97] V u.1 ∧ u.2 = L ∧ (0 ≤ r.toInt ∧ r.toInt ≤ 2) ∧ ((u.1 0 93).toInt = (V 0 93).toInt) ∧ ((u.1 0 98).toInt = (V 0 98).toInt) ∧ ((V 0 60).toInt ≤ (u.1 0 60).toInt) ∧ ((V 0 65).toInt ≤ (u.1 0 65).toInt) ∧ ((u.1 0 65).toInt - (V 0 65).toInt ≤ (u.1 0 60).toInt - (V 0 60).toInt) ∧ ((u.1 0 73).toInt + (u.1 0 95).toInt - (u.1 0 65).toInt ≤ (V 0 73).toInt + (V 0 95).toInt - (V 0 65).toInt) ∧ ((V 0 73).toInt ≤ (u.1 0 73).toInt) ∧ ((V 0 69).toInt ≤ (u.1 0 69).toInt) ∧ ((u.1 0 95).toInt = (V 0 95).toInt) ∧ ((u.1 0 76).toInt - (u.1 0 69).toInt - (u.1 0 73).toInt ≤ (V 0 76).toInt - (V 0 69).toInt - (V 0 73).toInt + 1) ∧ (Imp (r.toInt ≠ 2) ((u.1 0 76).toInt - (u.1 0 69).toInt - (u.1 0 73).toInt ≤ (V 0 76).toInt - (V 0 69).toInt - (V 0 73).toInt)) ∧ (RT u.1) ∧ (FRM V u.1 (-1))) (fun u t => gq D A (mw ad kk ks.1 u.1 u.2) (mty kk) t) A
def K_s_failings (l : Launch) (D : va_G) (ks : KS) (d1 d2 : Nat) : Prop := ∀ (sz : Nat) (ad : Nat → Nat) (kk : Nat → ClassId) (V : Vf) (L : Lf) (p0 : Int32) (p1 : Int32) (p2 : Int32) (hMV : rgd bM V) (rg_p0 : 0 ≤ p0.toInt ∧ p0.toInt ≤ 299) (rg_p1 : 0 ≤ p1.toInt ∧ p1.toInt ≤ 19) (rg_p2 : 0 ≤ p2.toInt ∧ p2.toInt ≤ 39) (rt : RT V) (n1 : (V 0 65).toInt ≤ (V 0 60).toInt) (n2 : (V 0 95).toInt ≤ (V 0 65).toInt) (n3 : (V 0 73).toInt + (V 0 95).toInt - (V 0 65).toInt ≤ 999000) (n4 : (V 0 76).toInt - (V 0 69).toInt - (V 0 73).toInt ≤ 1000000000) (n5 : 300 - (V 0 60).toInt ≤ (d1 : Int)) (n6 : 10 - (V 0 93).toInt ≤ (d2 : Int)) (oq1 : p0.toInt < (V 0 60).toInt) (n7 : (V 0 98).toInt + 400 * (d2 : Int) + 30 ≤ 19000) , Met l yX12_failings (Cond.code yX12_failings cX12_failings 11 (some .int) :: GW) (rK2 (4 * d1 + 40 * d2 + 13) (100 * d1 + 1000 * d2 + 500)) (va_Pc [.ref (ad 0), .int p0, .int p1, .int p2] (gp D ks (mw ad kk ks.1 V L) (mty kk) sz)) (q_s_failings D ks ad kk V L p0 p1 p2 (va_A (mw ad kk ks.1 V L) sz)) 0 0 (va_A (mw ad kk ks.1 V L) sz)
end
