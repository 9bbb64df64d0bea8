/-! what the other calls leave of RT0 -/
theorem RTt.ag {fs : List (Nat × Nat)} {cs : List Nat} {V W : Vf} (h : RTt V) (a : agr fs cs V W) (q1 : thC fs cs) (q60 : wrL fs cs 0 60 = false) (q61 : ∀ k, wrL fs cs 61 k = false) (q66 : ∀ k, wrL fs cs 66 k = false) (q67 : ∀ k, wrL fs cs 67 k = false) (f : (W 0 95).toInt = 0) : RTt W := by
  refine ⟨?_, ?_, ?_⟩
  · intro o ho
    rw [a 0 60 q60] at ho
    rw [a _ _ (q61 o)]
    exact (h.1 o ho).ag a q1
  · intro o k i ho hk hi
    rw [a 0 60 q60] at ho ⊢
    rw [a _ _ (q66 _)] at hi
    rw [a _ _ (q67 _)]
    exact h.2.1 o k i ho hk hi
  · intro i hi
    omega
/-- check -/
theorem RT0.chk {fs : List (Nat × Nat)} {cs : List Nat} {V W : Vf} (h : RT0 V) (hM : rgd bM V) (a : agr fs cs V W) (q1 : thC fs cs) (q2 : ∀ y ∈ fs, y.1 = 0) (q3 : ∀ y ∈ cs, trk y = false) (q60 : wrL fs cs 0 60 = false) (q95 : wrL fs cs 0 95 = false) (q61 : ∀ k, wrL fs cs 61 k = false) (q66 : ∀ k, wrL fs cs 66 k = false) (q67 : ∀ k, wrL fs cs 67 k = false) (rd : RD W) (ry : (V 0 54).toInt = 1 → (W 0 54).toInt = 1) : RT0 W := by
  have f : (W 0 95).toInt = 0 := by rw [a 0 95 q95]; exact h.2.2.2.2
  refine ⟨TB.ag h.1 hM a q1.1 q2 q3, rd, ?_, h.2.2.2.1.ag a q1 q60 q61 q66 q67 f, f⟩
  rcases h.2.2.1 with r | r
  · exact Or.inl (ry r)
  · right
    rw [a 0 60 q60]
    exact r
/-- none is there -/
theorem RT0.none {W : Vf} (t : TB W) (r : (W 0 54).toInt = 0) (o : (W 0 60).toInt = 0) (f : (W 0 95).toInt = 0) : RT0 W :=
  ⟨t, fun h => absurd h (by omega), Or.inr o, RTt.z o f, f⟩
def t18 (x : Nat) : Nat × Nat := match x with
  | 18 => (0, 24)
  | _ => (0, 0)
/-- setting, ahead of READY -/
theorem RT0.set {V W : Vf} {k : Nat} {v : Int32} (h : RT0 V) (hM : rgd bM V) (n : (V 0 54).toInt = 0) (e : W = up2 V 18 k v) : RT0 W := by
  have a : agr [] [18] V W := agr.up agr.rf e rfl
  have fr18 : fr (fun x => if x = 18 then (0, k + 1) else (0, 0)) V W := by
    intro x j _ hj
    by_cases hx : x = 18
    · subst hx
      have hj2 : j < 0 ∨ k + 1 ≤ j := hj
      exact up2_k e (by omega)
    · exact up2_o e hx
  have en : nwh W = nwh V := by unfold nwh; rw [a 0 11 rfl]
  have t : TB W := by
    unfold TB
    have e2 : Int32.toNatClampNeg (W 0 11) = Int32.toNatClampNeg (V 0 11) := by rw [a 0 11 rfl]
    rw [e2]
    exact TBL.keep h.1 hM fr18 (Nat.le_refl _) rfl rfl rfl rfl rfl rfl rfl rfl rfl rfl rfl rfl rfl rfl rfl
  refine RT0.none t (by rw [a 0 54 rfl]; exact n) ?_ (by rw [a 0 95 rfl]; exact h.2.2.2.2)
  rw [a 0 60 rfl]
  rcases h.2.2.1 with r | r
  · omega
  · exact r
theorem fr.sy {R : Nat → Nat × Nat} {V W : Vf} (h : fr R V W) : fr R W V := fun x k a b => (h x k a b).symm
theorem th_fr {V W : Vf} {nx c : Nat} (f : fr (tH nx) V W) (e : W 0 11 = V 0 11) (hn : nwh V ≠ nx) (hM : rgd bM V) (h : th V c) : th W c := by
  have en : nwh W = nwh V := by unfold nwh; rw [e]
  have r19 : (V 19 (nwh V)).toInt ≤ 24 := (hM 19 _).2
  have hc : c < 24 := by have := h.1; omega
  have r25 : (V 25 (24 * nwh V + c)).toInt ≤ 11 := (hM 25 _).2
  have e19 : W 19 (nwh V) = V 19 (nwh V) := f 19 _ rfl (by show nwh V < nx ∨ nx + 1 ≤ nwh V; omega)
  have e25 : W 25 (24 * nwh V + c) = V 25 (24 * nwh V + c) := f 25 _ rfl (by show 24 * nwh V + c < 24 * nx ∨ 24 * nx + 24 ≤ 24 * nwh V + c; omega)
  have e26 : W 26 (24 * nwh V + c) = V 26 (24 * nwh V + c) := f 26 _ rfl (by show 24 * nwh V + c < 24 * nx ∨ 24 * nx + 24 ≤ 24 * nwh V + c; omega)
  have e18 : W 18 (12 * nwh V + (V 25 (24 * nwh V + c)).toInt.toNat) = V 18 (12 * nwh V + (V 25 (24 * nwh V + c)).toInt.toNat) := f 18 _ rfl (by show 12 * nwh V + (V 25 (24 * nwh V + c)).toInt.toNat < 12 * nx ∨ 12 * nx + 12 ≤ 12 * nwh V + (V 25 (24 * nwh V + c)).toInt.toNat; omega)
  unfold th
  rw [en, e19, e25, e26, e18]
  exact h
theorem ndL_fr {V W : Vf} {nx c k : Nat} (f : fr (tH nx) V W) (e : W 0 11 = V 0 11) (hn : nwh V ≠ nx) (hM : rgd bM V) (hc : c < 24) (h : ndL V c k) : ndL W c k := by
  have en : nwh W = nwh V := by unfold nwh; rw [e]
  have r27 : (V 27 (24 * nwh V + c)).toInt ≤ 8 := (hM 27 _).2
  have hk : k < 8 := by have := h.1; omega
  have e27 : W 27 (24 * nwh V + c) = V 27 (24 * nwh V + c) := f 27 _ rfl (by show 24 * nwh V + c < 24 * nx ∨ 24 * nx + 24 ≤ 24 * nwh V + c; omega)
  have e29 : W 29 (8 * (24 * nwh V + c) + k) = V 29 (8 * (24 * nwh V + c) + k) := f 29 _ rfl (by show 8 * (24 * nwh V + c) + k < 192 * nx ∨ 192 * nx + 192 ≤ 8 * (24 * nwh V + c) + k; omega)
  unfold ndL
  rw [en, e27, e29]
  exact h
/-- book, where it fails -/
theorem RT0.bkf {fs : List (Nat × Nat)} {cs : List Nat} {V W : Vf} {nx : Nat} (h : RT0 V) (hM : rgd bM V) (hW : rgd bM W) (a : agr fs cs V W) (f : fr (tH nx) V W) (hn : nwh V ≠ nx) (t : TB W) (q11 : wrL fs cs 0 11 = false) (q54 : wrL fs cs 0 54 = false) (q60 : wrL fs cs 0 60 = false) (q95 : wrL fs cs 0 95 = false) (q80 : wrL fs cs 80 0 = false) (q61 : ∀ k, wrL fs cs 61 k = false) (q66 : ∀ k, wrL fs cs 66 k = false) (q67 : ∀ k, wrL fs cs 67 k = false) : RT0 W := by
  have e11 := a 0 11 q11
  have en : nwh W = nwh V := by unfold nwh; rw [e11]
  have f0 : (W 0 95).toInt = 0 := by rw [a 0 95 q95]; exact h.2.2.2.2
  refine ⟨t, ?_, ?_, ⟨?_, ?_, ?_⟩, f0⟩
  · intro r
    rw [a 0 54 q54] at r
    have ec : cd0 W = cd0 V := by unfold cd0; rw [a 80 0 q80]
    rcases h.2.1 r with g | g
    · left
      rw [ec]
      exact th_fr f e11 hn hM g
    · right
      intro c j hc hj
      have hc2 : th V c := th_fr f.sy e11.symm (by rw [en]; exact hn) hW hc
      have r19 : (V 19 (nwh V)).toInt ≤ 24 := (hM 19 _).2
      have := hc2.1
      exact g c j hc2 (ndL_fr f.sy e11.symm (by rw [en]; exact hn) hW (by omega) hj)
  · rw [a 0 54 q54, a 0 60 q60]
    exact h.2.2.1
  · intro o ho
    rw [a 0 60 q60] at ho
    rw [a _ _ (q61 o)]
    exact th_fr f e11 hn hM (h.2.2.2.1.1 o ho)
  · intro o k i ho hk hi
    rw [a 0 60 q60] at ho ⊢
    rw [a _ _ (q66 _)] at hi
    rw [a _ _ (q67 _)]
    exact h.2.2.2.1.2.1 o k i ho hk hi
  · intro i hi
    omega
/-- what holds between the calls, the n-th call being next -/
def TI (V : Vf) (n : Nat) : Prop := RT0 V ∧ (V 0 65).toInt ≤ (V 0 60).toInt ∧ (V 0 73).toInt - (V 0 65).toInt ≤ 300 * (n : Int) ∧ (V 0 76).toInt - (V 0 69).toInt - (V 0 73).toInt ≤ 3000 * (n : Int)
theorem TI.ag {fs : List (Nat × Nat)} {cs : List Nat} {V W : Vf} {n : Nat} (h : TI V n) (r : RT0 W) (a : agr fs cs V W) (q1 : wrL fs cs 0 65 = false) (q2 : wrL fs cs 0 60 = false) (q3 : wrL fs cs 0 73 = false) (q4 : wrL fs cs 0 76 = false) (q5 : wrL fs cs 0 69 = false) : TI W (n + 1) := by
  unfold TI
  rw [a _ _ q1, a _ _ q2, a _ _ q3, a _ _ q4, a _ _ q5]
  have b := h.2
  refine ⟨r, ?_, ?_, ?_⟩ <;> omega
theorem TI.pu {V : Vf} {n : Nat} (h : TI V n) : TI V (n + 1) := by
  have b := h.2
  refine ⟨h.1, ?_, ?_, ?_⟩ <;> omega


abbrev r_s_candidate2 : Room := { frames := 3, cells := 0, slots := 0, locals := 69 }
abbrev q_s_candidate2 (D : va_G) (ks : KS) (ad : Nat → Nat) (kk : Nat → ClassId) (V : Vf) (L : Lf) (p0 : Int32) (p1 : Int32) (p2 : Int32) (A : Nat → Prop) : Array Value → State → Outcome → State → Prop := va_Qi (fun (r : Int32) (u : Vf × Lf) => rgd bM u.1 ∧ agr [(0, 0)] [80] V u.1 ∧ u.2 = L ∧ (RT0 u.1)) (fun u t => gq D A (mw ad kk ks.1 u.1 u.2) (mty kk) t) A
set_option maxHeartbeats 4000000 in
set_option maxRecDepth 100000 in
theorem s_candidate2 (l : Launch) (D : va_G) (ks : KS) (sz : Nat) (ad : Nat → Nat) (kk : Nat → ClassId) (V : Vf) (L : Lf) (p0 : Int32) (p1 : Int32) (p2 : Int32) (hMV : rgd bM V) (r0 : RT0 V)  : Met l yX12_candidate (Cond.code yX12_candidate cX12_candidate 4 (some .int) :: GW) r_s_candidate2 (va_Pc [.ref (ad 0), .int p0, .int p1, .int p2] (gp D ks (mw ad kk ks.1 V L) (mty kk) sz)) (q_s_candidate2 D ks ad kk V L p0 p1 p2 (va_A (mw ad kk ks.1 V L) sz)) 0 0 (va_A (mw ad kk ks.1 V L) sz) := by
  refine g_met (q_s_candidate2 D ks ad kk V L p0 p1 p2) (by decide) (Nat.le_of_ble_eq_true rfl) ?_
  intro p e s m below meth c A ls H locs hx hb hr hml hown hg hlocks hin hnw hgk hP hK hD hS hA hl
  have hown : s.vm.findClass RX12 = some m.cls := hown
  have hl : lv_has ls 4 [(0, .ref (ad 0)), (1, .int p0), (2, .int p1), (3, .int p2)] := hl
  have hP : va_P D vwCl (mw ad kk ks.1 V L) H := hP
  have hD : va_D A (mw ad kk ks.1 V L) := hD
  have hK : va_K D vwCl (mty kk) s := hK
  have agV : agr [(0, 0)] [80] V V := agr.rf
  refine lv_aload_n hx hb dX12_candidate_0 rfl (lv_at hl 0 rfl) ?_
  refine lv_iconst (v := 0) hx hb dX12_candidate_1 (by decide) ?_
  refine va_put (D := D) (ci := 12) (v := .int 0) (ty := tyX12 0) (C := RX12) (T := TX12) (N := 100) hx hb hg inX12 tyX12 tyX12_ok nmX12 hown hK hP hD hS 0 rfl rfl 0 (by decide) (hg _ w1706) (fun _ h9 => h9) rfl (tyX12_ok 0 (by decide)) rfl rfl (Nat.le_of_ble_eq_true rfl) dX12_candidate_2 (fun H locs hP hD hS => ?_)
  obtain ⟨V1, hV1⟩ : ∃ z, z = up2 V 0 0 0 := ⟨_, rfl⟩
  have hP : va_P D vwCl (mw ad kk ks.1 V1 L) H := by rw [hV1]; exact hP
  have hD : va_D A (mw ad kk ks.1 V1 L) := by rw [hV1]; exact hD
  have hMV1 : rgd bM V1 := hMV.put hV1 (i_full _)
  have agV1 : agr [(0, 0)] [80] V V1 := agV.up hV1 rfl
  refine lv_iload_n hx hb dX12_candidate_5 rfl (lv_at hl 1 rfl) ?_
  refine lv_if_lt (tgt := 48) hx hb dX12_candidate_6 (by decide) (fun c2 => ?_) (fun c2 => ?_)
  · skip
    have f3 : p0.toInt < 0 := b_lt rfl (by decide) c2
    refine lv_iconst (v := (-1)) hx hb dX12_candidate_48 (by decide) ?_
    have pq4 : (V1 0 95).toInt = ((V 0 95)).toInt := congrArg Int32.toInt (up2_k hV1 (by decide))
    have r5 : 0 ≤ ((V 0 95)).toInt ∧ ((V 0 95)).toInt ≤ 300 := hMV 0 95
    have fz6 : (V 0 95).toInt = 0 := r0.2.2.2.2
    have r07 : RT0 V1 := RT0.ag r0 hMV (show agr [(0, 0)] [] V V1 from (agr.up agr.rf hV1 rfl)) ⟨⟨rfl, fun _ => rfl, fun _ => rfl, fun _ => rfl, fun _ => rfl, fun _ => rfl, fun _ => rfl⟩, by decide, by decide, rfl, rfl, fun _ => rfl, fun _ => rfl, fun _ => rfl⟩ (c0k.ag (show agr [(0, 0)] [] V V1 from (agr.up agr.rf hV1 rfl)) rfl) (by omega)
    exact W.iret (v := (-1)) hx hb hr (fun t ht hW => ⟨⟨(-1), (V1, L), rfl, ⟨hMV1, agV1, rfl, r07⟩, by rw [ht]; exact hP, va_K.moved hW.alike hK, hD⟩, hS.F ht⟩) hS.2.2 dX12_candidate_49
  · skip
    have f8 : 0 ≤ p0.toInt := b_nlt rfl (by decide) c2
    refine lv_iload_n hx hb dX12_candidate_9 rfl (lv_at hl 1 rfl) ?_
    refine lv_aload_n hx hb dX12_candidate_10 rfl (lv_at hl 0 rfl) ?_
    refine va_get (D := D) (ci := 12) (v := .ref (ad 19)) (C := RX12) (T := TX12) (N := 100) hx hb hg inX12 hown hK hP 0 rfl rfl 19 (by decide) (hg _ w1725) (fun _ h9 => h9) rfl dX12_candidate_11 ?_
    refine lv_aload_n hx hb dX12_candidate_14 rfl (lv_at hl 0 rfl) ?_
    refine va_get (D := D) (ci := 12) (v := .int (V1 0 11)) (C := RX12) (T := TX12) (N := 100) hx hb hg inX12 hown hK hP 0 rfl rfl 11 (by decide) (hg _ w1717) (fun _ h9 => h9) rfl dX12_candidate_15 ?_
    refine g_top (v := (V 0 11)) (up2_k hV1 (by decide)) ?_
    have r9 : 0 ≤ ((V 0 11)).toInt ∧ ((V 0 11)).toInt ≤ 1 := hMV 0 11
    refine va_iald (D := D) (i := (V 0 11)) hx hb hK hP 12 11 rfl rfl (i_in (a := ((V 0 11)).toInt) rfl (by first | omega | ((try (have i_r0 := Imp.go r0 (by omega))); omega))) dX12_candidate_18 ?_
    refine g_top (v := (V 19 (Int32.toNatClampNeg (V 0 11)))) (up2_o hV1 (by decide)) ?_
    have r10 : 0 ≤ ((V 19 (Int32.toNatClampNeg (V 0 11)))).toInt ∧ ((V 19 (Int32.toNatClampNeg (V 0 11)))).toInt ≤ 24 := hMV 19 (Int32.toNatClampNeg (V 0 11))
    refine lv_icmp_ge (tgt := 48) hx hb dX12_candidate_19 (by decide) (fun c11 => ?_) (fun c11 => ?_)
    · skip
      have f12 : ((V 19 (Int32.toNatClampNeg (V 0 11)))).toInt ≤ p0.toInt := b_le rfl rfl c11
      refine lv_iconst (v := (-1)) hx hb dX12_candidate_48 (by decide) ?_
      have pq13 : (V1 0 95).toInt = ((V 0 95)).toInt := congrArg Int32.toInt (up2_k hV1 (by decide))
      have r14 : 0 ≤ ((V 0 95)).toInt ∧ ((V 0 95)).toInt ≤ 300 := hMV 0 95
      have fz15 : (V 0 95).toInt = 0 := r0.2.2.2.2
      have r016 : RT0 V1 := RT0.ag r0 hMV (show agr [(0, 0)] [] V V1 from (agr.up agr.rf hV1 rfl)) ⟨⟨rfl, fun _ => rfl, fun _ => rfl, fun _ => rfl, fun _ => rfl, fun _ => rfl, fun _ => rfl⟩, by decide, by decide, rfl, rfl, fun _ => rfl, fun _ => rfl, fun _ => rfl⟩ (c0k.ag (show agr [(0, 0)] [] V V1 from (agr.up agr.rf hV1 rfl)) rfl) (by omega)
      exact W.iret (v := (-1)) hx hb hr (fun t ht hW => ⟨⟨(-1), (V1, L), rfl, ⟨hMV1, agV1, rfl, r016⟩, by rw [ht]; exact hP, va_K.moved hW.alike hK, hD⟩, hS.F ht⟩) hS.2.2 dX12_candidate_49
    · skip
      have f17 : p0.toInt < ((V 19 (Int32.toNatClampNeg (V 0 11)))).toInt := b_nle rfl rfl c11
      refine lv_iload_n hx hb dX12_candidate_22 rfl (lv_at hl 2 rfl) ?_
      refine lv_if_lt (tgt := 48) hx hb dX12_candidate_23 (by decide) (fun c18 => ?_) (fun c18 => ?_)
      · skip
        have f19 : p1.toInt < 0 := b_lt rfl (by decide) c18
        refine lv_iconst (v := (-1)) hx hb dX12_candidate_48 (by decide) ?_
        have pq20 : (V1 0 95).toInt = ((V 0 95)).toInt := congrArg Int32.toInt (up2_k hV1 (by decide))
        have r21 : 0 ≤ ((V 0 95)).toInt ∧ ((V 0 95)).toInt ≤ 300 := hMV 0 95
        have fz22 : (V 0 95).toInt = 0 := r0.2.2.2.2
        have r023 : RT0 V1 := RT0.ag r0 hMV (show agr [(0, 0)] [] V V1 from (agr.up agr.rf hV1 rfl)) ⟨⟨rfl, fun _ => rfl, fun _ => rfl, fun _ => rfl, fun _ => rfl, fun _ => rfl, fun _ => rfl⟩, by decide, by decide, rfl, rfl, fun _ => rfl, fun _ => rfl, fun _ => rfl⟩ (c0k.ag (show agr [(0, 0)] [] V V1 from (agr.up agr.rf hV1 rfl)) rfl) (by omega)
        exact W.iret (v := (-1)) hx hb hr (fun t ht hW => ⟨⟨(-1), (V1, L), rfl, ⟨hMV1, agV1, rfl, r023⟩, by rw [ht]; exact hP, va_K.moved hW.alike hK, hD⟩, hS.F ht⟩) hS.2.2 dX12_candidate_49
      · skip
        have f24 : 0 ≤ p1.toInt := b_nlt rfl (by decide) c18
        refine lv_iload_n hx hb dX12_candidate_26 rfl (lv_at hl 2 rfl) ?_
        refine lv_aload_n hx hb dX12_candidate_27 rfl (lv_at hl 0 rfl) ?_
        refine va_get (D := D) (ci := 12) (v := .ref (ad 27)) (C := RX12) (T := TX12) (N := 100) hx hb hg inX12 hown hK hP 0 rfl rfl 27 (by decide) (hg _ w1733) (fun _ h9 => h9) rfl dX12_candidate_28 ?_
        refine lv_bipush (v := 24) hx hb dX12_candidate_31 (by decide) ?_
        refine lv_aload_n hx hb dX12_candidate_33 rfl (lv_at hl 0 rfl) ?_
        refine va_get (D := D) (ci := 12) (v := .int (V1 0 11)) (C := RX12) (T := TX12) (N := 100) hx hb hg inX12 hown hK hP 0 rfl rfl 11 (by decide) (hg _ w1717) (fun _ h9 => h9) rfl dX12_candidate_34 ?_
        refine g_top (v := (V 0 11)) (up2_k hV1 (by decide)) ?_
        refine lv_imul hx hb dX12_candidate_37 ?_
        refine lv_topi (fun z25 ez25 => ?_)
        have hz25 : z25.toInt = 24 * ((V 0 11)).toInt := i_mul ez25 (by decide) rfl (by omega)
        refine lv_iload_n hx hb dX12_candidate_38 rfl (lv_at hl 1 rfl) ?_
        refine lv_iadd hx hb dX12_candidate_39 ?_
        refine lv_topi (fun z26 ez26 => ?_)
        have hz26 : z26.toInt = z25.toInt + p0.toInt := i_add ez26 rfl rfl (by omega)
        refine va_iald (D := D) (i := z26) hx hb hK hP 20 19 rfl rfl (i_in (a := z26.toInt) rfl (by first | omega | ((try (have i_r0 := Imp.go r0 (by omega))); omega))) dX12_candidate_40 ?_
        refine g_top (v := (V 27 (Int32.toNatClampNeg z26))) (up2_o hV1 (by decide)) ?_
        have r27 : 0 ≤ ((V 27 (Int32.toNatClampNeg z26))).toInt ∧ ((V 27 (Int32.toNatClampNeg z26))).toInt ≤ 8 := hMV 27 (Int32.toNatClampNeg z26)
        refine lv_icmp_ge (tgt := 48) hx hb dX12_candidate_41 (by decide) (fun c28 => ?_) (fun c28 => ?_)
        · skip
          have f29 : ((V 27 (Int32.toNatClampNeg z26))).toInt ≤ p1.toInt := b_le rfl rfl c28
          refine lv_iconst (v := (-1)) hx hb dX12_candidate_48 (by decide) ?_
          have pq30 : (V1 0 95).toInt = ((V 0 95)).toInt := congrArg Int32.toInt (up2_k hV1 (by decide))
          have r31 : 0 ≤ ((V 0 95)).toInt ∧ ((V 0 95)).toInt ≤ 300 := hMV 0 95
          have fz32 : (V 0 95).toInt = 0 := r0.2.2.2.2
          have r033 : RT0 V1 := RT0.ag r0 hMV (show agr [(0, 0)] [] V V1 from (agr.up agr.rf hV1 rfl)) ⟨⟨rfl, fun _ => rfl, fun _ => rfl, fun _ => rfl, fun _ => rfl, fun _ => rfl, fun _ => rfl⟩, by decide, by decide, rfl, rfl, fun _ => rfl, fun _ => rfl, fun _ => rfl⟩ (c0k.ag (show agr [(0, 0)] [] V V1 from (agr.up agr.rf hV1 rfl)) rfl) (by omega)
          exact W.iret (v := (-1)) hx hb hr (fun t ht hW => ⟨⟨(-1), (V1, L), rfl, ⟨hMV1, agV1, rfl, r033⟩, by rw [ht]; exact hP, va_K.moved hW.alike hK, hD⟩, hS.F ht⟩) hS.2.2 dX12_candidate_49
        · skip
          have f34 : p1.toInt < ((V 27 (Int32.toNatClampNeg z26))).toInt := b_nle rfl rfl c28
          refine lv_iload_n hx hb dX12_candidate_44 rfl (lv_at hl 3 rfl) ?_
          refine lv_if_ge (tgt := 50) hx hb dX12_candidate_45 (by decide) (fun c35 => ?_) (fun c35 => ?_)
          · skip
            have f36 : 0 ≤ p2.toInt := b_le (by decide) rfl c35
            refine lv_iload_n hx hb dX12_candidate_50 rfl (lv_at hl 3 rfl) ?_
            refine lv_aload_n hx hb dX12_candidate_51 rfl (lv_at hl 0 rfl) ?_
            refine lv_bipush (v := 8) hx hb dX12_candidate_52 (by decide) ?_
            refine lv_bipush (v := 24) hx hb dX12_candidate_54 (by decide) ?_
            refine lv_aload_n hx hb dX12_candidate_56 rfl (lv_at hl 0 rfl) ?_
            refine va_get (D := D) (ci := 12) (v := .int (V1 0 11)) (C := RX12) (T := TX12) (N := 100) hx hb hg inX12 hown hK hP 0 rfl rfl 11 (by decide) (hg _ w1717) (fun _ h9 => h9) rfl dX12_candidate_57 ?_
            refine g_top (v := (V 0 11)) (up2_k hV1 (by decide)) ?_
            refine lv_imul hx hb dX12_candidate_60 ?_
            refine lv_topi (fun z37 ez37 => ?_)
            have hz37 : z37.toInt = 24 * ((V 0 11)).toInt := i_mul ez37 (by decide) rfl (by omega)
            refine lv_iload_n hx hb dX12_candidate_61 rfl (lv_at hl 1 rfl) ?_
            refine lv_iadd hx hb dX12_candidate_62 ?_
            refine lv_topi (fun z38 ez38 => ?_)
            have hz38 : z38.toInt = z37.toInt + p0.toInt := i_add ez38 rfl rfl (by omega)
            refine lv_imul hx hb dX12_candidate_63 ?_
            refine lv_topi (fun z39 ez39 => ?_)
            have hz39 : z39.toInt = 8 * z38.toInt := i_mul ez39 (by decide) rfl (by omega)
            refine lv_iload_n hx hb dX12_candidate_64 rfl (lv_at hl 2 rfl) ?_
            refine lv_iadd hx hb dX12_candidate_65 ?_
            refine lv_topi (fun z40 ez40 => ?_)
            have hz40 : z40.toInt = z39.toInt + p1.toInt := i_add ez40 rfl rfl (by omega)
            have nb : 0 ≤ (V 0 11).toInt ∧ (V 0 11).toInt ≤ 1 := hMV 0 11
            have kn : (nwh V : Int) = (V 0 11).toInt := i_clamp (x := V 0 11) rfl nb.1
            have kp0 := i_clamp (x := p0) rfl (by omega)
            have kp1 := i_clamp (x := p1) rfl (by omega)
            have kz27 : Int32.toNatClampNeg z26 = 24 * nwh V + Int32.toNatClampNeg p0 := by have h9 := i_clamp (x := z26) rfl (by omega); omega
            have q27 : (V 27 (24 * nwh V + Int32.toNatClampNeg p0)).toInt = (V 27 (Int32.toNatClampNeg z26)).toInt := by rw [kz27]
            have kN : Int32.toNatClampNeg z40 = 8 * (24 * nwh V + Int32.toNatClampNeg p0) + Int32.toNatClampNeg p1 := by have h9 := i_clamp (x := z40) rfl (by omega); omega
            have e19 : (V 19 (nwh V)).toInt = (V 19 (Int32.toNatClampNeg (V 0 11))).toInt := rfl
            have cok := (show TBL V (nwh V) _ from r0.1).1 (Int32.toNatClampNeg p0) (by omega)
            have nt : 0 ≤ (V 28 (Int32.toNatClampNeg z40)).toInt := by rw [kN]; exact (cok.2.2.2 (Int32.toNatClampNeg p1) (by omega)).1
            have pq41 : (V1 28 (Int32.toNatClampNeg z40)).toInt = ((V 28 (Int32.toNatClampNeg z40))).toInt := congrArg Int32.toInt (up2_o hV1 (by decide))
            have r42 : (-1) ≤ ((V 28 (Int32.toNatClampNeg z40))).toInt ∧ ((V 28 (Int32.toNatClampNeg z40))).toInt ≤ 23 := hMV 28 (Int32.toNatClampNeg z40)
            refine gA_int (gA_runV (As := [.int z40]) (rest := [.int p2]) (ci := 12) (q0 := 0) hx hb hml hown hg hP hD hK hS hA hnw hgk (s_candidatesOf2 l D ks H.size ad kk V1 L z40 hMV1 (by first | omega | ((try (have i_r0 := Imp.go r0 (by omega))); omega)) (show 0 ≤ (V1 28 (Int32.toNatClampNeg z40)).toInt from by first | omega | ((try (have i_r0 := Imp.go r0 (by omega))); omega))) w2172 w2174 w119 w172 w2175 rfl rfl hdV_yX12_candidatesOf ⟨Nat.le_of_ble_eq_true rfl, Nat.le_of_ble_eq_true rfl⟩ rfl hl.1 rfl (Nat.le_of_ble_eq_true rfl) dX12_candidate_66 ⟨Nat.le_of_ble_eq_true rfl, Nat.le_of_ble_eq_true rfl⟩) hP hD hK hS hA (fun z43 u44 H locs w45 hP hD hK hS => ?_)
            obtain ⟨V48, L49⟩ := u44
            obtain ⟨hMV48, ajV48, axL49, rgz43, t46, t47⟩ := w45
            have axL49 : L = L49 := Eq.symm axL49
            subst axL49
            have hP : va_P D vwCl (mw ad kk ks.1 V48 L) H := hP
            have hD : va_D A (mw ad kk ks.1 V48 L) := hD
            have hMV48 : rgd bM V48 := hMV48
            have ajV48 : agr [] [80] V1 V48 := ajV48
            have agV48 : agr [(0, 0)] [80] V V48 := agV1.tr ajV48 (by decide) (by decide)
            have rgz43 : 0 ≤ z43.toInt ∧ z43.toInt ≤ 24 := rgz43
            have t46 : ∀ i : Nat, (i : Int) < z43.toInt → th V1 (Int32.toNatClampNeg (V48 80 i)) := t46
            have t47 : c0k V1 V48 := t47
            refine lv_icmp_ge (tgt := 81) hx hb dX12_candidate_69 (by decide) (fun c50 => ?_) (fun c50 => ?_)
            · skip
              have f51 : z43.toInt ≤ p2.toInt := b_le rfl rfl c50
              refine lv_iconst (v := (-1)) hx hb dX12_candidate_81 (by decide) ?_
              have pq52 : (V48 0 95).toInt = ((V 0 95)).toInt := congrArg Int32.toInt ((ajV48 0 95 rfl).trans (up2_k hV1 (by decide)))
              have r53 : 0 ≤ ((V 0 95)).toInt ∧ ((V 0 95)).toInt ≤ 300 := hMV 0 95
              have fz54 : (V 0 95).toInt = 0 := r0.2.2.2.2
              have r055 : RT0 V48 := RT0.ag r0 hMV (show agr [(0, 0)] [80] V V48 from (agr.tr (agr.up agr.rf hV1 rfl) ajV48 (by decide) (by decide))) ⟨⟨rfl, fun _ => rfl, fun _ => rfl, fun _ => rfl, fun _ => rfl, fun _ => rfl, fun _ => rfl⟩, by decide, by decide, rfl, rfl, fun _ => rfl, fun _ => rfl, fun _ => rfl⟩ (c0k.tr (V := V) (W := V1) (X := V48) (c0k.tr (V := V) (W := V) (X := V1) c0k.rf (Or.inl (up2_o hV1 (by decide))) (show agr [] [] V V from agr.rf) ⟨rfl, fun _ => rfl, fun _ => rfl, fun _ => rfl, fun _ => rfl, fun _ => rfl, fun _ => rfl⟩) t47 (show agr [(0, 0)] [] V V1 from (agr.up agr.rf hV1 rfl)) ⟨rfl, fun _ => rfl, fun _ => rfl, fun _ => rfl, fun _ => rfl, fun _ => rfl, fun _ => rfl⟩) (by omega)
              exact W.iret (v := (-1)) hx hb hr (fun t ht hW => ⟨⟨(-1), (V48, L), rfl, ⟨hMV48, agV48, rfl, r055⟩, by rw [ht]; exact hP, va_K.moved hW.alike hK, hD⟩, hS.F ht⟩) hS.2.2 dX12_candidate_82
            · skip
              have f56 : p2.toInt < z43.toInt := b_nle rfl rfl c50
              refine lv_aload_n hx hb dX12_candidate_72 rfl (lv_at hl 0 rfl) ?_
              refine va_get (D := D) (ci := 12) (v := .ref (ad 80)) (C := RX12) (T := TX12) (N := 100) hx hb hg inX12 hown hK hP 0 rfl rfl 80 (by decide) (hg _ w1786) (fun _ h9 => h9) rfl dX12_candidate_73 ?_
              refine lv_iload_n hx hb dX12_candidate_76 rfl (lv_at hl 3 rfl) ?_
              refine va_iald (D := D) (i := p2) hx hb hK hP 57 56 rfl rfl (i_in (a := p2.toInt) rfl (by first | omega | ((try (have i_r0 := Imp.go r0 (by omega))); omega))) dX12_candidate_77 ?_
              have r57 : 0 ≤ ((V48 80 (Int32.toNatClampNeg p2))).toInt ∧ ((V48 80 (Int32.toNatClampNeg p2))).toInt ≤ 23 := hMV48 80 (Int32.toNatClampNeg p2)
              refine lv_goto (tgt := 82) hx hb dX12_candidate_78 (by decide) ?_
              have pq58 : (V48 0 95).toInt = ((V 0 95)).toInt := congrArg Int32.toInt ((ajV48 0 95 rfl).trans (up2_k hV1 (by decide)))
              have r59 : 0 ≤ ((V 0 95)).toInt ∧ ((V 0 95)).toInt ≤ 300 := hMV 0 95
              have fz60 : (V 0 95).toInt = 0 := r0.2.2.2.2
              have r061 : RT0 V48 := RT0.ag r0 hMV (show agr [(0, 0)] [80] V V48 from (agr.tr (agr.up agr.rf hV1 rfl) ajV48 (by decide) (by decide))) ⟨⟨rfl, fun _ => rfl, fun _ => rfl, fun _ => rfl, fun _ => rfl, fun _ => rfl, fun _ => rfl⟩, by decide, by decide, rfl, rfl, fun _ => rfl, fun _ => rfl, fun _ => rfl⟩ (c0k.tr (V := V) (W := V1) (X := V48) (c0k.tr (V := V) (W := V) (X := V1) c0k.rf (Or.inl (up2_o hV1 (by decide))) (show agr [] [] V V from agr.rf) ⟨rfl, fun _ => rfl, fun _ => rfl, fun _ => rfl, fun _ => rfl, fun _ => rfl, fun _ => rfl⟩) t47 (show agr [(0, 0)] [] V V1 from (agr.up agr.rf hV1 rfl)) ⟨rfl, fun _ => rfl, fun _ => rfl, fun _ => rfl, fun _ => rfl, fun _ => rfl, fun _ => rfl⟩) (by omega)
              exact W.iret (v := (V48 80 (Int32.toNatClampNeg p2))) hx hb hr (fun t ht hW => ⟨⟨(V48 80 (Int32.toNatClampNeg p2)), (V48, L), rfl, ⟨hMV48, agV48, rfl, r061⟩, by rw [ht]; exact hP, va_K.moved hW.alike hK, hD⟩, hS.F ht⟩) hS.2.2 dX12_candidate_82
          · skip
            have f62 : p2.toInt < 0 := b_nle (by decide) rfl c35
            refine lv_iconst (v := (-1)) hx hb dX12_candidate_48 (by decide) ?_
            have pq63 : (V1 0 95).toInt = ((V 0 95)).toInt := congrArg Int32.toInt (up2_k hV1 (by decide))
            have r64 : 0 ≤ ((V 0 95)).toInt ∧ ((V 0 95)).toInt ≤ 300 := hMV 0 95
            have fz65 : (V 0 95).toInt = 0 := r0.2.2.2.2
            have r066 : RT0 V1 := RT0.ag r0 hMV (show agr [(0, 0)] [] V V1 from (agr.up agr.rf hV1 rfl)) ⟨⟨rfl, fun _ => rfl, fun _ => rfl, fun _ => rfl, fun _ => rfl, fun _ => rfl, fun _ => rfl⟩, by decide, by decide, rfl, rfl, fun _ => rfl, fun _ => rfl, fun _ => rfl⟩ (c0k.ag (show agr [(0, 0)] [] V V1 from (agr.up agr.rf hV1 rfl)) rfl) (by omega)
            exact W.iret (v := (-1)) hx hb hr (fun t ht hW => ⟨⟨(-1), (V1, L), rfl, ⟨hMV1, agV1, rfl, r066⟩, by rw [ht]; exact hP, va_K.moved hW.alike hK, hD⟩, hS.F ht⟩) hS.2.2 dX12_candidate_49
abbrev r_s_setting2 : Room := { frames := 0, cells := 0, slots := 0, locals := 0 }
abbrev q_s_setting2 (D : va_G) (ks : KS) (ad : Nat → Nat) (kk : Nat → ClassId) (V : Vf) (L : Lf) (p0 : Int32) (p1 : Int32) (A : Nat → Prop) : Array Value → State → Outcome → State → Prop := va_Qi (fun (r : Int32) (u : Vf × Lf) => rgd bM u.1 ∧ agr [(0, 0)] [18] V u.1 ∧ u.2 = L ∧ (0 ≤ r.toInt ∧ r.toInt ≤ 1) ∧ (RT0 u.1)) (fun u t => gq D A (mw ad kk ks.1 u.1 u.2) (mty kk) t) A
set_option maxHeartbeats 4000000 in
set_option maxRecDepth 100000 in
theorem s_setting2 (l : Launch) (D : va_G) (ks : KS) (sz : Nat) (ad : Nat → Nat) (kk : Nat → ClassId) (V : Vf) (L : Lf) (p0 : Int32) (p1 : Int32) (hMV : rgd bM V) (r0 : RT0 V)  : Met l yX12_setting (Cond.code yX12_setting cX12_setting 3 (some .boolean) :: GW) r_s_setting2 (va_Pc [.ref (ad 0), .int p0, .int p1] (gp D ks (mw ad kk ks.1 V L) (mty kk) sz)) (q_s_setting2 D ks ad kk V L p0 p1 (va_A (mw ad kk ks.1 V L) sz)) 0 0 (va_A (mw ad kk ks.1 V L) sz) := by
  refine g_met (q_s_setting2 D ks ad kk V L p0 p1) (by decide) (Nat.le_of_ble_eq_true rfl) ?_
  intro p e s m below meth c A ls H locs hx hb hr hml hown hg hlocks hin hnw hgk hP hK hD hS hA hl
  have hown : s.vm.findClass RX12 = some m.cls := hown
  have hl : lv_has ls 3 [(0, .ref (ad 0)), (1, .int p0), (2, .int p1)] := hl
  have hP : va_P D vwCl (mw ad kk ks.1 V L) H := hP
  have hD : va_D A (mw ad kk ks.1 V L) := hD
  have hK : va_K D vwCl (mty kk) s := hK
  have agV : agr [(0, 0)] [18] V V := agr.rf
  refine lv_aload_n hx hb dX12_setting_0 rfl (lv_at hl 0 rfl) ?_
  refine lv_iconst (v := 0) hx hb dX12_setting_1 (by decide) ?_
  refine va_put (D := D) (ci := 12) (v := .int 0) (ty := tyX12 0) (C := RX12) (T := TX12) (N := 100) hx hb hg inX12 tyX12 tyX12_ok nmX12 hown hK hP hD hS 0 rfl rfl 0 (by decide) (hg _ w1706) (fun _ h9 => h9) rfl (tyX12_ok 0 (by decide)) rfl rfl (Nat.le_of_ble_eq_true rfl) dX12_setting_2 (fun H locs hP hD hS => ?_)
  obtain ⟨V1, hV1⟩ : ∃ z, z = up2 V 0 0 0 := ⟨_, rfl⟩
  have hP : va_P D vwCl (mw ad kk ks.1 V1 L) H := by rw [hV1]; exact hP
  have hD : va_D A (mw ad kk ks.1 V1 L) := by rw [hV1]; exact hD
  have hMV1 : rgd bM V1 := hMV.put hV1 (i_full _)
  have agV1 : agr [(0, 0)] [18] V V1 := agV.up hV1 rfl
  refine lv_iload_n hx hb dX12_setting_5 rfl (lv_at hl 1 rfl) ?_
  refine lv_if_lt (tgt := 29) hx hb dX12_setting_6 (by decide) (fun c2 => ?_) (fun c2 => ?_)
  · skip
    have f3 : p0.toInt < 0 := b_lt rfl (by decide) c2
    refine lv_iconst (v := 0) hx hb dX12_setting_29 (by decide) ?_
    have pq4 : (V1 0 95).toInt = ((V 0 95)).toInt := congrArg Int32.toInt (up2_k hV1 (by decide))
    have r5 : 0 ≤ ((V 0 95)).toInt ∧ ((V 0 95)).toInt ≤ 300 := hMV 0 95
    have fz6 : (V 0 95).toInt = 0 := r0.2.2.2.2
    have r07 : RT0 V1 := RT0.ag r0 hMV (show agr [(0, 0)] [] V V1 from (agr.up agr.rf hV1 rfl)) ⟨⟨rfl, fun _ => rfl, fun _ => rfl, fun _ => rfl, fun _ => rfl, fun _ => rfl, fun _ => rfl⟩, by decide, by decide, rfl, rfl, fun _ => rfl, fun _ => rfl, fun _ => rfl⟩ (c0k.ag (show agr [(0, 0)] [] V V1 from (agr.up agr.rf hV1 rfl)) rfl) (by omega)
    exact W.zret (v := 0) hx hb hr rfl (fun t ht hW => ⟨⟨0, (V1, L), rfl, ⟨hMV1, agV1, rfl, (by decide), r07⟩, by rw [ht]; exact hP, va_K.moved hW.alike hK, hD⟩, hS.F ht⟩) hS.2.2 dX12_setting_30
  · skip
    have f8 : 0 ≤ p0.toInt := b_nlt rfl (by decide) c2
    refine lv_iload_n hx hb dX12_setting_9 rfl (lv_at hl 1 rfl) ?_
    refine lv_aload_n hx hb dX12_setting_10 rfl (lv_at hl 0 rfl) ?_
    refine va_get (D := D) (ci := 12) (v := .ref (ad 16)) (C := RX12) (T := TX12) (N := 100) hx hb hg inX12 hown hK hP 0 rfl rfl 16 (by decide) (hg _ w1722) (fun _ h9 => h9) rfl dX12_setting_11 ?_
    refine lv_aload_n hx hb dX12_setting_14 rfl (lv_at hl 0 rfl) ?_
    refine va_get (D := D) (ci := 12) (v := .int (V1 0 11)) (C := RX12) (T := TX12) (N := 100) hx hb hg inX12 hown hK hP 0 rfl rfl 11 (by decide) (hg _ w1717) (fun _ h9 => h9) rfl dX12_setting_15 ?_
    refine g_top (v := (V 0 11)) (up2_k hV1 (by decide)) ?_
    have r9 : 0 ≤ ((V 0 11)).toInt ∧ ((V 0 11)).toInt ≤ 1 := hMV 0 11
    refine va_iald (D := D) (i := (V 0 11)) hx hb hK hP 9 8 rfl rfl (i_in (a := ((V 0 11)).toInt) rfl (by first | omega | ((try (have i_r0 := Imp.go r0 (by omega))); omega))) dX12_setting_18 ?_
    refine g_top (v := (V 16 (Int32.toNatClampNeg (V 0 11)))) (up2_o hV1 (by decide)) ?_
    have r10 : 0 ≤ ((V 16 (Int32.toNatClampNeg (V 0 11)))).toInt ∧ ((V 16 (Int32.toNatClampNeg (V 0 11)))).toInt ≤ 12 := hMV 16 (Int32.toNatClampNeg (V 0 11))
    refine lv_icmp_ge (tgt := 29) hx hb dX12_setting_19 (by decide) (fun c11 => ?_) (fun c11 => ?_)
    · skip
      have f12 : ((V 16 (Int32.toNatClampNeg (V 0 11)))).toInt ≤ p0.toInt := b_le rfl rfl c11
      refine lv_iconst (v := 0) hx hb dX12_setting_29 (by decide) ?_
      have pq13 : (V1 0 95).toInt = ((V 0 95)).toInt := congrArg Int32.toInt (up2_k hV1 (by decide))
      have r14 : 0 ≤ ((V 0 95)).toInt ∧ ((V 0 95)).toInt ≤ 300 := hMV 0 95
      have fz15 : (V 0 95).toInt = 0 := r0.2.2.2.2
      have r016 : RT0 V1 := RT0.ag r0 hMV (show agr [(0, 0)] [] V V1 from (agr.up agr.rf hV1 rfl)) ⟨⟨rfl, fun _ => rfl, fun _ => rfl, fun _ => rfl, fun _ => rfl, fun _ => rfl, fun _ => rfl⟩, by decide, by decide, rfl, rfl, fun _ => rfl, fun _ => rfl, fun _ => rfl⟩ (c0k.ag (show agr [(0, 0)] [] V V1 from (agr.up agr.rf hV1 rfl)) rfl) (by omega)
      exact W.zret (v := 0) hx hb hr rfl (fun t ht hW => ⟨⟨0, (V1, L), rfl, ⟨hMV1, agV1, rfl, (by decide), r016⟩, by rw [ht]; exact hP, va_K.moved hW.alike hK, hD⟩, hS.F ht⟩) hS.2.2 dX12_setting_30
    · skip
      have f17 : p0.toInt < ((V 16 (Int32.toNatClampNeg (V 0 11)))).toInt := b_nle rfl rfl c11
      refine lv_aload_n hx hb dX12_setting_22 rfl (lv_at hl 0 rfl) ?_
      refine va_get (D := D) (ci := 12) (v := .int (V1 0 54)) (C := RX12) (T := TX12) (N := 100) hx hb hg inX12 hown hK hP 0 rfl rfl 54 (by decide) (hg _ w1760) (fun _ h9 => h9) rfl dX12_setting_23 ?_
      refine g_top (v := (V 0 54)) (up2_k hV1 (by decide)) ?_
      have r18 : 0 ≤ ((V 0 54)).toInt ∧ ((V 0 54)).toInt ≤ 1 := hMV 0 54
      refine lv_if_eq (tgt := 31) hx hb dX12_setting_26 (by decide) (fun c19 => ?_) (fun c19 => ?_)
      · skip
        have f20 : ((V 0 54)).toInt = 0 := b_eq rfl (by decide) c19
        refine lv_aload_n hx hb dX12_setting_31 rfl (lv_at hl 0 rfl) ?_
        refine va_get (D := D) (ci := 12) (v := .ref (ad 18)) (C := RX12) (T := TX12) (N := 100) hx hb hg inX12 hown hK hP 0 rfl rfl 18 (by decide) (hg _ w1724) (fun _ h9 => h9) rfl dX12_setting_32 ?_
        refine lv_bipush (v := 12) hx hb dX12_setting_35 (by decide) ?_
        refine lv_aload_n hx hb dX12_setting_37 rfl (lv_at hl 0 rfl) ?_
        refine va_get (D := D) (ci := 12) (v := .int (V1 0 11)) (C := RX12) (T := TX12) (N := 100) hx hb hg inX12 hown hK hP 0 rfl rfl 11 (by decide) (hg _ w1717) (fun _ h9 => h9) rfl dX12_setting_38 ?_
        refine g_top (v := (V 0 11)) (up2_k hV1 (by decide)) ?_
        refine lv_imul hx hb dX12_setting_41 ?_
        refine lv_topi (fun z21 ez21 => ?_)
        have hz21 : z21.toInt = 12 * ((V 0 11)).toInt := i_mul ez21 (by decide) rfl (by omega)
        refine lv_iload_n hx hb dX12_setting_42 rfl (lv_at hl 1 rfl) ?_
        refine lv_iadd hx hb dX12_setting_43 ?_
        refine lv_topi (fun z22 ez22 => ?_)
        have hz22 : z22.toInt = z21.toInt + p0.toInt := i_add ez22 rfl rfl (by omega)
        refine lv_iload_n hx hb dX12_setting_44 rfl (lv_at hl 2 rfl) ?_
        refine va_iast (D := D) (i := z22) (x := p1) hx hb hK hP hD hS 11 10 rfl rfl (i_in (a := z22.toInt) rfl (by first | omega | ((try (have i_r0 := Imp.go r0 (by omega))); omega))) dX12_setting_45 (fun H locs hP hD hS => ?_)
        obtain ⟨V23, hV23⟩ : ∃ z, z = up2 V1 18 (Int32.toNatClampNeg z22) p1 := ⟨_, rfl⟩
        have hP : va_P D vwCl (mw ad kk ks.1 V23 L) H := by rw [hV23]; exact hP
        have hD : va_D A (mw ad kk ks.1 V23 L) := by rw [hV23]; exact hD
        have hMV23 : rgd bM V23 := hMV1.put hV23 (i_full _)
        have agV23 : agr [(0, 0)] [18] V V23 := agV1.up hV23 rfl
        refine lv_iconst (v := 1) hx hb dX12_setting_46 (by decide) ?_
        have pq24 : (V1 0 95).toInt = ((V 0 95)).toInt := congrArg Int32.toInt (up2_k hV1 (by decide))
        have r25 : 0 ≤ ((V 0 95)).toInt ∧ ((V 0 95)).toInt ≤ 300 := hMV 0 95
        have fz26 : (V 0 95).toInt = 0 := r0.2.2.2.2
        have r027 : RT0 V1 := RT0.ag r0 hMV (show agr [(0, 0)] [] V V1 from (agr.up agr.rf hV1 rfl)) ⟨⟨rfl, fun _ => rfl, fun _ => rfl, fun _ => rfl, fun _ => rfl, fun _ => rfl, fun _ => rfl⟩, by decide, by decide, rfl, rfl, fun _ => rfl, fun _ => rfl, fun _ => rfl⟩ (c0k.ag (show agr [(0, 0)] [] V V1 from (agr.up agr.rf hV1 rfl)) rfl) (by omega)
        have pq28 : (V1 0 54).toInt = ((V 0 54)).toInt := congrArg Int32.toInt (up2_k hV1 (by decide))
        have r029 : RT0 V23 := RT0.set r027 hMV1 (by omega) hV23
        exact W.zret (v := 1) hx hb hr rfl (fun t ht hW => ⟨⟨1, (V23, L), rfl, ⟨hMV23, agV23, rfl, (by decide), r029⟩, by rw [ht]; exact hP, va_K.moved hW.alike hK, hD⟩, hS.F ht⟩) hS.2.2 dX12_setting_47
      · skip
        have f30 : ((V 0 54)).toInt ≠ 0 := b_neq rfl (by decide) c19
        refine lv_iconst (v := 0) hx hb dX12_setting_29 (by decide) ?_
        have pq31 : (V1 0 95).toInt = ((V 0 95)).toInt := congrArg Int32.toInt (up2_k hV1 (by decide))
        have r32 : 0 ≤ ((V 0 95)).toInt ∧ ((V 0 95)).toInt ≤ 300 := hMV 0 95
        have fz33 : (V 0 95).toInt = 0 := r0.2.2.2.2
        have r034 : RT0 V1 := RT0.ag r0 hMV (show agr [(0, 0)] [] V V1 from (agr.up agr.rf hV1 rfl)) ⟨⟨rfl, fun _ => rfl, fun _ => rfl, fun _ => rfl, fun _ => rfl, fun _ => rfl, fun _ => rfl⟩, by decide, by decide, rfl, rfl, fun _ => rfl, fun _ => rfl, fun _ => rfl⟩ (c0k.ag (show agr [(0, 0)] [] V V1 from (agr.up agr.rf hV1 rfl)) rfl) (by omega)
        exact W.zret (v := 0) hx hb hr rfl (fun t ht hW => ⟨⟨0, (V1, L), rfl, ⟨hMV1, agV1, rfl, (by decide), r034⟩, by rw [ht]; exact hP, va_K.moved hW.alike hK, hD⟩, hS.F ht⟩) hS.2.2 dX12_setting_30
theorem ti_feed {V W : Vf} {n : Nat} (h : TI V n) (hM : rgd bM V) (a : agr [(0, 0), (0, 2)] [1] V W) : TI W (n + 1) := TI.ag h (RT0.ag h.1 hM a ⟨⟨rfl, fun _ => rfl, fun _ => rfl, fun _ => rfl, fun _ => rfl, fun _ => rfl, fun _ => rfl⟩, by decide, by decide, rfl, rfl, fun _ => rfl, fun _ => rfl, fun _ => rfl⟩ (c0k.ag a rfl) (by rw [a 0 95 rfl]; exact h.1.2.2.2.2)) a rfl rfl rfl rfl rfl
theorem ti_named {V W : Vf} {n : Nat} (h : TI V n) (hM : rgd bM V) (a : agr [(0, 0), (0, 2), (0, 3), (0, 7), (0, 8)] [4, 5, 6] V W) : TI W (n + 1) := TI.ag h (RT0.ag h.1 hM a ⟨⟨rfl, fun _ => rfl, fun _ => rfl, fun _ => rfl, fun _ => rfl, fun _ => rfl, fun _ => rfl⟩, by decide, by decide, rfl, rfl, fun _ => rfl, fun _ => rfl, fun _ => rfl⟩ (c0k.ag a rfl) (by rw [a 0 95 rfl]; exact h.1.2.2.2.2)) a rfl rfl rfl rfl rfl
theorem ti_fault {V W : Vf} {n : Nat} (h : TI V n) (hM : rgd bM V) (a : agr [(0, 0)] [] V W) : TI W (n + 1) := TI.ag h (RT0.ag h.1 hM a ⟨⟨rfl, fun _ => rfl, fun _ => rfl, fun _ => rfl, fun _ => rfl, fun _ => rfl, fun _ => rfl⟩, by decide, by decide, rfl, rfl, fun _ => rfl, fun _ => rfl, fun _ => rfl⟩ (c0k.ag a rfl) (by rw [a 0 95 rfl]; exact h.1.2.2.2.2)) a rfl rfl rfl rfl rfl
theorem ti_cycle {V W : Vf} {n : Nat} (h : TI V n) (hM : rgd bM V) (a : agr [(0, 0)] [] V W) : TI W (n + 1) := TI.ag h (RT0.ag h.1 hM a ⟨⟨rfl, fun _ => rfl, fun _ => rfl, fun _ => rfl, fun _ => rfl, fun _ => rfl, fun _ => rfl⟩, by decide, by decide, rfl, rfl, fun _ => rfl, fun _ => rfl, fun _ => rfl⟩ (c0k.ag a rfl) (by rw [a 0 95 rfl]; exact h.1.2.2.2.2)) a rfl rfl rfl rfl rfl
theorem ti_component {V W : Vf} {n : Nat} (h : TI V n) (hM : rgd bM V) (a : agr [(0, 0)] [] V W) : TI W (n + 1) := TI.ag h (RT0.ag h.1 hM a ⟨⟨rfl, fun _ => rfl, fun _ => rfl, fun _ => rfl, fun _ => rfl, fun _ => rfl, fun _ => rfl⟩, by decide, by decide, rfl, rfl, fun _ => rfl, fun _ => rfl, fun _ => rfl⟩ (c0k.ag a rfl) (by rw [a 0 95 rfl]; exact h.1.2.2.2.2)) a rfl rfl rfl rfl rfl
theorem ti_day {V W : Vf} {n : Nat} (h : TI V n) (hM : rgd bM V) (a : agr [(0, 0), (0, 55)] [56, 57, 58, 59] V W) : TI W (n + 1) := TI.ag h (RT0.ag h.1 hM a ⟨⟨rfl, fun _ => rfl, fun _ => rfl, fun _ => rfl, fun _ => rfl, fun _ => rfl, fun _ => rfl⟩, by decide, by decide, rfl, rfl, fun _ => rfl, fun _ => rfl, fun _ => rfl⟩ (c0k.ag a rfl) (by rw [a 0 95 rfl]; exact h.1.2.2.2.2)) a rfl rfl rfl rfl rfl
theorem ti_meal {V W : Vf} {n : Nat} (h : TI V n) (hM : rgd bM V) (a : agr [(0, 0), (0, 55)] [56, 57, 58, 59] V W) : TI W (n + 1) := TI.ag h (RT0.ag h.1 hM a ⟨⟨rfl, fun _ => rfl, fun _ => rfl, fun _ => rfl, fun _ => rfl, fun _ => rfl, fun _ => rfl⟩, by decide, by decide, rfl, rfl, fun _ => rfl, fun _ => rfl, fun _ => rfl⟩ (c0k.ag a rfl) (by rw [a 0 95 rfl]; exact h.1.2.2.2.2)) a rfl rfl rfl rfl rfl
theorem ti_outcome {V W : Vf} {n : Nat} (h : TI V n) (hM : rgd bM V) (a : agr [(0, 0)] [] V W) : TI W (n + 1) := TI.ag h (RT0.ag h.1 hM a ⟨⟨rfl, fun _ => rfl, fun _ => rfl, fun _ => rfl, fun _ => rfl, fun _ => rfl, fun _ => rfl⟩, by decide, by decide, rfl, rfl, fun _ => rfl, fun _ => rfl, fun _ => rfl⟩ (c0k.ag a rfl) (by rw [a 0 95 rfl]; exact h.1.2.2.2.2)) a rfl rfl rfl rfl rfl
theorem ti_cause {V W : Vf} {n : Nat} (h : TI V n) (hM : rgd bM V) (a : agr [(0, 0)] [] V W) : TI W (n + 1) := TI.ag h (RT0.ag h.1 hM a ⟨⟨rfl, fun _ => rfl, fun _ => rfl, fun _ => rfl, fun _ => rfl, fun _ => rfl, fun _ => rfl⟩, by decide, by decide, rfl, rfl, fun _ => rfl, fun _ => rfl, fun _ => rfl⟩ (c0k.ag a rfl) (by rw [a 0 95 rfl]; exact h.1.2.2.2.2)) a rfl rfl rfl rfl rfl
theorem ti_object {V W : Vf} {n : Nat} (h : TI V n) (hM : rgd bM V) (a : agr [(0, 0)] [] V W) : TI W (n + 1) := TI.ag h (RT0.ag h.1 hM a ⟨⟨rfl, fun _ => rfl, fun _ => rfl, fun _ => rfl, fun _ => rfl, fun _ => rfl, fun _ => rfl⟩, by decide, by decide, rfl, rfl, fun _ => rfl, fun _ => rfl, fun _ => rfl⟩ (c0k.ag a rfl) (by rw [a 0 95 rfl]; exact h.1.2.2.2.2)) a rfl rfl rfl rfl rfl
theorem ti_joined {V W : Vf} {n : Nat} (h : TI V n) (hM : rgd bM V) (a : agr [(0, 0)] [] V W) : TI W (n + 1) := TI.ag h (RT0.ag h.1 hM a ⟨⟨rfl, fun _ => rfl, fun _ => rfl, fun _ => rfl, fun _ => rfl, fun _ => rfl, fun _ => rfl⟩, by decide, by decide, rfl, rfl, fun _ => rfl, fun _ => rfl, fun _ => rfl⟩ (c0k.ag a rfl) (by rw [a 0 95 rfl]; exact h.1.2.2.2.2)) a rfl rfl rfl rfl rfl
theorem ti_closed {V W : Vf} {n : Nat} (h : TI V n) (hM : rgd bM V) (a : agr [(0, 0)] [] V W) : TI W (n + 1) := TI.ag h (RT0.ag h.1 hM a ⟨⟨rfl, fun _ => rfl, fun _ => rfl, fun _ => rfl, fun _ => rfl, fun _ => rfl, fun _ => rfl⟩, by decide, by decide, rfl, rfl, fun _ => rfl, fun _ => rfl, fun _ => rfl⟩ (c0k.ag a rfl) (by rw [a 0 95 rfl]; exact h.1.2.2.2.2)) a rfl rfl rfl rfl rfl
theorem ti_spoiled {V W : Vf} {n : Nat} (h : TI V n) (hM : rgd bM V) (a : agr [(0, 0)] [] V W) : TI W (n + 1) := TI.ag h (RT0.ag h.1 hM a ⟨⟨rfl, fun _ => rfl, fun _ => rfl, fun _ => rfl, fun _ => rfl, fun _ => rfl, fun _ => rfl⟩, by decide, by decide, rfl, rfl, fun _ => rfl, fun _ => rfl, fun _ => rfl⟩ (c0k.ag a rfl) (by rw [a 0 95 rfl]; exact h.1.2.2.2.2)) a rfl rfl rfl rfl rfl
theorem ti_did {V W : Vf} {n : Nat} (h : TI V n) (hM : rgd bM V) (a : agr [(0, 0)] [] V W) : TI W (n + 1) := TI.ag h (RT0.ag h.1 hM a ⟨⟨rfl, fun _ => rfl, fun _ => rfl, fun _ => rfl, fun _ => rfl, fun _ => rfl, fun _ => rfl⟩, by decide, by decide, rfl, rfl, fun _ => rfl, fun _ => rfl, fun _ => rfl⟩ (c0k.ag a rfl) (by rw [a 0 95 rfl]; exact h.1.2.2.2.2)) a rfl rfl rfl rfl rfl
theorem ti_count {V W : Vf} {n : Nat} (h : TI V n) (hM : rgd bM V) (a : agr [(0, 0)] [] V W) : TI W (n + 1) := TI.ag h (RT0.ag h.1 hM a ⟨⟨rfl, fun _ => rfl, fun _ => rfl, fun _ => rfl, fun _ => rfl, fun _ => rfl, fun _ => rfl⟩, by decide, by decide, rfl, rfl, fun _ => rfl, fun _ => rfl, fun _ => rfl⟩ (c0k.ag a rfl) (by rw [a 0 95 rfl]; exact h.1.2.2.2.2)) a rfl rfl rfl rfl rfl
theorem ti_setting {V W : Vf} {n : Nat} (h : TI V n) (hM : rgd bM V) (a : agr [(0, 0)] [18] V W) (r : RT0 W) : TI W (n + 1) := TI.ag h r a rfl rfl rfl rfl rfl
theorem ti_candidate {V W : Vf} {n : Nat} (h : TI V n) (hM : rgd bM V) (a : agr [(0, 0)] [80] V W) (r : RT0 W) : TI W (n + 1) := TI.ag h r a rfl rfl rfl rfl rfl
theorem ti_check {V W : Vf} {n : Nat} (h : TI V n) (hM : rgd bM V) (a : agr [(0, 0), (0, 54), (0, 81), (0, 89)] [80, 82, 83, 84, 85, 86, 87, 88] V W) (rd : RD W) (ry : Imp ((V 0 54).toInt = 1) ((W 0 54).toInt = 1)) : TI W (n + 1) := TI.ag h (RT0.chk h.1 hM a ⟨rfl, fun _ => rfl, fun _ => rfl, fun _ => rfl, fun _ => rfl, fun _ => rfl, fun _ => rfl⟩ (by decide) (by decide) rfl rfl (fun _ => rfl) (fun _ => rfl) (fun _ => rfl) rd (fun q => Imp.go ry q)) a rfl rfl rfl rfl rfl
theorem ti_book {V W : Vf} {n : Nat} (h : TI V n) (hM : rgd bM V) (hW : rgd bM W) {nx : Nat} {r : Int} (hr : 0 ≤ r) (hnx : (nx : Int) = 1 - (V 0 11).toInt) (a : agr [(0, 0), (0, 2), (0, 3), (0, 7), (0, 8), (0, 11), (0, 12), (0, 48), (0, 49), (0, 50), (0, 51), (0, 52), (0, 54), (0, 55), (0, 60), (0, 65), (0, 69), (0, 70), (0, 71), (0, 72), (0, 73), (0, 76), (0, 81)] [4, 5, 6, 13, 14, 15, 16, 17, 18, 19, 20, 21, 22, 23, 24, 25, 26, 27, 28, 29, 30, 31, 32, 33, 34, 35, 36, 37, 38, 39, 40, 41, 42, 43, 44, 45, 46, 47, 53, 56, 57, 59] V W) (f : fr (tH nx) V W) (t : TB W) (ok : Imp (r = 0) ((W 0 60).toInt = 0 ∧ (W 0 54).toInt = 0 ∧ (W 0 65).toInt = 0 ∧ (W 0 73).toInt = 0 ∧ (W 0 76).toInt = 0)) (no : Imp (1 ≤ r) (agr [(0, 0), (0, 2), (0, 3), (0, 7), (0, 8), (0, 12), (0, 48), (0, 49), (0, 50), (0, 51), (0, 52)] [4, 5, 6, 13, 14, 15, 16, 17, 18, 19, 20, 21, 22, 23, 24, 25, 26, 27, 28, 29, 30, 31, 32, 33, 34, 35, 36, 37, 38, 39, 40, 41, 42, 43, 44, 45, 46, 47, 53] V W)) : TI W (n + 1) := by
  have nb : 0 ≤ (V 0 11).toInt ∧ (V 0 11).toInt ≤ 1 := hM 0 11
  have kn : (nwh V : Int) = (V 0 11).toInt := i_clamp (x := V 0 11) rfl nb.1
  rcases Decidable.em (r = 0) with q | q
  · have o := Imp.go ok q
    have l0 : 0 ≤ (W 0 69).toInt := (hW 0 69).1
    refine ⟨RT0.none t o.2.1 o.1 (by rw [a 0 95 rfl]; exact h.1.2.2.2.2), ?_, ?_, ?_⟩ <;> omega
  · have b := Imp.go no (by omega)
    exact TI.ag h (RT0.bkf h.1 hM hW b f (by omega) t rfl rfl rfl rfl rfl (fun _ => rfl) (fun _ => rfl) (fun _ => rfl)) b rfl rfl rfl rfl rfl
theorem ti_get {V W : Vf} {n : Nat} (h : TI V n) (hM : rgd bM V) (r : RT0 W) (q1 : (W 0 65).toInt ≤ (W 0 60).toInt) (q2 : (W 0 73).toInt - (W 0 65).toInt ≤ (V 0 73).toInt - (V 0 65).toInt + 300) (q3 : (W 0 76).toInt - (W 0 69).toInt - (W 0 73).toInt ≤ (V 0 76).toInt - (V 0 69).toInt - (V 0 73).toInt + 3000) : TI W (n + 1) := by
  have b := h.2
  refine ⟨r, q1, ?_, ?_⟩ <;> omega
